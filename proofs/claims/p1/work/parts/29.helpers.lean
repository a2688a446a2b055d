def rm_kL10_router : Room := { frames := 8, cells := 1, slots := 6, locals := 125 }
set_option maxHeartbeats 4000000 in
set_option maxRecDepth 100000 in
theorem kL10_router (l : Launch) (hst : l.stackTraces = false) (dC : Nat → ClassId) (dI : Nat → Nat → Nat) (kB kI kJ kZ kC kS : ClassId) (sz : Nat) (h0 : Nat) (xa1 : Nat) (xa3 : Nat) (xa15 : Nat) (xa27 : Nat) (xa28 : Nat) (xa33 : Nat) (xa38 : Nat) (xa41 : Nat) (xa45 : Nat) (xa46 : Nat) (xa47 : Nat) (xa52 : Nat) (xa54 : Nat) (xa55 : Nat) (xa60 : Nat) (xa62 : Nat) (xa67 : Nat) (xa4 : Nat) (xa5 : Nat) (xa6 : Nat) (xa7 : Nat) (xa8 : Nat) (xa9 : Nat) (xa10 : Nat) (xa11 : Nat) (xa12 : Nat) (xa13 : Nat) (xa14 : Nat) (p0 : Int32) (p1 : Int32) (ou : Nat) (fo : Nat → Int64) : Met l yL_router wsL_router rm_kL10_router (va_Pc [.ref h0, .int p0, .int p1, .ref ou] (fun U => U.heap.size = sz ∧ va_P (dC, dI) vwCl [(h0, .inr (10, [.ref xa1, .ref xa3, .ref xa15, .ref xa27, .ref xa28, .ref xa33, .ref xa38, .ref xa41, .ref xa45, .ref xa46, .ref xa47, .ref xa52, .ref xa54, .int 0, .ref xa55, .ref xa60, .ref xa62, .ref xa67, .int (-1)])), (xa3, .inr (2, [.ref xa4, .ref xa5, .ref xa6, .ref xa7, .ref xa8, .ref xa9, .ref xa10, .int 0, .int 0, .int 0, .int 5, .ref xa11, .ref xa12, .ref xa13, .ref xa14])), (ou, .inl (kJ, 1, .inr (.inl fo)))] U.heap ∧ kE dC dI kB kI kJ kZ kC kS U ∧ va_D (fun _ => True) [(h0, .inr (10, [.ref xa1, .ref xa3, .ref xa15, .ref xa27, .ref xa28, .ref xa33, .ref xa38, .ref xa41, .ref xa45, .ref xa46, .ref xa47, .ref xa52, .ref xa54, .int 0, .ref xa55, .ref xa60, .ref xa62, .ref xa67, .int (-1)])), (xa3, .inr (2, [.ref xa4, .ref xa5, .ref xa6, .ref xa7, .ref xa8, .ref xa9, .ref xa10, .int 0, .int 0, .int 0, .int 5, .ref xa11, .ref xa12, .ref xa13, .ref xa14])), (ou, .inl (kJ, 1, .inr (.inl fo)))] ∧ kX U ∧ kT (va_A [(h0, .inr (10, [.ref xa1, .ref xa3, .ref xa15, .ref xa27, .ref xa28, .ref xa33, .ref xa38, .ref xa41, .ref xa45, .ref xa46, .ref xa47, .ref xa52, .ref xa54, .int 0, .ref xa55, .ref xa60, .ref xa62, .ref xa67, .int (-1)])), (xa3, .inr (2, [.ref xa4, .ref xa5, .ref xa6, .ref xa7, .ref xa8, .ref xa9, .ref xa10, .int 0, .int 0, .int 0, .int 5, .ref xa11, .ref xa12, .ref xa13, .ref xa14])), (ou, .inl (kJ, 1, .inr (.inl fo)))] sz) U)) (va_Qi (fun (r : Int32) (_ : Unit) => r = 1) (fun _ t => va_P (dC, dI) vwCl [(ou, .inl (kJ, 1, .inr (.inl fo)))] t.heap ∧ va_D (va_A [(h0, .inr (10, [.ref xa1, .ref xa3, .ref xa15, .ref xa27, .ref xa28, .ref xa33, .ref xa38, .ref xa41, .ref xa45, .ref xa46, .ref xa47, .ref xa52, .ref xa54, .int 0, .ref xa55, .ref xa60, .ref xa62, .ref xa67, .int (-1)])), (xa3, .inr (2, [.ref xa4, .ref xa5, .ref xa6, .ref xa7, .ref xa8, .ref xa9, .ref xa10, .int 0, .int 0, .int 0, .int 5, .ref xa11, .ref xa12, .ref xa13, .ref xa14])), (ou, .inl (kJ, 1, .inr (.inl fo)))] sz) [(ou, .inl (kJ, 1, .inr (.inl fo)))]) (va_A [(h0, .inr (10, [.ref xa1, .ref xa3, .ref xa15, .ref xa27, .ref xa28, .ref xa33, .ref xa38, .ref xa41, .ref xa45, .ref xa46, .ref xa47, .ref xa52, .ref xa54, .int 0, .ref xa55, .ref xa60, .ref xa62, .ref xa67, .int (-1)])), (xa3, .inr (2, [.ref xa4, .ref xa5, .ref xa6, .ref xa7, .ref xa8, .ref xa9, .ref xa10, .int 0, .int 0, .int 0, .int 5, .ref xa11, .ref xa12, .ref xa13, .ref xa14])), (ou, .inl (kJ, 1, .inr (.inl fo)))] sz)) 1 6 (va_A [(h0, .inr (10, [.ref xa1, .ref xa3, .ref xa15, .ref xa27, .ref xa28, .ref xa33, .ref xa38, .ref xa41, .ref xa45, .ref xa46, .ref xa47, .ref xa52, .ref xa54, .int 0, .ref xa55, .ref xa60, .ref xa62, .ref xa67, .int (-1)])), (xa3, .inr (2, [.ref xa4, .ref xa5, .ref xa6, .ref xa7, .ref xa8, .ref xa9, .ref xa10, .int 0, .int 0, .int 0, .int 5, .ref xa11, .ref xa12, .ref xa13, .ref xa14])), (ou, .inl (kJ, 1, .inr (.inl fo)))] sz) := by
  refine va_MetW (cc := cL_router) (maxL := 5) (ret := (some .int)) (by decide) rfl ?_
  intro p e s m args0 below meth c s₁ B hml hv
  obtain ⟨hargs, hsz, hP, hE, hD0, hXs, hT⟩ := hv
  have hx := B.exec
  have hb := B.bytes
  have hr := B.returns
  have hts := atoms_spec (ws := wsL_router) B.pre
  have hown : s.vm.findClass RL = some m.cls := findClass_of_methodNamed B.named
  have hlocks := B.notSynchronized
  have hK := hE.1
  have hin10 : ∀ w ∈ wsX100, w ∈ wsL_router := fun _ h9 => List.mem_cons_of_mem _ (List.mem_append_left _ (List.mem_append_left _ (List.mem_append_left _ (List.mem_append_right _ h9))))
  have hin2 : ∀ w ∈ wsX20, w ∈ wsL_router := fun _ h9 => List.mem_cons_of_mem _ (List.mem_append_left _ (List.mem_append_left _ (List.mem_append_right _ h9)))
  have hin0 : ∀ w ∈ wsX00, w ∈ wsL_router := fun _ h9 => List.mem_cons_of_mem _ (List.mem_append_left _ (List.mem_append_right _ h9))
  subst hsz
  have hD := hD0.self (sz := s.heap.size)
  generalize hAe : va_A [(h0, .inr (10, [.ref xa1, .ref xa3, .ref xa15, .ref xa27, .ref xa28, .ref xa33, .ref xa38, .ref xa41, .ref xa45, .ref xa46, .ref xa47, .ref xa52, .ref xa54, .int 0, .ref xa55, .ref xa60, .ref xa62, .ref xa67, .int (-1)])), (xa3, .inr (2, [.ref xa4, .ref xa5, .ref xa6, .ref xa7, .ref xa8, .ref xa9, .ref xa10, .int 0, .int 0, .int 0, .int 5, .ref xa11, .ref xa12, .ref xa13, .ref xa14])), (ou, .inl (kJ, 1, .inr (.inl fo)))] s.heap.size = A at hD hT ⊢
  have hA : ∀ q : Nat, s.heap.size ≤ q → A q := fun q h => by rw [← hAe]; exact Or.inr h
  have hS : va_S A s.heap s.heap [] := va_S.rf
  have hP : va_P (dC, dI) vwCl [(h0, .inr (10, [.ref xa1, .ref xa3, .ref xa15, .ref xa27, .ref xa28, .ref xa33, .ref xa38, .ref xa41, .ref xa45, .ref xa46, .ref xa47, .ref xa52, .ref xa54, .int 0, .ref xa55, .ref xa60, .ref xa62, .ref xa67, .int (-1)])), (xa3, .inr (2, [.ref xa4, .ref xa5, .ref xa6, .ref xa7, .ref xa8, .ref xa9, .ref xa10, .int 0, .int 0, .int 0, .int 5, .ref xa11, .ref xa12, .ref xa13, .ref xa14])), (ou, .inl (kJ, 1, .inr (.inl fo)))] s.heap := hP
  have hl := lv_entry ([.ref h0, .int p0, .int p1, .ref ou]) (n := 5) (Nat.le_of_ble_eq_true rfl)
  have hla : entryFrame m args0 5 = entryFrame m ([.ref h0, .int p0, .int p1, .ref ou] : List Value).toArray 5 := by rw [hargs]
  rw [hla, lg_entry_eq]
  generalize (lg_sl ([.ref h0, .int p0, .int p1, .ref ou]) ++ List.replicate (5 - (lg_sl ([.ref h0, .int p0, .int p1, .ref ou])).length) Slot.unset).toArray = ls at hl ⊢
  have hl : lv_has ls 5 [(0, .ref h0), (1, .int p0), (2, .int p1), (3, .ref ou)] := hl
  refine lv_aload_n hx hb dL_router_0 rfl (lv_at hl 3 rfl) ?_
  refine lv_iconst (v := 0) hx hb dL_router_1 (by decide) ?_
  refine lv_aload_n hx hb dL_router_2 rfl (lv_at hl 0 rfl) ?_
  refine lv_iload_n hx hb dL_router_3 rfl (lv_at hl 1 rfl) ?_
  refine lv_iload_n hx hb dL_router_4 rfl (lv_at hl 2 rfl) ?_
  have hPc := hP.sub (ws' := [(h0, .inr (10, [.ref xa1, .ref xa3, .ref xa15, .ref xa27, .ref xa28, .ref xa33, .ref xa38, .ref xa41, .ref xa45, .ref xa46, .ref xa47, .ref xa52, .ref xa54, .int 0, .ref xa55, .ref xa60, .ref xa62, .ref xa67, .int (-1)])), (xa3, .inr (2, [.ref xa4, .ref xa5, .ref xa6, .ref xa7, .ref xa8, .ref xa9, .ref xa10, .int 0, .int 0, .int 0, .int 5, .ref xa11, .ref xa12, .ref xa13, .ref xa14]))]) [0, 1] rfl
  have hDc := hD.sub (ws' := [(h0, .inr (10, [.ref xa1, .ref xa3, .ref xa15, .ref xa27, .ref xa28, .ref xa33, .ref xa38, .ref xa41, .ref xa45, .ref xa46, .ref xa47, .ref xa52, .ref xa54, .int 0, .ref xa55, .ref xa60, .ref xa62, .ref xa67, .int (-1)])), (xa3, .inr (2, [.ref xa4, .ref xa5, .ref xa6, .ref xa7, .ref xa8, .ref xa9, .ref xa10, .int 0, .int 0, .int 0, .int 5, .ref xa11, .ref xa12, .ref xa13, .ref xa14]))]) [0, 1] (by decide) rfl
  have hFc := va_free (wc := [(h0, .inr (10, [.ref xa1, .ref xa3, .ref xa15, .ref xa27, .ref xa28, .ref xa33, .ref xa38, .ref xa41, .ref xa45, .ref xa46, .ref xa47, .ref xa52, .ref xa54, .int 0, .ref xa55, .ref xa60, .ref xa62, .ref xa67, .int (-1)])), (xa3, .inr (2, [.ref xa4, .ref xa5, .ref xa6, .ref xa7, .ref xa8, .ref xa9, .ref xa10, .int 0, .int 0, .int 0, .int 5, .ref xa11, .ref xa12, .ref xa13, .ref xa14]))]) hD hS hA [0, 1] rfl
  refine vx_calli (vx_runV (As := [.int p0, .int p1]) (rest := [.int 0, .ref ou]) ⟨hx, hb, hml, hown, hts⟩ (k10_router l hst dC dI kB kI kJ kZ kC kS s.heap.size h0 xa1 xa3 xa15 xa27 xa28 xa33 xa38 xa41 xa45 xa46 xa47 xa52 xa54 xa55 xa60 xa62 xa67 xa4 xa5 xa6 xa7 xa8 xa9 xa10 xa11 xa12 xa13 xa14 p0 p1) (cwV 2 hts gL_router_X10_router rfl rfl rfl (by decide +kernel) ⟨Nat.le_of_ble_eq_true rfl, Nat.le_of_ble_eq_true rfl⟩) ⟨fun a U g mk q => by obtain ⟨q0, q1, qP, qE, qD, qX, qT⟩ := q; exact ⟨q0, q1, qP, kE_call qE, qD, kX_call qX, kT_call qT⟩, va_recv hK hP (ci := 10) (q0 := 0) rfl rfl, fun U hU hW => ⟨rfl, by rw [hU], by rw [hU]; exact hPc, kE_warm hW hE, hDc.weaken (fun _ _ _ _ => trivial), kX_warm hW hXs, kT_at hT hS hFc hW hU⟩⟩ rfl rfl hl.1 rfl (lv_room (Nat.le_of_ble_eq_true rfl)) dL_router_5 ⟨Nat.le_of_ble_eq_true rfl, Nat.le_of_ble_eq_true rfl⟩) hS (fun q _ h => hFc q h) hFc (fun q _ h => hFc q h) (fun E ce q9 u t H1 locs ht hvm hpx hBX hz1 hk1 hS hc9 hv9 hcl9 => ?_) (fun r1 u t H1 locs ht hvm w2 hB hz1 hk1 hS => ?_)
  · subst hBX
    have hP1 : va_P (dC, dI) vwCl [] H1 := fun k q h => by simp at h
    have hD1 : va_D (va_A [(h0, .inr (10, [.ref xa1, .ref xa3, .ref xa15, .ref xa27, .ref xa28, .ref xa33, .ref xa38, .ref xa41, .ref xa45, .ref xa46, .ref xa47, .ref xa52, .ref xa54, .int 0, .ref xa55, .ref xa60, .ref xa62, .ref xa67, .int (-1)])), (xa3, .inr (2, [.ref xa4, .ref xa5, .ref xa6, .ref xa7, .ref xa8, .ref xa9, .ref xa10, .int 0, .int 0, .int 0, .int 5, .ref xa11, .ref xa12, .ref xa13, .ref xa14]))] s.heap.size) [] := ⟨fun i j p q h => by simp at h, fun k q h => by simp at h⟩
    obtain ⟨hP, hD⟩ := va_join (wr := [(ou, .inl (kJ, 1, .inr (.inl fo)))]) (w1 := []) hP hD [0, 1] [2] rfl rfl (by decide) (by decide) hk1 hFc hP1 hD1
    generalize H1 = H at hP hS hc9 ⊢
    have hP : va_P (dC, dI) vwCl [(ou, .inl (kJ, 1, .inr (.inl fo)))] H := hP
    have hD : va_D A [(ou, .inl (kJ, 1, .inr (.inl fo)))] := hD
    have htab := vx_table B (hts (.codeWith yL_router cL_router 5 (some .int) [(0, 10, 13, 18)]) (List.mem_of_getElem? (i := 0) (by decide +kernel)))
    refine vx_catch (name := "java/util/NoSuchElementException") hown [] ⟨0, 10, 13, 18⟩ [] (htab.trans rfl) (fun z h => absurd h List.not_mem_nil) rfl (by decide) (hts (.classLink RL 18 "java/util/NoSuchElementException") (List.mem_of_getElem? (i := 1) (by decide +kernel))) (va_Nw.use rfl hXs.1) hc9 hv9 hcl9 ?_
    refine W.widen (k := 1) (n := 6) (Nat.le_of_ble_eq_true rfl) (Nat.le_of_ble_eq_true rfl) ?_
    refine W.eq (g2 := F0 m 13 ls [.ref q9]) rfl ?_
    refine lv_astore (lv' := [(4, .ref q9), (0, .ref h0), (1, .int p0), (2, .int p1), (3, .ref ou)]) hx hb dL_router_13 hl (by decide) rfl (fun ls hl => ?_)
    refine lv_iconst (v := 1) hx hb dL_router_15 (by decide) ?_
    have hP9 := hP.sub (ws' := [(ou, .inl (kJ, 1, .inr (.inl fo)))]) [0] rfl
    have hD9 := hD.sub (ws' := [(ou, .inl (kJ, 1, .inr (.inl fo)))]) [0] (by decide) rfl
    exact W.iret (v := 1) hx hb hr (fun t ht hW => ⟨⟨1, (), rfl, rfl, by rw [ht]; exact hP9, hD9⟩, hS.F ht⟩) hS.2.2 dL_router_16
  · exact w2.elim
def rm_kL10_link : Room := { frames := 8, cells := 1, slots := 6, locals := 125 }
set_option maxHeartbeats 4000000 in
set_option maxRecDepth 100000 in
theorem kL10_link (l : Launch) (hst : l.stackTraces = false) (dC : Nat → ClassId) (dI : Nat → Nat → Nat) (kB kI kJ kZ kC kS : ClassId) (sz : Nat) (h0 : Nat) (xa1 : Nat) (xa3 : Nat) (xa15 : Nat) (xa27 : Nat) (xa28 : Nat) (xa33 : Nat) (xa38 : Nat) (xa41 : Nat) (xa45 : Nat) (xa46 : Nat) (xa47 : Nat) (xa52 : Nat) (xa54 : Nat) (xa55 : Nat) (xa60 : Nat) (xa62 : Nat) (xa67 : Nat) (xa4 : Nat) (xa5 : Nat) (xa6 : Nat) (xa7 : Nat) (xa8 : Nat) (xa9 : Nat) (xa10 : Nat) (xa11 : Nat) (xa12 : Nat) (xa13 : Nat) (xa14 : Nat) (p0 : Int32) (p1 : Int32) (ou : Nat) (fo : Nat → Int64) : Met l yL_link wsL_link rm_kL10_link (va_Pc [.ref h0, .int p0, .int p1, .ref ou] (fun U => U.heap.size = sz ∧ va_P (dC, dI) vwCl [(h0, .inr (10, [.ref xa1, .ref xa3, .ref xa15, .ref xa27, .ref xa28, .ref xa33, .ref xa38, .ref xa41, .ref xa45, .ref xa46, .ref xa47, .ref xa52, .ref xa54, .int 0, .ref xa55, .ref xa60, .ref xa62, .ref xa67, .int (-1)])), (xa3, .inr (2, [.ref xa4, .ref xa5, .ref xa6, .ref xa7, .ref xa8, .ref xa9, .ref xa10, .int 0, .int 0, .int 0, .int 5, .ref xa11, .ref xa12, .ref xa13, .ref xa14])), (ou, .inl (kJ, 1, .inr (.inl fo)))] U.heap ∧ kE dC dI kB kI kJ kZ kC kS U ∧ va_D (fun _ => True) [(h0, .inr (10, [.ref xa1, .ref xa3, .ref xa15, .ref xa27, .ref xa28, .ref xa33, .ref xa38, .ref xa41, .ref xa45, .ref xa46, .ref xa47, .ref xa52, .ref xa54, .int 0, .ref xa55, .ref xa60, .ref xa62, .ref xa67, .int (-1)])), (xa3, .inr (2, [.ref xa4, .ref xa5, .ref xa6, .ref xa7, .ref xa8, .ref xa9, .ref xa10, .int 0, .int 0, .int 0, .int 5, .ref xa11, .ref xa12, .ref xa13, .ref xa14])), (ou, .inl (kJ, 1, .inr (.inl fo)))] ∧ kX U ∧ kT (va_A [(h0, .inr (10, [.ref xa1, .ref xa3, .ref xa15, .ref xa27, .ref xa28, .ref xa33, .ref xa38, .ref xa41, .ref xa45, .ref xa46, .ref xa47, .ref xa52, .ref xa54, .int 0, .ref xa55, .ref xa60, .ref xa62, .ref xa67, .int (-1)])), (xa3, .inr (2, [.ref xa4, .ref xa5, .ref xa6, .ref xa7, .ref xa8, .ref xa9, .ref xa10, .int 0, .int 0, .int 0, .int 5, .ref xa11, .ref xa12, .ref xa13, .ref xa14])), (ou, .inl (kJ, 1, .inr (.inl fo)))] sz) U)) (va_Qi (fun (r : Int32) (_ : Unit) => r = 1) (fun _ t => va_P (dC, dI) vwCl [(ou, .inl (kJ, 1, .inr (.inl fo)))] t.heap ∧ va_D (va_A [(h0, .inr (10, [.ref xa1, .ref xa3, .ref xa15, .ref xa27, .ref xa28, .ref xa33, .ref xa38, .ref xa41, .ref xa45, .ref xa46, .ref xa47, .ref xa52, .ref xa54, .int 0, .ref xa55, .ref xa60, .ref xa62, .ref xa67, .int (-1)])), (xa3, .inr (2, [.ref xa4, .ref xa5, .ref xa6, .ref xa7, .ref xa8, .ref xa9, .ref xa10, .int 0, .int 0, .int 0, .int 5, .ref xa11, .ref xa12, .ref xa13, .ref xa14])), (ou, .inl (kJ, 1, .inr (.inl fo)))] sz) [(ou, .inl (kJ, 1, .inr (.inl fo)))]) (va_A [(h0, .inr (10, [.ref xa1, .ref xa3, .ref xa15, .ref xa27, .ref xa28, .ref xa33, .ref xa38, .ref xa41, .ref xa45, .ref xa46, .ref xa47, .ref xa52, .ref xa54, .int 0, .ref xa55, .ref xa60, .ref xa62, .ref xa67, .int (-1)])), (xa3, .inr (2, [.ref xa4, .ref xa5, .ref xa6, .ref xa7, .ref xa8, .ref xa9, .ref xa10, .int 0, .int 0, .int 0, .int 5, .ref xa11, .ref xa12, .ref xa13, .ref xa14])), (ou, .inl (kJ, 1, .inr (.inl fo)))] sz)) 1 6 (va_A [(h0, .inr (10, [.ref xa1, .ref xa3, .ref xa15, .ref xa27, .ref xa28, .ref xa33, .ref xa38, .ref xa41, .ref xa45, .ref xa46, .ref xa47, .ref xa52, .ref xa54, .int 0, .ref xa55, .ref xa60, .ref xa62, .ref xa67, .int (-1)])), (xa3, .inr (2, [.ref xa4, .ref xa5, .ref xa6, .ref xa7, .ref xa8, .ref xa9, .ref xa10, .int 0, .int 0, .int 0, .int 5, .ref xa11, .ref xa12, .ref xa13, .ref xa14])), (ou, .inl (kJ, 1, .inr (.inl fo)))] sz) := by
  refine va_MetW (cc := cL_link) (maxL := 5) (ret := (some .int)) (by decide) rfl ?_
  intro p e s m args0 below meth c s₁ B hml hv
  obtain ⟨hargs, hsz, hP, hE, hD0, hXs, hT⟩ := hv
  have hx := B.exec
  have hb := B.bytes
  have hr := B.returns
  have hts := atoms_spec (ws := wsL_link) B.pre
  have hown : s.vm.findClass RL = some m.cls := findClass_of_methodNamed B.named
  have hlocks := B.notSynchronized
  have hK := hE.1
  have hin10 : ∀ w ∈ wsX100, w ∈ wsL_link := fun _ h9 => List.mem_cons_of_mem _ (List.mem_append_left _ (List.mem_append_left _ (List.mem_append_right _ h9)))
  have hin2 : ∀ w ∈ wsX20, w ∈ wsL_link := fun _ h9 => List.mem_cons_of_mem _ (List.mem_append_left _ (List.mem_append_right _ h9))
  subst hsz
  have hD := hD0.self (sz := s.heap.size)
  generalize hAe : va_A [(h0, .inr (10, [.ref xa1, .ref xa3, .ref xa15, .ref xa27, .ref xa28, .ref xa33, .ref xa38, .ref xa41, .ref xa45, .ref xa46, .ref xa47, .ref xa52, .ref xa54, .int 0, .ref xa55, .ref xa60, .ref xa62, .ref xa67, .int (-1)])), (xa3, .inr (2, [.ref xa4, .ref xa5, .ref xa6, .ref xa7, .ref xa8, .ref xa9, .ref xa10, .int 0, .int 0, .int 0, .int 5, .ref xa11, .ref xa12, .ref xa13, .ref xa14])), (ou, .inl (kJ, 1, .inr (.inl fo)))] s.heap.size = A at hD hT ⊢
  have hA : ∀ q : Nat, s.heap.size ≤ q → A q := fun q h => by rw [← hAe]; exact Or.inr h
  have hS : va_S A s.heap s.heap [] := va_S.rf
  have hP : va_P (dC, dI) vwCl [(h0, .inr (10, [.ref xa1, .ref xa3, .ref xa15, .ref xa27, .ref xa28, .ref xa33, .ref xa38, .ref xa41, .ref xa45, .ref xa46, .ref xa47, .ref xa52, .ref xa54, .int 0, .ref xa55, .ref xa60, .ref xa62, .ref xa67, .int (-1)])), (xa3, .inr (2, [.ref xa4, .ref xa5, .ref xa6, .ref xa7, .ref xa8, .ref xa9, .ref xa10, .int 0, .int 0, .int 0, .int 5, .ref xa11, .ref xa12, .ref xa13, .ref xa14])), (ou, .inl (kJ, 1, .inr (.inl fo)))] s.heap := hP
  have hl := lv_entry ([.ref h0, .int p0, .int p1, .ref ou]) (n := 5) (Nat.le_of_ble_eq_true rfl)
  have hla : entryFrame m args0 5 = entryFrame m ([.ref h0, .int p0, .int p1, .ref ou] : List Value).toArray 5 := by rw [hargs]
  rw [hla, lg_entry_eq]
  generalize (lg_sl ([.ref h0, .int p0, .int p1, .ref ou]) ++ List.replicate (5 - (lg_sl ([.ref h0, .int p0, .int p1, .ref ou])).length) Slot.unset).toArray = ls at hl ⊢
  have hl : lv_has ls 5 [(0, .ref h0), (1, .int p0), (2, .int p1), (3, .ref ou)] := hl
  refine lv_aload_n hx hb dL_link_0 rfl (lv_at hl 3 rfl) ?_
  refine lv_iconst (v := 0) hx hb dL_link_1 (by decide) ?_
  refine lv_aload_n hx hb dL_link_2 rfl (lv_at hl 0 rfl) ?_
  refine lv_iload_n hx hb dL_link_3 rfl (lv_at hl 1 rfl) ?_
  refine lv_iload_n hx hb dL_link_4 rfl (lv_at hl 2 rfl) ?_
  have hPc := hP.sub (ws' := [(h0, .inr (10, [.ref xa1, .ref xa3, .ref xa15, .ref xa27, .ref xa28, .ref xa33, .ref xa38, .ref xa41, .ref xa45, .ref xa46, .ref xa47, .ref xa52, .ref xa54, .int 0, .ref xa55, .ref xa60, .ref xa62, .ref xa67, .int (-1)])), (xa3, .inr (2, [.ref xa4, .ref xa5, .ref xa6, .ref xa7, .ref xa8, .ref xa9, .ref xa10, .int 0, .int 0, .int 0, .int 5, .ref xa11, .ref xa12, .ref xa13, .ref xa14]))]) [0, 1] rfl
  have hDc := hD.sub (ws' := [(h0, .inr (10, [.ref xa1, .ref xa3, .ref xa15, .ref xa27, .ref xa28, .ref xa33, .ref xa38, .ref xa41, .ref xa45, .ref xa46, .ref xa47, .ref xa52, .ref xa54, .int 0, .ref xa55, .ref xa60, .ref xa62, .ref xa67, .int (-1)])), (xa3, .inr (2, [.ref xa4, .ref xa5, .ref xa6, .ref xa7, .ref xa8, .ref xa9, .ref xa10, .int 0, .int 0, .int 0, .int 5, .ref xa11, .ref xa12, .ref xa13, .ref xa14]))]) [0, 1] (by decide) rfl
  have hFc := va_free (wc := [(h0, .inr (10, [.ref xa1, .ref xa3, .ref xa15, .ref xa27, .ref xa28, .ref xa33, .ref xa38, .ref xa41, .ref xa45, .ref xa46, .ref xa47, .ref xa52, .ref xa54, .int 0, .ref xa55, .ref xa60, .ref xa62, .ref xa67, .int (-1)])), (xa3, .inr (2, [.ref xa4, .ref xa5, .ref xa6, .ref xa7, .ref xa8, .ref xa9, .ref xa10, .int 0, .int 0, .int 0, .int 5, .ref xa11, .ref xa12, .ref xa13, .ref xa14]))]) hD hS hA [0, 1] rfl
  refine vx_calli (vx_runV (As := [.int p0, .int p1]) (rest := [.int 0, .ref ou]) ⟨hx, hb, hml, hown, hts⟩ (k10_link l hst dC dI kB kI kJ kZ kC kS s.heap.size h0 xa1 xa3 xa15 xa27 xa28 xa33 xa38 xa41 xa45 xa46 xa47 xa52 xa54 xa55 xa60 xa62 xa67 xa4 xa5 xa6 xa7 xa8 xa9 xa10 xa11 xa12 xa13 xa14 p0 p1) (cwV 2 hts gL_link_X10_link rfl rfl rfl (by decide +kernel) ⟨Nat.le_of_ble_eq_true rfl, Nat.le_of_ble_eq_true rfl⟩) ⟨fun a U g mk q => by obtain ⟨q0, q1, qP, qE, qD, qX, qT⟩ := q; exact ⟨q0, q1, qP, kE_call qE, qD, kX_call qX, kT_call qT⟩, va_recv hK hP (ci := 10) (q0 := 0) rfl rfl, fun U hU hW => ⟨rfl, by rw [hU], by rw [hU]; exact hPc, kE_warm hW hE, hDc.weaken (fun _ _ _ _ => trivial), kX_warm hW hXs, kT_at hT hS hFc hW hU⟩⟩ rfl rfl hl.1 rfl (lv_room (Nat.le_of_ble_eq_true rfl)) dL_link_5 ⟨Nat.le_of_ble_eq_true rfl, Nat.le_of_ble_eq_true rfl⟩) hS (fun q _ h => hFc q h) hFc (fun q _ h => hFc q h) (fun E ce q9 u t H1 locs ht hvm hpx hBX hz1 hk1 hS hc9 hv9 hcl9 => ?_) (fun r1 u t H1 locs ht hvm w2 hB hz1 hk1 hS => ?_)
  · subst hBX
    have hP1 : va_P (dC, dI) vwCl [] H1 := fun k q h => by simp at h
    have hD1 : va_D (va_A [(h0, .inr (10, [.ref xa1, .ref xa3, .ref xa15, .ref xa27, .ref xa28, .ref xa33, .ref xa38, .ref xa41, .ref xa45, .ref xa46, .ref xa47, .ref xa52, .ref xa54, .int 0, .ref xa55, .ref xa60, .ref xa62, .ref xa67, .int (-1)])), (xa3, .inr (2, [.ref xa4, .ref xa5, .ref xa6, .ref xa7, .ref xa8, .ref xa9, .ref xa10, .int 0, .int 0, .int 0, .int 5, .ref xa11, .ref xa12, .ref xa13, .ref xa14]))] s.heap.size) [] := ⟨fun i j p q h => by simp at h, fun k q h => by simp at h⟩
    obtain ⟨hP, hD⟩ := va_join (wr := [(ou, .inl (kJ, 1, .inr (.inl fo)))]) (w1 := []) hP hD [0, 1] [2] rfl rfl (by decide) (by decide) hk1 hFc hP1 hD1
    generalize H1 = H at hP hS hc9 ⊢
    have hP : va_P (dC, dI) vwCl [(ou, .inl (kJ, 1, .inr (.inl fo)))] H := hP
    have hD : va_D A [(ou, .inl (kJ, 1, .inr (.inl fo)))] := hD
    have htab := vx_table B (hts (.codeWith yL_link cL_link 5 (some .int) [(0, 10, 13, 18)]) (List.mem_of_getElem? (i := 0) (by decide +kernel)))
    refine vx_catch (name := "java/util/NoSuchElementException") hown [] ⟨0, 10, 13, 18⟩ [] (htab.trans rfl) (fun z h => absurd h List.not_mem_nil) rfl (by decide) (hts (.classLink RL 18 "java/util/NoSuchElementException") (List.mem_of_getElem? (i := 1) (by decide +kernel))) (va_Nw.use rfl hXs.1) hc9 hv9 hcl9 ?_
    refine W.widen (k := 1) (n := 6) (Nat.le_of_ble_eq_true rfl) (Nat.le_of_ble_eq_true rfl) ?_
    refine W.eq (g2 := F0 m 13 ls [.ref q9]) rfl ?_
    refine lv_astore (lv' := [(4, .ref q9), (0, .ref h0), (1, .int p0), (2, .int p1), (3, .ref ou)]) hx hb dL_link_13 hl (by decide) rfl (fun ls hl => ?_)
    refine lv_iconst (v := 1) hx hb dL_link_15 (by decide) ?_
    have hP9 := hP.sub (ws' := [(ou, .inl (kJ, 1, .inr (.inl fo)))]) [0] rfl
    have hD9 := hD.sub (ws' := [(ou, .inl (kJ, 1, .inr (.inl fo)))]) [0] (by decide) rfl
    exact W.iret (v := 1) hx hb hr (fun t ht hW => ⟨⟨1, (), rfl, rfl, by rw [ht]; exact hP9, hD9⟩, hS.F ht⟩) hS.2.2 dL_link_16
  · exact w2.elim
def rm_kL10_hop : Room := { frames := 8, cells := 1, slots := 6, locals := 126 }
set_option maxHeartbeats 4000000 in
set_option maxRecDepth 100000 in
theorem kL10_hop (l : Launch) (hst : l.stackTraces = false) (dC : Nat → ClassId) (dI : Nat → Nat → Nat) (kB kI kJ kZ kC kS : ClassId) (sz : Nat) (h0 : Nat) (xa1 : Nat) (xa3 : Nat) (xa15 : Nat) (xa27 : Nat) (xa28 : Nat) (xa33 : Nat) (xa38 : Nat) (xa41 : Nat) (xa45 : Nat) (xa46 : Nat) (xa47 : Nat) (xa52 : Nat) (xa54 : Nat) (xa55 : Nat) (xa60 : Nat) (xa62 : Nat) (xa67 : Nat) (xa4 : Nat) (xa5 : Nat) (xa6 : Nat) (xa7 : Nat) (xa8 : Nat) (xa9 : Nat) (xa10 : Nat) (xa11 : Nat) (xa12 : Nat) (xa13 : Nat) (xa14 : Nat) (p0 : Int32) (p1 : Int32) (p2 : Int32) (ou : Nat) (fo : Nat → Int64) : Met l yL_hop wsL_hop rm_kL10_hop (va_Pc [.ref h0, .int p0, .int p1, .int p2, .ref ou] (fun U => U.heap.size = sz ∧ va_P (dC, dI) vwCl [(h0, .inr (10, [.ref xa1, .ref xa3, .ref xa15, .ref xa27, .ref xa28, .ref xa33, .ref xa38, .ref xa41, .ref xa45, .ref xa46, .ref xa47, .ref xa52, .ref xa54, .int 0, .ref xa55, .ref xa60, .ref xa62, .ref xa67, .int (-1)])), (xa3, .inr (2, [.ref xa4, .ref xa5, .ref xa6, .ref xa7, .ref xa8, .ref xa9, .ref xa10, .int 0, .int 0, .int 0, .int 5, .ref xa11, .ref xa12, .ref xa13, .ref xa14])), (ou, .inl (kJ, 1, .inr (.inl fo)))] U.heap ∧ kE dC dI kB kI kJ kZ kC kS U ∧ va_D (fun _ => True) [(h0, .inr (10, [.ref xa1, .ref xa3, .ref xa15, .ref xa27, .ref xa28, .ref xa33, .ref xa38, .ref xa41, .ref xa45, .ref xa46, .ref xa47, .ref xa52, .ref xa54, .int 0, .ref xa55, .ref xa60, .ref xa62, .ref xa67, .int (-1)])), (xa3, .inr (2, [.ref xa4, .ref xa5, .ref xa6, .ref xa7, .ref xa8, .ref xa9, .ref xa10, .int 0, .int 0, .int 0, .int 5, .ref xa11, .ref xa12, .ref xa13, .ref xa14])), (ou, .inl (kJ, 1, .inr (.inl fo)))] ∧ kX U ∧ kT (va_A [(h0, .inr (10, [.ref xa1, .ref xa3, .ref xa15, .ref xa27, .ref xa28, .ref xa33, .ref xa38, .ref xa41, .ref xa45, .ref xa46, .ref xa47, .ref xa52, .ref xa54, .int 0, .ref xa55, .ref xa60, .ref xa62, .ref xa67, .int (-1)])), (xa3, .inr (2, [.ref xa4, .ref xa5, .ref xa6, .ref xa7, .ref xa8, .ref xa9, .ref xa10, .int 0, .int 0, .int 0, .int 5, .ref xa11, .ref xa12, .ref xa13, .ref xa14])), (ou, .inl (kJ, 1, .inr (.inl fo)))] sz) U)) (va_Qi (fun (r : Int32) (_ : Unit) => r = 1) (fun _ t => va_P (dC, dI) vwCl [(ou, .inl (kJ, 1, .inr (.inl fo)))] t.heap ∧ va_D (va_A [(h0, .inr (10, [.ref xa1, .ref xa3, .ref xa15, .ref xa27, .ref xa28, .ref xa33, .ref xa38, .ref xa41, .ref xa45, .ref xa46, .ref xa47, .ref xa52, .ref xa54, .int 0, .ref xa55, .ref xa60, .ref xa62, .ref xa67, .int (-1)])), (xa3, .inr (2, [.ref xa4, .ref xa5, .ref xa6, .ref xa7, .ref xa8, .ref xa9, .ref xa10, .int 0, .int 0, .int 0, .int 5, .ref xa11, .ref xa12, .ref xa13, .ref xa14])), (ou, .inl (kJ, 1, .inr (.inl fo)))] sz) [(ou, .inl (kJ, 1, .inr (.inl fo)))]) (va_A [(h0, .inr (10, [.ref xa1, .ref xa3, .ref xa15, .ref xa27, .ref xa28, .ref xa33, .ref xa38, .ref xa41, .ref xa45, .ref xa46, .ref xa47, .ref xa52, .ref xa54, .int 0, .ref xa55, .ref xa60, .ref xa62, .ref xa67, .int (-1)])), (xa3, .inr (2, [.ref xa4, .ref xa5, .ref xa6, .ref xa7, .ref xa8, .ref xa9, .ref xa10, .int 0, .int 0, .int 0, .int 5, .ref xa11, .ref xa12, .ref xa13, .ref xa14])), (ou, .inl (kJ, 1, .inr (.inl fo)))] sz)) 1 6 (va_A [(h0, .inr (10, [.ref xa1, .ref xa3, .ref xa15, .ref xa27, .ref xa28, .ref xa33, .ref xa38, .ref xa41, .ref xa45, .ref xa46, .ref xa47, .ref xa52, .ref xa54, .int 0, .ref xa55, .ref xa60, .ref xa62, .ref xa67, .int (-1)])), (xa3, .inr (2, [.ref xa4, .ref xa5, .ref xa6, .ref xa7, .ref xa8, .ref xa9, .ref xa10, .int 0, .int 0, .int 0, .int 5, .ref xa11, .ref xa12, .ref xa13, .ref xa14])), (ou, .inl (kJ, 1, .inr (.inl fo)))] sz) := by
  refine va_MetW (cc := cL_hop) (maxL := 6) (ret := (some .int)) (by decide) rfl ?_
  intro p e s m args0 below meth c s₁ B hml hv
  obtain ⟨hargs, hsz, hP, hE, hD0, hXs, hT⟩ := hv
  have hx := B.exec
  have hb := B.bytes
  have hr := B.returns
  have hts := atoms_spec (ws := wsL_hop) B.pre
  have hown : s.vm.findClass RL = some m.cls := findClass_of_methodNamed B.named
  have hlocks := B.notSynchronized
  have hK := hE.1
  have hin10 : ∀ w ∈ wsX100, w ∈ wsL_hop := fun _ h9 => List.mem_cons_of_mem _ (List.mem_append_left _ (List.mem_append_left _ (List.mem_append_left _ (List.mem_append_left _ (List.mem_append_right _ h9)))))
  have hin2 : ∀ w ∈ wsX20, w ∈ wsL_hop := fun _ h9 => List.mem_cons_of_mem _ (List.mem_append_left _ (List.mem_append_left _ (List.mem_append_left _ (List.mem_append_right _ h9))))
  have hin0 : ∀ w ∈ wsX00, w ∈ wsL_hop := fun _ h9 => List.mem_cons_of_mem _ (List.mem_append_left _ (List.mem_append_left _ (List.mem_append_right _ h9)))
  have hin7 : ∀ w ∈ wsX70, w ∈ wsL_hop := fun _ h9 => List.mem_cons_of_mem _ (List.mem_append_left _ (List.mem_append_right _ h9))
  subst hsz
  have hD := hD0.self (sz := s.heap.size)
  generalize hAe : va_A [(h0, .inr (10, [.ref xa1, .ref xa3, .ref xa15, .ref xa27, .ref xa28, .ref xa33, .ref xa38, .ref xa41, .ref xa45, .ref xa46, .ref xa47, .ref xa52, .ref xa54, .int 0, .ref xa55, .ref xa60, .ref xa62, .ref xa67, .int (-1)])), (xa3, .inr (2, [.ref xa4, .ref xa5, .ref xa6, .ref xa7, .ref xa8, .ref xa9, .ref xa10, .int 0, .int 0, .int 0, .int 5, .ref xa11, .ref xa12, .ref xa13, .ref xa14])), (ou, .inl (kJ, 1, .inr (.inl fo)))] s.heap.size = A at hD hT ⊢
  have hA : ∀ q : Nat, s.heap.size ≤ q → A q := fun q h => by rw [← hAe]; exact Or.inr h
  have hS : va_S A s.heap s.heap [] := va_S.rf
  have hP : va_P (dC, dI) vwCl [(h0, .inr (10, [.ref xa1, .ref xa3, .ref xa15, .ref xa27, .ref xa28, .ref xa33, .ref xa38, .ref xa41, .ref xa45, .ref xa46, .ref xa47, .ref xa52, .ref xa54, .int 0, .ref xa55, .ref xa60, .ref xa62, .ref xa67, .int (-1)])), (xa3, .inr (2, [.ref xa4, .ref xa5, .ref xa6, .ref xa7, .ref xa8, .ref xa9, .ref xa10, .int 0, .int 0, .int 0, .int 5, .ref xa11, .ref xa12, .ref xa13, .ref xa14])), (ou, .inl (kJ, 1, .inr (.inl fo)))] s.heap := hP
  have hl := lv_entry ([.ref h0, .int p0, .int p1, .int p2, .ref ou]) (n := 6) (Nat.le_of_ble_eq_true rfl)
  have hla : entryFrame m args0 6 = entryFrame m ([.ref h0, .int p0, .int p1, .int p2, .ref ou] : List Value).toArray 6 := by rw [hargs]
  rw [hla, lg_entry_eq]
  generalize (lg_sl ([.ref h0, .int p0, .int p1, .int p2, .ref ou]) ++ List.replicate (6 - (lg_sl ([.ref h0, .int p0, .int p1, .int p2, .ref ou])).length) Slot.unset).toArray = ls at hl ⊢
  have hl : lv_has ls 6 [(0, .ref h0), (1, .int p0), (2, .int p1), (3, .int p2), (4, .ref ou)] := hl
  refine lv_aload hx hb dL_hop_0 (lv_at hl 4 rfl) ?_
  refine lv_iconst (v := 0) hx hb dL_hop_2 (by decide) ?_
  refine lv_aload_n hx hb dL_hop_3 rfl (lv_at hl 0 rfl) ?_
  refine lv_iload_n hx hb dL_hop_4 rfl (lv_at hl 1 rfl) ?_
  refine lv_iload_n hx hb dL_hop_5 rfl (lv_at hl 2 rfl) ?_
  refine lv_iload_n hx hb dL_hop_6 rfl (lv_at hl 3 rfl) ?_
  have hPc := hP.sub (ws' := [(h0, .inr (10, [.ref xa1, .ref xa3, .ref xa15, .ref xa27, .ref xa28, .ref xa33, .ref xa38, .ref xa41, .ref xa45, .ref xa46, .ref xa47, .ref xa52, .ref xa54, .int 0, .ref xa55, .ref xa60, .ref xa62, .ref xa67, .int (-1)])), (xa3, .inr (2, [.ref xa4, .ref xa5, .ref xa6, .ref xa7, .ref xa8, .ref xa9, .ref xa10, .int 0, .int 0, .int 0, .int 5, .ref xa11, .ref xa12, .ref xa13, .ref xa14]))]) [0, 1] rfl
  have hDc := hD.sub (ws' := [(h0, .inr (10, [.ref xa1, .ref xa3, .ref xa15, .ref xa27, .ref xa28, .ref xa33, .ref xa38, .ref xa41, .ref xa45, .ref xa46, .ref xa47, .ref xa52, .ref xa54, .int 0, .ref xa55, .ref xa60, .ref xa62, .ref xa67, .int (-1)])), (xa3, .inr (2, [.ref xa4, .ref xa5, .ref xa6, .ref xa7, .ref xa8, .ref xa9, .ref xa10, .int 0, .int 0, .int 0, .int 5, .ref xa11, .ref xa12, .ref xa13, .ref xa14]))]) [0, 1] (by decide) rfl
  have hFc := va_free (wc := [(h0, .inr (10, [.ref xa1, .ref xa3, .ref xa15, .ref xa27, .ref xa28, .ref xa33, .ref xa38, .ref xa41, .ref xa45, .ref xa46, .ref xa47, .ref xa52, .ref xa54, .int 0, .ref xa55, .ref xa60, .ref xa62, .ref xa67, .int (-1)])), (xa3, .inr (2, [.ref xa4, .ref xa5, .ref xa6, .ref xa7, .ref xa8, .ref xa9, .ref xa10, .int 0, .int 0, .int 0, .int 5, .ref xa11, .ref xa12, .ref xa13, .ref xa14]))]) hD hS hA [0, 1] rfl
  refine vx_calli (vx_runV (As := [.int p0, .int p1, .int p2]) (rest := [.int 0, .ref ou]) ⟨hx, hb, hml, hown, hts⟩ (k10_hop l hst dC dI kB kI kJ kZ kC kS s.heap.size h0 xa1 xa3 xa15 xa27 xa28 xa33 xa38 xa41 xa45 xa46 xa47 xa52 xa54 xa55 xa60 xa62 xa67 xa4 xa5 xa6 xa7 xa8 xa9 xa10 xa11 xa12 xa13 xa14 p0 p1 p2) (cwV 3 hts gL_hop_X10_hop rfl rfl rfl (by decide +kernel) ⟨Nat.le_of_ble_eq_true rfl, Nat.le_of_ble_eq_true rfl⟩) ⟨fun a U g mk q => by obtain ⟨q0, q1, qP, qE, qD, qX, qT⟩ := q; exact ⟨q0, q1, qP, kE_call qE, qD, kX_call qX, kT_call qT⟩, va_recv hK hP (ci := 10) (q0 := 0) rfl rfl, fun U hU hW => ⟨rfl, by rw [hU], by rw [hU]; exact hPc, kE_warm hW hE, hDc.weaken (fun _ _ _ _ => trivial), kX_warm hW hXs, kT_at hT hS hFc hW hU⟩⟩ rfl rfl hl.1 rfl (lv_room (Nat.le_of_ble_eq_true rfl)) dL_hop_7 ⟨Nat.le_of_ble_eq_true rfl, Nat.le_of_ble_eq_true rfl⟩) hS (fun q _ h => hFc q h) hFc (fun q _ h => hFc q h) (fun E ce q9 u t H1 locs ht hvm hpx hBX hz1 hk1 hS hc9 hv9 hcl9 => ?_) (fun r1 u t H1 locs ht hvm w2 hB hz1 hk1 hS => ?_)
  · subst hBX
    have hP1 : va_P (dC, dI) vwCl [] H1 := fun k q h => by simp at h
    have hD1 : va_D (va_A [(h0, .inr (10, [.ref xa1, .ref xa3, .ref xa15, .ref xa27, .ref xa28, .ref xa33, .ref xa38, .ref xa41, .ref xa45, .ref xa46, .ref xa47, .ref xa52, .ref xa54, .int 0, .ref xa55, .ref xa60, .ref xa62, .ref xa67, .int (-1)])), (xa3, .inr (2, [.ref xa4, .ref xa5, .ref xa6, .ref xa7, .ref xa8, .ref xa9, .ref xa10, .int 0, .int 0, .int 0, .int 5, .ref xa11, .ref xa12, .ref xa13, .ref xa14]))] s.heap.size) [] := ⟨fun i j p q h => by simp at h, fun k q h => by simp at h⟩
    obtain ⟨hP, hD⟩ := va_join (wr := [(ou, .inl (kJ, 1, .inr (.inl fo)))]) (w1 := []) hP hD [0, 1] [2] rfl rfl (by decide) (by decide) hk1 hFc hP1 hD1
    generalize H1 = H at hP hS hc9 ⊢
    have hP : va_P (dC, dI) vwCl [(ou, .inl (kJ, 1, .inr (.inl fo)))] H := hP
    have hD : va_D A [(ou, .inl (kJ, 1, .inr (.inl fo)))] := hD
    have htab := vx_table B (hts (.codeWith yL_hop cL_hop 6 (some .int) [(0, 12, 15, 18)]) (List.mem_of_getElem? (i := 0) (by decide +kernel)))
    refine vx_catch (name := "java/util/NoSuchElementException") hown [] ⟨0, 12, 15, 18⟩ [] (htab.trans rfl) (fun z h => absurd h List.not_mem_nil) rfl (by decide) (hts (.classLink RL 18 "java/util/NoSuchElementException") (List.mem_of_getElem? (i := 1) (by decide +kernel))) (va_Nw.use rfl hXs.1) hc9 hv9 hcl9 ?_
    refine W.widen (k := 1) (n := 6) (Nat.le_of_ble_eq_true rfl) (Nat.le_of_ble_eq_true rfl) ?_
    refine W.eq (g2 := F0 m 15 ls [.ref q9]) rfl ?_
    refine lv_astore (lv' := [(5, .ref q9), (0, .ref h0), (1, .int p0), (2, .int p1), (3, .int p2), (4, .ref ou)]) hx hb dL_hop_15 hl (by decide) rfl (fun ls hl => ?_)
    refine lv_iconst (v := 1) hx hb dL_hop_17 (by decide) ?_
    have hP9 := hP.sub (ws' := [(ou, .inl (kJ, 1, .inr (.inl fo)))]) [0] rfl
    have hD9 := hD.sub (ws' := [(ou, .inl (kJ, 1, .inr (.inl fo)))]) [0] (by decide) rfl
    exact W.iret (v := 1) hx hb hr (fun t ht hW => ⟨⟨1, (), rfl, rfl, by rw [ht]; exact hP9, hD9⟩, hS.F ht⟩) hS.2.2 dL_hop_18
  · exact w2.elim
def rm_kL10_edge : Room := { frames := 8, cells := 1, slots := 6, locals := 127 }
set_option maxHeartbeats 4000000 in
set_option maxRecDepth 100000 in
theorem kL10_edge (l : Launch) (hst : l.stackTraces = false) (dC : Nat → ClassId) (dI : Nat → Nat → Nat) (kB kI kJ kZ kC kS : ClassId) (sz : Nat) (h0 : Nat) (xa1 : Nat) (xa3 : Nat) (xa15 : Nat) (xa27 : Nat) (xa28 : Nat) (xa33 : Nat) (xa38 : Nat) (xa41 : Nat) (xa45 : Nat) (xa46 : Nat) (xa47 : Nat) (xa52 : Nat) (xa54 : Nat) (xa55 : Nat) (xa60 : Nat) (xa62 : Nat) (xa67 : Nat) (xa4 : Nat) (xa5 : Nat) (xa6 : Nat) (xa7 : Nat) (xa8 : Nat) (xa9 : Nat) (xa10 : Nat) (xa11 : Nat) (xa12 : Nat) (xa13 : Nat) (xa14 : Nat) (p0 : Int32) (p1 : Int32) (p2 : Int32) (p3 : Int32) (ou : Nat) (fo : Nat → Int64) : Met l yL_edge wsL_edge rm_kL10_edge (va_Pc [.ref h0, .int p0, .int p1, .int p2, .int p3, .ref ou] (fun U => U.heap.size = sz ∧ va_P (dC, dI) vwCl [(h0, .inr (10, [.ref xa1, .ref xa3, .ref xa15, .ref xa27, .ref xa28, .ref xa33, .ref xa38, .ref xa41, .ref xa45, .ref xa46, .ref xa47, .ref xa52, .ref xa54, .int 0, .ref xa55, .ref xa60, .ref xa62, .ref xa67, .int (-1)])), (xa3, .inr (2, [.ref xa4, .ref xa5, .ref xa6, .ref xa7, .ref xa8, .ref xa9, .ref xa10, .int 0, .int 0, .int 0, .int 5, .ref xa11, .ref xa12, .ref xa13, .ref xa14])), (ou, .inl (kJ, 1, .inr (.inl fo)))] U.heap ∧ kE dC dI kB kI kJ kZ kC kS U ∧ va_D (fun _ => True) [(h0, .inr (10, [.ref xa1, .ref xa3, .ref xa15, .ref xa27, .ref xa28, .ref xa33, .ref xa38, .ref xa41, .ref xa45, .ref xa46, .ref xa47, .ref xa52, .ref xa54, .int 0, .ref xa55, .ref xa60, .ref xa62, .ref xa67, .int (-1)])), (xa3, .inr (2, [.ref xa4, .ref xa5, .ref xa6, .ref xa7, .ref xa8, .ref xa9, .ref xa10, .int 0, .int 0, .int 0, .int 5, .ref xa11, .ref xa12, .ref xa13, .ref xa14])), (ou, .inl (kJ, 1, .inr (.inl fo)))] ∧ kX U ∧ kT (va_A [(h0, .inr (10, [.ref xa1, .ref xa3, .ref xa15, .ref xa27, .ref xa28, .ref xa33, .ref xa38, .ref xa41, .ref xa45, .ref xa46, .ref xa47, .ref xa52, .ref xa54, .int 0, .ref xa55, .ref xa60, .ref xa62, .ref xa67, .int (-1)])), (xa3, .inr (2, [.ref xa4, .ref xa5, .ref xa6, .ref xa7, .ref xa8, .ref xa9, .ref xa10, .int 0, .int 0, .int 0, .int 5, .ref xa11, .ref xa12, .ref xa13, .ref xa14])), (ou, .inl (kJ, 1, .inr (.inl fo)))] sz) U)) (va_Qi (fun (r : Int32) (_ : Unit) => r = 1) (fun _ t => va_P (dC, dI) vwCl [(ou, .inl (kJ, 1, .inr (.inl fo)))] t.heap ∧ va_D (va_A [(h0, .inr (10, [.ref xa1, .ref xa3, .ref xa15, .ref xa27, .ref xa28, .ref xa33, .ref xa38, .ref xa41, .ref xa45, .ref xa46, .ref xa47, .ref xa52, .ref xa54, .int 0, .ref xa55, .ref xa60, .ref xa62, .ref xa67, .int (-1)])), (xa3, .inr (2, [.ref xa4, .ref xa5, .ref xa6, .ref xa7, .ref xa8, .ref xa9, .ref xa10, .int 0, .int 0, .int 0, .int 5, .ref xa11, .ref xa12, .ref xa13, .ref xa14])), (ou, .inl (kJ, 1, .inr (.inl fo)))] sz) [(ou, .inl (kJ, 1, .inr (.inl fo)))]) (va_A [(h0, .inr (10, [.ref xa1, .ref xa3, .ref xa15, .ref xa27, .ref xa28, .ref xa33, .ref xa38, .ref xa41, .ref xa45, .ref xa46, .ref xa47, .ref xa52, .ref xa54, .int 0, .ref xa55, .ref xa60, .ref xa62, .ref xa67, .int (-1)])), (xa3, .inr (2, [.ref xa4, .ref xa5, .ref xa6, .ref xa7, .ref xa8, .ref xa9, .ref xa10, .int 0, .int 0, .int 0, .int 5, .ref xa11, .ref xa12, .ref xa13, .ref xa14])), (ou, .inl (kJ, 1, .inr (.inl fo)))] sz)) 1 6 (va_A [(h0, .inr (10, [.ref xa1, .ref xa3, .ref xa15, .ref xa27, .ref xa28, .ref xa33, .ref xa38, .ref xa41, .ref xa45, .ref xa46, .ref xa47, .ref xa52, .ref xa54, .int 0, .ref xa55, .ref xa60, .ref xa62, .ref xa67, .int (-1)])), (xa3, .inr (2, [.ref xa4, .ref xa5, .ref xa6, .ref xa7, .ref xa8, .ref xa9, .ref xa10, .int 0, .int 0, .int 0, .int 5, .ref xa11, .ref xa12, .ref xa13, .ref xa14])), (ou, .inl (kJ, 1, .inr (.inl fo)))] sz) := by
  refine va_MetW (cc := cL_edge) (maxL := 7) (ret := (some .int)) (by decide) rfl ?_
  intro p e s m args0 below meth c s₁ B hml hv
  obtain ⟨hargs, hsz, hP, hE, hD0, hXs, hT⟩ := hv
  have hx := B.exec
  have hb := B.bytes
  have hr := B.returns
  have hts := atoms_spec (ws := wsL_edge) B.pre
  have hown : s.vm.findClass RL = some m.cls := findClass_of_methodNamed B.named
  have hlocks := B.notSynchronized
  have hK := hE.1
  have hin10 : ∀ w ∈ wsX100, w ∈ wsL_edge := fun _ h9 => List.mem_cons_of_mem _ (List.mem_append_left _ (List.mem_append_left _ (List.mem_append_left _ (List.mem_append_left _ (List.mem_append_right _ h9)))))
  have hin7 : ∀ w ∈ wsX70, w ∈ wsL_edge := fun _ h9 => List.mem_cons_of_mem _ (List.mem_append_left _ (List.mem_append_left _ (List.mem_append_left _ (List.mem_append_right _ h9))))
  have hin2 : ∀ w ∈ wsX20, w ∈ wsL_edge := fun _ h9 => List.mem_cons_of_mem _ (List.mem_append_left _ (List.mem_append_left _ (List.mem_append_right _ h9)))
  have hin0 : ∀ w ∈ wsX00, w ∈ wsL_edge := fun _ h9 => List.mem_cons_of_mem _ (List.mem_append_left _ (List.mem_append_right _ h9))
  subst hsz
  have hD := hD0.self (sz := s.heap.size)
  generalize hAe : va_A [(h0, .inr (10, [.ref xa1, .ref xa3, .ref xa15, .ref xa27, .ref xa28, .ref xa33, .ref xa38, .ref xa41, .ref xa45, .ref xa46, .ref xa47, .ref xa52, .ref xa54, .int 0, .ref xa55, .ref xa60, .ref xa62, .ref xa67, .int (-1)])), (xa3, .inr (2, [.ref xa4, .ref xa5, .ref xa6, .ref xa7, .ref xa8, .ref xa9, .ref xa10, .int 0, .int 0, .int 0, .int 5, .ref xa11, .ref xa12, .ref xa13, .ref xa14])), (ou, .inl (kJ, 1, .inr (.inl fo)))] s.heap.size = A at hD hT ⊢
  have hA : ∀ q : Nat, s.heap.size ≤ q → A q := fun q h => by rw [← hAe]; exact Or.inr h
  have hS : va_S A s.heap s.heap [] := va_S.rf
  have hP : va_P (dC, dI) vwCl [(h0, .inr (10, [.ref xa1, .ref xa3, .ref xa15, .ref xa27, .ref xa28, .ref xa33, .ref xa38, .ref xa41, .ref xa45, .ref xa46, .ref xa47, .ref xa52, .ref xa54, .int 0, .ref xa55, .ref xa60, .ref xa62, .ref xa67, .int (-1)])), (xa3, .inr (2, [.ref xa4, .ref xa5, .ref xa6, .ref xa7, .ref xa8, .ref xa9, .ref xa10, .int 0, .int 0, .int 0, .int 5, .ref xa11, .ref xa12, .ref xa13, .ref xa14])), (ou, .inl (kJ, 1, .inr (.inl fo)))] s.heap := hP
  have hl := lv_entry ([.ref h0, .int p0, .int p1, .int p2, .int p3, .ref ou]) (n := 7) (Nat.le_of_ble_eq_true rfl)
  have hla : entryFrame m args0 7 = entryFrame m ([.ref h0, .int p0, .int p1, .int p2, .int p3, .ref ou] : List Value).toArray 7 := by rw [hargs]
  rw [hla, lg_entry_eq]
  generalize (lg_sl ([.ref h0, .int p0, .int p1, .int p2, .int p3, .ref ou]) ++ List.replicate (7 - (lg_sl ([.ref h0, .int p0, .int p1, .int p2, .int p3, .ref ou])).length) Slot.unset).toArray = ls at hl ⊢
  have hl : lv_has ls 7 [(0, .ref h0), (1, .int p0), (2, .int p1), (3, .int p2), (4, .int p3), (5, .ref ou)] := hl
  refine lv_aload hx hb dL_edge_0 (lv_at hl 5 rfl) ?_
  refine lv_iconst (v := 0) hx hb dL_edge_2 (by decide) ?_
  refine lv_aload_n hx hb dL_edge_3 rfl (lv_at hl 0 rfl) ?_
  refine lv_iload_n hx hb dL_edge_4 rfl (lv_at hl 1 rfl) ?_
  refine lv_iload_n hx hb dL_edge_5 rfl (lv_at hl 2 rfl) ?_
  refine lv_iload_n hx hb dL_edge_6 rfl (lv_at hl 3 rfl) ?_
  refine lv_iload hx hb dL_edge_7 (lv_at hl 4 rfl) ?_
  have hPc := hP.sub (ws' := [(h0, .inr (10, [.ref xa1, .ref xa3, .ref xa15, .ref xa27, .ref xa28, .ref xa33, .ref xa38, .ref xa41, .ref xa45, .ref xa46, .ref xa47, .ref xa52, .ref xa54, .int 0, .ref xa55, .ref xa60, .ref xa62, .ref xa67, .int (-1)])), (xa3, .inr (2, [.ref xa4, .ref xa5, .ref xa6, .ref xa7, .ref xa8, .ref xa9, .ref xa10, .int 0, .int 0, .int 0, .int 5, .ref xa11, .ref xa12, .ref xa13, .ref xa14]))]) [0, 1] rfl
  have hDc := hD.sub (ws' := [(h0, .inr (10, [.ref xa1, .ref xa3, .ref xa15, .ref xa27, .ref xa28, .ref xa33, .ref xa38, .ref xa41, .ref xa45, .ref xa46, .ref xa47, .ref xa52, .ref xa54, .int 0, .ref xa55, .ref xa60, .ref xa62, .ref xa67, .int (-1)])), (xa3, .inr (2, [.ref xa4, .ref xa5, .ref xa6, .ref xa7, .ref xa8, .ref xa9, .ref xa10, .int 0, .int 0, .int 0, .int 5, .ref xa11, .ref xa12, .ref xa13, .ref xa14]))]) [0, 1] (by decide) rfl
  have hFc := va_free (wc := [(h0, .inr (10, [.ref xa1, .ref xa3, .ref xa15, .ref xa27, .ref xa28, .ref xa33, .ref xa38, .ref xa41, .ref xa45, .ref xa46, .ref xa47, .ref xa52, .ref xa54, .int 0, .ref xa55, .ref xa60, .ref xa62, .ref xa67, .int (-1)])), (xa3, .inr (2, [.ref xa4, .ref xa5, .ref xa6, .ref xa7, .ref xa8, .ref xa9, .ref xa10, .int 0, .int 0, .int 0, .int 5, .ref xa11, .ref xa12, .ref xa13, .ref xa14]))]) hD hS hA [0, 1] rfl
  refine vx_calli (vx_runV (As := [.int p0, .int p1, .int p2, .int p3]) (rest := [.int 0, .ref ou]) ⟨hx, hb, hml, hown, hts⟩ (k10_edge l hst dC dI kB kI kJ kZ kC kS s.heap.size h0 xa1 xa3 xa15 xa27 xa28 xa33 xa38 xa41 xa45 xa46 xa47 xa52 xa54 xa55 xa60 xa62 xa67 xa4 xa5 xa6 xa7 xa8 xa9 xa10 xa11 xa12 xa13 xa14 p0 p1 p2 p3) (cwV 4 hts gL_edge_X10_edge rfl rfl rfl (by decide +kernel) ⟨Nat.le_of_ble_eq_true rfl, Nat.le_of_ble_eq_true rfl⟩) ⟨fun a U g mk q => by obtain ⟨q0, q1, qP, qE, qD, qX, qT⟩ := q; exact ⟨q0, q1, qP, kE_call qE, qD, kX_call qX, kT_call qT⟩, va_recv hK hP (ci := 10) (q0 := 0) rfl rfl, fun U hU hW => ⟨rfl, by rw [hU], by rw [hU]; exact hPc, kE_warm hW hE, hDc.weaken (fun _ _ _ _ => trivial), kX_warm hW hXs, kT_at hT hS hFc hW hU⟩⟩ rfl rfl hl.1 rfl (lv_room (Nat.le_of_ble_eq_true rfl)) dL_edge_9 ⟨Nat.le_of_ble_eq_true rfl, Nat.le_of_ble_eq_true rfl⟩) hS (fun q _ h => hFc q h) hFc (fun q _ h => hFc q h) (fun E ce q9 u t H1 locs ht hvm hpx hBX hz1 hk1 hS hc9 hv9 hcl9 => ?_) (fun r1 u t H1 locs ht hvm w2 hB hz1 hk1 hS => ?_)
  · subst hBX
    have hP1 : va_P (dC, dI) vwCl [] H1 := fun k q h => by simp at h
    have hD1 : va_D (va_A [(h0, .inr (10, [.ref xa1, .ref xa3, .ref xa15, .ref xa27, .ref xa28, .ref xa33, .ref xa38, .ref xa41, .ref xa45, .ref xa46, .ref xa47, .ref xa52, .ref xa54, .int 0, .ref xa55, .ref xa60, .ref xa62, .ref xa67, .int (-1)])), (xa3, .inr (2, [.ref xa4, .ref xa5, .ref xa6, .ref xa7, .ref xa8, .ref xa9, .ref xa10, .int 0, .int 0, .int 0, .int 5, .ref xa11, .ref xa12, .ref xa13, .ref xa14]))] s.heap.size) [] := ⟨fun i j p q h => by simp at h, fun k q h => by simp at h⟩
    obtain ⟨hP, hD⟩ := va_join (wr := [(ou, .inl (kJ, 1, .inr (.inl fo)))]) (w1 := []) hP hD [0, 1] [2] rfl rfl (by decide) (by decide) hk1 hFc hP1 hD1
    generalize H1 = H at hP hS hc9 ⊢
    have hP : va_P (dC, dI) vwCl [(ou, .inl (kJ, 1, .inr (.inl fo)))] H := hP
    have hD : va_D A [(ou, .inl (kJ, 1, .inr (.inl fo)))] := hD
    have htab := vx_table B (hts (.codeWith yL_edge cL_edge 7 (some .int) [(0, 14, 17, 18)]) (List.mem_of_getElem? (i := 0) (by decide +kernel)))
    refine vx_catch (name := "java/util/NoSuchElementException") hown [] ⟨0, 14, 17, 18⟩ [] (htab.trans rfl) (fun z h => absurd h List.not_mem_nil) rfl (by decide) (hts (.classLink RL 18 "java/util/NoSuchElementException") (List.mem_of_getElem? (i := 1) (by decide +kernel))) (va_Nw.use rfl hXs.1) hc9 hv9 hcl9 ?_
    refine W.widen (k := 1) (n := 6) (Nat.le_of_ble_eq_true rfl) (Nat.le_of_ble_eq_true rfl) ?_
    refine W.eq (g2 := F0 m 17 ls [.ref q9]) rfl ?_
    refine lv_astore (lv' := [(6, .ref q9), (0, .ref h0), (1, .int p0), (2, .int p1), (3, .int p2), (4, .int p3), (5, .ref ou)]) hx hb dL_edge_17 hl (by decide) rfl (fun ls hl => ?_)
    refine lv_iconst (v := 1) hx hb dL_edge_19 (by decide) ?_
    have hP9 := hP.sub (ws' := [(ou, .inl (kJ, 1, .inr (.inl fo)))]) [0] rfl
    have hD9 := hD.sub (ws' := [(ou, .inl (kJ, 1, .inr (.inl fo)))]) [0] (by decide) rfl
    exact W.iret (v := 1) hx hb hr (fun t ht hW => ⟨⟨1, (), rfl, rfl, by rw [ht]; exact hP9, hD9⟩, hS.F ht⟩) hS.2.2 dL_edge_20
  · exact w2.elim
def rm_kL10_diamond : Room := { frames := 8, cells := 1, slots := 6, locals := 129 }
set_option maxHeartbeats 4000000 in
set_option maxRecDepth 100000 in
theorem kL10_diamond (l : Launch) (hst : l.stackTraces = false) (dC : Nat → ClassId) (dI : Nat → Nat → Nat) (kB kI kJ kZ kC kS : ClassId) (sz : Nat) (h0 : Nat) (xa1 : Nat) (xa3 : Nat) (xa15 : Nat) (xa27 : Nat) (xa28 : Nat) (xa33 : Nat) (xa38 : Nat) (xa41 : Nat) (xa45 : Nat) (xa46 : Nat) (xa47 : Nat) (xa52 : Nat) (xa54 : Nat) (xa55 : Nat) (xa60 : Nat) (xa62 : Nat) (xa67 : Nat) (xa4 : Nat) (xa5 : Nat) (xa6 : Nat) (xa7 : Nat) (xa8 : Nat) (xa9 : Nat) (xa10 : Nat) (xa11 : Nat) (xa12 : Nat) (xa13 : Nat) (xa14 : Nat) (p0 : Int32) (p1 : Int32) (p2 : Int32) (ou : Nat) (fo : Nat → Int64) : Met l yL_diamond wsL_diamond rm_kL10_diamond (va_Pc [.ref h0, .int p0, .int p1, .int p2, .ref ou] (fun U => U.heap.size = sz ∧ va_P (dC, dI) vwCl [(h0, .inr (10, [.ref xa1, .ref xa3, .ref xa15, .ref xa27, .ref xa28, .ref xa33, .ref xa38, .ref xa41, .ref xa45, .ref xa46, .ref xa47, .ref xa52, .ref xa54, .int 0, .ref xa55, .ref xa60, .ref xa62, .ref xa67, .int (-1)])), (xa3, .inr (2, [.ref xa4, .ref xa5, .ref xa6, .ref xa7, .ref xa8, .ref xa9, .ref xa10, .int 0, .int 0, .int 0, .int 5, .ref xa11, .ref xa12, .ref xa13, .ref xa14])), (ou, .inl (kJ, 1, .inr (.inl fo)))] U.heap ∧ kE dC dI kB kI kJ kZ kC kS U ∧ va_D (fun _ => True) [(h0, .inr (10, [.ref xa1, .ref xa3, .ref xa15, .ref xa27, .ref xa28, .ref xa33, .ref xa38, .ref xa41, .ref xa45, .ref xa46, .ref xa47, .ref xa52, .ref xa54, .int 0, .ref xa55, .ref xa60, .ref xa62, .ref xa67, .int (-1)])), (xa3, .inr (2, [.ref xa4, .ref xa5, .ref xa6, .ref xa7, .ref xa8, .ref xa9, .ref xa10, .int 0, .int 0, .int 0, .int 5, .ref xa11, .ref xa12, .ref xa13, .ref xa14])), (ou, .inl (kJ, 1, .inr (.inl fo)))] ∧ kX U ∧ kT (va_A [(h0, .inr (10, [.ref xa1, .ref xa3, .ref xa15, .ref xa27, .ref xa28, .ref xa33, .ref xa38, .ref xa41, .ref xa45, .ref xa46, .ref xa47, .ref xa52, .ref xa54, .int 0, .ref xa55, .ref xa60, .ref xa62, .ref xa67, .int (-1)])), (xa3, .inr (2, [.ref xa4, .ref xa5, .ref xa6, .ref xa7, .ref xa8, .ref xa9, .ref xa10, .int 0, .int 0, .int 0, .int 5, .ref xa11, .ref xa12, .ref xa13, .ref xa14])), (ou, .inl (kJ, 1, .inr (.inl fo)))] sz) U)) (va_Qi (fun (r : Int32) (_ : Unit) => r = 1) (fun _ t => va_P (dC, dI) vwCl [(ou, .inl (kJ, 1, .inr (.inl fo)))] t.heap ∧ va_D (va_A [(h0, .inr (10, [.ref xa1, .ref xa3, .ref xa15, .ref xa27, .ref xa28, .ref xa33, .ref xa38, .ref xa41, .ref xa45, .ref xa46, .ref xa47, .ref xa52, .ref xa54, .int 0, .ref xa55, .ref xa60, .ref xa62, .ref xa67, .int (-1)])), (xa3, .inr (2, [.ref xa4, .ref xa5, .ref xa6, .ref xa7, .ref xa8, .ref xa9, .ref xa10, .int 0, .int 0, .int 0, .int 5, .ref xa11, .ref xa12, .ref xa13, .ref xa14])), (ou, .inl (kJ, 1, .inr (.inl fo)))] sz) [(ou, .inl (kJ, 1, .inr (.inl fo)))]) (va_A [(h0, .inr (10, [.ref xa1, .ref xa3, .ref xa15, .ref xa27, .ref xa28, .ref xa33, .ref xa38, .ref xa41, .ref xa45, .ref xa46, .ref xa47, .ref xa52, .ref xa54, .int 0, .ref xa55, .ref xa60, .ref xa62, .ref xa67, .int (-1)])), (xa3, .inr (2, [.ref xa4, .ref xa5, .ref xa6, .ref xa7, .ref xa8, .ref xa9, .ref xa10, .int 0, .int 0, .int 0, .int 5, .ref xa11, .ref xa12, .ref xa13, .ref xa14])), (ou, .inl (kJ, 1, .inr (.inl fo)))] sz)) 1 6 (va_A [(h0, .inr (10, [.ref xa1, .ref xa3, .ref xa15, .ref xa27, .ref xa28, .ref xa33, .ref xa38, .ref xa41, .ref xa45, .ref xa46, .ref xa47, .ref xa52, .ref xa54, .int 0, .ref xa55, .ref xa60, .ref xa62, .ref xa67, .int (-1)])), (xa3, .inr (2, [.ref xa4, .ref xa5, .ref xa6, .ref xa7, .ref xa8, .ref xa9, .ref xa10, .int 0, .int 0, .int 0, .int 5, .ref xa11, .ref xa12, .ref xa13, .ref xa14])), (ou, .inl (kJ, 1, .inr (.inl fo)))] sz) := by
  refine va_MetW (cc := cL_diamond) (maxL := 6) (ret := (some .int)) (by decide) rfl ?_
  intro p e s m args0 below meth c s₁ B hml hv
  obtain ⟨hargs, hsz, hP, hE, hD0, hXs, hT⟩ := hv
  have hx := B.exec
  have hb := B.bytes
  have hr := B.returns
  have hts := atoms_spec (ws := wsL_diamond) B.pre
  have hown : s.vm.findClass RL = some m.cls := findClass_of_methodNamed B.named
  have hlocks := B.notSynchronized
  have hK := hE.1
  have hin10 : ∀ w ∈ wsX100, w ∈ wsL_diamond := fun _ h9 => List.mem_cons_of_mem _ (List.mem_append_left _ (List.mem_append_left _ (List.mem_append_left _ (List.mem_append_left _ (List.mem_append_right _ h9)))))
  have hin7 : ∀ w ∈ wsX70, w ∈ wsL_diamond := fun _ h9 => List.mem_cons_of_mem _ (List.mem_append_left _ (List.mem_append_left _ (List.mem_append_left _ (List.mem_append_right _ h9))))
  have hin2 : ∀ w ∈ wsX20, w ∈ wsL_diamond := fun _ h9 => List.mem_cons_of_mem _ (List.mem_append_left _ (List.mem_append_left _ (List.mem_append_right _ h9)))
  have hin0 : ∀ w ∈ wsX00, w ∈ wsL_diamond := fun _ h9 => List.mem_cons_of_mem _ (List.mem_append_left _ (List.mem_append_right _ h9))
  subst hsz
  have hD := hD0.self (sz := s.heap.size)
  generalize hAe : va_A [(h0, .inr (10, [.ref xa1, .ref xa3, .ref xa15, .ref xa27, .ref xa28, .ref xa33, .ref xa38, .ref xa41, .ref xa45, .ref xa46, .ref xa47, .ref xa52, .ref xa54, .int 0, .ref xa55, .ref xa60, .ref xa62, .ref xa67, .int (-1)])), (xa3, .inr (2, [.ref xa4, .ref xa5, .ref xa6, .ref xa7, .ref xa8, .ref xa9, .ref xa10, .int 0, .int 0, .int 0, .int 5, .ref xa11, .ref xa12, .ref xa13, .ref xa14])), (ou, .inl (kJ, 1, .inr (.inl fo)))] s.heap.size = A at hD hT ⊢
  have hA : ∀ q : Nat, s.heap.size ≤ q → A q := fun q h => by rw [← hAe]; exact Or.inr h
  have hS : va_S A s.heap s.heap [] := va_S.rf
  have hP : va_P (dC, dI) vwCl [(h0, .inr (10, [.ref xa1, .ref xa3, .ref xa15, .ref xa27, .ref xa28, .ref xa33, .ref xa38, .ref xa41, .ref xa45, .ref xa46, .ref xa47, .ref xa52, .ref xa54, .int 0, .ref xa55, .ref xa60, .ref xa62, .ref xa67, .int (-1)])), (xa3, .inr (2, [.ref xa4, .ref xa5, .ref xa6, .ref xa7, .ref xa8, .ref xa9, .ref xa10, .int 0, .int 0, .int 0, .int 5, .ref xa11, .ref xa12, .ref xa13, .ref xa14])), (ou, .inl (kJ, 1, .inr (.inl fo)))] s.heap := hP
  have hl := lv_entry ([.ref h0, .int p0, .int p1, .int p2, .ref ou]) (n := 6) (Nat.le_of_ble_eq_true rfl)
  have hla : entryFrame m args0 6 = entryFrame m ([.ref h0, .int p0, .int p1, .int p2, .ref ou] : List Value).toArray 6 := by rw [hargs]
  rw [hla, lg_entry_eq]
  generalize (lg_sl ([.ref h0, .int p0, .int p1, .int p2, .ref ou]) ++ List.replicate (6 - (lg_sl ([.ref h0, .int p0, .int p1, .int p2, .ref ou])).length) Slot.unset).toArray = ls at hl ⊢
  have hl : lv_has ls 6 [(0, .ref h0), (1, .int p0), (2, .int p1), (3, .int p2), (4, .ref ou)] := hl
  refine lv_aload hx hb dL_diamond_0 (lv_at hl 4 rfl) ?_
  refine lv_iconst (v := 0) hx hb dL_diamond_2 (by decide) ?_
  refine lv_aload_n hx hb dL_diamond_3 rfl (lv_at hl 0 rfl) ?_
  refine lv_iload_n hx hb dL_diamond_4 rfl (lv_at hl 1 rfl) ?_
  refine lv_iload_n hx hb dL_diamond_5 rfl (lv_at hl 2 rfl) ?_
  refine lv_iload_n hx hb dL_diamond_6 rfl (lv_at hl 3 rfl) ?_
  have hPc := hP.sub (ws' := [(h0, .inr (10, [.ref xa1, .ref xa3, .ref xa15, .ref xa27, .ref xa28, .ref xa33, .ref xa38, .ref xa41, .ref xa45, .ref xa46, .ref xa47, .ref xa52, .ref xa54, .int 0, .ref xa55, .ref xa60, .ref xa62, .ref xa67, .int (-1)])), (xa3, .inr (2, [.ref xa4, .ref xa5, .ref xa6, .ref xa7, .ref xa8, .ref xa9, .ref xa10, .int 0, .int 0, .int 0, .int 5, .ref xa11, .ref xa12, .ref xa13, .ref xa14]))]) [0, 1] rfl
  have hDc := hD.sub (ws' := [(h0, .inr (10, [.ref xa1, .ref xa3, .ref xa15, .ref xa27, .ref xa28, .ref xa33, .ref xa38, .ref xa41, .ref xa45, .ref xa46, .ref xa47, .ref xa52, .ref xa54, .int 0, .ref xa55, .ref xa60, .ref xa62, .ref xa67, .int (-1)])), (xa3, .inr (2, [.ref xa4, .ref xa5, .ref xa6, .ref xa7, .ref xa8, .ref xa9, .ref xa10, .int 0, .int 0, .int 0, .int 5, .ref xa11, .ref xa12, .ref xa13, .ref xa14]))]) [0, 1] (by decide) rfl
  have hFc := va_free (wc := [(h0, .inr (10, [.ref xa1, .ref xa3, .ref xa15, .ref xa27, .ref xa28, .ref xa33, .ref xa38, .ref xa41, .ref xa45, .ref xa46, .ref xa47, .ref xa52, .ref xa54, .int 0, .ref xa55, .ref xa60, .ref xa62, .ref xa67, .int (-1)])), (xa3, .inr (2, [.ref xa4, .ref xa5, .ref xa6, .ref xa7, .ref xa8, .ref xa9, .ref xa10, .int 0, .int 0, .int 0, .int 5, .ref xa11, .ref xa12, .ref xa13, .ref xa14]))]) hD hS hA [0, 1] rfl
  refine vx_calli (vx_runV (As := [.int p0, .int p1, .int p2]) (rest := [.int 0, .ref ou]) ⟨hx, hb, hml, hown, hts⟩ (k10_diamond l hst dC dI kB kI kJ kZ kC kS s.heap.size h0 xa1 xa3 xa15 xa27 xa28 xa33 xa38 xa41 xa45 xa46 xa47 xa52 xa54 xa55 xa60 xa62 xa67 xa4 xa5 xa6 xa7 xa8 xa9 xa10 xa11 xa12 xa13 xa14 p0 p1 p2) (cwV 3 hts gL_diamond_X10_diamond rfl rfl rfl (by decide +kernel) ⟨Nat.le_of_ble_eq_true rfl, Nat.le_of_ble_eq_true rfl⟩) ⟨fun a U g mk q => by obtain ⟨q0, q1, qP, qE, qD, qX, qT⟩ := q; exact ⟨q0, q1, qP, kE_call qE, qD, kX_call qX, kT_call qT⟩, va_recv hK hP (ci := 10) (q0 := 0) rfl rfl, fun U hU hW => ⟨rfl, by rw [hU], by rw [hU]; exact hPc, kE_warm hW hE, hDc.weaken (fun _ _ _ _ => trivial), kX_warm hW hXs, kT_at hT hS hFc hW hU⟩⟩ rfl rfl hl.1 rfl (lv_room (Nat.le_of_ble_eq_true rfl)) dL_diamond_7 ⟨Nat.le_of_ble_eq_true rfl, Nat.le_of_ble_eq_true rfl⟩) hS (fun q _ h => hFc q h) hFc (fun q _ h => hFc q h) (fun E ce q9 u t H1 locs ht hvm hpx hBX hz1 hk1 hS hc9 hv9 hcl9 => ?_) (fun r1 u t H1 locs ht hvm w2 hB hz1 hk1 hS => ?_)
  · subst hBX
    have hP1 : va_P (dC, dI) vwCl [] H1 := fun k q h => by simp at h
    have hD1 : va_D (va_A [(h0, .inr (10, [.ref xa1, .ref xa3, .ref xa15, .ref xa27, .ref xa28, .ref xa33, .ref xa38, .ref xa41, .ref xa45, .ref xa46, .ref xa47, .ref xa52, .ref xa54, .int 0, .ref xa55, .ref xa60, .ref xa62, .ref xa67, .int (-1)])), (xa3, .inr (2, [.ref xa4, .ref xa5, .ref xa6, .ref xa7, .ref xa8, .ref xa9, .ref xa10, .int 0, .int 0, .int 0, .int 5, .ref xa11, .ref xa12, .ref xa13, .ref xa14]))] s.heap.size) [] := ⟨fun i j p q h => by simp at h, fun k q h => by simp at h⟩
    obtain ⟨hP, hD⟩ := va_join (wr := [(ou, .inl (kJ, 1, .inr (.inl fo)))]) (w1 := []) hP hD [0, 1] [2] rfl rfl (by decide) (by decide) hk1 hFc hP1 hD1
    generalize H1 = H at hP hS hc9 ⊢
    have hP : va_P (dC, dI) vwCl [(ou, .inl (kJ, 1, .inr (.inl fo)))] H := hP
    have hD : va_D A [(ou, .inl (kJ, 1, .inr (.inl fo)))] := hD
    have htab := vx_table B (hts (.codeWith yL_diamond cL_diamond 6 (some .int) [(0, 12, 15, 18)]) (List.mem_of_getElem? (i := 0) (by decide +kernel)))
    refine vx_catch (name := "java/util/NoSuchElementException") hown [] ⟨0, 12, 15, 18⟩ [] (htab.trans rfl) (fun z h => absurd h List.not_mem_nil) rfl (by decide) (hts (.classLink RL 18 "java/util/NoSuchElementException") (List.mem_of_getElem? (i := 1) (by decide +kernel))) (va_Nw.use rfl hXs.1) hc9 hv9 hcl9 ?_
    refine W.widen (k := 1) (n := 6) (Nat.le_of_ble_eq_true rfl) (Nat.le_of_ble_eq_true rfl) ?_
    refine W.eq (g2 := F0 m 15 ls [.ref q9]) rfl ?_
    refine lv_astore (lv' := [(5, .ref q9), (0, .ref h0), (1, .int p0), (2, .int p1), (3, .int p2), (4, .ref ou)]) hx hb dL_diamond_15 hl (by decide) rfl (fun ls hl => ?_)
    refine lv_iconst (v := 1) hx hb dL_diamond_17 (by decide) ?_
    have hP9 := hP.sub (ws' := [(ou, .inl (kJ, 1, .inr (.inl fo)))]) [0] rfl
    have hD9 := hD.sub (ws' := [(ou, .inl (kJ, 1, .inr (.inl fo)))]) [0] (by decide) rfl
    exact W.iret (v := 1) hx hb hr (fun t ht hW => ⟨⟨1, (), rfl, rfl, by rw [ht]; exact hP9, hD9⟩, hS.F ht⟩) hS.2.2 dL_diamond_18
  · exact w2.elim
def rm_kL10_truth : Room := { frames := 8, cells := 1, slots := 6, locals := 125 }
set_option maxHeartbeats 4000000 in
set_option maxRecDepth 100000 in
theorem kL10_truth (l : Launch) (hst : l.stackTraces = false) (dC : Nat → ClassId) (dI : Nat → Nat → Nat) (kB kI kJ kZ kC kS : ClassId) (sz : Nat) (h0 : Nat) (xa1 : Nat) (xa3 : Nat) (xa15 : Nat) (xa27 : Nat) (xa28 : Nat) (xa33 : Nat) (xa38 : Nat) (xa41 : Nat) (xa45 : Nat) (xa46 : Nat) (xa47 : Nat) (xa52 : Nat) (xa54 : Nat) (xa55 : Nat) (xa60 : Nat) (xa62 : Nat) (xa67 : Nat) (xa4 : Nat) (xa5 : Nat) (xa6 : Nat) (xa7 : Nat) (xa8 : Nat) (xa9 : Nat) (xa10 : Nat) (xa11 : Nat) (xa12 : Nat) (xa13 : Nat) (xa14 : Nat) (p0 : Int32) (p1 : Int32) (ou : Nat) (fo : Nat → Int64) : Met l yL_truth wsL_truth rm_kL10_truth (va_Pc [.ref h0, .int p0, .int p1, .ref ou] (fun U => U.heap.size = sz ∧ va_P (dC, dI) vwCl [(h0, .inr (10, [.ref xa1, .ref xa3, .ref xa15, .ref xa27, .ref xa28, .ref xa33, .ref xa38, .ref xa41, .ref xa45, .ref xa46, .ref xa47, .ref xa52, .ref xa54, .int 0, .ref xa55, .ref xa60, .ref xa62, .ref xa67, .int (-1)])), (xa3, .inr (2, [.ref xa4, .ref xa5, .ref xa6, .ref xa7, .ref xa8, .ref xa9, .ref xa10, .int 0, .int 0, .int 0, .int 5, .ref xa11, .ref xa12, .ref xa13, .ref xa14])), (ou, .inl (kJ, 1, .inr (.inl fo)))] U.heap ∧ kE dC dI kB kI kJ kZ kC kS U ∧ va_D (fun _ => True) [(h0, .inr (10, [.ref xa1, .ref xa3, .ref xa15, .ref xa27, .ref xa28, .ref xa33, .ref xa38, .ref xa41, .ref xa45, .ref xa46, .ref xa47, .ref xa52, .ref xa54, .int 0, .ref xa55, .ref xa60, .ref xa62, .ref xa67, .int (-1)])), (xa3, .inr (2, [.ref xa4, .ref xa5, .ref xa6, .ref xa7, .ref xa8, .ref xa9, .ref xa10, .int 0, .int 0, .int 0, .int 5, .ref xa11, .ref xa12, .ref xa13, .ref xa14])), (ou, .inl (kJ, 1, .inr (.inl fo)))] ∧ kX U ∧ kT (va_A [(h0, .inr (10, [.ref xa1, .ref xa3, .ref xa15, .ref xa27, .ref xa28, .ref xa33, .ref xa38, .ref xa41, .ref xa45, .ref xa46, .ref xa47, .ref xa52, .ref xa54, .int 0, .ref xa55, .ref xa60, .ref xa62, .ref xa67, .int (-1)])), (xa3, .inr (2, [.ref xa4, .ref xa5, .ref xa6, .ref xa7, .ref xa8, .ref xa9, .ref xa10, .int 0, .int 0, .int 0, .int 5, .ref xa11, .ref xa12, .ref xa13, .ref xa14])), (ou, .inl (kJ, 1, .inr (.inl fo)))] sz) U)) (va_Qi (fun (r : Int32) (_ : Unit) => r = 1) (fun _ t => va_P (dC, dI) vwCl [(ou, .inl (kJ, 1, .inr (.inl fo)))] t.heap ∧ va_D (va_A [(h0, .inr (10, [.ref xa1, .ref xa3, .ref xa15, .ref xa27, .ref xa28, .ref xa33, .ref xa38, .ref xa41, .ref xa45, .ref xa46, .ref xa47, .ref xa52, .ref xa54, .int 0, .ref xa55, .ref xa60, .ref xa62, .ref xa67, .int (-1)])), (xa3, .inr (2, [.ref xa4, .ref xa5, .ref xa6, .ref xa7, .ref xa8, .ref xa9, .ref xa10, .int 0, .int 0, .int 0, .int 5, .ref xa11, .ref xa12, .ref xa13, .ref xa14])), (ou, .inl (kJ, 1, .inr (.inl fo)))] sz) [(ou, .inl (kJ, 1, .inr (.inl fo)))]) (va_A [(h0, .inr (10, [.ref xa1, .ref xa3, .ref xa15, .ref xa27, .ref xa28, .ref xa33, .ref xa38, .ref xa41, .ref xa45, .ref xa46, .ref xa47, .ref xa52, .ref xa54, .int 0, .ref xa55, .ref xa60, .ref xa62, .ref xa67, .int (-1)])), (xa3, .inr (2, [.ref xa4, .ref xa5, .ref xa6, .ref xa7, .ref xa8, .ref xa9, .ref xa10, .int 0, .int 0, .int 0, .int 5, .ref xa11, .ref xa12, .ref xa13, .ref xa14])), (ou, .inl (kJ, 1, .inr (.inl fo)))] sz)) 1 6 (va_A [(h0, .inr (10, [.ref xa1, .ref xa3, .ref xa15, .ref xa27, .ref xa28, .ref xa33, .ref xa38, .ref xa41, .ref xa45, .ref xa46, .ref xa47, .ref xa52, .ref xa54, .int 0, .ref xa55, .ref xa60, .ref xa62, .ref xa67, .int (-1)])), (xa3, .inr (2, [.ref xa4, .ref xa5, .ref xa6, .ref xa7, .ref xa8, .ref xa9, .ref xa10, .int 0, .int 0, .int 0, .int 5, .ref xa11, .ref xa12, .ref xa13, .ref xa14])), (ou, .inl (kJ, 1, .inr (.inl fo)))] sz) := by
  refine va_MetW (cc := cL_truth) (maxL := 5) (ret := (some .int)) (by decide) rfl ?_
  intro p e s m args0 below meth c s₁ B hml hv
  obtain ⟨hargs, hsz, hP, hE, hD0, hXs, hT⟩ := hv
  have hx := B.exec
  have hb := B.bytes
  have hr := B.returns
  have hts := atoms_spec (ws := wsL_truth) B.pre
  have hown : s.vm.findClass RL = some m.cls := findClass_of_methodNamed B.named
  have hlocks := B.notSynchronized
  have hK := hE.1
  have hin10 : ∀ w ∈ wsX100, w ∈ wsL_truth := fun _ h9 => List.mem_cons_of_mem _ (List.mem_append_left _ (List.mem_append_left _ (List.mem_append_left _ (List.mem_append_right _ h9))))
  have hin2 : ∀ w ∈ wsX20, w ∈ wsL_truth := fun _ h9 => List.mem_cons_of_mem _ (List.mem_append_left _ (List.mem_append_left _ (List.mem_append_right _ h9)))
  have hin0 : ∀ w ∈ wsX00, w ∈ wsL_truth := fun _ h9 => List.mem_cons_of_mem _ (List.mem_append_left _ (List.mem_append_right _ h9))
  subst hsz
  have hD := hD0.self (sz := s.heap.size)
  generalize hAe : va_A [(h0, .inr (10, [.ref xa1, .ref xa3, .ref xa15, .ref xa27, .ref xa28, .ref xa33, .ref xa38, .ref xa41, .ref xa45, .ref xa46, .ref xa47, .ref xa52, .ref xa54, .int 0, .ref xa55, .ref xa60, .ref xa62, .ref xa67, .int (-1)])), (xa3, .inr (2, [.ref xa4, .ref xa5, .ref xa6, .ref xa7, .ref xa8, .ref xa9, .ref xa10, .int 0, .int 0, .int 0, .int 5, .ref xa11, .ref xa12, .ref xa13, .ref xa14])), (ou, .inl (kJ, 1, .inr (.inl fo)))] s.heap.size = A at hD hT ⊢
  have hA : ∀ q : Nat, s.heap.size ≤ q → A q := fun q h => by rw [← hAe]; exact Or.inr h
  have hS : va_S A s.heap s.heap [] := va_S.rf
  have hP : va_P (dC, dI) vwCl [(h0, .inr (10, [.ref xa1, .ref xa3, .ref xa15, .ref xa27, .ref xa28, .ref xa33, .ref xa38, .ref xa41, .ref xa45, .ref xa46, .ref xa47, .ref xa52, .ref xa54, .int 0, .ref xa55, .ref xa60, .ref xa62, .ref xa67, .int (-1)])), (xa3, .inr (2, [.ref xa4, .ref xa5, .ref xa6, .ref xa7, .ref xa8, .ref xa9, .ref xa10, .int 0, .int 0, .int 0, .int 5, .ref xa11, .ref xa12, .ref xa13, .ref xa14])), (ou, .inl (kJ, 1, .inr (.inl fo)))] s.heap := hP
  have hl := lv_entry ([.ref h0, .int p0, .int p1, .ref ou]) (n := 5) (Nat.le_of_ble_eq_true rfl)
  have hla : entryFrame m args0 5 = entryFrame m ([.ref h0, .int p0, .int p1, .ref ou] : List Value).toArray 5 := by rw [hargs]
  rw [hla, lg_entry_eq]
  generalize (lg_sl ([.ref h0, .int p0, .int p1, .ref ou]) ++ List.replicate (5 - (lg_sl ([.ref h0, .int p0, .int p1, .ref ou])).length) Slot.unset).toArray = ls at hl ⊢
  have hl : lv_has ls 5 [(0, .ref h0), (1, .int p0), (2, .int p1), (3, .ref ou)] := hl
  refine lv_aload_n hx hb dL_truth_0 rfl (lv_at hl 3 rfl) ?_
  refine lv_iconst (v := 0) hx hb dL_truth_1 (by decide) ?_
  refine lv_aload_n hx hb dL_truth_2 rfl (lv_at hl 0 rfl) ?_
  refine lv_iload_n hx hb dL_truth_3 rfl (lv_at hl 1 rfl) ?_
  refine lv_iload_n hx hb dL_truth_4 rfl (lv_at hl 2 rfl) ?_
  have hPc := hP.sub (ws' := [(h0, .inr (10, [.ref xa1, .ref xa3, .ref xa15, .ref xa27, .ref xa28, .ref xa33, .ref xa38, .ref xa41, .ref xa45, .ref xa46, .ref xa47, .ref xa52, .ref xa54, .int 0, .ref xa55, .ref xa60, .ref xa62, .ref xa67, .int (-1)])), (xa3, .inr (2, [.ref xa4, .ref xa5, .ref xa6, .ref xa7, .ref xa8, .ref xa9, .ref xa10, .int 0, .int 0, .int 0, .int 5, .ref xa11, .ref xa12, .ref xa13, .ref xa14]))]) [0, 1] rfl
  have hDc := hD.sub (ws' := [(h0, .inr (10, [.ref xa1, .ref xa3, .ref xa15, .ref xa27, .ref xa28, .ref xa33, .ref xa38, .ref xa41, .ref xa45, .ref xa46, .ref xa47, .ref xa52, .ref xa54, .int 0, .ref xa55, .ref xa60, .ref xa62, .ref xa67, .int (-1)])), (xa3, .inr (2, [.ref xa4, .ref xa5, .ref xa6, .ref xa7, .ref xa8, .ref xa9, .ref xa10, .int 0, .int 0, .int 0, .int 5, .ref xa11, .ref xa12, .ref xa13, .ref xa14]))]) [0, 1] (by decide) rfl
  have hFc := va_free (wc := [(h0, .inr (10, [.ref xa1, .ref xa3, .ref xa15, .ref xa27, .ref xa28, .ref xa33, .ref xa38, .ref xa41, .ref xa45, .ref xa46, .ref xa47, .ref xa52, .ref xa54, .int 0, .ref xa55, .ref xa60, .ref xa62, .ref xa67, .int (-1)])), (xa3, .inr (2, [.ref xa4, .ref xa5, .ref xa6, .ref xa7, .ref xa8, .ref xa9, .ref xa10, .int 0, .int 0, .int 0, .int 5, .ref xa11, .ref xa12, .ref xa13, .ref xa14]))]) hD hS hA [0, 1] rfl
  refine vx_calli (vx_runV (As := [.int p0, .int p1]) (rest := [.int 0, .ref ou]) ⟨hx, hb, hml, hown, hts⟩ (k10_truth l hst dC dI kB kI kJ kZ kC kS s.heap.size h0 xa1 xa3 xa15 xa27 xa28 xa33 xa38 xa41 xa45 xa46 xa47 xa52 xa54 xa55 xa60 xa62 xa67 xa4 xa5 xa6 xa7 xa8 xa9 xa10 xa11 xa12 xa13 xa14 p0 p1) (cwV 2 hts gL_truth_X10_truth rfl rfl rfl (by decide +kernel) ⟨Nat.le_of_ble_eq_true rfl, Nat.le_of_ble_eq_true rfl⟩) ⟨fun a U g mk q => by obtain ⟨q0, q1, qP, qE, qD, qX, qT⟩ := q; exact ⟨q0, q1, qP, kE_call qE, qD, kX_call qX, kT_call qT⟩, va_recv hK hP (ci := 10) (q0 := 0) rfl rfl, fun U hU hW => ⟨rfl, by rw [hU], by rw [hU]; exact hPc, kE_warm hW hE, hDc.weaken (fun _ _ _ _ => trivial), kX_warm hW hXs, kT_at hT hS hFc hW hU⟩⟩ rfl rfl hl.1 rfl (lv_room (Nat.le_of_ble_eq_true rfl)) dL_truth_5 ⟨Nat.le_of_ble_eq_true rfl, Nat.le_of_ble_eq_true rfl⟩) hS (fun q _ h => hFc q h) hFc (fun q _ h => hFc q h) (fun E ce q9 u t H1 locs ht hvm hpx hBX hz1 hk1 hS hc9 hv9 hcl9 => ?_) (fun r1 u t H1 locs ht hvm w2 hB hz1 hk1 hS => ?_)
  · subst hBX
    have hP1 : va_P (dC, dI) vwCl [] H1 := fun k q h => by simp at h
    have hD1 : va_D (va_A [(h0, .inr (10, [.ref xa1, .ref xa3, .ref xa15, .ref xa27, .ref xa28, .ref xa33, .ref xa38, .ref xa41, .ref xa45, .ref xa46, .ref xa47, .ref xa52, .ref xa54, .int 0, .ref xa55, .ref xa60, .ref xa62, .ref xa67, .int (-1)])), (xa3, .inr (2, [.ref xa4, .ref xa5, .ref xa6, .ref xa7, .ref xa8, .ref xa9, .ref xa10, .int 0, .int 0, .int 0, .int 5, .ref xa11, .ref xa12, .ref xa13, .ref xa14]))] s.heap.size) [] := ⟨fun i j p q h => by simp at h, fun k q h => by simp at h⟩
    obtain ⟨hP, hD⟩ := va_join (wr := [(ou, .inl (kJ, 1, .inr (.inl fo)))]) (w1 := []) hP hD [0, 1] [2] rfl rfl (by decide) (by decide) hk1 hFc hP1 hD1
    generalize H1 = H at hP hS hc9 ⊢
    have hP : va_P (dC, dI) vwCl [(ou, .inl (kJ, 1, .inr (.inl fo)))] H := hP
    have hD : va_D A [(ou, .inl (kJ, 1, .inr (.inl fo)))] := hD
    have htab := vx_table B (hts (.codeWith yL_truth cL_truth 5 (some .int) [(0, 10, 13, 18)]) (List.mem_of_getElem? (i := 0) (by decide +kernel)))
    refine vx_catch (name := "java/util/NoSuchElementException") hown [] ⟨0, 10, 13, 18⟩ [] (htab.trans rfl) (fun z h => absurd h List.not_mem_nil) rfl (by decide) (hts (.classLink RL 18 "java/util/NoSuchElementException") (List.mem_of_getElem? (i := 1) (by decide +kernel))) (va_Nw.use rfl hXs.1) hc9 hv9 hcl9 ?_
    refine W.widen (k := 1) (n := 6) (Nat.le_of_ble_eq_true rfl) (Nat.le_of_ble_eq_true rfl) ?_
    refine W.eq (g2 := F0 m 13 ls [.ref q9]) rfl ?_
    refine lv_astore (lv' := [(4, .ref q9), (0, .ref h0), (1, .int p0), (2, .int p1), (3, .ref ou)]) hx hb dL_truth_13 hl (by decide) rfl (fun ls hl => ?_)
    refine lv_iconst (v := 1) hx hb dL_truth_15 (by decide) ?_
    have hP9 := hP.sub (ws' := [(ou, .inl (kJ, 1, .inr (.inl fo)))]) [0] rfl
    have hD9 := hD.sub (ws' := [(ou, .inl (kJ, 1, .inr (.inl fo)))]) [0] (by decide) rfl
    exact W.iret (v := 1) hx hb hr (fun t ht hW => ⟨⟨1, (), rfl, rfl, by rw [ht]; exact hP9, hD9⟩, hS.F ht⟩) hS.2.2 dL_truth_16
  · exact w2.elim
def rm_kL10_same : Room := { frames := 8, cells := 1, slots := 6, locals := 125 }
set_option maxHeartbeats 4000000 in
set_option maxRecDepth 100000 in
theorem kL10_same (l : Launch) (hst : l.stackTraces = false) (dC : Nat → ClassId) (dI : Nat → Nat → Nat) (kB kI kJ kZ kC kS : ClassId) (sz : Nat) (h0 : Nat) (xa1 : Nat) (xa3 : Nat) (xa15 : Nat) (xa27 : Nat) (xa28 : Nat) (xa33 : Nat) (xa38 : Nat) (xa41 : Nat) (xa45 : Nat) (xa46 : Nat) (xa47 : Nat) (xa52 : Nat) (xa54 : Nat) (xa55 : Nat) (xa60 : Nat) (xa62 : Nat) (xa67 : Nat) (xa4 : Nat) (xa5 : Nat) (xa6 : Nat) (xa7 : Nat) (xa8 : Nat) (xa9 : Nat) (xa10 : Nat) (xa11 : Nat) (xa12 : Nat) (xa13 : Nat) (xa14 : Nat) (p0 : Int32) (p1 : Int32) (ou : Nat) (fo : Nat → Int64) : Met l yL_same wsL_same rm_kL10_same (va_Pc [.ref h0, .int p0, .int p1, .ref ou] (fun U => U.heap.size = sz ∧ va_P (dC, dI) vwCl [(h0, .inr (10, [.ref xa1, .ref xa3, .ref xa15, .ref xa27, .ref xa28, .ref xa33, .ref xa38, .ref xa41, .ref xa45, .ref xa46, .ref xa47, .ref xa52, .ref xa54, .int 0, .ref xa55, .ref xa60, .ref xa62, .ref xa67, .int (-1)])), (xa3, .inr (2, [.ref xa4, .ref xa5, .ref xa6, .ref xa7, .ref xa8, .ref xa9, .ref xa10, .int 0, .int 0, .int 0, .int 5, .ref xa11, .ref xa12, .ref xa13, .ref xa14])), (ou, .inl (kJ, 1, .inr (.inl fo)))] U.heap ∧ kE dC dI kB kI kJ kZ kC kS U ∧ va_D (fun _ => True) [(h0, .inr (10, [.ref xa1, .ref xa3, .ref xa15, .ref xa27, .ref xa28, .ref xa33, .ref xa38, .ref xa41, .ref xa45, .ref xa46, .ref xa47, .ref xa52, .ref xa54, .int 0, .ref xa55, .ref xa60, .ref xa62, .ref xa67, .int (-1)])), (xa3, .inr (2, [.ref xa4, .ref xa5, .ref xa6, .ref xa7, .ref xa8, .ref xa9, .ref xa10, .int 0, .int 0, .int 0, .int 5, .ref xa11, .ref xa12, .ref xa13, .ref xa14])), (ou, .inl (kJ, 1, .inr (.inl fo)))] ∧ kX U ∧ kT (va_A [(h0, .inr (10, [.ref xa1, .ref xa3, .ref xa15, .ref xa27, .ref xa28, .ref xa33, .ref xa38, .ref xa41, .ref xa45, .ref xa46, .ref xa47, .ref xa52, .ref xa54, .int 0, .ref xa55, .ref xa60, .ref xa62, .ref xa67, .int (-1)])), (xa3, .inr (2, [.ref xa4, .ref xa5, .ref xa6, .ref xa7, .ref xa8, .ref xa9, .ref xa10, .int 0, .int 0, .int 0, .int 5, .ref xa11, .ref xa12, .ref xa13, .ref xa14])), (ou, .inl (kJ, 1, .inr (.inl fo)))] sz) U)) (va_Qi (fun (r : Int32) (_ : Unit) => r = 1) (fun _ t => va_P (dC, dI) vwCl [(ou, .inl (kJ, 1, .inr (.inl fo)))] t.heap ∧ va_D (va_A [(h0, .inr (10, [.ref xa1, .ref xa3, .ref xa15, .ref xa27, .ref xa28, .ref xa33, .ref xa38, .ref xa41, .ref xa45, .ref xa46, .ref xa47, .ref xa52, .ref xa54, .int 0, .ref xa55, .ref xa60, .ref xa62, .ref xa67, .int (-1)])), (xa3, .inr (2, [.ref xa4, .ref xa5, .ref xa6, .ref xa7, .ref xa8, .ref xa9, .ref xa10, .int 0, .int 0, .int 0, .int 5, .ref xa11, .ref xa12, .ref xa13, .ref xa14])), (ou, .inl (kJ, 1, .inr (.inl fo)))] sz) [(ou, .inl (kJ, 1, .inr (.inl fo)))]) (va_A [(h0, .inr (10, [.ref xa1, .ref xa3, .ref xa15, .ref xa27, .ref xa28, .ref xa33, .ref xa38, .ref xa41, .ref xa45, .ref xa46, .ref xa47, .ref xa52, .ref xa54, .int 0, .ref xa55, .ref xa60, .ref xa62, .ref xa67, .int (-1)])), (xa3, .inr (2, [.ref xa4, .ref xa5, .ref xa6, .ref xa7, .ref xa8, .ref xa9, .ref xa10, .int 0, .int 0, .int 0, .int 5, .ref xa11, .ref xa12, .ref xa13, .ref xa14])), (ou, .inl (kJ, 1, .inr (.inl fo)))] sz)) 1 6 (va_A [(h0, .inr (10, [.ref xa1, .ref xa3, .ref xa15, .ref xa27, .ref xa28, .ref xa33, .ref xa38, .ref xa41, .ref xa45, .ref xa46, .ref xa47, .ref xa52, .ref xa54, .int 0, .ref xa55, .ref xa60, .ref xa62, .ref xa67, .int (-1)])), (xa3, .inr (2, [.ref xa4, .ref xa5, .ref xa6, .ref xa7, .ref xa8, .ref xa9, .ref xa10, .int 0, .int 0, .int 0, .int 5, .ref xa11, .ref xa12, .ref xa13, .ref xa14])), (ou, .inl (kJ, 1, .inr (.inl fo)))] sz) := by
  refine va_MetW (cc := cL_same) (maxL := 5) (ret := (some .int)) (by decide) rfl ?_
  intro p e s m args0 below meth c s₁ B hml hv
  obtain ⟨hargs, hsz, hP, hE, hD0, hXs, hT⟩ := hv
  have hx := B.exec
  have hb := B.bytes
  have hr := B.returns
  have hts := atoms_spec (ws := wsL_same) B.pre
  have hown : s.vm.findClass RL = some m.cls := findClass_of_methodNamed B.named
  have hlocks := B.notSynchronized
  have hK := hE.1
  have hin10 : ∀ w ∈ wsX100, w ∈ wsL_same := fun _ h9 => List.mem_cons_of_mem _ (List.mem_append_left _ (List.mem_append_left _ (List.mem_append_right _ h9)))
  have hin2 : ∀ w ∈ wsX20, w ∈ wsL_same := fun _ h9 => List.mem_cons_of_mem _ (List.mem_append_left _ (List.mem_append_right _ h9))
  subst hsz
  have hD := hD0.self (sz := s.heap.size)
  generalize hAe : va_A [(h0, .inr (10, [.ref xa1, .ref xa3, .ref xa15, .ref xa27, .ref xa28, .ref xa33, .ref xa38, .ref xa41, .ref xa45, .ref xa46, .ref xa47, .ref xa52, .ref xa54, .int 0, .ref xa55, .ref xa60, .ref xa62, .ref xa67, .int (-1)])), (xa3, .inr (2, [.ref xa4, .ref xa5, .ref xa6, .ref xa7, .ref xa8, .ref xa9, .ref xa10, .int 0, .int 0, .int 0, .int 5, .ref xa11, .ref xa12, .ref xa13, .ref xa14])), (ou, .inl (kJ, 1, .inr (.inl fo)))] s.heap.size = A at hD hT ⊢
  have hA : ∀ q : Nat, s.heap.size ≤ q → A q := fun q h => by rw [← hAe]; exact Or.inr h
  have hS : va_S A s.heap s.heap [] := va_S.rf
  have hP : va_P (dC, dI) vwCl [(h0, .inr (10, [.ref xa1, .ref xa3, .ref xa15, .ref xa27, .ref xa28, .ref xa33, .ref xa38, .ref xa41, .ref xa45, .ref xa46, .ref xa47, .ref xa52, .ref xa54, .int 0, .ref xa55, .ref xa60, .ref xa62, .ref xa67, .int (-1)])), (xa3, .inr (2, [.ref xa4, .ref xa5, .ref xa6, .ref xa7, .ref xa8, .ref xa9, .ref xa10, .int 0, .int 0, .int 0, .int 5, .ref xa11, .ref xa12, .ref xa13, .ref xa14])), (ou, .inl (kJ, 1, .inr (.inl fo)))] s.heap := hP
  have hl := lv_entry ([.ref h0, .int p0, .int p1, .ref ou]) (n := 5) (Nat.le_of_ble_eq_true rfl)
  have hla : entryFrame m args0 5 = entryFrame m ([.ref h0, .int p0, .int p1, .ref ou] : List Value).toArray 5 := by rw [hargs]
  rw [hla, lg_entry_eq]
  generalize (lg_sl ([.ref h0, .int p0, .int p1, .ref ou]) ++ List.replicate (5 - (lg_sl ([.ref h0, .int p0, .int p1, .ref ou])).length) Slot.unset).toArray = ls at hl ⊢
  have hl : lv_has ls 5 [(0, .ref h0), (1, .int p0), (2, .int p1), (3, .ref ou)] := hl
  refine lv_aload_n hx hb dL_same_0 rfl (lv_at hl 3 rfl) ?_
  refine lv_iconst (v := 0) hx hb dL_same_1 (by decide) ?_
  refine lv_aload_n hx hb dL_same_2 rfl (lv_at hl 0 rfl) ?_
  refine lv_iload_n hx hb dL_same_3 rfl (lv_at hl 1 rfl) ?_
  refine lv_iload_n hx hb dL_same_4 rfl (lv_at hl 2 rfl) ?_
  have hPc := hP.sub (ws' := [(h0, .inr (10, [.ref xa1, .ref xa3, .ref xa15, .ref xa27, .ref xa28, .ref xa33, .ref xa38, .ref xa41, .ref xa45, .ref xa46, .ref xa47, .ref xa52, .ref xa54, .int 0, .ref xa55, .ref xa60, .ref xa62, .ref xa67, .int (-1)])), (xa3, .inr (2, [.ref xa4, .ref xa5, .ref xa6, .ref xa7, .ref xa8, .ref xa9, .ref xa10, .int 0, .int 0, .int 0, .int 5, .ref xa11, .ref xa12, .ref xa13, .ref xa14]))]) [0, 1] rfl
  have hDc := hD.sub (ws' := [(h0, .inr (10, [.ref xa1, .ref xa3, .ref xa15, .ref xa27, .ref xa28, .ref xa33, .ref xa38, .ref xa41, .ref xa45, .ref xa46, .ref xa47, .ref xa52, .ref xa54, .int 0, .ref xa55, .ref xa60, .ref xa62, .ref xa67, .int (-1)])), (xa3, .inr (2, [.ref xa4, .ref xa5, .ref xa6, .ref xa7, .ref xa8, .ref xa9, .ref xa10, .int 0, .int 0, .int 0, .int 5, .ref xa11, .ref xa12, .ref xa13, .ref xa14]))]) [0, 1] (by decide) rfl
  have hFc := va_free (wc := [(h0, .inr (10, [.ref xa1, .ref xa3, .ref xa15, .ref xa27, .ref xa28, .ref xa33, .ref xa38, .ref xa41, .ref xa45, .ref xa46, .ref xa47, .ref xa52, .ref xa54, .int 0, .ref xa55, .ref xa60, .ref xa62, .ref xa67, .int (-1)])), (xa3, .inr (2, [.ref xa4, .ref xa5, .ref xa6, .ref xa7, .ref xa8, .ref xa9, .ref xa10, .int 0, .int 0, .int 0, .int 5, .ref xa11, .ref xa12, .ref xa13, .ref xa14]))]) hD hS hA [0, 1] rfl
  refine vx_calli (vx_runV (As := [.int p0, .int p1]) (rest := [.int 0, .ref ou]) ⟨hx, hb, hml, hown, hts⟩ (k10_same l hst dC dI kB kI kJ kZ kC kS s.heap.size h0 xa1 xa3 xa15 xa27 xa28 xa33 xa38 xa41 xa45 xa46 xa47 xa52 xa54 xa55 xa60 xa62 xa67 xa4 xa5 xa6 xa7 xa8 xa9 xa10 xa11 xa12 xa13 xa14 p0 p1) (cwV 2 hts gL_same_X10_same rfl rfl rfl (by decide +kernel) ⟨Nat.le_of_ble_eq_true rfl, Nat.le_of_ble_eq_true rfl⟩) ⟨fun a U g mk q => by obtain ⟨q0, q1, qP, qE, qD, qX, qT⟩ := q; exact ⟨q0, q1, qP, kE_call qE, qD, kX_call qX, kT_call qT⟩, va_recv hK hP (ci := 10) (q0 := 0) rfl rfl, fun U hU hW => ⟨rfl, by rw [hU], by rw [hU]; exact hPc, kE_warm hW hE, hDc.weaken (fun _ _ _ _ => trivial), kX_warm hW hXs, kT_at hT hS hFc hW hU⟩⟩ rfl rfl hl.1 rfl (lv_room (Nat.le_of_ble_eq_true rfl)) dL_same_5 ⟨Nat.le_of_ble_eq_true rfl, Nat.le_of_ble_eq_true rfl⟩) hS (fun q _ h => hFc q h) hFc (fun q _ h => hFc q h) (fun E ce q9 u t H1 locs ht hvm hpx hBX hz1 hk1 hS hc9 hv9 hcl9 => ?_) (fun r1 u t H1 locs ht hvm w2 hB hz1 hk1 hS => ?_)
  · subst hBX
    have hP1 : va_P (dC, dI) vwCl [] H1 := fun k q h => by simp at h
    have hD1 : va_D (va_A [(h0, .inr (10, [.ref xa1, .ref xa3, .ref xa15, .ref xa27, .ref xa28, .ref xa33, .ref xa38, .ref xa41, .ref xa45, .ref xa46, .ref xa47, .ref xa52, .ref xa54, .int 0, .ref xa55, .ref xa60, .ref xa62, .ref xa67, .int (-1)])), (xa3, .inr (2, [.ref xa4, .ref xa5, .ref xa6, .ref xa7, .ref xa8, .ref xa9, .ref xa10, .int 0, .int 0, .int 0, .int 5, .ref xa11, .ref xa12, .ref xa13, .ref xa14]))] s.heap.size) [] := ⟨fun i j p q h => by simp at h, fun k q h => by simp at h⟩
    obtain ⟨hP, hD⟩ := va_join (wr := [(ou, .inl (kJ, 1, .inr (.inl fo)))]) (w1 := []) hP hD [0, 1] [2] rfl rfl (by decide) (by decide) hk1 hFc hP1 hD1
    generalize H1 = H at hP hS hc9 ⊢
    have hP : va_P (dC, dI) vwCl [(ou, .inl (kJ, 1, .inr (.inl fo)))] H := hP
    have hD : va_D A [(ou, .inl (kJ, 1, .inr (.inl fo)))] := hD
    have htab := vx_table B (hts (.codeWith yL_same cL_same 5 (some .int) [(0, 10, 13, 18)]) (List.mem_of_getElem? (i := 0) (by decide +kernel)))
    refine vx_catch (name := "java/util/NoSuchElementException") hown [] ⟨0, 10, 13, 18⟩ [] (htab.trans rfl) (fun z h => absurd h List.not_mem_nil) rfl (by decide) (hts (.classLink RL 18 "java/util/NoSuchElementException") (List.mem_of_getElem? (i := 1) (by decide +kernel))) (va_Nw.use rfl hXs.1) hc9 hv9 hcl9 ?_
    refine W.widen (k := 1) (n := 6) (Nat.le_of_ble_eq_true rfl) (Nat.le_of_ble_eq_true rfl) ?_
    refine W.eq (g2 := F0 m 13 ls [.ref q9]) rfl ?_
    refine lv_astore (lv' := [(4, .ref q9), (0, .ref h0), (1, .int p0), (2, .int p1), (3, .ref ou)]) hx hb dL_same_13 hl (by decide) rfl (fun ls hl => ?_)
    refine lv_iconst (v := 1) hx hb dL_same_15 (by decide) ?_
    have hP9 := hP.sub (ws' := [(ou, .inl (kJ, 1, .inr (.inl fo)))]) [0] rfl
    have hD9 := hD.sub (ws' := [(ou, .inl (kJ, 1, .inr (.inl fo)))]) [0] (by decide) rfl
    exact W.iret (v := 1) hx hb hr (fun t ht hW => ⟨⟨1, (), rfl, rfl, by rw [ht]; exact hP9, hD9⟩, hS.F ht⟩) hS.2.2 dL_same_16
  · exact w2.elim
def rm_kL10_port : Room := { frames := 8, cells := 1, slots := 6, locals := 126 }
set_option maxHeartbeats 4000000 in
set_option maxRecDepth 100000 in
theorem kL10_port (l : Launch) (hst : l.stackTraces = false) (dC : Nat → ClassId) (dI : Nat → Nat → Nat) (kB kI kJ kZ kC kS : ClassId) (sz : Nat) (h0 : Nat) (xa1 : Nat) (xa3 : Nat) (xa15 : Nat) (xa27 : Nat) (xa28 : Nat) (xa33 : Nat) (xa38 : Nat) (xa41 : Nat) (xa45 : Nat) (xa46 : Nat) (xa47 : Nat) (xa52 : Nat) (xa54 : Nat) (xa55 : Nat) (xa60 : Nat) (xa62 : Nat) (xa67 : Nat) (xa4 : Nat) (xa5 : Nat) (xa6 : Nat) (xa7 : Nat) (xa8 : Nat) (xa9 : Nat) (xa10 : Nat) (xa11 : Nat) (xa12 : Nat) (xa13 : Nat) (xa14 : Nat) (p0 : Int32) (p1 : Int32) (ou : Nat) (fo : Nat → Int64) : Met l yL_port wsL_port rm_kL10_port (va_Pc [.ref h0, .int p0, .int p1, .ref ou] (fun U => U.heap.size = sz ∧ va_P (dC, dI) vwCl [(h0, .inr (10, [.ref xa1, .ref xa3, .ref xa15, .ref xa27, .ref xa28, .ref xa33, .ref xa38, .ref xa41, .ref xa45, .ref xa46, .ref xa47, .ref xa52, .ref xa54, .int 0, .ref xa55, .ref xa60, .ref xa62, .ref xa67, .int (-1)])), (xa3, .inr (2, [.ref xa4, .ref xa5, .ref xa6, .ref xa7, .ref xa8, .ref xa9, .ref xa10, .int 0, .int 0, .int 0, .int 5, .ref xa11, .ref xa12, .ref xa13, .ref xa14])), (ou, .inl (kJ, 1, .inr (.inl fo)))] U.heap ∧ kE dC dI kB kI kJ kZ kC kS U ∧ va_D (fun _ => True) [(h0, .inr (10, [.ref xa1, .ref xa3, .ref xa15, .ref xa27, .ref xa28, .ref xa33, .ref xa38, .ref xa41, .ref xa45, .ref xa46, .ref xa47, .ref xa52, .ref xa54, .int 0, .ref xa55, .ref xa60, .ref xa62, .ref xa67, .int (-1)])), (xa3, .inr (2, [.ref xa4, .ref xa5, .ref xa6, .ref xa7, .ref xa8, .ref xa9, .ref xa10, .int 0, .int 0, .int 0, .int 5, .ref xa11, .ref xa12, .ref xa13, .ref xa14])), (ou, .inl (kJ, 1, .inr (.inl fo)))] ∧ kX U ∧ kT (va_A [(h0, .inr (10, [.ref xa1, .ref xa3, .ref xa15, .ref xa27, .ref xa28, .ref xa33, .ref xa38, .ref xa41, .ref xa45, .ref xa46, .ref xa47, .ref xa52, .ref xa54, .int 0, .ref xa55, .ref xa60, .ref xa62, .ref xa67, .int (-1)])), (xa3, .inr (2, [.ref xa4, .ref xa5, .ref xa6, .ref xa7, .ref xa8, .ref xa9, .ref xa10, .int 0, .int 0, .int 0, .int 5, .ref xa11, .ref xa12, .ref xa13, .ref xa14])), (ou, .inl (kJ, 1, .inr (.inl fo)))] sz) U)) (va_Qi (fun (r : Int32) (_ : Unit) => r = 1) (fun _ t => va_P (dC, dI) vwCl [(ou, .inl (kJ, 1, .inr (.inl fo)))] t.heap ∧ va_D (va_A [(h0, .inr (10, [.ref xa1, .ref xa3, .ref xa15, .ref xa27, .ref xa28, .ref xa33, .ref xa38, .ref xa41, .ref xa45, .ref xa46, .ref xa47, .ref xa52, .ref xa54, .int 0, .ref xa55, .ref xa60, .ref xa62, .ref xa67, .int (-1)])), (xa3, .inr (2, [.ref xa4, .ref xa5, .ref xa6, .ref xa7, .ref xa8, .ref xa9, .ref xa10, .int 0, .int 0, .int 0, .int 5, .ref xa11, .ref xa12, .ref xa13, .ref xa14])), (ou, .inl (kJ, 1, .inr (.inl fo)))] sz) [(ou, .inl (kJ, 1, .inr (.inl fo)))]) (va_A [(h0, .inr (10, [.ref xa1, .ref xa3, .ref xa15, .ref xa27, .ref xa28, .ref xa33, .ref xa38, .ref xa41, .ref xa45, .ref xa46, .ref xa47, .ref xa52, .ref xa54, .int 0, .ref xa55, .ref xa60, .ref xa62, .ref xa67, .int (-1)])), (xa3, .inr (2, [.ref xa4, .ref xa5, .ref xa6, .ref xa7, .ref xa8, .ref xa9, .ref xa10, .int 0, .int 0, .int 0, .int 5, .ref xa11, .ref xa12, .ref xa13, .ref xa14])), (ou, .inl (kJ, 1, .inr (.inl fo)))] sz)) 1 6 (va_A [(h0, .inr (10, [.ref xa1, .ref xa3, .ref xa15, .ref xa27, .ref xa28, .ref xa33, .ref xa38, .ref xa41, .ref xa45, .ref xa46, .ref xa47, .ref xa52, .ref xa54, .int 0, .ref xa55, .ref xa60, .ref xa62, .ref xa67, .int (-1)])), (xa3, .inr (2, [.ref xa4, .ref xa5, .ref xa6, .ref xa7, .ref xa8, .ref xa9, .ref xa10, .int 0, .int 0, .int 0, .int 5, .ref xa11, .ref xa12, .ref xa13, .ref xa14])), (ou, .inl (kJ, 1, .inr (.inl fo)))] sz) := by
  refine va_MetW (cc := cL_port) (maxL := 5) (ret := (some .int)) (by decide) rfl ?_
  intro p e s m args0 below meth c s₁ B hml hv
  obtain ⟨hargs, hsz, hP, hE, hD0, hXs, hT⟩ := hv
  have hx := B.exec
  have hb := B.bytes
  have hr := B.returns
  have hts := atoms_spec (ws := wsL_port) B.pre
  have hown : s.vm.findClass RL = some m.cls := findClass_of_methodNamed B.named
  have hlocks := B.notSynchronized
  have hK := hE.1
  have hin10 : ∀ w ∈ wsX100, w ∈ wsL_port := fun _ h9 => List.mem_cons_of_mem _ (List.mem_append_left _ (List.mem_append_left _ (List.mem_append_left _ (List.mem_append_left _ (List.mem_append_right _ h9)))))
  have hin2 : ∀ w ∈ wsX20, w ∈ wsL_port := fun _ h9 => List.mem_cons_of_mem _ (List.mem_append_left _ (List.mem_append_left _ (List.mem_append_left _ (List.mem_append_right _ h9))))
  have hin9 : ∀ w ∈ wsX90, w ∈ wsL_port := fun _ h9 => List.mem_cons_of_mem _ (List.mem_append_left _ (List.mem_append_left _ (List.mem_append_right _ h9)))
  have hin0 : ∀ w ∈ wsX00, w ∈ wsL_port := fun _ h9 => List.mem_cons_of_mem _ (List.mem_append_left _ (List.mem_append_right _ h9))
  subst hsz
  have hD := hD0.self (sz := s.heap.size)
  generalize hAe : va_A [(h0, .inr (10, [.ref xa1, .ref xa3, .ref xa15, .ref xa27, .ref xa28, .ref xa33, .ref xa38, .ref xa41, .ref xa45, .ref xa46, .ref xa47, .ref xa52, .ref xa54, .int 0, .ref xa55, .ref xa60, .ref xa62, .ref xa67, .int (-1)])), (xa3, .inr (2, [.ref xa4, .ref xa5, .ref xa6, .ref xa7, .ref xa8, .ref xa9, .ref xa10, .int 0, .int 0, .int 0, .int 5, .ref xa11, .ref xa12, .ref xa13, .ref xa14])), (ou, .inl (kJ, 1, .inr (.inl fo)))] s.heap.size = A at hD hT ⊢
  have hA : ∀ q : Nat, s.heap.size ≤ q → A q := fun q h => by rw [← hAe]; exact Or.inr h
  have hS : va_S A s.heap s.heap [] := va_S.rf
  have hP : va_P (dC, dI) vwCl [(h0, .inr (10, [.ref xa1, .ref xa3, .ref xa15, .ref xa27, .ref xa28, .ref xa33, .ref xa38, .ref xa41, .ref xa45, .ref xa46, .ref xa47, .ref xa52, .ref xa54, .int 0, .ref xa55, .ref xa60, .ref xa62, .ref xa67, .int (-1)])), (xa3, .inr (2, [.ref xa4, .ref xa5, .ref xa6, .ref xa7, .ref xa8, .ref xa9, .ref xa10, .int 0, .int 0, .int 0, .int 5, .ref xa11, .ref xa12, .ref xa13, .ref xa14])), (ou, .inl (kJ, 1, .inr (.inl fo)))] s.heap := hP
  have hl := lv_entry ([.ref h0, .int p0, .int p1, .ref ou]) (n := 5) (Nat.le_of_ble_eq_true rfl)
  have hla : entryFrame m args0 5 = entryFrame m ([.ref h0, .int p0, .int p1, .ref ou] : List Value).toArray 5 := by rw [hargs]
  rw [hla, lg_entry_eq]
  generalize (lg_sl ([.ref h0, .int p0, .int p1, .ref ou]) ++ List.replicate (5 - (lg_sl ([.ref h0, .int p0, .int p1, .ref ou])).length) Slot.unset).toArray = ls at hl ⊢
  have hl : lv_has ls 5 [(0, .ref h0), (1, .int p0), (2, .int p1), (3, .ref ou)] := hl
  refine lv_aload_n hx hb dL_port_0 rfl (lv_at hl 3 rfl) ?_
  refine lv_iconst (v := 0) hx hb dL_port_1 (by decide) ?_
  refine lv_aload_n hx hb dL_port_2 rfl (lv_at hl 0 rfl) ?_
  refine lv_iload_n hx hb dL_port_3 rfl (lv_at hl 1 rfl) ?_
  refine lv_iload_n hx hb dL_port_4 rfl (lv_at hl 2 rfl) ?_
  have hPc := hP.sub (ws' := [(h0, .inr (10, [.ref xa1, .ref xa3, .ref xa15, .ref xa27, .ref xa28, .ref xa33, .ref xa38, .ref xa41, .ref xa45, .ref xa46, .ref xa47, .ref xa52, .ref xa54, .int 0, .ref xa55, .ref xa60, .ref xa62, .ref xa67, .int (-1)])), (xa3, .inr (2, [.ref xa4, .ref xa5, .ref xa6, .ref xa7, .ref xa8, .ref xa9, .ref xa10, .int 0, .int 0, .int 0, .int 5, .ref xa11, .ref xa12, .ref xa13, .ref xa14]))]) [0, 1] rfl
  have hDc := hD.sub (ws' := [(h0, .inr (10, [.ref xa1, .ref xa3, .ref xa15, .ref xa27, .ref xa28, .ref xa33, .ref xa38, .ref xa41, .ref xa45, .ref xa46, .ref xa47, .ref xa52, .ref xa54, .int 0, .ref xa55, .ref xa60, .ref xa62, .ref xa67, .int (-1)])), (xa3, .inr (2, [.ref xa4, .ref xa5, .ref xa6, .ref xa7, .ref xa8, .ref xa9, .ref xa10, .int 0, .int 0, .int 0, .int 5, .ref xa11, .ref xa12, .ref xa13, .ref xa14]))]) [0, 1] (by decide) rfl
  have hFc := va_free (wc := [(h0, .inr (10, [.ref xa1, .ref xa3, .ref xa15, .ref xa27, .ref xa28, .ref xa33, .ref xa38, .ref xa41, .ref xa45, .ref xa46, .ref xa47, .ref xa52, .ref xa54, .int 0, .ref xa55, .ref xa60, .ref xa62, .ref xa67, .int (-1)])), (xa3, .inr (2, [.ref xa4, .ref xa5, .ref xa6, .ref xa7, .ref xa8, .ref xa9, .ref xa10, .int 0, .int 0, .int 0, .int 5, .ref xa11, .ref xa12, .ref xa13, .ref xa14]))]) hD hS hA [0, 1] rfl
  refine vx_calli (vx_runV (As := [.int p0, .int p1]) (rest := [.int 0, .ref ou]) ⟨hx, hb, hml, hown, hts⟩ (k10_port l hst dC dI kB kI kJ kZ kC kS s.heap.size h0 xa1 xa3 xa15 xa27 xa28 xa33 xa38 xa41 xa45 xa46 xa47 xa52 xa54 xa55 xa60 xa62 xa67 xa4 xa5 xa6 xa7 xa8 xa9 xa10 xa11 xa12 xa13 xa14 p0 p1) (cwV 2 hts gL_port_X10_port rfl rfl rfl (by decide +kernel) ⟨Nat.le_of_ble_eq_true rfl, Nat.le_of_ble_eq_true rfl⟩) ⟨fun a U g mk q => by obtain ⟨q0, q1, qP, qE, qD, qX, qT⟩ := q; exact ⟨q0, q1, qP, kE_call qE, qD, kX_call qX, kT_call qT⟩, va_recv hK hP (ci := 10) (q0 := 0) rfl rfl, fun U hU hW => ⟨rfl, by rw [hU], by rw [hU]; exact hPc, kE_warm hW hE, hDc.weaken (fun _ _ _ _ => trivial), kX_warm hW hXs, kT_at hT hS hFc hW hU⟩⟩ rfl rfl hl.1 rfl (lv_room (Nat.le_of_ble_eq_true rfl)) dL_port_5 ⟨Nat.le_of_ble_eq_true rfl, Nat.le_of_ble_eq_true rfl⟩) hS (fun q _ h => hFc q h) hFc (fun q _ h => hFc q h) (fun E ce q9 u t H1 locs ht hvm hpx hBX hz1 hk1 hS hc9 hv9 hcl9 => ?_) (fun r1 u t H1 locs ht hvm w2 hB hz1 hk1 hS => ?_)
  · subst hBX
    have hP1 : va_P (dC, dI) vwCl [] H1 := fun k q h => by simp at h
    have hD1 : va_D (va_A [(h0, .inr (10, [.ref xa1, .ref xa3, .ref xa15, .ref xa27, .ref xa28, .ref xa33, .ref xa38, .ref xa41, .ref xa45, .ref xa46, .ref xa47, .ref xa52, .ref xa54, .int 0, .ref xa55, .ref xa60, .ref xa62, .ref xa67, .int (-1)])), (xa3, .inr (2, [.ref xa4, .ref xa5, .ref xa6, .ref xa7, .ref xa8, .ref xa9, .ref xa10, .int 0, .int 0, .int 0, .int 5, .ref xa11, .ref xa12, .ref xa13, .ref xa14]))] s.heap.size) [] := ⟨fun i j p q h => by simp at h, fun k q h => by simp at h⟩
    obtain ⟨hP, hD⟩ := va_join (wr := [(ou, .inl (kJ, 1, .inr (.inl fo)))]) (w1 := []) hP hD [0, 1] [2] rfl rfl (by decide) (by decide) hk1 hFc hP1 hD1
    generalize H1 = H at hP hS hc9 ⊢
    have hP : va_P (dC, dI) vwCl [(ou, .inl (kJ, 1, .inr (.inl fo)))] H := hP
    have hD : va_D A [(ou, .inl (kJ, 1, .inr (.inl fo)))] := hD
    have htab := vx_table B (hts (.codeWith yL_port cL_port 5 (some .int) [(0, 10, 13, 18)]) (List.mem_of_getElem? (i := 0) (by decide +kernel)))
    refine vx_catch (name := "java/util/NoSuchElementException") hown [] ⟨0, 10, 13, 18⟩ [] (htab.trans rfl) (fun z h => absurd h List.not_mem_nil) rfl (by decide) (hts (.classLink RL 18 "java/util/NoSuchElementException") (List.mem_of_getElem? (i := 1) (by decide +kernel))) (va_Nw.use rfl hXs.1) hc9 hv9 hcl9 ?_
    refine W.widen (k := 1) (n := 6) (Nat.le_of_ble_eq_true rfl) (Nat.le_of_ble_eq_true rfl) ?_
    refine W.eq (g2 := F0 m 13 ls [.ref q9]) rfl ?_
    refine lv_astore (lv' := [(4, .ref q9), (0, .ref h0), (1, .int p0), (2, .int p1), (3, .ref ou)]) hx hb dL_port_13 hl (by decide) rfl (fun ls hl => ?_)
    refine lv_iconst (v := 1) hx hb dL_port_15 (by decide) ?_
    have hP9 := hP.sub (ws' := [(ou, .inl (kJ, 1, .inr (.inl fo)))]) [0] rfl
    have hD9 := hD.sub (ws' := [(ou, .inl (kJ, 1, .inr (.inl fo)))]) [0] (by decide) rfl
    exact W.iret (v := 1) hx hb hr (fun t ht hW => ⟨⟨1, (), rfl, rfl, by rw [ht]; exact hP9, hD9⟩, hS.F ht⟩) hS.2.2 dL_port_16
  · exact w2.elim
def rm_kL10_use : Room := { frames := 8, cells := 1, slots := 6, locals := 127 }
set_option maxHeartbeats 4000000 in
set_option maxRecDepth 100000 in
theorem kL10_use (l : Launch) (hst : l.stackTraces = false) (dC : Nat → ClassId) (dI : Nat → Nat → Nat) (kB kI kJ kZ kC kS : ClassId) (sz : Nat) (h0 : Nat) (xa1 : Nat) (xa3 : Nat) (xa15 : Nat) (xa27 : Nat) (xa28 : Nat) (xa33 : Nat) (xa38 : Nat) (xa41 : Nat) (xa45 : Nat) (xa46 : Nat) (xa47 : Nat) (xa52 : Nat) (xa54 : Nat) (xa55 : Nat) (xa60 : Nat) (xa62 : Nat) (xa67 : Nat) (xa4 : Nat) (xa5 : Nat) (xa6 : Nat) (xa7 : Nat) (xa8 : Nat) (xa9 : Nat) (xa10 : Nat) (xa11 : Nat) (xa12 : Nat) (xa13 : Nat) (xa14 : Nat) (p0 : Int32) (p1 : Int32) (ou : Nat) (fo : Nat → Int64) : Met l yL_use wsL_use rm_kL10_use (va_Pc [.ref h0, .int p0, .int p1, .ref ou] (fun U => U.heap.size = sz ∧ va_P (dC, dI) vwCl [(h0, .inr (10, [.ref xa1, .ref xa3, .ref xa15, .ref xa27, .ref xa28, .ref xa33, .ref xa38, .ref xa41, .ref xa45, .ref xa46, .ref xa47, .ref xa52, .ref xa54, .int 0, .ref xa55, .ref xa60, .ref xa62, .ref xa67, .int (-1)])), (xa3, .inr (2, [.ref xa4, .ref xa5, .ref xa6, .ref xa7, .ref xa8, .ref xa9, .ref xa10, .int 0, .int 0, .int 0, .int 5, .ref xa11, .ref xa12, .ref xa13, .ref xa14])), (ou, .inl (kJ, 1, .inr (.inl fo)))] U.heap ∧ kE dC dI kB kI kJ kZ kC kS U ∧ va_D (fun _ => True) [(h0, .inr (10, [.ref xa1, .ref xa3, .ref xa15, .ref xa27, .ref xa28, .ref xa33, .ref xa38, .ref xa41, .ref xa45, .ref xa46, .ref xa47, .ref xa52, .ref xa54, .int 0, .ref xa55, .ref xa60, .ref xa62, .ref xa67, .int (-1)])), (xa3, .inr (2, [.ref xa4, .ref xa5, .ref xa6, .ref xa7, .ref xa8, .ref xa9, .ref xa10, .int 0, .int 0, .int 0, .int 5, .ref xa11, .ref xa12, .ref xa13, .ref xa14])), (ou, .inl (kJ, 1, .inr (.inl fo)))] ∧ kX U ∧ kT (va_A [(h0, .inr (10, [.ref xa1, .ref xa3, .ref xa15, .ref xa27, .ref xa28, .ref xa33, .ref xa38, .ref xa41, .ref xa45, .ref xa46, .ref xa47, .ref xa52, .ref xa54, .int 0, .ref xa55, .ref xa60, .ref xa62, .ref xa67, .int (-1)])), (xa3, .inr (2, [.ref xa4, .ref xa5, .ref xa6, .ref xa7, .ref xa8, .ref xa9, .ref xa10, .int 0, .int 0, .int 0, .int 5, .ref xa11, .ref xa12, .ref xa13, .ref xa14])), (ou, .inl (kJ, 1, .inr (.inl fo)))] sz) U)) (va_Qi (fun (r : Int32) (_ : Unit) => r = 1) (fun _ t => va_P (dC, dI) vwCl [(ou, .inl (kJ, 1, .inr (.inl fo)))] t.heap ∧ va_D (va_A [(h0, .inr (10, [.ref xa1, .ref xa3, .ref xa15, .ref xa27, .ref xa28, .ref xa33, .ref xa38, .ref xa41, .ref xa45, .ref xa46, .ref xa47, .ref xa52, .ref xa54, .int 0, .ref xa55, .ref xa60, .ref xa62, .ref xa67, .int (-1)])), (xa3, .inr (2, [.ref xa4, .ref xa5, .ref xa6, .ref xa7, .ref xa8, .ref xa9, .ref xa10, .int 0, .int 0, .int 0, .int 5, .ref xa11, .ref xa12, .ref xa13, .ref xa14])), (ou, .inl (kJ, 1, .inr (.inl fo)))] sz) [(ou, .inl (kJ, 1, .inr (.inl fo)))]) (va_A [(h0, .inr (10, [.ref xa1, .ref xa3, .ref xa15, .ref xa27, .ref xa28, .ref xa33, .ref xa38, .ref xa41, .ref xa45, .ref xa46, .ref xa47, .ref xa52, .ref xa54, .int 0, .ref xa55, .ref xa60, .ref xa62, .ref xa67, .int (-1)])), (xa3, .inr (2, [.ref xa4, .ref xa5, .ref xa6, .ref xa7, .ref xa8, .ref xa9, .ref xa10, .int 0, .int 0, .int 0, .int 5, .ref xa11, .ref xa12, .ref xa13, .ref xa14])), (ou, .inl (kJ, 1, .inr (.inl fo)))] sz)) 1 6 (va_A [(h0, .inr (10, [.ref xa1, .ref xa3, .ref xa15, .ref xa27, .ref xa28, .ref xa33, .ref xa38, .ref xa41, .ref xa45, .ref xa46, .ref xa47, .ref xa52, .ref xa54, .int 0, .ref xa55, .ref xa60, .ref xa62, .ref xa67, .int (-1)])), (xa3, .inr (2, [.ref xa4, .ref xa5, .ref xa6, .ref xa7, .ref xa8, .ref xa9, .ref xa10, .int 0, .int 0, .int 0, .int 5, .ref xa11, .ref xa12, .ref xa13, .ref xa14])), (ou, .inl (kJ, 1, .inr (.inl fo)))] sz) := by
  refine va_MetW (cc := cL_use) (maxL := 5) (ret := (some .int)) (by decide) rfl ?_
  intro p e s m args0 below meth c s₁ B hml hv
  obtain ⟨hargs, hsz, hP, hE, hD0, hXs, hT⟩ := hv
  have hx := B.exec
  have hb := B.bytes
  have hr := B.returns
  have hts := atoms_spec (ws := wsL_use) B.pre
  have hown : s.vm.findClass RL = some m.cls := findClass_of_methodNamed B.named
  have hlocks := B.notSynchronized
  have hK := hE.1
  have hin10 : ∀ w ∈ wsX100, w ∈ wsL_use := fun _ h9 => List.mem_cons_of_mem _ (List.mem_append_left _ (List.mem_append_left _ (List.mem_append_left _ (List.mem_append_left _ (List.mem_append_right _ h9)))))
  have hin2 : ∀ w ∈ wsX20, w ∈ wsL_use := fun _ h9 => List.mem_cons_of_mem _ (List.mem_append_left _ (List.mem_append_left _ (List.mem_append_left _ (List.mem_append_right _ h9))))
  have hin9 : ∀ w ∈ wsX90, w ∈ wsL_use := fun _ h9 => List.mem_cons_of_mem _ (List.mem_append_left _ (List.mem_append_left _ (List.mem_append_right _ h9)))
  have hin0 : ∀ w ∈ wsX00, w ∈ wsL_use := fun _ h9 => List.mem_cons_of_mem _ (List.mem_append_left _ (List.mem_append_right _ h9))
  subst hsz
  have hD := hD0.self (sz := s.heap.size)
  generalize hAe : va_A [(h0, .inr (10, [.ref xa1, .ref xa3, .ref xa15, .ref xa27, .ref xa28, .ref xa33, .ref xa38, .ref xa41, .ref xa45, .ref xa46, .ref xa47, .ref xa52, .ref xa54, .int 0, .ref xa55, .ref xa60, .ref xa62, .ref xa67, .int (-1)])), (xa3, .inr (2, [.ref xa4, .ref xa5, .ref xa6, .ref xa7, .ref xa8, .ref xa9, .ref xa10, .int 0, .int 0, .int 0, .int 5, .ref xa11, .ref xa12, .ref xa13, .ref xa14])), (ou, .inl (kJ, 1, .inr (.inl fo)))] s.heap.size = A at hD hT ⊢
  have hA : ∀ q : Nat, s.heap.size ≤ q → A q := fun q h => by rw [← hAe]; exact Or.inr h
  have hS : va_S A s.heap s.heap [] := va_S.rf
  have hP : va_P (dC, dI) vwCl [(h0, .inr (10, [.ref xa1, .ref xa3, .ref xa15, .ref xa27, .ref xa28, .ref xa33, .ref xa38, .ref xa41, .ref xa45, .ref xa46, .ref xa47, .ref xa52, .ref xa54, .int 0, .ref xa55, .ref xa60, .ref xa62, .ref xa67, .int (-1)])), (xa3, .inr (2, [.ref xa4, .ref xa5, .ref xa6, .ref xa7, .ref xa8, .ref xa9, .ref xa10, .int 0, .int 0, .int 0, .int 5, .ref xa11, .ref xa12, .ref xa13, .ref xa14])), (ou, .inl (kJ, 1, .inr (.inl fo)))] s.heap := hP
  have hl := lv_entry ([.ref h0, .int p0, .int p1, .ref ou]) (n := 5) (Nat.le_of_ble_eq_true rfl)
  have hla : entryFrame m args0 5 = entryFrame m ([.ref h0, .int p0, .int p1, .ref ou] : List Value).toArray 5 := by rw [hargs]
  rw [hla, lg_entry_eq]
  generalize (lg_sl ([.ref h0, .int p0, .int p1, .ref ou]) ++ List.replicate (5 - (lg_sl ([.ref h0, .int p0, .int p1, .ref ou])).length) Slot.unset).toArray = ls at hl ⊢
  have hl : lv_has ls 5 [(0, .ref h0), (1, .int p0), (2, .int p1), (3, .ref ou)] := hl
  refine lv_aload_n hx hb dL_use_0 rfl (lv_at hl 3 rfl) ?_
  refine lv_iconst (v := 0) hx hb dL_use_1 (by decide) ?_
  refine lv_aload_n hx hb dL_use_2 rfl (lv_at hl 0 rfl) ?_
  refine lv_iload_n hx hb dL_use_3 rfl (lv_at hl 1 rfl) ?_
  refine lv_iload_n hx hb dL_use_4 rfl (lv_at hl 2 rfl) ?_
  have hPc := hP.sub (ws' := [(h0, .inr (10, [.ref xa1, .ref xa3, .ref xa15, .ref xa27, .ref xa28, .ref xa33, .ref xa38, .ref xa41, .ref xa45, .ref xa46, .ref xa47, .ref xa52, .ref xa54, .int 0, .ref xa55, .ref xa60, .ref xa62, .ref xa67, .int (-1)])), (xa3, .inr (2, [.ref xa4, .ref xa5, .ref xa6, .ref xa7, .ref xa8, .ref xa9, .ref xa10, .int 0, .int 0, .int 0, .int 5, .ref xa11, .ref xa12, .ref xa13, .ref xa14]))]) [0, 1] rfl
  have hDc := hD.sub (ws' := [(h0, .inr (10, [.ref xa1, .ref xa3, .ref xa15, .ref xa27, .ref xa28, .ref xa33, .ref xa38, .ref xa41, .ref xa45, .ref xa46, .ref xa47, .ref xa52, .ref xa54, .int 0, .ref xa55, .ref xa60, .ref xa62, .ref xa67, .int (-1)])), (xa3, .inr (2, [.ref xa4, .ref xa5, .ref xa6, .ref xa7, .ref xa8, .ref xa9, .ref xa10, .int 0, .int 0, .int 0, .int 5, .ref xa11, .ref xa12, .ref xa13, .ref xa14]))]) [0, 1] (by decide) rfl
  have hFc := va_free (wc := [(h0, .inr (10, [.ref xa1, .ref xa3, .ref xa15, .ref xa27, .ref xa28, .ref xa33, .ref xa38, .ref xa41, .ref xa45, .ref xa46, .ref xa47, .ref xa52, .ref xa54, .int 0, .ref xa55, .ref xa60, .ref xa62, .ref xa67, .int (-1)])), (xa3, .inr (2, [.ref xa4, .ref xa5, .ref xa6, .ref xa7, .ref xa8, .ref xa9, .ref xa10, .int 0, .int 0, .int 0, .int 5, .ref xa11, .ref xa12, .ref xa13, .ref xa14]))]) hD hS hA [0, 1] rfl
  refine vx_calli (vx_runV (As := [.int p0, .int p1]) (rest := [.int 0, .ref ou]) ⟨hx, hb, hml, hown, hts⟩ (k10_use l hst dC dI kB kI kJ kZ kC kS s.heap.size h0 xa1 xa3 xa15 xa27 xa28 xa33 xa38 xa41 xa45 xa46 xa47 xa52 xa54 xa55 xa60 xa62 xa67 xa4 xa5 xa6 xa7 xa8 xa9 xa10 xa11 xa12 xa13 xa14 p0 p1) (cwV 2 hts gL_use_X10_use rfl rfl rfl (by decide +kernel) ⟨Nat.le_of_ble_eq_true rfl, Nat.le_of_ble_eq_true rfl⟩) ⟨fun a U g mk q => by obtain ⟨q0, q1, qP, qE, qD, qX, qT⟩ := q; exact ⟨q0, q1, qP, kE_call qE, qD, kX_call qX, kT_call qT⟩, va_recv hK hP (ci := 10) (q0 := 0) rfl rfl, fun U hU hW => ⟨rfl, by rw [hU], by rw [hU]; exact hPc, kE_warm hW hE, hDc.weaken (fun _ _ _ _ => trivial), kX_warm hW hXs, kT_at hT hS hFc hW hU⟩⟩ rfl rfl hl.1 rfl (lv_room (Nat.le_of_ble_eq_true rfl)) dL_use_5 ⟨Nat.le_of_ble_eq_true rfl, Nat.le_of_ble_eq_true rfl⟩) hS (fun q _ h => hFc q h) hFc (fun q _ h => hFc q h) (fun E ce q9 u t H1 locs ht hvm hpx hBX hz1 hk1 hS hc9 hv9 hcl9 => ?_) (fun r1 u t H1 locs ht hvm w2 hB hz1 hk1 hS => ?_)
  · subst hBX
    have hP1 : va_P (dC, dI) vwCl [] H1 := fun k q h => by simp at h
    have hD1 : va_D (va_A [(h0, .inr (10, [.ref xa1, .ref xa3, .ref xa15, .ref xa27, .ref xa28, .ref xa33, .ref xa38, .ref xa41, .ref xa45, .ref xa46, .ref xa47, .ref xa52, .ref xa54, .int 0, .ref xa55, .ref xa60, .ref xa62, .ref xa67, .int (-1)])), (xa3, .inr (2, [.ref xa4, .ref xa5, .ref xa6, .ref xa7, .ref xa8, .ref xa9, .ref xa10, .int 0, .int 0, .int 0, .int 5, .ref xa11, .ref xa12, .ref xa13, .ref xa14]))] s.heap.size) [] := ⟨fun i j p q h => by simp at h, fun k q h => by simp at h⟩
    obtain ⟨hP, hD⟩ := va_join (wr := [(ou, .inl (kJ, 1, .inr (.inl fo)))]) (w1 := []) hP hD [0, 1] [2] rfl rfl (by decide) (by decide) hk1 hFc hP1 hD1
    generalize H1 = H at hP hS hc9 ⊢
    have hP : va_P (dC, dI) vwCl [(ou, .inl (kJ, 1, .inr (.inl fo)))] H := hP
    have hD : va_D A [(ou, .inl (kJ, 1, .inr (.inl fo)))] := hD
    have htab := vx_table B (hts (.codeWith yL_use cL_use 5 (some .int) [(0, 10, 13, 18)]) (List.mem_of_getElem? (i := 0) (by decide +kernel)))
    refine vx_catch (name := "java/util/NoSuchElementException") hown [] ⟨0, 10, 13, 18⟩ [] (htab.trans rfl) (fun z h => absurd h List.not_mem_nil) rfl (by decide) (hts (.classLink RL 18 "java/util/NoSuchElementException") (List.mem_of_getElem? (i := 1) (by decide +kernel))) (va_Nw.use rfl hXs.1) hc9 hv9 hcl9 ?_
    refine W.widen (k := 1) (n := 6) (Nat.le_of_ble_eq_true rfl) (Nat.le_of_ble_eq_true rfl) ?_
    refine W.eq (g2 := F0 m 13 ls [.ref q9]) rfl ?_
    refine lv_astore (lv' := [(4, .ref q9), (0, .ref h0), (1, .int p0), (2, .int p1), (3, .ref ou)]) hx hb dL_use_13 hl (by decide) rfl (fun ls hl => ?_)
    refine lv_iconst (v := 1) hx hb dL_use_15 (by decide) ?_
    have hP9 := hP.sub (ws' := [(ou, .inl (kJ, 1, .inr (.inl fo)))]) [0] rfl
    have hD9 := hD.sub (ws' := [(ou, .inl (kJ, 1, .inr (.inl fo)))]) [0] (by decide) rfl
    exact W.iret (v := 1) hx hb hr (fun t ht hW => ⟨⟨1, (), rfl, rfl, by rw [ht]; exact hP9, hD9⟩, hS.F ht⟩) hS.2.2 dL_use_16
  · exact w2.elim
def rm_kL10_cover : Room := { frames := 8, cells := 1, slots := 6, locals := 126 }
set_option maxHeartbeats 4000000 in
set_option maxRecDepth 100000 in
theorem kL10_cover (l : Launch) (hst : l.stackTraces = false) (dC : Nat → ClassId) (dI : Nat → Nat → Nat) (kB kI kJ kZ kC kS : ClassId) (sz : Nat) (h0 : Nat) (xa1 : Nat) (xa3 : Nat) (xa15 : Nat) (xa27 : Nat) (xa28 : Nat) (xa33 : Nat) (xa38 : Nat) (xa41 : Nat) (xa45 : Nat) (xa46 : Nat) (xa47 : Nat) (xa52 : Nat) (xa54 : Nat) (xa55 : Nat) (xa60 : Nat) (xa62 : Nat) (xa67 : Nat) (xa4 : Nat) (xa5 : Nat) (xa6 : Nat) (xa7 : Nat) (xa8 : Nat) (xa9 : Nat) (xa10 : Nat) (xa11 : Nat) (xa12 : Nat) (xa13 : Nat) (xa14 : Nat) (p0 : Int32) (ou : Nat) (fo : Nat → Int64) : Met l yL_cover wsL_cover rm_kL10_cover (va_Pc [.ref h0, .int p0, .ref ou] (fun U => U.heap.size = sz ∧ va_P (dC, dI) vwCl [(h0, .inr (10, [.ref xa1, .ref xa3, .ref xa15, .ref xa27, .ref xa28, .ref xa33, .ref xa38, .ref xa41, .ref xa45, .ref xa46, .ref xa47, .ref xa52, .ref xa54, .int 0, .ref xa55, .ref xa60, .ref xa62, .ref xa67, .int (-1)])), (xa3, .inr (2, [.ref xa4, .ref xa5, .ref xa6, .ref xa7, .ref xa8, .ref xa9, .ref xa10, .int 0, .int 0, .int 0, .int 5, .ref xa11, .ref xa12, .ref xa13, .ref xa14])), (ou, .inl (kJ, 1, .inr (.inl fo)))] U.heap ∧ kE dC dI kB kI kJ kZ kC kS U ∧ va_D (fun _ => True) [(h0, .inr (10, [.ref xa1, .ref xa3, .ref xa15, .ref xa27, .ref xa28, .ref xa33, .ref xa38, .ref xa41, .ref xa45, .ref xa46, .ref xa47, .ref xa52, .ref xa54, .int 0, .ref xa55, .ref xa60, .ref xa62, .ref xa67, .int (-1)])), (xa3, .inr (2, [.ref xa4, .ref xa5, .ref xa6, .ref xa7, .ref xa8, .ref xa9, .ref xa10, .int 0, .int 0, .int 0, .int 5, .ref xa11, .ref xa12, .ref xa13, .ref xa14])), (ou, .inl (kJ, 1, .inr (.inl fo)))] ∧ kX U ∧ kT (va_A [(h0, .inr (10, [.ref xa1, .ref xa3, .ref xa15, .ref xa27, .ref xa28, .ref xa33, .ref xa38, .ref xa41, .ref xa45, .ref xa46, .ref xa47, .ref xa52, .ref xa54, .int 0, .ref xa55, .ref xa60, .ref xa62, .ref xa67, .int (-1)])), (xa3, .inr (2, [.ref xa4, .ref xa5, .ref xa6, .ref xa7, .ref xa8, .ref xa9, .ref xa10, .int 0, .int 0, .int 0, .int 5, .ref xa11, .ref xa12, .ref xa13, .ref xa14])), (ou, .inl (kJ, 1, .inr (.inl fo)))] sz) U)) (va_Qi (fun (r : Int32) (_ : Unit) => r = 1) (fun _ t => va_P (dC, dI) vwCl [(ou, .inl (kJ, 1, .inr (.inl fo)))] t.heap ∧ va_D (va_A [(h0, .inr (10, [.ref xa1, .ref xa3, .ref xa15, .ref xa27, .ref xa28, .ref xa33, .ref xa38, .ref xa41, .ref xa45, .ref xa46, .ref xa47, .ref xa52, .ref xa54, .int 0, .ref xa55, .ref xa60, .ref xa62, .ref xa67, .int (-1)])), (xa3, .inr (2, [.ref xa4, .ref xa5, .ref xa6, .ref xa7, .ref xa8, .ref xa9, .ref xa10, .int 0, .int 0, .int 0, .int 5, .ref xa11, .ref xa12, .ref xa13, .ref xa14])), (ou, .inl (kJ, 1, .inr (.inl fo)))] sz) [(ou, .inl (kJ, 1, .inr (.inl fo)))]) (va_A [(h0, .inr (10, [.ref xa1, .ref xa3, .ref xa15, .ref xa27, .ref xa28, .ref xa33, .ref xa38, .ref xa41, .ref xa45, .ref xa46, .ref xa47, .ref xa52, .ref xa54, .int 0, .ref xa55, .ref xa60, .ref xa62, .ref xa67, .int (-1)])), (xa3, .inr (2, [.ref xa4, .ref xa5, .ref xa6, .ref xa7, .ref xa8, .ref xa9, .ref xa10, .int 0, .int 0, .int 0, .int 5, .ref xa11, .ref xa12, .ref xa13, .ref xa14])), (ou, .inl (kJ, 1, .inr (.inl fo)))] sz)) 1 6 (va_A [(h0, .inr (10, [.ref xa1, .ref xa3, .ref xa15, .ref xa27, .ref xa28, .ref xa33, .ref xa38, .ref xa41, .ref xa45, .ref xa46, .ref xa47, .ref xa52, .ref xa54, .int 0, .ref xa55, .ref xa60, .ref xa62, .ref xa67, .int (-1)])), (xa3, .inr (2, [.ref xa4, .ref xa5, .ref xa6, .ref xa7, .ref xa8, .ref xa9, .ref xa10, .int 0, .int 0, .int 0, .int 5, .ref xa11, .ref xa12, .ref xa13, .ref xa14])), (ou, .inl (kJ, 1, .inr (.inl fo)))] sz) := by
  refine va_MetW (cc := cL_cover) (maxL := 4) (ret := (some .int)) (by decide) rfl ?_
  intro p e s m args0 below meth c s₁ B hml hv
  obtain ⟨hargs, hsz, hP, hE, hD0, hXs, hT⟩ := hv
  have hx := B.exec
  have hb := B.bytes
  have hr := B.returns
  have hts := atoms_spec (ws := wsL_cover) B.pre
  have hown : s.vm.findClass RL = some m.cls := findClass_of_methodNamed B.named
  have hlocks := B.notSynchronized
  have hK := hE.1
  have hin10 : ∀ w ∈ wsX100, w ∈ wsL_cover := fun _ h9 => List.mem_cons_of_mem _ (List.mem_append_left _ (List.mem_append_left _ (List.mem_append_left _ (List.mem_append_left _ (List.mem_append_right _ h9)))))
  have hin9 : ∀ w ∈ wsX90, w ∈ wsL_cover := fun _ h9 => List.mem_cons_of_mem _ (List.mem_append_left _ (List.mem_append_left _ (List.mem_append_left _ (List.mem_append_right _ h9))))
  have hin2 : ∀ w ∈ wsX20, w ∈ wsL_cover := fun _ h9 => List.mem_cons_of_mem _ (List.mem_append_left _ (List.mem_append_left _ (List.mem_append_right _ h9)))
  have hin0 : ∀ w ∈ wsX00, w ∈ wsL_cover := fun _ h9 => List.mem_cons_of_mem _ (List.mem_append_left _ (List.mem_append_right _ h9))
  subst hsz
  have hD := hD0.self (sz := s.heap.size)
  generalize hAe : va_A [(h0, .inr (10, [.ref xa1, .ref xa3, .ref xa15, .ref xa27, .ref xa28, .ref xa33, .ref xa38, .ref xa41, .ref xa45, .ref xa46, .ref xa47, .ref xa52, .ref xa54, .int 0, .ref xa55, .ref xa60, .ref xa62, .ref xa67, .int (-1)])), (xa3, .inr (2, [.ref xa4, .ref xa5, .ref xa6, .ref xa7, .ref xa8, .ref xa9, .ref xa10, .int 0, .int 0, .int 0, .int 5, .ref xa11, .ref xa12, .ref xa13, .ref xa14])), (ou, .inl (kJ, 1, .inr (.inl fo)))] s.heap.size = A at hD hT ⊢
  have hA : ∀ q : Nat, s.heap.size ≤ q → A q := fun q h => by rw [← hAe]; exact Or.inr h
  have hS : va_S A s.heap s.heap [] := va_S.rf
  have hP : va_P (dC, dI) vwCl [(h0, .inr (10, [.ref xa1, .ref xa3, .ref xa15, .ref xa27, .ref xa28, .ref xa33, .ref xa38, .ref xa41, .ref xa45, .ref xa46, .ref xa47, .ref xa52, .ref xa54, .int 0, .ref xa55, .ref xa60, .ref xa62, .ref xa67, .int (-1)])), (xa3, .inr (2, [.ref xa4, .ref xa5, .ref xa6, .ref xa7, .ref xa8, .ref xa9, .ref xa10, .int 0, .int 0, .int 0, .int 5, .ref xa11, .ref xa12, .ref xa13, .ref xa14])), (ou, .inl (kJ, 1, .inr (.inl fo)))] s.heap := hP
  have hl := lv_entry ([.ref h0, .int p0, .ref ou]) (n := 4) (Nat.le_of_ble_eq_true rfl)
  have hla : entryFrame m args0 4 = entryFrame m ([.ref h0, .int p0, .ref ou] : List Value).toArray 4 := by rw [hargs]
  rw [hla, lg_entry_eq]
  generalize (lg_sl ([.ref h0, .int p0, .ref ou]) ++ List.replicate (4 - (lg_sl ([.ref h0, .int p0, .ref ou])).length) Slot.unset).toArray = ls at hl ⊢
  have hl : lv_has ls 4 [(0, .ref h0), (1, .int p0), (2, .ref ou)] := hl
  refine lv_aload_n hx hb dL_cover_0 rfl (lv_at hl 2 rfl) ?_
  refine lv_iconst (v := 0) hx hb dL_cover_1 (by decide) ?_
  refine lv_aload_n hx hb dL_cover_2 rfl (lv_at hl 0 rfl) ?_
  refine lv_iload_n hx hb dL_cover_3 rfl (lv_at hl 1 rfl) ?_
  have hPc := hP.sub (ws' := [(h0, .inr (10, [.ref xa1, .ref xa3, .ref xa15, .ref xa27, .ref xa28, .ref xa33, .ref xa38, .ref xa41, .ref xa45, .ref xa46, .ref xa47, .ref xa52, .ref xa54, .int 0, .ref xa55, .ref xa60, .ref xa62, .ref xa67, .int (-1)])), (xa3, .inr (2, [.ref xa4, .ref xa5, .ref xa6, .ref xa7, .ref xa8, .ref xa9, .ref xa10, .int 0, .int 0, .int 0, .int 5, .ref xa11, .ref xa12, .ref xa13, .ref xa14]))]) [0, 1] rfl
  have hDc := hD.sub (ws' := [(h0, .inr (10, [.ref xa1, .ref xa3, .ref xa15, .ref xa27, .ref xa28, .ref xa33, .ref xa38, .ref xa41, .ref xa45, .ref xa46, .ref xa47, .ref xa52, .ref xa54, .int 0, .ref xa55, .ref xa60, .ref xa62, .ref xa67, .int (-1)])), (xa3, .inr (2, [.ref xa4, .ref xa5, .ref xa6, .ref xa7, .ref xa8, .ref xa9, .ref xa10, .int 0, .int 0, .int 0, .int 5, .ref xa11, .ref xa12, .ref xa13, .ref xa14]))]) [0, 1] (by decide) rfl
  have hFc := va_free (wc := [(h0, .inr (10, [.ref xa1, .ref xa3, .ref xa15, .ref xa27, .ref xa28, .ref xa33, .ref xa38, .ref xa41, .ref xa45, .ref xa46, .ref xa47, .ref xa52, .ref xa54, .int 0, .ref xa55, .ref xa60, .ref xa62, .ref xa67, .int (-1)])), (xa3, .inr (2, [.ref xa4, .ref xa5, .ref xa6, .ref xa7, .ref xa8, .ref xa9, .ref xa10, .int 0, .int 0, .int 0, .int 5, .ref xa11, .ref xa12, .ref xa13, .ref xa14]))]) hD hS hA [0, 1] rfl
  refine vx_calli (vx_runV (As := [.int p0]) (rest := [.int 0, .ref ou]) ⟨hx, hb, hml, hown, hts⟩ (k10_cover l hst dC dI kB kI kJ kZ kC kS s.heap.size h0 xa1 xa3 xa15 xa27 xa28 xa33 xa38 xa41 xa45 xa46 xa47 xa52 xa54 xa55 xa60 xa62 xa67 xa4 xa5 xa6 xa7 xa8 xa9 xa10 xa11 xa12 xa13 xa14 p0) (cwV 1 hts gL_cover_X10_cover rfl rfl rfl (by decide +kernel) ⟨Nat.le_of_ble_eq_true rfl, Nat.le_of_ble_eq_true rfl⟩) ⟨fun a U g mk q => by obtain ⟨q0, q1, qP, qE, qD, qX, qT⟩ := q; exact ⟨q0, q1, qP, kE_call qE, qD, kX_call qX, kT_call qT⟩, va_recv hK hP (ci := 10) (q0 := 0) rfl rfl, fun U hU hW => ⟨rfl, by rw [hU], by rw [hU]; exact hPc, kE_warm hW hE, hDc.weaken (fun _ _ _ _ => trivial), kX_warm hW hXs, kT_at hT hS hFc hW hU⟩⟩ rfl rfl hl.1 rfl (lv_room (Nat.le_of_ble_eq_true rfl)) dL_cover_4 ⟨Nat.le_of_ble_eq_true rfl, Nat.le_of_ble_eq_true rfl⟩) hS (fun q _ h => hFc q h) hFc (fun q _ h => hFc q h) (fun E ce q9 u t H1 locs ht hvm hpx hBX hz1 hk1 hS hc9 hv9 hcl9 => ?_) (fun r1 u t H1 locs ht hvm w2 hB hz1 hk1 hS => ?_)
  · subst hBX
    have hP1 : va_P (dC, dI) vwCl [] H1 := fun k q h => by simp at h
    have hD1 : va_D (va_A [(h0, .inr (10, [.ref xa1, .ref xa3, .ref xa15, .ref xa27, .ref xa28, .ref xa33, .ref xa38, .ref xa41, .ref xa45, .ref xa46, .ref xa47, .ref xa52, .ref xa54, .int 0, .ref xa55, .ref xa60, .ref xa62, .ref xa67, .int (-1)])), (xa3, .inr (2, [.ref xa4, .ref xa5, .ref xa6, .ref xa7, .ref xa8, .ref xa9, .ref xa10, .int 0, .int 0, .int 0, .int 5, .ref xa11, .ref xa12, .ref xa13, .ref xa14]))] s.heap.size) [] := ⟨fun i j p q h => by simp at h, fun k q h => by simp at h⟩
    obtain ⟨hP, hD⟩ := va_join (wr := [(ou, .inl (kJ, 1, .inr (.inl fo)))]) (w1 := []) hP hD [0, 1] [2] rfl rfl (by decide) (by decide) hk1 hFc hP1 hD1
    generalize H1 = H at hP hS hc9 ⊢
    have hP : va_P (dC, dI) vwCl [(ou, .inl (kJ, 1, .inr (.inl fo)))] H := hP
    have hD : va_D A [(ou, .inl (kJ, 1, .inr (.inl fo)))] := hD
    have htab := vx_table B (hts (.codeWith yL_cover cL_cover 4 (some .int) [(0, 9, 12, 18)]) (List.mem_of_getElem? (i := 0) (by decide +kernel)))
    refine vx_catch (name := "java/util/NoSuchElementException") hown [] ⟨0, 9, 12, 18⟩ [] (htab.trans rfl) (fun z h => absurd h List.not_mem_nil) rfl (by decide) (hts (.classLink RL 18 "java/util/NoSuchElementException") (List.mem_of_getElem? (i := 1) (by decide +kernel))) (va_Nw.use rfl hXs.1) hc9 hv9 hcl9 ?_
    refine W.widen (k := 1) (n := 6) (Nat.le_of_ble_eq_true rfl) (Nat.le_of_ble_eq_true rfl) ?_
    refine W.eq (g2 := F0 m 12 ls [.ref q9]) rfl ?_
    refine lv_astore_n (lv' := [(3, .ref q9), (0, .ref h0), (1, .int p0), (2, .ref ou)]) hx hb dL_cover_12 rfl hl (by decide) rfl (fun ls hl => ?_)
    refine lv_iconst (v := 1) hx hb dL_cover_13 (by decide) ?_
    have hP9 := hP.sub (ws' := [(ou, .inl (kJ, 1, .inr (.inl fo)))]) [0] rfl
    have hD9 := hD.sub (ws' := [(ou, .inl (kJ, 1, .inr (.inl fo)))]) [0] (by decide) rfl
    exact W.iret (v := 1) hx hb hr (fun t ht hW => ⟨⟨1, (), rfl, rfl, by rw [ht]; exact hP9, hD9⟩, hS.F ht⟩) hS.2.2 dL_cover_14
  · exact w2.elim
def rm_kL10_fits : Room := { frames := 8, cells := 1, slots := 6, locals := 127 }
set_option maxHeartbeats 4000000 in
set_option maxRecDepth 100000 in
theorem kL10_fits (l : Launch) (hst : l.stackTraces = false) (dC : Nat → ClassId) (dI : Nat → Nat → Nat) (kB kI kJ kZ kC kS : ClassId) (sz : Nat) (h0 : Nat) (xa1 : Nat) (xa3 : Nat) (xa15 : Nat) (xa27 : Nat) (xa28 : Nat) (xa33 : Nat) (xa38 : Nat) (xa41 : Nat) (xa45 : Nat) (xa46 : Nat) (xa47 : Nat) (xa52 : Nat) (xa54 : Nat) (xa55 : Nat) (xa60 : Nat) (xa62 : Nat) (xa67 : Nat) (xa4 : Nat) (xa5 : Nat) (xa6 : Nat) (xa7 : Nat) (xa8 : Nat) (xa9 : Nat) (xa10 : Nat) (xa11 : Nat) (xa12 : Nat) (xa13 : Nat) (xa14 : Nat) (p0 : Int32) (p1 : Int32) (ou : Nat) (fo : Nat → Int64) : Met l yL_fits wsL_fits rm_kL10_fits (va_Pc [.ref h0, .int p0, .int p1, .ref ou] (fun U => U.heap.size = sz ∧ va_P (dC, dI) vwCl [(h0, .inr (10, [.ref xa1, .ref xa3, .ref xa15, .ref xa27, .ref xa28, .ref xa33, .ref xa38, .ref xa41, .ref xa45, .ref xa46, .ref xa47, .ref xa52, .ref xa54, .int 0, .ref xa55, .ref xa60, .ref xa62, .ref xa67, .int (-1)])), (xa3, .inr (2, [.ref xa4, .ref xa5, .ref xa6, .ref xa7, .ref xa8, .ref xa9, .ref xa10, .int 0, .int 0, .int 0, .int 5, .ref xa11, .ref xa12, .ref xa13, .ref xa14])), (ou, .inl (kJ, 1, .inr (.inl fo)))] U.heap ∧ kE dC dI kB kI kJ kZ kC kS U ∧ va_D (fun _ => True) [(h0, .inr (10, [.ref xa1, .ref xa3, .ref xa15, .ref xa27, .ref xa28, .ref xa33, .ref xa38, .ref xa41, .ref xa45, .ref xa46, .ref xa47, .ref xa52, .ref xa54, .int 0, .ref xa55, .ref xa60, .ref xa62, .ref xa67, .int (-1)])), (xa3, .inr (2, [.ref xa4, .ref xa5, .ref xa6, .ref xa7, .ref xa8, .ref xa9, .ref xa10, .int 0, .int 0, .int 0, .int 5, .ref xa11, .ref xa12, .ref xa13, .ref xa14])), (ou, .inl (kJ, 1, .inr (.inl fo)))] ∧ kX U ∧ kT (va_A [(h0, .inr (10, [.ref xa1, .ref xa3, .ref xa15, .ref xa27, .ref xa28, .ref xa33, .ref xa38, .ref xa41, .ref xa45, .ref xa46, .ref xa47, .ref xa52, .ref xa54, .int 0, .ref xa55, .ref xa60, .ref xa62, .ref xa67, .int (-1)])), (xa3, .inr (2, [.ref xa4, .ref xa5, .ref xa6, .ref xa7, .ref xa8, .ref xa9, .ref xa10, .int 0, .int 0, .int 0, .int 5, .ref xa11, .ref xa12, .ref xa13, .ref xa14])), (ou, .inl (kJ, 1, .inr (.inl fo)))] sz) U)) (va_Qi (fun (r : Int32) (_ : Unit) => r = 1) (fun _ t => va_P (dC, dI) vwCl [(ou, .inl (kJ, 1, .inr (.inl fo)))] t.heap ∧ va_D (va_A [(h0, .inr (10, [.ref xa1, .ref xa3, .ref xa15, .ref xa27, .ref xa28, .ref xa33, .ref xa38, .ref xa41, .ref xa45, .ref xa46, .ref xa47, .ref xa52, .ref xa54, .int 0, .ref xa55, .ref xa60, .ref xa62, .ref xa67, .int (-1)])), (xa3, .inr (2, [.ref xa4, .ref xa5, .ref xa6, .ref xa7, .ref xa8, .ref xa9, .ref xa10, .int 0, .int 0, .int 0, .int 5, .ref xa11, .ref xa12, .ref xa13, .ref xa14])), (ou, .inl (kJ, 1, .inr (.inl fo)))] sz) [(ou, .inl (kJ, 1, .inr (.inl fo)))]) (va_A [(h0, .inr (10, [.ref xa1, .ref xa3, .ref xa15, .ref xa27, .ref xa28, .ref xa33, .ref xa38, .ref xa41, .ref xa45, .ref xa46, .ref xa47, .ref xa52, .ref xa54, .int 0, .ref xa55, .ref xa60, .ref xa62, .ref xa67, .int (-1)])), (xa3, .inr (2, [.ref xa4, .ref xa5, .ref xa6, .ref xa7, .ref xa8, .ref xa9, .ref xa10, .int 0, .int 0, .int 0, .int 5, .ref xa11, .ref xa12, .ref xa13, .ref xa14])), (ou, .inl (kJ, 1, .inr (.inl fo)))] sz)) 1 6 (va_A [(h0, .inr (10, [.ref xa1, .ref xa3, .ref xa15, .ref xa27, .ref xa28, .ref xa33, .ref xa38, .ref xa41, .ref xa45, .ref xa46, .ref xa47, .ref xa52, .ref xa54, .int 0, .ref xa55, .ref xa60, .ref xa62, .ref xa67, .int (-1)])), (xa3, .inr (2, [.ref xa4, .ref xa5, .ref xa6, .ref xa7, .ref xa8, .ref xa9, .ref xa10, .int 0, .int 0, .int 0, .int 5, .ref xa11, .ref xa12, .ref xa13, .ref xa14])), (ou, .inl (kJ, 1, .inr (.inl fo)))] sz) := by
  refine va_MetW (cc := cL_fits) (maxL := 5) (ret := (some .int)) (by decide) rfl ?_
  intro p e s m args0 below meth c s₁ B hml hv
  obtain ⟨hargs, hsz, hP, hE, hD0, hXs, hT⟩ := hv
  have hx := B.exec
  have hb := B.bytes
  have hr := B.returns
  have hts := atoms_spec (ws := wsL_fits) B.pre
  have hown : s.vm.findClass RL = some m.cls := findClass_of_methodNamed B.named
  have hlocks := B.notSynchronized
  have hK := hE.1
  have hin10 : ∀ w ∈ wsX100, w ∈ wsL_fits := fun _ h9 => List.mem_cons_of_mem _ (List.mem_append_left _ (List.mem_append_left _ (List.mem_append_left _ (List.mem_append_left _ (List.mem_append_left _ (List.mem_append_right _ h9))))))
  have hin2 : ∀ w ∈ wsX20, w ∈ wsL_fits := fun _ h9 => List.mem_cons_of_mem _ (List.mem_append_left _ (List.mem_append_left _ (List.mem_append_left _ (List.mem_append_left _ (List.mem_append_right _ h9)))))
  have hin3 : ∀ w ∈ wsX30, w ∈ wsL_fits := fun _ h9 => List.mem_cons_of_mem _ (List.mem_append_left _ (List.mem_append_left _ (List.mem_append_left _ (List.mem_append_right _ h9))))
  have hin9 : ∀ w ∈ wsX90, w ∈ wsL_fits := fun _ h9 => List.mem_cons_of_mem _ (List.mem_append_left _ (List.mem_append_left _ (List.mem_append_right _ h9)))
  have hin0 : ∀ w ∈ wsX00, w ∈ wsL_fits := fun _ h9 => List.mem_cons_of_mem _ (List.mem_append_left _ (List.mem_append_right _ h9))
  subst hsz
  have hD := hD0.self (sz := s.heap.size)
  generalize hAe : va_A [(h0, .inr (10, [.ref xa1, .ref xa3, .ref xa15, .ref xa27, .ref xa28, .ref xa33, .ref xa38, .ref xa41, .ref xa45, .ref xa46, .ref xa47, .ref xa52, .ref xa54, .int 0, .ref xa55, .ref xa60, .ref xa62, .ref xa67, .int (-1)])), (xa3, .inr (2, [.ref xa4, .ref xa5, .ref xa6, .ref xa7, .ref xa8, .ref xa9, .ref xa10, .int 0, .int 0, .int 0, .int 5, .ref xa11, .ref xa12, .ref xa13, .ref xa14])), (ou, .inl (kJ, 1, .inr (.inl fo)))] s.heap.size = A at hD hT ⊢
  have hA : ∀ q : Nat, s.heap.size ≤ q → A q := fun q h => by rw [← hAe]; exact Or.inr h
  have hS : va_S A s.heap s.heap [] := va_S.rf
  have hP : va_P (dC, dI) vwCl [(h0, .inr (10, [.ref xa1, .ref xa3, .ref xa15, .ref xa27, .ref xa28, .ref xa33, .ref xa38, .ref xa41, .ref xa45, .ref xa46, .ref xa47, .ref xa52, .ref xa54, .int 0, .ref xa55, .ref xa60, .ref xa62, .ref xa67, .int (-1)])), (xa3, .inr (2, [.ref xa4, .ref xa5, .ref xa6, .ref xa7, .ref xa8, .ref xa9, .ref xa10, .int 0, .int 0, .int 0, .int 5, .ref xa11, .ref xa12, .ref xa13, .ref xa14])), (ou, .inl (kJ, 1, .inr (.inl fo)))] s.heap := hP
  have hl := lv_entry ([.ref h0, .int p0, .int p1, .ref ou]) (n := 5) (Nat.le_of_ble_eq_true rfl)
  have hla : entryFrame m args0 5 = entryFrame m ([.ref h0, .int p0, .int p1, .ref ou] : List Value).toArray 5 := by rw [hargs]
  rw [hla, lg_entry_eq]
  generalize (lg_sl ([.ref h0, .int p0, .int p1, .ref ou]) ++ List.replicate (5 - (lg_sl ([.ref h0, .int p0, .int p1, .ref ou])).length) Slot.unset).toArray = ls at hl ⊢
  have hl : lv_has ls 5 [(0, .ref h0), (1, .int p0), (2, .int p1), (3, .ref ou)] := hl
  refine lv_aload_n hx hb dL_fits_0 rfl (lv_at hl 3 rfl) ?_
  refine lv_iconst (v := 0) hx hb dL_fits_1 (by decide) ?_
  refine lv_aload_n hx hb dL_fits_2 rfl (lv_at hl 0 rfl) ?_
  refine lv_iload_n hx hb dL_fits_3 rfl (lv_at hl 1 rfl) ?_
  refine lv_iload_n hx hb dL_fits_4 rfl (lv_at hl 2 rfl) ?_
  have hPc := hP.sub (ws' := [(h0, .inr (10, [.ref xa1, .ref xa3, .ref xa15, .ref xa27, .ref xa28, .ref xa33, .ref xa38, .ref xa41, .ref xa45, .ref xa46, .ref xa47, .ref xa52, .ref xa54, .int 0, .ref xa55, .ref xa60, .ref xa62, .ref xa67, .int (-1)])), (xa3, .inr (2, [.ref xa4, .ref xa5, .ref xa6, .ref xa7, .ref xa8, .ref xa9, .ref xa10, .int 0, .int 0, .int 0, .int 5, .ref xa11, .ref xa12, .ref xa13, .ref xa14]))]) [0, 1] rfl
  have hDc := hD.sub (ws' := [(h0, .inr (10, [.ref xa1, .ref xa3, .ref xa15, .ref xa27, .ref xa28, .ref xa33, .ref xa38, .ref xa41, .ref xa45, .ref xa46, .ref xa47, .ref xa52, .ref xa54, .int 0, .ref xa55, .ref xa60, .ref xa62, .ref xa67, .int (-1)])), (xa3, .inr (2, [.ref xa4, .ref xa5, .ref xa6, .ref xa7, .ref xa8, .ref xa9, .ref xa10, .int 0, .int 0, .int 0, .int 5, .ref xa11, .ref xa12, .ref xa13, .ref xa14]))]) [0, 1] (by decide) rfl
  have hFc := va_free (wc := [(h0, .inr (10, [.ref xa1, .ref xa3, .ref xa15, .ref xa27, .ref xa28, .ref xa33, .ref xa38, .ref xa41, .ref xa45, .ref xa46, .ref xa47, .ref xa52, .ref xa54, .int 0, .ref xa55, .ref xa60, .ref xa62, .ref xa67, .int (-1)])), (xa3, .inr (2, [.ref xa4, .ref xa5, .ref xa6, .ref xa7, .ref xa8, .ref xa9, .ref xa10, .int 0, .int 0, .int 0, .int 5, .ref xa11, .ref xa12, .ref xa13, .ref xa14]))]) hD hS hA [0, 1] rfl
  refine vx_calli (vx_runV (As := [.int p0, .int p1]) (rest := [.int 0, .ref ou]) ⟨hx, hb, hml, hown, hts⟩ (k10_fits l hst dC dI kB kI kJ kZ kC kS s.heap.size h0 xa1 xa3 xa15 xa27 xa28 xa33 xa38 xa41 xa45 xa46 xa47 xa52 xa54 xa55 xa60 xa62 xa67 xa4 xa5 xa6 xa7 xa8 xa9 xa10 xa11 xa12 xa13 xa14 p0 p1) (cwV 2 hts gL_fits_X10_fits rfl rfl rfl (by decide +kernel) ⟨Nat.le_of_ble_eq_true rfl, Nat.le_of_ble_eq_true rfl⟩) ⟨fun a U g mk q => by obtain ⟨q0, q1, qP, qE, qD, qX, qT⟩ := q; exact ⟨q0, q1, qP, kE_call qE, qD, kX_call qX, kT_call qT⟩, va_recv hK hP (ci := 10) (q0 := 0) rfl rfl, fun U hU hW => ⟨rfl, by rw [hU], by rw [hU]; exact hPc, kE_warm hW hE, hDc.weaken (fun _ _ _ _ => trivial), kX_warm hW hXs, kT_at hT hS hFc hW hU⟩⟩ rfl rfl hl.1 rfl (lv_room (Nat.le_of_ble_eq_true rfl)) dL_fits_5 ⟨Nat.le_of_ble_eq_true rfl, Nat.le_of_ble_eq_true rfl⟩) hS (fun q _ h => hFc q h) hFc (fun q _ h => hFc q h) (fun E ce q9 u t H1 locs ht hvm hpx hBX hz1 hk1 hS hc9 hv9 hcl9 => ?_) (fun r1 u t H1 locs ht hvm w2 hB hz1 hk1 hS => ?_)
  · subst hBX
    have hP1 : va_P (dC, dI) vwCl [] H1 := fun k q h => by simp at h
    have hD1 : va_D (va_A [(h0, .inr (10, [.ref xa1, .ref xa3, .ref xa15, .ref xa27, .ref xa28, .ref xa33, .ref xa38, .ref xa41, .ref xa45, .ref xa46, .ref xa47, .ref xa52, .ref xa54, .int 0, .ref xa55, .ref xa60, .ref xa62, .ref xa67, .int (-1)])), (xa3, .inr (2, [.ref xa4, .ref xa5, .ref xa6, .ref xa7, .ref xa8, .ref xa9, .ref xa10, .int 0, .int 0, .int 0, .int 5, .ref xa11, .ref xa12, .ref xa13, .ref xa14]))] s.heap.size) [] := ⟨fun i j p q h => by simp at h, fun k q h => by simp at h⟩
    obtain ⟨hP, hD⟩ := va_join (wr := [(ou, .inl (kJ, 1, .inr (.inl fo)))]) (w1 := []) hP hD [0, 1] [2] rfl rfl (by decide) (by decide) hk1 hFc hP1 hD1
    generalize H1 = H at hP hS hc9 ⊢
    have hP : va_P (dC, dI) vwCl [(ou, .inl (kJ, 1, .inr (.inl fo)))] H := hP
    have hD : va_D A [(ou, .inl (kJ, 1, .inr (.inl fo)))] := hD
    have htab := vx_table B (hts (.codeWith yL_fits cL_fits 5 (some .int) [(0, 10, 13, 18)]) (List.mem_of_getElem? (i := 0) (by decide +kernel)))
    refine vx_catch (name := "java/util/NoSuchElementException") hown [] ⟨0, 10, 13, 18⟩ [] (htab.trans rfl) (fun z h => absurd h List.not_mem_nil) rfl (by decide) (hts (.classLink RL 18 "java/util/NoSuchElementException") (List.mem_of_getElem? (i := 1) (by decide +kernel))) (va_Nw.use rfl hXs.1) hc9 hv9 hcl9 ?_
    refine W.widen (k := 1) (n := 6) (Nat.le_of_ble_eq_true rfl) (Nat.le_of_ble_eq_true rfl) ?_
    refine W.eq (g2 := F0 m 13 ls [.ref q9]) rfl ?_
    refine lv_astore (lv' := [(4, .ref q9), (0, .ref h0), (1, .int p0), (2, .int p1), (3, .ref ou)]) hx hb dL_fits_13 hl (by decide) rfl (fun ls hl => ?_)
    refine lv_iconst (v := 1) hx hb dL_fits_15 (by decide) ?_
    have hP9 := hP.sub (ws' := [(ou, .inl (kJ, 1, .inr (.inl fo)))]) [0] rfl
    have hD9 := hD.sub (ws' := [(ou, .inl (kJ, 1, .inr (.inl fo)))]) [0] (by decide) rfl
    exact W.iret (v := 1) hx hb hr (fun t ht hW => ⟨⟨1, (), rfl, rfl, by rw [ht]; exact hP9, hD9⟩, hS.F ht⟩) hS.2.2 dL_fits_16
  · exact w2.elim
def rm_kL10_look : Room := { frames := 8, cells := 1, slots := 6, locals := 126 }
set_option maxHeartbeats 4000000 in
set_option maxRecDepth 100000 in
theorem kL10_look (l : Launch) (hst : l.stackTraces = false) (dC : Nat → ClassId) (dI : Nat → Nat → Nat) (kB kI kJ kZ kC kS : ClassId) (sz : Nat) (h0 : Nat) (xa1 : Nat) (xa3 : Nat) (xa15 : Nat) (xa27 : Nat) (xa28 : Nat) (xa33 : Nat) (xa38 : Nat) (xa41 : Nat) (xa45 : Nat) (xa46 : Nat) (xa47 : Nat) (xa52 : Nat) (xa54 : Nat) (xa55 : Nat) (xa60 : Nat) (xa62 : Nat) (xa67 : Nat) (xa4 : Nat) (xa5 : Nat) (xa6 : Nat) (xa7 : Nat) (xa8 : Nat) (xa9 : Nat) (xa10 : Nat) (xa11 : Nat) (xa12 : Nat) (xa13 : Nat) (xa14 : Nat) (p0 : Int32) (p1 : Int32) (p2 : Int32) (ou : Nat) (fo : Nat → Int64) : Met l yL_look wsL_look rm_kL10_look (va_Pc [.ref h0, .int p0, .int p1, .int p2, .ref ou] (fun U => U.heap.size = sz ∧ va_P (dC, dI) vwCl [(h0, .inr (10, [.ref xa1, .ref xa3, .ref xa15, .ref xa27, .ref xa28, .ref xa33, .ref xa38, .ref xa41, .ref xa45, .ref xa46, .ref xa47, .ref xa52, .ref xa54, .int 0, .ref xa55, .ref xa60, .ref xa62, .ref xa67, .int (-1)])), (xa3, .inr (2, [.ref xa4, .ref xa5, .ref xa6, .ref xa7, .ref xa8, .ref xa9, .ref xa10, .int 0, .int 0, .int 0, .int 5, .ref xa11, .ref xa12, .ref xa13, .ref xa14])), (ou, .inl (kJ, 1, .inr (.inl fo)))] U.heap ∧ kE dC dI kB kI kJ kZ kC kS U ∧ va_D (fun _ => True) [(h0, .inr (10, [.ref xa1, .ref xa3, .ref xa15, .ref xa27, .ref xa28, .ref xa33, .ref xa38, .ref xa41, .ref xa45, .ref xa46, .ref xa47, .ref xa52, .ref xa54, .int 0, .ref xa55, .ref xa60, .ref xa62, .ref xa67, .int (-1)])), (xa3, .inr (2, [.ref xa4, .ref xa5, .ref xa6, .ref xa7, .ref xa8, .ref xa9, .ref xa10, .int 0, .int 0, .int 0, .int 5, .ref xa11, .ref xa12, .ref xa13, .ref xa14])), (ou, .inl (kJ, 1, .inr (.inl fo)))] ∧ kX U ∧ kT (va_A [(h0, .inr (10, [.ref xa1, .ref xa3, .ref xa15, .ref xa27, .ref xa28, .ref xa33, .ref xa38, .ref xa41, .ref xa45, .ref xa46, .ref xa47, .ref xa52, .ref xa54, .int 0, .ref xa55, .ref xa60, .ref xa62, .ref xa67, .int (-1)])), (xa3, .inr (2, [.ref xa4, .ref xa5, .ref xa6, .ref xa7, .ref xa8, .ref xa9, .ref xa10, .int 0, .int 0, .int 0, .int 5, .ref xa11, .ref xa12, .ref xa13, .ref xa14])), (ou, .inl (kJ, 1, .inr (.inl fo)))] sz) U)) (va_Qi (fun (r : Int32) (_ : Unit) => r = 1) (fun _ t => va_P (dC, dI) vwCl [(ou, .inl (kJ, 1, .inr (.inl fo)))] t.heap ∧ va_D (va_A [(h0, .inr (10, [.ref xa1, .ref xa3, .ref xa15, .ref xa27, .ref xa28, .ref xa33, .ref xa38, .ref xa41, .ref xa45, .ref xa46, .ref xa47, .ref xa52, .ref xa54, .int 0, .ref xa55, .ref xa60, .ref xa62, .ref xa67, .int (-1)])), (xa3, .inr (2, [.ref xa4, .ref xa5, .ref xa6, .ref xa7, .ref xa8, .ref xa9, .ref xa10, .int 0, .int 0, .int 0, .int 5, .ref xa11, .ref xa12, .ref xa13, .ref xa14])), (ou, .inl (kJ, 1, .inr (.inl fo)))] sz) [(ou, .inl (kJ, 1, .inr (.inl fo)))]) (va_A [(h0, .inr (10, [.ref xa1, .ref xa3, .ref xa15, .ref xa27, .ref xa28, .ref xa33, .ref xa38, .ref xa41, .ref xa45, .ref xa46, .ref xa47, .ref xa52, .ref xa54, .int 0, .ref xa55, .ref xa60, .ref xa62, .ref xa67, .int (-1)])), (xa3, .inr (2, [.ref xa4, .ref xa5, .ref xa6, .ref xa7, .ref xa8, .ref xa9, .ref xa10, .int 0, .int 0, .int 0, .int 5, .ref xa11, .ref xa12, .ref xa13, .ref xa14])), (ou, .inl (kJ, 1, .inr (.inl fo)))] sz)) 1 6 (va_A [(h0, .inr (10, [.ref xa1, .ref xa3, .ref xa15, .ref xa27, .ref xa28, .ref xa33, .ref xa38, .ref xa41, .ref xa45, .ref xa46, .ref xa47, .ref xa52, .ref xa54, .int 0, .ref xa55, .ref xa60, .ref xa62, .ref xa67, .int (-1)])), (xa3, .inr (2, [.ref xa4, .ref xa5, .ref xa6, .ref xa7, .ref xa8, .ref xa9, .ref xa10, .int 0, .int 0, .int 0, .int 5, .ref xa11, .ref xa12, .ref xa13, .ref xa14])), (ou, .inl (kJ, 1, .inr (.inl fo)))] sz) := by
  refine va_MetW (cc := cL_look) (maxL := 6) (ret := (some .int)) (by decide) rfl ?_
  intro p e s m args0 below meth c s₁ B hml hv
  obtain ⟨hargs, hsz, hP, hE, hD0, hXs, hT⟩ := hv
  have hx := B.exec
  have hb := B.bytes
  have hr := B.returns
  have hts := atoms_spec (ws := wsL_look) B.pre
  have hown : s.vm.findClass RL = some m.cls := findClass_of_methodNamed B.named
  have hlocks := B.notSynchronized
  have hK := hE.1
  have hin10 : ∀ w ∈ wsX100, w ∈ wsL_look := fun _ h9 => List.mem_cons_of_mem _ (List.mem_append_left _ (List.mem_append_left _ (List.mem_append_left _ (List.mem_append_left _ (List.mem_append_left _ (List.mem_append_right _ h9))))))
  have hin3 : ∀ w ∈ wsX30, w ∈ wsL_look := fun _ h9 => List.mem_cons_of_mem _ (List.mem_append_left _ (List.mem_append_left _ (List.mem_append_left _ (List.mem_append_left _ (List.mem_append_right _ h9)))))
  have hin2 : ∀ w ∈ wsX20, w ∈ wsL_look := fun _ h9 => List.mem_cons_of_mem _ (List.mem_append_left _ (List.mem_append_left _ (List.mem_append_left _ (List.mem_append_right _ h9))))
  have hin9 : ∀ w ∈ wsX90, w ∈ wsL_look := fun _ h9 => List.mem_cons_of_mem _ (List.mem_append_left _ (List.mem_append_left _ (List.mem_append_right _ h9)))
  have hin0 : ∀ w ∈ wsX00, w ∈ wsL_look := fun _ h9 => List.mem_cons_of_mem _ (List.mem_append_left _ (List.mem_append_right _ h9))
  subst hsz
  have hD := hD0.self (sz := s.heap.size)
  generalize hAe : va_A [(h0, .inr (10, [.ref xa1, .ref xa3, .ref xa15, .ref xa27, .ref xa28, .ref xa33, .ref xa38, .ref xa41, .ref xa45, .ref xa46, .ref xa47, .ref xa52, .ref xa54, .int 0, .ref xa55, .ref xa60, .ref xa62, .ref xa67, .int (-1)])), (xa3, .inr (2, [.ref xa4, .ref xa5, .ref xa6, .ref xa7, .ref xa8, .ref xa9, .ref xa10, .int 0, .int 0, .int 0, .int 5, .ref xa11, .ref xa12, .ref xa13, .ref xa14])), (ou, .inl (kJ, 1, .inr (.inl fo)))] s.heap.size = A at hD hT ⊢
  have hA : ∀ q : Nat, s.heap.size ≤ q → A q := fun q h => by rw [← hAe]; exact Or.inr h
  have hS : va_S A s.heap s.heap [] := va_S.rf
  have hP : va_P (dC, dI) vwCl [(h0, .inr (10, [.ref xa1, .ref xa3, .ref xa15, .ref xa27, .ref xa28, .ref xa33, .ref xa38, .ref xa41, .ref xa45, .ref xa46, .ref xa47, .ref xa52, .ref xa54, .int 0, .ref xa55, .ref xa60, .ref xa62, .ref xa67, .int (-1)])), (xa3, .inr (2, [.ref xa4, .ref xa5, .ref xa6, .ref xa7, .ref xa8, .ref xa9, .ref xa10, .int 0, .int 0, .int 0, .int 5, .ref xa11, .ref xa12, .ref xa13, .ref xa14])), (ou, .inl (kJ, 1, .inr (.inl fo)))] s.heap := hP
  have hl := lv_entry ([.ref h0, .int p0, .int p1, .int p2, .ref ou]) (n := 6) (Nat.le_of_ble_eq_true rfl)
  have hla : entryFrame m args0 6 = entryFrame m ([.ref h0, .int p0, .int p1, .int p2, .ref ou] : List Value).toArray 6 := by rw [hargs]
  rw [hla, lg_entry_eq]
  generalize (lg_sl ([.ref h0, .int p0, .int p1, .int p2, .ref ou]) ++ List.replicate (6 - (lg_sl ([.ref h0, .int p0, .int p1, .int p2, .ref ou])).length) Slot.unset).toArray = ls at hl ⊢
  have hl : lv_has ls 6 [(0, .ref h0), (1, .int p0), (2, .int p1), (3, .int p2), (4, .ref ou)] := hl
  refine lv_aload hx hb dL_look_0 (lv_at hl 4 rfl) ?_
  refine lv_iconst (v := 0) hx hb dL_look_2 (by decide) ?_
  refine lv_aload_n hx hb dL_look_3 rfl (lv_at hl 0 rfl) ?_
  refine lv_iload_n hx hb dL_look_4 rfl (lv_at hl 1 rfl) ?_
  refine lv_iload_n hx hb dL_look_5 rfl (lv_at hl 2 rfl) ?_
  refine lv_iload_n hx hb dL_look_6 rfl (lv_at hl 3 rfl) ?_
  have hPc := hP.sub (ws' := [(h0, .inr (10, [.ref xa1, .ref xa3, .ref xa15, .ref xa27, .ref xa28, .ref xa33, .ref xa38, .ref xa41, .ref xa45, .ref xa46, .ref xa47, .ref xa52, .ref xa54, .int 0, .ref xa55, .ref xa60, .ref xa62, .ref xa67, .int (-1)])), (xa3, .inr (2, [.ref xa4, .ref xa5, .ref xa6, .ref xa7, .ref xa8, .ref xa9, .ref xa10, .int 0, .int 0, .int 0, .int 5, .ref xa11, .ref xa12, .ref xa13, .ref xa14]))]) [0, 1] rfl
  have hDc := hD.sub (ws' := [(h0, .inr (10, [.ref xa1, .ref xa3, .ref xa15, .ref xa27, .ref xa28, .ref xa33, .ref xa38, .ref xa41, .ref xa45, .ref xa46, .ref xa47, .ref xa52, .ref xa54, .int 0, .ref xa55, .ref xa60, .ref xa62, .ref xa67, .int (-1)])), (xa3, .inr (2, [.ref xa4, .ref xa5, .ref xa6, .ref xa7, .ref xa8, .ref xa9, .ref xa10, .int 0, .int 0, .int 0, .int 5, .ref xa11, .ref xa12, .ref xa13, .ref xa14]))]) [0, 1] (by decide) rfl
  have hFc := va_free (wc := [(h0, .inr (10, [.ref xa1, .ref xa3, .ref xa15, .ref xa27, .ref xa28, .ref xa33, .ref xa38, .ref xa41, .ref xa45, .ref xa46, .ref xa47, .ref xa52, .ref xa54, .int 0, .ref xa55, .ref xa60, .ref xa62, .ref xa67, .int (-1)])), (xa3, .inr (2, [.ref xa4, .ref xa5, .ref xa6, .ref xa7, .ref xa8, .ref xa9, .ref xa10, .int 0, .int 0, .int 0, .int 5, .ref xa11, .ref xa12, .ref xa13, .ref xa14]))]) hD hS hA [0, 1] rfl
  refine vx_calli (vx_runV (As := [.int p0, .int p1, .int p2]) (rest := [.int 0, .ref ou]) ⟨hx, hb, hml, hown, hts⟩ (k10_look l hst dC dI kB kI kJ kZ kC kS s.heap.size h0 xa1 xa3 xa15 xa27 xa28 xa33 xa38 xa41 xa45 xa46 xa47 xa52 xa54 xa55 xa60 xa62 xa67 xa4 xa5 xa6 xa7 xa8 xa9 xa10 xa11 xa12 xa13 xa14 p0 p1 p2) (cwV 3 hts gL_look_X10_look rfl rfl rfl (by decide +kernel) ⟨Nat.le_of_ble_eq_true rfl, Nat.le_of_ble_eq_true rfl⟩) ⟨fun a U g mk q => by obtain ⟨q0, q1, qP, qE, qD, qX, qT⟩ := q; exact ⟨q0, q1, qP, kE_call qE, qD, kX_call qX, kT_call qT⟩, va_recv hK hP (ci := 10) (q0 := 0) rfl rfl, fun U hU hW => ⟨rfl, by rw [hU], by rw [hU]; exact hPc, kE_warm hW hE, hDc.weaken (fun _ _ _ _ => trivial), kX_warm hW hXs, kT_at hT hS hFc hW hU⟩⟩ rfl rfl hl.1 rfl (lv_room (Nat.le_of_ble_eq_true rfl)) dL_look_7 ⟨Nat.le_of_ble_eq_true rfl, Nat.le_of_ble_eq_true rfl⟩) hS (fun q _ h => hFc q h) hFc (fun q _ h => hFc q h) (fun E ce q9 u t H1 locs ht hvm hpx hBX hz1 hk1 hS hc9 hv9 hcl9 => ?_) (fun r1 u t H1 locs ht hvm w2 hB hz1 hk1 hS => ?_)
  · subst hBX
    have hP1 : va_P (dC, dI) vwCl [] H1 := fun k q h => by simp at h
    have hD1 : va_D (va_A [(h0, .inr (10, [.ref xa1, .ref xa3, .ref xa15, .ref xa27, .ref xa28, .ref xa33, .ref xa38, .ref xa41, .ref xa45, .ref xa46, .ref xa47, .ref xa52, .ref xa54, .int 0, .ref xa55, .ref xa60, .ref xa62, .ref xa67, .int (-1)])), (xa3, .inr (2, [.ref xa4, .ref xa5, .ref xa6, .ref xa7, .ref xa8, .ref xa9, .ref xa10, .int 0, .int 0, .int 0, .int 5, .ref xa11, .ref xa12, .ref xa13, .ref xa14]))] s.heap.size) [] := ⟨fun i j p q h => by simp at h, fun k q h => by simp at h⟩
    obtain ⟨hP, hD⟩ := va_join (wr := [(ou, .inl (kJ, 1, .inr (.inl fo)))]) (w1 := []) hP hD [0, 1] [2] rfl rfl (by decide) (by decide) hk1 hFc hP1 hD1
    generalize H1 = H at hP hS hc9 ⊢
    have hP : va_P (dC, dI) vwCl [(ou, .inl (kJ, 1, .inr (.inl fo)))] H := hP
    have hD : va_D A [(ou, .inl (kJ, 1, .inr (.inl fo)))] := hD
    have htab := vx_table B (hts (.codeWith yL_look cL_look 6 (some .int) [(0, 12, 15, 18)]) (List.mem_of_getElem? (i := 0) (by decide +kernel)))
    refine vx_catch (name := "java/util/NoSuchElementException") hown [] ⟨0, 12, 15, 18⟩ [] (htab.trans rfl) (fun z h => absurd h List.not_mem_nil) rfl (by decide) (hts (.classLink RL 18 "java/util/NoSuchElementException") (List.mem_of_getElem? (i := 1) (by decide +kernel))) (va_Nw.use rfl hXs.1) hc9 hv9 hcl9 ?_
    refine W.widen (k := 1) (n := 6) (Nat.le_of_ble_eq_true rfl) (Nat.le_of_ble_eq_true rfl) ?_
    refine W.eq (g2 := F0 m 15 ls [.ref q9]) rfl ?_
    refine lv_astore (lv' := [(5, .ref q9), (0, .ref h0), (1, .int p0), (2, .int p1), (3, .int p2), (4, .ref ou)]) hx hb dL_look_15 hl (by decide) rfl (fun ls hl => ?_)
    refine lv_iconst (v := 1) hx hb dL_look_17 (by decide) ?_
    have hP9 := hP.sub (ws' := [(ou, .inl (kJ, 1, .inr (.inl fo)))]) [0] rfl
    have hD9 := hD.sub (ws' := [(ou, .inl (kJ, 1, .inr (.inl fo)))]) [0] (by decide) rfl
    exact W.iret (v := 1) hx hb hr (fun t ht hW => ⟨⟨1, (), rfl, rfl, by rw [ht]; exact hP9, hD9⟩, hS.F ht⟩) hS.2.2 dL_look_18
  · exact w2.elim
def rm_kL10_seen : Room := { frames := 8, cells := 2, slots := 12, locals := 126 }
set_option maxHeartbeats 4000000 in
set_option maxRecDepth 100000 in
theorem kL10_seen (l : Launch) (hst : l.stackTraces = false) (dC : Nat → ClassId) (dI : Nat → Nat → Nat) (kB kI kJ kZ kC kS : ClassId) (sz : Nat) (h0 : Nat) (xa1 : Nat) (xa3 : Nat) (xa15 : Nat) (xa27 : Nat) (xa28 : Nat) (xa33 : Nat) (xa38 : Nat) (xa41 : Nat) (xa45 : Nat) (xa46 : Nat) (xa47 : Nat) (xa52 : Nat) (xa54 : Nat) (xa55 : Nat) (xa60 : Nat) (xa62 : Nat) (xa67 : Nat) (xa4 : Nat) (xa5 : Nat) (xa6 : Nat) (xa7 : Nat) (xa8 : Nat) (xa9 : Nat) (xa10 : Nat) (xa11 : Nat) (xa12 : Nat) (xa13 : Nat) (xa14 : Nat) (p0 : Int32) (p1 : Int32) (p2 : Int32) (ou : Nat) (fo : Nat → Int64) : Met l yL_seen wsL_seen rm_kL10_seen (va_Pc [.ref h0, .int p0, .int p1, .int p2, .ref ou] (fun U => U.heap.size = sz ∧ va_P (dC, dI) vwCl [(h0, .inr (10, [.ref xa1, .ref xa3, .ref xa15, .ref xa27, .ref xa28, .ref xa33, .ref xa38, .ref xa41, .ref xa45, .ref xa46, .ref xa47, .ref xa52, .ref xa54, .int 0, .ref xa55, .ref xa60, .ref xa62, .ref xa67, .int (-1)])), (xa3, .inr (2, [.ref xa4, .ref xa5, .ref xa6, .ref xa7, .ref xa8, .ref xa9, .ref xa10, .int 0, .int 0, .int 0, .int 5, .ref xa11, .ref xa12, .ref xa13, .ref xa14])), (ou, .inl (kJ, 1, .inr (.inl fo)))] U.heap ∧ kE dC dI kB kI kJ kZ kC kS U ∧ va_D (fun _ => True) [(h0, .inr (10, [.ref xa1, .ref xa3, .ref xa15, .ref xa27, .ref xa28, .ref xa33, .ref xa38, .ref xa41, .ref xa45, .ref xa46, .ref xa47, .ref xa52, .ref xa54, .int 0, .ref xa55, .ref xa60, .ref xa62, .ref xa67, .int (-1)])), (xa3, .inr (2, [.ref xa4, .ref xa5, .ref xa6, .ref xa7, .ref xa8, .ref xa9, .ref xa10, .int 0, .int 0, .int 0, .int 5, .ref xa11, .ref xa12, .ref xa13, .ref xa14])), (ou, .inl (kJ, 1, .inr (.inl fo)))] ∧ kX U ∧ kT (va_A [(h0, .inr (10, [.ref xa1, .ref xa3, .ref xa15, .ref xa27, .ref xa28, .ref xa33, .ref xa38, .ref xa41, .ref xa45, .ref xa46, .ref xa47, .ref xa52, .ref xa54, .int 0, .ref xa55, .ref xa60, .ref xa62, .ref xa67, .int (-1)])), (xa3, .inr (2, [.ref xa4, .ref xa5, .ref xa6, .ref xa7, .ref xa8, .ref xa9, .ref xa10, .int 0, .int 0, .int 0, .int 5, .ref xa11, .ref xa12, .ref xa13, .ref xa14])), (ou, .inl (kJ, 1, .inr (.inl fo)))] sz) U)) (va_Qi (fun (r : Int32) (_ : Unit) => r = 1) (fun _ t => va_P (dC, dI) vwCl [(ou, .inl (kJ, 1, .inr (.inl fo)))] t.heap ∧ va_D (va_A [(h0, .inr (10, [.ref xa1, .ref xa3, .ref xa15, .ref xa27, .ref xa28, .ref xa33, .ref xa38, .ref xa41, .ref xa45, .ref xa46, .ref xa47, .ref xa52, .ref xa54, .int 0, .ref xa55, .ref xa60, .ref xa62, .ref xa67, .int (-1)])), (xa3, .inr (2, [.ref xa4, .ref xa5, .ref xa6, .ref xa7, .ref xa8, .ref xa9, .ref xa10, .int 0, .int 0, .int 0, .int 5, .ref xa11, .ref xa12, .ref xa13, .ref xa14])), (ou, .inl (kJ, 1, .inr (.inl fo)))] sz) [(ou, .inl (kJ, 1, .inr (.inl fo)))]) (va_A [(h0, .inr (10, [.ref xa1, .ref xa3, .ref xa15, .ref xa27, .ref xa28, .ref xa33, .ref xa38, .ref xa41, .ref xa45, .ref xa46, .ref xa47, .ref xa52, .ref xa54, .int 0, .ref xa55, .ref xa60, .ref xa62, .ref xa67, .int (-1)])), (xa3, .inr (2, [.ref xa4, .ref xa5, .ref xa6, .ref xa7, .ref xa8, .ref xa9, .ref xa10, .int 0, .int 0, .int 0, .int 5, .ref xa11, .ref xa12, .ref xa13, .ref xa14])), (ou, .inl (kJ, 1, .inr (.inl fo)))] sz)) 2 12 (va_A [(h0, .inr (10, [.ref xa1, .ref xa3, .ref xa15, .ref xa27, .ref xa28, .ref xa33, .ref xa38, .ref xa41, .ref xa45, .ref xa46, .ref xa47, .ref xa52, .ref xa54, .int 0, .ref xa55, .ref xa60, .ref xa62, .ref xa67, .int (-1)])), (xa3, .inr (2, [.ref xa4, .ref xa5, .ref xa6, .ref xa7, .ref xa8, .ref xa9, .ref xa10, .int 0, .int 0, .int 0, .int 5, .ref xa11, .ref xa12, .ref xa13, .ref xa14])), (ou, .inl (kJ, 1, .inr (.inl fo)))] sz) := by
  refine va_MetW (cc := cL_seen) (maxL := 6) (ret := (some .int)) (by decide) rfl ?_
  intro p e s m args0 below meth c s₁ B hml hv
  obtain ⟨hargs, hsz, hP, hE, hD0, hXs, hT⟩ := hv
  have hx := B.exec
  have hb := B.bytes
  have hr := B.returns
  have hts := atoms_spec (ws := wsL_seen) B.pre
  have hown : s.vm.findClass RL = some m.cls := findClass_of_methodNamed B.named
  have hlocks := B.notSynchronized
  have hK := hE.1
  have hin10 : ∀ w ∈ wsX100, w ∈ wsL_seen := fun _ h9 => List.mem_cons_of_mem _ (List.mem_append_left _ (List.mem_append_left _ (List.mem_append_left _ (List.mem_append_right _ h9))))
  have hin2 : ∀ w ∈ wsX20, w ∈ wsL_seen := fun _ h9 => List.mem_cons_of_mem _ (List.mem_append_left _ (List.mem_append_left _ (List.mem_append_right _ h9)))
  have hin0 : ∀ w ∈ wsX00, w ∈ wsL_seen := fun _ h9 => List.mem_cons_of_mem _ (List.mem_append_left _ (List.mem_append_right _ h9))
  subst hsz
  have hD := hD0.self (sz := s.heap.size)
  generalize hAe : va_A [(h0, .inr (10, [.ref xa1, .ref xa3, .ref xa15, .ref xa27, .ref xa28, .ref xa33, .ref xa38, .ref xa41, .ref xa45, .ref xa46, .ref xa47, .ref xa52, .ref xa54, .int 0, .ref xa55, .ref xa60, .ref xa62, .ref xa67, .int (-1)])), (xa3, .inr (2, [.ref xa4, .ref xa5, .ref xa6, .ref xa7, .ref xa8, .ref xa9, .ref xa10, .int 0, .int 0, .int 0, .int 5, .ref xa11, .ref xa12, .ref xa13, .ref xa14])), (ou, .inl (kJ, 1, .inr (.inl fo)))] s.heap.size = A at hD hT ⊢
  have hA : ∀ q : Nat, s.heap.size ≤ q → A q := fun q h => by rw [← hAe]; exact Or.inr h
  have hS : va_S A s.heap s.heap [] := va_S.rf
  have hP : va_P (dC, dI) vwCl [(h0, .inr (10, [.ref xa1, .ref xa3, .ref xa15, .ref xa27, .ref xa28, .ref xa33, .ref xa38, .ref xa41, .ref xa45, .ref xa46, .ref xa47, .ref xa52, .ref xa54, .int 0, .ref xa55, .ref xa60, .ref xa62, .ref xa67, .int (-1)])), (xa3, .inr (2, [.ref xa4, .ref xa5, .ref xa6, .ref xa7, .ref xa8, .ref xa9, .ref xa10, .int 0, .int 0, .int 0, .int 5, .ref xa11, .ref xa12, .ref xa13, .ref xa14])), (ou, .inl (kJ, 1, .inr (.inl fo)))] s.heap := hP
  have hl := lv_entry ([.ref h0, .int p0, .int p1, .int p2, .ref ou]) (n := 6) (Nat.le_of_ble_eq_true rfl)
  have hla : entryFrame m args0 6 = entryFrame m ([.ref h0, .int p0, .int p1, .int p2, .ref ou] : List Value).toArray 6 := by rw [hargs]
  rw [hla, lg_entry_eq]
  generalize (lg_sl ([.ref h0, .int p0, .int p1, .int p2, .ref ou]) ++ List.replicate (6 - (lg_sl ([.ref h0, .int p0, .int p1, .int p2, .ref ou])).length) Slot.unset).toArray = ls at hl ⊢
  have hl : lv_has ls 6 [(0, .ref h0), (1, .int p0), (2, .int p1), (3, .int p2), (4, .ref ou)] := hl
  refine lv_aload hx hb dL_seen_0 (lv_at hl 4 rfl) ?_
  refine lv_iconst (v := 0) hx hb dL_seen_2 (by decide) ?_
  refine lv_aload_n hx hb dL_seen_3 rfl (lv_at hl 0 rfl) ?_
  refine lv_iload_n hx hb dL_seen_4 rfl (lv_at hl 1 rfl) ?_
  refine lv_iload_n hx hb dL_seen_5 rfl (lv_at hl 2 rfl) ?_
  refine lv_iload_n hx hb dL_seen_6 rfl (lv_at hl 3 rfl) ?_
  have hPc := hP.sub (ws' := [(h0, .inr (10, [.ref xa1, .ref xa3, .ref xa15, .ref xa27, .ref xa28, .ref xa33, .ref xa38, .ref xa41, .ref xa45, .ref xa46, .ref xa47, .ref xa52, .ref xa54, .int 0, .ref xa55, .ref xa60, .ref xa62, .ref xa67, .int (-1)])), (xa3, .inr (2, [.ref xa4, .ref xa5, .ref xa6, .ref xa7, .ref xa8, .ref xa9, .ref xa10, .int 0, .int 0, .int 0, .int 5, .ref xa11, .ref xa12, .ref xa13, .ref xa14]))]) [0, 1] rfl
  have hDc := hD.sub (ws' := [(h0, .inr (10, [.ref xa1, .ref xa3, .ref xa15, .ref xa27, .ref xa28, .ref xa33, .ref xa38, .ref xa41, .ref xa45, .ref xa46, .ref xa47, .ref xa52, .ref xa54, .int 0, .ref xa55, .ref xa60, .ref xa62, .ref xa67, .int (-1)])), (xa3, .inr (2, [.ref xa4, .ref xa5, .ref xa6, .ref xa7, .ref xa8, .ref xa9, .ref xa10, .int 0, .int 0, .int 0, .int 5, .ref xa11, .ref xa12, .ref xa13, .ref xa14]))]) [0, 1] (by decide) rfl
  have hFc := va_free (wc := [(h0, .inr (10, [.ref xa1, .ref xa3, .ref xa15, .ref xa27, .ref xa28, .ref xa33, .ref xa38, .ref xa41, .ref xa45, .ref xa46, .ref xa47, .ref xa52, .ref xa54, .int 0, .ref xa55, .ref xa60, .ref xa62, .ref xa67, .int (-1)])), (xa3, .inr (2, [.ref xa4, .ref xa5, .ref xa6, .ref xa7, .ref xa8, .ref xa9, .ref xa10, .int 0, .int 0, .int 0, .int 5, .ref xa11, .ref xa12, .ref xa13, .ref xa14]))]) hD hS hA [0, 1] rfl
  refine vx_calli (vx_runV (As := [.int p0, .int p1, .int p2]) (rest := [.int 0, .ref ou]) ⟨hx, hb, hml, hown, hts⟩ (k10_seen l hst dC dI kB kI kJ kZ kC kS s.heap.size h0 xa1 xa3 xa15 xa27 xa28 xa33 xa38 xa41 xa45 xa46 xa47 xa52 xa54 xa55 xa60 xa62 xa67 xa4 xa5 xa6 xa7 xa8 xa9 xa10 xa11 xa12 xa13 xa14 p0 p1 p2) (cwV 3 hts gL_seen_X10_seen rfl rfl rfl (by decide +kernel) ⟨Nat.le_of_ble_eq_true rfl, Nat.le_of_ble_eq_true rfl⟩) ⟨fun a U g mk q => by obtain ⟨q0, q1, qP, qE, qD, qX, qT⟩ := q; exact ⟨q0, q1, qP, kE_call qE, qD, kX_call qX, kT_call qT⟩, va_recv hK hP (ci := 10) (q0 := 0) rfl rfl, fun U hU hW => ⟨rfl, by rw [hU], by rw [hU]; exact hPc, kE_warm hW hE, hDc.weaken (fun _ _ _ _ => trivial), kX_warm hW hXs, kT_at hT hS hFc hW hU⟩⟩ rfl rfl hl.1 rfl (lv_room (Nat.le_of_ble_eq_true rfl)) dL_seen_7 ⟨Nat.le_of_ble_eq_true rfl, Nat.le_of_ble_eq_true rfl⟩) hS (fun q _ h => hFc q h) hFc (fun q _ h => hFc q h) (fun E ce q9 u t H1 locs ht hvm hpx hBX hz1 hk1 hS hc9 hv9 hcl9 => ?_) (fun r1 u t H1 locs ht hvm w2 hB hz1 hk1 hS => ?_)
  · subst hBX
    have hP1 : va_P (dC, dI) vwCl [] H1 := fun k q h => by simp at h
    have hD1 : va_D (va_A [(h0, .inr (10, [.ref xa1, .ref xa3, .ref xa15, .ref xa27, .ref xa28, .ref xa33, .ref xa38, .ref xa41, .ref xa45, .ref xa46, .ref xa47, .ref xa52, .ref xa54, .int 0, .ref xa55, .ref xa60, .ref xa62, .ref xa67, .int (-1)])), (xa3, .inr (2, [.ref xa4, .ref xa5, .ref xa6, .ref xa7, .ref xa8, .ref xa9, .ref xa10, .int 0, .int 0, .int 0, .int 5, .ref xa11, .ref xa12, .ref xa13, .ref xa14]))] s.heap.size) [] := ⟨fun i j p q h => by simp at h, fun k q h => by simp at h⟩
    obtain ⟨hP, hD⟩ := va_join (wr := [(ou, .inl (kJ, 1, .inr (.inl fo)))]) (w1 := []) hP hD [0, 1] [2] rfl rfl (by decide) (by decide) hk1 hFc hP1 hD1
    generalize H1 = H at hP hS hc9 ⊢
    have hP : va_P (dC, dI) vwCl [(ou, .inl (kJ, 1, .inr (.inl fo)))] H := hP
    have hD : va_D A [(ou, .inl (kJ, 1, .inr (.inl fo)))] := hD
    have htab := vx_table B (hts (.codeWith yL_seen cL_seen 6 (some .int) [(0, 12, 15, 18)]) (List.mem_of_getElem? (i := 0) (by decide +kernel)))
    refine vx_catch (name := "java/util/NoSuchElementException") hown [] ⟨0, 12, 15, 18⟩ [] (htab.trans rfl) (fun z h => absurd h List.not_mem_nil) rfl (by decide) (hts (.classLink RL 18 "java/util/NoSuchElementException") (List.mem_of_getElem? (i := 1) (by decide +kernel))) (va_Nw.use rfl hXs.1) hc9 hv9 hcl9 ?_
    refine W.widen (k := 2) (n := 12) (Nat.le_of_ble_eq_true rfl) (Nat.le_of_ble_eq_true rfl) ?_
    refine W.eq (g2 := F0 m 15 ls [.ref q9]) rfl ?_
    refine lv_astore (lv' := [(5, .ref q9), (0, .ref h0), (1, .int p0), (2, .int p1), (3, .int p2), (4, .ref ou)]) hx hb dL_seen_15 hl (by decide) rfl (fun ls hl => ?_)
    refine lv_iconst (v := 1) hx hb dL_seen_17 (by decide) ?_
    have hP9 := hP.sub (ws' := [(ou, .inl (kJ, 1, .inr (.inl fo)))]) [0] rfl
    have hD9 := hD.sub (ws' := [(ou, .inl (kJ, 1, .inr (.inl fo)))]) [0] (by decide) rfl
    exact W.iret (v := 1) hx hb hr (fun t ht hW => ⟨⟨1, (), rfl, rfl, by rw [ht]; exact hP9, hD9⟩, hS.F ht⟩) hS.2.2 dL_seen_18
  · exact w2.elim
def rm_kL10_loop : Room := { frames := 8, cells := 2, slots := 12, locals := 127 }
set_option maxHeartbeats 4000000 in
set_option maxRecDepth 100000 in
theorem kL10_loop (l : Launch) (hst : l.stackTraces = false) (dC : Nat → ClassId) (dI : Nat → Nat → Nat) (kB kI kJ kZ kC kS : ClassId) (sz : Nat) (h0 : Nat) (xa1 : Nat) (xa3 : Nat) (xa15 : Nat) (xa27 : Nat) (xa28 : Nat) (xa33 : Nat) (xa38 : Nat) (xa41 : Nat) (xa45 : Nat) (xa46 : Nat) (xa47 : Nat) (xa52 : Nat) (xa54 : Nat) (xa55 : Nat) (xa60 : Nat) (xa62 : Nat) (xa67 : Nat) (xa4 : Nat) (xa5 : Nat) (xa6 : Nat) (xa7 : Nat) (xa8 : Nat) (xa9 : Nat) (xa10 : Nat) (xa11 : Nat) (xa12 : Nat) (xa13 : Nat) (xa14 : Nat) (p0 : Int32) (p1 : Int32) (p2 : Int32) (ou : Nat) (fo : Nat → Int64) : Met l yL_loop wsL_loop rm_kL10_loop (va_Pc [.ref h0, .int p0, .int p1, .int p2, .ref ou] (fun U => U.heap.size = sz ∧ va_P (dC, dI) vwCl [(h0, .inr (10, [.ref xa1, .ref xa3, .ref xa15, .ref xa27, .ref xa28, .ref xa33, .ref xa38, .ref xa41, .ref xa45, .ref xa46, .ref xa47, .ref xa52, .ref xa54, .int 0, .ref xa55, .ref xa60, .ref xa62, .ref xa67, .int (-1)])), (xa3, .inr (2, [.ref xa4, .ref xa5, .ref xa6, .ref xa7, .ref xa8, .ref xa9, .ref xa10, .int 0, .int 0, .int 0, .int 5, .ref xa11, .ref xa12, .ref xa13, .ref xa14])), (ou, .inl (kJ, 1, .inr (.inl fo)))] U.heap ∧ kE dC dI kB kI kJ kZ kC kS U ∧ va_D (fun _ => True) [(h0, .inr (10, [.ref xa1, .ref xa3, .ref xa15, .ref xa27, .ref xa28, .ref xa33, .ref xa38, .ref xa41, .ref xa45, .ref xa46, .ref xa47, .ref xa52, .ref xa54, .int 0, .ref xa55, .ref xa60, .ref xa62, .ref xa67, .int (-1)])), (xa3, .inr (2, [.ref xa4, .ref xa5, .ref xa6, .ref xa7, .ref xa8, .ref xa9, .ref xa10, .int 0, .int 0, .int 0, .int 5, .ref xa11, .ref xa12, .ref xa13, .ref xa14])), (ou, .inl (kJ, 1, .inr (.inl fo)))] ∧ kX U ∧ kT (va_A [(h0, .inr (10, [.ref xa1, .ref xa3, .ref xa15, .ref xa27, .ref xa28, .ref xa33, .ref xa38, .ref xa41, .ref xa45, .ref xa46, .ref xa47, .ref xa52, .ref xa54, .int 0, .ref xa55, .ref xa60, .ref xa62, .ref xa67, .int (-1)])), (xa3, .inr (2, [.ref xa4, .ref xa5, .ref xa6, .ref xa7, .ref xa8, .ref xa9, .ref xa10, .int 0, .int 0, .int 0, .int 5, .ref xa11, .ref xa12, .ref xa13, .ref xa14])), (ou, .inl (kJ, 1, .inr (.inl fo)))] sz) U)) (va_Qi (fun (r : Int32) (_ : Unit) => r = 1) (fun _ t => va_P (dC, dI) vwCl [(ou, .inl (kJ, 1, .inr (.inl fo)))] t.heap ∧ va_D (va_A [(h0, .inr (10, [.ref xa1, .ref xa3, .ref xa15, .ref xa27, .ref xa28, .ref xa33, .ref xa38, .ref xa41, .ref xa45, .ref xa46, .ref xa47, .ref xa52, .ref xa54, .int 0, .ref xa55, .ref xa60, .ref xa62, .ref xa67, .int (-1)])), (xa3, .inr (2, [.ref xa4, .ref xa5, .ref xa6, .ref xa7, .ref xa8, .ref xa9, .ref xa10, .int 0, .int 0, .int 0, .int 5, .ref xa11, .ref xa12, .ref xa13, .ref xa14])), (ou, .inl (kJ, 1, .inr (.inl fo)))] sz) [(ou, .inl (kJ, 1, .inr (.inl fo)))]) (va_A [(h0, .inr (10, [.ref xa1, .ref xa3, .ref xa15, .ref xa27, .ref xa28, .ref xa33, .ref xa38, .ref xa41, .ref xa45, .ref xa46, .ref xa47, .ref xa52, .ref xa54, .int 0, .ref xa55, .ref xa60, .ref xa62, .ref xa67, .int (-1)])), (xa3, .inr (2, [.ref xa4, .ref xa5, .ref xa6, .ref xa7, .ref xa8, .ref xa9, .ref xa10, .int 0, .int 0, .int 0, .int 5, .ref xa11, .ref xa12, .ref xa13, .ref xa14])), (ou, .inl (kJ, 1, .inr (.inl fo)))] sz)) 2 12 (va_A [(h0, .inr (10, [.ref xa1, .ref xa3, .ref xa15, .ref xa27, .ref xa28, .ref xa33, .ref xa38, .ref xa41, .ref xa45, .ref xa46, .ref xa47, .ref xa52, .ref xa54, .int 0, .ref xa55, .ref xa60, .ref xa62, .ref xa67, .int (-1)])), (xa3, .inr (2, [.ref xa4, .ref xa5, .ref xa6, .ref xa7, .ref xa8, .ref xa9, .ref xa10, .int 0, .int 0, .int 0, .int 5, .ref xa11, .ref xa12, .ref xa13, .ref xa14])), (ou, .inl (kJ, 1, .inr (.inl fo)))] sz) := by
  refine va_MetW (cc := cL_loop) (maxL := 6) (ret := (some .int)) (by decide) rfl ?_
  intro p e s m args0 below meth c s₁ B hml hv
  obtain ⟨hargs, hsz, hP, hE, hD0, hXs, hT⟩ := hv
  have hx := B.exec
  have hb := B.bytes
  have hr := B.returns
  have hts := atoms_spec (ws := wsL_loop) B.pre
  have hown : s.vm.findClass RL = some m.cls := findClass_of_methodNamed B.named
  have hlocks := B.notSynchronized
  have hK := hE.1
  have hin10 : ∀ w ∈ wsX100, w ∈ wsL_loop := fun _ h9 => List.mem_cons_of_mem _ (List.mem_append_left _ (List.mem_append_left _ (List.mem_append_left _ (List.mem_append_left _ (List.mem_append_right _ h9)))))
  have hin2 : ∀ w ∈ wsX20, w ∈ wsL_loop := fun _ h9 => List.mem_cons_of_mem _ (List.mem_append_left _ (List.mem_append_left _ (List.mem_append_left _ (List.mem_append_right _ h9))))
  have hin7 : ∀ w ∈ wsX70, w ∈ wsL_loop := fun _ h9 => List.mem_cons_of_mem _ (List.mem_append_left _ (List.mem_append_left _ (List.mem_append_right _ h9)))
  have hin0 : ∀ w ∈ wsX00, w ∈ wsL_loop := fun _ h9 => List.mem_cons_of_mem _ (List.mem_append_left _ (List.mem_append_right _ h9))
  subst hsz
  have hD := hD0.self (sz := s.heap.size)
  generalize hAe : va_A [(h0, .inr (10, [.ref xa1, .ref xa3, .ref xa15, .ref xa27, .ref xa28, .ref xa33, .ref xa38, .ref xa41, .ref xa45, .ref xa46, .ref xa47, .ref xa52, .ref xa54, .int 0, .ref xa55, .ref xa60, .ref xa62, .ref xa67, .int (-1)])), (xa3, .inr (2, [.ref xa4, .ref xa5, .ref xa6, .ref xa7, .ref xa8, .ref xa9, .ref xa10, .int 0, .int 0, .int 0, .int 5, .ref xa11, .ref xa12, .ref xa13, .ref xa14])), (ou, .inl (kJ, 1, .inr (.inl fo)))] s.heap.size = A at hD hT ⊢
  have hA : ∀ q : Nat, s.heap.size ≤ q → A q := fun q h => by rw [← hAe]; exact Or.inr h
  have hS : va_S A s.heap s.heap [] := va_S.rf
  have hP : va_P (dC, dI) vwCl [(h0, .inr (10, [.ref xa1, .ref xa3, .ref xa15, .ref xa27, .ref xa28, .ref xa33, .ref xa38, .ref xa41, .ref xa45, .ref xa46, .ref xa47, .ref xa52, .ref xa54, .int 0, .ref xa55, .ref xa60, .ref xa62, .ref xa67, .int (-1)])), (xa3, .inr (2, [.ref xa4, .ref xa5, .ref xa6, .ref xa7, .ref xa8, .ref xa9, .ref xa10, .int 0, .int 0, .int 0, .int 5, .ref xa11, .ref xa12, .ref xa13, .ref xa14])), (ou, .inl (kJ, 1, .inr (.inl fo)))] s.heap := hP
  have hl := lv_entry ([.ref h0, .int p0, .int p1, .int p2, .ref ou]) (n := 6) (Nat.le_of_ble_eq_true rfl)
  have hla : entryFrame m args0 6 = entryFrame m ([.ref h0, .int p0, .int p1, .int p2, .ref ou] : List Value).toArray 6 := by rw [hargs]
  rw [hla, lg_entry_eq]
  generalize (lg_sl ([.ref h0, .int p0, .int p1, .int p2, .ref ou]) ++ List.replicate (6 - (lg_sl ([.ref h0, .int p0, .int p1, .int p2, .ref ou])).length) Slot.unset).toArray = ls at hl ⊢
  have hl : lv_has ls 6 [(0, .ref h0), (1, .int p0), (2, .int p1), (3, .int p2), (4, .ref ou)] := hl
  refine lv_aload hx hb dL_loop_0 (lv_at hl 4 rfl) ?_
  refine lv_iconst (v := 0) hx hb dL_loop_2 (by decide) ?_
  refine lv_aload_n hx hb dL_loop_3 rfl (lv_at hl 0 rfl) ?_
  refine lv_iload_n hx hb dL_loop_4 rfl (lv_at hl 1 rfl) ?_
  refine lv_iload_n hx hb dL_loop_5 rfl (lv_at hl 2 rfl) ?_
  refine lv_iload_n hx hb dL_loop_6 rfl (lv_at hl 3 rfl) ?_
  have hPc := hP.sub (ws' := [(h0, .inr (10, [.ref xa1, .ref xa3, .ref xa15, .ref xa27, .ref xa28, .ref xa33, .ref xa38, .ref xa41, .ref xa45, .ref xa46, .ref xa47, .ref xa52, .ref xa54, .int 0, .ref xa55, .ref xa60, .ref xa62, .ref xa67, .int (-1)])), (xa3, .inr (2, [.ref xa4, .ref xa5, .ref xa6, .ref xa7, .ref xa8, .ref xa9, .ref xa10, .int 0, .int 0, .int 0, .int 5, .ref xa11, .ref xa12, .ref xa13, .ref xa14]))]) [0, 1] rfl
  have hDc := hD.sub (ws' := [(h0, .inr (10, [.ref xa1, .ref xa3, .ref xa15, .ref xa27, .ref xa28, .ref xa33, .ref xa38, .ref xa41, .ref xa45, .ref xa46, .ref xa47, .ref xa52, .ref xa54, .int 0, .ref xa55, .ref xa60, .ref xa62, .ref xa67, .int (-1)])), (xa3, .inr (2, [.ref xa4, .ref xa5, .ref xa6, .ref xa7, .ref xa8, .ref xa9, .ref xa10, .int 0, .int 0, .int 0, .int 5, .ref xa11, .ref xa12, .ref xa13, .ref xa14]))]) [0, 1] (by decide) rfl
  have hFc := va_free (wc := [(h0, .inr (10, [.ref xa1, .ref xa3, .ref xa15, .ref xa27, .ref xa28, .ref xa33, .ref xa38, .ref xa41, .ref xa45, .ref xa46, .ref xa47, .ref xa52, .ref xa54, .int 0, .ref xa55, .ref xa60, .ref xa62, .ref xa67, .int (-1)])), (xa3, .inr (2, [.ref xa4, .ref xa5, .ref xa6, .ref xa7, .ref xa8, .ref xa9, .ref xa10, .int 0, .int 0, .int 0, .int 5, .ref xa11, .ref xa12, .ref xa13, .ref xa14]))]) hD hS hA [0, 1] rfl
  refine vx_calli (vx_runV (As := [.int p0, .int p1, .int p2]) (rest := [.int 0, .ref ou]) ⟨hx, hb, hml, hown, hts⟩ (k10_loop l hst dC dI kB kI kJ kZ kC kS s.heap.size h0 xa1 xa3 xa15 xa27 xa28 xa33 xa38 xa41 xa45 xa46 xa47 xa52 xa54 xa55 xa60 xa62 xa67 xa4 xa5 xa6 xa7 xa8 xa9 xa10 xa11 xa12 xa13 xa14 p0 p1 p2) (cwV 3 hts gL_loop_X10_loop rfl rfl rfl (by decide +kernel) ⟨Nat.le_of_ble_eq_true rfl, Nat.le_of_ble_eq_true rfl⟩) ⟨fun a U g mk q => by obtain ⟨q0, q1, qP, qE, qD, qX, qT⟩ := q; exact ⟨q0, q1, qP, kE_call qE, qD, kX_call qX, kT_call qT⟩, va_recv hK hP (ci := 10) (q0 := 0) rfl rfl, fun U hU hW => ⟨rfl, by rw [hU], by rw [hU]; exact hPc, kE_warm hW hE, hDc.weaken (fun _ _ _ _ => trivial), kX_warm hW hXs, kT_at hT hS hFc hW hU⟩⟩ rfl rfl hl.1 rfl (lv_room (Nat.le_of_ble_eq_true rfl)) dL_loop_7 ⟨Nat.le_of_ble_eq_true rfl, Nat.le_of_ble_eq_true rfl⟩) hS (fun q _ h => hFc q h) hFc (fun q _ h => hFc q h) (fun E ce q9 u t H1 locs ht hvm hpx hBX hz1 hk1 hS hc9 hv9 hcl9 => ?_) (fun r1 u t H1 locs ht hvm w2 hB hz1 hk1 hS => ?_)
  · subst hBX
    have hP1 : va_P (dC, dI) vwCl [] H1 := fun k q h => by simp at h
    have hD1 : va_D (va_A [(h0, .inr (10, [.ref xa1, .ref xa3, .ref xa15, .ref xa27, .ref xa28, .ref xa33, .ref xa38, .ref xa41, .ref xa45, .ref xa46, .ref xa47, .ref xa52, .ref xa54, .int 0, .ref xa55, .ref xa60, .ref xa62, .ref xa67, .int (-1)])), (xa3, .inr (2, [.ref xa4, .ref xa5, .ref xa6, .ref xa7, .ref xa8, .ref xa9, .ref xa10, .int 0, .int 0, .int 0, .int 5, .ref xa11, .ref xa12, .ref xa13, .ref xa14]))] s.heap.size) [] := ⟨fun i j p q h => by simp at h, fun k q h => by simp at h⟩
    obtain ⟨hP, hD⟩ := va_join (wr := [(ou, .inl (kJ, 1, .inr (.inl fo)))]) (w1 := []) hP hD [0, 1] [2] rfl rfl (by decide) (by decide) hk1 hFc hP1 hD1
    generalize H1 = H at hP hS hc9 ⊢
    have hP : va_P (dC, dI) vwCl [(ou, .inl (kJ, 1, .inr (.inl fo)))] H := hP
    have hD : va_D A [(ou, .inl (kJ, 1, .inr (.inl fo)))] := hD
    have htab := vx_table B (hts (.codeWith yL_loop cL_loop 6 (some .int) [(0, 12, 15, 18)]) (List.mem_of_getElem? (i := 0) (by decide +kernel)))
    refine vx_catch (name := "java/util/NoSuchElementException") hown [] ⟨0, 12, 15, 18⟩ [] (htab.trans rfl) (fun z h => absurd h List.not_mem_nil) rfl (by decide) (hts (.classLink RL 18 "java/util/NoSuchElementException") (List.mem_of_getElem? (i := 1) (by decide +kernel))) (va_Nw.use rfl hXs.1) hc9 hv9 hcl9 ?_
    refine W.widen (k := 2) (n := 12) (Nat.le_of_ble_eq_true rfl) (Nat.le_of_ble_eq_true rfl) ?_
    refine W.eq (g2 := F0 m 15 ls [.ref q9]) rfl ?_
    refine lv_astore (lv' := [(5, .ref q9), (0, .ref h0), (1, .int p0), (2, .int p1), (3, .int p2), (4, .ref ou)]) hx hb dL_loop_15 hl (by decide) rfl (fun ls hl => ?_)
    refine lv_iconst (v := 1) hx hb dL_loop_17 (by decide) ?_
    have hP9 := hP.sub (ws' := [(ou, .inl (kJ, 1, .inr (.inl fo)))]) [0] rfl
    have hD9 := hD.sub (ws' := [(ou, .inl (kJ, 1, .inr (.inl fo)))]) [0] (by decide) rfl
    exact W.iret (v := 1) hx hb hr (fun t ht hW => ⟨⟨1, (), rfl, rfl, by rw [ht]; exact hP9, hD9⟩, hS.F ht⟩) hS.2.2 dL_loop_18
  · exact w2.elim
def rm_kL10_sure : Room := { frames := 8, cells := 1, slots := 6, locals := 126 }
set_option maxHeartbeats 4000000 in
set_option maxRecDepth 100000 in
theorem kL10_sure (l : Launch) (hst : l.stackTraces = false) (dC : Nat → ClassId) (dI : Nat → Nat → Nat) (kB kI kJ kZ kC kS : ClassId) (sz : Nat) (h0 : Nat) (xa1 : Nat) (xa3 : Nat) (xa15 : Nat) (xa27 : Nat) (xa28 : Nat) (xa33 : Nat) (xa38 : Nat) (xa41 : Nat) (xa45 : Nat) (xa46 : Nat) (xa47 : Nat) (xa52 : Nat) (xa54 : Nat) (xa55 : Nat) (xa60 : Nat) (xa62 : Nat) (xa67 : Nat) (xa4 : Nat) (xa5 : Nat) (xa6 : Nat) (xa7 : Nat) (xa8 : Nat) (xa9 : Nat) (xa10 : Nat) (xa11 : Nat) (xa12 : Nat) (xa13 : Nat) (xa14 : Nat) (p0 : Int32) (p1 : Int32) (ou : Nat) (fo : Nat → Int64) : Met l yL_sure wsL_sure rm_kL10_sure (va_Pc [.ref h0, .int p0, .int p1, .ref ou] (fun U => U.heap.size = sz ∧ va_P (dC, dI) vwCl [(h0, .inr (10, [.ref xa1, .ref xa3, .ref xa15, .ref xa27, .ref xa28, .ref xa33, .ref xa38, .ref xa41, .ref xa45, .ref xa46, .ref xa47, .ref xa52, .ref xa54, .int 0, .ref xa55, .ref xa60, .ref xa62, .ref xa67, .int (-1)])), (xa3, .inr (2, [.ref xa4, .ref xa5, .ref xa6, .ref xa7, .ref xa8, .ref xa9, .ref xa10, .int 0, .int 0, .int 0, .int 5, .ref xa11, .ref xa12, .ref xa13, .ref xa14])), (ou, .inl (kJ, 1, .inr (.inl fo)))] U.heap ∧ kE dC dI kB kI kJ kZ kC kS U ∧ va_D (fun _ => True) [(h0, .inr (10, [.ref xa1, .ref xa3, .ref xa15, .ref xa27, .ref xa28, .ref xa33, .ref xa38, .ref xa41, .ref xa45, .ref xa46, .ref xa47, .ref xa52, .ref xa54, .int 0, .ref xa55, .ref xa60, .ref xa62, .ref xa67, .int (-1)])), (xa3, .inr (2, [.ref xa4, .ref xa5, .ref xa6, .ref xa7, .ref xa8, .ref xa9, .ref xa10, .int 0, .int 0, .int 0, .int 5, .ref xa11, .ref xa12, .ref xa13, .ref xa14])), (ou, .inl (kJ, 1, .inr (.inl fo)))] ∧ kX U ∧ kT (va_A [(h0, .inr (10, [.ref xa1, .ref xa3, .ref xa15, .ref xa27, .ref xa28, .ref xa33, .ref xa38, .ref xa41, .ref xa45, .ref xa46, .ref xa47, .ref xa52, .ref xa54, .int 0, .ref xa55, .ref xa60, .ref xa62, .ref xa67, .int (-1)])), (xa3, .inr (2, [.ref xa4, .ref xa5, .ref xa6, .ref xa7, .ref xa8, .ref xa9, .ref xa10, .int 0, .int 0, .int 0, .int 5, .ref xa11, .ref xa12, .ref xa13, .ref xa14])), (ou, .inl (kJ, 1, .inr (.inl fo)))] sz) U)) (va_Qi (fun (r : Int32) (_ : Unit) => r = 1) (fun _ t => va_P (dC, dI) vwCl [(ou, .inl (kJ, 1, .inr (.inl fo)))] t.heap ∧ va_D (va_A [(h0, .inr (10, [.ref xa1, .ref xa3, .ref xa15, .ref xa27, .ref xa28, .ref xa33, .ref xa38, .ref xa41, .ref xa45, .ref xa46, .ref xa47, .ref xa52, .ref xa54, .int 0, .ref xa55, .ref xa60, .ref xa62, .ref xa67, .int (-1)])), (xa3, .inr (2, [.ref xa4, .ref xa5, .ref xa6, .ref xa7, .ref xa8, .ref xa9, .ref xa10, .int 0, .int 0, .int 0, .int 5, .ref xa11, .ref xa12, .ref xa13, .ref xa14])), (ou, .inl (kJ, 1, .inr (.inl fo)))] sz) [(ou, .inl (kJ, 1, .inr (.inl fo)))]) (va_A [(h0, .inr (10, [.ref xa1, .ref xa3, .ref xa15, .ref xa27, .ref xa28, .ref xa33, .ref xa38, .ref xa41, .ref xa45, .ref xa46, .ref xa47, .ref xa52, .ref xa54, .int 0, .ref xa55, .ref xa60, .ref xa62, .ref xa67, .int (-1)])), (xa3, .inr (2, [.ref xa4, .ref xa5, .ref xa6, .ref xa7, .ref xa8, .ref xa9, .ref xa10, .int 0, .int 0, .int 0, .int 5, .ref xa11, .ref xa12, .ref xa13, .ref xa14])), (ou, .inl (kJ, 1, .inr (.inl fo)))] sz)) 1 6 (va_A [(h0, .inr (10, [.ref xa1, .ref xa3, .ref xa15, .ref xa27, .ref xa28, .ref xa33, .ref xa38, .ref xa41, .ref xa45, .ref xa46, .ref xa47, .ref xa52, .ref xa54, .int 0, .ref xa55, .ref xa60, .ref xa62, .ref xa67, .int (-1)])), (xa3, .inr (2, [.ref xa4, .ref xa5, .ref xa6, .ref xa7, .ref xa8, .ref xa9, .ref xa10, .int 0, .int 0, .int 0, .int 5, .ref xa11, .ref xa12, .ref xa13, .ref xa14])), (ou, .inl (kJ, 1, .inr (.inl fo)))] sz) := by
  refine va_MetW (cc := cL_sure) (maxL := 5) (ret := (some .int)) (by decide) rfl ?_
  intro p e s m args0 below meth c s₁ B hml hv
  obtain ⟨hargs, hsz, hP, hE, hD0, hXs, hT⟩ := hv
  have hx := B.exec
  have hb := B.bytes
  have hr := B.returns
  have hts := atoms_spec (ws := wsL_sure) B.pre
  have hown : s.vm.findClass RL = some m.cls := findClass_of_methodNamed B.named
  have hlocks := B.notSynchronized
  have hK := hE.1
  have hin10 : ∀ w ∈ wsX100, w ∈ wsL_sure := fun _ h9 => List.mem_cons_of_mem _ (List.mem_append_left _ (List.mem_append_left _ (List.mem_append_left _ (List.mem_append_left _ (List.mem_append_right _ h9)))))
  have hin2 : ∀ w ∈ wsX20, w ∈ wsL_sure := fun _ h9 => List.mem_cons_of_mem _ (List.mem_append_left _ (List.mem_append_left _ (List.mem_append_left _ (List.mem_append_right _ h9))))
  have hin0 : ∀ w ∈ wsX00, w ∈ wsL_sure := fun _ h9 => List.mem_cons_of_mem _ (List.mem_append_left _ (List.mem_append_left _ (List.mem_append_right _ h9)))
  have hin4 : ∀ w ∈ wsX40, w ∈ wsL_sure := fun _ h9 => List.mem_cons_of_mem _ (List.mem_append_left _ (List.mem_append_right _ h9))
  subst hsz
  have hD := hD0.self (sz := s.heap.size)
  generalize hAe : va_A [(h0, .inr (10, [.ref xa1, .ref xa3, .ref xa15, .ref xa27, .ref xa28, .ref xa33, .ref xa38, .ref xa41, .ref xa45, .ref xa46, .ref xa47, .ref xa52, .ref xa54, .int 0, .ref xa55, .ref xa60, .ref xa62, .ref xa67, .int (-1)])), (xa3, .inr (2, [.ref xa4, .ref xa5, .ref xa6, .ref xa7, .ref xa8, .ref xa9, .ref xa10, .int 0, .int 0, .int 0, .int 5, .ref xa11, .ref xa12, .ref xa13, .ref xa14])), (ou, .inl (kJ, 1, .inr (.inl fo)))] s.heap.size = A at hD hT ⊢
  have hA : ∀ q : Nat, s.heap.size ≤ q → A q := fun q h => by rw [← hAe]; exact Or.inr h
  have hS : va_S A s.heap s.heap [] := va_S.rf
  have hP : va_P (dC, dI) vwCl [(h0, .inr (10, [.ref xa1, .ref xa3, .ref xa15, .ref xa27, .ref xa28, .ref xa33, .ref xa38, .ref xa41, .ref xa45, .ref xa46, .ref xa47, .ref xa52, .ref xa54, .int 0, .ref xa55, .ref xa60, .ref xa62, .ref xa67, .int (-1)])), (xa3, .inr (2, [.ref xa4, .ref xa5, .ref xa6, .ref xa7, .ref xa8, .ref xa9, .ref xa10, .int 0, .int 0, .int 0, .int 5, .ref xa11, .ref xa12, .ref xa13, .ref xa14])), (ou, .inl (kJ, 1, .inr (.inl fo)))] s.heap := hP
  have hl := lv_entry ([.ref h0, .int p0, .int p1, .ref ou]) (n := 5) (Nat.le_of_ble_eq_true rfl)
  have hla : entryFrame m args0 5 = entryFrame m ([.ref h0, .int p0, .int p1, .ref ou] : List Value).toArray 5 := by rw [hargs]
  rw [hla, lg_entry_eq]
  generalize (lg_sl ([.ref h0, .int p0, .int p1, .ref ou]) ++ List.replicate (5 - (lg_sl ([.ref h0, .int p0, .int p1, .ref ou])).length) Slot.unset).toArray = ls at hl ⊢
  have hl : lv_has ls 5 [(0, .ref h0), (1, .int p0), (2, .int p1), (3, .ref ou)] := hl
  refine lv_aload_n hx hb dL_sure_0 rfl (lv_at hl 3 rfl) ?_
  refine lv_iconst (v := 0) hx hb dL_sure_1 (by decide) ?_
  refine lv_aload_n hx hb dL_sure_2 rfl (lv_at hl 0 rfl) ?_
  refine lv_iload_n hx hb dL_sure_3 rfl (lv_at hl 1 rfl) ?_
  refine lv_iload_n hx hb dL_sure_4 rfl (lv_at hl 2 rfl) ?_
  have hPc := hP.sub (ws' := [(h0, .inr (10, [.ref xa1, .ref xa3, .ref xa15, .ref xa27, .ref xa28, .ref xa33, .ref xa38, .ref xa41, .ref xa45, .ref xa46, .ref xa47, .ref xa52, .ref xa54, .int 0, .ref xa55, .ref xa60, .ref xa62, .ref xa67, .int (-1)])), (xa3, .inr (2, [.ref xa4, .ref xa5, .ref xa6, .ref xa7, .ref xa8, .ref xa9, .ref xa10, .int 0, .int 0, .int 0, .int 5, .ref xa11, .ref xa12, .ref xa13, .ref xa14]))]) [0, 1] rfl
  have hDc := hD.sub (ws' := [(h0, .inr (10, [.ref xa1, .ref xa3, .ref xa15, .ref xa27, .ref xa28, .ref xa33, .ref xa38, .ref xa41, .ref xa45, .ref xa46, .ref xa47, .ref xa52, .ref xa54, .int 0, .ref xa55, .ref xa60, .ref xa62, .ref xa67, .int (-1)])), (xa3, .inr (2, [.ref xa4, .ref xa5, .ref xa6, .ref xa7, .ref xa8, .ref xa9, .ref xa10, .int 0, .int 0, .int 0, .int 5, .ref xa11, .ref xa12, .ref xa13, .ref xa14]))]) [0, 1] (by decide) rfl
  have hFc := va_free (wc := [(h0, .inr (10, [.ref xa1, .ref xa3, .ref xa15, .ref xa27, .ref xa28, .ref xa33, .ref xa38, .ref xa41, .ref xa45, .ref xa46, .ref xa47, .ref xa52, .ref xa54, .int 0, .ref xa55, .ref xa60, .ref xa62, .ref xa67, .int (-1)])), (xa3, .inr (2, [.ref xa4, .ref xa5, .ref xa6, .ref xa7, .ref xa8, .ref xa9, .ref xa10, .int 0, .int 0, .int 0, .int 5, .ref xa11, .ref xa12, .ref xa13, .ref xa14]))]) hD hS hA [0, 1] rfl
  refine vx_calll (vx_runV (As := [.int p0, .int p1]) (rest := [.int 0, .ref ou]) ⟨hx, hb, hml, hown, hts⟩ (k10_sure l hst dC dI kB kI kJ kZ kC kS s.heap.size h0 xa1 xa3 xa15 xa27 xa28 xa33 xa38 xa41 xa45 xa46 xa47 xa52 xa54 xa55 xa60 xa62 xa67 xa4 xa5 xa6 xa7 xa8 xa9 xa10 xa11 xa12 xa13 xa14 p0 p1) (cwV 2 hts gL_sure_X10_sure rfl rfl rfl (by decide +kernel) ⟨Nat.le_of_ble_eq_true rfl, Nat.le_of_ble_eq_true rfl⟩) ⟨fun a U g mk q => by obtain ⟨q0, q1, qP, qE, qD, qX, qT⟩ := q; exact ⟨q0, q1, qP, kE_call qE, qD, kX_call qX, kT_call qT⟩, va_recv hK hP (ci := 10) (q0 := 0) rfl rfl, fun U hU hW => ⟨rfl, by rw [hU], by rw [hU]; exact hPc, kE_warm hW hE, hDc.weaken (fun _ _ _ _ => trivial), kX_warm hW hXs, kT_at hT hS hFc hW hU⟩⟩ rfl rfl hl.1 rfl (lv_room (Nat.le_of_ble_eq_true rfl)) dL_sure_5 ⟨Nat.le_of_ble_eq_true rfl, Nat.le_of_ble_eq_true rfl⟩) hS (fun q _ h => hFc q h) hFc (fun q _ h => hFc q h) (fun E ce q9 u t H1 locs ht hvm hpx hBX hz1 hk1 hS hc9 hv9 hcl9 => ?_) (fun r1 u t H1 locs ht hvm w2 hB hz1 hk1 hS => ?_)
  · subst hBX
    have hP1 : va_P (dC, dI) vwCl [] H1 := fun k q h => by simp at h
    have hD1 : va_D (va_A [(h0, .inr (10, [.ref xa1, .ref xa3, .ref xa15, .ref xa27, .ref xa28, .ref xa33, .ref xa38, .ref xa41, .ref xa45, .ref xa46, .ref xa47, .ref xa52, .ref xa54, .int 0, .ref xa55, .ref xa60, .ref xa62, .ref xa67, .int (-1)])), (xa3, .inr (2, [.ref xa4, .ref xa5, .ref xa6, .ref xa7, .ref xa8, .ref xa9, .ref xa10, .int 0, .int 0, .int 0, .int 5, .ref xa11, .ref xa12, .ref xa13, .ref xa14]))] s.heap.size) [] := ⟨fun i j p q h => by simp at h, fun k q h => by simp at h⟩
    obtain ⟨hP, hD⟩ := va_join (wr := [(ou, .inl (kJ, 1, .inr (.inl fo)))]) (w1 := []) hP hD [0, 1] [2] rfl rfl (by decide) (by decide) hk1 hFc hP1 hD1
    generalize H1 = H at hP hS hc9 ⊢
    have hP : va_P (dC, dI) vwCl [(ou, .inl (kJ, 1, .inr (.inl fo)))] H := hP
    have hD : va_D A [(ou, .inl (kJ, 1, .inr (.inl fo)))] := hD
    have htab := vx_table B (hts (.codeWith yL_sure cL_sure 5 (some .int) [(0, 9, 12, 18)]) (List.mem_of_getElem? (i := 0) (by decide +kernel)))
    refine vx_catch (name := "java/util/NoSuchElementException") hown [] ⟨0, 9, 12, 18⟩ [] (htab.trans rfl) (fun z h => absurd h List.not_mem_nil) rfl (by decide) (hts (.classLink RL 18 "java/util/NoSuchElementException") (List.mem_of_getElem? (i := 1) (by decide +kernel))) (va_Nw.use rfl hXs.1) hc9 hv9 hcl9 ?_
    refine W.widen (k := 1) (n := 6) (Nat.le_of_ble_eq_true rfl) (Nat.le_of_ble_eq_true rfl) ?_
    refine W.eq (g2 := F0 m 12 ls [.ref q9]) rfl ?_
    refine lv_astore (lv' := [(4, .ref q9), (0, .ref h0), (1, .int p0), (2, .int p1), (3, .ref ou)]) hx hb dL_sure_12 hl (by decide) rfl (fun ls hl => ?_)
    refine lv_iconst (v := 1) hx hb dL_sure_14 (by decide) ?_
    have hP9 := hP.sub (ws' := [(ou, .inl (kJ, 1, .inr (.inl fo)))]) [0] rfl
    have hD9 := hD.sub (ws' := [(ou, .inl (kJ, 1, .inr (.inl fo)))]) [0] (by decide) rfl
    exact W.iret (v := 1) hx hb hr (fun t ht hW => ⟨⟨1, (), rfl, rfl, by rw [ht]; exact hP9, hD9⟩, hS.F ht⟩) hS.2.2 dL_sure_15
  · exact w2.elim
def rm_kL10_net_lo : Room := { frames := 7, cells := 1, slots := 6, locals := 104 }
set_option maxHeartbeats 4000000 in
set_option maxRecDepth 100000 in
theorem kL10_net_lo (l : Launch) (hst : l.stackTraces = false) (dC : Nat → ClassId) (dI : Nat → Nat → Nat) (kB kI kJ kZ kC kS : ClassId) (sz : Nat) (h0 : Nat) (xa1 : Nat) (xa3 : Nat) (xa15 : Nat) (xa27 : Nat) (xa28 : Nat) (xa33 : Nat) (xa38 : Nat) (xa41 : Nat) (xa45 : Nat) (xa46 : Nat) (xa47 : Nat) (xa52 : Nat) (xa54 : Nat) (xa55 : Nat) (xa60 : Nat) (xa62 : Nat) (xa67 : Nat) (xa2 : Nat) (p0 : Int32) (ou : Nat) (fo : Nat → Int64) (hc0 : p0 < 0) : Met l yL_net wsL_net rm_kL10_net_lo (va_Pc [.ref h0, .int p0, .ref ou] (fun U => U.heap.size = sz ∧ va_P (dC, dI) vwCl [(h0, .inr (10, [.ref xa1, .ref xa3, .ref xa15, .ref xa27, .ref xa28, .ref xa33, .ref xa38, .ref xa41, .ref xa45, .ref xa46, .ref xa47, .ref xa52, .ref xa54, .int 0, .ref xa55, .ref xa60, .ref xa62, .ref xa67, .int (-1)])), (xa1, .inr (8, [.ref xa2, .int 0])), (ou, .inl (kJ, 1, .inr (.inl fo)))] U.heap ∧ kE dC dI kB kI kJ kZ kC kS U ∧ va_D (fun _ => True) [(h0, .inr (10, [.ref xa1, .ref xa3, .ref xa15, .ref xa27, .ref xa28, .ref xa33, .ref xa38, .ref xa41, .ref xa45, .ref xa46, .ref xa47, .ref xa52, .ref xa54, .int 0, .ref xa55, .ref xa60, .ref xa62, .ref xa67, .int (-1)])), (xa1, .inr (8, [.ref xa2, .int 0])), (ou, .inl (kJ, 1, .inr (.inl fo)))] ∧ kX U ∧ kT (va_A [(h0, .inr (10, [.ref xa1, .ref xa3, .ref xa15, .ref xa27, .ref xa28, .ref xa33, .ref xa38, .ref xa41, .ref xa45, .ref xa46, .ref xa47, .ref xa52, .ref xa54, .int 0, .ref xa55, .ref xa60, .ref xa62, .ref xa67, .int (-1)])), (xa1, .inr (8, [.ref xa2, .int 0])), (ou, .inl (kJ, 1, .inr (.inl fo)))] sz) U)) (va_Qi (fun (r : Int32) (_ : Unit) => r = 1) (fun _ t => va_P (dC, dI) vwCl [(ou, .inl (kJ, 1, .inr (.inl fo)))] t.heap ∧ va_D (va_A [(h0, .inr (10, [.ref xa1, .ref xa3, .ref xa15, .ref xa27, .ref xa28, .ref xa33, .ref xa38, .ref xa41, .ref xa45, .ref xa46, .ref xa47, .ref xa52, .ref xa54, .int 0, .ref xa55, .ref xa60, .ref xa62, .ref xa67, .int (-1)])), (xa1, .inr (8, [.ref xa2, .int 0])), (ou, .inl (kJ, 1, .inr (.inl fo)))] sz) [(ou, .inl (kJ, 1, .inr (.inl fo)))]) (va_A [(h0, .inr (10, [.ref xa1, .ref xa3, .ref xa15, .ref xa27, .ref xa28, .ref xa33, .ref xa38, .ref xa41, .ref xa45, .ref xa46, .ref xa47, .ref xa52, .ref xa54, .int 0, .ref xa55, .ref xa60, .ref xa62, .ref xa67, .int (-1)])), (xa1, .inr (8, [.ref xa2, .int 0])), (ou, .inl (kJ, 1, .inr (.inl fo)))] sz)) 1 6 (va_A [(h0, .inr (10, [.ref xa1, .ref xa3, .ref xa15, .ref xa27, .ref xa28, .ref xa33, .ref xa38, .ref xa41, .ref xa45, .ref xa46, .ref xa47, .ref xa52, .ref xa54, .int 0, .ref xa55, .ref xa60, .ref xa62, .ref xa67, .int (-1)])), (xa1, .inr (8, [.ref xa2, .int 0])), (ou, .inl (kJ, 1, .inr (.inl fo)))] sz) := by
  refine va_MetW (cc := cL_net) (maxL := 4) (ret := (some .int)) (by decide) rfl ?_
  intro p e s m args0 below meth c s₁ B hml hv
  obtain ⟨hargs, hsz, hP, hE, hD0, hXs, hT⟩ := hv
  have hx := B.exec
  have hb := B.bytes
  have hr := B.returns
  have hts := atoms_spec (ws := wsL_net) B.pre
  have hown : s.vm.findClass RL = some m.cls := findClass_of_methodNamed B.named
  have hlocks := B.notSynchronized
  have hK := hE.1
  have hin10 : ∀ w ∈ wsX100, w ∈ wsL_net := fun _ h9 => List.mem_cons_of_mem _ (List.mem_append_left _ (List.mem_append_left _ (List.mem_append_left _ (List.mem_append_left _ (List.mem_append_left _ (List.mem_append_left _ (List.mem_append_left _ (List.mem_append_right _ h9))))))))
  have hin8 : ∀ w ∈ wsX80, w ∈ wsL_net := fun _ h9 => List.mem_cons_of_mem _ (List.mem_append_left _ (List.mem_append_left _ (List.mem_append_left _ (List.mem_append_left _ (List.mem_append_left _ (List.mem_append_left _ (List.mem_append_right _ h9)))))))
  have hin5 : ∀ w ∈ wsX50, w ∈ wsL_net := fun _ h9 => List.mem_cons_of_mem _ (List.mem_append_left _ (List.mem_append_left _ (List.mem_append_left _ (List.mem_append_left _ (List.mem_append_left _ (List.mem_append_right _ h9))))))
  have hin2 : ∀ w ∈ wsX20, w ∈ wsL_net := fun _ h9 => List.mem_cons_of_mem _ (List.mem_append_left _ (List.mem_append_left _ (List.mem_append_left _ (List.mem_append_left _ (List.mem_append_right _ h9)))))
  have hin1 : ∀ w ∈ wsX10, w ∈ wsL_net := fun _ h9 => List.mem_cons_of_mem _ (List.mem_append_left _ (List.mem_append_left _ (List.mem_append_left _ (List.mem_append_right _ h9))))
  have hin3 : ∀ w ∈ wsX30, w ∈ wsL_net := fun _ h9 => List.mem_cons_of_mem _ (List.mem_append_left _ (List.mem_append_left _ (List.mem_append_right _ h9)))
  have hin0 : ∀ w ∈ wsX00, w ∈ wsL_net := fun _ h9 => List.mem_cons_of_mem _ (List.mem_append_left _ (List.mem_append_right _ h9))
  subst hsz
  have hD := hD0.self (sz := s.heap.size)
  generalize hAe : va_A [(h0, .inr (10, [.ref xa1, .ref xa3, .ref xa15, .ref xa27, .ref xa28, .ref xa33, .ref xa38, .ref xa41, .ref xa45, .ref xa46, .ref xa47, .ref xa52, .ref xa54, .int 0, .ref xa55, .ref xa60, .ref xa62, .ref xa67, .int (-1)])), (xa1, .inr (8, [.ref xa2, .int 0])), (ou, .inl (kJ, 1, .inr (.inl fo)))] s.heap.size = A at hD hT ⊢
  have hA : ∀ q : Nat, s.heap.size ≤ q → A q := fun q h => by rw [← hAe]; exact Or.inr h
  have hS : va_S A s.heap s.heap [] := va_S.rf
  have hP : va_P (dC, dI) vwCl [(h0, .inr (10, [.ref xa1, .ref xa3, .ref xa15, .ref xa27, .ref xa28, .ref xa33, .ref xa38, .ref xa41, .ref xa45, .ref xa46, .ref xa47, .ref xa52, .ref xa54, .int 0, .ref xa55, .ref xa60, .ref xa62, .ref xa67, .int (-1)])), (xa1, .inr (8, [.ref xa2, .int 0])), (ou, .inl (kJ, 1, .inr (.inl fo)))] s.heap := hP
  have hl := lv_entry ([.ref h0, .int p0, .ref ou]) (n := 4) (Nat.le_of_ble_eq_true rfl)
  have hla : entryFrame m args0 4 = entryFrame m ([.ref h0, .int p0, .ref ou] : List Value).toArray 4 := by rw [hargs]
  rw [hla, lg_entry_eq]
  generalize (lg_sl ([.ref h0, .int p0, .ref ou]) ++ List.replicate (4 - (lg_sl ([.ref h0, .int p0, .ref ou])).length) Slot.unset).toArray = ls at hl ⊢
  have hl : lv_has ls 4 [(0, .ref h0), (1, .int p0), (2, .ref ou)] := hl
  refine lv_aload_n hx hb dL_net_0 rfl (lv_at hl 2 rfl) ?_
  refine lv_iconst (v := 0) hx hb dL_net_1 (by decide) ?_
  refine lv_aload_n hx hb dL_net_2 rfl (lv_at hl 0 rfl) ?_
  refine lv_iload_n hx hb dL_net_3 rfl (lv_at hl 1 rfl) ?_
  have hPc := hP.sub (ws' := [(h0, .inr (10, [.ref xa1, .ref xa3, .ref xa15, .ref xa27, .ref xa28, .ref xa33, .ref xa38, .ref xa41, .ref xa45, .ref xa46, .ref xa47, .ref xa52, .ref xa54, .int 0, .ref xa55, .ref xa60, .ref xa62, .ref xa67, .int (-1)])), (xa1, .inr (8, [.ref xa2, .int 0]))]) [0, 1] rfl
  have hDc := hD.sub (ws' := [(h0, .inr (10, [.ref xa1, .ref xa3, .ref xa15, .ref xa27, .ref xa28, .ref xa33, .ref xa38, .ref xa41, .ref xa45, .ref xa46, .ref xa47, .ref xa52, .ref xa54, .int 0, .ref xa55, .ref xa60, .ref xa62, .ref xa67, .int (-1)])), (xa1, .inr (8, [.ref xa2, .int 0]))]) [0, 1] (by decide) rfl
  have hFc := va_free (wc := [(h0, .inr (10, [.ref xa1, .ref xa3, .ref xa15, .ref xa27, .ref xa28, .ref xa33, .ref xa38, .ref xa41, .ref xa45, .ref xa46, .ref xa47, .ref xa52, .ref xa54, .int 0, .ref xa55, .ref xa60, .ref xa62, .ref xa67, .int (-1)])), (xa1, .inr (8, [.ref xa2, .int 0]))]) hD hS hA [0, 1] rfl
  refine vx_calli (vx_runV (As := [.int p0]) (rest := [.int 0, .ref ou]) ⟨hx, hb, hml, hown, hts⟩ (k10_net_lo l hst dC dI kB kI kJ kZ kC kS s.heap.size h0 xa1 xa3 xa15 xa27 xa28 xa33 xa38 xa41 xa45 xa46 xa47 xa52 xa54 xa55 xa60 xa62 xa67 xa2 p0 (by have hhc0 := hc0; simp only [Int32.lt_iff_toInt_lt, Int32.le_iff_toInt_le, ← Int32.toInt_inj, (by decide : (0 : Int32).toInt = 0)] at hhc0 ⊢; omega)) (cwV 1 hts gL_net_X10_net rfl rfl rfl (by decide +kernel) ⟨Nat.le_of_ble_eq_true rfl, Nat.le_of_ble_eq_true rfl⟩) ⟨fun a U g mk q => by obtain ⟨q0, q1, qP, qE, qD, qX, qT⟩ := q; exact ⟨q0, q1, qP, kE_call qE, qD, kX_call qX, kT_call qT⟩, va_recv hK hP (ci := 10) (q0 := 0) rfl rfl, fun U hU hW => ⟨rfl, by rw [hU], by rw [hU]; exact hPc, kE_warm hW hE, hDc.weaken (fun _ _ _ _ => trivial), kX_warm hW hXs, kT_at hT hS hFc hW hU⟩⟩ rfl rfl hl.1 rfl (lv_room (Nat.le_of_ble_eq_true rfl)) dL_net_4 ⟨Nat.le_of_ble_eq_true rfl, Nat.le_of_ble_eq_true rfl⟩) hS (fun q _ h => hFc q h) hFc (fun q _ h => hFc q h) (fun E ce q9 u t H1 locs ht hvm hpx hBX hz1 hk1 hS hc9 hv9 hcl9 => ?_) (fun r1 u t H1 locs ht hvm w2 hB hz1 hk1 hS => ?_)
  · subst hBX
    have hP1 : va_P (dC, dI) vwCl [] H1 := fun k q h => by simp at h
    have hD1 : va_D (va_A [(h0, .inr (10, [.ref xa1, .ref xa3, .ref xa15, .ref xa27, .ref xa28, .ref xa33, .ref xa38, .ref xa41, .ref xa45, .ref xa46, .ref xa47, .ref xa52, .ref xa54, .int 0, .ref xa55, .ref xa60, .ref xa62, .ref xa67, .int (-1)])), (xa1, .inr (8, [.ref xa2, .int 0]))] s.heap.size) [] := ⟨fun i j p q h => by simp at h, fun k q h => by simp at h⟩
    obtain ⟨hP, hD⟩ := va_join (wr := [(ou, .inl (kJ, 1, .inr (.inl fo)))]) (w1 := []) hP hD [0, 1] [2] rfl rfl (by decide) (by decide) hk1 hFc hP1 hD1
    generalize H1 = H at hP hS hc9 ⊢
    have hP : va_P (dC, dI) vwCl [(ou, .inl (kJ, 1, .inr (.inl fo)))] H := hP
    have hD : va_D A [(ou, .inl (kJ, 1, .inr (.inl fo)))] := hD
    have htab := vx_table B (hts (.codeWith yL_net cL_net 4 (some .int) [(0, 9, 12, 13)]) (List.mem_of_getElem? (i := 0) (by decide +kernel)))
    refine vx_catch (name := "java/lang/IllegalArgumentException") hown [] ⟨0, 9, 12, 13⟩ [] (htab.trans rfl) (fun z h => absurd h List.not_mem_nil) rfl (by decide) (hts (.classLink RL 13 "java/lang/IllegalArgumentException") (List.mem_of_getElem? (i := 1) (by decide +kernel))) (va_Nw.use rfl hXs.2.1) hc9 hv9 hcl9 ?_
    refine W.widen (k := 1) (n := 6) (Nat.le_of_ble_eq_true rfl) (Nat.le_of_ble_eq_true rfl) ?_
    refine W.eq (g2 := F0 m 12 ls [.ref q9]) rfl ?_
    refine lv_astore_n (lv' := [(3, .ref q9), (0, .ref h0), (1, .int p0), (2, .ref ou)]) hx hb dL_net_12 rfl hl (by decide) rfl (fun ls hl => ?_)
    refine lv_iconst (v := 1) hx hb dL_net_13 (by decide) ?_
    have hP9 := hP.sub (ws' := [(ou, .inl (kJ, 1, .inr (.inl fo)))]) [0] rfl
    have hD9 := hD.sub (ws' := [(ou, .inl (kJ, 1, .inr (.inl fo)))]) [0] (by decide) rfl
    exact W.iret (v := 1) hx hb hr (fun t ht hW => ⟨⟨1, (), rfl, rfl, by rw [ht]; exact hP9, hD9⟩, hS.F ht⟩) hS.2.2 dL_net_14
  · exact w2.elim
def rm_kL10_count_lo : Room := { frames := 7, cells := 1, slots := 6, locals := 103 }
set_option maxHeartbeats 4000000 in
set_option maxRecDepth 100000 in
theorem kL10_count_lo (l : Launch) (hst : l.stackTraces = false) (dC : Nat → ClassId) (dI : Nat → Nat → Nat) (kB kI kJ kZ kC kS : ClassId) (sz : Nat) (h0 : Nat) (xa1 : Nat) (xa3 : Nat) (xa15 : Nat) (xa27 : Nat) (xa28 : Nat) (xa33 : Nat) (xa38 : Nat) (xa41 : Nat) (xa45 : Nat) (xa46 : Nat) (xa47 : Nat) (xa52 : Nat) (xa54 : Nat) (xa55 : Nat) (xa60 : Nat) (xa62 : Nat) (xa67 : Nat) (p0 : Int32) (ou : Nat) (fo : Nat → Int64) (hc0 : p0 < 0) : Met l yL_count wsL_count rm_kL10_count_lo (va_Pc [.ref h0, .int p0, .ref ou] (fun U => U.heap.size = sz ∧ va_P (dC, dI) vwCl [(h0, .inr (10, [.ref xa1, .ref xa3, .ref xa15, .ref xa27, .ref xa28, .ref xa33, .ref xa38, .ref xa41, .ref xa45, .ref xa46, .ref xa47, .ref xa52, .ref xa54, .int 0, .ref xa55, .ref xa60, .ref xa62, .ref xa67, .int (-1)])), (ou, .inl (kJ, 1, .inr (.inl fo)))] U.heap ∧ kE dC dI kB kI kJ kZ kC kS U ∧ va_D (fun _ => True) [(h0, .inr (10, [.ref xa1, .ref xa3, .ref xa15, .ref xa27, .ref xa28, .ref xa33, .ref xa38, .ref xa41, .ref xa45, .ref xa46, .ref xa47, .ref xa52, .ref xa54, .int 0, .ref xa55, .ref xa60, .ref xa62, .ref xa67, .int (-1)])), (ou, .inl (kJ, 1, .inr (.inl fo)))] ∧ kX U ∧ kT (va_A [(h0, .inr (10, [.ref xa1, .ref xa3, .ref xa15, .ref xa27, .ref xa28, .ref xa33, .ref xa38, .ref xa41, .ref xa45, .ref xa46, .ref xa47, .ref xa52, .ref xa54, .int 0, .ref xa55, .ref xa60, .ref xa62, .ref xa67, .int (-1)])), (ou, .inl (kJ, 1, .inr (.inl fo)))] sz) U)) (va_Qi (fun (r : Int32) (_ : Unit) => r = 1) (fun _ t => va_P (dC, dI) vwCl [(ou, .inl (kJ, 1, .inr (.inl fo)))] t.heap ∧ va_D (va_A [(h0, .inr (10, [.ref xa1, .ref xa3, .ref xa15, .ref xa27, .ref xa28, .ref xa33, .ref xa38, .ref xa41, .ref xa45, .ref xa46, .ref xa47, .ref xa52, .ref xa54, .int 0, .ref xa55, .ref xa60, .ref xa62, .ref xa67, .int (-1)])), (ou, .inl (kJ, 1, .inr (.inl fo)))] sz) [(ou, .inl (kJ, 1, .inr (.inl fo)))]) (va_A [(h0, .inr (10, [.ref xa1, .ref xa3, .ref xa15, .ref xa27, .ref xa28, .ref xa33, .ref xa38, .ref xa41, .ref xa45, .ref xa46, .ref xa47, .ref xa52, .ref xa54, .int 0, .ref xa55, .ref xa60, .ref xa62, .ref xa67, .int (-1)])), (ou, .inl (kJ, 1, .inr (.inl fo)))] sz)) 1 6 (va_A [(h0, .inr (10, [.ref xa1, .ref xa3, .ref xa15, .ref xa27, .ref xa28, .ref xa33, .ref xa38, .ref xa41, .ref xa45, .ref xa46, .ref xa47, .ref xa52, .ref xa54, .int 0, .ref xa55, .ref xa60, .ref xa62, .ref xa67, .int (-1)])), (ou, .inl (kJ, 1, .inr (.inl fo)))] sz) := by
  refine va_MetW (cc := cL_count) (maxL := 4) (ret := (some .int)) (by decide) rfl ?_
  intro p e s m args0 below meth c s₁ B hml hv
  obtain ⟨hargs, hsz, hP, hE, hD0, hXs, hT⟩ := hv
  have hx := B.exec
  have hb := B.bytes
  have hr := B.returns
  have hts := atoms_spec (ws := wsL_count) B.pre
  have hown : s.vm.findClass RL = some m.cls := findClass_of_methodNamed B.named
  have hlocks := B.notSynchronized
  have hK := hE.1
  have hin10 : ∀ w ∈ wsX100, w ∈ wsL_count := fun _ h9 => List.mem_cons_of_mem _ (List.mem_append_left _ (List.mem_append_left _ (List.mem_append_left _ (List.mem_append_left _ (List.mem_append_left _ (List.mem_append_left _ (List.mem_append_left _ (List.mem_append_left _ (List.mem_append_right _ h9)))))))))
  have hin0 : ∀ w ∈ wsX00, w ∈ wsL_count := fun _ h9 => List.mem_cons_of_mem _ (List.mem_append_left _ (List.mem_append_left _ (List.mem_append_left _ (List.mem_append_left _ (List.mem_append_left _ (List.mem_append_left _ (List.mem_append_left _ (List.mem_append_right _ h9))))))))
  have hin2 : ∀ w ∈ wsX20, w ∈ wsL_count := fun _ h9 => List.mem_cons_of_mem _ (List.mem_append_left _ (List.mem_append_left _ (List.mem_append_left _ (List.mem_append_left _ (List.mem_append_left _ (List.mem_append_left _ (List.mem_append_right _ h9)))))))
  have hin1 : ∀ w ∈ wsX10, w ∈ wsL_count := fun _ h9 => List.mem_cons_of_mem _ (List.mem_append_left _ (List.mem_append_left _ (List.mem_append_left _ (List.mem_append_left _ (List.mem_append_left _ (List.mem_append_right _ h9))))))
  have hin3 : ∀ w ∈ wsX30, w ∈ wsL_count := fun _ h9 => List.mem_cons_of_mem _ (List.mem_append_left _ (List.mem_append_left _ (List.mem_append_left _ (List.mem_append_left _ (List.mem_append_right _ h9)))))
  have hin8 : ∀ w ∈ wsX80, w ∈ wsL_count := fun _ h9 => List.mem_cons_of_mem _ (List.mem_append_left _ (List.mem_append_left _ (List.mem_append_left _ (List.mem_append_right _ h9))))
  have hin4 : ∀ w ∈ wsX40, w ∈ wsL_count := fun _ h9 => List.mem_cons_of_mem _ (List.mem_append_left _ (List.mem_append_left _ (List.mem_append_right _ h9)))
  have hin7 : ∀ w ∈ wsX70, w ∈ wsL_count := fun _ h9 => List.mem_cons_of_mem _ (List.mem_append_left _ (List.mem_append_right _ h9))
  subst hsz
  have hD := hD0.self (sz := s.heap.size)
  generalize hAe : va_A [(h0, .inr (10, [.ref xa1, .ref xa3, .ref xa15, .ref xa27, .ref xa28, .ref xa33, .ref xa38, .ref xa41, .ref xa45, .ref xa46, .ref xa47, .ref xa52, .ref xa54, .int 0, .ref xa55, .ref xa60, .ref xa62, .ref xa67, .int (-1)])), (ou, .inl (kJ, 1, .inr (.inl fo)))] s.heap.size = A at hD hT ⊢
  have hA : ∀ q : Nat, s.heap.size ≤ q → A q := fun q h => by rw [← hAe]; exact Or.inr h
  have hS : va_S A s.heap s.heap [] := va_S.rf
  have hP : va_P (dC, dI) vwCl [(h0, .inr (10, [.ref xa1, .ref xa3, .ref xa15, .ref xa27, .ref xa28, .ref xa33, .ref xa38, .ref xa41, .ref xa45, .ref xa46, .ref xa47, .ref xa52, .ref xa54, .int 0, .ref xa55, .ref xa60, .ref xa62, .ref xa67, .int (-1)])), (ou, .inl (kJ, 1, .inr (.inl fo)))] s.heap := hP
  have hl := lv_entry ([.ref h0, .int p0, .ref ou]) (n := 4) (Nat.le_of_ble_eq_true rfl)
  have hla : entryFrame m args0 4 = entryFrame m ([.ref h0, .int p0, .ref ou] : List Value).toArray 4 := by rw [hargs]
  rw [hla, lg_entry_eq]
  generalize (lg_sl ([.ref h0, .int p0, .ref ou]) ++ List.replicate (4 - (lg_sl ([.ref h0, .int p0, .ref ou])).length) Slot.unset).toArray = ls at hl ⊢
  have hl : lv_has ls 4 [(0, .ref h0), (1, .int p0), (2, .ref ou)] := hl
  refine lv_aload_n hx hb dL_count_0 rfl (lv_at hl 2 rfl) ?_
  refine lv_iconst (v := 0) hx hb dL_count_1 (by decide) ?_
  refine lv_aload_n hx hb dL_count_2 rfl (lv_at hl 0 rfl) ?_
  refine lv_iload_n hx hb dL_count_3 rfl (lv_at hl 1 rfl) ?_
  have hPc := hP.sub (ws' := []) [] rfl
  have hDc := hD.sub (ws' := []) [] (by decide) rfl
  have hFc := va_free (wc := []) hD hS hA [] rfl
  refine vx_calli (vx_runV (As := [.int p0]) (rest := [.int 0, .ref ou]) ⟨hx, hb, hml, hown, hts⟩ (k10_count_lo l hst dC dI kB kI kJ kZ kC kS s.heap.size h0 p0 (by have hhc0 := hc0; simp only [Int32.lt_iff_toInt_lt, Int32.le_iff_toInt_le, ← Int32.toInt_inj, (by decide : (0 : Int32).toInt = 0)] at hhc0 ⊢; omega)) (cwV 1 hts gL_count_X10_count rfl rfl rfl (by decide +kernel) ⟨Nat.le_of_ble_eq_true rfl, Nat.le_of_ble_eq_true rfl⟩) ⟨fun a U g mk q => by obtain ⟨q0, q1, qP, qE, qD, qX, qT⟩ := q; exact ⟨q0, q1, qP, kE_call qE, qD, kX_call qX, kT_call qT⟩, va_recv hK hP (ci := 10) (q0 := 0) rfl rfl, fun U hU hW => ⟨rfl, by rw [hU], by rw [hU]; exact hPc, kE_warm hW hE, hDc.weaken (fun _ _ _ _ => trivial), kX_warm hW hXs, kT_at hT hS hFc hW hU⟩⟩ rfl rfl hl.1 rfl (lv_room (Nat.le_of_ble_eq_true rfl)) dL_count_4 ⟨Nat.le_of_ble_eq_true rfl, Nat.le_of_ble_eq_true rfl⟩) hS (fun q _ h => hFc q h) hFc (fun q _ h => hFc q h) (fun E ce q9 u t H1 locs ht hvm hpx hBX hz1 hk1 hS hc9 hv9 hcl9 => ?_) (fun r1 u t H1 locs ht hvm w2 hB hz1 hk1 hS => ?_)
  · subst hBX
    have hP1 : va_P (dC, dI) vwCl [] H1 := fun k q h => by simp at h
    have hD1 : va_D (va_A [] s.heap.size) [] := ⟨fun i j p q h => by simp at h, fun k q h => by simp at h⟩
    obtain ⟨hP, hD⟩ := va_join (wr := [(h0, .inr (10, [.ref xa1, .ref xa3, .ref xa15, .ref xa27, .ref xa28, .ref xa33, .ref xa38, .ref xa41, .ref xa45, .ref xa46, .ref xa47, .ref xa52, .ref xa54, .int 0, .ref xa55, .ref xa60, .ref xa62, .ref xa67, .int (-1)])), (ou, .inl (kJ, 1, .inr (.inl fo)))]) (w1 := []) hP hD [] [0, 1] rfl rfl (by decide) (by decide) hk1 hFc hP1 hD1
    generalize H1 = H at hP hS hc9 ⊢
    have hP : va_P (dC, dI) vwCl [(h0, .inr (10, [.ref xa1, .ref xa3, .ref xa15, .ref xa27, .ref xa28, .ref xa33, .ref xa38, .ref xa41, .ref xa45, .ref xa46, .ref xa47, .ref xa52, .ref xa54, .int 0, .ref xa55, .ref xa60, .ref xa62, .ref xa67, .int (-1)])), (ou, .inl (kJ, 1, .inr (.inl fo)))] H := hP
    have hD : va_D A [(h0, .inr (10, [.ref xa1, .ref xa3, .ref xa15, .ref xa27, .ref xa28, .ref xa33, .ref xa38, .ref xa41, .ref xa45, .ref xa46, .ref xa47, .ref xa52, .ref xa54, .int 0, .ref xa55, .ref xa60, .ref xa62, .ref xa67, .int (-1)])), (ou, .inl (kJ, 1, .inr (.inl fo)))] := hD
    have htab := vx_table B (hts (.codeWith yL_count cL_count 4 (some .int) [(0, 9, 12, 18)]) (List.mem_of_getElem? (i := 0) (by decide +kernel)))
    refine vx_catch (name := "java/util/NoSuchElementException") hown [] ⟨0, 9, 12, 18⟩ [] (htab.trans rfl) (fun z h => absurd h List.not_mem_nil) rfl (by decide) (hts (.classLink RL 18 "java/util/NoSuchElementException") (List.mem_of_getElem? (i := 1) (by decide +kernel))) (va_Nw.use rfl hXs.1) hc9 hv9 hcl9 ?_
    refine W.widen (k := 1) (n := 6) (Nat.le_of_ble_eq_true rfl) (Nat.le_of_ble_eq_true rfl) ?_
    refine W.eq (g2 := F0 m 12 ls [.ref q9]) rfl ?_
    refine lv_astore_n (lv' := [(3, .ref q9), (0, .ref h0), (1, .int p0), (2, .ref ou)]) hx hb dL_count_12 rfl hl (by decide) rfl (fun ls hl => ?_)
    refine lv_iconst (v := 1) hx hb dL_count_13 (by decide) ?_
    have hP9 := hP.sub (ws' := [(ou, .inl (kJ, 1, .inr (.inl fo)))]) [1] rfl
    have hD9 := hD.sub (ws' := [(ou, .inl (kJ, 1, .inr (.inl fo)))]) [1] (by decide) rfl
    exact W.iret (v := 1) hx hb hr (fun t ht hW => ⟨⟨1, (), rfl, rfl, by rw [ht]; exact hP9, hD9⟩, hS.F ht⟩) hS.2.2 dL_count_14
  · exact w2.elim
def rm_kL10_years_wlo : Room := { frames := 8, cells := 1, slots := 6, locals := 128 }
set_option maxHeartbeats 4000000 in
set_option maxRecDepth 100000 in
theorem kL10_years_wlo (l : Launch) (hst : l.stackTraces = false) (dC : Nat → ClassId) (dI : Nat → Nat → Nat) (kB kI kJ kZ kC kS : ClassId) (sz : Nat) (h0 : Nat) (xa1 : Nat) (xa3 : Nat) (xa15 : Nat) (xa27 : Nat) (xa28 : Nat) (xa33 : Nat) (xa38 : Nat) (xa41 : Nat) (xa45 : Nat) (xa46 : Nat) (xa47 : Nat) (xa52 : Nat) (xa54 : Nat) (xa55 : Nat) (xa60 : Nat) (xa62 : Nat) (xa67 : Nat) (p0 : Int32) (p1 : Int32) (p2 : Int32) (ou : Nat) (fo : Nat → Int64) (hc0 : p2 < 0) : Met l yL_years wsL_years rm_kL10_years_wlo (va_Pc [.ref h0, .int p0, .int p1, .int p2, .ref ou] (fun U => U.heap.size = sz ∧ va_P (dC, dI) vwCl [(h0, .inr (10, [.ref xa1, .ref xa3, .ref xa15, .ref xa27, .ref xa28, .ref xa33, .ref xa38, .ref xa41, .ref xa45, .ref xa46, .ref xa47, .ref xa52, .ref xa54, .int 0, .ref xa55, .ref xa60, .ref xa62, .ref xa67, .int (-1)])), (ou, .inl (kJ, 1, .inr (.inl fo)))] U.heap ∧ kE dC dI kB kI kJ kZ kC kS U ∧ va_D (fun _ => True) [(h0, .inr (10, [.ref xa1, .ref xa3, .ref xa15, .ref xa27, .ref xa28, .ref xa33, .ref xa38, .ref xa41, .ref xa45, .ref xa46, .ref xa47, .ref xa52, .ref xa54, .int 0, .ref xa55, .ref xa60, .ref xa62, .ref xa67, .int (-1)])), (ou, .inl (kJ, 1, .inr (.inl fo)))] ∧ kX U ∧ kT (va_A [(h0, .inr (10, [.ref xa1, .ref xa3, .ref xa15, .ref xa27, .ref xa28, .ref xa33, .ref xa38, .ref xa41, .ref xa45, .ref xa46, .ref xa47, .ref xa52, .ref xa54, .int 0, .ref xa55, .ref xa60, .ref xa62, .ref xa67, .int (-1)])), (ou, .inl (kJ, 1, .inr (.inl fo)))] sz) U)) (va_Qi (fun (r : Int32) (_ : Unit) => r = 1) (fun _ t => va_P (dC, dI) vwCl [(ou, .inl (kJ, 1, .inr (.inl fo)))] t.heap ∧ va_D (va_A [(h0, .inr (10, [.ref xa1, .ref xa3, .ref xa15, .ref xa27, .ref xa28, .ref xa33, .ref xa38, .ref xa41, .ref xa45, .ref xa46, .ref xa47, .ref xa52, .ref xa54, .int 0, .ref xa55, .ref xa60, .ref xa62, .ref xa67, .int (-1)])), (ou, .inl (kJ, 1, .inr (.inl fo)))] sz) [(ou, .inl (kJ, 1, .inr (.inl fo)))]) (va_A [(h0, .inr (10, [.ref xa1, .ref xa3, .ref xa15, .ref xa27, .ref xa28, .ref xa33, .ref xa38, .ref xa41, .ref xa45, .ref xa46, .ref xa47, .ref xa52, .ref xa54, .int 0, .ref xa55, .ref xa60, .ref xa62, .ref xa67, .int (-1)])), (ou, .inl (kJ, 1, .inr (.inl fo)))] sz)) 1 6 (va_A [(h0, .inr (10, [.ref xa1, .ref xa3, .ref xa15, .ref xa27, .ref xa28, .ref xa33, .ref xa38, .ref xa41, .ref xa45, .ref xa46, .ref xa47, .ref xa52, .ref xa54, .int 0, .ref xa55, .ref xa60, .ref xa62, .ref xa67, .int (-1)])), (ou, .inl (kJ, 1, .inr (.inl fo)))] sz) := by
  refine va_MetW (cc := cL_years) (maxL := 6) (ret := (some .int)) (by decide) rfl ?_
  intro p e s m args0 below meth c s₁ B hml hv
  obtain ⟨hargs, hsz, hP, hE, hD0, hXs, hT⟩ := hv
  have hx := B.exec
  have hb := B.bytes
  have hr := B.returns
  have hts := atoms_spec (ws := wsL_years) B.pre
  have hown : s.vm.findClass RL = some m.cls := findClass_of_methodNamed B.named
  have hlocks := B.notSynchronized
  have hK := hE.1
  have hin10 : ∀ w ∈ wsX100, w ∈ wsL_years := fun _ h9 => List.mem_cons_of_mem _ (List.mem_append_left _ (List.mem_append_left _ (List.mem_append_left _ (List.mem_append_left _ (List.mem_append_left _ (List.mem_append_left _ (List.mem_append_left _ (List.mem_append_left _ (List.mem_append_right _ h9)))))))))
  have hin6 : ∀ w ∈ wsX60, w ∈ wsL_years := fun _ h9 => List.mem_cons_of_mem _ (List.mem_append_left _ (List.mem_append_left _ (List.mem_append_left _ (List.mem_append_left _ (List.mem_append_left _ (List.mem_append_left _ (List.mem_append_left _ (List.mem_append_right _ h9))))))))
  have hin0 : ∀ w ∈ wsX00, w ∈ wsL_years := fun _ h9 => List.mem_cons_of_mem _ (List.mem_append_left _ (List.mem_append_left _ (List.mem_append_left _ (List.mem_append_left _ (List.mem_append_left _ (List.mem_append_left _ (List.mem_append_right _ h9)))))))
  have hin2 : ∀ w ∈ wsX20, w ∈ wsL_years := fun _ h9 => List.mem_cons_of_mem _ (List.mem_append_left _ (List.mem_append_left _ (List.mem_append_left _ (List.mem_append_left _ (List.mem_append_left _ (List.mem_append_right _ h9))))))
  have hin4 : ∀ w ∈ wsX40, w ∈ wsL_years := fun _ h9 => List.mem_cons_of_mem _ (List.mem_append_left _ (List.mem_append_left _ (List.mem_append_left _ (List.mem_append_left _ (List.mem_append_right _ h9)))))
  have hin9 : ∀ w ∈ wsX90, w ∈ wsL_years := fun _ h9 => List.mem_cons_of_mem _ (List.mem_append_left _ (List.mem_append_left _ (List.mem_append_left _ (List.mem_append_right _ h9))))
  have hin7 : ∀ w ∈ wsX70, w ∈ wsL_years := fun _ h9 => List.mem_cons_of_mem _ (List.mem_append_left _ (List.mem_append_left _ (List.mem_append_right _ h9)))
  subst hsz
  have hD := hD0.self (sz := s.heap.size)
  generalize hAe : va_A [(h0, .inr (10, [.ref xa1, .ref xa3, .ref xa15, .ref xa27, .ref xa28, .ref xa33, .ref xa38, .ref xa41, .ref xa45, .ref xa46, .ref xa47, .ref xa52, .ref xa54, .int 0, .ref xa55, .ref xa60, .ref xa62, .ref xa67, .int (-1)])), (ou, .inl (kJ, 1, .inr (.inl fo)))] s.heap.size = A at hD hT ⊢
  have hA : ∀ q : Nat, s.heap.size ≤ q → A q := fun q h => by rw [← hAe]; exact Or.inr h
  have hS : va_S A s.heap s.heap [] := va_S.rf
  have hP : va_P (dC, dI) vwCl [(h0, .inr (10, [.ref xa1, .ref xa3, .ref xa15, .ref xa27, .ref xa28, .ref xa33, .ref xa38, .ref xa41, .ref xa45, .ref xa46, .ref xa47, .ref xa52, .ref xa54, .int 0, .ref xa55, .ref xa60, .ref xa62, .ref xa67, .int (-1)])), (ou, .inl (kJ, 1, .inr (.inl fo)))] s.heap := hP
  have hl := lv_entry ([.ref h0, .int p0, .int p1, .int p2, .ref ou]) (n := 6) (Nat.le_of_ble_eq_true rfl)
  have hla : entryFrame m args0 6 = entryFrame m ([.ref h0, .int p0, .int p1, .int p2, .ref ou] : List Value).toArray 6 := by rw [hargs]
  rw [hla, lg_entry_eq]
  generalize (lg_sl ([.ref h0, .int p0, .int p1, .int p2, .ref ou]) ++ List.replicate (6 - (lg_sl ([.ref h0, .int p0, .int p1, .int p2, .ref ou])).length) Slot.unset).toArray = ls at hl ⊢
  have hl : lv_has ls 6 [(0, .ref h0), (1, .int p0), (2, .int p1), (3, .int p2), (4, .ref ou)] := hl
  refine lv_aload hx hb dL_years_0 (lv_at hl 4 rfl) ?_
  refine lv_iconst (v := 0) hx hb dL_years_2 (by decide) ?_
  refine lv_aload_n hx hb dL_years_3 rfl (lv_at hl 0 rfl) ?_
  refine lv_iload_n hx hb dL_years_4 rfl (lv_at hl 1 rfl) ?_
  refine lv_iload_n hx hb dL_years_5 rfl (lv_at hl 2 rfl) ?_
  refine lv_iload_n hx hb dL_years_6 rfl (lv_at hl 3 rfl) ?_
  have hPc := hP.sub (ws' := []) [] rfl
  have hDc := hD.sub (ws' := []) [] (by decide) rfl
  have hFc := va_free (wc := []) hD hS hA [] rfl
  refine vx_calli (vx_runV (As := [.int p0, .int p1, .int p2]) (rest := [.int 0, .ref ou]) ⟨hx, hb, hml, hown, hts⟩ (k10_years_wlo l hst dC dI kB kI kJ kZ kC kS s.heap.size h0 p0 p1 p2 (by have hhc0 := hc0; simp only [Int32.lt_iff_toInt_lt, Int32.le_iff_toInt_le, ← Int32.toInt_inj, (by decide : (0 : Int32).toInt = 0)] at hhc0 ⊢; omega)) (cwV 3 hts gL_years_X10_years rfl rfl rfl (by decide +kernel) ⟨Nat.le_of_ble_eq_true rfl, Nat.le_of_ble_eq_true rfl⟩) ⟨fun a U g mk q => by obtain ⟨q0, q1, qP, qE, qD, qX, qT⟩ := q; exact ⟨q0, q1, qP, kE_call qE, qD, kX_call qX, kT_call qT⟩, va_recv hK hP (ci := 10) (q0 := 0) rfl rfl, fun U hU hW => ⟨rfl, by rw [hU], by rw [hU]; exact hPc, kE_warm hW hE, hDc.weaken (fun _ _ _ _ => trivial), kX_warm hW hXs, kT_at hT hS hFc hW hU⟩⟩ rfl rfl hl.1 rfl (lv_room (Nat.le_of_ble_eq_true rfl)) dL_years_7 ⟨Nat.le_of_ble_eq_true rfl, Nat.le_of_ble_eq_true rfl⟩) hS (fun q _ h => hFc q h) hFc (fun q _ h => hFc q h) (fun E ce q9 u t H1 locs ht hvm hpx hBX hz1 hk1 hS hc9 hv9 hcl9 => ?_) (fun r1 u t H1 locs ht hvm w2 hB hz1 hk1 hS => ?_)
  · subst hBX
    have hP1 : va_P (dC, dI) vwCl [] H1 := fun k q h => by simp at h
    have hD1 : va_D (va_A [] s.heap.size) [] := ⟨fun i j p q h => by simp at h, fun k q h => by simp at h⟩
    obtain ⟨hP, hD⟩ := va_join (wr := [(h0, .inr (10, [.ref xa1, .ref xa3, .ref xa15, .ref xa27, .ref xa28, .ref xa33, .ref xa38, .ref xa41, .ref xa45, .ref xa46, .ref xa47, .ref xa52, .ref xa54, .int 0, .ref xa55, .ref xa60, .ref xa62, .ref xa67, .int (-1)])), (ou, .inl (kJ, 1, .inr (.inl fo)))]) (w1 := []) hP hD [] [0, 1] rfl rfl (by decide) (by decide) hk1 hFc hP1 hD1
    generalize H1 = H at hP hS hc9 ⊢
    have hP : va_P (dC, dI) vwCl [(h0, .inr (10, [.ref xa1, .ref xa3, .ref xa15, .ref xa27, .ref xa28, .ref xa33, .ref xa38, .ref xa41, .ref xa45, .ref xa46, .ref xa47, .ref xa52, .ref xa54, .int 0, .ref xa55, .ref xa60, .ref xa62, .ref xa67, .int (-1)])), (ou, .inl (kJ, 1, .inr (.inl fo)))] H := hP
    have hD : va_D A [(h0, .inr (10, [.ref xa1, .ref xa3, .ref xa15, .ref xa27, .ref xa28, .ref xa33, .ref xa38, .ref xa41, .ref xa45, .ref xa46, .ref xa47, .ref xa52, .ref xa54, .int 0, .ref xa55, .ref xa60, .ref xa62, .ref xa67, .int (-1)])), (ou, .inl (kJ, 1, .inr (.inl fo)))] := hD
    have htab := vx_table B (hts (.codeWith yL_years cL_years 6 (some .int) [(0, 12, 15, 18), (0, 12, 19, 13)]) (List.mem_of_getElem? (i := 0) (by decide +kernel)))
    refine vx_catch (name := "java/util/NoSuchElementException") hown [] ⟨0, 12, 15, 18⟩ [⟨0, 12, 19, 13⟩] (htab.trans rfl) (fun z h => absurd h List.not_mem_nil) rfl (by decide) (hts (.classLink RL 18 "java/util/NoSuchElementException") (List.mem_of_getElem? (i := 1) (by decide +kernel))) (va_Nw.use rfl hXs.1) hc9 hv9 hcl9 ?_
    refine W.widen (k := 1) (n := 6) (Nat.le_of_ble_eq_true rfl) (Nat.le_of_ble_eq_true rfl) ?_
    refine W.eq (g2 := F0 m 15 ls [.ref q9]) rfl ?_
    refine lv_astore (lv' := [(5, .ref q9), (0, .ref h0), (1, .int p0), (2, .int p1), (3, .int p2), (4, .ref ou)]) hx hb dL_years_15 hl (by decide) rfl (fun ls hl => ?_)
    refine lv_iconst (v := 1) hx hb dL_years_17 (by decide) ?_
    have hP9 := hP.sub (ws' := [(ou, .inl (kJ, 1, .inr (.inl fo)))]) [1] rfl
    have hD9 := hD.sub (ws' := [(ou, .inl (kJ, 1, .inr (.inl fo)))]) [1] (by decide) rfl
    exact W.iret (v := 1) hx hb hr (fun t ht hW => ⟨⟨1, (), rfl, rfl, by rw [ht]; exact hP9, hD9⟩, hS.F ht⟩) hS.2.2 dL_years_18
  · exact w2.elim
def rm_kL10_years_nlo : Room := { frames := 7, cells := 1, slots := 6, locals := 107 }
set_option maxHeartbeats 4000000 in
set_option maxRecDepth 100000 in
theorem kL10_years_nlo (l : Launch) (hst : l.stackTraces = false) (dC : Nat → ClassId) (dI : Nat → Nat → Nat) (kB kI kJ kZ kC kS : ClassId) (sz : Nat) (h0 : Nat) (xa1 : Nat) (xa3 : Nat) (xa15 : Nat) (xa27 : Nat) (xa28 : Nat) (xa33 : Nat) (xa38 : Nat) (xa41 : Nat) (xa45 : Nat) (xa46 : Nat) (xa47 : Nat) (xa52 : Nat) (xa54 : Nat) (xa55 : Nat) (xa60 : Nat) (xa62 : Nat) (xa67 : Nat) (p0 : Int32) (p1 : Int32) (p2 : Int32) (ou : Nat) (fo : Nat → Int64) (hc0 : p1 < 0) (hcA : 0 ≤ p2) (hcB : p2 ≤ 2) : Met l yL_years wsL_years rm_kL10_years_nlo (va_Pc [.ref h0, .int p0, .int p1, .int p2, .ref ou] (fun U => U.heap.size = sz ∧ va_P (dC, dI) vwCl [(h0, .inr (10, [.ref xa1, .ref xa3, .ref xa15, .ref xa27, .ref xa28, .ref xa33, .ref xa38, .ref xa41, .ref xa45, .ref xa46, .ref xa47, .ref xa52, .ref xa54, .int 0, .ref xa55, .ref xa60, .ref xa62, .ref xa67, .int (-1)])), (ou, .inl (kJ, 1, .inr (.inl fo)))] U.heap ∧ kE dC dI kB kI kJ kZ kC kS U ∧ va_D (fun _ => True) [(h0, .inr (10, [.ref xa1, .ref xa3, .ref xa15, .ref xa27, .ref xa28, .ref xa33, .ref xa38, .ref xa41, .ref xa45, .ref xa46, .ref xa47, .ref xa52, .ref xa54, .int 0, .ref xa55, .ref xa60, .ref xa62, .ref xa67, .int (-1)])), (ou, .inl (kJ, 1, .inr (.inl fo)))] ∧ kX U ∧ kT (va_A [(h0, .inr (10, [.ref xa1, .ref xa3, .ref xa15, .ref xa27, .ref xa28, .ref xa33, .ref xa38, .ref xa41, .ref xa45, .ref xa46, .ref xa47, .ref xa52, .ref xa54, .int 0, .ref xa55, .ref xa60, .ref xa62, .ref xa67, .int (-1)])), (ou, .inl (kJ, 1, .inr (.inl fo)))] sz) U ∧ va_Nc "java/lang/IllegalArgumentException" "java/util/NoSuchElementException" U)) (va_Qi (fun (r : Int32) (_ : Unit) => r = 2) (fun _ t => va_P (dC, dI) vwCl [(ou, .inl (kJ, 1, .inr (.inl fo)))] t.heap ∧ va_D (va_A [(h0, .inr (10, [.ref xa1, .ref xa3, .ref xa15, .ref xa27, .ref xa28, .ref xa33, .ref xa38, .ref xa41, .ref xa45, .ref xa46, .ref xa47, .ref xa52, .ref xa54, .int 0, .ref xa55, .ref xa60, .ref xa62, .ref xa67, .int (-1)])), (ou, .inl (kJ, 1, .inr (.inl fo)))] sz) [(ou, .inl (kJ, 1, .inr (.inl fo)))]) (va_A [(h0, .inr (10, [.ref xa1, .ref xa3, .ref xa15, .ref xa27, .ref xa28, .ref xa33, .ref xa38, .ref xa41, .ref xa45, .ref xa46, .ref xa47, .ref xa52, .ref xa54, .int 0, .ref xa55, .ref xa60, .ref xa62, .ref xa67, .int (-1)])), (ou, .inl (kJ, 1, .inr (.inl fo)))] sz)) 1 6 (va_A [(h0, .inr (10, [.ref xa1, .ref xa3, .ref xa15, .ref xa27, .ref xa28, .ref xa33, .ref xa38, .ref xa41, .ref xa45, .ref xa46, .ref xa47, .ref xa52, .ref xa54, .int 0, .ref xa55, .ref xa60, .ref xa62, .ref xa67, .int (-1)])), (ou, .inl (kJ, 1, .inr (.inl fo)))] sz) := by
  refine va_MetW (cc := cL_years) (maxL := 6) (ret := (some .int)) (by decide) rfl ?_
  intro p e s m args0 below meth c s₁ B hml hv
  obtain ⟨hargs, hsz, hP, hE, hD0, hXs, hT, hNc⟩ := hv
  have hx := B.exec
  have hb := B.bytes
  have hr := B.returns
  have hts := atoms_spec (ws := wsL_years) B.pre
  have hown : s.vm.findClass RL = some m.cls := findClass_of_methodNamed B.named
  have hlocks := B.notSynchronized
  have hK := hE.1
  have hin10 : ∀ w ∈ wsX100, w ∈ wsL_years := fun _ h9 => List.mem_cons_of_mem _ (List.mem_append_left _ (List.mem_append_left _ (List.mem_append_left _ (List.mem_append_left _ (List.mem_append_left _ (List.mem_append_left _ (List.mem_append_left _ (List.mem_append_left _ (List.mem_append_right _ h9)))))))))
  have hin6 : ∀ w ∈ wsX60, w ∈ wsL_years := fun _ h9 => List.mem_cons_of_mem _ (List.mem_append_left _ (List.mem_append_left _ (List.mem_append_left _ (List.mem_append_left _ (List.mem_append_left _ (List.mem_append_left _ (List.mem_append_left _ (List.mem_append_right _ h9))))))))
  have hin0 : ∀ w ∈ wsX00, w ∈ wsL_years := fun _ h9 => List.mem_cons_of_mem _ (List.mem_append_left _ (List.mem_append_left _ (List.mem_append_left _ (List.mem_append_left _ (List.mem_append_left _ (List.mem_append_left _ (List.mem_append_right _ h9)))))))
  have hin2 : ∀ w ∈ wsX20, w ∈ wsL_years := fun _ h9 => List.mem_cons_of_mem _ (List.mem_append_left _ (List.mem_append_left _ (List.mem_append_left _ (List.mem_append_left _ (List.mem_append_left _ (List.mem_append_right _ h9))))))
  have hin4 : ∀ w ∈ wsX40, w ∈ wsL_years := fun _ h9 => List.mem_cons_of_mem _ (List.mem_append_left _ (List.mem_append_left _ (List.mem_append_left _ (List.mem_append_left _ (List.mem_append_right _ h9)))))
  have hin9 : ∀ w ∈ wsX90, w ∈ wsL_years := fun _ h9 => List.mem_cons_of_mem _ (List.mem_append_left _ (List.mem_append_left _ (List.mem_append_left _ (List.mem_append_right _ h9))))
  have hin7 : ∀ w ∈ wsX70, w ∈ wsL_years := fun _ h9 => List.mem_cons_of_mem _ (List.mem_append_left _ (List.mem_append_left _ (List.mem_append_right _ h9)))
  subst hsz
  have hD := hD0.self (sz := s.heap.size)
  generalize hAe : va_A [(h0, .inr (10, [.ref xa1, .ref xa3, .ref xa15, .ref xa27, .ref xa28, .ref xa33, .ref xa38, .ref xa41, .ref xa45, .ref xa46, .ref xa47, .ref xa52, .ref xa54, .int 0, .ref xa55, .ref xa60, .ref xa62, .ref xa67, .int (-1)])), (ou, .inl (kJ, 1, .inr (.inl fo)))] s.heap.size = A at hD hT hNc ⊢
  have hA : ∀ q : Nat, s.heap.size ≤ q → A q := fun q h => by rw [← hAe]; exact Or.inr h
  have hS : va_S A s.heap s.heap [] := va_S.rf
  have hP : va_P (dC, dI) vwCl [(h0, .inr (10, [.ref xa1, .ref xa3, .ref xa15, .ref xa27, .ref xa28, .ref xa33, .ref xa38, .ref xa41, .ref xa45, .ref xa46, .ref xa47, .ref xa52, .ref xa54, .int 0, .ref xa55, .ref xa60, .ref xa62, .ref xa67, .int (-1)])), (ou, .inl (kJ, 1, .inr (.inl fo)))] s.heap := hP
  have hl := lv_entry ([.ref h0, .int p0, .int p1, .int p2, .ref ou]) (n := 6) (Nat.le_of_ble_eq_true rfl)
  have hla : entryFrame m args0 6 = entryFrame m ([.ref h0, .int p0, .int p1, .int p2, .ref ou] : List Value).toArray 6 := by rw [hargs]
  rw [hla, lg_entry_eq]
  generalize (lg_sl ([.ref h0, .int p0, .int p1, .int p2, .ref ou]) ++ List.replicate (6 - (lg_sl ([.ref h0, .int p0, .int p1, .int p2, .ref ou])).length) Slot.unset).toArray = ls at hl ⊢
  have hl : lv_has ls 6 [(0, .ref h0), (1, .int p0), (2, .int p1), (3, .int p2), (4, .ref ou)] := hl
  refine lv_aload hx hb dL_years_0 (lv_at hl 4 rfl) ?_
  refine lv_iconst (v := 0) hx hb dL_years_2 (by decide) ?_
  refine lv_aload_n hx hb dL_years_3 rfl (lv_at hl 0 rfl) ?_
  refine lv_iload_n hx hb dL_years_4 rfl (lv_at hl 1 rfl) ?_
  refine lv_iload_n hx hb dL_years_5 rfl (lv_at hl 2 rfl) ?_
  refine lv_iload_n hx hb dL_years_6 rfl (lv_at hl 3 rfl) ?_
  have hPc := hP.sub (ws' := []) [] rfl
  have hDc := hD.sub (ws' := []) [] (by decide) rfl
  have hFc := va_free (wc := []) hD hS hA [] rfl
  refine vx_calli (vx_runV (As := [.int p0, .int p1, .int p2]) (rest := [.int 0, .ref ou]) ⟨hx, hb, hml, hown, hts⟩ (k10_years_nlo l hst dC dI kB kI kJ kZ kC kS s.heap.size h0 p0 p1 p2 (by have hhc0 := hc0; simp only [Int32.lt_iff_toInt_lt, Int32.le_iff_toInt_le, ← Int32.toInt_inj, (by decide : (0 : Int32).toInt = 0)] at hhc0 ⊢; omega) (by have hhcA := hcA; have hhcB := hcB; simp only [Int32.lt_iff_toInt_lt, Int32.le_iff_toInt_le, ← Int32.toInt_inj, (by decide : (0 : Int32).toInt = 0), (by decide : (2 : Int32).toInt = 2)] at hhcA hhcB ⊢; omega) (by have hhcA := hcA; have hhcB := hcB; simp only [Int32.lt_iff_toInt_lt, Int32.le_iff_toInt_le, ← Int32.toInt_inj, (by decide : (0 : Int32).toInt = 0), (by decide : (2 : Int32).toInt = 2)] at hhcA hhcB ⊢; omega)) (cwV 3 hts gL_years_X10_years rfl rfl rfl (by decide +kernel) ⟨Nat.le_of_ble_eq_true rfl, Nat.le_of_ble_eq_true rfl⟩) ⟨fun a U g mk q => by obtain ⟨q0, q1, qP, qE, qD, qX, qT⟩ := q; exact ⟨q0, q1, qP, kE_call qE, qD, kX_call qX, kT_call qT⟩, va_recv hK hP (ci := 10) (q0 := 0) rfl rfl, fun U hU hW => ⟨rfl, by rw [hU], by rw [hU]; exact hPc, kE_warm hW hE, hDc.weaken (fun _ _ _ _ => trivial), kX_warm hW hXs, kT_at hT hS hFc hW hU⟩⟩ rfl rfl hl.1 rfl (lv_room (Nat.le_of_ble_eq_true rfl)) dL_years_7 ⟨Nat.le_of_ble_eq_true rfl, Nat.le_of_ble_eq_true rfl⟩) hS (fun q _ h => hFc q h) hFc (fun q _ h => hFc q h) (fun E ce q9 u t H1 locs ht hvm hpx hBX hz1 hk1 hS hc9 hv9 hcl9 => ?_) (fun r1 u t H1 locs ht hvm w2 hB hz1 hk1 hS => ?_)
  · subst hBX
    have hP1 : va_P (dC, dI) vwCl [] H1 := fun k q h => by simp at h
    have hD1 : va_D (va_A [] s.heap.size) [] := ⟨fun i j p q h => by simp at h, fun k q h => by simp at h⟩
    obtain ⟨hP, hD⟩ := va_join (wr := [(h0, .inr (10, [.ref xa1, .ref xa3, .ref xa15, .ref xa27, .ref xa28, .ref xa33, .ref xa38, .ref xa41, .ref xa45, .ref xa46, .ref xa47, .ref xa52, .ref xa54, .int 0, .ref xa55, .ref xa60, .ref xa62, .ref xa67, .int (-1)])), (ou, .inl (kJ, 1, .inr (.inl fo)))]) (w1 := []) hP hD [] [0, 1] rfl rfl (by decide) (by decide) hk1 hFc hP1 hD1
    generalize H1 = H at hP hS hc9 ⊢
    have hP : va_P (dC, dI) vwCl [(h0, .inr (10, [.ref xa1, .ref xa3, .ref xa15, .ref xa27, .ref xa28, .ref xa33, .ref xa38, .ref xa41, .ref xa45, .ref xa46, .ref xa47, .ref xa52, .ref xa54, .int 0, .ref xa55, .ref xa60, .ref xa62, .ref xa67, .int (-1)])), (ou, .inl (kJ, 1, .inr (.inl fo)))] H := hP
    have hD : va_D A [(h0, .inr (10, [.ref xa1, .ref xa3, .ref xa15, .ref xa27, .ref xa28, .ref xa33, .ref xa38, .ref xa41, .ref xa45, .ref xa46, .ref xa47, .ref xa52, .ref xa54, .int 0, .ref xa55, .ref xa60, .ref xa62, .ref xa67, .int (-1)])), (ou, .inl (kJ, 1, .inr (.inl fo)))] := hD
    have htab := vx_table B (hts (.codeWith yL_years cL_years 6 (some .int) [(0, 12, 15, 18), (0, 12, 19, 13)]) (List.mem_of_getElem? (i := 0) (by decide +kernel)))
    refine vx_catch (name := "java/lang/IllegalArgumentException") hown [⟨0, 12, 15, 18⟩] ⟨0, 12, 19, 13⟩ [] (htab.trans rfl) (fun z h => by obtain rfl := List.mem_singleton.mp h; exact Or.inr ⟨by decide, "java/util/NoSuchElementException", (hts (.classLink RL 18 "java/util/NoSuchElementException") (List.mem_of_getElem? (i := 1) (by decide +kernel))), hNc⟩) rfl (by decide) (hts (.classLink RL 13 "java/lang/IllegalArgumentException") (List.mem_of_getElem? (i := 2) (by decide +kernel))) (va_Nw.use rfl hXs.2.1) hc9 hv9 hcl9 ?_
    refine W.widen (k := 1) (n := 6) (Nat.le_of_ble_eq_true rfl) (Nat.le_of_ble_eq_true rfl) ?_
    refine W.eq (g2 := F0 m 19 ls [.ref q9]) rfl ?_
    refine lv_astore (lv' := [(5, .ref q9), (0, .ref h0), (1, .int p0), (2, .int p1), (3, .int p2), (4, .ref ou)]) hx hb dL_years_19 hl (by decide) rfl (fun ls hl => ?_)
    refine lv_iconst (v := 2) hx hb dL_years_21 (by decide) ?_
    have hP9 := hP.sub (ws' := [(ou, .inl (kJ, 1, .inr (.inl fo)))]) [1] rfl
    have hD9 := hD.sub (ws' := [(ou, .inl (kJ, 1, .inr (.inl fo)))]) [1] (by decide) rfl
    exact W.iret (v := 2) hx hb hr (fun t ht hW => ⟨⟨2, (), rfl, rfl, by rw [ht]; exact hP9, hD9⟩, hS.F ht⟩) hS.2.2 dL_years_22
  · exact w2.elim
def rm_kL10_net_hi : Room := { frames := 7, cells := 1, slots := 6, locals := 104 }
set_option maxHeartbeats 4000000 in
set_option maxRecDepth 100000 in
theorem kL10_net_hi (l : Launch) (hst : l.stackTraces = false) (dC : Nat → ClassId) (dI : Nat → Nat → Nat) (kB kI kJ kZ kC kS : ClassId) (sz : Nat) (h0 : Nat) (xa1 : Nat) (xa3 : Nat) (xa15 : Nat) (xa27 : Nat) (xa28 : Nat) (xa33 : Nat) (xa38 : Nat) (xa41 : Nat) (xa45 : Nat) (xa46 : Nat) (xa47 : Nat) (xa52 : Nat) (xa54 : Nat) (xa55 : Nat) (xa60 : Nat) (xa62 : Nat) (xa67 : Nat) (xa2 : Nat) (p0 : Int32) (ou : Nat) (fo : Nat → Int64) (hc0 : 0 < p0) : Met l yL_net wsL_net rm_kL10_net_hi (va_Pc [.ref h0, .int p0, .ref ou] (fun U => U.heap.size = sz ∧ va_P (dC, dI) vwCl [(h0, .inr (10, [.ref xa1, .ref xa3, .ref xa15, .ref xa27, .ref xa28, .ref xa33, .ref xa38, .ref xa41, .ref xa45, .ref xa46, .ref xa47, .ref xa52, .ref xa54, .int 0, .ref xa55, .ref xa60, .ref xa62, .ref xa67, .int (-1)])), (xa1, .inr (8, [.ref xa2, .int 0])), (ou, .inl (kJ, 1, .inr (.inl fo)))] U.heap ∧ kE dC dI kB kI kJ kZ kC kS U ∧ va_D (fun _ => True) [(h0, .inr (10, [.ref xa1, .ref xa3, .ref xa15, .ref xa27, .ref xa28, .ref xa33, .ref xa38, .ref xa41, .ref xa45, .ref xa46, .ref xa47, .ref xa52, .ref xa54, .int 0, .ref xa55, .ref xa60, .ref xa62, .ref xa67, .int (-1)])), (xa1, .inr (8, [.ref xa2, .int 0])), (ou, .inl (kJ, 1, .inr (.inl fo)))] ∧ kX U ∧ kT (va_A [(h0, .inr (10, [.ref xa1, .ref xa3, .ref xa15, .ref xa27, .ref xa28, .ref xa33, .ref xa38, .ref xa41, .ref xa45, .ref xa46, .ref xa47, .ref xa52, .ref xa54, .int 0, .ref xa55, .ref xa60, .ref xa62, .ref xa67, .int (-1)])), (xa1, .inr (8, [.ref xa2, .int 0])), (ou, .inl (kJ, 1, .inr (.inl fo)))] sz) U)) (va_Qi (fun (r : Int32) (_ : Unit) => r = 1) (fun _ t => va_P (dC, dI) vwCl [(ou, .inl (kJ, 1, .inr (.inl fo)))] t.heap ∧ va_D (va_A [(h0, .inr (10, [.ref xa1, .ref xa3, .ref xa15, .ref xa27, .ref xa28, .ref xa33, .ref xa38, .ref xa41, .ref xa45, .ref xa46, .ref xa47, .ref xa52, .ref xa54, .int 0, .ref xa55, .ref xa60, .ref xa62, .ref xa67, .int (-1)])), (xa1, .inr (8, [.ref xa2, .int 0])), (ou, .inl (kJ, 1, .inr (.inl fo)))] sz) [(ou, .inl (kJ, 1, .inr (.inl fo)))]) (va_A [(h0, .inr (10, [.ref xa1, .ref xa3, .ref xa15, .ref xa27, .ref xa28, .ref xa33, .ref xa38, .ref xa41, .ref xa45, .ref xa46, .ref xa47, .ref xa52, .ref xa54, .int 0, .ref xa55, .ref xa60, .ref xa62, .ref xa67, .int (-1)])), (xa1, .inr (8, [.ref xa2, .int 0])), (ou, .inl (kJ, 1, .inr (.inl fo)))] sz)) 1 6 (va_A [(h0, .inr (10, [.ref xa1, .ref xa3, .ref xa15, .ref xa27, .ref xa28, .ref xa33, .ref xa38, .ref xa41, .ref xa45, .ref xa46, .ref xa47, .ref xa52, .ref xa54, .int 0, .ref xa55, .ref xa60, .ref xa62, .ref xa67, .int (-1)])), (xa1, .inr (8, [.ref xa2, .int 0])), (ou, .inl (kJ, 1, .inr (.inl fo)))] sz) := by
  refine va_MetW (cc := cL_net) (maxL := 4) (ret := (some .int)) (by decide) rfl ?_
  intro p e s m args0 below meth c s₁ B hml hv
  obtain ⟨hargs, hsz, hP, hE, hD0, hXs, hT⟩ := hv
  have hx := B.exec
  have hb := B.bytes
  have hr := B.returns
  have hts := atoms_spec (ws := wsL_net) B.pre
  have hown : s.vm.findClass RL = some m.cls := findClass_of_methodNamed B.named
  have hlocks := B.notSynchronized
  have hK := hE.1
  have hin10 : ∀ w ∈ wsX100, w ∈ wsL_net := fun _ h9 => List.mem_cons_of_mem _ (List.mem_append_left _ (List.mem_append_left _ (List.mem_append_left _ (List.mem_append_left _ (List.mem_append_left _ (List.mem_append_left _ (List.mem_append_left _ (List.mem_append_right _ h9))))))))
  have hin8 : ∀ w ∈ wsX80, w ∈ wsL_net := fun _ h9 => List.mem_cons_of_mem _ (List.mem_append_left _ (List.mem_append_left _ (List.mem_append_left _ (List.mem_append_left _ (List.mem_append_left _ (List.mem_append_left _ (List.mem_append_right _ h9)))))))
  have hin5 : ∀ w ∈ wsX50, w ∈ wsL_net := fun _ h9 => List.mem_cons_of_mem _ (List.mem_append_left _ (List.mem_append_left _ (List.mem_append_left _ (List.mem_append_left _ (List.mem_append_left _ (List.mem_append_right _ h9))))))
  have hin2 : ∀ w ∈ wsX20, w ∈ wsL_net := fun _ h9 => List.mem_cons_of_mem _ (List.mem_append_left _ (List.mem_append_left _ (List.mem_append_left _ (List.mem_append_left _ (List.mem_append_right _ h9)))))
  have hin1 : ∀ w ∈ wsX10, w ∈ wsL_net := fun _ h9 => List.mem_cons_of_mem _ (List.mem_append_left _ (List.mem_append_left _ (List.mem_append_left _ (List.mem_append_right _ h9))))
  have hin3 : ∀ w ∈ wsX30, w ∈ wsL_net := fun _ h9 => List.mem_cons_of_mem _ (List.mem_append_left _ (List.mem_append_left _ (List.mem_append_right _ h9)))
  have hin0 : ∀ w ∈ wsX00, w ∈ wsL_net := fun _ h9 => List.mem_cons_of_mem _ (List.mem_append_left _ (List.mem_append_right _ h9))
  subst hsz
  have hD := hD0.self (sz := s.heap.size)
  generalize hAe : va_A [(h0, .inr (10, [.ref xa1, .ref xa3, .ref xa15, .ref xa27, .ref xa28, .ref xa33, .ref xa38, .ref xa41, .ref xa45, .ref xa46, .ref xa47, .ref xa52, .ref xa54, .int 0, .ref xa55, .ref xa60, .ref xa62, .ref xa67, .int (-1)])), (xa1, .inr (8, [.ref xa2, .int 0])), (ou, .inl (kJ, 1, .inr (.inl fo)))] s.heap.size = A at hD hT ⊢
  have hA : ∀ q : Nat, s.heap.size ≤ q → A q := fun q h => by rw [← hAe]; exact Or.inr h
  have hS : va_S A s.heap s.heap [] := va_S.rf
  have hP : va_P (dC, dI) vwCl [(h0, .inr (10, [.ref xa1, .ref xa3, .ref xa15, .ref xa27, .ref xa28, .ref xa33, .ref xa38, .ref xa41, .ref xa45, .ref xa46, .ref xa47, .ref xa52, .ref xa54, .int 0, .ref xa55, .ref xa60, .ref xa62, .ref xa67, .int (-1)])), (xa1, .inr (8, [.ref xa2, .int 0])), (ou, .inl (kJ, 1, .inr (.inl fo)))] s.heap := hP
  have hl := lv_entry ([.ref h0, .int p0, .ref ou]) (n := 4) (Nat.le_of_ble_eq_true rfl)
  have hla : entryFrame m args0 4 = entryFrame m ([.ref h0, .int p0, .ref ou] : List Value).toArray 4 := by rw [hargs]
  rw [hla, lg_entry_eq]
  generalize (lg_sl ([.ref h0, .int p0, .ref ou]) ++ List.replicate (4 - (lg_sl ([.ref h0, .int p0, .ref ou])).length) Slot.unset).toArray = ls at hl ⊢
  have hl : lv_has ls 4 [(0, .ref h0), (1, .int p0), (2, .ref ou)] := hl
  refine lv_aload_n hx hb dL_net_0 rfl (lv_at hl 2 rfl) ?_
  refine lv_iconst (v := 0) hx hb dL_net_1 (by decide) ?_
  refine lv_aload_n hx hb dL_net_2 rfl (lv_at hl 0 rfl) ?_
  refine lv_iload_n hx hb dL_net_3 rfl (lv_at hl 1 rfl) ?_
  have hPc := hP.sub (ws' := [(h0, .inr (10, [.ref xa1, .ref xa3, .ref xa15, .ref xa27, .ref xa28, .ref xa33, .ref xa38, .ref xa41, .ref xa45, .ref xa46, .ref xa47, .ref xa52, .ref xa54, .int 0, .ref xa55, .ref xa60, .ref xa62, .ref xa67, .int (-1)])), (xa1, .inr (8, [.ref xa2, .int 0]))]) [0, 1] rfl
  have hDc := hD.sub (ws' := [(h0, .inr (10, [.ref xa1, .ref xa3, .ref xa15, .ref xa27, .ref xa28, .ref xa33, .ref xa38, .ref xa41, .ref xa45, .ref xa46, .ref xa47, .ref xa52, .ref xa54, .int 0, .ref xa55, .ref xa60, .ref xa62, .ref xa67, .int (-1)])), (xa1, .inr (8, [.ref xa2, .int 0]))]) [0, 1] (by decide) rfl
  have hFc := va_free (wc := [(h0, .inr (10, [.ref xa1, .ref xa3, .ref xa15, .ref xa27, .ref xa28, .ref xa33, .ref xa38, .ref xa41, .ref xa45, .ref xa46, .ref xa47, .ref xa52, .ref xa54, .int 0, .ref xa55, .ref xa60, .ref xa62, .ref xa67, .int (-1)])), (xa1, .inr (8, [.ref xa2, .int 0]))]) hD hS hA [0, 1] rfl
  refine vx_calli (vx_runV (As := [.int p0]) (rest := [.int 0, .ref ou]) ⟨hx, hb, hml, hown, hts⟩ (k10_net_hi l hst dC dI kB kI kJ kZ kC kS s.heap.size h0 xa1 xa3 xa15 xa27 xa28 xa33 xa38 xa41 xa45 xa46 xa47 xa52 xa54 xa55 xa60 xa62 xa67 xa2 p0 (by have hhc0 := hc0; simp only [Int32.lt_iff_toInt_lt, Int32.le_iff_toInt_le, ← Int32.toInt_inj, (by decide : (0 : Int32).toInt = 0)] at hhc0 ⊢; omega)) (cwV 1 hts gL_net_X10_net rfl rfl rfl (by decide +kernel) ⟨Nat.le_of_ble_eq_true rfl, Nat.le_of_ble_eq_true rfl⟩) ⟨fun a U g mk q => by obtain ⟨q0, q1, qP, qE, qD, qX, qT⟩ := q; exact ⟨q0, q1, qP, kE_call qE, qD, kX_call qX, kT_call qT⟩, va_recv hK hP (ci := 10) (q0 := 0) rfl rfl, fun U hU hW => ⟨rfl, by rw [hU], by rw [hU]; exact hPc, kE_warm hW hE, hDc.weaken (fun _ _ _ _ => trivial), kX_warm hW hXs, kT_at hT hS hFc hW hU⟩⟩ rfl rfl hl.1 rfl (lv_room (Nat.le_of_ble_eq_true rfl)) dL_net_4 ⟨Nat.le_of_ble_eq_true rfl, Nat.le_of_ble_eq_true rfl⟩) hS (fun q _ h => hFc q h) hFc (fun q _ h => hFc q h) (fun E ce q9 u t H1 locs ht hvm hpx hBX hz1 hk1 hS hc9 hv9 hcl9 => ?_) (fun r1 u t H1 locs ht hvm w2 hB hz1 hk1 hS => ?_)
  · subst hBX
    have hP1 : va_P (dC, dI) vwCl [] H1 := fun k q h => by simp at h
    have hD1 : va_D (va_A [(h0, .inr (10, [.ref xa1, .ref xa3, .ref xa15, .ref xa27, .ref xa28, .ref xa33, .ref xa38, .ref xa41, .ref xa45, .ref xa46, .ref xa47, .ref xa52, .ref xa54, .int 0, .ref xa55, .ref xa60, .ref xa62, .ref xa67, .int (-1)])), (xa1, .inr (8, [.ref xa2, .int 0]))] s.heap.size) [] := ⟨fun i j p q h => by simp at h, fun k q h => by simp at h⟩
    obtain ⟨hP, hD⟩ := va_join (wr := [(ou, .inl (kJ, 1, .inr (.inl fo)))]) (w1 := []) hP hD [0, 1] [2] rfl rfl (by decide) (by decide) hk1 hFc hP1 hD1
    generalize H1 = H at hP hS hc9 ⊢
    have hP : va_P (dC, dI) vwCl [(ou, .inl (kJ, 1, .inr (.inl fo)))] H := hP
    have hD : va_D A [(ou, .inl (kJ, 1, .inr (.inl fo)))] := hD
    have htab := vx_table B (hts (.codeWith yL_net cL_net 4 (some .int) [(0, 9, 12, 13)]) (List.mem_of_getElem? (i := 0) (by decide +kernel)))
    refine vx_catch (name := "java/lang/IllegalArgumentException") hown [] ⟨0, 9, 12, 13⟩ [] (htab.trans rfl) (fun z h => absurd h List.not_mem_nil) rfl (by decide) (hts (.classLink RL 13 "java/lang/IllegalArgumentException") (List.mem_of_getElem? (i := 1) (by decide +kernel))) (va_Nw.use rfl hXs.2.1) hc9 hv9 hcl9 ?_
    refine W.widen (k := 1) (n := 6) (Nat.le_of_ble_eq_true rfl) (Nat.le_of_ble_eq_true rfl) ?_
    refine W.eq (g2 := F0 m 12 ls [.ref q9]) rfl ?_
    refine lv_astore_n (lv' := [(3, .ref q9), (0, .ref h0), (1, .int p0), (2, .ref ou)]) hx hb dL_net_12 rfl hl (by decide) rfl (fun ls hl => ?_)
    refine lv_iconst (v := 1) hx hb dL_net_13 (by decide) ?_
    have hP9 := hP.sub (ws' := [(ou, .inl (kJ, 1, .inr (.inl fo)))]) [0] rfl
    have hD9 := hD.sub (ws' := [(ou, .inl (kJ, 1, .inr (.inl fo)))]) [0] (by decide) rfl
    exact W.iret (v := 1) hx hb hr (fun t ht hW => ⟨⟨1, (), rfl, rfl, by rw [ht]; exact hP9, hD9⟩, hS.F ht⟩) hS.2.2 dL_net_14
  · exact w2.elim
def rm_kL10_count_hi : Room := { frames := 7, cells := 1, slots := 6, locals := 103 }
set_option maxHeartbeats 4000000 in
set_option maxRecDepth 100000 in
theorem kL10_count_hi (l : Launch) (hst : l.stackTraces = false) (dC : Nat → ClassId) (dI : Nat → Nat → Nat) (kB kI kJ kZ kC kS : ClassId) (sz : Nat) (h0 : Nat) (xa1 : Nat) (xa3 : Nat) (xa15 : Nat) (xa27 : Nat) (xa28 : Nat) (xa33 : Nat) (xa38 : Nat) (xa41 : Nat) (xa45 : Nat) (xa46 : Nat) (xa47 : Nat) (xa52 : Nat) (xa54 : Nat) (xa55 : Nat) (xa60 : Nat) (xa62 : Nat) (xa67 : Nat) (p0 : Int32) (ou : Nat) (fo : Nat → Int64) (hc0 : 20 < p0) : Met l yL_count wsL_count rm_kL10_count_hi (va_Pc [.ref h0, .int p0, .ref ou] (fun U => U.heap.size = sz ∧ va_P (dC, dI) vwCl [(h0, .inr (10, [.ref xa1, .ref xa3, .ref xa15, .ref xa27, .ref xa28, .ref xa33, .ref xa38, .ref xa41, .ref xa45, .ref xa46, .ref xa47, .ref xa52, .ref xa54, .int 0, .ref xa55, .ref xa60, .ref xa62, .ref xa67, .int (-1)])), (ou, .inl (kJ, 1, .inr (.inl fo)))] U.heap ∧ kE dC dI kB kI kJ kZ kC kS U ∧ va_D (fun _ => True) [(h0, .inr (10, [.ref xa1, .ref xa3, .ref xa15, .ref xa27, .ref xa28, .ref xa33, .ref xa38, .ref xa41, .ref xa45, .ref xa46, .ref xa47, .ref xa52, .ref xa54, .int 0, .ref xa55, .ref xa60, .ref xa62, .ref xa67, .int (-1)])), (ou, .inl (kJ, 1, .inr (.inl fo)))] ∧ kX U ∧ kT (va_A [(h0, .inr (10, [.ref xa1, .ref xa3, .ref xa15, .ref xa27, .ref xa28, .ref xa33, .ref xa38, .ref xa41, .ref xa45, .ref xa46, .ref xa47, .ref xa52, .ref xa54, .int 0, .ref xa55, .ref xa60, .ref xa62, .ref xa67, .int (-1)])), (ou, .inl (kJ, 1, .inr (.inl fo)))] sz) U)) (va_Qi (fun (r : Int32) (_ : Unit) => r = 1) (fun _ t => va_P (dC, dI) vwCl [(ou, .inl (kJ, 1, .inr (.inl fo)))] t.heap ∧ va_D (va_A [(h0, .inr (10, [.ref xa1, .ref xa3, .ref xa15, .ref xa27, .ref xa28, .ref xa33, .ref xa38, .ref xa41, .ref xa45, .ref xa46, .ref xa47, .ref xa52, .ref xa54, .int 0, .ref xa55, .ref xa60, .ref xa62, .ref xa67, .int (-1)])), (ou, .inl (kJ, 1, .inr (.inl fo)))] sz) [(ou, .inl (kJ, 1, .inr (.inl fo)))]) (va_A [(h0, .inr (10, [.ref xa1, .ref xa3, .ref xa15, .ref xa27, .ref xa28, .ref xa33, .ref xa38, .ref xa41, .ref xa45, .ref xa46, .ref xa47, .ref xa52, .ref xa54, .int 0, .ref xa55, .ref xa60, .ref xa62, .ref xa67, .int (-1)])), (ou, .inl (kJ, 1, .inr (.inl fo)))] sz)) 1 6 (va_A [(h0, .inr (10, [.ref xa1, .ref xa3, .ref xa15, .ref xa27, .ref xa28, .ref xa33, .ref xa38, .ref xa41, .ref xa45, .ref xa46, .ref xa47, .ref xa52, .ref xa54, .int 0, .ref xa55, .ref xa60, .ref xa62, .ref xa67, .int (-1)])), (ou, .inl (kJ, 1, .inr (.inl fo)))] sz) := by
  refine va_MetW (cc := cL_count) (maxL := 4) (ret := (some .int)) (by decide) rfl ?_
  intro p e s m args0 below meth c s₁ B hml hv
  obtain ⟨hargs, hsz, hP, hE, hD0, hXs, hT⟩ := hv
  have hx := B.exec
  have hb := B.bytes
  have hr := B.returns
  have hts := atoms_spec (ws := wsL_count) B.pre
  have hown : s.vm.findClass RL = some m.cls := findClass_of_methodNamed B.named
  have hlocks := B.notSynchronized
  have hK := hE.1
  have hin10 : ∀ w ∈ wsX100, w ∈ wsL_count := fun _ h9 => List.mem_cons_of_mem _ (List.mem_append_left _ (List.mem_append_left _ (List.mem_append_left _ (List.mem_append_left _ (List.mem_append_left _ (List.mem_append_left _ (List.mem_append_left _ (List.mem_append_left _ (List.mem_append_right _ h9)))))))))
  have hin0 : ∀ w ∈ wsX00, w ∈ wsL_count := fun _ h9 => List.mem_cons_of_mem _ (List.mem_append_left _ (List.mem_append_left _ (List.mem_append_left _ (List.mem_append_left _ (List.mem_append_left _ (List.mem_append_left _ (List.mem_append_left _ (List.mem_append_right _ h9))))))))
  have hin2 : ∀ w ∈ wsX20, w ∈ wsL_count := fun _ h9 => List.mem_cons_of_mem _ (List.mem_append_left _ (List.mem_append_left _ (List.mem_append_left _ (List.mem_append_left _ (List.mem_append_left _ (List.mem_append_left _ (List.mem_append_right _ h9)))))))
  have hin1 : ∀ w ∈ wsX10, w ∈ wsL_count := fun _ h9 => List.mem_cons_of_mem _ (List.mem_append_left _ (List.mem_append_left _ (List.mem_append_left _ (List.mem_append_left _ (List.mem_append_left _ (List.mem_append_right _ h9))))))
  have hin3 : ∀ w ∈ wsX30, w ∈ wsL_count := fun _ h9 => List.mem_cons_of_mem _ (List.mem_append_left _ (List.mem_append_left _ (List.mem_append_left _ (List.mem_append_left _ (List.mem_append_right _ h9)))))
  have hin8 : ∀ w ∈ wsX80, w ∈ wsL_count := fun _ h9 => List.mem_cons_of_mem _ (List.mem_append_left _ (List.mem_append_left _ (List.mem_append_left _ (List.mem_append_right _ h9))))
  have hin4 : ∀ w ∈ wsX40, w ∈ wsL_count := fun _ h9 => List.mem_cons_of_mem _ (List.mem_append_left _ (List.mem_append_left _ (List.mem_append_right _ h9)))
  have hin7 : ∀ w ∈ wsX70, w ∈ wsL_count := fun _ h9 => List.mem_cons_of_mem _ (List.mem_append_left _ (List.mem_append_right _ h9))
  subst hsz
  have hD := hD0.self (sz := s.heap.size)
  generalize hAe : va_A [(h0, .inr (10, [.ref xa1, .ref xa3, .ref xa15, .ref xa27, .ref xa28, .ref xa33, .ref xa38, .ref xa41, .ref xa45, .ref xa46, .ref xa47, .ref xa52, .ref xa54, .int 0, .ref xa55, .ref xa60, .ref xa62, .ref xa67, .int (-1)])), (ou, .inl (kJ, 1, .inr (.inl fo)))] s.heap.size = A at hD hT ⊢
  have hA : ∀ q : Nat, s.heap.size ≤ q → A q := fun q h => by rw [← hAe]; exact Or.inr h
  have hS : va_S A s.heap s.heap [] := va_S.rf
  have hP : va_P (dC, dI) vwCl [(h0, .inr (10, [.ref xa1, .ref xa3, .ref xa15, .ref xa27, .ref xa28, .ref xa33, .ref xa38, .ref xa41, .ref xa45, .ref xa46, .ref xa47, .ref xa52, .ref xa54, .int 0, .ref xa55, .ref xa60, .ref xa62, .ref xa67, .int (-1)])), (ou, .inl (kJ, 1, .inr (.inl fo)))] s.heap := hP
  have hl := lv_entry ([.ref h0, .int p0, .ref ou]) (n := 4) (Nat.le_of_ble_eq_true rfl)
  have hla : entryFrame m args0 4 = entryFrame m ([.ref h0, .int p0, .ref ou] : List Value).toArray 4 := by rw [hargs]
  rw [hla, lg_entry_eq]
  generalize (lg_sl ([.ref h0, .int p0, .ref ou]) ++ List.replicate (4 - (lg_sl ([.ref h0, .int p0, .ref ou])).length) Slot.unset).toArray = ls at hl ⊢
  have hl : lv_has ls 4 [(0, .ref h0), (1, .int p0), (2, .ref ou)] := hl
  refine lv_aload_n hx hb dL_count_0 rfl (lv_at hl 2 rfl) ?_
  refine lv_iconst (v := 0) hx hb dL_count_1 (by decide) ?_
  refine lv_aload_n hx hb dL_count_2 rfl (lv_at hl 0 rfl) ?_
  refine lv_iload_n hx hb dL_count_3 rfl (lv_at hl 1 rfl) ?_
  have hPc := hP.sub (ws' := []) [] rfl
  have hDc := hD.sub (ws' := []) [] (by decide) rfl
  have hFc := va_free (wc := []) hD hS hA [] rfl
  refine vx_calli (vx_runV (As := [.int p0]) (rest := [.int 0, .ref ou]) ⟨hx, hb, hml, hown, hts⟩ (k10_count_hi l hst dC dI kB kI kJ kZ kC kS s.heap.size h0 p0 (by have hhc0 := hc0; simp only [Int32.lt_iff_toInt_lt, Int32.le_iff_toInt_le, ← Int32.toInt_inj, (by decide : (0 : Int32).toInt = 0), (by decide : (20 : Int32).toInt = 20)] at hhc0 ⊢; omega)) (cwV 1 hts gL_count_X10_count rfl rfl rfl (by decide +kernel) ⟨Nat.le_of_ble_eq_true rfl, Nat.le_of_ble_eq_true rfl⟩) ⟨fun a U g mk q => by obtain ⟨q0, q1, qP, qE, qD, qX, qT⟩ := q; exact ⟨q0, q1, qP, kE_call qE, qD, kX_call qX, kT_call qT⟩, va_recv hK hP (ci := 10) (q0 := 0) rfl rfl, fun U hU hW => ⟨rfl, by rw [hU], by rw [hU]; exact hPc, kE_warm hW hE, hDc.weaken (fun _ _ _ _ => trivial), kX_warm hW hXs, kT_at hT hS hFc hW hU⟩⟩ rfl rfl hl.1 rfl (lv_room (Nat.le_of_ble_eq_true rfl)) dL_count_4 ⟨Nat.le_of_ble_eq_true rfl, Nat.le_of_ble_eq_true rfl⟩) hS (fun q _ h => hFc q h) hFc (fun q _ h => hFc q h) (fun E ce q9 u t H1 locs ht hvm hpx hBX hz1 hk1 hS hc9 hv9 hcl9 => ?_) (fun r1 u t H1 locs ht hvm w2 hB hz1 hk1 hS => ?_)
  · subst hBX
    have hP1 : va_P (dC, dI) vwCl [] H1 := fun k q h => by simp at h
    have hD1 : va_D (va_A [] s.heap.size) [] := ⟨fun i j p q h => by simp at h, fun k q h => by simp at h⟩
    obtain ⟨hP, hD⟩ := va_join (wr := [(h0, .inr (10, [.ref xa1, .ref xa3, .ref xa15, .ref xa27, .ref xa28, .ref xa33, .ref xa38, .ref xa41, .ref xa45, .ref xa46, .ref xa47, .ref xa52, .ref xa54, .int 0, .ref xa55, .ref xa60, .ref xa62, .ref xa67, .int (-1)])), (ou, .inl (kJ, 1, .inr (.inl fo)))]) (w1 := []) hP hD [] [0, 1] rfl rfl (by decide) (by decide) hk1 hFc hP1 hD1
    generalize H1 = H at hP hS hc9 ⊢
    have hP : va_P (dC, dI) vwCl [(h0, .inr (10, [.ref xa1, .ref xa3, .ref xa15, .ref xa27, .ref xa28, .ref xa33, .ref xa38, .ref xa41, .ref xa45, .ref xa46, .ref xa47, .ref xa52, .ref xa54, .int 0, .ref xa55, .ref xa60, .ref xa62, .ref xa67, .int (-1)])), (ou, .inl (kJ, 1, .inr (.inl fo)))] H := hP
    have hD : va_D A [(h0, .inr (10, [.ref xa1, .ref xa3, .ref xa15, .ref xa27, .ref xa28, .ref xa33, .ref xa38, .ref xa41, .ref xa45, .ref xa46, .ref xa47, .ref xa52, .ref xa54, .int 0, .ref xa55, .ref xa60, .ref xa62, .ref xa67, .int (-1)])), (ou, .inl (kJ, 1, .inr (.inl fo)))] := hD
    have htab := vx_table B (hts (.codeWith yL_count cL_count 4 (some .int) [(0, 9, 12, 18)]) (List.mem_of_getElem? (i := 0) (by decide +kernel)))
    refine vx_catch (name := "java/util/NoSuchElementException") hown [] ⟨0, 9, 12, 18⟩ [] (htab.trans rfl) (fun z h => absurd h List.not_mem_nil) rfl (by decide) (hts (.classLink RL 18 "java/util/NoSuchElementException") (List.mem_of_getElem? (i := 1) (by decide +kernel))) (va_Nw.use rfl hXs.1) hc9 hv9 hcl9 ?_
    refine W.widen (k := 1) (n := 6) (Nat.le_of_ble_eq_true rfl) (Nat.le_of_ble_eq_true rfl) ?_
    refine W.eq (g2 := F0 m 12 ls [.ref q9]) rfl ?_
    refine lv_astore_n (lv' := [(3, .ref q9), (0, .ref h0), (1, .int p0), (2, .ref ou)]) hx hb dL_count_12 rfl hl (by decide) rfl (fun ls hl => ?_)
    refine lv_iconst (v := 1) hx hb dL_count_13 (by decide) ?_
    have hP9 := hP.sub (ws' := [(ou, .inl (kJ, 1, .inr (.inl fo)))]) [1] rfl
    have hD9 := hD.sub (ws' := [(ou, .inl (kJ, 1, .inr (.inl fo)))]) [1] (by decide) rfl
    exact W.iret (v := 1) hx hb hr (fun t ht hW => ⟨⟨1, (), rfl, rfl, by rw [ht]; exact hP9, hD9⟩, hS.F ht⟩) hS.2.2 dL_count_14
  · exact w2.elim
def rm_kL10_years_whi : Room := { frames := 8, cells := 1, slots := 6, locals := 128 }
set_option maxHeartbeats 4000000 in
set_option maxRecDepth 100000 in
theorem kL10_years_whi (l : Launch) (hst : l.stackTraces = false) (dC : Nat → ClassId) (dI : Nat → Nat → Nat) (kB kI kJ kZ kC kS : ClassId) (sz : Nat) (h0 : Nat) (xa1 : Nat) (xa3 : Nat) (xa15 : Nat) (xa27 : Nat) (xa28 : Nat) (xa33 : Nat) (xa38 : Nat) (xa41 : Nat) (xa45 : Nat) (xa46 : Nat) (xa47 : Nat) (xa52 : Nat) (xa54 : Nat) (xa55 : Nat) (xa60 : Nat) (xa62 : Nat) (xa67 : Nat) (p0 : Int32) (p1 : Int32) (p2 : Int32) (ou : Nat) (fo : Nat → Int64) (hc0 : 2 < p2) : Met l yL_years wsL_years rm_kL10_years_whi (va_Pc [.ref h0, .int p0, .int p1, .int p2, .ref ou] (fun U => U.heap.size = sz ∧ va_P (dC, dI) vwCl [(h0, .inr (10, [.ref xa1, .ref xa3, .ref xa15, .ref xa27, .ref xa28, .ref xa33, .ref xa38, .ref xa41, .ref xa45, .ref xa46, .ref xa47, .ref xa52, .ref xa54, .int 0, .ref xa55, .ref xa60, .ref xa62, .ref xa67, .int (-1)])), (ou, .inl (kJ, 1, .inr (.inl fo)))] U.heap ∧ kE dC dI kB kI kJ kZ kC kS U ∧ va_D (fun _ => True) [(h0, .inr (10, [.ref xa1, .ref xa3, .ref xa15, .ref xa27, .ref xa28, .ref xa33, .ref xa38, .ref xa41, .ref xa45, .ref xa46, .ref xa47, .ref xa52, .ref xa54, .int 0, .ref xa55, .ref xa60, .ref xa62, .ref xa67, .int (-1)])), (ou, .inl (kJ, 1, .inr (.inl fo)))] ∧ kX U ∧ kT (va_A [(h0, .inr (10, [.ref xa1, .ref xa3, .ref xa15, .ref xa27, .ref xa28, .ref xa33, .ref xa38, .ref xa41, .ref xa45, .ref xa46, .ref xa47, .ref xa52, .ref xa54, .int 0, .ref xa55, .ref xa60, .ref xa62, .ref xa67, .int (-1)])), (ou, .inl (kJ, 1, .inr (.inl fo)))] sz) U)) (va_Qi (fun (r : Int32) (_ : Unit) => r = 1) (fun _ t => va_P (dC, dI) vwCl [(ou, .inl (kJ, 1, .inr (.inl fo)))] t.heap ∧ va_D (va_A [(h0, .inr (10, [.ref xa1, .ref xa3, .ref xa15, .ref xa27, .ref xa28, .ref xa33, .ref xa38, .ref xa41, .ref xa45, .ref xa46, .ref xa47, .ref xa52, .ref xa54, .int 0, .ref xa55, .ref xa60, .ref xa62, .ref xa67, .int (-1)])), (ou, .inl (kJ, 1, .inr (.inl fo)))] sz) [(ou, .inl (kJ, 1, .inr (.inl fo)))]) (va_A [(h0, .inr (10, [.ref xa1, .ref xa3, .ref xa15, .ref xa27, .ref xa28, .ref xa33, .ref xa38, .ref xa41, .ref xa45, .ref xa46, .ref xa47, .ref xa52, .ref xa54, .int 0, .ref xa55, .ref xa60, .ref xa62, .ref xa67, .int (-1)])), (ou, .inl (kJ, 1, .inr (.inl fo)))] sz)) 1 6 (va_A [(h0, .inr (10, [.ref xa1, .ref xa3, .ref xa15, .ref xa27, .ref xa28, .ref xa33, .ref xa38, .ref xa41, .ref xa45, .ref xa46, .ref xa47, .ref xa52, .ref xa54, .int 0, .ref xa55, .ref xa60, .ref xa62, .ref xa67, .int (-1)])), (ou, .inl (kJ, 1, .inr (.inl fo)))] sz) := by
  refine va_MetW (cc := cL_years) (maxL := 6) (ret := (some .int)) (by decide) rfl ?_
  intro p e s m args0 below meth c s₁ B hml hv
  obtain ⟨hargs, hsz, hP, hE, hD0, hXs, hT⟩ := hv
  have hx := B.exec
  have hb := B.bytes
  have hr := B.returns
  have hts := atoms_spec (ws := wsL_years) B.pre
  have hown : s.vm.findClass RL = some m.cls := findClass_of_methodNamed B.named
  have hlocks := B.notSynchronized
  have hK := hE.1
  have hin10 : ∀ w ∈ wsX100, w ∈ wsL_years := fun _ h9 => List.mem_cons_of_mem _ (List.mem_append_left _ (List.mem_append_left _ (List.mem_append_left _ (List.mem_append_left _ (List.mem_append_left _ (List.mem_append_left _ (List.mem_append_left _ (List.mem_append_left _ (List.mem_append_right _ h9)))))))))
  have hin6 : ∀ w ∈ wsX60, w ∈ wsL_years := fun _ h9 => List.mem_cons_of_mem _ (List.mem_append_left _ (List.mem_append_left _ (List.mem_append_left _ (List.mem_append_left _ (List.mem_append_left _ (List.mem_append_left _ (List.mem_append_left _ (List.mem_append_right _ h9))))))))
  have hin0 : ∀ w ∈ wsX00, w ∈ wsL_years := fun _ h9 => List.mem_cons_of_mem _ (List.mem_append_left _ (List.mem_append_left _ (List.mem_append_left _ (List.mem_append_left _ (List.mem_append_left _ (List.mem_append_left _ (List.mem_append_right _ h9)))))))
  have hin2 : ∀ w ∈ wsX20, w ∈ wsL_years := fun _ h9 => List.mem_cons_of_mem _ (List.mem_append_left _ (List.mem_append_left _ (List.mem_append_left _ (List.mem_append_left _ (List.mem_append_left _ (List.mem_append_right _ h9))))))
  have hin4 : ∀ w ∈ wsX40, w ∈ wsL_years := fun _ h9 => List.mem_cons_of_mem _ (List.mem_append_left _ (List.mem_append_left _ (List.mem_append_left _ (List.mem_append_left _ (List.mem_append_right _ h9)))))
  have hin9 : ∀ w ∈ wsX90, w ∈ wsL_years := fun _ h9 => List.mem_cons_of_mem _ (List.mem_append_left _ (List.mem_append_left _ (List.mem_append_left _ (List.mem_append_right _ h9))))
  have hin7 : ∀ w ∈ wsX70, w ∈ wsL_years := fun _ h9 => List.mem_cons_of_mem _ (List.mem_append_left _ (List.mem_append_left _ (List.mem_append_right _ h9)))
  subst hsz
  have hD := hD0.self (sz := s.heap.size)
  generalize hAe : va_A [(h0, .inr (10, [.ref xa1, .ref xa3, .ref xa15, .ref xa27, .ref xa28, .ref xa33, .ref xa38, .ref xa41, .ref xa45, .ref xa46, .ref xa47, .ref xa52, .ref xa54, .int 0, .ref xa55, .ref xa60, .ref xa62, .ref xa67, .int (-1)])), (ou, .inl (kJ, 1, .inr (.inl fo)))] s.heap.size = A at hD hT ⊢
  have hA : ∀ q : Nat, s.heap.size ≤ q → A q := fun q h => by rw [← hAe]; exact Or.inr h
  have hS : va_S A s.heap s.heap [] := va_S.rf
  have hP : va_P (dC, dI) vwCl [(h0, .inr (10, [.ref xa1, .ref xa3, .ref xa15, .ref xa27, .ref xa28, .ref xa33, .ref xa38, .ref xa41, .ref xa45, .ref xa46, .ref xa47, .ref xa52, .ref xa54, .int 0, .ref xa55, .ref xa60, .ref xa62, .ref xa67, .int (-1)])), (ou, .inl (kJ, 1, .inr (.inl fo)))] s.heap := hP
  have hl := lv_entry ([.ref h0, .int p0, .int p1, .int p2, .ref ou]) (n := 6) (Nat.le_of_ble_eq_true rfl)
  have hla : entryFrame m args0 6 = entryFrame m ([.ref h0, .int p0, .int p1, .int p2, .ref ou] : List Value).toArray 6 := by rw [hargs]
  rw [hla, lg_entry_eq]
  generalize (lg_sl ([.ref h0, .int p0, .int p1, .int p2, .ref ou]) ++ List.replicate (6 - (lg_sl ([.ref h0, .int p0, .int p1, .int p2, .ref ou])).length) Slot.unset).toArray = ls at hl ⊢
  have hl : lv_has ls 6 [(0, .ref h0), (1, .int p0), (2, .int p1), (3, .int p2), (4, .ref ou)] := hl
  refine lv_aload hx hb dL_years_0 (lv_at hl 4 rfl) ?_
  refine lv_iconst (v := 0) hx hb dL_years_2 (by decide) ?_
  refine lv_aload_n hx hb dL_years_3 rfl (lv_at hl 0 rfl) ?_
  refine lv_iload_n hx hb dL_years_4 rfl (lv_at hl 1 rfl) ?_
  refine lv_iload_n hx hb dL_years_5 rfl (lv_at hl 2 rfl) ?_
  refine lv_iload_n hx hb dL_years_6 rfl (lv_at hl 3 rfl) ?_
  have hPc := hP.sub (ws' := []) [] rfl
  have hDc := hD.sub (ws' := []) [] (by decide) rfl
  have hFc := va_free (wc := []) hD hS hA [] rfl
  refine vx_calli (vx_runV (As := [.int p0, .int p1, .int p2]) (rest := [.int 0, .ref ou]) ⟨hx, hb, hml, hown, hts⟩ (k10_years_whi l hst dC dI kB kI kJ kZ kC kS s.heap.size h0 p0 p1 p2 (by have hhc0 := hc0; simp only [Int32.lt_iff_toInt_lt, Int32.le_iff_toInt_le, ← Int32.toInt_inj, (by decide : (0 : Int32).toInt = 0), (by decide : (2 : Int32).toInt = 2)] at hhc0 ⊢; omega)) (cwV 3 hts gL_years_X10_years rfl rfl rfl (by decide +kernel) ⟨Nat.le_of_ble_eq_true rfl, Nat.le_of_ble_eq_true rfl⟩) ⟨fun a U g mk q => by obtain ⟨q0, q1, qP, qE, qD, qX, qT⟩ := q; exact ⟨q0, q1, qP, kE_call qE, qD, kX_call qX, kT_call qT⟩, va_recv hK hP (ci := 10) (q0 := 0) rfl rfl, fun U hU hW => ⟨rfl, by rw [hU], by rw [hU]; exact hPc, kE_warm hW hE, hDc.weaken (fun _ _ _ _ => trivial), kX_warm hW hXs, kT_at hT hS hFc hW hU⟩⟩ rfl rfl hl.1 rfl (lv_room (Nat.le_of_ble_eq_true rfl)) dL_years_7 ⟨Nat.le_of_ble_eq_true rfl, Nat.le_of_ble_eq_true rfl⟩) hS (fun q _ h => hFc q h) hFc (fun q _ h => hFc q h) (fun E ce q9 u t H1 locs ht hvm hpx hBX hz1 hk1 hS hc9 hv9 hcl9 => ?_) (fun r1 u t H1 locs ht hvm w2 hB hz1 hk1 hS => ?_)
  · subst hBX
    have hP1 : va_P (dC, dI) vwCl [] H1 := fun k q h => by simp at h
    have hD1 : va_D (va_A [] s.heap.size) [] := ⟨fun i j p q h => by simp at h, fun k q h => by simp at h⟩
    obtain ⟨hP, hD⟩ := va_join (wr := [(h0, .inr (10, [.ref xa1, .ref xa3, .ref xa15, .ref xa27, .ref xa28, .ref xa33, .ref xa38, .ref xa41, .ref xa45, .ref xa46, .ref xa47, .ref xa52, .ref xa54, .int 0, .ref xa55, .ref xa60, .ref xa62, .ref xa67, .int (-1)])), (ou, .inl (kJ, 1, .inr (.inl fo)))]) (w1 := []) hP hD [] [0, 1] rfl rfl (by decide) (by decide) hk1 hFc hP1 hD1
    generalize H1 = H at hP hS hc9 ⊢
    have hP : va_P (dC, dI) vwCl [(h0, .inr (10, [.ref xa1, .ref xa3, .ref xa15, .ref xa27, .ref xa28, .ref xa33, .ref xa38, .ref xa41, .ref xa45, .ref xa46, .ref xa47, .ref xa52, .ref xa54, .int 0, .ref xa55, .ref xa60, .ref xa62, .ref xa67, .int (-1)])), (ou, .inl (kJ, 1, .inr (.inl fo)))] H := hP
    have hD : va_D A [(h0, .inr (10, [.ref xa1, .ref xa3, .ref xa15, .ref xa27, .ref xa28, .ref xa33, .ref xa38, .ref xa41, .ref xa45, .ref xa46, .ref xa47, .ref xa52, .ref xa54, .int 0, .ref xa55, .ref xa60, .ref xa62, .ref xa67, .int (-1)])), (ou, .inl (kJ, 1, .inr (.inl fo)))] := hD
    have htab := vx_table B (hts (.codeWith yL_years cL_years 6 (some .int) [(0, 12, 15, 18), (0, 12, 19, 13)]) (List.mem_of_getElem? (i := 0) (by decide +kernel)))
    refine vx_catch (name := "java/util/NoSuchElementException") hown [] ⟨0, 12, 15, 18⟩ [⟨0, 12, 19, 13⟩] (htab.trans rfl) (fun z h => absurd h List.not_mem_nil) rfl (by decide) (hts (.classLink RL 18 "java/util/NoSuchElementException") (List.mem_of_getElem? (i := 1) (by decide +kernel))) (va_Nw.use rfl hXs.1) hc9 hv9 hcl9 ?_
    refine W.widen (k := 1) (n := 6) (Nat.le_of_ble_eq_true rfl) (Nat.le_of_ble_eq_true rfl) ?_
    refine W.eq (g2 := F0 m 15 ls [.ref q9]) rfl ?_
    refine lv_astore (lv' := [(5, .ref q9), (0, .ref h0), (1, .int p0), (2, .int p1), (3, .int p2), (4, .ref ou)]) hx hb dL_years_15 hl (by decide) rfl (fun ls hl => ?_)
    refine lv_iconst (v := 1) hx hb dL_years_17 (by decide) ?_
    have hP9 := hP.sub (ws' := [(ou, .inl (kJ, 1, .inr (.inl fo)))]) [1] rfl
    have hD9 := hD.sub (ws' := [(ou, .inl (kJ, 1, .inr (.inl fo)))]) [1] (by decide) rfl
    exact W.iret (v := 1) hx hb hr (fun t ht hW => ⟨⟨1, (), rfl, rfl, by rw [ht]; exact hP9, hD9⟩, hS.F ht⟩) hS.2.2 dL_years_18
  · exact w2.elim
def rm_kL10_years_nhi : Room := { frames := 7, cells := 1, slots := 6, locals := 107 }
set_option maxHeartbeats 4000000 in
set_option maxRecDepth 100000 in
theorem kL10_years_nhi (l : Launch) (hst : l.stackTraces = false) (dC : Nat → ClassId) (dI : Nat → Nat → Nat) (kB kI kJ kZ kC kS : ClassId) (sz : Nat) (h0 : Nat) (xa1 : Nat) (xa3 : Nat) (xa15 : Nat) (xa27 : Nat) (xa28 : Nat) (xa33 : Nat) (xa38 : Nat) (xa41 : Nat) (xa45 : Nat) (xa46 : Nat) (xa47 : Nat) (xa52 : Nat) (xa54 : Nat) (xa55 : Nat) (xa60 : Nat) (xa62 : Nat) (xa67 : Nat) (p0 : Int32) (p1 : Int32) (p2 : Int32) (ou : Nat) (fo : Nat → Int64) (hc0 : 40 < p1) (hcA : 0 ≤ p2) (hcB : p2 ≤ 2) : Met l yL_years wsL_years rm_kL10_years_nhi (va_Pc [.ref h0, .int p0, .int p1, .int p2, .ref ou] (fun U => U.heap.size = sz ∧ va_P (dC, dI) vwCl [(h0, .inr (10, [.ref xa1, .ref xa3, .ref xa15, .ref xa27, .ref xa28, .ref xa33, .ref xa38, .ref xa41, .ref xa45, .ref xa46, .ref xa47, .ref xa52, .ref xa54, .int 0, .ref xa55, .ref xa60, .ref xa62, .ref xa67, .int (-1)])), (ou, .inl (kJ, 1, .inr (.inl fo)))] U.heap ∧ kE dC dI kB kI kJ kZ kC kS U ∧ va_D (fun _ => True) [(h0, .inr (10, [.ref xa1, .ref xa3, .ref xa15, .ref xa27, .ref xa28, .ref xa33, .ref xa38, .ref xa41, .ref xa45, .ref xa46, .ref xa47, .ref xa52, .ref xa54, .int 0, .ref xa55, .ref xa60, .ref xa62, .ref xa67, .int (-1)])), (ou, .inl (kJ, 1, .inr (.inl fo)))] ∧ kX U ∧ kT (va_A [(h0, .inr (10, [.ref xa1, .ref xa3, .ref xa15, .ref xa27, .ref xa28, .ref xa33, .ref xa38, .ref xa41, .ref xa45, .ref xa46, .ref xa47, .ref xa52, .ref xa54, .int 0, .ref xa55, .ref xa60, .ref xa62, .ref xa67, .int (-1)])), (ou, .inl (kJ, 1, .inr (.inl fo)))] sz) U ∧ va_Nc "java/lang/IllegalArgumentException" "java/util/NoSuchElementException" U)) (va_Qi (fun (r : Int32) (_ : Unit) => r = 2) (fun _ t => va_P (dC, dI) vwCl [(ou, .inl (kJ, 1, .inr (.inl fo)))] t.heap ∧ va_D (va_A [(h0, .inr (10, [.ref xa1, .ref xa3, .ref xa15, .ref xa27, .ref xa28, .ref xa33, .ref xa38, .ref xa41, .ref xa45, .ref xa46, .ref xa47, .ref xa52, .ref xa54, .int 0, .ref xa55, .ref xa60, .ref xa62, .ref xa67, .int (-1)])), (ou, .inl (kJ, 1, .inr (.inl fo)))] sz) [(ou, .inl (kJ, 1, .inr (.inl fo)))]) (va_A [(h0, .inr (10, [.ref xa1, .ref xa3, .ref xa15, .ref xa27, .ref xa28, .ref xa33, .ref xa38, .ref xa41, .ref xa45, .ref xa46, .ref xa47, .ref xa52, .ref xa54, .int 0, .ref xa55, .ref xa60, .ref xa62, .ref xa67, .int (-1)])), (ou, .inl (kJ, 1, .inr (.inl fo)))] sz)) 1 6 (va_A [(h0, .inr (10, [.ref xa1, .ref xa3, .ref xa15, .ref xa27, .ref xa28, .ref xa33, .ref xa38, .ref xa41, .ref xa45, .ref xa46, .ref xa47, .ref xa52, .ref xa54, .int 0, .ref xa55, .ref xa60, .ref xa62, .ref xa67, .int (-1)])), (ou, .inl (kJ, 1, .inr (.inl fo)))] sz) := by
  refine va_MetW (cc := cL_years) (maxL := 6) (ret := (some .int)) (by decide) rfl ?_
  intro p e s m args0 below meth c s₁ B hml hv
  obtain ⟨hargs, hsz, hP, hE, hD0, hXs, hT, hNc⟩ := hv
  have hx := B.exec
  have hb := B.bytes
  have hr := B.returns
  have hts := atoms_spec (ws := wsL_years) B.pre
  have hown : s.vm.findClass RL = some m.cls := findClass_of_methodNamed B.named
  have hlocks := B.notSynchronized
  have hK := hE.1
  have hin10 : ∀ w ∈ wsX100, w ∈ wsL_years := fun _ h9 => List.mem_cons_of_mem _ (List.mem_append_left _ (List.mem_append_left _ (List.mem_append_left _ (List.mem_append_left _ (List.mem_append_left _ (List.mem_append_left _ (List.mem_append_left _ (List.mem_append_left _ (List.mem_append_right _ h9)))))))))
  have hin6 : ∀ w ∈ wsX60, w ∈ wsL_years := fun _ h9 => List.mem_cons_of_mem _ (List.mem_append_left _ (List.mem_append_left _ (List.mem_append_left _ (List.mem_append_left _ (List.mem_append_left _ (List.mem_append_left _ (List.mem_append_left _ (List.mem_append_right _ h9))))))))
  have hin0 : ∀ w ∈ wsX00, w ∈ wsL_years := fun _ h9 => List.mem_cons_of_mem _ (List.mem_append_left _ (List.mem_append_left _ (List.mem_append_left _ (List.mem_append_left _ (List.mem_append_left _ (List.mem_append_left _ (List.mem_append_right _ h9)))))))
  have hin2 : ∀ w ∈ wsX20, w ∈ wsL_years := fun _ h9 => List.mem_cons_of_mem _ (List.mem_append_left _ (List.mem_append_left _ (List.mem_append_left _ (List.mem_append_left _ (List.mem_append_left _ (List.mem_append_right _ h9))))))
  have hin4 : ∀ w ∈ wsX40, w ∈ wsL_years := fun _ h9 => List.mem_cons_of_mem _ (List.mem_append_left _ (List.mem_append_left _ (List.mem_append_left _ (List.mem_append_left _ (List.mem_append_right _ h9)))))
  have hin9 : ∀ w ∈ wsX90, w ∈ wsL_years := fun _ h9 => List.mem_cons_of_mem _ (List.mem_append_left _ (List.mem_append_left _ (List.mem_append_left _ (List.mem_append_right _ h9))))
  have hin7 : ∀ w ∈ wsX70, w ∈ wsL_years := fun _ h9 => List.mem_cons_of_mem _ (List.mem_append_left _ (List.mem_append_left _ (List.mem_append_right _ h9)))
  subst hsz
  have hD := hD0.self (sz := s.heap.size)
  generalize hAe : va_A [(h0, .inr (10, [.ref xa1, .ref xa3, .ref xa15, .ref xa27, .ref xa28, .ref xa33, .ref xa38, .ref xa41, .ref xa45, .ref xa46, .ref xa47, .ref xa52, .ref xa54, .int 0, .ref xa55, .ref xa60, .ref xa62, .ref xa67, .int (-1)])), (ou, .inl (kJ, 1, .inr (.inl fo)))] s.heap.size = A at hD hT hNc ⊢
  have hA : ∀ q : Nat, s.heap.size ≤ q → A q := fun q h => by rw [← hAe]; exact Or.inr h
  have hS : va_S A s.heap s.heap [] := va_S.rf
  have hP : va_P (dC, dI) vwCl [(h0, .inr (10, [.ref xa1, .ref xa3, .ref xa15, .ref xa27, .ref xa28, .ref xa33, .ref xa38, .ref xa41, .ref xa45, .ref xa46, .ref xa47, .ref xa52, .ref xa54, .int 0, .ref xa55, .ref xa60, .ref xa62, .ref xa67, .int (-1)])), (ou, .inl (kJ, 1, .inr (.inl fo)))] s.heap := hP
  have hl := lv_entry ([.ref h0, .int p0, .int p1, .int p2, .ref ou]) (n := 6) (Nat.le_of_ble_eq_true rfl)
  have hla : entryFrame m args0 6 = entryFrame m ([.ref h0, .int p0, .int p1, .int p2, .ref ou] : List Value).toArray 6 := by rw [hargs]
  rw [hla, lg_entry_eq]
  generalize (lg_sl ([.ref h0, .int p0, .int p1, .int p2, .ref ou]) ++ List.replicate (6 - (lg_sl ([.ref h0, .int p0, .int p1, .int p2, .ref ou])).length) Slot.unset).toArray = ls at hl ⊢
  have hl : lv_has ls 6 [(0, .ref h0), (1, .int p0), (2, .int p1), (3, .int p2), (4, .ref ou)] := hl
  refine lv_aload hx hb dL_years_0 (lv_at hl 4 rfl) ?_
  refine lv_iconst (v := 0) hx hb dL_years_2 (by decide) ?_
  refine lv_aload_n hx hb dL_years_3 rfl (lv_at hl 0 rfl) ?_
  refine lv_iload_n hx hb dL_years_4 rfl (lv_at hl 1 rfl) ?_
  refine lv_iload_n hx hb dL_years_5 rfl (lv_at hl 2 rfl) ?_
  refine lv_iload_n hx hb dL_years_6 rfl (lv_at hl 3 rfl) ?_
  have hPc := hP.sub (ws' := []) [] rfl
  have hDc := hD.sub (ws' := []) [] (by decide) rfl
  have hFc := va_free (wc := []) hD hS hA [] rfl
  refine vx_calli (vx_runV (As := [.int p0, .int p1, .int p2]) (rest := [.int 0, .ref ou]) ⟨hx, hb, hml, hown, hts⟩ (k10_years_nhi l hst dC dI kB kI kJ kZ kC kS s.heap.size h0 p0 p1 p2 (by have hhc0 := hc0; simp only [Int32.lt_iff_toInt_lt, Int32.le_iff_toInt_le, ← Int32.toInt_inj, (by decide : (0 : Int32).toInt = 0), (by decide : (40 : Int32).toInt = 40)] at hhc0 ⊢; omega) (by have hhcA := hcA; have hhcB := hcB; simp only [Int32.lt_iff_toInt_lt, Int32.le_iff_toInt_le, ← Int32.toInt_inj, (by decide : (0 : Int32).toInt = 0), (by decide : (2 : Int32).toInt = 2)] at hhcA hhcB ⊢; omega) (by have hhcA := hcA; have hhcB := hcB; simp only [Int32.lt_iff_toInt_lt, Int32.le_iff_toInt_le, ← Int32.toInt_inj, (by decide : (0 : Int32).toInt = 0), (by decide : (2 : Int32).toInt = 2)] at hhcA hhcB ⊢; omega)) (cwV 3 hts gL_years_X10_years rfl rfl rfl (by decide +kernel) ⟨Nat.le_of_ble_eq_true rfl, Nat.le_of_ble_eq_true rfl⟩) ⟨fun a U g mk q => by obtain ⟨q0, q1, qP, qE, qD, qX, qT⟩ := q; exact ⟨q0, q1, qP, kE_call qE, qD, kX_call qX, kT_call qT⟩, va_recv hK hP (ci := 10) (q0 := 0) rfl rfl, fun U hU hW => ⟨rfl, by rw [hU], by rw [hU]; exact hPc, kE_warm hW hE, hDc.weaken (fun _ _ _ _ => trivial), kX_warm hW hXs, kT_at hT hS hFc hW hU⟩⟩ rfl rfl hl.1 rfl (lv_room (Nat.le_of_ble_eq_true rfl)) dL_years_7 ⟨Nat.le_of_ble_eq_true rfl, Nat.le_of_ble_eq_true rfl⟩) hS (fun q _ h => hFc q h) hFc (fun q _ h => hFc q h) (fun E ce q9 u t H1 locs ht hvm hpx hBX hz1 hk1 hS hc9 hv9 hcl9 => ?_) (fun r1 u t H1 locs ht hvm w2 hB hz1 hk1 hS => ?_)
  · subst hBX
    have hP1 : va_P (dC, dI) vwCl [] H1 := fun k q h => by simp at h
    have hD1 : va_D (va_A [] s.heap.size) [] := ⟨fun i j p q h => by simp at h, fun k q h => by simp at h⟩
    obtain ⟨hP, hD⟩ := va_join (wr := [(h0, .inr (10, [.ref xa1, .ref xa3, .ref xa15, .ref xa27, .ref xa28, .ref xa33, .ref xa38, .ref xa41, .ref xa45, .ref xa46, .ref xa47, .ref xa52, .ref xa54, .int 0, .ref xa55, .ref xa60, .ref xa62, .ref xa67, .int (-1)])), (ou, .inl (kJ, 1, .inr (.inl fo)))]) (w1 := []) hP hD [] [0, 1] rfl rfl (by decide) (by decide) hk1 hFc hP1 hD1
    generalize H1 = H at hP hS hc9 ⊢
    have hP : va_P (dC, dI) vwCl [(h0, .inr (10, [.ref xa1, .ref xa3, .ref xa15, .ref xa27, .ref xa28, .ref xa33, .ref xa38, .ref xa41, .ref xa45, .ref xa46, .ref xa47, .ref xa52, .ref xa54, .int 0, .ref xa55, .ref xa60, .ref xa62, .ref xa67, .int (-1)])), (ou, .inl (kJ, 1, .inr (.inl fo)))] H := hP
    have hD : va_D A [(h0, .inr (10, [.ref xa1, .ref xa3, .ref xa15, .ref xa27, .ref xa28, .ref xa33, .ref xa38, .ref xa41, .ref xa45, .ref xa46, .ref xa47, .ref xa52, .ref xa54, .int 0, .ref xa55, .ref xa60, .ref xa62, .ref xa67, .int (-1)])), (ou, .inl (kJ, 1, .inr (.inl fo)))] := hD
    have htab := vx_table B (hts (.codeWith yL_years cL_years 6 (some .int) [(0, 12, 15, 18), (0, 12, 19, 13)]) (List.mem_of_getElem? (i := 0) (by decide +kernel)))
    refine vx_catch (name := "java/lang/IllegalArgumentException") hown [⟨0, 12, 15, 18⟩] ⟨0, 12, 19, 13⟩ [] (htab.trans rfl) (fun z h => by obtain rfl := List.mem_singleton.mp h; exact Or.inr ⟨by decide, "java/util/NoSuchElementException", (hts (.classLink RL 18 "java/util/NoSuchElementException") (List.mem_of_getElem? (i := 1) (by decide +kernel))), hNc⟩) rfl (by decide) (hts (.classLink RL 13 "java/lang/IllegalArgumentException") (List.mem_of_getElem? (i := 2) (by decide +kernel))) (va_Nw.use rfl hXs.2.1) hc9 hv9 hcl9 ?_
    refine W.widen (k := 1) (n := 6) (Nat.le_of_ble_eq_true rfl) (Nat.le_of_ble_eq_true rfl) ?_
    refine W.eq (g2 := F0 m 19 ls [.ref q9]) rfl ?_
    refine lv_astore (lv' := [(5, .ref q9), (0, .ref h0), (1, .int p0), (2, .int p1), (3, .int p2), (4, .ref ou)]) hx hb dL_years_19 hl (by decide) rfl (fun ls hl => ?_)
    refine lv_iconst (v := 2) hx hb dL_years_21 (by decide) ?_
    have hP9 := hP.sub (ws' := [(ou, .inl (kJ, 1, .inr (.inl fo)))]) [1] rfl
    have hD9 := hD.sub (ws' := [(ou, .inl (kJ, 1, .inr (.inl fo)))]) [1] (by decide) rfl
    exact W.iret (v := 2) hx hb hr (fun t ht hW => ⟨⟨2, (), rfl, rfl, by rw [ht]; exact hP9, hD9⟩, hS.F ht⟩) hS.2.2 dL_years_22
  · exact w2.elim
def rm_kL10_missing_nlo : Room := { frames := 7, cells := 1, slots := 6, locals := 104 }
set_option maxHeartbeats 4000000 in
set_option maxRecDepth 100000 in
theorem kL10_missing_nlo (l : Launch) (hst : l.stackTraces = false) (dC : Nat → ClassId) (dI : Nat → Nat → Nat) (kB kI kJ kZ kC kS : ClassId) (sz : Nat) (h0 : Nat) (xa1 : Nat) (xa3 : Nat) (xa15 : Nat) (xa27 : Nat) (xa28 : Nat) (xa33 : Nat) (xa38 : Nat) (xa41 : Nat) (xa45 : Nat) (xa46 : Nat) (xa47 : Nat) (xa52 : Nat) (xa54 : Nat) (xa55 : Nat) (xa60 : Nat) (xa62 : Nat) (xa67 : Nat) (p0 : Int32) (p1 : Int32) (ou : Nat) (fo : Nat → Int64) (hc0 : p0 < 0) : Met l yL_missing wsL_missing rm_kL10_missing_nlo (va_Pc [.ref h0, .int p0, .int p1, .ref ou] (fun U => U.heap.size = sz ∧ va_P (dC, dI) vwCl [(h0, .inr (10, [.ref xa1, .ref xa3, .ref xa15, .ref xa27, .ref xa28, .ref xa33, .ref xa38, .ref xa41, .ref xa45, .ref xa46, .ref xa47, .ref xa52, .ref xa54, .int 0, .ref xa55, .ref xa60, .ref xa62, .ref xa67, .int (-1)])), (ou, .inl (kJ, 1, .inr (.inl fo)))] U.heap ∧ kE dC dI kB kI kJ kZ kC kS U ∧ va_D (fun _ => True) [(h0, .inr (10, [.ref xa1, .ref xa3, .ref xa15, .ref xa27, .ref xa28, .ref xa33, .ref xa38, .ref xa41, .ref xa45, .ref xa46, .ref xa47, .ref xa52, .ref xa54, .int 0, .ref xa55, .ref xa60, .ref xa62, .ref xa67, .int (-1)])), (ou, .inl (kJ, 1, .inr (.inl fo)))] ∧ kX U ∧ kT (va_A [(h0, .inr (10, [.ref xa1, .ref xa3, .ref xa15, .ref xa27, .ref xa28, .ref xa33, .ref xa38, .ref xa41, .ref xa45, .ref xa46, .ref xa47, .ref xa52, .ref xa54, .int 0, .ref xa55, .ref xa60, .ref xa62, .ref xa67, .int (-1)])), (ou, .inl (kJ, 1, .inr (.inl fo)))] sz) U)) (va_Qi (fun (r : Int32) (_ : Unit) => r = 1) (fun _ t => va_P (dC, dI) vwCl [(ou, .inl (kJ, 1, .inr (.inl fo)))] t.heap ∧ va_D (va_A [(h0, .inr (10, [.ref xa1, .ref xa3, .ref xa15, .ref xa27, .ref xa28, .ref xa33, .ref xa38, .ref xa41, .ref xa45, .ref xa46, .ref xa47, .ref xa52, .ref xa54, .int 0, .ref xa55, .ref xa60, .ref xa62, .ref xa67, .int (-1)])), (ou, .inl (kJ, 1, .inr (.inl fo)))] sz) [(ou, .inl (kJ, 1, .inr (.inl fo)))]) (va_A [(h0, .inr (10, [.ref xa1, .ref xa3, .ref xa15, .ref xa27, .ref xa28, .ref xa33, .ref xa38, .ref xa41, .ref xa45, .ref xa46, .ref xa47, .ref xa52, .ref xa54, .int 0, .ref xa55, .ref xa60, .ref xa62, .ref xa67, .int (-1)])), (ou, .inl (kJ, 1, .inr (.inl fo)))] sz)) 1 6 (va_A [(h0, .inr (10, [.ref xa1, .ref xa3, .ref xa15, .ref xa27, .ref xa28, .ref xa33, .ref xa38, .ref xa41, .ref xa45, .ref xa46, .ref xa47, .ref xa52, .ref xa54, .int 0, .ref xa55, .ref xa60, .ref xa62, .ref xa67, .int (-1)])), (ou, .inl (kJ, 1, .inr (.inl fo)))] sz) := by
  refine va_MetW (cc := cL_missing) (maxL := 5) (ret := (some .int)) (by decide) rfl ?_
  intro p e s m args0 below meth c s₁ B hml hv
  obtain ⟨hargs, hsz, hP, hE, hD0, hXs, hT⟩ := hv
  have hx := B.exec
  have hb := B.bytes
  have hr := B.returns
  have hts := atoms_spec (ws := wsL_missing) B.pre
  have hown : s.vm.findClass RL = some m.cls := findClass_of_methodNamed B.named
  have hlocks := B.notSynchronized
  have hK := hE.1
  have hin10 : ∀ w ∈ wsX100, w ∈ wsL_missing := fun _ h9 => List.mem_cons_of_mem _ (List.mem_append_left _ (List.mem_append_left _ (List.mem_append_right _ h9)))
  have hin4 : ∀ w ∈ wsX40, w ∈ wsL_missing := fun _ h9 => List.mem_cons_of_mem _ (List.mem_append_left _ (List.mem_append_right _ h9))
  subst hsz
  have hD := hD0.self (sz := s.heap.size)
  generalize hAe : va_A [(h0, .inr (10, [.ref xa1, .ref xa3, .ref xa15, .ref xa27, .ref xa28, .ref xa33, .ref xa38, .ref xa41, .ref xa45, .ref xa46, .ref xa47, .ref xa52, .ref xa54, .int 0, .ref xa55, .ref xa60, .ref xa62, .ref xa67, .int (-1)])), (ou, .inl (kJ, 1, .inr (.inl fo)))] s.heap.size = A at hD hT ⊢
  have hA : ∀ q : Nat, s.heap.size ≤ q → A q := fun q h => by rw [← hAe]; exact Or.inr h
  have hS : va_S A s.heap s.heap [] := va_S.rf
  have hP : va_P (dC, dI) vwCl [(h0, .inr (10, [.ref xa1, .ref xa3, .ref xa15, .ref xa27, .ref xa28, .ref xa33, .ref xa38, .ref xa41, .ref xa45, .ref xa46, .ref xa47, .ref xa52, .ref xa54, .int 0, .ref xa55, .ref xa60, .ref xa62, .ref xa67, .int (-1)])), (ou, .inl (kJ, 1, .inr (.inl fo)))] s.heap := hP
  have hl := lv_entry ([.ref h0, .int p0, .int p1, .ref ou]) (n := 5) (Nat.le_of_ble_eq_true rfl)
  have hla : entryFrame m args0 5 = entryFrame m ([.ref h0, .int p0, .int p1, .ref ou] : List Value).toArray 5 := by rw [hargs]
  rw [hla, lg_entry_eq]
  generalize (lg_sl ([.ref h0, .int p0, .int p1, .ref ou]) ++ List.replicate (5 - (lg_sl ([.ref h0, .int p0, .int p1, .ref ou])).length) Slot.unset).toArray = ls at hl ⊢
  have hl : lv_has ls 5 [(0, .ref h0), (1, .int p0), (2, .int p1), (3, .ref ou)] := hl
  refine lv_aload_n hx hb dL_missing_0 rfl (lv_at hl 3 rfl) ?_
  refine lv_iconst (v := 0) hx hb dL_missing_1 (by decide) ?_
  refine lv_aload_n hx hb dL_missing_2 rfl (lv_at hl 0 rfl) ?_
  refine lv_iload_n hx hb dL_missing_3 rfl (lv_at hl 1 rfl) ?_
  refine lv_iload_n hx hb dL_missing_4 rfl (lv_at hl 2 rfl) ?_
  have hPc := hP.sub (ws' := []) [] rfl
  have hDc := hD.sub (ws' := []) [] (by decide) rfl
  have hFc := va_free (wc := []) hD hS hA [] rfl
  refine vx_calll (vx_runV (As := [.int p0, .int p1]) (rest := [.int 0, .ref ou]) ⟨hx, hb, hml, hown, hts⟩ (k10_missing_nlo l hst dC dI kB kI kJ kZ kC kS s.heap.size h0 p0 p1 (by have hhc0 := hc0; simp only [Int32.lt_iff_toInt_lt, Int32.le_iff_toInt_le, ← Int32.toInt_inj, (by decide : (0 : Int32).toInt = 0)] at hhc0 ⊢; omega)) (cwV 2 hts gL_missing_X10_missing rfl rfl rfl (by decide +kernel) ⟨Nat.le_of_ble_eq_true rfl, Nat.le_of_ble_eq_true rfl⟩) ⟨fun a U g mk q => by obtain ⟨q0, q1, qP, qE, qD, qX, qT⟩ := q; exact ⟨q0, q1, qP, kE_call qE, qD, kX_call qX, kT_call qT⟩, va_recv hK hP (ci := 10) (q0 := 0) rfl rfl, fun U hU hW => ⟨rfl, by rw [hU], by rw [hU]; exact hPc, kE_warm hW hE, hDc.weaken (fun _ _ _ _ => trivial), kX_warm hW hXs, kT_at hT hS hFc hW hU⟩⟩ rfl rfl hl.1 rfl (lv_room (Nat.le_of_ble_eq_true rfl)) dL_missing_5 ⟨Nat.le_of_ble_eq_true rfl, Nat.le_of_ble_eq_true rfl⟩) hS (fun q _ h => hFc q h) hFc (fun q _ h => hFc q h) (fun E ce q9 u t H1 locs ht hvm hpx hBX hz1 hk1 hS hc9 hv9 hcl9 => ?_) (fun r1 u t H1 locs ht hvm w2 hB hz1 hk1 hS => ?_)
  · subst hBX
    have hP1 : va_P (dC, dI) vwCl [] H1 := fun k q h => by simp at h
    have hD1 : va_D (va_A [] s.heap.size) [] := ⟨fun i j p q h => by simp at h, fun k q h => by simp at h⟩
    obtain ⟨hP, hD⟩ := va_join (wr := [(h0, .inr (10, [.ref xa1, .ref xa3, .ref xa15, .ref xa27, .ref xa28, .ref xa33, .ref xa38, .ref xa41, .ref xa45, .ref xa46, .ref xa47, .ref xa52, .ref xa54, .int 0, .ref xa55, .ref xa60, .ref xa62, .ref xa67, .int (-1)])), (ou, .inl (kJ, 1, .inr (.inl fo)))]) (w1 := []) hP hD [] [0, 1] rfl rfl (by decide) (by decide) hk1 hFc hP1 hD1
    generalize H1 = H at hP hS hc9 ⊢
    have hP : va_P (dC, dI) vwCl [(h0, .inr (10, [.ref xa1, .ref xa3, .ref xa15, .ref xa27, .ref xa28, .ref xa33, .ref xa38, .ref xa41, .ref xa45, .ref xa46, .ref xa47, .ref xa52, .ref xa54, .int 0, .ref xa55, .ref xa60, .ref xa62, .ref xa67, .int (-1)])), (ou, .inl (kJ, 1, .inr (.inl fo)))] H := hP
    have hD : va_D A [(h0, .inr (10, [.ref xa1, .ref xa3, .ref xa15, .ref xa27, .ref xa28, .ref xa33, .ref xa38, .ref xa41, .ref xa45, .ref xa46, .ref xa47, .ref xa52, .ref xa54, .int 0, .ref xa55, .ref xa60, .ref xa62, .ref xa67, .int (-1)])), (ou, .inl (kJ, 1, .inr (.inl fo)))] := hD
    have htab := vx_table B (hts (.codeWith yL_missing cL_missing 5 (some .int) [(0, 9, 12, 13)]) (List.mem_of_getElem? (i := 0) (by decide +kernel)))
    refine vx_catch (name := "java/lang/IllegalArgumentException") hown [] ⟨0, 9, 12, 13⟩ [] (htab.trans rfl) (fun z h => absurd h List.not_mem_nil) rfl (by decide) (hts (.classLink RL 13 "java/lang/IllegalArgumentException") (List.mem_of_getElem? (i := 1) (by decide +kernel))) (va_Nw.use rfl hXs.2.1) hc9 hv9 hcl9 ?_
    refine W.widen (k := 1) (n := 6) (Nat.le_of_ble_eq_true rfl) (Nat.le_of_ble_eq_true rfl) ?_
    refine W.eq (g2 := F0 m 12 ls [.ref q9]) rfl ?_
    refine lv_astore (lv' := [(4, .ref q9), (0, .ref h0), (1, .int p0), (2, .int p1), (3, .ref ou)]) hx hb dL_missing_12 hl (by decide) rfl (fun ls hl => ?_)
    refine lv_iconst (v := 1) hx hb dL_missing_14 (by decide) ?_
    have hP9 := hP.sub (ws' := [(ou, .inl (kJ, 1, .inr (.inl fo)))]) [1] rfl
    have hD9 := hD.sub (ws' := [(ou, .inl (kJ, 1, .inr (.inl fo)))]) [1] (by decide) rfl
    exact W.iret (v := 1) hx hb hr (fun t ht hW => ⟨⟨1, (), rfl, rfl, by rw [ht]; exact hP9, hD9⟩, hS.F ht⟩) hS.2.2 dL_missing_15
  · exact w2.elim
def rm_kL10_missing_nhi : Room := { frames := 7, cells := 1, slots := 6, locals := 104 }
set_option maxHeartbeats 4000000 in
set_option maxRecDepth 100000 in
theorem kL10_missing_nhi (l : Launch) (hst : l.stackTraces = false) (dC : Nat → ClassId) (dI : Nat → Nat → Nat) (kB kI kJ kZ kC kS : ClassId) (sz : Nat) (h0 : Nat) (xa1 : Nat) (xa3 : Nat) (xa15 : Nat) (xa27 : Nat) (xa28 : Nat) (xa33 : Nat) (xa38 : Nat) (xa41 : Nat) (xa45 : Nat) (xa46 : Nat) (xa47 : Nat) (xa52 : Nat) (xa54 : Nat) (xa55 : Nat) (xa60 : Nat) (xa62 : Nat) (xa67 : Nat) (p0 : Int32) (p1 : Int32) (ou : Nat) (fo : Nat → Int64) (hc0 : 60 < p0) : Met l yL_missing wsL_missing rm_kL10_missing_nhi (va_Pc [.ref h0, .int p0, .int p1, .ref ou] (fun U => U.heap.size = sz ∧ va_P (dC, dI) vwCl [(h0, .inr (10, [.ref xa1, .ref xa3, .ref xa15, .ref xa27, .ref xa28, .ref xa33, .ref xa38, .ref xa41, .ref xa45, .ref xa46, .ref xa47, .ref xa52, .ref xa54, .int 0, .ref xa55, .ref xa60, .ref xa62, .ref xa67, .int (-1)])), (ou, .inl (kJ, 1, .inr (.inl fo)))] U.heap ∧ kE dC dI kB kI kJ kZ kC kS U ∧ va_D (fun _ => True) [(h0, .inr (10, [.ref xa1, .ref xa3, .ref xa15, .ref xa27, .ref xa28, .ref xa33, .ref xa38, .ref xa41, .ref xa45, .ref xa46, .ref xa47, .ref xa52, .ref xa54, .int 0, .ref xa55, .ref xa60, .ref xa62, .ref xa67, .int (-1)])), (ou, .inl (kJ, 1, .inr (.inl fo)))] ∧ kX U ∧ kT (va_A [(h0, .inr (10, [.ref xa1, .ref xa3, .ref xa15, .ref xa27, .ref xa28, .ref xa33, .ref xa38, .ref xa41, .ref xa45, .ref xa46, .ref xa47, .ref xa52, .ref xa54, .int 0, .ref xa55, .ref xa60, .ref xa62, .ref xa67, .int (-1)])), (ou, .inl (kJ, 1, .inr (.inl fo)))] sz) U)) (va_Qi (fun (r : Int32) (_ : Unit) => r = 1) (fun _ t => va_P (dC, dI) vwCl [(ou, .inl (kJ, 1, .inr (.inl fo)))] t.heap ∧ va_D (va_A [(h0, .inr (10, [.ref xa1, .ref xa3, .ref xa15, .ref xa27, .ref xa28, .ref xa33, .ref xa38, .ref xa41, .ref xa45, .ref xa46, .ref xa47, .ref xa52, .ref xa54, .int 0, .ref xa55, .ref xa60, .ref xa62, .ref xa67, .int (-1)])), (ou, .inl (kJ, 1, .inr (.inl fo)))] sz) [(ou, .inl (kJ, 1, .inr (.inl fo)))]) (va_A [(h0, .inr (10, [.ref xa1, .ref xa3, .ref xa15, .ref xa27, .ref xa28, .ref xa33, .ref xa38, .ref xa41, .ref xa45, .ref xa46, .ref xa47, .ref xa52, .ref xa54, .int 0, .ref xa55, .ref xa60, .ref xa62, .ref xa67, .int (-1)])), (ou, .inl (kJ, 1, .inr (.inl fo)))] sz)) 1 6 (va_A [(h0, .inr (10, [.ref xa1, .ref xa3, .ref xa15, .ref xa27, .ref xa28, .ref xa33, .ref xa38, .ref xa41, .ref xa45, .ref xa46, .ref xa47, .ref xa52, .ref xa54, .int 0, .ref xa55, .ref xa60, .ref xa62, .ref xa67, .int (-1)])), (ou, .inl (kJ, 1, .inr (.inl fo)))] sz) := by
  refine va_MetW (cc := cL_missing) (maxL := 5) (ret := (some .int)) (by decide) rfl ?_
  intro p e s m args0 below meth c s₁ B hml hv
  obtain ⟨hargs, hsz, hP, hE, hD0, hXs, hT⟩ := hv
  have hx := B.exec
  have hb := B.bytes
  have hr := B.returns
  have hts := atoms_spec (ws := wsL_missing) B.pre
  have hown : s.vm.findClass RL = some m.cls := findClass_of_methodNamed B.named
  have hlocks := B.notSynchronized
  have hK := hE.1
  have hin10 : ∀ w ∈ wsX100, w ∈ wsL_missing := fun _ h9 => List.mem_cons_of_mem _ (List.mem_append_left _ (List.mem_append_left _ (List.mem_append_right _ h9)))
  have hin4 : ∀ w ∈ wsX40, w ∈ wsL_missing := fun _ h9 => List.mem_cons_of_mem _ (List.mem_append_left _ (List.mem_append_right _ h9))
  subst hsz
  have hD := hD0.self (sz := s.heap.size)
  generalize hAe : va_A [(h0, .inr (10, [.ref xa1, .ref xa3, .ref xa15, .ref xa27, .ref xa28, .ref xa33, .ref xa38, .ref xa41, .ref xa45, .ref xa46, .ref xa47, .ref xa52, .ref xa54, .int 0, .ref xa55, .ref xa60, .ref xa62, .ref xa67, .int (-1)])), (ou, .inl (kJ, 1, .inr (.inl fo)))] s.heap.size = A at hD hT ⊢
  have hA : ∀ q : Nat, s.heap.size ≤ q → A q := fun q h => by rw [← hAe]; exact Or.inr h
  have hS : va_S A s.heap s.heap [] := va_S.rf
  have hP : va_P (dC, dI) vwCl [(h0, .inr (10, [.ref xa1, .ref xa3, .ref xa15, .ref xa27, .ref xa28, .ref xa33, .ref xa38, .ref xa41, .ref xa45, .ref xa46, .ref xa47, .ref xa52, .ref xa54, .int 0, .ref xa55, .ref xa60, .ref xa62, .ref xa67, .int (-1)])), (ou, .inl (kJ, 1, .inr (.inl fo)))] s.heap := hP
  have hl := lv_entry ([.ref h0, .int p0, .int p1, .ref ou]) (n := 5) (Nat.le_of_ble_eq_true rfl)
  have hla : entryFrame m args0 5 = entryFrame m ([.ref h0, .int p0, .int p1, .ref ou] : List Value).toArray 5 := by rw [hargs]
  rw [hla, lg_entry_eq]
  generalize (lg_sl ([.ref h0, .int p0, .int p1, .ref ou]) ++ List.replicate (5 - (lg_sl ([.ref h0, .int p0, .int p1, .ref ou])).length) Slot.unset).toArray = ls at hl ⊢
  have hl : lv_has ls 5 [(0, .ref h0), (1, .int p0), (2, .int p1), (3, .ref ou)] := hl
  refine lv_aload_n hx hb dL_missing_0 rfl (lv_at hl 3 rfl) ?_
  refine lv_iconst (v := 0) hx hb dL_missing_1 (by decide) ?_
  refine lv_aload_n hx hb dL_missing_2 rfl (lv_at hl 0 rfl) ?_
  refine lv_iload_n hx hb dL_missing_3 rfl (lv_at hl 1 rfl) ?_
  refine lv_iload_n hx hb dL_missing_4 rfl (lv_at hl 2 rfl) ?_
  have hPc := hP.sub (ws' := []) [] rfl
  have hDc := hD.sub (ws' := []) [] (by decide) rfl
  have hFc := va_free (wc := []) hD hS hA [] rfl
  refine vx_calll (vx_runV (As := [.int p0, .int p1]) (rest := [.int 0, .ref ou]) ⟨hx, hb, hml, hown, hts⟩ (k10_missing_nhi l hst dC dI kB kI kJ kZ kC kS s.heap.size h0 p0 p1 (by have hhc0 := hc0; simp only [Int32.lt_iff_toInt_lt, Int32.le_iff_toInt_le, ← Int32.toInt_inj, (by decide : (0 : Int32).toInt = 0), (by decide : (60 : Int32).toInt = 60)] at hhc0 ⊢; omega)) (cwV 2 hts gL_missing_X10_missing rfl rfl rfl (by decide +kernel) ⟨Nat.le_of_ble_eq_true rfl, Nat.le_of_ble_eq_true rfl⟩) ⟨fun a U g mk q => by obtain ⟨q0, q1, qP, qE, qD, qX, qT⟩ := q; exact ⟨q0, q1, qP, kE_call qE, qD, kX_call qX, kT_call qT⟩, va_recv hK hP (ci := 10) (q0 := 0) rfl rfl, fun U hU hW => ⟨rfl, by rw [hU], by rw [hU]; exact hPc, kE_warm hW hE, hDc.weaken (fun _ _ _ _ => trivial), kX_warm hW hXs, kT_at hT hS hFc hW hU⟩⟩ rfl rfl hl.1 rfl (lv_room (Nat.le_of_ble_eq_true rfl)) dL_missing_5 ⟨Nat.le_of_ble_eq_true rfl, Nat.le_of_ble_eq_true rfl⟩) hS (fun q _ h => hFc q h) hFc (fun q _ h => hFc q h) (fun E ce q9 u t H1 locs ht hvm hpx hBX hz1 hk1 hS hc9 hv9 hcl9 => ?_) (fun r1 u t H1 locs ht hvm w2 hB hz1 hk1 hS => ?_)
  · subst hBX
    have hP1 : va_P (dC, dI) vwCl [] H1 := fun k q h => by simp at h
    have hD1 : va_D (va_A [] s.heap.size) [] := ⟨fun i j p q h => by simp at h, fun k q h => by simp at h⟩
    obtain ⟨hP, hD⟩ := va_join (wr := [(h0, .inr (10, [.ref xa1, .ref xa3, .ref xa15, .ref xa27, .ref xa28, .ref xa33, .ref xa38, .ref xa41, .ref xa45, .ref xa46, .ref xa47, .ref xa52, .ref xa54, .int 0, .ref xa55, .ref xa60, .ref xa62, .ref xa67, .int (-1)])), (ou, .inl (kJ, 1, .inr (.inl fo)))]) (w1 := []) hP hD [] [0, 1] rfl rfl (by decide) (by decide) hk1 hFc hP1 hD1
    generalize H1 = H at hP hS hc9 ⊢
    have hP : va_P (dC, dI) vwCl [(h0, .inr (10, [.ref xa1, .ref xa3, .ref xa15, .ref xa27, .ref xa28, .ref xa33, .ref xa38, .ref xa41, .ref xa45, .ref xa46, .ref xa47, .ref xa52, .ref xa54, .int 0, .ref xa55, .ref xa60, .ref xa62, .ref xa67, .int (-1)])), (ou, .inl (kJ, 1, .inr (.inl fo)))] H := hP
    have hD : va_D A [(h0, .inr (10, [.ref xa1, .ref xa3, .ref xa15, .ref xa27, .ref xa28, .ref xa33, .ref xa38, .ref xa41, .ref xa45, .ref xa46, .ref xa47, .ref xa52, .ref xa54, .int 0, .ref xa55, .ref xa60, .ref xa62, .ref xa67, .int (-1)])), (ou, .inl (kJ, 1, .inr (.inl fo)))] := hD
    have htab := vx_table B (hts (.codeWith yL_missing cL_missing 5 (some .int) [(0, 9, 12, 13)]) (List.mem_of_getElem? (i := 0) (by decide +kernel)))
    refine vx_catch (name := "java/lang/IllegalArgumentException") hown [] ⟨0, 9, 12, 13⟩ [] (htab.trans rfl) (fun z h => absurd h List.not_mem_nil) rfl (by decide) (hts (.classLink RL 13 "java/lang/IllegalArgumentException") (List.mem_of_getElem? (i := 1) (by decide +kernel))) (va_Nw.use rfl hXs.2.1) hc9 hv9 hcl9 ?_
    refine W.widen (k := 1) (n := 6) (Nat.le_of_ble_eq_true rfl) (Nat.le_of_ble_eq_true rfl) ?_
    refine W.eq (g2 := F0 m 12 ls [.ref q9]) rfl ?_
    refine lv_astore (lv' := [(4, .ref q9), (0, .ref h0), (1, .int p0), (2, .int p1), (3, .ref ou)]) hx hb dL_missing_12 hl (by decide) rfl (fun ls hl => ?_)
    refine lv_iconst (v := 1) hx hb dL_missing_14 (by decide) ?_
    have hP9 := hP.sub (ws' := [(ou, .inl (kJ, 1, .inr (.inl fo)))]) [1] rfl
    have hD9 := hD.sub (ws' := [(ou, .inl (kJ, 1, .inr (.inl fo)))]) [1] (by decide) rfl
    exact W.iret (v := 1) hx hb hr (fun t ht hW => ⟨⟨1, (), rfl, rfl, by rw [ht]; exact hP9, hD9⟩, hS.F ht⟩) hS.2.2 dL_missing_15
  · exact w2.elim
def rm_kL10_missing_mlo : Room := { frames := 7, cells := 1, slots := 6, locals := 104 }
set_option maxHeartbeats 4000000 in
set_option maxRecDepth 100000 in
theorem kL10_missing_mlo (l : Launch) (hst : l.stackTraces = false) (dC : Nat → ClassId) (dI : Nat → Nat → Nat) (kB kI kJ kZ kC kS : ClassId) (sz : Nat) (h0 : Nat) (xa1 : Nat) (xa3 : Nat) (xa15 : Nat) (xa27 : Nat) (xa28 : Nat) (xa33 : Nat) (xa38 : Nat) (xa41 : Nat) (xa45 : Nat) (xa46 : Nat) (xa47 : Nat) (xa52 : Nat) (xa54 : Nat) (xa55 : Nat) (xa60 : Nat) (xa62 : Nat) (xa67 : Nat) (p0 : Int32) (p1 : Int32) (ou : Nat) (fo : Nat → Int64) (hc0 : p1 < 1) : Met l yL_missing wsL_missing rm_kL10_missing_mlo (va_Pc [.ref h0, .int p0, .int p1, .ref ou] (fun U => U.heap.size = sz ∧ va_P (dC, dI) vwCl [(h0, .inr (10, [.ref xa1, .ref xa3, .ref xa15, .ref xa27, .ref xa28, .ref xa33, .ref xa38, .ref xa41, .ref xa45, .ref xa46, .ref xa47, .ref xa52, .ref xa54, .int 0, .ref xa55, .ref xa60, .ref xa62, .ref xa67, .int (-1)])), (ou, .inl (kJ, 1, .inr (.inl fo)))] U.heap ∧ kE dC dI kB kI kJ kZ kC kS U ∧ va_D (fun _ => True) [(h0, .inr (10, [.ref xa1, .ref xa3, .ref xa15, .ref xa27, .ref xa28, .ref xa33, .ref xa38, .ref xa41, .ref xa45, .ref xa46, .ref xa47, .ref xa52, .ref xa54, .int 0, .ref xa55, .ref xa60, .ref xa62, .ref xa67, .int (-1)])), (ou, .inl (kJ, 1, .inr (.inl fo)))] ∧ kX U ∧ kT (va_A [(h0, .inr (10, [.ref xa1, .ref xa3, .ref xa15, .ref xa27, .ref xa28, .ref xa33, .ref xa38, .ref xa41, .ref xa45, .ref xa46, .ref xa47, .ref xa52, .ref xa54, .int 0, .ref xa55, .ref xa60, .ref xa62, .ref xa67, .int (-1)])), (ou, .inl (kJ, 1, .inr (.inl fo)))] sz) U)) (va_Qi (fun (r : Int32) (_ : Unit) => r = 1) (fun _ t => va_P (dC, dI) vwCl [(ou, .inl (kJ, 1, .inr (.inl fo)))] t.heap ∧ va_D (va_A [(h0, .inr (10, [.ref xa1, .ref xa3, .ref xa15, .ref xa27, .ref xa28, .ref xa33, .ref xa38, .ref xa41, .ref xa45, .ref xa46, .ref xa47, .ref xa52, .ref xa54, .int 0, .ref xa55, .ref xa60, .ref xa62, .ref xa67, .int (-1)])), (ou, .inl (kJ, 1, .inr (.inl fo)))] sz) [(ou, .inl (kJ, 1, .inr (.inl fo)))]) (va_A [(h0, .inr (10, [.ref xa1, .ref xa3, .ref xa15, .ref xa27, .ref xa28, .ref xa33, .ref xa38, .ref xa41, .ref xa45, .ref xa46, .ref xa47, .ref xa52, .ref xa54, .int 0, .ref xa55, .ref xa60, .ref xa62, .ref xa67, .int (-1)])), (ou, .inl (kJ, 1, .inr (.inl fo)))] sz)) 1 6 (va_A [(h0, .inr (10, [.ref xa1, .ref xa3, .ref xa15, .ref xa27, .ref xa28, .ref xa33, .ref xa38, .ref xa41, .ref xa45, .ref xa46, .ref xa47, .ref xa52, .ref xa54, .int 0, .ref xa55, .ref xa60, .ref xa62, .ref xa67, .int (-1)])), (ou, .inl (kJ, 1, .inr (.inl fo)))] sz) := by
  refine va_MetW (cc := cL_missing) (maxL := 5) (ret := (some .int)) (by decide) rfl ?_
  intro p e s m args0 below meth c s₁ B hml hv
  obtain ⟨hargs, hsz, hP, hE, hD0, hXs, hT⟩ := hv
  have hx := B.exec
  have hb := B.bytes
  have hr := B.returns
  have hts := atoms_spec (ws := wsL_missing) B.pre
  have hown : s.vm.findClass RL = some m.cls := findClass_of_methodNamed B.named
  have hlocks := B.notSynchronized
  have hK := hE.1
  have hin10 : ∀ w ∈ wsX100, w ∈ wsL_missing := fun _ h9 => List.mem_cons_of_mem _ (List.mem_append_left _ (List.mem_append_left _ (List.mem_append_right _ h9)))
  have hin4 : ∀ w ∈ wsX40, w ∈ wsL_missing := fun _ h9 => List.mem_cons_of_mem _ (List.mem_append_left _ (List.mem_append_right _ h9))
  subst hsz
  have hD := hD0.self (sz := s.heap.size)
  generalize hAe : va_A [(h0, .inr (10, [.ref xa1, .ref xa3, .ref xa15, .ref xa27, .ref xa28, .ref xa33, .ref xa38, .ref xa41, .ref xa45, .ref xa46, .ref xa47, .ref xa52, .ref xa54, .int 0, .ref xa55, .ref xa60, .ref xa62, .ref xa67, .int (-1)])), (ou, .inl (kJ, 1, .inr (.inl fo)))] s.heap.size = A at hD hT ⊢
  have hA : ∀ q : Nat, s.heap.size ≤ q → A q := fun q h => by rw [← hAe]; exact Or.inr h
  have hS : va_S A s.heap s.heap [] := va_S.rf
  have hP : va_P (dC, dI) vwCl [(h0, .inr (10, [.ref xa1, .ref xa3, .ref xa15, .ref xa27, .ref xa28, .ref xa33, .ref xa38, .ref xa41, .ref xa45, .ref xa46, .ref xa47, .ref xa52, .ref xa54, .int 0, .ref xa55, .ref xa60, .ref xa62, .ref xa67, .int (-1)])), (ou, .inl (kJ, 1, .inr (.inl fo)))] s.heap := hP
  have hl := lv_entry ([.ref h0, .int p0, .int p1, .ref ou]) (n := 5) (Nat.le_of_ble_eq_true rfl)
  have hla : entryFrame m args0 5 = entryFrame m ([.ref h0, .int p0, .int p1, .ref ou] : List Value).toArray 5 := by rw [hargs]
  rw [hla, lg_entry_eq]
  generalize (lg_sl ([.ref h0, .int p0, .int p1, .ref ou]) ++ List.replicate (5 - (lg_sl ([.ref h0, .int p0, .int p1, .ref ou])).length) Slot.unset).toArray = ls at hl ⊢
  have hl : lv_has ls 5 [(0, .ref h0), (1, .int p0), (2, .int p1), (3, .ref ou)] := hl
  refine lv_aload_n hx hb dL_missing_0 rfl (lv_at hl 3 rfl) ?_
  refine lv_iconst (v := 0) hx hb dL_missing_1 (by decide) ?_
  refine lv_aload_n hx hb dL_missing_2 rfl (lv_at hl 0 rfl) ?_
  refine lv_iload_n hx hb dL_missing_3 rfl (lv_at hl 1 rfl) ?_
  refine lv_iload_n hx hb dL_missing_4 rfl (lv_at hl 2 rfl) ?_
  have hPc := hP.sub (ws' := []) [] rfl
  have hDc := hD.sub (ws' := []) [] (by decide) rfl
  have hFc := va_free (wc := []) hD hS hA [] rfl
  refine vx_calll (vx_runV (As := [.int p0, .int p1]) (rest := [.int 0, .ref ou]) ⟨hx, hb, hml, hown, hts⟩ (k10_missing_mlo l hst dC dI kB kI kJ kZ kC kS s.heap.size h0 p0 p1 (by have hhc0 := hc0; simp only [Int32.lt_iff_toInt_lt, Int32.le_iff_toInt_le, ← Int32.toInt_inj, (by decide : (0 : Int32).toInt = 0), (by decide : (1 : Int32).toInt = 1)] at hhc0 ⊢; omega)) (cwV 2 hts gL_missing_X10_missing rfl rfl rfl (by decide +kernel) ⟨Nat.le_of_ble_eq_true rfl, Nat.le_of_ble_eq_true rfl⟩) ⟨fun a U g mk q => by obtain ⟨q0, q1, qP, qE, qD, qX, qT⟩ := q; exact ⟨q0, q1, qP, kE_call qE, qD, kX_call qX, kT_call qT⟩, va_recv hK hP (ci := 10) (q0 := 0) rfl rfl, fun U hU hW => ⟨rfl, by rw [hU], by rw [hU]; exact hPc, kE_warm hW hE, hDc.weaken (fun _ _ _ _ => trivial), kX_warm hW hXs, kT_at hT hS hFc hW hU⟩⟩ rfl rfl hl.1 rfl (lv_room (Nat.le_of_ble_eq_true rfl)) dL_missing_5 ⟨Nat.le_of_ble_eq_true rfl, Nat.le_of_ble_eq_true rfl⟩) hS (fun q _ h => hFc q h) hFc (fun q _ h => hFc q h) (fun E ce q9 u t H1 locs ht hvm hpx hBX hz1 hk1 hS hc9 hv9 hcl9 => ?_) (fun r1 u t H1 locs ht hvm w2 hB hz1 hk1 hS => ?_)
  · subst hBX
    have hP1 : va_P (dC, dI) vwCl [] H1 := fun k q h => by simp at h
    have hD1 : va_D (va_A [] s.heap.size) [] := ⟨fun i j p q h => by simp at h, fun k q h => by simp at h⟩
    obtain ⟨hP, hD⟩ := va_join (wr := [(h0, .inr (10, [.ref xa1, .ref xa3, .ref xa15, .ref xa27, .ref xa28, .ref xa33, .ref xa38, .ref xa41, .ref xa45, .ref xa46, .ref xa47, .ref xa52, .ref xa54, .int 0, .ref xa55, .ref xa60, .ref xa62, .ref xa67, .int (-1)])), (ou, .inl (kJ, 1, .inr (.inl fo)))]) (w1 := []) hP hD [] [0, 1] rfl rfl (by decide) (by decide) hk1 hFc hP1 hD1
    generalize H1 = H at hP hS hc9 ⊢
    have hP : va_P (dC, dI) vwCl [(h0, .inr (10, [.ref xa1, .ref xa3, .ref xa15, .ref xa27, .ref xa28, .ref xa33, .ref xa38, .ref xa41, .ref xa45, .ref xa46, .ref xa47, .ref xa52, .ref xa54, .int 0, .ref xa55, .ref xa60, .ref xa62, .ref xa67, .int (-1)])), (ou, .inl (kJ, 1, .inr (.inl fo)))] H := hP
    have hD : va_D A [(h0, .inr (10, [.ref xa1, .ref xa3, .ref xa15, .ref xa27, .ref xa28, .ref xa33, .ref xa38, .ref xa41, .ref xa45, .ref xa46, .ref xa47, .ref xa52, .ref xa54, .int 0, .ref xa55, .ref xa60, .ref xa62, .ref xa67, .int (-1)])), (ou, .inl (kJ, 1, .inr (.inl fo)))] := hD
    have htab := vx_table B (hts (.codeWith yL_missing cL_missing 5 (some .int) [(0, 9, 12, 13)]) (List.mem_of_getElem? (i := 0) (by decide +kernel)))
    refine vx_catch (name := "java/lang/IllegalArgumentException") hown [] ⟨0, 9, 12, 13⟩ [] (htab.trans rfl) (fun z h => absurd h List.not_mem_nil) rfl (by decide) (hts (.classLink RL 13 "java/lang/IllegalArgumentException") (List.mem_of_getElem? (i := 1) (by decide +kernel))) (va_Nw.use rfl hXs.2.1) hc9 hv9 hcl9 ?_
    refine W.widen (k := 1) (n := 6) (Nat.le_of_ble_eq_true rfl) (Nat.le_of_ble_eq_true rfl) ?_
    refine W.eq (g2 := F0 m 12 ls [.ref q9]) rfl ?_
    refine lv_astore (lv' := [(4, .ref q9), (0, .ref h0), (1, .int p0), (2, .int p1), (3, .ref ou)]) hx hb dL_missing_12 hl (by decide) rfl (fun ls hl => ?_)
    refine lv_iconst (v := 1) hx hb dL_missing_14 (by decide) ?_
    have hP9 := hP.sub (ws' := [(ou, .inl (kJ, 1, .inr (.inl fo)))]) [1] rfl
    have hD9 := hD.sub (ws' := [(ou, .inl (kJ, 1, .inr (.inl fo)))]) [1] (by decide) rfl
    exact W.iret (v := 1) hx hb hr (fun t ht hW => ⟨⟨1, (), rfl, rfl, by rw [ht]; exact hP9, hD9⟩, hS.F ht⟩) hS.2.2 dL_missing_15
  · exact w2.elim
def rm_kL10_missing_mhi : Room := { frames := 7, cells := 1, slots := 6, locals := 104 }
set_option maxHeartbeats 4000000 in
set_option maxRecDepth 100000 in
theorem kL10_missing_mhi (l : Launch) (hst : l.stackTraces = false) (dC : Nat → ClassId) (dI : Nat → Nat → Nat) (kB kI kJ kZ kC kS : ClassId) (sz : Nat) (h0 : Nat) (xa1 : Nat) (xa3 : Nat) (xa15 : Nat) (xa27 : Nat) (xa28 : Nat) (xa33 : Nat) (xa38 : Nat) (xa41 : Nat) (xa45 : Nat) (xa46 : Nat) (xa47 : Nat) (xa52 : Nat) (xa54 : Nat) (xa55 : Nat) (xa60 : Nat) (xa62 : Nat) (xa67 : Nat) (p0 : Int32) (p1 : Int32) (ou : Nat) (fo : Nat → Int64) (hc0 : 5 < p1) : Met l yL_missing wsL_missing rm_kL10_missing_mhi (va_Pc [.ref h0, .int p0, .int p1, .ref ou] (fun U => U.heap.size = sz ∧ va_P (dC, dI) vwCl [(h0, .inr (10, [.ref xa1, .ref xa3, .ref xa15, .ref xa27, .ref xa28, .ref xa33, .ref xa38, .ref xa41, .ref xa45, .ref xa46, .ref xa47, .ref xa52, .ref xa54, .int 0, .ref xa55, .ref xa60, .ref xa62, .ref xa67, .int (-1)])), (ou, .inl (kJ, 1, .inr (.inl fo)))] U.heap ∧ kE dC dI kB kI kJ kZ kC kS U ∧ va_D (fun _ => True) [(h0, .inr (10, [.ref xa1, .ref xa3, .ref xa15, .ref xa27, .ref xa28, .ref xa33, .ref xa38, .ref xa41, .ref xa45, .ref xa46, .ref xa47, .ref xa52, .ref xa54, .int 0, .ref xa55, .ref xa60, .ref xa62, .ref xa67, .int (-1)])), (ou, .inl (kJ, 1, .inr (.inl fo)))] ∧ kX U ∧ kT (va_A [(h0, .inr (10, [.ref xa1, .ref xa3, .ref xa15, .ref xa27, .ref xa28, .ref xa33, .ref xa38, .ref xa41, .ref xa45, .ref xa46, .ref xa47, .ref xa52, .ref xa54, .int 0, .ref xa55, .ref xa60, .ref xa62, .ref xa67, .int (-1)])), (ou, .inl (kJ, 1, .inr (.inl fo)))] sz) U)) (va_Qi (fun (r : Int32) (_ : Unit) => r = 1) (fun _ t => va_P (dC, dI) vwCl [(ou, .inl (kJ, 1, .inr (.inl fo)))] t.heap ∧ va_D (va_A [(h0, .inr (10, [.ref xa1, .ref xa3, .ref xa15, .ref xa27, .ref xa28, .ref xa33, .ref xa38, .ref xa41, .ref xa45, .ref xa46, .ref xa47, .ref xa52, .ref xa54, .int 0, .ref xa55, .ref xa60, .ref xa62, .ref xa67, .int (-1)])), (ou, .inl (kJ, 1, .inr (.inl fo)))] sz) [(ou, .inl (kJ, 1, .inr (.inl fo)))]) (va_A [(h0, .inr (10, [.ref xa1, .ref xa3, .ref xa15, .ref xa27, .ref xa28, .ref xa33, .ref xa38, .ref xa41, .ref xa45, .ref xa46, .ref xa47, .ref xa52, .ref xa54, .int 0, .ref xa55, .ref xa60, .ref xa62, .ref xa67, .int (-1)])), (ou, .inl (kJ, 1, .inr (.inl fo)))] sz)) 1 6 (va_A [(h0, .inr (10, [.ref xa1, .ref xa3, .ref xa15, .ref xa27, .ref xa28, .ref xa33, .ref xa38, .ref xa41, .ref xa45, .ref xa46, .ref xa47, .ref xa52, .ref xa54, .int 0, .ref xa55, .ref xa60, .ref xa62, .ref xa67, .int (-1)])), (ou, .inl (kJ, 1, .inr (.inl fo)))] sz) := by
  refine va_MetW (cc := cL_missing) (maxL := 5) (ret := (some .int)) (by decide) rfl ?_
  intro p e s m args0 below meth c s₁ B hml hv
  obtain ⟨hargs, hsz, hP, hE, hD0, hXs, hT⟩ := hv
  have hx := B.exec
  have hb := B.bytes
  have hr := B.returns
  have hts := atoms_spec (ws := wsL_missing) B.pre
  have hown : s.vm.findClass RL = some m.cls := findClass_of_methodNamed B.named
  have hlocks := B.notSynchronized
  have hK := hE.1
  have hin10 : ∀ w ∈ wsX100, w ∈ wsL_missing := fun _ h9 => List.mem_cons_of_mem _ (List.mem_append_left _ (List.mem_append_left _ (List.mem_append_right _ h9)))
  have hin4 : ∀ w ∈ wsX40, w ∈ wsL_missing := fun _ h9 => List.mem_cons_of_mem _ (List.mem_append_left _ (List.mem_append_right _ h9))
  subst hsz
  have hD := hD0.self (sz := s.heap.size)
  generalize hAe : va_A [(h0, .inr (10, [.ref xa1, .ref xa3, .ref xa15, .ref xa27, .ref xa28, .ref xa33, .ref xa38, .ref xa41, .ref xa45, .ref xa46, .ref xa47, .ref xa52, .ref xa54, .int 0, .ref xa55, .ref xa60, .ref xa62, .ref xa67, .int (-1)])), (ou, .inl (kJ, 1, .inr (.inl fo)))] s.heap.size = A at hD hT ⊢
  have hA : ∀ q : Nat, s.heap.size ≤ q → A q := fun q h => by rw [← hAe]; exact Or.inr h
  have hS : va_S A s.heap s.heap [] := va_S.rf
  have hP : va_P (dC, dI) vwCl [(h0, .inr (10, [.ref xa1, .ref xa3, .ref xa15, .ref xa27, .ref xa28, .ref xa33, .ref xa38, .ref xa41, .ref xa45, .ref xa46, .ref xa47, .ref xa52, .ref xa54, .int 0, .ref xa55, .ref xa60, .ref xa62, .ref xa67, .int (-1)])), (ou, .inl (kJ, 1, .inr (.inl fo)))] s.heap := hP
  have hl := lv_entry ([.ref h0, .int p0, .int p1, .ref ou]) (n := 5) (Nat.le_of_ble_eq_true rfl)
  have hla : entryFrame m args0 5 = entryFrame m ([.ref h0, .int p0, .int p1, .ref ou] : List Value).toArray 5 := by rw [hargs]
  rw [hla, lg_entry_eq]
  generalize (lg_sl ([.ref h0, .int p0, .int p1, .ref ou]) ++ List.replicate (5 - (lg_sl ([.ref h0, .int p0, .int p1, .ref ou])).length) Slot.unset).toArray = ls at hl ⊢
  have hl : lv_has ls 5 [(0, .ref h0), (1, .int p0), (2, .int p1), (3, .ref ou)] := hl
  refine lv_aload_n hx hb dL_missing_0 rfl (lv_at hl 3 rfl) ?_
  refine lv_iconst (v := 0) hx hb dL_missing_1 (by decide) ?_
  refine lv_aload_n hx hb dL_missing_2 rfl (lv_at hl 0 rfl) ?_
  refine lv_iload_n hx hb dL_missing_3 rfl (lv_at hl 1 rfl) ?_
  refine lv_iload_n hx hb dL_missing_4 rfl (lv_at hl 2 rfl) ?_
  have hPc := hP.sub (ws' := []) [] rfl
  have hDc := hD.sub (ws' := []) [] (by decide) rfl
  have hFc := va_free (wc := []) hD hS hA [] rfl
  refine vx_calll (vx_runV (As := [.int p0, .int p1]) (rest := [.int 0, .ref ou]) ⟨hx, hb, hml, hown, hts⟩ (k10_missing_mhi l hst dC dI kB kI kJ kZ kC kS s.heap.size h0 p0 p1 (by have hhc0 := hc0; simp only [Int32.lt_iff_toInt_lt, Int32.le_iff_toInt_le, ← Int32.toInt_inj, (by decide : (0 : Int32).toInt = 0), (by decide : (5 : Int32).toInt = 5)] at hhc0 ⊢; omega)) (cwV 2 hts gL_missing_X10_missing rfl rfl rfl (by decide +kernel) ⟨Nat.le_of_ble_eq_true rfl, Nat.le_of_ble_eq_true rfl⟩) ⟨fun a U g mk q => by obtain ⟨q0, q1, qP, qE, qD, qX, qT⟩ := q; exact ⟨q0, q1, qP, kE_call qE, qD, kX_call qX, kT_call qT⟩, va_recv hK hP (ci := 10) (q0 := 0) rfl rfl, fun U hU hW => ⟨rfl, by rw [hU], by rw [hU]; exact hPc, kE_warm hW hE, hDc.weaken (fun _ _ _ _ => trivial), kX_warm hW hXs, kT_at hT hS hFc hW hU⟩⟩ rfl rfl hl.1 rfl (lv_room (Nat.le_of_ble_eq_true rfl)) dL_missing_5 ⟨Nat.le_of_ble_eq_true rfl, Nat.le_of_ble_eq_true rfl⟩) hS (fun q _ h => hFc q h) hFc (fun q _ h => hFc q h) (fun E ce q9 u t H1 locs ht hvm hpx hBX hz1 hk1 hS hc9 hv9 hcl9 => ?_) (fun r1 u t H1 locs ht hvm w2 hB hz1 hk1 hS => ?_)
  · subst hBX
    have hP1 : va_P (dC, dI) vwCl [] H1 := fun k q h => by simp at h
    have hD1 : va_D (va_A [] s.heap.size) [] := ⟨fun i j p q h => by simp at h, fun k q h => by simp at h⟩
    obtain ⟨hP, hD⟩ := va_join (wr := [(h0, .inr (10, [.ref xa1, .ref xa3, .ref xa15, .ref xa27, .ref xa28, .ref xa33, .ref xa38, .ref xa41, .ref xa45, .ref xa46, .ref xa47, .ref xa52, .ref xa54, .int 0, .ref xa55, .ref xa60, .ref xa62, .ref xa67, .int (-1)])), (ou, .inl (kJ, 1, .inr (.inl fo)))]) (w1 := []) hP hD [] [0, 1] rfl rfl (by decide) (by decide) hk1 hFc hP1 hD1
    generalize H1 = H at hP hS hc9 ⊢
    have hP : va_P (dC, dI) vwCl [(h0, .inr (10, [.ref xa1, .ref xa3, .ref xa15, .ref xa27, .ref xa28, .ref xa33, .ref xa38, .ref xa41, .ref xa45, .ref xa46, .ref xa47, .ref xa52, .ref xa54, .int 0, .ref xa55, .ref xa60, .ref xa62, .ref xa67, .int (-1)])), (ou, .inl (kJ, 1, .inr (.inl fo)))] H := hP
    have hD : va_D A [(h0, .inr (10, [.ref xa1, .ref xa3, .ref xa15, .ref xa27, .ref xa28, .ref xa33, .ref xa38, .ref xa41, .ref xa45, .ref xa46, .ref xa47, .ref xa52, .ref xa54, .int 0, .ref xa55, .ref xa60, .ref xa62, .ref xa67, .int (-1)])), (ou, .inl (kJ, 1, .inr (.inl fo)))] := hD
    have htab := vx_table B (hts (.codeWith yL_missing cL_missing 5 (some .int) [(0, 9, 12, 13)]) (List.mem_of_getElem? (i := 0) (by decide +kernel)))
    refine vx_catch (name := "java/lang/IllegalArgumentException") hown [] ⟨0, 9, 12, 13⟩ [] (htab.trans rfl) (fun z h => absurd h List.not_mem_nil) rfl (by decide) (hts (.classLink RL 13 "java/lang/IllegalArgumentException") (List.mem_of_getElem? (i := 1) (by decide +kernel))) (va_Nw.use rfl hXs.2.1) hc9 hv9 hcl9 ?_
    refine W.widen (k := 1) (n := 6) (Nat.le_of_ble_eq_true rfl) (Nat.le_of_ble_eq_true rfl) ?_
    refine W.eq (g2 := F0 m 12 ls [.ref q9]) rfl ?_
    refine lv_astore (lv' := [(4, .ref q9), (0, .ref h0), (1, .int p0), (2, .int p1), (3, .ref ou)]) hx hb dL_missing_12 hl (by decide) rfl (fun ls hl => ?_)
    refine lv_iconst (v := 1) hx hb dL_missing_14 (by decide) ?_
    have hP9 := hP.sub (ws' := [(ou, .inl (kJ, 1, .inr (.inl fo)))]) [1] rfl
    have hD9 := hD.sub (ws' := [(ou, .inl (kJ, 1, .inr (.inl fo)))]) [1] (by decide) rfl
    exact W.iret (v := 1) hx hb hr (fun t ht hW => ⟨⟨1, (), rfl, rfl, by rw [ht]; exact hP9, hD9⟩, hS.F ht⟩) hS.2.2 dL_missing_15
  · exact w2.elim
def rm_kL10_net_0 : Room := { frames := 3, cells := 0, slots := 0, locals := 103 }
set_option maxHeartbeats 4000000 in
set_option maxRecDepth 100000 in
theorem kL10_net_0 (l : Launch) (dC : Nat → ClassId) (dI : Nat → Nat → Nat) (kB kI kJ kZ kC kS : ClassId) (sz : Nat) (h0 : Nat) (xa1 : Nat) (xa3 : Nat) (xa15 : Nat) (xa27 : Nat) (xa28 : Nat) (xa33 : Nat) (xa38 : Nat) (xa41 : Nat) (xa45 : Nat) (xa46 : Nat) (xa47 : Nat) (xa52 : Nat) (xa54 : Nat) (xa55 : Nat) (xa60 : Nat) (xa62 : Nat) (xa67 : Nat) (xa2 : Nat) (xa4 : Nat) (xa5 : Nat) (xa6 : Nat) (xa7 : Nat) (xa8 : Nat) (xa9 : Nat) (xa10 : Nat) (xa11 : Nat) (xa12 : Nat) (xa13 : Nat) (xa14 : Nat) (xa16 : Nat) (xa17 : Nat) (xa18 : Nat) (xa19 : Nat) (xa20 : Nat) (xa21 : Nat) (xa22 : Nat) (xa23 : Nat) (xa24 : Nat) (xa25 : Nat) (xa26 : Nat) (xa29 : Nat) (xa30 : Nat) (xa31 : Nat) (xa32 : Nat) (xa53 : Nat) (xa48 : Nat) (xa49 : Nat) (xa50 : Nat) (xa51 : Nat) (ou : Nat) (fo : Nat → Int64) : Met l yL_net wsL_net rm_kL10_net_0 (va_Pc [.ref h0, .int 0, .ref ou] (fun U => U.heap.size = sz ∧ va_P (dC, dI) vwCl [(h0, .inr (10, [.ref xa1, .ref xa3, .ref xa15, .ref xa27, .ref xa28, .ref xa33, .ref xa38, .ref xa41, .ref xa45, .ref xa46, .ref xa47, .ref xa52, .ref xa54, .int 0, .ref xa55, .ref xa60, .ref xa62, .ref xa67, .int (-1)])), (xa1, .inr (8, [.ref xa2, .int 0])), (xa2, .inl (kB, 700, .inl (fun _ => 0))), (xa3, .inr (2, [.ref xa4, .ref xa5, .ref xa6, .ref xa7, .ref xa8, .ref xa9, .ref xa10, .int 0, .int 0, .int 0, .int 5, .ref xa11, .ref xa12, .ref xa13, .ref xa14])), (xa4, .inl (kI, 12, .inl (fun _ => 0))), (xa5, .inl (kI, 12, .inl (fun _ => 0))), (xa6, .inl (kI, 12, .inl (fun _ => 0))), (xa7, .inl (kI, 12, .inl (fun _ => 0))), (xa8, .inl (kI, 20, .inl (fun _ => 0))), (xa9, .inl (kI, 20, .inl (fun _ => 0))), (xa10, .inl (kI, 3, .inl (fun _ => 0))), (xa11, .inl (kI, 12, .inl (fun _ => 0))), (xa12, .inl (kI, 36, .inl (fun _ => 0))), (xa13, .inl (kI, 144, .inl (fun _ => 0))), (xa14, .inl (kI, 12, .inl (fun _ => 0))), (xa15, .inr (2, [.ref xa16, .ref xa17, .ref xa18, .ref xa19, .ref xa20, .ref xa21, .ref xa22, .int 0, .int 0, .int 0, .int 5, .ref xa23, .ref xa24, .ref xa25, .ref xa26])), (xa16, .inl (kI, 12, .inl (fun _ => 0))), (xa17, .inl (kI, 12, .inl (fun _ => 0))), (xa18, .inl (kI, 12, .inl (fun _ => 0))), (xa19, .inl (kI, 12, .inl (fun _ => 0))), (xa20, .inl (kI, 20, .inl (fun _ => 0))), (xa21, .inl (kI, 20, .inl (fun _ => 0))), (xa22, .inl (kI, 3, .inl (fun _ => 0))), (xa23, .inl (kI, 12, .inl (fun _ => 0))), (xa24, .inl (kI, 36, .inl (fun _ => 0))), (xa25, .inl (kI, 144, .inl (fun _ => 0))), (xa26, .inl (kI, 12, .inl (fun _ => 0))), (xa27, .inr (5, [.int (-1), .int 0, .ref xa15, .ref xa2, .int 0, .int 0, .int 0, .int 0, .int 0])), (xa28, .inr (0, [.ref xa29, .ref xa30, .ref xa31, .ref xa32, .int 5, .int 0, .int 0, .int 0, .int 0, .int 0])), (xa29, .inl (kJ, 96, .inr (.inl (fun _ => 0)))), (xa30, .inl (kI, 30, .inl (fun _ => 0))), (xa31, .inl (kI, 12, .inl (fun _ => 0))), (xa32, .inl (kI, 12, .inl (fun _ => 0))), (xa52, .inr (1, [.ref xa53, .int 0, .int 0])), (xa47, .inr (3, [.ref xa3, .ref xa45, .ref xa48, .ref xa49, .ref xa50, .ref xa51, .int 0, .int (-1), .int 0])), (ou, .inl (kJ, 1, .inr (.inl fo)))] U.heap ∧ kE dC dI kB kI kJ kZ kC kS U ∧ va_D (fun _ => True) [(h0, .inr (10, [.ref xa1, .ref xa3, .ref xa15, .ref xa27, .ref xa28, .ref xa33, .ref xa38, .ref xa41, .ref xa45, .ref xa46, .ref xa47, .ref xa52, .ref xa54, .int 0, .ref xa55, .ref xa60, .ref xa62, .ref xa67, .int (-1)])), (xa1, .inr (8, [.ref xa2, .int 0])), (xa2, .inl (kB, 700, .inl (fun _ => 0))), (xa3, .inr (2, [.ref xa4, .ref xa5, .ref xa6, .ref xa7, .ref xa8, .ref xa9, .ref xa10, .int 0, .int 0, .int 0, .int 5, .ref xa11, .ref xa12, .ref xa13, .ref xa14])), (xa4, .inl (kI, 12, .inl (fun _ => 0))), (xa5, .inl (kI, 12, .inl (fun _ => 0))), (xa6, .inl (kI, 12, .inl (fun _ => 0))), (xa7, .inl (kI, 12, .inl (fun _ => 0))), (xa8, .inl (kI, 20, .inl (fun _ => 0))), (xa9, .inl (kI, 20, .inl (fun _ => 0))), (xa10, .inl (kI, 3, .inl (fun _ => 0))), (xa11, .inl (kI, 12, .inl (fun _ => 0))), (xa12, .inl (kI, 36, .inl (fun _ => 0))), (xa13, .inl (kI, 144, .inl (fun _ => 0))), (xa14, .inl (kI, 12, .inl (fun _ => 0))), (xa15, .inr (2, [.ref xa16, .ref xa17, .ref xa18, .ref xa19, .ref xa20, .ref xa21, .ref xa22, .int 0, .int 0, .int 0, .int 5, .ref xa23, .ref xa24, .ref xa25, .ref xa26])), (xa16, .inl (kI, 12, .inl (fun _ => 0))), (xa17, .inl (kI, 12, .inl (fun _ => 0))), (xa18, .inl (kI, 12, .inl (fun _ => 0))), (xa19, .inl (kI, 12, .inl (fun _ => 0))), (xa20, .inl (kI, 20, .inl (fun _ => 0))), (xa21, .inl (kI, 20, .inl (fun _ => 0))), (xa22, .inl (kI, 3, .inl (fun _ => 0))), (xa23, .inl (kI, 12, .inl (fun _ => 0))), (xa24, .inl (kI, 36, .inl (fun _ => 0))), (xa25, .inl (kI, 144, .inl (fun _ => 0))), (xa26, .inl (kI, 12, .inl (fun _ => 0))), (xa27, .inr (5, [.int (-1), .int 0, .ref xa15, .ref xa2, .int 0, .int 0, .int 0, .int 0, .int 0])), (xa28, .inr (0, [.ref xa29, .ref xa30, .ref xa31, .ref xa32, .int 5, .int 0, .int 0, .int 0, .int 0, .int 0])), (xa29, .inl (kJ, 96, .inr (.inl (fun _ => 0)))), (xa30, .inl (kI, 30, .inl (fun _ => 0))), (xa31, .inl (kI, 12, .inl (fun _ => 0))), (xa32, .inl (kI, 12, .inl (fun _ => 0))), (xa52, .inr (1, [.ref xa53, .int 0, .int 0])), (xa47, .inr (3, [.ref xa3, .ref xa45, .ref xa48, .ref xa49, .ref xa50, .ref xa51, .int 0, .int (-1), .int 0])), (ou, .inl (kJ, 1, .inr (.inl fo)))])) (va_Qi (fun (r : Int32) (_ : Unit) => r = 0) (fun _ t => ∃ (g1 : Nat → Int64), g1 0 = 0 ∧ va_P (dC, dI) vwCl [(ou, .inl (kJ, 1, .inr (.inl g1)))] t.heap ∧ va_D (va_A [(h0, .inr (10, [.ref xa1, .ref xa3, .ref xa15, .ref xa27, .ref xa28, .ref xa33, .ref xa38, .ref xa41, .ref xa45, .ref xa46, .ref xa47, .ref xa52, .ref xa54, .int 0, .ref xa55, .ref xa60, .ref xa62, .ref xa67, .int (-1)])), (xa1, .inr (8, [.ref xa2, .int 0])), (xa2, .inl (kB, 700, .inl (fun _ => 0))), (xa3, .inr (2, [.ref xa4, .ref xa5, .ref xa6, .ref xa7, .ref xa8, .ref xa9, .ref xa10, .int 0, .int 0, .int 0, .int 5, .ref xa11, .ref xa12, .ref xa13, .ref xa14])), (xa4, .inl (kI, 12, .inl (fun _ => 0))), (xa5, .inl (kI, 12, .inl (fun _ => 0))), (xa6, .inl (kI, 12, .inl (fun _ => 0))), (xa7, .inl (kI, 12, .inl (fun _ => 0))), (xa8, .inl (kI, 20, .inl (fun _ => 0))), (xa9, .inl (kI, 20, .inl (fun _ => 0))), (xa10, .inl (kI, 3, .inl (fun _ => 0))), (xa11, .inl (kI, 12, .inl (fun _ => 0))), (xa12, .inl (kI, 36, .inl (fun _ => 0))), (xa13, .inl (kI, 144, .inl (fun _ => 0))), (xa14, .inl (kI, 12, .inl (fun _ => 0))), (xa15, .inr (2, [.ref xa16, .ref xa17, .ref xa18, .ref xa19, .ref xa20, .ref xa21, .ref xa22, .int 0, .int 0, .int 0, .int 5, .ref xa23, .ref xa24, .ref xa25, .ref xa26])), (xa16, .inl (kI, 12, .inl (fun _ => 0))), (xa17, .inl (kI, 12, .inl (fun _ => 0))), (xa18, .inl (kI, 12, .inl (fun _ => 0))), (xa19, .inl (kI, 12, .inl (fun _ => 0))), (xa20, .inl (kI, 20, .inl (fun _ => 0))), (xa21, .inl (kI, 20, .inl (fun _ => 0))), (xa22, .inl (kI, 3, .inl (fun _ => 0))), (xa23, .inl (kI, 12, .inl (fun _ => 0))), (xa24, .inl (kI, 36, .inl (fun _ => 0))), (xa25, .inl (kI, 144, .inl (fun _ => 0))), (xa26, .inl (kI, 12, .inl (fun _ => 0))), (xa27, .inr (5, [.int (-1), .int 0, .ref xa15, .ref xa2, .int 0, .int 0, .int 0, .int 0, .int 0])), (xa28, .inr (0, [.ref xa29, .ref xa30, .ref xa31, .ref xa32, .int 5, .int 0, .int 0, .int 0, .int 0, .int 0])), (xa29, .inl (kJ, 96, .inr (.inl (fun _ => 0)))), (xa30, .inl (kI, 30, .inl (fun _ => 0))), (xa31, .inl (kI, 12, .inl (fun _ => 0))), (xa32, .inl (kI, 12, .inl (fun _ => 0))), (xa52, .inr (1, [.ref xa53, .int 0, .int 0])), (xa47, .inr (3, [.ref xa3, .ref xa45, .ref xa48, .ref xa49, .ref xa50, .ref xa51, .int 0, .int (-1), .int 0])), (ou, .inl (kJ, 1, .inr (.inl fo)))] sz) [(ou, .inl (kJ, 1, .inr (.inl g1)))]) (va_A [(h0, .inr (10, [.ref xa1, .ref xa3, .ref xa15, .ref xa27, .ref xa28, .ref xa33, .ref xa38, .ref xa41, .ref xa45, .ref xa46, .ref xa47, .ref xa52, .ref xa54, .int 0, .ref xa55, .ref xa60, .ref xa62, .ref xa67, .int (-1)])), (xa1, .inr (8, [.ref xa2, .int 0])), (xa2, .inl (kB, 700, .inl (fun _ => 0))), (xa3, .inr (2, [.ref xa4, .ref xa5, .ref xa6, .ref xa7, .ref xa8, .ref xa9, .ref xa10, .int 0, .int 0, .int 0, .int 5, .ref xa11, .ref xa12, .ref xa13, .ref xa14])), (xa4, .inl (kI, 12, .inl (fun _ => 0))), (xa5, .inl (kI, 12, .inl (fun _ => 0))), (xa6, .inl (kI, 12, .inl (fun _ => 0))), (xa7, .inl (kI, 12, .inl (fun _ => 0))), (xa8, .inl (kI, 20, .inl (fun _ => 0))), (xa9, .inl (kI, 20, .inl (fun _ => 0))), (xa10, .inl (kI, 3, .inl (fun _ => 0))), (xa11, .inl (kI, 12, .inl (fun _ => 0))), (xa12, .inl (kI, 36, .inl (fun _ => 0))), (xa13, .inl (kI, 144, .inl (fun _ => 0))), (xa14, .inl (kI, 12, .inl (fun _ => 0))), (xa15, .inr (2, [.ref xa16, .ref xa17, .ref xa18, .ref xa19, .ref xa20, .ref xa21, .ref xa22, .int 0, .int 0, .int 0, .int 5, .ref xa23, .ref xa24, .ref xa25, .ref xa26])), (xa16, .inl (kI, 12, .inl (fun _ => 0))), (xa17, .inl (kI, 12, .inl (fun _ => 0))), (xa18, .inl (kI, 12, .inl (fun _ => 0))), (xa19, .inl (kI, 12, .inl (fun _ => 0))), (xa20, .inl (kI, 20, .inl (fun _ => 0))), (xa21, .inl (kI, 20, .inl (fun _ => 0))), (xa22, .inl (kI, 3, .inl (fun _ => 0))), (xa23, .inl (kI, 12, .inl (fun _ => 0))), (xa24, .inl (kI, 36, .inl (fun _ => 0))), (xa25, .inl (kI, 144, .inl (fun _ => 0))), (xa26, .inl (kI, 12, .inl (fun _ => 0))), (xa27, .inr (5, [.int (-1), .int 0, .ref xa15, .ref xa2, .int 0, .int 0, .int 0, .int 0, .int 0])), (xa28, .inr (0, [.ref xa29, .ref xa30, .ref xa31, .ref xa32, .int 5, .int 0, .int 0, .int 0, .int 0, .int 0])), (xa29, .inl (kJ, 96, .inr (.inl (fun _ => 0)))), (xa30, .inl (kI, 30, .inl (fun _ => 0))), (xa31, .inl (kI, 12, .inl (fun _ => 0))), (xa32, .inl (kI, 12, .inl (fun _ => 0))), (xa52, .inr (1, [.ref xa53, .int 0, .int 0])), (xa47, .inr (3, [.ref xa3, .ref xa45, .ref xa48, .ref xa49, .ref xa50, .ref xa51, .int 0, .int (-1), .int 0])), (ou, .inl (kJ, 1, .inr (.inl fo)))] sz)) 0 0 (va_A [(h0, .inr (10, [.ref xa1, .ref xa3, .ref xa15, .ref xa27, .ref xa28, .ref xa33, .ref xa38, .ref xa41, .ref xa45, .ref xa46, .ref xa47, .ref xa52, .ref xa54, .int 0, .ref xa55, .ref xa60, .ref xa62, .ref xa67, .int (-1)])), (xa1, .inr (8, [.ref xa2, .int 0])), (xa2, .inl (kB, 700, .inl (fun _ => 0))), (xa3, .inr (2, [.ref xa4, .ref xa5, .ref xa6, .ref xa7, .ref xa8, .ref xa9, .ref xa10, .int 0, .int 0, .int 0, .int 5, .ref xa11, .ref xa12, .ref xa13, .ref xa14])), (xa4, .inl (kI, 12, .inl (fun _ => 0))), (xa5, .inl (kI, 12, .inl (fun _ => 0))), (xa6, .inl (kI, 12, .inl (fun _ => 0))), (xa7, .inl (kI, 12, .inl (fun _ => 0))), (xa8, .inl (kI, 20, .inl (fun _ => 0))), (xa9, .inl (kI, 20, .inl (fun _ => 0))), (xa10, .inl (kI, 3, .inl (fun _ => 0))), (xa11, .inl (kI, 12, .inl (fun _ => 0))), (xa12, .inl (kI, 36, .inl (fun _ => 0))), (xa13, .inl (kI, 144, .inl (fun _ => 0))), (xa14, .inl (kI, 12, .inl (fun _ => 0))), (xa15, .inr (2, [.ref xa16, .ref xa17, .ref xa18, .ref xa19, .ref xa20, .ref xa21, .ref xa22, .int 0, .int 0, .int 0, .int 5, .ref xa23, .ref xa24, .ref xa25, .ref xa26])), (xa16, .inl (kI, 12, .inl (fun _ => 0))), (xa17, .inl (kI, 12, .inl (fun _ => 0))), (xa18, .inl (kI, 12, .inl (fun _ => 0))), (xa19, .inl (kI, 12, .inl (fun _ => 0))), (xa20, .inl (kI, 20, .inl (fun _ => 0))), (xa21, .inl (kI, 20, .inl (fun _ => 0))), (xa22, .inl (kI, 3, .inl (fun _ => 0))), (xa23, .inl (kI, 12, .inl (fun _ => 0))), (xa24, .inl (kI, 36, .inl (fun _ => 0))), (xa25, .inl (kI, 144, .inl (fun _ => 0))), (xa26, .inl (kI, 12, .inl (fun _ => 0))), (xa27, .inr (5, [.int (-1), .int 0, .ref xa15, .ref xa2, .int 0, .int 0, .int 0, .int 0, .int 0])), (xa28, .inr (0, [.ref xa29, .ref xa30, .ref xa31, .ref xa32, .int 5, .int 0, .int 0, .int 0, .int 0, .int 0])), (xa29, .inl (kJ, 96, .inr (.inl (fun _ => 0)))), (xa30, .inl (kI, 30, .inl (fun _ => 0))), (xa31, .inl (kI, 12, .inl (fun _ => 0))), (xa32, .inl (kI, 12, .inl (fun _ => 0))), (xa52, .inr (1, [.ref xa53, .int 0, .int 0])), (xa47, .inr (3, [.ref xa3, .ref xa45, .ref xa48, .ref xa49, .ref xa50, .ref xa51, .int 0, .int (-1), .int 0])), (ou, .inl (kJ, 1, .inr (.inl fo)))] sz) := by
  refine va_MetW (cc := cL_net) (maxL := 4) (ret := (some .int)) (by decide) rfl ?_
  intro p e s m args0 below meth c s₁ B hml hv
  obtain ⟨hargs, hsz, hP, hE, hD0⟩ := hv
  have hx := B.exec
  have hb := B.bytes
  have hr := B.returns
  have hts := atoms_spec (ws := wsL_net) B.pre
  have hown : s.vm.findClass RL = some m.cls := findClass_of_methodNamed B.named
  have hlocks := B.notSynchronized
  have hK := hE.1
  have hin10 : ∀ w ∈ wsX100, w ∈ wsL_net := fun _ h9 => List.mem_cons_of_mem _ (List.mem_append_left _ (List.mem_append_left _ (List.mem_append_left _ (List.mem_append_left _ (List.mem_append_left _ (List.mem_append_left _ (List.mem_append_left _ (List.mem_append_right _ h9))))))))
  have hin8 : ∀ w ∈ wsX80, w ∈ wsL_net := fun _ h9 => List.mem_cons_of_mem _ (List.mem_append_left _ (List.mem_append_left _ (List.mem_append_left _ (List.mem_append_left _ (List.mem_append_left _ (List.mem_append_left _ (List.mem_append_right _ h9)))))))
  have hin5 : ∀ w ∈ wsX50, w ∈ wsL_net := fun _ h9 => List.mem_cons_of_mem _ (List.mem_append_left _ (List.mem_append_left _ (List.mem_append_left _ (List.mem_append_left _ (List.mem_append_left _ (List.mem_append_right _ h9))))))
  have hin2 : ∀ w ∈ wsX20, w ∈ wsL_net := fun _ h9 => List.mem_cons_of_mem _ (List.mem_append_left _ (List.mem_append_left _ (List.mem_append_left _ (List.mem_append_left _ (List.mem_append_right _ h9)))))
  have hin1 : ∀ w ∈ wsX10, w ∈ wsL_net := fun _ h9 => List.mem_cons_of_mem _ (List.mem_append_left _ (List.mem_append_left _ (List.mem_append_left _ (List.mem_append_right _ h9))))
  have hin3 : ∀ w ∈ wsX30, w ∈ wsL_net := fun _ h9 => List.mem_cons_of_mem _ (List.mem_append_left _ (List.mem_append_left _ (List.mem_append_right _ h9)))
  have hin0 : ∀ w ∈ wsX00, w ∈ wsL_net := fun _ h9 => List.mem_cons_of_mem _ (List.mem_append_left _ (List.mem_append_right _ h9))
  subst hsz
  have hD := hD0.self (sz := s.heap.size)
  generalize hAe : va_A [(h0, .inr (10, [.ref xa1, .ref xa3, .ref xa15, .ref xa27, .ref xa28, .ref xa33, .ref xa38, .ref xa41, .ref xa45, .ref xa46, .ref xa47, .ref xa52, .ref xa54, .int 0, .ref xa55, .ref xa60, .ref xa62, .ref xa67, .int (-1)])), (xa1, .inr (8, [.ref xa2, .int 0])), (xa2, .inl (kB, 700, .inl (fun _ => 0))), (xa3, .inr (2, [.ref xa4, .ref xa5, .ref xa6, .ref xa7, .ref xa8, .ref xa9, .ref xa10, .int 0, .int 0, .int 0, .int 5, .ref xa11, .ref xa12, .ref xa13, .ref xa14])), (xa4, .inl (kI, 12, .inl (fun _ => 0))), (xa5, .inl (kI, 12, .inl (fun _ => 0))), (xa6, .inl (kI, 12, .inl (fun _ => 0))), (xa7, .inl (kI, 12, .inl (fun _ => 0))), (xa8, .inl (kI, 20, .inl (fun _ => 0))), (xa9, .inl (kI, 20, .inl (fun _ => 0))), (xa10, .inl (kI, 3, .inl (fun _ => 0))), (xa11, .inl (kI, 12, .inl (fun _ => 0))), (xa12, .inl (kI, 36, .inl (fun _ => 0))), (xa13, .inl (kI, 144, .inl (fun _ => 0))), (xa14, .inl (kI, 12, .inl (fun _ => 0))), (xa15, .inr (2, [.ref xa16, .ref xa17, .ref xa18, .ref xa19, .ref xa20, .ref xa21, .ref xa22, .int 0, .int 0, .int 0, .int 5, .ref xa23, .ref xa24, .ref xa25, .ref xa26])), (xa16, .inl (kI, 12, .inl (fun _ => 0))), (xa17, .inl (kI, 12, .inl (fun _ => 0))), (xa18, .inl (kI, 12, .inl (fun _ => 0))), (xa19, .inl (kI, 12, .inl (fun _ => 0))), (xa20, .inl (kI, 20, .inl (fun _ => 0))), (xa21, .inl (kI, 20, .inl (fun _ => 0))), (xa22, .inl (kI, 3, .inl (fun _ => 0))), (xa23, .inl (kI, 12, .inl (fun _ => 0))), (xa24, .inl (kI, 36, .inl (fun _ => 0))), (xa25, .inl (kI, 144, .inl (fun _ => 0))), (xa26, .inl (kI, 12, .inl (fun _ => 0))), (xa27, .inr (5, [.int (-1), .int 0, .ref xa15, .ref xa2, .int 0, .int 0, .int 0, .int 0, .int 0])), (xa28, .inr (0, [.ref xa29, .ref xa30, .ref xa31, .ref xa32, .int 5, .int 0, .int 0, .int 0, .int 0, .int 0])), (xa29, .inl (kJ, 96, .inr (.inl (fun _ => 0)))), (xa30, .inl (kI, 30, .inl (fun _ => 0))), (xa31, .inl (kI, 12, .inl (fun _ => 0))), (xa32, .inl (kI, 12, .inl (fun _ => 0))), (xa52, .inr (1, [.ref xa53, .int 0, .int 0])), (xa47, .inr (3, [.ref xa3, .ref xa45, .ref xa48, .ref xa49, .ref xa50, .ref xa51, .int 0, .int (-1), .int 0])), (ou, .inl (kJ, 1, .inr (.inl fo)))] s.heap.size = A at hD ⊢
  have hA : ∀ q : Nat, s.heap.size ≤ q → A q := fun q h => by rw [← hAe]; exact Or.inr h
  have hS : va_S A s.heap s.heap [] := va_S.rf
  have hP : va_P (dC, dI) vwCl [(h0, .inr (10, [.ref xa1, .ref xa3, .ref xa15, .ref xa27, .ref xa28, .ref xa33, .ref xa38, .ref xa41, .ref xa45, .ref xa46, .ref xa47, .ref xa52, .ref xa54, .int 0, .ref xa55, .ref xa60, .ref xa62, .ref xa67, .int (-1)])), (xa1, .inr (8, [.ref xa2, .int 0])), (xa2, .inl (kB, 700, .inl (fun _ => 0))), (xa3, .inr (2, [.ref xa4, .ref xa5, .ref xa6, .ref xa7, .ref xa8, .ref xa9, .ref xa10, .int 0, .int 0, .int 0, .int 5, .ref xa11, .ref xa12, .ref xa13, .ref xa14])), (xa4, .inl (kI, 12, .inl (fun _ => 0))), (xa5, .inl (kI, 12, .inl (fun _ => 0))), (xa6, .inl (kI, 12, .inl (fun _ => 0))), (xa7, .inl (kI, 12, .inl (fun _ => 0))), (xa8, .inl (kI, 20, .inl (fun _ => 0))), (xa9, .inl (kI, 20, .inl (fun _ => 0))), (xa10, .inl (kI, 3, .inl (fun _ => 0))), (xa11, .inl (kI, 12, .inl (fun _ => 0))), (xa12, .inl (kI, 36, .inl (fun _ => 0))), (xa13, .inl (kI, 144, .inl (fun _ => 0))), (xa14, .inl (kI, 12, .inl (fun _ => 0))), (xa15, .inr (2, [.ref xa16, .ref xa17, .ref xa18, .ref xa19, .ref xa20, .ref xa21, .ref xa22, .int 0, .int 0, .int 0, .int 5, .ref xa23, .ref xa24, .ref xa25, .ref xa26])), (xa16, .inl (kI, 12, .inl (fun _ => 0))), (xa17, .inl (kI, 12, .inl (fun _ => 0))), (xa18, .inl (kI, 12, .inl (fun _ => 0))), (xa19, .inl (kI, 12, .inl (fun _ => 0))), (xa20, .inl (kI, 20, .inl (fun _ => 0))), (xa21, .inl (kI, 20, .inl (fun _ => 0))), (xa22, .inl (kI, 3, .inl (fun _ => 0))), (xa23, .inl (kI, 12, .inl (fun _ => 0))), (xa24, .inl (kI, 36, .inl (fun _ => 0))), (xa25, .inl (kI, 144, .inl (fun _ => 0))), (xa26, .inl (kI, 12, .inl (fun _ => 0))), (xa27, .inr (5, [.int (-1), .int 0, .ref xa15, .ref xa2, .int 0, .int 0, .int 0, .int 0, .int 0])), (xa28, .inr (0, [.ref xa29, .ref xa30, .ref xa31, .ref xa32, .int 5, .int 0, .int 0, .int 0, .int 0, .int 0])), (xa29, .inl (kJ, 96, .inr (.inl (fun _ => 0)))), (xa30, .inl (kI, 30, .inl (fun _ => 0))), (xa31, .inl (kI, 12, .inl (fun _ => 0))), (xa32, .inl (kI, 12, .inl (fun _ => 0))), (xa52, .inr (1, [.ref xa53, .int 0, .int 0])), (xa47, .inr (3, [.ref xa3, .ref xa45, .ref xa48, .ref xa49, .ref xa50, .ref xa51, .int 0, .int (-1), .int 0])), (ou, .inl (kJ, 1, .inr (.inl fo)))] s.heap := hP
  have hl := lv_entry ([.ref h0, .int 0, .ref ou]) (n := 4) (Nat.le_of_ble_eq_true rfl)
  have hla : entryFrame m args0 4 = entryFrame m ([.ref h0, .int 0, .ref ou] : List Value).toArray 4 := by rw [hargs]
  rw [hla, lg_entry_eq]
  generalize (lg_sl ([.ref h0, .int 0, .ref ou]) ++ List.replicate (4 - (lg_sl ([.ref h0, .int 0, .ref ou])).length) Slot.unset).toArray = ls at hl ⊢
  have hl : lv_has ls 4 [(0, .ref h0), (1, .int 0), (2, .ref ou)] := hl
  refine lv_aload_n hx hb dL_net_0 rfl (lv_at hl 2 rfl) ?_
  refine lv_iconst (v := 0) hx hb dL_net_1 (by decide) ?_
  refine lv_aload_n hx hb dL_net_2 rfl (lv_at hl 0 rfl) ?_
  refine lv_iload_n hx hb dL_net_3 rfl (lv_at hl 1 rfl) ?_
  have hPc := hP.sub (ws' := [(h0, .inr (10, [.ref xa1, .ref xa3, .ref xa15, .ref xa27, .ref xa28, .ref xa33, .ref xa38, .ref xa41, .ref xa45, .ref xa46, .ref xa47, .ref xa52, .ref xa54, .int 0, .ref xa55, .ref xa60, .ref xa62, .ref xa67, .int (-1)])), (xa1, .inr (8, [.ref xa2, .int 0])), (xa2, .inl (kB, 700, .inl (fun _ => 0))), (xa3, .inr (2, [.ref xa4, .ref xa5, .ref xa6, .ref xa7, .ref xa8, .ref xa9, .ref xa10, .int 0, .int 0, .int 0, .int 5, .ref xa11, .ref xa12, .ref xa13, .ref xa14])), (xa4, .inl (kI, 12, .inl (fun _ => 0))), (xa5, .inl (kI, 12, .inl (fun _ => 0))), (xa6, .inl (kI, 12, .inl (fun _ => 0))), (xa7, .inl (kI, 12, .inl (fun _ => 0))), (xa8, .inl (kI, 20, .inl (fun _ => 0))), (xa9, .inl (kI, 20, .inl (fun _ => 0))), (xa10, .inl (kI, 3, .inl (fun _ => 0))), (xa11, .inl (kI, 12, .inl (fun _ => 0))), (xa12, .inl (kI, 36, .inl (fun _ => 0))), (xa13, .inl (kI, 144, .inl (fun _ => 0))), (xa14, .inl (kI, 12, .inl (fun _ => 0))), (xa15, .inr (2, [.ref xa16, .ref xa17, .ref xa18, .ref xa19, .ref xa20, .ref xa21, .ref xa22, .int 0, .int 0, .int 0, .int 5, .ref xa23, .ref xa24, .ref xa25, .ref xa26])), (xa16, .inl (kI, 12, .inl (fun _ => 0))), (xa17, .inl (kI, 12, .inl (fun _ => 0))), (xa18, .inl (kI, 12, .inl (fun _ => 0))), (xa19, .inl (kI, 12, .inl (fun _ => 0))), (xa20, .inl (kI, 20, .inl (fun _ => 0))), (xa21, .inl (kI, 20, .inl (fun _ => 0))), (xa22, .inl (kI, 3, .inl (fun _ => 0))), (xa23, .inl (kI, 12, .inl (fun _ => 0))), (xa24, .inl (kI, 36, .inl (fun _ => 0))), (xa25, .inl (kI, 144, .inl (fun _ => 0))), (xa26, .inl (kI, 12, .inl (fun _ => 0))), (xa27, .inr (5, [.int (-1), .int 0, .ref xa15, .ref xa2, .int 0, .int 0, .int 0, .int 0, .int 0])), (xa28, .inr (0, [.ref xa29, .ref xa30, .ref xa31, .ref xa32, .int 5, .int 0, .int 0, .int 0, .int 0, .int 0])), (xa29, .inl (kJ, 96, .inr (.inl (fun _ => 0)))), (xa30, .inl (kI, 30, .inl (fun _ => 0))), (xa31, .inl (kI, 12, .inl (fun _ => 0))), (xa32, .inl (kI, 12, .inl (fun _ => 0))), (xa52, .inr (1, [.ref xa53, .int 0, .int 0])), (xa47, .inr (3, [.ref xa3, .ref xa45, .ref xa48, .ref xa49, .ref xa50, .ref xa51, .int 0, .int (-1), .int 0]))]) [0, 1, 2, 3, 4, 5, 6, 7, 8, 9, 10, 11, 12, 13, 14, 15, 16, 17, 18, 19, 20, 21, 22, 23, 24, 25, 26, 27, 28, 29, 30, 31, 32, 33, 34] rfl
  have hDc := hD.sub (ws' := [(h0, .inr (10, [.ref xa1, .ref xa3, .ref xa15, .ref xa27, .ref xa28, .ref xa33, .ref xa38, .ref xa41, .ref xa45, .ref xa46, .ref xa47, .ref xa52, .ref xa54, .int 0, .ref xa55, .ref xa60, .ref xa62, .ref xa67, .int (-1)])), (xa1, .inr (8, [.ref xa2, .int 0])), (xa2, .inl (kB, 700, .inl (fun _ => 0))), (xa3, .inr (2, [.ref xa4, .ref xa5, .ref xa6, .ref xa7, .ref xa8, .ref xa9, .ref xa10, .int 0, .int 0, .int 0, .int 5, .ref xa11, .ref xa12, .ref xa13, .ref xa14])), (xa4, .inl (kI, 12, .inl (fun _ => 0))), (xa5, .inl (kI, 12, .inl (fun _ => 0))), (xa6, .inl (kI, 12, .inl (fun _ => 0))), (xa7, .inl (kI, 12, .inl (fun _ => 0))), (xa8, .inl (kI, 20, .inl (fun _ => 0))), (xa9, .inl (kI, 20, .inl (fun _ => 0))), (xa10, .inl (kI, 3, .inl (fun _ => 0))), (xa11, .inl (kI, 12, .inl (fun _ => 0))), (xa12, .inl (kI, 36, .inl (fun _ => 0))), (xa13, .inl (kI, 144, .inl (fun _ => 0))), (xa14, .inl (kI, 12, .inl (fun _ => 0))), (xa15, .inr (2, [.ref xa16, .ref xa17, .ref xa18, .ref xa19, .ref xa20, .ref xa21, .ref xa22, .int 0, .int 0, .int 0, .int 5, .ref xa23, .ref xa24, .ref xa25, .ref xa26])), (xa16, .inl (kI, 12, .inl (fun _ => 0))), (xa17, .inl (kI, 12, .inl (fun _ => 0))), (xa18, .inl (kI, 12, .inl (fun _ => 0))), (xa19, .inl (kI, 12, .inl (fun _ => 0))), (xa20, .inl (kI, 20, .inl (fun _ => 0))), (xa21, .inl (kI, 20, .inl (fun _ => 0))), (xa22, .inl (kI, 3, .inl (fun _ => 0))), (xa23, .inl (kI, 12, .inl (fun _ => 0))), (xa24, .inl (kI, 36, .inl (fun _ => 0))), (xa25, .inl (kI, 144, .inl (fun _ => 0))), (xa26, .inl (kI, 12, .inl (fun _ => 0))), (xa27, .inr (5, [.int (-1), .int 0, .ref xa15, .ref xa2, .int 0, .int 0, .int 0, .int 0, .int 0])), (xa28, .inr (0, [.ref xa29, .ref xa30, .ref xa31, .ref xa32, .int 5, .int 0, .int 0, .int 0, .int 0, .int 0])), (xa29, .inl (kJ, 96, .inr (.inl (fun _ => 0)))), (xa30, .inl (kI, 30, .inl (fun _ => 0))), (xa31, .inl (kI, 12, .inl (fun _ => 0))), (xa32, .inl (kI, 12, .inl (fun _ => 0))), (xa52, .inr (1, [.ref xa53, .int 0, .int 0])), (xa47, .inr (3, [.ref xa3, .ref xa45, .ref xa48, .ref xa49, .ref xa50, .ref xa51, .int 0, .int (-1), .int 0]))]) [0, 1, 2, 3, 4, 5, 6, 7, 8, 9, 10, 11, 12, 13, 14, 15, 16, 17, 18, 19, 20, 21, 22, 23, 24, 25, 26, 27, 28, 29, 30, 31, 32, 33, 34] (by decide) rfl
  have hFc := va_free (wc := [(h0, .inr (10, [.ref xa1, .ref xa3, .ref xa15, .ref xa27, .ref xa28, .ref xa33, .ref xa38, .ref xa41, .ref xa45, .ref xa46, .ref xa47, .ref xa52, .ref xa54, .int 0, .ref xa55, .ref xa60, .ref xa62, .ref xa67, .int (-1)])), (xa1, .inr (8, [.ref xa2, .int 0])), (xa2, .inl (kB, 700, .inl (fun _ => 0))), (xa3, .inr (2, [.ref xa4, .ref xa5, .ref xa6, .ref xa7, .ref xa8, .ref xa9, .ref xa10, .int 0, .int 0, .int 0, .int 5, .ref xa11, .ref xa12, .ref xa13, .ref xa14])), (xa4, .inl (kI, 12, .inl (fun _ => 0))), (xa5, .inl (kI, 12, .inl (fun _ => 0))), (xa6, .inl (kI, 12, .inl (fun _ => 0))), (xa7, .inl (kI, 12, .inl (fun _ => 0))), (xa8, .inl (kI, 20, .inl (fun _ => 0))), (xa9, .inl (kI, 20, .inl (fun _ => 0))), (xa10, .inl (kI, 3, .inl (fun _ => 0))), (xa11, .inl (kI, 12, .inl (fun _ => 0))), (xa12, .inl (kI, 36, .inl (fun _ => 0))), (xa13, .inl (kI, 144, .inl (fun _ => 0))), (xa14, .inl (kI, 12, .inl (fun _ => 0))), (xa15, .inr (2, [.ref xa16, .ref xa17, .ref xa18, .ref xa19, .ref xa20, .ref xa21, .ref xa22, .int 0, .int 0, .int 0, .int 5, .ref xa23, .ref xa24, .ref xa25, .ref xa26])), (xa16, .inl (kI, 12, .inl (fun _ => 0))), (xa17, .inl (kI, 12, .inl (fun _ => 0))), (xa18, .inl (kI, 12, .inl (fun _ => 0))), (xa19, .inl (kI, 12, .inl (fun _ => 0))), (xa20, .inl (kI, 20, .inl (fun _ => 0))), (xa21, .inl (kI, 20, .inl (fun _ => 0))), (xa22, .inl (kI, 3, .inl (fun _ => 0))), (xa23, .inl (kI, 12, .inl (fun _ => 0))), (xa24, .inl (kI, 36, .inl (fun _ => 0))), (xa25, .inl (kI, 144, .inl (fun _ => 0))), (xa26, .inl (kI, 12, .inl (fun _ => 0))), (xa27, .inr (5, [.int (-1), .int 0, .ref xa15, .ref xa2, .int 0, .int 0, .int 0, .int 0, .int 0])), (xa28, .inr (0, [.ref xa29, .ref xa30, .ref xa31, .ref xa32, .int 5, .int 0, .int 0, .int 0, .int 0, .int 0])), (xa29, .inl (kJ, 96, .inr (.inl (fun _ => 0)))), (xa30, .inl (kI, 30, .inl (fun _ => 0))), (xa31, .inl (kI, 12, .inl (fun _ => 0))), (xa32, .inl (kI, 12, .inl (fun _ => 0))), (xa52, .inr (1, [.ref xa53, .int 0, .int 0])), (xa47, .inr (3, [.ref xa3, .ref xa45, .ref xa48, .ref xa49, .ref xa50, .ref xa51, .int 0, .int (-1), .int 0]))]) hD hS hA [0, 1, 2, 3, 4, 5, 6, 7, 8, 9, 10, 11, 12, 13, 14, 15, 16, 17, 18, 19, 20, 21, 22, 23, 24, 25, 26, 27, 28, 29, 30, 31, 32, 33, 34] rfl
  refine va_calli (va_runV (As := [.int 0]) (rest := [.int 0, .ref ou]) ⟨hx, hb, hml, hown, hts⟩ (k10_net_0 l dC dI kB kI kJ kZ kC kS s.heap.size h0 xa1 xa3 xa15 xa27 xa28 xa33 xa38 xa41 xa45 xa46 xa47 xa52 xa54 xa55 xa60 xa62 xa67 xa2 xa4 xa5 xa6 xa7 xa8 xa9 xa10 xa11 xa12 xa13 xa14 xa16 xa17 xa18 xa19 xa20 xa21 xa22 xa23 xa24 xa25 xa26 xa29 xa30 xa31 xa32 xa53 xa48 xa49 xa50 xa51) (cwV 1 hts gL_net_X10_net rfl rfl rfl (by decide +kernel) ⟨Nat.le_of_ble_eq_true rfl, Nat.le_of_ble_eq_true rfl⟩) ⟨fun a U g mk q => by obtain ⟨q0, q1, qP, qE, qD⟩ := q; exact ⟨q0, q1, qP, kE_call qE, qD⟩, va_recv hK hP (ci := 10) (q0 := 0) rfl rfl, fun U hU hW => ⟨rfl, by rw [hU], by rw [hU]; exact hPc, kE_warm hW hE, hDc.weaken (fun _ _ _ _ => trivial)⟩⟩ rfl rfl hl.1 rfl (lv_room (Nat.le_of_ble_eq_true rfl)) dL_net_4 ⟨Nat.le_of_ble_eq_true rfl, Nat.le_of_ble_eq_true rfl⟩) hS (fun q _ h => hFc q h) hFc (fun r1 u t H1 locs ht hvm w2 hB hz1 hk1 hS => ?_)
  obtain ⟨hP1, hD1⟩ := hB
  rw [ht] at hP1
  try dsimp only at w2
  obtain ⟨hP, hD⟩ := va_join (wr := [(ou, .inl (kJ, 1, .inr (.inl fo)))]) (w1 := []) hP hD [0, 1, 2, 3, 4, 5, 6, 7, 8, 9, 10, 11, 12, 13, 14, 15, 16, 17, 18, 19, 20, 21, 22, 23, 24, 25, 26, 27, 28, 29, 30, 31, 32, 33, 34] [35] rfl rfl (by decide) (by decide) hk1 hFc hP1 hD1
  generalize H1 = H at hP hS ⊢
  have hP : va_P (dC, dI) vwCl [(ou, .inl (kJ, 1, .inr (.inl fo)))] H := hP
  have hD : va_D A [(ou, .inl (kJ, 1, .inr (.inl fo)))] := hD
  refine W.widen (k := 0) (n := 0) (Nat.le_of_ble_eq_true rfl) (Nat.le_of_ble_eq_true rfl) ?_
  subst w2
  refine lv_i2l (v := 0) hx hb dL_net_7 (by decide) ?_
  refine va_last hx hb hK hP hD hS 0 2 rfl rfl (vp_in_nI (n := 0) (by decide) (by decide)) dL_net_8 (fun H locs hP hD hS => ?_)
  have hP : va_P (dC, dI) vwCl [(ou, .inl (kJ, 1, .inr (.inl (vp_updL fo 0 0))))] H := hP
  have hD : va_D A [(ou, .inl (kJ, 1, .inr (.inl (vp_updL fo 0 0))))] := hD
  refine lv_goto (tgt := 15) hx hb dL_net_9 (by decide) ?_
  refine lv_iconst (v := 0) hx hb dL_net_15 (by decide) ?_
  have hP9 := hP.sub (ws' := [(ou, .inl (kJ, 1, .inr (.inl (vp_updL fo 0 0))))]) [0] rfl
  have hD9 := hD.sub (ws' := [(ou, .inl (kJ, 1, .inr (.inl (vp_updL fo 0 0))))]) [0] (by decide) rfl
  exact W.iret (v := 0) hx hb hr (fun t ht hW => ⟨⟨0, (), rfl, rfl, vp_updL fo 0 0, rfl, by rw [ht]; exact hP9, hD9⟩, hS.F ht⟩) hS.2.2 dL_net_16
def rm_kL10_count_0 : Room := { frames := 1, cells := 0, slots := 0, locals := 21 }
set_option maxHeartbeats 4000000 in
set_option maxRecDepth 100000 in
theorem kL10_count_0 (l : Launch) (dC : Nat → ClassId) (dI : Nat → Nat → Nat) (kB kI kJ kZ kC kS : ClassId) (sz : Nat) (h0 : Nat) (xa1 : Nat) (xa3 : Nat) (xa15 : Nat) (xa27 : Nat) (xa28 : Nat) (xa33 : Nat) (xa38 : Nat) (xa41 : Nat) (xa45 : Nat) (xa46 : Nat) (xa47 : Nat) (xa52 : Nat) (xa54 : Nat) (xa55 : Nat) (xa60 : Nat) (xa62 : Nat) (xa67 : Nat) (xa4 : Nat) (xa5 : Nat) (xa6 : Nat) (xa7 : Nat) (xa8 : Nat) (xa9 : Nat) (xa10 : Nat) (xa11 : Nat) (xa12 : Nat) (xa13 : Nat) (xa14 : Nat) (ou : Nat) (fo : Nat → Int64) : Met l yL_count wsL_count rm_kL10_count_0 (va_Pc [.ref h0, .int 0, .ref ou] (fun U => U.heap.size = sz ∧ va_P (dC, dI) vwCl [(h0, .inr (10, [.ref xa1, .ref xa3, .ref xa15, .ref xa27, .ref xa28, .ref xa33, .ref xa38, .ref xa41, .ref xa45, .ref xa46, .ref xa47, .ref xa52, .ref xa54, .int 0, .ref xa55, .ref xa60, .ref xa62, .ref xa67, .int (-1)])), (xa3, .inr (2, [.ref xa4, .ref xa5, .ref xa6, .ref xa7, .ref xa8, .ref xa9, .ref xa10, .int 0, .int 0, .int 0, .int 5, .ref xa11, .ref xa12, .ref xa13, .ref xa14])), (ou, .inl (kJ, 1, .inr (.inl fo)))] U.heap ∧ kE dC dI kB kI kJ kZ kC kS U ∧ va_D (fun _ => True) [(h0, .inr (10, [.ref xa1, .ref xa3, .ref xa15, .ref xa27, .ref xa28, .ref xa33, .ref xa38, .ref xa41, .ref xa45, .ref xa46, .ref xa47, .ref xa52, .ref xa54, .int 0, .ref xa55, .ref xa60, .ref xa62, .ref xa67, .int (-1)])), (xa3, .inr (2, [.ref xa4, .ref xa5, .ref xa6, .ref xa7, .ref xa8, .ref xa9, .ref xa10, .int 0, .int 0, .int 0, .int 5, .ref xa11, .ref xa12, .ref xa13, .ref xa14])), (ou, .inl (kJ, 1, .inr (.inl fo)))])) (va_Qi (fun (r : Int32) (_ : Unit) => r = 0) (fun _ t => ∃ (g1 : Nat → Int64), g1 0 = 0 ∧ va_P (dC, dI) vwCl [(ou, .inl (kJ, 1, .inr (.inl g1)))] t.heap ∧ va_D (va_A [(h0, .inr (10, [.ref xa1, .ref xa3, .ref xa15, .ref xa27, .ref xa28, .ref xa33, .ref xa38, .ref xa41, .ref xa45, .ref xa46, .ref xa47, .ref xa52, .ref xa54, .int 0, .ref xa55, .ref xa60, .ref xa62, .ref xa67, .int (-1)])), (xa3, .inr (2, [.ref xa4, .ref xa5, .ref xa6, .ref xa7, .ref xa8, .ref xa9, .ref xa10, .int 0, .int 0, .int 0, .int 5, .ref xa11, .ref xa12, .ref xa13, .ref xa14])), (ou, .inl (kJ, 1, .inr (.inl fo)))] sz) [(ou, .inl (kJ, 1, .inr (.inl g1)))]) (va_A [(h0, .inr (10, [.ref xa1, .ref xa3, .ref xa15, .ref xa27, .ref xa28, .ref xa33, .ref xa38, .ref xa41, .ref xa45, .ref xa46, .ref xa47, .ref xa52, .ref xa54, .int 0, .ref xa55, .ref xa60, .ref xa62, .ref xa67, .int (-1)])), (xa3, .inr (2, [.ref xa4, .ref xa5, .ref xa6, .ref xa7, .ref xa8, .ref xa9, .ref xa10, .int 0, .int 0, .int 0, .int 5, .ref xa11, .ref xa12, .ref xa13, .ref xa14])), (ou, .inl (kJ, 1, .inr (.inl fo)))] sz)) 0 0 (va_A [(h0, .inr (10, [.ref xa1, .ref xa3, .ref xa15, .ref xa27, .ref xa28, .ref xa33, .ref xa38, .ref xa41, .ref xa45, .ref xa46, .ref xa47, .ref xa52, .ref xa54, .int 0, .ref xa55, .ref xa60, .ref xa62, .ref xa67, .int (-1)])), (xa3, .inr (2, [.ref xa4, .ref xa5, .ref xa6, .ref xa7, .ref xa8, .ref xa9, .ref xa10, .int 0, .int 0, .int 0, .int 5, .ref xa11, .ref xa12, .ref xa13, .ref xa14])), (ou, .inl (kJ, 1, .inr (.inl fo)))] sz) := by
  refine va_MetW (cc := cL_count) (maxL := 4) (ret := (some .int)) (by decide) rfl ?_
  intro p e s m args0 below meth c s₁ B hml hv
  obtain ⟨hargs, hsz, hP, hE, hD0⟩ := hv
  have hx := B.exec
  have hb := B.bytes
  have hr := B.returns
  have hts := atoms_spec (ws := wsL_count) B.pre
  have hown : s.vm.findClass RL = some m.cls := findClass_of_methodNamed B.named
  have hlocks := B.notSynchronized
  have hK := hE.1
  have hin10 : ∀ w ∈ wsX100, w ∈ wsL_count := fun _ h9 => List.mem_cons_of_mem _ (List.mem_append_left _ (List.mem_append_left _ (List.mem_append_left _ (List.mem_append_left _ (List.mem_append_left _ (List.mem_append_left _ (List.mem_append_left _ (List.mem_append_left _ (List.mem_append_right _ h9)))))))))
  have hin0 : ∀ w ∈ wsX00, w ∈ wsL_count := fun _ h9 => List.mem_cons_of_mem _ (List.mem_append_left _ (List.mem_append_left _ (List.mem_append_left _ (List.mem_append_left _ (List.mem_append_left _ (List.mem_append_left _ (List.mem_append_left _ (List.mem_append_right _ h9))))))))
  have hin2 : ∀ w ∈ wsX20, w ∈ wsL_count := fun _ h9 => List.mem_cons_of_mem _ (List.mem_append_left _ (List.mem_append_left _ (List.mem_append_left _ (List.mem_append_left _ (List.mem_append_left _ (List.mem_append_left _ (List.mem_append_right _ h9)))))))
  have hin1 : ∀ w ∈ wsX10, w ∈ wsL_count := fun _ h9 => List.mem_cons_of_mem _ (List.mem_append_left _ (List.mem_append_left _ (List.mem_append_left _ (List.mem_append_left _ (List.mem_append_left _ (List.mem_append_right _ h9))))))
  have hin3 : ∀ w ∈ wsX30, w ∈ wsL_count := fun _ h9 => List.mem_cons_of_mem _ (List.mem_append_left _ (List.mem_append_left _ (List.mem_append_left _ (List.mem_append_left _ (List.mem_append_right _ h9)))))
  have hin8 : ∀ w ∈ wsX80, w ∈ wsL_count := fun _ h9 => List.mem_cons_of_mem _ (List.mem_append_left _ (List.mem_append_left _ (List.mem_append_left _ (List.mem_append_right _ h9))))
  have hin4 : ∀ w ∈ wsX40, w ∈ wsL_count := fun _ h9 => List.mem_cons_of_mem _ (List.mem_append_left _ (List.mem_append_left _ (List.mem_append_right _ h9)))
  have hin7 : ∀ w ∈ wsX70, w ∈ wsL_count := fun _ h9 => List.mem_cons_of_mem _ (List.mem_append_left _ (List.mem_append_right _ h9))
  subst hsz
  have hD := hD0.self (sz := s.heap.size)
  generalize hAe : va_A [(h0, .inr (10, [.ref xa1, .ref xa3, .ref xa15, .ref xa27, .ref xa28, .ref xa33, .ref xa38, .ref xa41, .ref xa45, .ref xa46, .ref xa47, .ref xa52, .ref xa54, .int 0, .ref xa55, .ref xa60, .ref xa62, .ref xa67, .int (-1)])), (xa3, .inr (2, [.ref xa4, .ref xa5, .ref xa6, .ref xa7, .ref xa8, .ref xa9, .ref xa10, .int 0, .int 0, .int 0, .int 5, .ref xa11, .ref xa12, .ref xa13, .ref xa14])), (ou, .inl (kJ, 1, .inr (.inl fo)))] s.heap.size = A at hD ⊢
  have hA : ∀ q : Nat, s.heap.size ≤ q → A q := fun q h => by rw [← hAe]; exact Or.inr h
  have hS : va_S A s.heap s.heap [] := va_S.rf
  have hP : va_P (dC, dI) vwCl [(h0, .inr (10, [.ref xa1, .ref xa3, .ref xa15, .ref xa27, .ref xa28, .ref xa33, .ref xa38, .ref xa41, .ref xa45, .ref xa46, .ref xa47, .ref xa52, .ref xa54, .int 0, .ref xa55, .ref xa60, .ref xa62, .ref xa67, .int (-1)])), (xa3, .inr (2, [.ref xa4, .ref xa5, .ref xa6, .ref xa7, .ref xa8, .ref xa9, .ref xa10, .int 0, .int 0, .int 0, .int 5, .ref xa11, .ref xa12, .ref xa13, .ref xa14])), (ou, .inl (kJ, 1, .inr (.inl fo)))] s.heap := hP
  have hl := lv_entry ([.ref h0, .int 0, .ref ou]) (n := 4) (Nat.le_of_ble_eq_true rfl)
  have hla : entryFrame m args0 4 = entryFrame m ([.ref h0, .int 0, .ref ou] : List Value).toArray 4 := by rw [hargs]
  rw [hla, lg_entry_eq]
  generalize (lg_sl ([.ref h0, .int 0, .ref ou]) ++ List.replicate (4 - (lg_sl ([.ref h0, .int 0, .ref ou])).length) Slot.unset).toArray = ls at hl ⊢
  have hl : lv_has ls 4 [(0, .ref h0), (1, .int 0), (2, .ref ou)] := hl
  refine lv_aload_n hx hb dL_count_0 rfl (lv_at hl 2 rfl) ?_
  refine lv_iconst (v := 0) hx hb dL_count_1 (by decide) ?_
  refine lv_aload_n hx hb dL_count_2 rfl (lv_at hl 0 rfl) ?_
  refine lv_iload_n hx hb dL_count_3 rfl (lv_at hl 1 rfl) ?_
  have hPc := hP.sub (ws' := [(h0, .inr (10, [.ref xa1, .ref xa3, .ref xa15, .ref xa27, .ref xa28, .ref xa33, .ref xa38, .ref xa41, .ref xa45, .ref xa46, .ref xa47, .ref xa52, .ref xa54, .int 0, .ref xa55, .ref xa60, .ref xa62, .ref xa67, .int (-1)])), (xa3, .inr (2, [.ref xa4, .ref xa5, .ref xa6, .ref xa7, .ref xa8, .ref xa9, .ref xa10, .int 0, .int 0, .int 0, .int 5, .ref xa11, .ref xa12, .ref xa13, .ref xa14]))]) [0, 1] rfl
  have hDc := hD.sub (ws' := [(h0, .inr (10, [.ref xa1, .ref xa3, .ref xa15, .ref xa27, .ref xa28, .ref xa33, .ref xa38, .ref xa41, .ref xa45, .ref xa46, .ref xa47, .ref xa52, .ref xa54, .int 0, .ref xa55, .ref xa60, .ref xa62, .ref xa67, .int (-1)])), (xa3, .inr (2, [.ref xa4, .ref xa5, .ref xa6, .ref xa7, .ref xa8, .ref xa9, .ref xa10, .int 0, .int 0, .int 0, .int 5, .ref xa11, .ref xa12, .ref xa13, .ref xa14]))]) [0, 1] (by decide) rfl
  have hFc := va_free (wc := [(h0, .inr (10, [.ref xa1, .ref xa3, .ref xa15, .ref xa27, .ref xa28, .ref xa33, .ref xa38, .ref xa41, .ref xa45, .ref xa46, .ref xa47, .ref xa52, .ref xa54, .int 0, .ref xa55, .ref xa60, .ref xa62, .ref xa67, .int (-1)])), (xa3, .inr (2, [.ref xa4, .ref xa5, .ref xa6, .ref xa7, .ref xa8, .ref xa9, .ref xa10, .int 0, .int 0, .int 0, .int 5, .ref xa11, .ref xa12, .ref xa13, .ref xa14]))]) hD hS hA [0, 1] rfl
  refine va_calli (va_runV (As := [.int 0]) (rest := [.int 0, .ref ou]) ⟨hx, hb, hml, hown, hts⟩ (k10_count_0 l dC dI kB kI kJ kZ kC kS s.heap.size h0 xa1 xa3 xa15 xa27 xa28 xa33 xa38 xa41 xa45 xa46 xa47 xa52 xa54 xa55 xa60 xa62 xa67 xa4 xa5 xa6 xa7 xa8 xa9 xa10 xa11 xa12 xa13 xa14) (cwV 1 hts gL_count_X10_count rfl rfl rfl (by decide +kernel) ⟨Nat.le_of_ble_eq_true rfl, Nat.le_of_ble_eq_true rfl⟩) ⟨fun a U g mk q => by obtain ⟨q0, q1, qP, qE, qD⟩ := q; exact ⟨q0, q1, qP, kE_call qE, qD⟩, va_recv hK hP (ci := 10) (q0 := 0) rfl rfl, fun U hU hW => ⟨rfl, by rw [hU], by rw [hU]; exact hPc, kE_warm hW hE, hDc.weaken (fun _ _ _ _ => trivial)⟩⟩ rfl rfl hl.1 rfl (lv_room (Nat.le_of_ble_eq_true rfl)) dL_count_4 ⟨Nat.le_of_ble_eq_true rfl, Nat.le_of_ble_eq_true rfl⟩) hS (fun q _ h => hFc q h) hFc (fun r1 u t H1 locs ht hvm w2 hB hz1 hk1 hS => ?_)
  obtain ⟨hP1, hD1⟩ := hB
  rw [ht] at hP1
  try dsimp only at w2
  obtain ⟨hP, hD⟩ := va_join (wr := [(ou, .inl (kJ, 1, .inr (.inl fo)))]) (w1 := []) hP hD [0, 1] [2] rfl rfl (by decide) (by decide) hk1 hFc hP1 hD1
  generalize H1 = H at hP hS ⊢
  have hP : va_P (dC, dI) vwCl [(ou, .inl (kJ, 1, .inr (.inl fo)))] H := hP
  have hD : va_D A [(ou, .inl (kJ, 1, .inr (.inl fo)))] := hD
  refine W.widen (k := 0) (n := 0) (Nat.le_of_ble_eq_true rfl) (Nat.le_of_ble_eq_true rfl) ?_
  subst w2
  refine lv_i2l (v := 0) hx hb dL_count_7 (by decide) ?_
  refine va_last hx hb hK hP hD hS 0 2 rfl rfl (vp_in_nI (n := 0) (by decide) (by decide)) dL_count_8 (fun H locs hP hD hS => ?_)
  have hP : va_P (dC, dI) vwCl [(ou, .inl (kJ, 1, .inr (.inl (vp_updL fo 0 0))))] H := hP
  have hD : va_D A [(ou, .inl (kJ, 1, .inr (.inl (vp_updL fo 0 0))))] := hD
  refine lv_goto (tgt := 15) hx hb dL_count_9 (by decide) ?_
  refine lv_iconst (v := 0) hx hb dL_count_15 (by decide) ?_
  have hP9 := hP.sub (ws' := [(ou, .inl (kJ, 1, .inr (.inl (vp_updL fo 0 0))))]) [0] rfl
  have hD9 := hD.sub (ws' := [(ou, .inl (kJ, 1, .inr (.inl (vp_updL fo 0 0))))]) [0] (by decide) rfl
  exact W.iret (v := 0) hx hb hr (fun t ht hW => ⟨⟨0, (), rfl, rfl, vp_updL fo 0 0, rfl, by rw [ht]; exact hP9, hD9⟩, hS.F ht⟩) hS.2.2 dL_count_16
def rm_kL10_count_1 : Room := { frames := 1, cells := 0, slots := 0, locals := 21 }
set_option maxHeartbeats 4000000 in
set_option maxRecDepth 100000 in
theorem kL10_count_1 (l : Launch) (dC : Nat → ClassId) (dI : Nat → Nat → Nat) (kB kI kJ kZ kC kS : ClassId) (sz : Nat) (h0 : Nat) (xa1 : Nat) (xa3 : Nat) (xa15 : Nat) (xa27 : Nat) (xa28 : Nat) (xa33 : Nat) (xa38 : Nat) (xa41 : Nat) (xa45 : Nat) (xa46 : Nat) (xa47 : Nat) (xa52 : Nat) (xa54 : Nat) (xa55 : Nat) (xa60 : Nat) (xa62 : Nat) (xa67 : Nat) (xa4 : Nat) (xa5 : Nat) (xa6 : Nat) (xa7 : Nat) (xa8 : Nat) (xa9 : Nat) (xa10 : Nat) (xa11 : Nat) (xa12 : Nat) (xa13 : Nat) (xa14 : Nat) (ou : Nat) (fo : Nat → Int64) : Met l yL_count wsL_count rm_kL10_count_1 (va_Pc [.ref h0, .int 1, .ref ou] (fun U => U.heap.size = sz ∧ va_P (dC, dI) vwCl [(h0, .inr (10, [.ref xa1, .ref xa3, .ref xa15, .ref xa27, .ref xa28, .ref xa33, .ref xa38, .ref xa41, .ref xa45, .ref xa46, .ref xa47, .ref xa52, .ref xa54, .int 0, .ref xa55, .ref xa60, .ref xa62, .ref xa67, .int (-1)])), (xa3, .inr (2, [.ref xa4, .ref xa5, .ref xa6, .ref xa7, .ref xa8, .ref xa9, .ref xa10, .int 0, .int 0, .int 0, .int 5, .ref xa11, .ref xa12, .ref xa13, .ref xa14])), (ou, .inl (kJ, 1, .inr (.inl fo)))] U.heap ∧ kE dC dI kB kI kJ kZ kC kS U ∧ va_D (fun _ => True) [(h0, .inr (10, [.ref xa1, .ref xa3, .ref xa15, .ref xa27, .ref xa28, .ref xa33, .ref xa38, .ref xa41, .ref xa45, .ref xa46, .ref xa47, .ref xa52, .ref xa54, .int 0, .ref xa55, .ref xa60, .ref xa62, .ref xa67, .int (-1)])), (xa3, .inr (2, [.ref xa4, .ref xa5, .ref xa6, .ref xa7, .ref xa8, .ref xa9, .ref xa10, .int 0, .int 0, .int 0, .int 5, .ref xa11, .ref xa12, .ref xa13, .ref xa14])), (ou, .inl (kJ, 1, .inr (.inl fo)))])) (va_Qi (fun (r : Int32) (_ : Unit) => r = 0) (fun _ t => ∃ (g1 : Nat → Int64), g1 0 = 0 ∧ va_P (dC, dI) vwCl [(ou, .inl (kJ, 1, .inr (.inl g1)))] t.heap ∧ va_D (va_A [(h0, .inr (10, [.ref xa1, .ref xa3, .ref xa15, .ref xa27, .ref xa28, .ref xa33, .ref xa38, .ref xa41, .ref xa45, .ref xa46, .ref xa47, .ref xa52, .ref xa54, .int 0, .ref xa55, .ref xa60, .ref xa62, .ref xa67, .int (-1)])), (xa3, .inr (2, [.ref xa4, .ref xa5, .ref xa6, .ref xa7, .ref xa8, .ref xa9, .ref xa10, .int 0, .int 0, .int 0, .int 5, .ref xa11, .ref xa12, .ref xa13, .ref xa14])), (ou, .inl (kJ, 1, .inr (.inl fo)))] sz) [(ou, .inl (kJ, 1, .inr (.inl g1)))]) (va_A [(h0, .inr (10, [.ref xa1, .ref xa3, .ref xa15, .ref xa27, .ref xa28, .ref xa33, .ref xa38, .ref xa41, .ref xa45, .ref xa46, .ref xa47, .ref xa52, .ref xa54, .int 0, .ref xa55, .ref xa60, .ref xa62, .ref xa67, .int (-1)])), (xa3, .inr (2, [.ref xa4, .ref xa5, .ref xa6, .ref xa7, .ref xa8, .ref xa9, .ref xa10, .int 0, .int 0, .int 0, .int 5, .ref xa11, .ref xa12, .ref xa13, .ref xa14])), (ou, .inl (kJ, 1, .inr (.inl fo)))] sz)) 0 0 (va_A [(h0, .inr (10, [.ref xa1, .ref xa3, .ref xa15, .ref xa27, .ref xa28, .ref xa33, .ref xa38, .ref xa41, .ref xa45, .ref xa46, .ref xa47, .ref xa52, .ref xa54, .int 0, .ref xa55, .ref xa60, .ref xa62, .ref xa67, .int (-1)])), (xa3, .inr (2, [.ref xa4, .ref xa5, .ref xa6, .ref xa7, .ref xa8, .ref xa9, .ref xa10, .int 0, .int 0, .int 0, .int 5, .ref xa11, .ref xa12, .ref xa13, .ref xa14])), (ou, .inl (kJ, 1, .inr (.inl fo)))] sz) := by
  refine va_MetW (cc := cL_count) (maxL := 4) (ret := (some .int)) (by decide) rfl ?_
  intro p e s m args0 below meth c s₁ B hml hv
  obtain ⟨hargs, hsz, hP, hE, hD0⟩ := hv
  have hx := B.exec
  have hb := B.bytes
  have hr := B.returns
  have hts := atoms_spec (ws := wsL_count) B.pre
  have hown : s.vm.findClass RL = some m.cls := findClass_of_methodNamed B.named
  have hlocks := B.notSynchronized
  have hK := hE.1
  have hin10 : ∀ w ∈ wsX100, w ∈ wsL_count := fun _ h9 => List.mem_cons_of_mem _ (List.mem_append_left _ (List.mem_append_left _ (List.mem_append_left _ (List.mem_append_left _ (List.mem_append_left _ (List.mem_append_left _ (List.mem_append_left _ (List.mem_append_left _ (List.mem_append_right _ h9)))))))))
  have hin0 : ∀ w ∈ wsX00, w ∈ wsL_count := fun _ h9 => List.mem_cons_of_mem _ (List.mem_append_left _ (List.mem_append_left _ (List.mem_append_left _ (List.mem_append_left _ (List.mem_append_left _ (List.mem_append_left _ (List.mem_append_left _ (List.mem_append_right _ h9))))))))
  have hin2 : ∀ w ∈ wsX20, w ∈ wsL_count := fun _ h9 => List.mem_cons_of_mem _ (List.mem_append_left _ (List.mem_append_left _ (List.mem_append_left _ (List.mem_append_left _ (List.mem_append_left _ (List.mem_append_left _ (List.mem_append_right _ h9)))))))
  have hin1 : ∀ w ∈ wsX10, w ∈ wsL_count := fun _ h9 => List.mem_cons_of_mem _ (List.mem_append_left _ (List.mem_append_left _ (List.mem_append_left _ (List.mem_append_left _ (List.mem_append_left _ (List.mem_append_right _ h9))))))
  have hin3 : ∀ w ∈ wsX30, w ∈ wsL_count := fun _ h9 => List.mem_cons_of_mem _ (List.mem_append_left _ (List.mem_append_left _ (List.mem_append_left _ (List.mem_append_left _ (List.mem_append_right _ h9)))))
  have hin8 : ∀ w ∈ wsX80, w ∈ wsL_count := fun _ h9 => List.mem_cons_of_mem _ (List.mem_append_left _ (List.mem_append_left _ (List.mem_append_left _ (List.mem_append_right _ h9))))
  have hin4 : ∀ w ∈ wsX40, w ∈ wsL_count := fun _ h9 => List.mem_cons_of_mem _ (List.mem_append_left _ (List.mem_append_left _ (List.mem_append_right _ h9)))
  have hin7 : ∀ w ∈ wsX70, w ∈ wsL_count := fun _ h9 => List.mem_cons_of_mem _ (List.mem_append_left _ (List.mem_append_right _ h9))
  subst hsz
  have hD := hD0.self (sz := s.heap.size)
  generalize hAe : va_A [(h0, .inr (10, [.ref xa1, .ref xa3, .ref xa15, .ref xa27, .ref xa28, .ref xa33, .ref xa38, .ref xa41, .ref xa45, .ref xa46, .ref xa47, .ref xa52, .ref xa54, .int 0, .ref xa55, .ref xa60, .ref xa62, .ref xa67, .int (-1)])), (xa3, .inr (2, [.ref xa4, .ref xa5, .ref xa6, .ref xa7, .ref xa8, .ref xa9, .ref xa10, .int 0, .int 0, .int 0, .int 5, .ref xa11, .ref xa12, .ref xa13, .ref xa14])), (ou, .inl (kJ, 1, .inr (.inl fo)))] s.heap.size = A at hD ⊢
  have hA : ∀ q : Nat, s.heap.size ≤ q → A q := fun q h => by rw [← hAe]; exact Or.inr h
  have hS : va_S A s.heap s.heap [] := va_S.rf
  have hP : va_P (dC, dI) vwCl [(h0, .inr (10, [.ref xa1, .ref xa3, .ref xa15, .ref xa27, .ref xa28, .ref xa33, .ref xa38, .ref xa41, .ref xa45, .ref xa46, .ref xa47, .ref xa52, .ref xa54, .int 0, .ref xa55, .ref xa60, .ref xa62, .ref xa67, .int (-1)])), (xa3, .inr (2, [.ref xa4, .ref xa5, .ref xa6, .ref xa7, .ref xa8, .ref xa9, .ref xa10, .int 0, .int 0, .int 0, .int 5, .ref xa11, .ref xa12, .ref xa13, .ref xa14])), (ou, .inl (kJ, 1, .inr (.inl fo)))] s.heap := hP
  have hl := lv_entry ([.ref h0, .int 1, .ref ou]) (n := 4) (Nat.le_of_ble_eq_true rfl)
  have hla : entryFrame m args0 4 = entryFrame m ([.ref h0, .int 1, .ref ou] : List Value).toArray 4 := by rw [hargs]
  rw [hla, lg_entry_eq]
  generalize (lg_sl ([.ref h0, .int 1, .ref ou]) ++ List.replicate (4 - (lg_sl ([.ref h0, .int 1, .ref ou])).length) Slot.unset).toArray = ls at hl ⊢
  have hl : lv_has ls 4 [(0, .ref h0), (1, .int 1), (2, .ref ou)] := hl
  refine lv_aload_n hx hb dL_count_0 rfl (lv_at hl 2 rfl) ?_
  refine lv_iconst (v := 0) hx hb dL_count_1 (by decide) ?_
  refine lv_aload_n hx hb dL_count_2 rfl (lv_at hl 0 rfl) ?_
  refine lv_iload_n hx hb dL_count_3 rfl (lv_at hl 1 rfl) ?_
  have hPc := hP.sub (ws' := [(h0, .inr (10, [.ref xa1, .ref xa3, .ref xa15, .ref xa27, .ref xa28, .ref xa33, .ref xa38, .ref xa41, .ref xa45, .ref xa46, .ref xa47, .ref xa52, .ref xa54, .int 0, .ref xa55, .ref xa60, .ref xa62, .ref xa67, .int (-1)])), (xa3, .inr (2, [.ref xa4, .ref xa5, .ref xa6, .ref xa7, .ref xa8, .ref xa9, .ref xa10, .int 0, .int 0, .int 0, .int 5, .ref xa11, .ref xa12, .ref xa13, .ref xa14]))]) [0, 1] rfl
  have hDc := hD.sub (ws' := [(h0, .inr (10, [.ref xa1, .ref xa3, .ref xa15, .ref xa27, .ref xa28, .ref xa33, .ref xa38, .ref xa41, .ref xa45, .ref xa46, .ref xa47, .ref xa52, .ref xa54, .int 0, .ref xa55, .ref xa60, .ref xa62, .ref xa67, .int (-1)])), (xa3, .inr (2, [.ref xa4, .ref xa5, .ref xa6, .ref xa7, .ref xa8, .ref xa9, .ref xa10, .int 0, .int 0, .int 0, .int 5, .ref xa11, .ref xa12, .ref xa13, .ref xa14]))]) [0, 1] (by decide) rfl
  have hFc := va_free (wc := [(h0, .inr (10, [.ref xa1, .ref xa3, .ref xa15, .ref xa27, .ref xa28, .ref xa33, .ref xa38, .ref xa41, .ref xa45, .ref xa46, .ref xa47, .ref xa52, .ref xa54, .int 0, .ref xa55, .ref xa60, .ref xa62, .ref xa67, .int (-1)])), (xa3, .inr (2, [.ref xa4, .ref xa5, .ref xa6, .ref xa7, .ref xa8, .ref xa9, .ref xa10, .int 0, .int 0, .int 0, .int 5, .ref xa11, .ref xa12, .ref xa13, .ref xa14]))]) hD hS hA [0, 1] rfl
  refine va_calli (va_runV (As := [.int 1]) (rest := [.int 0, .ref ou]) ⟨hx, hb, hml, hown, hts⟩ (k10_count_1 l dC dI kB kI kJ kZ kC kS s.heap.size h0 xa1 xa3 xa15 xa27 xa28 xa33 xa38 xa41 xa45 xa46 xa47 xa52 xa54 xa55 xa60 xa62 xa67 xa4 xa5 xa6 xa7 xa8 xa9 xa10 xa11 xa12 xa13 xa14) (cwV 1 hts gL_count_X10_count rfl rfl rfl (by decide +kernel) ⟨Nat.le_of_ble_eq_true rfl, Nat.le_of_ble_eq_true rfl⟩) ⟨fun a U g mk q => by obtain ⟨q0, q1, qP, qE, qD⟩ := q; exact ⟨q0, q1, qP, kE_call qE, qD⟩, va_recv hK hP (ci := 10) (q0 := 0) rfl rfl, fun U hU hW => ⟨rfl, by rw [hU], by rw [hU]; exact hPc, kE_warm hW hE, hDc.weaken (fun _ _ _ _ => trivial)⟩⟩ rfl rfl hl.1 rfl (lv_room (Nat.le_of_ble_eq_true rfl)) dL_count_4 ⟨Nat.le_of_ble_eq_true rfl, Nat.le_of_ble_eq_true rfl⟩) hS (fun q _ h => hFc q h) hFc (fun r1 u t H1 locs ht hvm w2 hB hz1 hk1 hS => ?_)
  obtain ⟨hP1, hD1⟩ := hB
  rw [ht] at hP1
  try dsimp only at w2
  obtain ⟨hP, hD⟩ := va_join (wr := [(ou, .inl (kJ, 1, .inr (.inl fo)))]) (w1 := []) hP hD [0, 1] [2] rfl rfl (by decide) (by decide) hk1 hFc hP1 hD1
  generalize H1 = H at hP hS ⊢
  have hP : va_P (dC, dI) vwCl [(ou, .inl (kJ, 1, .inr (.inl fo)))] H := hP
  have hD : va_D A [(ou, .inl (kJ, 1, .inr (.inl fo)))] := hD
  refine W.widen (k := 0) (n := 0) (Nat.le_of_ble_eq_true rfl) (Nat.le_of_ble_eq_true rfl) ?_
  subst w2
  refine lv_i2l (v := 0) hx hb dL_count_7 (by decide) ?_
  refine va_last hx hb hK hP hD hS 0 2 rfl rfl (vp_in_nI (n := 0) (by decide) (by decide)) dL_count_8 (fun H locs hP hD hS => ?_)
  have hP : va_P (dC, dI) vwCl [(ou, .inl (kJ, 1, .inr (.inl (vp_updL fo 0 0))))] H := hP
  have hD : va_D A [(ou, .inl (kJ, 1, .inr (.inl (vp_updL fo 0 0))))] := hD
  refine lv_goto (tgt := 15) hx hb dL_count_9 (by decide) ?_
  refine lv_iconst (v := 0) hx hb dL_count_15 (by decide) ?_
  have hP9 := hP.sub (ws' := [(ou, .inl (kJ, 1, .inr (.inl (vp_updL fo 0 0))))]) [0] rfl
  have hD9 := hD.sub (ws' := [(ou, .inl (kJ, 1, .inr (.inl (vp_updL fo 0 0))))]) [0] (by decide) rfl
  exact W.iret (v := 0) hx hb hr (fun t ht hW => ⟨⟨0, (), rfl, rfl, vp_updL fo 0 0, rfl, by rw [ht]; exact hP9, hD9⟩, hS.F ht⟩) hS.2.2 dL_count_16
def rm_kL10_count_2 : Room := { frames := 1, cells := 0, slots := 0, locals := 21 }
set_option maxHeartbeats 4000000 in
set_option maxRecDepth 100000 in
theorem kL10_count_2 (l : Launch) (dC : Nat → ClassId) (dI : Nat → Nat → Nat) (kB kI kJ kZ kC kS : ClassId) (sz : Nat) (h0 : Nat) (xa1 : Nat) (xa3 : Nat) (xa15 : Nat) (xa27 : Nat) (xa28 : Nat) (xa33 : Nat) (xa38 : Nat) (xa41 : Nat) (xa45 : Nat) (xa46 : Nat) (xa47 : Nat) (xa52 : Nat) (xa54 : Nat) (xa55 : Nat) (xa60 : Nat) (xa62 : Nat) (xa67 : Nat) (xa4 : Nat) (xa5 : Nat) (xa6 : Nat) (xa7 : Nat) (xa8 : Nat) (xa9 : Nat) (xa10 : Nat) (xa11 : Nat) (xa12 : Nat) (xa13 : Nat) (xa14 : Nat) (ou : Nat) (fo : Nat → Int64) : Met l yL_count wsL_count rm_kL10_count_2 (va_Pc [.ref h0, .int 2, .ref ou] (fun U => U.heap.size = sz ∧ va_P (dC, dI) vwCl [(h0, .inr (10, [.ref xa1, .ref xa3, .ref xa15, .ref xa27, .ref xa28, .ref xa33, .ref xa38, .ref xa41, .ref xa45, .ref xa46, .ref xa47, .ref xa52, .ref xa54, .int 0, .ref xa55, .ref xa60, .ref xa62, .ref xa67, .int (-1)])), (xa3, .inr (2, [.ref xa4, .ref xa5, .ref xa6, .ref xa7, .ref xa8, .ref xa9, .ref xa10, .int 0, .int 0, .int 0, .int 5, .ref xa11, .ref xa12, .ref xa13, .ref xa14])), (ou, .inl (kJ, 1, .inr (.inl fo)))] U.heap ∧ kE dC dI kB kI kJ kZ kC kS U ∧ va_D (fun _ => True) [(h0, .inr (10, [.ref xa1, .ref xa3, .ref xa15, .ref xa27, .ref xa28, .ref xa33, .ref xa38, .ref xa41, .ref xa45, .ref xa46, .ref xa47, .ref xa52, .ref xa54, .int 0, .ref xa55, .ref xa60, .ref xa62, .ref xa67, .int (-1)])), (xa3, .inr (2, [.ref xa4, .ref xa5, .ref xa6, .ref xa7, .ref xa8, .ref xa9, .ref xa10, .int 0, .int 0, .int 0, .int 5, .ref xa11, .ref xa12, .ref xa13, .ref xa14])), (ou, .inl (kJ, 1, .inr (.inl fo)))])) (va_Qi (fun (r : Int32) (_ : Unit) => r = 0) (fun _ t => ∃ (g1 : Nat → Int64), g1 0 = 0 ∧ va_P (dC, dI) vwCl [(ou, .inl (kJ, 1, .inr (.inl g1)))] t.heap ∧ va_D (va_A [(h0, .inr (10, [.ref xa1, .ref xa3, .ref xa15, .ref xa27, .ref xa28, .ref xa33, .ref xa38, .ref xa41, .ref xa45, .ref xa46, .ref xa47, .ref xa52, .ref xa54, .int 0, .ref xa55, .ref xa60, .ref xa62, .ref xa67, .int (-1)])), (xa3, .inr (2, [.ref xa4, .ref xa5, .ref xa6, .ref xa7, .ref xa8, .ref xa9, .ref xa10, .int 0, .int 0, .int 0, .int 5, .ref xa11, .ref xa12, .ref xa13, .ref xa14])), (ou, .inl (kJ, 1, .inr (.inl fo)))] sz) [(ou, .inl (kJ, 1, .inr (.inl g1)))]) (va_A [(h0, .inr (10, [.ref xa1, .ref xa3, .ref xa15, .ref xa27, .ref xa28, .ref xa33, .ref xa38, .ref xa41, .ref xa45, .ref xa46, .ref xa47, .ref xa52, .ref xa54, .int 0, .ref xa55, .ref xa60, .ref xa62, .ref xa67, .int (-1)])), (xa3, .inr (2, [.ref xa4, .ref xa5, .ref xa6, .ref xa7, .ref xa8, .ref xa9, .ref xa10, .int 0, .int 0, .int 0, .int 5, .ref xa11, .ref xa12, .ref xa13, .ref xa14])), (ou, .inl (kJ, 1, .inr (.inl fo)))] sz)) 0 0 (va_A [(h0, .inr (10, [.ref xa1, .ref xa3, .ref xa15, .ref xa27, .ref xa28, .ref xa33, .ref xa38, .ref xa41, .ref xa45, .ref xa46, .ref xa47, .ref xa52, .ref xa54, .int 0, .ref xa55, .ref xa60, .ref xa62, .ref xa67, .int (-1)])), (xa3, .inr (2, [.ref xa4, .ref xa5, .ref xa6, .ref xa7, .ref xa8, .ref xa9, .ref xa10, .int 0, .int 0, .int 0, .int 5, .ref xa11, .ref xa12, .ref xa13, .ref xa14])), (ou, .inl (kJ, 1, .inr (.inl fo)))] sz) := by
  refine va_MetW (cc := cL_count) (maxL := 4) (ret := (some .int)) (by decide) rfl ?_
  intro p e s m args0 below meth c s₁ B hml hv
  obtain ⟨hargs, hsz, hP, hE, hD0⟩ := hv
  have hx := B.exec
  have hb := B.bytes
  have hr := B.returns
  have hts := atoms_spec (ws := wsL_count) B.pre
  have hown : s.vm.findClass RL = some m.cls := findClass_of_methodNamed B.named
  have hlocks := B.notSynchronized
  have hK := hE.1
  have hin10 : ∀ w ∈ wsX100, w ∈ wsL_count := fun _ h9 => List.mem_cons_of_mem _ (List.mem_append_left _ (List.mem_append_left _ (List.mem_append_left _ (List.mem_append_left _ (List.mem_append_left _ (List.mem_append_left _ (List.mem_append_left _ (List.mem_append_left _ (List.mem_append_right _ h9)))))))))
  have hin0 : ∀ w ∈ wsX00, w ∈ wsL_count := fun _ h9 => List.mem_cons_of_mem _ (List.mem_append_left _ (List.mem_append_left _ (List.mem_append_left _ (List.mem_append_left _ (List.mem_append_left _ (List.mem_append_left _ (List.mem_append_left _ (List.mem_append_right _ h9))))))))
  have hin2 : ∀ w ∈ wsX20, w ∈ wsL_count := fun _ h9 => List.mem_cons_of_mem _ (List.mem_append_left _ (List.mem_append_left _ (List.mem_append_left _ (List.mem_append_left _ (List.mem_append_left _ (List.mem_append_left _ (List.mem_append_right _ h9)))))))
  have hin1 : ∀ w ∈ wsX10, w ∈ wsL_count := fun _ h9 => List.mem_cons_of_mem _ (List.mem_append_left _ (List.mem_append_left _ (List.mem_append_left _ (List.mem_append_left _ (List.mem_append_left _ (List.mem_append_right _ h9))))))
  have hin3 : ∀ w ∈ wsX30, w ∈ wsL_count := fun _ h9 => List.mem_cons_of_mem _ (List.mem_append_left _ (List.mem_append_left _ (List.mem_append_left _ (List.mem_append_left _ (List.mem_append_right _ h9)))))
  have hin8 : ∀ w ∈ wsX80, w ∈ wsL_count := fun _ h9 => List.mem_cons_of_mem _ (List.mem_append_left _ (List.mem_append_left _ (List.mem_append_left _ (List.mem_append_right _ h9))))
  have hin4 : ∀ w ∈ wsX40, w ∈ wsL_count := fun _ h9 => List.mem_cons_of_mem _ (List.mem_append_left _ (List.mem_append_left _ (List.mem_append_right _ h9)))
  have hin7 : ∀ w ∈ wsX70, w ∈ wsL_count := fun _ h9 => List.mem_cons_of_mem _ (List.mem_append_left _ (List.mem_append_right _ h9))
  subst hsz
  have hD := hD0.self (sz := s.heap.size)
  generalize hAe : va_A [(h0, .inr (10, [.ref xa1, .ref xa3, .ref xa15, .ref xa27, .ref xa28, .ref xa33, .ref xa38, .ref xa41, .ref xa45, .ref xa46, .ref xa47, .ref xa52, .ref xa54, .int 0, .ref xa55, .ref xa60, .ref xa62, .ref xa67, .int (-1)])), (xa3, .inr (2, [.ref xa4, .ref xa5, .ref xa6, .ref xa7, .ref xa8, .ref xa9, .ref xa10, .int 0, .int 0, .int 0, .int 5, .ref xa11, .ref xa12, .ref xa13, .ref xa14])), (ou, .inl (kJ, 1, .inr (.inl fo)))] s.heap.size = A at hD ⊢
  have hA : ∀ q : Nat, s.heap.size ≤ q → A q := fun q h => by rw [← hAe]; exact Or.inr h
  have hS : va_S A s.heap s.heap [] := va_S.rf
  have hP : va_P (dC, dI) vwCl [(h0, .inr (10, [.ref xa1, .ref xa3, .ref xa15, .ref xa27, .ref xa28, .ref xa33, .ref xa38, .ref xa41, .ref xa45, .ref xa46, .ref xa47, .ref xa52, .ref xa54, .int 0, .ref xa55, .ref xa60, .ref xa62, .ref xa67, .int (-1)])), (xa3, .inr (2, [.ref xa4, .ref xa5, .ref xa6, .ref xa7, .ref xa8, .ref xa9, .ref xa10, .int 0, .int 0, .int 0, .int 5, .ref xa11, .ref xa12, .ref xa13, .ref xa14])), (ou, .inl (kJ, 1, .inr (.inl fo)))] s.heap := hP
  have hl := lv_entry ([.ref h0, .int 2, .ref ou]) (n := 4) (Nat.le_of_ble_eq_true rfl)
  have hla : entryFrame m args0 4 = entryFrame m ([.ref h0, .int 2, .ref ou] : List Value).toArray 4 := by rw [hargs]
  rw [hla, lg_entry_eq]
  generalize (lg_sl ([.ref h0, .int 2, .ref ou]) ++ List.replicate (4 - (lg_sl ([.ref h0, .int 2, .ref ou])).length) Slot.unset).toArray = ls at hl ⊢
  have hl : lv_has ls 4 [(0, .ref h0), (1, .int 2), (2, .ref ou)] := hl
  refine lv_aload_n hx hb dL_count_0 rfl (lv_at hl 2 rfl) ?_
  refine lv_iconst (v := 0) hx hb dL_count_1 (by decide) ?_
  refine lv_aload_n hx hb dL_count_2 rfl (lv_at hl 0 rfl) ?_
  refine lv_iload_n hx hb dL_count_3 rfl (lv_at hl 1 rfl) ?_
  have hPc := hP.sub (ws' := [(h0, .inr (10, [.ref xa1, .ref xa3, .ref xa15, .ref xa27, .ref xa28, .ref xa33, .ref xa38, .ref xa41, .ref xa45, .ref xa46, .ref xa47, .ref xa52, .ref xa54, .int 0, .ref xa55, .ref xa60, .ref xa62, .ref xa67, .int (-1)])), (xa3, .inr (2, [.ref xa4, .ref xa5, .ref xa6, .ref xa7, .ref xa8, .ref xa9, .ref xa10, .int 0, .int 0, .int 0, .int 5, .ref xa11, .ref xa12, .ref xa13, .ref xa14]))]) [0, 1] rfl
  have hDc := hD.sub (ws' := [(h0, .inr (10, [.ref xa1, .ref xa3, .ref xa15, .ref xa27, .ref xa28, .ref xa33, .ref xa38, .ref xa41, .ref xa45, .ref xa46, .ref xa47, .ref xa52, .ref xa54, .int 0, .ref xa55, .ref xa60, .ref xa62, .ref xa67, .int (-1)])), (xa3, .inr (2, [.ref xa4, .ref xa5, .ref xa6, .ref xa7, .ref xa8, .ref xa9, .ref xa10, .int 0, .int 0, .int 0, .int 5, .ref xa11, .ref xa12, .ref xa13, .ref xa14]))]) [0, 1] (by decide) rfl
  have hFc := va_free (wc := [(h0, .inr (10, [.ref xa1, .ref xa3, .ref xa15, .ref xa27, .ref xa28, .ref xa33, .ref xa38, .ref xa41, .ref xa45, .ref xa46, .ref xa47, .ref xa52, .ref xa54, .int 0, .ref xa55, .ref xa60, .ref xa62, .ref xa67, .int (-1)])), (xa3, .inr (2, [.ref xa4, .ref xa5, .ref xa6, .ref xa7, .ref xa8, .ref xa9, .ref xa10, .int 0, .int 0, .int 0, .int 5, .ref xa11, .ref xa12, .ref xa13, .ref xa14]))]) hD hS hA [0, 1] rfl
  refine va_calli (va_runV (As := [.int 2]) (rest := [.int 0, .ref ou]) ⟨hx, hb, hml, hown, hts⟩ (k10_count_2 l dC dI kB kI kJ kZ kC kS s.heap.size h0 xa1 xa3 xa15 xa27 xa28 xa33 xa38 xa41 xa45 xa46 xa47 xa52 xa54 xa55 xa60 xa62 xa67 xa4 xa5 xa6 xa7 xa8 xa9 xa10 xa11 xa12 xa13 xa14) (cwV 1 hts gL_count_X10_count rfl rfl rfl (by decide +kernel) ⟨Nat.le_of_ble_eq_true rfl, Nat.le_of_ble_eq_true rfl⟩) ⟨fun a U g mk q => by obtain ⟨q0, q1, qP, qE, qD⟩ := q; exact ⟨q0, q1, qP, kE_call qE, qD⟩, va_recv hK hP (ci := 10) (q0 := 0) rfl rfl, fun U hU hW => ⟨rfl, by rw [hU], by rw [hU]; exact hPc, kE_warm hW hE, hDc.weaken (fun _ _ _ _ => trivial)⟩⟩ rfl rfl hl.1 rfl (lv_room (Nat.le_of_ble_eq_true rfl)) dL_count_4 ⟨Nat.le_of_ble_eq_true rfl, Nat.le_of_ble_eq_true rfl⟩) hS (fun q _ h => hFc q h) hFc (fun r1 u t H1 locs ht hvm w2 hB hz1 hk1 hS => ?_)
  obtain ⟨hP1, hD1⟩ := hB
  rw [ht] at hP1
  try dsimp only at w2
  obtain ⟨hP, hD⟩ := va_join (wr := [(ou, .inl (kJ, 1, .inr (.inl fo)))]) (w1 := []) hP hD [0, 1] [2] rfl rfl (by decide) (by decide) hk1 hFc hP1 hD1
  generalize H1 = H at hP hS ⊢
  have hP : va_P (dC, dI) vwCl [(ou, .inl (kJ, 1, .inr (.inl fo)))] H := hP
  have hD : va_D A [(ou, .inl (kJ, 1, .inr (.inl fo)))] := hD
  refine W.widen (k := 0) (n := 0) (Nat.le_of_ble_eq_true rfl) (Nat.le_of_ble_eq_true rfl) ?_
  subst w2
  refine lv_i2l (v := 0) hx hb dL_count_7 (by decide) ?_
  refine va_last hx hb hK hP hD hS 0 2 rfl rfl (vp_in_nI (n := 0) (by decide) (by decide)) dL_count_8 (fun H locs hP hD hS => ?_)
  have hP : va_P (dC, dI) vwCl [(ou, .inl (kJ, 1, .inr (.inl (vp_updL fo 0 0))))] H := hP
  have hD : va_D A [(ou, .inl (kJ, 1, .inr (.inl (vp_updL fo 0 0))))] := hD
  refine lv_goto (tgt := 15) hx hb dL_count_9 (by decide) ?_
  refine lv_iconst (v := 0) hx hb dL_count_15 (by decide) ?_
  have hP9 := hP.sub (ws' := [(ou, .inl (kJ, 1, .inr (.inl (vp_updL fo 0 0))))]) [0] rfl
  have hD9 := hD.sub (ws' := [(ou, .inl (kJ, 1, .inr (.inl (vp_updL fo 0 0))))]) [0] (by decide) rfl
  exact W.iret (v := 0) hx hb hr (fun t ht hW => ⟨⟨0, (), rfl, rfl, vp_updL fo 0 0, rfl, by rw [ht]; exact hP9, hD9⟩, hS.F ht⟩) hS.2.2 dL_count_16
def rm_kL10_count_3 : Room := { frames := 1, cells := 0, slots := 0, locals := 21 }
set_option maxHeartbeats 4000000 in
set_option maxRecDepth 100000 in
theorem kL10_count_3 (l : Launch) (dC : Nat → ClassId) (dI : Nat → Nat → Nat) (kB kI kJ kZ kC kS : ClassId) (sz : Nat) (h0 : Nat) (xa1 : Nat) (xa3 : Nat) (xa15 : Nat) (xa27 : Nat) (xa28 : Nat) (xa33 : Nat) (xa38 : Nat) (xa41 : Nat) (xa45 : Nat) (xa46 : Nat) (xa47 : Nat) (xa52 : Nat) (xa54 : Nat) (xa55 : Nat) (xa60 : Nat) (xa62 : Nat) (xa67 : Nat) (xa29 : Nat) (xa30 : Nat) (xa31 : Nat) (xa32 : Nat) (ou : Nat) (fo : Nat → Int64) : Met l yL_count wsL_count rm_kL10_count_3 (va_Pc [.ref h0, .int 3, .ref ou] (fun U => U.heap.size = sz ∧ va_P (dC, dI) vwCl [(h0, .inr (10, [.ref xa1, .ref xa3, .ref xa15, .ref xa27, .ref xa28, .ref xa33, .ref xa38, .ref xa41, .ref xa45, .ref xa46, .ref xa47, .ref xa52, .ref xa54, .int 0, .ref xa55, .ref xa60, .ref xa62, .ref xa67, .int (-1)])), (xa28, .inr (0, [.ref xa29, .ref xa30, .ref xa31, .ref xa32, .int 5, .int 0, .int 0, .int 0, .int 0, .int 0])), (xa29, .inl (kJ, 96, .inr (.inl (fun _ => 0)))), (xa30, .inl (kI, 30, .inl (fun _ => 0))), (xa31, .inl (kI, 12, .inl (fun _ => 0))), (xa32, .inl (kI, 12, .inl (fun _ => 0))), (ou, .inl (kJ, 1, .inr (.inl fo)))] U.heap ∧ kE dC dI kB kI kJ kZ kC kS U ∧ va_D (fun _ => True) [(h0, .inr (10, [.ref xa1, .ref xa3, .ref xa15, .ref xa27, .ref xa28, .ref xa33, .ref xa38, .ref xa41, .ref xa45, .ref xa46, .ref xa47, .ref xa52, .ref xa54, .int 0, .ref xa55, .ref xa60, .ref xa62, .ref xa67, .int (-1)])), (xa28, .inr (0, [.ref xa29, .ref xa30, .ref xa31, .ref xa32, .int 5, .int 0, .int 0, .int 0, .int 0, .int 0])), (xa29, .inl (kJ, 96, .inr (.inl (fun _ => 0)))), (xa30, .inl (kI, 30, .inl (fun _ => 0))), (xa31, .inl (kI, 12, .inl (fun _ => 0))), (xa32, .inl (kI, 12, .inl (fun _ => 0))), (ou, .inl (kJ, 1, .inr (.inl fo)))])) (va_Qi (fun (r : Int32) (_ : Unit) => r = 0) (fun _ t => ∃ (g1 : Nat → Int64), g1 0 = 5 ∧ va_P (dC, dI) vwCl [(ou, .inl (kJ, 1, .inr (.inl g1)))] t.heap ∧ va_D (va_A [(h0, .inr (10, [.ref xa1, .ref xa3, .ref xa15, .ref xa27, .ref xa28, .ref xa33, .ref xa38, .ref xa41, .ref xa45, .ref xa46, .ref xa47, .ref xa52, .ref xa54, .int 0, .ref xa55, .ref xa60, .ref xa62, .ref xa67, .int (-1)])), (xa28, .inr (0, [.ref xa29, .ref xa30, .ref xa31, .ref xa32, .int 5, .int 0, .int 0, .int 0, .int 0, .int 0])), (xa29, .inl (kJ, 96, .inr (.inl (fun _ => 0)))), (xa30, .inl (kI, 30, .inl (fun _ => 0))), (xa31, .inl (kI, 12, .inl (fun _ => 0))), (xa32, .inl (kI, 12, .inl (fun _ => 0))), (ou, .inl (kJ, 1, .inr (.inl fo)))] sz) [(ou, .inl (kJ, 1, .inr (.inl g1)))]) (va_A [(h0, .inr (10, [.ref xa1, .ref xa3, .ref xa15, .ref xa27, .ref xa28, .ref xa33, .ref xa38, .ref xa41, .ref xa45, .ref xa46, .ref xa47, .ref xa52, .ref xa54, .int 0, .ref xa55, .ref xa60, .ref xa62, .ref xa67, .int (-1)])), (xa28, .inr (0, [.ref xa29, .ref xa30, .ref xa31, .ref xa32, .int 5, .int 0, .int 0, .int 0, .int 0, .int 0])), (xa29, .inl (kJ, 96, .inr (.inl (fun _ => 0)))), (xa30, .inl (kI, 30, .inl (fun _ => 0))), (xa31, .inl (kI, 12, .inl (fun _ => 0))), (xa32, .inl (kI, 12, .inl (fun _ => 0))), (ou, .inl (kJ, 1, .inr (.inl fo)))] sz)) 0 0 (va_A [(h0, .inr (10, [.ref xa1, .ref xa3, .ref xa15, .ref xa27, .ref xa28, .ref xa33, .ref xa38, .ref xa41, .ref xa45, .ref xa46, .ref xa47, .ref xa52, .ref xa54, .int 0, .ref xa55, .ref xa60, .ref xa62, .ref xa67, .int (-1)])), (xa28, .inr (0, [.ref xa29, .ref xa30, .ref xa31, .ref xa32, .int 5, .int 0, .int 0, .int 0, .int 0, .int 0])), (xa29, .inl (kJ, 96, .inr (.inl (fun _ => 0)))), (xa30, .inl (kI, 30, .inl (fun _ => 0))), (xa31, .inl (kI, 12, .inl (fun _ => 0))), (xa32, .inl (kI, 12, .inl (fun _ => 0))), (ou, .inl (kJ, 1, .inr (.inl fo)))] sz) := by
  refine va_MetW (cc := cL_count) (maxL := 4) (ret := (some .int)) (by decide) rfl ?_
  intro p e s m args0 below meth c s₁ B hml hv
  obtain ⟨hargs, hsz, hP, hE, hD0⟩ := hv
  have hx := B.exec
  have hb := B.bytes
  have hr := B.returns
  have hts := atoms_spec (ws := wsL_count) B.pre
  have hown : s.vm.findClass RL = some m.cls := findClass_of_methodNamed B.named
  have hlocks := B.notSynchronized
  have hK := hE.1
  have hin10 : ∀ w ∈ wsX100, w ∈ wsL_count := fun _ h9 => List.mem_cons_of_mem _ (List.mem_append_left _ (List.mem_append_left _ (List.mem_append_left _ (List.mem_append_left _ (List.mem_append_left _ (List.mem_append_left _ (List.mem_append_left _ (List.mem_append_left _ (List.mem_append_right _ h9)))))))))
  have hin0 : ∀ w ∈ wsX00, w ∈ wsL_count := fun _ h9 => List.mem_cons_of_mem _ (List.mem_append_left _ (List.mem_append_left _ (List.mem_append_left _ (List.mem_append_left _ (List.mem_append_left _ (List.mem_append_left _ (List.mem_append_left _ (List.mem_append_right _ h9))))))))
  have hin2 : ∀ w ∈ wsX20, w ∈ wsL_count := fun _ h9 => List.mem_cons_of_mem _ (List.mem_append_left _ (List.mem_append_left _ (List.mem_append_left _ (List.mem_append_left _ (List.mem_append_left _ (List.mem_append_left _ (List.mem_append_right _ h9)))))))
  have hin1 : ∀ w ∈ wsX10, w ∈ wsL_count := fun _ h9 => List.mem_cons_of_mem _ (List.mem_append_left _ (List.mem_append_left _ (List.mem_append_left _ (List.mem_append_left _ (List.mem_append_left _ (List.mem_append_right _ h9))))))
  have hin3 : ∀ w ∈ wsX30, w ∈ wsL_count := fun _ h9 => List.mem_cons_of_mem _ (List.mem_append_left _ (List.mem_append_left _ (List.mem_append_left _ (List.mem_append_left _ (List.mem_append_right _ h9)))))
  have hin8 : ∀ w ∈ wsX80, w ∈ wsL_count := fun _ h9 => List.mem_cons_of_mem _ (List.mem_append_left _ (List.mem_append_left _ (List.mem_append_left _ (List.mem_append_right _ h9))))
  have hin4 : ∀ w ∈ wsX40, w ∈ wsL_count := fun _ h9 => List.mem_cons_of_mem _ (List.mem_append_left _ (List.mem_append_left _ (List.mem_append_right _ h9)))
  have hin7 : ∀ w ∈ wsX70, w ∈ wsL_count := fun _ h9 => List.mem_cons_of_mem _ (List.mem_append_left _ (List.mem_append_right _ h9))
  subst hsz
  have hD := hD0.self (sz := s.heap.size)
  generalize hAe : va_A [(h0, .inr (10, [.ref xa1, .ref xa3, .ref xa15, .ref xa27, .ref xa28, .ref xa33, .ref xa38, .ref xa41, .ref xa45, .ref xa46, .ref xa47, .ref xa52, .ref xa54, .int 0, .ref xa55, .ref xa60, .ref xa62, .ref xa67, .int (-1)])), (xa28, .inr (0, [.ref xa29, .ref xa30, .ref xa31, .ref xa32, .int 5, .int 0, .int 0, .int 0, .int 0, .int 0])), (xa29, .inl (kJ, 96, .inr (.inl (fun _ => 0)))), (xa30, .inl (kI, 30, .inl (fun _ => 0))), (xa31, .inl (kI, 12, .inl (fun _ => 0))), (xa32, .inl (kI, 12, .inl (fun _ => 0))), (ou, .inl (kJ, 1, .inr (.inl fo)))] s.heap.size = A at hD ⊢
  have hA : ∀ q : Nat, s.heap.size ≤ q → A q := fun q h => by rw [← hAe]; exact Or.inr h
  have hS : va_S A s.heap s.heap [] := va_S.rf
  have hP : va_P (dC, dI) vwCl [(h0, .inr (10, [.ref xa1, .ref xa3, .ref xa15, .ref xa27, .ref xa28, .ref xa33, .ref xa38, .ref xa41, .ref xa45, .ref xa46, .ref xa47, .ref xa52, .ref xa54, .int 0, .ref xa55, .ref xa60, .ref xa62, .ref xa67, .int (-1)])), (xa28, .inr (0, [.ref xa29, .ref xa30, .ref xa31, .ref xa32, .int 5, .int 0, .int 0, .int 0, .int 0, .int 0])), (xa29, .inl (kJ, 96, .inr (.inl (fun _ => 0)))), (xa30, .inl (kI, 30, .inl (fun _ => 0))), (xa31, .inl (kI, 12, .inl (fun _ => 0))), (xa32, .inl (kI, 12, .inl (fun _ => 0))), (ou, .inl (kJ, 1, .inr (.inl fo)))] s.heap := hP
  have hl := lv_entry ([.ref h0, .int 3, .ref ou]) (n := 4) (Nat.le_of_ble_eq_true rfl)
  have hla : entryFrame m args0 4 = entryFrame m ([.ref h0, .int 3, .ref ou] : List Value).toArray 4 := by rw [hargs]
  rw [hla, lg_entry_eq]
  generalize (lg_sl ([.ref h0, .int 3, .ref ou]) ++ List.replicate (4 - (lg_sl ([.ref h0, .int 3, .ref ou])).length) Slot.unset).toArray = ls at hl ⊢
  have hl : lv_has ls 4 [(0, .ref h0), (1, .int 3), (2, .ref ou)] := hl
  refine lv_aload_n hx hb dL_count_0 rfl (lv_at hl 2 rfl) ?_
  refine lv_iconst (v := 0) hx hb dL_count_1 (by decide) ?_
  refine lv_aload_n hx hb dL_count_2 rfl (lv_at hl 0 rfl) ?_
  refine lv_iload_n hx hb dL_count_3 rfl (lv_at hl 1 rfl) ?_
  have hPc := hP.sub (ws' := [(h0, .inr (10, [.ref xa1, .ref xa3, .ref xa15, .ref xa27, .ref xa28, .ref xa33, .ref xa38, .ref xa41, .ref xa45, .ref xa46, .ref xa47, .ref xa52, .ref xa54, .int 0, .ref xa55, .ref xa60, .ref xa62, .ref xa67, .int (-1)])), (xa28, .inr (0, [.ref xa29, .ref xa30, .ref xa31, .ref xa32, .int 5, .int 0, .int 0, .int 0, .int 0, .int 0])), (xa29, .inl (kJ, 96, .inr (.inl (fun _ => 0)))), (xa30, .inl (kI, 30, .inl (fun _ => 0))), (xa31, .inl (kI, 12, .inl (fun _ => 0))), (xa32, .inl (kI, 12, .inl (fun _ => 0)))]) [0, 1, 2, 3, 4, 5] rfl
  have hDc := hD.sub (ws' := [(h0, .inr (10, [.ref xa1, .ref xa3, .ref xa15, .ref xa27, .ref xa28, .ref xa33, .ref xa38, .ref xa41, .ref xa45, .ref xa46, .ref xa47, .ref xa52, .ref xa54, .int 0, .ref xa55, .ref xa60, .ref xa62, .ref xa67, .int (-1)])), (xa28, .inr (0, [.ref xa29, .ref xa30, .ref xa31, .ref xa32, .int 5, .int 0, .int 0, .int 0, .int 0, .int 0])), (xa29, .inl (kJ, 96, .inr (.inl (fun _ => 0)))), (xa30, .inl (kI, 30, .inl (fun _ => 0))), (xa31, .inl (kI, 12, .inl (fun _ => 0))), (xa32, .inl (kI, 12, .inl (fun _ => 0)))]) [0, 1, 2, 3, 4, 5] (by decide) rfl
  have hFc := va_free (wc := [(h0, .inr (10, [.ref xa1, .ref xa3, .ref xa15, .ref xa27, .ref xa28, .ref xa33, .ref xa38, .ref xa41, .ref xa45, .ref xa46, .ref xa47, .ref xa52, .ref xa54, .int 0, .ref xa55, .ref xa60, .ref xa62, .ref xa67, .int (-1)])), (xa28, .inr (0, [.ref xa29, .ref xa30, .ref xa31, .ref xa32, .int 5, .int 0, .int 0, .int 0, .int 0, .int 0])), (xa29, .inl (kJ, 96, .inr (.inl (fun _ => 0)))), (xa30, .inl (kI, 30, .inl (fun _ => 0))), (xa31, .inl (kI, 12, .inl (fun _ => 0))), (xa32, .inl (kI, 12, .inl (fun _ => 0)))]) hD hS hA [0, 1, 2, 3, 4, 5] rfl
  refine va_calli (va_runV (As := [.int 3]) (rest := [.int 0, .ref ou]) ⟨hx, hb, hml, hown, hts⟩ (k10_count_3 l dC dI kB kI kJ kZ kC kS s.heap.size h0 xa1 xa3 xa15 xa27 xa28 xa33 xa38 xa41 xa45 xa46 xa47 xa52 xa54 xa55 xa60 xa62 xa67 xa29 xa30 xa31 xa32) (cwV 1 hts gL_count_X10_count rfl rfl rfl (by decide +kernel) ⟨Nat.le_of_ble_eq_true rfl, Nat.le_of_ble_eq_true rfl⟩) ⟨fun a U g mk q => by obtain ⟨q0, q1, qP, qE, qD⟩ := q; exact ⟨q0, q1, qP, kE_call qE, qD⟩, va_recv hK hP (ci := 10) (q0 := 0) rfl rfl, fun U hU hW => ⟨rfl, by rw [hU], by rw [hU]; exact hPc, kE_warm hW hE, hDc.weaken (fun _ _ _ _ => trivial)⟩⟩ rfl rfl hl.1 rfl (lv_room (Nat.le_of_ble_eq_true rfl)) dL_count_4 ⟨Nat.le_of_ble_eq_true rfl, Nat.le_of_ble_eq_true rfl⟩) hS (fun q _ h => hFc q h) hFc (fun r1 u t H1 locs ht hvm w2 hB hz1 hk1 hS => ?_)
  obtain ⟨hP1, hD1⟩ := hB
  rw [ht] at hP1
  try dsimp only at w2
  obtain ⟨hP, hD⟩ := va_join (wr := [(ou, .inl (kJ, 1, .inr (.inl fo)))]) (w1 := []) hP hD [0, 1, 2, 3, 4, 5] [6] rfl rfl (by decide) (by decide) hk1 hFc hP1 hD1
  generalize H1 = H at hP hS ⊢
  have hP : va_P (dC, dI) vwCl [(ou, .inl (kJ, 1, .inr (.inl fo)))] H := hP
  have hD : va_D A [(ou, .inl (kJ, 1, .inr (.inl fo)))] := hD
  refine W.widen (k := 0) (n := 0) (Nat.le_of_ble_eq_true rfl) (Nat.le_of_ble_eq_true rfl) ?_
  subst w2
  refine lv_i2l (v := 5) hx hb dL_count_7 (by decide) ?_
  refine va_last hx hb hK hP hD hS 0 2 rfl rfl (vp_in_nI (n := 0) (by decide) (by decide)) dL_count_8 (fun H locs hP hD hS => ?_)
  have hP : va_P (dC, dI) vwCl [(ou, .inl (kJ, 1, .inr (.inl (vp_updL fo 0 5))))] H := hP
  have hD : va_D A [(ou, .inl (kJ, 1, .inr (.inl (vp_updL fo 0 5))))] := hD
  refine lv_goto (tgt := 15) hx hb dL_count_9 (by decide) ?_
  refine lv_iconst (v := 0) hx hb dL_count_15 (by decide) ?_
  have hP9 := hP.sub (ws' := [(ou, .inl (kJ, 1, .inr (.inl (vp_updL fo 0 5))))]) [0] rfl
  have hD9 := hD.sub (ws' := [(ou, .inl (kJ, 1, .inr (.inl (vp_updL fo 0 5))))]) [0] (by decide) rfl
  exact W.iret (v := 0) hx hb hr (fun t ht hW => ⟨⟨0, (), rfl, rfl, vp_updL fo 0 5, rfl, by rw [ht]; exact hP9, hD9⟩, hS.F ht⟩) hS.2.2 dL_count_16
def rm_kL10_count_4 : Room := { frames := 4, cells := 0, slots := 0, locals := 92 }
set_option maxHeartbeats 4000000 in
set_option maxRecDepth 100000 in
theorem kL10_count_4 (l : Launch) (dC : Nat → ClassId) (dI : Nat → Nat → Nat) (kB kI kJ kZ kC kS : ClassId) (sz : Nat) (h0 : Nat) (xa1 : Nat) (xa3 : Nat) (xa15 : Nat) (xa27 : Nat) (xa28 : Nat) (xa33 : Nat) (xa38 : Nat) (xa41 : Nat) (xa45 : Nat) (xa46 : Nat) (xa47 : Nat) (xa52 : Nat) (xa54 : Nat) (xa55 : Nat) (xa60 : Nat) (xa62 : Nat) (xa67 : Nat) (xa29 : Nat) (xa30 : Nat) (xa31 : Nat) (xa32 : Nat) (xa39 : Nat) (xa40 : Nat) (ou : Nat) (fo : Nat → Int64) : Met l yL_count wsL_count rm_kL10_count_4 (va_Pc [.ref h0, .int 4, .ref ou] (fun U => U.heap.size = sz ∧ va_P (dC, dI) vwCl [(h0, .inr (10, [.ref xa1, .ref xa3, .ref xa15, .ref xa27, .ref xa28, .ref xa33, .ref xa38, .ref xa41, .ref xa45, .ref xa46, .ref xa47, .ref xa52, .ref xa54, .int 0, .ref xa55, .ref xa60, .ref xa62, .ref xa67, .int (-1)])), (xa28, .inr (0, [.ref xa29, .ref xa30, .ref xa31, .ref xa32, .int 5, .int 0, .int 0, .int 0, .int 0, .int 0])), (xa29, .inl (kJ, 96, .inr (.inl (fun _ => 0)))), (xa30, .inl (kI, 30, .inl (fun _ => 0))), (xa31, .inl (kI, 12, .inl (fun _ => 0))), (xa32, .inl (kI, 12, .inl (fun _ => 0))), (xa38, .inr (4, [.ref xa39, .ref xa40, .int 0])), (xa39, .inl (kJ, 23, .inr (.inl (fun _ => 0)))), (xa40, .inl (kI, 4, .inl (fun _ => 0))), (ou, .inl (kJ, 1, .inr (.inl fo)))] U.heap ∧ kE dC dI kB kI kJ kZ kC kS U ∧ va_D (fun _ => True) [(h0, .inr (10, [.ref xa1, .ref xa3, .ref xa15, .ref xa27, .ref xa28, .ref xa33, .ref xa38, .ref xa41, .ref xa45, .ref xa46, .ref xa47, .ref xa52, .ref xa54, .int 0, .ref xa55, .ref xa60, .ref xa62, .ref xa67, .int (-1)])), (xa28, .inr (0, [.ref xa29, .ref xa30, .ref xa31, .ref xa32, .int 5, .int 0, .int 0, .int 0, .int 0, .int 0])), (xa29, .inl (kJ, 96, .inr (.inl (fun _ => 0)))), (xa30, .inl (kI, 30, .inl (fun _ => 0))), (xa31, .inl (kI, 12, .inl (fun _ => 0))), (xa32, .inl (kI, 12, .inl (fun _ => 0))), (xa38, .inr (4, [.ref xa39, .ref xa40, .int 0])), (xa39, .inl (kJ, 23, .inr (.inl (fun _ => 0)))), (xa40, .inl (kI, 4, .inl (fun _ => 0))), (ou, .inl (kJ, 1, .inr (.inl fo)))])) (va_Qi (fun (r : Int32) (_ : Unit) => r = 0) (fun _ t => ∃ (g1 : Nat → Int64), g1 0 = 6 ∧ va_P (dC, dI) vwCl [(ou, .inl (kJ, 1, .inr (.inl g1)))] t.heap ∧ va_D (va_A [(h0, .inr (10, [.ref xa1, .ref xa3, .ref xa15, .ref xa27, .ref xa28, .ref xa33, .ref xa38, .ref xa41, .ref xa45, .ref xa46, .ref xa47, .ref xa52, .ref xa54, .int 0, .ref xa55, .ref xa60, .ref xa62, .ref xa67, .int (-1)])), (xa28, .inr (0, [.ref xa29, .ref xa30, .ref xa31, .ref xa32, .int 5, .int 0, .int 0, .int 0, .int 0, .int 0])), (xa29, .inl (kJ, 96, .inr (.inl (fun _ => 0)))), (xa30, .inl (kI, 30, .inl (fun _ => 0))), (xa31, .inl (kI, 12, .inl (fun _ => 0))), (xa32, .inl (kI, 12, .inl (fun _ => 0))), (xa38, .inr (4, [.ref xa39, .ref xa40, .int 0])), (xa39, .inl (kJ, 23, .inr (.inl (fun _ => 0)))), (xa40, .inl (kI, 4, .inl (fun _ => 0))), (ou, .inl (kJ, 1, .inr (.inl fo)))] sz) [(ou, .inl (kJ, 1, .inr (.inl g1)))]) (va_A [(h0, .inr (10, [.ref xa1, .ref xa3, .ref xa15, .ref xa27, .ref xa28, .ref xa33, .ref xa38, .ref xa41, .ref xa45, .ref xa46, .ref xa47, .ref xa52, .ref xa54, .int 0, .ref xa55, .ref xa60, .ref xa62, .ref xa67, .int (-1)])), (xa28, .inr (0, [.ref xa29, .ref xa30, .ref xa31, .ref xa32, .int 5, .int 0, .int 0, .int 0, .int 0, .int 0])), (xa29, .inl (kJ, 96, .inr (.inl (fun _ => 0)))), (xa30, .inl (kI, 30, .inl (fun _ => 0))), (xa31, .inl (kI, 12, .inl (fun _ => 0))), (xa32, .inl (kI, 12, .inl (fun _ => 0))), (xa38, .inr (4, [.ref xa39, .ref xa40, .int 0])), (xa39, .inl (kJ, 23, .inr (.inl (fun _ => 0)))), (xa40, .inl (kI, 4, .inl (fun _ => 0))), (ou, .inl (kJ, 1, .inr (.inl fo)))] sz)) 0 0 (va_A [(h0, .inr (10, [.ref xa1, .ref xa3, .ref xa15, .ref xa27, .ref xa28, .ref xa33, .ref xa38, .ref xa41, .ref xa45, .ref xa46, .ref xa47, .ref xa52, .ref xa54, .int 0, .ref xa55, .ref xa60, .ref xa62, .ref xa67, .int (-1)])), (xa28, .inr (0, [.ref xa29, .ref xa30, .ref xa31, .ref xa32, .int 5, .int 0, .int 0, .int 0, .int 0, .int 0])), (xa29, .inl (kJ, 96, .inr (.inl (fun _ => 0)))), (xa30, .inl (kI, 30, .inl (fun _ => 0))), (xa31, .inl (kI, 12, .inl (fun _ => 0))), (xa32, .inl (kI, 12, .inl (fun _ => 0))), (xa38, .inr (4, [.ref xa39, .ref xa40, .int 0])), (xa39, .inl (kJ, 23, .inr (.inl (fun _ => 0)))), (xa40, .inl (kI, 4, .inl (fun _ => 0))), (ou, .inl (kJ, 1, .inr (.inl fo)))] sz) := by
  refine va_MetW (cc := cL_count) (maxL := 4) (ret := (some .int)) (by decide) rfl ?_
  intro p e s m args0 below meth c s₁ B hml hv
  obtain ⟨hargs, hsz, hP, hE, hD0⟩ := hv
  have hx := B.exec
  have hb := B.bytes
  have hr := B.returns
  have hts := atoms_spec (ws := wsL_count) B.pre
  have hown : s.vm.findClass RL = some m.cls := findClass_of_methodNamed B.named
  have hlocks := B.notSynchronized
  have hK := hE.1
  have hin10 : ∀ w ∈ wsX100, w ∈ wsL_count := fun _ h9 => List.mem_cons_of_mem _ (List.mem_append_left _ (List.mem_append_left _ (List.mem_append_left _ (List.mem_append_left _ (List.mem_append_left _ (List.mem_append_left _ (List.mem_append_left _ (List.mem_append_left _ (List.mem_append_right _ h9)))))))))
  have hin0 : ∀ w ∈ wsX00, w ∈ wsL_count := fun _ h9 => List.mem_cons_of_mem _ (List.mem_append_left _ (List.mem_append_left _ (List.mem_append_left _ (List.mem_append_left _ (List.mem_append_left _ (List.mem_append_left _ (List.mem_append_left _ (List.mem_append_right _ h9))))))))
  have hin2 : ∀ w ∈ wsX20, w ∈ wsL_count := fun _ h9 => List.mem_cons_of_mem _ (List.mem_append_left _ (List.mem_append_left _ (List.mem_append_left _ (List.mem_append_left _ (List.mem_append_left _ (List.mem_append_left _ (List.mem_append_right _ h9)))))))
  have hin1 : ∀ w ∈ wsX10, w ∈ wsL_count := fun _ h9 => List.mem_cons_of_mem _ (List.mem_append_left _ (List.mem_append_left _ (List.mem_append_left _ (List.mem_append_left _ (List.mem_append_left _ (List.mem_append_right _ h9))))))
  have hin3 : ∀ w ∈ wsX30, w ∈ wsL_count := fun _ h9 => List.mem_cons_of_mem _ (List.mem_append_left _ (List.mem_append_left _ (List.mem_append_left _ (List.mem_append_left _ (List.mem_append_right _ h9)))))
  have hin8 : ∀ w ∈ wsX80, w ∈ wsL_count := fun _ h9 => List.mem_cons_of_mem _ (List.mem_append_left _ (List.mem_append_left _ (List.mem_append_left _ (List.mem_append_right _ h9))))
  have hin4 : ∀ w ∈ wsX40, w ∈ wsL_count := fun _ h9 => List.mem_cons_of_mem _ (List.mem_append_left _ (List.mem_append_left _ (List.mem_append_right _ h9)))
  have hin7 : ∀ w ∈ wsX70, w ∈ wsL_count := fun _ h9 => List.mem_cons_of_mem _ (List.mem_append_left _ (List.mem_append_right _ h9))
  subst hsz
  have hD := hD0.self (sz := s.heap.size)
  generalize hAe : va_A [(h0, .inr (10, [.ref xa1, .ref xa3, .ref xa15, .ref xa27, .ref xa28, .ref xa33, .ref xa38, .ref xa41, .ref xa45, .ref xa46, .ref xa47, .ref xa52, .ref xa54, .int 0, .ref xa55, .ref xa60, .ref xa62, .ref xa67, .int (-1)])), (xa28, .inr (0, [.ref xa29, .ref xa30, .ref xa31, .ref xa32, .int 5, .int 0, .int 0, .int 0, .int 0, .int 0])), (xa29, .inl (kJ, 96, .inr (.inl (fun _ => 0)))), (xa30, .inl (kI, 30, .inl (fun _ => 0))), (xa31, .inl (kI, 12, .inl (fun _ => 0))), (xa32, .inl (kI, 12, .inl (fun _ => 0))), (xa38, .inr (4, [.ref xa39, .ref xa40, .int 0])), (xa39, .inl (kJ, 23, .inr (.inl (fun _ => 0)))), (xa40, .inl (kI, 4, .inl (fun _ => 0))), (ou, .inl (kJ, 1, .inr (.inl fo)))] s.heap.size = A at hD ⊢
  have hA : ∀ q : Nat, s.heap.size ≤ q → A q := fun q h => by rw [← hAe]; exact Or.inr h
  have hS : va_S A s.heap s.heap [] := va_S.rf
  have hP : va_P (dC, dI) vwCl [(h0, .inr (10, [.ref xa1, .ref xa3, .ref xa15, .ref xa27, .ref xa28, .ref xa33, .ref xa38, .ref xa41, .ref xa45, .ref xa46, .ref xa47, .ref xa52, .ref xa54, .int 0, .ref xa55, .ref xa60, .ref xa62, .ref xa67, .int (-1)])), (xa28, .inr (0, [.ref xa29, .ref xa30, .ref xa31, .ref xa32, .int 5, .int 0, .int 0, .int 0, .int 0, .int 0])), (xa29, .inl (kJ, 96, .inr (.inl (fun _ => 0)))), (xa30, .inl (kI, 30, .inl (fun _ => 0))), (xa31, .inl (kI, 12, .inl (fun _ => 0))), (xa32, .inl (kI, 12, .inl (fun _ => 0))), (xa38, .inr (4, [.ref xa39, .ref xa40, .int 0])), (xa39, .inl (kJ, 23, .inr (.inl (fun _ => 0)))), (xa40, .inl (kI, 4, .inl (fun _ => 0))), (ou, .inl (kJ, 1, .inr (.inl fo)))] s.heap := hP
  have hl := lv_entry ([.ref h0, .int 4, .ref ou]) (n := 4) (Nat.le_of_ble_eq_true rfl)
  have hla : entryFrame m args0 4 = entryFrame m ([.ref h0, .int 4, .ref ou] : List Value).toArray 4 := by rw [hargs]
  rw [hla, lg_entry_eq]
  generalize (lg_sl ([.ref h0, .int 4, .ref ou]) ++ List.replicate (4 - (lg_sl ([.ref h0, .int 4, .ref ou])).length) Slot.unset).toArray = ls at hl ⊢
  have hl : lv_has ls 4 [(0, .ref h0), (1, .int 4), (2, .ref ou)] := hl
  refine lv_aload_n hx hb dL_count_0 rfl (lv_at hl 2 rfl) ?_
  refine lv_iconst (v := 0) hx hb dL_count_1 (by decide) ?_
  refine lv_aload_n hx hb dL_count_2 rfl (lv_at hl 0 rfl) ?_
  refine lv_iload_n hx hb dL_count_3 rfl (lv_at hl 1 rfl) ?_
  have hPc := hP.sub (ws' := [(h0, .inr (10, [.ref xa1, .ref xa3, .ref xa15, .ref xa27, .ref xa28, .ref xa33, .ref xa38, .ref xa41, .ref xa45, .ref xa46, .ref xa47, .ref xa52, .ref xa54, .int 0, .ref xa55, .ref xa60, .ref xa62, .ref xa67, .int (-1)])), (xa28, .inr (0, [.ref xa29, .ref xa30, .ref xa31, .ref xa32, .int 5, .int 0, .int 0, .int 0, .int 0, .int 0])), (xa29, .inl (kJ, 96, .inr (.inl (fun _ => 0)))), (xa30, .inl (kI, 30, .inl (fun _ => 0))), (xa31, .inl (kI, 12, .inl (fun _ => 0))), (xa32, .inl (kI, 12, .inl (fun _ => 0))), (xa38, .inr (4, [.ref xa39, .ref xa40, .int 0])), (xa39, .inl (kJ, 23, .inr (.inl (fun _ => 0)))), (xa40, .inl (kI, 4, .inl (fun _ => 0)))]) [0, 1, 2, 3, 4, 5, 6, 7, 8] rfl
  have hDc := hD.sub (ws' := [(h0, .inr (10, [.ref xa1, .ref xa3, .ref xa15, .ref xa27, .ref xa28, .ref xa33, .ref xa38, .ref xa41, .ref xa45, .ref xa46, .ref xa47, .ref xa52, .ref xa54, .int 0, .ref xa55, .ref xa60, .ref xa62, .ref xa67, .int (-1)])), (xa28, .inr (0, [.ref xa29, .ref xa30, .ref xa31, .ref xa32, .int 5, .int 0, .int 0, .int 0, .int 0, .int 0])), (xa29, .inl (kJ, 96, .inr (.inl (fun _ => 0)))), (xa30, .inl (kI, 30, .inl (fun _ => 0))), (xa31, .inl (kI, 12, .inl (fun _ => 0))), (xa32, .inl (kI, 12, .inl (fun _ => 0))), (xa38, .inr (4, [.ref xa39, .ref xa40, .int 0])), (xa39, .inl (kJ, 23, .inr (.inl (fun _ => 0)))), (xa40, .inl (kI, 4, .inl (fun _ => 0)))]) [0, 1, 2, 3, 4, 5, 6, 7, 8] (by decide) rfl
  have hFc := va_free (wc := [(h0, .inr (10, [.ref xa1, .ref xa3, .ref xa15, .ref xa27, .ref xa28, .ref xa33, .ref xa38, .ref xa41, .ref xa45, .ref xa46, .ref xa47, .ref xa52, .ref xa54, .int 0, .ref xa55, .ref xa60, .ref xa62, .ref xa67, .int (-1)])), (xa28, .inr (0, [.ref xa29, .ref xa30, .ref xa31, .ref xa32, .int 5, .int 0, .int 0, .int 0, .int 0, .int 0])), (xa29, .inl (kJ, 96, .inr (.inl (fun _ => 0)))), (xa30, .inl (kI, 30, .inl (fun _ => 0))), (xa31, .inl (kI, 12, .inl (fun _ => 0))), (xa32, .inl (kI, 12, .inl (fun _ => 0))), (xa38, .inr (4, [.ref xa39, .ref xa40, .int 0])), (xa39, .inl (kJ, 23, .inr (.inl (fun _ => 0)))), (xa40, .inl (kI, 4, .inl (fun _ => 0)))]) hD hS hA [0, 1, 2, 3, 4, 5, 6, 7, 8] rfl
  refine va_calli (va_runV (As := [.int 4]) (rest := [.int 0, .ref ou]) ⟨hx, hb, hml, hown, hts⟩ (k10_count_4 l dC dI kB kI kJ kZ kC kS s.heap.size h0 xa1 xa3 xa15 xa27 xa28 xa33 xa38 xa41 xa45 xa46 xa47 xa52 xa54 xa55 xa60 xa62 xa67 xa29 xa30 xa31 xa32 xa39 xa40) (cwV 1 hts gL_count_X10_count rfl rfl rfl (by decide +kernel) ⟨Nat.le_of_ble_eq_true rfl, Nat.le_of_ble_eq_true rfl⟩) ⟨fun a U g mk q => by obtain ⟨q0, q1, qP, qE, qD⟩ := q; exact ⟨q0, q1, qP, kE_call qE, qD⟩, va_recv hK hP (ci := 10) (q0 := 0) rfl rfl, fun U hU hW => ⟨rfl, by rw [hU], by rw [hU]; exact hPc, kE_warm hW hE, hDc.weaken (fun _ _ _ _ => trivial)⟩⟩ rfl rfl hl.1 rfl (lv_room (Nat.le_of_ble_eq_true rfl)) dL_count_4 ⟨Nat.le_of_ble_eq_true rfl, Nat.le_of_ble_eq_true rfl⟩) hS (fun q _ h => hFc q h) hFc (fun r1 u t H1 locs ht hvm w2 hB hz1 hk1 hS => ?_)
  obtain ⟨hP1, hD1⟩ := hB
  rw [ht] at hP1
  try dsimp only at w2
  obtain ⟨hP, hD⟩ := va_join (wr := [(ou, .inl (kJ, 1, .inr (.inl fo)))]) (w1 := []) hP hD [0, 1, 2, 3, 4, 5, 6, 7, 8] [9] rfl rfl (by decide) (by decide) hk1 hFc hP1 hD1
  generalize H1 = H at hP hS ⊢
  have hP : va_P (dC, dI) vwCl [(ou, .inl (kJ, 1, .inr (.inl fo)))] H := hP
  have hD : va_D A [(ou, .inl (kJ, 1, .inr (.inl fo)))] := hD
  refine W.widen (k := 0) (n := 0) (Nat.le_of_ble_eq_true rfl) (Nat.le_of_ble_eq_true rfl) ?_
  subst w2
  refine lv_i2l (v := 6) hx hb dL_count_7 (by decide) ?_
  refine va_last hx hb hK hP hD hS 0 2 rfl rfl (vp_in_nI (n := 0) (by decide) (by decide)) dL_count_8 (fun H locs hP hD hS => ?_)
  have hP : va_P (dC, dI) vwCl [(ou, .inl (kJ, 1, .inr (.inl (vp_updL fo 0 6))))] H := hP
  have hD : va_D A [(ou, .inl (kJ, 1, .inr (.inl (vp_updL fo 0 6))))] := hD
  refine lv_goto (tgt := 15) hx hb dL_count_9 (by decide) ?_
  refine lv_iconst (v := 0) hx hb dL_count_15 (by decide) ?_
  have hP9 := hP.sub (ws' := [(ou, .inl (kJ, 1, .inr (.inl (vp_updL fo 0 6))))]) [0] rfl
  have hD9 := hD.sub (ws' := [(ou, .inl (kJ, 1, .inr (.inl (vp_updL fo 0 6))))]) [0] (by decide) rfl
  exact W.iret (v := 0) hx hb hr (fun t ht hW => ⟨⟨0, (), rfl, rfl, vp_updL fo 0 6, rfl, by rw [ht]; exact hP9, hD9⟩, hS.F ht⟩) hS.2.2 dL_count_16
def rm_kL10_count_5 : Room := { frames := 4, cells := 0, slots := 0, locals := 92 }
set_option maxHeartbeats 4000000 in
set_option maxRecDepth 100000 in
theorem kL10_count_5 (l : Launch) (dC : Nat → ClassId) (dI : Nat → Nat → Nat) (kB kI kJ kZ kC kS : ClassId) (sz : Nat) (h0 : Nat) (xa1 : Nat) (xa3 : Nat) (xa15 : Nat) (xa27 : Nat) (xa28 : Nat) (xa33 : Nat) (xa38 : Nat) (xa41 : Nat) (xa45 : Nat) (xa46 : Nat) (xa47 : Nat) (xa52 : Nat) (xa54 : Nat) (xa55 : Nat) (xa60 : Nat) (xa62 : Nat) (xa67 : Nat) (xa29 : Nat) (xa30 : Nat) (xa31 : Nat) (xa32 : Nat) (xa39 : Nat) (xa40 : Nat) (ou : Nat) (fo : Nat → Int64) : Met l yL_count wsL_count rm_kL10_count_5 (va_Pc [.ref h0, .int 5, .ref ou] (fun U => U.heap.size = sz ∧ va_P (dC, dI) vwCl [(h0, .inr (10, [.ref xa1, .ref xa3, .ref xa15, .ref xa27, .ref xa28, .ref xa33, .ref xa38, .ref xa41, .ref xa45, .ref xa46, .ref xa47, .ref xa52, .ref xa54, .int 0, .ref xa55, .ref xa60, .ref xa62, .ref xa67, .int (-1)])), (xa28, .inr (0, [.ref xa29, .ref xa30, .ref xa31, .ref xa32, .int 5, .int 0, .int 0, .int 0, .int 0, .int 0])), (xa29, .inl (kJ, 96, .inr (.inl (fun _ => 0)))), (xa30, .inl (kI, 30, .inl (fun _ => 0))), (xa31, .inl (kI, 12, .inl (fun _ => 0))), (xa32, .inl (kI, 12, .inl (fun _ => 0))), (xa38, .inr (4, [.ref xa39, .ref xa40, .int 0])), (xa39, .inl (kJ, 23, .inr (.inl (fun _ => 0)))), (xa40, .inl (kI, 4, .inl (fun _ => 0))), (ou, .inl (kJ, 1, .inr (.inl fo)))] U.heap ∧ kE dC dI kB kI kJ kZ kC kS U ∧ va_D (fun _ => True) [(h0, .inr (10, [.ref xa1, .ref xa3, .ref xa15, .ref xa27, .ref xa28, .ref xa33, .ref xa38, .ref xa41, .ref xa45, .ref xa46, .ref xa47, .ref xa52, .ref xa54, .int 0, .ref xa55, .ref xa60, .ref xa62, .ref xa67, .int (-1)])), (xa28, .inr (0, [.ref xa29, .ref xa30, .ref xa31, .ref xa32, .int 5, .int 0, .int 0, .int 0, .int 0, .int 0])), (xa29, .inl (kJ, 96, .inr (.inl (fun _ => 0)))), (xa30, .inl (kI, 30, .inl (fun _ => 0))), (xa31, .inl (kI, 12, .inl (fun _ => 0))), (xa32, .inl (kI, 12, .inl (fun _ => 0))), (xa38, .inr (4, [.ref xa39, .ref xa40, .int 0])), (xa39, .inl (kJ, 23, .inr (.inl (fun _ => 0)))), (xa40, .inl (kI, 4, .inl (fun _ => 0))), (ou, .inl (kJ, 1, .inr (.inl fo)))])) (va_Qi (fun (r : Int32) (_ : Unit) => r = 0) (fun _ t => ∃ (g1 : Nat → Int64), g1 0 = 11 ∧ va_P (dC, dI) vwCl [(ou, .inl (kJ, 1, .inr (.inl g1)))] t.heap ∧ va_D (va_A [(h0, .inr (10, [.ref xa1, .ref xa3, .ref xa15, .ref xa27, .ref xa28, .ref xa33, .ref xa38, .ref xa41, .ref xa45, .ref xa46, .ref xa47, .ref xa52, .ref xa54, .int 0, .ref xa55, .ref xa60, .ref xa62, .ref xa67, .int (-1)])), (xa28, .inr (0, [.ref xa29, .ref xa30, .ref xa31, .ref xa32, .int 5, .int 0, .int 0, .int 0, .int 0, .int 0])), (xa29, .inl (kJ, 96, .inr (.inl (fun _ => 0)))), (xa30, .inl (kI, 30, .inl (fun _ => 0))), (xa31, .inl (kI, 12, .inl (fun _ => 0))), (xa32, .inl (kI, 12, .inl (fun _ => 0))), (xa38, .inr (4, [.ref xa39, .ref xa40, .int 0])), (xa39, .inl (kJ, 23, .inr (.inl (fun _ => 0)))), (xa40, .inl (kI, 4, .inl (fun _ => 0))), (ou, .inl (kJ, 1, .inr (.inl fo)))] sz) [(ou, .inl (kJ, 1, .inr (.inl g1)))]) (va_A [(h0, .inr (10, [.ref xa1, .ref xa3, .ref xa15, .ref xa27, .ref xa28, .ref xa33, .ref xa38, .ref xa41, .ref xa45, .ref xa46, .ref xa47, .ref xa52, .ref xa54, .int 0, .ref xa55, .ref xa60, .ref xa62, .ref xa67, .int (-1)])), (xa28, .inr (0, [.ref xa29, .ref xa30, .ref xa31, .ref xa32, .int 5, .int 0, .int 0, .int 0, .int 0, .int 0])), (xa29, .inl (kJ, 96, .inr (.inl (fun _ => 0)))), (xa30, .inl (kI, 30, .inl (fun _ => 0))), (xa31, .inl (kI, 12, .inl (fun _ => 0))), (xa32, .inl (kI, 12, .inl (fun _ => 0))), (xa38, .inr (4, [.ref xa39, .ref xa40, .int 0])), (xa39, .inl (kJ, 23, .inr (.inl (fun _ => 0)))), (xa40, .inl (kI, 4, .inl (fun _ => 0))), (ou, .inl (kJ, 1, .inr (.inl fo)))] sz)) 0 0 (va_A [(h0, .inr (10, [.ref xa1, .ref xa3, .ref xa15, .ref xa27, .ref xa28, .ref xa33, .ref xa38, .ref xa41, .ref xa45, .ref xa46, .ref xa47, .ref xa52, .ref xa54, .int 0, .ref xa55, .ref xa60, .ref xa62, .ref xa67, .int (-1)])), (xa28, .inr (0, [.ref xa29, .ref xa30, .ref xa31, .ref xa32, .int 5, .int 0, .int 0, .int 0, .int 0, .int 0])), (xa29, .inl (kJ, 96, .inr (.inl (fun _ => 0)))), (xa30, .inl (kI, 30, .inl (fun _ => 0))), (xa31, .inl (kI, 12, .inl (fun _ => 0))), (xa32, .inl (kI, 12, .inl (fun _ => 0))), (xa38, .inr (4, [.ref xa39, .ref xa40, .int 0])), (xa39, .inl (kJ, 23, .inr (.inl (fun _ => 0)))), (xa40, .inl (kI, 4, .inl (fun _ => 0))), (ou, .inl (kJ, 1, .inr (.inl fo)))] sz) := by
  refine va_MetW (cc := cL_count) (maxL := 4) (ret := (some .int)) (by decide) rfl ?_
  intro p e s m args0 below meth c s₁ B hml hv
  obtain ⟨hargs, hsz, hP, hE, hD0⟩ := hv
  have hx := B.exec
  have hb := B.bytes
  have hr := B.returns
  have hts := atoms_spec (ws := wsL_count) B.pre
  have hown : s.vm.findClass RL = some m.cls := findClass_of_methodNamed B.named
  have hlocks := B.notSynchronized
  have hK := hE.1
  have hin10 : ∀ w ∈ wsX100, w ∈ wsL_count := fun _ h9 => List.mem_cons_of_mem _ (List.mem_append_left _ (List.mem_append_left _ (List.mem_append_left _ (List.mem_append_left _ (List.mem_append_left _ (List.mem_append_left _ (List.mem_append_left _ (List.mem_append_left _ (List.mem_append_right _ h9)))))))))
  have hin0 : ∀ w ∈ wsX00, w ∈ wsL_count := fun _ h9 => List.mem_cons_of_mem _ (List.mem_append_left _ (List.mem_append_left _ (List.mem_append_left _ (List.mem_append_left _ (List.mem_append_left _ (List.mem_append_left _ (List.mem_append_left _ (List.mem_append_right _ h9))))))))
  have hin2 : ∀ w ∈ wsX20, w ∈ wsL_count := fun _ h9 => List.mem_cons_of_mem _ (List.mem_append_left _ (List.mem_append_left _ (List.mem_append_left _ (List.mem_append_left _ (List.mem_append_left _ (List.mem_append_left _ (List.mem_append_right _ h9)))))))
  have hin1 : ∀ w ∈ wsX10, w ∈ wsL_count := fun _ h9 => List.mem_cons_of_mem _ (List.mem_append_left _ (List.mem_append_left _ (List.mem_append_left _ (List.mem_append_left _ (List.mem_append_left _ (List.mem_append_right _ h9))))))
  have hin3 : ∀ w ∈ wsX30, w ∈ wsL_count := fun _ h9 => List.mem_cons_of_mem _ (List.mem_append_left _ (List.mem_append_left _ (List.mem_append_left _ (List.mem_append_left _ (List.mem_append_right _ h9)))))
  have hin8 : ∀ w ∈ wsX80, w ∈ wsL_count := fun _ h9 => List.mem_cons_of_mem _ (List.mem_append_left _ (List.mem_append_left _ (List.mem_append_left _ (List.mem_append_right _ h9))))
  have hin4 : ∀ w ∈ wsX40, w ∈ wsL_count := fun _ h9 => List.mem_cons_of_mem _ (List.mem_append_left _ (List.mem_append_left _ (List.mem_append_right _ h9)))
  have hin7 : ∀ w ∈ wsX70, w ∈ wsL_count := fun _ h9 => List.mem_cons_of_mem _ (List.mem_append_left _ (List.mem_append_right _ h9))
  subst hsz
  have hD := hD0.self (sz := s.heap.size)
  generalize hAe : va_A [(h0, .inr (10, [.ref xa1, .ref xa3, .ref xa15, .ref xa27, .ref xa28, .ref xa33, .ref xa38, .ref xa41, .ref xa45, .ref xa46, .ref xa47, .ref xa52, .ref xa54, .int 0, .ref xa55, .ref xa60, .ref xa62, .ref xa67, .int (-1)])), (xa28, .inr (0, [.ref xa29, .ref xa30, .ref xa31, .ref xa32, .int 5, .int 0, .int 0, .int 0, .int 0, .int 0])), (xa29, .inl (kJ, 96, .inr (.inl (fun _ => 0)))), (xa30, .inl (kI, 30, .inl (fun _ => 0))), (xa31, .inl (kI, 12, .inl (fun _ => 0))), (xa32, .inl (kI, 12, .inl (fun _ => 0))), (xa38, .inr (4, [.ref xa39, .ref xa40, .int 0])), (xa39, .inl (kJ, 23, .inr (.inl (fun _ => 0)))), (xa40, .inl (kI, 4, .inl (fun _ => 0))), (ou, .inl (kJ, 1, .inr (.inl fo)))] s.heap.size = A at hD ⊢
  have hA : ∀ q : Nat, s.heap.size ≤ q → A q := fun q h => by rw [← hAe]; exact Or.inr h
  have hS : va_S A s.heap s.heap [] := va_S.rf
  have hP : va_P (dC, dI) vwCl [(h0, .inr (10, [.ref xa1, .ref xa3, .ref xa15, .ref xa27, .ref xa28, .ref xa33, .ref xa38, .ref xa41, .ref xa45, .ref xa46, .ref xa47, .ref xa52, .ref xa54, .int 0, .ref xa55, .ref xa60, .ref xa62, .ref xa67, .int (-1)])), (xa28, .inr (0, [.ref xa29, .ref xa30, .ref xa31, .ref xa32, .int 5, .int 0, .int 0, .int 0, .int 0, .int 0])), (xa29, .inl (kJ, 96, .inr (.inl (fun _ => 0)))), (xa30, .inl (kI, 30, .inl (fun _ => 0))), (xa31, .inl (kI, 12, .inl (fun _ => 0))), (xa32, .inl (kI, 12, .inl (fun _ => 0))), (xa38, .inr (4, [.ref xa39, .ref xa40, .int 0])), (xa39, .inl (kJ, 23, .inr (.inl (fun _ => 0)))), (xa40, .inl (kI, 4, .inl (fun _ => 0))), (ou, .inl (kJ, 1, .inr (.inl fo)))] s.heap := hP
  have hl := lv_entry ([.ref h0, .int 5, .ref ou]) (n := 4) (Nat.le_of_ble_eq_true rfl)
  have hla : entryFrame m args0 4 = entryFrame m ([.ref h0, .int 5, .ref ou] : List Value).toArray 4 := by rw [hargs]
  rw [hla, lg_entry_eq]
  generalize (lg_sl ([.ref h0, .int 5, .ref ou]) ++ List.replicate (4 - (lg_sl ([.ref h0, .int 5, .ref ou])).length) Slot.unset).toArray = ls at hl ⊢
  have hl : lv_has ls 4 [(0, .ref h0), (1, .int 5), (2, .ref ou)] := hl
  refine lv_aload_n hx hb dL_count_0 rfl (lv_at hl 2 rfl) ?_
  refine lv_iconst (v := 0) hx hb dL_count_1 (by decide) ?_
  refine lv_aload_n hx hb dL_count_2 rfl (lv_at hl 0 rfl) ?_
  refine lv_iload_n hx hb dL_count_3 rfl (lv_at hl 1 rfl) ?_
  have hPc := hP.sub (ws' := [(h0, .inr (10, [.ref xa1, .ref xa3, .ref xa15, .ref xa27, .ref xa28, .ref xa33, .ref xa38, .ref xa41, .ref xa45, .ref xa46, .ref xa47, .ref xa52, .ref xa54, .int 0, .ref xa55, .ref xa60, .ref xa62, .ref xa67, .int (-1)])), (xa28, .inr (0, [.ref xa29, .ref xa30, .ref xa31, .ref xa32, .int 5, .int 0, .int 0, .int 0, .int 0, .int 0])), (xa29, .inl (kJ, 96, .inr (.inl (fun _ => 0)))), (xa30, .inl (kI, 30, .inl (fun _ => 0))), (xa31, .inl (kI, 12, .inl (fun _ => 0))), (xa32, .inl (kI, 12, .inl (fun _ => 0))), (xa38, .inr (4, [.ref xa39, .ref xa40, .int 0])), (xa39, .inl (kJ, 23, .inr (.inl (fun _ => 0)))), (xa40, .inl (kI, 4, .inl (fun _ => 0)))]) [0, 1, 2, 3, 4, 5, 6, 7, 8] rfl
  have hDc := hD.sub (ws' := [(h0, .inr (10, [.ref xa1, .ref xa3, .ref xa15, .ref xa27, .ref xa28, .ref xa33, .ref xa38, .ref xa41, .ref xa45, .ref xa46, .ref xa47, .ref xa52, .ref xa54, .int 0, .ref xa55, .ref xa60, .ref xa62, .ref xa67, .int (-1)])), (xa28, .inr (0, [.ref xa29, .ref xa30, .ref xa31, .ref xa32, .int 5, .int 0, .int 0, .int 0, .int 0, .int 0])), (xa29, .inl (kJ, 96, .inr (.inl (fun _ => 0)))), (xa30, .inl (kI, 30, .inl (fun _ => 0))), (xa31, .inl (kI, 12, .inl (fun _ => 0))), (xa32, .inl (kI, 12, .inl (fun _ => 0))), (xa38, .inr (4, [.ref xa39, .ref xa40, .int 0])), (xa39, .inl (kJ, 23, .inr (.inl (fun _ => 0)))), (xa40, .inl (kI, 4, .inl (fun _ => 0)))]) [0, 1, 2, 3, 4, 5, 6, 7, 8] (by decide) rfl
  have hFc := va_free (wc := [(h0, .inr (10, [.ref xa1, .ref xa3, .ref xa15, .ref xa27, .ref xa28, .ref xa33, .ref xa38, .ref xa41, .ref xa45, .ref xa46, .ref xa47, .ref xa52, .ref xa54, .int 0, .ref xa55, .ref xa60, .ref xa62, .ref xa67, .int (-1)])), (xa28, .inr (0, [.ref xa29, .ref xa30, .ref xa31, .ref xa32, .int 5, .int 0, .int 0, .int 0, .int 0, .int 0])), (xa29, .inl (kJ, 96, .inr (.inl (fun _ => 0)))), (xa30, .inl (kI, 30, .inl (fun _ => 0))), (xa31, .inl (kI, 12, .inl (fun _ => 0))), (xa32, .inl (kI, 12, .inl (fun _ => 0))), (xa38, .inr (4, [.ref xa39, .ref xa40, .int 0])), (xa39, .inl (kJ, 23, .inr (.inl (fun _ => 0)))), (xa40, .inl (kI, 4, .inl (fun _ => 0)))]) hD hS hA [0, 1, 2, 3, 4, 5, 6, 7, 8] rfl
  refine va_calli (va_runV (As := [.int 5]) (rest := [.int 0, .ref ou]) ⟨hx, hb, hml, hown, hts⟩ (k10_count_5 l dC dI kB kI kJ kZ kC kS s.heap.size h0 xa1 xa3 xa15 xa27 xa28 xa33 xa38 xa41 xa45 xa46 xa47 xa52 xa54 xa55 xa60 xa62 xa67 xa29 xa30 xa31 xa32 xa39 xa40) (cwV 1 hts gL_count_X10_count rfl rfl rfl (by decide +kernel) ⟨Nat.le_of_ble_eq_true rfl, Nat.le_of_ble_eq_true rfl⟩) ⟨fun a U g mk q => by obtain ⟨q0, q1, qP, qE, qD⟩ := q; exact ⟨q0, q1, qP, kE_call qE, qD⟩, va_recv hK hP (ci := 10) (q0 := 0) rfl rfl, fun U hU hW => ⟨rfl, by rw [hU], by rw [hU]; exact hPc, kE_warm hW hE, hDc.weaken (fun _ _ _ _ => trivial)⟩⟩ rfl rfl hl.1 rfl (lv_room (Nat.le_of_ble_eq_true rfl)) dL_count_4 ⟨Nat.le_of_ble_eq_true rfl, Nat.le_of_ble_eq_true rfl⟩) hS (fun q _ h => hFc q h) hFc (fun r1 u t H1 locs ht hvm w2 hB hz1 hk1 hS => ?_)
  obtain ⟨hP1, hD1⟩ := hB
  rw [ht] at hP1
  try dsimp only at w2
  obtain ⟨hP, hD⟩ := va_join (wr := [(ou, .inl (kJ, 1, .inr (.inl fo)))]) (w1 := []) hP hD [0, 1, 2, 3, 4, 5, 6, 7, 8] [9] rfl rfl (by decide) (by decide) hk1 hFc hP1 hD1
  generalize H1 = H at hP hS ⊢
  have hP : va_P (dC, dI) vwCl [(ou, .inl (kJ, 1, .inr (.inl fo)))] H := hP
  have hD : va_D A [(ou, .inl (kJ, 1, .inr (.inl fo)))] := hD
  refine W.widen (k := 0) (n := 0) (Nat.le_of_ble_eq_true rfl) (Nat.le_of_ble_eq_true rfl) ?_
  subst w2
  refine lv_i2l (v := 11) hx hb dL_count_7 (by decide) ?_
  refine va_last hx hb hK hP hD hS 0 2 rfl rfl (vp_in_nI (n := 0) (by decide) (by decide)) dL_count_8 (fun H locs hP hD hS => ?_)
  have hP : va_P (dC, dI) vwCl [(ou, .inl (kJ, 1, .inr (.inl (vp_updL fo 0 11))))] H := hP
  have hD : va_D A [(ou, .inl (kJ, 1, .inr (.inl (vp_updL fo 0 11))))] := hD
  refine lv_goto (tgt := 15) hx hb dL_count_9 (by decide) ?_
  refine lv_iconst (v := 0) hx hb dL_count_15 (by decide) ?_
  have hP9 := hP.sub (ws' := [(ou, .inl (kJ, 1, .inr (.inl (vp_updL fo 0 11))))]) [0] rfl
  have hD9 := hD.sub (ws' := [(ou, .inl (kJ, 1, .inr (.inl (vp_updL fo 0 11))))]) [0] (by decide) rfl
  exact W.iret (v := 0) hx hb hr (fun t ht hW => ⟨⟨0, (), rfl, rfl, vp_updL fo 0 11, rfl, by rw [ht]; exact hP9, hD9⟩, hS.F ht⟩) hS.2.2 dL_count_16
def rm_kL10_count_6 : Room := { frames := 4, cells := 0, slots := 0, locals := 92 }
set_option maxHeartbeats 4000000 in
set_option maxRecDepth 100000 in
theorem kL10_count_6 (l : Launch) (dC : Nat → ClassId) (dI : Nat → Nat → Nat) (kB kI kJ kZ kC kS : ClassId) (sz : Nat) (h0 : Nat) (xa1 : Nat) (xa3 : Nat) (xa15 : Nat) (xa27 : Nat) (xa28 : Nat) (xa33 : Nat) (xa38 : Nat) (xa41 : Nat) (xa45 : Nat) (xa46 : Nat) (xa47 : Nat) (xa52 : Nat) (xa54 : Nat) (xa55 : Nat) (xa60 : Nat) (xa62 : Nat) (xa67 : Nat) (xa29 : Nat) (xa30 : Nat) (xa31 : Nat) (xa32 : Nat) (xa39 : Nat) (xa40 : Nat) (ou : Nat) (fo : Nat → Int64) : Met l yL_count wsL_count rm_kL10_count_6 (va_Pc [.ref h0, .int 6, .ref ou] (fun U => U.heap.size = sz ∧ va_P (dC, dI) vwCl [(h0, .inr (10, [.ref xa1, .ref xa3, .ref xa15, .ref xa27, .ref xa28, .ref xa33, .ref xa38, .ref xa41, .ref xa45, .ref xa46, .ref xa47, .ref xa52, .ref xa54, .int 0, .ref xa55, .ref xa60, .ref xa62, .ref xa67, .int (-1)])), (xa28, .inr (0, [.ref xa29, .ref xa30, .ref xa31, .ref xa32, .int 5, .int 0, .int 0, .int 0, .int 0, .int 0])), (xa29, .inl (kJ, 96, .inr (.inl (fun _ => 0)))), (xa30, .inl (kI, 30, .inl (fun _ => 0))), (xa31, .inl (kI, 12, .inl (fun _ => 0))), (xa32, .inl (kI, 12, .inl (fun _ => 0))), (xa38, .inr (4, [.ref xa39, .ref xa40, .int 0])), (xa39, .inl (kJ, 23, .inr (.inl (fun _ => 0)))), (xa40, .inl (kI, 4, .inl (fun _ => 0))), (ou, .inl (kJ, 1, .inr (.inl fo)))] U.heap ∧ kE dC dI kB kI kJ kZ kC kS U ∧ va_D (fun _ => True) [(h0, .inr (10, [.ref xa1, .ref xa3, .ref xa15, .ref xa27, .ref xa28, .ref xa33, .ref xa38, .ref xa41, .ref xa45, .ref xa46, .ref xa47, .ref xa52, .ref xa54, .int 0, .ref xa55, .ref xa60, .ref xa62, .ref xa67, .int (-1)])), (xa28, .inr (0, [.ref xa29, .ref xa30, .ref xa31, .ref xa32, .int 5, .int 0, .int 0, .int 0, .int 0, .int 0])), (xa29, .inl (kJ, 96, .inr (.inl (fun _ => 0)))), (xa30, .inl (kI, 30, .inl (fun _ => 0))), (xa31, .inl (kI, 12, .inl (fun _ => 0))), (xa32, .inl (kI, 12, .inl (fun _ => 0))), (xa38, .inr (4, [.ref xa39, .ref xa40, .int 0])), (xa39, .inl (kJ, 23, .inr (.inl (fun _ => 0)))), (xa40, .inl (kI, 4, .inl (fun _ => 0))), (ou, .inl (kJ, 1, .inr (.inl fo)))])) (va_Qi (fun (r : Int32) (_ : Unit) => r = 0) (fun _ t => ∃ (g1 : Nat → Int64), g1 0 = 16 ∧ va_P (dC, dI) vwCl [(ou, .inl (kJ, 1, .inr (.inl g1)))] t.heap ∧ va_D (va_A [(h0, .inr (10, [.ref xa1, .ref xa3, .ref xa15, .ref xa27, .ref xa28, .ref xa33, .ref xa38, .ref xa41, .ref xa45, .ref xa46, .ref xa47, .ref xa52, .ref xa54, .int 0, .ref xa55, .ref xa60, .ref xa62, .ref xa67, .int (-1)])), (xa28, .inr (0, [.ref xa29, .ref xa30, .ref xa31, .ref xa32, .int 5, .int 0, .int 0, .int 0, .int 0, .int 0])), (xa29, .inl (kJ, 96, .inr (.inl (fun _ => 0)))), (xa30, .inl (kI, 30, .inl (fun _ => 0))), (xa31, .inl (kI, 12, .inl (fun _ => 0))), (xa32, .inl (kI, 12, .inl (fun _ => 0))), (xa38, .inr (4, [.ref xa39, .ref xa40, .int 0])), (xa39, .inl (kJ, 23, .inr (.inl (fun _ => 0)))), (xa40, .inl (kI, 4, .inl (fun _ => 0))), (ou, .inl (kJ, 1, .inr (.inl fo)))] sz) [(ou, .inl (kJ, 1, .inr (.inl g1)))]) (va_A [(h0, .inr (10, [.ref xa1, .ref xa3, .ref xa15, .ref xa27, .ref xa28, .ref xa33, .ref xa38, .ref xa41, .ref xa45, .ref xa46, .ref xa47, .ref xa52, .ref xa54, .int 0, .ref xa55, .ref xa60, .ref xa62, .ref xa67, .int (-1)])), (xa28, .inr (0, [.ref xa29, .ref xa30, .ref xa31, .ref xa32, .int 5, .int 0, .int 0, .int 0, .int 0, .int 0])), (xa29, .inl (kJ, 96, .inr (.inl (fun _ => 0)))), (xa30, .inl (kI, 30, .inl (fun _ => 0))), (xa31, .inl (kI, 12, .inl (fun _ => 0))), (xa32, .inl (kI, 12, .inl (fun _ => 0))), (xa38, .inr (4, [.ref xa39, .ref xa40, .int 0])), (xa39, .inl (kJ, 23, .inr (.inl (fun _ => 0)))), (xa40, .inl (kI, 4, .inl (fun _ => 0))), (ou, .inl (kJ, 1, .inr (.inl fo)))] sz)) 0 0 (va_A [(h0, .inr (10, [.ref xa1, .ref xa3, .ref xa15, .ref xa27, .ref xa28, .ref xa33, .ref xa38, .ref xa41, .ref xa45, .ref xa46, .ref xa47, .ref xa52, .ref xa54, .int 0, .ref xa55, .ref xa60, .ref xa62, .ref xa67, .int (-1)])), (xa28, .inr (0, [.ref xa29, .ref xa30, .ref xa31, .ref xa32, .int 5, .int 0, .int 0, .int 0, .int 0, .int 0])), (xa29, .inl (kJ, 96, .inr (.inl (fun _ => 0)))), (xa30, .inl (kI, 30, .inl (fun _ => 0))), (xa31, .inl (kI, 12, .inl (fun _ => 0))), (xa32, .inl (kI, 12, .inl (fun _ => 0))), (xa38, .inr (4, [.ref xa39, .ref xa40, .int 0])), (xa39, .inl (kJ, 23, .inr (.inl (fun _ => 0)))), (xa40, .inl (kI, 4, .inl (fun _ => 0))), (ou, .inl (kJ, 1, .inr (.inl fo)))] sz) := by
  refine va_MetW (cc := cL_count) (maxL := 4) (ret := (some .int)) (by decide) rfl ?_
  intro p e s m args0 below meth c s₁ B hml hv
  obtain ⟨hargs, hsz, hP, hE, hD0⟩ := hv
  have hx := B.exec
  have hb := B.bytes
  have hr := B.returns
  have hts := atoms_spec (ws := wsL_count) B.pre
  have hown : s.vm.findClass RL = some m.cls := findClass_of_methodNamed B.named
  have hlocks := B.notSynchronized
  have hK := hE.1
  have hin10 : ∀ w ∈ wsX100, w ∈ wsL_count := fun _ h9 => List.mem_cons_of_mem _ (List.mem_append_left _ (List.mem_append_left _ (List.mem_append_left _ (List.mem_append_left _ (List.mem_append_left _ (List.mem_append_left _ (List.mem_append_left _ (List.mem_append_left _ (List.mem_append_right _ h9)))))))))
  have hin0 : ∀ w ∈ wsX00, w ∈ wsL_count := fun _ h9 => List.mem_cons_of_mem _ (List.mem_append_left _ (List.mem_append_left _ (List.mem_append_left _ (List.mem_append_left _ (List.mem_append_left _ (List.mem_append_left _ (List.mem_append_left _ (List.mem_append_right _ h9))))))))
  have hin2 : ∀ w ∈ wsX20, w ∈ wsL_count := fun _ h9 => List.mem_cons_of_mem _ (List.mem_append_left _ (List.mem_append_left _ (List.mem_append_left _ (List.mem_append_left _ (List.mem_append_left _ (List.mem_append_left _ (List.mem_append_right _ h9)))))))
  have hin1 : ∀ w ∈ wsX10, w ∈ wsL_count := fun _ h9 => List.mem_cons_of_mem _ (List.mem_append_left _ (List.mem_append_left _ (List.mem_append_left _ (List.mem_append_left _ (List.mem_append_left _ (List.mem_append_right _ h9))))))
  have hin3 : ∀ w ∈ wsX30, w ∈ wsL_count := fun _ h9 => List.mem_cons_of_mem _ (List.mem_append_left _ (List.mem_append_left _ (List.mem_append_left _ (List.mem_append_left _ (List.mem_append_right _ h9)))))
  have hin8 : ∀ w ∈ wsX80, w ∈ wsL_count := fun _ h9 => List.mem_cons_of_mem _ (List.mem_append_left _ (List.mem_append_left _ (List.mem_append_left _ (List.mem_append_right _ h9))))
  have hin4 : ∀ w ∈ wsX40, w ∈ wsL_count := fun _ h9 => List.mem_cons_of_mem _ (List.mem_append_left _ (List.mem_append_left _ (List.mem_append_right _ h9)))
  have hin7 : ∀ w ∈ wsX70, w ∈ wsL_count := fun _ h9 => List.mem_cons_of_mem _ (List.mem_append_left _ (List.mem_append_right _ h9))
  subst hsz
  have hD := hD0.self (sz := s.heap.size)
  generalize hAe : va_A [(h0, .inr (10, [.ref xa1, .ref xa3, .ref xa15, .ref xa27, .ref xa28, .ref xa33, .ref xa38, .ref xa41, .ref xa45, .ref xa46, .ref xa47, .ref xa52, .ref xa54, .int 0, .ref xa55, .ref xa60, .ref xa62, .ref xa67, .int (-1)])), (xa28, .inr (0, [.ref xa29, .ref xa30, .ref xa31, .ref xa32, .int 5, .int 0, .int 0, .int 0, .int 0, .int 0])), (xa29, .inl (kJ, 96, .inr (.inl (fun _ => 0)))), (xa30, .inl (kI, 30, .inl (fun _ => 0))), (xa31, .inl (kI, 12, .inl (fun _ => 0))), (xa32, .inl (kI, 12, .inl (fun _ => 0))), (xa38, .inr (4, [.ref xa39, .ref xa40, .int 0])), (xa39, .inl (kJ, 23, .inr (.inl (fun _ => 0)))), (xa40, .inl (kI, 4, .inl (fun _ => 0))), (ou, .inl (kJ, 1, .inr (.inl fo)))] s.heap.size = A at hD ⊢
  have hA : ∀ q : Nat, s.heap.size ≤ q → A q := fun q h => by rw [← hAe]; exact Or.inr h
  have hS : va_S A s.heap s.heap [] := va_S.rf
  have hP : va_P (dC, dI) vwCl [(h0, .inr (10, [.ref xa1, .ref xa3, .ref xa15, .ref xa27, .ref xa28, .ref xa33, .ref xa38, .ref xa41, .ref xa45, .ref xa46, .ref xa47, .ref xa52, .ref xa54, .int 0, .ref xa55, .ref xa60, .ref xa62, .ref xa67, .int (-1)])), (xa28, .inr (0, [.ref xa29, .ref xa30, .ref xa31, .ref xa32, .int 5, .int 0, .int 0, .int 0, .int 0, .int 0])), (xa29, .inl (kJ, 96, .inr (.inl (fun _ => 0)))), (xa30, .inl (kI, 30, .inl (fun _ => 0))), (xa31, .inl (kI, 12, .inl (fun _ => 0))), (xa32, .inl (kI, 12, .inl (fun _ => 0))), (xa38, .inr (4, [.ref xa39, .ref xa40, .int 0])), (xa39, .inl (kJ, 23, .inr (.inl (fun _ => 0)))), (xa40, .inl (kI, 4, .inl (fun _ => 0))), (ou, .inl (kJ, 1, .inr (.inl fo)))] s.heap := hP
  have hl := lv_entry ([.ref h0, .int 6, .ref ou]) (n := 4) (Nat.le_of_ble_eq_true rfl)
  have hla : entryFrame m args0 4 = entryFrame m ([.ref h0, .int 6, .ref ou] : List Value).toArray 4 := by rw [hargs]
  rw [hla, lg_entry_eq]
  generalize (lg_sl ([.ref h0, .int 6, .ref ou]) ++ List.replicate (4 - (lg_sl ([.ref h0, .int 6, .ref ou])).length) Slot.unset).toArray = ls at hl ⊢
  have hl : lv_has ls 4 [(0, .ref h0), (1, .int 6), (2, .ref ou)] := hl
  refine lv_aload_n hx hb dL_count_0 rfl (lv_at hl 2 rfl) ?_
  refine lv_iconst (v := 0) hx hb dL_count_1 (by decide) ?_
  refine lv_aload_n hx hb dL_count_2 rfl (lv_at hl 0 rfl) ?_
  refine lv_iload_n hx hb dL_count_3 rfl (lv_at hl 1 rfl) ?_
  have hPc := hP.sub (ws' := [(h0, .inr (10, [.ref xa1, .ref xa3, .ref xa15, .ref xa27, .ref xa28, .ref xa33, .ref xa38, .ref xa41, .ref xa45, .ref xa46, .ref xa47, .ref xa52, .ref xa54, .int 0, .ref xa55, .ref xa60, .ref xa62, .ref xa67, .int (-1)])), (xa28, .inr (0, [.ref xa29, .ref xa30, .ref xa31, .ref xa32, .int 5, .int 0, .int 0, .int 0, .int 0, .int 0])), (xa29, .inl (kJ, 96, .inr (.inl (fun _ => 0)))), (xa30, .inl (kI, 30, .inl (fun _ => 0))), (xa31, .inl (kI, 12, .inl (fun _ => 0))), (xa32, .inl (kI, 12, .inl (fun _ => 0))), (xa38, .inr (4, [.ref xa39, .ref xa40, .int 0])), (xa39, .inl (kJ, 23, .inr (.inl (fun _ => 0)))), (xa40, .inl (kI, 4, .inl (fun _ => 0)))]) [0, 1, 2, 3, 4, 5, 6, 7, 8] rfl
  have hDc := hD.sub (ws' := [(h0, .inr (10, [.ref xa1, .ref xa3, .ref xa15, .ref xa27, .ref xa28, .ref xa33, .ref xa38, .ref xa41, .ref xa45, .ref xa46, .ref xa47, .ref xa52, .ref xa54, .int 0, .ref xa55, .ref xa60, .ref xa62, .ref xa67, .int (-1)])), (xa28, .inr (0, [.ref xa29, .ref xa30, .ref xa31, .ref xa32, .int 5, .int 0, .int 0, .int 0, .int 0, .int 0])), (xa29, .inl (kJ, 96, .inr (.inl (fun _ => 0)))), (xa30, .inl (kI, 30, .inl (fun _ => 0))), (xa31, .inl (kI, 12, .inl (fun _ => 0))), (xa32, .inl (kI, 12, .inl (fun _ => 0))), (xa38, .inr (4, [.ref xa39, .ref xa40, .int 0])), (xa39, .inl (kJ, 23, .inr (.inl (fun _ => 0)))), (xa40, .inl (kI, 4, .inl (fun _ => 0)))]) [0, 1, 2, 3, 4, 5, 6, 7, 8] (by decide) rfl
  have hFc := va_free (wc := [(h0, .inr (10, [.ref xa1, .ref xa3, .ref xa15, .ref xa27, .ref xa28, .ref xa33, .ref xa38, .ref xa41, .ref xa45, .ref xa46, .ref xa47, .ref xa52, .ref xa54, .int 0, .ref xa55, .ref xa60, .ref xa62, .ref xa67, .int (-1)])), (xa28, .inr (0, [.ref xa29, .ref xa30, .ref xa31, .ref xa32, .int 5, .int 0, .int 0, .int 0, .int 0, .int 0])), (xa29, .inl (kJ, 96, .inr (.inl (fun _ => 0)))), (xa30, .inl (kI, 30, .inl (fun _ => 0))), (xa31, .inl (kI, 12, .inl (fun _ => 0))), (xa32, .inl (kI, 12, .inl (fun _ => 0))), (xa38, .inr (4, [.ref xa39, .ref xa40, .int 0])), (xa39, .inl (kJ, 23, .inr (.inl (fun _ => 0)))), (xa40, .inl (kI, 4, .inl (fun _ => 0)))]) hD hS hA [0, 1, 2, 3, 4, 5, 6, 7, 8] rfl
  refine va_calli (va_runV (As := [.int 6]) (rest := [.int 0, .ref ou]) ⟨hx, hb, hml, hown, hts⟩ (k10_count_6 l dC dI kB kI kJ kZ kC kS s.heap.size h0 xa1 xa3 xa15 xa27 xa28 xa33 xa38 xa41 xa45 xa46 xa47 xa52 xa54 xa55 xa60 xa62 xa67 xa29 xa30 xa31 xa32 xa39 xa40) (cwV 1 hts gL_count_X10_count rfl rfl rfl (by decide +kernel) ⟨Nat.le_of_ble_eq_true rfl, Nat.le_of_ble_eq_true rfl⟩) ⟨fun a U g mk q => by obtain ⟨q0, q1, qP, qE, qD⟩ := q; exact ⟨q0, q1, qP, kE_call qE, qD⟩, va_recv hK hP (ci := 10) (q0 := 0) rfl rfl, fun U hU hW => ⟨rfl, by rw [hU], by rw [hU]; exact hPc, kE_warm hW hE, hDc.weaken (fun _ _ _ _ => trivial)⟩⟩ rfl rfl hl.1 rfl (lv_room (Nat.le_of_ble_eq_true rfl)) dL_count_4 ⟨Nat.le_of_ble_eq_true rfl, Nat.le_of_ble_eq_true rfl⟩) hS (fun q _ h => hFc q h) hFc (fun r1 u t H1 locs ht hvm w2 hB hz1 hk1 hS => ?_)
  obtain ⟨hP1, hD1⟩ := hB
  rw [ht] at hP1
  try dsimp only at w2
  obtain ⟨hP, hD⟩ := va_join (wr := [(ou, .inl (kJ, 1, .inr (.inl fo)))]) (w1 := []) hP hD [0, 1, 2, 3, 4, 5, 6, 7, 8] [9] rfl rfl (by decide) (by decide) hk1 hFc hP1 hD1
  generalize H1 = H at hP hS ⊢
  have hP : va_P (dC, dI) vwCl [(ou, .inl (kJ, 1, .inr (.inl fo)))] H := hP
  have hD : va_D A [(ou, .inl (kJ, 1, .inr (.inl fo)))] := hD
  refine W.widen (k := 0) (n := 0) (Nat.le_of_ble_eq_true rfl) (Nat.le_of_ble_eq_true rfl) ?_
  subst w2
  refine lv_i2l (v := 16) hx hb dL_count_7 (by decide) ?_
  refine va_last hx hb hK hP hD hS 0 2 rfl rfl (vp_in_nI (n := 0) (by decide) (by decide)) dL_count_8 (fun H locs hP hD hS => ?_)
  have hP : va_P (dC, dI) vwCl [(ou, .inl (kJ, 1, .inr (.inl (vp_updL fo 0 16))))] H := hP
  have hD : va_D A [(ou, .inl (kJ, 1, .inr (.inl (vp_updL fo 0 16))))] := hD
  refine lv_goto (tgt := 15) hx hb dL_count_9 (by decide) ?_
  refine lv_iconst (v := 0) hx hb dL_count_15 (by decide) ?_
  have hP9 := hP.sub (ws' := [(ou, .inl (kJ, 1, .inr (.inl (vp_updL fo 0 16))))]) [0] rfl
  have hD9 := hD.sub (ws' := [(ou, .inl (kJ, 1, .inr (.inl (vp_updL fo 0 16))))]) [0] (by decide) rfl
  exact W.iret (v := 0) hx hb hr (fun t ht hW => ⟨⟨0, (), rfl, rfl, vp_updL fo 0 16, rfl, by rw [ht]; exact hP9, hD9⟩, hS.F ht⟩) hS.2.2 dL_count_16
def rm_kL10_count_7 : Room := { frames := 4, cells := 0, slots := 0, locals := 92 }
set_option maxHeartbeats 4000000 in
set_option maxRecDepth 100000 in
theorem kL10_count_7 (l : Launch) (dC : Nat → ClassId) (dI : Nat → Nat → Nat) (kB kI kJ kZ kC kS : ClassId) (sz : Nat) (h0 : Nat) (xa1 : Nat) (xa3 : Nat) (xa15 : Nat) (xa27 : Nat) (xa28 : Nat) (xa33 : Nat) (xa38 : Nat) (xa41 : Nat) (xa45 : Nat) (xa46 : Nat) (xa47 : Nat) (xa52 : Nat) (xa54 : Nat) (xa55 : Nat) (xa60 : Nat) (xa62 : Nat) (xa67 : Nat) (xa29 : Nat) (xa30 : Nat) (xa31 : Nat) (xa32 : Nat) (xa39 : Nat) (xa40 : Nat) (ou : Nat) (fo : Nat → Int64) : Met l yL_count wsL_count rm_kL10_count_7 (va_Pc [.ref h0, .int 7, .ref ou] (fun U => U.heap.size = sz ∧ va_P (dC, dI) vwCl [(h0, .inr (10, [.ref xa1, .ref xa3, .ref xa15, .ref xa27, .ref xa28, .ref xa33, .ref xa38, .ref xa41, .ref xa45, .ref xa46, .ref xa47, .ref xa52, .ref xa54, .int 0, .ref xa55, .ref xa60, .ref xa62, .ref xa67, .int (-1)])), (xa28, .inr (0, [.ref xa29, .ref xa30, .ref xa31, .ref xa32, .int 5, .int 0, .int 0, .int 0, .int 0, .int 0])), (xa29, .inl (kJ, 96, .inr (.inl (fun _ => 0)))), (xa30, .inl (kI, 30, .inl (fun _ => 0))), (xa31, .inl (kI, 12, .inl (fun _ => 0))), (xa32, .inl (kI, 12, .inl (fun _ => 0))), (xa38, .inr (4, [.ref xa39, .ref xa40, .int 0])), (xa39, .inl (kJ, 23, .inr (.inl (fun _ => 0)))), (xa40, .inl (kI, 4, .inl (fun _ => 0))), (ou, .inl (kJ, 1, .inr (.inl fo)))] U.heap ∧ kE dC dI kB kI kJ kZ kC kS U ∧ va_D (fun _ => True) [(h0, .inr (10, [.ref xa1, .ref xa3, .ref xa15, .ref xa27, .ref xa28, .ref xa33, .ref xa38, .ref xa41, .ref xa45, .ref xa46, .ref xa47, .ref xa52, .ref xa54, .int 0, .ref xa55, .ref xa60, .ref xa62, .ref xa67, .int (-1)])), (xa28, .inr (0, [.ref xa29, .ref xa30, .ref xa31, .ref xa32, .int 5, .int 0, .int 0, .int 0, .int 0, .int 0])), (xa29, .inl (kJ, 96, .inr (.inl (fun _ => 0)))), (xa30, .inl (kI, 30, .inl (fun _ => 0))), (xa31, .inl (kI, 12, .inl (fun _ => 0))), (xa32, .inl (kI, 12, .inl (fun _ => 0))), (xa38, .inr (4, [.ref xa39, .ref xa40, .int 0])), (xa39, .inl (kJ, 23, .inr (.inl (fun _ => 0)))), (xa40, .inl (kI, 4, .inl (fun _ => 0))), (ou, .inl (kJ, 1, .inr (.inl fo)))])) (va_Qi (fun (r : Int32) (_ : Unit) => r = 0) (fun _ t => ∃ (g1 : Nat → Int64), g1 0 = 21 ∧ va_P (dC, dI) vwCl [(ou, .inl (kJ, 1, .inr (.inl g1)))] t.heap ∧ va_D (va_A [(h0, .inr (10, [.ref xa1, .ref xa3, .ref xa15, .ref xa27, .ref xa28, .ref xa33, .ref xa38, .ref xa41, .ref xa45, .ref xa46, .ref xa47, .ref xa52, .ref xa54, .int 0, .ref xa55, .ref xa60, .ref xa62, .ref xa67, .int (-1)])), (xa28, .inr (0, [.ref xa29, .ref xa30, .ref xa31, .ref xa32, .int 5, .int 0, .int 0, .int 0, .int 0, .int 0])), (xa29, .inl (kJ, 96, .inr (.inl (fun _ => 0)))), (xa30, .inl (kI, 30, .inl (fun _ => 0))), (xa31, .inl (kI, 12, .inl (fun _ => 0))), (xa32, .inl (kI, 12, .inl (fun _ => 0))), (xa38, .inr (4, [.ref xa39, .ref xa40, .int 0])), (xa39, .inl (kJ, 23, .inr (.inl (fun _ => 0)))), (xa40, .inl (kI, 4, .inl (fun _ => 0))), (ou, .inl (kJ, 1, .inr (.inl fo)))] sz) [(ou, .inl (kJ, 1, .inr (.inl g1)))]) (va_A [(h0, .inr (10, [.ref xa1, .ref xa3, .ref xa15, .ref xa27, .ref xa28, .ref xa33, .ref xa38, .ref xa41, .ref xa45, .ref xa46, .ref xa47, .ref xa52, .ref xa54, .int 0, .ref xa55, .ref xa60, .ref xa62, .ref xa67, .int (-1)])), (xa28, .inr (0, [.ref xa29, .ref xa30, .ref xa31, .ref xa32, .int 5, .int 0, .int 0, .int 0, .int 0, .int 0])), (xa29, .inl (kJ, 96, .inr (.inl (fun _ => 0)))), (xa30, .inl (kI, 30, .inl (fun _ => 0))), (xa31, .inl (kI, 12, .inl (fun _ => 0))), (xa32, .inl (kI, 12, .inl (fun _ => 0))), (xa38, .inr (4, [.ref xa39, .ref xa40, .int 0])), (xa39, .inl (kJ, 23, .inr (.inl (fun _ => 0)))), (xa40, .inl (kI, 4, .inl (fun _ => 0))), (ou, .inl (kJ, 1, .inr (.inl fo)))] sz)) 0 0 (va_A [(h0, .inr (10, [.ref xa1, .ref xa3, .ref xa15, .ref xa27, .ref xa28, .ref xa33, .ref xa38, .ref xa41, .ref xa45, .ref xa46, .ref xa47, .ref xa52, .ref xa54, .int 0, .ref xa55, .ref xa60, .ref xa62, .ref xa67, .int (-1)])), (xa28, .inr (0, [.ref xa29, .ref xa30, .ref xa31, .ref xa32, .int 5, .int 0, .int 0, .int 0, .int 0, .int 0])), (xa29, .inl (kJ, 96, .inr (.inl (fun _ => 0)))), (xa30, .inl (kI, 30, .inl (fun _ => 0))), (xa31, .inl (kI, 12, .inl (fun _ => 0))), (xa32, .inl (kI, 12, .inl (fun _ => 0))), (xa38, .inr (4, [.ref xa39, .ref xa40, .int 0])), (xa39, .inl (kJ, 23, .inr (.inl (fun _ => 0)))), (xa40, .inl (kI, 4, .inl (fun _ => 0))), (ou, .inl (kJ, 1, .inr (.inl fo)))] sz) := by
  refine va_MetW (cc := cL_count) (maxL := 4) (ret := (some .int)) (by decide) rfl ?_
  intro p e s m args0 below meth c s₁ B hml hv
  obtain ⟨hargs, hsz, hP, hE, hD0⟩ := hv
  have hx := B.exec
  have hb := B.bytes
  have hr := B.returns
  have hts := atoms_spec (ws := wsL_count) B.pre
  have hown : s.vm.findClass RL = some m.cls := findClass_of_methodNamed B.named
  have hlocks := B.notSynchronized
  have hK := hE.1
  have hin10 : ∀ w ∈ wsX100, w ∈ wsL_count := fun _ h9 => List.mem_cons_of_mem _ (List.mem_append_left _ (List.mem_append_left _ (List.mem_append_left _ (List.mem_append_left _ (List.mem_append_left _ (List.mem_append_left _ (List.mem_append_left _ (List.mem_append_left _ (List.mem_append_right _ h9)))))))))
  have hin0 : ∀ w ∈ wsX00, w ∈ wsL_count := fun _ h9 => List.mem_cons_of_mem _ (List.mem_append_left _ (List.mem_append_left _ (List.mem_append_left _ (List.mem_append_left _ (List.mem_append_left _ (List.mem_append_left _ (List.mem_append_left _ (List.mem_append_right _ h9))))))))
  have hin2 : ∀ w ∈ wsX20, w ∈ wsL_count := fun _ h9 => List.mem_cons_of_mem _ (List.mem_append_left _ (List.mem_append_left _ (List.mem_append_left _ (List.mem_append_left _ (List.mem_append_left _ (List.mem_append_left _ (List.mem_append_right _ h9)))))))
  have hin1 : ∀ w ∈ wsX10, w ∈ wsL_count := fun _ h9 => List.mem_cons_of_mem _ (List.mem_append_left _ (List.mem_append_left _ (List.mem_append_left _ (List.mem_append_left _ (List.mem_append_left _ (List.mem_append_right _ h9))))))
  have hin3 : ∀ w ∈ wsX30, w ∈ wsL_count := fun _ h9 => List.mem_cons_of_mem _ (List.mem_append_left _ (List.mem_append_left _ (List.mem_append_left _ (List.mem_append_left _ (List.mem_append_right _ h9)))))
  have hin8 : ∀ w ∈ wsX80, w ∈ wsL_count := fun _ h9 => List.mem_cons_of_mem _ (List.mem_append_left _ (List.mem_append_left _ (List.mem_append_left _ (List.mem_append_right _ h9))))
  have hin4 : ∀ w ∈ wsX40, w ∈ wsL_count := fun _ h9 => List.mem_cons_of_mem _ (List.mem_append_left _ (List.mem_append_left _ (List.mem_append_right _ h9)))
  have hin7 : ∀ w ∈ wsX70, w ∈ wsL_count := fun _ h9 => List.mem_cons_of_mem _ (List.mem_append_left _ (List.mem_append_right _ h9))
  subst hsz
  have hD := hD0.self (sz := s.heap.size)
  generalize hAe : va_A [(h0, .inr (10, [.ref xa1, .ref xa3, .ref xa15, .ref xa27, .ref xa28, .ref xa33, .ref xa38, .ref xa41, .ref xa45, .ref xa46, .ref xa47, .ref xa52, .ref xa54, .int 0, .ref xa55, .ref xa60, .ref xa62, .ref xa67, .int (-1)])), (xa28, .inr (0, [.ref xa29, .ref xa30, .ref xa31, .ref xa32, .int 5, .int 0, .int 0, .int 0, .int 0, .int 0])), (xa29, .inl (kJ, 96, .inr (.inl (fun _ => 0)))), (xa30, .inl (kI, 30, .inl (fun _ => 0))), (xa31, .inl (kI, 12, .inl (fun _ => 0))), (xa32, .inl (kI, 12, .inl (fun _ => 0))), (xa38, .inr (4, [.ref xa39, .ref xa40, .int 0])), (xa39, .inl (kJ, 23, .inr (.inl (fun _ => 0)))), (xa40, .inl (kI, 4, .inl (fun _ => 0))), (ou, .inl (kJ, 1, .inr (.inl fo)))] s.heap.size = A at hD ⊢
  have hA : ∀ q : Nat, s.heap.size ≤ q → A q := fun q h => by rw [← hAe]; exact Or.inr h
  have hS : va_S A s.heap s.heap [] := va_S.rf
  have hP : va_P (dC, dI) vwCl [(h0, .inr (10, [.ref xa1, .ref xa3, .ref xa15, .ref xa27, .ref xa28, .ref xa33, .ref xa38, .ref xa41, .ref xa45, .ref xa46, .ref xa47, .ref xa52, .ref xa54, .int 0, .ref xa55, .ref xa60, .ref xa62, .ref xa67, .int (-1)])), (xa28, .inr (0, [.ref xa29, .ref xa30, .ref xa31, .ref xa32, .int 5, .int 0, .int 0, .int 0, .int 0, .int 0])), (xa29, .inl (kJ, 96, .inr (.inl (fun _ => 0)))), (xa30, .inl (kI, 30, .inl (fun _ => 0))), (xa31, .inl (kI, 12, .inl (fun _ => 0))), (xa32, .inl (kI, 12, .inl (fun _ => 0))), (xa38, .inr (4, [.ref xa39, .ref xa40, .int 0])), (xa39, .inl (kJ, 23, .inr (.inl (fun _ => 0)))), (xa40, .inl (kI, 4, .inl (fun _ => 0))), (ou, .inl (kJ, 1, .inr (.inl fo)))] s.heap := hP
  have hl := lv_entry ([.ref h0, .int 7, .ref ou]) (n := 4) (Nat.le_of_ble_eq_true rfl)
  have hla : entryFrame m args0 4 = entryFrame m ([.ref h0, .int 7, .ref ou] : List Value).toArray 4 := by rw [hargs]
  rw [hla, lg_entry_eq]
  generalize (lg_sl ([.ref h0, .int 7, .ref ou]) ++ List.replicate (4 - (lg_sl ([.ref h0, .int 7, .ref ou])).length) Slot.unset).toArray = ls at hl ⊢
  have hl : lv_has ls 4 [(0, .ref h0), (1, .int 7), (2, .ref ou)] := hl
  refine lv_aload_n hx hb dL_count_0 rfl (lv_at hl 2 rfl) ?_
  refine lv_iconst (v := 0) hx hb dL_count_1 (by decide) ?_
  refine lv_aload_n hx hb dL_count_2 rfl (lv_at hl 0 rfl) ?_
  refine lv_iload_n hx hb dL_count_3 rfl (lv_at hl 1 rfl) ?_
  have hPc := hP.sub (ws' := [(h0, .inr (10, [.ref xa1, .ref xa3, .ref xa15, .ref xa27, .ref xa28, .ref xa33, .ref xa38, .ref xa41, .ref xa45, .ref xa46, .ref xa47, .ref xa52, .ref xa54, .int 0, .ref xa55, .ref xa60, .ref xa62, .ref xa67, .int (-1)])), (xa28, .inr (0, [.ref xa29, .ref xa30, .ref xa31, .ref xa32, .int 5, .int 0, .int 0, .int 0, .int 0, .int 0])), (xa29, .inl (kJ, 96, .inr (.inl (fun _ => 0)))), (xa30, .inl (kI, 30, .inl (fun _ => 0))), (xa31, .inl (kI, 12, .inl (fun _ => 0))), (xa32, .inl (kI, 12, .inl (fun _ => 0))), (xa38, .inr (4, [.ref xa39, .ref xa40, .int 0])), (xa39, .inl (kJ, 23, .inr (.inl (fun _ => 0)))), (xa40, .inl (kI, 4, .inl (fun _ => 0)))]) [0, 1, 2, 3, 4, 5, 6, 7, 8] rfl
  have hDc := hD.sub (ws' := [(h0, .inr (10, [.ref xa1, .ref xa3, .ref xa15, .ref xa27, .ref xa28, .ref xa33, .ref xa38, .ref xa41, .ref xa45, .ref xa46, .ref xa47, .ref xa52, .ref xa54, .int 0, .ref xa55, .ref xa60, .ref xa62, .ref xa67, .int (-1)])), (xa28, .inr (0, [.ref xa29, .ref xa30, .ref xa31, .ref xa32, .int 5, .int 0, .int 0, .int 0, .int 0, .int 0])), (xa29, .inl (kJ, 96, .inr (.inl (fun _ => 0)))), (xa30, .inl (kI, 30, .inl (fun _ => 0))), (xa31, .inl (kI, 12, .inl (fun _ => 0))), (xa32, .inl (kI, 12, .inl (fun _ => 0))), (xa38, .inr (4, [.ref xa39, .ref xa40, .int 0])), (xa39, .inl (kJ, 23, .inr (.inl (fun _ => 0)))), (xa40, .inl (kI, 4, .inl (fun _ => 0)))]) [0, 1, 2, 3, 4, 5, 6, 7, 8] (by decide) rfl
  have hFc := va_free (wc := [(h0, .inr (10, [.ref xa1, .ref xa3, .ref xa15, .ref xa27, .ref xa28, .ref xa33, .ref xa38, .ref xa41, .ref xa45, .ref xa46, .ref xa47, .ref xa52, .ref xa54, .int 0, .ref xa55, .ref xa60, .ref xa62, .ref xa67, .int (-1)])), (xa28, .inr (0, [.ref xa29, .ref xa30, .ref xa31, .ref xa32, .int 5, .int 0, .int 0, .int 0, .int 0, .int 0])), (xa29, .inl (kJ, 96, .inr (.inl (fun _ => 0)))), (xa30, .inl (kI, 30, .inl (fun _ => 0))), (xa31, .inl (kI, 12, .inl (fun _ => 0))), (xa32, .inl (kI, 12, .inl (fun _ => 0))), (xa38, .inr (4, [.ref xa39, .ref xa40, .int 0])), (xa39, .inl (kJ, 23, .inr (.inl (fun _ => 0)))), (xa40, .inl (kI, 4, .inl (fun _ => 0)))]) hD hS hA [0, 1, 2, 3, 4, 5, 6, 7, 8] rfl
  refine va_calli (va_runV (As := [.int 7]) (rest := [.int 0, .ref ou]) ⟨hx, hb, hml, hown, hts⟩ (k10_count_7 l dC dI kB kI kJ kZ kC kS s.heap.size h0 xa1 xa3 xa15 xa27 xa28 xa33 xa38 xa41 xa45 xa46 xa47 xa52 xa54 xa55 xa60 xa62 xa67 xa29 xa30 xa31 xa32 xa39 xa40) (cwV 1 hts gL_count_X10_count rfl rfl rfl (by decide +kernel) ⟨Nat.le_of_ble_eq_true rfl, Nat.le_of_ble_eq_true rfl⟩) ⟨fun a U g mk q => by obtain ⟨q0, q1, qP, qE, qD⟩ := q; exact ⟨q0, q1, qP, kE_call qE, qD⟩, va_recv hK hP (ci := 10) (q0 := 0) rfl rfl, fun U hU hW => ⟨rfl, by rw [hU], by rw [hU]; exact hPc, kE_warm hW hE, hDc.weaken (fun _ _ _ _ => trivial)⟩⟩ rfl rfl hl.1 rfl (lv_room (Nat.le_of_ble_eq_true rfl)) dL_count_4 ⟨Nat.le_of_ble_eq_true rfl, Nat.le_of_ble_eq_true rfl⟩) hS (fun q _ h => hFc q h) hFc (fun r1 u t H1 locs ht hvm w2 hB hz1 hk1 hS => ?_)
  obtain ⟨hP1, hD1⟩ := hB
  rw [ht] at hP1
  try dsimp only at w2
  obtain ⟨hP, hD⟩ := va_join (wr := [(ou, .inl (kJ, 1, .inr (.inl fo)))]) (w1 := []) hP hD [0, 1, 2, 3, 4, 5, 6, 7, 8] [9] rfl rfl (by decide) (by decide) hk1 hFc hP1 hD1
  generalize H1 = H at hP hS ⊢
  have hP : va_P (dC, dI) vwCl [(ou, .inl (kJ, 1, .inr (.inl fo)))] H := hP
  have hD : va_D A [(ou, .inl (kJ, 1, .inr (.inl fo)))] := hD
  refine W.widen (k := 0) (n := 0) (Nat.le_of_ble_eq_true rfl) (Nat.le_of_ble_eq_true rfl) ?_
  subst w2
  refine lv_i2l (v := 21) hx hb dL_count_7 (by decide) ?_
  refine va_last hx hb hK hP hD hS 0 2 rfl rfl (vp_in_nI (n := 0) (by decide) (by decide)) dL_count_8 (fun H locs hP hD hS => ?_)
  have hP : va_P (dC, dI) vwCl [(ou, .inl (kJ, 1, .inr (.inl (vp_updL fo 0 21))))] H := hP
  have hD : va_D A [(ou, .inl (kJ, 1, .inr (.inl (vp_updL fo 0 21))))] := hD
  refine lv_goto (tgt := 15) hx hb dL_count_9 (by decide) ?_
  refine lv_iconst (v := 0) hx hb dL_count_15 (by decide) ?_
  have hP9 := hP.sub (ws' := [(ou, .inl (kJ, 1, .inr (.inl (vp_updL fo 0 21))))]) [0] rfl
  have hD9 := hD.sub (ws' := [(ou, .inl (kJ, 1, .inr (.inl (vp_updL fo 0 21))))]) [0] (by decide) rfl
  exact W.iret (v := 0) hx hb hr (fun t ht hW => ⟨⟨0, (), rfl, rfl, vp_updL fo 0 21, rfl, by rw [ht]; exact hP9, hD9⟩, hS.F ht⟩) hS.2.2 dL_count_16
def rm_kL10_count_8 : Room := { frames := 2, cells := 0, slots := 0, locals := 44 }
set_option maxHeartbeats 4000000 in
set_option maxRecDepth 100000 in
theorem kL10_count_8 (l : Launch) (dC : Nat → ClassId) (dI : Nat → Nat → Nat) (kB kI kJ kZ kC kS : ClassId) (sz : Nat) (h0 : Nat) (xa1 : Nat) (xa3 : Nat) (xa15 : Nat) (xa27 : Nat) (xa28 : Nat) (xa33 : Nat) (xa38 : Nat) (xa41 : Nat) (xa45 : Nat) (xa46 : Nat) (xa47 : Nat) (xa52 : Nat) (xa54 : Nat) (xa55 : Nat) (xa60 : Nat) (xa62 : Nat) (xa67 : Nat) (xa42 : Nat) (xa43 : Nat) (xa44 : Nat) (xa4 : Nat) (xa5 : Nat) (xa6 : Nat) (xa7 : Nat) (xa8 : Nat) (xa9 : Nat) (xa10 : Nat) (xa11 : Nat) (xa12 : Nat) (xa13 : Nat) (xa14 : Nat) (ou : Nat) (fo : Nat → Int64) : Met l yL_count wsL_count rm_kL10_count_8 (va_Pc [.ref h0, .int 8, .ref ou] (fun U => U.heap.size = sz ∧ va_P (dC, dI) vwCl [(h0, .inr (10, [.ref xa1, .ref xa3, .ref xa15, .ref xa27, .ref xa28, .ref xa33, .ref xa38, .ref xa41, .ref xa45, .ref xa46, .ref xa47, .ref xa52, .ref xa54, .int 0, .ref xa55, .ref xa60, .ref xa62, .ref xa67, .int (-1)])), (xa41, .inr (7, [.ref xa3, .ref xa28, .ref xa42, .ref xa43, .ref xa44])), (xa3, .inr (2, [.ref xa4, .ref xa5, .ref xa6, .ref xa7, .ref xa8, .ref xa9, .ref xa10, .int 0, .int 0, .int 0, .int 5, .ref xa11, .ref xa12, .ref xa13, .ref xa14])), (ou, .inl (kJ, 1, .inr (.inl fo)))] U.heap ∧ kE dC dI kB kI kJ kZ kC kS U ∧ va_D (fun _ => True) [(h0, .inr (10, [.ref xa1, .ref xa3, .ref xa15, .ref xa27, .ref xa28, .ref xa33, .ref xa38, .ref xa41, .ref xa45, .ref xa46, .ref xa47, .ref xa52, .ref xa54, .int 0, .ref xa55, .ref xa60, .ref xa62, .ref xa67, .int (-1)])), (xa41, .inr (7, [.ref xa3, .ref xa28, .ref xa42, .ref xa43, .ref xa44])), (xa3, .inr (2, [.ref xa4, .ref xa5, .ref xa6, .ref xa7, .ref xa8, .ref xa9, .ref xa10, .int 0, .int 0, .int 0, .int 5, .ref xa11, .ref xa12, .ref xa13, .ref xa14])), (ou, .inl (kJ, 1, .inr (.inl fo)))])) (va_Qi (fun (r : Int32) (_ : Unit) => r = 0) (fun _ t => ∃ (g1 : Nat → Int64), g1 0 = 0 ∧ va_P (dC, dI) vwCl [(ou, .inl (kJ, 1, .inr (.inl g1)))] t.heap ∧ va_D (va_A [(h0, .inr (10, [.ref xa1, .ref xa3, .ref xa15, .ref xa27, .ref xa28, .ref xa33, .ref xa38, .ref xa41, .ref xa45, .ref xa46, .ref xa47, .ref xa52, .ref xa54, .int 0, .ref xa55, .ref xa60, .ref xa62, .ref xa67, .int (-1)])), (xa41, .inr (7, [.ref xa3, .ref xa28, .ref xa42, .ref xa43, .ref xa44])), (xa3, .inr (2, [.ref xa4, .ref xa5, .ref xa6, .ref xa7, .ref xa8, .ref xa9, .ref xa10, .int 0, .int 0, .int 0, .int 5, .ref xa11, .ref xa12, .ref xa13, .ref xa14])), (ou, .inl (kJ, 1, .inr (.inl fo)))] sz) [(ou, .inl (kJ, 1, .inr (.inl g1)))]) (va_A [(h0, .inr (10, [.ref xa1, .ref xa3, .ref xa15, .ref xa27, .ref xa28, .ref xa33, .ref xa38, .ref xa41, .ref xa45, .ref xa46, .ref xa47, .ref xa52, .ref xa54, .int 0, .ref xa55, .ref xa60, .ref xa62, .ref xa67, .int (-1)])), (xa41, .inr (7, [.ref xa3, .ref xa28, .ref xa42, .ref xa43, .ref xa44])), (xa3, .inr (2, [.ref xa4, .ref xa5, .ref xa6, .ref xa7, .ref xa8, .ref xa9, .ref xa10, .int 0, .int 0, .int 0, .int 5, .ref xa11, .ref xa12, .ref xa13, .ref xa14])), (ou, .inl (kJ, 1, .inr (.inl fo)))] sz)) 0 0 (va_A [(h0, .inr (10, [.ref xa1, .ref xa3, .ref xa15, .ref xa27, .ref xa28, .ref xa33, .ref xa38, .ref xa41, .ref xa45, .ref xa46, .ref xa47, .ref xa52, .ref xa54, .int 0, .ref xa55, .ref xa60, .ref xa62, .ref xa67, .int (-1)])), (xa41, .inr (7, [.ref xa3, .ref xa28, .ref xa42, .ref xa43, .ref xa44])), (xa3, .inr (2, [.ref xa4, .ref xa5, .ref xa6, .ref xa7, .ref xa8, .ref xa9, .ref xa10, .int 0, .int 0, .int 0, .int 5, .ref xa11, .ref xa12, .ref xa13, .ref xa14])), (ou, .inl (kJ, 1, .inr (.inl fo)))] sz) := by
  refine va_MetW (cc := cL_count) (maxL := 4) (ret := (some .int)) (by decide) rfl ?_
  intro p e s m args0 below meth c s₁ B hml hv
  obtain ⟨hargs, hsz, hP, hE, hD0⟩ := hv
  have hx := B.exec
  have hb := B.bytes
  have hr := B.returns
  have hts := atoms_spec (ws := wsL_count) B.pre
  have hown : s.vm.findClass RL = some m.cls := findClass_of_methodNamed B.named
  have hlocks := B.notSynchronized
  have hK := hE.1
  have hin10 : ∀ w ∈ wsX100, w ∈ wsL_count := fun _ h9 => List.mem_cons_of_mem _ (List.mem_append_left _ (List.mem_append_left _ (List.mem_append_left _ (List.mem_append_left _ (List.mem_append_left _ (List.mem_append_left _ (List.mem_append_left _ (List.mem_append_left _ (List.mem_append_right _ h9)))))))))
  have hin0 : ∀ w ∈ wsX00, w ∈ wsL_count := fun _ h9 => List.mem_cons_of_mem _ (List.mem_append_left _ (List.mem_append_left _ (List.mem_append_left _ (List.mem_append_left _ (List.mem_append_left _ (List.mem_append_left _ (List.mem_append_left _ (List.mem_append_right _ h9))))))))
  have hin2 : ∀ w ∈ wsX20, w ∈ wsL_count := fun _ h9 => List.mem_cons_of_mem _ (List.mem_append_left _ (List.mem_append_left _ (List.mem_append_left _ (List.mem_append_left _ (List.mem_append_left _ (List.mem_append_left _ (List.mem_append_right _ h9)))))))
  have hin1 : ∀ w ∈ wsX10, w ∈ wsL_count := fun _ h9 => List.mem_cons_of_mem _ (List.mem_append_left _ (List.mem_append_left _ (List.mem_append_left _ (List.mem_append_left _ (List.mem_append_left _ (List.mem_append_right _ h9))))))
  have hin3 : ∀ w ∈ wsX30, w ∈ wsL_count := fun _ h9 => List.mem_cons_of_mem _ (List.mem_append_left _ (List.mem_append_left _ (List.mem_append_left _ (List.mem_append_left _ (List.mem_append_right _ h9)))))
  have hin8 : ∀ w ∈ wsX80, w ∈ wsL_count := fun _ h9 => List.mem_cons_of_mem _ (List.mem_append_left _ (List.mem_append_left _ (List.mem_append_left _ (List.mem_append_right _ h9))))
  have hin4 : ∀ w ∈ wsX40, w ∈ wsL_count := fun _ h9 => List.mem_cons_of_mem _ (List.mem_append_left _ (List.mem_append_left _ (List.mem_append_right _ h9)))
  have hin7 : ∀ w ∈ wsX70, w ∈ wsL_count := fun _ h9 => List.mem_cons_of_mem _ (List.mem_append_left _ (List.mem_append_right _ h9))
  subst hsz
  have hD := hD0.self (sz := s.heap.size)
  generalize hAe : va_A [(h0, .inr (10, [.ref xa1, .ref xa3, .ref xa15, .ref xa27, .ref xa28, .ref xa33, .ref xa38, .ref xa41, .ref xa45, .ref xa46, .ref xa47, .ref xa52, .ref xa54, .int 0, .ref xa55, .ref xa60, .ref xa62, .ref xa67, .int (-1)])), (xa41, .inr (7, [.ref xa3, .ref xa28, .ref xa42, .ref xa43, .ref xa44])), (xa3, .inr (2, [.ref xa4, .ref xa5, .ref xa6, .ref xa7, .ref xa8, .ref xa9, .ref xa10, .int 0, .int 0, .int 0, .int 5, .ref xa11, .ref xa12, .ref xa13, .ref xa14])), (ou, .inl (kJ, 1, .inr (.inl fo)))] s.heap.size = A at hD ⊢
  have hA : ∀ q : Nat, s.heap.size ≤ q → A q := fun q h => by rw [← hAe]; exact Or.inr h
  have hS : va_S A s.heap s.heap [] := va_S.rf
  have hP : va_P (dC, dI) vwCl [(h0, .inr (10, [.ref xa1, .ref xa3, .ref xa15, .ref xa27, .ref xa28, .ref xa33, .ref xa38, .ref xa41, .ref xa45, .ref xa46, .ref xa47, .ref xa52, .ref xa54, .int 0, .ref xa55, .ref xa60, .ref xa62, .ref xa67, .int (-1)])), (xa41, .inr (7, [.ref xa3, .ref xa28, .ref xa42, .ref xa43, .ref xa44])), (xa3, .inr (2, [.ref xa4, .ref xa5, .ref xa6, .ref xa7, .ref xa8, .ref xa9, .ref xa10, .int 0, .int 0, .int 0, .int 5, .ref xa11, .ref xa12, .ref xa13, .ref xa14])), (ou, .inl (kJ, 1, .inr (.inl fo)))] s.heap := hP
  have hl := lv_entry ([.ref h0, .int 8, .ref ou]) (n := 4) (Nat.le_of_ble_eq_true rfl)
  have hla : entryFrame m args0 4 = entryFrame m ([.ref h0, .int 8, .ref ou] : List Value).toArray 4 := by rw [hargs]
  rw [hla, lg_entry_eq]
  generalize (lg_sl ([.ref h0, .int 8, .ref ou]) ++ List.replicate (4 - (lg_sl ([.ref h0, .int 8, .ref ou])).length) Slot.unset).toArray = ls at hl ⊢
  have hl : lv_has ls 4 [(0, .ref h0), (1, .int 8), (2, .ref ou)] := hl
  refine lv_aload_n hx hb dL_count_0 rfl (lv_at hl 2 rfl) ?_
  refine lv_iconst (v := 0) hx hb dL_count_1 (by decide) ?_
  refine lv_aload_n hx hb dL_count_2 rfl (lv_at hl 0 rfl) ?_
  refine lv_iload_n hx hb dL_count_3 rfl (lv_at hl 1 rfl) ?_
  have hPc := hP.sub (ws' := [(h0, .inr (10, [.ref xa1, .ref xa3, .ref xa15, .ref xa27, .ref xa28, .ref xa33, .ref xa38, .ref xa41, .ref xa45, .ref xa46, .ref xa47, .ref xa52, .ref xa54, .int 0, .ref xa55, .ref xa60, .ref xa62, .ref xa67, .int (-1)])), (xa41, .inr (7, [.ref xa3, .ref xa28, .ref xa42, .ref xa43, .ref xa44])), (xa3, .inr (2, [.ref xa4, .ref xa5, .ref xa6, .ref xa7, .ref xa8, .ref xa9, .ref xa10, .int 0, .int 0, .int 0, .int 5, .ref xa11, .ref xa12, .ref xa13, .ref xa14]))]) [0, 1, 2] rfl
  have hDc := hD.sub (ws' := [(h0, .inr (10, [.ref xa1, .ref xa3, .ref xa15, .ref xa27, .ref xa28, .ref xa33, .ref xa38, .ref xa41, .ref xa45, .ref xa46, .ref xa47, .ref xa52, .ref xa54, .int 0, .ref xa55, .ref xa60, .ref xa62, .ref xa67, .int (-1)])), (xa41, .inr (7, [.ref xa3, .ref xa28, .ref xa42, .ref xa43, .ref xa44])), (xa3, .inr (2, [.ref xa4, .ref xa5, .ref xa6, .ref xa7, .ref xa8, .ref xa9, .ref xa10, .int 0, .int 0, .int 0, .int 5, .ref xa11, .ref xa12, .ref xa13, .ref xa14]))]) [0, 1, 2] (by decide) rfl
  have hFc := va_free (wc := [(h0, .inr (10, [.ref xa1, .ref xa3, .ref xa15, .ref xa27, .ref xa28, .ref xa33, .ref xa38, .ref xa41, .ref xa45, .ref xa46, .ref xa47, .ref xa52, .ref xa54, .int 0, .ref xa55, .ref xa60, .ref xa62, .ref xa67, .int (-1)])), (xa41, .inr (7, [.ref xa3, .ref xa28, .ref xa42, .ref xa43, .ref xa44])), (xa3, .inr (2, [.ref xa4, .ref xa5, .ref xa6, .ref xa7, .ref xa8, .ref xa9, .ref xa10, .int 0, .int 0, .int 0, .int 5, .ref xa11, .ref xa12, .ref xa13, .ref xa14]))]) hD hS hA [0, 1, 2] rfl
  refine va_calli (va_runV (As := [.int 8]) (rest := [.int 0, .ref ou]) ⟨hx, hb, hml, hown, hts⟩ (k10_count_8 l dC dI kB kI kJ kZ kC kS s.heap.size h0 xa1 xa3 xa15 xa27 xa28 xa33 xa38 xa41 xa45 xa46 xa47 xa52 xa54 xa55 xa60 xa62 xa67 xa42 xa43 xa44 xa4 xa5 xa6 xa7 xa8 xa9 xa10 xa11 xa12 xa13 xa14) (cwV 1 hts gL_count_X10_count rfl rfl rfl (by decide +kernel) ⟨Nat.le_of_ble_eq_true rfl, Nat.le_of_ble_eq_true rfl⟩) ⟨fun a U g mk q => by obtain ⟨q0, q1, qP, qE, qD⟩ := q; exact ⟨q0, q1, qP, kE_call qE, qD⟩, va_recv hK hP (ci := 10) (q0 := 0) rfl rfl, fun U hU hW => ⟨rfl, by rw [hU], by rw [hU]; exact hPc, kE_warm hW hE, hDc.weaken (fun _ _ _ _ => trivial)⟩⟩ rfl rfl hl.1 rfl (lv_room (Nat.le_of_ble_eq_true rfl)) dL_count_4 ⟨Nat.le_of_ble_eq_true rfl, Nat.le_of_ble_eq_true rfl⟩) hS (fun q _ h => hFc q h) hFc (fun r1 u t H1 locs ht hvm w2 hB hz1 hk1 hS => ?_)
  obtain ⟨hP1, hD1⟩ := hB
  rw [ht] at hP1
  try dsimp only at w2
  obtain ⟨hP, hD⟩ := va_join (wr := [(ou, .inl (kJ, 1, .inr (.inl fo)))]) (w1 := []) hP hD [0, 1, 2] [3] rfl rfl (by decide) (by decide) hk1 hFc hP1 hD1
  generalize H1 = H at hP hS ⊢
  have hP : va_P (dC, dI) vwCl [(ou, .inl (kJ, 1, .inr (.inl fo)))] H := hP
  have hD : va_D A [(ou, .inl (kJ, 1, .inr (.inl fo)))] := hD
  refine W.widen (k := 0) (n := 0) (Nat.le_of_ble_eq_true rfl) (Nat.le_of_ble_eq_true rfl) ?_
  subst w2
  refine lv_i2l (v := 0) hx hb dL_count_7 (by decide) ?_
  refine va_last hx hb hK hP hD hS 0 2 rfl rfl (vp_in_nI (n := 0) (by decide) (by decide)) dL_count_8 (fun H locs hP hD hS => ?_)
  have hP : va_P (dC, dI) vwCl [(ou, .inl (kJ, 1, .inr (.inl (vp_updL fo 0 0))))] H := hP
  have hD : va_D A [(ou, .inl (kJ, 1, .inr (.inl (vp_updL fo 0 0))))] := hD
  refine lv_goto (tgt := 15) hx hb dL_count_9 (by decide) ?_
  refine lv_iconst (v := 0) hx hb dL_count_15 (by decide) ?_
  have hP9 := hP.sub (ws' := [(ou, .inl (kJ, 1, .inr (.inl (vp_updL fo 0 0))))]) [0] rfl
  have hD9 := hD.sub (ws' := [(ou, .inl (kJ, 1, .inr (.inl (vp_updL fo 0 0))))]) [0] (by decide) rfl
  exact W.iret (v := 0) hx hb hr (fun t ht hW => ⟨⟨0, (), rfl, rfl, vp_updL fo 0 0, rfl, by rw [ht]; exact hP9, hD9⟩, hS.F ht⟩) hS.2.2 dL_count_16
def rm_kL10_count_9 : Room := { frames := 2, cells := 0, slots := 0, locals := 43 }
set_option maxHeartbeats 4000000 in
set_option maxRecDepth 100000 in
theorem kL10_count_9 (l : Launch) (dC : Nat → ClassId) (dI : Nat → Nat → Nat) (kB kI kJ kZ kC kS : ClassId) (sz : Nat) (h0 : Nat) (xa1 : Nat) (xa3 : Nat) (xa15 : Nat) (xa27 : Nat) (xa28 : Nat) (xa33 : Nat) (xa38 : Nat) (xa41 : Nat) (xa45 : Nat) (xa46 : Nat) (xa47 : Nat) (xa52 : Nat) (xa54 : Nat) (xa55 : Nat) (xa60 : Nat) (xa62 : Nat) (xa67 : Nat) (xa29 : Nat) (xa30 : Nat) (xa31 : Nat) (xa32 : Nat) (ou : Nat) (fo : Nat → Int64) : Met l yL_count wsL_count rm_kL10_count_9 (va_Pc [.ref h0, .int 9, .ref ou] (fun U => U.heap.size = sz ∧ va_P (dC, dI) vwCl [(h0, .inr (10, [.ref xa1, .ref xa3, .ref xa15, .ref xa27, .ref xa28, .ref xa33, .ref xa38, .ref xa41, .ref xa45, .ref xa46, .ref xa47, .ref xa52, .ref xa54, .int 0, .ref xa55, .ref xa60, .ref xa62, .ref xa67, .int (-1)])), (xa28, .inr (0, [.ref xa29, .ref xa30, .ref xa31, .ref xa32, .int 5, .int 0, .int 0, .int 0, .int 0, .int 0])), (xa29, .inl (kJ, 96, .inr (.inl (fun _ => 0)))), (xa30, .inl (kI, 30, .inl (fun _ => 0))), (xa31, .inl (kI, 12, .inl (fun _ => 0))), (xa32, .inl (kI, 12, .inl (fun _ => 0))), (ou, .inl (kJ, 1, .inr (.inl fo)))] U.heap ∧ kE dC dI kB kI kJ kZ kC kS U ∧ va_D (fun _ => True) [(h0, .inr (10, [.ref xa1, .ref xa3, .ref xa15, .ref xa27, .ref xa28, .ref xa33, .ref xa38, .ref xa41, .ref xa45, .ref xa46, .ref xa47, .ref xa52, .ref xa54, .int 0, .ref xa55, .ref xa60, .ref xa62, .ref xa67, .int (-1)])), (xa28, .inr (0, [.ref xa29, .ref xa30, .ref xa31, .ref xa32, .int 5, .int 0, .int 0, .int 0, .int 0, .int 0])), (xa29, .inl (kJ, 96, .inr (.inl (fun _ => 0)))), (xa30, .inl (kI, 30, .inl (fun _ => 0))), (xa31, .inl (kI, 12, .inl (fun _ => 0))), (xa32, .inl (kI, 12, .inl (fun _ => 0))), (ou, .inl (kJ, 1, .inr (.inl fo)))])) (va_Qi (fun (r : Int32) (_ : Unit) => r = 0) (fun _ t => ∃ (g1 : Nat → Int64), g1 0 = 0 ∧ va_P (dC, dI) vwCl [(ou, .inl (kJ, 1, .inr (.inl g1)))] t.heap ∧ va_D (va_A [(h0, .inr (10, [.ref xa1, .ref xa3, .ref xa15, .ref xa27, .ref xa28, .ref xa33, .ref xa38, .ref xa41, .ref xa45, .ref xa46, .ref xa47, .ref xa52, .ref xa54, .int 0, .ref xa55, .ref xa60, .ref xa62, .ref xa67, .int (-1)])), (xa28, .inr (0, [.ref xa29, .ref xa30, .ref xa31, .ref xa32, .int 5, .int 0, .int 0, .int 0, .int 0, .int 0])), (xa29, .inl (kJ, 96, .inr (.inl (fun _ => 0)))), (xa30, .inl (kI, 30, .inl (fun _ => 0))), (xa31, .inl (kI, 12, .inl (fun _ => 0))), (xa32, .inl (kI, 12, .inl (fun _ => 0))), (ou, .inl (kJ, 1, .inr (.inl fo)))] sz) [(ou, .inl (kJ, 1, .inr (.inl g1)))]) (va_A [(h0, .inr (10, [.ref xa1, .ref xa3, .ref xa15, .ref xa27, .ref xa28, .ref xa33, .ref xa38, .ref xa41, .ref xa45, .ref xa46, .ref xa47, .ref xa52, .ref xa54, .int 0, .ref xa55, .ref xa60, .ref xa62, .ref xa67, .int (-1)])), (xa28, .inr (0, [.ref xa29, .ref xa30, .ref xa31, .ref xa32, .int 5, .int 0, .int 0, .int 0, .int 0, .int 0])), (xa29, .inl (kJ, 96, .inr (.inl (fun _ => 0)))), (xa30, .inl (kI, 30, .inl (fun _ => 0))), (xa31, .inl (kI, 12, .inl (fun _ => 0))), (xa32, .inl (kI, 12, .inl (fun _ => 0))), (ou, .inl (kJ, 1, .inr (.inl fo)))] sz)) 0 0 (va_A [(h0, .inr (10, [.ref xa1, .ref xa3, .ref xa15, .ref xa27, .ref xa28, .ref xa33, .ref xa38, .ref xa41, .ref xa45, .ref xa46, .ref xa47, .ref xa52, .ref xa54, .int 0, .ref xa55, .ref xa60, .ref xa62, .ref xa67, .int (-1)])), (xa28, .inr (0, [.ref xa29, .ref xa30, .ref xa31, .ref xa32, .int 5, .int 0, .int 0, .int 0, .int 0, .int 0])), (xa29, .inl (kJ, 96, .inr (.inl (fun _ => 0)))), (xa30, .inl (kI, 30, .inl (fun _ => 0))), (xa31, .inl (kI, 12, .inl (fun _ => 0))), (xa32, .inl (kI, 12, .inl (fun _ => 0))), (ou, .inl (kJ, 1, .inr (.inl fo)))] sz) := by
  refine va_MetW (cc := cL_count) (maxL := 4) (ret := (some .int)) (by decide) rfl ?_
  intro p e s m args0 below meth c s₁ B hml hv
  obtain ⟨hargs, hsz, hP, hE, hD0⟩ := hv
  have hx := B.exec
  have hb := B.bytes
  have hr := B.returns
  have hts := atoms_spec (ws := wsL_count) B.pre
  have hown : s.vm.findClass RL = some m.cls := findClass_of_methodNamed B.named
  have hlocks := B.notSynchronized
  have hK := hE.1
  have hin10 : ∀ w ∈ wsX100, w ∈ wsL_count := fun _ h9 => List.mem_cons_of_mem _ (List.mem_append_left _ (List.mem_append_left _ (List.mem_append_left _ (List.mem_append_left _ (List.mem_append_left _ (List.mem_append_left _ (List.mem_append_left _ (List.mem_append_left _ (List.mem_append_right _ h9)))))))))
  have hin0 : ∀ w ∈ wsX00, w ∈ wsL_count := fun _ h9 => List.mem_cons_of_mem _ (List.mem_append_left _ (List.mem_append_left _ (List.mem_append_left _ (List.mem_append_left _ (List.mem_append_left _ (List.mem_append_left _ (List.mem_append_left _ (List.mem_append_right _ h9))))))))
  have hin2 : ∀ w ∈ wsX20, w ∈ wsL_count := fun _ h9 => List.mem_cons_of_mem _ (List.mem_append_left _ (List.mem_append_left _ (List.mem_append_left _ (List.mem_append_left _ (List.mem_append_left _ (List.mem_append_left _ (List.mem_append_right _ h9)))))))
  have hin1 : ∀ w ∈ wsX10, w ∈ wsL_count := fun _ h9 => List.mem_cons_of_mem _ (List.mem_append_left _ (List.mem_append_left _ (List.mem_append_left _ (List.mem_append_left _ (List.mem_append_left _ (List.mem_append_right _ h9))))))
  have hin3 : ∀ w ∈ wsX30, w ∈ wsL_count := fun _ h9 => List.mem_cons_of_mem _ (List.mem_append_left _ (List.mem_append_left _ (List.mem_append_left _ (List.mem_append_left _ (List.mem_append_right _ h9)))))
  have hin8 : ∀ w ∈ wsX80, w ∈ wsL_count := fun _ h9 => List.mem_cons_of_mem _ (List.mem_append_left _ (List.mem_append_left _ (List.mem_append_left _ (List.mem_append_right _ h9))))
  have hin4 : ∀ w ∈ wsX40, w ∈ wsL_count := fun _ h9 => List.mem_cons_of_mem _ (List.mem_append_left _ (List.mem_append_left _ (List.mem_append_right _ h9)))
  have hin7 : ∀ w ∈ wsX70, w ∈ wsL_count := fun _ h9 => List.mem_cons_of_mem _ (List.mem_append_left _ (List.mem_append_right _ h9))
  subst hsz
  have hD := hD0.self (sz := s.heap.size)
  generalize hAe : va_A [(h0, .inr (10, [.ref xa1, .ref xa3, .ref xa15, .ref xa27, .ref xa28, .ref xa33, .ref xa38, .ref xa41, .ref xa45, .ref xa46, .ref xa47, .ref xa52, .ref xa54, .int 0, .ref xa55, .ref xa60, .ref xa62, .ref xa67, .int (-1)])), (xa28, .inr (0, [.ref xa29, .ref xa30, .ref xa31, .ref xa32, .int 5, .int 0, .int 0, .int 0, .int 0, .int 0])), (xa29, .inl (kJ, 96, .inr (.inl (fun _ => 0)))), (xa30, .inl (kI, 30, .inl (fun _ => 0))), (xa31, .inl (kI, 12, .inl (fun _ => 0))), (xa32, .inl (kI, 12, .inl (fun _ => 0))), (ou, .inl (kJ, 1, .inr (.inl fo)))] s.heap.size = A at hD ⊢
  have hA : ∀ q : Nat, s.heap.size ≤ q → A q := fun q h => by rw [← hAe]; exact Or.inr h
  have hS : va_S A s.heap s.heap [] := va_S.rf
  have hP : va_P (dC, dI) vwCl [(h0, .inr (10, [.ref xa1, .ref xa3, .ref xa15, .ref xa27, .ref xa28, .ref xa33, .ref xa38, .ref xa41, .ref xa45, .ref xa46, .ref xa47, .ref xa52, .ref xa54, .int 0, .ref xa55, .ref xa60, .ref xa62, .ref xa67, .int (-1)])), (xa28, .inr (0, [.ref xa29, .ref xa30, .ref xa31, .ref xa32, .int 5, .int 0, .int 0, .int 0, .int 0, .int 0])), (xa29, .inl (kJ, 96, .inr (.inl (fun _ => 0)))), (xa30, .inl (kI, 30, .inl (fun _ => 0))), (xa31, .inl (kI, 12, .inl (fun _ => 0))), (xa32, .inl (kI, 12, .inl (fun _ => 0))), (ou, .inl (kJ, 1, .inr (.inl fo)))] s.heap := hP
  have hl := lv_entry ([.ref h0, .int 9, .ref ou]) (n := 4) (Nat.le_of_ble_eq_true rfl)
  have hla : entryFrame m args0 4 = entryFrame m ([.ref h0, .int 9, .ref ou] : List Value).toArray 4 := by rw [hargs]
  rw [hla, lg_entry_eq]
  generalize (lg_sl ([.ref h0, .int 9, .ref ou]) ++ List.replicate (4 - (lg_sl ([.ref h0, .int 9, .ref ou])).length) Slot.unset).toArray = ls at hl ⊢
  have hl : lv_has ls 4 [(0, .ref h0), (1, .int 9), (2, .ref ou)] := hl
  refine lv_aload_n hx hb dL_count_0 rfl (lv_at hl 2 rfl) ?_
  refine lv_iconst (v := 0) hx hb dL_count_1 (by decide) ?_
  refine lv_aload_n hx hb dL_count_2 rfl (lv_at hl 0 rfl) ?_
  refine lv_iload_n hx hb dL_count_3 rfl (lv_at hl 1 rfl) ?_
  have hPc := hP.sub (ws' := [(h0, .inr (10, [.ref xa1, .ref xa3, .ref xa15, .ref xa27, .ref xa28, .ref xa33, .ref xa38, .ref xa41, .ref xa45, .ref xa46, .ref xa47, .ref xa52, .ref xa54, .int 0, .ref xa55, .ref xa60, .ref xa62, .ref xa67, .int (-1)])), (xa28, .inr (0, [.ref xa29, .ref xa30, .ref xa31, .ref xa32, .int 5, .int 0, .int 0, .int 0, .int 0, .int 0])), (xa29, .inl (kJ, 96, .inr (.inl (fun _ => 0)))), (xa30, .inl (kI, 30, .inl (fun _ => 0))), (xa31, .inl (kI, 12, .inl (fun _ => 0))), (xa32, .inl (kI, 12, .inl (fun _ => 0)))]) [0, 1, 2, 3, 4, 5] rfl
  have hDc := hD.sub (ws' := [(h0, .inr (10, [.ref xa1, .ref xa3, .ref xa15, .ref xa27, .ref xa28, .ref xa33, .ref xa38, .ref xa41, .ref xa45, .ref xa46, .ref xa47, .ref xa52, .ref xa54, .int 0, .ref xa55, .ref xa60, .ref xa62, .ref xa67, .int (-1)])), (xa28, .inr (0, [.ref xa29, .ref xa30, .ref xa31, .ref xa32, .int 5, .int 0, .int 0, .int 0, .int 0, .int 0])), (xa29, .inl (kJ, 96, .inr (.inl (fun _ => 0)))), (xa30, .inl (kI, 30, .inl (fun _ => 0))), (xa31, .inl (kI, 12, .inl (fun _ => 0))), (xa32, .inl (kI, 12, .inl (fun _ => 0)))]) [0, 1, 2, 3, 4, 5] (by decide) rfl
  have hFc := va_free (wc := [(h0, .inr (10, [.ref xa1, .ref xa3, .ref xa15, .ref xa27, .ref xa28, .ref xa33, .ref xa38, .ref xa41, .ref xa45, .ref xa46, .ref xa47, .ref xa52, .ref xa54, .int 0, .ref xa55, .ref xa60, .ref xa62, .ref xa67, .int (-1)])), (xa28, .inr (0, [.ref xa29, .ref xa30, .ref xa31, .ref xa32, .int 5, .int 0, .int 0, .int 0, .int 0, .int 0])), (xa29, .inl (kJ, 96, .inr (.inl (fun _ => 0)))), (xa30, .inl (kI, 30, .inl (fun _ => 0))), (xa31, .inl (kI, 12, .inl (fun _ => 0))), (xa32, .inl (kI, 12, .inl (fun _ => 0)))]) hD hS hA [0, 1, 2, 3, 4, 5] rfl
  refine va_calli (va_runV (As := [.int 9]) (rest := [.int 0, .ref ou]) ⟨hx, hb, hml, hown, hts⟩ (k10_count_9 l dC dI kB kI kJ kZ kC kS s.heap.size h0 xa1 xa3 xa15 xa27 xa28 xa33 xa38 xa41 xa45 xa46 xa47 xa52 xa54 xa55 xa60 xa62 xa67 xa29 xa30 xa31 xa32) (cwV 1 hts gL_count_X10_count rfl rfl rfl (by decide +kernel) ⟨Nat.le_of_ble_eq_true rfl, Nat.le_of_ble_eq_true rfl⟩) ⟨fun a U g mk q => by obtain ⟨q0, q1, qP, qE, qD⟩ := q; exact ⟨q0, q1, qP, kE_call qE, qD⟩, va_recv hK hP (ci := 10) (q0 := 0) rfl rfl, fun U hU hW => ⟨rfl, by rw [hU], by rw [hU]; exact hPc, kE_warm hW hE, hDc.weaken (fun _ _ _ _ => trivial)⟩⟩ rfl rfl hl.1 rfl (lv_room (Nat.le_of_ble_eq_true rfl)) dL_count_4 ⟨Nat.le_of_ble_eq_true rfl, Nat.le_of_ble_eq_true rfl⟩) hS (fun q _ h => hFc q h) hFc (fun r1 u t H1 locs ht hvm w2 hB hz1 hk1 hS => ?_)
  obtain ⟨hP1, hD1⟩ := hB
  rw [ht] at hP1
  try dsimp only at w2
  obtain ⟨hP, hD⟩ := va_join (wr := [(ou, .inl (kJ, 1, .inr (.inl fo)))]) (w1 := []) hP hD [0, 1, 2, 3, 4, 5] [6] rfl rfl (by decide) (by decide) hk1 hFc hP1 hD1
  generalize H1 = H at hP hS ⊢
  have hP : va_P (dC, dI) vwCl [(ou, .inl (kJ, 1, .inr (.inl fo)))] H := hP
  have hD : va_D A [(ou, .inl (kJ, 1, .inr (.inl fo)))] := hD
  refine W.widen (k := 0) (n := 0) (Nat.le_of_ble_eq_true rfl) (Nat.le_of_ble_eq_true rfl) ?_
  subst w2
  refine lv_i2l (v := 0) hx hb dL_count_7 (by decide) ?_
  refine va_last hx hb hK hP hD hS 0 2 rfl rfl (vp_in_nI (n := 0) (by decide) (by decide)) dL_count_8 (fun H locs hP hD hS => ?_)
  have hP : va_P (dC, dI) vwCl [(ou, .inl (kJ, 1, .inr (.inl (vp_updL fo 0 0))))] H := hP
  have hD : va_D A [(ou, .inl (kJ, 1, .inr (.inl (vp_updL fo 0 0))))] := hD
  refine lv_goto (tgt := 15) hx hb dL_count_9 (by decide) ?_
  refine lv_iconst (v := 0) hx hb dL_count_15 (by decide) ?_
  have hP9 := hP.sub (ws' := [(ou, .inl (kJ, 1, .inr (.inl (vp_updL fo 0 0))))]) [0] rfl
  have hD9 := hD.sub (ws' := [(ou, .inl (kJ, 1, .inr (.inl (vp_updL fo 0 0))))]) [0] (by decide) rfl
  exact W.iret (v := 0) hx hb hr (fun t ht hW => ⟨⟨0, (), rfl, rfl, vp_updL fo 0 0, rfl, by rw [ht]; exact hP9, hD9⟩, hS.F ht⟩) hS.2.2 dL_count_16
def rm_kL10_count_10 : Room := { frames := 1, cells := 0, slots := 0, locals := 21 }
set_option maxHeartbeats 4000000 in
set_option maxRecDepth 100000 in
theorem kL10_count_10 (l : Launch) (dC : Nat → ClassId) (dI : Nat → Nat → Nat) (kB kI kJ kZ kC kS : ClassId) (sz : Nat) (h0 : Nat) (xa1 : Nat) (xa3 : Nat) (xa15 : Nat) (xa27 : Nat) (xa28 : Nat) (xa33 : Nat) (xa38 : Nat) (xa41 : Nat) (xa45 : Nat) (xa46 : Nat) (xa47 : Nat) (xa52 : Nat) (xa54 : Nat) (xa55 : Nat) (xa60 : Nat) (xa62 : Nat) (xa67 : Nat) (xa53 : Nat) (ou : Nat) (fo : Nat → Int64) : Met l yL_count wsL_count rm_kL10_count_10 (va_Pc [.ref h0, .int 10, .ref ou] (fun U => U.heap.size = sz ∧ va_P (dC, dI) vwCl [(h0, .inr (10, [.ref xa1, .ref xa3, .ref xa15, .ref xa27, .ref xa28, .ref xa33, .ref xa38, .ref xa41, .ref xa45, .ref xa46, .ref xa47, .ref xa52, .ref xa54, .int 0, .ref xa55, .ref xa60, .ref xa62, .ref xa67, .int (-1)])), (xa52, .inr (1, [.ref xa53, .int 0, .int 0])), (ou, .inl (kJ, 1, .inr (.inl fo)))] U.heap ∧ kE dC dI kB kI kJ kZ kC kS U ∧ va_D (fun _ => True) [(h0, .inr (10, [.ref xa1, .ref xa3, .ref xa15, .ref xa27, .ref xa28, .ref xa33, .ref xa38, .ref xa41, .ref xa45, .ref xa46, .ref xa47, .ref xa52, .ref xa54, .int 0, .ref xa55, .ref xa60, .ref xa62, .ref xa67, .int (-1)])), (xa52, .inr (1, [.ref xa53, .int 0, .int 0])), (ou, .inl (kJ, 1, .inr (.inl fo)))])) (va_Qi (fun (r : Int32) (_ : Unit) => r = 0) (fun _ t => ∃ (g1 : Nat → Int64), g1 0 = 0 ∧ va_P (dC, dI) vwCl [(ou, .inl (kJ, 1, .inr (.inl g1)))] t.heap ∧ va_D (va_A [(h0, .inr (10, [.ref xa1, .ref xa3, .ref xa15, .ref xa27, .ref xa28, .ref xa33, .ref xa38, .ref xa41, .ref xa45, .ref xa46, .ref xa47, .ref xa52, .ref xa54, .int 0, .ref xa55, .ref xa60, .ref xa62, .ref xa67, .int (-1)])), (xa52, .inr (1, [.ref xa53, .int 0, .int 0])), (ou, .inl (kJ, 1, .inr (.inl fo)))] sz) [(ou, .inl (kJ, 1, .inr (.inl g1)))]) (va_A [(h0, .inr (10, [.ref xa1, .ref xa3, .ref xa15, .ref xa27, .ref xa28, .ref xa33, .ref xa38, .ref xa41, .ref xa45, .ref xa46, .ref xa47, .ref xa52, .ref xa54, .int 0, .ref xa55, .ref xa60, .ref xa62, .ref xa67, .int (-1)])), (xa52, .inr (1, [.ref xa53, .int 0, .int 0])), (ou, .inl (kJ, 1, .inr (.inl fo)))] sz)) 0 0 (va_A [(h0, .inr (10, [.ref xa1, .ref xa3, .ref xa15, .ref xa27, .ref xa28, .ref xa33, .ref xa38, .ref xa41, .ref xa45, .ref xa46, .ref xa47, .ref xa52, .ref xa54, .int 0, .ref xa55, .ref xa60, .ref xa62, .ref xa67, .int (-1)])), (xa52, .inr (1, [.ref xa53, .int 0, .int 0])), (ou, .inl (kJ, 1, .inr (.inl fo)))] sz) := by
  refine va_MetW (cc := cL_count) (maxL := 4) (ret := (some .int)) (by decide) rfl ?_
  intro p e s m args0 below meth c s₁ B hml hv
  obtain ⟨hargs, hsz, hP, hE, hD0⟩ := hv
  have hx := B.exec
  have hb := B.bytes
  have hr := B.returns
  have hts := atoms_spec (ws := wsL_count) B.pre
  have hown : s.vm.findClass RL = some m.cls := findClass_of_methodNamed B.named
  have hlocks := B.notSynchronized
  have hK := hE.1
  have hin10 : ∀ w ∈ wsX100, w ∈ wsL_count := fun _ h9 => List.mem_cons_of_mem _ (List.mem_append_left _ (List.mem_append_left _ (List.mem_append_left _ (List.mem_append_left _ (List.mem_append_left _ (List.mem_append_left _ (List.mem_append_left _ (List.mem_append_left _ (List.mem_append_right _ h9)))))))))
  have hin0 : ∀ w ∈ wsX00, w ∈ wsL_count := fun _ h9 => List.mem_cons_of_mem _ (List.mem_append_left _ (List.mem_append_left _ (List.mem_append_left _ (List.mem_append_left _ (List.mem_append_left _ (List.mem_append_left _ (List.mem_append_left _ (List.mem_append_right _ h9))))))))
  have hin2 : ∀ w ∈ wsX20, w ∈ wsL_count := fun _ h9 => List.mem_cons_of_mem _ (List.mem_append_left _ (List.mem_append_left _ (List.mem_append_left _ (List.mem_append_left _ (List.mem_append_left _ (List.mem_append_left _ (List.mem_append_right _ h9)))))))
  have hin1 : ∀ w ∈ wsX10, w ∈ wsL_count := fun _ h9 => List.mem_cons_of_mem _ (List.mem_append_left _ (List.mem_append_left _ (List.mem_append_left _ (List.mem_append_left _ (List.mem_append_left _ (List.mem_append_right _ h9))))))
  have hin3 : ∀ w ∈ wsX30, w ∈ wsL_count := fun _ h9 => List.mem_cons_of_mem _ (List.mem_append_left _ (List.mem_append_left _ (List.mem_append_left _ (List.mem_append_left _ (List.mem_append_right _ h9)))))
  have hin8 : ∀ w ∈ wsX80, w ∈ wsL_count := fun _ h9 => List.mem_cons_of_mem _ (List.mem_append_left _ (List.mem_append_left _ (List.mem_append_left _ (List.mem_append_right _ h9))))
  have hin4 : ∀ w ∈ wsX40, w ∈ wsL_count := fun _ h9 => List.mem_cons_of_mem _ (List.mem_append_left _ (List.mem_append_left _ (List.mem_append_right _ h9)))
  have hin7 : ∀ w ∈ wsX70, w ∈ wsL_count := fun _ h9 => List.mem_cons_of_mem _ (List.mem_append_left _ (List.mem_append_right _ h9))
  subst hsz
  have hD := hD0.self (sz := s.heap.size)
  generalize hAe : va_A [(h0, .inr (10, [.ref xa1, .ref xa3, .ref xa15, .ref xa27, .ref xa28, .ref xa33, .ref xa38, .ref xa41, .ref xa45, .ref xa46, .ref xa47, .ref xa52, .ref xa54, .int 0, .ref xa55, .ref xa60, .ref xa62, .ref xa67, .int (-1)])), (xa52, .inr (1, [.ref xa53, .int 0, .int 0])), (ou, .inl (kJ, 1, .inr (.inl fo)))] s.heap.size = A at hD ⊢
  have hA : ∀ q : Nat, s.heap.size ≤ q → A q := fun q h => by rw [← hAe]; exact Or.inr h
  have hS : va_S A s.heap s.heap [] := va_S.rf
  have hP : va_P (dC, dI) vwCl [(h0, .inr (10, [.ref xa1, .ref xa3, .ref xa15, .ref xa27, .ref xa28, .ref xa33, .ref xa38, .ref xa41, .ref xa45, .ref xa46, .ref xa47, .ref xa52, .ref xa54, .int 0, .ref xa55, .ref xa60, .ref xa62, .ref xa67, .int (-1)])), (xa52, .inr (1, [.ref xa53, .int 0, .int 0])), (ou, .inl (kJ, 1, .inr (.inl fo)))] s.heap := hP
  have hl := lv_entry ([.ref h0, .int 10, .ref ou]) (n := 4) (Nat.le_of_ble_eq_true rfl)
  have hla : entryFrame m args0 4 = entryFrame m ([.ref h0, .int 10, .ref ou] : List Value).toArray 4 := by rw [hargs]
  rw [hla, lg_entry_eq]
  generalize (lg_sl ([.ref h0, .int 10, .ref ou]) ++ List.replicate (4 - (lg_sl ([.ref h0, .int 10, .ref ou])).length) Slot.unset).toArray = ls at hl ⊢
  have hl : lv_has ls 4 [(0, .ref h0), (1, .int 10), (2, .ref ou)] := hl
  refine lv_aload_n hx hb dL_count_0 rfl (lv_at hl 2 rfl) ?_
  refine lv_iconst (v := 0) hx hb dL_count_1 (by decide) ?_
  refine lv_aload_n hx hb dL_count_2 rfl (lv_at hl 0 rfl) ?_
  refine lv_iload_n hx hb dL_count_3 rfl (lv_at hl 1 rfl) ?_
  have hPc := hP.sub (ws' := [(h0, .inr (10, [.ref xa1, .ref xa3, .ref xa15, .ref xa27, .ref xa28, .ref xa33, .ref xa38, .ref xa41, .ref xa45, .ref xa46, .ref xa47, .ref xa52, .ref xa54, .int 0, .ref xa55, .ref xa60, .ref xa62, .ref xa67, .int (-1)])), (xa52, .inr (1, [.ref xa53, .int 0, .int 0]))]) [0, 1] rfl
  have hDc := hD.sub (ws' := [(h0, .inr (10, [.ref xa1, .ref xa3, .ref xa15, .ref xa27, .ref xa28, .ref xa33, .ref xa38, .ref xa41, .ref xa45, .ref xa46, .ref xa47, .ref xa52, .ref xa54, .int 0, .ref xa55, .ref xa60, .ref xa62, .ref xa67, .int (-1)])), (xa52, .inr (1, [.ref xa53, .int 0, .int 0]))]) [0, 1] (by decide) rfl
  have hFc := va_free (wc := [(h0, .inr (10, [.ref xa1, .ref xa3, .ref xa15, .ref xa27, .ref xa28, .ref xa33, .ref xa38, .ref xa41, .ref xa45, .ref xa46, .ref xa47, .ref xa52, .ref xa54, .int 0, .ref xa55, .ref xa60, .ref xa62, .ref xa67, .int (-1)])), (xa52, .inr (1, [.ref xa53, .int 0, .int 0]))]) hD hS hA [0, 1] rfl
  refine va_calli (va_runV (As := [.int 10]) (rest := [.int 0, .ref ou]) ⟨hx, hb, hml, hown, hts⟩ (k10_count_10 l dC dI kB kI kJ kZ kC kS s.heap.size h0 xa1 xa3 xa15 xa27 xa28 xa33 xa38 xa41 xa45 xa46 xa47 xa52 xa54 xa55 xa60 xa62 xa67 xa53) (cwV 1 hts gL_count_X10_count rfl rfl rfl (by decide +kernel) ⟨Nat.le_of_ble_eq_true rfl, Nat.le_of_ble_eq_true rfl⟩) ⟨fun a U g mk q => by obtain ⟨q0, q1, qP, qE, qD⟩ := q; exact ⟨q0, q1, qP, kE_call qE, qD⟩, va_recv hK hP (ci := 10) (q0 := 0) rfl rfl, fun U hU hW => ⟨rfl, by rw [hU], by rw [hU]; exact hPc, kE_warm hW hE, hDc.weaken (fun _ _ _ _ => trivial)⟩⟩ rfl rfl hl.1 rfl (lv_room (Nat.le_of_ble_eq_true rfl)) dL_count_4 ⟨Nat.le_of_ble_eq_true rfl, Nat.le_of_ble_eq_true rfl⟩) hS (fun q _ h => hFc q h) hFc (fun r1 u t H1 locs ht hvm w2 hB hz1 hk1 hS => ?_)
  obtain ⟨hP1, hD1⟩ := hB
  rw [ht] at hP1
  try dsimp only at w2
  obtain ⟨hP, hD⟩ := va_join (wr := [(ou, .inl (kJ, 1, .inr (.inl fo)))]) (w1 := []) hP hD [0, 1] [2] rfl rfl (by decide) (by decide) hk1 hFc hP1 hD1
  generalize H1 = H at hP hS ⊢
  have hP : va_P (dC, dI) vwCl [(ou, .inl (kJ, 1, .inr (.inl fo)))] H := hP
  have hD : va_D A [(ou, .inl (kJ, 1, .inr (.inl fo)))] := hD
  refine W.widen (k := 0) (n := 0) (Nat.le_of_ble_eq_true rfl) (Nat.le_of_ble_eq_true rfl) ?_
  subst w2
  refine lv_i2l (v := 0) hx hb dL_count_7 (by decide) ?_
  refine va_last hx hb hK hP hD hS 0 2 rfl rfl (vp_in_nI (n := 0) (by decide) (by decide)) dL_count_8 (fun H locs hP hD hS => ?_)
  have hP : va_P (dC, dI) vwCl [(ou, .inl (kJ, 1, .inr (.inl (vp_updL fo 0 0))))] H := hP
  have hD : va_D A [(ou, .inl (kJ, 1, .inr (.inl (vp_updL fo 0 0))))] := hD
  refine lv_goto (tgt := 15) hx hb dL_count_9 (by decide) ?_
  refine lv_iconst (v := 0) hx hb dL_count_15 (by decide) ?_
  have hP9 := hP.sub (ws' := [(ou, .inl (kJ, 1, .inr (.inl (vp_updL fo 0 0))))]) [0] rfl
  have hD9 := hD.sub (ws' := [(ou, .inl (kJ, 1, .inr (.inl (vp_updL fo 0 0))))]) [0] (by decide) rfl
  exact W.iret (v := 0) hx hb hr (fun t ht hW => ⟨⟨0, (), rfl, rfl, vp_updL fo 0 0, rfl, by rw [ht]; exact hP9, hD9⟩, hS.F ht⟩) hS.2.2 dL_count_16
def rm_kL10_count_11 : Room := { frames := 1, cells := 0, slots := 0, locals := 21 }
set_option maxHeartbeats 4000000 in
set_option maxRecDepth 100000 in
theorem kL10_count_11 (l : Launch) (dC : Nat → ClassId) (dI : Nat → Nat → Nat) (kB kI kJ kZ kC kS : ClassId) (sz : Nat) (h0 : Nat) (xa1 : Nat) (xa3 : Nat) (xa15 : Nat) (xa27 : Nat) (xa28 : Nat) (xa33 : Nat) (xa38 : Nat) (xa41 : Nat) (xa45 : Nat) (xa46 : Nat) (xa47 : Nat) (xa52 : Nat) (xa54 : Nat) (xa55 : Nat) (xa60 : Nat) (xa62 : Nat) (xa67 : Nat) (xa48 : Nat) (xa49 : Nat) (xa50 : Nat) (xa51 : Nat) (ou : Nat) (fo : Nat → Int64) : Met l yL_count wsL_count rm_kL10_count_11 (va_Pc [.ref h0, .int 11, .ref ou] (fun U => U.heap.size = sz ∧ va_P (dC, dI) vwCl [(h0, .inr (10, [.ref xa1, .ref xa3, .ref xa15, .ref xa27, .ref xa28, .ref xa33, .ref xa38, .ref xa41, .ref xa45, .ref xa46, .ref xa47, .ref xa52, .ref xa54, .int 0, .ref xa55, .ref xa60, .ref xa62, .ref xa67, .int (-1)])), (xa47, .inr (3, [.ref xa3, .ref xa45, .ref xa48, .ref xa49, .ref xa50, .ref xa51, .int 0, .int (-1), .int 0])), (ou, .inl (kJ, 1, .inr (.inl fo)))] U.heap ∧ kE dC dI kB kI kJ kZ kC kS U ∧ va_D (fun _ => True) [(h0, .inr (10, [.ref xa1, .ref xa3, .ref xa15, .ref xa27, .ref xa28, .ref xa33, .ref xa38, .ref xa41, .ref xa45, .ref xa46, .ref xa47, .ref xa52, .ref xa54, .int 0, .ref xa55, .ref xa60, .ref xa62, .ref xa67, .int (-1)])), (xa47, .inr (3, [.ref xa3, .ref xa45, .ref xa48, .ref xa49, .ref xa50, .ref xa51, .int 0, .int (-1), .int 0])), (ou, .inl (kJ, 1, .inr (.inl fo)))])) (va_Qi (fun (r : Int32) (_ : Unit) => r = 0) (fun _ t => ∃ (g1 : Nat → Int64), g1 0 = 0 ∧ va_P (dC, dI) vwCl [(ou, .inl (kJ, 1, .inr (.inl g1)))] t.heap ∧ va_D (va_A [(h0, .inr (10, [.ref xa1, .ref xa3, .ref xa15, .ref xa27, .ref xa28, .ref xa33, .ref xa38, .ref xa41, .ref xa45, .ref xa46, .ref xa47, .ref xa52, .ref xa54, .int 0, .ref xa55, .ref xa60, .ref xa62, .ref xa67, .int (-1)])), (xa47, .inr (3, [.ref xa3, .ref xa45, .ref xa48, .ref xa49, .ref xa50, .ref xa51, .int 0, .int (-1), .int 0])), (ou, .inl (kJ, 1, .inr (.inl fo)))] sz) [(ou, .inl (kJ, 1, .inr (.inl g1)))]) (va_A [(h0, .inr (10, [.ref xa1, .ref xa3, .ref xa15, .ref xa27, .ref xa28, .ref xa33, .ref xa38, .ref xa41, .ref xa45, .ref xa46, .ref xa47, .ref xa52, .ref xa54, .int 0, .ref xa55, .ref xa60, .ref xa62, .ref xa67, .int (-1)])), (xa47, .inr (3, [.ref xa3, .ref xa45, .ref xa48, .ref xa49, .ref xa50, .ref xa51, .int 0, .int (-1), .int 0])), (ou, .inl (kJ, 1, .inr (.inl fo)))] sz)) 0 0 (va_A [(h0, .inr (10, [.ref xa1, .ref xa3, .ref xa15, .ref xa27, .ref xa28, .ref xa33, .ref xa38, .ref xa41, .ref xa45, .ref xa46, .ref xa47, .ref xa52, .ref xa54, .int 0, .ref xa55, .ref xa60, .ref xa62, .ref xa67, .int (-1)])), (xa47, .inr (3, [.ref xa3, .ref xa45, .ref xa48, .ref xa49, .ref xa50, .ref xa51, .int 0, .int (-1), .int 0])), (ou, .inl (kJ, 1, .inr (.inl fo)))] sz) := by
  refine va_MetW (cc := cL_count) (maxL := 4) (ret := (some .int)) (by decide) rfl ?_
  intro p e s m args0 below meth c s₁ B hml hv
  obtain ⟨hargs, hsz, hP, hE, hD0⟩ := hv
  have hx := B.exec
  have hb := B.bytes
  have hr := B.returns
  have hts := atoms_spec (ws := wsL_count) B.pre
  have hown : s.vm.findClass RL = some m.cls := findClass_of_methodNamed B.named
  have hlocks := B.notSynchronized
  have hK := hE.1
  have hin10 : ∀ w ∈ wsX100, w ∈ wsL_count := fun _ h9 => List.mem_cons_of_mem _ (List.mem_append_left _ (List.mem_append_left _ (List.mem_append_left _ (List.mem_append_left _ (List.mem_append_left _ (List.mem_append_left _ (List.mem_append_left _ (List.mem_append_left _ (List.mem_append_right _ h9)))))))))
  have hin0 : ∀ w ∈ wsX00, w ∈ wsL_count := fun _ h9 => List.mem_cons_of_mem _ (List.mem_append_left _ (List.mem_append_left _ (List.mem_append_left _ (List.mem_append_left _ (List.mem_append_left _ (List.mem_append_left _ (List.mem_append_left _ (List.mem_append_right _ h9))))))))
  have hin2 : ∀ w ∈ wsX20, w ∈ wsL_count := fun _ h9 => List.mem_cons_of_mem _ (List.mem_append_left _ (List.mem_append_left _ (List.mem_append_left _ (List.mem_append_left _ (List.mem_append_left _ (List.mem_append_left _ (List.mem_append_right _ h9)))))))
  have hin1 : ∀ w ∈ wsX10, w ∈ wsL_count := fun _ h9 => List.mem_cons_of_mem _ (List.mem_append_left _ (List.mem_append_left _ (List.mem_append_left _ (List.mem_append_left _ (List.mem_append_left _ (List.mem_append_right _ h9))))))
  have hin3 : ∀ w ∈ wsX30, w ∈ wsL_count := fun _ h9 => List.mem_cons_of_mem _ (List.mem_append_left _ (List.mem_append_left _ (List.mem_append_left _ (List.mem_append_left _ (List.mem_append_right _ h9)))))
  have hin8 : ∀ w ∈ wsX80, w ∈ wsL_count := fun _ h9 => List.mem_cons_of_mem _ (List.mem_append_left _ (List.mem_append_left _ (List.mem_append_left _ (List.mem_append_right _ h9))))
  have hin4 : ∀ w ∈ wsX40, w ∈ wsL_count := fun _ h9 => List.mem_cons_of_mem _ (List.mem_append_left _ (List.mem_append_left _ (List.mem_append_right _ h9)))
  have hin7 : ∀ w ∈ wsX70, w ∈ wsL_count := fun _ h9 => List.mem_cons_of_mem _ (List.mem_append_left _ (List.mem_append_right _ h9))
  subst hsz
  have hD := hD0.self (sz := s.heap.size)
  generalize hAe : va_A [(h0, .inr (10, [.ref xa1, .ref xa3, .ref xa15, .ref xa27, .ref xa28, .ref xa33, .ref xa38, .ref xa41, .ref xa45, .ref xa46, .ref xa47, .ref xa52, .ref xa54, .int 0, .ref xa55, .ref xa60, .ref xa62, .ref xa67, .int (-1)])), (xa47, .inr (3, [.ref xa3, .ref xa45, .ref xa48, .ref xa49, .ref xa50, .ref xa51, .int 0, .int (-1), .int 0])), (ou, .inl (kJ, 1, .inr (.inl fo)))] s.heap.size = A at hD ⊢
  have hA : ∀ q : Nat, s.heap.size ≤ q → A q := fun q h => by rw [← hAe]; exact Or.inr h
  have hS : va_S A s.heap s.heap [] := va_S.rf
  have hP : va_P (dC, dI) vwCl [(h0, .inr (10, [.ref xa1, .ref xa3, .ref xa15, .ref xa27, .ref xa28, .ref xa33, .ref xa38, .ref xa41, .ref xa45, .ref xa46, .ref xa47, .ref xa52, .ref xa54, .int 0, .ref xa55, .ref xa60, .ref xa62, .ref xa67, .int (-1)])), (xa47, .inr (3, [.ref xa3, .ref xa45, .ref xa48, .ref xa49, .ref xa50, .ref xa51, .int 0, .int (-1), .int 0])), (ou, .inl (kJ, 1, .inr (.inl fo)))] s.heap := hP
  have hl := lv_entry ([.ref h0, .int 11, .ref ou]) (n := 4) (Nat.le_of_ble_eq_true rfl)
  have hla : entryFrame m args0 4 = entryFrame m ([.ref h0, .int 11, .ref ou] : List Value).toArray 4 := by rw [hargs]
  rw [hla, lg_entry_eq]
  generalize (lg_sl ([.ref h0, .int 11, .ref ou]) ++ List.replicate (4 - (lg_sl ([.ref h0, .int 11, .ref ou])).length) Slot.unset).toArray = ls at hl ⊢
  have hl : lv_has ls 4 [(0, .ref h0), (1, .int 11), (2, .ref ou)] := hl
  refine lv_aload_n hx hb dL_count_0 rfl (lv_at hl 2 rfl) ?_
  refine lv_iconst (v := 0) hx hb dL_count_1 (by decide) ?_
  refine lv_aload_n hx hb dL_count_2 rfl (lv_at hl 0 rfl) ?_
  refine lv_iload_n hx hb dL_count_3 rfl (lv_at hl 1 rfl) ?_
  have hPc := hP.sub (ws' := [(h0, .inr (10, [.ref xa1, .ref xa3, .ref xa15, .ref xa27, .ref xa28, .ref xa33, .ref xa38, .ref xa41, .ref xa45, .ref xa46, .ref xa47, .ref xa52, .ref xa54, .int 0, .ref xa55, .ref xa60, .ref xa62, .ref xa67, .int (-1)])), (xa47, .inr (3, [.ref xa3, .ref xa45, .ref xa48, .ref xa49, .ref xa50, .ref xa51, .int 0, .int (-1), .int 0]))]) [0, 1] rfl
  have hDc := hD.sub (ws' := [(h0, .inr (10, [.ref xa1, .ref xa3, .ref xa15, .ref xa27, .ref xa28, .ref xa33, .ref xa38, .ref xa41, .ref xa45, .ref xa46, .ref xa47, .ref xa52, .ref xa54, .int 0, .ref xa55, .ref xa60, .ref xa62, .ref xa67, .int (-1)])), (xa47, .inr (3, [.ref xa3, .ref xa45, .ref xa48, .ref xa49, .ref xa50, .ref xa51, .int 0, .int (-1), .int 0]))]) [0, 1] (by decide) rfl
  have hFc := va_free (wc := [(h0, .inr (10, [.ref xa1, .ref xa3, .ref xa15, .ref xa27, .ref xa28, .ref xa33, .ref xa38, .ref xa41, .ref xa45, .ref xa46, .ref xa47, .ref xa52, .ref xa54, .int 0, .ref xa55, .ref xa60, .ref xa62, .ref xa67, .int (-1)])), (xa47, .inr (3, [.ref xa3, .ref xa45, .ref xa48, .ref xa49, .ref xa50, .ref xa51, .int 0, .int (-1), .int 0]))]) hD hS hA [0, 1] rfl
  refine va_calli (va_runV (As := [.int 11]) (rest := [.int 0, .ref ou]) ⟨hx, hb, hml, hown, hts⟩ (k10_count_11 l dC dI kB kI kJ kZ kC kS s.heap.size h0 xa1 xa3 xa15 xa27 xa28 xa33 xa38 xa41 xa45 xa46 xa47 xa52 xa54 xa55 xa60 xa62 xa67 xa48 xa49 xa50 xa51) (cwV 1 hts gL_count_X10_count rfl rfl rfl (by decide +kernel) ⟨Nat.le_of_ble_eq_true rfl, Nat.le_of_ble_eq_true rfl⟩) ⟨fun a U g mk q => by obtain ⟨q0, q1, qP, qE, qD⟩ := q; exact ⟨q0, q1, qP, kE_call qE, qD⟩, va_recv hK hP (ci := 10) (q0 := 0) rfl rfl, fun U hU hW => ⟨rfl, by rw [hU], by rw [hU]; exact hPc, kE_warm hW hE, hDc.weaken (fun _ _ _ _ => trivial)⟩⟩ rfl rfl hl.1 rfl (lv_room (Nat.le_of_ble_eq_true rfl)) dL_count_4 ⟨Nat.le_of_ble_eq_true rfl, Nat.le_of_ble_eq_true rfl⟩) hS (fun q _ h => hFc q h) hFc (fun r1 u t H1 locs ht hvm w2 hB hz1 hk1 hS => ?_)
  obtain ⟨hP1, hD1⟩ := hB
  rw [ht] at hP1
  try dsimp only at w2
  obtain ⟨hP, hD⟩ := va_join (wr := [(ou, .inl (kJ, 1, .inr (.inl fo)))]) (w1 := []) hP hD [0, 1] [2] rfl rfl (by decide) (by decide) hk1 hFc hP1 hD1
  generalize H1 = H at hP hS ⊢
  have hP : va_P (dC, dI) vwCl [(ou, .inl (kJ, 1, .inr (.inl fo)))] H := hP
  have hD : va_D A [(ou, .inl (kJ, 1, .inr (.inl fo)))] := hD
  refine W.widen (k := 0) (n := 0) (Nat.le_of_ble_eq_true rfl) (Nat.le_of_ble_eq_true rfl) ?_
  subst w2
  refine lv_i2l (v := 0) hx hb dL_count_7 (by decide) ?_
  refine va_last hx hb hK hP hD hS 0 2 rfl rfl (vp_in_nI (n := 0) (by decide) (by decide)) dL_count_8 (fun H locs hP hD hS => ?_)
  have hP : va_P (dC, dI) vwCl [(ou, .inl (kJ, 1, .inr (.inl (vp_updL fo 0 0))))] H := hP
  have hD : va_D A [(ou, .inl (kJ, 1, .inr (.inl (vp_updL fo 0 0))))] := hD
  refine lv_goto (tgt := 15) hx hb dL_count_9 (by decide) ?_
  refine lv_iconst (v := 0) hx hb dL_count_15 (by decide) ?_
  have hP9 := hP.sub (ws' := [(ou, .inl (kJ, 1, .inr (.inl (vp_updL fo 0 0))))]) [0] rfl
  have hD9 := hD.sub (ws' := [(ou, .inl (kJ, 1, .inr (.inl (vp_updL fo 0 0))))]) [0] (by decide) rfl
  exact W.iret (v := 0) hx hb hr (fun t ht hW => ⟨⟨0, (), rfl, rfl, vp_updL fo 0 0, rfl, by rw [ht]; exact hP9, hD9⟩, hS.F ht⟩) hS.2.2 dL_count_16
def rm_kL10_count_12 : Room := { frames := 1, cells := 0, slots := 0, locals := 21 }
set_option maxHeartbeats 4000000 in
set_option maxRecDepth 100000 in
theorem kL10_count_12 (l : Launch) (dC : Nat → ClassId) (dI : Nat → Nat → Nat) (kB kI kJ kZ kC kS : ClassId) (sz : Nat) (h0 : Nat) (xa1 : Nat) (xa3 : Nat) (xa15 : Nat) (xa27 : Nat) (xa28 : Nat) (xa33 : Nat) (xa38 : Nat) (xa41 : Nat) (xa45 : Nat) (xa46 : Nat) (xa47 : Nat) (xa52 : Nat) (xa54 : Nat) (xa55 : Nat) (xa60 : Nat) (xa62 : Nat) (xa67 : Nat) (xa2 : Nat) (ou : Nat) (fo : Nat → Int64) : Met l yL_count wsL_count rm_kL10_count_12 (va_Pc [.ref h0, .int 12, .ref ou] (fun U => U.heap.size = sz ∧ va_P (dC, dI) vwCl [(h0, .inr (10, [.ref xa1, .ref xa3, .ref xa15, .ref xa27, .ref xa28, .ref xa33, .ref xa38, .ref xa41, .ref xa45, .ref xa46, .ref xa47, .ref xa52, .ref xa54, .int 0, .ref xa55, .ref xa60, .ref xa62, .ref xa67, .int (-1)])), (xa1, .inr (8, [.ref xa2, .int 0])), (ou, .inl (kJ, 1, .inr (.inl fo)))] U.heap ∧ kE dC dI kB kI kJ kZ kC kS U ∧ va_D (fun _ => True) [(h0, .inr (10, [.ref xa1, .ref xa3, .ref xa15, .ref xa27, .ref xa28, .ref xa33, .ref xa38, .ref xa41, .ref xa45, .ref xa46, .ref xa47, .ref xa52, .ref xa54, .int 0, .ref xa55, .ref xa60, .ref xa62, .ref xa67, .int (-1)])), (xa1, .inr (8, [.ref xa2, .int 0])), (ou, .inl (kJ, 1, .inr (.inl fo)))])) (va_Qi (fun (r : Int32) (_ : Unit) => r = 0) (fun _ t => ∃ (g1 : Nat → Int64), g1 0 = 0 ∧ va_P (dC, dI) vwCl [(ou, .inl (kJ, 1, .inr (.inl g1)))] t.heap ∧ va_D (va_A [(h0, .inr (10, [.ref xa1, .ref xa3, .ref xa15, .ref xa27, .ref xa28, .ref xa33, .ref xa38, .ref xa41, .ref xa45, .ref xa46, .ref xa47, .ref xa52, .ref xa54, .int 0, .ref xa55, .ref xa60, .ref xa62, .ref xa67, .int (-1)])), (xa1, .inr (8, [.ref xa2, .int 0])), (ou, .inl (kJ, 1, .inr (.inl fo)))] sz) [(ou, .inl (kJ, 1, .inr (.inl g1)))]) (va_A [(h0, .inr (10, [.ref xa1, .ref xa3, .ref xa15, .ref xa27, .ref xa28, .ref xa33, .ref xa38, .ref xa41, .ref xa45, .ref xa46, .ref xa47, .ref xa52, .ref xa54, .int 0, .ref xa55, .ref xa60, .ref xa62, .ref xa67, .int (-1)])), (xa1, .inr (8, [.ref xa2, .int 0])), (ou, .inl (kJ, 1, .inr (.inl fo)))] sz)) 0 0 (va_A [(h0, .inr (10, [.ref xa1, .ref xa3, .ref xa15, .ref xa27, .ref xa28, .ref xa33, .ref xa38, .ref xa41, .ref xa45, .ref xa46, .ref xa47, .ref xa52, .ref xa54, .int 0, .ref xa55, .ref xa60, .ref xa62, .ref xa67, .int (-1)])), (xa1, .inr (8, [.ref xa2, .int 0])), (ou, .inl (kJ, 1, .inr (.inl fo)))] sz) := by
  refine va_MetW (cc := cL_count) (maxL := 4) (ret := (some .int)) (by decide) rfl ?_
  intro p e s m args0 below meth c s₁ B hml hv
  obtain ⟨hargs, hsz, hP, hE, hD0⟩ := hv
  have hx := B.exec
  have hb := B.bytes
  have hr := B.returns
  have hts := atoms_spec (ws := wsL_count) B.pre
  have hown : s.vm.findClass RL = some m.cls := findClass_of_methodNamed B.named
  have hlocks := B.notSynchronized
  have hK := hE.1
  have hin10 : ∀ w ∈ wsX100, w ∈ wsL_count := fun _ h9 => List.mem_cons_of_mem _ (List.mem_append_left _ (List.mem_append_left _ (List.mem_append_left _ (List.mem_append_left _ (List.mem_append_left _ (List.mem_append_left _ (List.mem_append_left _ (List.mem_append_left _ (List.mem_append_right _ h9)))))))))
  have hin0 : ∀ w ∈ wsX00, w ∈ wsL_count := fun _ h9 => List.mem_cons_of_mem _ (List.mem_append_left _ (List.mem_append_left _ (List.mem_append_left _ (List.mem_append_left _ (List.mem_append_left _ (List.mem_append_left _ (List.mem_append_left _ (List.mem_append_right _ h9))))))))
  have hin2 : ∀ w ∈ wsX20, w ∈ wsL_count := fun _ h9 => List.mem_cons_of_mem _ (List.mem_append_left _ (List.mem_append_left _ (List.mem_append_left _ (List.mem_append_left _ (List.mem_append_left _ (List.mem_append_left _ (List.mem_append_right _ h9)))))))
  have hin1 : ∀ w ∈ wsX10, w ∈ wsL_count := fun _ h9 => List.mem_cons_of_mem _ (List.mem_append_left _ (List.mem_append_left _ (List.mem_append_left _ (List.mem_append_left _ (List.mem_append_left _ (List.mem_append_right _ h9))))))
  have hin3 : ∀ w ∈ wsX30, w ∈ wsL_count := fun _ h9 => List.mem_cons_of_mem _ (List.mem_append_left _ (List.mem_append_left _ (List.mem_append_left _ (List.mem_append_left _ (List.mem_append_right _ h9)))))
  have hin8 : ∀ w ∈ wsX80, w ∈ wsL_count := fun _ h9 => List.mem_cons_of_mem _ (List.mem_append_left _ (List.mem_append_left _ (List.mem_append_left _ (List.mem_append_right _ h9))))
  have hin4 : ∀ w ∈ wsX40, w ∈ wsL_count := fun _ h9 => List.mem_cons_of_mem _ (List.mem_append_left _ (List.mem_append_left _ (List.mem_append_right _ h9)))
  have hin7 : ∀ w ∈ wsX70, w ∈ wsL_count := fun _ h9 => List.mem_cons_of_mem _ (List.mem_append_left _ (List.mem_append_right _ h9))
  subst hsz
  have hD := hD0.self (sz := s.heap.size)
  generalize hAe : va_A [(h0, .inr (10, [.ref xa1, .ref xa3, .ref xa15, .ref xa27, .ref xa28, .ref xa33, .ref xa38, .ref xa41, .ref xa45, .ref xa46, .ref xa47, .ref xa52, .ref xa54, .int 0, .ref xa55, .ref xa60, .ref xa62, .ref xa67, .int (-1)])), (xa1, .inr (8, [.ref xa2, .int 0])), (ou, .inl (kJ, 1, .inr (.inl fo)))] s.heap.size = A at hD ⊢
  have hA : ∀ q : Nat, s.heap.size ≤ q → A q := fun q h => by rw [← hAe]; exact Or.inr h
  have hS : va_S A s.heap s.heap [] := va_S.rf
  have hP : va_P (dC, dI) vwCl [(h0, .inr (10, [.ref xa1, .ref xa3, .ref xa15, .ref xa27, .ref xa28, .ref xa33, .ref xa38, .ref xa41, .ref xa45, .ref xa46, .ref xa47, .ref xa52, .ref xa54, .int 0, .ref xa55, .ref xa60, .ref xa62, .ref xa67, .int (-1)])), (xa1, .inr (8, [.ref xa2, .int 0])), (ou, .inl (kJ, 1, .inr (.inl fo)))] s.heap := hP
  have hl := lv_entry ([.ref h0, .int 12, .ref ou]) (n := 4) (Nat.le_of_ble_eq_true rfl)
  have hla : entryFrame m args0 4 = entryFrame m ([.ref h0, .int 12, .ref ou] : List Value).toArray 4 := by rw [hargs]
  rw [hla, lg_entry_eq]
  generalize (lg_sl ([.ref h0, .int 12, .ref ou]) ++ List.replicate (4 - (lg_sl ([.ref h0, .int 12, .ref ou])).length) Slot.unset).toArray = ls at hl ⊢
  have hl : lv_has ls 4 [(0, .ref h0), (1, .int 12), (2, .ref ou)] := hl
  refine lv_aload_n hx hb dL_count_0 rfl (lv_at hl 2 rfl) ?_
  refine lv_iconst (v := 0) hx hb dL_count_1 (by decide) ?_
  refine lv_aload_n hx hb dL_count_2 rfl (lv_at hl 0 rfl) ?_
  refine lv_iload_n hx hb dL_count_3 rfl (lv_at hl 1 rfl) ?_
  have hPc := hP.sub (ws' := [(h0, .inr (10, [.ref xa1, .ref xa3, .ref xa15, .ref xa27, .ref xa28, .ref xa33, .ref xa38, .ref xa41, .ref xa45, .ref xa46, .ref xa47, .ref xa52, .ref xa54, .int 0, .ref xa55, .ref xa60, .ref xa62, .ref xa67, .int (-1)])), (xa1, .inr (8, [.ref xa2, .int 0]))]) [0, 1] rfl
  have hDc := hD.sub (ws' := [(h0, .inr (10, [.ref xa1, .ref xa3, .ref xa15, .ref xa27, .ref xa28, .ref xa33, .ref xa38, .ref xa41, .ref xa45, .ref xa46, .ref xa47, .ref xa52, .ref xa54, .int 0, .ref xa55, .ref xa60, .ref xa62, .ref xa67, .int (-1)])), (xa1, .inr (8, [.ref xa2, .int 0]))]) [0, 1] (by decide) rfl
  have hFc := va_free (wc := [(h0, .inr (10, [.ref xa1, .ref xa3, .ref xa15, .ref xa27, .ref xa28, .ref xa33, .ref xa38, .ref xa41, .ref xa45, .ref xa46, .ref xa47, .ref xa52, .ref xa54, .int 0, .ref xa55, .ref xa60, .ref xa62, .ref xa67, .int (-1)])), (xa1, .inr (8, [.ref xa2, .int 0]))]) hD hS hA [0, 1] rfl
  refine va_calli (va_runV (As := [.int 12]) (rest := [.int 0, .ref ou]) ⟨hx, hb, hml, hown, hts⟩ (k10_count_12 l dC dI kB kI kJ kZ kC kS s.heap.size h0 xa1 xa3 xa15 xa27 xa28 xa33 xa38 xa41 xa45 xa46 xa47 xa52 xa54 xa55 xa60 xa62 xa67 xa2) (cwV 1 hts gL_count_X10_count rfl rfl rfl (by decide +kernel) ⟨Nat.le_of_ble_eq_true rfl, Nat.le_of_ble_eq_true rfl⟩) ⟨fun a U g mk q => by obtain ⟨q0, q1, qP, qE, qD⟩ := q; exact ⟨q0, q1, qP, kE_call qE, qD⟩, va_recv hK hP (ci := 10) (q0 := 0) rfl rfl, fun U hU hW => ⟨rfl, by rw [hU], by rw [hU]; exact hPc, kE_warm hW hE, hDc.weaken (fun _ _ _ _ => trivial)⟩⟩ rfl rfl hl.1 rfl (lv_room (Nat.le_of_ble_eq_true rfl)) dL_count_4 ⟨Nat.le_of_ble_eq_true rfl, Nat.le_of_ble_eq_true rfl⟩) hS (fun q _ h => hFc q h) hFc (fun r1 u t H1 locs ht hvm w2 hB hz1 hk1 hS => ?_)
  obtain ⟨hP1, hD1⟩ := hB
  rw [ht] at hP1
  try dsimp only at w2
  obtain ⟨hP, hD⟩ := va_join (wr := [(ou, .inl (kJ, 1, .inr (.inl fo)))]) (w1 := []) hP hD [0, 1] [2] rfl rfl (by decide) (by decide) hk1 hFc hP1 hD1
  generalize H1 = H at hP hS ⊢
  have hP : va_P (dC, dI) vwCl [(ou, .inl (kJ, 1, .inr (.inl fo)))] H := hP
  have hD : va_D A [(ou, .inl (kJ, 1, .inr (.inl fo)))] := hD
  refine W.widen (k := 0) (n := 0) (Nat.le_of_ble_eq_true rfl) (Nat.le_of_ble_eq_true rfl) ?_
  subst w2
  refine lv_i2l (v := 0) hx hb dL_count_7 (by decide) ?_
  refine va_last hx hb hK hP hD hS 0 2 rfl rfl (vp_in_nI (n := 0) (by decide) (by decide)) dL_count_8 (fun H locs hP hD hS => ?_)
  have hP : va_P (dC, dI) vwCl [(ou, .inl (kJ, 1, .inr (.inl (vp_updL fo 0 0))))] H := hP
  have hD : va_D A [(ou, .inl (kJ, 1, .inr (.inl (vp_updL fo 0 0))))] := hD
  refine lv_goto (tgt := 15) hx hb dL_count_9 (by decide) ?_
  refine lv_iconst (v := 0) hx hb dL_count_15 (by decide) ?_
  have hP9 := hP.sub (ws' := [(ou, .inl (kJ, 1, .inr (.inl (vp_updL fo 0 0))))]) [0] rfl
  have hD9 := hD.sub (ws' := [(ou, .inl (kJ, 1, .inr (.inl (vp_updL fo 0 0))))]) [0] (by decide) rfl
  exact W.iret (v := 0) hx hb hr (fun t ht hW => ⟨⟨0, (), rfl, rfl, vp_updL fo 0 0, rfl, by rw [ht]; exact hP9, hD9⟩, hS.F ht⟩) hS.2.2 dL_count_16
def rm_kL10_count_13 : Room := { frames := 1, cells := 0, slots := 0, locals := 21 }
set_option maxHeartbeats 4000000 in
set_option maxRecDepth 100000 in
theorem kL10_count_13 (l : Launch) (dC : Nat → ClassId) (dI : Nat → Nat → Nat) (kB kI kJ kZ kC kS : ClassId) (sz : Nat) (h0 : Nat) (xa1 : Nat) (xa3 : Nat) (xa15 : Nat) (xa27 : Nat) (xa28 : Nat) (xa33 : Nat) (xa38 : Nat) (xa41 : Nat) (xa45 : Nat) (xa46 : Nat) (xa47 : Nat) (xa52 : Nat) (xa54 : Nat) (xa55 : Nat) (xa60 : Nat) (xa62 : Nat) (xa67 : Nat) (ou : Nat) (fo : Nat → Int64) : Met l yL_count wsL_count rm_kL10_count_13 (va_Pc [.ref h0, .int 13, .ref ou] (fun U => U.heap.size = sz ∧ va_P (dC, dI) vwCl [(h0, .inr (10, [.ref xa1, .ref xa3, .ref xa15, .ref xa27, .ref xa28, .ref xa33, .ref xa38, .ref xa41, .ref xa45, .ref xa46, .ref xa47, .ref xa52, .ref xa54, .int 0, .ref xa55, .ref xa60, .ref xa62, .ref xa67, .int (-1)])), (xa54, .inl (kI, 3, .inl (fun _ => 0))), (ou, .inl (kJ, 1, .inr (.inl fo)))] U.heap ∧ kE dC dI kB kI kJ kZ kC kS U ∧ va_D (fun _ => True) [(h0, .inr (10, [.ref xa1, .ref xa3, .ref xa15, .ref xa27, .ref xa28, .ref xa33, .ref xa38, .ref xa41, .ref xa45, .ref xa46, .ref xa47, .ref xa52, .ref xa54, .int 0, .ref xa55, .ref xa60, .ref xa62, .ref xa67, .int (-1)])), (xa54, .inl (kI, 3, .inl (fun _ => 0))), (ou, .inl (kJ, 1, .inr (.inl fo)))])) (va_Qi (fun (r : Int32) (_ : Unit) => r = 0) (fun _ t => ∃ (g1 : Nat → Int64), g1 0 = 0 ∧ va_P (dC, dI) vwCl [(ou, .inl (kJ, 1, .inr (.inl g1)))] t.heap ∧ va_D (va_A [(h0, .inr (10, [.ref xa1, .ref xa3, .ref xa15, .ref xa27, .ref xa28, .ref xa33, .ref xa38, .ref xa41, .ref xa45, .ref xa46, .ref xa47, .ref xa52, .ref xa54, .int 0, .ref xa55, .ref xa60, .ref xa62, .ref xa67, .int (-1)])), (xa54, .inl (kI, 3, .inl (fun _ => 0))), (ou, .inl (kJ, 1, .inr (.inl fo)))] sz) [(ou, .inl (kJ, 1, .inr (.inl g1)))]) (va_A [(h0, .inr (10, [.ref xa1, .ref xa3, .ref xa15, .ref xa27, .ref xa28, .ref xa33, .ref xa38, .ref xa41, .ref xa45, .ref xa46, .ref xa47, .ref xa52, .ref xa54, .int 0, .ref xa55, .ref xa60, .ref xa62, .ref xa67, .int (-1)])), (xa54, .inl (kI, 3, .inl (fun _ => 0))), (ou, .inl (kJ, 1, .inr (.inl fo)))] sz)) 0 0 (va_A [(h0, .inr (10, [.ref xa1, .ref xa3, .ref xa15, .ref xa27, .ref xa28, .ref xa33, .ref xa38, .ref xa41, .ref xa45, .ref xa46, .ref xa47, .ref xa52, .ref xa54, .int 0, .ref xa55, .ref xa60, .ref xa62, .ref xa67, .int (-1)])), (xa54, .inl (kI, 3, .inl (fun _ => 0))), (ou, .inl (kJ, 1, .inr (.inl fo)))] sz) := by
  refine va_MetW (cc := cL_count) (maxL := 4) (ret := (some .int)) (by decide) rfl ?_
  intro p e s m args0 below meth c s₁ B hml hv
  obtain ⟨hargs, hsz, hP, hE, hD0⟩ := hv
  have hx := B.exec
  have hb := B.bytes
  have hr := B.returns
  have hts := atoms_spec (ws := wsL_count) B.pre
  have hown : s.vm.findClass RL = some m.cls := findClass_of_methodNamed B.named
  have hlocks := B.notSynchronized
  have hK := hE.1
  have hin10 : ∀ w ∈ wsX100, w ∈ wsL_count := fun _ h9 => List.mem_cons_of_mem _ (List.mem_append_left _ (List.mem_append_left _ (List.mem_append_left _ (List.mem_append_left _ (List.mem_append_left _ (List.mem_append_left _ (List.mem_append_left _ (List.mem_append_left _ (List.mem_append_right _ h9)))))))))
  have hin0 : ∀ w ∈ wsX00, w ∈ wsL_count := fun _ h9 => List.mem_cons_of_mem _ (List.mem_append_left _ (List.mem_append_left _ (List.mem_append_left _ (List.mem_append_left _ (List.mem_append_left _ (List.mem_append_left _ (List.mem_append_left _ (List.mem_append_right _ h9))))))))
  have hin2 : ∀ w ∈ wsX20, w ∈ wsL_count := fun _ h9 => List.mem_cons_of_mem _ (List.mem_append_left _ (List.mem_append_left _ (List.mem_append_left _ (List.mem_append_left _ (List.mem_append_left _ (List.mem_append_left _ (List.mem_append_right _ h9)))))))
  have hin1 : ∀ w ∈ wsX10, w ∈ wsL_count := fun _ h9 => List.mem_cons_of_mem _ (List.mem_append_left _ (List.mem_append_left _ (List.mem_append_left _ (List.mem_append_left _ (List.mem_append_left _ (List.mem_append_right _ h9))))))
  have hin3 : ∀ w ∈ wsX30, w ∈ wsL_count := fun _ h9 => List.mem_cons_of_mem _ (List.mem_append_left _ (List.mem_append_left _ (List.mem_append_left _ (List.mem_append_left _ (List.mem_append_right _ h9)))))
  have hin8 : ∀ w ∈ wsX80, w ∈ wsL_count := fun _ h9 => List.mem_cons_of_mem _ (List.mem_append_left _ (List.mem_append_left _ (List.mem_append_left _ (List.mem_append_right _ h9))))
  have hin4 : ∀ w ∈ wsX40, w ∈ wsL_count := fun _ h9 => List.mem_cons_of_mem _ (List.mem_append_left _ (List.mem_append_left _ (List.mem_append_right _ h9)))
  have hin7 : ∀ w ∈ wsX70, w ∈ wsL_count := fun _ h9 => List.mem_cons_of_mem _ (List.mem_append_left _ (List.mem_append_right _ h9))
  subst hsz
  have hD := hD0.self (sz := s.heap.size)
  generalize hAe : va_A [(h0, .inr (10, [.ref xa1, .ref xa3, .ref xa15, .ref xa27, .ref xa28, .ref xa33, .ref xa38, .ref xa41, .ref xa45, .ref xa46, .ref xa47, .ref xa52, .ref xa54, .int 0, .ref xa55, .ref xa60, .ref xa62, .ref xa67, .int (-1)])), (xa54, .inl (kI, 3, .inl (fun _ => 0))), (ou, .inl (kJ, 1, .inr (.inl fo)))] s.heap.size = A at hD ⊢
  have hA : ∀ q : Nat, s.heap.size ≤ q → A q := fun q h => by rw [← hAe]; exact Or.inr h
  have hS : va_S A s.heap s.heap [] := va_S.rf
  have hP : va_P (dC, dI) vwCl [(h0, .inr (10, [.ref xa1, .ref xa3, .ref xa15, .ref xa27, .ref xa28, .ref xa33, .ref xa38, .ref xa41, .ref xa45, .ref xa46, .ref xa47, .ref xa52, .ref xa54, .int 0, .ref xa55, .ref xa60, .ref xa62, .ref xa67, .int (-1)])), (xa54, .inl (kI, 3, .inl (fun _ => 0))), (ou, .inl (kJ, 1, .inr (.inl fo)))] s.heap := hP
  have hl := lv_entry ([.ref h0, .int 13, .ref ou]) (n := 4) (Nat.le_of_ble_eq_true rfl)
  have hla : entryFrame m args0 4 = entryFrame m ([.ref h0, .int 13, .ref ou] : List Value).toArray 4 := by rw [hargs]
  rw [hla, lg_entry_eq]
  generalize (lg_sl ([.ref h0, .int 13, .ref ou]) ++ List.replicate (4 - (lg_sl ([.ref h0, .int 13, .ref ou])).length) Slot.unset).toArray = ls at hl ⊢
  have hl : lv_has ls 4 [(0, .ref h0), (1, .int 13), (2, .ref ou)] := hl
  refine lv_aload_n hx hb dL_count_0 rfl (lv_at hl 2 rfl) ?_
  refine lv_iconst (v := 0) hx hb dL_count_1 (by decide) ?_
  refine lv_aload_n hx hb dL_count_2 rfl (lv_at hl 0 rfl) ?_
  refine lv_iload_n hx hb dL_count_3 rfl (lv_at hl 1 rfl) ?_
  have hPc := hP.sub (ws' := [(h0, .inr (10, [.ref xa1, .ref xa3, .ref xa15, .ref xa27, .ref xa28, .ref xa33, .ref xa38, .ref xa41, .ref xa45, .ref xa46, .ref xa47, .ref xa52, .ref xa54, .int 0, .ref xa55, .ref xa60, .ref xa62, .ref xa67, .int (-1)])), (xa54, .inl (kI, 3, .inl (fun _ => 0)))]) [0, 1] rfl
  have hDc := hD.sub (ws' := [(h0, .inr (10, [.ref xa1, .ref xa3, .ref xa15, .ref xa27, .ref xa28, .ref xa33, .ref xa38, .ref xa41, .ref xa45, .ref xa46, .ref xa47, .ref xa52, .ref xa54, .int 0, .ref xa55, .ref xa60, .ref xa62, .ref xa67, .int (-1)])), (xa54, .inl (kI, 3, .inl (fun _ => 0)))]) [0, 1] (by decide) rfl
  have hFc := va_free (wc := [(h0, .inr (10, [.ref xa1, .ref xa3, .ref xa15, .ref xa27, .ref xa28, .ref xa33, .ref xa38, .ref xa41, .ref xa45, .ref xa46, .ref xa47, .ref xa52, .ref xa54, .int 0, .ref xa55, .ref xa60, .ref xa62, .ref xa67, .int (-1)])), (xa54, .inl (kI, 3, .inl (fun _ => 0)))]) hD hS hA [0, 1] rfl
  refine va_calli (va_runV (As := [.int 13]) (rest := [.int 0, .ref ou]) ⟨hx, hb, hml, hown, hts⟩ (k10_count_13 l dC dI kB kI kJ kZ kC kS s.heap.size h0 xa1 xa3 xa15 xa27 xa28 xa33 xa38 xa41 xa45 xa46 xa47 xa52 xa54 xa55 xa60 xa62 xa67) (cwV 1 hts gL_count_X10_count rfl rfl rfl (by decide +kernel) ⟨Nat.le_of_ble_eq_true rfl, Nat.le_of_ble_eq_true rfl⟩) ⟨fun a U g mk q => by obtain ⟨q0, q1, qP, qE, qD⟩ := q; exact ⟨q0, q1, qP, kE_call qE, qD⟩, va_recv hK hP (ci := 10) (q0 := 0) rfl rfl, fun U hU hW => ⟨rfl, by rw [hU], by rw [hU]; exact hPc, kE_warm hW hE, hDc.weaken (fun _ _ _ _ => trivial)⟩⟩ rfl rfl hl.1 rfl (lv_room (Nat.le_of_ble_eq_true rfl)) dL_count_4 ⟨Nat.le_of_ble_eq_true rfl, Nat.le_of_ble_eq_true rfl⟩) hS (fun q _ h => hFc q h) hFc (fun r1 u t H1 locs ht hvm w2 hB hz1 hk1 hS => ?_)
  obtain ⟨hP1, hD1⟩ := hB
  rw [ht] at hP1
  try dsimp only at w2
  obtain ⟨hP, hD⟩ := va_join (wr := [(ou, .inl (kJ, 1, .inr (.inl fo)))]) (w1 := []) hP hD [0, 1] [2] rfl rfl (by decide) (by decide) hk1 hFc hP1 hD1
  generalize H1 = H at hP hS ⊢
  have hP : va_P (dC, dI) vwCl [(ou, .inl (kJ, 1, .inr (.inl fo)))] H := hP
  have hD : va_D A [(ou, .inl (kJ, 1, .inr (.inl fo)))] := hD
  refine W.widen (k := 0) (n := 0) (Nat.le_of_ble_eq_true rfl) (Nat.le_of_ble_eq_true rfl) ?_
  subst w2
  refine lv_i2l (v := 0) hx hb dL_count_7 (by decide) ?_
  refine va_last hx hb hK hP hD hS 0 2 rfl rfl (vp_in_nI (n := 0) (by decide) (by decide)) dL_count_8 (fun H locs hP hD hS => ?_)
  have hP : va_P (dC, dI) vwCl [(ou, .inl (kJ, 1, .inr (.inl (vp_updL fo 0 0))))] H := hP
  have hD : va_D A [(ou, .inl (kJ, 1, .inr (.inl (vp_updL fo 0 0))))] := hD
  refine lv_goto (tgt := 15) hx hb dL_count_9 (by decide) ?_
  refine lv_iconst (v := 0) hx hb dL_count_15 (by decide) ?_
  have hP9 := hP.sub (ws' := [(ou, .inl (kJ, 1, .inr (.inl (vp_updL fo 0 0))))]) [0] rfl
  have hD9 := hD.sub (ws' := [(ou, .inl (kJ, 1, .inr (.inl (vp_updL fo 0 0))))]) [0] (by decide) rfl
  exact W.iret (v := 0) hx hb hr (fun t ht hW => ⟨⟨0, (), rfl, rfl, vp_updL fo 0 0, rfl, by rw [ht]; exact hP9, hD9⟩, hS.F ht⟩) hS.2.2 dL_count_16
def rm_kL10_count_14 : Room := { frames := 1, cells := 0, slots := 0, locals := 21 }
set_option maxHeartbeats 4000000 in
set_option maxRecDepth 100000 in
theorem kL10_count_14 (l : Launch) (dC : Nat → ClassId) (dI : Nat → Nat → Nat) (kB kI kJ kZ kC kS : ClassId) (sz : Nat) (h0 : Nat) (xa1 : Nat) (xa3 : Nat) (xa15 : Nat) (xa27 : Nat) (xa28 : Nat) (xa33 : Nat) (xa38 : Nat) (xa41 : Nat) (xa45 : Nat) (xa46 : Nat) (xa47 : Nat) (xa52 : Nat) (xa54 : Nat) (xa55 : Nat) (xa60 : Nat) (xa62 : Nat) (xa67 : Nat) (ou : Nat) (fo : Nat → Int64) : Met l yL_count wsL_count rm_kL10_count_14 (va_Pc [.ref h0, .int 14, .ref ou] (fun U => U.heap.size = sz ∧ va_P (dC, dI) vwCl [(h0, .inr (10, [.ref xa1, .ref xa3, .ref xa15, .ref xa27, .ref xa28, .ref xa33, .ref xa38, .ref xa41, .ref xa45, .ref xa46, .ref xa47, .ref xa52, .ref xa54, .int 0, .ref xa55, .ref xa60, .ref xa62, .ref xa67, .int (-1)])), (xa54, .inl (kI, 3, .inl (fun _ => 0))), (ou, .inl (kJ, 1, .inr (.inl fo)))] U.heap ∧ kE dC dI kB kI kJ kZ kC kS U ∧ va_D (fun _ => True) [(h0, .inr (10, [.ref xa1, .ref xa3, .ref xa15, .ref xa27, .ref xa28, .ref xa33, .ref xa38, .ref xa41, .ref xa45, .ref xa46, .ref xa47, .ref xa52, .ref xa54, .int 0, .ref xa55, .ref xa60, .ref xa62, .ref xa67, .int (-1)])), (xa54, .inl (kI, 3, .inl (fun _ => 0))), (ou, .inl (kJ, 1, .inr (.inl fo)))])) (va_Qi (fun (r : Int32) (_ : Unit) => r = 0) (fun _ t => ∃ (g1 : Nat → Int64), g1 0 = 0 ∧ va_P (dC, dI) vwCl [(ou, .inl (kJ, 1, .inr (.inl g1)))] t.heap ∧ va_D (va_A [(h0, .inr (10, [.ref xa1, .ref xa3, .ref xa15, .ref xa27, .ref xa28, .ref xa33, .ref xa38, .ref xa41, .ref xa45, .ref xa46, .ref xa47, .ref xa52, .ref xa54, .int 0, .ref xa55, .ref xa60, .ref xa62, .ref xa67, .int (-1)])), (xa54, .inl (kI, 3, .inl (fun _ => 0))), (ou, .inl (kJ, 1, .inr (.inl fo)))] sz) [(ou, .inl (kJ, 1, .inr (.inl g1)))]) (va_A [(h0, .inr (10, [.ref xa1, .ref xa3, .ref xa15, .ref xa27, .ref xa28, .ref xa33, .ref xa38, .ref xa41, .ref xa45, .ref xa46, .ref xa47, .ref xa52, .ref xa54, .int 0, .ref xa55, .ref xa60, .ref xa62, .ref xa67, .int (-1)])), (xa54, .inl (kI, 3, .inl (fun _ => 0))), (ou, .inl (kJ, 1, .inr (.inl fo)))] sz)) 0 0 (va_A [(h0, .inr (10, [.ref xa1, .ref xa3, .ref xa15, .ref xa27, .ref xa28, .ref xa33, .ref xa38, .ref xa41, .ref xa45, .ref xa46, .ref xa47, .ref xa52, .ref xa54, .int 0, .ref xa55, .ref xa60, .ref xa62, .ref xa67, .int (-1)])), (xa54, .inl (kI, 3, .inl (fun _ => 0))), (ou, .inl (kJ, 1, .inr (.inl fo)))] sz) := by
  refine va_MetW (cc := cL_count) (maxL := 4) (ret := (some .int)) (by decide) rfl ?_
  intro p e s m args0 below meth c s₁ B hml hv
  obtain ⟨hargs, hsz, hP, hE, hD0⟩ := hv
  have hx := B.exec
  have hb := B.bytes
  have hr := B.returns
  have hts := atoms_spec (ws := wsL_count) B.pre
  have hown : s.vm.findClass RL = some m.cls := findClass_of_methodNamed B.named
  have hlocks := B.notSynchronized
  have hK := hE.1
  have hin10 : ∀ w ∈ wsX100, w ∈ wsL_count := fun _ h9 => List.mem_cons_of_mem _ (List.mem_append_left _ (List.mem_append_left _ (List.mem_append_left _ (List.mem_append_left _ (List.mem_append_left _ (List.mem_append_left _ (List.mem_append_left _ (List.mem_append_left _ (List.mem_append_right _ h9)))))))))
  have hin0 : ∀ w ∈ wsX00, w ∈ wsL_count := fun _ h9 => List.mem_cons_of_mem _ (List.mem_append_left _ (List.mem_append_left _ (List.mem_append_left _ (List.mem_append_left _ (List.mem_append_left _ (List.mem_append_left _ (List.mem_append_left _ (List.mem_append_right _ h9))))))))
  have hin2 : ∀ w ∈ wsX20, w ∈ wsL_count := fun _ h9 => List.mem_cons_of_mem _ (List.mem_append_left _ (List.mem_append_left _ (List.mem_append_left _ (List.mem_append_left _ (List.mem_append_left _ (List.mem_append_left _ (List.mem_append_right _ h9)))))))
  have hin1 : ∀ w ∈ wsX10, w ∈ wsL_count := fun _ h9 => List.mem_cons_of_mem _ (List.mem_append_left _ (List.mem_append_left _ (List.mem_append_left _ (List.mem_append_left _ (List.mem_append_left _ (List.mem_append_right _ h9))))))
  have hin3 : ∀ w ∈ wsX30, w ∈ wsL_count := fun _ h9 => List.mem_cons_of_mem _ (List.mem_append_left _ (List.mem_append_left _ (List.mem_append_left _ (List.mem_append_left _ (List.mem_append_right _ h9)))))
  have hin8 : ∀ w ∈ wsX80, w ∈ wsL_count := fun _ h9 => List.mem_cons_of_mem _ (List.mem_append_left _ (List.mem_append_left _ (List.mem_append_left _ (List.mem_append_right _ h9))))
  have hin4 : ∀ w ∈ wsX40, w ∈ wsL_count := fun _ h9 => List.mem_cons_of_mem _ (List.mem_append_left _ (List.mem_append_left _ (List.mem_append_right _ h9)))
  have hin7 : ∀ w ∈ wsX70, w ∈ wsL_count := fun _ h9 => List.mem_cons_of_mem _ (List.mem_append_left _ (List.mem_append_right _ h9))
  subst hsz
  have hD := hD0.self (sz := s.heap.size)
  generalize hAe : va_A [(h0, .inr (10, [.ref xa1, .ref xa3, .ref xa15, .ref xa27, .ref xa28, .ref xa33, .ref xa38, .ref xa41, .ref xa45, .ref xa46, .ref xa47, .ref xa52, .ref xa54, .int 0, .ref xa55, .ref xa60, .ref xa62, .ref xa67, .int (-1)])), (xa54, .inl (kI, 3, .inl (fun _ => 0))), (ou, .inl (kJ, 1, .inr (.inl fo)))] s.heap.size = A at hD ⊢
  have hA : ∀ q : Nat, s.heap.size ≤ q → A q := fun q h => by rw [← hAe]; exact Or.inr h
  have hS : va_S A s.heap s.heap [] := va_S.rf
  have hP : va_P (dC, dI) vwCl [(h0, .inr (10, [.ref xa1, .ref xa3, .ref xa15, .ref xa27, .ref xa28, .ref xa33, .ref xa38, .ref xa41, .ref xa45, .ref xa46, .ref xa47, .ref xa52, .ref xa54, .int 0, .ref xa55, .ref xa60, .ref xa62, .ref xa67, .int (-1)])), (xa54, .inl (kI, 3, .inl (fun _ => 0))), (ou, .inl (kJ, 1, .inr (.inl fo)))] s.heap := hP
  have hl := lv_entry ([.ref h0, .int 14, .ref ou]) (n := 4) (Nat.le_of_ble_eq_true rfl)
  have hla : entryFrame m args0 4 = entryFrame m ([.ref h0, .int 14, .ref ou] : List Value).toArray 4 := by rw [hargs]
  rw [hla, lg_entry_eq]
  generalize (lg_sl ([.ref h0, .int 14, .ref ou]) ++ List.replicate (4 - (lg_sl ([.ref h0, .int 14, .ref ou])).length) Slot.unset).toArray = ls at hl ⊢
  have hl : lv_has ls 4 [(0, .ref h0), (1, .int 14), (2, .ref ou)] := hl
  refine lv_aload_n hx hb dL_count_0 rfl (lv_at hl 2 rfl) ?_
  refine lv_iconst (v := 0) hx hb dL_count_1 (by decide) ?_
  refine lv_aload_n hx hb dL_count_2 rfl (lv_at hl 0 rfl) ?_
  refine lv_iload_n hx hb dL_count_3 rfl (lv_at hl 1 rfl) ?_
  have hPc := hP.sub (ws' := [(h0, .inr (10, [.ref xa1, .ref xa3, .ref xa15, .ref xa27, .ref xa28, .ref xa33, .ref xa38, .ref xa41, .ref xa45, .ref xa46, .ref xa47, .ref xa52, .ref xa54, .int 0, .ref xa55, .ref xa60, .ref xa62, .ref xa67, .int (-1)])), (xa54, .inl (kI, 3, .inl (fun _ => 0)))]) [0, 1] rfl
  have hDc := hD.sub (ws' := [(h0, .inr (10, [.ref xa1, .ref xa3, .ref xa15, .ref xa27, .ref xa28, .ref xa33, .ref xa38, .ref xa41, .ref xa45, .ref xa46, .ref xa47, .ref xa52, .ref xa54, .int 0, .ref xa55, .ref xa60, .ref xa62, .ref xa67, .int (-1)])), (xa54, .inl (kI, 3, .inl (fun _ => 0)))]) [0, 1] (by decide) rfl
  have hFc := va_free (wc := [(h0, .inr (10, [.ref xa1, .ref xa3, .ref xa15, .ref xa27, .ref xa28, .ref xa33, .ref xa38, .ref xa41, .ref xa45, .ref xa46, .ref xa47, .ref xa52, .ref xa54, .int 0, .ref xa55, .ref xa60, .ref xa62, .ref xa67, .int (-1)])), (xa54, .inl (kI, 3, .inl (fun _ => 0)))]) hD hS hA [0, 1] rfl
  refine va_calli (va_runV (As := [.int 14]) (rest := [.int 0, .ref ou]) ⟨hx, hb, hml, hown, hts⟩ (k10_count_14 l dC dI kB kI kJ kZ kC kS s.heap.size h0 xa1 xa3 xa15 xa27 xa28 xa33 xa38 xa41 xa45 xa46 xa47 xa52 xa54 xa55 xa60 xa62 xa67) (cwV 1 hts gL_count_X10_count rfl rfl rfl (by decide +kernel) ⟨Nat.le_of_ble_eq_true rfl, Nat.le_of_ble_eq_true rfl⟩) ⟨fun a U g mk q => by obtain ⟨q0, q1, qP, qE, qD⟩ := q; exact ⟨q0, q1, qP, kE_call qE, qD⟩, va_recv hK hP (ci := 10) (q0 := 0) rfl rfl, fun U hU hW => ⟨rfl, by rw [hU], by rw [hU]; exact hPc, kE_warm hW hE, hDc.weaken (fun _ _ _ _ => trivial)⟩⟩ rfl rfl hl.1 rfl (lv_room (Nat.le_of_ble_eq_true rfl)) dL_count_4 ⟨Nat.le_of_ble_eq_true rfl, Nat.le_of_ble_eq_true rfl⟩) hS (fun q _ h => hFc q h) hFc (fun r1 u t H1 locs ht hvm w2 hB hz1 hk1 hS => ?_)
  obtain ⟨hP1, hD1⟩ := hB
  rw [ht] at hP1
  try dsimp only at w2
  obtain ⟨hP, hD⟩ := va_join (wr := [(ou, .inl (kJ, 1, .inr (.inl fo)))]) (w1 := []) hP hD [0, 1] [2] rfl rfl (by decide) (by decide) hk1 hFc hP1 hD1
  generalize H1 = H at hP hS ⊢
  have hP : va_P (dC, dI) vwCl [(ou, .inl (kJ, 1, .inr (.inl fo)))] H := hP
  have hD : va_D A [(ou, .inl (kJ, 1, .inr (.inl fo)))] := hD
  refine W.widen (k := 0) (n := 0) (Nat.le_of_ble_eq_true rfl) (Nat.le_of_ble_eq_true rfl) ?_
  subst w2
  refine lv_i2l (v := 0) hx hb dL_count_7 (by decide) ?_
  refine va_last hx hb hK hP hD hS 0 2 rfl rfl (vp_in_nI (n := 0) (by decide) (by decide)) dL_count_8 (fun H locs hP hD hS => ?_)
  have hP : va_P (dC, dI) vwCl [(ou, .inl (kJ, 1, .inr (.inl (vp_updL fo 0 0))))] H := hP
  have hD : va_D A [(ou, .inl (kJ, 1, .inr (.inl (vp_updL fo 0 0))))] := hD
  refine lv_goto (tgt := 15) hx hb dL_count_9 (by decide) ?_
  refine lv_iconst (v := 0) hx hb dL_count_15 (by decide) ?_
  have hP9 := hP.sub (ws' := [(ou, .inl (kJ, 1, .inr (.inl (vp_updL fo 0 0))))]) [0] rfl
  have hD9 := hD.sub (ws' := [(ou, .inl (kJ, 1, .inr (.inl (vp_updL fo 0 0))))]) [0] (by decide) rfl
  exact W.iret (v := 0) hx hb hr (fun t ht hW => ⟨⟨0, (), rfl, rfl, vp_updL fo 0 0, rfl, by rw [ht]; exact hP9, hD9⟩, hS.F ht⟩) hS.2.2 dL_count_16
def rm_kL10_count_15 : Room := { frames := 1, cells := 0, slots := 0, locals := 21 }
set_option maxHeartbeats 4000000 in
set_option maxRecDepth 100000 in
theorem kL10_count_15 (l : Launch) (dC : Nat → ClassId) (dI : Nat → Nat → Nat) (kB kI kJ kZ kC kS : ClassId) (sz : Nat) (h0 : Nat) (xa1 : Nat) (xa3 : Nat) (xa15 : Nat) (xa27 : Nat) (xa28 : Nat) (xa33 : Nat) (xa38 : Nat) (xa41 : Nat) (xa45 : Nat) (xa46 : Nat) (xa47 : Nat) (xa52 : Nat) (xa54 : Nat) (xa55 : Nat) (xa60 : Nat) (xa62 : Nat) (xa67 : Nat) (ou : Nat) (fo : Nat → Int64) : Met l yL_count wsL_count rm_kL10_count_15 (va_Pc [.ref h0, .int 15, .ref ou] (fun U => U.heap.size = sz ∧ va_P (dC, dI) vwCl [(h0, .inr (10, [.ref xa1, .ref xa3, .ref xa15, .ref xa27, .ref xa28, .ref xa33, .ref xa38, .ref xa41, .ref xa45, .ref xa46, .ref xa47, .ref xa52, .ref xa54, .int 0, .ref xa55, .ref xa60, .ref xa62, .ref xa67, .int (-1)])), (xa54, .inl (kI, 3, .inl (fun _ => 0))), (ou, .inl (kJ, 1, .inr (.inl fo)))] U.heap ∧ kE dC dI kB kI kJ kZ kC kS U ∧ va_D (fun _ => True) [(h0, .inr (10, [.ref xa1, .ref xa3, .ref xa15, .ref xa27, .ref xa28, .ref xa33, .ref xa38, .ref xa41, .ref xa45, .ref xa46, .ref xa47, .ref xa52, .ref xa54, .int 0, .ref xa55, .ref xa60, .ref xa62, .ref xa67, .int (-1)])), (xa54, .inl (kI, 3, .inl (fun _ => 0))), (ou, .inl (kJ, 1, .inr (.inl fo)))])) (va_Qi (fun (r : Int32) (_ : Unit) => r = 0) (fun _ t => ∃ (g1 : Nat → Int64), g1 0 = 0 ∧ va_P (dC, dI) vwCl [(ou, .inl (kJ, 1, .inr (.inl g1)))] t.heap ∧ va_D (va_A [(h0, .inr (10, [.ref xa1, .ref xa3, .ref xa15, .ref xa27, .ref xa28, .ref xa33, .ref xa38, .ref xa41, .ref xa45, .ref xa46, .ref xa47, .ref xa52, .ref xa54, .int 0, .ref xa55, .ref xa60, .ref xa62, .ref xa67, .int (-1)])), (xa54, .inl (kI, 3, .inl (fun _ => 0))), (ou, .inl (kJ, 1, .inr (.inl fo)))] sz) [(ou, .inl (kJ, 1, .inr (.inl g1)))]) (va_A [(h0, .inr (10, [.ref xa1, .ref xa3, .ref xa15, .ref xa27, .ref xa28, .ref xa33, .ref xa38, .ref xa41, .ref xa45, .ref xa46, .ref xa47, .ref xa52, .ref xa54, .int 0, .ref xa55, .ref xa60, .ref xa62, .ref xa67, .int (-1)])), (xa54, .inl (kI, 3, .inl (fun _ => 0))), (ou, .inl (kJ, 1, .inr (.inl fo)))] sz)) 0 0 (va_A [(h0, .inr (10, [.ref xa1, .ref xa3, .ref xa15, .ref xa27, .ref xa28, .ref xa33, .ref xa38, .ref xa41, .ref xa45, .ref xa46, .ref xa47, .ref xa52, .ref xa54, .int 0, .ref xa55, .ref xa60, .ref xa62, .ref xa67, .int (-1)])), (xa54, .inl (kI, 3, .inl (fun _ => 0))), (ou, .inl (kJ, 1, .inr (.inl fo)))] sz) := by
  refine va_MetW (cc := cL_count) (maxL := 4) (ret := (some .int)) (by decide) rfl ?_
  intro p e s m args0 below meth c s₁ B hml hv
  obtain ⟨hargs, hsz, hP, hE, hD0⟩ := hv
  have hx := B.exec
  have hb := B.bytes
  have hr := B.returns
  have hts := atoms_spec (ws := wsL_count) B.pre
  have hown : s.vm.findClass RL = some m.cls := findClass_of_methodNamed B.named
  have hlocks := B.notSynchronized
  have hK := hE.1
  have hin10 : ∀ w ∈ wsX100, w ∈ wsL_count := fun _ h9 => List.mem_cons_of_mem _ (List.mem_append_left _ (List.mem_append_left _ (List.mem_append_left _ (List.mem_append_left _ (List.mem_append_left _ (List.mem_append_left _ (List.mem_append_left _ (List.mem_append_left _ (List.mem_append_right _ h9)))))))))
  have hin0 : ∀ w ∈ wsX00, w ∈ wsL_count := fun _ h9 => List.mem_cons_of_mem _ (List.mem_append_left _ (List.mem_append_left _ (List.mem_append_left _ (List.mem_append_left _ (List.mem_append_left _ (List.mem_append_left _ (List.mem_append_left _ (List.mem_append_right _ h9))))))))
  have hin2 : ∀ w ∈ wsX20, w ∈ wsL_count := fun _ h9 => List.mem_cons_of_mem _ (List.mem_append_left _ (List.mem_append_left _ (List.mem_append_left _ (List.mem_append_left _ (List.mem_append_left _ (List.mem_append_left _ (List.mem_append_right _ h9)))))))
  have hin1 : ∀ w ∈ wsX10, w ∈ wsL_count := fun _ h9 => List.mem_cons_of_mem _ (List.mem_append_left _ (List.mem_append_left _ (List.mem_append_left _ (List.mem_append_left _ (List.mem_append_left _ (List.mem_append_right _ h9))))))
  have hin3 : ∀ w ∈ wsX30, w ∈ wsL_count := fun _ h9 => List.mem_cons_of_mem _ (List.mem_append_left _ (List.mem_append_left _ (List.mem_append_left _ (List.mem_append_left _ (List.mem_append_right _ h9)))))
  have hin8 : ∀ w ∈ wsX80, w ∈ wsL_count := fun _ h9 => List.mem_cons_of_mem _ (List.mem_append_left _ (List.mem_append_left _ (List.mem_append_left _ (List.mem_append_right _ h9))))
  have hin4 : ∀ w ∈ wsX40, w ∈ wsL_count := fun _ h9 => List.mem_cons_of_mem _ (List.mem_append_left _ (List.mem_append_left _ (List.mem_append_right _ h9)))
  have hin7 : ∀ w ∈ wsX70, w ∈ wsL_count := fun _ h9 => List.mem_cons_of_mem _ (List.mem_append_left _ (List.mem_append_right _ h9))
  subst hsz
  have hD := hD0.self (sz := s.heap.size)
  generalize hAe : va_A [(h0, .inr (10, [.ref xa1, .ref xa3, .ref xa15, .ref xa27, .ref xa28, .ref xa33, .ref xa38, .ref xa41, .ref xa45, .ref xa46, .ref xa47, .ref xa52, .ref xa54, .int 0, .ref xa55, .ref xa60, .ref xa62, .ref xa67, .int (-1)])), (xa54, .inl (kI, 3, .inl (fun _ => 0))), (ou, .inl (kJ, 1, .inr (.inl fo)))] s.heap.size = A at hD ⊢
  have hA : ∀ q : Nat, s.heap.size ≤ q → A q := fun q h => by rw [← hAe]; exact Or.inr h
  have hS : va_S A s.heap s.heap [] := va_S.rf
  have hP : va_P (dC, dI) vwCl [(h0, .inr (10, [.ref xa1, .ref xa3, .ref xa15, .ref xa27, .ref xa28, .ref xa33, .ref xa38, .ref xa41, .ref xa45, .ref xa46, .ref xa47, .ref xa52, .ref xa54, .int 0, .ref xa55, .ref xa60, .ref xa62, .ref xa67, .int (-1)])), (xa54, .inl (kI, 3, .inl (fun _ => 0))), (ou, .inl (kJ, 1, .inr (.inl fo)))] s.heap := hP
  have hl := lv_entry ([.ref h0, .int 15, .ref ou]) (n := 4) (Nat.le_of_ble_eq_true rfl)
  have hla : entryFrame m args0 4 = entryFrame m ([.ref h0, .int 15, .ref ou] : List Value).toArray 4 := by rw [hargs]
  rw [hla, lg_entry_eq]
  generalize (lg_sl ([.ref h0, .int 15, .ref ou]) ++ List.replicate (4 - (lg_sl ([.ref h0, .int 15, .ref ou])).length) Slot.unset).toArray = ls at hl ⊢
  have hl : lv_has ls 4 [(0, .ref h0), (1, .int 15), (2, .ref ou)] := hl
  refine lv_aload_n hx hb dL_count_0 rfl (lv_at hl 2 rfl) ?_
  refine lv_iconst (v := 0) hx hb dL_count_1 (by decide) ?_
  refine lv_aload_n hx hb dL_count_2 rfl (lv_at hl 0 rfl) ?_
  refine lv_iload_n hx hb dL_count_3 rfl (lv_at hl 1 rfl) ?_
  have hPc := hP.sub (ws' := [(h0, .inr (10, [.ref xa1, .ref xa3, .ref xa15, .ref xa27, .ref xa28, .ref xa33, .ref xa38, .ref xa41, .ref xa45, .ref xa46, .ref xa47, .ref xa52, .ref xa54, .int 0, .ref xa55, .ref xa60, .ref xa62, .ref xa67, .int (-1)])), (xa54, .inl (kI, 3, .inl (fun _ => 0)))]) [0, 1] rfl
  have hDc := hD.sub (ws' := [(h0, .inr (10, [.ref xa1, .ref xa3, .ref xa15, .ref xa27, .ref xa28, .ref xa33, .ref xa38, .ref xa41, .ref xa45, .ref xa46, .ref xa47, .ref xa52, .ref xa54, .int 0, .ref xa55, .ref xa60, .ref xa62, .ref xa67, .int (-1)])), (xa54, .inl (kI, 3, .inl (fun _ => 0)))]) [0, 1] (by decide) rfl
  have hFc := va_free (wc := [(h0, .inr (10, [.ref xa1, .ref xa3, .ref xa15, .ref xa27, .ref xa28, .ref xa33, .ref xa38, .ref xa41, .ref xa45, .ref xa46, .ref xa47, .ref xa52, .ref xa54, .int 0, .ref xa55, .ref xa60, .ref xa62, .ref xa67, .int (-1)])), (xa54, .inl (kI, 3, .inl (fun _ => 0)))]) hD hS hA [0, 1] rfl
  refine va_calli (va_runV (As := [.int 15]) (rest := [.int 0, .ref ou]) ⟨hx, hb, hml, hown, hts⟩ (k10_count_15 l dC dI kB kI kJ kZ kC kS s.heap.size h0 xa1 xa3 xa15 xa27 xa28 xa33 xa38 xa41 xa45 xa46 xa47 xa52 xa54 xa55 xa60 xa62 xa67) (cwV 1 hts gL_count_X10_count rfl rfl rfl (by decide +kernel) ⟨Nat.le_of_ble_eq_true rfl, Nat.le_of_ble_eq_true rfl⟩) ⟨fun a U g mk q => by obtain ⟨q0, q1, qP, qE, qD⟩ := q; exact ⟨q0, q1, qP, kE_call qE, qD⟩, va_recv hK hP (ci := 10) (q0 := 0) rfl rfl, fun U hU hW => ⟨rfl, by rw [hU], by rw [hU]; exact hPc, kE_warm hW hE, hDc.weaken (fun _ _ _ _ => trivial)⟩⟩ rfl rfl hl.1 rfl (lv_room (Nat.le_of_ble_eq_true rfl)) dL_count_4 ⟨Nat.le_of_ble_eq_true rfl, Nat.le_of_ble_eq_true rfl⟩) hS (fun q _ h => hFc q h) hFc (fun r1 u t H1 locs ht hvm w2 hB hz1 hk1 hS => ?_)
  obtain ⟨hP1, hD1⟩ := hB
  rw [ht] at hP1
  try dsimp only at w2
  obtain ⟨hP, hD⟩ := va_join (wr := [(ou, .inl (kJ, 1, .inr (.inl fo)))]) (w1 := []) hP hD [0, 1] [2] rfl rfl (by decide) (by decide) hk1 hFc hP1 hD1
  generalize H1 = H at hP hS ⊢
  have hP : va_P (dC, dI) vwCl [(ou, .inl (kJ, 1, .inr (.inl fo)))] H := hP
  have hD : va_D A [(ou, .inl (kJ, 1, .inr (.inl fo)))] := hD
  refine W.widen (k := 0) (n := 0) (Nat.le_of_ble_eq_true rfl) (Nat.le_of_ble_eq_true rfl) ?_
  subst w2
  refine lv_i2l (v := 0) hx hb dL_count_7 (by decide) ?_
  refine va_last hx hb hK hP hD hS 0 2 rfl rfl (vp_in_nI (n := 0) (by decide) (by decide)) dL_count_8 (fun H locs hP hD hS => ?_)
  have hP : va_P (dC, dI) vwCl [(ou, .inl (kJ, 1, .inr (.inl (vp_updL fo 0 0))))] H := hP
  have hD : va_D A [(ou, .inl (kJ, 1, .inr (.inl (vp_updL fo 0 0))))] := hD
  refine lv_goto (tgt := 15) hx hb dL_count_9 (by decide) ?_
  refine lv_iconst (v := 0) hx hb dL_count_15 (by decide) ?_
  have hP9 := hP.sub (ws' := [(ou, .inl (kJ, 1, .inr (.inl (vp_updL fo 0 0))))]) [0] rfl
  have hD9 := hD.sub (ws' := [(ou, .inl (kJ, 1, .inr (.inl (vp_updL fo 0 0))))]) [0] (by decide) rfl
  exact W.iret (v := 0) hx hb hr (fun t ht hW => ⟨⟨0, (), rfl, rfl, vp_updL fo 0 0, rfl, by rw [ht]; exact hP9, hD9⟩, hS.F ht⟩) hS.2.2 dL_count_16
def rm_kL10_count_16 : Room := { frames := 1, cells := 0, slots := 0, locals := 21 }
set_option maxHeartbeats 4000000 in
set_option maxRecDepth 100000 in
theorem kL10_count_16 (l : Launch) (dC : Nat → ClassId) (dI : Nat → Nat → Nat) (kB kI kJ kZ kC kS : ClassId) (sz : Nat) (h0 : Nat) (xa1 : Nat) (xa3 : Nat) (xa15 : Nat) (xa27 : Nat) (xa28 : Nat) (xa33 : Nat) (xa38 : Nat) (xa41 : Nat) (xa45 : Nat) (xa46 : Nat) (xa47 : Nat) (xa52 : Nat) (xa54 : Nat) (xa55 : Nat) (xa60 : Nat) (xa62 : Nat) (xa67 : Nat) (xa29 : Nat) (xa30 : Nat) (xa31 : Nat) (xa32 : Nat) (ou : Nat) (fo : Nat → Int64) : Met l yL_count wsL_count rm_kL10_count_16 (va_Pc [.ref h0, .int 16, .ref ou] (fun U => U.heap.size = sz ∧ va_P (dC, dI) vwCl [(h0, .inr (10, [.ref xa1, .ref xa3, .ref xa15, .ref xa27, .ref xa28, .ref xa33, .ref xa38, .ref xa41, .ref xa45, .ref xa46, .ref xa47, .ref xa52, .ref xa54, .int 0, .ref xa55, .ref xa60, .ref xa62, .ref xa67, .int (-1)])), (xa28, .inr (0, [.ref xa29, .ref xa30, .ref xa31, .ref xa32, .int 5, .int 0, .int 0, .int 0, .int 0, .int 0])), (xa29, .inl (kJ, 96, .inr (.inl (fun _ => 0)))), (xa30, .inl (kI, 30, .inl (fun _ => 0))), (xa31, .inl (kI, 12, .inl (fun _ => 0))), (xa32, .inl (kI, 12, .inl (fun _ => 0))), (ou, .inl (kJ, 1, .inr (.inl fo)))] U.heap ∧ kE dC dI kB kI kJ kZ kC kS U ∧ va_D (fun _ => True) [(h0, .inr (10, [.ref xa1, .ref xa3, .ref xa15, .ref xa27, .ref xa28, .ref xa33, .ref xa38, .ref xa41, .ref xa45, .ref xa46, .ref xa47, .ref xa52, .ref xa54, .int 0, .ref xa55, .ref xa60, .ref xa62, .ref xa67, .int (-1)])), (xa28, .inr (0, [.ref xa29, .ref xa30, .ref xa31, .ref xa32, .int 5, .int 0, .int 0, .int 0, .int 0, .int 0])), (xa29, .inl (kJ, 96, .inr (.inl (fun _ => 0)))), (xa30, .inl (kI, 30, .inl (fun _ => 0))), (xa31, .inl (kI, 12, .inl (fun _ => 0))), (xa32, .inl (kI, 12, .inl (fun _ => 0))), (ou, .inl (kJ, 1, .inr (.inl fo)))])) (va_Qi (fun (r : Int32) (_ : Unit) => r = 0) (fun _ t => ∃ (g1 : Nat → Int64), g1 0 = 0 ∧ va_P (dC, dI) vwCl [(ou, .inl (kJ, 1, .inr (.inl g1)))] t.heap ∧ va_D (va_A [(h0, .inr (10, [.ref xa1, .ref xa3, .ref xa15, .ref xa27, .ref xa28, .ref xa33, .ref xa38, .ref xa41, .ref xa45, .ref xa46, .ref xa47, .ref xa52, .ref xa54, .int 0, .ref xa55, .ref xa60, .ref xa62, .ref xa67, .int (-1)])), (xa28, .inr (0, [.ref xa29, .ref xa30, .ref xa31, .ref xa32, .int 5, .int 0, .int 0, .int 0, .int 0, .int 0])), (xa29, .inl (kJ, 96, .inr (.inl (fun _ => 0)))), (xa30, .inl (kI, 30, .inl (fun _ => 0))), (xa31, .inl (kI, 12, .inl (fun _ => 0))), (xa32, .inl (kI, 12, .inl (fun _ => 0))), (ou, .inl (kJ, 1, .inr (.inl fo)))] sz) [(ou, .inl (kJ, 1, .inr (.inl g1)))]) (va_A [(h0, .inr (10, [.ref xa1, .ref xa3, .ref xa15, .ref xa27, .ref xa28, .ref xa33, .ref xa38, .ref xa41, .ref xa45, .ref xa46, .ref xa47, .ref xa52, .ref xa54, .int 0, .ref xa55, .ref xa60, .ref xa62, .ref xa67, .int (-1)])), (xa28, .inr (0, [.ref xa29, .ref xa30, .ref xa31, .ref xa32, .int 5, .int 0, .int 0, .int 0, .int 0, .int 0])), (xa29, .inl (kJ, 96, .inr (.inl (fun _ => 0)))), (xa30, .inl (kI, 30, .inl (fun _ => 0))), (xa31, .inl (kI, 12, .inl (fun _ => 0))), (xa32, .inl (kI, 12, .inl (fun _ => 0))), (ou, .inl (kJ, 1, .inr (.inl fo)))] sz)) 0 0 (va_A [(h0, .inr (10, [.ref xa1, .ref xa3, .ref xa15, .ref xa27, .ref xa28, .ref xa33, .ref xa38, .ref xa41, .ref xa45, .ref xa46, .ref xa47, .ref xa52, .ref xa54, .int 0, .ref xa55, .ref xa60, .ref xa62, .ref xa67, .int (-1)])), (xa28, .inr (0, [.ref xa29, .ref xa30, .ref xa31, .ref xa32, .int 5, .int 0, .int 0, .int 0, .int 0, .int 0])), (xa29, .inl (kJ, 96, .inr (.inl (fun _ => 0)))), (xa30, .inl (kI, 30, .inl (fun _ => 0))), (xa31, .inl (kI, 12, .inl (fun _ => 0))), (xa32, .inl (kI, 12, .inl (fun _ => 0))), (ou, .inl (kJ, 1, .inr (.inl fo)))] sz) := by
  refine va_MetW (cc := cL_count) (maxL := 4) (ret := (some .int)) (by decide) rfl ?_
  intro p e s m args0 below meth c s₁ B hml hv
  obtain ⟨hargs, hsz, hP, hE, hD0⟩ := hv
  have hx := B.exec
  have hb := B.bytes
  have hr := B.returns
  have hts := atoms_spec (ws := wsL_count) B.pre
  have hown : s.vm.findClass RL = some m.cls := findClass_of_methodNamed B.named
  have hlocks := B.notSynchronized
  have hK := hE.1
  have hin10 : ∀ w ∈ wsX100, w ∈ wsL_count := fun _ h9 => List.mem_cons_of_mem _ (List.mem_append_left _ (List.mem_append_left _ (List.mem_append_left _ (List.mem_append_left _ (List.mem_append_left _ (List.mem_append_left _ (List.mem_append_left _ (List.mem_append_left _ (List.mem_append_right _ h9)))))))))
  have hin0 : ∀ w ∈ wsX00, w ∈ wsL_count := fun _ h9 => List.mem_cons_of_mem _ (List.mem_append_left _ (List.mem_append_left _ (List.mem_append_left _ (List.mem_append_left _ (List.mem_append_left _ (List.mem_append_left _ (List.mem_append_left _ (List.mem_append_right _ h9))))))))
  have hin2 : ∀ w ∈ wsX20, w ∈ wsL_count := fun _ h9 => List.mem_cons_of_mem _ (List.mem_append_left _ (List.mem_append_left _ (List.mem_append_left _ (List.mem_append_left _ (List.mem_append_left _ (List.mem_append_left _ (List.mem_append_right _ h9)))))))
  have hin1 : ∀ w ∈ wsX10, w ∈ wsL_count := fun _ h9 => List.mem_cons_of_mem _ (List.mem_append_left _ (List.mem_append_left _ (List.mem_append_left _ (List.mem_append_left _ (List.mem_append_left _ (List.mem_append_right _ h9))))))
  have hin3 : ∀ w ∈ wsX30, w ∈ wsL_count := fun _ h9 => List.mem_cons_of_mem _ (List.mem_append_left _ (List.mem_append_left _ (List.mem_append_left _ (List.mem_append_left _ (List.mem_append_right _ h9)))))
  have hin8 : ∀ w ∈ wsX80, w ∈ wsL_count := fun _ h9 => List.mem_cons_of_mem _ (List.mem_append_left _ (List.mem_append_left _ (List.mem_append_left _ (List.mem_append_right _ h9))))
  have hin4 : ∀ w ∈ wsX40, w ∈ wsL_count := fun _ h9 => List.mem_cons_of_mem _ (List.mem_append_left _ (List.mem_append_left _ (List.mem_append_right _ h9)))
  have hin7 : ∀ w ∈ wsX70, w ∈ wsL_count := fun _ h9 => List.mem_cons_of_mem _ (List.mem_append_left _ (List.mem_append_right _ h9))
  subst hsz
  have hD := hD0.self (sz := s.heap.size)
  generalize hAe : va_A [(h0, .inr (10, [.ref xa1, .ref xa3, .ref xa15, .ref xa27, .ref xa28, .ref xa33, .ref xa38, .ref xa41, .ref xa45, .ref xa46, .ref xa47, .ref xa52, .ref xa54, .int 0, .ref xa55, .ref xa60, .ref xa62, .ref xa67, .int (-1)])), (xa28, .inr (0, [.ref xa29, .ref xa30, .ref xa31, .ref xa32, .int 5, .int 0, .int 0, .int 0, .int 0, .int 0])), (xa29, .inl (kJ, 96, .inr (.inl (fun _ => 0)))), (xa30, .inl (kI, 30, .inl (fun _ => 0))), (xa31, .inl (kI, 12, .inl (fun _ => 0))), (xa32, .inl (kI, 12, .inl (fun _ => 0))), (ou, .inl (kJ, 1, .inr (.inl fo)))] s.heap.size = A at hD ⊢
  have hA : ∀ q : Nat, s.heap.size ≤ q → A q := fun q h => by rw [← hAe]; exact Or.inr h
  have hS : va_S A s.heap s.heap [] := va_S.rf
  have hP : va_P (dC, dI) vwCl [(h0, .inr (10, [.ref xa1, .ref xa3, .ref xa15, .ref xa27, .ref xa28, .ref xa33, .ref xa38, .ref xa41, .ref xa45, .ref xa46, .ref xa47, .ref xa52, .ref xa54, .int 0, .ref xa55, .ref xa60, .ref xa62, .ref xa67, .int (-1)])), (xa28, .inr (0, [.ref xa29, .ref xa30, .ref xa31, .ref xa32, .int 5, .int 0, .int 0, .int 0, .int 0, .int 0])), (xa29, .inl (kJ, 96, .inr (.inl (fun _ => 0)))), (xa30, .inl (kI, 30, .inl (fun _ => 0))), (xa31, .inl (kI, 12, .inl (fun _ => 0))), (xa32, .inl (kI, 12, .inl (fun _ => 0))), (ou, .inl (kJ, 1, .inr (.inl fo)))] s.heap := hP
  have hl := lv_entry ([.ref h0, .int 16, .ref ou]) (n := 4) (Nat.le_of_ble_eq_true rfl)
  have hla : entryFrame m args0 4 = entryFrame m ([.ref h0, .int 16, .ref ou] : List Value).toArray 4 := by rw [hargs]
  rw [hla, lg_entry_eq]
  generalize (lg_sl ([.ref h0, .int 16, .ref ou]) ++ List.replicate (4 - (lg_sl ([.ref h0, .int 16, .ref ou])).length) Slot.unset).toArray = ls at hl ⊢
  have hl : lv_has ls 4 [(0, .ref h0), (1, .int 16), (2, .ref ou)] := hl
  refine lv_aload_n hx hb dL_count_0 rfl (lv_at hl 2 rfl) ?_
  refine lv_iconst (v := 0) hx hb dL_count_1 (by decide) ?_
  refine lv_aload_n hx hb dL_count_2 rfl (lv_at hl 0 rfl) ?_
  refine lv_iload_n hx hb dL_count_3 rfl (lv_at hl 1 rfl) ?_
  have hPc := hP.sub (ws' := [(h0, .inr (10, [.ref xa1, .ref xa3, .ref xa15, .ref xa27, .ref xa28, .ref xa33, .ref xa38, .ref xa41, .ref xa45, .ref xa46, .ref xa47, .ref xa52, .ref xa54, .int 0, .ref xa55, .ref xa60, .ref xa62, .ref xa67, .int (-1)])), (xa28, .inr (0, [.ref xa29, .ref xa30, .ref xa31, .ref xa32, .int 5, .int 0, .int 0, .int 0, .int 0, .int 0])), (xa29, .inl (kJ, 96, .inr (.inl (fun _ => 0)))), (xa30, .inl (kI, 30, .inl (fun _ => 0))), (xa31, .inl (kI, 12, .inl (fun _ => 0))), (xa32, .inl (kI, 12, .inl (fun _ => 0)))]) [0, 1, 2, 3, 4, 5] rfl
  have hDc := hD.sub (ws' := [(h0, .inr (10, [.ref xa1, .ref xa3, .ref xa15, .ref xa27, .ref xa28, .ref xa33, .ref xa38, .ref xa41, .ref xa45, .ref xa46, .ref xa47, .ref xa52, .ref xa54, .int 0, .ref xa55, .ref xa60, .ref xa62, .ref xa67, .int (-1)])), (xa28, .inr (0, [.ref xa29, .ref xa30, .ref xa31, .ref xa32, .int 5, .int 0, .int 0, .int 0, .int 0, .int 0])), (xa29, .inl (kJ, 96, .inr (.inl (fun _ => 0)))), (xa30, .inl (kI, 30, .inl (fun _ => 0))), (xa31, .inl (kI, 12, .inl (fun _ => 0))), (xa32, .inl (kI, 12, .inl (fun _ => 0)))]) [0, 1, 2, 3, 4, 5] (by decide) rfl
  have hFc := va_free (wc := [(h0, .inr (10, [.ref xa1, .ref xa3, .ref xa15, .ref xa27, .ref xa28, .ref xa33, .ref xa38, .ref xa41, .ref xa45, .ref xa46, .ref xa47, .ref xa52, .ref xa54, .int 0, .ref xa55, .ref xa60, .ref xa62, .ref xa67, .int (-1)])), (xa28, .inr (0, [.ref xa29, .ref xa30, .ref xa31, .ref xa32, .int 5, .int 0, .int 0, .int 0, .int 0, .int 0])), (xa29, .inl (kJ, 96, .inr (.inl (fun _ => 0)))), (xa30, .inl (kI, 30, .inl (fun _ => 0))), (xa31, .inl (kI, 12, .inl (fun _ => 0))), (xa32, .inl (kI, 12, .inl (fun _ => 0)))]) hD hS hA [0, 1, 2, 3, 4, 5] rfl
  refine va_calli (va_runV (As := [.int 16]) (rest := [.int 0, .ref ou]) ⟨hx, hb, hml, hown, hts⟩ (k10_count_16 l dC dI kB kI kJ kZ kC kS s.heap.size h0 xa1 xa3 xa15 xa27 xa28 xa33 xa38 xa41 xa45 xa46 xa47 xa52 xa54 xa55 xa60 xa62 xa67 xa29 xa30 xa31 xa32) (cwV 1 hts gL_count_X10_count rfl rfl rfl (by decide +kernel) ⟨Nat.le_of_ble_eq_true rfl, Nat.le_of_ble_eq_true rfl⟩) ⟨fun a U g mk q => by obtain ⟨q0, q1, qP, qE, qD⟩ := q; exact ⟨q0, q1, qP, kE_call qE, qD⟩, va_recv hK hP (ci := 10) (q0 := 0) rfl rfl, fun U hU hW => ⟨rfl, by rw [hU], by rw [hU]; exact hPc, kE_warm hW hE, hDc.weaken (fun _ _ _ _ => trivial)⟩⟩ rfl rfl hl.1 rfl (lv_room (Nat.le_of_ble_eq_true rfl)) dL_count_4 ⟨Nat.le_of_ble_eq_true rfl, Nat.le_of_ble_eq_true rfl⟩) hS (fun q _ h => hFc q h) hFc (fun r1 u t H1 locs ht hvm w2 hB hz1 hk1 hS => ?_)
  obtain ⟨hP1, hD1⟩ := hB
  rw [ht] at hP1
  try dsimp only at w2
  obtain ⟨hP, hD⟩ := va_join (wr := [(ou, .inl (kJ, 1, .inr (.inl fo)))]) (w1 := []) hP hD [0, 1, 2, 3, 4, 5] [6] rfl rfl (by decide) (by decide) hk1 hFc hP1 hD1
  generalize H1 = H at hP hS ⊢
  have hP : va_P (dC, dI) vwCl [(ou, .inl (kJ, 1, .inr (.inl fo)))] H := hP
  have hD : va_D A [(ou, .inl (kJ, 1, .inr (.inl fo)))] := hD
  refine W.widen (k := 0) (n := 0) (Nat.le_of_ble_eq_true rfl) (Nat.le_of_ble_eq_true rfl) ?_
  subst w2
  refine lv_i2l (v := 0) hx hb dL_count_7 (by decide) ?_
  refine va_last hx hb hK hP hD hS 0 2 rfl rfl (vp_in_nI (n := 0) (by decide) (by decide)) dL_count_8 (fun H locs hP hD hS => ?_)
  have hP : va_P (dC, dI) vwCl [(ou, .inl (kJ, 1, .inr (.inl (vp_updL fo 0 0))))] H := hP
  have hD : va_D A [(ou, .inl (kJ, 1, .inr (.inl (vp_updL fo 0 0))))] := hD
  refine lv_goto (tgt := 15) hx hb dL_count_9 (by decide) ?_
  refine lv_iconst (v := 0) hx hb dL_count_15 (by decide) ?_
  have hP9 := hP.sub (ws' := [(ou, .inl (kJ, 1, .inr (.inl (vp_updL fo 0 0))))]) [0] rfl
  have hD9 := hD.sub (ws' := [(ou, .inl (kJ, 1, .inr (.inl (vp_updL fo 0 0))))]) [0] (by decide) rfl
  exact W.iret (v := 0) hx hb hr (fun t ht hW => ⟨⟨0, (), rfl, rfl, vp_updL fo 0 0, rfl, by rw [ht]; exact hP9, hD9⟩, hS.F ht⟩) hS.2.2 dL_count_16
def rm_kL10_count_17 : Room := { frames := 1, cells := 0, slots := 0, locals := 21 }
set_option maxHeartbeats 4000000 in
set_option maxRecDepth 100000 in
theorem kL10_count_17 (l : Launch) (dC : Nat → ClassId) (dI : Nat → Nat → Nat) (kB kI kJ kZ kC kS : ClassId) (sz : Nat) (h0 : Nat) (xa1 : Nat) (xa3 : Nat) (xa15 : Nat) (xa27 : Nat) (xa28 : Nat) (xa33 : Nat) (xa38 : Nat) (xa41 : Nat) (xa45 : Nat) (xa46 : Nat) (xa47 : Nat) (xa52 : Nat) (xa54 : Nat) (xa55 : Nat) (xa60 : Nat) (xa62 : Nat) (xa67 : Nat) (xa29 : Nat) (xa30 : Nat) (xa31 : Nat) (xa32 : Nat) (ou : Nat) (fo : Nat → Int64) : Met l yL_count wsL_count rm_kL10_count_17 (va_Pc [.ref h0, .int 17, .ref ou] (fun U => U.heap.size = sz ∧ va_P (dC, dI) vwCl [(h0, .inr (10, [.ref xa1, .ref xa3, .ref xa15, .ref xa27, .ref xa28, .ref xa33, .ref xa38, .ref xa41, .ref xa45, .ref xa46, .ref xa47, .ref xa52, .ref xa54, .int 0, .ref xa55, .ref xa60, .ref xa62, .ref xa67, .int (-1)])), (xa28, .inr (0, [.ref xa29, .ref xa30, .ref xa31, .ref xa32, .int 5, .int 0, .int 0, .int 0, .int 0, .int 0])), (xa29, .inl (kJ, 96, .inr (.inl (fun _ => 0)))), (xa30, .inl (kI, 30, .inl (fun _ => 0))), (xa31, .inl (kI, 12, .inl (fun _ => 0))), (xa32, .inl (kI, 12, .inl (fun _ => 0))), (ou, .inl (kJ, 1, .inr (.inl fo)))] U.heap ∧ kE dC dI kB kI kJ kZ kC kS U ∧ va_D (fun _ => True) [(h0, .inr (10, [.ref xa1, .ref xa3, .ref xa15, .ref xa27, .ref xa28, .ref xa33, .ref xa38, .ref xa41, .ref xa45, .ref xa46, .ref xa47, .ref xa52, .ref xa54, .int 0, .ref xa55, .ref xa60, .ref xa62, .ref xa67, .int (-1)])), (xa28, .inr (0, [.ref xa29, .ref xa30, .ref xa31, .ref xa32, .int 5, .int 0, .int 0, .int 0, .int 0, .int 0])), (xa29, .inl (kJ, 96, .inr (.inl (fun _ => 0)))), (xa30, .inl (kI, 30, .inl (fun _ => 0))), (xa31, .inl (kI, 12, .inl (fun _ => 0))), (xa32, .inl (kI, 12, .inl (fun _ => 0))), (ou, .inl (kJ, 1, .inr (.inl fo)))])) (va_Qi (fun (r : Int32) (_ : Unit) => r = 0) (fun _ t => ∃ (g1 : Nat → Int64), g1 0 = 0 ∧ va_P (dC, dI) vwCl [(ou, .inl (kJ, 1, .inr (.inl g1)))] t.heap ∧ va_D (va_A [(h0, .inr (10, [.ref xa1, .ref xa3, .ref xa15, .ref xa27, .ref xa28, .ref xa33, .ref xa38, .ref xa41, .ref xa45, .ref xa46, .ref xa47, .ref xa52, .ref xa54, .int 0, .ref xa55, .ref xa60, .ref xa62, .ref xa67, .int (-1)])), (xa28, .inr (0, [.ref xa29, .ref xa30, .ref xa31, .ref xa32, .int 5, .int 0, .int 0, .int 0, .int 0, .int 0])), (xa29, .inl (kJ, 96, .inr (.inl (fun _ => 0)))), (xa30, .inl (kI, 30, .inl (fun _ => 0))), (xa31, .inl (kI, 12, .inl (fun _ => 0))), (xa32, .inl (kI, 12, .inl (fun _ => 0))), (ou, .inl (kJ, 1, .inr (.inl fo)))] sz) [(ou, .inl (kJ, 1, .inr (.inl g1)))]) (va_A [(h0, .inr (10, [.ref xa1, .ref xa3, .ref xa15, .ref xa27, .ref xa28, .ref xa33, .ref xa38, .ref xa41, .ref xa45, .ref xa46, .ref xa47, .ref xa52, .ref xa54, .int 0, .ref xa55, .ref xa60, .ref xa62, .ref xa67, .int (-1)])), (xa28, .inr (0, [.ref xa29, .ref xa30, .ref xa31, .ref xa32, .int 5, .int 0, .int 0, .int 0, .int 0, .int 0])), (xa29, .inl (kJ, 96, .inr (.inl (fun _ => 0)))), (xa30, .inl (kI, 30, .inl (fun _ => 0))), (xa31, .inl (kI, 12, .inl (fun _ => 0))), (xa32, .inl (kI, 12, .inl (fun _ => 0))), (ou, .inl (kJ, 1, .inr (.inl fo)))] sz)) 0 0 (va_A [(h0, .inr (10, [.ref xa1, .ref xa3, .ref xa15, .ref xa27, .ref xa28, .ref xa33, .ref xa38, .ref xa41, .ref xa45, .ref xa46, .ref xa47, .ref xa52, .ref xa54, .int 0, .ref xa55, .ref xa60, .ref xa62, .ref xa67, .int (-1)])), (xa28, .inr (0, [.ref xa29, .ref xa30, .ref xa31, .ref xa32, .int 5, .int 0, .int 0, .int 0, .int 0, .int 0])), (xa29, .inl (kJ, 96, .inr (.inl (fun _ => 0)))), (xa30, .inl (kI, 30, .inl (fun _ => 0))), (xa31, .inl (kI, 12, .inl (fun _ => 0))), (xa32, .inl (kI, 12, .inl (fun _ => 0))), (ou, .inl (kJ, 1, .inr (.inl fo)))] sz) := by
  refine va_MetW (cc := cL_count) (maxL := 4) (ret := (some .int)) (by decide) rfl ?_
  intro p e s m args0 below meth c s₁ B hml hv
  obtain ⟨hargs, hsz, hP, hE, hD0⟩ := hv
  have hx := B.exec
  have hb := B.bytes
  have hr := B.returns
  have hts := atoms_spec (ws := wsL_count) B.pre
  have hown : s.vm.findClass RL = some m.cls := findClass_of_methodNamed B.named
  have hlocks := B.notSynchronized
  have hK := hE.1
  have hin10 : ∀ w ∈ wsX100, w ∈ wsL_count := fun _ h9 => List.mem_cons_of_mem _ (List.mem_append_left _ (List.mem_append_left _ (List.mem_append_left _ (List.mem_append_left _ (List.mem_append_left _ (List.mem_append_left _ (List.mem_append_left _ (List.mem_append_left _ (List.mem_append_right _ h9)))))))))
  have hin0 : ∀ w ∈ wsX00, w ∈ wsL_count := fun _ h9 => List.mem_cons_of_mem _ (List.mem_append_left _ (List.mem_append_left _ (List.mem_append_left _ (List.mem_append_left _ (List.mem_append_left _ (List.mem_append_left _ (List.mem_append_left _ (List.mem_append_right _ h9))))))))
  have hin2 : ∀ w ∈ wsX20, w ∈ wsL_count := fun _ h9 => List.mem_cons_of_mem _ (List.mem_append_left _ (List.mem_append_left _ (List.mem_append_left _ (List.mem_append_left _ (List.mem_append_left _ (List.mem_append_left _ (List.mem_append_right _ h9)))))))
  have hin1 : ∀ w ∈ wsX10, w ∈ wsL_count := fun _ h9 => List.mem_cons_of_mem _ (List.mem_append_left _ (List.mem_append_left _ (List.mem_append_left _ (List.mem_append_left _ (List.mem_append_left _ (List.mem_append_right _ h9))))))
  have hin3 : ∀ w ∈ wsX30, w ∈ wsL_count := fun _ h9 => List.mem_cons_of_mem _ (List.mem_append_left _ (List.mem_append_left _ (List.mem_append_left _ (List.mem_append_left _ (List.mem_append_right _ h9)))))
  have hin8 : ∀ w ∈ wsX80, w ∈ wsL_count := fun _ h9 => List.mem_cons_of_mem _ (List.mem_append_left _ (List.mem_append_left _ (List.mem_append_left _ (List.mem_append_right _ h9))))
  have hin4 : ∀ w ∈ wsX40, w ∈ wsL_count := fun _ h9 => List.mem_cons_of_mem _ (List.mem_append_left _ (List.mem_append_left _ (List.mem_append_right _ h9)))
  have hin7 : ∀ w ∈ wsX70, w ∈ wsL_count := fun _ h9 => List.mem_cons_of_mem _ (List.mem_append_left _ (List.mem_append_right _ h9))
  subst hsz
  have hD := hD0.self (sz := s.heap.size)
  generalize hAe : va_A [(h0, .inr (10, [.ref xa1, .ref xa3, .ref xa15, .ref xa27, .ref xa28, .ref xa33, .ref xa38, .ref xa41, .ref xa45, .ref xa46, .ref xa47, .ref xa52, .ref xa54, .int 0, .ref xa55, .ref xa60, .ref xa62, .ref xa67, .int (-1)])), (xa28, .inr (0, [.ref xa29, .ref xa30, .ref xa31, .ref xa32, .int 5, .int 0, .int 0, .int 0, .int 0, .int 0])), (xa29, .inl (kJ, 96, .inr (.inl (fun _ => 0)))), (xa30, .inl (kI, 30, .inl (fun _ => 0))), (xa31, .inl (kI, 12, .inl (fun _ => 0))), (xa32, .inl (kI, 12, .inl (fun _ => 0))), (ou, .inl (kJ, 1, .inr (.inl fo)))] s.heap.size = A at hD ⊢
  have hA : ∀ q : Nat, s.heap.size ≤ q → A q := fun q h => by rw [← hAe]; exact Or.inr h
  have hS : va_S A s.heap s.heap [] := va_S.rf
  have hP : va_P (dC, dI) vwCl [(h0, .inr (10, [.ref xa1, .ref xa3, .ref xa15, .ref xa27, .ref xa28, .ref xa33, .ref xa38, .ref xa41, .ref xa45, .ref xa46, .ref xa47, .ref xa52, .ref xa54, .int 0, .ref xa55, .ref xa60, .ref xa62, .ref xa67, .int (-1)])), (xa28, .inr (0, [.ref xa29, .ref xa30, .ref xa31, .ref xa32, .int 5, .int 0, .int 0, .int 0, .int 0, .int 0])), (xa29, .inl (kJ, 96, .inr (.inl (fun _ => 0)))), (xa30, .inl (kI, 30, .inl (fun _ => 0))), (xa31, .inl (kI, 12, .inl (fun _ => 0))), (xa32, .inl (kI, 12, .inl (fun _ => 0))), (ou, .inl (kJ, 1, .inr (.inl fo)))] s.heap := hP
  have hl := lv_entry ([.ref h0, .int 17, .ref ou]) (n := 4) (Nat.le_of_ble_eq_true rfl)
  have hla : entryFrame m args0 4 = entryFrame m ([.ref h0, .int 17, .ref ou] : List Value).toArray 4 := by rw [hargs]
  rw [hla, lg_entry_eq]
  generalize (lg_sl ([.ref h0, .int 17, .ref ou]) ++ List.replicate (4 - (lg_sl ([.ref h0, .int 17, .ref ou])).length) Slot.unset).toArray = ls at hl ⊢
  have hl : lv_has ls 4 [(0, .ref h0), (1, .int 17), (2, .ref ou)] := hl
  refine lv_aload_n hx hb dL_count_0 rfl (lv_at hl 2 rfl) ?_
  refine lv_iconst (v := 0) hx hb dL_count_1 (by decide) ?_
  refine lv_aload_n hx hb dL_count_2 rfl (lv_at hl 0 rfl) ?_
  refine lv_iload_n hx hb dL_count_3 rfl (lv_at hl 1 rfl) ?_
  have hPc := hP.sub (ws' := [(h0, .inr (10, [.ref xa1, .ref xa3, .ref xa15, .ref xa27, .ref xa28, .ref xa33, .ref xa38, .ref xa41, .ref xa45, .ref xa46, .ref xa47, .ref xa52, .ref xa54, .int 0, .ref xa55, .ref xa60, .ref xa62, .ref xa67, .int (-1)])), (xa28, .inr (0, [.ref xa29, .ref xa30, .ref xa31, .ref xa32, .int 5, .int 0, .int 0, .int 0, .int 0, .int 0])), (xa29, .inl (kJ, 96, .inr (.inl (fun _ => 0)))), (xa30, .inl (kI, 30, .inl (fun _ => 0))), (xa31, .inl (kI, 12, .inl (fun _ => 0))), (xa32, .inl (kI, 12, .inl (fun _ => 0)))]) [0, 1, 2, 3, 4, 5] rfl
  have hDc := hD.sub (ws' := [(h0, .inr (10, [.ref xa1, .ref xa3, .ref xa15, .ref xa27, .ref xa28, .ref xa33, .ref xa38, .ref xa41, .ref xa45, .ref xa46, .ref xa47, .ref xa52, .ref xa54, .int 0, .ref xa55, .ref xa60, .ref xa62, .ref xa67, .int (-1)])), (xa28, .inr (0, [.ref xa29, .ref xa30, .ref xa31, .ref xa32, .int 5, .int 0, .int 0, .int 0, .int 0, .int 0])), (xa29, .inl (kJ, 96, .inr (.inl (fun _ => 0)))), (xa30, .inl (kI, 30, .inl (fun _ => 0))), (xa31, .inl (kI, 12, .inl (fun _ => 0))), (xa32, .inl (kI, 12, .inl (fun _ => 0)))]) [0, 1, 2, 3, 4, 5] (by decide) rfl
  have hFc := va_free (wc := [(h0, .inr (10, [.ref xa1, .ref xa3, .ref xa15, .ref xa27, .ref xa28, .ref xa33, .ref xa38, .ref xa41, .ref xa45, .ref xa46, .ref xa47, .ref xa52, .ref xa54, .int 0, .ref xa55, .ref xa60, .ref xa62, .ref xa67, .int (-1)])), (xa28, .inr (0, [.ref xa29, .ref xa30, .ref xa31, .ref xa32, .int 5, .int 0, .int 0, .int 0, .int 0, .int 0])), (xa29, .inl (kJ, 96, .inr (.inl (fun _ => 0)))), (xa30, .inl (kI, 30, .inl (fun _ => 0))), (xa31, .inl (kI, 12, .inl (fun _ => 0))), (xa32, .inl (kI, 12, .inl (fun _ => 0)))]) hD hS hA [0, 1, 2, 3, 4, 5] rfl
  refine va_calli (va_runV (As := [.int 17]) (rest := [.int 0, .ref ou]) ⟨hx, hb, hml, hown, hts⟩ (k10_count_17 l dC dI kB kI kJ kZ kC kS s.heap.size h0 xa1 xa3 xa15 xa27 xa28 xa33 xa38 xa41 xa45 xa46 xa47 xa52 xa54 xa55 xa60 xa62 xa67 xa29 xa30 xa31 xa32) (cwV 1 hts gL_count_X10_count rfl rfl rfl (by decide +kernel) ⟨Nat.le_of_ble_eq_true rfl, Nat.le_of_ble_eq_true rfl⟩) ⟨fun a U g mk q => by obtain ⟨q0, q1, qP, qE, qD⟩ := q; exact ⟨q0, q1, qP, kE_call qE, qD⟩, va_recv hK hP (ci := 10) (q0 := 0) rfl rfl, fun U hU hW => ⟨rfl, by rw [hU], by rw [hU]; exact hPc, kE_warm hW hE, hDc.weaken (fun _ _ _ _ => trivial)⟩⟩ rfl rfl hl.1 rfl (lv_room (Nat.le_of_ble_eq_true rfl)) dL_count_4 ⟨Nat.le_of_ble_eq_true rfl, Nat.le_of_ble_eq_true rfl⟩) hS (fun q _ h => hFc q h) hFc (fun r1 u t H1 locs ht hvm w2 hB hz1 hk1 hS => ?_)
  obtain ⟨hP1, hD1⟩ := hB
  rw [ht] at hP1
  try dsimp only at w2
  obtain ⟨hP, hD⟩ := va_join (wr := [(ou, .inl (kJ, 1, .inr (.inl fo)))]) (w1 := []) hP hD [0, 1, 2, 3, 4, 5] [6] rfl rfl (by decide) (by decide) hk1 hFc hP1 hD1
  generalize H1 = H at hP hS ⊢
  have hP : va_P (dC, dI) vwCl [(ou, .inl (kJ, 1, .inr (.inl fo)))] H := hP
  have hD : va_D A [(ou, .inl (kJ, 1, .inr (.inl fo)))] := hD
  refine W.widen (k := 0) (n := 0) (Nat.le_of_ble_eq_true rfl) (Nat.le_of_ble_eq_true rfl) ?_
  subst w2
  refine lv_i2l (v := 0) hx hb dL_count_7 (by decide) ?_
  refine va_last hx hb hK hP hD hS 0 2 rfl rfl (vp_in_nI (n := 0) (by decide) (by decide)) dL_count_8 (fun H locs hP hD hS => ?_)
  have hP : va_P (dC, dI) vwCl [(ou, .inl (kJ, 1, .inr (.inl (vp_updL fo 0 0))))] H := hP
  have hD : va_D A [(ou, .inl (kJ, 1, .inr (.inl (vp_updL fo 0 0))))] := hD
  refine lv_goto (tgt := 15) hx hb dL_count_9 (by decide) ?_
  refine lv_iconst (v := 0) hx hb dL_count_15 (by decide) ?_
  have hP9 := hP.sub (ws' := [(ou, .inl (kJ, 1, .inr (.inl (vp_updL fo 0 0))))]) [0] rfl
  have hD9 := hD.sub (ws' := [(ou, .inl (kJ, 1, .inr (.inl (vp_updL fo 0 0))))]) [0] (by decide) rfl
  exact W.iret (v := 0) hx hb hr (fun t ht hW => ⟨⟨0, (), rfl, rfl, vp_updL fo 0 0, rfl, by rw [ht]; exact hP9, hD9⟩, hS.F ht⟩) hS.2.2 dL_count_16
def rm_kL10_count_18 : Room := { frames := 1, cells := 0, slots := 0, locals := 21 }
set_option maxHeartbeats 4000000 in
set_option maxRecDepth 100000 in
theorem kL10_count_18 (l : Launch) (dC : Nat → ClassId) (dI : Nat → Nat → Nat) (kB kI kJ kZ kC kS : ClassId) (sz : Nat) (h0 : Nat) (xa1 : Nat) (xa3 : Nat) (xa15 : Nat) (xa27 : Nat) (xa28 : Nat) (xa33 : Nat) (xa38 : Nat) (xa41 : Nat) (xa45 : Nat) (xa46 : Nat) (xa47 : Nat) (xa52 : Nat) (xa54 : Nat) (xa55 : Nat) (xa60 : Nat) (xa62 : Nat) (xa67 : Nat) (xa29 : Nat) (xa30 : Nat) (xa31 : Nat) (xa32 : Nat) (ou : Nat) (fo : Nat → Int64) : Met l yL_count wsL_count rm_kL10_count_18 (va_Pc [.ref h0, .int 18, .ref ou] (fun U => U.heap.size = sz ∧ va_P (dC, dI) vwCl [(h0, .inr (10, [.ref xa1, .ref xa3, .ref xa15, .ref xa27, .ref xa28, .ref xa33, .ref xa38, .ref xa41, .ref xa45, .ref xa46, .ref xa47, .ref xa52, .ref xa54, .int 0, .ref xa55, .ref xa60, .ref xa62, .ref xa67, .int (-1)])), (xa28, .inr (0, [.ref xa29, .ref xa30, .ref xa31, .ref xa32, .int 5, .int 0, .int 0, .int 0, .int 0, .int 0])), (xa29, .inl (kJ, 96, .inr (.inl (fun _ => 0)))), (xa30, .inl (kI, 30, .inl (fun _ => 0))), (xa31, .inl (kI, 12, .inl (fun _ => 0))), (xa32, .inl (kI, 12, .inl (fun _ => 0))), (ou, .inl (kJ, 1, .inr (.inl fo)))] U.heap ∧ kE dC dI kB kI kJ kZ kC kS U ∧ va_D (fun _ => True) [(h0, .inr (10, [.ref xa1, .ref xa3, .ref xa15, .ref xa27, .ref xa28, .ref xa33, .ref xa38, .ref xa41, .ref xa45, .ref xa46, .ref xa47, .ref xa52, .ref xa54, .int 0, .ref xa55, .ref xa60, .ref xa62, .ref xa67, .int (-1)])), (xa28, .inr (0, [.ref xa29, .ref xa30, .ref xa31, .ref xa32, .int 5, .int 0, .int 0, .int 0, .int 0, .int 0])), (xa29, .inl (kJ, 96, .inr (.inl (fun _ => 0)))), (xa30, .inl (kI, 30, .inl (fun _ => 0))), (xa31, .inl (kI, 12, .inl (fun _ => 0))), (xa32, .inl (kI, 12, .inl (fun _ => 0))), (ou, .inl (kJ, 1, .inr (.inl fo)))])) (va_Qi (fun (r : Int32) (_ : Unit) => r = 0) (fun _ t => ∃ (g1 : Nat → Int64), g1 0 = 0 ∧ va_P (dC, dI) vwCl [(ou, .inl (kJ, 1, .inr (.inl g1)))] t.heap ∧ va_D (va_A [(h0, .inr (10, [.ref xa1, .ref xa3, .ref xa15, .ref xa27, .ref xa28, .ref xa33, .ref xa38, .ref xa41, .ref xa45, .ref xa46, .ref xa47, .ref xa52, .ref xa54, .int 0, .ref xa55, .ref xa60, .ref xa62, .ref xa67, .int (-1)])), (xa28, .inr (0, [.ref xa29, .ref xa30, .ref xa31, .ref xa32, .int 5, .int 0, .int 0, .int 0, .int 0, .int 0])), (xa29, .inl (kJ, 96, .inr (.inl (fun _ => 0)))), (xa30, .inl (kI, 30, .inl (fun _ => 0))), (xa31, .inl (kI, 12, .inl (fun _ => 0))), (xa32, .inl (kI, 12, .inl (fun _ => 0))), (ou, .inl (kJ, 1, .inr (.inl fo)))] sz) [(ou, .inl (kJ, 1, .inr (.inl g1)))]) (va_A [(h0, .inr (10, [.ref xa1, .ref xa3, .ref xa15, .ref xa27, .ref xa28, .ref xa33, .ref xa38, .ref xa41, .ref xa45, .ref xa46, .ref xa47, .ref xa52, .ref xa54, .int 0, .ref xa55, .ref xa60, .ref xa62, .ref xa67, .int (-1)])), (xa28, .inr (0, [.ref xa29, .ref xa30, .ref xa31, .ref xa32, .int 5, .int 0, .int 0, .int 0, .int 0, .int 0])), (xa29, .inl (kJ, 96, .inr (.inl (fun _ => 0)))), (xa30, .inl (kI, 30, .inl (fun _ => 0))), (xa31, .inl (kI, 12, .inl (fun _ => 0))), (xa32, .inl (kI, 12, .inl (fun _ => 0))), (ou, .inl (kJ, 1, .inr (.inl fo)))] sz)) 0 0 (va_A [(h0, .inr (10, [.ref xa1, .ref xa3, .ref xa15, .ref xa27, .ref xa28, .ref xa33, .ref xa38, .ref xa41, .ref xa45, .ref xa46, .ref xa47, .ref xa52, .ref xa54, .int 0, .ref xa55, .ref xa60, .ref xa62, .ref xa67, .int (-1)])), (xa28, .inr (0, [.ref xa29, .ref xa30, .ref xa31, .ref xa32, .int 5, .int 0, .int 0, .int 0, .int 0, .int 0])), (xa29, .inl (kJ, 96, .inr (.inl (fun _ => 0)))), (xa30, .inl (kI, 30, .inl (fun _ => 0))), (xa31, .inl (kI, 12, .inl (fun _ => 0))), (xa32, .inl (kI, 12, .inl (fun _ => 0))), (ou, .inl (kJ, 1, .inr (.inl fo)))] sz) := by
  refine va_MetW (cc := cL_count) (maxL := 4) (ret := (some .int)) (by decide) rfl ?_
  intro p e s m args0 below meth c s₁ B hml hv
  obtain ⟨hargs, hsz, hP, hE, hD0⟩ := hv
  have hx := B.exec
  have hb := B.bytes
  have hr := B.returns
  have hts := atoms_spec (ws := wsL_count) B.pre
  have hown : s.vm.findClass RL = some m.cls := findClass_of_methodNamed B.named
  have hlocks := B.notSynchronized
  have hK := hE.1
  have hin10 : ∀ w ∈ wsX100, w ∈ wsL_count := fun _ h9 => List.mem_cons_of_mem _ (List.mem_append_left _ (List.mem_append_left _ (List.mem_append_left _ (List.mem_append_left _ (List.mem_append_left _ (List.mem_append_left _ (List.mem_append_left _ (List.mem_append_left _ (List.mem_append_right _ h9)))))))))
  have hin0 : ∀ w ∈ wsX00, w ∈ wsL_count := fun _ h9 => List.mem_cons_of_mem _ (List.mem_append_left _ (List.mem_append_left _ (List.mem_append_left _ (List.mem_append_left _ (List.mem_append_left _ (List.mem_append_left _ (List.mem_append_left _ (List.mem_append_right _ h9))))))))
  have hin2 : ∀ w ∈ wsX20, w ∈ wsL_count := fun _ h9 => List.mem_cons_of_mem _ (List.mem_append_left _ (List.mem_append_left _ (List.mem_append_left _ (List.mem_append_left _ (List.mem_append_left _ (List.mem_append_left _ (List.mem_append_right _ h9)))))))
  have hin1 : ∀ w ∈ wsX10, w ∈ wsL_count := fun _ h9 => List.mem_cons_of_mem _ (List.mem_append_left _ (List.mem_append_left _ (List.mem_append_left _ (List.mem_append_left _ (List.mem_append_left _ (List.mem_append_right _ h9))))))
  have hin3 : ∀ w ∈ wsX30, w ∈ wsL_count := fun _ h9 => List.mem_cons_of_mem _ (List.mem_append_left _ (List.mem_append_left _ (List.mem_append_left _ (List.mem_append_left _ (List.mem_append_right _ h9)))))
  have hin8 : ∀ w ∈ wsX80, w ∈ wsL_count := fun _ h9 => List.mem_cons_of_mem _ (List.mem_append_left _ (List.mem_append_left _ (List.mem_append_left _ (List.mem_append_right _ h9))))
  have hin4 : ∀ w ∈ wsX40, w ∈ wsL_count := fun _ h9 => List.mem_cons_of_mem _ (List.mem_append_left _ (List.mem_append_left _ (List.mem_append_right _ h9)))
  have hin7 : ∀ w ∈ wsX70, w ∈ wsL_count := fun _ h9 => List.mem_cons_of_mem _ (List.mem_append_left _ (List.mem_append_right _ h9))
  subst hsz
  have hD := hD0.self (sz := s.heap.size)
  generalize hAe : va_A [(h0, .inr (10, [.ref xa1, .ref xa3, .ref xa15, .ref xa27, .ref xa28, .ref xa33, .ref xa38, .ref xa41, .ref xa45, .ref xa46, .ref xa47, .ref xa52, .ref xa54, .int 0, .ref xa55, .ref xa60, .ref xa62, .ref xa67, .int (-1)])), (xa28, .inr (0, [.ref xa29, .ref xa30, .ref xa31, .ref xa32, .int 5, .int 0, .int 0, .int 0, .int 0, .int 0])), (xa29, .inl (kJ, 96, .inr (.inl (fun _ => 0)))), (xa30, .inl (kI, 30, .inl (fun _ => 0))), (xa31, .inl (kI, 12, .inl (fun _ => 0))), (xa32, .inl (kI, 12, .inl (fun _ => 0))), (ou, .inl (kJ, 1, .inr (.inl fo)))] s.heap.size = A at hD ⊢
  have hA : ∀ q : Nat, s.heap.size ≤ q → A q := fun q h => by rw [← hAe]; exact Or.inr h
  have hS : va_S A s.heap s.heap [] := va_S.rf
  have hP : va_P (dC, dI) vwCl [(h0, .inr (10, [.ref xa1, .ref xa3, .ref xa15, .ref xa27, .ref xa28, .ref xa33, .ref xa38, .ref xa41, .ref xa45, .ref xa46, .ref xa47, .ref xa52, .ref xa54, .int 0, .ref xa55, .ref xa60, .ref xa62, .ref xa67, .int (-1)])), (xa28, .inr (0, [.ref xa29, .ref xa30, .ref xa31, .ref xa32, .int 5, .int 0, .int 0, .int 0, .int 0, .int 0])), (xa29, .inl (kJ, 96, .inr (.inl (fun _ => 0)))), (xa30, .inl (kI, 30, .inl (fun _ => 0))), (xa31, .inl (kI, 12, .inl (fun _ => 0))), (xa32, .inl (kI, 12, .inl (fun _ => 0))), (ou, .inl (kJ, 1, .inr (.inl fo)))] s.heap := hP
  have hl := lv_entry ([.ref h0, .int 18, .ref ou]) (n := 4) (Nat.le_of_ble_eq_true rfl)
  have hla : entryFrame m args0 4 = entryFrame m ([.ref h0, .int 18, .ref ou] : List Value).toArray 4 := by rw [hargs]
  rw [hla, lg_entry_eq]
  generalize (lg_sl ([.ref h0, .int 18, .ref ou]) ++ List.replicate (4 - (lg_sl ([.ref h0, .int 18, .ref ou])).length) Slot.unset).toArray = ls at hl ⊢
  have hl : lv_has ls 4 [(0, .ref h0), (1, .int 18), (2, .ref ou)] := hl
  refine lv_aload_n hx hb dL_count_0 rfl (lv_at hl 2 rfl) ?_
  refine lv_iconst (v := 0) hx hb dL_count_1 (by decide) ?_
  refine lv_aload_n hx hb dL_count_2 rfl (lv_at hl 0 rfl) ?_
  refine lv_iload_n hx hb dL_count_3 rfl (lv_at hl 1 rfl) ?_
  have hPc := hP.sub (ws' := [(h0, .inr (10, [.ref xa1, .ref xa3, .ref xa15, .ref xa27, .ref xa28, .ref xa33, .ref xa38, .ref xa41, .ref xa45, .ref xa46, .ref xa47, .ref xa52, .ref xa54, .int 0, .ref xa55, .ref xa60, .ref xa62, .ref xa67, .int (-1)])), (xa28, .inr (0, [.ref xa29, .ref xa30, .ref xa31, .ref xa32, .int 5, .int 0, .int 0, .int 0, .int 0, .int 0])), (xa29, .inl (kJ, 96, .inr (.inl (fun _ => 0)))), (xa30, .inl (kI, 30, .inl (fun _ => 0))), (xa31, .inl (kI, 12, .inl (fun _ => 0))), (xa32, .inl (kI, 12, .inl (fun _ => 0)))]) [0, 1, 2, 3, 4, 5] rfl
  have hDc := hD.sub (ws' := [(h0, .inr (10, [.ref xa1, .ref xa3, .ref xa15, .ref xa27, .ref xa28, .ref xa33, .ref xa38, .ref xa41, .ref xa45, .ref xa46, .ref xa47, .ref xa52, .ref xa54, .int 0, .ref xa55, .ref xa60, .ref xa62, .ref xa67, .int (-1)])), (xa28, .inr (0, [.ref xa29, .ref xa30, .ref xa31, .ref xa32, .int 5, .int 0, .int 0, .int 0, .int 0, .int 0])), (xa29, .inl (kJ, 96, .inr (.inl (fun _ => 0)))), (xa30, .inl (kI, 30, .inl (fun _ => 0))), (xa31, .inl (kI, 12, .inl (fun _ => 0))), (xa32, .inl (kI, 12, .inl (fun _ => 0)))]) [0, 1, 2, 3, 4, 5] (by decide) rfl
  have hFc := va_free (wc := [(h0, .inr (10, [.ref xa1, .ref xa3, .ref xa15, .ref xa27, .ref xa28, .ref xa33, .ref xa38, .ref xa41, .ref xa45, .ref xa46, .ref xa47, .ref xa52, .ref xa54, .int 0, .ref xa55, .ref xa60, .ref xa62, .ref xa67, .int (-1)])), (xa28, .inr (0, [.ref xa29, .ref xa30, .ref xa31, .ref xa32, .int 5, .int 0, .int 0, .int 0, .int 0, .int 0])), (xa29, .inl (kJ, 96, .inr (.inl (fun _ => 0)))), (xa30, .inl (kI, 30, .inl (fun _ => 0))), (xa31, .inl (kI, 12, .inl (fun _ => 0))), (xa32, .inl (kI, 12, .inl (fun _ => 0)))]) hD hS hA [0, 1, 2, 3, 4, 5] rfl
  refine va_calli (va_runV (As := [.int 18]) (rest := [.int 0, .ref ou]) ⟨hx, hb, hml, hown, hts⟩ (k10_count_18 l dC dI kB kI kJ kZ kC kS s.heap.size h0 xa1 xa3 xa15 xa27 xa28 xa33 xa38 xa41 xa45 xa46 xa47 xa52 xa54 xa55 xa60 xa62 xa67 xa29 xa30 xa31 xa32) (cwV 1 hts gL_count_X10_count rfl rfl rfl (by decide +kernel) ⟨Nat.le_of_ble_eq_true rfl, Nat.le_of_ble_eq_true rfl⟩) ⟨fun a U g mk q => by obtain ⟨q0, q1, qP, qE, qD⟩ := q; exact ⟨q0, q1, qP, kE_call qE, qD⟩, va_recv hK hP (ci := 10) (q0 := 0) rfl rfl, fun U hU hW => ⟨rfl, by rw [hU], by rw [hU]; exact hPc, kE_warm hW hE, hDc.weaken (fun _ _ _ _ => trivial)⟩⟩ rfl rfl hl.1 rfl (lv_room (Nat.le_of_ble_eq_true rfl)) dL_count_4 ⟨Nat.le_of_ble_eq_true rfl, Nat.le_of_ble_eq_true rfl⟩) hS (fun q _ h => hFc q h) hFc (fun r1 u t H1 locs ht hvm w2 hB hz1 hk1 hS => ?_)
  obtain ⟨hP1, hD1⟩ := hB
  rw [ht] at hP1
  try dsimp only at w2
  obtain ⟨hP, hD⟩ := va_join (wr := [(ou, .inl (kJ, 1, .inr (.inl fo)))]) (w1 := []) hP hD [0, 1, 2, 3, 4, 5] [6] rfl rfl (by decide) (by decide) hk1 hFc hP1 hD1
  generalize H1 = H at hP hS ⊢
  have hP : va_P (dC, dI) vwCl [(ou, .inl (kJ, 1, .inr (.inl fo)))] H := hP
  have hD : va_D A [(ou, .inl (kJ, 1, .inr (.inl fo)))] := hD
  refine W.widen (k := 0) (n := 0) (Nat.le_of_ble_eq_true rfl) (Nat.le_of_ble_eq_true rfl) ?_
  subst w2
  refine lv_i2l (v := 0) hx hb dL_count_7 (by decide) ?_
  refine va_last hx hb hK hP hD hS 0 2 rfl rfl (vp_in_nI (n := 0) (by decide) (by decide)) dL_count_8 (fun H locs hP hD hS => ?_)
  have hP : va_P (dC, dI) vwCl [(ou, .inl (kJ, 1, .inr (.inl (vp_updL fo 0 0))))] H := hP
  have hD : va_D A [(ou, .inl (kJ, 1, .inr (.inl (vp_updL fo 0 0))))] := hD
  refine lv_goto (tgt := 15) hx hb dL_count_9 (by decide) ?_
  refine lv_iconst (v := 0) hx hb dL_count_15 (by decide) ?_
  have hP9 := hP.sub (ws' := [(ou, .inl (kJ, 1, .inr (.inl (vp_updL fo 0 0))))]) [0] rfl
  have hD9 := hD.sub (ws' := [(ou, .inl (kJ, 1, .inr (.inl (vp_updL fo 0 0))))]) [0] (by decide) rfl
  exact W.iret (v := 0) hx hb hr (fun t ht hW => ⟨⟨0, (), rfl, rfl, vp_updL fo 0 0, rfl, by rw [ht]; exact hP9, hD9⟩, hS.F ht⟩) hS.2.2 dL_count_16
def rm_kL10_count_19 : Room := { frames := 1, cells := 0, slots := 0, locals := 21 }
set_option maxHeartbeats 4000000 in
set_option maxRecDepth 100000 in
theorem kL10_count_19 (l : Launch) (dC : Nat → ClassId) (dI : Nat → Nat → Nat) (kB kI kJ kZ kC kS : ClassId) (sz : Nat) (h0 : Nat) (xa1 : Nat) (xa3 : Nat) (xa15 : Nat) (xa27 : Nat) (xa28 : Nat) (xa33 : Nat) (xa38 : Nat) (xa41 : Nat) (xa45 : Nat) (xa46 : Nat) (xa47 : Nat) (xa52 : Nat) (xa54 : Nat) (xa55 : Nat) (xa60 : Nat) (xa62 : Nat) (xa67 : Nat) (xa29 : Nat) (xa30 : Nat) (xa31 : Nat) (xa32 : Nat) (ou : Nat) (fo : Nat → Int64) : Met l yL_count wsL_count rm_kL10_count_19 (va_Pc [.ref h0, .int 19, .ref ou] (fun U => U.heap.size = sz ∧ va_P (dC, dI) vwCl [(h0, .inr (10, [.ref xa1, .ref xa3, .ref xa15, .ref xa27, .ref xa28, .ref xa33, .ref xa38, .ref xa41, .ref xa45, .ref xa46, .ref xa47, .ref xa52, .ref xa54, .int 0, .ref xa55, .ref xa60, .ref xa62, .ref xa67, .int (-1)])), (xa28, .inr (0, [.ref xa29, .ref xa30, .ref xa31, .ref xa32, .int 5, .int 0, .int 0, .int 0, .int 0, .int 0])), (xa29, .inl (kJ, 96, .inr (.inl (fun _ => 0)))), (xa30, .inl (kI, 30, .inl (fun _ => 0))), (xa31, .inl (kI, 12, .inl (fun _ => 0))), (xa32, .inl (kI, 12, .inl (fun _ => 0))), (ou, .inl (kJ, 1, .inr (.inl fo)))] U.heap ∧ kE dC dI kB kI kJ kZ kC kS U ∧ va_D (fun _ => True) [(h0, .inr (10, [.ref xa1, .ref xa3, .ref xa15, .ref xa27, .ref xa28, .ref xa33, .ref xa38, .ref xa41, .ref xa45, .ref xa46, .ref xa47, .ref xa52, .ref xa54, .int 0, .ref xa55, .ref xa60, .ref xa62, .ref xa67, .int (-1)])), (xa28, .inr (0, [.ref xa29, .ref xa30, .ref xa31, .ref xa32, .int 5, .int 0, .int 0, .int 0, .int 0, .int 0])), (xa29, .inl (kJ, 96, .inr (.inl (fun _ => 0)))), (xa30, .inl (kI, 30, .inl (fun _ => 0))), (xa31, .inl (kI, 12, .inl (fun _ => 0))), (xa32, .inl (kI, 12, .inl (fun _ => 0))), (ou, .inl (kJ, 1, .inr (.inl fo)))])) (va_Qi (fun (r : Int32) (_ : Unit) => r = 0) (fun _ t => ∃ (g1 : Nat → Int64), g1 0 = 0 ∧ va_P (dC, dI) vwCl [(ou, .inl (kJ, 1, .inr (.inl g1)))] t.heap ∧ va_D (va_A [(h0, .inr (10, [.ref xa1, .ref xa3, .ref xa15, .ref xa27, .ref xa28, .ref xa33, .ref xa38, .ref xa41, .ref xa45, .ref xa46, .ref xa47, .ref xa52, .ref xa54, .int 0, .ref xa55, .ref xa60, .ref xa62, .ref xa67, .int (-1)])), (xa28, .inr (0, [.ref xa29, .ref xa30, .ref xa31, .ref xa32, .int 5, .int 0, .int 0, .int 0, .int 0, .int 0])), (xa29, .inl (kJ, 96, .inr (.inl (fun _ => 0)))), (xa30, .inl (kI, 30, .inl (fun _ => 0))), (xa31, .inl (kI, 12, .inl (fun _ => 0))), (xa32, .inl (kI, 12, .inl (fun _ => 0))), (ou, .inl (kJ, 1, .inr (.inl fo)))] sz) [(ou, .inl (kJ, 1, .inr (.inl g1)))]) (va_A [(h0, .inr (10, [.ref xa1, .ref xa3, .ref xa15, .ref xa27, .ref xa28, .ref xa33, .ref xa38, .ref xa41, .ref xa45, .ref xa46, .ref xa47, .ref xa52, .ref xa54, .int 0, .ref xa55, .ref xa60, .ref xa62, .ref xa67, .int (-1)])), (xa28, .inr (0, [.ref xa29, .ref xa30, .ref xa31, .ref xa32, .int 5, .int 0, .int 0, .int 0, .int 0, .int 0])), (xa29, .inl (kJ, 96, .inr (.inl (fun _ => 0)))), (xa30, .inl (kI, 30, .inl (fun _ => 0))), (xa31, .inl (kI, 12, .inl (fun _ => 0))), (xa32, .inl (kI, 12, .inl (fun _ => 0))), (ou, .inl (kJ, 1, .inr (.inl fo)))] sz)) 0 0 (va_A [(h0, .inr (10, [.ref xa1, .ref xa3, .ref xa15, .ref xa27, .ref xa28, .ref xa33, .ref xa38, .ref xa41, .ref xa45, .ref xa46, .ref xa47, .ref xa52, .ref xa54, .int 0, .ref xa55, .ref xa60, .ref xa62, .ref xa67, .int (-1)])), (xa28, .inr (0, [.ref xa29, .ref xa30, .ref xa31, .ref xa32, .int 5, .int 0, .int 0, .int 0, .int 0, .int 0])), (xa29, .inl (kJ, 96, .inr (.inl (fun _ => 0)))), (xa30, .inl (kI, 30, .inl (fun _ => 0))), (xa31, .inl (kI, 12, .inl (fun _ => 0))), (xa32, .inl (kI, 12, .inl (fun _ => 0))), (ou, .inl (kJ, 1, .inr (.inl fo)))] sz) := by
  refine va_MetW (cc := cL_count) (maxL := 4) (ret := (some .int)) (by decide) rfl ?_
  intro p e s m args0 below meth c s₁ B hml hv
  obtain ⟨hargs, hsz, hP, hE, hD0⟩ := hv
  have hx := B.exec
  have hb := B.bytes
  have hr := B.returns
  have hts := atoms_spec (ws := wsL_count) B.pre
  have hown : s.vm.findClass RL = some m.cls := findClass_of_methodNamed B.named
  have hlocks := B.notSynchronized
  have hK := hE.1
  have hin10 : ∀ w ∈ wsX100, w ∈ wsL_count := fun _ h9 => List.mem_cons_of_mem _ (List.mem_append_left _ (List.mem_append_left _ (List.mem_append_left _ (List.mem_append_left _ (List.mem_append_left _ (List.mem_append_left _ (List.mem_append_left _ (List.mem_append_left _ (List.mem_append_right _ h9)))))))))
  have hin0 : ∀ w ∈ wsX00, w ∈ wsL_count := fun _ h9 => List.mem_cons_of_mem _ (List.mem_append_left _ (List.mem_append_left _ (List.mem_append_left _ (List.mem_append_left _ (List.mem_append_left _ (List.mem_append_left _ (List.mem_append_left _ (List.mem_append_right _ h9))))))))
  have hin2 : ∀ w ∈ wsX20, w ∈ wsL_count := fun _ h9 => List.mem_cons_of_mem _ (List.mem_append_left _ (List.mem_append_left _ (List.mem_append_left _ (List.mem_append_left _ (List.mem_append_left _ (List.mem_append_left _ (List.mem_append_right _ h9)))))))
  have hin1 : ∀ w ∈ wsX10, w ∈ wsL_count := fun _ h9 => List.mem_cons_of_mem _ (List.mem_append_left _ (List.mem_append_left _ (List.mem_append_left _ (List.mem_append_left _ (List.mem_append_left _ (List.mem_append_right _ h9))))))
  have hin3 : ∀ w ∈ wsX30, w ∈ wsL_count := fun _ h9 => List.mem_cons_of_mem _ (List.mem_append_left _ (List.mem_append_left _ (List.mem_append_left _ (List.mem_append_left _ (List.mem_append_right _ h9)))))
  have hin8 : ∀ w ∈ wsX80, w ∈ wsL_count := fun _ h9 => List.mem_cons_of_mem _ (List.mem_append_left _ (List.mem_append_left _ (List.mem_append_left _ (List.mem_append_right _ h9))))
  have hin4 : ∀ w ∈ wsX40, w ∈ wsL_count := fun _ h9 => List.mem_cons_of_mem _ (List.mem_append_left _ (List.mem_append_left _ (List.mem_append_right _ h9)))
  have hin7 : ∀ w ∈ wsX70, w ∈ wsL_count := fun _ h9 => List.mem_cons_of_mem _ (List.mem_append_left _ (List.mem_append_right _ h9))
  subst hsz
  have hD := hD0.self (sz := s.heap.size)
  generalize hAe : va_A [(h0, .inr (10, [.ref xa1, .ref xa3, .ref xa15, .ref xa27, .ref xa28, .ref xa33, .ref xa38, .ref xa41, .ref xa45, .ref xa46, .ref xa47, .ref xa52, .ref xa54, .int 0, .ref xa55, .ref xa60, .ref xa62, .ref xa67, .int (-1)])), (xa28, .inr (0, [.ref xa29, .ref xa30, .ref xa31, .ref xa32, .int 5, .int 0, .int 0, .int 0, .int 0, .int 0])), (xa29, .inl (kJ, 96, .inr (.inl (fun _ => 0)))), (xa30, .inl (kI, 30, .inl (fun _ => 0))), (xa31, .inl (kI, 12, .inl (fun _ => 0))), (xa32, .inl (kI, 12, .inl (fun _ => 0))), (ou, .inl (kJ, 1, .inr (.inl fo)))] s.heap.size = A at hD ⊢
  have hA : ∀ q : Nat, s.heap.size ≤ q → A q := fun q h => by rw [← hAe]; exact Or.inr h
  have hS : va_S A s.heap s.heap [] := va_S.rf
  have hP : va_P (dC, dI) vwCl [(h0, .inr (10, [.ref xa1, .ref xa3, .ref xa15, .ref xa27, .ref xa28, .ref xa33, .ref xa38, .ref xa41, .ref xa45, .ref xa46, .ref xa47, .ref xa52, .ref xa54, .int 0, .ref xa55, .ref xa60, .ref xa62, .ref xa67, .int (-1)])), (xa28, .inr (0, [.ref xa29, .ref xa30, .ref xa31, .ref xa32, .int 5, .int 0, .int 0, .int 0, .int 0, .int 0])), (xa29, .inl (kJ, 96, .inr (.inl (fun _ => 0)))), (xa30, .inl (kI, 30, .inl (fun _ => 0))), (xa31, .inl (kI, 12, .inl (fun _ => 0))), (xa32, .inl (kI, 12, .inl (fun _ => 0))), (ou, .inl (kJ, 1, .inr (.inl fo)))] s.heap := hP
  have hl := lv_entry ([.ref h0, .int 19, .ref ou]) (n := 4) (Nat.le_of_ble_eq_true rfl)
  have hla : entryFrame m args0 4 = entryFrame m ([.ref h0, .int 19, .ref ou] : List Value).toArray 4 := by rw [hargs]
  rw [hla, lg_entry_eq]
  generalize (lg_sl ([.ref h0, .int 19, .ref ou]) ++ List.replicate (4 - (lg_sl ([.ref h0, .int 19, .ref ou])).length) Slot.unset).toArray = ls at hl ⊢
  have hl : lv_has ls 4 [(0, .ref h0), (1, .int 19), (2, .ref ou)] := hl
  refine lv_aload_n hx hb dL_count_0 rfl (lv_at hl 2 rfl) ?_
  refine lv_iconst (v := 0) hx hb dL_count_1 (by decide) ?_
  refine lv_aload_n hx hb dL_count_2 rfl (lv_at hl 0 rfl) ?_
  refine lv_iload_n hx hb dL_count_3 rfl (lv_at hl 1 rfl) ?_
  have hPc := hP.sub (ws' := [(h0, .inr (10, [.ref xa1, .ref xa3, .ref xa15, .ref xa27, .ref xa28, .ref xa33, .ref xa38, .ref xa41, .ref xa45, .ref xa46, .ref xa47, .ref xa52, .ref xa54, .int 0, .ref xa55, .ref xa60, .ref xa62, .ref xa67, .int (-1)])), (xa28, .inr (0, [.ref xa29, .ref xa30, .ref xa31, .ref xa32, .int 5, .int 0, .int 0, .int 0, .int 0, .int 0])), (xa29, .inl (kJ, 96, .inr (.inl (fun _ => 0)))), (xa30, .inl (kI, 30, .inl (fun _ => 0))), (xa31, .inl (kI, 12, .inl (fun _ => 0))), (xa32, .inl (kI, 12, .inl (fun _ => 0)))]) [0, 1, 2, 3, 4, 5] rfl
  have hDc := hD.sub (ws' := [(h0, .inr (10, [.ref xa1, .ref xa3, .ref xa15, .ref xa27, .ref xa28, .ref xa33, .ref xa38, .ref xa41, .ref xa45, .ref xa46, .ref xa47, .ref xa52, .ref xa54, .int 0, .ref xa55, .ref xa60, .ref xa62, .ref xa67, .int (-1)])), (xa28, .inr (0, [.ref xa29, .ref xa30, .ref xa31, .ref xa32, .int 5, .int 0, .int 0, .int 0, .int 0, .int 0])), (xa29, .inl (kJ, 96, .inr (.inl (fun _ => 0)))), (xa30, .inl (kI, 30, .inl (fun _ => 0))), (xa31, .inl (kI, 12, .inl (fun _ => 0))), (xa32, .inl (kI, 12, .inl (fun _ => 0)))]) [0, 1, 2, 3, 4, 5] (by decide) rfl
  have hFc := va_free (wc := [(h0, .inr (10, [.ref xa1, .ref xa3, .ref xa15, .ref xa27, .ref xa28, .ref xa33, .ref xa38, .ref xa41, .ref xa45, .ref xa46, .ref xa47, .ref xa52, .ref xa54, .int 0, .ref xa55, .ref xa60, .ref xa62, .ref xa67, .int (-1)])), (xa28, .inr (0, [.ref xa29, .ref xa30, .ref xa31, .ref xa32, .int 5, .int 0, .int 0, .int 0, .int 0, .int 0])), (xa29, .inl (kJ, 96, .inr (.inl (fun _ => 0)))), (xa30, .inl (kI, 30, .inl (fun _ => 0))), (xa31, .inl (kI, 12, .inl (fun _ => 0))), (xa32, .inl (kI, 12, .inl (fun _ => 0)))]) hD hS hA [0, 1, 2, 3, 4, 5] rfl
  refine va_calli (va_runV (As := [.int 19]) (rest := [.int 0, .ref ou]) ⟨hx, hb, hml, hown, hts⟩ (k10_count_19 l dC dI kB kI kJ kZ kC kS s.heap.size h0 xa1 xa3 xa15 xa27 xa28 xa33 xa38 xa41 xa45 xa46 xa47 xa52 xa54 xa55 xa60 xa62 xa67 xa29 xa30 xa31 xa32) (cwV 1 hts gL_count_X10_count rfl rfl rfl (by decide +kernel) ⟨Nat.le_of_ble_eq_true rfl, Nat.le_of_ble_eq_true rfl⟩) ⟨fun a U g mk q => by obtain ⟨q0, q1, qP, qE, qD⟩ := q; exact ⟨q0, q1, qP, kE_call qE, qD⟩, va_recv hK hP (ci := 10) (q0 := 0) rfl rfl, fun U hU hW => ⟨rfl, by rw [hU], by rw [hU]; exact hPc, kE_warm hW hE, hDc.weaken (fun _ _ _ _ => trivial)⟩⟩ rfl rfl hl.1 rfl (lv_room (Nat.le_of_ble_eq_true rfl)) dL_count_4 ⟨Nat.le_of_ble_eq_true rfl, Nat.le_of_ble_eq_true rfl⟩) hS (fun q _ h => hFc q h) hFc (fun r1 u t H1 locs ht hvm w2 hB hz1 hk1 hS => ?_)
  obtain ⟨hP1, hD1⟩ := hB
  rw [ht] at hP1
  try dsimp only at w2
  obtain ⟨hP, hD⟩ := va_join (wr := [(ou, .inl (kJ, 1, .inr (.inl fo)))]) (w1 := []) hP hD [0, 1, 2, 3, 4, 5] [6] rfl rfl (by decide) (by decide) hk1 hFc hP1 hD1
  generalize H1 = H at hP hS ⊢
  have hP : va_P (dC, dI) vwCl [(ou, .inl (kJ, 1, .inr (.inl fo)))] H := hP
  have hD : va_D A [(ou, .inl (kJ, 1, .inr (.inl fo)))] := hD
  refine W.widen (k := 0) (n := 0) (Nat.le_of_ble_eq_true rfl) (Nat.le_of_ble_eq_true rfl) ?_
  subst w2
  refine lv_i2l (v := 0) hx hb dL_count_7 (by decide) ?_
  refine va_last hx hb hK hP hD hS 0 2 rfl rfl (vp_in_nI (n := 0) (by decide) (by decide)) dL_count_8 (fun H locs hP hD hS => ?_)
  have hP : va_P (dC, dI) vwCl [(ou, .inl (kJ, 1, .inr (.inl (vp_updL fo 0 0))))] H := hP
  have hD : va_D A [(ou, .inl (kJ, 1, .inr (.inl (vp_updL fo 0 0))))] := hD
  refine lv_goto (tgt := 15) hx hb dL_count_9 (by decide) ?_
  refine lv_iconst (v := 0) hx hb dL_count_15 (by decide) ?_
  have hP9 := hP.sub (ws' := [(ou, .inl (kJ, 1, .inr (.inl (vp_updL fo 0 0))))]) [0] rfl
  have hD9 := hD.sub (ws' := [(ou, .inl (kJ, 1, .inr (.inl (vp_updL fo 0 0))))]) [0] (by decide) rfl
  exact W.iret (v := 0) hx hb hr (fun t ht hW => ⟨⟨0, (), rfl, rfl, vp_updL fo 0 0, rfl, by rw [ht]; exact hP9, hD9⟩, hS.F ht⟩) hS.2.2 dL_count_16
def rm_kL10_count_20 : Room := { frames := 1, cells := 0, slots := 0, locals := 21 }
set_option maxHeartbeats 4000000 in
set_option maxRecDepth 100000 in
theorem kL10_count_20 (l : Launch) (dC : Nat → ClassId) (dI : Nat → Nat → Nat) (kB kI kJ kZ kC kS : ClassId) (sz : Nat) (h0 : Nat) (xa1 : Nat) (xa3 : Nat) (xa15 : Nat) (xa27 : Nat) (xa28 : Nat) (xa33 : Nat) (xa38 : Nat) (xa41 : Nat) (xa45 : Nat) (xa46 : Nat) (xa47 : Nat) (xa52 : Nat) (xa54 : Nat) (xa55 : Nat) (xa60 : Nat) (xa62 : Nat) (xa67 : Nat) (xa29 : Nat) (xa30 : Nat) (xa31 : Nat) (xa32 : Nat) (ou : Nat) (fo : Nat → Int64) : Met l yL_count wsL_count rm_kL10_count_20 (va_Pc [.ref h0, .int 20, .ref ou] (fun U => U.heap.size = sz ∧ va_P (dC, dI) vwCl [(h0, .inr (10, [.ref xa1, .ref xa3, .ref xa15, .ref xa27, .ref xa28, .ref xa33, .ref xa38, .ref xa41, .ref xa45, .ref xa46, .ref xa47, .ref xa52, .ref xa54, .int 0, .ref xa55, .ref xa60, .ref xa62, .ref xa67, .int (-1)])), (xa28, .inr (0, [.ref xa29, .ref xa30, .ref xa31, .ref xa32, .int 5, .int 0, .int 0, .int 0, .int 0, .int 0])), (xa29, .inl (kJ, 96, .inr (.inl (fun _ => 0)))), (xa30, .inl (kI, 30, .inl (fun _ => 0))), (xa31, .inl (kI, 12, .inl (fun _ => 0))), (xa32, .inl (kI, 12, .inl (fun _ => 0))), (ou, .inl (kJ, 1, .inr (.inl fo)))] U.heap ∧ kE dC dI kB kI kJ kZ kC kS U ∧ va_D (fun _ => True) [(h0, .inr (10, [.ref xa1, .ref xa3, .ref xa15, .ref xa27, .ref xa28, .ref xa33, .ref xa38, .ref xa41, .ref xa45, .ref xa46, .ref xa47, .ref xa52, .ref xa54, .int 0, .ref xa55, .ref xa60, .ref xa62, .ref xa67, .int (-1)])), (xa28, .inr (0, [.ref xa29, .ref xa30, .ref xa31, .ref xa32, .int 5, .int 0, .int 0, .int 0, .int 0, .int 0])), (xa29, .inl (kJ, 96, .inr (.inl (fun _ => 0)))), (xa30, .inl (kI, 30, .inl (fun _ => 0))), (xa31, .inl (kI, 12, .inl (fun _ => 0))), (xa32, .inl (kI, 12, .inl (fun _ => 0))), (ou, .inl (kJ, 1, .inr (.inl fo)))])) (va_Qi (fun (r : Int32) (_ : Unit) => r = 0) (fun _ t => ∃ (g1 : Nat → Int64), g1 0 = 0 ∧ va_P (dC, dI) vwCl [(ou, .inl (kJ, 1, .inr (.inl g1)))] t.heap ∧ va_D (va_A [(h0, .inr (10, [.ref xa1, .ref xa3, .ref xa15, .ref xa27, .ref xa28, .ref xa33, .ref xa38, .ref xa41, .ref xa45, .ref xa46, .ref xa47, .ref xa52, .ref xa54, .int 0, .ref xa55, .ref xa60, .ref xa62, .ref xa67, .int (-1)])), (xa28, .inr (0, [.ref xa29, .ref xa30, .ref xa31, .ref xa32, .int 5, .int 0, .int 0, .int 0, .int 0, .int 0])), (xa29, .inl (kJ, 96, .inr (.inl (fun _ => 0)))), (xa30, .inl (kI, 30, .inl (fun _ => 0))), (xa31, .inl (kI, 12, .inl (fun _ => 0))), (xa32, .inl (kI, 12, .inl (fun _ => 0))), (ou, .inl (kJ, 1, .inr (.inl fo)))] sz) [(ou, .inl (kJ, 1, .inr (.inl g1)))]) (va_A [(h0, .inr (10, [.ref xa1, .ref xa3, .ref xa15, .ref xa27, .ref xa28, .ref xa33, .ref xa38, .ref xa41, .ref xa45, .ref xa46, .ref xa47, .ref xa52, .ref xa54, .int 0, .ref xa55, .ref xa60, .ref xa62, .ref xa67, .int (-1)])), (xa28, .inr (0, [.ref xa29, .ref xa30, .ref xa31, .ref xa32, .int 5, .int 0, .int 0, .int 0, .int 0, .int 0])), (xa29, .inl (kJ, 96, .inr (.inl (fun _ => 0)))), (xa30, .inl (kI, 30, .inl (fun _ => 0))), (xa31, .inl (kI, 12, .inl (fun _ => 0))), (xa32, .inl (kI, 12, .inl (fun _ => 0))), (ou, .inl (kJ, 1, .inr (.inl fo)))] sz)) 0 0 (va_A [(h0, .inr (10, [.ref xa1, .ref xa3, .ref xa15, .ref xa27, .ref xa28, .ref xa33, .ref xa38, .ref xa41, .ref xa45, .ref xa46, .ref xa47, .ref xa52, .ref xa54, .int 0, .ref xa55, .ref xa60, .ref xa62, .ref xa67, .int (-1)])), (xa28, .inr (0, [.ref xa29, .ref xa30, .ref xa31, .ref xa32, .int 5, .int 0, .int 0, .int 0, .int 0, .int 0])), (xa29, .inl (kJ, 96, .inr (.inl (fun _ => 0)))), (xa30, .inl (kI, 30, .inl (fun _ => 0))), (xa31, .inl (kI, 12, .inl (fun _ => 0))), (xa32, .inl (kI, 12, .inl (fun _ => 0))), (ou, .inl (kJ, 1, .inr (.inl fo)))] sz) := by
  refine va_MetW (cc := cL_count) (maxL := 4) (ret := (some .int)) (by decide) rfl ?_
  intro p e s m args0 below meth c s₁ B hml hv
  obtain ⟨hargs, hsz, hP, hE, hD0⟩ := hv
  have hx := B.exec
  have hb := B.bytes
  have hr := B.returns
  have hts := atoms_spec (ws := wsL_count) B.pre
  have hown : s.vm.findClass RL = some m.cls := findClass_of_methodNamed B.named
  have hlocks := B.notSynchronized
  have hK := hE.1
  have hin10 : ∀ w ∈ wsX100, w ∈ wsL_count := fun _ h9 => List.mem_cons_of_mem _ (List.mem_append_left _ (List.mem_append_left _ (List.mem_append_left _ (List.mem_append_left _ (List.mem_append_left _ (List.mem_append_left _ (List.mem_append_left _ (List.mem_append_left _ (List.mem_append_right _ h9)))))))))
  have hin0 : ∀ w ∈ wsX00, w ∈ wsL_count := fun _ h9 => List.mem_cons_of_mem _ (List.mem_append_left _ (List.mem_append_left _ (List.mem_append_left _ (List.mem_append_left _ (List.mem_append_left _ (List.mem_append_left _ (List.mem_append_left _ (List.mem_append_right _ h9))))))))
  have hin2 : ∀ w ∈ wsX20, w ∈ wsL_count := fun _ h9 => List.mem_cons_of_mem _ (List.mem_append_left _ (List.mem_append_left _ (List.mem_append_left _ (List.mem_append_left _ (List.mem_append_left _ (List.mem_append_left _ (List.mem_append_right _ h9)))))))
  have hin1 : ∀ w ∈ wsX10, w ∈ wsL_count := fun _ h9 => List.mem_cons_of_mem _ (List.mem_append_left _ (List.mem_append_left _ (List.mem_append_left _ (List.mem_append_left _ (List.mem_append_left _ (List.mem_append_right _ h9))))))
  have hin3 : ∀ w ∈ wsX30, w ∈ wsL_count := fun _ h9 => List.mem_cons_of_mem _ (List.mem_append_left _ (List.mem_append_left _ (List.mem_append_left _ (List.mem_append_left _ (List.mem_append_right _ h9)))))
  have hin8 : ∀ w ∈ wsX80, w ∈ wsL_count := fun _ h9 => List.mem_cons_of_mem _ (List.mem_append_left _ (List.mem_append_left _ (List.mem_append_left _ (List.mem_append_right _ h9))))
  have hin4 : ∀ w ∈ wsX40, w ∈ wsL_count := fun _ h9 => List.mem_cons_of_mem _ (List.mem_append_left _ (List.mem_append_left _ (List.mem_append_right _ h9)))
  have hin7 : ∀ w ∈ wsX70, w ∈ wsL_count := fun _ h9 => List.mem_cons_of_mem _ (List.mem_append_left _ (List.mem_append_right _ h9))
  subst hsz
  have hD := hD0.self (sz := s.heap.size)
  generalize hAe : va_A [(h0, .inr (10, [.ref xa1, .ref xa3, .ref xa15, .ref xa27, .ref xa28, .ref xa33, .ref xa38, .ref xa41, .ref xa45, .ref xa46, .ref xa47, .ref xa52, .ref xa54, .int 0, .ref xa55, .ref xa60, .ref xa62, .ref xa67, .int (-1)])), (xa28, .inr (0, [.ref xa29, .ref xa30, .ref xa31, .ref xa32, .int 5, .int 0, .int 0, .int 0, .int 0, .int 0])), (xa29, .inl (kJ, 96, .inr (.inl (fun _ => 0)))), (xa30, .inl (kI, 30, .inl (fun _ => 0))), (xa31, .inl (kI, 12, .inl (fun _ => 0))), (xa32, .inl (kI, 12, .inl (fun _ => 0))), (ou, .inl (kJ, 1, .inr (.inl fo)))] s.heap.size = A at hD ⊢
  have hA : ∀ q : Nat, s.heap.size ≤ q → A q := fun q h => by rw [← hAe]; exact Or.inr h
  have hS : va_S A s.heap s.heap [] := va_S.rf
  have hP : va_P (dC, dI) vwCl [(h0, .inr (10, [.ref xa1, .ref xa3, .ref xa15, .ref xa27, .ref xa28, .ref xa33, .ref xa38, .ref xa41, .ref xa45, .ref xa46, .ref xa47, .ref xa52, .ref xa54, .int 0, .ref xa55, .ref xa60, .ref xa62, .ref xa67, .int (-1)])), (xa28, .inr (0, [.ref xa29, .ref xa30, .ref xa31, .ref xa32, .int 5, .int 0, .int 0, .int 0, .int 0, .int 0])), (xa29, .inl (kJ, 96, .inr (.inl (fun _ => 0)))), (xa30, .inl (kI, 30, .inl (fun _ => 0))), (xa31, .inl (kI, 12, .inl (fun _ => 0))), (xa32, .inl (kI, 12, .inl (fun _ => 0))), (ou, .inl (kJ, 1, .inr (.inl fo)))] s.heap := hP
  have hl := lv_entry ([.ref h0, .int 20, .ref ou]) (n := 4) (Nat.le_of_ble_eq_true rfl)
  have hla : entryFrame m args0 4 = entryFrame m ([.ref h0, .int 20, .ref ou] : List Value).toArray 4 := by rw [hargs]
  rw [hla, lg_entry_eq]
  generalize (lg_sl ([.ref h0, .int 20, .ref ou]) ++ List.replicate (4 - (lg_sl ([.ref h0, .int 20, .ref ou])).length) Slot.unset).toArray = ls at hl ⊢
  have hl : lv_has ls 4 [(0, .ref h0), (1, .int 20), (2, .ref ou)] := hl
  refine lv_aload_n hx hb dL_count_0 rfl (lv_at hl 2 rfl) ?_
  refine lv_iconst (v := 0) hx hb dL_count_1 (by decide) ?_
  refine lv_aload_n hx hb dL_count_2 rfl (lv_at hl 0 rfl) ?_
  refine lv_iload_n hx hb dL_count_3 rfl (lv_at hl 1 rfl) ?_
  have hPc := hP.sub (ws' := [(h0, .inr (10, [.ref xa1, .ref xa3, .ref xa15, .ref xa27, .ref xa28, .ref xa33, .ref xa38, .ref xa41, .ref xa45, .ref xa46, .ref xa47, .ref xa52, .ref xa54, .int 0, .ref xa55, .ref xa60, .ref xa62, .ref xa67, .int (-1)])), (xa28, .inr (0, [.ref xa29, .ref xa30, .ref xa31, .ref xa32, .int 5, .int 0, .int 0, .int 0, .int 0, .int 0])), (xa29, .inl (kJ, 96, .inr (.inl (fun _ => 0)))), (xa30, .inl (kI, 30, .inl (fun _ => 0))), (xa31, .inl (kI, 12, .inl (fun _ => 0))), (xa32, .inl (kI, 12, .inl (fun _ => 0)))]) [0, 1, 2, 3, 4, 5] rfl
  have hDc := hD.sub (ws' := [(h0, .inr (10, [.ref xa1, .ref xa3, .ref xa15, .ref xa27, .ref xa28, .ref xa33, .ref xa38, .ref xa41, .ref xa45, .ref xa46, .ref xa47, .ref xa52, .ref xa54, .int 0, .ref xa55, .ref xa60, .ref xa62, .ref xa67, .int (-1)])), (xa28, .inr (0, [.ref xa29, .ref xa30, .ref xa31, .ref xa32, .int 5, .int 0, .int 0, .int 0, .int 0, .int 0])), (xa29, .inl (kJ, 96, .inr (.inl (fun _ => 0)))), (xa30, .inl (kI, 30, .inl (fun _ => 0))), (xa31, .inl (kI, 12, .inl (fun _ => 0))), (xa32, .inl (kI, 12, .inl (fun _ => 0)))]) [0, 1, 2, 3, 4, 5] (by decide) rfl
  have hFc := va_free (wc := [(h0, .inr (10, [.ref xa1, .ref xa3, .ref xa15, .ref xa27, .ref xa28, .ref xa33, .ref xa38, .ref xa41, .ref xa45, .ref xa46, .ref xa47, .ref xa52, .ref xa54, .int 0, .ref xa55, .ref xa60, .ref xa62, .ref xa67, .int (-1)])), (xa28, .inr (0, [.ref xa29, .ref xa30, .ref xa31, .ref xa32, .int 5, .int 0, .int 0, .int 0, .int 0, .int 0])), (xa29, .inl (kJ, 96, .inr (.inl (fun _ => 0)))), (xa30, .inl (kI, 30, .inl (fun _ => 0))), (xa31, .inl (kI, 12, .inl (fun _ => 0))), (xa32, .inl (kI, 12, .inl (fun _ => 0)))]) hD hS hA [0, 1, 2, 3, 4, 5] rfl
  refine va_calli (va_runV (As := [.int 20]) (rest := [.int 0, .ref ou]) ⟨hx, hb, hml, hown, hts⟩ (k10_count_20 l dC dI kB kI kJ kZ kC kS s.heap.size h0 xa1 xa3 xa15 xa27 xa28 xa33 xa38 xa41 xa45 xa46 xa47 xa52 xa54 xa55 xa60 xa62 xa67 xa29 xa30 xa31 xa32) (cwV 1 hts gL_count_X10_count rfl rfl rfl (by decide +kernel) ⟨Nat.le_of_ble_eq_true rfl, Nat.le_of_ble_eq_true rfl⟩) ⟨fun a U g mk q => by obtain ⟨q0, q1, qP, qE, qD⟩ := q; exact ⟨q0, q1, qP, kE_call qE, qD⟩, va_recv hK hP (ci := 10) (q0 := 0) rfl rfl, fun U hU hW => ⟨rfl, by rw [hU], by rw [hU]; exact hPc, kE_warm hW hE, hDc.weaken (fun _ _ _ _ => trivial)⟩⟩ rfl rfl hl.1 rfl (lv_room (Nat.le_of_ble_eq_true rfl)) dL_count_4 ⟨Nat.le_of_ble_eq_true rfl, Nat.le_of_ble_eq_true rfl⟩) hS (fun q _ h => hFc q h) hFc (fun r1 u t H1 locs ht hvm w2 hB hz1 hk1 hS => ?_)
  obtain ⟨hP1, hD1⟩ := hB
  rw [ht] at hP1
  try dsimp only at w2
  obtain ⟨hP, hD⟩ := va_join (wr := [(ou, .inl (kJ, 1, .inr (.inl fo)))]) (w1 := []) hP hD [0, 1, 2, 3, 4, 5] [6] rfl rfl (by decide) (by decide) hk1 hFc hP1 hD1
  generalize H1 = H at hP hS ⊢
  have hP : va_P (dC, dI) vwCl [(ou, .inl (kJ, 1, .inr (.inl fo)))] H := hP
  have hD : va_D A [(ou, .inl (kJ, 1, .inr (.inl fo)))] := hD
  refine W.widen (k := 0) (n := 0) (Nat.le_of_ble_eq_true rfl) (Nat.le_of_ble_eq_true rfl) ?_
  subst w2
  refine lv_i2l (v := 0) hx hb dL_count_7 (by decide) ?_
  refine va_last hx hb hK hP hD hS 0 2 rfl rfl (vp_in_nI (n := 0) (by decide) (by decide)) dL_count_8 (fun H locs hP hD hS => ?_)
  have hP : va_P (dC, dI) vwCl [(ou, .inl (kJ, 1, .inr (.inl (vp_updL fo 0 0))))] H := hP
  have hD : va_D A [(ou, .inl (kJ, 1, .inr (.inl (vp_updL fo 0 0))))] := hD
  refine lv_goto (tgt := 15) hx hb dL_count_9 (by decide) ?_
  refine lv_iconst (v := 0) hx hb dL_count_15 (by decide) ?_
  have hP9 := hP.sub (ws' := [(ou, .inl (kJ, 1, .inr (.inl (vp_updL fo 0 0))))]) [0] rfl
  have hD9 := hD.sub (ws' := [(ou, .inl (kJ, 1, .inr (.inl (vp_updL fo 0 0))))]) [0] (by decide) rfl
  exact W.iret (v := 0) hx hb hr (fun t ht hW => ⟨⟨0, (), rfl, rfl, vp_updL fo 0 0, rfl, by rw [ht]; exact hP9, hD9⟩, hS.F ht⟩) hS.2.2 dL_count_16
def rm_kL10_missing_1 : Room := { frames := 3, cells := 0, slots := 0, locals := 69 }
set_option maxHeartbeats 4000000 in
set_option maxRecDepth 100000 in
theorem kL10_missing_1 (l : Launch) (dC : Nat → ClassId) (dI : Nat → Nat → Nat) (kB kI kJ kZ kC kS : ClassId) (sz : Nat) (h0 : Nat) (xa1 : Nat) (xa3 : Nat) (xa15 : Nat) (xa27 : Nat) (xa28 : Nat) (xa33 : Nat) (xa38 : Nat) (xa41 : Nat) (xa45 : Nat) (xa46 : Nat) (xa47 : Nat) (xa52 : Nat) (xa54 : Nat) (xa55 : Nat) (xa60 : Nat) (xa62 : Nat) (xa67 : Nat) (xa39 : Nat) (xa40 : Nat) (k : Nat) (ou : Nat) (fo : Nat → Int64) (hk : k ≤ 60) : Met l yL_missing wsL_missing rm_kL10_missing_1 (va_Pc [.ref h0, .int (nI k), .int 1, .ref ou] (fun U => U.heap.size = sz ∧ va_P (dC, dI) vwCl [(h0, .inr (10, [.ref xa1, .ref xa3, .ref xa15, .ref xa27, .ref xa28, .ref xa33, .ref xa38, .ref xa41, .ref xa45, .ref xa46, .ref xa47, .ref xa52, .ref xa54, .int 0, .ref xa55, .ref xa60, .ref xa62, .ref xa67, .int (-1)])), (xa38, .inr (4, [.ref xa39, .ref xa40, .int 0])), (xa39, .inl (kJ, 23, .inr (.inl (fun _ => 0)))), (xa40, .inl (kI, 4, .inl (fun _ => 0))), (ou, .inl (kJ, 1, .inr (.inl fo)))] U.heap ∧ kE dC dI kB kI kJ kZ kC kS U ∧ va_D (fun _ => True) [(h0, .inr (10, [.ref xa1, .ref xa3, .ref xa15, .ref xa27, .ref xa28, .ref xa33, .ref xa38, .ref xa41, .ref xa45, .ref xa46, .ref xa47, .ref xa52, .ref xa54, .int 0, .ref xa55, .ref xa60, .ref xa62, .ref xa67, .int (-1)])), (xa38, .inr (4, [.ref xa39, .ref xa40, .int 0])), (xa39, .inl (kJ, 23, .inr (.inl (fun _ => 0)))), (xa40, .inl (kI, 4, .inl (fun _ => 0))), (ou, .inl (kJ, 1, .inr (.inl fo)))])) (va_Qi (fun (r : Int32) (_ : Unit) => r = 0) (fun _ t => ∃ (g1 : Nat → Int64), g1 0 = 1000000000000 - kv1 k 1 ∧ va_P (dC, dI) vwCl [(ou, .inl (kJ, 1, .inr (.inl g1)))] t.heap ∧ va_D (va_A [(h0, .inr (10, [.ref xa1, .ref xa3, .ref xa15, .ref xa27, .ref xa28, .ref xa33, .ref xa38, .ref xa41, .ref xa45, .ref xa46, .ref xa47, .ref xa52, .ref xa54, .int 0, .ref xa55, .ref xa60, .ref xa62, .ref xa67, .int (-1)])), (xa38, .inr (4, [.ref xa39, .ref xa40, .int 0])), (xa39, .inl (kJ, 23, .inr (.inl (fun _ => 0)))), (xa40, .inl (kI, 4, .inl (fun _ => 0))), (ou, .inl (kJ, 1, .inr (.inl fo)))] sz) [(ou, .inl (kJ, 1, .inr (.inl g1)))]) (va_A [(h0, .inr (10, [.ref xa1, .ref xa3, .ref xa15, .ref xa27, .ref xa28, .ref xa33, .ref xa38, .ref xa41, .ref xa45, .ref xa46, .ref xa47, .ref xa52, .ref xa54, .int 0, .ref xa55, .ref xa60, .ref xa62, .ref xa67, .int (-1)])), (xa38, .inr (4, [.ref xa39, .ref xa40, .int 0])), (xa39, .inl (kJ, 23, .inr (.inl (fun _ => 0)))), (xa40, .inl (kI, 4, .inl (fun _ => 0))), (ou, .inl (kJ, 1, .inr (.inl fo)))] sz)) 0 0 (va_A [(h0, .inr (10, [.ref xa1, .ref xa3, .ref xa15, .ref xa27, .ref xa28, .ref xa33, .ref xa38, .ref xa41, .ref xa45, .ref xa46, .ref xa47, .ref xa52, .ref xa54, .int 0, .ref xa55, .ref xa60, .ref xa62, .ref xa67, .int (-1)])), (xa38, .inr (4, [.ref xa39, .ref xa40, .int 0])), (xa39, .inl (kJ, 23, .inr (.inl (fun _ => 0)))), (xa40, .inl (kI, 4, .inl (fun _ => 0))), (ou, .inl (kJ, 1, .inr (.inl fo)))] sz) := by
  refine va_MetW (cc := cL_missing) (maxL := 5) (ret := (some .int)) (by decide) rfl ?_
  intro p e s m args0 below meth c s₁ B hml hv
  obtain ⟨hargs, hsz, hP, hE, hD0⟩ := hv
  have hx := B.exec
  have hb := B.bytes
  have hr := B.returns
  have hts := atoms_spec (ws := wsL_missing) B.pre
  have hown : s.vm.findClass RL = some m.cls := findClass_of_methodNamed B.named
  have hlocks := B.notSynchronized
  have hK := hE.1
  have hin10 : ∀ w ∈ wsX100, w ∈ wsL_missing := fun _ h9 => List.mem_cons_of_mem _ (List.mem_append_left _ (List.mem_append_left _ (List.mem_append_right _ h9)))
  have hin4 : ∀ w ∈ wsX40, w ∈ wsL_missing := fun _ h9 => List.mem_cons_of_mem _ (List.mem_append_left _ (List.mem_append_right _ h9))
  subst hsz
  have hD := hD0.self (sz := s.heap.size)
  generalize hAe : va_A [(h0, .inr (10, [.ref xa1, .ref xa3, .ref xa15, .ref xa27, .ref xa28, .ref xa33, .ref xa38, .ref xa41, .ref xa45, .ref xa46, .ref xa47, .ref xa52, .ref xa54, .int 0, .ref xa55, .ref xa60, .ref xa62, .ref xa67, .int (-1)])), (xa38, .inr (4, [.ref xa39, .ref xa40, .int 0])), (xa39, .inl (kJ, 23, .inr (.inl (fun _ => 0)))), (xa40, .inl (kI, 4, .inl (fun _ => 0))), (ou, .inl (kJ, 1, .inr (.inl fo)))] s.heap.size = A at hD ⊢
  have hA : ∀ q : Nat, s.heap.size ≤ q → A q := fun q h => by rw [← hAe]; exact Or.inr h
  have hS : va_S A s.heap s.heap [] := va_S.rf
  have hP : va_P (dC, dI) vwCl [(h0, .inr (10, [.ref xa1, .ref xa3, .ref xa15, .ref xa27, .ref xa28, .ref xa33, .ref xa38, .ref xa41, .ref xa45, .ref xa46, .ref xa47, .ref xa52, .ref xa54, .int 0, .ref xa55, .ref xa60, .ref xa62, .ref xa67, .int (-1)])), (xa38, .inr (4, [.ref xa39, .ref xa40, .int 0])), (xa39, .inl (kJ, 23, .inr (.inl (fun _ => 0)))), (xa40, .inl (kI, 4, .inl (fun _ => 0))), (ou, .inl (kJ, 1, .inr (.inl fo)))] s.heap := hP
  have hl := lv_entry ([.ref h0, .int (nI k), .int 1, .ref ou]) (n := 5) (Nat.le_of_ble_eq_true rfl)
  have hla : entryFrame m args0 5 = entryFrame m ([.ref h0, .int (nI k), .int 1, .ref ou] : List Value).toArray 5 := by rw [hargs]
  rw [hla, lg_entry_eq]
  generalize (lg_sl ([.ref h0, .int (nI k), .int 1, .ref ou]) ++ List.replicate (5 - (lg_sl ([.ref h0, .int (nI k), .int 1, .ref ou])).length) Slot.unset).toArray = ls at hl ⊢
  have hl : lv_has ls 5 [(0, .ref h0), (1, .int (nI k)), (2, .int 1), (3, .ref ou)] := hl
  refine lv_aload_n hx hb dL_missing_0 rfl (lv_at hl 3 rfl) ?_
  refine lv_iconst (v := 0) hx hb dL_missing_1 (by decide) ?_
  refine lv_aload_n hx hb dL_missing_2 rfl (lv_at hl 0 rfl) ?_
  refine lv_iload_n hx hb dL_missing_3 rfl (lv_at hl 1 rfl) ?_
  refine lv_iload_n hx hb dL_missing_4 rfl (lv_at hl 2 rfl) ?_
  have hPc := hP.sub (ws' := [(h0, .inr (10, [.ref xa1, .ref xa3, .ref xa15, .ref xa27, .ref xa28, .ref xa33, .ref xa38, .ref xa41, .ref xa45, .ref xa46, .ref xa47, .ref xa52, .ref xa54, .int 0, .ref xa55, .ref xa60, .ref xa62, .ref xa67, .int (-1)])), (xa38, .inr (4, [.ref xa39, .ref xa40, .int 0])), (xa39, .inl (kJ, 23, .inr (.inl (fun _ => 0)))), (xa40, .inl (kI, 4, .inl (fun _ => 0)))]) [0, 1, 2, 3] rfl
  have hDc := hD.sub (ws' := [(h0, .inr (10, [.ref xa1, .ref xa3, .ref xa15, .ref xa27, .ref xa28, .ref xa33, .ref xa38, .ref xa41, .ref xa45, .ref xa46, .ref xa47, .ref xa52, .ref xa54, .int 0, .ref xa55, .ref xa60, .ref xa62, .ref xa67, .int (-1)])), (xa38, .inr (4, [.ref xa39, .ref xa40, .int 0])), (xa39, .inl (kJ, 23, .inr (.inl (fun _ => 0)))), (xa40, .inl (kI, 4, .inl (fun _ => 0)))]) [0, 1, 2, 3] (by decide) rfl
  have hFc := va_free (wc := [(h0, .inr (10, [.ref xa1, .ref xa3, .ref xa15, .ref xa27, .ref xa28, .ref xa33, .ref xa38, .ref xa41, .ref xa45, .ref xa46, .ref xa47, .ref xa52, .ref xa54, .int 0, .ref xa55, .ref xa60, .ref xa62, .ref xa67, .int (-1)])), (xa38, .inr (4, [.ref xa39, .ref xa40, .int 0])), (xa39, .inl (kJ, 23, .inr (.inl (fun _ => 0)))), (xa40, .inl (kI, 4, .inl (fun _ => 0)))]) hD hS hA [0, 1, 2, 3] rfl
  refine va_calll (va_runV (As := [.int (nI k), .int 1]) (rest := [.int 0, .ref ou]) ⟨hx, hb, hml, hown, hts⟩ (k10_missing_1 l dC dI kB kI kJ kZ kC kS s.heap.size h0 xa1 xa3 xa15 xa27 xa28 xa33 xa38 xa41 xa45 xa46 xa47 xa52 xa54 xa55 xa60 xa62 xa67 xa39 xa40 k (hk)) (cwV 2 hts gL_missing_X10_missing rfl rfl rfl (by decide +kernel) ⟨Nat.le_of_ble_eq_true rfl, Nat.le_of_ble_eq_true rfl⟩) ⟨fun a U g mk q => by obtain ⟨q0, q1, qP, qE, qD⟩ := q; exact ⟨q0, q1, qP, kE_call qE, qD⟩, va_recv hK hP (ci := 10) (q0 := 0) rfl rfl, fun U hU hW => ⟨rfl, by rw [hU], by rw [hU]; exact hPc, kE_warm hW hE, hDc.weaken (fun _ _ _ _ => trivial)⟩⟩ rfl rfl hl.1 rfl (lv_room (Nat.le_of_ble_eq_true rfl)) dL_missing_5 ⟨Nat.le_of_ble_eq_true rfl, Nat.le_of_ble_eq_true rfl⟩) hS (fun q _ h => hFc q h) hFc (fun r1 u t H1 locs ht hvm w2 hB hz1 hk1 hS => ?_)
  obtain ⟨hP1, hD1⟩ := hB
  rw [ht] at hP1
  try dsimp only at w2
  obtain ⟨hP, hD⟩ := va_join (wr := [(ou, .inl (kJ, 1, .inr (.inl fo)))]) (w1 := []) hP hD [0, 1, 2, 3] [4] rfl rfl (by decide) (by decide) hk1 hFc hP1 hD1
  generalize H1 = H at hP hS ⊢
  have hP : va_P (dC, dI) vwCl [(ou, .inl (kJ, 1, .inr (.inl fo)))] H := hP
  have hD : va_D A [(ou, .inl (kJ, 1, .inr (.inl fo)))] := hD
  refine W.widen (k := 0) (n := 0) (Nat.le_of_ble_eq_true rfl) (Nat.le_of_ble_eq_true rfl) ?_
  subst w2
  refine va_last hx hb hK hP hD hS 0 2 rfl rfl (vp_in_nI (n := 0) (by decide) (by decide)) dL_missing_8 (fun H locs hP hD hS => ?_)
  have hP : va_P (dC, dI) vwCl [(ou, .inl (kJ, 1, .inr (.inl (vp_updL fo 0 (1000000000000 - kv1 k 1)))))] H := hP
  have hD : va_D A [(ou, .inl (kJ, 1, .inr (.inl (vp_updL fo 0 (1000000000000 - kv1 k 1)))))] := hD
  refine lv_goto (tgt := 16) hx hb dL_missing_9 (by decide) ?_
  refine lv_iconst (v := 0) hx hb dL_missing_16 (by decide) ?_
  have hP9 := hP.sub (ws' := [(ou, .inl (kJ, 1, .inr (.inl (vp_updL fo 0 (1000000000000 - kv1 k 1)))))]) [0] rfl
  have hD9 := hD.sub (ws' := [(ou, .inl (kJ, 1, .inr (.inl (vp_updL fo 0 (1000000000000 - kv1 k 1)))))]) [0] (by decide) rfl
  exact W.iret (v := 0) hx hb hr (fun t ht hW => ⟨⟨0, (), rfl, rfl, vp_updL fo 0 (1000000000000 - kv1 k 1), rfl, by rw [ht]; exact hP9, hD9⟩, hS.F ht⟩) hS.2.2 dL_missing_17
def rm_kL10_missing_2 : Room := { frames := 3, cells := 0, slots := 0, locals := 69 }
set_option maxHeartbeats 4000000 in
set_option maxRecDepth 100000 in
theorem kL10_missing_2 (l : Launch) (dC : Nat → ClassId) (dI : Nat → Nat → Nat) (kB kI kJ kZ kC kS : ClassId) (sz : Nat) (h0 : Nat) (xa1 : Nat) (xa3 : Nat) (xa15 : Nat) (xa27 : Nat) (xa28 : Nat) (xa33 : Nat) (xa38 : Nat) (xa41 : Nat) (xa45 : Nat) (xa46 : Nat) (xa47 : Nat) (xa52 : Nat) (xa54 : Nat) (xa55 : Nat) (xa60 : Nat) (xa62 : Nat) (xa67 : Nat) (xa39 : Nat) (xa40 : Nat) (k : Nat) (ou : Nat) (fo : Nat → Int64) (hk : k ≤ 60) : Met l yL_missing wsL_missing rm_kL10_missing_2 (va_Pc [.ref h0, .int (nI k), .int 2, .ref ou] (fun U => U.heap.size = sz ∧ va_P (dC, dI) vwCl [(h0, .inr (10, [.ref xa1, .ref xa3, .ref xa15, .ref xa27, .ref xa28, .ref xa33, .ref xa38, .ref xa41, .ref xa45, .ref xa46, .ref xa47, .ref xa52, .ref xa54, .int 0, .ref xa55, .ref xa60, .ref xa62, .ref xa67, .int (-1)])), (xa38, .inr (4, [.ref xa39, .ref xa40, .int 0])), (xa39, .inl (kJ, 23, .inr (.inl (fun _ => 0)))), (xa40, .inl (kI, 4, .inl (fun _ => 0))), (ou, .inl (kJ, 1, .inr (.inl fo)))] U.heap ∧ kE dC dI kB kI kJ kZ kC kS U ∧ va_D (fun _ => True) [(h0, .inr (10, [.ref xa1, .ref xa3, .ref xa15, .ref xa27, .ref xa28, .ref xa33, .ref xa38, .ref xa41, .ref xa45, .ref xa46, .ref xa47, .ref xa52, .ref xa54, .int 0, .ref xa55, .ref xa60, .ref xa62, .ref xa67, .int (-1)])), (xa38, .inr (4, [.ref xa39, .ref xa40, .int 0])), (xa39, .inl (kJ, 23, .inr (.inl (fun _ => 0)))), (xa40, .inl (kI, 4, .inl (fun _ => 0))), (ou, .inl (kJ, 1, .inr (.inl fo)))])) (va_Qi (fun (r : Int32) (_ : Unit) => r = 0) (fun _ t => ∃ (g1 : Nat → Int64), g1 0 = 1000000000000 - kv2 k 2 ∧ va_P (dC, dI) vwCl [(ou, .inl (kJ, 1, .inr (.inl g1)))] t.heap ∧ va_D (va_A [(h0, .inr (10, [.ref xa1, .ref xa3, .ref xa15, .ref xa27, .ref xa28, .ref xa33, .ref xa38, .ref xa41, .ref xa45, .ref xa46, .ref xa47, .ref xa52, .ref xa54, .int 0, .ref xa55, .ref xa60, .ref xa62, .ref xa67, .int (-1)])), (xa38, .inr (4, [.ref xa39, .ref xa40, .int 0])), (xa39, .inl (kJ, 23, .inr (.inl (fun _ => 0)))), (xa40, .inl (kI, 4, .inl (fun _ => 0))), (ou, .inl (kJ, 1, .inr (.inl fo)))] sz) [(ou, .inl (kJ, 1, .inr (.inl g1)))]) (va_A [(h0, .inr (10, [.ref xa1, .ref xa3, .ref xa15, .ref xa27, .ref xa28, .ref xa33, .ref xa38, .ref xa41, .ref xa45, .ref xa46, .ref xa47, .ref xa52, .ref xa54, .int 0, .ref xa55, .ref xa60, .ref xa62, .ref xa67, .int (-1)])), (xa38, .inr (4, [.ref xa39, .ref xa40, .int 0])), (xa39, .inl (kJ, 23, .inr (.inl (fun _ => 0)))), (xa40, .inl (kI, 4, .inl (fun _ => 0))), (ou, .inl (kJ, 1, .inr (.inl fo)))] sz)) 0 0 (va_A [(h0, .inr (10, [.ref xa1, .ref xa3, .ref xa15, .ref xa27, .ref xa28, .ref xa33, .ref xa38, .ref xa41, .ref xa45, .ref xa46, .ref xa47, .ref xa52, .ref xa54, .int 0, .ref xa55, .ref xa60, .ref xa62, .ref xa67, .int (-1)])), (xa38, .inr (4, [.ref xa39, .ref xa40, .int 0])), (xa39, .inl (kJ, 23, .inr (.inl (fun _ => 0)))), (xa40, .inl (kI, 4, .inl (fun _ => 0))), (ou, .inl (kJ, 1, .inr (.inl fo)))] sz) := by
  refine va_MetW (cc := cL_missing) (maxL := 5) (ret := (some .int)) (by decide) rfl ?_
  intro p e s m args0 below meth c s₁ B hml hv
  obtain ⟨hargs, hsz, hP, hE, hD0⟩ := hv
  have hx := B.exec
  have hb := B.bytes
  have hr := B.returns
  have hts := atoms_spec (ws := wsL_missing) B.pre
  have hown : s.vm.findClass RL = some m.cls := findClass_of_methodNamed B.named
  have hlocks := B.notSynchronized
  have hK := hE.1
  have hin10 : ∀ w ∈ wsX100, w ∈ wsL_missing := fun _ h9 => List.mem_cons_of_mem _ (List.mem_append_left _ (List.mem_append_left _ (List.mem_append_right _ h9)))
  have hin4 : ∀ w ∈ wsX40, w ∈ wsL_missing := fun _ h9 => List.mem_cons_of_mem _ (List.mem_append_left _ (List.mem_append_right _ h9))
  subst hsz
  have hD := hD0.self (sz := s.heap.size)
  generalize hAe : va_A [(h0, .inr (10, [.ref xa1, .ref xa3, .ref xa15, .ref xa27, .ref xa28, .ref xa33, .ref xa38, .ref xa41, .ref xa45, .ref xa46, .ref xa47, .ref xa52, .ref xa54, .int 0, .ref xa55, .ref xa60, .ref xa62, .ref xa67, .int (-1)])), (xa38, .inr (4, [.ref xa39, .ref xa40, .int 0])), (xa39, .inl (kJ, 23, .inr (.inl (fun _ => 0)))), (xa40, .inl (kI, 4, .inl (fun _ => 0))), (ou, .inl (kJ, 1, .inr (.inl fo)))] s.heap.size = A at hD ⊢
  have hA : ∀ q : Nat, s.heap.size ≤ q → A q := fun q h => by rw [← hAe]; exact Or.inr h
  have hS : va_S A s.heap s.heap [] := va_S.rf
  have hP : va_P (dC, dI) vwCl [(h0, .inr (10, [.ref xa1, .ref xa3, .ref xa15, .ref xa27, .ref xa28, .ref xa33, .ref xa38, .ref xa41, .ref xa45, .ref xa46, .ref xa47, .ref xa52, .ref xa54, .int 0, .ref xa55, .ref xa60, .ref xa62, .ref xa67, .int (-1)])), (xa38, .inr (4, [.ref xa39, .ref xa40, .int 0])), (xa39, .inl (kJ, 23, .inr (.inl (fun _ => 0)))), (xa40, .inl (kI, 4, .inl (fun _ => 0))), (ou, .inl (kJ, 1, .inr (.inl fo)))] s.heap := hP
  have hl := lv_entry ([.ref h0, .int (nI k), .int 2, .ref ou]) (n := 5) (Nat.le_of_ble_eq_true rfl)
  have hla : entryFrame m args0 5 = entryFrame m ([.ref h0, .int (nI k), .int 2, .ref ou] : List Value).toArray 5 := by rw [hargs]
  rw [hla, lg_entry_eq]
  generalize (lg_sl ([.ref h0, .int (nI k), .int 2, .ref ou]) ++ List.replicate (5 - (lg_sl ([.ref h0, .int (nI k), .int 2, .ref ou])).length) Slot.unset).toArray = ls at hl ⊢
  have hl : lv_has ls 5 [(0, .ref h0), (1, .int (nI k)), (2, .int 2), (3, .ref ou)] := hl
  refine lv_aload_n hx hb dL_missing_0 rfl (lv_at hl 3 rfl) ?_
  refine lv_iconst (v := 0) hx hb dL_missing_1 (by decide) ?_
  refine lv_aload_n hx hb dL_missing_2 rfl (lv_at hl 0 rfl) ?_
  refine lv_iload_n hx hb dL_missing_3 rfl (lv_at hl 1 rfl) ?_
  refine lv_iload_n hx hb dL_missing_4 rfl (lv_at hl 2 rfl) ?_
  have hPc := hP.sub (ws' := [(h0, .inr (10, [.ref xa1, .ref xa3, .ref xa15, .ref xa27, .ref xa28, .ref xa33, .ref xa38, .ref xa41, .ref xa45, .ref xa46, .ref xa47, .ref xa52, .ref xa54, .int 0, .ref xa55, .ref xa60, .ref xa62, .ref xa67, .int (-1)])), (xa38, .inr (4, [.ref xa39, .ref xa40, .int 0])), (xa39, .inl (kJ, 23, .inr (.inl (fun _ => 0)))), (xa40, .inl (kI, 4, .inl (fun _ => 0)))]) [0, 1, 2, 3] rfl
  have hDc := hD.sub (ws' := [(h0, .inr (10, [.ref xa1, .ref xa3, .ref xa15, .ref xa27, .ref xa28, .ref xa33, .ref xa38, .ref xa41, .ref xa45, .ref xa46, .ref xa47, .ref xa52, .ref xa54, .int 0, .ref xa55, .ref xa60, .ref xa62, .ref xa67, .int (-1)])), (xa38, .inr (4, [.ref xa39, .ref xa40, .int 0])), (xa39, .inl (kJ, 23, .inr (.inl (fun _ => 0)))), (xa40, .inl (kI, 4, .inl (fun _ => 0)))]) [0, 1, 2, 3] (by decide) rfl
  have hFc := va_free (wc := [(h0, .inr (10, [.ref xa1, .ref xa3, .ref xa15, .ref xa27, .ref xa28, .ref xa33, .ref xa38, .ref xa41, .ref xa45, .ref xa46, .ref xa47, .ref xa52, .ref xa54, .int 0, .ref xa55, .ref xa60, .ref xa62, .ref xa67, .int (-1)])), (xa38, .inr (4, [.ref xa39, .ref xa40, .int 0])), (xa39, .inl (kJ, 23, .inr (.inl (fun _ => 0)))), (xa40, .inl (kI, 4, .inl (fun _ => 0)))]) hD hS hA [0, 1, 2, 3] rfl
  refine va_calll (va_runV (As := [.int (nI k), .int 2]) (rest := [.int 0, .ref ou]) ⟨hx, hb, hml, hown, hts⟩ (k10_missing_2 l dC dI kB kI kJ kZ kC kS s.heap.size h0 xa1 xa3 xa15 xa27 xa28 xa33 xa38 xa41 xa45 xa46 xa47 xa52 xa54 xa55 xa60 xa62 xa67 xa39 xa40 k (hk)) (cwV 2 hts gL_missing_X10_missing rfl rfl rfl (by decide +kernel) ⟨Nat.le_of_ble_eq_true rfl, Nat.le_of_ble_eq_true rfl⟩) ⟨fun a U g mk q => by obtain ⟨q0, q1, qP, qE, qD⟩ := q; exact ⟨q0, q1, qP, kE_call qE, qD⟩, va_recv hK hP (ci := 10) (q0 := 0) rfl rfl, fun U hU hW => ⟨rfl, by rw [hU], by rw [hU]; exact hPc, kE_warm hW hE, hDc.weaken (fun _ _ _ _ => trivial)⟩⟩ rfl rfl hl.1 rfl (lv_room (Nat.le_of_ble_eq_true rfl)) dL_missing_5 ⟨Nat.le_of_ble_eq_true rfl, Nat.le_of_ble_eq_true rfl⟩) hS (fun q _ h => hFc q h) hFc (fun r1 u t H1 locs ht hvm w2 hB hz1 hk1 hS => ?_)
  obtain ⟨hP1, hD1⟩ := hB
  rw [ht] at hP1
  try dsimp only at w2
  obtain ⟨hP, hD⟩ := va_join (wr := [(ou, .inl (kJ, 1, .inr (.inl fo)))]) (w1 := []) hP hD [0, 1, 2, 3] [4] rfl rfl (by decide) (by decide) hk1 hFc hP1 hD1
  generalize H1 = H at hP hS ⊢
  have hP : va_P (dC, dI) vwCl [(ou, .inl (kJ, 1, .inr (.inl fo)))] H := hP
  have hD : va_D A [(ou, .inl (kJ, 1, .inr (.inl fo)))] := hD
  refine W.widen (k := 0) (n := 0) (Nat.le_of_ble_eq_true rfl) (Nat.le_of_ble_eq_true rfl) ?_
  subst w2
  refine va_last hx hb hK hP hD hS 0 2 rfl rfl (vp_in_nI (n := 0) (by decide) (by decide)) dL_missing_8 (fun H locs hP hD hS => ?_)
  have hP : va_P (dC, dI) vwCl [(ou, .inl (kJ, 1, .inr (.inl (vp_updL fo 0 (1000000000000 - kv2 k 2)))))] H := hP
  have hD : va_D A [(ou, .inl (kJ, 1, .inr (.inl (vp_updL fo 0 (1000000000000 - kv2 k 2)))))] := hD
  refine lv_goto (tgt := 16) hx hb dL_missing_9 (by decide) ?_
  refine lv_iconst (v := 0) hx hb dL_missing_16 (by decide) ?_
  have hP9 := hP.sub (ws' := [(ou, .inl (kJ, 1, .inr (.inl (vp_updL fo 0 (1000000000000 - kv2 k 2)))))]) [0] rfl
  have hD9 := hD.sub (ws' := [(ou, .inl (kJ, 1, .inr (.inl (vp_updL fo 0 (1000000000000 - kv2 k 2)))))]) [0] (by decide) rfl
  exact W.iret (v := 0) hx hb hr (fun t ht hW => ⟨⟨0, (), rfl, rfl, vp_updL fo 0 (1000000000000 - kv2 k 2), rfl, by rw [ht]; exact hP9, hD9⟩, hS.F ht⟩) hS.2.2 dL_missing_17
def rm_kL10_missing_3 : Room := { frames := 3, cells := 0, slots := 0, locals := 69 }
set_option maxHeartbeats 4000000 in
set_option maxRecDepth 100000 in
theorem kL10_missing_3 (l : Launch) (dC : Nat → ClassId) (dI : Nat → Nat → Nat) (kB kI kJ kZ kC kS : ClassId) (sz : Nat) (h0 : Nat) (xa1 : Nat) (xa3 : Nat) (xa15 : Nat) (xa27 : Nat) (xa28 : Nat) (xa33 : Nat) (xa38 : Nat) (xa41 : Nat) (xa45 : Nat) (xa46 : Nat) (xa47 : Nat) (xa52 : Nat) (xa54 : Nat) (xa55 : Nat) (xa60 : Nat) (xa62 : Nat) (xa67 : Nat) (xa39 : Nat) (xa40 : Nat) (k : Nat) (ou : Nat) (fo : Nat → Int64) (hk : k ≤ 60) : Met l yL_missing wsL_missing rm_kL10_missing_3 (va_Pc [.ref h0, .int (nI k), .int 3, .ref ou] (fun U => U.heap.size = sz ∧ va_P (dC, dI) vwCl [(h0, .inr (10, [.ref xa1, .ref xa3, .ref xa15, .ref xa27, .ref xa28, .ref xa33, .ref xa38, .ref xa41, .ref xa45, .ref xa46, .ref xa47, .ref xa52, .ref xa54, .int 0, .ref xa55, .ref xa60, .ref xa62, .ref xa67, .int (-1)])), (xa38, .inr (4, [.ref xa39, .ref xa40, .int 0])), (xa39, .inl (kJ, 23, .inr (.inl (fun _ => 0)))), (xa40, .inl (kI, 4, .inl (fun _ => 0))), (ou, .inl (kJ, 1, .inr (.inl fo)))] U.heap ∧ kE dC dI kB kI kJ kZ kC kS U ∧ va_D (fun _ => True) [(h0, .inr (10, [.ref xa1, .ref xa3, .ref xa15, .ref xa27, .ref xa28, .ref xa33, .ref xa38, .ref xa41, .ref xa45, .ref xa46, .ref xa47, .ref xa52, .ref xa54, .int 0, .ref xa55, .ref xa60, .ref xa62, .ref xa67, .int (-1)])), (xa38, .inr (4, [.ref xa39, .ref xa40, .int 0])), (xa39, .inl (kJ, 23, .inr (.inl (fun _ => 0)))), (xa40, .inl (kI, 4, .inl (fun _ => 0))), (ou, .inl (kJ, 1, .inr (.inl fo)))])) (va_Qi (fun (r : Int32) (_ : Unit) => r = 0) (fun _ t => ∃ (g1 : Nat → Int64), g1 0 = 1000000000000 - kv3 k 3 ∧ va_P (dC, dI) vwCl [(ou, .inl (kJ, 1, .inr (.inl g1)))] t.heap ∧ va_D (va_A [(h0, .inr (10, [.ref xa1, .ref xa3, .ref xa15, .ref xa27, .ref xa28, .ref xa33, .ref xa38, .ref xa41, .ref xa45, .ref xa46, .ref xa47, .ref xa52, .ref xa54, .int 0, .ref xa55, .ref xa60, .ref xa62, .ref xa67, .int (-1)])), (xa38, .inr (4, [.ref xa39, .ref xa40, .int 0])), (xa39, .inl (kJ, 23, .inr (.inl (fun _ => 0)))), (xa40, .inl (kI, 4, .inl (fun _ => 0))), (ou, .inl (kJ, 1, .inr (.inl fo)))] sz) [(ou, .inl (kJ, 1, .inr (.inl g1)))]) (va_A [(h0, .inr (10, [.ref xa1, .ref xa3, .ref xa15, .ref xa27, .ref xa28, .ref xa33, .ref xa38, .ref xa41, .ref xa45, .ref xa46, .ref xa47, .ref xa52, .ref xa54, .int 0, .ref xa55, .ref xa60, .ref xa62, .ref xa67, .int (-1)])), (xa38, .inr (4, [.ref xa39, .ref xa40, .int 0])), (xa39, .inl (kJ, 23, .inr (.inl (fun _ => 0)))), (xa40, .inl (kI, 4, .inl (fun _ => 0))), (ou, .inl (kJ, 1, .inr (.inl fo)))] sz)) 0 0 (va_A [(h0, .inr (10, [.ref xa1, .ref xa3, .ref xa15, .ref xa27, .ref xa28, .ref xa33, .ref xa38, .ref xa41, .ref xa45, .ref xa46, .ref xa47, .ref xa52, .ref xa54, .int 0, .ref xa55, .ref xa60, .ref xa62, .ref xa67, .int (-1)])), (xa38, .inr (4, [.ref xa39, .ref xa40, .int 0])), (xa39, .inl (kJ, 23, .inr (.inl (fun _ => 0)))), (xa40, .inl (kI, 4, .inl (fun _ => 0))), (ou, .inl (kJ, 1, .inr (.inl fo)))] sz) := by
  refine va_MetW (cc := cL_missing) (maxL := 5) (ret := (some .int)) (by decide) rfl ?_
  intro p e s m args0 below meth c s₁ B hml hv
  obtain ⟨hargs, hsz, hP, hE, hD0⟩ := hv
  have hx := B.exec
  have hb := B.bytes
  have hr := B.returns
  have hts := atoms_spec (ws := wsL_missing) B.pre
  have hown : s.vm.findClass RL = some m.cls := findClass_of_methodNamed B.named
  have hlocks := B.notSynchronized
  have hK := hE.1
  have hin10 : ∀ w ∈ wsX100, w ∈ wsL_missing := fun _ h9 => List.mem_cons_of_mem _ (List.mem_append_left _ (List.mem_append_left _ (List.mem_append_right _ h9)))
  have hin4 : ∀ w ∈ wsX40, w ∈ wsL_missing := fun _ h9 => List.mem_cons_of_mem _ (List.mem_append_left _ (List.mem_append_right _ h9))
  subst hsz
  have hD := hD0.self (sz := s.heap.size)
  generalize hAe : va_A [(h0, .inr (10, [.ref xa1, .ref xa3, .ref xa15, .ref xa27, .ref xa28, .ref xa33, .ref xa38, .ref xa41, .ref xa45, .ref xa46, .ref xa47, .ref xa52, .ref xa54, .int 0, .ref xa55, .ref xa60, .ref xa62, .ref xa67, .int (-1)])), (xa38, .inr (4, [.ref xa39, .ref xa40, .int 0])), (xa39, .inl (kJ, 23, .inr (.inl (fun _ => 0)))), (xa40, .inl (kI, 4, .inl (fun _ => 0))), (ou, .inl (kJ, 1, .inr (.inl fo)))] s.heap.size = A at hD ⊢
  have hA : ∀ q : Nat, s.heap.size ≤ q → A q := fun q h => by rw [← hAe]; exact Or.inr h
  have hS : va_S A s.heap s.heap [] := va_S.rf
  have hP : va_P (dC, dI) vwCl [(h0, .inr (10, [.ref xa1, .ref xa3, .ref xa15, .ref xa27, .ref xa28, .ref xa33, .ref xa38, .ref xa41, .ref xa45, .ref xa46, .ref xa47, .ref xa52, .ref xa54, .int 0, .ref xa55, .ref xa60, .ref xa62, .ref xa67, .int (-1)])), (xa38, .inr (4, [.ref xa39, .ref xa40, .int 0])), (xa39, .inl (kJ, 23, .inr (.inl (fun _ => 0)))), (xa40, .inl (kI, 4, .inl (fun _ => 0))), (ou, .inl (kJ, 1, .inr (.inl fo)))] s.heap := hP
  have hl := lv_entry ([.ref h0, .int (nI k), .int 3, .ref ou]) (n := 5) (Nat.le_of_ble_eq_true rfl)
  have hla : entryFrame m args0 5 = entryFrame m ([.ref h0, .int (nI k), .int 3, .ref ou] : List Value).toArray 5 := by rw [hargs]
  rw [hla, lg_entry_eq]
  generalize (lg_sl ([.ref h0, .int (nI k), .int 3, .ref ou]) ++ List.replicate (5 - (lg_sl ([.ref h0, .int (nI k), .int 3, .ref ou])).length) Slot.unset).toArray = ls at hl ⊢
  have hl : lv_has ls 5 [(0, .ref h0), (1, .int (nI k)), (2, .int 3), (3, .ref ou)] := hl
  refine lv_aload_n hx hb dL_missing_0 rfl (lv_at hl 3 rfl) ?_
  refine lv_iconst (v := 0) hx hb dL_missing_1 (by decide) ?_
  refine lv_aload_n hx hb dL_missing_2 rfl (lv_at hl 0 rfl) ?_
  refine lv_iload_n hx hb dL_missing_3 rfl (lv_at hl 1 rfl) ?_
  refine lv_iload_n hx hb dL_missing_4 rfl (lv_at hl 2 rfl) ?_
  have hPc := hP.sub (ws' := [(h0, .inr (10, [.ref xa1, .ref xa3, .ref xa15, .ref xa27, .ref xa28, .ref xa33, .ref xa38, .ref xa41, .ref xa45, .ref xa46, .ref xa47, .ref xa52, .ref xa54, .int 0, .ref xa55, .ref xa60, .ref xa62, .ref xa67, .int (-1)])), (xa38, .inr (4, [.ref xa39, .ref xa40, .int 0])), (xa39, .inl (kJ, 23, .inr (.inl (fun _ => 0)))), (xa40, .inl (kI, 4, .inl (fun _ => 0)))]) [0, 1, 2, 3] rfl
  have hDc := hD.sub (ws' := [(h0, .inr (10, [.ref xa1, .ref xa3, .ref xa15, .ref xa27, .ref xa28, .ref xa33, .ref xa38, .ref xa41, .ref xa45, .ref xa46, .ref xa47, .ref xa52, .ref xa54, .int 0, .ref xa55, .ref xa60, .ref xa62, .ref xa67, .int (-1)])), (xa38, .inr (4, [.ref xa39, .ref xa40, .int 0])), (xa39, .inl (kJ, 23, .inr (.inl (fun _ => 0)))), (xa40, .inl (kI, 4, .inl (fun _ => 0)))]) [0, 1, 2, 3] (by decide) rfl
  have hFc := va_free (wc := [(h0, .inr (10, [.ref xa1, .ref xa3, .ref xa15, .ref xa27, .ref xa28, .ref xa33, .ref xa38, .ref xa41, .ref xa45, .ref xa46, .ref xa47, .ref xa52, .ref xa54, .int 0, .ref xa55, .ref xa60, .ref xa62, .ref xa67, .int (-1)])), (xa38, .inr (4, [.ref xa39, .ref xa40, .int 0])), (xa39, .inl (kJ, 23, .inr (.inl (fun _ => 0)))), (xa40, .inl (kI, 4, .inl (fun _ => 0)))]) hD hS hA [0, 1, 2, 3] rfl
  refine va_calll (va_runV (As := [.int (nI k), .int 3]) (rest := [.int 0, .ref ou]) ⟨hx, hb, hml, hown, hts⟩ (k10_missing_3 l dC dI kB kI kJ kZ kC kS s.heap.size h0 xa1 xa3 xa15 xa27 xa28 xa33 xa38 xa41 xa45 xa46 xa47 xa52 xa54 xa55 xa60 xa62 xa67 xa39 xa40 k (hk)) (cwV 2 hts gL_missing_X10_missing rfl rfl rfl (by decide +kernel) ⟨Nat.le_of_ble_eq_true rfl, Nat.le_of_ble_eq_true rfl⟩) ⟨fun a U g mk q => by obtain ⟨q0, q1, qP, qE, qD⟩ := q; exact ⟨q0, q1, qP, kE_call qE, qD⟩, va_recv hK hP (ci := 10) (q0 := 0) rfl rfl, fun U hU hW => ⟨rfl, by rw [hU], by rw [hU]; exact hPc, kE_warm hW hE, hDc.weaken (fun _ _ _ _ => trivial)⟩⟩ rfl rfl hl.1 rfl (lv_room (Nat.le_of_ble_eq_true rfl)) dL_missing_5 ⟨Nat.le_of_ble_eq_true rfl, Nat.le_of_ble_eq_true rfl⟩) hS (fun q _ h => hFc q h) hFc (fun r1 u t H1 locs ht hvm w2 hB hz1 hk1 hS => ?_)
  obtain ⟨hP1, hD1⟩ := hB
  rw [ht] at hP1
  try dsimp only at w2
  obtain ⟨hP, hD⟩ := va_join (wr := [(ou, .inl (kJ, 1, .inr (.inl fo)))]) (w1 := []) hP hD [0, 1, 2, 3] [4] rfl rfl (by decide) (by decide) hk1 hFc hP1 hD1
  generalize H1 = H at hP hS ⊢
  have hP : va_P (dC, dI) vwCl [(ou, .inl (kJ, 1, .inr (.inl fo)))] H := hP
  have hD : va_D A [(ou, .inl (kJ, 1, .inr (.inl fo)))] := hD
  refine W.widen (k := 0) (n := 0) (Nat.le_of_ble_eq_true rfl) (Nat.le_of_ble_eq_true rfl) ?_
  subst w2
  refine va_last hx hb hK hP hD hS 0 2 rfl rfl (vp_in_nI (n := 0) (by decide) (by decide)) dL_missing_8 (fun H locs hP hD hS => ?_)
  have hP : va_P (dC, dI) vwCl [(ou, .inl (kJ, 1, .inr (.inl (vp_updL fo 0 (1000000000000 - kv3 k 3)))))] H := hP
  have hD : va_D A [(ou, .inl (kJ, 1, .inr (.inl (vp_updL fo 0 (1000000000000 - kv3 k 3)))))] := hD
  refine lv_goto (tgt := 16) hx hb dL_missing_9 (by decide) ?_
  refine lv_iconst (v := 0) hx hb dL_missing_16 (by decide) ?_
  have hP9 := hP.sub (ws' := [(ou, .inl (kJ, 1, .inr (.inl (vp_updL fo 0 (1000000000000 - kv3 k 3)))))]) [0] rfl
  have hD9 := hD.sub (ws' := [(ou, .inl (kJ, 1, .inr (.inl (vp_updL fo 0 (1000000000000 - kv3 k 3)))))]) [0] (by decide) rfl
  exact W.iret (v := 0) hx hb hr (fun t ht hW => ⟨⟨0, (), rfl, rfl, vp_updL fo 0 (1000000000000 - kv3 k 3), rfl, by rw [ht]; exact hP9, hD9⟩, hS.F ht⟩) hS.2.2 dL_missing_17
def rm_kL10_missing_4 : Room := { frames := 3, cells := 0, slots := 0, locals := 69 }
set_option maxHeartbeats 4000000 in
set_option maxRecDepth 100000 in
theorem kL10_missing_4 (l : Launch) (dC : Nat → ClassId) (dI : Nat → Nat → Nat) (kB kI kJ kZ kC kS : ClassId) (sz : Nat) (h0 : Nat) (xa1 : Nat) (xa3 : Nat) (xa15 : Nat) (xa27 : Nat) (xa28 : Nat) (xa33 : Nat) (xa38 : Nat) (xa41 : Nat) (xa45 : Nat) (xa46 : Nat) (xa47 : Nat) (xa52 : Nat) (xa54 : Nat) (xa55 : Nat) (xa60 : Nat) (xa62 : Nat) (xa67 : Nat) (xa39 : Nat) (xa40 : Nat) (k : Nat) (ou : Nat) (fo : Nat → Int64) (hk : k ≤ 60) : Met l yL_missing wsL_missing rm_kL10_missing_4 (va_Pc [.ref h0, .int (nI k), .int 4, .ref ou] (fun U => U.heap.size = sz ∧ va_P (dC, dI) vwCl [(h0, .inr (10, [.ref xa1, .ref xa3, .ref xa15, .ref xa27, .ref xa28, .ref xa33, .ref xa38, .ref xa41, .ref xa45, .ref xa46, .ref xa47, .ref xa52, .ref xa54, .int 0, .ref xa55, .ref xa60, .ref xa62, .ref xa67, .int (-1)])), (xa38, .inr (4, [.ref xa39, .ref xa40, .int 0])), (xa39, .inl (kJ, 23, .inr (.inl (fun _ => 0)))), (xa40, .inl (kI, 4, .inl (fun _ => 0))), (ou, .inl (kJ, 1, .inr (.inl fo)))] U.heap ∧ kE dC dI kB kI kJ kZ kC kS U ∧ va_D (fun _ => True) [(h0, .inr (10, [.ref xa1, .ref xa3, .ref xa15, .ref xa27, .ref xa28, .ref xa33, .ref xa38, .ref xa41, .ref xa45, .ref xa46, .ref xa47, .ref xa52, .ref xa54, .int 0, .ref xa55, .ref xa60, .ref xa62, .ref xa67, .int (-1)])), (xa38, .inr (4, [.ref xa39, .ref xa40, .int 0])), (xa39, .inl (kJ, 23, .inr (.inl (fun _ => 0)))), (xa40, .inl (kI, 4, .inl (fun _ => 0))), (ou, .inl (kJ, 1, .inr (.inl fo)))])) (va_Qi (fun (r : Int32) (_ : Unit) => r = 0) (fun _ t => ∃ (g1 : Nat → Int64), g1 0 = 1000000000000 - kv4 k 4 ∧ va_P (dC, dI) vwCl [(ou, .inl (kJ, 1, .inr (.inl g1)))] t.heap ∧ va_D (va_A [(h0, .inr (10, [.ref xa1, .ref xa3, .ref xa15, .ref xa27, .ref xa28, .ref xa33, .ref xa38, .ref xa41, .ref xa45, .ref xa46, .ref xa47, .ref xa52, .ref xa54, .int 0, .ref xa55, .ref xa60, .ref xa62, .ref xa67, .int (-1)])), (xa38, .inr (4, [.ref xa39, .ref xa40, .int 0])), (xa39, .inl (kJ, 23, .inr (.inl (fun _ => 0)))), (xa40, .inl (kI, 4, .inl (fun _ => 0))), (ou, .inl (kJ, 1, .inr (.inl fo)))] sz) [(ou, .inl (kJ, 1, .inr (.inl g1)))]) (va_A [(h0, .inr (10, [.ref xa1, .ref xa3, .ref xa15, .ref xa27, .ref xa28, .ref xa33, .ref xa38, .ref xa41, .ref xa45, .ref xa46, .ref xa47, .ref xa52, .ref xa54, .int 0, .ref xa55, .ref xa60, .ref xa62, .ref xa67, .int (-1)])), (xa38, .inr (4, [.ref xa39, .ref xa40, .int 0])), (xa39, .inl (kJ, 23, .inr (.inl (fun _ => 0)))), (xa40, .inl (kI, 4, .inl (fun _ => 0))), (ou, .inl (kJ, 1, .inr (.inl fo)))] sz)) 0 0 (va_A [(h0, .inr (10, [.ref xa1, .ref xa3, .ref xa15, .ref xa27, .ref xa28, .ref xa33, .ref xa38, .ref xa41, .ref xa45, .ref xa46, .ref xa47, .ref xa52, .ref xa54, .int 0, .ref xa55, .ref xa60, .ref xa62, .ref xa67, .int (-1)])), (xa38, .inr (4, [.ref xa39, .ref xa40, .int 0])), (xa39, .inl (kJ, 23, .inr (.inl (fun _ => 0)))), (xa40, .inl (kI, 4, .inl (fun _ => 0))), (ou, .inl (kJ, 1, .inr (.inl fo)))] sz) := by
  refine va_MetW (cc := cL_missing) (maxL := 5) (ret := (some .int)) (by decide) rfl ?_
  intro p e s m args0 below meth c s₁ B hml hv
  obtain ⟨hargs, hsz, hP, hE, hD0⟩ := hv
  have hx := B.exec
  have hb := B.bytes
  have hr := B.returns
  have hts := atoms_spec (ws := wsL_missing) B.pre
  have hown : s.vm.findClass RL = some m.cls := findClass_of_methodNamed B.named
  have hlocks := B.notSynchronized
  have hK := hE.1
  have hin10 : ∀ w ∈ wsX100, w ∈ wsL_missing := fun _ h9 => List.mem_cons_of_mem _ (List.mem_append_left _ (List.mem_append_left _ (List.mem_append_right _ h9)))
  have hin4 : ∀ w ∈ wsX40, w ∈ wsL_missing := fun _ h9 => List.mem_cons_of_mem _ (List.mem_append_left _ (List.mem_append_right _ h9))
  subst hsz
  have hD := hD0.self (sz := s.heap.size)
  generalize hAe : va_A [(h0, .inr (10, [.ref xa1, .ref xa3, .ref xa15, .ref xa27, .ref xa28, .ref xa33, .ref xa38, .ref xa41, .ref xa45, .ref xa46, .ref xa47, .ref xa52, .ref xa54, .int 0, .ref xa55, .ref xa60, .ref xa62, .ref xa67, .int (-1)])), (xa38, .inr (4, [.ref xa39, .ref xa40, .int 0])), (xa39, .inl (kJ, 23, .inr (.inl (fun _ => 0)))), (xa40, .inl (kI, 4, .inl (fun _ => 0))), (ou, .inl (kJ, 1, .inr (.inl fo)))] s.heap.size = A at hD ⊢
  have hA : ∀ q : Nat, s.heap.size ≤ q → A q := fun q h => by rw [← hAe]; exact Or.inr h
  have hS : va_S A s.heap s.heap [] := va_S.rf
  have hP : va_P (dC, dI) vwCl [(h0, .inr (10, [.ref xa1, .ref xa3, .ref xa15, .ref xa27, .ref xa28, .ref xa33, .ref xa38, .ref xa41, .ref xa45, .ref xa46, .ref xa47, .ref xa52, .ref xa54, .int 0, .ref xa55, .ref xa60, .ref xa62, .ref xa67, .int (-1)])), (xa38, .inr (4, [.ref xa39, .ref xa40, .int 0])), (xa39, .inl (kJ, 23, .inr (.inl (fun _ => 0)))), (xa40, .inl (kI, 4, .inl (fun _ => 0))), (ou, .inl (kJ, 1, .inr (.inl fo)))] s.heap := hP
  have hl := lv_entry ([.ref h0, .int (nI k), .int 4, .ref ou]) (n := 5) (Nat.le_of_ble_eq_true rfl)
  have hla : entryFrame m args0 5 = entryFrame m ([.ref h0, .int (nI k), .int 4, .ref ou] : List Value).toArray 5 := by rw [hargs]
  rw [hla, lg_entry_eq]
  generalize (lg_sl ([.ref h0, .int (nI k), .int 4, .ref ou]) ++ List.replicate (5 - (lg_sl ([.ref h0, .int (nI k), .int 4, .ref ou])).length) Slot.unset).toArray = ls at hl ⊢
  have hl : lv_has ls 5 [(0, .ref h0), (1, .int (nI k)), (2, .int 4), (3, .ref ou)] := hl
  refine lv_aload_n hx hb dL_missing_0 rfl (lv_at hl 3 rfl) ?_
  refine lv_iconst (v := 0) hx hb dL_missing_1 (by decide) ?_
  refine lv_aload_n hx hb dL_missing_2 rfl (lv_at hl 0 rfl) ?_
  refine lv_iload_n hx hb dL_missing_3 rfl (lv_at hl 1 rfl) ?_
  refine lv_iload_n hx hb dL_missing_4 rfl (lv_at hl 2 rfl) ?_
  have hPc := hP.sub (ws' := [(h0, .inr (10, [.ref xa1, .ref xa3, .ref xa15, .ref xa27, .ref xa28, .ref xa33, .ref xa38, .ref xa41, .ref xa45, .ref xa46, .ref xa47, .ref xa52, .ref xa54, .int 0, .ref xa55, .ref xa60, .ref xa62, .ref xa67, .int (-1)])), (xa38, .inr (4, [.ref xa39, .ref xa40, .int 0])), (xa39, .inl (kJ, 23, .inr (.inl (fun _ => 0)))), (xa40, .inl (kI, 4, .inl (fun _ => 0)))]) [0, 1, 2, 3] rfl
  have hDc := hD.sub (ws' := [(h0, .inr (10, [.ref xa1, .ref xa3, .ref xa15, .ref xa27, .ref xa28, .ref xa33, .ref xa38, .ref xa41, .ref xa45, .ref xa46, .ref xa47, .ref xa52, .ref xa54, .int 0, .ref xa55, .ref xa60, .ref xa62, .ref xa67, .int (-1)])), (xa38, .inr (4, [.ref xa39, .ref xa40, .int 0])), (xa39, .inl (kJ, 23, .inr (.inl (fun _ => 0)))), (xa40, .inl (kI, 4, .inl (fun _ => 0)))]) [0, 1, 2, 3] (by decide) rfl
  have hFc := va_free (wc := [(h0, .inr (10, [.ref xa1, .ref xa3, .ref xa15, .ref xa27, .ref xa28, .ref xa33, .ref xa38, .ref xa41, .ref xa45, .ref xa46, .ref xa47, .ref xa52, .ref xa54, .int 0, .ref xa55, .ref xa60, .ref xa62, .ref xa67, .int (-1)])), (xa38, .inr (4, [.ref xa39, .ref xa40, .int 0])), (xa39, .inl (kJ, 23, .inr (.inl (fun _ => 0)))), (xa40, .inl (kI, 4, .inl (fun _ => 0)))]) hD hS hA [0, 1, 2, 3] rfl
  refine va_calll (va_runV (As := [.int (nI k), .int 4]) (rest := [.int 0, .ref ou]) ⟨hx, hb, hml, hown, hts⟩ (k10_missing_4 l dC dI kB kI kJ kZ kC kS s.heap.size h0 xa1 xa3 xa15 xa27 xa28 xa33 xa38 xa41 xa45 xa46 xa47 xa52 xa54 xa55 xa60 xa62 xa67 xa39 xa40 k (hk)) (cwV 2 hts gL_missing_X10_missing rfl rfl rfl (by decide +kernel) ⟨Nat.le_of_ble_eq_true rfl, Nat.le_of_ble_eq_true rfl⟩) ⟨fun a U g mk q => by obtain ⟨q0, q1, qP, qE, qD⟩ := q; exact ⟨q0, q1, qP, kE_call qE, qD⟩, va_recv hK hP (ci := 10) (q0 := 0) rfl rfl, fun U hU hW => ⟨rfl, by rw [hU], by rw [hU]; exact hPc, kE_warm hW hE, hDc.weaken (fun _ _ _ _ => trivial)⟩⟩ rfl rfl hl.1 rfl (lv_room (Nat.le_of_ble_eq_true rfl)) dL_missing_5 ⟨Nat.le_of_ble_eq_true rfl, Nat.le_of_ble_eq_true rfl⟩) hS (fun q _ h => hFc q h) hFc (fun r1 u t H1 locs ht hvm w2 hB hz1 hk1 hS => ?_)
  obtain ⟨hP1, hD1⟩ := hB
  rw [ht] at hP1
  try dsimp only at w2
  obtain ⟨hP, hD⟩ := va_join (wr := [(ou, .inl (kJ, 1, .inr (.inl fo)))]) (w1 := []) hP hD [0, 1, 2, 3] [4] rfl rfl (by decide) (by decide) hk1 hFc hP1 hD1
  generalize H1 = H at hP hS ⊢
  have hP : va_P (dC, dI) vwCl [(ou, .inl (kJ, 1, .inr (.inl fo)))] H := hP
  have hD : va_D A [(ou, .inl (kJ, 1, .inr (.inl fo)))] := hD
  refine W.widen (k := 0) (n := 0) (Nat.le_of_ble_eq_true rfl) (Nat.le_of_ble_eq_true rfl) ?_
  subst w2
  refine va_last hx hb hK hP hD hS 0 2 rfl rfl (vp_in_nI (n := 0) (by decide) (by decide)) dL_missing_8 (fun H locs hP hD hS => ?_)
  have hP : va_P (dC, dI) vwCl [(ou, .inl (kJ, 1, .inr (.inl (vp_updL fo 0 (1000000000000 - kv4 k 4)))))] H := hP
  have hD : va_D A [(ou, .inl (kJ, 1, .inr (.inl (vp_updL fo 0 (1000000000000 - kv4 k 4)))))] := hD
  refine lv_goto (tgt := 16) hx hb dL_missing_9 (by decide) ?_
  refine lv_iconst (v := 0) hx hb dL_missing_16 (by decide) ?_
  have hP9 := hP.sub (ws' := [(ou, .inl (kJ, 1, .inr (.inl (vp_updL fo 0 (1000000000000 - kv4 k 4)))))]) [0] rfl
  have hD9 := hD.sub (ws' := [(ou, .inl (kJ, 1, .inr (.inl (vp_updL fo 0 (1000000000000 - kv4 k 4)))))]) [0] (by decide) rfl
  exact W.iret (v := 0) hx hb hr (fun t ht hW => ⟨⟨0, (), rfl, rfl, vp_updL fo 0 (1000000000000 - kv4 k 4), rfl, by rw [ht]; exact hP9, hD9⟩, hS.F ht⟩) hS.2.2 dL_missing_17
def rm_kL10_missing_5 : Room := { frames := 3, cells := 0, slots := 0, locals := 69 }
set_option maxHeartbeats 4000000 in
set_option maxRecDepth 100000 in
theorem kL10_missing_5 (l : Launch) (dC : Nat → ClassId) (dI : Nat → Nat → Nat) (kB kI kJ kZ kC kS : ClassId) (sz : Nat) (h0 : Nat) (xa1 : Nat) (xa3 : Nat) (xa15 : Nat) (xa27 : Nat) (xa28 : Nat) (xa33 : Nat) (xa38 : Nat) (xa41 : Nat) (xa45 : Nat) (xa46 : Nat) (xa47 : Nat) (xa52 : Nat) (xa54 : Nat) (xa55 : Nat) (xa60 : Nat) (xa62 : Nat) (xa67 : Nat) (xa39 : Nat) (xa40 : Nat) (k : Nat) (ou : Nat) (fo : Nat → Int64) (hk : k ≤ 60) : Met l yL_missing wsL_missing rm_kL10_missing_5 (va_Pc [.ref h0, .int (nI k), .int 5, .ref ou] (fun U => U.heap.size = sz ∧ va_P (dC, dI) vwCl [(h0, .inr (10, [.ref xa1, .ref xa3, .ref xa15, .ref xa27, .ref xa28, .ref xa33, .ref xa38, .ref xa41, .ref xa45, .ref xa46, .ref xa47, .ref xa52, .ref xa54, .int 0, .ref xa55, .ref xa60, .ref xa62, .ref xa67, .int (-1)])), (xa38, .inr (4, [.ref xa39, .ref xa40, .int 0])), (xa39, .inl (kJ, 23, .inr (.inl (fun _ => 0)))), (xa40, .inl (kI, 4, .inl (fun _ => 0))), (ou, .inl (kJ, 1, .inr (.inl fo)))] U.heap ∧ kE dC dI kB kI kJ kZ kC kS U ∧ va_D (fun _ => True) [(h0, .inr (10, [.ref xa1, .ref xa3, .ref xa15, .ref xa27, .ref xa28, .ref xa33, .ref xa38, .ref xa41, .ref xa45, .ref xa46, .ref xa47, .ref xa52, .ref xa54, .int 0, .ref xa55, .ref xa60, .ref xa62, .ref xa67, .int (-1)])), (xa38, .inr (4, [.ref xa39, .ref xa40, .int 0])), (xa39, .inl (kJ, 23, .inr (.inl (fun _ => 0)))), (xa40, .inl (kI, 4, .inl (fun _ => 0))), (ou, .inl (kJ, 1, .inr (.inl fo)))])) (va_Qi (fun (r : Int32) (_ : Unit) => r = 0) (fun _ t => ∃ (g1 : Nat → Int64), g1 0 = 1000000000000 - kv5 k 5 ∧ va_P (dC, dI) vwCl [(ou, .inl (kJ, 1, .inr (.inl g1)))] t.heap ∧ va_D (va_A [(h0, .inr (10, [.ref xa1, .ref xa3, .ref xa15, .ref xa27, .ref xa28, .ref xa33, .ref xa38, .ref xa41, .ref xa45, .ref xa46, .ref xa47, .ref xa52, .ref xa54, .int 0, .ref xa55, .ref xa60, .ref xa62, .ref xa67, .int (-1)])), (xa38, .inr (4, [.ref xa39, .ref xa40, .int 0])), (xa39, .inl (kJ, 23, .inr (.inl (fun _ => 0)))), (xa40, .inl (kI, 4, .inl (fun _ => 0))), (ou, .inl (kJ, 1, .inr (.inl fo)))] sz) [(ou, .inl (kJ, 1, .inr (.inl g1)))]) (va_A [(h0, .inr (10, [.ref xa1, .ref xa3, .ref xa15, .ref xa27, .ref xa28, .ref xa33, .ref xa38, .ref xa41, .ref xa45, .ref xa46, .ref xa47, .ref xa52, .ref xa54, .int 0, .ref xa55, .ref xa60, .ref xa62, .ref xa67, .int (-1)])), (xa38, .inr (4, [.ref xa39, .ref xa40, .int 0])), (xa39, .inl (kJ, 23, .inr (.inl (fun _ => 0)))), (xa40, .inl (kI, 4, .inl (fun _ => 0))), (ou, .inl (kJ, 1, .inr (.inl fo)))] sz)) 0 0 (va_A [(h0, .inr (10, [.ref xa1, .ref xa3, .ref xa15, .ref xa27, .ref xa28, .ref xa33, .ref xa38, .ref xa41, .ref xa45, .ref xa46, .ref xa47, .ref xa52, .ref xa54, .int 0, .ref xa55, .ref xa60, .ref xa62, .ref xa67, .int (-1)])), (xa38, .inr (4, [.ref xa39, .ref xa40, .int 0])), (xa39, .inl (kJ, 23, .inr (.inl (fun _ => 0)))), (xa40, .inl (kI, 4, .inl (fun _ => 0))), (ou, .inl (kJ, 1, .inr (.inl fo)))] sz) := by
  refine va_MetW (cc := cL_missing) (maxL := 5) (ret := (some .int)) (by decide) rfl ?_
  intro p e s m args0 below meth c s₁ B hml hv
  obtain ⟨hargs, hsz, hP, hE, hD0⟩ := hv
  have hx := B.exec
  have hb := B.bytes
  have hr := B.returns
  have hts := atoms_spec (ws := wsL_missing) B.pre
  have hown : s.vm.findClass RL = some m.cls := findClass_of_methodNamed B.named
  have hlocks := B.notSynchronized
  have hK := hE.1
  have hin10 : ∀ w ∈ wsX100, w ∈ wsL_missing := fun _ h9 => List.mem_cons_of_mem _ (List.mem_append_left _ (List.mem_append_left _ (List.mem_append_right _ h9)))
  have hin4 : ∀ w ∈ wsX40, w ∈ wsL_missing := fun _ h9 => List.mem_cons_of_mem _ (List.mem_append_left _ (List.mem_append_right _ h9))
  subst hsz
  have hD := hD0.self (sz := s.heap.size)
  generalize hAe : va_A [(h0, .inr (10, [.ref xa1, .ref xa3, .ref xa15, .ref xa27, .ref xa28, .ref xa33, .ref xa38, .ref xa41, .ref xa45, .ref xa46, .ref xa47, .ref xa52, .ref xa54, .int 0, .ref xa55, .ref xa60, .ref xa62, .ref xa67, .int (-1)])), (xa38, .inr (4, [.ref xa39, .ref xa40, .int 0])), (xa39, .inl (kJ, 23, .inr (.inl (fun _ => 0)))), (xa40, .inl (kI, 4, .inl (fun _ => 0))), (ou, .inl (kJ, 1, .inr (.inl fo)))] s.heap.size = A at hD ⊢
  have hA : ∀ q : Nat, s.heap.size ≤ q → A q := fun q h => by rw [← hAe]; exact Or.inr h
  have hS : va_S A s.heap s.heap [] := va_S.rf
  have hP : va_P (dC, dI) vwCl [(h0, .inr (10, [.ref xa1, .ref xa3, .ref xa15, .ref xa27, .ref xa28, .ref xa33, .ref xa38, .ref xa41, .ref xa45, .ref xa46, .ref xa47, .ref xa52, .ref xa54, .int 0, .ref xa55, .ref xa60, .ref xa62, .ref xa67, .int (-1)])), (xa38, .inr (4, [.ref xa39, .ref xa40, .int 0])), (xa39, .inl (kJ, 23, .inr (.inl (fun _ => 0)))), (xa40, .inl (kI, 4, .inl (fun _ => 0))), (ou, .inl (kJ, 1, .inr (.inl fo)))] s.heap := hP
  have hl := lv_entry ([.ref h0, .int (nI k), .int 5, .ref ou]) (n := 5) (Nat.le_of_ble_eq_true rfl)
  have hla : entryFrame m args0 5 = entryFrame m ([.ref h0, .int (nI k), .int 5, .ref ou] : List Value).toArray 5 := by rw [hargs]
  rw [hla, lg_entry_eq]
  generalize (lg_sl ([.ref h0, .int (nI k), .int 5, .ref ou]) ++ List.replicate (5 - (lg_sl ([.ref h0, .int (nI k), .int 5, .ref ou])).length) Slot.unset).toArray = ls at hl ⊢
  have hl : lv_has ls 5 [(0, .ref h0), (1, .int (nI k)), (2, .int 5), (3, .ref ou)] := hl
  refine lv_aload_n hx hb dL_missing_0 rfl (lv_at hl 3 rfl) ?_
  refine lv_iconst (v := 0) hx hb dL_missing_1 (by decide) ?_
  refine lv_aload_n hx hb dL_missing_2 rfl (lv_at hl 0 rfl) ?_
  refine lv_iload_n hx hb dL_missing_3 rfl (lv_at hl 1 rfl) ?_
  refine lv_iload_n hx hb dL_missing_4 rfl (lv_at hl 2 rfl) ?_
  have hPc := hP.sub (ws' := [(h0, .inr (10, [.ref xa1, .ref xa3, .ref xa15, .ref xa27, .ref xa28, .ref xa33, .ref xa38, .ref xa41, .ref xa45, .ref xa46, .ref xa47, .ref xa52, .ref xa54, .int 0, .ref xa55, .ref xa60, .ref xa62, .ref xa67, .int (-1)])), (xa38, .inr (4, [.ref xa39, .ref xa40, .int 0])), (xa39, .inl (kJ, 23, .inr (.inl (fun _ => 0)))), (xa40, .inl (kI, 4, .inl (fun _ => 0)))]) [0, 1, 2, 3] rfl
  have hDc := hD.sub (ws' := [(h0, .inr (10, [.ref xa1, .ref xa3, .ref xa15, .ref xa27, .ref xa28, .ref xa33, .ref xa38, .ref xa41, .ref xa45, .ref xa46, .ref xa47, .ref xa52, .ref xa54, .int 0, .ref xa55, .ref xa60, .ref xa62, .ref xa67, .int (-1)])), (xa38, .inr (4, [.ref xa39, .ref xa40, .int 0])), (xa39, .inl (kJ, 23, .inr (.inl (fun _ => 0)))), (xa40, .inl (kI, 4, .inl (fun _ => 0)))]) [0, 1, 2, 3] (by decide) rfl
  have hFc := va_free (wc := [(h0, .inr (10, [.ref xa1, .ref xa3, .ref xa15, .ref xa27, .ref xa28, .ref xa33, .ref xa38, .ref xa41, .ref xa45, .ref xa46, .ref xa47, .ref xa52, .ref xa54, .int 0, .ref xa55, .ref xa60, .ref xa62, .ref xa67, .int (-1)])), (xa38, .inr (4, [.ref xa39, .ref xa40, .int 0])), (xa39, .inl (kJ, 23, .inr (.inl (fun _ => 0)))), (xa40, .inl (kI, 4, .inl (fun _ => 0)))]) hD hS hA [0, 1, 2, 3] rfl
  refine va_calll (va_runV (As := [.int (nI k), .int 5]) (rest := [.int 0, .ref ou]) ⟨hx, hb, hml, hown, hts⟩ (k10_missing_5 l dC dI kB kI kJ kZ kC kS s.heap.size h0 xa1 xa3 xa15 xa27 xa28 xa33 xa38 xa41 xa45 xa46 xa47 xa52 xa54 xa55 xa60 xa62 xa67 xa39 xa40 k (hk)) (cwV 2 hts gL_missing_X10_missing rfl rfl rfl (by decide +kernel) ⟨Nat.le_of_ble_eq_true rfl, Nat.le_of_ble_eq_true rfl⟩) ⟨fun a U g mk q => by obtain ⟨q0, q1, qP, qE, qD⟩ := q; exact ⟨q0, q1, qP, kE_call qE, qD⟩, va_recv hK hP (ci := 10) (q0 := 0) rfl rfl, fun U hU hW => ⟨rfl, by rw [hU], by rw [hU]; exact hPc, kE_warm hW hE, hDc.weaken (fun _ _ _ _ => trivial)⟩⟩ rfl rfl hl.1 rfl (lv_room (Nat.le_of_ble_eq_true rfl)) dL_missing_5 ⟨Nat.le_of_ble_eq_true rfl, Nat.le_of_ble_eq_true rfl⟩) hS (fun q _ h => hFc q h) hFc (fun r1 u t H1 locs ht hvm w2 hB hz1 hk1 hS => ?_)
  obtain ⟨hP1, hD1⟩ := hB
  rw [ht] at hP1
  try dsimp only at w2
  obtain ⟨hP, hD⟩ := va_join (wr := [(ou, .inl (kJ, 1, .inr (.inl fo)))]) (w1 := []) hP hD [0, 1, 2, 3] [4] rfl rfl (by decide) (by decide) hk1 hFc hP1 hD1
  generalize H1 = H at hP hS ⊢
  have hP : va_P (dC, dI) vwCl [(ou, .inl (kJ, 1, .inr (.inl fo)))] H := hP
  have hD : va_D A [(ou, .inl (kJ, 1, .inr (.inl fo)))] := hD
  refine W.widen (k := 0) (n := 0) (Nat.le_of_ble_eq_true rfl) (Nat.le_of_ble_eq_true rfl) ?_
  subst w2
  refine va_last hx hb hK hP hD hS 0 2 rfl rfl (vp_in_nI (n := 0) (by decide) (by decide)) dL_missing_8 (fun H locs hP hD hS => ?_)
  have hP : va_P (dC, dI) vwCl [(ou, .inl (kJ, 1, .inr (.inl (vp_updL fo 0 (1000000000000 - kv5 k 5)))))] H := hP
  have hD : va_D A [(ou, .inl (kJ, 1, .inr (.inl (vp_updL fo 0 (1000000000000 - kv5 k 5)))))] := hD
  refine lv_goto (tgt := 16) hx hb dL_missing_9 (by decide) ?_
  refine lv_iconst (v := 0) hx hb dL_missing_16 (by decide) ?_
  have hP9 := hP.sub (ws' := [(ou, .inl (kJ, 1, .inr (.inl (vp_updL fo 0 (1000000000000 - kv5 k 5)))))]) [0] rfl
  have hD9 := hD.sub (ws' := [(ou, .inl (kJ, 1, .inr (.inl (vp_updL fo 0 (1000000000000 - kv5 k 5)))))]) [0] (by decide) rfl
  exact W.iret (v := 0) hx hb hr (fun t ht hW => ⟨⟨0, (), rfl, rfl, vp_updL fo 0 (1000000000000 - kv5 k 5), rfl, by rw [ht]; exact hP9, hD9⟩, hS.F ht⟩) hS.2.2 dL_missing_17
def rm_kL10_years_0 : Room := { frames := 3, cells := 0, slots := 0, locals := 106 }
set_option maxHeartbeats 4000000 in
set_option maxRecDepth 100000 in
theorem kL10_years_0 (l : Launch) (dC : Nat → ClassId) (dI : Nat → Nat → Nat) (kB kI kJ kZ kC kS : ClassId) (sz : Nat) (h0 : Nat) (xa1 : Nat) (xa3 : Nat) (xa15 : Nat) (xa27 : Nat) (xa28 : Nat) (xa33 : Nat) (xa38 : Nat) (xa41 : Nat) (xa45 : Nat) (xa46 : Nat) (xa47 : Nat) (xa52 : Nat) (xa54 : Nat) (xa55 : Nat) (xa60 : Nat) (xa62 : Nat) (xa67 : Nat) (xa29 : Nat) (xa30 : Nat) (xa31 : Nat) (xa32 : Nat) (xa34 : Nat) (xa35 : Nat) (xa36 : Nat) (xa37 : Nat) (xa4 : Nat) (xa5 : Nat) (xa6 : Nat) (xa7 : Nat) (xa8 : Nat) (xa9 : Nat) (xa10 : Nat) (xa11 : Nat) (xa12 : Nat) (xa13 : Nat) (xa14 : Nat) (xa42 : Nat) (xa43 : Nat) (xa44 : Nat) (p0 : Int32) (k : Nat) (ou : Nat) (fo : Nat → Int64) (hk : k ≤ 40) : Met l yL_years wsL_years rm_kL10_years_0 (va_Pc [.ref h0, .int p0, .int (nI k), .int 0, .ref ou] (fun U => U.heap.size = sz ∧ va_P (dC, dI) vwCl [(h0, .inr (10, [.ref xa1, .ref xa3, .ref xa15, .ref xa27, .ref xa28, .ref xa33, .ref xa38, .ref xa41, .ref xa45, .ref xa46, .ref xa47, .ref xa52, .ref xa54, .int 0, .ref xa55, .ref xa60, .ref xa62, .ref xa67, .int (-1)])), (xa28, .inr (0, [.ref xa29, .ref xa30, .ref xa31, .ref xa32, .int 5, .int 0, .int 0, .int 0, .int 0, .int 0])), (xa29, .inl (kJ, 96, .inr (.inl (fun _ => 0)))), (xa30, .inl (kI, 30, .inl (fun _ => 0))), (xa31, .inl (kI, 12, .inl (fun _ => 0))), (xa32, .inl (kI, 12, .inl (fun _ => 0))), (xa33, .inr (0, [.ref xa34, .ref xa35, .ref xa36, .ref xa37, .int 5, .int 0, .int 0, .int 0, .int 0, .int 0])), (xa34, .inl (kJ, 96, .inr (.inl (fun _ => 0)))), (xa35, .inl (kI, 30, .inl (fun _ => 0))), (xa36, .inl (kI, 12, .inl (fun _ => 0))), (xa37, .inl (kI, 12, .inl (fun _ => 0))), (xa46, .inr (6, [.ref xa3, .ref xa28, .ref xa45, .ref xa38, .int 0])), (xa3, .inr (2, [.ref xa4, .ref xa5, .ref xa6, .ref xa7, .ref xa8, .ref xa9, .ref xa10, .int 0, .int 0, .int 0, .int 5, .ref xa11, .ref xa12, .ref xa13, .ref xa14])), (xa41, .inr (7, [.ref xa3, .ref xa28, .ref xa42, .ref xa43, .ref xa44])), (ou, .inl (kJ, 1, .inr (.inl fo)))] U.heap ∧ kE dC dI kB kI kJ kZ kC kS U ∧ va_D (fun _ => True) [(h0, .inr (10, [.ref xa1, .ref xa3, .ref xa15, .ref xa27, .ref xa28, .ref xa33, .ref xa38, .ref xa41, .ref xa45, .ref xa46, .ref xa47, .ref xa52, .ref xa54, .int 0, .ref xa55, .ref xa60, .ref xa62, .ref xa67, .int (-1)])), (xa28, .inr (0, [.ref xa29, .ref xa30, .ref xa31, .ref xa32, .int 5, .int 0, .int 0, .int 0, .int 0, .int 0])), (xa29, .inl (kJ, 96, .inr (.inl (fun _ => 0)))), (xa30, .inl (kI, 30, .inl (fun _ => 0))), (xa31, .inl (kI, 12, .inl (fun _ => 0))), (xa32, .inl (kI, 12, .inl (fun _ => 0))), (xa33, .inr (0, [.ref xa34, .ref xa35, .ref xa36, .ref xa37, .int 5, .int 0, .int 0, .int 0, .int 0, .int 0])), (xa34, .inl (kJ, 96, .inr (.inl (fun _ => 0)))), (xa35, .inl (kI, 30, .inl (fun _ => 0))), (xa36, .inl (kI, 12, .inl (fun _ => 0))), (xa37, .inl (kI, 12, .inl (fun _ => 0))), (xa46, .inr (6, [.ref xa3, .ref xa28, .ref xa45, .ref xa38, .int 0])), (xa3, .inr (2, [.ref xa4, .ref xa5, .ref xa6, .ref xa7, .ref xa8, .ref xa9, .ref xa10, .int 0, .int 0, .int 0, .int 5, .ref xa11, .ref xa12, .ref xa13, .ref xa14])), (xa41, .inr (7, [.ref xa3, .ref xa28, .ref xa42, .ref xa43, .ref xa44])), (ou, .inl (kJ, 1, .inr (.inl fo)))])) (va_Qi (fun (r : Int32) (_ : Unit) => r = 0) (fun _ t => ∃ (g1 : Nat → Int64), g1 0 = 0 ∧ va_P (dC, dI) vwCl [(ou, .inl (kJ, 1, .inr (.inl g1)))] t.heap ∧ va_D (va_A [(h0, .inr (10, [.ref xa1, .ref xa3, .ref xa15, .ref xa27, .ref xa28, .ref xa33, .ref xa38, .ref xa41, .ref xa45, .ref xa46, .ref xa47, .ref xa52, .ref xa54, .int 0, .ref xa55, .ref xa60, .ref xa62, .ref xa67, .int (-1)])), (xa28, .inr (0, [.ref xa29, .ref xa30, .ref xa31, .ref xa32, .int 5, .int 0, .int 0, .int 0, .int 0, .int 0])), (xa29, .inl (kJ, 96, .inr (.inl (fun _ => 0)))), (xa30, .inl (kI, 30, .inl (fun _ => 0))), (xa31, .inl (kI, 12, .inl (fun _ => 0))), (xa32, .inl (kI, 12, .inl (fun _ => 0))), (xa33, .inr (0, [.ref xa34, .ref xa35, .ref xa36, .ref xa37, .int 5, .int 0, .int 0, .int 0, .int 0, .int 0])), (xa34, .inl (kJ, 96, .inr (.inl (fun _ => 0)))), (xa35, .inl (kI, 30, .inl (fun _ => 0))), (xa36, .inl (kI, 12, .inl (fun _ => 0))), (xa37, .inl (kI, 12, .inl (fun _ => 0))), (xa46, .inr (6, [.ref xa3, .ref xa28, .ref xa45, .ref xa38, .int 0])), (xa3, .inr (2, [.ref xa4, .ref xa5, .ref xa6, .ref xa7, .ref xa8, .ref xa9, .ref xa10, .int 0, .int 0, .int 0, .int 5, .ref xa11, .ref xa12, .ref xa13, .ref xa14])), (xa41, .inr (7, [.ref xa3, .ref xa28, .ref xa42, .ref xa43, .ref xa44])), (ou, .inl (kJ, 1, .inr (.inl fo)))] sz) [(ou, .inl (kJ, 1, .inr (.inl g1)))]) (va_A [(h0, .inr (10, [.ref xa1, .ref xa3, .ref xa15, .ref xa27, .ref xa28, .ref xa33, .ref xa38, .ref xa41, .ref xa45, .ref xa46, .ref xa47, .ref xa52, .ref xa54, .int 0, .ref xa55, .ref xa60, .ref xa62, .ref xa67, .int (-1)])), (xa28, .inr (0, [.ref xa29, .ref xa30, .ref xa31, .ref xa32, .int 5, .int 0, .int 0, .int 0, .int 0, .int 0])), (xa29, .inl (kJ, 96, .inr (.inl (fun _ => 0)))), (xa30, .inl (kI, 30, .inl (fun _ => 0))), (xa31, .inl (kI, 12, .inl (fun _ => 0))), (xa32, .inl (kI, 12, .inl (fun _ => 0))), (xa33, .inr (0, [.ref xa34, .ref xa35, .ref xa36, .ref xa37, .int 5, .int 0, .int 0, .int 0, .int 0, .int 0])), (xa34, .inl (kJ, 96, .inr (.inl (fun _ => 0)))), (xa35, .inl (kI, 30, .inl (fun _ => 0))), (xa36, .inl (kI, 12, .inl (fun _ => 0))), (xa37, .inl (kI, 12, .inl (fun _ => 0))), (xa46, .inr (6, [.ref xa3, .ref xa28, .ref xa45, .ref xa38, .int 0])), (xa3, .inr (2, [.ref xa4, .ref xa5, .ref xa6, .ref xa7, .ref xa8, .ref xa9, .ref xa10, .int 0, .int 0, .int 0, .int 5, .ref xa11, .ref xa12, .ref xa13, .ref xa14])), (xa41, .inr (7, [.ref xa3, .ref xa28, .ref xa42, .ref xa43, .ref xa44])), (ou, .inl (kJ, 1, .inr (.inl fo)))] sz)) 0 0 (va_A [(h0, .inr (10, [.ref xa1, .ref xa3, .ref xa15, .ref xa27, .ref xa28, .ref xa33, .ref xa38, .ref xa41, .ref xa45, .ref xa46, .ref xa47, .ref xa52, .ref xa54, .int 0, .ref xa55, .ref xa60, .ref xa62, .ref xa67, .int (-1)])), (xa28, .inr (0, [.ref xa29, .ref xa30, .ref xa31, .ref xa32, .int 5, .int 0, .int 0, .int 0, .int 0, .int 0])), (xa29, .inl (kJ, 96, .inr (.inl (fun _ => 0)))), (xa30, .inl (kI, 30, .inl (fun _ => 0))), (xa31, .inl (kI, 12, .inl (fun _ => 0))), (xa32, .inl (kI, 12, .inl (fun _ => 0))), (xa33, .inr (0, [.ref xa34, .ref xa35, .ref xa36, .ref xa37, .int 5, .int 0, .int 0, .int 0, .int 0, .int 0])), (xa34, .inl (kJ, 96, .inr (.inl (fun _ => 0)))), (xa35, .inl (kI, 30, .inl (fun _ => 0))), (xa36, .inl (kI, 12, .inl (fun _ => 0))), (xa37, .inl (kI, 12, .inl (fun _ => 0))), (xa46, .inr (6, [.ref xa3, .ref xa28, .ref xa45, .ref xa38, .int 0])), (xa3, .inr (2, [.ref xa4, .ref xa5, .ref xa6, .ref xa7, .ref xa8, .ref xa9, .ref xa10, .int 0, .int 0, .int 0, .int 5, .ref xa11, .ref xa12, .ref xa13, .ref xa14])), (xa41, .inr (7, [.ref xa3, .ref xa28, .ref xa42, .ref xa43, .ref xa44])), (ou, .inl (kJ, 1, .inr (.inl fo)))] sz) := by
  refine va_MetW (cc := cL_years) (maxL := 6) (ret := (some .int)) (by decide) rfl ?_
  intro p e s m args0 below meth c s₁ B hml hv
  obtain ⟨hargs, hsz, hP, hE, hD0⟩ := hv
  have hx := B.exec
  have hb := B.bytes
  have hr := B.returns
  have hts := atoms_spec (ws := wsL_years) B.pre
  have hown : s.vm.findClass RL = some m.cls := findClass_of_methodNamed B.named
  have hlocks := B.notSynchronized
  have hK := hE.1
  have hin10 : ∀ w ∈ wsX100, w ∈ wsL_years := fun _ h9 => List.mem_cons_of_mem _ (List.mem_append_left _ (List.mem_append_left _ (List.mem_append_left _ (List.mem_append_left _ (List.mem_append_left _ (List.mem_append_left _ (List.mem_append_left _ (List.mem_append_left _ (List.mem_append_right _ h9)))))))))
  have hin6 : ∀ w ∈ wsX60, w ∈ wsL_years := fun _ h9 => List.mem_cons_of_mem _ (List.mem_append_left _ (List.mem_append_left _ (List.mem_append_left _ (List.mem_append_left _ (List.mem_append_left _ (List.mem_append_left _ (List.mem_append_left _ (List.mem_append_right _ h9))))))))
  have hin0 : ∀ w ∈ wsX00, w ∈ wsL_years := fun _ h9 => List.mem_cons_of_mem _ (List.mem_append_left _ (List.mem_append_left _ (List.mem_append_left _ (List.mem_append_left _ (List.mem_append_left _ (List.mem_append_left _ (List.mem_append_right _ h9)))))))
  have hin2 : ∀ w ∈ wsX20, w ∈ wsL_years := fun _ h9 => List.mem_cons_of_mem _ (List.mem_append_left _ (List.mem_append_left _ (List.mem_append_left _ (List.mem_append_left _ (List.mem_append_left _ (List.mem_append_right _ h9))))))
  have hin4 : ∀ w ∈ wsX40, w ∈ wsL_years := fun _ h9 => List.mem_cons_of_mem _ (List.mem_append_left _ (List.mem_append_left _ (List.mem_append_left _ (List.mem_append_left _ (List.mem_append_right _ h9)))))
  have hin9 : ∀ w ∈ wsX90, w ∈ wsL_years := fun _ h9 => List.mem_cons_of_mem _ (List.mem_append_left _ (List.mem_append_left _ (List.mem_append_left _ (List.mem_append_right _ h9))))
  have hin7 : ∀ w ∈ wsX70, w ∈ wsL_years := fun _ h9 => List.mem_cons_of_mem _ (List.mem_append_left _ (List.mem_append_left _ (List.mem_append_right _ h9)))
  subst hsz
  have hD := hD0.self (sz := s.heap.size)
  generalize hAe : va_A [(h0, .inr (10, [.ref xa1, .ref xa3, .ref xa15, .ref xa27, .ref xa28, .ref xa33, .ref xa38, .ref xa41, .ref xa45, .ref xa46, .ref xa47, .ref xa52, .ref xa54, .int 0, .ref xa55, .ref xa60, .ref xa62, .ref xa67, .int (-1)])), (xa28, .inr (0, [.ref xa29, .ref xa30, .ref xa31, .ref xa32, .int 5, .int 0, .int 0, .int 0, .int 0, .int 0])), (xa29, .inl (kJ, 96, .inr (.inl (fun _ => 0)))), (xa30, .inl (kI, 30, .inl (fun _ => 0))), (xa31, .inl (kI, 12, .inl (fun _ => 0))), (xa32, .inl (kI, 12, .inl (fun _ => 0))), (xa33, .inr (0, [.ref xa34, .ref xa35, .ref xa36, .ref xa37, .int 5, .int 0, .int 0, .int 0, .int 0, .int 0])), (xa34, .inl (kJ, 96, .inr (.inl (fun _ => 0)))), (xa35, .inl (kI, 30, .inl (fun _ => 0))), (xa36, .inl (kI, 12, .inl (fun _ => 0))), (xa37, .inl (kI, 12, .inl (fun _ => 0))), (xa46, .inr (6, [.ref xa3, .ref xa28, .ref xa45, .ref xa38, .int 0])), (xa3, .inr (2, [.ref xa4, .ref xa5, .ref xa6, .ref xa7, .ref xa8, .ref xa9, .ref xa10, .int 0, .int 0, .int 0, .int 5, .ref xa11, .ref xa12, .ref xa13, .ref xa14])), (xa41, .inr (7, [.ref xa3, .ref xa28, .ref xa42, .ref xa43, .ref xa44])), (ou, .inl (kJ, 1, .inr (.inl fo)))] s.heap.size = A at hD ⊢
  have hA : ∀ q : Nat, s.heap.size ≤ q → A q := fun q h => by rw [← hAe]; exact Or.inr h
  have hS : va_S A s.heap s.heap [] := va_S.rf
  have hP : va_P (dC, dI) vwCl [(h0, .inr (10, [.ref xa1, .ref xa3, .ref xa15, .ref xa27, .ref xa28, .ref xa33, .ref xa38, .ref xa41, .ref xa45, .ref xa46, .ref xa47, .ref xa52, .ref xa54, .int 0, .ref xa55, .ref xa60, .ref xa62, .ref xa67, .int (-1)])), (xa28, .inr (0, [.ref xa29, .ref xa30, .ref xa31, .ref xa32, .int 5, .int 0, .int 0, .int 0, .int 0, .int 0])), (xa29, .inl (kJ, 96, .inr (.inl (fun _ => 0)))), (xa30, .inl (kI, 30, .inl (fun _ => 0))), (xa31, .inl (kI, 12, .inl (fun _ => 0))), (xa32, .inl (kI, 12, .inl (fun _ => 0))), (xa33, .inr (0, [.ref xa34, .ref xa35, .ref xa36, .ref xa37, .int 5, .int 0, .int 0, .int 0, .int 0, .int 0])), (xa34, .inl (kJ, 96, .inr (.inl (fun _ => 0)))), (xa35, .inl (kI, 30, .inl (fun _ => 0))), (xa36, .inl (kI, 12, .inl (fun _ => 0))), (xa37, .inl (kI, 12, .inl (fun _ => 0))), (xa46, .inr (6, [.ref xa3, .ref xa28, .ref xa45, .ref xa38, .int 0])), (xa3, .inr (2, [.ref xa4, .ref xa5, .ref xa6, .ref xa7, .ref xa8, .ref xa9, .ref xa10, .int 0, .int 0, .int 0, .int 5, .ref xa11, .ref xa12, .ref xa13, .ref xa14])), (xa41, .inr (7, [.ref xa3, .ref xa28, .ref xa42, .ref xa43, .ref xa44])), (ou, .inl (kJ, 1, .inr (.inl fo)))] s.heap := hP
  have hl := lv_entry ([.ref h0, .int p0, .int (nI k), .int 0, .ref ou]) (n := 6) (Nat.le_of_ble_eq_true rfl)
  have hla : entryFrame m args0 6 = entryFrame m ([.ref h0, .int p0, .int (nI k), .int 0, .ref ou] : List Value).toArray 6 := by rw [hargs]
  rw [hla, lg_entry_eq]
  generalize (lg_sl ([.ref h0, .int p0, .int (nI k), .int 0, .ref ou]) ++ List.replicate (6 - (lg_sl ([.ref h0, .int p0, .int (nI k), .int 0, .ref ou])).length) Slot.unset).toArray = ls at hl ⊢
  have hl : lv_has ls 6 [(0, .ref h0), (1, .int p0), (2, .int (nI k)), (3, .int 0), (4, .ref ou)] := hl
  refine lv_aload hx hb dL_years_0 (lv_at hl 4 rfl) ?_
  refine lv_iconst (v := 0) hx hb dL_years_2 (by decide) ?_
  refine lv_aload_n hx hb dL_years_3 rfl (lv_at hl 0 rfl) ?_
  refine lv_iload_n hx hb dL_years_4 rfl (lv_at hl 1 rfl) ?_
  refine lv_iload_n hx hb dL_years_5 rfl (lv_at hl 2 rfl) ?_
  refine lv_iload_n hx hb dL_years_6 rfl (lv_at hl 3 rfl) ?_
  have hPc := hP.sub (ws' := [(h0, .inr (10, [.ref xa1, .ref xa3, .ref xa15, .ref xa27, .ref xa28, .ref xa33, .ref xa38, .ref xa41, .ref xa45, .ref xa46, .ref xa47, .ref xa52, .ref xa54, .int 0, .ref xa55, .ref xa60, .ref xa62, .ref xa67, .int (-1)])), (xa28, .inr (0, [.ref xa29, .ref xa30, .ref xa31, .ref xa32, .int 5, .int 0, .int 0, .int 0, .int 0, .int 0])), (xa29, .inl (kJ, 96, .inr (.inl (fun _ => 0)))), (xa30, .inl (kI, 30, .inl (fun _ => 0))), (xa31, .inl (kI, 12, .inl (fun _ => 0))), (xa32, .inl (kI, 12, .inl (fun _ => 0))), (xa33, .inr (0, [.ref xa34, .ref xa35, .ref xa36, .ref xa37, .int 5, .int 0, .int 0, .int 0, .int 0, .int 0])), (xa34, .inl (kJ, 96, .inr (.inl (fun _ => 0)))), (xa35, .inl (kI, 30, .inl (fun _ => 0))), (xa36, .inl (kI, 12, .inl (fun _ => 0))), (xa37, .inl (kI, 12, .inl (fun _ => 0))), (xa46, .inr (6, [.ref xa3, .ref xa28, .ref xa45, .ref xa38, .int 0])), (xa3, .inr (2, [.ref xa4, .ref xa5, .ref xa6, .ref xa7, .ref xa8, .ref xa9, .ref xa10, .int 0, .int 0, .int 0, .int 5, .ref xa11, .ref xa12, .ref xa13, .ref xa14])), (xa41, .inr (7, [.ref xa3, .ref xa28, .ref xa42, .ref xa43, .ref xa44]))]) [0, 1, 2, 3, 4, 5, 6, 7, 8, 9, 10, 11, 12, 13] rfl
  have hDc := hD.sub (ws' := [(h0, .inr (10, [.ref xa1, .ref xa3, .ref xa15, .ref xa27, .ref xa28, .ref xa33, .ref xa38, .ref xa41, .ref xa45, .ref xa46, .ref xa47, .ref xa52, .ref xa54, .int 0, .ref xa55, .ref xa60, .ref xa62, .ref xa67, .int (-1)])), (xa28, .inr (0, [.ref xa29, .ref xa30, .ref xa31, .ref xa32, .int 5, .int 0, .int 0, .int 0, .int 0, .int 0])), (xa29, .inl (kJ, 96, .inr (.inl (fun _ => 0)))), (xa30, .inl (kI, 30, .inl (fun _ => 0))), (xa31, .inl (kI, 12, .inl (fun _ => 0))), (xa32, .inl (kI, 12, .inl (fun _ => 0))), (xa33, .inr (0, [.ref xa34, .ref xa35, .ref xa36, .ref xa37, .int 5, .int 0, .int 0, .int 0, .int 0, .int 0])), (xa34, .inl (kJ, 96, .inr (.inl (fun _ => 0)))), (xa35, .inl (kI, 30, .inl (fun _ => 0))), (xa36, .inl (kI, 12, .inl (fun _ => 0))), (xa37, .inl (kI, 12, .inl (fun _ => 0))), (xa46, .inr (6, [.ref xa3, .ref xa28, .ref xa45, .ref xa38, .int 0])), (xa3, .inr (2, [.ref xa4, .ref xa5, .ref xa6, .ref xa7, .ref xa8, .ref xa9, .ref xa10, .int 0, .int 0, .int 0, .int 5, .ref xa11, .ref xa12, .ref xa13, .ref xa14])), (xa41, .inr (7, [.ref xa3, .ref xa28, .ref xa42, .ref xa43, .ref xa44]))]) [0, 1, 2, 3, 4, 5, 6, 7, 8, 9, 10, 11, 12, 13] (by decide) rfl
  have hFc := va_free (wc := [(h0, .inr (10, [.ref xa1, .ref xa3, .ref xa15, .ref xa27, .ref xa28, .ref xa33, .ref xa38, .ref xa41, .ref xa45, .ref xa46, .ref xa47, .ref xa52, .ref xa54, .int 0, .ref xa55, .ref xa60, .ref xa62, .ref xa67, .int (-1)])), (xa28, .inr (0, [.ref xa29, .ref xa30, .ref xa31, .ref xa32, .int 5, .int 0, .int 0, .int 0, .int 0, .int 0])), (xa29, .inl (kJ, 96, .inr (.inl (fun _ => 0)))), (xa30, .inl (kI, 30, .inl (fun _ => 0))), (xa31, .inl (kI, 12, .inl (fun _ => 0))), (xa32, .inl (kI, 12, .inl (fun _ => 0))), (xa33, .inr (0, [.ref xa34, .ref xa35, .ref xa36, .ref xa37, .int 5, .int 0, .int 0, .int 0, .int 0, .int 0])), (xa34, .inl (kJ, 96, .inr (.inl (fun _ => 0)))), (xa35, .inl (kI, 30, .inl (fun _ => 0))), (xa36, .inl (kI, 12, .inl (fun _ => 0))), (xa37, .inl (kI, 12, .inl (fun _ => 0))), (xa46, .inr (6, [.ref xa3, .ref xa28, .ref xa45, .ref xa38, .int 0])), (xa3, .inr (2, [.ref xa4, .ref xa5, .ref xa6, .ref xa7, .ref xa8, .ref xa9, .ref xa10, .int 0, .int 0, .int 0, .int 5, .ref xa11, .ref xa12, .ref xa13, .ref xa14])), (xa41, .inr (7, [.ref xa3, .ref xa28, .ref xa42, .ref xa43, .ref xa44]))]) hD hS hA [0, 1, 2, 3, 4, 5, 6, 7, 8, 9, 10, 11, 12, 13] rfl
  refine va_calli (va_runV (As := [.int p0, .int (nI k), .int 0]) (rest := [.int 0, .ref ou]) ⟨hx, hb, hml, hown, hts⟩ (k10_years_0 l dC dI kB kI kJ kZ kC kS s.heap.size h0 xa1 xa3 xa15 xa27 xa28 xa33 xa38 xa41 xa45 xa46 xa47 xa52 xa54 xa55 xa60 xa62 xa67 xa29 xa30 xa31 xa32 xa34 xa35 xa36 xa37 xa4 xa5 xa6 xa7 xa8 xa9 xa10 xa11 xa12 xa13 xa14 xa42 xa43 xa44 p0 k (hk)) (cwV 3 hts gL_years_X10_years rfl rfl rfl (by decide +kernel) ⟨Nat.le_of_ble_eq_true rfl, Nat.le_of_ble_eq_true rfl⟩) ⟨fun a U g mk q => by obtain ⟨q0, q1, qP, qE, qD⟩ := q; exact ⟨q0, q1, qP, kE_call qE, qD⟩, va_recv hK hP (ci := 10) (q0 := 0) rfl rfl, fun U hU hW => ⟨rfl, by rw [hU], by rw [hU]; exact hPc, kE_warm hW hE, hDc.weaken (fun _ _ _ _ => trivial)⟩⟩ rfl rfl hl.1 rfl (lv_room (Nat.le_of_ble_eq_true rfl)) dL_years_7 ⟨Nat.le_of_ble_eq_true rfl, Nat.le_of_ble_eq_true rfl⟩) hS (fun q _ h => hFc q h) hFc (fun r1 u t H1 locs ht hvm w2 hB hz1 hk1 hS => ?_)
  obtain ⟨hP1, hD1⟩ := hB
  rw [ht] at hP1
  try dsimp only at w2
  obtain ⟨hP, hD⟩ := va_join (wr := [(ou, .inl (kJ, 1, .inr (.inl fo)))]) (w1 := []) hP hD [0, 1, 2, 3, 4, 5, 6, 7, 8, 9, 10, 11, 12, 13] [14] rfl rfl (by decide) (by decide) hk1 hFc hP1 hD1
  generalize H1 = H at hP hS ⊢
  have hP : va_P (dC, dI) vwCl [(ou, .inl (kJ, 1, .inr (.inl fo)))] H := hP
  have hD : va_D A [(ou, .inl (kJ, 1, .inr (.inl fo)))] := hD
  refine W.widen (k := 0) (n := 0) (Nat.le_of_ble_eq_true rfl) (Nat.le_of_ble_eq_true rfl) ?_
  subst w2
  refine lv_i2l (v := 0) hx hb dL_years_10 (by decide) ?_
  refine va_last hx hb hK hP hD hS 0 2 rfl rfl (vp_in_nI (n := 0) (by decide) (by decide)) dL_years_11 (fun H locs hP hD hS => ?_)
  have hP : va_P (dC, dI) vwCl [(ou, .inl (kJ, 1, .inr (.inl (vp_updL fo 0 0))))] H := hP
  have hD : va_D A [(ou, .inl (kJ, 1, .inr (.inl (vp_updL fo 0 0))))] := hD
  refine lv_goto (tgt := 23) hx hb dL_years_12 (by decide) ?_
  refine lv_iconst (v := 0) hx hb dL_years_23 (by decide) ?_
  have hP9 := hP.sub (ws' := [(ou, .inl (kJ, 1, .inr (.inl (vp_updL fo 0 0))))]) [0] rfl
  have hD9 := hD.sub (ws' := [(ou, .inl (kJ, 1, .inr (.inl (vp_updL fo 0 0))))]) [0] (by decide) rfl
  exact W.iret (v := 0) hx hb hr (fun t ht hW => ⟨⟨0, (), rfl, rfl, vp_updL fo 0 0, rfl, by rw [ht]; exact hP9, hD9⟩, hS.F ht⟩) hS.2.2 dL_years_24
def rm_kL10_years_1 : Room := { frames := 3, cells := 0, slots := 0, locals := 106 }
set_option maxHeartbeats 4000000 in
set_option maxRecDepth 100000 in
theorem kL10_years_1 (l : Launch) (dC : Nat → ClassId) (dI : Nat → Nat → Nat) (kB kI kJ kZ kC kS : ClassId) (sz : Nat) (h0 : Nat) (xa1 : Nat) (xa3 : Nat) (xa15 : Nat) (xa27 : Nat) (xa28 : Nat) (xa33 : Nat) (xa38 : Nat) (xa41 : Nat) (xa45 : Nat) (xa46 : Nat) (xa47 : Nat) (xa52 : Nat) (xa54 : Nat) (xa55 : Nat) (xa60 : Nat) (xa62 : Nat) (xa67 : Nat) (xa29 : Nat) (xa30 : Nat) (xa31 : Nat) (xa32 : Nat) (xa34 : Nat) (xa35 : Nat) (xa36 : Nat) (xa37 : Nat) (xa4 : Nat) (xa5 : Nat) (xa6 : Nat) (xa7 : Nat) (xa8 : Nat) (xa9 : Nat) (xa10 : Nat) (xa11 : Nat) (xa12 : Nat) (xa13 : Nat) (xa14 : Nat) (xa42 : Nat) (xa43 : Nat) (xa44 : Nat) (p0 : Int32) (k : Nat) (ou : Nat) (fo : Nat → Int64) (hk : k ≤ 40) : Met l yL_years wsL_years rm_kL10_years_1 (va_Pc [.ref h0, .int p0, .int (nI k), .int 1, .ref ou] (fun U => U.heap.size = sz ∧ va_P (dC, dI) vwCl [(h0, .inr (10, [.ref xa1, .ref xa3, .ref xa15, .ref xa27, .ref xa28, .ref xa33, .ref xa38, .ref xa41, .ref xa45, .ref xa46, .ref xa47, .ref xa52, .ref xa54, .int 0, .ref xa55, .ref xa60, .ref xa62, .ref xa67, .int (-1)])), (xa28, .inr (0, [.ref xa29, .ref xa30, .ref xa31, .ref xa32, .int 5, .int 0, .int 0, .int 0, .int 0, .int 0])), (xa29, .inl (kJ, 96, .inr (.inl (fun _ => 0)))), (xa30, .inl (kI, 30, .inl (fun _ => 0))), (xa31, .inl (kI, 12, .inl (fun _ => 0))), (xa32, .inl (kI, 12, .inl (fun _ => 0))), (xa33, .inr (0, [.ref xa34, .ref xa35, .ref xa36, .ref xa37, .int 5, .int 0, .int 0, .int 0, .int 0, .int 0])), (xa34, .inl (kJ, 96, .inr (.inl (fun _ => 0)))), (xa35, .inl (kI, 30, .inl (fun _ => 0))), (xa36, .inl (kI, 12, .inl (fun _ => 0))), (xa37, .inl (kI, 12, .inl (fun _ => 0))), (xa46, .inr (6, [.ref xa3, .ref xa28, .ref xa45, .ref xa38, .int 0])), (xa3, .inr (2, [.ref xa4, .ref xa5, .ref xa6, .ref xa7, .ref xa8, .ref xa9, .ref xa10, .int 0, .int 0, .int 0, .int 5, .ref xa11, .ref xa12, .ref xa13, .ref xa14])), (xa41, .inr (7, [.ref xa3, .ref xa28, .ref xa42, .ref xa43, .ref xa44])), (ou, .inl (kJ, 1, .inr (.inl fo)))] U.heap ∧ kE dC dI kB kI kJ kZ kC kS U ∧ va_D (fun _ => True) [(h0, .inr (10, [.ref xa1, .ref xa3, .ref xa15, .ref xa27, .ref xa28, .ref xa33, .ref xa38, .ref xa41, .ref xa45, .ref xa46, .ref xa47, .ref xa52, .ref xa54, .int 0, .ref xa55, .ref xa60, .ref xa62, .ref xa67, .int (-1)])), (xa28, .inr (0, [.ref xa29, .ref xa30, .ref xa31, .ref xa32, .int 5, .int 0, .int 0, .int 0, .int 0, .int 0])), (xa29, .inl (kJ, 96, .inr (.inl (fun _ => 0)))), (xa30, .inl (kI, 30, .inl (fun _ => 0))), (xa31, .inl (kI, 12, .inl (fun _ => 0))), (xa32, .inl (kI, 12, .inl (fun _ => 0))), (xa33, .inr (0, [.ref xa34, .ref xa35, .ref xa36, .ref xa37, .int 5, .int 0, .int 0, .int 0, .int 0, .int 0])), (xa34, .inl (kJ, 96, .inr (.inl (fun _ => 0)))), (xa35, .inl (kI, 30, .inl (fun _ => 0))), (xa36, .inl (kI, 12, .inl (fun _ => 0))), (xa37, .inl (kI, 12, .inl (fun _ => 0))), (xa46, .inr (6, [.ref xa3, .ref xa28, .ref xa45, .ref xa38, .int 0])), (xa3, .inr (2, [.ref xa4, .ref xa5, .ref xa6, .ref xa7, .ref xa8, .ref xa9, .ref xa10, .int 0, .int 0, .int 0, .int 5, .ref xa11, .ref xa12, .ref xa13, .ref xa14])), (xa41, .inr (7, [.ref xa3, .ref xa28, .ref xa42, .ref xa43, .ref xa44])), (ou, .inl (kJ, 1, .inr (.inl fo)))])) (va_Qi (fun (r : Int32) (_ : Unit) => r = 0) (fun _ t => ∃ (g1 : Nat → Int64), g1 0 = 0 ∧ va_P (dC, dI) vwCl [(ou, .inl (kJ, 1, .inr (.inl g1)))] t.heap ∧ va_D (va_A [(h0, .inr (10, [.ref xa1, .ref xa3, .ref xa15, .ref xa27, .ref xa28, .ref xa33, .ref xa38, .ref xa41, .ref xa45, .ref xa46, .ref xa47, .ref xa52, .ref xa54, .int 0, .ref xa55, .ref xa60, .ref xa62, .ref xa67, .int (-1)])), (xa28, .inr (0, [.ref xa29, .ref xa30, .ref xa31, .ref xa32, .int 5, .int 0, .int 0, .int 0, .int 0, .int 0])), (xa29, .inl (kJ, 96, .inr (.inl (fun _ => 0)))), (xa30, .inl (kI, 30, .inl (fun _ => 0))), (xa31, .inl (kI, 12, .inl (fun _ => 0))), (xa32, .inl (kI, 12, .inl (fun _ => 0))), (xa33, .inr (0, [.ref xa34, .ref xa35, .ref xa36, .ref xa37, .int 5, .int 0, .int 0, .int 0, .int 0, .int 0])), (xa34, .inl (kJ, 96, .inr (.inl (fun _ => 0)))), (xa35, .inl (kI, 30, .inl (fun _ => 0))), (xa36, .inl (kI, 12, .inl (fun _ => 0))), (xa37, .inl (kI, 12, .inl (fun _ => 0))), (xa46, .inr (6, [.ref xa3, .ref xa28, .ref xa45, .ref xa38, .int 0])), (xa3, .inr (2, [.ref xa4, .ref xa5, .ref xa6, .ref xa7, .ref xa8, .ref xa9, .ref xa10, .int 0, .int 0, .int 0, .int 5, .ref xa11, .ref xa12, .ref xa13, .ref xa14])), (xa41, .inr (7, [.ref xa3, .ref xa28, .ref xa42, .ref xa43, .ref xa44])), (ou, .inl (kJ, 1, .inr (.inl fo)))] sz) [(ou, .inl (kJ, 1, .inr (.inl g1)))]) (va_A [(h0, .inr (10, [.ref xa1, .ref xa3, .ref xa15, .ref xa27, .ref xa28, .ref xa33, .ref xa38, .ref xa41, .ref xa45, .ref xa46, .ref xa47, .ref xa52, .ref xa54, .int 0, .ref xa55, .ref xa60, .ref xa62, .ref xa67, .int (-1)])), (xa28, .inr (0, [.ref xa29, .ref xa30, .ref xa31, .ref xa32, .int 5, .int 0, .int 0, .int 0, .int 0, .int 0])), (xa29, .inl (kJ, 96, .inr (.inl (fun _ => 0)))), (xa30, .inl (kI, 30, .inl (fun _ => 0))), (xa31, .inl (kI, 12, .inl (fun _ => 0))), (xa32, .inl (kI, 12, .inl (fun _ => 0))), (xa33, .inr (0, [.ref xa34, .ref xa35, .ref xa36, .ref xa37, .int 5, .int 0, .int 0, .int 0, .int 0, .int 0])), (xa34, .inl (kJ, 96, .inr (.inl (fun _ => 0)))), (xa35, .inl (kI, 30, .inl (fun _ => 0))), (xa36, .inl (kI, 12, .inl (fun _ => 0))), (xa37, .inl (kI, 12, .inl (fun _ => 0))), (xa46, .inr (6, [.ref xa3, .ref xa28, .ref xa45, .ref xa38, .int 0])), (xa3, .inr (2, [.ref xa4, .ref xa5, .ref xa6, .ref xa7, .ref xa8, .ref xa9, .ref xa10, .int 0, .int 0, .int 0, .int 5, .ref xa11, .ref xa12, .ref xa13, .ref xa14])), (xa41, .inr (7, [.ref xa3, .ref xa28, .ref xa42, .ref xa43, .ref xa44])), (ou, .inl (kJ, 1, .inr (.inl fo)))] sz)) 0 0 (va_A [(h0, .inr (10, [.ref xa1, .ref xa3, .ref xa15, .ref xa27, .ref xa28, .ref xa33, .ref xa38, .ref xa41, .ref xa45, .ref xa46, .ref xa47, .ref xa52, .ref xa54, .int 0, .ref xa55, .ref xa60, .ref xa62, .ref xa67, .int (-1)])), (xa28, .inr (0, [.ref xa29, .ref xa30, .ref xa31, .ref xa32, .int 5, .int 0, .int 0, .int 0, .int 0, .int 0])), (xa29, .inl (kJ, 96, .inr (.inl (fun _ => 0)))), (xa30, .inl (kI, 30, .inl (fun _ => 0))), (xa31, .inl (kI, 12, .inl (fun _ => 0))), (xa32, .inl (kI, 12, .inl (fun _ => 0))), (xa33, .inr (0, [.ref xa34, .ref xa35, .ref xa36, .ref xa37, .int 5, .int 0, .int 0, .int 0, .int 0, .int 0])), (xa34, .inl (kJ, 96, .inr (.inl (fun _ => 0)))), (xa35, .inl (kI, 30, .inl (fun _ => 0))), (xa36, .inl (kI, 12, .inl (fun _ => 0))), (xa37, .inl (kI, 12, .inl (fun _ => 0))), (xa46, .inr (6, [.ref xa3, .ref xa28, .ref xa45, .ref xa38, .int 0])), (xa3, .inr (2, [.ref xa4, .ref xa5, .ref xa6, .ref xa7, .ref xa8, .ref xa9, .ref xa10, .int 0, .int 0, .int 0, .int 5, .ref xa11, .ref xa12, .ref xa13, .ref xa14])), (xa41, .inr (7, [.ref xa3, .ref xa28, .ref xa42, .ref xa43, .ref xa44])), (ou, .inl (kJ, 1, .inr (.inl fo)))] sz) := by
  refine va_MetW (cc := cL_years) (maxL := 6) (ret := (some .int)) (by decide) rfl ?_
  intro p e s m args0 below meth c s₁ B hml hv
  obtain ⟨hargs, hsz, hP, hE, hD0⟩ := hv
  have hx := B.exec
  have hb := B.bytes
  have hr := B.returns
  have hts := atoms_spec (ws := wsL_years) B.pre
  have hown : s.vm.findClass RL = some m.cls := findClass_of_methodNamed B.named
  have hlocks := B.notSynchronized
  have hK := hE.1
  have hin10 : ∀ w ∈ wsX100, w ∈ wsL_years := fun _ h9 => List.mem_cons_of_mem _ (List.mem_append_left _ (List.mem_append_left _ (List.mem_append_left _ (List.mem_append_left _ (List.mem_append_left _ (List.mem_append_left _ (List.mem_append_left _ (List.mem_append_left _ (List.mem_append_right _ h9)))))))))
  have hin6 : ∀ w ∈ wsX60, w ∈ wsL_years := fun _ h9 => List.mem_cons_of_mem _ (List.mem_append_left _ (List.mem_append_left _ (List.mem_append_left _ (List.mem_append_left _ (List.mem_append_left _ (List.mem_append_left _ (List.mem_append_left _ (List.mem_append_right _ h9))))))))
  have hin0 : ∀ w ∈ wsX00, w ∈ wsL_years := fun _ h9 => List.mem_cons_of_mem _ (List.mem_append_left _ (List.mem_append_left _ (List.mem_append_left _ (List.mem_append_left _ (List.mem_append_left _ (List.mem_append_left _ (List.mem_append_right _ h9)))))))
  have hin2 : ∀ w ∈ wsX20, w ∈ wsL_years := fun _ h9 => List.mem_cons_of_mem _ (List.mem_append_left _ (List.mem_append_left _ (List.mem_append_left _ (List.mem_append_left _ (List.mem_append_left _ (List.mem_append_right _ h9))))))
  have hin4 : ∀ w ∈ wsX40, w ∈ wsL_years := fun _ h9 => List.mem_cons_of_mem _ (List.mem_append_left _ (List.mem_append_left _ (List.mem_append_left _ (List.mem_append_left _ (List.mem_append_right _ h9)))))
  have hin9 : ∀ w ∈ wsX90, w ∈ wsL_years := fun _ h9 => List.mem_cons_of_mem _ (List.mem_append_left _ (List.mem_append_left _ (List.mem_append_left _ (List.mem_append_right _ h9))))
  have hin7 : ∀ w ∈ wsX70, w ∈ wsL_years := fun _ h9 => List.mem_cons_of_mem _ (List.mem_append_left _ (List.mem_append_left _ (List.mem_append_right _ h9)))
  subst hsz
  have hD := hD0.self (sz := s.heap.size)
  generalize hAe : va_A [(h0, .inr (10, [.ref xa1, .ref xa3, .ref xa15, .ref xa27, .ref xa28, .ref xa33, .ref xa38, .ref xa41, .ref xa45, .ref xa46, .ref xa47, .ref xa52, .ref xa54, .int 0, .ref xa55, .ref xa60, .ref xa62, .ref xa67, .int (-1)])), (xa28, .inr (0, [.ref xa29, .ref xa30, .ref xa31, .ref xa32, .int 5, .int 0, .int 0, .int 0, .int 0, .int 0])), (xa29, .inl (kJ, 96, .inr (.inl (fun _ => 0)))), (xa30, .inl (kI, 30, .inl (fun _ => 0))), (xa31, .inl (kI, 12, .inl (fun _ => 0))), (xa32, .inl (kI, 12, .inl (fun _ => 0))), (xa33, .inr (0, [.ref xa34, .ref xa35, .ref xa36, .ref xa37, .int 5, .int 0, .int 0, .int 0, .int 0, .int 0])), (xa34, .inl (kJ, 96, .inr (.inl (fun _ => 0)))), (xa35, .inl (kI, 30, .inl (fun _ => 0))), (xa36, .inl (kI, 12, .inl (fun _ => 0))), (xa37, .inl (kI, 12, .inl (fun _ => 0))), (xa46, .inr (6, [.ref xa3, .ref xa28, .ref xa45, .ref xa38, .int 0])), (xa3, .inr (2, [.ref xa4, .ref xa5, .ref xa6, .ref xa7, .ref xa8, .ref xa9, .ref xa10, .int 0, .int 0, .int 0, .int 5, .ref xa11, .ref xa12, .ref xa13, .ref xa14])), (xa41, .inr (7, [.ref xa3, .ref xa28, .ref xa42, .ref xa43, .ref xa44])), (ou, .inl (kJ, 1, .inr (.inl fo)))] s.heap.size = A at hD ⊢
  have hA : ∀ q : Nat, s.heap.size ≤ q → A q := fun q h => by rw [← hAe]; exact Or.inr h
  have hS : va_S A s.heap s.heap [] := va_S.rf
  have hP : va_P (dC, dI) vwCl [(h0, .inr (10, [.ref xa1, .ref xa3, .ref xa15, .ref xa27, .ref xa28, .ref xa33, .ref xa38, .ref xa41, .ref xa45, .ref xa46, .ref xa47, .ref xa52, .ref xa54, .int 0, .ref xa55, .ref xa60, .ref xa62, .ref xa67, .int (-1)])), (xa28, .inr (0, [.ref xa29, .ref xa30, .ref xa31, .ref xa32, .int 5, .int 0, .int 0, .int 0, .int 0, .int 0])), (xa29, .inl (kJ, 96, .inr (.inl (fun _ => 0)))), (xa30, .inl (kI, 30, .inl (fun _ => 0))), (xa31, .inl (kI, 12, .inl (fun _ => 0))), (xa32, .inl (kI, 12, .inl (fun _ => 0))), (xa33, .inr (0, [.ref xa34, .ref xa35, .ref xa36, .ref xa37, .int 5, .int 0, .int 0, .int 0, .int 0, .int 0])), (xa34, .inl (kJ, 96, .inr (.inl (fun _ => 0)))), (xa35, .inl (kI, 30, .inl (fun _ => 0))), (xa36, .inl (kI, 12, .inl (fun _ => 0))), (xa37, .inl (kI, 12, .inl (fun _ => 0))), (xa46, .inr (6, [.ref xa3, .ref xa28, .ref xa45, .ref xa38, .int 0])), (xa3, .inr (2, [.ref xa4, .ref xa5, .ref xa6, .ref xa7, .ref xa8, .ref xa9, .ref xa10, .int 0, .int 0, .int 0, .int 5, .ref xa11, .ref xa12, .ref xa13, .ref xa14])), (xa41, .inr (7, [.ref xa3, .ref xa28, .ref xa42, .ref xa43, .ref xa44])), (ou, .inl (kJ, 1, .inr (.inl fo)))] s.heap := hP
  have hl := lv_entry ([.ref h0, .int p0, .int (nI k), .int 1, .ref ou]) (n := 6) (Nat.le_of_ble_eq_true rfl)
  have hla : entryFrame m args0 6 = entryFrame m ([.ref h0, .int p0, .int (nI k), .int 1, .ref ou] : List Value).toArray 6 := by rw [hargs]
  rw [hla, lg_entry_eq]
  generalize (lg_sl ([.ref h0, .int p0, .int (nI k), .int 1, .ref ou]) ++ List.replicate (6 - (lg_sl ([.ref h0, .int p0, .int (nI k), .int 1, .ref ou])).length) Slot.unset).toArray = ls at hl ⊢
  have hl : lv_has ls 6 [(0, .ref h0), (1, .int p0), (2, .int (nI k)), (3, .int 1), (4, .ref ou)] := hl
  refine lv_aload hx hb dL_years_0 (lv_at hl 4 rfl) ?_
  refine lv_iconst (v := 0) hx hb dL_years_2 (by decide) ?_
  refine lv_aload_n hx hb dL_years_3 rfl (lv_at hl 0 rfl) ?_
  refine lv_iload_n hx hb dL_years_4 rfl (lv_at hl 1 rfl) ?_
  refine lv_iload_n hx hb dL_years_5 rfl (lv_at hl 2 rfl) ?_
  refine lv_iload_n hx hb dL_years_6 rfl (lv_at hl 3 rfl) ?_
  have hPc := hP.sub (ws' := [(h0, .inr (10, [.ref xa1, .ref xa3, .ref xa15, .ref xa27, .ref xa28, .ref xa33, .ref xa38, .ref xa41, .ref xa45, .ref xa46, .ref xa47, .ref xa52, .ref xa54, .int 0, .ref xa55, .ref xa60, .ref xa62, .ref xa67, .int (-1)])), (xa28, .inr (0, [.ref xa29, .ref xa30, .ref xa31, .ref xa32, .int 5, .int 0, .int 0, .int 0, .int 0, .int 0])), (xa29, .inl (kJ, 96, .inr (.inl (fun _ => 0)))), (xa30, .inl (kI, 30, .inl (fun _ => 0))), (xa31, .inl (kI, 12, .inl (fun _ => 0))), (xa32, .inl (kI, 12, .inl (fun _ => 0))), (xa33, .inr (0, [.ref xa34, .ref xa35, .ref xa36, .ref xa37, .int 5, .int 0, .int 0, .int 0, .int 0, .int 0])), (xa34, .inl (kJ, 96, .inr (.inl (fun _ => 0)))), (xa35, .inl (kI, 30, .inl (fun _ => 0))), (xa36, .inl (kI, 12, .inl (fun _ => 0))), (xa37, .inl (kI, 12, .inl (fun _ => 0))), (xa46, .inr (6, [.ref xa3, .ref xa28, .ref xa45, .ref xa38, .int 0])), (xa3, .inr (2, [.ref xa4, .ref xa5, .ref xa6, .ref xa7, .ref xa8, .ref xa9, .ref xa10, .int 0, .int 0, .int 0, .int 5, .ref xa11, .ref xa12, .ref xa13, .ref xa14])), (xa41, .inr (7, [.ref xa3, .ref xa28, .ref xa42, .ref xa43, .ref xa44]))]) [0, 1, 2, 3, 4, 5, 6, 7, 8, 9, 10, 11, 12, 13] rfl
  have hDc := hD.sub (ws' := [(h0, .inr (10, [.ref xa1, .ref xa3, .ref xa15, .ref xa27, .ref xa28, .ref xa33, .ref xa38, .ref xa41, .ref xa45, .ref xa46, .ref xa47, .ref xa52, .ref xa54, .int 0, .ref xa55, .ref xa60, .ref xa62, .ref xa67, .int (-1)])), (xa28, .inr (0, [.ref xa29, .ref xa30, .ref xa31, .ref xa32, .int 5, .int 0, .int 0, .int 0, .int 0, .int 0])), (xa29, .inl (kJ, 96, .inr (.inl (fun _ => 0)))), (xa30, .inl (kI, 30, .inl (fun _ => 0))), (xa31, .inl (kI, 12, .inl (fun _ => 0))), (xa32, .inl (kI, 12, .inl (fun _ => 0))), (xa33, .inr (0, [.ref xa34, .ref xa35, .ref xa36, .ref xa37, .int 5, .int 0, .int 0, .int 0, .int 0, .int 0])), (xa34, .inl (kJ, 96, .inr (.inl (fun _ => 0)))), (xa35, .inl (kI, 30, .inl (fun _ => 0))), (xa36, .inl (kI, 12, .inl (fun _ => 0))), (xa37, .inl (kI, 12, .inl (fun _ => 0))), (xa46, .inr (6, [.ref xa3, .ref xa28, .ref xa45, .ref xa38, .int 0])), (xa3, .inr (2, [.ref xa4, .ref xa5, .ref xa6, .ref xa7, .ref xa8, .ref xa9, .ref xa10, .int 0, .int 0, .int 0, .int 5, .ref xa11, .ref xa12, .ref xa13, .ref xa14])), (xa41, .inr (7, [.ref xa3, .ref xa28, .ref xa42, .ref xa43, .ref xa44]))]) [0, 1, 2, 3, 4, 5, 6, 7, 8, 9, 10, 11, 12, 13] (by decide) rfl
  have hFc := va_free (wc := [(h0, .inr (10, [.ref xa1, .ref xa3, .ref xa15, .ref xa27, .ref xa28, .ref xa33, .ref xa38, .ref xa41, .ref xa45, .ref xa46, .ref xa47, .ref xa52, .ref xa54, .int 0, .ref xa55, .ref xa60, .ref xa62, .ref xa67, .int (-1)])), (xa28, .inr (0, [.ref xa29, .ref xa30, .ref xa31, .ref xa32, .int 5, .int 0, .int 0, .int 0, .int 0, .int 0])), (xa29, .inl (kJ, 96, .inr (.inl (fun _ => 0)))), (xa30, .inl (kI, 30, .inl (fun _ => 0))), (xa31, .inl (kI, 12, .inl (fun _ => 0))), (xa32, .inl (kI, 12, .inl (fun _ => 0))), (xa33, .inr (0, [.ref xa34, .ref xa35, .ref xa36, .ref xa37, .int 5, .int 0, .int 0, .int 0, .int 0, .int 0])), (xa34, .inl (kJ, 96, .inr (.inl (fun _ => 0)))), (xa35, .inl (kI, 30, .inl (fun _ => 0))), (xa36, .inl (kI, 12, .inl (fun _ => 0))), (xa37, .inl (kI, 12, .inl (fun _ => 0))), (xa46, .inr (6, [.ref xa3, .ref xa28, .ref xa45, .ref xa38, .int 0])), (xa3, .inr (2, [.ref xa4, .ref xa5, .ref xa6, .ref xa7, .ref xa8, .ref xa9, .ref xa10, .int 0, .int 0, .int 0, .int 5, .ref xa11, .ref xa12, .ref xa13, .ref xa14])), (xa41, .inr (7, [.ref xa3, .ref xa28, .ref xa42, .ref xa43, .ref xa44]))]) hD hS hA [0, 1, 2, 3, 4, 5, 6, 7, 8, 9, 10, 11, 12, 13] rfl
  refine va_calli (va_runV (As := [.int p0, .int (nI k), .int 1]) (rest := [.int 0, .ref ou]) ⟨hx, hb, hml, hown, hts⟩ (k10_years_1 l dC dI kB kI kJ kZ kC kS s.heap.size h0 xa1 xa3 xa15 xa27 xa28 xa33 xa38 xa41 xa45 xa46 xa47 xa52 xa54 xa55 xa60 xa62 xa67 xa29 xa30 xa31 xa32 xa34 xa35 xa36 xa37 xa4 xa5 xa6 xa7 xa8 xa9 xa10 xa11 xa12 xa13 xa14 xa42 xa43 xa44 p0 k (hk)) (cwV 3 hts gL_years_X10_years rfl rfl rfl (by decide +kernel) ⟨Nat.le_of_ble_eq_true rfl, Nat.le_of_ble_eq_true rfl⟩) ⟨fun a U g mk q => by obtain ⟨q0, q1, qP, qE, qD⟩ := q; exact ⟨q0, q1, qP, kE_call qE, qD⟩, va_recv hK hP (ci := 10) (q0 := 0) rfl rfl, fun U hU hW => ⟨rfl, by rw [hU], by rw [hU]; exact hPc, kE_warm hW hE, hDc.weaken (fun _ _ _ _ => trivial)⟩⟩ rfl rfl hl.1 rfl (lv_room (Nat.le_of_ble_eq_true rfl)) dL_years_7 ⟨Nat.le_of_ble_eq_true rfl, Nat.le_of_ble_eq_true rfl⟩) hS (fun q _ h => hFc q h) hFc (fun r1 u t H1 locs ht hvm w2 hB hz1 hk1 hS => ?_)
  obtain ⟨hP1, hD1⟩ := hB
  rw [ht] at hP1
  try dsimp only at w2
  obtain ⟨hP, hD⟩ := va_join (wr := [(ou, .inl (kJ, 1, .inr (.inl fo)))]) (w1 := []) hP hD [0, 1, 2, 3, 4, 5, 6, 7, 8, 9, 10, 11, 12, 13] [14] rfl rfl (by decide) (by decide) hk1 hFc hP1 hD1
  generalize H1 = H at hP hS ⊢
  have hP : va_P (dC, dI) vwCl [(ou, .inl (kJ, 1, .inr (.inl fo)))] H := hP
  have hD : va_D A [(ou, .inl (kJ, 1, .inr (.inl fo)))] := hD
  refine W.widen (k := 0) (n := 0) (Nat.le_of_ble_eq_true rfl) (Nat.le_of_ble_eq_true rfl) ?_
  subst w2
  refine lv_i2l (v := 0) hx hb dL_years_10 (by decide) ?_
  refine va_last hx hb hK hP hD hS 0 2 rfl rfl (vp_in_nI (n := 0) (by decide) (by decide)) dL_years_11 (fun H locs hP hD hS => ?_)
  have hP : va_P (dC, dI) vwCl [(ou, .inl (kJ, 1, .inr (.inl (vp_updL fo 0 0))))] H := hP
  have hD : va_D A [(ou, .inl (kJ, 1, .inr (.inl (vp_updL fo 0 0))))] := hD
  refine lv_goto (tgt := 23) hx hb dL_years_12 (by decide) ?_
  refine lv_iconst (v := 0) hx hb dL_years_23 (by decide) ?_
  have hP9 := hP.sub (ws' := [(ou, .inl (kJ, 1, .inr (.inl (vp_updL fo 0 0))))]) [0] rfl
  have hD9 := hD.sub (ws' := [(ou, .inl (kJ, 1, .inr (.inl (vp_updL fo 0 0))))]) [0] (by decide) rfl
  exact W.iret (v := 0) hx hb hr (fun t ht hW => ⟨⟨0, (), rfl, rfl, vp_updL fo 0 0, rfl, by rw [ht]; exact hP9, hD9⟩, hS.F ht⟩) hS.2.2 dL_years_24
def rm_kL10_years_2 : Room := { frames := 3, cells := 0, slots := 0, locals := 106 }
set_option maxHeartbeats 4000000 in
set_option maxRecDepth 100000 in
theorem kL10_years_2 (l : Launch) (dC : Nat → ClassId) (dI : Nat → Nat → Nat) (kB kI kJ kZ kC kS : ClassId) (sz : Nat) (h0 : Nat) (xa1 : Nat) (xa3 : Nat) (xa15 : Nat) (xa27 : Nat) (xa28 : Nat) (xa33 : Nat) (xa38 : Nat) (xa41 : Nat) (xa45 : Nat) (xa46 : Nat) (xa47 : Nat) (xa52 : Nat) (xa54 : Nat) (xa55 : Nat) (xa60 : Nat) (xa62 : Nat) (xa67 : Nat) (xa29 : Nat) (xa30 : Nat) (xa31 : Nat) (xa32 : Nat) (xa34 : Nat) (xa35 : Nat) (xa36 : Nat) (xa37 : Nat) (xa4 : Nat) (xa5 : Nat) (xa6 : Nat) (xa7 : Nat) (xa8 : Nat) (xa9 : Nat) (xa10 : Nat) (xa11 : Nat) (xa12 : Nat) (xa13 : Nat) (xa14 : Nat) (xa42 : Nat) (xa43 : Nat) (xa44 : Nat) (p0 : Int32) (k : Nat) (ou : Nat) (fo : Nat → Int64) (hk : k ≤ 40) : Met l yL_years wsL_years rm_kL10_years_2 (va_Pc [.ref h0, .int p0, .int (nI k), .int 2, .ref ou] (fun U => U.heap.size = sz ∧ va_P (dC, dI) vwCl [(h0, .inr (10, [.ref xa1, .ref xa3, .ref xa15, .ref xa27, .ref xa28, .ref xa33, .ref xa38, .ref xa41, .ref xa45, .ref xa46, .ref xa47, .ref xa52, .ref xa54, .int 0, .ref xa55, .ref xa60, .ref xa62, .ref xa67, .int (-1)])), (xa28, .inr (0, [.ref xa29, .ref xa30, .ref xa31, .ref xa32, .int 5, .int 0, .int 0, .int 0, .int 0, .int 0])), (xa29, .inl (kJ, 96, .inr (.inl (fun _ => 0)))), (xa30, .inl (kI, 30, .inl (fun _ => 0))), (xa31, .inl (kI, 12, .inl (fun _ => 0))), (xa32, .inl (kI, 12, .inl (fun _ => 0))), (xa33, .inr (0, [.ref xa34, .ref xa35, .ref xa36, .ref xa37, .int 5, .int 0, .int 0, .int 0, .int 0, .int 0])), (xa34, .inl (kJ, 96, .inr (.inl (fun _ => 0)))), (xa35, .inl (kI, 30, .inl (fun _ => 0))), (xa36, .inl (kI, 12, .inl (fun _ => 0))), (xa37, .inl (kI, 12, .inl (fun _ => 0))), (xa46, .inr (6, [.ref xa3, .ref xa28, .ref xa45, .ref xa38, .int 0])), (xa3, .inr (2, [.ref xa4, .ref xa5, .ref xa6, .ref xa7, .ref xa8, .ref xa9, .ref xa10, .int 0, .int 0, .int 0, .int 5, .ref xa11, .ref xa12, .ref xa13, .ref xa14])), (xa41, .inr (7, [.ref xa3, .ref xa28, .ref xa42, .ref xa43, .ref xa44])), (ou, .inl (kJ, 1, .inr (.inl fo)))] U.heap ∧ kE dC dI kB kI kJ kZ kC kS U ∧ va_D (fun _ => True) [(h0, .inr (10, [.ref xa1, .ref xa3, .ref xa15, .ref xa27, .ref xa28, .ref xa33, .ref xa38, .ref xa41, .ref xa45, .ref xa46, .ref xa47, .ref xa52, .ref xa54, .int 0, .ref xa55, .ref xa60, .ref xa62, .ref xa67, .int (-1)])), (xa28, .inr (0, [.ref xa29, .ref xa30, .ref xa31, .ref xa32, .int 5, .int 0, .int 0, .int 0, .int 0, .int 0])), (xa29, .inl (kJ, 96, .inr (.inl (fun _ => 0)))), (xa30, .inl (kI, 30, .inl (fun _ => 0))), (xa31, .inl (kI, 12, .inl (fun _ => 0))), (xa32, .inl (kI, 12, .inl (fun _ => 0))), (xa33, .inr (0, [.ref xa34, .ref xa35, .ref xa36, .ref xa37, .int 5, .int 0, .int 0, .int 0, .int 0, .int 0])), (xa34, .inl (kJ, 96, .inr (.inl (fun _ => 0)))), (xa35, .inl (kI, 30, .inl (fun _ => 0))), (xa36, .inl (kI, 12, .inl (fun _ => 0))), (xa37, .inl (kI, 12, .inl (fun _ => 0))), (xa46, .inr (6, [.ref xa3, .ref xa28, .ref xa45, .ref xa38, .int 0])), (xa3, .inr (2, [.ref xa4, .ref xa5, .ref xa6, .ref xa7, .ref xa8, .ref xa9, .ref xa10, .int 0, .int 0, .int 0, .int 5, .ref xa11, .ref xa12, .ref xa13, .ref xa14])), (xa41, .inr (7, [.ref xa3, .ref xa28, .ref xa42, .ref xa43, .ref xa44])), (ou, .inl (kJ, 1, .inr (.inl fo)))])) (va_Qi (fun (r : Int32) (_ : Unit) => r = 0) (fun _ t => ∃ (g1 : Nat → Int64), g1 0 = 0 ∧ va_P (dC, dI) vwCl [(ou, .inl (kJ, 1, .inr (.inl g1)))] t.heap ∧ va_D (va_A [(h0, .inr (10, [.ref xa1, .ref xa3, .ref xa15, .ref xa27, .ref xa28, .ref xa33, .ref xa38, .ref xa41, .ref xa45, .ref xa46, .ref xa47, .ref xa52, .ref xa54, .int 0, .ref xa55, .ref xa60, .ref xa62, .ref xa67, .int (-1)])), (xa28, .inr (0, [.ref xa29, .ref xa30, .ref xa31, .ref xa32, .int 5, .int 0, .int 0, .int 0, .int 0, .int 0])), (xa29, .inl (kJ, 96, .inr (.inl (fun _ => 0)))), (xa30, .inl (kI, 30, .inl (fun _ => 0))), (xa31, .inl (kI, 12, .inl (fun _ => 0))), (xa32, .inl (kI, 12, .inl (fun _ => 0))), (xa33, .inr (0, [.ref xa34, .ref xa35, .ref xa36, .ref xa37, .int 5, .int 0, .int 0, .int 0, .int 0, .int 0])), (xa34, .inl (kJ, 96, .inr (.inl (fun _ => 0)))), (xa35, .inl (kI, 30, .inl (fun _ => 0))), (xa36, .inl (kI, 12, .inl (fun _ => 0))), (xa37, .inl (kI, 12, .inl (fun _ => 0))), (xa46, .inr (6, [.ref xa3, .ref xa28, .ref xa45, .ref xa38, .int 0])), (xa3, .inr (2, [.ref xa4, .ref xa5, .ref xa6, .ref xa7, .ref xa8, .ref xa9, .ref xa10, .int 0, .int 0, .int 0, .int 5, .ref xa11, .ref xa12, .ref xa13, .ref xa14])), (xa41, .inr (7, [.ref xa3, .ref xa28, .ref xa42, .ref xa43, .ref xa44])), (ou, .inl (kJ, 1, .inr (.inl fo)))] sz) [(ou, .inl (kJ, 1, .inr (.inl g1)))]) (va_A [(h0, .inr (10, [.ref xa1, .ref xa3, .ref xa15, .ref xa27, .ref xa28, .ref xa33, .ref xa38, .ref xa41, .ref xa45, .ref xa46, .ref xa47, .ref xa52, .ref xa54, .int 0, .ref xa55, .ref xa60, .ref xa62, .ref xa67, .int (-1)])), (xa28, .inr (0, [.ref xa29, .ref xa30, .ref xa31, .ref xa32, .int 5, .int 0, .int 0, .int 0, .int 0, .int 0])), (xa29, .inl (kJ, 96, .inr (.inl (fun _ => 0)))), (xa30, .inl (kI, 30, .inl (fun _ => 0))), (xa31, .inl (kI, 12, .inl (fun _ => 0))), (xa32, .inl (kI, 12, .inl (fun _ => 0))), (xa33, .inr (0, [.ref xa34, .ref xa35, .ref xa36, .ref xa37, .int 5, .int 0, .int 0, .int 0, .int 0, .int 0])), (xa34, .inl (kJ, 96, .inr (.inl (fun _ => 0)))), (xa35, .inl (kI, 30, .inl (fun _ => 0))), (xa36, .inl (kI, 12, .inl (fun _ => 0))), (xa37, .inl (kI, 12, .inl (fun _ => 0))), (xa46, .inr (6, [.ref xa3, .ref xa28, .ref xa45, .ref xa38, .int 0])), (xa3, .inr (2, [.ref xa4, .ref xa5, .ref xa6, .ref xa7, .ref xa8, .ref xa9, .ref xa10, .int 0, .int 0, .int 0, .int 5, .ref xa11, .ref xa12, .ref xa13, .ref xa14])), (xa41, .inr (7, [.ref xa3, .ref xa28, .ref xa42, .ref xa43, .ref xa44])), (ou, .inl (kJ, 1, .inr (.inl fo)))] sz)) 0 0 (va_A [(h0, .inr (10, [.ref xa1, .ref xa3, .ref xa15, .ref xa27, .ref xa28, .ref xa33, .ref xa38, .ref xa41, .ref xa45, .ref xa46, .ref xa47, .ref xa52, .ref xa54, .int 0, .ref xa55, .ref xa60, .ref xa62, .ref xa67, .int (-1)])), (xa28, .inr (0, [.ref xa29, .ref xa30, .ref xa31, .ref xa32, .int 5, .int 0, .int 0, .int 0, .int 0, .int 0])), (xa29, .inl (kJ, 96, .inr (.inl (fun _ => 0)))), (xa30, .inl (kI, 30, .inl (fun _ => 0))), (xa31, .inl (kI, 12, .inl (fun _ => 0))), (xa32, .inl (kI, 12, .inl (fun _ => 0))), (xa33, .inr (0, [.ref xa34, .ref xa35, .ref xa36, .ref xa37, .int 5, .int 0, .int 0, .int 0, .int 0, .int 0])), (xa34, .inl (kJ, 96, .inr (.inl (fun _ => 0)))), (xa35, .inl (kI, 30, .inl (fun _ => 0))), (xa36, .inl (kI, 12, .inl (fun _ => 0))), (xa37, .inl (kI, 12, .inl (fun _ => 0))), (xa46, .inr (6, [.ref xa3, .ref xa28, .ref xa45, .ref xa38, .int 0])), (xa3, .inr (2, [.ref xa4, .ref xa5, .ref xa6, .ref xa7, .ref xa8, .ref xa9, .ref xa10, .int 0, .int 0, .int 0, .int 5, .ref xa11, .ref xa12, .ref xa13, .ref xa14])), (xa41, .inr (7, [.ref xa3, .ref xa28, .ref xa42, .ref xa43, .ref xa44])), (ou, .inl (kJ, 1, .inr (.inl fo)))] sz) := by
  refine va_MetW (cc := cL_years) (maxL := 6) (ret := (some .int)) (by decide) rfl ?_
  intro p e s m args0 below meth c s₁ B hml hv
  obtain ⟨hargs, hsz, hP, hE, hD0⟩ := hv
  have hx := B.exec
  have hb := B.bytes
  have hr := B.returns
  have hts := atoms_spec (ws := wsL_years) B.pre
  have hown : s.vm.findClass RL = some m.cls := findClass_of_methodNamed B.named
  have hlocks := B.notSynchronized
  have hK := hE.1
  have hin10 : ∀ w ∈ wsX100, w ∈ wsL_years := fun _ h9 => List.mem_cons_of_mem _ (List.mem_append_left _ (List.mem_append_left _ (List.mem_append_left _ (List.mem_append_left _ (List.mem_append_left _ (List.mem_append_left _ (List.mem_append_left _ (List.mem_append_left _ (List.mem_append_right _ h9)))))))))
  have hin6 : ∀ w ∈ wsX60, w ∈ wsL_years := fun _ h9 => List.mem_cons_of_mem _ (List.mem_append_left _ (List.mem_append_left _ (List.mem_append_left _ (List.mem_append_left _ (List.mem_append_left _ (List.mem_append_left _ (List.mem_append_left _ (List.mem_append_right _ h9))))))))
  have hin0 : ∀ w ∈ wsX00, w ∈ wsL_years := fun _ h9 => List.mem_cons_of_mem _ (List.mem_append_left _ (List.mem_append_left _ (List.mem_append_left _ (List.mem_append_left _ (List.mem_append_left _ (List.mem_append_left _ (List.mem_append_right _ h9)))))))
  have hin2 : ∀ w ∈ wsX20, w ∈ wsL_years := fun _ h9 => List.mem_cons_of_mem _ (List.mem_append_left _ (List.mem_append_left _ (List.mem_append_left _ (List.mem_append_left _ (List.mem_append_left _ (List.mem_append_right _ h9))))))
  have hin4 : ∀ w ∈ wsX40, w ∈ wsL_years := fun _ h9 => List.mem_cons_of_mem _ (List.mem_append_left _ (List.mem_append_left _ (List.mem_append_left _ (List.mem_append_left _ (List.mem_append_right _ h9)))))
  have hin9 : ∀ w ∈ wsX90, w ∈ wsL_years := fun _ h9 => List.mem_cons_of_mem _ (List.mem_append_left _ (List.mem_append_left _ (List.mem_append_left _ (List.mem_append_right _ h9))))
  have hin7 : ∀ w ∈ wsX70, w ∈ wsL_years := fun _ h9 => List.mem_cons_of_mem _ (List.mem_append_left _ (List.mem_append_left _ (List.mem_append_right _ h9)))
  subst hsz
  have hD := hD0.self (sz := s.heap.size)
  generalize hAe : va_A [(h0, .inr (10, [.ref xa1, .ref xa3, .ref xa15, .ref xa27, .ref xa28, .ref xa33, .ref xa38, .ref xa41, .ref xa45, .ref xa46, .ref xa47, .ref xa52, .ref xa54, .int 0, .ref xa55, .ref xa60, .ref xa62, .ref xa67, .int (-1)])), (xa28, .inr (0, [.ref xa29, .ref xa30, .ref xa31, .ref xa32, .int 5, .int 0, .int 0, .int 0, .int 0, .int 0])), (xa29, .inl (kJ, 96, .inr (.inl (fun _ => 0)))), (xa30, .inl (kI, 30, .inl (fun _ => 0))), (xa31, .inl (kI, 12, .inl (fun _ => 0))), (xa32, .inl (kI, 12, .inl (fun _ => 0))), (xa33, .inr (0, [.ref xa34, .ref xa35, .ref xa36, .ref xa37, .int 5, .int 0, .int 0, .int 0, .int 0, .int 0])), (xa34, .inl (kJ, 96, .inr (.inl (fun _ => 0)))), (xa35, .inl (kI, 30, .inl (fun _ => 0))), (xa36, .inl (kI, 12, .inl (fun _ => 0))), (xa37, .inl (kI, 12, .inl (fun _ => 0))), (xa46, .inr (6, [.ref xa3, .ref xa28, .ref xa45, .ref xa38, .int 0])), (xa3, .inr (2, [.ref xa4, .ref xa5, .ref xa6, .ref xa7, .ref xa8, .ref xa9, .ref xa10, .int 0, .int 0, .int 0, .int 5, .ref xa11, .ref xa12, .ref xa13, .ref xa14])), (xa41, .inr (7, [.ref xa3, .ref xa28, .ref xa42, .ref xa43, .ref xa44])), (ou, .inl (kJ, 1, .inr (.inl fo)))] s.heap.size = A at hD ⊢
  have hA : ∀ q : Nat, s.heap.size ≤ q → A q := fun q h => by rw [← hAe]; exact Or.inr h
  have hS : va_S A s.heap s.heap [] := va_S.rf
  have hP : va_P (dC, dI) vwCl [(h0, .inr (10, [.ref xa1, .ref xa3, .ref xa15, .ref xa27, .ref xa28, .ref xa33, .ref xa38, .ref xa41, .ref xa45, .ref xa46, .ref xa47, .ref xa52, .ref xa54, .int 0, .ref xa55, .ref xa60, .ref xa62, .ref xa67, .int (-1)])), (xa28, .inr (0, [.ref xa29, .ref xa30, .ref xa31, .ref xa32, .int 5, .int 0, .int 0, .int 0, .int 0, .int 0])), (xa29, .inl (kJ, 96, .inr (.inl (fun _ => 0)))), (xa30, .inl (kI, 30, .inl (fun _ => 0))), (xa31, .inl (kI, 12, .inl (fun _ => 0))), (xa32, .inl (kI, 12, .inl (fun _ => 0))), (xa33, .inr (0, [.ref xa34, .ref xa35, .ref xa36, .ref xa37, .int 5, .int 0, .int 0, .int 0, .int 0, .int 0])), (xa34, .inl (kJ, 96, .inr (.inl (fun _ => 0)))), (xa35, .inl (kI, 30, .inl (fun _ => 0))), (xa36, .inl (kI, 12, .inl (fun _ => 0))), (xa37, .inl (kI, 12, .inl (fun _ => 0))), (xa46, .inr (6, [.ref xa3, .ref xa28, .ref xa45, .ref xa38, .int 0])), (xa3, .inr (2, [.ref xa4, .ref xa5, .ref xa6, .ref xa7, .ref xa8, .ref xa9, .ref xa10, .int 0, .int 0, .int 0, .int 5, .ref xa11, .ref xa12, .ref xa13, .ref xa14])), (xa41, .inr (7, [.ref xa3, .ref xa28, .ref xa42, .ref xa43, .ref xa44])), (ou, .inl (kJ, 1, .inr (.inl fo)))] s.heap := hP
  have hl := lv_entry ([.ref h0, .int p0, .int (nI k), .int 2, .ref ou]) (n := 6) (Nat.le_of_ble_eq_true rfl)
  have hla : entryFrame m args0 6 = entryFrame m ([.ref h0, .int p0, .int (nI k), .int 2, .ref ou] : List Value).toArray 6 := by rw [hargs]
  rw [hla, lg_entry_eq]
  generalize (lg_sl ([.ref h0, .int p0, .int (nI k), .int 2, .ref ou]) ++ List.replicate (6 - (lg_sl ([.ref h0, .int p0, .int (nI k), .int 2, .ref ou])).length) Slot.unset).toArray = ls at hl ⊢
  have hl : lv_has ls 6 [(0, .ref h0), (1, .int p0), (2, .int (nI k)), (3, .int 2), (4, .ref ou)] := hl
  refine lv_aload hx hb dL_years_0 (lv_at hl 4 rfl) ?_
  refine lv_iconst (v := 0) hx hb dL_years_2 (by decide) ?_
  refine lv_aload_n hx hb dL_years_3 rfl (lv_at hl 0 rfl) ?_
  refine lv_iload_n hx hb dL_years_4 rfl (lv_at hl 1 rfl) ?_
  refine lv_iload_n hx hb dL_years_5 rfl (lv_at hl 2 rfl) ?_
  refine lv_iload_n hx hb dL_years_6 rfl (lv_at hl 3 rfl) ?_
  have hPc := hP.sub (ws' := [(h0, .inr (10, [.ref xa1, .ref xa3, .ref xa15, .ref xa27, .ref xa28, .ref xa33, .ref xa38, .ref xa41, .ref xa45, .ref xa46, .ref xa47, .ref xa52, .ref xa54, .int 0, .ref xa55, .ref xa60, .ref xa62, .ref xa67, .int (-1)])), (xa28, .inr (0, [.ref xa29, .ref xa30, .ref xa31, .ref xa32, .int 5, .int 0, .int 0, .int 0, .int 0, .int 0])), (xa29, .inl (kJ, 96, .inr (.inl (fun _ => 0)))), (xa30, .inl (kI, 30, .inl (fun _ => 0))), (xa31, .inl (kI, 12, .inl (fun _ => 0))), (xa32, .inl (kI, 12, .inl (fun _ => 0))), (xa33, .inr (0, [.ref xa34, .ref xa35, .ref xa36, .ref xa37, .int 5, .int 0, .int 0, .int 0, .int 0, .int 0])), (xa34, .inl (kJ, 96, .inr (.inl (fun _ => 0)))), (xa35, .inl (kI, 30, .inl (fun _ => 0))), (xa36, .inl (kI, 12, .inl (fun _ => 0))), (xa37, .inl (kI, 12, .inl (fun _ => 0))), (xa46, .inr (6, [.ref xa3, .ref xa28, .ref xa45, .ref xa38, .int 0])), (xa3, .inr (2, [.ref xa4, .ref xa5, .ref xa6, .ref xa7, .ref xa8, .ref xa9, .ref xa10, .int 0, .int 0, .int 0, .int 5, .ref xa11, .ref xa12, .ref xa13, .ref xa14])), (xa41, .inr (7, [.ref xa3, .ref xa28, .ref xa42, .ref xa43, .ref xa44]))]) [0, 1, 2, 3, 4, 5, 6, 7, 8, 9, 10, 11, 12, 13] rfl
  have hDc := hD.sub (ws' := [(h0, .inr (10, [.ref xa1, .ref xa3, .ref xa15, .ref xa27, .ref xa28, .ref xa33, .ref xa38, .ref xa41, .ref xa45, .ref xa46, .ref xa47, .ref xa52, .ref xa54, .int 0, .ref xa55, .ref xa60, .ref xa62, .ref xa67, .int (-1)])), (xa28, .inr (0, [.ref xa29, .ref xa30, .ref xa31, .ref xa32, .int 5, .int 0, .int 0, .int 0, .int 0, .int 0])), (xa29, .inl (kJ, 96, .inr (.inl (fun _ => 0)))), (xa30, .inl (kI, 30, .inl (fun _ => 0))), (xa31, .inl (kI, 12, .inl (fun _ => 0))), (xa32, .inl (kI, 12, .inl (fun _ => 0))), (xa33, .inr (0, [.ref xa34, .ref xa35, .ref xa36, .ref xa37, .int 5, .int 0, .int 0, .int 0, .int 0, .int 0])), (xa34, .inl (kJ, 96, .inr (.inl (fun _ => 0)))), (xa35, .inl (kI, 30, .inl (fun _ => 0))), (xa36, .inl (kI, 12, .inl (fun _ => 0))), (xa37, .inl (kI, 12, .inl (fun _ => 0))), (xa46, .inr (6, [.ref xa3, .ref xa28, .ref xa45, .ref xa38, .int 0])), (xa3, .inr (2, [.ref xa4, .ref xa5, .ref xa6, .ref xa7, .ref xa8, .ref xa9, .ref xa10, .int 0, .int 0, .int 0, .int 5, .ref xa11, .ref xa12, .ref xa13, .ref xa14])), (xa41, .inr (7, [.ref xa3, .ref xa28, .ref xa42, .ref xa43, .ref xa44]))]) [0, 1, 2, 3, 4, 5, 6, 7, 8, 9, 10, 11, 12, 13] (by decide) rfl
  have hFc := va_free (wc := [(h0, .inr (10, [.ref xa1, .ref xa3, .ref xa15, .ref xa27, .ref xa28, .ref xa33, .ref xa38, .ref xa41, .ref xa45, .ref xa46, .ref xa47, .ref xa52, .ref xa54, .int 0, .ref xa55, .ref xa60, .ref xa62, .ref xa67, .int (-1)])), (xa28, .inr (0, [.ref xa29, .ref xa30, .ref xa31, .ref xa32, .int 5, .int 0, .int 0, .int 0, .int 0, .int 0])), (xa29, .inl (kJ, 96, .inr (.inl (fun _ => 0)))), (xa30, .inl (kI, 30, .inl (fun _ => 0))), (xa31, .inl (kI, 12, .inl (fun _ => 0))), (xa32, .inl (kI, 12, .inl (fun _ => 0))), (xa33, .inr (0, [.ref xa34, .ref xa35, .ref xa36, .ref xa37, .int 5, .int 0, .int 0, .int 0, .int 0, .int 0])), (xa34, .inl (kJ, 96, .inr (.inl (fun _ => 0)))), (xa35, .inl (kI, 30, .inl (fun _ => 0))), (xa36, .inl (kI, 12, .inl (fun _ => 0))), (xa37, .inl (kI, 12, .inl (fun _ => 0))), (xa46, .inr (6, [.ref xa3, .ref xa28, .ref xa45, .ref xa38, .int 0])), (xa3, .inr (2, [.ref xa4, .ref xa5, .ref xa6, .ref xa7, .ref xa8, .ref xa9, .ref xa10, .int 0, .int 0, .int 0, .int 5, .ref xa11, .ref xa12, .ref xa13, .ref xa14])), (xa41, .inr (7, [.ref xa3, .ref xa28, .ref xa42, .ref xa43, .ref xa44]))]) hD hS hA [0, 1, 2, 3, 4, 5, 6, 7, 8, 9, 10, 11, 12, 13] rfl
  refine va_calli (va_runV (As := [.int p0, .int (nI k), .int 2]) (rest := [.int 0, .ref ou]) ⟨hx, hb, hml, hown, hts⟩ (k10_years_2 l dC dI kB kI kJ kZ kC kS s.heap.size h0 xa1 xa3 xa15 xa27 xa28 xa33 xa38 xa41 xa45 xa46 xa47 xa52 xa54 xa55 xa60 xa62 xa67 xa29 xa30 xa31 xa32 xa34 xa35 xa36 xa37 xa4 xa5 xa6 xa7 xa8 xa9 xa10 xa11 xa12 xa13 xa14 xa42 xa43 xa44 p0 k (hk)) (cwV 3 hts gL_years_X10_years rfl rfl rfl (by decide +kernel) ⟨Nat.le_of_ble_eq_true rfl, Nat.le_of_ble_eq_true rfl⟩) ⟨fun a U g mk q => by obtain ⟨q0, q1, qP, qE, qD⟩ := q; exact ⟨q0, q1, qP, kE_call qE, qD⟩, va_recv hK hP (ci := 10) (q0 := 0) rfl rfl, fun U hU hW => ⟨rfl, by rw [hU], by rw [hU]; exact hPc, kE_warm hW hE, hDc.weaken (fun _ _ _ _ => trivial)⟩⟩ rfl rfl hl.1 rfl (lv_room (Nat.le_of_ble_eq_true rfl)) dL_years_7 ⟨Nat.le_of_ble_eq_true rfl, Nat.le_of_ble_eq_true rfl⟩) hS (fun q _ h => hFc q h) hFc (fun r1 u t H1 locs ht hvm w2 hB hz1 hk1 hS => ?_)
  obtain ⟨hP1, hD1⟩ := hB
  rw [ht] at hP1
  try dsimp only at w2
  obtain ⟨hP, hD⟩ := va_join (wr := [(ou, .inl (kJ, 1, .inr (.inl fo)))]) (w1 := []) hP hD [0, 1, 2, 3, 4, 5, 6, 7, 8, 9, 10, 11, 12, 13] [14] rfl rfl (by decide) (by decide) hk1 hFc hP1 hD1
  generalize H1 = H at hP hS ⊢
  have hP : va_P (dC, dI) vwCl [(ou, .inl (kJ, 1, .inr (.inl fo)))] H := hP
  have hD : va_D A [(ou, .inl (kJ, 1, .inr (.inl fo)))] := hD
  refine W.widen (k := 0) (n := 0) (Nat.le_of_ble_eq_true rfl) (Nat.le_of_ble_eq_true rfl) ?_
  subst w2
  refine lv_i2l (v := 0) hx hb dL_years_10 (by decide) ?_
  refine va_last hx hb hK hP hD hS 0 2 rfl rfl (vp_in_nI (n := 0) (by decide) (by decide)) dL_years_11 (fun H locs hP hD hS => ?_)
  have hP : va_P (dC, dI) vwCl [(ou, .inl (kJ, 1, .inr (.inl (vp_updL fo 0 0))))] H := hP
  have hD : va_D A [(ou, .inl (kJ, 1, .inr (.inl (vp_updL fo 0 0))))] := hD
  refine lv_goto (tgt := 23) hx hb dL_years_12 (by decide) ?_
  refine lv_iconst (v := 0) hx hb dL_years_23 (by decide) ?_
  have hP9 := hP.sub (ws' := [(ou, .inl (kJ, 1, .inr (.inl (vp_updL fo 0 0))))]) [0] rfl
  have hD9 := hD.sub (ws' := [(ou, .inl (kJ, 1, .inr (.inl (vp_updL fo 0 0))))]) [0] (by decide) rfl
  exact W.iret (v := 0) hx hb hr (fun t ht hW => ⟨⟨0, (), rfl, rfl, vp_updL fo 0 0, rfl, by rw [ht]; exact hP9, hD9⟩, hS.F ht⟩) hS.2.2 dL_years_24
