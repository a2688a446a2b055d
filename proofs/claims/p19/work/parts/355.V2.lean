def rm_s11_isBranch_x : Room := { frames := 0, cells := 0, slots := 0, locals := 0 }
set_option maxHeartbeats 4000000 in
set_option maxRecDepth 100000 in
theorem s11_isBranch_x (l : Launch) (dC : Nat → ClassId) (dI : Nat → Nat → Nat) (kB kI kJ kZ kC kS : ClassId) (sz : Nat) (m0 : Nat) (ra : Nat → Nat) (x0 : Nat → Int32) (q_told : Nat → Int32) (q_from : Nat → Int32) (q_to : Nat → Int32) (q_reach : Nat → Int32) (p0 : Int32) (p1 : Int32) (p2 : Int32) (hX : fI lX11 hX11 x0) (hq_told : fI lTold hTold q_told) (hq_from : fI (fun _ => 0) (fun _ => 11) q_from) (hq_to : fI (fun _ => 0) (fun _ => 11) q_to) (hp0 : iv 0 19 p0) (hp1 : iv 0 11 p1) (hp2 : iv 0 11 p2) (hTR : TabR q_told q_from q_to q_reach) (he : p2.toNatClampNeg < (q_told 0).toNatClampNeg) : Met l yX11_isBranch wsX11_isBranch rm_s11_isBranch_x (va_Pc [.ref m0, .int p0, .int p1, .int p2] (fun U => U.heap.size = sz ∧ va_P (dC, dI) vwCl [(m0, .inr (11, oX11 ra x0)), (ra 2, .inl (kI, 8, .inl q_told)), (ra 8, .inl (kI, 40, .inl q_from)), (ra 9, .inl (kI, 40, .inl q_to)), (ra 14, .inl (kI, 12, .inl q_reach))] U.heap ∧ kE dC dI kB kI kJ kZ kC kS U ∧ va_D (fun _ => True) [(m0, .inr (11, oX11 ra x0)), (ra 2, .inl (kI, 8, .inl q_told)), (ra 8, .inl (kI, 40, .inl q_from)), (ra 9, .inl (kI, 40, .inl q_to)), (ra 14, .inl (kI, 12, .inl q_reach))])) (va_Qi (fun (r : Int32) (_ : Unit) => iv 0 1 r ∧ (IbR ((bpT (nF q_from) (nF q_to) (q_told 1).toNatClampNeg p2.toNatClampNeg p1.toNatClampNeg) p0.toNatClampNeg) r)) (fun _ t => va_P (dC, dI) vwCl [(m0, .inr (11, oX11 ra x0)), (ra 2, .inl (kI, 8, .inl q_told)), (ra 8, .inl (kI, 40, .inl q_from)), (ra 9, .inl (kI, 40, .inl q_to)), (ra 14, .inl (kI, 12, .inl q_reach))] t.heap ∧ va_D (va_A [(m0, .inr (11, oX11 ra x0)), (ra 2, .inl (kI, 8, .inl q_told)), (ra 8, .inl (kI, 40, .inl q_from)), (ra 9, .inl (kI, 40, .inl q_to)), (ra 14, .inl (kI, 12, .inl q_reach))] sz) [(m0, .inr (11, oX11 ra x0)), (ra 2, .inl (kI, 8, .inl q_told)), (ra 8, .inl (kI, 40, .inl q_from)), (ra 9, .inl (kI, 40, .inl q_to)), (ra 14, .inl (kI, 12, .inl q_reach))]) (va_A [(m0, .inr (11, oX11 ra x0)), (ra 2, .inl (kI, 8, .inl q_told)), (ra 8, .inl (kI, 40, .inl q_from)), (ra 9, .inl (kI, 40, .inl q_to)), (ra 14, .inl (kI, 12, .inl q_reach))] sz)) 0 0 (va_A [(m0, .inr (11, oX11 ra x0)), (ra 2, .inl (kI, 8, .inl q_told)), (ra 8, .inl (kI, 40, .inl q_from)), (ra 9, .inl (kI, 40, .inl q_to)), (ra 14, .inl (kI, 12, .inl q_reach))] sz) := by
  refine Met.ofW (cc := cX11_isBranch) (maxL := 4) (ret := (some .boolean)) (by decide) rfl ?_
  intro p e s m args0 below meth c s₁ B hml hv
  obtain ⟨hargs, hsz, hP, hE, hD0⟩ := hv
  have hx := B.exec
  have hb := B.bytes
  have hr := B.returns
  have hts := atoms_spec (ws := wsX11_isBranch) B.pre
  have hown : s.vm.findClass RX11 = some m.cls := findClass_of_methodNamed B.named
  have hlocks := B.notSynchronized
  have hK := hE.1
  have hin11 : ∀ w ∈ wsX110, w ∈ wsX11_isBranch := fun _ h9 => List.mem_cons_of_mem _ (List.mem_append_right _ h9)
  have hw_0 := hts (.fieldLink RX11 53 "PathProberModel" "from" "[I") (List.mem_of_getElem? (i := 1) rfl)
  have hw_1 := hts (.fieldLink RX11 73 "PathProberModel" "reach" "[I") (List.mem_of_getElem? (i := 2) rfl)
  have hw_2 := hts (.fieldLink RX11 56 "PathProberModel" "to" "[I") (List.mem_of_getElem? (i := 3) rfl)
  subst hsz
  have hD := hD0.self (sz := s.heap.size)
  generalize hAe : va_A [(m0, .inr (11, oX11 ra x0)), (ra 2, .inl (kI, 8, .inl q_told)), (ra 8, .inl (kI, 40, .inl q_from)), (ra 9, .inl (kI, 40, .inl q_to)), (ra 14, .inl (kI, 12, .inl q_reach))] s.heap.size = A at hD ⊢
  have hA : ∀ q : Nat, s.heap.size ≤ q → A q := fun q h => by rw [← hAe]; exact Or.inr h
  have hS : va_S A s.heap s.heap [] := va_S.rf
  have hP : va_P (dC, dI) vwCl [(m0, .inr (11, oX11 ra x0)), (ra 2, .inl (kI, 8, .inl q_told)), (ra 8, .inl (kI, 40, .inl q_from)), (ra 9, .inl (kI, 40, .inl q_to)), (ra 14, .inl (kI, 12, .inl q_reach))] s.heap := hP
  have hl := lv_entry ([.ref m0, .int p0, .int p1, .int p2]) (n := 4) (Nat.le_of_ble_eq_true rfl)
  have hla : entryFrame m args0 4 = entryFrame m ([.ref m0, .int p0, .int p1, .int p2] : List Value).toArray 4 := by rw [hargs]
  rw [hla, lg_entry_eq]
  generalize (lg_sl ([.ref m0, .int p0, .int p1, .int p2]) ++ List.replicate (4 - (lg_sl ([.ref m0, .int p0, .int p1, .int p2])).length) Slot.unset).toArray = ls at hl ⊢
  have hl : lv_has ls 4 [(0, .ref m0), (1, .int p0), (2, .int p1), (3, .int p2)] := hl
  refine lv_aload_n hx hb dX11_isBranch_0 rfl (lv_at hl 0 rfl) ?_
  refine va_get (D := (dC, dI)) (ci := 11) (v := .ref (ra 8)) (C := RX11) (T := TX11) (N := 61) hx hb hts hin11 hown hK hP 0 rfl rfl 9 (Nat.le_of_ble_eq_true rfl) hw_0 (fun _ h9 => h9) rfl dX11_isBranch_1 ?_
  refine lv_iload_n hx hb dX11_isBranch_4 rfl (lv_at hl 1 rfl) ?_
  refine va_iald hx hb hK hP 2 1 rfl rfl (iv_in hp0 (by decide) (by decide)) dX11_isBranch_5 ?_
  have b1 : iv 0 11 (q_from p0.toNatClampNeg) := hq_from _
  refine lv_iload_n hx hb dX11_isBranch_6 rfl (lv_at hl 2 rfl) ?_
  refine lv_icmp_ne (tgt := 33) hx hb dX11_isBranch_7 rfl (fun c2 => ?_) (fun c2 => ?_)
  · refine lv_iconst (v := 0) hx hb dX11_isBranch_33 ic_0 ?_
    have hP9 := hP
    have hD9 := hD
    exact W.zret (v := 0) (ty := .boolean) hx hb hr rfl (fun t ht hW => ⟨⟨0, (), rfl, ⟨(iv_w ivk_0 (by decide) (by decide)), Or.inl ⟨rfl, ib_a (hq_from p0.toNatClampNeg) hp1 c2⟩⟩, by rw [ht]; exact hP9, hD9⟩, hS.F ht⟩) hS.2.2 dX11_isBranch_34
  · refine lv_aload_n hx hb dX11_isBranch_10 rfl (lv_at hl 0 rfl) ?_
    refine va_get (D := (dC, dI)) (ci := 11) (v := .ref (ra 14)) (C := RX11) (T := TX11) (N := 61) hx hb hts hin11 hown hK hP 0 rfl rfl 25 (Nat.le_of_ble_eq_true rfl) hw_1 (fun _ h9 => h9) rfl dX11_isBranch_11 ?_
    refine lv_iload_n hx hb dX11_isBranch_14 rfl (lv_at hl 3 rfl) ?_
    refine va_iald hx hb hK hP 4 1 rfl rfl (iv_in hp2 (by decide) (by decide)) dX11_isBranch_15 ?_
    refine lv_aload_n hx hb dX11_isBranch_16 rfl (lv_at hl 0 rfl) ?_
    refine va_get (D := (dC, dI)) (ci := 11) (v := .ref (ra 9)) (C := RX11) (T := TX11) (N := 61) hx hb hts hin11 hown hK hP 0 rfl rfl 10 (Nat.le_of_ble_eq_true rfl) hw_2 (fun _ h9 => h9) rfl dX11_isBranch_17 ?_
    refine lv_iload_n hx hb dX11_isBranch_20 rfl (lv_at hl 1 rfl) ?_
    refine va_iald hx hb hK hP 3 1 rfl rfl (iv_in hp0 (by decide) (by decide)) dX11_isBranch_21 ?_
    have b3 : iv 0 11 (q_to p0.toNatClampNeg) := hq_to _
    refine lv_ishr hx hb dX11_isBranch_22 ?_
    refine lv_iconst (v := 1) hx hb dX11_isBranch_23 ic_1 ?_
    refine lv_iand hx hb dX11_isBranch_24 ?_
    have b4 : iv 0 1 (((q_reach p2.toNatClampNeg) >>> ((q_to p0.toNatClampNeg : Int32) &&& 31)) &&& 1) := iv_and (m := 1) (by decide) (by decide) (by decide)
    refine lv_iconst (v := 1) hx hb dX11_isBranch_25 ic_1 ?_
    refine lv_icmp_ne (tgt := 33) hx hb dX11_isBranch_26 rfl (fun c5 => ?_) (fun c5 => ?_)
    · have b6 : iv 0 0 (((q_reach p2.toNatClampNeg) >>> ((q_to p0.toNatClampNeg : Int32) &&& 31)) &&& 1) := iv_neHi c5 b4 ivk_1 (by decide) (by decide)
      refine lv_iconst (v := 0) hx hb dX11_isBranch_33 ic_0 ?_
      have hP9 := hP
      have hD9 := hD
      exact W.zret (v := 0) (ty := .boolean) hx hb hr rfl (fun t ht hW => ⟨⟨0, (), rfl, ⟨(iv_w ivk_0 (by decide) (by decide)), Or.inl ⟨rfl, ib_b hTR he (hq_to p0.toNatClampNeg) c5⟩⟩, by rw [ht]; exact hP9, hD9⟩, hS.F ht⟩) hS.2.2 dX11_isBranch_34
    · have b7 : iv 1 1 (((q_reach p2.toNatClampNeg) >>> ((q_to p0.toNatClampNeg : Int32) &&& 31)) &&& 1) := iv_eqL c5 ivk_1
      refine lv_iconst (v := 1) hx hb dX11_isBranch_29 ic_1 ?_
      refine lv_goto (tgt := 34) hx hb dX11_isBranch_30 rfl ?_
      have hP9 := hP
      have hD9 := hD
      exact W.zret (v := 1) (ty := .boolean) hx hb hr rfl (fun t ht hW => ⟨⟨1, (), rfl, ⟨(iv_w ivk_1 (by decide) (by decide)), Or.inr ⟨rfl, ib_1 hTR he (hq_to p0.toNatClampNeg) c2 c5⟩⟩, by rw [ht]; exact hP9, hD9⟩, hS.F ht⟩) hS.2.2 dX11_isBranch_34
def rm_s11_branches_x : Room := { frames := 1, cells := 0, slots := 0, locals := 23 }
set_option maxHeartbeats 4000000 in
set_option maxRecDepth 100000 in
theorem s11_branches_x (l : Launch) (dC : Nat → ClassId) (dI : Nat → Nat → Nat) (kB kI kJ kZ kC kS : ClassId) (sz : Nat) (m0 : Nat) (ra : Nat → Nat) (x0 : Nat → Int32) (q_told : Nat → Int32) (q_from : Nat → Int32) (q_to : Nat → Int32) (q_reach : Nat → Int32) (p0 : Int32) (p1 : Int32) (hX : fI lX11 hX11 x0) (hq_told : fI lTold hTold q_told) (hq_from : fI (fun _ => 0) (fun _ => 11) q_from) (hq_to : fI (fun _ => 0) (fun _ => 11) q_to) (hp0 : iv 0 11 p0) (hp1 : iv 0 11 p1) (hTR : TabR q_told q_from q_to q_reach) (he : p1.toNatClampNeg < (q_told 0).toNatClampNeg) : Met l yX11_branches wsX11_branches rm_s11_branches_x (va_Pc [.ref m0, .int p0, .int p1] (fun U => U.heap.size = sz ∧ va_P (dC, dI) vwCl [(m0, .inr (11, oX11 ra x0)), (ra 2, .inl (kI, 8, .inl q_told)), (ra 8, .inl (kI, 40, .inl q_from)), (ra 9, .inl (kI, 40, .inl q_to)), (ra 14, .inl (kI, 12, .inl q_reach))] U.heap ∧ kE dC dI kB kI kJ kZ kC kS U ∧ va_D (fun _ => True) [(m0, .inr (11, oX11 ra x0)), (ra 2, .inl (kI, 8, .inl q_told)), (ra 8, .inl (kI, 40, .inl q_from)), (ra 9, .inl (kI, 40, .inl q_to)), (ra 14, .inl (kI, 12, .inl q_reach))])) (va_Qi (fun (r : Int32) (_ : Unit) => r = nI (cnP (bpT (nF q_from) (nF q_to) (q_told 1).toNatClampNeg p1.toNatClampNeg p0.toNatClampNeg) (q_told 1).toNatClampNeg) ∧ iv 0 20 r) (fun _ t => va_P (dC, dI) vwCl [(m0, .inr (11, oX11 ra x0)), (ra 2, .inl (kI, 8, .inl q_told)), (ra 8, .inl (kI, 40, .inl q_from)), (ra 9, .inl (kI, 40, .inl q_to)), (ra 14, .inl (kI, 12, .inl q_reach))] t.heap ∧ va_D (va_A [(m0, .inr (11, oX11 ra x0)), (ra 2, .inl (kI, 8, .inl q_told)), (ra 8, .inl (kI, 40, .inl q_from)), (ra 9, .inl (kI, 40, .inl q_to)), (ra 14, .inl (kI, 12, .inl q_reach))] sz) [(m0, .inr (11, oX11 ra x0)), (ra 2, .inl (kI, 8, .inl q_told)), (ra 8, .inl (kI, 40, .inl q_from)), (ra 9, .inl (kI, 40, .inl q_to)), (ra 14, .inl (kI, 12, .inl q_reach))]) (va_A [(m0, .inr (11, oX11 ra x0)), (ra 2, .inl (kI, 8, .inl q_told)), (ra 8, .inl (kI, 40, .inl q_from)), (ra 9, .inl (kI, 40, .inl q_to)), (ra 14, .inl (kI, 12, .inl q_reach))] sz)) 0 0 (va_A [(m0, .inr (11, oX11 ra x0)), (ra 2, .inl (kI, 8, .inl q_told)), (ra 8, .inl (kI, 40, .inl q_from)), (ra 9, .inl (kI, 40, .inl q_to)), (ra 14, .inl (kI, 12, .inl q_reach))] sz) := by
  refine Met.ofW (cc := cX11_branches) (maxL := 5) (ret := (some .int)) (by decide) rfl ?_
  intro p e s m args0 below meth c s₁ B hml hv
  obtain ⟨hargs, hsz, hP, hE, hD0⟩ := hv
  have hx := B.exec
  have hb := B.bytes
  have hr := B.returns
  have hts := atoms_spec (ws := wsX11_branches) B.pre
  have hown : s.vm.findClass RX11 = some m.cls := findClass_of_methodNamed B.named
  have hlocks := B.notSynchronized
  have hK := hE.1
  have hin11 : ∀ w ∈ wsX110, w ∈ wsX11_branches := fun _ h9 => List.mem_cons_of_mem _ (List.mem_append_right _ h9)
  subst hsz
  have hD := hD0.self (sz := s.heap.size)
  generalize hAe : va_A [(m0, .inr (11, oX11 ra x0)), (ra 2, .inl (kI, 8, .inl q_told)), (ra 8, .inl (kI, 40, .inl q_from)), (ra 9, .inl (kI, 40, .inl q_to)), (ra 14, .inl (kI, 12, .inl q_reach))] s.heap.size = A at hD ⊢
  have hA : ∀ q : Nat, s.heap.size ≤ q → A q := fun q h => by rw [← hAe]; exact Or.inr h
  have hS : va_S A s.heap s.heap [] := va_S.rf
  have hP : va_P (dC, dI) vwCl [(m0, .inr (11, oX11 ra x0)), (ra 2, .inl (kI, 8, .inl q_told)), (ra 8, .inl (kI, 40, .inl q_from)), (ra 9, .inl (kI, 40, .inl q_to)), (ra 14, .inl (kI, 12, .inl q_reach))] s.heap := hP
  have hl := lv_entry ([.ref m0, .int p0, .int p1]) (n := 5) (Nat.le_of_ble_eq_true rfl)
  have hla : entryFrame m args0 5 = entryFrame m ([.ref m0, .int p0, .int p1] : List Value).toArray 5 := by rw [hargs]
  rw [hla, lg_entry_eq]
  generalize (lg_sl ([.ref m0, .int p0, .int p1]) ++ List.replicate (5 - (lg_sl ([.ref m0, .int p0, .int p1])).length) Slot.unset).toArray = ls at hl ⊢
  have hl : lv_has ls 5 [(0, .ref m0), (1, .int p0), (2, .int p1)] := hl
  have hJ5 : ∀ (n : Nat) (v5_loc3 : Int32) (v5_loc4 : Int32) (H : Heap) (locs : List Loc) (ls : Array Slot), (20 - v5_loc4.toInt).toNat < n → iv 0 20 v5_loc4 → (BcR (bpT (nF q_from) (nF q_to) (q_told 1).toNatClampNeg p1.toNatClampNeg p0.toNatClampNeg) (q_told 1).toNatClampNeg v5_loc3 v5_loc4) → (x0 1 = x0 1) → (x0 10 = x0 10) → (x0 11 = x0 11) → (x0 14 = x0 14) → va_P (dC, dI) vwCl [(m0, .inr (11, oX11 ra x0)), (ra 2, .inl (kI, 8, .inl q_told)), (ra 8, .inl (kI, 40, .inl q_from)), (ra 9, .inl (kI, 40, .inl q_to)), (ra 14, .inl (kI, 12, .inl q_reach))] H → va_D A [(m0, .inr (11, oX11 ra x0)), (ra 2, .inl (kI, 8, .inl q_told)), (ra 8, .inl (kI, 40, .inl q_from)), (ra 9, .inl (kI, 40, .inl q_to)), (ra 14, .inl (kI, 12, .inl q_reach))] → va_S A s.heap H locs → lv_has ls 5 [(0, .ref m0), (1, .int p0), (2, .int p1), (3, .int v5_loc3), (4, .int v5_loc4)] → W p l e (headSpec wsX11_branches rm_s11_branches_x).room s m args0 below meth c H locs (0) (0) (MQ below (va_Qi (fun (r : Int32) (_ : Unit) => r = nI (cnP (bpT (nF q_from) (nF q_to) (q_told 1).toNatClampNeg p1.toNatClampNeg p0.toNatClampNeg) (q_told 1).toNatClampNeg) ∧ iv 0 20 r) (fun _ t => va_P (dC, dI) vwCl [(m0, .inr (11, oX11 ra x0)), (ra 2, .inl (kI, 8, .inl q_told)), (ra 8, .inl (kI, 40, .inl q_from)), (ra 9, .inl (kI, 40, .inl q_to)), (ra 14, .inl (kI, 12, .inl q_reach))] t.heap ∧ va_D A [(m0, .inr (11, oX11 ra x0)), (ra 2, .inl (kI, 8, .inl q_told)), (ra 8, .inl (kI, 40, .inl q_from)), (ra 9, .inl (kI, 40, .inl q_to)), (ra 14, .inl (kI, 12, .inl q_reach))]) A) args0 s 0 0 A) (F0 m 5 ls []) := by
    intro n
    induction n with
    | zero => intro v5_loc3 v5_loc4 H locs ls hm5; exact absurd hm5 (Nat.not_lt_zero _)
    | succ n ih5 =>
      intro v5_loc3 v5_loc4 H locs ls hm5 h5_1 hbc_5 htp_5 hfp_5 hor_5 hirl_5 hP hD hS hl
      refine lv_iload hx hb dX11_branches_5 (lv_at hl 4 rfl) ?_
      refine lv_aload_n hx hb dX11_branches_7 rfl (lv_at hl 0 rfl) ?_
      obtain ⟨hPc, hDc, hFc, hJn⟩ := cl_a (wc := [(m0, .inr (11, oX11 ra x0)), (ra 2, .inl (kI, 8, .inl q_told))]) (wr := [(ra 8, .inl (kI, 40, .inl q_from)), (ra 9, .inl (kI, 40, .inl q_to)), (ra 14, .inl (kI, 12, .inl q_reach))]) hP hD hS hA [0, 1] [2, 3, 4] rfl rfl (by decide +kernel)
      refine va_calli (va_runV (As := []) (rest := [.int v5_loc4]) ⟨hx, hb, hml, hown, hts⟩ (s11_links l dC dI kB kI kJ kZ kC kS H.size m0 ra x0 q_told (hX) (hq_told)) (cwV 0 hts gX11_branches_X11_links rfl rfl rfl (by decide +kernel) ⟨Nat.le_of_ble_eq_true rfl, Nat.le_of_ble_eq_true rfl⟩) ⟨fun a U g mk q => by obtain ⟨q0, q1, qP, qE, qD⟩ := q; exact ⟨q0, q1, qP, kE_call qE, qD⟩, va_recv hK hP (ci := 11) (q0 := 0) rfl rfl, fun U hU hW => ⟨rfl, by rw [hU], by rw [hU]; exact hPc, kE_warm hW hE, hDc.weaken (fun _ _ _ _ => trivial)⟩⟩ rfl rfl hl.1 rfl (lv_room (Nat.le_of_ble_eq_true rfl)) dX11_branches_8 ⟨Nat.le_of_ble_eq_true rfl, Nat.le_of_ble_eq_true rfl⟩) hS (fun q _ h => hFc q h) hFc (fun r1 u t H locs ht hvm w2 hB hz1 hk1 hS => ?_)
      obtain ⟨hP1, hD1⟩ := hB
      try dsimp only at w2
      obtain ⟨hPa, hDa⟩ := hJn (w1 := [(m0, .inr (11, oX11 ra x0)), (ra 2, .inl (kI, 8, .inl q_told))]) hk1 ht hP1 hD1
      clear hP hD hPc hDc hFc hJn hP1 hD1 hk1
      have hP : va_P (dC, dI) vwCl [(ra 8, .inl (kI, 40, .inl q_from)), (ra 9, .inl (kI, 40, .inl q_to)), (ra 14, .inl (kI, 12, .inl q_reach)), (m0, .inr (11, oX11 ra x0)), (ra 2, .inl (kI, 8, .inl q_told))] H := hPa
      have hD : va_D A [(ra 8, .inl (kI, 40, .inl q_from)), (ra 9, .inl (kI, 40, .inl q_to)), (ra 14, .inl (kI, 12, .inl q_reach)), (m0, .inr (11, oX11 ra x0)), (ra 2, .inl (kI, 8, .inl q_told))] := hDa
      clear hPa hDa
      refine W.widen (k := 0) (n := 0) (Nat.le_of_ble_eq_true rfl) (Nat.le_of_ble_eq_true rfl) ?_
      subst w2
      refine lv_icmp_ge (tgt := 39) hx hb dX11_branches_11 rfl (fun c3 => ?_) (fun c3 => ?_)
      · refine lv_iload_n hx hb dX11_branches_39 rfl (lv_at hl 3 rfl) ?_
        have hPD9 := cl_s (wc := [(m0, .inr (11, oX11 ra x0)), (ra 2, .inl (kI, 8, .inl q_told)), (ra 8, .inl (kI, 40, .inl q_from)), (ra 9, .inl (kI, 40, .inl q_to)), (ra 14, .inl (kI, 12, .inl q_reach))]) hP hD [3, 4, 0, 1, 2] rfl (by decide +kernel)
        have hP9 := hPD9.1
        have hD9 := hPD9.2
        exact W.iret (v := v5_loc3) hx hb hr (fun t ht hW => ⟨⟨v5_loc3, (), rfl, ⟨bc_e hbc_5 h5_1 ((hq_told 1 : iv 0 20 (q_told 1)) : iv 0 20 (q_told 1)) c3, bc_iv hbc_5 h5_1⟩, by rw [ht]; exact hP9, hD9⟩, hS.F ht⟩) hS.2.2 dX11_branches_40
      · have b4 : iv 0 19 v5_loc4 := iv_ltL (Int32.not_le.mp c3) h5_1 (hq_told 1 : iv 0 20 (q_told 1)) (by decide) (by decide)
        have b5 : iv 1 20 (q_told 1) := iv_ltR (Int32.not_le.mp c3) h5_1 (hq_told 1 : iv 0 20 (q_told 1)) (by decide) (by decide)
        refine lv_iload_n hx hb dX11_branches_14 rfl (lv_at hl 3 rfl) ?_
        refine lv_aload_n hx hb dX11_branches_15 rfl (lv_at hl 0 rfl) ?_
        refine lv_iload hx hb dX11_branches_16 (lv_at hl 4 rfl) ?_
        refine lv_iload_n hx hb dX11_branches_18 rfl (lv_at hl 1 rfl) ?_
        refine lv_iload_n hx hb dX11_branches_19 rfl (lv_at hl 2 rfl) ?_
        obtain ⟨hPc, hDc, hFc, hJn⟩ := cl_a (wc := [(m0, .inr (11, oX11 ra x0)), (ra 2, .inl (kI, 8, .inl q_told)), (ra 8, .inl (kI, 40, .inl q_from)), (ra 9, .inl (kI, 40, .inl q_to)), (ra 14, .inl (kI, 12, .inl q_reach))]) (wr := []) hP hD hS hA [3, 4, 0, 1, 2] [] rfl rfl (by decide +kernel)
        refine va_calli (va_runV (As := [.int v5_loc4, .int p0, .int p1]) (rest := [.int v5_loc3]) ⟨hx, hb, hml, hown, hts⟩ (s11_isBranch_x l dC dI kB kI kJ kZ kC kS H.size m0 ra x0 q_told q_from q_to q_reach v5_loc4 p0 p1 (hX) (hq_told) (hq_from) (hq_to) (b4) (hp0) (hp1) (hTR) (he)) (cwV 3 hts gX11_branches_X11_isBranch rfl rfl rfl (by decide +kernel) ⟨Nat.le_of_ble_eq_true rfl, Nat.le_of_ble_eq_true rfl⟩) ⟨fun a U g mk q => by obtain ⟨q0, q1, qP, qE, qD⟩ := q; exact ⟨q0, q1, qP, kE_call qE, qD⟩, va_recv hK hP (ci := 11) (q0 := 3) rfl rfl, fun U hU hW => ⟨rfl, by rw [hU], by rw [hU]; exact hPc, kE_warm hW hE, hDc.weaken (fun _ _ _ _ => trivial)⟩⟩ rfl rfl hl.1 rfl (lv_room (Nat.le_of_ble_eq_true rfl)) dX11_branches_20 ⟨Nat.le_of_ble_eq_true rfl, Nat.le_of_ble_eq_true rfl⟩) hS (fun q _ h => hFc q h) hFc (fun r6 u t H locs ht hvm w7 hB hz1 hk1 hS => ?_)
        obtain ⟨hP1, hD1⟩ := hB
        try dsimp only at w7
        obtain ⟨hPa, hDa⟩ := hJn (w1 := [(m0, .inr (11, oX11 ra x0)), (ra 2, .inl (kI, 8, .inl q_told)), (ra 8, .inl (kI, 40, .inl q_from)), (ra 9, .inl (kI, 40, .inl q_to)), (ra 14, .inl (kI, 12, .inl q_reach))]) hk1 ht hP1 hD1
        clear hP hD hPc hDc hFc hJn hP1 hD1 hk1
        have hP : va_P (dC, dI) vwCl [(m0, .inr (11, oX11 ra x0)), (ra 2, .inl (kI, 8, .inl q_told)), (ra 8, .inl (kI, 40, .inl q_from)), (ra 9, .inl (kI, 40, .inl q_to)), (ra 14, .inl (kI, 12, .inl q_reach))] H := hPa
        have hD : va_D A [(m0, .inr (11, oX11 ra x0)), (ra 2, .inl (kI, 8, .inl q_told)), (ra 8, .inl (kI, 40, .inl q_from)), (ra 9, .inl (kI, 40, .inl q_to)), (ra 14, .inl (kI, 12, .inl q_reach))] := hDa
        clear hPa hDa
        refine W.widen (k := 0) (n := 0) (Nat.le_of_ble_eq_true rfl) (Nat.le_of_ble_eq_true rfl) ?_
        refine lv_if_eq (tgt := 30) hx hb dX11_branches_23 rfl (fun c8 => ?_) (fun c8 => ?_)
        · have b9 : iv 0 0 r6 := iv_eqL c8 ivk_0
          refine lv_iconst (v := 0) hx hb dX11_branches_30 ic_0 ?_
          refine lv_iadd hx hb dX11_branches_31 ?_
          have b10 : iv (-2147483648) 2147483647 (v5_loc3 + 0) := iv_add (iv_t v5_loc3) ivk_0 (by decide) (by decide) (by decide) (by decide)
          refine lv_istore_n (lv' := [(3, .int (v5_loc3 + 0)), (0, .ref m0), (1, .int p0), (2, .int p1), (4, .int v5_loc4)]) hx hb dX11_branches_32 rfl hl (Nat.le_of_ble_eq_true rfl) rfl (fun ls hl => ?_)
          refine lv_iinc (v := v5_loc4 + Int32.ofInt 1) (lv' := [(4, .int (v5_loc4 + Int32.ofInt 1)), (3, .int (v5_loc3 + 0)), (0, .ref m0), (1, .int p0), (2, .int p1)]) hx hb dX11_branches_33 hl (k := 4) rfl (rfl) (Nat.le_of_ble_eq_true rfl) rfl (fun ls hl => ?_)
          have b11 : iv 1 20 (v5_loc4 + Int32.ofInt 1) := iv_add b4 ivo_1 (by decide) (by decide) (by decide) (by decide)
          refine lv_goto (tgt := 5) hx hb dX11_branches_36 rfl ?_
          exact ih5 (v5_loc3 + 0) (v5_loc4 + Int32.ofInt 1) _ _ _ (ms_up (c := 1) (d := 0) b4 hm5 (by decide) (iv_inc 1 b4 (by decide) (by decide) (by decide) (by decide)) (by decide) rfl) ((iv_w b11 (by decide) (by decide))) ((show BcR (bpT (nF q_from) (nF q_to) (q_told 1).toNatClampNeg p1.toNatClampNeg p0.toNatClampNeg) (q_told 1).toNatClampNeg (v5_loc3 + 0) (v5_loc4 + Int32.ofInt 1) from bc_x hbc_5 b4 (kl_lt (b4 : iv 0 19 v5_loc4) ((iv_w b5 (by decide) (by decide)) : iv 0 20 (q_told 1)) (Int32.not_le.mp c3)) (ib_n w7.2 c8))) ((show x0 1 = x0 1 from rfl)) ((show x0 10 = x0 10 from rfl)) ((show x0 11 = x0 11 from rfl)) ((show x0 14 = x0 14 from rfl)) (hP) (hD) hS (lv_sub hl [2, 3, 4, 1, 0] rfl)
        · have b12 : iv 1 1 r6 := iv_neLo c8 w7.1 ivk_0 (by decide) (by decide)
          refine lv_iconst (v := 1) hx hb dX11_branches_26 ic_1 ?_
          refine lv_goto (tgt := 31) hx hb dX11_branches_27 rfl ?_
          refine lv_iadd hx hb dX11_branches_31 ?_
          refine lv_istore_n (lv' := [(3, .int (v5_loc3 + 1)), (0, .ref m0), (1, .int p0), (2, .int p1), (4, .int v5_loc4)]) hx hb dX11_branches_32 rfl hl (Nat.le_of_ble_eq_true rfl) rfl (fun ls hl => ?_)
          refine lv_iinc (v := v5_loc4 + Int32.ofInt 1) (lv' := [(4, .int (v5_loc4 + Int32.ofInt 1)), (3, .int (v5_loc3 + 1)), (0, .ref m0), (1, .int p0), (2, .int p1)]) hx hb dX11_branches_33 hl (k := 4) rfl (rfl) (Nat.le_of_ble_eq_true rfl) rfl (fun ls hl => ?_)
          have b13 : iv 1 20 (v5_loc4 + Int32.ofInt 1) := iv_add b4 ivo_1 (by decide) (by decide) (by decide) (by decide)
          refine lv_goto (tgt := 5) hx hb dX11_branches_36 rfl ?_
          exact ih5 (v5_loc3 + 1) (v5_loc4 + Int32.ofInt 1) _ _ _ (ms_up (c := 1) (d := 0) b4 hm5 (by decide) (iv_inc 1 b4 (by decide) (by decide) (by decide) (by decide)) (by decide) rfl) ((iv_w b13 (by decide) (by decide))) ((show BcR (bpT (nF q_from) (nF q_to) (q_told 1).toNatClampNeg p1.toNatClampNeg p0.toNatClampNeg) (q_told 1).toNatClampNeg (v5_loc3 + 1) (v5_loc4 + Int32.ofInt 1) from bc_y hbc_5 b4 (kl_lt (b4 : iv 0 19 v5_loc4) ((iv_w b5 (by decide) (by decide)) : iv 0 20 (q_told 1)) (Int32.not_le.mp c3)) (ib_y w7.2 c8))) ((show x0 1 = x0 1 from rfl)) ((show x0 10 = x0 10 from rfl)) ((show x0 11 = x0 11 from rfl)) ((show x0 14 = x0 14 from rfl)) (hP) (hD) hS (lv_sub hl [2, 3, 4, 1, 0] rfl)
  refine lv_iconst (v := 0) hx hb dX11_branches_0 ic_0 ?_
  refine lv_istore_n (lv' := [(3, .int 0), (0, .ref m0), (1, .int p0), (2, .int p1)]) hx hb dX11_branches_1 rfl hl (Nat.le_of_ble_eq_true rfl) rfl (fun ls hl => ?_)
  refine lv_iconst (v := 0) hx hb dX11_branches_2 ic_0 ?_
  refine lv_istore (lv' := [(4, .int 0), (3, .int 0), (0, .ref m0), (1, .int p0), (2, .int p1)]) hx hb dX11_branches_3 hl (Nat.le_of_ble_eq_true rfl) rfl (fun ls hl => ?_)
  exact hJ5 _ 0 0 _ _ _ (Nat.lt_succ_self _) ((iv_w ivk_0 (by decide) (by decide))) ((show BcR (bpT (nF q_from) (nF q_to) (q_told 1).toNatClampNeg p1.toNatClampNeg p0.toNatClampNeg) (q_told 1).toNatClampNeg 0 0 from bc_0)) ((show x0 1 = x0 1 from rfl)) ((show x0 10 = x0 10 from rfl)) ((show x0 11 = x0 11 from rfl)) ((show x0 14 = x0 14 from rfl)) (hP) (hD) hS (lv_sub hl [2, 3, 4, 1, 0] rfl)
def rm_s11_branchAt_x : Room := { frames := 1, cells := 0, slots := 0, locals := 23 }
set_option maxHeartbeats 4000000 in
set_option maxRecDepth 100000 in
theorem s11_branchAt_x (l : Launch) (dC : Nat → ClassId) (dI : Nat → Nat → Nat) (kB kI kJ kZ kC kS : ClassId) (sz : Nat) (m0 : Nat) (ra : Nat → Nat) (x0 : Nat → Int32) (q_told : Nat → Int32) (q_from : Nat → Int32) (q_to : Nat → Int32) (q_reach : Nat → Int32) (p0 : Int32) (p1 : Int32) (p2 : Int32) (hX : fI lX11 hX11 x0) (hq_told : fI lTold hTold q_told) (hq_from : fI (fun _ => 0) (fun _ => 11) q_from) (hq_to : fI (fun _ => 0) (fun _ => 11) q_to) (hp0 : iv 0 11 p0) (hp1 : iv 0 11 p1) (hp2 : iv 0 20 p2) (hTR : TabR q_told q_from q_to q_reach) (he : p1.toNatClampNeg < (q_told 0).toNatClampNeg) (hi9 : p2.toNatClampNeg < cnP (bpT (nF q_from) (nF q_to) (q_told 1).toNatClampNeg p1.toNatClampNeg p0.toNatClampNeg) (q_told 1).toNatClampNeg) : Met l yX11_branchAt wsX11_branchAt rm_s11_branchAt_x (va_Pc [.ref m0, .int p0, .int p1, .int p2] (fun U => U.heap.size = sz ∧ va_P (dC, dI) vwCl [(m0, .inr (11, oX11 ra x0)), (ra 2, .inl (kI, 8, .inl q_told)), (ra 8, .inl (kI, 40, .inl q_from)), (ra 9, .inl (kI, 40, .inl q_to)), (ra 14, .inl (kI, 12, .inl q_reach))] U.heap ∧ kE dC dI kB kI kJ kZ kC kS U ∧ va_D (fun _ => True) [(m0, .inr (11, oX11 ra x0)), (ra 2, .inl (kI, 8, .inl q_told)), (ra 8, .inl (kI, 40, .inl q_from)), (ra 9, .inl (kI, 40, .inl q_to)), (ra 14, .inl (kI, 12, .inl q_reach))])) (va_Qi (fun (r : Int32) (_ : Unit) => iv (-1) 19 r ∧ (iv 0 19 r ∧ (bpT (nF q_from) (nF q_to) (q_told 1).toNatClampNeg p1.toNatClampNeg p0.toNatClampNeg) r.toNatClampNeg ∧ r.toNatClampNeg < (q_told 1).toNatClampNeg ∧ cnP (bpT (nF q_from) (nF q_to) (q_told 1).toNatClampNeg p1.toNatClampNeg p0.toNatClampNeg) r.toNatClampNeg = p2.toNatClampNeg)) (fun _ t => va_P (dC, dI) vwCl [(m0, .inr (11, oX11 ra x0)), (ra 2, .inl (kI, 8, .inl q_told)), (ra 8, .inl (kI, 40, .inl q_from)), (ra 9, .inl (kI, 40, .inl q_to)), (ra 14, .inl (kI, 12, .inl q_reach))] t.heap ∧ va_D (va_A [(m0, .inr (11, oX11 ra x0)), (ra 2, .inl (kI, 8, .inl q_told)), (ra 8, .inl (kI, 40, .inl q_from)), (ra 9, .inl (kI, 40, .inl q_to)), (ra 14, .inl (kI, 12, .inl q_reach))] sz) [(m0, .inr (11, oX11 ra x0)), (ra 2, .inl (kI, 8, .inl q_told)), (ra 8, .inl (kI, 40, .inl q_from)), (ra 9, .inl (kI, 40, .inl q_to)), (ra 14, .inl (kI, 12, .inl q_reach))]) (va_A [(m0, .inr (11, oX11 ra x0)), (ra 2, .inl (kI, 8, .inl q_told)), (ra 8, .inl (kI, 40, .inl q_from)), (ra 9, .inl (kI, 40, .inl q_to)), (ra 14, .inl (kI, 12, .inl q_reach))] sz)) 0 0 (va_A [(m0, .inr (11, oX11 ra x0)), (ra 2, .inl (kI, 8, .inl q_told)), (ra 8, .inl (kI, 40, .inl q_from)), (ra 9, .inl (kI, 40, .inl q_to)), (ra 14, .inl (kI, 12, .inl q_reach))] sz) := by
  refine Met.ofW (cc := cX11_branchAt) (maxL := 6) (ret := (some .int)) (by decide) rfl ?_
  intro p e s m args0 below meth c s₁ B hml hv
  obtain ⟨hargs, hsz, hP, hE, hD0⟩ := hv
  have hx := B.exec
  have hb := B.bytes
  have hr := B.returns
  have hts := atoms_spec (ws := wsX11_branchAt) B.pre
  have hown : s.vm.findClass RX11 = some m.cls := findClass_of_methodNamed B.named
  have hlocks := B.notSynchronized
  have hK := hE.1
  have hin11 : ∀ w ∈ wsX110, w ∈ wsX11_branchAt := fun _ h9 => List.mem_cons_of_mem _ (List.mem_append_right _ h9)
  subst hsz
  have hD := hD0.self (sz := s.heap.size)
  generalize hAe : va_A [(m0, .inr (11, oX11 ra x0)), (ra 2, .inl (kI, 8, .inl q_told)), (ra 8, .inl (kI, 40, .inl q_from)), (ra 9, .inl (kI, 40, .inl q_to)), (ra 14, .inl (kI, 12, .inl q_reach))] s.heap.size = A at hD ⊢
  have hA : ∀ q : Nat, s.heap.size ≤ q → A q := fun q h => by rw [← hAe]; exact Or.inr h
  have hS : va_S A s.heap s.heap [] := va_S.rf
  have hP : va_P (dC, dI) vwCl [(m0, .inr (11, oX11 ra x0)), (ra 2, .inl (kI, 8, .inl q_told)), (ra 8, .inl (kI, 40, .inl q_from)), (ra 9, .inl (kI, 40, .inl q_to)), (ra 14, .inl (kI, 12, .inl q_reach))] s.heap := hP
  have hl := lv_entry ([.ref m0, .int p0, .int p1, .int p2]) (n := 6) (Nat.le_of_ble_eq_true rfl)
  have hla : entryFrame m args0 6 = entryFrame m ([.ref m0, .int p0, .int p1, .int p2] : List Value).toArray 6 := by rw [hargs]
  rw [hla, lg_entry_eq]
  generalize (lg_sl ([.ref m0, .int p0, .int p1, .int p2]) ++ List.replicate (6 - (lg_sl ([.ref m0, .int p0, .int p1, .int p2])).length) Slot.unset).toArray = ls at hl ⊢
  have hl : lv_has ls 6 [(0, .ref m0), (1, .int p0), (2, .int p1), (3, .int p2)] := hl
  have hJ6 : ∀ (n : Nat) (v6_loc4 : Int32) (v6_loc5 : Int32) (H : Heap) (locs : List Loc) (ls : Array Slot), (20 - v6_loc5.toInt).toNat < n → iv 0 20 v6_loc4 → iv 0 20 v6_loc5 → (BaR (bpT (nF q_from) (nF q_to) (q_told 1).toNatClampNeg p1.toNatClampNeg p0.toNatClampNeg) (q_told 1).toNatClampNeg p2 v6_loc4 v6_loc5) → (x0 1 = x0 1) → (x0 10 = x0 10) → (x0 11 = x0 11) → (x0 14 = x0 14) → va_P (dC, dI) vwCl [(m0, .inr (11, oX11 ra x0)), (ra 2, .inl (kI, 8, .inl q_told)), (ra 8, .inl (kI, 40, .inl q_from)), (ra 9, .inl (kI, 40, .inl q_to)), (ra 14, .inl (kI, 12, .inl q_reach))] H → va_D A [(m0, .inr (11, oX11 ra x0)), (ra 2, .inl (kI, 8, .inl q_told)), (ra 8, .inl (kI, 40, .inl q_from)), (ra 9, .inl (kI, 40, .inl q_to)), (ra 14, .inl (kI, 12, .inl q_reach))] → va_S A s.heap H locs → lv_has ls 6 [(0, .ref m0), (1, .int p0), (2, .int p1), (3, .int p2), (4, .int v6_loc4), (5, .int v6_loc5)] → W p l e (headSpec wsX11_branchAt rm_s11_branchAt_x).room s m args0 below meth c H locs (0) (0) (MQ below (va_Qi (fun (r : Int32) (_ : Unit) => iv (-1) 19 r ∧ (iv 0 19 r ∧ (bpT (nF q_from) (nF q_to) (q_told 1).toNatClampNeg p1.toNatClampNeg p0.toNatClampNeg) r.toNatClampNeg ∧ r.toNatClampNeg < (q_told 1).toNatClampNeg ∧ cnP (bpT (nF q_from) (nF q_to) (q_told 1).toNatClampNeg p1.toNatClampNeg p0.toNatClampNeg) r.toNatClampNeg = p2.toNatClampNeg)) (fun _ t => va_P (dC, dI) vwCl [(m0, .inr (11, oX11 ra x0)), (ra 2, .inl (kI, 8, .inl q_told)), (ra 8, .inl (kI, 40, .inl q_from)), (ra 9, .inl (kI, 40, .inl q_to)), (ra 14, .inl (kI, 12, .inl q_reach))] t.heap ∧ va_D A [(m0, .inr (11, oX11 ra x0)), (ra 2, .inl (kI, 8, .inl q_told)), (ra 8, .inl (kI, 40, .inl q_from)), (ra 9, .inl (kI, 40, .inl q_to)), (ra 14, .inl (kI, 12, .inl q_reach))]) A) args0 s 0 0 A) (F0 m 6 ls []) := by
    intro n
    induction n with
    | zero => intro v6_loc4 v6_loc5 H locs ls hm6; exact absurd hm6 (Nat.not_lt_zero _)
    | succ n ih6 =>
      intro v6_loc4 v6_loc5 H locs ls hm6 h6_1 h6_2 hba_6 htp_6 hfp_6 hor_6 hirl_6 hP hD hS hl
      refine lv_iload hx hb dX11_branchAt_6 (lv_at hl 5 rfl) ?_
      refine lv_aload_n hx hb dX11_branchAt_8 rfl (lv_at hl 0 rfl) ?_
      obtain ⟨hPc, hDc, hFc, hJn⟩ := cl_a (wc := [(m0, .inr (11, oX11 ra x0)), (ra 2, .inl (kI, 8, .inl q_told))]) (wr := [(ra 8, .inl (kI, 40, .inl q_from)), (ra 9, .inl (kI, 40, .inl q_to)), (ra 14, .inl (kI, 12, .inl q_reach))]) hP hD hS hA [0, 1] [2, 3, 4] rfl rfl (by decide +kernel)
      refine va_calli (va_runV (As := []) (rest := [.int v6_loc5]) ⟨hx, hb, hml, hown, hts⟩ (s11_links l dC dI kB kI kJ kZ kC kS H.size m0 ra x0 q_told (hX) (hq_told)) (cwV 0 hts gX11_branchAt_X11_links rfl rfl rfl (by decide +kernel) ⟨Nat.le_of_ble_eq_true rfl, Nat.le_of_ble_eq_true rfl⟩) ⟨fun a U g mk q => by obtain ⟨q0, q1, qP, qE, qD⟩ := q; exact ⟨q0, q1, qP, kE_call qE, qD⟩, va_recv hK hP (ci := 11) (q0 := 0) rfl rfl, fun U hU hW => ⟨rfl, by rw [hU], by rw [hU]; exact hPc, kE_warm hW hE, hDc.weaken (fun _ _ _ _ => trivial)⟩⟩ rfl rfl hl.1 rfl (lv_room (Nat.le_of_ble_eq_true rfl)) dX11_branchAt_9 ⟨Nat.le_of_ble_eq_true rfl, Nat.le_of_ble_eq_true rfl⟩) hS (fun q _ h => hFc q h) hFc (fun r1 u t H locs ht hvm w2 hB hz1 hk1 hS => ?_)
      obtain ⟨hP1, hD1⟩ := hB
      try dsimp only at w2
      obtain ⟨hPa, hDa⟩ := hJn (w1 := [(m0, .inr (11, oX11 ra x0)), (ra 2, .inl (kI, 8, .inl q_told))]) hk1 ht hP1 hD1
      clear hP hD hPc hDc hFc hJn hP1 hD1 hk1
      have hP : va_P (dC, dI) vwCl [(ra 8, .inl (kI, 40, .inl q_from)), (ra 9, .inl (kI, 40, .inl q_to)), (ra 14, .inl (kI, 12, .inl q_reach)), (m0, .inr (11, oX11 ra x0)), (ra 2, .inl (kI, 8, .inl q_told))] H := hPa
      have hD : va_D A [(ra 8, .inl (kI, 40, .inl q_from)), (ra 9, .inl (kI, 40, .inl q_to)), (ra 14, .inl (kI, 12, .inl q_reach)), (m0, .inr (11, oX11 ra x0)), (ra 2, .inl (kI, 8, .inl q_told))] := hDa
      clear hPa hDa
      refine W.widen (k := 0) (n := 0) (Nat.le_of_ble_eq_true rfl) (Nat.le_of_ble_eq_true rfl) ?_
      subst w2
      refine lv_icmp_ge (tgt := 46) hx hb dX11_branchAt_12 rfl (fun c3 => ?_) (fun c3 => ?_)
      · refine lv_iconst (v := (-1)) hx hb dX11_branchAt_46 ic_m1 ?_
        have hPD9 := cl_s (wc := [(m0, .inr (11, oX11 ra x0)), (ra 2, .inl (kI, 8, .inl q_told)), (ra 8, .inl (kI, 40, .inl q_from)), (ra 9, .inl (kI, 40, .inl q_to)), (ra 14, .inl (kI, 12, .inl q_reach))]) hP hD [3, 4, 0, 1, 2] rfl (by decide +kernel)
        have hP9 := hPD9.1
        have hD9 := hPD9.2
        exact W.iret (v := (-1)) hx hb hr (fun t ht hW => ⟨⟨(-1), (), rfl, ⟨(iv_w ivk_m1 (by decide) (by decide)), (ba_e hba_6 hp2 h6_2 ((hq_told 1 : iv 0 20 (q_told 1)) : iv 0 20 (q_told 1)) c3 hi9).elim⟩, by rw [ht]; exact hP9, hD9⟩, hS.F ht⟩) hS.2.2 dX11_branchAt_47
      · have b4 : iv 0 19 v6_loc5 := iv_ltL (Int32.not_le.mp c3) h6_2 (hq_told 1 : iv 0 20 (q_told 1)) (by decide) (by decide)
        have b5 : iv 1 20 (q_told 1) := iv_ltR (Int32.not_le.mp c3) h6_2 (hq_told 1 : iv 0 20 (q_told 1)) (by decide) (by decide)
        refine lv_aload_n hx hb dX11_branchAt_15 rfl (lv_at hl 0 rfl) ?_
        refine lv_iload hx hb dX11_branchAt_16 (lv_at hl 5 rfl) ?_
        refine lv_iload_n hx hb dX11_branchAt_18 rfl (lv_at hl 1 rfl) ?_
        refine lv_iload_n hx hb dX11_branchAt_19 rfl (lv_at hl 2 rfl) ?_
        obtain ⟨hPc, hDc, hFc, hJn⟩ := cl_a (wc := [(m0, .inr (11, oX11 ra x0)), (ra 2, .inl (kI, 8, .inl q_told)), (ra 8, .inl (kI, 40, .inl q_from)), (ra 9, .inl (kI, 40, .inl q_to)), (ra 14, .inl (kI, 12, .inl q_reach))]) (wr := []) hP hD hS hA [3, 4, 0, 1, 2] [] rfl rfl (by decide +kernel)
        refine va_calli (va_runV (As := [.int v6_loc5, .int p0, .int p1]) (rest := []) ⟨hx, hb, hml, hown, hts⟩ (s11_isBranch_x l dC dI kB kI kJ kZ kC kS H.size m0 ra x0 q_told q_from q_to q_reach v6_loc5 p0 p1 (hX) (hq_told) (hq_from) (hq_to) (b4) (hp0) (hp1) (hTR) (he)) (cwV 3 hts gX11_branchAt_X11_isBranch rfl rfl rfl (by decide +kernel) ⟨Nat.le_of_ble_eq_true rfl, Nat.le_of_ble_eq_true rfl⟩) ⟨fun a U g mk q => by obtain ⟨q0, q1, qP, qE, qD⟩ := q; exact ⟨q0, q1, qP, kE_call qE, qD⟩, va_recv hK hP (ci := 11) (q0 := 3) rfl rfl, fun U hU hW => ⟨rfl, by rw [hU], by rw [hU]; exact hPc, kE_warm hW hE, hDc.weaken (fun _ _ _ _ => trivial)⟩⟩ rfl rfl hl.1 rfl (lv_room (Nat.le_of_ble_eq_true rfl)) dX11_branchAt_20 ⟨Nat.le_of_ble_eq_true rfl, Nat.le_of_ble_eq_true rfl⟩) hS (fun q _ h => hFc q h) hFc (fun r6 u t H locs ht hvm w7 hB hz1 hk1 hS => ?_)
        obtain ⟨hP1, hD1⟩ := hB
        try dsimp only at w7
        obtain ⟨hPa, hDa⟩ := hJn (w1 := [(m0, .inr (11, oX11 ra x0)), (ra 2, .inl (kI, 8, .inl q_told)), (ra 8, .inl (kI, 40, .inl q_from)), (ra 9, .inl (kI, 40, .inl q_to)), (ra 14, .inl (kI, 12, .inl q_reach))]) hk1 ht hP1 hD1
        clear hP hD hPc hDc hFc hJn hP1 hD1 hk1
        have hP : va_P (dC, dI) vwCl [(m0, .inr (11, oX11 ra x0)), (ra 2, .inl (kI, 8, .inl q_told)), (ra 8, .inl (kI, 40, .inl q_from)), (ra 9, .inl (kI, 40, .inl q_to)), (ra 14, .inl (kI, 12, .inl q_reach))] H := hPa
        have hD : va_D A [(m0, .inr (11, oX11 ra x0)), (ra 2, .inl (kI, 8, .inl q_told)), (ra 8, .inl (kI, 40, .inl q_from)), (ra 9, .inl (kI, 40, .inl q_to)), (ra 14, .inl (kI, 12, .inl q_reach))] := hDa
        clear hPa hDa
        refine W.widen (k := 0) (n := 0) (Nat.le_of_ble_eq_true rfl) (Nat.le_of_ble_eq_true rfl) ?_
        refine lv_if_ne (tgt := 29) hx hb dX11_branchAt_23 rfl (fun c8 => ?_) (fun c8 => ?_)
        · have b9 : iv 1 1 r6 := iv_neLo c8 w7.1 ivk_0 (by decide) (by decide)
          refine lv_iload hx hb dX11_branchAt_29 (lv_at hl 4 rfl) ?_
          refine lv_if_ne (tgt := 37) hx hb dX11_branchAt_31 rfl (fun c10 => ?_) (fun c10 => ?_)
          · have b11 : iv 1 20 v6_loc4 := iv_neLo c10 h6_1 ivk_0 (by decide) (by decide)
            refine lv_iinc (v := v6_loc4 + Int32.ofInt (-1)) (lv' := [(4, .int (v6_loc4 + Int32.ofInt (-1))), (0, .ref m0), (1, .int p0), (2, .int p1), (3, .int p2), (5, .int v6_loc5)]) hx hb dX11_branchAt_37 hl (k := 4) rfl (rfl) (Nat.le_of_ble_eq_true rfl) rfl (fun ls hl => ?_)
            have b12 : iv 0 19 (v6_loc4 + Int32.ofInt (-1)) := iv_add b11 ivo_m1 (by decide) (by decide) (by decide) (by decide)
            refine lv_iinc (v := v6_loc5 + Int32.ofInt 1) (lv' := [(5, .int (v6_loc5 + Int32.ofInt 1)), (4, .int (v6_loc4 + Int32.ofInt (-1))), (0, .ref m0), (1, .int p0), (2, .int p1), (3, .int p2)]) hx hb dX11_branchAt_40 hl (k := 5) rfl (rfl) (Nat.le_of_ble_eq_true rfl) rfl (fun ls hl => ?_)
            have b13 : iv 1 20 (v6_loc5 + Int32.ofInt 1) := iv_add b4 ivo_1 (by decide) (by decide) (by decide) (by decide)
            refine lv_goto (tgt := 6) hx hb dX11_branchAt_43 rfl ?_
            exact ih6 (v6_loc4 + Int32.ofInt (-1)) (v6_loc5 + Int32.ofInt 1) _ _ _ (ms_up (c := 1) (d := 0) b4 hm6 (by decide) (iv_inc 1 b4 (by decide) (by decide) (by decide) (by decide)) (by decide) rfl) ((iv_w b12 (by decide) (by decide))) ((iv_w b13 (by decide) (by decide))) ((show BaR (bpT (nF q_from) (nF q_to) (q_told 1).toNatClampNeg p1.toNatClampNeg p0.toNatClampNeg) (q_told 1).toNatClampNeg p2 (v6_loc4 + Int32.ofInt (-1)) (v6_loc5 + Int32.ofInt 1) from ba_y hba_6 hp2 b4 (kl_lt (b4 : iv 0 19 v6_loc5) ((iv_w b5 (by decide) (by decide)) : iv 0 20 (q_told 1)) (Int32.not_le.mp c3)) (ib_y w7.2 c8) c10)) ((show x0 1 = x0 1 from rfl)) ((show x0 10 = x0 10 from rfl)) ((show x0 11 = x0 11 from rfl)) ((show x0 14 = x0 14 from rfl)) (hP) (hD) hS (lv_sub hl [2, 3, 4, 5, 1, 0] rfl)
          · have b14 : iv 0 0 v6_loc4 := iv_eqL c10 ivk_0
            refine lv_iload hx hb dX11_branchAt_34 (lv_at hl 5 rfl) ?_
            have hP9 := hP
            have hD9 := hD
            exact W.iret (v := v6_loc5) hx hb hr (fun t ht hW => ⟨⟨v6_loc5, (), rfl, ⟨(iv_w b4 (by decide) (by decide)), ⟨b4, (ib_y w7.2 c8), (kl_lt (b4 : iv 0 19 v6_loc5) ((iv_w b5 (by decide) (by decide)) : iv 0 20 (q_told 1)) (Int32.not_le.mp c3)), ba_r hba_6 hp2 c10⟩⟩, by rw [ht]; exact hP9, hD9⟩, hS.F ht⟩) hS.2.2 dX11_branchAt_36
        · have b15 : iv 0 0 r6 := iv_eqL c8 ivk_0
          refine lv_goto (tgt := 40) hx hb dX11_branchAt_26 rfl ?_
          refine lv_iinc (v := v6_loc5 + Int32.ofInt 1) (lv' := [(5, .int (v6_loc5 + Int32.ofInt 1)), (0, .ref m0), (1, .int p0), (2, .int p1), (3, .int p2), (4, .int v6_loc4)]) hx hb dX11_branchAt_40 hl (k := 5) rfl (rfl) (Nat.le_of_ble_eq_true rfl) rfl (fun ls hl => ?_)
          have b16 : iv 1 20 (v6_loc5 + Int32.ofInt 1) := iv_add b4 ivo_1 (by decide) (by decide) (by decide) (by decide)
          refine lv_goto (tgt := 6) hx hb dX11_branchAt_43 rfl ?_
          exact ih6 v6_loc4 (v6_loc5 + Int32.ofInt 1) _ _ _ (ms_up (c := 1) (d := 0) b4 hm6 (by decide) (iv_inc 1 b4 (by decide) (by decide) (by decide) (by decide)) (by decide) rfl) (h6_1) ((iv_w b16 (by decide) (by decide))) ((show BaR (bpT (nF q_from) (nF q_to) (q_told 1).toNatClampNeg p1.toNatClampNeg p0.toNatClampNeg) (q_told 1).toNatClampNeg p2 v6_loc4 (v6_loc5 + Int32.ofInt 1) from ba_n hba_6 b4 (kl_lt (b4 : iv 0 19 v6_loc5) ((iv_w b5 (by decide) (by decide)) : iv 0 20 (q_told 1)) (Int32.not_le.mp c3)) (ib_n w7.2 c8))) ((show x0 1 = x0 1 from rfl)) ((show x0 10 = x0 10 from rfl)) ((show x0 11 = x0 11 from rfl)) ((show x0 14 = x0 14 from rfl)) (hP) (hD) hS (lv_sub hl [1, 2, 3, 4, 5, 0] rfl)
  refine lv_iload_n hx hb dX11_branchAt_0 rfl (lv_at hl 3 rfl) ?_
  refine lv_istore (lv' := [(4, .int p2), (0, .ref m0), (1, .int p0), (2, .int p1), (3, .int p2)]) hx hb dX11_branchAt_1 hl (Nat.le_of_ble_eq_true rfl) rfl (fun ls hl => ?_)
  refine lv_iconst (v := 0) hx hb dX11_branchAt_3 ic_0 ?_
  refine lv_istore (lv' := [(5, .int 0), (4, .int p2), (0, .ref m0), (1, .int p0), (2, .int p1), (3, .int p2)]) hx hb dX11_branchAt_4 hl (Nat.le_of_ble_eq_true rfl) rfl (fun ls hl => ?_)
  exact hJ6 _ p2 0 _ _ _ (Nat.lt_succ_self _) (hp2) ((iv_w ivk_0 (by decide) (by decide))) ((show BaR (bpT (nF q_from) (nF q_to) (q_told 1).toNatClampNeg p1.toNatClampNeg p0.toNatClampNeg) (q_told 1).toNatClampNeg p2 p2 0 from ba_0 hp2)) ((show x0 1 = x0 1 from rfl)) ((show x0 10 = x0 10 from rfl)) ((show x0 11 = x0 11 from rfl)) ((show x0 14 = x0 14 from rfl)) (hP) (hD) hS (lv_sub hl [2, 3, 4, 5, 1, 0] rfl)
