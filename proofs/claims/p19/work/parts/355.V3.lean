def rm_s11_goesBy_x : Room := { frames := 2, cells := 0, slots := 0, locals := 48 }
set_option maxHeartbeats 4000000 in
set_option maxRecDepth 100000 in
theorem s11_goesBy_x (l : Launch) (dC : Nat → ClassId) (dI : Nat → Nat → Nat) (kB kI kJ kZ kC kS : ClassId) (sz : Nat) (m0 : Nat) (ra : Nat → Nat) (x0 : Nat → Int32) (q_told : Nat → Int32) (q_kind : Nat → Int32) (q_salt : Nat → Int32) (q_from : Nat → Int32) (q_to : Nat → Int32) (q_goal : Nat → Int32) (q_now : Nat → Int32) (q_reach : Nat → Int32) (p0 : Int32) (p1 : Int32) (p2 : Int32) (hX : fI lX11 hX11 x0) (hq_told : fI lTold hTold q_told) (hq_salt : fI (fun _ => 0) (fun _ => 15) q_salt) (hq_from : fI (fun _ => 0) (fun _ => 11) q_from) (hq_to : fI (fun _ => 0) (fun _ => 11) q_to) (hq_goal : fI (fun _ => 0) (fun _ => 11) q_goal) (hq_now : fI lNow hNow q_now) (hp0 : iv 0 11 p0) (hp1 : iv 0 31 p1) (hp2 : iv 0 2 p2) (hWR : WfN q_told q_kind q_from q_to q_goal) (hTR : TabR q_told q_from q_to q_reach) (hg : p2 < q_told 2) (hr9 : p0.toNatClampNeg < (q_told 0).toNatClampNeg) (hfl11 : iv (-1) (-1) (x0 11)) (hfl14 : iv 0 0 (x0 14)) : Met l yX11_goesBy wsX11_goesBy rm_s11_goesBy_x (va_Pc [.ref m0, .int p0, .int p1, .int p2] (fun U => U.heap.size = sz ∧ va_P (dC, dI) vwCl [(m0, .inr (11, oX11 ra x0)), (ra 2, .inl (kI, 8, .inl q_told)), (ra 3, .inl (kI, 24, .inl q_kind)), (ra 4, .inl (kI, 24, .inl q_salt)), (ra 8, .inl (kI, 40, .inl q_from)), (ra 9, .inl (kI, 40, .inl q_to)), (ra 10, .inl (kI, 6, .inl q_goal)), (ra 11, .inl (kI, 1019, .inl q_now)), (ra 14, .inl (kI, 12, .inl q_reach))] U.heap ∧ kE dC dI kB kI kJ kZ kC kS U ∧ va_D (fun _ => True) [(m0, .inr (11, oX11 ra x0)), (ra 2, .inl (kI, 8, .inl q_told)), (ra 3, .inl (kI, 24, .inl q_kind)), (ra 4, .inl (kI, 24, .inl q_salt)), (ra 8, .inl (kI, 40, .inl q_from)), (ra 9, .inl (kI, 40, .inl q_to)), (ra 10, .inl (kI, 6, .inl q_goal)), (ra 11, .inl (kI, 1019, .inl q_now)), (ra 14, .inl (kI, 12, .inl q_reach))])) (va_Qi (fun (r : Int32) (_ : Unit) => iv (-1) 19 r ∧ (GbR (stT (nF q_from) (nF q_to) (q_told 1).toNatClampNeg (nF q_goal p2.toNatClampNeg) (chN q_kind q_salt q_now p1 p2)) p0.toNatClampNeg r)) (fun _ t => va_P (dC, dI) vwCl [(m0, .inr (11, oX11 ra x0)), (ra 2, .inl (kI, 8, .inl q_told)), (ra 3, .inl (kI, 24, .inl q_kind)), (ra 4, .inl (kI, 24, .inl q_salt)), (ra 8, .inl (kI, 40, .inl q_from)), (ra 9, .inl (kI, 40, .inl q_to)), (ra 10, .inl (kI, 6, .inl q_goal)), (ra 11, .inl (kI, 1019, .inl q_now)), (ra 14, .inl (kI, 12, .inl q_reach))] t.heap ∧ va_D (va_A [(m0, .inr (11, oX11 ra x0)), (ra 2, .inl (kI, 8, .inl q_told)), (ra 3, .inl (kI, 24, .inl q_kind)), (ra 4, .inl (kI, 24, .inl q_salt)), (ra 8, .inl (kI, 40, .inl q_from)), (ra 9, .inl (kI, 40, .inl q_to)), (ra 10, .inl (kI, 6, .inl q_goal)), (ra 11, .inl (kI, 1019, .inl q_now)), (ra 14, .inl (kI, 12, .inl q_reach))] sz) [(m0, .inr (11, oX11 ra x0)), (ra 2, .inl (kI, 8, .inl q_told)), (ra 3, .inl (kI, 24, .inl q_kind)), (ra 4, .inl (kI, 24, .inl q_salt)), (ra 8, .inl (kI, 40, .inl q_from)), (ra 9, .inl (kI, 40, .inl q_to)), (ra 10, .inl (kI, 6, .inl q_goal)), (ra 11, .inl (kI, 1019, .inl q_now)), (ra 14, .inl (kI, 12, .inl q_reach))]) (va_A [(m0, .inr (11, oX11 ra x0)), (ra 2, .inl (kI, 8, .inl q_told)), (ra 3, .inl (kI, 24, .inl q_kind)), (ra 4, .inl (kI, 24, .inl q_salt)), (ra 8, .inl (kI, 40, .inl q_from)), (ra 9, .inl (kI, 40, .inl q_to)), (ra 10, .inl (kI, 6, .inl q_goal)), (ra 11, .inl (kI, 1019, .inl q_now)), (ra 14, .inl (kI, 12, .inl q_reach))] sz)) 0 0 (va_A [(m0, .inr (11, oX11 ra x0)), (ra 2, .inl (kI, 8, .inl q_told)), (ra 3, .inl (kI, 24, .inl q_kind)), (ra 4, .inl (kI, 24, .inl q_salt)), (ra 8, .inl (kI, 40, .inl q_from)), (ra 9, .inl (kI, 40, .inl q_to)), (ra 10, .inl (kI, 6, .inl q_goal)), (ra 11, .inl (kI, 1019, .inl q_now)), (ra 14, .inl (kI, 12, .inl q_reach))] sz) := by
  refine Met.ofW (cc := cX11_goesBy) (maxL := 9) (ret := (some .int)) (by decide) rfl ?_
  intro p e s m args0 below meth c s₁ B hml hv
  obtain ⟨hargs, hsz, hP, hE, hD0⟩ := hv
  have hx := B.exec
  have hb := B.bytes
  have hr := B.returns
  have hts := atoms_spec (ws := wsX11_goesBy) B.pre
  have hown : s.vm.findClass RX11 = some m.cls := findClass_of_methodNamed B.named
  have hlocks := B.notSynchronized
  have hK := hE.1
  have hin11 : ∀ w ∈ wsX110, w ∈ wsX11_goesBy := fun _ h9 => List.mem_cons_of_mem _ (List.mem_append_right _ h9)
  have hw_0 := hts (.fieldLink RX11 58 "PathProberModel" "goal" "[I") (List.mem_of_getElem? (i := 1) rfl)
  have hw_1 := hts (.fieldLink RX11 76 "PathProberModel" "otherRouter" "I") (List.mem_of_getElem? (i := 2) rfl)
  have hw_2 := hts (.fieldLink RX11 38 "PathProberModel" "kind" "[I") (List.mem_of_getElem? (i := 4) rfl)
  have hw_3 := hts (.fieldLink RX11 41 "PathProberModel" "salt" "[I") (List.mem_of_getElem? (i := 6) rfl)
  have hw_4 := hts (.fieldLink RX11 60 "PathProberModel" "now" "[I") (List.mem_of_getElem? (i := 7) rfl)
  have hw_5 := hts (.fieldLink RX11 282 "PathProberModel" "isReal" "Z") (List.mem_of_getElem? (i := 8) rfl)
  subst hsz
  have hD := hD0.self (sz := s.heap.size)
  generalize hAe : va_A [(m0, .inr (11, oX11 ra x0)), (ra 2, .inl (kI, 8, .inl q_told)), (ra 3, .inl (kI, 24, .inl q_kind)), (ra 4, .inl (kI, 24, .inl q_salt)), (ra 8, .inl (kI, 40, .inl q_from)), (ra 9, .inl (kI, 40, .inl q_to)), (ra 10, .inl (kI, 6, .inl q_goal)), (ra 11, .inl (kI, 1019, .inl q_now)), (ra 14, .inl (kI, 12, .inl q_reach))] s.heap.size = A at hD ⊢
  have hA : ∀ q : Nat, s.heap.size ≤ q → A q := fun q h => by rw [← hAe]; exact Or.inr h
  have hS : va_S A s.heap s.heap [] := va_S.rf
  have hP : va_P (dC, dI) vwCl [(m0, .inr (11, oX11 ra x0)), (ra 2, .inl (kI, 8, .inl q_told)), (ra 3, .inl (kI, 24, .inl q_kind)), (ra 4, .inl (kI, 24, .inl q_salt)), (ra 8, .inl (kI, 40, .inl q_from)), (ra 9, .inl (kI, 40, .inl q_to)), (ra 10, .inl (kI, 6, .inl q_goal)), (ra 11, .inl (kI, 1019, .inl q_now)), (ra 14, .inl (kI, 12, .inl q_reach))] s.heap := hP
  have hl := lv_entry ([.ref m0, .int p0, .int p1, .int p2]) (n := 9) (Nat.le_of_ble_eq_true rfl)
  have hla : entryFrame m args0 9 = entryFrame m ([.ref m0, .int p0, .int p1, .int p2] : List Value).toArray 9 := by rw [hargs]
  rw [hla, lg_entry_eq]
  generalize (lg_sl ([.ref m0, .int p0, .int p1, .int p2]) ++ List.replicate (9 - (lg_sl ([.ref m0, .int p0, .int p1, .int p2])).length) Slot.unset).toArray = ls at hl ⊢
  have hl : lv_has ls 9 [(0, .ref m0), (1, .int p0), (2, .int p1), (3, .int p2)] := hl
  refine lv_aload_n hx hb dX11_goesBy_0 rfl (lv_at hl 0 rfl) ?_
  refine va_get (D := (dC, dI)) (ci := 11) (v := .ref (ra 10)) (C := RX11) (T := TX11) (N := 61) hx hb hts hin11 hown hK hP 0 rfl rfl 11 (Nat.le_of_ble_eq_true rfl) hw_0 (fun _ h9 => h9) rfl dX11_goesBy_1 ?_
  refine lv_iload_n hx hb dX11_goesBy_4 rfl (lv_at hl 3 rfl) ?_
  refine va_iald hx hb hK hP 6 1 rfl rfl (iv_in hp2 (by decide) (by decide)) dX11_goesBy_5 ?_
  have b1 : iv 0 11 (q_goal p2.toNatClampNeg) := hq_goal _
  refine lv_istore (lv' := [(4, .int (q_goal p2.toNatClampNeg)), (0, .ref m0), (1, .int p0), (2, .int p1), (3, .int p2)]) hx hb dX11_goesBy_6 hl (Nat.le_of_ble_eq_true rfl) rfl (fun ls hl => ?_)
  refine lv_aload_n hx hb dX11_goesBy_8 rfl (lv_at hl 1 rfl) ?_
  refine lv_iload_n hx hb dX11_goesBy_9 rfl (lv_at hl 2 rfl) ?_
  refine lv_iload hx hb dX11_goesBy_10 (lv_at hl 0 rfl) ?_
  obtain ⟨hPc, hDc, hFc, hJn⟩ := cl_a (wc := [(m0, .inr (11, oX11 ra x0)), (ra 2, .inl (kI, 8, .inl q_told)), (ra 8, .inl (kI, 40, .inl q_from)), (ra 9, .inl (kI, 40, .inl q_to)), (ra 14, .inl (kI, 12, .inl q_reach))]) (wr := [(ra 3, .inl (kI, 24, .inl q_kind)), (ra 4, .inl (kI, 24, .inl q_salt)), (ra 10, .inl (kI, 6, .inl q_goal)), (ra 11, .inl (kI, 1019, .inl q_now))]) hP hD hS hA [0, 1, 4, 5, 8] [2, 3, 6, 7] rfl rfl (by decide +kernel)
  refine va_calli (va_runV (As := [.int p0, .int (q_goal p2.toNatClampNeg)]) (rest := []) ⟨hx, hb, hml, hown, hts⟩ (s11_branches_x l dC dI kB kI kJ kZ kC kS s.heap.size m0 ra x0 q_told q_from q_to q_reach p0 (q_goal p2.toNatClampNeg) (hX) (hq_told) (hq_from) (hq_to) (hp0) (b1) (hTR) ((hWR.2.2.1 _ (kl_lt hp2 ((hq_told 2 : iv 0 3 (q_told 2)) : iv 0 3 (q_told 2)) hg)))) (cwV 2 hts gX11_goesBy_X11_branches rfl rfl rfl (by decide +kernel) ⟨Nat.le_of_ble_eq_true rfl, Nat.le_of_ble_eq_true rfl⟩) ⟨fun a U g mk q => by obtain ⟨q0, q1, qP, qE, qD⟩ := q; exact ⟨q0, q1, qP, kE_call qE, qD⟩, va_recv hK hP (ci := 11) (q0 := 0) rfl rfl, fun U hU hW => ⟨rfl, by rw [hU], by rw [hU]; exact hPc, kE_warm hW hE, hDc.weaken (fun _ _ _ _ => trivial)⟩⟩ rfl rfl hl.1 rfl (lv_room (Nat.le_of_ble_eq_true rfl)) dX11_goesBy_12 ⟨Nat.le_of_ble_eq_true rfl, Nat.le_of_ble_eq_true rfl⟩) hS (fun q _ h => hFc q h) hFc (fun r2 u t H locs ht hvm w3 hB hz1 hk1 hS => ?_)
  obtain ⟨hP1, hD1⟩ := hB
  try dsimp only at w3
  obtain ⟨hPa, hDa⟩ := hJn (w1 := [(m0, .inr (11, oX11 ra x0)), (ra 2, .inl (kI, 8, .inl q_told)), (ra 8, .inl (kI, 40, .inl q_from)), (ra 9, .inl (kI, 40, .inl q_to)), (ra 14, .inl (kI, 12, .inl q_reach))]) hk1 ht hP1 hD1
  clear hP hD hPc hDc hFc hJn hP1 hD1 hk1
  have hP : va_P (dC, dI) vwCl [(ra 3, .inl (kI, 24, .inl q_kind)), (ra 4, .inl (kI, 24, .inl q_salt)), (ra 10, .inl (kI, 6, .inl q_goal)), (ra 11, .inl (kI, 1019, .inl q_now)), (m0, .inr (11, oX11 ra x0)), (ra 2, .inl (kI, 8, .inl q_told)), (ra 8, .inl (kI, 40, .inl q_from)), (ra 9, .inl (kI, 40, .inl q_to)), (ra 14, .inl (kI, 12, .inl q_reach))] H := hPa
  have hD : va_D A [(ra 3, .inl (kI, 24, .inl q_kind)), (ra 4, .inl (kI, 24, .inl q_salt)), (ra 10, .inl (kI, 6, .inl q_goal)), (ra 11, .inl (kI, 1019, .inl q_now)), (m0, .inr (11, oX11 ra x0)), (ra 2, .inl (kI, 8, .inl q_told)), (ra 8, .inl (kI, 40, .inl q_from)), (ra 9, .inl (kI, 40, .inl q_to)), (ra 14, .inl (kI, 12, .inl q_reach))] := hDa
  clear hPa hDa
  refine W.widen (k := 0) (n := 0) (Nat.le_of_ble_eq_true rfl) (Nat.le_of_ble_eq_true rfl) ?_
  obtain ⟨w3, b4⟩ := w3
  subst w3
  refine lv_istore (lv' := [(5, .int (nI (cnP (bpT (nF q_from) (nF q_to) (q_told 1).toNatClampNeg (q_goal p2.toNatClampNeg).toNatClampNeg p0.toNatClampNeg) (q_told 1).toNatClampNeg))), (4, .int (q_goal p2.toNatClampNeg)), (0, .ref m0), (1, .int p0), (2, .int p1), (3, .int p2)]) hx hb dX11_goesBy_15 hl (Nat.le_of_ble_eq_true rfl) rfl (fun ls hl => ?_)
  refine lv_iload hx hb dX11_goesBy_17 (lv_at hl 0 rfl) ?_
  refine lv_if_ne (tgt := 24) hx hb dX11_goesBy_19 rfl (fun c5 => ?_) (fun c5 => ?_)
  · have b6 : iv 1 20 (nI (cnP (bpT (nF q_from) (nF q_to) (q_told 1).toNatClampNeg (q_goal p2.toNatClampNeg).toNatClampNeg p0.toNatClampNeg) (q_told 1).toNatClampNeg)) := iv_neLo c5 b4 ivk_0 (by decide) (by decide)
    refine lv_iload_n hx hb dX11_goesBy_24 rfl (lv_at hl 3 rfl) ?_
    refine lv_aload_n hx hb dX11_goesBy_25 rfl (lv_at hl 2 rfl) ?_
    refine va_get (D := (dC, dI)) (ci := 11) (v := .int (x0 11)) (C := RX11) (T := TX11) (N := 61) hx hb hts hin11 hown hK hP 4 rfl rfl 26 (Nat.le_of_ble_eq_true rfl) hw_1 (fun _ h9 => h9) rfl dX11_goesBy_26 ?_
    refine lv_icmp_ne (tgt := 39) hx hb dX11_goesBy_29 rfl (fun _ => ?_) (fun c9 => absurd c9 (iv_ne hp0 hfl11 (by decide)))
    refine lv_aload_n hx hb dX11_goesBy_39 rfl (lv_at hl 2 rfl) ?_
    refine va_get (D := (dC, dI)) (ci := 11) (v := .ref (ra 3)) (C := RX11) (T := TX11) (N := 61) hx hb hts hin11 hown hK hP 4 rfl rfl 4 (Nat.le_of_ble_eq_true rfl) hw_2 (fun _ h9 => h9) rfl dX11_goesBy_40 ?_
    refine lv_iload_n hx hb dX11_goesBy_43 rfl (lv_at hl 3 rfl) ?_
    refine va_iald hx hb hK hP 0 1 rfl rfl (iv_in hp0 (by decide) (by decide)) dX11_goesBy_44 ?_
    have b7 : iv 0 3 (q_kind p0.toNatClampNeg) := hWR.2.2.2 _ hr9
    refine lv_istore (lv' := [(6, .int (q_kind p0.toNatClampNeg)), (5, .int (nI (cnP (bpT (nF q_from) (nF q_to) (q_told 1).toNatClampNeg (q_goal p2.toNatClampNeg).toNatClampNeg p0.toNatClampNeg) (q_told 1).toNatClampNeg))), (4, .int (q_goal p2.toNatClampNeg)), (0, .ref m0), (1, .int p0), (2, .int p1), (3, .int p2)]) hx hb dX11_goesBy_45 hl (Nat.le_of_ble_eq_true rfl) rfl (fun ls hl => ?_)
    refine lv_iload_n hx hb dX11_goesBy_47 rfl (lv_at hl 4 rfl) ?_
    refine lv_aload_n hx hb dX11_goesBy_48 rfl (lv_at hl 3 rfl) ?_
    refine va_get (D := (dC, dI)) (ci := 11) (v := .int (x0 11)) (C := RX11) (T := TX11) (N := 61) hx hb hts hin11 hown hK hP 4 rfl rfl 26 (Nat.le_of_ble_eq_true rfl) hw_1 (fun _ h9 => h9) rfl dX11_goesBy_49 ?_
    refine lv_icmp_ne (tgt := 62) hx hb dX11_goesBy_52 rfl (fun _ => ?_) (fun c9 => absurd c9 (iv_ne hp0 hfl11 (by decide)))
    refine lv_aload_n hx hb dX11_goesBy_62 rfl (lv_at hl 3 rfl) ?_
    refine va_get (D := (dC, dI)) (ci := 11) (v := .ref (ra 4)) (C := RX11) (T := TX11) (N := 61) hx hb hts hin11 hown hK hP 4 rfl rfl 5 (Nat.le_of_ble_eq_true rfl) hw_3 (fun _ h9 => h9) rfl dX11_goesBy_63 ?_
    refine lv_iload_n hx hb dX11_goesBy_66 rfl (lv_at hl 4 rfl) ?_
    refine va_iald hx hb hK hP 1 1 rfl rfl (iv_in hp0 (by decide) (by decide)) dX11_goesBy_67 ?_
    have b8 : iv 0 15 (q_salt p0.toNatClampNeg) := hq_salt _
    refine lv_istore (lv' := [(7, .int (q_salt p0.toNatClampNeg)), (6, .int (q_kind p0.toNatClampNeg)), (5, .int (nI (cnP (bpT (nF q_from) (nF q_to) (q_told 1).toNatClampNeg (q_goal p2.toNatClampNeg).toNatClampNeg p0.toNatClampNeg) (q_told 1).toNatClampNeg))), (4, .int (q_goal p2.toNatClampNeg)), (0, .ref m0), (1, .int p0), (2, .int p1), (3, .int p2)]) hx hb dX11_goesBy_68 hl (Nat.le_of_ble_eq_true rfl) rfl (fun ls hl => ?_)
    refine lv_iload hx hb dX11_goesBy_70 (lv_at hl 1 rfl) ?_
    refine lv_if_ne (tgt := 79) hx hb dX11_goesBy_72 rfl (fun c9 => ?_) (fun c9 => ?_)
    · have b10 : iv 1 3 (q_kind p0.toNatClampNeg) := iv_neLo c9 b7 ivk_0 (by decide) (by decide)
      refine lv_iload hx hb dX11_goesBy_79 (lv_at hl 1 rfl) ?_
      refine lv_iconst (v := 1) hx hb dX11_goesBy_81 ic_1 ?_
      refine lv_icmp_ne (tgt := 100) hx hb dX11_goesBy_82 rfl (fun c11 => ?_) (fun c11 => ?_)
      · have b12 : iv 2 3 (q_kind p0.toNatClampNeg) := iv_neLo c11 b10 ivk_1 (by decide) (by decide)
        refine lv_iload hx hb dX11_goesBy_100 (lv_at hl 1 rfl) ?_
        refine lv_iconst (v := 3) hx hb dX11_goesBy_102 ic_3 ?_
        refine lv_icmp_ne (tgt := 116) hx hb dX11_goesBy_103 rfl (fun c13 => ?_) (fun c13 => ?_)
        · have b14 : iv 2 2 (q_kind p0.toNatClampNeg) := iv_neHi c13 b12 ivk_3 (by decide) (by decide)
          refine lv_aload_n hx hb dX11_goesBy_116 rfl (lv_at hl 4 rfl) ?_
          refine va_get (D := (dC, dI)) (ci := 11) (v := .ref (ra 11)) (C := RX11) (T := TX11) (N := 61) hx hb hts hin11 hown hK hP 4 rfl rfl 12 (Nat.le_of_ble_eq_true rfl) hw_4 (fun _ h9 => h9) rfl dX11_goesBy_117 ?_
          refine lv_iconst (v := 0) hx hb dX11_goesBy_120 ic_0 ?_
          refine lv_iload_n hx hb dX11_goesBy_121 rfl (lv_at hl 5 rfl) ?_
          refine lv_iadd hx hb dX11_goesBy_122 ?_
          have b15 : iv 0 11 (0 + p0) := iv_add ivk_0 hp0 (by decide) (by decide) (by decide) (by decide)
          refine va_iald hx hb hK hP 3 1 rfl rfl (iv_in b15 (by decide) (by decide)) dX11_goesBy_123 ?_
          have b16 : iv 0 59 (q_now (0 + p0).toNatClampNeg) := now_t hq_now b15 (by decide) (by decide)
          refine lv_istore (lv' := [(8, .int (q_now (0 + p0).toNatClampNeg)), (7, .int (q_salt p0.toNatClampNeg)), (6, .int (q_kind p0.toNatClampNeg)), (5, .int (nI (cnP (bpT (nF q_from) (nF q_to) (q_told 1).toNatClampNeg (q_goal p2.toNatClampNeg).toNatClampNeg p0.toNatClampNeg) (q_told 1).toNatClampNeg))), (4, .int (q_goal p2.toNatClampNeg)), (0, .ref m0), (1, .int p0), (2, .int p1), (3, .int p2)]) hx hb dX11_goesBy_124 hl (Nat.le_of_ble_eq_true rfl) rfl (fun ls hl => ?_)
          refine lv_iload hx hb dX11_goesBy_126 (lv_at hl 2 rfl) ?_
          refine lv_iconst (v := 2) hx hb dX11_goesBy_128 ic_2 ?_
          refine lv_icmp_ne (tgt := 160) hx hb dX11_goesBy_129 rfl (fun c9 => absurd ((iv_one b14 (by decide) : q_kind p0.toNatClampNeg = 2)) c9) (fun _ => ?_)
          refine lv_aload_n hx hb dX11_goesBy_132 rfl (lv_at hl 5 rfl) ?_
          refine va_get (D := (dC, dI)) (ci := 11) (v := .int (x0 14)) (C := RX11) (T := TX11) (N := 61) hx hb hts hin11 hown hK hP 4 rfl rfl 29 (Nat.le_of_ble_eq_true rfl) hw_5 (fun _ h9 => h9) rfl dX11_goesBy_133 ?_
          refine lv_if_eq (tgt := 160) hx hb dX11_goesBy_136 rfl (fun _ => ?_) (fun c9 => absurd ((iv_one hfl14 (by decide) : x0 14 = 0)) c9)
          refine lv_aload_n hx hb dX11_goesBy_160 rfl (lv_at hl 5 rfl) ?_
          refine lv_iload_n hx hb dX11_goesBy_161 rfl (lv_at hl 6 rfl) ?_
          refine lv_iload hx hb dX11_goesBy_162 (lv_at hl 4 rfl) ?_
          refine lv_iload hx hb dX11_goesBy_164 (lv_at hl 0 rfl) ?_
          refine lv_iload hx hb dX11_goesBy_166 (lv_at hl 3 rfl) ?_
          refine lv_irem hx hb dX11_goesBy_168 (iv_ne b6 ivk_0 (by decide)) ?_
          have b17 : iv 0 19 ((q_now (0 + p0).toNatClampNeg) - (q_now (0 + p0).toNatClampNeg) / (nI (cnP (bpT (nF q_from) (nF q_to) (q_told 1).toNatClampNeg (q_goal p2.toNatClampNeg).toNatClampNeg p0.toNatClampNeg) (q_told 1).toNatClampNeg)) * (nI (cnP (bpT (nF q_from) (nF q_to) (q_told 1).toNatClampNeg (q_goal p2.toNatClampNeg).toNatClampNeg p0.toNatClampNeg) (q_told 1).toNatClampNeg))) := iv_rem b16 b6 (by decide) (by decide) (by decide) (by decide)
          obtain ⟨hPc, hDc, hFc, hJn⟩ := cl_a (wc := [(m0, .inr (11, oX11 ra x0)), (ra 2, .inl (kI, 8, .inl q_told)), (ra 8, .inl (kI, 40, .inl q_from)), (ra 9, .inl (kI, 40, .inl q_to)), (ra 14, .inl (kI, 12, .inl q_reach))]) (wr := [(ra 3, .inl (kI, 24, .inl q_kind)), (ra 4, .inl (kI, 24, .inl q_salt)), (ra 10, .inl (kI, 6, .inl q_goal)), (ra 11, .inl (kI, 1019, .inl q_now))]) hP hD hS hA [4, 5, 6, 7, 8] [0, 1, 2, 3] rfl rfl (by decide +kernel)
          refine va_calli (va_runV (As := [.int p0, .int (q_goal p2.toNatClampNeg), .int ((q_now (0 + p0).toNatClampNeg) - (q_now (0 + p0).toNatClampNeg) / (nI (cnP (bpT (nF q_from) (nF q_to) (q_told 1).toNatClampNeg (q_goal p2.toNatClampNeg).toNatClampNeg p0.toNatClampNeg) (q_told 1).toNatClampNeg)) * (nI (cnP (bpT (nF q_from) (nF q_to) (q_told 1).toNatClampNeg (q_goal p2.toNatClampNeg).toNatClampNeg p0.toNatClampNeg) (q_told 1).toNatClampNeg)))]) (rest := []) ⟨hx, hb, hml, hown, hts⟩ (s11_branchAt_x l dC dI kB kI kJ kZ kC kS H.size m0 ra x0 q_told q_from q_to q_reach p0 (q_goal p2.toNatClampNeg) ((q_now (0 + p0).toNatClampNeg) - (q_now (0 + p0).toNatClampNeg) / (nI (cnP (bpT (nF q_from) (nF q_to) (q_told 1).toNatClampNeg (q_goal p2.toNatClampNeg).toNatClampNeg p0.toNatClampNeg) (q_told 1).toNatClampNeg)) * (nI (cnP (bpT (nF q_from) (nF q_to) (q_told 1).toNatClampNeg (q_goal p2.toNatClampNeg).toNatClampNeg p0.toNatClampNeg) (q_told 1).toNatClampNeg))) (hX) (hq_told) (hq_from) (hq_to) (hp0) (b1) ((iv_w b17 (by decide) (by decide))) (hTR) ((hWR.2.2.1 _ (kl_lt hp2 ((hq_told 2 : iv 0 3 (q_told 2)) : iv 0 3 (q_told 2)) hg))) (gb_lt (kd := q_kind) (sa := q_salt) (nw := q_now) (p := p1) (gi := p2) (kl_20 ((hq_told 1 : iv 0 20 (q_told 1)) : iv 0 20 (q_told 1))) rfl c5 (Or.inr (Or.inr (Or.inr ⟨(iv_one b14 (by decide)), nw_0⟩))) (hq_salt _) (now_t hq_now hp0 (by decide) (by decide)) hp1 hp2)) (cwV 3 hts gX11_goesBy_X11_branchAt rfl rfl rfl (by decide +kernel) ⟨Nat.le_of_ble_eq_true rfl, Nat.le_of_ble_eq_true rfl⟩) ⟨fun a U g mk q => by obtain ⟨q0, q1, qP, qE, qD⟩ := q; exact ⟨q0, q1, qP, kE_call qE, qD⟩, va_recv hK hP (ci := 11) (q0 := 4) rfl rfl, fun U hU hW => ⟨rfl, by rw [hU], by rw [hU]; exact hPc, kE_warm hW hE, hDc.weaken (fun _ _ _ _ => trivial)⟩⟩ rfl rfl hl.1 rfl (lv_room (Nat.le_of_ble_eq_true rfl)) dX11_goesBy_169 ⟨Nat.le_of_ble_eq_true rfl, Nat.le_of_ble_eq_true rfl⟩) hS (fun q _ h => hFc q h) hFc (fun r18 u t H locs ht hvm w19 hB hz1 hk1 hS => ?_)
          obtain ⟨hP1, hD1⟩ := hB
          try dsimp only at w19
          obtain ⟨hPa, hDa⟩ := hJn (w1 := [(m0, .inr (11, oX11 ra x0)), (ra 2, .inl (kI, 8, .inl q_told)), (ra 8, .inl (kI, 40, .inl q_from)), (ra 9, .inl (kI, 40, .inl q_to)), (ra 14, .inl (kI, 12, .inl q_reach))]) hk1 ht hP1 hD1
          clear hP hD hPc hDc hFc hJn hP1 hD1 hk1
          have hP : va_P (dC, dI) vwCl [(ra 3, .inl (kI, 24, .inl q_kind)), (ra 4, .inl (kI, 24, .inl q_salt)), (ra 10, .inl (kI, 6, .inl q_goal)), (ra 11, .inl (kI, 1019, .inl q_now)), (m0, .inr (11, oX11 ra x0)), (ra 2, .inl (kI, 8, .inl q_told)), (ra 8, .inl (kI, 40, .inl q_from)), (ra 9, .inl (kI, 40, .inl q_to)), (ra 14, .inl (kI, 12, .inl q_reach))] H := hPa
          have hD : va_D A [(ra 3, .inl (kI, 24, .inl q_kind)), (ra 4, .inl (kI, 24, .inl q_salt)), (ra 10, .inl (kI, 6, .inl q_goal)), (ra 11, .inl (kI, 1019, .inl q_now)), (m0, .inr (11, oX11 ra x0)), (ra 2, .inl (kI, 8, .inl q_told)), (ra 8, .inl (kI, 40, .inl q_from)), (ra 9, .inl (kI, 40, .inl q_to)), (ra 14, .inl (kI, 12, .inl q_reach))] := hDa
          clear hPa hDa
          refine W.widen (k := 0) (n := 0) (Nat.le_of_ble_eq_true rfl) (Nat.le_of_ble_eq_true rfl) ?_
          have hPD9 := cl_s (wc := [(m0, .inr (11, oX11 ra x0)), (ra 2, .inl (kI, 8, .inl q_told)), (ra 3, .inl (kI, 24, .inl q_kind)), (ra 4, .inl (kI, 24, .inl q_salt)), (ra 8, .inl (kI, 40, .inl q_from)), (ra 9, .inl (kI, 40, .inl q_to)), (ra 10, .inl (kI, 6, .inl q_goal)), (ra 11, .inl (kI, 1019, .inl q_now)), (ra 14, .inl (kI, 12, .inl q_reach))]) hP hD [4, 5, 0, 1, 6, 7, 2, 3, 8] rfl (by decide +kernel)
          have hP9 := hPD9.1
          have hD9 := hPD9.2
          exact W.iret (v := r18) hx hb hr (fun t ht hW => ⟨⟨r18, (), rfl, ⟨w19.1, gb_y (kd := q_kind) (sa := q_salt) (nw := q_now) (p := p1) (gi := p2) (kl_20 ((hq_told 1 : iv 0 20 (q_told 1)) : iv 0 20 (q_told 1))) rfl c5 (Or.inr (Or.inr (Or.inr ⟨(iv_one b14 (by decide)), nw_0⟩))) w19.2⟩, by rw [ht]; exact hP9, hD9⟩, hS.F ht⟩) hS.2.2 dX11_goesBy_172
        · have b20 : iv 3 3 (q_kind p0.toNatClampNeg) := iv_eqL c13 ivk_3
          refine lv_bipush (v := 13) hx hb dX11_goesBy_106 bp_13 ?_
          refine lv_iload_n hx hb dX11_goesBy_108 rfl (lv_at hl 7 rfl) ?_
          refine lv_imul hx hb dX11_goesBy_109 ?_
          have b21 : iv 0 26 (13 * p2) := iv_mul ivk_13 hp2 (by decide) (by decide) (by decide) (by decide) (by decide)
          refine lv_iload hx hb dX11_goesBy_110 (lv_at hl 0 rfl) ?_
          refine lv_iadd hx hb dX11_goesBy_112 ?_
          have b22 : iv 0 41 ((13 * p2) + (q_salt p0.toNatClampNeg)) := iv_add b21 b8 (by decide) (by decide) (by decide) (by decide)
          refine lv_goto (tgt := 124) hx hb dX11_goesBy_113 rfl ?_
          refine lv_istore (lv' := [(8, .int ((13 * p2) + (q_salt p0.toNatClampNeg))), (7, .int (q_salt p0.toNatClampNeg)), (6, .int (q_kind p0.toNatClampNeg)), (5, .int (nI (cnP (bpT (nF q_from) (nF q_to) (q_told 1).toNatClampNeg (q_goal p2.toNatClampNeg).toNatClampNeg p0.toNatClampNeg) (q_told 1).toNatClampNeg))), (4, .int (q_goal p2.toNatClampNeg)), (0, .ref m0), (1, .int p0), (2, .int p1), (3, .int p2)]) hx hb dX11_goesBy_124 hl (Nat.le_of_ble_eq_true rfl) rfl (fun ls hl => ?_)
          refine lv_iload hx hb dX11_goesBy_126 (lv_at hl 2 rfl) ?_
          refine lv_iconst (v := 2) hx hb dX11_goesBy_128 ic_2 ?_
          refine lv_icmp_ne (tgt := 160) hx hb dX11_goesBy_129 rfl (fun _ => ?_) (fun c9 => absurd c9 (iv_ne b20 ivk_2 (by decide)))
          refine lv_aload_n hx hb dX11_goesBy_160 rfl (lv_at hl 5 rfl) ?_
          refine lv_iload_n hx hb dX11_goesBy_161 rfl (lv_at hl 6 rfl) ?_
          refine lv_iload hx hb dX11_goesBy_162 (lv_at hl 4 rfl) ?_
          refine lv_iload hx hb dX11_goesBy_164 (lv_at hl 0 rfl) ?_
          refine lv_iload hx hb dX11_goesBy_166 (lv_at hl 3 rfl) ?_
          refine lv_irem hx hb dX11_goesBy_168 (iv_ne b6 ivk_0 (by decide)) ?_
          have b23 : iv 0 19 (((13 * p2) + (q_salt p0.toNatClampNeg)) - ((13 * p2) + (q_salt p0.toNatClampNeg)) / (nI (cnP (bpT (nF q_from) (nF q_to) (q_told 1).toNatClampNeg (q_goal p2.toNatClampNeg).toNatClampNeg p0.toNatClampNeg) (q_told 1).toNatClampNeg)) * (nI (cnP (bpT (nF q_from) (nF q_to) (q_told 1).toNatClampNeg (q_goal p2.toNatClampNeg).toNatClampNeg p0.toNatClampNeg) (q_told 1).toNatClampNeg))) := iv_rem b22 b6 (by decide) (by decide) (by decide) (by decide)
          obtain ⟨hPc, hDc, hFc, hJn⟩ := cl_a (wc := [(m0, .inr (11, oX11 ra x0)), (ra 2, .inl (kI, 8, .inl q_told)), (ra 8, .inl (kI, 40, .inl q_from)), (ra 9, .inl (kI, 40, .inl q_to)), (ra 14, .inl (kI, 12, .inl q_reach))]) (wr := [(ra 3, .inl (kI, 24, .inl q_kind)), (ra 4, .inl (kI, 24, .inl q_salt)), (ra 10, .inl (kI, 6, .inl q_goal)), (ra 11, .inl (kI, 1019, .inl q_now))]) hP hD hS hA [4, 5, 6, 7, 8] [0, 1, 2, 3] rfl rfl (by decide +kernel)
          refine va_calli (va_runV (As := [.int p0, .int (q_goal p2.toNatClampNeg), .int (((13 * p2) + (q_salt p0.toNatClampNeg)) - ((13 * p2) + (q_salt p0.toNatClampNeg)) / (nI (cnP (bpT (nF q_from) (nF q_to) (q_told 1).toNatClampNeg (q_goal p2.toNatClampNeg).toNatClampNeg p0.toNatClampNeg) (q_told 1).toNatClampNeg)) * (nI (cnP (bpT (nF q_from) (nF q_to) (q_told 1).toNatClampNeg (q_goal p2.toNatClampNeg).toNatClampNeg p0.toNatClampNeg) (q_told 1).toNatClampNeg)))]) (rest := []) ⟨hx, hb, hml, hown, hts⟩ (s11_branchAt_x l dC dI kB kI kJ kZ kC kS H.size m0 ra x0 q_told q_from q_to q_reach p0 (q_goal p2.toNatClampNeg) (((13 * p2) + (q_salt p0.toNatClampNeg)) - ((13 * p2) + (q_salt p0.toNatClampNeg)) / (nI (cnP (bpT (nF q_from) (nF q_to) (q_told 1).toNatClampNeg (q_goal p2.toNatClampNeg).toNatClampNeg p0.toNatClampNeg) (q_told 1).toNatClampNeg)) * (nI (cnP (bpT (nF q_from) (nF q_to) (q_told 1).toNatClampNeg (q_goal p2.toNatClampNeg).toNatClampNeg p0.toNatClampNeg) (q_told 1).toNatClampNeg))) (hX) (hq_told) (hq_from) (hq_to) (hp0) (b1) ((iv_w b23 (by decide) (by decide))) (hTR) ((hWR.2.2.1 _ (kl_lt hp2 ((hq_told 2 : iv 0 3 (q_told 2)) : iv 0 3 (q_told 2)) hg))) (gb_lt (kd := q_kind) (sa := q_salt) (nw := q_now) (p := p1) (gi := p2) (kl_20 ((hq_told 1 : iv 0 20 (q_told 1)) : iv 0 20 (q_told 1))) rfl c5 (Or.inr (Or.inr (Or.inl ⟨c13, rfl⟩))) (hq_salt _) (now_t hq_now hp0 (by decide) (by decide)) hp1 hp2)) (cwV 3 hts gX11_goesBy_X11_branchAt rfl rfl rfl (by decide +kernel) ⟨Nat.le_of_ble_eq_true rfl, Nat.le_of_ble_eq_true rfl⟩) ⟨fun a U g mk q => by obtain ⟨q0, q1, qP, qE, qD⟩ := q; exact ⟨q0, q1, qP, kE_call qE, qD⟩, va_recv hK hP (ci := 11) (q0 := 4) rfl rfl, fun U hU hW => ⟨rfl, by rw [hU], by rw [hU]; exact hPc, kE_warm hW hE, hDc.weaken (fun _ _ _ _ => trivial)⟩⟩ rfl rfl hl.1 rfl (lv_room (Nat.le_of_ble_eq_true rfl)) dX11_goesBy_169 ⟨Nat.le_of_ble_eq_true rfl, Nat.le_of_ble_eq_true rfl⟩) hS (fun q _ h => hFc q h) hFc (fun r24 u t H locs ht hvm w25 hB hz1 hk1 hS => ?_)
          obtain ⟨hP1, hD1⟩ := hB
          try dsimp only at w25
          obtain ⟨hPa, hDa⟩ := hJn (w1 := [(m0, .inr (11, oX11 ra x0)), (ra 2, .inl (kI, 8, .inl q_told)), (ra 8, .inl (kI, 40, .inl q_from)), (ra 9, .inl (kI, 40, .inl q_to)), (ra 14, .inl (kI, 12, .inl q_reach))]) hk1 ht hP1 hD1
          clear hP hD hPc hDc hFc hJn hP1 hD1 hk1
          have hP : va_P (dC, dI) vwCl [(ra 3, .inl (kI, 24, .inl q_kind)), (ra 4, .inl (kI, 24, .inl q_salt)), (ra 10, .inl (kI, 6, .inl q_goal)), (ra 11, .inl (kI, 1019, .inl q_now)), (m0, .inr (11, oX11 ra x0)), (ra 2, .inl (kI, 8, .inl q_told)), (ra 8, .inl (kI, 40, .inl q_from)), (ra 9, .inl (kI, 40, .inl q_to)), (ra 14, .inl (kI, 12, .inl q_reach))] H := hPa
          have hD : va_D A [(ra 3, .inl (kI, 24, .inl q_kind)), (ra 4, .inl (kI, 24, .inl q_salt)), (ra 10, .inl (kI, 6, .inl q_goal)), (ra 11, .inl (kI, 1019, .inl q_now)), (m0, .inr (11, oX11 ra x0)), (ra 2, .inl (kI, 8, .inl q_told)), (ra 8, .inl (kI, 40, .inl q_from)), (ra 9, .inl (kI, 40, .inl q_to)), (ra 14, .inl (kI, 12, .inl q_reach))] := hDa
          clear hPa hDa
          refine W.widen (k := 0) (n := 0) (Nat.le_of_ble_eq_true rfl) (Nat.le_of_ble_eq_true rfl) ?_
          have hPD9 := cl_s (wc := [(m0, .inr (11, oX11 ra x0)), (ra 2, .inl (kI, 8, .inl q_told)), (ra 3, .inl (kI, 24, .inl q_kind)), (ra 4, .inl (kI, 24, .inl q_salt)), (ra 8, .inl (kI, 40, .inl q_from)), (ra 9, .inl (kI, 40, .inl q_to)), (ra 10, .inl (kI, 6, .inl q_goal)), (ra 11, .inl (kI, 1019, .inl q_now)), (ra 14, .inl (kI, 12, .inl q_reach))]) hP hD [4, 5, 0, 1, 6, 7, 2, 3, 8] rfl (by decide +kernel)
          have hP9 := hPD9.1
          have hD9 := hPD9.2
          exact W.iret (v := r24) hx hb hr (fun t ht hW => ⟨⟨r24, (), rfl, ⟨w25.1, gb_y (kd := q_kind) (sa := q_salt) (nw := q_now) (p := p1) (gi := p2) (kl_20 ((hq_told 1 : iv 0 20 (q_told 1)) : iv 0 20 (q_told 1))) rfl c5 (Or.inr (Or.inr (Or.inl ⟨c13, rfl⟩))) w25.2⟩, by rw [ht]; exact hP9, hD9⟩, hS.F ht⟩) hS.2.2 dX11_goesBy_172
      · have b26 : iv 1 1 (q_kind p0.toNatClampNeg) := iv_eqL c11 ivk_1
        refine lv_bipush (v := 7) hx hb dX11_goesBy_85 bp_7 ?_
        refine lv_iload_n hx hb dX11_goesBy_87 rfl (lv_at hl 6 rfl) ?_
        refine lv_imul hx hb dX11_goesBy_88 ?_
        have b27 : iv 0 217 (7 * p1) := iv_mul ivk_7 hp1 (by decide) (by decide) (by decide) (by decide) (by decide)
        refine lv_bipush (v := 13) hx hb dX11_goesBy_89 bp_13 ?_
        refine lv_iload_n hx hb dX11_goesBy_91 rfl (lv_at hl 7 rfl) ?_
        refine lv_imul hx hb dX11_goesBy_92 ?_
        have b28 : iv 0 26 (13 * p2) := iv_mul ivk_13 hp2 (by decide) (by decide) (by decide) (by decide) (by decide)
        refine lv_iadd hx hb dX11_goesBy_93 ?_
        have b29 : iv 0 243 ((7 * p1) + (13 * p2)) := iv_add b27 b28 (by decide) (by decide) (by decide) (by decide)
        refine lv_iload hx hb dX11_goesBy_94 (lv_at hl 0 rfl) ?_
        refine lv_iadd hx hb dX11_goesBy_96 ?_
        have b30 : iv 0 258 (((7 * p1) + (13 * p2)) + (q_salt p0.toNatClampNeg)) := iv_add b29 b8 (by decide) (by decide) (by decide) (by decide)
        refine lv_goto (tgt := 124) hx hb dX11_goesBy_97 rfl ?_
        refine lv_istore (lv' := [(8, .int (((7 * p1) + (13 * p2)) + (q_salt p0.toNatClampNeg))), (7, .int (q_salt p0.toNatClampNeg)), (6, .int (q_kind p0.toNatClampNeg)), (5, .int (nI (cnP (bpT (nF q_from) (nF q_to) (q_told 1).toNatClampNeg (q_goal p2.toNatClampNeg).toNatClampNeg p0.toNatClampNeg) (q_told 1).toNatClampNeg))), (4, .int (q_goal p2.toNatClampNeg)), (0, .ref m0), (1, .int p0), (2, .int p1), (3, .int p2)]) hx hb dX11_goesBy_124 hl (Nat.le_of_ble_eq_true rfl) rfl (fun ls hl => ?_)
        refine lv_iload hx hb dX11_goesBy_126 (lv_at hl 2 rfl) ?_
        refine lv_iconst (v := 2) hx hb dX11_goesBy_128 ic_2 ?_
        refine lv_icmp_ne (tgt := 160) hx hb dX11_goesBy_129 rfl (fun _ => ?_) (fun c9 => absurd c9 (iv_ne b26 ivk_2 (by decide)))
        refine lv_aload_n hx hb dX11_goesBy_160 rfl (lv_at hl 5 rfl) ?_
        refine lv_iload_n hx hb dX11_goesBy_161 rfl (lv_at hl 6 rfl) ?_
        refine lv_iload hx hb dX11_goesBy_162 (lv_at hl 4 rfl) ?_
        refine lv_iload hx hb dX11_goesBy_164 (lv_at hl 0 rfl) ?_
        refine lv_iload hx hb dX11_goesBy_166 (lv_at hl 3 rfl) ?_
        refine lv_irem hx hb dX11_goesBy_168 (iv_ne b6 ivk_0 (by decide)) ?_
        have b31 : iv 0 19 ((((7 * p1) + (13 * p2)) + (q_salt p0.toNatClampNeg)) - (((7 * p1) + (13 * p2)) + (q_salt p0.toNatClampNeg)) / (nI (cnP (bpT (nF q_from) (nF q_to) (q_told 1).toNatClampNeg (q_goal p2.toNatClampNeg).toNatClampNeg p0.toNatClampNeg) (q_told 1).toNatClampNeg)) * (nI (cnP (bpT (nF q_from) (nF q_to) (q_told 1).toNatClampNeg (q_goal p2.toNatClampNeg).toNatClampNeg p0.toNatClampNeg) (q_told 1).toNatClampNeg))) := iv_rem b30 b6 (by decide) (by decide) (by decide) (by decide)
        obtain ⟨hPc, hDc, hFc, hJn⟩ := cl_a (wc := [(m0, .inr (11, oX11 ra x0)), (ra 2, .inl (kI, 8, .inl q_told)), (ra 8, .inl (kI, 40, .inl q_from)), (ra 9, .inl (kI, 40, .inl q_to)), (ra 14, .inl (kI, 12, .inl q_reach))]) (wr := [(ra 3, .inl (kI, 24, .inl q_kind)), (ra 4, .inl (kI, 24, .inl q_salt)), (ra 10, .inl (kI, 6, .inl q_goal)), (ra 11, .inl (kI, 1019, .inl q_now))]) hP hD hS hA [4, 5, 6, 7, 8] [0, 1, 2, 3] rfl rfl (by decide +kernel)
        refine va_calli (va_runV (As := [.int p0, .int (q_goal p2.toNatClampNeg), .int ((((7 * p1) + (13 * p2)) + (q_salt p0.toNatClampNeg)) - (((7 * p1) + (13 * p2)) + (q_salt p0.toNatClampNeg)) / (nI (cnP (bpT (nF q_from) (nF q_to) (q_told 1).toNatClampNeg (q_goal p2.toNatClampNeg).toNatClampNeg p0.toNatClampNeg) (q_told 1).toNatClampNeg)) * (nI (cnP (bpT (nF q_from) (nF q_to) (q_told 1).toNatClampNeg (q_goal p2.toNatClampNeg).toNatClampNeg p0.toNatClampNeg) (q_told 1).toNatClampNeg)))]) (rest := []) ⟨hx, hb, hml, hown, hts⟩ (s11_branchAt_x l dC dI kB kI kJ kZ kC kS H.size m0 ra x0 q_told q_from q_to q_reach p0 (q_goal p2.toNatClampNeg) ((((7 * p1) + (13 * p2)) + (q_salt p0.toNatClampNeg)) - (((7 * p1) + (13 * p2)) + (q_salt p0.toNatClampNeg)) / (nI (cnP (bpT (nF q_from) (nF q_to) (q_told 1).toNatClampNeg (q_goal p2.toNatClampNeg).toNatClampNeg p0.toNatClampNeg) (q_told 1).toNatClampNeg)) * (nI (cnP (bpT (nF q_from) (nF q_to) (q_told 1).toNatClampNeg (q_goal p2.toNatClampNeg).toNatClampNeg p0.toNatClampNeg) (q_told 1).toNatClampNeg))) (hX) (hq_told) (hq_from) (hq_to) (hp0) (b1) ((iv_w b31 (by decide) (by decide))) (hTR) ((hWR.2.2.1 _ (kl_lt hp2 ((hq_told 2 : iv 0 3 (q_told 2)) : iv 0 3 (q_told 2)) hg))) (gb_lt (kd := q_kind) (sa := q_salt) (nw := q_now) (p := p1) (gi := p2) (kl_20 ((hq_told 1 : iv 0 20 (q_told 1)) : iv 0 20 (q_told 1))) rfl c5 (Or.inr (Or.inl ⟨c11, rfl⟩)) (hq_salt _) (now_t hq_now hp0 (by decide) (by decide)) hp1 hp2)) (cwV 3 hts gX11_goesBy_X11_branchAt rfl rfl rfl (by decide +kernel) ⟨Nat.le_of_ble_eq_true rfl, Nat.le_of_ble_eq_true rfl⟩) ⟨fun a U g mk q => by obtain ⟨q0, q1, qP, qE, qD⟩ := q; exact ⟨q0, q1, qP, kE_call qE, qD⟩, va_recv hK hP (ci := 11) (q0 := 4) rfl rfl, fun U hU hW => ⟨rfl, by rw [hU], by rw [hU]; exact hPc, kE_warm hW hE, hDc.weaken (fun _ _ _ _ => trivial)⟩⟩ rfl rfl hl.1 rfl (lv_room (Nat.le_of_ble_eq_true rfl)) dX11_goesBy_169 ⟨Nat.le_of_ble_eq_true rfl, Nat.le_of_ble_eq_true rfl⟩) hS (fun q _ h => hFc q h) hFc (fun r32 u t H locs ht hvm w33 hB hz1 hk1 hS => ?_)
        obtain ⟨hP1, hD1⟩ := hB
        try dsimp only at w33
        obtain ⟨hPa, hDa⟩ := hJn (w1 := [(m0, .inr (11, oX11 ra x0)), (ra 2, .inl (kI, 8, .inl q_told)), (ra 8, .inl (kI, 40, .inl q_from)), (ra 9, .inl (kI, 40, .inl q_to)), (ra 14, .inl (kI, 12, .inl q_reach))]) hk1 ht hP1 hD1
        clear hP hD hPc hDc hFc hJn hP1 hD1 hk1
        have hP : va_P (dC, dI) vwCl [(ra 3, .inl (kI, 24, .inl q_kind)), (ra 4, .inl (kI, 24, .inl q_salt)), (ra 10, .inl (kI, 6, .inl q_goal)), (ra 11, .inl (kI, 1019, .inl q_now)), (m0, .inr (11, oX11 ra x0)), (ra 2, .inl (kI, 8, .inl q_told)), (ra 8, .inl (kI, 40, .inl q_from)), (ra 9, .inl (kI, 40, .inl q_to)), (ra 14, .inl (kI, 12, .inl q_reach))] H := hPa
        have hD : va_D A [(ra 3, .inl (kI, 24, .inl q_kind)), (ra 4, .inl (kI, 24, .inl q_salt)), (ra 10, .inl (kI, 6, .inl q_goal)), (ra 11, .inl (kI, 1019, .inl q_now)), (m0, .inr (11, oX11 ra x0)), (ra 2, .inl (kI, 8, .inl q_told)), (ra 8, .inl (kI, 40, .inl q_from)), (ra 9, .inl (kI, 40, .inl q_to)), (ra 14, .inl (kI, 12, .inl q_reach))] := hDa
        clear hPa hDa
        refine W.widen (k := 0) (n := 0) (Nat.le_of_ble_eq_true rfl) (Nat.le_of_ble_eq_true rfl) ?_
        have hPD9 := cl_s (wc := [(m0, .inr (11, oX11 ra x0)), (ra 2, .inl (kI, 8, .inl q_told)), (ra 3, .inl (kI, 24, .inl q_kind)), (ra 4, .inl (kI, 24, .inl q_salt)), (ra 8, .inl (kI, 40, .inl q_from)), (ra 9, .inl (kI, 40, .inl q_to)), (ra 10, .inl (kI, 6, .inl q_goal)), (ra 11, .inl (kI, 1019, .inl q_now)), (ra 14, .inl (kI, 12, .inl q_reach))]) hP hD [4, 5, 0, 1, 6, 7, 2, 3, 8] rfl (by decide +kernel)
        have hP9 := hPD9.1
        have hD9 := hPD9.2
        exact W.iret (v := r32) hx hb hr (fun t ht hW => ⟨⟨r32, (), rfl, ⟨w33.1, gb_y (kd := q_kind) (sa := q_salt) (nw := q_now) (p := p1) (gi := p2) (kl_20 ((hq_told 1 : iv 0 20 (q_told 1)) : iv 0 20 (q_told 1))) rfl c5 (Or.inr (Or.inl ⟨c11, rfl⟩)) w33.2⟩, by rw [ht]; exact hP9, hD9⟩, hS.F ht⟩) hS.2.2 dX11_goesBy_172
    · have b34 : iv 0 0 (q_kind p0.toNatClampNeg) := iv_eqL c9 ivk_0
      refine lv_iconst (v := 0) hx hb dX11_goesBy_75 ic_0 ?_
      refine lv_goto (tgt := 124) hx hb dX11_goesBy_76 rfl ?_
      refine lv_istore (lv' := [(8, .int 0), (7, .int (q_salt p0.toNatClampNeg)), (6, .int (q_kind p0.toNatClampNeg)), (5, .int (nI (cnP (bpT (nF q_from) (nF q_to) (q_told 1).toNatClampNeg (q_goal p2.toNatClampNeg).toNatClampNeg p0.toNatClampNeg) (q_told 1).toNatClampNeg))), (4, .int (q_goal p2.toNatClampNeg)), (0, .ref m0), (1, .int p0), (2, .int p1), (3, .int p2)]) hx hb dX11_goesBy_124 hl (Nat.le_of_ble_eq_true rfl) rfl (fun ls hl => ?_)
      refine lv_iload hx hb dX11_goesBy_126 (lv_at hl 2 rfl) ?_
      refine lv_iconst (v := 2) hx hb dX11_goesBy_128 ic_2 ?_
      refine lv_icmp_ne (tgt := 160) hx hb dX11_goesBy_129 rfl (fun _ => ?_) (fun c9 => absurd c9 (iv_ne b34 ivk_2 (by decide)))
      refine lv_aload_n hx hb dX11_goesBy_160 rfl (lv_at hl 5 rfl) ?_
      refine lv_iload_n hx hb dX11_goesBy_161 rfl (lv_at hl 6 rfl) ?_
      refine lv_iload hx hb dX11_goesBy_162 (lv_at hl 4 rfl) ?_
      refine lv_iload hx hb dX11_goesBy_164 (lv_at hl 0 rfl) ?_
      refine lv_iload hx hb dX11_goesBy_166 (lv_at hl 3 rfl) ?_
      refine lv_irem hx hb dX11_goesBy_168 (iv_ne b6 ivk_0 (by decide)) ?_
      have b35 : iv 0 19 (0 - 0 / (nI (cnP (bpT (nF q_from) (nF q_to) (q_told 1).toNatClampNeg (q_goal p2.toNatClampNeg).toNatClampNeg p0.toNatClampNeg) (q_told 1).toNatClampNeg)) * (nI (cnP (bpT (nF q_from) (nF q_to) (q_told 1).toNatClampNeg (q_goal p2.toNatClampNeg).toNatClampNeg p0.toNatClampNeg) (q_told 1).toNatClampNeg))) := iv_rem ivk_0 b6 (by decide) (by decide) (by decide) (by decide)
      obtain ⟨hPc, hDc, hFc, hJn⟩ := cl_a (wc := [(m0, .inr (11, oX11 ra x0)), (ra 2, .inl (kI, 8, .inl q_told)), (ra 8, .inl (kI, 40, .inl q_from)), (ra 9, .inl (kI, 40, .inl q_to)), (ra 14, .inl (kI, 12, .inl q_reach))]) (wr := [(ra 3, .inl (kI, 24, .inl q_kind)), (ra 4, .inl (kI, 24, .inl q_salt)), (ra 10, .inl (kI, 6, .inl q_goal)), (ra 11, .inl (kI, 1019, .inl q_now))]) hP hD hS hA [4, 5, 6, 7, 8] [0, 1, 2, 3] rfl rfl (by decide +kernel)
      refine va_calli (va_runV (As := [.int p0, .int (q_goal p2.toNatClampNeg), .int (0 - 0 / (nI (cnP (bpT (nF q_from) (nF q_to) (q_told 1).toNatClampNeg (q_goal p2.toNatClampNeg).toNatClampNeg p0.toNatClampNeg) (q_told 1).toNatClampNeg)) * (nI (cnP (bpT (nF q_from) (nF q_to) (q_told 1).toNatClampNeg (q_goal p2.toNatClampNeg).toNatClampNeg p0.toNatClampNeg) (q_told 1).toNatClampNeg)))]) (rest := []) ⟨hx, hb, hml, hown, hts⟩ (s11_branchAt_x l dC dI kB kI kJ kZ kC kS H.size m0 ra x0 q_told q_from q_to q_reach p0 (q_goal p2.toNatClampNeg) (0 - 0 / (nI (cnP (bpT (nF q_from) (nF q_to) (q_told 1).toNatClampNeg (q_goal p2.toNatClampNeg).toNatClampNeg p0.toNatClampNeg) (q_told 1).toNatClampNeg)) * (nI (cnP (bpT (nF q_from) (nF q_to) (q_told 1).toNatClampNeg (q_goal p2.toNatClampNeg).toNatClampNeg p0.toNatClampNeg) (q_told 1).toNatClampNeg))) (hX) (hq_told) (hq_from) (hq_to) (hp0) (b1) ((iv_w b35 (by decide) (by decide))) (hTR) ((hWR.2.2.1 _ (kl_lt hp2 ((hq_told 2 : iv 0 3 (q_told 2)) : iv 0 3 (q_told 2)) hg))) (gb_lt (kd := q_kind) (sa := q_salt) (nw := q_now) (p := p1) (gi := p2) (kl_20 ((hq_told 1 : iv 0 20 (q_told 1)) : iv 0 20 (q_told 1))) rfl c5 (Or.inl ⟨c9, rfl⟩) (hq_salt _) (now_t hq_now hp0 (by decide) (by decide)) hp1 hp2)) (cwV 3 hts gX11_goesBy_X11_branchAt rfl rfl rfl (by decide +kernel) ⟨Nat.le_of_ble_eq_true rfl, Nat.le_of_ble_eq_true rfl⟩) ⟨fun a U g mk q => by obtain ⟨q0, q1, qP, qE, qD⟩ := q; exact ⟨q0, q1, qP, kE_call qE, qD⟩, va_recv hK hP (ci := 11) (q0 := 4) rfl rfl, fun U hU hW => ⟨rfl, by rw [hU], by rw [hU]; exact hPc, kE_warm hW hE, hDc.weaken (fun _ _ _ _ => trivial)⟩⟩ rfl rfl hl.1 rfl (lv_room (Nat.le_of_ble_eq_true rfl)) dX11_goesBy_169 ⟨Nat.le_of_ble_eq_true rfl, Nat.le_of_ble_eq_true rfl⟩) hS (fun q _ h => hFc q h) hFc (fun r36 u t H locs ht hvm w37 hB hz1 hk1 hS => ?_)
      obtain ⟨hP1, hD1⟩ := hB
      try dsimp only at w37
      obtain ⟨hPa, hDa⟩ := hJn (w1 := [(m0, .inr (11, oX11 ra x0)), (ra 2, .inl (kI, 8, .inl q_told)), (ra 8, .inl (kI, 40, .inl q_from)), (ra 9, .inl (kI, 40, .inl q_to)), (ra 14, .inl (kI, 12, .inl q_reach))]) hk1 ht hP1 hD1
      clear hP hD hPc hDc hFc hJn hP1 hD1 hk1
      have hP : va_P (dC, dI) vwCl [(ra 3, .inl (kI, 24, .inl q_kind)), (ra 4, .inl (kI, 24, .inl q_salt)), (ra 10, .inl (kI, 6, .inl q_goal)), (ra 11, .inl (kI, 1019, .inl q_now)), (m0, .inr (11, oX11 ra x0)), (ra 2, .inl (kI, 8, .inl q_told)), (ra 8, .inl (kI, 40, .inl q_from)), (ra 9, .inl (kI, 40, .inl q_to)), (ra 14, .inl (kI, 12, .inl q_reach))] H := hPa
      have hD : va_D A [(ra 3, .inl (kI, 24, .inl q_kind)), (ra 4, .inl (kI, 24, .inl q_salt)), (ra 10, .inl (kI, 6, .inl q_goal)), (ra 11, .inl (kI, 1019, .inl q_now)), (m0, .inr (11, oX11 ra x0)), (ra 2, .inl (kI, 8, .inl q_told)), (ra 8, .inl (kI, 40, .inl q_from)), (ra 9, .inl (kI, 40, .inl q_to)), (ra 14, .inl (kI, 12, .inl q_reach))] := hDa
      clear hPa hDa
      refine W.widen (k := 0) (n := 0) (Nat.le_of_ble_eq_true rfl) (Nat.le_of_ble_eq_true rfl) ?_
      have hPD9 := cl_s (wc := [(m0, .inr (11, oX11 ra x0)), (ra 2, .inl (kI, 8, .inl q_told)), (ra 3, .inl (kI, 24, .inl q_kind)), (ra 4, .inl (kI, 24, .inl q_salt)), (ra 8, .inl (kI, 40, .inl q_from)), (ra 9, .inl (kI, 40, .inl q_to)), (ra 10, .inl (kI, 6, .inl q_goal)), (ra 11, .inl (kI, 1019, .inl q_now)), (ra 14, .inl (kI, 12, .inl q_reach))]) hP hD [4, 5, 0, 1, 6, 7, 2, 3, 8] rfl (by decide +kernel)
      have hP9 := hPD9.1
      have hD9 := hPD9.2
      exact W.iret (v := r36) hx hb hr (fun t ht hW => ⟨⟨r36, (), rfl, ⟨w37.1, gb_y (kd := q_kind) (sa := q_salt) (nw := q_now) (p := p1) (gi := p2) (kl_20 ((hq_told 1 : iv 0 20 (q_told 1)) : iv 0 20 (q_told 1))) rfl c5 (Or.inl ⟨c9, rfl⟩) w37.2⟩, by rw [ht]; exact hP9, hD9⟩, hS.F ht⟩) hS.2.2 dX11_goesBy_172
  · have b38 : iv 0 0 (nI (cnP (bpT (nF q_from) (nF q_to) (q_told 1).toNatClampNeg (q_goal p2.toNatClampNeg).toNatClampNeg p0.toNatClampNeg) (q_told 1).toNatClampNeg)) := iv_eqL c5 ivk_0
    refine lv_iconst (v := (-1)) hx hb dX11_goesBy_22 ic_m1 ?_
    have hPD9 := cl_s (wc := [(m0, .inr (11, oX11 ra x0)), (ra 2, .inl (kI, 8, .inl q_told)), (ra 3, .inl (kI, 24, .inl q_kind)), (ra 4, .inl (kI, 24, .inl q_salt)), (ra 8, .inl (kI, 40, .inl q_from)), (ra 9, .inl (kI, 40, .inl q_to)), (ra 10, .inl (kI, 6, .inl q_goal)), (ra 11, .inl (kI, 1019, .inl q_now)), (ra 14, .inl (kI, 12, .inl q_reach))]) hP hD [4, 5, 0, 1, 6, 7, 2, 3, 8] rfl (by decide +kernel)
    have hP9 := hPD9.1
    have hD9 := hPD9.2
    exact W.iret (v := (-1)) hx hb hr (fun t ht hW => ⟨⟨(-1), (), rfl, ⟨(iv_w ivk_m1 (by decide) (by decide)), gb_no rfl (kl_20 ((hq_told 1 : iv 0 20 (q_told 1)) : iv 0 20 (q_told 1))) c5⟩, by rw [ht]; exact hP9, hD9⟩, hS.F ht⟩) hS.2.2 dX11_goesBy_23
def rm_s11_wholeWay_x : Room := { frames := 3, cells := 0, slots := 0, locals := 76 }
set_option maxHeartbeats 4000000 in
set_option maxRecDepth 100000 in
theorem s11_wholeWay_x (l : Launch) (dC : Nat → ClassId) (dI : Nat → Nat → Nat) (kB kI kJ kZ kC kS : ClassId) (sz : Nat) (m0 : Nat) (ra : Nat → Nat) (x0 : Nat → Int32) (q_told : Nat → Int32) (q_kind : Nat → Int32) (q_salt : Nat → Int32) (q_from : Nat → Int32) (q_to : Nat → Int32) (q_goal : Nat → Int32) (q_now : Nat → Int32) (q_reach : Nat → Int32) (p0 : Int32) (p1 : Int32) (hX : fI lX11 hX11 x0) (hq_told : fI lTold hTold q_told) (hq_salt : fI (fun _ => 0) (fun _ => 15) q_salt) (hq_from : fI (fun _ => 0) (fun _ => 11) q_from) (hq_to : fI (fun _ => 0) (fun _ => 11) q_to) (hq_goal : fI (fun _ => 0) (fun _ => 11) q_goal) (hq_now : fI lNow hNow q_now) (hp0 : iv 0 31 p0) (hp1 : iv 0 2 p1) (hWR : WfN q_told q_kind q_from q_to q_goal) (hTR : TabR q_told q_from q_to q_reach) (hg : p1 < q_told 2) (hfl11 : iv (-1) (-1) (x0 11)) (hfl14 : iv 0 0 (x0 14)) : Met l yX11_wholeWay wsX11_wholeWay rm_s11_wholeWay_x (va_Pc [.ref m0, .int p0, .int p1] (fun U => U.heap.size = sz ∧ va_P (dC, dI) vwCl [(m0, .inr (11, oX11 ra x0)), (ra 2, .inl (kI, 8, .inl q_told)), (ra 3, .inl (kI, 24, .inl q_kind)), (ra 4, .inl (kI, 24, .inl q_salt)), (ra 8, .inl (kI, 40, .inl q_from)), (ra 9, .inl (kI, 40, .inl q_to)), (ra 10, .inl (kI, 6, .inl q_goal)), (ra 11, .inl (kI, 1019, .inl q_now)), (ra 14, .inl (kI, 12, .inl q_reach))] U.heap ∧ kE dC dI kB kI kJ kZ kC kS U ∧ va_D (fun _ => True) [(m0, .inr (11, oX11 ra x0)), (ra 2, .inl (kI, 8, .inl q_told)), (ra 3, .inl (kI, 24, .inl q_kind)), (ra 4, .inl (kI, 24, .inl q_salt)), (ra 8, .inl (kI, 40, .inl q_from)), (ra 9, .inl (kI, 40, .inl q_to)), (ra 10, .inl (kI, 6, .inl q_goal)), (ra 11, .inl (kI, 1019, .inl q_now)), (ra 14, .inl (kI, 12, .inl q_reach))])) (va_Qv (fun (_ : Unit) => True) (fun _ t => ∃ (x0' : Nat → Int32), fI lX11 hX11 x0' ∧ (∀ l : Nat, l < 32 → (bt (x0' 19) l ↔ wayP (stT (nF q_from) (nF q_to) (q_told 1).toNatClampNeg (nF q_goal p1.toNatClampNeg) (chN q_kind q_salt q_now p0 p1)) (nF q_to) (nF q_goal p1.toNatClampNeg) 12 0 l)) ∧ (x0' 0 = x0 0) ∧ (x0' 1 = x0 1) ∧ (x0' 10 = x0 10) ∧ (x0' 11 = x0 11) ∧ (x0' 14 = x0 14) ∧ va_P (dC, dI) vwCl [(m0, .inr (11, oX11 ra x0')), (ra 2, .inl (kI, 8, .inl q_told)), (ra 3, .inl (kI, 24, .inl q_kind)), (ra 4, .inl (kI, 24, .inl q_salt)), (ra 8, .inl (kI, 40, .inl q_from)), (ra 9, .inl (kI, 40, .inl q_to)), (ra 10, .inl (kI, 6, .inl q_goal)), (ra 11, .inl (kI, 1019, .inl q_now)), (ra 14, .inl (kI, 12, .inl q_reach))] t.heap ∧ va_D (va_A [(m0, .inr (11, oX11 ra x0)), (ra 2, .inl (kI, 8, .inl q_told)), (ra 3, .inl (kI, 24, .inl q_kind)), (ra 4, .inl (kI, 24, .inl q_salt)), (ra 8, .inl (kI, 40, .inl q_from)), (ra 9, .inl (kI, 40, .inl q_to)), (ra 10, .inl (kI, 6, .inl q_goal)), (ra 11, .inl (kI, 1019, .inl q_now)), (ra 14, .inl (kI, 12, .inl q_reach))] sz) [(m0, .inr (11, oX11 ra x0')), (ra 2, .inl (kI, 8, .inl q_told)), (ra 3, .inl (kI, 24, .inl q_kind)), (ra 4, .inl (kI, 24, .inl q_salt)), (ra 8, .inl (kI, 40, .inl q_from)), (ra 9, .inl (kI, 40, .inl q_to)), (ra 10, .inl (kI, 6, .inl q_goal)), (ra 11, .inl (kI, 1019, .inl q_now)), (ra 14, .inl (kI, 12, .inl q_reach))]) (va_A [(m0, .inr (11, oX11 ra x0)), (ra 2, .inl (kI, 8, .inl q_told)), (ra 3, .inl (kI, 24, .inl q_kind)), (ra 4, .inl (kI, 24, .inl q_salt)), (ra 8, .inl (kI, 40, .inl q_from)), (ra 9, .inl (kI, 40, .inl q_to)), (ra 10, .inl (kI, 6, .inl q_goal)), (ra 11, .inl (kI, 1019, .inl q_now)), (ra 14, .inl (kI, 12, .inl q_reach))] sz)) 0 0 (va_A [(m0, .inr (11, oX11 ra x0)), (ra 2, .inl (kI, 8, .inl q_told)), (ra 3, .inl (kI, 24, .inl q_kind)), (ra 4, .inl (kI, 24, .inl q_salt)), (ra 8, .inl (kI, 40, .inl q_from)), (ra 9, .inl (kI, 40, .inl q_to)), (ra 10, .inl (kI, 6, .inl q_goal)), (ra 11, .inl (kI, 1019, .inl q_now)), (ra 14, .inl (kI, 12, .inl q_reach))] sz) := by
  refine Met.ofW (cc := cX11_wholeWay) (maxL := 7) (ret := none) (by decide) rfl ?_
  intro p e s m args0 below meth c s₁ B hml hv
  obtain ⟨hargs, hsz, hP, hE, hD0⟩ := hv
  have hx := B.exec
  have hb := B.bytes
  have hr := B.returns
  have hts := atoms_spec (ws := wsX11_wholeWay) B.pre
  have hown : s.vm.findClass RX11 = some m.cls := findClass_of_methodNamed B.named
  have hlocks := B.notSynchronized
  have hK := hE.1
  have hin11 : ∀ w ∈ wsX110, w ∈ wsX11_wholeWay := fun _ h9 => List.mem_cons_of_mem _ (List.mem_append_right _ h9)
  have hw_0 := hts (.fieldLink RX11 58 "PathProberModel" "goal" "[I") (List.mem_of_getElem? (i := 3) rfl)
  have hw_1 := hts (.fieldLink RX11 443 "PathProberModel" "wayAddress" "I") (List.mem_of_getElem? (i := 2) rfl)
  have hw_2 := hts (.fieldLink RX11 440 "PathProberModel" "wayLinks" "I") (List.mem_of_getElem? (i := 1) rfl)
  have hw_3 := hts (.fieldLink RX11 56 "PathProberModel" "to" "[I") (List.mem_of_getElem? (i := 4) rfl)
  subst hsz
  have hD := hD0.self (sz := s.heap.size)
  generalize hAe : va_A [(m0, .inr (11, oX11 ra x0)), (ra 2, .inl (kI, 8, .inl q_told)), (ra 3, .inl (kI, 24, .inl q_kind)), (ra 4, .inl (kI, 24, .inl q_salt)), (ra 8, .inl (kI, 40, .inl q_from)), (ra 9, .inl (kI, 40, .inl q_to)), (ra 10, .inl (kI, 6, .inl q_goal)), (ra 11, .inl (kI, 1019, .inl q_now)), (ra 14, .inl (kI, 12, .inl q_reach))] s.heap.size = A at hD ⊢
  have hA : ∀ q : Nat, s.heap.size ≤ q → A q := fun q h => by rw [← hAe]; exact Or.inr h
  have hS : va_S A s.heap s.heap [] := va_S.rf
  have hP : va_P (dC, dI) vwCl [(m0, .inr (11, oX11 ra x0)), (ra 2, .inl (kI, 8, .inl q_told)), (ra 3, .inl (kI, 24, .inl q_kind)), (ra 4, .inl (kI, 24, .inl q_salt)), (ra 8, .inl (kI, 40, .inl q_from)), (ra 9, .inl (kI, 40, .inl q_to)), (ra 10, .inl (kI, 6, .inl q_goal)), (ra 11, .inl (kI, 1019, .inl q_now)), (ra 14, .inl (kI, 12, .inl q_reach))] s.heap := hP
  have hl := lv_entry ([.ref m0, .int p0, .int p1]) (n := 7) (Nat.le_of_ble_eq_true rfl)
  have hla : entryFrame m args0 7 = entryFrame m ([.ref m0, .int p0, .int p1] : List Value).toArray 7 := by rw [hargs]
  rw [hla, lg_entry_eq]
  generalize (lg_sl ([.ref m0, .int p0, .int p1]) ++ List.replicate (7 - (lg_sl ([.ref m0, .int p0, .int p1])).length) Slot.unset).toArray = ls at hl ⊢
  have hl : lv_has ls 7 [(0, .ref m0), (1, .int p0), (2, .int p1)] := hl
  have hJ18 : ∀ (n : Nat) (y18_0 : Nat → Int32) (v18_loc3 : Int32) (v18_loc4 : Int32) (v18_loc5 : Int32) (H : Heap) (locs : List Loc) (ls : Array Slot), (12 - v18_loc3.toInt).toNat < n → fI lX11 hX11 y18_0 → iv 0 11 v18_loc3 → iv 0 20 v18_loc4 → iv (-1) 20 v18_loc5 → iv (-1) (-1) (y18_0 11) → iv 0 0 (y18_0 14) → iv (-1) (-1) (y18_0 20) → (WwR (stT (nF q_from) (nF q_to) (q_told 1).toNatClampNeg (nF q_goal p1.toNatClampNeg) (chN q_kind q_salt q_now p0 p1)) (nF q_to) (nF q_goal p1.toNatClampNeg) (q_told 0).toNatClampNeg (y18_0 19) v18_loc3) → (y18_0 0 = x0 0) → (y18_0 1 = x0 1) → (y18_0 10 = x0 10) → (y18_0 11 = x0 11) → (y18_0 14 = x0 14) → va_P (dC, dI) vwCl [(m0, .inr (11, oX11 ra y18_0)), (ra 2, .inl (kI, 8, .inl q_told)), (ra 3, .inl (kI, 24, .inl q_kind)), (ra 4, .inl (kI, 24, .inl q_salt)), (ra 8, .inl (kI, 40, .inl q_from)), (ra 9, .inl (kI, 40, .inl q_to)), (ra 10, .inl (kI, 6, .inl q_goal)), (ra 11, .inl (kI, 1019, .inl q_now)), (ra 14, .inl (kI, 12, .inl q_reach))] H → va_D A [(m0, .inr (11, oX11 ra y18_0)), (ra 2, .inl (kI, 8, .inl q_told)), (ra 3, .inl (kI, 24, .inl q_kind)), (ra 4, .inl (kI, 24, .inl q_salt)), (ra 8, .inl (kI, 40, .inl q_from)), (ra 9, .inl (kI, 40, .inl q_to)), (ra 10, .inl (kI, 6, .inl q_goal)), (ra 11, .inl (kI, 1019, .inl q_now)), (ra 14, .inl (kI, 12, .inl q_reach))] → va_S A s.heap H locs → lv_has ls 7 [(0, .ref m0), (1, .int p0), (2, .int p1), (3, .int v18_loc3), (4, .int v18_loc4), (5, .int v18_loc5)] → W p l e (headSpec wsX11_wholeWay rm_s11_wholeWay_x).room s m args0 below meth c H locs (0) (0) (MQ below (va_Qv (fun (_ : Unit) => True) (fun _ t => ∃ (x0' : Nat → Int32), fI lX11 hX11 x0' ∧ (∀ l : Nat, l < 32 → (bt (x0' 19) l ↔ wayP (stT (nF q_from) (nF q_to) (q_told 1).toNatClampNeg (nF q_goal p1.toNatClampNeg) (chN q_kind q_salt q_now p0 p1)) (nF q_to) (nF q_goal p1.toNatClampNeg) 12 0 l)) ∧ (x0' 0 = x0 0) ∧ (x0' 1 = x0 1) ∧ (x0' 10 = x0 10) ∧ (x0' 11 = x0 11) ∧ (x0' 14 = x0 14) ∧ va_P (dC, dI) vwCl [(m0, .inr (11, oX11 ra x0')), (ra 2, .inl (kI, 8, .inl q_told)), (ra 3, .inl (kI, 24, .inl q_kind)), (ra 4, .inl (kI, 24, .inl q_salt)), (ra 8, .inl (kI, 40, .inl q_from)), (ra 9, .inl (kI, 40, .inl q_to)), (ra 10, .inl (kI, 6, .inl q_goal)), (ra 11, .inl (kI, 1019, .inl q_now)), (ra 14, .inl (kI, 12, .inl q_reach))] t.heap ∧ va_D A [(m0, .inr (11, oX11 ra x0')), (ra 2, .inl (kI, 8, .inl q_told)), (ra 3, .inl (kI, 24, .inl q_kind)), (ra 4, .inl (kI, 24, .inl q_salt)), (ra 8, .inl (kI, 40, .inl q_from)), (ra 9, .inl (kI, 40, .inl q_to)), (ra 10, .inl (kI, 6, .inl q_goal)), (ra 11, .inl (kI, 1019, .inl q_now)), (ra 14, .inl (kI, 12, .inl q_reach))]) A) args0 s 0 0 A) (F0 m 18 ls []) := by
    intro n
    induction n with
    | zero => intro y18_0 v18_loc3 v18_loc4 v18_loc5 H locs ls hm18; exact absurd hm18 (Nat.not_lt_zero _)
    | succ n ih18 =>
      intro y18_0 v18_loc3 v18_loc4 v18_loc5 H locs ls hm18 hI18_0 h18_2 h18_3 h18_4 h18_5 h18_6 h18_7 hww_18 hcd_18 htp_18 hfp_18 hor_18 hirl_18 hP hD hS hl
      refine lv_iload_n hx hb dX11_wholeWay_18 rfl (lv_at hl 3 rfl) ?_
      refine lv_aload_n hx hb dX11_wholeWay_19 rfl (lv_at hl 0 rfl) ?_
      refine va_get (D := (dC, dI)) (ci := 11) (v := .ref (ra 10)) (C := RX11) (T := TX11) (N := 61) hx hb hts hin11 hown hK hP 0 rfl rfl 11 (Nat.le_of_ble_eq_true rfl) hw_0 (fun _ h9 => h9) rfl dX11_wholeWay_20 ?_
      refine lv_iload_n hx hb dX11_wholeWay_23 rfl (lv_at hl 2 rfl) ?_
      refine va_iald hx hb hK hP 6 1 rfl rfl (iv_in hp1 (by decide) (by decide)) dX11_wholeWay_24 ?_
      have b1 : iv 0 11 (q_goal p1.toNatClampNeg) := hq_goal _
      refine lv_icmp_eq (tgt := 78) hx hb dX11_wholeWay_25 rfl (fun c2 => ?_) (fun c2 => ?_)
      · refine lv_aload_n hx hb dX11_wholeWay_78 rfl (lv_at hl 0 rfl) ?_
        refine lv_iload hx hb dX11_wholeWay_79 (lv_at hl 5 rfl) ?_
        refine va_put (D := (dC, dI)) (ci := 11) (v := .int v18_loc5) (ty := .int) (C := RX11) (T := TX11) (N := 61) hx hb hts hin11 tyX11 tyX11_ok nmX11 hown hK hP hD hS 0 rfl rfl 42 (by decide) hw_1 (fun _ h9 => h9) rfl (by decide +kernel) rfl rfl (Nat.le_of_ble_eq_true rfl) dX11_wholeWay_81 (fun H locs hPa hDa hS => ?_)
        clear hP hD
        have hP : va_P (dC, dI) vwCl [(m0, .inr (11, oX11 ra (upd y18_0 20 v18_loc5))), (ra 2, .inl (kI, 8, .inl q_told)), (ra 3, .inl (kI, 24, .inl q_kind)), (ra 4, .inl (kI, 24, .inl q_salt)), (ra 8, .inl (kI, 40, .inl q_from)), (ra 9, .inl (kI, 40, .inl q_to)), (ra 10, .inl (kI, 6, .inl q_goal)), (ra 11, .inl (kI, 1019, .inl q_now)), (ra 14, .inl (kI, 12, .inl q_reach))] H := hPa
        have hD : va_D A [(m0, .inr (11, oX11 ra (upd y18_0 20 v18_loc5))), (ra 2, .inl (kI, 8, .inl q_told)), (ra 3, .inl (kI, 24, .inl q_kind)), (ra 4, .inl (kI, 24, .inl q_salt)), (ra 8, .inl (kI, 40, .inl q_from)), (ra 9, .inl (kI, 40, .inl q_to)), (ra 10, .inl (kI, 6, .inl q_goal)), (ra 11, .inl (kI, 1019, .inl q_now)), (ra 14, .inl (kI, 12, .inl q_reach))] := hDa
        clear hPa hDa
        have hP9 := hP
        have hD9 := hD
        exact W.vret hx hb hr (fun t ht hW => ⟨⟨(), rfl, trivial, upd y18_0 20 v18_loc5, (fI_u hI18_0 (k := 20) ((iv_w h18_4 (by decide) (by decide)))), (show ∀ l : Nat, l < 32 → (bt (y18_0 19) l ↔ wayP (stT (nF q_from) (nF q_to) (q_told 1).toNatClampNeg (nF q_goal p1.toNatClampNeg) (chN q_kind q_salt q_now p0 p1)) (nF q_to) (nF q_goal p1.toNatClampNeg) 12 0 l) from ww_g hww_18 rfl c2), (show y18_0 0 = x0 0 from hcd_18), (show y18_0 1 = x0 1 from htp_18), (show y18_0 10 = x0 10 from hfp_18), (show y18_0 11 = x0 11 from hor_18), (show y18_0 14 = x0 14 from hirl_18), by rw [ht]; exact hP9, hD9⟩, hS.F ht⟩) hS.2.2 dX11_wholeWay_84
      · refine lv_aload_n hx hb dX11_wholeWay_28 rfl (lv_at hl 0 rfl) ?_
        refine lv_iload_n hx hb dX11_wholeWay_29 rfl (lv_at hl 3 rfl) ?_
        refine lv_iload_n hx hb dX11_wholeWay_30 rfl (lv_at hl 1 rfl) ?_
        refine lv_iload_n hx hb dX11_wholeWay_31 rfl (lv_at hl 2 rfl) ?_
        obtain ⟨hPc, hDc, hFc, hJn⟩ := cl_a (wc := [(m0, .inr (11, oX11 ra y18_0)), (ra 2, .inl (kI, 8, .inl q_told)), (ra 3, .inl (kI, 24, .inl q_kind)), (ra 4, .inl (kI, 24, .inl q_salt)), (ra 8, .inl (kI, 40, .inl q_from)), (ra 9, .inl (kI, 40, .inl q_to)), (ra 10, .inl (kI, 6, .inl q_goal)), (ra 11, .inl (kI, 1019, .inl q_now)), (ra 14, .inl (kI, 12, .inl q_reach))]) (wr := []) hP hD hS hA [0, 1, 2, 3, 4, 5, 6, 7, 8] [] rfl rfl (by decide +kernel)
        refine va_calli (va_runV (As := [.int v18_loc3, .int p0, .int p1]) (rest := []) ⟨hx, hb, hml, hown, hts⟩ (s11_goesBy_x l dC dI kB kI kJ kZ kC kS H.size m0 ra y18_0 q_told q_kind q_salt q_from q_to q_goal q_now q_reach v18_loc3 p0 p1 (hI18_0) (hq_told) (hq_salt) (hq_from) (hq_to) (hq_goal) (hq_now) (h18_2) (hp0) (hp1) (hWR) (hTR) (hg) (hww_18.1) (h18_5) (h18_6)) (cwV 3 hts gX11_wholeWay_X11_goesBy rfl rfl rfl (by decide +kernel) ⟨Nat.le_of_ble_eq_true rfl, Nat.le_of_ble_eq_true rfl⟩) ⟨fun a U g mk q => by obtain ⟨q0, q1, qP, qE, qD⟩ := q; exact ⟨q0, q1, qP, kE_call qE, qD⟩, va_recv hK hP (ci := 11) (q0 := 0) rfl rfl, fun U hU hW => ⟨rfl, by rw [hU], by rw [hU]; exact hPc, kE_warm hW hE, hDc.weaken (fun _ _ _ _ => trivial)⟩⟩ rfl rfl hl.1 rfl (lv_room (Nat.le_of_ble_eq_true rfl)) dX11_wholeWay_32 ⟨Nat.le_of_ble_eq_true rfl, Nat.le_of_ble_eq_true rfl⟩) hS (fun q _ h => hFc q h) hFc (fun r3 u t H locs ht hvm w4 hB hz1 hk1 hS => ?_)
        obtain ⟨hP1, hD1⟩ := hB
        try dsimp only at w4
        obtain ⟨hPa, hDa⟩ := hJn (w1 := [(m0, .inr (11, oX11 ra y18_0)), (ra 2, .inl (kI, 8, .inl q_told)), (ra 3, .inl (kI, 24, .inl q_kind)), (ra 4, .inl (kI, 24, .inl q_salt)), (ra 8, .inl (kI, 40, .inl q_from)), (ra 9, .inl (kI, 40, .inl q_to)), (ra 10, .inl (kI, 6, .inl q_goal)), (ra 11, .inl (kI, 1019, .inl q_now)), (ra 14, .inl (kI, 12, .inl q_reach))]) hk1 ht hP1 hD1
        clear hP hD hPc hDc hFc hJn hP1 hD1 hk1
        have hP : va_P (dC, dI) vwCl [(m0, .inr (11, oX11 ra y18_0)), (ra 2, .inl (kI, 8, .inl q_told)), (ra 3, .inl (kI, 24, .inl q_kind)), (ra 4, .inl (kI, 24, .inl q_salt)), (ra 8, .inl (kI, 40, .inl q_from)), (ra 9, .inl (kI, 40, .inl q_to)), (ra 10, .inl (kI, 6, .inl q_goal)), (ra 11, .inl (kI, 1019, .inl q_now)), (ra 14, .inl (kI, 12, .inl q_reach))] H := hPa
        have hD : va_D A [(m0, .inr (11, oX11 ra y18_0)), (ra 2, .inl (kI, 8, .inl q_told)), (ra 3, .inl (kI, 24, .inl q_kind)), (ra 4, .inl (kI, 24, .inl q_salt)), (ra 8, .inl (kI, 40, .inl q_from)), (ra 9, .inl (kI, 40, .inl q_to)), (ra 10, .inl (kI, 6, .inl q_goal)), (ra 11, .inl (kI, 1019, .inl q_now)), (ra 14, .inl (kI, 12, .inl q_reach))] := hDa
        clear hPa hDa
        refine W.widen (k := 0) (n := 0) (Nat.le_of_ble_eq_true rfl) (Nat.le_of_ble_eq_true rfl) ?_
        refine lv_istore (lv' := [(6, .int r3), (0, .ref m0), (1, .int p0), (2, .int p1), (3, .int v18_loc3), (4, .int v18_loc4), (5, .int v18_loc5)]) hx hb dX11_wholeWay_35 hl (Nat.le_of_ble_eq_true rfl) rfl (fun ls hl => ?_)
        refine lv_iload hx hb dX11_wholeWay_37 (lv_at hl 0 rfl) ?_
        refine lv_iconst (v := (-1)) hx hb dX11_wholeWay_39 ic_m1 ?_
        refine lv_icmp_ne (tgt := 44) hx hb dX11_wholeWay_40 rfl (fun c5 => ?_) (fun c5 => ?_)
        · have b6 : iv 0 19 r3 := iv_neLo c5 w4.1 ivk_m1 (by decide) (by decide)
          refine lv_aload_n hx hb dX11_wholeWay_44 rfl (lv_at hl 1 rfl) ?_
          refine lv_dup hx hb dX11_wholeWay_45 rfl ?_
          refine va_get (D := (dC, dI)) (ci := 11) (v := .int (y18_0 19)) (C := RX11) (T := TX11) (N := 61) hx hb hts hin11 hown hK hP 0 rfl rfl 41 (Nat.le_of_ble_eq_true rfl) hw_2 (fun _ h9 => h9) rfl dX11_wholeWay_46 ?_
          refine lv_iconst (v := 1) hx hb dX11_wholeWay_49 ic_1 ?_
          refine lv_iload hx hb dX11_wholeWay_50 (lv_at hl 0 rfl) ?_
          refine lv_ishl hx hb dX11_wholeWay_52 ?_
          have b7 : iv 0 524288 (1 <<< ((r3 : Int32) &&& 31)) := iv_shl1 19 b6 (by decide) (by decide) (by decide) (by decide)
          refine lv_ior hx hb dX11_wholeWay_53 ?_
          refine va_put (D := (dC, dI)) (ci := 11) (v := .int ((y18_0 19) ||| (1 <<< ((r3 : Int32) &&& 31)))) (ty := .int) (C := RX11) (T := TX11) (N := 61) hx hb hts hin11 tyX11 tyX11_ok nmX11 hown hK hP hD hS 0 rfl rfl 41 (by decide) hw_2 (fun _ h9 => h9) rfl (by decide +kernel) rfl rfl (Nat.le_of_ble_eq_true rfl) dX11_wholeWay_54 (fun H locs hPa hDa hS => ?_)
          clear hP hD
          have hP : va_P (dC, dI) vwCl [(m0, .inr (11, oX11 ra (upd y18_0 19 ((y18_0 19) ||| (1 <<< ((r3 : Int32) &&& 31)))))), (ra 2, .inl (kI, 8, .inl q_told)), (ra 3, .inl (kI, 24, .inl q_kind)), (ra 4, .inl (kI, 24, .inl q_salt)), (ra 8, .inl (kI, 40, .inl q_from)), (ra 9, .inl (kI, 40, .inl q_to)), (ra 10, .inl (kI, 6, .inl q_goal)), (ra 11, .inl (kI, 1019, .inl q_now)), (ra 14, .inl (kI, 12, .inl q_reach))] H := hPa
          have hD : va_D A [(m0, .inr (11, oX11 ra (upd y18_0 19 ((y18_0 19) ||| (1 <<< ((r3 : Int32) &&& 31)))))), (ra 2, .inl (kI, 8, .inl q_told)), (ra 3, .inl (kI, 24, .inl q_kind)), (ra 4, .inl (kI, 24, .inl q_salt)), (ra 8, .inl (kI, 40, .inl q_from)), (ra 9, .inl (kI, 40, .inl q_to)), (ra 10, .inl (kI, 6, .inl q_goal)), (ra 11, .inl (kI, 1019, .inl q_now)), (ra 14, .inl (kI, 12, .inl q_reach))] := hDa
          clear hPa hDa
          refine lv_iload hx hb dX11_wholeWay_57 (lv_at hl 5 rfl) ?_
          refine lv_istore (lv' := [(5, .int v18_loc4), (6, .int r3), (0, .ref m0), (1, .int p0), (2, .int p1), (3, .int v18_loc3), (4, .int v18_loc4)]) hx hb dX11_wholeWay_59 hl (Nat.le_of_ble_eq_true rfl) rfl (fun ls hl => ?_)
          refine lv_iload hx hb dX11_wholeWay_61 (lv_at hl 1 rfl) ?_
          refine lv_iconst (v := 1) hx hb dX11_wholeWay_63 ic_1 ?_
          refine lv_iadd hx hb dX11_wholeWay_64 ?_
          refine iv_top (a := 1) (b := 20) (iv_add b6 ivk_1 (by decide) (by decide) (by decide) (by decide)) (fun z8 b9 => ?_)
          refine lv_istore (lv' := [(4, .int z8), (5, .int v18_loc4), (6, .int r3), (0, .ref m0), (1, .int p0), (2, .int p1), (3, .int v18_loc3)]) hx hb dX11_wholeWay_65 hl (Nat.le_of_ble_eq_true rfl) rfl (fun ls hl => ?_)
          refine lv_aload_n hx hb dX11_wholeWay_67 rfl (lv_at hl 3 rfl) ?_
          refine va_get (D := (dC, dI)) (ci := 11) (v := .ref (ra 9)) (C := RX11) (T := TX11) (N := 61) hx hb hts hin11 hown hK hP 0 rfl rfl 10 (Nat.le_of_ble_eq_true rfl) hw_3 (fun _ h9 => h9) rfl dX11_wholeWay_68 ?_
          refine lv_iload hx hb dX11_wholeWay_71 (lv_at hl 2 rfl) ?_
          refine va_iald hx hb hK hP 5 1 rfl rfl (iv_in b6 (by decide) (by decide)) dX11_wholeWay_73 ?_
          have b10 : iv 0 11 (q_to r3.toNatClampNeg) := hq_to _
          refine lv_istore_n (lv' := [(3, .int (q_to r3.toNatClampNeg)), (4, .int z8), (5, .int v18_loc4), (6, .int r3), (0, .ref m0), (1, .int p0), (2, .int p1)]) hx hb dX11_wholeWay_74 rfl hl (Nat.le_of_ble_eq_true rfl) rfl (fun ls hl => ?_)
          refine lv_goto (tgt := 18) hx hb dX11_wholeWay_75 rfl ?_
          exact ih18 (upd y18_0 19 ((y18_0 19) ||| (1 <<< ((r3 : Int32) &&& 31)))) (q_to r3.toNatClampNeg) z8 v18_loc4 _ _ _ (by have q1 := h18_2; have q2 := q1.2; have q3 := (ww_s hww_18 h18_2 (hq_goal _) rfl c2 hWR.1 w4.2 c5).2; have hm := hm18; omega) ((fI_u hI18_0 (k := 19) ((iv_t ((y18_0 19) ||| (1 <<< ((r3 : Int32) &&& 31))))))) (b10) ((iv_w b9 (by decide) (by decide))) ((iv_w h18_3 (by decide) (by decide))) (h18_5) (h18_6) (h18_7) ((show WwR (stT (nF q_from) (nF q_to) (q_told 1).toNatClampNeg (nF q_goal p1.toNatClampNeg) (chN q_kind q_salt q_now p0 p1)) (nF q_to) (nF q_goal p1.toNatClampNeg) (q_told 0).toNatClampNeg ((y18_0 19) ||| (1 <<< ((r3 : Int32) &&& 31))) (q_to r3.toNatClampNeg) from (ww_s hww_18 h18_2 (hq_goal _) rfl c2 hWR.1 w4.2 c5).1)) ((show y18_0 0 = x0 0 from hcd_18)) ((show y18_0 1 = x0 1 from htp_18)) ((show y18_0 10 = x0 10 from hfp_18)) ((show y18_0 11 = x0 11 from hor_18)) ((show y18_0 14 = x0 14 from hirl_18)) (hP) (hD) hS (lv_sub hl [4, 5, 6, 0, 1, 2] rfl)
        · have b11 : iv (-1) (-1) r3 := iv_eqL c5 ivk_m1
          have hP9 := hP
          have hD9 := hD
          exact W.vret hx hb hr (fun t ht hW => ⟨⟨(), rfl, trivial, y18_0, hI18_0, (show ∀ l : Nat, l < 32 → (bt (y18_0 19) l ↔ wayP (stT (nF q_from) (nF q_to) (q_told 1).toNatClampNeg (nF q_goal p1.toNatClampNeg) (chN q_kind q_salt q_now p0 p1)) (nF q_to) (nF q_goal p1.toNatClampNeg) 12 0 l) from ww_l hww_18 w4.2 c5), (show y18_0 0 = x0 0 from hcd_18), (show y18_0 1 = x0 1 from htp_18), (show y18_0 10 = x0 10 from hfp_18), (show y18_0 11 = x0 11 from hor_18), (show y18_0 14 = x0 14 from hirl_18), by rw [ht]; exact hP9, hD9⟩, hS.F ht⟩) hS.2.2 dX11_wholeWay_43
  refine lv_aload_n hx hb dX11_wholeWay_0 rfl (lv_at hl 0 rfl) ?_
  refine lv_iconst (v := 0) hx hb dX11_wholeWay_1 ic_0 ?_
  refine va_put (D := (dC, dI)) (ci := 11) (v := .int 0) (ty := .int) (C := RX11) (T := TX11) (N := 61) hx hb hts hin11 tyX11 tyX11_ok nmX11 hown hK hP hD hS 0 rfl rfl 41 (by decide) hw_2 (fun _ h9 => h9) rfl (by decide +kernel) rfl rfl (Nat.le_of_ble_eq_true rfl) dX11_wholeWay_2 (fun H locs hPa hDa hS => ?_)
  clear hP hD
  have hP : va_P (dC, dI) vwCl [(m0, .inr (11, oX11 ra (upd x0 19 0))), (ra 2, .inl (kI, 8, .inl q_told)), (ra 3, .inl (kI, 24, .inl q_kind)), (ra 4, .inl (kI, 24, .inl q_salt)), (ra 8, .inl (kI, 40, .inl q_from)), (ra 9, .inl (kI, 40, .inl q_to)), (ra 10, .inl (kI, 6, .inl q_goal)), (ra 11, .inl (kI, 1019, .inl q_now)), (ra 14, .inl (kI, 12, .inl q_reach))] H := hPa
  have hD : va_D A [(m0, .inr (11, oX11 ra (upd x0 19 0))), (ra 2, .inl (kI, 8, .inl q_told)), (ra 3, .inl (kI, 24, .inl q_kind)), (ra 4, .inl (kI, 24, .inl q_salt)), (ra 8, .inl (kI, 40, .inl q_from)), (ra 9, .inl (kI, 40, .inl q_to)), (ra 10, .inl (kI, 6, .inl q_goal)), (ra 11, .inl (kI, 1019, .inl q_now)), (ra 14, .inl (kI, 12, .inl q_reach))] := hDa
  clear hPa hDa
  refine lv_aload_n hx hb dX11_wholeWay_5 rfl (lv_at hl 0 rfl) ?_
  refine lv_iconst (v := (-1)) hx hb dX11_wholeWay_6 ic_m1 ?_
  refine va_put (D := (dC, dI)) (ci := 11) (v := .int (-1)) (ty := .int) (C := RX11) (T := TX11) (N := 61) hx hb hts hin11 tyX11 tyX11_ok nmX11 hown hK hP hD hS 0 rfl rfl 42 (by decide) hw_1 (fun _ h9 => h9) rfl (by decide +kernel) rfl rfl (Nat.le_of_ble_eq_true rfl) dX11_wholeWay_7 (fun H locs hPa hDa hS => ?_)
  clear hP hD
  have hP : va_P (dC, dI) vwCl [(m0, .inr (11, oX11 ra (upd (upd x0 19 0) 20 (-1)))), (ra 2, .inl (kI, 8, .inl q_told)), (ra 3, .inl (kI, 24, .inl q_kind)), (ra 4, .inl (kI, 24, .inl q_salt)), (ra 8, .inl (kI, 40, .inl q_from)), (ra 9, .inl (kI, 40, .inl q_to)), (ra 10, .inl (kI, 6, .inl q_goal)), (ra 11, .inl (kI, 1019, .inl q_now)), (ra 14, .inl (kI, 12, .inl q_reach))] H := hPa
  have hD : va_D A [(m0, .inr (11, oX11 ra (upd (upd x0 19 0) 20 (-1)))), (ra 2, .inl (kI, 8, .inl q_told)), (ra 3, .inl (kI, 24, .inl q_kind)), (ra 4, .inl (kI, 24, .inl q_salt)), (ra 8, .inl (kI, 40, .inl q_from)), (ra 9, .inl (kI, 40, .inl q_to)), (ra 10, .inl (kI, 6, .inl q_goal)), (ra 11, .inl (kI, 1019, .inl q_now)), (ra 14, .inl (kI, 12, .inl q_reach))] := hDa
  clear hPa hDa
  refine lv_iconst (v := 0) hx hb dX11_wholeWay_10 ic_0 ?_
  refine lv_istore_n (lv' := [(3, .int 0), (0, .ref m0), (1, .int p0), (2, .int p1)]) hx hb dX11_wholeWay_11 rfl hl (Nat.le_of_ble_eq_true rfl) rfl (fun ls hl => ?_)
  refine lv_iconst (v := 0) hx hb dX11_wholeWay_12 ic_0 ?_
  refine lv_istore (lv' := [(4, .int 0), (3, .int 0), (0, .ref m0), (1, .int p0), (2, .int p1)]) hx hb dX11_wholeWay_13 hl (Nat.le_of_ble_eq_true rfl) rfl (fun ls hl => ?_)
  refine lv_iconst (v := (-1)) hx hb dX11_wholeWay_15 ic_m1 ?_
  refine lv_istore (lv' := [(5, .int (-1)), (4, .int 0), (3, .int 0), (0, .ref m0), (1, .int p0), (2, .int p1)]) hx hb dX11_wholeWay_16 hl (Nat.le_of_ble_eq_true rfl) rfl (fun ls hl => ?_)
  exact hJ18 _ (upd (upd x0 19 0) 20 (-1)) 0 0 (-1) _ _ _ (Nat.lt_succ_self _) ((fI_u (fI_u hX (k := 19) ((iv_w ivk_0 (by decide) (by decide)))) (k := 20) ((iv_w ivk_m1 (by decide) (by decide))))) ((iv_w ivk_0 (by decide) (by decide))) ((iv_w ivk_0 (by decide) (by decide))) ((iv_w ivk_m1 (by decide) (by decide))) (hfl11) (hfl14) (ivk_m1) ((show WwR (stT (nF q_from) (nF q_to) (q_told 1).toNatClampNeg (nF q_goal p1.toNatClampNeg) (chN q_kind q_salt q_now p0 p1)) (nF q_to) (nF q_goal p1.toNatClampNeg) (q_told 0).toNatClampNeg (0) 0 from ww_0 (Nat.lt_of_le_of_lt (Nat.zero_le _) (hWR.2.2.1 _ (kl_lt hp1 ((hq_told 2 : iv 0 3 (q_told 2)) : iv 0 3 (q_told 2)) hg))))) ((show x0 0 = x0 0 from rfl)) ((show x0 1 = x0 1 from rfl)) ((show x0 10 = x0 10 from rfl)) ((show x0 11 = x0 11 from rfl)) ((show x0 14 = x0 14 from rfl)) (hP) (hD) hS (lv_sub hl [3, 4, 5, 2, 1, 0] rfl)
def rm_s11_isIn_lo : Room := { frames := 0, cells := 0, slots := 0, locals := 0 }
set_option maxHeartbeats 4000000 in
set_option maxRecDepth 100000 in
theorem s11_isIn_lo (l : Launch) (dC : Nat → ClassId) (dI : Nat → Nat → Nat) (kB kI kJ kZ kC kS : ClassId) (sz : Nat) (p0 : Int32) (p2 : Int32) (hp0 : iv (-2147483648) (-1) p0) : Met l yX11_isIn wsX11_isIn rm_s11_isIn_lo (va_Pc [.int p0, .int 0, .int p2] (fun U => U.heap.size = sz ∧ va_P (dC, dI) vwCl [] U.heap ∧ kE dC dI kB kI kJ kZ kC kS U ∧ va_D (fun _ => True) [])) (va_Qi (fun (r : Int32) (_ : Unit) => iv 0 0 r) (fun _ t => va_P (dC, dI) vwCl [] t.heap ∧ va_D (va_A [] sz) []) (va_A [] sz)) 0 0 (va_A [] sz) := by
  refine Met.ofW (cc := cX11_isIn) (maxL := 3) (ret := (some .boolean)) (by decide) rfl ?_
  intro p e s m args0 below meth c s₁ B hml hv
  obtain ⟨hargs, hsz, hP, hE, hD0⟩ := hv
  have hx := B.exec
  have hb := B.bytes
  have hr := B.returns
  have hts := atoms_spec (ws := wsX11_isIn) B.pre
  have hown : s.vm.findClass RX11 = some m.cls := findClass_of_methodNamed B.named
  have hlocks := B.notSynchronized
  have hK := hE.1
  subst hsz
  have hD := hD0.self (sz := s.heap.size)
  generalize hAe : va_A [] s.heap.size = A at hD ⊢
  have hA : ∀ q : Nat, s.heap.size ≤ q → A q := fun q h => by rw [← hAe]; exact Or.inr h
  have hS : va_S A s.heap s.heap [] := va_S.rf
  have hP : va_P (dC, dI) vwCl [] s.heap := hP
  have hl := lv_entry ([.int p0, .int 0, .int p2]) (n := 3) (Nat.le_of_ble_eq_true rfl)
  have hla : entryFrame m args0 3 = entryFrame m ([.int p0, .int 0, .int p2] : List Value).toArray 3 := by rw [hargs]
  rw [hla, lg_entry_eq]
  generalize (lg_sl ([.int p0, .int 0, .int p2]) ++ List.replicate (3 - (lg_sl ([.int p0, .int 0, .int p2])).length) Slot.unset).toArray = ls at hl ⊢
  have hl : lv_has ls 3 [(0, .int p0), (1, .int 0), (2, .int p2)] := hl
  refine lv_iload_n hx hb dX11_isIn_0 rfl (lv_at hl 0 rfl) ?_
  refine lv_iload_n hx hb dX11_isIn_1 rfl (lv_at hl 1 rfl) ?_
  refine lv_icmp_lt (tgt := 14) hx hb dX11_isIn_2 rfl (fun _ => ?_) (fun c9 => absurd (iv_lt hp0 ivk_0 (by decide)) c9)
  refine lv_iconst (v := 0) hx hb dX11_isIn_14 ic_0 ?_
  have hP9 := hP
  have hD9 := hD
  exact W.zret (v := 0) (ty := .boolean) hx hb hr rfl (fun t ht hW => ⟨⟨0, (), rfl, ivk_0, by rw [ht]; exact hP9, hD9⟩, hS.F ht⟩) hS.2.2 dX11_isIn_15
