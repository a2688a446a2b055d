def rm_s1_keepB : Room := { frames := 3, cells := 5, slots := 160, locals := 81 }
set_option maxHeartbeats 4000000 in
set_option maxRecDepth 100000 in
theorem s1_keepB (l : Launch) (dC : Nat → ClassId) (dI : Nat → Nat → Nat) (kB kI kJ kZ kC kS : ClassId) (sz : Nat) (bq : Nat) (hi : Nat) (hi_ahead : Nat) (x_hi : Nat → Int32) (f_hi_ahead : Nat → Option Nat) (rows : List RR) (hx_hi : fI lX1 hX1 x_hi) (hOK : rOK rows) (hF_hi : rFam f_hi_ahead rows) (hmb : ∃ x ∈ rows, x.1.1 = bq) (hnb : ∀ k : Nat, f_hi_ahead k ≠ some bq) : Met l yX1_keep wsX1_keep rm_s1_keepB (va_Pc [.ref hi, .ref bq] (fun U => U.heap.size = sz ∧ va_P (dC, dI) vwCl (([(hi, .inr (1, oX1 hi_ahead x_hi)), (hi_ahead, .inl (kC, 40, .inr (.inr (.inr (.inr f_hi_ahead)))))] : va_W) ++ rfm kI kJ rows) U.heap ∧ kE dC dI kB kI kJ kZ kC kS U ∧ va_D (fun _ => True) (([(hi, .inr (1, oX1 hi_ahead x_hi)), (hi_ahead, .inl (kC, 40, .inr (.inr (.inr (.inr f_hi_ahead)))))] : va_W) ++ rfm kI kJ rows))) (va_Qv (fun (_ : Unit) => True) (fun _ t => ∃ (x_hi' : Nat → Int32) (f_hi_ahead' : Nat → Option Nat) (rows' : List RR), fI lX1 hX1 x_hi' ∧ rOK rows' ∧ rFam f_hi_ahead' rows' ∧ (∀ g2, rFam g2 rows → rFam g2 rows') ∧ (∀ k q : Nat, f_hi_ahead' k = some q → f_hi_ahead k = some q ∨ ∀ x ∈ rows, x.1.1 ≠ q) ∧ va_P (dC, dI) vwCl (([(hi, .inr (1, oX1 hi_ahead x_hi')), (hi_ahead, .inl (kC, 40, .inr (.inr (.inr (.inr f_hi_ahead')))))] : va_W) ++ rfm kI kJ rows') t.heap ∧ va_D (va_A (([(hi, .inr (1, oX1 hi_ahead x_hi)), (hi_ahead, .inl (kC, 40, .inr (.inr (.inr (.inr f_hi_ahead)))))] : va_W) ++ rfm kI kJ rows) sz) (([(hi, .inr (1, oX1 hi_ahead x_hi')), (hi_ahead, .inl (kC, 40, .inr (.inr (.inr (.inr f_hi_ahead')))))] : va_W) ++ rfm kI kJ rows')) (va_A (([(hi, .inr (1, oX1 hi_ahead x_hi)), (hi_ahead, .inl (kC, 40, .inr (.inr (.inr (.inr f_hi_ahead)))))] : va_W) ++ rfm kI kJ rows) sz)) 5 160 (va_A (([(hi, .inr (1, oX1 hi_ahead x_hi)), (hi_ahead, .inl (kC, 40, .inr (.inr (.inr (.inr f_hi_ahead)))))] : va_W) ++ rfm kI kJ rows) sz) := by
  refine Met.ofW (cc := cX1_keep) (maxL := 2) (ret := none) (by decide) rfl ?_
  intro p e s m args0 below meth c s₁ B hml hv
  obtain ⟨hargs, hsz, hP, hE, hD0⟩ := hv
  have hx := B.exec
  have hb := B.bytes
  have hr := B.returns
  have hts := atoms_spec (ws := wsX1_keep) B.pre
  have hown : s.vm.findClass RX1 = some m.cls := findClass_of_methodNamed B.named
  have hlocks := B.notSynchronized
  have hK := hE.1
  have hin1 : ∀ w ∈ wsX10, w ∈ wsX1_keep := fun _ h9 => List.mem_cons_of_mem _ (List.mem_append_left _ (List.mem_append_right _ h9))
  have hin0 : ∀ w ∈ wsX00, w ∈ wsX1_keep := fun _ h9 => List.mem_cons_of_mem _ (List.mem_append_right _ h9)
  have hw_0 := hts (.fieldLink RX1 21 "PathProber$History" "size" "I") (List.mem_of_getElem? (i := 1) rfl)
  have hw_1 := hts (.fieldLink RX1 17 "PathProber$History" "oldest" "I") (List.mem_of_getElem? (i := 2) rfl)
  subst hsz
  have hD := hD0.self (sz := s.heap.size)
  generalize hAe : va_A (([(hi, .inr (1, oX1 hi_ahead x_hi)), (hi_ahead, .inl (kC, 40, .inr (.inr (.inr (.inr f_hi_ahead)))))] : va_W) ++ rfm kI kJ rows) s.heap.size = A at hD ⊢
  have hA : ∀ q : Nat, s.heap.size ≤ q → A q := fun q h => by rw [← hAe]; exact Or.inr h
  have hS : va_S A s.heap s.heap [] := va_S.rf
  have hP : va_P (dC, dI) vwCl (([(hi, .inr (1, oX1 hi_ahead x_hi)), (hi_ahead, .inl (kC, 40, .inr (.inr (.inr (.inr f_hi_ahead)))))] : va_W) ++ rfm kI kJ rows) s.heap := hP
  have hl := lv_entry ([.ref hi, .ref bq]) (n := 2) (Nat.le_of_ble_eq_true rfl)
  have hla : entryFrame m args0 2 = entryFrame m ([.ref hi, .ref bq] : List Value).toArray 2 := by rw [hargs]
  rw [hla, lg_entry_eq]
  generalize (lg_sl ([.ref hi, .ref bq]) ++ List.replicate (2 - (lg_sl ([.ref hi, .ref bq])).length) Slot.unset).toArray = ls at hl ⊢
  have hl : lv_has ls 2 [(0, .ref hi), (1, .ref bq)] := hl
  have hJ28 : ∀ (y28_0 : Nat → Int32) (H : Heap) (locs : List Loc) (ls : Array Slot), fI lX1 hX1 y28_0 → iv 0 39 (y28_0 1) → va_P (dC, dI) vwCl (([(hi, .inr (1, oX1 hi_ahead y28_0)), (hi_ahead, .inl (kC, 40, .inr (.inr (.inr (.inr f_hi_ahead)))))] : va_W) ++ rfm kI kJ rows) H → va_D A (([(hi, .inr (1, oX1 hi_ahead y28_0)), (hi_ahead, .inl (kC, 40, .inr (.inr (.inr (.inr f_hi_ahead)))))] : va_W) ++ rfm kI kJ rows) → va_S A s.heap H locs → lv_has ls 2 [(0, .ref hi), (1, .ref bq)] → W p l e (headSpec wsX1_keep rm_s1_keepB).room s m args0 below meth c H locs (0) (0) (MQ below (va_Qv (fun (_ : Unit) => True) (fun _ t => ∃ (x_hi' : Nat → Int32) (f_hi_ahead' : Nat → Option Nat) (rows' : List RR), fI lX1 hX1 x_hi' ∧ rOK rows' ∧ rFam f_hi_ahead' rows' ∧ (∀ g2, rFam g2 rows → rFam g2 rows') ∧ (∀ k q : Nat, f_hi_ahead' k = some q → f_hi_ahead k = some q ∨ ∀ x ∈ rows, x.1.1 ≠ q) ∧ va_P (dC, dI) vwCl (([(hi, .inr (1, oX1 hi_ahead x_hi')), (hi_ahead, .inl (kC, 40, .inr (.inr (.inr (.inr f_hi_ahead')))))] : va_W) ++ rfm kI kJ rows') t.heap ∧ va_D A (([(hi, .inr (1, oX1 hi_ahead x_hi')), (hi_ahead, .inl (kC, 40, .inr (.inr (.inr (.inr f_hi_ahead')))))] : va_W) ++ rfm kI kJ rows')) A) args0 s 5 160 A) (F0 m 28 ls []) := by
    intro y28_0 H locs ls hI28_0 h28_2 hP hD hS hl
    refine lv_aload_n hx hb dX1_keep_28 rfl (lv_at hl 0 rfl) ?_
    refine lv_aload_n hx hb dX1_keep_29 rfl (lv_at hl 0 rfl) ?_
    refine va_get (D := (dC, dI)) (ci := 1) (v := .int (y28_0 1)) (C := RX1) (T := TX1) (N := 3) hx hb hts hin1 hown hK hP 0 rfl rfl 2 (Nat.le_of_ble_eq_true rfl) hw_0 (fun _ h9 => h9) rfl dX1_keep_30 ?_
    obtain ⟨hPc, hDc, hFc, hJn⟩ := cl_p (wc := [(hi, .inr (1, oX1 hi_ahead y28_0)), (hi_ahead, .inl (kC, 40, .inr (.inr (.inr (.inr f_hi_ahead)))))]) (wr := []) hP hD hS hA [0, 1] [] rfl rfl (by decide +kernel)
    refine va_callr (va_runV (As := [.int (y28_0 1)]) (rest := []) ⟨hx, hb, hml, hown, hts⟩ (s1_rowOf l dC dI kB kI kJ kZ kC kS H.size hi hi_ahead y28_0 f_hi_ahead (y28_0 1) rows (hI28_0) (h28_2) (hOK) (hF_hi)) (cwV 1 hts gX1_keep_X1_rowOf rfl rfl rfl (by decide +kernel) ⟨Nat.le_of_ble_eq_true rfl, Nat.le_of_ble_eq_true rfl⟩) ⟨fun a U g mk q => by obtain ⟨q0, q1, qP, qE, qD⟩ := q; exact ⟨q0, q1, qP, kE_call qE, qD⟩, va_recv hK hP (ci := 1) (q0 := 0) rfl rfl, fun U hU hW => ⟨rfl, by rw [hU], by rw [hU]; exact hPc, kE_warm hW hE, hDc.weaken (fun _ _ _ _ => trivial)⟩⟩ rfl rfl hl.1 rfl (lv_room (Nat.le_of_ble_eq_true rfl)) dX1_keep_33 ⟨Nat.le_of_ble_eq_true rfl, Nat.le_of_ble_eq_true rfl⟩) hS (fun q _ h => hFc q h) hFc (fun u r1 t H locs ht hvm w2 hB hz1 hk1 hS => ?_)
    obtain ⟨f3, rows4, hp5, hp6, hp7, hp8, hp9, hp10, hP1, hD1⟩ := hB
    try dsimp only at w2
    obtain ⟨hPa, hDa⟩ := hJn (rx := [(hi, .inr (1, oX1 hi_ahead y28_0)), (hi_ahead, .inl (kC, 40, .inr (.inr (.inr (.inr f3)))))]) (pl1 := rfm kI kJ rows4) hk1 ht hP1 hD1
    clear hP hD hPc hDc hFc hJn hP1 hD1 hk1
    have hP : va_P (dC, dI) vwCl (([(hi, .inr (1, oX1 hi_ahead y28_0)), (hi_ahead, .inl (kC, 40, .inr (.inr (.inr (.inr f3)))))] : va_W) ++ rfm kI kJ rows4) H := hPa
    have hD : va_D A (([(hi, .inr (1, oX1 hi_ahead y28_0)), (hi_ahead, .inl (kC, 40, .inr (.inr (.inr (.inr f3)))))] : va_W) ++ rfm kI kJ rows4) := hDa
    clear hPa hDa
    refine W.widen (k := 5) (n := 160) (Nat.le_of_ble_eq_true rfl) (Nat.le_of_ble_eq_true rfl) ?_
    refine lv_aload_n hx hb dX1_keep_36 rfl (lv_at hl 1 rfl) ?_
    have hmb1 := rmem_of hmb hp8
    have hne9 := rne_of hmb hnb hp10 hp9
    obtain ⟨⟨⟨qa9, sa9, ta9, ua9, va9⟩, xa9, fsa9, fta9, fua9, fva9⟩, ⟨⟨qb9, sb9, tb9, ub9, vb9⟩, xb9, fsb9, ftb9, fub9, fvb9⟩, l9, he9, he8, hpm9, ⟨hsia9, hfia9⟩, ⟨hsib9, hfib9⟩, hok9⟩ := rtake2 hp5 hp7 hmb1 hne9
    have he9 : r1 = qa9 := he9.symm
    subst he9
    have he8 : bq = qb9 := he8.symm
    subst he8
    have hP := hP.perm (rperm hpm9)
    have hD := hD.perm (rperm hpm9)
    have hP : va_P (dC, dI) vwCl (([(hi, .inr (1, oX1 hi_ahead y28_0)), (hi_ahead, .inl (kC, 40, .inr (.inr (.inr (.inr f3))))), (r1, .inr (0, oX0 sa9 ta9 ua9 va9 xa9)), (sa9, .inl (kJ, 96, .inr (.inl fsa9))), (ta9, .inl (kI, 30, .inl fta9)), (ua9, .inl (kI, 12, .inl fua9)), (va9, .inl (kI, 12, .inl fva9)), (bq, .inr (0, oX0 sb9 tb9 ub9 vb9 xb9)), (sb9, .inl (kJ, 96, .inr (.inl fsb9))), (tb9, .inl (kI, 30, .inl ftb9)), (ub9, .inl (kI, 12, .inl fub9)), (vb9, .inl (kI, 12, .inl fvb9))] : va_W) ++ rfm kI kJ l9) H := hP
    have hD : va_D A (([(hi, .inr (1, oX1 hi_ahead y28_0)), (hi_ahead, .inl (kC, 40, .inr (.inr (.inr (.inr f3))))), (r1, .inr (0, oX0 sa9 ta9 ua9 va9 xa9)), (sa9, .inl (kJ, 96, .inr (.inl fsa9))), (ta9, .inl (kI, 30, .inl fta9)), (ua9, .inl (kI, 12, .inl fua9)), (va9, .inl (kI, 12, .inl fva9)), (bq, .inr (0, oX0 sb9 tb9 ub9 vb9 xb9)), (sb9, .inl (kJ, 96, .inr (.inl fsb9))), (tb9, .inl (kI, 30, .inl ftb9)), (ub9, .inl (kI, 12, .inl fub9)), (vb9, .inl (kI, 12, .inl fvb9))] : va_W) ++ rfm kI kJ l9) := hD
    obtain ⟨hPc, hDc, hFc, hJn⟩ := cl_q (wc := [(r1, .inr (0, oX0 sa9 ta9 ua9 va9 xa9)), (sa9, .inl (kJ, 96, .inr (.inl fsa9))), (ta9, .inl (kI, 30, .inl fta9)), (ua9, .inl (kI, 12, .inl fua9)), (va9, .inl (kI, 12, .inl fva9)), (bq, .inr (0, oX0 sb9 tb9 ub9 vb9 xb9)), (sb9, .inl (kJ, 96, .inr (.inl fsb9))), (tb9, .inl (kI, 30, .inl ftb9)), (ub9, .inl (kI, 12, .inl fub9)), (vb9, .inl (kI, 12, .inl fvb9))]) (wr := [(hi, .inr (1, oX1 hi_ahead y28_0)), (hi_ahead, .inl (kC, 40, .inr (.inr (.inr (.inr f3)))))]) hP hD hS hA [2, 3, 4, 5, 6, 7, 8, 9, 10, 11] [0, 1] rfl rfl (by decide +kernel)
    refine va_callv (va_runV (As := [.ref bq]) (rest := []) ⟨hx, hb, hml, hown, hts⟩ (s0_copyFrom l dC dI kB kI kJ kZ kC kS H.size r1 sa9 ta9 ua9 va9 xa9 fsa9 fta9 fua9 fva9 bq sb9 tb9 ub9 vb9 xb9 fsb9 ftb9 fub9 fvb9 (hsia9) (hfia9) (hsib9) (hfib9)) (cwV 1 hts gX1_keep_X0_copyFrom rfl rfl rfl (by decide +kernel) ⟨Nat.le_of_ble_eq_true rfl, Nat.le_of_ble_eq_true rfl⟩) ⟨fun a U g mk q => by obtain ⟨q0, q1, qP, qE, qD⟩ := q; exact ⟨q0, q1, qP, kE_call qE, qD⟩, va_recv hK hP (ci := 0) (q0 := 2) rfl rfl, fun U hU hW => ⟨rfl, by rw [hU], by rw [hU]; exact hPc, kE_warm hW hE, hDc.weaken (fun _ _ _ _ => trivial)⟩⟩ rfl rfl hl.1 rfl (lv_room (Nat.le_of_ble_eq_true rfl)) dX1_keep_37 ⟨Nat.le_of_ble_eq_true rfl, Nat.le_of_ble_eq_true rfl⟩) hS (fun q _ h => hFc q h) hFc (fun u t H locs ht hvm w12 hB hz1 hk1 hS => ?_)
    obtain ⟨y13, f14, f15, f16, f17, hq18, hq19, hP1, hD1⟩ := hB
    try dsimp only at w12
    obtain ⟨hPa, hDa⟩ := hJn (w1 := [(r1, .inr (0, oX0 sa9 ta9 ua9 va9 y13)), (sa9, .inl (kJ, 96, .inr (.inl f14))), (ta9, .inl (kI, 30, .inl f15)), (ua9, .inl (kI, 12, .inl f16)), (va9, .inl (kI, 12, .inl f17)), (bq, .inr (0, oX0 sb9 tb9 ub9 vb9 xb9)), (sb9, .inl (kJ, 96, .inr (.inl fsb9))), (tb9, .inl (kI, 30, .inl ftb9)), (ub9, .inl (kI, 12, .inl fub9)), (vb9, .inl (kI, 12, .inl fvb9))]) hk1 ht hP1 hD1
    clear hP hD hPc hDc hFc hJn hP1 hD1 hk1
    have hP : va_P (dC, dI) vwCl (([(hi, .inr (1, oX1 hi_ahead y28_0)), (hi_ahead, .inl (kC, 40, .inr (.inr (.inr (.inr f3))))), (r1, .inr (0, oX0 sa9 ta9 ua9 va9 y13)), (sa9, .inl (kJ, 96, .inr (.inl f14))), (ta9, .inl (kI, 30, .inl f15)), (ua9, .inl (kI, 12, .inl f16)), (va9, .inl (kI, 12, .inl f17)), (bq, .inr (0, oX0 sb9 tb9 ub9 vb9 xb9)), (sb9, .inl (kJ, 96, .inr (.inl fsb9))), (tb9, .inl (kI, 30, .inl ftb9)), (ub9, .inl (kI, 12, .inl fub9)), (vb9, .inl (kI, 12, .inl fvb9))] : va_W) ++ rfm kI kJ l9) H := hPa
    have hD : va_D A (([(hi, .inr (1, oX1 hi_ahead y28_0)), (hi_ahead, .inl (kC, 40, .inr (.inr (.inr (.inr f3))))), (r1, .inr (0, oX0 sa9 ta9 ua9 va9 y13)), (sa9, .inl (kJ, 96, .inr (.inl f14))), (ta9, .inl (kI, 30, .inl f15)), (ua9, .inl (kI, 12, .inl f16)), (va9, .inl (kI, 12, .inl f17)), (bq, .inr (0, oX0 sb9 tb9 ub9 vb9 xb9)), (sb9, .inl (kJ, 96, .inr (.inl fsb9))), (tb9, .inl (kI, 30, .inl ftb9)), (ub9, .inl (kI, 12, .inl fub9)), (vb9, .inl (kI, 12, .inl fvb9))] : va_W) ++ rfm kI kJ l9) := hDa
    clear hPa hDa
    refine W.widen (k := 5) (n := 160) (Nat.le_of_ble_eq_true rfl) (Nat.le_of_ble_eq_true rfl) ?_
    refine lv_aload_n hx hb dX1_keep_40 rfl (lv_at hl 0 rfl) ?_
    refine lv_dup hx hb dX1_keep_41 rfl ?_
    refine va_get (D := (dC, dI)) (ci := 1) (v := .int (y28_0 1)) (C := RX1) (T := TX1) (N := 3) hx hb hts hin1 hown hK hP 0 rfl rfl 2 (Nat.le_of_ble_eq_true rfl) hw_0 (fun _ h9 => h9) rfl dX1_keep_42 ?_
    refine lv_iconst (v := 1) hx hb dX1_keep_45 ic_1 ?_
    refine lv_iadd hx hb dX1_keep_46 ?_
    refine iv_top (a := 1) (b := 40) (iv_add h28_2 ivk_1 (by decide) (by decide) (by decide) (by decide)) (fun z20 b21 => ?_)
    refine va_put (D := (dC, dI)) (ci := 1) (v := .int z20) (ty := .int) (C := RX1) (T := TX1) (N := 3) hx hb hts hin1 tyX1 tyX1_ok nmX1 hown hK hP hD hS 0 rfl rfl 2 (by decide) hw_0 (fun _ h9 => h9) rfl (by decide +kernel) rfl rfl (Nat.le_of_ble_eq_true rfl) dX1_keep_47 (fun H locs hPa hDa hS => ?_)
    clear hP hD
    have hP : va_P (dC, dI) vwCl (([(hi, .inr (1, oX1 hi_ahead (upd y28_0 1 z20))), (hi_ahead, .inl (kC, 40, .inr (.inr (.inr (.inr f3))))), (r1, .inr (0, oX0 sa9 ta9 ua9 va9 y13)), (sa9, .inl (kJ, 96, .inr (.inl f14))), (ta9, .inl (kI, 30, .inl f15)), (ua9, .inl (kI, 12, .inl f16)), (va9, .inl (kI, 12, .inl f17)), (bq, .inr (0, oX0 sb9 tb9 ub9 vb9 xb9)), (sb9, .inl (kJ, 96, .inr (.inl fsb9))), (tb9, .inl (kI, 30, .inl ftb9)), (ub9, .inl (kI, 12, .inl fub9)), (vb9, .inl (kI, 12, .inl fvb9))] : va_W) ++ rfm kI kJ l9) H := hPa
    have hD : va_D A (([(hi, .inr (1, oX1 hi_ahead (upd y28_0 1 z20))), (hi_ahead, .inl (kC, 40, .inr (.inr (.inr (.inr f3))))), (r1, .inr (0, oX0 sa9 ta9 ua9 va9 y13)), (sa9, .inl (kJ, 96, .inr (.inl f14))), (ta9, .inl (kI, 30, .inl f15)), (ua9, .inl (kI, 12, .inl f16)), (va9, .inl (kI, 12, .inl f17)), (bq, .inr (0, oX0 sb9 tb9 ub9 vb9 xb9)), (sb9, .inl (kJ, 96, .inr (.inl fsb9))), (tb9, .inl (kI, 30, .inl ftb9)), (ub9, .inl (kI, 12, .inl fub9)), (vb9, .inl (kI, 12, .inl fvb9))] : va_W) ++ rfm kI kJ l9) := hDa
    clear hPa hDa
    have hP9 := hP
    have hD9 := hD
    have hP9 : va_P (dC, dI) vwCl (([(hi, .inr (1, oX1 hi_ahead (upd y28_0 1 z20))), (hi_ahead, .inl (kC, 40, .inr (.inr (.inr (.inr f3)))))] : va_W) ++ rfm kI kJ ((((r1, sa9, ta9, ua9, va9), y13, f14, f15, f16, f17) : RR) :: (((bq, sb9, tb9, ub9, vb9), xb9, fsb9, ftb9, fub9, fvb9) : RR) :: l9)) H := hP9
    have hD9 : va_D A (([(hi, .inr (1, oX1 hi_ahead (upd y28_0 1 z20))), (hi_ahead, .inl (kC, 40, .inr (.inr (.inr (.inr f3)))))] : va_W) ++ rfm kI kJ ((((r1, sa9, ta9, ua9, va9), y13, f14, f15, f16, f17) : RR) :: (((bq, sb9, tb9, ub9, vb9), xb9, fsb9, ftb9, fub9, fvb9) : RR) :: l9)) := hD9
    exact W.vret hx hb hr (fun t ht hW => ⟨⟨(), rfl, trivial, upd y28_0 1 z20, f3, ((((r1, sa9, ta9, ua9, va9), y13, f14, f15, f16, f17) : RR) :: (((bq, sb9, tb9, ub9, vb9), xb9, fsb9, ftb9, fub9, fvb9) : RR) :: l9), (fI_u hI28_0 (k := 1) ((iv_w b21 (by decide) (by decide)))), (rOK_cons ⟨hq18, hq19⟩ (rOK_cons ⟨hsib9, hfib9⟩ hok9)), rFam_back2 hp6 hpm9 rfl rfl, fun g2 hg2 => rFam_back2 (hp8 g2 hg2) hpm9 rfl rfl, hp9, by rw [ht]; exact hP9, hD9⟩, hS.F ht⟩) hS.2.2 dX1_keep_50
  refine lv_aload_n hx hb dX1_keep_0 rfl (lv_at hl 0 rfl) ?_
  refine va_get (D := (dC, dI)) (ci := 1) (v := .int (x_hi 1)) (C := RX1) (T := TX1) (N := 3) hx hb hts hin1 hown hK hP 0 rfl rfl 2 (Nat.le_of_ble_eq_true rfl) hw_0 (fun _ h9 => h9) rfl dX1_keep_1 ?_
  refine lv_bipush (v := 40) hx hb dX1_keep_4 bp_40 ?_
  refine lv_icmp_lt (tgt := 28) hx hb dX1_keep_6 rfl (fun c22 => ?_) (fun c22 => ?_)
  · have b23 : iv 0 39 (x_hi 1) := iv_ltL c22 (hx_hi 1 : iv 0 40 (x_hi 1)) ivk_40 (by decide) (by decide)
    exact hJ28 x_hi _ _ _ (hx_hi) (b23) (hP) (hD) hS (lv_sub hl [0, 1] rfl)
  · have b24 : iv 40 40 (x_hi 1) := iv_leR (Int32.not_lt.mp c22) ivk_40 (hx_hi 1 : iv 0 40 (x_hi 1)) (by decide) (by decide)
    refine lv_aload_n hx hb dX1_keep_9 rfl (lv_at hl 0 rfl) ?_
    refine lv_aload_n hx hb dX1_keep_10 rfl (lv_at hl 0 rfl) ?_
    refine va_get (D := (dC, dI)) (ci := 1) (v := .int (x_hi 0)) (C := RX1) (T := TX1) (N := 3) hx hb hts hin1 hown hK hP 0 rfl rfl 1 (Nat.le_of_ble_eq_true rfl) hw_1 (fun _ h9 => h9) rfl dX1_keep_11 ?_
    refine lv_iconst (v := 1) hx hb dX1_keep_14 ic_1 ?_
    refine lv_iadd hx hb dX1_keep_15 ?_
    refine iv_top (a := 1) (b := 40) (iv_add (hx_hi 0 : iv 0 39 (x_hi 0)) ivk_1 (by decide) (by decide) (by decide) (by decide)) (fun z25 b26 => ?_)
    refine lv_bipush (v := 40) hx hb dX1_keep_16 bp_40 ?_
    refine lv_irem hx hb dX1_keep_18 (by decide) ?_
    refine iv_top (a := 0) (b := 39) (iv_rem b26 ivk_40 (by decide) (by decide) (by decide) (by decide)) (fun z27 b28 => ?_)
    refine va_put (D := (dC, dI)) (ci := 1) (v := .int z27) (ty := .int) (C := RX1) (T := TX1) (N := 3) hx hb hts hin1 tyX1 tyX1_ok nmX1 hown hK hP hD hS 0 rfl rfl 1 (by decide) hw_1 (fun _ h9 => h9) rfl (by decide +kernel) rfl rfl (Nat.le_of_ble_eq_true rfl) dX1_keep_19 (fun H locs hPa hDa hS => ?_)
    clear hP hD
    have hP : va_P (dC, dI) vwCl (([(hi, .inr (1, oX1 hi_ahead (upd x_hi 0 z27))), (hi_ahead, .inl (kC, 40, .inr (.inr (.inr (.inr f_hi_ahead)))))] : va_W) ++ rfm kI kJ rows) H := hPa
    have hD : va_D A (([(hi, .inr (1, oX1 hi_ahead (upd x_hi 0 z27))), (hi_ahead, .inl (kC, 40, .inr (.inr (.inr (.inr f_hi_ahead)))))] : va_W) ++ rfm kI kJ rows) := hDa
    clear hPa hDa
    refine lv_aload_n hx hb dX1_keep_22 rfl (lv_at hl 0 rfl) ?_
    refine lv_bipush (v := 39) hx hb dX1_keep_23 bp_39 ?_
    refine va_put (D := (dC, dI)) (ci := 1) (v := .int 39) (ty := .int) (C := RX1) (T := TX1) (N := 3) hx hb hts hin1 tyX1 tyX1_ok nmX1 hown hK hP hD hS 0 rfl rfl 2 (by decide) hw_0 (fun _ h9 => h9) rfl (by decide +kernel) rfl rfl (Nat.le_of_ble_eq_true rfl) dX1_keep_25 (fun H locs hPa hDa hS => ?_)
    clear hP hD
    have hP : va_P (dC, dI) vwCl (([(hi, .inr (1, oX1 hi_ahead (upd (upd x_hi 0 z27) 1 39))), (hi_ahead, .inl (kC, 40, .inr (.inr (.inr (.inr f_hi_ahead)))))] : va_W) ++ rfm kI kJ rows) H := hPa
    have hD : va_D A (([(hi, .inr (1, oX1 hi_ahead (upd (upd x_hi 0 z27) 1 39))), (hi_ahead, .inl (kC, 40, .inr (.inr (.inr (.inr f_hi_ahead)))))] : va_W) ++ rfm kI kJ rows) := hDa
    clear hPa hDa
    exact hJ28 (upd (upd x_hi 0 z27) 1 39) _ _ _ ((fI_u (fI_u hx_hi (k := 0) (b28)) (k := 1) ((iv_w ivk_39 (by decide) (by decide))))) ((iv_w ivk_39 (by decide) (by decide))) (hP) (hD) hS (lv_sub hl [0, 1] rfl)
def rm_s1_takeBack : Room := { frames := 3, cells := 5, slots := 160, locals := 81 }
set_option maxHeartbeats 4000000 in
set_option maxRecDepth 100000 in
theorem s1_takeBack (l : Launch) (dC : Nat → ClassId) (dI : Nat → Nat → Nat) (kB kI kJ kZ kC kS : ClassId) (sz : Nat) (hi : Nat) (hi_ahead : Nat) (x_hi : Nat → Int32) (oc : Nat) (c_seen : Nat) (c_sent : Nat) (c_turn : Nat) (c_counter : Nat) (x_c : Nat → Int32) (f_c_seen : Nat → Int64) (f_c_sent : Nat → Int32) (f_c_turn : Nat → Int32) (f_c_counter : Nat → Int32) (f_hi_ahead : Nat → Option Nat) (rows : List RR) (hx_hi : fI lX1 hX1 x_hi) (hf_c_seen : sI f_c_seen) (hf_c_turn : fI (fun _ => 0) (fun _ => 59) f_c_turn) (hOK : rOK rows) (hF_hi : rFam f_hi_ahead rows) : Met l yX1_takeBack wsX1_takeBack rm_s1_takeBack (va_Pc [.ref hi, .ref oc] (fun U => U.heap.size = sz ∧ va_P (dC, dI) vwCl (([(hi, .inr (1, oX1 hi_ahead x_hi)), (oc, .inr (0, oX0 c_seen c_sent c_turn c_counter x_c)), (c_seen, .inl (kJ, 96, .inr (.inl f_c_seen))), (c_sent, .inl (kI, 30, .inl f_c_sent)), (c_turn, .inl (kI, 12, .inl f_c_turn)), (c_counter, .inl (kI, 12, .inl f_c_counter)), (hi_ahead, .inl (kC, 40, .inr (.inr (.inr (.inr f_hi_ahead)))))] : va_W) ++ rfm kI kJ rows) U.heap ∧ kE dC dI kB kI kJ kZ kC kS U ∧ va_D (fun _ => True) (([(hi, .inr (1, oX1 hi_ahead x_hi)), (oc, .inr (0, oX0 c_seen c_sent c_turn c_counter x_c)), (c_seen, .inl (kJ, 96, .inr (.inl f_c_seen))), (c_sent, .inl (kI, 30, .inl f_c_sent)), (c_turn, .inl (kI, 12, .inl f_c_turn)), (c_counter, .inl (kI, 12, .inl f_c_counter)), (hi_ahead, .inl (kC, 40, .inr (.inr (.inr (.inr f_hi_ahead)))))] : va_W) ++ rfm kI kJ rows))) (va_Qv (fun (_ : Unit) => True) (fun _ t => ∃ (x_hi' : Nat → Int32) (x_c' : Nat → Int32) (f_c_seen' : Nat → Int64) (f_c_sent' : Nat → Int32) (f_c_turn' : Nat → Int32) (f_c_counter' : Nat → Int32) (f_hi_ahead' : Nat → Option Nat) (rows' : List RR), fI lX1 hX1 x_hi' ∧ sI f_c_seen' ∧ fI (fun _ => 0) (fun _ => 59) f_c_turn' ∧ rOK rows' ∧ rFam f_hi_ahead' rows' ∧ (∀ g2, rFam g2 rows → rFam g2 rows') ∧ (∀ k q : Nat, f_hi_ahead' k = some q → f_hi_ahead k = some q ∨ ∀ x ∈ rows, x.1.1 ≠ q) ∧ va_P (dC, dI) vwCl (([(hi, .inr (1, oX1 hi_ahead x_hi')), (oc, .inr (0, oX0 c_seen c_sent c_turn c_counter x_c')), (c_seen, .inl (kJ, 96, .inr (.inl f_c_seen'))), (c_sent, .inl (kI, 30, .inl f_c_sent')), (c_turn, .inl (kI, 12, .inl f_c_turn')), (c_counter, .inl (kI, 12, .inl f_c_counter')), (hi_ahead, .inl (kC, 40, .inr (.inr (.inr (.inr f_hi_ahead')))))] : va_W) ++ rfm kI kJ rows') t.heap ∧ va_D (va_A (([(hi, .inr (1, oX1 hi_ahead x_hi)), (oc, .inr (0, oX0 c_seen c_sent c_turn c_counter x_c)), (c_seen, .inl (kJ, 96, .inr (.inl f_c_seen))), (c_sent, .inl (kI, 30, .inl f_c_sent)), (c_turn, .inl (kI, 12, .inl f_c_turn)), (c_counter, .inl (kI, 12, .inl f_c_counter)), (hi_ahead, .inl (kC, 40, .inr (.inr (.inr (.inr f_hi_ahead)))))] : va_W) ++ rfm kI kJ rows) sz) (([(hi, .inr (1, oX1 hi_ahead x_hi')), (oc, .inr (0, oX0 c_seen c_sent c_turn c_counter x_c')), (c_seen, .inl (kJ, 96, .inr (.inl f_c_seen'))), (c_sent, .inl (kI, 30, .inl f_c_sent')), (c_turn, .inl (kI, 12, .inl f_c_turn')), (c_counter, .inl (kI, 12, .inl f_c_counter')), (hi_ahead, .inl (kC, 40, .inr (.inr (.inr (.inr f_hi_ahead')))))] : va_W) ++ rfm kI kJ rows')) (va_A (([(hi, .inr (1, oX1 hi_ahead x_hi)), (oc, .inr (0, oX0 c_seen c_sent c_turn c_counter x_c)), (c_seen, .inl (kJ, 96, .inr (.inl f_c_seen))), (c_sent, .inl (kI, 30, .inl f_c_sent)), (c_turn, .inl (kI, 12, .inl f_c_turn)), (c_counter, .inl (kI, 12, .inl f_c_counter)), (hi_ahead, .inl (kC, 40, .inr (.inr (.inr (.inr f_hi_ahead)))))] : va_W) ++ rfm kI kJ rows) sz)) 5 160 (va_A (([(hi, .inr (1, oX1 hi_ahead x_hi)), (oc, .inr (0, oX0 c_seen c_sent c_turn c_counter x_c)), (c_seen, .inl (kJ, 96, .inr (.inl f_c_seen))), (c_sent, .inl (kI, 30, .inl f_c_sent)), (c_turn, .inl (kI, 12, .inl f_c_turn)), (c_counter, .inl (kI, 12, .inl f_c_counter)), (hi_ahead, .inl (kC, 40, .inr (.inr (.inr (.inr f_hi_ahead)))))] : va_W) ++ rfm kI kJ rows) sz) := by
  refine Met.ofW (cc := cX1_takeBack) (maxL := 2) (ret := none) (by decide) rfl ?_
  intro p e s m args0 below meth c s₁ B hml hv
  obtain ⟨hargs, hsz, hP, hE, hD0⟩ := hv
  have hx := B.exec
  have hb := B.bytes
  have hr := B.returns
  have hts := atoms_spec (ws := wsX1_takeBack) B.pre
  have hown : s.vm.findClass RX1 = some m.cls := findClass_of_methodNamed B.named
  have hlocks := B.notSynchronized
  have hK := hE.1
  have hin1 : ∀ w ∈ wsX10, w ∈ wsX1_takeBack := fun _ h9 => List.mem_cons_of_mem _ (List.mem_append_left _ (List.mem_append_right _ h9))
  have hin0 : ∀ w ∈ wsX00, w ∈ wsX1_takeBack := fun _ h9 => List.mem_cons_of_mem _ (List.mem_append_right _ h9)
  have hw_0 := hts (.fieldLink RX1 21 "PathProber$History" "size" "I") (List.mem_of_getElem? (i := 1) rfl)
  subst hsz
  have hD := hD0.self (sz := s.heap.size)
  generalize hAe : va_A (([(hi, .inr (1, oX1 hi_ahead x_hi)), (oc, .inr (0, oX0 c_seen c_sent c_turn c_counter x_c)), (c_seen, .inl (kJ, 96, .inr (.inl f_c_seen))), (c_sent, .inl (kI, 30, .inl f_c_sent)), (c_turn, .inl (kI, 12, .inl f_c_turn)), (c_counter, .inl (kI, 12, .inl f_c_counter)), (hi_ahead, .inl (kC, 40, .inr (.inr (.inr (.inr f_hi_ahead)))))] : va_W) ++ rfm kI kJ rows) s.heap.size = A at hD ⊢
  have hA : ∀ q : Nat, s.heap.size ≤ q → A q := fun q h => by rw [← hAe]; exact Or.inr h
  have hS : va_S A s.heap s.heap [] := va_S.rf
  have hP : va_P (dC, dI) vwCl (([(hi, .inr (1, oX1 hi_ahead x_hi)), (oc, .inr (0, oX0 c_seen c_sent c_turn c_counter x_c)), (c_seen, .inl (kJ, 96, .inr (.inl f_c_seen))), (c_sent, .inl (kI, 30, .inl f_c_sent)), (c_turn, .inl (kI, 12, .inl f_c_turn)), (c_counter, .inl (kI, 12, .inl f_c_counter)), (hi_ahead, .inl (kC, 40, .inr (.inr (.inr (.inr f_hi_ahead)))))] : va_W) ++ rfm kI kJ rows) s.heap := hP
  have hl := lv_entry ([.ref hi, .ref oc]) (n := 2) (Nat.le_of_ble_eq_true rfl)
  have hla : entryFrame m args0 2 = entryFrame m ([.ref hi, .ref oc] : List Value).toArray 2 := by rw [hargs]
  rw [hla, lg_entry_eq]
  generalize (lg_sl ([.ref hi, .ref oc]) ++ List.replicate (2 - (lg_sl ([.ref hi, .ref oc])).length) Slot.unset).toArray = ls at hl ⊢
  have hl : lv_has ls 2 [(0, .ref hi), (1, .ref oc)] := hl
  refine lv_aload_n hx hb dX1_takeBack_0 rfl (lv_at hl 0 rfl) ?_
  refine va_get (D := (dC, dI)) (ci := 1) (v := .int (x_hi 1)) (C := RX1) (T := TX1) (N := 3) hx hb hts hin1 hown hK hP 0 rfl rfl 2 (Nat.le_of_ble_eq_true rfl) hw_0 (fun _ h9 => h9) rfl dX1_takeBack_1 ?_
  refine lv_if_gt (tgt := 8) hx hb dX1_takeBack_4 rfl (fun c1 => ?_) (fun c1 => ?_)
  · have b2 : iv 1 40 (x_hi 1) := iv_ltR c1 ivk_0 (hx_hi 1 : iv 0 40 (x_hi 1)) (by decide) (by decide)
    refine lv_aload_n hx hb dX1_takeBack_8 rfl (lv_at hl 0 rfl) ?_
    refine lv_dup hx hb dX1_takeBack_9 rfl ?_
    refine va_get (D := (dC, dI)) (ci := 1) (v := .int (x_hi 1)) (C := RX1) (T := TX1) (N := 3) hx hb hts hin1 hown hK hP 0 rfl rfl 2 (Nat.le_of_ble_eq_true rfl) hw_0 (fun _ h9 => h9) rfl dX1_takeBack_10 ?_
    refine lv_iconst (v := 1) hx hb dX1_takeBack_13 ic_1 ?_
    refine lv_isub hx hb dX1_takeBack_14 ?_
    refine iv_top (a := 0) (b := 39) (iv_sub b2 ivk_1 (by decide) (by decide) (by decide) (by decide)) (fun z3 b4 => ?_)
    refine va_put (D := (dC, dI)) (ci := 1) (v := .int z3) (ty := .int) (C := RX1) (T := TX1) (N := 3) hx hb hts hin1 tyX1 tyX1_ok nmX1 hown hK hP hD hS 0 rfl rfl 2 (by decide) hw_0 (fun _ h9 => h9) rfl (by decide +kernel) rfl rfl (Nat.le_of_ble_eq_true rfl) dX1_takeBack_15 (fun H locs hPa hDa hS => ?_)
    clear hP hD
    have hP : va_P (dC, dI) vwCl (([(hi, .inr (1, oX1 hi_ahead (upd x_hi 1 z3))), (oc, .inr (0, oX0 c_seen c_sent c_turn c_counter x_c)), (c_seen, .inl (kJ, 96, .inr (.inl f_c_seen))), (c_sent, .inl (kI, 30, .inl f_c_sent)), (c_turn, .inl (kI, 12, .inl f_c_turn)), (c_counter, .inl (kI, 12, .inl f_c_counter)), (hi_ahead, .inl (kC, 40, .inr (.inr (.inr (.inr f_hi_ahead)))))] : va_W) ++ rfm kI kJ rows) H := hPa
    have hD : va_D A (([(hi, .inr (1, oX1 hi_ahead (upd x_hi 1 z3))), (oc, .inr (0, oX0 c_seen c_sent c_turn c_counter x_c)), (c_seen, .inl (kJ, 96, .inr (.inl f_c_seen))), (c_sent, .inl (kI, 30, .inl f_c_sent)), (c_turn, .inl (kI, 12, .inl f_c_turn)), (c_counter, .inl (kI, 12, .inl f_c_counter)), (hi_ahead, .inl (kC, 40, .inr (.inr (.inr (.inr f_hi_ahead)))))] : va_W) ++ rfm kI kJ rows) := hDa
    clear hPa hDa
    refine lv_aload_n hx hb dX1_takeBack_18 rfl (lv_at hl 1 rfl) ?_
    refine lv_aload_n hx hb dX1_takeBack_19 rfl (lv_at hl 0 rfl) ?_
    refine lv_aload_n hx hb dX1_takeBack_20 rfl (lv_at hl 0 rfl) ?_
    refine va_get (D := (dC, dI)) (ci := 1) (v := .int z3) (C := RX1) (T := TX1) (N := 3) hx hb hts hin1 hown hK hP 0 rfl rfl 2 (Nat.le_of_ble_eq_true rfl) hw_0 (fun _ h9 => h9) rfl dX1_takeBack_21 ?_
    obtain ⟨hPc, hDc, hFc, hJn⟩ := cl_p (wc := [(hi, .inr (1, oX1 hi_ahead (upd x_hi 1 z3))), (hi_ahead, .inl (kC, 40, .inr (.inr (.inr (.inr f_hi_ahead)))))]) (wr := [(oc, .inr (0, oX0 c_seen c_sent c_turn c_counter x_c)), (c_seen, .inl (kJ, 96, .inr (.inl f_c_seen))), (c_sent, .inl (kI, 30, .inl f_c_sent)), (c_turn, .inl (kI, 12, .inl f_c_turn)), (c_counter, .inl (kI, 12, .inl f_c_counter))]) hP hD hS hA [0, 6] [1, 2, 3, 4, 5] rfl rfl (by decide +kernel)
    refine va_callr (va_runV (As := [.int z3]) (rest := [.ref oc]) ⟨hx, hb, hml, hown, hts⟩ (s1_rowOf l dC dI kB kI kJ kZ kC kS H.size hi hi_ahead (upd x_hi 1 z3) f_hi_ahead z3 rows ((fI_u hx_hi (k := 1) ((iv_w b4 (by decide) (by decide))))) (b4) (hOK) (hF_hi)) (cwV 1 hts gX1_takeBack_X1_rowOf rfl rfl rfl (by decide +kernel) ⟨Nat.le_of_ble_eq_true rfl, Nat.le_of_ble_eq_true rfl⟩) ⟨fun a U g mk q => by obtain ⟨q0, q1, qP, qE, qD⟩ := q; exact ⟨q0, q1, qP, kE_call qE, qD⟩, va_recv hK hP (ci := 1) (q0 := 0) rfl rfl, fun U hU hW => ⟨rfl, by rw [hU], by rw [hU]; exact hPc, kE_warm hW hE, hDc.weaken (fun _ _ _ _ => trivial)⟩⟩ rfl rfl hl.1 rfl (lv_room (Nat.le_of_ble_eq_true rfl)) dX1_takeBack_24 ⟨Nat.le_of_ble_eq_true rfl, Nat.le_of_ble_eq_true rfl⟩) hS (fun q _ h => hFc q h) hFc (fun u r5 t H locs ht hvm w6 hB hz1 hk1 hS => ?_)
    obtain ⟨f7, rows8, hp9, hp10, hp11, hp12, hp13, hp14, hP1, hD1⟩ := hB
    try dsimp only at w6
    obtain ⟨hPa, hDa⟩ := hJn (rx := [(hi, .inr (1, oX1 hi_ahead (upd x_hi 1 z3))), (hi_ahead, .inl (kC, 40, .inr (.inr (.inr (.inr f7)))))]) (pl1 := rfm kI kJ rows8) hk1 ht hP1 hD1
    clear hP hD hPc hDc hFc hJn hP1 hD1 hk1
    have hP : va_P (dC, dI) vwCl (([(oc, .inr (0, oX0 c_seen c_sent c_turn c_counter x_c)), (c_seen, .inl (kJ, 96, .inr (.inl f_c_seen))), (c_sent, .inl (kI, 30, .inl f_c_sent)), (c_turn, .inl (kI, 12, .inl f_c_turn)), (c_counter, .inl (kI, 12, .inl f_c_counter)), (hi, .inr (1, oX1 hi_ahead (upd x_hi 1 z3))), (hi_ahead, .inl (kC, 40, .inr (.inr (.inr (.inr f7)))))] : va_W) ++ rfm kI kJ rows8) H := hPa
    have hD : va_D A (([(oc, .inr (0, oX0 c_seen c_sent c_turn c_counter x_c)), (c_seen, .inl (kJ, 96, .inr (.inl f_c_seen))), (c_sent, .inl (kI, 30, .inl f_c_sent)), (c_turn, .inl (kI, 12, .inl f_c_turn)), (c_counter, .inl (kI, 12, .inl f_c_counter)), (hi, .inr (1, oX1 hi_ahead (upd x_hi 1 z3))), (hi_ahead, .inl (kC, 40, .inr (.inr (.inr (.inr f7)))))] : va_W) ++ rfm kI kJ rows8) := hDa
    clear hPa hDa
    refine W.widen (k := 5) (n := 160) (Nat.le_of_ble_eq_true rfl) (Nat.le_of_ble_eq_true rfl) ?_
    obtain ⟨⟨⟨qa9, sa9, ta9, ua9, va9⟩, xa9, fsa9, fta9, fua9, fva9⟩, l9, he9, hpm9, ⟨hsia9, hfia9⟩, hok9⟩ := rtake hp9 hp11
    have he9 : r5 = qa9 := he9.symm
    subst he9
    have hP := hP.perm (rperm hpm9)
    have hD := hD.perm (rperm hpm9)
    have hP : va_P (dC, dI) vwCl (([(oc, .inr (0, oX0 c_seen c_sent c_turn c_counter x_c)), (c_seen, .inl (kJ, 96, .inr (.inl f_c_seen))), (c_sent, .inl (kI, 30, .inl f_c_sent)), (c_turn, .inl (kI, 12, .inl f_c_turn)), (c_counter, .inl (kI, 12, .inl f_c_counter)), (hi, .inr (1, oX1 hi_ahead (upd x_hi 1 z3))), (hi_ahead, .inl (kC, 40, .inr (.inr (.inr (.inr f7))))), (r5, .inr (0, oX0 sa9 ta9 ua9 va9 xa9)), (sa9, .inl (kJ, 96, .inr (.inl fsa9))), (ta9, .inl (kI, 30, .inl fta9)), (ua9, .inl (kI, 12, .inl fua9)), (va9, .inl (kI, 12, .inl fva9))] : va_W) ++ rfm kI kJ l9) H := hP
    have hD : va_D A (([(oc, .inr (0, oX0 c_seen c_sent c_turn c_counter x_c)), (c_seen, .inl (kJ, 96, .inr (.inl f_c_seen))), (c_sent, .inl (kI, 30, .inl f_c_sent)), (c_turn, .inl (kI, 12, .inl f_c_turn)), (c_counter, .inl (kI, 12, .inl f_c_counter)), (hi, .inr (1, oX1 hi_ahead (upd x_hi 1 z3))), (hi_ahead, .inl (kC, 40, .inr (.inr (.inr (.inr f7))))), (r5, .inr (0, oX0 sa9 ta9 ua9 va9 xa9)), (sa9, .inl (kJ, 96, .inr (.inl fsa9))), (ta9, .inl (kI, 30, .inl fta9)), (ua9, .inl (kI, 12, .inl fua9)), (va9, .inl (kI, 12, .inl fva9))] : va_W) ++ rfm kI kJ l9) := hD
    obtain ⟨hPc, hDc, hFc, hJn⟩ := cl_q (wc := [(oc, .inr (0, oX0 c_seen c_sent c_turn c_counter x_c)), (c_seen, .inl (kJ, 96, .inr (.inl f_c_seen))), (c_sent, .inl (kI, 30, .inl f_c_sent)), (c_turn, .inl (kI, 12, .inl f_c_turn)), (c_counter, .inl (kI, 12, .inl f_c_counter)), (r5, .inr (0, oX0 sa9 ta9 ua9 va9 xa9)), (sa9, .inl (kJ, 96, .inr (.inl fsa9))), (ta9, .inl (kI, 30, .inl fta9)), (ua9, .inl (kI, 12, .inl fua9)), (va9, .inl (kI, 12, .inl fva9))]) (wr := [(hi, .inr (1, oX1 hi_ahead (upd x_hi 1 z3))), (hi_ahead, .inl (kC, 40, .inr (.inr (.inr (.inr f7)))))]) hP hD hS hA [0, 1, 2, 3, 4, 7, 8, 9, 10, 11] [5, 6] rfl rfl (by decide +kernel)
    refine va_callv (va_runV (As := [.ref r5]) (rest := []) ⟨hx, hb, hml, hown, hts⟩ (s0_copyFrom l dC dI kB kI kJ kZ kC kS H.size oc c_seen c_sent c_turn c_counter x_c f_c_seen f_c_sent f_c_turn f_c_counter r5 sa9 ta9 ua9 va9 xa9 fsa9 fta9 fua9 fva9 (hf_c_seen) (hf_c_turn) (hsia9) (hfia9)) (cwV 1 hts gX1_takeBack_X0_copyFrom rfl rfl rfl (by decide +kernel) ⟨Nat.le_of_ble_eq_true rfl, Nat.le_of_ble_eq_true rfl⟩) ⟨fun a U g mk q => by obtain ⟨q0, q1, qP, qE, qD⟩ := q; exact ⟨q0, q1, qP, kE_call qE, qD⟩, va_recv hK hP (ci := 0) (q0 := 0) rfl rfl, fun U hU hW => ⟨rfl, by rw [hU], by rw [hU]; exact hPc, kE_warm hW hE, hDc.weaken (fun _ _ _ _ => trivial)⟩⟩ rfl rfl hl.1 rfl (lv_room (Nat.le_of_ble_eq_true rfl)) dX1_takeBack_27 ⟨Nat.le_of_ble_eq_true rfl, Nat.le_of_ble_eq_true rfl⟩) hS (fun q _ h => hFc q h) hFc (fun u t H locs ht hvm w16 hB hz1 hk1 hS => ?_)
    obtain ⟨y17, f18, f19, f20, f21, hq22, hq23, hP1, hD1⟩ := hB
    try dsimp only at w16
    obtain ⟨hPa, hDa⟩ := hJn (w1 := [(oc, .inr (0, oX0 c_seen c_sent c_turn c_counter y17)), (c_seen, .inl (kJ, 96, .inr (.inl f18))), (c_sent, .inl (kI, 30, .inl f19)), (c_turn, .inl (kI, 12, .inl f20)), (c_counter, .inl (kI, 12, .inl f21)), (r5, .inr (0, oX0 sa9 ta9 ua9 va9 xa9)), (sa9, .inl (kJ, 96, .inr (.inl fsa9))), (ta9, .inl (kI, 30, .inl fta9)), (ua9, .inl (kI, 12, .inl fua9)), (va9, .inl (kI, 12, .inl fva9))]) hk1 ht hP1 hD1
    clear hP hD hPc hDc hFc hJn hP1 hD1 hk1
    have hP : va_P (dC, dI) vwCl (([(hi, .inr (1, oX1 hi_ahead (upd x_hi 1 z3))), (hi_ahead, .inl (kC, 40, .inr (.inr (.inr (.inr f7))))), (oc, .inr (0, oX0 c_seen c_sent c_turn c_counter y17)), (c_seen, .inl (kJ, 96, .inr (.inl f18))), (c_sent, .inl (kI, 30, .inl f19)), (c_turn, .inl (kI, 12, .inl f20)), (c_counter, .inl (kI, 12, .inl f21)), (r5, .inr (0, oX0 sa9 ta9 ua9 va9 xa9)), (sa9, .inl (kJ, 96, .inr (.inl fsa9))), (ta9, .inl (kI, 30, .inl fta9)), (ua9, .inl (kI, 12, .inl fua9)), (va9, .inl (kI, 12, .inl fva9))] : va_W) ++ rfm kI kJ l9) H := hPa
    have hD : va_D A (([(hi, .inr (1, oX1 hi_ahead (upd x_hi 1 z3))), (hi_ahead, .inl (kC, 40, .inr (.inr (.inr (.inr f7))))), (oc, .inr (0, oX0 c_seen c_sent c_turn c_counter y17)), (c_seen, .inl (kJ, 96, .inr (.inl f18))), (c_sent, .inl (kI, 30, .inl f19)), (c_turn, .inl (kI, 12, .inl f20)), (c_counter, .inl (kI, 12, .inl f21)), (r5, .inr (0, oX0 sa9 ta9 ua9 va9 xa9)), (sa9, .inl (kJ, 96, .inr (.inl fsa9))), (ta9, .inl (kI, 30, .inl fta9)), (ua9, .inl (kI, 12, .inl fua9)), (va9, .inl (kI, 12, .inl fva9))] : va_W) ++ rfm kI kJ l9) := hDa
    clear hPa hDa
    refine W.widen (k := 5) (n := 160) (Nat.le_of_ble_eq_true rfl) (Nat.le_of_ble_eq_true rfl) ?_
    have hPD9 := cl_sp (wc := [(hi, .inr (1, oX1 hi_ahead (upd x_hi 1 z3))), (oc, .inr (0, oX0 c_seen c_sent c_turn c_counter y17)), (c_seen, .inl (kJ, 96, .inr (.inl f18))), (c_sent, .inl (kI, 30, .inl f19)), (c_turn, .inl (kI, 12, .inl f20)), (c_counter, .inl (kI, 12, .inl f21)), (hi_ahead, .inl (kC, 40, .inr (.inr (.inr (.inr f7))))), (r5, .inr (0, oX0 sa9 ta9 ua9 va9 xa9)), (sa9, .inl (kJ, 96, .inr (.inl fsa9))), (ta9, .inl (kI, 30, .inl fta9)), (ua9, .inl (kI, 12, .inl fua9)), (va9, .inl (kI, 12, .inl fva9))]) hP hD [0, 2, 3, 4, 5, 6, 1, 7, 8, 9, 10, 11] rfl (by decide +kernel)
    have hP9 := hPD9.1
    have hD9 := hPD9.2
    have hP9 : va_P (dC, dI) vwCl (([(hi, .inr (1, oX1 hi_ahead (upd x_hi 1 z3))), (oc, .inr (0, oX0 c_seen c_sent c_turn c_counter y17)), (c_seen, .inl (kJ, 96, .inr (.inl f18))), (c_sent, .inl (kI, 30, .inl f19)), (c_turn, .inl (kI, 12, .inl f20)), (c_counter, .inl (kI, 12, .inl f21)), (hi_ahead, .inl (kC, 40, .inr (.inr (.inr (.inr f7)))))] : va_W) ++ rfm kI kJ ((((r5, sa9, ta9, ua9, va9), xa9, fsa9, fta9, fua9, fva9) : RR) :: l9)) H := hP9
    have hD9 : va_D A (([(hi, .inr (1, oX1 hi_ahead (upd x_hi 1 z3))), (oc, .inr (0, oX0 c_seen c_sent c_turn c_counter y17)), (c_seen, .inl (kJ, 96, .inr (.inl f18))), (c_sent, .inl (kI, 30, .inl f19)), (c_turn, .inl (kI, 12, .inl f20)), (c_counter, .inl (kI, 12, .inl f21)), (hi_ahead, .inl (kC, 40, .inr (.inr (.inr (.inr f7)))))] : va_W) ++ rfm kI kJ ((((r5, sa9, ta9, ua9, va9), xa9, fsa9, fta9, fua9, fva9) : RR) :: l9)) := hD9
    exact W.vret hx hb hr (fun t ht hW => ⟨⟨(), rfl, trivial, upd x_hi 1 z3, y17, f18, f19, f20, f21, f7, ((((r5, sa9, ta9, ua9, va9), xa9, fsa9, fta9, fua9, fva9) : RR) :: l9), (fI_u hx_hi (k := 1) ((iv_w b4 (by decide) (by decide)))), hq22, hq23, (rOK_cons ⟨hsia9, hfia9⟩ hok9), rFam_back hp10 hpm9 rfl, fun g2 hg2 => rFam_back (hp12 g2 hg2) hpm9 rfl, hp13, by rw [ht]; exact hP9, hD9⟩, hS.F ht⟩) hS.2.2 dX1_takeBack_30
  · have b24 : iv 0 0 (x_hi 1) := iv_leL (Int32.not_lt.mp c1) (hx_hi 1 : iv 0 40 (x_hi 1)) ivk_0 (by decide) (by decide)
    have hP9 := hP
    have hD9 := hD
    refine W.widen (k := 5) (n := 160) (Nat.le_of_ble_eq_true rfl) (Nat.le_of_ble_eq_true rfl) ?_
    exact W.vret hx hb hr (fun t ht hW => ⟨⟨(), rfl, trivial, x_hi, x_c, f_c_seen, f_c_sent, f_c_turn, f_c_counter, f_hi_ahead, rows, hx_hi, hf_c_seen, hf_c_turn, hOK, hF_hi, fun _ h => h, fun _ _ h => Or.inl h, by rw [ht]; exact hP9, hD9⟩, hS.F ht⟩) hS.2.2 dX1_takeBack_7
