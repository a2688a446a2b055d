def rm_k4_leastFor_2 : Room := { frames := 1, cells := 0, slots := 0, locals := 24 }
set_option maxHeartbeats 4000000 in
set_option maxRecDepth 100000 in
theorem k4_leastFor_2 (l : Launch) (dC : Nat → ClassId) (dI : Nat → Nat → Nat) (kB kI kJ kZ kC kS : ClassId) (sz : Nat) (xa38 : Nat) (xa39 : Nat) (xa40 : Nat) (f1 : Nat → Int64) : Met l yX4_leastFor wsX4_leastFor rm_k4_leastFor_2 (va_Pc [.ref xa38, .int 2, .long 50000000000] (fun U => U.heap.size = sz ∧ va_P (dC, dI) vwCl [(xa38, .inr (4, [.ref xa39, .ref xa40, .int 0])), (xa39, .inl (kJ, 23, .inr (.inl f1)))] U.heap ∧ kE dC dI kB kI kJ kZ kC kS U ∧ va_D (fun _ => True) [(xa38, .inr (4, [.ref xa39, .ref xa40, .int 0])), (xa39, .inl (kJ, 23, .inr (.inl f1)))])) (va_Qi (fun (r : Int32) (_ : Unit) => r = 6) (fun _ t => ∃ (g1 : Nat → Int64), va_P (dC, dI) vwCl [(xa38, .inr (4, [.ref xa39, .ref xa40, .int 0])), (xa39, .inl (kJ, 23, .inr (.inl g1)))] t.heap ∧ va_D (va_A [(xa38, .inr (4, [.ref xa39, .ref xa40, .int 0])), (xa39, .inl (kJ, 23, .inr (.inl f1)))] sz) [(xa38, .inr (4, [.ref xa39, .ref xa40, .int 0])), (xa39, .inl (kJ, 23, .inr (.inl g1)))]) (va_A [(xa38, .inr (4, [.ref xa39, .ref xa40, .int 0])), (xa39, .inl (kJ, 23, .inr (.inl f1)))] sz)) 0 0 (va_A [(xa38, .inr (4, [.ref xa39, .ref xa40, .int 0])), (xa39, .inl (kJ, 23, .inr (.inl f1)))] sz) := by
  refine Met.ofW (cc := cX4_leastFor) (maxL := 5) (ret := (some .int)) (by decide) rfl ?_
  intro p e s m args0 below meth c s₁ B hml hv
  obtain ⟨hargs, hsz, hP, hE, hD0⟩ := hv
  have hx := B.exec
  have hb := B.bytes
  have hr := B.returns
  have hts := atoms_spec (ws := wsX4_leastFor) B.pre
  have hown : s.vm.findClass RX4 = some m.cls := findClass_of_methodNamed B.named
  have hlocks := B.notSynchronized
  have hK := hE.1
  have hin4 : ∀ w ∈ wsX40, w ∈ wsX4_leastFor := fun _ h9 => List.mem_cons_of_mem _ (List.mem_append_right _ h9)
  subst hsz
  have hD := hD0.self (sz := s.heap.size)
  generalize hAe : va_A [(xa38, .inr (4, [.ref xa39, .ref xa40, .int 0])), (xa39, .inl (kJ, 23, .inr (.inl f1)))] s.heap.size = A at hD ⊢
  have hA : ∀ q : Nat, s.heap.size ≤ q → A q := fun q h => by rw [← hAe]; exact Or.inr h
  have hS : va_S A s.heap s.heap [] := va_S.rf
  have hP : va_P (dC, dI) vwCl [(xa38, .inr (4, [.ref xa39, .ref xa40, .int 0])), (xa39, .inl (kJ, 23, .inr (.inl f1)))] s.heap := hP
  have hl := lv_entry ([.ref xa38, .int 2, .long 50000000000]) (n := 5) (Nat.le_of_ble_eq_true rfl)
  have hla : entryFrame m args0 5 = entryFrame m ([.ref xa38, .int 2, .long 50000000000] : List Value).toArray 5 := by rw [hargs]
  rw [hla, lg_entry_eq]
  generalize (lg_sl ([.ref xa38, .int 2, .long 50000000000]) ++ List.replicate (5 - (lg_sl ([.ref xa38, .int 2, .long 50000000000])).length) Slot.unset).toArray = ls at hl ⊢
  have hl : lv_has ls 5 [(0, .ref xa38), (1, .int 2), (2, .long 50000000000)] := hl
  refine lv_aload_n hx hb dX4_leastFor_0 rfl (lv_at hl 0 rfl) ?_
  refine lv_iload_n hx hb dX4_leastFor_1 rfl (lv_at hl 1 rfl) ?_
  have hPc := hP.sub (ws' := [(xa38, .inr (4, [.ref xa39, .ref xa40, .int 0])), (xa39, .inl (kJ, 23, .inr (.inl f1)))]) [0, 1] rfl
  have hDc := hD.sub (ws' := [(xa38, .inr (4, [.ref xa39, .ref xa40, .int 0])), (xa39, .inl (kJ, 23, .inr (.inl f1)))]) [0, 1] (by decide) rfl
  have hFc := va_free (wc := [(xa38, .inr (4, [.ref xa39, .ref xa40, .int 0])), (xa39, .inl (kJ, 23, .inr (.inl f1)))]) hD hS hA [0, 1] rfl
  refine va_callv (va_runV (As := [.int 2]) (rest := []) ⟨hx, hb, hml, hown, hts⟩ (k4_begin_2 l dC dI kB kI kJ kZ kC kS s.heap.size xa38 xa39 xa40 f1) (cwV 1 hts gX4_leastFor_X4_begin rfl rfl rfl (by decide +kernel) ⟨Nat.le_of_ble_eq_true rfl, Nat.le_of_ble_eq_true rfl⟩) ⟨fun a U g mk q => by obtain ⟨q0, q1, qP, qE, qD⟩ := q; exact ⟨q0, q1, qP, kE_call qE, qD⟩, va_recv hK hP (ci := 4) (q0 := 0) rfl rfl, fun U hU hW => ⟨rfl, by rw [hU], by rw [hU]; exact hPc, kE_warm hW hE, hDc.weaken (fun _ _ _ _ => trivial)⟩⟩ rfl rfl hl.1 rfl (lv_room (Nat.le_of_ble_eq_true rfl)) dX4_leastFor_2 ⟨Nat.le_of_ble_eq_true rfl, Nat.le_of_ble_eq_true rfl⟩) hS (fun q _ h => hFc q h) hFc (fun u t H1 locs ht hvm w2 hB hz1 hk1 hS => ?_)
  obtain ⟨g_3, f4, f5, f6, hP1, hD1⟩ := hB
  rw [ht] at hP1
  try dsimp only at w2
  obtain ⟨hP, hD⟩ := va_join (wr := []) (w1 := [(xa38, .inr (4, [.ref xa39, .ref xa40, .int 0])), (xa39, .inl (kJ, 23, .inr (.inl g_3)))]) hP hD [0, 1] [] rfl rfl (by decide) (by decide) hk1 hFc hP1 hD1
  generalize H1 = H at hP hS ⊢
  have hP : va_P (dC, dI) vwCl [(xa38, .inr (4, [.ref xa39, .ref xa40, .int 0])), (xa39, .inl (kJ, 23, .inr (.inl g_3)))] H := hP
  have hD : va_D A [(xa38, .inr (4, [.ref xa39, .ref xa40, .int 0])), (xa39, .inl (kJ, 23, .inr (.inl g_3)))] := hD
  refine W.widen (k := 0) (n := 0) (Nat.le_of_ble_eq_true rfl) (Nat.le_of_ble_eq_true rfl) ?_
  refine lv_iconst (v := 1) hx hb dX4_leastFor_5 (by decide) ?_
  refine lv_istore (lv' := [(4, .int 1), (0, .ref xa38), (1, .int 2), (2, .long 50000000000)]) hx hb dX4_leastFor_6 hl (by decide) rfl (fun ls hl => ?_)
  refine lv_iload hx hb dX4_leastFor_8 (lv_at hl 0 rfl) ?_
  refine lv_bipush (v := 60) hx hb dX4_leastFor_10 (by decide) ?_
  refine lv_icmp_gt (tgt := 44) hx hb dX4_leastFor_12 (by decide) (fun c9 => absurd c9 (by decide)) (fun _ => ?_)
  refine lv_aload_n hx hb dX4_leastFor_15 rfl (lv_at hl 1 rfl) ?_
  refine lv_iload_n hx hb dX4_leastFor_16 rfl (lv_at hl 2 rfl) ?_
  have hPc := hP.sub (ws' := [(xa38, .inr (4, [.ref xa39, .ref xa40, .int 0])), (xa39, .inl (kJ, 23, .inr (.inl g_3)))]) [0, 1] rfl
  have hDc := hD.sub (ws' := [(xa38, .inr (4, [.ref xa39, .ref xa40, .int 0])), (xa39, .inl (kJ, 23, .inr (.inl g_3)))]) [0, 1] (by decide) rfl
  have hFc := va_free (wc := [(xa38, .inr (4, [.ref xa39, .ref xa40, .int 0])), (xa39, .inl (kJ, 23, .inr (.inl g_3)))]) hD hS hA [0, 1] rfl
  refine va_callv (va_runV (As := [.int 2]) (rest := []) ⟨hx, hb, hml, hown, hts⟩ (k4_sendNext_2 l dC dI kB kI kJ kZ kC kS H.size xa38 xa39 xa40 g_3) (cwV 1 hts gX4_leastFor_X4_sendNext rfl rfl rfl (by decide +kernel) ⟨Nat.le_of_ble_eq_true rfl, Nat.le_of_ble_eq_true rfl⟩) ⟨fun a U g mk q => by obtain ⟨q0, q1, qP, qE, qD⟩ := q; exact ⟨q0, q1, qP, kE_call qE, qD⟩, va_recv hK hP (ci := 4) (q0 := 0) rfl rfl, fun U hU hW => ⟨rfl, by rw [hU], by rw [hU]; exact hPc, kE_warm hW hE, hDc.weaken (fun _ _ _ _ => trivial)⟩⟩ rfl rfl hl.1 rfl (lv_room (Nat.le_of_ble_eq_true rfl)) dX4_leastFor_17 ⟨Nat.le_of_ble_eq_true rfl, Nat.le_of_ble_eq_true rfl⟩) hS (fun q _ h => hFc q h) hFc (fun u t H1 locs ht hvm w8 hB hz1 hk1 hS => ?_)
  obtain ⟨g_9, f10, f11, f12, hP1, hD1⟩ := hB
  rw [ht] at hP1
  try dsimp only at w8
  obtain ⟨hP, hD⟩ := va_join (wr := []) (w1 := [(xa38, .inr (4, [.ref xa39, .ref xa40, .int 0])), (xa39, .inl (kJ, 23, .inr (.inl g_9)))]) hP hD [0, 1] [] rfl rfl (by decide) (by decide) hk1 hFc hP1 hD1
  generalize H1 = H at hP hS ⊢
  have hP : va_P (dC, dI) vwCl [(xa38, .inr (4, [.ref xa39, .ref xa40, .int 0])), (xa39, .inl (kJ, 23, .inr (.inl g_9)))] H := hP
  have hD : va_D A [(xa38, .inr (4, [.ref xa39, .ref xa40, .int 0])), (xa39, .inl (kJ, 23, .inr (.inl g_9)))] := hD
  refine W.widen (k := 0) (n := 0) (Nat.le_of_ble_eq_true rfl) (Nat.le_of_ble_eq_true rfl) ?_
  have hF1_0 : g_9 0 = kv2 1 0 := by rw [f10, f4]; exact kvs2_0 0 (by decide)
  have hF1_1 : g_9 1 = kv2 1 1 := by rw [f11, f4, f5]; exact kvs2_1 0 (by decide)
  have hF1_2 : g_9 2 = kv2 1 2 := by rw [f12, f5, f6]; exact kvs2_2 0 (by decide)
  refine lv_ldc2 hx hb hown (hts (.constantLong RX4 23 (1000000000000)) (List.mem_of_getElem? (i := 1) (by decide +kernel))) dX4_leastFor_20 ?_
  refine lv_aload_n hx hb dX4_leastFor_23 rfl (lv_at hl 1 rfl) ?_
  refine va_get (D := (dC, dI)) (ci := 4) (v := .ref xa39) (C := RX4) (T := TX4) (N := 3) hx hb hts hin4 hown hK hP 0 rfl rfl 0 (by decide) (hts (.fieldLink RX4 9 "PathProber$Odds" "met" "[J") (List.mem_of_getElem? (i := 2) (by decide +kernel))) (fun _ h9 => h9) rfl dX4_leastFor_24 ?_
  refine lv_iload_n hx hb dX4_leastFor_27 rfl (lv_at hl 2 rfl) ?_
  refine va_lald hx hb hK hP 1 2 rfl rfl (vp_in_nI (n := 2) (by decide) (by decide)) dX4_leastFor_28 ?_
  refine lv_topl (fun z13 e14 => ?_)
  obtain rfl : z13 = (0 : Int64) := e14.trans (hF1_2.trans (by decide +kernel))
  refine lv_lsub hx hb dX4_leastFor_29 ?_
  refine lv_topl (fun z15 e16 => ?_)
  obtain rfl : z15 = (1000000000000 : Int64) := e16.trans (by decide)
  refine lv_lload_n hx hb dX4_leastFor_30 rfl (lv_at hl 3 rfl) ?_
  refine W.lcmp hx hb dX4_leastFor_31 ?_
  refine lv_topi (fun z17 e18 => ?_)
  obtain rfl : z17 = (1 : Int32) := e18.trans (by decide)
  refine lv_if_ge (tgt := 38) hx hb dX4_leastFor_32 (by decide) (fun _ => ?_) (fun c9 => absurd (by decide) c9)
  refine lv_iinc (v := 2) (lv' := [(4, .int 2), (0, .ref xa38), (1, .int 2), (2, .long 50000000000)]) hx hb dX4_leastFor_38 hl (k := 0) rfl (by decide) (by decide) rfl (fun ls hl => ?_)
  refine lv_goto (tgt := 8) hx hb dX4_leastFor_41 (by decide) ?_
  refine lv_iload hx hb dX4_leastFor_8 (lv_at hl 0 rfl) ?_
  refine lv_bipush (v := 60) hx hb dX4_leastFor_10 (by decide) ?_
  refine lv_icmp_gt (tgt := 44) hx hb dX4_leastFor_12 (by decide) (fun c9 => absurd c9 (by decide)) (fun _ => ?_)
  refine lv_aload_n hx hb dX4_leastFor_15 rfl (lv_at hl 1 rfl) ?_
  refine lv_iload_n hx hb dX4_leastFor_16 rfl (lv_at hl 2 rfl) ?_
  have hPc := hP.sub (ws' := [(xa38, .inr (4, [.ref xa39, .ref xa40, .int 0])), (xa39, .inl (kJ, 23, .inr (.inl g_9)))]) [0, 1] rfl
  have hDc := hD.sub (ws' := [(xa38, .inr (4, [.ref xa39, .ref xa40, .int 0])), (xa39, .inl (kJ, 23, .inr (.inl g_9)))]) [0, 1] (by decide) rfl
  have hFc := va_free (wc := [(xa38, .inr (4, [.ref xa39, .ref xa40, .int 0])), (xa39, .inl (kJ, 23, .inr (.inl g_9)))]) hD hS hA [0, 1] rfl
  refine va_callv (va_runV (As := [.int 2]) (rest := []) ⟨hx, hb, hml, hown, hts⟩ (k4_sendNext_2 l dC dI kB kI kJ kZ kC kS H.size xa38 xa39 xa40 g_9) (cwV 1 hts gX4_leastFor_X4_sendNext rfl rfl rfl (by decide +kernel) ⟨Nat.le_of_ble_eq_true rfl, Nat.le_of_ble_eq_true rfl⟩) ⟨fun a U g mk q => by obtain ⟨q0, q1, qP, qE, qD⟩ := q; exact ⟨q0, q1, qP, kE_call qE, qD⟩, va_recv hK hP (ci := 4) (q0 := 0) rfl rfl, fun U hU hW => ⟨rfl, by rw [hU], by rw [hU]; exact hPc, kE_warm hW hE, hDc.weaken (fun _ _ _ _ => trivial)⟩⟩ rfl rfl hl.1 rfl (lv_room (Nat.le_of_ble_eq_true rfl)) dX4_leastFor_17 ⟨Nat.le_of_ble_eq_true rfl, Nat.le_of_ble_eq_true rfl⟩) hS (fun q _ h => hFc q h) hFc (fun u t H1 locs ht hvm w20 hB hz1 hk1 hS => ?_)
  obtain ⟨g_21, f22, f23, f24, hP1, hD1⟩ := hB
  rw [ht] at hP1
  try dsimp only at w20
  obtain ⟨hP, hD⟩ := va_join (wr := []) (w1 := [(xa38, .inr (4, [.ref xa39, .ref xa40, .int 0])), (xa39, .inl (kJ, 23, .inr (.inl g_21)))]) hP hD [0, 1] [] rfl rfl (by decide) (by decide) hk1 hFc hP1 hD1
  generalize H1 = H at hP hS ⊢
  have hP : va_P (dC, dI) vwCl [(xa38, .inr (4, [.ref xa39, .ref xa40, .int 0])), (xa39, .inl (kJ, 23, .inr (.inl g_21)))] H := hP
  have hD : va_D A [(xa38, .inr (4, [.ref xa39, .ref xa40, .int 0])), (xa39, .inl (kJ, 23, .inr (.inl g_21)))] := hD
  refine W.widen (k := 0) (n := 0) (Nat.le_of_ble_eq_true rfl) (Nat.le_of_ble_eq_true rfl) ?_
  have hF2_0 : g_21 0 = kv2 2 0 := by rw [f22, hF1_0]; exact kvs2_0 1 (by decide)
  have hF2_1 : g_21 1 = kv2 2 1 := by rw [f23, hF1_0, hF1_1]; exact kvs2_1 1 (by decide)
  have hF2_2 : g_21 2 = kv2 2 2 := by rw [f24, hF1_1, hF1_2]; exact kvs2_2 1 (by decide)
  refine lv_ldc2 hx hb hown (hts (.constantLong RX4 23 (1000000000000)) (List.mem_of_getElem? (i := 1) (by decide +kernel))) dX4_leastFor_20 ?_
  refine lv_aload_n hx hb dX4_leastFor_23 rfl (lv_at hl 1 rfl) ?_
  refine va_get (D := (dC, dI)) (ci := 4) (v := .ref xa39) (C := RX4) (T := TX4) (N := 3) hx hb hts hin4 hown hK hP 0 rfl rfl 0 (by decide) (hts (.fieldLink RX4 9 "PathProber$Odds" "met" "[J") (List.mem_of_getElem? (i := 2) (by decide +kernel))) (fun _ h9 => h9) rfl dX4_leastFor_24 ?_
  refine lv_iload_n hx hb dX4_leastFor_27 rfl (lv_at hl 2 rfl) ?_
  refine va_lald hx hb hK hP 1 2 rfl rfl (vp_in_nI (n := 2) (by decide) (by decide)) dX4_leastFor_28 ?_
  refine lv_topl (fun z25 e26 => ?_)
  obtain rfl : z25 = (500000000000 : Int64) := e26.trans (hF2_2.trans (by decide +kernel))
  refine lv_lsub hx hb dX4_leastFor_29 ?_
  refine lv_topl (fun z27 e28 => ?_)
  obtain rfl : z27 = (500000000000 : Int64) := e28.trans (by decide)
  refine lv_lload_n hx hb dX4_leastFor_30 rfl (lv_at hl 3 rfl) ?_
  refine W.lcmp hx hb dX4_leastFor_31 ?_
  refine lv_topi (fun z29 e30 => ?_)
  obtain rfl : z29 = (1 : Int32) := e30.trans (by decide)
  refine lv_if_ge (tgt := 38) hx hb dX4_leastFor_32 (by decide) (fun _ => ?_) (fun c9 => absurd (by decide) c9)
  refine lv_iinc (v := 3) (lv' := [(4, .int 3), (0, .ref xa38), (1, .int 2), (2, .long 50000000000)]) hx hb dX4_leastFor_38 hl (k := 0) rfl (by decide) (by decide) rfl (fun ls hl => ?_)
  refine lv_goto (tgt := 8) hx hb dX4_leastFor_41 (by decide) ?_
  refine lv_iload hx hb dX4_leastFor_8 (lv_at hl 0 rfl) ?_
  refine lv_bipush (v := 60) hx hb dX4_leastFor_10 (by decide) ?_
  refine lv_icmp_gt (tgt := 44) hx hb dX4_leastFor_12 (by decide) (fun c9 => absurd c9 (by decide)) (fun _ => ?_)
  refine lv_aload_n hx hb dX4_leastFor_15 rfl (lv_at hl 1 rfl) ?_
  refine lv_iload_n hx hb dX4_leastFor_16 rfl (lv_at hl 2 rfl) ?_
  have hPc := hP.sub (ws' := [(xa38, .inr (4, [.ref xa39, .ref xa40, .int 0])), (xa39, .inl (kJ, 23, .inr (.inl g_21)))]) [0, 1] rfl
  have hDc := hD.sub (ws' := [(xa38, .inr (4, [.ref xa39, .ref xa40, .int 0])), (xa39, .inl (kJ, 23, .inr (.inl g_21)))]) [0, 1] (by decide) rfl
  have hFc := va_free (wc := [(xa38, .inr (4, [.ref xa39, .ref xa40, .int 0])), (xa39, .inl (kJ, 23, .inr (.inl g_21)))]) hD hS hA [0, 1] rfl
  refine va_callv (va_runV (As := [.int 2]) (rest := []) ⟨hx, hb, hml, hown, hts⟩ (k4_sendNext_2 l dC dI kB kI kJ kZ kC kS H.size xa38 xa39 xa40 g_21) (cwV 1 hts gX4_leastFor_X4_sendNext rfl rfl rfl (by decide +kernel) ⟨Nat.le_of_ble_eq_true rfl, Nat.le_of_ble_eq_true rfl⟩) ⟨fun a U g mk q => by obtain ⟨q0, q1, qP, qE, qD⟩ := q; exact ⟨q0, q1, qP, kE_call qE, qD⟩, va_recv hK hP (ci := 4) (q0 := 0) rfl rfl, fun U hU hW => ⟨rfl, by rw [hU], by rw [hU]; exact hPc, kE_warm hW hE, hDc.weaken (fun _ _ _ _ => trivial)⟩⟩ rfl rfl hl.1 rfl (lv_room (Nat.le_of_ble_eq_true rfl)) dX4_leastFor_17 ⟨Nat.le_of_ble_eq_true rfl, Nat.le_of_ble_eq_true rfl⟩) hS (fun q _ h => hFc q h) hFc (fun u t H1 locs ht hvm w32 hB hz1 hk1 hS => ?_)
  obtain ⟨g_33, f34, f35, f36, hP1, hD1⟩ := hB
  rw [ht] at hP1
  try dsimp only at w32
  obtain ⟨hP, hD⟩ := va_join (wr := []) (w1 := [(xa38, .inr (4, [.ref xa39, .ref xa40, .int 0])), (xa39, .inl (kJ, 23, .inr (.inl g_33)))]) hP hD [0, 1] [] rfl rfl (by decide) (by decide) hk1 hFc hP1 hD1
  generalize H1 = H at hP hS ⊢
  have hP : va_P (dC, dI) vwCl [(xa38, .inr (4, [.ref xa39, .ref xa40, .int 0])), (xa39, .inl (kJ, 23, .inr (.inl g_33)))] H := hP
  have hD : va_D A [(xa38, .inr (4, [.ref xa39, .ref xa40, .int 0])), (xa39, .inl (kJ, 23, .inr (.inl g_33)))] := hD
  refine W.widen (k := 0) (n := 0) (Nat.le_of_ble_eq_true rfl) (Nat.le_of_ble_eq_true rfl) ?_
  have hF3_0 : g_33 0 = kv2 3 0 := by rw [f34, hF2_0]; exact kvs2_0 2 (by decide)
  have hF3_1 : g_33 1 = kv2 3 1 := by rw [f35, hF2_0, hF2_1]; exact kvs2_1 2 (by decide)
  have hF3_2 : g_33 2 = kv2 3 2 := by rw [f36, hF2_1, hF2_2]; exact kvs2_2 2 (by decide)
  refine lv_ldc2 hx hb hown (hts (.constantLong RX4 23 (1000000000000)) (List.mem_of_getElem? (i := 1) (by decide +kernel))) dX4_leastFor_20 ?_
  refine lv_aload_n hx hb dX4_leastFor_23 rfl (lv_at hl 1 rfl) ?_
  refine va_get (D := (dC, dI)) (ci := 4) (v := .ref xa39) (C := RX4) (T := TX4) (N := 3) hx hb hts hin4 hown hK hP 0 rfl rfl 0 (by decide) (hts (.fieldLink RX4 9 "PathProber$Odds" "met" "[J") (List.mem_of_getElem? (i := 2) (by decide +kernel))) (fun _ h9 => h9) rfl dX4_leastFor_24 ?_
  refine lv_iload_n hx hb dX4_leastFor_27 rfl (lv_at hl 2 rfl) ?_
  refine va_lald hx hb hK hP 1 2 rfl rfl (vp_in_nI (n := 2) (by decide) (by decide)) dX4_leastFor_28 ?_
  refine lv_topl (fun z37 e38 => ?_)
  obtain rfl : z37 = (750000000000 : Int64) := e38.trans (hF3_2.trans (by decide +kernel))
  refine lv_lsub hx hb dX4_leastFor_29 ?_
  refine lv_topl (fun z39 e40 => ?_)
  obtain rfl : z39 = (250000000000 : Int64) := e40.trans (by decide)
  refine lv_lload_n hx hb dX4_leastFor_30 rfl (lv_at hl 3 rfl) ?_
  refine W.lcmp hx hb dX4_leastFor_31 ?_
  refine lv_topi (fun z41 e42 => ?_)
  obtain rfl : z41 = (1 : Int32) := e42.trans (by decide)
  refine lv_if_ge (tgt := 38) hx hb dX4_leastFor_32 (by decide) (fun _ => ?_) (fun c9 => absurd (by decide) c9)
  refine lv_iinc (v := 4) (lv' := [(4, .int 4), (0, .ref xa38), (1, .int 2), (2, .long 50000000000)]) hx hb dX4_leastFor_38 hl (k := 0) rfl (by decide) (by decide) rfl (fun ls hl => ?_)
  refine lv_goto (tgt := 8) hx hb dX4_leastFor_41 (by decide) ?_
  refine lv_iload hx hb dX4_leastFor_8 (lv_at hl 0 rfl) ?_
  refine lv_bipush (v := 60) hx hb dX4_leastFor_10 (by decide) ?_
  refine lv_icmp_gt (tgt := 44) hx hb dX4_leastFor_12 (by decide) (fun c9 => absurd c9 (by decide)) (fun _ => ?_)
  refine lv_aload_n hx hb dX4_leastFor_15 rfl (lv_at hl 1 rfl) ?_
  refine lv_iload_n hx hb dX4_leastFor_16 rfl (lv_at hl 2 rfl) ?_
  have hPc := hP.sub (ws' := [(xa38, .inr (4, [.ref xa39, .ref xa40, .int 0])), (xa39, .inl (kJ, 23, .inr (.inl g_33)))]) [0, 1] rfl
  have hDc := hD.sub (ws' := [(xa38, .inr (4, [.ref xa39, .ref xa40, .int 0])), (xa39, .inl (kJ, 23, .inr (.inl g_33)))]) [0, 1] (by decide) rfl
  have hFc := va_free (wc := [(xa38, .inr (4, [.ref xa39, .ref xa40, .int 0])), (xa39, .inl (kJ, 23, .inr (.inl g_33)))]) hD hS hA [0, 1] rfl
  refine va_callv (va_runV (As := [.int 2]) (rest := []) ⟨hx, hb, hml, hown, hts⟩ (k4_sendNext_2 l dC dI kB kI kJ kZ kC kS H.size xa38 xa39 xa40 g_33) (cwV 1 hts gX4_leastFor_X4_sendNext rfl rfl rfl (by decide +kernel) ⟨Nat.le_of_ble_eq_true rfl, Nat.le_of_ble_eq_true rfl⟩) ⟨fun a U g mk q => by obtain ⟨q0, q1, qP, qE, qD⟩ := q; exact ⟨q0, q1, qP, kE_call qE, qD⟩, va_recv hK hP (ci := 4) (q0 := 0) rfl rfl, fun U hU hW => ⟨rfl, by rw [hU], by rw [hU]; exact hPc, kE_warm hW hE, hDc.weaken (fun _ _ _ _ => trivial)⟩⟩ rfl rfl hl.1 rfl (lv_room (Nat.le_of_ble_eq_true rfl)) dX4_leastFor_17 ⟨Nat.le_of_ble_eq_true rfl, Nat.le_of_ble_eq_true rfl⟩) hS (fun q _ h => hFc q h) hFc (fun u t H1 locs ht hvm w44 hB hz1 hk1 hS => ?_)
  obtain ⟨g_45, f46, f47, f48, hP1, hD1⟩ := hB
  rw [ht] at hP1
  try dsimp only at w44
  obtain ⟨hP, hD⟩ := va_join (wr := []) (w1 := [(xa38, .inr (4, [.ref xa39, .ref xa40, .int 0])), (xa39, .inl (kJ, 23, .inr (.inl g_45)))]) hP hD [0, 1] [] rfl rfl (by decide) (by decide) hk1 hFc hP1 hD1
  generalize H1 = H at hP hS ⊢
  have hP : va_P (dC, dI) vwCl [(xa38, .inr (4, [.ref xa39, .ref xa40, .int 0])), (xa39, .inl (kJ, 23, .inr (.inl g_45)))] H := hP
  have hD : va_D A [(xa38, .inr (4, [.ref xa39, .ref xa40, .int 0])), (xa39, .inl (kJ, 23, .inr (.inl g_45)))] := hD
  refine W.widen (k := 0) (n := 0) (Nat.le_of_ble_eq_true rfl) (Nat.le_of_ble_eq_true rfl) ?_
  have hF4_0 : g_45 0 = kv2 4 0 := by rw [f46, hF3_0]; exact kvs2_0 3 (by decide)
  have hF4_1 : g_45 1 = kv2 4 1 := by rw [f47, hF3_0, hF3_1]; exact kvs2_1 3 (by decide)
  have hF4_2 : g_45 2 = kv2 4 2 := by rw [f48, hF3_1, hF3_2]; exact kvs2_2 3 (by decide)
  refine lv_ldc2 hx hb hown (hts (.constantLong RX4 23 (1000000000000)) (List.mem_of_getElem? (i := 1) (by decide +kernel))) dX4_leastFor_20 ?_
  refine lv_aload_n hx hb dX4_leastFor_23 rfl (lv_at hl 1 rfl) ?_
  refine va_get (D := (dC, dI)) (ci := 4) (v := .ref xa39) (C := RX4) (T := TX4) (N := 3) hx hb hts hin4 hown hK hP 0 rfl rfl 0 (by decide) (hts (.fieldLink RX4 9 "PathProber$Odds" "met" "[J") (List.mem_of_getElem? (i := 2) (by decide +kernel))) (fun _ h9 => h9) rfl dX4_leastFor_24 ?_
  refine lv_iload_n hx hb dX4_leastFor_27 rfl (lv_at hl 2 rfl) ?_
  refine va_lald hx hb hK hP 1 2 rfl rfl (vp_in_nI (n := 2) (by decide) (by decide)) dX4_leastFor_28 ?_
  refine lv_topl (fun z49 e50 => ?_)
  obtain rfl : z49 = (875000000000 : Int64) := e50.trans (hF4_2.trans (by decide +kernel))
  refine lv_lsub hx hb dX4_leastFor_29 ?_
  refine lv_topl (fun z51 e52 => ?_)
  obtain rfl : z51 = (125000000000 : Int64) := e52.trans (by decide)
  refine lv_lload_n hx hb dX4_leastFor_30 rfl (lv_at hl 3 rfl) ?_
  refine W.lcmp hx hb dX4_leastFor_31 ?_
  refine lv_topi (fun z53 e54 => ?_)
  obtain rfl : z53 = (1 : Int32) := e54.trans (by decide)
  refine lv_if_ge (tgt := 38) hx hb dX4_leastFor_32 (by decide) (fun _ => ?_) (fun c9 => absurd (by decide) c9)
  refine lv_iinc (v := 5) (lv' := [(4, .int 5), (0, .ref xa38), (1, .int 2), (2, .long 50000000000)]) hx hb dX4_leastFor_38 hl (k := 0) rfl (by decide) (by decide) rfl (fun ls hl => ?_)
  refine lv_goto (tgt := 8) hx hb dX4_leastFor_41 (by decide) ?_
  refine lv_iload hx hb dX4_leastFor_8 (lv_at hl 0 rfl) ?_
  refine lv_bipush (v := 60) hx hb dX4_leastFor_10 (by decide) ?_
  refine lv_icmp_gt (tgt := 44) hx hb dX4_leastFor_12 (by decide) (fun c9 => absurd c9 (by decide)) (fun _ => ?_)
  refine lv_aload_n hx hb dX4_leastFor_15 rfl (lv_at hl 1 rfl) ?_
  refine lv_iload_n hx hb dX4_leastFor_16 rfl (lv_at hl 2 rfl) ?_
  have hPc := hP.sub (ws' := [(xa38, .inr (4, [.ref xa39, .ref xa40, .int 0])), (xa39, .inl (kJ, 23, .inr (.inl g_45)))]) [0, 1] rfl
  have hDc := hD.sub (ws' := [(xa38, .inr (4, [.ref xa39, .ref xa40, .int 0])), (xa39, .inl (kJ, 23, .inr (.inl g_45)))]) [0, 1] (by decide) rfl
  have hFc := va_free (wc := [(xa38, .inr (4, [.ref xa39, .ref xa40, .int 0])), (xa39, .inl (kJ, 23, .inr (.inl g_45)))]) hD hS hA [0, 1] rfl
  refine va_callv (va_runV (As := [.int 2]) (rest := []) ⟨hx, hb, hml, hown, hts⟩ (k4_sendNext_2 l dC dI kB kI kJ kZ kC kS H.size xa38 xa39 xa40 g_45) (cwV 1 hts gX4_leastFor_X4_sendNext rfl rfl rfl (by decide +kernel) ⟨Nat.le_of_ble_eq_true rfl, Nat.le_of_ble_eq_true rfl⟩) ⟨fun a U g mk q => by obtain ⟨q0, q1, qP, qE, qD⟩ := q; exact ⟨q0, q1, qP, kE_call qE, qD⟩, va_recv hK hP (ci := 4) (q0 := 0) rfl rfl, fun U hU hW => ⟨rfl, by rw [hU], by rw [hU]; exact hPc, kE_warm hW hE, hDc.weaken (fun _ _ _ _ => trivial)⟩⟩ rfl rfl hl.1 rfl (lv_room (Nat.le_of_ble_eq_true rfl)) dX4_leastFor_17 ⟨Nat.le_of_ble_eq_true rfl, Nat.le_of_ble_eq_true rfl⟩) hS (fun q _ h => hFc q h) hFc (fun u t H1 locs ht hvm w56 hB hz1 hk1 hS => ?_)
  obtain ⟨g_57, f58, f59, f60, hP1, hD1⟩ := hB
  rw [ht] at hP1
  try dsimp only at w56
  obtain ⟨hP, hD⟩ := va_join (wr := []) (w1 := [(xa38, .inr (4, [.ref xa39, .ref xa40, .int 0])), (xa39, .inl (kJ, 23, .inr (.inl g_57)))]) hP hD [0, 1] [] rfl rfl (by decide) (by decide) hk1 hFc hP1 hD1
  generalize H1 = H at hP hS ⊢
  have hP : va_P (dC, dI) vwCl [(xa38, .inr (4, [.ref xa39, .ref xa40, .int 0])), (xa39, .inl (kJ, 23, .inr (.inl g_57)))] H := hP
  have hD : va_D A [(xa38, .inr (4, [.ref xa39, .ref xa40, .int 0])), (xa39, .inl (kJ, 23, .inr (.inl g_57)))] := hD
  refine W.widen (k := 0) (n := 0) (Nat.le_of_ble_eq_true rfl) (Nat.le_of_ble_eq_true rfl) ?_
  have hF5_0 : g_57 0 = kv2 5 0 := by rw [f58, hF4_0]; exact kvs2_0 4 (by decide)
  have hF5_1 : g_57 1 = kv2 5 1 := by rw [f59, hF4_0, hF4_1]; exact kvs2_1 4 (by decide)
  have hF5_2 : g_57 2 = kv2 5 2 := by rw [f60, hF4_1, hF4_2]; exact kvs2_2 4 (by decide)
  refine lv_ldc2 hx hb hown (hts (.constantLong RX4 23 (1000000000000)) (List.mem_of_getElem? (i := 1) (by decide +kernel))) dX4_leastFor_20 ?_
  refine lv_aload_n hx hb dX4_leastFor_23 rfl (lv_at hl 1 rfl) ?_
  refine va_get (D := (dC, dI)) (ci := 4) (v := .ref xa39) (C := RX4) (T := TX4) (N := 3) hx hb hts hin4 hown hK hP 0 rfl rfl 0 (by decide) (hts (.fieldLink RX4 9 "PathProber$Odds" "met" "[J") (List.mem_of_getElem? (i := 2) (by decide +kernel))) (fun _ h9 => h9) rfl dX4_leastFor_24 ?_
  refine lv_iload_n hx hb dX4_leastFor_27 rfl (lv_at hl 2 rfl) ?_
  refine va_lald hx hb hK hP 1 2 rfl rfl (vp_in_nI (n := 2) (by decide) (by decide)) dX4_leastFor_28 ?_
  refine lv_topl (fun z61 e62 => ?_)
  obtain rfl : z61 = (937500000000 : Int64) := e62.trans (hF5_2.trans (by decide +kernel))
  refine lv_lsub hx hb dX4_leastFor_29 ?_
  refine lv_topl (fun z63 e64 => ?_)
  obtain rfl : z63 = (62500000000 : Int64) := e64.trans (by decide)
  refine lv_lload_n hx hb dX4_leastFor_30 rfl (lv_at hl 3 rfl) ?_
  refine W.lcmp hx hb dX4_leastFor_31 ?_
  refine lv_topi (fun z65 e66 => ?_)
  obtain rfl : z65 = (1 : Int32) := e66.trans (by decide)
  refine lv_if_ge (tgt := 38) hx hb dX4_leastFor_32 (by decide) (fun _ => ?_) (fun c9 => absurd (by decide) c9)
  refine lv_iinc (v := 6) (lv' := [(4, .int 6), (0, .ref xa38), (1, .int 2), (2, .long 50000000000)]) hx hb dX4_leastFor_38 hl (k := 0) rfl (by decide) (by decide) rfl (fun ls hl => ?_)
  refine lv_goto (tgt := 8) hx hb dX4_leastFor_41 (by decide) ?_
  refine lv_iload hx hb dX4_leastFor_8 (lv_at hl 0 rfl) ?_
  refine lv_bipush (v := 60) hx hb dX4_leastFor_10 (by decide) ?_
  refine lv_icmp_gt (tgt := 44) hx hb dX4_leastFor_12 (by decide) (fun c9 => absurd c9 (by decide)) (fun _ => ?_)
  refine lv_aload_n hx hb dX4_leastFor_15 rfl (lv_at hl 1 rfl) ?_
  refine lv_iload_n hx hb dX4_leastFor_16 rfl (lv_at hl 2 rfl) ?_
  have hPc := hP.sub (ws' := [(xa38, .inr (4, [.ref xa39, .ref xa40, .int 0])), (xa39, .inl (kJ, 23, .inr (.inl g_57)))]) [0, 1] rfl
  have hDc := hD.sub (ws' := [(xa38, .inr (4, [.ref xa39, .ref xa40, .int 0])), (xa39, .inl (kJ, 23, .inr (.inl g_57)))]) [0, 1] (by decide) rfl
  have hFc := va_free (wc := [(xa38, .inr (4, [.ref xa39, .ref xa40, .int 0])), (xa39, .inl (kJ, 23, .inr (.inl g_57)))]) hD hS hA [0, 1] rfl
  refine va_callv (va_runV (As := [.int 2]) (rest := []) ⟨hx, hb, hml, hown, hts⟩ (k4_sendNext_2 l dC dI kB kI kJ kZ kC kS H.size xa38 xa39 xa40 g_57) (cwV 1 hts gX4_leastFor_X4_sendNext rfl rfl rfl (by decide +kernel) ⟨Nat.le_of_ble_eq_true rfl, Nat.le_of_ble_eq_true rfl⟩) ⟨fun a U g mk q => by obtain ⟨q0, q1, qP, qE, qD⟩ := q; exact ⟨q0, q1, qP, kE_call qE, qD⟩, va_recv hK hP (ci := 4) (q0 := 0) rfl rfl, fun U hU hW => ⟨rfl, by rw [hU], by rw [hU]; exact hPc, kE_warm hW hE, hDc.weaken (fun _ _ _ _ => trivial)⟩⟩ rfl rfl hl.1 rfl (lv_room (Nat.le_of_ble_eq_true rfl)) dX4_leastFor_17 ⟨Nat.le_of_ble_eq_true rfl, Nat.le_of_ble_eq_true rfl⟩) hS (fun q _ h => hFc q h) hFc (fun u t H1 locs ht hvm w68 hB hz1 hk1 hS => ?_)
  obtain ⟨g_69, f70, f71, f72, hP1, hD1⟩ := hB
  rw [ht] at hP1
  try dsimp only at w68
  obtain ⟨hP, hD⟩ := va_join (wr := []) (w1 := [(xa38, .inr (4, [.ref xa39, .ref xa40, .int 0])), (xa39, .inl (kJ, 23, .inr (.inl g_69)))]) hP hD [0, 1] [] rfl rfl (by decide) (by decide) hk1 hFc hP1 hD1
  generalize H1 = H at hP hS ⊢
  have hP : va_P (dC, dI) vwCl [(xa38, .inr (4, [.ref xa39, .ref xa40, .int 0])), (xa39, .inl (kJ, 23, .inr (.inl g_69)))] H := hP
  have hD : va_D A [(xa38, .inr (4, [.ref xa39, .ref xa40, .int 0])), (xa39, .inl (kJ, 23, .inr (.inl g_69)))] := hD
  refine W.widen (k := 0) (n := 0) (Nat.le_of_ble_eq_true rfl) (Nat.le_of_ble_eq_true rfl) ?_
  have hF6_0 : g_69 0 = kv2 6 0 := by rw [f70, hF5_0]; exact kvs2_0 5 (by decide)
  have hF6_1 : g_69 1 = kv2 6 1 := by rw [f71, hF5_0, hF5_1]; exact kvs2_1 5 (by decide)
  have hF6_2 : g_69 2 = kv2 6 2 := by rw [f72, hF5_1, hF5_2]; exact kvs2_2 5 (by decide)
  refine lv_ldc2 hx hb hown (hts (.constantLong RX4 23 (1000000000000)) (List.mem_of_getElem? (i := 1) (by decide +kernel))) dX4_leastFor_20 ?_
  refine lv_aload_n hx hb dX4_leastFor_23 rfl (lv_at hl 1 rfl) ?_
  refine va_get (D := (dC, dI)) (ci := 4) (v := .ref xa39) (C := RX4) (T := TX4) (N := 3) hx hb hts hin4 hown hK hP 0 rfl rfl 0 (by decide) (hts (.fieldLink RX4 9 "PathProber$Odds" "met" "[J") (List.mem_of_getElem? (i := 2) (by decide +kernel))) (fun _ h9 => h9) rfl dX4_leastFor_24 ?_
  refine lv_iload_n hx hb dX4_leastFor_27 rfl (lv_at hl 2 rfl) ?_
  refine va_lald hx hb hK hP 1 2 rfl rfl (vp_in_nI (n := 2) (by decide) (by decide)) dX4_leastFor_28 ?_
  refine lv_topl (fun z73 e74 => ?_)
  obtain rfl : z73 = (968750000000 : Int64) := e74.trans (hF6_2.trans (by decide +kernel))
  refine lv_lsub hx hb dX4_leastFor_29 ?_
  refine lv_topl (fun z75 e76 => ?_)
  obtain rfl : z75 = (31250000000 : Int64) := e76.trans (by decide)
  refine lv_lload_n hx hb dX4_leastFor_30 rfl (lv_at hl 3 rfl) ?_
  refine W.lcmp hx hb dX4_leastFor_31 ?_
  refine lv_topi (fun z77 e78 => ?_)
  obtain rfl : z77 = ((-1) : Int32) := e78.trans (by decide)
  refine lv_if_ge (tgt := 38) hx hb dX4_leastFor_32 (by decide) (fun c9 => absurd c9 (by decide)) (fun _ => ?_)
  refine lv_iload hx hb dX4_leastFor_35 (lv_at hl 0 rfl) ?_
  have hP9 := hP.sub (ws' := [(xa38, .inr (4, [.ref xa39, .ref xa40, .int 0])), (xa39, .inl (kJ, 23, .inr (.inl g_69)))]) [0, 1] rfl
  have hD9 := hD.sub (ws' := [(xa38, .inr (4, [.ref xa39, .ref xa40, .int 0])), (xa39, .inl (kJ, 23, .inr (.inl g_69)))]) [0, 1] (by decide) rfl
  exact W.iret (v := 6) hx hb hr (fun t ht hW => ⟨⟨6, (), rfl, rfl, g_69, by rw [ht]; exact hP9, hD9⟩, hS.F ht⟩) hS.2.2 dX4_leastFor_37
def rm_k4_leastFor_3 : Room := { frames := 1, cells := 0, slots := 0, locals := 24 }
set_option maxHeartbeats 4000000 in
set_option maxRecDepth 100000 in
theorem k4_leastFor_3 (l : Launch) (dC : Nat → ClassId) (dI : Nat → Nat → Nat) (kB kI kJ kZ kC kS : ClassId) (sz : Nat) (xa38 : Nat) (xa39 : Nat) (xa40 : Nat) (f1 : Nat → Int64) : Met l yX4_leastFor wsX4_leastFor rm_k4_leastFor_3 (va_Pc [.ref xa38, .int 3, .long 50000000000] (fun U => U.heap.size = sz ∧ va_P (dC, dI) vwCl [(xa38, .inr (4, [.ref xa39, .ref xa40, .int 0])), (xa39, .inl (kJ, 23, .inr (.inl f1)))] U.heap ∧ kE dC dI kB kI kJ kZ kC kS U ∧ va_D (fun _ => True) [(xa38, .inr (4, [.ref xa39, .ref xa40, .int 0])), (xa39, .inl (kJ, 23, .inr (.inl f1)))])) (va_Qi (fun (r : Int32) (_ : Unit) => r = 11) (fun _ t => ∃ (g1 : Nat → Int64), va_P (dC, dI) vwCl [(xa38, .inr (4, [.ref xa39, .ref xa40, .int 0])), (xa39, .inl (kJ, 23, .inr (.inl g1)))] t.heap ∧ va_D (va_A [(xa38, .inr (4, [.ref xa39, .ref xa40, .int 0])), (xa39, .inl (kJ, 23, .inr (.inl f1)))] sz) [(xa38, .inr (4, [.ref xa39, .ref xa40, .int 0])), (xa39, .inl (kJ, 23, .inr (.inl g1)))]) (va_A [(xa38, .inr (4, [.ref xa39, .ref xa40, .int 0])), (xa39, .inl (kJ, 23, .inr (.inl f1)))] sz)) 0 0 (va_A [(xa38, .inr (4, [.ref xa39, .ref xa40, .int 0])), (xa39, .inl (kJ, 23, .inr (.inl f1)))] sz) := by
  refine Met.ofW (cc := cX4_leastFor) (maxL := 5) (ret := (some .int)) (by decide) rfl ?_
  intro p e s m args0 below meth c s₁ B hml hv
  obtain ⟨hargs, hsz, hP, hE, hD0⟩ := hv
  have hx := B.exec
  have hb := B.bytes
  have hr := B.returns
  have hts := atoms_spec (ws := wsX4_leastFor) B.pre
  have hown : s.vm.findClass RX4 = some m.cls := findClass_of_methodNamed B.named
  have hlocks := B.notSynchronized
  have hK := hE.1
  have hin4 : ∀ w ∈ wsX40, w ∈ wsX4_leastFor := fun _ h9 => List.mem_cons_of_mem _ (List.mem_append_right _ h9)
  subst hsz
  have hD := hD0.self (sz := s.heap.size)
  generalize hAe : va_A [(xa38, .inr (4, [.ref xa39, .ref xa40, .int 0])), (xa39, .inl (kJ, 23, .inr (.inl f1)))] s.heap.size = A at hD ⊢
  have hA : ∀ q : Nat, s.heap.size ≤ q → A q := fun q h => by rw [← hAe]; exact Or.inr h
  have hS : va_S A s.heap s.heap [] := va_S.rf
  have hP : va_P (dC, dI) vwCl [(xa38, .inr (4, [.ref xa39, .ref xa40, .int 0])), (xa39, .inl (kJ, 23, .inr (.inl f1)))] s.heap := hP
  have hl := lv_entry ([.ref xa38, .int 3, .long 50000000000]) (n := 5) (Nat.le_of_ble_eq_true rfl)
  have hla : entryFrame m args0 5 = entryFrame m ([.ref xa38, .int 3, .long 50000000000] : List Value).toArray 5 := by rw [hargs]
  rw [hla, lg_entry_eq]
  generalize (lg_sl ([.ref xa38, .int 3, .long 50000000000]) ++ List.replicate (5 - (lg_sl ([.ref xa38, .int 3, .long 50000000000])).length) Slot.unset).toArray = ls at hl ⊢
  have hl : lv_has ls 5 [(0, .ref xa38), (1, .int 3), (2, .long 50000000000)] := hl
  refine lv_aload_n hx hb dX4_leastFor_0 rfl (lv_at hl 0 rfl) ?_
  refine lv_iload_n hx hb dX4_leastFor_1 rfl (lv_at hl 1 rfl) ?_
  have hPc := hP.sub (ws' := [(xa38, .inr (4, [.ref xa39, .ref xa40, .int 0])), (xa39, .inl (kJ, 23, .inr (.inl f1)))]) [0, 1] rfl
  have hDc := hD.sub (ws' := [(xa38, .inr (4, [.ref xa39, .ref xa40, .int 0])), (xa39, .inl (kJ, 23, .inr (.inl f1)))]) [0, 1] (by decide) rfl
  have hFc := va_free (wc := [(xa38, .inr (4, [.ref xa39, .ref xa40, .int 0])), (xa39, .inl (kJ, 23, .inr (.inl f1)))]) hD hS hA [0, 1] rfl
  refine va_callv (va_runV (As := [.int 3]) (rest := []) ⟨hx, hb, hml, hown, hts⟩ (k4_begin_3 l dC dI kB kI kJ kZ kC kS s.heap.size xa38 xa39 xa40 f1) (cwV 1 hts gX4_leastFor_X4_begin rfl rfl rfl (by decide +kernel) ⟨Nat.le_of_ble_eq_true rfl, Nat.le_of_ble_eq_true rfl⟩) ⟨fun a U g mk q => by obtain ⟨q0, q1, qP, qE, qD⟩ := q; exact ⟨q0, q1, qP, kE_call qE, qD⟩, va_recv hK hP (ci := 4) (q0 := 0) rfl rfl, fun U hU hW => ⟨rfl, by rw [hU], by rw [hU]; exact hPc, kE_warm hW hE, hDc.weaken (fun _ _ _ _ => trivial)⟩⟩ rfl rfl hl.1 rfl (lv_room (Nat.le_of_ble_eq_true rfl)) dX4_leastFor_2 ⟨Nat.le_of_ble_eq_true rfl, Nat.le_of_ble_eq_true rfl⟩) hS (fun q _ h => hFc q h) hFc (fun u t H1 locs ht hvm w2 hB hz1 hk1 hS => ?_)
  obtain ⟨g_3, f4, f5, f6, f7, hP1, hD1⟩ := hB
  rw [ht] at hP1
  try dsimp only at w2
  obtain ⟨hP, hD⟩ := va_join (wr := []) (w1 := [(xa38, .inr (4, [.ref xa39, .ref xa40, .int 0])), (xa39, .inl (kJ, 23, .inr (.inl g_3)))]) hP hD [0, 1] [] rfl rfl (by decide) (by decide) hk1 hFc hP1 hD1
  generalize H1 = H at hP hS ⊢
  have hP : va_P (dC, dI) vwCl [(xa38, .inr (4, [.ref xa39, .ref xa40, .int 0])), (xa39, .inl (kJ, 23, .inr (.inl g_3)))] H := hP
  have hD : va_D A [(xa38, .inr (4, [.ref xa39, .ref xa40, .int 0])), (xa39, .inl (kJ, 23, .inr (.inl g_3)))] := hD
  refine W.widen (k := 0) (n := 0) (Nat.le_of_ble_eq_true rfl) (Nat.le_of_ble_eq_true rfl) ?_
  refine lv_iconst (v := 1) hx hb dX4_leastFor_5 (by decide) ?_
  refine lv_istore (lv' := [(4, .int 1), (0, .ref xa38), (1, .int 3), (2, .long 50000000000)]) hx hb dX4_leastFor_6 hl (by decide) rfl (fun ls hl => ?_)
  refine lv_iload hx hb dX4_leastFor_8 (lv_at hl 0 rfl) ?_
  refine lv_bipush (v := 60) hx hb dX4_leastFor_10 (by decide) ?_
  refine lv_icmp_gt (tgt := 44) hx hb dX4_leastFor_12 (by decide) (fun c9 => absurd c9 (by decide)) (fun _ => ?_)
  refine lv_aload_n hx hb dX4_leastFor_15 rfl (lv_at hl 1 rfl) ?_
  refine lv_iload_n hx hb dX4_leastFor_16 rfl (lv_at hl 2 rfl) ?_
  have hPc := hP.sub (ws' := [(xa38, .inr (4, [.ref xa39, .ref xa40, .int 0])), (xa39, .inl (kJ, 23, .inr (.inl g_3)))]) [0, 1] rfl
  have hDc := hD.sub (ws' := [(xa38, .inr (4, [.ref xa39, .ref xa40, .int 0])), (xa39, .inl (kJ, 23, .inr (.inl g_3)))]) [0, 1] (by decide) rfl
  have hFc := va_free (wc := [(xa38, .inr (4, [.ref xa39, .ref xa40, .int 0])), (xa39, .inl (kJ, 23, .inr (.inl g_3)))]) hD hS hA [0, 1] rfl
  refine va_callv (va_runV (As := [.int 3]) (rest := []) ⟨hx, hb, hml, hown, hts⟩ (k4_sendNext_3 l dC dI kB kI kJ kZ kC kS H.size xa38 xa39 xa40 g_3) (cwV 1 hts gX4_leastFor_X4_sendNext rfl rfl rfl (by decide +kernel) ⟨Nat.le_of_ble_eq_true rfl, Nat.le_of_ble_eq_true rfl⟩) ⟨fun a U g mk q => by obtain ⟨q0, q1, qP, qE, qD⟩ := q; exact ⟨q0, q1, qP, kE_call qE, qD⟩, va_recv hK hP (ci := 4) (q0 := 0) rfl rfl, fun U hU hW => ⟨rfl, by rw [hU], by rw [hU]; exact hPc, kE_warm hW hE, hDc.weaken (fun _ _ _ _ => trivial)⟩⟩ rfl rfl hl.1 rfl (lv_room (Nat.le_of_ble_eq_true rfl)) dX4_leastFor_17 ⟨Nat.le_of_ble_eq_true rfl, Nat.le_of_ble_eq_true rfl⟩) hS (fun q _ h => hFc q h) hFc (fun u t H1 locs ht hvm w9 hB hz1 hk1 hS => ?_)
  obtain ⟨g_10, f11, f12, f13, f14, hP1, hD1⟩ := hB
  rw [ht] at hP1
  try dsimp only at w9
  obtain ⟨hP, hD⟩ := va_join (wr := []) (w1 := [(xa38, .inr (4, [.ref xa39, .ref xa40, .int 0])), (xa39, .inl (kJ, 23, .inr (.inl g_10)))]) hP hD [0, 1] [] rfl rfl (by decide) (by decide) hk1 hFc hP1 hD1
  generalize H1 = H at hP hS ⊢
  have hP : va_P (dC, dI) vwCl [(xa38, .inr (4, [.ref xa39, .ref xa40, .int 0])), (xa39, .inl (kJ, 23, .inr (.inl g_10)))] H := hP
  have hD : va_D A [(xa38, .inr (4, [.ref xa39, .ref xa40, .int 0])), (xa39, .inl (kJ, 23, .inr (.inl g_10)))] := hD
  refine W.widen (k := 0) (n := 0) (Nat.le_of_ble_eq_true rfl) (Nat.le_of_ble_eq_true rfl) ?_
  have hF1_0 : g_10 0 = kv3 1 0 := by rw [f11, f4]; exact kvs3_0 0 (by decide)
  have hF1_1 : g_10 1 = kv3 1 1 := by rw [f12, f4, f5]; exact kvs3_1 0 (by decide)
  have hF1_2 : g_10 2 = kv3 1 2 := by rw [f13, f5, f6]; exact kvs3_2 0 (by decide)
  have hF1_3 : g_10 3 = kv3 1 3 := by rw [f14, f6, f7]; exact kvs3_3 0 (by decide)
  refine lv_ldc2 hx hb hown (hts (.constantLong RX4 23 (1000000000000)) (List.mem_of_getElem? (i := 1) (by decide +kernel))) dX4_leastFor_20 ?_
  refine lv_aload_n hx hb dX4_leastFor_23 rfl (lv_at hl 1 rfl) ?_
  refine va_get (D := (dC, dI)) (ci := 4) (v := .ref xa39) (C := RX4) (T := TX4) (N := 3) hx hb hts hin4 hown hK hP 0 rfl rfl 0 (by decide) (hts (.fieldLink RX4 9 "PathProber$Odds" "met" "[J") (List.mem_of_getElem? (i := 2) (by decide +kernel))) (fun _ h9 => h9) rfl dX4_leastFor_24 ?_
  refine lv_iload_n hx hb dX4_leastFor_27 rfl (lv_at hl 2 rfl) ?_
  refine va_lald hx hb hK hP 1 2 rfl rfl (vp_in_nI (n := 3) (by decide) (by decide)) dX4_leastFor_28 ?_
  refine lv_topl (fun z15 e16 => ?_)
  obtain rfl : z15 = (0 : Int64) := e16.trans (hF1_3.trans (by decide +kernel))
  refine lv_lsub hx hb dX4_leastFor_29 ?_
  refine lv_topl (fun z17 e18 => ?_)
  obtain rfl : z17 = (1000000000000 : Int64) := e18.trans (by decide)
  refine lv_lload_n hx hb dX4_leastFor_30 rfl (lv_at hl 3 rfl) ?_
  refine W.lcmp hx hb dX4_leastFor_31 ?_
  refine lv_topi (fun z19 e20 => ?_)
  obtain rfl : z19 = (1 : Int32) := e20.trans (by decide)
  refine lv_if_ge (tgt := 38) hx hb dX4_leastFor_32 (by decide) (fun _ => ?_) (fun c9 => absurd (by decide) c9)
  refine lv_iinc (v := 2) (lv' := [(4, .int 2), (0, .ref xa38), (1, .int 3), (2, .long 50000000000)]) hx hb dX4_leastFor_38 hl (k := 0) rfl (by decide) (by decide) rfl (fun ls hl => ?_)
  refine lv_goto (tgt := 8) hx hb dX4_leastFor_41 (by decide) ?_
  refine lv_iload hx hb dX4_leastFor_8 (lv_at hl 0 rfl) ?_
  refine lv_bipush (v := 60) hx hb dX4_leastFor_10 (by decide) ?_
  refine lv_icmp_gt (tgt := 44) hx hb dX4_leastFor_12 (by decide) (fun c9 => absurd c9 (by decide)) (fun _ => ?_)
  refine lv_aload_n hx hb dX4_leastFor_15 rfl (lv_at hl 1 rfl) ?_
  refine lv_iload_n hx hb dX4_leastFor_16 rfl (lv_at hl 2 rfl) ?_
  have hPc := hP.sub (ws' := [(xa38, .inr (4, [.ref xa39, .ref xa40, .int 0])), (xa39, .inl (kJ, 23, .inr (.inl g_10)))]) [0, 1] rfl
  have hDc := hD.sub (ws' := [(xa38, .inr (4, [.ref xa39, .ref xa40, .int 0])), (xa39, .inl (kJ, 23, .inr (.inl g_10)))]) [0, 1] (by decide) rfl
  have hFc := va_free (wc := [(xa38, .inr (4, [.ref xa39, .ref xa40, .int 0])), (xa39, .inl (kJ, 23, .inr (.inl g_10)))]) hD hS hA [0, 1] rfl
  refine va_callv (va_runV (As := [.int 3]) (rest := []) ⟨hx, hb, hml, hown, hts⟩ (k4_sendNext_3 l dC dI kB kI kJ kZ kC kS H.size xa38 xa39 xa40 g_10) (cwV 1 hts gX4_leastFor_X4_sendNext rfl rfl rfl (by decide +kernel) ⟨Nat.le_of_ble_eq_true rfl, Nat.le_of_ble_eq_true rfl⟩) ⟨fun a U g mk q => by obtain ⟨q0, q1, qP, qE, qD⟩ := q; exact ⟨q0, q1, qP, kE_call qE, qD⟩, va_recv hK hP (ci := 4) (q0 := 0) rfl rfl, fun U hU hW => ⟨rfl, by rw [hU], by rw [hU]; exact hPc, kE_warm hW hE, hDc.weaken (fun _ _ _ _ => trivial)⟩⟩ rfl rfl hl.1 rfl (lv_room (Nat.le_of_ble_eq_true rfl)) dX4_leastFor_17 ⟨Nat.le_of_ble_eq_true rfl, Nat.le_of_ble_eq_true rfl⟩) hS (fun q _ h => hFc q h) hFc (fun u t H1 locs ht hvm w22 hB hz1 hk1 hS => ?_)
  obtain ⟨g_23, f24, f25, f26, f27, hP1, hD1⟩ := hB
  rw [ht] at hP1
  try dsimp only at w22
  obtain ⟨hP, hD⟩ := va_join (wr := []) (w1 := [(xa38, .inr (4, [.ref xa39, .ref xa40, .int 0])), (xa39, .inl (kJ, 23, .inr (.inl g_23)))]) hP hD [0, 1] [] rfl rfl (by decide) (by decide) hk1 hFc hP1 hD1
  generalize H1 = H at hP hS ⊢
  have hP : va_P (dC, dI) vwCl [(xa38, .inr (4, [.ref xa39, .ref xa40, .int 0])), (xa39, .inl (kJ, 23, .inr (.inl g_23)))] H := hP
  have hD : va_D A [(xa38, .inr (4, [.ref xa39, .ref xa40, .int 0])), (xa39, .inl (kJ, 23, .inr (.inl g_23)))] := hD
  refine W.widen (k := 0) (n := 0) (Nat.le_of_ble_eq_true rfl) (Nat.le_of_ble_eq_true rfl) ?_
  have hF2_0 : g_23 0 = kv3 2 0 := by rw [f24, hF1_0]; exact kvs3_0 1 (by decide)
  have hF2_1 : g_23 1 = kv3 2 1 := by rw [f25, hF1_0, hF1_1]; exact kvs3_1 1 (by decide)
  have hF2_2 : g_23 2 = kv3 2 2 := by rw [f26, hF1_1, hF1_2]; exact kvs3_2 1 (by decide)
  have hF2_3 : g_23 3 = kv3 2 3 := by rw [f27, hF1_2, hF1_3]; exact kvs3_3 1 (by decide)
  refine lv_ldc2 hx hb hown (hts (.constantLong RX4 23 (1000000000000)) (List.mem_of_getElem? (i := 1) (by decide +kernel))) dX4_leastFor_20 ?_
  refine lv_aload_n hx hb dX4_leastFor_23 rfl (lv_at hl 1 rfl) ?_
  refine va_get (D := (dC, dI)) (ci := 4) (v := .ref xa39) (C := RX4) (T := TX4) (N := 3) hx hb hts hin4 hown hK hP 0 rfl rfl 0 (by decide) (hts (.fieldLink RX4 9 "PathProber$Odds" "met" "[J") (List.mem_of_getElem? (i := 2) (by decide +kernel))) (fun _ h9 => h9) rfl dX4_leastFor_24 ?_
  refine lv_iload_n hx hb dX4_leastFor_27 rfl (lv_at hl 2 rfl) ?_
  refine va_lald hx hb hK hP 1 2 rfl rfl (vp_in_nI (n := 3) (by decide) (by decide)) dX4_leastFor_28 ?_
  refine lv_topl (fun z28 e29 => ?_)
  obtain rfl : z28 = (0 : Int64) := e29.trans (hF2_3.trans (by decide +kernel))
  refine lv_lsub hx hb dX4_leastFor_29 ?_
  refine lv_topl (fun z30 e31 => ?_)
  obtain rfl : z30 = (1000000000000 : Int64) := e31.trans (by decide)
  refine lv_lload_n hx hb dX4_leastFor_30 rfl (lv_at hl 3 rfl) ?_
  refine W.lcmp hx hb dX4_leastFor_31 ?_
  refine lv_topi (fun z32 e33 => ?_)
  obtain rfl : z32 = (1 : Int32) := e33.trans (by decide)
  refine lv_if_ge (tgt := 38) hx hb dX4_leastFor_32 (by decide) (fun _ => ?_) (fun c9 => absurd (by decide) c9)
  refine lv_iinc (v := 3) (lv' := [(4, .int 3), (0, .ref xa38), (1, .int 3), (2, .long 50000000000)]) hx hb dX4_leastFor_38 hl (k := 0) rfl (by decide) (by decide) rfl (fun ls hl => ?_)
  refine lv_goto (tgt := 8) hx hb dX4_leastFor_41 (by decide) ?_
  refine lv_iload hx hb dX4_leastFor_8 (lv_at hl 0 rfl) ?_
  refine lv_bipush (v := 60) hx hb dX4_leastFor_10 (by decide) ?_
  refine lv_icmp_gt (tgt := 44) hx hb dX4_leastFor_12 (by decide) (fun c9 => absurd c9 (by decide)) (fun _ => ?_)
  refine lv_aload_n hx hb dX4_leastFor_15 rfl (lv_at hl 1 rfl) ?_
  refine lv_iload_n hx hb dX4_leastFor_16 rfl (lv_at hl 2 rfl) ?_
  have hPc := hP.sub (ws' := [(xa38, .inr (4, [.ref xa39, .ref xa40, .int 0])), (xa39, .inl (kJ, 23, .inr (.inl g_23)))]) [0, 1] rfl
  have hDc := hD.sub (ws' := [(xa38, .inr (4, [.ref xa39, .ref xa40, .int 0])), (xa39, .inl (kJ, 23, .inr (.inl g_23)))]) [0, 1] (by decide) rfl
  have hFc := va_free (wc := [(xa38, .inr (4, [.ref xa39, .ref xa40, .int 0])), (xa39, .inl (kJ, 23, .inr (.inl g_23)))]) hD hS hA [0, 1] rfl
  refine va_callv (va_runV (As := [.int 3]) (rest := []) ⟨hx, hb, hml, hown, hts⟩ (k4_sendNext_3 l dC dI kB kI kJ kZ kC kS H.size xa38 xa39 xa40 g_23) (cwV 1 hts gX4_leastFor_X4_sendNext rfl rfl rfl (by decide +kernel) ⟨Nat.le_of_ble_eq_true rfl, Nat.le_of_ble_eq_true rfl⟩) ⟨fun a U g mk q => by obtain ⟨q0, q1, qP, qE, qD⟩ := q; exact ⟨q0, q1, qP, kE_call qE, qD⟩, va_recv hK hP (ci := 4) (q0 := 0) rfl rfl, fun U hU hW => ⟨rfl, by rw [hU], by rw [hU]; exact hPc, kE_warm hW hE, hDc.weaken (fun _ _ _ _ => trivial)⟩⟩ rfl rfl hl.1 rfl (lv_room (Nat.le_of_ble_eq_true rfl)) dX4_leastFor_17 ⟨Nat.le_of_ble_eq_true rfl, Nat.le_of_ble_eq_true rfl⟩) hS (fun q _ h => hFc q h) hFc (fun u t H1 locs ht hvm w35 hB hz1 hk1 hS => ?_)
  obtain ⟨g_36, f37, f38, f39, f40, hP1, hD1⟩ := hB
  rw [ht] at hP1
  try dsimp only at w35
  obtain ⟨hP, hD⟩ := va_join (wr := []) (w1 := [(xa38, .inr (4, [.ref xa39, .ref xa40, .int 0])), (xa39, .inl (kJ, 23, .inr (.inl g_36)))]) hP hD [0, 1] [] rfl rfl (by decide) (by decide) hk1 hFc hP1 hD1
  generalize H1 = H at hP hS ⊢
  have hP : va_P (dC, dI) vwCl [(xa38, .inr (4, [.ref xa39, .ref xa40, .int 0])), (xa39, .inl (kJ, 23, .inr (.inl g_36)))] H := hP
  have hD : va_D A [(xa38, .inr (4, [.ref xa39, .ref xa40, .int 0])), (xa39, .inl (kJ, 23, .inr (.inl g_36)))] := hD
  refine W.widen (k := 0) (n := 0) (Nat.le_of_ble_eq_true rfl) (Nat.le_of_ble_eq_true rfl) ?_
  have hF3_0 : g_36 0 = kv3 3 0 := by rw [f37, hF2_0]; exact kvs3_0 2 (by decide)
  have hF3_1 : g_36 1 = kv3 3 1 := by rw [f38, hF2_0, hF2_1]; exact kvs3_1 2 (by decide)
  have hF3_2 : g_36 2 = kv3 3 2 := by rw [f39, hF2_1, hF2_2]; exact kvs3_2 2 (by decide)
  have hF3_3 : g_36 3 = kv3 3 3 := by rw [f40, hF2_2, hF2_3]; exact kvs3_3 2 (by decide)
  refine lv_ldc2 hx hb hown (hts (.constantLong RX4 23 (1000000000000)) (List.mem_of_getElem? (i := 1) (by decide +kernel))) dX4_leastFor_20 ?_
  refine lv_aload_n hx hb dX4_leastFor_23 rfl (lv_at hl 1 rfl) ?_
  refine va_get (D := (dC, dI)) (ci := 4) (v := .ref xa39) (C := RX4) (T := TX4) (N := 3) hx hb hts hin4 hown hK hP 0 rfl rfl 0 (by decide) (hts (.fieldLink RX4 9 "PathProber$Odds" "met" "[J") (List.mem_of_getElem? (i := 2) (by decide +kernel))) (fun _ h9 => h9) rfl dX4_leastFor_24 ?_
  refine lv_iload_n hx hb dX4_leastFor_27 rfl (lv_at hl 2 rfl) ?_
  refine va_lald hx hb hK hP 1 2 rfl rfl (vp_in_nI (n := 3) (by decide) (by decide)) dX4_leastFor_28 ?_
  refine lv_topl (fun z41 e42 => ?_)
  obtain rfl : z41 = (222222222223 : Int64) := e42.trans (hF3_3.trans (by decide +kernel))
  refine lv_lsub hx hb dX4_leastFor_29 ?_
  refine lv_topl (fun z43 e44 => ?_)
  obtain rfl : z43 = (777777777777 : Int64) := e44.trans (by decide)
  refine lv_lload_n hx hb dX4_leastFor_30 rfl (lv_at hl 3 rfl) ?_
  refine W.lcmp hx hb dX4_leastFor_31 ?_
  refine lv_topi (fun z45 e46 => ?_)
  obtain rfl : z45 = (1 : Int32) := e46.trans (by decide)
  refine lv_if_ge (tgt := 38) hx hb dX4_leastFor_32 (by decide) (fun _ => ?_) (fun c9 => absurd (by decide) c9)
  refine lv_iinc (v := 4) (lv' := [(4, .int 4), (0, .ref xa38), (1, .int 3), (2, .long 50000000000)]) hx hb dX4_leastFor_38 hl (k := 0) rfl (by decide) (by decide) rfl (fun ls hl => ?_)
  refine lv_goto (tgt := 8) hx hb dX4_leastFor_41 (by decide) ?_
  refine lv_iload hx hb dX4_leastFor_8 (lv_at hl 0 rfl) ?_
  refine lv_bipush (v := 60) hx hb dX4_leastFor_10 (by decide) ?_
  refine lv_icmp_gt (tgt := 44) hx hb dX4_leastFor_12 (by decide) (fun c9 => absurd c9 (by decide)) (fun _ => ?_)
  refine lv_aload_n hx hb dX4_leastFor_15 rfl (lv_at hl 1 rfl) ?_
  refine lv_iload_n hx hb dX4_leastFor_16 rfl (lv_at hl 2 rfl) ?_
  have hPc := hP.sub (ws' := [(xa38, .inr (4, [.ref xa39, .ref xa40, .int 0])), (xa39, .inl (kJ, 23, .inr (.inl g_36)))]) [0, 1] rfl
  have hDc := hD.sub (ws' := [(xa38, .inr (4, [.ref xa39, .ref xa40, .int 0])), (xa39, .inl (kJ, 23, .inr (.inl g_36)))]) [0, 1] (by decide) rfl
  have hFc := va_free (wc := [(xa38, .inr (4, [.ref xa39, .ref xa40, .int 0])), (xa39, .inl (kJ, 23, .inr (.inl g_36)))]) hD hS hA [0, 1] rfl
  refine va_callv (va_runV (As := [.int 3]) (rest := []) ⟨hx, hb, hml, hown, hts⟩ (k4_sendNext_3 l dC dI kB kI kJ kZ kC kS H.size xa38 xa39 xa40 g_36) (cwV 1 hts gX4_leastFor_X4_sendNext rfl rfl rfl (by decide +kernel) ⟨Nat.le_of_ble_eq_true rfl, Nat.le_of_ble_eq_true rfl⟩) ⟨fun a U g mk q => by obtain ⟨q0, q1, qP, qE, qD⟩ := q; exact ⟨q0, q1, qP, kE_call qE, qD⟩, va_recv hK hP (ci := 4) (q0 := 0) rfl rfl, fun U hU hW => ⟨rfl, by rw [hU], by rw [hU]; exact hPc, kE_warm hW hE, hDc.weaken (fun _ _ _ _ => trivial)⟩⟩ rfl rfl hl.1 rfl (lv_room (Nat.le_of_ble_eq_true rfl)) dX4_leastFor_17 ⟨Nat.le_of_ble_eq_true rfl, Nat.le_of_ble_eq_true rfl⟩) hS (fun q _ h => hFc q h) hFc (fun u t H1 locs ht hvm w48 hB hz1 hk1 hS => ?_)
  obtain ⟨g_49, f50, f51, f52, f53, hP1, hD1⟩ := hB
  rw [ht] at hP1
  try dsimp only at w48
  obtain ⟨hP, hD⟩ := va_join (wr := []) (w1 := [(xa38, .inr (4, [.ref xa39, .ref xa40, .int 0])), (xa39, .inl (kJ, 23, .inr (.inl g_49)))]) hP hD [0, 1] [] rfl rfl (by decide) (by decide) hk1 hFc hP1 hD1
  generalize H1 = H at hP hS ⊢
  have hP : va_P (dC, dI) vwCl [(xa38, .inr (4, [.ref xa39, .ref xa40, .int 0])), (xa39, .inl (kJ, 23, .inr (.inl g_49)))] H := hP
  have hD : va_D A [(xa38, .inr (4, [.ref xa39, .ref xa40, .int 0])), (xa39, .inl (kJ, 23, .inr (.inl g_49)))] := hD
  refine W.widen (k := 0) (n := 0) (Nat.le_of_ble_eq_true rfl) (Nat.le_of_ble_eq_true rfl) ?_
  have hF4_0 : g_49 0 = kv3 4 0 := by rw [f50, hF3_0]; exact kvs3_0 3 (by decide)
  have hF4_1 : g_49 1 = kv3 4 1 := by rw [f51, hF3_0, hF3_1]; exact kvs3_1 3 (by decide)
  have hF4_2 : g_49 2 = kv3 4 2 := by rw [f52, hF3_1, hF3_2]; exact kvs3_2 3 (by decide)
  have hF4_3 : g_49 3 = kv3 4 3 := by rw [f53, hF3_2, hF3_3]; exact kvs3_3 3 (by decide)
  refine lv_ldc2 hx hb hown (hts (.constantLong RX4 23 (1000000000000)) (List.mem_of_getElem? (i := 1) (by decide +kernel))) dX4_leastFor_20 ?_
  refine lv_aload_n hx hb dX4_leastFor_23 rfl (lv_at hl 1 rfl) ?_
  refine va_get (D := (dC, dI)) (ci := 4) (v := .ref xa39) (C := RX4) (T := TX4) (N := 3) hx hb hts hin4 hown hK hP 0 rfl rfl 0 (by decide) (hts (.fieldLink RX4 9 "PathProber$Odds" "met" "[J") (List.mem_of_getElem? (i := 2) (by decide +kernel))) (fun _ h9 => h9) rfl dX4_leastFor_24 ?_
  refine lv_iload_n hx hb dX4_leastFor_27 rfl (lv_at hl 2 rfl) ?_
  refine va_lald hx hb hK hP 1 2 rfl rfl (vp_in_nI (n := 3) (by decide) (by decide)) dX4_leastFor_28 ?_
  refine lv_topl (fun z54 e55 => ?_)
  obtain rfl : z54 = (444444444445 : Int64) := e55.trans (hF4_3.trans (by decide +kernel))
  refine lv_lsub hx hb dX4_leastFor_29 ?_
  refine lv_topl (fun z56 e57 => ?_)
  obtain rfl : z56 = (555555555555 : Int64) := e57.trans (by decide)
  refine lv_lload_n hx hb dX4_leastFor_30 rfl (lv_at hl 3 rfl) ?_
  refine W.lcmp hx hb dX4_leastFor_31 ?_
  refine lv_topi (fun z58 e59 => ?_)
  obtain rfl : z58 = (1 : Int32) := e59.trans (by decide)
  refine lv_if_ge (tgt := 38) hx hb dX4_leastFor_32 (by decide) (fun _ => ?_) (fun c9 => absurd (by decide) c9)
  refine lv_iinc (v := 5) (lv' := [(4, .int 5), (0, .ref xa38), (1, .int 3), (2, .long 50000000000)]) hx hb dX4_leastFor_38 hl (k := 0) rfl (by decide) (by decide) rfl (fun ls hl => ?_)
  refine lv_goto (tgt := 8) hx hb dX4_leastFor_41 (by decide) ?_
  refine lv_iload hx hb dX4_leastFor_8 (lv_at hl 0 rfl) ?_
  refine lv_bipush (v := 60) hx hb dX4_leastFor_10 (by decide) ?_
  refine lv_icmp_gt (tgt := 44) hx hb dX4_leastFor_12 (by decide) (fun c9 => absurd c9 (by decide)) (fun _ => ?_)
  refine lv_aload_n hx hb dX4_leastFor_15 rfl (lv_at hl 1 rfl) ?_
  refine lv_iload_n hx hb dX4_leastFor_16 rfl (lv_at hl 2 rfl) ?_
  have hPc := hP.sub (ws' := [(xa38, .inr (4, [.ref xa39, .ref xa40, .int 0])), (xa39, .inl (kJ, 23, .inr (.inl g_49)))]) [0, 1] rfl
  have hDc := hD.sub (ws' := [(xa38, .inr (4, [.ref xa39, .ref xa40, .int 0])), (xa39, .inl (kJ, 23, .inr (.inl g_49)))]) [0, 1] (by decide) rfl
  have hFc := va_free (wc := [(xa38, .inr (4, [.ref xa39, .ref xa40, .int 0])), (xa39, .inl (kJ, 23, .inr (.inl g_49)))]) hD hS hA [0, 1] rfl
  refine va_callv (va_runV (As := [.int 3]) (rest := []) ⟨hx, hb, hml, hown, hts⟩ (k4_sendNext_3 l dC dI kB kI kJ kZ kC kS H.size xa38 xa39 xa40 g_49) (cwV 1 hts gX4_leastFor_X4_sendNext rfl rfl rfl (by decide +kernel) ⟨Nat.le_of_ble_eq_true rfl, Nat.le_of_ble_eq_true rfl⟩) ⟨fun a U g mk q => by obtain ⟨q0, q1, qP, qE, qD⟩ := q; exact ⟨q0, q1, qP, kE_call qE, qD⟩, va_recv hK hP (ci := 4) (q0 := 0) rfl rfl, fun U hU hW => ⟨rfl, by rw [hU], by rw [hU]; exact hPc, kE_warm hW hE, hDc.weaken (fun _ _ _ _ => trivial)⟩⟩ rfl rfl hl.1 rfl (lv_room (Nat.le_of_ble_eq_true rfl)) dX4_leastFor_17 ⟨Nat.le_of_ble_eq_true rfl, Nat.le_of_ble_eq_true rfl⟩) hS (fun q _ h => hFc q h) hFc (fun u t H1 locs ht hvm w61 hB hz1 hk1 hS => ?_)
  obtain ⟨g_62, f63, f64, f65, f66, hP1, hD1⟩ := hB
  rw [ht] at hP1
  try dsimp only at w61
  obtain ⟨hP, hD⟩ := va_join (wr := []) (w1 := [(xa38, .inr (4, [.ref xa39, .ref xa40, .int 0])), (xa39, .inl (kJ, 23, .inr (.inl g_62)))]) hP hD [0, 1] [] rfl rfl (by decide) (by decide) hk1 hFc hP1 hD1
  generalize H1 = H at hP hS ⊢
  have hP : va_P (dC, dI) vwCl [(xa38, .inr (4, [.ref xa39, .ref xa40, .int 0])), (xa39, .inl (kJ, 23, .inr (.inl g_62)))] H := hP
  have hD : va_D A [(xa38, .inr (4, [.ref xa39, .ref xa40, .int 0])), (xa39, .inl (kJ, 23, .inr (.inl g_62)))] := hD
  refine W.widen (k := 0) (n := 0) (Nat.le_of_ble_eq_true rfl) (Nat.le_of_ble_eq_true rfl) ?_
  have hF5_0 : g_62 0 = kv3 5 0 := by rw [f63, hF4_0]; exact kvs3_0 4 (by decide)
  have hF5_1 : g_62 1 = kv3 5 1 := by rw [f64, hF4_0, hF4_1]; exact kvs3_1 4 (by decide)
  have hF5_2 : g_62 2 = kv3 5 2 := by rw [f65, hF4_1, hF4_2]; exact kvs3_2 4 (by decide)
  have hF5_3 : g_62 3 = kv3 5 3 := by rw [f66, hF4_2, hF4_3]; exact kvs3_3 4 (by decide)
  refine lv_ldc2 hx hb hown (hts (.constantLong RX4 23 (1000000000000)) (List.mem_of_getElem? (i := 1) (by decide +kernel))) dX4_leastFor_20 ?_
  refine lv_aload_n hx hb dX4_leastFor_23 rfl (lv_at hl 1 rfl) ?_
  refine va_get (D := (dC, dI)) (ci := 4) (v := .ref xa39) (C := RX4) (T := TX4) (N := 3) hx hb hts hin4 hown hK hP 0 rfl rfl 0 (by decide) (hts (.fieldLink RX4 9 "PathProber$Odds" "met" "[J") (List.mem_of_getElem? (i := 2) (by decide +kernel))) (fun _ h9 => h9) rfl dX4_leastFor_24 ?_
  refine lv_iload_n hx hb dX4_leastFor_27 rfl (lv_at hl 2 rfl) ?_
  refine va_lald hx hb hK hP 1 2 rfl rfl (vp_in_nI (n := 3) (by decide) (by decide)) dX4_leastFor_28 ?_
  refine lv_topl (fun z67 e68 => ?_)
  obtain rfl : z67 = (617283950618 : Int64) := e68.trans (hF5_3.trans (by decide +kernel))
  refine lv_lsub hx hb dX4_leastFor_29 ?_
  refine lv_topl (fun z69 e70 => ?_)
  obtain rfl : z69 = (382716049382 : Int64) := e70.trans (by decide)
  refine lv_lload_n hx hb dX4_leastFor_30 rfl (lv_at hl 3 rfl) ?_
  refine W.lcmp hx hb dX4_leastFor_31 ?_
  refine lv_topi (fun z71 e72 => ?_)
  obtain rfl : z71 = (1 : Int32) := e72.trans (by decide)
  refine lv_if_ge (tgt := 38) hx hb dX4_leastFor_32 (by decide) (fun _ => ?_) (fun c9 => absurd (by decide) c9)
  refine lv_iinc (v := 6) (lv' := [(4, .int 6), (0, .ref xa38), (1, .int 3), (2, .long 50000000000)]) hx hb dX4_leastFor_38 hl (k := 0) rfl (by decide) (by decide) rfl (fun ls hl => ?_)
  refine lv_goto (tgt := 8) hx hb dX4_leastFor_41 (by decide) ?_
  refine lv_iload hx hb dX4_leastFor_8 (lv_at hl 0 rfl) ?_
  refine lv_bipush (v := 60) hx hb dX4_leastFor_10 (by decide) ?_
  refine lv_icmp_gt (tgt := 44) hx hb dX4_leastFor_12 (by decide) (fun c9 => absurd c9 (by decide)) (fun _ => ?_)
  refine lv_aload_n hx hb dX4_leastFor_15 rfl (lv_at hl 1 rfl) ?_
  refine lv_iload_n hx hb dX4_leastFor_16 rfl (lv_at hl 2 rfl) ?_
  have hPc := hP.sub (ws' := [(xa38, .inr (4, [.ref xa39, .ref xa40, .int 0])), (xa39, .inl (kJ, 23, .inr (.inl g_62)))]) [0, 1] rfl
  have hDc := hD.sub (ws' := [(xa38, .inr (4, [.ref xa39, .ref xa40, .int 0])), (xa39, .inl (kJ, 23, .inr (.inl g_62)))]) [0, 1] (by decide) rfl
  have hFc := va_free (wc := [(xa38, .inr (4, [.ref xa39, .ref xa40, .int 0])), (xa39, .inl (kJ, 23, .inr (.inl g_62)))]) hD hS hA [0, 1] rfl
  refine va_callv (va_runV (As := [.int 3]) (rest := []) ⟨hx, hb, hml, hown, hts⟩ (k4_sendNext_3 l dC dI kB kI kJ kZ kC kS H.size xa38 xa39 xa40 g_62) (cwV 1 hts gX4_leastFor_X4_sendNext rfl rfl rfl (by decide +kernel) ⟨Nat.le_of_ble_eq_true rfl, Nat.le_of_ble_eq_true rfl⟩) ⟨fun a U g mk q => by obtain ⟨q0, q1, qP, qE, qD⟩ := q; exact ⟨q0, q1, qP, kE_call qE, qD⟩, va_recv hK hP (ci := 4) (q0 := 0) rfl rfl, fun U hU hW => ⟨rfl, by rw [hU], by rw [hU]; exact hPc, kE_warm hW hE, hDc.weaken (fun _ _ _ _ => trivial)⟩⟩ rfl rfl hl.1 rfl (lv_room (Nat.le_of_ble_eq_true rfl)) dX4_leastFor_17 ⟨Nat.le_of_ble_eq_true rfl, Nat.le_of_ble_eq_true rfl⟩) hS (fun q _ h => hFc q h) hFc (fun u t H1 locs ht hvm w74 hB hz1 hk1 hS => ?_)
  obtain ⟨g_75, f76, f77, f78, f79, hP1, hD1⟩ := hB
  rw [ht] at hP1
  try dsimp only at w74
  obtain ⟨hP, hD⟩ := va_join (wr := []) (w1 := [(xa38, .inr (4, [.ref xa39, .ref xa40, .int 0])), (xa39, .inl (kJ, 23, .inr (.inl g_75)))]) hP hD [0, 1] [] rfl rfl (by decide) (by decide) hk1 hFc hP1 hD1
  generalize H1 = H at hP hS ⊢
  have hP : va_P (dC, dI) vwCl [(xa38, .inr (4, [.ref xa39, .ref xa40, .int 0])), (xa39, .inl (kJ, 23, .inr (.inl g_75)))] H := hP
  have hD : va_D A [(xa38, .inr (4, [.ref xa39, .ref xa40, .int 0])), (xa39, .inl (kJ, 23, .inr (.inl g_75)))] := hD
  refine W.widen (k := 0) (n := 0) (Nat.le_of_ble_eq_true rfl) (Nat.le_of_ble_eq_true rfl) ?_
  have hF6_0 : g_75 0 = kv3 6 0 := by rw [f76, hF5_0]; exact kvs3_0 5 (by decide)
  have hF6_1 : g_75 1 = kv3 6 1 := by rw [f77, hF5_0, hF5_1]; exact kvs3_1 5 (by decide)
  have hF6_2 : g_75 2 = kv3 6 2 := by rw [f78, hF5_1, hF5_2]; exact kvs3_2 5 (by decide)
  have hF6_3 : g_75 3 = kv3 6 3 := by rw [f79, hF5_2, hF5_3]; exact kvs3_3 5 (by decide)
  refine lv_ldc2 hx hb hown (hts (.constantLong RX4 23 (1000000000000)) (List.mem_of_getElem? (i := 1) (by decide +kernel))) dX4_leastFor_20 ?_
  refine lv_aload_n hx hb dX4_leastFor_23 rfl (lv_at hl 1 rfl) ?_
  refine va_get (D := (dC, dI)) (ci := 4) (v := .ref xa39) (C := RX4) (T := TX4) (N := 3) hx hb hts hin4 hown hK hP 0 rfl rfl 0 (by decide) (hts (.fieldLink RX4 9 "PathProber$Odds" "met" "[J") (List.mem_of_getElem? (i := 2) (by decide +kernel))) (fun _ h9 => h9) rfl dX4_leastFor_24 ?_
  refine lv_iload_n hx hb dX4_leastFor_27 rfl (lv_at hl 2 rfl) ?_
  refine va_lald hx hb hK hP 1 2 rfl rfl (vp_in_nI (n := 3) (by decide) (by decide)) dX4_leastFor_28 ?_
  refine lv_topl (fun z80 e81 => ?_)
  obtain rfl : z80 = (740740740742 : Int64) := e81.trans (hF6_3.trans (by decide +kernel))
  refine lv_lsub hx hb dX4_leastFor_29 ?_
  refine lv_topl (fun z82 e83 => ?_)
  obtain rfl : z82 = (259259259258 : Int64) := e83.trans (by decide)
  refine lv_lload_n hx hb dX4_leastFor_30 rfl (lv_at hl 3 rfl) ?_
  refine W.lcmp hx hb dX4_leastFor_31 ?_
  refine lv_topi (fun z84 e85 => ?_)
  obtain rfl : z84 = (1 : Int32) := e85.trans (by decide)
  refine lv_if_ge (tgt := 38) hx hb dX4_leastFor_32 (by decide) (fun _ => ?_) (fun c9 => absurd (by decide) c9)
  refine lv_iinc (v := 7) (lv' := [(4, .int 7), (0, .ref xa38), (1, .int 3), (2, .long 50000000000)]) hx hb dX4_leastFor_38 hl (k := 0) rfl (by decide) (by decide) rfl (fun ls hl => ?_)
  refine lv_goto (tgt := 8) hx hb dX4_leastFor_41 (by decide) ?_
  refine lv_iload hx hb dX4_leastFor_8 (lv_at hl 0 rfl) ?_
  refine lv_bipush (v := 60) hx hb dX4_leastFor_10 (by decide) ?_
  refine lv_icmp_gt (tgt := 44) hx hb dX4_leastFor_12 (by decide) (fun c9 => absurd c9 (by decide)) (fun _ => ?_)
  refine lv_aload_n hx hb dX4_leastFor_15 rfl (lv_at hl 1 rfl) ?_
  refine lv_iload_n hx hb dX4_leastFor_16 rfl (lv_at hl 2 rfl) ?_
  have hPc := hP.sub (ws' := [(xa38, .inr (4, [.ref xa39, .ref xa40, .int 0])), (xa39, .inl (kJ, 23, .inr (.inl g_75)))]) [0, 1] rfl
  have hDc := hD.sub (ws' := [(xa38, .inr (4, [.ref xa39, .ref xa40, .int 0])), (xa39, .inl (kJ, 23, .inr (.inl g_75)))]) [0, 1] (by decide) rfl
  have hFc := va_free (wc := [(xa38, .inr (4, [.ref xa39, .ref xa40, .int 0])), (xa39, .inl (kJ, 23, .inr (.inl g_75)))]) hD hS hA [0, 1] rfl
  refine va_callv (va_runV (As := [.int 3]) (rest := []) ⟨hx, hb, hml, hown, hts⟩ (k4_sendNext_3 l dC dI kB kI kJ kZ kC kS H.size xa38 xa39 xa40 g_75) (cwV 1 hts gX4_leastFor_X4_sendNext rfl rfl rfl (by decide +kernel) ⟨Nat.le_of_ble_eq_true rfl, Nat.le_of_ble_eq_true rfl⟩) ⟨fun a U g mk q => by obtain ⟨q0, q1, qP, qE, qD⟩ := q; exact ⟨q0, q1, qP, kE_call qE, qD⟩, va_recv hK hP (ci := 4) (q0 := 0) rfl rfl, fun U hU hW => ⟨rfl, by rw [hU], by rw [hU]; exact hPc, kE_warm hW hE, hDc.weaken (fun _ _ _ _ => trivial)⟩⟩ rfl rfl hl.1 rfl (lv_room (Nat.le_of_ble_eq_true rfl)) dX4_leastFor_17 ⟨Nat.le_of_ble_eq_true rfl, Nat.le_of_ble_eq_true rfl⟩) hS (fun q _ h => hFc q h) hFc (fun u t H1 locs ht hvm w87 hB hz1 hk1 hS => ?_)
  obtain ⟨g_88, f89, f90, f91, f92, hP1, hD1⟩ := hB
  rw [ht] at hP1
  try dsimp only at w87
  obtain ⟨hP, hD⟩ := va_join (wr := []) (w1 := [(xa38, .inr (4, [.ref xa39, .ref xa40, .int 0])), (xa39, .inl (kJ, 23, .inr (.inl g_88)))]) hP hD [0, 1] [] rfl rfl (by decide) (by decide) hk1 hFc hP1 hD1
  generalize H1 = H at hP hS ⊢
  have hP : va_P (dC, dI) vwCl [(xa38, .inr (4, [.ref xa39, .ref xa40, .int 0])), (xa39, .inl (kJ, 23, .inr (.inl g_88)))] H := hP
  have hD : va_D A [(xa38, .inr (4, [.ref xa39, .ref xa40, .int 0])), (xa39, .inl (kJ, 23, .inr (.inl g_88)))] := hD
  refine W.widen (k := 0) (n := 0) (Nat.le_of_ble_eq_true rfl) (Nat.le_of_ble_eq_true rfl) ?_
  have hF7_0 : g_88 0 = kv3 7 0 := by rw [f89, hF6_0]; exact kvs3_0 6 (by decide)
  have hF7_1 : g_88 1 = kv3 7 1 := by rw [f90, hF6_0, hF6_1]; exact kvs3_1 6 (by decide)
  have hF7_2 : g_88 2 = kv3 7 2 := by rw [f91, hF6_1, hF6_2]; exact kvs3_2 6 (by decide)
  have hF7_3 : g_88 3 = kv3 7 3 := by rw [f92, hF6_2, hF6_3]; exact kvs3_3 6 (by decide)
  refine lv_ldc2 hx hb hown (hts (.constantLong RX4 23 (1000000000000)) (List.mem_of_getElem? (i := 1) (by decide +kernel))) dX4_leastFor_20 ?_
  refine lv_aload_n hx hb dX4_leastFor_23 rfl (lv_at hl 1 rfl) ?_
  refine va_get (D := (dC, dI)) (ci := 4) (v := .ref xa39) (C := RX4) (T := TX4) (N := 3) hx hb hts hin4 hown hK hP 0 rfl rfl 0 (by decide) (hts (.fieldLink RX4 9 "PathProber$Odds" "met" "[J") (List.mem_of_getElem? (i := 2) (by decide +kernel))) (fun _ h9 => h9) rfl dX4_leastFor_24 ?_
  refine lv_iload_n hx hb dX4_leastFor_27 rfl (lv_at hl 2 rfl) ?_
  refine va_lald hx hb hK hP 1 2 rfl rfl (vp_in_nI (n := 3) (by decide) (by decide)) dX4_leastFor_28 ?_
  refine lv_topl (fun z93 e94 => ?_)
  obtain rfl : z93 = (825788751716 : Int64) := e94.trans (hF7_3.trans (by decide +kernel))
  refine lv_lsub hx hb dX4_leastFor_29 ?_
  refine lv_topl (fun z95 e96 => ?_)
  obtain rfl : z95 = (174211248284 : Int64) := e96.trans (by decide)
  refine lv_lload_n hx hb dX4_leastFor_30 rfl (lv_at hl 3 rfl) ?_
  refine W.lcmp hx hb dX4_leastFor_31 ?_
  refine lv_topi (fun z97 e98 => ?_)
  obtain rfl : z97 = (1 : Int32) := e98.trans (by decide)
  refine lv_if_ge (tgt := 38) hx hb dX4_leastFor_32 (by decide) (fun _ => ?_) (fun c9 => absurd (by decide) c9)
  refine lv_iinc (v := 8) (lv' := [(4, .int 8), (0, .ref xa38), (1, .int 3), (2, .long 50000000000)]) hx hb dX4_leastFor_38 hl (k := 0) rfl (by decide) (by decide) rfl (fun ls hl => ?_)
  refine lv_goto (tgt := 8) hx hb dX4_leastFor_41 (by decide) ?_
  refine lv_iload hx hb dX4_leastFor_8 (lv_at hl 0 rfl) ?_
  refine lv_bipush (v := 60) hx hb dX4_leastFor_10 (by decide) ?_
  refine lv_icmp_gt (tgt := 44) hx hb dX4_leastFor_12 (by decide) (fun c9 => absurd c9 (by decide)) (fun _ => ?_)
  refine lv_aload_n hx hb dX4_leastFor_15 rfl (lv_at hl 1 rfl) ?_
  refine lv_iload_n hx hb dX4_leastFor_16 rfl (lv_at hl 2 rfl) ?_
  have hPc := hP.sub (ws' := [(xa38, .inr (4, [.ref xa39, .ref xa40, .int 0])), (xa39, .inl (kJ, 23, .inr (.inl g_88)))]) [0, 1] rfl
  have hDc := hD.sub (ws' := [(xa38, .inr (4, [.ref xa39, .ref xa40, .int 0])), (xa39, .inl (kJ, 23, .inr (.inl g_88)))]) [0, 1] (by decide) rfl
  have hFc := va_free (wc := [(xa38, .inr (4, [.ref xa39, .ref xa40, .int 0])), (xa39, .inl (kJ, 23, .inr (.inl g_88)))]) hD hS hA [0, 1] rfl
  refine va_callv (va_runV (As := [.int 3]) (rest := []) ⟨hx, hb, hml, hown, hts⟩ (k4_sendNext_3 l dC dI kB kI kJ kZ kC kS H.size xa38 xa39 xa40 g_88) (cwV 1 hts gX4_leastFor_X4_sendNext rfl rfl rfl (by decide +kernel) ⟨Nat.le_of_ble_eq_true rfl, Nat.le_of_ble_eq_true rfl⟩) ⟨fun a U g mk q => by obtain ⟨q0, q1, qP, qE, qD⟩ := q; exact ⟨q0, q1, qP, kE_call qE, qD⟩, va_recv hK hP (ci := 4) (q0 := 0) rfl rfl, fun U hU hW => ⟨rfl, by rw [hU], by rw [hU]; exact hPc, kE_warm hW hE, hDc.weaken (fun _ _ _ _ => trivial)⟩⟩ rfl rfl hl.1 rfl (lv_room (Nat.le_of_ble_eq_true rfl)) dX4_leastFor_17 ⟨Nat.le_of_ble_eq_true rfl, Nat.le_of_ble_eq_true rfl⟩) hS (fun q _ h => hFc q h) hFc (fun u t H1 locs ht hvm w100 hB hz1 hk1 hS => ?_)
  obtain ⟨g_101, f102, f103, f104, f105, hP1, hD1⟩ := hB
  rw [ht] at hP1
  try dsimp only at w100
  obtain ⟨hP, hD⟩ := va_join (wr := []) (w1 := [(xa38, .inr (4, [.ref xa39, .ref xa40, .int 0])), (xa39, .inl (kJ, 23, .inr (.inl g_101)))]) hP hD [0, 1] [] rfl rfl (by decide) (by decide) hk1 hFc hP1 hD1
  generalize H1 = H at hP hS ⊢
  have hP : va_P (dC, dI) vwCl [(xa38, .inr (4, [.ref xa39, .ref xa40, .int 0])), (xa39, .inl (kJ, 23, .inr (.inl g_101)))] H := hP
  have hD : va_D A [(xa38, .inr (4, [.ref xa39, .ref xa40, .int 0])), (xa39, .inl (kJ, 23, .inr (.inl g_101)))] := hD
  refine W.widen (k := 0) (n := 0) (Nat.le_of_ble_eq_true rfl) (Nat.le_of_ble_eq_true rfl) ?_
  have hF8_0 : g_101 0 = kv3 8 0 := by rw [f102, hF7_0]; exact kvs3_0 7 (by decide)
  have hF8_1 : g_101 1 = kv3 8 1 := by rw [f103, hF7_0, hF7_1]; exact kvs3_1 7 (by decide)
  have hF8_2 : g_101 2 = kv3 8 2 := by rw [f104, hF7_1, hF7_2]; exact kvs3_2 7 (by decide)
  have hF8_3 : g_101 3 = kv3 8 3 := by rw [f105, hF7_2, hF7_3]; exact kvs3_3 7 (by decide)
  refine lv_ldc2 hx hb hown (hts (.constantLong RX4 23 (1000000000000)) (List.mem_of_getElem? (i := 1) (by decide +kernel))) dX4_leastFor_20 ?_
  refine lv_aload_n hx hb dX4_leastFor_23 rfl (lv_at hl 1 rfl) ?_
  refine va_get (D := (dC, dI)) (ci := 4) (v := .ref xa39) (C := RX4) (T := TX4) (N := 3) hx hb hts hin4 hown hK hP 0 rfl rfl 0 (by decide) (hts (.fieldLink RX4 9 "PathProber$Odds" "met" "[J") (List.mem_of_getElem? (i := 2) (by decide +kernel))) (fun _ h9 => h9) rfl dX4_leastFor_24 ?_
  refine lv_iload_n hx hb dX4_leastFor_27 rfl (lv_at hl 2 rfl) ?_
  refine va_lald hx hb hK hP 1 2 rfl rfl (vp_in_nI (n := 3) (by decide) (by decide)) dX4_leastFor_28 ?_
  refine lv_topl (fun z106 e107 => ?_)
  obtain rfl : z106 = (883401920440 : Int64) := e107.trans (hF8_3.trans (by decide +kernel))
  refine lv_lsub hx hb dX4_leastFor_29 ?_
  refine lv_topl (fun z108 e109 => ?_)
  obtain rfl : z108 = (116598079560 : Int64) := e109.trans (by decide)
  refine lv_lload_n hx hb dX4_leastFor_30 rfl (lv_at hl 3 rfl) ?_
  refine W.lcmp hx hb dX4_leastFor_31 ?_
  refine lv_topi (fun z110 e111 => ?_)
  obtain rfl : z110 = (1 : Int32) := e111.trans (by decide)
  refine lv_if_ge (tgt := 38) hx hb dX4_leastFor_32 (by decide) (fun _ => ?_) (fun c9 => absurd (by decide) c9)
  refine lv_iinc (v := 9) (lv' := [(4, .int 9), (0, .ref xa38), (1, .int 3), (2, .long 50000000000)]) hx hb dX4_leastFor_38 hl (k := 0) rfl (by decide) (by decide) rfl (fun ls hl => ?_)
  refine lv_goto (tgt := 8) hx hb dX4_leastFor_41 (by decide) ?_
  refine lv_iload hx hb dX4_leastFor_8 (lv_at hl 0 rfl) ?_
  refine lv_bipush (v := 60) hx hb dX4_leastFor_10 (by decide) ?_
  refine lv_icmp_gt (tgt := 44) hx hb dX4_leastFor_12 (by decide) (fun c9 => absurd c9 (by decide)) (fun _ => ?_)
  refine lv_aload_n hx hb dX4_leastFor_15 rfl (lv_at hl 1 rfl) ?_
  refine lv_iload_n hx hb dX4_leastFor_16 rfl (lv_at hl 2 rfl) ?_
  have hPc := hP.sub (ws' := [(xa38, .inr (4, [.ref xa39, .ref xa40, .int 0])), (xa39, .inl (kJ, 23, .inr (.inl g_101)))]) [0, 1] rfl
  have hDc := hD.sub (ws' := [(xa38, .inr (4, [.ref xa39, .ref xa40, .int 0])), (xa39, .inl (kJ, 23, .inr (.inl g_101)))]) [0, 1] (by decide) rfl
  have hFc := va_free (wc := [(xa38, .inr (4, [.ref xa39, .ref xa40, .int 0])), (xa39, .inl (kJ, 23, .inr (.inl g_101)))]) hD hS hA [0, 1] rfl
  refine va_callv (va_runV (As := [.int 3]) (rest := []) ⟨hx, hb, hml, hown, hts⟩ (k4_sendNext_3 l dC dI kB kI kJ kZ kC kS H.size xa38 xa39 xa40 g_101) (cwV 1 hts gX4_leastFor_X4_sendNext rfl rfl rfl (by decide +kernel) ⟨Nat.le_of_ble_eq_true rfl, Nat.le_of_ble_eq_true rfl⟩) ⟨fun a U g mk q => by obtain ⟨q0, q1, qP, qE, qD⟩ := q; exact ⟨q0, q1, qP, kE_call qE, qD⟩, va_recv hK hP (ci := 4) (q0 := 0) rfl rfl, fun U hU hW => ⟨rfl, by rw [hU], by rw [hU]; exact hPc, kE_warm hW hE, hDc.weaken (fun _ _ _ _ => trivial)⟩⟩ rfl rfl hl.1 rfl (lv_room (Nat.le_of_ble_eq_true rfl)) dX4_leastFor_17 ⟨Nat.le_of_ble_eq_true rfl, Nat.le_of_ble_eq_true rfl⟩) hS (fun q _ h => hFc q h) hFc (fun u t H1 locs ht hvm w113 hB hz1 hk1 hS => ?_)
  obtain ⟨g_114, f115, f116, f117, f118, hP1, hD1⟩ := hB
  rw [ht] at hP1
  try dsimp only at w113
  obtain ⟨hP, hD⟩ := va_join (wr := []) (w1 := [(xa38, .inr (4, [.ref xa39, .ref xa40, .int 0])), (xa39, .inl (kJ, 23, .inr (.inl g_114)))]) hP hD [0, 1] [] rfl rfl (by decide) (by decide) hk1 hFc hP1 hD1
  generalize H1 = H at hP hS ⊢
  have hP : va_P (dC, dI) vwCl [(xa38, .inr (4, [.ref xa39, .ref xa40, .int 0])), (xa39, .inl (kJ, 23, .inr (.inl g_114)))] H := hP
  have hD : va_D A [(xa38, .inr (4, [.ref xa39, .ref xa40, .int 0])), (xa39, .inl (kJ, 23, .inr (.inl g_114)))] := hD
  refine W.widen (k := 0) (n := 0) (Nat.le_of_ble_eq_true rfl) (Nat.le_of_ble_eq_true rfl) ?_
  have hF9_0 : g_114 0 = kv3 9 0 := by rw [f115, hF8_0]; exact kvs3_0 8 (by decide)
  have hF9_1 : g_114 1 = kv3 9 1 := by rw [f116, hF8_0, hF8_1]; exact kvs3_1 8 (by decide)
  have hF9_2 : g_114 2 = kv3 9 2 := by rw [f117, hF8_1, hF8_2]; exact kvs3_2 8 (by decide)
  have hF9_3 : g_114 3 = kv3 9 3 := by rw [f118, hF8_2, hF8_3]; exact kvs3_3 8 (by decide)
  refine lv_ldc2 hx hb hown (hts (.constantLong RX4 23 (1000000000000)) (List.mem_of_getElem? (i := 1) (by decide +kernel))) dX4_leastFor_20 ?_
  refine lv_aload_n hx hb dX4_leastFor_23 rfl (lv_at hl 1 rfl) ?_
  refine va_get (D := (dC, dI)) (ci := 4) (v := .ref xa39) (C := RX4) (T := TX4) (N := 3) hx hb hts hin4 hown hK hP 0 rfl rfl 0 (by decide) (hts (.fieldLink RX4 9 "PathProber$Odds" "met" "[J") (List.mem_of_getElem? (i := 2) (by decide +kernel))) (fun _ h9 => h9) rfl dX4_leastFor_24 ?_
  refine lv_iload_n hx hb dX4_leastFor_27 rfl (lv_at hl 2 rfl) ?_
  refine va_lald hx hb hK hP 1 2 rfl rfl (vp_in_nI (n := 3) (by decide) (by decide)) dX4_leastFor_28 ?_
  refine lv_topl (fun z119 e120 => ?_)
  obtain rfl : z119 = (922115531170 : Int64) := e120.trans (hF9_3.trans (by decide +kernel))
  refine lv_lsub hx hb dX4_leastFor_29 ?_
  refine lv_topl (fun z121 e122 => ?_)
  obtain rfl : z121 = (77884468830 : Int64) := e122.trans (by decide)
  refine lv_lload_n hx hb dX4_leastFor_30 rfl (lv_at hl 3 rfl) ?_
  refine W.lcmp hx hb dX4_leastFor_31 ?_
  refine lv_topi (fun z123 e124 => ?_)
  obtain rfl : z123 = (1 : Int32) := e124.trans (by decide)
  refine lv_if_ge (tgt := 38) hx hb dX4_leastFor_32 (by decide) (fun _ => ?_) (fun c9 => absurd (by decide) c9)
  refine lv_iinc (v := 10) (lv' := [(4, .int 10), (0, .ref xa38), (1, .int 3), (2, .long 50000000000)]) hx hb dX4_leastFor_38 hl (k := 0) rfl (by decide) (by decide) rfl (fun ls hl => ?_)
  refine lv_goto (tgt := 8) hx hb dX4_leastFor_41 (by decide) ?_
  refine lv_iload hx hb dX4_leastFor_8 (lv_at hl 0 rfl) ?_
  refine lv_bipush (v := 60) hx hb dX4_leastFor_10 (by decide) ?_
  refine lv_icmp_gt (tgt := 44) hx hb dX4_leastFor_12 (by decide) (fun c9 => absurd c9 (by decide)) (fun _ => ?_)
  refine lv_aload_n hx hb dX4_leastFor_15 rfl (lv_at hl 1 rfl) ?_
  refine lv_iload_n hx hb dX4_leastFor_16 rfl (lv_at hl 2 rfl) ?_
  have hPc := hP.sub (ws' := [(xa38, .inr (4, [.ref xa39, .ref xa40, .int 0])), (xa39, .inl (kJ, 23, .inr (.inl g_114)))]) [0, 1] rfl
  have hDc := hD.sub (ws' := [(xa38, .inr (4, [.ref xa39, .ref xa40, .int 0])), (xa39, .inl (kJ, 23, .inr (.inl g_114)))]) [0, 1] (by decide) rfl
  have hFc := va_free (wc := [(xa38, .inr (4, [.ref xa39, .ref xa40, .int 0])), (xa39, .inl (kJ, 23, .inr (.inl g_114)))]) hD hS hA [0, 1] rfl
  refine va_callv (va_runV (As := [.int 3]) (rest := []) ⟨hx, hb, hml, hown, hts⟩ (k4_sendNext_3 l dC dI kB kI kJ kZ kC kS H.size xa38 xa39 xa40 g_114) (cwV 1 hts gX4_leastFor_X4_sendNext rfl rfl rfl (by decide +kernel) ⟨Nat.le_of_ble_eq_true rfl, Nat.le_of_ble_eq_true rfl⟩) ⟨fun a U g mk q => by obtain ⟨q0, q1, qP, qE, qD⟩ := q; exact ⟨q0, q1, qP, kE_call qE, qD⟩, va_recv hK hP (ci := 4) (q0 := 0) rfl rfl, fun U hU hW => ⟨rfl, by rw [hU], by rw [hU]; exact hPc, kE_warm hW hE, hDc.weaken (fun _ _ _ _ => trivial)⟩⟩ rfl rfl hl.1 rfl (lv_room (Nat.le_of_ble_eq_true rfl)) dX4_leastFor_17 ⟨Nat.le_of_ble_eq_true rfl, Nat.le_of_ble_eq_true rfl⟩) hS (fun q _ h => hFc q h) hFc (fun u t H1 locs ht hvm w126 hB hz1 hk1 hS => ?_)
  obtain ⟨g_127, f128, f129, f130, f131, hP1, hD1⟩ := hB
  rw [ht] at hP1
  try dsimp only at w126
  obtain ⟨hP, hD⟩ := va_join (wr := []) (w1 := [(xa38, .inr (4, [.ref xa39, .ref xa40, .int 0])), (xa39, .inl (kJ, 23, .inr (.inl g_127)))]) hP hD [0, 1] [] rfl rfl (by decide) (by decide) hk1 hFc hP1 hD1
  generalize H1 = H at hP hS ⊢
  have hP : va_P (dC, dI) vwCl [(xa38, .inr (4, [.ref xa39, .ref xa40, .int 0])), (xa39, .inl (kJ, 23, .inr (.inl g_127)))] H := hP
  have hD : va_D A [(xa38, .inr (4, [.ref xa39, .ref xa40, .int 0])), (xa39, .inl (kJ, 23, .inr (.inl g_127)))] := hD
  refine W.widen (k := 0) (n := 0) (Nat.le_of_ble_eq_true rfl) (Nat.le_of_ble_eq_true rfl) ?_
  have hF10_0 : g_127 0 = kv3 10 0 := by rw [f128, hF9_0]; exact kvs3_0 9 (by decide)
  have hF10_1 : g_127 1 = kv3 10 1 := by rw [f129, hF9_0, hF9_1]; exact kvs3_1 9 (by decide)
  have hF10_2 : g_127 2 = kv3 10 2 := by rw [f130, hF9_1, hF9_2]; exact kvs3_2 9 (by decide)
  have hF10_3 : g_127 3 = kv3 10 3 := by rw [f131, hF9_2, hF9_3]; exact kvs3_3 9 (by decide)
  refine lv_ldc2 hx hb hown (hts (.constantLong RX4 23 (1000000000000)) (List.mem_of_getElem? (i := 1) (by decide +kernel))) dX4_leastFor_20 ?_
  refine lv_aload_n hx hb dX4_leastFor_23 rfl (lv_at hl 1 rfl) ?_
  refine va_get (D := (dC, dI)) (ci := 4) (v := .ref xa39) (C := RX4) (T := TX4) (N := 3) hx hb hts hin4 hown hK hP 0 rfl rfl 0 (by decide) (hts (.fieldLink RX4 9 "PathProber$Odds" "met" "[J") (List.mem_of_getElem? (i := 2) (by decide +kernel))) (fun _ h9 => h9) rfl dX4_leastFor_24 ?_
  refine lv_iload_n hx hb dX4_leastFor_27 rfl (lv_at hl 2 rfl) ?_
  refine va_lald hx hb hK hP 1 2 rfl rfl (vp_in_nI (n := 3) (by decide) (by decide)) dX4_leastFor_28 ?_
  refine lv_topl (fun z132 e133 => ?_)
  obtain rfl : z132 = (948026215517 : Int64) := e133.trans (hF10_3.trans (by decide +kernel))
  refine lv_lsub hx hb dX4_leastFor_29 ?_
  refine lv_topl (fun z134 e135 => ?_)
  obtain rfl : z134 = (51973784483 : Int64) := e135.trans (by decide)
  refine lv_lload_n hx hb dX4_leastFor_30 rfl (lv_at hl 3 rfl) ?_
  refine W.lcmp hx hb dX4_leastFor_31 ?_
  refine lv_topi (fun z136 e137 => ?_)
  obtain rfl : z136 = (1 : Int32) := e137.trans (by decide)
  refine lv_if_ge (tgt := 38) hx hb dX4_leastFor_32 (by decide) (fun _ => ?_) (fun c9 => absurd (by decide) c9)
  refine lv_iinc (v := 11) (lv' := [(4, .int 11), (0, .ref xa38), (1, .int 3), (2, .long 50000000000)]) hx hb dX4_leastFor_38 hl (k := 0) rfl (by decide) (by decide) rfl (fun ls hl => ?_)
  refine lv_goto (tgt := 8) hx hb dX4_leastFor_41 (by decide) ?_
  refine lv_iload hx hb dX4_leastFor_8 (lv_at hl 0 rfl) ?_
  refine lv_bipush (v := 60) hx hb dX4_leastFor_10 (by decide) ?_
  refine lv_icmp_gt (tgt := 44) hx hb dX4_leastFor_12 (by decide) (fun c9 => absurd c9 (by decide)) (fun _ => ?_)
  refine lv_aload_n hx hb dX4_leastFor_15 rfl (lv_at hl 1 rfl) ?_
  refine lv_iload_n hx hb dX4_leastFor_16 rfl (lv_at hl 2 rfl) ?_
  have hPc := hP.sub (ws' := [(xa38, .inr (4, [.ref xa39, .ref xa40, .int 0])), (xa39, .inl (kJ, 23, .inr (.inl g_127)))]) [0, 1] rfl
  have hDc := hD.sub (ws' := [(xa38, .inr (4, [.ref xa39, .ref xa40, .int 0])), (xa39, .inl (kJ, 23, .inr (.inl g_127)))]) [0, 1] (by decide) rfl
  have hFc := va_free (wc := [(xa38, .inr (4, [.ref xa39, .ref xa40, .int 0])), (xa39, .inl (kJ, 23, .inr (.inl g_127)))]) hD hS hA [0, 1] rfl
  refine va_callv (va_runV (As := [.int 3]) (rest := []) ⟨hx, hb, hml, hown, hts⟩ (k4_sendNext_3 l dC dI kB kI kJ kZ kC kS H.size xa38 xa39 xa40 g_127) (cwV 1 hts gX4_leastFor_X4_sendNext rfl rfl rfl (by decide +kernel) ⟨Nat.le_of_ble_eq_true rfl, Nat.le_of_ble_eq_true rfl⟩) ⟨fun a U g mk q => by obtain ⟨q0, q1, qP, qE, qD⟩ := q; exact ⟨q0, q1, qP, kE_call qE, qD⟩, va_recv hK hP (ci := 4) (q0 := 0) rfl rfl, fun U hU hW => ⟨rfl, by rw [hU], by rw [hU]; exact hPc, kE_warm hW hE, hDc.weaken (fun _ _ _ _ => trivial)⟩⟩ rfl rfl hl.1 rfl (lv_room (Nat.le_of_ble_eq_true rfl)) dX4_leastFor_17 ⟨Nat.le_of_ble_eq_true rfl, Nat.le_of_ble_eq_true rfl⟩) hS (fun q _ h => hFc q h) hFc (fun u t H1 locs ht hvm w139 hB hz1 hk1 hS => ?_)
  obtain ⟨g_140, f141, f142, f143, f144, hP1, hD1⟩ := hB
  rw [ht] at hP1
  try dsimp only at w139
  obtain ⟨hP, hD⟩ := va_join (wr := []) (w1 := [(xa38, .inr (4, [.ref xa39, .ref xa40, .int 0])), (xa39, .inl (kJ, 23, .inr (.inl g_140)))]) hP hD [0, 1] [] rfl rfl (by decide) (by decide) hk1 hFc hP1 hD1
  generalize H1 = H at hP hS ⊢
  have hP : va_P (dC, dI) vwCl [(xa38, .inr (4, [.ref xa39, .ref xa40, .int 0])), (xa39, .inl (kJ, 23, .inr (.inl g_140)))] H := hP
  have hD : va_D A [(xa38, .inr (4, [.ref xa39, .ref xa40, .int 0])), (xa39, .inl (kJ, 23, .inr (.inl g_140)))] := hD
  refine W.widen (k := 0) (n := 0) (Nat.le_of_ble_eq_true rfl) (Nat.le_of_ble_eq_true rfl) ?_
  have hF11_0 : g_140 0 = kv3 11 0 := by rw [f141, hF10_0]; exact kvs3_0 10 (by decide)
  have hF11_1 : g_140 1 = kv3 11 1 := by rw [f142, hF10_0, hF10_1]; exact kvs3_1 10 (by decide)
  have hF11_2 : g_140 2 = kv3 11 2 := by rw [f143, hF10_1, hF10_2]; exact kvs3_2 10 (by decide)
  have hF11_3 : g_140 3 = kv3 11 3 := by rw [f144, hF10_2, hF10_3]; exact kvs3_3 10 (by decide)
  refine lv_ldc2 hx hb hown (hts (.constantLong RX4 23 (1000000000000)) (List.mem_of_getElem? (i := 1) (by decide +kernel))) dX4_leastFor_20 ?_
  refine lv_aload_n hx hb dX4_leastFor_23 rfl (lv_at hl 1 rfl) ?_
  refine va_get (D := (dC, dI)) (ci := 4) (v := .ref xa39) (C := RX4) (T := TX4) (N := 3) hx hb hts hin4 hown hK hP 0 rfl rfl 0 (by decide) (hts (.fieldLink RX4 9 "PathProber$Odds" "met" "[J") (List.mem_of_getElem? (i := 2) (by decide +kernel))) (fun _ h9 => h9) rfl dX4_leastFor_24 ?_
  refine lv_iload_n hx hb dX4_leastFor_27 rfl (lv_at hl 2 rfl) ?_
  refine va_lald hx hb hK hP 1 2 rfl rfl (vp_in_nI (n := 3) (by decide) (by decide)) dX4_leastFor_28 ?_
  refine lv_topl (fun z145 e146 => ?_)
  obtain rfl : z145 = (965333875257 : Int64) := e146.trans (hF11_3.trans (by decide +kernel))
  refine lv_lsub hx hb dX4_leastFor_29 ?_
  refine lv_topl (fun z147 e148 => ?_)
  obtain rfl : z147 = (34666124743 : Int64) := e148.trans (by decide)
  refine lv_lload_n hx hb dX4_leastFor_30 rfl (lv_at hl 3 rfl) ?_
  refine W.lcmp hx hb dX4_leastFor_31 ?_
  refine lv_topi (fun z149 e150 => ?_)
  obtain rfl : z149 = ((-1) : Int32) := e150.trans (by decide)
  refine lv_if_ge (tgt := 38) hx hb dX4_leastFor_32 (by decide) (fun c9 => absurd c9 (by decide)) (fun _ => ?_)
  refine lv_iload hx hb dX4_leastFor_35 (lv_at hl 0 rfl) ?_
  have hP9 := hP.sub (ws' := [(xa38, .inr (4, [.ref xa39, .ref xa40, .int 0])), (xa39, .inl (kJ, 23, .inr (.inl g_140)))]) [0, 1] rfl
  have hD9 := hD.sub (ws' := [(xa38, .inr (4, [.ref xa39, .ref xa40, .int 0])), (xa39, .inl (kJ, 23, .inr (.inl g_140)))]) [0, 1] (by decide) rfl
  exact W.iret (v := 11) hx hb hr (fun t ht hW => ⟨⟨11, (), rfl, rfl, g_140, by rw [ht]; exact hP9, hD9⟩, hS.F ht⟩) hS.2.2 dX4_leastFor_37
def rm_k4_leastFor_4 : Room := { frames := 1, cells := 0, slots := 0, locals := 24 }
set_option maxHeartbeats 4000000 in
set_option maxRecDepth 100000 in
theorem k4_leastFor_4 (l : Launch) (dC : Nat → ClassId) (dI : Nat → Nat → Nat) (kB kI kJ kZ kC kS : ClassId) (sz : Nat) (xa38 : Nat) (xa39 : Nat) (xa40 : Nat) (f1 : Nat → Int64) : Met l yX4_leastFor wsX4_leastFor rm_k4_leastFor_4 (va_Pc [.ref xa38, .int 4, .long 50000000000] (fun U => U.heap.size = sz ∧ va_P (dC, dI) vwCl [(xa38, .inr (4, [.ref xa39, .ref xa40, .int 0])), (xa39, .inl (kJ, 23, .inr (.inl f1)))] U.heap ∧ kE dC dI kB kI kJ kZ kC kS U ∧ va_D (fun _ => True) [(xa38, .inr (4, [.ref xa39, .ref xa40, .int 0])), (xa39, .inl (kJ, 23, .inr (.inl f1)))])) (va_Qi (fun (r : Int32) (_ : Unit) => r = 16) (fun _ t => ∃ (g1 : Nat → Int64), va_P (dC, dI) vwCl [(xa38, .inr (4, [.ref xa39, .ref xa40, .int 0])), (xa39, .inl (kJ, 23, .inr (.inl g1)))] t.heap ∧ va_D (va_A [(xa38, .inr (4, [.ref xa39, .ref xa40, .int 0])), (xa39, .inl (kJ, 23, .inr (.inl f1)))] sz) [(xa38, .inr (4, [.ref xa39, .ref xa40, .int 0])), (xa39, .inl (kJ, 23, .inr (.inl g1)))]) (va_A [(xa38, .inr (4, [.ref xa39, .ref xa40, .int 0])), (xa39, .inl (kJ, 23, .inr (.inl f1)))] sz)) 0 0 (va_A [(xa38, .inr (4, [.ref xa39, .ref xa40, .int 0])), (xa39, .inl (kJ, 23, .inr (.inl f1)))] sz) := by
  refine Met.ofW (cc := cX4_leastFor) (maxL := 5) (ret := (some .int)) (by decide) rfl ?_
  intro p e s m args0 below meth c s₁ B hml hv
  obtain ⟨hargs, hsz, hP, hE, hD0⟩ := hv
  have hx := B.exec
  have hb := B.bytes
  have hr := B.returns
  have hts := atoms_spec (ws := wsX4_leastFor) B.pre
  have hown : s.vm.findClass RX4 = some m.cls := findClass_of_methodNamed B.named
  have hlocks := B.notSynchronized
  have hK := hE.1
  have hin4 : ∀ w ∈ wsX40, w ∈ wsX4_leastFor := fun _ h9 => List.mem_cons_of_mem _ (List.mem_append_right _ h9)
  subst hsz
  have hD := hD0.self (sz := s.heap.size)
  generalize hAe : va_A [(xa38, .inr (4, [.ref xa39, .ref xa40, .int 0])), (xa39, .inl (kJ, 23, .inr (.inl f1)))] s.heap.size = A at hD ⊢
  have hA : ∀ q : Nat, s.heap.size ≤ q → A q := fun q h => by rw [← hAe]; exact Or.inr h
  have hS : va_S A s.heap s.heap [] := va_S.rf
  have hP : va_P (dC, dI) vwCl [(xa38, .inr (4, [.ref xa39, .ref xa40, .int 0])), (xa39, .inl (kJ, 23, .inr (.inl f1)))] s.heap := hP
  have hl := lv_entry ([.ref xa38, .int 4, .long 50000000000]) (n := 5) (Nat.le_of_ble_eq_true rfl)
  have hla : entryFrame m args0 5 = entryFrame m ([.ref xa38, .int 4, .long 50000000000] : List Value).toArray 5 := by rw [hargs]
  rw [hla, lg_entry_eq]
  generalize (lg_sl ([.ref xa38, .int 4, .long 50000000000]) ++ List.replicate (5 - (lg_sl ([.ref xa38, .int 4, .long 50000000000])).length) Slot.unset).toArray = ls at hl ⊢
  have hl : lv_has ls 5 [(0, .ref xa38), (1, .int 4), (2, .long 50000000000)] := hl
  refine lv_aload_n hx hb dX4_leastFor_0 rfl (lv_at hl 0 rfl) ?_
  refine lv_iload_n hx hb dX4_leastFor_1 rfl (lv_at hl 1 rfl) ?_
  have hPc := hP.sub (ws' := [(xa38, .inr (4, [.ref xa39, .ref xa40, .int 0])), (xa39, .inl (kJ, 23, .inr (.inl f1)))]) [0, 1] rfl
  have hDc := hD.sub (ws' := [(xa38, .inr (4, [.ref xa39, .ref xa40, .int 0])), (xa39, .inl (kJ, 23, .inr (.inl f1)))]) [0, 1] (by decide) rfl
  have hFc := va_free (wc := [(xa38, .inr (4, [.ref xa39, .ref xa40, .int 0])), (xa39, .inl (kJ, 23, .inr (.inl f1)))]) hD hS hA [0, 1] rfl
  refine va_callv (va_runV (As := [.int 4]) (rest := []) ⟨hx, hb, hml, hown, hts⟩ (k4_begin_4 l dC dI kB kI kJ kZ kC kS s.heap.size xa38 xa39 xa40 f1) (cwV 1 hts gX4_leastFor_X4_begin rfl rfl rfl (by decide +kernel) ⟨Nat.le_of_ble_eq_true rfl, Nat.le_of_ble_eq_true rfl⟩) ⟨fun a U g mk q => by obtain ⟨q0, q1, qP, qE, qD⟩ := q; exact ⟨q0, q1, qP, kE_call qE, qD⟩, va_recv hK hP (ci := 4) (q0 := 0) rfl rfl, fun U hU hW => ⟨rfl, by rw [hU], by rw [hU]; exact hPc, kE_warm hW hE, hDc.weaken (fun _ _ _ _ => trivial)⟩⟩ rfl rfl hl.1 rfl (lv_room (Nat.le_of_ble_eq_true rfl)) dX4_leastFor_2 ⟨Nat.le_of_ble_eq_true rfl, Nat.le_of_ble_eq_true rfl⟩) hS (fun q _ h => hFc q h) hFc (fun u t H1 locs ht hvm w2 hB hz1 hk1 hS => ?_)
  obtain ⟨g_3, f4, f5, f6, f7, f8, hP1, hD1⟩ := hB
  rw [ht] at hP1
  try dsimp only at w2
  obtain ⟨hP, hD⟩ := va_join (wr := []) (w1 := [(xa38, .inr (4, [.ref xa39, .ref xa40, .int 0])), (xa39, .inl (kJ, 23, .inr (.inl g_3)))]) hP hD [0, 1] [] rfl rfl (by decide) (by decide) hk1 hFc hP1 hD1
  generalize H1 = H at hP hS ⊢
  have hP : va_P (dC, dI) vwCl [(xa38, .inr (4, [.ref xa39, .ref xa40, .int 0])), (xa39, .inl (kJ, 23, .inr (.inl g_3)))] H := hP
  have hD : va_D A [(xa38, .inr (4, [.ref xa39, .ref xa40, .int 0])), (xa39, .inl (kJ, 23, .inr (.inl g_3)))] := hD
  refine W.widen (k := 0) (n := 0) (Nat.le_of_ble_eq_true rfl) (Nat.le_of_ble_eq_true rfl) ?_
  refine lv_iconst (v := 1) hx hb dX4_leastFor_5 (by decide) ?_
  refine lv_istore (lv' := [(4, .int 1), (0, .ref xa38), (1, .int 4), (2, .long 50000000000)]) hx hb dX4_leastFor_6 hl (by decide) rfl (fun ls hl => ?_)
  refine lv_iload hx hb dX4_leastFor_8 (lv_at hl 0 rfl) ?_
  refine lv_bipush (v := 60) hx hb dX4_leastFor_10 (by decide) ?_
  refine lv_icmp_gt (tgt := 44) hx hb dX4_leastFor_12 (by decide) (fun c9 => absurd c9 (by decide)) (fun _ => ?_)
  refine lv_aload_n hx hb dX4_leastFor_15 rfl (lv_at hl 1 rfl) ?_
  refine lv_iload_n hx hb dX4_leastFor_16 rfl (lv_at hl 2 rfl) ?_
  have hPc := hP.sub (ws' := [(xa38, .inr (4, [.ref xa39, .ref xa40, .int 0])), (xa39, .inl (kJ, 23, .inr (.inl g_3)))]) [0, 1] rfl
  have hDc := hD.sub (ws' := [(xa38, .inr (4, [.ref xa39, .ref xa40, .int 0])), (xa39, .inl (kJ, 23, .inr (.inl g_3)))]) [0, 1] (by decide) rfl
  have hFc := va_free (wc := [(xa38, .inr (4, [.ref xa39, .ref xa40, .int 0])), (xa39, .inl (kJ, 23, .inr (.inl g_3)))]) hD hS hA [0, 1] rfl
  refine va_callv (va_runV (As := [.int 4]) (rest := []) ⟨hx, hb, hml, hown, hts⟩ (k4_sendNext_4 l dC dI kB kI kJ kZ kC kS H.size xa38 xa39 xa40 g_3) (cwV 1 hts gX4_leastFor_X4_sendNext rfl rfl rfl (by decide +kernel) ⟨Nat.le_of_ble_eq_true rfl, Nat.le_of_ble_eq_true rfl⟩) ⟨fun a U g mk q => by obtain ⟨q0, q1, qP, qE, qD⟩ := q; exact ⟨q0, q1, qP, kE_call qE, qD⟩, va_recv hK hP (ci := 4) (q0 := 0) rfl rfl, fun U hU hW => ⟨rfl, by rw [hU], by rw [hU]; exact hPc, kE_warm hW hE, hDc.weaken (fun _ _ _ _ => trivial)⟩⟩ rfl rfl hl.1 rfl (lv_room (Nat.le_of_ble_eq_true rfl)) dX4_leastFor_17 ⟨Nat.le_of_ble_eq_true rfl, Nat.le_of_ble_eq_true rfl⟩) hS (fun q _ h => hFc q h) hFc (fun u t H1 locs ht hvm w10 hB hz1 hk1 hS => ?_)
  obtain ⟨g_11, f12, f13, f14, f15, f16, hP1, hD1⟩ := hB
  rw [ht] at hP1
  try dsimp only at w10
  obtain ⟨hP, hD⟩ := va_join (wr := []) (w1 := [(xa38, .inr (4, [.ref xa39, .ref xa40, .int 0])), (xa39, .inl (kJ, 23, .inr (.inl g_11)))]) hP hD [0, 1] [] rfl rfl (by decide) (by decide) hk1 hFc hP1 hD1
  generalize H1 = H at hP hS ⊢
  have hP : va_P (dC, dI) vwCl [(xa38, .inr (4, [.ref xa39, .ref xa40, .int 0])), (xa39, .inl (kJ, 23, .inr (.inl g_11)))] H := hP
  have hD : va_D A [(xa38, .inr (4, [.ref xa39, .ref xa40, .int 0])), (xa39, .inl (kJ, 23, .inr (.inl g_11)))] := hD
  refine W.widen (k := 0) (n := 0) (Nat.le_of_ble_eq_true rfl) (Nat.le_of_ble_eq_true rfl) ?_
  have hF1_0 : g_11 0 = kv4 1 0 := by rw [f12, f4]; exact kvs4_0 0 (by decide)
  have hF1_1 : g_11 1 = kv4 1 1 := by rw [f13, f4, f5]; exact kvs4_1 0 (by decide)
  have hF1_2 : g_11 2 = kv4 1 2 := by rw [f14, f5, f6]; exact kvs4_2 0 (by decide)
  have hF1_3 : g_11 3 = kv4 1 3 := by rw [f15, f6, f7]; exact kvs4_3 0 (by decide)
  have hF1_4 : g_11 4 = kv4 1 4 := by rw [f16, f7, f8]; exact kvs4_4 0 (by decide)
  refine lv_ldc2 hx hb hown (hts (.constantLong RX4 23 (1000000000000)) (List.mem_of_getElem? (i := 1) (by decide +kernel))) dX4_leastFor_20 ?_
  refine lv_aload_n hx hb dX4_leastFor_23 rfl (lv_at hl 1 rfl) ?_
  refine va_get (D := (dC, dI)) (ci := 4) (v := .ref xa39) (C := RX4) (T := TX4) (N := 3) hx hb hts hin4 hown hK hP 0 rfl rfl 0 (by decide) (hts (.fieldLink RX4 9 "PathProber$Odds" "met" "[J") (List.mem_of_getElem? (i := 2) (by decide +kernel))) (fun _ h9 => h9) rfl dX4_leastFor_24 ?_
  refine lv_iload_n hx hb dX4_leastFor_27 rfl (lv_at hl 2 rfl) ?_
  refine va_lald hx hb hK hP 1 2 rfl rfl (vp_in_nI (n := 4) (by decide) (by decide)) dX4_leastFor_28 ?_
  refine lv_topl (fun z17 e18 => ?_)
  obtain rfl : z17 = (0 : Int64) := e18.trans (hF1_4.trans (by decide +kernel))
  refine lv_lsub hx hb dX4_leastFor_29 ?_
  refine lv_topl (fun z19 e20 => ?_)
  obtain rfl : z19 = (1000000000000 : Int64) := e20.trans (by decide)
  refine lv_lload_n hx hb dX4_leastFor_30 rfl (lv_at hl 3 rfl) ?_
  refine W.lcmp hx hb dX4_leastFor_31 ?_
  refine lv_topi (fun z21 e22 => ?_)
  obtain rfl : z21 = (1 : Int32) := e22.trans (by decide)
  refine lv_if_ge (tgt := 38) hx hb dX4_leastFor_32 (by decide) (fun _ => ?_) (fun c9 => absurd (by decide) c9)
  refine lv_iinc (v := 2) (lv' := [(4, .int 2), (0, .ref xa38), (1, .int 4), (2, .long 50000000000)]) hx hb dX4_leastFor_38 hl (k := 0) rfl (by decide) (by decide) rfl (fun ls hl => ?_)
  refine lv_goto (tgt := 8) hx hb dX4_leastFor_41 (by decide) ?_
  refine lv_iload hx hb dX4_leastFor_8 (lv_at hl 0 rfl) ?_
  refine lv_bipush (v := 60) hx hb dX4_leastFor_10 (by decide) ?_
  refine lv_icmp_gt (tgt := 44) hx hb dX4_leastFor_12 (by decide) (fun c9 => absurd c9 (by decide)) (fun _ => ?_)
  refine lv_aload_n hx hb dX4_leastFor_15 rfl (lv_at hl 1 rfl) ?_
  refine lv_iload_n hx hb dX4_leastFor_16 rfl (lv_at hl 2 rfl) ?_
  have hPc := hP.sub (ws' := [(xa38, .inr (4, [.ref xa39, .ref xa40, .int 0])), (xa39, .inl (kJ, 23, .inr (.inl g_11)))]) [0, 1] rfl
  have hDc := hD.sub (ws' := [(xa38, .inr (4, [.ref xa39, .ref xa40, .int 0])), (xa39, .inl (kJ, 23, .inr (.inl g_11)))]) [0, 1] (by decide) rfl
  have hFc := va_free (wc := [(xa38, .inr (4, [.ref xa39, .ref xa40, .int 0])), (xa39, .inl (kJ, 23, .inr (.inl g_11)))]) hD hS hA [0, 1] rfl
  refine va_callv (va_runV (As := [.int 4]) (rest := []) ⟨hx, hb, hml, hown, hts⟩ (k4_sendNext_4 l dC dI kB kI kJ kZ kC kS H.size xa38 xa39 xa40 g_11) (cwV 1 hts gX4_leastFor_X4_sendNext rfl rfl rfl (by decide +kernel) ⟨Nat.le_of_ble_eq_true rfl, Nat.le_of_ble_eq_true rfl⟩) ⟨fun a U g mk q => by obtain ⟨q0, q1, qP, qE, qD⟩ := q; exact ⟨q0, q1, qP, kE_call qE, qD⟩, va_recv hK hP (ci := 4) (q0 := 0) rfl rfl, fun U hU hW => ⟨rfl, by rw [hU], by rw [hU]; exact hPc, kE_warm hW hE, hDc.weaken (fun _ _ _ _ => trivial)⟩⟩ rfl rfl hl.1 rfl (lv_room (Nat.le_of_ble_eq_true rfl)) dX4_leastFor_17 ⟨Nat.le_of_ble_eq_true rfl, Nat.le_of_ble_eq_true rfl⟩) hS (fun q _ h => hFc q h) hFc (fun u t H1 locs ht hvm w24 hB hz1 hk1 hS => ?_)
  obtain ⟨g_25, f26, f27, f28, f29, f30, hP1, hD1⟩ := hB
  rw [ht] at hP1
  try dsimp only at w24
  obtain ⟨hP, hD⟩ := va_join (wr := []) (w1 := [(xa38, .inr (4, [.ref xa39, .ref xa40, .int 0])), (xa39, .inl (kJ, 23, .inr (.inl g_25)))]) hP hD [0, 1] [] rfl rfl (by decide) (by decide) hk1 hFc hP1 hD1
  generalize H1 = H at hP hS ⊢
  have hP : va_P (dC, dI) vwCl [(xa38, .inr (4, [.ref xa39, .ref xa40, .int 0])), (xa39, .inl (kJ, 23, .inr (.inl g_25)))] H := hP
  have hD : va_D A [(xa38, .inr (4, [.ref xa39, .ref xa40, .int 0])), (xa39, .inl (kJ, 23, .inr (.inl g_25)))] := hD
  refine W.widen (k := 0) (n := 0) (Nat.le_of_ble_eq_true rfl) (Nat.le_of_ble_eq_true rfl) ?_
  have hF2_0 : g_25 0 = kv4 2 0 := by rw [f26, hF1_0]; exact kvs4_0 1 (by decide)
  have hF2_1 : g_25 1 = kv4 2 1 := by rw [f27, hF1_0, hF1_1]; exact kvs4_1 1 (by decide)
  have hF2_2 : g_25 2 = kv4 2 2 := by rw [f28, hF1_1, hF1_2]; exact kvs4_2 1 (by decide)
  have hF2_3 : g_25 3 = kv4 2 3 := by rw [f29, hF1_2, hF1_3]; exact kvs4_3 1 (by decide)
  have hF2_4 : g_25 4 = kv4 2 4 := by rw [f30, hF1_3, hF1_4]; exact kvs4_4 1 (by decide)
  refine lv_ldc2 hx hb hown (hts (.constantLong RX4 23 (1000000000000)) (List.mem_of_getElem? (i := 1) (by decide +kernel))) dX4_leastFor_20 ?_
  refine lv_aload_n hx hb dX4_leastFor_23 rfl (lv_at hl 1 rfl) ?_
  refine va_get (D := (dC, dI)) (ci := 4) (v := .ref xa39) (C := RX4) (T := TX4) (N := 3) hx hb hts hin4 hown hK hP 0 rfl rfl 0 (by decide) (hts (.fieldLink RX4 9 "PathProber$Odds" "met" "[J") (List.mem_of_getElem? (i := 2) (by decide +kernel))) (fun _ h9 => h9) rfl dX4_leastFor_24 ?_
  refine lv_iload_n hx hb dX4_leastFor_27 rfl (lv_at hl 2 rfl) ?_
  refine va_lald hx hb hK hP 1 2 rfl rfl (vp_in_nI (n := 4) (by decide) (by decide)) dX4_leastFor_28 ?_
  refine lv_topl (fun z31 e32 => ?_)
  obtain rfl : z31 = (0 : Int64) := e32.trans (hF2_4.trans (by decide +kernel))
  refine lv_lsub hx hb dX4_leastFor_29 ?_
  refine lv_topl (fun z33 e34 => ?_)
  obtain rfl : z33 = (1000000000000 : Int64) := e34.trans (by decide)
  refine lv_lload_n hx hb dX4_leastFor_30 rfl (lv_at hl 3 rfl) ?_
  refine W.lcmp hx hb dX4_leastFor_31 ?_
  refine lv_topi (fun z35 e36 => ?_)
  obtain rfl : z35 = (1 : Int32) := e36.trans (by decide)
  refine lv_if_ge (tgt := 38) hx hb dX4_leastFor_32 (by decide) (fun _ => ?_) (fun c9 => absurd (by decide) c9)
  refine lv_iinc (v := 3) (lv' := [(4, .int 3), (0, .ref xa38), (1, .int 4), (2, .long 50000000000)]) hx hb dX4_leastFor_38 hl (k := 0) rfl (by decide) (by decide) rfl (fun ls hl => ?_)
  refine lv_goto (tgt := 8) hx hb dX4_leastFor_41 (by decide) ?_
  refine lv_iload hx hb dX4_leastFor_8 (lv_at hl 0 rfl) ?_
  refine lv_bipush (v := 60) hx hb dX4_leastFor_10 (by decide) ?_
  refine lv_icmp_gt (tgt := 44) hx hb dX4_leastFor_12 (by decide) (fun c9 => absurd c9 (by decide)) (fun _ => ?_)
  refine lv_aload_n hx hb dX4_leastFor_15 rfl (lv_at hl 1 rfl) ?_
  refine lv_iload_n hx hb dX4_leastFor_16 rfl (lv_at hl 2 rfl) ?_
  have hPc := hP.sub (ws' := [(xa38, .inr (4, [.ref xa39, .ref xa40, .int 0])), (xa39, .inl (kJ, 23, .inr (.inl g_25)))]) [0, 1] rfl
  have hDc := hD.sub (ws' := [(xa38, .inr (4, [.ref xa39, .ref xa40, .int 0])), (xa39, .inl (kJ, 23, .inr (.inl g_25)))]) [0, 1] (by decide) rfl
  have hFc := va_free (wc := [(xa38, .inr (4, [.ref xa39, .ref xa40, .int 0])), (xa39, .inl (kJ, 23, .inr (.inl g_25)))]) hD hS hA [0, 1] rfl
  refine va_callv (va_runV (As := [.int 4]) (rest := []) ⟨hx, hb, hml, hown, hts⟩ (k4_sendNext_4 l dC dI kB kI kJ kZ kC kS H.size xa38 xa39 xa40 g_25) (cwV 1 hts gX4_leastFor_X4_sendNext rfl rfl rfl (by decide +kernel) ⟨Nat.le_of_ble_eq_true rfl, Nat.le_of_ble_eq_true rfl⟩) ⟨fun a U g mk q => by obtain ⟨q0, q1, qP, qE, qD⟩ := q; exact ⟨q0, q1, qP, kE_call qE, qD⟩, va_recv hK hP (ci := 4) (q0 := 0) rfl rfl, fun U hU hW => ⟨rfl, by rw [hU], by rw [hU]; exact hPc, kE_warm hW hE, hDc.weaken (fun _ _ _ _ => trivial)⟩⟩ rfl rfl hl.1 rfl (lv_room (Nat.le_of_ble_eq_true rfl)) dX4_leastFor_17 ⟨Nat.le_of_ble_eq_true rfl, Nat.le_of_ble_eq_true rfl⟩) hS (fun q _ h => hFc q h) hFc (fun u t H1 locs ht hvm w38 hB hz1 hk1 hS => ?_)
  obtain ⟨g_39, f40, f41, f42, f43, f44, hP1, hD1⟩ := hB
  rw [ht] at hP1
  try dsimp only at w38
  obtain ⟨hP, hD⟩ := va_join (wr := []) (w1 := [(xa38, .inr (4, [.ref xa39, .ref xa40, .int 0])), (xa39, .inl (kJ, 23, .inr (.inl g_39)))]) hP hD [0, 1] [] rfl rfl (by decide) (by decide) hk1 hFc hP1 hD1
  generalize H1 = H at hP hS ⊢
  have hP : va_P (dC, dI) vwCl [(xa38, .inr (4, [.ref xa39, .ref xa40, .int 0])), (xa39, .inl (kJ, 23, .inr (.inl g_39)))] H := hP
  have hD : va_D A [(xa38, .inr (4, [.ref xa39, .ref xa40, .int 0])), (xa39, .inl (kJ, 23, .inr (.inl g_39)))] := hD
  refine W.widen (k := 0) (n := 0) (Nat.le_of_ble_eq_true rfl) (Nat.le_of_ble_eq_true rfl) ?_
  have hF3_0 : g_39 0 = kv4 3 0 := by rw [f40, hF2_0]; exact kvs4_0 2 (by decide)
  have hF3_1 : g_39 1 = kv4 3 1 := by rw [f41, hF2_0, hF2_1]; exact kvs4_1 2 (by decide)
  have hF3_2 : g_39 2 = kv4 3 2 := by rw [f42, hF2_1, hF2_2]; exact kvs4_2 2 (by decide)
  have hF3_3 : g_39 3 = kv4 3 3 := by rw [f43, hF2_2, hF2_3]; exact kvs4_3 2 (by decide)
  have hF3_4 : g_39 4 = kv4 3 4 := by rw [f44, hF2_3, hF2_4]; exact kvs4_4 2 (by decide)
  refine lv_ldc2 hx hb hown (hts (.constantLong RX4 23 (1000000000000)) (List.mem_of_getElem? (i := 1) (by decide +kernel))) dX4_leastFor_20 ?_
  refine lv_aload_n hx hb dX4_leastFor_23 rfl (lv_at hl 1 rfl) ?_
  refine va_get (D := (dC, dI)) (ci := 4) (v := .ref xa39) (C := RX4) (T := TX4) (N := 3) hx hb hts hin4 hown hK hP 0 rfl rfl 0 (by decide) (hts (.fieldLink RX4 9 "PathProber$Odds" "met" "[J") (List.mem_of_getElem? (i := 2) (by decide +kernel))) (fun _ h9 => h9) rfl dX4_leastFor_24 ?_
  refine lv_iload_n hx hb dX4_leastFor_27 rfl (lv_at hl 2 rfl) ?_
  refine va_lald hx hb hK hP 1 2 rfl rfl (vp_in_nI (n := 4) (by decide) (by decide)) dX4_leastFor_28 ?_
  refine lv_topl (fun z45 e46 => ?_)
  obtain rfl : z45 = (0 : Int64) := e46.trans (hF3_4.trans (by decide +kernel))
  refine lv_lsub hx hb dX4_leastFor_29 ?_
  refine lv_topl (fun z47 e48 => ?_)
  obtain rfl : z47 = (1000000000000 : Int64) := e48.trans (by decide)
  refine lv_lload_n hx hb dX4_leastFor_30 rfl (lv_at hl 3 rfl) ?_
  refine W.lcmp hx hb dX4_leastFor_31 ?_
  refine lv_topi (fun z49 e50 => ?_)
  obtain rfl : z49 = (1 : Int32) := e50.trans (by decide)
  refine lv_if_ge (tgt := 38) hx hb dX4_leastFor_32 (by decide) (fun _ => ?_) (fun c9 => absurd (by decide) c9)
  refine lv_iinc (v := 4) (lv' := [(4, .int 4), (0, .ref xa38), (1, .int 4), (2, .long 50000000000)]) hx hb dX4_leastFor_38 hl (k := 0) rfl (by decide) (by decide) rfl (fun ls hl => ?_)
  refine lv_goto (tgt := 8) hx hb dX4_leastFor_41 (by decide) ?_
  refine lv_iload hx hb dX4_leastFor_8 (lv_at hl 0 rfl) ?_
  refine lv_bipush (v := 60) hx hb dX4_leastFor_10 (by decide) ?_
  refine lv_icmp_gt (tgt := 44) hx hb dX4_leastFor_12 (by decide) (fun c9 => absurd c9 (by decide)) (fun _ => ?_)
  refine lv_aload_n hx hb dX4_leastFor_15 rfl (lv_at hl 1 rfl) ?_
  refine lv_iload_n hx hb dX4_leastFor_16 rfl (lv_at hl 2 rfl) ?_
  have hPc := hP.sub (ws' := [(xa38, .inr (4, [.ref xa39, .ref xa40, .int 0])), (xa39, .inl (kJ, 23, .inr (.inl g_39)))]) [0, 1] rfl
  have hDc := hD.sub (ws' := [(xa38, .inr (4, [.ref xa39, .ref xa40, .int 0])), (xa39, .inl (kJ, 23, .inr (.inl g_39)))]) [0, 1] (by decide) rfl
  have hFc := va_free (wc := [(xa38, .inr (4, [.ref xa39, .ref xa40, .int 0])), (xa39, .inl (kJ, 23, .inr (.inl g_39)))]) hD hS hA [0, 1] rfl
  refine va_callv (va_runV (As := [.int 4]) (rest := []) ⟨hx, hb, hml, hown, hts⟩ (k4_sendNext_4 l dC dI kB kI kJ kZ kC kS H.size xa38 xa39 xa40 g_39) (cwV 1 hts gX4_leastFor_X4_sendNext rfl rfl rfl (by decide +kernel) ⟨Nat.le_of_ble_eq_true rfl, Nat.le_of_ble_eq_true rfl⟩) ⟨fun a U g mk q => by obtain ⟨q0, q1, qP, qE, qD⟩ := q; exact ⟨q0, q1, qP, kE_call qE, qD⟩, va_recv hK hP (ci := 4) (q0 := 0) rfl rfl, fun U hU hW => ⟨rfl, by rw [hU], by rw [hU]; exact hPc, kE_warm hW hE, hDc.weaken (fun _ _ _ _ => trivial)⟩⟩ rfl rfl hl.1 rfl (lv_room (Nat.le_of_ble_eq_true rfl)) dX4_leastFor_17 ⟨Nat.le_of_ble_eq_true rfl, Nat.le_of_ble_eq_true rfl⟩) hS (fun q _ h => hFc q h) hFc (fun u t H1 locs ht hvm w52 hB hz1 hk1 hS => ?_)
  obtain ⟨g_53, f54, f55, f56, f57, f58, hP1, hD1⟩ := hB
  rw [ht] at hP1
  try dsimp only at w52
  obtain ⟨hP, hD⟩ := va_join (wr := []) (w1 := [(xa38, .inr (4, [.ref xa39, .ref xa40, .int 0])), (xa39, .inl (kJ, 23, .inr (.inl g_53)))]) hP hD [0, 1] [] rfl rfl (by decide) (by decide) hk1 hFc hP1 hD1
  generalize H1 = H at hP hS ⊢
  have hP : va_P (dC, dI) vwCl [(xa38, .inr (4, [.ref xa39, .ref xa40, .int 0])), (xa39, .inl (kJ, 23, .inr (.inl g_53)))] H := hP
  have hD : va_D A [(xa38, .inr (4, [.ref xa39, .ref xa40, .int 0])), (xa39, .inl (kJ, 23, .inr (.inl g_53)))] := hD
  refine W.widen (k := 0) (n := 0) (Nat.le_of_ble_eq_true rfl) (Nat.le_of_ble_eq_true rfl) ?_
  have hF4_0 : g_53 0 = kv4 4 0 := by rw [f54, hF3_0]; exact kvs4_0 3 (by decide)
  have hF4_1 : g_53 1 = kv4 4 1 := by rw [f55, hF3_0, hF3_1]; exact kvs4_1 3 (by decide)
  have hF4_2 : g_53 2 = kv4 4 2 := by rw [f56, hF3_1, hF3_2]; exact kvs4_2 3 (by decide)
  have hF4_3 : g_53 3 = kv4 4 3 := by rw [f57, hF3_2, hF3_3]; exact kvs4_3 3 (by decide)
  have hF4_4 : g_53 4 = kv4 4 4 := by rw [f58, hF3_3, hF3_4]; exact kvs4_4 3 (by decide)
  refine lv_ldc2 hx hb hown (hts (.constantLong RX4 23 (1000000000000)) (List.mem_of_getElem? (i := 1) (by decide +kernel))) dX4_leastFor_20 ?_
  refine lv_aload_n hx hb dX4_leastFor_23 rfl (lv_at hl 1 rfl) ?_
  refine va_get (D := (dC, dI)) (ci := 4) (v := .ref xa39) (C := RX4) (T := TX4) (N := 3) hx hb hts hin4 hown hK hP 0 rfl rfl 0 (by decide) (hts (.fieldLink RX4 9 "PathProber$Odds" "met" "[J") (List.mem_of_getElem? (i := 2) (by decide +kernel))) (fun _ h9 => h9) rfl dX4_leastFor_24 ?_
  refine lv_iload_n hx hb dX4_leastFor_27 rfl (lv_at hl 2 rfl) ?_
  refine va_lald hx hb hK hP 1 2 rfl rfl (vp_in_nI (n := 4) (by decide) (by decide)) dX4_leastFor_28 ?_
  refine lv_topl (fun z59 e60 => ?_)
  obtain rfl : z59 = (93750000000 : Int64) := e60.trans (hF4_4.trans (by decide +kernel))
  refine lv_lsub hx hb dX4_leastFor_29 ?_
  refine lv_topl (fun z61 e62 => ?_)
  obtain rfl : z61 = (906250000000 : Int64) := e62.trans (by decide)
  refine lv_lload_n hx hb dX4_leastFor_30 rfl (lv_at hl 3 rfl) ?_
  refine W.lcmp hx hb dX4_leastFor_31 ?_
  refine lv_topi (fun z63 e64 => ?_)
  obtain rfl : z63 = (1 : Int32) := e64.trans (by decide)
  refine lv_if_ge (tgt := 38) hx hb dX4_leastFor_32 (by decide) (fun _ => ?_) (fun c9 => absurd (by decide) c9)
  refine lv_iinc (v := 5) (lv' := [(4, .int 5), (0, .ref xa38), (1, .int 4), (2, .long 50000000000)]) hx hb dX4_leastFor_38 hl (k := 0) rfl (by decide) (by decide) rfl (fun ls hl => ?_)
  refine lv_goto (tgt := 8) hx hb dX4_leastFor_41 (by decide) ?_
  refine lv_iload hx hb dX4_leastFor_8 (lv_at hl 0 rfl) ?_
  refine lv_bipush (v := 60) hx hb dX4_leastFor_10 (by decide) ?_
  refine lv_icmp_gt (tgt := 44) hx hb dX4_leastFor_12 (by decide) (fun c9 => absurd c9 (by decide)) (fun _ => ?_)
  refine lv_aload_n hx hb dX4_leastFor_15 rfl (lv_at hl 1 rfl) ?_
  refine lv_iload_n hx hb dX4_leastFor_16 rfl (lv_at hl 2 rfl) ?_
  have hPc := hP.sub (ws' := [(xa38, .inr (4, [.ref xa39, .ref xa40, .int 0])), (xa39, .inl (kJ, 23, .inr (.inl g_53)))]) [0, 1] rfl
  have hDc := hD.sub (ws' := [(xa38, .inr (4, [.ref xa39, .ref xa40, .int 0])), (xa39, .inl (kJ, 23, .inr (.inl g_53)))]) [0, 1] (by decide) rfl
  have hFc := va_free (wc := [(xa38, .inr (4, [.ref xa39, .ref xa40, .int 0])), (xa39, .inl (kJ, 23, .inr (.inl g_53)))]) hD hS hA [0, 1] rfl
  refine va_callv (va_runV (As := [.int 4]) (rest := []) ⟨hx, hb, hml, hown, hts⟩ (k4_sendNext_4 l dC dI kB kI kJ kZ kC kS H.size xa38 xa39 xa40 g_53) (cwV 1 hts gX4_leastFor_X4_sendNext rfl rfl rfl (by decide +kernel) ⟨Nat.le_of_ble_eq_true rfl, Nat.le_of_ble_eq_true rfl⟩) ⟨fun a U g mk q => by obtain ⟨q0, q1, qP, qE, qD⟩ := q; exact ⟨q0, q1, qP, kE_call qE, qD⟩, va_recv hK hP (ci := 4) (q0 := 0) rfl rfl, fun U hU hW => ⟨rfl, by rw [hU], by rw [hU]; exact hPc, kE_warm hW hE, hDc.weaken (fun _ _ _ _ => trivial)⟩⟩ rfl rfl hl.1 rfl (lv_room (Nat.le_of_ble_eq_true rfl)) dX4_leastFor_17 ⟨Nat.le_of_ble_eq_true rfl, Nat.le_of_ble_eq_true rfl⟩) hS (fun q _ h => hFc q h) hFc (fun u t H1 locs ht hvm w66 hB hz1 hk1 hS => ?_)
  obtain ⟨g_67, f68, f69, f70, f71, f72, hP1, hD1⟩ := hB
  rw [ht] at hP1
  try dsimp only at w66
  obtain ⟨hP, hD⟩ := va_join (wr := []) (w1 := [(xa38, .inr (4, [.ref xa39, .ref xa40, .int 0])), (xa39, .inl (kJ, 23, .inr (.inl g_67)))]) hP hD [0, 1] [] rfl rfl (by decide) (by decide) hk1 hFc hP1 hD1
  generalize H1 = H at hP hS ⊢
  have hP : va_P (dC, dI) vwCl [(xa38, .inr (4, [.ref xa39, .ref xa40, .int 0])), (xa39, .inl (kJ, 23, .inr (.inl g_67)))] H := hP
  have hD : va_D A [(xa38, .inr (4, [.ref xa39, .ref xa40, .int 0])), (xa39, .inl (kJ, 23, .inr (.inl g_67)))] := hD
  refine W.widen (k := 0) (n := 0) (Nat.le_of_ble_eq_true rfl) (Nat.le_of_ble_eq_true rfl) ?_
  have hF5_0 : g_67 0 = kv4 5 0 := by rw [f68, hF4_0]; exact kvs4_0 4 (by decide)
  have hF5_1 : g_67 1 = kv4 5 1 := by rw [f69, hF4_0, hF4_1]; exact kvs4_1 4 (by decide)
  have hF5_2 : g_67 2 = kv4 5 2 := by rw [f70, hF4_1, hF4_2]; exact kvs4_2 4 (by decide)
  have hF5_3 : g_67 3 = kv4 5 3 := by rw [f71, hF4_2, hF4_3]; exact kvs4_3 4 (by decide)
  have hF5_4 : g_67 4 = kv4 5 4 := by rw [f72, hF4_3, hF4_4]; exact kvs4_4 4 (by decide)
  refine lv_ldc2 hx hb hown (hts (.constantLong RX4 23 (1000000000000)) (List.mem_of_getElem? (i := 1) (by decide +kernel))) dX4_leastFor_20 ?_
  refine lv_aload_n hx hb dX4_leastFor_23 rfl (lv_at hl 1 rfl) ?_
  refine va_get (D := (dC, dI)) (ci := 4) (v := .ref xa39) (C := RX4) (T := TX4) (N := 3) hx hb hts hin4 hown hK hP 0 rfl rfl 0 (by decide) (hts (.fieldLink RX4 9 "PathProber$Odds" "met" "[J") (List.mem_of_getElem? (i := 2) (by decide +kernel))) (fun _ h9 => h9) rfl dX4_leastFor_24 ?_
  refine lv_iload_n hx hb dX4_leastFor_27 rfl (lv_at hl 2 rfl) ?_
  refine va_lald hx hb hK hP 1 2 rfl rfl (vp_in_nI (n := 4) (by decide) (by decide)) dX4_leastFor_28 ?_
  refine lv_topl (fun z73 e74 => ?_)
  obtain rfl : z73 = (234375000000 : Int64) := e74.trans (hF5_4.trans (by decide +kernel))
  refine lv_lsub hx hb dX4_leastFor_29 ?_
  refine lv_topl (fun z75 e76 => ?_)
  obtain rfl : z75 = (765625000000 : Int64) := e76.trans (by decide)
  refine lv_lload_n hx hb dX4_leastFor_30 rfl (lv_at hl 3 rfl) ?_
  refine W.lcmp hx hb dX4_leastFor_31 ?_
  refine lv_topi (fun z77 e78 => ?_)
  obtain rfl : z77 = (1 : Int32) := e78.trans (by decide)
  refine lv_if_ge (tgt := 38) hx hb dX4_leastFor_32 (by decide) (fun _ => ?_) (fun c9 => absurd (by decide) c9)
  refine lv_iinc (v := 6) (lv' := [(4, .int 6), (0, .ref xa38), (1, .int 4), (2, .long 50000000000)]) hx hb dX4_leastFor_38 hl (k := 0) rfl (by decide) (by decide) rfl (fun ls hl => ?_)
  refine lv_goto (tgt := 8) hx hb dX4_leastFor_41 (by decide) ?_
  refine lv_iload hx hb dX4_leastFor_8 (lv_at hl 0 rfl) ?_
  refine lv_bipush (v := 60) hx hb dX4_leastFor_10 (by decide) ?_
  refine lv_icmp_gt (tgt := 44) hx hb dX4_leastFor_12 (by decide) (fun c9 => absurd c9 (by decide)) (fun _ => ?_)
  refine lv_aload_n hx hb dX4_leastFor_15 rfl (lv_at hl 1 rfl) ?_
  refine lv_iload_n hx hb dX4_leastFor_16 rfl (lv_at hl 2 rfl) ?_
  have hPc := hP.sub (ws' := [(xa38, .inr (4, [.ref xa39, .ref xa40, .int 0])), (xa39, .inl (kJ, 23, .inr (.inl g_67)))]) [0, 1] rfl
  have hDc := hD.sub (ws' := [(xa38, .inr (4, [.ref xa39, .ref xa40, .int 0])), (xa39, .inl (kJ, 23, .inr (.inl g_67)))]) [0, 1] (by decide) rfl
  have hFc := va_free (wc := [(xa38, .inr (4, [.ref xa39, .ref xa40, .int 0])), (xa39, .inl (kJ, 23, .inr (.inl g_67)))]) hD hS hA [0, 1] rfl
  refine va_callv (va_runV (As := [.int 4]) (rest := []) ⟨hx, hb, hml, hown, hts⟩ (k4_sendNext_4 l dC dI kB kI kJ kZ kC kS H.size xa38 xa39 xa40 g_67) (cwV 1 hts gX4_leastFor_X4_sendNext rfl rfl rfl (by decide +kernel) ⟨Nat.le_of_ble_eq_true rfl, Nat.le_of_ble_eq_true rfl⟩) ⟨fun a U g mk q => by obtain ⟨q0, q1, qP, qE, qD⟩ := q; exact ⟨q0, q1, qP, kE_call qE, qD⟩, va_recv hK hP (ci := 4) (q0 := 0) rfl rfl, fun U hU hW => ⟨rfl, by rw [hU], by rw [hU]; exact hPc, kE_warm hW hE, hDc.weaken (fun _ _ _ _ => trivial)⟩⟩ rfl rfl hl.1 rfl (lv_room (Nat.le_of_ble_eq_true rfl)) dX4_leastFor_17 ⟨Nat.le_of_ble_eq_true rfl, Nat.le_of_ble_eq_true rfl⟩) hS (fun q _ h => hFc q h) hFc (fun u t H1 locs ht hvm w80 hB hz1 hk1 hS => ?_)
  obtain ⟨g_81, f82, f83, f84, f85, f86, hP1, hD1⟩ := hB
  rw [ht] at hP1
  try dsimp only at w80
  obtain ⟨hP, hD⟩ := va_join (wr := []) (w1 := [(xa38, .inr (4, [.ref xa39, .ref xa40, .int 0])), (xa39, .inl (kJ, 23, .inr (.inl g_81)))]) hP hD [0, 1] [] rfl rfl (by decide) (by decide) hk1 hFc hP1 hD1
  generalize H1 = H at hP hS ⊢
  have hP : va_P (dC, dI) vwCl [(xa38, .inr (4, [.ref xa39, .ref xa40, .int 0])), (xa39, .inl (kJ, 23, .inr (.inl g_81)))] H := hP
  have hD : va_D A [(xa38, .inr (4, [.ref xa39, .ref xa40, .int 0])), (xa39, .inl (kJ, 23, .inr (.inl g_81)))] := hD
  refine W.widen (k := 0) (n := 0) (Nat.le_of_ble_eq_true rfl) (Nat.le_of_ble_eq_true rfl) ?_
  have hF6_0 : g_81 0 = kv4 6 0 := by rw [f82, hF5_0]; exact kvs4_0 5 (by decide)
  have hF6_1 : g_81 1 = kv4 6 1 := by rw [f83, hF5_0, hF5_1]; exact kvs4_1 5 (by decide)
  have hF6_2 : g_81 2 = kv4 6 2 := by rw [f84, hF5_1, hF5_2]; exact kvs4_2 5 (by decide)
  have hF6_3 : g_81 3 = kv4 6 3 := by rw [f85, hF5_2, hF5_3]; exact kvs4_3 5 (by decide)
  have hF6_4 : g_81 4 = kv4 6 4 := by rw [f86, hF5_3, hF5_4]; exact kvs4_4 5 (by decide)
  refine lv_ldc2 hx hb hown (hts (.constantLong RX4 23 (1000000000000)) (List.mem_of_getElem? (i := 1) (by decide +kernel))) dX4_leastFor_20 ?_
  refine lv_aload_n hx hb dX4_leastFor_23 rfl (lv_at hl 1 rfl) ?_
  refine va_get (D := (dC, dI)) (ci := 4) (v := .ref xa39) (C := RX4) (T := TX4) (N := 3) hx hb hts hin4 hown hK hP 0 rfl rfl 0 (by decide) (hts (.fieldLink RX4 9 "PathProber$Odds" "met" "[J") (List.mem_of_getElem? (i := 2) (by decide +kernel))) (fun _ h9 => h9) rfl dX4_leastFor_24 ?_
  refine lv_iload_n hx hb dX4_leastFor_27 rfl (lv_at hl 2 rfl) ?_
  refine va_lald hx hb hK hP 1 2 rfl rfl (vp_in_nI (n := 4) (by decide) (by decide)) dX4_leastFor_28 ?_
  refine lv_topl (fun z87 e88 => ?_)
  obtain rfl : z87 = (380859375000 : Int64) := e88.trans (hF6_4.trans (by decide +kernel))
  refine lv_lsub hx hb dX4_leastFor_29 ?_
  refine lv_topl (fun z89 e90 => ?_)
  obtain rfl : z89 = (619140625000 : Int64) := e90.trans (by decide)
  refine lv_lload_n hx hb dX4_leastFor_30 rfl (lv_at hl 3 rfl) ?_
  refine W.lcmp hx hb dX4_leastFor_31 ?_
  refine lv_topi (fun z91 e92 => ?_)
  obtain rfl : z91 = (1 : Int32) := e92.trans (by decide)
  refine lv_if_ge (tgt := 38) hx hb dX4_leastFor_32 (by decide) (fun _ => ?_) (fun c9 => absurd (by decide) c9)
  refine lv_iinc (v := 7) (lv' := [(4, .int 7), (0, .ref xa38), (1, .int 4), (2, .long 50000000000)]) hx hb dX4_leastFor_38 hl (k := 0) rfl (by decide) (by decide) rfl (fun ls hl => ?_)
  refine lv_goto (tgt := 8) hx hb dX4_leastFor_41 (by decide) ?_
  refine lv_iload hx hb dX4_leastFor_8 (lv_at hl 0 rfl) ?_
  refine lv_bipush (v := 60) hx hb dX4_leastFor_10 (by decide) ?_
  refine lv_icmp_gt (tgt := 44) hx hb dX4_leastFor_12 (by decide) (fun c9 => absurd c9 (by decide)) (fun _ => ?_)
  refine lv_aload_n hx hb dX4_leastFor_15 rfl (lv_at hl 1 rfl) ?_
  refine lv_iload_n hx hb dX4_leastFor_16 rfl (lv_at hl 2 rfl) ?_
  have hPc := hP.sub (ws' := [(xa38, .inr (4, [.ref xa39, .ref xa40, .int 0])), (xa39, .inl (kJ, 23, .inr (.inl g_81)))]) [0, 1] rfl
  have hDc := hD.sub (ws' := [(xa38, .inr (4, [.ref xa39, .ref xa40, .int 0])), (xa39, .inl (kJ, 23, .inr (.inl g_81)))]) [0, 1] (by decide) rfl
  have hFc := va_free (wc := [(xa38, .inr (4, [.ref xa39, .ref xa40, .int 0])), (xa39, .inl (kJ, 23, .inr (.inl g_81)))]) hD hS hA [0, 1] rfl
  refine va_callv (va_runV (As := [.int 4]) (rest := []) ⟨hx, hb, hml, hown, hts⟩ (k4_sendNext_4 l dC dI kB kI kJ kZ kC kS H.size xa38 xa39 xa40 g_81) (cwV 1 hts gX4_leastFor_X4_sendNext rfl rfl rfl (by decide +kernel) ⟨Nat.le_of_ble_eq_true rfl, Nat.le_of_ble_eq_true rfl⟩) ⟨fun a U g mk q => by obtain ⟨q0, q1, qP, qE, qD⟩ := q; exact ⟨q0, q1, qP, kE_call qE, qD⟩, va_recv hK hP (ci := 4) (q0 := 0) rfl rfl, fun U hU hW => ⟨rfl, by rw [hU], by rw [hU]; exact hPc, kE_warm hW hE, hDc.weaken (fun _ _ _ _ => trivial)⟩⟩ rfl rfl hl.1 rfl (lv_room (Nat.le_of_ble_eq_true rfl)) dX4_leastFor_17 ⟨Nat.le_of_ble_eq_true rfl, Nat.le_of_ble_eq_true rfl⟩) hS (fun q _ h => hFc q h) hFc (fun u t H1 locs ht hvm w94 hB hz1 hk1 hS => ?_)
  obtain ⟨g_95, f96, f97, f98, f99, f100, hP1, hD1⟩ := hB
  rw [ht] at hP1
  try dsimp only at w94
  obtain ⟨hP, hD⟩ := va_join (wr := []) (w1 := [(xa38, .inr (4, [.ref xa39, .ref xa40, .int 0])), (xa39, .inl (kJ, 23, .inr (.inl g_95)))]) hP hD [0, 1] [] rfl rfl (by decide) (by decide) hk1 hFc hP1 hD1
  generalize H1 = H at hP hS ⊢
  have hP : va_P (dC, dI) vwCl [(xa38, .inr (4, [.ref xa39, .ref xa40, .int 0])), (xa39, .inl (kJ, 23, .inr (.inl g_95)))] H := hP
  have hD : va_D A [(xa38, .inr (4, [.ref xa39, .ref xa40, .int 0])), (xa39, .inl (kJ, 23, .inr (.inl g_95)))] := hD
  refine W.widen (k := 0) (n := 0) (Nat.le_of_ble_eq_true rfl) (Nat.le_of_ble_eq_true rfl) ?_
  have hF7_0 : g_95 0 = kv4 7 0 := by rw [f96, hF6_0]; exact kvs4_0 6 (by decide)
  have hF7_1 : g_95 1 = kv4 7 1 := by rw [f97, hF6_0, hF6_1]; exact kvs4_1 6 (by decide)
  have hF7_2 : g_95 2 = kv4 7 2 := by rw [f98, hF6_1, hF6_2]; exact kvs4_2 6 (by decide)
  have hF7_3 : g_95 3 = kv4 7 3 := by rw [f99, hF6_2, hF6_3]; exact kvs4_3 6 (by decide)
  have hF7_4 : g_95 4 = kv4 7 4 := by rw [f100, hF6_3, hF6_4]; exact kvs4_4 6 (by decide)
  refine lv_ldc2 hx hb hown (hts (.constantLong RX4 23 (1000000000000)) (List.mem_of_getElem? (i := 1) (by decide +kernel))) dX4_leastFor_20 ?_
  refine lv_aload_n hx hb dX4_leastFor_23 rfl (lv_at hl 1 rfl) ?_
  refine va_get (D := (dC, dI)) (ci := 4) (v := .ref xa39) (C := RX4) (T := TX4) (N := 3) hx hb hts hin4 hown hK hP 0 rfl rfl 0 (by decide) (hts (.fieldLink RX4 9 "PathProber$Odds" "met" "[J") (List.mem_of_getElem? (i := 2) (by decide +kernel))) (fun _ h9 => h9) rfl dX4_leastFor_24 ?_
  refine lv_iload_n hx hb dX4_leastFor_27 rfl (lv_at hl 2 rfl) ?_
  refine va_lald hx hb hK hP 1 2 rfl rfl (vp_in_nI (n := 4) (by decide) (by decide)) dX4_leastFor_28 ?_
  refine lv_topl (fun z101 e102 => ?_)
  obtain rfl : z101 = (512695312500 : Int64) := e102.trans (hF7_4.trans (by decide +kernel))
  refine lv_lsub hx hb dX4_leastFor_29 ?_
  refine lv_topl (fun z103 e104 => ?_)
  obtain rfl : z103 = (487304687500 : Int64) := e104.trans (by decide)
  refine lv_lload_n hx hb dX4_leastFor_30 rfl (lv_at hl 3 rfl) ?_
  refine W.lcmp hx hb dX4_leastFor_31 ?_
  refine lv_topi (fun z105 e106 => ?_)
  obtain rfl : z105 = (1 : Int32) := e106.trans (by decide)
  refine lv_if_ge (tgt := 38) hx hb dX4_leastFor_32 (by decide) (fun _ => ?_) (fun c9 => absurd (by decide) c9)
  refine lv_iinc (v := 8) (lv' := [(4, .int 8), (0, .ref xa38), (1, .int 4), (2, .long 50000000000)]) hx hb dX4_leastFor_38 hl (k := 0) rfl (by decide) (by decide) rfl (fun ls hl => ?_)
  refine lv_goto (tgt := 8) hx hb dX4_leastFor_41 (by decide) ?_
  refine lv_iload hx hb dX4_leastFor_8 (lv_at hl 0 rfl) ?_
  refine lv_bipush (v := 60) hx hb dX4_leastFor_10 (by decide) ?_
  refine lv_icmp_gt (tgt := 44) hx hb dX4_leastFor_12 (by decide) (fun c9 => absurd c9 (by decide)) (fun _ => ?_)
  refine lv_aload_n hx hb dX4_leastFor_15 rfl (lv_at hl 1 rfl) ?_
  refine lv_iload_n hx hb dX4_leastFor_16 rfl (lv_at hl 2 rfl) ?_
  have hPc := hP.sub (ws' := [(xa38, .inr (4, [.ref xa39, .ref xa40, .int 0])), (xa39, .inl (kJ, 23, .inr (.inl g_95)))]) [0, 1] rfl
  have hDc := hD.sub (ws' := [(xa38, .inr (4, [.ref xa39, .ref xa40, .int 0])), (xa39, .inl (kJ, 23, .inr (.inl g_95)))]) [0, 1] (by decide) rfl
  have hFc := va_free (wc := [(xa38, .inr (4, [.ref xa39, .ref xa40, .int 0])), (xa39, .inl (kJ, 23, .inr (.inl g_95)))]) hD hS hA [0, 1] rfl
  refine va_callv (va_runV (As := [.int 4]) (rest := []) ⟨hx, hb, hml, hown, hts⟩ (k4_sendNext_4 l dC dI kB kI kJ kZ kC kS H.size xa38 xa39 xa40 g_95) (cwV 1 hts gX4_leastFor_X4_sendNext rfl rfl rfl (by decide +kernel) ⟨Nat.le_of_ble_eq_true rfl, Nat.le_of_ble_eq_true rfl⟩) ⟨fun a U g mk q => by obtain ⟨q0, q1, qP, qE, qD⟩ := q; exact ⟨q0, q1, qP, kE_call qE, qD⟩, va_recv hK hP (ci := 4) (q0 := 0) rfl rfl, fun U hU hW => ⟨rfl, by rw [hU], by rw [hU]; exact hPc, kE_warm hW hE, hDc.weaken (fun _ _ _ _ => trivial)⟩⟩ rfl rfl hl.1 rfl (lv_room (Nat.le_of_ble_eq_true rfl)) dX4_leastFor_17 ⟨Nat.le_of_ble_eq_true rfl, Nat.le_of_ble_eq_true rfl⟩) hS (fun q _ h => hFc q h) hFc (fun u t H1 locs ht hvm w108 hB hz1 hk1 hS => ?_)
  obtain ⟨g_109, f110, f111, f112, f113, f114, hP1, hD1⟩ := hB
  rw [ht] at hP1
  try dsimp only at w108
  obtain ⟨hP, hD⟩ := va_join (wr := []) (w1 := [(xa38, .inr (4, [.ref xa39, .ref xa40, .int 0])), (xa39, .inl (kJ, 23, .inr (.inl g_109)))]) hP hD [0, 1] [] rfl rfl (by decide) (by decide) hk1 hFc hP1 hD1
  generalize H1 = H at hP hS ⊢
  have hP : va_P (dC, dI) vwCl [(xa38, .inr (4, [.ref xa39, .ref xa40, .int 0])), (xa39, .inl (kJ, 23, .inr (.inl g_109)))] H := hP
  have hD : va_D A [(xa38, .inr (4, [.ref xa39, .ref xa40, .int 0])), (xa39, .inl (kJ, 23, .inr (.inl g_109)))] := hD
  refine W.widen (k := 0) (n := 0) (Nat.le_of_ble_eq_true rfl) (Nat.le_of_ble_eq_true rfl) ?_
  have hF8_0 : g_109 0 = kv4 8 0 := by rw [f110, hF7_0]; exact kvs4_0 7 (by decide)
  have hF8_1 : g_109 1 = kv4 8 1 := by rw [f111, hF7_0, hF7_1]; exact kvs4_1 7 (by decide)
  have hF8_2 : g_109 2 = kv4 8 2 := by rw [f112, hF7_1, hF7_2]; exact kvs4_2 7 (by decide)
  have hF8_3 : g_109 3 = kv4 8 3 := by rw [f113, hF7_2, hF7_3]; exact kvs4_3 7 (by decide)
  have hF8_4 : g_109 4 = kv4 8 4 := by rw [f114, hF7_3, hF7_4]; exact kvs4_4 7 (by decide)
  refine lv_ldc2 hx hb hown (hts (.constantLong RX4 23 (1000000000000)) (List.mem_of_getElem? (i := 1) (by decide +kernel))) dX4_leastFor_20 ?_
  refine lv_aload_n hx hb dX4_leastFor_23 rfl (lv_at hl 1 rfl) ?_
  refine va_get (D := (dC, dI)) (ci := 4) (v := .ref xa39) (C := RX4) (T := TX4) (N := 3) hx hb hts hin4 hown hK hP 0 rfl rfl 0 (by decide) (hts (.fieldLink RX4 9 "PathProber$Odds" "met" "[J") (List.mem_of_getElem? (i := 2) (by decide +kernel))) (fun _ h9 => h9) rfl dX4_leastFor_24 ?_
  refine lv_iload_n hx hb dX4_leastFor_27 rfl (lv_at hl 2 rfl) ?_
  refine va_lald hx hb hK hP 1 2 rfl rfl (vp_in_nI (n := 4) (by decide) (by decide)) dX4_leastFor_28 ?_
  refine lv_topl (fun z115 e116 => ?_)
  obtain rfl : z115 = (622924804688 : Int64) := e116.trans (hF8_4.trans (by decide +kernel))
  refine lv_lsub hx hb dX4_leastFor_29 ?_
  refine lv_topl (fun z117 e118 => ?_)
  obtain rfl : z117 = (377075195312 : Int64) := e118.trans (by decide)
  refine lv_lload_n hx hb dX4_leastFor_30 rfl (lv_at hl 3 rfl) ?_
  refine W.lcmp hx hb dX4_leastFor_31 ?_
  refine lv_topi (fun z119 e120 => ?_)
  obtain rfl : z119 = (1 : Int32) := e120.trans (by decide)
  refine lv_if_ge (tgt := 38) hx hb dX4_leastFor_32 (by decide) (fun _ => ?_) (fun c9 => absurd (by decide) c9)
  refine lv_iinc (v := 9) (lv' := [(4, .int 9), (0, .ref xa38), (1, .int 4), (2, .long 50000000000)]) hx hb dX4_leastFor_38 hl (k := 0) rfl (by decide) (by decide) rfl (fun ls hl => ?_)
  refine lv_goto (tgt := 8) hx hb dX4_leastFor_41 (by decide) ?_
  refine lv_iload hx hb dX4_leastFor_8 (lv_at hl 0 rfl) ?_
  refine lv_bipush (v := 60) hx hb dX4_leastFor_10 (by decide) ?_
  refine lv_icmp_gt (tgt := 44) hx hb dX4_leastFor_12 (by decide) (fun c9 => absurd c9 (by decide)) (fun _ => ?_)
  refine lv_aload_n hx hb dX4_leastFor_15 rfl (lv_at hl 1 rfl) ?_
  refine lv_iload_n hx hb dX4_leastFor_16 rfl (lv_at hl 2 rfl) ?_
  have hPc := hP.sub (ws' := [(xa38, .inr (4, [.ref xa39, .ref xa40, .int 0])), (xa39, .inl (kJ, 23, .inr (.inl g_109)))]) [0, 1] rfl
  have hDc := hD.sub (ws' := [(xa38, .inr (4, [.ref xa39, .ref xa40, .int 0])), (xa39, .inl (kJ, 23, .inr (.inl g_109)))]) [0, 1] (by decide) rfl
  have hFc := va_free (wc := [(xa38, .inr (4, [.ref xa39, .ref xa40, .int 0])), (xa39, .inl (kJ, 23, .inr (.inl g_109)))]) hD hS hA [0, 1] rfl
  refine va_callv (va_runV (As := [.int 4]) (rest := []) ⟨hx, hb, hml, hown, hts⟩ (k4_sendNext_4 l dC dI kB kI kJ kZ kC kS H.size xa38 xa39 xa40 g_109) (cwV 1 hts gX4_leastFor_X4_sendNext rfl rfl rfl (by decide +kernel) ⟨Nat.le_of_ble_eq_true rfl, Nat.le_of_ble_eq_true rfl⟩) ⟨fun a U g mk q => by obtain ⟨q0, q1, qP, qE, qD⟩ := q; exact ⟨q0, q1, qP, kE_call qE, qD⟩, va_recv hK hP (ci := 4) (q0 := 0) rfl rfl, fun U hU hW => ⟨rfl, by rw [hU], by rw [hU]; exact hPc, kE_warm hW hE, hDc.weaken (fun _ _ _ _ => trivial)⟩⟩ rfl rfl hl.1 rfl (lv_room (Nat.le_of_ble_eq_true rfl)) dX4_leastFor_17 ⟨Nat.le_of_ble_eq_true rfl, Nat.le_of_ble_eq_true rfl⟩) hS (fun q _ h => hFc q h) hFc (fun u t H1 locs ht hvm w122 hB hz1 hk1 hS => ?_)
  obtain ⟨g_123, f124, f125, f126, f127, f128, hP1, hD1⟩ := hB
  rw [ht] at hP1
  try dsimp only at w122
  obtain ⟨hP, hD⟩ := va_join (wr := []) (w1 := [(xa38, .inr (4, [.ref xa39, .ref xa40, .int 0])), (xa39, .inl (kJ, 23, .inr (.inl g_123)))]) hP hD [0, 1] [] rfl rfl (by decide) (by decide) hk1 hFc hP1 hD1
  generalize H1 = H at hP hS ⊢
  have hP : va_P (dC, dI) vwCl [(xa38, .inr (4, [.ref xa39, .ref xa40, .int 0])), (xa39, .inl (kJ, 23, .inr (.inl g_123)))] H := hP
  have hD : va_D A [(xa38, .inr (4, [.ref xa39, .ref xa40, .int 0])), (xa39, .inl (kJ, 23, .inr (.inl g_123)))] := hD
  refine W.widen (k := 0) (n := 0) (Nat.le_of_ble_eq_true rfl) (Nat.le_of_ble_eq_true rfl) ?_
  have hF9_0 : g_123 0 = kv4 9 0 := by rw [f124, hF8_0]; exact kvs4_0 8 (by decide)
  have hF9_1 : g_123 1 = kv4 9 1 := by rw [f125, hF8_0, hF8_1]; exact kvs4_1 8 (by decide)
  have hF9_2 : g_123 2 = kv4 9 2 := by rw [f126, hF8_1, hF8_2]; exact kvs4_2 8 (by decide)
  have hF9_3 : g_123 3 = kv4 9 3 := by rw [f127, hF8_2, hF8_3]; exact kvs4_3 8 (by decide)
  have hF9_4 : g_123 4 = kv4 9 4 := by rw [f128, hF8_3, hF8_4]; exact kvs4_4 8 (by decide)
  refine lv_ldc2 hx hb hown (hts (.constantLong RX4 23 (1000000000000)) (List.mem_of_getElem? (i := 1) (by decide +kernel))) dX4_leastFor_20 ?_
  refine lv_aload_n hx hb dX4_leastFor_23 rfl (lv_at hl 1 rfl) ?_
  refine va_get (D := (dC, dI)) (ci := 4) (v := .ref xa39) (C := RX4) (T := TX4) (N := 3) hx hb hts hin4 hown hK hP 0 rfl rfl 0 (by decide) (hts (.fieldLink RX4 9 "PathProber$Odds" "met" "[J") (List.mem_of_getElem? (i := 2) (by decide +kernel))) (fun _ h9 => h9) rfl dX4_leastFor_24 ?_
  refine lv_iload_n hx hb dX4_leastFor_27 rfl (lv_at hl 2 rfl) ?_
  refine va_lald hx hb hK hP 1 2 rfl rfl (vp_in_nI (n := 4) (by decide) (by decide)) dX4_leastFor_28 ?_
  refine lv_topl (fun z129 e130 => ?_)
  obtain rfl : z129 = (711364746095 : Int64) := e130.trans (hF9_4.trans (by decide +kernel))
  refine lv_lsub hx hb dX4_leastFor_29 ?_
  refine lv_topl (fun z131 e132 => ?_)
  obtain rfl : z131 = (288635253905 : Int64) := e132.trans (by decide)
  refine lv_lload_n hx hb dX4_leastFor_30 rfl (lv_at hl 3 rfl) ?_
  refine W.lcmp hx hb dX4_leastFor_31 ?_
  refine lv_topi (fun z133 e134 => ?_)
  obtain rfl : z133 = (1 : Int32) := e134.trans (by decide)
  refine lv_if_ge (tgt := 38) hx hb dX4_leastFor_32 (by decide) (fun _ => ?_) (fun c9 => absurd (by decide) c9)
  refine lv_iinc (v := 10) (lv' := [(4, .int 10), (0, .ref xa38), (1, .int 4), (2, .long 50000000000)]) hx hb dX4_leastFor_38 hl (k := 0) rfl (by decide) (by decide) rfl (fun ls hl => ?_)
  refine lv_goto (tgt := 8) hx hb dX4_leastFor_41 (by decide) ?_
  refine lv_iload hx hb dX4_leastFor_8 (lv_at hl 0 rfl) ?_
  refine lv_bipush (v := 60) hx hb dX4_leastFor_10 (by decide) ?_
  refine lv_icmp_gt (tgt := 44) hx hb dX4_leastFor_12 (by decide) (fun c9 => absurd c9 (by decide)) (fun _ => ?_)
  refine lv_aload_n hx hb dX4_leastFor_15 rfl (lv_at hl 1 rfl) ?_
  refine lv_iload_n hx hb dX4_leastFor_16 rfl (lv_at hl 2 rfl) ?_
  have hPc := hP.sub (ws' := [(xa38, .inr (4, [.ref xa39, .ref xa40, .int 0])), (xa39, .inl (kJ, 23, .inr (.inl g_123)))]) [0, 1] rfl
  have hDc := hD.sub (ws' := [(xa38, .inr (4, [.ref xa39, .ref xa40, .int 0])), (xa39, .inl (kJ, 23, .inr (.inl g_123)))]) [0, 1] (by decide) rfl
  have hFc := va_free (wc := [(xa38, .inr (4, [.ref xa39, .ref xa40, .int 0])), (xa39, .inl (kJ, 23, .inr (.inl g_123)))]) hD hS hA [0, 1] rfl
  refine va_callv (va_runV (As := [.int 4]) (rest := []) ⟨hx, hb, hml, hown, hts⟩ (k4_sendNext_4 l dC dI kB kI kJ kZ kC kS H.size xa38 xa39 xa40 g_123) (cwV 1 hts gX4_leastFor_X4_sendNext rfl rfl rfl (by decide +kernel) ⟨Nat.le_of_ble_eq_true rfl, Nat.le_of_ble_eq_true rfl⟩) ⟨fun a U g mk q => by obtain ⟨q0, q1, qP, qE, qD⟩ := q; exact ⟨q0, q1, qP, kE_call qE, qD⟩, va_recv hK hP (ci := 4) (q0 := 0) rfl rfl, fun U hU hW => ⟨rfl, by rw [hU], by rw [hU]; exact hPc, kE_warm hW hE, hDc.weaken (fun _ _ _ _ => trivial)⟩⟩ rfl rfl hl.1 rfl (lv_room (Nat.le_of_ble_eq_true rfl)) dX4_leastFor_17 ⟨Nat.le_of_ble_eq_true rfl, Nat.le_of_ble_eq_true rfl⟩) hS (fun q _ h => hFc q h) hFc (fun u t H1 locs ht hvm w136 hB hz1 hk1 hS => ?_)
  obtain ⟨g_137, f138, f139, f140, f141, f142, hP1, hD1⟩ := hB
  rw [ht] at hP1
  try dsimp only at w136
  obtain ⟨hP, hD⟩ := va_join (wr := []) (w1 := [(xa38, .inr (4, [.ref xa39, .ref xa40, .int 0])), (xa39, .inl (kJ, 23, .inr (.inl g_137)))]) hP hD [0, 1] [] rfl rfl (by decide) (by decide) hk1 hFc hP1 hD1
  generalize H1 = H at hP hS ⊢
  have hP : va_P (dC, dI) vwCl [(xa38, .inr (4, [.ref xa39, .ref xa40, .int 0])), (xa39, .inl (kJ, 23, .inr (.inl g_137)))] H := hP
  have hD : va_D A [(xa38, .inr (4, [.ref xa39, .ref xa40, .int 0])), (xa39, .inl (kJ, 23, .inr (.inl g_137)))] := hD
  refine W.widen (k := 0) (n := 0) (Nat.le_of_ble_eq_true rfl) (Nat.le_of_ble_eq_true rfl) ?_
  have hF10_0 : g_137 0 = kv4 10 0 := by rw [f138, hF9_0]; exact kvs4_0 9 (by decide)
  have hF10_1 : g_137 1 = kv4 10 1 := by rw [f139, hF9_0, hF9_1]; exact kvs4_1 9 (by decide)
  have hF10_2 : g_137 2 = kv4 10 2 := by rw [f140, hF9_1, hF9_2]; exact kvs4_2 9 (by decide)
  have hF10_3 : g_137 3 = kv4 10 3 := by rw [f141, hF9_2, hF9_3]; exact kvs4_3 9 (by decide)
  have hF10_4 : g_137 4 = kv4 10 4 := by rw [f142, hF9_3, hF9_4]; exact kvs4_4 9 (by decide)
  refine lv_ldc2 hx hb hown (hts (.constantLong RX4 23 (1000000000000)) (List.mem_of_getElem? (i := 1) (by decide +kernel))) dX4_leastFor_20 ?_
  refine lv_aload_n hx hb dX4_leastFor_23 rfl (lv_at hl 1 rfl) ?_
  refine va_get (D := (dC, dI)) (ci := 4) (v := .ref xa39) (C := RX4) (T := TX4) (N := 3) hx hb hts hin4 hown hK hP 0 rfl rfl 0 (by decide) (hts (.fieldLink RX4 9 "PathProber$Odds" "met" "[J") (List.mem_of_getElem? (i := 2) (by decide +kernel))) (fun _ h9 => h9) rfl dX4_leastFor_24 ?_
  refine lv_iload_n hx hb dX4_leastFor_27 rfl (lv_at hl 2 rfl) ?_
  refine va_lald hx hb hK hP 1 2 rfl rfl (vp_in_nI (n := 4) (by decide) (by decide)) dX4_leastFor_28 ?_
  refine lv_topl (fun z143 e144 => ?_)
  obtain rfl : z143 = (780601501466 : Int64) := e144.trans (hF10_4.trans (by decide +kernel))
  refine lv_lsub hx hb dX4_leastFor_29 ?_
  refine lv_topl (fun z145 e146 => ?_)
  obtain rfl : z145 = (219398498534 : Int64) := e146.trans (by decide)
  refine lv_lload_n hx hb dX4_leastFor_30 rfl (lv_at hl 3 rfl) ?_
  refine W.lcmp hx hb dX4_leastFor_31 ?_
  refine lv_topi (fun z147 e148 => ?_)
  obtain rfl : z147 = (1 : Int32) := e148.trans (by decide)
  refine lv_if_ge (tgt := 38) hx hb dX4_leastFor_32 (by decide) (fun _ => ?_) (fun c9 => absurd (by decide) c9)
  refine lv_iinc (v := 11) (lv' := [(4, .int 11), (0, .ref xa38), (1, .int 4), (2, .long 50000000000)]) hx hb dX4_leastFor_38 hl (k := 0) rfl (by decide) (by decide) rfl (fun ls hl => ?_)
  refine lv_goto (tgt := 8) hx hb dX4_leastFor_41 (by decide) ?_
  refine lv_iload hx hb dX4_leastFor_8 (lv_at hl 0 rfl) ?_
  refine lv_bipush (v := 60) hx hb dX4_leastFor_10 (by decide) ?_
  refine lv_icmp_gt (tgt := 44) hx hb dX4_leastFor_12 (by decide) (fun c9 => absurd c9 (by decide)) (fun _ => ?_)
  refine lv_aload_n hx hb dX4_leastFor_15 rfl (lv_at hl 1 rfl) ?_
  refine lv_iload_n hx hb dX4_leastFor_16 rfl (lv_at hl 2 rfl) ?_
  have hPc := hP.sub (ws' := [(xa38, .inr (4, [.ref xa39, .ref xa40, .int 0])), (xa39, .inl (kJ, 23, .inr (.inl g_137)))]) [0, 1] rfl
  have hDc := hD.sub (ws' := [(xa38, .inr (4, [.ref xa39, .ref xa40, .int 0])), (xa39, .inl (kJ, 23, .inr (.inl g_137)))]) [0, 1] (by decide) rfl
  have hFc := va_free (wc := [(xa38, .inr (4, [.ref xa39, .ref xa40, .int 0])), (xa39, .inl (kJ, 23, .inr (.inl g_137)))]) hD hS hA [0, 1] rfl
  refine va_callv (va_runV (As := [.int 4]) (rest := []) ⟨hx, hb, hml, hown, hts⟩ (k4_sendNext_4 l dC dI kB kI kJ kZ kC kS H.size xa38 xa39 xa40 g_137) (cwV 1 hts gX4_leastFor_X4_sendNext rfl rfl rfl (by decide +kernel) ⟨Nat.le_of_ble_eq_true rfl, Nat.le_of_ble_eq_true rfl⟩) ⟨fun a U g mk q => by obtain ⟨q0, q1, qP, qE, qD⟩ := q; exact ⟨q0, q1, qP, kE_call qE, qD⟩, va_recv hK hP (ci := 4) (q0 := 0) rfl rfl, fun U hU hW => ⟨rfl, by rw [hU], by rw [hU]; exact hPc, kE_warm hW hE, hDc.weaken (fun _ _ _ _ => trivial)⟩⟩ rfl rfl hl.1 rfl (lv_room (Nat.le_of_ble_eq_true rfl)) dX4_leastFor_17 ⟨Nat.le_of_ble_eq_true rfl, Nat.le_of_ble_eq_true rfl⟩) hS (fun q _ h => hFc q h) hFc (fun u t H1 locs ht hvm w150 hB hz1 hk1 hS => ?_)
  obtain ⟨g_151, f152, f153, f154, f155, f156, hP1, hD1⟩ := hB
  rw [ht] at hP1
  try dsimp only at w150
  obtain ⟨hP, hD⟩ := va_join (wr := []) (w1 := [(xa38, .inr (4, [.ref xa39, .ref xa40, .int 0])), (xa39, .inl (kJ, 23, .inr (.inl g_151)))]) hP hD [0, 1] [] rfl rfl (by decide) (by decide) hk1 hFc hP1 hD1
  generalize H1 = H at hP hS ⊢
  have hP : va_P (dC, dI) vwCl [(xa38, .inr (4, [.ref xa39, .ref xa40, .int 0])), (xa39, .inl (kJ, 23, .inr (.inl g_151)))] H := hP
  have hD : va_D A [(xa38, .inr (4, [.ref xa39, .ref xa40, .int 0])), (xa39, .inl (kJ, 23, .inr (.inl g_151)))] := hD
  refine W.widen (k := 0) (n := 0) (Nat.le_of_ble_eq_true rfl) (Nat.le_of_ble_eq_true rfl) ?_
  have hF11_0 : g_151 0 = kv4 11 0 := by rw [f152, hF10_0]; exact kvs4_0 10 (by decide)
  have hF11_1 : g_151 1 = kv4 11 1 := by rw [f153, hF10_0, hF10_1]; exact kvs4_1 10 (by decide)
  have hF11_2 : g_151 2 = kv4 11 2 := by rw [f154, hF10_1, hF10_2]; exact kvs4_2 10 (by decide)
  have hF11_3 : g_151 3 = kv4 11 3 := by rw [f155, hF10_2, hF10_3]; exact kvs4_3 10 (by decide)
  have hF11_4 : g_151 4 = kv4 11 4 := by rw [f156, hF10_3, hF10_4]; exact kvs4_4 10 (by decide)
  refine lv_ldc2 hx hb hown (hts (.constantLong RX4 23 (1000000000000)) (List.mem_of_getElem? (i := 1) (by decide +kernel))) dX4_leastFor_20 ?_
  refine lv_aload_n hx hb dX4_leastFor_23 rfl (lv_at hl 1 rfl) ?_
  refine va_get (D := (dC, dI)) (ci := 4) (v := .ref xa39) (C := RX4) (T := TX4) (N := 3) hx hb hts hin4 hown hK hP 0 rfl rfl 0 (by decide) (hts (.fieldLink RX4 9 "PathProber$Odds" "met" "[J") (List.mem_of_getElem? (i := 2) (by decide +kernel))) (fun _ h9 => h9) rfl dX4_leastFor_24 ?_
  refine lv_iload_n hx hb dX4_leastFor_27 rfl (lv_at hl 2 rfl) ?_
  refine va_lald hx hb hK hP 1 2 rfl rfl (vp_in_nI (n := 4) (by decide) (by decide)) dX4_leastFor_28 ?_
  refine lv_topl (fun z157 e158 => ?_)
  obtain rfl : z157 = (833988189699 : Int64) := e158.trans (hF11_4.trans (by decide +kernel))
  refine lv_lsub hx hb dX4_leastFor_29 ?_
  refine lv_topl (fun z159 e160 => ?_)
  obtain rfl : z159 = (166011810301 : Int64) := e160.trans (by decide)
  refine lv_lload_n hx hb dX4_leastFor_30 rfl (lv_at hl 3 rfl) ?_
  refine W.lcmp hx hb dX4_leastFor_31 ?_
  refine lv_topi (fun z161 e162 => ?_)
  obtain rfl : z161 = (1 : Int32) := e162.trans (by decide)
  refine lv_if_ge (tgt := 38) hx hb dX4_leastFor_32 (by decide) (fun _ => ?_) (fun c9 => absurd (by decide) c9)
  refine lv_iinc (v := 12) (lv' := [(4, .int 12), (0, .ref xa38), (1, .int 4), (2, .long 50000000000)]) hx hb dX4_leastFor_38 hl (k := 0) rfl (by decide) (by decide) rfl (fun ls hl => ?_)
  refine lv_goto (tgt := 8) hx hb dX4_leastFor_41 (by decide) ?_
  refine lv_iload hx hb dX4_leastFor_8 (lv_at hl 0 rfl) ?_
  refine lv_bipush (v := 60) hx hb dX4_leastFor_10 (by decide) ?_
  refine lv_icmp_gt (tgt := 44) hx hb dX4_leastFor_12 (by decide) (fun c9 => absurd c9 (by decide)) (fun _ => ?_)
  refine lv_aload_n hx hb dX4_leastFor_15 rfl (lv_at hl 1 rfl) ?_
  refine lv_iload_n hx hb dX4_leastFor_16 rfl (lv_at hl 2 rfl) ?_
  have hPc := hP.sub (ws' := [(xa38, .inr (4, [.ref xa39, .ref xa40, .int 0])), (xa39, .inl (kJ, 23, .inr (.inl g_151)))]) [0, 1] rfl
  have hDc := hD.sub (ws' := [(xa38, .inr (4, [.ref xa39, .ref xa40, .int 0])), (xa39, .inl (kJ, 23, .inr (.inl g_151)))]) [0, 1] (by decide) rfl
  have hFc := va_free (wc := [(xa38, .inr (4, [.ref xa39, .ref xa40, .int 0])), (xa39, .inl (kJ, 23, .inr (.inl g_151)))]) hD hS hA [0, 1] rfl
  refine va_callv (va_runV (As := [.int 4]) (rest := []) ⟨hx, hb, hml, hown, hts⟩ (k4_sendNext_4 l dC dI kB kI kJ kZ kC kS H.size xa38 xa39 xa40 g_151) (cwV 1 hts gX4_leastFor_X4_sendNext rfl rfl rfl (by decide +kernel) ⟨Nat.le_of_ble_eq_true rfl, Nat.le_of_ble_eq_true rfl⟩) ⟨fun a U g mk q => by obtain ⟨q0, q1, qP, qE, qD⟩ := q; exact ⟨q0, q1, qP, kE_call qE, qD⟩, va_recv hK hP (ci := 4) (q0 := 0) rfl rfl, fun U hU hW => ⟨rfl, by rw [hU], by rw [hU]; exact hPc, kE_warm hW hE, hDc.weaken (fun _ _ _ _ => trivial)⟩⟩ rfl rfl hl.1 rfl (lv_room (Nat.le_of_ble_eq_true rfl)) dX4_leastFor_17 ⟨Nat.le_of_ble_eq_true rfl, Nat.le_of_ble_eq_true rfl⟩) hS (fun q _ h => hFc q h) hFc (fun u t H1 locs ht hvm w164 hB hz1 hk1 hS => ?_)
  obtain ⟨g_165, f166, f167, f168, f169, f170, hP1, hD1⟩ := hB
  rw [ht] at hP1
  try dsimp only at w164
  obtain ⟨hP, hD⟩ := va_join (wr := []) (w1 := [(xa38, .inr (4, [.ref xa39, .ref xa40, .int 0])), (xa39, .inl (kJ, 23, .inr (.inl g_165)))]) hP hD [0, 1] [] rfl rfl (by decide) (by decide) hk1 hFc hP1 hD1
  generalize H1 = H at hP hS ⊢
  have hP : va_P (dC, dI) vwCl [(xa38, .inr (4, [.ref xa39, .ref xa40, .int 0])), (xa39, .inl (kJ, 23, .inr (.inl g_165)))] H := hP
  have hD : va_D A [(xa38, .inr (4, [.ref xa39, .ref xa40, .int 0])), (xa39, .inl (kJ, 23, .inr (.inl g_165)))] := hD
  refine W.widen (k := 0) (n := 0) (Nat.le_of_ble_eq_true rfl) (Nat.le_of_ble_eq_true rfl) ?_
  have hF12_0 : g_165 0 = kv4 12 0 := by rw [f166, hF11_0]; exact kvs4_0 11 (by decide)
  have hF12_1 : g_165 1 = kv4 12 1 := by rw [f167, hF11_0, hF11_1]; exact kvs4_1 11 (by decide)
  have hF12_2 : g_165 2 = kv4 12 2 := by rw [f168, hF11_1, hF11_2]; exact kvs4_2 11 (by decide)
  have hF12_3 : g_165 3 = kv4 12 3 := by rw [f169, hF11_2, hF11_3]; exact kvs4_3 11 (by decide)
  have hF12_4 : g_165 4 = kv4 12 4 := by rw [f170, hF11_3, hF11_4]; exact kvs4_4 11 (by decide)
  refine lv_ldc2 hx hb hown (hts (.constantLong RX4 23 (1000000000000)) (List.mem_of_getElem? (i := 1) (by decide +kernel))) dX4_leastFor_20 ?_
  refine lv_aload_n hx hb dX4_leastFor_23 rfl (lv_at hl 1 rfl) ?_
  refine va_get (D := (dC, dI)) (ci := 4) (v := .ref xa39) (C := RX4) (T := TX4) (N := 3) hx hb hts hin4 hown hK hP 0 rfl rfl 0 (by decide) (hts (.fieldLink RX4 9 "PathProber$Odds" "met" "[J") (List.mem_of_getElem? (i := 2) (by decide +kernel))) (fun _ h9 => h9) rfl dX4_leastFor_24 ?_
  refine lv_iload_n hx hb dX4_leastFor_27 rfl (lv_at hl 2 rfl) ?_
  refine va_lald hx hb hK hP 1 2 rfl rfl (vp_in_nI (n := 4) (by decide) (by decide)) dX4_leastFor_28 ?_
  refine lv_topl (fun z171 e172 => ?_)
  obtain rfl : z171 = (874759197237 : Int64) := e172.trans (hF12_4.trans (by decide +kernel))
  refine lv_lsub hx hb dX4_leastFor_29 ?_
  refine lv_topl (fun z173 e174 => ?_)
  obtain rfl : z173 = (125240802763 : Int64) := e174.trans (by decide)
  refine lv_lload_n hx hb dX4_leastFor_30 rfl (lv_at hl 3 rfl) ?_
  refine W.lcmp hx hb dX4_leastFor_31 ?_
  refine lv_topi (fun z175 e176 => ?_)
  obtain rfl : z175 = (1 : Int32) := e176.trans (by decide)
  refine lv_if_ge (tgt := 38) hx hb dX4_leastFor_32 (by decide) (fun _ => ?_) (fun c9 => absurd (by decide) c9)
  refine lv_iinc (v := 13) (lv' := [(4, .int 13), (0, .ref xa38), (1, .int 4), (2, .long 50000000000)]) hx hb dX4_leastFor_38 hl (k := 0) rfl (by decide) (by decide) rfl (fun ls hl => ?_)
  refine lv_goto (tgt := 8) hx hb dX4_leastFor_41 (by decide) ?_
  refine lv_iload hx hb dX4_leastFor_8 (lv_at hl 0 rfl) ?_
  refine lv_bipush (v := 60) hx hb dX4_leastFor_10 (by decide) ?_
  refine lv_icmp_gt (tgt := 44) hx hb dX4_leastFor_12 (by decide) (fun c9 => absurd c9 (by decide)) (fun _ => ?_)
  refine lv_aload_n hx hb dX4_leastFor_15 rfl (lv_at hl 1 rfl) ?_
  refine lv_iload_n hx hb dX4_leastFor_16 rfl (lv_at hl 2 rfl) ?_
  have hPc := hP.sub (ws' := [(xa38, .inr (4, [.ref xa39, .ref xa40, .int 0])), (xa39, .inl (kJ, 23, .inr (.inl g_165)))]) [0, 1] rfl
  have hDc := hD.sub (ws' := [(xa38, .inr (4, [.ref xa39, .ref xa40, .int 0])), (xa39, .inl (kJ, 23, .inr (.inl g_165)))]) [0, 1] (by decide) rfl
  have hFc := va_free (wc := [(xa38, .inr (4, [.ref xa39, .ref xa40, .int 0])), (xa39, .inl (kJ, 23, .inr (.inl g_165)))]) hD hS hA [0, 1] rfl
  refine va_callv (va_runV (As := [.int 4]) (rest := []) ⟨hx, hb, hml, hown, hts⟩ (k4_sendNext_4 l dC dI kB kI kJ kZ kC kS H.size xa38 xa39 xa40 g_165) (cwV 1 hts gX4_leastFor_X4_sendNext rfl rfl rfl (by decide +kernel) ⟨Nat.le_of_ble_eq_true rfl, Nat.le_of_ble_eq_true rfl⟩) ⟨fun a U g mk q => by obtain ⟨q0, q1, qP, qE, qD⟩ := q; exact ⟨q0, q1, qP, kE_call qE, qD⟩, va_recv hK hP (ci := 4) (q0 := 0) rfl rfl, fun U hU hW => ⟨rfl, by rw [hU], by rw [hU]; exact hPc, kE_warm hW hE, hDc.weaken (fun _ _ _ _ => trivial)⟩⟩ rfl rfl hl.1 rfl (lv_room (Nat.le_of_ble_eq_true rfl)) dX4_leastFor_17 ⟨Nat.le_of_ble_eq_true rfl, Nat.le_of_ble_eq_true rfl⟩) hS (fun q _ h => hFc q h) hFc (fun u t H1 locs ht hvm w178 hB hz1 hk1 hS => ?_)
  obtain ⟨g_179, f180, f181, f182, f183, f184, hP1, hD1⟩ := hB
  rw [ht] at hP1
  try dsimp only at w178
  obtain ⟨hP, hD⟩ := va_join (wr := []) (w1 := [(xa38, .inr (4, [.ref xa39, .ref xa40, .int 0])), (xa39, .inl (kJ, 23, .inr (.inl g_179)))]) hP hD [0, 1] [] rfl rfl (by decide) (by decide) hk1 hFc hP1 hD1
  generalize H1 = H at hP hS ⊢
  have hP : va_P (dC, dI) vwCl [(xa38, .inr (4, [.ref xa39, .ref xa40, .int 0])), (xa39, .inl (kJ, 23, .inr (.inl g_179)))] H := hP
  have hD : va_D A [(xa38, .inr (4, [.ref xa39, .ref xa40, .int 0])), (xa39, .inl (kJ, 23, .inr (.inl g_179)))] := hD
  refine W.widen (k := 0) (n := 0) (Nat.le_of_ble_eq_true rfl) (Nat.le_of_ble_eq_true rfl) ?_
  have hF13_0 : g_179 0 = kv4 13 0 := by rw [f180, hF12_0]; exact kvs4_0 12 (by decide)
  have hF13_1 : g_179 1 = kv4 13 1 := by rw [f181, hF12_0, hF12_1]; exact kvs4_1 12 (by decide)
  have hF13_2 : g_179 2 = kv4 13 2 := by rw [f182, hF12_1, hF12_2]; exact kvs4_2 12 (by decide)
  have hF13_3 : g_179 3 = kv4 13 3 := by rw [f183, hF12_2, hF12_3]; exact kvs4_3 12 (by decide)
  have hF13_4 : g_179 4 = kv4 13 4 := by rw [f184, hF12_3, hF12_4]; exact kvs4_4 12 (by decide)
  refine lv_ldc2 hx hb hown (hts (.constantLong RX4 23 (1000000000000)) (List.mem_of_getElem? (i := 1) (by decide +kernel))) dX4_leastFor_20 ?_
  refine lv_aload_n hx hb dX4_leastFor_23 rfl (lv_at hl 1 rfl) ?_
  refine va_get (D := (dC, dI)) (ci := 4) (v := .ref xa39) (C := RX4) (T := TX4) (N := 3) hx hb hts hin4 hown hK hP 0 rfl rfl 0 (by decide) (hts (.fieldLink RX4 9 "PathProber$Odds" "met" "[J") (List.mem_of_getElem? (i := 2) (by decide +kernel))) (fun _ h9 => h9) rfl dX4_leastFor_24 ?_
  refine lv_iload_n hx hb dX4_leastFor_27 rfl (lv_at hl 2 rfl) ?_
  refine va_lald hx hb hK hP 1 2 rfl rfl (vp_in_nI (n := 4) (by decide) (by decide)) dX4_leastFor_28 ?_
  refine lv_topl (fun z185 e186 => ?_)
  obtain rfl : z185 = (905703306200 : Int64) := e186.trans (hF13_4.trans (by decide +kernel))
  refine lv_lsub hx hb dX4_leastFor_29 ?_
  refine lv_topl (fun z187 e188 => ?_)
  obtain rfl : z187 = (94296693800 : Int64) := e188.trans (by decide)
  refine lv_lload_n hx hb dX4_leastFor_30 rfl (lv_at hl 3 rfl) ?_
  refine W.lcmp hx hb dX4_leastFor_31 ?_
  refine lv_topi (fun z189 e190 => ?_)
  obtain rfl : z189 = (1 : Int32) := e190.trans (by decide)
  refine lv_if_ge (tgt := 38) hx hb dX4_leastFor_32 (by decide) (fun _ => ?_) (fun c9 => absurd (by decide) c9)
  refine lv_iinc (v := 14) (lv' := [(4, .int 14), (0, .ref xa38), (1, .int 4), (2, .long 50000000000)]) hx hb dX4_leastFor_38 hl (k := 0) rfl (by decide) (by decide) rfl (fun ls hl => ?_)
  refine lv_goto (tgt := 8) hx hb dX4_leastFor_41 (by decide) ?_
  refine lv_iload hx hb dX4_leastFor_8 (lv_at hl 0 rfl) ?_
  refine lv_bipush (v := 60) hx hb dX4_leastFor_10 (by decide) ?_
  refine lv_icmp_gt (tgt := 44) hx hb dX4_leastFor_12 (by decide) (fun c9 => absurd c9 (by decide)) (fun _ => ?_)
  refine lv_aload_n hx hb dX4_leastFor_15 rfl (lv_at hl 1 rfl) ?_
  refine lv_iload_n hx hb dX4_leastFor_16 rfl (lv_at hl 2 rfl) ?_
  have hPc := hP.sub (ws' := [(xa38, .inr (4, [.ref xa39, .ref xa40, .int 0])), (xa39, .inl (kJ, 23, .inr (.inl g_179)))]) [0, 1] rfl
  have hDc := hD.sub (ws' := [(xa38, .inr (4, [.ref xa39, .ref xa40, .int 0])), (xa39, .inl (kJ, 23, .inr (.inl g_179)))]) [0, 1] (by decide) rfl
  have hFc := va_free (wc := [(xa38, .inr (4, [.ref xa39, .ref xa40, .int 0])), (xa39, .inl (kJ, 23, .inr (.inl g_179)))]) hD hS hA [0, 1] rfl
  refine va_callv (va_runV (As := [.int 4]) (rest := []) ⟨hx, hb, hml, hown, hts⟩ (k4_sendNext_4 l dC dI kB kI kJ kZ kC kS H.size xa38 xa39 xa40 g_179) (cwV 1 hts gX4_leastFor_X4_sendNext rfl rfl rfl (by decide +kernel) ⟨Nat.le_of_ble_eq_true rfl, Nat.le_of_ble_eq_true rfl⟩) ⟨fun a U g mk q => by obtain ⟨q0, q1, qP, qE, qD⟩ := q; exact ⟨q0, q1, qP, kE_call qE, qD⟩, va_recv hK hP (ci := 4) (q0 := 0) rfl rfl, fun U hU hW => ⟨rfl, by rw [hU], by rw [hU]; exact hPc, kE_warm hW hE, hDc.weaken (fun _ _ _ _ => trivial)⟩⟩ rfl rfl hl.1 rfl (lv_room (Nat.le_of_ble_eq_true rfl)) dX4_leastFor_17 ⟨Nat.le_of_ble_eq_true rfl, Nat.le_of_ble_eq_true rfl⟩) hS (fun q _ h => hFc q h) hFc (fun u t H1 locs ht hvm w192 hB hz1 hk1 hS => ?_)
  obtain ⟨g_193, f194, f195, f196, f197, f198, hP1, hD1⟩ := hB
  rw [ht] at hP1
  try dsimp only at w192
  obtain ⟨hP, hD⟩ := va_join (wr := []) (w1 := [(xa38, .inr (4, [.ref xa39, .ref xa40, .int 0])), (xa39, .inl (kJ, 23, .inr (.inl g_193)))]) hP hD [0, 1] [] rfl rfl (by decide) (by decide) hk1 hFc hP1 hD1
  generalize H1 = H at hP hS ⊢
  have hP : va_P (dC, dI) vwCl [(xa38, .inr (4, [.ref xa39, .ref xa40, .int 0])), (xa39, .inl (kJ, 23, .inr (.inl g_193)))] H := hP
  have hD : va_D A [(xa38, .inr (4, [.ref xa39, .ref xa40, .int 0])), (xa39, .inl (kJ, 23, .inr (.inl g_193)))] := hD
  refine W.widen (k := 0) (n := 0) (Nat.le_of_ble_eq_true rfl) (Nat.le_of_ble_eq_true rfl) ?_
  have hF14_0 : g_193 0 = kv4 14 0 := by rw [f194, hF13_0]; exact kvs4_0 13 (by decide)
  have hF14_1 : g_193 1 = kv4 14 1 := by rw [f195, hF13_0, hF13_1]; exact kvs4_1 13 (by decide)
  have hF14_2 : g_193 2 = kv4 14 2 := by rw [f196, hF13_1, hF13_2]; exact kvs4_2 13 (by decide)
  have hF14_3 : g_193 3 = kv4 14 3 := by rw [f197, hF13_2, hF13_3]; exact kvs4_3 13 (by decide)
  have hF14_4 : g_193 4 = kv4 14 4 := by rw [f198, hF13_3, hF13_4]; exact kvs4_4 13 (by decide)
  refine lv_ldc2 hx hb hown (hts (.constantLong RX4 23 (1000000000000)) (List.mem_of_getElem? (i := 1) (by decide +kernel))) dX4_leastFor_20 ?_
  refine lv_aload_n hx hb dX4_leastFor_23 rfl (lv_at hl 1 rfl) ?_
  refine va_get (D := (dC, dI)) (ci := 4) (v := .ref xa39) (C := RX4) (T := TX4) (N := 3) hx hb hts hin4 hown hK hP 0 rfl rfl 0 (by decide) (hts (.fieldLink RX4 9 "PathProber$Odds" "met" "[J") (List.mem_of_getElem? (i := 2) (by decide +kernel))) (fun _ h9 => h9) rfl dX4_leastFor_24 ?_
  refine lv_iload_n hx hb dX4_leastFor_27 rfl (lv_at hl 2 rfl) ?_
  refine va_lald hx hb hK hP 1 2 rfl rfl (vp_in_nI (n := 4) (by decide) (by decide)) dX4_leastFor_28 ?_
  refine lv_topl (fun z199 e200 => ?_)
  obtain rfl : z199 = (929094403984 : Int64) := e200.trans (hF14_4.trans (by decide +kernel))
  refine lv_lsub hx hb dX4_leastFor_29 ?_
  refine lv_topl (fun z201 e202 => ?_)
  obtain rfl : z201 = (70905596016 : Int64) := e202.trans (by decide)
  refine lv_lload_n hx hb dX4_leastFor_30 rfl (lv_at hl 3 rfl) ?_
  refine W.lcmp hx hb dX4_leastFor_31 ?_
  refine lv_topi (fun z203 e204 => ?_)
  obtain rfl : z203 = (1 : Int32) := e204.trans (by decide)
  refine lv_if_ge (tgt := 38) hx hb dX4_leastFor_32 (by decide) (fun _ => ?_) (fun c9 => absurd (by decide) c9)
  refine lv_iinc (v := 15) (lv' := [(4, .int 15), (0, .ref xa38), (1, .int 4), (2, .long 50000000000)]) hx hb dX4_leastFor_38 hl (k := 0) rfl (by decide) (by decide) rfl (fun ls hl => ?_)
  refine lv_goto (tgt := 8) hx hb dX4_leastFor_41 (by decide) ?_
  refine lv_iload hx hb dX4_leastFor_8 (lv_at hl 0 rfl) ?_
  refine lv_bipush (v := 60) hx hb dX4_leastFor_10 (by decide) ?_
  refine lv_icmp_gt (tgt := 44) hx hb dX4_leastFor_12 (by decide) (fun c9 => absurd c9 (by decide)) (fun _ => ?_)
  refine lv_aload_n hx hb dX4_leastFor_15 rfl (lv_at hl 1 rfl) ?_
  refine lv_iload_n hx hb dX4_leastFor_16 rfl (lv_at hl 2 rfl) ?_
  have hPc := hP.sub (ws' := [(xa38, .inr (4, [.ref xa39, .ref xa40, .int 0])), (xa39, .inl (kJ, 23, .inr (.inl g_193)))]) [0, 1] rfl
  have hDc := hD.sub (ws' := [(xa38, .inr (4, [.ref xa39, .ref xa40, .int 0])), (xa39, .inl (kJ, 23, .inr (.inl g_193)))]) [0, 1] (by decide) rfl
  have hFc := va_free (wc := [(xa38, .inr (4, [.ref xa39, .ref xa40, .int 0])), (xa39, .inl (kJ, 23, .inr (.inl g_193)))]) hD hS hA [0, 1] rfl
  refine va_callv (va_runV (As := [.int 4]) (rest := []) ⟨hx, hb, hml, hown, hts⟩ (k4_sendNext_4 l dC dI kB kI kJ kZ kC kS H.size xa38 xa39 xa40 g_193) (cwV 1 hts gX4_leastFor_X4_sendNext rfl rfl rfl (by decide +kernel) ⟨Nat.le_of_ble_eq_true rfl, Nat.le_of_ble_eq_true rfl⟩) ⟨fun a U g mk q => by obtain ⟨q0, q1, qP, qE, qD⟩ := q; exact ⟨q0, q1, qP, kE_call qE, qD⟩, va_recv hK hP (ci := 4) (q0 := 0) rfl rfl, fun U hU hW => ⟨rfl, by rw [hU], by rw [hU]; exact hPc, kE_warm hW hE, hDc.weaken (fun _ _ _ _ => trivial)⟩⟩ rfl rfl hl.1 rfl (lv_room (Nat.le_of_ble_eq_true rfl)) dX4_leastFor_17 ⟨Nat.le_of_ble_eq_true rfl, Nat.le_of_ble_eq_true rfl⟩) hS (fun q _ h => hFc q h) hFc (fun u t H1 locs ht hvm w206 hB hz1 hk1 hS => ?_)
  obtain ⟨g_207, f208, f209, f210, f211, f212, hP1, hD1⟩ := hB
  rw [ht] at hP1
  try dsimp only at w206
  obtain ⟨hP, hD⟩ := va_join (wr := []) (w1 := [(xa38, .inr (4, [.ref xa39, .ref xa40, .int 0])), (xa39, .inl (kJ, 23, .inr (.inl g_207)))]) hP hD [0, 1] [] rfl rfl (by decide) (by decide) hk1 hFc hP1 hD1
  generalize H1 = H at hP hS ⊢
  have hP : va_P (dC, dI) vwCl [(xa38, .inr (4, [.ref xa39, .ref xa40, .int 0])), (xa39, .inl (kJ, 23, .inr (.inl g_207)))] H := hP
  have hD : va_D A [(xa38, .inr (4, [.ref xa39, .ref xa40, .int 0])), (xa39, .inl (kJ, 23, .inr (.inl g_207)))] := hD
  refine W.widen (k := 0) (n := 0) (Nat.le_of_ble_eq_true rfl) (Nat.le_of_ble_eq_true rfl) ?_
  have hF15_0 : g_207 0 = kv4 15 0 := by rw [f208, hF14_0]; exact kvs4_0 14 (by decide)
  have hF15_1 : g_207 1 = kv4 15 1 := by rw [f209, hF14_0, hF14_1]; exact kvs4_1 14 (by decide)
  have hF15_2 : g_207 2 = kv4 15 2 := by rw [f210, hF14_1, hF14_2]; exact kvs4_2 14 (by decide)
  have hF15_3 : g_207 3 = kv4 15 3 := by rw [f211, hF14_2, hF14_3]; exact kvs4_3 14 (by decide)
  have hF15_4 : g_207 4 = kv4 15 4 := by rw [f212, hF14_3, hF14_4]; exact kvs4_4 14 (by decide)
  refine lv_ldc2 hx hb hown (hts (.constantLong RX4 23 (1000000000000)) (List.mem_of_getElem? (i := 1) (by decide +kernel))) dX4_leastFor_20 ?_
  refine lv_aload_n hx hb dX4_leastFor_23 rfl (lv_at hl 1 rfl) ?_
  refine va_get (D := (dC, dI)) (ci := 4) (v := .ref xa39) (C := RX4) (T := TX4) (N := 3) hx hb hts hin4 hown hK hP 0 rfl rfl 0 (by decide) (hts (.fieldLink RX4 9 "PathProber$Odds" "met" "[J") (List.mem_of_getElem? (i := 2) (by decide +kernel))) (fun _ h9 => h9) rfl dX4_leastFor_24 ?_
  refine lv_iload_n hx hb dX4_leastFor_27 rfl (lv_at hl 2 rfl) ?_
  refine va_lald hx hb hK hP 1 2 rfl rfl (vp_in_nI (n := 4) (by decide) (by decide)) dX4_leastFor_28 ?_
  refine lv_topl (fun z213 e214 => ?_)
  obtain rfl : z213 = (946729257705 : Int64) := e214.trans (hF15_4.trans (by decide +kernel))
  refine lv_lsub hx hb dX4_leastFor_29 ?_
  refine lv_topl (fun z215 e216 => ?_)
  obtain rfl : z215 = (53270742295 : Int64) := e216.trans (by decide)
  refine lv_lload_n hx hb dX4_leastFor_30 rfl (lv_at hl 3 rfl) ?_
  refine W.lcmp hx hb dX4_leastFor_31 ?_
  refine lv_topi (fun z217 e218 => ?_)
  obtain rfl : z217 = (1 : Int32) := e218.trans (by decide)
  refine lv_if_ge (tgt := 38) hx hb dX4_leastFor_32 (by decide) (fun _ => ?_) (fun c9 => absurd (by decide) c9)
  refine lv_iinc (v := 16) (lv' := [(4, .int 16), (0, .ref xa38), (1, .int 4), (2, .long 50000000000)]) hx hb dX4_leastFor_38 hl (k := 0) rfl (by decide) (by decide) rfl (fun ls hl => ?_)
  refine lv_goto (tgt := 8) hx hb dX4_leastFor_41 (by decide) ?_
  refine lv_iload hx hb dX4_leastFor_8 (lv_at hl 0 rfl) ?_
  refine lv_bipush (v := 60) hx hb dX4_leastFor_10 (by decide) ?_
  refine lv_icmp_gt (tgt := 44) hx hb dX4_leastFor_12 (by decide) (fun c9 => absurd c9 (by decide)) (fun _ => ?_)
  refine lv_aload_n hx hb dX4_leastFor_15 rfl (lv_at hl 1 rfl) ?_
  refine lv_iload_n hx hb dX4_leastFor_16 rfl (lv_at hl 2 rfl) ?_
  have hPc := hP.sub (ws' := [(xa38, .inr (4, [.ref xa39, .ref xa40, .int 0])), (xa39, .inl (kJ, 23, .inr (.inl g_207)))]) [0, 1] rfl
  have hDc := hD.sub (ws' := [(xa38, .inr (4, [.ref xa39, .ref xa40, .int 0])), (xa39, .inl (kJ, 23, .inr (.inl g_207)))]) [0, 1] (by decide) rfl
  have hFc := va_free (wc := [(xa38, .inr (4, [.ref xa39, .ref xa40, .int 0])), (xa39, .inl (kJ, 23, .inr (.inl g_207)))]) hD hS hA [0, 1] rfl
  refine va_callv (va_runV (As := [.int 4]) (rest := []) ⟨hx, hb, hml, hown, hts⟩ (k4_sendNext_4 l dC dI kB kI kJ kZ kC kS H.size xa38 xa39 xa40 g_207) (cwV 1 hts gX4_leastFor_X4_sendNext rfl rfl rfl (by decide +kernel) ⟨Nat.le_of_ble_eq_true rfl, Nat.le_of_ble_eq_true rfl⟩) ⟨fun a U g mk q => by obtain ⟨q0, q1, qP, qE, qD⟩ := q; exact ⟨q0, q1, qP, kE_call qE, qD⟩, va_recv hK hP (ci := 4) (q0 := 0) rfl rfl, fun U hU hW => ⟨rfl, by rw [hU], by rw [hU]; exact hPc, kE_warm hW hE, hDc.weaken (fun _ _ _ _ => trivial)⟩⟩ rfl rfl hl.1 rfl (lv_room (Nat.le_of_ble_eq_true rfl)) dX4_leastFor_17 ⟨Nat.le_of_ble_eq_true rfl, Nat.le_of_ble_eq_true rfl⟩) hS (fun q _ h => hFc q h) hFc (fun u t H1 locs ht hvm w220 hB hz1 hk1 hS => ?_)
  obtain ⟨g_221, f222, f223, f224, f225, f226, hP1, hD1⟩ := hB
  rw [ht] at hP1
  try dsimp only at w220
  obtain ⟨hP, hD⟩ := va_join (wr := []) (w1 := [(xa38, .inr (4, [.ref xa39, .ref xa40, .int 0])), (xa39, .inl (kJ, 23, .inr (.inl g_221)))]) hP hD [0, 1] [] rfl rfl (by decide) (by decide) hk1 hFc hP1 hD1
  generalize H1 = H at hP hS ⊢
  have hP : va_P (dC, dI) vwCl [(xa38, .inr (4, [.ref xa39, .ref xa40, .int 0])), (xa39, .inl (kJ, 23, .inr (.inl g_221)))] H := hP
  have hD : va_D A [(xa38, .inr (4, [.ref xa39, .ref xa40, .int 0])), (xa39, .inl (kJ, 23, .inr (.inl g_221)))] := hD
  refine W.widen (k := 0) (n := 0) (Nat.le_of_ble_eq_true rfl) (Nat.le_of_ble_eq_true rfl) ?_
  have hF16_0 : g_221 0 = kv4 16 0 := by rw [f222, hF15_0]; exact kvs4_0 15 (by decide)
  have hF16_1 : g_221 1 = kv4 16 1 := by rw [f223, hF15_0, hF15_1]; exact kvs4_1 15 (by decide)
  have hF16_2 : g_221 2 = kv4 16 2 := by rw [f224, hF15_1, hF15_2]; exact kvs4_2 15 (by decide)
  have hF16_3 : g_221 3 = kv4 16 3 := by rw [f225, hF15_2, hF15_3]; exact kvs4_3 15 (by decide)
  have hF16_4 : g_221 4 = kv4 16 4 := by rw [f226, hF15_3, hF15_4]; exact kvs4_4 15 (by decide)
  refine lv_ldc2 hx hb hown (hts (.constantLong RX4 23 (1000000000000)) (List.mem_of_getElem? (i := 1) (by decide +kernel))) dX4_leastFor_20 ?_
  refine lv_aload_n hx hb dX4_leastFor_23 rfl (lv_at hl 1 rfl) ?_
  refine va_get (D := (dC, dI)) (ci := 4) (v := .ref xa39) (C := RX4) (T := TX4) (N := 3) hx hb hts hin4 hown hK hP 0 rfl rfl 0 (by decide) (hts (.fieldLink RX4 9 "PathProber$Odds" "met" "[J") (List.mem_of_getElem? (i := 2) (by decide +kernel))) (fun _ h9 => h9) rfl dX4_leastFor_24 ?_
  refine lv_iload_n hx hb dX4_leastFor_27 rfl (lv_at hl 2 rfl) ?_
  refine va_lald hx hb hK hP 1 2 rfl rfl (vp_in_nI (n := 4) (by decide) (by decide)) dX4_leastFor_28 ?_
  refine lv_topl (fun z227 e228 => ?_)
  obtain rfl : z227 = (960001168775 : Int64) := e228.trans (hF16_4.trans (by decide +kernel))
  refine lv_lsub hx hb dX4_leastFor_29 ?_
  refine lv_topl (fun z229 e230 => ?_)
  obtain rfl : z229 = (39998831225 : Int64) := e230.trans (by decide)
  refine lv_lload_n hx hb dX4_leastFor_30 rfl (lv_at hl 3 rfl) ?_
  refine W.lcmp hx hb dX4_leastFor_31 ?_
  refine lv_topi (fun z231 e232 => ?_)
  obtain rfl : z231 = ((-1) : Int32) := e232.trans (by decide)
  refine lv_if_ge (tgt := 38) hx hb dX4_leastFor_32 (by decide) (fun c9 => absurd c9 (by decide)) (fun _ => ?_)
  refine lv_iload hx hb dX4_leastFor_35 (lv_at hl 0 rfl) ?_
  have hP9 := hP.sub (ws' := [(xa38, .inr (4, [.ref xa39, .ref xa40, .int 0])), (xa39, .inl (kJ, 23, .inr (.inl g_221)))]) [0, 1] rfl
  have hD9 := hD.sub (ws' := [(xa38, .inr (4, [.ref xa39, .ref xa40, .int 0])), (xa39, .inl (kJ, 23, .inr (.inl g_221)))]) [0, 1] (by decide) rfl
  exact W.iret (v := 16) hx hb hr (fun t ht hW => ⟨⟨16, (), rfl, rfl, g_221, by rw [ht]; exact hP9, hD9⟩, hS.F ht⟩) hS.2.2 dX4_leastFor_37
def rm_k4_leastFor_5 : Room := { frames := 1, cells := 0, slots := 0, locals := 24 }
set_option maxHeartbeats 4000000 in
set_option maxRecDepth 100000 in
theorem k4_leastFor_5 (l : Launch) (dC : Nat → ClassId) (dI : Nat → Nat → Nat) (kB kI kJ kZ kC kS : ClassId) (sz : Nat) (xa38 : Nat) (xa39 : Nat) (xa40 : Nat) (f1 : Nat → Int64) : Met l yX4_leastFor wsX4_leastFor rm_k4_leastFor_5 (va_Pc [.ref xa38, .int 5, .long 50000000000] (fun U => U.heap.size = sz ∧ va_P (dC, dI) vwCl [(xa38, .inr (4, [.ref xa39, .ref xa40, .int 0])), (xa39, .inl (kJ, 23, .inr (.inl f1)))] U.heap ∧ kE dC dI kB kI kJ kZ kC kS U ∧ va_D (fun _ => True) [(xa38, .inr (4, [.ref xa39, .ref xa40, .int 0])), (xa39, .inl (kJ, 23, .inr (.inl f1)))])) (va_Qi (fun (r : Int32) (_ : Unit) => r = 21) (fun _ t => ∃ (g1 : Nat → Int64), va_P (dC, dI) vwCl [(xa38, .inr (4, [.ref xa39, .ref xa40, .int 0])), (xa39, .inl (kJ, 23, .inr (.inl g1)))] t.heap ∧ va_D (va_A [(xa38, .inr (4, [.ref xa39, .ref xa40, .int 0])), (xa39, .inl (kJ, 23, .inr (.inl f1)))] sz) [(xa38, .inr (4, [.ref xa39, .ref xa40, .int 0])), (xa39, .inl (kJ, 23, .inr (.inl g1)))]) (va_A [(xa38, .inr (4, [.ref xa39, .ref xa40, .int 0])), (xa39, .inl (kJ, 23, .inr (.inl f1)))] sz)) 0 0 (va_A [(xa38, .inr (4, [.ref xa39, .ref xa40, .int 0])), (xa39, .inl (kJ, 23, .inr (.inl f1)))] sz) := by
  refine Met.ofW (cc := cX4_leastFor) (maxL := 5) (ret := (some .int)) (by decide) rfl ?_
  intro p e s m args0 below meth c s₁ B hml hv
  obtain ⟨hargs, hsz, hP, hE, hD0⟩ := hv
  have hx := B.exec
  have hb := B.bytes
  have hr := B.returns
  have hts := atoms_spec (ws := wsX4_leastFor) B.pre
  have hown : s.vm.findClass RX4 = some m.cls := findClass_of_methodNamed B.named
  have hlocks := B.notSynchronized
  have hK := hE.1
  have hin4 : ∀ w ∈ wsX40, w ∈ wsX4_leastFor := fun _ h9 => List.mem_cons_of_mem _ (List.mem_append_right _ h9)
  subst hsz
  have hD := hD0.self (sz := s.heap.size)
  generalize hAe : va_A [(xa38, .inr (4, [.ref xa39, .ref xa40, .int 0])), (xa39, .inl (kJ, 23, .inr (.inl f1)))] s.heap.size = A at hD ⊢
  have hA : ∀ q : Nat, s.heap.size ≤ q → A q := fun q h => by rw [← hAe]; exact Or.inr h
  have hS : va_S A s.heap s.heap [] := va_S.rf
  have hP : va_P (dC, dI) vwCl [(xa38, .inr (4, [.ref xa39, .ref xa40, .int 0])), (xa39, .inl (kJ, 23, .inr (.inl f1)))] s.heap := hP
  have hl := lv_entry ([.ref xa38, .int 5, .long 50000000000]) (n := 5) (Nat.le_of_ble_eq_true rfl)
  have hla : entryFrame m args0 5 = entryFrame m ([.ref xa38, .int 5, .long 50000000000] : List Value).toArray 5 := by rw [hargs]
  rw [hla, lg_entry_eq]
  generalize (lg_sl ([.ref xa38, .int 5, .long 50000000000]) ++ List.replicate (5 - (lg_sl ([.ref xa38, .int 5, .long 50000000000])).length) Slot.unset).toArray = ls at hl ⊢
  have hl : lv_has ls 5 [(0, .ref xa38), (1, .int 5), (2, .long 50000000000)] := hl
  refine lv_aload_n hx hb dX4_leastFor_0 rfl (lv_at hl 0 rfl) ?_
  refine lv_iload_n hx hb dX4_leastFor_1 rfl (lv_at hl 1 rfl) ?_
  have hPc := hP.sub (ws' := [(xa38, .inr (4, [.ref xa39, .ref xa40, .int 0])), (xa39, .inl (kJ, 23, .inr (.inl f1)))]) [0, 1] rfl
  have hDc := hD.sub (ws' := [(xa38, .inr (4, [.ref xa39, .ref xa40, .int 0])), (xa39, .inl (kJ, 23, .inr (.inl f1)))]) [0, 1] (by decide) rfl
  have hFc := va_free (wc := [(xa38, .inr (4, [.ref xa39, .ref xa40, .int 0])), (xa39, .inl (kJ, 23, .inr (.inl f1)))]) hD hS hA [0, 1] rfl
  refine va_callv (va_runV (As := [.int 5]) (rest := []) ⟨hx, hb, hml, hown, hts⟩ (k4_begin_5 l dC dI kB kI kJ kZ kC kS s.heap.size xa38 xa39 xa40 f1) (cwV 1 hts gX4_leastFor_X4_begin rfl rfl rfl (by decide +kernel) ⟨Nat.le_of_ble_eq_true rfl, Nat.le_of_ble_eq_true rfl⟩) ⟨fun a U g mk q => by obtain ⟨q0, q1, qP, qE, qD⟩ := q; exact ⟨q0, q1, qP, kE_call qE, qD⟩, va_recv hK hP (ci := 4) (q0 := 0) rfl rfl, fun U hU hW => ⟨rfl, by rw [hU], by rw [hU]; exact hPc, kE_warm hW hE, hDc.weaken (fun _ _ _ _ => trivial)⟩⟩ rfl rfl hl.1 rfl (lv_room (Nat.le_of_ble_eq_true rfl)) dX4_leastFor_2 ⟨Nat.le_of_ble_eq_true rfl, Nat.le_of_ble_eq_true rfl⟩) hS (fun q _ h => hFc q h) hFc (fun u t H1 locs ht hvm w2 hB hz1 hk1 hS => ?_)
  obtain ⟨g_3, f4, f5, f6, f7, f8, f9, hP1, hD1⟩ := hB
  rw [ht] at hP1
  try dsimp only at w2
  obtain ⟨hP, hD⟩ := va_join (wr := []) (w1 := [(xa38, .inr (4, [.ref xa39, .ref xa40, .int 0])), (xa39, .inl (kJ, 23, .inr (.inl g_3)))]) hP hD [0, 1] [] rfl rfl (by decide) (by decide) hk1 hFc hP1 hD1
  generalize H1 = H at hP hS ⊢
  have hP : va_P (dC, dI) vwCl [(xa38, .inr (4, [.ref xa39, .ref xa40, .int 0])), (xa39, .inl (kJ, 23, .inr (.inl g_3)))] H := hP
  have hD : va_D A [(xa38, .inr (4, [.ref xa39, .ref xa40, .int 0])), (xa39, .inl (kJ, 23, .inr (.inl g_3)))] := hD
  refine W.widen (k := 0) (n := 0) (Nat.le_of_ble_eq_true rfl) (Nat.le_of_ble_eq_true rfl) ?_
  refine lv_iconst (v := 1) hx hb dX4_leastFor_5 (by decide) ?_
  refine lv_istore (lv' := [(4, .int 1), (0, .ref xa38), (1, .int 5), (2, .long 50000000000)]) hx hb dX4_leastFor_6 hl (by decide) rfl (fun ls hl => ?_)
  refine lv_iload hx hb dX4_leastFor_8 (lv_at hl 0 rfl) ?_
  refine lv_bipush (v := 60) hx hb dX4_leastFor_10 (by decide) ?_
  refine lv_icmp_gt (tgt := 44) hx hb dX4_leastFor_12 (by decide) (fun c9 => absurd c9 (by decide)) (fun _ => ?_)
  refine lv_aload_n hx hb dX4_leastFor_15 rfl (lv_at hl 1 rfl) ?_
  refine lv_iload_n hx hb dX4_leastFor_16 rfl (lv_at hl 2 rfl) ?_
  have hPc := hP.sub (ws' := [(xa38, .inr (4, [.ref xa39, .ref xa40, .int 0])), (xa39, .inl (kJ, 23, .inr (.inl g_3)))]) [0, 1] rfl
  have hDc := hD.sub (ws' := [(xa38, .inr (4, [.ref xa39, .ref xa40, .int 0])), (xa39, .inl (kJ, 23, .inr (.inl g_3)))]) [0, 1] (by decide) rfl
  have hFc := va_free (wc := [(xa38, .inr (4, [.ref xa39, .ref xa40, .int 0])), (xa39, .inl (kJ, 23, .inr (.inl g_3)))]) hD hS hA [0, 1] rfl
  refine va_callv (va_runV (As := [.int 5]) (rest := []) ⟨hx, hb, hml, hown, hts⟩ (k4_sendNext_5 l dC dI kB kI kJ kZ kC kS H.size xa38 xa39 xa40 g_3) (cwV 1 hts gX4_leastFor_X4_sendNext rfl rfl rfl (by decide +kernel) ⟨Nat.le_of_ble_eq_true rfl, Nat.le_of_ble_eq_true rfl⟩) ⟨fun a U g mk q => by obtain ⟨q0, q1, qP, qE, qD⟩ := q; exact ⟨q0, q1, qP, kE_call qE, qD⟩, va_recv hK hP (ci := 4) (q0 := 0) rfl rfl, fun U hU hW => ⟨rfl, by rw [hU], by rw [hU]; exact hPc, kE_warm hW hE, hDc.weaken (fun _ _ _ _ => trivial)⟩⟩ rfl rfl hl.1 rfl (lv_room (Nat.le_of_ble_eq_true rfl)) dX4_leastFor_17 ⟨Nat.le_of_ble_eq_true rfl, Nat.le_of_ble_eq_true rfl⟩) hS (fun q _ h => hFc q h) hFc (fun u t H1 locs ht hvm w11 hB hz1 hk1 hS => ?_)
  obtain ⟨g_12, f13, f14, f15, f16, f17, f18, hP1, hD1⟩ := hB
  rw [ht] at hP1
  try dsimp only at w11
  obtain ⟨hP, hD⟩ := va_join (wr := []) (w1 := [(xa38, .inr (4, [.ref xa39, .ref xa40, .int 0])), (xa39, .inl (kJ, 23, .inr (.inl g_12)))]) hP hD [0, 1] [] rfl rfl (by decide) (by decide) hk1 hFc hP1 hD1
  generalize H1 = H at hP hS ⊢
  have hP : va_P (dC, dI) vwCl [(xa38, .inr (4, [.ref xa39, .ref xa40, .int 0])), (xa39, .inl (kJ, 23, .inr (.inl g_12)))] H := hP
  have hD : va_D A [(xa38, .inr (4, [.ref xa39, .ref xa40, .int 0])), (xa39, .inl (kJ, 23, .inr (.inl g_12)))] := hD
  refine W.widen (k := 0) (n := 0) (Nat.le_of_ble_eq_true rfl) (Nat.le_of_ble_eq_true rfl) ?_
  have hF1_0 : g_12 0 = kv5 1 0 := by rw [f13, f4]; exact kvs5_0 0 (by decide)
  have hF1_1 : g_12 1 = kv5 1 1 := by rw [f14, f4, f5]; exact kvs5_1 0 (by decide)
  have hF1_2 : g_12 2 = kv5 1 2 := by rw [f15, f5, f6]; exact kvs5_2 0 (by decide)
  have hF1_3 : g_12 3 = kv5 1 3 := by rw [f16, f6, f7]; exact kvs5_3 0 (by decide)
  have hF1_4 : g_12 4 = kv5 1 4 := by rw [f17, f7, f8]; exact kvs5_4 0 (by decide)
  have hF1_5 : g_12 5 = kv5 1 5 := by rw [f18, f8, f9]; exact kvs5_5 0 (by decide)
  refine lv_ldc2 hx hb hown (hts (.constantLong RX4 23 (1000000000000)) (List.mem_of_getElem? (i := 1) (by decide +kernel))) dX4_leastFor_20 ?_
  refine lv_aload_n hx hb dX4_leastFor_23 rfl (lv_at hl 1 rfl) ?_
  refine va_get (D := (dC, dI)) (ci := 4) (v := .ref xa39) (C := RX4) (T := TX4) (N := 3) hx hb hts hin4 hown hK hP 0 rfl rfl 0 (by decide) (hts (.fieldLink RX4 9 "PathProber$Odds" "met" "[J") (List.mem_of_getElem? (i := 2) (by decide +kernel))) (fun _ h9 => h9) rfl dX4_leastFor_24 ?_
  refine lv_iload_n hx hb dX4_leastFor_27 rfl (lv_at hl 2 rfl) ?_
  refine va_lald hx hb hK hP 1 2 rfl rfl (vp_in_nI (n := 5) (by decide) (by decide)) dX4_leastFor_28 ?_
  refine lv_topl (fun z19 e20 => ?_)
  obtain rfl : z19 = (0 : Int64) := e20.trans (hF1_5.trans (by decide +kernel))
  refine lv_lsub hx hb dX4_leastFor_29 ?_
  refine lv_topl (fun z21 e22 => ?_)
  obtain rfl : z21 = (1000000000000 : Int64) := e22.trans (by decide)
  refine lv_lload_n hx hb dX4_leastFor_30 rfl (lv_at hl 3 rfl) ?_
  refine W.lcmp hx hb dX4_leastFor_31 ?_
  refine lv_topi (fun z23 e24 => ?_)
  obtain rfl : z23 = (1 : Int32) := e24.trans (by decide)
  refine lv_if_ge (tgt := 38) hx hb dX4_leastFor_32 (by decide) (fun _ => ?_) (fun c9 => absurd (by decide) c9)
  refine lv_iinc (v := 2) (lv' := [(4, .int 2), (0, .ref xa38), (1, .int 5), (2, .long 50000000000)]) hx hb dX4_leastFor_38 hl (k := 0) rfl (by decide) (by decide) rfl (fun ls hl => ?_)
  refine lv_goto (tgt := 8) hx hb dX4_leastFor_41 (by decide) ?_
  refine lv_iload hx hb dX4_leastFor_8 (lv_at hl 0 rfl) ?_
  refine lv_bipush (v := 60) hx hb dX4_leastFor_10 (by decide) ?_
  refine lv_icmp_gt (tgt := 44) hx hb dX4_leastFor_12 (by decide) (fun c9 => absurd c9 (by decide)) (fun _ => ?_)
  refine lv_aload_n hx hb dX4_leastFor_15 rfl (lv_at hl 1 rfl) ?_
  refine lv_iload_n hx hb dX4_leastFor_16 rfl (lv_at hl 2 rfl) ?_
  have hPc := hP.sub (ws' := [(xa38, .inr (4, [.ref xa39, .ref xa40, .int 0])), (xa39, .inl (kJ, 23, .inr (.inl g_12)))]) [0, 1] rfl
  have hDc := hD.sub (ws' := [(xa38, .inr (4, [.ref xa39, .ref xa40, .int 0])), (xa39, .inl (kJ, 23, .inr (.inl g_12)))]) [0, 1] (by decide) rfl
  have hFc := va_free (wc := [(xa38, .inr (4, [.ref xa39, .ref xa40, .int 0])), (xa39, .inl (kJ, 23, .inr (.inl g_12)))]) hD hS hA [0, 1] rfl
  refine va_callv (va_runV (As := [.int 5]) (rest := []) ⟨hx, hb, hml, hown, hts⟩ (k4_sendNext_5 l dC dI kB kI kJ kZ kC kS H.size xa38 xa39 xa40 g_12) (cwV 1 hts gX4_leastFor_X4_sendNext rfl rfl rfl (by decide +kernel) ⟨Nat.le_of_ble_eq_true rfl, Nat.le_of_ble_eq_true rfl⟩) ⟨fun a U g mk q => by obtain ⟨q0, q1, qP, qE, qD⟩ := q; exact ⟨q0, q1, qP, kE_call qE, qD⟩, va_recv hK hP (ci := 4) (q0 := 0) rfl rfl, fun U hU hW => ⟨rfl, by rw [hU], by rw [hU]; exact hPc, kE_warm hW hE, hDc.weaken (fun _ _ _ _ => trivial)⟩⟩ rfl rfl hl.1 rfl (lv_room (Nat.le_of_ble_eq_true rfl)) dX4_leastFor_17 ⟨Nat.le_of_ble_eq_true rfl, Nat.le_of_ble_eq_true rfl⟩) hS (fun q _ h => hFc q h) hFc (fun u t H1 locs ht hvm w26 hB hz1 hk1 hS => ?_)
  obtain ⟨g_27, f28, f29, f30, f31, f32, f33, hP1, hD1⟩ := hB
  rw [ht] at hP1
  try dsimp only at w26
  obtain ⟨hP, hD⟩ := va_join (wr := []) (w1 := [(xa38, .inr (4, [.ref xa39, .ref xa40, .int 0])), (xa39, .inl (kJ, 23, .inr (.inl g_27)))]) hP hD [0, 1] [] rfl rfl (by decide) (by decide) hk1 hFc hP1 hD1
  generalize H1 = H at hP hS ⊢
  have hP : va_P (dC, dI) vwCl [(xa38, .inr (4, [.ref xa39, .ref xa40, .int 0])), (xa39, .inl (kJ, 23, .inr (.inl g_27)))] H := hP
  have hD : va_D A [(xa38, .inr (4, [.ref xa39, .ref xa40, .int 0])), (xa39, .inl (kJ, 23, .inr (.inl g_27)))] := hD
  refine W.widen (k := 0) (n := 0) (Nat.le_of_ble_eq_true rfl) (Nat.le_of_ble_eq_true rfl) ?_
  have hF2_0 : g_27 0 = kv5 2 0 := by rw [f28, hF1_0]; exact kvs5_0 1 (by decide)
  have hF2_1 : g_27 1 = kv5 2 1 := by rw [f29, hF1_0, hF1_1]; exact kvs5_1 1 (by decide)
  have hF2_2 : g_27 2 = kv5 2 2 := by rw [f30, hF1_1, hF1_2]; exact kvs5_2 1 (by decide)
  have hF2_3 : g_27 3 = kv5 2 3 := by rw [f31, hF1_2, hF1_3]; exact kvs5_3 1 (by decide)
  have hF2_4 : g_27 4 = kv5 2 4 := by rw [f32, hF1_3, hF1_4]; exact kvs5_4 1 (by decide)
  have hF2_5 : g_27 5 = kv5 2 5 := by rw [f33, hF1_4, hF1_5]; exact kvs5_5 1 (by decide)
  refine lv_ldc2 hx hb hown (hts (.constantLong RX4 23 (1000000000000)) (List.mem_of_getElem? (i := 1) (by decide +kernel))) dX4_leastFor_20 ?_
  refine lv_aload_n hx hb dX4_leastFor_23 rfl (lv_at hl 1 rfl) ?_
  refine va_get (D := (dC, dI)) (ci := 4) (v := .ref xa39) (C := RX4) (T := TX4) (N := 3) hx hb hts hin4 hown hK hP 0 rfl rfl 0 (by decide) (hts (.fieldLink RX4 9 "PathProber$Odds" "met" "[J") (List.mem_of_getElem? (i := 2) (by decide +kernel))) (fun _ h9 => h9) rfl dX4_leastFor_24 ?_
  refine lv_iload_n hx hb dX4_leastFor_27 rfl (lv_at hl 2 rfl) ?_
  refine va_lald hx hb hK hP 1 2 rfl rfl (vp_in_nI (n := 5) (by decide) (by decide)) dX4_leastFor_28 ?_
  refine lv_topl (fun z34 e35 => ?_)
  obtain rfl : z34 = (0 : Int64) := e35.trans (hF2_5.trans (by decide +kernel))
  refine lv_lsub hx hb dX4_leastFor_29 ?_
  refine lv_topl (fun z36 e37 => ?_)
  obtain rfl : z36 = (1000000000000 : Int64) := e37.trans (by decide)
  refine lv_lload_n hx hb dX4_leastFor_30 rfl (lv_at hl 3 rfl) ?_
  refine W.lcmp hx hb dX4_leastFor_31 ?_
  refine lv_topi (fun z38 e39 => ?_)
  obtain rfl : z38 = (1 : Int32) := e39.trans (by decide)
  refine lv_if_ge (tgt := 38) hx hb dX4_leastFor_32 (by decide) (fun _ => ?_) (fun c9 => absurd (by decide) c9)
  refine lv_iinc (v := 3) (lv' := [(4, .int 3), (0, .ref xa38), (1, .int 5), (2, .long 50000000000)]) hx hb dX4_leastFor_38 hl (k := 0) rfl (by decide) (by decide) rfl (fun ls hl => ?_)
  refine lv_goto (tgt := 8) hx hb dX4_leastFor_41 (by decide) ?_
  refine lv_iload hx hb dX4_leastFor_8 (lv_at hl 0 rfl) ?_
  refine lv_bipush (v := 60) hx hb dX4_leastFor_10 (by decide) ?_
  refine lv_icmp_gt (tgt := 44) hx hb dX4_leastFor_12 (by decide) (fun c9 => absurd c9 (by decide)) (fun _ => ?_)
  refine lv_aload_n hx hb dX4_leastFor_15 rfl (lv_at hl 1 rfl) ?_
  refine lv_iload_n hx hb dX4_leastFor_16 rfl (lv_at hl 2 rfl) ?_
  have hPc := hP.sub (ws' := [(xa38, .inr (4, [.ref xa39, .ref xa40, .int 0])), (xa39, .inl (kJ, 23, .inr (.inl g_27)))]) [0, 1] rfl
  have hDc := hD.sub (ws' := [(xa38, .inr (4, [.ref xa39, .ref xa40, .int 0])), (xa39, .inl (kJ, 23, .inr (.inl g_27)))]) [0, 1] (by decide) rfl
  have hFc := va_free (wc := [(xa38, .inr (4, [.ref xa39, .ref xa40, .int 0])), (xa39, .inl (kJ, 23, .inr (.inl g_27)))]) hD hS hA [0, 1] rfl
  refine va_callv (va_runV (As := [.int 5]) (rest := []) ⟨hx, hb, hml, hown, hts⟩ (k4_sendNext_5 l dC dI kB kI kJ kZ kC kS H.size xa38 xa39 xa40 g_27) (cwV 1 hts gX4_leastFor_X4_sendNext rfl rfl rfl (by decide +kernel) ⟨Nat.le_of_ble_eq_true rfl, Nat.le_of_ble_eq_true rfl⟩) ⟨fun a U g mk q => by obtain ⟨q0, q1, qP, qE, qD⟩ := q; exact ⟨q0, q1, qP, kE_call qE, qD⟩, va_recv hK hP (ci := 4) (q0 := 0) rfl rfl, fun U hU hW => ⟨rfl, by rw [hU], by rw [hU]; exact hPc, kE_warm hW hE, hDc.weaken (fun _ _ _ _ => trivial)⟩⟩ rfl rfl hl.1 rfl (lv_room (Nat.le_of_ble_eq_true rfl)) dX4_leastFor_17 ⟨Nat.le_of_ble_eq_true rfl, Nat.le_of_ble_eq_true rfl⟩) hS (fun q _ h => hFc q h) hFc (fun u t H1 locs ht hvm w41 hB hz1 hk1 hS => ?_)
  obtain ⟨g_42, f43, f44, f45, f46, f47, f48, hP1, hD1⟩ := hB
  rw [ht] at hP1
  try dsimp only at w41
  obtain ⟨hP, hD⟩ := va_join (wr := []) (w1 := [(xa38, .inr (4, [.ref xa39, .ref xa40, .int 0])), (xa39, .inl (kJ, 23, .inr (.inl g_42)))]) hP hD [0, 1] [] rfl rfl (by decide) (by decide) hk1 hFc hP1 hD1
  generalize H1 = H at hP hS ⊢
  have hP : va_P (dC, dI) vwCl [(xa38, .inr (4, [.ref xa39, .ref xa40, .int 0])), (xa39, .inl (kJ, 23, .inr (.inl g_42)))] H := hP
  have hD : va_D A [(xa38, .inr (4, [.ref xa39, .ref xa40, .int 0])), (xa39, .inl (kJ, 23, .inr (.inl g_42)))] := hD
  refine W.widen (k := 0) (n := 0) (Nat.le_of_ble_eq_true rfl) (Nat.le_of_ble_eq_true rfl) ?_
  have hF3_0 : g_42 0 = kv5 3 0 := by rw [f43, hF2_0]; exact kvs5_0 2 (by decide)
  have hF3_1 : g_42 1 = kv5 3 1 := by rw [f44, hF2_0, hF2_1]; exact kvs5_1 2 (by decide)
  have hF3_2 : g_42 2 = kv5 3 2 := by rw [f45, hF2_1, hF2_2]; exact kvs5_2 2 (by decide)
  have hF3_3 : g_42 3 = kv5 3 3 := by rw [f46, hF2_2, hF2_3]; exact kvs5_3 2 (by decide)
  have hF3_4 : g_42 4 = kv5 3 4 := by rw [f47, hF2_3, hF2_4]; exact kvs5_4 2 (by decide)
  have hF3_5 : g_42 5 = kv5 3 5 := by rw [f48, hF2_4, hF2_5]; exact kvs5_5 2 (by decide)
  refine lv_ldc2 hx hb hown (hts (.constantLong RX4 23 (1000000000000)) (List.mem_of_getElem? (i := 1) (by decide +kernel))) dX4_leastFor_20 ?_
  refine lv_aload_n hx hb dX4_leastFor_23 rfl (lv_at hl 1 rfl) ?_
  refine va_get (D := (dC, dI)) (ci := 4) (v := .ref xa39) (C := RX4) (T := TX4) (N := 3) hx hb hts hin4 hown hK hP 0 rfl rfl 0 (by decide) (hts (.fieldLink RX4 9 "PathProber$Odds" "met" "[J") (List.mem_of_getElem? (i := 2) (by decide +kernel))) (fun _ h9 => h9) rfl dX4_leastFor_24 ?_
  refine lv_iload_n hx hb dX4_leastFor_27 rfl (lv_at hl 2 rfl) ?_
  refine va_lald hx hb hK hP 1 2 rfl rfl (vp_in_nI (n := 5) (by decide) (by decide)) dX4_leastFor_28 ?_
  refine lv_topl (fun z49 e50 => ?_)
  obtain rfl : z49 = (0 : Int64) := e50.trans (hF3_5.trans (by decide +kernel))
  refine lv_lsub hx hb dX4_leastFor_29 ?_
  refine lv_topl (fun z51 e52 => ?_)
  obtain rfl : z51 = (1000000000000 : Int64) := e52.trans (by decide)
  refine lv_lload_n hx hb dX4_leastFor_30 rfl (lv_at hl 3 rfl) ?_
  refine W.lcmp hx hb dX4_leastFor_31 ?_
  refine lv_topi (fun z53 e54 => ?_)
  obtain rfl : z53 = (1 : Int32) := e54.trans (by decide)
  refine lv_if_ge (tgt := 38) hx hb dX4_leastFor_32 (by decide) (fun _ => ?_) (fun c9 => absurd (by decide) c9)
  refine lv_iinc (v := 4) (lv' := [(4, .int 4), (0, .ref xa38), (1, .int 5), (2, .long 50000000000)]) hx hb dX4_leastFor_38 hl (k := 0) rfl (by decide) (by decide) rfl (fun ls hl => ?_)
  refine lv_goto (tgt := 8) hx hb dX4_leastFor_41 (by decide) ?_
  refine lv_iload hx hb dX4_leastFor_8 (lv_at hl 0 rfl) ?_
  refine lv_bipush (v := 60) hx hb dX4_leastFor_10 (by decide) ?_
  refine lv_icmp_gt (tgt := 44) hx hb dX4_leastFor_12 (by decide) (fun c9 => absurd c9 (by decide)) (fun _ => ?_)
  refine lv_aload_n hx hb dX4_leastFor_15 rfl (lv_at hl 1 rfl) ?_
  refine lv_iload_n hx hb dX4_leastFor_16 rfl (lv_at hl 2 rfl) ?_
  have hPc := hP.sub (ws' := [(xa38, .inr (4, [.ref xa39, .ref xa40, .int 0])), (xa39, .inl (kJ, 23, .inr (.inl g_42)))]) [0, 1] rfl
  have hDc := hD.sub (ws' := [(xa38, .inr (4, [.ref xa39, .ref xa40, .int 0])), (xa39, .inl (kJ, 23, .inr (.inl g_42)))]) [0, 1] (by decide) rfl
  have hFc := va_free (wc := [(xa38, .inr (4, [.ref xa39, .ref xa40, .int 0])), (xa39, .inl (kJ, 23, .inr (.inl g_42)))]) hD hS hA [0, 1] rfl
  refine va_callv (va_runV (As := [.int 5]) (rest := []) ⟨hx, hb, hml, hown, hts⟩ (k4_sendNext_5 l dC dI kB kI kJ kZ kC kS H.size xa38 xa39 xa40 g_42) (cwV 1 hts gX4_leastFor_X4_sendNext rfl rfl rfl (by decide +kernel) ⟨Nat.le_of_ble_eq_true rfl, Nat.le_of_ble_eq_true rfl⟩) ⟨fun a U g mk q => by obtain ⟨q0, q1, qP, qE, qD⟩ := q; exact ⟨q0, q1, qP, kE_call qE, qD⟩, va_recv hK hP (ci := 4) (q0 := 0) rfl rfl, fun U hU hW => ⟨rfl, by rw [hU], by rw [hU]; exact hPc, kE_warm hW hE, hDc.weaken (fun _ _ _ _ => trivial)⟩⟩ rfl rfl hl.1 rfl (lv_room (Nat.le_of_ble_eq_true rfl)) dX4_leastFor_17 ⟨Nat.le_of_ble_eq_true rfl, Nat.le_of_ble_eq_true rfl⟩) hS (fun q _ h => hFc q h) hFc (fun u t H1 locs ht hvm w56 hB hz1 hk1 hS => ?_)
  obtain ⟨g_57, f58, f59, f60, f61, f62, f63, hP1, hD1⟩ := hB
  rw [ht] at hP1
  try dsimp only at w56
  obtain ⟨hP, hD⟩ := va_join (wr := []) (w1 := [(xa38, .inr (4, [.ref xa39, .ref xa40, .int 0])), (xa39, .inl (kJ, 23, .inr (.inl g_57)))]) hP hD [0, 1] [] rfl rfl (by decide) (by decide) hk1 hFc hP1 hD1
  generalize H1 = H at hP hS ⊢
  have hP : va_P (dC, dI) vwCl [(xa38, .inr (4, [.ref xa39, .ref xa40, .int 0])), (xa39, .inl (kJ, 23, .inr (.inl g_57)))] H := hP
  have hD : va_D A [(xa38, .inr (4, [.ref xa39, .ref xa40, .int 0])), (xa39, .inl (kJ, 23, .inr (.inl g_57)))] := hD
  refine W.widen (k := 0) (n := 0) (Nat.le_of_ble_eq_true rfl) (Nat.le_of_ble_eq_true rfl) ?_
  have hF4_0 : g_57 0 = kv5 4 0 := by rw [f58, hF3_0]; exact kvs5_0 3 (by decide)
  have hF4_1 : g_57 1 = kv5 4 1 := by rw [f59, hF3_0, hF3_1]; exact kvs5_1 3 (by decide)
  have hF4_2 : g_57 2 = kv5 4 2 := by rw [f60, hF3_1, hF3_2]; exact kvs5_2 3 (by decide)
  have hF4_3 : g_57 3 = kv5 4 3 := by rw [f61, hF3_2, hF3_3]; exact kvs5_3 3 (by decide)
  have hF4_4 : g_57 4 = kv5 4 4 := by rw [f62, hF3_3, hF3_4]; exact kvs5_4 3 (by decide)
  have hF4_5 : g_57 5 = kv5 4 5 := by rw [f63, hF3_4, hF3_5]; exact kvs5_5 3 (by decide)
  refine lv_ldc2 hx hb hown (hts (.constantLong RX4 23 (1000000000000)) (List.mem_of_getElem? (i := 1) (by decide +kernel))) dX4_leastFor_20 ?_
  refine lv_aload_n hx hb dX4_leastFor_23 rfl (lv_at hl 1 rfl) ?_
  refine va_get (D := (dC, dI)) (ci := 4) (v := .ref xa39) (C := RX4) (T := TX4) (N := 3) hx hb hts hin4 hown hK hP 0 rfl rfl 0 (by decide) (hts (.fieldLink RX4 9 "PathProber$Odds" "met" "[J") (List.mem_of_getElem? (i := 2) (by decide +kernel))) (fun _ h9 => h9) rfl dX4_leastFor_24 ?_
  refine lv_iload_n hx hb dX4_leastFor_27 rfl (lv_at hl 2 rfl) ?_
  refine va_lald hx hb hK hP 1 2 rfl rfl (vp_in_nI (n := 5) (by decide) (by decide)) dX4_leastFor_28 ?_
  refine lv_topl (fun z64 e65 => ?_)
  obtain rfl : z64 = (0 : Int64) := e65.trans (hF4_5.trans (by decide +kernel))
  refine lv_lsub hx hb dX4_leastFor_29 ?_
  refine lv_topl (fun z66 e67 => ?_)
  obtain rfl : z66 = (1000000000000 : Int64) := e67.trans (by decide)
  refine lv_lload_n hx hb dX4_leastFor_30 rfl (lv_at hl 3 rfl) ?_
  refine W.lcmp hx hb dX4_leastFor_31 ?_
  refine lv_topi (fun z68 e69 => ?_)
  obtain rfl : z68 = (1 : Int32) := e69.trans (by decide)
  refine lv_if_ge (tgt := 38) hx hb dX4_leastFor_32 (by decide) (fun _ => ?_) (fun c9 => absurd (by decide) c9)
  refine lv_iinc (v := 5) (lv' := [(4, .int 5), (0, .ref xa38), (1, .int 5), (2, .long 50000000000)]) hx hb dX4_leastFor_38 hl (k := 0) rfl (by decide) (by decide) rfl (fun ls hl => ?_)
  refine lv_goto (tgt := 8) hx hb dX4_leastFor_41 (by decide) ?_
  refine lv_iload hx hb dX4_leastFor_8 (lv_at hl 0 rfl) ?_
  refine lv_bipush (v := 60) hx hb dX4_leastFor_10 (by decide) ?_
  refine lv_icmp_gt (tgt := 44) hx hb dX4_leastFor_12 (by decide) (fun c9 => absurd c9 (by decide)) (fun _ => ?_)
  refine lv_aload_n hx hb dX4_leastFor_15 rfl (lv_at hl 1 rfl) ?_
  refine lv_iload_n hx hb dX4_leastFor_16 rfl (lv_at hl 2 rfl) ?_
  have hPc := hP.sub (ws' := [(xa38, .inr (4, [.ref xa39, .ref xa40, .int 0])), (xa39, .inl (kJ, 23, .inr (.inl g_57)))]) [0, 1] rfl
  have hDc := hD.sub (ws' := [(xa38, .inr (4, [.ref xa39, .ref xa40, .int 0])), (xa39, .inl (kJ, 23, .inr (.inl g_57)))]) [0, 1] (by decide) rfl
  have hFc := va_free (wc := [(xa38, .inr (4, [.ref xa39, .ref xa40, .int 0])), (xa39, .inl (kJ, 23, .inr (.inl g_57)))]) hD hS hA [0, 1] rfl
  refine va_callv (va_runV (As := [.int 5]) (rest := []) ⟨hx, hb, hml, hown, hts⟩ (k4_sendNext_5 l dC dI kB kI kJ kZ kC kS H.size xa38 xa39 xa40 g_57) (cwV 1 hts gX4_leastFor_X4_sendNext rfl rfl rfl (by decide +kernel) ⟨Nat.le_of_ble_eq_true rfl, Nat.le_of_ble_eq_true rfl⟩) ⟨fun a U g mk q => by obtain ⟨q0, q1, qP, qE, qD⟩ := q; exact ⟨q0, q1, qP, kE_call qE, qD⟩, va_recv hK hP (ci := 4) (q0 := 0) rfl rfl, fun U hU hW => ⟨rfl, by rw [hU], by rw [hU]; exact hPc, kE_warm hW hE, hDc.weaken (fun _ _ _ _ => trivial)⟩⟩ rfl rfl hl.1 rfl (lv_room (Nat.le_of_ble_eq_true rfl)) dX4_leastFor_17 ⟨Nat.le_of_ble_eq_true rfl, Nat.le_of_ble_eq_true rfl⟩) hS (fun q _ h => hFc q h) hFc (fun u t H1 locs ht hvm w71 hB hz1 hk1 hS => ?_)
  obtain ⟨g_72, f73, f74, f75, f76, f77, f78, hP1, hD1⟩ := hB
  rw [ht] at hP1
  try dsimp only at w71
  obtain ⟨hP, hD⟩ := va_join (wr := []) (w1 := [(xa38, .inr (4, [.ref xa39, .ref xa40, .int 0])), (xa39, .inl (kJ, 23, .inr (.inl g_72)))]) hP hD [0, 1] [] rfl rfl (by decide) (by decide) hk1 hFc hP1 hD1
  generalize H1 = H at hP hS ⊢
  have hP : va_P (dC, dI) vwCl [(xa38, .inr (4, [.ref xa39, .ref xa40, .int 0])), (xa39, .inl (kJ, 23, .inr (.inl g_72)))] H := hP
  have hD : va_D A [(xa38, .inr (4, [.ref xa39, .ref xa40, .int 0])), (xa39, .inl (kJ, 23, .inr (.inl g_72)))] := hD
  refine W.widen (k := 0) (n := 0) (Nat.le_of_ble_eq_true rfl) (Nat.le_of_ble_eq_true rfl) ?_
  have hF5_0 : g_72 0 = kv5 5 0 := by rw [f73, hF4_0]; exact kvs5_0 4 (by decide)
  have hF5_1 : g_72 1 = kv5 5 1 := by rw [f74, hF4_0, hF4_1]; exact kvs5_1 4 (by decide)
  have hF5_2 : g_72 2 = kv5 5 2 := by rw [f75, hF4_1, hF4_2]; exact kvs5_2 4 (by decide)
  have hF5_3 : g_72 3 = kv5 5 3 := by rw [f76, hF4_2, hF4_3]; exact kvs5_3 4 (by decide)
  have hF5_4 : g_72 4 = kv5 5 4 := by rw [f77, hF4_3, hF4_4]; exact kvs5_4 4 (by decide)
  have hF5_5 : g_72 5 = kv5 5 5 := by rw [f78, hF4_4, hF4_5]; exact kvs5_5 4 (by decide)
  refine lv_ldc2 hx hb hown (hts (.constantLong RX4 23 (1000000000000)) (List.mem_of_getElem? (i := 1) (by decide +kernel))) dX4_leastFor_20 ?_
  refine lv_aload_n hx hb dX4_leastFor_23 rfl (lv_at hl 1 rfl) ?_
  refine va_get (D := (dC, dI)) (ci := 4) (v := .ref xa39) (C := RX4) (T := TX4) (N := 3) hx hb hts hin4 hown hK hP 0 rfl rfl 0 (by decide) (hts (.fieldLink RX4 9 "PathProber$Odds" "met" "[J") (List.mem_of_getElem? (i := 2) (by decide +kernel))) (fun _ h9 => h9) rfl dX4_leastFor_24 ?_
  refine lv_iload_n hx hb dX4_leastFor_27 rfl (lv_at hl 2 rfl) ?_
  refine va_lald hx hb hK hP 1 2 rfl rfl (vp_in_nI (n := 5) (by decide) (by decide)) dX4_leastFor_28 ?_
  refine lv_topl (fun z79 e80 => ?_)
  obtain rfl : z79 = (38400000000 : Int64) := e80.trans (hF5_5.trans (by decide +kernel))
  refine lv_lsub hx hb dX4_leastFor_29 ?_
  refine lv_topl (fun z81 e82 => ?_)
  obtain rfl : z81 = (961600000000 : Int64) := e82.trans (by decide)
  refine lv_lload_n hx hb dX4_leastFor_30 rfl (lv_at hl 3 rfl) ?_
  refine W.lcmp hx hb dX4_leastFor_31 ?_
  refine lv_topi (fun z83 e84 => ?_)
  obtain rfl : z83 = (1 : Int32) := e84.trans (by decide)
  refine lv_if_ge (tgt := 38) hx hb dX4_leastFor_32 (by decide) (fun _ => ?_) (fun c9 => absurd (by decide) c9)
  refine lv_iinc (v := 6) (lv' := [(4, .int 6), (0, .ref xa38), (1, .int 5), (2, .long 50000000000)]) hx hb dX4_leastFor_38 hl (k := 0) rfl (by decide) (by decide) rfl (fun ls hl => ?_)
  refine lv_goto (tgt := 8) hx hb dX4_leastFor_41 (by decide) ?_
  refine lv_iload hx hb dX4_leastFor_8 (lv_at hl 0 rfl) ?_
  refine lv_bipush (v := 60) hx hb dX4_leastFor_10 (by decide) ?_
  refine lv_icmp_gt (tgt := 44) hx hb dX4_leastFor_12 (by decide) (fun c9 => absurd c9 (by decide)) (fun _ => ?_)
  refine lv_aload_n hx hb dX4_leastFor_15 rfl (lv_at hl 1 rfl) ?_
  refine lv_iload_n hx hb dX4_leastFor_16 rfl (lv_at hl 2 rfl) ?_
  have hPc := hP.sub (ws' := [(xa38, .inr (4, [.ref xa39, .ref xa40, .int 0])), (xa39, .inl (kJ, 23, .inr (.inl g_72)))]) [0, 1] rfl
  have hDc := hD.sub (ws' := [(xa38, .inr (4, [.ref xa39, .ref xa40, .int 0])), (xa39, .inl (kJ, 23, .inr (.inl g_72)))]) [0, 1] (by decide) rfl
  have hFc := va_free (wc := [(xa38, .inr (4, [.ref xa39, .ref xa40, .int 0])), (xa39, .inl (kJ, 23, .inr (.inl g_72)))]) hD hS hA [0, 1] rfl
  refine va_callv (va_runV (As := [.int 5]) (rest := []) ⟨hx, hb, hml, hown, hts⟩ (k4_sendNext_5 l dC dI kB kI kJ kZ kC kS H.size xa38 xa39 xa40 g_72) (cwV 1 hts gX4_leastFor_X4_sendNext rfl rfl rfl (by decide +kernel) ⟨Nat.le_of_ble_eq_true rfl, Nat.le_of_ble_eq_true rfl⟩) ⟨fun a U g mk q => by obtain ⟨q0, q1, qP, qE, qD⟩ := q; exact ⟨q0, q1, qP, kE_call qE, qD⟩, va_recv hK hP (ci := 4) (q0 := 0) rfl rfl, fun U hU hW => ⟨rfl, by rw [hU], by rw [hU]; exact hPc, kE_warm hW hE, hDc.weaken (fun _ _ _ _ => trivial)⟩⟩ rfl rfl hl.1 rfl (lv_room (Nat.le_of_ble_eq_true rfl)) dX4_leastFor_17 ⟨Nat.le_of_ble_eq_true rfl, Nat.le_of_ble_eq_true rfl⟩) hS (fun q _ h => hFc q h) hFc (fun u t H1 locs ht hvm w86 hB hz1 hk1 hS => ?_)
  obtain ⟨g_87, f88, f89, f90, f91, f92, f93, hP1, hD1⟩ := hB
  rw [ht] at hP1
  try dsimp only at w86
  obtain ⟨hP, hD⟩ := va_join (wr := []) (w1 := [(xa38, .inr (4, [.ref xa39, .ref xa40, .int 0])), (xa39, .inl (kJ, 23, .inr (.inl g_87)))]) hP hD [0, 1] [] rfl rfl (by decide) (by decide) hk1 hFc hP1 hD1
  generalize H1 = H at hP hS ⊢
  have hP : va_P (dC, dI) vwCl [(xa38, .inr (4, [.ref xa39, .ref xa40, .int 0])), (xa39, .inl (kJ, 23, .inr (.inl g_87)))] H := hP
  have hD : va_D A [(xa38, .inr (4, [.ref xa39, .ref xa40, .int 0])), (xa39, .inl (kJ, 23, .inr (.inl g_87)))] := hD
  refine W.widen (k := 0) (n := 0) (Nat.le_of_ble_eq_true rfl) (Nat.le_of_ble_eq_true rfl) ?_
  have hF6_0 : g_87 0 = kv5 6 0 := by rw [f88, hF5_0]; exact kvs5_0 5 (by decide)
  have hF6_1 : g_87 1 = kv5 6 1 := by rw [f89, hF5_0, hF5_1]; exact kvs5_1 5 (by decide)
  have hF6_2 : g_87 2 = kv5 6 2 := by rw [f90, hF5_1, hF5_2]; exact kvs5_2 5 (by decide)
  have hF6_3 : g_87 3 = kv5 6 3 := by rw [f91, hF5_2, hF5_3]; exact kvs5_3 5 (by decide)
  have hF6_4 : g_87 4 = kv5 6 4 := by rw [f92, hF5_3, hF5_4]; exact kvs5_4 5 (by decide)
  have hF6_5 : g_87 5 = kv5 6 5 := by rw [f93, hF5_4, hF5_5]; exact kvs5_5 5 (by decide)
  refine lv_ldc2 hx hb hown (hts (.constantLong RX4 23 (1000000000000)) (List.mem_of_getElem? (i := 1) (by decide +kernel))) dX4_leastFor_20 ?_
  refine lv_aload_n hx hb dX4_leastFor_23 rfl (lv_at hl 1 rfl) ?_
  refine va_get (D := (dC, dI)) (ci := 4) (v := .ref xa39) (C := RX4) (T := TX4) (N := 3) hx hb hts hin4 hown hK hP 0 rfl rfl 0 (by decide) (hts (.fieldLink RX4 9 "PathProber$Odds" "met" "[J") (List.mem_of_getElem? (i := 2) (by decide +kernel))) (fun _ h9 => h9) rfl dX4_leastFor_24 ?_
  refine lv_iload_n hx hb dX4_leastFor_27 rfl (lv_at hl 2 rfl) ?_
  refine va_lald hx hb hK hP 1 2 rfl rfl (vp_in_nI (n := 5) (by decide) (by decide)) dX4_leastFor_28 ?_
  refine lv_topl (fun z94 e95 => ?_)
  obtain rfl : z94 = (115200000000 : Int64) := e95.trans (hF6_5.trans (by decide +kernel))
  refine lv_lsub hx hb dX4_leastFor_29 ?_
  refine lv_topl (fun z96 e97 => ?_)
  obtain rfl : z96 = (884800000000 : Int64) := e97.trans (by decide)
  refine lv_lload_n hx hb dX4_leastFor_30 rfl (lv_at hl 3 rfl) ?_
  refine W.lcmp hx hb dX4_leastFor_31 ?_
  refine lv_topi (fun z98 e99 => ?_)
  obtain rfl : z98 = (1 : Int32) := e99.trans (by decide)
  refine lv_if_ge (tgt := 38) hx hb dX4_leastFor_32 (by decide) (fun _ => ?_) (fun c9 => absurd (by decide) c9)
  refine lv_iinc (v := 7) (lv' := [(4, .int 7), (0, .ref xa38), (1, .int 5), (2, .long 50000000000)]) hx hb dX4_leastFor_38 hl (k := 0) rfl (by decide) (by decide) rfl (fun ls hl => ?_)
  refine lv_goto (tgt := 8) hx hb dX4_leastFor_41 (by decide) ?_
  refine lv_iload hx hb dX4_leastFor_8 (lv_at hl 0 rfl) ?_
  refine lv_bipush (v := 60) hx hb dX4_leastFor_10 (by decide) ?_
  refine lv_icmp_gt (tgt := 44) hx hb dX4_leastFor_12 (by decide) (fun c9 => absurd c9 (by decide)) (fun _ => ?_)
  refine lv_aload_n hx hb dX4_leastFor_15 rfl (lv_at hl 1 rfl) ?_
  refine lv_iload_n hx hb dX4_leastFor_16 rfl (lv_at hl 2 rfl) ?_
  have hPc := hP.sub (ws' := [(xa38, .inr (4, [.ref xa39, .ref xa40, .int 0])), (xa39, .inl (kJ, 23, .inr (.inl g_87)))]) [0, 1] rfl
  have hDc := hD.sub (ws' := [(xa38, .inr (4, [.ref xa39, .ref xa40, .int 0])), (xa39, .inl (kJ, 23, .inr (.inl g_87)))]) [0, 1] (by decide) rfl
  have hFc := va_free (wc := [(xa38, .inr (4, [.ref xa39, .ref xa40, .int 0])), (xa39, .inl (kJ, 23, .inr (.inl g_87)))]) hD hS hA [0, 1] rfl
  refine va_callv (va_runV (As := [.int 5]) (rest := []) ⟨hx, hb, hml, hown, hts⟩ (k4_sendNext_5 l dC dI kB kI kJ kZ kC kS H.size xa38 xa39 xa40 g_87) (cwV 1 hts gX4_leastFor_X4_sendNext rfl rfl rfl (by decide +kernel) ⟨Nat.le_of_ble_eq_true rfl, Nat.le_of_ble_eq_true rfl⟩) ⟨fun a U g mk q => by obtain ⟨q0, q1, qP, qE, qD⟩ := q; exact ⟨q0, q1, qP, kE_call qE, qD⟩, va_recv hK hP (ci := 4) (q0 := 0) rfl rfl, fun U hU hW => ⟨rfl, by rw [hU], by rw [hU]; exact hPc, kE_warm hW hE, hDc.weaken (fun _ _ _ _ => trivial)⟩⟩ rfl rfl hl.1 rfl (lv_room (Nat.le_of_ble_eq_true rfl)) dX4_leastFor_17 ⟨Nat.le_of_ble_eq_true rfl, Nat.le_of_ble_eq_true rfl⟩) hS (fun q _ h => hFc q h) hFc (fun u t H1 locs ht hvm w101 hB hz1 hk1 hS => ?_)
  obtain ⟨g_102, f103, f104, f105, f106, f107, f108, hP1, hD1⟩ := hB
  rw [ht] at hP1
  try dsimp only at w101
  obtain ⟨hP, hD⟩ := va_join (wr := []) (w1 := [(xa38, .inr (4, [.ref xa39, .ref xa40, .int 0])), (xa39, .inl (kJ, 23, .inr (.inl g_102)))]) hP hD [0, 1] [] rfl rfl (by decide) (by decide) hk1 hFc hP1 hD1
  generalize H1 = H at hP hS ⊢
  have hP : va_P (dC, dI) vwCl [(xa38, .inr (4, [.ref xa39, .ref xa40, .int 0])), (xa39, .inl (kJ, 23, .inr (.inl g_102)))] H := hP
  have hD : va_D A [(xa38, .inr (4, [.ref xa39, .ref xa40, .int 0])), (xa39, .inl (kJ, 23, .inr (.inl g_102)))] := hD
  refine W.widen (k := 0) (n := 0) (Nat.le_of_ble_eq_true rfl) (Nat.le_of_ble_eq_true rfl) ?_
  have hF7_0 : g_102 0 = kv5 7 0 := by rw [f103, hF6_0]; exact kvs5_0 6 (by decide)
  have hF7_1 : g_102 1 = kv5 7 1 := by rw [f104, hF6_0, hF6_1]; exact kvs5_1 6 (by decide)
  have hF7_2 : g_102 2 = kv5 7 2 := by rw [f105, hF6_1, hF6_2]; exact kvs5_2 6 (by decide)
  have hF7_3 : g_102 3 = kv5 7 3 := by rw [f106, hF6_2, hF6_3]; exact kvs5_3 6 (by decide)
  have hF7_4 : g_102 4 = kv5 7 4 := by rw [f107, hF6_3, hF6_4]; exact kvs5_4 6 (by decide)
  have hF7_5 : g_102 5 = kv5 7 5 := by rw [f108, hF6_4, hF6_5]; exact kvs5_5 6 (by decide)
  refine lv_ldc2 hx hb hown (hts (.constantLong RX4 23 (1000000000000)) (List.mem_of_getElem? (i := 1) (by decide +kernel))) dX4_leastFor_20 ?_
  refine lv_aload_n hx hb dX4_leastFor_23 rfl (lv_at hl 1 rfl) ?_
  refine va_get (D := (dC, dI)) (ci := 4) (v := .ref xa39) (C := RX4) (T := TX4) (N := 3) hx hb hts hin4 hown hK hP 0 rfl rfl 0 (by decide) (hts (.fieldLink RX4 9 "PathProber$Odds" "met" "[J") (List.mem_of_getElem? (i := 2) (by decide +kernel))) (fun _ h9 => h9) rfl dX4_leastFor_24 ?_
  refine lv_iload_n hx hb dX4_leastFor_27 rfl (lv_at hl 2 rfl) ?_
  refine va_lald hx hb hK hP 1 2 rfl rfl (vp_in_nI (n := 5) (by decide) (by decide)) dX4_leastFor_28 ?_
  refine lv_topl (fun z109 e110 => ?_)
  obtain rfl : z109 = (215040000000 : Int64) := e110.trans (hF7_5.trans (by decide +kernel))
  refine lv_lsub hx hb dX4_leastFor_29 ?_
  refine lv_topl (fun z111 e112 => ?_)
  obtain rfl : z111 = (784960000000 : Int64) := e112.trans (by decide)
  refine lv_lload_n hx hb dX4_leastFor_30 rfl (lv_at hl 3 rfl) ?_
  refine W.lcmp hx hb dX4_leastFor_31 ?_
  refine lv_topi (fun z113 e114 => ?_)
  obtain rfl : z113 = (1 : Int32) := e114.trans (by decide)
  refine lv_if_ge (tgt := 38) hx hb dX4_leastFor_32 (by decide) (fun _ => ?_) (fun c9 => absurd (by decide) c9)
  refine lv_iinc (v := 8) (lv' := [(4, .int 8), (0, .ref xa38), (1, .int 5), (2, .long 50000000000)]) hx hb dX4_leastFor_38 hl (k := 0) rfl (by decide) (by decide) rfl (fun ls hl => ?_)
  refine lv_goto (tgt := 8) hx hb dX4_leastFor_41 (by decide) ?_
  refine lv_iload hx hb dX4_leastFor_8 (lv_at hl 0 rfl) ?_
  refine lv_bipush (v := 60) hx hb dX4_leastFor_10 (by decide) ?_
  refine lv_icmp_gt (tgt := 44) hx hb dX4_leastFor_12 (by decide) (fun c9 => absurd c9 (by decide)) (fun _ => ?_)
  refine lv_aload_n hx hb dX4_leastFor_15 rfl (lv_at hl 1 rfl) ?_
  refine lv_iload_n hx hb dX4_leastFor_16 rfl (lv_at hl 2 rfl) ?_
  have hPc := hP.sub (ws' := [(xa38, .inr (4, [.ref xa39, .ref xa40, .int 0])), (xa39, .inl (kJ, 23, .inr (.inl g_102)))]) [0, 1] rfl
  have hDc := hD.sub (ws' := [(xa38, .inr (4, [.ref xa39, .ref xa40, .int 0])), (xa39, .inl (kJ, 23, .inr (.inl g_102)))]) [0, 1] (by decide) rfl
  have hFc := va_free (wc := [(xa38, .inr (4, [.ref xa39, .ref xa40, .int 0])), (xa39, .inl (kJ, 23, .inr (.inl g_102)))]) hD hS hA [0, 1] rfl
  refine va_callv (va_runV (As := [.int 5]) (rest := []) ⟨hx, hb, hml, hown, hts⟩ (k4_sendNext_5 l dC dI kB kI kJ kZ kC kS H.size xa38 xa39 xa40 g_102) (cwV 1 hts gX4_leastFor_X4_sendNext rfl rfl rfl (by decide +kernel) ⟨Nat.le_of_ble_eq_true rfl, Nat.le_of_ble_eq_true rfl⟩) ⟨fun a U g mk q => by obtain ⟨q0, q1, qP, qE, qD⟩ := q; exact ⟨q0, q1, qP, kE_call qE, qD⟩, va_recv hK hP (ci := 4) (q0 := 0) rfl rfl, fun U hU hW => ⟨rfl, by rw [hU], by rw [hU]; exact hPc, kE_warm hW hE, hDc.weaken (fun _ _ _ _ => trivial)⟩⟩ rfl rfl hl.1 rfl (lv_room (Nat.le_of_ble_eq_true rfl)) dX4_leastFor_17 ⟨Nat.le_of_ble_eq_true rfl, Nat.le_of_ble_eq_true rfl⟩) hS (fun q _ h => hFc q h) hFc (fun u t H1 locs ht hvm w116 hB hz1 hk1 hS => ?_)
  obtain ⟨g_117, f118, f119, f120, f121, f122, f123, hP1, hD1⟩ := hB
  rw [ht] at hP1
  try dsimp only at w116
  obtain ⟨hP, hD⟩ := va_join (wr := []) (w1 := [(xa38, .inr (4, [.ref xa39, .ref xa40, .int 0])), (xa39, .inl (kJ, 23, .inr (.inl g_117)))]) hP hD [0, 1] [] rfl rfl (by decide) (by decide) hk1 hFc hP1 hD1
  generalize H1 = H at hP hS ⊢
  have hP : va_P (dC, dI) vwCl [(xa38, .inr (4, [.ref xa39, .ref xa40, .int 0])), (xa39, .inl (kJ, 23, .inr (.inl g_117)))] H := hP
  have hD : va_D A [(xa38, .inr (4, [.ref xa39, .ref xa40, .int 0])), (xa39, .inl (kJ, 23, .inr (.inl g_117)))] := hD
  refine W.widen (k := 0) (n := 0) (Nat.le_of_ble_eq_true rfl) (Nat.le_of_ble_eq_true rfl) ?_
  have hF8_0 : g_117 0 = kv5 8 0 := by rw [f118, hF7_0]; exact kvs5_0 7 (by decide)
  have hF8_1 : g_117 1 = kv5 8 1 := by rw [f119, hF7_0, hF7_1]; exact kvs5_1 7 (by decide)
  have hF8_2 : g_117 2 = kv5 8 2 := by rw [f120, hF7_1, hF7_2]; exact kvs5_2 7 (by decide)
  have hF8_3 : g_117 3 = kv5 8 3 := by rw [f121, hF7_2, hF7_3]; exact kvs5_3 7 (by decide)
  have hF8_4 : g_117 4 = kv5 8 4 := by rw [f122, hF7_3, hF7_4]; exact kvs5_4 7 (by decide)
  have hF8_5 : g_117 5 = kv5 8 5 := by rw [f123, hF7_4, hF7_5]; exact kvs5_5 7 (by decide)
  refine lv_ldc2 hx hb hown (hts (.constantLong RX4 23 (1000000000000)) (List.mem_of_getElem? (i := 1) (by decide +kernel))) dX4_leastFor_20 ?_
  refine lv_aload_n hx hb dX4_leastFor_23 rfl (lv_at hl 1 rfl) ?_
  refine va_get (D := (dC, dI)) (ci := 4) (v := .ref xa39) (C := RX4) (T := TX4) (N := 3) hx hb hts hin4 hown hK hP 0 rfl rfl 0 (by decide) (hts (.fieldLink RX4 9 "PathProber$Odds" "met" "[J") (List.mem_of_getElem? (i := 2) (by decide +kernel))) (fun _ h9 => h9) rfl dX4_leastFor_24 ?_
  refine lv_iload_n hx hb dX4_leastFor_27 rfl (lv_at hl 2 rfl) ?_
  refine va_lald hx hb hK hP 1 2 rfl rfl (vp_in_nI (n := 5) (by decide) (by decide)) dX4_leastFor_28 ?_
  refine lv_topl (fun z124 e125 => ?_)
  obtain rfl : z124 = (322560000000 : Int64) := e125.trans (hF8_5.trans (by decide +kernel))
  refine lv_lsub hx hb dX4_leastFor_29 ?_
  refine lv_topl (fun z126 e127 => ?_)
  obtain rfl : z126 = (677440000000 : Int64) := e127.trans (by decide)
  refine lv_lload_n hx hb dX4_leastFor_30 rfl (lv_at hl 3 rfl) ?_
  refine W.lcmp hx hb dX4_leastFor_31 ?_
  refine lv_topi (fun z128 e129 => ?_)
  obtain rfl : z128 = (1 : Int32) := e129.trans (by decide)
  refine lv_if_ge (tgt := 38) hx hb dX4_leastFor_32 (by decide) (fun _ => ?_) (fun c9 => absurd (by decide) c9)
  refine lv_iinc (v := 9) (lv' := [(4, .int 9), (0, .ref xa38), (1, .int 5), (2, .long 50000000000)]) hx hb dX4_leastFor_38 hl (k := 0) rfl (by decide) (by decide) rfl (fun ls hl => ?_)
  refine lv_goto (tgt := 8) hx hb dX4_leastFor_41 (by decide) ?_
  refine lv_iload hx hb dX4_leastFor_8 (lv_at hl 0 rfl) ?_
  refine lv_bipush (v := 60) hx hb dX4_leastFor_10 (by decide) ?_
  refine lv_icmp_gt (tgt := 44) hx hb dX4_leastFor_12 (by decide) (fun c9 => absurd c9 (by decide)) (fun _ => ?_)
  refine lv_aload_n hx hb dX4_leastFor_15 rfl (lv_at hl 1 rfl) ?_
  refine lv_iload_n hx hb dX4_leastFor_16 rfl (lv_at hl 2 rfl) ?_
  have hPc := hP.sub (ws' := [(xa38, .inr (4, [.ref xa39, .ref xa40, .int 0])), (xa39, .inl (kJ, 23, .inr (.inl g_117)))]) [0, 1] rfl
  have hDc := hD.sub (ws' := [(xa38, .inr (4, [.ref xa39, .ref xa40, .int 0])), (xa39, .inl (kJ, 23, .inr (.inl g_117)))]) [0, 1] (by decide) rfl
  have hFc := va_free (wc := [(xa38, .inr (4, [.ref xa39, .ref xa40, .int 0])), (xa39, .inl (kJ, 23, .inr (.inl g_117)))]) hD hS hA [0, 1] rfl
  refine va_callv (va_runV (As := [.int 5]) (rest := []) ⟨hx, hb, hml, hown, hts⟩ (k4_sendNext_5 l dC dI kB kI kJ kZ kC kS H.size xa38 xa39 xa40 g_117) (cwV 1 hts gX4_leastFor_X4_sendNext rfl rfl rfl (by decide +kernel) ⟨Nat.le_of_ble_eq_true rfl, Nat.le_of_ble_eq_true rfl⟩) ⟨fun a U g mk q => by obtain ⟨q0, q1, qP, qE, qD⟩ := q; exact ⟨q0, q1, qP, kE_call qE, qD⟩, va_recv hK hP (ci := 4) (q0 := 0) rfl rfl, fun U hU hW => ⟨rfl, by rw [hU], by rw [hU]; exact hPc, kE_warm hW hE, hDc.weaken (fun _ _ _ _ => trivial)⟩⟩ rfl rfl hl.1 rfl (lv_room (Nat.le_of_ble_eq_true rfl)) dX4_leastFor_17 ⟨Nat.le_of_ble_eq_true rfl, Nat.le_of_ble_eq_true rfl⟩) hS (fun q _ h => hFc q h) hFc (fun u t H1 locs ht hvm w131 hB hz1 hk1 hS => ?_)
  obtain ⟨g_132, f133, f134, f135, f136, f137, f138, hP1, hD1⟩ := hB
  rw [ht] at hP1
  try dsimp only at w131
  obtain ⟨hP, hD⟩ := va_join (wr := []) (w1 := [(xa38, .inr (4, [.ref xa39, .ref xa40, .int 0])), (xa39, .inl (kJ, 23, .inr (.inl g_132)))]) hP hD [0, 1] [] rfl rfl (by decide) (by decide) hk1 hFc hP1 hD1
  generalize H1 = H at hP hS ⊢
  have hP : va_P (dC, dI) vwCl [(xa38, .inr (4, [.ref xa39, .ref xa40, .int 0])), (xa39, .inl (kJ, 23, .inr (.inl g_132)))] H := hP
  have hD : va_D A [(xa38, .inr (4, [.ref xa39, .ref xa40, .int 0])), (xa39, .inl (kJ, 23, .inr (.inl g_132)))] := hD
  refine W.widen (k := 0) (n := 0) (Nat.le_of_ble_eq_true rfl) (Nat.le_of_ble_eq_true rfl) ?_
  have hF9_0 : g_132 0 = kv5 9 0 := by rw [f133, hF8_0]; exact kvs5_0 8 (by decide)
  have hF9_1 : g_132 1 = kv5 9 1 := by rw [f134, hF8_0, hF8_1]; exact kvs5_1 8 (by decide)
  have hF9_2 : g_132 2 = kv5 9 2 := by rw [f135, hF8_1, hF8_2]; exact kvs5_2 8 (by decide)
  have hF9_3 : g_132 3 = kv5 9 3 := by rw [f136, hF8_2, hF8_3]; exact kvs5_3 8 (by decide)
  have hF9_4 : g_132 4 = kv5 9 4 := by rw [f137, hF8_3, hF8_4]; exact kvs5_4 8 (by decide)
  have hF9_5 : g_132 5 = kv5 9 5 := by rw [f138, hF8_4, hF8_5]; exact kvs5_5 8 (by decide)
  refine lv_ldc2 hx hb hown (hts (.constantLong RX4 23 (1000000000000)) (List.mem_of_getElem? (i := 1) (by decide +kernel))) dX4_leastFor_20 ?_
  refine lv_aload_n hx hb dX4_leastFor_23 rfl (lv_at hl 1 rfl) ?_
  refine va_get (D := (dC, dI)) (ci := 4) (v := .ref xa39) (C := RX4) (T := TX4) (N := 3) hx hb hts hin4 hown hK hP 0 rfl rfl 0 (by decide) (hts (.fieldLink RX4 9 "PathProber$Odds" "met" "[J") (List.mem_of_getElem? (i := 2) (by decide +kernel))) (fun _ h9 => h9) rfl dX4_leastFor_24 ?_
  refine lv_iload_n hx hb dX4_leastFor_27 rfl (lv_at hl 2 rfl) ?_
  refine va_lald hx hb hK hP 1 2 rfl rfl (vp_in_nI (n := 5) (by decide) (by decide)) dX4_leastFor_28 ?_
  refine lv_topl (fun z139 e140 => ?_)
  obtain rfl : z139 = (427069440000 : Int64) := e140.trans (hF9_5.trans (by decide +kernel))
  refine lv_lsub hx hb dX4_leastFor_29 ?_
  refine lv_topl (fun z141 e142 => ?_)
  obtain rfl : z141 = (572930560000 : Int64) := e142.trans (by decide)
  refine lv_lload_n hx hb dX4_leastFor_30 rfl (lv_at hl 3 rfl) ?_
  refine W.lcmp hx hb dX4_leastFor_31 ?_
  refine lv_topi (fun z143 e144 => ?_)
  obtain rfl : z143 = (1 : Int32) := e144.trans (by decide)
  refine lv_if_ge (tgt := 38) hx hb dX4_leastFor_32 (by decide) (fun _ => ?_) (fun c9 => absurd (by decide) c9)
  refine lv_iinc (v := 10) (lv' := [(4, .int 10), (0, .ref xa38), (1, .int 5), (2, .long 50000000000)]) hx hb dX4_leastFor_38 hl (k := 0) rfl (by decide) (by decide) rfl (fun ls hl => ?_)
  refine lv_goto (tgt := 8) hx hb dX4_leastFor_41 (by decide) ?_
  refine lv_iload hx hb dX4_leastFor_8 (lv_at hl 0 rfl) ?_
  refine lv_bipush (v := 60) hx hb dX4_leastFor_10 (by decide) ?_
  refine lv_icmp_gt (tgt := 44) hx hb dX4_leastFor_12 (by decide) (fun c9 => absurd c9 (by decide)) (fun _ => ?_)
  refine lv_aload_n hx hb dX4_leastFor_15 rfl (lv_at hl 1 rfl) ?_
  refine lv_iload_n hx hb dX4_leastFor_16 rfl (lv_at hl 2 rfl) ?_
  have hPc := hP.sub (ws' := [(xa38, .inr (4, [.ref xa39, .ref xa40, .int 0])), (xa39, .inl (kJ, 23, .inr (.inl g_132)))]) [0, 1] rfl
  have hDc := hD.sub (ws' := [(xa38, .inr (4, [.ref xa39, .ref xa40, .int 0])), (xa39, .inl (kJ, 23, .inr (.inl g_132)))]) [0, 1] (by decide) rfl
  have hFc := va_free (wc := [(xa38, .inr (4, [.ref xa39, .ref xa40, .int 0])), (xa39, .inl (kJ, 23, .inr (.inl g_132)))]) hD hS hA [0, 1] rfl
  refine va_callv (va_runV (As := [.int 5]) (rest := []) ⟨hx, hb, hml, hown, hts⟩ (k4_sendNext_5 l dC dI kB kI kJ kZ kC kS H.size xa38 xa39 xa40 g_132) (cwV 1 hts gX4_leastFor_X4_sendNext rfl rfl rfl (by decide +kernel) ⟨Nat.le_of_ble_eq_true rfl, Nat.le_of_ble_eq_true rfl⟩) ⟨fun a U g mk q => by obtain ⟨q0, q1, qP, qE, qD⟩ := q; exact ⟨q0, q1, qP, kE_call qE, qD⟩, va_recv hK hP (ci := 4) (q0 := 0) rfl rfl, fun U hU hW => ⟨rfl, by rw [hU], by rw [hU]; exact hPc, kE_warm hW hE, hDc.weaken (fun _ _ _ _ => trivial)⟩⟩ rfl rfl hl.1 rfl (lv_room (Nat.le_of_ble_eq_true rfl)) dX4_leastFor_17 ⟨Nat.le_of_ble_eq_true rfl, Nat.le_of_ble_eq_true rfl⟩) hS (fun q _ h => hFc q h) hFc (fun u t H1 locs ht hvm w146 hB hz1 hk1 hS => ?_)
  obtain ⟨g_147, f148, f149, f150, f151, f152, f153, hP1, hD1⟩ := hB
  rw [ht] at hP1
  try dsimp only at w146
  obtain ⟨hP, hD⟩ := va_join (wr := []) (w1 := [(xa38, .inr (4, [.ref xa39, .ref xa40, .int 0])), (xa39, .inl (kJ, 23, .inr (.inl g_147)))]) hP hD [0, 1] [] rfl rfl (by decide) (by decide) hk1 hFc hP1 hD1
  generalize H1 = H at hP hS ⊢
  have hP : va_P (dC, dI) vwCl [(xa38, .inr (4, [.ref xa39, .ref xa40, .int 0])), (xa39, .inl (kJ, 23, .inr (.inl g_147)))] H := hP
  have hD : va_D A [(xa38, .inr (4, [.ref xa39, .ref xa40, .int 0])), (xa39, .inl (kJ, 23, .inr (.inl g_147)))] := hD
  refine W.widen (k := 0) (n := 0) (Nat.le_of_ble_eq_true rfl) (Nat.le_of_ble_eq_true rfl) ?_
  have hF10_0 : g_147 0 = kv5 10 0 := by rw [f148, hF9_0]; exact kvs5_0 9 (by decide)
  have hF10_1 : g_147 1 = kv5 10 1 := by rw [f149, hF9_0, hF9_1]; exact kvs5_1 9 (by decide)
  have hF10_2 : g_147 2 = kv5 10 2 := by rw [f150, hF9_1, hF9_2]; exact kvs5_2 9 (by decide)
  have hF10_3 : g_147 3 = kv5 10 3 := by rw [f151, hF9_2, hF9_3]; exact kvs5_3 9 (by decide)
  have hF10_4 : g_147 4 = kv5 10 4 := by rw [f152, hF9_3, hF9_4]; exact kvs5_4 9 (by decide)
  have hF10_5 : g_147 5 = kv5 10 5 := by rw [f153, hF9_4, hF9_5]; exact kvs5_5 9 (by decide)
  refine lv_ldc2 hx hb hown (hts (.constantLong RX4 23 (1000000000000)) (List.mem_of_getElem? (i := 1) (by decide +kernel))) dX4_leastFor_20 ?_
  refine lv_aload_n hx hb dX4_leastFor_23 rfl (lv_at hl 1 rfl) ?_
  refine va_get (D := (dC, dI)) (ci := 4) (v := .ref xa39) (C := RX4) (T := TX4) (N := 3) hx hb hts hin4 hown hK hP 0 rfl rfl 0 (by decide) (hts (.fieldLink RX4 9 "PathProber$Odds" "met" "[J") (List.mem_of_getElem? (i := 2) (by decide +kernel))) (fun _ h9 => h9) rfl dX4_leastFor_24 ?_
  refine lv_iload_n hx hb dX4_leastFor_27 rfl (lv_at hl 2 rfl) ?_
  refine va_lald hx hb hK hP 1 2 rfl rfl (vp_in_nI (n := 5) (by decide) (by decide)) dX4_leastFor_28 ?_
  refine lv_topl (fun z154 e155 => ?_)
  obtain rfl : z154 = (522547200000 : Int64) := e155.trans (hF10_5.trans (by decide +kernel))
  refine lv_lsub hx hb dX4_leastFor_29 ?_
  refine lv_topl (fun z156 e157 => ?_)
  obtain rfl : z156 = (477452800000 : Int64) := e157.trans (by decide)
  refine lv_lload_n hx hb dX4_leastFor_30 rfl (lv_at hl 3 rfl) ?_
  refine W.lcmp hx hb dX4_leastFor_31 ?_
  refine lv_topi (fun z158 e159 => ?_)
  obtain rfl : z158 = (1 : Int32) := e159.trans (by decide)
  refine lv_if_ge (tgt := 38) hx hb dX4_leastFor_32 (by decide) (fun _ => ?_) (fun c9 => absurd (by decide) c9)
  refine lv_iinc (v := 11) (lv' := [(4, .int 11), (0, .ref xa38), (1, .int 5), (2, .long 50000000000)]) hx hb dX4_leastFor_38 hl (k := 0) rfl (by decide) (by decide) rfl (fun ls hl => ?_)
  refine lv_goto (tgt := 8) hx hb dX4_leastFor_41 (by decide) ?_
  refine lv_iload hx hb dX4_leastFor_8 (lv_at hl 0 rfl) ?_
  refine lv_bipush (v := 60) hx hb dX4_leastFor_10 (by decide) ?_
  refine lv_icmp_gt (tgt := 44) hx hb dX4_leastFor_12 (by decide) (fun c9 => absurd c9 (by decide)) (fun _ => ?_)
  refine lv_aload_n hx hb dX4_leastFor_15 rfl (lv_at hl 1 rfl) ?_
  refine lv_iload_n hx hb dX4_leastFor_16 rfl (lv_at hl 2 rfl) ?_
  have hPc := hP.sub (ws' := [(xa38, .inr (4, [.ref xa39, .ref xa40, .int 0])), (xa39, .inl (kJ, 23, .inr (.inl g_147)))]) [0, 1] rfl
  have hDc := hD.sub (ws' := [(xa38, .inr (4, [.ref xa39, .ref xa40, .int 0])), (xa39, .inl (kJ, 23, .inr (.inl g_147)))]) [0, 1] (by decide) rfl
  have hFc := va_free (wc := [(xa38, .inr (4, [.ref xa39, .ref xa40, .int 0])), (xa39, .inl (kJ, 23, .inr (.inl g_147)))]) hD hS hA [0, 1] rfl
  refine va_callv (va_runV (As := [.int 5]) (rest := []) ⟨hx, hb, hml, hown, hts⟩ (k4_sendNext_5 l dC dI kB kI kJ kZ kC kS H.size xa38 xa39 xa40 g_147) (cwV 1 hts gX4_leastFor_X4_sendNext rfl rfl rfl (by decide +kernel) ⟨Nat.le_of_ble_eq_true rfl, Nat.le_of_ble_eq_true rfl⟩) ⟨fun a U g mk q => by obtain ⟨q0, q1, qP, qE, qD⟩ := q; exact ⟨q0, q1, qP, kE_call qE, qD⟩, va_recv hK hP (ci := 4) (q0 := 0) rfl rfl, fun U hU hW => ⟨rfl, by rw [hU], by rw [hU]; exact hPc, kE_warm hW hE, hDc.weaken (fun _ _ _ _ => trivial)⟩⟩ rfl rfl hl.1 rfl (lv_room (Nat.le_of_ble_eq_true rfl)) dX4_leastFor_17 ⟨Nat.le_of_ble_eq_true rfl, Nat.le_of_ble_eq_true rfl⟩) hS (fun q _ h => hFc q h) hFc (fun u t H1 locs ht hvm w161 hB hz1 hk1 hS => ?_)
  obtain ⟨g_162, f163, f164, f165, f166, f167, f168, hP1, hD1⟩ := hB
  rw [ht] at hP1
  try dsimp only at w161
  obtain ⟨hP, hD⟩ := va_join (wr := []) (w1 := [(xa38, .inr (4, [.ref xa39, .ref xa40, .int 0])), (xa39, .inl (kJ, 23, .inr (.inl g_162)))]) hP hD [0, 1] [] rfl rfl (by decide) (by decide) hk1 hFc hP1 hD1
  generalize H1 = H at hP hS ⊢
  have hP : va_P (dC, dI) vwCl [(xa38, .inr (4, [.ref xa39, .ref xa40, .int 0])), (xa39, .inl (kJ, 23, .inr (.inl g_162)))] H := hP
  have hD : va_D A [(xa38, .inr (4, [.ref xa39, .ref xa40, .int 0])), (xa39, .inl (kJ, 23, .inr (.inl g_162)))] := hD
  refine W.widen (k := 0) (n := 0) (Nat.le_of_ble_eq_true rfl) (Nat.le_of_ble_eq_true rfl) ?_
  have hF11_0 : g_162 0 = kv5 11 0 := by rw [f163, hF10_0]; exact kvs5_0 10 (by decide)
  have hF11_1 : g_162 1 = kv5 11 1 := by rw [f164, hF10_0, hF10_1]; exact kvs5_1 10 (by decide)
  have hF11_2 : g_162 2 = kv5 11 2 := by rw [f165, hF10_1, hF10_2]; exact kvs5_2 10 (by decide)
  have hF11_3 : g_162 3 = kv5 11 3 := by rw [f166, hF10_2, hF10_3]; exact kvs5_3 10 (by decide)
  have hF11_4 : g_162 4 = kv5 11 4 := by rw [f167, hF10_3, hF10_4]; exact kvs5_4 10 (by decide)
  have hF11_5 : g_162 5 = kv5 11 5 := by rw [f168, hF10_4, hF10_5]; exact kvs5_5 10 (by decide)
  refine lv_ldc2 hx hb hown (hts (.constantLong RX4 23 (1000000000000)) (List.mem_of_getElem? (i := 1) (by decide +kernel))) dX4_leastFor_20 ?_
  refine lv_aload_n hx hb dX4_leastFor_23 rfl (lv_at hl 1 rfl) ?_
  refine va_get (D := (dC, dI)) (ci := 4) (v := .ref xa39) (C := RX4) (T := TX4) (N := 3) hx hb hts hin4 hown hK hP 0 rfl rfl 0 (by decide) (hts (.fieldLink RX4 9 "PathProber$Odds" "met" "[J") (List.mem_of_getElem? (i := 2) (by decide +kernel))) (fun _ h9 => h9) rfl dX4_leastFor_24 ?_
  refine lv_iload_n hx hb dX4_leastFor_27 rfl (lv_at hl 2 rfl) ?_
  refine va_lald hx hb hK hP 1 2 rfl rfl (vp_in_nI (n := 5) (by decide) (by decide)) dX4_leastFor_28 ?_
  refine lv_topl (fun z169 e170 => ?_)
  obtain rfl : z169 = (606363648000 : Int64) := e170.trans (hF11_5.trans (by decide +kernel))
  refine lv_lsub hx hb dX4_leastFor_29 ?_
  refine lv_topl (fun z171 e172 => ?_)
  obtain rfl : z171 = (393636352000 : Int64) := e172.trans (by decide)
  refine lv_lload_n hx hb dX4_leastFor_30 rfl (lv_at hl 3 rfl) ?_
  refine W.lcmp hx hb dX4_leastFor_31 ?_
  refine lv_topi (fun z173 e174 => ?_)
  obtain rfl : z173 = (1 : Int32) := e174.trans (by decide)
  refine lv_if_ge (tgt := 38) hx hb dX4_leastFor_32 (by decide) (fun _ => ?_) (fun c9 => absurd (by decide) c9)
  refine lv_iinc (v := 12) (lv' := [(4, .int 12), (0, .ref xa38), (1, .int 5), (2, .long 50000000000)]) hx hb dX4_leastFor_38 hl (k := 0) rfl (by decide) (by decide) rfl (fun ls hl => ?_)
  refine lv_goto (tgt := 8) hx hb dX4_leastFor_41 (by decide) ?_
  refine lv_iload hx hb dX4_leastFor_8 (lv_at hl 0 rfl) ?_
  refine lv_bipush (v := 60) hx hb dX4_leastFor_10 (by decide) ?_
  refine lv_icmp_gt (tgt := 44) hx hb dX4_leastFor_12 (by decide) (fun c9 => absurd c9 (by decide)) (fun _ => ?_)
  refine lv_aload_n hx hb dX4_leastFor_15 rfl (lv_at hl 1 rfl) ?_
  refine lv_iload_n hx hb dX4_leastFor_16 rfl (lv_at hl 2 rfl) ?_
  have hPc := hP.sub (ws' := [(xa38, .inr (4, [.ref xa39, .ref xa40, .int 0])), (xa39, .inl (kJ, 23, .inr (.inl g_162)))]) [0, 1] rfl
  have hDc := hD.sub (ws' := [(xa38, .inr (4, [.ref xa39, .ref xa40, .int 0])), (xa39, .inl (kJ, 23, .inr (.inl g_162)))]) [0, 1] (by decide) rfl
  have hFc := va_free (wc := [(xa38, .inr (4, [.ref xa39, .ref xa40, .int 0])), (xa39, .inl (kJ, 23, .inr (.inl g_162)))]) hD hS hA [0, 1] rfl
  refine va_callv (va_runV (As := [.int 5]) (rest := []) ⟨hx, hb, hml, hown, hts⟩ (k4_sendNext_5 l dC dI kB kI kJ kZ kC kS H.size xa38 xa39 xa40 g_162) (cwV 1 hts gX4_leastFor_X4_sendNext rfl rfl rfl (by decide +kernel) ⟨Nat.le_of_ble_eq_true rfl, Nat.le_of_ble_eq_true rfl⟩) ⟨fun a U g mk q => by obtain ⟨q0, q1, qP, qE, qD⟩ := q; exact ⟨q0, q1, qP, kE_call qE, qD⟩, va_recv hK hP (ci := 4) (q0 := 0) rfl rfl, fun U hU hW => ⟨rfl, by rw [hU], by rw [hU]; exact hPc, kE_warm hW hE, hDc.weaken (fun _ _ _ _ => trivial)⟩⟩ rfl rfl hl.1 rfl (lv_room (Nat.le_of_ble_eq_true rfl)) dX4_leastFor_17 ⟨Nat.le_of_ble_eq_true rfl, Nat.le_of_ble_eq_true rfl⟩) hS (fun q _ h => hFc q h) hFc (fun u t H1 locs ht hvm w176 hB hz1 hk1 hS => ?_)
  obtain ⟨g_177, f178, f179, f180, f181, f182, f183, hP1, hD1⟩ := hB
  rw [ht] at hP1
  try dsimp only at w176
  obtain ⟨hP, hD⟩ := va_join (wr := []) (w1 := [(xa38, .inr (4, [.ref xa39, .ref xa40, .int 0])), (xa39, .inl (kJ, 23, .inr (.inl g_177)))]) hP hD [0, 1] [] rfl rfl (by decide) (by decide) hk1 hFc hP1 hD1
  generalize H1 = H at hP hS ⊢
  have hP : va_P (dC, dI) vwCl [(xa38, .inr (4, [.ref xa39, .ref xa40, .int 0])), (xa39, .inl (kJ, 23, .inr (.inl g_177)))] H := hP
  have hD : va_D A [(xa38, .inr (4, [.ref xa39, .ref xa40, .int 0])), (xa39, .inl (kJ, 23, .inr (.inl g_177)))] := hD
  refine W.widen (k := 0) (n := 0) (Nat.le_of_ble_eq_true rfl) (Nat.le_of_ble_eq_true rfl) ?_
  have hF12_0 : g_177 0 = kv5 12 0 := by rw [f178, hF11_0]; exact kvs5_0 11 (by decide)
  have hF12_1 : g_177 1 = kv5 12 1 := by rw [f179, hF11_0, hF11_1]; exact kvs5_1 11 (by decide)
  have hF12_2 : g_177 2 = kv5 12 2 := by rw [f180, hF11_1, hF11_2]; exact kvs5_2 11 (by decide)
  have hF12_3 : g_177 3 = kv5 12 3 := by rw [f181, hF11_2, hF11_3]; exact kvs5_3 11 (by decide)
  have hF12_4 : g_177 4 = kv5 12 4 := by rw [f182, hF11_3, hF11_4]; exact kvs5_4 11 (by decide)
  have hF12_5 : g_177 5 = kv5 12 5 := by rw [f183, hF11_4, hF11_5]; exact kvs5_5 11 (by decide)
  refine lv_ldc2 hx hb hown (hts (.constantLong RX4 23 (1000000000000)) (List.mem_of_getElem? (i := 1) (by decide +kernel))) dX4_leastFor_20 ?_
  refine lv_aload_n hx hb dX4_leastFor_23 rfl (lv_at hl 1 rfl) ?_
  refine va_get (D := (dC, dI)) (ci := 4) (v := .ref xa39) (C := RX4) (T := TX4) (N := 3) hx hb hts hin4 hown hK hP 0 rfl rfl 0 (by decide) (hts (.fieldLink RX4 9 "PathProber$Odds" "met" "[J") (List.mem_of_getElem? (i := 2) (by decide +kernel))) (fun _ h9 => h9) rfl dX4_leastFor_24 ?_
  refine lv_iload_n hx hb dX4_leastFor_27 rfl (lv_at hl 2 rfl) ?_
  refine va_lald hx hb hK hP 1 2 rfl rfl (vp_in_nI (n := 5) (by decide) (by decide)) dX4_leastFor_28 ?_
  refine lv_topl (fun z184 e185 => ?_)
  obtain rfl : z184 = (678002688000 : Int64) := e185.trans (hF12_5.trans (by decide +kernel))
  refine lv_lsub hx hb dX4_leastFor_29 ?_
  refine lv_topl (fun z186 e187 => ?_)
  obtain rfl : z186 = (321997312000 : Int64) := e187.trans (by decide)
  refine lv_lload_n hx hb dX4_leastFor_30 rfl (lv_at hl 3 rfl) ?_
  refine W.lcmp hx hb dX4_leastFor_31 ?_
  refine lv_topi (fun z188 e189 => ?_)
  obtain rfl : z188 = (1 : Int32) := e189.trans (by decide)
  refine lv_if_ge (tgt := 38) hx hb dX4_leastFor_32 (by decide) (fun _ => ?_) (fun c9 => absurd (by decide) c9)
  refine lv_iinc (v := 13) (lv' := [(4, .int 13), (0, .ref xa38), (1, .int 5), (2, .long 50000000000)]) hx hb dX4_leastFor_38 hl (k := 0) rfl (by decide) (by decide) rfl (fun ls hl => ?_)
  refine lv_goto (tgt := 8) hx hb dX4_leastFor_41 (by decide) ?_
  refine lv_iload hx hb dX4_leastFor_8 (lv_at hl 0 rfl) ?_
  refine lv_bipush (v := 60) hx hb dX4_leastFor_10 (by decide) ?_
  refine lv_icmp_gt (tgt := 44) hx hb dX4_leastFor_12 (by decide) (fun c9 => absurd c9 (by decide)) (fun _ => ?_)
  refine lv_aload_n hx hb dX4_leastFor_15 rfl (lv_at hl 1 rfl) ?_
  refine lv_iload_n hx hb dX4_leastFor_16 rfl (lv_at hl 2 rfl) ?_
  have hPc := hP.sub (ws' := [(xa38, .inr (4, [.ref xa39, .ref xa40, .int 0])), (xa39, .inl (kJ, 23, .inr (.inl g_177)))]) [0, 1] rfl
  have hDc := hD.sub (ws' := [(xa38, .inr (4, [.ref xa39, .ref xa40, .int 0])), (xa39, .inl (kJ, 23, .inr (.inl g_177)))]) [0, 1] (by decide) rfl
  have hFc := va_free (wc := [(xa38, .inr (4, [.ref xa39, .ref xa40, .int 0])), (xa39, .inl (kJ, 23, .inr (.inl g_177)))]) hD hS hA [0, 1] rfl
  refine va_callv (va_runV (As := [.int 5]) (rest := []) ⟨hx, hb, hml, hown, hts⟩ (k4_sendNext_5 l dC dI kB kI kJ kZ kC kS H.size xa38 xa39 xa40 g_177) (cwV 1 hts gX4_leastFor_X4_sendNext rfl rfl rfl (by decide +kernel) ⟨Nat.le_of_ble_eq_true rfl, Nat.le_of_ble_eq_true rfl⟩) ⟨fun a U g mk q => by obtain ⟨q0, q1, qP, qE, qD⟩ := q; exact ⟨q0, q1, qP, kE_call qE, qD⟩, va_recv hK hP (ci := 4) (q0 := 0) rfl rfl, fun U hU hW => ⟨rfl, by rw [hU], by rw [hU]; exact hPc, kE_warm hW hE, hDc.weaken (fun _ _ _ _ => trivial)⟩⟩ rfl rfl hl.1 rfl (lv_room (Nat.le_of_ble_eq_true rfl)) dX4_leastFor_17 ⟨Nat.le_of_ble_eq_true rfl, Nat.le_of_ble_eq_true rfl⟩) hS (fun q _ h => hFc q h) hFc (fun u t H1 locs ht hvm w191 hB hz1 hk1 hS => ?_)
  obtain ⟨g_192, f193, f194, f195, f196, f197, f198, hP1, hD1⟩ := hB
  rw [ht] at hP1
  try dsimp only at w191
  obtain ⟨hP, hD⟩ := va_join (wr := []) (w1 := [(xa38, .inr (4, [.ref xa39, .ref xa40, .int 0])), (xa39, .inl (kJ, 23, .inr (.inl g_192)))]) hP hD [0, 1] [] rfl rfl (by decide) (by decide) hk1 hFc hP1 hD1
  generalize H1 = H at hP hS ⊢
  have hP : va_P (dC, dI) vwCl [(xa38, .inr (4, [.ref xa39, .ref xa40, .int 0])), (xa39, .inl (kJ, 23, .inr (.inl g_192)))] H := hP
  have hD : va_D A [(xa38, .inr (4, [.ref xa39, .ref xa40, .int 0])), (xa39, .inl (kJ, 23, .inr (.inl g_192)))] := hD
  refine W.widen (k := 0) (n := 0) (Nat.le_of_ble_eq_true rfl) (Nat.le_of_ble_eq_true rfl) ?_
  have hF13_0 : g_192 0 = kv5 13 0 := by rw [f193, hF12_0]; exact kvs5_0 12 (by decide)
  have hF13_1 : g_192 1 = kv5 13 1 := by rw [f194, hF12_0, hF12_1]; exact kvs5_1 12 (by decide)
  have hF13_2 : g_192 2 = kv5 13 2 := by rw [f195, hF12_1, hF12_2]; exact kvs5_2 12 (by decide)
  have hF13_3 : g_192 3 = kv5 13 3 := by rw [f196, hF12_2, hF12_3]; exact kvs5_3 12 (by decide)
  have hF13_4 : g_192 4 = kv5 13 4 := by rw [f197, hF12_3, hF12_4]; exact kvs5_4 12 (by decide)
  have hF13_5 : g_192 5 = kv5 13 5 := by rw [f198, hF12_4, hF12_5]; exact kvs5_5 12 (by decide)
  refine lv_ldc2 hx hb hown (hts (.constantLong RX4 23 (1000000000000)) (List.mem_of_getElem? (i := 1) (by decide +kernel))) dX4_leastFor_20 ?_
  refine lv_aload_n hx hb dX4_leastFor_23 rfl (lv_at hl 1 rfl) ?_
  refine va_get (D := (dC, dI)) (ci := 4) (v := .ref xa39) (C := RX4) (T := TX4) (N := 3) hx hb hts hin4 hown hK hP 0 rfl rfl 0 (by decide) (hts (.fieldLink RX4 9 "PathProber$Odds" "met" "[J") (List.mem_of_getElem? (i := 2) (by decide +kernel))) (fun _ h9 => h9) rfl dX4_leastFor_24 ?_
  refine lv_iload_n hx hb dX4_leastFor_27 rfl (lv_at hl 2 rfl) ?_
  refine va_lald hx hb hK hP 1 2 rfl rfl (vp_in_nI (n := 5) (by decide) (by decide)) dX4_leastFor_28 ?_
  refine lv_topl (fun z199 e200 => ?_)
  obtain rfl : z199 = (738115682304 : Int64) := e200.trans (hF13_5.trans (by decide +kernel))
  refine lv_lsub hx hb dX4_leastFor_29 ?_
  refine lv_topl (fun z201 e202 => ?_)
  obtain rfl : z201 = (261884317696 : Int64) := e202.trans (by decide)
  refine lv_lload_n hx hb dX4_leastFor_30 rfl (lv_at hl 3 rfl) ?_
  refine W.lcmp hx hb dX4_leastFor_31 ?_
  refine lv_topi (fun z203 e204 => ?_)
  obtain rfl : z203 = (1 : Int32) := e204.trans (by decide)
  refine lv_if_ge (tgt := 38) hx hb dX4_leastFor_32 (by decide) (fun _ => ?_) (fun c9 => absurd (by decide) c9)
  refine lv_iinc (v := 14) (lv' := [(4, .int 14), (0, .ref xa38), (1, .int 5), (2, .long 50000000000)]) hx hb dX4_leastFor_38 hl (k := 0) rfl (by decide) (by decide) rfl (fun ls hl => ?_)
  refine lv_goto (tgt := 8) hx hb dX4_leastFor_41 (by decide) ?_
  refine lv_iload hx hb dX4_leastFor_8 (lv_at hl 0 rfl) ?_
  refine lv_bipush (v := 60) hx hb dX4_leastFor_10 (by decide) ?_
  refine lv_icmp_gt (tgt := 44) hx hb dX4_leastFor_12 (by decide) (fun c9 => absurd c9 (by decide)) (fun _ => ?_)
  refine lv_aload_n hx hb dX4_leastFor_15 rfl (lv_at hl 1 rfl) ?_
  refine lv_iload_n hx hb dX4_leastFor_16 rfl (lv_at hl 2 rfl) ?_
  have hPc := hP.sub (ws' := [(xa38, .inr (4, [.ref xa39, .ref xa40, .int 0])), (xa39, .inl (kJ, 23, .inr (.inl g_192)))]) [0, 1] rfl
  have hDc := hD.sub (ws' := [(xa38, .inr (4, [.ref xa39, .ref xa40, .int 0])), (xa39, .inl (kJ, 23, .inr (.inl g_192)))]) [0, 1] (by decide) rfl
  have hFc := va_free (wc := [(xa38, .inr (4, [.ref xa39, .ref xa40, .int 0])), (xa39, .inl (kJ, 23, .inr (.inl g_192)))]) hD hS hA [0, 1] rfl
  refine va_callv (va_runV (As := [.int 5]) (rest := []) ⟨hx, hb, hml, hown, hts⟩ (k4_sendNext_5 l dC dI kB kI kJ kZ kC kS H.size xa38 xa39 xa40 g_192) (cwV 1 hts gX4_leastFor_X4_sendNext rfl rfl rfl (by decide +kernel) ⟨Nat.le_of_ble_eq_true rfl, Nat.le_of_ble_eq_true rfl⟩) ⟨fun a U g mk q => by obtain ⟨q0, q1, qP, qE, qD⟩ := q; exact ⟨q0, q1, qP, kE_call qE, qD⟩, va_recv hK hP (ci := 4) (q0 := 0) rfl rfl, fun U hU hW => ⟨rfl, by rw [hU], by rw [hU]; exact hPc, kE_warm hW hE, hDc.weaken (fun _ _ _ _ => trivial)⟩⟩ rfl rfl hl.1 rfl (lv_room (Nat.le_of_ble_eq_true rfl)) dX4_leastFor_17 ⟨Nat.le_of_ble_eq_true rfl, Nat.le_of_ble_eq_true rfl⟩) hS (fun q _ h => hFc q h) hFc (fun u t H1 locs ht hvm w206 hB hz1 hk1 hS => ?_)
  obtain ⟨g_207, f208, f209, f210, f211, f212, f213, hP1, hD1⟩ := hB
  rw [ht] at hP1
  try dsimp only at w206
  obtain ⟨hP, hD⟩ := va_join (wr := []) (w1 := [(xa38, .inr (4, [.ref xa39, .ref xa40, .int 0])), (xa39, .inl (kJ, 23, .inr (.inl g_207)))]) hP hD [0, 1] [] rfl rfl (by decide) (by decide) hk1 hFc hP1 hD1
  generalize H1 = H at hP hS ⊢
  have hP : va_P (dC, dI) vwCl [(xa38, .inr (4, [.ref xa39, .ref xa40, .int 0])), (xa39, .inl (kJ, 23, .inr (.inl g_207)))] H := hP
  have hD : va_D A [(xa38, .inr (4, [.ref xa39, .ref xa40, .int 0])), (xa39, .inl (kJ, 23, .inr (.inl g_207)))] := hD
  refine W.widen (k := 0) (n := 0) (Nat.le_of_ble_eq_true rfl) (Nat.le_of_ble_eq_true rfl) ?_
  have hF14_0 : g_207 0 = kv5 14 0 := by rw [f208, hF13_0]; exact kvs5_0 13 (by decide)
  have hF14_1 : g_207 1 = kv5 14 1 := by rw [f209, hF13_0, hF13_1]; exact kvs5_1 13 (by decide)
  have hF14_2 : g_207 2 = kv5 14 2 := by rw [f210, hF13_1, hF13_2]; exact kvs5_2 13 (by decide)
  have hF14_3 : g_207 3 = kv5 14 3 := by rw [f211, hF13_2, hF13_3]; exact kvs5_3 13 (by decide)
  have hF14_4 : g_207 4 = kv5 14 4 := by rw [f212, hF13_3, hF13_4]; exact kvs5_4 13 (by decide)
  have hF14_5 : g_207 5 = kv5 14 5 := by rw [f213, hF13_4, hF13_5]; exact kvs5_5 13 (by decide)
  refine lv_ldc2 hx hb hown (hts (.constantLong RX4 23 (1000000000000)) (List.mem_of_getElem? (i := 1) (by decide +kernel))) dX4_leastFor_20 ?_
  refine lv_aload_n hx hb dX4_leastFor_23 rfl (lv_at hl 1 rfl) ?_
  refine va_get (D := (dC, dI)) (ci := 4) (v := .ref xa39) (C := RX4) (T := TX4) (N := 3) hx hb hts hin4 hown hK hP 0 rfl rfl 0 (by decide) (hts (.fieldLink RX4 9 "PathProber$Odds" "met" "[J") (List.mem_of_getElem? (i := 2) (by decide +kernel))) (fun _ h9 => h9) rfl dX4_leastFor_24 ?_
  refine lv_iload_n hx hb dX4_leastFor_27 rfl (lv_at hl 2 rfl) ?_
  refine va_lald hx hb hK hP 1 2 rfl rfl (vp_in_nI (n := 5) (by decide) (by decide)) dX4_leastFor_28 ?_
  refine lv_topl (fun z214 e215 => ?_)
  obtain rfl : z214 = (787907248128 : Int64) := e215.trans (hF14_5.trans (by decide +kernel))
  refine lv_lsub hx hb dX4_leastFor_29 ?_
  refine lv_topl (fun z216 e217 => ?_)
  obtain rfl : z216 = (212092751872 : Int64) := e217.trans (by decide)
  refine lv_lload_n hx hb dX4_leastFor_30 rfl (lv_at hl 3 rfl) ?_
  refine W.lcmp hx hb dX4_leastFor_31 ?_
  refine lv_topi (fun z218 e219 => ?_)
  obtain rfl : z218 = (1 : Int32) := e219.trans (by decide)
  refine lv_if_ge (tgt := 38) hx hb dX4_leastFor_32 (by decide) (fun _ => ?_) (fun c9 => absurd (by decide) c9)
  refine lv_iinc (v := 15) (lv' := [(4, .int 15), (0, .ref xa38), (1, .int 5), (2, .long 50000000000)]) hx hb dX4_leastFor_38 hl (k := 0) rfl (by decide) (by decide) rfl (fun ls hl => ?_)
  refine lv_goto (tgt := 8) hx hb dX4_leastFor_41 (by decide) ?_
  refine lv_iload hx hb dX4_leastFor_8 (lv_at hl 0 rfl) ?_
  refine lv_bipush (v := 60) hx hb dX4_leastFor_10 (by decide) ?_
  refine lv_icmp_gt (tgt := 44) hx hb dX4_leastFor_12 (by decide) (fun c9 => absurd c9 (by decide)) (fun _ => ?_)
  refine lv_aload_n hx hb dX4_leastFor_15 rfl (lv_at hl 1 rfl) ?_
  refine lv_iload_n hx hb dX4_leastFor_16 rfl (lv_at hl 2 rfl) ?_
  have hPc := hP.sub (ws' := [(xa38, .inr (4, [.ref xa39, .ref xa40, .int 0])), (xa39, .inl (kJ, 23, .inr (.inl g_207)))]) [0, 1] rfl
  have hDc := hD.sub (ws' := [(xa38, .inr (4, [.ref xa39, .ref xa40, .int 0])), (xa39, .inl (kJ, 23, .inr (.inl g_207)))]) [0, 1] (by decide) rfl
  have hFc := va_free (wc := [(xa38, .inr (4, [.ref xa39, .ref xa40, .int 0])), (xa39, .inl (kJ, 23, .inr (.inl g_207)))]) hD hS hA [0, 1] rfl
  refine va_callv (va_runV (As := [.int 5]) (rest := []) ⟨hx, hb, hml, hown, hts⟩ (k4_sendNext_5 l dC dI kB kI kJ kZ kC kS H.size xa38 xa39 xa40 g_207) (cwV 1 hts gX4_leastFor_X4_sendNext rfl rfl rfl (by decide +kernel) ⟨Nat.le_of_ble_eq_true rfl, Nat.le_of_ble_eq_true rfl⟩) ⟨fun a U g mk q => by obtain ⟨q0, q1, qP, qE, qD⟩ := q; exact ⟨q0, q1, qP, kE_call qE, qD⟩, va_recv hK hP (ci := 4) (q0 := 0) rfl rfl, fun U hU hW => ⟨rfl, by rw [hU], by rw [hU]; exact hPc, kE_warm hW hE, hDc.weaken (fun _ _ _ _ => trivial)⟩⟩ rfl rfl hl.1 rfl (lv_room (Nat.le_of_ble_eq_true rfl)) dX4_leastFor_17 ⟨Nat.le_of_ble_eq_true rfl, Nat.le_of_ble_eq_true rfl⟩) hS (fun q _ h => hFc q h) hFc (fun u t H1 locs ht hvm w221 hB hz1 hk1 hS => ?_)
  obtain ⟨g_222, f223, f224, f225, f226, f227, f228, hP1, hD1⟩ := hB
  rw [ht] at hP1
  try dsimp only at w221
  obtain ⟨hP, hD⟩ := va_join (wr := []) (w1 := [(xa38, .inr (4, [.ref xa39, .ref xa40, .int 0])), (xa39, .inl (kJ, 23, .inr (.inl g_222)))]) hP hD [0, 1] [] rfl rfl (by decide) (by decide) hk1 hFc hP1 hD1
  generalize H1 = H at hP hS ⊢
  have hP : va_P (dC, dI) vwCl [(xa38, .inr (4, [.ref xa39, .ref xa40, .int 0])), (xa39, .inl (kJ, 23, .inr (.inl g_222)))] H := hP
  have hD : va_D A [(xa38, .inr (4, [.ref xa39, .ref xa40, .int 0])), (xa39, .inl (kJ, 23, .inr (.inl g_222)))] := hD
  refine W.widen (k := 0) (n := 0) (Nat.le_of_ble_eq_true rfl) (Nat.le_of_ble_eq_true rfl) ?_
  have hF15_0 : g_222 0 = kv5 15 0 := by rw [f223, hF14_0]; exact kvs5_0 14 (by decide)
  have hF15_1 : g_222 1 = kv5 15 1 := by rw [f224, hF14_0, hF14_1]; exact kvs5_1 14 (by decide)
  have hF15_2 : g_222 2 = kv5 15 2 := by rw [f225, hF14_1, hF14_2]; exact kvs5_2 14 (by decide)
  have hF15_3 : g_222 3 = kv5 15 3 := by rw [f226, hF14_2, hF14_3]; exact kvs5_3 14 (by decide)
  have hF15_4 : g_222 4 = kv5 15 4 := by rw [f227, hF14_3, hF14_4]; exact kvs5_4 14 (by decide)
  have hF15_5 : g_222 5 = kv5 15 5 := by rw [f228, hF14_4, hF14_5]; exact kvs5_5 14 (by decide)
  refine lv_ldc2 hx hb hown (hts (.constantLong RX4 23 (1000000000000)) (List.mem_of_getElem? (i := 1) (by decide +kernel))) dX4_leastFor_20 ?_
  refine lv_aload_n hx hb dX4_leastFor_23 rfl (lv_at hl 1 rfl) ?_
  refine va_get (D := (dC, dI)) (ci := 4) (v := .ref xa39) (C := RX4) (T := TX4) (N := 3) hx hb hts hin4 hown hK hP 0 rfl rfl 0 (by decide) (hts (.fieldLink RX4 9 "PathProber$Odds" "met" "[J") (List.mem_of_getElem? (i := 2) (by decide +kernel))) (fun _ h9 => h9) rfl dX4_leastFor_24 ?_
  refine lv_iload_n hx hb dX4_leastFor_27 rfl (lv_at hl 2 rfl) ?_
  refine va_lald hx hb hK hP 1 2 rfl rfl (vp_in_nI (n := 5) (by decide) (by decide)) dX4_leastFor_28 ?_
  refine lv_topl (fun z229 e230 => ?_)
  obtain rfl : z229 = (828769252148 : Int64) := e230.trans (hF15_5.trans (by decide +kernel))
  refine lv_lsub hx hb dX4_leastFor_29 ?_
  refine lv_topl (fun z231 e232 => ?_)
  obtain rfl : z231 = (171230747852 : Int64) := e232.trans (by decide)
  refine lv_lload_n hx hb dX4_leastFor_30 rfl (lv_at hl 3 rfl) ?_
  refine W.lcmp hx hb dX4_leastFor_31 ?_
  refine lv_topi (fun z233 e234 => ?_)
  obtain rfl : z233 = (1 : Int32) := e234.trans (by decide)
  refine lv_if_ge (tgt := 38) hx hb dX4_leastFor_32 (by decide) (fun _ => ?_) (fun c9 => absurd (by decide) c9)
  refine lv_iinc (v := 16) (lv' := [(4, .int 16), (0, .ref xa38), (1, .int 5), (2, .long 50000000000)]) hx hb dX4_leastFor_38 hl (k := 0) rfl (by decide) (by decide) rfl (fun ls hl => ?_)
  refine lv_goto (tgt := 8) hx hb dX4_leastFor_41 (by decide) ?_
  refine lv_iload hx hb dX4_leastFor_8 (lv_at hl 0 rfl) ?_
  refine lv_bipush (v := 60) hx hb dX4_leastFor_10 (by decide) ?_
  refine lv_icmp_gt (tgt := 44) hx hb dX4_leastFor_12 (by decide) (fun c9 => absurd c9 (by decide)) (fun _ => ?_)
  refine lv_aload_n hx hb dX4_leastFor_15 rfl (lv_at hl 1 rfl) ?_
  refine lv_iload_n hx hb dX4_leastFor_16 rfl (lv_at hl 2 rfl) ?_
  have hPc := hP.sub (ws' := [(xa38, .inr (4, [.ref xa39, .ref xa40, .int 0])), (xa39, .inl (kJ, 23, .inr (.inl g_222)))]) [0, 1] rfl
  have hDc := hD.sub (ws' := [(xa38, .inr (4, [.ref xa39, .ref xa40, .int 0])), (xa39, .inl (kJ, 23, .inr (.inl g_222)))]) [0, 1] (by decide) rfl
  have hFc := va_free (wc := [(xa38, .inr (4, [.ref xa39, .ref xa40, .int 0])), (xa39, .inl (kJ, 23, .inr (.inl g_222)))]) hD hS hA [0, 1] rfl
  refine va_callv (va_runV (As := [.int 5]) (rest := []) ⟨hx, hb, hml, hown, hts⟩ (k4_sendNext_5 l dC dI kB kI kJ kZ kC kS H.size xa38 xa39 xa40 g_222) (cwV 1 hts gX4_leastFor_X4_sendNext rfl rfl rfl (by decide +kernel) ⟨Nat.le_of_ble_eq_true rfl, Nat.le_of_ble_eq_true rfl⟩) ⟨fun a U g mk q => by obtain ⟨q0, q1, qP, qE, qD⟩ := q; exact ⟨q0, q1, qP, kE_call qE, qD⟩, va_recv hK hP (ci := 4) (q0 := 0) rfl rfl, fun U hU hW => ⟨rfl, by rw [hU], by rw [hU]; exact hPc, kE_warm hW hE, hDc.weaken (fun _ _ _ _ => trivial)⟩⟩ rfl rfl hl.1 rfl (lv_room (Nat.le_of_ble_eq_true rfl)) dX4_leastFor_17 ⟨Nat.le_of_ble_eq_true rfl, Nat.le_of_ble_eq_true rfl⟩) hS (fun q _ h => hFc q h) hFc (fun u t H1 locs ht hvm w236 hB hz1 hk1 hS => ?_)
  obtain ⟨g_237, f238, f239, f240, f241, f242, f243, hP1, hD1⟩ := hB
  rw [ht] at hP1
  try dsimp only at w236
  obtain ⟨hP, hD⟩ := va_join (wr := []) (w1 := [(xa38, .inr (4, [.ref xa39, .ref xa40, .int 0])), (xa39, .inl (kJ, 23, .inr (.inl g_237)))]) hP hD [0, 1] [] rfl rfl (by decide) (by decide) hk1 hFc hP1 hD1
  generalize H1 = H at hP hS ⊢
  have hP : va_P (dC, dI) vwCl [(xa38, .inr (4, [.ref xa39, .ref xa40, .int 0])), (xa39, .inl (kJ, 23, .inr (.inl g_237)))] H := hP
  have hD : va_D A [(xa38, .inr (4, [.ref xa39, .ref xa40, .int 0])), (xa39, .inl (kJ, 23, .inr (.inl g_237)))] := hD
  refine W.widen (k := 0) (n := 0) (Nat.le_of_ble_eq_true rfl) (Nat.le_of_ble_eq_true rfl) ?_
  have hF16_0 : g_237 0 = kv5 16 0 := by rw [f238, hF15_0]; exact kvs5_0 15 (by decide)
  have hF16_1 : g_237 1 = kv5 16 1 := by rw [f239, hF15_0, hF15_1]; exact kvs5_1 15 (by decide)
  have hF16_2 : g_237 2 = kv5 16 2 := by rw [f240, hF15_1, hF15_2]; exact kvs5_2 15 (by decide)
  have hF16_3 : g_237 3 = kv5 16 3 := by rw [f241, hF15_2, hF15_3]; exact kvs5_3 15 (by decide)
  have hF16_4 : g_237 4 = kv5 16 4 := by rw [f242, hF15_3, hF15_4]; exact kvs5_4 15 (by decide)
  have hF16_5 : g_237 5 = kv5 16 5 := by rw [f243, hF15_4, hF15_5]; exact kvs5_5 15 (by decide)
  refine lv_ldc2 hx hb hown (hts (.constantLong RX4 23 (1000000000000)) (List.mem_of_getElem? (i := 1) (by decide +kernel))) dX4_leastFor_20 ?_
  refine lv_aload_n hx hb dX4_leastFor_23 rfl (lv_at hl 1 rfl) ?_
  refine va_get (D := (dC, dI)) (ci := 4) (v := .ref xa39) (C := RX4) (T := TX4) (N := 3) hx hb hts hin4 hown hK hP 0 rfl rfl 0 (by decide) (hts (.fieldLink RX4 9 "PathProber$Odds" "met" "[J") (List.mem_of_getElem? (i := 2) (by decide +kernel))) (fun _ h9 => h9) rfl dX4_leastFor_24 ?_
  refine lv_iload_n hx hb dX4_leastFor_27 rfl (lv_at hl 2 rfl) ?_
  refine va_lald hx hb hK hP 1 2 rfl rfl (vp_in_nI (n := 5) (by decide) (by decide)) dX4_leastFor_28 ?_
  refine lv_topl (fun z244 e245 => ?_)
  obtain rfl : z244 = (862079326619 : Int64) := e245.trans (hF16_5.trans (by decide +kernel))
  refine lv_lsub hx hb dX4_leastFor_29 ?_
  refine lv_topl (fun z246 e247 => ?_)
  obtain rfl : z246 = (137920673381 : Int64) := e247.trans (by decide)
  refine lv_lload_n hx hb dX4_leastFor_30 rfl (lv_at hl 3 rfl) ?_
  refine W.lcmp hx hb dX4_leastFor_31 ?_
  refine lv_topi (fun z248 e249 => ?_)
  obtain rfl : z248 = (1 : Int32) := e249.trans (by decide)
  refine lv_if_ge (tgt := 38) hx hb dX4_leastFor_32 (by decide) (fun _ => ?_) (fun c9 => absurd (by decide) c9)
  refine lv_iinc (v := 17) (lv' := [(4, .int 17), (0, .ref xa38), (1, .int 5), (2, .long 50000000000)]) hx hb dX4_leastFor_38 hl (k := 0) rfl (by decide) (by decide) rfl (fun ls hl => ?_)
  refine lv_goto (tgt := 8) hx hb dX4_leastFor_41 (by decide) ?_
  refine lv_iload hx hb dX4_leastFor_8 (lv_at hl 0 rfl) ?_
  refine lv_bipush (v := 60) hx hb dX4_leastFor_10 (by decide) ?_
  refine lv_icmp_gt (tgt := 44) hx hb dX4_leastFor_12 (by decide) (fun c9 => absurd c9 (by decide)) (fun _ => ?_)
  refine lv_aload_n hx hb dX4_leastFor_15 rfl (lv_at hl 1 rfl) ?_
  refine lv_iload_n hx hb dX4_leastFor_16 rfl (lv_at hl 2 rfl) ?_
  have hPc := hP.sub (ws' := [(xa38, .inr (4, [.ref xa39, .ref xa40, .int 0])), (xa39, .inl (kJ, 23, .inr (.inl g_237)))]) [0, 1] rfl
  have hDc := hD.sub (ws' := [(xa38, .inr (4, [.ref xa39, .ref xa40, .int 0])), (xa39, .inl (kJ, 23, .inr (.inl g_237)))]) [0, 1] (by decide) rfl
  have hFc := va_free (wc := [(xa38, .inr (4, [.ref xa39, .ref xa40, .int 0])), (xa39, .inl (kJ, 23, .inr (.inl g_237)))]) hD hS hA [0, 1] rfl
  refine va_callv (va_runV (As := [.int 5]) (rest := []) ⟨hx, hb, hml, hown, hts⟩ (k4_sendNext_5 l dC dI kB kI kJ kZ kC kS H.size xa38 xa39 xa40 g_237) (cwV 1 hts gX4_leastFor_X4_sendNext rfl rfl rfl (by decide +kernel) ⟨Nat.le_of_ble_eq_true rfl, Nat.le_of_ble_eq_true rfl⟩) ⟨fun a U g mk q => by obtain ⟨q0, q1, qP, qE, qD⟩ := q; exact ⟨q0, q1, qP, kE_call qE, qD⟩, va_recv hK hP (ci := 4) (q0 := 0) rfl rfl, fun U hU hW => ⟨rfl, by rw [hU], by rw [hU]; exact hPc, kE_warm hW hE, hDc.weaken (fun _ _ _ _ => trivial)⟩⟩ rfl rfl hl.1 rfl (lv_room (Nat.le_of_ble_eq_true rfl)) dX4_leastFor_17 ⟨Nat.le_of_ble_eq_true rfl, Nat.le_of_ble_eq_true rfl⟩) hS (fun q _ h => hFc q h) hFc (fun u t H1 locs ht hvm w251 hB hz1 hk1 hS => ?_)
  obtain ⟨g_252, f253, f254, f255, f256, f257, f258, hP1, hD1⟩ := hB
  rw [ht] at hP1
  try dsimp only at w251
  obtain ⟨hP, hD⟩ := va_join (wr := []) (w1 := [(xa38, .inr (4, [.ref xa39, .ref xa40, .int 0])), (xa39, .inl (kJ, 23, .inr (.inl g_252)))]) hP hD [0, 1] [] rfl rfl (by decide) (by decide) hk1 hFc hP1 hD1
  generalize H1 = H at hP hS ⊢
  have hP : va_P (dC, dI) vwCl [(xa38, .inr (4, [.ref xa39, .ref xa40, .int 0])), (xa39, .inl (kJ, 23, .inr (.inl g_252)))] H := hP
  have hD : va_D A [(xa38, .inr (4, [.ref xa39, .ref xa40, .int 0])), (xa39, .inl (kJ, 23, .inr (.inl g_252)))] := hD
  refine W.widen (k := 0) (n := 0) (Nat.le_of_ble_eq_true rfl) (Nat.le_of_ble_eq_true rfl) ?_
  have hF17_0 : g_252 0 = kv5 17 0 := by rw [f253, hF16_0]; exact kvs5_0 16 (by decide)
  have hF17_1 : g_252 1 = kv5 17 1 := by rw [f254, hF16_0, hF16_1]; exact kvs5_1 16 (by decide)
  have hF17_2 : g_252 2 = kv5 17 2 := by rw [f255, hF16_1, hF16_2]; exact kvs5_2 16 (by decide)
  have hF17_3 : g_252 3 = kv5 17 3 := by rw [f256, hF16_2, hF16_3]; exact kvs5_3 16 (by decide)
  have hF17_4 : g_252 4 = kv5 17 4 := by rw [f257, hF16_3, hF16_4]; exact kvs5_4 16 (by decide)
  have hF17_5 : g_252 5 = kv5 17 5 := by rw [f258, hF16_4, hF16_5]; exact kvs5_5 16 (by decide)
  refine lv_ldc2 hx hb hown (hts (.constantLong RX4 23 (1000000000000)) (List.mem_of_getElem? (i := 1) (by decide +kernel))) dX4_leastFor_20 ?_
  refine lv_aload_n hx hb dX4_leastFor_23 rfl (lv_at hl 1 rfl) ?_
  refine va_get (D := (dC, dI)) (ci := 4) (v := .ref xa39) (C := RX4) (T := TX4) (N := 3) hx hb hts hin4 hown hK hP 0 rfl rfl 0 (by decide) (hts (.fieldLink RX4 9 "PathProber$Odds" "met" "[J") (List.mem_of_getElem? (i := 2) (by decide +kernel))) (fun _ h9 => h9) rfl dX4_leastFor_24 ?_
  refine lv_iload_n hx hb dX4_leastFor_27 rfl (lv_at hl 2 rfl) ?_
  refine va_lald hx hb hK hP 1 2 rfl rfl (vp_in_nI (n := 5) (by decide) (by decide)) dX4_leastFor_28 ?_
  refine lv_topl (fun z259 e260 => ?_)
  obtain rfl : z259 = (889100957282 : Int64) := e260.trans (hF17_5.trans (by decide +kernel))
  refine lv_lsub hx hb dX4_leastFor_29 ?_
  refine lv_topl (fun z261 e262 => ?_)
  obtain rfl : z261 = (110899042718 : Int64) := e262.trans (by decide)
  refine lv_lload_n hx hb dX4_leastFor_30 rfl (lv_at hl 3 rfl) ?_
  refine W.lcmp hx hb dX4_leastFor_31 ?_
  refine lv_topi (fun z263 e264 => ?_)
  obtain rfl : z263 = (1 : Int32) := e264.trans (by decide)
  refine lv_if_ge (tgt := 38) hx hb dX4_leastFor_32 (by decide) (fun _ => ?_) (fun c9 => absurd (by decide) c9)
  refine lv_iinc (v := 18) (lv' := [(4, .int 18), (0, .ref xa38), (1, .int 5), (2, .long 50000000000)]) hx hb dX4_leastFor_38 hl (k := 0) rfl (by decide) (by decide) rfl (fun ls hl => ?_)
  refine lv_goto (tgt := 8) hx hb dX4_leastFor_41 (by decide) ?_
  refine lv_iload hx hb dX4_leastFor_8 (lv_at hl 0 rfl) ?_
  refine lv_bipush (v := 60) hx hb dX4_leastFor_10 (by decide) ?_
  refine lv_icmp_gt (tgt := 44) hx hb dX4_leastFor_12 (by decide) (fun c9 => absurd c9 (by decide)) (fun _ => ?_)
  refine lv_aload_n hx hb dX4_leastFor_15 rfl (lv_at hl 1 rfl) ?_
  refine lv_iload_n hx hb dX4_leastFor_16 rfl (lv_at hl 2 rfl) ?_
  have hPc := hP.sub (ws' := [(xa38, .inr (4, [.ref xa39, .ref xa40, .int 0])), (xa39, .inl (kJ, 23, .inr (.inl g_252)))]) [0, 1] rfl
  have hDc := hD.sub (ws' := [(xa38, .inr (4, [.ref xa39, .ref xa40, .int 0])), (xa39, .inl (kJ, 23, .inr (.inl g_252)))]) [0, 1] (by decide) rfl
  have hFc := va_free (wc := [(xa38, .inr (4, [.ref xa39, .ref xa40, .int 0])), (xa39, .inl (kJ, 23, .inr (.inl g_252)))]) hD hS hA [0, 1] rfl
  refine va_callv (va_runV (As := [.int 5]) (rest := []) ⟨hx, hb, hml, hown, hts⟩ (k4_sendNext_5 l dC dI kB kI kJ kZ kC kS H.size xa38 xa39 xa40 g_252) (cwV 1 hts gX4_leastFor_X4_sendNext rfl rfl rfl (by decide +kernel) ⟨Nat.le_of_ble_eq_true rfl, Nat.le_of_ble_eq_true rfl⟩) ⟨fun a U g mk q => by obtain ⟨q0, q1, qP, qE, qD⟩ := q; exact ⟨q0, q1, qP, kE_call qE, qD⟩, va_recv hK hP (ci := 4) (q0 := 0) rfl rfl, fun U hU hW => ⟨rfl, by rw [hU], by rw [hU]; exact hPc, kE_warm hW hE, hDc.weaken (fun _ _ _ _ => trivial)⟩⟩ rfl rfl hl.1 rfl (lv_room (Nat.le_of_ble_eq_true rfl)) dX4_leastFor_17 ⟨Nat.le_of_ble_eq_true rfl, Nat.le_of_ble_eq_true rfl⟩) hS (fun q _ h => hFc q h) hFc (fun u t H1 locs ht hvm w266 hB hz1 hk1 hS => ?_)
  obtain ⟨g_267, f268, f269, f270, f271, f272, f273, hP1, hD1⟩ := hB
  rw [ht] at hP1
  try dsimp only at w266
  obtain ⟨hP, hD⟩ := va_join (wr := []) (w1 := [(xa38, .inr (4, [.ref xa39, .ref xa40, .int 0])), (xa39, .inl (kJ, 23, .inr (.inl g_267)))]) hP hD [0, 1] [] rfl rfl (by decide) (by decide) hk1 hFc hP1 hD1
  generalize H1 = H at hP hS ⊢
  have hP : va_P (dC, dI) vwCl [(xa38, .inr (4, [.ref xa39, .ref xa40, .int 0])), (xa39, .inl (kJ, 23, .inr (.inl g_267)))] H := hP
  have hD : va_D A [(xa38, .inr (4, [.ref xa39, .ref xa40, .int 0])), (xa39, .inl (kJ, 23, .inr (.inl g_267)))] := hD
  refine W.widen (k := 0) (n := 0) (Nat.le_of_ble_eq_true rfl) (Nat.le_of_ble_eq_true rfl) ?_
  have hF18_0 : g_267 0 = kv5 18 0 := by rw [f268, hF17_0]; exact kvs5_0 17 (by decide)
  have hF18_1 : g_267 1 = kv5 18 1 := by rw [f269, hF17_0, hF17_1]; exact kvs5_1 17 (by decide)
  have hF18_2 : g_267 2 = kv5 18 2 := by rw [f270, hF17_1, hF17_2]; exact kvs5_2 17 (by decide)
  have hF18_3 : g_267 3 = kv5 18 3 := by rw [f271, hF17_2, hF17_3]; exact kvs5_3 17 (by decide)
  have hF18_4 : g_267 4 = kv5 18 4 := by rw [f272, hF17_3, hF17_4]; exact kvs5_4 17 (by decide)
  have hF18_5 : g_267 5 = kv5 18 5 := by rw [f273, hF17_4, hF17_5]; exact kvs5_5 17 (by decide)
  refine lv_ldc2 hx hb hown (hts (.constantLong RX4 23 (1000000000000)) (List.mem_of_getElem? (i := 1) (by decide +kernel))) dX4_leastFor_20 ?_
  refine lv_aload_n hx hb dX4_leastFor_23 rfl (lv_at hl 1 rfl) ?_
  refine va_get (D := (dC, dI)) (ci := 4) (v := .ref xa39) (C := RX4) (T := TX4) (N := 3) hx hb hts hin4 hown hK hP 0 rfl rfl 0 (by decide) (hts (.fieldLink RX4 9 "PathProber$Odds" "met" "[J") (List.mem_of_getElem? (i := 2) (by decide +kernel))) (fun _ h9 => h9) rfl dX4_leastFor_24 ?_
  refine lv_iload_n hx hb dX4_leastFor_27 rfl (lv_at hl 2 rfl) ?_
  refine va_lald hx hb hK hP 1 2 rfl rfl (vp_in_nI (n := 5) (by decide) (by decide)) dX4_leastFor_28 ?_
  refine lv_topl (fun z274 e275 => ?_)
  obtain rfl : z274 = (910942919828 : Int64) := e275.trans (hF18_5.trans (by decide +kernel))
  refine lv_lsub hx hb dX4_leastFor_29 ?_
  refine lv_topl (fun z276 e277 => ?_)
  obtain rfl : z276 = (89057080172 : Int64) := e277.trans (by decide)
  refine lv_lload_n hx hb dX4_leastFor_30 rfl (lv_at hl 3 rfl) ?_
  refine W.lcmp hx hb dX4_leastFor_31 ?_
  refine lv_topi (fun z278 e279 => ?_)
  obtain rfl : z278 = (1 : Int32) := e279.trans (by decide)
  refine lv_if_ge (tgt := 38) hx hb dX4_leastFor_32 (by decide) (fun _ => ?_) (fun c9 => absurd (by decide) c9)
  refine lv_iinc (v := 19) (lv' := [(4, .int 19), (0, .ref xa38), (1, .int 5), (2, .long 50000000000)]) hx hb dX4_leastFor_38 hl (k := 0) rfl (by decide) (by decide) rfl (fun ls hl => ?_)
  refine lv_goto (tgt := 8) hx hb dX4_leastFor_41 (by decide) ?_
  refine lv_iload hx hb dX4_leastFor_8 (lv_at hl 0 rfl) ?_
  refine lv_bipush (v := 60) hx hb dX4_leastFor_10 (by decide) ?_
  refine lv_icmp_gt (tgt := 44) hx hb dX4_leastFor_12 (by decide) (fun c9 => absurd c9 (by decide)) (fun _ => ?_)
  refine lv_aload_n hx hb dX4_leastFor_15 rfl (lv_at hl 1 rfl) ?_
  refine lv_iload_n hx hb dX4_leastFor_16 rfl (lv_at hl 2 rfl) ?_
  have hPc := hP.sub (ws' := [(xa38, .inr (4, [.ref xa39, .ref xa40, .int 0])), (xa39, .inl (kJ, 23, .inr (.inl g_267)))]) [0, 1] rfl
  have hDc := hD.sub (ws' := [(xa38, .inr (4, [.ref xa39, .ref xa40, .int 0])), (xa39, .inl (kJ, 23, .inr (.inl g_267)))]) [0, 1] (by decide) rfl
  have hFc := va_free (wc := [(xa38, .inr (4, [.ref xa39, .ref xa40, .int 0])), (xa39, .inl (kJ, 23, .inr (.inl g_267)))]) hD hS hA [0, 1] rfl
  refine va_callv (va_runV (As := [.int 5]) (rest := []) ⟨hx, hb, hml, hown, hts⟩ (k4_sendNext_5 l dC dI kB kI kJ kZ kC kS H.size xa38 xa39 xa40 g_267) (cwV 1 hts gX4_leastFor_X4_sendNext rfl rfl rfl (by decide +kernel) ⟨Nat.le_of_ble_eq_true rfl, Nat.le_of_ble_eq_true rfl⟩) ⟨fun a U g mk q => by obtain ⟨q0, q1, qP, qE, qD⟩ := q; exact ⟨q0, q1, qP, kE_call qE, qD⟩, va_recv hK hP (ci := 4) (q0 := 0) rfl rfl, fun U hU hW => ⟨rfl, by rw [hU], by rw [hU]; exact hPc, kE_warm hW hE, hDc.weaken (fun _ _ _ _ => trivial)⟩⟩ rfl rfl hl.1 rfl (lv_room (Nat.le_of_ble_eq_true rfl)) dX4_leastFor_17 ⟨Nat.le_of_ble_eq_true rfl, Nat.le_of_ble_eq_true rfl⟩) hS (fun q _ h => hFc q h) hFc (fun u t H1 locs ht hvm w281 hB hz1 hk1 hS => ?_)
  obtain ⟨g_282, f283, f284, f285, f286, f287, f288, hP1, hD1⟩ := hB
  rw [ht] at hP1
  try dsimp only at w281
  obtain ⟨hP, hD⟩ := va_join (wr := []) (w1 := [(xa38, .inr (4, [.ref xa39, .ref xa40, .int 0])), (xa39, .inl (kJ, 23, .inr (.inl g_282)))]) hP hD [0, 1] [] rfl rfl (by decide) (by decide) hk1 hFc hP1 hD1
  generalize H1 = H at hP hS ⊢
  have hP : va_P (dC, dI) vwCl [(xa38, .inr (4, [.ref xa39, .ref xa40, .int 0])), (xa39, .inl (kJ, 23, .inr (.inl g_282)))] H := hP
  have hD : va_D A [(xa38, .inr (4, [.ref xa39, .ref xa40, .int 0])), (xa39, .inl (kJ, 23, .inr (.inl g_282)))] := hD
  refine W.widen (k := 0) (n := 0) (Nat.le_of_ble_eq_true rfl) (Nat.le_of_ble_eq_true rfl) ?_
  have hF19_0 : g_282 0 = kv5 19 0 := by rw [f283, hF18_0]; exact kvs5_0 18 (by decide)
  have hF19_1 : g_282 1 = kv5 19 1 := by rw [f284, hF18_0, hF18_1]; exact kvs5_1 18 (by decide)
  have hF19_2 : g_282 2 = kv5 19 2 := by rw [f285, hF18_1, hF18_2]; exact kvs5_2 18 (by decide)
  have hF19_3 : g_282 3 = kv5 19 3 := by rw [f286, hF18_2, hF18_3]; exact kvs5_3 18 (by decide)
  have hF19_4 : g_282 4 = kv5 19 4 := by rw [f287, hF18_3, hF18_4]; exact kvs5_4 18 (by decide)
  have hF19_5 : g_282 5 = kv5 19 5 := by rw [f288, hF18_4, hF18_5]; exact kvs5_5 18 (by decide)
  refine lv_ldc2 hx hb hown (hts (.constantLong RX4 23 (1000000000000)) (List.mem_of_getElem? (i := 1) (by decide +kernel))) dX4_leastFor_20 ?_
  refine lv_aload_n hx hb dX4_leastFor_23 rfl (lv_at hl 1 rfl) ?_
  refine va_get (D := (dC, dI)) (ci := 4) (v := .ref xa39) (C := RX4) (T := TX4) (N := 3) hx hb hts hin4 hown hK hP 0 rfl rfl 0 (by decide) (hts (.fieldLink RX4 9 "PathProber$Odds" "met" "[J") (List.mem_of_getElem? (i := 2) (by decide +kernel))) (fun _ h9 => h9) rfl dX4_leastFor_24 ?_
  refine lv_iload_n hx hb dX4_leastFor_27 rfl (lv_at hl 2 rfl) ?_
  refine va_lald hx hb hK hP 1 2 rfl rfl (vp_in_nI (n := 5) (by decide) (by decide)) dX4_leastFor_28 ?_
  refine lv_topl (fun z289 e290 => ?_)
  obtain rfl : z289 = (928551490827 : Int64) := e290.trans (hF19_5.trans (by decide +kernel))
  refine lv_lsub hx hb dX4_leastFor_29 ?_
  refine lv_topl (fun z291 e292 => ?_)
  obtain rfl : z291 = (71448509173 : Int64) := e292.trans (by decide)
  refine lv_lload_n hx hb dX4_leastFor_30 rfl (lv_at hl 3 rfl) ?_
  refine W.lcmp hx hb dX4_leastFor_31 ?_
  refine lv_topi (fun z293 e294 => ?_)
  obtain rfl : z293 = (1 : Int32) := e294.trans (by decide)
  refine lv_if_ge (tgt := 38) hx hb dX4_leastFor_32 (by decide) (fun _ => ?_) (fun c9 => absurd (by decide) c9)
  refine lv_iinc (v := 20) (lv' := [(4, .int 20), (0, .ref xa38), (1, .int 5), (2, .long 50000000000)]) hx hb dX4_leastFor_38 hl (k := 0) rfl (by decide) (by decide) rfl (fun ls hl => ?_)
  refine lv_goto (tgt := 8) hx hb dX4_leastFor_41 (by decide) ?_
  refine lv_iload hx hb dX4_leastFor_8 (lv_at hl 0 rfl) ?_
  refine lv_bipush (v := 60) hx hb dX4_leastFor_10 (by decide) ?_
  refine lv_icmp_gt (tgt := 44) hx hb dX4_leastFor_12 (by decide) (fun c9 => absurd c9 (by decide)) (fun _ => ?_)
  refine lv_aload_n hx hb dX4_leastFor_15 rfl (lv_at hl 1 rfl) ?_
  refine lv_iload_n hx hb dX4_leastFor_16 rfl (lv_at hl 2 rfl) ?_
  have hPc := hP.sub (ws' := [(xa38, .inr (4, [.ref xa39, .ref xa40, .int 0])), (xa39, .inl (kJ, 23, .inr (.inl g_282)))]) [0, 1] rfl
  have hDc := hD.sub (ws' := [(xa38, .inr (4, [.ref xa39, .ref xa40, .int 0])), (xa39, .inl (kJ, 23, .inr (.inl g_282)))]) [0, 1] (by decide) rfl
  have hFc := va_free (wc := [(xa38, .inr (4, [.ref xa39, .ref xa40, .int 0])), (xa39, .inl (kJ, 23, .inr (.inl g_282)))]) hD hS hA [0, 1] rfl
  refine va_callv (va_runV (As := [.int 5]) (rest := []) ⟨hx, hb, hml, hown, hts⟩ (k4_sendNext_5 l dC dI kB kI kJ kZ kC kS H.size xa38 xa39 xa40 g_282) (cwV 1 hts gX4_leastFor_X4_sendNext rfl rfl rfl (by decide +kernel) ⟨Nat.le_of_ble_eq_true rfl, Nat.le_of_ble_eq_true rfl⟩) ⟨fun a U g mk q => by obtain ⟨q0, q1, qP, qE, qD⟩ := q; exact ⟨q0, q1, qP, kE_call qE, qD⟩, va_recv hK hP (ci := 4) (q0 := 0) rfl rfl, fun U hU hW => ⟨rfl, by rw [hU], by rw [hU]; exact hPc, kE_warm hW hE, hDc.weaken (fun _ _ _ _ => trivial)⟩⟩ rfl rfl hl.1 rfl (lv_room (Nat.le_of_ble_eq_true rfl)) dX4_leastFor_17 ⟨Nat.le_of_ble_eq_true rfl, Nat.le_of_ble_eq_true rfl⟩) hS (fun q _ h => hFc q h) hFc (fun u t H1 locs ht hvm w296 hB hz1 hk1 hS => ?_)
  obtain ⟨g_297, f298, f299, f300, f301, f302, f303, hP1, hD1⟩ := hB
  rw [ht] at hP1
  try dsimp only at w296
  obtain ⟨hP, hD⟩ := va_join (wr := []) (w1 := [(xa38, .inr (4, [.ref xa39, .ref xa40, .int 0])), (xa39, .inl (kJ, 23, .inr (.inl g_297)))]) hP hD [0, 1] [] rfl rfl (by decide) (by decide) hk1 hFc hP1 hD1
  generalize H1 = H at hP hS ⊢
  have hP : va_P (dC, dI) vwCl [(xa38, .inr (4, [.ref xa39, .ref xa40, .int 0])), (xa39, .inl (kJ, 23, .inr (.inl g_297)))] H := hP
  have hD : va_D A [(xa38, .inr (4, [.ref xa39, .ref xa40, .int 0])), (xa39, .inl (kJ, 23, .inr (.inl g_297)))] := hD
  refine W.widen (k := 0) (n := 0) (Nat.le_of_ble_eq_true rfl) (Nat.le_of_ble_eq_true rfl) ?_
  have hF20_0 : g_297 0 = kv5 20 0 := by rw [f298, hF19_0]; exact kvs5_0 19 (by decide)
  have hF20_1 : g_297 1 = kv5 20 1 := by rw [f299, hF19_0, hF19_1]; exact kvs5_1 19 (by decide)
  have hF20_2 : g_297 2 = kv5 20 2 := by rw [f300, hF19_1, hF19_2]; exact kvs5_2 19 (by decide)
  have hF20_3 : g_297 3 = kv5 20 3 := by rw [f301, hF19_2, hF19_3]; exact kvs5_3 19 (by decide)
  have hF20_4 : g_297 4 = kv5 20 4 := by rw [f302, hF19_3, hF19_4]; exact kvs5_4 19 (by decide)
  have hF20_5 : g_297 5 = kv5 20 5 := by rw [f303, hF19_4, hF19_5]; exact kvs5_5 19 (by decide)
  refine lv_ldc2 hx hb hown (hts (.constantLong RX4 23 (1000000000000)) (List.mem_of_getElem? (i := 1) (by decide +kernel))) dX4_leastFor_20 ?_
  refine lv_aload_n hx hb dX4_leastFor_23 rfl (lv_at hl 1 rfl) ?_
  refine va_get (D := (dC, dI)) (ci := 4) (v := .ref xa39) (C := RX4) (T := TX4) (N := 3) hx hb hts hin4 hown hK hP 0 rfl rfl 0 (by decide) (hts (.fieldLink RX4 9 "PathProber$Odds" "met" "[J") (List.mem_of_getElem? (i := 2) (by decide +kernel))) (fun _ h9 => h9) rfl dX4_leastFor_24 ?_
  refine lv_iload_n hx hb dX4_leastFor_27 rfl (lv_at hl 2 rfl) ?_
  refine va_lald hx hb hK hP 1 2 rfl rfl (vp_in_nI (n := 5) (by decide) (by decide)) dX4_leastFor_28 ?_
  refine lv_topl (fun z304 e305 => ?_)
  obtain rfl : z304 = (942719430665 : Int64) := e305.trans (hF20_5.trans (by decide +kernel))
  refine lv_lsub hx hb dX4_leastFor_29 ?_
  refine lv_topl (fun z306 e307 => ?_)
  obtain rfl : z306 = (57280569335 : Int64) := e307.trans (by decide)
  refine lv_lload_n hx hb dX4_leastFor_30 rfl (lv_at hl 3 rfl) ?_
  refine W.lcmp hx hb dX4_leastFor_31 ?_
  refine lv_topi (fun z308 e309 => ?_)
  obtain rfl : z308 = (1 : Int32) := e309.trans (by decide)
  refine lv_if_ge (tgt := 38) hx hb dX4_leastFor_32 (by decide) (fun _ => ?_) (fun c9 => absurd (by decide) c9)
  refine lv_iinc (v := 21) (lv' := [(4, .int 21), (0, .ref xa38), (1, .int 5), (2, .long 50000000000)]) hx hb dX4_leastFor_38 hl (k := 0) rfl (by decide) (by decide) rfl (fun ls hl => ?_)
  refine lv_goto (tgt := 8) hx hb dX4_leastFor_41 (by decide) ?_
  refine lv_iload hx hb dX4_leastFor_8 (lv_at hl 0 rfl) ?_
  refine lv_bipush (v := 60) hx hb dX4_leastFor_10 (by decide) ?_
  refine lv_icmp_gt (tgt := 44) hx hb dX4_leastFor_12 (by decide) (fun c9 => absurd c9 (by decide)) (fun _ => ?_)
  refine lv_aload_n hx hb dX4_leastFor_15 rfl (lv_at hl 1 rfl) ?_
  refine lv_iload_n hx hb dX4_leastFor_16 rfl (lv_at hl 2 rfl) ?_
  have hPc := hP.sub (ws' := [(xa38, .inr (4, [.ref xa39, .ref xa40, .int 0])), (xa39, .inl (kJ, 23, .inr (.inl g_297)))]) [0, 1] rfl
  have hDc := hD.sub (ws' := [(xa38, .inr (4, [.ref xa39, .ref xa40, .int 0])), (xa39, .inl (kJ, 23, .inr (.inl g_297)))]) [0, 1] (by decide) rfl
  have hFc := va_free (wc := [(xa38, .inr (4, [.ref xa39, .ref xa40, .int 0])), (xa39, .inl (kJ, 23, .inr (.inl g_297)))]) hD hS hA [0, 1] rfl
  refine va_callv (va_runV (As := [.int 5]) (rest := []) ⟨hx, hb, hml, hown, hts⟩ (k4_sendNext_5 l dC dI kB kI kJ kZ kC kS H.size xa38 xa39 xa40 g_297) (cwV 1 hts gX4_leastFor_X4_sendNext rfl rfl rfl (by decide +kernel) ⟨Nat.le_of_ble_eq_true rfl, Nat.le_of_ble_eq_true rfl⟩) ⟨fun a U g mk q => by obtain ⟨q0, q1, qP, qE, qD⟩ := q; exact ⟨q0, q1, qP, kE_call qE, qD⟩, va_recv hK hP (ci := 4) (q0 := 0) rfl rfl, fun U hU hW => ⟨rfl, by rw [hU], by rw [hU]; exact hPc, kE_warm hW hE, hDc.weaken (fun _ _ _ _ => trivial)⟩⟩ rfl rfl hl.1 rfl (lv_room (Nat.le_of_ble_eq_true rfl)) dX4_leastFor_17 ⟨Nat.le_of_ble_eq_true rfl, Nat.le_of_ble_eq_true rfl⟩) hS (fun q _ h => hFc q h) hFc (fun u t H1 locs ht hvm w311 hB hz1 hk1 hS => ?_)
  obtain ⟨g_312, f313, f314, f315, f316, f317, f318, hP1, hD1⟩ := hB
  rw [ht] at hP1
  try dsimp only at w311
  obtain ⟨hP, hD⟩ := va_join (wr := []) (w1 := [(xa38, .inr (4, [.ref xa39, .ref xa40, .int 0])), (xa39, .inl (kJ, 23, .inr (.inl g_312)))]) hP hD [0, 1] [] rfl rfl (by decide) (by decide) hk1 hFc hP1 hD1
  generalize H1 = H at hP hS ⊢
  have hP : va_P (dC, dI) vwCl [(xa38, .inr (4, [.ref xa39, .ref xa40, .int 0])), (xa39, .inl (kJ, 23, .inr (.inl g_312)))] H := hP
  have hD : va_D A [(xa38, .inr (4, [.ref xa39, .ref xa40, .int 0])), (xa39, .inl (kJ, 23, .inr (.inl g_312)))] := hD
  refine W.widen (k := 0) (n := 0) (Nat.le_of_ble_eq_true rfl) (Nat.le_of_ble_eq_true rfl) ?_
  have hF21_0 : g_312 0 = kv5 21 0 := by rw [f313, hF20_0]; exact kvs5_0 20 (by decide)
  have hF21_1 : g_312 1 = kv5 21 1 := by rw [f314, hF20_0, hF20_1]; exact kvs5_1 20 (by decide)
  have hF21_2 : g_312 2 = kv5 21 2 := by rw [f315, hF20_1, hF20_2]; exact kvs5_2 20 (by decide)
  have hF21_3 : g_312 3 = kv5 21 3 := by rw [f316, hF20_2, hF20_3]; exact kvs5_3 20 (by decide)
  have hF21_4 : g_312 4 = kv5 21 4 := by rw [f317, hF20_3, hF20_4]; exact kvs5_4 20 (by decide)
  have hF21_5 : g_312 5 = kv5 21 5 := by rw [f318, hF20_4, hF20_5]; exact kvs5_5 20 (by decide)
  refine lv_ldc2 hx hb hown (hts (.constantLong RX4 23 (1000000000000)) (List.mem_of_getElem? (i := 1) (by decide +kernel))) dX4_leastFor_20 ?_
  refine lv_aload_n hx hb dX4_leastFor_23 rfl (lv_at hl 1 rfl) ?_
  refine va_get (D := (dC, dI)) (ci := 4) (v := .ref xa39) (C := RX4) (T := TX4) (N := 3) hx hb hts hin4 hown hK hP 0 rfl rfl 0 (by decide) (hts (.fieldLink RX4 9 "PathProber$Odds" "met" "[J") (List.mem_of_getElem? (i := 2) (by decide +kernel))) (fun _ h9 => h9) rfl dX4_leastFor_24 ?_
  refine lv_iload_n hx hb dX4_leastFor_27 rfl (lv_at hl 2 rfl) ?_
  refine va_lald hx hb hK hP 1 2 rfl rfl (vp_in_nI (n := 5) (by decide) (by decide)) dX4_leastFor_28 ?_
  refine lv_topl (fun z319 e320 => ?_)
  obtain rfl : z319 = (954102465344 : Int64) := e320.trans (hF21_5.trans (by decide +kernel))
  refine lv_lsub hx hb dX4_leastFor_29 ?_
  refine lv_topl (fun z321 e322 => ?_)
  obtain rfl : z321 = (45897534656 : Int64) := e322.trans (by decide)
  refine lv_lload_n hx hb dX4_leastFor_30 rfl (lv_at hl 3 rfl) ?_
  refine W.lcmp hx hb dX4_leastFor_31 ?_
  refine lv_topi (fun z323 e324 => ?_)
  obtain rfl : z323 = ((-1) : Int32) := e324.trans (by decide)
  refine lv_if_ge (tgt := 38) hx hb dX4_leastFor_32 (by decide) (fun c9 => absurd c9 (by decide)) (fun _ => ?_)
  refine lv_iload hx hb dX4_leastFor_35 (lv_at hl 0 rfl) ?_
  have hP9 := hP.sub (ws' := [(xa38, .inr (4, [.ref xa39, .ref xa40, .int 0])), (xa39, .inl (kJ, 23, .inr (.inl g_312)))]) [0, 1] rfl
  have hD9 := hD.sub (ws' := [(xa38, .inr (4, [.ref xa39, .ref xa40, .int 0])), (xa39, .inl (kJ, 23, .inr (.inl g_312)))]) [0, 1] (by decide) rfl
  exact W.iret (v := 21) hx hb hr (fun t ht hW => ⟨⟨21, (), rfl, rfl, g_312, by rw [ht]; exact hP9, hD9⟩, hS.F ht⟩) hS.2.2 dX4_leastFor_37
def rm_k4_enoughFor_1 : Room := { frames := 2, cells := 0, slots := 0, locals := 48 }
set_option maxHeartbeats 4000000 in
set_option maxRecDepth 100000 in
theorem k4_enoughFor_1 (l : Launch) (dC : Nat → ClassId) (dI : Nat → Nat → Nat) (kB kI kJ kZ kC kS : ClassId) (sz : Nat) (xa38 : Nat) (xa39 : Nat) (xa40 : Nat) : Met l yX4_enoughFor wsX4_enoughFor rm_k4_enoughFor_1 (va_Pc [.ref xa38, .int 1, .int 5] (fun U => U.heap.size = sz ∧ va_P (dC, dI) vwCl [(xa38, .inr (4, [.ref xa39, .ref xa40, .int 0])), (xa39, .inl (kJ, 23, .inr (.inl (fun _ => 0)))), (xa40, .inl (kI, 4, .inl (fun _ => 0)))] U.heap ∧ kE dC dI kB kI kJ kZ kC kS U ∧ va_D (fun _ => True) [(xa38, .inr (4, [.ref xa39, .ref xa40, .int 0])), (xa39, .inl (kJ, 23, .inr (.inl (fun _ => 0)))), (xa40, .inl (kI, 4, .inl (fun _ => 0)))])) (va_Qi (fun (r : Int32) (_ : Unit) => r = 6) (fun _ t => va_P (dC, dI) vwCl [] t.heap ∧ va_D (va_A [(xa38, .inr (4, [.ref xa39, .ref xa40, .int 0])), (xa39, .inl (kJ, 23, .inr (.inl (fun _ => 0)))), (xa40, .inl (kI, 4, .inl (fun _ => 0)))] sz) []) (va_A [(xa38, .inr (4, [.ref xa39, .ref xa40, .int 0])), (xa39, .inl (kJ, 23, .inr (.inl (fun _ => 0)))), (xa40, .inl (kI, 4, .inl (fun _ => 0)))] sz)) 0 0 (va_A [(xa38, .inr (4, [.ref xa39, .ref xa40, .int 0])), (xa39, .inl (kJ, 23, .inr (.inl (fun _ => 0)))), (xa40, .inl (kI, 4, .inl (fun _ => 0)))] sz) := by
  refine Met.ofW (cc := cX4_enoughFor) (maxL := 4) (ret := (some .int)) (by decide) rfl ?_
  intro p e s m args0 below meth c s₁ B hml hv
  obtain ⟨hargs, hsz, hP, hE, hD0⟩ := hv
  have hx := B.exec
  have hb := B.bytes
  have hr := B.returns
  have hts := atoms_spec (ws := wsX4_enoughFor) B.pre
  have hown : s.vm.findClass RX4 = some m.cls := findClass_of_methodNamed B.named
  have hlocks := B.notSynchronized
  have hK := hE.1
  have hin4 : ∀ w ∈ wsX40, w ∈ wsX4_enoughFor := fun _ h9 => List.mem_cons_of_mem _ (List.mem_append_right _ h9)
  subst hsz
  have hD := hD0.self (sz := s.heap.size)
  generalize hAe : va_A [(xa38, .inr (4, [.ref xa39, .ref xa40, .int 0])), (xa39, .inl (kJ, 23, .inr (.inl (fun _ => 0)))), (xa40, .inl (kI, 4, .inl (fun _ => 0)))] s.heap.size = A at hD ⊢
  have hA : ∀ q : Nat, s.heap.size ≤ q → A q := fun q h => by rw [← hAe]; exact Or.inr h
  have hS : va_S A s.heap s.heap [] := va_S.rf
  have hP : va_P (dC, dI) vwCl [(xa38, .inr (4, [.ref xa39, .ref xa40, .int 0])), (xa39, .inl (kJ, 23, .inr (.inl (fun _ => 0)))), (xa40, .inl (kI, 4, .inl (fun _ => 0)))] s.heap := hP
  have hl := lv_entry ([.ref xa38, .int 1, .int 5]) (n := 4) (Nat.le_of_ble_eq_true rfl)
  have hla : entryFrame m args0 4 = entryFrame m ([.ref xa38, .int 1, .int 5] : List Value).toArray 4 := by rw [hargs]
  rw [hla, lg_entry_eq]
  generalize (lg_sl ([.ref xa38, .int 1, .int 5]) ++ List.replicate (4 - (lg_sl ([.ref xa38, .int 1, .int 5])).length) Slot.unset).toArray = ls at hl ⊢
  have hl : lv_has ls 4 [(0, .ref xa38), (1, .int 1), (2, .int 5)] := hl
  refine lv_iload_n hx hb dX4_enoughFor_0 rfl (lv_at hl 1 rfl) ?_
  refine lv_iconst (v := 1) hx hb dX4_enoughFor_1 (by decide) ?_
  refine lv_icmp_lt (tgt := 10) hx hb dX4_enoughFor_2 (by decide) (fun c9 => absurd c9 (by decide)) (fun _ => ?_)
  refine lv_iload_n hx hb dX4_enoughFor_5 rfl (lv_at hl 1 rfl) ?_
  refine lv_iconst (v := 4) hx hb dX4_enoughFor_6 (by decide) ?_
  refine lv_icmp_le (tgt := 12) hx hb dX4_enoughFor_7 (by decide) (fun _ => ?_) (fun c9 => absurd (by decide) c9)
  refine lv_iload_n hx hb dX4_enoughFor_12 rfl (lv_at hl 2 rfl) ?_
  refine lv_aload_n hx hb dX4_enoughFor_13 rfl (lv_at hl 0 rfl) ?_
  refine va_get (D := (dC, dI)) (ci := 4) (v := .int 0) (C := RX4) (T := TX4) (N := 3) hx hb hts hin4 hown hK hP 0 rfl rfl 2 (by decide) (hts (.fieldLink RX4 19 "PathProber$Odds" "lossOfEnough" "I") (List.mem_of_getElem? (i := 1) (by decide +kernel))) (fun _ h9 => h9) rfl dX4_enoughFor_14 ?_
  refine lv_icmp_eq (tgt := 59) hx hb dX4_enoughFor_17 (by decide) (fun c9 => absurd c9 (by decide)) (fun _ => ?_)
  refine lv_iconst (v := 1) hx hb dX4_enoughFor_20 (by decide) ?_
  refine lv_istore_n (lv' := [(3, .int 1), (0, .ref xa38), (1, .int 1), (2, .int 5)]) hx hb dX4_enoughFor_21 rfl hl (by decide) rfl (fun ls hl => ?_)
  refine lv_iload_n hx hb dX4_enoughFor_22 rfl (lv_at hl 0 rfl) ?_
  refine lv_iconst (v := 4) hx hb dX4_enoughFor_23 (by decide) ?_
  refine lv_icmp_gt (tgt := 54) hx hb dX4_enoughFor_24 (by decide) (fun c9 => absurd c9 (by decide)) (fun _ => ?_)
  refine lv_aload_n hx hb dX4_enoughFor_27 rfl (lv_at hl 1 rfl) ?_
  refine va_get (D := (dC, dI)) (ci := 4) (v := .ref xa40) (C := RX4) (T := TX4) (N := 3) hx hb hts hin4 hown hK hP 0 rfl rfl 1 (by decide) (hts (.fieldLink RX4 15 "PathProber$Odds" "enough" "[I") (List.mem_of_getElem? (i := 2) (by decide +kernel))) (fun _ h9 => h9) rfl dX4_enoughFor_28 ?_
  refine lv_iload_n hx hb dX4_enoughFor_31 rfl (lv_at hl 0 rfl) ?_
  refine lv_iconst (v := 1) hx hb dX4_enoughFor_32 (by decide) ?_
  refine lv_isub hx hb dX4_enoughFor_33 ?_
  refine lv_topi (fun z1 e2 => ?_)
  obtain rfl : z1 = (0 : Int32) := e2.trans (by decide)
  refine lv_aload_n hx hb dX4_enoughFor_34 rfl (lv_at hl 1 rfl) ?_
  refine lv_iload_n hx hb dX4_enoughFor_35 rfl (lv_at hl 0 rfl) ?_
  refine lv_iconst (v := 1) hx hb dX4_enoughFor_36 (by decide) ?_
  refine lv_iadd hx hb dX4_enoughFor_37 ?_
  refine lv_topi (fun z3 e4 => ?_)
  obtain rfl : z3 = (2 : Int32) := e4.trans (by decide)
  refine lv_iload_n hx hb dX4_enoughFor_38 rfl (lv_at hl 3 rfl) ?_
  refine lv_i2l (v := 5) hx hb dX4_enoughFor_39 (by decide) ?_
  refine lv_ldc2 hx hb hown (hts (.constantLong RX4 32 (10000000000)) (List.mem_of_getElem? (i := 3) (by decide +kernel))) dX4_enoughFor_40 ?_
  refine lv_lmul hx hb dX4_enoughFor_43 ?_
  refine lv_topl (fun z5 e6 => ?_)
  obtain rfl : z5 = (50000000000 : Int64) := e6.trans (by decide)
  have hPc := hP.sub (ws' := [(xa38, .inr (4, [.ref xa39, .ref xa40, .int 0])), (xa39, .inl (kJ, 23, .inr (.inl (fun _ => 0))))]) [0, 1] rfl
  have hDc := hD.sub (ws' := [(xa38, .inr (4, [.ref xa39, .ref xa40, .int 0])), (xa39, .inl (kJ, 23, .inr (.inl (fun _ => 0))))]) [0, 1] (by decide) rfl
  have hFc := va_free (wc := [(xa38, .inr (4, [.ref xa39, .ref xa40, .int 0])), (xa39, .inl (kJ, 23, .inr (.inl (fun _ => 0))))]) hD hS hA [0, 1] rfl
  refine va_calli (va_runV (As := [.int 2, .long 50000000000]) (rest := [.int 0, .ref xa40]) ⟨hx, hb, hml, hown, hts⟩ (k4_leastFor_2 l dC dI kB kI kJ kZ kC kS s.heap.size xa38 xa39 xa40 (fun _ => 0)) (cwV 2 hts gX4_enoughFor_X4_leastFor rfl rfl rfl (by decide +kernel) ⟨Nat.le_of_ble_eq_true rfl, Nat.le_of_ble_eq_true rfl⟩) ⟨fun a U g mk q => by obtain ⟨q0, q1, qP, qE, qD⟩ := q; exact ⟨q0, q1, qP, kE_call qE, qD⟩, va_recv hK hP (ci := 4) (q0 := 0) rfl rfl, fun U hU hW => ⟨rfl, by rw [hU], by rw [hU]; exact hPc, kE_warm hW hE, hDc.weaken (fun _ _ _ _ => trivial)⟩⟩ rfl rfl hl.1 rfl (lv_room (Nat.le_of_ble_eq_true rfl)) dX4_enoughFor_44 ⟨Nat.le_of_ble_eq_true rfl, Nat.le_of_ble_eq_true rfl⟩) hS (fun q _ h => hFc q h) hFc (fun r7 u t H1 locs ht hvm w8 hB hz1 hk1 hS => ?_)
  obtain ⟨g_9, hP1, hD1⟩ := hB
  rw [ht] at hP1
  try dsimp only at w8
  obtain ⟨hP, hD⟩ := va_join (wr := [(xa40, .inl (kI, 4, .inl (fun _ => 0)))]) (w1 := [(xa38, .inr (4, [.ref xa39, .ref xa40, .int 0])), (xa39, .inl (kJ, 23, .inr (.inl g_9)))]) hP hD [0, 1] [2] rfl rfl (by decide) (by decide) hk1 hFc hP1 hD1
  generalize H1 = H at hP hS ⊢
  have hP : va_P (dC, dI) vwCl [(xa40, .inl (kI, 4, .inl (fun _ => 0))), (xa38, .inr (4, [.ref xa39, .ref xa40, .int 0])), (xa39, .inl (kJ, 23, .inr (.inl g_9)))] H := hP
  have hD : va_D A [(xa40, .inl (kI, 4, .inl (fun _ => 0))), (xa38, .inr (4, [.ref xa39, .ref xa40, .int 0])), (xa39, .inl (kJ, 23, .inr (.inl g_9)))] := hD
  refine W.widen (k := 0) (n := 0) (Nat.le_of_ble_eq_true rfl) (Nat.le_of_ble_eq_true rfl) ?_
  subst w8
  refine va_iast hx hb hK hP hD hS 0 1 rfl rfl (vp_in_nI (n := 0) (by decide) (by decide)) dX4_enoughFor_47 (fun H locs hP hD hS => ?_)
  have hP : va_P (dC, dI) vwCl [(xa40, .inl (kI, 4, .inl (upd (fun _ => 0) 0 6))), (xa38, .inr (4, [.ref xa39, .ref xa40, .int 0])), (xa39, .inl (kJ, 23, .inr (.inl g_9)))] H := hP
  have hD : va_D A [(xa40, .inl (kI, 4, .inl (upd (fun _ => 0) 0 6))), (xa38, .inr (4, [.ref xa39, .ref xa40, .int 0])), (xa39, .inl (kJ, 23, .inr (.inl g_9)))] := hD
  refine lv_iinc (v := 2) (lv' := [(3, .int 2), (0, .ref xa38), (1, .int 1), (2, .int 5)]) hx hb dX4_enoughFor_48 hl (k := 0) rfl (by decide) (by decide) rfl (fun ls hl => ?_)
  refine lv_goto (tgt := 22) hx hb dX4_enoughFor_51 (by decide) ?_
  refine lv_iload_n hx hb dX4_enoughFor_22 rfl (lv_at hl 0 rfl) ?_
  refine lv_iconst (v := 4) hx hb dX4_enoughFor_23 (by decide) ?_
  refine lv_icmp_gt (tgt := 54) hx hb dX4_enoughFor_24 (by decide) (fun c9 => absurd c9 (by decide)) (fun _ => ?_)
  refine lv_aload_n hx hb dX4_enoughFor_27 rfl (lv_at hl 1 rfl) ?_
  refine va_get (D := (dC, dI)) (ci := 4) (v := .ref xa40) (C := RX4) (T := TX4) (N := 3) hx hb hts hin4 hown hK hP 1 rfl rfl 1 (by decide) (hts (.fieldLink RX4 15 "PathProber$Odds" "enough" "[I") (List.mem_of_getElem? (i := 2) (by decide +kernel))) (fun _ h9 => h9) rfl dX4_enoughFor_28 ?_
  refine lv_iload_n hx hb dX4_enoughFor_31 rfl (lv_at hl 0 rfl) ?_
  refine lv_iconst (v := 1) hx hb dX4_enoughFor_32 (by decide) ?_
  refine lv_isub hx hb dX4_enoughFor_33 ?_
  refine lv_topi (fun z10 e11 => ?_)
  obtain rfl : z10 = (1 : Int32) := e11.trans (by decide)
  refine lv_aload_n hx hb dX4_enoughFor_34 rfl (lv_at hl 1 rfl) ?_
  refine lv_iload_n hx hb dX4_enoughFor_35 rfl (lv_at hl 0 rfl) ?_
  refine lv_iconst (v := 1) hx hb dX4_enoughFor_36 (by decide) ?_
  refine lv_iadd hx hb dX4_enoughFor_37 ?_
  refine lv_topi (fun z12 e13 => ?_)
  obtain rfl : z12 = (3 : Int32) := e13.trans (by decide)
  refine lv_iload_n hx hb dX4_enoughFor_38 rfl (lv_at hl 3 rfl) ?_
  refine lv_i2l (v := 5) hx hb dX4_enoughFor_39 (by decide) ?_
  refine lv_ldc2 hx hb hown (hts (.constantLong RX4 32 (10000000000)) (List.mem_of_getElem? (i := 3) (by decide +kernel))) dX4_enoughFor_40 ?_
  refine lv_lmul hx hb dX4_enoughFor_43 ?_
  refine lv_topl (fun z14 e15 => ?_)
  obtain rfl : z14 = (50000000000 : Int64) := e15.trans (by decide)
  have hPc := hP.sub (ws' := [(xa38, .inr (4, [.ref xa39, .ref xa40, .int 0])), (xa39, .inl (kJ, 23, .inr (.inl g_9)))]) [1, 2] rfl
  have hDc := hD.sub (ws' := [(xa38, .inr (4, [.ref xa39, .ref xa40, .int 0])), (xa39, .inl (kJ, 23, .inr (.inl g_9)))]) [1, 2] (by decide) rfl
  have hFc := va_free (wc := [(xa38, .inr (4, [.ref xa39, .ref xa40, .int 0])), (xa39, .inl (kJ, 23, .inr (.inl g_9)))]) hD hS hA [1, 2] rfl
  refine va_calli (va_runV (As := [.int 3, .long 50000000000]) (rest := [.int 1, .ref xa40]) ⟨hx, hb, hml, hown, hts⟩ (k4_leastFor_3 l dC dI kB kI kJ kZ kC kS H.size xa38 xa39 xa40 g_9) (cwV 2 hts gX4_enoughFor_X4_leastFor rfl rfl rfl (by decide +kernel) ⟨Nat.le_of_ble_eq_true rfl, Nat.le_of_ble_eq_true rfl⟩) ⟨fun a U g mk q => by obtain ⟨q0, q1, qP, qE, qD⟩ := q; exact ⟨q0, q1, qP, kE_call qE, qD⟩, va_recv hK hP (ci := 4) (q0 := 1) rfl rfl, fun U hU hW => ⟨rfl, by rw [hU], by rw [hU]; exact hPc, kE_warm hW hE, hDc.weaken (fun _ _ _ _ => trivial)⟩⟩ rfl rfl hl.1 rfl (lv_room (Nat.le_of_ble_eq_true rfl)) dX4_enoughFor_44 ⟨Nat.le_of_ble_eq_true rfl, Nat.le_of_ble_eq_true rfl⟩) hS (fun q _ h => hFc q h) hFc (fun r16 u t H1 locs ht hvm w17 hB hz1 hk1 hS => ?_)
  obtain ⟨g_18, hP1, hD1⟩ := hB
  rw [ht] at hP1
  try dsimp only at w17
  obtain ⟨hP, hD⟩ := va_join (wr := [(xa40, .inl (kI, 4, .inl (upd (fun _ => 0) 0 6)))]) (w1 := [(xa38, .inr (4, [.ref xa39, .ref xa40, .int 0])), (xa39, .inl (kJ, 23, .inr (.inl g_18)))]) hP hD [1, 2] [0] rfl rfl (by decide) (by decide) hk1 hFc hP1 hD1
  generalize H1 = H at hP hS ⊢
  have hP : va_P (dC, dI) vwCl [(xa40, .inl (kI, 4, .inl (upd (fun _ => 0) 0 6))), (xa38, .inr (4, [.ref xa39, .ref xa40, .int 0])), (xa39, .inl (kJ, 23, .inr (.inl g_18)))] H := hP
  have hD : va_D A [(xa40, .inl (kI, 4, .inl (upd (fun _ => 0) 0 6))), (xa38, .inr (4, [.ref xa39, .ref xa40, .int 0])), (xa39, .inl (kJ, 23, .inr (.inl g_18)))] := hD
  refine W.widen (k := 0) (n := 0) (Nat.le_of_ble_eq_true rfl) (Nat.le_of_ble_eq_true rfl) ?_
  subst w17
  refine va_iast hx hb hK hP hD hS 0 1 rfl rfl (vp_in_nI (n := 1) (by decide) (by decide)) dX4_enoughFor_47 (fun H locs hP hD hS => ?_)
  have hP : va_P (dC, dI) vwCl [(xa40, .inl (kI, 4, .inl (upd (upd (fun _ => 0) 0 6) 1 11))), (xa38, .inr (4, [.ref xa39, .ref xa40, .int 0])), (xa39, .inl (kJ, 23, .inr (.inl g_18)))] H := hP
  have hD : va_D A [(xa40, .inl (kI, 4, .inl (upd (upd (fun _ => 0) 0 6) 1 11))), (xa38, .inr (4, [.ref xa39, .ref xa40, .int 0])), (xa39, .inl (kJ, 23, .inr (.inl g_18)))] := hD
  refine lv_iinc (v := 3) (lv' := [(3, .int 3), (0, .ref xa38), (1, .int 1), (2, .int 5)]) hx hb dX4_enoughFor_48 hl (k := 0) rfl (by decide) (by decide) rfl (fun ls hl => ?_)
  refine lv_goto (tgt := 22) hx hb dX4_enoughFor_51 (by decide) ?_
  refine lv_iload_n hx hb dX4_enoughFor_22 rfl (lv_at hl 0 rfl) ?_
  refine lv_iconst (v := 4) hx hb dX4_enoughFor_23 (by decide) ?_
  refine lv_icmp_gt (tgt := 54) hx hb dX4_enoughFor_24 (by decide) (fun c9 => absurd c9 (by decide)) (fun _ => ?_)
  refine lv_aload_n hx hb dX4_enoughFor_27 rfl (lv_at hl 1 rfl) ?_
  refine va_get (D := (dC, dI)) (ci := 4) (v := .ref xa40) (C := RX4) (T := TX4) (N := 3) hx hb hts hin4 hown hK hP 1 rfl rfl 1 (by decide) (hts (.fieldLink RX4 15 "PathProber$Odds" "enough" "[I") (List.mem_of_getElem? (i := 2) (by decide +kernel))) (fun _ h9 => h9) rfl dX4_enoughFor_28 ?_
  refine lv_iload_n hx hb dX4_enoughFor_31 rfl (lv_at hl 0 rfl) ?_
  refine lv_iconst (v := 1) hx hb dX4_enoughFor_32 (by decide) ?_
  refine lv_isub hx hb dX4_enoughFor_33 ?_
  refine lv_topi (fun z19 e20 => ?_)
  obtain rfl : z19 = (2 : Int32) := e20.trans (by decide)
  refine lv_aload_n hx hb dX4_enoughFor_34 rfl (lv_at hl 1 rfl) ?_
  refine lv_iload_n hx hb dX4_enoughFor_35 rfl (lv_at hl 0 rfl) ?_
  refine lv_iconst (v := 1) hx hb dX4_enoughFor_36 (by decide) ?_
  refine lv_iadd hx hb dX4_enoughFor_37 ?_
  refine lv_topi (fun z21 e22 => ?_)
  obtain rfl : z21 = (4 : Int32) := e22.trans (by decide)
  refine lv_iload_n hx hb dX4_enoughFor_38 rfl (lv_at hl 3 rfl) ?_
  refine lv_i2l (v := 5) hx hb dX4_enoughFor_39 (by decide) ?_
  refine lv_ldc2 hx hb hown (hts (.constantLong RX4 32 (10000000000)) (List.mem_of_getElem? (i := 3) (by decide +kernel))) dX4_enoughFor_40 ?_
  refine lv_lmul hx hb dX4_enoughFor_43 ?_
  refine lv_topl (fun z23 e24 => ?_)
  obtain rfl : z23 = (50000000000 : Int64) := e24.trans (by decide)
  have hPc := hP.sub (ws' := [(xa38, .inr (4, [.ref xa39, .ref xa40, .int 0])), (xa39, .inl (kJ, 23, .inr (.inl g_18)))]) [1, 2] rfl
  have hDc := hD.sub (ws' := [(xa38, .inr (4, [.ref xa39, .ref xa40, .int 0])), (xa39, .inl (kJ, 23, .inr (.inl g_18)))]) [1, 2] (by decide) rfl
  have hFc := va_free (wc := [(xa38, .inr (4, [.ref xa39, .ref xa40, .int 0])), (xa39, .inl (kJ, 23, .inr (.inl g_18)))]) hD hS hA [1, 2] rfl
  refine va_calli (va_runV (As := [.int 4, .long 50000000000]) (rest := [.int 2, .ref xa40]) ⟨hx, hb, hml, hown, hts⟩ (k4_leastFor_4 l dC dI kB kI kJ kZ kC kS H.size xa38 xa39 xa40 g_18) (cwV 2 hts gX4_enoughFor_X4_leastFor rfl rfl rfl (by decide +kernel) ⟨Nat.le_of_ble_eq_true rfl, Nat.le_of_ble_eq_true rfl⟩) ⟨fun a U g mk q => by obtain ⟨q0, q1, qP, qE, qD⟩ := q; exact ⟨q0, q1, qP, kE_call qE, qD⟩, va_recv hK hP (ci := 4) (q0 := 1) rfl rfl, fun U hU hW => ⟨rfl, by rw [hU], by rw [hU]; exact hPc, kE_warm hW hE, hDc.weaken (fun _ _ _ _ => trivial)⟩⟩ rfl rfl hl.1 rfl (lv_room (Nat.le_of_ble_eq_true rfl)) dX4_enoughFor_44 ⟨Nat.le_of_ble_eq_true rfl, Nat.le_of_ble_eq_true rfl⟩) hS (fun q _ h => hFc q h) hFc (fun r25 u t H1 locs ht hvm w26 hB hz1 hk1 hS => ?_)
  obtain ⟨g_27, hP1, hD1⟩ := hB
  rw [ht] at hP1
  try dsimp only at w26
  obtain ⟨hP, hD⟩ := va_join (wr := [(xa40, .inl (kI, 4, .inl (upd (upd (fun _ => 0) 0 6) 1 11)))]) (w1 := [(xa38, .inr (4, [.ref xa39, .ref xa40, .int 0])), (xa39, .inl (kJ, 23, .inr (.inl g_27)))]) hP hD [1, 2] [0] rfl rfl (by decide) (by decide) hk1 hFc hP1 hD1
  generalize H1 = H at hP hS ⊢
  have hP : va_P (dC, dI) vwCl [(xa40, .inl (kI, 4, .inl (upd (upd (fun _ => 0) 0 6) 1 11))), (xa38, .inr (4, [.ref xa39, .ref xa40, .int 0])), (xa39, .inl (kJ, 23, .inr (.inl g_27)))] H := hP
  have hD : va_D A [(xa40, .inl (kI, 4, .inl (upd (upd (fun _ => 0) 0 6) 1 11))), (xa38, .inr (4, [.ref xa39, .ref xa40, .int 0])), (xa39, .inl (kJ, 23, .inr (.inl g_27)))] := hD
  refine W.widen (k := 0) (n := 0) (Nat.le_of_ble_eq_true rfl) (Nat.le_of_ble_eq_true rfl) ?_
  subst w26
  refine va_iast hx hb hK hP hD hS 0 1 rfl rfl (vp_in_nI (n := 2) (by decide) (by decide)) dX4_enoughFor_47 (fun H locs hP hD hS => ?_)
  have hP : va_P (dC, dI) vwCl [(xa40, .inl (kI, 4, .inl (upd (upd (upd (fun _ => 0) 0 6) 1 11) 2 16))), (xa38, .inr (4, [.ref xa39, .ref xa40, .int 0])), (xa39, .inl (kJ, 23, .inr (.inl g_27)))] H := hP
  have hD : va_D A [(xa40, .inl (kI, 4, .inl (upd (upd (upd (fun _ => 0) 0 6) 1 11) 2 16))), (xa38, .inr (4, [.ref xa39, .ref xa40, .int 0])), (xa39, .inl (kJ, 23, .inr (.inl g_27)))] := hD
  refine lv_iinc (v := 4) (lv' := [(3, .int 4), (0, .ref xa38), (1, .int 1), (2, .int 5)]) hx hb dX4_enoughFor_48 hl (k := 0) rfl (by decide) (by decide) rfl (fun ls hl => ?_)
  refine lv_goto (tgt := 22) hx hb dX4_enoughFor_51 (by decide) ?_
  refine lv_iload_n hx hb dX4_enoughFor_22 rfl (lv_at hl 0 rfl) ?_
  refine lv_iconst (v := 4) hx hb dX4_enoughFor_23 (by decide) ?_
  refine lv_icmp_gt (tgt := 54) hx hb dX4_enoughFor_24 (by decide) (fun c9 => absurd c9 (by decide)) (fun _ => ?_)
  refine lv_aload_n hx hb dX4_enoughFor_27 rfl (lv_at hl 1 rfl) ?_
  refine va_get (D := (dC, dI)) (ci := 4) (v := .ref xa40) (C := RX4) (T := TX4) (N := 3) hx hb hts hin4 hown hK hP 1 rfl rfl 1 (by decide) (hts (.fieldLink RX4 15 "PathProber$Odds" "enough" "[I") (List.mem_of_getElem? (i := 2) (by decide +kernel))) (fun _ h9 => h9) rfl dX4_enoughFor_28 ?_
  refine lv_iload_n hx hb dX4_enoughFor_31 rfl (lv_at hl 0 rfl) ?_
  refine lv_iconst (v := 1) hx hb dX4_enoughFor_32 (by decide) ?_
  refine lv_isub hx hb dX4_enoughFor_33 ?_
  refine lv_topi (fun z28 e29 => ?_)
  obtain rfl : z28 = (3 : Int32) := e29.trans (by decide)
  refine lv_aload_n hx hb dX4_enoughFor_34 rfl (lv_at hl 1 rfl) ?_
  refine lv_iload_n hx hb dX4_enoughFor_35 rfl (lv_at hl 0 rfl) ?_
  refine lv_iconst (v := 1) hx hb dX4_enoughFor_36 (by decide) ?_
  refine lv_iadd hx hb dX4_enoughFor_37 ?_
  refine lv_topi (fun z30 e31 => ?_)
  obtain rfl : z30 = (5 : Int32) := e31.trans (by decide)
  refine lv_iload_n hx hb dX4_enoughFor_38 rfl (lv_at hl 3 rfl) ?_
  refine lv_i2l (v := 5) hx hb dX4_enoughFor_39 (by decide) ?_
  refine lv_ldc2 hx hb hown (hts (.constantLong RX4 32 (10000000000)) (List.mem_of_getElem? (i := 3) (by decide +kernel))) dX4_enoughFor_40 ?_
  refine lv_lmul hx hb dX4_enoughFor_43 ?_
  refine lv_topl (fun z32 e33 => ?_)
  obtain rfl : z32 = (50000000000 : Int64) := e33.trans (by decide)
  have hPc := hP.sub (ws' := [(xa38, .inr (4, [.ref xa39, .ref xa40, .int 0])), (xa39, .inl (kJ, 23, .inr (.inl g_27)))]) [1, 2] rfl
  have hDc := hD.sub (ws' := [(xa38, .inr (4, [.ref xa39, .ref xa40, .int 0])), (xa39, .inl (kJ, 23, .inr (.inl g_27)))]) [1, 2] (by decide) rfl
  have hFc := va_free (wc := [(xa38, .inr (4, [.ref xa39, .ref xa40, .int 0])), (xa39, .inl (kJ, 23, .inr (.inl g_27)))]) hD hS hA [1, 2] rfl
  refine va_calli (va_runV (As := [.int 5, .long 50000000000]) (rest := [.int 3, .ref xa40]) ⟨hx, hb, hml, hown, hts⟩ (k4_leastFor_5 l dC dI kB kI kJ kZ kC kS H.size xa38 xa39 xa40 g_27) (cwV 2 hts gX4_enoughFor_X4_leastFor rfl rfl rfl (by decide +kernel) ⟨Nat.le_of_ble_eq_true rfl, Nat.le_of_ble_eq_true rfl⟩) ⟨fun a U g mk q => by obtain ⟨q0, q1, qP, qE, qD⟩ := q; exact ⟨q0, q1, qP, kE_call qE, qD⟩, va_recv hK hP (ci := 4) (q0 := 1) rfl rfl, fun U hU hW => ⟨rfl, by rw [hU], by rw [hU]; exact hPc, kE_warm hW hE, hDc.weaken (fun _ _ _ _ => trivial)⟩⟩ rfl rfl hl.1 rfl (lv_room (Nat.le_of_ble_eq_true rfl)) dX4_enoughFor_44 ⟨Nat.le_of_ble_eq_true rfl, Nat.le_of_ble_eq_true rfl⟩) hS (fun q _ h => hFc q h) hFc (fun r34 u t H1 locs ht hvm w35 hB hz1 hk1 hS => ?_)
  obtain ⟨g_36, hP1, hD1⟩ := hB
  rw [ht] at hP1
  try dsimp only at w35
  obtain ⟨hP, hD⟩ := va_join (wr := [(xa40, .inl (kI, 4, .inl (upd (upd (upd (fun _ => 0) 0 6) 1 11) 2 16)))]) (w1 := [(xa38, .inr (4, [.ref xa39, .ref xa40, .int 0])), (xa39, .inl (kJ, 23, .inr (.inl g_36)))]) hP hD [1, 2] [0] rfl rfl (by decide) (by decide) hk1 hFc hP1 hD1
  generalize H1 = H at hP hS ⊢
  have hP : va_P (dC, dI) vwCl [(xa40, .inl (kI, 4, .inl (upd (upd (upd (fun _ => 0) 0 6) 1 11) 2 16))), (xa38, .inr (4, [.ref xa39, .ref xa40, .int 0])), (xa39, .inl (kJ, 23, .inr (.inl g_36)))] H := hP
  have hD : va_D A [(xa40, .inl (kI, 4, .inl (upd (upd (upd (fun _ => 0) 0 6) 1 11) 2 16))), (xa38, .inr (4, [.ref xa39, .ref xa40, .int 0])), (xa39, .inl (kJ, 23, .inr (.inl g_36)))] := hD
  refine W.widen (k := 0) (n := 0) (Nat.le_of_ble_eq_true rfl) (Nat.le_of_ble_eq_true rfl) ?_
  subst w35
  refine va_iast hx hb hK hP hD hS 0 1 rfl rfl (vp_in_nI (n := 3) (by decide) (by decide)) dX4_enoughFor_47 (fun H locs hP hD hS => ?_)
  have hP : va_P (dC, dI) vwCl [(xa40, .inl (kI, 4, .inl (upd (upd (upd (upd (fun _ => 0) 0 6) 1 11) 2 16) 3 21))), (xa38, .inr (4, [.ref xa39, .ref xa40, .int 0])), (xa39, .inl (kJ, 23, .inr (.inl g_36)))] H := hP
  have hD : va_D A [(xa40, .inl (kI, 4, .inl (upd (upd (upd (upd (fun _ => 0) 0 6) 1 11) 2 16) 3 21))), (xa38, .inr (4, [.ref xa39, .ref xa40, .int 0])), (xa39, .inl (kJ, 23, .inr (.inl g_36)))] := hD
  refine lv_iinc (v := 5) (lv' := [(3, .int 5), (0, .ref xa38), (1, .int 1), (2, .int 5)]) hx hb dX4_enoughFor_48 hl (k := 0) rfl (by decide) (by decide) rfl (fun ls hl => ?_)
  refine lv_goto (tgt := 22) hx hb dX4_enoughFor_51 (by decide) ?_
  refine lv_iload_n hx hb dX4_enoughFor_22 rfl (lv_at hl 0 rfl) ?_
  refine lv_iconst (v := 4) hx hb dX4_enoughFor_23 (by decide) ?_
  refine lv_icmp_gt (tgt := 54) hx hb dX4_enoughFor_24 (by decide) (fun _ => ?_) (fun c9 => absurd (by decide) c9)
  refine lv_aload_n hx hb dX4_enoughFor_54 rfl (lv_at hl 1 rfl) ?_
  refine lv_iload_n hx hb dX4_enoughFor_55 rfl (lv_at hl 3 rfl) ?_
  refine va_put (D := (dC, dI)) (ci := 4) (v := .int 5) (ty := .int) (C := RX4) (T := TX4) (N := 3) hx hb hts hin4 tyX4 tyX4_ok nmX4 hown hK hP hD hS 1 rfl rfl 2 (by decide) (hts (.fieldLink RX4 19 "PathProber$Odds" "lossOfEnough" "I") (List.mem_of_getElem? (i := 1) (by decide +kernel))) (fun _ h9 => h9) rfl (by decide +kernel) rfl rfl (Nat.le_of_ble_eq_true rfl) dX4_enoughFor_56 (fun H locs hP hD hS => ?_)
  have hP : va_P (dC, dI) vwCl [(xa40, .inl (kI, 4, .inl (upd (upd (upd (upd (fun _ => 0) 0 6) 1 11) 2 16) 3 21))), (xa38, .inr (4, [.ref xa39, .ref xa40, .int 5])), (xa39, .inl (kJ, 23, .inr (.inl g_36)))] H := hP
  have hD : va_D A [(xa40, .inl (kI, 4, .inl (upd (upd (upd (upd (fun _ => 0) 0 6) 1 11) 2 16) 3 21))), (xa38, .inr (4, [.ref xa39, .ref xa40, .int 5])), (xa39, .inl (kJ, 23, .inr (.inl g_36)))] := hD
  refine lv_aload_n hx hb dX4_enoughFor_59 rfl (lv_at hl 1 rfl) ?_
  refine va_get (D := (dC, dI)) (ci := 4) (v := .ref xa40) (C := RX4) (T := TX4) (N := 3) hx hb hts hin4 hown hK hP 1 rfl rfl 1 (by decide) (hts (.fieldLink RX4 15 "PathProber$Odds" "enough" "[I") (List.mem_of_getElem? (i := 2) (by decide +kernel))) (fun _ h9 => h9) rfl dX4_enoughFor_60 ?_
  refine lv_iload_n hx hb dX4_enoughFor_63 rfl (lv_at hl 2 rfl) ?_
  refine lv_iconst (v := 1) hx hb dX4_enoughFor_64 (by decide) ?_
  refine lv_isub hx hb dX4_enoughFor_65 ?_
  refine lv_topi (fun z37 e38 => ?_)
  obtain rfl : z37 = (0 : Int32) := e38.trans (by decide)
  refine va_iald hx hb hK hP 0 1 rfl rfl (vp_in_nI (n := 0) (by decide) (by decide)) dX4_enoughFor_66 ?_
  refine lv_topi (fun z39 e40 => ?_)
  obtain rfl : z39 = (6 : Int32) := e40.trans (by decide)
  have hP9 := hP.sub (ws' := []) [] rfl
  have hD9 := hD.sub (ws' := []) [] (by decide) rfl
  exact W.iret (v := 6) hx hb hr (fun t ht hW => ⟨⟨6, (), rfl, rfl, by rw [ht]; exact hP9, hD9⟩, hS.F ht⟩) hS.2.2 dX4_enoughFor_67
def rm_k4_enoughFor_2 : Room := { frames := 2, cells := 0, slots := 0, locals := 48 }
set_option maxHeartbeats 4000000 in
set_option maxRecDepth 100000 in
theorem k4_enoughFor_2 (l : Launch) (dC : Nat → ClassId) (dI : Nat → Nat → Nat) (kB kI kJ kZ kC kS : ClassId) (sz : Nat) (xa38 : Nat) (xa39 : Nat) (xa40 : Nat) : Met l yX4_enoughFor wsX4_enoughFor rm_k4_enoughFor_2 (va_Pc [.ref xa38, .int 2, .int 5] (fun U => U.heap.size = sz ∧ va_P (dC, dI) vwCl [(xa38, .inr (4, [.ref xa39, .ref xa40, .int 0])), (xa39, .inl (kJ, 23, .inr (.inl (fun _ => 0)))), (xa40, .inl (kI, 4, .inl (fun _ => 0)))] U.heap ∧ kE dC dI kB kI kJ kZ kC kS U ∧ va_D (fun _ => True) [(xa38, .inr (4, [.ref xa39, .ref xa40, .int 0])), (xa39, .inl (kJ, 23, .inr (.inl (fun _ => 0)))), (xa40, .inl (kI, 4, .inl (fun _ => 0)))])) (va_Qi (fun (r : Int32) (_ : Unit) => r = 11) (fun _ t => va_P (dC, dI) vwCl [] t.heap ∧ va_D (va_A [(xa38, .inr (4, [.ref xa39, .ref xa40, .int 0])), (xa39, .inl (kJ, 23, .inr (.inl (fun _ => 0)))), (xa40, .inl (kI, 4, .inl (fun _ => 0)))] sz) []) (va_A [(xa38, .inr (4, [.ref xa39, .ref xa40, .int 0])), (xa39, .inl (kJ, 23, .inr (.inl (fun _ => 0)))), (xa40, .inl (kI, 4, .inl (fun _ => 0)))] sz)) 0 0 (va_A [(xa38, .inr (4, [.ref xa39, .ref xa40, .int 0])), (xa39, .inl (kJ, 23, .inr (.inl (fun _ => 0)))), (xa40, .inl (kI, 4, .inl (fun _ => 0)))] sz) := by
  refine Met.ofW (cc := cX4_enoughFor) (maxL := 4) (ret := (some .int)) (by decide) rfl ?_
  intro p e s m args0 below meth c s₁ B hml hv
  obtain ⟨hargs, hsz, hP, hE, hD0⟩ := hv
  have hx := B.exec
  have hb := B.bytes
  have hr := B.returns
  have hts := atoms_spec (ws := wsX4_enoughFor) B.pre
  have hown : s.vm.findClass RX4 = some m.cls := findClass_of_methodNamed B.named
  have hlocks := B.notSynchronized
  have hK := hE.1
  have hin4 : ∀ w ∈ wsX40, w ∈ wsX4_enoughFor := fun _ h9 => List.mem_cons_of_mem _ (List.mem_append_right _ h9)
  subst hsz
  have hD := hD0.self (sz := s.heap.size)
  generalize hAe : va_A [(xa38, .inr (4, [.ref xa39, .ref xa40, .int 0])), (xa39, .inl (kJ, 23, .inr (.inl (fun _ => 0)))), (xa40, .inl (kI, 4, .inl (fun _ => 0)))] s.heap.size = A at hD ⊢
  have hA : ∀ q : Nat, s.heap.size ≤ q → A q := fun q h => by rw [← hAe]; exact Or.inr h
  have hS : va_S A s.heap s.heap [] := va_S.rf
  have hP : va_P (dC, dI) vwCl [(xa38, .inr (4, [.ref xa39, .ref xa40, .int 0])), (xa39, .inl (kJ, 23, .inr (.inl (fun _ => 0)))), (xa40, .inl (kI, 4, .inl (fun _ => 0)))] s.heap := hP
  have hl := lv_entry ([.ref xa38, .int 2, .int 5]) (n := 4) (Nat.le_of_ble_eq_true rfl)
  have hla : entryFrame m args0 4 = entryFrame m ([.ref xa38, .int 2, .int 5] : List Value).toArray 4 := by rw [hargs]
  rw [hla, lg_entry_eq]
  generalize (lg_sl ([.ref xa38, .int 2, .int 5]) ++ List.replicate (4 - (lg_sl ([.ref xa38, .int 2, .int 5])).length) Slot.unset).toArray = ls at hl ⊢
  have hl : lv_has ls 4 [(0, .ref xa38), (1, .int 2), (2, .int 5)] := hl
  refine lv_iload_n hx hb dX4_enoughFor_0 rfl (lv_at hl 1 rfl) ?_
  refine lv_iconst (v := 1) hx hb dX4_enoughFor_1 (by decide) ?_
  refine lv_icmp_lt (tgt := 10) hx hb dX4_enoughFor_2 (by decide) (fun c9 => absurd c9 (by decide)) (fun _ => ?_)
  refine lv_iload_n hx hb dX4_enoughFor_5 rfl (lv_at hl 1 rfl) ?_
  refine lv_iconst (v := 4) hx hb dX4_enoughFor_6 (by decide) ?_
  refine lv_icmp_le (tgt := 12) hx hb dX4_enoughFor_7 (by decide) (fun _ => ?_) (fun c9 => absurd (by decide) c9)
  refine lv_iload_n hx hb dX4_enoughFor_12 rfl (lv_at hl 2 rfl) ?_
  refine lv_aload_n hx hb dX4_enoughFor_13 rfl (lv_at hl 0 rfl) ?_
  refine va_get (D := (dC, dI)) (ci := 4) (v := .int 0) (C := RX4) (T := TX4) (N := 3) hx hb hts hin4 hown hK hP 0 rfl rfl 2 (by decide) (hts (.fieldLink RX4 19 "PathProber$Odds" "lossOfEnough" "I") (List.mem_of_getElem? (i := 1) (by decide +kernel))) (fun _ h9 => h9) rfl dX4_enoughFor_14 ?_
  refine lv_icmp_eq (tgt := 59) hx hb dX4_enoughFor_17 (by decide) (fun c9 => absurd c9 (by decide)) (fun _ => ?_)
  refine lv_iconst (v := 1) hx hb dX4_enoughFor_20 (by decide) ?_
  refine lv_istore_n (lv' := [(3, .int 1), (0, .ref xa38), (1, .int 2), (2, .int 5)]) hx hb dX4_enoughFor_21 rfl hl (by decide) rfl (fun ls hl => ?_)
  refine lv_iload_n hx hb dX4_enoughFor_22 rfl (lv_at hl 0 rfl) ?_
  refine lv_iconst (v := 4) hx hb dX4_enoughFor_23 (by decide) ?_
  refine lv_icmp_gt (tgt := 54) hx hb dX4_enoughFor_24 (by decide) (fun c9 => absurd c9 (by decide)) (fun _ => ?_)
  refine lv_aload_n hx hb dX4_enoughFor_27 rfl (lv_at hl 1 rfl) ?_
  refine va_get (D := (dC, dI)) (ci := 4) (v := .ref xa40) (C := RX4) (T := TX4) (N := 3) hx hb hts hin4 hown hK hP 0 rfl rfl 1 (by decide) (hts (.fieldLink RX4 15 "PathProber$Odds" "enough" "[I") (List.mem_of_getElem? (i := 2) (by decide +kernel))) (fun _ h9 => h9) rfl dX4_enoughFor_28 ?_
  refine lv_iload_n hx hb dX4_enoughFor_31 rfl (lv_at hl 0 rfl) ?_
  refine lv_iconst (v := 1) hx hb dX4_enoughFor_32 (by decide) ?_
  refine lv_isub hx hb dX4_enoughFor_33 ?_
  refine lv_topi (fun z1 e2 => ?_)
  obtain rfl : z1 = (0 : Int32) := e2.trans (by decide)
  refine lv_aload_n hx hb dX4_enoughFor_34 rfl (lv_at hl 1 rfl) ?_
  refine lv_iload_n hx hb dX4_enoughFor_35 rfl (lv_at hl 0 rfl) ?_
  refine lv_iconst (v := 1) hx hb dX4_enoughFor_36 (by decide) ?_
  refine lv_iadd hx hb dX4_enoughFor_37 ?_
  refine lv_topi (fun z3 e4 => ?_)
  obtain rfl : z3 = (2 : Int32) := e4.trans (by decide)
  refine lv_iload_n hx hb dX4_enoughFor_38 rfl (lv_at hl 3 rfl) ?_
  refine lv_i2l (v := 5) hx hb dX4_enoughFor_39 (by decide) ?_
  refine lv_ldc2 hx hb hown (hts (.constantLong RX4 32 (10000000000)) (List.mem_of_getElem? (i := 3) (by decide +kernel))) dX4_enoughFor_40 ?_
  refine lv_lmul hx hb dX4_enoughFor_43 ?_
  refine lv_topl (fun z5 e6 => ?_)
  obtain rfl : z5 = (50000000000 : Int64) := e6.trans (by decide)
  have hPc := hP.sub (ws' := [(xa38, .inr (4, [.ref xa39, .ref xa40, .int 0])), (xa39, .inl (kJ, 23, .inr (.inl (fun _ => 0))))]) [0, 1] rfl
  have hDc := hD.sub (ws' := [(xa38, .inr (4, [.ref xa39, .ref xa40, .int 0])), (xa39, .inl (kJ, 23, .inr (.inl (fun _ => 0))))]) [0, 1] (by decide) rfl
  have hFc := va_free (wc := [(xa38, .inr (4, [.ref xa39, .ref xa40, .int 0])), (xa39, .inl (kJ, 23, .inr (.inl (fun _ => 0))))]) hD hS hA [0, 1] rfl
  refine va_calli (va_runV (As := [.int 2, .long 50000000000]) (rest := [.int 0, .ref xa40]) ⟨hx, hb, hml, hown, hts⟩ (k4_leastFor_2 l dC dI kB kI kJ kZ kC kS s.heap.size xa38 xa39 xa40 (fun _ => 0)) (cwV 2 hts gX4_enoughFor_X4_leastFor rfl rfl rfl (by decide +kernel) ⟨Nat.le_of_ble_eq_true rfl, Nat.le_of_ble_eq_true rfl⟩) ⟨fun a U g mk q => by obtain ⟨q0, q1, qP, qE, qD⟩ := q; exact ⟨q0, q1, qP, kE_call qE, qD⟩, va_recv hK hP (ci := 4) (q0 := 0) rfl rfl, fun U hU hW => ⟨rfl, by rw [hU], by rw [hU]; exact hPc, kE_warm hW hE, hDc.weaken (fun _ _ _ _ => trivial)⟩⟩ rfl rfl hl.1 rfl (lv_room (Nat.le_of_ble_eq_true rfl)) dX4_enoughFor_44 ⟨Nat.le_of_ble_eq_true rfl, Nat.le_of_ble_eq_true rfl⟩) hS (fun q _ h => hFc q h) hFc (fun r7 u t H1 locs ht hvm w8 hB hz1 hk1 hS => ?_)
  obtain ⟨g_9, hP1, hD1⟩ := hB
  rw [ht] at hP1
  try dsimp only at w8
  obtain ⟨hP, hD⟩ := va_join (wr := [(xa40, .inl (kI, 4, .inl (fun _ => 0)))]) (w1 := [(xa38, .inr (4, [.ref xa39, .ref xa40, .int 0])), (xa39, .inl (kJ, 23, .inr (.inl g_9)))]) hP hD [0, 1] [2] rfl rfl (by decide) (by decide) hk1 hFc hP1 hD1
  generalize H1 = H at hP hS ⊢
  have hP : va_P (dC, dI) vwCl [(xa40, .inl (kI, 4, .inl (fun _ => 0))), (xa38, .inr (4, [.ref xa39, .ref xa40, .int 0])), (xa39, .inl (kJ, 23, .inr (.inl g_9)))] H := hP
  have hD : va_D A [(xa40, .inl (kI, 4, .inl (fun _ => 0))), (xa38, .inr (4, [.ref xa39, .ref xa40, .int 0])), (xa39, .inl (kJ, 23, .inr (.inl g_9)))] := hD
  refine W.widen (k := 0) (n := 0) (Nat.le_of_ble_eq_true rfl) (Nat.le_of_ble_eq_true rfl) ?_
  subst w8
  refine va_iast hx hb hK hP hD hS 0 1 rfl rfl (vp_in_nI (n := 0) (by decide) (by decide)) dX4_enoughFor_47 (fun H locs hP hD hS => ?_)
  have hP : va_P (dC, dI) vwCl [(xa40, .inl (kI, 4, .inl (upd (fun _ => 0) 0 6))), (xa38, .inr (4, [.ref xa39, .ref xa40, .int 0])), (xa39, .inl (kJ, 23, .inr (.inl g_9)))] H := hP
  have hD : va_D A [(xa40, .inl (kI, 4, .inl (upd (fun _ => 0) 0 6))), (xa38, .inr (4, [.ref xa39, .ref xa40, .int 0])), (xa39, .inl (kJ, 23, .inr (.inl g_9)))] := hD
  refine lv_iinc (v := 2) (lv' := [(3, .int 2), (0, .ref xa38), (1, .int 2), (2, .int 5)]) hx hb dX4_enoughFor_48 hl (k := 0) rfl (by decide) (by decide) rfl (fun ls hl => ?_)
  refine lv_goto (tgt := 22) hx hb dX4_enoughFor_51 (by decide) ?_
  refine lv_iload_n hx hb dX4_enoughFor_22 rfl (lv_at hl 0 rfl) ?_
  refine lv_iconst (v := 4) hx hb dX4_enoughFor_23 (by decide) ?_
  refine lv_icmp_gt (tgt := 54) hx hb dX4_enoughFor_24 (by decide) (fun c9 => absurd c9 (by decide)) (fun _ => ?_)
  refine lv_aload_n hx hb dX4_enoughFor_27 rfl (lv_at hl 1 rfl) ?_
  refine va_get (D := (dC, dI)) (ci := 4) (v := .ref xa40) (C := RX4) (T := TX4) (N := 3) hx hb hts hin4 hown hK hP 1 rfl rfl 1 (by decide) (hts (.fieldLink RX4 15 "PathProber$Odds" "enough" "[I") (List.mem_of_getElem? (i := 2) (by decide +kernel))) (fun _ h9 => h9) rfl dX4_enoughFor_28 ?_
  refine lv_iload_n hx hb dX4_enoughFor_31 rfl (lv_at hl 0 rfl) ?_
  refine lv_iconst (v := 1) hx hb dX4_enoughFor_32 (by decide) ?_
  refine lv_isub hx hb dX4_enoughFor_33 ?_
  refine lv_topi (fun z10 e11 => ?_)
  obtain rfl : z10 = (1 : Int32) := e11.trans (by decide)
  refine lv_aload_n hx hb dX4_enoughFor_34 rfl (lv_at hl 1 rfl) ?_
  refine lv_iload_n hx hb dX4_enoughFor_35 rfl (lv_at hl 0 rfl) ?_
  refine lv_iconst (v := 1) hx hb dX4_enoughFor_36 (by decide) ?_
  refine lv_iadd hx hb dX4_enoughFor_37 ?_
  refine lv_topi (fun z12 e13 => ?_)
  obtain rfl : z12 = (3 : Int32) := e13.trans (by decide)
  refine lv_iload_n hx hb dX4_enoughFor_38 rfl (lv_at hl 3 rfl) ?_
  refine lv_i2l (v := 5) hx hb dX4_enoughFor_39 (by decide) ?_
  refine lv_ldc2 hx hb hown (hts (.constantLong RX4 32 (10000000000)) (List.mem_of_getElem? (i := 3) (by decide +kernel))) dX4_enoughFor_40 ?_
  refine lv_lmul hx hb dX4_enoughFor_43 ?_
  refine lv_topl (fun z14 e15 => ?_)
  obtain rfl : z14 = (50000000000 : Int64) := e15.trans (by decide)
  have hPc := hP.sub (ws' := [(xa38, .inr (4, [.ref xa39, .ref xa40, .int 0])), (xa39, .inl (kJ, 23, .inr (.inl g_9)))]) [1, 2] rfl
  have hDc := hD.sub (ws' := [(xa38, .inr (4, [.ref xa39, .ref xa40, .int 0])), (xa39, .inl (kJ, 23, .inr (.inl g_9)))]) [1, 2] (by decide) rfl
  have hFc := va_free (wc := [(xa38, .inr (4, [.ref xa39, .ref xa40, .int 0])), (xa39, .inl (kJ, 23, .inr (.inl g_9)))]) hD hS hA [1, 2] rfl
  refine va_calli (va_runV (As := [.int 3, .long 50000000000]) (rest := [.int 1, .ref xa40]) ⟨hx, hb, hml, hown, hts⟩ (k4_leastFor_3 l dC dI kB kI kJ kZ kC kS H.size xa38 xa39 xa40 g_9) (cwV 2 hts gX4_enoughFor_X4_leastFor rfl rfl rfl (by decide +kernel) ⟨Nat.le_of_ble_eq_true rfl, Nat.le_of_ble_eq_true rfl⟩) ⟨fun a U g mk q => by obtain ⟨q0, q1, qP, qE, qD⟩ := q; exact ⟨q0, q1, qP, kE_call qE, qD⟩, va_recv hK hP (ci := 4) (q0 := 1) rfl rfl, fun U hU hW => ⟨rfl, by rw [hU], by rw [hU]; exact hPc, kE_warm hW hE, hDc.weaken (fun _ _ _ _ => trivial)⟩⟩ rfl rfl hl.1 rfl (lv_room (Nat.le_of_ble_eq_true rfl)) dX4_enoughFor_44 ⟨Nat.le_of_ble_eq_true rfl, Nat.le_of_ble_eq_true rfl⟩) hS (fun q _ h => hFc q h) hFc (fun r16 u t H1 locs ht hvm w17 hB hz1 hk1 hS => ?_)
  obtain ⟨g_18, hP1, hD1⟩ := hB
  rw [ht] at hP1
  try dsimp only at w17
  obtain ⟨hP, hD⟩ := va_join (wr := [(xa40, .inl (kI, 4, .inl (upd (fun _ => 0) 0 6)))]) (w1 := [(xa38, .inr (4, [.ref xa39, .ref xa40, .int 0])), (xa39, .inl (kJ, 23, .inr (.inl g_18)))]) hP hD [1, 2] [0] rfl rfl (by decide) (by decide) hk1 hFc hP1 hD1
  generalize H1 = H at hP hS ⊢
  have hP : va_P (dC, dI) vwCl [(xa40, .inl (kI, 4, .inl (upd (fun _ => 0) 0 6))), (xa38, .inr (4, [.ref xa39, .ref xa40, .int 0])), (xa39, .inl (kJ, 23, .inr (.inl g_18)))] H := hP
  have hD : va_D A [(xa40, .inl (kI, 4, .inl (upd (fun _ => 0) 0 6))), (xa38, .inr (4, [.ref xa39, .ref xa40, .int 0])), (xa39, .inl (kJ, 23, .inr (.inl g_18)))] := hD
  refine W.widen (k := 0) (n := 0) (Nat.le_of_ble_eq_true rfl) (Nat.le_of_ble_eq_true rfl) ?_
  subst w17
  refine va_iast hx hb hK hP hD hS 0 1 rfl rfl (vp_in_nI (n := 1) (by decide) (by decide)) dX4_enoughFor_47 (fun H locs hP hD hS => ?_)
  have hP : va_P (dC, dI) vwCl [(xa40, .inl (kI, 4, .inl (upd (upd (fun _ => 0) 0 6) 1 11))), (xa38, .inr (4, [.ref xa39, .ref xa40, .int 0])), (xa39, .inl (kJ, 23, .inr (.inl g_18)))] H := hP
  have hD : va_D A [(xa40, .inl (kI, 4, .inl (upd (upd (fun _ => 0) 0 6) 1 11))), (xa38, .inr (4, [.ref xa39, .ref xa40, .int 0])), (xa39, .inl (kJ, 23, .inr (.inl g_18)))] := hD
  refine lv_iinc (v := 3) (lv' := [(3, .int 3), (0, .ref xa38), (1, .int 2), (2, .int 5)]) hx hb dX4_enoughFor_48 hl (k := 0) rfl (by decide) (by decide) rfl (fun ls hl => ?_)
  refine lv_goto (tgt := 22) hx hb dX4_enoughFor_51 (by decide) ?_
  refine lv_iload_n hx hb dX4_enoughFor_22 rfl (lv_at hl 0 rfl) ?_
  refine lv_iconst (v := 4) hx hb dX4_enoughFor_23 (by decide) ?_
  refine lv_icmp_gt (tgt := 54) hx hb dX4_enoughFor_24 (by decide) (fun c9 => absurd c9 (by decide)) (fun _ => ?_)
  refine lv_aload_n hx hb dX4_enoughFor_27 rfl (lv_at hl 1 rfl) ?_
  refine va_get (D := (dC, dI)) (ci := 4) (v := .ref xa40) (C := RX4) (T := TX4) (N := 3) hx hb hts hin4 hown hK hP 1 rfl rfl 1 (by decide) (hts (.fieldLink RX4 15 "PathProber$Odds" "enough" "[I") (List.mem_of_getElem? (i := 2) (by decide +kernel))) (fun _ h9 => h9) rfl dX4_enoughFor_28 ?_
  refine lv_iload_n hx hb dX4_enoughFor_31 rfl (lv_at hl 0 rfl) ?_
  refine lv_iconst (v := 1) hx hb dX4_enoughFor_32 (by decide) ?_
  refine lv_isub hx hb dX4_enoughFor_33 ?_
  refine lv_topi (fun z19 e20 => ?_)
  obtain rfl : z19 = (2 : Int32) := e20.trans (by decide)
  refine lv_aload_n hx hb dX4_enoughFor_34 rfl (lv_at hl 1 rfl) ?_
  refine lv_iload_n hx hb dX4_enoughFor_35 rfl (lv_at hl 0 rfl) ?_
  refine lv_iconst (v := 1) hx hb dX4_enoughFor_36 (by decide) ?_
  refine lv_iadd hx hb dX4_enoughFor_37 ?_
  refine lv_topi (fun z21 e22 => ?_)
  obtain rfl : z21 = (4 : Int32) := e22.trans (by decide)
  refine lv_iload_n hx hb dX4_enoughFor_38 rfl (lv_at hl 3 rfl) ?_
  refine lv_i2l (v := 5) hx hb dX4_enoughFor_39 (by decide) ?_
  refine lv_ldc2 hx hb hown (hts (.constantLong RX4 32 (10000000000)) (List.mem_of_getElem? (i := 3) (by decide +kernel))) dX4_enoughFor_40 ?_
  refine lv_lmul hx hb dX4_enoughFor_43 ?_
  refine lv_topl (fun z23 e24 => ?_)
  obtain rfl : z23 = (50000000000 : Int64) := e24.trans (by decide)
  have hPc := hP.sub (ws' := [(xa38, .inr (4, [.ref xa39, .ref xa40, .int 0])), (xa39, .inl (kJ, 23, .inr (.inl g_18)))]) [1, 2] rfl
  have hDc := hD.sub (ws' := [(xa38, .inr (4, [.ref xa39, .ref xa40, .int 0])), (xa39, .inl (kJ, 23, .inr (.inl g_18)))]) [1, 2] (by decide) rfl
  have hFc := va_free (wc := [(xa38, .inr (4, [.ref xa39, .ref xa40, .int 0])), (xa39, .inl (kJ, 23, .inr (.inl g_18)))]) hD hS hA [1, 2] rfl
  refine va_calli (va_runV (As := [.int 4, .long 50000000000]) (rest := [.int 2, .ref xa40]) ⟨hx, hb, hml, hown, hts⟩ (k4_leastFor_4 l dC dI kB kI kJ kZ kC kS H.size xa38 xa39 xa40 g_18) (cwV 2 hts gX4_enoughFor_X4_leastFor rfl rfl rfl (by decide +kernel) ⟨Nat.le_of_ble_eq_true rfl, Nat.le_of_ble_eq_true rfl⟩) ⟨fun a U g mk q => by obtain ⟨q0, q1, qP, qE, qD⟩ := q; exact ⟨q0, q1, qP, kE_call qE, qD⟩, va_recv hK hP (ci := 4) (q0 := 1) rfl rfl, fun U hU hW => ⟨rfl, by rw [hU], by rw [hU]; exact hPc, kE_warm hW hE, hDc.weaken (fun _ _ _ _ => trivial)⟩⟩ rfl rfl hl.1 rfl (lv_room (Nat.le_of_ble_eq_true rfl)) dX4_enoughFor_44 ⟨Nat.le_of_ble_eq_true rfl, Nat.le_of_ble_eq_true rfl⟩) hS (fun q _ h => hFc q h) hFc (fun r25 u t H1 locs ht hvm w26 hB hz1 hk1 hS => ?_)
  obtain ⟨g_27, hP1, hD1⟩ := hB
  rw [ht] at hP1
  try dsimp only at w26
  obtain ⟨hP, hD⟩ := va_join (wr := [(xa40, .inl (kI, 4, .inl (upd (upd (fun _ => 0) 0 6) 1 11)))]) (w1 := [(xa38, .inr (4, [.ref xa39, .ref xa40, .int 0])), (xa39, .inl (kJ, 23, .inr (.inl g_27)))]) hP hD [1, 2] [0] rfl rfl (by decide) (by decide) hk1 hFc hP1 hD1
  generalize H1 = H at hP hS ⊢
  have hP : va_P (dC, dI) vwCl [(xa40, .inl (kI, 4, .inl (upd (upd (fun _ => 0) 0 6) 1 11))), (xa38, .inr (4, [.ref xa39, .ref xa40, .int 0])), (xa39, .inl (kJ, 23, .inr (.inl g_27)))] H := hP
  have hD : va_D A [(xa40, .inl (kI, 4, .inl (upd (upd (fun _ => 0) 0 6) 1 11))), (xa38, .inr (4, [.ref xa39, .ref xa40, .int 0])), (xa39, .inl (kJ, 23, .inr (.inl g_27)))] := hD
  refine W.widen (k := 0) (n := 0) (Nat.le_of_ble_eq_true rfl) (Nat.le_of_ble_eq_true rfl) ?_
  subst w26
  refine va_iast hx hb hK hP hD hS 0 1 rfl rfl (vp_in_nI (n := 2) (by decide) (by decide)) dX4_enoughFor_47 (fun H locs hP hD hS => ?_)
  have hP : va_P (dC, dI) vwCl [(xa40, .inl (kI, 4, .inl (upd (upd (upd (fun _ => 0) 0 6) 1 11) 2 16))), (xa38, .inr (4, [.ref xa39, .ref xa40, .int 0])), (xa39, .inl (kJ, 23, .inr (.inl g_27)))] H := hP
  have hD : va_D A [(xa40, .inl (kI, 4, .inl (upd (upd (upd (fun _ => 0) 0 6) 1 11) 2 16))), (xa38, .inr (4, [.ref xa39, .ref xa40, .int 0])), (xa39, .inl (kJ, 23, .inr (.inl g_27)))] := hD
  refine lv_iinc (v := 4) (lv' := [(3, .int 4), (0, .ref xa38), (1, .int 2), (2, .int 5)]) hx hb dX4_enoughFor_48 hl (k := 0) rfl (by decide) (by decide) rfl (fun ls hl => ?_)
  refine lv_goto (tgt := 22) hx hb dX4_enoughFor_51 (by decide) ?_
  refine lv_iload_n hx hb dX4_enoughFor_22 rfl (lv_at hl 0 rfl) ?_
  refine lv_iconst (v := 4) hx hb dX4_enoughFor_23 (by decide) ?_
  refine lv_icmp_gt (tgt := 54) hx hb dX4_enoughFor_24 (by decide) (fun c9 => absurd c9 (by decide)) (fun _ => ?_)
  refine lv_aload_n hx hb dX4_enoughFor_27 rfl (lv_at hl 1 rfl) ?_
  refine va_get (D := (dC, dI)) (ci := 4) (v := .ref xa40) (C := RX4) (T := TX4) (N := 3) hx hb hts hin4 hown hK hP 1 rfl rfl 1 (by decide) (hts (.fieldLink RX4 15 "PathProber$Odds" "enough" "[I") (List.mem_of_getElem? (i := 2) (by decide +kernel))) (fun _ h9 => h9) rfl dX4_enoughFor_28 ?_
  refine lv_iload_n hx hb dX4_enoughFor_31 rfl (lv_at hl 0 rfl) ?_
  refine lv_iconst (v := 1) hx hb dX4_enoughFor_32 (by decide) ?_
  refine lv_isub hx hb dX4_enoughFor_33 ?_
  refine lv_topi (fun z28 e29 => ?_)
  obtain rfl : z28 = (3 : Int32) := e29.trans (by decide)
  refine lv_aload_n hx hb dX4_enoughFor_34 rfl (lv_at hl 1 rfl) ?_
  refine lv_iload_n hx hb dX4_enoughFor_35 rfl (lv_at hl 0 rfl) ?_
  refine lv_iconst (v := 1) hx hb dX4_enoughFor_36 (by decide) ?_
  refine lv_iadd hx hb dX4_enoughFor_37 ?_
  refine lv_topi (fun z30 e31 => ?_)
  obtain rfl : z30 = (5 : Int32) := e31.trans (by decide)
  refine lv_iload_n hx hb dX4_enoughFor_38 rfl (lv_at hl 3 rfl) ?_
  refine lv_i2l (v := 5) hx hb dX4_enoughFor_39 (by decide) ?_
  refine lv_ldc2 hx hb hown (hts (.constantLong RX4 32 (10000000000)) (List.mem_of_getElem? (i := 3) (by decide +kernel))) dX4_enoughFor_40 ?_
  refine lv_lmul hx hb dX4_enoughFor_43 ?_
  refine lv_topl (fun z32 e33 => ?_)
  obtain rfl : z32 = (50000000000 : Int64) := e33.trans (by decide)
  have hPc := hP.sub (ws' := [(xa38, .inr (4, [.ref xa39, .ref xa40, .int 0])), (xa39, .inl (kJ, 23, .inr (.inl g_27)))]) [1, 2] rfl
  have hDc := hD.sub (ws' := [(xa38, .inr (4, [.ref xa39, .ref xa40, .int 0])), (xa39, .inl (kJ, 23, .inr (.inl g_27)))]) [1, 2] (by decide) rfl
  have hFc := va_free (wc := [(xa38, .inr (4, [.ref xa39, .ref xa40, .int 0])), (xa39, .inl (kJ, 23, .inr (.inl g_27)))]) hD hS hA [1, 2] rfl
  refine va_calli (va_runV (As := [.int 5, .long 50000000000]) (rest := [.int 3, .ref xa40]) ⟨hx, hb, hml, hown, hts⟩ (k4_leastFor_5 l dC dI kB kI kJ kZ kC kS H.size xa38 xa39 xa40 g_27) (cwV 2 hts gX4_enoughFor_X4_leastFor rfl rfl rfl (by decide +kernel) ⟨Nat.le_of_ble_eq_true rfl, Nat.le_of_ble_eq_true rfl⟩) ⟨fun a U g mk q => by obtain ⟨q0, q1, qP, qE, qD⟩ := q; exact ⟨q0, q1, qP, kE_call qE, qD⟩, va_recv hK hP (ci := 4) (q0 := 1) rfl rfl, fun U hU hW => ⟨rfl, by rw [hU], by rw [hU]; exact hPc, kE_warm hW hE, hDc.weaken (fun _ _ _ _ => trivial)⟩⟩ rfl rfl hl.1 rfl (lv_room (Nat.le_of_ble_eq_true rfl)) dX4_enoughFor_44 ⟨Nat.le_of_ble_eq_true rfl, Nat.le_of_ble_eq_true rfl⟩) hS (fun q _ h => hFc q h) hFc (fun r34 u t H1 locs ht hvm w35 hB hz1 hk1 hS => ?_)
  obtain ⟨g_36, hP1, hD1⟩ := hB
  rw [ht] at hP1
  try dsimp only at w35
  obtain ⟨hP, hD⟩ := va_join (wr := [(xa40, .inl (kI, 4, .inl (upd (upd (upd (fun _ => 0) 0 6) 1 11) 2 16)))]) (w1 := [(xa38, .inr (4, [.ref xa39, .ref xa40, .int 0])), (xa39, .inl (kJ, 23, .inr (.inl g_36)))]) hP hD [1, 2] [0] rfl rfl (by decide) (by decide) hk1 hFc hP1 hD1
  generalize H1 = H at hP hS ⊢
  have hP : va_P (dC, dI) vwCl [(xa40, .inl (kI, 4, .inl (upd (upd (upd (fun _ => 0) 0 6) 1 11) 2 16))), (xa38, .inr (4, [.ref xa39, .ref xa40, .int 0])), (xa39, .inl (kJ, 23, .inr (.inl g_36)))] H := hP
  have hD : va_D A [(xa40, .inl (kI, 4, .inl (upd (upd (upd (fun _ => 0) 0 6) 1 11) 2 16))), (xa38, .inr (4, [.ref xa39, .ref xa40, .int 0])), (xa39, .inl (kJ, 23, .inr (.inl g_36)))] := hD
  refine W.widen (k := 0) (n := 0) (Nat.le_of_ble_eq_true rfl) (Nat.le_of_ble_eq_true rfl) ?_
  subst w35
  refine va_iast hx hb hK hP hD hS 0 1 rfl rfl (vp_in_nI (n := 3) (by decide) (by decide)) dX4_enoughFor_47 (fun H locs hP hD hS => ?_)
  have hP : va_P (dC, dI) vwCl [(xa40, .inl (kI, 4, .inl (upd (upd (upd (upd (fun _ => 0) 0 6) 1 11) 2 16) 3 21))), (xa38, .inr (4, [.ref xa39, .ref xa40, .int 0])), (xa39, .inl (kJ, 23, .inr (.inl g_36)))] H := hP
  have hD : va_D A [(xa40, .inl (kI, 4, .inl (upd (upd (upd (upd (fun _ => 0) 0 6) 1 11) 2 16) 3 21))), (xa38, .inr (4, [.ref xa39, .ref xa40, .int 0])), (xa39, .inl (kJ, 23, .inr (.inl g_36)))] := hD
  refine lv_iinc (v := 5) (lv' := [(3, .int 5), (0, .ref xa38), (1, .int 2), (2, .int 5)]) hx hb dX4_enoughFor_48 hl (k := 0) rfl (by decide) (by decide) rfl (fun ls hl => ?_)
  refine lv_goto (tgt := 22) hx hb dX4_enoughFor_51 (by decide) ?_
  refine lv_iload_n hx hb dX4_enoughFor_22 rfl (lv_at hl 0 rfl) ?_
  refine lv_iconst (v := 4) hx hb dX4_enoughFor_23 (by decide) ?_
  refine lv_icmp_gt (tgt := 54) hx hb dX4_enoughFor_24 (by decide) (fun _ => ?_) (fun c9 => absurd (by decide) c9)
  refine lv_aload_n hx hb dX4_enoughFor_54 rfl (lv_at hl 1 rfl) ?_
  refine lv_iload_n hx hb dX4_enoughFor_55 rfl (lv_at hl 3 rfl) ?_
  refine va_put (D := (dC, dI)) (ci := 4) (v := .int 5) (ty := .int) (C := RX4) (T := TX4) (N := 3) hx hb hts hin4 tyX4 tyX4_ok nmX4 hown hK hP hD hS 1 rfl rfl 2 (by decide) (hts (.fieldLink RX4 19 "PathProber$Odds" "lossOfEnough" "I") (List.mem_of_getElem? (i := 1) (by decide +kernel))) (fun _ h9 => h9) rfl (by decide +kernel) rfl rfl (Nat.le_of_ble_eq_true rfl) dX4_enoughFor_56 (fun H locs hP hD hS => ?_)
  have hP : va_P (dC, dI) vwCl [(xa40, .inl (kI, 4, .inl (upd (upd (upd (upd (fun _ => 0) 0 6) 1 11) 2 16) 3 21))), (xa38, .inr (4, [.ref xa39, .ref xa40, .int 5])), (xa39, .inl (kJ, 23, .inr (.inl g_36)))] H := hP
  have hD : va_D A [(xa40, .inl (kI, 4, .inl (upd (upd (upd (upd (fun _ => 0) 0 6) 1 11) 2 16) 3 21))), (xa38, .inr (4, [.ref xa39, .ref xa40, .int 5])), (xa39, .inl (kJ, 23, .inr (.inl g_36)))] := hD
  refine lv_aload_n hx hb dX4_enoughFor_59 rfl (lv_at hl 1 rfl) ?_
  refine va_get (D := (dC, dI)) (ci := 4) (v := .ref xa40) (C := RX4) (T := TX4) (N := 3) hx hb hts hin4 hown hK hP 1 rfl rfl 1 (by decide) (hts (.fieldLink RX4 15 "PathProber$Odds" "enough" "[I") (List.mem_of_getElem? (i := 2) (by decide +kernel))) (fun _ h9 => h9) rfl dX4_enoughFor_60 ?_
  refine lv_iload_n hx hb dX4_enoughFor_63 rfl (lv_at hl 2 rfl) ?_
  refine lv_iconst (v := 1) hx hb dX4_enoughFor_64 (by decide) ?_
  refine lv_isub hx hb dX4_enoughFor_65 ?_
  refine lv_topi (fun z37 e38 => ?_)
  obtain rfl : z37 = (1 : Int32) := e38.trans (by decide)
  refine va_iald hx hb hK hP 0 1 rfl rfl (vp_in_nI (n := 1) (by decide) (by decide)) dX4_enoughFor_66 ?_
  refine lv_topi (fun z39 e40 => ?_)
  obtain rfl : z39 = (11 : Int32) := e40.trans (by decide)
  have hP9 := hP.sub (ws' := []) [] rfl
  have hD9 := hD.sub (ws' := []) [] (by decide) rfl
  exact W.iret (v := 11) hx hb hr (fun t ht hW => ⟨⟨11, (), rfl, rfl, by rw [ht]; exact hP9, hD9⟩, hS.F ht⟩) hS.2.2 dX4_enoughFor_67
def rm_k4_enoughFor_3 : Room := { frames := 2, cells := 0, slots := 0, locals := 48 }
set_option maxHeartbeats 4000000 in
set_option maxRecDepth 100000 in
theorem k4_enoughFor_3 (l : Launch) (dC : Nat → ClassId) (dI : Nat → Nat → Nat) (kB kI kJ kZ kC kS : ClassId) (sz : Nat) (xa38 : Nat) (xa39 : Nat) (xa40 : Nat) : Met l yX4_enoughFor wsX4_enoughFor rm_k4_enoughFor_3 (va_Pc [.ref xa38, .int 3, .int 5] (fun U => U.heap.size = sz ∧ va_P (dC, dI) vwCl [(xa38, .inr (4, [.ref xa39, .ref xa40, .int 0])), (xa39, .inl (kJ, 23, .inr (.inl (fun _ => 0)))), (xa40, .inl (kI, 4, .inl (fun _ => 0)))] U.heap ∧ kE dC dI kB kI kJ kZ kC kS U ∧ va_D (fun _ => True) [(xa38, .inr (4, [.ref xa39, .ref xa40, .int 0])), (xa39, .inl (kJ, 23, .inr (.inl (fun _ => 0)))), (xa40, .inl (kI, 4, .inl (fun _ => 0)))])) (va_Qi (fun (r : Int32) (_ : Unit) => r = 16) (fun _ t => va_P (dC, dI) vwCl [] t.heap ∧ va_D (va_A [(xa38, .inr (4, [.ref xa39, .ref xa40, .int 0])), (xa39, .inl (kJ, 23, .inr (.inl (fun _ => 0)))), (xa40, .inl (kI, 4, .inl (fun _ => 0)))] sz) []) (va_A [(xa38, .inr (4, [.ref xa39, .ref xa40, .int 0])), (xa39, .inl (kJ, 23, .inr (.inl (fun _ => 0)))), (xa40, .inl (kI, 4, .inl (fun _ => 0)))] sz)) 0 0 (va_A [(xa38, .inr (4, [.ref xa39, .ref xa40, .int 0])), (xa39, .inl (kJ, 23, .inr (.inl (fun _ => 0)))), (xa40, .inl (kI, 4, .inl (fun _ => 0)))] sz) := by
  refine Met.ofW (cc := cX4_enoughFor) (maxL := 4) (ret := (some .int)) (by decide) rfl ?_
  intro p e s m args0 below meth c s₁ B hml hv
  obtain ⟨hargs, hsz, hP, hE, hD0⟩ := hv
  have hx := B.exec
  have hb := B.bytes
  have hr := B.returns
  have hts := atoms_spec (ws := wsX4_enoughFor) B.pre
  have hown : s.vm.findClass RX4 = some m.cls := findClass_of_methodNamed B.named
  have hlocks := B.notSynchronized
  have hK := hE.1
  have hin4 : ∀ w ∈ wsX40, w ∈ wsX4_enoughFor := fun _ h9 => List.mem_cons_of_mem _ (List.mem_append_right _ h9)
  subst hsz
  have hD := hD0.self (sz := s.heap.size)
  generalize hAe : va_A [(xa38, .inr (4, [.ref xa39, .ref xa40, .int 0])), (xa39, .inl (kJ, 23, .inr (.inl (fun _ => 0)))), (xa40, .inl (kI, 4, .inl (fun _ => 0)))] s.heap.size = A at hD ⊢
  have hA : ∀ q : Nat, s.heap.size ≤ q → A q := fun q h => by rw [← hAe]; exact Or.inr h
  have hS : va_S A s.heap s.heap [] := va_S.rf
  have hP : va_P (dC, dI) vwCl [(xa38, .inr (4, [.ref xa39, .ref xa40, .int 0])), (xa39, .inl (kJ, 23, .inr (.inl (fun _ => 0)))), (xa40, .inl (kI, 4, .inl (fun _ => 0)))] s.heap := hP
  have hl := lv_entry ([.ref xa38, .int 3, .int 5]) (n := 4) (Nat.le_of_ble_eq_true rfl)
  have hla : entryFrame m args0 4 = entryFrame m ([.ref xa38, .int 3, .int 5] : List Value).toArray 4 := by rw [hargs]
  rw [hla, lg_entry_eq]
  generalize (lg_sl ([.ref xa38, .int 3, .int 5]) ++ List.replicate (4 - (lg_sl ([.ref xa38, .int 3, .int 5])).length) Slot.unset).toArray = ls at hl ⊢
  have hl : lv_has ls 4 [(0, .ref xa38), (1, .int 3), (2, .int 5)] := hl
  refine lv_iload_n hx hb dX4_enoughFor_0 rfl (lv_at hl 1 rfl) ?_
  refine lv_iconst (v := 1) hx hb dX4_enoughFor_1 (by decide) ?_
  refine lv_icmp_lt (tgt := 10) hx hb dX4_enoughFor_2 (by decide) (fun c9 => absurd c9 (by decide)) (fun _ => ?_)
  refine lv_iload_n hx hb dX4_enoughFor_5 rfl (lv_at hl 1 rfl) ?_
  refine lv_iconst (v := 4) hx hb dX4_enoughFor_6 (by decide) ?_
  refine lv_icmp_le (tgt := 12) hx hb dX4_enoughFor_7 (by decide) (fun _ => ?_) (fun c9 => absurd (by decide) c9)
  refine lv_iload_n hx hb dX4_enoughFor_12 rfl (lv_at hl 2 rfl) ?_
  refine lv_aload_n hx hb dX4_enoughFor_13 rfl (lv_at hl 0 rfl) ?_
  refine va_get (D := (dC, dI)) (ci := 4) (v := .int 0) (C := RX4) (T := TX4) (N := 3) hx hb hts hin4 hown hK hP 0 rfl rfl 2 (by decide) (hts (.fieldLink RX4 19 "PathProber$Odds" "lossOfEnough" "I") (List.mem_of_getElem? (i := 1) (by decide +kernel))) (fun _ h9 => h9) rfl dX4_enoughFor_14 ?_
  refine lv_icmp_eq (tgt := 59) hx hb dX4_enoughFor_17 (by decide) (fun c9 => absurd c9 (by decide)) (fun _ => ?_)
  refine lv_iconst (v := 1) hx hb dX4_enoughFor_20 (by decide) ?_
  refine lv_istore_n (lv' := [(3, .int 1), (0, .ref xa38), (1, .int 3), (2, .int 5)]) hx hb dX4_enoughFor_21 rfl hl (by decide) rfl (fun ls hl => ?_)
  refine lv_iload_n hx hb dX4_enoughFor_22 rfl (lv_at hl 0 rfl) ?_
  refine lv_iconst (v := 4) hx hb dX4_enoughFor_23 (by decide) ?_
  refine lv_icmp_gt (tgt := 54) hx hb dX4_enoughFor_24 (by decide) (fun c9 => absurd c9 (by decide)) (fun _ => ?_)
  refine lv_aload_n hx hb dX4_enoughFor_27 rfl (lv_at hl 1 rfl) ?_
  refine va_get (D := (dC, dI)) (ci := 4) (v := .ref xa40) (C := RX4) (T := TX4) (N := 3) hx hb hts hin4 hown hK hP 0 rfl rfl 1 (by decide) (hts (.fieldLink RX4 15 "PathProber$Odds" "enough" "[I") (List.mem_of_getElem? (i := 2) (by decide +kernel))) (fun _ h9 => h9) rfl dX4_enoughFor_28 ?_
  refine lv_iload_n hx hb dX4_enoughFor_31 rfl (lv_at hl 0 rfl) ?_
  refine lv_iconst (v := 1) hx hb dX4_enoughFor_32 (by decide) ?_
  refine lv_isub hx hb dX4_enoughFor_33 ?_
  refine lv_topi (fun z1 e2 => ?_)
  obtain rfl : z1 = (0 : Int32) := e2.trans (by decide)
  refine lv_aload_n hx hb dX4_enoughFor_34 rfl (lv_at hl 1 rfl) ?_
  refine lv_iload_n hx hb dX4_enoughFor_35 rfl (lv_at hl 0 rfl) ?_
  refine lv_iconst (v := 1) hx hb dX4_enoughFor_36 (by decide) ?_
  refine lv_iadd hx hb dX4_enoughFor_37 ?_
  refine lv_topi (fun z3 e4 => ?_)
  obtain rfl : z3 = (2 : Int32) := e4.trans (by decide)
  refine lv_iload_n hx hb dX4_enoughFor_38 rfl (lv_at hl 3 rfl) ?_
  refine lv_i2l (v := 5) hx hb dX4_enoughFor_39 (by decide) ?_
  refine lv_ldc2 hx hb hown (hts (.constantLong RX4 32 (10000000000)) (List.mem_of_getElem? (i := 3) (by decide +kernel))) dX4_enoughFor_40 ?_
  refine lv_lmul hx hb dX4_enoughFor_43 ?_
  refine lv_topl (fun z5 e6 => ?_)
  obtain rfl : z5 = (50000000000 : Int64) := e6.trans (by decide)
  have hPc := hP.sub (ws' := [(xa38, .inr (4, [.ref xa39, .ref xa40, .int 0])), (xa39, .inl (kJ, 23, .inr (.inl (fun _ => 0))))]) [0, 1] rfl
  have hDc := hD.sub (ws' := [(xa38, .inr (4, [.ref xa39, .ref xa40, .int 0])), (xa39, .inl (kJ, 23, .inr (.inl (fun _ => 0))))]) [0, 1] (by decide) rfl
  have hFc := va_free (wc := [(xa38, .inr (4, [.ref xa39, .ref xa40, .int 0])), (xa39, .inl (kJ, 23, .inr (.inl (fun _ => 0))))]) hD hS hA [0, 1] rfl
  refine va_calli (va_runV (As := [.int 2, .long 50000000000]) (rest := [.int 0, .ref xa40]) ⟨hx, hb, hml, hown, hts⟩ (k4_leastFor_2 l dC dI kB kI kJ kZ kC kS s.heap.size xa38 xa39 xa40 (fun _ => 0)) (cwV 2 hts gX4_enoughFor_X4_leastFor rfl rfl rfl (by decide +kernel) ⟨Nat.le_of_ble_eq_true rfl, Nat.le_of_ble_eq_true rfl⟩) ⟨fun a U g mk q => by obtain ⟨q0, q1, qP, qE, qD⟩ := q; exact ⟨q0, q1, qP, kE_call qE, qD⟩, va_recv hK hP (ci := 4) (q0 := 0) rfl rfl, fun U hU hW => ⟨rfl, by rw [hU], by rw [hU]; exact hPc, kE_warm hW hE, hDc.weaken (fun _ _ _ _ => trivial)⟩⟩ rfl rfl hl.1 rfl (lv_room (Nat.le_of_ble_eq_true rfl)) dX4_enoughFor_44 ⟨Nat.le_of_ble_eq_true rfl, Nat.le_of_ble_eq_true rfl⟩) hS (fun q _ h => hFc q h) hFc (fun r7 u t H1 locs ht hvm w8 hB hz1 hk1 hS => ?_)
  obtain ⟨g_9, hP1, hD1⟩ := hB
  rw [ht] at hP1
  try dsimp only at w8
  obtain ⟨hP, hD⟩ := va_join (wr := [(xa40, .inl (kI, 4, .inl (fun _ => 0)))]) (w1 := [(xa38, .inr (4, [.ref xa39, .ref xa40, .int 0])), (xa39, .inl (kJ, 23, .inr (.inl g_9)))]) hP hD [0, 1] [2] rfl rfl (by decide) (by decide) hk1 hFc hP1 hD1
  generalize H1 = H at hP hS ⊢
  have hP : va_P (dC, dI) vwCl [(xa40, .inl (kI, 4, .inl (fun _ => 0))), (xa38, .inr (4, [.ref xa39, .ref xa40, .int 0])), (xa39, .inl (kJ, 23, .inr (.inl g_9)))] H := hP
  have hD : va_D A [(xa40, .inl (kI, 4, .inl (fun _ => 0))), (xa38, .inr (4, [.ref xa39, .ref xa40, .int 0])), (xa39, .inl (kJ, 23, .inr (.inl g_9)))] := hD
  refine W.widen (k := 0) (n := 0) (Nat.le_of_ble_eq_true rfl) (Nat.le_of_ble_eq_true rfl) ?_
  subst w8
  refine va_iast hx hb hK hP hD hS 0 1 rfl rfl (vp_in_nI (n := 0) (by decide) (by decide)) dX4_enoughFor_47 (fun H locs hP hD hS => ?_)
  have hP : va_P (dC, dI) vwCl [(xa40, .inl (kI, 4, .inl (upd (fun _ => 0) 0 6))), (xa38, .inr (4, [.ref xa39, .ref xa40, .int 0])), (xa39, .inl (kJ, 23, .inr (.inl g_9)))] H := hP
  have hD : va_D A [(xa40, .inl (kI, 4, .inl (upd (fun _ => 0) 0 6))), (xa38, .inr (4, [.ref xa39, .ref xa40, .int 0])), (xa39, .inl (kJ, 23, .inr (.inl g_9)))] := hD
  refine lv_iinc (v := 2) (lv' := [(3, .int 2), (0, .ref xa38), (1, .int 3), (2, .int 5)]) hx hb dX4_enoughFor_48 hl (k := 0) rfl (by decide) (by decide) rfl (fun ls hl => ?_)
  refine lv_goto (tgt := 22) hx hb dX4_enoughFor_51 (by decide) ?_
  refine lv_iload_n hx hb dX4_enoughFor_22 rfl (lv_at hl 0 rfl) ?_
  refine lv_iconst (v := 4) hx hb dX4_enoughFor_23 (by decide) ?_
  refine lv_icmp_gt (tgt := 54) hx hb dX4_enoughFor_24 (by decide) (fun c9 => absurd c9 (by decide)) (fun _ => ?_)
  refine lv_aload_n hx hb dX4_enoughFor_27 rfl (lv_at hl 1 rfl) ?_
  refine va_get (D := (dC, dI)) (ci := 4) (v := .ref xa40) (C := RX4) (T := TX4) (N := 3) hx hb hts hin4 hown hK hP 1 rfl rfl 1 (by decide) (hts (.fieldLink RX4 15 "PathProber$Odds" "enough" "[I") (List.mem_of_getElem? (i := 2) (by decide +kernel))) (fun _ h9 => h9) rfl dX4_enoughFor_28 ?_
  refine lv_iload_n hx hb dX4_enoughFor_31 rfl (lv_at hl 0 rfl) ?_
  refine lv_iconst (v := 1) hx hb dX4_enoughFor_32 (by decide) ?_
  refine lv_isub hx hb dX4_enoughFor_33 ?_
  refine lv_topi (fun z10 e11 => ?_)
  obtain rfl : z10 = (1 : Int32) := e11.trans (by decide)
  refine lv_aload_n hx hb dX4_enoughFor_34 rfl (lv_at hl 1 rfl) ?_
  refine lv_iload_n hx hb dX4_enoughFor_35 rfl (lv_at hl 0 rfl) ?_
  refine lv_iconst (v := 1) hx hb dX4_enoughFor_36 (by decide) ?_
  refine lv_iadd hx hb dX4_enoughFor_37 ?_
  refine lv_topi (fun z12 e13 => ?_)
  obtain rfl : z12 = (3 : Int32) := e13.trans (by decide)
  refine lv_iload_n hx hb dX4_enoughFor_38 rfl (lv_at hl 3 rfl) ?_
  refine lv_i2l (v := 5) hx hb dX4_enoughFor_39 (by decide) ?_
  refine lv_ldc2 hx hb hown (hts (.constantLong RX4 32 (10000000000)) (List.mem_of_getElem? (i := 3) (by decide +kernel))) dX4_enoughFor_40 ?_
  refine lv_lmul hx hb dX4_enoughFor_43 ?_
  refine lv_topl (fun z14 e15 => ?_)
  obtain rfl : z14 = (50000000000 : Int64) := e15.trans (by decide)
  have hPc := hP.sub (ws' := [(xa38, .inr (4, [.ref xa39, .ref xa40, .int 0])), (xa39, .inl (kJ, 23, .inr (.inl g_9)))]) [1, 2] rfl
  have hDc := hD.sub (ws' := [(xa38, .inr (4, [.ref xa39, .ref xa40, .int 0])), (xa39, .inl (kJ, 23, .inr (.inl g_9)))]) [1, 2] (by decide) rfl
  have hFc := va_free (wc := [(xa38, .inr (4, [.ref xa39, .ref xa40, .int 0])), (xa39, .inl (kJ, 23, .inr (.inl g_9)))]) hD hS hA [1, 2] rfl
  refine va_calli (va_runV (As := [.int 3, .long 50000000000]) (rest := [.int 1, .ref xa40]) ⟨hx, hb, hml, hown, hts⟩ (k4_leastFor_3 l dC dI kB kI kJ kZ kC kS H.size xa38 xa39 xa40 g_9) (cwV 2 hts gX4_enoughFor_X4_leastFor rfl rfl rfl (by decide +kernel) ⟨Nat.le_of_ble_eq_true rfl, Nat.le_of_ble_eq_true rfl⟩) ⟨fun a U g mk q => by obtain ⟨q0, q1, qP, qE, qD⟩ := q; exact ⟨q0, q1, qP, kE_call qE, qD⟩, va_recv hK hP (ci := 4) (q0 := 1) rfl rfl, fun U hU hW => ⟨rfl, by rw [hU], by rw [hU]; exact hPc, kE_warm hW hE, hDc.weaken (fun _ _ _ _ => trivial)⟩⟩ rfl rfl hl.1 rfl (lv_room (Nat.le_of_ble_eq_true rfl)) dX4_enoughFor_44 ⟨Nat.le_of_ble_eq_true rfl, Nat.le_of_ble_eq_true rfl⟩) hS (fun q _ h => hFc q h) hFc (fun r16 u t H1 locs ht hvm w17 hB hz1 hk1 hS => ?_)
  obtain ⟨g_18, hP1, hD1⟩ := hB
  rw [ht] at hP1
  try dsimp only at w17
  obtain ⟨hP, hD⟩ := va_join (wr := [(xa40, .inl (kI, 4, .inl (upd (fun _ => 0) 0 6)))]) (w1 := [(xa38, .inr (4, [.ref xa39, .ref xa40, .int 0])), (xa39, .inl (kJ, 23, .inr (.inl g_18)))]) hP hD [1, 2] [0] rfl rfl (by decide) (by decide) hk1 hFc hP1 hD1
  generalize H1 = H at hP hS ⊢
  have hP : va_P (dC, dI) vwCl [(xa40, .inl (kI, 4, .inl (upd (fun _ => 0) 0 6))), (xa38, .inr (4, [.ref xa39, .ref xa40, .int 0])), (xa39, .inl (kJ, 23, .inr (.inl g_18)))] H := hP
  have hD : va_D A [(xa40, .inl (kI, 4, .inl (upd (fun _ => 0) 0 6))), (xa38, .inr (4, [.ref xa39, .ref xa40, .int 0])), (xa39, .inl (kJ, 23, .inr (.inl g_18)))] := hD
  refine W.widen (k := 0) (n := 0) (Nat.le_of_ble_eq_true rfl) (Nat.le_of_ble_eq_true rfl) ?_
  subst w17
  refine va_iast hx hb hK hP hD hS 0 1 rfl rfl (vp_in_nI (n := 1) (by decide) (by decide)) dX4_enoughFor_47 (fun H locs hP hD hS => ?_)
  have hP : va_P (dC, dI) vwCl [(xa40, .inl (kI, 4, .inl (upd (upd (fun _ => 0) 0 6) 1 11))), (xa38, .inr (4, [.ref xa39, .ref xa40, .int 0])), (xa39, .inl (kJ, 23, .inr (.inl g_18)))] H := hP
  have hD : va_D A [(xa40, .inl (kI, 4, .inl (upd (upd (fun _ => 0) 0 6) 1 11))), (xa38, .inr (4, [.ref xa39, .ref xa40, .int 0])), (xa39, .inl (kJ, 23, .inr (.inl g_18)))] := hD
  refine lv_iinc (v := 3) (lv' := [(3, .int 3), (0, .ref xa38), (1, .int 3), (2, .int 5)]) hx hb dX4_enoughFor_48 hl (k := 0) rfl (by decide) (by decide) rfl (fun ls hl => ?_)
  refine lv_goto (tgt := 22) hx hb dX4_enoughFor_51 (by decide) ?_
  refine lv_iload_n hx hb dX4_enoughFor_22 rfl (lv_at hl 0 rfl) ?_
  refine lv_iconst (v := 4) hx hb dX4_enoughFor_23 (by decide) ?_
  refine lv_icmp_gt (tgt := 54) hx hb dX4_enoughFor_24 (by decide) (fun c9 => absurd c9 (by decide)) (fun _ => ?_)
  refine lv_aload_n hx hb dX4_enoughFor_27 rfl (lv_at hl 1 rfl) ?_
  refine va_get (D := (dC, dI)) (ci := 4) (v := .ref xa40) (C := RX4) (T := TX4) (N := 3) hx hb hts hin4 hown hK hP 1 rfl rfl 1 (by decide) (hts (.fieldLink RX4 15 "PathProber$Odds" "enough" "[I") (List.mem_of_getElem? (i := 2) (by decide +kernel))) (fun _ h9 => h9) rfl dX4_enoughFor_28 ?_
  refine lv_iload_n hx hb dX4_enoughFor_31 rfl (lv_at hl 0 rfl) ?_
  refine lv_iconst (v := 1) hx hb dX4_enoughFor_32 (by decide) ?_
  refine lv_isub hx hb dX4_enoughFor_33 ?_
  refine lv_topi (fun z19 e20 => ?_)
  obtain rfl : z19 = (2 : Int32) := e20.trans (by decide)
  refine lv_aload_n hx hb dX4_enoughFor_34 rfl (lv_at hl 1 rfl) ?_
  refine lv_iload_n hx hb dX4_enoughFor_35 rfl (lv_at hl 0 rfl) ?_
  refine lv_iconst (v := 1) hx hb dX4_enoughFor_36 (by decide) ?_
  refine lv_iadd hx hb dX4_enoughFor_37 ?_
  refine lv_topi (fun z21 e22 => ?_)
  obtain rfl : z21 = (4 : Int32) := e22.trans (by decide)
  refine lv_iload_n hx hb dX4_enoughFor_38 rfl (lv_at hl 3 rfl) ?_
  refine lv_i2l (v := 5) hx hb dX4_enoughFor_39 (by decide) ?_
  refine lv_ldc2 hx hb hown (hts (.constantLong RX4 32 (10000000000)) (List.mem_of_getElem? (i := 3) (by decide +kernel))) dX4_enoughFor_40 ?_
  refine lv_lmul hx hb dX4_enoughFor_43 ?_
  refine lv_topl (fun z23 e24 => ?_)
  obtain rfl : z23 = (50000000000 : Int64) := e24.trans (by decide)
  have hPc := hP.sub (ws' := [(xa38, .inr (4, [.ref xa39, .ref xa40, .int 0])), (xa39, .inl (kJ, 23, .inr (.inl g_18)))]) [1, 2] rfl
  have hDc := hD.sub (ws' := [(xa38, .inr (4, [.ref xa39, .ref xa40, .int 0])), (xa39, .inl (kJ, 23, .inr (.inl g_18)))]) [1, 2] (by decide) rfl
  have hFc := va_free (wc := [(xa38, .inr (4, [.ref xa39, .ref xa40, .int 0])), (xa39, .inl (kJ, 23, .inr (.inl g_18)))]) hD hS hA [1, 2] rfl
  refine va_calli (va_runV (As := [.int 4, .long 50000000000]) (rest := [.int 2, .ref xa40]) ⟨hx, hb, hml, hown, hts⟩ (k4_leastFor_4 l dC dI kB kI kJ kZ kC kS H.size xa38 xa39 xa40 g_18) (cwV 2 hts gX4_enoughFor_X4_leastFor rfl rfl rfl (by decide +kernel) ⟨Nat.le_of_ble_eq_true rfl, Nat.le_of_ble_eq_true rfl⟩) ⟨fun a U g mk q => by obtain ⟨q0, q1, qP, qE, qD⟩ := q; exact ⟨q0, q1, qP, kE_call qE, qD⟩, va_recv hK hP (ci := 4) (q0 := 1) rfl rfl, fun U hU hW => ⟨rfl, by rw [hU], by rw [hU]; exact hPc, kE_warm hW hE, hDc.weaken (fun _ _ _ _ => trivial)⟩⟩ rfl rfl hl.1 rfl (lv_room (Nat.le_of_ble_eq_true rfl)) dX4_enoughFor_44 ⟨Nat.le_of_ble_eq_true rfl, Nat.le_of_ble_eq_true rfl⟩) hS (fun q _ h => hFc q h) hFc (fun r25 u t H1 locs ht hvm w26 hB hz1 hk1 hS => ?_)
  obtain ⟨g_27, hP1, hD1⟩ := hB
  rw [ht] at hP1
  try dsimp only at w26
  obtain ⟨hP, hD⟩ := va_join (wr := [(xa40, .inl (kI, 4, .inl (upd (upd (fun _ => 0) 0 6) 1 11)))]) (w1 := [(xa38, .inr (4, [.ref xa39, .ref xa40, .int 0])), (xa39, .inl (kJ, 23, .inr (.inl g_27)))]) hP hD [1, 2] [0] rfl rfl (by decide) (by decide) hk1 hFc hP1 hD1
  generalize H1 = H at hP hS ⊢
  have hP : va_P (dC, dI) vwCl [(xa40, .inl (kI, 4, .inl (upd (upd (fun _ => 0) 0 6) 1 11))), (xa38, .inr (4, [.ref xa39, .ref xa40, .int 0])), (xa39, .inl (kJ, 23, .inr (.inl g_27)))] H := hP
  have hD : va_D A [(xa40, .inl (kI, 4, .inl (upd (upd (fun _ => 0) 0 6) 1 11))), (xa38, .inr (4, [.ref xa39, .ref xa40, .int 0])), (xa39, .inl (kJ, 23, .inr (.inl g_27)))] := hD
  refine W.widen (k := 0) (n := 0) (Nat.le_of_ble_eq_true rfl) (Nat.le_of_ble_eq_true rfl) ?_
  subst w26
  refine va_iast hx hb hK hP hD hS 0 1 rfl rfl (vp_in_nI (n := 2) (by decide) (by decide)) dX4_enoughFor_47 (fun H locs hP hD hS => ?_)
  have hP : va_P (dC, dI) vwCl [(xa40, .inl (kI, 4, .inl (upd (upd (upd (fun _ => 0) 0 6) 1 11) 2 16))), (xa38, .inr (4, [.ref xa39, .ref xa40, .int 0])), (xa39, .inl (kJ, 23, .inr (.inl g_27)))] H := hP
  have hD : va_D A [(xa40, .inl (kI, 4, .inl (upd (upd (upd (fun _ => 0) 0 6) 1 11) 2 16))), (xa38, .inr (4, [.ref xa39, .ref xa40, .int 0])), (xa39, .inl (kJ, 23, .inr (.inl g_27)))] := hD
  refine lv_iinc (v := 4) (lv' := [(3, .int 4), (0, .ref xa38), (1, .int 3), (2, .int 5)]) hx hb dX4_enoughFor_48 hl (k := 0) rfl (by decide) (by decide) rfl (fun ls hl => ?_)
  refine lv_goto (tgt := 22) hx hb dX4_enoughFor_51 (by decide) ?_
  refine lv_iload_n hx hb dX4_enoughFor_22 rfl (lv_at hl 0 rfl) ?_
  refine lv_iconst (v := 4) hx hb dX4_enoughFor_23 (by decide) ?_
  refine lv_icmp_gt (tgt := 54) hx hb dX4_enoughFor_24 (by decide) (fun c9 => absurd c9 (by decide)) (fun _ => ?_)
  refine lv_aload_n hx hb dX4_enoughFor_27 rfl (lv_at hl 1 rfl) ?_
  refine va_get (D := (dC, dI)) (ci := 4) (v := .ref xa40) (C := RX4) (T := TX4) (N := 3) hx hb hts hin4 hown hK hP 1 rfl rfl 1 (by decide) (hts (.fieldLink RX4 15 "PathProber$Odds" "enough" "[I") (List.mem_of_getElem? (i := 2) (by decide +kernel))) (fun _ h9 => h9) rfl dX4_enoughFor_28 ?_
  refine lv_iload_n hx hb dX4_enoughFor_31 rfl (lv_at hl 0 rfl) ?_
  refine lv_iconst (v := 1) hx hb dX4_enoughFor_32 (by decide) ?_
  refine lv_isub hx hb dX4_enoughFor_33 ?_
  refine lv_topi (fun z28 e29 => ?_)
  obtain rfl : z28 = (3 : Int32) := e29.trans (by decide)
  refine lv_aload_n hx hb dX4_enoughFor_34 rfl (lv_at hl 1 rfl) ?_
  refine lv_iload_n hx hb dX4_enoughFor_35 rfl (lv_at hl 0 rfl) ?_
  refine lv_iconst (v := 1) hx hb dX4_enoughFor_36 (by decide) ?_
  refine lv_iadd hx hb dX4_enoughFor_37 ?_
  refine lv_topi (fun z30 e31 => ?_)
  obtain rfl : z30 = (5 : Int32) := e31.trans (by decide)
  refine lv_iload_n hx hb dX4_enoughFor_38 rfl (lv_at hl 3 rfl) ?_
  refine lv_i2l (v := 5) hx hb dX4_enoughFor_39 (by decide) ?_
  refine lv_ldc2 hx hb hown (hts (.constantLong RX4 32 (10000000000)) (List.mem_of_getElem? (i := 3) (by decide +kernel))) dX4_enoughFor_40 ?_
  refine lv_lmul hx hb dX4_enoughFor_43 ?_
  refine lv_topl (fun z32 e33 => ?_)
  obtain rfl : z32 = (50000000000 : Int64) := e33.trans (by decide)
  have hPc := hP.sub (ws' := [(xa38, .inr (4, [.ref xa39, .ref xa40, .int 0])), (xa39, .inl (kJ, 23, .inr (.inl g_27)))]) [1, 2] rfl
  have hDc := hD.sub (ws' := [(xa38, .inr (4, [.ref xa39, .ref xa40, .int 0])), (xa39, .inl (kJ, 23, .inr (.inl g_27)))]) [1, 2] (by decide) rfl
  have hFc := va_free (wc := [(xa38, .inr (4, [.ref xa39, .ref xa40, .int 0])), (xa39, .inl (kJ, 23, .inr (.inl g_27)))]) hD hS hA [1, 2] rfl
  refine va_calli (va_runV (As := [.int 5, .long 50000000000]) (rest := [.int 3, .ref xa40]) ⟨hx, hb, hml, hown, hts⟩ (k4_leastFor_5 l dC dI kB kI kJ kZ kC kS H.size xa38 xa39 xa40 g_27) (cwV 2 hts gX4_enoughFor_X4_leastFor rfl rfl rfl (by decide +kernel) ⟨Nat.le_of_ble_eq_true rfl, Nat.le_of_ble_eq_true rfl⟩) ⟨fun a U g mk q => by obtain ⟨q0, q1, qP, qE, qD⟩ := q; exact ⟨q0, q1, qP, kE_call qE, qD⟩, va_recv hK hP (ci := 4) (q0 := 1) rfl rfl, fun U hU hW => ⟨rfl, by rw [hU], by rw [hU]; exact hPc, kE_warm hW hE, hDc.weaken (fun _ _ _ _ => trivial)⟩⟩ rfl rfl hl.1 rfl (lv_room (Nat.le_of_ble_eq_true rfl)) dX4_enoughFor_44 ⟨Nat.le_of_ble_eq_true rfl, Nat.le_of_ble_eq_true rfl⟩) hS (fun q _ h => hFc q h) hFc (fun r34 u t H1 locs ht hvm w35 hB hz1 hk1 hS => ?_)
  obtain ⟨g_36, hP1, hD1⟩ := hB
  rw [ht] at hP1
  try dsimp only at w35
  obtain ⟨hP, hD⟩ := va_join (wr := [(xa40, .inl (kI, 4, .inl (upd (upd (upd (fun _ => 0) 0 6) 1 11) 2 16)))]) (w1 := [(xa38, .inr (4, [.ref xa39, .ref xa40, .int 0])), (xa39, .inl (kJ, 23, .inr (.inl g_36)))]) hP hD [1, 2] [0] rfl rfl (by decide) (by decide) hk1 hFc hP1 hD1
  generalize H1 = H at hP hS ⊢
  have hP : va_P (dC, dI) vwCl [(xa40, .inl (kI, 4, .inl (upd (upd (upd (fun _ => 0) 0 6) 1 11) 2 16))), (xa38, .inr (4, [.ref xa39, .ref xa40, .int 0])), (xa39, .inl (kJ, 23, .inr (.inl g_36)))] H := hP
  have hD : va_D A [(xa40, .inl (kI, 4, .inl (upd (upd (upd (fun _ => 0) 0 6) 1 11) 2 16))), (xa38, .inr (4, [.ref xa39, .ref xa40, .int 0])), (xa39, .inl (kJ, 23, .inr (.inl g_36)))] := hD
  refine W.widen (k := 0) (n := 0) (Nat.le_of_ble_eq_true rfl) (Nat.le_of_ble_eq_true rfl) ?_
  subst w35
  refine va_iast hx hb hK hP hD hS 0 1 rfl rfl (vp_in_nI (n := 3) (by decide) (by decide)) dX4_enoughFor_47 (fun H locs hP hD hS => ?_)
  have hP : va_P (dC, dI) vwCl [(xa40, .inl (kI, 4, .inl (upd (upd (upd (upd (fun _ => 0) 0 6) 1 11) 2 16) 3 21))), (xa38, .inr (4, [.ref xa39, .ref xa40, .int 0])), (xa39, .inl (kJ, 23, .inr (.inl g_36)))] H := hP
  have hD : va_D A [(xa40, .inl (kI, 4, .inl (upd (upd (upd (upd (fun _ => 0) 0 6) 1 11) 2 16) 3 21))), (xa38, .inr (4, [.ref xa39, .ref xa40, .int 0])), (xa39, .inl (kJ, 23, .inr (.inl g_36)))] := hD
  refine lv_iinc (v := 5) (lv' := [(3, .int 5), (0, .ref xa38), (1, .int 3), (2, .int 5)]) hx hb dX4_enoughFor_48 hl (k := 0) rfl (by decide) (by decide) rfl (fun ls hl => ?_)
  refine lv_goto (tgt := 22) hx hb dX4_enoughFor_51 (by decide) ?_
  refine lv_iload_n hx hb dX4_enoughFor_22 rfl (lv_at hl 0 rfl) ?_
  refine lv_iconst (v := 4) hx hb dX4_enoughFor_23 (by decide) ?_
  refine lv_icmp_gt (tgt := 54) hx hb dX4_enoughFor_24 (by decide) (fun _ => ?_) (fun c9 => absurd (by decide) c9)
  refine lv_aload_n hx hb dX4_enoughFor_54 rfl (lv_at hl 1 rfl) ?_
  refine lv_iload_n hx hb dX4_enoughFor_55 rfl (lv_at hl 3 rfl) ?_
  refine va_put (D := (dC, dI)) (ci := 4) (v := .int 5) (ty := .int) (C := RX4) (T := TX4) (N := 3) hx hb hts hin4 tyX4 tyX4_ok nmX4 hown hK hP hD hS 1 rfl rfl 2 (by decide) (hts (.fieldLink RX4 19 "PathProber$Odds" "lossOfEnough" "I") (List.mem_of_getElem? (i := 1) (by decide +kernel))) (fun _ h9 => h9) rfl (by decide +kernel) rfl rfl (Nat.le_of_ble_eq_true rfl) dX4_enoughFor_56 (fun H locs hP hD hS => ?_)
  have hP : va_P (dC, dI) vwCl [(xa40, .inl (kI, 4, .inl (upd (upd (upd (upd (fun _ => 0) 0 6) 1 11) 2 16) 3 21))), (xa38, .inr (4, [.ref xa39, .ref xa40, .int 5])), (xa39, .inl (kJ, 23, .inr (.inl g_36)))] H := hP
  have hD : va_D A [(xa40, .inl (kI, 4, .inl (upd (upd (upd (upd (fun _ => 0) 0 6) 1 11) 2 16) 3 21))), (xa38, .inr (4, [.ref xa39, .ref xa40, .int 5])), (xa39, .inl (kJ, 23, .inr (.inl g_36)))] := hD
  refine lv_aload_n hx hb dX4_enoughFor_59 rfl (lv_at hl 1 rfl) ?_
  refine va_get (D := (dC, dI)) (ci := 4) (v := .ref xa40) (C := RX4) (T := TX4) (N := 3) hx hb hts hin4 hown hK hP 1 rfl rfl 1 (by decide) (hts (.fieldLink RX4 15 "PathProber$Odds" "enough" "[I") (List.mem_of_getElem? (i := 2) (by decide +kernel))) (fun _ h9 => h9) rfl dX4_enoughFor_60 ?_
  refine lv_iload_n hx hb dX4_enoughFor_63 rfl (lv_at hl 2 rfl) ?_
  refine lv_iconst (v := 1) hx hb dX4_enoughFor_64 (by decide) ?_
  refine lv_isub hx hb dX4_enoughFor_65 ?_
  refine lv_topi (fun z37 e38 => ?_)
  obtain rfl : z37 = (2 : Int32) := e38.trans (by decide)
  refine va_iald hx hb hK hP 0 1 rfl rfl (vp_in_nI (n := 2) (by decide) (by decide)) dX4_enoughFor_66 ?_
  refine lv_topi (fun z39 e40 => ?_)
  obtain rfl : z39 = (16 : Int32) := e40.trans (by decide)
  have hP9 := hP.sub (ws' := []) [] rfl
  have hD9 := hD.sub (ws' := []) [] (by decide) rfl
  exact W.iret (v := 16) hx hb hr (fun t ht hW => ⟨⟨16, (), rfl, rfl, by rw [ht]; exact hP9, hD9⟩, hS.F ht⟩) hS.2.2 dX4_enoughFor_67
def rm_k4_enoughFor_4 : Room := { frames := 2, cells := 0, slots := 0, locals := 48 }
set_option maxHeartbeats 4000000 in
set_option maxRecDepth 100000 in
theorem k4_enoughFor_4 (l : Launch) (dC : Nat → ClassId) (dI : Nat → Nat → Nat) (kB kI kJ kZ kC kS : ClassId) (sz : Nat) (xa38 : Nat) (xa39 : Nat) (xa40 : Nat) : Met l yX4_enoughFor wsX4_enoughFor rm_k4_enoughFor_4 (va_Pc [.ref xa38, .int 4, .int 5] (fun U => U.heap.size = sz ∧ va_P (dC, dI) vwCl [(xa38, .inr (4, [.ref xa39, .ref xa40, .int 0])), (xa39, .inl (kJ, 23, .inr (.inl (fun _ => 0)))), (xa40, .inl (kI, 4, .inl (fun _ => 0)))] U.heap ∧ kE dC dI kB kI kJ kZ kC kS U ∧ va_D (fun _ => True) [(xa38, .inr (4, [.ref xa39, .ref xa40, .int 0])), (xa39, .inl (kJ, 23, .inr (.inl (fun _ => 0)))), (xa40, .inl (kI, 4, .inl (fun _ => 0)))])) (va_Qi (fun (r : Int32) (_ : Unit) => r = 21) (fun _ t => va_P (dC, dI) vwCl [] t.heap ∧ va_D (va_A [(xa38, .inr (4, [.ref xa39, .ref xa40, .int 0])), (xa39, .inl (kJ, 23, .inr (.inl (fun _ => 0)))), (xa40, .inl (kI, 4, .inl (fun _ => 0)))] sz) []) (va_A [(xa38, .inr (4, [.ref xa39, .ref xa40, .int 0])), (xa39, .inl (kJ, 23, .inr (.inl (fun _ => 0)))), (xa40, .inl (kI, 4, .inl (fun _ => 0)))] sz)) 0 0 (va_A [(xa38, .inr (4, [.ref xa39, .ref xa40, .int 0])), (xa39, .inl (kJ, 23, .inr (.inl (fun _ => 0)))), (xa40, .inl (kI, 4, .inl (fun _ => 0)))] sz) := by
  refine Met.ofW (cc := cX4_enoughFor) (maxL := 4) (ret := (some .int)) (by decide) rfl ?_
  intro p e s m args0 below meth c s₁ B hml hv
  obtain ⟨hargs, hsz, hP, hE, hD0⟩ := hv
  have hx := B.exec
  have hb := B.bytes
  have hr := B.returns
  have hts := atoms_spec (ws := wsX4_enoughFor) B.pre
  have hown : s.vm.findClass RX4 = some m.cls := findClass_of_methodNamed B.named
  have hlocks := B.notSynchronized
  have hK := hE.1
  have hin4 : ∀ w ∈ wsX40, w ∈ wsX4_enoughFor := fun _ h9 => List.mem_cons_of_mem _ (List.mem_append_right _ h9)
  subst hsz
  have hD := hD0.self (sz := s.heap.size)
  generalize hAe : va_A [(xa38, .inr (4, [.ref xa39, .ref xa40, .int 0])), (xa39, .inl (kJ, 23, .inr (.inl (fun _ => 0)))), (xa40, .inl (kI, 4, .inl (fun _ => 0)))] s.heap.size = A at hD ⊢
  have hA : ∀ q : Nat, s.heap.size ≤ q → A q := fun q h => by rw [← hAe]; exact Or.inr h
  have hS : va_S A s.heap s.heap [] := va_S.rf
  have hP : va_P (dC, dI) vwCl [(xa38, .inr (4, [.ref xa39, .ref xa40, .int 0])), (xa39, .inl (kJ, 23, .inr (.inl (fun _ => 0)))), (xa40, .inl (kI, 4, .inl (fun _ => 0)))] s.heap := hP
  have hl := lv_entry ([.ref xa38, .int 4, .int 5]) (n := 4) (Nat.le_of_ble_eq_true rfl)
  have hla : entryFrame m args0 4 = entryFrame m ([.ref xa38, .int 4, .int 5] : List Value).toArray 4 := by rw [hargs]
  rw [hla, lg_entry_eq]
  generalize (lg_sl ([.ref xa38, .int 4, .int 5]) ++ List.replicate (4 - (lg_sl ([.ref xa38, .int 4, .int 5])).length) Slot.unset).toArray = ls at hl ⊢
  have hl : lv_has ls 4 [(0, .ref xa38), (1, .int 4), (2, .int 5)] := hl
  refine lv_iload_n hx hb dX4_enoughFor_0 rfl (lv_at hl 1 rfl) ?_
  refine lv_iconst (v := 1) hx hb dX4_enoughFor_1 (by decide) ?_
  refine lv_icmp_lt (tgt := 10) hx hb dX4_enoughFor_2 (by decide) (fun c9 => absurd c9 (by decide)) (fun _ => ?_)
  refine lv_iload_n hx hb dX4_enoughFor_5 rfl (lv_at hl 1 rfl) ?_
  refine lv_iconst (v := 4) hx hb dX4_enoughFor_6 (by decide) ?_
  refine lv_icmp_le (tgt := 12) hx hb dX4_enoughFor_7 (by decide) (fun _ => ?_) (fun c9 => absurd (by decide) c9)
  refine lv_iload_n hx hb dX4_enoughFor_12 rfl (lv_at hl 2 rfl) ?_
  refine lv_aload_n hx hb dX4_enoughFor_13 rfl (lv_at hl 0 rfl) ?_
  refine va_get (D := (dC, dI)) (ci := 4) (v := .int 0) (C := RX4) (T := TX4) (N := 3) hx hb hts hin4 hown hK hP 0 rfl rfl 2 (by decide) (hts (.fieldLink RX4 19 "PathProber$Odds" "lossOfEnough" "I") (List.mem_of_getElem? (i := 1) (by decide +kernel))) (fun _ h9 => h9) rfl dX4_enoughFor_14 ?_
  refine lv_icmp_eq (tgt := 59) hx hb dX4_enoughFor_17 (by decide) (fun c9 => absurd c9 (by decide)) (fun _ => ?_)
  refine lv_iconst (v := 1) hx hb dX4_enoughFor_20 (by decide) ?_
  refine lv_istore_n (lv' := [(3, .int 1), (0, .ref xa38), (1, .int 4), (2, .int 5)]) hx hb dX4_enoughFor_21 rfl hl (by decide) rfl (fun ls hl => ?_)
  refine lv_iload_n hx hb dX4_enoughFor_22 rfl (lv_at hl 0 rfl) ?_
  refine lv_iconst (v := 4) hx hb dX4_enoughFor_23 (by decide) ?_
  refine lv_icmp_gt (tgt := 54) hx hb dX4_enoughFor_24 (by decide) (fun c9 => absurd c9 (by decide)) (fun _ => ?_)
  refine lv_aload_n hx hb dX4_enoughFor_27 rfl (lv_at hl 1 rfl) ?_
  refine va_get (D := (dC, dI)) (ci := 4) (v := .ref xa40) (C := RX4) (T := TX4) (N := 3) hx hb hts hin4 hown hK hP 0 rfl rfl 1 (by decide) (hts (.fieldLink RX4 15 "PathProber$Odds" "enough" "[I") (List.mem_of_getElem? (i := 2) (by decide +kernel))) (fun _ h9 => h9) rfl dX4_enoughFor_28 ?_
  refine lv_iload_n hx hb dX4_enoughFor_31 rfl (lv_at hl 0 rfl) ?_
  refine lv_iconst (v := 1) hx hb dX4_enoughFor_32 (by decide) ?_
  refine lv_isub hx hb dX4_enoughFor_33 ?_
  refine lv_topi (fun z1 e2 => ?_)
  obtain rfl : z1 = (0 : Int32) := e2.trans (by decide)
  refine lv_aload_n hx hb dX4_enoughFor_34 rfl (lv_at hl 1 rfl) ?_
  refine lv_iload_n hx hb dX4_enoughFor_35 rfl (lv_at hl 0 rfl) ?_
  refine lv_iconst (v := 1) hx hb dX4_enoughFor_36 (by decide) ?_
  refine lv_iadd hx hb dX4_enoughFor_37 ?_
  refine lv_topi (fun z3 e4 => ?_)
  obtain rfl : z3 = (2 : Int32) := e4.trans (by decide)
  refine lv_iload_n hx hb dX4_enoughFor_38 rfl (lv_at hl 3 rfl) ?_
  refine lv_i2l (v := 5) hx hb dX4_enoughFor_39 (by decide) ?_
  refine lv_ldc2 hx hb hown (hts (.constantLong RX4 32 (10000000000)) (List.mem_of_getElem? (i := 3) (by decide +kernel))) dX4_enoughFor_40 ?_
  refine lv_lmul hx hb dX4_enoughFor_43 ?_
  refine lv_topl (fun z5 e6 => ?_)
  obtain rfl : z5 = (50000000000 : Int64) := e6.trans (by decide)
  have hPc := hP.sub (ws' := [(xa38, .inr (4, [.ref xa39, .ref xa40, .int 0])), (xa39, .inl (kJ, 23, .inr (.inl (fun _ => 0))))]) [0, 1] rfl
  have hDc := hD.sub (ws' := [(xa38, .inr (4, [.ref xa39, .ref xa40, .int 0])), (xa39, .inl (kJ, 23, .inr (.inl (fun _ => 0))))]) [0, 1] (by decide) rfl
  have hFc := va_free (wc := [(xa38, .inr (4, [.ref xa39, .ref xa40, .int 0])), (xa39, .inl (kJ, 23, .inr (.inl (fun _ => 0))))]) hD hS hA [0, 1] rfl
  refine va_calli (va_runV (As := [.int 2, .long 50000000000]) (rest := [.int 0, .ref xa40]) ⟨hx, hb, hml, hown, hts⟩ (k4_leastFor_2 l dC dI kB kI kJ kZ kC kS s.heap.size xa38 xa39 xa40 (fun _ => 0)) (cwV 2 hts gX4_enoughFor_X4_leastFor rfl rfl rfl (by decide +kernel) ⟨Nat.le_of_ble_eq_true rfl, Nat.le_of_ble_eq_true rfl⟩) ⟨fun a U g mk q => by obtain ⟨q0, q1, qP, qE, qD⟩ := q; exact ⟨q0, q1, qP, kE_call qE, qD⟩, va_recv hK hP (ci := 4) (q0 := 0) rfl rfl, fun U hU hW => ⟨rfl, by rw [hU], by rw [hU]; exact hPc, kE_warm hW hE, hDc.weaken (fun _ _ _ _ => trivial)⟩⟩ rfl rfl hl.1 rfl (lv_room (Nat.le_of_ble_eq_true rfl)) dX4_enoughFor_44 ⟨Nat.le_of_ble_eq_true rfl, Nat.le_of_ble_eq_true rfl⟩) hS (fun q _ h => hFc q h) hFc (fun r7 u t H1 locs ht hvm w8 hB hz1 hk1 hS => ?_)
  obtain ⟨g_9, hP1, hD1⟩ := hB
  rw [ht] at hP1
  try dsimp only at w8
  obtain ⟨hP, hD⟩ := va_join (wr := [(xa40, .inl (kI, 4, .inl (fun _ => 0)))]) (w1 := [(xa38, .inr (4, [.ref xa39, .ref xa40, .int 0])), (xa39, .inl (kJ, 23, .inr (.inl g_9)))]) hP hD [0, 1] [2] rfl rfl (by decide) (by decide) hk1 hFc hP1 hD1
  generalize H1 = H at hP hS ⊢
  have hP : va_P (dC, dI) vwCl [(xa40, .inl (kI, 4, .inl (fun _ => 0))), (xa38, .inr (4, [.ref xa39, .ref xa40, .int 0])), (xa39, .inl (kJ, 23, .inr (.inl g_9)))] H := hP
  have hD : va_D A [(xa40, .inl (kI, 4, .inl (fun _ => 0))), (xa38, .inr (4, [.ref xa39, .ref xa40, .int 0])), (xa39, .inl (kJ, 23, .inr (.inl g_9)))] := hD
  refine W.widen (k := 0) (n := 0) (Nat.le_of_ble_eq_true rfl) (Nat.le_of_ble_eq_true rfl) ?_
  subst w8
  refine va_iast hx hb hK hP hD hS 0 1 rfl rfl (vp_in_nI (n := 0) (by decide) (by decide)) dX4_enoughFor_47 (fun H locs hP hD hS => ?_)
  have hP : va_P (dC, dI) vwCl [(xa40, .inl (kI, 4, .inl (upd (fun _ => 0) 0 6))), (xa38, .inr (4, [.ref xa39, .ref xa40, .int 0])), (xa39, .inl (kJ, 23, .inr (.inl g_9)))] H := hP
  have hD : va_D A [(xa40, .inl (kI, 4, .inl (upd (fun _ => 0) 0 6))), (xa38, .inr (4, [.ref xa39, .ref xa40, .int 0])), (xa39, .inl (kJ, 23, .inr (.inl g_9)))] := hD
  refine lv_iinc (v := 2) (lv' := [(3, .int 2), (0, .ref xa38), (1, .int 4), (2, .int 5)]) hx hb dX4_enoughFor_48 hl (k := 0) rfl (by decide) (by decide) rfl (fun ls hl => ?_)
  refine lv_goto (tgt := 22) hx hb dX4_enoughFor_51 (by decide) ?_
  refine lv_iload_n hx hb dX4_enoughFor_22 rfl (lv_at hl 0 rfl) ?_
  refine lv_iconst (v := 4) hx hb dX4_enoughFor_23 (by decide) ?_
  refine lv_icmp_gt (tgt := 54) hx hb dX4_enoughFor_24 (by decide) (fun c9 => absurd c9 (by decide)) (fun _ => ?_)
  refine lv_aload_n hx hb dX4_enoughFor_27 rfl (lv_at hl 1 rfl) ?_
  refine va_get (D := (dC, dI)) (ci := 4) (v := .ref xa40) (C := RX4) (T := TX4) (N := 3) hx hb hts hin4 hown hK hP 1 rfl rfl 1 (by decide) (hts (.fieldLink RX4 15 "PathProber$Odds" "enough" "[I") (List.mem_of_getElem? (i := 2) (by decide +kernel))) (fun _ h9 => h9) rfl dX4_enoughFor_28 ?_
  refine lv_iload_n hx hb dX4_enoughFor_31 rfl (lv_at hl 0 rfl) ?_
  refine lv_iconst (v := 1) hx hb dX4_enoughFor_32 (by decide) ?_
  refine lv_isub hx hb dX4_enoughFor_33 ?_
  refine lv_topi (fun z10 e11 => ?_)
  obtain rfl : z10 = (1 : Int32) := e11.trans (by decide)
  refine lv_aload_n hx hb dX4_enoughFor_34 rfl (lv_at hl 1 rfl) ?_
  refine lv_iload_n hx hb dX4_enoughFor_35 rfl (lv_at hl 0 rfl) ?_
  refine lv_iconst (v := 1) hx hb dX4_enoughFor_36 (by decide) ?_
  refine lv_iadd hx hb dX4_enoughFor_37 ?_
  refine lv_topi (fun z12 e13 => ?_)
  obtain rfl : z12 = (3 : Int32) := e13.trans (by decide)
  refine lv_iload_n hx hb dX4_enoughFor_38 rfl (lv_at hl 3 rfl) ?_
  refine lv_i2l (v := 5) hx hb dX4_enoughFor_39 (by decide) ?_
  refine lv_ldc2 hx hb hown (hts (.constantLong RX4 32 (10000000000)) (List.mem_of_getElem? (i := 3) (by decide +kernel))) dX4_enoughFor_40 ?_
  refine lv_lmul hx hb dX4_enoughFor_43 ?_
  refine lv_topl (fun z14 e15 => ?_)
  obtain rfl : z14 = (50000000000 : Int64) := e15.trans (by decide)
  have hPc := hP.sub (ws' := [(xa38, .inr (4, [.ref xa39, .ref xa40, .int 0])), (xa39, .inl (kJ, 23, .inr (.inl g_9)))]) [1, 2] rfl
  have hDc := hD.sub (ws' := [(xa38, .inr (4, [.ref xa39, .ref xa40, .int 0])), (xa39, .inl (kJ, 23, .inr (.inl g_9)))]) [1, 2] (by decide) rfl
  have hFc := va_free (wc := [(xa38, .inr (4, [.ref xa39, .ref xa40, .int 0])), (xa39, .inl (kJ, 23, .inr (.inl g_9)))]) hD hS hA [1, 2] rfl
  refine va_calli (va_runV (As := [.int 3, .long 50000000000]) (rest := [.int 1, .ref xa40]) ⟨hx, hb, hml, hown, hts⟩ (k4_leastFor_3 l dC dI kB kI kJ kZ kC kS H.size xa38 xa39 xa40 g_9) (cwV 2 hts gX4_enoughFor_X4_leastFor rfl rfl rfl (by decide +kernel) ⟨Nat.le_of_ble_eq_true rfl, Nat.le_of_ble_eq_true rfl⟩) ⟨fun a U g mk q => by obtain ⟨q0, q1, qP, qE, qD⟩ := q; exact ⟨q0, q1, qP, kE_call qE, qD⟩, va_recv hK hP (ci := 4) (q0 := 1) rfl rfl, fun U hU hW => ⟨rfl, by rw [hU], by rw [hU]; exact hPc, kE_warm hW hE, hDc.weaken (fun _ _ _ _ => trivial)⟩⟩ rfl rfl hl.1 rfl (lv_room (Nat.le_of_ble_eq_true rfl)) dX4_enoughFor_44 ⟨Nat.le_of_ble_eq_true rfl, Nat.le_of_ble_eq_true rfl⟩) hS (fun q _ h => hFc q h) hFc (fun r16 u t H1 locs ht hvm w17 hB hz1 hk1 hS => ?_)
  obtain ⟨g_18, hP1, hD1⟩ := hB
  rw [ht] at hP1
  try dsimp only at w17
  obtain ⟨hP, hD⟩ := va_join (wr := [(xa40, .inl (kI, 4, .inl (upd (fun _ => 0) 0 6)))]) (w1 := [(xa38, .inr (4, [.ref xa39, .ref xa40, .int 0])), (xa39, .inl (kJ, 23, .inr (.inl g_18)))]) hP hD [1, 2] [0] rfl rfl (by decide) (by decide) hk1 hFc hP1 hD1
  generalize H1 = H at hP hS ⊢
  have hP : va_P (dC, dI) vwCl [(xa40, .inl (kI, 4, .inl (upd (fun _ => 0) 0 6))), (xa38, .inr (4, [.ref xa39, .ref xa40, .int 0])), (xa39, .inl (kJ, 23, .inr (.inl g_18)))] H := hP
  have hD : va_D A [(xa40, .inl (kI, 4, .inl (upd (fun _ => 0) 0 6))), (xa38, .inr (4, [.ref xa39, .ref xa40, .int 0])), (xa39, .inl (kJ, 23, .inr (.inl g_18)))] := hD
  refine W.widen (k := 0) (n := 0) (Nat.le_of_ble_eq_true rfl) (Nat.le_of_ble_eq_true rfl) ?_
  subst w17
  refine va_iast hx hb hK hP hD hS 0 1 rfl rfl (vp_in_nI (n := 1) (by decide) (by decide)) dX4_enoughFor_47 (fun H locs hP hD hS => ?_)
  have hP : va_P (dC, dI) vwCl [(xa40, .inl (kI, 4, .inl (upd (upd (fun _ => 0) 0 6) 1 11))), (xa38, .inr (4, [.ref xa39, .ref xa40, .int 0])), (xa39, .inl (kJ, 23, .inr (.inl g_18)))] H := hP
  have hD : va_D A [(xa40, .inl (kI, 4, .inl (upd (upd (fun _ => 0) 0 6) 1 11))), (xa38, .inr (4, [.ref xa39, .ref xa40, .int 0])), (xa39, .inl (kJ, 23, .inr (.inl g_18)))] := hD
  refine lv_iinc (v := 3) (lv' := [(3, .int 3), (0, .ref xa38), (1, .int 4), (2, .int 5)]) hx hb dX4_enoughFor_48 hl (k := 0) rfl (by decide) (by decide) rfl (fun ls hl => ?_)
  refine lv_goto (tgt := 22) hx hb dX4_enoughFor_51 (by decide) ?_
  refine lv_iload_n hx hb dX4_enoughFor_22 rfl (lv_at hl 0 rfl) ?_
  refine lv_iconst (v := 4) hx hb dX4_enoughFor_23 (by decide) ?_
  refine lv_icmp_gt (tgt := 54) hx hb dX4_enoughFor_24 (by decide) (fun c9 => absurd c9 (by decide)) (fun _ => ?_)
  refine lv_aload_n hx hb dX4_enoughFor_27 rfl (lv_at hl 1 rfl) ?_
  refine va_get (D := (dC, dI)) (ci := 4) (v := .ref xa40) (C := RX4) (T := TX4) (N := 3) hx hb hts hin4 hown hK hP 1 rfl rfl 1 (by decide) (hts (.fieldLink RX4 15 "PathProber$Odds" "enough" "[I") (List.mem_of_getElem? (i := 2) (by decide +kernel))) (fun _ h9 => h9) rfl dX4_enoughFor_28 ?_
  refine lv_iload_n hx hb dX4_enoughFor_31 rfl (lv_at hl 0 rfl) ?_
  refine lv_iconst (v := 1) hx hb dX4_enoughFor_32 (by decide) ?_
  refine lv_isub hx hb dX4_enoughFor_33 ?_
  refine lv_topi (fun z19 e20 => ?_)
  obtain rfl : z19 = (2 : Int32) := e20.trans (by decide)
  refine lv_aload_n hx hb dX4_enoughFor_34 rfl (lv_at hl 1 rfl) ?_
  refine lv_iload_n hx hb dX4_enoughFor_35 rfl (lv_at hl 0 rfl) ?_
  refine lv_iconst (v := 1) hx hb dX4_enoughFor_36 (by decide) ?_
  refine lv_iadd hx hb dX4_enoughFor_37 ?_
  refine lv_topi (fun z21 e22 => ?_)
  obtain rfl : z21 = (4 : Int32) := e22.trans (by decide)
  refine lv_iload_n hx hb dX4_enoughFor_38 rfl (lv_at hl 3 rfl) ?_
  refine lv_i2l (v := 5) hx hb dX4_enoughFor_39 (by decide) ?_
  refine lv_ldc2 hx hb hown (hts (.constantLong RX4 32 (10000000000)) (List.mem_of_getElem? (i := 3) (by decide +kernel))) dX4_enoughFor_40 ?_
  refine lv_lmul hx hb dX4_enoughFor_43 ?_
  refine lv_topl (fun z23 e24 => ?_)
  obtain rfl : z23 = (50000000000 : Int64) := e24.trans (by decide)
  have hPc := hP.sub (ws' := [(xa38, .inr (4, [.ref xa39, .ref xa40, .int 0])), (xa39, .inl (kJ, 23, .inr (.inl g_18)))]) [1, 2] rfl
  have hDc := hD.sub (ws' := [(xa38, .inr (4, [.ref xa39, .ref xa40, .int 0])), (xa39, .inl (kJ, 23, .inr (.inl g_18)))]) [1, 2] (by decide) rfl
  have hFc := va_free (wc := [(xa38, .inr (4, [.ref xa39, .ref xa40, .int 0])), (xa39, .inl (kJ, 23, .inr (.inl g_18)))]) hD hS hA [1, 2] rfl
  refine va_calli (va_runV (As := [.int 4, .long 50000000000]) (rest := [.int 2, .ref xa40]) ⟨hx, hb, hml, hown, hts⟩ (k4_leastFor_4 l dC dI kB kI kJ kZ kC kS H.size xa38 xa39 xa40 g_18) (cwV 2 hts gX4_enoughFor_X4_leastFor rfl rfl rfl (by decide +kernel) ⟨Nat.le_of_ble_eq_true rfl, Nat.le_of_ble_eq_true rfl⟩) ⟨fun a U g mk q => by obtain ⟨q0, q1, qP, qE, qD⟩ := q; exact ⟨q0, q1, qP, kE_call qE, qD⟩, va_recv hK hP (ci := 4) (q0 := 1) rfl rfl, fun U hU hW => ⟨rfl, by rw [hU], by rw [hU]; exact hPc, kE_warm hW hE, hDc.weaken (fun _ _ _ _ => trivial)⟩⟩ rfl rfl hl.1 rfl (lv_room (Nat.le_of_ble_eq_true rfl)) dX4_enoughFor_44 ⟨Nat.le_of_ble_eq_true rfl, Nat.le_of_ble_eq_true rfl⟩) hS (fun q _ h => hFc q h) hFc (fun r25 u t H1 locs ht hvm w26 hB hz1 hk1 hS => ?_)
  obtain ⟨g_27, hP1, hD1⟩ := hB
  rw [ht] at hP1
  try dsimp only at w26
  obtain ⟨hP, hD⟩ := va_join (wr := [(xa40, .inl (kI, 4, .inl (upd (upd (fun _ => 0) 0 6) 1 11)))]) (w1 := [(xa38, .inr (4, [.ref xa39, .ref xa40, .int 0])), (xa39, .inl (kJ, 23, .inr (.inl g_27)))]) hP hD [1, 2] [0] rfl rfl (by decide) (by decide) hk1 hFc hP1 hD1
  generalize H1 = H at hP hS ⊢
  have hP : va_P (dC, dI) vwCl [(xa40, .inl (kI, 4, .inl (upd (upd (fun _ => 0) 0 6) 1 11))), (xa38, .inr (4, [.ref xa39, .ref xa40, .int 0])), (xa39, .inl (kJ, 23, .inr (.inl g_27)))] H := hP
  have hD : va_D A [(xa40, .inl (kI, 4, .inl (upd (upd (fun _ => 0) 0 6) 1 11))), (xa38, .inr (4, [.ref xa39, .ref xa40, .int 0])), (xa39, .inl (kJ, 23, .inr (.inl g_27)))] := hD
  refine W.widen (k := 0) (n := 0) (Nat.le_of_ble_eq_true rfl) (Nat.le_of_ble_eq_true rfl) ?_
  subst w26
  refine va_iast hx hb hK hP hD hS 0 1 rfl rfl (vp_in_nI (n := 2) (by decide) (by decide)) dX4_enoughFor_47 (fun H locs hP hD hS => ?_)
  have hP : va_P (dC, dI) vwCl [(xa40, .inl (kI, 4, .inl (upd (upd (upd (fun _ => 0) 0 6) 1 11) 2 16))), (xa38, .inr (4, [.ref xa39, .ref xa40, .int 0])), (xa39, .inl (kJ, 23, .inr (.inl g_27)))] H := hP
  have hD : va_D A [(xa40, .inl (kI, 4, .inl (upd (upd (upd (fun _ => 0) 0 6) 1 11) 2 16))), (xa38, .inr (4, [.ref xa39, .ref xa40, .int 0])), (xa39, .inl (kJ, 23, .inr (.inl g_27)))] := hD
  refine lv_iinc (v := 4) (lv' := [(3, .int 4), (0, .ref xa38), (1, .int 4), (2, .int 5)]) hx hb dX4_enoughFor_48 hl (k := 0) rfl (by decide) (by decide) rfl (fun ls hl => ?_)
  refine lv_goto (tgt := 22) hx hb dX4_enoughFor_51 (by decide) ?_
  refine lv_iload_n hx hb dX4_enoughFor_22 rfl (lv_at hl 0 rfl) ?_
  refine lv_iconst (v := 4) hx hb dX4_enoughFor_23 (by decide) ?_
  refine lv_icmp_gt (tgt := 54) hx hb dX4_enoughFor_24 (by decide) (fun c9 => absurd c9 (by decide)) (fun _ => ?_)
  refine lv_aload_n hx hb dX4_enoughFor_27 rfl (lv_at hl 1 rfl) ?_
  refine va_get (D := (dC, dI)) (ci := 4) (v := .ref xa40) (C := RX4) (T := TX4) (N := 3) hx hb hts hin4 hown hK hP 1 rfl rfl 1 (by decide) (hts (.fieldLink RX4 15 "PathProber$Odds" "enough" "[I") (List.mem_of_getElem? (i := 2) (by decide +kernel))) (fun _ h9 => h9) rfl dX4_enoughFor_28 ?_
  refine lv_iload_n hx hb dX4_enoughFor_31 rfl (lv_at hl 0 rfl) ?_
  refine lv_iconst (v := 1) hx hb dX4_enoughFor_32 (by decide) ?_
  refine lv_isub hx hb dX4_enoughFor_33 ?_
  refine lv_topi (fun z28 e29 => ?_)
  obtain rfl : z28 = (3 : Int32) := e29.trans (by decide)
  refine lv_aload_n hx hb dX4_enoughFor_34 rfl (lv_at hl 1 rfl) ?_
  refine lv_iload_n hx hb dX4_enoughFor_35 rfl (lv_at hl 0 rfl) ?_
  refine lv_iconst (v := 1) hx hb dX4_enoughFor_36 (by decide) ?_
  refine lv_iadd hx hb dX4_enoughFor_37 ?_
  refine lv_topi (fun z30 e31 => ?_)
  obtain rfl : z30 = (5 : Int32) := e31.trans (by decide)
  refine lv_iload_n hx hb dX4_enoughFor_38 rfl (lv_at hl 3 rfl) ?_
  refine lv_i2l (v := 5) hx hb dX4_enoughFor_39 (by decide) ?_
  refine lv_ldc2 hx hb hown (hts (.constantLong RX4 32 (10000000000)) (List.mem_of_getElem? (i := 3) (by decide +kernel))) dX4_enoughFor_40 ?_
  refine lv_lmul hx hb dX4_enoughFor_43 ?_
  refine lv_topl (fun z32 e33 => ?_)
  obtain rfl : z32 = (50000000000 : Int64) := e33.trans (by decide)
  have hPc := hP.sub (ws' := [(xa38, .inr (4, [.ref xa39, .ref xa40, .int 0])), (xa39, .inl (kJ, 23, .inr (.inl g_27)))]) [1, 2] rfl
  have hDc := hD.sub (ws' := [(xa38, .inr (4, [.ref xa39, .ref xa40, .int 0])), (xa39, .inl (kJ, 23, .inr (.inl g_27)))]) [1, 2] (by decide) rfl
  have hFc := va_free (wc := [(xa38, .inr (4, [.ref xa39, .ref xa40, .int 0])), (xa39, .inl (kJ, 23, .inr (.inl g_27)))]) hD hS hA [1, 2] rfl
  refine va_calli (va_runV (As := [.int 5, .long 50000000000]) (rest := [.int 3, .ref xa40]) ⟨hx, hb, hml, hown, hts⟩ (k4_leastFor_5 l dC dI kB kI kJ kZ kC kS H.size xa38 xa39 xa40 g_27) (cwV 2 hts gX4_enoughFor_X4_leastFor rfl rfl rfl (by decide +kernel) ⟨Nat.le_of_ble_eq_true rfl, Nat.le_of_ble_eq_true rfl⟩) ⟨fun a U g mk q => by obtain ⟨q0, q1, qP, qE, qD⟩ := q; exact ⟨q0, q1, qP, kE_call qE, qD⟩, va_recv hK hP (ci := 4) (q0 := 1) rfl rfl, fun U hU hW => ⟨rfl, by rw [hU], by rw [hU]; exact hPc, kE_warm hW hE, hDc.weaken (fun _ _ _ _ => trivial)⟩⟩ rfl rfl hl.1 rfl (lv_room (Nat.le_of_ble_eq_true rfl)) dX4_enoughFor_44 ⟨Nat.le_of_ble_eq_true rfl, Nat.le_of_ble_eq_true rfl⟩) hS (fun q _ h => hFc q h) hFc (fun r34 u t H1 locs ht hvm w35 hB hz1 hk1 hS => ?_)
  obtain ⟨g_36, hP1, hD1⟩ := hB
  rw [ht] at hP1
  try dsimp only at w35
  obtain ⟨hP, hD⟩ := va_join (wr := [(xa40, .inl (kI, 4, .inl (upd (upd (upd (fun _ => 0) 0 6) 1 11) 2 16)))]) (w1 := [(xa38, .inr (4, [.ref xa39, .ref xa40, .int 0])), (xa39, .inl (kJ, 23, .inr (.inl g_36)))]) hP hD [1, 2] [0] rfl rfl (by decide) (by decide) hk1 hFc hP1 hD1
  generalize H1 = H at hP hS ⊢
  have hP : va_P (dC, dI) vwCl [(xa40, .inl (kI, 4, .inl (upd (upd (upd (fun _ => 0) 0 6) 1 11) 2 16))), (xa38, .inr (4, [.ref xa39, .ref xa40, .int 0])), (xa39, .inl (kJ, 23, .inr (.inl g_36)))] H := hP
  have hD : va_D A [(xa40, .inl (kI, 4, .inl (upd (upd (upd (fun _ => 0) 0 6) 1 11) 2 16))), (xa38, .inr (4, [.ref xa39, .ref xa40, .int 0])), (xa39, .inl (kJ, 23, .inr (.inl g_36)))] := hD
  refine W.widen (k := 0) (n := 0) (Nat.le_of_ble_eq_true rfl) (Nat.le_of_ble_eq_true rfl) ?_
  subst w35
  refine va_iast hx hb hK hP hD hS 0 1 rfl rfl (vp_in_nI (n := 3) (by decide) (by decide)) dX4_enoughFor_47 (fun H locs hP hD hS => ?_)
  have hP : va_P (dC, dI) vwCl [(xa40, .inl (kI, 4, .inl (upd (upd (upd (upd (fun _ => 0) 0 6) 1 11) 2 16) 3 21))), (xa38, .inr (4, [.ref xa39, .ref xa40, .int 0])), (xa39, .inl (kJ, 23, .inr (.inl g_36)))] H := hP
  have hD : va_D A [(xa40, .inl (kI, 4, .inl (upd (upd (upd (upd (fun _ => 0) 0 6) 1 11) 2 16) 3 21))), (xa38, .inr (4, [.ref xa39, .ref xa40, .int 0])), (xa39, .inl (kJ, 23, .inr (.inl g_36)))] := hD
  refine lv_iinc (v := 5) (lv' := [(3, .int 5), (0, .ref xa38), (1, .int 4), (2, .int 5)]) hx hb dX4_enoughFor_48 hl (k := 0) rfl (by decide) (by decide) rfl (fun ls hl => ?_)
  refine lv_goto (tgt := 22) hx hb dX4_enoughFor_51 (by decide) ?_
  refine lv_iload_n hx hb dX4_enoughFor_22 rfl (lv_at hl 0 rfl) ?_
  refine lv_iconst (v := 4) hx hb dX4_enoughFor_23 (by decide) ?_
  refine lv_icmp_gt (tgt := 54) hx hb dX4_enoughFor_24 (by decide) (fun _ => ?_) (fun c9 => absurd (by decide) c9)
  refine lv_aload_n hx hb dX4_enoughFor_54 rfl (lv_at hl 1 rfl) ?_
  refine lv_iload_n hx hb dX4_enoughFor_55 rfl (lv_at hl 3 rfl) ?_
  refine va_put (D := (dC, dI)) (ci := 4) (v := .int 5) (ty := .int) (C := RX4) (T := TX4) (N := 3) hx hb hts hin4 tyX4 tyX4_ok nmX4 hown hK hP hD hS 1 rfl rfl 2 (by decide) (hts (.fieldLink RX4 19 "PathProber$Odds" "lossOfEnough" "I") (List.mem_of_getElem? (i := 1) (by decide +kernel))) (fun _ h9 => h9) rfl (by decide +kernel) rfl rfl (Nat.le_of_ble_eq_true rfl) dX4_enoughFor_56 (fun H locs hP hD hS => ?_)
  have hP : va_P (dC, dI) vwCl [(xa40, .inl (kI, 4, .inl (upd (upd (upd (upd (fun _ => 0) 0 6) 1 11) 2 16) 3 21))), (xa38, .inr (4, [.ref xa39, .ref xa40, .int 5])), (xa39, .inl (kJ, 23, .inr (.inl g_36)))] H := hP
  have hD : va_D A [(xa40, .inl (kI, 4, .inl (upd (upd (upd (upd (fun _ => 0) 0 6) 1 11) 2 16) 3 21))), (xa38, .inr (4, [.ref xa39, .ref xa40, .int 5])), (xa39, .inl (kJ, 23, .inr (.inl g_36)))] := hD
  refine lv_aload_n hx hb dX4_enoughFor_59 rfl (lv_at hl 1 rfl) ?_
  refine va_get (D := (dC, dI)) (ci := 4) (v := .ref xa40) (C := RX4) (T := TX4) (N := 3) hx hb hts hin4 hown hK hP 1 rfl rfl 1 (by decide) (hts (.fieldLink RX4 15 "PathProber$Odds" "enough" "[I") (List.mem_of_getElem? (i := 2) (by decide +kernel))) (fun _ h9 => h9) rfl dX4_enoughFor_60 ?_
  refine lv_iload_n hx hb dX4_enoughFor_63 rfl (lv_at hl 2 rfl) ?_
  refine lv_iconst (v := 1) hx hb dX4_enoughFor_64 (by decide) ?_
  refine lv_isub hx hb dX4_enoughFor_65 ?_
  refine lv_topi (fun z37 e38 => ?_)
  obtain rfl : z37 = (3 : Int32) := e38.trans (by decide)
  refine va_iald hx hb hK hP 0 1 rfl rfl (vp_in_nI (n := 3) (by decide) (by decide)) dX4_enoughFor_66 ?_
  refine lv_topi (fun z39 e40 => ?_)
  obtain rfl : z39 = (21 : Int32) := e40.trans (by decide)
  have hP9 := hP.sub (ws' := []) [] rfl
  have hD9 := hD.sub (ws' := []) [] (by decide) rfl
  exact W.iret (v := 21) hx hb hr (fun t ht hW => ⟨⟨21, (), rfl, rfl, by rw [ht]; exact hP9, hD9⟩, hS.F ht⟩) hS.2.2 dX4_enoughFor_67
