def rm_e11_missingOf_4 : Room := { frames := 0, cells := 0, slots := 0, locals := 0 }
set_option maxHeartbeats 4000000 in
set_option maxRecDepth 100000 in
theorem e11_missingOf_4 (l : Launch) (dC : Nat → ClassId) (dI : Nat → Nat → Nat) (kB kI kJ kZ kC kS : ClassId) (sz : Nat) (m0 : Nat) (ra : Nat → Nat) (x0 : Nat → Int32) (k : Nat) (f1 : Nat → Int64) (hk : k ≤ 60) : Met l yX11_missingOf wsX11_missingOf rm_e11_missingOf_4 (va_Pc [.ref m0, .int (nI k), .int 4] (fun U => U.heap.size = sz ∧ va_P (dC, dI) vwCl [(m0, .inr (11, oX11 ra x0)), (ra 15, .inl (kJ, 24, .inr (.inl f1)))] U.heap ∧ kE dC dI kB kI kJ kZ kC kS U ∧ va_D (fun _ => True) [(m0, .inr (11, oX11 ra x0)), (ra 15, .inl (kJ, 24, .inr (.inl f1)))])) (va_Ql (fun (r : Int64) (_ : Unit) => r = 1000000000000 - kv4 k 4) (fun _ t => ∃ (g1 : Nat → Int64), va_P (dC, dI) vwCl [(m0, .inr (11, oX11 ra x0)), (ra 15, .inl (kJ, 24, .inr (.inl g1)))] t.heap ∧ va_D (va_A [(m0, .inr (11, oX11 ra x0)), (ra 15, .inl (kJ, 24, .inr (.inl f1)))] sz) [(m0, .inr (11, oX11 ra x0)), (ra 15, .inl (kJ, 24, .inr (.inl g1)))]) (va_A [(m0, .inr (11, oX11 ra x0)), (ra 15, .inl (kJ, 24, .inr (.inl f1)))] sz)) 0 0 (va_A [(m0, .inr (11, oX11 ra x0)), (ra 15, .inl (kJ, 24, .inr (.inl f1)))] sz) := by
  refine Met.ofW (cc := cX11_missingOf) (maxL := 7) (ret := (some .long)) (by decide) rfl ?_
  intro p e s m args0 below meth c s₁ B hml hv
  obtain ⟨hargs, hsz, hP, hE, hD0⟩ := hv
  have hx := B.exec
  have hb := B.bytes
  have hr := B.returns
  have hts := atoms_spec (ws := wsX11_missingOf) B.pre
  have hown : s.vm.findClass RX11 = some m.cls := findClass_of_methodNamed B.named
  have hlocks := B.notSynchronized
  have hK := hE.1
  have hin11 : ∀ w ∈ wsX110, w ∈ wsX11_missingOf := fun _ h9 => List.mem_cons_of_mem _ (List.mem_append_right _ h9)
  subst hsz
  have hD := hD0.self (sz := s.heap.size)
  generalize hAe : va_A [(m0, .inr (11, oX11 ra x0)), (ra 15, .inl (kJ, 24, .inr (.inl f1)))] s.heap.size = A at hD ⊢
  have hA : ∀ q : Nat, s.heap.size ≤ q → A q := fun q h => by rw [← hAe]; exact Or.inr h
  have hS : va_S A s.heap s.heap [] := va_S.rf
  have hP : va_P (dC, dI) vwCl [(m0, .inr (11, oX11 ra x0)), (ra 15, .inl (kJ, 24, .inr (.inl f1)))] s.heap := hP
  have hl := lv_entry ([.ref m0, .int (nI k), .int 4]) (n := 7) (Nat.le_of_ble_eq_true rfl)
  have hla : entryFrame m args0 7 = entryFrame m ([.ref m0, .int (nI k), .int 4] : List Value).toArray 7 := by rw [hargs]
  rw [hla, lg_entry_eq]
  generalize (lg_sl ([.ref m0, .int (nI k), .int 4]) ++ List.replicate (7 - (lg_sl ([.ref m0, .int (nI k), .int 4])).length) Slot.unset).toArray = ls at hl ⊢
  have hl : lv_has ls 7 [(0, .ref m0), (1, .int (nI k)), (2, .int 4)] := hl
  refine lv_iconst (v := 0) hx hb dX11_missingOf_0 (by decide) ?_
  refine lv_istore_n (lv' := [(3, .int 0), (0, .ref m0), (1, .int (nI k)), (2, .int 4)]) hx hb dX11_missingOf_1 rfl hl (by decide) rfl (fun ls hl => ?_)
  refine lv_iload_n hx hb dX11_missingOf_2 rfl (lv_at hl 0 rfl) ?_
  refine lv_iload_n hx hb dX11_missingOf_3 rfl (lv_at hl 3 rfl) ?_
  refine lv_icmp_gt (tgt := 30) hx hb dX11_missingOf_4 (by decide) (fun c9 => absurd c9 (by decide)) (fun _ => ?_)
  refine lv_aload_n hx hb dX11_missingOf_7 rfl (lv_at hl 1 rfl) ?_
  refine va_get (D := (dC, dI)) (ci := 11) (v := .ref (ra 15)) (C := RX11) (T := TX11) (N := 61) hx hb hts hin11 hown hK hP 0 rfl rfl 32 (by decide) (hts (.fieldLink RX11 79 "PathProberModel" "met" "[J") (List.mem_of_getElem? (i := 1) (by decide +kernel))) (fun _ h9 => h9) rfl dX11_missingOf_8 ?_
  refine lv_iload_n hx hb dX11_missingOf_11 rfl (lv_at hl 0 rfl) ?_
  refine lv_iload_n hx hb dX11_missingOf_12 rfl (lv_at hl 0 rfl) ?_
  refine lv_if_ne (tgt := 22) hx hb dX11_missingOf_13 (by decide) (fun c9 => absurd (by decide) c9) (fun _ => ?_)
  refine lv_ldc2 hx hb hown (hts (.constantLong RX11 320 (1000000000000)) (List.mem_of_getElem? (i := 2) (by decide +kernel))) dX11_missingOf_16 ?_
  refine lv_goto (tgt := 23) hx hb dX11_missingOf_19 (by decide) ?_
  refine va_last hx hb hK hP hD hS 1 2 rfl rfl (vp_in_nI (n := 0) (by decide) (by decide)) dX11_missingOf_23 (fun H locs hP hD hS => ?_)
  have hP : va_P (dC, dI) vwCl [(m0, .inr (11, oX11 ra x0)), (ra 15, .inl (kJ, 24, .inr (.inl (vp_updL f1 0 1000000000000))))] H := hP
  have hD : va_D A [(m0, .inr (11, oX11 ra x0)), (ra 15, .inl (kJ, 24, .inr (.inl (vp_updL f1 0 1000000000000))))] := hD
  refine lv_iinc (v := 1) (lv' := [(3, .int 1), (0, .ref m0), (1, .int (nI k)), (2, .int 4)]) hx hb dX11_missingOf_24 hl (k := 0) rfl (by decide) (by decide) rfl (fun ls hl => ?_)
  refine lv_goto (tgt := 2) hx hb dX11_missingOf_27 (by decide) ?_
  refine lv_iload_n hx hb dX11_missingOf_2 rfl (lv_at hl 0 rfl) ?_
  refine lv_iload_n hx hb dX11_missingOf_3 rfl (lv_at hl 3 rfl) ?_
  refine lv_icmp_gt (tgt := 30) hx hb dX11_missingOf_4 (by decide) (fun c9 => absurd c9 (by decide)) (fun _ => ?_)
  refine lv_aload_n hx hb dX11_missingOf_7 rfl (lv_at hl 1 rfl) ?_
  refine va_get (D := (dC, dI)) (ci := 11) (v := .ref (ra 15)) (C := RX11) (T := TX11) (N := 61) hx hb hts hin11 hown hK hP 0 rfl rfl 32 (by decide) (hts (.fieldLink RX11 79 "PathProberModel" "met" "[J") (List.mem_of_getElem? (i := 1) (by decide +kernel))) (fun _ h9 => h9) rfl dX11_missingOf_8 ?_
  refine lv_iload_n hx hb dX11_missingOf_11 rfl (lv_at hl 0 rfl) ?_
  refine lv_iload_n hx hb dX11_missingOf_12 rfl (lv_at hl 0 rfl) ?_
  refine lv_if_ne (tgt := 22) hx hb dX11_missingOf_13 (by decide) (fun _ => ?_) (fun c9 => absurd c9 (by decide))
  refine lv_lconst (v := 0) hx hb dX11_missingOf_22 (by decide) ?_
  refine va_last hx hb hK hP hD hS 1 2 rfl rfl (vp_in_nI (n := 1) (by decide) (by decide)) dX11_missingOf_23 (fun H locs hP hD hS => ?_)
  have hP : va_P (dC, dI) vwCl [(m0, .inr (11, oX11 ra x0)), (ra 15, .inl (kJ, 24, .inr (.inl (vp_updL (vp_updL f1 0 1000000000000) 1 0))))] H := hP
  have hD : va_D A [(m0, .inr (11, oX11 ra x0)), (ra 15, .inl (kJ, 24, .inr (.inl (vp_updL (vp_updL f1 0 1000000000000) 1 0))))] := hD
  refine lv_iinc (v := 2) (lv' := [(3, .int 2), (0, .ref m0), (1, .int (nI k)), (2, .int 4)]) hx hb dX11_missingOf_24 hl (k := 0) rfl (by decide) (by decide) rfl (fun ls hl => ?_)
  refine lv_goto (tgt := 2) hx hb dX11_missingOf_27 (by decide) ?_
  refine lv_iload_n hx hb dX11_missingOf_2 rfl (lv_at hl 0 rfl) ?_
  refine lv_iload_n hx hb dX11_missingOf_3 rfl (lv_at hl 3 rfl) ?_
  refine lv_icmp_gt (tgt := 30) hx hb dX11_missingOf_4 (by decide) (fun c9 => absurd c9 (by decide)) (fun _ => ?_)
  refine lv_aload_n hx hb dX11_missingOf_7 rfl (lv_at hl 1 rfl) ?_
  refine va_get (D := (dC, dI)) (ci := 11) (v := .ref (ra 15)) (C := RX11) (T := TX11) (N := 61) hx hb hts hin11 hown hK hP 0 rfl rfl 32 (by decide) (hts (.fieldLink RX11 79 "PathProberModel" "met" "[J") (List.mem_of_getElem? (i := 1) (by decide +kernel))) (fun _ h9 => h9) rfl dX11_missingOf_8 ?_
  refine lv_iload_n hx hb dX11_missingOf_11 rfl (lv_at hl 0 rfl) ?_
  refine lv_iload_n hx hb dX11_missingOf_12 rfl (lv_at hl 0 rfl) ?_
  refine lv_if_ne (tgt := 22) hx hb dX11_missingOf_13 (by decide) (fun _ => ?_) (fun c9 => absurd c9 (by decide))
  refine lv_lconst (v := 0) hx hb dX11_missingOf_22 (by decide) ?_
  refine va_last hx hb hK hP hD hS 1 2 rfl rfl (vp_in_nI (n := 2) (by decide) (by decide)) dX11_missingOf_23 (fun H locs hP hD hS => ?_)
  have hP : va_P (dC, dI) vwCl [(m0, .inr (11, oX11 ra x0)), (ra 15, .inl (kJ, 24, .inr (.inl (vp_updL (vp_updL (vp_updL f1 0 1000000000000) 1 0) 2 0))))] H := hP
  have hD : va_D A [(m0, .inr (11, oX11 ra x0)), (ra 15, .inl (kJ, 24, .inr (.inl (vp_updL (vp_updL (vp_updL f1 0 1000000000000) 1 0) 2 0))))] := hD
  refine lv_iinc (v := 3) (lv' := [(3, .int 3), (0, .ref m0), (1, .int (nI k)), (2, .int 4)]) hx hb dX11_missingOf_24 hl (k := 0) rfl (by decide) (by decide) rfl (fun ls hl => ?_)
  refine lv_goto (tgt := 2) hx hb dX11_missingOf_27 (by decide) ?_
  refine lv_iload_n hx hb dX11_missingOf_2 rfl (lv_at hl 0 rfl) ?_
  refine lv_iload_n hx hb dX11_missingOf_3 rfl (lv_at hl 3 rfl) ?_
  refine lv_icmp_gt (tgt := 30) hx hb dX11_missingOf_4 (by decide) (fun c9 => absurd c9 (by decide)) (fun _ => ?_)
  refine lv_aload_n hx hb dX11_missingOf_7 rfl (lv_at hl 1 rfl) ?_
  refine va_get (D := (dC, dI)) (ci := 11) (v := .ref (ra 15)) (C := RX11) (T := TX11) (N := 61) hx hb hts hin11 hown hK hP 0 rfl rfl 32 (by decide) (hts (.fieldLink RX11 79 "PathProberModel" "met" "[J") (List.mem_of_getElem? (i := 1) (by decide +kernel))) (fun _ h9 => h9) rfl dX11_missingOf_8 ?_
  refine lv_iload_n hx hb dX11_missingOf_11 rfl (lv_at hl 0 rfl) ?_
  refine lv_iload_n hx hb dX11_missingOf_12 rfl (lv_at hl 0 rfl) ?_
  refine lv_if_ne (tgt := 22) hx hb dX11_missingOf_13 (by decide) (fun _ => ?_) (fun c9 => absurd c9 (by decide))
  refine lv_lconst (v := 0) hx hb dX11_missingOf_22 (by decide) ?_
  refine va_last hx hb hK hP hD hS 1 2 rfl rfl (vp_in_nI (n := 3) (by decide) (by decide)) dX11_missingOf_23 (fun H locs hP hD hS => ?_)
  have hP : va_P (dC, dI) vwCl [(m0, .inr (11, oX11 ra x0)), (ra 15, .inl (kJ, 24, .inr (.inl (vp_updL (vp_updL (vp_updL (vp_updL f1 0 1000000000000) 1 0) 2 0) 3 0))))] H := hP
  have hD : va_D A [(m0, .inr (11, oX11 ra x0)), (ra 15, .inl (kJ, 24, .inr (.inl (vp_updL (vp_updL (vp_updL (vp_updL f1 0 1000000000000) 1 0) 2 0) 3 0))))] := hD
  refine lv_iinc (v := 4) (lv' := [(3, .int 4), (0, .ref m0), (1, .int (nI k)), (2, .int 4)]) hx hb dX11_missingOf_24 hl (k := 0) rfl (by decide) (by decide) rfl (fun ls hl => ?_)
  refine lv_goto (tgt := 2) hx hb dX11_missingOf_27 (by decide) ?_
  refine lv_iload_n hx hb dX11_missingOf_2 rfl (lv_at hl 0 rfl) ?_
  refine lv_iload_n hx hb dX11_missingOf_3 rfl (lv_at hl 3 rfl) ?_
  refine lv_icmp_gt (tgt := 30) hx hb dX11_missingOf_4 (by decide) (fun c9 => absurd c9 (by decide)) (fun _ => ?_)
  refine lv_aload_n hx hb dX11_missingOf_7 rfl (lv_at hl 1 rfl) ?_
  refine va_get (D := (dC, dI)) (ci := 11) (v := .ref (ra 15)) (C := RX11) (T := TX11) (N := 61) hx hb hts hin11 hown hK hP 0 rfl rfl 32 (by decide) (hts (.fieldLink RX11 79 "PathProberModel" "met" "[J") (List.mem_of_getElem? (i := 1) (by decide +kernel))) (fun _ h9 => h9) rfl dX11_missingOf_8 ?_
  refine lv_iload_n hx hb dX11_missingOf_11 rfl (lv_at hl 0 rfl) ?_
  refine lv_iload_n hx hb dX11_missingOf_12 rfl (lv_at hl 0 rfl) ?_
  refine lv_if_ne (tgt := 22) hx hb dX11_missingOf_13 (by decide) (fun _ => ?_) (fun c9 => absurd c9 (by decide))
  refine lv_lconst (v := 0) hx hb dX11_missingOf_22 (by decide) ?_
  refine va_last hx hb hK hP hD hS 1 2 rfl rfl (vp_in_nI (n := 4) (by decide) (by decide)) dX11_missingOf_23 (fun H locs hP hD hS => ?_)
  have hP : va_P (dC, dI) vwCl [(m0, .inr (11, oX11 ra x0)), (ra 15, .inl (kJ, 24, .inr (.inl (vp_updL (vp_updL (vp_updL (vp_updL (vp_updL f1 0 1000000000000) 1 0) 2 0) 3 0) 4 0))))] H := hP
  have hD : va_D A [(m0, .inr (11, oX11 ra x0)), (ra 15, .inl (kJ, 24, .inr (.inl (vp_updL (vp_updL (vp_updL (vp_updL (vp_updL f1 0 1000000000000) 1 0) 2 0) 3 0) 4 0))))] := hD
  refine lv_iinc (v := 5) (lv' := [(3, .int 5), (0, .ref m0), (1, .int (nI k)), (2, .int 4)]) hx hb dX11_missingOf_24 hl (k := 0) rfl (by decide) (by decide) rfl (fun ls hl => ?_)
  refine lv_goto (tgt := 2) hx hb dX11_missingOf_27 (by decide) ?_
  refine lv_iload_n hx hb dX11_missingOf_2 rfl (lv_at hl 0 rfl) ?_
  refine lv_iload_n hx hb dX11_missingOf_3 rfl (lv_at hl 3 rfl) ?_
  refine lv_icmp_gt (tgt := 30) hx hb dX11_missingOf_4 (by decide) (fun _ => ?_) (fun c9 => absurd (by decide) c9)
  refine lv_iconst (v := 0) hx hb dX11_missingOf_30 (by decide) ?_
  refine lv_istore_n (lv' := [(3, .int 0), (0, .ref m0), (1, .int (nI k)), (2, .int 4)]) hx hb dX11_missingOf_31 rfl hl (by decide) rfl (fun ls hl => ?_)
  have hloop32 : ∀ (n : Nat) (i : Nat) (fa : Nat → Int64) (H : Heap) (locs : List Loc) (ls : Array Slot), i + n = k → fa 0 = kv4 i 0 → fa 1 = kv4 i 1 → fa 2 = kv4 i 2 → fa 3 = kv4 i 3 → fa 4 = kv4 i 4 → va_P (dC, dI) vwCl [(m0, .inr (11, oX11 ra x0)), (ra 15, .inl (kJ, 24, .inr (.inl fa)))] H → va_D A [(m0, .inr (11, oX11 ra x0)), (ra 15, .inl (kJ, 24, .inr (.inl fa)))] → va_S A s.heap H locs → lv_has ls 7 [(3, .int (nI i)), (0, .ref m0), (1, .int (nI k)), (2, .int 4)] → W p l e (headSpec wsX11_missingOf rm_e11_missingOf_4).room s m args0 below meth c H locs 0 0 (MQ below (va_Ql (fun (r : Int64) (_ : Unit) => r = 1000000000000 - kv4 k 4) (fun _ t => ∃ (g1 : Nat → Int64), va_P (dC, dI) vwCl [(m0, .inr (11, oX11 ra x0)), (ra 15, .inl (kJ, 24, .inr (.inl g1)))] t.heap ∧ va_D A [(m0, .inr (11, oX11 ra x0)), (ra 15, .inl (kJ, 24, .inr (.inl g1)))]) A) args0 s 0 0 A) (F0 m 32 ls []) := by
    intro n
    induction n with
    | zero =>
      intro i fa H locs ls hi hf0 hf1 hf2 hf3 hf4 hP hD hS hl
      refine lv_iload_n hx hb dX11_missingOf_32 rfl (lv_at hl 0 rfl) ?_
      refine lv_iload_n hx hb dX11_missingOf_33 rfl (lv_at hl 2 rfl) ?_
      refine lv_icmp_ge (tgt := 106) hx hb dX11_missingOf_34 (by decide) (fun _ => ?_) (fun c9 => absurd (nI_le (by omega) (by omega)) c9)
      refine lv_ldc2 hx hb hown (hts (.constantLong RX11 320 (1000000000000)) (List.mem_of_getElem? (i := 2) (by decide +kernel))) dX11_missingOf_106 ?_
      refine lv_aload_n hx hb dX11_missingOf_109 rfl (lv_at hl 1 rfl) ?_
      refine va_get (D := (dC, dI)) (ci := 11) (v := .ref (ra 15)) (C := RX11) (T := TX11) (N := 61) hx hb hts hin11 hown hK hP 0 rfl rfl 32 (by decide) (hts (.fieldLink RX11 79 "PathProberModel" "met" "[J") (List.mem_of_getElem? (i := 1) (by decide +kernel))) (fun _ h9 => h9) rfl dX11_missingOf_110 ?_
      refine lv_iload_n hx hb dX11_missingOf_113 rfl (lv_at hl 3 rfl) ?_
      refine va_lald hx hb hK hP 1 2 rfl rfl (vp_in_nI (n := 4) (by decide) (by decide)) dX11_missingOf_114 ?_
      refine lv_topl (fun z1 e2 => ?_)
      obtain rfl : z1 = (fa 4 : Int64) := e2
      refine lv_lsub hx hb dX11_missingOf_115 ?_
      have hP9 := hP.sub (ws' := [(m0, .inr (11, oX11 ra x0)), (ra 15, .inl (kJ, 24, .inr (.inl fa)))]) [0, 1] rfl
      have hD9 := hD.sub (ws' := [(m0, .inr (11, oX11 ra x0)), (ra 15, .inl (kJ, 24, .inr (.inl fa)))]) [0, 1] (by decide) rfl
      exact W.lret (v := 1000000000000 - (fa 4)) hx hb hr (fun t ht hW => ⟨⟨1000000000000 - (fa 4), (), rfl, by have h9 : i = k := (by omega); subst h9; rw [hf4], fa, by rw [ht]; exact hP9, hD9⟩, hS.F ht⟩) hS.2.2 dX11_missingOf_116
    | succ n ih =>
      intro i fa H locs ls hi hf0 hf1 hf2 hf3 hf4 hP hD hS hl
      refine lv_iload_n hx hb dX11_missingOf_32 rfl (lv_at hl 0 rfl) ?_
      refine lv_iload_n hx hb dX11_missingOf_33 rfl (lv_at hl 2 rfl) ?_
      refine lv_icmp_ge (tgt := 106) hx hb dX11_missingOf_34 (by decide) (fun c9 => absurd c9 (nI_ge (by omega) (by omega))) (fun _ => ?_)
      refine lv_iload_n hx hb dX11_missingOf_37 rfl (lv_at hl 3 rfl) ?_
      refine lv_iconst (v := 1) hx hb dX11_missingOf_38 (by decide) ?_
      refine lv_isub hx hb dX11_missingOf_39 ?_
      refine lv_topi (fun z3 e4 => ?_)
      obtain rfl : z3 = (3 : Int32) := e4.trans (by decide)
      refine lv_istore (lv' := [(4, .int 3), (3, .int (nI i)), (0, .ref m0), (1, .int (nI k)), (2, .int 4)]) hx hb dX11_missingOf_40 hl (by decide) rfl (fun ls hl => ?_)
      refine lv_iload hx hb dX11_missingOf_42 (lv_at hl 0 rfl) ?_
      refine lv_if_lt (tgt := 100) hx hb dX11_missingOf_44 (by decide) (fun c9 => absurd c9 (by decide)) (fun _ => ?_)
      refine lv_aload_n hx hb dX11_missingOf_47 rfl (lv_at hl 2 rfl) ?_
      refine va_get (D := (dC, dI)) (ci := 11) (v := .ref (ra 15)) (C := RX11) (T := TX11) (N := 61) hx hb hts hin11 hown hK hP 0 rfl rfl 32 (by decide) (hts (.fieldLink RX11 79 "PathProberModel" "met" "[J") (List.mem_of_getElem? (i := 1) (by decide +kernel))) (fun _ h9 => h9) rfl dX11_missingOf_48 ?_
      refine lv_iload hx hb dX11_missingOf_51 (lv_at hl 0 rfl) ?_
      refine va_lald hx hb hK hP 1 2 rfl rfl (vp_in_nI (n := 3) (by decide) (by decide)) dX11_missingOf_53 ?_
      refine lv_topl (fun z5 e6 => ?_)
      obtain rfl : z5 = (fa 3 : Int64) := e6
      refine lv_iload hx hb dX11_missingOf_54 (lv_at hl 0 rfl) ?_
      refine lv_i2l (v := 3) hx hb dX11_missingOf_56 (by decide) ?_
      refine lv_lmul hx hb dX11_missingOf_57 ?_
      refine lv_iload_n hx hb dX11_missingOf_58 rfl (lv_at hl 4 rfl) ?_
      refine lv_i2l (v := 4) hx hb dX11_missingOf_59 (by decide) ?_
      refine lv_ldiv hx hb dX11_missingOf_60 (by decide) ?_
      refine lv_lstore (lv' := [(5, .long (((fa 3) * 3) / 4)), (4, .int 3), (3, .int (nI i)), (0, .ref m0), (1, .int (nI k)), (2, .int 4)]) hx hb dX11_missingOf_61 hl (by decide) rfl (fun ls hl => ?_)
      refine lv_aload_n hx hb dX11_missingOf_63 rfl (lv_at hl 3 rfl) ?_
      refine va_get (D := (dC, dI)) (ci := 11) (v := .ref (ra 15)) (C := RX11) (T := TX11) (N := 61) hx hb hts hin11 hown hK hP 0 rfl rfl 32 (by decide) (hts (.fieldLink RX11 79 "PathProberModel" "met" "[J") (List.mem_of_getElem? (i := 1) (by decide +kernel))) (fun _ h9 => h9) rfl dX11_missingOf_64 ?_
      refine lv_iload hx hb dX11_missingOf_67 (lv_at hl 1 rfl) ?_
      refine lv_iconst (v := 1) hx hb dX11_missingOf_69 (by decide) ?_
      refine lv_iadd hx hb dX11_missingOf_70 ?_
      refine lv_topi (fun z7 e8 => ?_)
      obtain rfl : z7 = (4 : Int32) := e8.trans (by decide)
      refine lv_dup2_11 hx hb dX11_missingOf_71 rfl rfl ?_
      refine va_lald hx hb hK hP 1 2 rfl rfl (vp_in_nI (n := 4) (by decide) (by decide)) dX11_missingOf_72 ?_
      refine lv_topl (fun z9 e10 => ?_)
      obtain rfl : z9 = (fa 4 : Int64) := e10
      refine lv_aload_n hx hb dX11_missingOf_73 rfl (lv_at hl 3 rfl) ?_
      refine va_get (D := (dC, dI)) (ci := 11) (v := .ref (ra 15)) (C := RX11) (T := TX11) (N := 61) hx hb hts hin11 hown hK hP 0 rfl rfl 32 (by decide) (hts (.fieldLink RX11 79 "PathProberModel" "met" "[J") (List.mem_of_getElem? (i := 1) (by decide +kernel))) (fun _ h9 => h9) rfl dX11_missingOf_74 ?_
      refine lv_iload hx hb dX11_missingOf_77 (lv_at hl 1 rfl) ?_
      refine va_lald hx hb hK hP 1 2 rfl rfl (vp_in_nI (n := 3) (by decide) (by decide)) dX11_missingOf_79 ?_
      refine lv_topl (fun z11 e12 => ?_)
      obtain rfl : z11 = (fa 3 : Int64) := e12
      refine lv_lload hx hb dX11_missingOf_80 (lv_at hl 0 rfl) ?_
      refine lv_lsub hx hb dX11_missingOf_82 ?_
      refine lv_ladd hx hb dX11_missingOf_83 ?_
      refine va_last hx hb hK hP hD hS 1 2 rfl rfl (vp_in_nI (n := 4) (by decide) (by decide)) dX11_missingOf_84 (fun H locs hP hD hS => ?_)
      have hP : va_P (dC, dI) vwCl [(m0, .inr (11, oX11 ra x0)), (ra 15, .inl (kJ, 24, .inr (.inl (vp_updL fa 4 ((fa 4) + ((fa 3) - (((fa 3) * 3) / 4)))))))] H := hP
      have hD : va_D A [(m0, .inr (11, oX11 ra x0)), (ra 15, .inl (kJ, 24, .inr (.inl (vp_updL fa 4 ((fa 4) + ((fa 3) - (((fa 3) * 3) / 4)))))))] := hD
      refine lv_aload_n hx hb dX11_missingOf_85 rfl (lv_at hl 3 rfl) ?_
      refine va_get (D := (dC, dI)) (ci := 11) (v := .ref (ra 15)) (C := RX11) (T := TX11) (N := 61) hx hb hts hin11 hown hK hP 0 rfl rfl 32 (by decide) (hts (.fieldLink RX11 79 "PathProberModel" "met" "[J") (List.mem_of_getElem? (i := 1) (by decide +kernel))) (fun _ h9 => h9) rfl dX11_missingOf_86 ?_
      refine lv_iload hx hb dX11_missingOf_89 (lv_at hl 1 rfl) ?_
      refine lv_lload hx hb dX11_missingOf_91 (lv_at hl 0 rfl) ?_
      refine va_last hx hb hK hP hD hS 1 2 rfl rfl (vp_in_nI (n := 3) (by decide) (by decide)) dX11_missingOf_93 (fun H locs hP hD hS => ?_)
      have hP : va_P (dC, dI) vwCl [(m0, .inr (11, oX11 ra x0)), (ra 15, .inl (kJ, 24, .inr (.inl (vp_updL (vp_updL fa 4 ((fa 4) + ((fa 3) - (((fa 3) * 3) / 4)))) 3 (((fa 3) * 3) / 4)))))] H := hP
      have hD : va_D A [(m0, .inr (11, oX11 ra x0)), (ra 15, .inl (kJ, 24, .inr (.inl (vp_updL (vp_updL fa 4 ((fa 4) + ((fa 3) - (((fa 3) * 3) / 4)))) 3 (((fa 3) * 3) / 4)))))] := hD
      refine lv_iinc (v := 2) (lv' := [(4, .int 2), (5, .long (((fa 3) * 3) / 4)), (3, .int (nI i)), (0, .ref m0), (1, .int (nI k)), (2, .int 4)]) hx hb dX11_missingOf_94 hl (k := 1) rfl (by decide) (by decide) rfl (fun ls hl => ?_)
      refine lv_goto (tgt := 42) hx hb dX11_missingOf_97 (by decide) ?_
      refine lv_iload hx hb dX11_missingOf_42 (lv_at hl 0 rfl) ?_
      refine lv_if_lt (tgt := 100) hx hb dX11_missingOf_44 (by decide) (fun c9 => absurd c9 (by decide)) (fun _ => ?_)
      refine lv_aload_n hx hb dX11_missingOf_47 rfl (lv_at hl 3 rfl) ?_
      refine va_get (D := (dC, dI)) (ci := 11) (v := .ref (ra 15)) (C := RX11) (T := TX11) (N := 61) hx hb hts hin11 hown hK hP 0 rfl rfl 32 (by decide) (hts (.fieldLink RX11 79 "PathProberModel" "met" "[J") (List.mem_of_getElem? (i := 1) (by decide +kernel))) (fun _ h9 => h9) rfl dX11_missingOf_48 ?_
      refine lv_iload hx hb dX11_missingOf_51 (lv_at hl 0 rfl) ?_
      refine va_lald hx hb hK hP 1 2 rfl rfl (vp_in_nI (n := 2) (by decide) (by decide)) dX11_missingOf_53 ?_
      refine lv_topl (fun z13 e14 => ?_)
      obtain rfl : z13 = (fa 2 : Int64) := e14
      refine lv_iload hx hb dX11_missingOf_54 (lv_at hl 0 rfl) ?_
      refine lv_i2l (v := 2) hx hb dX11_missingOf_56 (by decide) ?_
      refine lv_lmul hx hb dX11_missingOf_57 ?_
      refine lv_iload_n hx hb dX11_missingOf_58 rfl (lv_at hl 5 rfl) ?_
      refine lv_i2l (v := 4) hx hb dX11_missingOf_59 (by decide) ?_
      refine lv_ldiv hx hb dX11_missingOf_60 (by decide) ?_
      refine lv_lstore (lv' := [(5, .long (((fa 2) * 2) / 4)), (4, .int 2), (3, .int (nI i)), (0, .ref m0), (1, .int (nI k)), (2, .int 4)]) hx hb dX11_missingOf_61 hl (by decide) rfl (fun ls hl => ?_)
      refine lv_aload_n hx hb dX11_missingOf_63 rfl (lv_at hl 3 rfl) ?_
      refine va_get (D := (dC, dI)) (ci := 11) (v := .ref (ra 15)) (C := RX11) (T := TX11) (N := 61) hx hb hts hin11 hown hK hP 0 rfl rfl 32 (by decide) (hts (.fieldLink RX11 79 "PathProberModel" "met" "[J") (List.mem_of_getElem? (i := 1) (by decide +kernel))) (fun _ h9 => h9) rfl dX11_missingOf_64 ?_
      refine lv_iload hx hb dX11_missingOf_67 (lv_at hl 1 rfl) ?_
      refine lv_iconst (v := 1) hx hb dX11_missingOf_69 (by decide) ?_
      refine lv_iadd hx hb dX11_missingOf_70 ?_
      refine lv_topi (fun z15 e16 => ?_)
      obtain rfl : z15 = (3 : Int32) := e16.trans (by decide)
      refine lv_dup2_11 hx hb dX11_missingOf_71 rfl rfl ?_
      refine va_lald hx hb hK hP 1 2 rfl rfl (vp_in_nI (n := 3) (by decide) (by decide)) dX11_missingOf_72 ?_
      refine lv_topl (fun z17 e18 => ?_)
      obtain rfl : z17 = (((fa 3) * 3) / 4 : Int64) := e18
      refine lv_aload_n hx hb dX11_missingOf_73 rfl (lv_at hl 3 rfl) ?_
      refine va_get (D := (dC, dI)) (ci := 11) (v := .ref (ra 15)) (C := RX11) (T := TX11) (N := 61) hx hb hts hin11 hown hK hP 0 rfl rfl 32 (by decide) (hts (.fieldLink RX11 79 "PathProberModel" "met" "[J") (List.mem_of_getElem? (i := 1) (by decide +kernel))) (fun _ h9 => h9) rfl dX11_missingOf_74 ?_
      refine lv_iload hx hb dX11_missingOf_77 (lv_at hl 1 rfl) ?_
      refine va_lald hx hb hK hP 1 2 rfl rfl (vp_in_nI (n := 2) (by decide) (by decide)) dX11_missingOf_79 ?_
      refine lv_topl (fun z19 e20 => ?_)
      obtain rfl : z19 = (fa 2 : Int64) := e20
      refine lv_lload hx hb dX11_missingOf_80 (lv_at hl 0 rfl) ?_
      refine lv_lsub hx hb dX11_missingOf_82 ?_
      refine lv_ladd hx hb dX11_missingOf_83 ?_
      refine va_last hx hb hK hP hD hS 1 2 rfl rfl (vp_in_nI (n := 3) (by decide) (by decide)) dX11_missingOf_84 (fun H locs hP hD hS => ?_)
      have hP : va_P (dC, dI) vwCl [(m0, .inr (11, oX11 ra x0)), (ra 15, .inl (kJ, 24, .inr (.inl (vp_updL (vp_updL (vp_updL fa 4 ((fa 4) + ((fa 3) - (((fa 3) * 3) / 4)))) 3 (((fa 3) * 3) / 4)) 3 ((((fa 3) * 3) / 4) + ((fa 2) - (((fa 2) * 2) / 4)))))))] H := hP
      have hD : va_D A [(m0, .inr (11, oX11 ra x0)), (ra 15, .inl (kJ, 24, .inr (.inl (vp_updL (vp_updL (vp_updL fa 4 ((fa 4) + ((fa 3) - (((fa 3) * 3) / 4)))) 3 (((fa 3) * 3) / 4)) 3 ((((fa 3) * 3) / 4) + ((fa 2) - (((fa 2) * 2) / 4)))))))] := hD
      refine lv_aload_n hx hb dX11_missingOf_85 rfl (lv_at hl 3 rfl) ?_
      refine va_get (D := (dC, dI)) (ci := 11) (v := .ref (ra 15)) (C := RX11) (T := TX11) (N := 61) hx hb hts hin11 hown hK hP 0 rfl rfl 32 (by decide) (hts (.fieldLink RX11 79 "PathProberModel" "met" "[J") (List.mem_of_getElem? (i := 1) (by decide +kernel))) (fun _ h9 => h9) rfl dX11_missingOf_86 ?_
      refine lv_iload hx hb dX11_missingOf_89 (lv_at hl 1 rfl) ?_
      refine lv_lload hx hb dX11_missingOf_91 (lv_at hl 0 rfl) ?_
      refine va_last hx hb hK hP hD hS 1 2 rfl rfl (vp_in_nI (n := 2) (by decide) (by decide)) dX11_missingOf_93 (fun H locs hP hD hS => ?_)
      have hP : va_P (dC, dI) vwCl [(m0, .inr (11, oX11 ra x0)), (ra 15, .inl (kJ, 24, .inr (.inl (vp_updL (vp_updL (vp_updL (vp_updL fa 4 ((fa 4) + ((fa 3) - (((fa 3) * 3) / 4)))) 3 (((fa 3) * 3) / 4)) 3 ((((fa 3) * 3) / 4) + ((fa 2) - (((fa 2) * 2) / 4)))) 2 (((fa 2) * 2) / 4)))))] H := hP
      have hD : va_D A [(m0, .inr (11, oX11 ra x0)), (ra 15, .inl (kJ, 24, .inr (.inl (vp_updL (vp_updL (vp_updL (vp_updL fa 4 ((fa 4) + ((fa 3) - (((fa 3) * 3) / 4)))) 3 (((fa 3) * 3) / 4)) 3 ((((fa 3) * 3) / 4) + ((fa 2) - (((fa 2) * 2) / 4)))) 2 (((fa 2) * 2) / 4)))))] := hD
      refine lv_iinc (v := 1) (lv' := [(4, .int 1), (5, .long (((fa 2) * 2) / 4)), (3, .int (nI i)), (0, .ref m0), (1, .int (nI k)), (2, .int 4)]) hx hb dX11_missingOf_94 hl (k := 1) rfl (by decide) (by decide) rfl (fun ls hl => ?_)
      refine lv_goto (tgt := 42) hx hb dX11_missingOf_97 (by decide) ?_
      refine lv_iload hx hb dX11_missingOf_42 (lv_at hl 0 rfl) ?_
      refine lv_if_lt (tgt := 100) hx hb dX11_missingOf_44 (by decide) (fun c9 => absurd c9 (by decide)) (fun _ => ?_)
      refine lv_aload_n hx hb dX11_missingOf_47 rfl (lv_at hl 3 rfl) ?_
      refine va_get (D := (dC, dI)) (ci := 11) (v := .ref (ra 15)) (C := RX11) (T := TX11) (N := 61) hx hb hts hin11 hown hK hP 0 rfl rfl 32 (by decide) (hts (.fieldLink RX11 79 "PathProberModel" "met" "[J") (List.mem_of_getElem? (i := 1) (by decide +kernel))) (fun _ h9 => h9) rfl dX11_missingOf_48 ?_
      refine lv_iload hx hb dX11_missingOf_51 (lv_at hl 0 rfl) ?_
      refine va_lald hx hb hK hP 1 2 rfl rfl (vp_in_nI (n := 1) (by decide) (by decide)) dX11_missingOf_53 ?_
      refine lv_topl (fun z21 e22 => ?_)
      obtain rfl : z21 = (fa 1 : Int64) := e22
      refine lv_iload hx hb dX11_missingOf_54 (lv_at hl 0 rfl) ?_
      refine lv_i2l (v := 1) hx hb dX11_missingOf_56 (by decide) ?_
      refine lv_lmul hx hb dX11_missingOf_57 ?_
      refine lv_iload_n hx hb dX11_missingOf_58 rfl (lv_at hl 5 rfl) ?_
      refine lv_i2l (v := 4) hx hb dX11_missingOf_59 (by decide) ?_
      refine lv_ldiv hx hb dX11_missingOf_60 (by decide) ?_
      refine lv_lstore (lv' := [(5, .long (((fa 1) * 1) / 4)), (4, .int 1), (3, .int (nI i)), (0, .ref m0), (1, .int (nI k)), (2, .int 4)]) hx hb dX11_missingOf_61 hl (by decide) rfl (fun ls hl => ?_)
      refine lv_aload_n hx hb dX11_missingOf_63 rfl (lv_at hl 3 rfl) ?_
      refine va_get (D := (dC, dI)) (ci := 11) (v := .ref (ra 15)) (C := RX11) (T := TX11) (N := 61) hx hb hts hin11 hown hK hP 0 rfl rfl 32 (by decide) (hts (.fieldLink RX11 79 "PathProberModel" "met" "[J") (List.mem_of_getElem? (i := 1) (by decide +kernel))) (fun _ h9 => h9) rfl dX11_missingOf_64 ?_
      refine lv_iload hx hb dX11_missingOf_67 (lv_at hl 1 rfl) ?_
      refine lv_iconst (v := 1) hx hb dX11_missingOf_69 (by decide) ?_
      refine lv_iadd hx hb dX11_missingOf_70 ?_
      refine lv_topi (fun z23 e24 => ?_)
      obtain rfl : z23 = (2 : Int32) := e24.trans (by decide)
      refine lv_dup2_11 hx hb dX11_missingOf_71 rfl rfl ?_
      refine va_lald hx hb hK hP 1 2 rfl rfl (vp_in_nI (n := 2) (by decide) (by decide)) dX11_missingOf_72 ?_
      refine lv_topl (fun z25 e26 => ?_)
      obtain rfl : z25 = (((fa 2) * 2) / 4 : Int64) := e26
      refine lv_aload_n hx hb dX11_missingOf_73 rfl (lv_at hl 3 rfl) ?_
      refine va_get (D := (dC, dI)) (ci := 11) (v := .ref (ra 15)) (C := RX11) (T := TX11) (N := 61) hx hb hts hin11 hown hK hP 0 rfl rfl 32 (by decide) (hts (.fieldLink RX11 79 "PathProberModel" "met" "[J") (List.mem_of_getElem? (i := 1) (by decide +kernel))) (fun _ h9 => h9) rfl dX11_missingOf_74 ?_
      refine lv_iload hx hb dX11_missingOf_77 (lv_at hl 1 rfl) ?_
      refine va_lald hx hb hK hP 1 2 rfl rfl (vp_in_nI (n := 1) (by decide) (by decide)) dX11_missingOf_79 ?_
      refine lv_topl (fun z27 e28 => ?_)
      obtain rfl : z27 = (fa 1 : Int64) := e28
      refine lv_lload hx hb dX11_missingOf_80 (lv_at hl 0 rfl) ?_
      refine lv_lsub hx hb dX11_missingOf_82 ?_
      refine lv_ladd hx hb dX11_missingOf_83 ?_
      refine va_last hx hb hK hP hD hS 1 2 rfl rfl (vp_in_nI (n := 2) (by decide) (by decide)) dX11_missingOf_84 (fun H locs hP hD hS => ?_)
      have hP : va_P (dC, dI) vwCl [(m0, .inr (11, oX11 ra x0)), (ra 15, .inl (kJ, 24, .inr (.inl (vp_updL (vp_updL (vp_updL (vp_updL (vp_updL fa 4 ((fa 4) + ((fa 3) - (((fa 3) * 3) / 4)))) 3 (((fa 3) * 3) / 4)) 3 ((((fa 3) * 3) / 4) + ((fa 2) - (((fa 2) * 2) / 4)))) 2 (((fa 2) * 2) / 4)) 2 ((((fa 2) * 2) / 4) + ((fa 1) - (((fa 1) * 1) / 4)))))))] H := hP
      have hD : va_D A [(m0, .inr (11, oX11 ra x0)), (ra 15, .inl (kJ, 24, .inr (.inl (vp_updL (vp_updL (vp_updL (vp_updL (vp_updL fa 4 ((fa 4) + ((fa 3) - (((fa 3) * 3) / 4)))) 3 (((fa 3) * 3) / 4)) 3 ((((fa 3) * 3) / 4) + ((fa 2) - (((fa 2) * 2) / 4)))) 2 (((fa 2) * 2) / 4)) 2 ((((fa 2) * 2) / 4) + ((fa 1) - (((fa 1) * 1) / 4)))))))] := hD
      refine lv_aload_n hx hb dX11_missingOf_85 rfl (lv_at hl 3 rfl) ?_
      refine va_get (D := (dC, dI)) (ci := 11) (v := .ref (ra 15)) (C := RX11) (T := TX11) (N := 61) hx hb hts hin11 hown hK hP 0 rfl rfl 32 (by decide) (hts (.fieldLink RX11 79 "PathProberModel" "met" "[J") (List.mem_of_getElem? (i := 1) (by decide +kernel))) (fun _ h9 => h9) rfl dX11_missingOf_86 ?_
      refine lv_iload hx hb dX11_missingOf_89 (lv_at hl 1 rfl) ?_
      refine lv_lload hx hb dX11_missingOf_91 (lv_at hl 0 rfl) ?_
      refine va_last hx hb hK hP hD hS 1 2 rfl rfl (vp_in_nI (n := 1) (by decide) (by decide)) dX11_missingOf_93 (fun H locs hP hD hS => ?_)
      have hP : va_P (dC, dI) vwCl [(m0, .inr (11, oX11 ra x0)), (ra 15, .inl (kJ, 24, .inr (.inl (vp_updL (vp_updL (vp_updL (vp_updL (vp_updL (vp_updL fa 4 ((fa 4) + ((fa 3) - (((fa 3) * 3) / 4)))) 3 (((fa 3) * 3) / 4)) 3 ((((fa 3) * 3) / 4) + ((fa 2) - (((fa 2) * 2) / 4)))) 2 (((fa 2) * 2) / 4)) 2 ((((fa 2) * 2) / 4) + ((fa 1) - (((fa 1) * 1) / 4)))) 1 (((fa 1) * 1) / 4)))))] H := hP
      have hD : va_D A [(m0, .inr (11, oX11 ra x0)), (ra 15, .inl (kJ, 24, .inr (.inl (vp_updL (vp_updL (vp_updL (vp_updL (vp_updL (vp_updL fa 4 ((fa 4) + ((fa 3) - (((fa 3) * 3) / 4)))) 3 (((fa 3) * 3) / 4)) 3 ((((fa 3) * 3) / 4) + ((fa 2) - (((fa 2) * 2) / 4)))) 2 (((fa 2) * 2) / 4)) 2 ((((fa 2) * 2) / 4) + ((fa 1) - (((fa 1) * 1) / 4)))) 1 (((fa 1) * 1) / 4)))))] := hD
      refine lv_iinc (v := 0) (lv' := [(4, .int 0), (5, .long (((fa 1) * 1) / 4)), (3, .int (nI i)), (0, .ref m0), (1, .int (nI k)), (2, .int 4)]) hx hb dX11_missingOf_94 hl (k := 1) rfl (by decide) (by decide) rfl (fun ls hl => ?_)
      refine lv_goto (tgt := 42) hx hb dX11_missingOf_97 (by decide) ?_
      refine lv_iload hx hb dX11_missingOf_42 (lv_at hl 0 rfl) ?_
      refine lv_if_lt (tgt := 100) hx hb dX11_missingOf_44 (by decide) (fun c9 => absurd c9 (by decide)) (fun _ => ?_)
      refine lv_aload_n hx hb dX11_missingOf_47 rfl (lv_at hl 3 rfl) ?_
      refine va_get (D := (dC, dI)) (ci := 11) (v := .ref (ra 15)) (C := RX11) (T := TX11) (N := 61) hx hb hts hin11 hown hK hP 0 rfl rfl 32 (by decide) (hts (.fieldLink RX11 79 "PathProberModel" "met" "[J") (List.mem_of_getElem? (i := 1) (by decide +kernel))) (fun _ h9 => h9) rfl dX11_missingOf_48 ?_
      refine lv_iload hx hb dX11_missingOf_51 (lv_at hl 0 rfl) ?_
      refine va_lald hx hb hK hP 1 2 rfl rfl (vp_in_nI (n := 0) (by decide) (by decide)) dX11_missingOf_53 ?_
      refine lv_topl (fun z29 e30 => ?_)
      obtain rfl : z29 = (fa 0 : Int64) := e30
      refine lv_iload hx hb dX11_missingOf_54 (lv_at hl 0 rfl) ?_
      refine lv_i2l (v := 0) hx hb dX11_missingOf_56 (by decide) ?_
      refine lv_lmul hx hb dX11_missingOf_57 ?_
      refine lv_iload_n hx hb dX11_missingOf_58 rfl (lv_at hl 5 rfl) ?_
      refine lv_i2l (v := 4) hx hb dX11_missingOf_59 (by decide) ?_
      refine lv_ldiv hx hb dX11_missingOf_60 (by decide) ?_
      refine lv_lstore (lv' := [(5, .long (((fa 0) * 0) / 4)), (4, .int 0), (3, .int (nI i)), (0, .ref m0), (1, .int (nI k)), (2, .int 4)]) hx hb dX11_missingOf_61 hl (by decide) rfl (fun ls hl => ?_)
      refine lv_aload_n hx hb dX11_missingOf_63 rfl (lv_at hl 3 rfl) ?_
      refine va_get (D := (dC, dI)) (ci := 11) (v := .ref (ra 15)) (C := RX11) (T := TX11) (N := 61) hx hb hts hin11 hown hK hP 0 rfl rfl 32 (by decide) (hts (.fieldLink RX11 79 "PathProberModel" "met" "[J") (List.mem_of_getElem? (i := 1) (by decide +kernel))) (fun _ h9 => h9) rfl dX11_missingOf_64 ?_
      refine lv_iload hx hb dX11_missingOf_67 (lv_at hl 1 rfl) ?_
      refine lv_iconst (v := 1) hx hb dX11_missingOf_69 (by decide) ?_
      refine lv_iadd hx hb dX11_missingOf_70 ?_
      refine lv_topi (fun z31 e32 => ?_)
      obtain rfl : z31 = (1 : Int32) := e32.trans (by decide)
      refine lv_dup2_11 hx hb dX11_missingOf_71 rfl rfl ?_
      refine va_lald hx hb hK hP 1 2 rfl rfl (vp_in_nI (n := 1) (by decide) (by decide)) dX11_missingOf_72 ?_
      refine lv_topl (fun z33 e34 => ?_)
      obtain rfl : z33 = (((fa 1) * 1) / 4 : Int64) := e34
      refine lv_aload_n hx hb dX11_missingOf_73 rfl (lv_at hl 3 rfl) ?_
      refine va_get (D := (dC, dI)) (ci := 11) (v := .ref (ra 15)) (C := RX11) (T := TX11) (N := 61) hx hb hts hin11 hown hK hP 0 rfl rfl 32 (by decide) (hts (.fieldLink RX11 79 "PathProberModel" "met" "[J") (List.mem_of_getElem? (i := 1) (by decide +kernel))) (fun _ h9 => h9) rfl dX11_missingOf_74 ?_
      refine lv_iload hx hb dX11_missingOf_77 (lv_at hl 1 rfl) ?_
      refine va_lald hx hb hK hP 1 2 rfl rfl (vp_in_nI (n := 0) (by decide) (by decide)) dX11_missingOf_79 ?_
      refine lv_topl (fun z35 e36 => ?_)
      obtain rfl : z35 = (fa 0 : Int64) := e36
      refine lv_lload hx hb dX11_missingOf_80 (lv_at hl 0 rfl) ?_
      refine lv_lsub hx hb dX11_missingOf_82 ?_
      refine lv_ladd hx hb dX11_missingOf_83 ?_
      refine va_last hx hb hK hP hD hS 1 2 rfl rfl (vp_in_nI (n := 1) (by decide) (by decide)) dX11_missingOf_84 (fun H locs hP hD hS => ?_)
      have hP : va_P (dC, dI) vwCl [(m0, .inr (11, oX11 ra x0)), (ra 15, .inl (kJ, 24, .inr (.inl (vp_updL (vp_updL (vp_updL (vp_updL (vp_updL (vp_updL (vp_updL fa 4 ((fa 4) + ((fa 3) - (((fa 3) * 3) / 4)))) 3 (((fa 3) * 3) / 4)) 3 ((((fa 3) * 3) / 4) + ((fa 2) - (((fa 2) * 2) / 4)))) 2 (((fa 2) * 2) / 4)) 2 ((((fa 2) * 2) / 4) + ((fa 1) - (((fa 1) * 1) / 4)))) 1 (((fa 1) * 1) / 4)) 1 ((((fa 1) * 1) / 4) + ((fa 0) - (((fa 0) * 0) / 4)))))))] H := hP
      have hD : va_D A [(m0, .inr (11, oX11 ra x0)), (ra 15, .inl (kJ, 24, .inr (.inl (vp_updL (vp_updL (vp_updL (vp_updL (vp_updL (vp_updL (vp_updL fa 4 ((fa 4) + ((fa 3) - (((fa 3) * 3) / 4)))) 3 (((fa 3) * 3) / 4)) 3 ((((fa 3) * 3) / 4) + ((fa 2) - (((fa 2) * 2) / 4)))) 2 (((fa 2) * 2) / 4)) 2 ((((fa 2) * 2) / 4) + ((fa 1) - (((fa 1) * 1) / 4)))) 1 (((fa 1) * 1) / 4)) 1 ((((fa 1) * 1) / 4) + ((fa 0) - (((fa 0) * 0) / 4)))))))] := hD
      refine lv_aload_n hx hb dX11_missingOf_85 rfl (lv_at hl 3 rfl) ?_
      refine va_get (D := (dC, dI)) (ci := 11) (v := .ref (ra 15)) (C := RX11) (T := TX11) (N := 61) hx hb hts hin11 hown hK hP 0 rfl rfl 32 (by decide) (hts (.fieldLink RX11 79 "PathProberModel" "met" "[J") (List.mem_of_getElem? (i := 1) (by decide +kernel))) (fun _ h9 => h9) rfl dX11_missingOf_86 ?_
      refine lv_iload hx hb dX11_missingOf_89 (lv_at hl 1 rfl) ?_
      refine lv_lload hx hb dX11_missingOf_91 (lv_at hl 0 rfl) ?_
      refine va_last hx hb hK hP hD hS 1 2 rfl rfl (vp_in_nI (n := 0) (by decide) (by decide)) dX11_missingOf_93 (fun H locs hP hD hS => ?_)
      have hP : va_P (dC, dI) vwCl [(m0, .inr (11, oX11 ra x0)), (ra 15, .inl (kJ, 24, .inr (.inl (vp_updL (vp_updL (vp_updL (vp_updL (vp_updL (vp_updL (vp_updL (vp_updL fa 4 ((fa 4) + ((fa 3) - (((fa 3) * 3) / 4)))) 3 (((fa 3) * 3) / 4)) 3 ((((fa 3) * 3) / 4) + ((fa 2) - (((fa 2) * 2) / 4)))) 2 (((fa 2) * 2) / 4)) 2 ((((fa 2) * 2) / 4) + ((fa 1) - (((fa 1) * 1) / 4)))) 1 (((fa 1) * 1) / 4)) 1 ((((fa 1) * 1) / 4) + ((fa 0) - (((fa 0) * 0) / 4)))) 0 (((fa 0) * 0) / 4)))))] H := hP
      have hD : va_D A [(m0, .inr (11, oX11 ra x0)), (ra 15, .inl (kJ, 24, .inr (.inl (vp_updL (vp_updL (vp_updL (vp_updL (vp_updL (vp_updL (vp_updL (vp_updL fa 4 ((fa 4) + ((fa 3) - (((fa 3) * 3) / 4)))) 3 (((fa 3) * 3) / 4)) 3 ((((fa 3) * 3) / 4) + ((fa 2) - (((fa 2) * 2) / 4)))) 2 (((fa 2) * 2) / 4)) 2 ((((fa 2) * 2) / 4) + ((fa 1) - (((fa 1) * 1) / 4)))) 1 (((fa 1) * 1) / 4)) 1 ((((fa 1) * 1) / 4) + ((fa 0) - (((fa 0) * 0) / 4)))) 0 (((fa 0) * 0) / 4)))))] := hD
      refine lv_iinc (v := (-1)) (lv' := [(4, .int (-1)), (5, .long (((fa 0) * 0) / 4)), (3, .int (nI i)), (0, .ref m0), (1, .int (nI k)), (2, .int 4)]) hx hb dX11_missingOf_94 hl (k := 1) rfl (by decide) (by decide) rfl (fun ls hl => ?_)
      refine lv_goto (tgt := 42) hx hb dX11_missingOf_97 (by decide) ?_
      refine lv_iload hx hb dX11_missingOf_42 (lv_at hl 0 rfl) ?_
      refine lv_if_lt (tgt := 100) hx hb dX11_missingOf_44 (by decide) (fun _ => ?_) (fun c9 => absurd (by decide) c9)
      refine lv_iinc (v := nI (i + 1)) (lv' := [(3, .int (nI (i + 1))), (4, .int (-1)), (5, .long (((fa 0) * 0) / 4)), (0, .ref m0), (1, .int (nI k)), (2, .int 4)]) hx hb dX11_missingOf_100 hl (k := 2) rfl (nI_1 i) (by decide) rfl (fun ls hl => ?_)
      refine lv_goto (tgt := 32) hx hb dX11_missingOf_103 (by decide) ?_
      exact ih (i + 1) (vp_updL (vp_updL (vp_updL (vp_updL (vp_updL (vp_updL (vp_updL (vp_updL fa 4 ((fa 4) + ((fa 3) - (((fa 3) * 3) / 4)))) 3 (((fa 3) * 3) / 4)) 3 ((((fa 3) * 3) / 4) + ((fa 2) - (((fa 2) * 2) / 4)))) 2 (((fa 2) * 2) / 4)) 2 ((((fa 2) * 2) / 4) + ((fa 1) - (((fa 1) * 1) / 4)))) 1 (((fa 1) * 1) / 4)) 1 ((((fa 1) * 1) / 4) + ((fa 0) - (((fa 0) * 0) / 4)))) 0 (((fa 0) * 0) / 4)) _ _ _ (by omega) (Eq.trans (show ((vp_updL (vp_updL (vp_updL (vp_updL (vp_updL (vp_updL (vp_updL (vp_updL fa 4 ((fa 4) + ((fa 3) - (((fa 3) * 3) / 4)))) 3 (((fa 3) * 3) / 4)) 3 ((((fa 3) * 3) / 4) + ((fa 2) - (((fa 2) * 2) / 4)))) 2 (((fa 2) * 2) / 4)) 2 ((((fa 2) * 2) / 4) + ((fa 1) - (((fa 1) * 1) / 4)))) 1 (((fa 1) * 1) / 4)) 1 ((((fa 1) * 1) / 4) + ((fa 0) - (((fa 0) * 0) / 4)))) 0 (((fa 0) * 0) / 4))) 0 = fa 0 * 0 / 4 from rfl) (by rw [hf0]; exact kvs4_0 i (by omega))) (Eq.trans (show ((vp_updL (vp_updL (vp_updL (vp_updL (vp_updL (vp_updL (vp_updL (vp_updL fa 4 ((fa 4) + ((fa 3) - (((fa 3) * 3) / 4)))) 3 (((fa 3) * 3) / 4)) 3 ((((fa 3) * 3) / 4) + ((fa 2) - (((fa 2) * 2) / 4)))) 2 (((fa 2) * 2) / 4)) 2 ((((fa 2) * 2) / 4) + ((fa 1) - (((fa 1) * 1) / 4)))) 1 (((fa 1) * 1) / 4)) 1 ((((fa 1) * 1) / 4) + ((fa 0) - (((fa 0) * 0) / 4)))) 0 (((fa 0) * 0) / 4))) 1 = fa 1 * 1 / 4 + (fa 0 - fa 0 * 0 / 4) from rfl) (by rw [hf0, hf1]; exact kvs4_1 i (by omega))) (Eq.trans (show ((vp_updL (vp_updL (vp_updL (vp_updL (vp_updL (vp_updL (vp_updL (vp_updL fa 4 ((fa 4) + ((fa 3) - (((fa 3) * 3) / 4)))) 3 (((fa 3) * 3) / 4)) 3 ((((fa 3) * 3) / 4) + ((fa 2) - (((fa 2) * 2) / 4)))) 2 (((fa 2) * 2) / 4)) 2 ((((fa 2) * 2) / 4) + ((fa 1) - (((fa 1) * 1) / 4)))) 1 (((fa 1) * 1) / 4)) 1 ((((fa 1) * 1) / 4) + ((fa 0) - (((fa 0) * 0) / 4)))) 0 (((fa 0) * 0) / 4))) 2 = fa 2 * 2 / 4 + (fa 1 - fa 1 * 1 / 4) from rfl) (by rw [hf1, hf2]; exact kvs4_2 i (by omega))) (Eq.trans (show ((vp_updL (vp_updL (vp_updL (vp_updL (vp_updL (vp_updL (vp_updL (vp_updL fa 4 ((fa 4) + ((fa 3) - (((fa 3) * 3) / 4)))) 3 (((fa 3) * 3) / 4)) 3 ((((fa 3) * 3) / 4) + ((fa 2) - (((fa 2) * 2) / 4)))) 2 (((fa 2) * 2) / 4)) 2 ((((fa 2) * 2) / 4) + ((fa 1) - (((fa 1) * 1) / 4)))) 1 (((fa 1) * 1) / 4)) 1 ((((fa 1) * 1) / 4) + ((fa 0) - (((fa 0) * 0) / 4)))) 0 (((fa 0) * 0) / 4))) 3 = fa 3 * 3 / 4 + (fa 2 - fa 2 * 2 / 4) from rfl) (by rw [hf2, hf3]; exact kvs4_3 i (by omega))) (Eq.trans (show ((vp_updL (vp_updL (vp_updL (vp_updL (vp_updL (vp_updL (vp_updL (vp_updL fa 4 ((fa 4) + ((fa 3) - (((fa 3) * 3) / 4)))) 3 (((fa 3) * 3) / 4)) 3 ((((fa 3) * 3) / 4) + ((fa 2) - (((fa 2) * 2) / 4)))) 2 (((fa 2) * 2) / 4)) 2 ((((fa 2) * 2) / 4) + ((fa 1) - (((fa 1) * 1) / 4)))) 1 (((fa 1) * 1) / 4)) 1 ((((fa 1) * 1) / 4) + ((fa 0) - (((fa 0) * 0) / 4)))) 0 (((fa 0) * 0) / 4))) 4 = fa 4 + (fa 3 - fa 3 * 3 / 4) from rfl) (by rw [hf3, hf4]; exact kvs4_4 i (by omega))) (hP.sub [0, 1] rfl) (hD.sub [0, 1] (by decide) rfl) hS (lv_sub hl [0, 3, 4, 5] rfl)
  exact hloop32 k 0 (vp_updL (vp_updL (vp_updL (vp_updL (vp_updL f1 0 1000000000000) 1 0) 2 0) 3 0) 4 0) _ _ _ (Nat.zero_add _) (rfl) (rfl) (rfl) (rfl) (rfl) hP hD hS (lv_sub hl [0, 1, 2, 3] rfl)
def rm_e11_missingOf_5 : Room := { frames := 0, cells := 0, slots := 0, locals := 0 }
set_option maxHeartbeats 4000000 in
set_option maxRecDepth 100000 in
theorem e11_missingOf_5 (l : Launch) (dC : Nat → ClassId) (dI : Nat → Nat → Nat) (kB kI kJ kZ kC kS : ClassId) (sz : Nat) (m0 : Nat) (ra : Nat → Nat) (x0 : Nat → Int32) (k : Nat) (f1 : Nat → Int64) (hk : k ≤ 60) : Met l yX11_missingOf wsX11_missingOf rm_e11_missingOf_5 (va_Pc [.ref m0, .int (nI k), .int 5] (fun U => U.heap.size = sz ∧ va_P (dC, dI) vwCl [(m0, .inr (11, oX11 ra x0)), (ra 15, .inl (kJ, 24, .inr (.inl f1)))] U.heap ∧ kE dC dI kB kI kJ kZ kC kS U ∧ va_D (fun _ => True) [(m0, .inr (11, oX11 ra x0)), (ra 15, .inl (kJ, 24, .inr (.inl f1)))])) (va_Ql (fun (r : Int64) (_ : Unit) => r = 1000000000000 - kv5 k 5) (fun _ t => ∃ (g1 : Nat → Int64), va_P (dC, dI) vwCl [(m0, .inr (11, oX11 ra x0)), (ra 15, .inl (kJ, 24, .inr (.inl g1)))] t.heap ∧ va_D (va_A [(m0, .inr (11, oX11 ra x0)), (ra 15, .inl (kJ, 24, .inr (.inl f1)))] sz) [(m0, .inr (11, oX11 ra x0)), (ra 15, .inl (kJ, 24, .inr (.inl g1)))]) (va_A [(m0, .inr (11, oX11 ra x0)), (ra 15, .inl (kJ, 24, .inr (.inl f1)))] sz)) 0 0 (va_A [(m0, .inr (11, oX11 ra x0)), (ra 15, .inl (kJ, 24, .inr (.inl f1)))] sz) := by
  refine Met.ofW (cc := cX11_missingOf) (maxL := 7) (ret := (some .long)) (by decide) rfl ?_
  intro p e s m args0 below meth c s₁ B hml hv
  obtain ⟨hargs, hsz, hP, hE, hD0⟩ := hv
  have hx := B.exec
  have hb := B.bytes
  have hr := B.returns
  have hts := atoms_spec (ws := wsX11_missingOf) B.pre
  have hown : s.vm.findClass RX11 = some m.cls := findClass_of_methodNamed B.named
  have hlocks := B.notSynchronized
  have hK := hE.1
  have hin11 : ∀ w ∈ wsX110, w ∈ wsX11_missingOf := fun _ h9 => List.mem_cons_of_mem _ (List.mem_append_right _ h9)
  subst hsz
  have hD := hD0.self (sz := s.heap.size)
  generalize hAe : va_A [(m0, .inr (11, oX11 ra x0)), (ra 15, .inl (kJ, 24, .inr (.inl f1)))] s.heap.size = A at hD ⊢
  have hA : ∀ q : Nat, s.heap.size ≤ q → A q := fun q h => by rw [← hAe]; exact Or.inr h
  have hS : va_S A s.heap s.heap [] := va_S.rf
  have hP : va_P (dC, dI) vwCl [(m0, .inr (11, oX11 ra x0)), (ra 15, .inl (kJ, 24, .inr (.inl f1)))] s.heap := hP
  have hl := lv_entry ([.ref m0, .int (nI k), .int 5]) (n := 7) (Nat.le_of_ble_eq_true rfl)
  have hla : entryFrame m args0 7 = entryFrame m ([.ref m0, .int (nI k), .int 5] : List Value).toArray 7 := by rw [hargs]
  rw [hla, lg_entry_eq]
  generalize (lg_sl ([.ref m0, .int (nI k), .int 5]) ++ List.replicate (7 - (lg_sl ([.ref m0, .int (nI k), .int 5])).length) Slot.unset).toArray = ls at hl ⊢
  have hl : lv_has ls 7 [(0, .ref m0), (1, .int (nI k)), (2, .int 5)] := hl
  refine lv_iconst (v := 0) hx hb dX11_missingOf_0 (by decide) ?_
  refine lv_istore_n (lv' := [(3, .int 0), (0, .ref m0), (1, .int (nI k)), (2, .int 5)]) hx hb dX11_missingOf_1 rfl hl (by decide) rfl (fun ls hl => ?_)
  refine lv_iload_n hx hb dX11_missingOf_2 rfl (lv_at hl 0 rfl) ?_
  refine lv_iload_n hx hb dX11_missingOf_3 rfl (lv_at hl 3 rfl) ?_
  refine lv_icmp_gt (tgt := 30) hx hb dX11_missingOf_4 (by decide) (fun c9 => absurd c9 (by decide)) (fun _ => ?_)
  refine lv_aload_n hx hb dX11_missingOf_7 rfl (lv_at hl 1 rfl) ?_
  refine va_get (D := (dC, dI)) (ci := 11) (v := .ref (ra 15)) (C := RX11) (T := TX11) (N := 61) hx hb hts hin11 hown hK hP 0 rfl rfl 32 (by decide) (hts (.fieldLink RX11 79 "PathProberModel" "met" "[J") (List.mem_of_getElem? (i := 1) (by decide +kernel))) (fun _ h9 => h9) rfl dX11_missingOf_8 ?_
  refine lv_iload_n hx hb dX11_missingOf_11 rfl (lv_at hl 0 rfl) ?_
  refine lv_iload_n hx hb dX11_missingOf_12 rfl (lv_at hl 0 rfl) ?_
  refine lv_if_ne (tgt := 22) hx hb dX11_missingOf_13 (by decide) (fun c9 => absurd (by decide) c9) (fun _ => ?_)
  refine lv_ldc2 hx hb hown (hts (.constantLong RX11 320 (1000000000000)) (List.mem_of_getElem? (i := 2) (by decide +kernel))) dX11_missingOf_16 ?_
  refine lv_goto (tgt := 23) hx hb dX11_missingOf_19 (by decide) ?_
  refine va_last hx hb hK hP hD hS 1 2 rfl rfl (vp_in_nI (n := 0) (by decide) (by decide)) dX11_missingOf_23 (fun H locs hP hD hS => ?_)
  have hP : va_P (dC, dI) vwCl [(m0, .inr (11, oX11 ra x0)), (ra 15, .inl (kJ, 24, .inr (.inl (vp_updL f1 0 1000000000000))))] H := hP
  have hD : va_D A [(m0, .inr (11, oX11 ra x0)), (ra 15, .inl (kJ, 24, .inr (.inl (vp_updL f1 0 1000000000000))))] := hD
  refine lv_iinc (v := 1) (lv' := [(3, .int 1), (0, .ref m0), (1, .int (nI k)), (2, .int 5)]) hx hb dX11_missingOf_24 hl (k := 0) rfl (by decide) (by decide) rfl (fun ls hl => ?_)
  refine lv_goto (tgt := 2) hx hb dX11_missingOf_27 (by decide) ?_
  refine lv_iload_n hx hb dX11_missingOf_2 rfl (lv_at hl 0 rfl) ?_
  refine lv_iload_n hx hb dX11_missingOf_3 rfl (lv_at hl 3 rfl) ?_
  refine lv_icmp_gt (tgt := 30) hx hb dX11_missingOf_4 (by decide) (fun c9 => absurd c9 (by decide)) (fun _ => ?_)
  refine lv_aload_n hx hb dX11_missingOf_7 rfl (lv_at hl 1 rfl) ?_
  refine va_get (D := (dC, dI)) (ci := 11) (v := .ref (ra 15)) (C := RX11) (T := TX11) (N := 61) hx hb hts hin11 hown hK hP 0 rfl rfl 32 (by decide) (hts (.fieldLink RX11 79 "PathProberModel" "met" "[J") (List.mem_of_getElem? (i := 1) (by decide +kernel))) (fun _ h9 => h9) rfl dX11_missingOf_8 ?_
  refine lv_iload_n hx hb dX11_missingOf_11 rfl (lv_at hl 0 rfl) ?_
  refine lv_iload_n hx hb dX11_missingOf_12 rfl (lv_at hl 0 rfl) ?_
  refine lv_if_ne (tgt := 22) hx hb dX11_missingOf_13 (by decide) (fun _ => ?_) (fun c9 => absurd c9 (by decide))
  refine lv_lconst (v := 0) hx hb dX11_missingOf_22 (by decide) ?_
  refine va_last hx hb hK hP hD hS 1 2 rfl rfl (vp_in_nI (n := 1) (by decide) (by decide)) dX11_missingOf_23 (fun H locs hP hD hS => ?_)
  have hP : va_P (dC, dI) vwCl [(m0, .inr (11, oX11 ra x0)), (ra 15, .inl (kJ, 24, .inr (.inl (vp_updL (vp_updL f1 0 1000000000000) 1 0))))] H := hP
  have hD : va_D A [(m0, .inr (11, oX11 ra x0)), (ra 15, .inl (kJ, 24, .inr (.inl (vp_updL (vp_updL f1 0 1000000000000) 1 0))))] := hD
  refine lv_iinc (v := 2) (lv' := [(3, .int 2), (0, .ref m0), (1, .int (nI k)), (2, .int 5)]) hx hb dX11_missingOf_24 hl (k := 0) rfl (by decide) (by decide) rfl (fun ls hl => ?_)
  refine lv_goto (tgt := 2) hx hb dX11_missingOf_27 (by decide) ?_
  refine lv_iload_n hx hb dX11_missingOf_2 rfl (lv_at hl 0 rfl) ?_
  refine lv_iload_n hx hb dX11_missingOf_3 rfl (lv_at hl 3 rfl) ?_
  refine lv_icmp_gt (tgt := 30) hx hb dX11_missingOf_4 (by decide) (fun c9 => absurd c9 (by decide)) (fun _ => ?_)
  refine lv_aload_n hx hb dX11_missingOf_7 rfl (lv_at hl 1 rfl) ?_
  refine va_get (D := (dC, dI)) (ci := 11) (v := .ref (ra 15)) (C := RX11) (T := TX11) (N := 61) hx hb hts hin11 hown hK hP 0 rfl rfl 32 (by decide) (hts (.fieldLink RX11 79 "PathProberModel" "met" "[J") (List.mem_of_getElem? (i := 1) (by decide +kernel))) (fun _ h9 => h9) rfl dX11_missingOf_8 ?_
  refine lv_iload_n hx hb dX11_missingOf_11 rfl (lv_at hl 0 rfl) ?_
  refine lv_iload_n hx hb dX11_missingOf_12 rfl (lv_at hl 0 rfl) ?_
  refine lv_if_ne (tgt := 22) hx hb dX11_missingOf_13 (by decide) (fun _ => ?_) (fun c9 => absurd c9 (by decide))
  refine lv_lconst (v := 0) hx hb dX11_missingOf_22 (by decide) ?_
  refine va_last hx hb hK hP hD hS 1 2 rfl rfl (vp_in_nI (n := 2) (by decide) (by decide)) dX11_missingOf_23 (fun H locs hP hD hS => ?_)
  have hP : va_P (dC, dI) vwCl [(m0, .inr (11, oX11 ra x0)), (ra 15, .inl (kJ, 24, .inr (.inl (vp_updL (vp_updL (vp_updL f1 0 1000000000000) 1 0) 2 0))))] H := hP
  have hD : va_D A [(m0, .inr (11, oX11 ra x0)), (ra 15, .inl (kJ, 24, .inr (.inl (vp_updL (vp_updL (vp_updL f1 0 1000000000000) 1 0) 2 0))))] := hD
  refine lv_iinc (v := 3) (lv' := [(3, .int 3), (0, .ref m0), (1, .int (nI k)), (2, .int 5)]) hx hb dX11_missingOf_24 hl (k := 0) rfl (by decide) (by decide) rfl (fun ls hl => ?_)
  refine lv_goto (tgt := 2) hx hb dX11_missingOf_27 (by decide) ?_
  refine lv_iload_n hx hb dX11_missingOf_2 rfl (lv_at hl 0 rfl) ?_
  refine lv_iload_n hx hb dX11_missingOf_3 rfl (lv_at hl 3 rfl) ?_
  refine lv_icmp_gt (tgt := 30) hx hb dX11_missingOf_4 (by decide) (fun c9 => absurd c9 (by decide)) (fun _ => ?_)
  refine lv_aload_n hx hb dX11_missingOf_7 rfl (lv_at hl 1 rfl) ?_
  refine va_get (D := (dC, dI)) (ci := 11) (v := .ref (ra 15)) (C := RX11) (T := TX11) (N := 61) hx hb hts hin11 hown hK hP 0 rfl rfl 32 (by decide) (hts (.fieldLink RX11 79 "PathProberModel" "met" "[J") (List.mem_of_getElem? (i := 1) (by decide +kernel))) (fun _ h9 => h9) rfl dX11_missingOf_8 ?_
  refine lv_iload_n hx hb dX11_missingOf_11 rfl (lv_at hl 0 rfl) ?_
  refine lv_iload_n hx hb dX11_missingOf_12 rfl (lv_at hl 0 rfl) ?_
  refine lv_if_ne (tgt := 22) hx hb dX11_missingOf_13 (by decide) (fun _ => ?_) (fun c9 => absurd c9 (by decide))
  refine lv_lconst (v := 0) hx hb dX11_missingOf_22 (by decide) ?_
  refine va_last hx hb hK hP hD hS 1 2 rfl rfl (vp_in_nI (n := 3) (by decide) (by decide)) dX11_missingOf_23 (fun H locs hP hD hS => ?_)
  have hP : va_P (dC, dI) vwCl [(m0, .inr (11, oX11 ra x0)), (ra 15, .inl (kJ, 24, .inr (.inl (vp_updL (vp_updL (vp_updL (vp_updL f1 0 1000000000000) 1 0) 2 0) 3 0))))] H := hP
  have hD : va_D A [(m0, .inr (11, oX11 ra x0)), (ra 15, .inl (kJ, 24, .inr (.inl (vp_updL (vp_updL (vp_updL (vp_updL f1 0 1000000000000) 1 0) 2 0) 3 0))))] := hD
  refine lv_iinc (v := 4) (lv' := [(3, .int 4), (0, .ref m0), (1, .int (nI k)), (2, .int 5)]) hx hb dX11_missingOf_24 hl (k := 0) rfl (by decide) (by decide) rfl (fun ls hl => ?_)
  refine lv_goto (tgt := 2) hx hb dX11_missingOf_27 (by decide) ?_
  refine lv_iload_n hx hb dX11_missingOf_2 rfl (lv_at hl 0 rfl) ?_
  refine lv_iload_n hx hb dX11_missingOf_3 rfl (lv_at hl 3 rfl) ?_
  refine lv_icmp_gt (tgt := 30) hx hb dX11_missingOf_4 (by decide) (fun c9 => absurd c9 (by decide)) (fun _ => ?_)
  refine lv_aload_n hx hb dX11_missingOf_7 rfl (lv_at hl 1 rfl) ?_
  refine va_get (D := (dC, dI)) (ci := 11) (v := .ref (ra 15)) (C := RX11) (T := TX11) (N := 61) hx hb hts hin11 hown hK hP 0 rfl rfl 32 (by decide) (hts (.fieldLink RX11 79 "PathProberModel" "met" "[J") (List.mem_of_getElem? (i := 1) (by decide +kernel))) (fun _ h9 => h9) rfl dX11_missingOf_8 ?_
  refine lv_iload_n hx hb dX11_missingOf_11 rfl (lv_at hl 0 rfl) ?_
  refine lv_iload_n hx hb dX11_missingOf_12 rfl (lv_at hl 0 rfl) ?_
  refine lv_if_ne (tgt := 22) hx hb dX11_missingOf_13 (by decide) (fun _ => ?_) (fun c9 => absurd c9 (by decide))
  refine lv_lconst (v := 0) hx hb dX11_missingOf_22 (by decide) ?_
  refine va_last hx hb hK hP hD hS 1 2 rfl rfl (vp_in_nI (n := 4) (by decide) (by decide)) dX11_missingOf_23 (fun H locs hP hD hS => ?_)
  have hP : va_P (dC, dI) vwCl [(m0, .inr (11, oX11 ra x0)), (ra 15, .inl (kJ, 24, .inr (.inl (vp_updL (vp_updL (vp_updL (vp_updL (vp_updL f1 0 1000000000000) 1 0) 2 0) 3 0) 4 0))))] H := hP
  have hD : va_D A [(m0, .inr (11, oX11 ra x0)), (ra 15, .inl (kJ, 24, .inr (.inl (vp_updL (vp_updL (vp_updL (vp_updL (vp_updL f1 0 1000000000000) 1 0) 2 0) 3 0) 4 0))))] := hD
  refine lv_iinc (v := 5) (lv' := [(3, .int 5), (0, .ref m0), (1, .int (nI k)), (2, .int 5)]) hx hb dX11_missingOf_24 hl (k := 0) rfl (by decide) (by decide) rfl (fun ls hl => ?_)
  refine lv_goto (tgt := 2) hx hb dX11_missingOf_27 (by decide) ?_
  refine lv_iload_n hx hb dX11_missingOf_2 rfl (lv_at hl 0 rfl) ?_
  refine lv_iload_n hx hb dX11_missingOf_3 rfl (lv_at hl 3 rfl) ?_
  refine lv_icmp_gt (tgt := 30) hx hb dX11_missingOf_4 (by decide) (fun c9 => absurd c9 (by decide)) (fun _ => ?_)
  refine lv_aload_n hx hb dX11_missingOf_7 rfl (lv_at hl 1 rfl) ?_
  refine va_get (D := (dC, dI)) (ci := 11) (v := .ref (ra 15)) (C := RX11) (T := TX11) (N := 61) hx hb hts hin11 hown hK hP 0 rfl rfl 32 (by decide) (hts (.fieldLink RX11 79 "PathProberModel" "met" "[J") (List.mem_of_getElem? (i := 1) (by decide +kernel))) (fun _ h9 => h9) rfl dX11_missingOf_8 ?_
  refine lv_iload_n hx hb dX11_missingOf_11 rfl (lv_at hl 0 rfl) ?_
  refine lv_iload_n hx hb dX11_missingOf_12 rfl (lv_at hl 0 rfl) ?_
  refine lv_if_ne (tgt := 22) hx hb dX11_missingOf_13 (by decide) (fun _ => ?_) (fun c9 => absurd c9 (by decide))
  refine lv_lconst (v := 0) hx hb dX11_missingOf_22 (by decide) ?_
  refine va_last hx hb hK hP hD hS 1 2 rfl rfl (vp_in_nI (n := 5) (by decide) (by decide)) dX11_missingOf_23 (fun H locs hP hD hS => ?_)
  have hP : va_P (dC, dI) vwCl [(m0, .inr (11, oX11 ra x0)), (ra 15, .inl (kJ, 24, .inr (.inl (vp_updL (vp_updL (vp_updL (vp_updL (vp_updL (vp_updL f1 0 1000000000000) 1 0) 2 0) 3 0) 4 0) 5 0))))] H := hP
  have hD : va_D A [(m0, .inr (11, oX11 ra x0)), (ra 15, .inl (kJ, 24, .inr (.inl (vp_updL (vp_updL (vp_updL (vp_updL (vp_updL (vp_updL f1 0 1000000000000) 1 0) 2 0) 3 0) 4 0) 5 0))))] := hD
  refine lv_iinc (v := 6) (lv' := [(3, .int 6), (0, .ref m0), (1, .int (nI k)), (2, .int 5)]) hx hb dX11_missingOf_24 hl (k := 0) rfl (by decide) (by decide) rfl (fun ls hl => ?_)
  refine lv_goto (tgt := 2) hx hb dX11_missingOf_27 (by decide) ?_
  refine lv_iload_n hx hb dX11_missingOf_2 rfl (lv_at hl 0 rfl) ?_
  refine lv_iload_n hx hb dX11_missingOf_3 rfl (lv_at hl 3 rfl) ?_
  refine lv_icmp_gt (tgt := 30) hx hb dX11_missingOf_4 (by decide) (fun _ => ?_) (fun c9 => absurd (by decide) c9)
  refine lv_iconst (v := 0) hx hb dX11_missingOf_30 (by decide) ?_
  refine lv_istore_n (lv' := [(3, .int 0), (0, .ref m0), (1, .int (nI k)), (2, .int 5)]) hx hb dX11_missingOf_31 rfl hl (by decide) rfl (fun ls hl => ?_)
  have hloop32 : ∀ (n : Nat) (i : Nat) (fa : Nat → Int64) (H : Heap) (locs : List Loc) (ls : Array Slot), i + n = k → fa 0 = kv5 i 0 → fa 1 = kv5 i 1 → fa 2 = kv5 i 2 → fa 3 = kv5 i 3 → fa 4 = kv5 i 4 → fa 5 = kv5 i 5 → va_P (dC, dI) vwCl [(m0, .inr (11, oX11 ra x0)), (ra 15, .inl (kJ, 24, .inr (.inl fa)))] H → va_D A [(m0, .inr (11, oX11 ra x0)), (ra 15, .inl (kJ, 24, .inr (.inl fa)))] → va_S A s.heap H locs → lv_has ls 7 [(3, .int (nI i)), (0, .ref m0), (1, .int (nI k)), (2, .int 5)] → W p l e (headSpec wsX11_missingOf rm_e11_missingOf_5).room s m args0 below meth c H locs 0 0 (MQ below (va_Ql (fun (r : Int64) (_ : Unit) => r = 1000000000000 - kv5 k 5) (fun _ t => ∃ (g1 : Nat → Int64), va_P (dC, dI) vwCl [(m0, .inr (11, oX11 ra x0)), (ra 15, .inl (kJ, 24, .inr (.inl g1)))] t.heap ∧ va_D A [(m0, .inr (11, oX11 ra x0)), (ra 15, .inl (kJ, 24, .inr (.inl g1)))]) A) args0 s 0 0 A) (F0 m 32 ls []) := by
    intro n
    induction n with
    | zero =>
      intro i fa H locs ls hi hf0 hf1 hf2 hf3 hf4 hf5 hP hD hS hl
      refine lv_iload_n hx hb dX11_missingOf_32 rfl (lv_at hl 0 rfl) ?_
      refine lv_iload_n hx hb dX11_missingOf_33 rfl (lv_at hl 2 rfl) ?_
      refine lv_icmp_ge (tgt := 106) hx hb dX11_missingOf_34 (by decide) (fun _ => ?_) (fun c9 => absurd (nI_le (by omega) (by omega)) c9)
      refine lv_ldc2 hx hb hown (hts (.constantLong RX11 320 (1000000000000)) (List.mem_of_getElem? (i := 2) (by decide +kernel))) dX11_missingOf_106 ?_
      refine lv_aload_n hx hb dX11_missingOf_109 rfl (lv_at hl 1 rfl) ?_
      refine va_get (D := (dC, dI)) (ci := 11) (v := .ref (ra 15)) (C := RX11) (T := TX11) (N := 61) hx hb hts hin11 hown hK hP 0 rfl rfl 32 (by decide) (hts (.fieldLink RX11 79 "PathProberModel" "met" "[J") (List.mem_of_getElem? (i := 1) (by decide +kernel))) (fun _ h9 => h9) rfl dX11_missingOf_110 ?_
      refine lv_iload_n hx hb dX11_missingOf_113 rfl (lv_at hl 3 rfl) ?_
      refine va_lald hx hb hK hP 1 2 rfl rfl (vp_in_nI (n := 5) (by decide) (by decide)) dX11_missingOf_114 ?_
      refine lv_topl (fun z1 e2 => ?_)
      obtain rfl : z1 = (fa 5 : Int64) := e2
      refine lv_lsub hx hb dX11_missingOf_115 ?_
      have hP9 := hP.sub (ws' := [(m0, .inr (11, oX11 ra x0)), (ra 15, .inl (kJ, 24, .inr (.inl fa)))]) [0, 1] rfl
      have hD9 := hD.sub (ws' := [(m0, .inr (11, oX11 ra x0)), (ra 15, .inl (kJ, 24, .inr (.inl fa)))]) [0, 1] (by decide) rfl
      exact W.lret (v := 1000000000000 - (fa 5)) hx hb hr (fun t ht hW => ⟨⟨1000000000000 - (fa 5), (), rfl, by have h9 : i = k := (by omega); subst h9; rw [hf5], fa, by rw [ht]; exact hP9, hD9⟩, hS.F ht⟩) hS.2.2 dX11_missingOf_116
    | succ n ih =>
      intro i fa H locs ls hi hf0 hf1 hf2 hf3 hf4 hf5 hP hD hS hl
      refine lv_iload_n hx hb dX11_missingOf_32 rfl (lv_at hl 0 rfl) ?_
      refine lv_iload_n hx hb dX11_missingOf_33 rfl (lv_at hl 2 rfl) ?_
      refine lv_icmp_ge (tgt := 106) hx hb dX11_missingOf_34 (by decide) (fun c9 => absurd c9 (nI_ge (by omega) (by omega))) (fun _ => ?_)
      refine lv_iload_n hx hb dX11_missingOf_37 rfl (lv_at hl 3 rfl) ?_
      refine lv_iconst (v := 1) hx hb dX11_missingOf_38 (by decide) ?_
      refine lv_isub hx hb dX11_missingOf_39 ?_
      refine lv_topi (fun z3 e4 => ?_)
      obtain rfl : z3 = (4 : Int32) := e4.trans (by decide)
      refine lv_istore (lv' := [(4, .int 4), (3, .int (nI i)), (0, .ref m0), (1, .int (nI k)), (2, .int 5)]) hx hb dX11_missingOf_40 hl (by decide) rfl (fun ls hl => ?_)
      refine lv_iload hx hb dX11_missingOf_42 (lv_at hl 0 rfl) ?_
      refine lv_if_lt (tgt := 100) hx hb dX11_missingOf_44 (by decide) (fun c9 => absurd c9 (by decide)) (fun _ => ?_)
      refine lv_aload_n hx hb dX11_missingOf_47 rfl (lv_at hl 2 rfl) ?_
      refine va_get (D := (dC, dI)) (ci := 11) (v := .ref (ra 15)) (C := RX11) (T := TX11) (N := 61) hx hb hts hin11 hown hK hP 0 rfl rfl 32 (by decide) (hts (.fieldLink RX11 79 "PathProberModel" "met" "[J") (List.mem_of_getElem? (i := 1) (by decide +kernel))) (fun _ h9 => h9) rfl dX11_missingOf_48 ?_
      refine lv_iload hx hb dX11_missingOf_51 (lv_at hl 0 rfl) ?_
      refine va_lald hx hb hK hP 1 2 rfl rfl (vp_in_nI (n := 4) (by decide) (by decide)) dX11_missingOf_53 ?_
      refine lv_topl (fun z5 e6 => ?_)
      obtain rfl : z5 = (fa 4 : Int64) := e6
      refine lv_iload hx hb dX11_missingOf_54 (lv_at hl 0 rfl) ?_
      refine lv_i2l (v := 4) hx hb dX11_missingOf_56 (by decide) ?_
      refine lv_lmul hx hb dX11_missingOf_57 ?_
      refine lv_iload_n hx hb dX11_missingOf_58 rfl (lv_at hl 4 rfl) ?_
      refine lv_i2l (v := 5) hx hb dX11_missingOf_59 (by decide) ?_
      refine lv_ldiv hx hb dX11_missingOf_60 (by decide) ?_
      refine lv_lstore (lv' := [(5, .long (((fa 4) * 4) / 5)), (4, .int 4), (3, .int (nI i)), (0, .ref m0), (1, .int (nI k)), (2, .int 5)]) hx hb dX11_missingOf_61 hl (by decide) rfl (fun ls hl => ?_)
      refine lv_aload_n hx hb dX11_missingOf_63 rfl (lv_at hl 3 rfl) ?_
      refine va_get (D := (dC, dI)) (ci := 11) (v := .ref (ra 15)) (C := RX11) (T := TX11) (N := 61) hx hb hts hin11 hown hK hP 0 rfl rfl 32 (by decide) (hts (.fieldLink RX11 79 "PathProberModel" "met" "[J") (List.mem_of_getElem? (i := 1) (by decide +kernel))) (fun _ h9 => h9) rfl dX11_missingOf_64 ?_
      refine lv_iload hx hb dX11_missingOf_67 (lv_at hl 1 rfl) ?_
      refine lv_iconst (v := 1) hx hb dX11_missingOf_69 (by decide) ?_
      refine lv_iadd hx hb dX11_missingOf_70 ?_
      refine lv_topi (fun z7 e8 => ?_)
      obtain rfl : z7 = (5 : Int32) := e8.trans (by decide)
      refine lv_dup2_11 hx hb dX11_missingOf_71 rfl rfl ?_
      refine va_lald hx hb hK hP 1 2 rfl rfl (vp_in_nI (n := 5) (by decide) (by decide)) dX11_missingOf_72 ?_
      refine lv_topl (fun z9 e10 => ?_)
      obtain rfl : z9 = (fa 5 : Int64) := e10
      refine lv_aload_n hx hb dX11_missingOf_73 rfl (lv_at hl 3 rfl) ?_
      refine va_get (D := (dC, dI)) (ci := 11) (v := .ref (ra 15)) (C := RX11) (T := TX11) (N := 61) hx hb hts hin11 hown hK hP 0 rfl rfl 32 (by decide) (hts (.fieldLink RX11 79 "PathProberModel" "met" "[J") (List.mem_of_getElem? (i := 1) (by decide +kernel))) (fun _ h9 => h9) rfl dX11_missingOf_74 ?_
      refine lv_iload hx hb dX11_missingOf_77 (lv_at hl 1 rfl) ?_
      refine va_lald hx hb hK hP 1 2 rfl rfl (vp_in_nI (n := 4) (by decide) (by decide)) dX11_missingOf_79 ?_
      refine lv_topl (fun z11 e12 => ?_)
      obtain rfl : z11 = (fa 4 : Int64) := e12
      refine lv_lload hx hb dX11_missingOf_80 (lv_at hl 0 rfl) ?_
      refine lv_lsub hx hb dX11_missingOf_82 ?_
      refine lv_ladd hx hb dX11_missingOf_83 ?_
      refine va_last hx hb hK hP hD hS 1 2 rfl rfl (vp_in_nI (n := 5) (by decide) (by decide)) dX11_missingOf_84 (fun H locs hP hD hS => ?_)
      have hP : va_P (dC, dI) vwCl [(m0, .inr (11, oX11 ra x0)), (ra 15, .inl (kJ, 24, .inr (.inl (vp_updL fa 5 ((fa 5) + ((fa 4) - (((fa 4) * 4) / 5)))))))] H := hP
      have hD : va_D A [(m0, .inr (11, oX11 ra x0)), (ra 15, .inl (kJ, 24, .inr (.inl (vp_updL fa 5 ((fa 5) + ((fa 4) - (((fa 4) * 4) / 5)))))))] := hD
      refine lv_aload_n hx hb dX11_missingOf_85 rfl (lv_at hl 3 rfl) ?_
      refine va_get (D := (dC, dI)) (ci := 11) (v := .ref (ra 15)) (C := RX11) (T := TX11) (N := 61) hx hb hts hin11 hown hK hP 0 rfl rfl 32 (by decide) (hts (.fieldLink RX11 79 "PathProberModel" "met" "[J") (List.mem_of_getElem? (i := 1) (by decide +kernel))) (fun _ h9 => h9) rfl dX11_missingOf_86 ?_
      refine lv_iload hx hb dX11_missingOf_89 (lv_at hl 1 rfl) ?_
      refine lv_lload hx hb dX11_missingOf_91 (lv_at hl 0 rfl) ?_
      refine va_last hx hb hK hP hD hS 1 2 rfl rfl (vp_in_nI (n := 4) (by decide) (by decide)) dX11_missingOf_93 (fun H locs hP hD hS => ?_)
      have hP : va_P (dC, dI) vwCl [(m0, .inr (11, oX11 ra x0)), (ra 15, .inl (kJ, 24, .inr (.inl (vp_updL (vp_updL fa 5 ((fa 5) + ((fa 4) - (((fa 4) * 4) / 5)))) 4 (((fa 4) * 4) / 5)))))] H := hP
      have hD : va_D A [(m0, .inr (11, oX11 ra x0)), (ra 15, .inl (kJ, 24, .inr (.inl (vp_updL (vp_updL fa 5 ((fa 5) + ((fa 4) - (((fa 4) * 4) / 5)))) 4 (((fa 4) * 4) / 5)))))] := hD
      refine lv_iinc (v := 3) (lv' := [(4, .int 3), (5, .long (((fa 4) * 4) / 5)), (3, .int (nI i)), (0, .ref m0), (1, .int (nI k)), (2, .int 5)]) hx hb dX11_missingOf_94 hl (k := 1) rfl (by decide) (by decide) rfl (fun ls hl => ?_)
      refine lv_goto (tgt := 42) hx hb dX11_missingOf_97 (by decide) ?_
      refine lv_iload hx hb dX11_missingOf_42 (lv_at hl 0 rfl) ?_
      refine lv_if_lt (tgt := 100) hx hb dX11_missingOf_44 (by decide) (fun c9 => absurd c9 (by decide)) (fun _ => ?_)
      refine lv_aload_n hx hb dX11_missingOf_47 rfl (lv_at hl 3 rfl) ?_
      refine va_get (D := (dC, dI)) (ci := 11) (v := .ref (ra 15)) (C := RX11) (T := TX11) (N := 61) hx hb hts hin11 hown hK hP 0 rfl rfl 32 (by decide) (hts (.fieldLink RX11 79 "PathProberModel" "met" "[J") (List.mem_of_getElem? (i := 1) (by decide +kernel))) (fun _ h9 => h9) rfl dX11_missingOf_48 ?_
      refine lv_iload hx hb dX11_missingOf_51 (lv_at hl 0 rfl) ?_
      refine va_lald hx hb hK hP 1 2 rfl rfl (vp_in_nI (n := 3) (by decide) (by decide)) dX11_missingOf_53 ?_
      refine lv_topl (fun z13 e14 => ?_)
      obtain rfl : z13 = (fa 3 : Int64) := e14
      refine lv_iload hx hb dX11_missingOf_54 (lv_at hl 0 rfl) ?_
      refine lv_i2l (v := 3) hx hb dX11_missingOf_56 (by decide) ?_
      refine lv_lmul hx hb dX11_missingOf_57 ?_
      refine lv_iload_n hx hb dX11_missingOf_58 rfl (lv_at hl 5 rfl) ?_
      refine lv_i2l (v := 5) hx hb dX11_missingOf_59 (by decide) ?_
      refine lv_ldiv hx hb dX11_missingOf_60 (by decide) ?_
      refine lv_lstore (lv' := [(5, .long (((fa 3) * 3) / 5)), (4, .int 3), (3, .int (nI i)), (0, .ref m0), (1, .int (nI k)), (2, .int 5)]) hx hb dX11_missingOf_61 hl (by decide) rfl (fun ls hl => ?_)
      refine lv_aload_n hx hb dX11_missingOf_63 rfl (lv_at hl 3 rfl) ?_
      refine va_get (D := (dC, dI)) (ci := 11) (v := .ref (ra 15)) (C := RX11) (T := TX11) (N := 61) hx hb hts hin11 hown hK hP 0 rfl rfl 32 (by decide) (hts (.fieldLink RX11 79 "PathProberModel" "met" "[J") (List.mem_of_getElem? (i := 1) (by decide +kernel))) (fun _ h9 => h9) rfl dX11_missingOf_64 ?_
      refine lv_iload hx hb dX11_missingOf_67 (lv_at hl 1 rfl) ?_
      refine lv_iconst (v := 1) hx hb dX11_missingOf_69 (by decide) ?_
      refine lv_iadd hx hb dX11_missingOf_70 ?_
      refine lv_topi (fun z15 e16 => ?_)
      obtain rfl : z15 = (4 : Int32) := e16.trans (by decide)
      refine lv_dup2_11 hx hb dX11_missingOf_71 rfl rfl ?_
      refine va_lald hx hb hK hP 1 2 rfl rfl (vp_in_nI (n := 4) (by decide) (by decide)) dX11_missingOf_72 ?_
      refine lv_topl (fun z17 e18 => ?_)
      obtain rfl : z17 = (((fa 4) * 4) / 5 : Int64) := e18
      refine lv_aload_n hx hb dX11_missingOf_73 rfl (lv_at hl 3 rfl) ?_
      refine va_get (D := (dC, dI)) (ci := 11) (v := .ref (ra 15)) (C := RX11) (T := TX11) (N := 61) hx hb hts hin11 hown hK hP 0 rfl rfl 32 (by decide) (hts (.fieldLink RX11 79 "PathProberModel" "met" "[J") (List.mem_of_getElem? (i := 1) (by decide +kernel))) (fun _ h9 => h9) rfl dX11_missingOf_74 ?_
      refine lv_iload hx hb dX11_missingOf_77 (lv_at hl 1 rfl) ?_
      refine va_lald hx hb hK hP 1 2 rfl rfl (vp_in_nI (n := 3) (by decide) (by decide)) dX11_missingOf_79 ?_
      refine lv_topl (fun z19 e20 => ?_)
      obtain rfl : z19 = (fa 3 : Int64) := e20
      refine lv_lload hx hb dX11_missingOf_80 (lv_at hl 0 rfl) ?_
      refine lv_lsub hx hb dX11_missingOf_82 ?_
      refine lv_ladd hx hb dX11_missingOf_83 ?_
      refine va_last hx hb hK hP hD hS 1 2 rfl rfl (vp_in_nI (n := 4) (by decide) (by decide)) dX11_missingOf_84 (fun H locs hP hD hS => ?_)
      have hP : va_P (dC, dI) vwCl [(m0, .inr (11, oX11 ra x0)), (ra 15, .inl (kJ, 24, .inr (.inl (vp_updL (vp_updL (vp_updL fa 5 ((fa 5) + ((fa 4) - (((fa 4) * 4) / 5)))) 4 (((fa 4) * 4) / 5)) 4 ((((fa 4) * 4) / 5) + ((fa 3) - (((fa 3) * 3) / 5)))))))] H := hP
      have hD : va_D A [(m0, .inr (11, oX11 ra x0)), (ra 15, .inl (kJ, 24, .inr (.inl (vp_updL (vp_updL (vp_updL fa 5 ((fa 5) + ((fa 4) - (((fa 4) * 4) / 5)))) 4 (((fa 4) * 4) / 5)) 4 ((((fa 4) * 4) / 5) + ((fa 3) - (((fa 3) * 3) / 5)))))))] := hD
      refine lv_aload_n hx hb dX11_missingOf_85 rfl (lv_at hl 3 rfl) ?_
      refine va_get (D := (dC, dI)) (ci := 11) (v := .ref (ra 15)) (C := RX11) (T := TX11) (N := 61) hx hb hts hin11 hown hK hP 0 rfl rfl 32 (by decide) (hts (.fieldLink RX11 79 "PathProberModel" "met" "[J") (List.mem_of_getElem? (i := 1) (by decide +kernel))) (fun _ h9 => h9) rfl dX11_missingOf_86 ?_
      refine lv_iload hx hb dX11_missingOf_89 (lv_at hl 1 rfl) ?_
      refine lv_lload hx hb dX11_missingOf_91 (lv_at hl 0 rfl) ?_
      refine va_last hx hb hK hP hD hS 1 2 rfl rfl (vp_in_nI (n := 3) (by decide) (by decide)) dX11_missingOf_93 (fun H locs hP hD hS => ?_)
      have hP : va_P (dC, dI) vwCl [(m0, .inr (11, oX11 ra x0)), (ra 15, .inl (kJ, 24, .inr (.inl (vp_updL (vp_updL (vp_updL (vp_updL fa 5 ((fa 5) + ((fa 4) - (((fa 4) * 4) / 5)))) 4 (((fa 4) * 4) / 5)) 4 ((((fa 4) * 4) / 5) + ((fa 3) - (((fa 3) * 3) / 5)))) 3 (((fa 3) * 3) / 5)))))] H := hP
      have hD : va_D A [(m0, .inr (11, oX11 ra x0)), (ra 15, .inl (kJ, 24, .inr (.inl (vp_updL (vp_updL (vp_updL (vp_updL fa 5 ((fa 5) + ((fa 4) - (((fa 4) * 4) / 5)))) 4 (((fa 4) * 4) / 5)) 4 ((((fa 4) * 4) / 5) + ((fa 3) - (((fa 3) * 3) / 5)))) 3 (((fa 3) * 3) / 5)))))] := hD
      refine lv_iinc (v := 2) (lv' := [(4, .int 2), (5, .long (((fa 3) * 3) / 5)), (3, .int (nI i)), (0, .ref m0), (1, .int (nI k)), (2, .int 5)]) hx hb dX11_missingOf_94 hl (k := 1) rfl (by decide) (by decide) rfl (fun ls hl => ?_)
      refine lv_goto (tgt := 42) hx hb dX11_missingOf_97 (by decide) ?_
      refine lv_iload hx hb dX11_missingOf_42 (lv_at hl 0 rfl) ?_
      refine lv_if_lt (tgt := 100) hx hb dX11_missingOf_44 (by decide) (fun c9 => absurd c9 (by decide)) (fun _ => ?_)
      refine lv_aload_n hx hb dX11_missingOf_47 rfl (lv_at hl 3 rfl) ?_
      refine va_get (D := (dC, dI)) (ci := 11) (v := .ref (ra 15)) (C := RX11) (T := TX11) (N := 61) hx hb hts hin11 hown hK hP 0 rfl rfl 32 (by decide) (hts (.fieldLink RX11 79 "PathProberModel" "met" "[J") (List.mem_of_getElem? (i := 1) (by decide +kernel))) (fun _ h9 => h9) rfl dX11_missingOf_48 ?_
      refine lv_iload hx hb dX11_missingOf_51 (lv_at hl 0 rfl) ?_
      refine va_lald hx hb hK hP 1 2 rfl rfl (vp_in_nI (n := 2) (by decide) (by decide)) dX11_missingOf_53 ?_
      refine lv_topl (fun z21 e22 => ?_)
      obtain rfl : z21 = (fa 2 : Int64) := e22
      refine lv_iload hx hb dX11_missingOf_54 (lv_at hl 0 rfl) ?_
      refine lv_i2l (v := 2) hx hb dX11_missingOf_56 (by decide) ?_
      refine lv_lmul hx hb dX11_missingOf_57 ?_
      refine lv_iload_n hx hb dX11_missingOf_58 rfl (lv_at hl 5 rfl) ?_
      refine lv_i2l (v := 5) hx hb dX11_missingOf_59 (by decide) ?_
      refine lv_ldiv hx hb dX11_missingOf_60 (by decide) ?_
      refine lv_lstore (lv' := [(5, .long (((fa 2) * 2) / 5)), (4, .int 2), (3, .int (nI i)), (0, .ref m0), (1, .int (nI k)), (2, .int 5)]) hx hb dX11_missingOf_61 hl (by decide) rfl (fun ls hl => ?_)
      refine lv_aload_n hx hb dX11_missingOf_63 rfl (lv_at hl 3 rfl) ?_
      refine va_get (D := (dC, dI)) (ci := 11) (v := .ref (ra 15)) (C := RX11) (T := TX11) (N := 61) hx hb hts hin11 hown hK hP 0 rfl rfl 32 (by decide) (hts (.fieldLink RX11 79 "PathProberModel" "met" "[J") (List.mem_of_getElem? (i := 1) (by decide +kernel))) (fun _ h9 => h9) rfl dX11_missingOf_64 ?_
      refine lv_iload hx hb dX11_missingOf_67 (lv_at hl 1 rfl) ?_
      refine lv_iconst (v := 1) hx hb dX11_missingOf_69 (by decide) ?_
      refine lv_iadd hx hb dX11_missingOf_70 ?_
      refine lv_topi (fun z23 e24 => ?_)
      obtain rfl : z23 = (3 : Int32) := e24.trans (by decide)
      refine lv_dup2_11 hx hb dX11_missingOf_71 rfl rfl ?_
      refine va_lald hx hb hK hP 1 2 rfl rfl (vp_in_nI (n := 3) (by decide) (by decide)) dX11_missingOf_72 ?_
      refine lv_topl (fun z25 e26 => ?_)
      obtain rfl : z25 = (((fa 3) * 3) / 5 : Int64) := e26
      refine lv_aload_n hx hb dX11_missingOf_73 rfl (lv_at hl 3 rfl) ?_
      refine va_get (D := (dC, dI)) (ci := 11) (v := .ref (ra 15)) (C := RX11) (T := TX11) (N := 61) hx hb hts hin11 hown hK hP 0 rfl rfl 32 (by decide) (hts (.fieldLink RX11 79 "PathProberModel" "met" "[J") (List.mem_of_getElem? (i := 1) (by decide +kernel))) (fun _ h9 => h9) rfl dX11_missingOf_74 ?_
      refine lv_iload hx hb dX11_missingOf_77 (lv_at hl 1 rfl) ?_
      refine va_lald hx hb hK hP 1 2 rfl rfl (vp_in_nI (n := 2) (by decide) (by decide)) dX11_missingOf_79 ?_
      refine lv_topl (fun z27 e28 => ?_)
      obtain rfl : z27 = (fa 2 : Int64) := e28
      refine lv_lload hx hb dX11_missingOf_80 (lv_at hl 0 rfl) ?_
      refine lv_lsub hx hb dX11_missingOf_82 ?_
      refine lv_ladd hx hb dX11_missingOf_83 ?_
      refine va_last hx hb hK hP hD hS 1 2 rfl rfl (vp_in_nI (n := 3) (by decide) (by decide)) dX11_missingOf_84 (fun H locs hP hD hS => ?_)
      have hP : va_P (dC, dI) vwCl [(m0, .inr (11, oX11 ra x0)), (ra 15, .inl (kJ, 24, .inr (.inl (vp_updL (vp_updL (vp_updL (vp_updL (vp_updL fa 5 ((fa 5) + ((fa 4) - (((fa 4) * 4) / 5)))) 4 (((fa 4) * 4) / 5)) 4 ((((fa 4) * 4) / 5) + ((fa 3) - (((fa 3) * 3) / 5)))) 3 (((fa 3) * 3) / 5)) 3 ((((fa 3) * 3) / 5) + ((fa 2) - (((fa 2) * 2) / 5)))))))] H := hP
      have hD : va_D A [(m0, .inr (11, oX11 ra x0)), (ra 15, .inl (kJ, 24, .inr (.inl (vp_updL (vp_updL (vp_updL (vp_updL (vp_updL fa 5 ((fa 5) + ((fa 4) - (((fa 4) * 4) / 5)))) 4 (((fa 4) * 4) / 5)) 4 ((((fa 4) * 4) / 5) + ((fa 3) - (((fa 3) * 3) / 5)))) 3 (((fa 3) * 3) / 5)) 3 ((((fa 3) * 3) / 5) + ((fa 2) - (((fa 2) * 2) / 5)))))))] := hD
      refine lv_aload_n hx hb dX11_missingOf_85 rfl (lv_at hl 3 rfl) ?_
      refine va_get (D := (dC, dI)) (ci := 11) (v := .ref (ra 15)) (C := RX11) (T := TX11) (N := 61) hx hb hts hin11 hown hK hP 0 rfl rfl 32 (by decide) (hts (.fieldLink RX11 79 "PathProberModel" "met" "[J") (List.mem_of_getElem? (i := 1) (by decide +kernel))) (fun _ h9 => h9) rfl dX11_missingOf_86 ?_
      refine lv_iload hx hb dX11_missingOf_89 (lv_at hl 1 rfl) ?_
      refine lv_lload hx hb dX11_missingOf_91 (lv_at hl 0 rfl) ?_
      refine va_last hx hb hK hP hD hS 1 2 rfl rfl (vp_in_nI (n := 2) (by decide) (by decide)) dX11_missingOf_93 (fun H locs hP hD hS => ?_)
      have hP : va_P (dC, dI) vwCl [(m0, .inr (11, oX11 ra x0)), (ra 15, .inl (kJ, 24, .inr (.inl (vp_updL (vp_updL (vp_updL (vp_updL (vp_updL (vp_updL fa 5 ((fa 5) + ((fa 4) - (((fa 4) * 4) / 5)))) 4 (((fa 4) * 4) / 5)) 4 ((((fa 4) * 4) / 5) + ((fa 3) - (((fa 3) * 3) / 5)))) 3 (((fa 3) * 3) / 5)) 3 ((((fa 3) * 3) / 5) + ((fa 2) - (((fa 2) * 2) / 5)))) 2 (((fa 2) * 2) / 5)))))] H := hP
      have hD : va_D A [(m0, .inr (11, oX11 ra x0)), (ra 15, .inl (kJ, 24, .inr (.inl (vp_updL (vp_updL (vp_updL (vp_updL (vp_updL (vp_updL fa 5 ((fa 5) + ((fa 4) - (((fa 4) * 4) / 5)))) 4 (((fa 4) * 4) / 5)) 4 ((((fa 4) * 4) / 5) + ((fa 3) - (((fa 3) * 3) / 5)))) 3 (((fa 3) * 3) / 5)) 3 ((((fa 3) * 3) / 5) + ((fa 2) - (((fa 2) * 2) / 5)))) 2 (((fa 2) * 2) / 5)))))] := hD
      refine lv_iinc (v := 1) (lv' := [(4, .int 1), (5, .long (((fa 2) * 2) / 5)), (3, .int (nI i)), (0, .ref m0), (1, .int (nI k)), (2, .int 5)]) hx hb dX11_missingOf_94 hl (k := 1) rfl (by decide) (by decide) rfl (fun ls hl => ?_)
      refine lv_goto (tgt := 42) hx hb dX11_missingOf_97 (by decide) ?_
      refine lv_iload hx hb dX11_missingOf_42 (lv_at hl 0 rfl) ?_
      refine lv_if_lt (tgt := 100) hx hb dX11_missingOf_44 (by decide) (fun c9 => absurd c9 (by decide)) (fun _ => ?_)
      refine lv_aload_n hx hb dX11_missingOf_47 rfl (lv_at hl 3 rfl) ?_
      refine va_get (D := (dC, dI)) (ci := 11) (v := .ref (ra 15)) (C := RX11) (T := TX11) (N := 61) hx hb hts hin11 hown hK hP 0 rfl rfl 32 (by decide) (hts (.fieldLink RX11 79 "PathProberModel" "met" "[J") (List.mem_of_getElem? (i := 1) (by decide +kernel))) (fun _ h9 => h9) rfl dX11_missingOf_48 ?_
      refine lv_iload hx hb dX11_missingOf_51 (lv_at hl 0 rfl) ?_
      refine va_lald hx hb hK hP 1 2 rfl rfl (vp_in_nI (n := 1) (by decide) (by decide)) dX11_missingOf_53 ?_
      refine lv_topl (fun z29 e30 => ?_)
      obtain rfl : z29 = (fa 1 : Int64) := e30
      refine lv_iload hx hb dX11_missingOf_54 (lv_at hl 0 rfl) ?_
      refine lv_i2l (v := 1) hx hb dX11_missingOf_56 (by decide) ?_
      refine lv_lmul hx hb dX11_missingOf_57 ?_
      refine lv_iload_n hx hb dX11_missingOf_58 rfl (lv_at hl 5 rfl) ?_
      refine lv_i2l (v := 5) hx hb dX11_missingOf_59 (by decide) ?_
      refine lv_ldiv hx hb dX11_missingOf_60 (by decide) ?_
      refine lv_lstore (lv' := [(5, .long (((fa 1) * 1) / 5)), (4, .int 1), (3, .int (nI i)), (0, .ref m0), (1, .int (nI k)), (2, .int 5)]) hx hb dX11_missingOf_61 hl (by decide) rfl (fun ls hl => ?_)
      refine lv_aload_n hx hb dX11_missingOf_63 rfl (lv_at hl 3 rfl) ?_
      refine va_get (D := (dC, dI)) (ci := 11) (v := .ref (ra 15)) (C := RX11) (T := TX11) (N := 61) hx hb hts hin11 hown hK hP 0 rfl rfl 32 (by decide) (hts (.fieldLink RX11 79 "PathProberModel" "met" "[J") (List.mem_of_getElem? (i := 1) (by decide +kernel))) (fun _ h9 => h9) rfl dX11_missingOf_64 ?_
      refine lv_iload hx hb dX11_missingOf_67 (lv_at hl 1 rfl) ?_
      refine lv_iconst (v := 1) hx hb dX11_missingOf_69 (by decide) ?_
      refine lv_iadd hx hb dX11_missingOf_70 ?_
      refine lv_topi (fun z31 e32 => ?_)
      obtain rfl : z31 = (2 : Int32) := e32.trans (by decide)
      refine lv_dup2_11 hx hb dX11_missingOf_71 rfl rfl ?_
      refine va_lald hx hb hK hP 1 2 rfl rfl (vp_in_nI (n := 2) (by decide) (by decide)) dX11_missingOf_72 ?_
      refine lv_topl (fun z33 e34 => ?_)
      obtain rfl : z33 = (((fa 2) * 2) / 5 : Int64) := e34
      refine lv_aload_n hx hb dX11_missingOf_73 rfl (lv_at hl 3 rfl) ?_
      refine va_get (D := (dC, dI)) (ci := 11) (v := .ref (ra 15)) (C := RX11) (T := TX11) (N := 61) hx hb hts hin11 hown hK hP 0 rfl rfl 32 (by decide) (hts (.fieldLink RX11 79 "PathProberModel" "met" "[J") (List.mem_of_getElem? (i := 1) (by decide +kernel))) (fun _ h9 => h9) rfl dX11_missingOf_74 ?_
      refine lv_iload hx hb dX11_missingOf_77 (lv_at hl 1 rfl) ?_
      refine va_lald hx hb hK hP 1 2 rfl rfl (vp_in_nI (n := 1) (by decide) (by decide)) dX11_missingOf_79 ?_
      refine lv_topl (fun z35 e36 => ?_)
      obtain rfl : z35 = (fa 1 : Int64) := e36
      refine lv_lload hx hb dX11_missingOf_80 (lv_at hl 0 rfl) ?_
      refine lv_lsub hx hb dX11_missingOf_82 ?_
      refine lv_ladd hx hb dX11_missingOf_83 ?_
      refine va_last hx hb hK hP hD hS 1 2 rfl rfl (vp_in_nI (n := 2) (by decide) (by decide)) dX11_missingOf_84 (fun H locs hP hD hS => ?_)
      have hP : va_P (dC, dI) vwCl [(m0, .inr (11, oX11 ra x0)), (ra 15, .inl (kJ, 24, .inr (.inl (vp_updL (vp_updL (vp_updL (vp_updL (vp_updL (vp_updL (vp_updL fa 5 ((fa 5) + ((fa 4) - (((fa 4) * 4) / 5)))) 4 (((fa 4) * 4) / 5)) 4 ((((fa 4) * 4) / 5) + ((fa 3) - (((fa 3) * 3) / 5)))) 3 (((fa 3) * 3) / 5)) 3 ((((fa 3) * 3) / 5) + ((fa 2) - (((fa 2) * 2) / 5)))) 2 (((fa 2) * 2) / 5)) 2 ((((fa 2) * 2) / 5) + ((fa 1) - (((fa 1) * 1) / 5)))))))] H := hP
      have hD : va_D A [(m0, .inr (11, oX11 ra x0)), (ra 15, .inl (kJ, 24, .inr (.inl (vp_updL (vp_updL (vp_updL (vp_updL (vp_updL (vp_updL (vp_updL fa 5 ((fa 5) + ((fa 4) - (((fa 4) * 4) / 5)))) 4 (((fa 4) * 4) / 5)) 4 ((((fa 4) * 4) / 5) + ((fa 3) - (((fa 3) * 3) / 5)))) 3 (((fa 3) * 3) / 5)) 3 ((((fa 3) * 3) / 5) + ((fa 2) - (((fa 2) * 2) / 5)))) 2 (((fa 2) * 2) / 5)) 2 ((((fa 2) * 2) / 5) + ((fa 1) - (((fa 1) * 1) / 5)))))))] := hD
      refine lv_aload_n hx hb dX11_missingOf_85 rfl (lv_at hl 3 rfl) ?_
      refine va_get (D := (dC, dI)) (ci := 11) (v := .ref (ra 15)) (C := RX11) (T := TX11) (N := 61) hx hb hts hin11 hown hK hP 0 rfl rfl 32 (by decide) (hts (.fieldLink RX11 79 "PathProberModel" "met" "[J") (List.mem_of_getElem? (i := 1) (by decide +kernel))) (fun _ h9 => h9) rfl dX11_missingOf_86 ?_
      refine lv_iload hx hb dX11_missingOf_89 (lv_at hl 1 rfl) ?_
      refine lv_lload hx hb dX11_missingOf_91 (lv_at hl 0 rfl) ?_
      refine va_last hx hb hK hP hD hS 1 2 rfl rfl (vp_in_nI (n := 1) (by decide) (by decide)) dX11_missingOf_93 (fun H locs hP hD hS => ?_)
      have hP : va_P (dC, dI) vwCl [(m0, .inr (11, oX11 ra x0)), (ra 15, .inl (kJ, 24, .inr (.inl (vp_updL (vp_updL (vp_updL (vp_updL (vp_updL (vp_updL (vp_updL (vp_updL fa 5 ((fa 5) + ((fa 4) - (((fa 4) * 4) / 5)))) 4 (((fa 4) * 4) / 5)) 4 ((((fa 4) * 4) / 5) + ((fa 3) - (((fa 3) * 3) / 5)))) 3 (((fa 3) * 3) / 5)) 3 ((((fa 3) * 3) / 5) + ((fa 2) - (((fa 2) * 2) / 5)))) 2 (((fa 2) * 2) / 5)) 2 ((((fa 2) * 2) / 5) + ((fa 1) - (((fa 1) * 1) / 5)))) 1 (((fa 1) * 1) / 5)))))] H := hP
      have hD : va_D A [(m0, .inr (11, oX11 ra x0)), (ra 15, .inl (kJ, 24, .inr (.inl (vp_updL (vp_updL (vp_updL (vp_updL (vp_updL (vp_updL (vp_updL (vp_updL fa 5 ((fa 5) + ((fa 4) - (((fa 4) * 4) / 5)))) 4 (((fa 4) * 4) / 5)) 4 ((((fa 4) * 4) / 5) + ((fa 3) - (((fa 3) * 3) / 5)))) 3 (((fa 3) * 3) / 5)) 3 ((((fa 3) * 3) / 5) + ((fa 2) - (((fa 2) * 2) / 5)))) 2 (((fa 2) * 2) / 5)) 2 ((((fa 2) * 2) / 5) + ((fa 1) - (((fa 1) * 1) / 5)))) 1 (((fa 1) * 1) / 5)))))] := hD
      refine lv_iinc (v := 0) (lv' := [(4, .int 0), (5, .long (((fa 1) * 1) / 5)), (3, .int (nI i)), (0, .ref m0), (1, .int (nI k)), (2, .int 5)]) hx hb dX11_missingOf_94 hl (k := 1) rfl (by decide) (by decide) rfl (fun ls hl => ?_)
      refine lv_goto (tgt := 42) hx hb dX11_missingOf_97 (by decide) ?_
      refine lv_iload hx hb dX11_missingOf_42 (lv_at hl 0 rfl) ?_
      refine lv_if_lt (tgt := 100) hx hb dX11_missingOf_44 (by decide) (fun c9 => absurd c9 (by decide)) (fun _ => ?_)
      refine lv_aload_n hx hb dX11_missingOf_47 rfl (lv_at hl 3 rfl) ?_
      refine va_get (D := (dC, dI)) (ci := 11) (v := .ref (ra 15)) (C := RX11) (T := TX11) (N := 61) hx hb hts hin11 hown hK hP 0 rfl rfl 32 (by decide) (hts (.fieldLink RX11 79 "PathProberModel" "met" "[J") (List.mem_of_getElem? (i := 1) (by decide +kernel))) (fun _ h9 => h9) rfl dX11_missingOf_48 ?_
      refine lv_iload hx hb dX11_missingOf_51 (lv_at hl 0 rfl) ?_
      refine va_lald hx hb hK hP 1 2 rfl rfl (vp_in_nI (n := 0) (by decide) (by decide)) dX11_missingOf_53 ?_
      refine lv_topl (fun z37 e38 => ?_)
      obtain rfl : z37 = (fa 0 : Int64) := e38
      refine lv_iload hx hb dX11_missingOf_54 (lv_at hl 0 rfl) ?_
      refine lv_i2l (v := 0) hx hb dX11_missingOf_56 (by decide) ?_
      refine lv_lmul hx hb dX11_missingOf_57 ?_
      refine lv_iload_n hx hb dX11_missingOf_58 rfl (lv_at hl 5 rfl) ?_
      refine lv_i2l (v := 5) hx hb dX11_missingOf_59 (by decide) ?_
      refine lv_ldiv hx hb dX11_missingOf_60 (by decide) ?_
      refine lv_lstore (lv' := [(5, .long (((fa 0) * 0) / 5)), (4, .int 0), (3, .int (nI i)), (0, .ref m0), (1, .int (nI k)), (2, .int 5)]) hx hb dX11_missingOf_61 hl (by decide) rfl (fun ls hl => ?_)
      refine lv_aload_n hx hb dX11_missingOf_63 rfl (lv_at hl 3 rfl) ?_
      refine va_get (D := (dC, dI)) (ci := 11) (v := .ref (ra 15)) (C := RX11) (T := TX11) (N := 61) hx hb hts hin11 hown hK hP 0 rfl rfl 32 (by decide) (hts (.fieldLink RX11 79 "PathProberModel" "met" "[J") (List.mem_of_getElem? (i := 1) (by decide +kernel))) (fun _ h9 => h9) rfl dX11_missingOf_64 ?_
      refine lv_iload hx hb dX11_missingOf_67 (lv_at hl 1 rfl) ?_
      refine lv_iconst (v := 1) hx hb dX11_missingOf_69 (by decide) ?_
      refine lv_iadd hx hb dX11_missingOf_70 ?_
      refine lv_topi (fun z39 e40 => ?_)
      obtain rfl : z39 = (1 : Int32) := e40.trans (by decide)
      refine lv_dup2_11 hx hb dX11_missingOf_71 rfl rfl ?_
      refine va_lald hx hb hK hP 1 2 rfl rfl (vp_in_nI (n := 1) (by decide) (by decide)) dX11_missingOf_72 ?_
      refine lv_topl (fun z41 e42 => ?_)
      obtain rfl : z41 = (((fa 1) * 1) / 5 : Int64) := e42
      refine lv_aload_n hx hb dX11_missingOf_73 rfl (lv_at hl 3 rfl) ?_
      refine va_get (D := (dC, dI)) (ci := 11) (v := .ref (ra 15)) (C := RX11) (T := TX11) (N := 61) hx hb hts hin11 hown hK hP 0 rfl rfl 32 (by decide) (hts (.fieldLink RX11 79 "PathProberModel" "met" "[J") (List.mem_of_getElem? (i := 1) (by decide +kernel))) (fun _ h9 => h9) rfl dX11_missingOf_74 ?_
      refine lv_iload hx hb dX11_missingOf_77 (lv_at hl 1 rfl) ?_
      refine va_lald hx hb hK hP 1 2 rfl rfl (vp_in_nI (n := 0) (by decide) (by decide)) dX11_missingOf_79 ?_
      refine lv_topl (fun z43 e44 => ?_)
      obtain rfl : z43 = (fa 0 : Int64) := e44
      refine lv_lload hx hb dX11_missingOf_80 (lv_at hl 0 rfl) ?_
      refine lv_lsub hx hb dX11_missingOf_82 ?_
      refine lv_ladd hx hb dX11_missingOf_83 ?_
      refine va_last hx hb hK hP hD hS 1 2 rfl rfl (vp_in_nI (n := 1) (by decide) (by decide)) dX11_missingOf_84 (fun H locs hP hD hS => ?_)
      have hP : va_P (dC, dI) vwCl [(m0, .inr (11, oX11 ra x0)), (ra 15, .inl (kJ, 24, .inr (.inl (vp_updL (vp_updL (vp_updL (vp_updL (vp_updL (vp_updL (vp_updL (vp_updL (vp_updL fa 5 ((fa 5) + ((fa 4) - (((fa 4) * 4) / 5)))) 4 (((fa 4) * 4) / 5)) 4 ((((fa 4) * 4) / 5) + ((fa 3) - (((fa 3) * 3) / 5)))) 3 (((fa 3) * 3) / 5)) 3 ((((fa 3) * 3) / 5) + ((fa 2) - (((fa 2) * 2) / 5)))) 2 (((fa 2) * 2) / 5)) 2 ((((fa 2) * 2) / 5) + ((fa 1) - (((fa 1) * 1) / 5)))) 1 (((fa 1) * 1) / 5)) 1 ((((fa 1) * 1) / 5) + ((fa 0) - (((fa 0) * 0) / 5)))))))] H := hP
      have hD : va_D A [(m0, .inr (11, oX11 ra x0)), (ra 15, .inl (kJ, 24, .inr (.inl (vp_updL (vp_updL (vp_updL (vp_updL (vp_updL (vp_updL (vp_updL (vp_updL (vp_updL fa 5 ((fa 5) + ((fa 4) - (((fa 4) * 4) / 5)))) 4 (((fa 4) * 4) / 5)) 4 ((((fa 4) * 4) / 5) + ((fa 3) - (((fa 3) * 3) / 5)))) 3 (((fa 3) * 3) / 5)) 3 ((((fa 3) * 3) / 5) + ((fa 2) - (((fa 2) * 2) / 5)))) 2 (((fa 2) * 2) / 5)) 2 ((((fa 2) * 2) / 5) + ((fa 1) - (((fa 1) * 1) / 5)))) 1 (((fa 1) * 1) / 5)) 1 ((((fa 1) * 1) / 5) + ((fa 0) - (((fa 0) * 0) / 5)))))))] := hD
      refine lv_aload_n hx hb dX11_missingOf_85 rfl (lv_at hl 3 rfl) ?_
      refine va_get (D := (dC, dI)) (ci := 11) (v := .ref (ra 15)) (C := RX11) (T := TX11) (N := 61) hx hb hts hin11 hown hK hP 0 rfl rfl 32 (by decide) (hts (.fieldLink RX11 79 "PathProberModel" "met" "[J") (List.mem_of_getElem? (i := 1) (by decide +kernel))) (fun _ h9 => h9) rfl dX11_missingOf_86 ?_
      refine lv_iload hx hb dX11_missingOf_89 (lv_at hl 1 rfl) ?_
      refine lv_lload hx hb dX11_missingOf_91 (lv_at hl 0 rfl) ?_
      refine va_last hx hb hK hP hD hS 1 2 rfl rfl (vp_in_nI (n := 0) (by decide) (by decide)) dX11_missingOf_93 (fun H locs hP hD hS => ?_)
      have hP : va_P (dC, dI) vwCl [(m0, .inr (11, oX11 ra x0)), (ra 15, .inl (kJ, 24, .inr (.inl (vp_updL (vp_updL (vp_updL (vp_updL (vp_updL (vp_updL (vp_updL (vp_updL (vp_updL (vp_updL fa 5 ((fa 5) + ((fa 4) - (((fa 4) * 4) / 5)))) 4 (((fa 4) * 4) / 5)) 4 ((((fa 4) * 4) / 5) + ((fa 3) - (((fa 3) * 3) / 5)))) 3 (((fa 3) * 3) / 5)) 3 ((((fa 3) * 3) / 5) + ((fa 2) - (((fa 2) * 2) / 5)))) 2 (((fa 2) * 2) / 5)) 2 ((((fa 2) * 2) / 5) + ((fa 1) - (((fa 1) * 1) / 5)))) 1 (((fa 1) * 1) / 5)) 1 ((((fa 1) * 1) / 5) + ((fa 0) - (((fa 0) * 0) / 5)))) 0 (((fa 0) * 0) / 5)))))] H := hP
      have hD : va_D A [(m0, .inr (11, oX11 ra x0)), (ra 15, .inl (kJ, 24, .inr (.inl (vp_updL (vp_updL (vp_updL (vp_updL (vp_updL (vp_updL (vp_updL (vp_updL (vp_updL (vp_updL fa 5 ((fa 5) + ((fa 4) - (((fa 4) * 4) / 5)))) 4 (((fa 4) * 4) / 5)) 4 ((((fa 4) * 4) / 5) + ((fa 3) - (((fa 3) * 3) / 5)))) 3 (((fa 3) * 3) / 5)) 3 ((((fa 3) * 3) / 5) + ((fa 2) - (((fa 2) * 2) / 5)))) 2 (((fa 2) * 2) / 5)) 2 ((((fa 2) * 2) / 5) + ((fa 1) - (((fa 1) * 1) / 5)))) 1 (((fa 1) * 1) / 5)) 1 ((((fa 1) * 1) / 5) + ((fa 0) - (((fa 0) * 0) / 5)))) 0 (((fa 0) * 0) / 5)))))] := hD
      refine lv_iinc (v := (-1)) (lv' := [(4, .int (-1)), (5, .long (((fa 0) * 0) / 5)), (3, .int (nI i)), (0, .ref m0), (1, .int (nI k)), (2, .int 5)]) hx hb dX11_missingOf_94 hl (k := 1) rfl (by decide) (by decide) rfl (fun ls hl => ?_)
      refine lv_goto (tgt := 42) hx hb dX11_missingOf_97 (by decide) ?_
      refine lv_iload hx hb dX11_missingOf_42 (lv_at hl 0 rfl) ?_
      refine lv_if_lt (tgt := 100) hx hb dX11_missingOf_44 (by decide) (fun _ => ?_) (fun c9 => absurd (by decide) c9)
      refine lv_iinc (v := nI (i + 1)) (lv' := [(3, .int (nI (i + 1))), (4, .int (-1)), (5, .long (((fa 0) * 0) / 5)), (0, .ref m0), (1, .int (nI k)), (2, .int 5)]) hx hb dX11_missingOf_100 hl (k := 2) rfl (nI_1 i) (by decide) rfl (fun ls hl => ?_)
      refine lv_goto (tgt := 32) hx hb dX11_missingOf_103 (by decide) ?_
      exact ih (i + 1) (vp_updL (vp_updL (vp_updL (vp_updL (vp_updL (vp_updL (vp_updL (vp_updL (vp_updL (vp_updL fa 5 ((fa 5) + ((fa 4) - (((fa 4) * 4) / 5)))) 4 (((fa 4) * 4) / 5)) 4 ((((fa 4) * 4) / 5) + ((fa 3) - (((fa 3) * 3) / 5)))) 3 (((fa 3) * 3) / 5)) 3 ((((fa 3) * 3) / 5) + ((fa 2) - (((fa 2) * 2) / 5)))) 2 (((fa 2) * 2) / 5)) 2 ((((fa 2) * 2) / 5) + ((fa 1) - (((fa 1) * 1) / 5)))) 1 (((fa 1) * 1) / 5)) 1 ((((fa 1) * 1) / 5) + ((fa 0) - (((fa 0) * 0) / 5)))) 0 (((fa 0) * 0) / 5)) _ _ _ (by omega) (Eq.trans (show ((vp_updL (vp_updL (vp_updL (vp_updL (vp_updL (vp_updL (vp_updL (vp_updL (vp_updL (vp_updL fa 5 ((fa 5) + ((fa 4) - (((fa 4) * 4) / 5)))) 4 (((fa 4) * 4) / 5)) 4 ((((fa 4) * 4) / 5) + ((fa 3) - (((fa 3) * 3) / 5)))) 3 (((fa 3) * 3) / 5)) 3 ((((fa 3) * 3) / 5) + ((fa 2) - (((fa 2) * 2) / 5)))) 2 (((fa 2) * 2) / 5)) 2 ((((fa 2) * 2) / 5) + ((fa 1) - (((fa 1) * 1) / 5)))) 1 (((fa 1) * 1) / 5)) 1 ((((fa 1) * 1) / 5) + ((fa 0) - (((fa 0) * 0) / 5)))) 0 (((fa 0) * 0) / 5))) 0 = fa 0 * 0 / 5 from rfl) (by rw [hf0]; exact kvs5_0 i (by omega))) (Eq.trans (show ((vp_updL (vp_updL (vp_updL (vp_updL (vp_updL (vp_updL (vp_updL (vp_updL (vp_updL (vp_updL fa 5 ((fa 5) + ((fa 4) - (((fa 4) * 4) / 5)))) 4 (((fa 4) * 4) / 5)) 4 ((((fa 4) * 4) / 5) + ((fa 3) - (((fa 3) * 3) / 5)))) 3 (((fa 3) * 3) / 5)) 3 ((((fa 3) * 3) / 5) + ((fa 2) - (((fa 2) * 2) / 5)))) 2 (((fa 2) * 2) / 5)) 2 ((((fa 2) * 2) / 5) + ((fa 1) - (((fa 1) * 1) / 5)))) 1 (((fa 1) * 1) / 5)) 1 ((((fa 1) * 1) / 5) + ((fa 0) - (((fa 0) * 0) / 5)))) 0 (((fa 0) * 0) / 5))) 1 = fa 1 * 1 / 5 + (fa 0 - fa 0 * 0 / 5) from rfl) (by rw [hf0, hf1]; exact kvs5_1 i (by omega))) (Eq.trans (show ((vp_updL (vp_updL (vp_updL (vp_updL (vp_updL (vp_updL (vp_updL (vp_updL (vp_updL (vp_updL fa 5 ((fa 5) + ((fa 4) - (((fa 4) * 4) / 5)))) 4 (((fa 4) * 4) / 5)) 4 ((((fa 4) * 4) / 5) + ((fa 3) - (((fa 3) * 3) / 5)))) 3 (((fa 3) * 3) / 5)) 3 ((((fa 3) * 3) / 5) + ((fa 2) - (((fa 2) * 2) / 5)))) 2 (((fa 2) * 2) / 5)) 2 ((((fa 2) * 2) / 5) + ((fa 1) - (((fa 1) * 1) / 5)))) 1 (((fa 1) * 1) / 5)) 1 ((((fa 1) * 1) / 5) + ((fa 0) - (((fa 0) * 0) / 5)))) 0 (((fa 0) * 0) / 5))) 2 = fa 2 * 2 / 5 + (fa 1 - fa 1 * 1 / 5) from rfl) (by rw [hf1, hf2]; exact kvs5_2 i (by omega))) (Eq.trans (show ((vp_updL (vp_updL (vp_updL (vp_updL (vp_updL (vp_updL (vp_updL (vp_updL (vp_updL (vp_updL fa 5 ((fa 5) + ((fa 4) - (((fa 4) * 4) / 5)))) 4 (((fa 4) * 4) / 5)) 4 ((((fa 4) * 4) / 5) + ((fa 3) - (((fa 3) * 3) / 5)))) 3 (((fa 3) * 3) / 5)) 3 ((((fa 3) * 3) / 5) + ((fa 2) - (((fa 2) * 2) / 5)))) 2 (((fa 2) * 2) / 5)) 2 ((((fa 2) * 2) / 5) + ((fa 1) - (((fa 1) * 1) / 5)))) 1 (((fa 1) * 1) / 5)) 1 ((((fa 1) * 1) / 5) + ((fa 0) - (((fa 0) * 0) / 5)))) 0 (((fa 0) * 0) / 5))) 3 = fa 3 * 3 / 5 + (fa 2 - fa 2 * 2 / 5) from rfl) (by rw [hf2, hf3]; exact kvs5_3 i (by omega))) (Eq.trans (show ((vp_updL (vp_updL (vp_updL (vp_updL (vp_updL (vp_updL (vp_updL (vp_updL (vp_updL (vp_updL fa 5 ((fa 5) + ((fa 4) - (((fa 4) * 4) / 5)))) 4 (((fa 4) * 4) / 5)) 4 ((((fa 4) * 4) / 5) + ((fa 3) - (((fa 3) * 3) / 5)))) 3 (((fa 3) * 3) / 5)) 3 ((((fa 3) * 3) / 5) + ((fa 2) - (((fa 2) * 2) / 5)))) 2 (((fa 2) * 2) / 5)) 2 ((((fa 2) * 2) / 5) + ((fa 1) - (((fa 1) * 1) / 5)))) 1 (((fa 1) * 1) / 5)) 1 ((((fa 1) * 1) / 5) + ((fa 0) - (((fa 0) * 0) / 5)))) 0 (((fa 0) * 0) / 5))) 4 = fa 4 * 4 / 5 + (fa 3 - fa 3 * 3 / 5) from rfl) (by rw [hf3, hf4]; exact kvs5_4 i (by omega))) (Eq.trans (show ((vp_updL (vp_updL (vp_updL (vp_updL (vp_updL (vp_updL (vp_updL (vp_updL (vp_updL (vp_updL fa 5 ((fa 5) + ((fa 4) - (((fa 4) * 4) / 5)))) 4 (((fa 4) * 4) / 5)) 4 ((((fa 4) * 4) / 5) + ((fa 3) - (((fa 3) * 3) / 5)))) 3 (((fa 3) * 3) / 5)) 3 ((((fa 3) * 3) / 5) + ((fa 2) - (((fa 2) * 2) / 5)))) 2 (((fa 2) * 2) / 5)) 2 ((((fa 2) * 2) / 5) + ((fa 1) - (((fa 1) * 1) / 5)))) 1 (((fa 1) * 1) / 5)) 1 ((((fa 1) * 1) / 5) + ((fa 0) - (((fa 0) * 0) / 5)))) 0 (((fa 0) * 0) / 5))) 5 = fa 5 + (fa 4 - fa 4 * 4 / 5) from rfl) (by rw [hf4, hf5]; exact kvs5_5 i (by omega))) (hP.sub [0, 1] rfl) (hD.sub [0, 1] (by decide) rfl) hS (lv_sub hl [0, 3, 4, 5] rfl)
  exact hloop32 k 0 (vp_updL (vp_updL (vp_updL (vp_updL (vp_updL (vp_updL f1 0 1000000000000) 1 0) 2 0) 3 0) 4 0) 5 0) _ _ _ (Nat.zero_add _) (rfl) (rfl) (rfl) (rfl) (rfl) (rfl) hP hD hS (lv_sub hl [0, 1, 2, 3] rfl)
