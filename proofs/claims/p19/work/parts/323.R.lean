def rm_s11_ways : Room := { frames := 1, cells := 0, slots := 0, locals := 20 }
set_option maxHeartbeats 4000000 in
set_option maxRecDepth 100000 in
theorem s11_ways (l : Launch) (dC : Nat → ClassId) (dI : Nat → Nat → Nat) (kB kI kJ kZ kC kS : ClassId) (sz : Nat) (m0 : Nat) (ra : Nat → Nat) (x0 : Nat → Int32) (q_told : Nat → Int32) (q_from : Nat → Int32) (q_to : Nat → Int32) (q_goal : Nat → Int32) (q_waysTo : Nat → Int32) (p0 : Int32) (hX : fI lX11 hX11 x0) (hq_told : fI lTold hTold q_told) (hq_from : fI (fun _ => 0) (fun _ => 11) q_from) (hq_to : fI (fun _ => 0) (fun _ => 11) q_to) (hq_goal : fI (fun _ => 0) (fun _ => 11) q_goal) (hp0 : iv 0 2 p0) : Met l yX11_ways wsX11_ways rm_s11_ways (va_Pc [.ref m0, .int p0] (fun U => U.heap.size = sz ∧ va_P (dC, dI) vwCl [(m0, .inr (11, oX11 ra x0)), (ra 2, .inl (kI, 8, .inl q_told)), (ra 8, .inl (kI, 40, .inl q_from)), (ra 9, .inl (kI, 40, .inl q_to)), (ra 10, .inl (kI, 6, .inl q_goal)), (ra 18, .inl (kI, 12, .inl q_waysTo))] U.heap ∧ kE dC dI kB kI kJ kZ kC kS U ∧ va_D (fun _ => True) [(m0, .inr (11, oX11 ra x0)), (ra 2, .inl (kI, 8, .inl q_told)), (ra 8, .inl (kI, 40, .inl q_from)), (ra 9, .inl (kI, 40, .inl q_to)), (ra 10, .inl (kI, 6, .inl q_goal)), (ra 18, .inl (kI, 12, .inl q_waysTo))])) (va_Qi (fun (r : Int32) (_ : Unit) => True) (fun _ t => ∃ (q_waysTo' : Nat → Int32), va_P (dC, dI) vwCl [(m0, .inr (11, oX11 ra x0)), (ra 2, .inl (kI, 8, .inl q_told)), (ra 8, .inl (kI, 40, .inl q_from)), (ra 9, .inl (kI, 40, .inl q_to)), (ra 10, .inl (kI, 6, .inl q_goal)), (ra 18, .inl (kI, 12, .inl q_waysTo'))] t.heap ∧ va_D (va_A [(m0, .inr (11, oX11 ra x0)), (ra 2, .inl (kI, 8, .inl q_told)), (ra 8, .inl (kI, 40, .inl q_from)), (ra 9, .inl (kI, 40, .inl q_to)), (ra 10, .inl (kI, 6, .inl q_goal)), (ra 18, .inl (kI, 12, .inl q_waysTo))] sz) [(m0, .inr (11, oX11 ra x0)), (ra 2, .inl (kI, 8, .inl q_told)), (ra 8, .inl (kI, 40, .inl q_from)), (ra 9, .inl (kI, 40, .inl q_to)), (ra 10, .inl (kI, 6, .inl q_goal)), (ra 18, .inl (kI, 12, .inl q_waysTo'))]) (va_A [(m0, .inr (11, oX11 ra x0)), (ra 2, .inl (kI, 8, .inl q_told)), (ra 8, .inl (kI, 40, .inl q_from)), (ra 9, .inl (kI, 40, .inl q_to)), (ra 10, .inl (kI, 6, .inl q_goal)), (ra 18, .inl (kI, 12, .inl q_waysTo))] sz)) 0 0 (va_A [(m0, .inr (11, oX11 ra x0)), (ra 2, .inl (kI, 8, .inl q_told)), (ra 8, .inl (kI, 40, .inl q_from)), (ra 9, .inl (kI, 40, .inl q_to)), (ra 10, .inl (kI, 6, .inl q_goal)), (ra 18, .inl (kI, 12, .inl q_waysTo))] sz) := by
  refine Met.ofW (cc := cX11_ways) (maxL := 4) (ret := (some .int)) (by decide) rfl ?_
  intro p e s m args0 below meth c s₁ B hml hv
  obtain ⟨hargs, hsz, hP, hE, hD0⟩ := hv
  have hx := B.exec
  have hb := B.bytes
  have hr := B.returns
  have hts := atoms_spec (ws := wsX11_ways) B.pre
  have hown : s.vm.findClass RX11 = some m.cls := findClass_of_methodNamed B.named
  have hlocks := B.notSynchronized
  have hK := hE.1
  have hin11 : ∀ w ∈ wsX110, w ∈ wsX11_ways := fun _ h9 => List.mem_cons_of_mem _ (List.mem_append_right _ h9)
  have hw_0 := hts (.fieldLink RX11 53 "PathProberModel" "from" "[I") (List.mem_of_getElem? (i := 2) rfl)
  have hw_1 := hts (.fieldLink RX11 91 "PathProberModel" "waysTo" "[I") (List.mem_of_getElem? (i := 1) rfl)
  have hw_2 := hts (.fieldLink RX11 56 "PathProberModel" "to" "[I") (List.mem_of_getElem? (i := 3) rfl)
  have hw_3 := hts (.fieldLink RX11 58 "PathProberModel" "goal" "[I") (List.mem_of_getElem? (i := 4) rfl)
  subst hsz
  have hD := hD0.self (sz := s.heap.size)
  generalize hAe : va_A [(m0, .inr (11, oX11 ra x0)), (ra 2, .inl (kI, 8, .inl q_told)), (ra 8, .inl (kI, 40, .inl q_from)), (ra 9, .inl (kI, 40, .inl q_to)), (ra 10, .inl (kI, 6, .inl q_goal)), (ra 18, .inl (kI, 12, .inl q_waysTo))] s.heap.size = A at hD ⊢
  have hA : ∀ q : Nat, s.heap.size ≤ q → A q := fun q h => by rw [← hAe]; exact Or.inr h
  have hS : va_S A s.heap s.heap [] := va_S.rf
  have hP : va_P (dC, dI) vwCl [(m0, .inr (11, oX11 ra x0)), (ra 2, .inl (kI, 8, .inl q_told)), (ra 8, .inl (kI, 40, .inl q_from)), (ra 9, .inl (kI, 40, .inl q_to)), (ra 10, .inl (kI, 6, .inl q_goal)), (ra 18, .inl (kI, 12, .inl q_waysTo))] s.heap := hP
  have hl := lv_entry ([.ref m0, .int p0]) (n := 4) (Nat.le_of_ble_eq_true rfl)
  have hla : entryFrame m args0 4 = entryFrame m ([.ref m0, .int p0] : List Value).toArray 4 := by rw [hargs]
  rw [hla, lg_entry_eq]
  generalize (lg_sl ([.ref m0, .int p0]) ++ List.replicate (4 - (lg_sl ([.ref m0, .int p0])).length) Slot.unset).toArray = ls at hl ⊢
  have hl : lv_has ls 4 [(0, .ref m0), (1, .int p0)] := hl
  have hJ31 : ∀ (n : Nat) (g31_5 : Nat → Int32) (v31_loc2 : Int32) (H : Heap) (locs : List Loc) (ls : Array Slot), (12 - v31_loc2.toInt).toNat < n → iv 0 12 v31_loc2 → (x0 1 = x0 1) → (x0 10 = x0 10) → (x0 11 = x0 11) → (x0 14 = x0 14) → va_P (dC, dI) vwCl [(m0, .inr (11, oX11 ra x0)), (ra 2, .inl (kI, 8, .inl q_told)), (ra 8, .inl (kI, 40, .inl q_from)), (ra 9, .inl (kI, 40, .inl q_to)), (ra 10, .inl (kI, 6, .inl q_goal)), (ra 18, .inl (kI, 12, .inl g31_5))] H → va_D A [(m0, .inr (11, oX11 ra x0)), (ra 2, .inl (kI, 8, .inl q_told)), (ra 8, .inl (kI, 40, .inl q_from)), (ra 9, .inl (kI, 40, .inl q_to)), (ra 10, .inl (kI, 6, .inl q_goal)), (ra 18, .inl (kI, 12, .inl g31_5))] → va_S A s.heap H locs → lv_has ls 4 [(0, .ref m0), (1, .int p0), (2, .int v31_loc2)] → W p l e (headSpec wsX11_ways rm_s11_ways).room s m args0 below meth c H locs (0) (0) (MQ below (va_Qi (fun (r : Int32) (_ : Unit) => True) (fun _ t => ∃ (q_waysTo' : Nat → Int32), va_P (dC, dI) vwCl [(m0, .inr (11, oX11 ra x0)), (ra 2, .inl (kI, 8, .inl q_told)), (ra 8, .inl (kI, 40, .inl q_from)), (ra 9, .inl (kI, 40, .inl q_to)), (ra 10, .inl (kI, 6, .inl q_goal)), (ra 18, .inl (kI, 12, .inl q_waysTo'))] t.heap ∧ va_D A [(m0, .inr (11, oX11 ra x0)), (ra 2, .inl (kI, 8, .inl q_told)), (ra 8, .inl (kI, 40, .inl q_from)), (ra 9, .inl (kI, 40, .inl q_to)), (ra 10, .inl (kI, 6, .inl q_goal)), (ra 18, .inl (kI, 12, .inl q_waysTo'))]) A) args0 s 0 0 A) (F0 m 31 ls []) := by
    intro n
    induction n with
    | zero => intro g31_5 v31_loc2 H locs ls hm31; exact absurd hm31 (Nat.not_lt_zero _)
    | succ n ih31 =>
      intro g31_5 v31_loc2 H locs ls hm31 h31_1 htp_31 hfp_31 hor_31 hirl_31 hP hD hS hl
      have hJ41 : ∀ (n : Nat) (g41_5 : Nat → Int32) (v41_loc3 : Int32) (H : Heap) (locs : List Loc) (ls : Array Slot), (20 - v41_loc3.toInt).toNat < n → iv 0 11 v31_loc2 → iv 0 20 v41_loc3 → iv 1 12 (q_told 0) → (x0 1 = x0 1) → (x0 10 = x0 10) → (x0 11 = x0 11) → (x0 14 = x0 14) → va_P (dC, dI) vwCl [(m0, .inr (11, oX11 ra x0)), (ra 2, .inl (kI, 8, .inl q_told)), (ra 8, .inl (kI, 40, .inl q_from)), (ra 9, .inl (kI, 40, .inl q_to)), (ra 10, .inl (kI, 6, .inl q_goal)), (ra 18, .inl (kI, 12, .inl g41_5))] H → va_D A [(m0, .inr (11, oX11 ra x0)), (ra 2, .inl (kI, 8, .inl q_told)), (ra 8, .inl (kI, 40, .inl q_from)), (ra 9, .inl (kI, 40, .inl q_to)), (ra 10, .inl (kI, 6, .inl q_goal)), (ra 18, .inl (kI, 12, .inl g41_5))] → va_S A s.heap H locs → lv_has ls 4 [(0, .ref m0), (1, .int p0), (2, .int v31_loc2), (3, .int v41_loc3)] → W p l e (headSpec wsX11_ways rm_s11_ways).room s m args0 below meth c H locs (0) (0) (MQ below (va_Qi (fun (r : Int32) (_ : Unit) => True) (fun _ t => ∃ (q_waysTo' : Nat → Int32), va_P (dC, dI) vwCl [(m0, .inr (11, oX11 ra x0)), (ra 2, .inl (kI, 8, .inl q_told)), (ra 8, .inl (kI, 40, .inl q_from)), (ra 9, .inl (kI, 40, .inl q_to)), (ra 10, .inl (kI, 6, .inl q_goal)), (ra 18, .inl (kI, 12, .inl q_waysTo'))] t.heap ∧ va_D A [(m0, .inr (11, oX11 ra x0)), (ra 2, .inl (kI, 8, .inl q_told)), (ra 8, .inl (kI, 40, .inl q_from)), (ra 9, .inl (kI, 40, .inl q_to)), (ra 10, .inl (kI, 6, .inl q_goal)), (ra 18, .inl (kI, 12, .inl q_waysTo'))]) A) args0 s 0 0 A) (F0 m 41 ls []) := by
        intro n
        induction n with
        | zero => intro g41_5 v41_loc3 H locs ls hm41; exact absurd hm41 (Nat.not_lt_zero _)
        | succ n ih41 =>
          intro g41_5 v41_loc3 H locs ls hm41 h41_1 h41_2 h41_3 htp_41 hfp_41 hor_41 hirl_41 hP hD hS hl
          have hJ79 : ∀ (g79_5 : Nat → Int32) (H : Heap) (locs : List Loc) (ls : Array Slot), iv 0 19 v41_loc3 → iv 1 20 (q_told 1) → (x0 1 = x0 1) → (x0 10 = x0 10) → (x0 11 = x0 11) → (x0 14 = x0 14) → va_P (dC, dI) vwCl [(m0, .inr (11, oX11 ra x0)), (ra 2, .inl (kI, 8, .inl q_told)), (ra 8, .inl (kI, 40, .inl q_from)), (ra 9, .inl (kI, 40, .inl q_to)), (ra 10, .inl (kI, 6, .inl q_goal)), (ra 18, .inl (kI, 12, .inl g79_5))] H → va_D A [(m0, .inr (11, oX11 ra x0)), (ra 2, .inl (kI, 8, .inl q_told)), (ra 8, .inl (kI, 40, .inl q_from)), (ra 9, .inl (kI, 40, .inl q_to)), (ra 10, .inl (kI, 6, .inl q_goal)), (ra 18, .inl (kI, 12, .inl g79_5))] → va_S A s.heap H locs → lv_has ls 4 [(0, .ref m0), (1, .int p0), (2, .int v31_loc2), (3, .int v41_loc3)] → W p l e (headSpec wsX11_ways rm_s11_ways).room s m args0 below meth c H locs (0) (0) (MQ below (va_Qi (fun (r : Int32) (_ : Unit) => True) (fun _ t => ∃ (q_waysTo' : Nat → Int32), va_P (dC, dI) vwCl [(m0, .inr (11, oX11 ra x0)), (ra 2, .inl (kI, 8, .inl q_told)), (ra 8, .inl (kI, 40, .inl q_from)), (ra 9, .inl (kI, 40, .inl q_to)), (ra 10, .inl (kI, 6, .inl q_goal)), (ra 18, .inl (kI, 12, .inl q_waysTo'))] t.heap ∧ va_D A [(m0, .inr (11, oX11 ra x0)), (ra 2, .inl (kI, 8, .inl q_told)), (ra 8, .inl (kI, 40, .inl q_from)), (ra 9, .inl (kI, 40, .inl q_to)), (ra 10, .inl (kI, 6, .inl q_goal)), (ra 18, .inl (kI, 12, .inl q_waysTo'))]) A) args0 s 0 0 A) (F0 m 79 ls []) := by
            intro g79_5 H locs ls h79_1 h79_2 htp_79 hfp_79 hor_79 hirl_79 hP hD hS hl
            refine lv_iinc (v := v41_loc3 + Int32.ofInt 1) (lv' := [(3, .int (v41_loc3 + Int32.ofInt 1)), (0, .ref m0), (1, .int p0), (2, .int v31_loc2)]) hx hb dX11_ways_79 hl (k := 3) rfl (rfl) (Nat.le_of_ble_eq_true rfl) rfl (fun ls hl => ?_)
            have b1 : iv 1 20 (v41_loc3 + Int32.ofInt 1) := iv_add h79_1 ivo_1 (by decide) (by decide) (by decide) (by decide)
            refine lv_goto (tgt := 41) hx hb dX11_ways_82 rfl ?_
            exact ih41 g79_5 (v41_loc3 + Int32.ofInt 1) _ _ _ (ms_up (c := 1) (d := 0) h79_1 hm41 (by decide) (iv_inc 1 h79_1 (by decide) (by decide) (by decide) (by decide)) (by decide) rfl) (h41_1) ((iv_w b1 (by decide) (by decide))) (h41_3) ((show x0 1 = x0 1 from rfl)) ((show x0 10 = x0 10 from rfl)) ((show x0 11 = x0 11 from rfl)) ((show x0 14 = x0 14 from rfl)) (hP) (hD) hS (lv_sub hl [1, 2, 3, 0] rfl)
          refine lv_iload_n hx hb dX11_ways_41 rfl (lv_at hl 3 rfl) ?_
          refine lv_aload_n hx hb dX11_ways_42 rfl (lv_at hl 0 rfl) ?_
          obtain ⟨hPc, hDc, hFc, hJn⟩ := cl_a (wc := [(m0, .inr (11, oX11 ra x0)), (ra 2, .inl (kI, 8, .inl q_told))]) (wr := [(ra 8, .inl (kI, 40, .inl q_from)), (ra 9, .inl (kI, 40, .inl q_to)), (ra 10, .inl (kI, 6, .inl q_goal)), (ra 18, .inl (kI, 12, .inl g41_5))]) hP hD hS hA [0, 1] [2, 3, 4, 5] rfl rfl (by decide +kernel)
          refine va_calli (va_runV (As := []) (rest := [.int v41_loc3]) ⟨hx, hb, hml, hown, hts⟩ (s11_links l dC dI kB kI kJ kZ kC kS H.size m0 ra x0 q_told (hX) (hq_told)) (cwV 0 hts gX11_ways_X11_links rfl rfl rfl (by decide +kernel) ⟨Nat.le_of_ble_eq_true rfl, Nat.le_of_ble_eq_true rfl⟩) ⟨fun a U g mk q => by obtain ⟨q0, q1, qP, qE, qD⟩ := q; exact ⟨q0, q1, qP, kE_call qE, qD⟩, va_recv hK hP (ci := 11) (q0 := 0) rfl rfl, fun U hU hW => ⟨rfl, by rw [hU], by rw [hU]; exact hPc, kE_warm hW hE, hDc.weaken (fun _ _ _ _ => trivial)⟩⟩ rfl rfl hl.1 rfl (lv_room (Nat.le_of_ble_eq_true rfl)) dX11_ways_43 ⟨Nat.le_of_ble_eq_true rfl, Nat.le_of_ble_eq_true rfl⟩) hS (fun q _ h => hFc q h) hFc (fun r2 u t H locs ht hvm w3 hB hz1 hk1 hS => ?_)
          obtain ⟨hP1, hD1⟩ := hB
          try dsimp only at w3
          obtain ⟨hPa, hDa⟩ := hJn (w1 := [(m0, .inr (11, oX11 ra x0)), (ra 2, .inl (kI, 8, .inl q_told))]) hk1 ht hP1 hD1
          clear hP hD hPc hDc hFc hJn hP1 hD1 hk1
          have hP : va_P (dC, dI) vwCl [(ra 8, .inl (kI, 40, .inl q_from)), (ra 9, .inl (kI, 40, .inl q_to)), (ra 10, .inl (kI, 6, .inl q_goal)), (ra 18, .inl (kI, 12, .inl g41_5)), (m0, .inr (11, oX11 ra x0)), (ra 2, .inl (kI, 8, .inl q_told))] H := hPa
          have hD : va_D A [(ra 8, .inl (kI, 40, .inl q_from)), (ra 9, .inl (kI, 40, .inl q_to)), (ra 10, .inl (kI, 6, .inl q_goal)), (ra 18, .inl (kI, 12, .inl g41_5)), (m0, .inr (11, oX11 ra x0)), (ra 2, .inl (kI, 8, .inl q_told))] := hDa
          clear hPa hDa
          refine W.widen (k := 0) (n := 0) (Nat.le_of_ble_eq_true rfl) (Nat.le_of_ble_eq_true rfl) ?_
          subst w3
          refine lv_icmp_ge (tgt := 85) hx hb dX11_ways_46 rfl (fun c4 => ?_) (fun c4 => ?_)
          · refine lv_iinc (v := v31_loc2 + Int32.ofInt 1) (lv' := [(2, .int (v31_loc2 + Int32.ofInt 1)), (0, .ref m0), (1, .int p0), (3, .int v41_loc3)]) hx hb dX11_ways_85 hl (k := 2) rfl (rfl) (Nat.le_of_ble_eq_true rfl) rfl (fun ls hl => ?_)
            have b5 : iv 1 12 (v31_loc2 + Int32.ofInt 1) := iv_add h41_1 ivo_1 (by decide) (by decide) (by decide) (by decide)
            refine lv_goto (tgt := 31) hx hb dX11_ways_88 rfl ?_
            have hPD9 := cl_s (wc := [(m0, .inr (11, oX11 ra x0)), (ra 2, .inl (kI, 8, .inl q_told)), (ra 8, .inl (kI, 40, .inl q_from)), (ra 9, .inl (kI, 40, .inl q_to)), (ra 10, .inl (kI, 6, .inl q_goal)), (ra 18, .inl (kI, 12, .inl g41_5))]) hP hD [4, 5, 0, 1, 2, 3] rfl (by decide +kernel)
            exact ih31 g41_5 (v31_loc2 + Int32.ofInt 1) _ _ _ (ms_up (c := 1) (d := 0) h41_1 hm31 (by decide) (iv_inc 1 h41_1 (by decide) (by decide) (by decide) (by decide)) (by decide) rfl) ((iv_w b5 (by decide) (by decide))) ((show x0 1 = x0 1 from rfl)) ((show x0 10 = x0 10 from rfl)) ((show x0 11 = x0 11 from rfl)) ((show x0 14 = x0 14 from rfl)) (hPD9.1) (hPD9.2) hS (lv_sub hl [1, 2, 0] rfl)
          · have b6 : iv 0 19 v41_loc3 := iv_ltL (Int32.not_le.mp c4) h41_2 (hq_told 1 : iv 0 20 (q_told 1)) (by decide) (by decide)
            have b7 : iv 1 20 (q_told 1) := iv_ltR (Int32.not_le.mp c4) h41_2 (hq_told 1 : iv 0 20 (q_told 1)) (by decide) (by decide)
            refine lv_aload_n hx hb dX11_ways_49 rfl (lv_at hl 0 rfl) ?_
            refine va_get (D := (dC, dI)) (ci := 11) (v := .ref (ra 8)) (C := RX11) (T := TX11) (N := 61) hx hb hts hin11 hown hK hP 4 rfl rfl 9 (Nat.le_of_ble_eq_true rfl) hw_0 (fun _ h9 => h9) rfl dX11_ways_50 ?_
            refine lv_iload_n hx hb dX11_ways_53 rfl (lv_at hl 3 rfl) ?_
            refine va_iald hx hb hK hP 0 1 rfl rfl (iv_in b6 (by decide) (by decide)) dX11_ways_54 ?_
            refine iv_top (a := 0) (b := 11) (hq_from _) (fun z8 b9 => ?_)
            refine lv_iload_n hx hb dX11_ways_55 rfl (lv_at hl 2 rfl) ?_
            refine lv_icmp_ne (tgt := 79) hx hb dX11_ways_56 rfl (fun c10 => ?_) (fun c10 => ?_)
            · have hPD9 := cl_s (wc := [(m0, .inr (11, oX11 ra x0)), (ra 2, .inl (kI, 8, .inl q_told)), (ra 8, .inl (kI, 40, .inl q_from)), (ra 9, .inl (kI, 40, .inl q_to)), (ra 10, .inl (kI, 6, .inl q_goal)), (ra 18, .inl (kI, 12, .inl g41_5))]) hP hD [4, 5, 0, 1, 2, 3] rfl (by decide +kernel)
              exact hJ79 g41_5 _ _ _ (b6) (b7) ((show x0 1 = x0 1 from rfl)) ((show x0 10 = x0 10 from rfl)) ((show x0 11 = x0 11 from rfl)) ((show x0 14 = x0 14 from rfl)) (hPD9.1) (hPD9.2) hS (lv_sub hl [0, 1, 2, 3] rfl)
            · refine lv_aload_n hx hb dX11_ways_59 rfl (lv_at hl 0 rfl) ?_
              refine va_get (D := (dC, dI)) (ci := 11) (v := .ref (ra 18)) (C := RX11) (T := TX11) (N := 61) hx hb hts hin11 hown hK hP 4 rfl rfl 36 (Nat.le_of_ble_eq_true rfl) hw_1 (fun _ h9 => h9) rfl dX11_ways_60 ?_
              refine lv_aload_n hx hb dX11_ways_63 rfl (lv_at hl 0 rfl) ?_
              refine va_get (D := (dC, dI)) (ci := 11) (v := .ref (ra 9)) (C := RX11) (T := TX11) (N := 61) hx hb hts hin11 hown hK hP 4 rfl rfl 10 (Nat.le_of_ble_eq_true rfl) hw_2 (fun _ h9 => h9) rfl dX11_ways_64 ?_
              refine lv_iload_n hx hb dX11_ways_67 rfl (lv_at hl 3 rfl) ?_
              refine va_iald hx hb hK hP 1 1 rfl rfl (iv_in b6 (by decide) (by decide)) dX11_ways_68 ?_
              refine iv_top (a := 0) (b := 11) (hq_to _) (fun z11 b12 => ?_)
              refine lv_dup2_11 hx hb dX11_ways_69 rfl rfl ?_
              refine va_iald hx hb hK hP 3 1 rfl rfl (iv_in b12 (by decide) (by decide)) dX11_ways_70 ?_
              refine lv_topi (fun z13 _ => ?_)
              refine lv_aload_n hx hb dX11_ways_71 rfl (lv_at hl 0 rfl) ?_
              refine va_get (D := (dC, dI)) (ci := 11) (v := .ref (ra 18)) (C := RX11) (T := TX11) (N := 61) hx hb hts hin11 hown hK hP 4 rfl rfl 36 (Nat.le_of_ble_eq_true rfl) hw_1 (fun _ h9 => h9) rfl dX11_ways_72 ?_
              refine lv_iload_n hx hb dX11_ways_75 rfl (lv_at hl 2 rfl) ?_
              refine va_iald hx hb hK hP 3 1 rfl rfl (iv_in h41_1 (by decide) (by decide)) dX11_ways_76 ?_
              refine lv_topi (fun z14 _ => ?_)
              refine lv_iadd hx hb dX11_ways_77 ?_
              refine lv_topi (fun z15 _ => ?_)
              refine va_iast hx hb hK hP hD hS 3 1 rfl rfl (iv_in b12 (by decide) (by decide)) dX11_ways_78 (fun H locs hPa hDa hS => ?_)
              clear hP hD
              have hP : va_P (dC, dI) vwCl [(ra 8, .inl (kI, 40, .inl q_from)), (ra 9, .inl (kI, 40, .inl q_to)), (ra 10, .inl (kI, 6, .inl q_goal)), (ra 18, .inl (kI, 12, .inl (upd g41_5 z11.toNatClampNeg z15))), (m0, .inr (11, oX11 ra x0)), (ra 2, .inl (kI, 8, .inl q_told))] H := hPa
              have hD : va_D A [(ra 8, .inl (kI, 40, .inl q_from)), (ra 9, .inl (kI, 40, .inl q_to)), (ra 10, .inl (kI, 6, .inl q_goal)), (ra 18, .inl (kI, 12, .inl (upd g41_5 z11.toNatClampNeg z15))), (m0, .inr (11, oX11 ra x0)), (ra 2, .inl (kI, 8, .inl q_told))] := hDa
              clear hPa hDa
              generalize (upd g41_5 z11.toNatClampNeg z15) = f16 at hP hD
              have hPD9 := cl_s (wc := [(m0, .inr (11, oX11 ra x0)), (ra 2, .inl (kI, 8, .inl q_told)), (ra 8, .inl (kI, 40, .inl q_from)), (ra 9, .inl (kI, 40, .inl q_to)), (ra 10, .inl (kI, 6, .inl q_goal)), (ra 18, .inl (kI, 12, .inl f16))]) hP hD [4, 5, 0, 1, 2, 3] rfl (by decide +kernel)
              exact hJ79 f16 _ _ _ (b6) (b7) ((show x0 1 = x0 1 from rfl)) ((show x0 10 = x0 10 from rfl)) ((show x0 11 = x0 11 from rfl)) ((show x0 14 = x0 14 from rfl)) (hPD9.1) (hPD9.2) hS (lv_sub hl [0, 1, 2, 3] rfl)
      refine lv_iload_n hx hb dX11_ways_31 rfl (lv_at hl 2 rfl) ?_
      refine lv_aload_n hx hb dX11_ways_32 rfl (lv_at hl 0 rfl) ?_
      obtain ⟨hPc, hDc, hFc, hJn⟩ := cl_a (wc := [(m0, .inr (11, oX11 ra x0)), (ra 2, .inl (kI, 8, .inl q_told))]) (wr := [(ra 8, .inl (kI, 40, .inl q_from)), (ra 9, .inl (kI, 40, .inl q_to)), (ra 10, .inl (kI, 6, .inl q_goal)), (ra 18, .inl (kI, 12, .inl g31_5))]) hP hD hS hA [0, 1] [2, 3, 4, 5] rfl rfl (by decide +kernel)
      refine va_calli (va_runV (As := []) (rest := [.int v31_loc2]) ⟨hx, hb, hml, hown, hts⟩ (s11_routers l dC dI kB kI kJ kZ kC kS H.size m0 ra x0 q_told (hX) (hq_told)) (cwV 0 hts gX11_ways_X11_routers rfl rfl rfl (by decide +kernel) ⟨Nat.le_of_ble_eq_true rfl, Nat.le_of_ble_eq_true rfl⟩) ⟨fun a U g mk q => by obtain ⟨q0, q1, qP, qE, qD⟩ := q; exact ⟨q0, q1, qP, kE_call qE, qD⟩, va_recv hK hP (ci := 11) (q0 := 0) rfl rfl, fun U hU hW => ⟨rfl, by rw [hU], by rw [hU]; exact hPc, kE_warm hW hE, hDc.weaken (fun _ _ _ _ => trivial)⟩⟩ rfl rfl hl.1 rfl (lv_room (Nat.le_of_ble_eq_true rfl)) dX11_ways_33 ⟨Nat.le_of_ble_eq_true rfl, Nat.le_of_ble_eq_true rfl⟩) hS (fun q _ h => hFc q h) hFc (fun r17 u t H locs ht hvm w18 hB hz1 hk1 hS => ?_)
      obtain ⟨hP1, hD1⟩ := hB
      try dsimp only at w18
      obtain ⟨hPa, hDa⟩ := hJn (w1 := [(m0, .inr (11, oX11 ra x0)), (ra 2, .inl (kI, 8, .inl q_told))]) hk1 ht hP1 hD1
      clear hP hD hPc hDc hFc hJn hP1 hD1 hk1
      have hP : va_P (dC, dI) vwCl [(ra 8, .inl (kI, 40, .inl q_from)), (ra 9, .inl (kI, 40, .inl q_to)), (ra 10, .inl (kI, 6, .inl q_goal)), (ra 18, .inl (kI, 12, .inl g31_5)), (m0, .inr (11, oX11 ra x0)), (ra 2, .inl (kI, 8, .inl q_told))] H := hPa
      have hD : va_D A [(ra 8, .inl (kI, 40, .inl q_from)), (ra 9, .inl (kI, 40, .inl q_to)), (ra 10, .inl (kI, 6, .inl q_goal)), (ra 18, .inl (kI, 12, .inl g31_5)), (m0, .inr (11, oX11 ra x0)), (ra 2, .inl (kI, 8, .inl q_told))] := hDa
      clear hPa hDa
      refine W.widen (k := 0) (n := 0) (Nat.le_of_ble_eq_true rfl) (Nat.le_of_ble_eq_true rfl) ?_
      subst w18
      refine lv_icmp_ge (tgt := 91) hx hb dX11_ways_36 rfl (fun c19 => ?_) (fun c19 => ?_)
      · refine lv_aload_n hx hb dX11_ways_91 rfl (lv_at hl 0 rfl) ?_
        refine va_get (D := (dC, dI)) (ci := 11) (v := .ref (ra 18)) (C := RX11) (T := TX11) (N := 61) hx hb hts hin11 hown hK hP 4 rfl rfl 36 (Nat.le_of_ble_eq_true rfl) hw_1 (fun _ h9 => h9) rfl dX11_ways_92 ?_
        refine lv_aload_n hx hb dX11_ways_95 rfl (lv_at hl 0 rfl) ?_
        refine va_get (D := (dC, dI)) (ci := 11) (v := .ref (ra 10)) (C := RX11) (T := TX11) (N := 61) hx hb hts hin11 hown hK hP 4 rfl rfl 11 (Nat.le_of_ble_eq_true rfl) hw_3 (fun _ h9 => h9) rfl dX11_ways_96 ?_
        refine lv_iload_n hx hb dX11_ways_99 rfl (lv_at hl 1 rfl) ?_
        refine va_iald hx hb hK hP 2 1 rfl rfl (iv_in hp0 (by decide) (by decide)) dX11_ways_100 ?_
        refine iv_top (a := 0) (b := 11) (hq_goal _) (fun z20 b21 => ?_)
        refine va_iald hx hb hK hP 3 1 rfl rfl (iv_in b21 (by decide) (by decide)) dX11_ways_101 ?_
        refine lv_topi (fun z22 _ => ?_)
        have hPD9 := cl_s (wc := [(m0, .inr (11, oX11 ra x0)), (ra 2, .inl (kI, 8, .inl q_told)), (ra 8, .inl (kI, 40, .inl q_from)), (ra 9, .inl (kI, 40, .inl q_to)), (ra 10, .inl (kI, 6, .inl q_goal)), (ra 18, .inl (kI, 12, .inl g31_5))]) hP hD [4, 5, 0, 1, 2, 3] rfl (by decide +kernel)
        have hP9 := hPD9.1
        have hD9 := hPD9.2
        exact W.iret (v := z22) hx hb hr (fun t ht hW => ⟨⟨z22, (), rfl, trivial, g31_5, by rw [ht]; exact hP9, hD9⟩, hS.F ht⟩) hS.2.2 dX11_ways_102
      · have b23 : iv 0 11 v31_loc2 := iv_ltL (Int32.not_le.mp c19) h31_1 (hq_told 0 : iv 0 12 (q_told 0)) (by decide) (by decide)
        have b24 : iv 1 12 (q_told 0) := iv_ltR (Int32.not_le.mp c19) h31_1 (hq_told 0 : iv 0 12 (q_told 0)) (by decide) (by decide)
        refine lv_iconst (v := 0) hx hb dX11_ways_39 ic_0 ?_
        refine lv_istore_n (lv' := [(3, .int 0), (0, .ref m0), (1, .int p0), (2, .int v31_loc2)]) hx hb dX11_ways_40 rfl hl (Nat.le_of_ble_eq_true rfl) rfl (fun ls hl => ?_)
        have hPD9 := cl_s (wc := [(m0, .inr (11, oX11 ra x0)), (ra 2, .inl (kI, 8, .inl q_told)), (ra 8, .inl (kI, 40, .inl q_from)), (ra 9, .inl (kI, 40, .inl q_to)), (ra 10, .inl (kI, 6, .inl q_goal)), (ra 18, .inl (kI, 12, .inl g31_5))]) hP hD [4, 5, 0, 1, 2, 3] rfl (by decide +kernel)
        exact hJ41 _ g31_5 0 _ _ _ (Nat.lt_succ_self _) (b23) ((iv_w ivk_0 (by decide) (by decide))) (b24) ((show x0 1 = x0 1 from rfl)) ((show x0 10 = x0 10 from rfl)) ((show x0 11 = x0 11 from rfl)) ((show x0 14 = x0 14 from rfl)) (hPD9.1) (hPD9.2) hS (lv_sub hl [1, 2, 3, 0] rfl)
  have hJ2 : ∀ (n : Nat) (g2_5 : Nat → Int32) (v2_loc2 : Int32) (H : Heap) (locs : List Loc) (ls : Array Slot), (12 - v2_loc2.toInt).toNat < n → iv 0 12 v2_loc2 → (x0 1 = x0 1) → (x0 10 = x0 10) → (x0 11 = x0 11) → (x0 14 = x0 14) → va_P (dC, dI) vwCl [(m0, .inr (11, oX11 ra x0)), (ra 2, .inl (kI, 8, .inl q_told)), (ra 8, .inl (kI, 40, .inl q_from)), (ra 9, .inl (kI, 40, .inl q_to)), (ra 10, .inl (kI, 6, .inl q_goal)), (ra 18, .inl (kI, 12, .inl g2_5))] H → va_D A [(m0, .inr (11, oX11 ra x0)), (ra 2, .inl (kI, 8, .inl q_told)), (ra 8, .inl (kI, 40, .inl q_from)), (ra 9, .inl (kI, 40, .inl q_to)), (ra 10, .inl (kI, 6, .inl q_goal)), (ra 18, .inl (kI, 12, .inl g2_5))] → va_S A s.heap H locs → lv_has ls 4 [(0, .ref m0), (1, .int p0), (2, .int v2_loc2)] → W p l e (headSpec wsX11_ways rm_s11_ways).room s m args0 below meth c H locs (0) (0) (MQ below (va_Qi (fun (r : Int32) (_ : Unit) => True) (fun _ t => ∃ (q_waysTo' : Nat → Int32), va_P (dC, dI) vwCl [(m0, .inr (11, oX11 ra x0)), (ra 2, .inl (kI, 8, .inl q_told)), (ra 8, .inl (kI, 40, .inl q_from)), (ra 9, .inl (kI, 40, .inl q_to)), (ra 10, .inl (kI, 6, .inl q_goal)), (ra 18, .inl (kI, 12, .inl q_waysTo'))] t.heap ∧ va_D A [(m0, .inr (11, oX11 ra x0)), (ra 2, .inl (kI, 8, .inl q_told)), (ra 8, .inl (kI, 40, .inl q_from)), (ra 9, .inl (kI, 40, .inl q_to)), (ra 10, .inl (kI, 6, .inl q_goal)), (ra 18, .inl (kI, 12, .inl q_waysTo'))]) A) args0 s 0 0 A) (F0 m 2 ls []) := by
    intro n
    induction n with
    | zero => intro g2_5 v2_loc2 H locs ls hm2; exact absurd hm2 (Nat.not_lt_zero _)
    | succ n ih2 =>
      intro g2_5 v2_loc2 H locs ls hm2 h2_1 htp_2 hfp_2 hor_2 hirl_2 hP hD hS hl
      have hJ22 : ∀ (v22_stk0 : Int32) (H : Heap) (locs : List Loc) (ls : Array Slot), iv 0 11 v2_loc2 → iv 0 1 v22_stk0 → (x0 1 = x0 1) → (x0 10 = x0 10) → (x0 11 = x0 11) → (x0 14 = x0 14) → va_P (dC, dI) vwCl [(m0, .inr (11, oX11 ra x0)), (ra 2, .inl (kI, 8, .inl q_told)), (ra 8, .inl (kI, 40, .inl q_from)), (ra 9, .inl (kI, 40, .inl q_to)), (ra 10, .inl (kI, 6, .inl q_goal)), (ra 18, .inl (kI, 12, .inl g2_5))] H → va_D A [(m0, .inr (11, oX11 ra x0)), (ra 2, .inl (kI, 8, .inl q_told)), (ra 8, .inl (kI, 40, .inl q_from)), (ra 9, .inl (kI, 40, .inl q_to)), (ra 10, .inl (kI, 6, .inl q_goal)), (ra 18, .inl (kI, 12, .inl g2_5))] → va_S A s.heap H locs → lv_has ls 4 [(0, .ref m0), (1, .int p0), (2, .int v2_loc2)] → W p l e (headSpec wsX11_ways rm_s11_ways).room s m args0 below meth c H locs (0) (0) (MQ below (va_Qi (fun (r : Int32) (_ : Unit) => True) (fun _ t => ∃ (q_waysTo' : Nat → Int32), va_P (dC, dI) vwCl [(m0, .inr (11, oX11 ra x0)), (ra 2, .inl (kI, 8, .inl q_told)), (ra 8, .inl (kI, 40, .inl q_from)), (ra 9, .inl (kI, 40, .inl q_to)), (ra 10, .inl (kI, 6, .inl q_goal)), (ra 18, .inl (kI, 12, .inl q_waysTo'))] t.heap ∧ va_D A [(m0, .inr (11, oX11 ra x0)), (ra 2, .inl (kI, 8, .inl q_told)), (ra 8, .inl (kI, 40, .inl q_from)), (ra 9, .inl (kI, 40, .inl q_to)), (ra 10, .inl (kI, 6, .inl q_goal)), (ra 18, .inl (kI, 12, .inl q_waysTo'))]) A) args0 s 0 0 A) (F0 m 22 ls [.int v22_stk0, .int v2_loc2, .ref (ra 18)]) := by
        intro v22_stk0 H locs ls h22_1 h22_2 htp_22 hfp_22 hor_22 hirl_22 hP hD hS hl
        refine va_iast hx hb hK hP hD hS 5 1 rfl rfl (iv_in h22_1 (by decide) (by decide)) dX11_ways_22 (fun H locs hPa hDa hS => ?_)
        clear hP hD
        have hP : va_P (dC, dI) vwCl [(m0, .inr (11, oX11 ra x0)), (ra 2, .inl (kI, 8, .inl q_told)), (ra 8, .inl (kI, 40, .inl q_from)), (ra 9, .inl (kI, 40, .inl q_to)), (ra 10, .inl (kI, 6, .inl q_goal)), (ra 18, .inl (kI, 12, .inl (upd g2_5 v2_loc2.toNatClampNeg v22_stk0)))] H := hPa
        have hD : va_D A [(m0, .inr (11, oX11 ra x0)), (ra 2, .inl (kI, 8, .inl q_told)), (ra 8, .inl (kI, 40, .inl q_from)), (ra 9, .inl (kI, 40, .inl q_to)), (ra 10, .inl (kI, 6, .inl q_goal)), (ra 18, .inl (kI, 12, .inl (upd g2_5 v2_loc2.toNatClampNeg v22_stk0)))] := hDa
        clear hPa hDa
        generalize (upd g2_5 v2_loc2.toNatClampNeg v22_stk0) = f25 at hP hD
        refine lv_iinc (v := v2_loc2 + Int32.ofInt 1) (lv' := [(2, .int (v2_loc2 + Int32.ofInt 1)), (0, .ref m0), (1, .int p0)]) hx hb dX11_ways_23 hl (k := 2) rfl (rfl) (Nat.le_of_ble_eq_true rfl) rfl (fun ls hl => ?_)
        have b26 : iv 1 12 (v2_loc2 + Int32.ofInt 1) := iv_add h22_1 ivo_1 (by decide) (by decide) (by decide) (by decide)
        refine lv_goto (tgt := 2) hx hb dX11_ways_26 rfl ?_
        exact ih2 f25 (v2_loc2 + Int32.ofInt 1) _ _ _ (ms_up (c := 1) (d := 0) h22_1 hm2 (by decide) (iv_inc 1 h22_1 (by decide) (by decide) (by decide) (by decide)) (by decide) rfl) ((iv_w b26 (by decide) (by decide))) ((show x0 1 = x0 1 from rfl)) ((show x0 10 = x0 10 from rfl)) ((show x0 11 = x0 11 from rfl)) ((show x0 14 = x0 14 from rfl)) (hP) (hD) hS (lv_sub hl [1, 2, 0] rfl)
      refine lv_iload_n hx hb dX11_ways_2 rfl (lv_at hl 2 rfl) ?_
      refine lv_bipush (v := 12) hx hb dX11_ways_3 bp_12 ?_
      refine lv_icmp_ge (tgt := 29) hx hb dX11_ways_5 rfl (fun c27 => ?_) (fun c27 => ?_)
      · have b28 : iv 12 12 v2_loc2 := iv_leR c27 ivk_12 h2_1 (by decide) (by decide)
        refine lv_iconst (v := 0) hx hb dX11_ways_29 ic_0 ?_
        refine lv_istore_n (lv' := [(2, .int 0), (0, .ref m0), (1, .int p0)]) hx hb dX11_ways_30 rfl hl (Nat.le_of_ble_eq_true rfl) rfl (fun ls hl => ?_)
        exact hJ31 _ g2_5 0 _ _ _ (Nat.lt_succ_self _) ((iv_w ivk_0 (by decide) (by decide))) ((show x0 1 = x0 1 from rfl)) ((show x0 10 = x0 10 from rfl)) ((show x0 11 = x0 11 from rfl)) ((show x0 14 = x0 14 from rfl)) (hP) (hD) hS (lv_sub hl [1, 2, 0] rfl)
      · have b29 : iv 0 11 v2_loc2 := iv_ltL (Int32.not_le.mp c27) h2_1 ivk_12 (by decide) (by decide)
        refine lv_aload_n hx hb dX11_ways_8 rfl (lv_at hl 0 rfl) ?_
        refine va_get (D := (dC, dI)) (ci := 11) (v := .ref (ra 18)) (C := RX11) (T := TX11) (N := 61) hx hb hts hin11 hown hK hP 0 rfl rfl 36 (Nat.le_of_ble_eq_true rfl) hw_1 (fun _ h9 => h9) rfl dX11_ways_9 ?_
        refine lv_iload_n hx hb dX11_ways_12 rfl (lv_at hl 2 rfl) ?_
        refine lv_iload_n hx hb dX11_ways_13 rfl (lv_at hl 2 rfl) ?_
        refine lv_if_ne (tgt := 21) hx hb dX11_ways_14 rfl (fun c30 => ?_) (fun c30 => ?_)
        · have b31 : iv 1 11 v2_loc2 := iv_neLo c30 b29 ivk_0 (by decide) (by decide)
          refine lv_iconst (v := 0) hx hb dX11_ways_21 ic_0 ?_
          exact hJ22 0 _ _ _ ((iv_w b31 (by decide) (by decide))) ((iv_w ivk_0 (by decide) (by decide))) ((show x0 1 = x0 1 from rfl)) ((show x0 10 = x0 10 from rfl)) ((show x0 11 = x0 11 from rfl)) ((show x0 14 = x0 14 from rfl)) (hP) (hD) hS (lv_sub hl [0, 1, 2] rfl)
        · have b32 : iv 0 0 v2_loc2 := iv_eqL c30 ivk_0
          refine lv_iconst (v := 1) hx hb dX11_ways_17 ic_1 ?_
          refine lv_goto (tgt := 22) hx hb dX11_ways_18 rfl ?_
          exact hJ22 1 _ _ _ ((iv_w b32 (by decide) (by decide))) ((iv_w ivk_1 (by decide) (by decide))) ((show x0 1 = x0 1 from rfl)) ((show x0 10 = x0 10 from rfl)) ((show x0 11 = x0 11 from rfl)) ((show x0 14 = x0 14 from rfl)) (hP) (hD) hS (lv_sub hl [0, 1, 2] rfl)
  refine lv_iconst (v := 0) hx hb dX11_ways_0 ic_0 ?_
  refine lv_istore_n (lv' := [(2, .int 0), (0, .ref m0), (1, .int p0)]) hx hb dX11_ways_1 rfl hl (Nat.le_of_ble_eq_true rfl) rfl (fun ls hl => ?_)
  exact hJ2 _ q_waysTo 0 _ _ _ (Nat.lt_succ_self _) ((iv_w ivk_0 (by decide) (by decide))) ((show x0 1 = x0 1 from rfl)) ((show x0 10 = x0 10 from rfl)) ((show x0 11 = x0 11 from rfl)) ((show x0 14 = x0 14 from rfl)) (hP) (hD) hS (lv_sub hl [1, 2, 0] rfl)
def rm_s11_length : Room := { frames := 2, cells := 0, slots := 0, locals := 47 }
set_option maxHeartbeats 4000000 in
set_option maxRecDepth 100000 in
theorem s11_length (l : Launch) (dC : Nat → ClassId) (dI : Nat → Nat → Nat) (kB kI kJ kZ kC kS : ClassId) (sz : Nat) (m0 : Nat) (ra : Nat → Nat) (x0 : Nat → Int32) (q_told : Nat → Int32) (q_from : Nat → Int32) (q_to : Nat → Int32) (q_goal : Nat → Int32) (q_reach : Nat → Int32) (q_isAt : Nat → Int32) (p0 : Int32) (p1 : Int32) (hX : fI lX11 hX11 x0) (hq_told : fI lTold hTold q_told) (hq_from : fI (fun _ => 0) (fun _ => 11) q_from) (hq_to : fI (fun _ => 0) (fun _ => 11) q_to) (hq_goal : fI (fun _ => 0) (fun _ => 11) q_goal) (hp0 : iv 0 2 p0) (hp1 : iv 0 1 p1) : Met l yX11_length wsX11_length rm_s11_length (va_Pc [.ref m0, .int p0, .int p1] (fun U => U.heap.size = sz ∧ va_P (dC, dI) vwCl [(m0, .inr (11, oX11 ra x0)), (ra 2, .inl (kI, 8, .inl q_told)), (ra 8, .inl (kI, 40, .inl q_from)), (ra 9, .inl (kI, 40, .inl q_to)), (ra 10, .inl (kI, 6, .inl q_goal)), (ra 14, .inl (kI, 12, .inl q_reach)), (ra 17, .inl (kZ, 168, .inl q_isAt))] U.heap ∧ kE dC dI kB kI kJ kZ kC kS U ∧ va_D (fun _ => True) [(m0, .inr (11, oX11 ra x0)), (ra 2, .inl (kI, 8, .inl q_told)), (ra 8, .inl (kI, 40, .inl q_from)), (ra 9, .inl (kI, 40, .inl q_to)), (ra 10, .inl (kI, 6, .inl q_goal)), (ra 14, .inl (kI, 12, .inl q_reach)), (ra 17, .inl (kZ, 168, .inl q_isAt))])) (va_Qi (fun (r : Int32) (_ : Unit) => iv 0 12 r) (fun _ t => ∃ (q_isAt' : Nat → Int32), va_P (dC, dI) vwCl [(m0, .inr (11, oX11 ra x0)), (ra 2, .inl (kI, 8, .inl q_told)), (ra 8, .inl (kI, 40, .inl q_from)), (ra 9, .inl (kI, 40, .inl q_to)), (ra 10, .inl (kI, 6, .inl q_goal)), (ra 14, .inl (kI, 12, .inl q_reach)), (ra 17, .inl (kZ, 168, .inl q_isAt'))] t.heap ∧ va_D (va_A [(m0, .inr (11, oX11 ra x0)), (ra 2, .inl (kI, 8, .inl q_told)), (ra 8, .inl (kI, 40, .inl q_from)), (ra 9, .inl (kI, 40, .inl q_to)), (ra 10, .inl (kI, 6, .inl q_goal)), (ra 14, .inl (kI, 12, .inl q_reach)), (ra 17, .inl (kZ, 168, .inl q_isAt))] sz) [(m0, .inr (11, oX11 ra x0)), (ra 2, .inl (kI, 8, .inl q_told)), (ra 8, .inl (kI, 40, .inl q_from)), (ra 9, .inl (kI, 40, .inl q_to)), (ra 10, .inl (kI, 6, .inl q_goal)), (ra 14, .inl (kI, 12, .inl q_reach)), (ra 17, .inl (kZ, 168, .inl q_isAt'))]) (va_A [(m0, .inr (11, oX11 ra x0)), (ra 2, .inl (kI, 8, .inl q_told)), (ra 8, .inl (kI, 40, .inl q_from)), (ra 9, .inl (kI, 40, .inl q_to)), (ra 10, .inl (kI, 6, .inl q_goal)), (ra 14, .inl (kI, 12, .inl q_reach)), (ra 17, .inl (kZ, 168, .inl q_isAt))] sz)) 0 0 (va_A [(m0, .inr (11, oX11 ra x0)), (ra 2, .inl (kI, 8, .inl q_told)), (ra 8, .inl (kI, 40, .inl q_from)), (ra 9, .inl (kI, 40, .inl q_to)), (ra 10, .inl (kI, 6, .inl q_goal)), (ra 14, .inl (kI, 12, .inl q_reach)), (ra 17, .inl (kZ, 168, .inl q_isAt))] sz) := by
  refine Met.ofW (cc := cX11_length) (maxL := 5) (ret := (some .int)) (by decide) rfl ?_
  intro p e s m args0 below meth c s₁ B hml hv
  obtain ⟨hargs, hsz, hP, hE, hD0⟩ := hv
  have hx := B.exec
  have hb := B.bytes
  have hr := B.returns
  have hts := atoms_spec (ws := wsX11_length) B.pre
  have hown : s.vm.findClass RX11 = some m.cls := findClass_of_methodNamed B.named
  have hlocks := B.notSynchronized
  have hK := hE.1
  have hin11 : ∀ w ∈ wsX110, w ∈ wsX11_length := fun _ h9 => List.mem_cons_of_mem _ (List.mem_append_right _ h9)
  have hw_0 := hts (.fieldLink RX11 87 "PathProberModel" "isAt" "[Z") (List.mem_of_getElem? (i := 1) rfl)
  have hw_1 := hts (.fieldLink RX11 58 "PathProberModel" "goal" "[I") (List.mem_of_getElem? (i := 2) rfl)
  subst hsz
  have hD := hD0.self (sz := s.heap.size)
  generalize hAe : va_A [(m0, .inr (11, oX11 ra x0)), (ra 2, .inl (kI, 8, .inl q_told)), (ra 8, .inl (kI, 40, .inl q_from)), (ra 9, .inl (kI, 40, .inl q_to)), (ra 10, .inl (kI, 6, .inl q_goal)), (ra 14, .inl (kI, 12, .inl q_reach)), (ra 17, .inl (kZ, 168, .inl q_isAt))] s.heap.size = A at hD ⊢
  have hA : ∀ q : Nat, s.heap.size ≤ q → A q := fun q h => by rw [← hAe]; exact Or.inr h
  have hS : va_S A s.heap s.heap [] := va_S.rf
  have hP : va_P (dC, dI) vwCl [(m0, .inr (11, oX11 ra x0)), (ra 2, .inl (kI, 8, .inl q_told)), (ra 8, .inl (kI, 40, .inl q_from)), (ra 9, .inl (kI, 40, .inl q_to)), (ra 10, .inl (kI, 6, .inl q_goal)), (ra 14, .inl (kI, 12, .inl q_reach)), (ra 17, .inl (kZ, 168, .inl q_isAt))] s.heap := hP
  have hl := lv_entry ([.ref m0, .int p0, .int p1]) (n := 5) (Nat.le_of_ble_eq_true rfl)
  have hla : entryFrame m args0 5 = entryFrame m ([.ref m0, .int p0, .int p1] : List Value).toArray 5 := by rw [hargs]
  rw [hla, lg_entry_eq]
  generalize (lg_sl ([.ref m0, .int p0, .int p1]) ++ List.replicate (5 - (lg_sl ([.ref m0, .int p0, .int p1])).length) Slot.unset).toArray = ls at hl ⊢
  have hl : lv_has ls 5 [(0, .ref m0), (1, .int p0), (2, .int p1)] := hl
  have hJ11 : ∀ (n : Nat) (g11_6 : Nat → Int32) (v11_loc3 : Int32) (v11_loc4 : Int32) (H : Heap) (locs : List Loc) (ls : Array Slot), (v11_loc4.toInt - 0).toNat < n → iv 0 12 v11_loc3 → iv 0 12 v11_loc4 → (x0 1 = x0 1) → (x0 10 = x0 10) → (x0 11 = x0 11) → (x0 14 = x0 14) → va_P (dC, dI) vwCl [(m0, .inr (11, oX11 ra x0)), (ra 2, .inl (kI, 8, .inl q_told)), (ra 8, .inl (kI, 40, .inl q_from)), (ra 9, .inl (kI, 40, .inl q_to)), (ra 10, .inl (kI, 6, .inl q_goal)), (ra 14, .inl (kI, 12, .inl q_reach)), (ra 17, .inl (kZ, 168, .inl g11_6))] H → va_D A [(m0, .inr (11, oX11 ra x0)), (ra 2, .inl (kI, 8, .inl q_told)), (ra 8, .inl (kI, 40, .inl q_from)), (ra 9, .inl (kI, 40, .inl q_to)), (ra 10, .inl (kI, 6, .inl q_goal)), (ra 14, .inl (kI, 12, .inl q_reach)), (ra 17, .inl (kZ, 168, .inl g11_6))] → va_S A s.heap H locs → lv_has ls 5 [(0, .ref m0), (1, .int p0), (2, .int p1), (3, .int v11_loc3), (4, .int v11_loc4)] → W p l e (headSpec wsX11_length rm_s11_length).room s m args0 below meth c H locs (0) (0) (MQ below (va_Qi (fun (r : Int32) (_ : Unit) => iv 0 12 r) (fun _ t => ∃ (q_isAt' : Nat → Int32), va_P (dC, dI) vwCl [(m0, .inr (11, oX11 ra x0)), (ra 2, .inl (kI, 8, .inl q_told)), (ra 8, .inl (kI, 40, .inl q_from)), (ra 9, .inl (kI, 40, .inl q_to)), (ra 10, .inl (kI, 6, .inl q_goal)), (ra 14, .inl (kI, 12, .inl q_reach)), (ra 17, .inl (kZ, 168, .inl q_isAt'))] t.heap ∧ va_D A [(m0, .inr (11, oX11 ra x0)), (ra 2, .inl (kI, 8, .inl q_told)), (ra 8, .inl (kI, 40, .inl q_from)), (ra 9, .inl (kI, 40, .inl q_to)), (ra 10, .inl (kI, 6, .inl q_goal)), (ra 14, .inl (kI, 12, .inl q_reach)), (ra 17, .inl (kZ, 168, .inl q_isAt'))]) A) args0 s 0 0 A) (F0 m 11 ls []) := by
    intro n
    induction n with
    | zero => intro g11_6 v11_loc3 v11_loc4 H locs ls hm11; exact absurd hm11 (Nat.not_lt_zero _)
    | succ n ih11 =>
      intro g11_6 v11_loc3 v11_loc4 H locs ls hm11 h11_1 h11_2 htp_11 hfp_11 hor_11 hirl_11 hP hD hS hl
      have hJ47 : ∀ (v47_loc3 : Int32) (H : Heap) (locs : List Loc) (ls : Array Slot), iv 0 12 v47_loc3 → iv 1 12 v11_loc4 → (x0 1 = x0 1) → (x0 10 = x0 10) → (x0 11 = x0 11) → (x0 14 = x0 14) → va_P (dC, dI) vwCl [(m0, .inr (11, oX11 ra x0)), (ra 2, .inl (kI, 8, .inl q_told)), (ra 8, .inl (kI, 40, .inl q_from)), (ra 9, .inl (kI, 40, .inl q_to)), (ra 10, .inl (kI, 6, .inl q_goal)), (ra 14, .inl (kI, 12, .inl q_reach)), (ra 17, .inl (kZ, 168, .inl g11_6))] H → va_D A [(m0, .inr (11, oX11 ra x0)), (ra 2, .inl (kI, 8, .inl q_told)), (ra 8, .inl (kI, 40, .inl q_from)), (ra 9, .inl (kI, 40, .inl q_to)), (ra 10, .inl (kI, 6, .inl q_goal)), (ra 14, .inl (kI, 12, .inl q_reach)), (ra 17, .inl (kZ, 168, .inl g11_6))] → va_S A s.heap H locs → lv_has ls 5 [(0, .ref m0), (1, .int p0), (2, .int p1), (3, .int v47_loc3), (4, .int v11_loc4)] → W p l e (headSpec wsX11_length rm_s11_length).room s m args0 below meth c H locs (0) (0) (MQ below (va_Qi (fun (r : Int32) (_ : Unit) => iv 0 12 r) (fun _ t => ∃ (q_isAt' : Nat → Int32), va_P (dC, dI) vwCl [(m0, .inr (11, oX11 ra x0)), (ra 2, .inl (kI, 8, .inl q_told)), (ra 8, .inl (kI, 40, .inl q_from)), (ra 9, .inl (kI, 40, .inl q_to)), (ra 10, .inl (kI, 6, .inl q_goal)), (ra 14, .inl (kI, 12, .inl q_reach)), (ra 17, .inl (kZ, 168, .inl q_isAt'))] t.heap ∧ va_D A [(m0, .inr (11, oX11 ra x0)), (ra 2, .inl (kI, 8, .inl q_told)), (ra 8, .inl (kI, 40, .inl q_from)), (ra 9, .inl (kI, 40, .inl q_to)), (ra 10, .inl (kI, 6, .inl q_goal)), (ra 14, .inl (kI, 12, .inl q_reach)), (ra 17, .inl (kZ, 168, .inl q_isAt'))]) A) args0 s 0 0 A) (F0 m 47 ls []) := by
        intro v47_loc3 H locs ls h47_1 h47_2 htp_47 hfp_47 hor_47 hirl_47 hP hD hS hl
        refine lv_iinc (v := v11_loc4 + Int32.ofInt (-1)) (lv' := [(4, .int (v11_loc4 + Int32.ofInt (-1))), (0, .ref m0), (1, .int p0), (2, .int p1), (3, .int v47_loc3)]) hx hb dX11_length_47 hl (k := 4) rfl (rfl) (Nat.le_of_ble_eq_true rfl) rfl (fun ls hl => ?_)
        have b1 : iv 0 11 (v11_loc4 + Int32.ofInt (-1)) := iv_add h47_2 ivo_m1 (by decide) (by decide) (by decide) (by decide)
        refine lv_goto (tgt := 11) hx hb dX11_length_50 rfl ?_
        exact ih11 g11_6 v47_loc3 (v11_loc4 + Int32.ofInt (-1)) _ _ _ (ms_dn (c := 1) (d := 0) h47_2 hm11 (by decide) (iv_inc (-1) h47_2 (by decide) (by decide) (by decide) (by decide)) (by decide) rfl) (h47_1) ((iv_w b1 (by decide) (by decide))) ((show x0 1 = x0 1 from rfl)) ((show x0 10 = x0 10 from rfl)) ((show x0 11 = x0 11 from rfl)) ((show x0 14 = x0 14 from rfl)) (hP) (hD) hS (lv_sub hl [1, 2, 3, 4, 0] rfl)
      have hJ44 : ∀ (H : Heap) (locs : List Loc) (ls : Array Slot), iv 1 12 v11_loc4 → (x0 1 = x0 1) → (x0 10 = x0 10) → (x0 11 = x0 11) → (x0 14 = x0 14) → va_P (dC, dI) vwCl [(m0, .inr (11, oX11 ra x0)), (ra 2, .inl (kI, 8, .inl q_told)), (ra 8, .inl (kI, 40, .inl q_from)), (ra 9, .inl (kI, 40, .inl q_to)), (ra 10, .inl (kI, 6, .inl q_goal)), (ra 14, .inl (kI, 12, .inl q_reach)), (ra 17, .inl (kZ, 168, .inl g11_6))] H → va_D A [(m0, .inr (11, oX11 ra x0)), (ra 2, .inl (kI, 8, .inl q_told)), (ra 8, .inl (kI, 40, .inl q_from)), (ra 9, .inl (kI, 40, .inl q_to)), (ra 10, .inl (kI, 6, .inl q_goal)), (ra 14, .inl (kI, 12, .inl q_reach)), (ra 17, .inl (kZ, 168, .inl g11_6))] → va_S A s.heap H locs → lv_has ls 5 [(0, .ref m0), (1, .int p0), (2, .int p1), (3, .int v11_loc3), (4, .int v11_loc4)] → W p l e (headSpec wsX11_length rm_s11_length).room s m args0 below meth c H locs (0) (0) (MQ below (va_Qi (fun (r : Int32) (_ : Unit) => iv 0 12 r) (fun _ t => ∃ (q_isAt' : Nat → Int32), va_P (dC, dI) vwCl [(m0, .inr (11, oX11 ra x0)), (ra 2, .inl (kI, 8, .inl q_told)), (ra 8, .inl (kI, 40, .inl q_from)), (ra 9, .inl (kI, 40, .inl q_to)), (ra 10, .inl (kI, 6, .inl q_goal)), (ra 14, .inl (kI, 12, .inl q_reach)), (ra 17, .inl (kZ, 168, .inl q_isAt'))] t.heap ∧ va_D A [(m0, .inr (11, oX11 ra x0)), (ra 2, .inl (kI, 8, .inl q_told)), (ra 8, .inl (kI, 40, .inl q_from)), (ra 9, .inl (kI, 40, .inl q_to)), (ra 10, .inl (kI, 6, .inl q_goal)), (ra 14, .inl (kI, 12, .inl q_reach)), (ra 17, .inl (kZ, 168, .inl q_isAt'))]) A) args0 s 0 0 A) (F0 m 44 ls []) := by
        intro H locs ls h44_1 htp_44 hfp_44 hor_44 hirl_44 hP hD hS hl
        refine lv_iload hx hb dX11_length_44 (lv_at hl 4 rfl) ?_
        refine lv_istore_n (lv' := [(3, .int v11_loc4), (0, .ref m0), (1, .int p0), (2, .int p1), (4, .int v11_loc4)]) hx hb dX11_length_46 rfl hl (Nat.le_of_ble_eq_true rfl) rfl (fun ls hl => ?_)
        exact hJ47 v11_loc4 _ _ _ ((iv_w h44_1 (by decide) (by decide))) (h44_1) ((show x0 1 = x0 1 from rfl)) ((show x0 10 = x0 10 from rfl)) ((show x0 11 = x0 11 from rfl)) ((show x0 14 = x0 14 from rfl)) (hP) (hD) hS (lv_sub hl [1, 2, 3, 0, 4] rfl)
      refine lv_iload hx hb dX11_length_11 (lv_at hl 4 rfl) ?_
      refine lv_if_le (tgt := 53) hx hb dX11_length_13 rfl (fun c2 => ?_) (fun c2 => ?_)
      · have b3 : iv 0 0 v11_loc4 := iv_leL c2 h11_2 ivk_0 (by decide) (by decide)
        refine lv_iload_n hx hb dX11_length_53 rfl (lv_at hl 3 rfl) ?_
        have hP9 := hP
        have hD9 := hD
        exact W.iret (v := v11_loc3) hx hb hr (fun t ht hW => ⟨⟨v11_loc3, (), rfl, h11_1, g11_6, by rw [ht]; exact hP9, hD9⟩, hS.F ht⟩) hS.2.2 dX11_length_54
      · have b4 : iv 1 12 v11_loc4 := iv_ltR (Int32.not_le.mp c2) ivk_0 h11_2 (by decide) (by decide)
        refine lv_aload_n hx hb dX11_length_16 rfl (lv_at hl 0 rfl) ?_
        refine va_get (D := (dC, dI)) (ci := 11) (v := .ref (ra 17)) (C := RX11) (T := TX11) (N := 61) hx hb hts hin11 hown hK hP 0 rfl rfl 35 (Nat.le_of_ble_eq_true rfl) hw_0 (fun _ h9 => h9) rfl dX11_length_17 ?_
        refine lv_bipush (v := 14) hx hb dX11_length_20 bp_14 ?_
        refine lv_aload_n hx hb dX11_length_22 rfl (lv_at hl 0 rfl) ?_
        refine va_get (D := (dC, dI)) (ci := 11) (v := .ref (ra 10)) (C := RX11) (T := TX11) (N := 61) hx hb hts hin11 hown hK hP 0 rfl rfl 11 (Nat.le_of_ble_eq_true rfl) hw_1 (fun _ h9 => h9) rfl dX11_length_23 ?_
        refine lv_iload_n hx hb dX11_length_26 rfl (lv_at hl 1 rfl) ?_
        refine va_iald hx hb hK hP 4 1 rfl rfl (iv_in hp0 (by decide) (by decide)) dX11_length_27 ?_
        refine iv_top (a := 0) (b := 11) (hq_goal _) (fun z5 b6 => ?_)
        refine lv_imul hx hb dX11_length_28 ?_
        refine iv_top (a := 0) (b := 154) (iv_mul ivk_14 b6 (by decide) (by decide) (by decide) (by decide) (by decide)) (fun z7 b8 => ?_)
        refine lv_iload hx hb dX11_length_29 (lv_at hl 4 rfl) ?_
        refine lv_iadd hx hb dX11_length_31 ?_
        refine iv_top (a := 1) (b := 166) (iv_add b8 b4 (by decide) (by decide) (by decide) (by decide)) (fun z9 b10 => ?_)
        refine va_zald hx hb hK hP 6 3 rfl rfl (iv_in b10 (by decide) (by decide)) dX11_length_32 ?_
        refine lv_topi (fun z11 _ => ?_)
        refine lv_if_eq (tgt := 47) hx hb dX11_length_33 rfl (fun c12 => ?_) (fun c12 => ?_)
        · have b13 : iv 0 0 z11 := iv_eqL c12 ivk_0
          exact hJ47 v11_loc3 _ _ _ (h11_1) (b4) ((show x0 1 = x0 1 from rfl)) ((show x0 10 = x0 10 from rfl)) ((show x0 11 = x0 11 from rfl)) ((show x0 14 = x0 14 from rfl)) (hP) (hD) hS (lv_sub hl [0, 1, 2, 3, 4] rfl)
        · refine lv_iload_n hx hb dX11_length_36 rfl (lv_at hl 3 rfl) ?_
          refine lv_if_eq (tgt := 44) hx hb dX11_length_37 rfl (fun c14 => ?_) (fun c14 => ?_)
          · have b15 : iv 0 0 v11_loc3 := iv_eqL c14 ivk_0
            exact hJ44 _ _ _ (b4) ((show x0 1 = x0 1 from rfl)) ((show x0 10 = x0 10 from rfl)) ((show x0 11 = x0 11 from rfl)) ((show x0 14 = x0 14 from rfl)) (hP) (hD) hS (lv_sub hl [0, 1, 2, 3, 4] rfl)
          · have b16 : iv 1 12 v11_loc3 := iv_neLo c14 h11_1 ivk_0 (by decide) (by decide)
            refine lv_iload_n hx hb dX11_length_40 rfl (lv_at hl 2 rfl) ?_
            refine lv_if_ne (tgt := 47) hx hb dX11_length_41 rfl (fun c17 => ?_) (fun c17 => ?_)
            · have b18 : iv 1 1 p1 := iv_neLo c17 hp1 ivk_0 (by decide) (by decide)
              exact hJ47 v11_loc3 _ _ _ ((iv_w b16 (by decide) (by decide))) (b4) ((show x0 1 = x0 1 from rfl)) ((show x0 10 = x0 10 from rfl)) ((show x0 11 = x0 11 from rfl)) ((show x0 14 = x0 14 from rfl)) (hP) (hD) hS (lv_sub hl [0, 1, 2, 3, 4] rfl)
            · have b19 : iv 0 0 p1 := iv_eqL c17 ivk_0
              exact hJ44 _ _ _ (b4) ((show x0 1 = x0 1 from rfl)) ((show x0 10 = x0 10 from rfl)) ((show x0 11 = x0 11 from rfl)) ((show x0 14 = x0 14 from rfl)) (hP) (hD) hS (lv_sub hl [0, 1, 2, 3, 4] rfl)
  refine lv_aload_n hx hb dX11_length_0 rfl (lv_at hl 0 rfl) ?_
  refine lv_iload_n hx hb dX11_length_1 rfl (lv_at hl 1 rfl) ?_
  obtain ⟨hPc, hDc, hFc, hJn⟩ := cl_a (wc := [(m0, .inr (11, oX11 ra x0)), (ra 2, .inl (kI, 8, .inl q_told)), (ra 8, .inl (kI, 40, .inl q_from)), (ra 9, .inl (kI, 40, .inl q_to)), (ra 10, .inl (kI, 6, .inl q_goal)), (ra 14, .inl (kI, 12, .inl q_reach)), (ra 17, .inl (kZ, 168, .inl q_isAt))]) (wr := []) hP hD hS hA [0, 1, 2, 3, 4, 5, 6] [] rfl rfl (by decide +kernel)
  refine va_callv (va_runV (As := [.int p0]) (rest := []) ⟨hx, hb, hml, hown, hts⟩ (s11_tellPlaces l dC dI kB kI kJ kZ kC kS s.heap.size m0 ra x0 q_told q_from q_to q_goal q_reach q_isAt p0 (hX) (hq_told) (hq_from) (hq_to) (hq_goal) (hp0)) (cwV 1 hts gX11_length_X11_tellPlaces rfl rfl rfl (by decide +kernel) ⟨Nat.le_of_ble_eq_true rfl, Nat.le_of_ble_eq_true rfl⟩) ⟨fun a U g mk q => by obtain ⟨q0, q1, qP, qE, qD⟩ := q; exact ⟨q0, q1, qP, kE_call qE, qD⟩, va_recv hK hP (ci := 11) (q0 := 0) rfl rfl, fun U hU hW => ⟨rfl, by rw [hU], by rw [hU]; exact hPc, kE_warm hW hE, hDc.weaken (fun _ _ _ _ => trivial)⟩⟩ rfl rfl hl.1 rfl (lv_room (Nat.le_of_ble_eq_true rfl)) dX11_length_2 ⟨Nat.le_of_ble_eq_true rfl, Nat.le_of_ble_eq_true rfl⟩) hS (fun q _ h => hFc q h) hFc (fun u t H locs ht hvm w21 hB hz1 hk1 hS => ?_)
  obtain ⟨f22, hP1, hD1⟩ := hB
  try dsimp only at w21
  obtain ⟨hPa, hDa⟩ := hJn (w1 := [(m0, .inr (11, oX11 ra x0)), (ra 2, .inl (kI, 8, .inl q_told)), (ra 8, .inl (kI, 40, .inl q_from)), (ra 9, .inl (kI, 40, .inl q_to)), (ra 10, .inl (kI, 6, .inl q_goal)), (ra 14, .inl (kI, 12, .inl q_reach)), (ra 17, .inl (kZ, 168, .inl f22))]) hk1 ht hP1 hD1
  clear hP hD hPc hDc hFc hJn hP1 hD1 hk1
  have hP : va_P (dC, dI) vwCl [(m0, .inr (11, oX11 ra x0)), (ra 2, .inl (kI, 8, .inl q_told)), (ra 8, .inl (kI, 40, .inl q_from)), (ra 9, .inl (kI, 40, .inl q_to)), (ra 10, .inl (kI, 6, .inl q_goal)), (ra 14, .inl (kI, 12, .inl q_reach)), (ra 17, .inl (kZ, 168, .inl f22))] H := hPa
  have hD : va_D A [(m0, .inr (11, oX11 ra x0)), (ra 2, .inl (kI, 8, .inl q_told)), (ra 8, .inl (kI, 40, .inl q_from)), (ra 9, .inl (kI, 40, .inl q_to)), (ra 10, .inl (kI, 6, .inl q_goal)), (ra 14, .inl (kI, 12, .inl q_reach)), (ra 17, .inl (kZ, 168, .inl f22))] := hDa
  clear hPa hDa
  refine W.widen (k := 0) (n := 0) (Nat.le_of_ble_eq_true rfl) (Nat.le_of_ble_eq_true rfl) ?_
  refine lv_iconst (v := 0) hx hb dX11_length_5 ic_0 ?_
  refine lv_istore_n (lv' := [(3, .int 0), (0, .ref m0), (1, .int p0), (2, .int p1)]) hx hb dX11_length_6 rfl hl (Nat.le_of_ble_eq_true rfl) rfl (fun ls hl => ?_)
  refine lv_bipush (v := 12) hx hb dX11_length_7 bp_12 ?_
  refine lv_istore (lv' := [(4, .int 12), (3, .int 0), (0, .ref m0), (1, .int p0), (2, .int p1)]) hx hb dX11_length_9 hl (Nat.le_of_ble_eq_true rfl) rfl (fun ls hl => ?_)
  exact hJ11 _ f22 0 12 _ _ _ (Nat.lt_succ_self _) ((iv_w ivk_0 (by decide) (by decide))) ((iv_w ivk_12 (by decide) (by decide))) ((show x0 1 = x0 1 from rfl)) ((show x0 10 = x0 10 from rfl)) ((show x0 11 = x0 11 from rfl)) ((show x0 14 = x0 14 from rfl)) (hP) (hD) hS (lv_sub hl [2, 3, 4, 1, 0] rfl)
def rm_s11_linkSet : Room := { frames := 1, cells := 0, slots := 0, locals := 20 }
set_option maxHeartbeats 4000000 in
set_option maxRecDepth 100000 in
theorem s11_linkSet (l : Launch) (dC : Nat → ClassId) (dI : Nat → Nat → Nat) (kB kI kJ kZ kC kS : ClassId) (sz : Nat) (m0 : Nat) (ra : Nat → Nat) (x0 : Nat → Int32) (q_told : Nat → Int32) (q_from : Nat → Int32) (p0 : Int32) (hX : fI lX11 hX11 x0) (hq_told : fI lTold hTold q_told) (hq_from : fI (fun _ => 0) (fun _ => 11) q_from) : Met l yX11_linkSet wsX11_linkSet rm_s11_linkSet (va_Pc [.ref m0, .int p0] (fun U => U.heap.size = sz ∧ va_P (dC, dI) vwCl [(m0, .inr (11, oX11 ra x0)), (ra 2, .inl (kI, 8, .inl q_told)), (ra 8, .inl (kI, 40, .inl q_from))] U.heap ∧ kE dC dI kB kI kJ kZ kC kS U ∧ va_D (fun _ => True) [(m0, .inr (11, oX11 ra x0)), (ra 2, .inl (kI, 8, .inl q_told)), (ra 8, .inl (kI, 40, .inl q_from))])) (va_Qi (fun (r : Int32) (_ : Unit) => True) (fun _ t => va_P (dC, dI) vwCl [(m0, .inr (11, oX11 ra x0)), (ra 2, .inl (kI, 8, .inl q_told)), (ra 8, .inl (kI, 40, .inl q_from))] t.heap ∧ va_D (va_A [(m0, .inr (11, oX11 ra x0)), (ra 2, .inl (kI, 8, .inl q_told)), (ra 8, .inl (kI, 40, .inl q_from))] sz) [(m0, .inr (11, oX11 ra x0)), (ra 2, .inl (kI, 8, .inl q_told)), (ra 8, .inl (kI, 40, .inl q_from))]) (va_A [(m0, .inr (11, oX11 ra x0)), (ra 2, .inl (kI, 8, .inl q_told)), (ra 8, .inl (kI, 40, .inl q_from))] sz)) 0 0 (va_A [(m0, .inr (11, oX11 ra x0)), (ra 2, .inl (kI, 8, .inl q_told)), (ra 8, .inl (kI, 40, .inl q_from))] sz) := by
  refine Met.ofW (cc := cX11_linkSet) (maxL := 4) (ret := (some .int)) (by decide) rfl ?_
  intro p e s m args0 below meth c s₁ B hml hv
  obtain ⟨hargs, hsz, hP, hE, hD0⟩ := hv
  have hx := B.exec
  have hb := B.bytes
  have hr := B.returns
  have hts := atoms_spec (ws := wsX11_linkSet) B.pre
  have hown : s.vm.findClass RX11 = some m.cls := findClass_of_methodNamed B.named
  have hlocks := B.notSynchronized
  have hK := hE.1
  have hin11 : ∀ w ∈ wsX110, w ∈ wsX11_linkSet := fun _ h9 => List.mem_cons_of_mem _ (List.mem_append_right _ h9)
  have hw_0 := hts (.fieldLink RX11 53 "PathProberModel" "from" "[I") (List.mem_of_getElem? (i := 1) rfl)
  subst hsz
  have hD := hD0.self (sz := s.heap.size)
  generalize hAe : va_A [(m0, .inr (11, oX11 ra x0)), (ra 2, .inl (kI, 8, .inl q_told)), (ra 8, .inl (kI, 40, .inl q_from))] s.heap.size = A at hD ⊢
  have hA : ∀ q : Nat, s.heap.size ≤ q → A q := fun q h => by rw [← hAe]; exact Or.inr h
  have hS : va_S A s.heap s.heap [] := va_S.rf
  have hP : va_P (dC, dI) vwCl [(m0, .inr (11, oX11 ra x0)), (ra 2, .inl (kI, 8, .inl q_told)), (ra 8, .inl (kI, 40, .inl q_from))] s.heap := hP
  have hl := lv_entry ([.ref m0, .int p0]) (n := 4) (Nat.le_of_ble_eq_true rfl)
  have hla : entryFrame m args0 4 = entryFrame m ([.ref m0, .int p0] : List Value).toArray 4 := by rw [hargs]
  rw [hla, lg_entry_eq]
  generalize (lg_sl ([.ref m0, .int p0]) ++ List.replicate (4 - (lg_sl ([.ref m0, .int p0])).length) Slot.unset).toArray = ls at hl ⊢
  have hl : lv_has ls 4 [(0, .ref m0), (1, .int p0)] := hl
  have hJ4 : ∀ (n : Nat) (v4_loc2 : Int32) (v4_loc3 : Int32) (H : Heap) (locs : List Loc) (ls : Array Slot), (20 - v4_loc3.toInt).toNat < n → iv 0 20 v4_loc3 → (x0 1 = x0 1) → (x0 10 = x0 10) → (x0 11 = x0 11) → (x0 14 = x0 14) → va_P (dC, dI) vwCl [(m0, .inr (11, oX11 ra x0)), (ra 2, .inl (kI, 8, .inl q_told)), (ra 8, .inl (kI, 40, .inl q_from))] H → va_D A [(m0, .inr (11, oX11 ra x0)), (ra 2, .inl (kI, 8, .inl q_told)), (ra 8, .inl (kI, 40, .inl q_from))] → va_S A s.heap H locs → lv_has ls 4 [(0, .ref m0), (1, .int p0), (2, .int v4_loc2), (3, .int v4_loc3)] → W p l e (headSpec wsX11_linkSet rm_s11_linkSet).room s m args0 below meth c H locs (0) (0) (MQ below (va_Qi (fun (r : Int32) (_ : Unit) => True) (fun _ t => va_P (dC, dI) vwCl [(m0, .inr (11, oX11 ra x0)), (ra 2, .inl (kI, 8, .inl q_told)), (ra 8, .inl (kI, 40, .inl q_from))] t.heap ∧ va_D A [(m0, .inr (11, oX11 ra x0)), (ra 2, .inl (kI, 8, .inl q_told)), (ra 8, .inl (kI, 40, .inl q_from))]) A) args0 s 0 0 A) (F0 m 4 ls []) := by
    intro n
    induction n with
    | zero => intro v4_loc2 v4_loc3 H locs ls hm4; exact absurd hm4 (Nat.not_lt_zero _)
    | succ n ih4 =>
      intro v4_loc2 v4_loc3 H locs ls hm4 h4_1 htp_4 hfp_4 hor_4 hirl_4 hP hD hS hl
      have hJ30 : ∀ (v30_stk0 : Int32) (H : Heap) (locs : List Loc) (ls : Array Slot), iv 0 19 v4_loc3 → iv 0 524288 v30_stk0 → iv 1 20 (q_told 1) → (x0 1 = x0 1) → (x0 10 = x0 10) → (x0 11 = x0 11) → (x0 14 = x0 14) → va_P (dC, dI) vwCl [(m0, .inr (11, oX11 ra x0)), (ra 2, .inl (kI, 8, .inl q_told)), (ra 8, .inl (kI, 40, .inl q_from))] H → va_D A [(m0, .inr (11, oX11 ra x0)), (ra 2, .inl (kI, 8, .inl q_told)), (ra 8, .inl (kI, 40, .inl q_from))] → va_S A s.heap H locs → lv_has ls 4 [(0, .ref m0), (1, .int p0), (2, .int v4_loc2), (3, .int v4_loc3)] → W p l e (headSpec wsX11_linkSet rm_s11_linkSet).room s m args0 below meth c H locs (0) (0) (MQ below (va_Qi (fun (r : Int32) (_ : Unit) => True) (fun _ t => va_P (dC, dI) vwCl [(m0, .inr (11, oX11 ra x0)), (ra 2, .inl (kI, 8, .inl q_told)), (ra 8, .inl (kI, 40, .inl q_from))] t.heap ∧ va_D A [(m0, .inr (11, oX11 ra x0)), (ra 2, .inl (kI, 8, .inl q_told)), (ra 8, .inl (kI, 40, .inl q_from))]) A) args0 s 0 0 A) (F0 m 30 ls [.int v30_stk0, .int v4_loc2]) := by
        intro v30_stk0 H locs ls h30_1 h30_2 h30_3 htp_30 hfp_30 hor_30 hirl_30 hP hD hS hl
        refine lv_ior hx hb dX11_linkSet_30 ?_
        refine lv_topi (fun z1 _ => ?_)
        refine lv_istore_n (lv' := [(2, .int z1), (0, .ref m0), (1, .int p0), (3, .int v4_loc3)]) hx hb dX11_linkSet_31 rfl hl (Nat.le_of_ble_eq_true rfl) rfl (fun ls hl => ?_)
        refine lv_iinc (v := v4_loc3 + Int32.ofInt 1) (lv' := [(3, .int (v4_loc3 + Int32.ofInt 1)), (2, .int z1), (0, .ref m0), (1, .int p0)]) hx hb dX11_linkSet_32 hl (k := 3) rfl (rfl) (Nat.le_of_ble_eq_true rfl) rfl (fun ls hl => ?_)
        have b2 : iv 1 20 (v4_loc3 + Int32.ofInt 1) := iv_add h30_1 ivo_1 (by decide) (by decide) (by decide) (by decide)
        refine lv_goto (tgt := 4) hx hb dX11_linkSet_35 rfl ?_
        exact ih4 z1 (v4_loc3 + Int32.ofInt 1) _ _ _ (ms_up (c := 1) (d := 0) h30_1 hm4 (by decide) (iv_inc 1 h30_1 (by decide) (by decide) (by decide) (by decide)) (by decide) rfl) ((iv_w b2 (by decide) (by decide))) ((show x0 1 = x0 1 from rfl)) ((show x0 10 = x0 10 from rfl)) ((show x0 11 = x0 11 from rfl)) ((show x0 14 = x0 14 from rfl)) (hP) (hD) hS (lv_sub hl [2, 3, 1, 0] rfl)
      refine lv_iload_n hx hb dX11_linkSet_4 rfl (lv_at hl 3 rfl) ?_
      refine lv_aload_n hx hb dX11_linkSet_5 rfl (lv_at hl 0 rfl) ?_
      obtain ⟨hPc, hDc, hFc, hJn⟩ := cl_a (wc := [(m0, .inr (11, oX11 ra x0)), (ra 2, .inl (kI, 8, .inl q_told))]) (wr := [(ra 8, .inl (kI, 40, .inl q_from))]) hP hD hS hA [0, 1] [2] rfl rfl (by decide +kernel)
      refine va_calli (va_runV (As := []) (rest := [.int v4_loc3]) ⟨hx, hb, hml, hown, hts⟩ (s11_links l dC dI kB kI kJ kZ kC kS H.size m0 ra x0 q_told (hX) (hq_told)) (cwV 0 hts gX11_linkSet_X11_links rfl rfl rfl (by decide +kernel) ⟨Nat.le_of_ble_eq_true rfl, Nat.le_of_ble_eq_true rfl⟩) ⟨fun a U g mk q => by obtain ⟨q0, q1, qP, qE, qD⟩ := q; exact ⟨q0, q1, qP, kE_call qE, qD⟩, va_recv hK hP (ci := 11) (q0 := 0) rfl rfl, fun U hU hW => ⟨rfl, by rw [hU], by rw [hU]; exact hPc, kE_warm hW hE, hDc.weaken (fun _ _ _ _ => trivial)⟩⟩ rfl rfl hl.1 rfl (lv_room (Nat.le_of_ble_eq_true rfl)) dX11_linkSet_6 ⟨Nat.le_of_ble_eq_true rfl, Nat.le_of_ble_eq_true rfl⟩) hS (fun q _ h => hFc q h) hFc (fun r3 u t H locs ht hvm w4 hB hz1 hk1 hS => ?_)
      obtain ⟨hP1, hD1⟩ := hB
      try dsimp only at w4
      obtain ⟨hPa, hDa⟩ := hJn (w1 := [(m0, .inr (11, oX11 ra x0)), (ra 2, .inl (kI, 8, .inl q_told))]) hk1 ht hP1 hD1
      clear hP hD hPc hDc hFc hJn hP1 hD1 hk1
      have hP : va_P (dC, dI) vwCl [(ra 8, .inl (kI, 40, .inl q_from)), (m0, .inr (11, oX11 ra x0)), (ra 2, .inl (kI, 8, .inl q_told))] H := hPa
      have hD : va_D A [(ra 8, .inl (kI, 40, .inl q_from)), (m0, .inr (11, oX11 ra x0)), (ra 2, .inl (kI, 8, .inl q_told))] := hDa
      clear hPa hDa
      refine W.widen (k := 0) (n := 0) (Nat.le_of_ble_eq_true rfl) (Nat.le_of_ble_eq_true rfl) ?_
      subst w4
      refine lv_icmp_ge (tgt := 38) hx hb dX11_linkSet_9 rfl (fun c5 => ?_) (fun c5 => ?_)
      · refine lv_iload_n hx hb dX11_linkSet_38 rfl (lv_at hl 2 rfl) ?_
        have hPD9 := cl_s (wc := [(m0, .inr (11, oX11 ra x0)), (ra 2, .inl (kI, 8, .inl q_told)), (ra 8, .inl (kI, 40, .inl q_from))]) hP hD [1, 2, 0] rfl (by decide +kernel)
        have hP9 := hPD9.1
        have hD9 := hPD9.2
        exact W.iret (v := v4_loc2) hx hb hr (fun t ht hW => ⟨⟨v4_loc2, (), rfl, trivial, by rw [ht]; exact hP9, hD9⟩, hS.F ht⟩) hS.2.2 dX11_linkSet_39
      · have b6 : iv 0 19 v4_loc3 := iv_ltL (Int32.not_le.mp c5) h4_1 (hq_told 1 : iv 0 20 (q_told 1)) (by decide) (by decide)
        have b7 : iv 1 20 (q_told 1) := iv_ltR (Int32.not_le.mp c5) h4_1 (hq_told 1 : iv 0 20 (q_told 1)) (by decide) (by decide)
        refine lv_iload_n hx hb dX11_linkSet_12 rfl (lv_at hl 2 rfl) ?_
        refine lv_aload_n hx hb dX11_linkSet_13 rfl (lv_at hl 0 rfl) ?_
        refine va_get (D := (dC, dI)) (ci := 11) (v := .ref (ra 8)) (C := RX11) (T := TX11) (N := 61) hx hb hts hin11 hown hK hP 1 rfl rfl 9 (Nat.le_of_ble_eq_true rfl) hw_0 (fun _ h9 => h9) rfl dX11_linkSet_14 ?_
        refine lv_iload_n hx hb dX11_linkSet_17 rfl (lv_at hl 3 rfl) ?_
        refine va_iald hx hb hK hP 0 1 rfl rfl (iv_in b6 (by decide) (by decide)) dX11_linkSet_18 ?_
        refine iv_top (a := 0) (b := 11) (hq_from _) (fun z8 b9 => ?_)
        refine lv_iload_n hx hb dX11_linkSet_19 rfl (lv_at hl 1 rfl) ?_
        refine lv_icmp_ne (tgt := 29) hx hb dX11_linkSet_20 rfl (fun c10 => ?_) (fun c10 => ?_)
        · refine lv_iconst (v := 0) hx hb dX11_linkSet_29 ic_0 ?_
          have hPD9 := cl_s (wc := [(m0, .inr (11, oX11 ra x0)), (ra 2, .inl (kI, 8, .inl q_told)), (ra 8, .inl (kI, 40, .inl q_from))]) hP hD [1, 2, 0] rfl (by decide +kernel)
          exact hJ30 0 _ _ _ (b6) ((iv_w ivk_0 (by decide) (by decide))) (b7) ((show x0 1 = x0 1 from rfl)) ((show x0 10 = x0 10 from rfl)) ((show x0 11 = x0 11 from rfl)) ((show x0 14 = x0 14 from rfl)) (hPD9.1) (hPD9.2) hS (lv_sub hl [0, 1, 2, 3] rfl)
        · have b11 : iv 0 11 p0 := iv_eqR c10 b9
          refine lv_iconst (v := 1) hx hb dX11_linkSet_23 ic_1 ?_
          refine lv_iload_n hx hb dX11_linkSet_24 rfl (lv_at hl 3 rfl) ?_
          refine lv_ishl hx hb dX11_linkSet_25 ?_
          refine iv_top (a := 0) (b := 524288) (iv_shl1 19 b6 (by decide) (by decide) (by decide) (by decide)) (fun z12 b13 => ?_)
          refine lv_goto (tgt := 30) hx hb dX11_linkSet_26 rfl ?_
          have hPD9 := cl_s (wc := [(m0, .inr (11, oX11 ra x0)), (ra 2, .inl (kI, 8, .inl q_told)), (ra 8, .inl (kI, 40, .inl q_from))]) hP hD [1, 2, 0] rfl (by decide +kernel)
          exact hJ30 z12 _ _ _ (b6) (b13) (b7) ((show x0 1 = x0 1 from rfl)) ((show x0 10 = x0 10 from rfl)) ((show x0 11 = x0 11 from rfl)) ((show x0 14 = x0 14 from rfl)) (hPD9.1) (hPD9.2) hS (lv_sub hl [0, 1, 2, 3] rfl)
  refine lv_iconst (v := 0) hx hb dX11_linkSet_0 ic_0 ?_
  refine lv_istore_n (lv' := [(2, .int 0), (0, .ref m0), (1, .int p0)]) hx hb dX11_linkSet_1 rfl hl (Nat.le_of_ble_eq_true rfl) rfl (fun ls hl => ?_)
  refine lv_iconst (v := 0) hx hb dX11_linkSet_2 ic_0 ?_
  refine lv_istore_n (lv' := [(3, .int 0), (2, .int 0), (0, .ref m0), (1, .int p0)]) hx hb dX11_linkSet_3 rfl hl (Nat.le_of_ble_eq_true rfl) rfl (fun ls hl => ?_)
  exact hJ4 _ 0 0 _ _ _ (Nat.lt_succ_self _) ((iv_w ivk_0 (by decide) (by decide))) ((show x0 1 = x0 1 from rfl)) ((show x0 10 = x0 10 from rfl)) ((show x0 11 = x0 11 from rfl)) ((show x0 14 = x0 14 from rfl)) (hP) (hD) hS (lv_sub hl [2, 3, 1, 0] rfl)
def rm_s11_goalOf : Room := { frames := 1, cells := 0, slots := 0, locals := 20 }
set_option maxHeartbeats 4000000 in
set_option maxRecDepth 100000 in
theorem s11_goalOf (l : Launch) (dC : Nat → ClassId) (dI : Nat → Nat → Nat) (kB kI kJ kZ kC kS : ClassId) (sz : Nat) (m0 : Nat) (ra : Nat → Nat) (x0 : Nat → Int32) (q_told : Nat → Int32) (q_goal : Nat → Int32) (p0 : Int32) (hX : fI lX11 hX11 x0) (hq_told : fI lTold hTold q_told) (hq_goal : fI (fun _ => 0) (fun _ => 11) q_goal) : Met l yX11_goalOf wsX11_goalOf rm_s11_goalOf (va_Pc [.ref m0, .int p0] (fun U => U.heap.size = sz ∧ va_P (dC, dI) vwCl [(m0, .inr (11, oX11 ra x0)), (ra 2, .inl (kI, 8, .inl q_told)), (ra 10, .inl (kI, 6, .inl q_goal))] U.heap ∧ kE dC dI kB kI kJ kZ kC kS U ∧ va_D (fun _ => True) [(m0, .inr (11, oX11 ra x0)), (ra 2, .inl (kI, 8, .inl q_told)), (ra 10, .inl (kI, 6, .inl q_goal))])) (va_Qi (fun (r : Int32) (_ : Unit) => iv (-1) 2 r) (fun _ t => va_P (dC, dI) vwCl [(m0, .inr (11, oX11 ra x0)), (ra 2, .inl (kI, 8, .inl q_told)), (ra 10, .inl (kI, 6, .inl q_goal))] t.heap ∧ va_D (va_A [(m0, .inr (11, oX11 ra x0)), (ra 2, .inl (kI, 8, .inl q_told)), (ra 10, .inl (kI, 6, .inl q_goal))] sz) [(m0, .inr (11, oX11 ra x0)), (ra 2, .inl (kI, 8, .inl q_told)), (ra 10, .inl (kI, 6, .inl q_goal))]) (va_A [(m0, .inr (11, oX11 ra x0)), (ra 2, .inl (kI, 8, .inl q_told)), (ra 10, .inl (kI, 6, .inl q_goal))] sz)) 0 0 (va_A [(m0, .inr (11, oX11 ra x0)), (ra 2, .inl (kI, 8, .inl q_told)), (ra 10, .inl (kI, 6, .inl q_goal))] sz) := by
  refine Met.ofW (cc := cX11_goalOf) (maxL := 3) (ret := (some .int)) (by decide) rfl ?_
  intro p e s m args0 below meth c s₁ B hml hv
  obtain ⟨hargs, hsz, hP, hE, hD0⟩ := hv
  have hx := B.exec
  have hb := B.bytes
  have hr := B.returns
  have hts := atoms_spec (ws := wsX11_goalOf) B.pre
  have hown : s.vm.findClass RX11 = some m.cls := findClass_of_methodNamed B.named
  have hlocks := B.notSynchronized
  have hK := hE.1
  have hin11 : ∀ w ∈ wsX110, w ∈ wsX11_goalOf := fun _ h9 => List.mem_cons_of_mem _ (List.mem_append_right _ h9)
  have hw_0 := hts (.fieldLink RX11 58 "PathProberModel" "goal" "[I") (List.mem_of_getElem? (i := 1) rfl)
  subst hsz
  have hD := hD0.self (sz := s.heap.size)
  generalize hAe : va_A [(m0, .inr (11, oX11 ra x0)), (ra 2, .inl (kI, 8, .inl q_told)), (ra 10, .inl (kI, 6, .inl q_goal))] s.heap.size = A at hD ⊢
  have hA : ∀ q : Nat, s.heap.size ≤ q → A q := fun q h => by rw [← hAe]; exact Or.inr h
  have hS : va_S A s.heap s.heap [] := va_S.rf
  have hP : va_P (dC, dI) vwCl [(m0, .inr (11, oX11 ra x0)), (ra 2, .inl (kI, 8, .inl q_told)), (ra 10, .inl (kI, 6, .inl q_goal))] s.heap := hP
  have hl := lv_entry ([.ref m0, .int p0]) (n := 3) (Nat.le_of_ble_eq_true rfl)
  have hla : entryFrame m args0 3 = entryFrame m ([.ref m0, .int p0] : List Value).toArray 3 := by rw [hargs]
  rw [hla, lg_entry_eq]
  generalize (lg_sl ([.ref m0, .int p0]) ++ List.replicate (3 - (lg_sl ([.ref m0, .int p0])).length) Slot.unset).toArray = ls at hl ⊢
  have hl : lv_has ls 3 [(0, .ref m0), (1, .int p0)] := hl
  have hJ2 : ∀ (n : Nat) (v2_loc2 : Int32) (H : Heap) (locs : List Loc) (ls : Array Slot), (3 - v2_loc2.toInt).toNat < n → iv 0 3 v2_loc2 → (x0 1 = x0 1) → (x0 10 = x0 10) → (x0 11 = x0 11) → (x0 14 = x0 14) → va_P (dC, dI) vwCl [(m0, .inr (11, oX11 ra x0)), (ra 2, .inl (kI, 8, .inl q_told)), (ra 10, .inl (kI, 6, .inl q_goal))] H → va_D A [(m0, .inr (11, oX11 ra x0)), (ra 2, .inl (kI, 8, .inl q_told)), (ra 10, .inl (kI, 6, .inl q_goal))] → va_S A s.heap H locs → lv_has ls 3 [(0, .ref m0), (1, .int p0), (2, .int v2_loc2)] → W p l e (headSpec wsX11_goalOf rm_s11_goalOf).room s m args0 below meth c H locs (0) (0) (MQ below (va_Qi (fun (r : Int32) (_ : Unit) => iv (-1) 2 r) (fun _ t => va_P (dC, dI) vwCl [(m0, .inr (11, oX11 ra x0)), (ra 2, .inl (kI, 8, .inl q_told)), (ra 10, .inl (kI, 6, .inl q_goal))] t.heap ∧ va_D A [(m0, .inr (11, oX11 ra x0)), (ra 2, .inl (kI, 8, .inl q_told)), (ra 10, .inl (kI, 6, .inl q_goal))]) A) args0 s 0 0 A) (F0 m 2 ls []) := by
    intro n
    induction n with
    | zero => intro v2_loc2 H locs ls hm2; exact absurd hm2 (Nat.not_lt_zero _)
    | succ n ih2 =>
      intro v2_loc2 H locs ls hm2 h2_1 htp_2 hfp_2 hor_2 hirl_2 hP hD hS hl
      refine lv_iload_n hx hb dX11_goalOf_2 rfl (lv_at hl 2 rfl) ?_
      refine lv_aload_n hx hb dX11_goalOf_3 rfl (lv_at hl 0 rfl) ?_
      obtain ⟨hPc, hDc, hFc, hJn⟩ := cl_a (wc := [(m0, .inr (11, oX11 ra x0)), (ra 2, .inl (kI, 8, .inl q_told))]) (wr := [(ra 10, .inl (kI, 6, .inl q_goal))]) hP hD hS hA [0, 1] [2] rfl rfl (by decide +kernel)
      refine va_calli (va_runV (As := []) (rest := [.int v2_loc2]) ⟨hx, hb, hml, hown, hts⟩ (s11_goals l dC dI kB kI kJ kZ kC kS H.size m0 ra x0 q_told (hX) (hq_told)) (cwV 0 hts gX11_goalOf_X11_goals rfl rfl rfl (by decide +kernel) ⟨Nat.le_of_ble_eq_true rfl, Nat.le_of_ble_eq_true rfl⟩) ⟨fun a U g mk q => by obtain ⟨q0, q1, qP, qE, qD⟩ := q; exact ⟨q0, q1, qP, kE_call qE, qD⟩, va_recv hK hP (ci := 11) (q0 := 0) rfl rfl, fun U hU hW => ⟨rfl, by rw [hU], by rw [hU]; exact hPc, kE_warm hW hE, hDc.weaken (fun _ _ _ _ => trivial)⟩⟩ rfl rfl hl.1 rfl (lv_room (Nat.le_of_ble_eq_true rfl)) dX11_goalOf_4 ⟨Nat.le_of_ble_eq_true rfl, Nat.le_of_ble_eq_true rfl⟩) hS (fun q _ h => hFc q h) hFc (fun r1 u t H locs ht hvm w2 hB hz1 hk1 hS => ?_)
      obtain ⟨hP1, hD1⟩ := hB
      try dsimp only at w2
      obtain ⟨hPa, hDa⟩ := hJn (w1 := [(m0, .inr (11, oX11 ra x0)), (ra 2, .inl (kI, 8, .inl q_told))]) hk1 ht hP1 hD1
      clear hP hD hPc hDc hFc hJn hP1 hD1 hk1
      have hP : va_P (dC, dI) vwCl [(ra 10, .inl (kI, 6, .inl q_goal)), (m0, .inr (11, oX11 ra x0)), (ra 2, .inl (kI, 8, .inl q_told))] H := hPa
      have hD : va_D A [(ra 10, .inl (kI, 6, .inl q_goal)), (m0, .inr (11, oX11 ra x0)), (ra 2, .inl (kI, 8, .inl q_told))] := hDa
      clear hPa hDa
      refine W.widen (k := 0) (n := 0) (Nat.le_of_ble_eq_true rfl) (Nat.le_of_ble_eq_true rfl) ?_
      subst w2
      refine lv_icmp_ge (tgt := 28) hx hb dX11_goalOf_7 rfl (fun c3 => ?_) (fun c3 => ?_)
      · refine lv_iconst (v := (-1)) hx hb dX11_goalOf_28 ic_m1 ?_
        have hPD9 := cl_s (wc := [(m0, .inr (11, oX11 ra x0)), (ra 2, .inl (kI, 8, .inl q_told)), (ra 10, .inl (kI, 6, .inl q_goal))]) hP hD [1, 2, 0] rfl (by decide +kernel)
        have hP9 := hPD9.1
        have hD9 := hPD9.2
        exact W.iret (v := (-1)) hx hb hr (fun t ht hW => ⟨⟨(-1), (), rfl, (iv_w ivk_m1 (by decide) (by decide)), by rw [ht]; exact hP9, hD9⟩, hS.F ht⟩) hS.2.2 dX11_goalOf_29
      · have b4 : iv 0 2 v2_loc2 := iv_ltL (Int32.not_le.mp c3) h2_1 (hq_told 2 : iv 0 3 (q_told 2)) (by decide) (by decide)
        have b5 : iv 1 3 (q_told 2) := iv_ltR (Int32.not_le.mp c3) h2_1 (hq_told 2 : iv 0 3 (q_told 2)) (by decide) (by decide)
        refine lv_aload_n hx hb dX11_goalOf_10 rfl (lv_at hl 0 rfl) ?_
        refine va_get (D := (dC, dI)) (ci := 11) (v := .ref (ra 10)) (C := RX11) (T := TX11) (N := 61) hx hb hts hin11 hown hK hP 1 rfl rfl 11 (Nat.le_of_ble_eq_true rfl) hw_0 (fun _ h9 => h9) rfl dX11_goalOf_11 ?_
        refine lv_iload_n hx hb dX11_goalOf_14 rfl (lv_at hl 2 rfl) ?_
        refine va_iald hx hb hK hP 0 1 rfl rfl (iv_in b4 (by decide) (by decide)) dX11_goalOf_15 ?_
        refine iv_top (a := 0) (b := 11) (hq_goal _) (fun z6 b7 => ?_)
        refine lv_iload_n hx hb dX11_goalOf_16 rfl (lv_at hl 1 rfl) ?_
        refine lv_icmp_ne (tgt := 22) hx hb dX11_goalOf_17 rfl (fun c8 => ?_) (fun c8 => ?_)
        · refine lv_iinc (v := v2_loc2 + Int32.ofInt 1) (lv' := [(2, .int (v2_loc2 + Int32.ofInt 1)), (0, .ref m0), (1, .int p0)]) hx hb dX11_goalOf_22 hl (k := 2) rfl (rfl) (Nat.le_of_ble_eq_true rfl) rfl (fun ls hl => ?_)
          have b9 : iv 1 3 (v2_loc2 + Int32.ofInt 1) := iv_add b4 ivo_1 (by decide) (by decide) (by decide) (by decide)
          refine lv_goto (tgt := 2) hx hb dX11_goalOf_25 rfl ?_
          have hPD9 := cl_s (wc := [(m0, .inr (11, oX11 ra x0)), (ra 2, .inl (kI, 8, .inl q_told)), (ra 10, .inl (kI, 6, .inl q_goal))]) hP hD [1, 2, 0] rfl (by decide +kernel)
          exact ih2 (v2_loc2 + Int32.ofInt 1) _ _ _ (ms_up (c := 1) (d := 0) b4 hm2 (by decide) (iv_inc 1 b4 (by decide) (by decide) (by decide) (by decide)) (by decide) rfl) ((iv_w b9 (by decide) (by decide))) ((show x0 1 = x0 1 from rfl)) ((show x0 10 = x0 10 from rfl)) ((show x0 11 = x0 11 from rfl)) ((show x0 14 = x0 14 from rfl)) (hPD9.1) (hPD9.2) hS (lv_sub hl [1, 2, 0] rfl)
        · have b10 : iv 0 11 p0 := iv_eqR c8 b7
          refine lv_iload_n hx hb dX11_goalOf_20 rfl (lv_at hl 2 rfl) ?_
          have hPD9 := cl_s (wc := [(m0, .inr (11, oX11 ra x0)), (ra 2, .inl (kI, 8, .inl q_told)), (ra 10, .inl (kI, 6, .inl q_goal))]) hP hD [1, 2, 0] rfl (by decide +kernel)
          have hP9 := hPD9.1
          have hD9 := hPD9.2
          exact W.iret (v := v2_loc2) hx hb hr (fun t ht hW => ⟨⟨v2_loc2, (), rfl, (iv_w b4 (by decide) (by decide)), by rw [ht]; exact hP9, hD9⟩, hS.F ht⟩) hS.2.2 dX11_goalOf_21
  refine lv_iconst (v := 0) hx hb dX11_goalOf_0 ic_0 ?_
  refine lv_istore_n (lv' := [(2, .int 0), (0, .ref m0), (1, .int p0)]) hx hb dX11_goalOf_1 rfl hl (Nat.le_of_ble_eq_true rfl) rfl (fun ls hl => ?_)
  exact hJ2 _ 0 _ _ _ (Nat.lt_succ_self _) ((iv_w ivk_0 (by decide) (by decide))) ((show x0 1 = x0 1 from rfl)) ((show x0 10 = x0 10 from rfl)) ((show x0 11 = x0 11 from rfl)) ((show x0 14 = x0 14 from rfl)) (hP) (hD) hS (lv_sub hl [1, 2, 0] rfl)
def rm_s11_tellDiamonds : Room := { frames := 3, cells := 0, slots := 0, locals := 69 }
set_option maxHeartbeats 4000000 in
set_option maxRecDepth 100000 in
theorem s11_tellDiamonds (l : Launch) (dC : Nat → ClassId) (dI : Nat → Nat → Nat) (kB kI kJ kZ kC kS : ClassId) (sz : Nat) (m0 : Nat) (ra : Nat → Nat) (x0 : Nat → Int32) (q_now : Nat → Int32) (q_wide : Nat → Int32) (q_diamondFrom : Nat → Int32) (q_diamondTo : Nat → Int32) (p0 : Int32) (hX : fI lX11 hX11 x0) (hq_now : fI lNow hNow q_now) (hq_diamondFrom : fI (fun _ => 0) (fun _ => 10) q_diamondFrom) (hq_diamondTo : fI (fun _ => 0) (fun _ => 10) q_diamondTo) (hp0 : iv 0 2 p0) : Met l yX11_tellDiamonds wsX11_tellDiamonds rm_s11_tellDiamonds (va_Pc [.ref m0, .int p0] (fun U => U.heap.size = sz ∧ va_P (dC, dI) vwCl [(m0, .inr (11, oX11 ra x0)), (ra 11, .inl (kI, 1019, .inl q_now)), (ra 19, .inl (kI, 12, .inl q_wide)), (ra 20, .inl (kI, 10, .inl q_diamondFrom)), (ra 21, .inl (kI, 10, .inl q_diamondTo))] U.heap ∧ kE dC dI kB kI kJ kZ kC kS U ∧ va_D (fun _ => True) [(m0, .inr (11, oX11 ra x0)), (ra 11, .inl (kI, 1019, .inl q_now)), (ra 19, .inl (kI, 12, .inl q_wide)), (ra 20, .inl (kI, 10, .inl q_diamondFrom)), (ra 21, .inl (kI, 10, .inl q_diamondTo))])) (va_Qv (fun (_ : Unit) => True) (fun _ t => ∃ (x0' : Nat → Int32) (q_wide' : Nat → Int32) (q_diamondFrom' : Nat → Int32) (q_diamondTo' : Nat → Int32), fI lX11 hX11 x0' ∧ fI (fun _ => 0) (fun _ => 10) q_diamondFrom' ∧ fI (fun _ => 0) (fun _ => 10) q_diamondTo' ∧ (x0' 1 = x0 1) ∧ (x0' 10 = x0 10) ∧ (x0' 11 = x0 11) ∧ (x0' 14 = x0 14) ∧ va_P (dC, dI) vwCl [(m0, .inr (11, oX11 ra x0')), (ra 11, .inl (kI, 1019, .inl q_now)), (ra 19, .inl (kI, 12, .inl q_wide')), (ra 20, .inl (kI, 10, .inl q_diamondFrom')), (ra 21, .inl (kI, 10, .inl q_diamondTo'))] t.heap ∧ va_D (va_A [(m0, .inr (11, oX11 ra x0)), (ra 11, .inl (kI, 1019, .inl q_now)), (ra 19, .inl (kI, 12, .inl q_wide)), (ra 20, .inl (kI, 10, .inl q_diamondFrom)), (ra 21, .inl (kI, 10, .inl q_diamondTo))] sz) [(m0, .inr (11, oX11 ra x0')), (ra 11, .inl (kI, 1019, .inl q_now)), (ra 19, .inl (kI, 12, .inl q_wide')), (ra 20, .inl (kI, 10, .inl q_diamondFrom')), (ra 21, .inl (kI, 10, .inl q_diamondTo'))]) (va_A [(m0, .inr (11, oX11 ra x0)), (ra 11, .inl (kI, 1019, .inl q_now)), (ra 19, .inl (kI, 12, .inl q_wide)), (ra 20, .inl (kI, 10, .inl q_diamondFrom)), (ra 21, .inl (kI, 10, .inl q_diamondTo))] sz)) 0 0 (va_A [(m0, .inr (11, oX11 ra x0)), (ra 11, .inl (kI, 1019, .inl q_now)), (ra 19, .inl (kI, 12, .inl q_wide)), (ra 20, .inl (kI, 10, .inl q_diamondFrom)), (ra 21, .inl (kI, 10, .inl q_diamondTo))] sz) := by
  refine Met.ofW (cc := cX11_tellDiamonds) (maxL := 4) (ret := none) (by decide) rfl ?_
  intro p e s m args0 below meth c s₁ B hml hv
  obtain ⟨hargs, hsz, hP, hE, hD0⟩ := hv
  have hx := B.exec
  have hb := B.bytes
  have hr := B.returns
  have hts := atoms_spec (ws := wsX11_tellDiamonds) B.pre
  have hown : s.vm.findClass RX11 = some m.cls := findClass_of_methodNamed B.named
  have hlocks := B.notSynchronized
  have hK := hE.1
  have hin11 : ∀ w ∈ wsX110, w ∈ wsX11_tellDiamonds := fun _ h9 => List.mem_cons_of_mem _ (List.mem_append_right _ h9)
  have hw_0 := hts (.fieldLink RX11 94 "PathProberModel" "wide" "[I") (List.mem_of_getElem? (i := 2) rfl)
  have hw_1 := hts (.fieldLink RX11 97 "PathProberModel" "diamondFrom" "[I") (List.mem_of_getElem? (i := 3) rfl)
  have hw_2 := hts (.fieldLink RX11 416 "PathProberModel" "diamonds" "I") (List.mem_of_getElem? (i := 1) rfl)
  have hw_3 := hts (.fieldLink RX11 100 "PathProberModel" "diamondTo" "[I") (List.mem_of_getElem? (i := 4) rfl)
  subst hsz
  have hD := hD0.self (sz := s.heap.size)
  generalize hAe : va_A [(m0, .inr (11, oX11 ra x0)), (ra 11, .inl (kI, 1019, .inl q_now)), (ra 19, .inl (kI, 12, .inl q_wide)), (ra 20, .inl (kI, 10, .inl q_diamondFrom)), (ra 21, .inl (kI, 10, .inl q_diamondTo))] s.heap.size = A at hD ⊢
  have hA : ∀ q : Nat, s.heap.size ≤ q → A q := fun q h => by rw [← hAe]; exact Or.inr h
  have hS : va_S A s.heap s.heap [] := va_S.rf
  have hP : va_P (dC, dI) vwCl [(m0, .inr (11, oX11 ra x0)), (ra 11, .inl (kI, 1019, .inl q_now)), (ra 19, .inl (kI, 12, .inl q_wide)), (ra 20, .inl (kI, 10, .inl q_diamondFrom)), (ra 21, .inl (kI, 10, .inl q_diamondTo))] s.heap := hP
  have hl := lv_entry ([.ref m0, .int p0]) (n := 4) (Nat.le_of_ble_eq_true rfl)
  have hla : entryFrame m args0 4 = entryFrame m ([.ref m0, .int p0] : List Value).toArray 4 := by rw [hargs]
  rw [hla, lg_entry_eq]
  generalize (lg_sl ([.ref m0, .int p0]) ++ List.replicate (4 - (lg_sl ([.ref m0, .int p0])).length) Slot.unset).toArray = ls at hl ⊢
  have hl : lv_has ls 4 [(0, .ref m0), (1, .int p0)] := hl
  have hJ38 : ∀ (n : Nat) (y38_0 : Nat → Int32) (g38_2 : Nat → Int32) (g38_3 : Nat → Int32) (g38_4 : Nat → Int32) (v38_loc2 : Int32) (v38_loc3 : Int32) (H : Heap) (locs : List Loc) (ls : Array Slot), (11 - v38_loc3.toInt).toNat < n → fI lX11 hX11 y38_0 → fI (fun _ => 0) (fun _ => 10) g38_3 → fI (fun _ => 0) (fun _ => 10) g38_4 → iv (-1) 10 v38_loc2 → iv 1 11 v38_loc3 → ((y38_0 18).toInt + 1 ≤ v38_loc3.toInt) → (y38_0 1 = x0 1) → (y38_0 10 = x0 10) → (y38_0 11 = x0 11) → (y38_0 14 = x0 14) → va_P (dC, dI) vwCl [(m0, .inr (11, oX11 ra y38_0)), (ra 11, .inl (kI, 1019, .inl q_now)), (ra 19, .inl (kI, 12, .inl g38_2)), (ra 20, .inl (kI, 10, .inl g38_3)), (ra 21, .inl (kI, 10, .inl g38_4))] H → va_D A [(m0, .inr (11, oX11 ra y38_0)), (ra 11, .inl (kI, 1019, .inl q_now)), (ra 19, .inl (kI, 12, .inl g38_2)), (ra 20, .inl (kI, 10, .inl g38_3)), (ra 21, .inl (kI, 10, .inl g38_4))] → va_S A s.heap H locs → lv_has ls 4 [(0, .ref m0), (1, .int p0), (2, .int v38_loc2), (3, .int v38_loc3)] → W p l e (headSpec wsX11_tellDiamonds rm_s11_tellDiamonds).room s m args0 below meth c H locs (0) (0) (MQ below (va_Qv (fun (_ : Unit) => True) (fun _ t => ∃ (x0' : Nat → Int32) (q_wide' : Nat → Int32) (q_diamondFrom' : Nat → Int32) (q_diamondTo' : Nat → Int32), fI lX11 hX11 x0' ∧ fI (fun _ => 0) (fun _ => 10) q_diamondFrom' ∧ fI (fun _ => 0) (fun _ => 10) q_diamondTo' ∧ (x0' 1 = x0 1) ∧ (x0' 10 = x0 10) ∧ (x0' 11 = x0 11) ∧ (x0' 14 = x0 14) ∧ va_P (dC, dI) vwCl [(m0, .inr (11, oX11 ra x0')), (ra 11, .inl (kI, 1019, .inl q_now)), (ra 19, .inl (kI, 12, .inl q_wide')), (ra 20, .inl (kI, 10, .inl q_diamondFrom')), (ra 21, .inl (kI, 10, .inl q_diamondTo'))] t.heap ∧ va_D A [(m0, .inr (11, oX11 ra x0')), (ra 11, .inl (kI, 1019, .inl q_now)), (ra 19, .inl (kI, 12, .inl q_wide')), (ra 20, .inl (kI, 10, .inl q_diamondFrom')), (ra 21, .inl (kI, 10, .inl q_diamondTo'))]) A) args0 s 0 0 A) (F0 m 38 ls []) := by
    intro n
    induction n with
    | zero => intro y38_0 g38_2 g38_3 g38_4 v38_loc2 v38_loc3 H locs ls hm38; exact absurd hm38 (Nat.not_lt_zero _)
    | succ n ih38 =>
      intro y38_0 g38_2 g38_3 g38_4 v38_loc2 v38_loc3 H locs ls hm38 hI38_0 hI38_3 hI38_4 h38_4 h38_5 hdi_38 htp_38 hfp_38 hor_38 hirl_38 hP hD hS hl
      refine lv_iload_n hx hb dX11_tellDiamonds_38 rfl (lv_at hl 3 rfl) ?_
      refine lv_bipush (v := 10) hx hb dX11_tellDiamonds_39 bp_10 ?_
      refine lv_icmp_gt (tgt := 131) hx hb dX11_tellDiamonds_41 rfl (fun c1 => ?_) (fun c1 => ?_)
      · have b2 : iv 11 11 v38_loc3 := iv_ltR c1 ivk_10 h38_5 (by decide) (by decide)
        have hP9 := hP
        have hD9 := hD
        exact W.vret hx hb hr (fun t ht hW => ⟨⟨(), rfl, trivial, y38_0, g38_2, g38_3, g38_4, hI38_0, hI38_3, hI38_4, (show y38_0 1 = x0 1 from htp_38), (show y38_0 10 = x0 10 from hfp_38), (show y38_0 11 = x0 11 from hor_38), (show y38_0 14 = x0 14 from hirl_38), by rw [ht]; exact hP9, hD9⟩, hS.F ht⟩) hS.2.2 dX11_tellDiamonds_131
      · have b3 : iv 1 10 v38_loc3 := iv_leL (Int32.not_lt.mp c1) h38_5 ivk_10 (by decide) (by decide)
        refine lv_aload_n hx hb dX11_tellDiamonds_44 rfl (lv_at hl 0 rfl) ?_
        refine va_get (D := (dC, dI)) (ci := 11) (v := .ref (ra 19)) (C := RX11) (T := TX11) (N := 61) hx hb hts hin11 hown hK hP 0 rfl rfl 37 (Nat.le_of_ble_eq_true rfl) hw_0 (fun _ h9 => h9) rfl dX11_tellDiamonds_45 ?_
        refine lv_iload_n hx hb dX11_tellDiamonds_48 rfl (lv_at hl 3 rfl) ?_
        refine va_iald hx hb hK hP 2 1 rfl rfl (iv_in b3 (by decide) (by decide)) dX11_tellDiamonds_49 ?_
        refine lv_topi (fun z4 _ => ?_)
        refine lv_iconst (v := 1) hx hb dX11_tellDiamonds_50 ic_1 ?_
        refine lv_icmp_ne (tgt := 96) hx hb dX11_tellDiamonds_51 rfl (fun c5 => ?_) (fun c5 => ?_)
        · refine lv_aload_n hx hb dX11_tellDiamonds_96 rfl (lv_at hl 0 rfl) ?_
          refine va_get (D := (dC, dI)) (ci := 11) (v := .ref (ra 19)) (C := RX11) (T := TX11) (N := 61) hx hb hts hin11 hown hK hP 0 rfl rfl 37 (Nat.le_of_ble_eq_true rfl) hw_0 (fun _ h9 => h9) rfl dX11_tellDiamonds_97 ?_
          refine lv_iload_n hx hb dX11_tellDiamonds_100 rfl (lv_at hl 3 rfl) ?_
          refine va_iald hx hb hK hP 2 1 rfl rfl (iv_in b3 (by decide) (by decide)) dX11_tellDiamonds_101 ?_
          refine lv_topi (fun z6 _ => ?_)
          refine lv_iconst (v := 1) hx hb dX11_tellDiamonds_102 ic_1 ?_
          refine lv_icmp_ne (tgt := 110) hx hb dX11_tellDiamonds_103 rfl (fun c7 => ?_) (fun c7 => ?_)
          · refine lv_aload_n hx hb dX11_tellDiamonds_110 rfl (lv_at hl 0 rfl) ?_
            refine va_get (D := (dC, dI)) (ci := 11) (v := .ref (ra 19)) (C := RX11) (T := TX11) (N := 61) hx hb hts hin11 hown hK hP 0 rfl rfl 37 (Nat.le_of_ble_eq_true rfl) hw_0 (fun _ h9 => h9) rfl dX11_tellDiamonds_111 ?_
            refine lv_iload_n hx hb dX11_tellDiamonds_114 rfl (lv_at hl 3 rfl) ?_
            refine va_iald hx hb hK hP 2 1 rfl rfl (iv_in b3 (by decide) (by decide)) dX11_tellDiamonds_115 ?_
            refine lv_topi (fun z8 _ => ?_)
            refine lv_if_ne (tgt := 123) hx hb dX11_tellDiamonds_116 rfl (fun c9 => ?_) (fun c9 => ?_)
            · refine lv_iload_n hx hb dX11_tellDiamonds_123 rfl (lv_at hl 2 rfl) ?_
              refine lv_istore_n (lv' := [(2, .int v38_loc2), (0, .ref m0), (1, .int p0), (3, .int v38_loc3)]) hx hb dX11_tellDiamonds_124 rfl hl (Nat.le_of_ble_eq_true rfl) rfl (fun ls hl => ?_)
              refine lv_iinc (v := v38_loc3 + Int32.ofInt 1) (lv' := [(3, .int (v38_loc3 + Int32.ofInt 1)), (2, .int v38_loc2), (0, .ref m0), (1, .int p0)]) hx hb dX11_tellDiamonds_125 hl (k := 3) rfl (rfl) (Nat.le_of_ble_eq_true rfl) rfl (fun ls hl => ?_)
              have b10 : iv 2 11 (v38_loc3 + Int32.ofInt 1) := iv_add b3 ivo_1 (by decide) (by decide) (by decide) (by decide)
              have t11 : (v38_loc3 + Int32.ofInt 1).toInt = v38_loc3.toInt + 1 := iv_inc 1 b3 (by decide) (by decide) (by decide) (by decide)
              refine lv_goto (tgt := 38) hx hb dX11_tellDiamonds_128 rfl ?_
              exact ih38 y38_0 g38_2 g38_3 g38_4 v38_loc2 (v38_loc3 + Int32.ofInt 1) _ _ _ (ms_up (c := 1) (d := 0) b3 hm38 (by decide) (iv_inc 1 b3 (by decide) (by decide) (by decide) (by decide)) (by decide) rfl) (hI38_0) (hI38_3) (hI38_4) (h38_4) ((iv_w b10 (by decide) (by decide))) ((show (y38_0 18).toInt + 1 ≤ (v38_loc3 + Int32.ofInt 1).toInt from by have q1 := (hI38_0 18 : iv 0 10 (y38_0 18)); have q2 := b10; have q3 := q1.2; have q4 := q2.1; have q5 := hdi_38; omega)) ((show y38_0 1 = x0 1 from htp_38)) ((show y38_0 10 = x0 10 from hfp_38)) ((show y38_0 11 = x0 11 from hor_38)) ((show y38_0 14 = x0 14 from hirl_38)) (hP) (hD) hS (lv_sub hl [2, 3, 1, 0] rfl)
            · have b12 : iv 0 0 z8 := iv_eqL c9 ivk_0
              refine lv_iconst (v := (-1)) hx hb dX11_tellDiamonds_119 ic_m1 ?_
              refine lv_goto (tgt := 124) hx hb dX11_tellDiamonds_120 rfl ?_
              refine lv_istore_n (lv' := [(2, .int (-1)), (0, .ref m0), (1, .int p0), (3, .int v38_loc3)]) hx hb dX11_tellDiamonds_124 rfl hl (Nat.le_of_ble_eq_true rfl) rfl (fun ls hl => ?_)
              refine lv_iinc (v := v38_loc3 + Int32.ofInt 1) (lv' := [(3, .int (v38_loc3 + Int32.ofInt 1)), (2, .int (-1)), (0, .ref m0), (1, .int p0)]) hx hb dX11_tellDiamonds_125 hl (k := 3) rfl (rfl) (Nat.le_of_ble_eq_true rfl) rfl (fun ls hl => ?_)
              have b13 : iv 2 11 (v38_loc3 + Int32.ofInt 1) := iv_add b3 ivo_1 (by decide) (by decide) (by decide) (by decide)
              have t14 : (v38_loc3 + Int32.ofInt 1).toInt = v38_loc3.toInt + 1 := iv_inc 1 b3 (by decide) (by decide) (by decide) (by decide)
              refine lv_goto (tgt := 38) hx hb dX11_tellDiamonds_128 rfl ?_
              exact ih38 y38_0 g38_2 g38_3 g38_4 (-1) (v38_loc3 + Int32.ofInt 1) _ _ _ (ms_up (c := 1) (d := 0) b3 hm38 (by decide) (iv_inc 1 b3 (by decide) (by decide) (by decide) (by decide)) (by decide) rfl) (hI38_0) (hI38_3) (hI38_4) ((iv_w ivk_m1 (by decide) (by decide))) ((iv_w b13 (by decide) (by decide))) ((show (y38_0 18).toInt + 1 ≤ (v38_loc3 + Int32.ofInt 1).toInt from by have q1 := (hI38_0 18 : iv 0 10 (y38_0 18)); have q2 := b13; have q3 := q1.2; have q4 := q2.1; have q5 := hdi_38; omega)) ((show y38_0 1 = x0 1 from htp_38)) ((show y38_0 10 = x0 10 from hfp_38)) ((show y38_0 11 = x0 11 from hor_38)) ((show y38_0 14 = x0 14 from hirl_38)) (hP) (hD) hS (lv_sub hl [2, 3, 1, 0] rfl)
          · have b15 : iv 1 1 z6 := iv_eqL c7 ivk_1
            refine lv_iload_n hx hb dX11_tellDiamonds_106 rfl (lv_at hl 3 rfl) ?_
            refine lv_goto (tgt := 124) hx hb dX11_tellDiamonds_107 rfl ?_
            refine lv_istore_n (lv' := [(2, .int v38_loc3), (0, .ref m0), (1, .int p0), (3, .int v38_loc3)]) hx hb dX11_tellDiamonds_124 rfl hl (Nat.le_of_ble_eq_true rfl) rfl (fun ls hl => ?_)
            refine lv_iinc (v := v38_loc3 + Int32.ofInt 1) (lv' := [(3, .int (v38_loc3 + Int32.ofInt 1)), (2, .int v38_loc3), (0, .ref m0), (1, .int p0)]) hx hb dX11_tellDiamonds_125 hl (k := 3) rfl (rfl) (Nat.le_of_ble_eq_true rfl) rfl (fun ls hl => ?_)
            have b16 : iv 2 11 (v38_loc3 + Int32.ofInt 1) := iv_add b3 ivo_1 (by decide) (by decide) (by decide) (by decide)
            have t17 : (v38_loc3 + Int32.ofInt 1).toInt = v38_loc3.toInt + 1 := iv_inc 1 b3 (by decide) (by decide) (by decide) (by decide)
            refine lv_goto (tgt := 38) hx hb dX11_tellDiamonds_128 rfl ?_
            exact ih38 y38_0 g38_2 g38_3 g38_4 v38_loc3 (v38_loc3 + Int32.ofInt 1) _ _ _ (ms_up (c := 1) (d := 0) b3 hm38 (by decide) (iv_inc 1 b3 (by decide) (by decide) (by decide) (by decide)) (by decide) rfl) (hI38_0) (hI38_3) (hI38_4) ((iv_w b3 (by decide) (by decide))) ((iv_w b16 (by decide) (by decide))) ((show (y38_0 18).toInt + 1 ≤ (v38_loc3 + Int32.ofInt 1).toInt from by have q1 := (hI38_0 18 : iv 0 10 (y38_0 18)); have q2 := b16; have q3 := q1.2; have q4 := q2.1; have q5 := hdi_38; omega)) ((show y38_0 1 = x0 1 from htp_38)) ((show y38_0 10 = x0 10 from hfp_38)) ((show y38_0 11 = x0 11 from hor_38)) ((show y38_0 14 = x0 14 from hirl_38)) (hP) (hD) hS (lv_sub hl [2, 3, 1, 0] rfl)
        · have b18 : iv 1 1 z4 := iv_eqL c5 ivk_1
          refine lv_iload_n hx hb dX11_tellDiamonds_54 rfl (lv_at hl 2 rfl) ?_
          refine lv_iconst (v := (-1)) hx hb dX11_tellDiamonds_55 ic_m1 ?_
          refine lv_icmp_eq (tgt := 96) hx hb dX11_tellDiamonds_56 rfl (fun c19 => ?_) (fun c19 => ?_)
          · have b20 : iv (-1) (-1) v38_loc2 := iv_eqL c19 ivk_m1
            refine lv_aload_n hx hb dX11_tellDiamonds_96 rfl (lv_at hl 0 rfl) ?_
            refine va_get (D := (dC, dI)) (ci := 11) (v := .ref (ra 19)) (C := RX11) (T := TX11) (N := 61) hx hb hts hin11 hown hK hP 0 rfl rfl 37 (Nat.le_of_ble_eq_true rfl) hw_0 (fun _ h9 => h9) rfl dX11_tellDiamonds_97 ?_
            refine lv_iload_n hx hb dX11_tellDiamonds_100 rfl (lv_at hl 3 rfl) ?_
            refine va_iald hx hb hK hP 2 1 rfl rfl (iv_in b3 (by decide) (by decide)) dX11_tellDiamonds_101 ?_
            refine lv_topi (fun z21 _ => ?_)
            refine lv_iconst (v := 1) hx hb dX11_tellDiamonds_102 ic_1 ?_
            refine lv_icmp_ne (tgt := 110) hx hb dX11_tellDiamonds_103 rfl (fun c22 => ?_) (fun c22 => ?_)
            · refine lv_aload_n hx hb dX11_tellDiamonds_110 rfl (lv_at hl 0 rfl) ?_
              refine va_get (D := (dC, dI)) (ci := 11) (v := .ref (ra 19)) (C := RX11) (T := TX11) (N := 61) hx hb hts hin11 hown hK hP 0 rfl rfl 37 (Nat.le_of_ble_eq_true rfl) hw_0 (fun _ h9 => h9) rfl dX11_tellDiamonds_111 ?_
              refine lv_iload_n hx hb dX11_tellDiamonds_114 rfl (lv_at hl 3 rfl) ?_
              refine va_iald hx hb hK hP 2 1 rfl rfl (iv_in b3 (by decide) (by decide)) dX11_tellDiamonds_115 ?_
              refine lv_topi (fun z23 _ => ?_)
              refine lv_if_ne (tgt := 123) hx hb dX11_tellDiamonds_116 rfl (fun c24 => ?_) (fun c24 => ?_)
              · refine lv_iload_n hx hb dX11_tellDiamonds_123 rfl (lv_at hl 2 rfl) ?_
                refine lv_istore_n (lv' := [(2, .int v38_loc2), (0, .ref m0), (1, .int p0), (3, .int v38_loc3)]) hx hb dX11_tellDiamonds_124 rfl hl (Nat.le_of_ble_eq_true rfl) rfl (fun ls hl => ?_)
                refine lv_iinc (v := v38_loc3 + Int32.ofInt 1) (lv' := [(3, .int (v38_loc3 + Int32.ofInt 1)), (2, .int v38_loc2), (0, .ref m0), (1, .int p0)]) hx hb dX11_tellDiamonds_125 hl (k := 3) rfl (rfl) (Nat.le_of_ble_eq_true rfl) rfl (fun ls hl => ?_)
                have b25 : iv 2 11 (v38_loc3 + Int32.ofInt 1) := iv_add b3 ivo_1 (by decide) (by decide) (by decide) (by decide)
                have t26 : (v38_loc3 + Int32.ofInt 1).toInt = v38_loc3.toInt + 1 := iv_inc 1 b3 (by decide) (by decide) (by decide) (by decide)
                refine lv_goto (tgt := 38) hx hb dX11_tellDiamonds_128 rfl ?_
                exact ih38 y38_0 g38_2 g38_3 g38_4 v38_loc2 (v38_loc3 + Int32.ofInt 1) _ _ _ (ms_up (c := 1) (d := 0) b3 hm38 (by decide) (iv_inc 1 b3 (by decide) (by decide) (by decide) (by decide)) (by decide) rfl) (hI38_0) (hI38_3) (hI38_4) ((iv_w b20 (by decide) (by decide))) ((iv_w b25 (by decide) (by decide))) ((show (y38_0 18).toInt + 1 ≤ (v38_loc3 + Int32.ofInt 1).toInt from by have q1 := (hI38_0 18 : iv 0 10 (y38_0 18)); have q2 := b25; have q3 := q1.2; have q4 := q2.1; have q5 := hdi_38; omega)) ((show y38_0 1 = x0 1 from htp_38)) ((show y38_0 10 = x0 10 from hfp_38)) ((show y38_0 11 = x0 11 from hor_38)) ((show y38_0 14 = x0 14 from hirl_38)) (hP) (hD) hS (lv_sub hl [2, 3, 1, 0] rfl)
              · have b27 : iv 0 0 z23 := iv_eqL c24 ivk_0
                refine lv_iconst (v := (-1)) hx hb dX11_tellDiamonds_119 ic_m1 ?_
                refine lv_goto (tgt := 124) hx hb dX11_tellDiamonds_120 rfl ?_
                refine lv_istore_n (lv' := [(2, .int (-1)), (0, .ref m0), (1, .int p0), (3, .int v38_loc3)]) hx hb dX11_tellDiamonds_124 rfl hl (Nat.le_of_ble_eq_true rfl) rfl (fun ls hl => ?_)
                refine lv_iinc (v := v38_loc3 + Int32.ofInt 1) (lv' := [(3, .int (v38_loc3 + Int32.ofInt 1)), (2, .int (-1)), (0, .ref m0), (1, .int p0)]) hx hb dX11_tellDiamonds_125 hl (k := 3) rfl (rfl) (Nat.le_of_ble_eq_true rfl) rfl (fun ls hl => ?_)
                have b28 : iv 2 11 (v38_loc3 + Int32.ofInt 1) := iv_add b3 ivo_1 (by decide) (by decide) (by decide) (by decide)
                have t29 : (v38_loc3 + Int32.ofInt 1).toInt = v38_loc3.toInt + 1 := iv_inc 1 b3 (by decide) (by decide) (by decide) (by decide)
                refine lv_goto (tgt := 38) hx hb dX11_tellDiamonds_128 rfl ?_
                exact ih38 y38_0 g38_2 g38_3 g38_4 (-1) (v38_loc3 + Int32.ofInt 1) _ _ _ (ms_up (c := 1) (d := 0) b3 hm38 (by decide) (iv_inc 1 b3 (by decide) (by decide) (by decide) (by decide)) (by decide) rfl) (hI38_0) (hI38_3) (hI38_4) ((iv_w ivk_m1 (by decide) (by decide))) ((iv_w b28 (by decide) (by decide))) ((show (y38_0 18).toInt + 1 ≤ (v38_loc3 + Int32.ofInt 1).toInt from by have q1 := (hI38_0 18 : iv 0 10 (y38_0 18)); have q2 := b28; have q3 := q1.2; have q4 := q2.1; have q5 := hdi_38; omega)) ((show y38_0 1 = x0 1 from htp_38)) ((show y38_0 10 = x0 10 from hfp_38)) ((show y38_0 11 = x0 11 from hor_38)) ((show y38_0 14 = x0 14 from hirl_38)) (hP) (hD) hS (lv_sub hl [2, 3, 1, 0] rfl)
            · have b30 : iv 1 1 z21 := iv_eqL c22 ivk_1
              refine lv_iload_n hx hb dX11_tellDiamonds_106 rfl (lv_at hl 3 rfl) ?_
              refine lv_goto (tgt := 124) hx hb dX11_tellDiamonds_107 rfl ?_
              refine lv_istore_n (lv' := [(2, .int v38_loc3), (0, .ref m0), (1, .int p0), (3, .int v38_loc3)]) hx hb dX11_tellDiamonds_124 rfl hl (Nat.le_of_ble_eq_true rfl) rfl (fun ls hl => ?_)
              refine lv_iinc (v := v38_loc3 + Int32.ofInt 1) (lv' := [(3, .int (v38_loc3 + Int32.ofInt 1)), (2, .int v38_loc3), (0, .ref m0), (1, .int p0)]) hx hb dX11_tellDiamonds_125 hl (k := 3) rfl (rfl) (Nat.le_of_ble_eq_true rfl) rfl (fun ls hl => ?_)
              have b31 : iv 2 11 (v38_loc3 + Int32.ofInt 1) := iv_add b3 ivo_1 (by decide) (by decide) (by decide) (by decide)
              have t32 : (v38_loc3 + Int32.ofInt 1).toInt = v38_loc3.toInt + 1 := iv_inc 1 b3 (by decide) (by decide) (by decide) (by decide)
              refine lv_goto (tgt := 38) hx hb dX11_tellDiamonds_128 rfl ?_
              exact ih38 y38_0 g38_2 g38_3 g38_4 v38_loc3 (v38_loc3 + Int32.ofInt 1) _ _ _ (ms_up (c := 1) (d := 0) b3 hm38 (by decide) (iv_inc 1 b3 (by decide) (by decide) (by decide) (by decide)) (by decide) rfl) (hI38_0) (hI38_3) (hI38_4) ((iv_w b3 (by decide) (by decide))) ((iv_w b31 (by decide) (by decide))) ((show (y38_0 18).toInt + 1 ≤ (v38_loc3 + Int32.ofInt 1).toInt from by have q1 := (hI38_0 18 : iv 0 10 (y38_0 18)); have q2 := b31; have q3 := q1.2; have q4 := q2.1; have q5 := hdi_38; omega)) ((show y38_0 1 = x0 1 from htp_38)) ((show y38_0 10 = x0 10 from hfp_38)) ((show y38_0 11 = x0 11 from hor_38)) ((show y38_0 14 = x0 14 from hirl_38)) (hP) (hD) hS (lv_sub hl [2, 3, 1, 0] rfl)
          · have b33 : iv 0 10 v38_loc2 := iv_neLo c19 h38_4 ivk_m1 (by decide) (by decide)
            refine lv_iload_n hx hb dX11_tellDiamonds_59 rfl (lv_at hl 3 rfl) ?_
            refine lv_iload_n hx hb dX11_tellDiamonds_60 rfl (lv_at hl 2 rfl) ?_
            refine lv_iconst (v := 1) hx hb dX11_tellDiamonds_61 ic_1 ?_
            refine lv_iadd hx hb dX11_tellDiamonds_62 ?_
            refine iv_top (a := 1) (b := 11) (iv_add b33 ivk_1 (by decide) (by decide) (by decide) (by decide)) (fun z34 b35 => ?_)
            refine lv_icmp_le (tgt := 96) hx hb dX11_tellDiamonds_63 rfl (fun c36 => ?_) (fun c36 => ?_)
            · refine lv_aload_n hx hb dX11_tellDiamonds_96 rfl (lv_at hl 0 rfl) ?_
              refine va_get (D := (dC, dI)) (ci := 11) (v := .ref (ra 19)) (C := RX11) (T := TX11) (N := 61) hx hb hts hin11 hown hK hP 0 rfl rfl 37 (Nat.le_of_ble_eq_true rfl) hw_0 (fun _ h9 => h9) rfl dX11_tellDiamonds_97 ?_
              refine lv_iload_n hx hb dX11_tellDiamonds_100 rfl (lv_at hl 3 rfl) ?_
              refine va_iald hx hb hK hP 2 1 rfl rfl (iv_in b3 (by decide) (by decide)) dX11_tellDiamonds_101 ?_
              refine lv_topi (fun z37 _ => ?_)
              refine lv_iconst (v := 1) hx hb dX11_tellDiamonds_102 ic_1 ?_
              refine lv_icmp_ne (tgt := 110) hx hb dX11_tellDiamonds_103 rfl (fun c38 => ?_) (fun c38 => ?_)
              · refine lv_aload_n hx hb dX11_tellDiamonds_110 rfl (lv_at hl 0 rfl) ?_
                refine va_get (D := (dC, dI)) (ci := 11) (v := .ref (ra 19)) (C := RX11) (T := TX11) (N := 61) hx hb hts hin11 hown hK hP 0 rfl rfl 37 (Nat.le_of_ble_eq_true rfl) hw_0 (fun _ h9 => h9) rfl dX11_tellDiamonds_111 ?_
                refine lv_iload_n hx hb dX11_tellDiamonds_114 rfl (lv_at hl 3 rfl) ?_
                refine va_iald hx hb hK hP 2 1 rfl rfl (iv_in b3 (by decide) (by decide)) dX11_tellDiamonds_115 ?_
                refine lv_topi (fun z39 _ => ?_)
                refine lv_if_ne (tgt := 123) hx hb dX11_tellDiamonds_116 rfl (fun c40 => ?_) (fun c40 => ?_)
                · refine lv_iload_n hx hb dX11_tellDiamonds_123 rfl (lv_at hl 2 rfl) ?_
                  refine lv_istore_n (lv' := [(2, .int v38_loc2), (0, .ref m0), (1, .int p0), (3, .int v38_loc3)]) hx hb dX11_tellDiamonds_124 rfl hl (Nat.le_of_ble_eq_true rfl) rfl (fun ls hl => ?_)
                  refine lv_iinc (v := v38_loc3 + Int32.ofInt 1) (lv' := [(3, .int (v38_loc3 + Int32.ofInt 1)), (2, .int v38_loc2), (0, .ref m0), (1, .int p0)]) hx hb dX11_tellDiamonds_125 hl (k := 3) rfl (rfl) (Nat.le_of_ble_eq_true rfl) rfl (fun ls hl => ?_)
                  have b41 : iv 2 11 (v38_loc3 + Int32.ofInt 1) := iv_add b3 ivo_1 (by decide) (by decide) (by decide) (by decide)
                  have t42 : (v38_loc3 + Int32.ofInt 1).toInt = v38_loc3.toInt + 1 := iv_inc 1 b3 (by decide) (by decide) (by decide) (by decide)
                  refine lv_goto (tgt := 38) hx hb dX11_tellDiamonds_128 rfl ?_
                  exact ih38 y38_0 g38_2 g38_3 g38_4 v38_loc2 (v38_loc3 + Int32.ofInt 1) _ _ _ (ms_up (c := 1) (d := 0) b3 hm38 (by decide) (iv_inc 1 b3 (by decide) (by decide) (by decide) (by decide)) (by decide) rfl) (hI38_0) (hI38_3) (hI38_4) ((iv_w b33 (by decide) (by decide))) ((iv_w b41 (by decide) (by decide))) ((show (y38_0 18).toInt + 1 ≤ (v38_loc3 + Int32.ofInt 1).toInt from by have q1 := (hI38_0 18 : iv 0 10 (y38_0 18)); have q2 := b41; have q3 := q1.2; have q4 := q2.1; have q5 := hdi_38; omega)) ((show y38_0 1 = x0 1 from htp_38)) ((show y38_0 10 = x0 10 from hfp_38)) ((show y38_0 11 = x0 11 from hor_38)) ((show y38_0 14 = x0 14 from hirl_38)) (hP) (hD) hS (lv_sub hl [2, 3, 1, 0] rfl)
                · have b43 : iv 0 0 z39 := iv_eqL c40 ivk_0
                  refine lv_iconst (v := (-1)) hx hb dX11_tellDiamonds_119 ic_m1 ?_
                  refine lv_goto (tgt := 124) hx hb dX11_tellDiamonds_120 rfl ?_
                  refine lv_istore_n (lv' := [(2, .int (-1)), (0, .ref m0), (1, .int p0), (3, .int v38_loc3)]) hx hb dX11_tellDiamonds_124 rfl hl (Nat.le_of_ble_eq_true rfl) rfl (fun ls hl => ?_)
                  refine lv_iinc (v := v38_loc3 + Int32.ofInt 1) (lv' := [(3, .int (v38_loc3 + Int32.ofInt 1)), (2, .int (-1)), (0, .ref m0), (1, .int p0)]) hx hb dX11_tellDiamonds_125 hl (k := 3) rfl (rfl) (Nat.le_of_ble_eq_true rfl) rfl (fun ls hl => ?_)
                  have b44 : iv 2 11 (v38_loc3 + Int32.ofInt 1) := iv_add b3 ivo_1 (by decide) (by decide) (by decide) (by decide)
                  have t45 : (v38_loc3 + Int32.ofInt 1).toInt = v38_loc3.toInt + 1 := iv_inc 1 b3 (by decide) (by decide) (by decide) (by decide)
                  refine lv_goto (tgt := 38) hx hb dX11_tellDiamonds_128 rfl ?_
                  exact ih38 y38_0 g38_2 g38_3 g38_4 (-1) (v38_loc3 + Int32.ofInt 1) _ _ _ (ms_up (c := 1) (d := 0) b3 hm38 (by decide) (iv_inc 1 b3 (by decide) (by decide) (by decide) (by decide)) (by decide) rfl) (hI38_0) (hI38_3) (hI38_4) ((iv_w ivk_m1 (by decide) (by decide))) ((iv_w b44 (by decide) (by decide))) ((show (y38_0 18).toInt + 1 ≤ (v38_loc3 + Int32.ofInt 1).toInt from by have q1 := (hI38_0 18 : iv 0 10 (y38_0 18)); have q2 := b44; have q3 := q1.2; have q4 := q2.1; have q5 := hdi_38; omega)) ((show y38_0 1 = x0 1 from htp_38)) ((show y38_0 10 = x0 10 from hfp_38)) ((show y38_0 11 = x0 11 from hor_38)) ((show y38_0 14 = x0 14 from hirl_38)) (hP) (hD) hS (lv_sub hl [2, 3, 1, 0] rfl)
              · have b46 : iv 1 1 z37 := iv_eqL c38 ivk_1
                refine lv_iload_n hx hb dX11_tellDiamonds_106 rfl (lv_at hl 3 rfl) ?_
                refine lv_goto (tgt := 124) hx hb dX11_tellDiamonds_107 rfl ?_
                refine lv_istore_n (lv' := [(2, .int v38_loc3), (0, .ref m0), (1, .int p0), (3, .int v38_loc3)]) hx hb dX11_tellDiamonds_124 rfl hl (Nat.le_of_ble_eq_true rfl) rfl (fun ls hl => ?_)
                refine lv_iinc (v := v38_loc3 + Int32.ofInt 1) (lv' := [(3, .int (v38_loc3 + Int32.ofInt 1)), (2, .int v38_loc3), (0, .ref m0), (1, .int p0)]) hx hb dX11_tellDiamonds_125 hl (k := 3) rfl (rfl) (Nat.le_of_ble_eq_true rfl) rfl (fun ls hl => ?_)
                have b47 : iv 2 11 (v38_loc3 + Int32.ofInt 1) := iv_add b3 ivo_1 (by decide) (by decide) (by decide) (by decide)
                have t48 : (v38_loc3 + Int32.ofInt 1).toInt = v38_loc3.toInt + 1 := iv_inc 1 b3 (by decide) (by decide) (by decide) (by decide)
                refine lv_goto (tgt := 38) hx hb dX11_tellDiamonds_128 rfl ?_
                exact ih38 y38_0 g38_2 g38_3 g38_4 v38_loc3 (v38_loc3 + Int32.ofInt 1) _ _ _ (ms_up (c := 1) (d := 0) b3 hm38 (by decide) (iv_inc 1 b3 (by decide) (by decide) (by decide) (by decide)) (by decide) rfl) (hI38_0) (hI38_3) (hI38_4) ((iv_w b3 (by decide) (by decide))) ((iv_w b47 (by decide) (by decide))) ((show (y38_0 18).toInt + 1 ≤ (v38_loc3 + Int32.ofInt 1).toInt from by have q1 := (hI38_0 18 : iv 0 10 (y38_0 18)); have q2 := b47; have q3 := q1.2; have q4 := q2.1; have q5 := hdi_38; omega)) ((show y38_0 1 = x0 1 from htp_38)) ((show y38_0 10 = x0 10 from hfp_38)) ((show y38_0 11 = x0 11 from hor_38)) ((show y38_0 14 = x0 14 from hirl_38)) (hP) (hD) hS (lv_sub hl [2, 3, 1, 0] rfl)
            · have b49 : iv 1 9 z34 := iv_ltL (Int32.not_le.mp c36) b35 b3 (by decide) (by decide)
              have b50 : iv 2 10 v38_loc3 := iv_ltR (Int32.not_le.mp c36) b35 b3 (by decide) (by decide)
              have b51 : iv 0 9 (y38_0 18) := dia_9 hdi_38 (hI38_0 18 : iv 0 10 (y38_0 18)) (iv_w b50 (by decide) (by decide))
              refine lv_aload_n hx hb dX11_tellDiamonds_66 rfl (lv_at hl 0 rfl) ?_
              refine va_get (D := (dC, dI)) (ci := 11) (v := .ref (ra 20)) (C := RX11) (T := TX11) (N := 61) hx hb hts hin11 hown hK hP 0 rfl rfl 38 (Nat.le_of_ble_eq_true rfl) hw_1 (fun _ h9 => h9) rfl dX11_tellDiamonds_67 ?_
              refine lv_aload_n hx hb dX11_tellDiamonds_70 rfl (lv_at hl 0 rfl) ?_
              refine va_get (D := (dC, dI)) (ci := 11) (v := .int (y38_0 18)) (C := RX11) (T := TX11) (N := 61) hx hb hts hin11 hown hK hP 0 rfl rfl 40 (Nat.le_of_ble_eq_true rfl) hw_2 (fun _ h9 => h9) rfl dX11_tellDiamonds_71 ?_
              refine lv_iload_n hx hb dX11_tellDiamonds_74 rfl (lv_at hl 2 rfl) ?_
              refine va_iast hx hb hK hP hD hS 3 1 rfl rfl (iv_in b51 (by decide) (by decide)) dX11_tellDiamonds_75 (fun H locs hPa hDa hS => ?_)
              clear hP hD
              have hP : va_P (dC, dI) vwCl [(m0, .inr (11, oX11 ra y38_0)), (ra 11, .inl (kI, 1019, .inl q_now)), (ra 19, .inl (kI, 12, .inl g38_2)), (ra 20, .inl (kI, 10, .inl (upd g38_3 (y38_0 18).toNatClampNeg v38_loc2))), (ra 21, .inl (kI, 10, .inl g38_4))] H := hPa
              have hD : va_D A [(m0, .inr (11, oX11 ra y38_0)), (ra 11, .inl (kI, 1019, .inl q_now)), (ra 19, .inl (kI, 12, .inl g38_2)), (ra 20, .inl (kI, 10, .inl (upd g38_3 (y38_0 18).toNatClampNeg v38_loc2))), (ra 21, .inl (kI, 10, .inl g38_4))] := hDa
              clear hPa hDa
              have hf53 : fI (fun _ => 0) (fun _ => 10) (upd g38_3 (y38_0 18).toNatClampNeg v38_loc2) := fI_u hI38_3 (k := (y38_0 18).toNatClampNeg) (b33)
              generalize (upd g38_3 (y38_0 18).toNatClampNeg v38_loc2) = f52 at hP hD hf53
              refine lv_aload_n hx hb dX11_tellDiamonds_76 rfl (lv_at hl 0 rfl) ?_
              refine va_get (D := (dC, dI)) (ci := 11) (v := .ref (ra 21)) (C := RX11) (T := TX11) (N := 61) hx hb hts hin11 hown hK hP 0 rfl rfl 39 (Nat.le_of_ble_eq_true rfl) hw_3 (fun _ h9 => h9) rfl dX11_tellDiamonds_77 ?_
              refine lv_aload_n hx hb dX11_tellDiamonds_80 rfl (lv_at hl 0 rfl) ?_
              refine va_get (D := (dC, dI)) (ci := 11) (v := .int (y38_0 18)) (C := RX11) (T := TX11) (N := 61) hx hb hts hin11 hown hK hP 0 rfl rfl 40 (Nat.le_of_ble_eq_true rfl) hw_2 (fun _ h9 => h9) rfl dX11_tellDiamonds_81 ?_
              refine lv_iload_n hx hb dX11_tellDiamonds_84 rfl (lv_at hl 3 rfl) ?_
              refine va_iast hx hb hK hP hD hS 4 1 rfl rfl (iv_in b51 (by decide) (by decide)) dX11_tellDiamonds_85 (fun H locs hPa hDa hS => ?_)
              clear hP hD
              have hP : va_P (dC, dI) vwCl [(m0, .inr (11, oX11 ra y38_0)), (ra 11, .inl (kI, 1019, .inl q_now)), (ra 19, .inl (kI, 12, .inl g38_2)), (ra 20, .inl (kI, 10, .inl f52)), (ra 21, .inl (kI, 10, .inl (upd g38_4 (y38_0 18).toNatClampNeg v38_loc3)))] H := hPa
              have hD : va_D A [(m0, .inr (11, oX11 ra y38_0)), (ra 11, .inl (kI, 1019, .inl q_now)), (ra 19, .inl (kI, 12, .inl g38_2)), (ra 20, .inl (kI, 10, .inl f52)), (ra 21, .inl (kI, 10, .inl (upd g38_4 (y38_0 18).toNatClampNeg v38_loc3)))] := hDa
              clear hPa hDa
              have hf55 : fI (fun _ => 0) (fun _ => 10) (upd g38_4 (y38_0 18).toNatClampNeg v38_loc3) := fI_u hI38_4 (k := (y38_0 18).toNatClampNeg) ((iv_w b50 (by decide) (by decide)))
              generalize (upd g38_4 (y38_0 18).toNatClampNeg v38_loc3) = f54 at hP hD hf55
              refine lv_aload_n hx hb dX11_tellDiamonds_86 rfl (lv_at hl 0 rfl) ?_
              refine lv_dup hx hb dX11_tellDiamonds_87 rfl ?_
              refine va_get (D := (dC, dI)) (ci := 11) (v := .int (y38_0 18)) (C := RX11) (T := TX11) (N := 61) hx hb hts hin11 hown hK hP 0 rfl rfl 40 (Nat.le_of_ble_eq_true rfl) hw_2 (fun _ h9 => h9) rfl dX11_tellDiamonds_88 ?_
              refine lv_iconst (v := 1) hx hb dX11_tellDiamonds_91 ic_1 ?_
              refine lv_iadd hx hb dX11_tellDiamonds_92 ?_
              have b56 : iv 1 10 ((y38_0 18) + 1) := iv_add b51 ivk_1 (by decide) (by decide) (by decide) (by decide)
              have t57 : ((y38_0 18) + 1).toInt = (y38_0 18).toInt + 1 := iv_addc b51 (by decide) (by decide) (by decide)
              refine va_put (D := (dC, dI)) (ci := 11) (v := .int ((y38_0 18) + 1)) (ty := .int) (C := RX11) (T := TX11) (N := 61) hx hb hts hin11 tyX11 tyX11_ok nmX11 hown hK hP hD hS 0 rfl rfl 40 (by decide) hw_2 (fun _ h9 => h9) rfl (by decide +kernel) rfl rfl (Nat.le_of_ble_eq_true rfl) dX11_tellDiamonds_93 (fun H locs hPa hDa hS => ?_)
              clear hP hD
              have hP : va_P (dC, dI) vwCl [(m0, .inr (11, oX11 ra (upd y38_0 18 ((y38_0 18) + 1)))), (ra 11, .inl (kI, 1019, .inl q_now)), (ra 19, .inl (kI, 12, .inl g38_2)), (ra 20, .inl (kI, 10, .inl f52)), (ra 21, .inl (kI, 10, .inl f54))] H := hPa
              have hD : va_D A [(m0, .inr (11, oX11 ra (upd y38_0 18 ((y38_0 18) + 1)))), (ra 11, .inl (kI, 1019, .inl q_now)), (ra 19, .inl (kI, 12, .inl g38_2)), (ra 20, .inl (kI, 10, .inl f52)), (ra 21, .inl (kI, 10, .inl f54))] := hDa
              clear hPa hDa
              refine lv_aload_n hx hb dX11_tellDiamonds_96 rfl (lv_at hl 0 rfl) ?_
              refine va_get (D := (dC, dI)) (ci := 11) (v := .ref (ra 19)) (C := RX11) (T := TX11) (N := 61) hx hb hts hin11 hown hK hP 0 rfl rfl 37 (Nat.le_of_ble_eq_true rfl) hw_0 (fun _ h9 => h9) rfl dX11_tellDiamonds_97 ?_
              refine lv_iload_n hx hb dX11_tellDiamonds_100 rfl (lv_at hl 3 rfl) ?_
              refine va_iald hx hb hK hP 2 1 rfl rfl (iv_in b50 (by decide) (by decide)) dX11_tellDiamonds_101 ?_
              refine lv_topi (fun z58 _ => ?_)
              refine lv_iconst (v := 1) hx hb dX11_tellDiamonds_102 ic_1 ?_
              refine lv_icmp_ne (tgt := 110) hx hb dX11_tellDiamonds_103 rfl (fun c59 => ?_) (fun c59 => ?_)
              · refine lv_aload_n hx hb dX11_tellDiamonds_110 rfl (lv_at hl 0 rfl) ?_
                refine va_get (D := (dC, dI)) (ci := 11) (v := .ref (ra 19)) (C := RX11) (T := TX11) (N := 61) hx hb hts hin11 hown hK hP 0 rfl rfl 37 (Nat.le_of_ble_eq_true rfl) hw_0 (fun _ h9 => h9) rfl dX11_tellDiamonds_111 ?_
                refine lv_iload_n hx hb dX11_tellDiamonds_114 rfl (lv_at hl 3 rfl) ?_
                refine va_iald hx hb hK hP 2 1 rfl rfl (iv_in b50 (by decide) (by decide)) dX11_tellDiamonds_115 ?_
                refine lv_topi (fun z60 _ => ?_)
                refine lv_if_ne (tgt := 123) hx hb dX11_tellDiamonds_116 rfl (fun c61 => ?_) (fun c61 => ?_)
                · refine lv_iload_n hx hb dX11_tellDiamonds_123 rfl (lv_at hl 2 rfl) ?_
                  refine lv_istore_n (lv' := [(2, .int v38_loc2), (0, .ref m0), (1, .int p0), (3, .int v38_loc3)]) hx hb dX11_tellDiamonds_124 rfl hl (Nat.le_of_ble_eq_true rfl) rfl (fun ls hl => ?_)
                  refine lv_iinc (v := v38_loc3 + Int32.ofInt 1) (lv' := [(3, .int (v38_loc3 + Int32.ofInt 1)), (2, .int v38_loc2), (0, .ref m0), (1, .int p0)]) hx hb dX11_tellDiamonds_125 hl (k := 3) rfl (rfl) (Nat.le_of_ble_eq_true rfl) rfl (fun ls hl => ?_)
                  have b62 : iv 3 11 (v38_loc3 + Int32.ofInt 1) := iv_add b50 ivo_1 (by decide) (by decide) (by decide) (by decide)
                  have t63 : (v38_loc3 + Int32.ofInt 1).toInt = v38_loc3.toInt + 1 := iv_inc 1 b50 (by decide) (by decide) (by decide) (by decide)
                  refine lv_goto (tgt := 38) hx hb dX11_tellDiamonds_128 rfl ?_
                  exact ih38 (upd y38_0 18 ((y38_0 18) + 1)) g38_2 f52 f54 v38_loc2 (v38_loc3 + Int32.ofInt 1) _ _ _ (ms_up (c := 1) (d := 0) b50 hm38 (by decide) (iv_inc 1 b50 (by decide) (by decide) (by decide) (by decide)) (by decide) rfl) ((fI_u hI38_0 (k := 18) ((iv_w b56 (by decide) (by decide))))) (hf53) (hf55) ((iv_w b33 (by decide) (by decide))) ((iv_w b62 (by decide) (by decide))) ((show ((y38_0 18) + 1).toInt + 1 ≤ (v38_loc3 + Int32.ofInt 1).toInt from by have q1 := b56; have q2 := b62; have q3 := q1.2; have q4 := q2.1; have q5 := hdi_38; omega)) ((show y38_0 1 = x0 1 from htp_38)) ((show y38_0 10 = x0 10 from hfp_38)) ((show y38_0 11 = x0 11 from hor_38)) ((show y38_0 14 = x0 14 from hirl_38)) (hP) (hD) hS (lv_sub hl [2, 3, 1, 0] rfl)
                · have b64 : iv 0 0 z60 := iv_eqL c61 ivk_0
                  refine lv_iconst (v := (-1)) hx hb dX11_tellDiamonds_119 ic_m1 ?_
                  refine lv_goto (tgt := 124) hx hb dX11_tellDiamonds_120 rfl ?_
                  refine lv_istore_n (lv' := [(2, .int (-1)), (0, .ref m0), (1, .int p0), (3, .int v38_loc3)]) hx hb dX11_tellDiamonds_124 rfl hl (Nat.le_of_ble_eq_true rfl) rfl (fun ls hl => ?_)
                  refine lv_iinc (v := v38_loc3 + Int32.ofInt 1) (lv' := [(3, .int (v38_loc3 + Int32.ofInt 1)), (2, .int (-1)), (0, .ref m0), (1, .int p0)]) hx hb dX11_tellDiamonds_125 hl (k := 3) rfl (rfl) (Nat.le_of_ble_eq_true rfl) rfl (fun ls hl => ?_)
                  have b65 : iv 3 11 (v38_loc3 + Int32.ofInt 1) := iv_add b50 ivo_1 (by decide) (by decide) (by decide) (by decide)
                  have t66 : (v38_loc3 + Int32.ofInt 1).toInt = v38_loc3.toInt + 1 := iv_inc 1 b50 (by decide) (by decide) (by decide) (by decide)
                  refine lv_goto (tgt := 38) hx hb dX11_tellDiamonds_128 rfl ?_
                  exact ih38 (upd y38_0 18 ((y38_0 18) + 1)) g38_2 f52 f54 (-1) (v38_loc3 + Int32.ofInt 1) _ _ _ (ms_up (c := 1) (d := 0) b50 hm38 (by decide) (iv_inc 1 b50 (by decide) (by decide) (by decide) (by decide)) (by decide) rfl) ((fI_u hI38_0 (k := 18) ((iv_w b56 (by decide) (by decide))))) (hf53) (hf55) ((iv_w ivk_m1 (by decide) (by decide))) ((iv_w b65 (by decide) (by decide))) ((show ((y38_0 18) + 1).toInt + 1 ≤ (v38_loc3 + Int32.ofInt 1).toInt from by have q1 := b56; have q2 := b65; have q3 := q1.2; have q4 := q2.1; have q5 := hdi_38; omega)) ((show y38_0 1 = x0 1 from htp_38)) ((show y38_0 10 = x0 10 from hfp_38)) ((show y38_0 11 = x0 11 from hor_38)) ((show y38_0 14 = x0 14 from hirl_38)) (hP) (hD) hS (lv_sub hl [2, 3, 1, 0] rfl)
              · have b67 : iv 1 1 z58 := iv_eqL c59 ivk_1
                refine lv_iload_n hx hb dX11_tellDiamonds_106 rfl (lv_at hl 3 rfl) ?_
                refine lv_goto (tgt := 124) hx hb dX11_tellDiamonds_107 rfl ?_
                refine lv_istore_n (lv' := [(2, .int v38_loc3), (0, .ref m0), (1, .int p0), (3, .int v38_loc3)]) hx hb dX11_tellDiamonds_124 rfl hl (Nat.le_of_ble_eq_true rfl) rfl (fun ls hl => ?_)
                refine lv_iinc (v := v38_loc3 + Int32.ofInt 1) (lv' := [(3, .int (v38_loc3 + Int32.ofInt 1)), (2, .int v38_loc3), (0, .ref m0), (1, .int p0)]) hx hb dX11_tellDiamonds_125 hl (k := 3) rfl (rfl) (Nat.le_of_ble_eq_true rfl) rfl (fun ls hl => ?_)
                have b68 : iv 3 11 (v38_loc3 + Int32.ofInt 1) := iv_add b50 ivo_1 (by decide) (by decide) (by decide) (by decide)
                have t69 : (v38_loc3 + Int32.ofInt 1).toInt = v38_loc3.toInt + 1 := iv_inc 1 b50 (by decide) (by decide) (by decide) (by decide)
                refine lv_goto (tgt := 38) hx hb dX11_tellDiamonds_128 rfl ?_
                exact ih38 (upd y38_0 18 ((y38_0 18) + 1)) g38_2 f52 f54 v38_loc3 (v38_loc3 + Int32.ofInt 1) _ _ _ (ms_up (c := 1) (d := 0) b50 hm38 (by decide) (iv_inc 1 b50 (by decide) (by decide) (by decide) (by decide)) (by decide) rfl) ((fI_u hI38_0 (k := 18) ((iv_w b56 (by decide) (by decide))))) (hf53) (hf55) ((iv_w b50 (by decide) (by decide))) ((iv_w b68 (by decide) (by decide))) ((show ((y38_0 18) + 1).toInt + 1 ≤ (v38_loc3 + Int32.ofInt 1).toInt from by have q1 := b56; have q2 := b68; have q3 := q1.2; have q4 := q2.1; have q5 := hdi_38; omega)) ((show y38_0 1 = x0 1 from htp_38)) ((show y38_0 10 = x0 10 from hfp_38)) ((show y38_0 11 = x0 11 from hor_38)) ((show y38_0 14 = x0 14 from hirl_38)) (hP) (hD) hS (lv_sub hl [2, 3, 1, 0] rfl)
  have hJ7 : ∀ (n : Nat) (y7_0 : Nat → Int32) (g7_2 : Nat → Int32) (v7_loc2 : Int32) (H : Heap) (locs : List Loc) (ls : Array Slot), (11 - v7_loc2.toInt).toNat < n → fI lX11 hX11 y7_0 → iv 1 11 v7_loc2 → iv 0 0 (y7_0 18) → (y7_0 1 = x0 1) → (y7_0 10 = x0 10) → (y7_0 11 = x0 11) → (y7_0 14 = x0 14) → va_P (dC, dI) vwCl [(m0, .inr (11, oX11 ra y7_0)), (ra 11, .inl (kI, 1019, .inl q_now)), (ra 19, .inl (kI, 12, .inl g7_2)), (ra 20, .inl (kI, 10, .inl q_diamondFrom)), (ra 21, .inl (kI, 10, .inl q_diamondTo))] H → va_D A [(m0, .inr (11, oX11 ra y7_0)), (ra 11, .inl (kI, 1019, .inl q_now)), (ra 19, .inl (kI, 12, .inl g7_2)), (ra 20, .inl (kI, 10, .inl q_diamondFrom)), (ra 21, .inl (kI, 10, .inl q_diamondTo))] → va_S A s.heap H locs → lv_has ls 4 [(0, .ref m0), (1, .int p0), (2, .int v7_loc2)] → W p l e (headSpec wsX11_tellDiamonds rm_s11_tellDiamonds).room s m args0 below meth c H locs (0) (0) (MQ below (va_Qv (fun (_ : Unit) => True) (fun _ t => ∃ (x0' : Nat → Int32) (q_wide' : Nat → Int32) (q_diamondFrom' : Nat → Int32) (q_diamondTo' : Nat → Int32), fI lX11 hX11 x0' ∧ fI (fun _ => 0) (fun _ => 10) q_diamondFrom' ∧ fI (fun _ => 0) (fun _ => 10) q_diamondTo' ∧ (x0' 1 = x0 1) ∧ (x0' 10 = x0 10) ∧ (x0' 11 = x0 11) ∧ (x0' 14 = x0 14) ∧ va_P (dC, dI) vwCl [(m0, .inr (11, oX11 ra x0')), (ra 11, .inl (kI, 1019, .inl q_now)), (ra 19, .inl (kI, 12, .inl q_wide')), (ra 20, .inl (kI, 10, .inl q_diamondFrom')), (ra 21, .inl (kI, 10, .inl q_diamondTo'))] t.heap ∧ va_D A [(m0, .inr (11, oX11 ra x0')), (ra 11, .inl (kI, 1019, .inl q_now)), (ra 19, .inl (kI, 12, .inl q_wide')), (ra 20, .inl (kI, 10, .inl q_diamondFrom')), (ra 21, .inl (kI, 10, .inl q_diamondTo'))]) A) args0 s 0 0 A) (F0 m 7 ls []) := by
    intro n
    induction n with
    | zero => intro y7_0 g7_2 v7_loc2 H locs ls hm7; exact absurd hm7 (Nat.not_lt_zero _)
    | succ n ih7 =>
      intro y7_0 g7_2 v7_loc2 H locs ls hm7 hI7_0 h7_2 h7_3 htp_7 hfp_7 hor_7 hirl_7 hP hD hS hl
      refine lv_iload_n hx hb dX11_tellDiamonds_7 rfl (lv_at hl 2 rfl) ?_
      refine lv_bipush (v := 10) hx hb dX11_tellDiamonds_8 bp_10 ?_
      refine lv_icmp_gt (tgt := 34) hx hb dX11_tellDiamonds_10 rfl (fun c70 => ?_) (fun c70 => ?_)
      · have b71 : iv 11 11 v7_loc2 := iv_ltR c70 ivk_10 h7_2 (by decide) (by decide)
        refine lv_iconst (v := (-1)) hx hb dX11_tellDiamonds_34 ic_m1 ?_
        refine lv_istore_n (lv' := [(2, .int (-1)), (0, .ref m0), (1, .int p0)]) hx hb dX11_tellDiamonds_35 rfl hl (Nat.le_of_ble_eq_true rfl) rfl (fun ls hl => ?_)
        refine lv_iconst (v := 1) hx hb dX11_tellDiamonds_36 ic_1 ?_
        refine lv_istore_n (lv' := [(3, .int 1), (2, .int (-1)), (0, .ref m0), (1, .int p0)]) hx hb dX11_tellDiamonds_37 rfl hl (Nat.le_of_ble_eq_true rfl) rfl (fun ls hl => ?_)
        exact hJ38 _ y7_0 g7_2 q_diamondFrom q_diamondTo (-1) 1 _ _ _ (Nat.lt_succ_self _) (hI7_0) (hq_diamondFrom) (hq_diamondTo) ((iv_w ivk_m1 (by decide) (by decide))) ((iv_w ivk_1 (by decide) (by decide))) ((show (y7_0 18).toInt + 1 ≤ ((1 : Int32)).toInt from by have q1 := h7_3; have q2 := ivk_1; have q3 := q1.2; have q4 := q2.1; rw [show ((1 : Int32)).toInt = 1 from by decide]; omega)) ((show y7_0 1 = x0 1 from htp_7)) ((show y7_0 10 = x0 10 from hfp_7)) ((show y7_0 11 = x0 11 from hor_7)) ((show y7_0 14 = x0 14 from hirl_7)) (hP) (hD) hS (lv_sub hl [2, 3, 1, 0] rfl)
      · have b72 : iv 1 10 v7_loc2 := iv_leL (Int32.not_lt.mp c70) h7_2 ivk_10 (by decide) (by decide)
        refine lv_aload_n hx hb dX11_tellDiamonds_13 rfl (lv_at hl 0 rfl) ?_
        refine va_get (D := (dC, dI)) (ci := 11) (v := .ref (ra 19)) (C := RX11) (T := TX11) (N := 61) hx hb hts hin11 hown hK hP 0 rfl rfl 37 (Nat.le_of_ble_eq_true rfl) hw_0 (fun _ h9 => h9) rfl dX11_tellDiamonds_14 ?_
        refine lv_iload_n hx hb dX11_tellDiamonds_17 rfl (lv_at hl 2 rfl) ?_
        refine lv_aload_n hx hb dX11_tellDiamonds_18 rfl (lv_at hl 0 rfl) ?_
        refine lv_iload_n hx hb dX11_tellDiamonds_19 rfl (lv_at hl 1 rfl) ?_
        refine lv_iload_n hx hb dX11_tellDiamonds_20 rfl (lv_at hl 2 rfl) ?_
        obtain ⟨hPc, hDc, hFc, hJn⟩ := cl_a (wc := [(m0, .inr (11, oX11 ra y7_0)), (ra 11, .inl (kI, 1019, .inl q_now))]) (wr := [(ra 19, .inl (kI, 12, .inl g7_2)), (ra 20, .inl (kI, 10, .inl q_diamondFrom)), (ra 21, .inl (kI, 10, .inl q_diamondTo))]) hP hD hS hA [0, 1] [2, 3, 4] rfl rfl (by decide +kernel)
        refine va_calli (va_runV (As := [.int p0, .int v7_loc2]) (rest := [.int v7_loc2, .ref (ra 19)]) ⟨hx, hb, hml, hown, hts⟩ (s11_addresses l dC dI kB kI kJ kZ kC kS H.size m0 ra y7_0 q_now p0 v7_loc2 (hI7_0) (hq_now) (hp0) (b72)) (cwV 2 hts gX11_tellDiamonds_X11_addresses rfl rfl rfl (by decide +kernel) ⟨Nat.le_of_ble_eq_true rfl, Nat.le_of_ble_eq_true rfl⟩) ⟨fun a U g mk q => by obtain ⟨q0, q1, qP, qE, qD⟩ := q; exact ⟨q0, q1, qP, kE_call qE, qD⟩, va_recv hK hP (ci := 11) (q0 := 0) rfl rfl, fun U hU hW => ⟨rfl, by rw [hU], by rw [hU]; exact hPc, kE_warm hW hE, hDc.weaken (fun _ _ _ _ => trivial)⟩⟩ rfl rfl hl.1 rfl (lv_room (Nat.le_of_ble_eq_true rfl)) dX11_tellDiamonds_21 ⟨Nat.le_of_ble_eq_true rfl, Nat.le_of_ble_eq_true rfl⟩) hS (fun q _ h => hFc q h) hFc (fun r73 u t H locs ht hvm w74 hB hz1 hk1 hS => ?_)
        obtain ⟨hP1, hD1⟩ := hB
        try dsimp only at w74
        obtain ⟨hPa, hDa⟩ := hJn (w1 := [(m0, .inr (11, oX11 ra y7_0)), (ra 11, .inl (kI, 1019, .inl q_now))]) hk1 ht hP1 hD1
        clear hP hD hPc hDc hFc hJn hP1 hD1 hk1
        have hP : va_P (dC, dI) vwCl [(ra 19, .inl (kI, 12, .inl g7_2)), (ra 20, .inl (kI, 10, .inl q_diamondFrom)), (ra 21, .inl (kI, 10, .inl q_diamondTo)), (m0, .inr (11, oX11 ra y7_0)), (ra 11, .inl (kI, 1019, .inl q_now))] H := hPa
        have hD : va_D A [(ra 19, .inl (kI, 12, .inl g7_2)), (ra 20, .inl (kI, 10, .inl q_diamondFrom)), (ra 21, .inl (kI, 10, .inl q_diamondTo)), (m0, .inr (11, oX11 ra y7_0)), (ra 11, .inl (kI, 1019, .inl q_now))] := hDa
        clear hPa hDa
        refine W.widen (k := 0) (n := 0) (Nat.le_of_ble_eq_true rfl) (Nat.le_of_ble_eq_true rfl) ?_
        obtain ⟨hPc, hDc, hFc, hJn⟩ := cl_a (wc := []) (wr := [(ra 19, .inl (kI, 12, .inl g7_2)), (ra 20, .inl (kI, 10, .inl q_diamondFrom)), (ra 21, .inl (kI, 10, .inl q_diamondTo)), (m0, .inr (11, oX11 ra y7_0)), (ra 11, .inl (kI, 1019, .inl q_now))]) hP hD hS hA [] [0, 1, 2, 3, 4] rfl rfl (by decide +kernel)
        refine va_calli (va_runS (As := [.int r73]) (rest := [.int v7_loc2, .ref (ra 19)]) ⟨hx, hb, hml, hown, hts⟩ (sJ_bitCount21 l dC dI kB kI kJ kZ kC kS H.size r73 (w74)) (va_cwS 1 hts gX11_tellDiamonds_J6_bitCount_0f7a4 rfl rfl rfl (by decide +kernel) ⟨Nat.le_of_ble_eq_true rfl, Nat.le_of_ble_eq_true rfl⟩) ⟨fun a U g mk q => by obtain ⟨q0, q1, qP, qE, qD⟩ := q; exact ⟨q0, q1, qP, kE_call qE, qD⟩, fun U hU hW => ⟨rfl, by rw [hU], by rw [hU]; exact hPc, kE_warm hW hE, hDc.weaken (fun _ _ _ _ => trivial)⟩⟩ rfl rfl hl.1 rfl (lv_room (Nat.le_of_ble_eq_true rfl)) dX11_tellDiamonds_24 ⟨Nat.le_of_ble_eq_true rfl, Nat.le_of_ble_eq_true rfl⟩) hS (fun q _ h => hFc q h) hFc (fun r75 u t H locs ht hvm w76 hB hz1 hk1 hS => ?_)
        obtain ⟨hP1, hD1⟩ := hB
        try dsimp only at w76
        obtain ⟨hPa, hDa⟩ := hJn (w1 := []) hk1 ht hP1 hD1
        clear hP hD hPc hDc hFc hJn hP1 hD1 hk1
        have hP : va_P (dC, dI) vwCl [(ra 19, .inl (kI, 12, .inl g7_2)), (ra 20, .inl (kI, 10, .inl q_diamondFrom)), (ra 21, .inl (kI, 10, .inl q_diamondTo)), (m0, .inr (11, oX11 ra y7_0)), (ra 11, .inl (kI, 1019, .inl q_now))] H := hPa
        have hD : va_D A [(ra 19, .inl (kI, 12, .inl g7_2)), (ra 20, .inl (kI, 10, .inl q_diamondFrom)), (ra 21, .inl (kI, 10, .inl q_diamondTo)), (m0, .inr (11, oX11 ra y7_0)), (ra 11, .inl (kI, 1019, .inl q_now))] := hDa
        clear hPa hDa
        refine W.widen (k := 0) (n := 0) (Nat.le_of_ble_eq_true rfl) (Nat.le_of_ble_eq_true rfl) ?_
        obtain ⟨w76, b77⟩ := w76
        subst w76
        refine va_iast hx hb hK hP hD hS 0 1 rfl rfl (iv_in b72 (by decide) (by decide)) dX11_tellDiamonds_27 (fun H locs hPa hDa hS => ?_)
        clear hP hD
        have hP : va_P (dC, dI) vwCl [(ra 19, .inl (kI, 12, .inl (upd g7_2 v7_loc2.toNatClampNeg (popT r73)))), (ra 20, .inl (kI, 10, .inl q_diamondFrom)), (ra 21, .inl (kI, 10, .inl q_diamondTo)), (m0, .inr (11, oX11 ra y7_0)), (ra 11, .inl (kI, 1019, .inl q_now))] H := hPa
        have hD : va_D A [(ra 19, .inl (kI, 12, .inl (upd g7_2 v7_loc2.toNatClampNeg (popT r73)))), (ra 20, .inl (kI, 10, .inl q_diamondFrom)), (ra 21, .inl (kI, 10, .inl q_diamondTo)), (m0, .inr (11, oX11 ra y7_0)), (ra 11, .inl (kI, 1019, .inl q_now))] := hDa
        clear hPa hDa
        generalize (upd g7_2 v7_loc2.toNatClampNeg (popT r73)) = f78 at hP hD
        refine lv_iinc (v := v7_loc2 + Int32.ofInt 1) (lv' := [(2, .int (v7_loc2 + Int32.ofInt 1)), (0, .ref m0), (1, .int p0)]) hx hb dX11_tellDiamonds_28 hl (k := 2) rfl (rfl) (Nat.le_of_ble_eq_true rfl) rfl (fun ls hl => ?_)
        have b79 : iv 2 11 (v7_loc2 + Int32.ofInt 1) := iv_add b72 ivo_1 (by decide) (by decide) (by decide) (by decide)
        have t80 : (v7_loc2 + Int32.ofInt 1).toInt = v7_loc2.toInt + 1 := iv_inc 1 b72 (by decide) (by decide) (by decide) (by decide)
        refine lv_goto (tgt := 7) hx hb dX11_tellDiamonds_31 rfl ?_
        have hPD9 := cl_s (wc := [(m0, .inr (11, oX11 ra y7_0)), (ra 11, .inl (kI, 1019, .inl q_now)), (ra 19, .inl (kI, 12, .inl f78)), (ra 20, .inl (kI, 10, .inl q_diamondFrom)), (ra 21, .inl (kI, 10, .inl q_diamondTo))]) hP hD [3, 4, 0, 1, 2] rfl (by decide +kernel)
        exact ih7 y7_0 f78 (v7_loc2 + Int32.ofInt 1) _ _ _ (ms_up (c := 1) (d := 0) b72 hm7 (by decide) (iv_inc 1 b72 (by decide) (by decide) (by decide) (by decide)) (by decide) rfl) (hI7_0) ((iv_w b79 (by decide) (by decide))) (h7_3) ((show y7_0 1 = x0 1 from htp_7)) ((show y7_0 10 = x0 10 from hfp_7)) ((show y7_0 11 = x0 11 from hor_7)) ((show y7_0 14 = x0 14 from hirl_7)) (hPD9.1) (hPD9.2) hS (lv_sub hl [1, 2, 0] rfl)
  refine lv_aload_n hx hb dX11_tellDiamonds_0 rfl (lv_at hl 0 rfl) ?_
  refine lv_iconst (v := 0) hx hb dX11_tellDiamonds_1 ic_0 ?_
  refine va_put (D := (dC, dI)) (ci := 11) (v := .int 0) (ty := .int) (C := RX11) (T := TX11) (N := 61) hx hb hts hin11 tyX11 tyX11_ok nmX11 hown hK hP hD hS 0 rfl rfl 40 (by decide) hw_2 (fun _ h9 => h9) rfl (by decide +kernel) rfl rfl (Nat.le_of_ble_eq_true rfl) dX11_tellDiamonds_2 (fun H locs hPa hDa hS => ?_)
  clear hP hD
  have hP : va_P (dC, dI) vwCl [(m0, .inr (11, oX11 ra (upd x0 18 0))), (ra 11, .inl (kI, 1019, .inl q_now)), (ra 19, .inl (kI, 12, .inl q_wide)), (ra 20, .inl (kI, 10, .inl q_diamondFrom)), (ra 21, .inl (kI, 10, .inl q_diamondTo))] H := hPa
  have hD : va_D A [(m0, .inr (11, oX11 ra (upd x0 18 0))), (ra 11, .inl (kI, 1019, .inl q_now)), (ra 19, .inl (kI, 12, .inl q_wide)), (ra 20, .inl (kI, 10, .inl q_diamondFrom)), (ra 21, .inl (kI, 10, .inl q_diamondTo))] := hDa
  clear hPa hDa
  refine lv_iconst (v := 1) hx hb dX11_tellDiamonds_5 ic_1 ?_
  refine lv_istore_n (lv' := [(2, .int 1), (0, .ref m0), (1, .int p0)]) hx hb dX11_tellDiamonds_6 rfl hl (Nat.le_of_ble_eq_true rfl) rfl (fun ls hl => ?_)
  exact hJ7 _ (upd x0 18 0) q_wide 1 _ _ _ (Nat.lt_succ_self _) ((fI_u hX (k := 18) ((iv_w ivk_0 (by decide) (by decide))))) ((iv_w ivk_1 (by decide) (by decide))) (ivk_0) ((show x0 1 = x0 1 from rfl)) ((show x0 10 = x0 10 from rfl)) ((show x0 11 = x0 11 from rfl)) ((show x0 14 = x0 14 from rfl)) (hP) (hD) hS (lv_sub hl [1, 2, 0] rfl)
def rm_s11_unlike : Room := { frames := 4, cells := 0, slots := 0, locals := 102 }
set_option maxHeartbeats 4000000 in
set_option maxRecDepth 100000 in
theorem s11_unlike (l : Launch) (dC : Nat → ClassId) (dI : Nat → Nat → Nat) (kB kI kJ kZ kC kS : ClassId) (sz : Nat) (m0 : Nat) (ra : Nat → Nat) (x0 : Nat → Int32) (q_told : Nat → Int32) (q_kind : Nat → Int32) (q_salt : Nat → Int32) (q_from : Nat → Int32) (q_to : Nat → Int32) (q_goal : Nat → Int32) (q_now : Nat → Int32) (q_reach : Nat → Int32) (q_fitting : Nat → Int32) (p0 : Int32) (p1 : Int32) (p2 : Int32) (hX : fI lX11 hX11 x0) (hq_told : fI lTold hTold q_told) (hq_salt : fI (fun _ => 0) (fun _ => 15) q_salt) (hq_from : fI (fun _ => 0) (fun _ => 11) q_from) (hq_to : fI (fun _ => 0) (fun _ => 11) q_to) (hq_goal : fI (fun _ => 0) (fun _ => 11) q_goal) (hq_now : fI lNow hNow q_now) (hp0 : iv 0 11 p0) (hp1 : iv 0 31 p1) (hp2 : iv 0 2 p2) (hLT : ∀ j : Nat, (j : Int) < (q_told 1).toInt → (q_from j).toInt < (q_to j).toInt) : Met l yX11_unlike wsX11_unlike rm_s11_unlike (va_Pc [.ref m0, .int p0, .int p1, .int p2] (fun U => U.heap.size = sz ∧ va_P (dC, dI) vwCl [(m0, .inr (11, oX11 ra x0)), (ra 2, .inl (kI, 8, .inl q_told)), (ra 3, .inl (kI, 24, .inl q_kind)), (ra 4, .inl (kI, 24, .inl q_salt)), (ra 8, .inl (kI, 40, .inl q_from)), (ra 9, .inl (kI, 40, .inl q_to)), (ra 10, .inl (kI, 6, .inl q_goal)), (ra 11, .inl (kI, 1019, .inl q_now)), (ra 14, .inl (kI, 12, .inl q_reach)), (ra 26, .inl (kZ, 64, .inl q_fitting))] U.heap ∧ kE dC dI kB kI kJ kZ kC kS U ∧ va_D (fun _ => True) [(m0, .inr (11, oX11 ra x0)), (ra 2, .inl (kI, 8, .inl q_told)), (ra 3, .inl (kI, 24, .inl q_kind)), (ra 4, .inl (kI, 24, .inl q_salt)), (ra 8, .inl (kI, 40, .inl q_from)), (ra 9, .inl (kI, 40, .inl q_to)), (ra 10, .inl (kI, 6, .inl q_goal)), (ra 11, .inl (kI, 1019, .inl q_now)), (ra 14, .inl (kI, 12, .inl q_reach)), (ra 26, .inl (kZ, 64, .inl q_fitting))])) (va_Qi (fun (r : Int32) (_ : Unit) => iv 0 63 r) (fun _ t => ∃ (x0' : Nat → Int32) (q_now' : Nat → Int32), fI lX11 hX11 x0' ∧ iv (-1) (-1) (x0' 11) ∧ fI lNow hNow q_now' ∧ (x0' 1 = x0 1) ∧ (x0' 10 = x0 10) ∧ (x0' 14 = x0 14) ∧ va_P (dC, dI) vwCl [(m0, .inr (11, oX11 ra x0')), (ra 2, .inl (kI, 8, .inl q_told)), (ra 3, .inl (kI, 24, .inl q_kind)), (ra 4, .inl (kI, 24, .inl q_salt)), (ra 8, .inl (kI, 40, .inl q_from)), (ra 9, .inl (kI, 40, .inl q_to)), (ra 10, .inl (kI, 6, .inl q_goal)), (ra 11, .inl (kI, 1019, .inl q_now')), (ra 14, .inl (kI, 12, .inl q_reach)), (ra 26, .inl (kZ, 64, .inl q_fitting))] t.heap ∧ va_D (va_A [(m0, .inr (11, oX11 ra x0)), (ra 2, .inl (kI, 8, .inl q_told)), (ra 3, .inl (kI, 24, .inl q_kind)), (ra 4, .inl (kI, 24, .inl q_salt)), (ra 8, .inl (kI, 40, .inl q_from)), (ra 9, .inl (kI, 40, .inl q_to)), (ra 10, .inl (kI, 6, .inl q_goal)), (ra 11, .inl (kI, 1019, .inl q_now)), (ra 14, .inl (kI, 12, .inl q_reach)), (ra 26, .inl (kZ, 64, .inl q_fitting))] sz) [(m0, .inr (11, oX11 ra x0')), (ra 2, .inl (kI, 8, .inl q_told)), (ra 3, .inl (kI, 24, .inl q_kind)), (ra 4, .inl (kI, 24, .inl q_salt)), (ra 8, .inl (kI, 40, .inl q_from)), (ra 9, .inl (kI, 40, .inl q_to)), (ra 10, .inl (kI, 6, .inl q_goal)), (ra 11, .inl (kI, 1019, .inl q_now')), (ra 14, .inl (kI, 12, .inl q_reach)), (ra 26, .inl (kZ, 64, .inl q_fitting))]) (va_A [(m0, .inr (11, oX11 ra x0)), (ra 2, .inl (kI, 8, .inl q_told)), (ra 3, .inl (kI, 24, .inl q_kind)), (ra 4, .inl (kI, 24, .inl q_salt)), (ra 8, .inl (kI, 40, .inl q_from)), (ra 9, .inl (kI, 40, .inl q_to)), (ra 10, .inl (kI, 6, .inl q_goal)), (ra 11, .inl (kI, 1019, .inl q_now)), (ra 14, .inl (kI, 12, .inl q_reach)), (ra 26, .inl (kZ, 64, .inl q_fitting))] sz)) 0 0 (va_A [(m0, .inr (11, oX11 ra x0)), (ra 2, .inl (kI, 8, .inl q_told)), (ra 3, .inl (kI, 24, .inl q_kind)), (ra 4, .inl (kI, 24, .inl q_salt)), (ra 8, .inl (kI, 40, .inl q_from)), (ra 9, .inl (kI, 40, .inl q_to)), (ra 10, .inl (kI, 6, .inl q_goal)), (ra 11, .inl (kI, 1019, .inl q_now)), (ra 14, .inl (kI, 12, .inl q_reach)), (ra 26, .inl (kZ, 64, .inl q_fitting))] sz) := by
  refine Met.ofW (cc := cX11_unlike) (maxL := 6) (ret := (some .int)) (by decide) rfl ?_
  intro p e s m args0 below meth c s₁ B hml hv
  obtain ⟨hargs, hsz, hP, hE, hD0⟩ := hv
  have hx := B.exec
  have hb := B.bytes
  have hr := B.returns
  have hts := atoms_spec (ws := wsX11_unlike) B.pre
  have hown : s.vm.findClass RX11 = some m.cls := findClass_of_methodNamed B.named
  have hlocks := B.notSynchronized
  have hK := hE.1
  have hin11 : ∀ w ∈ wsX110, w ∈ wsX11_unlike := fun _ h9 => List.mem_cons_of_mem _ (List.mem_append_right _ h9)
  have hw_0 := hts (.fieldLink RX11 76 "PathProberModel" "otherRouter" "I") (List.mem_of_getElem? (i := 1) rfl)
  have hw_1 := hts (.fieldLink RX11 115 "PathProberModel" "fitting" "[Z") (List.mem_of_getElem? (i := 2) rfl)
  have hw_2 := hts (.fieldLink RX11 276 "PathProberModel" "otherKind" "I") (List.mem_of_getElem? (i := 3) rfl)
  have hw_3 := hts (.fieldLink RX11 279 "PathProberModel" "otherSalt" "I") (List.mem_of_getElem? (i := 4) rfl)
  have hw_4 := hts (.fieldLink RX11 443 "PathProberModel" "wayAddress" "I") (List.mem_of_getElem? (i := 5) rfl)
  subst hsz
  have hD := hD0.self (sz := s.heap.size)
  generalize hAe : va_A [(m0, .inr (11, oX11 ra x0)), (ra 2, .inl (kI, 8, .inl q_told)), (ra 3, .inl (kI, 24, .inl q_kind)), (ra 4, .inl (kI, 24, .inl q_salt)), (ra 8, .inl (kI, 40, .inl q_from)), (ra 9, .inl (kI, 40, .inl q_to)), (ra 10, .inl (kI, 6, .inl q_goal)), (ra 11, .inl (kI, 1019, .inl q_now)), (ra 14, .inl (kI, 12, .inl q_reach)), (ra 26, .inl (kZ, 64, .inl q_fitting))] s.heap.size = A at hD ⊢
  have hA : ∀ q : Nat, s.heap.size ≤ q → A q := fun q h => by rw [← hAe]; exact Or.inr h
  have hS : va_S A s.heap s.heap [] := va_S.rf
  have hP : va_P (dC, dI) vwCl [(m0, .inr (11, oX11 ra x0)), (ra 2, .inl (kI, 8, .inl q_told)), (ra 3, .inl (kI, 24, .inl q_kind)), (ra 4, .inl (kI, 24, .inl q_salt)), (ra 8, .inl (kI, 40, .inl q_from)), (ra 9, .inl (kI, 40, .inl q_to)), (ra 10, .inl (kI, 6, .inl q_goal)), (ra 11, .inl (kI, 1019, .inl q_now)), (ra 14, .inl (kI, 12, .inl q_reach)), (ra 26, .inl (kZ, 64, .inl q_fitting))] s.heap := hP
  have hl := lv_entry ([.ref m0, .int p0, .int p1, .int p2]) (n := 6) (Nat.le_of_ble_eq_true rfl)
  have hla : entryFrame m args0 6 = entryFrame m ([.ref m0, .int p0, .int p1, .int p2] : List Value).toArray 6 := by rw [hargs]
  rw [hla, lg_entry_eq]
  generalize (lg_sl ([.ref m0, .int p0, .int p1, .int p2]) ++ List.replicate (6 - (lg_sl ([.ref m0, .int p0, .int p1, .int p2])).length) Slot.unset).toArray = ls at hl ⊢
  have hl : lv_has ls 6 [(0, .ref m0), (1, .int p0), (2, .int p1), (3, .int p2)] := hl
  have hJ11 : ∀ (n : Nat) (y11_0 : Nat → Int32) (g11_7 : Nat → Int32) (v11_loc4 : Int32) (v11_loc5 : Int32) (H : Heap) (locs : List Loc) (ls : Array Slot), (64 - v11_loc5.toInt).toNat < n → fI lX11 hX11 y11_0 → fI lNow hNow g11_7 → iv 0 64 v11_loc5 → iv 0 11 (y11_0 11) → (y11_0 1 = x0 1) → (y11_0 10 = x0 10) → (y11_0 14 = x0 14) → va_P (dC, dI) vwCl [(m0, .inr (11, oX11 ra y11_0)), (ra 2, .inl (kI, 8, .inl q_told)), (ra 3, .inl (kI, 24, .inl q_kind)), (ra 4, .inl (kI, 24, .inl q_salt)), (ra 8, .inl (kI, 40, .inl q_from)), (ra 9, .inl (kI, 40, .inl q_to)), (ra 10, .inl (kI, 6, .inl q_goal)), (ra 11, .inl (kI, 1019, .inl g11_7)), (ra 14, .inl (kI, 12, .inl q_reach)), (ra 26, .inl (kZ, 64, .inl q_fitting))] H → va_D A [(m0, .inr (11, oX11 ra y11_0)), (ra 2, .inl (kI, 8, .inl q_told)), (ra 3, .inl (kI, 24, .inl q_kind)), (ra 4, .inl (kI, 24, .inl q_salt)), (ra 8, .inl (kI, 40, .inl q_from)), (ra 9, .inl (kI, 40, .inl q_to)), (ra 10, .inl (kI, 6, .inl q_goal)), (ra 11, .inl (kI, 1019, .inl g11_7)), (ra 14, .inl (kI, 12, .inl q_reach)), (ra 26, .inl (kZ, 64, .inl q_fitting))] → va_S A s.heap H locs → lv_has ls 6 [(0, .ref m0), (1, .int p0), (2, .int p1), (3, .int p2), (4, .int v11_loc4), (5, .int v11_loc5)] → W p l e (headSpec wsX11_unlike rm_s11_unlike).room s m args0 below meth c H locs (0) (0) (MQ below (va_Qi (fun (r : Int32) (_ : Unit) => iv 0 63 r) (fun _ t => ∃ (x0' : Nat → Int32) (q_now' : Nat → Int32), fI lX11 hX11 x0' ∧ iv (-1) (-1) (x0' 11) ∧ fI lNow hNow q_now' ∧ (x0' 1 = x0 1) ∧ (x0' 10 = x0 10) ∧ (x0' 14 = x0 14) ∧ va_P (dC, dI) vwCl [(m0, .inr (11, oX11 ra x0')), (ra 2, .inl (kI, 8, .inl q_told)), (ra 3, .inl (kI, 24, .inl q_kind)), (ra 4, .inl (kI, 24, .inl q_salt)), (ra 8, .inl (kI, 40, .inl q_from)), (ra 9, .inl (kI, 40, .inl q_to)), (ra 10, .inl (kI, 6, .inl q_goal)), (ra 11, .inl (kI, 1019, .inl q_now')), (ra 14, .inl (kI, 12, .inl q_reach)), (ra 26, .inl (kZ, 64, .inl q_fitting))] t.heap ∧ va_D A [(m0, .inr (11, oX11 ra x0')), (ra 2, .inl (kI, 8, .inl q_told)), (ra 3, .inl (kI, 24, .inl q_kind)), (ra 4, .inl (kI, 24, .inl q_salt)), (ra 8, .inl (kI, 40, .inl q_from)), (ra 9, .inl (kI, 40, .inl q_to)), (ra 10, .inl (kI, 6, .inl q_goal)), (ra 11, .inl (kI, 1019, .inl q_now')), (ra 14, .inl (kI, 12, .inl q_reach)), (ra 26, .inl (kZ, 64, .inl q_fitting))]) A) args0 s 0 0 A) (F0 m 11 ls []) := by
    intro n
    induction n with
    | zero => intro y11_0 g11_7 v11_loc4 v11_loc5 H locs ls hm11; exact absurd hm11 (Nat.not_lt_zero _)
    | succ n ih11 =>
      intro y11_0 g11_7 v11_loc4 v11_loc5 H locs ls hm11 hI11_0 hI11_7 h11_3 h11_4 htp_11 hfp_11 hirl_11 hP hD hS hl
      have hJ68 : ∀ (y68_0 : Nat → Int32) (g68_7 : Nat → Int32) (v68_loc4 : Int32) (H : Heap) (locs : List Loc) (ls : Array Slot), fI lX11 hX11 y68_0 → fI lNow hNow g68_7 → iv 0 63 v11_loc5 → iv 0 11 (y68_0 11) → (y68_0 1 = x0 1) → (y68_0 10 = x0 10) → (y68_0 14 = x0 14) → va_P (dC, dI) vwCl [(m0, .inr (11, oX11 ra y68_0)), (ra 2, .inl (kI, 8, .inl q_told)), (ra 3, .inl (kI, 24, .inl q_kind)), (ra 4, .inl (kI, 24, .inl q_salt)), (ra 8, .inl (kI, 40, .inl q_from)), (ra 9, .inl (kI, 40, .inl q_to)), (ra 10, .inl (kI, 6, .inl q_goal)), (ra 11, .inl (kI, 1019, .inl g68_7)), (ra 14, .inl (kI, 12, .inl q_reach)), (ra 26, .inl (kZ, 64, .inl q_fitting))] H → va_D A [(m0, .inr (11, oX11 ra y68_0)), (ra 2, .inl (kI, 8, .inl q_told)), (ra 3, .inl (kI, 24, .inl q_kind)), (ra 4, .inl (kI, 24, .inl q_salt)), (ra 8, .inl (kI, 40, .inl q_from)), (ra 9, .inl (kI, 40, .inl q_to)), (ra 10, .inl (kI, 6, .inl q_goal)), (ra 11, .inl (kI, 1019, .inl g68_7)), (ra 14, .inl (kI, 12, .inl q_reach)), (ra 26, .inl (kZ, 64, .inl q_fitting))] → va_S A s.heap H locs → lv_has ls 6 [(0, .ref m0), (1, .int p0), (2, .int p1), (3, .int p2), (4, .int v68_loc4), (5, .int v11_loc5)] → W p l e (headSpec wsX11_unlike rm_s11_unlike).room s m args0 below meth c H locs (0) (0) (MQ below (va_Qi (fun (r : Int32) (_ : Unit) => iv 0 63 r) (fun _ t => ∃ (x0' : Nat → Int32) (q_now' : Nat → Int32), fI lX11 hX11 x0' ∧ iv (-1) (-1) (x0' 11) ∧ fI lNow hNow q_now' ∧ (x0' 1 = x0 1) ∧ (x0' 10 = x0 10) ∧ (x0' 14 = x0 14) ∧ va_P (dC, dI) vwCl [(m0, .inr (11, oX11 ra x0')), (ra 2, .inl (kI, 8, .inl q_told)), (ra 3, .inl (kI, 24, .inl q_kind)), (ra 4, .inl (kI, 24, .inl q_salt)), (ra 8, .inl (kI, 40, .inl q_from)), (ra 9, .inl (kI, 40, .inl q_to)), (ra 10, .inl (kI, 6, .inl q_goal)), (ra 11, .inl (kI, 1019, .inl q_now')), (ra 14, .inl (kI, 12, .inl q_reach)), (ra 26, .inl (kZ, 64, .inl q_fitting))] t.heap ∧ va_D A [(m0, .inr (11, oX11 ra x0')), (ra 2, .inl (kI, 8, .inl q_told)), (ra 3, .inl (kI, 24, .inl q_kind)), (ra 4, .inl (kI, 24, .inl q_salt)), (ra 8, .inl (kI, 40, .inl q_from)), (ra 9, .inl (kI, 40, .inl q_to)), (ra 10, .inl (kI, 6, .inl q_goal)), (ra 11, .inl (kI, 1019, .inl q_now')), (ra 14, .inl (kI, 12, .inl q_reach)), (ra 26, .inl (kZ, 64, .inl q_fitting))]) A) args0 s 0 0 A) (F0 m 68 ls []) := by
        intro y68_0 g68_7 v68_loc4 H locs ls hI68_0 hI68_7 h68_3 h68_4 htp_68 hfp_68 hirl_68 hP hD hS hl
        refine lv_iinc (v := v11_loc5 + Int32.ofInt 1) (lv' := [(5, .int (v11_loc5 + Int32.ofInt 1)), (0, .ref m0), (1, .int p0), (2, .int p1), (3, .int p2), (4, .int v68_loc4)]) hx hb dX11_unlike_68 hl (k := 5) rfl (rfl) (Nat.le_of_ble_eq_true rfl) rfl (fun ls hl => ?_)
        have b1 : iv 1 64 (v11_loc5 + Int32.ofInt 1) := iv_add h68_3 ivo_1 (by decide) (by decide) (by decide) (by decide)
        refine lv_goto (tgt := 11) hx hb dX11_unlike_71 rfl ?_
        exact ih11 y68_0 g68_7 v68_loc4 (v11_loc5 + Int32.ofInt 1) _ _ _ (ms_up (c := 1) (d := 0) h68_3 hm11 (by decide) (iv_inc 1 h68_3 (by decide) (by decide) (by decide) (by decide)) (by decide) rfl) (hI68_0) (hI68_7) ((iv_w b1 (by decide) (by decide))) (h68_4) ((show y68_0 1 = x0 1 from htp_68)) ((show y68_0 10 = x0 10 from hfp_68)) ((show y68_0 14 = x0 14 from hirl_68)) (hP) (hD) hS (lv_sub hl [1, 2, 3, 4, 5, 0] rfl)
      refine lv_iload hx hb dX11_unlike_11 (lv_at hl 5 rfl) ?_
      refine lv_bipush (v := 64) hx hb dX11_unlike_13 bp_64 ?_
      refine lv_icmp_ge (tgt := 74) hx hb dX11_unlike_15 rfl (fun c2 => ?_) (fun c2 => ?_)
      · have b3 : iv 64 64 v11_loc5 := iv_leR c2 ivk_64 h11_3 (by decide) (by decide)
        refine lv_aload_n hx hb dX11_unlike_74 rfl (lv_at hl 0 rfl) ?_
        refine lv_iconst (v := (-1)) hx hb dX11_unlike_75 ic_m1 ?_
        refine va_put (D := (dC, dI)) (ci := 11) (v := .int (-1)) (ty := .int) (C := RX11) (T := TX11) (N := 61) hx hb hts hin11 tyX11 tyX11_ok nmX11 hown hK hP hD hS 0 rfl rfl 26 (by decide) hw_0 (fun _ h9 => h9) rfl (by decide +kernel) rfl rfl (Nat.le_of_ble_eq_true rfl) dX11_unlike_76 (fun H locs hPa hDa hS => ?_)
        clear hP hD
        have hP : va_P (dC, dI) vwCl [(m0, .inr (11, oX11 ra (upd y11_0 11 (-1)))), (ra 2, .inl (kI, 8, .inl q_told)), (ra 3, .inl (kI, 24, .inl q_kind)), (ra 4, .inl (kI, 24, .inl q_salt)), (ra 8, .inl (kI, 40, .inl q_from)), (ra 9, .inl (kI, 40, .inl q_to)), (ra 10, .inl (kI, 6, .inl q_goal)), (ra 11, .inl (kI, 1019, .inl g11_7)), (ra 14, .inl (kI, 12, .inl q_reach)), (ra 26, .inl (kZ, 64, .inl q_fitting))] H := hPa
        have hD : va_D A [(m0, .inr (11, oX11 ra (upd y11_0 11 (-1)))), (ra 2, .inl (kI, 8, .inl q_told)), (ra 3, .inl (kI, 24, .inl q_kind)), (ra 4, .inl (kI, 24, .inl q_salt)), (ra 8, .inl (kI, 40, .inl q_from)), (ra 9, .inl (kI, 40, .inl q_to)), (ra 10, .inl (kI, 6, .inl q_goal)), (ra 11, .inl (kI, 1019, .inl g11_7)), (ra 14, .inl (kI, 12, .inl q_reach)), (ra 26, .inl (kZ, 64, .inl q_fitting))] := hDa
        clear hPa hDa
        refine lv_iload hx hb dX11_unlike_79 (lv_at hl 4 rfl) ?_
        obtain ⟨hPc, hDc, hFc, hJn⟩ := cl_a (wc := []) (wr := [(m0, .inr (11, oX11 ra (upd y11_0 11 (-1)))), (ra 2, .inl (kI, 8, .inl q_told)), (ra 3, .inl (kI, 24, .inl q_kind)), (ra 4, .inl (kI, 24, .inl q_salt)), (ra 8, .inl (kI, 40, .inl q_from)), (ra 9, .inl (kI, 40, .inl q_to)), (ra 10, .inl (kI, 6, .inl q_goal)), (ra 11, .inl (kI, 1019, .inl g11_7)), (ra 14, .inl (kI, 12, .inl q_reach)), (ra 26, .inl (kZ, 64, .inl q_fitting))]) hP hD hS hA [] [0, 1, 2, 3, 4, 5, 6, 7, 8, 9] rfl rfl (by decide +kernel)
        refine va_calli (va_runS (As := [.int v11_loc4]) (rest := []) ⟨hx, hb, hml, hown, hts⟩ (sJ_bitCount l dC dI kB kI kJ kZ kC kS H.size v11_loc4) (va_cwS 1 hts gX11_unlike_J6_bitCount_0f7a4 rfl rfl rfl (by decide +kernel) ⟨Nat.le_of_ble_eq_true rfl, Nat.le_of_ble_eq_true rfl⟩) ⟨fun a U g mk q => by obtain ⟨q0, q1, qP, qE, qD⟩ := q; exact ⟨q0, q1, qP, kE_call qE, qD⟩, fun U hU hW => ⟨rfl, by rw [hU], by rw [hU]; exact hPc, kE_warm hW hE, hDc.weaken (fun _ _ _ _ => trivial)⟩⟩ rfl rfl hl.1 rfl (lv_room (Nat.le_of_ble_eq_true rfl)) dX11_unlike_81 ⟨Nat.le_of_ble_eq_true rfl, Nat.le_of_ble_eq_true rfl⟩) hS (fun q _ h => hFc q h) hFc (fun r4 u t H locs ht hvm w5 hB hz1 hk1 hS => ?_)
        obtain ⟨hP1, hD1⟩ := hB
        try dsimp only at w5
        obtain ⟨hPa, hDa⟩ := hJn (w1 := []) hk1 ht hP1 hD1
        clear hP hD hPc hDc hFc hJn hP1 hD1 hk1
        have hP : va_P (dC, dI) vwCl [(m0, .inr (11, oX11 ra (upd y11_0 11 (-1)))), (ra 2, .inl (kI, 8, .inl q_told)), (ra 3, .inl (kI, 24, .inl q_kind)), (ra 4, .inl (kI, 24, .inl q_salt)), (ra 8, .inl (kI, 40, .inl q_from)), (ra 9, .inl (kI, 40, .inl q_to)), (ra 10, .inl (kI, 6, .inl q_goal)), (ra 11, .inl (kI, 1019, .inl g11_7)), (ra 14, .inl (kI, 12, .inl q_reach)), (ra 26, .inl (kZ, 64, .inl q_fitting))] H := hPa
        have hD : va_D A [(m0, .inr (11, oX11 ra (upd y11_0 11 (-1)))), (ra 2, .inl (kI, 8, .inl q_told)), (ra 3, .inl (kI, 24, .inl q_kind)), (ra 4, .inl (kI, 24, .inl q_salt)), (ra 8, .inl (kI, 40, .inl q_from)), (ra 9, .inl (kI, 40, .inl q_to)), (ra 10, .inl (kI, 6, .inl q_goal)), (ra 11, .inl (kI, 1019, .inl g11_7)), (ra 14, .inl (kI, 12, .inl q_reach)), (ra 26, .inl (kZ, 64, .inl q_fitting))] := hDa
        clear hPa hDa
        refine W.widen (k := 0) (n := 0) (Nat.le_of_ble_eq_true rfl) (Nat.le_of_ble_eq_true rfl) ?_
        have hP9 := hP
        have hD9 := hD
        exact W.iret (v := r4) hx hb hr (fun t ht hW => ⟨⟨r4, (), rfl, w5, upd y11_0 11 (-1), g11_7, (fI_u hI11_0 (k := 11) ((iv_w ivk_m1 (by decide) (by decide)))), ivk_m1, hI11_7, (show y11_0 1 = x0 1 from htp_11), (show y11_0 10 = x0 10 from hfp_11), (show y11_0 14 = x0 14 from hirl_11), by rw [ht]; exact hP9, hD9⟩, hS.F ht⟩) hS.2.2 dX11_unlike_84
      · have b6 : iv 0 63 v11_loc5 := iv_ltL (Int32.not_le.mp c2) h11_3 ivk_64 (by decide) (by decide)
        refine lv_aload_n hx hb dX11_unlike_18 rfl (lv_at hl 0 rfl) ?_
        refine va_get (D := (dC, dI)) (ci := 11) (v := .ref (ra 26)) (C := RX11) (T := TX11) (N := 61) hx hb hts hin11 hown hK hP 0 rfl rfl 48 (Nat.le_of_ble_eq_true rfl) hw_1 (fun _ h9 => h9) rfl dX11_unlike_19 ?_
        refine lv_iload hx hb dX11_unlike_22 (lv_at hl 5 rfl) ?_
        refine va_zald hx hb hK hP 9 3 rfl rfl (iv_in b6 (by decide) (by decide)) dX11_unlike_24 ?_
        refine lv_topi (fun z7 _ => ?_)
        refine lv_if_ne (tgt := 31) hx hb dX11_unlike_25 rfl (fun c8 => ?_) (fun c8 => ?_)
        · refine lv_aload_n hx hb dX11_unlike_31 rfl (lv_at hl 0 rfl) ?_
          refine lv_iload hx hb dX11_unlike_32 (lv_at hl 5 rfl) ?_
          refine lv_bipush (v := 16) hx hb dX11_unlike_34 bp_16 ?_
          refine lv_idiv hx hb dX11_unlike_36 (by decide) ?_
          refine iv_top (a := 0) (b := 63) (iv_div b6 ivk_16 (by decide) (by decide) (by decide) (by decide)) (fun z9 b10 => ?_)
          refine va_put (D := (dC, dI)) (ci := 11) (v := .int z9) (ty := .int) (C := RX11) (T := TX11) (N := 61) hx hb hts hin11 tyX11 tyX11_ok nmX11 hown hK hP hD hS 0 rfl rfl 27 (by decide) hw_2 (fun _ h9 => h9) rfl (by decide +kernel) rfl rfl (Nat.le_of_ble_eq_true rfl) dX11_unlike_37 (fun H locs hPa hDa hS => ?_)
          clear hP hD
          have hP : va_P (dC, dI) vwCl [(m0, .inr (11, oX11 ra (upd y11_0 12 z9))), (ra 2, .inl (kI, 8, .inl q_told)), (ra 3, .inl (kI, 24, .inl q_kind)), (ra 4, .inl (kI, 24, .inl q_salt)), (ra 8, .inl (kI, 40, .inl q_from)), (ra 9, .inl (kI, 40, .inl q_to)), (ra 10, .inl (kI, 6, .inl q_goal)), (ra 11, .inl (kI, 1019, .inl g11_7)), (ra 14, .inl (kI, 12, .inl q_reach)), (ra 26, .inl (kZ, 64, .inl q_fitting))] H := hPa
          have hD : va_D A [(m0, .inr (11, oX11 ra (upd y11_0 12 z9))), (ra 2, .inl (kI, 8, .inl q_told)), (ra 3, .inl (kI, 24, .inl q_kind)), (ra 4, .inl (kI, 24, .inl q_salt)), (ra 8, .inl (kI, 40, .inl q_from)), (ra 9, .inl (kI, 40, .inl q_to)), (ra 10, .inl (kI, 6, .inl q_goal)), (ra 11, .inl (kI, 1019, .inl g11_7)), (ra 14, .inl (kI, 12, .inl q_reach)), (ra 26, .inl (kZ, 64, .inl q_fitting))] := hDa
          clear hPa hDa
          refine lv_aload_n hx hb dX11_unlike_40 rfl (lv_at hl 0 rfl) ?_
          refine lv_iload hx hb dX11_unlike_41 (lv_at hl 5 rfl) ?_
          refine lv_bipush (v := 16) hx hb dX11_unlike_43 bp_16 ?_
          refine lv_irem hx hb dX11_unlike_45 (by decide) ?_
          refine iv_top (a := 0) (b := 15) (iv_rem b6 ivk_16 (by decide) (by decide) (by decide) (by decide)) (fun z11 b12 => ?_)
          refine va_put (D := (dC, dI)) (ci := 11) (v := .int z11) (ty := .int) (C := RX11) (T := TX11) (N := 61) hx hb hts hin11 tyX11 tyX11_ok nmX11 hown hK hP hD hS 0 rfl rfl 28 (by decide) hw_3 (fun _ h9 => h9) rfl (by decide +kernel) rfl rfl (Nat.le_of_ble_eq_true rfl) dX11_unlike_46 (fun H locs hPa hDa hS => ?_)
          clear hP hD
          have hP : va_P (dC, dI) vwCl [(m0, .inr (11, oX11 ra (upd (upd y11_0 12 z9) 13 z11))), (ra 2, .inl (kI, 8, .inl q_told)), (ra 3, .inl (kI, 24, .inl q_kind)), (ra 4, .inl (kI, 24, .inl q_salt)), (ra 8, .inl (kI, 40, .inl q_from)), (ra 9, .inl (kI, 40, .inl q_to)), (ra 10, .inl (kI, 6, .inl q_goal)), (ra 11, .inl (kI, 1019, .inl g11_7)), (ra 14, .inl (kI, 12, .inl q_reach)), (ra 26, .inl (kZ, 64, .inl q_fitting))] H := hPa
          have hD : va_D A [(m0, .inr (11, oX11 ra (upd (upd y11_0 12 z9) 13 z11))), (ra 2, .inl (kI, 8, .inl q_told)), (ra 3, .inl (kI, 24, .inl q_kind)), (ra 4, .inl (kI, 24, .inl q_salt)), (ra 8, .inl (kI, 40, .inl q_from)), (ra 9, .inl (kI, 40, .inl q_to)), (ra 10, .inl (kI, 6, .inl q_goal)), (ra 11, .inl (kI, 1019, .inl g11_7)), (ra 14, .inl (kI, 12, .inl q_reach)), (ra 26, .inl (kZ, 64, .inl q_fitting))] := hDa
          clear hPa hDa
          refine lv_aload_n hx hb dX11_unlike_49 rfl (lv_at hl 0 rfl) ?_
          refine lv_iload_n hx hb dX11_unlike_50 rfl (lv_at hl 2 rfl) ?_
          refine lv_iload_n hx hb dX11_unlike_51 rfl (lv_at hl 3 rfl) ?_
          obtain ⟨hPc, hDc, hFc, hJn⟩ := cl_a (wc := [(m0, .inr (11, oX11 ra (upd (upd y11_0 12 z9) 13 z11))), (ra 2, .inl (kI, 8, .inl q_told)), (ra 3, .inl (kI, 24, .inl q_kind)), (ra 4, .inl (kI, 24, .inl q_salt)), (ra 8, .inl (kI, 40, .inl q_from)), (ra 9, .inl (kI, 40, .inl q_to)), (ra 10, .inl (kI, 6, .inl q_goal)), (ra 11, .inl (kI, 1019, .inl g11_7)), (ra 14, .inl (kI, 12, .inl q_reach))]) (wr := [(ra 26, .inl (kZ, 64, .inl q_fitting))]) hP hD hS hA [0, 1, 2, 3, 4, 5, 6, 7, 8] [9] rfl rfl (by decide +kernel)
          refine va_callv (va_runV (As := [.int p1, .int p2]) (rest := []) ⟨hx, hb, hml, hown, hts⟩ (s11_wholeWay l dC dI kB kI kJ kZ kC kS H.size m0 ra (upd (upd y11_0 12 z9) 13 z11) q_told q_kind q_salt q_from q_to q_goal g11_7 q_reach p1 p2 ((fI_u (fI_u hI11_0 (k := 12) ((iv_w b10 (by decide) (by decide)))) (k := 13) (b12))) (hq_told) (hq_salt) (hq_from) (hq_to) (hq_goal) (hI11_7) (hp1) (hp2) (hLT)) (cwV 2 hts gX11_unlike_X11_wholeWay rfl rfl rfl (by decide +kernel) ⟨Nat.le_of_ble_eq_true rfl, Nat.le_of_ble_eq_true rfl⟩) ⟨fun a U g mk q => by obtain ⟨q0, q1, qP, qE, qD⟩ := q; exact ⟨q0, q1, qP, kE_call qE, qD⟩, va_recv hK hP (ci := 11) (q0 := 0) rfl rfl, fun U hU hW => ⟨rfl, by rw [hU], by rw [hU]; exact hPc, kE_warm hW hE, hDc.weaken (fun _ _ _ _ => trivial)⟩⟩ rfl rfl hl.1 rfl (lv_room (Nat.le_of_ble_eq_true rfl)) dX11_unlike_52 ⟨Nat.le_of_ble_eq_true rfl, Nat.le_of_ble_eq_true rfl⟩) hS (fun q _ h => hFc q h) hFc (fun u t H locs ht hvm w14 hB hz1 hk1 hS => ?_)
          obtain ⟨y15, f16, hq17, hq18, hq19, hq20, hq21, hq22, hP1, hD1⟩ := hB
          try dsimp only at w14
          obtain ⟨hPa, hDa⟩ := hJn (w1 := [(m0, .inr (11, oX11 ra y15)), (ra 2, .inl (kI, 8, .inl q_told)), (ra 3, .inl (kI, 24, .inl q_kind)), (ra 4, .inl (kI, 24, .inl q_salt)), (ra 8, .inl (kI, 40, .inl q_from)), (ra 9, .inl (kI, 40, .inl q_to)), (ra 10, .inl (kI, 6, .inl q_goal)), (ra 11, .inl (kI, 1019, .inl f16)), (ra 14, .inl (kI, 12, .inl q_reach))]) hk1 ht hP1 hD1
          clear hP hD hPc hDc hFc hJn hP1 hD1 hk1
          have hP : va_P (dC, dI) vwCl [(ra 26, .inl (kZ, 64, .inl q_fitting)), (m0, .inr (11, oX11 ra y15)), (ra 2, .inl (kI, 8, .inl q_told)), (ra 3, .inl (kI, 24, .inl q_kind)), (ra 4, .inl (kI, 24, .inl q_salt)), (ra 8, .inl (kI, 40, .inl q_from)), (ra 9, .inl (kI, 40, .inl q_to)), (ra 10, .inl (kI, 6, .inl q_goal)), (ra 11, .inl (kI, 1019, .inl f16)), (ra 14, .inl (kI, 12, .inl q_reach))] H := hPa
          have hD : va_D A [(ra 26, .inl (kZ, 64, .inl q_fitting)), (m0, .inr (11, oX11 ra y15)), (ra 2, .inl (kI, 8, .inl q_told)), (ra 3, .inl (kI, 24, .inl q_kind)), (ra 4, .inl (kI, 24, .inl q_salt)), (ra 8, .inl (kI, 40, .inl q_from)), (ra 9, .inl (kI, 40, .inl q_to)), (ra 10, .inl (kI, 6, .inl q_goal)), (ra 11, .inl (kI, 1019, .inl f16)), (ra 14, .inl (kI, 12, .inl q_reach))] := hDa
          clear hPa hDa
          refine W.widen (k := 0) (n := 0) (Nat.le_of_ble_eq_true rfl) (Nat.le_of_ble_eq_true rfl) ?_
          refine lv_iload hx hb dX11_unlike_55 (lv_at hl 4 rfl) ?_
          refine lv_iconst (v := 1) hx hb dX11_unlike_57 ic_1 ?_
          refine lv_aload_n hx hb dX11_unlike_58 rfl (lv_at hl 0 rfl) ?_
          refine va_get (D := (dC, dI)) (ci := 11) (v := .int (y15 20)) (C := RX11) (T := TX11) (N := 61) hx hb hts hin11 hown hK hP 1 rfl rfl 42 (Nat.le_of_ble_eq_true rfl) hw_4 (fun _ h9 => h9) rfl dX11_unlike_59 ?_
          refine lv_iconst (v := 1) hx hb dX11_unlike_62 ic_1 ?_
          refine lv_iadd hx hb dX11_unlike_63 ?_
          refine lv_topi (fun z23 _ => ?_)
          refine lv_ishl hx hb dX11_unlike_64 ?_
          refine lv_topi (fun z24 _ => ?_)
          refine lv_ior hx hb dX11_unlike_65 ?_
          refine lv_topi (fun z25 _ => ?_)
          refine lv_istore (lv' := [(4, .int z25), (0, .ref m0), (1, .int p0), (2, .int p1), (3, .int p2), (5, .int v11_loc5)]) hx hb dX11_unlike_66 hl (Nat.le_of_ble_eq_true rfl) rfl (fun ls hl => ?_)
          have hPD9 := cl_s (wc := [(m0, .inr (11, oX11 ra y15)), (ra 2, .inl (kI, 8, .inl q_told)), (ra 3, .inl (kI, 24, .inl q_kind)), (ra 4, .inl (kI, 24, .inl q_salt)), (ra 8, .inl (kI, 40, .inl q_from)), (ra 9, .inl (kI, 40, .inl q_to)), (ra 10, .inl (kI, 6, .inl q_goal)), (ra 11, .inl (kI, 1019, .inl f16)), (ra 14, .inl (kI, 12, .inl q_reach)), (ra 26, .inl (kZ, 64, .inl q_fitting))]) hP hD [1, 2, 3, 4, 5, 6, 7, 8, 9, 0] rfl (by decide +kernel)
          exact hJ68 y15 f16 z25 _ _ _ (hq17) (hq18) (b6) ((iv_eqL hq21 h11_4)) ((show y15 1 = x0 1 from hq19.trans (htp_11))) ((show y15 10 = x0 10 from hq20.trans (hfp_11))) ((show y15 14 = x0 14 from hq22.trans (hirl_11))) (hPD9.1) (hPD9.2) hS (lv_sub hl [1, 2, 3, 4, 0, 5] rfl)
        · have b26 : iv 0 0 z7 := iv_eqL c8 ivk_0
          refine lv_goto (tgt := 68) hx hb dX11_unlike_28 rfl ?_
          exact hJ68 y11_0 g11_7 v11_loc4 _ _ _ (hI11_0) (hI11_7) (b6) (h11_4) ((show y11_0 1 = x0 1 from htp_11)) ((show y11_0 10 = x0 10 from hfp_11)) ((show y11_0 14 = x0 14 from hirl_11)) (hP) (hD) hS (lv_sub hl [0, 1, 2, 3, 4, 5] rfl)
  refine lv_iconst (v := 0) hx hb dX11_unlike_0 ic_0 ?_
  refine lv_istore (lv' := [(4, .int 0), (0, .ref m0), (1, .int p0), (2, .int p1), (3, .int p2)]) hx hb dX11_unlike_1 hl (Nat.le_of_ble_eq_true rfl) rfl (fun ls hl => ?_)
  refine lv_aload_n hx hb dX11_unlike_3 rfl (lv_at hl 1 rfl) ?_
  refine lv_iload_n hx hb dX11_unlike_4 rfl (lv_at hl 2 rfl) ?_
  refine va_put (D := (dC, dI)) (ci := 11) (v := .int p0) (ty := .int) (C := RX11) (T := TX11) (N := 61) hx hb hts hin11 tyX11 tyX11_ok nmX11 hown hK hP hD hS 0 rfl rfl 26 (by decide) hw_0 (fun _ h9 => h9) rfl (by decide +kernel) rfl rfl (Nat.le_of_ble_eq_true rfl) dX11_unlike_5 (fun H locs hPa hDa hS => ?_)
  clear hP hD
  have hP : va_P (dC, dI) vwCl [(m0, .inr (11, oX11 ra (upd x0 11 p0))), (ra 2, .inl (kI, 8, .inl q_told)), (ra 3, .inl (kI, 24, .inl q_kind)), (ra 4, .inl (kI, 24, .inl q_salt)), (ra 8, .inl (kI, 40, .inl q_from)), (ra 9, .inl (kI, 40, .inl q_to)), (ra 10, .inl (kI, 6, .inl q_goal)), (ra 11, .inl (kI, 1019, .inl q_now)), (ra 14, .inl (kI, 12, .inl q_reach)), (ra 26, .inl (kZ, 64, .inl q_fitting))] H := hPa
  have hD : va_D A [(m0, .inr (11, oX11 ra (upd x0 11 p0))), (ra 2, .inl (kI, 8, .inl q_told)), (ra 3, .inl (kI, 24, .inl q_kind)), (ra 4, .inl (kI, 24, .inl q_salt)), (ra 8, .inl (kI, 40, .inl q_from)), (ra 9, .inl (kI, 40, .inl q_to)), (ra 10, .inl (kI, 6, .inl q_goal)), (ra 11, .inl (kI, 1019, .inl q_now)), (ra 14, .inl (kI, 12, .inl q_reach)), (ra 26, .inl (kZ, 64, .inl q_fitting))] := hDa
  clear hPa hDa
  refine lv_iconst (v := 0) hx hb dX11_unlike_8 ic_0 ?_
  refine lv_istore (lv' := [(5, .int 0), (4, .int 0), (0, .ref m0), (1, .int p0), (2, .int p1), (3, .int p2)]) hx hb dX11_unlike_9 hl (Nat.le_of_ble_eq_true rfl) rfl (fun ls hl => ?_)
  exact hJ11 _ (upd x0 11 p0) q_now 0 0 _ _ _ (Nat.lt_succ_self _) ((fI_u hX (k := 11) ((iv_w hp0 (by decide) (by decide))))) (hq_now) ((iv_w ivk_0 (by decide) (by decide))) (hp0) ((show x0 1 = x0 1 from rfl)) ((show x0 10 = x0 10 from rfl)) ((show x0 14 = x0 14 from rfl)) (hP) (hD) hS (lv_sub hl [2, 3, 4, 5, 1, 0] rfl)
def rm_s11_isAsNoted : Room := { frames := 4, cells := 0, slots := 0, locals := 105 }
set_option maxHeartbeats 4000000 in
set_option maxRecDepth 100000 in
theorem s11_isAsNoted (l : Launch) (dC : Nat → ClassId) (dI : Nat → Nat → Nat) (kB kI kJ kZ kC kS : ClassId) (sz : Nat) (m0 : Nat) (ra : Nat → Nat) (x0 : Nat → Int32) (q_told : Nat → Int32) (q_kind : Nat → Int32) (q_salt : Nat → Int32) (q_mute : Nat → Int32) (q_late : Nat → Int32) (q_from : Nat → Int32) (q_to : Nat → Int32) (q_goal : Nat → Int32) (q_now : Nat → Int32) (q_reach : Nat → Int32) (q_notedPort : Nat → Int32) (q_notedGoal : Nat → Int32) (q_notedHop : Nat → Int32) (q_notedAddress : Nat → Int32) (hX : fI lX11 hX11 x0) (hq_told : fI lTold hTold q_told) (hq_salt : fI (fun _ => 0) (fun _ => 15) q_salt) (hq_from : fI (fun _ => 0) (fun _ => 11) q_from) (hq_to : fI (fun _ => 0) (fun _ => 11) q_to) (hq_goal : fI (fun _ => 0) (fun _ => 11) q_goal) (hq_now : fI lNow hNow q_now) (hq_notedPort : fI (fun _ => 0) (fun _ => 31) q_notedPort) (hq_notedGoal : fI (fun _ => 0) (fun _ => 2) q_notedGoal) (hLT : ∀ j : Nat, (j : Int) < (q_told 1).toInt → (q_from j).toInt < (q_to j).toInt) : Met l yX11_isAsNoted wsX11_isAsNoted rm_s11_isAsNoted (va_Pc [.ref m0] (fun U => U.heap.size = sz ∧ va_P (dC, dI) vwCl [(m0, .inr (11, oX11 ra x0)), (ra 2, .inl (kI, 8, .inl q_told)), (ra 3, .inl (kI, 24, .inl q_kind)), (ra 4, .inl (kI, 24, .inl q_salt)), (ra 6, .inl (kI, 24, .inl q_mute)), (ra 7, .inl (kI, 24, .inl q_late)), (ra 8, .inl (kI, 40, .inl q_from)), (ra 9, .inl (kI, 40, .inl q_to)), (ra 10, .inl (kI, 6, .inl q_goal)), (ra 11, .inl (kI, 1019, .inl q_now)), (ra 14, .inl (kI, 12, .inl q_reach)), (ra 22, .inl (kI, 8, .inl q_notedPort)), (ra 23, .inl (kI, 8, .inl q_notedGoal)), (ra 24, .inl (kI, 8, .inl q_notedHop)), (ra 25, .inl (kI, 8, .inl q_notedAddress))] U.heap ∧ kE dC dI kB kI kJ kZ kC kS U ∧ va_D (fun _ => True) [(m0, .inr (11, oX11 ra x0)), (ra 2, .inl (kI, 8, .inl q_told)), (ra 3, .inl (kI, 24, .inl q_kind)), (ra 4, .inl (kI, 24, .inl q_salt)), (ra 6, .inl (kI, 24, .inl q_mute)), (ra 7, .inl (kI, 24, .inl q_late)), (ra 8, .inl (kI, 40, .inl q_from)), (ra 9, .inl (kI, 40, .inl q_to)), (ra 10, .inl (kI, 6, .inl q_goal)), (ra 11, .inl (kI, 1019, .inl q_now)), (ra 14, .inl (kI, 12, .inl q_reach)), (ra 22, .inl (kI, 8, .inl q_notedPort)), (ra 23, .inl (kI, 8, .inl q_notedGoal)), (ra 24, .inl (kI, 8, .inl q_notedHop)), (ra 25, .inl (kI, 8, .inl q_notedAddress))])) (va_Qi (fun (r : Int32) (_ : Unit) => iv 0 1 r) (fun _ t => ∃ (x0' : Nat → Int32) (q_now' : Nat → Int32), fI lX11 hX11 x0' ∧ fI lNow hNow q_now' ∧ (x0' 1 = x0 1) ∧ (x0' 10 = x0 10) ∧ (x0' 11 = x0 11) ∧ (x0' 14 = x0 14) ∧ va_P (dC, dI) vwCl [(m0, .inr (11, oX11 ra x0')), (ra 2, .inl (kI, 8, .inl q_told)), (ra 3, .inl (kI, 24, .inl q_kind)), (ra 4, .inl (kI, 24, .inl q_salt)), (ra 6, .inl (kI, 24, .inl q_mute)), (ra 7, .inl (kI, 24, .inl q_late)), (ra 8, .inl (kI, 40, .inl q_from)), (ra 9, .inl (kI, 40, .inl q_to)), (ra 10, .inl (kI, 6, .inl q_goal)), (ra 11, .inl (kI, 1019, .inl q_now')), (ra 14, .inl (kI, 12, .inl q_reach)), (ra 22, .inl (kI, 8, .inl q_notedPort)), (ra 23, .inl (kI, 8, .inl q_notedGoal)), (ra 24, .inl (kI, 8, .inl q_notedHop)), (ra 25, .inl (kI, 8, .inl q_notedAddress))] t.heap ∧ va_D (va_A [(m0, .inr (11, oX11 ra x0)), (ra 2, .inl (kI, 8, .inl q_told)), (ra 3, .inl (kI, 24, .inl q_kind)), (ra 4, .inl (kI, 24, .inl q_salt)), (ra 6, .inl (kI, 24, .inl q_mute)), (ra 7, .inl (kI, 24, .inl q_late)), (ra 8, .inl (kI, 40, .inl q_from)), (ra 9, .inl (kI, 40, .inl q_to)), (ra 10, .inl (kI, 6, .inl q_goal)), (ra 11, .inl (kI, 1019, .inl q_now)), (ra 14, .inl (kI, 12, .inl q_reach)), (ra 22, .inl (kI, 8, .inl q_notedPort)), (ra 23, .inl (kI, 8, .inl q_notedGoal)), (ra 24, .inl (kI, 8, .inl q_notedHop)), (ra 25, .inl (kI, 8, .inl q_notedAddress))] sz) [(m0, .inr (11, oX11 ra x0')), (ra 2, .inl (kI, 8, .inl q_told)), (ra 3, .inl (kI, 24, .inl q_kind)), (ra 4, .inl (kI, 24, .inl q_salt)), (ra 6, .inl (kI, 24, .inl q_mute)), (ra 7, .inl (kI, 24, .inl q_late)), (ra 8, .inl (kI, 40, .inl q_from)), (ra 9, .inl (kI, 40, .inl q_to)), (ra 10, .inl (kI, 6, .inl q_goal)), (ra 11, .inl (kI, 1019, .inl q_now')), (ra 14, .inl (kI, 12, .inl q_reach)), (ra 22, .inl (kI, 8, .inl q_notedPort)), (ra 23, .inl (kI, 8, .inl q_notedGoal)), (ra 24, .inl (kI, 8, .inl q_notedHop)), (ra 25, .inl (kI, 8, .inl q_notedAddress))]) (va_A [(m0, .inr (11, oX11 ra x0)), (ra 2, .inl (kI, 8, .inl q_told)), (ra 3, .inl (kI, 24, .inl q_kind)), (ra 4, .inl (kI, 24, .inl q_salt)), (ra 6, .inl (kI, 24, .inl q_mute)), (ra 7, .inl (kI, 24, .inl q_late)), (ra 8, .inl (kI, 40, .inl q_from)), (ra 9, .inl (kI, 40, .inl q_to)), (ra 10, .inl (kI, 6, .inl q_goal)), (ra 11, .inl (kI, 1019, .inl q_now)), (ra 14, .inl (kI, 12, .inl q_reach)), (ra 22, .inl (kI, 8, .inl q_notedPort)), (ra 23, .inl (kI, 8, .inl q_notedGoal)), (ra 24, .inl (kI, 8, .inl q_notedHop)), (ra 25, .inl (kI, 8, .inl q_notedAddress))] sz)) 0 0 (va_A [(m0, .inr (11, oX11 ra x0)), (ra 2, .inl (kI, 8, .inl q_told)), (ra 3, .inl (kI, 24, .inl q_kind)), (ra 4, .inl (kI, 24, .inl q_salt)), (ra 6, .inl (kI, 24, .inl q_mute)), (ra 7, .inl (kI, 24, .inl q_late)), (ra 8, .inl (kI, 40, .inl q_from)), (ra 9, .inl (kI, 40, .inl q_to)), (ra 10, .inl (kI, 6, .inl q_goal)), (ra 11, .inl (kI, 1019, .inl q_now)), (ra 14, .inl (kI, 12, .inl q_reach)), (ra 22, .inl (kI, 8, .inl q_notedPort)), (ra 23, .inl (kI, 8, .inl q_notedGoal)), (ra 24, .inl (kI, 8, .inl q_notedHop)), (ra 25, .inl (kI, 8, .inl q_notedAddress))] sz) := by
  refine Met.ofW (cc := cX11_isAsNoted) (maxL := 3) (ret := (some .boolean)) (by decide) rfl ?_
  intro p e s m args0 below meth c s₁ B hml hv
  obtain ⟨hargs, hsz, hP, hE, hD0⟩ := hv
  have hx := B.exec
  have hb := B.bytes
  have hr := B.returns
  have hts := atoms_spec (ws := wsX11_isAsNoted) B.pre
  have hown : s.vm.findClass RX11 = some m.cls := findClass_of_methodNamed B.named
  have hlocks := B.notSynchronized
  have hK := hE.1
  have hin11 : ∀ w ∈ wsX110, w ∈ wsX11_isAsNoted := fun _ h9 => List.mem_cons_of_mem _ (List.mem_append_right _ h9)
  have hw_0 := hts (.fieldLink RX11 253 "PathProberModel" "noted" "I") (List.mem_of_getElem? (i := 1) rfl)
  have hw_1 := hts (.fieldLink RX11 103 "PathProberModel" "notedPort" "[I") (List.mem_of_getElem? (i := 2) rfl)
  have hw_2 := hts (.fieldLink RX11 106 "PathProberModel" "notedGoal" "[I") (List.mem_of_getElem? (i := 3) rfl)
  have hw_3 := hts (.fieldLink RX11 109 "PathProberModel" "notedHop" "[I") (List.mem_of_getElem? (i := 4) rfl)
  have hw_4 := hts (.fieldLink RX11 295 "PathProberModel" "endAddress" "I") (List.mem_of_getElem? (i := 5) rfl)
  have hw_5 := hts (.fieldLink RX11 112 "PathProberModel" "notedAddress" "[I") (List.mem_of_getElem? (i := 6) rfl)
  subst hsz
  have hD := hD0.self (sz := s.heap.size)
  generalize hAe : va_A [(m0, .inr (11, oX11 ra x0)), (ra 2, .inl (kI, 8, .inl q_told)), (ra 3, .inl (kI, 24, .inl q_kind)), (ra 4, .inl (kI, 24, .inl q_salt)), (ra 6, .inl (kI, 24, .inl q_mute)), (ra 7, .inl (kI, 24, .inl q_late)), (ra 8, .inl (kI, 40, .inl q_from)), (ra 9, .inl (kI, 40, .inl q_to)), (ra 10, .inl (kI, 6, .inl q_goal)), (ra 11, .inl (kI, 1019, .inl q_now)), (ra 14, .inl (kI, 12, .inl q_reach)), (ra 22, .inl (kI, 8, .inl q_notedPort)), (ra 23, .inl (kI, 8, .inl q_notedGoal)), (ra 24, .inl (kI, 8, .inl q_notedHop)), (ra 25, .inl (kI, 8, .inl q_notedAddress))] s.heap.size = A at hD ⊢
  have hA : ∀ q : Nat, s.heap.size ≤ q → A q := fun q h => by rw [← hAe]; exact Or.inr h
  have hS : va_S A s.heap s.heap [] := va_S.rf
  have hP : va_P (dC, dI) vwCl [(m0, .inr (11, oX11 ra x0)), (ra 2, .inl (kI, 8, .inl q_told)), (ra 3, .inl (kI, 24, .inl q_kind)), (ra 4, .inl (kI, 24, .inl q_salt)), (ra 6, .inl (kI, 24, .inl q_mute)), (ra 7, .inl (kI, 24, .inl q_late)), (ra 8, .inl (kI, 40, .inl q_from)), (ra 9, .inl (kI, 40, .inl q_to)), (ra 10, .inl (kI, 6, .inl q_goal)), (ra 11, .inl (kI, 1019, .inl q_now)), (ra 14, .inl (kI, 12, .inl q_reach)), (ra 22, .inl (kI, 8, .inl q_notedPort)), (ra 23, .inl (kI, 8, .inl q_notedGoal)), (ra 24, .inl (kI, 8, .inl q_notedHop)), (ra 25, .inl (kI, 8, .inl q_notedAddress))] s.heap := hP
  have hl := lv_entry ([.ref m0]) (n := 3) (Nat.le_of_ble_eq_true rfl)
  have hla : entryFrame m args0 3 = entryFrame m ([.ref m0] : List Value).toArray 3 := by rw [hargs]
  rw [hla, lg_entry_eq]
  generalize (lg_sl ([.ref m0]) ++ List.replicate (3 - (lg_sl ([.ref m0])).length) Slot.unset).toArray = ls at hl ⊢
  have hl : lv_has ls 3 [(0, .ref m0)] := hl
  have hJ76 : ∀ (y76_0 : Nat → Int32) (g76_9 : Nat → Int32) (v76_loc1 : Int32) (v76_loc2 : Int32) (H : Heap) (locs : List Loc) (ls : Array Slot), fI lX11 hX11 y76_0 → fI lNow hNow g76_9 → iv 0 1 v76_loc1 → iv 0 11 v76_loc2 → (y76_0 1 = x0 1) → (y76_0 10 = x0 10) → (y76_0 11 = x0 11) → (y76_0 14 = x0 14) → va_P (dC, dI) vwCl [(m0, .inr (11, oX11 ra y76_0)), (ra 2, .inl (kI, 8, .inl q_told)), (ra 3, .inl (kI, 24, .inl q_kind)), (ra 4, .inl (kI, 24, .inl q_salt)), (ra 6, .inl (kI, 24, .inl q_mute)), (ra 7, .inl (kI, 24, .inl q_late)), (ra 8, .inl (kI, 40, .inl q_from)), (ra 9, .inl (kI, 40, .inl q_to)), (ra 10, .inl (kI, 6, .inl q_goal)), (ra 11, .inl (kI, 1019, .inl g76_9)), (ra 14, .inl (kI, 12, .inl q_reach)), (ra 22, .inl (kI, 8, .inl q_notedPort)), (ra 23, .inl (kI, 8, .inl q_notedGoal)), (ra 24, .inl (kI, 8, .inl q_notedHop)), (ra 25, .inl (kI, 8, .inl q_notedAddress))] H → va_D A [(m0, .inr (11, oX11 ra y76_0)), (ra 2, .inl (kI, 8, .inl q_told)), (ra 3, .inl (kI, 24, .inl q_kind)), (ra 4, .inl (kI, 24, .inl q_salt)), (ra 6, .inl (kI, 24, .inl q_mute)), (ra 7, .inl (kI, 24, .inl q_late)), (ra 8, .inl (kI, 40, .inl q_from)), (ra 9, .inl (kI, 40, .inl q_to)), (ra 10, .inl (kI, 6, .inl q_goal)), (ra 11, .inl (kI, 1019, .inl g76_9)), (ra 14, .inl (kI, 12, .inl q_reach)), (ra 22, .inl (kI, 8, .inl q_notedPort)), (ra 23, .inl (kI, 8, .inl q_notedGoal)), (ra 24, .inl (kI, 8, .inl q_notedHop)), (ra 25, .inl (kI, 8, .inl q_notedAddress))] → va_S A s.heap H locs → lv_has ls 3 [(0, .ref m0), (1, .int v76_loc1), (2, .int v76_loc2)] → W p l e (headSpec wsX11_isAsNoted rm_s11_isAsNoted).room s m args0 below meth c H locs (0) (0) (MQ below (va_Qi (fun (r : Int32) (_ : Unit) => iv 0 1 r) (fun _ t => ∃ (x0' : Nat → Int32) (q_now' : Nat → Int32), fI lX11 hX11 x0' ∧ fI lNow hNow q_now' ∧ (x0' 1 = x0 1) ∧ (x0' 10 = x0 10) ∧ (x0' 11 = x0 11) ∧ (x0' 14 = x0 14) ∧ va_P (dC, dI) vwCl [(m0, .inr (11, oX11 ra x0')), (ra 2, .inl (kI, 8, .inl q_told)), (ra 3, .inl (kI, 24, .inl q_kind)), (ra 4, .inl (kI, 24, .inl q_salt)), (ra 6, .inl (kI, 24, .inl q_mute)), (ra 7, .inl (kI, 24, .inl q_late)), (ra 8, .inl (kI, 40, .inl q_from)), (ra 9, .inl (kI, 40, .inl q_to)), (ra 10, .inl (kI, 6, .inl q_goal)), (ra 11, .inl (kI, 1019, .inl q_now')), (ra 14, .inl (kI, 12, .inl q_reach)), (ra 22, .inl (kI, 8, .inl q_notedPort)), (ra 23, .inl (kI, 8, .inl q_notedGoal)), (ra 24, .inl (kI, 8, .inl q_notedHop)), (ra 25, .inl (kI, 8, .inl q_notedAddress))] t.heap ∧ va_D A [(m0, .inr (11, oX11 ra x0')), (ra 2, .inl (kI, 8, .inl q_told)), (ra 3, .inl (kI, 24, .inl q_kind)), (ra 4, .inl (kI, 24, .inl q_salt)), (ra 6, .inl (kI, 24, .inl q_mute)), (ra 7, .inl (kI, 24, .inl q_late)), (ra 8, .inl (kI, 40, .inl q_from)), (ra 9, .inl (kI, 40, .inl q_to)), (ra 10, .inl (kI, 6, .inl q_goal)), (ra 11, .inl (kI, 1019, .inl q_now')), (ra 14, .inl (kI, 12, .inl q_reach)), (ra 22, .inl (kI, 8, .inl q_notedPort)), (ra 23, .inl (kI, 8, .inl q_notedGoal)), (ra 24, .inl (kI, 8, .inl q_notedHop)), (ra 25, .inl (kI, 8, .inl q_notedAddress))]) A) args0 s 0 0 A) (F0 m 76 ls []) := by
    intro y76_0 g76_9 v76_loc1 v76_loc2 H locs ls hI76_0 hI76_9 h76_3 h76_4 htp_76 hfp_76 hor_76 hirl_76 hP hD hS hl
    refine lv_iload_n hx hb dX11_isAsNoted_76 rfl (lv_at hl 1 rfl) ?_
    have hP9 := hP
    have hD9 := hD
    exact W.zret (v := v76_loc1) (ty := .boolean) hx hb hr (z_nar h76_3) (fun t ht hW => ⟨⟨v76_loc1, (), rfl, h76_3, y76_0, g76_9, hI76_0, hI76_9, (show y76_0 1 = x0 1 from htp_76), (show y76_0 10 = x0 10 from hfp_76), (show y76_0 11 = x0 11 from hor_76), (show y76_0 14 = x0 14 from hirl_76), by rw [ht]; exact hP9, hD9⟩, hS.F ht⟩) hS.2.2 dX11_isAsNoted_77
  have hJ4 : ∀ (n : Nat) (y4_0 : Nat → Int32) (g4_9 : Nat → Int32) (v4_loc1 : Int32) (v4_loc2 : Int32) (H : Heap) (locs : List Loc) (ls : Array Slot), (11 - v4_loc2.toInt).toNat < n → fI lX11 hX11 y4_0 → fI lNow hNow g4_9 → iv 0 1 v4_loc1 → iv 0 11 v4_loc2 → (y4_0 1 = x0 1) → (y4_0 10 = x0 10) → (y4_0 11 = x0 11) → (y4_0 14 = x0 14) → va_P (dC, dI) vwCl [(m0, .inr (11, oX11 ra y4_0)), (ra 2, .inl (kI, 8, .inl q_told)), (ra 3, .inl (kI, 24, .inl q_kind)), (ra 4, .inl (kI, 24, .inl q_salt)), (ra 6, .inl (kI, 24, .inl q_mute)), (ra 7, .inl (kI, 24, .inl q_late)), (ra 8, .inl (kI, 40, .inl q_from)), (ra 9, .inl (kI, 40, .inl q_to)), (ra 10, .inl (kI, 6, .inl q_goal)), (ra 11, .inl (kI, 1019, .inl g4_9)), (ra 14, .inl (kI, 12, .inl q_reach)), (ra 22, .inl (kI, 8, .inl q_notedPort)), (ra 23, .inl (kI, 8, .inl q_notedGoal)), (ra 24, .inl (kI, 8, .inl q_notedHop)), (ra 25, .inl (kI, 8, .inl q_notedAddress))] H → va_D A [(m0, .inr (11, oX11 ra y4_0)), (ra 2, .inl (kI, 8, .inl q_told)), (ra 3, .inl (kI, 24, .inl q_kind)), (ra 4, .inl (kI, 24, .inl q_salt)), (ra 6, .inl (kI, 24, .inl q_mute)), (ra 7, .inl (kI, 24, .inl q_late)), (ra 8, .inl (kI, 40, .inl q_from)), (ra 9, .inl (kI, 40, .inl q_to)), (ra 10, .inl (kI, 6, .inl q_goal)), (ra 11, .inl (kI, 1019, .inl g4_9)), (ra 14, .inl (kI, 12, .inl q_reach)), (ra 22, .inl (kI, 8, .inl q_notedPort)), (ra 23, .inl (kI, 8, .inl q_notedGoal)), (ra 24, .inl (kI, 8, .inl q_notedHop)), (ra 25, .inl (kI, 8, .inl q_notedAddress))] → va_S A s.heap H locs → lv_has ls 3 [(0, .ref m0), (1, .int v4_loc1), (2, .int v4_loc2)] → W p l e (headSpec wsX11_isAsNoted rm_s11_isAsNoted).room s m args0 below meth c H locs (0) (0) (MQ below (va_Qi (fun (r : Int32) (_ : Unit) => iv 0 1 r) (fun _ t => ∃ (x0' : Nat → Int32) (q_now' : Nat → Int32), fI lX11 hX11 x0' ∧ fI lNow hNow q_now' ∧ (x0' 1 = x0 1) ∧ (x0' 10 = x0 10) ∧ (x0' 11 = x0 11) ∧ (x0' 14 = x0 14) ∧ va_P (dC, dI) vwCl [(m0, .inr (11, oX11 ra x0')), (ra 2, .inl (kI, 8, .inl q_told)), (ra 3, .inl (kI, 24, .inl q_kind)), (ra 4, .inl (kI, 24, .inl q_salt)), (ra 6, .inl (kI, 24, .inl q_mute)), (ra 7, .inl (kI, 24, .inl q_late)), (ra 8, .inl (kI, 40, .inl q_from)), (ra 9, .inl (kI, 40, .inl q_to)), (ra 10, .inl (kI, 6, .inl q_goal)), (ra 11, .inl (kI, 1019, .inl q_now')), (ra 14, .inl (kI, 12, .inl q_reach)), (ra 22, .inl (kI, 8, .inl q_notedPort)), (ra 23, .inl (kI, 8, .inl q_notedGoal)), (ra 24, .inl (kI, 8, .inl q_notedHop)), (ra 25, .inl (kI, 8, .inl q_notedAddress))] t.heap ∧ va_D A [(m0, .inr (11, oX11 ra x0')), (ra 2, .inl (kI, 8, .inl q_told)), (ra 3, .inl (kI, 24, .inl q_kind)), (ra 4, .inl (kI, 24, .inl q_salt)), (ra 6, .inl (kI, 24, .inl q_mute)), (ra 7, .inl (kI, 24, .inl q_late)), (ra 8, .inl (kI, 40, .inl q_from)), (ra 9, .inl (kI, 40, .inl q_to)), (ra 10, .inl (kI, 6, .inl q_goal)), (ra 11, .inl (kI, 1019, .inl q_now')), (ra 14, .inl (kI, 12, .inl q_reach)), (ra 22, .inl (kI, 8, .inl q_notedPort)), (ra 23, .inl (kI, 8, .inl q_notedGoal)), (ra 24, .inl (kI, 8, .inl q_notedHop)), (ra 25, .inl (kI, 8, .inl q_notedAddress))]) A) args0 s 0 0 A) (F0 m 4 ls []) := by
    intro n
    induction n with
    | zero => intro y4_0 g4_9 v4_loc1 v4_loc2 H locs ls hm4; exact absurd hm4 (Nat.not_lt_zero _)
    | succ n ih4 =>
      intro y4_0 g4_9 v4_loc1 v4_loc2 H locs ls hm4 hI4_0 hI4_9 h4_3 h4_4 htp_4 hfp_4 hor_4 hirl_4 hP hD hS hl
      have hJ69 : ∀ (y69_0 : Nat → Int32) (g69_9 : Nat → Int32) (v69_stk0 : Int32) (H : Heap) (locs : List Loc) (ls : Array Slot), fI lX11 hX11 y69_0 → fI lNow hNow g69_9 → iv 1 1 v4_loc1 → iv 0 7 v4_loc2 → iv 0 1 v69_stk0 → iv 1 8 (y4_0 21) → (y69_0 1 = x0 1) → (y69_0 10 = x0 10) → (y69_0 11 = x0 11) → (y69_0 14 = x0 14) → va_P (dC, dI) vwCl [(m0, .inr (11, oX11 ra y69_0)), (ra 2, .inl (kI, 8, .inl q_told)), (ra 3, .inl (kI, 24, .inl q_kind)), (ra 4, .inl (kI, 24, .inl q_salt)), (ra 6, .inl (kI, 24, .inl q_mute)), (ra 7, .inl (kI, 24, .inl q_late)), (ra 8, .inl (kI, 40, .inl q_from)), (ra 9, .inl (kI, 40, .inl q_to)), (ra 10, .inl (kI, 6, .inl q_goal)), (ra 11, .inl (kI, 1019, .inl g69_9)), (ra 14, .inl (kI, 12, .inl q_reach)), (ra 22, .inl (kI, 8, .inl q_notedPort)), (ra 23, .inl (kI, 8, .inl q_notedGoal)), (ra 24, .inl (kI, 8, .inl q_notedHop)), (ra 25, .inl (kI, 8, .inl q_notedAddress))] H → va_D A [(m0, .inr (11, oX11 ra y69_0)), (ra 2, .inl (kI, 8, .inl q_told)), (ra 3, .inl (kI, 24, .inl q_kind)), (ra 4, .inl (kI, 24, .inl q_salt)), (ra 6, .inl (kI, 24, .inl q_mute)), (ra 7, .inl (kI, 24, .inl q_late)), (ra 8, .inl (kI, 40, .inl q_from)), (ra 9, .inl (kI, 40, .inl q_to)), (ra 10, .inl (kI, 6, .inl q_goal)), (ra 11, .inl (kI, 1019, .inl g69_9)), (ra 14, .inl (kI, 12, .inl q_reach)), (ra 22, .inl (kI, 8, .inl q_notedPort)), (ra 23, .inl (kI, 8, .inl q_notedGoal)), (ra 24, .inl (kI, 8, .inl q_notedHop)), (ra 25, .inl (kI, 8, .inl q_notedAddress))] → va_S A s.heap H locs → lv_has ls 3 [(0, .ref m0), (1, .int v4_loc1), (2, .int v4_loc2)] → W p l e (headSpec wsX11_isAsNoted rm_s11_isAsNoted).room s m args0 below meth c H locs (0) (0) (MQ below (va_Qi (fun (r : Int32) (_ : Unit) => iv 0 1 r) (fun _ t => ∃ (x0' : Nat → Int32) (q_now' : Nat → Int32), fI lX11 hX11 x0' ∧ fI lNow hNow q_now' ∧ (x0' 1 = x0 1) ∧ (x0' 10 = x0 10) ∧ (x0' 11 = x0 11) ∧ (x0' 14 = x0 14) ∧ va_P (dC, dI) vwCl [(m0, .inr (11, oX11 ra x0')), (ra 2, .inl (kI, 8, .inl q_told)), (ra 3, .inl (kI, 24, .inl q_kind)), (ra 4, .inl (kI, 24, .inl q_salt)), (ra 6, .inl (kI, 24, .inl q_mute)), (ra 7, .inl (kI, 24, .inl q_late)), (ra 8, .inl (kI, 40, .inl q_from)), (ra 9, .inl (kI, 40, .inl q_to)), (ra 10, .inl (kI, 6, .inl q_goal)), (ra 11, .inl (kI, 1019, .inl q_now')), (ra 14, .inl (kI, 12, .inl q_reach)), (ra 22, .inl (kI, 8, .inl q_notedPort)), (ra 23, .inl (kI, 8, .inl q_notedGoal)), (ra 24, .inl (kI, 8, .inl q_notedHop)), (ra 25, .inl (kI, 8, .inl q_notedAddress))] t.heap ∧ va_D A [(m0, .inr (11, oX11 ra x0')), (ra 2, .inl (kI, 8, .inl q_told)), (ra 3, .inl (kI, 24, .inl q_kind)), (ra 4, .inl (kI, 24, .inl q_salt)), (ra 6, .inl (kI, 24, .inl q_mute)), (ra 7, .inl (kI, 24, .inl q_late)), (ra 8, .inl (kI, 40, .inl q_from)), (ra 9, .inl (kI, 40, .inl q_to)), (ra 10, .inl (kI, 6, .inl q_goal)), (ra 11, .inl (kI, 1019, .inl q_now')), (ra 14, .inl (kI, 12, .inl q_reach)), (ra 22, .inl (kI, 8, .inl q_notedPort)), (ra 23, .inl (kI, 8, .inl q_notedGoal)), (ra 24, .inl (kI, 8, .inl q_notedHop)), (ra 25, .inl (kI, 8, .inl q_notedAddress))]) A) args0 s 0 0 A) (F0 m 69 ls [.int v69_stk0]) := by
        intro y69_0 g69_9 v69_stk0 H locs ls hI69_0 hI69_9 h69_3 h69_4 h69_5 h69_6 htp_69 hfp_69 hor_69 hirl_69 hP hD hS hl
        refine lv_istore_n (lv' := [(1, .int v69_stk0), (0, .ref m0), (2, .int v4_loc2)]) hx hb dX11_isAsNoted_69 rfl hl (Nat.le_of_ble_eq_true rfl) rfl (fun ls hl => ?_)
        refine lv_iinc (v := v4_loc2 + Int32.ofInt 1) (lv' := [(2, .int (v4_loc2 + Int32.ofInt 1)), (1, .int v69_stk0), (0, .ref m0)]) hx hb dX11_isAsNoted_70 hl (k := 2) rfl (rfl) (Nat.le_of_ble_eq_true rfl) rfl (fun ls hl => ?_)
        have b1 : iv 1 8 (v4_loc2 + Int32.ofInt 1) := iv_add h69_4 ivo_1 (by decide) (by decide) (by decide) (by decide)
        refine lv_goto (tgt := 4) hx hb dX11_isAsNoted_73 rfl ?_
        exact ih4 y69_0 g69_9 v69_stk0 (v4_loc2 + Int32.ofInt 1) _ _ _ (ms_up (c := 1) (d := 0) h69_4 hm4 (by decide) (iv_inc 1 h69_4 (by decide) (by decide) (by decide) (by decide)) (by decide) rfl) (hI69_0) (hI69_9) (h69_5) ((iv_w b1 (by decide) (by decide))) ((show y69_0 1 = x0 1 from htp_69)) ((show y69_0 10 = x0 10 from hfp_69)) ((show y69_0 11 = x0 11 from hor_69)) ((show y69_0 14 = x0 14 from hirl_69)) (hP) (hD) hS (lv_sub hl [2, 1, 0] rfl)
      have hJ68 : ∀ (y68_0 : Nat → Int32) (g68_9 : Nat → Int32) (H : Heap) (locs : List Loc) (ls : Array Slot), fI lX11 hX11 y68_0 → fI lNow hNow g68_9 → iv 1 1 v4_loc1 → iv 0 7 v4_loc2 → iv 1 8 (y4_0 21) → (y68_0 1 = x0 1) → (y68_0 10 = x0 10) → (y68_0 11 = x0 11) → (y68_0 14 = x0 14) → va_P (dC, dI) vwCl [(m0, .inr (11, oX11 ra y68_0)), (ra 2, .inl (kI, 8, .inl q_told)), (ra 3, .inl (kI, 24, .inl q_kind)), (ra 4, .inl (kI, 24, .inl q_salt)), (ra 6, .inl (kI, 24, .inl q_mute)), (ra 7, .inl (kI, 24, .inl q_late)), (ra 8, .inl (kI, 40, .inl q_from)), (ra 9, .inl (kI, 40, .inl q_to)), (ra 10, .inl (kI, 6, .inl q_goal)), (ra 11, .inl (kI, 1019, .inl g68_9)), (ra 14, .inl (kI, 12, .inl q_reach)), (ra 22, .inl (kI, 8, .inl q_notedPort)), (ra 23, .inl (kI, 8, .inl q_notedGoal)), (ra 24, .inl (kI, 8, .inl q_notedHop)), (ra 25, .inl (kI, 8, .inl q_notedAddress))] H → va_D A [(m0, .inr (11, oX11 ra y68_0)), (ra 2, .inl (kI, 8, .inl q_told)), (ra 3, .inl (kI, 24, .inl q_kind)), (ra 4, .inl (kI, 24, .inl q_salt)), (ra 6, .inl (kI, 24, .inl q_mute)), (ra 7, .inl (kI, 24, .inl q_late)), (ra 8, .inl (kI, 40, .inl q_from)), (ra 9, .inl (kI, 40, .inl q_to)), (ra 10, .inl (kI, 6, .inl q_goal)), (ra 11, .inl (kI, 1019, .inl g68_9)), (ra 14, .inl (kI, 12, .inl q_reach)), (ra 22, .inl (kI, 8, .inl q_notedPort)), (ra 23, .inl (kI, 8, .inl q_notedGoal)), (ra 24, .inl (kI, 8, .inl q_notedHop)), (ra 25, .inl (kI, 8, .inl q_notedAddress))] → va_S A s.heap H locs → lv_has ls 3 [(0, .ref m0), (1, .int v4_loc1), (2, .int v4_loc2)] → W p l e (headSpec wsX11_isAsNoted rm_s11_isAsNoted).room s m args0 below meth c H locs (0) (0) (MQ below (va_Qi (fun (r : Int32) (_ : Unit) => iv 0 1 r) (fun _ t => ∃ (x0' : Nat → Int32) (q_now' : Nat → Int32), fI lX11 hX11 x0' ∧ fI lNow hNow q_now' ∧ (x0' 1 = x0 1) ∧ (x0' 10 = x0 10) ∧ (x0' 11 = x0 11) ∧ (x0' 14 = x0 14) ∧ va_P (dC, dI) vwCl [(m0, .inr (11, oX11 ra x0')), (ra 2, .inl (kI, 8, .inl q_told)), (ra 3, .inl (kI, 24, .inl q_kind)), (ra 4, .inl (kI, 24, .inl q_salt)), (ra 6, .inl (kI, 24, .inl q_mute)), (ra 7, .inl (kI, 24, .inl q_late)), (ra 8, .inl (kI, 40, .inl q_from)), (ra 9, .inl (kI, 40, .inl q_to)), (ra 10, .inl (kI, 6, .inl q_goal)), (ra 11, .inl (kI, 1019, .inl q_now')), (ra 14, .inl (kI, 12, .inl q_reach)), (ra 22, .inl (kI, 8, .inl q_notedPort)), (ra 23, .inl (kI, 8, .inl q_notedGoal)), (ra 24, .inl (kI, 8, .inl q_notedHop)), (ra 25, .inl (kI, 8, .inl q_notedAddress))] t.heap ∧ va_D A [(m0, .inr (11, oX11 ra x0')), (ra 2, .inl (kI, 8, .inl q_told)), (ra 3, .inl (kI, 24, .inl q_kind)), (ra 4, .inl (kI, 24, .inl q_salt)), (ra 6, .inl (kI, 24, .inl q_mute)), (ra 7, .inl (kI, 24, .inl q_late)), (ra 8, .inl (kI, 40, .inl q_from)), (ra 9, .inl (kI, 40, .inl q_to)), (ra 10, .inl (kI, 6, .inl q_goal)), (ra 11, .inl (kI, 1019, .inl q_now')), (ra 14, .inl (kI, 12, .inl q_reach)), (ra 22, .inl (kI, 8, .inl q_notedPort)), (ra 23, .inl (kI, 8, .inl q_notedGoal)), (ra 24, .inl (kI, 8, .inl q_notedHop)), (ra 25, .inl (kI, 8, .inl q_notedAddress))]) A) args0 s 0 0 A) (F0 m 68 ls []) := by
        intro y68_0 g68_9 H locs ls hI68_0 hI68_9 h68_3 h68_4 h68_5 htp_68 hfp_68 hor_68 hirl_68 hP hD hS hl
        refine lv_iconst (v := 0) hx hb dX11_isAsNoted_68 ic_0 ?_
        exact hJ69 y68_0 g68_9 0 _ _ _ (hI68_0) (hI68_9) (h68_3) (h68_4) ((iv_w ivk_0 (by decide) (by decide))) (h68_5) ((show y68_0 1 = x0 1 from htp_68)) ((show y68_0 10 = x0 10 from hfp_68)) ((show y68_0 11 = x0 11 from hor_68)) ((show y68_0 14 = x0 14 from hirl_68)) (hP) (hD) hS (lv_sub hl [0, 1, 2] rfl)
      refine lv_iload_n hx hb dX11_isAsNoted_4 rfl (lv_at hl 2 rfl) ?_
      refine lv_aload_n hx hb dX11_isAsNoted_5 rfl (lv_at hl 0 rfl) ?_
      refine va_get (D := (dC, dI)) (ci := 11) (v := .int (y4_0 21)) (C := RX11) (T := TX11) (N := 61) hx hb hts hin11 hown hK hP 0 rfl rfl 43 (Nat.le_of_ble_eq_true rfl) hw_0 (fun _ h9 => h9) rfl dX11_isAsNoted_6 ?_
      refine lv_icmp_ge (tgt := 76) hx hb dX11_isAsNoted_9 rfl (fun c2 => ?_) (fun c2 => ?_)
      · exact hJ76 y4_0 g4_9 v4_loc1 v4_loc2 _ _ _ (hI4_0) (hI4_9) (h4_3) (h4_4) ((show y4_0 1 = x0 1 from htp_4)) ((show y4_0 10 = x0 10 from hfp_4)) ((show y4_0 11 = x0 11 from hor_4)) ((show y4_0 14 = x0 14 from hirl_4)) (hP) (hD) hS (lv_sub hl [0, 1, 2] rfl)
      · have b3 : iv 0 7 v4_loc2 := iv_ltL (Int32.not_le.mp c2) h4_4 (hI4_0 21 : iv 0 8 (y4_0 21)) (by decide) (by decide)
        have b4 : iv 1 8 (y4_0 21) := iv_ltR (Int32.not_le.mp c2) h4_4 (hI4_0 21 : iv 0 8 (y4_0 21)) (by decide) (by decide)
        refine lv_iload_n hx hb dX11_isAsNoted_12 rfl (lv_at hl 1 rfl) ?_
        refine lv_if_eq (tgt := 76) hx hb dX11_isAsNoted_13 rfl (fun c5 => ?_) (fun c5 => ?_)
        · have b6 : iv 0 0 v4_loc1 := iv_eqL c5 ivk_0
          exact hJ76 y4_0 g4_9 v4_loc1 v4_loc2 _ _ _ (hI4_0) (hI4_9) ((iv_w b6 (by decide) (by decide))) ((iv_w b3 (by decide) (by decide))) ((show y4_0 1 = x0 1 from htp_4)) ((show y4_0 10 = x0 10 from hfp_4)) ((show y4_0 11 = x0 11 from hor_4)) ((show y4_0 14 = x0 14 from hirl_4)) (hP) (hD) hS (lv_sub hl [0, 1, 2] rfl)
        · have b7 : iv 1 1 v4_loc1 := iv_neLo c5 h4_3 ivk_0 (by decide) (by decide)
          refine lv_aload_n hx hb dX11_isAsNoted_16 rfl (lv_at hl 0 rfl) ?_
          refine lv_aload_n hx hb dX11_isAsNoted_17 rfl (lv_at hl 0 rfl) ?_
          refine va_get (D := (dC, dI)) (ci := 11) (v := .ref (ra 22)) (C := RX11) (T := TX11) (N := 61) hx hb hts hin11 hown hK hP 0 rfl rfl 44 (Nat.le_of_ble_eq_true rfl) hw_1 (fun _ h9 => h9) rfl dX11_isAsNoted_18 ?_
          refine lv_iload_n hx hb dX11_isAsNoted_21 rfl (lv_at hl 2 rfl) ?_
          refine va_iald hx hb hK hP 11 1 rfl rfl (iv_in b3 (by decide) (by decide)) dX11_isAsNoted_22 ?_
          refine iv_top (a := 0) (b := 31) (hq_notedPort _) (fun z8 b9 => ?_)
          refine lv_aload_n hx hb dX11_isAsNoted_23 rfl (lv_at hl 0 rfl) ?_
          refine va_get (D := (dC, dI)) (ci := 11) (v := .ref (ra 23)) (C := RX11) (T := TX11) (N := 61) hx hb hts hin11 hown hK hP 0 rfl rfl 45 (Nat.le_of_ble_eq_true rfl) hw_2 (fun _ h9 => h9) rfl dX11_isAsNoted_24 ?_
          refine lv_iload_n hx hb dX11_isAsNoted_27 rfl (lv_at hl 2 rfl) ?_
          refine va_iald hx hb hK hP 12 1 rfl rfl (iv_in b3 (by decide) (by decide)) dX11_isAsNoted_28 ?_
          refine iv_top (a := 0) (b := 2) (hq_notedGoal _) (fun z10 b11 => ?_)
          refine lv_aload_n hx hb dX11_isAsNoted_29 rfl (lv_at hl 0 rfl) ?_
          refine va_get (D := (dC, dI)) (ci := 11) (v := .ref (ra 24)) (C := RX11) (T := TX11) (N := 61) hx hb hts hin11 hown hK hP 0 rfl rfl 46 (Nat.le_of_ble_eq_true rfl) hw_3 (fun _ h9 => h9) rfl dX11_isAsNoted_30 ?_
          refine lv_iload_n hx hb dX11_isAsNoted_33 rfl (lv_at hl 2 rfl) ?_
          refine va_iald hx hb hK hP 13 1 rfl rfl (iv_in b3 (by decide) (by decide)) dX11_isAsNoted_34 ?_
          refine lv_topi (fun z12 _ => ?_)
          obtain ⟨hPc, hDc, hFc, hJn⟩ := cl_a (wc := [(m0, .inr (11, oX11 ra y4_0)), (ra 2, .inl (kI, 8, .inl q_told)), (ra 3, .inl (kI, 24, .inl q_kind)), (ra 4, .inl (kI, 24, .inl q_salt)), (ra 7, .inl (kI, 24, .inl q_late)), (ra 8, .inl (kI, 40, .inl q_from)), (ra 9, .inl (kI, 40, .inl q_to)), (ra 10, .inl (kI, 6, .inl q_goal)), (ra 11, .inl (kI, 1019, .inl g4_9)), (ra 14, .inl (kI, 12, .inl q_reach))]) (wr := [(ra 6, .inl (kI, 24, .inl q_mute)), (ra 22, .inl (kI, 8, .inl q_notedPort)), (ra 23, .inl (kI, 8, .inl q_notedGoal)), (ra 24, .inl (kI, 8, .inl q_notedHop)), (ra 25, .inl (kI, 8, .inl q_notedAddress))]) hP hD hS hA [0, 1, 2, 3, 5, 6, 7, 8, 9, 10] [4, 11, 12, 13, 14] rfl rfl (by decide +kernel)
          refine va_callv (va_runV (As := [.int z8, .int z10, .int z12]) (rest := []) ⟨hx, hb, hml, hown, hts⟩ (s11_walk l dC dI kB kI kJ kZ kC kS H.size m0 ra y4_0 q_told q_kind q_salt q_late q_from q_to q_goal g4_9 q_reach z8 z10 z12 (hI4_0) (hq_told) (hq_salt) (hq_from) (hq_to) (hq_goal) (hI4_9) (b9) (b11) (hLT)) (cwV 3 hts gX11_isAsNoted_X11_walk rfl rfl rfl (by decide +kernel) ⟨Nat.le_of_ble_eq_true rfl, Nat.le_of_ble_eq_true rfl⟩) ⟨fun a U g mk q => by obtain ⟨q0, q1, qP, qE, qD⟩ := q; exact ⟨q0, q1, qP, kE_call qE, qD⟩, va_recv hK hP (ci := 11) (q0 := 0) rfl rfl, fun U hU hW => ⟨rfl, by rw [hU], by rw [hU]; exact hPc, kE_warm hW hE, hDc.weaken (fun _ _ _ _ => trivial)⟩⟩ rfl rfl hl.1 rfl (lv_room (Nat.le_of_ble_eq_true rfl)) dX11_isAsNoted_35 ⟨Nat.le_of_ble_eq_true rfl, Nat.le_of_ble_eq_true rfl⟩) hS (fun q _ h => hFc q h) hFc (fun u t H locs ht hvm w14 hB hz1 hk1 hS => ?_)
          obtain ⟨y15, f16, hq17, hq18, hq19, hq20, hq21, hq22, hP1, hD1⟩ := hB
          try dsimp only at w14
          obtain ⟨hPa, hDa⟩ := hJn (w1 := [(m0, .inr (11, oX11 ra y15)), (ra 2, .inl (kI, 8, .inl q_told)), (ra 3, .inl (kI, 24, .inl q_kind)), (ra 4, .inl (kI, 24, .inl q_salt)), (ra 7, .inl (kI, 24, .inl q_late)), (ra 8, .inl (kI, 40, .inl q_from)), (ra 9, .inl (kI, 40, .inl q_to)), (ra 10, .inl (kI, 6, .inl q_goal)), (ra 11, .inl (kI, 1019, .inl f16)), (ra 14, .inl (kI, 12, .inl q_reach))]) hk1 ht hP1 hD1
          clear hP hD hPc hDc hFc hJn hP1 hD1 hk1
          have hP : va_P (dC, dI) vwCl [(ra 6, .inl (kI, 24, .inl q_mute)), (ra 22, .inl (kI, 8, .inl q_notedPort)), (ra 23, .inl (kI, 8, .inl q_notedGoal)), (ra 24, .inl (kI, 8, .inl q_notedHop)), (ra 25, .inl (kI, 8, .inl q_notedAddress)), (m0, .inr (11, oX11 ra y15)), (ra 2, .inl (kI, 8, .inl q_told)), (ra 3, .inl (kI, 24, .inl q_kind)), (ra 4, .inl (kI, 24, .inl q_salt)), (ra 7, .inl (kI, 24, .inl q_late)), (ra 8, .inl (kI, 40, .inl q_from)), (ra 9, .inl (kI, 40, .inl q_to)), (ra 10, .inl (kI, 6, .inl q_goal)), (ra 11, .inl (kI, 1019, .inl f16)), (ra 14, .inl (kI, 12, .inl q_reach))] H := hPa
          have hD : va_D A [(ra 6, .inl (kI, 24, .inl q_mute)), (ra 22, .inl (kI, 8, .inl q_notedPort)), (ra 23, .inl (kI, 8, .inl q_notedGoal)), (ra 24, .inl (kI, 8, .inl q_notedHop)), (ra 25, .inl (kI, 8, .inl q_notedAddress)), (m0, .inr (11, oX11 ra y15)), (ra 2, .inl (kI, 8, .inl q_told)), (ra 3, .inl (kI, 24, .inl q_kind)), (ra 4, .inl (kI, 24, .inl q_salt)), (ra 7, .inl (kI, 24, .inl q_late)), (ra 8, .inl (kI, 40, .inl q_from)), (ra 9, .inl (kI, 40, .inl q_to)), (ra 10, .inl (kI, 6, .inl q_goal)), (ra 11, .inl (kI, 1019, .inl f16)), (ra 14, .inl (kI, 12, .inl q_reach))] := hDa
          clear hPa hDa
          refine W.widen (k := 0) (n := 0) (Nat.le_of_ble_eq_true rfl) (Nat.le_of_ble_eq_true rfl) ?_
          refine lv_aload_n hx hb dX11_isAsNoted_38 rfl (lv_at hl 0 rfl) ?_
          refine lv_aload_n hx hb dX11_isAsNoted_39 rfl (lv_at hl 0 rfl) ?_
          refine va_get (D := (dC, dI)) (ci := 11) (v := .ref (ra 23)) (C := RX11) (T := TX11) (N := 61) hx hb hts hin11 hown hK hP 5 rfl rfl 45 (Nat.le_of_ble_eq_true rfl) hw_2 (fun _ h9 => h9) rfl dX11_isAsNoted_40 ?_
          refine lv_iload_n hx hb dX11_isAsNoted_43 rfl (lv_at hl 2 rfl) ?_
          refine va_iald hx hb hK hP 2 1 rfl rfl (iv_in b3 (by decide) (by decide)) dX11_isAsNoted_44 ?_
          refine iv_top (a := 0) (b := 2) (hq_notedGoal _) (fun z23 b24 => ?_)
          obtain ⟨hPc, hDc, hFc, hJn⟩ := cl_a (wc := [(m0, .inr (11, oX11 ra y15)), (ra 6, .inl (kI, 24, .inl q_mute)), (ra 10, .inl (kI, 6, .inl q_goal))]) (wr := [(ra 22, .inl (kI, 8, .inl q_notedPort)), (ra 23, .inl (kI, 8, .inl q_notedGoal)), (ra 24, .inl (kI, 8, .inl q_notedHop)), (ra 25, .inl (kI, 8, .inl q_notedAddress)), (ra 2, .inl (kI, 8, .inl q_told)), (ra 3, .inl (kI, 24, .inl q_kind)), (ra 4, .inl (kI, 24, .inl q_salt)), (ra 7, .inl (kI, 24, .inl q_late)), (ra 8, .inl (kI, 40, .inl q_from)), (ra 9, .inl (kI, 40, .inl q_to)), (ra 11, .inl (kI, 1019, .inl f16)), (ra 14, .inl (kI, 12, .inl q_reach))]) hP hD hS hA [5, 0, 12] [1, 2, 3, 4, 6, 7, 8, 9, 10, 11, 13, 14] rfl rfl (by decide +kernel)
          refine va_calli (va_runV (As := [.int z23]) (rest := []) ⟨hx, hb, hml, hown, hts⟩ (s11_answers l dC dI kB kI kJ kZ kC kS H.size m0 ra y15 q_mute q_goal z23 (hq17) (hq_goal) (b24)) (cwV 1 hts gX11_isAsNoted_X11_answers rfl rfl rfl (by decide +kernel) ⟨Nat.le_of_ble_eq_true rfl, Nat.le_of_ble_eq_true rfl⟩) ⟨fun a U g mk q => by obtain ⟨q0, q1, qP, qE, qD⟩ := q; exact ⟨q0, q1, qP, kE_call qE, qD⟩, va_recv hK hP (ci := 11) (q0 := 5) rfl rfl, fun U hU hW => ⟨rfl, by rw [hU], by rw [hU]; exact hPc, kE_warm hW hE, hDc.weaken (fun _ _ _ _ => trivial)⟩⟩ rfl rfl hl.1 rfl (lv_room (Nat.le_of_ble_eq_true rfl)) dX11_isAsNoted_45 ⟨Nat.le_of_ble_eq_true rfl, Nat.le_of_ble_eq_true rfl⟩) hS (fun q _ h => hFc q h) hFc (fun r25 u t H locs ht hvm w26 hB hz1 hk1 hS => ?_)
          obtain ⟨hP1, hD1⟩ := hB
          try dsimp only at w26
          obtain ⟨hPa, hDa⟩ := hJn (w1 := [(m0, .inr (11, oX11 ra y15)), (ra 6, .inl (kI, 24, .inl q_mute)), (ra 10, .inl (kI, 6, .inl q_goal))]) hk1 ht hP1 hD1
          clear hP hD hPc hDc hFc hJn hP1 hD1 hk1
          have hP : va_P (dC, dI) vwCl [(ra 22, .inl (kI, 8, .inl q_notedPort)), (ra 23, .inl (kI, 8, .inl q_notedGoal)), (ra 24, .inl (kI, 8, .inl q_notedHop)), (ra 25, .inl (kI, 8, .inl q_notedAddress)), (ra 2, .inl (kI, 8, .inl q_told)), (ra 3, .inl (kI, 24, .inl q_kind)), (ra 4, .inl (kI, 24, .inl q_salt)), (ra 7, .inl (kI, 24, .inl q_late)), (ra 8, .inl (kI, 40, .inl q_from)), (ra 9, .inl (kI, 40, .inl q_to)), (ra 11, .inl (kI, 1019, .inl f16)), (ra 14, .inl (kI, 12, .inl q_reach)), (m0, .inr (11, oX11 ra y15)), (ra 6, .inl (kI, 24, .inl q_mute)), (ra 10, .inl (kI, 6, .inl q_goal))] H := hPa
          have hD : va_D A [(ra 22, .inl (kI, 8, .inl q_notedPort)), (ra 23, .inl (kI, 8, .inl q_notedGoal)), (ra 24, .inl (kI, 8, .inl q_notedHop)), (ra 25, .inl (kI, 8, .inl q_notedAddress)), (ra 2, .inl (kI, 8, .inl q_told)), (ra 3, .inl (kI, 24, .inl q_kind)), (ra 4, .inl (kI, 24, .inl q_salt)), (ra 7, .inl (kI, 24, .inl q_late)), (ra 8, .inl (kI, 40, .inl q_from)), (ra 9, .inl (kI, 40, .inl q_to)), (ra 11, .inl (kI, 1019, .inl f16)), (ra 14, .inl (kI, 12, .inl q_reach)), (m0, .inr (11, oX11 ra y15)), (ra 6, .inl (kI, 24, .inl q_mute)), (ra 10, .inl (kI, 6, .inl q_goal))] := hDa
          clear hPa hDa
          refine W.widen (k := 0) (n := 0) (Nat.le_of_ble_eq_true rfl) (Nat.le_of_ble_eq_true rfl) ?_
          refine lv_if_eq (tgt := 68) hx hb dX11_isAsNoted_48 rfl (fun c27 => ?_) (fun c27 => ?_)
          · have b28 : iv 0 0 r25 := iv_eqL c27 ivk_0
            have hPD9 := cl_s (wc := [(m0, .inr (11, oX11 ra y15)), (ra 2, .inl (kI, 8, .inl q_told)), (ra 3, .inl (kI, 24, .inl q_kind)), (ra 4, .inl (kI, 24, .inl q_salt)), (ra 6, .inl (kI, 24, .inl q_mute)), (ra 7, .inl (kI, 24, .inl q_late)), (ra 8, .inl (kI, 40, .inl q_from)), (ra 9, .inl (kI, 40, .inl q_to)), (ra 10, .inl (kI, 6, .inl q_goal)), (ra 11, .inl (kI, 1019, .inl f16)), (ra 14, .inl (kI, 12, .inl q_reach)), (ra 22, .inl (kI, 8, .inl q_notedPort)), (ra 23, .inl (kI, 8, .inl q_notedGoal)), (ra 24, .inl (kI, 8, .inl q_notedHop)), (ra 25, .inl (kI, 8, .inl q_notedAddress))]) hP hD [12, 4, 5, 6, 13, 7, 8, 9, 14, 10, 11, 0, 1, 2, 3] rfl (by decide +kernel)
            exact hJ68 y15 f16 _ _ _ (hq17) (hq18) (b7) (b3) (b4) ((show y15 1 = x0 1 from hq19.trans (htp_4))) ((show y15 10 = x0 10 from hq20.trans (hfp_4))) ((show y15 11 = x0 11 from hq21.trans (hor_4))) ((show y15 14 = x0 14 from hq22.trans (hirl_4))) (hPD9.1) (hPD9.2) hS (lv_sub hl [0, 1, 2] rfl)
          · have b29 : iv 1 1 r25 := iv_neLo c27 w26.1 ivk_0 (by decide) (by decide)
            have b30 : iv 0 11 (y15 15) := (w26.2).resolve_left (iv_ne b29 ivk_0 (by decide))
            refine lv_aload_n hx hb dX11_isAsNoted_51 rfl (lv_at hl 0 rfl) ?_
            refine va_get (D := (dC, dI)) (ci := 11) (v := .int (y15 16)) (C := RX11) (T := TX11) (N := 61) hx hb hts hin11 hown hK hP 12 rfl rfl 31 (Nat.le_of_ble_eq_true rfl) hw_4 (fun _ h9 => h9) rfl dX11_isAsNoted_52 ?_
            refine lv_aload_n hx hb dX11_isAsNoted_55 rfl (lv_at hl 0 rfl) ?_
            refine va_get (D := (dC, dI)) (ci := 11) (v := .ref (ra 25)) (C := RX11) (T := TX11) (N := 61) hx hb hts hin11 hown hK hP 12 rfl rfl 47 (Nat.le_of_ble_eq_true rfl) hw_5 (fun _ h9 => h9) rfl dX11_isAsNoted_56 ?_
            refine lv_iload_n hx hb dX11_isAsNoted_59 rfl (lv_at hl 2 rfl) ?_
            refine va_iald hx hb hK hP 3 1 rfl rfl (iv_in b3 (by decide) (by decide)) dX11_isAsNoted_60 ?_
            refine lv_topi (fun z31 _ => ?_)
            refine lv_icmp_ne (tgt := 68) hx hb dX11_isAsNoted_61 rfl (fun c32 => ?_) (fun c32 => ?_)
            · have hPD9 := cl_s (wc := [(m0, .inr (11, oX11 ra y15)), (ra 2, .inl (kI, 8, .inl q_told)), (ra 3, .inl (kI, 24, .inl q_kind)), (ra 4, .inl (kI, 24, .inl q_salt)), (ra 6, .inl (kI, 24, .inl q_mute)), (ra 7, .inl (kI, 24, .inl q_late)), (ra 8, .inl (kI, 40, .inl q_from)), (ra 9, .inl (kI, 40, .inl q_to)), (ra 10, .inl (kI, 6, .inl q_goal)), (ra 11, .inl (kI, 1019, .inl f16)), (ra 14, .inl (kI, 12, .inl q_reach)), (ra 22, .inl (kI, 8, .inl q_notedPort)), (ra 23, .inl (kI, 8, .inl q_notedGoal)), (ra 24, .inl (kI, 8, .inl q_notedHop)), (ra 25, .inl (kI, 8, .inl q_notedAddress))]) hP hD [12, 4, 5, 6, 13, 7, 8, 9, 14, 10, 11, 0, 1, 2, 3] rfl (by decide +kernel)
              exact hJ68 y15 f16 _ _ _ (hq17) (hq18) (b7) (b3) (b4) ((show y15 1 = x0 1 from hq19.trans (htp_4))) ((show y15 10 = x0 10 from hq20.trans (hfp_4))) ((show y15 11 = x0 11 from hq21.trans (hor_4))) ((show y15 14 = x0 14 from hq22.trans (hirl_4))) (hPD9.1) (hPD9.2) hS (lv_sub hl [0, 1, 2] rfl)
            · have b33 : iv 0 20 z31 := iv_eqR c32 (hq17 16 : iv 0 20 (y15 16))
              refine lv_iconst (v := 1) hx hb dX11_isAsNoted_64 ic_1 ?_
              refine lv_goto (tgt := 69) hx hb dX11_isAsNoted_65 rfl ?_
              have hPD9 := cl_s (wc := [(m0, .inr (11, oX11 ra y15)), (ra 2, .inl (kI, 8, .inl q_told)), (ra 3, .inl (kI, 24, .inl q_kind)), (ra 4, .inl (kI, 24, .inl q_salt)), (ra 6, .inl (kI, 24, .inl q_mute)), (ra 7, .inl (kI, 24, .inl q_late)), (ra 8, .inl (kI, 40, .inl q_from)), (ra 9, .inl (kI, 40, .inl q_to)), (ra 10, .inl (kI, 6, .inl q_goal)), (ra 11, .inl (kI, 1019, .inl f16)), (ra 14, .inl (kI, 12, .inl q_reach)), (ra 22, .inl (kI, 8, .inl q_notedPort)), (ra 23, .inl (kI, 8, .inl q_notedGoal)), (ra 24, .inl (kI, 8, .inl q_notedHop)), (ra 25, .inl (kI, 8, .inl q_notedAddress))]) hP hD [12, 4, 5, 6, 13, 7, 8, 9, 14, 10, 11, 0, 1, 2, 3] rfl (by decide +kernel)
              exact hJ69 y15 f16 1 _ _ _ (hq17) (hq18) (b7) (b3) ((iv_w ivk_1 (by decide) (by decide))) (b4) ((show y15 1 = x0 1 from hq19.trans (htp_4))) ((show y15 10 = x0 10 from hq20.trans (hfp_4))) ((show y15 11 = x0 11 from hq21.trans (hor_4))) ((show y15 14 = x0 14 from hq22.trans (hirl_4))) (hPD9.1) (hPD9.2) hS (lv_sub hl [0, 1, 2] rfl)
  refine lv_iconst (v := 1) hx hb dX11_isAsNoted_0 ic_1 ?_
  refine lv_istore_n (lv' := [(1, .int 1), (0, .ref m0)]) hx hb dX11_isAsNoted_1 rfl hl (Nat.le_of_ble_eq_true rfl) rfl (fun ls hl => ?_)
  refine lv_iconst (v := 0) hx hb dX11_isAsNoted_2 ic_0 ?_
  refine lv_istore_n (lv' := [(2, .int 0), (1, .int 1), (0, .ref m0)]) hx hb dX11_isAsNoted_3 rfl hl (Nat.le_of_ble_eq_true rfl) rfl (fun ls hl => ?_)
  exact hJ4 _ x0 q_now 1 0 _ _ _ (Nat.lt_succ_self _) (hX) (hq_now) ((iv_w ivk_1 (by decide) (by decide))) ((iv_w ivk_0 (by decide) (by decide))) ((show x0 1 = x0 1 from rfl)) ((show x0 10 = x0 10 from rfl)) ((show x0 11 = x0 11 from rfl)) ((show x0 14 = x0 14 from rfl)) (hP) (hD) hS (lv_sub hl [2, 1, 0] rfl)
def rm_s11_tellFits : Room := { frames := 5, cells := 0, slots := 0, locals := 127 }
set_option maxHeartbeats 4000000 in
set_option maxRecDepth 100000 in
theorem s11_tellFits (l : Launch) (dC : Nat → ClassId) (dI : Nat → Nat → Nat) (kB kI kJ kZ kC kS : ClassId) (sz : Nat) (m0 : Nat) (ra : Nat → Nat) (x0 : Nat → Int32) (q_told : Nat → Int32) (q_kind : Nat → Int32) (q_salt : Nat → Int32) (q_mute : Nat → Int32) (q_late : Nat → Int32) (q_from : Nat → Int32) (q_to : Nat → Int32) (q_goal : Nat → Int32) (q_now : Nat → Int32) (q_reach : Nat → Int32) (q_notedPort : Nat → Int32) (q_notedGoal : Nat → Int32) (q_notedHop : Nat → Int32) (q_notedAddress : Nat → Int32) (q_fitting : Nat → Int32) (p0 : Int32) (hX : fI lX11 hX11 x0) (hq_told : fI lTold hTold q_told) (hq_salt : fI (fun _ => 0) (fun _ => 15) q_salt) (hq_from : fI (fun _ => 0) (fun _ => 11) q_from) (hq_to : fI (fun _ => 0) (fun _ => 11) q_to) (hq_goal : fI (fun _ => 0) (fun _ => 11) q_goal) (hq_now : fI lNow hNow q_now) (hq_notedPort : fI (fun _ => 0) (fun _ => 31) q_notedPort) (hq_notedGoal : fI (fun _ => 0) (fun _ => 2) q_notedGoal) (hp0 : iv 0 11 p0) (hLT : ∀ j : Nat, (j : Int) < (q_told 1).toInt → (q_from j).toInt < (q_to j).toInt) : Met l yX11_tellFits wsX11_tellFits rm_s11_tellFits (va_Pc [.ref m0, .int p0] (fun U => U.heap.size = sz ∧ va_P (dC, dI) vwCl [(m0, .inr (11, oX11 ra x0)), (ra 2, .inl (kI, 8, .inl q_told)), (ra 3, .inl (kI, 24, .inl q_kind)), (ra 4, .inl (kI, 24, .inl q_salt)), (ra 6, .inl (kI, 24, .inl q_mute)), (ra 7, .inl (kI, 24, .inl q_late)), (ra 8, .inl (kI, 40, .inl q_from)), (ra 9, .inl (kI, 40, .inl q_to)), (ra 10, .inl (kI, 6, .inl q_goal)), (ra 11, .inl (kI, 1019, .inl q_now)), (ra 14, .inl (kI, 12, .inl q_reach)), (ra 22, .inl (kI, 8, .inl q_notedPort)), (ra 23, .inl (kI, 8, .inl q_notedGoal)), (ra 24, .inl (kI, 8, .inl q_notedHop)), (ra 25, .inl (kI, 8, .inl q_notedAddress)), (ra 26, .inl (kZ, 64, .inl q_fitting))] U.heap ∧ kE dC dI kB kI kJ kZ kC kS U ∧ va_D (fun _ => True) [(m0, .inr (11, oX11 ra x0)), (ra 2, .inl (kI, 8, .inl q_told)), (ra 3, .inl (kI, 24, .inl q_kind)), (ra 4, .inl (kI, 24, .inl q_salt)), (ra 6, .inl (kI, 24, .inl q_mute)), (ra 7, .inl (kI, 24, .inl q_late)), (ra 8, .inl (kI, 40, .inl q_from)), (ra 9, .inl (kI, 40, .inl q_to)), (ra 10, .inl (kI, 6, .inl q_goal)), (ra 11, .inl (kI, 1019, .inl q_now)), (ra 14, .inl (kI, 12, .inl q_reach)), (ra 22, .inl (kI, 8, .inl q_notedPort)), (ra 23, .inl (kI, 8, .inl q_notedGoal)), (ra 24, .inl (kI, 8, .inl q_notedHop)), (ra 25, .inl (kI, 8, .inl q_notedAddress)), (ra 26, .inl (kZ, 64, .inl q_fitting))])) (va_Qv (fun (_ : Unit) => True) (fun _ t => ∃ (x0' : Nat → Int32) (q_now' : Nat → Int32) (q_fitting' : Nat → Int32), fI lX11 hX11 x0' ∧ iv (-1) (-1) (x0' 11) ∧ fI lNow hNow q_now' ∧ (x0' 1 = x0 1) ∧ (x0' 10 = x0 10) ∧ (x0' 14 = x0 14) ∧ va_P (dC, dI) vwCl [(m0, .inr (11, oX11 ra x0')), (ra 2, .inl (kI, 8, .inl q_told)), (ra 3, .inl (kI, 24, .inl q_kind)), (ra 4, .inl (kI, 24, .inl q_salt)), (ra 6, .inl (kI, 24, .inl q_mute)), (ra 7, .inl (kI, 24, .inl q_late)), (ra 8, .inl (kI, 40, .inl q_from)), (ra 9, .inl (kI, 40, .inl q_to)), (ra 10, .inl (kI, 6, .inl q_goal)), (ra 11, .inl (kI, 1019, .inl q_now')), (ra 14, .inl (kI, 12, .inl q_reach)), (ra 22, .inl (kI, 8, .inl q_notedPort)), (ra 23, .inl (kI, 8, .inl q_notedGoal)), (ra 24, .inl (kI, 8, .inl q_notedHop)), (ra 25, .inl (kI, 8, .inl q_notedAddress)), (ra 26, .inl (kZ, 64, .inl q_fitting'))] t.heap ∧ va_D (va_A [(m0, .inr (11, oX11 ra x0)), (ra 2, .inl (kI, 8, .inl q_told)), (ra 3, .inl (kI, 24, .inl q_kind)), (ra 4, .inl (kI, 24, .inl q_salt)), (ra 6, .inl (kI, 24, .inl q_mute)), (ra 7, .inl (kI, 24, .inl q_late)), (ra 8, .inl (kI, 40, .inl q_from)), (ra 9, .inl (kI, 40, .inl q_to)), (ra 10, .inl (kI, 6, .inl q_goal)), (ra 11, .inl (kI, 1019, .inl q_now)), (ra 14, .inl (kI, 12, .inl q_reach)), (ra 22, .inl (kI, 8, .inl q_notedPort)), (ra 23, .inl (kI, 8, .inl q_notedGoal)), (ra 24, .inl (kI, 8, .inl q_notedHop)), (ra 25, .inl (kI, 8, .inl q_notedAddress)), (ra 26, .inl (kZ, 64, .inl q_fitting))] sz) [(m0, .inr (11, oX11 ra x0')), (ra 2, .inl (kI, 8, .inl q_told)), (ra 3, .inl (kI, 24, .inl q_kind)), (ra 4, .inl (kI, 24, .inl q_salt)), (ra 6, .inl (kI, 24, .inl q_mute)), (ra 7, .inl (kI, 24, .inl q_late)), (ra 8, .inl (kI, 40, .inl q_from)), (ra 9, .inl (kI, 40, .inl q_to)), (ra 10, .inl (kI, 6, .inl q_goal)), (ra 11, .inl (kI, 1019, .inl q_now')), (ra 14, .inl (kI, 12, .inl q_reach)), (ra 22, .inl (kI, 8, .inl q_notedPort)), (ra 23, .inl (kI, 8, .inl q_notedGoal)), (ra 24, .inl (kI, 8, .inl q_notedHop)), (ra 25, .inl (kI, 8, .inl q_notedAddress)), (ra 26, .inl (kZ, 64, .inl q_fitting'))]) (va_A [(m0, .inr (11, oX11 ra x0)), (ra 2, .inl (kI, 8, .inl q_told)), (ra 3, .inl (kI, 24, .inl q_kind)), (ra 4, .inl (kI, 24, .inl q_salt)), (ra 6, .inl (kI, 24, .inl q_mute)), (ra 7, .inl (kI, 24, .inl q_late)), (ra 8, .inl (kI, 40, .inl q_from)), (ra 9, .inl (kI, 40, .inl q_to)), (ra 10, .inl (kI, 6, .inl q_goal)), (ra 11, .inl (kI, 1019, .inl q_now)), (ra 14, .inl (kI, 12, .inl q_reach)), (ra 22, .inl (kI, 8, .inl q_notedPort)), (ra 23, .inl (kI, 8, .inl q_notedGoal)), (ra 24, .inl (kI, 8, .inl q_notedHop)), (ra 25, .inl (kI, 8, .inl q_notedAddress)), (ra 26, .inl (kZ, 64, .inl q_fitting))] sz)) 0 0 (va_A [(m0, .inr (11, oX11 ra x0)), (ra 2, .inl (kI, 8, .inl q_told)), (ra 3, .inl (kI, 24, .inl q_kind)), (ra 4, .inl (kI, 24, .inl q_salt)), (ra 6, .inl (kI, 24, .inl q_mute)), (ra 7, .inl (kI, 24, .inl q_late)), (ra 8, .inl (kI, 40, .inl q_from)), (ra 9, .inl (kI, 40, .inl q_to)), (ra 10, .inl (kI, 6, .inl q_goal)), (ra 11, .inl (kI, 1019, .inl q_now)), (ra 14, .inl (kI, 12, .inl q_reach)), (ra 22, .inl (kI, 8, .inl q_notedPort)), (ra 23, .inl (kI, 8, .inl q_notedGoal)), (ra 24, .inl (kI, 8, .inl q_notedHop)), (ra 25, .inl (kI, 8, .inl q_notedAddress)), (ra 26, .inl (kZ, 64, .inl q_fitting))] sz) := by
  refine Met.ofW (cc := cX11_tellFits) (maxL := 3) (ret := none) (by decide) rfl ?_
  intro p e s m args0 below meth c s₁ B hml hv
  obtain ⟨hargs, hsz, hP, hE, hD0⟩ := hv
  have hx := B.exec
  have hb := B.bytes
  have hr := B.returns
  have hts := atoms_spec (ws := wsX11_tellFits) B.pre
  have hown : s.vm.findClass RX11 = some m.cls := findClass_of_methodNamed B.named
  have hlocks := B.notSynchronized
  have hK := hE.1
  have hin11 : ∀ w ∈ wsX110, w ∈ wsX11_tellFits := fun _ h9 => List.mem_cons_of_mem _ (List.mem_append_right _ h9)
  have hw_0 := hts (.fieldLink RX11 76 "PathProberModel" "otherRouter" "I") (List.mem_of_getElem? (i := 1) rfl)
  have hw_1 := hts (.fieldLink RX11 276 "PathProberModel" "otherKind" "I") (List.mem_of_getElem? (i := 2) rfl)
  have hw_2 := hts (.fieldLink RX11 279 "PathProberModel" "otherSalt" "I") (List.mem_of_getElem? (i := 3) rfl)
  have hw_3 := hts (.fieldLink RX11 115 "PathProberModel" "fitting" "[Z") (List.mem_of_getElem? (i := 4) rfl)
  subst hsz
  have hD := hD0.self (sz := s.heap.size)
  generalize hAe : va_A [(m0, .inr (11, oX11 ra x0)), (ra 2, .inl (kI, 8, .inl q_told)), (ra 3, .inl (kI, 24, .inl q_kind)), (ra 4, .inl (kI, 24, .inl q_salt)), (ra 6, .inl (kI, 24, .inl q_mute)), (ra 7, .inl (kI, 24, .inl q_late)), (ra 8, .inl (kI, 40, .inl q_from)), (ra 9, .inl (kI, 40, .inl q_to)), (ra 10, .inl (kI, 6, .inl q_goal)), (ra 11, .inl (kI, 1019, .inl q_now)), (ra 14, .inl (kI, 12, .inl q_reach)), (ra 22, .inl (kI, 8, .inl q_notedPort)), (ra 23, .inl (kI, 8, .inl q_notedGoal)), (ra 24, .inl (kI, 8, .inl q_notedHop)), (ra 25, .inl (kI, 8, .inl q_notedAddress)), (ra 26, .inl (kZ, 64, .inl q_fitting))] s.heap.size = A at hD ⊢
  have hA : ∀ q : Nat, s.heap.size ≤ q → A q := fun q h => by rw [← hAe]; exact Or.inr h
  have hS : va_S A s.heap s.heap [] := va_S.rf
  have hP : va_P (dC, dI) vwCl [(m0, .inr (11, oX11 ra x0)), (ra 2, .inl (kI, 8, .inl q_told)), (ra 3, .inl (kI, 24, .inl q_kind)), (ra 4, .inl (kI, 24, .inl q_salt)), (ra 6, .inl (kI, 24, .inl q_mute)), (ra 7, .inl (kI, 24, .inl q_late)), (ra 8, .inl (kI, 40, .inl q_from)), (ra 9, .inl (kI, 40, .inl q_to)), (ra 10, .inl (kI, 6, .inl q_goal)), (ra 11, .inl (kI, 1019, .inl q_now)), (ra 14, .inl (kI, 12, .inl q_reach)), (ra 22, .inl (kI, 8, .inl q_notedPort)), (ra 23, .inl (kI, 8, .inl q_notedGoal)), (ra 24, .inl (kI, 8, .inl q_notedHop)), (ra 25, .inl (kI, 8, .inl q_notedAddress)), (ra 26, .inl (kZ, 64, .inl q_fitting))] s.heap := hP
  have hl := lv_entry ([.ref m0, .int p0]) (n := 3) (Nat.le_of_ble_eq_true rfl)
  have hla : entryFrame m args0 3 = entryFrame m ([.ref m0, .int p0] : List Value).toArray 3 := by rw [hargs]
  rw [hla, lg_entry_eq]
  generalize (lg_sl ([.ref m0, .int p0]) ++ List.replicate (3 - (lg_sl ([.ref m0, .int p0])).length) Slot.unset).toArray = ls at hl ⊢
  have hl : lv_has ls 3 [(0, .ref m0), (1, .int p0)] := hl
  have hJ7 : ∀ (n : Nat) (y7_0 : Nat → Int32) (g7_9 : Nat → Int32) (g7_15 : Nat → Int32) (v7_loc2 : Int32) (H : Heap) (locs : List Loc) (ls : Array Slot), (64 - v7_loc2.toInt).toNat < n → fI lX11 hX11 y7_0 → fI lNow hNow g7_9 → iv 0 64 v7_loc2 → iv 0 11 (y7_0 11) → (y7_0 1 = x0 1) → (y7_0 10 = x0 10) → (y7_0 14 = x0 14) → va_P (dC, dI) vwCl [(m0, .inr (11, oX11 ra y7_0)), (ra 2, .inl (kI, 8, .inl q_told)), (ra 3, .inl (kI, 24, .inl q_kind)), (ra 4, .inl (kI, 24, .inl q_salt)), (ra 6, .inl (kI, 24, .inl q_mute)), (ra 7, .inl (kI, 24, .inl q_late)), (ra 8, .inl (kI, 40, .inl q_from)), (ra 9, .inl (kI, 40, .inl q_to)), (ra 10, .inl (kI, 6, .inl q_goal)), (ra 11, .inl (kI, 1019, .inl g7_9)), (ra 14, .inl (kI, 12, .inl q_reach)), (ra 22, .inl (kI, 8, .inl q_notedPort)), (ra 23, .inl (kI, 8, .inl q_notedGoal)), (ra 24, .inl (kI, 8, .inl q_notedHop)), (ra 25, .inl (kI, 8, .inl q_notedAddress)), (ra 26, .inl (kZ, 64, .inl g7_15))] H → va_D A [(m0, .inr (11, oX11 ra y7_0)), (ra 2, .inl (kI, 8, .inl q_told)), (ra 3, .inl (kI, 24, .inl q_kind)), (ra 4, .inl (kI, 24, .inl q_salt)), (ra 6, .inl (kI, 24, .inl q_mute)), (ra 7, .inl (kI, 24, .inl q_late)), (ra 8, .inl (kI, 40, .inl q_from)), (ra 9, .inl (kI, 40, .inl q_to)), (ra 10, .inl (kI, 6, .inl q_goal)), (ra 11, .inl (kI, 1019, .inl g7_9)), (ra 14, .inl (kI, 12, .inl q_reach)), (ra 22, .inl (kI, 8, .inl q_notedPort)), (ra 23, .inl (kI, 8, .inl q_notedGoal)), (ra 24, .inl (kI, 8, .inl q_notedHop)), (ra 25, .inl (kI, 8, .inl q_notedAddress)), (ra 26, .inl (kZ, 64, .inl g7_15))] → va_S A s.heap H locs → lv_has ls 3 [(0, .ref m0), (1, .int p0), (2, .int v7_loc2)] → W p l e (headSpec wsX11_tellFits rm_s11_tellFits).room s m args0 below meth c H locs (0) (0) (MQ below (va_Qv (fun (_ : Unit) => True) (fun _ t => ∃ (x0' : Nat → Int32) (q_now' : Nat → Int32) (q_fitting' : Nat → Int32), fI lX11 hX11 x0' ∧ iv (-1) (-1) (x0' 11) ∧ fI lNow hNow q_now' ∧ (x0' 1 = x0 1) ∧ (x0' 10 = x0 10) ∧ (x0' 14 = x0 14) ∧ va_P (dC, dI) vwCl [(m0, .inr (11, oX11 ra x0')), (ra 2, .inl (kI, 8, .inl q_told)), (ra 3, .inl (kI, 24, .inl q_kind)), (ra 4, .inl (kI, 24, .inl q_salt)), (ra 6, .inl (kI, 24, .inl q_mute)), (ra 7, .inl (kI, 24, .inl q_late)), (ra 8, .inl (kI, 40, .inl q_from)), (ra 9, .inl (kI, 40, .inl q_to)), (ra 10, .inl (kI, 6, .inl q_goal)), (ra 11, .inl (kI, 1019, .inl q_now')), (ra 14, .inl (kI, 12, .inl q_reach)), (ra 22, .inl (kI, 8, .inl q_notedPort)), (ra 23, .inl (kI, 8, .inl q_notedGoal)), (ra 24, .inl (kI, 8, .inl q_notedHop)), (ra 25, .inl (kI, 8, .inl q_notedAddress)), (ra 26, .inl (kZ, 64, .inl q_fitting'))] t.heap ∧ va_D A [(m0, .inr (11, oX11 ra x0')), (ra 2, .inl (kI, 8, .inl q_told)), (ra 3, .inl (kI, 24, .inl q_kind)), (ra 4, .inl (kI, 24, .inl q_salt)), (ra 6, .inl (kI, 24, .inl q_mute)), (ra 7, .inl (kI, 24, .inl q_late)), (ra 8, .inl (kI, 40, .inl q_from)), (ra 9, .inl (kI, 40, .inl q_to)), (ra 10, .inl (kI, 6, .inl q_goal)), (ra 11, .inl (kI, 1019, .inl q_now')), (ra 14, .inl (kI, 12, .inl q_reach)), (ra 22, .inl (kI, 8, .inl q_notedPort)), (ra 23, .inl (kI, 8, .inl q_notedGoal)), (ra 24, .inl (kI, 8, .inl q_notedHop)), (ra 25, .inl (kI, 8, .inl q_notedAddress)), (ra 26, .inl (kZ, 64, .inl q_fitting'))]) A) args0 s 0 0 A) (F0 m 7 ls []) := by
    intro n
    induction n with
    | zero => intro y7_0 g7_9 g7_15 v7_loc2 H locs ls hm7; exact absurd hm7 (Nat.not_lt_zero _)
    | succ n ih7 =>
      intro y7_0 g7_9 g7_15 v7_loc2 H locs ls hm7 hI7_0 hI7_9 h7_3 h7_4 htp_7 hfp_7 hirl_7 hP hD hS hl
      have hJ54 : ∀ (y54_0 : Nat → Int32) (g54_9 : Nat → Int32) (v54_stk0 : Int32) (H : Heap) (locs : List Loc) (ls : Array Slot), fI lX11 hX11 y54_0 → fI lNow hNow g54_9 → iv 0 63 v7_loc2 → iv 0 1 v54_stk0 → iv 0 11 (y54_0 11) → (y54_0 1 = x0 1) → (y54_0 10 = x0 10) → (y54_0 14 = x0 14) → va_P (dC, dI) vwCl [(m0, .inr (11, oX11 ra y54_0)), (ra 2, .inl (kI, 8, .inl q_told)), (ra 3, .inl (kI, 24, .inl q_kind)), (ra 4, .inl (kI, 24, .inl q_salt)), (ra 6, .inl (kI, 24, .inl q_mute)), (ra 7, .inl (kI, 24, .inl q_late)), (ra 8, .inl (kI, 40, .inl q_from)), (ra 9, .inl (kI, 40, .inl q_to)), (ra 10, .inl (kI, 6, .inl q_goal)), (ra 11, .inl (kI, 1019, .inl g54_9)), (ra 14, .inl (kI, 12, .inl q_reach)), (ra 22, .inl (kI, 8, .inl q_notedPort)), (ra 23, .inl (kI, 8, .inl q_notedGoal)), (ra 24, .inl (kI, 8, .inl q_notedHop)), (ra 25, .inl (kI, 8, .inl q_notedAddress)), (ra 26, .inl (kZ, 64, .inl g7_15))] H → va_D A [(m0, .inr (11, oX11 ra y54_0)), (ra 2, .inl (kI, 8, .inl q_told)), (ra 3, .inl (kI, 24, .inl q_kind)), (ra 4, .inl (kI, 24, .inl q_salt)), (ra 6, .inl (kI, 24, .inl q_mute)), (ra 7, .inl (kI, 24, .inl q_late)), (ra 8, .inl (kI, 40, .inl q_from)), (ra 9, .inl (kI, 40, .inl q_to)), (ra 10, .inl (kI, 6, .inl q_goal)), (ra 11, .inl (kI, 1019, .inl g54_9)), (ra 14, .inl (kI, 12, .inl q_reach)), (ra 22, .inl (kI, 8, .inl q_notedPort)), (ra 23, .inl (kI, 8, .inl q_notedGoal)), (ra 24, .inl (kI, 8, .inl q_notedHop)), (ra 25, .inl (kI, 8, .inl q_notedAddress)), (ra 26, .inl (kZ, 64, .inl g7_15))] → va_S A s.heap H locs → lv_has ls 3 [(0, .ref m0), (1, .int p0), (2, .int v7_loc2)] → W p l e (headSpec wsX11_tellFits rm_s11_tellFits).room s m args0 below meth c H locs (0) (0) (MQ below (va_Qv (fun (_ : Unit) => True) (fun _ t => ∃ (x0' : Nat → Int32) (q_now' : Nat → Int32) (q_fitting' : Nat → Int32), fI lX11 hX11 x0' ∧ iv (-1) (-1) (x0' 11) ∧ fI lNow hNow q_now' ∧ (x0' 1 = x0 1) ∧ (x0' 10 = x0 10) ∧ (x0' 14 = x0 14) ∧ va_P (dC, dI) vwCl [(m0, .inr (11, oX11 ra x0')), (ra 2, .inl (kI, 8, .inl q_told)), (ra 3, .inl (kI, 24, .inl q_kind)), (ra 4, .inl (kI, 24, .inl q_salt)), (ra 6, .inl (kI, 24, .inl q_mute)), (ra 7, .inl (kI, 24, .inl q_late)), (ra 8, .inl (kI, 40, .inl q_from)), (ra 9, .inl (kI, 40, .inl q_to)), (ra 10, .inl (kI, 6, .inl q_goal)), (ra 11, .inl (kI, 1019, .inl q_now')), (ra 14, .inl (kI, 12, .inl q_reach)), (ra 22, .inl (kI, 8, .inl q_notedPort)), (ra 23, .inl (kI, 8, .inl q_notedGoal)), (ra 24, .inl (kI, 8, .inl q_notedHop)), (ra 25, .inl (kI, 8, .inl q_notedAddress)), (ra 26, .inl (kZ, 64, .inl q_fitting'))] t.heap ∧ va_D A [(m0, .inr (11, oX11 ra x0')), (ra 2, .inl (kI, 8, .inl q_told)), (ra 3, .inl (kI, 24, .inl q_kind)), (ra 4, .inl (kI, 24, .inl q_salt)), (ra 6, .inl (kI, 24, .inl q_mute)), (ra 7, .inl (kI, 24, .inl q_late)), (ra 8, .inl (kI, 40, .inl q_from)), (ra 9, .inl (kI, 40, .inl q_to)), (ra 10, .inl (kI, 6, .inl q_goal)), (ra 11, .inl (kI, 1019, .inl q_now')), (ra 14, .inl (kI, 12, .inl q_reach)), (ra 22, .inl (kI, 8, .inl q_notedPort)), (ra 23, .inl (kI, 8, .inl q_notedGoal)), (ra 24, .inl (kI, 8, .inl q_notedHop)), (ra 25, .inl (kI, 8, .inl q_notedAddress)), (ra 26, .inl (kZ, 64, .inl q_fitting'))]) A) args0 s 0 0 A) (F0 m 54 ls [.int v54_stk0, .int v7_loc2, .ref (ra 26)]) := by
        intro y54_0 g54_9 v54_stk0 H locs ls hI54_0 hI54_9 h54_3 h54_4 h54_5 htp_54 hfp_54 hirl_54 hP hD hS hl
        refine va_zast hx hb hK hP hD hS 15 3 rfl rfl (iv_in h54_3 (by decide) (by decide)) dX11_tellFits_54 (fun H locs hPa hDa hS => ?_)
        clear hP hD
        have hP : va_P (dC, dI) vwCl [(m0, .inr (11, oX11 ra y54_0)), (ra 2, .inl (kI, 8, .inl q_told)), (ra 3, .inl (kI, 24, .inl q_kind)), (ra 4, .inl (kI, 24, .inl q_salt)), (ra 6, .inl (kI, 24, .inl q_mute)), (ra 7, .inl (kI, 24, .inl q_late)), (ra 8, .inl (kI, 40, .inl q_from)), (ra 9, .inl (kI, 40, .inl q_to)), (ra 10, .inl (kI, 6, .inl q_goal)), (ra 11, .inl (kI, 1019, .inl g54_9)), (ra 14, .inl (kI, 12, .inl q_reach)), (ra 22, .inl (kI, 8, .inl q_notedPort)), (ra 23, .inl (kI, 8, .inl q_notedGoal)), (ra 24, .inl (kI, 8, .inl q_notedHop)), (ra 25, .inl (kI, 8, .inl q_notedAddress)), (ra 26, .inl (kZ, 64, .inl (upd g7_15 v7_loc2.toNatClampNeg (vp_nar .boolean v54_stk0))))] H := hPa
        have hD : va_D A [(m0, .inr (11, oX11 ra y54_0)), (ra 2, .inl (kI, 8, .inl q_told)), (ra 3, .inl (kI, 24, .inl q_kind)), (ra 4, .inl (kI, 24, .inl q_salt)), (ra 6, .inl (kI, 24, .inl q_mute)), (ra 7, .inl (kI, 24, .inl q_late)), (ra 8, .inl (kI, 40, .inl q_from)), (ra 9, .inl (kI, 40, .inl q_to)), (ra 10, .inl (kI, 6, .inl q_goal)), (ra 11, .inl (kI, 1019, .inl g54_9)), (ra 14, .inl (kI, 12, .inl q_reach)), (ra 22, .inl (kI, 8, .inl q_notedPort)), (ra 23, .inl (kI, 8, .inl q_notedGoal)), (ra 24, .inl (kI, 8, .inl q_notedHop)), (ra 25, .inl (kI, 8, .inl q_notedAddress)), (ra 26, .inl (kZ, 64, .inl (upd g7_15 v7_loc2.toNatClampNeg (vp_nar .boolean v54_stk0))))] := hDa
        clear hPa hDa
        generalize (upd g7_15 v7_loc2.toNatClampNeg (vp_nar .boolean v54_stk0)) = f1 at hP hD
        refine lv_iinc (v := v7_loc2 + Int32.ofInt 1) (lv' := [(2, .int (v7_loc2 + Int32.ofInt 1)), (0, .ref m0), (1, .int p0)]) hx hb dX11_tellFits_55 hl (k := 2) rfl (rfl) (Nat.le_of_ble_eq_true rfl) rfl (fun ls hl => ?_)
        have b2 : iv 1 64 (v7_loc2 + Int32.ofInt 1) := iv_add h54_3 ivo_1 (by decide) (by decide) (by decide) (by decide)
        refine lv_goto (tgt := 7) hx hb dX11_tellFits_58 rfl ?_
        exact ih7 y54_0 g54_9 f1 (v7_loc2 + Int32.ofInt 1) _ _ _ (ms_up (c := 1) (d := 0) h54_3 hm7 (by decide) (iv_inc 1 h54_3 (by decide) (by decide) (by decide) (by decide)) (by decide) rfl) (hI54_0) (hI54_9) ((iv_w b2 (by decide) (by decide))) (h54_5) ((show y54_0 1 = x0 1 from htp_54)) ((show y54_0 10 = x0 10 from hfp_54)) ((show y54_0 14 = x0 14 from hirl_54)) (hP) (hD) hS (lv_sub hl [1, 2, 0] rfl)
      have hJ53 : ∀ (y53_0 : Nat → Int32) (g53_9 : Nat → Int32) (H : Heap) (locs : List Loc) (ls : Array Slot), fI lX11 hX11 y53_0 → fI lNow hNow g53_9 → iv 0 63 v7_loc2 → iv 0 11 (y53_0 11) → (y53_0 1 = x0 1) → (y53_0 10 = x0 10) → (y53_0 14 = x0 14) → va_P (dC, dI) vwCl [(m0, .inr (11, oX11 ra y53_0)), (ra 2, .inl (kI, 8, .inl q_told)), (ra 3, .inl (kI, 24, .inl q_kind)), (ra 4, .inl (kI, 24, .inl q_salt)), (ra 6, .inl (kI, 24, .inl q_mute)), (ra 7, .inl (kI, 24, .inl q_late)), (ra 8, .inl (kI, 40, .inl q_from)), (ra 9, .inl (kI, 40, .inl q_to)), (ra 10, .inl (kI, 6, .inl q_goal)), (ra 11, .inl (kI, 1019, .inl g53_9)), (ra 14, .inl (kI, 12, .inl q_reach)), (ra 22, .inl (kI, 8, .inl q_notedPort)), (ra 23, .inl (kI, 8, .inl q_notedGoal)), (ra 24, .inl (kI, 8, .inl q_notedHop)), (ra 25, .inl (kI, 8, .inl q_notedAddress)), (ra 26, .inl (kZ, 64, .inl g7_15))] H → va_D A [(m0, .inr (11, oX11 ra y53_0)), (ra 2, .inl (kI, 8, .inl q_told)), (ra 3, .inl (kI, 24, .inl q_kind)), (ra 4, .inl (kI, 24, .inl q_salt)), (ra 6, .inl (kI, 24, .inl q_mute)), (ra 7, .inl (kI, 24, .inl q_late)), (ra 8, .inl (kI, 40, .inl q_from)), (ra 9, .inl (kI, 40, .inl q_to)), (ra 10, .inl (kI, 6, .inl q_goal)), (ra 11, .inl (kI, 1019, .inl g53_9)), (ra 14, .inl (kI, 12, .inl q_reach)), (ra 22, .inl (kI, 8, .inl q_notedPort)), (ra 23, .inl (kI, 8, .inl q_notedGoal)), (ra 24, .inl (kI, 8, .inl q_notedHop)), (ra 25, .inl (kI, 8, .inl q_notedAddress)), (ra 26, .inl (kZ, 64, .inl g7_15))] → va_S A s.heap H locs → lv_has ls 3 [(0, .ref m0), (1, .int p0), (2, .int v7_loc2)] → W p l e (headSpec wsX11_tellFits rm_s11_tellFits).room s m args0 below meth c H locs (0) (0) (MQ below (va_Qv (fun (_ : Unit) => True) (fun _ t => ∃ (x0' : Nat → Int32) (q_now' : Nat → Int32) (q_fitting' : Nat → Int32), fI lX11 hX11 x0' ∧ iv (-1) (-1) (x0' 11) ∧ fI lNow hNow q_now' ∧ (x0' 1 = x0 1) ∧ (x0' 10 = x0 10) ∧ (x0' 14 = x0 14) ∧ va_P (dC, dI) vwCl [(m0, .inr (11, oX11 ra x0')), (ra 2, .inl (kI, 8, .inl q_told)), (ra 3, .inl (kI, 24, .inl q_kind)), (ra 4, .inl (kI, 24, .inl q_salt)), (ra 6, .inl (kI, 24, .inl q_mute)), (ra 7, .inl (kI, 24, .inl q_late)), (ra 8, .inl (kI, 40, .inl q_from)), (ra 9, .inl (kI, 40, .inl q_to)), (ra 10, .inl (kI, 6, .inl q_goal)), (ra 11, .inl (kI, 1019, .inl q_now')), (ra 14, .inl (kI, 12, .inl q_reach)), (ra 22, .inl (kI, 8, .inl q_notedPort)), (ra 23, .inl (kI, 8, .inl q_notedGoal)), (ra 24, .inl (kI, 8, .inl q_notedHop)), (ra 25, .inl (kI, 8, .inl q_notedAddress)), (ra 26, .inl (kZ, 64, .inl q_fitting'))] t.heap ∧ va_D A [(m0, .inr (11, oX11 ra x0')), (ra 2, .inl (kI, 8, .inl q_told)), (ra 3, .inl (kI, 24, .inl q_kind)), (ra 4, .inl (kI, 24, .inl q_salt)), (ra 6, .inl (kI, 24, .inl q_mute)), (ra 7, .inl (kI, 24, .inl q_late)), (ra 8, .inl (kI, 40, .inl q_from)), (ra 9, .inl (kI, 40, .inl q_to)), (ra 10, .inl (kI, 6, .inl q_goal)), (ra 11, .inl (kI, 1019, .inl q_now')), (ra 14, .inl (kI, 12, .inl q_reach)), (ra 22, .inl (kI, 8, .inl q_notedPort)), (ra 23, .inl (kI, 8, .inl q_notedGoal)), (ra 24, .inl (kI, 8, .inl q_notedHop)), (ra 25, .inl (kI, 8, .inl q_notedAddress)), (ra 26, .inl (kZ, 64, .inl q_fitting'))]) A) args0 s 0 0 A) (F0 m 53 ls [.int v7_loc2, .ref (ra 26)]) := by
        intro y53_0 g53_9 H locs ls hI53_0 hI53_9 h53_3 h53_4 htp_53 hfp_53 hirl_53 hP hD hS hl
        refine lv_iconst (v := 0) hx hb dX11_tellFits_53 ic_0 ?_
        exact hJ54 y53_0 g53_9 0 _ _ _ (hI53_0) (hI53_9) (h53_3) ((iv_w ivk_0 (by decide) (by decide))) (h53_4) ((show y53_0 1 = x0 1 from htp_53)) ((show y53_0 10 = x0 10 from hfp_53)) ((show y53_0 14 = x0 14 from hirl_53)) (hP) (hD) hS (lv_sub hl [0, 1, 2] rfl)
      refine lv_iload_n hx hb dX11_tellFits_7 rfl (lv_at hl 2 rfl) ?_
      refine lv_bipush (v := 64) hx hb dX11_tellFits_8 bp_64 ?_
      refine lv_icmp_ge (tgt := 61) hx hb dX11_tellFits_10 rfl (fun c3 => ?_) (fun c3 => ?_)
      · have b4 : iv 64 64 v7_loc2 := iv_leR c3 ivk_64 h7_3 (by decide) (by decide)
        refine lv_aload_n hx hb dX11_tellFits_61 rfl (lv_at hl 0 rfl) ?_
        refine lv_iconst (v := (-1)) hx hb dX11_tellFits_62 ic_m1 ?_
        refine va_put (D := (dC, dI)) (ci := 11) (v := .int (-1)) (ty := .int) (C := RX11) (T := TX11) (N := 61) hx hb hts hin11 tyX11 tyX11_ok nmX11 hown hK hP hD hS 0 rfl rfl 26 (by decide) hw_0 (fun _ h9 => h9) rfl (by decide +kernel) rfl rfl (Nat.le_of_ble_eq_true rfl) dX11_tellFits_63 (fun H locs hPa hDa hS => ?_)
        clear hP hD
        have hP : va_P (dC, dI) vwCl [(m0, .inr (11, oX11 ra (upd y7_0 11 (-1)))), (ra 2, .inl (kI, 8, .inl q_told)), (ra 3, .inl (kI, 24, .inl q_kind)), (ra 4, .inl (kI, 24, .inl q_salt)), (ra 6, .inl (kI, 24, .inl q_mute)), (ra 7, .inl (kI, 24, .inl q_late)), (ra 8, .inl (kI, 40, .inl q_from)), (ra 9, .inl (kI, 40, .inl q_to)), (ra 10, .inl (kI, 6, .inl q_goal)), (ra 11, .inl (kI, 1019, .inl g7_9)), (ra 14, .inl (kI, 12, .inl q_reach)), (ra 22, .inl (kI, 8, .inl q_notedPort)), (ra 23, .inl (kI, 8, .inl q_notedGoal)), (ra 24, .inl (kI, 8, .inl q_notedHop)), (ra 25, .inl (kI, 8, .inl q_notedAddress)), (ra 26, .inl (kZ, 64, .inl g7_15))] H := hPa
        have hD : va_D A [(m0, .inr (11, oX11 ra (upd y7_0 11 (-1)))), (ra 2, .inl (kI, 8, .inl q_told)), (ra 3, .inl (kI, 24, .inl q_kind)), (ra 4, .inl (kI, 24, .inl q_salt)), (ra 6, .inl (kI, 24, .inl q_mute)), (ra 7, .inl (kI, 24, .inl q_late)), (ra 8, .inl (kI, 40, .inl q_from)), (ra 9, .inl (kI, 40, .inl q_to)), (ra 10, .inl (kI, 6, .inl q_goal)), (ra 11, .inl (kI, 1019, .inl g7_9)), (ra 14, .inl (kI, 12, .inl q_reach)), (ra 22, .inl (kI, 8, .inl q_notedPort)), (ra 23, .inl (kI, 8, .inl q_notedGoal)), (ra 24, .inl (kI, 8, .inl q_notedHop)), (ra 25, .inl (kI, 8, .inl q_notedAddress)), (ra 26, .inl (kZ, 64, .inl g7_15))] := hDa
        clear hPa hDa
        have hP9 := hP
        have hD9 := hD
        exact W.vret hx hb hr (fun t ht hW => ⟨⟨(), rfl, trivial, upd y7_0 11 (-1), g7_9, g7_15, (fI_u hI7_0 (k := 11) ((iv_w ivk_m1 (by decide) (by decide)))), ivk_m1, hI7_9, (show y7_0 1 = x0 1 from htp_7), (show y7_0 10 = x0 10 from hfp_7), (show y7_0 14 = x0 14 from hirl_7), by rw [ht]; exact hP9, hD9⟩, hS.F ht⟩) hS.2.2 dX11_tellFits_66
      · have b5 : iv 0 63 v7_loc2 := iv_ltL (Int32.not_le.mp c3) h7_3 ivk_64 (by decide) (by decide)
        refine lv_aload_n hx hb dX11_tellFits_13 rfl (lv_at hl 0 rfl) ?_
        refine lv_iload_n hx hb dX11_tellFits_14 rfl (lv_at hl 2 rfl) ?_
        refine lv_bipush (v := 16) hx hb dX11_tellFits_15 bp_16 ?_
        refine lv_idiv hx hb dX11_tellFits_17 (by decide) ?_
        refine iv_top (a := 0) (b := 63) (iv_div b5 ivk_16 (by decide) (by decide) (by decide) (by decide)) (fun z6 b7 => ?_)
        refine va_put (D := (dC, dI)) (ci := 11) (v := .int z6) (ty := .int) (C := RX11) (T := TX11) (N := 61) hx hb hts hin11 tyX11 tyX11_ok nmX11 hown hK hP hD hS 0 rfl rfl 27 (by decide) hw_1 (fun _ h9 => h9) rfl (by decide +kernel) rfl rfl (Nat.le_of_ble_eq_true rfl) dX11_tellFits_18 (fun H locs hPa hDa hS => ?_)
        clear hP hD
        have hP : va_P (dC, dI) vwCl [(m0, .inr (11, oX11 ra (upd y7_0 12 z6))), (ra 2, .inl (kI, 8, .inl q_told)), (ra 3, .inl (kI, 24, .inl q_kind)), (ra 4, .inl (kI, 24, .inl q_salt)), (ra 6, .inl (kI, 24, .inl q_mute)), (ra 7, .inl (kI, 24, .inl q_late)), (ra 8, .inl (kI, 40, .inl q_from)), (ra 9, .inl (kI, 40, .inl q_to)), (ra 10, .inl (kI, 6, .inl q_goal)), (ra 11, .inl (kI, 1019, .inl g7_9)), (ra 14, .inl (kI, 12, .inl q_reach)), (ra 22, .inl (kI, 8, .inl q_notedPort)), (ra 23, .inl (kI, 8, .inl q_notedGoal)), (ra 24, .inl (kI, 8, .inl q_notedHop)), (ra 25, .inl (kI, 8, .inl q_notedAddress)), (ra 26, .inl (kZ, 64, .inl g7_15))] H := hPa
        have hD : va_D A [(m0, .inr (11, oX11 ra (upd y7_0 12 z6))), (ra 2, .inl (kI, 8, .inl q_told)), (ra 3, .inl (kI, 24, .inl q_kind)), (ra 4, .inl (kI, 24, .inl q_salt)), (ra 6, .inl (kI, 24, .inl q_mute)), (ra 7, .inl (kI, 24, .inl q_late)), (ra 8, .inl (kI, 40, .inl q_from)), (ra 9, .inl (kI, 40, .inl q_to)), (ra 10, .inl (kI, 6, .inl q_goal)), (ra 11, .inl (kI, 1019, .inl g7_9)), (ra 14, .inl (kI, 12, .inl q_reach)), (ra 22, .inl (kI, 8, .inl q_notedPort)), (ra 23, .inl (kI, 8, .inl q_notedGoal)), (ra 24, .inl (kI, 8, .inl q_notedHop)), (ra 25, .inl (kI, 8, .inl q_notedAddress)), (ra 26, .inl (kZ, 64, .inl g7_15))] := hDa
        clear hPa hDa
        refine lv_aload_n hx hb dX11_tellFits_21 rfl (lv_at hl 0 rfl) ?_
        refine lv_iload_n hx hb dX11_tellFits_22 rfl (lv_at hl 2 rfl) ?_
        refine lv_bipush (v := 16) hx hb dX11_tellFits_23 bp_16 ?_
        refine lv_irem hx hb dX11_tellFits_25 (by decide) ?_
        refine iv_top (a := 0) (b := 15) (iv_rem b5 ivk_16 (by decide) (by decide) (by decide) (by decide)) (fun z8 b9 => ?_)
        refine va_put (D := (dC, dI)) (ci := 11) (v := .int z8) (ty := .int) (C := RX11) (T := TX11) (N := 61) hx hb hts hin11 tyX11 tyX11_ok nmX11 hown hK hP hD hS 0 rfl rfl 28 (by decide) hw_2 (fun _ h9 => h9) rfl (by decide +kernel) rfl rfl (Nat.le_of_ble_eq_true rfl) dX11_tellFits_26 (fun H locs hPa hDa hS => ?_)
        clear hP hD
        have hP : va_P (dC, dI) vwCl [(m0, .inr (11, oX11 ra (upd (upd y7_0 12 z6) 13 z8))), (ra 2, .inl (kI, 8, .inl q_told)), (ra 3, .inl (kI, 24, .inl q_kind)), (ra 4, .inl (kI, 24, .inl q_salt)), (ra 6, .inl (kI, 24, .inl q_mute)), (ra 7, .inl (kI, 24, .inl q_late)), (ra 8, .inl (kI, 40, .inl q_from)), (ra 9, .inl (kI, 40, .inl q_to)), (ra 10, .inl (kI, 6, .inl q_goal)), (ra 11, .inl (kI, 1019, .inl g7_9)), (ra 14, .inl (kI, 12, .inl q_reach)), (ra 22, .inl (kI, 8, .inl q_notedPort)), (ra 23, .inl (kI, 8, .inl q_notedGoal)), (ra 24, .inl (kI, 8, .inl q_notedHop)), (ra 25, .inl (kI, 8, .inl q_notedAddress)), (ra 26, .inl (kZ, 64, .inl g7_15))] H := hPa
        have hD : va_D A [(m0, .inr (11, oX11 ra (upd (upd y7_0 12 z6) 13 z8))), (ra 2, .inl (kI, 8, .inl q_told)), (ra 3, .inl (kI, 24, .inl q_kind)), (ra 4, .inl (kI, 24, .inl q_salt)), (ra 6, .inl (kI, 24, .inl q_mute)), (ra 7, .inl (kI, 24, .inl q_late)), (ra 8, .inl (kI, 40, .inl q_from)), (ra 9, .inl (kI, 40, .inl q_to)), (ra 10, .inl (kI, 6, .inl q_goal)), (ra 11, .inl (kI, 1019, .inl g7_9)), (ra 14, .inl (kI, 12, .inl q_reach)), (ra 22, .inl (kI, 8, .inl q_notedPort)), (ra 23, .inl (kI, 8, .inl q_notedGoal)), (ra 24, .inl (kI, 8, .inl q_notedHop)), (ra 25, .inl (kI, 8, .inl q_notedAddress)), (ra 26, .inl (kZ, 64, .inl g7_15))] := hDa
        clear hPa hDa
        refine lv_aload_n hx hb dX11_tellFits_29 rfl (lv_at hl 0 rfl) ?_
        refine va_get (D := (dC, dI)) (ci := 11) (v := .ref (ra 26)) (C := RX11) (T := TX11) (N := 61) hx hb hts hin11 hown hK hP 0 rfl rfl 48 (Nat.le_of_ble_eq_true rfl) hw_3 (fun _ h9 => h9) rfl dX11_tellFits_30 ?_
        refine lv_iload_n hx hb dX11_tellFits_33 rfl (lv_at hl 2 rfl) ?_
        refine lv_aload_n hx hb dX11_tellFits_34 rfl (lv_at hl 0 rfl) ?_
        refine va_get (D := (dC, dI)) (ci := 11) (v := .int z6) (C := RX11) (T := TX11) (N := 61) hx hb hts hin11 hown hK hP 0 rfl rfl 27 (Nat.le_of_ble_eq_true rfl) hw_1 (fun _ h9 => h9) rfl dX11_tellFits_35 ?_
        refine lv_iconst (v := 2) hx hb dX11_tellFits_38 ic_2 ?_
        refine lv_icmp_eq (tgt := 53) hx hb dX11_tellFits_39 rfl (fun c10 => ?_) (fun c10 => ?_)
        · have b11 : iv 2 2 z6 := iv_eqL c10 ivk_2
          exact hJ53 (upd (upd y7_0 12 z6) 13 z8) g7_9 _ _ _ ((fI_u (fI_u hI7_0 (k := 12) ((iv_w b11 (by decide) (by decide)))) (k := 13) (b9))) (hI7_9) (b5) (h7_4) ((show y7_0 1 = x0 1 from htp_7)) ((show y7_0 10 = x0 10 from hfp_7)) ((show y7_0 14 = x0 14 from hirl_7)) (hP) (hD) hS (lv_sub hl [0, 1, 2] rfl)
        · refine lv_aload_n hx hb dX11_tellFits_42 rfl (lv_at hl 0 rfl) ?_
          obtain ⟨hPc, hDc, hFc, hJn⟩ := cl_a (wc := [(m0, .inr (11, oX11 ra (upd (upd y7_0 12 z6) 13 z8))), (ra 2, .inl (kI, 8, .inl q_told)), (ra 3, .inl (kI, 24, .inl q_kind)), (ra 4, .inl (kI, 24, .inl q_salt)), (ra 6, .inl (kI, 24, .inl q_mute)), (ra 7, .inl (kI, 24, .inl q_late)), (ra 8, .inl (kI, 40, .inl q_from)), (ra 9, .inl (kI, 40, .inl q_to)), (ra 10, .inl (kI, 6, .inl q_goal)), (ra 11, .inl (kI, 1019, .inl g7_9)), (ra 14, .inl (kI, 12, .inl q_reach)), (ra 22, .inl (kI, 8, .inl q_notedPort)), (ra 23, .inl (kI, 8, .inl q_notedGoal)), (ra 24, .inl (kI, 8, .inl q_notedHop)), (ra 25, .inl (kI, 8, .inl q_notedAddress))]) (wr := [(ra 26, .inl (kZ, 64, .inl g7_15))]) hP hD hS hA [0, 1, 2, 3, 4, 5, 6, 7, 8, 9, 10, 11, 12, 13, 14] [15] rfl rfl (by decide +kernel)
          refine va_calli (va_runV (As := []) (rest := [.int v7_loc2, .ref (ra 26)]) ⟨hx, hb, hml, hown, hts⟩ (s11_isAsNoted l dC dI kB kI kJ kZ kC kS H.size m0 ra (upd (upd y7_0 12 z6) 13 z8) q_told q_kind q_salt q_mute q_late q_from q_to q_goal g7_9 q_reach q_notedPort q_notedGoal q_notedHop q_notedAddress ((fI_u (fI_u hI7_0 (k := 12) ((iv_w b7 (by decide) (by decide)))) (k := 13) (b9))) (hq_told) (hq_salt) (hq_from) (hq_to) (hq_goal) (hI7_9) (hq_notedPort) (hq_notedGoal) (hLT)) (cwV 0 hts gX11_tellFits_X11_isAsNoted rfl rfl rfl (by decide +kernel) ⟨Nat.le_of_ble_eq_true rfl, Nat.le_of_ble_eq_true rfl⟩) ⟨fun a U g mk q => by obtain ⟨q0, q1, qP, qE, qD⟩ := q; exact ⟨q0, q1, qP, kE_call qE, qD⟩, va_recv hK hP (ci := 11) (q0 := 0) rfl rfl, fun U hU hW => ⟨rfl, by rw [hU], by rw [hU]; exact hPc, kE_warm hW hE, hDc.weaken (fun _ _ _ _ => trivial)⟩⟩ rfl rfl hl.1 rfl (lv_room (Nat.le_of_ble_eq_true rfl)) dX11_tellFits_43 ⟨Nat.le_of_ble_eq_true rfl, Nat.le_of_ble_eq_true rfl⟩) hS (fun q _ h => hFc q h) hFc (fun r12 u t H locs ht hvm w13 hB hz1 hk1 hS => ?_)
          obtain ⟨y14, f15, hq16, hq17, hq18, hq19, hq20, hq21, hP1, hD1⟩ := hB
          try dsimp only at w13
          obtain ⟨hPa, hDa⟩ := hJn (w1 := [(m0, .inr (11, oX11 ra y14)), (ra 2, .inl (kI, 8, .inl q_told)), (ra 3, .inl (kI, 24, .inl q_kind)), (ra 4, .inl (kI, 24, .inl q_salt)), (ra 6, .inl (kI, 24, .inl q_mute)), (ra 7, .inl (kI, 24, .inl q_late)), (ra 8, .inl (kI, 40, .inl q_from)), (ra 9, .inl (kI, 40, .inl q_to)), (ra 10, .inl (kI, 6, .inl q_goal)), (ra 11, .inl (kI, 1019, .inl f15)), (ra 14, .inl (kI, 12, .inl q_reach)), (ra 22, .inl (kI, 8, .inl q_notedPort)), (ra 23, .inl (kI, 8, .inl q_notedGoal)), (ra 24, .inl (kI, 8, .inl q_notedHop)), (ra 25, .inl (kI, 8, .inl q_notedAddress))]) hk1 ht hP1 hD1
          clear hP hD hPc hDc hFc hJn hP1 hD1 hk1
          have hP : va_P (dC, dI) vwCl [(ra 26, .inl (kZ, 64, .inl g7_15)), (m0, .inr (11, oX11 ra y14)), (ra 2, .inl (kI, 8, .inl q_told)), (ra 3, .inl (kI, 24, .inl q_kind)), (ra 4, .inl (kI, 24, .inl q_salt)), (ra 6, .inl (kI, 24, .inl q_mute)), (ra 7, .inl (kI, 24, .inl q_late)), (ra 8, .inl (kI, 40, .inl q_from)), (ra 9, .inl (kI, 40, .inl q_to)), (ra 10, .inl (kI, 6, .inl q_goal)), (ra 11, .inl (kI, 1019, .inl f15)), (ra 14, .inl (kI, 12, .inl q_reach)), (ra 22, .inl (kI, 8, .inl q_notedPort)), (ra 23, .inl (kI, 8, .inl q_notedGoal)), (ra 24, .inl (kI, 8, .inl q_notedHop)), (ra 25, .inl (kI, 8, .inl q_notedAddress))] H := hPa
          have hD : va_D A [(ra 26, .inl (kZ, 64, .inl g7_15)), (m0, .inr (11, oX11 ra y14)), (ra 2, .inl (kI, 8, .inl q_told)), (ra 3, .inl (kI, 24, .inl q_kind)), (ra 4, .inl (kI, 24, .inl q_salt)), (ra 6, .inl (kI, 24, .inl q_mute)), (ra 7, .inl (kI, 24, .inl q_late)), (ra 8, .inl (kI, 40, .inl q_from)), (ra 9, .inl (kI, 40, .inl q_to)), (ra 10, .inl (kI, 6, .inl q_goal)), (ra 11, .inl (kI, 1019, .inl f15)), (ra 14, .inl (kI, 12, .inl q_reach)), (ra 22, .inl (kI, 8, .inl q_notedPort)), (ra 23, .inl (kI, 8, .inl q_notedGoal)), (ra 24, .inl (kI, 8, .inl q_notedHop)), (ra 25, .inl (kI, 8, .inl q_notedAddress))] := hDa
          clear hPa hDa
          refine W.widen (k := 0) (n := 0) (Nat.le_of_ble_eq_true rfl) (Nat.le_of_ble_eq_true rfl) ?_
          refine lv_if_eq (tgt := 53) hx hb dX11_tellFits_46 rfl (fun c22 => ?_) (fun c22 => ?_)
          · have b23 : iv 0 0 r12 := iv_eqL c22 ivk_0
            have hPD9 := cl_s (wc := [(m0, .inr (11, oX11 ra y14)), (ra 2, .inl (kI, 8, .inl q_told)), (ra 3, .inl (kI, 24, .inl q_kind)), (ra 4, .inl (kI, 24, .inl q_salt)), (ra 6, .inl (kI, 24, .inl q_mute)), (ra 7, .inl (kI, 24, .inl q_late)), (ra 8, .inl (kI, 40, .inl q_from)), (ra 9, .inl (kI, 40, .inl q_to)), (ra 10, .inl (kI, 6, .inl q_goal)), (ra 11, .inl (kI, 1019, .inl f15)), (ra 14, .inl (kI, 12, .inl q_reach)), (ra 22, .inl (kI, 8, .inl q_notedPort)), (ra 23, .inl (kI, 8, .inl q_notedGoal)), (ra 24, .inl (kI, 8, .inl q_notedHop)), (ra 25, .inl (kI, 8, .inl q_notedAddress)), (ra 26, .inl (kZ, 64, .inl g7_15))]) hP hD [1, 2, 3, 4, 5, 6, 7, 8, 9, 10, 11, 12, 13, 14, 15, 0] rfl (by decide +kernel)
            exact hJ53 y14 f15 _ _ _ (hq16) (hq17) (b5) ((iv_eqL hq20 h7_4)) ((show y14 1 = x0 1 from hq18.trans (htp_7))) ((show y14 10 = x0 10 from hq19.trans (hfp_7))) ((show y14 14 = x0 14 from hq21.trans (hirl_7))) (hPD9.1) (hPD9.2) hS (lv_sub hl [0, 1, 2] rfl)
          · have b24 : iv 1 1 r12 := iv_neLo c22 w13 ivk_0 (by decide) (by decide)
            refine lv_iconst (v := 1) hx hb dX11_tellFits_49 ic_1 ?_
            refine lv_goto (tgt := 54) hx hb dX11_tellFits_50 rfl ?_
            have hPD9 := cl_s (wc := [(m0, .inr (11, oX11 ra y14)), (ra 2, .inl (kI, 8, .inl q_told)), (ra 3, .inl (kI, 24, .inl q_kind)), (ra 4, .inl (kI, 24, .inl q_salt)), (ra 6, .inl (kI, 24, .inl q_mute)), (ra 7, .inl (kI, 24, .inl q_late)), (ra 8, .inl (kI, 40, .inl q_from)), (ra 9, .inl (kI, 40, .inl q_to)), (ra 10, .inl (kI, 6, .inl q_goal)), (ra 11, .inl (kI, 1019, .inl f15)), (ra 14, .inl (kI, 12, .inl q_reach)), (ra 22, .inl (kI, 8, .inl q_notedPort)), (ra 23, .inl (kI, 8, .inl q_notedGoal)), (ra 24, .inl (kI, 8, .inl q_notedHop)), (ra 25, .inl (kI, 8, .inl q_notedAddress)), (ra 26, .inl (kZ, 64, .inl g7_15))]) hP hD [1, 2, 3, 4, 5, 6, 7, 8, 9, 10, 11, 12, 13, 14, 15, 0] rfl (by decide +kernel)
            exact hJ54 y14 f15 1 _ _ _ (hq16) (hq17) (b5) ((iv_w ivk_1 (by decide) (by decide))) ((iv_eqL hq20 h7_4)) ((show y14 1 = x0 1 from hq18.trans (htp_7))) ((show y14 10 = x0 10 from hq19.trans (hfp_7))) ((show y14 14 = x0 14 from hq21.trans (hirl_7))) (hPD9.1) (hPD9.2) hS (lv_sub hl [0, 1, 2] rfl)
  refine lv_aload_n hx hb dX11_tellFits_0 rfl (lv_at hl 0 rfl) ?_
  refine lv_iload_n hx hb dX11_tellFits_1 rfl (lv_at hl 1 rfl) ?_
  refine va_put (D := (dC, dI)) (ci := 11) (v := .int p0) (ty := .int) (C := RX11) (T := TX11) (N := 61) hx hb hts hin11 tyX11 tyX11_ok nmX11 hown hK hP hD hS 0 rfl rfl 26 (by decide) hw_0 (fun _ h9 => h9) rfl (by decide +kernel) rfl rfl (Nat.le_of_ble_eq_true rfl) dX11_tellFits_2 (fun H locs hPa hDa hS => ?_)
  clear hP hD
  have hP : va_P (dC, dI) vwCl [(m0, .inr (11, oX11 ra (upd x0 11 p0))), (ra 2, .inl (kI, 8, .inl q_told)), (ra 3, .inl (kI, 24, .inl q_kind)), (ra 4, .inl (kI, 24, .inl q_salt)), (ra 6, .inl (kI, 24, .inl q_mute)), (ra 7, .inl (kI, 24, .inl q_late)), (ra 8, .inl (kI, 40, .inl q_from)), (ra 9, .inl (kI, 40, .inl q_to)), (ra 10, .inl (kI, 6, .inl q_goal)), (ra 11, .inl (kI, 1019, .inl q_now)), (ra 14, .inl (kI, 12, .inl q_reach)), (ra 22, .inl (kI, 8, .inl q_notedPort)), (ra 23, .inl (kI, 8, .inl q_notedGoal)), (ra 24, .inl (kI, 8, .inl q_notedHop)), (ra 25, .inl (kI, 8, .inl q_notedAddress)), (ra 26, .inl (kZ, 64, .inl q_fitting))] H := hPa
  have hD : va_D A [(m0, .inr (11, oX11 ra (upd x0 11 p0))), (ra 2, .inl (kI, 8, .inl q_told)), (ra 3, .inl (kI, 24, .inl q_kind)), (ra 4, .inl (kI, 24, .inl q_salt)), (ra 6, .inl (kI, 24, .inl q_mute)), (ra 7, .inl (kI, 24, .inl q_late)), (ra 8, .inl (kI, 40, .inl q_from)), (ra 9, .inl (kI, 40, .inl q_to)), (ra 10, .inl (kI, 6, .inl q_goal)), (ra 11, .inl (kI, 1019, .inl q_now)), (ra 14, .inl (kI, 12, .inl q_reach)), (ra 22, .inl (kI, 8, .inl q_notedPort)), (ra 23, .inl (kI, 8, .inl q_notedGoal)), (ra 24, .inl (kI, 8, .inl q_notedHop)), (ra 25, .inl (kI, 8, .inl q_notedAddress)), (ra 26, .inl (kZ, 64, .inl q_fitting))] := hDa
  clear hPa hDa
  refine lv_iconst (v := 0) hx hb dX11_tellFits_5 ic_0 ?_
  refine lv_istore_n (lv' := [(2, .int 0), (0, .ref m0), (1, .int p0)]) hx hb dX11_tellFits_6 rfl hl (Nat.le_of_ble_eq_true rfl) rfl (fun ls hl => ?_)
  exact hJ7 _ (upd x0 11 p0) q_now q_fitting 0 _ _ _ (Nat.lt_succ_self _) ((fI_u hX (k := 11) ((iv_w hp0 (by decide) (by decide))))) (hq_now) ((iv_w ivk_0 (by decide) (by decide))) (hp0) ((show x0 1 = x0 1 from rfl)) ((show x0 10 = x0 10 from rfl)) ((show x0 14 = x0 14 from rfl)) (hP) (hD) hS (lv_sub hl [1, 2, 0] rfl)
def rm_s11_happens : Room := { frames := 6, cells := 0, slots := 0, locals := 156 }
set_option maxHeartbeats 4000000 in
set_option maxRecDepth 100000 in
theorem s11_happens (l : Launch) (dC : Nat → ClassId) (dI : Nat → Nat → Nat) (kB kI kJ kZ kC kS : ClassId) (sz : Nat) (m0 : Nat) (ra : Nat → Nat) (x0 : Nat → Int32) (q_told : Nat → Int32) (q_kind : Nat → Int32) (q_salt : Nat → Int32) (q_pace : Nat → Int32) (q_mute : Nat → Int32) (q_late : Nat → Int32) (q_from : Nat → Int32) (q_to : Nat → Int32) (q_goal : Nat → Int32) (q_now : Nat → Int32) (q_reach : Nat → Int32) (q_met : Nat → Int64) (hX : fI lX11 hX11 x0) (hq_told : fI lTold hTold q_told) (hq_salt : fI (fun _ => 0) (fun _ => 15) q_salt) (hq_from : fI (fun _ => 0) (fun _ => 11) q_from) (hq_to : fI (fun _ => 0) (fun _ => 11) q_to) (hq_goal : fI (fun _ => 0) (fun _ => 11) q_goal) (hq_now : fI lNow hNow q_now) (hLT : ∀ j : Nat, (j : Int) < (q_told 1).toInt → (q_from j).toInt < (q_to j).toInt) (hfl14 : iv 0 0 (x0 14)) : Met l yX11_happens wsX11_happens rm_s11_happens (va_Pc [.ref m0] (fun U => U.heap.size = sz ∧ va_P (dC, dI) vwCl [(m0, .inr (11, oX11 ra x0)), (ra 2, .inl (kI, 8, .inl q_told)), (ra 3, .inl (kI, 24, .inl q_kind)), (ra 4, .inl (kI, 24, .inl q_salt)), (ra 5, .inl (kI, 24, .inl q_pace)), (ra 6, .inl (kI, 24, .inl q_mute)), (ra 7, .inl (kI, 24, .inl q_late)), (ra 8, .inl (kI, 40, .inl q_from)), (ra 9, .inl (kI, 40, .inl q_to)), (ra 10, .inl (kI, 6, .inl q_goal)), (ra 11, .inl (kI, 1019, .inl q_now)), (ra 14, .inl (kI, 12, .inl q_reach)), (ra 15, .inl (kJ, 24, .inr (.inl q_met)))] U.heap ∧ kE dC dI kB kI kJ kZ kC kS U ∧ va_D (fun _ => True) [(m0, .inr (11, oX11 ra x0)), (ra 2, .inl (kI, 8, .inl q_told)), (ra 3, .inl (kI, 24, .inl q_kind)), (ra 4, .inl (kI, 24, .inl q_salt)), (ra 5, .inl (kI, 24, .inl q_pace)), (ra 6, .inl (kI, 24, .inl q_mute)), (ra 7, .inl (kI, 24, .inl q_late)), (ra 8, .inl (kI, 40, .inl q_from)), (ra 9, .inl (kI, 40, .inl q_to)), (ra 10, .inl (kI, 6, .inl q_goal)), (ra 11, .inl (kI, 1019, .inl q_now)), (ra 14, .inl (kI, 12, .inl q_reach)), (ra 15, .inl (kJ, 24, .inr (.inl q_met)))])) (va_Qv (fun (_ : Unit) => True) (fun _ t => ∃ (x0' : Nat → Int32) (q_now' : Nat → Int32) (q_met' : Nat → Int64), fI lX11 hX11 x0' ∧ iv 0 0 (x0' 14) ∧ fI lNow hNow q_now' ∧ (x0' 1 = x0 1) ∧ (x0' 10 = x0 10) ∧ (x0' 11 = x0 11) ∧ va_P (dC, dI) vwCl [(m0, .inr (11, oX11 ra x0')), (ra 2, .inl (kI, 8, .inl q_told)), (ra 3, .inl (kI, 24, .inl q_kind)), (ra 4, .inl (kI, 24, .inl q_salt)), (ra 5, .inl (kI, 24, .inl q_pace)), (ra 6, .inl (kI, 24, .inl q_mute)), (ra 7, .inl (kI, 24, .inl q_late)), (ra 8, .inl (kI, 40, .inl q_from)), (ra 9, .inl (kI, 40, .inl q_to)), (ra 10, .inl (kI, 6, .inl q_goal)), (ra 11, .inl (kI, 1019, .inl q_now')), (ra 14, .inl (kI, 12, .inl q_reach)), (ra 15, .inl (kJ, 24, .inr (.inl q_met')))] t.heap ∧ va_D (va_A [(m0, .inr (11, oX11 ra x0)), (ra 2, .inl (kI, 8, .inl q_told)), (ra 3, .inl (kI, 24, .inl q_kind)), (ra 4, .inl (kI, 24, .inl q_salt)), (ra 5, .inl (kI, 24, .inl q_pace)), (ra 6, .inl (kI, 24, .inl q_mute)), (ra 7, .inl (kI, 24, .inl q_late)), (ra 8, .inl (kI, 40, .inl q_from)), (ra 9, .inl (kI, 40, .inl q_to)), (ra 10, .inl (kI, 6, .inl q_goal)), (ra 11, .inl (kI, 1019, .inl q_now)), (ra 14, .inl (kI, 12, .inl q_reach)), (ra 15, .inl (kJ, 24, .inr (.inl q_met)))] sz) [(m0, .inr (11, oX11 ra x0')), (ra 2, .inl (kI, 8, .inl q_told)), (ra 3, .inl (kI, 24, .inl q_kind)), (ra 4, .inl (kI, 24, .inl q_salt)), (ra 5, .inl (kI, 24, .inl q_pace)), (ra 6, .inl (kI, 24, .inl q_mute)), (ra 7, .inl (kI, 24, .inl q_late)), (ra 8, .inl (kI, 40, .inl q_from)), (ra 9, .inl (kI, 40, .inl q_to)), (ra 10, .inl (kI, 6, .inl q_goal)), (ra 11, .inl (kI, 1019, .inl q_now')), (ra 14, .inl (kI, 12, .inl q_reach)), (ra 15, .inl (kJ, 24, .inr (.inl q_met')))]) (va_A [(m0, .inr (11, oX11 ra x0)), (ra 2, .inl (kI, 8, .inl q_told)), (ra 3, .inl (kI, 24, .inl q_kind)), (ra 4, .inl (kI, 24, .inl q_salt)), (ra 5, .inl (kI, 24, .inl q_pace)), (ra 6, .inl (kI, 24, .inl q_mute)), (ra 7, .inl (kI, 24, .inl q_late)), (ra 8, .inl (kI, 40, .inl q_from)), (ra 9, .inl (kI, 40, .inl q_to)), (ra 10, .inl (kI, 6, .inl q_goal)), (ra 11, .inl (kI, 1019, .inl q_now)), (ra 14, .inl (kI, 12, .inl q_reach)), (ra 15, .inl (kJ, 24, .inr (.inl q_met)))] sz)) 0 0 (va_A [(m0, .inr (11, oX11 ra x0)), (ra 2, .inl (kI, 8, .inl q_told)), (ra 3, .inl (kI, 24, .inl q_kind)), (ra 4, .inl (kI, 24, .inl q_salt)), (ra 5, .inl (kI, 24, .inl q_pace)), (ra 6, .inl (kI, 24, .inl q_mute)), (ra 7, .inl (kI, 24, .inl q_late)), (ra 8, .inl (kI, 40, .inl q_from)), (ra 9, .inl (kI, 40, .inl q_to)), (ra 10, .inl (kI, 6, .inl q_goal)), (ra 11, .inl (kI, 1019, .inl q_now)), (ra 14, .inl (kI, 12, .inl q_reach)), (ra 15, .inl (kJ, 24, .inr (.inl q_met)))] sz) := by
  refine Met.ofW (cc := cX11_happens) (maxL := 6) (ret := none) (by decide) rfl ?_
  intro p e s m args0 below meth c s₁ B hml hv
  obtain ⟨hargs, hsz, hP, hE, hD0⟩ := hv
  have hx := B.exec
  have hb := B.bytes
  have hr := B.returns
  have hts := atoms_spec (ws := wsX11_happens) B.pre
  have hown : s.vm.findClass RX11 = some m.cls := findClass_of_methodNamed B.named
  have hlocks := B.notSynchronized
  have hK := hE.1
  have hin11 : ∀ w ∈ wsX110, w ∈ wsX11_happens := fun _ h9 => List.mem_cons_of_mem _ (List.mem_append_right _ h9)
  subst hsz
  have hD := hD0.self (sz := s.heap.size)
  generalize hAe : va_A [(m0, .inr (11, oX11 ra x0)), (ra 2, .inl (kI, 8, .inl q_told)), (ra 3, .inl (kI, 24, .inl q_kind)), (ra 4, .inl (kI, 24, .inl q_salt)), (ra 5, .inl (kI, 24, .inl q_pace)), (ra 6, .inl (kI, 24, .inl q_mute)), (ra 7, .inl (kI, 24, .inl q_late)), (ra 8, .inl (kI, 40, .inl q_from)), (ra 9, .inl (kI, 40, .inl q_to)), (ra 10, .inl (kI, 6, .inl q_goal)), (ra 11, .inl (kI, 1019, .inl q_now)), (ra 14, .inl (kI, 12, .inl q_reach)), (ra 15, .inl (kJ, 24, .inr (.inl q_met)))] s.heap.size = A at hD ⊢
  have hA : ∀ q : Nat, s.heap.size ≤ q → A q := fun q h => by rw [← hAe]; exact Or.inr h
  have hS : va_S A s.heap s.heap [] := va_S.rf
  have hP : va_P (dC, dI) vwCl [(m0, .inr (11, oX11 ra x0)), (ra 2, .inl (kI, 8, .inl q_told)), (ra 3, .inl (kI, 24, .inl q_kind)), (ra 4, .inl (kI, 24, .inl q_salt)), (ra 5, .inl (kI, 24, .inl q_pace)), (ra 6, .inl (kI, 24, .inl q_mute)), (ra 7, .inl (kI, 24, .inl q_late)), (ra 8, .inl (kI, 40, .inl q_from)), (ra 9, .inl (kI, 40, .inl q_to)), (ra 10, .inl (kI, 6, .inl q_goal)), (ra 11, .inl (kI, 1019, .inl q_now)), (ra 14, .inl (kI, 12, .inl q_reach)), (ra 15, .inl (kJ, 24, .inr (.inl q_met)))] s.heap := hP
  have hl := lv_entry ([.ref m0]) (n := 6) (Nat.le_of_ble_eq_true rfl)
  have hla : entryFrame m args0 6 = entryFrame m ([.ref m0] : List Value).toArray 6 := by rw [hargs]
  rw [hla, lg_entry_eq]
  generalize (lg_sl ([.ref m0]) ++ List.replicate (6 - (lg_sl ([.ref m0])).length) Slot.unset).toArray = ls at hl ⊢
  have hl : lv_has ls 6 [(0, .ref m0)] := hl
  refine lv_aload_n hx hb dX11_happens_0 rfl (lv_at hl 0 rfl) ?_
  refine lv_iconst (v := 4) hx hb dX11_happens_1 ic_4 ?_
  obtain ⟨hPc, hDc, hFc, hJn⟩ := cl_a (wc := [(m0, .inr (11, oX11 ra x0))]) (wr := [(ra 2, .inl (kI, 8, .inl q_told)), (ra 3, .inl (kI, 24, .inl q_kind)), (ra 4, .inl (kI, 24, .inl q_salt)), (ra 5, .inl (kI, 24, .inl q_pace)), (ra 6, .inl (kI, 24, .inl q_mute)), (ra 7, .inl (kI, 24, .inl q_late)), (ra 8, .inl (kI, 40, .inl q_from)), (ra 9, .inl (kI, 40, .inl q_to)), (ra 10, .inl (kI, 6, .inl q_goal)), (ra 11, .inl (kI, 1019, .inl q_now)), (ra 14, .inl (kI, 12, .inl q_reach)), (ra 15, .inl (kJ, 24, .inr (.inl q_met)))]) hP hD hS hA [0] [1, 2, 3, 4, 5, 6, 7, 8, 9, 10, 11, 12] rfl rfl (by decide +kernel)
  refine va_calli (va_runV (As := [.int 4]) (rest := []) ⟨hx, hb, hml, hown, hts⟩ (s11_draw4 l dC dI kB kI kJ kZ kC kS s.heap.size m0 ra x0 4 (hX) ((iv_w ivk_4 (by decide) (by decide)))) (cwV 1 hts gX11_happens_X11_draw rfl rfl rfl (by decide +kernel) ⟨Nat.le_of_ble_eq_true rfl, Nat.le_of_ble_eq_true rfl⟩) ⟨fun a U g mk q => by obtain ⟨q0, q1, qP, qE, qD⟩ := q; exact ⟨q0, q1, qP, kE_call qE, qD⟩, va_recv hK hP (ci := 11) (q0 := 0) rfl rfl, fun U hU hW => ⟨rfl, by rw [hU], by rw [hU]; exact hPc, kE_warm hW hE, hDc.weaken (fun _ _ _ _ => trivial)⟩⟩ rfl rfl hl.1 rfl (lv_room (Nat.le_of_ble_eq_true rfl)) dX11_happens_2 ⟨Nat.le_of_ble_eq_true rfl, Nat.le_of_ble_eq_true rfl⟩) hS (fun q _ h => hFc q h) hFc (fun r1 u t H locs ht hvm w2 hB hz1 hk1 hS => ?_)
  obtain ⟨y3, hq4, hq5, hq6, hq7, hq8, hP1, hD1⟩ := hB
  try dsimp only at w2
  obtain ⟨hPa, hDa⟩ := hJn (w1 := [(m0, .inr (11, oX11 ra y3))]) hk1 ht hP1 hD1
  clear hP hD hPc hDc hFc hJn hP1 hD1 hk1
  have hP : va_P (dC, dI) vwCl [(ra 2, .inl (kI, 8, .inl q_told)), (ra 3, .inl (kI, 24, .inl q_kind)), (ra 4, .inl (kI, 24, .inl q_salt)), (ra 5, .inl (kI, 24, .inl q_pace)), (ra 6, .inl (kI, 24, .inl q_mute)), (ra 7, .inl (kI, 24, .inl q_late)), (ra 8, .inl (kI, 40, .inl q_from)), (ra 9, .inl (kI, 40, .inl q_to)), (ra 10, .inl (kI, 6, .inl q_goal)), (ra 11, .inl (kI, 1019, .inl q_now)), (ra 14, .inl (kI, 12, .inl q_reach)), (ra 15, .inl (kJ, 24, .inr (.inl q_met))), (m0, .inr (11, oX11 ra y3))] H := hPa
  have hD : va_D A [(ra 2, .inl (kI, 8, .inl q_told)), (ra 3, .inl (kI, 24, .inl q_kind)), (ra 4, .inl (kI, 24, .inl q_salt)), (ra 5, .inl (kI, 24, .inl q_pace)), (ra 6, .inl (kI, 24, .inl q_mute)), (ra 7, .inl (kI, 24, .inl q_late)), (ra 8, .inl (kI, 40, .inl q_from)), (ra 9, .inl (kI, 40, .inl q_to)), (ra 10, .inl (kI, 6, .inl q_goal)), (ra 11, .inl (kI, 1019, .inl q_now)), (ra 14, .inl (kI, 12, .inl q_reach)), (ra 15, .inl (kJ, 24, .inr (.inl q_met))), (m0, .inr (11, oX11 ra y3))] := hDa
  clear hPa hDa
  refine W.widen (k := 0) (n := 0) (Nat.le_of_ble_eq_true rfl) (Nat.le_of_ble_eq_true rfl) ?_
  refine lv_istore_n (lv' := [(1, .int r1), (0, .ref m0)]) hx hb dX11_happens_5 rfl hl (Nat.le_of_ble_eq_true rfl) rfl (fun ls hl => ?_)
  refine lv_aload_n hx hb dX11_happens_6 rfl (lv_at hl 1 rfl) ?_
  obtain ⟨hPc, hDc, hFc, hJn⟩ := cl_a (wc := [(m0, .inr (11, oX11 ra y3)), (ra 2, .inl (kI, 8, .inl q_told))]) (wr := [(ra 3, .inl (kI, 24, .inl q_kind)), (ra 4, .inl (kI, 24, .inl q_salt)), (ra 5, .inl (kI, 24, .inl q_pace)), (ra 6, .inl (kI, 24, .inl q_mute)), (ra 7, .inl (kI, 24, .inl q_late)), (ra 8, .inl (kI, 40, .inl q_from)), (ra 9, .inl (kI, 40, .inl q_to)), (ra 10, .inl (kI, 6, .inl q_goal)), (ra 11, .inl (kI, 1019, .inl q_now)), (ra 14, .inl (kI, 12, .inl q_reach)), (ra 15, .inl (kJ, 24, .inr (.inl q_met)))]) hP hD hS hA [12, 0] [1, 2, 3, 4, 5, 6, 7, 8, 9, 10, 11] rfl rfl (by decide +kernel)
  refine va_calli (va_runV (As := []) (rest := []) ⟨hx, hb, hml, hown, hts⟩ (s11_goals l dC dI kB kI kJ kZ kC kS H.size m0 ra y3 q_told (hq4) (hq_told)) (cwV 0 hts gX11_happens_X11_goals rfl rfl rfl (by decide +kernel) ⟨Nat.le_of_ble_eq_true rfl, Nat.le_of_ble_eq_true rfl⟩) ⟨fun a U g mk q => by obtain ⟨q0, q1, qP, qE, qD⟩ := q; exact ⟨q0, q1, qP, kE_call qE, qD⟩, va_recv hK hP (ci := 11) (q0 := 12) rfl rfl, fun U hU hW => ⟨rfl, by rw [hU], by rw [hU]; exact hPc, kE_warm hW hE, hDc.weaken (fun _ _ _ _ => trivial)⟩⟩ rfl rfl hl.1 rfl (lv_room (Nat.le_of_ble_eq_true rfl)) dX11_happens_7 ⟨Nat.le_of_ble_eq_true rfl, Nat.le_of_ble_eq_true rfl⟩) hS (fun q _ h => hFc q h) hFc (fun r9 u t H locs ht hvm w10 hB hz1 hk1 hS => ?_)
  obtain ⟨hP1, hD1⟩ := hB
  try dsimp only at w10
  obtain ⟨hPa, hDa⟩ := hJn (w1 := [(m0, .inr (11, oX11 ra y3)), (ra 2, .inl (kI, 8, .inl q_told))]) hk1 ht hP1 hD1
  clear hP hD hPc hDc hFc hJn hP1 hD1 hk1
  have hP : va_P (dC, dI) vwCl [(ra 3, .inl (kI, 24, .inl q_kind)), (ra 4, .inl (kI, 24, .inl q_salt)), (ra 5, .inl (kI, 24, .inl q_pace)), (ra 6, .inl (kI, 24, .inl q_mute)), (ra 7, .inl (kI, 24, .inl q_late)), (ra 8, .inl (kI, 40, .inl q_from)), (ra 9, .inl (kI, 40, .inl q_to)), (ra 10, .inl (kI, 6, .inl q_goal)), (ra 11, .inl (kI, 1019, .inl q_now)), (ra 14, .inl (kI, 12, .inl q_reach)), (ra 15, .inl (kJ, 24, .inr (.inl q_met))), (m0, .inr (11, oX11 ra y3)), (ra 2, .inl (kI, 8, .inl q_told))] H := hPa
  have hD : va_D A [(ra 3, .inl (kI, 24, .inl q_kind)), (ra 4, .inl (kI, 24, .inl q_salt)), (ra 5, .inl (kI, 24, .inl q_pace)), (ra 6, .inl (kI, 24, .inl q_mute)), (ra 7, .inl (kI, 24, .inl q_late)), (ra 8, .inl (kI, 40, .inl q_from)), (ra 9, .inl (kI, 40, .inl q_to)), (ra 10, .inl (kI, 6, .inl q_goal)), (ra 11, .inl (kI, 1019, .inl q_now)), (ra 14, .inl (kI, 12, .inl q_reach)), (ra 15, .inl (kJ, 24, .inr (.inl q_met))), (m0, .inr (11, oX11 ra y3)), (ra 2, .inl (kI, 8, .inl q_told))] := hDa
  clear hPa hDa
  refine W.widen (k := 0) (n := 0) (Nat.le_of_ble_eq_true rfl) (Nat.le_of_ble_eq_true rfl) ?_
  subst w10
  refine lv_if_ne (tgt := 14) hx hb dX11_happens_10 rfl (fun c11 => ?_) (fun c11 => ?_)
  · have b12 : iv 1 3 (q_told 2) := iv_neLo c11 (hq_told 2 : iv 0 3 (q_told 2)) ivk_0 (by decide) (by decide)
    refine lv_iload_n hx hb dX11_happens_14 rfl (lv_at hl 0 rfl) ?_
    refine lv_iconst (v := 2) hx hb dX11_happens_15 ic_2 ?_
    refine lv_icmp_ne (tgt := 23) hx hb dX11_happens_16 rfl (fun c13 => ?_) (fun c13 => ?_)
    · refine lv_aload_n hx hb dX11_happens_23 rfl (lv_at hl 1 rfl) ?_
      refine lv_bipush (v := 32) hx hb dX11_happens_24 bp_32 ?_
      obtain ⟨hPc, hDc, hFc, hJn⟩ := cl_a (wc := [(m0, .inr (11, oX11 ra y3))]) (wr := [(ra 3, .inl (kI, 24, .inl q_kind)), (ra 4, .inl (kI, 24, .inl q_salt)), (ra 5, .inl (kI, 24, .inl q_pace)), (ra 6, .inl (kI, 24, .inl q_mute)), (ra 7, .inl (kI, 24, .inl q_late)), (ra 8, .inl (kI, 40, .inl q_from)), (ra 9, .inl (kI, 40, .inl q_to)), (ra 10, .inl (kI, 6, .inl q_goal)), (ra 11, .inl (kI, 1019, .inl q_now)), (ra 14, .inl (kI, 12, .inl q_reach)), (ra 15, .inl (kJ, 24, .inr (.inl q_met))), (ra 2, .inl (kI, 8, .inl q_told))]) hP hD hS hA [11] [0, 1, 2, 3, 4, 5, 6, 7, 8, 9, 10, 12] rfl rfl (by decide +kernel)
      refine va_calli (va_runV (As := [.int 32]) (rest := []) ⟨hx, hb, hml, hown, hts⟩ (s11_draw l dC dI kB kI kJ kZ kC kS H.size m0 ra y3 32 (hq4) ((iv_w ivk_32 (by decide) (by decide)))) (cwV 1 hts gX11_happens_X11_draw rfl rfl rfl (by decide +kernel) ⟨Nat.le_of_ble_eq_true rfl, Nat.le_of_ble_eq_true rfl⟩) ⟨fun a U g mk q => by obtain ⟨q0, q1, qP, qE, qD⟩ := q; exact ⟨q0, q1, qP, kE_call qE, qD⟩, va_recv hK hP (ci := 11) (q0 := 11) rfl rfl, fun U hU hW => ⟨rfl, by rw [hU], by rw [hU]; exact hPc, kE_warm hW hE, hDc.weaken (fun _ _ _ _ => trivial)⟩⟩ rfl rfl hl.1 rfl (lv_room (Nat.le_of_ble_eq_true rfl)) dX11_happens_26 ⟨Nat.le_of_ble_eq_true rfl, Nat.le_of_ble_eq_true rfl⟩) hS (fun q _ h => hFc q h) hFc (fun r14 u t H locs ht hvm w15 hB hz1 hk1 hS => ?_)
      obtain ⟨y16, hq17, hq18, hq19, hq20, hq21, hP1, hD1⟩ := hB
      try dsimp only at w15
      obtain ⟨hPa, hDa⟩ := hJn (w1 := [(m0, .inr (11, oX11 ra y16))]) hk1 ht hP1 hD1
      clear hP hD hPc hDc hFc hJn hP1 hD1 hk1
      have hP : va_P (dC, dI) vwCl [(ra 3, .inl (kI, 24, .inl q_kind)), (ra 4, .inl (kI, 24, .inl q_salt)), (ra 5, .inl (kI, 24, .inl q_pace)), (ra 6, .inl (kI, 24, .inl q_mute)), (ra 7, .inl (kI, 24, .inl q_late)), (ra 8, .inl (kI, 40, .inl q_from)), (ra 9, .inl (kI, 40, .inl q_to)), (ra 10, .inl (kI, 6, .inl q_goal)), (ra 11, .inl (kI, 1019, .inl q_now)), (ra 14, .inl (kI, 12, .inl q_reach)), (ra 15, .inl (kJ, 24, .inr (.inl q_met))), (ra 2, .inl (kI, 8, .inl q_told)), (m0, .inr (11, oX11 ra y16))] H := hPa
      have hD : va_D A [(ra 3, .inl (kI, 24, .inl q_kind)), (ra 4, .inl (kI, 24, .inl q_salt)), (ra 5, .inl (kI, 24, .inl q_pace)), (ra 6, .inl (kI, 24, .inl q_mute)), (ra 7, .inl (kI, 24, .inl q_late)), (ra 8, .inl (kI, 40, .inl q_from)), (ra 9, .inl (kI, 40, .inl q_to)), (ra 10, .inl (kI, 6, .inl q_goal)), (ra 11, .inl (kI, 1019, .inl q_now)), (ra 14, .inl (kI, 12, .inl q_reach)), (ra 15, .inl (kJ, 24, .inr (.inl q_met))), (ra 2, .inl (kI, 8, .inl q_told)), (m0, .inr (11, oX11 ra y16))] := hDa
      clear hPa hDa
      refine W.widen (k := 0) (n := 0) (Nat.le_of_ble_eq_true rfl) (Nat.le_of_ble_eq_true rfl) ?_
      refine lv_istore_n (lv' := [(2, .int r14), (1, .int r1), (0, .ref m0)]) hx hb dX11_happens_29 rfl hl (Nat.le_of_ble_eq_true rfl) rfl (fun ls hl => ?_)
      refine lv_aload_n hx hb dX11_happens_30 rfl (lv_at hl 2 rfl) ?_
      refine lv_aload_n hx hb dX11_happens_31 rfl (lv_at hl 2 rfl) ?_
      obtain ⟨hPc, hDc, hFc, hJn⟩ := cl_a (wc := [(m0, .inr (11, oX11 ra y16)), (ra 2, .inl (kI, 8, .inl q_told))]) (wr := [(ra 3, .inl (kI, 24, .inl q_kind)), (ra 4, .inl (kI, 24, .inl q_salt)), (ra 5, .inl (kI, 24, .inl q_pace)), (ra 6, .inl (kI, 24, .inl q_mute)), (ra 7, .inl (kI, 24, .inl q_late)), (ra 8, .inl (kI, 40, .inl q_from)), (ra 9, .inl (kI, 40, .inl q_to)), (ra 10, .inl (kI, 6, .inl q_goal)), (ra 11, .inl (kI, 1019, .inl q_now)), (ra 14, .inl (kI, 12, .inl q_reach)), (ra 15, .inl (kJ, 24, .inr (.inl q_met)))]) hP hD hS hA [12, 11] [0, 1, 2, 3, 4, 5, 6, 7, 8, 9, 10] rfl rfl (by decide +kernel)
      refine va_calli (va_runV (As := []) (rest := [.ref m0]) ⟨hx, hb, hml, hown, hts⟩ (s11_goals l dC dI kB kI kJ kZ kC kS H.size m0 ra y16 q_told (hq17) (hq_told)) (cwV 0 hts gX11_happens_X11_goals rfl rfl rfl (by decide +kernel) ⟨Nat.le_of_ble_eq_true rfl, Nat.le_of_ble_eq_true rfl⟩) ⟨fun a U g mk q => by obtain ⟨q0, q1, qP, qE, qD⟩ := q; exact ⟨q0, q1, qP, kE_call qE, qD⟩, va_recv hK hP (ci := 11) (q0 := 12) rfl rfl, fun U hU hW => ⟨rfl, by rw [hU], by rw [hU]; exact hPc, kE_warm hW hE, hDc.weaken (fun _ _ _ _ => trivial)⟩⟩ rfl rfl hl.1 rfl (lv_room (Nat.le_of_ble_eq_true rfl)) dX11_happens_32 ⟨Nat.le_of_ble_eq_true rfl, Nat.le_of_ble_eq_true rfl⟩) hS (fun q _ h => hFc q h) hFc (fun r22 u t H locs ht hvm w23 hB hz1 hk1 hS => ?_)
      obtain ⟨hP1, hD1⟩ := hB
      try dsimp only at w23
      obtain ⟨hPa, hDa⟩ := hJn (w1 := [(m0, .inr (11, oX11 ra y16)), (ra 2, .inl (kI, 8, .inl q_told))]) hk1 ht hP1 hD1
      clear hP hD hPc hDc hFc hJn hP1 hD1 hk1
      have hP : va_P (dC, dI) vwCl [(ra 3, .inl (kI, 24, .inl q_kind)), (ra 4, .inl (kI, 24, .inl q_salt)), (ra 5, .inl (kI, 24, .inl q_pace)), (ra 6, .inl (kI, 24, .inl q_mute)), (ra 7, .inl (kI, 24, .inl q_late)), (ra 8, .inl (kI, 40, .inl q_from)), (ra 9, .inl (kI, 40, .inl q_to)), (ra 10, .inl (kI, 6, .inl q_goal)), (ra 11, .inl (kI, 1019, .inl q_now)), (ra 14, .inl (kI, 12, .inl q_reach)), (ra 15, .inl (kJ, 24, .inr (.inl q_met))), (m0, .inr (11, oX11 ra y16)), (ra 2, .inl (kI, 8, .inl q_told))] H := hPa
      have hD : va_D A [(ra 3, .inl (kI, 24, .inl q_kind)), (ra 4, .inl (kI, 24, .inl q_salt)), (ra 5, .inl (kI, 24, .inl q_pace)), (ra 6, .inl (kI, 24, .inl q_mute)), (ra 7, .inl (kI, 24, .inl q_late)), (ra 8, .inl (kI, 40, .inl q_from)), (ra 9, .inl (kI, 40, .inl q_to)), (ra 10, .inl (kI, 6, .inl q_goal)), (ra 11, .inl (kI, 1019, .inl q_now)), (ra 14, .inl (kI, 12, .inl q_reach)), (ra 15, .inl (kJ, 24, .inr (.inl q_met))), (m0, .inr (11, oX11 ra y16)), (ra 2, .inl (kI, 8, .inl q_told))] := hDa
      clear hPa hDa
      refine W.widen (k := 0) (n := 0) (Nat.le_of_ble_eq_true rfl) (Nat.le_of_ble_eq_true rfl) ?_
      subst w23
      obtain ⟨hPc, hDc, hFc, hJn⟩ := cl_a (wc := [(m0, .inr (11, oX11 ra y16))]) (wr := [(ra 3, .inl (kI, 24, .inl q_kind)), (ra 4, .inl (kI, 24, .inl q_salt)), (ra 5, .inl (kI, 24, .inl q_pace)), (ra 6, .inl (kI, 24, .inl q_mute)), (ra 7, .inl (kI, 24, .inl q_late)), (ra 8, .inl (kI, 40, .inl q_from)), (ra 9, .inl (kI, 40, .inl q_to)), (ra 10, .inl (kI, 6, .inl q_goal)), (ra 11, .inl (kI, 1019, .inl q_now)), (ra 14, .inl (kI, 12, .inl q_reach)), (ra 15, .inl (kJ, 24, .inr (.inl q_met))), (ra 2, .inl (kI, 8, .inl q_told))]) hP hD hS hA [11] [0, 1, 2, 3, 4, 5, 6, 7, 8, 9, 10, 12] rfl rfl (by decide +kernel)
      refine va_calli (va_runV (As := [.int (q_told 2)]) (rest := []) ⟨hx, hb, hml, hown, hts⟩ (s11_draw3 l dC dI kB kI kJ kZ kC kS H.size m0 ra y16 (q_told 2) (hq17) (b12)) (cwV 1 hts gX11_happens_X11_draw rfl rfl rfl (by decide +kernel) ⟨Nat.le_of_ble_eq_true rfl, Nat.le_of_ble_eq_true rfl⟩) ⟨fun a U g mk q => by obtain ⟨q0, q1, qP, qE, qD⟩ := q; exact ⟨q0, q1, qP, kE_call qE, qD⟩, va_recv hK hP (ci := 11) (q0 := 11) rfl rfl, fun U hU hW => ⟨rfl, by rw [hU], by rw [hU]; exact hPc, kE_warm hW hE, hDc.weaken (fun _ _ _ _ => trivial)⟩⟩ rfl rfl hl.1 rfl (lv_room (Nat.le_of_ble_eq_true rfl)) dX11_happens_35 ⟨Nat.le_of_ble_eq_true rfl, Nat.le_of_ble_eq_true rfl⟩) hS (fun q _ h => hFc q h) hFc (fun r24 u t H locs ht hvm w25 hB hz1 hk1 hS => ?_)
      obtain ⟨y26, hq27, hq28, hq29, hq30, hq31, hP1, hD1⟩ := hB
      try dsimp only at w25
      obtain ⟨hPa, hDa⟩ := hJn (w1 := [(m0, .inr (11, oX11 ra y26))]) hk1 ht hP1 hD1
      clear hP hD hPc hDc hFc hJn hP1 hD1 hk1
      have hP : va_P (dC, dI) vwCl [(ra 3, .inl (kI, 24, .inl q_kind)), (ra 4, .inl (kI, 24, .inl q_salt)), (ra 5, .inl (kI, 24, .inl q_pace)), (ra 6, .inl (kI, 24, .inl q_mute)), (ra 7, .inl (kI, 24, .inl q_late)), (ra 8, .inl (kI, 40, .inl q_from)), (ra 9, .inl (kI, 40, .inl q_to)), (ra 10, .inl (kI, 6, .inl q_goal)), (ra 11, .inl (kI, 1019, .inl q_now)), (ra 14, .inl (kI, 12, .inl q_reach)), (ra 15, .inl (kJ, 24, .inr (.inl q_met))), (ra 2, .inl (kI, 8, .inl q_told)), (m0, .inr (11, oX11 ra y26))] H := hPa
      have hD : va_D A [(ra 3, .inl (kI, 24, .inl q_kind)), (ra 4, .inl (kI, 24, .inl q_salt)), (ra 5, .inl (kI, 24, .inl q_pace)), (ra 6, .inl (kI, 24, .inl q_mute)), (ra 7, .inl (kI, 24, .inl q_late)), (ra 8, .inl (kI, 40, .inl q_from)), (ra 9, .inl (kI, 40, .inl q_to)), (ra 10, .inl (kI, 6, .inl q_goal)), (ra 11, .inl (kI, 1019, .inl q_now)), (ra 14, .inl (kI, 12, .inl q_reach)), (ra 15, .inl (kJ, 24, .inr (.inl q_met))), (ra 2, .inl (kI, 8, .inl q_told)), (m0, .inr (11, oX11 ra y26))] := hDa
      clear hPa hDa
      refine W.widen (k := 0) (n := 0) (Nat.le_of_ble_eq_true rfl) (Nat.le_of_ble_eq_true rfl) ?_
      refine lv_istore_n (lv' := [(3, .int r24), (2, .int r14), (1, .int r1), (0, .ref m0)]) hx hb dX11_happens_38 rfl hl (Nat.le_of_ble_eq_true rfl) rfl (fun ls hl => ?_)
      refine lv_iload_n hx hb dX11_happens_39 rfl (lv_at hl 2 rfl) ?_
      refine lv_iconst (v := 3) hx hb dX11_happens_40 ic_3 ?_
      refine lv_icmp_ne (tgt := 48) hx hb dX11_happens_41 rfl (fun c32 => ?_) (fun c32 => ?_)
      · have b33 : iv 0 2 r1 := iv_neHi c32 w2 ivk_3 (by decide) (by decide)
        refine lv_aload_n hx hb dX11_happens_48 rfl (lv_at hl 3 rfl) ?_
        refine lv_bipush (v := 10) hx hb dX11_happens_49 bp_10 ?_
        obtain ⟨hPc, hDc, hFc, hJn⟩ := cl_a (wc := [(m0, .inr (11, oX11 ra y26))]) (wr := [(ra 3, .inl (kI, 24, .inl q_kind)), (ra 4, .inl (kI, 24, .inl q_salt)), (ra 5, .inl (kI, 24, .inl q_pace)), (ra 6, .inl (kI, 24, .inl q_mute)), (ra 7, .inl (kI, 24, .inl q_late)), (ra 8, .inl (kI, 40, .inl q_from)), (ra 9, .inl (kI, 40, .inl q_to)), (ra 10, .inl (kI, 6, .inl q_goal)), (ra 11, .inl (kI, 1019, .inl q_now)), (ra 14, .inl (kI, 12, .inl q_reach)), (ra 15, .inl (kJ, 24, .inr (.inl q_met))), (ra 2, .inl (kI, 8, .inl q_told))]) hP hD hS hA [12] [0, 1, 2, 3, 4, 5, 6, 7, 8, 9, 10, 11] rfl rfl (by decide +kernel)
        refine va_calli (va_runV (As := [.int 10]) (rest := []) ⟨hx, hb, hml, hown, hts⟩ (s11_draw10 l dC dI kB kI kJ kZ kC kS H.size m0 ra y26 10 (hq27) ((iv_w ivk_10 (by decide) (by decide)))) (cwV 1 hts gX11_happens_X11_draw rfl rfl rfl (by decide +kernel) ⟨Nat.le_of_ble_eq_true rfl, Nat.le_of_ble_eq_true rfl⟩) ⟨fun a U g mk q => by obtain ⟨q0, q1, qP, qE, qD⟩ := q; exact ⟨q0, q1, qP, kE_call qE, qD⟩, va_recv hK hP (ci := 11) (q0 := 12) rfl rfl, fun U hU hW => ⟨rfl, by rw [hU], by rw [hU]; exact hPc, kE_warm hW hE, hDc.weaken (fun _ _ _ _ => trivial)⟩⟩ rfl rfl hl.1 rfl (lv_room (Nat.le_of_ble_eq_true rfl)) dX11_happens_51 ⟨Nat.le_of_ble_eq_true rfl, Nat.le_of_ble_eq_true rfl⟩) hS (fun q _ h => hFc q h) hFc (fun r34 u t H locs ht hvm w35 hB hz1 hk1 hS => ?_)
        obtain ⟨y36, hq37, hq38, hq39, hq40, hq41, hP1, hD1⟩ := hB
        try dsimp only at w35
        obtain ⟨hPa, hDa⟩ := hJn (w1 := [(m0, .inr (11, oX11 ra y36))]) hk1 ht hP1 hD1
        clear hP hD hPc hDc hFc hJn hP1 hD1 hk1
        have hP : va_P (dC, dI) vwCl [(ra 3, .inl (kI, 24, .inl q_kind)), (ra 4, .inl (kI, 24, .inl q_salt)), (ra 5, .inl (kI, 24, .inl q_pace)), (ra 6, .inl (kI, 24, .inl q_mute)), (ra 7, .inl (kI, 24, .inl q_late)), (ra 8, .inl (kI, 40, .inl q_from)), (ra 9, .inl (kI, 40, .inl q_to)), (ra 10, .inl (kI, 6, .inl q_goal)), (ra 11, .inl (kI, 1019, .inl q_now)), (ra 14, .inl (kI, 12, .inl q_reach)), (ra 15, .inl (kJ, 24, .inr (.inl q_met))), (ra 2, .inl (kI, 8, .inl q_told)), (m0, .inr (11, oX11 ra y36))] H := hPa
        have hD : va_D A [(ra 3, .inl (kI, 24, .inl q_kind)), (ra 4, .inl (kI, 24, .inl q_salt)), (ra 5, .inl (kI, 24, .inl q_pace)), (ra 6, .inl (kI, 24, .inl q_mute)), (ra 7, .inl (kI, 24, .inl q_late)), (ra 8, .inl (kI, 40, .inl q_from)), (ra 9, .inl (kI, 40, .inl q_to)), (ra 10, .inl (kI, 6, .inl q_goal)), (ra 11, .inl (kI, 1019, .inl q_now)), (ra 14, .inl (kI, 12, .inl q_reach)), (ra 15, .inl (kJ, 24, .inr (.inl q_met))), (ra 2, .inl (kI, 8, .inl q_told)), (m0, .inr (11, oX11 ra y36))] := hDa
        clear hPa hDa
        refine W.widen (k := 0) (n := 0) (Nat.le_of_ble_eq_true rfl) (Nat.le_of_ble_eq_true rfl) ?_
        refine lv_iconst (v := 1) hx hb dX11_happens_54 ic_1 ?_
        refine lv_iadd hx hb dX11_happens_55 ?_
        refine iv_top (a := 1) (b := 10) (iv_add w35 ivk_1 (by decide) (by decide) (by decide) (by decide)) (fun z42 b43 => ?_)
        refine lv_istore (lv' := [(4, .int z42), (3, .int r24), (2, .int r14), (1, .int r1), (0, .ref m0)]) hx hb dX11_happens_56 hl (Nat.le_of_ble_eq_true rfl) rfl (fun ls hl => ?_)
        refine lv_iload_n hx hb dX11_happens_58 rfl (lv_at hl 3 rfl) ?_
        refine lv_iconst (v := 2) hx hb dX11_happens_59 ic_2 ?_
        refine lv_icmp_ge (tgt := 75) hx hb dX11_happens_60 rfl (fun c44 => ?_) (fun c44 => ?_)
        · have b45 : iv 2 2 r1 := iv_leR c44 ivk_2 b33 (by decide) (by decide)
          refine lv_iload_n hx hb dX11_happens_75 rfl (lv_at hl 3 rfl) ?_
          refine lv_iconst (v := 2) hx hb dX11_happens_76 ic_2 ?_
          refine lv_icmp_ne (tgt := 90) hx hb dX11_happens_77 rfl (fun _ => ?_) (fun c9 => absurd c9 (c13))
          refine lv_aload_n hx hb dX11_happens_90 rfl (lv_at hl 4 rfl) ?_
          refine lv_iload_n hx hb dX11_happens_91 rfl (lv_at hl 2 rfl) ?_
          refine lv_iload_n hx hb dX11_happens_92 rfl (lv_at hl 1 rfl) ?_
          obtain ⟨hPc, hDc, hFc, hJn⟩ := cl_a (wc := [(m0, .inr (11, oX11 ra y36)), (ra 2, .inl (kI, 8, .inl q_told)), (ra 3, .inl (kI, 24, .inl q_kind)), (ra 4, .inl (kI, 24, .inl q_salt)), (ra 5, .inl (kI, 24, .inl q_pace)), (ra 6, .inl (kI, 24, .inl q_mute)), (ra 7, .inl (kI, 24, .inl q_late)), (ra 8, .inl (kI, 40, .inl q_from)), (ra 9, .inl (kI, 40, .inl q_to)), (ra 10, .inl (kI, 6, .inl q_goal)), (ra 11, .inl (kI, 1019, .inl q_now)), (ra 14, .inl (kI, 12, .inl q_reach))]) (wr := [(ra 15, .inl (kJ, 24, .inr (.inl q_met)))]) hP hD hS hA [12, 11, 0, 1, 2, 3, 4, 5, 6, 7, 8, 9] [10] rfl rfl (by decide +kernel)
          refine va_calli (va_runV (As := [.int r14, .int r24]) (rest := []) ⟨hx, hb, hml, hown, hts⟩ (s11_traceNow l dC dI kB kI kJ kZ kC kS H.size m0 ra y36 q_told q_kind q_salt q_pace q_mute q_late q_from q_to q_goal q_now q_reach r14 r24 (hq37) (hq_told) (hq_salt) (hq_from) (hq_to) (hq_goal) (hq_now) (w15) (w25) (hLT) ((iv_eqL hq41 (iv_eqL hq31 (iv_eqL hq21 (iv_eqL hq8 hfl14)))))) (cwV 2 hts gX11_happens_X11_traceNow rfl rfl rfl (by decide +kernel) ⟨Nat.le_of_ble_eq_true rfl, Nat.le_of_ble_eq_true rfl⟩) ⟨fun a U g mk q => by obtain ⟨q0, q1, qP, qE, qD⟩ := q; exact ⟨q0, q1, qP, kE_call qE, qD⟩, va_recv hK hP (ci := 11) (q0 := 12) rfl rfl, fun U hU hW => ⟨rfl, by rw [hU], by rw [hU]; exact hPc, kE_warm hW hE, hDc.weaken (fun _ _ _ _ => trivial)⟩⟩ rfl rfl hl.1 rfl (lv_room (Nat.le_of_ble_eq_true rfl)) dX11_happens_93 ⟨Nat.le_of_ble_eq_true rfl, Nat.le_of_ble_eq_true rfl⟩) hS (fun q _ h => hFc q h) hFc (fun r46 u t H locs ht hvm w47 hB hz1 hk1 hS => ?_)
          obtain ⟨y48, f49, hq50, hq51, hq52, hq53, hq54, hq55, hP1, hD1⟩ := hB
          try dsimp only at w47
          obtain ⟨hPa, hDa⟩ := hJn (w1 := [(m0, .inr (11, oX11 ra y48)), (ra 2, .inl (kI, 8, .inl q_told)), (ra 3, .inl (kI, 24, .inl q_kind)), (ra 4, .inl (kI, 24, .inl q_salt)), (ra 5, .inl (kI, 24, .inl q_pace)), (ra 6, .inl (kI, 24, .inl q_mute)), (ra 7, .inl (kI, 24, .inl q_late)), (ra 8, .inl (kI, 40, .inl q_from)), (ra 9, .inl (kI, 40, .inl q_to)), (ra 10, .inl (kI, 6, .inl q_goal)), (ra 11, .inl (kI, 1019, .inl f49)), (ra 14, .inl (kI, 12, .inl q_reach))]) hk1 ht hP1 hD1
          clear hP hD hPc hDc hFc hJn hP1 hD1 hk1
          have hP : va_P (dC, dI) vwCl [(ra 15, .inl (kJ, 24, .inr (.inl q_met))), (m0, .inr (11, oX11 ra y48)), (ra 2, .inl (kI, 8, .inl q_told)), (ra 3, .inl (kI, 24, .inl q_kind)), (ra 4, .inl (kI, 24, .inl q_salt)), (ra 5, .inl (kI, 24, .inl q_pace)), (ra 6, .inl (kI, 24, .inl q_mute)), (ra 7, .inl (kI, 24, .inl q_late)), (ra 8, .inl (kI, 40, .inl q_from)), (ra 9, .inl (kI, 40, .inl q_to)), (ra 10, .inl (kI, 6, .inl q_goal)), (ra 11, .inl (kI, 1019, .inl f49)), (ra 14, .inl (kI, 12, .inl q_reach))] H := hPa
          have hD : va_D A [(ra 15, .inl (kJ, 24, .inr (.inl q_met))), (m0, .inr (11, oX11 ra y48)), (ra 2, .inl (kI, 8, .inl q_told)), (ra 3, .inl (kI, 24, .inl q_kind)), (ra 4, .inl (kI, 24, .inl q_salt)), (ra 5, .inl (kI, 24, .inl q_pace)), (ra 6, .inl (kI, 24, .inl q_mute)), (ra 7, .inl (kI, 24, .inl q_late)), (ra 8, .inl (kI, 40, .inl q_from)), (ra 9, .inl (kI, 40, .inl q_to)), (ra 10, .inl (kI, 6, .inl q_goal)), (ra 11, .inl (kI, 1019, .inl f49)), (ra 14, .inl (kI, 12, .inl q_reach))] := hDa
          clear hPa hDa
          refine W.widen (k := 0) (n := 0) (Nat.le_of_ble_eq_true rfl) (Nat.le_of_ble_eq_true rfl) ?_
          refine lv_istore (lv' := [(5, .int r46), (4, .int z42), (3, .int r24), (2, .int r14), (1, .int r1), (0, .ref m0)]) hx hb dX11_happens_96 hl (Nat.le_of_ble_eq_true rfl) rfl (fun ls hl => ?_)
          have hPD9 := cl_s (wc := [(m0, .inr (11, oX11 ra y48)), (ra 2, .inl (kI, 8, .inl q_told)), (ra 3, .inl (kI, 24, .inl q_kind)), (ra 4, .inl (kI, 24, .inl q_salt)), (ra 5, .inl (kI, 24, .inl q_pace)), (ra 6, .inl (kI, 24, .inl q_mute)), (ra 7, .inl (kI, 24, .inl q_late)), (ra 8, .inl (kI, 40, .inl q_from)), (ra 9, .inl (kI, 40, .inl q_to)), (ra 10, .inl (kI, 6, .inl q_goal)), (ra 11, .inl (kI, 1019, .inl f49)), (ra 14, .inl (kI, 12, .inl q_reach)), (ra 15, .inl (kJ, 24, .inr (.inl q_met)))]) hP hD [1, 2, 3, 4, 5, 6, 7, 8, 9, 10, 11, 12, 0] rfl (by decide +kernel)
          have hP9 := hPD9.1
          have hD9 := hPD9.2
          exact W.vret hx hb hr (fun t ht hW => ⟨⟨(), rfl, trivial, y48, f49, q_met, hq50, hq51, hq52, (show y48 1 = x0 1 from hq53.trans (hq38.trans (hq28.trans (hq18.trans (hq5))))), (show y48 10 = x0 10 from hq54.trans (hq39.trans (hq29.trans (hq19.trans (hq6))))), (show y48 11 = x0 11 from hq55.trans (hq40.trans (hq30.trans (hq20.trans (hq7))))), by rw [ht]; exact hP9, hD9⟩, hS.F ht⟩) hS.2.2 dX11_happens_98
        · have b56 : iv 0 1 r1 := iv_ltL (Int32.not_le.mp c44) b33 ivk_2 (by decide) (by decide)
          refine lv_aload_n hx hb dX11_happens_63 rfl (lv_at hl 4 rfl) ?_
          refine lv_iload_n hx hb dX11_happens_64 rfl (lv_at hl 2 rfl) ?_
          refine lv_iload_n hx hb dX11_happens_65 rfl (lv_at hl 1 rfl) ?_
          refine lv_iload hx hb dX11_happens_66 (lv_at hl 0 rfl) ?_
          refine lv_iconst (v := 1) hx hb dX11_happens_68 ic_1 ?_
          obtain ⟨hPc, hDc, hFc, hJn⟩ := cl_a (wc := [(m0, .inr (11, oX11 ra y36)), (ra 2, .inl (kI, 8, .inl q_told)), (ra 3, .inl (kI, 24, .inl q_kind)), (ra 4, .inl (kI, 24, .inl q_salt)), (ra 5, .inl (kI, 24, .inl q_pace)), (ra 6, .inl (kI, 24, .inl q_mute)), (ra 7, .inl (kI, 24, .inl q_late)), (ra 8, .inl (kI, 40, .inl q_from)), (ra 9, .inl (kI, 40, .inl q_to)), (ra 10, .inl (kI, 6, .inl q_goal)), (ra 11, .inl (kI, 1019, .inl q_now)), (ra 14, .inl (kI, 12, .inl q_reach))]) (wr := [(ra 15, .inl (kJ, 24, .inr (.inl q_met)))]) hP hD hS hA [12, 11, 0, 1, 2, 3, 4, 5, 6, 7, 8, 9] [10] rfl rfl (by decide +kernel)
          refine va_calli (va_runV (As := [.int r14, .int r24, .int z42, .int 1]) (rest := []) ⟨hx, hb, hml, hown, hts⟩ (s11_probeNow l dC dI kB kI kJ kZ kC kS H.size m0 ra y36 q_told q_kind q_salt q_pace q_mute q_late q_from q_to q_goal q_now q_reach r14 r24 z42 1 (hq37) (hq_told) (hq_salt) (hq_from) (hq_to) (hq_goal) (hq_now) (w15) (w25) (b43) (hLT)) (cwV 4 hts gX11_happens_X11_probeNow rfl rfl rfl (by decide +kernel) ⟨Nat.le_of_ble_eq_true rfl, Nat.le_of_ble_eq_true rfl⟩) ⟨fun a U g mk q => by obtain ⟨q0, q1, qP, qE, qD⟩ := q; exact ⟨q0, q1, qP, kE_call qE, qD⟩, va_recv hK hP (ci := 11) (q0 := 12) rfl rfl, fun U hU hW => ⟨rfl, by rw [hU], by rw [hU]; exact hPc, kE_warm hW hE, hDc.weaken (fun _ _ _ _ => trivial)⟩⟩ rfl rfl hl.1 rfl (lv_room (Nat.le_of_ble_eq_true rfl)) dX11_happens_69 ⟨Nat.le_of_ble_eq_true rfl, Nat.le_of_ble_eq_true rfl⟩) hS (fun q _ h => hFc q h) hFc (fun r57 u t H locs ht hvm w58 hB hz1 hk1 hS => ?_)
          obtain ⟨y59, f60, hq61, hq62, hq63, hq64, hq65, hq66, hP1, hD1⟩ := hB
          try dsimp only at w58
          obtain ⟨hPa, hDa⟩ := hJn (w1 := [(m0, .inr (11, oX11 ra y59)), (ra 2, .inl (kI, 8, .inl q_told)), (ra 3, .inl (kI, 24, .inl q_kind)), (ra 4, .inl (kI, 24, .inl q_salt)), (ra 5, .inl (kI, 24, .inl q_pace)), (ra 6, .inl (kI, 24, .inl q_mute)), (ra 7, .inl (kI, 24, .inl q_late)), (ra 8, .inl (kI, 40, .inl q_from)), (ra 9, .inl (kI, 40, .inl q_to)), (ra 10, .inl (kI, 6, .inl q_goal)), (ra 11, .inl (kI, 1019, .inl f60)), (ra 14, .inl (kI, 12, .inl q_reach))]) hk1 ht hP1 hD1
          clear hP hD hPc hDc hFc hJn hP1 hD1 hk1
          have hP : va_P (dC, dI) vwCl [(ra 15, .inl (kJ, 24, .inr (.inl q_met))), (m0, .inr (11, oX11 ra y59)), (ra 2, .inl (kI, 8, .inl q_told)), (ra 3, .inl (kI, 24, .inl q_kind)), (ra 4, .inl (kI, 24, .inl q_salt)), (ra 5, .inl (kI, 24, .inl q_pace)), (ra 6, .inl (kI, 24, .inl q_mute)), (ra 7, .inl (kI, 24, .inl q_late)), (ra 8, .inl (kI, 40, .inl q_from)), (ra 9, .inl (kI, 40, .inl q_to)), (ra 10, .inl (kI, 6, .inl q_goal)), (ra 11, .inl (kI, 1019, .inl f60)), (ra 14, .inl (kI, 12, .inl q_reach))] H := hPa
          have hD : va_D A [(ra 15, .inl (kJ, 24, .inr (.inl q_met))), (m0, .inr (11, oX11 ra y59)), (ra 2, .inl (kI, 8, .inl q_told)), (ra 3, .inl (kI, 24, .inl q_kind)), (ra 4, .inl (kI, 24, .inl q_salt)), (ra 5, .inl (kI, 24, .inl q_pace)), (ra 6, .inl (kI, 24, .inl q_mute)), (ra 7, .inl (kI, 24, .inl q_late)), (ra 8, .inl (kI, 40, .inl q_from)), (ra 9, .inl (kI, 40, .inl q_to)), (ra 10, .inl (kI, 6, .inl q_goal)), (ra 11, .inl (kI, 1019, .inl f60)), (ra 14, .inl (kI, 12, .inl q_reach))] := hDa
          clear hPa hDa
          refine W.widen (k := 0) (n := 0) (Nat.le_of_ble_eq_true rfl) (Nat.le_of_ble_eq_true rfl) ?_
          refine lv_goto (tgt := 96) hx hb dX11_happens_72 rfl ?_
          refine lv_istore (lv' := [(5, .int r57), (4, .int z42), (3, .int r24), (2, .int r14), (1, .int r1), (0, .ref m0)]) hx hb dX11_happens_96 hl (Nat.le_of_ble_eq_true rfl) rfl (fun ls hl => ?_)
          have hPD9 := cl_s (wc := [(m0, .inr (11, oX11 ra y59)), (ra 2, .inl (kI, 8, .inl q_told)), (ra 3, .inl (kI, 24, .inl q_kind)), (ra 4, .inl (kI, 24, .inl q_salt)), (ra 5, .inl (kI, 24, .inl q_pace)), (ra 6, .inl (kI, 24, .inl q_mute)), (ra 7, .inl (kI, 24, .inl q_late)), (ra 8, .inl (kI, 40, .inl q_from)), (ra 9, .inl (kI, 40, .inl q_to)), (ra 10, .inl (kI, 6, .inl q_goal)), (ra 11, .inl (kI, 1019, .inl f60)), (ra 14, .inl (kI, 12, .inl q_reach)), (ra 15, .inl (kJ, 24, .inr (.inl q_met)))]) hP hD [1, 2, 3, 4, 5, 6, 7, 8, 9, 10, 11, 12, 0] rfl (by decide +kernel)
          have hP9 := hPD9.1
          have hD9 := hPD9.2
          exact W.vret hx hb hr (fun t ht hW => ⟨⟨(), rfl, trivial, y59, f60, q_met, hq61, hq62, hq63, (show y59 1 = x0 1 from hq64.trans (hq38.trans (hq28.trans (hq18.trans (hq5))))), (show y59 10 = x0 10 from hq65.trans (hq39.trans (hq29.trans (hq19.trans (hq6))))), (show y59 11 = x0 11 from hq66.trans (hq40.trans (hq30.trans (hq20.trans (hq7))))), by rw [ht]; exact hP9, hD9⟩, hS.F ht⟩) hS.2.2 dX11_happens_98
      · have b67 : iv 3 3 r1 := iv_eqL c32 ivk_3
        refine lv_iconst (v := 0) hx hb dX11_happens_44 ic_0 ?_
        refine lv_goto (tgt := 56) hx hb dX11_happens_45 rfl ?_
        refine lv_istore (lv' := [(4, .int 0), (3, .int r24), (2, .int r14), (1, .int r1), (0, .ref m0)]) hx hb dX11_happens_56 hl (Nat.le_of_ble_eq_true rfl) rfl (fun ls hl => ?_)
        refine lv_iload_n hx hb dX11_happens_58 rfl (lv_at hl 3 rfl) ?_
        refine lv_iconst (v := 2) hx hb dX11_happens_59 ic_2 ?_
        refine lv_icmp_ge (tgt := 75) hx hb dX11_happens_60 rfl (fun _ => ?_) (fun c9 => absurd (iv_le ivk_2 b67 (by decide)) c9)
        refine lv_iload_n hx hb dX11_happens_75 rfl (lv_at hl 3 rfl) ?_
        refine lv_iconst (v := 2) hx hb dX11_happens_76 ic_2 ?_
        refine lv_icmp_ne (tgt := 90) hx hb dX11_happens_77 rfl (fun _ => ?_) (fun c9 => absurd c9 (c13))
        refine lv_aload_n hx hb dX11_happens_90 rfl (lv_at hl 4 rfl) ?_
        refine lv_iload_n hx hb dX11_happens_91 rfl (lv_at hl 2 rfl) ?_
        refine lv_iload_n hx hb dX11_happens_92 rfl (lv_at hl 1 rfl) ?_
        obtain ⟨hPc, hDc, hFc, hJn⟩ := cl_a (wc := [(m0, .inr (11, oX11 ra y26)), (ra 2, .inl (kI, 8, .inl q_told)), (ra 3, .inl (kI, 24, .inl q_kind)), (ra 4, .inl (kI, 24, .inl q_salt)), (ra 5, .inl (kI, 24, .inl q_pace)), (ra 6, .inl (kI, 24, .inl q_mute)), (ra 7, .inl (kI, 24, .inl q_late)), (ra 8, .inl (kI, 40, .inl q_from)), (ra 9, .inl (kI, 40, .inl q_to)), (ra 10, .inl (kI, 6, .inl q_goal)), (ra 11, .inl (kI, 1019, .inl q_now)), (ra 14, .inl (kI, 12, .inl q_reach))]) (wr := [(ra 15, .inl (kJ, 24, .inr (.inl q_met)))]) hP hD hS hA [12, 11, 0, 1, 2, 3, 4, 5, 6, 7, 8, 9] [10] rfl rfl (by decide +kernel)
        refine va_calli (va_runV (As := [.int r14, .int r24]) (rest := []) ⟨hx, hb, hml, hown, hts⟩ (s11_traceNow l dC dI kB kI kJ kZ kC kS H.size m0 ra y26 q_told q_kind q_salt q_pace q_mute q_late q_from q_to q_goal q_now q_reach r14 r24 (hq27) (hq_told) (hq_salt) (hq_from) (hq_to) (hq_goal) (hq_now) (w15) (w25) (hLT) ((iv_eqL hq31 (iv_eqL hq21 (iv_eqL hq8 hfl14))))) (cwV 2 hts gX11_happens_X11_traceNow rfl rfl rfl (by decide +kernel) ⟨Nat.le_of_ble_eq_true rfl, Nat.le_of_ble_eq_true rfl⟩) ⟨fun a U g mk q => by obtain ⟨q0, q1, qP, qE, qD⟩ := q; exact ⟨q0, q1, qP, kE_call qE, qD⟩, va_recv hK hP (ci := 11) (q0 := 12) rfl rfl, fun U hU hW => ⟨rfl, by rw [hU], by rw [hU]; exact hPc, kE_warm hW hE, hDc.weaken (fun _ _ _ _ => trivial)⟩⟩ rfl rfl hl.1 rfl (lv_room (Nat.le_of_ble_eq_true rfl)) dX11_happens_93 ⟨Nat.le_of_ble_eq_true rfl, Nat.le_of_ble_eq_true rfl⟩) hS (fun q _ h => hFc q h) hFc (fun r68 u t H locs ht hvm w69 hB hz1 hk1 hS => ?_)
        obtain ⟨y70, f71, hq72, hq73, hq74, hq75, hq76, hq77, hP1, hD1⟩ := hB
        try dsimp only at w69
        obtain ⟨hPa, hDa⟩ := hJn (w1 := [(m0, .inr (11, oX11 ra y70)), (ra 2, .inl (kI, 8, .inl q_told)), (ra 3, .inl (kI, 24, .inl q_kind)), (ra 4, .inl (kI, 24, .inl q_salt)), (ra 5, .inl (kI, 24, .inl q_pace)), (ra 6, .inl (kI, 24, .inl q_mute)), (ra 7, .inl (kI, 24, .inl q_late)), (ra 8, .inl (kI, 40, .inl q_from)), (ra 9, .inl (kI, 40, .inl q_to)), (ra 10, .inl (kI, 6, .inl q_goal)), (ra 11, .inl (kI, 1019, .inl f71)), (ra 14, .inl (kI, 12, .inl q_reach))]) hk1 ht hP1 hD1
        clear hP hD hPc hDc hFc hJn hP1 hD1 hk1
        have hP : va_P (dC, dI) vwCl [(ra 15, .inl (kJ, 24, .inr (.inl q_met))), (m0, .inr (11, oX11 ra y70)), (ra 2, .inl (kI, 8, .inl q_told)), (ra 3, .inl (kI, 24, .inl q_kind)), (ra 4, .inl (kI, 24, .inl q_salt)), (ra 5, .inl (kI, 24, .inl q_pace)), (ra 6, .inl (kI, 24, .inl q_mute)), (ra 7, .inl (kI, 24, .inl q_late)), (ra 8, .inl (kI, 40, .inl q_from)), (ra 9, .inl (kI, 40, .inl q_to)), (ra 10, .inl (kI, 6, .inl q_goal)), (ra 11, .inl (kI, 1019, .inl f71)), (ra 14, .inl (kI, 12, .inl q_reach))] H := hPa
        have hD : va_D A [(ra 15, .inl (kJ, 24, .inr (.inl q_met))), (m0, .inr (11, oX11 ra y70)), (ra 2, .inl (kI, 8, .inl q_told)), (ra 3, .inl (kI, 24, .inl q_kind)), (ra 4, .inl (kI, 24, .inl q_salt)), (ra 5, .inl (kI, 24, .inl q_pace)), (ra 6, .inl (kI, 24, .inl q_mute)), (ra 7, .inl (kI, 24, .inl q_late)), (ra 8, .inl (kI, 40, .inl q_from)), (ra 9, .inl (kI, 40, .inl q_to)), (ra 10, .inl (kI, 6, .inl q_goal)), (ra 11, .inl (kI, 1019, .inl f71)), (ra 14, .inl (kI, 12, .inl q_reach))] := hDa
        clear hPa hDa
        refine W.widen (k := 0) (n := 0) (Nat.le_of_ble_eq_true rfl) (Nat.le_of_ble_eq_true rfl) ?_
        refine lv_istore (lv' := [(5, .int r68), (4, .int 0), (3, .int r24), (2, .int r14), (1, .int r1), (0, .ref m0)]) hx hb dX11_happens_96 hl (Nat.le_of_ble_eq_true rfl) rfl (fun ls hl => ?_)
        have hPD9 := cl_s (wc := [(m0, .inr (11, oX11 ra y70)), (ra 2, .inl (kI, 8, .inl q_told)), (ra 3, .inl (kI, 24, .inl q_kind)), (ra 4, .inl (kI, 24, .inl q_salt)), (ra 5, .inl (kI, 24, .inl q_pace)), (ra 6, .inl (kI, 24, .inl q_mute)), (ra 7, .inl (kI, 24, .inl q_late)), (ra 8, .inl (kI, 40, .inl q_from)), (ra 9, .inl (kI, 40, .inl q_to)), (ra 10, .inl (kI, 6, .inl q_goal)), (ra 11, .inl (kI, 1019, .inl f71)), (ra 14, .inl (kI, 12, .inl q_reach)), (ra 15, .inl (kJ, 24, .inr (.inl q_met)))]) hP hD [1, 2, 3, 4, 5, 6, 7, 8, 9, 10, 11, 12, 0] rfl (by decide +kernel)
        have hP9 := hPD9.1
        have hD9 := hPD9.2
        exact W.vret hx hb hr (fun t ht hW => ⟨⟨(), rfl, trivial, y70, f71, q_met, hq72, hq73, hq74, (show y70 1 = x0 1 from hq75.trans (hq28.trans (hq18.trans (hq5)))), (show y70 10 = x0 10 from hq76.trans (hq29.trans (hq19.trans (hq6)))), (show y70 11 = x0 11 from hq77.trans (hq30.trans (hq20.trans (hq7)))), by rw [ht]; exact hP9, hD9⟩, hS.F ht⟩) hS.2.2 dX11_happens_98
    · have b78 : iv 2 2 r1 := iv_eqL c13 ivk_2
      refine lv_iconst (v := 0) hx hb dX11_happens_19 ic_0 ?_
      refine lv_goto (tgt := 29) hx hb dX11_happens_20 rfl ?_
      refine lv_istore_n (lv' := [(2, .int 0), (1, .int r1), (0, .ref m0)]) hx hb dX11_happens_29 rfl hl (Nat.le_of_ble_eq_true rfl) rfl (fun ls hl => ?_)
      refine lv_aload_n hx hb dX11_happens_30 rfl (lv_at hl 2 rfl) ?_
      refine lv_aload_n hx hb dX11_happens_31 rfl (lv_at hl 2 rfl) ?_
      obtain ⟨hPc, hDc, hFc, hJn⟩ := cl_a (wc := [(m0, .inr (11, oX11 ra y3)), (ra 2, .inl (kI, 8, .inl q_told))]) (wr := [(ra 3, .inl (kI, 24, .inl q_kind)), (ra 4, .inl (kI, 24, .inl q_salt)), (ra 5, .inl (kI, 24, .inl q_pace)), (ra 6, .inl (kI, 24, .inl q_mute)), (ra 7, .inl (kI, 24, .inl q_late)), (ra 8, .inl (kI, 40, .inl q_from)), (ra 9, .inl (kI, 40, .inl q_to)), (ra 10, .inl (kI, 6, .inl q_goal)), (ra 11, .inl (kI, 1019, .inl q_now)), (ra 14, .inl (kI, 12, .inl q_reach)), (ra 15, .inl (kJ, 24, .inr (.inl q_met)))]) hP hD hS hA [11, 12] [0, 1, 2, 3, 4, 5, 6, 7, 8, 9, 10] rfl rfl (by decide +kernel)
      refine va_calli (va_runV (As := []) (rest := [.ref m0]) ⟨hx, hb, hml, hown, hts⟩ (s11_goals l dC dI kB kI kJ kZ kC kS H.size m0 ra y3 q_told (hq4) (hq_told)) (cwV 0 hts gX11_happens_X11_goals rfl rfl rfl (by decide +kernel) ⟨Nat.le_of_ble_eq_true rfl, Nat.le_of_ble_eq_true rfl⟩) ⟨fun a U g mk q => by obtain ⟨q0, q1, qP, qE, qD⟩ := q; exact ⟨q0, q1, qP, kE_call qE, qD⟩, va_recv hK hP (ci := 11) (q0 := 11) rfl rfl, fun U hU hW => ⟨rfl, by rw [hU], by rw [hU]; exact hPc, kE_warm hW hE, hDc.weaken (fun _ _ _ _ => trivial)⟩⟩ rfl rfl hl.1 rfl (lv_room (Nat.le_of_ble_eq_true rfl)) dX11_happens_32 ⟨Nat.le_of_ble_eq_true rfl, Nat.le_of_ble_eq_true rfl⟩) hS (fun q _ h => hFc q h) hFc (fun r79 u t H locs ht hvm w80 hB hz1 hk1 hS => ?_)
      obtain ⟨hP1, hD1⟩ := hB
      try dsimp only at w80
      obtain ⟨hPa, hDa⟩ := hJn (w1 := [(m0, .inr (11, oX11 ra y3)), (ra 2, .inl (kI, 8, .inl q_told))]) hk1 ht hP1 hD1
      clear hP hD hPc hDc hFc hJn hP1 hD1 hk1
      have hP : va_P (dC, dI) vwCl [(ra 3, .inl (kI, 24, .inl q_kind)), (ra 4, .inl (kI, 24, .inl q_salt)), (ra 5, .inl (kI, 24, .inl q_pace)), (ra 6, .inl (kI, 24, .inl q_mute)), (ra 7, .inl (kI, 24, .inl q_late)), (ra 8, .inl (kI, 40, .inl q_from)), (ra 9, .inl (kI, 40, .inl q_to)), (ra 10, .inl (kI, 6, .inl q_goal)), (ra 11, .inl (kI, 1019, .inl q_now)), (ra 14, .inl (kI, 12, .inl q_reach)), (ra 15, .inl (kJ, 24, .inr (.inl q_met))), (m0, .inr (11, oX11 ra y3)), (ra 2, .inl (kI, 8, .inl q_told))] H := hPa
      have hD : va_D A [(ra 3, .inl (kI, 24, .inl q_kind)), (ra 4, .inl (kI, 24, .inl q_salt)), (ra 5, .inl (kI, 24, .inl q_pace)), (ra 6, .inl (kI, 24, .inl q_mute)), (ra 7, .inl (kI, 24, .inl q_late)), (ra 8, .inl (kI, 40, .inl q_from)), (ra 9, .inl (kI, 40, .inl q_to)), (ra 10, .inl (kI, 6, .inl q_goal)), (ra 11, .inl (kI, 1019, .inl q_now)), (ra 14, .inl (kI, 12, .inl q_reach)), (ra 15, .inl (kJ, 24, .inr (.inl q_met))), (m0, .inr (11, oX11 ra y3)), (ra 2, .inl (kI, 8, .inl q_told))] := hDa
      clear hPa hDa
      refine W.widen (k := 0) (n := 0) (Nat.le_of_ble_eq_true rfl) (Nat.le_of_ble_eq_true rfl) ?_
      subst w80
      obtain ⟨hPc, hDc, hFc, hJn⟩ := cl_a (wc := [(m0, .inr (11, oX11 ra y3))]) (wr := [(ra 3, .inl (kI, 24, .inl q_kind)), (ra 4, .inl (kI, 24, .inl q_salt)), (ra 5, .inl (kI, 24, .inl q_pace)), (ra 6, .inl (kI, 24, .inl q_mute)), (ra 7, .inl (kI, 24, .inl q_late)), (ra 8, .inl (kI, 40, .inl q_from)), (ra 9, .inl (kI, 40, .inl q_to)), (ra 10, .inl (kI, 6, .inl q_goal)), (ra 11, .inl (kI, 1019, .inl q_now)), (ra 14, .inl (kI, 12, .inl q_reach)), (ra 15, .inl (kJ, 24, .inr (.inl q_met))), (ra 2, .inl (kI, 8, .inl q_told))]) hP hD hS hA [11] [0, 1, 2, 3, 4, 5, 6, 7, 8, 9, 10, 12] rfl rfl (by decide +kernel)
      refine va_calli (va_runV (As := [.int (q_told 2)]) (rest := []) ⟨hx, hb, hml, hown, hts⟩ (s11_draw3 l dC dI kB kI kJ kZ kC kS H.size m0 ra y3 (q_told 2) (hq4) (b12)) (cwV 1 hts gX11_happens_X11_draw rfl rfl rfl (by decide +kernel) ⟨Nat.le_of_ble_eq_true rfl, Nat.le_of_ble_eq_true rfl⟩) ⟨fun a U g mk q => by obtain ⟨q0, q1, qP, qE, qD⟩ := q; exact ⟨q0, q1, qP, kE_call qE, qD⟩, va_recv hK hP (ci := 11) (q0 := 11) rfl rfl, fun U hU hW => ⟨rfl, by rw [hU], by rw [hU]; exact hPc, kE_warm hW hE, hDc.weaken (fun _ _ _ _ => trivial)⟩⟩ rfl rfl hl.1 rfl (lv_room (Nat.le_of_ble_eq_true rfl)) dX11_happens_35 ⟨Nat.le_of_ble_eq_true rfl, Nat.le_of_ble_eq_true rfl⟩) hS (fun q _ h => hFc q h) hFc (fun r81 u t H locs ht hvm w82 hB hz1 hk1 hS => ?_)
      obtain ⟨y83, hq84, hq85, hq86, hq87, hq88, hP1, hD1⟩ := hB
      try dsimp only at w82
      obtain ⟨hPa, hDa⟩ := hJn (w1 := [(m0, .inr (11, oX11 ra y83))]) hk1 ht hP1 hD1
      clear hP hD hPc hDc hFc hJn hP1 hD1 hk1
      have hP : va_P (dC, dI) vwCl [(ra 3, .inl (kI, 24, .inl q_kind)), (ra 4, .inl (kI, 24, .inl q_salt)), (ra 5, .inl (kI, 24, .inl q_pace)), (ra 6, .inl (kI, 24, .inl q_mute)), (ra 7, .inl (kI, 24, .inl q_late)), (ra 8, .inl (kI, 40, .inl q_from)), (ra 9, .inl (kI, 40, .inl q_to)), (ra 10, .inl (kI, 6, .inl q_goal)), (ra 11, .inl (kI, 1019, .inl q_now)), (ra 14, .inl (kI, 12, .inl q_reach)), (ra 15, .inl (kJ, 24, .inr (.inl q_met))), (ra 2, .inl (kI, 8, .inl q_told)), (m0, .inr (11, oX11 ra y83))] H := hPa
      have hD : va_D A [(ra 3, .inl (kI, 24, .inl q_kind)), (ra 4, .inl (kI, 24, .inl q_salt)), (ra 5, .inl (kI, 24, .inl q_pace)), (ra 6, .inl (kI, 24, .inl q_mute)), (ra 7, .inl (kI, 24, .inl q_late)), (ra 8, .inl (kI, 40, .inl q_from)), (ra 9, .inl (kI, 40, .inl q_to)), (ra 10, .inl (kI, 6, .inl q_goal)), (ra 11, .inl (kI, 1019, .inl q_now)), (ra 14, .inl (kI, 12, .inl q_reach)), (ra 15, .inl (kJ, 24, .inr (.inl q_met))), (ra 2, .inl (kI, 8, .inl q_told)), (m0, .inr (11, oX11 ra y83))] := hDa
      clear hPa hDa
      refine W.widen (k := 0) (n := 0) (Nat.le_of_ble_eq_true rfl) (Nat.le_of_ble_eq_true rfl) ?_
      refine lv_istore_n (lv' := [(3, .int r81), (2, .int 0), (1, .int r1), (0, .ref m0)]) hx hb dX11_happens_38 rfl hl (Nat.le_of_ble_eq_true rfl) rfl (fun ls hl => ?_)
      refine lv_iload_n hx hb dX11_happens_39 rfl (lv_at hl 2 rfl) ?_
      refine lv_iconst (v := 3) hx hb dX11_happens_40 ic_3 ?_
      refine lv_icmp_ne (tgt := 48) hx hb dX11_happens_41 rfl (fun _ => ?_) (fun c9 => absurd c9 (iv_ne b78 ivk_3 (by decide)))
      refine lv_aload_n hx hb dX11_happens_48 rfl (lv_at hl 3 rfl) ?_
      refine lv_bipush (v := 10) hx hb dX11_happens_49 bp_10 ?_
      obtain ⟨hPc, hDc, hFc, hJn⟩ := cl_a (wc := [(m0, .inr (11, oX11 ra y83))]) (wr := [(ra 3, .inl (kI, 24, .inl q_kind)), (ra 4, .inl (kI, 24, .inl q_salt)), (ra 5, .inl (kI, 24, .inl q_pace)), (ra 6, .inl (kI, 24, .inl q_mute)), (ra 7, .inl (kI, 24, .inl q_late)), (ra 8, .inl (kI, 40, .inl q_from)), (ra 9, .inl (kI, 40, .inl q_to)), (ra 10, .inl (kI, 6, .inl q_goal)), (ra 11, .inl (kI, 1019, .inl q_now)), (ra 14, .inl (kI, 12, .inl q_reach)), (ra 15, .inl (kJ, 24, .inr (.inl q_met))), (ra 2, .inl (kI, 8, .inl q_told))]) hP hD hS hA [12] [0, 1, 2, 3, 4, 5, 6, 7, 8, 9, 10, 11] rfl rfl (by decide +kernel)
      refine va_calli (va_runV (As := [.int 10]) (rest := []) ⟨hx, hb, hml, hown, hts⟩ (s11_draw10 l dC dI kB kI kJ kZ kC kS H.size m0 ra y83 10 (hq84) ((iv_w ivk_10 (by decide) (by decide)))) (cwV 1 hts gX11_happens_X11_draw rfl rfl rfl (by decide +kernel) ⟨Nat.le_of_ble_eq_true rfl, Nat.le_of_ble_eq_true rfl⟩) ⟨fun a U g mk q => by obtain ⟨q0, q1, qP, qE, qD⟩ := q; exact ⟨q0, q1, qP, kE_call qE, qD⟩, va_recv hK hP (ci := 11) (q0 := 12) rfl rfl, fun U hU hW => ⟨rfl, by rw [hU], by rw [hU]; exact hPc, kE_warm hW hE, hDc.weaken (fun _ _ _ _ => trivial)⟩⟩ rfl rfl hl.1 rfl (lv_room (Nat.le_of_ble_eq_true rfl)) dX11_happens_51 ⟨Nat.le_of_ble_eq_true rfl, Nat.le_of_ble_eq_true rfl⟩) hS (fun q _ h => hFc q h) hFc (fun r89 u t H locs ht hvm w90 hB hz1 hk1 hS => ?_)
      obtain ⟨y91, hq92, hq93, hq94, hq95, hq96, hP1, hD1⟩ := hB
      try dsimp only at w90
      obtain ⟨hPa, hDa⟩ := hJn (w1 := [(m0, .inr (11, oX11 ra y91))]) hk1 ht hP1 hD1
      clear hP hD hPc hDc hFc hJn hP1 hD1 hk1
      have hP : va_P (dC, dI) vwCl [(ra 3, .inl (kI, 24, .inl q_kind)), (ra 4, .inl (kI, 24, .inl q_salt)), (ra 5, .inl (kI, 24, .inl q_pace)), (ra 6, .inl (kI, 24, .inl q_mute)), (ra 7, .inl (kI, 24, .inl q_late)), (ra 8, .inl (kI, 40, .inl q_from)), (ra 9, .inl (kI, 40, .inl q_to)), (ra 10, .inl (kI, 6, .inl q_goal)), (ra 11, .inl (kI, 1019, .inl q_now)), (ra 14, .inl (kI, 12, .inl q_reach)), (ra 15, .inl (kJ, 24, .inr (.inl q_met))), (ra 2, .inl (kI, 8, .inl q_told)), (m0, .inr (11, oX11 ra y91))] H := hPa
      have hD : va_D A [(ra 3, .inl (kI, 24, .inl q_kind)), (ra 4, .inl (kI, 24, .inl q_salt)), (ra 5, .inl (kI, 24, .inl q_pace)), (ra 6, .inl (kI, 24, .inl q_mute)), (ra 7, .inl (kI, 24, .inl q_late)), (ra 8, .inl (kI, 40, .inl q_from)), (ra 9, .inl (kI, 40, .inl q_to)), (ra 10, .inl (kI, 6, .inl q_goal)), (ra 11, .inl (kI, 1019, .inl q_now)), (ra 14, .inl (kI, 12, .inl q_reach)), (ra 15, .inl (kJ, 24, .inr (.inl q_met))), (ra 2, .inl (kI, 8, .inl q_told)), (m0, .inr (11, oX11 ra y91))] := hDa
      clear hPa hDa
      refine W.widen (k := 0) (n := 0) (Nat.le_of_ble_eq_true rfl) (Nat.le_of_ble_eq_true rfl) ?_
      refine lv_iconst (v := 1) hx hb dX11_happens_54 ic_1 ?_
      refine lv_iadd hx hb dX11_happens_55 ?_
      refine iv_top (a := 1) (b := 10) (iv_add w90 ivk_1 (by decide) (by decide) (by decide) (by decide)) (fun z97 b98 => ?_)
      refine lv_istore (lv' := [(4, .int z97), (3, .int r81), (2, .int 0), (1, .int r1), (0, .ref m0)]) hx hb dX11_happens_56 hl (Nat.le_of_ble_eq_true rfl) rfl (fun ls hl => ?_)
      refine lv_iload_n hx hb dX11_happens_58 rfl (lv_at hl 3 rfl) ?_
      refine lv_iconst (v := 2) hx hb dX11_happens_59 ic_2 ?_
      refine lv_icmp_ge (tgt := 75) hx hb dX11_happens_60 rfl (fun _ => ?_) (fun c9 => absurd (iv_le ivk_2 b78 (by decide)) c9)
      refine lv_iload_n hx hb dX11_happens_75 rfl (lv_at hl 3 rfl) ?_
      refine lv_iconst (v := 2) hx hb dX11_happens_76 ic_2 ?_
      refine lv_icmp_ne (tgt := 90) hx hb dX11_happens_77 rfl (fun c9 => absurd (c13) c9) (fun _ => ?_)
      refine lv_aload_n hx hb dX11_happens_80 rfl (lv_at hl 4 rfl) ?_
      refine lv_iload_n hx hb dX11_happens_81 rfl (lv_at hl 1 rfl) ?_
      refine lv_iload hx hb dX11_happens_82 (lv_at hl 0 rfl) ?_
      obtain ⟨hPc, hDc, hFc, hJn⟩ := cl_a (wc := [(m0, .inr (11, oX11 ra y91)), (ra 2, .inl (kI, 8, .inl q_told)), (ra 3, .inl (kI, 24, .inl q_kind)), (ra 4, .inl (kI, 24, .inl q_salt)), (ra 5, .inl (kI, 24, .inl q_pace)), (ra 6, .inl (kI, 24, .inl q_mute)), (ra 7, .inl (kI, 24, .inl q_late)), (ra 8, .inl (kI, 40, .inl q_from)), (ra 9, .inl (kI, 40, .inl q_to)), (ra 10, .inl (kI, 6, .inl q_goal)), (ra 11, .inl (kI, 1019, .inl q_now)), (ra 14, .inl (kI, 12, .inl q_reach)), (ra 15, .inl (kJ, 24, .inr (.inl q_met)))]) (wr := []) hP hD hS hA [12, 11, 0, 1, 2, 3, 4, 5, 6, 7, 8, 9, 10] [] rfl rfl (by decide +kernel)
      refine va_calli (va_runV (As := [.int r81, .int z97]) (rest := []) ⟨hx, hb, hml, hown, hts⟩ (s11_sweepNow l dC dI kB kI kJ kZ kC kS H.size m0 ra y91 q_told q_kind q_salt q_pace q_mute q_late q_from q_to q_goal q_now q_reach q_met r81 z97 (hq92) (hq_told) (hq_salt) (hq_from) (hq_to) (hq_goal) (hq_now) (w82) (b98) (hLT) ((iv_eqL hq96 (iv_eqL hq88 (iv_eqL hq8 hfl14))))) (cwV 2 hts gX11_happens_X11_sweepNow rfl rfl rfl (by decide +kernel) ⟨Nat.le_of_ble_eq_true rfl, Nat.le_of_ble_eq_true rfl⟩) ⟨fun a U g mk q => by obtain ⟨q0, q1, qP, qE, qD⟩ := q; exact ⟨q0, q1, qP, kE_call qE, qD⟩, va_recv hK hP (ci := 11) (q0 := 12) rfl rfl, fun U hU hW => ⟨rfl, by rw [hU], by rw [hU]; exact hPc, kE_warm hW hE, hDc.weaken (fun _ _ _ _ => trivial)⟩⟩ rfl rfl hl.1 rfl (lv_room (Nat.le_of_ble_eq_true rfl)) dX11_happens_84 ⟨Nat.le_of_ble_eq_true rfl, Nat.le_of_ble_eq_true rfl⟩) hS (fun q _ h => hFc q h) hFc (fun r99 u t H locs ht hvm w100 hB hz1 hk1 hS => ?_)
      obtain ⟨y101, f102, f103, hq104, hq105, hq106, hq107, hq108, hq109, hP1, hD1⟩ := hB
      try dsimp only at w100
      obtain ⟨hPa, hDa⟩ := hJn (w1 := [(m0, .inr (11, oX11 ra y101)), (ra 2, .inl (kI, 8, .inl q_told)), (ra 3, .inl (kI, 24, .inl q_kind)), (ra 4, .inl (kI, 24, .inl q_salt)), (ra 5, .inl (kI, 24, .inl q_pace)), (ra 6, .inl (kI, 24, .inl q_mute)), (ra 7, .inl (kI, 24, .inl q_late)), (ra 8, .inl (kI, 40, .inl q_from)), (ra 9, .inl (kI, 40, .inl q_to)), (ra 10, .inl (kI, 6, .inl q_goal)), (ra 11, .inl (kI, 1019, .inl f102)), (ra 14, .inl (kI, 12, .inl q_reach)), (ra 15, .inl (kJ, 24, .inr (.inl f103)))]) hk1 ht hP1 hD1
      clear hP hD hPc hDc hFc hJn hP1 hD1 hk1
      have hP : va_P (dC, dI) vwCl [(m0, .inr (11, oX11 ra y101)), (ra 2, .inl (kI, 8, .inl q_told)), (ra 3, .inl (kI, 24, .inl q_kind)), (ra 4, .inl (kI, 24, .inl q_salt)), (ra 5, .inl (kI, 24, .inl q_pace)), (ra 6, .inl (kI, 24, .inl q_mute)), (ra 7, .inl (kI, 24, .inl q_late)), (ra 8, .inl (kI, 40, .inl q_from)), (ra 9, .inl (kI, 40, .inl q_to)), (ra 10, .inl (kI, 6, .inl q_goal)), (ra 11, .inl (kI, 1019, .inl f102)), (ra 14, .inl (kI, 12, .inl q_reach)), (ra 15, .inl (kJ, 24, .inr (.inl f103)))] H := hPa
      have hD : va_D A [(m0, .inr (11, oX11 ra y101)), (ra 2, .inl (kI, 8, .inl q_told)), (ra 3, .inl (kI, 24, .inl q_kind)), (ra 4, .inl (kI, 24, .inl q_salt)), (ra 5, .inl (kI, 24, .inl q_pace)), (ra 6, .inl (kI, 24, .inl q_mute)), (ra 7, .inl (kI, 24, .inl q_late)), (ra 8, .inl (kI, 40, .inl q_from)), (ra 9, .inl (kI, 40, .inl q_to)), (ra 10, .inl (kI, 6, .inl q_goal)), (ra 11, .inl (kI, 1019, .inl f102)), (ra 14, .inl (kI, 12, .inl q_reach)), (ra 15, .inl (kJ, 24, .inr (.inl f103)))] := hDa
      clear hPa hDa
      refine W.widen (k := 0) (n := 0) (Nat.le_of_ble_eq_true rfl) (Nat.le_of_ble_eq_true rfl) ?_
      refine lv_goto (tgt := 96) hx hb dX11_happens_87 rfl ?_
      refine lv_istore (lv' := [(5, .int r99), (4, .int z97), (3, .int r81), (2, .int 0), (1, .int r1), (0, .ref m0)]) hx hb dX11_happens_96 hl (Nat.le_of_ble_eq_true rfl) rfl (fun ls hl => ?_)
      have hP9 := hP
      have hD9 := hD
      exact W.vret hx hb hr (fun t ht hW => ⟨⟨(), rfl, trivial, y101, f102, f103, hq104, hq105, hq106, (show y101 1 = x0 1 from hq107.trans (hq93.trans (hq85.trans (hq5)))), (show y101 10 = x0 10 from hq108.trans (hq94.trans (hq86.trans (hq6)))), (show y101 11 = x0 11 from hq109.trans (hq95.trans (hq87.trans (hq7)))), by rw [ht]; exact hP9, hD9⟩, hS.F ht⟩) hS.2.2 dX11_happens_98
  · have b110 : iv 0 0 (q_told 2) := iv_eqL c11 ivk_0
    have hPD9 := cl_s (wc := [(m0, .inr (11, oX11 ra y3)), (ra 2, .inl (kI, 8, .inl q_told)), (ra 3, .inl (kI, 24, .inl q_kind)), (ra 4, .inl (kI, 24, .inl q_salt)), (ra 5, .inl (kI, 24, .inl q_pace)), (ra 6, .inl (kI, 24, .inl q_mute)), (ra 7, .inl (kI, 24, .inl q_late)), (ra 8, .inl (kI, 40, .inl q_from)), (ra 9, .inl (kI, 40, .inl q_to)), (ra 10, .inl (kI, 6, .inl q_goal)), (ra 11, .inl (kI, 1019, .inl q_now)), (ra 14, .inl (kI, 12, .inl q_reach)), (ra 15, .inl (kJ, 24, .inr (.inl q_met)))]) hP hD [11, 12, 0, 1, 2, 3, 4, 5, 6, 7, 8, 9, 10] rfl (by decide +kernel)
    have hP9 := hPD9.1
    have hD9 := hPD9.2
    exact W.vret hx hb hr (fun t ht hW => ⟨⟨(), rfl, trivial, y3, q_now, q_met, hq4, (iv_eqL hq8 hfl14), hq_now, (show y3 1 = x0 1 from hq5), (show y3 10 = x0 10 from hq6), (show y3 11 = x0 11 from hq7), by rw [ht]; exact hP9, hD9⟩, hS.F ht⟩) hS.2.2 dX11_happens_13
def rm_s11_probe : Room := { frames := 5, cells := 0, slots := 0, locals := 130 }
set_option maxHeartbeats 4000000 in
set_option maxRecDepth 100000 in
theorem s11_probe (l : Launch) (dC : Nat → ClassId) (dI : Nat → Nat → Nat) (kB kI kJ kZ kC kS : ClassId) (sz : Nat) (m0 : Nat) (ra : Nat → Nat) (x0 : Nat → Int32) (q_told : Nat → Int32) (q_kind : Nat → Int32) (q_salt : Nat → Int32) (q_pace : Nat → Int32) (q_mute : Nat → Int32) (q_late : Nat → Int32) (q_from : Nat → Int32) (q_to : Nat → Int32) (q_goal : Nat → Int32) (q_now : Nat → Int32) (q_status : Nat → Int32) (q_reach : Nat → Int32) (q_past : Nat → Int32) (p0 : Int32) (p1 : Int32) (p2 : Int32) (hX : fI lX11 hX11 x0) (hq_told : fI lTold hTold q_told) (hq_salt : fI (fun _ => 0) (fun _ => 15) q_salt) (hq_from : fI (fun _ => 0) (fun _ => 11) q_from) (hq_to : fI (fun _ => 0) (fun _ => 11) q_to) (hq_goal : fI (fun _ => 0) (fun _ => 11) q_goal) (hq_now : fI lNow hNow q_now) (hq_past : fI lPast hPast q_past) (hLT : ∀ j : Nat, (j : Int) < (q_told 1).toInt → (q_from j).toInt < (q_to j).toInt) (hfl14 : iv 0 0 (x0 14)) : Met l yX11_probe wsX11_probe rm_s11_probe (va_Pc [.ref m0, .int p0, .int p1, .int p2] (fun U => U.heap.size = sz ∧ va_P (dC, dI) vwCl [(m0, .inr (11, oX11 ra x0)), (ra 2, .inl (kI, 8, .inl q_told)), (ra 3, .inl (kI, 24, .inl q_kind)), (ra 4, .inl (kI, 24, .inl q_salt)), (ra 5, .inl (kI, 24, .inl q_pace)), (ra 6, .inl (kI, 24, .inl q_mute)), (ra 7, .inl (kI, 24, .inl q_late)), (ra 8, .inl (kI, 40, .inl q_from)), (ra 9, .inl (kI, 40, .inl q_to)), (ra 10, .inl (kI, 6, .inl q_goal)), (ra 11, .inl (kI, 1019, .inl q_now)), (ra 12, .inl (kI, 3, .inl q_status)), (ra 14, .inl (kI, 12, .inl q_reach)), (ra 16, .inl (kI, 40760, .inl q_past))] U.heap ∧ kE dC dI kB kI kJ kZ kC kS U ∧ va_D (fun _ => True) [(m0, .inr (11, oX11 ra x0)), (ra 2, .inl (kI, 8, .inl q_told)), (ra 3, .inl (kI, 24, .inl q_kind)), (ra 4, .inl (kI, 24, .inl q_salt)), (ra 5, .inl (kI, 24, .inl q_pace)), (ra 6, .inl (kI, 24, .inl q_mute)), (ra 7, .inl (kI, 24, .inl q_late)), (ra 8, .inl (kI, 40, .inl q_from)), (ra 9, .inl (kI, 40, .inl q_to)), (ra 10, .inl (kI, 6, .inl q_goal)), (ra 11, .inl (kI, 1019, .inl q_now)), (ra 12, .inl (kI, 3, .inl q_status)), (ra 14, .inl (kI, 12, .inl q_reach)), (ra 16, .inl (kI, 40760, .inl q_past))])) (va_Qi (fun (r : Int32) (_ : Unit) => iv (-2) 20 r) (fun _ t => ∃ (x0' : Nat → Int32) (q_now' : Nat → Int32) (q_status' : Nat → Int32) (q_past' : Nat → Int32), fI lX11 hX11 x0' ∧ iv 0 0 (x0' 14) ∧ fI lNow hNow q_now' ∧ fI lPast hPast q_past' ∧ (x0' 1 = x0 1) ∧ (x0' 10 = x0 10) ∧ (x0' 11 = x0 11) ∧ va_P (dC, dI) vwCl [(m0, .inr (11, oX11 ra x0')), (ra 2, .inl (kI, 8, .inl q_told)), (ra 3, .inl (kI, 24, .inl q_kind)), (ra 4, .inl (kI, 24, .inl q_salt)), (ra 5, .inl (kI, 24, .inl q_pace)), (ra 6, .inl (kI, 24, .inl q_mute)), (ra 7, .inl (kI, 24, .inl q_late)), (ra 8, .inl (kI, 40, .inl q_from)), (ra 9, .inl (kI, 40, .inl q_to)), (ra 10, .inl (kI, 6, .inl q_goal)), (ra 11, .inl (kI, 1019, .inl q_now')), (ra 12, .inl (kI, 3, .inl q_status')), (ra 14, .inl (kI, 12, .inl q_reach)), (ra 16, .inl (kI, 40760, .inl q_past'))] t.heap ∧ va_D (va_A [(m0, .inr (11, oX11 ra x0)), (ra 2, .inl (kI, 8, .inl q_told)), (ra 3, .inl (kI, 24, .inl q_kind)), (ra 4, .inl (kI, 24, .inl q_salt)), (ra 5, .inl (kI, 24, .inl q_pace)), (ra 6, .inl (kI, 24, .inl q_mute)), (ra 7, .inl (kI, 24, .inl q_late)), (ra 8, .inl (kI, 40, .inl q_from)), (ra 9, .inl (kI, 40, .inl q_to)), (ra 10, .inl (kI, 6, .inl q_goal)), (ra 11, .inl (kI, 1019, .inl q_now)), (ra 12, .inl (kI, 3, .inl q_status)), (ra 14, .inl (kI, 12, .inl q_reach)), (ra 16, .inl (kI, 40760, .inl q_past))] sz) [(m0, .inr (11, oX11 ra x0')), (ra 2, .inl (kI, 8, .inl q_told)), (ra 3, .inl (kI, 24, .inl q_kind)), (ra 4, .inl (kI, 24, .inl q_salt)), (ra 5, .inl (kI, 24, .inl q_pace)), (ra 6, .inl (kI, 24, .inl q_mute)), (ra 7, .inl (kI, 24, .inl q_late)), (ra 8, .inl (kI, 40, .inl q_from)), (ra 9, .inl (kI, 40, .inl q_to)), (ra 10, .inl (kI, 6, .inl q_goal)), (ra 11, .inl (kI, 1019, .inl q_now')), (ra 12, .inl (kI, 3, .inl q_status')), (ra 14, .inl (kI, 12, .inl q_reach)), (ra 16, .inl (kI, 40760, .inl q_past'))]) (va_A [(m0, .inr (11, oX11 ra x0)), (ra 2, .inl (kI, 8, .inl q_told)), (ra 3, .inl (kI, 24, .inl q_kind)), (ra 4, .inl (kI, 24, .inl q_salt)), (ra 5, .inl (kI, 24, .inl q_pace)), (ra 6, .inl (kI, 24, .inl q_mute)), (ra 7, .inl (kI, 24, .inl q_late)), (ra 8, .inl (kI, 40, .inl q_from)), (ra 9, .inl (kI, 40, .inl q_to)), (ra 10, .inl (kI, 6, .inl q_goal)), (ra 11, .inl (kI, 1019, .inl q_now)), (ra 12, .inl (kI, 3, .inl q_status)), (ra 14, .inl (kI, 12, .inl q_reach)), (ra 16, .inl (kI, 40760, .inl q_past))] sz)) 0 0 (va_A [(m0, .inr (11, oX11 ra x0)), (ra 2, .inl (kI, 8, .inl q_told)), (ra 3, .inl (kI, 24, .inl q_kind)), (ra 4, .inl (kI, 24, .inl q_salt)), (ra 5, .inl (kI, 24, .inl q_pace)), (ra 6, .inl (kI, 24, .inl q_mute)), (ra 7, .inl (kI, 24, .inl q_late)), (ra 8, .inl (kI, 40, .inl q_from)), (ra 9, .inl (kI, 40, .inl q_to)), (ra 10, .inl (kI, 6, .inl q_goal)), (ra 11, .inl (kI, 1019, .inl q_now)), (ra 12, .inl (kI, 3, .inl q_status)), (ra 14, .inl (kI, 12, .inl q_reach)), (ra 16, .inl (kI, 40760, .inl q_past))] sz) := by
  refine Met.ofW (cc := cX11_probe) (maxL := 4) (ret := (some .int)) (by decide) rfl ?_
  intro p e s m args0 below meth c s₁ B hml hv
  obtain ⟨hargs, hsz, hP, hE, hD0⟩ := hv
  have hx := B.exec
  have hb := B.bytes
  have hr := B.returns
  have hts := atoms_spec (ws := wsX11_probe) B.pre
  have hown : s.vm.findClass RX11 = some m.cls := findClass_of_methodNamed B.named
  have hlocks := B.notSynchronized
  have hK := hE.1
  have hin11 : ∀ w ∈ wsX110, w ∈ wsX11_probe := fun _ h9 => List.mem_cons_of_mem _ (List.mem_append_right _ h9)
  have hw_0 := hts (.fieldLink RX11 142 "PathProberModel" "code" "I") (List.mem_of_getElem? (i := 1) rfl)
  subst hsz
  have hD := hD0.self (sz := s.heap.size)
  generalize hAe : va_A [(m0, .inr (11, oX11 ra x0)), (ra 2, .inl (kI, 8, .inl q_told)), (ra 3, .inl (kI, 24, .inl q_kind)), (ra 4, .inl (kI, 24, .inl q_salt)), (ra 5, .inl (kI, 24, .inl q_pace)), (ra 6, .inl (kI, 24, .inl q_mute)), (ra 7, .inl (kI, 24, .inl q_late)), (ra 8, .inl (kI, 40, .inl q_from)), (ra 9, .inl (kI, 40, .inl q_to)), (ra 10, .inl (kI, 6, .inl q_goal)), (ra 11, .inl (kI, 1019, .inl q_now)), (ra 12, .inl (kI, 3, .inl q_status)), (ra 14, .inl (kI, 12, .inl q_reach)), (ra 16, .inl (kI, 40760, .inl q_past))] s.heap.size = A at hD ⊢
  have hA : ∀ q : Nat, s.heap.size ≤ q → A q := fun q h => by rw [← hAe]; exact Or.inr h
  have hS : va_S A s.heap s.heap [] := va_S.rf
  have hP : va_P (dC, dI) vwCl [(m0, .inr (11, oX11 ra x0)), (ra 2, .inl (kI, 8, .inl q_told)), (ra 3, .inl (kI, 24, .inl q_kind)), (ra 4, .inl (kI, 24, .inl q_salt)), (ra 5, .inl (kI, 24, .inl q_pace)), (ra 6, .inl (kI, 24, .inl q_mute)), (ra 7, .inl (kI, 24, .inl q_late)), (ra 8, .inl (kI, 40, .inl q_from)), (ra 9, .inl (kI, 40, .inl q_to)), (ra 10, .inl (kI, 6, .inl q_goal)), (ra 11, .inl (kI, 1019, .inl q_now)), (ra 12, .inl (kI, 3, .inl q_status)), (ra 14, .inl (kI, 12, .inl q_reach)), (ra 16, .inl (kI, 40760, .inl q_past))] s.heap := hP
  have hl := lv_entry ([.ref m0, .int p0, .int p1, .int p2]) (n := 4) (Nat.le_of_ble_eq_true rfl)
  have hla : entryFrame m args0 4 = entryFrame m ([.ref m0, .int p0, .int p1, .int p2] : List Value).toArray 4 := by rw [hargs]
  rw [hla, lg_entry_eq]
  generalize (lg_sl ([.ref m0, .int p0, .int p1, .int p2]) ++ List.replicate (4 - (lg_sl ([.ref m0, .int p0, .int p1, .int p2])).length) Slot.unset).toArray = ls at hl ⊢
  have hl : lv_has ls 4 [(0, .ref m0), (1, .int p0), (2, .int p1), (3, .int p2)] := hl
  have hJ27 : ∀ (y27_0 : Nat → Int32) (H : Heap) (locs : List Loc) (ls : Array Slot), fI lX11 hX11 y27_0 → iv 0 0 (y27_0 0) → iv 0 0 (y27_0 14) → (y27_0 1 = x0 1) → (y27_0 10 = x0 10) → (y27_0 11 = x0 11) → va_P (dC, dI) vwCl [(m0, .inr (11, oX11 ra y27_0)), (ra 2, .inl (kI, 8, .inl q_told)), (ra 3, .inl (kI, 24, .inl q_kind)), (ra 4, .inl (kI, 24, .inl q_salt)), (ra 5, .inl (kI, 24, .inl q_pace)), (ra 6, .inl (kI, 24, .inl q_mute)), (ra 7, .inl (kI, 24, .inl q_late)), (ra 8, .inl (kI, 40, .inl q_from)), (ra 9, .inl (kI, 40, .inl q_to)), (ra 10, .inl (kI, 6, .inl q_goal)), (ra 11, .inl (kI, 1019, .inl q_now)), (ra 12, .inl (kI, 3, .inl q_status)), (ra 14, .inl (kI, 12, .inl q_reach)), (ra 16, .inl (kI, 40760, .inl q_past))] H → va_D A [(m0, .inr (11, oX11 ra y27_0)), (ra 2, .inl (kI, 8, .inl q_told)), (ra 3, .inl (kI, 24, .inl q_kind)), (ra 4, .inl (kI, 24, .inl q_salt)), (ra 5, .inl (kI, 24, .inl q_pace)), (ra 6, .inl (kI, 24, .inl q_mute)), (ra 7, .inl (kI, 24, .inl q_late)), (ra 8, .inl (kI, 40, .inl q_from)), (ra 9, .inl (kI, 40, .inl q_to)), (ra 10, .inl (kI, 6, .inl q_goal)), (ra 11, .inl (kI, 1019, .inl q_now)), (ra 12, .inl (kI, 3, .inl q_status)), (ra 14, .inl (kI, 12, .inl q_reach)), (ra 16, .inl (kI, 40760, .inl q_past))] → va_S A s.heap H locs → lv_has ls 4 [(0, .ref m0), (1, .int p0), (2, .int p1), (3, .int p2)] → W p l e (headSpec wsX11_probe rm_s11_probe).room s m args0 below meth c H locs (0) (0) (MQ below (va_Qi (fun (r : Int32) (_ : Unit) => iv (-2) 20 r) (fun _ t => ∃ (x0' : Nat → Int32) (q_now' : Nat → Int32) (q_status' : Nat → Int32) (q_past' : Nat → Int32), fI lX11 hX11 x0' ∧ iv 0 0 (x0' 14) ∧ fI lNow hNow q_now' ∧ fI lPast hPast q_past' ∧ (x0' 1 = x0 1) ∧ (x0' 10 = x0 10) ∧ (x0' 11 = x0 11) ∧ va_P (dC, dI) vwCl [(m0, .inr (11, oX11 ra x0')), (ra 2, .inl (kI, 8, .inl q_told)), (ra 3, .inl (kI, 24, .inl q_kind)), (ra 4, .inl (kI, 24, .inl q_salt)), (ra 5, .inl (kI, 24, .inl q_pace)), (ra 6, .inl (kI, 24, .inl q_mute)), (ra 7, .inl (kI, 24, .inl q_late)), (ra 8, .inl (kI, 40, .inl q_from)), (ra 9, .inl (kI, 40, .inl q_to)), (ra 10, .inl (kI, 6, .inl q_goal)), (ra 11, .inl (kI, 1019, .inl q_now')), (ra 12, .inl (kI, 3, .inl q_status')), (ra 14, .inl (kI, 12, .inl q_reach)), (ra 16, .inl (kI, 40760, .inl q_past'))] t.heap ∧ va_D A [(m0, .inr (11, oX11 ra x0')), (ra 2, .inl (kI, 8, .inl q_told)), (ra 3, .inl (kI, 24, .inl q_kind)), (ra 4, .inl (kI, 24, .inl q_salt)), (ra 5, .inl (kI, 24, .inl q_pace)), (ra 6, .inl (kI, 24, .inl q_mute)), (ra 7, .inl (kI, 24, .inl q_late)), (ra 8, .inl (kI, 40, .inl q_from)), (ra 9, .inl (kI, 40, .inl q_to)), (ra 10, .inl (kI, 6, .inl q_goal)), (ra 11, .inl (kI, 1019, .inl q_now')), (ra 12, .inl (kI, 3, .inl q_status')), (ra 14, .inl (kI, 12, .inl q_reach)), (ra 16, .inl (kI, 40760, .inl q_past'))]) A) args0 s 0 0 A) (F0 m 27 ls []) := by
    intro y27_0 H locs ls hI27_0 h27_2 h27_3 htp_27 hfp_27 hor_27 hP hD hS hl
    refine lv_aload_n hx hb dX11_probe_27 rfl (lv_at hl 0 rfl) ?_
    refine lv_iconst (v := 1) hx hb dX11_probe_28 ic_1 ?_
    obtain ⟨hPc, hDc, hFc, hJn⟩ := cl_a (wc := [(m0, .inr (11, oX11 ra y27_0)), (ra 12, .inl (kI, 3, .inl q_status))]) (wr := [(ra 2, .inl (kI, 8, .inl q_told)), (ra 3, .inl (kI, 24, .inl q_kind)), (ra 4, .inl (kI, 24, .inl q_salt)), (ra 5, .inl (kI, 24, .inl q_pace)), (ra 6, .inl (kI, 24, .inl q_mute)), (ra 7, .inl (kI, 24, .inl q_late)), (ra 8, .inl (kI, 40, .inl q_from)), (ra 9, .inl (kI, 40, .inl q_to)), (ra 10, .inl (kI, 6, .inl q_goal)), (ra 11, .inl (kI, 1019, .inl q_now)), (ra 14, .inl (kI, 12, .inl q_reach)), (ra 16, .inl (kI, 40760, .inl q_past))]) hP hD hS hA [0, 11] [1, 2, 3, 4, 5, 6, 7, 8, 9, 10, 12, 13] rfl rfl (by decide +kernel)
    refine va_calli (va_runV (As := [.int 1]) (rest := []) ⟨hx, hb, hml, hown, hts⟩ (s11_refuse l dC dI kB kI kJ kZ kC kS H.size m0 ra y27_0 q_status 1 (hI27_0) ((iv_w ivk_1 (by decide) (by decide)))) (cwV 1 hts gX11_probe_X11_refuse rfl rfl rfl (by decide +kernel) ⟨Nat.le_of_ble_eq_true rfl, Nat.le_of_ble_eq_true rfl⟩) ⟨fun a U g mk q => by obtain ⟨q0, q1, qP, qE, qD⟩ := q; exact ⟨q0, q1, qP, kE_call qE, qD⟩, va_recv hK hP (ci := 11) (q0 := 0) rfl rfl, fun U hU hW => ⟨rfl, by rw [hU], by rw [hU]; exact hPc, kE_warm hW hE, hDc.weaken (fun _ _ _ _ => trivial)⟩⟩ rfl rfl hl.1 rfl (lv_room (Nat.le_of_ble_eq_true rfl)) dX11_probe_29 ⟨Nat.le_of_ble_eq_true rfl, Nat.le_of_ble_eq_true rfl⟩) hS (fun q _ h => hFc q h) hFc (fun r1 u t H locs ht hvm w2 hB hz1 hk1 hS => ?_)
    obtain ⟨f3, hP1, hD1⟩ := hB
    try dsimp only at w2
    obtain ⟨hPa, hDa⟩ := hJn (w1 := [(m0, .inr (11, oX11 ra y27_0)), (ra 12, .inl (kI, 3, .inl f3))]) hk1 ht hP1 hD1
    clear hP hD hPc hDc hFc hJn hP1 hD1 hk1
    have hP : va_P (dC, dI) vwCl [(ra 2, .inl (kI, 8, .inl q_told)), (ra 3, .inl (kI, 24, .inl q_kind)), (ra 4, .inl (kI, 24, .inl q_salt)), (ra 5, .inl (kI, 24, .inl q_pace)), (ra 6, .inl (kI, 24, .inl q_mute)), (ra 7, .inl (kI, 24, .inl q_late)), (ra 8, .inl (kI, 40, .inl q_from)), (ra 9, .inl (kI, 40, .inl q_to)), (ra 10, .inl (kI, 6, .inl q_goal)), (ra 11, .inl (kI, 1019, .inl q_now)), (ra 14, .inl (kI, 12, .inl q_reach)), (ra 16, .inl (kI, 40760, .inl q_past)), (m0, .inr (11, oX11 ra y27_0)), (ra 12, .inl (kI, 3, .inl f3))] H := hPa
    have hD : va_D A [(ra 2, .inl (kI, 8, .inl q_told)), (ra 3, .inl (kI, 24, .inl q_kind)), (ra 4, .inl (kI, 24, .inl q_salt)), (ra 5, .inl (kI, 24, .inl q_pace)), (ra 6, .inl (kI, 24, .inl q_mute)), (ra 7, .inl (kI, 24, .inl q_late)), (ra 8, .inl (kI, 40, .inl q_from)), (ra 9, .inl (kI, 40, .inl q_to)), (ra 10, .inl (kI, 6, .inl q_goal)), (ra 11, .inl (kI, 1019, .inl q_now)), (ra 14, .inl (kI, 12, .inl q_reach)), (ra 16, .inl (kI, 40760, .inl q_past)), (m0, .inr (11, oX11 ra y27_0)), (ra 12, .inl (kI, 3, .inl f3))] := hDa
    clear hPa hDa
    refine W.widen (k := 0) (n := 0) (Nat.le_of_ble_eq_true rfl) (Nat.le_of_ble_eq_true rfl) ?_
    obtain rfl : r1 = (-1) := iv_one w2 (by decide)
    refine lv_iconst (v := 1) hx hb dX11_probe_32 ic_1 ?_
    refine lv_isub hx hb dX11_probe_33 ?_
    refine lv_topi (fun z4 e5 => ?_)
    obtain rfl : z4 = ((-2) : Int32) := e5.trans (by decide)
    have hPD9 := cl_s (wc := [(m0, .inr (11, oX11 ra y27_0)), (ra 2, .inl (kI, 8, .inl q_told)), (ra 3, .inl (kI, 24, .inl q_kind)), (ra 4, .inl (kI, 24, .inl q_salt)), (ra 5, .inl (kI, 24, .inl q_pace)), (ra 6, .inl (kI, 24, .inl q_mute)), (ra 7, .inl (kI, 24, .inl q_late)), (ra 8, .inl (kI, 40, .inl q_from)), (ra 9, .inl (kI, 40, .inl q_to)), (ra 10, .inl (kI, 6, .inl q_goal)), (ra 11, .inl (kI, 1019, .inl q_now)), (ra 12, .inl (kI, 3, .inl f3)), (ra 14, .inl (kI, 12, .inl q_reach)), (ra 16, .inl (kI, 40760, .inl q_past))]) hP hD [12, 0, 1, 2, 3, 4, 5, 6, 7, 8, 9, 13, 10, 11] rfl (by decide +kernel)
    have hP9 := hPD9.1
    have hD9 := hPD9.2
    exact W.iret (v := (-2)) hx hb hr (fun t ht hW => ⟨⟨(-2), (), rfl, (iv_w ivk_m2 (by decide) (by decide)), y27_0, q_now, f3, q_past, hI27_0, h27_3, hq_now, hq_past, (show y27_0 1 = x0 1 from htp_27), (show y27_0 10 = x0 10 from hfp_27), (show y27_0 11 = x0 11 from hor_27), by rw [ht]; exact hP9, hD9⟩, hS.F ht⟩) hS.2.2 dX11_probe_34
  refine lv_aload_n hx hb dX11_probe_0 rfl (lv_at hl 0 rfl) ?_
  refine lv_iconst (v := 0) hx hb dX11_probe_1 ic_0 ?_
  refine va_put (D := (dC, dI)) (ci := 11) (v := .int 0) (ty := .int) (C := RX11) (T := TX11) (N := 61) hx hb hts hin11 tyX11 tyX11_ok nmX11 hown hK hP hD hS 0 rfl rfl 2 (by decide) hw_0 (fun _ h9 => h9) rfl (by decide +kernel) rfl rfl (Nat.le_of_ble_eq_true rfl) dX11_probe_2 (fun H locs hPa hDa hS => ?_)
  clear hP hD
  have hP : va_P (dC, dI) vwCl [(m0, .inr (11, oX11 ra (upd x0 0 0))), (ra 2, .inl (kI, 8, .inl q_told)), (ra 3, .inl (kI, 24, .inl q_kind)), (ra 4, .inl (kI, 24, .inl q_salt)), (ra 5, .inl (kI, 24, .inl q_pace)), (ra 6, .inl (kI, 24, .inl q_mute)), (ra 7, .inl (kI, 24, .inl q_late)), (ra 8, .inl (kI, 40, .inl q_from)), (ra 9, .inl (kI, 40, .inl q_to)), (ra 10, .inl (kI, 6, .inl q_goal)), (ra 11, .inl (kI, 1019, .inl q_now)), (ra 12, .inl (kI, 3, .inl q_status)), (ra 14, .inl (kI, 12, .inl q_reach)), (ra 16, .inl (kI, 40760, .inl q_past))] H := hPa
  have hD : va_D A [(m0, .inr (11, oX11 ra (upd x0 0 0))), (ra 2, .inl (kI, 8, .inl q_told)), (ra 3, .inl (kI, 24, .inl q_kind)), (ra 4, .inl (kI, 24, .inl q_salt)), (ra 5, .inl (kI, 24, .inl q_pace)), (ra 6, .inl (kI, 24, .inl q_mute)), (ra 7, .inl (kI, 24, .inl q_late)), (ra 8, .inl (kI, 40, .inl q_from)), (ra 9, .inl (kI, 40, .inl q_to)), (ra 10, .inl (kI, 6, .inl q_goal)), (ra 11, .inl (kI, 1019, .inl q_now)), (ra 12, .inl (kI, 3, .inl q_status)), (ra 14, .inl (kI, 12, .inl q_reach)), (ra 16, .inl (kI, 40760, .inl q_past))] := hDa
  clear hPa hDa
  refine lv_iload_n hx hb dX11_probe_5 rfl (lv_at hl 1 rfl) ?_
  obtain ⟨hPc, hDc, hFc, hJn⟩ := cl_a (wc := []) (wr := [(m0, .inr (11, oX11 ra (upd x0 0 0))), (ra 2, .inl (kI, 8, .inl q_told)), (ra 3, .inl (kI, 24, .inl q_kind)), (ra 4, .inl (kI, 24, .inl q_salt)), (ra 5, .inl (kI, 24, .inl q_pace)), (ra 6, .inl (kI, 24, .inl q_mute)), (ra 7, .inl (kI, 24, .inl q_late)), (ra 8, .inl (kI, 40, .inl q_from)), (ra 9, .inl (kI, 40, .inl q_to)), (ra 10, .inl (kI, 6, .inl q_goal)), (ra 11, .inl (kI, 1019, .inl q_now)), (ra 12, .inl (kI, 3, .inl q_status)), (ra 14, .inl (kI, 12, .inl q_reach)), (ra 16, .inl (kI, 40760, .inl q_past))]) hP hD hS hA [] [0, 1, 2, 3, 4, 5, 6, 7, 8, 9, 10, 11, 12, 13] rfl rfl (by decide +kernel)
  refine va_calli (va_runS (As := [.int p0]) (rest := []) ⟨hx, hb, hml, hown, hts⟩ (s11_isPort l dC dI kB kI kJ kZ kC kS H.size p0) (va_cwS 1 hts gX11_probe_X11_isPort rfl rfl rfl (by decide +kernel) ⟨Nat.le_of_ble_eq_true rfl, Nat.le_of_ble_eq_true rfl⟩) ⟨fun a U g mk q => by obtain ⟨q0, q1, qP, qE, qD⟩ := q; exact ⟨q0, q1, qP, kE_call qE, qD⟩, fun U hU hW => ⟨rfl, by rw [hU], by rw [hU]; exact hPc, kE_warm hW hE, hDc.weaken (fun _ _ _ _ => trivial)⟩⟩ rfl rfl hl.1 rfl (lv_room (Nat.le_of_ble_eq_true rfl)) dX11_probe_6 ⟨Nat.le_of_ble_eq_true rfl, Nat.le_of_ble_eq_true rfl⟩) hS (fun q _ h => hFc q h) hFc (fun r6 u t H locs ht hvm w7 hB hz1 hk1 hS => ?_)
  obtain ⟨hP1, hD1⟩ := hB
  try dsimp only at w7
  obtain ⟨hPa, hDa⟩ := hJn (w1 := []) hk1 ht hP1 hD1
  clear hP hD hPc hDc hFc hJn hP1 hD1 hk1
  have hP : va_P (dC, dI) vwCl [(m0, .inr (11, oX11 ra (upd x0 0 0))), (ra 2, .inl (kI, 8, .inl q_told)), (ra 3, .inl (kI, 24, .inl q_kind)), (ra 4, .inl (kI, 24, .inl q_salt)), (ra 5, .inl (kI, 24, .inl q_pace)), (ra 6, .inl (kI, 24, .inl q_mute)), (ra 7, .inl (kI, 24, .inl q_late)), (ra 8, .inl (kI, 40, .inl q_from)), (ra 9, .inl (kI, 40, .inl q_to)), (ra 10, .inl (kI, 6, .inl q_goal)), (ra 11, .inl (kI, 1019, .inl q_now)), (ra 12, .inl (kI, 3, .inl q_status)), (ra 14, .inl (kI, 12, .inl q_reach)), (ra 16, .inl (kI, 40760, .inl q_past))] H := hPa
  have hD : va_D A [(m0, .inr (11, oX11 ra (upd x0 0 0))), (ra 2, .inl (kI, 8, .inl q_told)), (ra 3, .inl (kI, 24, .inl q_kind)), (ra 4, .inl (kI, 24, .inl q_salt)), (ra 5, .inl (kI, 24, .inl q_pace)), (ra 6, .inl (kI, 24, .inl q_mute)), (ra 7, .inl (kI, 24, .inl q_late)), (ra 8, .inl (kI, 40, .inl q_from)), (ra 9, .inl (kI, 40, .inl q_to)), (ra 10, .inl (kI, 6, .inl q_goal)), (ra 11, .inl (kI, 1019, .inl q_now)), (ra 12, .inl (kI, 3, .inl q_status)), (ra 14, .inl (kI, 12, .inl q_reach)), (ra 16, .inl (kI, 40760, .inl q_past))] := hDa
  clear hPa hDa
  refine W.widen (k := 0) (n := 0) (Nat.le_of_ble_eq_true rfl) (Nat.le_of_ble_eq_true rfl) ?_
  refine lv_if_eq (tgt := 27) hx hb dX11_probe_9 rfl (fun c8 => ?_) (fun c8 => ?_)
  · have b9 : iv 0 0 r6 := iv_eqL c8 ivk_0
    exact hJ27 (upd x0 0 0) _ _ _ ((fI_u hX (k := 0) ((iv_w ivk_0 (by decide) (by decide))))) (ivk_0) (hfl14) ((show x0 1 = x0 1 from rfl)) ((show x0 10 = x0 10 from rfl)) ((show x0 11 = x0 11 from rfl)) (hP) (hD) hS (lv_sub hl [0, 1, 2, 3] rfl)
  · have b10 : iv 1 1 r6 := iv_neLo c8 w7.1 ivk_0 (by decide) (by decide)
    have b11 : iv 0 31 p0 := (w7.2).resolve_left (iv_ne b10 ivk_0 (by decide))
    refine lv_aload_n hx hb dX11_probe_12 rfl (lv_at hl 0 rfl) ?_
    refine lv_iload_n hx hb dX11_probe_13 rfl (lv_at hl 2 rfl) ?_
    obtain ⟨hPc, hDc, hFc, hJn⟩ := cl_a (wc := [(m0, .inr (11, oX11 ra (upd x0 0 0))), (ra 2, .inl (kI, 8, .inl q_told))]) (wr := [(ra 3, .inl (kI, 24, .inl q_kind)), (ra 4, .inl (kI, 24, .inl q_salt)), (ra 5, .inl (kI, 24, .inl q_pace)), (ra 6, .inl (kI, 24, .inl q_mute)), (ra 7, .inl (kI, 24, .inl q_late)), (ra 8, .inl (kI, 40, .inl q_from)), (ra 9, .inl (kI, 40, .inl q_to)), (ra 10, .inl (kI, 6, .inl q_goal)), (ra 11, .inl (kI, 1019, .inl q_now)), (ra 12, .inl (kI, 3, .inl q_status)), (ra 14, .inl (kI, 12, .inl q_reach)), (ra 16, .inl (kI, 40760, .inl q_past))]) hP hD hS hA [0, 1] [2, 3, 4, 5, 6, 7, 8, 9, 10, 11, 12, 13] rfl rfl (by decide +kernel)
    refine va_calli (va_runV (As := [.int p1]) (rest := []) ⟨hx, hb, hml, hown, hts⟩ (s11_isGoal l dC dI kB kI kJ kZ kC kS H.size m0 ra (upd x0 0 0) q_told p1 ((fI_u hX (k := 0) ((iv_w ivk_0 (by decide) (by decide))))) (hq_told)) (cwV 1 hts gX11_probe_X11_isGoal rfl rfl rfl (by decide +kernel) ⟨Nat.le_of_ble_eq_true rfl, Nat.le_of_ble_eq_true rfl⟩) ⟨fun a U g mk q => by obtain ⟨q0, q1, qP, qE, qD⟩ := q; exact ⟨q0, q1, qP, kE_call qE, qD⟩, va_recv hK hP (ci := 11) (q0 := 0) rfl rfl, fun U hU hW => ⟨rfl, by rw [hU], by rw [hU]; exact hPc, kE_warm hW hE, hDc.weaken (fun _ _ _ _ => trivial)⟩⟩ rfl rfl hl.1 rfl (lv_room (Nat.le_of_ble_eq_true rfl)) dX11_probe_14 ⟨Nat.le_of_ble_eq_true rfl, Nat.le_of_ble_eq_true rfl⟩) hS (fun q _ h => hFc q h) hFc (fun r12 u t H locs ht hvm w13 hB hz1 hk1 hS => ?_)
    obtain ⟨hP1, hD1⟩ := hB
    try dsimp only at w13
    obtain ⟨hPa, hDa⟩ := hJn (w1 := [(m0, .inr (11, oX11 ra (upd x0 0 0))), (ra 2, .inl (kI, 8, .inl q_told))]) hk1 ht hP1 hD1
    clear hP hD hPc hDc hFc hJn hP1 hD1 hk1
    have hP : va_P (dC, dI) vwCl [(ra 3, .inl (kI, 24, .inl q_kind)), (ra 4, .inl (kI, 24, .inl q_salt)), (ra 5, .inl (kI, 24, .inl q_pace)), (ra 6, .inl (kI, 24, .inl q_mute)), (ra 7, .inl (kI, 24, .inl q_late)), (ra 8, .inl (kI, 40, .inl q_from)), (ra 9, .inl (kI, 40, .inl q_to)), (ra 10, .inl (kI, 6, .inl q_goal)), (ra 11, .inl (kI, 1019, .inl q_now)), (ra 12, .inl (kI, 3, .inl q_status)), (ra 14, .inl (kI, 12, .inl q_reach)), (ra 16, .inl (kI, 40760, .inl q_past)), (m0, .inr (11, oX11 ra (upd x0 0 0))), (ra 2, .inl (kI, 8, .inl q_told))] H := hPa
    have hD : va_D A [(ra 3, .inl (kI, 24, .inl q_kind)), (ra 4, .inl (kI, 24, .inl q_salt)), (ra 5, .inl (kI, 24, .inl q_pace)), (ra 6, .inl (kI, 24, .inl q_mute)), (ra 7, .inl (kI, 24, .inl q_late)), (ra 8, .inl (kI, 40, .inl q_from)), (ra 9, .inl (kI, 40, .inl q_to)), (ra 10, .inl (kI, 6, .inl q_goal)), (ra 11, .inl (kI, 1019, .inl q_now)), (ra 12, .inl (kI, 3, .inl q_status)), (ra 14, .inl (kI, 12, .inl q_reach)), (ra 16, .inl (kI, 40760, .inl q_past)), (m0, .inr (11, oX11 ra (upd x0 0 0))), (ra 2, .inl (kI, 8, .inl q_told))] := hDa
    clear hPa hDa
    refine W.widen (k := 0) (n := 0) (Nat.le_of_ble_eq_true rfl) (Nat.le_of_ble_eq_true rfl) ?_
    refine lv_if_eq (tgt := 27) hx hb dX11_probe_17 rfl (fun c14 => ?_) (fun c14 => ?_)
    · have b15 : iv 0 0 r12 := iv_eqL c14 ivk_0
      have hPD9 := cl_s (wc := [(m0, .inr (11, oX11 ra (upd x0 0 0))), (ra 2, .inl (kI, 8, .inl q_told)), (ra 3, .inl (kI, 24, .inl q_kind)), (ra 4, .inl (kI, 24, .inl q_salt)), (ra 5, .inl (kI, 24, .inl q_pace)), (ra 6, .inl (kI, 24, .inl q_mute)), (ra 7, .inl (kI, 24, .inl q_late)), (ra 8, .inl (kI, 40, .inl q_from)), (ra 9, .inl (kI, 40, .inl q_to)), (ra 10, .inl (kI, 6, .inl q_goal)), (ra 11, .inl (kI, 1019, .inl q_now)), (ra 12, .inl (kI, 3, .inl q_status)), (ra 14, .inl (kI, 12, .inl q_reach)), (ra 16, .inl (kI, 40760, .inl q_past))]) hP hD [12, 13, 0, 1, 2, 3, 4, 5, 6, 7, 8, 9, 10, 11] rfl (by decide +kernel)
      exact hJ27 (upd x0 0 0) _ _ _ ((fI_u hX (k := 0) ((iv_w ivk_0 (by decide) (by decide))))) (ivk_0) (hfl14) ((show x0 1 = x0 1 from rfl)) ((show x0 10 = x0 10 from rfl)) ((show x0 11 = x0 11 from rfl)) (hPD9.1) (hPD9.2) hS (lv_sub hl [0, 1, 2, 3] rfl)
    · have b16 : iv 1 1 r12 := iv_neLo c14 w13.1 ivk_0 (by decide) (by decide)
      have b17 : iv 0 2 p1 := (w13.2).resolve_left (iv_ne b16 ivk_0 (by decide))
      refine lv_iload_n hx hb dX11_probe_20 rfl (lv_at hl 3 rfl) ?_
      obtain ⟨hPc, hDc, hFc, hJn⟩ := cl_a (wc := []) (wr := [(ra 3, .inl (kI, 24, .inl q_kind)), (ra 4, .inl (kI, 24, .inl q_salt)), (ra 5, .inl (kI, 24, .inl q_pace)), (ra 6, .inl (kI, 24, .inl q_mute)), (ra 7, .inl (kI, 24, .inl q_late)), (ra 8, .inl (kI, 40, .inl q_from)), (ra 9, .inl (kI, 40, .inl q_to)), (ra 10, .inl (kI, 6, .inl q_goal)), (ra 11, .inl (kI, 1019, .inl q_now)), (ra 12, .inl (kI, 3, .inl q_status)), (ra 14, .inl (kI, 12, .inl q_reach)), (ra 16, .inl (kI, 40760, .inl q_past)), (m0, .inr (11, oX11 ra (upd x0 0 0))), (ra 2, .inl (kI, 8, .inl q_told))]) hP hD hS hA [] [0, 1, 2, 3, 4, 5, 6, 7, 8, 9, 10, 11, 12, 13] rfl rfl (by decide +kernel)
      refine va_calli (va_runS (As := [.int p2]) (rest := []) ⟨hx, hb, hml, hown, hts⟩ (s11_isHop l dC dI kB kI kJ kZ kC kS H.size p2) (va_cwS 1 hts gX11_probe_X11_isHop rfl rfl rfl (by decide +kernel) ⟨Nat.le_of_ble_eq_true rfl, Nat.le_of_ble_eq_true rfl⟩) ⟨fun a U g mk q => by obtain ⟨q0, q1, qP, qE, qD⟩ := q; exact ⟨q0, q1, qP, kE_call qE, qD⟩, fun U hU hW => ⟨rfl, by rw [hU], by rw [hU]; exact hPc, kE_warm hW hE, hDc.weaken (fun _ _ _ _ => trivial)⟩⟩ rfl rfl hl.1 rfl (lv_room (Nat.le_of_ble_eq_true rfl)) dX11_probe_21 ⟨Nat.le_of_ble_eq_true rfl, Nat.le_of_ble_eq_true rfl⟩) hS (fun q _ h => hFc q h) hFc (fun r18 u t H locs ht hvm w19 hB hz1 hk1 hS => ?_)
      obtain ⟨hP1, hD1⟩ := hB
      try dsimp only at w19
      obtain ⟨hPa, hDa⟩ := hJn (w1 := []) hk1 ht hP1 hD1
      clear hP hD hPc hDc hFc hJn hP1 hD1 hk1
      have hP : va_P (dC, dI) vwCl [(ra 3, .inl (kI, 24, .inl q_kind)), (ra 4, .inl (kI, 24, .inl q_salt)), (ra 5, .inl (kI, 24, .inl q_pace)), (ra 6, .inl (kI, 24, .inl q_mute)), (ra 7, .inl (kI, 24, .inl q_late)), (ra 8, .inl (kI, 40, .inl q_from)), (ra 9, .inl (kI, 40, .inl q_to)), (ra 10, .inl (kI, 6, .inl q_goal)), (ra 11, .inl (kI, 1019, .inl q_now)), (ra 12, .inl (kI, 3, .inl q_status)), (ra 14, .inl (kI, 12, .inl q_reach)), (ra 16, .inl (kI, 40760, .inl q_past)), (m0, .inr (11, oX11 ra (upd x0 0 0))), (ra 2, .inl (kI, 8, .inl q_told))] H := hPa
      have hD : va_D A [(ra 3, .inl (kI, 24, .inl q_kind)), (ra 4, .inl (kI, 24, .inl q_salt)), (ra 5, .inl (kI, 24, .inl q_pace)), (ra 6, .inl (kI, 24, .inl q_mute)), (ra 7, .inl (kI, 24, .inl q_late)), (ra 8, .inl (kI, 40, .inl q_from)), (ra 9, .inl (kI, 40, .inl q_to)), (ra 10, .inl (kI, 6, .inl q_goal)), (ra 11, .inl (kI, 1019, .inl q_now)), (ra 12, .inl (kI, 3, .inl q_status)), (ra 14, .inl (kI, 12, .inl q_reach)), (ra 16, .inl (kI, 40760, .inl q_past)), (m0, .inr (11, oX11 ra (upd x0 0 0))), (ra 2, .inl (kI, 8, .inl q_told))] := hDa
      clear hPa hDa
      refine W.widen (k := 0) (n := 0) (Nat.le_of_ble_eq_true rfl) (Nat.le_of_ble_eq_true rfl) ?_
      refine lv_if_ne (tgt := 35) hx hb dX11_probe_24 rfl (fun c20 => ?_) (fun c20 => ?_)
      · have b21 : iv 1 1 r18 := iv_neLo c20 w19.1 ivk_0 (by decide) (by decide)
        have b22 : iv 1 10 p2 := (w19.2).resolve_left (iv_ne b21 ivk_0 (by decide))
        refine lv_aload_n hx hb dX11_probe_35 rfl (lv_at hl 0 rfl) ?_
        obtain ⟨hPc, hDc, hFc, hJn⟩ := cl_a (wc := [(m0, .inr (11, oX11 ra (upd x0 0 0))), (ra 11, .inl (kI, 1019, .inl q_now)), (ra 16, .inl (kI, 40760, .inl q_past))]) (wr := [(ra 3, .inl (kI, 24, .inl q_kind)), (ra 4, .inl (kI, 24, .inl q_salt)), (ra 5, .inl (kI, 24, .inl q_pace)), (ra 6, .inl (kI, 24, .inl q_mute)), (ra 7, .inl (kI, 24, .inl q_late)), (ra 8, .inl (kI, 40, .inl q_from)), (ra 9, .inl (kI, 40, .inl q_to)), (ra 10, .inl (kI, 6, .inl q_goal)), (ra 12, .inl (kI, 3, .inl q_status)), (ra 14, .inl (kI, 12, .inl q_reach)), (ra 2, .inl (kI, 8, .inl q_told))]) hP hD hS hA [12, 8, 11] [0, 1, 2, 3, 4, 5, 6, 7, 9, 10, 13] rfl rfl (by decide +kernel)
        refine va_callv (va_runV (As := []) (rest := []) ⟨hx, hb, hml, hown, hts⟩ (s11_keep l dC dI kB kI kJ kZ kC kS H.size m0 ra (upd x0 0 0) q_now q_past ((fI_u hX (k := 0) ((iv_w ivk_0 (by decide) (by decide))))) (hq_now) (hq_past)) (cwV 0 hts gX11_probe_X11_keep rfl rfl rfl (by decide +kernel) ⟨Nat.le_of_ble_eq_true rfl, Nat.le_of_ble_eq_true rfl⟩) ⟨fun a U g mk q => by obtain ⟨q0, q1, qP, qE, qD⟩ := q; exact ⟨q0, q1, qP, kE_call qE, qD⟩, va_recv hK hP (ci := 11) (q0 := 12) rfl rfl, fun U hU hW => ⟨rfl, by rw [hU], by rw [hU]; exact hPc, kE_warm hW hE, hDc.weaken (fun _ _ _ _ => trivial)⟩⟩ rfl rfl hl.1 rfl (lv_room (Nat.le_of_ble_eq_true rfl)) dX11_probe_36 ⟨Nat.le_of_ble_eq_true rfl, Nat.le_of_ble_eq_true rfl⟩) hS (fun q _ h => hFc q h) hFc (fun u t H locs ht hvm w24 hB hz1 hk1 hS => ?_)
        obtain ⟨y25, f26, hq27, hq28, hq29, hq30, hq31, hq32, hP1, hD1⟩ := hB
        try dsimp only at w24
        obtain ⟨hPa, hDa⟩ := hJn (w1 := [(m0, .inr (11, oX11 ra y25)), (ra 11, .inl (kI, 1019, .inl q_now)), (ra 16, .inl (kI, 40760, .inl f26))]) hk1 ht hP1 hD1
        clear hP hD hPc hDc hFc hJn hP1 hD1 hk1
        have hP : va_P (dC, dI) vwCl [(ra 3, .inl (kI, 24, .inl q_kind)), (ra 4, .inl (kI, 24, .inl q_salt)), (ra 5, .inl (kI, 24, .inl q_pace)), (ra 6, .inl (kI, 24, .inl q_mute)), (ra 7, .inl (kI, 24, .inl q_late)), (ra 8, .inl (kI, 40, .inl q_from)), (ra 9, .inl (kI, 40, .inl q_to)), (ra 10, .inl (kI, 6, .inl q_goal)), (ra 12, .inl (kI, 3, .inl q_status)), (ra 14, .inl (kI, 12, .inl q_reach)), (ra 2, .inl (kI, 8, .inl q_told)), (m0, .inr (11, oX11 ra y25)), (ra 11, .inl (kI, 1019, .inl q_now)), (ra 16, .inl (kI, 40760, .inl f26))] H := hPa
        have hD : va_D A [(ra 3, .inl (kI, 24, .inl q_kind)), (ra 4, .inl (kI, 24, .inl q_salt)), (ra 5, .inl (kI, 24, .inl q_pace)), (ra 6, .inl (kI, 24, .inl q_mute)), (ra 7, .inl (kI, 24, .inl q_late)), (ra 8, .inl (kI, 40, .inl q_from)), (ra 9, .inl (kI, 40, .inl q_to)), (ra 10, .inl (kI, 6, .inl q_goal)), (ra 12, .inl (kI, 3, .inl q_status)), (ra 14, .inl (kI, 12, .inl q_reach)), (ra 2, .inl (kI, 8, .inl q_told)), (m0, .inr (11, oX11 ra y25)), (ra 11, .inl (kI, 1019, .inl q_now)), (ra 16, .inl (kI, 40760, .inl f26))] := hDa
        clear hPa hDa
        refine W.widen (k := 0) (n := 0) (Nat.le_of_ble_eq_true rfl) (Nat.le_of_ble_eq_true rfl) ?_
        refine lv_aload_n hx hb dX11_probe_39 rfl (lv_at hl 0 rfl) ?_
        refine lv_iload_n hx hb dX11_probe_40 rfl (lv_at hl 1 rfl) ?_
        refine lv_iload_n hx hb dX11_probe_41 rfl (lv_at hl 2 rfl) ?_
        refine lv_iload_n hx hb dX11_probe_42 rfl (lv_at hl 3 rfl) ?_
        refine lv_iconst (v := 1) hx hb dX11_probe_43 ic_1 ?_
        obtain ⟨hPc, hDc, hFc, hJn⟩ := cl_a (wc := [(m0, .inr (11, oX11 ra y25)), (ra 2, .inl (kI, 8, .inl q_told)), (ra 3, .inl (kI, 24, .inl q_kind)), (ra 4, .inl (kI, 24, .inl q_salt)), (ra 5, .inl (kI, 24, .inl q_pace)), (ra 6, .inl (kI, 24, .inl q_mute)), (ra 7, .inl (kI, 24, .inl q_late)), (ra 8, .inl (kI, 40, .inl q_from)), (ra 9, .inl (kI, 40, .inl q_to)), (ra 10, .inl (kI, 6, .inl q_goal)), (ra 11, .inl (kI, 1019, .inl q_now)), (ra 14, .inl (kI, 12, .inl q_reach))]) (wr := [(ra 12, .inl (kI, 3, .inl q_status)), (ra 16, .inl (kI, 40760, .inl f26))]) hP hD hS hA [11, 10, 0, 1, 2, 3, 4, 5, 6, 7, 12, 9] [8, 13] rfl rfl (by decide +kernel)
        refine va_calli (va_runV (As := [.int p0, .int p1, .int p2, .int 1]) (rest := []) ⟨hx, hb, hml, hown, hts⟩ (s11_probeNow l dC dI kB kI kJ kZ kC kS H.size m0 ra y25 q_told q_kind q_salt q_pace q_mute q_late q_from q_to q_goal q_now q_reach p0 p1 p2 1 (hq27) (hq_told) (hq_salt) (hq_from) (hq_to) (hq_goal) (hq_now) (b11) (b17) (b22) (hLT)) (cwV 4 hts gX11_probe_X11_probeNow rfl rfl rfl (by decide +kernel) ⟨Nat.le_of_ble_eq_true rfl, Nat.le_of_ble_eq_true rfl⟩) ⟨fun a U g mk q => by obtain ⟨q0, q1, qP, qE, qD⟩ := q; exact ⟨q0, q1, qP, kE_call qE, qD⟩, va_recv hK hP (ci := 11) (q0 := 11) rfl rfl, fun U hU hW => ⟨rfl, by rw [hU], by rw [hU]; exact hPc, kE_warm hW hE, hDc.weaken (fun _ _ _ _ => trivial)⟩⟩ rfl rfl hl.1 rfl (lv_room (Nat.le_of_ble_eq_true rfl)) dX11_probe_44 ⟨Nat.le_of_ble_eq_true rfl, Nat.le_of_ble_eq_true rfl⟩) hS (fun q _ h => hFc q h) hFc (fun r33 u t H locs ht hvm w34 hB hz1 hk1 hS => ?_)
        obtain ⟨y35, f36, hq37, hq38, hq39, hq40, hq41, hq42, hP1, hD1⟩ := hB
        try dsimp only at w34
        obtain ⟨hPa, hDa⟩ := hJn (w1 := [(m0, .inr (11, oX11 ra y35)), (ra 2, .inl (kI, 8, .inl q_told)), (ra 3, .inl (kI, 24, .inl q_kind)), (ra 4, .inl (kI, 24, .inl q_salt)), (ra 5, .inl (kI, 24, .inl q_pace)), (ra 6, .inl (kI, 24, .inl q_mute)), (ra 7, .inl (kI, 24, .inl q_late)), (ra 8, .inl (kI, 40, .inl q_from)), (ra 9, .inl (kI, 40, .inl q_to)), (ra 10, .inl (kI, 6, .inl q_goal)), (ra 11, .inl (kI, 1019, .inl f36)), (ra 14, .inl (kI, 12, .inl q_reach))]) hk1 ht hP1 hD1
        clear hP hD hPc hDc hFc hJn hP1 hD1 hk1
        have hP : va_P (dC, dI) vwCl [(ra 12, .inl (kI, 3, .inl q_status)), (ra 16, .inl (kI, 40760, .inl f26)), (m0, .inr (11, oX11 ra y35)), (ra 2, .inl (kI, 8, .inl q_told)), (ra 3, .inl (kI, 24, .inl q_kind)), (ra 4, .inl (kI, 24, .inl q_salt)), (ra 5, .inl (kI, 24, .inl q_pace)), (ra 6, .inl (kI, 24, .inl q_mute)), (ra 7, .inl (kI, 24, .inl q_late)), (ra 8, .inl (kI, 40, .inl q_from)), (ra 9, .inl (kI, 40, .inl q_to)), (ra 10, .inl (kI, 6, .inl q_goal)), (ra 11, .inl (kI, 1019, .inl f36)), (ra 14, .inl (kI, 12, .inl q_reach))] H := hPa
        have hD : va_D A [(ra 12, .inl (kI, 3, .inl q_status)), (ra 16, .inl (kI, 40760, .inl f26)), (m0, .inr (11, oX11 ra y35)), (ra 2, .inl (kI, 8, .inl q_told)), (ra 3, .inl (kI, 24, .inl q_kind)), (ra 4, .inl (kI, 24, .inl q_salt)), (ra 5, .inl (kI, 24, .inl q_pace)), (ra 6, .inl (kI, 24, .inl q_mute)), (ra 7, .inl (kI, 24, .inl q_late)), (ra 8, .inl (kI, 40, .inl q_from)), (ra 9, .inl (kI, 40, .inl q_to)), (ra 10, .inl (kI, 6, .inl q_goal)), (ra 11, .inl (kI, 1019, .inl f36)), (ra 14, .inl (kI, 12, .inl q_reach))] := hDa
        clear hPa hDa
        refine W.widen (k := 0) (n := 0) (Nat.le_of_ble_eq_true rfl) (Nat.le_of_ble_eq_true rfl) ?_
        have hPD9 := cl_s (wc := [(m0, .inr (11, oX11 ra y35)), (ra 2, .inl (kI, 8, .inl q_told)), (ra 3, .inl (kI, 24, .inl q_kind)), (ra 4, .inl (kI, 24, .inl q_salt)), (ra 5, .inl (kI, 24, .inl q_pace)), (ra 6, .inl (kI, 24, .inl q_mute)), (ra 7, .inl (kI, 24, .inl q_late)), (ra 8, .inl (kI, 40, .inl q_from)), (ra 9, .inl (kI, 40, .inl q_to)), (ra 10, .inl (kI, 6, .inl q_goal)), (ra 11, .inl (kI, 1019, .inl f36)), (ra 12, .inl (kI, 3, .inl q_status)), (ra 14, .inl (kI, 12, .inl q_reach)), (ra 16, .inl (kI, 40760, .inl f26))]) hP hD [2, 3, 4, 5, 6, 7, 8, 9, 10, 11, 12, 0, 13, 1] rfl (by decide +kernel)
        have hP9 := hPD9.1
        have hD9 := hPD9.2
        exact W.iret (v := r33) hx hb hr (fun t ht hW => ⟨⟨r33, (), rfl, (iv_w w34 (by decide) (by decide)), y35, f36, q_status, f26, hq37, hq38, hq39, hq28, (show y35 1 = x0 1 from hq40.trans (hq29)), (show y35 10 = x0 10 from hq41.trans (hq30)), (show y35 11 = x0 11 from hq42.trans (hq31)), by rw [ht]; exact hP9, hD9⟩, hS.F ht⟩) hS.2.2 dX11_probe_47
      · have b43 : iv 0 0 r18 := iv_eqL c20 ivk_0
        have hPD9 := cl_s (wc := [(m0, .inr (11, oX11 ra (upd x0 0 0))), (ra 2, .inl (kI, 8, .inl q_told)), (ra 3, .inl (kI, 24, .inl q_kind)), (ra 4, .inl (kI, 24, .inl q_salt)), (ra 5, .inl (kI, 24, .inl q_pace)), (ra 6, .inl (kI, 24, .inl q_mute)), (ra 7, .inl (kI, 24, .inl q_late)), (ra 8, .inl (kI, 40, .inl q_from)), (ra 9, .inl (kI, 40, .inl q_to)), (ra 10, .inl (kI, 6, .inl q_goal)), (ra 11, .inl (kI, 1019, .inl q_now)), (ra 12, .inl (kI, 3, .inl q_status)), (ra 14, .inl (kI, 12, .inl q_reach)), (ra 16, .inl (kI, 40760, .inl q_past))]) hP hD [12, 13, 0, 1, 2, 3, 4, 5, 6, 7, 8, 9, 10, 11] rfl (by decide +kernel)
        exact hJ27 (upd x0 0 0) _ _ _ ((fI_u hX (k := 0) ((iv_w ivk_0 (by decide) (by decide))))) (ivk_0) (hfl14) ((show x0 1 = x0 1 from rfl)) ((show x0 10 = x0 10 from rfl)) ((show x0 11 = x0 11 from rfl)) (hPD9.1) (hPD9.2) hS (lv_sub hl [0, 1, 2, 3] rfl)
def rm_s11_ping : Room := { frames := 5, cells := 0, slots := 0, locals := 113 }
set_option maxHeartbeats 4000000 in
set_option maxRecDepth 100000 in
theorem s11_ping (l : Launch) (dC : Nat → ClassId) (dI : Nat → Nat → Nat) (kB kI kJ kZ kC kS : ClassId) (sz : Nat) (m0 : Nat) (ra : Nat → Nat) (x0 : Nat → Int32) (q_told : Nat → Int32) (q_pace : Nat → Int32) (q_to : Nat → Int32) (q_now : Nat → Int32) (q_status : Nat → Int32) (q_past : Nat → Int32) (p0 : Int32) (hX : fI lX11 hX11 x0) (hq_told : fI lTold hTold q_told) (hq_to : fI (fun _ => 0) (fun _ => 11) q_to) (hq_now : fI lNow hNow q_now) (hq_past : fI lPast hPast q_past) : Met l yX11_ping wsX11_ping rm_s11_ping (va_Pc [.ref m0, .int p0] (fun U => U.heap.size = sz ∧ va_P (dC, dI) vwCl [(m0, .inr (11, oX11 ra x0)), (ra 2, .inl (kI, 8, .inl q_told)), (ra 5, .inl (kI, 24, .inl q_pace)), (ra 9, .inl (kI, 40, .inl q_to)), (ra 11, .inl (kI, 1019, .inl q_now)), (ra 12, .inl (kI, 3, .inl q_status)), (ra 16, .inl (kI, 40760, .inl q_past))] U.heap ∧ kE dC dI kB kI kJ kZ kC kS U ∧ va_D (fun _ => True) [(m0, .inr (11, oX11 ra x0)), (ra 2, .inl (kI, 8, .inl q_told)), (ra 5, .inl (kI, 24, .inl q_pace)), (ra 9, .inl (kI, 40, .inl q_to)), (ra 11, .inl (kI, 1019, .inl q_now)), (ra 12, .inl (kI, 3, .inl q_status)), (ra 16, .inl (kI, 40760, .inl q_past))])) (va_Qi (fun (r : Int32) (_ : Unit) => True) (fun _ t => ∃ (x0' : Nat → Int32) (q_now' : Nat → Int32) (q_status' : Nat → Int32) (q_past' : Nat → Int32), fI lX11 hX11 x0' ∧ fI lNow hNow q_now' ∧ fI lPast hPast q_past' ∧ (x0' 1 = x0 1) ∧ (x0' 10 = x0 10) ∧ (x0' 11 = x0 11) ∧ (x0' 14 = x0 14) ∧ va_P (dC, dI) vwCl [(m0, .inr (11, oX11 ra x0')), (ra 2, .inl (kI, 8, .inl q_told)), (ra 5, .inl (kI, 24, .inl q_pace)), (ra 9, .inl (kI, 40, .inl q_to)), (ra 11, .inl (kI, 1019, .inl q_now')), (ra 12, .inl (kI, 3, .inl q_status')), (ra 16, .inl (kI, 40760, .inl q_past'))] t.heap ∧ va_D (va_A [(m0, .inr (11, oX11 ra x0)), (ra 2, .inl (kI, 8, .inl q_told)), (ra 5, .inl (kI, 24, .inl q_pace)), (ra 9, .inl (kI, 40, .inl q_to)), (ra 11, .inl (kI, 1019, .inl q_now)), (ra 12, .inl (kI, 3, .inl q_status)), (ra 16, .inl (kI, 40760, .inl q_past))] sz) [(m0, .inr (11, oX11 ra x0')), (ra 2, .inl (kI, 8, .inl q_told)), (ra 5, .inl (kI, 24, .inl q_pace)), (ra 9, .inl (kI, 40, .inl q_to)), (ra 11, .inl (kI, 1019, .inl q_now')), (ra 12, .inl (kI, 3, .inl q_status')), (ra 16, .inl (kI, 40760, .inl q_past'))]) (va_A [(m0, .inr (11, oX11 ra x0)), (ra 2, .inl (kI, 8, .inl q_told)), (ra 5, .inl (kI, 24, .inl q_pace)), (ra 9, .inl (kI, 40, .inl q_to)), (ra 11, .inl (kI, 1019, .inl q_now)), (ra 12, .inl (kI, 3, .inl q_status)), (ra 16, .inl (kI, 40760, .inl q_past))] sz)) 0 0 (va_A [(m0, .inr (11, oX11 ra x0)), (ra 2, .inl (kI, 8, .inl q_told)), (ra 5, .inl (kI, 24, .inl q_pace)), (ra 9, .inl (kI, 40, .inl q_to)), (ra 11, .inl (kI, 1019, .inl q_now)), (ra 12, .inl (kI, 3, .inl q_status)), (ra 16, .inl (kI, 40760, .inl q_past))] sz) := by
  refine Met.ofW (cc := cX11_ping) (maxL := 2) (ret := (some .int)) (by decide) rfl ?_
  intro p e s m args0 below meth c s₁ B hml hv
  obtain ⟨hargs, hsz, hP, hE, hD0⟩ := hv
  have hx := B.exec
  have hb := B.bytes
  have hr := B.returns
  have hts := atoms_spec (ws := wsX11_ping) B.pre
  have hown : s.vm.findClass RX11 = some m.cls := findClass_of_methodNamed B.named
  have hlocks := B.notSynchronized
  have hK := hE.1
  have hin11 : ∀ w ∈ wsX110, w ∈ wsX11_ping := fun _ h9 => List.mem_cons_of_mem _ (List.mem_append_right _ h9)
  have hw_0 := hts (.fieldLink RX11 142 "PathProberModel" "code" "I") (List.mem_of_getElem? (i := 1) rfl)
  subst hsz
  have hD := hD0.self (sz := s.heap.size)
  generalize hAe : va_A [(m0, .inr (11, oX11 ra x0)), (ra 2, .inl (kI, 8, .inl q_told)), (ra 5, .inl (kI, 24, .inl q_pace)), (ra 9, .inl (kI, 40, .inl q_to)), (ra 11, .inl (kI, 1019, .inl q_now)), (ra 12, .inl (kI, 3, .inl q_status)), (ra 16, .inl (kI, 40760, .inl q_past))] s.heap.size = A at hD ⊢
  have hA : ∀ q : Nat, s.heap.size ≤ q → A q := fun q h => by rw [← hAe]; exact Or.inr h
  have hS : va_S A s.heap s.heap [] := va_S.rf
  have hP : va_P (dC, dI) vwCl [(m0, .inr (11, oX11 ra x0)), (ra 2, .inl (kI, 8, .inl q_told)), (ra 5, .inl (kI, 24, .inl q_pace)), (ra 9, .inl (kI, 40, .inl q_to)), (ra 11, .inl (kI, 1019, .inl q_now)), (ra 12, .inl (kI, 3, .inl q_status)), (ra 16, .inl (kI, 40760, .inl q_past))] s.heap := hP
  have hl := lv_entry ([.ref m0, .int p0]) (n := 2) (Nat.le_of_ble_eq_true rfl)
  have hla : entryFrame m args0 2 = entryFrame m ([.ref m0, .int p0] : List Value).toArray 2 := by rw [hargs]
  rw [hla, lg_entry_eq]
  generalize (lg_sl ([.ref m0, .int p0]) ++ List.replicate (2 - (lg_sl ([.ref m0, .int p0])).length) Slot.unset).toArray = ls at hl ⊢
  have hl : lv_has ls 2 [(0, .ref m0), (1, .int p0)] := hl
  refine lv_aload_n hx hb dX11_ping_0 rfl (lv_at hl 0 rfl) ?_
  refine lv_iconst (v := 0) hx hb dX11_ping_1 ic_0 ?_
  refine va_put (D := (dC, dI)) (ci := 11) (v := .int 0) (ty := .int) (C := RX11) (T := TX11) (N := 61) hx hb hts hin11 tyX11 tyX11_ok nmX11 hown hK hP hD hS 0 rfl rfl 2 (by decide) hw_0 (fun _ h9 => h9) rfl (by decide +kernel) rfl rfl (Nat.le_of_ble_eq_true rfl) dX11_ping_2 (fun H locs hPa hDa hS => ?_)
  clear hP hD
  have hP : va_P (dC, dI) vwCl [(m0, .inr (11, oX11 ra (upd x0 0 0))), (ra 2, .inl (kI, 8, .inl q_told)), (ra 5, .inl (kI, 24, .inl q_pace)), (ra 9, .inl (kI, 40, .inl q_to)), (ra 11, .inl (kI, 1019, .inl q_now)), (ra 12, .inl (kI, 3, .inl q_status)), (ra 16, .inl (kI, 40760, .inl q_past))] H := hPa
  have hD : va_D A [(m0, .inr (11, oX11 ra (upd x0 0 0))), (ra 2, .inl (kI, 8, .inl q_told)), (ra 5, .inl (kI, 24, .inl q_pace)), (ra 9, .inl (kI, 40, .inl q_to)), (ra 11, .inl (kI, 1019, .inl q_now)), (ra 12, .inl (kI, 3, .inl q_status)), (ra 16, .inl (kI, 40760, .inl q_past))] := hDa
  clear hPa hDa
  refine lv_aload_n hx hb dX11_ping_5 rfl (lv_at hl 0 rfl) ?_
  refine lv_iload_n hx hb dX11_ping_6 rfl (lv_at hl 1 rfl) ?_
  obtain ⟨hPc, hDc, hFc, hJn⟩ := cl_a (wc := [(m0, .inr (11, oX11 ra (upd x0 0 0))), (ra 2, .inl (kI, 8, .inl q_told)), (ra 11, .inl (kI, 1019, .inl q_now))]) (wr := [(ra 5, .inl (kI, 24, .inl q_pace)), (ra 9, .inl (kI, 40, .inl q_to)), (ra 12, .inl (kI, 3, .inl q_status)), (ra 16, .inl (kI, 40760, .inl q_past))]) hP hD hS hA [0, 1, 4] [2, 3, 5, 6] rfl rfl (by decide +kernel)
  refine va_calli (va_runV (As := [.int p0]) (rest := []) ⟨hx, hb, hml, hown, hts⟩ (s11_wasSeen l dC dI kB kI kJ kZ kC kS H.size m0 ra (upd x0 0 0) q_told q_now p0 ((fI_u hX (k := 0) ((iv_w ivk_0 (by decide) (by decide))))) (hq_told) (hq_now)) (cwV 1 hts gX11_ping_X11_wasSeen rfl rfl rfl (by decide +kernel) ⟨Nat.le_of_ble_eq_true rfl, Nat.le_of_ble_eq_true rfl⟩) ⟨fun a U g mk q => by obtain ⟨q0, q1, qP, qE, qD⟩ := q; exact ⟨q0, q1, qP, kE_call qE, qD⟩, va_recv hK hP (ci := 11) (q0 := 0) rfl rfl, fun U hU hW => ⟨rfl, by rw [hU], by rw [hU]; exact hPc, kE_warm hW hE, hDc.weaken (fun _ _ _ _ => trivial)⟩⟩ rfl rfl hl.1 rfl (lv_room (Nat.le_of_ble_eq_true rfl)) dX11_ping_7 ⟨Nat.le_of_ble_eq_true rfl, Nat.le_of_ble_eq_true rfl⟩) hS (fun q _ h => hFc q h) hFc (fun r1 u t H locs ht hvm w2 hB hz1 hk1 hS => ?_)
  obtain ⟨hP1, hD1⟩ := hB
  try dsimp only at w2
  obtain ⟨hPa, hDa⟩ := hJn (w1 := [(m0, .inr (11, oX11 ra (upd x0 0 0))), (ra 2, .inl (kI, 8, .inl q_told)), (ra 11, .inl (kI, 1019, .inl q_now))]) hk1 ht hP1 hD1
  clear hP hD hPc hDc hFc hJn hP1 hD1 hk1
  have hP : va_P (dC, dI) vwCl [(ra 5, .inl (kI, 24, .inl q_pace)), (ra 9, .inl (kI, 40, .inl q_to)), (ra 12, .inl (kI, 3, .inl q_status)), (ra 16, .inl (kI, 40760, .inl q_past)), (m0, .inr (11, oX11 ra (upd x0 0 0))), (ra 2, .inl (kI, 8, .inl q_told)), (ra 11, .inl (kI, 1019, .inl q_now))] H := hPa
  have hD : va_D A [(ra 5, .inl (kI, 24, .inl q_pace)), (ra 9, .inl (kI, 40, .inl q_to)), (ra 12, .inl (kI, 3, .inl q_status)), (ra 16, .inl (kI, 40760, .inl q_past)), (m0, .inr (11, oX11 ra (upd x0 0 0))), (ra 2, .inl (kI, 8, .inl q_told)), (ra 11, .inl (kI, 1019, .inl q_now))] := hDa
  clear hPa hDa
  refine W.widen (k := 0) (n := 0) (Nat.le_of_ble_eq_true rfl) (Nat.le_of_ble_eq_true rfl) ?_
  refine lv_if_ne (tgt := 19) hx hb dX11_ping_10 rfl (fun c3 => ?_) (fun c3 => ?_)
  · have b4 : iv 1 1 r1 := iv_neLo c3 w2.1 ivk_0 (by decide) (by decide)
    have b5 : iv 0 20 p0 := (w2.2).resolve_left (iv_ne b4 ivk_0 (by decide))
    refine lv_aload_n hx hb dX11_ping_19 rfl (lv_at hl 0 rfl) ?_
    obtain ⟨hPc, hDc, hFc, hJn⟩ := cl_a (wc := [(m0, .inr (11, oX11 ra (upd x0 0 0))), (ra 11, .inl (kI, 1019, .inl q_now)), (ra 16, .inl (kI, 40760, .inl q_past))]) (wr := [(ra 5, .inl (kI, 24, .inl q_pace)), (ra 9, .inl (kI, 40, .inl q_to)), (ra 12, .inl (kI, 3, .inl q_status)), (ra 2, .inl (kI, 8, .inl q_told))]) hP hD hS hA [4, 6, 3] [0, 1, 2, 5] rfl rfl (by decide +kernel)
    refine va_callv (va_runV (As := []) (rest := []) ⟨hx, hb, hml, hown, hts⟩ (s11_keep l dC dI kB kI kJ kZ kC kS H.size m0 ra (upd x0 0 0) q_now q_past ((fI_u hX (k := 0) ((iv_w ivk_0 (by decide) (by decide))))) (hq_now) (hq_past)) (cwV 0 hts gX11_ping_X11_keep rfl rfl rfl (by decide +kernel) ⟨Nat.le_of_ble_eq_true rfl, Nat.le_of_ble_eq_true rfl⟩) ⟨fun a U g mk q => by obtain ⟨q0, q1, qP, qE, qD⟩ := q; exact ⟨q0, q1, qP, kE_call qE, qD⟩, va_recv hK hP (ci := 11) (q0 := 4) rfl rfl, fun U hU hW => ⟨rfl, by rw [hU], by rw [hU]; exact hPc, kE_warm hW hE, hDc.weaken (fun _ _ _ _ => trivial)⟩⟩ rfl rfl hl.1 rfl (lv_room (Nat.le_of_ble_eq_true rfl)) dX11_ping_20 ⟨Nat.le_of_ble_eq_true rfl, Nat.le_of_ble_eq_true rfl⟩) hS (fun q _ h => hFc q h) hFc (fun u t H locs ht hvm w7 hB hz1 hk1 hS => ?_)
    obtain ⟨y8, f9, hq10, hq11, hq12, hq13, hq14, hq15, hP1, hD1⟩ := hB
    try dsimp only at w7
    obtain ⟨hPa, hDa⟩ := hJn (w1 := [(m0, .inr (11, oX11 ra y8)), (ra 11, .inl (kI, 1019, .inl q_now)), (ra 16, .inl (kI, 40760, .inl f9))]) hk1 ht hP1 hD1
    clear hP hD hPc hDc hFc hJn hP1 hD1 hk1
    have hP : va_P (dC, dI) vwCl [(ra 5, .inl (kI, 24, .inl q_pace)), (ra 9, .inl (kI, 40, .inl q_to)), (ra 12, .inl (kI, 3, .inl q_status)), (ra 2, .inl (kI, 8, .inl q_told)), (m0, .inr (11, oX11 ra y8)), (ra 11, .inl (kI, 1019, .inl q_now)), (ra 16, .inl (kI, 40760, .inl f9))] H := hPa
    have hD : va_D A [(ra 5, .inl (kI, 24, .inl q_pace)), (ra 9, .inl (kI, 40, .inl q_to)), (ra 12, .inl (kI, 3, .inl q_status)), (ra 2, .inl (kI, 8, .inl q_told)), (m0, .inr (11, oX11 ra y8)), (ra 11, .inl (kI, 1019, .inl q_now)), (ra 16, .inl (kI, 40760, .inl f9))] := hDa
    clear hPa hDa
    refine W.widen (k := 0) (n := 0) (Nat.le_of_ble_eq_true rfl) (Nat.le_of_ble_eq_true rfl) ?_
    refine lv_aload_n hx hb dX11_ping_23 rfl (lv_at hl 0 rfl) ?_
    refine lv_aload_n hx hb dX11_ping_24 rfl (lv_at hl 0 rfl) ?_
    refine lv_iload_n hx hb dX11_ping_25 rfl (lv_at hl 1 rfl) ?_
    obtain ⟨hPc, hDc, hFc, hJn⟩ := cl_a (wc := [(m0, .inr (11, oX11 ra y8)), (ra 9, .inl (kI, 40, .inl q_to))]) (wr := [(ra 5, .inl (kI, 24, .inl q_pace)), (ra 12, .inl (kI, 3, .inl q_status)), (ra 2, .inl (kI, 8, .inl q_told)), (ra 11, .inl (kI, 1019, .inl q_now)), (ra 16, .inl (kI, 40760, .inl f9))]) hP hD hS hA [4, 1] [0, 2, 3, 5, 6] rfl rfl (by decide +kernel)
    refine va_calli (va_runV (As := [.int p0]) (rest := [.ref m0]) ⟨hx, hb, hml, hown, hts⟩ (s11_routerOf l dC dI kB kI kJ kZ kC kS H.size m0 ra y8 q_to p0 (hq10) (hq_to) ((iv_w b5 (by decide) (by decide)))) (cwV 1 hts gX11_ping_X11_routerOf rfl rfl rfl (by decide +kernel) ⟨Nat.le_of_ble_eq_true rfl, Nat.le_of_ble_eq_true rfl⟩) ⟨fun a U g mk q => by obtain ⟨q0, q1, qP, qE, qD⟩ := q; exact ⟨q0, q1, qP, kE_call qE, qD⟩, va_recv hK hP (ci := 11) (q0 := 4) rfl rfl, fun U hU hW => ⟨rfl, by rw [hU], by rw [hU]; exact hPc, kE_warm hW hE, hDc.weaken (fun _ _ _ _ => trivial)⟩⟩ rfl rfl hl.1 rfl (lv_room (Nat.le_of_ble_eq_true rfl)) dX11_ping_26 ⟨Nat.le_of_ble_eq_true rfl, Nat.le_of_ble_eq_true rfl⟩) hS (fun q _ h => hFc q h) hFc (fun r16 u t H locs ht hvm w17 hB hz1 hk1 hS => ?_)
    obtain ⟨hP1, hD1⟩ := hB
    try dsimp only at w17
    obtain ⟨hPa, hDa⟩ := hJn (w1 := [(m0, .inr (11, oX11 ra y8)), (ra 9, .inl (kI, 40, .inl q_to))]) hk1 ht hP1 hD1
    clear hP hD hPc hDc hFc hJn hP1 hD1 hk1
    have hP : va_P (dC, dI) vwCl [(ra 5, .inl (kI, 24, .inl q_pace)), (ra 12, .inl (kI, 3, .inl q_status)), (ra 2, .inl (kI, 8, .inl q_told)), (ra 11, .inl (kI, 1019, .inl q_now)), (ra 16, .inl (kI, 40760, .inl f9)), (m0, .inr (11, oX11 ra y8)), (ra 9, .inl (kI, 40, .inl q_to))] H := hPa
    have hD : va_D A [(ra 5, .inl (kI, 24, .inl q_pace)), (ra 12, .inl (kI, 3, .inl q_status)), (ra 2, .inl (kI, 8, .inl q_told)), (ra 11, .inl (kI, 1019, .inl q_now)), (ra 16, .inl (kI, 40760, .inl f9)), (m0, .inr (11, oX11 ra y8)), (ra 9, .inl (kI, 40, .inl q_to))] := hDa
    clear hPa hDa
    refine W.widen (k := 0) (n := 0) (Nat.le_of_ble_eq_true rfl) (Nat.le_of_ble_eq_true rfl) ?_
    obtain ⟨hPc, hDc, hFc, hJn⟩ := cl_a (wc := [(m0, .inr (11, oX11 ra y8)), (ra 5, .inl (kI, 24, .inl q_pace)), (ra 11, .inl (kI, 1019, .inl q_now))]) (wr := [(ra 12, .inl (kI, 3, .inl q_status)), (ra 2, .inl (kI, 8, .inl q_told)), (ra 16, .inl (kI, 40760, .inl f9)), (ra 9, .inl (kI, 40, .inl q_to))]) hP hD hS hA [5, 0, 3] [1, 2, 4, 6] rfl rfl (by decide +kernel)
    refine va_calli (va_runV (As := [.int r16]) (rest := []) ⟨hx, hb, hml, hown, hts⟩ (s11_answered l dC dI kB kI kJ kZ kC kS H.size m0 ra y8 q_pace q_now r16 (hq10) (hq_now) (w17)) (cwV 1 hts gX11_ping_X11_answered rfl rfl rfl (by decide +kernel) ⟨Nat.le_of_ble_eq_true rfl, Nat.le_of_ble_eq_true rfl⟩) ⟨fun a U g mk q => by obtain ⟨q0, q1, qP, qE, qD⟩ := q; exact ⟨q0, q1, qP, kE_call qE, qD⟩, va_recv hK hP (ci := 11) (q0 := 5) rfl rfl, fun U hU hW => ⟨rfl, by rw [hU], by rw [hU]; exact hPc, kE_warm hW hE, hDc.weaken (fun _ _ _ _ => trivial)⟩⟩ rfl rfl hl.1 rfl (lv_room (Nat.le_of_ble_eq_true rfl)) dX11_ping_29 ⟨Nat.le_of_ble_eq_true rfl, Nat.le_of_ble_eq_true rfl⟩) hS (fun q _ h => hFc q h) hFc (fun r18 u t H locs ht hvm w19 hB hz1 hk1 hS => ?_)
    obtain ⟨f20, hq21, hP1, hD1⟩ := hB
    try dsimp only at w19
    obtain ⟨hPa, hDa⟩ := hJn (w1 := [(m0, .inr (11, oX11 ra y8)), (ra 5, .inl (kI, 24, .inl q_pace)), (ra 11, .inl (kI, 1019, .inl f20))]) hk1 ht hP1 hD1
    clear hP hD hPc hDc hFc hJn hP1 hD1 hk1
    have hP : va_P (dC, dI) vwCl [(ra 12, .inl (kI, 3, .inl q_status)), (ra 2, .inl (kI, 8, .inl q_told)), (ra 16, .inl (kI, 40760, .inl f9)), (ra 9, .inl (kI, 40, .inl q_to)), (m0, .inr (11, oX11 ra y8)), (ra 5, .inl (kI, 24, .inl q_pace)), (ra 11, .inl (kI, 1019, .inl f20))] H := hPa
    have hD : va_D A [(ra 12, .inl (kI, 3, .inl q_status)), (ra 2, .inl (kI, 8, .inl q_told)), (ra 16, .inl (kI, 40760, .inl f9)), (ra 9, .inl (kI, 40, .inl q_to)), (m0, .inr (11, oX11 ra y8)), (ra 5, .inl (kI, 24, .inl q_pace)), (ra 11, .inl (kI, 1019, .inl f20))] := hDa
    clear hPa hDa
    refine W.widen (k := 0) (n := 0) (Nat.le_of_ble_eq_true rfl) (Nat.le_of_ble_eq_true rfl) ?_
    have hPD9 := cl_s (wc := [(m0, .inr (11, oX11 ra y8)), (ra 2, .inl (kI, 8, .inl q_told)), (ra 5, .inl (kI, 24, .inl q_pace)), (ra 9, .inl (kI, 40, .inl q_to)), (ra 11, .inl (kI, 1019, .inl f20)), (ra 12, .inl (kI, 3, .inl q_status)), (ra 16, .inl (kI, 40760, .inl f9))]) hP hD [4, 1, 5, 3, 6, 0, 2] rfl (by decide +kernel)
    have hP9 := hPD9.1
    have hD9 := hPD9.2
    exact W.iret (v := r18) hx hb hr (fun t ht hW => ⟨⟨r18, (), rfl, trivial, y8, f20, q_status, f9, hq10, hq21, hq11, (show y8 1 = x0 1 from hq12), (show y8 10 = x0 10 from hq13), (show y8 11 = x0 11 from hq14), (show y8 14 = x0 14 from hq15), by rw [ht]; exact hP9, hD9⟩, hS.F ht⟩) hS.2.2 dX11_ping_32
  · have b22 : iv 0 0 r1 := iv_eqL c3 ivk_0
    refine lv_aload_n hx hb dX11_ping_13 rfl (lv_at hl 0 rfl) ?_
    refine lv_iconst (v := 1) hx hb dX11_ping_14 ic_1 ?_
    obtain ⟨hPc, hDc, hFc, hJn⟩ := cl_a (wc := [(m0, .inr (11, oX11 ra (upd x0 0 0))), (ra 12, .inl (kI, 3, .inl q_status))]) (wr := [(ra 5, .inl (kI, 24, .inl q_pace)), (ra 9, .inl (kI, 40, .inl q_to)), (ra 16, .inl (kI, 40760, .inl q_past)), (ra 2, .inl (kI, 8, .inl q_told)), (ra 11, .inl (kI, 1019, .inl q_now))]) hP hD hS hA [4, 2] [0, 1, 3, 5, 6] rfl rfl (by decide +kernel)
    refine va_calli (va_runV (As := [.int 1]) (rest := []) ⟨hx, hb, hml, hown, hts⟩ (s11_refuse l dC dI kB kI kJ kZ kC kS H.size m0 ra (upd x0 0 0) q_status 1 ((fI_u hX (k := 0) ((iv_w ivk_0 (by decide) (by decide))))) ((iv_w ivk_1 (by decide) (by decide)))) (cwV 1 hts gX11_ping_X11_refuse rfl rfl rfl (by decide +kernel) ⟨Nat.le_of_ble_eq_true rfl, Nat.le_of_ble_eq_true rfl⟩) ⟨fun a U g mk q => by obtain ⟨q0, q1, qP, qE, qD⟩ := q; exact ⟨q0, q1, qP, kE_call qE, qD⟩, va_recv hK hP (ci := 11) (q0 := 4) rfl rfl, fun U hU hW => ⟨rfl, by rw [hU], by rw [hU]; exact hPc, kE_warm hW hE, hDc.weaken (fun _ _ _ _ => trivial)⟩⟩ rfl rfl hl.1 rfl (lv_room (Nat.le_of_ble_eq_true rfl)) dX11_ping_15 ⟨Nat.le_of_ble_eq_true rfl, Nat.le_of_ble_eq_true rfl⟩) hS (fun q _ h => hFc q h) hFc (fun r23 u t H locs ht hvm w24 hB hz1 hk1 hS => ?_)
    obtain ⟨f25, hP1, hD1⟩ := hB
    try dsimp only at w24
    obtain ⟨hPa, hDa⟩ := hJn (w1 := [(m0, .inr (11, oX11 ra (upd x0 0 0))), (ra 12, .inl (kI, 3, .inl f25))]) hk1 ht hP1 hD1
    clear hP hD hPc hDc hFc hJn hP1 hD1 hk1
    have hP : va_P (dC, dI) vwCl [(ra 5, .inl (kI, 24, .inl q_pace)), (ra 9, .inl (kI, 40, .inl q_to)), (ra 16, .inl (kI, 40760, .inl q_past)), (ra 2, .inl (kI, 8, .inl q_told)), (ra 11, .inl (kI, 1019, .inl q_now)), (m0, .inr (11, oX11 ra (upd x0 0 0))), (ra 12, .inl (kI, 3, .inl f25))] H := hPa
    have hD : va_D A [(ra 5, .inl (kI, 24, .inl q_pace)), (ra 9, .inl (kI, 40, .inl q_to)), (ra 16, .inl (kI, 40760, .inl q_past)), (ra 2, .inl (kI, 8, .inl q_told)), (ra 11, .inl (kI, 1019, .inl q_now)), (m0, .inr (11, oX11 ra (upd x0 0 0))), (ra 12, .inl (kI, 3, .inl f25))] := hDa
    clear hPa hDa
    refine W.widen (k := 0) (n := 0) (Nat.le_of_ble_eq_true rfl) (Nat.le_of_ble_eq_true rfl) ?_
    obtain rfl : r23 = (-1) := iv_one w24 (by decide)
    have hPD9 := cl_s (wc := [(m0, .inr (11, oX11 ra (upd x0 0 0))), (ra 2, .inl (kI, 8, .inl q_told)), (ra 5, .inl (kI, 24, .inl q_pace)), (ra 9, .inl (kI, 40, .inl q_to)), (ra 11, .inl (kI, 1019, .inl q_now)), (ra 12, .inl (kI, 3, .inl f25)), (ra 16, .inl (kI, 40760, .inl q_past))]) hP hD [5, 3, 0, 1, 4, 6, 2] rfl (by decide +kernel)
    have hP9 := hPD9.1
    have hD9 := hPD9.2
    exact W.iret (v := (-1)) hx hb hr (fun t ht hW => ⟨⟨(-1), (), rfl, trivial, upd x0 0 0, q_now, f25, q_past, (fI_u hX (k := 0) ((iv_w ivk_0 (by decide) (by decide)))), hq_now, hq_past, (show x0 1 = x0 1 from rfl), (show x0 10 = x0 10 from rfl), (show x0 11 = x0 11 from rfl), (show x0 14 = x0 14 from rfl), by rw [ht]; exact hP9, hD9⟩, hS.F ht⟩) hS.2.2 dX11_ping_18
def rm_s11_sweep : Room := { frames := 6, cells := 0, slots := 0, locals := 156 }
set_option maxHeartbeats 4000000 in
set_option maxRecDepth 100000 in
theorem s11_sweep (l : Launch) (dC : Nat → ClassId) (dI : Nat → Nat → Nat) (kB kI kJ kZ kC kS : ClassId) (sz : Nat) (m0 : Nat) (ra : Nat → Nat) (x0 : Nat → Int32) (q_told : Nat → Int32) (q_kind : Nat → Int32) (q_salt : Nat → Int32) (q_pace : Nat → Int32) (q_mute : Nat → Int32) (q_late : Nat → Int32) (q_from : Nat → Int32) (q_to : Nat → Int32) (q_goal : Nat → Int32) (q_now : Nat → Int32) (q_status : Nat → Int32) (q_reach : Nat → Int32) (q_met : Nat → Int64) (q_past : Nat → Int32) (p0 : Int32) (p1 : Int32) (hX : fI lX11 hX11 x0) (hq_told : fI lTold hTold q_told) (hq_salt : fI (fun _ => 0) (fun _ => 15) q_salt) (hq_from : fI (fun _ => 0) (fun _ => 11) q_from) (hq_to : fI (fun _ => 0) (fun _ => 11) q_to) (hq_goal : fI (fun _ => 0) (fun _ => 11) q_goal) (hq_now : fI lNow hNow q_now) (hq_past : fI lPast hPast q_past) (hLT : ∀ j : Nat, (j : Int) < (q_told 1).toInt → (q_from j).toInt < (q_to j).toInt) (hfl14 : iv 0 0 (x0 14)) : Met l yX11_sweep wsX11_sweep rm_s11_sweep (va_Pc [.ref m0, .int p0, .int p1] (fun U => U.heap.size = sz ∧ va_P (dC, dI) vwCl [(m0, .inr (11, oX11 ra x0)), (ra 2, .inl (kI, 8, .inl q_told)), (ra 3, .inl (kI, 24, .inl q_kind)), (ra 4, .inl (kI, 24, .inl q_salt)), (ra 5, .inl (kI, 24, .inl q_pace)), (ra 6, .inl (kI, 24, .inl q_mute)), (ra 7, .inl (kI, 24, .inl q_late)), (ra 8, .inl (kI, 40, .inl q_from)), (ra 9, .inl (kI, 40, .inl q_to)), (ra 10, .inl (kI, 6, .inl q_goal)), (ra 11, .inl (kI, 1019, .inl q_now)), (ra 12, .inl (kI, 3, .inl q_status)), (ra 14, .inl (kI, 12, .inl q_reach)), (ra 15, .inl (kJ, 24, .inr (.inl q_met))), (ra 16, .inl (kI, 40760, .inl q_past))] U.heap ∧ kE dC dI kB kI kJ kZ kC kS U ∧ va_D (fun _ => True) [(m0, .inr (11, oX11 ra x0)), (ra 2, .inl (kI, 8, .inl q_told)), (ra 3, .inl (kI, 24, .inl q_kind)), (ra 4, .inl (kI, 24, .inl q_salt)), (ra 5, .inl (kI, 24, .inl q_pace)), (ra 6, .inl (kI, 24, .inl q_mute)), (ra 7, .inl (kI, 24, .inl q_late)), (ra 8, .inl (kI, 40, .inl q_from)), (ra 9, .inl (kI, 40, .inl q_to)), (ra 10, .inl (kI, 6, .inl q_goal)), (ra 11, .inl (kI, 1019, .inl q_now)), (ra 12, .inl (kI, 3, .inl q_status)), (ra 14, .inl (kI, 12, .inl q_reach)), (ra 15, .inl (kJ, 24, .inr (.inl q_met))), (ra 16, .inl (kI, 40760, .inl q_past))])) (va_Qi (fun (r : Int32) (_ : Unit) => iv (-1) 32 r) (fun _ t => ∃ (x0' : Nat → Int32) (q_now' : Nat → Int32) (q_status' : Nat → Int32) (q_met' : Nat → Int64) (q_past' : Nat → Int32), fI lX11 hX11 x0' ∧ iv 0 0 (x0' 14) ∧ fI lNow hNow q_now' ∧ fI lPast hPast q_past' ∧ (x0' 1 = x0 1) ∧ (x0' 10 = x0 10) ∧ (x0' 11 = x0 11) ∧ va_P (dC, dI) vwCl [(m0, .inr (11, oX11 ra x0')), (ra 2, .inl (kI, 8, .inl q_told)), (ra 3, .inl (kI, 24, .inl q_kind)), (ra 4, .inl (kI, 24, .inl q_salt)), (ra 5, .inl (kI, 24, .inl q_pace)), (ra 6, .inl (kI, 24, .inl q_mute)), (ra 7, .inl (kI, 24, .inl q_late)), (ra 8, .inl (kI, 40, .inl q_from)), (ra 9, .inl (kI, 40, .inl q_to)), (ra 10, .inl (kI, 6, .inl q_goal)), (ra 11, .inl (kI, 1019, .inl q_now')), (ra 12, .inl (kI, 3, .inl q_status')), (ra 14, .inl (kI, 12, .inl q_reach)), (ra 15, .inl (kJ, 24, .inr (.inl q_met'))), (ra 16, .inl (kI, 40760, .inl q_past'))] t.heap ∧ va_D (va_A [(m0, .inr (11, oX11 ra x0)), (ra 2, .inl (kI, 8, .inl q_told)), (ra 3, .inl (kI, 24, .inl q_kind)), (ra 4, .inl (kI, 24, .inl q_salt)), (ra 5, .inl (kI, 24, .inl q_pace)), (ra 6, .inl (kI, 24, .inl q_mute)), (ra 7, .inl (kI, 24, .inl q_late)), (ra 8, .inl (kI, 40, .inl q_from)), (ra 9, .inl (kI, 40, .inl q_to)), (ra 10, .inl (kI, 6, .inl q_goal)), (ra 11, .inl (kI, 1019, .inl q_now)), (ra 12, .inl (kI, 3, .inl q_status)), (ra 14, .inl (kI, 12, .inl q_reach)), (ra 15, .inl (kJ, 24, .inr (.inl q_met))), (ra 16, .inl (kI, 40760, .inl q_past))] sz) [(m0, .inr (11, oX11 ra x0')), (ra 2, .inl (kI, 8, .inl q_told)), (ra 3, .inl (kI, 24, .inl q_kind)), (ra 4, .inl (kI, 24, .inl q_salt)), (ra 5, .inl (kI, 24, .inl q_pace)), (ra 6, .inl (kI, 24, .inl q_mute)), (ra 7, .inl (kI, 24, .inl q_late)), (ra 8, .inl (kI, 40, .inl q_from)), (ra 9, .inl (kI, 40, .inl q_to)), (ra 10, .inl (kI, 6, .inl q_goal)), (ra 11, .inl (kI, 1019, .inl q_now')), (ra 12, .inl (kI, 3, .inl q_status')), (ra 14, .inl (kI, 12, .inl q_reach)), (ra 15, .inl (kJ, 24, .inr (.inl q_met'))), (ra 16, .inl (kI, 40760, .inl q_past'))]) (va_A [(m0, .inr (11, oX11 ra x0)), (ra 2, .inl (kI, 8, .inl q_told)), (ra 3, .inl (kI, 24, .inl q_kind)), (ra 4, .inl (kI, 24, .inl q_salt)), (ra 5, .inl (kI, 24, .inl q_pace)), (ra 6, .inl (kI, 24, .inl q_mute)), (ra 7, .inl (kI, 24, .inl q_late)), (ra 8, .inl (kI, 40, .inl q_from)), (ra 9, .inl (kI, 40, .inl q_to)), (ra 10, .inl (kI, 6, .inl q_goal)), (ra 11, .inl (kI, 1019, .inl q_now)), (ra 12, .inl (kI, 3, .inl q_status)), (ra 14, .inl (kI, 12, .inl q_reach)), (ra 15, .inl (kJ, 24, .inr (.inl q_met))), (ra 16, .inl (kI, 40760, .inl q_past))] sz)) 0 0 (va_A [(m0, .inr (11, oX11 ra x0)), (ra 2, .inl (kI, 8, .inl q_told)), (ra 3, .inl (kI, 24, .inl q_kind)), (ra 4, .inl (kI, 24, .inl q_salt)), (ra 5, .inl (kI, 24, .inl q_pace)), (ra 6, .inl (kI, 24, .inl q_mute)), (ra 7, .inl (kI, 24, .inl q_late)), (ra 8, .inl (kI, 40, .inl q_from)), (ra 9, .inl (kI, 40, .inl q_to)), (ra 10, .inl (kI, 6, .inl q_goal)), (ra 11, .inl (kI, 1019, .inl q_now)), (ra 12, .inl (kI, 3, .inl q_status)), (ra 14, .inl (kI, 12, .inl q_reach)), (ra 15, .inl (kJ, 24, .inr (.inl q_met))), (ra 16, .inl (kI, 40760, .inl q_past))] sz) := by
  refine Met.ofW (cc := cX11_sweep) (maxL := 3) (ret := (some .int)) (by decide) rfl ?_
  intro p e s m args0 below meth c s₁ B hml hv
  obtain ⟨hargs, hsz, hP, hE, hD0⟩ := hv
  have hx := B.exec
  have hb := B.bytes
  have hr := B.returns
  have hts := atoms_spec (ws := wsX11_sweep) B.pre
  have hown : s.vm.findClass RX11 = some m.cls := findClass_of_methodNamed B.named
  have hlocks := B.notSynchronized
  have hK := hE.1
  have hin11 : ∀ w ∈ wsX110, w ∈ wsX11_sweep := fun _ h9 => List.mem_cons_of_mem _ (List.mem_append_right _ h9)
  have hw_0 := hts (.fieldLink RX11 142 "PathProberModel" "code" "I") (List.mem_of_getElem? (i := 1) rfl)
  subst hsz
  have hD := hD0.self (sz := s.heap.size)
  generalize hAe : va_A [(m0, .inr (11, oX11 ra x0)), (ra 2, .inl (kI, 8, .inl q_told)), (ra 3, .inl (kI, 24, .inl q_kind)), (ra 4, .inl (kI, 24, .inl q_salt)), (ra 5, .inl (kI, 24, .inl q_pace)), (ra 6, .inl (kI, 24, .inl q_mute)), (ra 7, .inl (kI, 24, .inl q_late)), (ra 8, .inl (kI, 40, .inl q_from)), (ra 9, .inl (kI, 40, .inl q_to)), (ra 10, .inl (kI, 6, .inl q_goal)), (ra 11, .inl (kI, 1019, .inl q_now)), (ra 12, .inl (kI, 3, .inl q_status)), (ra 14, .inl (kI, 12, .inl q_reach)), (ra 15, .inl (kJ, 24, .inr (.inl q_met))), (ra 16, .inl (kI, 40760, .inl q_past))] s.heap.size = A at hD ⊢
  have hA : ∀ q : Nat, s.heap.size ≤ q → A q := fun q h => by rw [← hAe]; exact Or.inr h
  have hS : va_S A s.heap s.heap [] := va_S.rf
  have hP : va_P (dC, dI) vwCl [(m0, .inr (11, oX11 ra x0)), (ra 2, .inl (kI, 8, .inl q_told)), (ra 3, .inl (kI, 24, .inl q_kind)), (ra 4, .inl (kI, 24, .inl q_salt)), (ra 5, .inl (kI, 24, .inl q_pace)), (ra 6, .inl (kI, 24, .inl q_mute)), (ra 7, .inl (kI, 24, .inl q_late)), (ra 8, .inl (kI, 40, .inl q_from)), (ra 9, .inl (kI, 40, .inl q_to)), (ra 10, .inl (kI, 6, .inl q_goal)), (ra 11, .inl (kI, 1019, .inl q_now)), (ra 12, .inl (kI, 3, .inl q_status)), (ra 14, .inl (kI, 12, .inl q_reach)), (ra 15, .inl (kJ, 24, .inr (.inl q_met))), (ra 16, .inl (kI, 40760, .inl q_past))] s.heap := hP
  have hl := lv_entry ([.ref m0, .int p0, .int p1]) (n := 3) (Nat.le_of_ble_eq_true rfl)
  have hla : entryFrame m args0 3 = entryFrame m ([.ref m0, .int p0, .int p1] : List Value).toArray 3 := by rw [hargs]
  rw [hla, lg_entry_eq]
  generalize (lg_sl ([.ref m0, .int p0, .int p1]) ++ List.replicate (3 - (lg_sl ([.ref m0, .int p0, .int p1])).length) Slot.unset).toArray = ls at hl ⊢
  have hl : lv_has ls 3 [(0, .ref m0), (1, .int p0), (2, .int p1)] := hl
  have hJ20 : ∀ (y20_0 : Nat → Int32) (H : Heap) (locs : List Loc) (ls : Array Slot), fI lX11 hX11 y20_0 → iv 0 0 (y20_0 0) → iv 0 0 (y20_0 14) → (y20_0 1 = x0 1) → (y20_0 10 = x0 10) → (y20_0 11 = x0 11) → va_P (dC, dI) vwCl [(m0, .inr (11, oX11 ra y20_0)), (ra 2, .inl (kI, 8, .inl q_told)), (ra 3, .inl (kI, 24, .inl q_kind)), (ra 4, .inl (kI, 24, .inl q_salt)), (ra 5, .inl (kI, 24, .inl q_pace)), (ra 6, .inl (kI, 24, .inl q_mute)), (ra 7, .inl (kI, 24, .inl q_late)), (ra 8, .inl (kI, 40, .inl q_from)), (ra 9, .inl (kI, 40, .inl q_to)), (ra 10, .inl (kI, 6, .inl q_goal)), (ra 11, .inl (kI, 1019, .inl q_now)), (ra 12, .inl (kI, 3, .inl q_status)), (ra 14, .inl (kI, 12, .inl q_reach)), (ra 15, .inl (kJ, 24, .inr (.inl q_met))), (ra 16, .inl (kI, 40760, .inl q_past))] H → va_D A [(m0, .inr (11, oX11 ra y20_0)), (ra 2, .inl (kI, 8, .inl q_told)), (ra 3, .inl (kI, 24, .inl q_kind)), (ra 4, .inl (kI, 24, .inl q_salt)), (ra 5, .inl (kI, 24, .inl q_pace)), (ra 6, .inl (kI, 24, .inl q_mute)), (ra 7, .inl (kI, 24, .inl q_late)), (ra 8, .inl (kI, 40, .inl q_from)), (ra 9, .inl (kI, 40, .inl q_to)), (ra 10, .inl (kI, 6, .inl q_goal)), (ra 11, .inl (kI, 1019, .inl q_now)), (ra 12, .inl (kI, 3, .inl q_status)), (ra 14, .inl (kI, 12, .inl q_reach)), (ra 15, .inl (kJ, 24, .inr (.inl q_met))), (ra 16, .inl (kI, 40760, .inl q_past))] → va_S A s.heap H locs → lv_has ls 3 [(0, .ref m0), (1, .int p0), (2, .int p1)] → W p l e (headSpec wsX11_sweep rm_s11_sweep).room s m args0 below meth c H locs (0) (0) (MQ below (va_Qi (fun (r : Int32) (_ : Unit) => iv (-1) 32 r) (fun _ t => ∃ (x0' : Nat → Int32) (q_now' : Nat → Int32) (q_status' : Nat → Int32) (q_met' : Nat → Int64) (q_past' : Nat → Int32), fI lX11 hX11 x0' ∧ iv 0 0 (x0' 14) ∧ fI lNow hNow q_now' ∧ fI lPast hPast q_past' ∧ (x0' 1 = x0 1) ∧ (x0' 10 = x0 10) ∧ (x0' 11 = x0 11) ∧ va_P (dC, dI) vwCl [(m0, .inr (11, oX11 ra x0')), (ra 2, .inl (kI, 8, .inl q_told)), (ra 3, .inl (kI, 24, .inl q_kind)), (ra 4, .inl (kI, 24, .inl q_salt)), (ra 5, .inl (kI, 24, .inl q_pace)), (ra 6, .inl (kI, 24, .inl q_mute)), (ra 7, .inl (kI, 24, .inl q_late)), (ra 8, .inl (kI, 40, .inl q_from)), (ra 9, .inl (kI, 40, .inl q_to)), (ra 10, .inl (kI, 6, .inl q_goal)), (ra 11, .inl (kI, 1019, .inl q_now')), (ra 12, .inl (kI, 3, .inl q_status')), (ra 14, .inl (kI, 12, .inl q_reach)), (ra 15, .inl (kJ, 24, .inr (.inl q_met'))), (ra 16, .inl (kI, 40760, .inl q_past'))] t.heap ∧ va_D A [(m0, .inr (11, oX11 ra x0')), (ra 2, .inl (kI, 8, .inl q_told)), (ra 3, .inl (kI, 24, .inl q_kind)), (ra 4, .inl (kI, 24, .inl q_salt)), (ra 5, .inl (kI, 24, .inl q_pace)), (ra 6, .inl (kI, 24, .inl q_mute)), (ra 7, .inl (kI, 24, .inl q_late)), (ra 8, .inl (kI, 40, .inl q_from)), (ra 9, .inl (kI, 40, .inl q_to)), (ra 10, .inl (kI, 6, .inl q_goal)), (ra 11, .inl (kI, 1019, .inl q_now')), (ra 12, .inl (kI, 3, .inl q_status')), (ra 14, .inl (kI, 12, .inl q_reach)), (ra 15, .inl (kJ, 24, .inr (.inl q_met'))), (ra 16, .inl (kI, 40760, .inl q_past'))]) A) args0 s 0 0 A) (F0 m 20 ls []) := by
    intro y20_0 H locs ls hI20_0 h20_2 h20_3 htp_20 hfp_20 hor_20 hP hD hS hl
    refine lv_aload_n hx hb dX11_sweep_20 rfl (lv_at hl 0 rfl) ?_
    refine lv_iconst (v := 1) hx hb dX11_sweep_21 ic_1 ?_
    obtain ⟨hPc, hDc, hFc, hJn⟩ := cl_a (wc := [(m0, .inr (11, oX11 ra y20_0)), (ra 12, .inl (kI, 3, .inl q_status))]) (wr := [(ra 2, .inl (kI, 8, .inl q_told)), (ra 3, .inl (kI, 24, .inl q_kind)), (ra 4, .inl (kI, 24, .inl q_salt)), (ra 5, .inl (kI, 24, .inl q_pace)), (ra 6, .inl (kI, 24, .inl q_mute)), (ra 7, .inl (kI, 24, .inl q_late)), (ra 8, .inl (kI, 40, .inl q_from)), (ra 9, .inl (kI, 40, .inl q_to)), (ra 10, .inl (kI, 6, .inl q_goal)), (ra 11, .inl (kI, 1019, .inl q_now)), (ra 14, .inl (kI, 12, .inl q_reach)), (ra 15, .inl (kJ, 24, .inr (.inl q_met))), (ra 16, .inl (kI, 40760, .inl q_past))]) hP hD hS hA [0, 11] [1, 2, 3, 4, 5, 6, 7, 8, 9, 10, 12, 13, 14] rfl rfl (by decide +kernel)
    refine va_calli (va_runV (As := [.int 1]) (rest := []) ⟨hx, hb, hml, hown, hts⟩ (s11_refuse l dC dI kB kI kJ kZ kC kS H.size m0 ra y20_0 q_status 1 (hI20_0) ((iv_w ivk_1 (by decide) (by decide)))) (cwV 1 hts gX11_sweep_X11_refuse rfl rfl rfl (by decide +kernel) ⟨Nat.le_of_ble_eq_true rfl, Nat.le_of_ble_eq_true rfl⟩) ⟨fun a U g mk q => by obtain ⟨q0, q1, qP, qE, qD⟩ := q; exact ⟨q0, q1, qP, kE_call qE, qD⟩, va_recv hK hP (ci := 11) (q0 := 0) rfl rfl, fun U hU hW => ⟨rfl, by rw [hU], by rw [hU]; exact hPc, kE_warm hW hE, hDc.weaken (fun _ _ _ _ => trivial)⟩⟩ rfl rfl hl.1 rfl (lv_room (Nat.le_of_ble_eq_true rfl)) dX11_sweep_22 ⟨Nat.le_of_ble_eq_true rfl, Nat.le_of_ble_eq_true rfl⟩) hS (fun q _ h => hFc q h) hFc (fun r1 u t H locs ht hvm w2 hB hz1 hk1 hS => ?_)
    obtain ⟨f3, hP1, hD1⟩ := hB
    try dsimp only at w2
    obtain ⟨hPa, hDa⟩ := hJn (w1 := [(m0, .inr (11, oX11 ra y20_0)), (ra 12, .inl (kI, 3, .inl f3))]) hk1 ht hP1 hD1
    clear hP hD hPc hDc hFc hJn hP1 hD1 hk1
    have hP : va_P (dC, dI) vwCl [(ra 2, .inl (kI, 8, .inl q_told)), (ra 3, .inl (kI, 24, .inl q_kind)), (ra 4, .inl (kI, 24, .inl q_salt)), (ra 5, .inl (kI, 24, .inl q_pace)), (ra 6, .inl (kI, 24, .inl q_mute)), (ra 7, .inl (kI, 24, .inl q_late)), (ra 8, .inl (kI, 40, .inl q_from)), (ra 9, .inl (kI, 40, .inl q_to)), (ra 10, .inl (kI, 6, .inl q_goal)), (ra 11, .inl (kI, 1019, .inl q_now)), (ra 14, .inl (kI, 12, .inl q_reach)), (ra 15, .inl (kJ, 24, .inr (.inl q_met))), (ra 16, .inl (kI, 40760, .inl q_past)), (m0, .inr (11, oX11 ra y20_0)), (ra 12, .inl (kI, 3, .inl f3))] H := hPa
    have hD : va_D A [(ra 2, .inl (kI, 8, .inl q_told)), (ra 3, .inl (kI, 24, .inl q_kind)), (ra 4, .inl (kI, 24, .inl q_salt)), (ra 5, .inl (kI, 24, .inl q_pace)), (ra 6, .inl (kI, 24, .inl q_mute)), (ra 7, .inl (kI, 24, .inl q_late)), (ra 8, .inl (kI, 40, .inl q_from)), (ra 9, .inl (kI, 40, .inl q_to)), (ra 10, .inl (kI, 6, .inl q_goal)), (ra 11, .inl (kI, 1019, .inl q_now)), (ra 14, .inl (kI, 12, .inl q_reach)), (ra 15, .inl (kJ, 24, .inr (.inl q_met))), (ra 16, .inl (kI, 40760, .inl q_past)), (m0, .inr (11, oX11 ra y20_0)), (ra 12, .inl (kI, 3, .inl f3))] := hDa
    clear hPa hDa
    refine W.widen (k := 0) (n := 0) (Nat.le_of_ble_eq_true rfl) (Nat.le_of_ble_eq_true rfl) ?_
    obtain rfl : r1 = (-1) := iv_one w2 (by decide)
    have hPD9 := cl_s (wc := [(m0, .inr (11, oX11 ra y20_0)), (ra 2, .inl (kI, 8, .inl q_told)), (ra 3, .inl (kI, 24, .inl q_kind)), (ra 4, .inl (kI, 24, .inl q_salt)), (ra 5, .inl (kI, 24, .inl q_pace)), (ra 6, .inl (kI, 24, .inl q_mute)), (ra 7, .inl (kI, 24, .inl q_late)), (ra 8, .inl (kI, 40, .inl q_from)), (ra 9, .inl (kI, 40, .inl q_to)), (ra 10, .inl (kI, 6, .inl q_goal)), (ra 11, .inl (kI, 1019, .inl q_now)), (ra 12, .inl (kI, 3, .inl f3)), (ra 14, .inl (kI, 12, .inl q_reach)), (ra 15, .inl (kJ, 24, .inr (.inl q_met))), (ra 16, .inl (kI, 40760, .inl q_past))]) hP hD [13, 0, 1, 2, 3, 4, 5, 6, 7, 8, 9, 14, 10, 11, 12] rfl (by decide +kernel)
    have hP9 := hPD9.1
    have hD9 := hPD9.2
    exact W.iret (v := (-1)) hx hb hr (fun t ht hW => ⟨⟨(-1), (), rfl, (iv_w ivk_m1 (by decide) (by decide)), y20_0, q_now, f3, q_met, q_past, hI20_0, h20_3, hq_now, hq_past, (show y20_0 1 = x0 1 from htp_20), (show y20_0 10 = x0 10 from hfp_20), (show y20_0 11 = x0 11 from hor_20), by rw [ht]; exact hP9, hD9⟩, hS.F ht⟩) hS.2.2 dX11_sweep_25
  refine lv_aload_n hx hb dX11_sweep_0 rfl (lv_at hl 0 rfl) ?_
  refine lv_iconst (v := 0) hx hb dX11_sweep_1 ic_0 ?_
  refine va_put (D := (dC, dI)) (ci := 11) (v := .int 0) (ty := .int) (C := RX11) (T := TX11) (N := 61) hx hb hts hin11 tyX11 tyX11_ok nmX11 hown hK hP hD hS 0 rfl rfl 2 (by decide) hw_0 (fun _ h9 => h9) rfl (by decide +kernel) rfl rfl (Nat.le_of_ble_eq_true rfl) dX11_sweep_2 (fun H locs hPa hDa hS => ?_)
  clear hP hD
  have hP : va_P (dC, dI) vwCl [(m0, .inr (11, oX11 ra (upd x0 0 0))), (ra 2, .inl (kI, 8, .inl q_told)), (ra 3, .inl (kI, 24, .inl q_kind)), (ra 4, .inl (kI, 24, .inl q_salt)), (ra 5, .inl (kI, 24, .inl q_pace)), (ra 6, .inl (kI, 24, .inl q_mute)), (ra 7, .inl (kI, 24, .inl q_late)), (ra 8, .inl (kI, 40, .inl q_from)), (ra 9, .inl (kI, 40, .inl q_to)), (ra 10, .inl (kI, 6, .inl q_goal)), (ra 11, .inl (kI, 1019, .inl q_now)), (ra 12, .inl (kI, 3, .inl q_status)), (ra 14, .inl (kI, 12, .inl q_reach)), (ra 15, .inl (kJ, 24, .inr (.inl q_met))), (ra 16, .inl (kI, 40760, .inl q_past))] H := hPa
  have hD : va_D A [(m0, .inr (11, oX11 ra (upd x0 0 0))), (ra 2, .inl (kI, 8, .inl q_told)), (ra 3, .inl (kI, 24, .inl q_kind)), (ra 4, .inl (kI, 24, .inl q_salt)), (ra 5, .inl (kI, 24, .inl q_pace)), (ra 6, .inl (kI, 24, .inl q_mute)), (ra 7, .inl (kI, 24, .inl q_late)), (ra 8, .inl (kI, 40, .inl q_from)), (ra 9, .inl (kI, 40, .inl q_to)), (ra 10, .inl (kI, 6, .inl q_goal)), (ra 11, .inl (kI, 1019, .inl q_now)), (ra 12, .inl (kI, 3, .inl q_status)), (ra 14, .inl (kI, 12, .inl q_reach)), (ra 15, .inl (kJ, 24, .inr (.inl q_met))), (ra 16, .inl (kI, 40760, .inl q_past))] := hDa
  clear hPa hDa
  refine lv_aload_n hx hb dX11_sweep_5 rfl (lv_at hl 0 rfl) ?_
  refine lv_iload_n hx hb dX11_sweep_6 rfl (lv_at hl 1 rfl) ?_
  obtain ⟨hPc, hDc, hFc, hJn⟩ := cl_a (wc := [(m0, .inr (11, oX11 ra (upd x0 0 0))), (ra 2, .inl (kI, 8, .inl q_told))]) (wr := [(ra 3, .inl (kI, 24, .inl q_kind)), (ra 4, .inl (kI, 24, .inl q_salt)), (ra 5, .inl (kI, 24, .inl q_pace)), (ra 6, .inl (kI, 24, .inl q_mute)), (ra 7, .inl (kI, 24, .inl q_late)), (ra 8, .inl (kI, 40, .inl q_from)), (ra 9, .inl (kI, 40, .inl q_to)), (ra 10, .inl (kI, 6, .inl q_goal)), (ra 11, .inl (kI, 1019, .inl q_now)), (ra 12, .inl (kI, 3, .inl q_status)), (ra 14, .inl (kI, 12, .inl q_reach)), (ra 15, .inl (kJ, 24, .inr (.inl q_met))), (ra 16, .inl (kI, 40760, .inl q_past))]) hP hD hS hA [0, 1] [2, 3, 4, 5, 6, 7, 8, 9, 10, 11, 12, 13, 14] rfl rfl (by decide +kernel)
  refine va_calli (va_runV (As := [.int p0]) (rest := []) ⟨hx, hb, hml, hown, hts⟩ (s11_isGoal l dC dI kB kI kJ kZ kC kS H.size m0 ra (upd x0 0 0) q_told p0 ((fI_u hX (k := 0) ((iv_w ivk_0 (by decide) (by decide))))) (hq_told)) (cwV 1 hts gX11_sweep_X11_isGoal rfl rfl rfl (by decide +kernel) ⟨Nat.le_of_ble_eq_true rfl, Nat.le_of_ble_eq_true rfl⟩) ⟨fun a U g mk q => by obtain ⟨q0, q1, qP, qE, qD⟩ := q; exact ⟨q0, q1, qP, kE_call qE, qD⟩, va_recv hK hP (ci := 11) (q0 := 0) rfl rfl, fun U hU hW => ⟨rfl, by rw [hU], by rw [hU]; exact hPc, kE_warm hW hE, hDc.weaken (fun _ _ _ _ => trivial)⟩⟩ rfl rfl hl.1 rfl (lv_room (Nat.le_of_ble_eq_true rfl)) dX11_sweep_7 ⟨Nat.le_of_ble_eq_true rfl, Nat.le_of_ble_eq_true rfl⟩) hS (fun q _ h => hFc q h) hFc (fun r4 u t H locs ht hvm w5 hB hz1 hk1 hS => ?_)
  obtain ⟨hP1, hD1⟩ := hB
  try dsimp only at w5
  obtain ⟨hPa, hDa⟩ := hJn (w1 := [(m0, .inr (11, oX11 ra (upd x0 0 0))), (ra 2, .inl (kI, 8, .inl q_told))]) hk1 ht hP1 hD1
  clear hP hD hPc hDc hFc hJn hP1 hD1 hk1
  have hP : va_P (dC, dI) vwCl [(ra 3, .inl (kI, 24, .inl q_kind)), (ra 4, .inl (kI, 24, .inl q_salt)), (ra 5, .inl (kI, 24, .inl q_pace)), (ra 6, .inl (kI, 24, .inl q_mute)), (ra 7, .inl (kI, 24, .inl q_late)), (ra 8, .inl (kI, 40, .inl q_from)), (ra 9, .inl (kI, 40, .inl q_to)), (ra 10, .inl (kI, 6, .inl q_goal)), (ra 11, .inl (kI, 1019, .inl q_now)), (ra 12, .inl (kI, 3, .inl q_status)), (ra 14, .inl (kI, 12, .inl q_reach)), (ra 15, .inl (kJ, 24, .inr (.inl q_met))), (ra 16, .inl (kI, 40760, .inl q_past)), (m0, .inr (11, oX11 ra (upd x0 0 0))), (ra 2, .inl (kI, 8, .inl q_told))] H := hPa
  have hD : va_D A [(ra 3, .inl (kI, 24, .inl q_kind)), (ra 4, .inl (kI, 24, .inl q_salt)), (ra 5, .inl (kI, 24, .inl q_pace)), (ra 6, .inl (kI, 24, .inl q_mute)), (ra 7, .inl (kI, 24, .inl q_late)), (ra 8, .inl (kI, 40, .inl q_from)), (ra 9, .inl (kI, 40, .inl q_to)), (ra 10, .inl (kI, 6, .inl q_goal)), (ra 11, .inl (kI, 1019, .inl q_now)), (ra 12, .inl (kI, 3, .inl q_status)), (ra 14, .inl (kI, 12, .inl q_reach)), (ra 15, .inl (kJ, 24, .inr (.inl q_met))), (ra 16, .inl (kI, 40760, .inl q_past)), (m0, .inr (11, oX11 ra (upd x0 0 0))), (ra 2, .inl (kI, 8, .inl q_told))] := hDa
  clear hPa hDa
  refine W.widen (k := 0) (n := 0) (Nat.le_of_ble_eq_true rfl) (Nat.le_of_ble_eq_true rfl) ?_
  refine lv_if_eq (tgt := 20) hx hb dX11_sweep_10 rfl (fun c6 => ?_) (fun c6 => ?_)
  · have b7 : iv 0 0 r4 := iv_eqL c6 ivk_0
    have hPD9 := cl_s (wc := [(m0, .inr (11, oX11 ra (upd x0 0 0))), (ra 2, .inl (kI, 8, .inl q_told)), (ra 3, .inl (kI, 24, .inl q_kind)), (ra 4, .inl (kI, 24, .inl q_salt)), (ra 5, .inl (kI, 24, .inl q_pace)), (ra 6, .inl (kI, 24, .inl q_mute)), (ra 7, .inl (kI, 24, .inl q_late)), (ra 8, .inl (kI, 40, .inl q_from)), (ra 9, .inl (kI, 40, .inl q_to)), (ra 10, .inl (kI, 6, .inl q_goal)), (ra 11, .inl (kI, 1019, .inl q_now)), (ra 12, .inl (kI, 3, .inl q_status)), (ra 14, .inl (kI, 12, .inl q_reach)), (ra 15, .inl (kJ, 24, .inr (.inl q_met))), (ra 16, .inl (kI, 40760, .inl q_past))]) hP hD [13, 14, 0, 1, 2, 3, 4, 5, 6, 7, 8, 9, 10, 11, 12] rfl (by decide +kernel)
    exact hJ20 (upd x0 0 0) _ _ _ ((fI_u hX (k := 0) ((iv_w ivk_0 (by decide) (by decide))))) (ivk_0) (hfl14) ((show x0 1 = x0 1 from rfl)) ((show x0 10 = x0 10 from rfl)) ((show x0 11 = x0 11 from rfl)) (hPD9.1) (hPD9.2) hS (lv_sub hl [0, 1, 2] rfl)
  · have b8 : iv 1 1 r4 := iv_neLo c6 w5.1 ivk_0 (by decide) (by decide)
    have b9 : iv 0 2 p0 := (w5.2).resolve_left (iv_ne b8 ivk_0 (by decide))
    refine lv_iload_n hx hb dX11_sweep_13 rfl (lv_at hl 2 rfl) ?_
    obtain ⟨hPc, hDc, hFc, hJn⟩ := cl_a (wc := []) (wr := [(ra 3, .inl (kI, 24, .inl q_kind)), (ra 4, .inl (kI, 24, .inl q_salt)), (ra 5, .inl (kI, 24, .inl q_pace)), (ra 6, .inl (kI, 24, .inl q_mute)), (ra 7, .inl (kI, 24, .inl q_late)), (ra 8, .inl (kI, 40, .inl q_from)), (ra 9, .inl (kI, 40, .inl q_to)), (ra 10, .inl (kI, 6, .inl q_goal)), (ra 11, .inl (kI, 1019, .inl q_now)), (ra 12, .inl (kI, 3, .inl q_status)), (ra 14, .inl (kI, 12, .inl q_reach)), (ra 15, .inl (kJ, 24, .inr (.inl q_met))), (ra 16, .inl (kI, 40760, .inl q_past)), (m0, .inr (11, oX11 ra (upd x0 0 0))), (ra 2, .inl (kI, 8, .inl q_told))]) hP hD hS hA [] [0, 1, 2, 3, 4, 5, 6, 7, 8, 9, 10, 11, 12, 13, 14] rfl rfl (by decide +kernel)
    refine va_calli (va_runS (As := [.int p1]) (rest := []) ⟨hx, hb, hml, hown, hts⟩ (s11_isHop l dC dI kB kI kJ kZ kC kS H.size p1) (va_cwS 1 hts gX11_sweep_X11_isHop rfl rfl rfl (by decide +kernel) ⟨Nat.le_of_ble_eq_true rfl, Nat.le_of_ble_eq_true rfl⟩) ⟨fun a U g mk q => by obtain ⟨q0, q1, qP, qE, qD⟩ := q; exact ⟨q0, q1, qP, kE_call qE, qD⟩, fun U hU hW => ⟨rfl, by rw [hU], by rw [hU]; exact hPc, kE_warm hW hE, hDc.weaken (fun _ _ _ _ => trivial)⟩⟩ rfl rfl hl.1 rfl (lv_room (Nat.le_of_ble_eq_true rfl)) dX11_sweep_14 ⟨Nat.le_of_ble_eq_true rfl, Nat.le_of_ble_eq_true rfl⟩) hS (fun q _ h => hFc q h) hFc (fun r10 u t H locs ht hvm w11 hB hz1 hk1 hS => ?_)
    obtain ⟨hP1, hD1⟩ := hB
    try dsimp only at w11
    obtain ⟨hPa, hDa⟩ := hJn (w1 := []) hk1 ht hP1 hD1
    clear hP hD hPc hDc hFc hJn hP1 hD1 hk1
    have hP : va_P (dC, dI) vwCl [(ra 3, .inl (kI, 24, .inl q_kind)), (ra 4, .inl (kI, 24, .inl q_salt)), (ra 5, .inl (kI, 24, .inl q_pace)), (ra 6, .inl (kI, 24, .inl q_mute)), (ra 7, .inl (kI, 24, .inl q_late)), (ra 8, .inl (kI, 40, .inl q_from)), (ra 9, .inl (kI, 40, .inl q_to)), (ra 10, .inl (kI, 6, .inl q_goal)), (ra 11, .inl (kI, 1019, .inl q_now)), (ra 12, .inl (kI, 3, .inl q_status)), (ra 14, .inl (kI, 12, .inl q_reach)), (ra 15, .inl (kJ, 24, .inr (.inl q_met))), (ra 16, .inl (kI, 40760, .inl q_past)), (m0, .inr (11, oX11 ra (upd x0 0 0))), (ra 2, .inl (kI, 8, .inl q_told))] H := hPa
    have hD : va_D A [(ra 3, .inl (kI, 24, .inl q_kind)), (ra 4, .inl (kI, 24, .inl q_salt)), (ra 5, .inl (kI, 24, .inl q_pace)), (ra 6, .inl (kI, 24, .inl q_mute)), (ra 7, .inl (kI, 24, .inl q_late)), (ra 8, .inl (kI, 40, .inl q_from)), (ra 9, .inl (kI, 40, .inl q_to)), (ra 10, .inl (kI, 6, .inl q_goal)), (ra 11, .inl (kI, 1019, .inl q_now)), (ra 12, .inl (kI, 3, .inl q_status)), (ra 14, .inl (kI, 12, .inl q_reach)), (ra 15, .inl (kJ, 24, .inr (.inl q_met))), (ra 16, .inl (kI, 40760, .inl q_past)), (m0, .inr (11, oX11 ra (upd x0 0 0))), (ra 2, .inl (kI, 8, .inl q_told))] := hDa
    clear hPa hDa
    refine W.widen (k := 0) (n := 0) (Nat.le_of_ble_eq_true rfl) (Nat.le_of_ble_eq_true rfl) ?_
    refine lv_if_ne (tgt := 26) hx hb dX11_sweep_17 rfl (fun c12 => ?_) (fun c12 => ?_)
    · have b13 : iv 1 1 r10 := iv_neLo c12 w11.1 ivk_0 (by decide) (by decide)
      have b14 : iv 1 10 p1 := (w11.2).resolve_left (iv_ne b13 ivk_0 (by decide))
      refine lv_aload_n hx hb dX11_sweep_26 rfl (lv_at hl 0 rfl) ?_
      obtain ⟨hPc, hDc, hFc, hJn⟩ := cl_a (wc := [(m0, .inr (11, oX11 ra (upd x0 0 0))), (ra 11, .inl (kI, 1019, .inl q_now)), (ra 16, .inl (kI, 40760, .inl q_past))]) (wr := [(ra 3, .inl (kI, 24, .inl q_kind)), (ra 4, .inl (kI, 24, .inl q_salt)), (ra 5, .inl (kI, 24, .inl q_pace)), (ra 6, .inl (kI, 24, .inl q_mute)), (ra 7, .inl (kI, 24, .inl q_late)), (ra 8, .inl (kI, 40, .inl q_from)), (ra 9, .inl (kI, 40, .inl q_to)), (ra 10, .inl (kI, 6, .inl q_goal)), (ra 12, .inl (kI, 3, .inl q_status)), (ra 14, .inl (kI, 12, .inl q_reach)), (ra 15, .inl (kJ, 24, .inr (.inl q_met))), (ra 2, .inl (kI, 8, .inl q_told))]) hP hD hS hA [13, 8, 12] [0, 1, 2, 3, 4, 5, 6, 7, 9, 10, 11, 14] rfl rfl (by decide +kernel)
      refine va_callv (va_runV (As := []) (rest := []) ⟨hx, hb, hml, hown, hts⟩ (s11_keep l dC dI kB kI kJ kZ kC kS H.size m0 ra (upd x0 0 0) q_now q_past ((fI_u hX (k := 0) ((iv_w ivk_0 (by decide) (by decide))))) (hq_now) (hq_past)) (cwV 0 hts gX11_sweep_X11_keep rfl rfl rfl (by decide +kernel) ⟨Nat.le_of_ble_eq_true rfl, Nat.le_of_ble_eq_true rfl⟩) ⟨fun a U g mk q => by obtain ⟨q0, q1, qP, qE, qD⟩ := q; exact ⟨q0, q1, qP, kE_call qE, qD⟩, va_recv hK hP (ci := 11) (q0 := 13) rfl rfl, fun U hU hW => ⟨rfl, by rw [hU], by rw [hU]; exact hPc, kE_warm hW hE, hDc.weaken (fun _ _ _ _ => trivial)⟩⟩ rfl rfl hl.1 rfl (lv_room (Nat.le_of_ble_eq_true rfl)) dX11_sweep_27 ⟨Nat.le_of_ble_eq_true rfl, Nat.le_of_ble_eq_true rfl⟩) hS (fun q _ h => hFc q h) hFc (fun u t H locs ht hvm w16 hB hz1 hk1 hS => ?_)
      obtain ⟨y17, f18, hq19, hq20, hq21, hq22, hq23, hq24, hP1, hD1⟩ := hB
      try dsimp only at w16
      obtain ⟨hPa, hDa⟩ := hJn (w1 := [(m0, .inr (11, oX11 ra y17)), (ra 11, .inl (kI, 1019, .inl q_now)), (ra 16, .inl (kI, 40760, .inl f18))]) hk1 ht hP1 hD1
      clear hP hD hPc hDc hFc hJn hP1 hD1 hk1
      have hP : va_P (dC, dI) vwCl [(ra 3, .inl (kI, 24, .inl q_kind)), (ra 4, .inl (kI, 24, .inl q_salt)), (ra 5, .inl (kI, 24, .inl q_pace)), (ra 6, .inl (kI, 24, .inl q_mute)), (ra 7, .inl (kI, 24, .inl q_late)), (ra 8, .inl (kI, 40, .inl q_from)), (ra 9, .inl (kI, 40, .inl q_to)), (ra 10, .inl (kI, 6, .inl q_goal)), (ra 12, .inl (kI, 3, .inl q_status)), (ra 14, .inl (kI, 12, .inl q_reach)), (ra 15, .inl (kJ, 24, .inr (.inl q_met))), (ra 2, .inl (kI, 8, .inl q_told)), (m0, .inr (11, oX11 ra y17)), (ra 11, .inl (kI, 1019, .inl q_now)), (ra 16, .inl (kI, 40760, .inl f18))] H := hPa
      have hD : va_D A [(ra 3, .inl (kI, 24, .inl q_kind)), (ra 4, .inl (kI, 24, .inl q_salt)), (ra 5, .inl (kI, 24, .inl q_pace)), (ra 6, .inl (kI, 24, .inl q_mute)), (ra 7, .inl (kI, 24, .inl q_late)), (ra 8, .inl (kI, 40, .inl q_from)), (ra 9, .inl (kI, 40, .inl q_to)), (ra 10, .inl (kI, 6, .inl q_goal)), (ra 12, .inl (kI, 3, .inl q_status)), (ra 14, .inl (kI, 12, .inl q_reach)), (ra 15, .inl (kJ, 24, .inr (.inl q_met))), (ra 2, .inl (kI, 8, .inl q_told)), (m0, .inr (11, oX11 ra y17)), (ra 11, .inl (kI, 1019, .inl q_now)), (ra 16, .inl (kI, 40760, .inl f18))] := hDa
      clear hPa hDa
      refine W.widen (k := 0) (n := 0) (Nat.le_of_ble_eq_true rfl) (Nat.le_of_ble_eq_true rfl) ?_
      refine lv_aload_n hx hb dX11_sweep_30 rfl (lv_at hl 0 rfl) ?_
      refine lv_iload_n hx hb dX11_sweep_31 rfl (lv_at hl 1 rfl) ?_
      refine lv_iload_n hx hb dX11_sweep_32 rfl (lv_at hl 2 rfl) ?_
      obtain ⟨hPc, hDc, hFc, hJn⟩ := cl_a (wc := [(m0, .inr (11, oX11 ra y17)), (ra 2, .inl (kI, 8, .inl q_told)), (ra 3, .inl (kI, 24, .inl q_kind)), (ra 4, .inl (kI, 24, .inl q_salt)), (ra 5, .inl (kI, 24, .inl q_pace)), (ra 6, .inl (kI, 24, .inl q_mute)), (ra 7, .inl (kI, 24, .inl q_late)), (ra 8, .inl (kI, 40, .inl q_from)), (ra 9, .inl (kI, 40, .inl q_to)), (ra 10, .inl (kI, 6, .inl q_goal)), (ra 11, .inl (kI, 1019, .inl q_now)), (ra 14, .inl (kI, 12, .inl q_reach)), (ra 15, .inl (kJ, 24, .inr (.inl q_met)))]) (wr := [(ra 12, .inl (kI, 3, .inl q_status)), (ra 16, .inl (kI, 40760, .inl f18))]) hP hD hS hA [12, 11, 0, 1, 2, 3, 4, 5, 6, 7, 13, 9, 10] [8, 14] rfl rfl (by decide +kernel)
      refine va_calli (va_runV (As := [.int p0, .int p1]) (rest := []) ⟨hx, hb, hml, hown, hts⟩ (s11_sweepNow l dC dI kB kI kJ kZ kC kS H.size m0 ra y17 q_told q_kind q_salt q_pace q_mute q_late q_from q_to q_goal q_now q_reach q_met p0 p1 (hq19) (hq_told) (hq_salt) (hq_from) (hq_to) (hq_goal) (hq_now) (b9) (b14) (hLT) ((iv_eqL hq24 hfl14))) (cwV 2 hts gX11_sweep_X11_sweepNow rfl rfl rfl (by decide +kernel) ⟨Nat.le_of_ble_eq_true rfl, Nat.le_of_ble_eq_true rfl⟩) ⟨fun a U g mk q => by obtain ⟨q0, q1, qP, qE, qD⟩ := q; exact ⟨q0, q1, qP, kE_call qE, qD⟩, va_recv hK hP (ci := 11) (q0 := 12) rfl rfl, fun U hU hW => ⟨rfl, by rw [hU], by rw [hU]; exact hPc, kE_warm hW hE, hDc.weaken (fun _ _ _ _ => trivial)⟩⟩ rfl rfl hl.1 rfl (lv_room (Nat.le_of_ble_eq_true rfl)) dX11_sweep_33 ⟨Nat.le_of_ble_eq_true rfl, Nat.le_of_ble_eq_true rfl⟩) hS (fun q _ h => hFc q h) hFc (fun r25 u t H locs ht hvm w26 hB hz1 hk1 hS => ?_)
      obtain ⟨y27, f28, f29, hq30, hq31, hq32, hq33, hq34, hq35, hP1, hD1⟩ := hB
      try dsimp only at w26
      obtain ⟨hPa, hDa⟩ := hJn (w1 := [(m0, .inr (11, oX11 ra y27)), (ra 2, .inl (kI, 8, .inl q_told)), (ra 3, .inl (kI, 24, .inl q_kind)), (ra 4, .inl (kI, 24, .inl q_salt)), (ra 5, .inl (kI, 24, .inl q_pace)), (ra 6, .inl (kI, 24, .inl q_mute)), (ra 7, .inl (kI, 24, .inl q_late)), (ra 8, .inl (kI, 40, .inl q_from)), (ra 9, .inl (kI, 40, .inl q_to)), (ra 10, .inl (kI, 6, .inl q_goal)), (ra 11, .inl (kI, 1019, .inl f28)), (ra 14, .inl (kI, 12, .inl q_reach)), (ra 15, .inl (kJ, 24, .inr (.inl f29)))]) hk1 ht hP1 hD1
      clear hP hD hPc hDc hFc hJn hP1 hD1 hk1
      have hP : va_P (dC, dI) vwCl [(ra 12, .inl (kI, 3, .inl q_status)), (ra 16, .inl (kI, 40760, .inl f18)), (m0, .inr (11, oX11 ra y27)), (ra 2, .inl (kI, 8, .inl q_told)), (ra 3, .inl (kI, 24, .inl q_kind)), (ra 4, .inl (kI, 24, .inl q_salt)), (ra 5, .inl (kI, 24, .inl q_pace)), (ra 6, .inl (kI, 24, .inl q_mute)), (ra 7, .inl (kI, 24, .inl q_late)), (ra 8, .inl (kI, 40, .inl q_from)), (ra 9, .inl (kI, 40, .inl q_to)), (ra 10, .inl (kI, 6, .inl q_goal)), (ra 11, .inl (kI, 1019, .inl f28)), (ra 14, .inl (kI, 12, .inl q_reach)), (ra 15, .inl (kJ, 24, .inr (.inl f29)))] H := hPa
      have hD : va_D A [(ra 12, .inl (kI, 3, .inl q_status)), (ra 16, .inl (kI, 40760, .inl f18)), (m0, .inr (11, oX11 ra y27)), (ra 2, .inl (kI, 8, .inl q_told)), (ra 3, .inl (kI, 24, .inl q_kind)), (ra 4, .inl (kI, 24, .inl q_salt)), (ra 5, .inl (kI, 24, .inl q_pace)), (ra 6, .inl (kI, 24, .inl q_mute)), (ra 7, .inl (kI, 24, .inl q_late)), (ra 8, .inl (kI, 40, .inl q_from)), (ra 9, .inl (kI, 40, .inl q_to)), (ra 10, .inl (kI, 6, .inl q_goal)), (ra 11, .inl (kI, 1019, .inl f28)), (ra 14, .inl (kI, 12, .inl q_reach)), (ra 15, .inl (kJ, 24, .inr (.inl f29)))] := hDa
      clear hPa hDa
      refine W.widen (k := 0) (n := 0) (Nat.le_of_ble_eq_true rfl) (Nat.le_of_ble_eq_true rfl) ?_
      have hPD9 := cl_s (wc := [(m0, .inr (11, oX11 ra y27)), (ra 2, .inl (kI, 8, .inl q_told)), (ra 3, .inl (kI, 24, .inl q_kind)), (ra 4, .inl (kI, 24, .inl q_salt)), (ra 5, .inl (kI, 24, .inl q_pace)), (ra 6, .inl (kI, 24, .inl q_mute)), (ra 7, .inl (kI, 24, .inl q_late)), (ra 8, .inl (kI, 40, .inl q_from)), (ra 9, .inl (kI, 40, .inl q_to)), (ra 10, .inl (kI, 6, .inl q_goal)), (ra 11, .inl (kI, 1019, .inl f28)), (ra 12, .inl (kI, 3, .inl q_status)), (ra 14, .inl (kI, 12, .inl q_reach)), (ra 15, .inl (kJ, 24, .inr (.inl f29))), (ra 16, .inl (kI, 40760, .inl f18))]) hP hD [2, 3, 4, 5, 6, 7, 8, 9, 10, 11, 12, 0, 13, 14, 1] rfl (by decide +kernel)
      have hP9 := hPD9.1
      have hD9 := hPD9.2
      exact W.iret (v := r25) hx hb hr (fun t ht hW => ⟨⟨r25, (), rfl, (iv_w w26 (by decide) (by decide)), y27, f28, q_status, f29, f18, hq30, hq31, hq32, hq20, (show y27 1 = x0 1 from hq33.trans (hq21)), (show y27 10 = x0 10 from hq34.trans (hq22)), (show y27 11 = x0 11 from hq35.trans (hq23)), by rw [ht]; exact hP9, hD9⟩, hS.F ht⟩) hS.2.2 dX11_sweep_36
    · have b36 : iv 0 0 r10 := iv_eqL c12 ivk_0
      have hPD9 := cl_s (wc := [(m0, .inr (11, oX11 ra (upd x0 0 0))), (ra 2, .inl (kI, 8, .inl q_told)), (ra 3, .inl (kI, 24, .inl q_kind)), (ra 4, .inl (kI, 24, .inl q_salt)), (ra 5, .inl (kI, 24, .inl q_pace)), (ra 6, .inl (kI, 24, .inl q_mute)), (ra 7, .inl (kI, 24, .inl q_late)), (ra 8, .inl (kI, 40, .inl q_from)), (ra 9, .inl (kI, 40, .inl q_to)), (ra 10, .inl (kI, 6, .inl q_goal)), (ra 11, .inl (kI, 1019, .inl q_now)), (ra 12, .inl (kI, 3, .inl q_status)), (ra 14, .inl (kI, 12, .inl q_reach)), (ra 15, .inl (kJ, 24, .inr (.inl q_met))), (ra 16, .inl (kI, 40760, .inl q_past))]) hP hD [13, 14, 0, 1, 2, 3, 4, 5, 6, 7, 8, 9, 10, 11, 12] rfl (by decide +kernel)
      exact hJ20 (upd x0 0 0) _ _ _ ((fI_u hX (k := 0) ((iv_w ivk_0 (by decide) (by decide))))) (ivk_0) (hfl14) ((show x0 1 = x0 1 from rfl)) ((show x0 10 = x0 10 from rfl)) ((show x0 11 = x0 11 from rfl)) (hPD9.1) (hPD9.2) hS (lv_sub hl [0, 1, 2] rfl)
def rm_s11_trace : Room := { frames := 6, cells := 0, slots := 0, locals := 154 }
set_option maxHeartbeats 4000000 in
set_option maxRecDepth 100000 in
theorem s11_trace (l : Launch) (dC : Nat → ClassId) (dI : Nat → Nat → Nat) (kB kI kJ kZ kC kS : ClassId) (sz : Nat) (m0 : Nat) (ra : Nat → Nat) (x0 : Nat → Int32) (q_told : Nat → Int32) (q_kind : Nat → Int32) (q_salt : Nat → Int32) (q_pace : Nat → Int32) (q_mute : Nat → Int32) (q_late : Nat → Int32) (q_from : Nat → Int32) (q_to : Nat → Int32) (q_goal : Nat → Int32) (q_now : Nat → Int32) (q_status : Nat → Int32) (q_reach : Nat → Int32) (q_past : Nat → Int32) (p0 : Int32) (p1 : Int32) (hX : fI lX11 hX11 x0) (hq_told : fI lTold hTold q_told) (hq_salt : fI (fun _ => 0) (fun _ => 15) q_salt) (hq_from : fI (fun _ => 0) (fun _ => 11) q_from) (hq_to : fI (fun _ => 0) (fun _ => 11) q_to) (hq_goal : fI (fun _ => 0) (fun _ => 11) q_goal) (hq_now : fI lNow hNow q_now) (hq_past : fI lPast hPast q_past) (hLT : ∀ j : Nat, (j : Int) < (q_told 1).toInt → (q_from j).toInt < (q_to j).toInt) (hfl14 : iv 0 0 (x0 14)) : Met l yX11_trace wsX11_trace rm_s11_trace (va_Pc [.ref m0, .int p0, .int p1] (fun U => U.heap.size = sz ∧ va_P (dC, dI) vwCl [(m0, .inr (11, oX11 ra x0)), (ra 2, .inl (kI, 8, .inl q_told)), (ra 3, .inl (kI, 24, .inl q_kind)), (ra 4, .inl (kI, 24, .inl q_salt)), (ra 5, .inl (kI, 24, .inl q_pace)), (ra 6, .inl (kI, 24, .inl q_mute)), (ra 7, .inl (kI, 24, .inl q_late)), (ra 8, .inl (kI, 40, .inl q_from)), (ra 9, .inl (kI, 40, .inl q_to)), (ra 10, .inl (kI, 6, .inl q_goal)), (ra 11, .inl (kI, 1019, .inl q_now)), (ra 12, .inl (kI, 3, .inl q_status)), (ra 14, .inl (kI, 12, .inl q_reach)), (ra 16, .inl (kI, 40760, .inl q_past))] U.heap ∧ kE dC dI kB kI kJ kZ kC kS U ∧ va_D (fun _ => True) [(m0, .inr (11, oX11 ra x0)), (ra 2, .inl (kI, 8, .inl q_told)), (ra 3, .inl (kI, 24, .inl q_kind)), (ra 4, .inl (kI, 24, .inl q_salt)), (ra 5, .inl (kI, 24, .inl q_pace)), (ra 6, .inl (kI, 24, .inl q_mute)), (ra 7, .inl (kI, 24, .inl q_late)), (ra 8, .inl (kI, 40, .inl q_from)), (ra 9, .inl (kI, 40, .inl q_to)), (ra 10, .inl (kI, 6, .inl q_goal)), (ra 11, .inl (kI, 1019, .inl q_now)), (ra 12, .inl (kI, 3, .inl q_status)), (ra 14, .inl (kI, 12, .inl q_reach)), (ra 16, .inl (kI, 40760, .inl q_past))])) (va_Qi (fun (r : Int32) (_ : Unit) => iv (-1) 10 r) (fun _ t => ∃ (x0' : Nat → Int32) (q_now' : Nat → Int32) (q_status' : Nat → Int32) (q_past' : Nat → Int32), fI lX11 hX11 x0' ∧ iv 0 0 (x0' 14) ∧ fI lNow hNow q_now' ∧ fI lPast hPast q_past' ∧ (x0' 1 = x0 1) ∧ (x0' 10 = x0 10) ∧ (x0' 11 = x0 11) ∧ va_P (dC, dI) vwCl [(m0, .inr (11, oX11 ra x0')), (ra 2, .inl (kI, 8, .inl q_told)), (ra 3, .inl (kI, 24, .inl q_kind)), (ra 4, .inl (kI, 24, .inl q_salt)), (ra 5, .inl (kI, 24, .inl q_pace)), (ra 6, .inl (kI, 24, .inl q_mute)), (ra 7, .inl (kI, 24, .inl q_late)), (ra 8, .inl (kI, 40, .inl q_from)), (ra 9, .inl (kI, 40, .inl q_to)), (ra 10, .inl (kI, 6, .inl q_goal)), (ra 11, .inl (kI, 1019, .inl q_now')), (ra 12, .inl (kI, 3, .inl q_status')), (ra 14, .inl (kI, 12, .inl q_reach)), (ra 16, .inl (kI, 40760, .inl q_past'))] t.heap ∧ va_D (va_A [(m0, .inr (11, oX11 ra x0)), (ra 2, .inl (kI, 8, .inl q_told)), (ra 3, .inl (kI, 24, .inl q_kind)), (ra 4, .inl (kI, 24, .inl q_salt)), (ra 5, .inl (kI, 24, .inl q_pace)), (ra 6, .inl (kI, 24, .inl q_mute)), (ra 7, .inl (kI, 24, .inl q_late)), (ra 8, .inl (kI, 40, .inl q_from)), (ra 9, .inl (kI, 40, .inl q_to)), (ra 10, .inl (kI, 6, .inl q_goal)), (ra 11, .inl (kI, 1019, .inl q_now)), (ra 12, .inl (kI, 3, .inl q_status)), (ra 14, .inl (kI, 12, .inl q_reach)), (ra 16, .inl (kI, 40760, .inl q_past))] sz) [(m0, .inr (11, oX11 ra x0')), (ra 2, .inl (kI, 8, .inl q_told)), (ra 3, .inl (kI, 24, .inl q_kind)), (ra 4, .inl (kI, 24, .inl q_salt)), (ra 5, .inl (kI, 24, .inl q_pace)), (ra 6, .inl (kI, 24, .inl q_mute)), (ra 7, .inl (kI, 24, .inl q_late)), (ra 8, .inl (kI, 40, .inl q_from)), (ra 9, .inl (kI, 40, .inl q_to)), (ra 10, .inl (kI, 6, .inl q_goal)), (ra 11, .inl (kI, 1019, .inl q_now')), (ra 12, .inl (kI, 3, .inl q_status')), (ra 14, .inl (kI, 12, .inl q_reach)), (ra 16, .inl (kI, 40760, .inl q_past'))]) (va_A [(m0, .inr (11, oX11 ra x0)), (ra 2, .inl (kI, 8, .inl q_told)), (ra 3, .inl (kI, 24, .inl q_kind)), (ra 4, .inl (kI, 24, .inl q_salt)), (ra 5, .inl (kI, 24, .inl q_pace)), (ra 6, .inl (kI, 24, .inl q_mute)), (ra 7, .inl (kI, 24, .inl q_late)), (ra 8, .inl (kI, 40, .inl q_from)), (ra 9, .inl (kI, 40, .inl q_to)), (ra 10, .inl (kI, 6, .inl q_goal)), (ra 11, .inl (kI, 1019, .inl q_now)), (ra 12, .inl (kI, 3, .inl q_status)), (ra 14, .inl (kI, 12, .inl q_reach)), (ra 16, .inl (kI, 40760, .inl q_past))] sz)) 0 0 (va_A [(m0, .inr (11, oX11 ra x0)), (ra 2, .inl (kI, 8, .inl q_told)), (ra 3, .inl (kI, 24, .inl q_kind)), (ra 4, .inl (kI, 24, .inl q_salt)), (ra 5, .inl (kI, 24, .inl q_pace)), (ra 6, .inl (kI, 24, .inl q_mute)), (ra 7, .inl (kI, 24, .inl q_late)), (ra 8, .inl (kI, 40, .inl q_from)), (ra 9, .inl (kI, 40, .inl q_to)), (ra 10, .inl (kI, 6, .inl q_goal)), (ra 11, .inl (kI, 1019, .inl q_now)), (ra 12, .inl (kI, 3, .inl q_status)), (ra 14, .inl (kI, 12, .inl q_reach)), (ra 16, .inl (kI, 40760, .inl q_past))] sz) := by
  refine Met.ofW (cc := cX11_trace) (maxL := 3) (ret := (some .int)) (by decide) rfl ?_
  intro p e s m args0 below meth c s₁ B hml hv
  obtain ⟨hargs, hsz, hP, hE, hD0⟩ := hv
  have hx := B.exec
  have hb := B.bytes
  have hr := B.returns
  have hts := atoms_spec (ws := wsX11_trace) B.pre
  have hown : s.vm.findClass RX11 = some m.cls := findClass_of_methodNamed B.named
  have hlocks := B.notSynchronized
  have hK := hE.1
  have hin11 : ∀ w ∈ wsX110, w ∈ wsX11_trace := fun _ h9 => List.mem_cons_of_mem _ (List.mem_append_right _ h9)
  have hw_0 := hts (.fieldLink RX11 142 "PathProberModel" "code" "I") (List.mem_of_getElem? (i := 1) rfl)
  subst hsz
  have hD := hD0.self (sz := s.heap.size)
  generalize hAe : va_A [(m0, .inr (11, oX11 ra x0)), (ra 2, .inl (kI, 8, .inl q_told)), (ra 3, .inl (kI, 24, .inl q_kind)), (ra 4, .inl (kI, 24, .inl q_salt)), (ra 5, .inl (kI, 24, .inl q_pace)), (ra 6, .inl (kI, 24, .inl q_mute)), (ra 7, .inl (kI, 24, .inl q_late)), (ra 8, .inl (kI, 40, .inl q_from)), (ra 9, .inl (kI, 40, .inl q_to)), (ra 10, .inl (kI, 6, .inl q_goal)), (ra 11, .inl (kI, 1019, .inl q_now)), (ra 12, .inl (kI, 3, .inl q_status)), (ra 14, .inl (kI, 12, .inl q_reach)), (ra 16, .inl (kI, 40760, .inl q_past))] s.heap.size = A at hD ⊢
  have hA : ∀ q : Nat, s.heap.size ≤ q → A q := fun q h => by rw [← hAe]; exact Or.inr h
  have hS : va_S A s.heap s.heap [] := va_S.rf
  have hP : va_P (dC, dI) vwCl [(m0, .inr (11, oX11 ra x0)), (ra 2, .inl (kI, 8, .inl q_told)), (ra 3, .inl (kI, 24, .inl q_kind)), (ra 4, .inl (kI, 24, .inl q_salt)), (ra 5, .inl (kI, 24, .inl q_pace)), (ra 6, .inl (kI, 24, .inl q_mute)), (ra 7, .inl (kI, 24, .inl q_late)), (ra 8, .inl (kI, 40, .inl q_from)), (ra 9, .inl (kI, 40, .inl q_to)), (ra 10, .inl (kI, 6, .inl q_goal)), (ra 11, .inl (kI, 1019, .inl q_now)), (ra 12, .inl (kI, 3, .inl q_status)), (ra 14, .inl (kI, 12, .inl q_reach)), (ra 16, .inl (kI, 40760, .inl q_past))] s.heap := hP
  have hl := lv_entry ([.ref m0, .int p0, .int p1]) (n := 3) (Nat.le_of_ble_eq_true rfl)
  have hla : entryFrame m args0 3 = entryFrame m ([.ref m0, .int p0, .int p1] : List Value).toArray 3 := by rw [hargs]
  rw [hla, lg_entry_eq]
  generalize (lg_sl ([.ref m0, .int p0, .int p1]) ++ List.replicate (3 - (lg_sl ([.ref m0, .int p0, .int p1])).length) Slot.unset).toArray = ls at hl ⊢
  have hl : lv_has ls 3 [(0, .ref m0), (1, .int p0), (2, .int p1)] := hl
  have hJ20 : ∀ (y20_0 : Nat → Int32) (H : Heap) (locs : List Loc) (ls : Array Slot), fI lX11 hX11 y20_0 → iv 0 0 (y20_0 0) → iv 0 0 (y20_0 14) → (y20_0 1 = x0 1) → (y20_0 10 = x0 10) → (y20_0 11 = x0 11) → va_P (dC, dI) vwCl [(m0, .inr (11, oX11 ra y20_0)), (ra 2, .inl (kI, 8, .inl q_told)), (ra 3, .inl (kI, 24, .inl q_kind)), (ra 4, .inl (kI, 24, .inl q_salt)), (ra 5, .inl (kI, 24, .inl q_pace)), (ra 6, .inl (kI, 24, .inl q_mute)), (ra 7, .inl (kI, 24, .inl q_late)), (ra 8, .inl (kI, 40, .inl q_from)), (ra 9, .inl (kI, 40, .inl q_to)), (ra 10, .inl (kI, 6, .inl q_goal)), (ra 11, .inl (kI, 1019, .inl q_now)), (ra 12, .inl (kI, 3, .inl q_status)), (ra 14, .inl (kI, 12, .inl q_reach)), (ra 16, .inl (kI, 40760, .inl q_past))] H → va_D A [(m0, .inr (11, oX11 ra y20_0)), (ra 2, .inl (kI, 8, .inl q_told)), (ra 3, .inl (kI, 24, .inl q_kind)), (ra 4, .inl (kI, 24, .inl q_salt)), (ra 5, .inl (kI, 24, .inl q_pace)), (ra 6, .inl (kI, 24, .inl q_mute)), (ra 7, .inl (kI, 24, .inl q_late)), (ra 8, .inl (kI, 40, .inl q_from)), (ra 9, .inl (kI, 40, .inl q_to)), (ra 10, .inl (kI, 6, .inl q_goal)), (ra 11, .inl (kI, 1019, .inl q_now)), (ra 12, .inl (kI, 3, .inl q_status)), (ra 14, .inl (kI, 12, .inl q_reach)), (ra 16, .inl (kI, 40760, .inl q_past))] → va_S A s.heap H locs → lv_has ls 3 [(0, .ref m0), (1, .int p0), (2, .int p1)] → W p l e (headSpec wsX11_trace rm_s11_trace).room s m args0 below meth c H locs (0) (0) (MQ below (va_Qi (fun (r : Int32) (_ : Unit) => iv (-1) 10 r) (fun _ t => ∃ (x0' : Nat → Int32) (q_now' : Nat → Int32) (q_status' : Nat → Int32) (q_past' : Nat → Int32), fI lX11 hX11 x0' ∧ iv 0 0 (x0' 14) ∧ fI lNow hNow q_now' ∧ fI lPast hPast q_past' ∧ (x0' 1 = x0 1) ∧ (x0' 10 = x0 10) ∧ (x0' 11 = x0 11) ∧ va_P (dC, dI) vwCl [(m0, .inr (11, oX11 ra x0')), (ra 2, .inl (kI, 8, .inl q_told)), (ra 3, .inl (kI, 24, .inl q_kind)), (ra 4, .inl (kI, 24, .inl q_salt)), (ra 5, .inl (kI, 24, .inl q_pace)), (ra 6, .inl (kI, 24, .inl q_mute)), (ra 7, .inl (kI, 24, .inl q_late)), (ra 8, .inl (kI, 40, .inl q_from)), (ra 9, .inl (kI, 40, .inl q_to)), (ra 10, .inl (kI, 6, .inl q_goal)), (ra 11, .inl (kI, 1019, .inl q_now')), (ra 12, .inl (kI, 3, .inl q_status')), (ra 14, .inl (kI, 12, .inl q_reach)), (ra 16, .inl (kI, 40760, .inl q_past'))] t.heap ∧ va_D A [(m0, .inr (11, oX11 ra x0')), (ra 2, .inl (kI, 8, .inl q_told)), (ra 3, .inl (kI, 24, .inl q_kind)), (ra 4, .inl (kI, 24, .inl q_salt)), (ra 5, .inl (kI, 24, .inl q_pace)), (ra 6, .inl (kI, 24, .inl q_mute)), (ra 7, .inl (kI, 24, .inl q_late)), (ra 8, .inl (kI, 40, .inl q_from)), (ra 9, .inl (kI, 40, .inl q_to)), (ra 10, .inl (kI, 6, .inl q_goal)), (ra 11, .inl (kI, 1019, .inl q_now')), (ra 12, .inl (kI, 3, .inl q_status')), (ra 14, .inl (kI, 12, .inl q_reach)), (ra 16, .inl (kI, 40760, .inl q_past'))]) A) args0 s 0 0 A) (F0 m 20 ls []) := by
    intro y20_0 H locs ls hI20_0 h20_2 h20_3 htp_20 hfp_20 hor_20 hP hD hS hl
    refine lv_aload_n hx hb dX11_trace_20 rfl (lv_at hl 0 rfl) ?_
    refine lv_iconst (v := 1) hx hb dX11_trace_21 ic_1 ?_
    obtain ⟨hPc, hDc, hFc, hJn⟩ := cl_a (wc := [(m0, .inr (11, oX11 ra y20_0)), (ra 12, .inl (kI, 3, .inl q_status))]) (wr := [(ra 2, .inl (kI, 8, .inl q_told)), (ra 3, .inl (kI, 24, .inl q_kind)), (ra 4, .inl (kI, 24, .inl q_salt)), (ra 5, .inl (kI, 24, .inl q_pace)), (ra 6, .inl (kI, 24, .inl q_mute)), (ra 7, .inl (kI, 24, .inl q_late)), (ra 8, .inl (kI, 40, .inl q_from)), (ra 9, .inl (kI, 40, .inl q_to)), (ra 10, .inl (kI, 6, .inl q_goal)), (ra 11, .inl (kI, 1019, .inl q_now)), (ra 14, .inl (kI, 12, .inl q_reach)), (ra 16, .inl (kI, 40760, .inl q_past))]) hP hD hS hA [0, 11] [1, 2, 3, 4, 5, 6, 7, 8, 9, 10, 12, 13] rfl rfl (by decide +kernel)
    refine va_calli (va_runV (As := [.int 1]) (rest := []) ⟨hx, hb, hml, hown, hts⟩ (s11_refuse l dC dI kB kI kJ kZ kC kS H.size m0 ra y20_0 q_status 1 (hI20_0) ((iv_w ivk_1 (by decide) (by decide)))) (cwV 1 hts gX11_trace_X11_refuse rfl rfl rfl (by decide +kernel) ⟨Nat.le_of_ble_eq_true rfl, Nat.le_of_ble_eq_true rfl⟩) ⟨fun a U g mk q => by obtain ⟨q0, q1, qP, qE, qD⟩ := q; exact ⟨q0, q1, qP, kE_call qE, qD⟩, va_recv hK hP (ci := 11) (q0 := 0) rfl rfl, fun U hU hW => ⟨rfl, by rw [hU], by rw [hU]; exact hPc, kE_warm hW hE, hDc.weaken (fun _ _ _ _ => trivial)⟩⟩ rfl rfl hl.1 rfl (lv_room (Nat.le_of_ble_eq_true rfl)) dX11_trace_22 ⟨Nat.le_of_ble_eq_true rfl, Nat.le_of_ble_eq_true rfl⟩) hS (fun q _ h => hFc q h) hFc (fun r1 u t H locs ht hvm w2 hB hz1 hk1 hS => ?_)
    obtain ⟨f3, hP1, hD1⟩ := hB
    try dsimp only at w2
    obtain ⟨hPa, hDa⟩ := hJn (w1 := [(m0, .inr (11, oX11 ra y20_0)), (ra 12, .inl (kI, 3, .inl f3))]) hk1 ht hP1 hD1
    clear hP hD hPc hDc hFc hJn hP1 hD1 hk1
    have hP : va_P (dC, dI) vwCl [(ra 2, .inl (kI, 8, .inl q_told)), (ra 3, .inl (kI, 24, .inl q_kind)), (ra 4, .inl (kI, 24, .inl q_salt)), (ra 5, .inl (kI, 24, .inl q_pace)), (ra 6, .inl (kI, 24, .inl q_mute)), (ra 7, .inl (kI, 24, .inl q_late)), (ra 8, .inl (kI, 40, .inl q_from)), (ra 9, .inl (kI, 40, .inl q_to)), (ra 10, .inl (kI, 6, .inl q_goal)), (ra 11, .inl (kI, 1019, .inl q_now)), (ra 14, .inl (kI, 12, .inl q_reach)), (ra 16, .inl (kI, 40760, .inl q_past)), (m0, .inr (11, oX11 ra y20_0)), (ra 12, .inl (kI, 3, .inl f3))] H := hPa
    have hD : va_D A [(ra 2, .inl (kI, 8, .inl q_told)), (ra 3, .inl (kI, 24, .inl q_kind)), (ra 4, .inl (kI, 24, .inl q_salt)), (ra 5, .inl (kI, 24, .inl q_pace)), (ra 6, .inl (kI, 24, .inl q_mute)), (ra 7, .inl (kI, 24, .inl q_late)), (ra 8, .inl (kI, 40, .inl q_from)), (ra 9, .inl (kI, 40, .inl q_to)), (ra 10, .inl (kI, 6, .inl q_goal)), (ra 11, .inl (kI, 1019, .inl q_now)), (ra 14, .inl (kI, 12, .inl q_reach)), (ra 16, .inl (kI, 40760, .inl q_past)), (m0, .inr (11, oX11 ra y20_0)), (ra 12, .inl (kI, 3, .inl f3))] := hDa
    clear hPa hDa
    refine W.widen (k := 0) (n := 0) (Nat.le_of_ble_eq_true rfl) (Nat.le_of_ble_eq_true rfl) ?_
    obtain rfl : r1 = (-1) := iv_one w2 (by decide)
    have hPD9 := cl_s (wc := [(m0, .inr (11, oX11 ra y20_0)), (ra 2, .inl (kI, 8, .inl q_told)), (ra 3, .inl (kI, 24, .inl q_kind)), (ra 4, .inl (kI, 24, .inl q_salt)), (ra 5, .inl (kI, 24, .inl q_pace)), (ra 6, .inl (kI, 24, .inl q_mute)), (ra 7, .inl (kI, 24, .inl q_late)), (ra 8, .inl (kI, 40, .inl q_from)), (ra 9, .inl (kI, 40, .inl q_to)), (ra 10, .inl (kI, 6, .inl q_goal)), (ra 11, .inl (kI, 1019, .inl q_now)), (ra 12, .inl (kI, 3, .inl f3)), (ra 14, .inl (kI, 12, .inl q_reach)), (ra 16, .inl (kI, 40760, .inl q_past))]) hP hD [12, 0, 1, 2, 3, 4, 5, 6, 7, 8, 9, 13, 10, 11] rfl (by decide +kernel)
    have hP9 := hPD9.1
    have hD9 := hPD9.2
    exact W.iret (v := (-1)) hx hb hr (fun t ht hW => ⟨⟨(-1), (), rfl, (iv_w ivk_m1 (by decide) (by decide)), y20_0, q_now, f3, q_past, hI20_0, h20_3, hq_now, hq_past, (show y20_0 1 = x0 1 from htp_20), (show y20_0 10 = x0 10 from hfp_20), (show y20_0 11 = x0 11 from hor_20), by rw [ht]; exact hP9, hD9⟩, hS.F ht⟩) hS.2.2 dX11_trace_25
  refine lv_aload_n hx hb dX11_trace_0 rfl (lv_at hl 0 rfl) ?_
  refine lv_iconst (v := 0) hx hb dX11_trace_1 ic_0 ?_
  refine va_put (D := (dC, dI)) (ci := 11) (v := .int 0) (ty := .int) (C := RX11) (T := TX11) (N := 61) hx hb hts hin11 tyX11 tyX11_ok nmX11 hown hK hP hD hS 0 rfl rfl 2 (by decide) hw_0 (fun _ h9 => h9) rfl (by decide +kernel) rfl rfl (Nat.le_of_ble_eq_true rfl) dX11_trace_2 (fun H locs hPa hDa hS => ?_)
  clear hP hD
  have hP : va_P (dC, dI) vwCl [(m0, .inr (11, oX11 ra (upd x0 0 0))), (ra 2, .inl (kI, 8, .inl q_told)), (ra 3, .inl (kI, 24, .inl q_kind)), (ra 4, .inl (kI, 24, .inl q_salt)), (ra 5, .inl (kI, 24, .inl q_pace)), (ra 6, .inl (kI, 24, .inl q_mute)), (ra 7, .inl (kI, 24, .inl q_late)), (ra 8, .inl (kI, 40, .inl q_from)), (ra 9, .inl (kI, 40, .inl q_to)), (ra 10, .inl (kI, 6, .inl q_goal)), (ra 11, .inl (kI, 1019, .inl q_now)), (ra 12, .inl (kI, 3, .inl q_status)), (ra 14, .inl (kI, 12, .inl q_reach)), (ra 16, .inl (kI, 40760, .inl q_past))] H := hPa
  have hD : va_D A [(m0, .inr (11, oX11 ra (upd x0 0 0))), (ra 2, .inl (kI, 8, .inl q_told)), (ra 3, .inl (kI, 24, .inl q_kind)), (ra 4, .inl (kI, 24, .inl q_salt)), (ra 5, .inl (kI, 24, .inl q_pace)), (ra 6, .inl (kI, 24, .inl q_mute)), (ra 7, .inl (kI, 24, .inl q_late)), (ra 8, .inl (kI, 40, .inl q_from)), (ra 9, .inl (kI, 40, .inl q_to)), (ra 10, .inl (kI, 6, .inl q_goal)), (ra 11, .inl (kI, 1019, .inl q_now)), (ra 12, .inl (kI, 3, .inl q_status)), (ra 14, .inl (kI, 12, .inl q_reach)), (ra 16, .inl (kI, 40760, .inl q_past))] := hDa
  clear hPa hDa
  refine lv_iload_n hx hb dX11_trace_5 rfl (lv_at hl 1 rfl) ?_
  obtain ⟨hPc, hDc, hFc, hJn⟩ := cl_a (wc := []) (wr := [(m0, .inr (11, oX11 ra (upd x0 0 0))), (ra 2, .inl (kI, 8, .inl q_told)), (ra 3, .inl (kI, 24, .inl q_kind)), (ra 4, .inl (kI, 24, .inl q_salt)), (ra 5, .inl (kI, 24, .inl q_pace)), (ra 6, .inl (kI, 24, .inl q_mute)), (ra 7, .inl (kI, 24, .inl q_late)), (ra 8, .inl (kI, 40, .inl q_from)), (ra 9, .inl (kI, 40, .inl q_to)), (ra 10, .inl (kI, 6, .inl q_goal)), (ra 11, .inl (kI, 1019, .inl q_now)), (ra 12, .inl (kI, 3, .inl q_status)), (ra 14, .inl (kI, 12, .inl q_reach)), (ra 16, .inl (kI, 40760, .inl q_past))]) hP hD hS hA [] [0, 1, 2, 3, 4, 5, 6, 7, 8, 9, 10, 11, 12, 13] rfl rfl (by decide +kernel)
  refine va_calli (va_runS (As := [.int p0]) (rest := []) ⟨hx, hb, hml, hown, hts⟩ (s11_isPort l dC dI kB kI kJ kZ kC kS H.size p0) (va_cwS 1 hts gX11_trace_X11_isPort rfl rfl rfl (by decide +kernel) ⟨Nat.le_of_ble_eq_true rfl, Nat.le_of_ble_eq_true rfl⟩) ⟨fun a U g mk q => by obtain ⟨q0, q1, qP, qE, qD⟩ := q; exact ⟨q0, q1, qP, kE_call qE, qD⟩, fun U hU hW => ⟨rfl, by rw [hU], by rw [hU]; exact hPc, kE_warm hW hE, hDc.weaken (fun _ _ _ _ => trivial)⟩⟩ rfl rfl hl.1 rfl (lv_room (Nat.le_of_ble_eq_true rfl)) dX11_trace_6 ⟨Nat.le_of_ble_eq_true rfl, Nat.le_of_ble_eq_true rfl⟩) hS (fun q _ h => hFc q h) hFc (fun r4 u t H locs ht hvm w5 hB hz1 hk1 hS => ?_)
  obtain ⟨hP1, hD1⟩ := hB
  try dsimp only at w5
  obtain ⟨hPa, hDa⟩ := hJn (w1 := []) hk1 ht hP1 hD1
  clear hP hD hPc hDc hFc hJn hP1 hD1 hk1
  have hP : va_P (dC, dI) vwCl [(m0, .inr (11, oX11 ra (upd x0 0 0))), (ra 2, .inl (kI, 8, .inl q_told)), (ra 3, .inl (kI, 24, .inl q_kind)), (ra 4, .inl (kI, 24, .inl q_salt)), (ra 5, .inl (kI, 24, .inl q_pace)), (ra 6, .inl (kI, 24, .inl q_mute)), (ra 7, .inl (kI, 24, .inl q_late)), (ra 8, .inl (kI, 40, .inl q_from)), (ra 9, .inl (kI, 40, .inl q_to)), (ra 10, .inl (kI, 6, .inl q_goal)), (ra 11, .inl (kI, 1019, .inl q_now)), (ra 12, .inl (kI, 3, .inl q_status)), (ra 14, .inl (kI, 12, .inl q_reach)), (ra 16, .inl (kI, 40760, .inl q_past))] H := hPa
  have hD : va_D A [(m0, .inr (11, oX11 ra (upd x0 0 0))), (ra 2, .inl (kI, 8, .inl q_told)), (ra 3, .inl (kI, 24, .inl q_kind)), (ra 4, .inl (kI, 24, .inl q_salt)), (ra 5, .inl (kI, 24, .inl q_pace)), (ra 6, .inl (kI, 24, .inl q_mute)), (ra 7, .inl (kI, 24, .inl q_late)), (ra 8, .inl (kI, 40, .inl q_from)), (ra 9, .inl (kI, 40, .inl q_to)), (ra 10, .inl (kI, 6, .inl q_goal)), (ra 11, .inl (kI, 1019, .inl q_now)), (ra 12, .inl (kI, 3, .inl q_status)), (ra 14, .inl (kI, 12, .inl q_reach)), (ra 16, .inl (kI, 40760, .inl q_past))] := hDa
  clear hPa hDa
  refine W.widen (k := 0) (n := 0) (Nat.le_of_ble_eq_true rfl) (Nat.le_of_ble_eq_true rfl) ?_
  refine lv_if_eq (tgt := 20) hx hb dX11_trace_9 rfl (fun c6 => ?_) (fun c6 => ?_)
  · have b7 : iv 0 0 r4 := iv_eqL c6 ivk_0
    exact hJ20 (upd x0 0 0) _ _ _ ((fI_u hX (k := 0) ((iv_w ivk_0 (by decide) (by decide))))) (ivk_0) (hfl14) ((show x0 1 = x0 1 from rfl)) ((show x0 10 = x0 10 from rfl)) ((show x0 11 = x0 11 from rfl)) (hP) (hD) hS (lv_sub hl [0, 1, 2] rfl)
  · have b8 : iv 1 1 r4 := iv_neLo c6 w5.1 ivk_0 (by decide) (by decide)
    have b9 : iv 0 31 p0 := (w5.2).resolve_left (iv_ne b8 ivk_0 (by decide))
    refine lv_aload_n hx hb dX11_trace_12 rfl (lv_at hl 0 rfl) ?_
    refine lv_iload_n hx hb dX11_trace_13 rfl (lv_at hl 2 rfl) ?_
    obtain ⟨hPc, hDc, hFc, hJn⟩ := cl_a (wc := [(m0, .inr (11, oX11 ra (upd x0 0 0))), (ra 2, .inl (kI, 8, .inl q_told))]) (wr := [(ra 3, .inl (kI, 24, .inl q_kind)), (ra 4, .inl (kI, 24, .inl q_salt)), (ra 5, .inl (kI, 24, .inl q_pace)), (ra 6, .inl (kI, 24, .inl q_mute)), (ra 7, .inl (kI, 24, .inl q_late)), (ra 8, .inl (kI, 40, .inl q_from)), (ra 9, .inl (kI, 40, .inl q_to)), (ra 10, .inl (kI, 6, .inl q_goal)), (ra 11, .inl (kI, 1019, .inl q_now)), (ra 12, .inl (kI, 3, .inl q_status)), (ra 14, .inl (kI, 12, .inl q_reach)), (ra 16, .inl (kI, 40760, .inl q_past))]) hP hD hS hA [0, 1] [2, 3, 4, 5, 6, 7, 8, 9, 10, 11, 12, 13] rfl rfl (by decide +kernel)
    refine va_calli (va_runV (As := [.int p1]) (rest := []) ⟨hx, hb, hml, hown, hts⟩ (s11_isGoal l dC dI kB kI kJ kZ kC kS H.size m0 ra (upd x0 0 0) q_told p1 ((fI_u hX (k := 0) ((iv_w ivk_0 (by decide) (by decide))))) (hq_told)) (cwV 1 hts gX11_trace_X11_isGoal rfl rfl rfl (by decide +kernel) ⟨Nat.le_of_ble_eq_true rfl, Nat.le_of_ble_eq_true rfl⟩) ⟨fun a U g mk q => by obtain ⟨q0, q1, qP, qE, qD⟩ := q; exact ⟨q0, q1, qP, kE_call qE, qD⟩, va_recv hK hP (ci := 11) (q0 := 0) rfl rfl, fun U hU hW => ⟨rfl, by rw [hU], by rw [hU]; exact hPc, kE_warm hW hE, hDc.weaken (fun _ _ _ _ => trivial)⟩⟩ rfl rfl hl.1 rfl (lv_room (Nat.le_of_ble_eq_true rfl)) dX11_trace_14 ⟨Nat.le_of_ble_eq_true rfl, Nat.le_of_ble_eq_true rfl⟩) hS (fun q _ h => hFc q h) hFc (fun r10 u t H locs ht hvm w11 hB hz1 hk1 hS => ?_)
    obtain ⟨hP1, hD1⟩ := hB
    try dsimp only at w11
    obtain ⟨hPa, hDa⟩ := hJn (w1 := [(m0, .inr (11, oX11 ra (upd x0 0 0))), (ra 2, .inl (kI, 8, .inl q_told))]) hk1 ht hP1 hD1
    clear hP hD hPc hDc hFc hJn hP1 hD1 hk1
    have hP : va_P (dC, dI) vwCl [(ra 3, .inl (kI, 24, .inl q_kind)), (ra 4, .inl (kI, 24, .inl q_salt)), (ra 5, .inl (kI, 24, .inl q_pace)), (ra 6, .inl (kI, 24, .inl q_mute)), (ra 7, .inl (kI, 24, .inl q_late)), (ra 8, .inl (kI, 40, .inl q_from)), (ra 9, .inl (kI, 40, .inl q_to)), (ra 10, .inl (kI, 6, .inl q_goal)), (ra 11, .inl (kI, 1019, .inl q_now)), (ra 12, .inl (kI, 3, .inl q_status)), (ra 14, .inl (kI, 12, .inl q_reach)), (ra 16, .inl (kI, 40760, .inl q_past)), (m0, .inr (11, oX11 ra (upd x0 0 0))), (ra 2, .inl (kI, 8, .inl q_told))] H := hPa
    have hD : va_D A [(ra 3, .inl (kI, 24, .inl q_kind)), (ra 4, .inl (kI, 24, .inl q_salt)), (ra 5, .inl (kI, 24, .inl q_pace)), (ra 6, .inl (kI, 24, .inl q_mute)), (ra 7, .inl (kI, 24, .inl q_late)), (ra 8, .inl (kI, 40, .inl q_from)), (ra 9, .inl (kI, 40, .inl q_to)), (ra 10, .inl (kI, 6, .inl q_goal)), (ra 11, .inl (kI, 1019, .inl q_now)), (ra 12, .inl (kI, 3, .inl q_status)), (ra 14, .inl (kI, 12, .inl q_reach)), (ra 16, .inl (kI, 40760, .inl q_past)), (m0, .inr (11, oX11 ra (upd x0 0 0))), (ra 2, .inl (kI, 8, .inl q_told))] := hDa
    clear hPa hDa
    refine W.widen (k := 0) (n := 0) (Nat.le_of_ble_eq_true rfl) (Nat.le_of_ble_eq_true rfl) ?_
    refine lv_if_ne (tgt := 26) hx hb dX11_trace_17 rfl (fun c12 => ?_) (fun c12 => ?_)
    · have b13 : iv 1 1 r10 := iv_neLo c12 w11.1 ivk_0 (by decide) (by decide)
      have b14 : iv 0 2 p1 := (w11.2).resolve_left (iv_ne b13 ivk_0 (by decide))
      refine lv_aload_n hx hb dX11_trace_26 rfl (lv_at hl 0 rfl) ?_
      obtain ⟨hPc, hDc, hFc, hJn⟩ := cl_a (wc := [(m0, .inr (11, oX11 ra (upd x0 0 0))), (ra 11, .inl (kI, 1019, .inl q_now)), (ra 16, .inl (kI, 40760, .inl q_past))]) (wr := [(ra 3, .inl (kI, 24, .inl q_kind)), (ra 4, .inl (kI, 24, .inl q_salt)), (ra 5, .inl (kI, 24, .inl q_pace)), (ra 6, .inl (kI, 24, .inl q_mute)), (ra 7, .inl (kI, 24, .inl q_late)), (ra 8, .inl (kI, 40, .inl q_from)), (ra 9, .inl (kI, 40, .inl q_to)), (ra 10, .inl (kI, 6, .inl q_goal)), (ra 12, .inl (kI, 3, .inl q_status)), (ra 14, .inl (kI, 12, .inl q_reach)), (ra 2, .inl (kI, 8, .inl q_told))]) hP hD hS hA [12, 8, 11] [0, 1, 2, 3, 4, 5, 6, 7, 9, 10, 13] rfl rfl (by decide +kernel)
      refine va_callv (va_runV (As := []) (rest := []) ⟨hx, hb, hml, hown, hts⟩ (s11_keep l dC dI kB kI kJ kZ kC kS H.size m0 ra (upd x0 0 0) q_now q_past ((fI_u hX (k := 0) ((iv_w ivk_0 (by decide) (by decide))))) (hq_now) (hq_past)) (cwV 0 hts gX11_trace_X11_keep rfl rfl rfl (by decide +kernel) ⟨Nat.le_of_ble_eq_true rfl, Nat.le_of_ble_eq_true rfl⟩) ⟨fun a U g mk q => by obtain ⟨q0, q1, qP, qE, qD⟩ := q; exact ⟨q0, q1, qP, kE_call qE, qD⟩, va_recv hK hP (ci := 11) (q0 := 12) rfl rfl, fun U hU hW => ⟨rfl, by rw [hU], by rw [hU]; exact hPc, kE_warm hW hE, hDc.weaken (fun _ _ _ _ => trivial)⟩⟩ rfl rfl hl.1 rfl (lv_room (Nat.le_of_ble_eq_true rfl)) dX11_trace_27 ⟨Nat.le_of_ble_eq_true rfl, Nat.le_of_ble_eq_true rfl⟩) hS (fun q _ h => hFc q h) hFc (fun u t H locs ht hvm w16 hB hz1 hk1 hS => ?_)
      obtain ⟨y17, f18, hq19, hq20, hq21, hq22, hq23, hq24, hP1, hD1⟩ := hB
      try dsimp only at w16
      obtain ⟨hPa, hDa⟩ := hJn (w1 := [(m0, .inr (11, oX11 ra y17)), (ra 11, .inl (kI, 1019, .inl q_now)), (ra 16, .inl (kI, 40760, .inl f18))]) hk1 ht hP1 hD1
      clear hP hD hPc hDc hFc hJn hP1 hD1 hk1
      have hP : va_P (dC, dI) vwCl [(ra 3, .inl (kI, 24, .inl q_kind)), (ra 4, .inl (kI, 24, .inl q_salt)), (ra 5, .inl (kI, 24, .inl q_pace)), (ra 6, .inl (kI, 24, .inl q_mute)), (ra 7, .inl (kI, 24, .inl q_late)), (ra 8, .inl (kI, 40, .inl q_from)), (ra 9, .inl (kI, 40, .inl q_to)), (ra 10, .inl (kI, 6, .inl q_goal)), (ra 12, .inl (kI, 3, .inl q_status)), (ra 14, .inl (kI, 12, .inl q_reach)), (ra 2, .inl (kI, 8, .inl q_told)), (m0, .inr (11, oX11 ra y17)), (ra 11, .inl (kI, 1019, .inl q_now)), (ra 16, .inl (kI, 40760, .inl f18))] H := hPa
      have hD : va_D A [(ra 3, .inl (kI, 24, .inl q_kind)), (ra 4, .inl (kI, 24, .inl q_salt)), (ra 5, .inl (kI, 24, .inl q_pace)), (ra 6, .inl (kI, 24, .inl q_mute)), (ra 7, .inl (kI, 24, .inl q_late)), (ra 8, .inl (kI, 40, .inl q_from)), (ra 9, .inl (kI, 40, .inl q_to)), (ra 10, .inl (kI, 6, .inl q_goal)), (ra 12, .inl (kI, 3, .inl q_status)), (ra 14, .inl (kI, 12, .inl q_reach)), (ra 2, .inl (kI, 8, .inl q_told)), (m0, .inr (11, oX11 ra y17)), (ra 11, .inl (kI, 1019, .inl q_now)), (ra 16, .inl (kI, 40760, .inl f18))] := hDa
      clear hPa hDa
      refine W.widen (k := 0) (n := 0) (Nat.le_of_ble_eq_true rfl) (Nat.le_of_ble_eq_true rfl) ?_
      refine lv_aload_n hx hb dX11_trace_30 rfl (lv_at hl 0 rfl) ?_
      refine lv_iload_n hx hb dX11_trace_31 rfl (lv_at hl 1 rfl) ?_
      refine lv_iload_n hx hb dX11_trace_32 rfl (lv_at hl 2 rfl) ?_
      obtain ⟨hPc, hDc, hFc, hJn⟩ := cl_a (wc := [(m0, .inr (11, oX11 ra y17)), (ra 2, .inl (kI, 8, .inl q_told)), (ra 3, .inl (kI, 24, .inl q_kind)), (ra 4, .inl (kI, 24, .inl q_salt)), (ra 5, .inl (kI, 24, .inl q_pace)), (ra 6, .inl (kI, 24, .inl q_mute)), (ra 7, .inl (kI, 24, .inl q_late)), (ra 8, .inl (kI, 40, .inl q_from)), (ra 9, .inl (kI, 40, .inl q_to)), (ra 10, .inl (kI, 6, .inl q_goal)), (ra 11, .inl (kI, 1019, .inl q_now)), (ra 14, .inl (kI, 12, .inl q_reach))]) (wr := [(ra 12, .inl (kI, 3, .inl q_status)), (ra 16, .inl (kI, 40760, .inl f18))]) hP hD hS hA [11, 10, 0, 1, 2, 3, 4, 5, 6, 7, 12, 9] [8, 13] rfl rfl (by decide +kernel)
      refine va_calli (va_runV (As := [.int p0, .int p1]) (rest := []) ⟨hx, hb, hml, hown, hts⟩ (s11_traceNow l dC dI kB kI kJ kZ kC kS H.size m0 ra y17 q_told q_kind q_salt q_pace q_mute q_late q_from q_to q_goal q_now q_reach p0 p1 (hq19) (hq_told) (hq_salt) (hq_from) (hq_to) (hq_goal) (hq_now) (b9) (b14) (hLT) ((iv_eqL hq24 hfl14))) (cwV 2 hts gX11_trace_X11_traceNow rfl rfl rfl (by decide +kernel) ⟨Nat.le_of_ble_eq_true rfl, Nat.le_of_ble_eq_true rfl⟩) ⟨fun a U g mk q => by obtain ⟨q0, q1, qP, qE, qD⟩ := q; exact ⟨q0, q1, qP, kE_call qE, qD⟩, va_recv hK hP (ci := 11) (q0 := 11) rfl rfl, fun U hU hW => ⟨rfl, by rw [hU], by rw [hU]; exact hPc, kE_warm hW hE, hDc.weaken (fun _ _ _ _ => trivial)⟩⟩ rfl rfl hl.1 rfl (lv_room (Nat.le_of_ble_eq_true rfl)) dX11_trace_33 ⟨Nat.le_of_ble_eq_true rfl, Nat.le_of_ble_eq_true rfl⟩) hS (fun q _ h => hFc q h) hFc (fun r25 u t H locs ht hvm w26 hB hz1 hk1 hS => ?_)
      obtain ⟨y27, f28, hq29, hq30, hq31, hq32, hq33, hq34, hP1, hD1⟩ := hB
      try dsimp only at w26
      obtain ⟨hPa, hDa⟩ := hJn (w1 := [(m0, .inr (11, oX11 ra y27)), (ra 2, .inl (kI, 8, .inl q_told)), (ra 3, .inl (kI, 24, .inl q_kind)), (ra 4, .inl (kI, 24, .inl q_salt)), (ra 5, .inl (kI, 24, .inl q_pace)), (ra 6, .inl (kI, 24, .inl q_mute)), (ra 7, .inl (kI, 24, .inl q_late)), (ra 8, .inl (kI, 40, .inl q_from)), (ra 9, .inl (kI, 40, .inl q_to)), (ra 10, .inl (kI, 6, .inl q_goal)), (ra 11, .inl (kI, 1019, .inl f28)), (ra 14, .inl (kI, 12, .inl q_reach))]) hk1 ht hP1 hD1
      clear hP hD hPc hDc hFc hJn hP1 hD1 hk1
      have hP : va_P (dC, dI) vwCl [(ra 12, .inl (kI, 3, .inl q_status)), (ra 16, .inl (kI, 40760, .inl f18)), (m0, .inr (11, oX11 ra y27)), (ra 2, .inl (kI, 8, .inl q_told)), (ra 3, .inl (kI, 24, .inl q_kind)), (ra 4, .inl (kI, 24, .inl q_salt)), (ra 5, .inl (kI, 24, .inl q_pace)), (ra 6, .inl (kI, 24, .inl q_mute)), (ra 7, .inl (kI, 24, .inl q_late)), (ra 8, .inl (kI, 40, .inl q_from)), (ra 9, .inl (kI, 40, .inl q_to)), (ra 10, .inl (kI, 6, .inl q_goal)), (ra 11, .inl (kI, 1019, .inl f28)), (ra 14, .inl (kI, 12, .inl q_reach))] H := hPa
      have hD : va_D A [(ra 12, .inl (kI, 3, .inl q_status)), (ra 16, .inl (kI, 40760, .inl f18)), (m0, .inr (11, oX11 ra y27)), (ra 2, .inl (kI, 8, .inl q_told)), (ra 3, .inl (kI, 24, .inl q_kind)), (ra 4, .inl (kI, 24, .inl q_salt)), (ra 5, .inl (kI, 24, .inl q_pace)), (ra 6, .inl (kI, 24, .inl q_mute)), (ra 7, .inl (kI, 24, .inl q_late)), (ra 8, .inl (kI, 40, .inl q_from)), (ra 9, .inl (kI, 40, .inl q_to)), (ra 10, .inl (kI, 6, .inl q_goal)), (ra 11, .inl (kI, 1019, .inl f28)), (ra 14, .inl (kI, 12, .inl q_reach))] := hDa
      clear hPa hDa
      refine W.widen (k := 0) (n := 0) (Nat.le_of_ble_eq_true rfl) (Nat.le_of_ble_eq_true rfl) ?_
      have hPD9 := cl_s (wc := [(m0, .inr (11, oX11 ra y27)), (ra 2, .inl (kI, 8, .inl q_told)), (ra 3, .inl (kI, 24, .inl q_kind)), (ra 4, .inl (kI, 24, .inl q_salt)), (ra 5, .inl (kI, 24, .inl q_pace)), (ra 6, .inl (kI, 24, .inl q_mute)), (ra 7, .inl (kI, 24, .inl q_late)), (ra 8, .inl (kI, 40, .inl q_from)), (ra 9, .inl (kI, 40, .inl q_to)), (ra 10, .inl (kI, 6, .inl q_goal)), (ra 11, .inl (kI, 1019, .inl f28)), (ra 12, .inl (kI, 3, .inl q_status)), (ra 14, .inl (kI, 12, .inl q_reach)), (ra 16, .inl (kI, 40760, .inl f18))]) hP hD [2, 3, 4, 5, 6, 7, 8, 9, 10, 11, 12, 0, 13, 1] rfl (by decide +kernel)
      have hP9 := hPD9.1
      have hD9 := hPD9.2
      exact W.iret (v := r25) hx hb hr (fun t ht hW => ⟨⟨r25, (), rfl, (iv_w w26 (by decide) (by decide)), y27, f28, q_status, f18, hq29, hq30, hq31, hq20, (show y27 1 = x0 1 from hq32.trans (hq21)), (show y27 10 = x0 10 from hq33.trans (hq22)), (show y27 11 = x0 11 from hq34.trans (hq23)), by rw [ht]; exact hP9, hD9⟩, hS.F ht⟩) hS.2.2 dX11_trace_36
    · have b35 : iv 0 0 r10 := iv_eqL c12 ivk_0
      have hPD9 := cl_s (wc := [(m0, .inr (11, oX11 ra (upd x0 0 0))), (ra 2, .inl (kI, 8, .inl q_told)), (ra 3, .inl (kI, 24, .inl q_kind)), (ra 4, .inl (kI, 24, .inl q_salt)), (ra 5, .inl (kI, 24, .inl q_pace)), (ra 6, .inl (kI, 24, .inl q_mute)), (ra 7, .inl (kI, 24, .inl q_late)), (ra 8, .inl (kI, 40, .inl q_from)), (ra 9, .inl (kI, 40, .inl q_to)), (ra 10, .inl (kI, 6, .inl q_goal)), (ra 11, .inl (kI, 1019, .inl q_now)), (ra 12, .inl (kI, 3, .inl q_status)), (ra 14, .inl (kI, 12, .inl q_reach)), (ra 16, .inl (kI, 40760, .inl q_past))]) hP hD [12, 13, 0, 1, 2, 3, 4, 5, 6, 7, 8, 9, 10, 11] rfl (by decide +kernel)
      exact hJ20 (upd x0 0 0) _ _ _ ((fI_u hX (k := 0) ((iv_w ivk_0 (by decide) (by decide))))) (ivk_0) (hfl14) ((show x0 1 = x0 1 from rfl)) ((show x0 10 = x0 10 from rfl)) ((show x0 11 = x0 11 from rfl)) (hPD9.1) (hPD9.2) hS (lv_sub hl [0, 1, 2] rfl)
def rm_s11_twins : Room := { frames := 5, cells := 0, slots := 0, locals := 113 }
set_option maxHeartbeats 4000000 in
set_option maxRecDepth 100000 in
theorem s11_twins (l : Launch) (dC : Nat → ClassId) (dI : Nat → Nat → Nat) (kB kI kJ kZ kC kS : ClassId) (sz : Nat) (m0 : Nat) (ra : Nat → Nat) (x0 : Nat → Int32) (q_told : Nat → Int32) (q_pace : Nat → Int32) (q_to : Nat → Int32) (q_now : Nat → Int32) (q_status : Nat → Int32) (q_past : Nat → Int32) (p0 : Int32) (p1 : Int32) (hX : fI lX11 hX11 x0) (hq_told : fI lTold hTold q_told) (hq_to : fI (fun _ => 0) (fun _ => 11) q_to) (hq_now : fI lNow hNow q_now) (hq_past : fI lPast hPast q_past) : Met l yX11_twins wsX11_twins rm_s11_twins (va_Pc [.ref m0, .int p0, .int p1] (fun U => U.heap.size = sz ∧ va_P (dC, dI) vwCl [(m0, .inr (11, oX11 ra x0)), (ra 2, .inl (kI, 8, .inl q_told)), (ra 5, .inl (kI, 24, .inl q_pace)), (ra 9, .inl (kI, 40, .inl q_to)), (ra 11, .inl (kI, 1019, .inl q_now)), (ra 12, .inl (kI, 3, .inl q_status)), (ra 16, .inl (kI, 40760, .inl q_past))] U.heap ∧ kE dC dI kB kI kJ kZ kC kS U ∧ va_D (fun _ => True) [(m0, .inr (11, oX11 ra x0)), (ra 2, .inl (kI, 8, .inl q_told)), (ra 5, .inl (kI, 24, .inl q_pace)), (ra 9, .inl (kI, 40, .inl q_to)), (ra 11, .inl (kI, 1019, .inl q_now)), (ra 12, .inl (kI, 3, .inl q_status)), (ra 16, .inl (kI, 40760, .inl q_past))])) (va_Qi (fun (r : Int32) (_ : Unit) => iv (-1) 1 r) (fun _ t => ∃ (x0' : Nat → Int32) (q_now' : Nat → Int32) (q_status' : Nat → Int32) (q_past' : Nat → Int32), fI lX11 hX11 x0' ∧ fI lNow hNow q_now' ∧ fI lPast hPast q_past' ∧ (x0' 1 = x0 1) ∧ (x0' 10 = x0 10) ∧ (x0' 11 = x0 11) ∧ (x0' 14 = x0 14) ∧ va_P (dC, dI) vwCl [(m0, .inr (11, oX11 ra x0')), (ra 2, .inl (kI, 8, .inl q_told)), (ra 5, .inl (kI, 24, .inl q_pace)), (ra 9, .inl (kI, 40, .inl q_to)), (ra 11, .inl (kI, 1019, .inl q_now')), (ra 12, .inl (kI, 3, .inl q_status')), (ra 16, .inl (kI, 40760, .inl q_past'))] t.heap ∧ va_D (va_A [(m0, .inr (11, oX11 ra x0)), (ra 2, .inl (kI, 8, .inl q_told)), (ra 5, .inl (kI, 24, .inl q_pace)), (ra 9, .inl (kI, 40, .inl q_to)), (ra 11, .inl (kI, 1019, .inl q_now)), (ra 12, .inl (kI, 3, .inl q_status)), (ra 16, .inl (kI, 40760, .inl q_past))] sz) [(m0, .inr (11, oX11 ra x0')), (ra 2, .inl (kI, 8, .inl q_told)), (ra 5, .inl (kI, 24, .inl q_pace)), (ra 9, .inl (kI, 40, .inl q_to)), (ra 11, .inl (kI, 1019, .inl q_now')), (ra 12, .inl (kI, 3, .inl q_status')), (ra 16, .inl (kI, 40760, .inl q_past'))]) (va_A [(m0, .inr (11, oX11 ra x0)), (ra 2, .inl (kI, 8, .inl q_told)), (ra 5, .inl (kI, 24, .inl q_pace)), (ra 9, .inl (kI, 40, .inl q_to)), (ra 11, .inl (kI, 1019, .inl q_now)), (ra 12, .inl (kI, 3, .inl q_status)), (ra 16, .inl (kI, 40760, .inl q_past))] sz)) 0 0 (va_A [(m0, .inr (11, oX11 ra x0)), (ra 2, .inl (kI, 8, .inl q_told)), (ra 5, .inl (kI, 24, .inl q_pace)), (ra 9, .inl (kI, 40, .inl q_to)), (ra 11, .inl (kI, 1019, .inl q_now)), (ra 12, .inl (kI, 3, .inl q_status)), (ra 16, .inl (kI, 40760, .inl q_past))] sz) := by
  refine Met.ofW (cc := cX11_twins) (maxL := 8) (ret := (some .int)) (by decide) rfl ?_
  intro p e s m args0 below meth c s₁ B hml hv
  obtain ⟨hargs, hsz, hP, hE, hD0⟩ := hv
  have hx := B.exec
  have hb := B.bytes
  have hr := B.returns
  have hts := atoms_spec (ws := wsX11_twins) B.pre
  have hown : s.vm.findClass RX11 = some m.cls := findClass_of_methodNamed B.named
  have hlocks := B.notSynchronized
  have hK := hE.1
  have hin11 : ∀ w ∈ wsX110, w ∈ wsX11_twins := fun _ h9 => List.mem_cons_of_mem _ (List.mem_append_right _ h9)
  have hw_0 := hts (.fieldLink RX11 142 "PathProberModel" "code" "I") (List.mem_of_getElem? (i := 1) rfl)
  subst hsz
  have hD := hD0.self (sz := s.heap.size)
  generalize hAe : va_A [(m0, .inr (11, oX11 ra x0)), (ra 2, .inl (kI, 8, .inl q_told)), (ra 5, .inl (kI, 24, .inl q_pace)), (ra 9, .inl (kI, 40, .inl q_to)), (ra 11, .inl (kI, 1019, .inl q_now)), (ra 12, .inl (kI, 3, .inl q_status)), (ra 16, .inl (kI, 40760, .inl q_past))] s.heap.size = A at hD ⊢
  have hA : ∀ q : Nat, s.heap.size ≤ q → A q := fun q h => by rw [← hAe]; exact Or.inr h
  have hS : va_S A s.heap s.heap [] := va_S.rf
  have hP : va_P (dC, dI) vwCl [(m0, .inr (11, oX11 ra x0)), (ra 2, .inl (kI, 8, .inl q_told)), (ra 5, .inl (kI, 24, .inl q_pace)), (ra 9, .inl (kI, 40, .inl q_to)), (ra 11, .inl (kI, 1019, .inl q_now)), (ra 12, .inl (kI, 3, .inl q_status)), (ra 16, .inl (kI, 40760, .inl q_past))] s.heap := hP
  have hl := lv_entry ([.ref m0, .int p0, .int p1]) (n := 8) (Nat.le_of_ble_eq_true rfl)
  have hla : entryFrame m args0 8 = entryFrame m ([.ref m0, .int p0, .int p1] : List Value).toArray 8 := by rw [hargs]
  rw [hla, lg_entry_eq]
  generalize (lg_sl ([.ref m0, .int p0, .int p1]) ++ List.replicate (8 - (lg_sl ([.ref m0, .int p0, .int p1])).length) Slot.unset).toArray = ls at hl ⊢
  have hl : lv_has ls 8 [(0, .ref m0), (1, .int p0), (2, .int p1)] := hl
  have hJ26 : ∀ (y26_0 : Nat → Int32) (H : Heap) (locs : List Loc) (ls : Array Slot), fI lX11 hX11 y26_0 → iv 0 0 (y26_0 0) → (y26_0 1 = x0 1) → (y26_0 10 = x0 10) → (y26_0 11 = x0 11) → (y26_0 14 = x0 14) → va_P (dC, dI) vwCl [(m0, .inr (11, oX11 ra y26_0)), (ra 2, .inl (kI, 8, .inl q_told)), (ra 5, .inl (kI, 24, .inl q_pace)), (ra 9, .inl (kI, 40, .inl q_to)), (ra 11, .inl (kI, 1019, .inl q_now)), (ra 12, .inl (kI, 3, .inl q_status)), (ra 16, .inl (kI, 40760, .inl q_past))] H → va_D A [(m0, .inr (11, oX11 ra y26_0)), (ra 2, .inl (kI, 8, .inl q_told)), (ra 5, .inl (kI, 24, .inl q_pace)), (ra 9, .inl (kI, 40, .inl q_to)), (ra 11, .inl (kI, 1019, .inl q_now)), (ra 12, .inl (kI, 3, .inl q_status)), (ra 16, .inl (kI, 40760, .inl q_past))] → va_S A s.heap H locs → lv_has ls 8 [(0, .ref m0), (1, .int p0), (2, .int p1)] → W p l e (headSpec wsX11_twins rm_s11_twins).room s m args0 below meth c H locs (0) (0) (MQ below (va_Qi (fun (r : Int32) (_ : Unit) => iv (-1) 1 r) (fun _ t => ∃ (x0' : Nat → Int32) (q_now' : Nat → Int32) (q_status' : Nat → Int32) (q_past' : Nat → Int32), fI lX11 hX11 x0' ∧ fI lNow hNow q_now' ∧ fI lPast hPast q_past' ∧ (x0' 1 = x0 1) ∧ (x0' 10 = x0 10) ∧ (x0' 11 = x0 11) ∧ (x0' 14 = x0 14) ∧ va_P (dC, dI) vwCl [(m0, .inr (11, oX11 ra x0')), (ra 2, .inl (kI, 8, .inl q_told)), (ra 5, .inl (kI, 24, .inl q_pace)), (ra 9, .inl (kI, 40, .inl q_to)), (ra 11, .inl (kI, 1019, .inl q_now')), (ra 12, .inl (kI, 3, .inl q_status')), (ra 16, .inl (kI, 40760, .inl q_past'))] t.heap ∧ va_D A [(m0, .inr (11, oX11 ra x0')), (ra 2, .inl (kI, 8, .inl q_told)), (ra 5, .inl (kI, 24, .inl q_pace)), (ra 9, .inl (kI, 40, .inl q_to)), (ra 11, .inl (kI, 1019, .inl q_now')), (ra 12, .inl (kI, 3, .inl q_status')), (ra 16, .inl (kI, 40760, .inl q_past'))]) A) args0 s 0 0 A) (F0 m 26 ls []) := by
    intro y26_0 H locs ls hI26_0 h26_2 htp_26 hfp_26 hor_26 hirl_26 hP hD hS hl
    refine lv_aload_n hx hb dX11_twins_26 rfl (lv_at hl 0 rfl) ?_
    refine lv_iconst (v := 1) hx hb dX11_twins_27 ic_1 ?_
    obtain ⟨hPc, hDc, hFc, hJn⟩ := cl_a (wc := [(m0, .inr (11, oX11 ra y26_0)), (ra 12, .inl (kI, 3, .inl q_status))]) (wr := [(ra 2, .inl (kI, 8, .inl q_told)), (ra 5, .inl (kI, 24, .inl q_pace)), (ra 9, .inl (kI, 40, .inl q_to)), (ra 11, .inl (kI, 1019, .inl q_now)), (ra 16, .inl (kI, 40760, .inl q_past))]) hP hD hS hA [0, 5] [1, 2, 3, 4, 6] rfl rfl (by decide +kernel)
    refine va_calli (va_runV (As := [.int 1]) (rest := []) ⟨hx, hb, hml, hown, hts⟩ (s11_refuse l dC dI kB kI kJ kZ kC kS H.size m0 ra y26_0 q_status 1 (hI26_0) ((iv_w ivk_1 (by decide) (by decide)))) (cwV 1 hts gX11_twins_X11_refuse rfl rfl rfl (by decide +kernel) ⟨Nat.le_of_ble_eq_true rfl, Nat.le_of_ble_eq_true rfl⟩) ⟨fun a U g mk q => by obtain ⟨q0, q1, qP, qE, qD⟩ := q; exact ⟨q0, q1, qP, kE_call qE, qD⟩, va_recv hK hP (ci := 11) (q0 := 0) rfl rfl, fun U hU hW => ⟨rfl, by rw [hU], by rw [hU]; exact hPc, kE_warm hW hE, hDc.weaken (fun _ _ _ _ => trivial)⟩⟩ rfl rfl hl.1 rfl (lv_room (Nat.le_of_ble_eq_true rfl)) dX11_twins_28 ⟨Nat.le_of_ble_eq_true rfl, Nat.le_of_ble_eq_true rfl⟩) hS (fun q _ h => hFc q h) hFc (fun r1 u t H locs ht hvm w2 hB hz1 hk1 hS => ?_)
    obtain ⟨f3, hP1, hD1⟩ := hB
    try dsimp only at w2
    obtain ⟨hPa, hDa⟩ := hJn (w1 := [(m0, .inr (11, oX11 ra y26_0)), (ra 12, .inl (kI, 3, .inl f3))]) hk1 ht hP1 hD1
    clear hP hD hPc hDc hFc hJn hP1 hD1 hk1
    have hP : va_P (dC, dI) vwCl [(ra 2, .inl (kI, 8, .inl q_told)), (ra 5, .inl (kI, 24, .inl q_pace)), (ra 9, .inl (kI, 40, .inl q_to)), (ra 11, .inl (kI, 1019, .inl q_now)), (ra 16, .inl (kI, 40760, .inl q_past)), (m0, .inr (11, oX11 ra y26_0)), (ra 12, .inl (kI, 3, .inl f3))] H := hPa
    have hD : va_D A [(ra 2, .inl (kI, 8, .inl q_told)), (ra 5, .inl (kI, 24, .inl q_pace)), (ra 9, .inl (kI, 40, .inl q_to)), (ra 11, .inl (kI, 1019, .inl q_now)), (ra 16, .inl (kI, 40760, .inl q_past)), (m0, .inr (11, oX11 ra y26_0)), (ra 12, .inl (kI, 3, .inl f3))] := hDa
    clear hPa hDa
    refine W.widen (k := 0) (n := 0) (Nat.le_of_ble_eq_true rfl) (Nat.le_of_ble_eq_true rfl) ?_
    obtain rfl : r1 = (-1) := iv_one w2 (by decide)
    have hPD9 := cl_s (wc := [(m0, .inr (11, oX11 ra y26_0)), (ra 2, .inl (kI, 8, .inl q_told)), (ra 5, .inl (kI, 24, .inl q_pace)), (ra 9, .inl (kI, 40, .inl q_to)), (ra 11, .inl (kI, 1019, .inl q_now)), (ra 12, .inl (kI, 3, .inl f3)), (ra 16, .inl (kI, 40760, .inl q_past))]) hP hD [5, 0, 1, 2, 3, 6, 4] rfl (by decide +kernel)
    have hP9 := hPD9.1
    have hD9 := hPD9.2
    exact W.iret (v := (-1)) hx hb hr (fun t ht hW => ⟨⟨(-1), (), rfl, (iv_w ivk_m1 (by decide) (by decide)), y26_0, q_now, f3, q_past, hI26_0, hq_now, hq_past, (show y26_0 1 = x0 1 from htp_26), (show y26_0 10 = x0 10 from hfp_26), (show y26_0 11 = x0 11 from hor_26), (show y26_0 14 = x0 14 from hirl_26), by rw [ht]; exact hP9, hD9⟩, hS.F ht⟩) hS.2.2 dX11_twins_31
  have hJ44 : ∀ (n : Nat) (y44_0 : Nat → Int32) (g44_4 : Nat → Int32) (g44_6 : Nat → Int32) (v44_loc3 : Int32) (v44_loc4 : Int32) (v44_loc5 : Int32) (H : Heap) (locs : List Loc) (ls : Array Slot), (6 - v44_loc5.toInt).toNat < n → fI lX11 hX11 y44_0 → fI lNow hNow g44_4 → fI lPast hPast g44_6 → iv 0 20 p0 → iv 0 20 p1 → iv 0 1 v44_loc3 → iv 0 6 v44_loc5 → (y44_0 1 = x0 1) → (y44_0 10 = x0 10) → (y44_0 11 = x0 11) → (y44_0 14 = x0 14) → va_P (dC, dI) vwCl [(m0, .inr (11, oX11 ra y44_0)), (ra 2, .inl (kI, 8, .inl q_told)), (ra 5, .inl (kI, 24, .inl q_pace)), (ra 9, .inl (kI, 40, .inl q_to)), (ra 11, .inl (kI, 1019, .inl g44_4)), (ra 12, .inl (kI, 3, .inl q_status)), (ra 16, .inl (kI, 40760, .inl g44_6))] H → va_D A [(m0, .inr (11, oX11 ra y44_0)), (ra 2, .inl (kI, 8, .inl q_told)), (ra 5, .inl (kI, 24, .inl q_pace)), (ra 9, .inl (kI, 40, .inl q_to)), (ra 11, .inl (kI, 1019, .inl g44_4)), (ra 12, .inl (kI, 3, .inl q_status)), (ra 16, .inl (kI, 40760, .inl g44_6))] → va_S A s.heap H locs → lv_has ls 8 [(0, .ref m0), (1, .int p0), (2, .int p1), (3, .int v44_loc3), (4, .int v44_loc4), (5, .int v44_loc5)] → W p l e (headSpec wsX11_twins rm_s11_twins).room s m args0 below meth c H locs (0) (0) (MQ below (va_Qi (fun (r : Int32) (_ : Unit) => iv (-1) 1 r) (fun _ t => ∃ (x0' : Nat → Int32) (q_now' : Nat → Int32) (q_status' : Nat → Int32) (q_past' : Nat → Int32), fI lX11 hX11 x0' ∧ fI lNow hNow q_now' ∧ fI lPast hPast q_past' ∧ (x0' 1 = x0 1) ∧ (x0' 10 = x0 10) ∧ (x0' 11 = x0 11) ∧ (x0' 14 = x0 14) ∧ va_P (dC, dI) vwCl [(m0, .inr (11, oX11 ra x0')), (ra 2, .inl (kI, 8, .inl q_told)), (ra 5, .inl (kI, 24, .inl q_pace)), (ra 9, .inl (kI, 40, .inl q_to)), (ra 11, .inl (kI, 1019, .inl q_now')), (ra 12, .inl (kI, 3, .inl q_status')), (ra 16, .inl (kI, 40760, .inl q_past'))] t.heap ∧ va_D A [(m0, .inr (11, oX11 ra x0')), (ra 2, .inl (kI, 8, .inl q_told)), (ra 5, .inl (kI, 24, .inl q_pace)), (ra 9, .inl (kI, 40, .inl q_to)), (ra 11, .inl (kI, 1019, .inl q_now')), (ra 12, .inl (kI, 3, .inl q_status')), (ra 16, .inl (kI, 40760, .inl q_past'))]) A) args0 s 0 0 A) (F0 m 44 ls []) := by
    intro n
    induction n with
    | zero => intro y44_0 g44_4 g44_6 v44_loc3 v44_loc4 v44_loc5 H locs ls hm44; exact absurd hm44 (Nat.not_lt_zero _)
    | succ n ih44 =>
      intro y44_0 g44_4 g44_6 v44_loc3 v44_loc4 v44_loc5 H locs ls hm44 hI44_0 hI44_4 hI44_6 h44_4 h44_5 h44_6 h44_7 htp_44 hfp_44 hor_44 hirl_44 hP hD hS hl
      have hJ113 : ∀ (g113_4 : Nat → Int32) (v113_loc6 : Int32) (v113_loc7 : Int32) (v113_stk0 : Int32) (H : Heap) (locs : List Loc) (ls : Array Slot), fI lNow hNow g113_4 → iv 0 5 v44_loc5 → iv 0 1 v113_stk0 → (y44_0 1 = x0 1) → (y44_0 10 = x0 10) → (y44_0 11 = x0 11) → (y44_0 14 = x0 14) → va_P (dC, dI) vwCl [(m0, .inr (11, oX11 ra y44_0)), (ra 2, .inl (kI, 8, .inl q_told)), (ra 5, .inl (kI, 24, .inl q_pace)), (ra 9, .inl (kI, 40, .inl q_to)), (ra 11, .inl (kI, 1019, .inl g113_4)), (ra 12, .inl (kI, 3, .inl q_status)), (ra 16, .inl (kI, 40760, .inl g44_6))] H → va_D A [(m0, .inr (11, oX11 ra y44_0)), (ra 2, .inl (kI, 8, .inl q_told)), (ra 5, .inl (kI, 24, .inl q_pace)), (ra 9, .inl (kI, 40, .inl q_to)), (ra 11, .inl (kI, 1019, .inl g113_4)), (ra 12, .inl (kI, 3, .inl q_status)), (ra 16, .inl (kI, 40760, .inl g44_6))] → va_S A s.heap H locs → lv_has ls 8 [(0, .ref m0), (1, .int p0), (2, .int p1), (3, .int v44_loc3), (4, .int v44_loc4), (5, .int v44_loc5), (6, .int v113_loc6), (7, .int v113_loc7)] → W p l e (headSpec wsX11_twins rm_s11_twins).room s m args0 below meth c H locs (0) (0) (MQ below (va_Qi (fun (r : Int32) (_ : Unit) => iv (-1) 1 r) (fun _ t => ∃ (x0' : Nat → Int32) (q_now' : Nat → Int32) (q_status' : Nat → Int32) (q_past' : Nat → Int32), fI lX11 hX11 x0' ∧ fI lNow hNow q_now' ∧ fI lPast hPast q_past' ∧ (x0' 1 = x0 1) ∧ (x0' 10 = x0 10) ∧ (x0' 11 = x0 11) ∧ (x0' 14 = x0 14) ∧ va_P (dC, dI) vwCl [(m0, .inr (11, oX11 ra x0')), (ra 2, .inl (kI, 8, .inl q_told)), (ra 5, .inl (kI, 24, .inl q_pace)), (ra 9, .inl (kI, 40, .inl q_to)), (ra 11, .inl (kI, 1019, .inl q_now')), (ra 12, .inl (kI, 3, .inl q_status')), (ra 16, .inl (kI, 40760, .inl q_past'))] t.heap ∧ va_D A [(m0, .inr (11, oX11 ra x0')), (ra 2, .inl (kI, 8, .inl q_told)), (ra 5, .inl (kI, 24, .inl q_pace)), (ra 9, .inl (kI, 40, .inl q_to)), (ra 11, .inl (kI, 1019, .inl q_now')), (ra 12, .inl (kI, 3, .inl q_status')), (ra 16, .inl (kI, 40760, .inl q_past'))]) A) args0 s 0 0 A) (F0 m 113 ls [.int v113_stk0]) := by
        intro g113_4 v113_loc6 v113_loc7 v113_stk0 H locs ls hI113_4 h113_2 h113_3 htp_113 hfp_113 hor_113 hirl_113 hP hD hS hl
        refine lv_istore_n (lv' := [(3, .int v113_stk0), (0, .ref m0), (1, .int p0), (2, .int p1), (4, .int v44_loc4), (5, .int v44_loc5), (6, .int v113_loc6), (7, .int v113_loc7)]) hx hb dX11_twins_113 rfl hl (Nat.le_of_ble_eq_true rfl) rfl (fun ls hl => ?_)
        refine lv_iload hx hb dX11_twins_114 (lv_at hl 6 rfl) ?_
        refine lv_istore (lv' := [(4, .int v113_loc6), (3, .int v113_stk0), (0, .ref m0), (1, .int p0), (2, .int p1), (5, .int v44_loc5), (6, .int v113_loc6), (7, .int v113_loc7)]) hx hb dX11_twins_116 hl (Nat.le_of_ble_eq_true rfl) rfl (fun ls hl => ?_)
        refine lv_iinc (v := v44_loc5 + Int32.ofInt 1) (lv' := [(5, .int (v44_loc5 + Int32.ofInt 1)), (4, .int v113_loc6), (3, .int v113_stk0), (0, .ref m0), (1, .int p0), (2, .int p1), (6, .int v113_loc6), (7, .int v113_loc7)]) hx hb dX11_twins_118 hl (k := 5) rfl (rfl) (Nat.le_of_ble_eq_true rfl) rfl (fun ls hl => ?_)
        have b4 : iv 1 6 (v44_loc5 + Int32.ofInt 1) := iv_add h113_2 ivo_1 (by decide) (by decide) (by decide) (by decide)
        refine lv_goto (tgt := 44) hx hb dX11_twins_121 rfl ?_
        exact ih44 y44_0 g113_4 g44_6 v113_stk0 v113_loc6 (v44_loc5 + Int32.ofInt 1) _ _ _ (ms_up (c := 1) (d := 0) h113_2 hm44 (by decide) (iv_inc 1 h113_2 (by decide) (by decide) (by decide) (by decide)) (by decide) rfl) (hI44_0) (hI113_4) (hI44_6) (h44_4) (h44_5) (h113_3) ((iv_w b4 (by decide) (by decide))) ((show y44_0 1 = x0 1 from htp_44)) ((show y44_0 10 = x0 10 from hfp_44)) ((show y44_0 11 = x0 11 from hor_44)) ((show y44_0 14 = x0 14 from hirl_44)) (hP) (hD) hS (lv_sub hl [3, 4, 5, 2, 1, 0] rfl)
      have hJ112 : ∀ (g112_4 : Nat → Int32) (v112_loc6 : Int32) (v112_loc7 : Int32) (H : Heap) (locs : List Loc) (ls : Array Slot), fI lNow hNow g112_4 → iv 0 5 v44_loc5 → (y44_0 1 = x0 1) → (y44_0 10 = x0 10) → (y44_0 11 = x0 11) → (y44_0 14 = x0 14) → va_P (dC, dI) vwCl [(m0, .inr (11, oX11 ra y44_0)), (ra 2, .inl (kI, 8, .inl q_told)), (ra 5, .inl (kI, 24, .inl q_pace)), (ra 9, .inl (kI, 40, .inl q_to)), (ra 11, .inl (kI, 1019, .inl g112_4)), (ra 12, .inl (kI, 3, .inl q_status)), (ra 16, .inl (kI, 40760, .inl g44_6))] H → va_D A [(m0, .inr (11, oX11 ra y44_0)), (ra 2, .inl (kI, 8, .inl q_told)), (ra 5, .inl (kI, 24, .inl q_pace)), (ra 9, .inl (kI, 40, .inl q_to)), (ra 11, .inl (kI, 1019, .inl g112_4)), (ra 12, .inl (kI, 3, .inl q_status)), (ra 16, .inl (kI, 40760, .inl g44_6))] → va_S A s.heap H locs → lv_has ls 8 [(0, .ref m0), (1, .int p0), (2, .int p1), (3, .int v44_loc3), (4, .int v44_loc4), (5, .int v44_loc5), (6, .int v112_loc6), (7, .int v112_loc7)] → W p l e (headSpec wsX11_twins rm_s11_twins).room s m args0 below meth c H locs (0) (0) (MQ below (va_Qi (fun (r : Int32) (_ : Unit) => iv (-1) 1 r) (fun _ t => ∃ (x0' : Nat → Int32) (q_now' : Nat → Int32) (q_status' : Nat → Int32) (q_past' : Nat → Int32), fI lX11 hX11 x0' ∧ fI lNow hNow q_now' ∧ fI lPast hPast q_past' ∧ (x0' 1 = x0 1) ∧ (x0' 10 = x0 10) ∧ (x0' 11 = x0 11) ∧ (x0' 14 = x0 14) ∧ va_P (dC, dI) vwCl [(m0, .inr (11, oX11 ra x0')), (ra 2, .inl (kI, 8, .inl q_told)), (ra 5, .inl (kI, 24, .inl q_pace)), (ra 9, .inl (kI, 40, .inl q_to)), (ra 11, .inl (kI, 1019, .inl q_now')), (ra 12, .inl (kI, 3, .inl q_status')), (ra 16, .inl (kI, 40760, .inl q_past'))] t.heap ∧ va_D A [(m0, .inr (11, oX11 ra x0')), (ra 2, .inl (kI, 8, .inl q_told)), (ra 5, .inl (kI, 24, .inl q_pace)), (ra 9, .inl (kI, 40, .inl q_to)), (ra 11, .inl (kI, 1019, .inl q_now')), (ra 12, .inl (kI, 3, .inl q_status')), (ra 16, .inl (kI, 40760, .inl q_past'))]) A) args0 s 0 0 A) (F0 m 112 ls []) := by
        intro g112_4 v112_loc6 v112_loc7 H locs ls hI112_4 h112_2 htp_112 hfp_112 hor_112 hirl_112 hP hD hS hl
        refine lv_iconst (v := 0) hx hb dX11_twins_112 ic_0 ?_
        exact hJ113 g112_4 v112_loc6 v112_loc7 0 _ _ _ (hI112_4) (h112_2) ((iv_w ivk_0 (by decide) (by decide))) ((show y44_0 1 = x0 1 from htp_44)) ((show y44_0 10 = x0 10 from hfp_44)) ((show y44_0 11 = x0 11 from hor_44)) ((show y44_0 14 = x0 14 from hirl_44)) (hP) (hD) hS (lv_sub hl [0, 1, 2, 3, 4, 5, 6, 7] rfl)
      have hJ108 : ∀ (g108_4 : Nat → Int32) (v108_loc6 : Int32) (v108_loc7 : Int32) (H : Heap) (locs : List Loc) (ls : Array Slot), fI lNow hNow g108_4 → iv 1 1 v44_loc3 → iv 0 5 v44_loc5 → (y44_0 1 = x0 1) → (y44_0 10 = x0 10) → (y44_0 11 = x0 11) → (y44_0 14 = x0 14) → va_P (dC, dI) vwCl [(m0, .inr (11, oX11 ra y44_0)), (ra 2, .inl (kI, 8, .inl q_told)), (ra 5, .inl (kI, 24, .inl q_pace)), (ra 9, .inl (kI, 40, .inl q_to)), (ra 11, .inl (kI, 1019, .inl g108_4)), (ra 12, .inl (kI, 3, .inl q_status)), (ra 16, .inl (kI, 40760, .inl g44_6))] H → va_D A [(m0, .inr (11, oX11 ra y44_0)), (ra 2, .inl (kI, 8, .inl q_told)), (ra 5, .inl (kI, 24, .inl q_pace)), (ra 9, .inl (kI, 40, .inl q_to)), (ra 11, .inl (kI, 1019, .inl g108_4)), (ra 12, .inl (kI, 3, .inl q_status)), (ra 16, .inl (kI, 40760, .inl g44_6))] → va_S A s.heap H locs → lv_has ls 8 [(0, .ref m0), (1, .int p0), (2, .int p1), (3, .int v44_loc3), (4, .int v44_loc4), (5, .int v44_loc5), (6, .int v108_loc6), (7, .int v108_loc7)] → W p l e (headSpec wsX11_twins rm_s11_twins).room s m args0 below meth c H locs (0) (0) (MQ below (va_Qi (fun (r : Int32) (_ : Unit) => iv (-1) 1 r) (fun _ t => ∃ (x0' : Nat → Int32) (q_now' : Nat → Int32) (q_status' : Nat → Int32) (q_past' : Nat → Int32), fI lX11 hX11 x0' ∧ fI lNow hNow q_now' ∧ fI lPast hPast q_past' ∧ (x0' 1 = x0 1) ∧ (x0' 10 = x0 10) ∧ (x0' 11 = x0 11) ∧ (x0' 14 = x0 14) ∧ va_P (dC, dI) vwCl [(m0, .inr (11, oX11 ra x0')), (ra 2, .inl (kI, 8, .inl q_told)), (ra 5, .inl (kI, 24, .inl q_pace)), (ra 9, .inl (kI, 40, .inl q_to)), (ra 11, .inl (kI, 1019, .inl q_now')), (ra 12, .inl (kI, 3, .inl q_status')), (ra 16, .inl (kI, 40760, .inl q_past'))] t.heap ∧ va_D A [(m0, .inr (11, oX11 ra x0')), (ra 2, .inl (kI, 8, .inl q_told)), (ra 5, .inl (kI, 24, .inl q_pace)), (ra 9, .inl (kI, 40, .inl q_to)), (ra 11, .inl (kI, 1019, .inl q_now')), (ra 12, .inl (kI, 3, .inl q_status')), (ra 16, .inl (kI, 40760, .inl q_past'))]) A) args0 s 0 0 A) (F0 m 108 ls []) := by
        intro g108_4 v108_loc6 v108_loc7 H locs ls hI108_4 h108_2 h108_3 htp_108 hfp_108 hor_108 hirl_108 hP hD hS hl
        refine lv_iconst (v := 1) hx hb dX11_twins_108 ic_1 ?_
        refine lv_goto (tgt := 113) hx hb dX11_twins_109 rfl ?_
        exact hJ113 g108_4 v108_loc6 v108_loc7 1 _ _ _ (hI108_4) (h108_3) ((iv_w ivk_1 (by decide) (by decide))) ((show y44_0 1 = x0 1 from htp_44)) ((show y44_0 10 = x0 10 from hfp_44)) ((show y44_0 11 = x0 11 from hor_44)) ((show y44_0 14 = x0 14 from hirl_44)) (hP) (hD) hS (lv_sub hl [0, 1, 2, 3, 4, 5, 6, 7] rfl)
      have hJ65 : ∀ (v65_stk0 : Int32) (H : Heap) (locs : List Loc) (ls : Array Slot), iv 0 5 v44_loc5 → iv 0 20 v65_stk0 → (y44_0 1 = x0 1) → (y44_0 10 = x0 10) → (y44_0 11 = x0 11) → (y44_0 14 = x0 14) → va_P (dC, dI) vwCl [(m0, .inr (11, oX11 ra y44_0)), (ra 2, .inl (kI, 8, .inl q_told)), (ra 5, .inl (kI, 24, .inl q_pace)), (ra 9, .inl (kI, 40, .inl q_to)), (ra 11, .inl (kI, 1019, .inl g44_4)), (ra 12, .inl (kI, 3, .inl q_status)), (ra 16, .inl (kI, 40760, .inl g44_6))] H → va_D A [(m0, .inr (11, oX11 ra y44_0)), (ra 2, .inl (kI, 8, .inl q_told)), (ra 5, .inl (kI, 24, .inl q_pace)), (ra 9, .inl (kI, 40, .inl q_to)), (ra 11, .inl (kI, 1019, .inl g44_4)), (ra 12, .inl (kI, 3, .inl q_status)), (ra 16, .inl (kI, 40760, .inl g44_6))] → va_S A s.heap H locs → lv_has ls 8 [(0, .ref m0), (1, .int p0), (2, .int p1), (3, .int v44_loc3), (4, .int v44_loc4), (5, .int v44_loc5)] → W p l e (headSpec wsX11_twins rm_s11_twins).room s m args0 below meth c H locs (0) (0) (MQ below (va_Qi (fun (r : Int32) (_ : Unit) => iv (-1) 1 r) (fun _ t => ∃ (x0' : Nat → Int32) (q_now' : Nat → Int32) (q_status' : Nat → Int32) (q_past' : Nat → Int32), fI lX11 hX11 x0' ∧ fI lNow hNow q_now' ∧ fI lPast hPast q_past' ∧ (x0' 1 = x0 1) ∧ (x0' 10 = x0 10) ∧ (x0' 11 = x0 11) ∧ (x0' 14 = x0 14) ∧ va_P (dC, dI) vwCl [(m0, .inr (11, oX11 ra x0')), (ra 2, .inl (kI, 8, .inl q_told)), (ra 5, .inl (kI, 24, .inl q_pace)), (ra 9, .inl (kI, 40, .inl q_to)), (ra 11, .inl (kI, 1019, .inl q_now')), (ra 12, .inl (kI, 3, .inl q_status')), (ra 16, .inl (kI, 40760, .inl q_past'))] t.heap ∧ va_D A [(m0, .inr (11, oX11 ra x0')), (ra 2, .inl (kI, 8, .inl q_told)), (ra 5, .inl (kI, 24, .inl q_pace)), (ra 9, .inl (kI, 40, .inl q_to)), (ra 11, .inl (kI, 1019, .inl q_now')), (ra 12, .inl (kI, 3, .inl q_status')), (ra 16, .inl (kI, 40760, .inl q_past'))]) A) args0 s 0 0 A) (F0 m 65 ls [.int v65_stk0, .ref m0, .ref m0]) := by
        intro v65_stk0 H locs ls h65_1 h65_2 htp_65 hfp_65 hor_65 hirl_65 hP hD hS hl
        obtain ⟨hPc, hDc, hFc, hJn⟩ := cl_a (wc := [(m0, .inr (11, oX11 ra y44_0)), (ra 9, .inl (kI, 40, .inl q_to))]) (wr := [(ra 2, .inl (kI, 8, .inl q_told)), (ra 5, .inl (kI, 24, .inl q_pace)), (ra 11, .inl (kI, 1019, .inl g44_4)), (ra 12, .inl (kI, 3, .inl q_status)), (ra 16, .inl (kI, 40760, .inl g44_6))]) hP hD hS hA [0, 3] [1, 2, 4, 5, 6] rfl rfl (by decide +kernel)
        refine va_calli (va_runV (As := [.int v65_stk0]) (rest := [.ref m0]) ⟨hx, hb, hml, hown, hts⟩ (s11_routerOf l dC dI kB kI kJ kZ kC kS H.size m0 ra y44_0 q_to v65_stk0 (hI44_0) (hq_to) ((iv_w h65_2 (by decide) (by decide)))) (cwV 1 hts gX11_twins_X11_routerOf rfl rfl rfl (by decide +kernel) ⟨Nat.le_of_ble_eq_true rfl, Nat.le_of_ble_eq_true rfl⟩) ⟨fun a U g mk q => by obtain ⟨q0, q1, qP, qE, qD⟩ := q; exact ⟨q0, q1, qP, kE_call qE, qD⟩, va_recv hK hP (ci := 11) (q0 := 0) rfl rfl, fun U hU hW => ⟨rfl, by rw [hU], by rw [hU]; exact hPc, kE_warm hW hE, hDc.weaken (fun _ _ _ _ => trivial)⟩⟩ rfl rfl hl.1 rfl (lv_room (Nat.le_of_ble_eq_true rfl)) dX11_twins_65 ⟨Nat.le_of_ble_eq_true rfl, Nat.le_of_ble_eq_true rfl⟩) hS (fun q _ h => hFc q h) hFc (fun r5 u t H locs ht hvm w6 hB hz1 hk1 hS => ?_)
        obtain ⟨hP1, hD1⟩ := hB
        try dsimp only at w6
        obtain ⟨hPa, hDa⟩ := hJn (w1 := [(m0, .inr (11, oX11 ra y44_0)), (ra 9, .inl (kI, 40, .inl q_to))]) hk1 ht hP1 hD1
        clear hP hD hPc hDc hFc hJn hP1 hD1 hk1
        have hP : va_P (dC, dI) vwCl [(ra 2, .inl (kI, 8, .inl q_told)), (ra 5, .inl (kI, 24, .inl q_pace)), (ra 11, .inl (kI, 1019, .inl g44_4)), (ra 12, .inl (kI, 3, .inl q_status)), (ra 16, .inl (kI, 40760, .inl g44_6)), (m0, .inr (11, oX11 ra y44_0)), (ra 9, .inl (kI, 40, .inl q_to))] H := hPa
        have hD : va_D A [(ra 2, .inl (kI, 8, .inl q_told)), (ra 5, .inl (kI, 24, .inl q_pace)), (ra 11, .inl (kI, 1019, .inl g44_4)), (ra 12, .inl (kI, 3, .inl q_status)), (ra 16, .inl (kI, 40760, .inl g44_6)), (m0, .inr (11, oX11 ra y44_0)), (ra 9, .inl (kI, 40, .inl q_to))] := hDa
        clear hPa hDa
        refine W.widen (k := 0) (n := 0) (Nat.le_of_ble_eq_true rfl) (Nat.le_of_ble_eq_true rfl) ?_
        obtain ⟨hPc, hDc, hFc, hJn⟩ := cl_a (wc := [(m0, .inr (11, oX11 ra y44_0)), (ra 5, .inl (kI, 24, .inl q_pace)), (ra 11, .inl (kI, 1019, .inl g44_4))]) (wr := [(ra 2, .inl (kI, 8, .inl q_told)), (ra 12, .inl (kI, 3, .inl q_status)), (ra 16, .inl (kI, 40760, .inl g44_6)), (ra 9, .inl (kI, 40, .inl q_to))]) hP hD hS hA [5, 1, 2] [0, 3, 4, 6] rfl rfl (by decide +kernel)
        refine va_calli (va_runV (As := [.int r5]) (rest := []) ⟨hx, hb, hml, hown, hts⟩ (s11_answered l dC dI kB kI kJ kZ kC kS H.size m0 ra y44_0 q_pace g44_4 r5 (hI44_0) (hI44_4) (w6)) (cwV 1 hts gX11_twins_X11_answered rfl rfl rfl (by decide +kernel) ⟨Nat.le_of_ble_eq_true rfl, Nat.le_of_ble_eq_true rfl⟩) ⟨fun a U g mk q => by obtain ⟨q0, q1, qP, qE, qD⟩ := q; exact ⟨q0, q1, qP, kE_call qE, qD⟩, va_recv hK hP (ci := 11) (q0 := 5) rfl rfl, fun U hU hW => ⟨rfl, by rw [hU], by rw [hU]; exact hPc, kE_warm hW hE, hDc.weaken (fun _ _ _ _ => trivial)⟩⟩ rfl rfl hl.1 rfl (lv_room (Nat.le_of_ble_eq_true rfl)) dX11_twins_68 ⟨Nat.le_of_ble_eq_true rfl, Nat.le_of_ble_eq_true rfl⟩) hS (fun q _ h => hFc q h) hFc (fun r7 u t H locs ht hvm w8 hB hz1 hk1 hS => ?_)
        obtain ⟨f9, hq10, hP1, hD1⟩ := hB
        try dsimp only at w8
        obtain ⟨hPa, hDa⟩ := hJn (w1 := [(m0, .inr (11, oX11 ra y44_0)), (ra 5, .inl (kI, 24, .inl q_pace)), (ra 11, .inl (kI, 1019, .inl f9))]) hk1 ht hP1 hD1
        clear hP hD hPc hDc hFc hJn hP1 hD1 hk1
        have hP : va_P (dC, dI) vwCl [(ra 2, .inl (kI, 8, .inl q_told)), (ra 12, .inl (kI, 3, .inl q_status)), (ra 16, .inl (kI, 40760, .inl g44_6)), (ra 9, .inl (kI, 40, .inl q_to)), (m0, .inr (11, oX11 ra y44_0)), (ra 5, .inl (kI, 24, .inl q_pace)), (ra 11, .inl (kI, 1019, .inl f9))] H := hPa
        have hD : va_D A [(ra 2, .inl (kI, 8, .inl q_told)), (ra 12, .inl (kI, 3, .inl q_status)), (ra 16, .inl (kI, 40760, .inl g44_6)), (ra 9, .inl (kI, 40, .inl q_to)), (m0, .inr (11, oX11 ra y44_0)), (ra 5, .inl (kI, 24, .inl q_pace)), (ra 11, .inl (kI, 1019, .inl f9))] := hDa
        clear hPa hDa
        refine W.widen (k := 0) (n := 0) (Nat.le_of_ble_eq_true rfl) (Nat.le_of_ble_eq_true rfl) ?_
        refine lv_istore (lv' := [(6, .int r7), (0, .ref m0), (1, .int p0), (2, .int p1), (3, .int v44_loc3), (4, .int v44_loc4), (5, .int v44_loc5)]) hx hb dX11_twins_71 hl (Nat.le_of_ble_eq_true rfl) rfl (fun ls hl => ?_)
        refine lv_iload hx hb dX11_twins_73 (lv_at hl 0 rfl) ?_
        refine lv_iload hx hb dX11_twins_75 (lv_at hl 5 rfl) ?_
        refine lv_isub hx hb dX11_twins_77 ?_
        refine lv_topi (fun z11 _ => ?_)
        refine lv_sipush (v := 256) hx hb dX11_twins_78 (by decide) ?_
        refine lv_iadd hx hb dX11_twins_81 ?_
        refine lv_topi (fun z12 _ => ?_)
        refine lv_sipush (v := 256) hx hb dX11_twins_82 (by decide) ?_
        refine lv_irem hx hb dX11_twins_85 (by decide) ?_
        refine lv_topi (fun z13 _ => ?_)
        refine lv_istore (lv' := [(7, .int z13), (6, .int r7), (0, .ref m0), (1, .int p0), (2, .int p1), (3, .int v44_loc3), (4, .int v44_loc4), (5, .int v44_loc5)]) hx hb dX11_twins_86 hl (Nat.le_of_ble_eq_true rfl) rfl (fun ls hl => ?_)
        refine lv_iload_n hx hb dX11_twins_88 rfl (lv_at hl 5 rfl) ?_
        refine lv_if_eq (tgt := 112) hx hb dX11_twins_89 rfl (fun c14 => ?_) (fun c14 => ?_)
        · have b15 : iv 0 0 v44_loc3 := iv_eqL c14 ivk_0
          have hPD9 := cl_s (wc := [(m0, .inr (11, oX11 ra y44_0)), (ra 2, .inl (kI, 8, .inl q_told)), (ra 5, .inl (kI, 24, .inl q_pace)), (ra 9, .inl (kI, 40, .inl q_to)), (ra 11, .inl (kI, 1019, .inl f9)), (ra 12, .inl (kI, 3, .inl q_status)), (ra 16, .inl (kI, 40760, .inl g44_6))]) hP hD [4, 0, 5, 3, 6, 1, 2] rfl (by decide +kernel)
          exact hJ112 f9 r7 z13 _ _ _ (hq10) (h65_1) ((show y44_0 1 = x0 1 from htp_44)) ((show y44_0 10 = x0 10 from hfp_44)) ((show y44_0 11 = x0 11 from hor_44)) ((show y44_0 14 = x0 14 from hirl_44)) (hPD9.1) (hPD9.2) hS (lv_sub hl [2, 3, 4, 5, 6, 7, 1, 0] rfl)
        · have b16 : iv 1 1 v44_loc3 := iv_neLo c14 h44_6 ivk_0 (by decide) (by decide)
          refine lv_iload hx hb dX11_twins_92 (lv_at hl 7 rfl) ?_
          refine lv_if_eq (tgt := 108) hx hb dX11_twins_94 rfl (fun c17 => ?_) (fun c17 => ?_)
          · have b18 : iv 0 0 v44_loc5 := iv_eqL c17 ivk_0
            have hPD9 := cl_s (wc := [(m0, .inr (11, oX11 ra y44_0)), (ra 2, .inl (kI, 8, .inl q_told)), (ra 5, .inl (kI, 24, .inl q_pace)), (ra 9, .inl (kI, 40, .inl q_to)), (ra 11, .inl (kI, 1019, .inl f9)), (ra 12, .inl (kI, 3, .inl q_status)), (ra 16, .inl (kI, 40760, .inl g44_6))]) hP hD [4, 0, 5, 3, 6, 1, 2] rfl (by decide +kernel)
            exact hJ108 f9 r7 z13 _ _ _ (hq10) (b16) ((iv_w b18 (by decide) (by decide))) ((show y44_0 1 = x0 1 from htp_44)) ((show y44_0 10 = x0 10 from hfp_44)) ((show y44_0 11 = x0 11 from hor_44)) ((show y44_0 14 = x0 14 from hirl_44)) (hPD9.1) (hPD9.2) hS (lv_sub hl [2, 3, 4, 5, 6, 7, 1, 0] rfl)
          · have b19 : iv 1 5 v44_loc5 := iv_neLo c17 h65_1 ivk_0 (by decide) (by decide)
            refine lv_iload hx hb dX11_twins_97 (lv_at hl 0 rfl) ?_
            refine lv_iconst (v := 1) hx hb dX11_twins_99 ic_1 ?_
            refine lv_bipush (v := 120) hx hb dX11_twins_100 bp_120 ?_
            obtain ⟨hPc, hDc, hFc, hJn⟩ := cl_a (wc := []) (wr := [(ra 2, .inl (kI, 8, .inl q_told)), (ra 12, .inl (kI, 3, .inl q_status)), (ra 16, .inl (kI, 40760, .inl g44_6)), (ra 9, .inl (kI, 40, .inl q_to)), (m0, .inr (11, oX11 ra y44_0)), (ra 5, .inl (kI, 24, .inl q_pace)), (ra 11, .inl (kI, 1019, .inl f9))]) hP hD hS hA [] [0, 1, 2, 3, 4, 5, 6] rfl rfl (by decide +kernel)
            refine va_calli (va_runS (As := [.int z13, .int 1, .int 120]) (rest := []) ⟨hx, hb, hml, hown, hts⟩ (s11_isIn l dC dI kB kI kJ kZ kC kS H.size z13 1 120) (va_cwS 3 hts gX11_twins_X11_isIn rfl rfl rfl (by decide +kernel) ⟨Nat.le_of_ble_eq_true rfl, Nat.le_of_ble_eq_true rfl⟩) ⟨fun a U g mk q => by obtain ⟨q0, q1, qP, qE, qD⟩ := q; exact ⟨q0, q1, qP, kE_call qE, qD⟩, fun U hU hW => ⟨rfl, by rw [hU], by rw [hU]; exact hPc, kE_warm hW hE, hDc.weaken (fun _ _ _ _ => trivial)⟩⟩ rfl rfl hl.1 rfl (lv_room (Nat.le_of_ble_eq_true rfl)) dX11_twins_102 ⟨Nat.le_of_ble_eq_true rfl, Nat.le_of_ble_eq_true rfl⟩) hS (fun q _ h => hFc q h) hFc (fun r20 u t H locs ht hvm w21 hB hz1 hk1 hS => ?_)
            obtain ⟨hP1, hD1⟩ := hB
            try dsimp only at w21
            obtain ⟨hPa, hDa⟩ := hJn (w1 := []) hk1 ht hP1 hD1
            clear hP hD hPc hDc hFc hJn hP1 hD1 hk1
            have hP : va_P (dC, dI) vwCl [(ra 2, .inl (kI, 8, .inl q_told)), (ra 12, .inl (kI, 3, .inl q_status)), (ra 16, .inl (kI, 40760, .inl g44_6)), (ra 9, .inl (kI, 40, .inl q_to)), (m0, .inr (11, oX11 ra y44_0)), (ra 5, .inl (kI, 24, .inl q_pace)), (ra 11, .inl (kI, 1019, .inl f9))] H := hPa
            have hD : va_D A [(ra 2, .inl (kI, 8, .inl q_told)), (ra 12, .inl (kI, 3, .inl q_status)), (ra 16, .inl (kI, 40760, .inl g44_6)), (ra 9, .inl (kI, 40, .inl q_to)), (m0, .inr (11, oX11 ra y44_0)), (ra 5, .inl (kI, 24, .inl q_pace)), (ra 11, .inl (kI, 1019, .inl f9))] := hDa
            clear hPa hDa
            refine W.widen (k := 0) (n := 0) (Nat.le_of_ble_eq_true rfl) (Nat.le_of_ble_eq_true rfl) ?_
            refine lv_if_eq (tgt := 112) hx hb dX11_twins_105 rfl (fun c22 => ?_) (fun c22 => ?_)
            · have b23 : iv 0 0 r20 := iv_eqL c22 ivk_0
              have hPD9 := cl_s (wc := [(m0, .inr (11, oX11 ra y44_0)), (ra 2, .inl (kI, 8, .inl q_told)), (ra 5, .inl (kI, 24, .inl q_pace)), (ra 9, .inl (kI, 40, .inl q_to)), (ra 11, .inl (kI, 1019, .inl f9)), (ra 12, .inl (kI, 3, .inl q_status)), (ra 16, .inl (kI, 40760, .inl g44_6))]) hP hD [4, 0, 5, 3, 6, 1, 2] rfl (by decide +kernel)
              exact hJ112 f9 r7 z13 _ _ _ (hq10) ((iv_w b19 (by decide) (by decide))) ((show y44_0 1 = x0 1 from htp_44)) ((show y44_0 10 = x0 10 from hfp_44)) ((show y44_0 11 = x0 11 from hor_44)) ((show y44_0 14 = x0 14 from hirl_44)) (hPD9.1) (hPD9.2) hS (lv_sub hl [2, 3, 4, 5, 6, 7, 1, 0] rfl)
            · have b24 : iv 1 1 r20 := iv_neLo c22 w21.1 ivk_0 (by decide) (by decide)
              have hr25 := (w21.2).resolve_left (iv_ne b24 ivk_0 (by decide))
              have b26 : iv 1 120 z13 := iv_cap (in_iv hr25 ivk_1 ivk_120) (iv_t z13) (by decide) (by decide)
              have hPD9 := cl_s (wc := [(m0, .inr (11, oX11 ra y44_0)), (ra 2, .inl (kI, 8, .inl q_told)), (ra 5, .inl (kI, 24, .inl q_pace)), (ra 9, .inl (kI, 40, .inl q_to)), (ra 11, .inl (kI, 1019, .inl f9)), (ra 12, .inl (kI, 3, .inl q_status)), (ra 16, .inl (kI, 40760, .inl g44_6))]) hP hD [4, 0, 5, 3, 6, 1, 2] rfl (by decide +kernel)
              exact hJ108 f9 r7 z13 _ _ _ (hq10) (b16) ((iv_w b19 (by decide) (by decide))) ((show y44_0 1 = x0 1 from htp_44)) ((show y44_0 10 = x0 10 from hfp_44)) ((show y44_0 11 = x0 11 from hor_44)) ((show y44_0 14 = x0 14 from hirl_44)) (hPD9.1) (hPD9.2) hS (lv_sub hl [2, 3, 4, 5, 6, 7, 1, 0] rfl)
      refine lv_iload hx hb dX11_twins_44 (lv_at hl 5 rfl) ?_
      refine lv_bipush (v := 6) hx hb dX11_twins_46 bp_6 ?_
      refine lv_icmp_ge (tgt := 124) hx hb dX11_twins_48 rfl (fun c27 => ?_) (fun c27 => ?_)
      · have b28 : iv 6 6 v44_loc5 := iv_leR c27 ivk_6 h44_7 (by decide) (by decide)
        refine lv_iload_n hx hb dX11_twins_124 rfl (lv_at hl 3 rfl) ?_
        refine lv_if_eq (tgt := 132) hx hb dX11_twins_125 rfl (fun c29 => ?_) (fun c29 => ?_)
        · have b30 : iv 0 0 v44_loc3 := iv_eqL c29 ivk_0
          refine lv_iconst (v := 0) hx hb dX11_twins_132 ic_0 ?_
          have hP9 := hP
          have hD9 := hD
          exact W.iret (v := 0) hx hb hr (fun t ht hW => ⟨⟨0, (), rfl, (iv_w ivk_0 (by decide) (by decide)), y44_0, g44_4, q_status, g44_6, hI44_0, hI44_4, hI44_6, (show y44_0 1 = x0 1 from htp_44), (show y44_0 10 = x0 10 from hfp_44), (show y44_0 11 = x0 11 from hor_44), (show y44_0 14 = x0 14 from hirl_44), by rw [ht]; exact hP9, hD9⟩, hS.F ht⟩) hS.2.2 dX11_twins_133
        · have b31 : iv 1 1 v44_loc3 := iv_neLo c29 h44_6 ivk_0 (by decide) (by decide)
          refine lv_iconst (v := 1) hx hb dX11_twins_128 ic_1 ?_
          refine lv_goto (tgt := 133) hx hb dX11_twins_129 rfl ?_
          have hP9 := hP
          have hD9 := hD
          exact W.iret (v := 1) hx hb hr (fun t ht hW => ⟨⟨1, (), rfl, (iv_w ivk_1 (by decide) (by decide)), y44_0, g44_4, q_status, g44_6, hI44_0, hI44_4, hI44_6, (show y44_0 1 = x0 1 from htp_44), (show y44_0 10 = x0 10 from hfp_44), (show y44_0 11 = x0 11 from hor_44), (show y44_0 14 = x0 14 from hirl_44), by rw [ht]; exact hP9, hD9⟩, hS.F ht⟩) hS.2.2 dX11_twins_133
      · have b32 : iv 0 5 v44_loc5 := iv_ltL (Int32.not_le.mp c27) h44_7 ivk_6 (by decide) (by decide)
        refine lv_aload_n hx hb dX11_twins_51 rfl (lv_at hl 0 rfl) ?_
        refine lv_aload_n hx hb dX11_twins_52 rfl (lv_at hl 0 rfl) ?_
        refine lv_iload hx hb dX11_twins_53 (lv_at hl 5 rfl) ?_
        refine lv_iconst (v := 2) hx hb dX11_twins_55 ic_2 ?_
        refine lv_irem hx hb dX11_twins_56 (by decide) ?_
        refine iv_top (a := 0) (b := 1) (iv_rem b32 ivk_2 (by decide) (by decide) (by decide) (by decide)) (fun z33 b34 => ?_)
        refine lv_if_ne (tgt := 64) hx hb dX11_twins_57 rfl (fun c35 => ?_) (fun c35 => ?_)
        · have b36 : iv 1 1 z33 := iv_neLo c35 b34 ivk_0 (by decide) (by decide)
          refine lv_iload_n hx hb dX11_twins_64 rfl (lv_at hl 2 rfl) ?_
          exact hJ65 p1 _ _ _ (b32) (h44_5) ((show y44_0 1 = x0 1 from htp_44)) ((show y44_0 10 = x0 10 from hfp_44)) ((show y44_0 11 = x0 11 from hor_44)) ((show y44_0 14 = x0 14 from hirl_44)) (hP) (hD) hS (lv_sub hl [0, 1, 2, 3, 4, 5] rfl)
        · have b37 : iv 0 0 z33 := iv_eqL c35 ivk_0
          refine lv_iload_n hx hb dX11_twins_60 rfl (lv_at hl 1 rfl) ?_
          refine lv_goto (tgt := 65) hx hb dX11_twins_61 rfl ?_
          exact hJ65 p0 _ _ _ (b32) (h44_4) ((show y44_0 1 = x0 1 from htp_44)) ((show y44_0 10 = x0 10 from hfp_44)) ((show y44_0 11 = x0 11 from hor_44)) ((show y44_0 14 = x0 14 from hirl_44)) (hP) (hD) hS (lv_sub hl [0, 1, 2, 3, 4, 5] rfl)
  refine lv_aload_n hx hb dX11_twins_0 rfl (lv_at hl 0 rfl) ?_
  refine lv_iconst (v := 0) hx hb dX11_twins_1 ic_0 ?_
  refine va_put (D := (dC, dI)) (ci := 11) (v := .int 0) (ty := .int) (C := RX11) (T := TX11) (N := 61) hx hb hts hin11 tyX11 tyX11_ok nmX11 hown hK hP hD hS 0 rfl rfl 2 (by decide) hw_0 (fun _ h9 => h9) rfl (by decide +kernel) rfl rfl (Nat.le_of_ble_eq_true rfl) dX11_twins_2 (fun H locs hPa hDa hS => ?_)
  clear hP hD
  have hP : va_P (dC, dI) vwCl [(m0, .inr (11, oX11 ra (upd x0 0 0))), (ra 2, .inl (kI, 8, .inl q_told)), (ra 5, .inl (kI, 24, .inl q_pace)), (ra 9, .inl (kI, 40, .inl q_to)), (ra 11, .inl (kI, 1019, .inl q_now)), (ra 12, .inl (kI, 3, .inl q_status)), (ra 16, .inl (kI, 40760, .inl q_past))] H := hPa
  have hD : va_D A [(m0, .inr (11, oX11 ra (upd x0 0 0))), (ra 2, .inl (kI, 8, .inl q_told)), (ra 5, .inl (kI, 24, .inl q_pace)), (ra 9, .inl (kI, 40, .inl q_to)), (ra 11, .inl (kI, 1019, .inl q_now)), (ra 12, .inl (kI, 3, .inl q_status)), (ra 16, .inl (kI, 40760, .inl q_past))] := hDa
  clear hPa hDa
  refine lv_aload_n hx hb dX11_twins_5 rfl (lv_at hl 0 rfl) ?_
  refine lv_iload_n hx hb dX11_twins_6 rfl (lv_at hl 1 rfl) ?_
  obtain ⟨hPc, hDc, hFc, hJn⟩ := cl_a (wc := [(m0, .inr (11, oX11 ra (upd x0 0 0))), (ra 2, .inl (kI, 8, .inl q_told)), (ra 11, .inl (kI, 1019, .inl q_now))]) (wr := [(ra 5, .inl (kI, 24, .inl q_pace)), (ra 9, .inl (kI, 40, .inl q_to)), (ra 12, .inl (kI, 3, .inl q_status)), (ra 16, .inl (kI, 40760, .inl q_past))]) hP hD hS hA [0, 1, 4] [2, 3, 5, 6] rfl rfl (by decide +kernel)
  refine va_calli (va_runV (As := [.int p0]) (rest := []) ⟨hx, hb, hml, hown, hts⟩ (s11_wasSeen l dC dI kB kI kJ kZ kC kS H.size m0 ra (upd x0 0 0) q_told q_now p0 ((fI_u hX (k := 0) ((iv_w ivk_0 (by decide) (by decide))))) (hq_told) (hq_now)) (cwV 1 hts gX11_twins_X11_wasSeen rfl rfl rfl (by decide +kernel) ⟨Nat.le_of_ble_eq_true rfl, Nat.le_of_ble_eq_true rfl⟩) ⟨fun a U g mk q => by obtain ⟨q0, q1, qP, qE, qD⟩ := q; exact ⟨q0, q1, qP, kE_call qE, qD⟩, va_recv hK hP (ci := 11) (q0 := 0) rfl rfl, fun U hU hW => ⟨rfl, by rw [hU], by rw [hU]; exact hPc, kE_warm hW hE, hDc.weaken (fun _ _ _ _ => trivial)⟩⟩ rfl rfl hl.1 rfl (lv_room (Nat.le_of_ble_eq_true rfl)) dX11_twins_7 ⟨Nat.le_of_ble_eq_true rfl, Nat.le_of_ble_eq_true rfl⟩) hS (fun q _ h => hFc q h) hFc (fun r38 u t H locs ht hvm w39 hB hz1 hk1 hS => ?_)
  obtain ⟨hP1, hD1⟩ := hB
  try dsimp only at w39
  obtain ⟨hPa, hDa⟩ := hJn (w1 := [(m0, .inr (11, oX11 ra (upd x0 0 0))), (ra 2, .inl (kI, 8, .inl q_told)), (ra 11, .inl (kI, 1019, .inl q_now))]) hk1 ht hP1 hD1
  clear hP hD hPc hDc hFc hJn hP1 hD1 hk1
  have hP : va_P (dC, dI) vwCl [(ra 5, .inl (kI, 24, .inl q_pace)), (ra 9, .inl (kI, 40, .inl q_to)), (ra 12, .inl (kI, 3, .inl q_status)), (ra 16, .inl (kI, 40760, .inl q_past)), (m0, .inr (11, oX11 ra (upd x0 0 0))), (ra 2, .inl (kI, 8, .inl q_told)), (ra 11, .inl (kI, 1019, .inl q_now))] H := hPa
  have hD : va_D A [(ra 5, .inl (kI, 24, .inl q_pace)), (ra 9, .inl (kI, 40, .inl q_to)), (ra 12, .inl (kI, 3, .inl q_status)), (ra 16, .inl (kI, 40760, .inl q_past)), (m0, .inr (11, oX11 ra (upd x0 0 0))), (ra 2, .inl (kI, 8, .inl q_told)), (ra 11, .inl (kI, 1019, .inl q_now))] := hDa
  clear hPa hDa
  refine W.widen (k := 0) (n := 0) (Nat.le_of_ble_eq_true rfl) (Nat.le_of_ble_eq_true rfl) ?_
  refine lv_if_eq (tgt := 26) hx hb dX11_twins_10 rfl (fun c40 => ?_) (fun c40 => ?_)
  · have b41 : iv 0 0 r38 := iv_eqL c40 ivk_0
    have hPD9 := cl_s (wc := [(m0, .inr (11, oX11 ra (upd x0 0 0))), (ra 2, .inl (kI, 8, .inl q_told)), (ra 5, .inl (kI, 24, .inl q_pace)), (ra 9, .inl (kI, 40, .inl q_to)), (ra 11, .inl (kI, 1019, .inl q_now)), (ra 12, .inl (kI, 3, .inl q_status)), (ra 16, .inl (kI, 40760, .inl q_past))]) hP hD [4, 5, 0, 1, 6, 2, 3] rfl (by decide +kernel)
    exact hJ26 (upd x0 0 0) _ _ _ ((fI_u hX (k := 0) ((iv_w ivk_0 (by decide) (by decide))))) (ivk_0) ((show x0 1 = x0 1 from rfl)) ((show x0 10 = x0 10 from rfl)) ((show x0 11 = x0 11 from rfl)) ((show x0 14 = x0 14 from rfl)) (hPD9.1) (hPD9.2) hS (lv_sub hl [0, 1, 2] rfl)
  · have b42 : iv 1 1 r38 := iv_neLo c40 w39.1 ivk_0 (by decide) (by decide)
    have b43 : iv 0 20 p0 := (w39.2).resolve_left (iv_ne b42 ivk_0 (by decide))
    refine lv_aload_n hx hb dX11_twins_13 rfl (lv_at hl 0 rfl) ?_
    refine lv_iload_n hx hb dX11_twins_14 rfl (lv_at hl 2 rfl) ?_
    obtain ⟨hPc, hDc, hFc, hJn⟩ := cl_a (wc := [(m0, .inr (11, oX11 ra (upd x0 0 0))), (ra 2, .inl (kI, 8, .inl q_told)), (ra 11, .inl (kI, 1019, .inl q_now))]) (wr := [(ra 5, .inl (kI, 24, .inl q_pace)), (ra 9, .inl (kI, 40, .inl q_to)), (ra 12, .inl (kI, 3, .inl q_status)), (ra 16, .inl (kI, 40760, .inl q_past))]) hP hD hS hA [4, 5, 6] [0, 1, 2, 3] rfl rfl (by decide +kernel)
    refine va_calli (va_runV (As := [.int p1]) (rest := []) ⟨hx, hb, hml, hown, hts⟩ (s11_wasSeen l dC dI kB kI kJ kZ kC kS H.size m0 ra (upd x0 0 0) q_told q_now p1 ((fI_u hX (k := 0) ((iv_w ivk_0 (by decide) (by decide))))) (hq_told) (hq_now)) (cwV 1 hts gX11_twins_X11_wasSeen rfl rfl rfl (by decide +kernel) ⟨Nat.le_of_ble_eq_true rfl, Nat.le_of_ble_eq_true rfl⟩) ⟨fun a U g mk q => by obtain ⟨q0, q1, qP, qE, qD⟩ := q; exact ⟨q0, q1, qP, kE_call qE, qD⟩, va_recv hK hP (ci := 11) (q0 := 4) rfl rfl, fun U hU hW => ⟨rfl, by rw [hU], by rw [hU]; exact hPc, kE_warm hW hE, hDc.weaken (fun _ _ _ _ => trivial)⟩⟩ rfl rfl hl.1 rfl (lv_room (Nat.le_of_ble_eq_true rfl)) dX11_twins_15 ⟨Nat.le_of_ble_eq_true rfl, Nat.le_of_ble_eq_true rfl⟩) hS (fun q _ h => hFc q h) hFc (fun r44 u t H locs ht hvm w45 hB hz1 hk1 hS => ?_)
    obtain ⟨hP1, hD1⟩ := hB
    try dsimp only at w45
    obtain ⟨hPa, hDa⟩ := hJn (w1 := [(m0, .inr (11, oX11 ra (upd x0 0 0))), (ra 2, .inl (kI, 8, .inl q_told)), (ra 11, .inl (kI, 1019, .inl q_now))]) hk1 ht hP1 hD1
    clear hP hD hPc hDc hFc hJn hP1 hD1 hk1
    have hP : va_P (dC, dI) vwCl [(ra 5, .inl (kI, 24, .inl q_pace)), (ra 9, .inl (kI, 40, .inl q_to)), (ra 12, .inl (kI, 3, .inl q_status)), (ra 16, .inl (kI, 40760, .inl q_past)), (m0, .inr (11, oX11 ra (upd x0 0 0))), (ra 2, .inl (kI, 8, .inl q_told)), (ra 11, .inl (kI, 1019, .inl q_now))] H := hPa
    have hD : va_D A [(ra 5, .inl (kI, 24, .inl q_pace)), (ra 9, .inl (kI, 40, .inl q_to)), (ra 12, .inl (kI, 3, .inl q_status)), (ra 16, .inl (kI, 40760, .inl q_past)), (m0, .inr (11, oX11 ra (upd x0 0 0))), (ra 2, .inl (kI, 8, .inl q_told)), (ra 11, .inl (kI, 1019, .inl q_now))] := hDa
    clear hPa hDa
    refine W.widen (k := 0) (n := 0) (Nat.le_of_ble_eq_true rfl) (Nat.le_of_ble_eq_true rfl) ?_
    refine lv_if_eq (tgt := 26) hx hb dX11_twins_18 rfl (fun c46 => ?_) (fun c46 => ?_)
    · have b47 : iv 0 0 r44 := iv_eqL c46 ivk_0
      have hPD9 := cl_s (wc := [(m0, .inr (11, oX11 ra (upd x0 0 0))), (ra 2, .inl (kI, 8, .inl q_told)), (ra 5, .inl (kI, 24, .inl q_pace)), (ra 9, .inl (kI, 40, .inl q_to)), (ra 11, .inl (kI, 1019, .inl q_now)), (ra 12, .inl (kI, 3, .inl q_status)), (ra 16, .inl (kI, 40760, .inl q_past))]) hP hD [4, 5, 0, 1, 6, 2, 3] rfl (by decide +kernel)
      exact hJ26 (upd x0 0 0) _ _ _ ((fI_u hX (k := 0) ((iv_w ivk_0 (by decide) (by decide))))) (ivk_0) ((show x0 1 = x0 1 from rfl)) ((show x0 10 = x0 10 from rfl)) ((show x0 11 = x0 11 from rfl)) ((show x0 14 = x0 14 from rfl)) (hPD9.1) (hPD9.2) hS (lv_sub hl [0, 1, 2] rfl)
    · have b48 : iv 1 1 r44 := iv_neLo c46 w45.1 ivk_0 (by decide) (by decide)
      have b49 : iv 0 20 p1 := (w45.2).resolve_left (iv_ne b48 ivk_0 (by decide))
      refine lv_iload_n hx hb dX11_twins_21 rfl (lv_at hl 1 rfl) ?_
      refine lv_iload_n hx hb dX11_twins_22 rfl (lv_at hl 2 rfl) ?_
      refine lv_icmp_ne (tgt := 32) hx hb dX11_twins_23 rfl (fun c50 => ?_) (fun c50 => ?_)
      · refine lv_aload_n hx hb dX11_twins_32 rfl (lv_at hl 0 rfl) ?_
        obtain ⟨hPc, hDc, hFc, hJn⟩ := cl_a (wc := [(m0, .inr (11, oX11 ra (upd x0 0 0))), (ra 11, .inl (kI, 1019, .inl q_now)), (ra 16, .inl (kI, 40760, .inl q_past))]) (wr := [(ra 5, .inl (kI, 24, .inl q_pace)), (ra 9, .inl (kI, 40, .inl q_to)), (ra 12, .inl (kI, 3, .inl q_status)), (ra 2, .inl (kI, 8, .inl q_told))]) hP hD hS hA [4, 6, 3] [0, 1, 2, 5] rfl rfl (by decide +kernel)
        refine va_callv (va_runV (As := []) (rest := []) ⟨hx, hb, hml, hown, hts⟩ (s11_keep l dC dI kB kI kJ kZ kC kS H.size m0 ra (upd x0 0 0) q_now q_past ((fI_u hX (k := 0) ((iv_w ivk_0 (by decide) (by decide))))) (hq_now) (hq_past)) (cwV 0 hts gX11_twins_X11_keep rfl rfl rfl (by decide +kernel) ⟨Nat.le_of_ble_eq_true rfl, Nat.le_of_ble_eq_true rfl⟩) ⟨fun a U g mk q => by obtain ⟨q0, q1, qP, qE, qD⟩ := q; exact ⟨q0, q1, qP, kE_call qE, qD⟩, va_recv hK hP (ci := 11) (q0 := 4) rfl rfl, fun U hU hW => ⟨rfl, by rw [hU], by rw [hU]; exact hPc, kE_warm hW hE, hDc.weaken (fun _ _ _ _ => trivial)⟩⟩ rfl rfl hl.1 rfl (lv_room (Nat.le_of_ble_eq_true rfl)) dX11_twins_33 ⟨Nat.le_of_ble_eq_true rfl, Nat.le_of_ble_eq_true rfl⟩) hS (fun q _ h => hFc q h) hFc (fun u t H locs ht hvm w52 hB hz1 hk1 hS => ?_)
        obtain ⟨y53, f54, hq55, hq56, hq57, hq58, hq59, hq60, hP1, hD1⟩ := hB
        try dsimp only at w52
        obtain ⟨hPa, hDa⟩ := hJn (w1 := [(m0, .inr (11, oX11 ra y53)), (ra 11, .inl (kI, 1019, .inl q_now)), (ra 16, .inl (kI, 40760, .inl f54))]) hk1 ht hP1 hD1
        clear hP hD hPc hDc hFc hJn hP1 hD1 hk1
        have hP : va_P (dC, dI) vwCl [(ra 5, .inl (kI, 24, .inl q_pace)), (ra 9, .inl (kI, 40, .inl q_to)), (ra 12, .inl (kI, 3, .inl q_status)), (ra 2, .inl (kI, 8, .inl q_told)), (m0, .inr (11, oX11 ra y53)), (ra 11, .inl (kI, 1019, .inl q_now)), (ra 16, .inl (kI, 40760, .inl f54))] H := hPa
        have hD : va_D A [(ra 5, .inl (kI, 24, .inl q_pace)), (ra 9, .inl (kI, 40, .inl q_to)), (ra 12, .inl (kI, 3, .inl q_status)), (ra 2, .inl (kI, 8, .inl q_told)), (m0, .inr (11, oX11 ra y53)), (ra 11, .inl (kI, 1019, .inl q_now)), (ra 16, .inl (kI, 40760, .inl f54))] := hDa
        clear hPa hDa
        refine W.widen (k := 0) (n := 0) (Nat.le_of_ble_eq_true rfl) (Nat.le_of_ble_eq_true rfl) ?_
        refine lv_iconst (v := 1) hx hb dX11_twins_36 ic_1 ?_
        refine lv_istore_n (lv' := [(3, .int 1), (0, .ref m0), (1, .int p0), (2, .int p1)]) hx hb dX11_twins_37 rfl hl (Nat.le_of_ble_eq_true rfl) rfl (fun ls hl => ?_)
        refine lv_iconst (v := (-1)) hx hb dX11_twins_38 ic_m1 ?_
        refine lv_istore (lv' := [(4, .int (-1)), (3, .int 1), (0, .ref m0), (1, .int p0), (2, .int p1)]) hx hb dX11_twins_39 hl (Nat.le_of_ble_eq_true rfl) rfl (fun ls hl => ?_)
        refine lv_iconst (v := 0) hx hb dX11_twins_41 ic_0 ?_
        refine lv_istore (lv' := [(5, .int 0), (4, .int (-1)), (3, .int 1), (0, .ref m0), (1, .int p0), (2, .int p1)]) hx hb dX11_twins_42 hl (Nat.le_of_ble_eq_true rfl) rfl (fun ls hl => ?_)
        have hPD9 := cl_s (wc := [(m0, .inr (11, oX11 ra y53)), (ra 2, .inl (kI, 8, .inl q_told)), (ra 5, .inl (kI, 24, .inl q_pace)), (ra 9, .inl (kI, 40, .inl q_to)), (ra 11, .inl (kI, 1019, .inl q_now)), (ra 12, .inl (kI, 3, .inl q_status)), (ra 16, .inl (kI, 40760, .inl f54))]) hP hD [4, 3, 0, 1, 5, 2, 6] rfl (by decide +kernel)
        exact hJ44 _ y53 q_now f54 1 (-1) 0 _ _ _ (Nat.lt_succ_self _) (hq55) (hq_now) (hq56) (b43) (b49) ((iv_w ivk_1 (by decide) (by decide))) ((iv_w ivk_0 (by decide) (by decide))) ((show y53 1 = x0 1 from hq57)) ((show y53 10 = x0 10 from hq58)) ((show y53 11 = x0 11 from hq59)) ((show y53 14 = x0 14 from hq60)) (hPD9.1) (hPD9.2) hS (lv_sub hl [3, 4, 5, 2, 1, 0] rfl)
      · have hPD9 := cl_s (wc := [(m0, .inr (11, oX11 ra (upd x0 0 0))), (ra 2, .inl (kI, 8, .inl q_told)), (ra 5, .inl (kI, 24, .inl q_pace)), (ra 9, .inl (kI, 40, .inl q_to)), (ra 11, .inl (kI, 1019, .inl q_now)), (ra 12, .inl (kI, 3, .inl q_status)), (ra 16, .inl (kI, 40760, .inl q_past))]) hP hD [4, 5, 0, 1, 6, 2, 3] rfl (by decide +kernel)
        exact hJ26 (upd x0 0 0) _ _ _ ((fI_u hX (k := 0) ((iv_w ivk_0 (by decide) (by decide))))) (ivk_0) ((show x0 1 = x0 1 from rfl)) ((show x0 10 = x0 10 from rfl)) ((show x0 11 = x0 11 from rfl)) ((show x0 14 = x0 14 from rfl)) (hPD9.1) (hPD9.2) hS (lv_sub hl [0, 1, 2] rfl)
def rm_s11_loss : Room := { frames := 1, cells := 0, slots := 0, locals := 22 }
set_option maxHeartbeats 4000000 in
set_option maxRecDepth 100000 in
theorem s11_loss (l : Launch) (dC : Nat → ClassId) (dI : Nat → Nat → Nat) (kB kI kJ kZ kC kS : ClassId) (sz : Nat) (m0 : Nat) (ra : Nat → Nat) (x0 : Nat → Int32) (q_now : Nat → Int32) (q_status : Nat → Int32) (q_past : Nat → Int32) (p0 : Int32) (hX : fI lX11 hX11 x0) (hq_now : fI lNow hNow q_now) (hq_past : fI lPast hPast q_past) : Met l yX11_loss wsX11_loss rm_s11_loss (va_Pc [.ref m0, .int p0] (fun U => U.heap.size = sz ∧ va_P (dC, dI) vwCl [(m0, .inr (11, oX11 ra x0)), (ra 11, .inl (kI, 1019, .inl q_now)), (ra 12, .inl (kI, 3, .inl q_status)), (ra 16, .inl (kI, 40760, .inl q_past))] U.heap ∧ kE dC dI kB kI kJ kZ kC kS U ∧ va_D (fun _ => True) [(m0, .inr (11, oX11 ra x0)), (ra 11, .inl (kI, 1019, .inl q_now)), (ra 12, .inl (kI, 3, .inl q_status)), (ra 16, .inl (kI, 40760, .inl q_past))])) (va_Qi (fun (r : Int32) (_ : Unit) => True) (fun _ t => ∃ (x0' : Nat → Int32) (q_now' : Nat → Int32) (q_status' : Nat → Int32) (q_past' : Nat → Int32), fI lX11 hX11 x0' ∧ fI lNow hNow q_now' ∧ fI lPast hPast q_past' ∧ (x0' 1 = x0 1) ∧ (x0' 10 = x0 10) ∧ (x0' 11 = x0 11) ∧ (x0' 14 = x0 14) ∧ va_P (dC, dI) vwCl [(m0, .inr (11, oX11 ra x0')), (ra 11, .inl (kI, 1019, .inl q_now')), (ra 12, .inl (kI, 3, .inl q_status')), (ra 16, .inl (kI, 40760, .inl q_past'))] t.heap ∧ va_D (va_A [(m0, .inr (11, oX11 ra x0)), (ra 11, .inl (kI, 1019, .inl q_now)), (ra 12, .inl (kI, 3, .inl q_status)), (ra 16, .inl (kI, 40760, .inl q_past))] sz) [(m0, .inr (11, oX11 ra x0')), (ra 11, .inl (kI, 1019, .inl q_now')), (ra 12, .inl (kI, 3, .inl q_status')), (ra 16, .inl (kI, 40760, .inl q_past'))]) (va_A [(m0, .inr (11, oX11 ra x0)), (ra 11, .inl (kI, 1019, .inl q_now)), (ra 12, .inl (kI, 3, .inl q_status)), (ra 16, .inl (kI, 40760, .inl q_past))] sz)) 0 0 (va_A [(m0, .inr (11, oX11 ra x0)), (ra 11, .inl (kI, 1019, .inl q_now)), (ra 12, .inl (kI, 3, .inl q_status)), (ra 16, .inl (kI, 40760, .inl q_past))] sz) := by
  refine Met.ofW (cc := cX11_loss) (maxL := 3) (ret := (some .int)) (by decide) rfl ?_
  intro p e s m args0 below meth c s₁ B hml hv
  obtain ⟨hargs, hsz, hP, hE, hD0⟩ := hv
  have hx := B.exec
  have hb := B.bytes
  have hr := B.returns
  have hts := atoms_spec (ws := wsX11_loss) B.pre
  have hown : s.vm.findClass RX11 = some m.cls := findClass_of_methodNamed B.named
  have hlocks := B.notSynchronized
  have hK := hE.1
  have hin11 : ∀ w ∈ wsX110, w ∈ wsX11_loss := fun _ h9 => List.mem_cons_of_mem _ (List.mem_append_right _ h9)
  have hw_0 := hts (.fieldLink RX11 142 "PathProberModel" "code" "I") (List.mem_of_getElem? (i := 1) rfl)
  have hw_1 := hts (.fieldLink RX11 60 "PathProberModel" "now" "[I") (List.mem_of_getElem? (i := 2) rfl)
  subst hsz
  have hD := hD0.self (sz := s.heap.size)
  generalize hAe : va_A [(m0, .inr (11, oX11 ra x0)), (ra 11, .inl (kI, 1019, .inl q_now)), (ra 12, .inl (kI, 3, .inl q_status)), (ra 16, .inl (kI, 40760, .inl q_past))] s.heap.size = A at hD ⊢
  have hA : ∀ q : Nat, s.heap.size ≤ q → A q := fun q h => by rw [← hAe]; exact Or.inr h
  have hS : va_S A s.heap s.heap [] := va_S.rf
  have hP : va_P (dC, dI) vwCl [(m0, .inr (11, oX11 ra x0)), (ra 11, .inl (kI, 1019, .inl q_now)), (ra 12, .inl (kI, 3, .inl q_status)), (ra 16, .inl (kI, 40760, .inl q_past))] s.heap := hP
  have hl := lv_entry ([.ref m0, .int p0]) (n := 3) (Nat.le_of_ble_eq_true rfl)
  have hla : entryFrame m args0 3 = entryFrame m ([.ref m0, .int p0] : List Value).toArray 3 := by rw [hargs]
  rw [hla, lg_entry_eq]
  generalize (lg_sl ([.ref m0, .int p0]) ++ List.replicate (3 - (lg_sl ([.ref m0, .int p0])).length) Slot.unset).toArray = ls at hl ⊢
  have hl : lv_has ls 3 [(0, .ref m0), (1, .int p0)] := hl
  refine lv_aload_n hx hb dX11_loss_0 rfl (lv_at hl 0 rfl) ?_
  refine lv_iconst (v := 0) hx hb dX11_loss_1 ic_0 ?_
  refine va_put (D := (dC, dI)) (ci := 11) (v := .int 0) (ty := .int) (C := RX11) (T := TX11) (N := 61) hx hb hts hin11 tyX11 tyX11_ok nmX11 hown hK hP hD hS 0 rfl rfl 2 (by decide) hw_0 (fun _ h9 => h9) rfl (by decide +kernel) rfl rfl (Nat.le_of_ble_eq_true rfl) dX11_loss_2 (fun H locs hPa hDa hS => ?_)
  clear hP hD
  have hP : va_P (dC, dI) vwCl [(m0, .inr (11, oX11 ra (upd x0 0 0))), (ra 11, .inl (kI, 1019, .inl q_now)), (ra 12, .inl (kI, 3, .inl q_status)), (ra 16, .inl (kI, 40760, .inl q_past))] H := hPa
  have hD : va_D A [(m0, .inr (11, oX11 ra (upd x0 0 0))), (ra 11, .inl (kI, 1019, .inl q_now)), (ra 12, .inl (kI, 3, .inl q_status)), (ra 16, .inl (kI, 40760, .inl q_past))] := hDa
  clear hPa hDa
  refine lv_iload_n hx hb dX11_loss_5 rfl (lv_at hl 1 rfl) ?_
  refine lv_iconst (v := 1) hx hb dX11_loss_6 ic_1 ?_
  refine lv_bipush (v := 50) hx hb dX11_loss_7 bp_50 ?_
  obtain ⟨hPc, hDc, hFc, hJn⟩ := cl_a (wc := []) (wr := [(m0, .inr (11, oX11 ra (upd x0 0 0))), (ra 11, .inl (kI, 1019, .inl q_now)), (ra 12, .inl (kI, 3, .inl q_status)), (ra 16, .inl (kI, 40760, .inl q_past))]) hP hD hS hA [] [0, 1, 2, 3] rfl rfl (by decide +kernel)
  refine va_calli (va_runS (As := [.int p0, .int 1, .int 50]) (rest := []) ⟨hx, hb, hml, hown, hts⟩ (s11_isIn l dC dI kB kI kJ kZ kC kS H.size p0 1 50) (va_cwS 3 hts gX11_loss_X11_isIn rfl rfl rfl (by decide +kernel) ⟨Nat.le_of_ble_eq_true rfl, Nat.le_of_ble_eq_true rfl⟩) ⟨fun a U g mk q => by obtain ⟨q0, q1, qP, qE, qD⟩ := q; exact ⟨q0, q1, qP, kE_call qE, qD⟩, fun U hU hW => ⟨rfl, by rw [hU], by rw [hU]; exact hPc, kE_warm hW hE, hDc.weaken (fun _ _ _ _ => trivial)⟩⟩ rfl rfl hl.1 rfl (lv_room (Nat.le_of_ble_eq_true rfl)) dX11_loss_9 ⟨Nat.le_of_ble_eq_true rfl, Nat.le_of_ble_eq_true rfl⟩) hS (fun q _ h => hFc q h) hFc (fun r1 u t H locs ht hvm w2 hB hz1 hk1 hS => ?_)
  obtain ⟨hP1, hD1⟩ := hB
  try dsimp only at w2
  obtain ⟨hPa, hDa⟩ := hJn (w1 := []) hk1 ht hP1 hD1
  clear hP hD hPc hDc hFc hJn hP1 hD1 hk1
  have hP : va_P (dC, dI) vwCl [(m0, .inr (11, oX11 ra (upd x0 0 0))), (ra 11, .inl (kI, 1019, .inl q_now)), (ra 12, .inl (kI, 3, .inl q_status)), (ra 16, .inl (kI, 40760, .inl q_past))] H := hPa
  have hD : va_D A [(m0, .inr (11, oX11 ra (upd x0 0 0))), (ra 11, .inl (kI, 1019, .inl q_now)), (ra 12, .inl (kI, 3, .inl q_status)), (ra 16, .inl (kI, 40760, .inl q_past))] := hDa
  clear hPa hDa
  refine W.widen (k := 0) (n := 0) (Nat.le_of_ble_eq_true rfl) (Nat.le_of_ble_eq_true rfl) ?_
  refine lv_if_ne (tgt := 21) hx hb dX11_loss_12 rfl (fun c3 => ?_) (fun c3 => ?_)
  · have b4 : iv 1 1 r1 := iv_neLo c3 w2.1 ivk_0 (by decide) (by decide)
    have hr5 := (w2.2).resolve_left (iv_ne b4 ivk_0 (by decide))
    have b6 : iv 1 50 p0 := iv_cap (in_iv hr5 ivk_1 ivk_50) (iv_t p0) (by decide) (by decide)
    refine lv_aload_n hx hb dX11_loss_21 rfl (lv_at hl 0 rfl) ?_
    obtain ⟨hPc, hDc, hFc, hJn⟩ := cl_a (wc := [(m0, .inr (11, oX11 ra (upd x0 0 0))), (ra 11, .inl (kI, 1019, .inl q_now)), (ra 16, .inl (kI, 40760, .inl q_past))]) (wr := [(ra 12, .inl (kI, 3, .inl q_status))]) hP hD hS hA [0, 1, 3] [2] rfl rfl (by decide +kernel)
    refine va_callv (va_runV (As := []) (rest := []) ⟨hx, hb, hml, hown, hts⟩ (s11_keep l dC dI kB kI kJ kZ kC kS H.size m0 ra (upd x0 0 0) q_now q_past ((fI_u hX (k := 0) ((iv_w ivk_0 (by decide) (by decide))))) (hq_now) (hq_past)) (cwV 0 hts gX11_loss_X11_keep rfl rfl rfl (by decide +kernel) ⟨Nat.le_of_ble_eq_true rfl, Nat.le_of_ble_eq_true rfl⟩) ⟨fun a U g mk q => by obtain ⟨q0, q1, qP, qE, qD⟩ := q; exact ⟨q0, q1, qP, kE_call qE, qD⟩, va_recv hK hP (ci := 11) (q0 := 0) rfl rfl, fun U hU hW => ⟨rfl, by rw [hU], by rw [hU]; exact hPc, kE_warm hW hE, hDc.weaken (fun _ _ _ _ => trivial)⟩⟩ rfl rfl hl.1 rfl (lv_room (Nat.le_of_ble_eq_true rfl)) dX11_loss_22 ⟨Nat.le_of_ble_eq_true rfl, Nat.le_of_ble_eq_true rfl⟩) hS (fun q _ h => hFc q h) hFc (fun u t H locs ht hvm w8 hB hz1 hk1 hS => ?_)
    obtain ⟨y9, f10, hq11, hq12, hq13, hq14, hq15, hq16, hP1, hD1⟩ := hB
    try dsimp only at w8
    obtain ⟨hPa, hDa⟩ := hJn (w1 := [(m0, .inr (11, oX11 ra y9)), (ra 11, .inl (kI, 1019, .inl q_now)), (ra 16, .inl (kI, 40760, .inl f10))]) hk1 ht hP1 hD1
    clear hP hD hPc hDc hFc hJn hP1 hD1 hk1
    have hP : va_P (dC, dI) vwCl [(ra 12, .inl (kI, 3, .inl q_status)), (m0, .inr (11, oX11 ra y9)), (ra 11, .inl (kI, 1019, .inl q_now)), (ra 16, .inl (kI, 40760, .inl f10))] H := hPa
    have hD : va_D A [(ra 12, .inl (kI, 3, .inl q_status)), (m0, .inr (11, oX11 ra y9)), (ra 11, .inl (kI, 1019, .inl q_now)), (ra 16, .inl (kI, 40760, .inl f10))] := hDa
    clear hPa hDa
    refine W.widen (k := 0) (n := 0) (Nat.le_of_ble_eq_true rfl) (Nat.le_of_ble_eq_true rfl) ?_
    refine lv_aload_n hx hb dX11_loss_25 rfl (lv_at hl 0 rfl) ?_
    refine va_get (D := (dC, dI)) (ci := 11) (v := .ref (ra 11)) (C := RX11) (T := TX11) (N := 61) hx hb hts hin11 hown hK hP 1 rfl rfl 12 (Nat.le_of_ble_eq_true rfl) hw_1 (fun _ h9 => h9) rfl dX11_loss_26 ?_
    refine lv_bipush (v := 54) hx hb dX11_loss_29 bp_54 ?_
    refine va_iald hx hb hK hP 2 1 rfl rfl (vp_in_nI (n := 54) (by decide) (by decide)) dX11_loss_31 ?_
    refine W.eq (g2 := F0 m 32 ls [.int (q_now 54)]) rfl ?_
    refine lv_istore_n (lv' := [(2, .int (q_now 54)), (0, .ref m0), (1, .int p0)]) hx hb dX11_loss_32 rfl hl (Nat.le_of_ble_eq_true rfl) rfl (fun ls hl => ?_)
    refine lv_aload_n hx hb dX11_loss_33 rfl (lv_at hl 1 rfl) ?_
    refine va_get (D := (dC, dI)) (ci := 11) (v := .ref (ra 11)) (C := RX11) (T := TX11) (N := 61) hx hb hts hin11 hown hK hP 1 rfl rfl 12 (Nat.le_of_ble_eq_true rfl) hw_1 (fun _ h9 => h9) rfl dX11_loss_34 ?_
    refine lv_bipush (v := 54) hx hb dX11_loss_37 bp_54 ?_
    refine lv_iload_n hx hb dX11_loss_39 rfl (lv_at hl 2 rfl) ?_
    refine va_iast hx hb hK hP hD hS 2 1 rfl rfl (vp_in_nI (n := 54) (by decide) (by decide)) dX11_loss_40 (fun H locs hPa hDa hS => ?_)
    clear hP hD
    have hP : va_P (dC, dI) vwCl [(ra 12, .inl (kI, 3, .inl q_status)), (m0, .inr (11, oX11 ra y9)), (ra 11, .inl (kI, 1019, .inl (upd q_now 54 p0))), (ra 16, .inl (kI, 40760, .inl f10))] H := hPa
    have hD : va_D A [(ra 12, .inl (kI, 3, .inl q_status)), (m0, .inr (11, oX11 ra y9)), (ra 11, .inl (kI, 1019, .inl (upd q_now 54 p0))), (ra 16, .inl (kI, 40760, .inl f10))] := hDa
    clear hPa hDa
    have hf18 : fI lNow hNow (upd q_now 54 p0) := fI_u hq_now (k := 54) ((iv_w b6 (by decide) (by decide)))
    generalize (upd q_now 54 p0) = f17 at hP hD hf18
    refine lv_iload_n hx hb dX11_loss_41 rfl (lv_at hl 0 rfl) ?_
    have hPD9 := cl_s (wc := [(m0, .inr (11, oX11 ra y9)), (ra 11, .inl (kI, 1019, .inl f17)), (ra 12, .inl (kI, 3, .inl q_status)), (ra 16, .inl (kI, 40760, .inl f10))]) hP hD [1, 2, 0, 3] rfl (by decide +kernel)
    have hP9 := hPD9.1
    have hD9 := hPD9.2
    exact W.iret (v := q_now 54) hx hb hr (fun t ht hW => ⟨⟨q_now 54, (), rfl, trivial, y9, f17, q_status, f10, hq11, hf18, hq12, (show y9 1 = x0 1 from hq13), (show y9 10 = x0 10 from hq14), (show y9 11 = x0 11 from hq15), (show y9 14 = x0 14 from hq16), by rw [ht]; exact hP9, hD9⟩, hS.F ht⟩) hS.2.2 dX11_loss_42
  · have b19 : iv 0 0 r1 := iv_eqL c3 ivk_0
    refine lv_aload_n hx hb dX11_loss_15 rfl (lv_at hl 0 rfl) ?_
    refine lv_iconst (v := 1) hx hb dX11_loss_16 ic_1 ?_
    obtain ⟨hPc, hDc, hFc, hJn⟩ := cl_a (wc := [(m0, .inr (11, oX11 ra (upd x0 0 0))), (ra 12, .inl (kI, 3, .inl q_status))]) (wr := [(ra 11, .inl (kI, 1019, .inl q_now)), (ra 16, .inl (kI, 40760, .inl q_past))]) hP hD hS hA [0, 2] [1, 3] rfl rfl (by decide +kernel)
    refine va_calli (va_runV (As := [.int 1]) (rest := []) ⟨hx, hb, hml, hown, hts⟩ (s11_refuse l dC dI kB kI kJ kZ kC kS H.size m0 ra (upd x0 0 0) q_status 1 ((fI_u hX (k := 0) ((iv_w ivk_0 (by decide) (by decide))))) ((iv_w ivk_1 (by decide) (by decide)))) (cwV 1 hts gX11_loss_X11_refuse rfl rfl rfl (by decide +kernel) ⟨Nat.le_of_ble_eq_true rfl, Nat.le_of_ble_eq_true rfl⟩) ⟨fun a U g mk q => by obtain ⟨q0, q1, qP, qE, qD⟩ := q; exact ⟨q0, q1, qP, kE_call qE, qD⟩, va_recv hK hP (ci := 11) (q0 := 0) rfl rfl, fun U hU hW => ⟨rfl, by rw [hU], by rw [hU]; exact hPc, kE_warm hW hE, hDc.weaken (fun _ _ _ _ => trivial)⟩⟩ rfl rfl hl.1 rfl (lv_room (Nat.le_of_ble_eq_true rfl)) dX11_loss_17 ⟨Nat.le_of_ble_eq_true rfl, Nat.le_of_ble_eq_true rfl⟩) hS (fun q _ h => hFc q h) hFc (fun r20 u t H locs ht hvm w21 hB hz1 hk1 hS => ?_)
    obtain ⟨f22, hP1, hD1⟩ := hB
    try dsimp only at w21
    obtain ⟨hPa, hDa⟩ := hJn (w1 := [(m0, .inr (11, oX11 ra (upd x0 0 0))), (ra 12, .inl (kI, 3, .inl f22))]) hk1 ht hP1 hD1
    clear hP hD hPc hDc hFc hJn hP1 hD1 hk1
    have hP : va_P (dC, dI) vwCl [(ra 11, .inl (kI, 1019, .inl q_now)), (ra 16, .inl (kI, 40760, .inl q_past)), (m0, .inr (11, oX11 ra (upd x0 0 0))), (ra 12, .inl (kI, 3, .inl f22))] H := hPa
    have hD : va_D A [(ra 11, .inl (kI, 1019, .inl q_now)), (ra 16, .inl (kI, 40760, .inl q_past)), (m0, .inr (11, oX11 ra (upd x0 0 0))), (ra 12, .inl (kI, 3, .inl f22))] := hDa
    clear hPa hDa
    refine W.widen (k := 0) (n := 0) (Nat.le_of_ble_eq_true rfl) (Nat.le_of_ble_eq_true rfl) ?_
    obtain rfl : r20 = (-1) := iv_one w21 (by decide)
    have hPD9 := cl_s (wc := [(m0, .inr (11, oX11 ra (upd x0 0 0))), (ra 11, .inl (kI, 1019, .inl q_now)), (ra 12, .inl (kI, 3, .inl f22)), (ra 16, .inl (kI, 40760, .inl q_past))]) hP hD [2, 0, 3, 1] rfl (by decide +kernel)
    have hP9 := hPD9.1
    have hD9 := hPD9.2
    exact W.iret (v := (-1)) hx hb hr (fun t ht hW => ⟨⟨(-1), (), rfl, trivial, upd x0 0 0, q_now, f22, q_past, (fI_u hX (k := 0) ((iv_w ivk_0 (by decide) (by decide)))), hq_now, hq_past, (show x0 1 = x0 1 from rfl), (show x0 10 = x0 10 from rfl), (show x0 11 = x0 11 from rfl), (show x0 14 = x0 14 from rfl), by rw [ht]; exact hP9, hD9⟩, hS.F ht⟩) hS.2.2 dX11_loss_20
def rm_s11_count : Room := { frames := 4, cells := 0, slots := 0, locals := 92 }
set_option maxHeartbeats 4000000 in
set_option maxRecDepth 100000 in
theorem s11_count (l : Launch) (dC : Nat → ClassId) (dI : Nat → Nat → Nat) (kB kI kJ kZ kC kS : ClassId) (sz : Nat) (m0 : Nat) (ra : Nat → Nat) (x0 : Nat → Int32) (q_told : Nat → Int32) (q_now : Nat → Int32) (q_status : Nat → Int32) (q_met : Nat → Int64) (p0 : Int32) (hX : fI lX11 hX11 x0) (hq_told : fI lTold hTold q_told) (hq_now : fI lNow hNow q_now) : Met l yX11_count wsX11_count rm_s11_count (va_Pc [.ref m0, .int p0] (fun U => U.heap.size = sz ∧ va_P (dC, dI) vwCl [(m0, .inr (11, oX11 ra x0)), (ra 2, .inl (kI, 8, .inl q_told)), (ra 11, .inl (kI, 1019, .inl q_now)), (ra 12, .inl (kI, 3, .inl q_status)), (ra 15, .inl (kJ, 24, .inr (.inl q_met)))] U.heap ∧ kE dC dI kB kI kJ kZ kC kS U ∧ va_D (fun _ => True) [(m0, .inr (11, oX11 ra x0)), (ra 2, .inl (kI, 8, .inl q_told)), (ra 11, .inl (kI, 1019, .inl q_now)), (ra 12, .inl (kI, 3, .inl q_status)), (ra 15, .inl (kJ, 24, .inr (.inl q_met)))])) (va_Qi (fun (r : Int32) (_ : Unit) => True) (fun _ t => ∃ (x0' : Nat → Int32) (q_met' : Nat → Int64), fI lX11 hX11 x0' ∧ (x0' 1 = x0 1) ∧ (x0' 10 = x0 10) ∧ (x0' 11 = x0 11) ∧ (x0' 14 = x0 14) ∧ va_P (dC, dI) vwCl [(m0, .inr (11, oX11 ra x0')), (ra 2, .inl (kI, 8, .inl q_told)), (ra 11, .inl (kI, 1019, .inl q_now)), (ra 12, .inl (kI, 3, .inl q_status)), (ra 15, .inl (kJ, 24, .inr (.inl q_met')))] t.heap ∧ va_D (va_A [(m0, .inr (11, oX11 ra x0)), (ra 2, .inl (kI, 8, .inl q_told)), (ra 11, .inl (kI, 1019, .inl q_now)), (ra 12, .inl (kI, 3, .inl q_status)), (ra 15, .inl (kJ, 24, .inr (.inl q_met)))] sz) [(m0, .inr (11, oX11 ra x0')), (ra 2, .inl (kI, 8, .inl q_told)), (ra 11, .inl (kI, 1019, .inl q_now)), (ra 12, .inl (kI, 3, .inl q_status)), (ra 15, .inl (kJ, 24, .inr (.inl q_met')))]) (va_A [(m0, .inr (11, oX11 ra x0)), (ra 2, .inl (kI, 8, .inl q_told)), (ra 11, .inl (kI, 1019, .inl q_now)), (ra 12, .inl (kI, 3, .inl q_status)), (ra 15, .inl (kJ, 24, .inr (.inl q_met)))] sz)) 0 0 (va_A [(m0, .inr (11, oX11 ra x0)), (ra 2, .inl (kI, 8, .inl q_told)), (ra 11, .inl (kI, 1019, .inl q_now)), (ra 12, .inl (kI, 3, .inl q_status)), (ra 15, .inl (kJ, 24, .inr (.inl q_met)))] sz) := by
  refine Met.ofW (cc := cX11_count) (maxL := 2) (ret := (some .int)) (by decide) rfl ?_
  intro p e s m args0 below meth c s₁ B hml hv
  obtain ⟨hargs, hsz, hP, hE, hD0⟩ := hv
  have hx := B.exec
  have hb := B.bytes
  have hr := B.returns
  have hts := atoms_spec (ws := wsX11_count) B.pre
  have hown : s.vm.findClass RX11 = some m.cls := findClass_of_methodNamed B.named
  have hlocks := B.notSynchronized
  have hK := hE.1
  have hin11 : ∀ w ∈ wsX110, w ∈ wsX11_count := fun _ h9 => List.mem_cons_of_mem _ (List.mem_append_right _ h9)
  have hw_0 := hts (.fieldLink RX11 142 "PathProberModel" "code" "I") (List.mem_of_getElem? (i := 1) rfl)
  have hw_1 := hts (.fieldLink RX11 34 "PathProberModel" "told" "[I") (List.mem_of_getElem? (i := 2) rfl)
  have hw_2 := hts (.fieldLink RX11 60 "PathProberModel" "now" "[I") (List.mem_of_getElem? (i := 3) rfl)
  have hw_3 := hts (.fieldLink RX11 250 "PathProberModel" "acts" "I") (List.mem_of_getElem? (i := 4) rfl)
  have hw_4 := hts (.fieldLink RX11 253 "PathProberModel" "noted" "I") (List.mem_of_getElem? (i := 5) rfl)
  have hw_5 := hts (.fieldLink RX11 145 "PathProberModel" "taped" "I") (List.mem_of_getElem? (i := 6) rfl)
  have hw_6 := hts (.fieldLink RX11 63 "PathProberModel" "status" "[I") (List.mem_of_getElem? (i := 7) rfl)
  subst hsz
  have hD := hD0.self (sz := s.heap.size)
  generalize hAe : va_A [(m0, .inr (11, oX11 ra x0)), (ra 2, .inl (kI, 8, .inl q_told)), (ra 11, .inl (kI, 1019, .inl q_now)), (ra 12, .inl (kI, 3, .inl q_status)), (ra 15, .inl (kJ, 24, .inr (.inl q_met)))] s.heap.size = A at hD ⊢
  have hA : ∀ q : Nat, s.heap.size ≤ q → A q := fun q h => by rw [← hAe]; exact Or.inr h
  have hS : va_S A s.heap s.heap [] := va_S.rf
  have hP : va_P (dC, dI) vwCl [(m0, .inr (11, oX11 ra x0)), (ra 2, .inl (kI, 8, .inl q_told)), (ra 11, .inl (kI, 1019, .inl q_now)), (ra 12, .inl (kI, 3, .inl q_status)), (ra 15, .inl (kJ, 24, .inr (.inl q_met)))] s.heap := hP
  have hl := lv_entry ([.ref m0, .int p0]) (n := 2) (Nat.le_of_ble_eq_true rfl)
  have hla : entryFrame m args0 2 = entryFrame m ([.ref m0, .int p0] : List Value).toArray 2 := by rw [hargs]
  rw [hla, lg_entry_eq]
  generalize (lg_sl ([.ref m0, .int p0]) ++ List.replicate (2 - (lg_sl ([.ref m0, .int p0])).length) Slot.unset).toArray = ls at hl ⊢
  have hl : lv_has ls 2 [(0, .ref m0), (1, .int p0)] := hl
  refine lv_aload_n hx hb dX11_count_0 rfl (lv_at hl 0 rfl) ?_
  refine lv_iconst (v := 0) hx hb dX11_count_1 ic_0 ?_
  refine va_put (D := (dC, dI)) (ci := 11) (v := .int 0) (ty := .int) (C := RX11) (T := TX11) (N := 61) hx hb hts hin11 tyX11 tyX11_ok nmX11 hown hK hP hD hS 0 rfl rfl 2 (by decide) hw_0 (fun _ h9 => h9) rfl (by decide +kernel) rfl rfl (Nat.le_of_ble_eq_true rfl) dX11_count_2 (fun H locs hPa hDa hS => ?_)
  clear hP hD
  have hP : va_P (dC, dI) vwCl [(m0, .inr (11, oX11 ra (upd x0 0 0))), (ra 2, .inl (kI, 8, .inl q_told)), (ra 11, .inl (kI, 1019, .inl q_now)), (ra 12, .inl (kI, 3, .inl q_status)), (ra 15, .inl (kJ, 24, .inr (.inl q_met)))] H := hPa
  have hD : va_D A [(m0, .inr (11, oX11 ra (upd x0 0 0))), (ra 2, .inl (kI, 8, .inl q_told)), (ra 11, .inl (kI, 1019, .inl q_now)), (ra 12, .inl (kI, 3, .inl q_status)), (ra 15, .inl (kJ, 24, .inr (.inl q_met)))] := hDa
  clear hPa hDa
  refine lv_iload_n hx hb dX11_count_5 rfl (lv_at hl 1 rfl) ?_
  by_cases c1 : p0 = 0
  · refine lv_tableIn (off := 98) (tgt := 104) hx hb dX11_count_6 (by rw [c1]; decide) (by rw [c1]; decide) (by rw [c1]; decide) (by decide) ?_
    have b2 : iv 0 0 p0 := iv_eqL c1 ivk_0
    refine lv_aload_n hx hb dX11_count_104 rfl (lv_at hl 0 rfl) ?_
    refine va_get (D := (dC, dI)) (ci := 11) (v := .ref (ra 2)) (C := RX11) (T := TX11) (N := 61) hx hb hts hin11 hown hK hP 0 rfl rfl 3 (Nat.le_of_ble_eq_true rfl) hw_1 (fun _ h9 => h9) rfl dX11_count_105 ?_
    refine lv_iload_n hx hb dX11_count_108 rfl (lv_at hl 1 rfl) ?_
    refine va_iald hx hb hK hP 1 1 rfl rfl (iv_in b2 (by decide) (by decide)) dX11_count_109 ?_
    refine iv_top (a := (-1)) (b := 50) (told_any hq_told _) (fun z3 b4 => ?_)
    have hP9 := hP
    have hD9 := hD
    exact W.iret (v := z3) hx hb hr (fun t ht hW => ⟨⟨z3, (), rfl, trivial, upd x0 0 0, q_met, (fI_u hX (k := 0) ((iv_w ivk_0 (by decide) (by decide)))), (show x0 1 = x0 1 from rfl), (show x0 10 = x0 10 from rfl), (show x0 11 = x0 11 from rfl), (show x0 14 = x0 14 from rfl), by rw [ht]; exact hP9, hD9⟩, hS.F ht⟩) hS.2.2 dX11_count_110
  by_cases c5 : p0 = 1
  · refine lv_tableIn (off := 98) (tgt := 104) hx hb dX11_count_6 (by rw [c5]; decide) (by rw [c5]; decide) (by rw [c5]; decide) (by decide) ?_
    have b6 : iv 1 1 p0 := iv_eqL c5 ivk_1
    refine lv_aload_n hx hb dX11_count_104 rfl (lv_at hl 0 rfl) ?_
    refine va_get (D := (dC, dI)) (ci := 11) (v := .ref (ra 2)) (C := RX11) (T := TX11) (N := 61) hx hb hts hin11 hown hK hP 0 rfl rfl 3 (Nat.le_of_ble_eq_true rfl) hw_1 (fun _ h9 => h9) rfl dX11_count_105 ?_
    refine lv_iload_n hx hb dX11_count_108 rfl (lv_at hl 1 rfl) ?_
    refine va_iald hx hb hK hP 1 1 rfl rfl (iv_in b6 (by decide) (by decide)) dX11_count_109 ?_
    refine iv_top (a := (-1)) (b := 50) (told_any hq_told _) (fun z7 b8 => ?_)
    have hP9 := hP
    have hD9 := hD
    exact W.iret (v := z7) hx hb hr (fun t ht hW => ⟨⟨z7, (), rfl, trivial, upd x0 0 0, q_met, (fI_u hX (k := 0) ((iv_w ivk_0 (by decide) (by decide)))), (show x0 1 = x0 1 from rfl), (show x0 10 = x0 10 from rfl), (show x0 11 = x0 11 from rfl), (show x0 14 = x0 14 from rfl), by rw [ht]; exact hP9, hD9⟩, hS.F ht⟩) hS.2.2 dX11_count_110
  by_cases c9 : p0 = 2
  · refine lv_tableIn (off := 98) (tgt := 104) hx hb dX11_count_6 (by rw [c9]; decide) (by rw [c9]; decide) (by rw [c9]; decide) (by decide) ?_
    have b10 : iv 2 2 p0 := iv_eqL c9 ivk_2
    refine lv_aload_n hx hb dX11_count_104 rfl (lv_at hl 0 rfl) ?_
    refine va_get (D := (dC, dI)) (ci := 11) (v := .ref (ra 2)) (C := RX11) (T := TX11) (N := 61) hx hb hts hin11 hown hK hP 0 rfl rfl 3 (Nat.le_of_ble_eq_true rfl) hw_1 (fun _ h9 => h9) rfl dX11_count_105 ?_
    refine lv_iload_n hx hb dX11_count_108 rfl (lv_at hl 1 rfl) ?_
    refine va_iald hx hb hK hP 1 1 rfl rfl (iv_in b10 (by decide) (by decide)) dX11_count_109 ?_
    refine iv_top (a := (-1)) (b := 50) (told_any hq_told _) (fun z11 b12 => ?_)
    have hP9 := hP
    have hD9 := hD
    exact W.iret (v := z11) hx hb hr (fun t ht hW => ⟨⟨z11, (), rfl, trivial, upd x0 0 0, q_met, (fI_u hX (k := 0) ((iv_w ivk_0 (by decide) (by decide)))), (show x0 1 = x0 1 from rfl), (show x0 10 = x0 10 from rfl), (show x0 11 = x0 11 from rfl), (show x0 14 = x0 14 from rfl), by rw [ht]; exact hP9, hD9⟩, hS.F ht⟩) hS.2.2 dX11_count_110
  by_cases c13 : p0 = 3
  · refine lv_tableIn (off := 105) (tgt := 111) hx hb dX11_count_6 (by rw [c13]; decide) (by rw [c13]; decide) (by rw [c13]; decide) (by decide) ?_
    have b14 : iv 3 3 p0 := iv_eqL c13 ivk_3
    refine lv_aload_n hx hb dX11_count_111 rfl (lv_at hl 0 rfl) ?_
    refine va_get (D := (dC, dI)) (ci := 11) (v := .ref (ra 11)) (C := RX11) (T := TX11) (N := 61) hx hb hts hin11 hown hK hP 0 rfl rfl 12 (Nat.le_of_ble_eq_true rfl) hw_2 (fun _ h9 => h9) rfl dX11_count_112 ?_
    refine lv_bipush (v := 54) hx hb dX11_count_115 bp_54 ?_
    refine va_iald hx hb hK hP 2 1 rfl rfl (vp_in_nI (n := 54) (by decide) (by decide)) dX11_count_117 ?_
    refine W.eq (g2 := F0 m 118 ls [.int (q_now 54)]) rfl ?_
    have hP9 := hP
    have hD9 := hD
    exact W.iret (v := q_now 54) hx hb hr (fun t ht hW => ⟨⟨q_now 54, (), rfl, trivial, upd x0 0 0, q_met, (fI_u hX (k := 0) ((iv_w ivk_0 (by decide) (by decide)))), (show x0 1 = x0 1 from rfl), (show x0 10 = x0 10 from rfl), (show x0 11 = x0 11 from rfl), (show x0 14 = x0 14 from rfl), by rw [ht]; exact hP9, hD9⟩, hS.F ht⟩) hS.2.2 dX11_count_118
  by_cases c15 : p0 = 4
  · refine lv_tableIn (off := 113) (tgt := 119) hx hb dX11_count_6 (by rw [c15]; decide) (by rw [c15]; decide) (by rw [c15]; decide) (by decide) ?_
    have b16 : iv 4 4 p0 := iv_eqL c15 ivk_4
    refine lv_aload_n hx hb dX11_count_119 rfl (lv_at hl 0 rfl) ?_
    refine lv_iload_n hx hb dX11_count_120 rfl (lv_at hl 1 rfl) ?_
    refine lv_iconst (v := 3) hx hb dX11_count_121 ic_3 ?_
    refine lv_isub hx hb dX11_count_122 ?_
    refine iv_top (a := 1) (b := 1) (iv_sub b16 ivk_3 (by decide) (by decide) (by decide) (by decide)) (fun z17 b18 => ?_)
    obtain ⟨hPc, hDc, hFc, hJn⟩ := cl_a (wc := [(m0, .inr (11, oX11 ra (upd x0 0 0))), (ra 11, .inl (kI, 1019, .inl q_now)), (ra 15, .inl (kJ, 24, .inr (.inl q_met)))]) (wr := [(ra 2, .inl (kI, 8, .inl q_told)), (ra 12, .inl (kI, 3, .inl q_status))]) hP hD hS hA [0, 2, 4] [1, 3] rfl rfl (by decide +kernel)
    refine va_calli (va_runV (As := [.int z17]) (rest := []) ⟨hx, hb, hml, hown, hts⟩ (s11_enough l dC dI kB kI kJ kZ kC kS H.size m0 ra (upd x0 0 0) q_now q_met z17 ((fI_u hX (k := 0) ((iv_w ivk_0 (by decide) (by decide))))) (hq_now) ((iv_w b18 (by decide) (by decide)))) (cwV 1 hts gX11_count_X11_enough rfl rfl rfl (by decide +kernel) ⟨Nat.le_of_ble_eq_true rfl, Nat.le_of_ble_eq_true rfl⟩) ⟨fun a U g mk q => by obtain ⟨q0, q1, qP, qE, qD⟩ := q; exact ⟨q0, q1, qP, kE_call qE, qD⟩, va_recv hK hP (ci := 11) (q0 := 0) rfl rfl, fun U hU hW => ⟨rfl, by rw [hU], by rw [hU]; exact hPc, kE_warm hW hE, hDc.weaken (fun _ _ _ _ => trivial)⟩⟩ rfl rfl hl.1 rfl (lv_room (Nat.le_of_ble_eq_true rfl)) dX11_count_123 ⟨Nat.le_of_ble_eq_true rfl, Nat.le_of_ble_eq_true rfl⟩) hS (fun q _ h => hFc q h) hFc (fun r19 u t H locs ht hvm w20 hB hz1 hk1 hS => ?_)
    obtain ⟨f21, hP1, hD1⟩ := hB
    try dsimp only at w20
    obtain ⟨hPa, hDa⟩ := hJn (w1 := [(m0, .inr (11, oX11 ra (upd x0 0 0))), (ra 11, .inl (kI, 1019, .inl q_now)), (ra 15, .inl (kJ, 24, .inr (.inl f21)))]) hk1 ht hP1 hD1
    clear hP hD hPc hDc hFc hJn hP1 hD1 hk1
    have hP : va_P (dC, dI) vwCl [(ra 2, .inl (kI, 8, .inl q_told)), (ra 12, .inl (kI, 3, .inl q_status)), (m0, .inr (11, oX11 ra (upd x0 0 0))), (ra 11, .inl (kI, 1019, .inl q_now)), (ra 15, .inl (kJ, 24, .inr (.inl f21)))] H := hPa
    have hD : va_D A [(ra 2, .inl (kI, 8, .inl q_told)), (ra 12, .inl (kI, 3, .inl q_status)), (m0, .inr (11, oX11 ra (upd x0 0 0))), (ra 11, .inl (kI, 1019, .inl q_now)), (ra 15, .inl (kJ, 24, .inr (.inl f21)))] := hDa
    clear hPa hDa
    refine W.widen (k := 0) (n := 0) (Nat.le_of_ble_eq_true rfl) (Nat.le_of_ble_eq_true rfl) ?_
    have hPD9 := cl_s (wc := [(m0, .inr (11, oX11 ra (upd x0 0 0))), (ra 2, .inl (kI, 8, .inl q_told)), (ra 11, .inl (kI, 1019, .inl q_now)), (ra 12, .inl (kI, 3, .inl q_status)), (ra 15, .inl (kJ, 24, .inr (.inl f21)))]) hP hD [2, 0, 3, 1, 4] rfl (by decide +kernel)
    have hP9 := hPD9.1
    have hD9 := hPD9.2
    exact W.iret (v := r19) hx hb hr (fun t ht hW => ⟨⟨r19, (), rfl, trivial, upd x0 0 0, f21, (fI_u hX (k := 0) ((iv_w ivk_0 (by decide) (by decide)))), (show x0 1 = x0 1 from rfl), (show x0 10 = x0 10 from rfl), (show x0 11 = x0 11 from rfl), (show x0 14 = x0 14 from rfl), by rw [ht]; exact hP9, hD9⟩, hS.F ht⟩) hS.2.2 dX11_count_126
  by_cases c22 : p0 = 5
  · refine lv_tableIn (off := 113) (tgt := 119) hx hb dX11_count_6 (by rw [c22]; decide) (by rw [c22]; decide) (by rw [c22]; decide) (by decide) ?_
    have b23 : iv 5 5 p0 := iv_eqL c22 ivk_5
    refine lv_aload_n hx hb dX11_count_119 rfl (lv_at hl 0 rfl) ?_
    refine lv_iload_n hx hb dX11_count_120 rfl (lv_at hl 1 rfl) ?_
    refine lv_iconst (v := 3) hx hb dX11_count_121 ic_3 ?_
    refine lv_isub hx hb dX11_count_122 ?_
    refine iv_top (a := 2) (b := 2) (iv_sub b23 ivk_3 (by decide) (by decide) (by decide) (by decide)) (fun z24 b25 => ?_)
    obtain ⟨hPc, hDc, hFc, hJn⟩ := cl_a (wc := [(m0, .inr (11, oX11 ra (upd x0 0 0))), (ra 11, .inl (kI, 1019, .inl q_now)), (ra 15, .inl (kJ, 24, .inr (.inl q_met)))]) (wr := [(ra 2, .inl (kI, 8, .inl q_told)), (ra 12, .inl (kI, 3, .inl q_status))]) hP hD hS hA [0, 2, 4] [1, 3] rfl rfl (by decide +kernel)
    refine va_calli (va_runV (As := [.int z24]) (rest := []) ⟨hx, hb, hml, hown, hts⟩ (s11_enough l dC dI kB kI kJ kZ kC kS H.size m0 ra (upd x0 0 0) q_now q_met z24 ((fI_u hX (k := 0) ((iv_w ivk_0 (by decide) (by decide))))) (hq_now) ((iv_w b25 (by decide) (by decide)))) (cwV 1 hts gX11_count_X11_enough rfl rfl rfl (by decide +kernel) ⟨Nat.le_of_ble_eq_true rfl, Nat.le_of_ble_eq_true rfl⟩) ⟨fun a U g mk q => by obtain ⟨q0, q1, qP, qE, qD⟩ := q; exact ⟨q0, q1, qP, kE_call qE, qD⟩, va_recv hK hP (ci := 11) (q0 := 0) rfl rfl, fun U hU hW => ⟨rfl, by rw [hU], by rw [hU]; exact hPc, kE_warm hW hE, hDc.weaken (fun _ _ _ _ => trivial)⟩⟩ rfl rfl hl.1 rfl (lv_room (Nat.le_of_ble_eq_true rfl)) dX11_count_123 ⟨Nat.le_of_ble_eq_true rfl, Nat.le_of_ble_eq_true rfl⟩) hS (fun q _ h => hFc q h) hFc (fun r26 u t H locs ht hvm w27 hB hz1 hk1 hS => ?_)
    obtain ⟨f28, hP1, hD1⟩ := hB
    try dsimp only at w27
    obtain ⟨hPa, hDa⟩ := hJn (w1 := [(m0, .inr (11, oX11 ra (upd x0 0 0))), (ra 11, .inl (kI, 1019, .inl q_now)), (ra 15, .inl (kJ, 24, .inr (.inl f28)))]) hk1 ht hP1 hD1
    clear hP hD hPc hDc hFc hJn hP1 hD1 hk1
    have hP : va_P (dC, dI) vwCl [(ra 2, .inl (kI, 8, .inl q_told)), (ra 12, .inl (kI, 3, .inl q_status)), (m0, .inr (11, oX11 ra (upd x0 0 0))), (ra 11, .inl (kI, 1019, .inl q_now)), (ra 15, .inl (kJ, 24, .inr (.inl f28)))] H := hPa
    have hD : va_D A [(ra 2, .inl (kI, 8, .inl q_told)), (ra 12, .inl (kI, 3, .inl q_status)), (m0, .inr (11, oX11 ra (upd x0 0 0))), (ra 11, .inl (kI, 1019, .inl q_now)), (ra 15, .inl (kJ, 24, .inr (.inl f28)))] := hDa
    clear hPa hDa
    refine W.widen (k := 0) (n := 0) (Nat.le_of_ble_eq_true rfl) (Nat.le_of_ble_eq_true rfl) ?_
    have hPD9 := cl_s (wc := [(m0, .inr (11, oX11 ra (upd x0 0 0))), (ra 2, .inl (kI, 8, .inl q_told)), (ra 11, .inl (kI, 1019, .inl q_now)), (ra 12, .inl (kI, 3, .inl q_status)), (ra 15, .inl (kJ, 24, .inr (.inl f28)))]) hP hD [2, 0, 3, 1, 4] rfl (by decide +kernel)
    have hP9 := hPD9.1
    have hD9 := hPD9.2
    exact W.iret (v := r26) hx hb hr (fun t ht hW => ⟨⟨r26, (), rfl, trivial, upd x0 0 0, f28, (fI_u hX (k := 0) ((iv_w ivk_0 (by decide) (by decide)))), (show x0 1 = x0 1 from rfl), (show x0 10 = x0 10 from rfl), (show x0 11 = x0 11 from rfl), (show x0 14 = x0 14 from rfl), by rw [ht]; exact hP9, hD9⟩, hS.F ht⟩) hS.2.2 dX11_count_126
  by_cases c29 : p0 = 6
  · refine lv_tableIn (off := 113) (tgt := 119) hx hb dX11_count_6 (by rw [c29]; decide) (by rw [c29]; decide) (by rw [c29]; decide) (by decide) ?_
    have b30 : iv 6 6 p0 := iv_eqL c29 ivk_6
    refine lv_aload_n hx hb dX11_count_119 rfl (lv_at hl 0 rfl) ?_
    refine lv_iload_n hx hb dX11_count_120 rfl (lv_at hl 1 rfl) ?_
    refine lv_iconst (v := 3) hx hb dX11_count_121 ic_3 ?_
    refine lv_isub hx hb dX11_count_122 ?_
    refine iv_top (a := 3) (b := 3) (iv_sub b30 ivk_3 (by decide) (by decide) (by decide) (by decide)) (fun z31 b32 => ?_)
    obtain ⟨hPc, hDc, hFc, hJn⟩ := cl_a (wc := [(m0, .inr (11, oX11 ra (upd x0 0 0))), (ra 11, .inl (kI, 1019, .inl q_now)), (ra 15, .inl (kJ, 24, .inr (.inl q_met)))]) (wr := [(ra 2, .inl (kI, 8, .inl q_told)), (ra 12, .inl (kI, 3, .inl q_status))]) hP hD hS hA [0, 2, 4] [1, 3] rfl rfl (by decide +kernel)
    refine va_calli (va_runV (As := [.int z31]) (rest := []) ⟨hx, hb, hml, hown, hts⟩ (s11_enough l dC dI kB kI kJ kZ kC kS H.size m0 ra (upd x0 0 0) q_now q_met z31 ((fI_u hX (k := 0) ((iv_w ivk_0 (by decide) (by decide))))) (hq_now) ((iv_w b32 (by decide) (by decide)))) (cwV 1 hts gX11_count_X11_enough rfl rfl rfl (by decide +kernel) ⟨Nat.le_of_ble_eq_true rfl, Nat.le_of_ble_eq_true rfl⟩) ⟨fun a U g mk q => by obtain ⟨q0, q1, qP, qE, qD⟩ := q; exact ⟨q0, q1, qP, kE_call qE, qD⟩, va_recv hK hP (ci := 11) (q0 := 0) rfl rfl, fun U hU hW => ⟨rfl, by rw [hU], by rw [hU]; exact hPc, kE_warm hW hE, hDc.weaken (fun _ _ _ _ => trivial)⟩⟩ rfl rfl hl.1 rfl (lv_room (Nat.le_of_ble_eq_true rfl)) dX11_count_123 ⟨Nat.le_of_ble_eq_true rfl, Nat.le_of_ble_eq_true rfl⟩) hS (fun q _ h => hFc q h) hFc (fun r33 u t H locs ht hvm w34 hB hz1 hk1 hS => ?_)
    obtain ⟨f35, hP1, hD1⟩ := hB
    try dsimp only at w34
    obtain ⟨hPa, hDa⟩ := hJn (w1 := [(m0, .inr (11, oX11 ra (upd x0 0 0))), (ra 11, .inl (kI, 1019, .inl q_now)), (ra 15, .inl (kJ, 24, .inr (.inl f35)))]) hk1 ht hP1 hD1
    clear hP hD hPc hDc hFc hJn hP1 hD1 hk1
    have hP : va_P (dC, dI) vwCl [(ra 2, .inl (kI, 8, .inl q_told)), (ra 12, .inl (kI, 3, .inl q_status)), (m0, .inr (11, oX11 ra (upd x0 0 0))), (ra 11, .inl (kI, 1019, .inl q_now)), (ra 15, .inl (kJ, 24, .inr (.inl f35)))] H := hPa
    have hD : va_D A [(ra 2, .inl (kI, 8, .inl q_told)), (ra 12, .inl (kI, 3, .inl q_status)), (m0, .inr (11, oX11 ra (upd x0 0 0))), (ra 11, .inl (kI, 1019, .inl q_now)), (ra 15, .inl (kJ, 24, .inr (.inl f35)))] := hDa
    clear hPa hDa
    refine W.widen (k := 0) (n := 0) (Nat.le_of_ble_eq_true rfl) (Nat.le_of_ble_eq_true rfl) ?_
    have hPD9 := cl_s (wc := [(m0, .inr (11, oX11 ra (upd x0 0 0))), (ra 2, .inl (kI, 8, .inl q_told)), (ra 11, .inl (kI, 1019, .inl q_now)), (ra 12, .inl (kI, 3, .inl q_status)), (ra 15, .inl (kJ, 24, .inr (.inl f35)))]) hP hD [2, 0, 3, 1, 4] rfl (by decide +kernel)
    have hP9 := hPD9.1
    have hD9 := hPD9.2
    exact W.iret (v := r33) hx hb hr (fun t ht hW => ⟨⟨r33, (), rfl, trivial, upd x0 0 0, f35, (fI_u hX (k := 0) ((iv_w ivk_0 (by decide) (by decide)))), (show x0 1 = x0 1 from rfl), (show x0 10 = x0 10 from rfl), (show x0 11 = x0 11 from rfl), (show x0 14 = x0 14 from rfl), by rw [ht]; exact hP9, hD9⟩, hS.F ht⟩) hS.2.2 dX11_count_126
  by_cases c36 : p0 = 7
  · refine lv_tableIn (off := 113) (tgt := 119) hx hb dX11_count_6 (by rw [c36]; decide) (by rw [c36]; decide) (by rw [c36]; decide) (by decide) ?_
    have b37 : iv 7 7 p0 := iv_eqL c36 ivk_7
    refine lv_aload_n hx hb dX11_count_119 rfl (lv_at hl 0 rfl) ?_
    refine lv_iload_n hx hb dX11_count_120 rfl (lv_at hl 1 rfl) ?_
    refine lv_iconst (v := 3) hx hb dX11_count_121 ic_3 ?_
    refine lv_isub hx hb dX11_count_122 ?_
    refine iv_top (a := 4) (b := 4) (iv_sub b37 ivk_3 (by decide) (by decide) (by decide) (by decide)) (fun z38 b39 => ?_)
    obtain ⟨hPc, hDc, hFc, hJn⟩ := cl_a (wc := [(m0, .inr (11, oX11 ra (upd x0 0 0))), (ra 11, .inl (kI, 1019, .inl q_now)), (ra 15, .inl (kJ, 24, .inr (.inl q_met)))]) (wr := [(ra 2, .inl (kI, 8, .inl q_told)), (ra 12, .inl (kI, 3, .inl q_status))]) hP hD hS hA [0, 2, 4] [1, 3] rfl rfl (by decide +kernel)
    refine va_calli (va_runV (As := [.int z38]) (rest := []) ⟨hx, hb, hml, hown, hts⟩ (s11_enough l dC dI kB kI kJ kZ kC kS H.size m0 ra (upd x0 0 0) q_now q_met z38 ((fI_u hX (k := 0) ((iv_w ivk_0 (by decide) (by decide))))) (hq_now) ((iv_w b39 (by decide) (by decide)))) (cwV 1 hts gX11_count_X11_enough rfl rfl rfl (by decide +kernel) ⟨Nat.le_of_ble_eq_true rfl, Nat.le_of_ble_eq_true rfl⟩) ⟨fun a U g mk q => by obtain ⟨q0, q1, qP, qE, qD⟩ := q; exact ⟨q0, q1, qP, kE_call qE, qD⟩, va_recv hK hP (ci := 11) (q0 := 0) rfl rfl, fun U hU hW => ⟨rfl, by rw [hU], by rw [hU]; exact hPc, kE_warm hW hE, hDc.weaken (fun _ _ _ _ => trivial)⟩⟩ rfl rfl hl.1 rfl (lv_room (Nat.le_of_ble_eq_true rfl)) dX11_count_123 ⟨Nat.le_of_ble_eq_true rfl, Nat.le_of_ble_eq_true rfl⟩) hS (fun q _ h => hFc q h) hFc (fun r40 u t H locs ht hvm w41 hB hz1 hk1 hS => ?_)
    obtain ⟨f42, hP1, hD1⟩ := hB
    try dsimp only at w41
    obtain ⟨hPa, hDa⟩ := hJn (w1 := [(m0, .inr (11, oX11 ra (upd x0 0 0))), (ra 11, .inl (kI, 1019, .inl q_now)), (ra 15, .inl (kJ, 24, .inr (.inl f42)))]) hk1 ht hP1 hD1
    clear hP hD hPc hDc hFc hJn hP1 hD1 hk1
    have hP : va_P (dC, dI) vwCl [(ra 2, .inl (kI, 8, .inl q_told)), (ra 12, .inl (kI, 3, .inl q_status)), (m0, .inr (11, oX11 ra (upd x0 0 0))), (ra 11, .inl (kI, 1019, .inl q_now)), (ra 15, .inl (kJ, 24, .inr (.inl f42)))] H := hPa
    have hD : va_D A [(ra 2, .inl (kI, 8, .inl q_told)), (ra 12, .inl (kI, 3, .inl q_status)), (m0, .inr (11, oX11 ra (upd x0 0 0))), (ra 11, .inl (kI, 1019, .inl q_now)), (ra 15, .inl (kJ, 24, .inr (.inl f42)))] := hDa
    clear hPa hDa
    refine W.widen (k := 0) (n := 0) (Nat.le_of_ble_eq_true rfl) (Nat.le_of_ble_eq_true rfl) ?_
    have hPD9 := cl_s (wc := [(m0, .inr (11, oX11 ra (upd x0 0 0))), (ra 2, .inl (kI, 8, .inl q_told)), (ra 11, .inl (kI, 1019, .inl q_now)), (ra 12, .inl (kI, 3, .inl q_status)), (ra 15, .inl (kJ, 24, .inr (.inl f42)))]) hP hD [2, 0, 3, 1, 4] rfl (by decide +kernel)
    have hP9 := hPD9.1
    have hD9 := hPD9.2
    exact W.iret (v := r40) hx hb hr (fun t ht hW => ⟨⟨r40, (), rfl, trivial, upd x0 0 0, f42, (fI_u hX (k := 0) ((iv_w ivk_0 (by decide) (by decide)))), (show x0 1 = x0 1 from rfl), (show x0 10 = x0 10 from rfl), (show x0 11 = x0 11 from rfl), (show x0 14 = x0 14 from rfl), by rw [ht]; exact hP9, hD9⟩, hS.F ht⟩) hS.2.2 dX11_count_126
  by_cases c43 : p0 = 8
  · refine lv_tableIn (off := 121) (tgt := 127) hx hb dX11_count_6 (by rw [c43]; decide) (by rw [c43]; decide) (by rw [c43]; decide) (by decide) ?_
    have b44 : iv 8 8 p0 := iv_eqL c43 ivk_8
    refine lv_aload_n hx hb dX11_count_127 rfl (lv_at hl 0 rfl) ?_
    obtain ⟨hPc, hDc, hFc, hJn⟩ := cl_a (wc := [(m0, .inr (11, oX11 ra (upd x0 0 0))), (ra 2, .inl (kI, 8, .inl q_told)), (ra 11, .inl (kI, 1019, .inl q_now))]) (wr := [(ra 12, .inl (kI, 3, .inl q_status)), (ra 15, .inl (kJ, 24, .inr (.inl q_met)))]) hP hD hS hA [0, 1, 2] [3, 4] rfl rfl (by decide +kernel)
    refine va_calli (va_runV (As := []) (rest := []) ⟨hx, hb, hml, hown, hts⟩ (s11_allSeen l dC dI kB kI kJ kZ kC kS H.size m0 ra (upd x0 0 0) q_told q_now ((fI_u hX (k := 0) ((iv_w ivk_0 (by decide) (by decide))))) (hq_told) (hq_now)) (cwV 0 hts gX11_count_X11_allSeen rfl rfl rfl (by decide +kernel) ⟨Nat.le_of_ble_eq_true rfl, Nat.le_of_ble_eq_true rfl⟩) ⟨fun a U g mk q => by obtain ⟨q0, q1, qP, qE, qD⟩ := q; exact ⟨q0, q1, qP, kE_call qE, qD⟩, va_recv hK hP (ci := 11) (q0 := 0) rfl rfl, fun U hU hW => ⟨rfl, by rw [hU], by rw [hU]; exact hPc, kE_warm hW hE, hDc.weaken (fun _ _ _ _ => trivial)⟩⟩ rfl rfl hl.1 rfl (lv_room (Nat.le_of_ble_eq_true rfl)) dX11_count_128 ⟨Nat.le_of_ble_eq_true rfl, Nat.le_of_ble_eq_true rfl⟩) hS (fun q _ h => hFc q h) hFc (fun r45 u t H locs ht hvm w46 hB hz1 hk1 hS => ?_)
    obtain ⟨hP1, hD1⟩ := hB
    try dsimp only at w46
    obtain ⟨hPa, hDa⟩ := hJn (w1 := [(m0, .inr (11, oX11 ra (upd x0 0 0))), (ra 2, .inl (kI, 8, .inl q_told)), (ra 11, .inl (kI, 1019, .inl q_now))]) hk1 ht hP1 hD1
    clear hP hD hPc hDc hFc hJn hP1 hD1 hk1
    have hP : va_P (dC, dI) vwCl [(ra 12, .inl (kI, 3, .inl q_status)), (ra 15, .inl (kJ, 24, .inr (.inl q_met))), (m0, .inr (11, oX11 ra (upd x0 0 0))), (ra 2, .inl (kI, 8, .inl q_told)), (ra 11, .inl (kI, 1019, .inl q_now))] H := hPa
    have hD : va_D A [(ra 12, .inl (kI, 3, .inl q_status)), (ra 15, .inl (kJ, 24, .inr (.inl q_met))), (m0, .inr (11, oX11 ra (upd x0 0 0))), (ra 2, .inl (kI, 8, .inl q_told)), (ra 11, .inl (kI, 1019, .inl q_now))] := hDa
    clear hPa hDa
    refine W.widen (k := 0) (n := 0) (Nat.le_of_ble_eq_true rfl) (Nat.le_of_ble_eq_true rfl) ?_
    have hPD9 := cl_s (wc := [(m0, .inr (11, oX11 ra (upd x0 0 0))), (ra 2, .inl (kI, 8, .inl q_told)), (ra 11, .inl (kI, 1019, .inl q_now)), (ra 12, .inl (kI, 3, .inl q_status)), (ra 15, .inl (kJ, 24, .inr (.inl q_met)))]) hP hD [2, 3, 4, 0, 1] rfl (by decide +kernel)
    have hP9 := hPD9.1
    have hD9 := hPD9.2
    exact W.iret (v := r45) hx hb hr (fun t ht hW => ⟨⟨r45, (), rfl, trivial, upd x0 0 0, q_met, (fI_u hX (k := 0) ((iv_w ivk_0 (by decide) (by decide)))), (show x0 1 = x0 1 from rfl), (show x0 10 = x0 10 from rfl), (show x0 11 = x0 11 from rfl), (show x0 14 = x0 14 from rfl), by rw [ht]; exact hP9, hD9⟩, hS.F ht⟩) hS.2.2 dX11_count_131
  by_cases c47 : p0 = 9
  · refine lv_tableIn (off := 126) (tgt := 132) hx hb dX11_count_6 (by rw [c47]; decide) (by rw [c47]; decide) (by rw [c47]; decide) (by decide) ?_
    have b48 : iv 9 9 p0 := iv_eqL c47 ivk_9
    refine lv_aload_n hx hb dX11_count_132 rfl (lv_at hl 0 rfl) ?_
    obtain ⟨hPc, hDc, hFc, hJn⟩ := cl_a (wc := [(m0, .inr (11, oX11 ra (upd x0 0 0))), (ra 11, .inl (kI, 1019, .inl q_now))]) (wr := [(ra 2, .inl (kI, 8, .inl q_told)), (ra 12, .inl (kI, 3, .inl q_status)), (ra 15, .inl (kJ, 24, .inr (.inl q_met)))]) hP hD hS hA [0, 2] [1, 3, 4] rfl rfl (by decide +kernel)
    refine va_calli (va_runV (As := []) (rest := []) ⟨hx, hb, hml, hown, hts⟩ (s11_sentAll l dC dI kB kI kJ kZ kC kS H.size m0 ra (upd x0 0 0) q_now ((fI_u hX (k := 0) ((iv_w ivk_0 (by decide) (by decide))))) (hq_now)) (cwV 0 hts gX11_count_X11_sentAll rfl rfl rfl (by decide +kernel) ⟨Nat.le_of_ble_eq_true rfl, Nat.le_of_ble_eq_true rfl⟩) ⟨fun a U g mk q => by obtain ⟨q0, q1, qP, qE, qD⟩ := q; exact ⟨q0, q1, qP, kE_call qE, qD⟩, va_recv hK hP (ci := 11) (q0 := 0) rfl rfl, fun U hU hW => ⟨rfl, by rw [hU], by rw [hU]; exact hPc, kE_warm hW hE, hDc.weaken (fun _ _ _ _ => trivial)⟩⟩ rfl rfl hl.1 rfl (lv_room (Nat.le_of_ble_eq_true rfl)) dX11_count_133 ⟨Nat.le_of_ble_eq_true rfl, Nat.le_of_ble_eq_true rfl⟩) hS (fun q _ h => hFc q h) hFc (fun r49 u t H locs ht hvm w50 hB hz1 hk1 hS => ?_)
    obtain ⟨hP1, hD1⟩ := hB
    try dsimp only at w50
    obtain ⟨hPa, hDa⟩ := hJn (w1 := [(m0, .inr (11, oX11 ra (upd x0 0 0))), (ra 11, .inl (kI, 1019, .inl q_now))]) hk1 ht hP1 hD1
    clear hP hD hPc hDc hFc hJn hP1 hD1 hk1
    have hP : va_P (dC, dI) vwCl [(ra 2, .inl (kI, 8, .inl q_told)), (ra 12, .inl (kI, 3, .inl q_status)), (ra 15, .inl (kJ, 24, .inr (.inl q_met))), (m0, .inr (11, oX11 ra (upd x0 0 0))), (ra 11, .inl (kI, 1019, .inl q_now))] H := hPa
    have hD : va_D A [(ra 2, .inl (kI, 8, .inl q_told)), (ra 12, .inl (kI, 3, .inl q_status)), (ra 15, .inl (kJ, 24, .inr (.inl q_met))), (m0, .inr (11, oX11 ra (upd x0 0 0))), (ra 11, .inl (kI, 1019, .inl q_now))] := hDa
    clear hPa hDa
    refine W.widen (k := 0) (n := 0) (Nat.le_of_ble_eq_true rfl) (Nat.le_of_ble_eq_true rfl) ?_
    have hPD9 := cl_s (wc := [(m0, .inr (11, oX11 ra (upd x0 0 0))), (ra 2, .inl (kI, 8, .inl q_told)), (ra 11, .inl (kI, 1019, .inl q_now)), (ra 12, .inl (kI, 3, .inl q_status)), (ra 15, .inl (kJ, 24, .inr (.inl q_met)))]) hP hD [3, 0, 4, 1, 2] rfl (by decide +kernel)
    have hP9 := hPD9.1
    have hD9 := hPD9.2
    exact W.iret (v := r49) hx hb hr (fun t ht hW => ⟨⟨r49, (), rfl, trivial, upd x0 0 0, q_met, (fI_u hX (k := 0) ((iv_w ivk_0 (by decide) (by decide)))), (show x0 1 = x0 1 from rfl), (show x0 10 = x0 10 from rfl), (show x0 11 = x0 11 from rfl), (show x0 14 = x0 14 from rfl), by rw [ht]; exact hP9, hD9⟩, hS.F ht⟩) hS.2.2 dX11_count_136
  by_cases c51 : p0 = 10
  · refine lv_tableIn (off := 131) (tgt := 137) hx hb dX11_count_6 (by rw [c51]; decide) (by rw [c51]; decide) (by rw [c51]; decide) (by decide) ?_
    have b52 : iv 10 10 p0 := iv_eqL c51 ivk_10
    refine lv_aload_n hx hb dX11_count_137 rfl (lv_at hl 0 rfl) ?_
    refine va_get (D := (dC, dI)) (ci := 11) (v := .int (x0 17)) (C := RX11) (T := TX11) (N := 61) hx hb hts hin11 hown hK hP 0 rfl rfl 33 (Nat.le_of_ble_eq_true rfl) hw_3 (fun _ h9 => h9) rfl dX11_count_138 ?_
    have hP9 := hP
    have hD9 := hD
    exact W.iret (v := x0 17) hx hb hr (fun t ht hW => ⟨⟨x0 17, (), rfl, trivial, upd x0 0 0, q_met, (fI_u hX (k := 0) ((iv_w ivk_0 (by decide) (by decide)))), (show x0 1 = x0 1 from rfl), (show x0 10 = x0 10 from rfl), (show x0 11 = x0 11 from rfl), (show x0 14 = x0 14 from rfl), by rw [ht]; exact hP9, hD9⟩, hS.F ht⟩) hS.2.2 dX11_count_141
  by_cases c53 : p0 = 11
  · refine lv_tableIn (off := 136) (tgt := 142) hx hb dX11_count_6 (by rw [c53]; decide) (by rw [c53]; decide) (by rw [c53]; decide) (by decide) ?_
    have b54 : iv 11 11 p0 := iv_eqL c53 ivk_11
    refine lv_aload_n hx hb dX11_count_142 rfl (lv_at hl 0 rfl) ?_
    refine va_get (D := (dC, dI)) (ci := 11) (v := .int (x0 21)) (C := RX11) (T := TX11) (N := 61) hx hb hts hin11 hown hK hP 0 rfl rfl 43 (Nat.le_of_ble_eq_true rfl) hw_4 (fun _ h9 => h9) rfl dX11_count_143 ?_
    have hP9 := hP
    have hD9 := hD
    exact W.iret (v := x0 21) hx hb hr (fun t ht hW => ⟨⟨x0 21, (), rfl, trivial, upd x0 0 0, q_met, (fI_u hX (k := 0) ((iv_w ivk_0 (by decide) (by decide)))), (show x0 1 = x0 1 from rfl), (show x0 10 = x0 10 from rfl), (show x0 11 = x0 11 from rfl), (show x0 14 = x0 14 from rfl), by rw [ht]; exact hP9, hD9⟩, hS.F ht⟩) hS.2.2 dX11_count_146
  by_cases c55 : p0 = 12
  · refine lv_tableIn (off := 141) (tgt := 147) hx hb dX11_count_6 (by rw [c55]; decide) (by rw [c55]; decide) (by rw [c55]; decide) (by decide) ?_
    have b56 : iv 12 12 p0 := iv_eqL c55 ivk_12
    refine lv_aload_n hx hb dX11_count_147 rfl (lv_at hl 0 rfl) ?_
    refine va_get (D := (dC, dI)) (ci := 11) (v := .int (x0 1)) (C := RX11) (T := TX11) (N := 61) hx hb hts hin11 hown hK hP 0 rfl rfl 15 (Nat.le_of_ble_eq_true rfl) hw_5 (fun _ h9 => h9) rfl dX11_count_148 ?_
    have hP9 := hP
    have hD9 := hD
    exact W.iret (v := x0 1) hx hb hr (fun t ht hW => ⟨⟨x0 1, (), rfl, trivial, upd x0 0 0, q_met, (fI_u hX (k := 0) ((iv_w ivk_0 (by decide) (by decide)))), (show x0 1 = x0 1 from rfl), (show x0 10 = x0 10 from rfl), (show x0 11 = x0 11 from rfl), (show x0 14 = x0 14 from rfl), by rw [ht]; exact hP9, hD9⟩, hS.F ht⟩) hS.2.2 dX11_count_151
  by_cases c57 : p0 = 13
  · refine lv_tableIn (off := 146) (tgt := 152) hx hb dX11_count_6 (by rw [c57]; decide) (by rw [c57]; decide) (by rw [c57]; decide) (by decide) ?_
    have b58 : iv 13 13 p0 := iv_eqL c57 ivk_13
    refine lv_aload_n hx hb dX11_count_152 rfl (lv_at hl 0 rfl) ?_
    refine va_get (D := (dC, dI)) (ci := 11) (v := .ref (ra 12)) (C := RX11) (T := TX11) (N := 61) hx hb hts hin11 hown hK hP 0 rfl rfl 13 (Nat.le_of_ble_eq_true rfl) hw_6 (fun _ h9 => h9) rfl dX11_count_153 ?_
    refine lv_iload_n hx hb dX11_count_156 rfl (lv_at hl 1 rfl) ?_
    refine lv_bipush (v := 13) hx hb dX11_count_157 bp_13 ?_
    refine lv_isub hx hb dX11_count_159 ?_
    refine iv_top (a := 0) (b := 0) (iv_sub b58 ivk_13 (by decide) (by decide) (by decide) (by decide)) (fun z59 b60 => ?_)
    refine va_iald hx hb hK hP 3 1 rfl rfl (iv_in b60 (by decide) (by decide)) dX11_count_160 ?_
    refine lv_topi (fun z61 _ => ?_)
    have hP9 := hP
    have hD9 := hD
    exact W.iret (v := z61) hx hb hr (fun t ht hW => ⟨⟨z61, (), rfl, trivial, upd x0 0 0, q_met, (fI_u hX (k := 0) ((iv_w ivk_0 (by decide) (by decide)))), (show x0 1 = x0 1 from rfl), (show x0 10 = x0 10 from rfl), (show x0 11 = x0 11 from rfl), (show x0 14 = x0 14 from rfl), by rw [ht]; exact hP9, hD9⟩, hS.F ht⟩) hS.2.2 dX11_count_161
  by_cases c62 : p0 = 14
  · refine lv_tableIn (off := 146) (tgt := 152) hx hb dX11_count_6 (by rw [c62]; decide) (by rw [c62]; decide) (by rw [c62]; decide) (by decide) ?_
    have b63 : iv 14 14 p0 := iv_eqL c62 ivk_14
    refine lv_aload_n hx hb dX11_count_152 rfl (lv_at hl 0 rfl) ?_
    refine va_get (D := (dC, dI)) (ci := 11) (v := .ref (ra 12)) (C := RX11) (T := TX11) (N := 61) hx hb hts hin11 hown hK hP 0 rfl rfl 13 (Nat.le_of_ble_eq_true rfl) hw_6 (fun _ h9 => h9) rfl dX11_count_153 ?_
    refine lv_iload_n hx hb dX11_count_156 rfl (lv_at hl 1 rfl) ?_
    refine lv_bipush (v := 13) hx hb dX11_count_157 bp_13 ?_
    refine lv_isub hx hb dX11_count_159 ?_
    refine iv_top (a := 1) (b := 1) (iv_sub b63 ivk_13 (by decide) (by decide) (by decide) (by decide)) (fun z64 b65 => ?_)
    refine va_iald hx hb hK hP 3 1 rfl rfl (iv_in b65 (by decide) (by decide)) dX11_count_160 ?_
    refine lv_topi (fun z66 _ => ?_)
    have hP9 := hP
    have hD9 := hD
    exact W.iret (v := z66) hx hb hr (fun t ht hW => ⟨⟨z66, (), rfl, trivial, upd x0 0 0, q_met, (fI_u hX (k := 0) ((iv_w ivk_0 (by decide) (by decide)))), (show x0 1 = x0 1 from rfl), (show x0 10 = x0 10 from rfl), (show x0 11 = x0 11 from rfl), (show x0 14 = x0 14 from rfl), by rw [ht]; exact hP9, hD9⟩, hS.F ht⟩) hS.2.2 dX11_count_161
  by_cases c67 : p0 = 15
  · refine lv_tableIn (off := 146) (tgt := 152) hx hb dX11_count_6 (by rw [c67]; decide) (by rw [c67]; decide) (by rw [c67]; decide) (by decide) ?_
    have b68 : iv 15 15 p0 := iv_eqL c67 ivk_15
    refine lv_aload_n hx hb dX11_count_152 rfl (lv_at hl 0 rfl) ?_
    refine va_get (D := (dC, dI)) (ci := 11) (v := .ref (ra 12)) (C := RX11) (T := TX11) (N := 61) hx hb hts hin11 hown hK hP 0 rfl rfl 13 (Nat.le_of_ble_eq_true rfl) hw_6 (fun _ h9 => h9) rfl dX11_count_153 ?_
    refine lv_iload_n hx hb dX11_count_156 rfl (lv_at hl 1 rfl) ?_
    refine lv_bipush (v := 13) hx hb dX11_count_157 bp_13 ?_
    refine lv_isub hx hb dX11_count_159 ?_
    refine iv_top (a := 2) (b := 2) (iv_sub b68 ivk_13 (by decide) (by decide) (by decide) (by decide)) (fun z69 b70 => ?_)
    refine va_iald hx hb hK hP 3 1 rfl rfl (iv_in b70 (by decide) (by decide)) dX11_count_160 ?_
    refine lv_topi (fun z71 _ => ?_)
    have hP9 := hP
    have hD9 := hD
    exact W.iret (v := z71) hx hb hr (fun t ht hW => ⟨⟨z71, (), rfl, trivial, upd x0 0 0, q_met, (fI_u hX (k := 0) ((iv_w ivk_0 (by decide) (by decide)))), (show x0 1 = x0 1 from rfl), (show x0 10 = x0 10 from rfl), (show x0 11 = x0 11 from rfl), (show x0 14 = x0 14 from rfl), by rw [ht]; exact hP9, hD9⟩, hS.F ht⟩) hS.2.2 dX11_count_161
  by_cases c72 : p0 = 16
  · refine lv_tableIn (off := 156) (tgt := 162) hx hb dX11_count_6 (by rw [c72]; decide) (by rw [c72]; decide) (by rw [c72]; decide) (by decide) ?_
    have b73 : iv 16 16 p0 := iv_eqL c72 ivk_16
    refine lv_aload_n hx hb dX11_count_162 rfl (lv_at hl 0 rfl) ?_
    refine va_get (D := (dC, dI)) (ci := 11) (v := .ref (ra 11)) (C := RX11) (T := TX11) (N := 61) hx hb hts hin11 hown hK hP 0 rfl rfl 12 (Nat.le_of_ble_eq_true rfl) hw_2 (fun _ h9 => h9) rfl dX11_count_163 ?_
    refine lv_bipush (v := 55) hx hb dX11_count_166 bp_55 ?_
    refine va_iald hx hb hK hP 2 1 rfl rfl (vp_in_nI (n := 55) (by decide) (by decide)) dX11_count_168 ?_
    refine W.eq (g2 := F0 m 169 ls [.int (q_now 55)]) rfl ?_
    have hP9 := hP
    have hD9 := hD
    exact W.iret (v := q_now 55) hx hb hr (fun t ht hW => ⟨⟨q_now 55, (), rfl, trivial, upd x0 0 0, q_met, (fI_u hX (k := 0) ((iv_w ivk_0 (by decide) (by decide)))), (show x0 1 = x0 1 from rfl), (show x0 10 = x0 10 from rfl), (show x0 11 = x0 11 from rfl), (show x0 14 = x0 14 from rfl), by rw [ht]; exact hP9, hD9⟩, hS.F ht⟩) hS.2.2 dX11_count_169
  by_cases c74 : p0 = 17
  · refine lv_tableIn (off := 164) (tgt := 170) hx hb dX11_count_6 (by rw [c74]; decide) (by rw [c74]; decide) (by rw [c74]; decide) (by decide) ?_
    have b75 : iv 17 17 p0 := iv_eqL c74 ivk_17
    refine lv_iconst (v := 0) hx hb dX11_count_170 ic_0 ?_
    have hP9 := hP
    have hD9 := hD
    exact W.iret (v := 0) hx hb hr (fun t ht hW => ⟨⟨0, (), rfl, trivial, upd x0 0 0, q_met, (fI_u hX (k := 0) ((iv_w ivk_0 (by decide) (by decide)))), (show x0 1 = x0 1 from rfl), (show x0 10 = x0 10 from rfl), (show x0 11 = x0 11 from rfl), (show x0 14 = x0 14 from rfl), by rw [ht]; exact hP9, hD9⟩, hS.F ht⟩) hS.2.2 dX11_count_171
  by_cases c76 : p0 = 18
  · refine lv_tableIn (off := 166) (tgt := 172) hx hb dX11_count_6 (by rw [c76]; decide) (by rw [c76]; decide) (by rw [c76]; decide) (by decide) ?_
    have b77 : iv 18 18 p0 := iv_eqL c76 ivk_18
    refine lv_aload_n hx hb dX11_count_172 rfl (lv_at hl 0 rfl) ?_
    refine va_get (D := (dC, dI)) (ci := 11) (v := .ref (ra 11)) (C := RX11) (T := TX11) (N := 61) hx hb hts hin11 hown hK hP 0 rfl rfl 12 (Nat.le_of_ble_eq_true rfl) hw_2 (fun _ h9 => h9) rfl dX11_count_173 ?_
    refine lv_bipush (v := 56) hx hb dX11_count_176 bp_56 ?_
    refine va_iald hx hb hK hP 2 1 rfl rfl (vp_in_nI (n := 56) (by decide) (by decide)) dX11_count_178 ?_
    refine W.eq (g2 := F0 m 179 ls [.int (q_now 56)]) rfl ?_
    have hP9 := hP
    have hD9 := hD
    exact W.iret (v := q_now 56) hx hb hr (fun t ht hW => ⟨⟨q_now 56, (), rfl, trivial, upd x0 0 0, q_met, (fI_u hX (k := 0) ((iv_w ivk_0 (by decide) (by decide)))), (show x0 1 = x0 1 from rfl), (show x0 10 = x0 10 from rfl), (show x0 11 = x0 11 from rfl), (show x0 14 = x0 14 from rfl), by rw [ht]; exact hP9, hD9⟩, hS.F ht⟩) hS.2.2 dX11_count_179
  by_cases c78 : p0 = 19
  · refine lv_tableIn (off := 174) (tgt := 180) hx hb dX11_count_6 (by rw [c78]; decide) (by rw [c78]; decide) (by rw [c78]; decide) (by decide) ?_
    have b79 : iv 19 19 p0 := iv_eqL c78 ivk_19
    refine lv_aload_n hx hb dX11_count_180 rfl (lv_at hl 0 rfl) ?_
    refine va_get (D := (dC, dI)) (ci := 11) (v := .ref (ra 11)) (C := RX11) (T := TX11) (N := 61) hx hb hts hin11 hown hK hP 0 rfl rfl 12 (Nat.le_of_ble_eq_true rfl) hw_2 (fun _ h9 => h9) rfl dX11_count_181 ?_
    refine lv_bipush (v := 57) hx hb dX11_count_184 bp_57 ?_
    refine va_iald hx hb hK hP 2 1 rfl rfl (vp_in_nI (n := 57) (by decide) (by decide)) dX11_count_186 ?_
    refine W.eq (g2 := F0 m 187 ls [.int (q_now 57)]) rfl ?_
    have hP9 := hP
    have hD9 := hD
    exact W.iret (v := q_now 57) hx hb hr (fun t ht hW => ⟨⟨q_now 57, (), rfl, trivial, upd x0 0 0, q_met, (fI_u hX (k := 0) ((iv_w ivk_0 (by decide) (by decide)))), (show x0 1 = x0 1 from rfl), (show x0 10 = x0 10 from rfl), (show x0 11 = x0 11 from rfl), (show x0 14 = x0 14 from rfl), by rw [ht]; exact hP9, hD9⟩, hS.F ht⟩) hS.2.2 dX11_count_187
  by_cases c80 : p0 = 20
  · refine lv_tableIn (off := 182) (tgt := 188) hx hb dX11_count_6 (by rw [c80]; decide) (by rw [c80]; decide) (by rw [c80]; decide) (by decide) ?_
    have b81 : iv 20 20 p0 := iv_eqL c80 ivk_20
    refine lv_aload_n hx hb dX11_count_188 rfl (lv_at hl 0 rfl) ?_
    refine va_get (D := (dC, dI)) (ci := 11) (v := .ref (ra 11)) (C := RX11) (T := TX11) (N := 61) hx hb hts hin11 hown hK hP 0 rfl rfl 12 (Nat.le_of_ble_eq_true rfl) hw_2 (fun _ h9 => h9) rfl dX11_count_189 ?_
    refine lv_bipush (v := 58) hx hb dX11_count_192 bp_58 ?_
    refine va_iald hx hb hK hP 2 1 rfl rfl (vp_in_nI (n := 58) (by decide) (by decide)) dX11_count_194 ?_
    refine W.eq (g2 := F0 m 195 ls [.int (q_now 58)]) rfl ?_
    have hP9 := hP
    have hD9 := hD
    exact W.iret (v := q_now 58) hx hb hr (fun t ht hW => ⟨⟨q_now 58, (), rfl, trivial, upd x0 0 0, q_met, (fI_u hX (k := 0) ((iv_w ivk_0 (by decide) (by decide)))), (show x0 1 = x0 1 from rfl), (show x0 10 = x0 10 from rfl), (show x0 11 = x0 11 from rfl), (show x0 14 = x0 14 from rfl), by rw [ht]; exact hP9, hD9⟩, hS.F ht⟩) hS.2.2 dX11_count_195
  refine lv_tableOut (tgt := 196) hx hb dX11_count_6 (by have g0 : ¬ p0.toInt = 0 := fun w => c1 (Int32.toInt_inj.mp w); have g1 : ¬ p0.toInt = 1 := fun w => c5 (Int32.toInt_inj.mp w); have g2 : ¬ p0.toInt = 2 := fun w => c9 (Int32.toInt_inj.mp w); have g3 : ¬ p0.toInt = 3 := fun w => c13 (Int32.toInt_inj.mp w); have g4 : ¬ p0.toInt = 4 := fun w => c15 (Int32.toInt_inj.mp w); have g5 : ¬ p0.toInt = 5 := fun w => c22 (Int32.toInt_inj.mp w); have g6 : ¬ p0.toInt = 6 := fun w => c29 (Int32.toInt_inj.mp w); have g7 : ¬ p0.toInt = 7 := fun w => c36 (Int32.toInt_inj.mp w); have g8 : ¬ p0.toInt = 8 := fun w => c43 (Int32.toInt_inj.mp w); have g9 : ¬ p0.toInt = 9 := fun w => c47 (Int32.toInt_inj.mp w); have g10 : ¬ p0.toInt = 10 := fun w => c51 (Int32.toInt_inj.mp w); have g11 : ¬ p0.toInt = 11 := fun w => c53 (Int32.toInt_inj.mp w); have g12 : ¬ p0.toInt = 12 := fun w => c55 (Int32.toInt_inj.mp w); have g13 : ¬ p0.toInt = 13 := fun w => c57 (Int32.toInt_inj.mp w); have g14 : ¬ p0.toInt = 14 := fun w => c62 (Int32.toInt_inj.mp w); have g15 : ¬ p0.toInt = 15 := fun w => c67 (Int32.toInt_inj.mp w); have g16 : ¬ p0.toInt = 16 := fun w => c72 (Int32.toInt_inj.mp w); have g17 : ¬ p0.toInt = 17 := fun w => c74 (Int32.toInt_inj.mp w); have g18 : ¬ p0.toInt = 18 := fun w => c76 (Int32.toInt_inj.mp w); have g19 : ¬ p0.toInt = 19 := fun w => c78 (Int32.toInt_inj.mp w); have g20 : ¬ p0.toInt = 20 := fun w => c80 (Int32.toInt_inj.mp w); have gb := (iv_t p0); have gb1 := gb.1; have gb2 := gb.2; omega) (by decide) ?_
  refine lv_aload_n hx hb dX11_count_196 rfl (lv_at hl 0 rfl) ?_
  refine lv_iconst (v := 1) hx hb dX11_count_197 ic_1 ?_
  obtain ⟨hPc, hDc, hFc, hJn⟩ := cl_a (wc := [(m0, .inr (11, oX11 ra (upd x0 0 0)))]) (wr := [(ra 2, .inl (kI, 8, .inl q_told)), (ra 11, .inl (kI, 1019, .inl q_now)), (ra 12, .inl (kI, 3, .inl q_status)), (ra 15, .inl (kJ, 24, .inr (.inl q_met)))]) hP hD hS hA [0] [1, 2, 3, 4] rfl rfl (by decide +kernel)
  refine va_calli (va_runV (As := [.int 1]) (rest := []) ⟨hx, hb, hml, hown, hts⟩ (s11_fail l dC dI kB kI kJ kZ kC kS H.size m0 ra (upd x0 0 0) 1 ((fI_u hX (k := 0) ((iv_w ivk_0 (by decide) (by decide)))))) (cwV 1 hts gX11_count_X11_fail rfl rfl rfl (by decide +kernel) ⟨Nat.le_of_ble_eq_true rfl, Nat.le_of_ble_eq_true rfl⟩) ⟨fun a U g mk q => by obtain ⟨q0, q1, qP, qE, qD⟩ := q; exact ⟨q0, q1, qP, kE_call qE, qD⟩, va_recv hK hP (ci := 11) (q0 := 0) rfl rfl, fun U hU hW => ⟨rfl, by rw [hU], by rw [hU]; exact hPc, kE_warm hW hE, hDc.weaken (fun _ _ _ _ => trivial)⟩⟩ rfl rfl hl.1 rfl (lv_room (Nat.le_of_ble_eq_true rfl)) dX11_count_198 ⟨Nat.le_of_ble_eq_true rfl, Nat.le_of_ble_eq_true rfl⟩) hS (fun q _ h => hFc q h) hFc (fun r82 u t H locs ht hvm w83 hB hz1 hk1 hS => ?_)
  obtain ⟨y84, hq85, hq86, hq87, hq88, hq89, hq90, hP1, hD1⟩ := hB
  try dsimp only at w83
  obtain ⟨hPa, hDa⟩ := hJn (w1 := [(m0, .inr (11, oX11 ra y84))]) hk1 ht hP1 hD1
  clear hP hD hPc hDc hFc hJn hP1 hD1 hk1
  have hP : va_P (dC, dI) vwCl [(ra 2, .inl (kI, 8, .inl q_told)), (ra 11, .inl (kI, 1019, .inl q_now)), (ra 12, .inl (kI, 3, .inl q_status)), (ra 15, .inl (kJ, 24, .inr (.inl q_met))), (m0, .inr (11, oX11 ra y84))] H := hPa
  have hD : va_D A [(ra 2, .inl (kI, 8, .inl q_told)), (ra 11, .inl (kI, 1019, .inl q_now)), (ra 12, .inl (kI, 3, .inl q_status)), (ra 15, .inl (kJ, 24, .inr (.inl q_met))), (m0, .inr (11, oX11 ra y84))] := hDa
  clear hPa hDa
  refine W.widen (k := 0) (n := 0) (Nat.le_of_ble_eq_true rfl) (Nat.le_of_ble_eq_true rfl) ?_
  obtain rfl : r82 = 0 := iv_one w83 (by decide)
  have hPD9 := cl_s (wc := [(m0, .inr (11, oX11 ra y84)), (ra 2, .inl (kI, 8, .inl q_told)), (ra 11, .inl (kI, 1019, .inl q_now)), (ra 12, .inl (kI, 3, .inl q_status)), (ra 15, .inl (kJ, 24, .inr (.inl q_met)))]) hP hD [4, 0, 1, 2, 3] rfl (by decide +kernel)
  have hP9 := hPD9.1
  have hD9 := hPD9.2
  exact W.iret (v := 0) hx hb hr (fun t ht hW => ⟨⟨0, (), rfl, trivial, y84, q_met, hq85, (show y84 1 = x0 1 from hq87), (show y84 10 = x0 10 from hq88), (show y84 11 = x0 11 from hq89), (show y84 14 = x0 14 from hq90), by rw [ht]; exact hP9, hD9⟩, hS.F ht⟩) hS.2.2 dX11_count_201
def rm_s11_router : Room := { frames := 2, cells := 0, slots := 0, locals := 43 }
set_option maxHeartbeats 4000000 in
set_option maxRecDepth 100000 in
theorem s11_router (l : Launch) (dC : Nat → ClassId) (dI : Nat → Nat → Nat) (kB kI kJ kZ kC kS : ClassId) (sz : Nat) (m0 : Nat) (ra : Nat → Nat) (x0 : Nat → Int32) (q_told : Nat → Int32) (q_kind : Nat → Int32) (q_salt : Nat → Int32) (q_pace : Nat → Int32) (q_mute : Nat → Int32) (q_late : Nat → Int32) (q_from : Nat → Int32) (q_goal : Nat → Int32) (q_now : Nat → Int32) (p0 : Int32) (p1 : Int32) (hX : fI lX11 hX11 x0) (hq_told : fI lTold hTold q_told) (hq_salt : fI (fun _ => 0) (fun _ => 15) q_salt) (hq_from : fI (fun _ => 0) (fun _ => 11) q_from) (hq_goal : fI (fun _ => 0) (fun _ => 11) q_goal) (hq_now : fI lNow hNow q_now) : Met l yX11_router wsX11_router rm_s11_router (va_Pc [.ref m0, .int p0, .int p1] (fun U => U.heap.size = sz ∧ va_P (dC, dI) vwCl [(m0, .inr (11, oX11 ra x0)), (ra 2, .inl (kI, 8, .inl q_told)), (ra 3, .inl (kI, 24, .inl q_kind)), (ra 4, .inl (kI, 24, .inl q_salt)), (ra 5, .inl (kI, 24, .inl q_pace)), (ra 6, .inl (kI, 24, .inl q_mute)), (ra 7, .inl (kI, 24, .inl q_late)), (ra 8, .inl (kI, 40, .inl q_from)), (ra 10, .inl (kI, 6, .inl q_goal)), (ra 11, .inl (kI, 1019, .inl q_now))] U.heap ∧ kE dC dI kB kI kJ kZ kC kS U ∧ va_D (fun _ => True) [(m0, .inr (11, oX11 ra x0)), (ra 2, .inl (kI, 8, .inl q_told)), (ra 3, .inl (kI, 24, .inl q_kind)), (ra 4, .inl (kI, 24, .inl q_salt)), (ra 5, .inl (kI, 24, .inl q_pace)), (ra 6, .inl (kI, 24, .inl q_mute)), (ra 7, .inl (kI, 24, .inl q_late)), (ra 8, .inl (kI, 40, .inl q_from)), (ra 10, .inl (kI, 6, .inl q_goal)), (ra 11, .inl (kI, 1019, .inl q_now))])) (va_Qi (fun (r : Int32) (_ : Unit) => True) (fun _ t => ∃ (x0' : Nat → Int32), fI lX11 hX11 x0' ∧ (x0' 1 = x0 1) ∧ (x0' 10 = x0 10) ∧ (x0' 11 = x0 11) ∧ (x0' 14 = x0 14) ∧ va_P (dC, dI) vwCl [(m0, .inr (11, oX11 ra x0')), (ra 2, .inl (kI, 8, .inl q_told)), (ra 3, .inl (kI, 24, .inl q_kind)), (ra 4, .inl (kI, 24, .inl q_salt)), (ra 5, .inl (kI, 24, .inl q_pace)), (ra 6, .inl (kI, 24, .inl q_mute)), (ra 7, .inl (kI, 24, .inl q_late)), (ra 8, .inl (kI, 40, .inl q_from)), (ra 10, .inl (kI, 6, .inl q_goal)), (ra 11, .inl (kI, 1019, .inl q_now))] t.heap ∧ va_D (va_A [(m0, .inr (11, oX11 ra x0)), (ra 2, .inl (kI, 8, .inl q_told)), (ra 3, .inl (kI, 24, .inl q_kind)), (ra 4, .inl (kI, 24, .inl q_salt)), (ra 5, .inl (kI, 24, .inl q_pace)), (ra 6, .inl (kI, 24, .inl q_mute)), (ra 7, .inl (kI, 24, .inl q_late)), (ra 8, .inl (kI, 40, .inl q_from)), (ra 10, .inl (kI, 6, .inl q_goal)), (ra 11, .inl (kI, 1019, .inl q_now))] sz) [(m0, .inr (11, oX11 ra x0')), (ra 2, .inl (kI, 8, .inl q_told)), (ra 3, .inl (kI, 24, .inl q_kind)), (ra 4, .inl (kI, 24, .inl q_salt)), (ra 5, .inl (kI, 24, .inl q_pace)), (ra 6, .inl (kI, 24, .inl q_mute)), (ra 7, .inl (kI, 24, .inl q_late)), (ra 8, .inl (kI, 40, .inl q_from)), (ra 10, .inl (kI, 6, .inl q_goal)), (ra 11, .inl (kI, 1019, .inl q_now))]) (va_A [(m0, .inr (11, oX11 ra x0)), (ra 2, .inl (kI, 8, .inl q_told)), (ra 3, .inl (kI, 24, .inl q_kind)), (ra 4, .inl (kI, 24, .inl q_salt)), (ra 5, .inl (kI, 24, .inl q_pace)), (ra 6, .inl (kI, 24, .inl q_mute)), (ra 7, .inl (kI, 24, .inl q_late)), (ra 8, .inl (kI, 40, .inl q_from)), (ra 10, .inl (kI, 6, .inl q_goal)), (ra 11, .inl (kI, 1019, .inl q_now))] sz)) 0 0 (va_A [(m0, .inr (11, oX11 ra x0)), (ra 2, .inl (kI, 8, .inl q_told)), (ra 3, .inl (kI, 24, .inl q_kind)), (ra 4, .inl (kI, 24, .inl q_salt)), (ra 5, .inl (kI, 24, .inl q_pace)), (ra 6, .inl (kI, 24, .inl q_mute)), (ra 7, .inl (kI, 24, .inl q_late)), (ra 8, .inl (kI, 40, .inl q_from)), (ra 10, .inl (kI, 6, .inl q_goal)), (ra 11, .inl (kI, 1019, .inl q_now))] sz) := by
  refine Met.ofW (cc := cX11_router) (maxL := 3) (ret := (some .int)) (by decide) rfl ?_
  intro p e s m args0 below meth c s₁ B hml hv
  obtain ⟨hargs, hsz, hP, hE, hD0⟩ := hv
  have hx := B.exec
  have hb := B.bytes
  have hr := B.returns
  have hts := atoms_spec (ws := wsX11_router) B.pre
  have hown : s.vm.findClass RX11 = some m.cls := findClass_of_methodNamed B.named
  have hlocks := B.notSynchronized
  have hK := hE.1
  have hin11 : ∀ w ∈ wsX110, w ∈ wsX11_router := fun _ h9 => List.mem_cons_of_mem _ (List.mem_append_right _ h9)
  have hw_0 := hts (.fieldLink RX11 142 "PathProberModel" "code" "I") (List.mem_of_getElem? (i := 1) rfl)
  have hw_1 := hts (.fieldLink RX11 38 "PathProberModel" "kind" "[I") (List.mem_of_getElem? (i := 2) rfl)
  have hw_2 := hts (.fieldLink RX11 41 "PathProberModel" "salt" "[I") (List.mem_of_getElem? (i := 3) rfl)
  have hw_3 := hts (.fieldLink RX11 44 "PathProberModel" "pace" "[I") (List.mem_of_getElem? (i := 4) rfl)
  have hw_4 := hts (.fieldLink RX11 47 "PathProberModel" "mute" "[I") (List.mem_of_getElem? (i := 5) rfl)
  have hw_5 := hts (.fieldLink RX11 50 "PathProberModel" "late" "[I") (List.mem_of_getElem? (i := 6) rfl)
  have hw_6 := hts (.fieldLink RX11 60 "PathProberModel" "now" "[I") (List.mem_of_getElem? (i := 7) rfl)
  subst hsz
  have hD := hD0.self (sz := s.heap.size)
  generalize hAe : va_A [(m0, .inr (11, oX11 ra x0)), (ra 2, .inl (kI, 8, .inl q_told)), (ra 3, .inl (kI, 24, .inl q_kind)), (ra 4, .inl (kI, 24, .inl q_salt)), (ra 5, .inl (kI, 24, .inl q_pace)), (ra 6, .inl (kI, 24, .inl q_mute)), (ra 7, .inl (kI, 24, .inl q_late)), (ra 8, .inl (kI, 40, .inl q_from)), (ra 10, .inl (kI, 6, .inl q_goal)), (ra 11, .inl (kI, 1019, .inl q_now))] s.heap.size = A at hD ⊢
  have hA : ∀ q : Nat, s.heap.size ≤ q → A q := fun q h => by rw [← hAe]; exact Or.inr h
  have hS : va_S A s.heap s.heap [] := va_S.rf
  have hP : va_P (dC, dI) vwCl [(m0, .inr (11, oX11 ra x0)), (ra 2, .inl (kI, 8, .inl q_told)), (ra 3, .inl (kI, 24, .inl q_kind)), (ra 4, .inl (kI, 24, .inl q_salt)), (ra 5, .inl (kI, 24, .inl q_pace)), (ra 6, .inl (kI, 24, .inl q_mute)), (ra 7, .inl (kI, 24, .inl q_late)), (ra 8, .inl (kI, 40, .inl q_from)), (ra 10, .inl (kI, 6, .inl q_goal)), (ra 11, .inl (kI, 1019, .inl q_now))] s.heap := hP
  have hl := lv_entry ([.ref m0, .int p0, .int p1]) (n := 3) (Nat.le_of_ble_eq_true rfl)
  have hla : entryFrame m args0 3 = entryFrame m ([.ref m0, .int p0, .int p1] : List Value).toArray 3 := by rw [hargs]
  rw [hla, lg_entry_eq]
  generalize (lg_sl ([.ref m0, .int p0, .int p1]) ++ List.replicate (3 - (lg_sl ([.ref m0, .int p0, .int p1])).length) Slot.unset).toArray = ls at hl ⊢
  have hl : lv_has ls 3 [(0, .ref m0), (1, .int p0), (2, .int p1)] := hl
  refine lv_aload_n hx hb dX11_router_0 rfl (lv_at hl 0 rfl) ?_
  refine lv_iconst (v := 0) hx hb dX11_router_1 ic_0 ?_
  refine va_put (D := (dC, dI)) (ci := 11) (v := .int 0) (ty := .int) (C := RX11) (T := TX11) (N := 61) hx hb hts hin11 tyX11 tyX11_ok nmX11 hown hK hP hD hS 0 rfl rfl 2 (by decide) hw_0 (fun _ h9 => h9) rfl (by decide +kernel) rfl rfl (Nat.le_of_ble_eq_true rfl) dX11_router_2 (fun H locs hPa hDa hS => ?_)
  clear hP hD
  have hP : va_P (dC, dI) vwCl [(m0, .inr (11, oX11 ra (upd x0 0 0))), (ra 2, .inl (kI, 8, .inl q_told)), (ra 3, .inl (kI, 24, .inl q_kind)), (ra 4, .inl (kI, 24, .inl q_salt)), (ra 5, .inl (kI, 24, .inl q_pace)), (ra 6, .inl (kI, 24, .inl q_mute)), (ra 7, .inl (kI, 24, .inl q_late)), (ra 8, .inl (kI, 40, .inl q_from)), (ra 10, .inl (kI, 6, .inl q_goal)), (ra 11, .inl (kI, 1019, .inl q_now))] H := hPa
  have hD : va_D A [(m0, .inr (11, oX11 ra (upd x0 0 0))), (ra 2, .inl (kI, 8, .inl q_told)), (ra 3, .inl (kI, 24, .inl q_kind)), (ra 4, .inl (kI, 24, .inl q_salt)), (ra 5, .inl (kI, 24, .inl q_pace)), (ra 6, .inl (kI, 24, .inl q_mute)), (ra 7, .inl (kI, 24, .inl q_late)), (ra 8, .inl (kI, 40, .inl q_from)), (ra 10, .inl (kI, 6, .inl q_goal)), (ra 11, .inl (kI, 1019, .inl q_now))] := hDa
  clear hPa hDa
  refine lv_aload_n hx hb dX11_router_5 rfl (lv_at hl 0 rfl) ?_
  refine lv_iload_n hx hb dX11_router_6 rfl (lv_at hl 1 rfl) ?_
  obtain ⟨hPc, hDc, hFc, hJn⟩ := cl_a (wc := [(m0, .inr (11, oX11 ra (upd x0 0 0))), (ra 2, .inl (kI, 8, .inl q_told))]) (wr := [(ra 3, .inl (kI, 24, .inl q_kind)), (ra 4, .inl (kI, 24, .inl q_salt)), (ra 5, .inl (kI, 24, .inl q_pace)), (ra 6, .inl (kI, 24, .inl q_mute)), (ra 7, .inl (kI, 24, .inl q_late)), (ra 8, .inl (kI, 40, .inl q_from)), (ra 10, .inl (kI, 6, .inl q_goal)), (ra 11, .inl (kI, 1019, .inl q_now))]) hP hD hS hA [0, 1] [2, 3, 4, 5, 6, 7, 8, 9] rfl rfl (by decide +kernel)
  refine va_calli (va_runV (As := [.int p0]) (rest := []) ⟨hx, hb, hml, hown, hts⟩ (s11_isRouter l dC dI kB kI kJ kZ kC kS H.size m0 ra (upd x0 0 0) q_told p0 ((fI_u hX (k := 0) ((iv_w ivk_0 (by decide) (by decide))))) (hq_told)) (cwV 1 hts gX11_router_X11_isRouter rfl rfl rfl (by decide +kernel) ⟨Nat.le_of_ble_eq_true rfl, Nat.le_of_ble_eq_true rfl⟩) ⟨fun a U g mk q => by obtain ⟨q0, q1, qP, qE, qD⟩ := q; exact ⟨q0, q1, qP, kE_call qE, qD⟩, va_recv hK hP (ci := 11) (q0 := 0) rfl rfl, fun U hU hW => ⟨rfl, by rw [hU], by rw [hU]; exact hPc, kE_warm hW hE, hDc.weaken (fun _ _ _ _ => trivial)⟩⟩ rfl rfl hl.1 rfl (lv_room (Nat.le_of_ble_eq_true rfl)) dX11_router_7 ⟨Nat.le_of_ble_eq_true rfl, Nat.le_of_ble_eq_true rfl⟩) hS (fun q _ h => hFc q h) hFc (fun r1 u t H locs ht hvm w2 hB hz1 hk1 hS => ?_)
  obtain ⟨hP1, hD1⟩ := hB
  try dsimp only at w2
  obtain ⟨hPa, hDa⟩ := hJn (w1 := [(m0, .inr (11, oX11 ra (upd x0 0 0))), (ra 2, .inl (kI, 8, .inl q_told))]) hk1 ht hP1 hD1
  clear hP hD hPc hDc hFc hJn hP1 hD1 hk1
  have hP : va_P (dC, dI) vwCl [(ra 3, .inl (kI, 24, .inl q_kind)), (ra 4, .inl (kI, 24, .inl q_salt)), (ra 5, .inl (kI, 24, .inl q_pace)), (ra 6, .inl (kI, 24, .inl q_mute)), (ra 7, .inl (kI, 24, .inl q_late)), (ra 8, .inl (kI, 40, .inl q_from)), (ra 10, .inl (kI, 6, .inl q_goal)), (ra 11, .inl (kI, 1019, .inl q_now)), (m0, .inr (11, oX11 ra (upd x0 0 0))), (ra 2, .inl (kI, 8, .inl q_told))] H := hPa
  have hD : va_D A [(ra 3, .inl (kI, 24, .inl q_kind)), (ra 4, .inl (kI, 24, .inl q_salt)), (ra 5, .inl (kI, 24, .inl q_pace)), (ra 6, .inl (kI, 24, .inl q_mute)), (ra 7, .inl (kI, 24, .inl q_late)), (ra 8, .inl (kI, 40, .inl q_from)), (ra 10, .inl (kI, 6, .inl q_goal)), (ra 11, .inl (kI, 1019, .inl q_now)), (m0, .inr (11, oX11 ra (upd x0 0 0))), (ra 2, .inl (kI, 8, .inl q_told))] := hDa
  clear hPa hDa
  refine W.widen (k := 0) (n := 0) (Nat.le_of_ble_eq_true rfl) (Nat.le_of_ble_eq_true rfl) ?_
  refine lv_if_ne (tgt := 19) hx hb dX11_router_10 rfl (fun c3 => ?_) (fun c3 => ?_)
  · have b4 : iv 1 1 r1 := iv_neLo c3 w2.1 ivk_0 (by decide) (by decide)
    have b5 : iv 0 11 p0 := (w2.2).resolve_left (iv_ne b4 ivk_0 (by decide))
    refine lv_iload_n hx hb dX11_router_19 rfl (lv_at hl 2 rfl) ?_
    by_cases c6 : p1 = 0
    · refine lv_tableIn (off := 48) (tgt := 68) hx hb dX11_router_20 (by rw [c6]; decide) (by rw [c6]; decide) (by rw [c6]; decide) (by decide) ?_
      have b7 : iv 0 0 p1 := iv_eqL c6 ivk_0
      refine lv_aload_n hx hb dX11_router_68 rfl (lv_at hl 0 rfl) ?_
      refine va_get (D := (dC, dI)) (ci := 11) (v := .ref (ra 3)) (C := RX11) (T := TX11) (N := 61) hx hb hts hin11 hown hK hP 8 rfl rfl 4 (Nat.le_of_ble_eq_true rfl) hw_1 (fun _ h9 => h9) rfl dX11_router_69 ?_
      refine lv_iload_n hx hb dX11_router_72 rfl (lv_at hl 1 rfl) ?_
      refine va_iald hx hb hK hP 0 1 rfl rfl (iv_in b5 (by decide) (by decide)) dX11_router_73 ?_
      refine lv_topi (fun z8 _ => ?_)
      have hPD9 := cl_s (wc := [(m0, .inr (11, oX11 ra (upd x0 0 0))), (ra 2, .inl (kI, 8, .inl q_told)), (ra 3, .inl (kI, 24, .inl q_kind)), (ra 4, .inl (kI, 24, .inl q_salt)), (ra 5, .inl (kI, 24, .inl q_pace)), (ra 6, .inl (kI, 24, .inl q_mute)), (ra 7, .inl (kI, 24, .inl q_late)), (ra 8, .inl (kI, 40, .inl q_from)), (ra 10, .inl (kI, 6, .inl q_goal)), (ra 11, .inl (kI, 1019, .inl q_now))]) hP hD [8, 9, 0, 1, 2, 3, 4, 5, 6, 7] rfl (by decide +kernel)
      have hP9 := hPD9.1
      have hD9 := hPD9.2
      exact W.iret (v := z8) hx hb hr (fun t ht hW => ⟨⟨z8, (), rfl, trivial, upd x0 0 0, (fI_u hX (k := 0) ((iv_w ivk_0 (by decide) (by decide)))), (show x0 1 = x0 1 from rfl), (show x0 10 = x0 10 from rfl), (show x0 11 = x0 11 from rfl), (show x0 14 = x0 14 from rfl), by rw [ht]; exact hP9, hD9⟩, hS.F ht⟩) hS.2.2 dX11_router_74
    by_cases c9 : p1 = 1
    · refine lv_tableIn (off := 55) (tgt := 75) hx hb dX11_router_20 (by rw [c9]; decide) (by rw [c9]; decide) (by rw [c9]; decide) (by decide) ?_
      have b10 : iv 1 1 p1 := iv_eqL c9 ivk_1
      refine lv_aload_n hx hb dX11_router_75 rfl (lv_at hl 0 rfl) ?_
      refine va_get (D := (dC, dI)) (ci := 11) (v := .ref (ra 4)) (C := RX11) (T := TX11) (N := 61) hx hb hts hin11 hown hK hP 8 rfl rfl 5 (Nat.le_of_ble_eq_true rfl) hw_2 (fun _ h9 => h9) rfl dX11_router_76 ?_
      refine lv_iload_n hx hb dX11_router_79 rfl (lv_at hl 1 rfl) ?_
      refine va_iald hx hb hK hP 1 1 rfl rfl (iv_in b5 (by decide) (by decide)) dX11_router_80 ?_
      refine iv_top (a := 0) (b := 15) (hq_salt _) (fun z11 b12 => ?_)
      have hPD9 := cl_s (wc := [(m0, .inr (11, oX11 ra (upd x0 0 0))), (ra 2, .inl (kI, 8, .inl q_told)), (ra 3, .inl (kI, 24, .inl q_kind)), (ra 4, .inl (kI, 24, .inl q_salt)), (ra 5, .inl (kI, 24, .inl q_pace)), (ra 6, .inl (kI, 24, .inl q_mute)), (ra 7, .inl (kI, 24, .inl q_late)), (ra 8, .inl (kI, 40, .inl q_from)), (ra 10, .inl (kI, 6, .inl q_goal)), (ra 11, .inl (kI, 1019, .inl q_now))]) hP hD [8, 9, 0, 1, 2, 3, 4, 5, 6, 7] rfl (by decide +kernel)
      have hP9 := hPD9.1
      have hD9 := hPD9.2
      exact W.iret (v := z11) hx hb hr (fun t ht hW => ⟨⟨z11, (), rfl, trivial, upd x0 0 0, (fI_u hX (k := 0) ((iv_w ivk_0 (by decide) (by decide)))), (show x0 1 = x0 1 from rfl), (show x0 10 = x0 10 from rfl), (show x0 11 = x0 11 from rfl), (show x0 14 = x0 14 from rfl), by rw [ht]; exact hP9, hD9⟩, hS.F ht⟩) hS.2.2 dX11_router_81
    by_cases c13 : p1 = 2
    · refine lv_tableIn (off := 62) (tgt := 82) hx hb dX11_router_20 (by rw [c13]; decide) (by rw [c13]; decide) (by rw [c13]; decide) (by decide) ?_
      have b14 : iv 2 2 p1 := iv_eqL c13 ivk_2
      refine lv_aload_n hx hb dX11_router_82 rfl (lv_at hl 0 rfl) ?_
      refine va_get (D := (dC, dI)) (ci := 11) (v := .ref (ra 5)) (C := RX11) (T := TX11) (N := 61) hx hb hts hin11 hown hK hP 8 rfl rfl 6 (Nat.le_of_ble_eq_true rfl) hw_3 (fun _ h9 => h9) rfl dX11_router_83 ?_
      refine lv_iload_n hx hb dX11_router_86 rfl (lv_at hl 1 rfl) ?_
      refine va_iald hx hb hK hP 2 1 rfl rfl (iv_in b5 (by decide) (by decide)) dX11_router_87 ?_
      refine lv_topi (fun z15 _ => ?_)
      have hPD9 := cl_s (wc := [(m0, .inr (11, oX11 ra (upd x0 0 0))), (ra 2, .inl (kI, 8, .inl q_told)), (ra 3, .inl (kI, 24, .inl q_kind)), (ra 4, .inl (kI, 24, .inl q_salt)), (ra 5, .inl (kI, 24, .inl q_pace)), (ra 6, .inl (kI, 24, .inl q_mute)), (ra 7, .inl (kI, 24, .inl q_late)), (ra 8, .inl (kI, 40, .inl q_from)), (ra 10, .inl (kI, 6, .inl q_goal)), (ra 11, .inl (kI, 1019, .inl q_now))]) hP hD [8, 9, 0, 1, 2, 3, 4, 5, 6, 7] rfl (by decide +kernel)
      have hP9 := hPD9.1
      have hD9 := hPD9.2
      exact W.iret (v := z15) hx hb hr (fun t ht hW => ⟨⟨z15, (), rfl, trivial, upd x0 0 0, (fI_u hX (k := 0) ((iv_w ivk_0 (by decide) (by decide)))), (show x0 1 = x0 1 from rfl), (show x0 10 = x0 10 from rfl), (show x0 11 = x0 11 from rfl), (show x0 14 = x0 14 from rfl), by rw [ht]; exact hP9, hD9⟩, hS.F ht⟩) hS.2.2 dX11_router_88
    by_cases c16 : p1 = 3
    · refine lv_tableIn (off := 69) (tgt := 89) hx hb dX11_router_20 (by rw [c16]; decide) (by rw [c16]; decide) (by rw [c16]; decide) (by decide) ?_
      have b17 : iv 3 3 p1 := iv_eqL c16 ivk_3
      refine lv_aload_n hx hb dX11_router_89 rfl (lv_at hl 0 rfl) ?_
      refine va_get (D := (dC, dI)) (ci := 11) (v := .ref (ra 6)) (C := RX11) (T := TX11) (N := 61) hx hb hts hin11 hown hK hP 8 rfl rfl 7 (Nat.le_of_ble_eq_true rfl) hw_4 (fun _ h9 => h9) rfl dX11_router_90 ?_
      refine lv_iload_n hx hb dX11_router_93 rfl (lv_at hl 1 rfl) ?_
      refine va_iald hx hb hK hP 3 1 rfl rfl (iv_in b5 (by decide) (by decide)) dX11_router_94 ?_
      refine lv_topi (fun z18 _ => ?_)
      refine lv_iconst (v := 1) hx hb dX11_router_95 ic_1 ?_
      refine lv_icmp_ne (tgt := 103) hx hb dX11_router_96 rfl (fun c19 => ?_) (fun c19 => ?_)
      · refine lv_aload_n hx hb dX11_router_103 rfl (lv_at hl 0 rfl) ?_
        refine va_get (D := (dC, dI)) (ci := 11) (v := .ref (ra 7)) (C := RX11) (T := TX11) (N := 61) hx hb hts hin11 hown hK hP 8 rfl rfl 8 (Nat.le_of_ble_eq_true rfl) hw_5 (fun _ h9 => h9) rfl dX11_router_104 ?_
        refine lv_iload_n hx hb dX11_router_107 rfl (lv_at hl 1 rfl) ?_
        refine va_iald hx hb hK hP 4 1 rfl rfl (iv_in b5 (by decide) (by decide)) dX11_router_108 ?_
        refine lv_topi (fun z20 _ => ?_)
        refine lv_iconst (v := 1) hx hb dX11_router_109 ic_1 ?_
        refine lv_icmp_ne (tgt := 117) hx hb dX11_router_110 rfl (fun c21 => ?_) (fun c21 => ?_)
        · refine lv_iconst (v := 0) hx hb dX11_router_117 ic_0 ?_
          have hPD9 := cl_s (wc := [(m0, .inr (11, oX11 ra (upd x0 0 0))), (ra 2, .inl (kI, 8, .inl q_told)), (ra 3, .inl (kI, 24, .inl q_kind)), (ra 4, .inl (kI, 24, .inl q_salt)), (ra 5, .inl (kI, 24, .inl q_pace)), (ra 6, .inl (kI, 24, .inl q_mute)), (ra 7, .inl (kI, 24, .inl q_late)), (ra 8, .inl (kI, 40, .inl q_from)), (ra 10, .inl (kI, 6, .inl q_goal)), (ra 11, .inl (kI, 1019, .inl q_now))]) hP hD [8, 9, 0, 1, 2, 3, 4, 5, 6, 7] rfl (by decide +kernel)
          have hP9 := hPD9.1
          have hD9 := hPD9.2
          exact W.iret (v := 0) hx hb hr (fun t ht hW => ⟨⟨0, (), rfl, trivial, upd x0 0 0, (fI_u hX (k := 0) ((iv_w ivk_0 (by decide) (by decide)))), (show x0 1 = x0 1 from rfl), (show x0 10 = x0 10 from rfl), (show x0 11 = x0 11 from rfl), (show x0 14 = x0 14 from rfl), by rw [ht]; exact hP9, hD9⟩, hS.F ht⟩) hS.2.2 dX11_router_118
        · have b22 : iv 1 1 z20 := iv_eqL c21 ivk_1
          refine lv_iconst (v := 2) hx hb dX11_router_113 ic_2 ?_
          refine lv_goto (tgt := 118) hx hb dX11_router_114 rfl ?_
          have hPD9 := cl_s (wc := [(m0, .inr (11, oX11 ra (upd x0 0 0))), (ra 2, .inl (kI, 8, .inl q_told)), (ra 3, .inl (kI, 24, .inl q_kind)), (ra 4, .inl (kI, 24, .inl q_salt)), (ra 5, .inl (kI, 24, .inl q_pace)), (ra 6, .inl (kI, 24, .inl q_mute)), (ra 7, .inl (kI, 24, .inl q_late)), (ra 8, .inl (kI, 40, .inl q_from)), (ra 10, .inl (kI, 6, .inl q_goal)), (ra 11, .inl (kI, 1019, .inl q_now))]) hP hD [8, 9, 0, 1, 2, 3, 4, 5, 6, 7] rfl (by decide +kernel)
          have hP9 := hPD9.1
          have hD9 := hPD9.2
          exact W.iret (v := 2) hx hb hr (fun t ht hW => ⟨⟨2, (), rfl, trivial, upd x0 0 0, (fI_u hX (k := 0) ((iv_w ivk_0 (by decide) (by decide)))), (show x0 1 = x0 1 from rfl), (show x0 10 = x0 10 from rfl), (show x0 11 = x0 11 from rfl), (show x0 14 = x0 14 from rfl), by rw [ht]; exact hP9, hD9⟩, hS.F ht⟩) hS.2.2 dX11_router_118
      · have b23 : iv 1 1 z18 := iv_eqL c19 ivk_1
        refine lv_iconst (v := 1) hx hb dX11_router_99 ic_1 ?_
        refine lv_goto (tgt := 118) hx hb dX11_router_100 rfl ?_
        have hPD9 := cl_s (wc := [(m0, .inr (11, oX11 ra (upd x0 0 0))), (ra 2, .inl (kI, 8, .inl q_told)), (ra 3, .inl (kI, 24, .inl q_kind)), (ra 4, .inl (kI, 24, .inl q_salt)), (ra 5, .inl (kI, 24, .inl q_pace)), (ra 6, .inl (kI, 24, .inl q_mute)), (ra 7, .inl (kI, 24, .inl q_late)), (ra 8, .inl (kI, 40, .inl q_from)), (ra 10, .inl (kI, 6, .inl q_goal)), (ra 11, .inl (kI, 1019, .inl q_now))]) hP hD [8, 9, 0, 1, 2, 3, 4, 5, 6, 7] rfl (by decide +kernel)
        have hP9 := hPD9.1
        have hD9 := hPD9.2
        exact W.iret (v := 1) hx hb hr (fun t ht hW => ⟨⟨1, (), rfl, trivial, upd x0 0 0, (fI_u hX (k := 0) ((iv_w ivk_0 (by decide) (by decide)))), (show x0 1 = x0 1 from rfl), (show x0 10 = x0 10 from rfl), (show x0 11 = x0 11 from rfl), (show x0 14 = x0 14 from rfl), by rw [ht]; exact hP9, hD9⟩, hS.F ht⟩) hS.2.2 dX11_router_118
    by_cases c24 : p1 = 4
    · refine lv_tableIn (off := 99) (tgt := 119) hx hb dX11_router_20 (by rw [c24]; decide) (by rw [c24]; decide) (by rw [c24]; decide) (by decide) ?_
      have b25 : iv 4 4 p1 := iv_eqL c24 ivk_4
      refine lv_aload_n hx hb dX11_router_119 rfl (lv_at hl 0 rfl) ?_
      refine va_get (D := (dC, dI)) (ci := 11) (v := .ref (ra 11)) (C := RX11) (T := TX11) (N := 61) hx hb hts hin11 hown hK hP 8 rfl rfl 12 (Nat.le_of_ble_eq_true rfl) hw_6 (fun _ h9 => h9) rfl dX11_router_120 ?_
      refine lv_iconst (v := 0) hx hb dX11_router_123 ic_0 ?_
      refine lv_iload_n hx hb dX11_router_124 rfl (lv_at hl 1 rfl) ?_
      refine lv_iadd hx hb dX11_router_125 ?_
      refine iv_top (a := 0) (b := 11) (iv_add ivk_0 b5 (by decide) (by decide) (by decide) (by decide)) (fun z26 b27 => ?_)
      refine va_iald hx hb hK hP 7 1 rfl rfl (iv_in b27 (by decide) (by decide)) dX11_router_126 ?_
      refine iv_top (a := 0) (b := 59) (now_t hq_now b27 (by decide) (by decide)) (fun z28 b29 => ?_)
      have hPD9 := cl_s (wc := [(m0, .inr (11, oX11 ra (upd x0 0 0))), (ra 2, .inl (kI, 8, .inl q_told)), (ra 3, .inl (kI, 24, .inl q_kind)), (ra 4, .inl (kI, 24, .inl q_salt)), (ra 5, .inl (kI, 24, .inl q_pace)), (ra 6, .inl (kI, 24, .inl q_mute)), (ra 7, .inl (kI, 24, .inl q_late)), (ra 8, .inl (kI, 40, .inl q_from)), (ra 10, .inl (kI, 6, .inl q_goal)), (ra 11, .inl (kI, 1019, .inl q_now))]) hP hD [8, 9, 0, 1, 2, 3, 4, 5, 6, 7] rfl (by decide +kernel)
      have hP9 := hPD9.1
      have hD9 := hPD9.2
      exact W.iret (v := z28) hx hb hr (fun t ht hW => ⟨⟨z28, (), rfl, trivial, upd x0 0 0, (fI_u hX (k := 0) ((iv_w ivk_0 (by decide) (by decide)))), (show x0 1 = x0 1 from rfl), (show x0 10 = x0 10 from rfl), (show x0 11 = x0 11 from rfl), (show x0 14 = x0 14 from rfl), by rw [ht]; exact hP9, hD9⟩, hS.F ht⟩) hS.2.2 dX11_router_127
    by_cases c30 : p1 = 5
    · refine lv_tableIn (off := 108) (tgt := 128) hx hb dX11_router_20 (by rw [c30]; decide) (by rw [c30]; decide) (by rw [c30]; decide) (by decide) ?_
      have b31 : iv 5 5 p1 := iv_eqL c30 ivk_5
      refine lv_aload_n hx hb dX11_router_128 rfl (lv_at hl 0 rfl) ?_
      refine va_get (D := (dC, dI)) (ci := 11) (v := .ref (ra 11)) (C := RX11) (T := TX11) (N := 61) hx hb hts hin11 hown hK hP 8 rfl rfl 12 (Nat.le_of_ble_eq_true rfl) hw_6 (fun _ h9 => h9) rfl dX11_router_129 ?_
      refine lv_bipush (v := 12) hx hb dX11_router_132 bp_12 ?_
      refine lv_iload_n hx hb dX11_router_134 rfl (lv_at hl 1 rfl) ?_
      refine lv_iadd hx hb dX11_router_135 ?_
      refine iv_top (a := 12) (b := 23) (iv_add ivk_12 b5 (by decide) (by decide) (by decide) (by decide)) (fun z32 b33 => ?_)
      refine va_iald hx hb hK hP 7 1 rfl rfl (iv_in b33 (by decide) (by decide)) dX11_router_136 ?_
      refine lv_topi (fun z34 _ => ?_)
      have hPD9 := cl_s (wc := [(m0, .inr (11, oX11 ra (upd x0 0 0))), (ra 2, .inl (kI, 8, .inl q_told)), (ra 3, .inl (kI, 24, .inl q_kind)), (ra 4, .inl (kI, 24, .inl q_salt)), (ra 5, .inl (kI, 24, .inl q_pace)), (ra 6, .inl (kI, 24, .inl q_mute)), (ra 7, .inl (kI, 24, .inl q_late)), (ra 8, .inl (kI, 40, .inl q_from)), (ra 10, .inl (kI, 6, .inl q_goal)), (ra 11, .inl (kI, 1019, .inl q_now))]) hP hD [8, 9, 0, 1, 2, 3, 4, 5, 6, 7] rfl (by decide +kernel)
      have hP9 := hPD9.1
      have hD9 := hPD9.2
      exact W.iret (v := z34) hx hb hr (fun t ht hW => ⟨⟨z34, (), rfl, trivial, upd x0 0 0, (fI_u hX (k := 0) ((iv_w ivk_0 (by decide) (by decide)))), (show x0 1 = x0 1 from rfl), (show x0 10 = x0 10 from rfl), (show x0 11 = x0 11 from rfl), (show x0 14 = x0 14 from rfl), by rw [ht]; exact hP9, hD9⟩, hS.F ht⟩) hS.2.2 dX11_router_137
    by_cases c35 : p1 = 6
    · refine lv_tableIn (off := 118) (tgt := 138) hx hb dX11_router_20 (by rw [c35]; decide) (by rw [c35]; decide) (by rw [c35]; decide) (by decide) ?_
      have b36 : iv 6 6 p1 := iv_eqL c35 ivk_6
      refine lv_aload_n hx hb dX11_router_138 rfl (lv_at hl 0 rfl) ?_
      refine lv_iload_n hx hb dX11_router_139 rfl (lv_at hl 1 rfl) ?_
      obtain ⟨hPc, hDc, hFc, hJn⟩ := cl_a (wc := [(m0, .inr (11, oX11 ra (upd x0 0 0))), (ra 2, .inl (kI, 8, .inl q_told)), (ra 8, .inl (kI, 40, .inl q_from))]) (wr := [(ra 3, .inl (kI, 24, .inl q_kind)), (ra 4, .inl (kI, 24, .inl q_salt)), (ra 5, .inl (kI, 24, .inl q_pace)), (ra 6, .inl (kI, 24, .inl q_mute)), (ra 7, .inl (kI, 24, .inl q_late)), (ra 10, .inl (kI, 6, .inl q_goal)), (ra 11, .inl (kI, 1019, .inl q_now))]) hP hD hS hA [8, 9, 5] [0, 1, 2, 3, 4, 6, 7] rfl rfl (by decide +kernel)
      refine va_calli (va_runV (As := [.int p0]) (rest := []) ⟨hx, hb, hml, hown, hts⟩ (s11_linkSet l dC dI kB kI kJ kZ kC kS H.size m0 ra (upd x0 0 0) q_told q_from p0 ((fI_u hX (k := 0) ((iv_w ivk_0 (by decide) (by decide))))) (hq_told) (hq_from)) (cwV 1 hts gX11_router_X11_linkSet rfl rfl rfl (by decide +kernel) ⟨Nat.le_of_ble_eq_true rfl, Nat.le_of_ble_eq_true rfl⟩) ⟨fun a U g mk q => by obtain ⟨q0, q1, qP, qE, qD⟩ := q; exact ⟨q0, q1, qP, kE_call qE, qD⟩, va_recv hK hP (ci := 11) (q0 := 8) rfl rfl, fun U hU hW => ⟨rfl, by rw [hU], by rw [hU]; exact hPc, kE_warm hW hE, hDc.weaken (fun _ _ _ _ => trivial)⟩⟩ rfl rfl hl.1 rfl (lv_room (Nat.le_of_ble_eq_true rfl)) dX11_router_140 ⟨Nat.le_of_ble_eq_true rfl, Nat.le_of_ble_eq_true rfl⟩) hS (fun q _ h => hFc q h) hFc (fun r37 u t H locs ht hvm w38 hB hz1 hk1 hS => ?_)
      obtain ⟨hP1, hD1⟩ := hB
      try dsimp only at w38
      obtain ⟨hPa, hDa⟩ := hJn (w1 := [(m0, .inr (11, oX11 ra (upd x0 0 0))), (ra 2, .inl (kI, 8, .inl q_told)), (ra 8, .inl (kI, 40, .inl q_from))]) hk1 ht hP1 hD1
      clear hP hD hPc hDc hFc hJn hP1 hD1 hk1
      have hP : va_P (dC, dI) vwCl [(ra 3, .inl (kI, 24, .inl q_kind)), (ra 4, .inl (kI, 24, .inl q_salt)), (ra 5, .inl (kI, 24, .inl q_pace)), (ra 6, .inl (kI, 24, .inl q_mute)), (ra 7, .inl (kI, 24, .inl q_late)), (ra 10, .inl (kI, 6, .inl q_goal)), (ra 11, .inl (kI, 1019, .inl q_now)), (m0, .inr (11, oX11 ra (upd x0 0 0))), (ra 2, .inl (kI, 8, .inl q_told)), (ra 8, .inl (kI, 40, .inl q_from))] H := hPa
      have hD : va_D A [(ra 3, .inl (kI, 24, .inl q_kind)), (ra 4, .inl (kI, 24, .inl q_salt)), (ra 5, .inl (kI, 24, .inl q_pace)), (ra 6, .inl (kI, 24, .inl q_mute)), (ra 7, .inl (kI, 24, .inl q_late)), (ra 10, .inl (kI, 6, .inl q_goal)), (ra 11, .inl (kI, 1019, .inl q_now)), (m0, .inr (11, oX11 ra (upd x0 0 0))), (ra 2, .inl (kI, 8, .inl q_told)), (ra 8, .inl (kI, 40, .inl q_from))] := hDa
      clear hPa hDa
      refine W.widen (k := 0) (n := 0) (Nat.le_of_ble_eq_true rfl) (Nat.le_of_ble_eq_true rfl) ?_
      have hPD9 := cl_s (wc := [(m0, .inr (11, oX11 ra (upd x0 0 0))), (ra 2, .inl (kI, 8, .inl q_told)), (ra 3, .inl (kI, 24, .inl q_kind)), (ra 4, .inl (kI, 24, .inl q_salt)), (ra 5, .inl (kI, 24, .inl q_pace)), (ra 6, .inl (kI, 24, .inl q_mute)), (ra 7, .inl (kI, 24, .inl q_late)), (ra 8, .inl (kI, 40, .inl q_from)), (ra 10, .inl (kI, 6, .inl q_goal)), (ra 11, .inl (kI, 1019, .inl q_now))]) hP hD [7, 8, 0, 1, 2, 3, 4, 9, 5, 6] rfl (by decide +kernel)
      have hP9 := hPD9.1
      have hD9 := hPD9.2
      exact W.iret (v := r37) hx hb hr (fun t ht hW => ⟨⟨r37, (), rfl, trivial, upd x0 0 0, (fI_u hX (k := 0) ((iv_w ivk_0 (by decide) (by decide)))), (show x0 1 = x0 1 from rfl), (show x0 10 = x0 10 from rfl), (show x0 11 = x0 11 from rfl), (show x0 14 = x0 14 from rfl), by rw [ht]; exact hP9, hD9⟩, hS.F ht⟩) hS.2.2 dX11_router_143
    by_cases c39 : p1 = 7
    · refine lv_tableIn (off := 124) (tgt := 144) hx hb dX11_router_20 (by rw [c39]; decide) (by rw [c39]; decide) (by rw [c39]; decide) (by decide) ?_
      have b40 : iv 7 7 p1 := iv_eqL c39 ivk_7
      refine lv_aload_n hx hb dX11_router_144 rfl (lv_at hl 0 rfl) ?_
      refine lv_iload_n hx hb dX11_router_145 rfl (lv_at hl 1 rfl) ?_
      obtain ⟨hPc, hDc, hFc, hJn⟩ := cl_a (wc := [(m0, .inr (11, oX11 ra (upd x0 0 0))), (ra 2, .inl (kI, 8, .inl q_told)), (ra 10, .inl (kI, 6, .inl q_goal))]) (wr := [(ra 3, .inl (kI, 24, .inl q_kind)), (ra 4, .inl (kI, 24, .inl q_salt)), (ra 5, .inl (kI, 24, .inl q_pace)), (ra 6, .inl (kI, 24, .inl q_mute)), (ra 7, .inl (kI, 24, .inl q_late)), (ra 8, .inl (kI, 40, .inl q_from)), (ra 11, .inl (kI, 1019, .inl q_now))]) hP hD hS hA [8, 9, 6] [0, 1, 2, 3, 4, 5, 7] rfl rfl (by decide +kernel)
      refine va_calli (va_runV (As := [.int p0]) (rest := []) ⟨hx, hb, hml, hown, hts⟩ (s11_goalOf l dC dI kB kI kJ kZ kC kS H.size m0 ra (upd x0 0 0) q_told q_goal p0 ((fI_u hX (k := 0) ((iv_w ivk_0 (by decide) (by decide))))) (hq_told) (hq_goal)) (cwV 1 hts gX11_router_X11_goalOf rfl rfl rfl (by decide +kernel) ⟨Nat.le_of_ble_eq_true rfl, Nat.le_of_ble_eq_true rfl⟩) ⟨fun a U g mk q => by obtain ⟨q0, q1, qP, qE, qD⟩ := q; exact ⟨q0, q1, qP, kE_call qE, qD⟩, va_recv hK hP (ci := 11) (q0 := 8) rfl rfl, fun U hU hW => ⟨rfl, by rw [hU], by rw [hU]; exact hPc, kE_warm hW hE, hDc.weaken (fun _ _ _ _ => trivial)⟩⟩ rfl rfl hl.1 rfl (lv_room (Nat.le_of_ble_eq_true rfl)) dX11_router_146 ⟨Nat.le_of_ble_eq_true rfl, Nat.le_of_ble_eq_true rfl⟩) hS (fun q _ h => hFc q h) hFc (fun r41 u t H locs ht hvm w42 hB hz1 hk1 hS => ?_)
      obtain ⟨hP1, hD1⟩ := hB
      try dsimp only at w42
      obtain ⟨hPa, hDa⟩ := hJn (w1 := [(m0, .inr (11, oX11 ra (upd x0 0 0))), (ra 2, .inl (kI, 8, .inl q_told)), (ra 10, .inl (kI, 6, .inl q_goal))]) hk1 ht hP1 hD1
      clear hP hD hPc hDc hFc hJn hP1 hD1 hk1
      have hP : va_P (dC, dI) vwCl [(ra 3, .inl (kI, 24, .inl q_kind)), (ra 4, .inl (kI, 24, .inl q_salt)), (ra 5, .inl (kI, 24, .inl q_pace)), (ra 6, .inl (kI, 24, .inl q_mute)), (ra 7, .inl (kI, 24, .inl q_late)), (ra 8, .inl (kI, 40, .inl q_from)), (ra 11, .inl (kI, 1019, .inl q_now)), (m0, .inr (11, oX11 ra (upd x0 0 0))), (ra 2, .inl (kI, 8, .inl q_told)), (ra 10, .inl (kI, 6, .inl q_goal))] H := hPa
      have hD : va_D A [(ra 3, .inl (kI, 24, .inl q_kind)), (ra 4, .inl (kI, 24, .inl q_salt)), (ra 5, .inl (kI, 24, .inl q_pace)), (ra 6, .inl (kI, 24, .inl q_mute)), (ra 7, .inl (kI, 24, .inl q_late)), (ra 8, .inl (kI, 40, .inl q_from)), (ra 11, .inl (kI, 1019, .inl q_now)), (m0, .inr (11, oX11 ra (upd x0 0 0))), (ra 2, .inl (kI, 8, .inl q_told)), (ra 10, .inl (kI, 6, .inl q_goal))] := hDa
      clear hPa hDa
      refine W.widen (k := 0) (n := 0) (Nat.le_of_ble_eq_true rfl) (Nat.le_of_ble_eq_true rfl) ?_
      have hPD9 := cl_s (wc := [(m0, .inr (11, oX11 ra (upd x0 0 0))), (ra 2, .inl (kI, 8, .inl q_told)), (ra 3, .inl (kI, 24, .inl q_kind)), (ra 4, .inl (kI, 24, .inl q_salt)), (ra 5, .inl (kI, 24, .inl q_pace)), (ra 6, .inl (kI, 24, .inl q_mute)), (ra 7, .inl (kI, 24, .inl q_late)), (ra 8, .inl (kI, 40, .inl q_from)), (ra 10, .inl (kI, 6, .inl q_goal)), (ra 11, .inl (kI, 1019, .inl q_now))]) hP hD [7, 8, 0, 1, 2, 3, 4, 5, 9, 6] rfl (by decide +kernel)
      have hP9 := hPD9.1
      have hD9 := hPD9.2
      exact W.iret (v := r41) hx hb hr (fun t ht hW => ⟨⟨r41, (), rfl, trivial, upd x0 0 0, (fI_u hX (k := 0) ((iv_w ivk_0 (by decide) (by decide)))), (show x0 1 = x0 1 from rfl), (show x0 10 = x0 10 from rfl), (show x0 11 = x0 11 from rfl), (show x0 14 = x0 14 from rfl), by rw [ht]; exact hP9, hD9⟩, hS.F ht⟩) hS.2.2 dX11_router_149
    refine lv_tableOut (tgt := 150) hx hb dX11_router_20 (by have g0 : ¬ p1.toInt = 0 := fun w => c6 (Int32.toInt_inj.mp w); have g1 : ¬ p1.toInt = 1 := fun w => c9 (Int32.toInt_inj.mp w); have g2 : ¬ p1.toInt = 2 := fun w => c13 (Int32.toInt_inj.mp w); have g3 : ¬ p1.toInt = 3 := fun w => c16 (Int32.toInt_inj.mp w); have g4 : ¬ p1.toInt = 4 := fun w => c24 (Int32.toInt_inj.mp w); have g5 : ¬ p1.toInt = 5 := fun w => c30 (Int32.toInt_inj.mp w); have g6 : ¬ p1.toInt = 6 := fun w => c35 (Int32.toInt_inj.mp w); have g7 : ¬ p1.toInt = 7 := fun w => c39 (Int32.toInt_inj.mp w); have gb := (iv_t p1); have gb1 := gb.1; have gb2 := gb.2; omega) (by decide) ?_
    refine lv_aload_n hx hb dX11_router_150 rfl (lv_at hl 0 rfl) ?_
    refine lv_iconst (v := 1) hx hb dX11_router_151 ic_1 ?_
    obtain ⟨hPc, hDc, hFc, hJn⟩ := cl_a (wc := [(m0, .inr (11, oX11 ra (upd x0 0 0)))]) (wr := [(ra 3, .inl (kI, 24, .inl q_kind)), (ra 4, .inl (kI, 24, .inl q_salt)), (ra 5, .inl (kI, 24, .inl q_pace)), (ra 6, .inl (kI, 24, .inl q_mute)), (ra 7, .inl (kI, 24, .inl q_late)), (ra 8, .inl (kI, 40, .inl q_from)), (ra 10, .inl (kI, 6, .inl q_goal)), (ra 11, .inl (kI, 1019, .inl q_now)), (ra 2, .inl (kI, 8, .inl q_told))]) hP hD hS hA [8] [0, 1, 2, 3, 4, 5, 6, 7, 9] rfl rfl (by decide +kernel)
    refine va_calli (va_runV (As := [.int 1]) (rest := []) ⟨hx, hb, hml, hown, hts⟩ (s11_fail l dC dI kB kI kJ kZ kC kS H.size m0 ra (upd x0 0 0) 1 ((fI_u hX (k := 0) ((iv_w ivk_0 (by decide) (by decide)))))) (cwV 1 hts gX11_router_X11_fail rfl rfl rfl (by decide +kernel) ⟨Nat.le_of_ble_eq_true rfl, Nat.le_of_ble_eq_true rfl⟩) ⟨fun a U g mk q => by obtain ⟨q0, q1, qP, qE, qD⟩ := q; exact ⟨q0, q1, qP, kE_call qE, qD⟩, va_recv hK hP (ci := 11) (q0 := 8) rfl rfl, fun U hU hW => ⟨rfl, by rw [hU], by rw [hU]; exact hPc, kE_warm hW hE, hDc.weaken (fun _ _ _ _ => trivial)⟩⟩ rfl rfl hl.1 rfl (lv_room (Nat.le_of_ble_eq_true rfl)) dX11_router_152 ⟨Nat.le_of_ble_eq_true rfl, Nat.le_of_ble_eq_true rfl⟩) hS (fun q _ h => hFc q h) hFc (fun r43 u t H locs ht hvm w44 hB hz1 hk1 hS => ?_)
    obtain ⟨y45, hq46, hq47, hq48, hq49, hq50, hq51, hP1, hD1⟩ := hB
    try dsimp only at w44
    obtain ⟨hPa, hDa⟩ := hJn (w1 := [(m0, .inr (11, oX11 ra y45))]) hk1 ht hP1 hD1
    clear hP hD hPc hDc hFc hJn hP1 hD1 hk1
    have hP : va_P (dC, dI) vwCl [(ra 3, .inl (kI, 24, .inl q_kind)), (ra 4, .inl (kI, 24, .inl q_salt)), (ra 5, .inl (kI, 24, .inl q_pace)), (ra 6, .inl (kI, 24, .inl q_mute)), (ra 7, .inl (kI, 24, .inl q_late)), (ra 8, .inl (kI, 40, .inl q_from)), (ra 10, .inl (kI, 6, .inl q_goal)), (ra 11, .inl (kI, 1019, .inl q_now)), (ra 2, .inl (kI, 8, .inl q_told)), (m0, .inr (11, oX11 ra y45))] H := hPa
    have hD : va_D A [(ra 3, .inl (kI, 24, .inl q_kind)), (ra 4, .inl (kI, 24, .inl q_salt)), (ra 5, .inl (kI, 24, .inl q_pace)), (ra 6, .inl (kI, 24, .inl q_mute)), (ra 7, .inl (kI, 24, .inl q_late)), (ra 8, .inl (kI, 40, .inl q_from)), (ra 10, .inl (kI, 6, .inl q_goal)), (ra 11, .inl (kI, 1019, .inl q_now)), (ra 2, .inl (kI, 8, .inl q_told)), (m0, .inr (11, oX11 ra y45))] := hDa
    clear hPa hDa
    refine W.widen (k := 0) (n := 0) (Nat.le_of_ble_eq_true rfl) (Nat.le_of_ble_eq_true rfl) ?_
    obtain rfl : r43 = 0 := iv_one w44 (by decide)
    have hPD9 := cl_s (wc := [(m0, .inr (11, oX11 ra y45)), (ra 2, .inl (kI, 8, .inl q_told)), (ra 3, .inl (kI, 24, .inl q_kind)), (ra 4, .inl (kI, 24, .inl q_salt)), (ra 5, .inl (kI, 24, .inl q_pace)), (ra 6, .inl (kI, 24, .inl q_mute)), (ra 7, .inl (kI, 24, .inl q_late)), (ra 8, .inl (kI, 40, .inl q_from)), (ra 10, .inl (kI, 6, .inl q_goal)), (ra 11, .inl (kI, 1019, .inl q_now))]) hP hD [9, 8, 0, 1, 2, 3, 4, 5, 6, 7] rfl (by decide +kernel)
    have hP9 := hPD9.1
    have hD9 := hPD9.2
    exact W.iret (v := 0) hx hb hr (fun t ht hW => ⟨⟨0, (), rfl, trivial, y45, hq46, (show y45 1 = x0 1 from hq48), (show y45 10 = x0 10 from hq49), (show y45 11 = x0 11 from hq50), (show y45 14 = x0 14 from hq51), by rw [ht]; exact hP9, hD9⟩, hS.F ht⟩) hS.2.2 dX11_router_155
  · have b52 : iv 0 0 r1 := iv_eqL c3 ivk_0
    refine lv_aload_n hx hb dX11_router_13 rfl (lv_at hl 0 rfl) ?_
    refine lv_iconst (v := 1) hx hb dX11_router_14 ic_1 ?_
    obtain ⟨hPc, hDc, hFc, hJn⟩ := cl_a (wc := [(m0, .inr (11, oX11 ra (upd x0 0 0)))]) (wr := [(ra 3, .inl (kI, 24, .inl q_kind)), (ra 4, .inl (kI, 24, .inl q_salt)), (ra 5, .inl (kI, 24, .inl q_pace)), (ra 6, .inl (kI, 24, .inl q_mute)), (ra 7, .inl (kI, 24, .inl q_late)), (ra 8, .inl (kI, 40, .inl q_from)), (ra 10, .inl (kI, 6, .inl q_goal)), (ra 11, .inl (kI, 1019, .inl q_now)), (ra 2, .inl (kI, 8, .inl q_told))]) hP hD hS hA [8] [0, 1, 2, 3, 4, 5, 6, 7, 9] rfl rfl (by decide +kernel)
    refine va_calli (va_runV (As := [.int 1]) (rest := []) ⟨hx, hb, hml, hown, hts⟩ (s11_fail l dC dI kB kI kJ kZ kC kS H.size m0 ra (upd x0 0 0) 1 ((fI_u hX (k := 0) ((iv_w ivk_0 (by decide) (by decide)))))) (cwV 1 hts gX11_router_X11_fail rfl rfl rfl (by decide +kernel) ⟨Nat.le_of_ble_eq_true rfl, Nat.le_of_ble_eq_true rfl⟩) ⟨fun a U g mk q => by obtain ⟨q0, q1, qP, qE, qD⟩ := q; exact ⟨q0, q1, qP, kE_call qE, qD⟩, va_recv hK hP (ci := 11) (q0 := 8) rfl rfl, fun U hU hW => ⟨rfl, by rw [hU], by rw [hU]; exact hPc, kE_warm hW hE, hDc.weaken (fun _ _ _ _ => trivial)⟩⟩ rfl rfl hl.1 rfl (lv_room (Nat.le_of_ble_eq_true rfl)) dX11_router_15 ⟨Nat.le_of_ble_eq_true rfl, Nat.le_of_ble_eq_true rfl⟩) hS (fun q _ h => hFc q h) hFc (fun r53 u t H locs ht hvm w54 hB hz1 hk1 hS => ?_)
    obtain ⟨y55, hq56, hq57, hq58, hq59, hq60, hq61, hP1, hD1⟩ := hB
    try dsimp only at w54
    obtain ⟨hPa, hDa⟩ := hJn (w1 := [(m0, .inr (11, oX11 ra y55))]) hk1 ht hP1 hD1
    clear hP hD hPc hDc hFc hJn hP1 hD1 hk1
    have hP : va_P (dC, dI) vwCl [(ra 3, .inl (kI, 24, .inl q_kind)), (ra 4, .inl (kI, 24, .inl q_salt)), (ra 5, .inl (kI, 24, .inl q_pace)), (ra 6, .inl (kI, 24, .inl q_mute)), (ra 7, .inl (kI, 24, .inl q_late)), (ra 8, .inl (kI, 40, .inl q_from)), (ra 10, .inl (kI, 6, .inl q_goal)), (ra 11, .inl (kI, 1019, .inl q_now)), (ra 2, .inl (kI, 8, .inl q_told)), (m0, .inr (11, oX11 ra y55))] H := hPa
    have hD : va_D A [(ra 3, .inl (kI, 24, .inl q_kind)), (ra 4, .inl (kI, 24, .inl q_salt)), (ra 5, .inl (kI, 24, .inl q_pace)), (ra 6, .inl (kI, 24, .inl q_mute)), (ra 7, .inl (kI, 24, .inl q_late)), (ra 8, .inl (kI, 40, .inl q_from)), (ra 10, .inl (kI, 6, .inl q_goal)), (ra 11, .inl (kI, 1019, .inl q_now)), (ra 2, .inl (kI, 8, .inl q_told)), (m0, .inr (11, oX11 ra y55))] := hDa
    clear hPa hDa
    refine W.widen (k := 0) (n := 0) (Nat.le_of_ble_eq_true rfl) (Nat.le_of_ble_eq_true rfl) ?_
    obtain rfl : r53 = 0 := iv_one w54 (by decide)
    have hPD9 := cl_s (wc := [(m0, .inr (11, oX11 ra y55)), (ra 2, .inl (kI, 8, .inl q_told)), (ra 3, .inl (kI, 24, .inl q_kind)), (ra 4, .inl (kI, 24, .inl q_salt)), (ra 5, .inl (kI, 24, .inl q_pace)), (ra 6, .inl (kI, 24, .inl q_mute)), (ra 7, .inl (kI, 24, .inl q_late)), (ra 8, .inl (kI, 40, .inl q_from)), (ra 10, .inl (kI, 6, .inl q_goal)), (ra 11, .inl (kI, 1019, .inl q_now))]) hP hD [9, 8, 0, 1, 2, 3, 4, 5, 6, 7] rfl (by decide +kernel)
    have hP9 := hPD9.1
    have hD9 := hPD9.2
    exact W.iret (v := 0) hx hb hr (fun t ht hW => ⟨⟨0, (), rfl, trivial, y55, hq56, (show y55 1 = x0 1 from hq58), (show y55 10 = x0 10 from hq59), (show y55 11 = x0 11 from hq60), (show y55 14 = x0 14 from hq61), by rw [ht]; exact hP9, hD9⟩, hS.F ht⟩) hS.2.2 dX11_router_18
def rm_s11_link : Room := { frames := 1, cells := 0, slots := 0, locals := 22 }
set_option maxHeartbeats 4000000 in
set_option maxRecDepth 100000 in
theorem s11_link (l : Launch) (dC : Nat → ClassId) (dI : Nat → Nat → Nat) (kB kI kJ kZ kC kS : ClassId) (sz : Nat) (m0 : Nat) (ra : Nat → Nat) (x0 : Nat → Int32) (q_told : Nat → Int32) (q_from : Nat → Int32) (q_to : Nat → Int32) (p0 : Int32) (p1 : Int32) (hX : fI lX11 hX11 x0) (hq_told : fI lTold hTold q_told) (hq_from : fI (fun _ => 0) (fun _ => 11) q_from) (hq_to : fI (fun _ => 0) (fun _ => 11) q_to) : Met l yX11_link wsX11_link rm_s11_link (va_Pc [.ref m0, .int p0, .int p1] (fun U => U.heap.size = sz ∧ va_P (dC, dI) vwCl [(m0, .inr (11, oX11 ra x0)), (ra 2, .inl (kI, 8, .inl q_told)), (ra 8, .inl (kI, 40, .inl q_from)), (ra 9, .inl (kI, 40, .inl q_to))] U.heap ∧ kE dC dI kB kI kJ kZ kC kS U ∧ va_D (fun _ => True) [(m0, .inr (11, oX11 ra x0)), (ra 2, .inl (kI, 8, .inl q_told)), (ra 8, .inl (kI, 40, .inl q_from)), (ra 9, .inl (kI, 40, .inl q_to))])) (va_Qi (fun (r : Int32) (_ : Unit) => iv 0 11 r) (fun _ t => ∃ (x0' : Nat → Int32), fI lX11 hX11 x0' ∧ (x0' 1 = x0 1) ∧ (x0' 10 = x0 10) ∧ (x0' 11 = x0 11) ∧ (x0' 14 = x0 14) ∧ va_P (dC, dI) vwCl [(m0, .inr (11, oX11 ra x0')), (ra 2, .inl (kI, 8, .inl q_told)), (ra 8, .inl (kI, 40, .inl q_from)), (ra 9, .inl (kI, 40, .inl q_to))] t.heap ∧ va_D (va_A [(m0, .inr (11, oX11 ra x0)), (ra 2, .inl (kI, 8, .inl q_told)), (ra 8, .inl (kI, 40, .inl q_from)), (ra 9, .inl (kI, 40, .inl q_to))] sz) [(m0, .inr (11, oX11 ra x0')), (ra 2, .inl (kI, 8, .inl q_told)), (ra 8, .inl (kI, 40, .inl q_from)), (ra 9, .inl (kI, 40, .inl q_to))]) (va_A [(m0, .inr (11, oX11 ra x0)), (ra 2, .inl (kI, 8, .inl q_told)), (ra 8, .inl (kI, 40, .inl q_from)), (ra 9, .inl (kI, 40, .inl q_to))] sz)) 0 0 (va_A [(m0, .inr (11, oX11 ra x0)), (ra 2, .inl (kI, 8, .inl q_told)), (ra 8, .inl (kI, 40, .inl q_from)), (ra 9, .inl (kI, 40, .inl q_to))] sz) := by
  refine Met.ofW (cc := cX11_link) (maxL := 3) (ret := (some .int)) (by decide) rfl ?_
  intro p e s m args0 below meth c s₁ B hml hv
  obtain ⟨hargs, hsz, hP, hE, hD0⟩ := hv
  have hx := B.exec
  have hb := B.bytes
  have hr := B.returns
  have hts := atoms_spec (ws := wsX11_link) B.pre
  have hown : s.vm.findClass RX11 = some m.cls := findClass_of_methodNamed B.named
  have hlocks := B.notSynchronized
  have hK := hE.1
  have hin11 : ∀ w ∈ wsX110, w ∈ wsX11_link := fun _ h9 => List.mem_cons_of_mem _ (List.mem_append_right _ h9)
  have hw_0 := hts (.fieldLink RX11 142 "PathProberModel" "code" "I") (List.mem_of_getElem? (i := 1) rfl)
  have hw_1 := hts (.fieldLink RX11 56 "PathProberModel" "to" "[I") (List.mem_of_getElem? (i := 3) rfl)
  have hw_2 := hts (.fieldLink RX11 53 "PathProberModel" "from" "[I") (List.mem_of_getElem? (i := 2) rfl)
  subst hsz
  have hD := hD0.self (sz := s.heap.size)
  generalize hAe : va_A [(m0, .inr (11, oX11 ra x0)), (ra 2, .inl (kI, 8, .inl q_told)), (ra 8, .inl (kI, 40, .inl q_from)), (ra 9, .inl (kI, 40, .inl q_to))] s.heap.size = A at hD ⊢
  have hA : ∀ q : Nat, s.heap.size ≤ q → A q := fun q h => by rw [← hAe]; exact Or.inr h
  have hS : va_S A s.heap s.heap [] := va_S.rf
  have hP : va_P (dC, dI) vwCl [(m0, .inr (11, oX11 ra x0)), (ra 2, .inl (kI, 8, .inl q_told)), (ra 8, .inl (kI, 40, .inl q_from)), (ra 9, .inl (kI, 40, .inl q_to))] s.heap := hP
  have hl := lv_entry ([.ref m0, .int p0, .int p1]) (n := 3) (Nat.le_of_ble_eq_true rfl)
  have hla : entryFrame m args0 3 = entryFrame m ([.ref m0, .int p0, .int p1] : List Value).toArray 3 := by rw [hargs]
  rw [hla, lg_entry_eq]
  generalize (lg_sl ([.ref m0, .int p0, .int p1]) ++ List.replicate (3 - (lg_sl ([.ref m0, .int p0, .int p1])).length) Slot.unset).toArray = ls at hl ⊢
  have hl : lv_has ls 3 [(0, .ref m0), (1, .int p0), (2, .int p1)] := hl
  have hJ50 : ∀ (y50_0 : Nat → Int32) (H : Heap) (locs : List Loc) (ls : Array Slot), fI lX11 hX11 y50_0 → iv 0 0 (y50_0 0) → (y50_0 1 = x0 1) → (y50_0 10 = x0 10) → (y50_0 11 = x0 11) → (y50_0 14 = x0 14) → va_P (dC, dI) vwCl [(m0, .inr (11, oX11 ra y50_0)), (ra 2, .inl (kI, 8, .inl q_told)), (ra 8, .inl (kI, 40, .inl q_from)), (ra 9, .inl (kI, 40, .inl q_to))] H → va_D A [(m0, .inr (11, oX11 ra y50_0)), (ra 2, .inl (kI, 8, .inl q_told)), (ra 8, .inl (kI, 40, .inl q_from)), (ra 9, .inl (kI, 40, .inl q_to))] → va_S A s.heap H locs → lv_has ls 3 [(0, .ref m0), (1, .int p0), (2, .int p1)] → W p l e (headSpec wsX11_link rm_s11_link).room s m args0 below meth c H locs (0) (0) (MQ below (va_Qi (fun (r : Int32) (_ : Unit) => iv 0 11 r) (fun _ t => ∃ (x0' : Nat → Int32), fI lX11 hX11 x0' ∧ (x0' 1 = x0 1) ∧ (x0' 10 = x0 10) ∧ (x0' 11 = x0 11) ∧ (x0' 14 = x0 14) ∧ va_P (dC, dI) vwCl [(m0, .inr (11, oX11 ra x0')), (ra 2, .inl (kI, 8, .inl q_told)), (ra 8, .inl (kI, 40, .inl q_from)), (ra 9, .inl (kI, 40, .inl q_to))] t.heap ∧ va_D A [(m0, .inr (11, oX11 ra x0')), (ra 2, .inl (kI, 8, .inl q_told)), (ra 8, .inl (kI, 40, .inl q_from)), (ra 9, .inl (kI, 40, .inl q_to))]) A) args0 s 0 0 A) (F0 m 50 ls []) := by
    intro y50_0 H locs ls hI50_0 h50_2 htp_50 hfp_50 hor_50 hirl_50 hP hD hS hl
    refine lv_aload_n hx hb dX11_link_50 rfl (lv_at hl 0 rfl) ?_
    refine lv_iconst (v := 1) hx hb dX11_link_51 ic_1 ?_
    obtain ⟨hPc, hDc, hFc, hJn⟩ := cl_a (wc := [(m0, .inr (11, oX11 ra y50_0))]) (wr := [(ra 2, .inl (kI, 8, .inl q_told)), (ra 8, .inl (kI, 40, .inl q_from)), (ra 9, .inl (kI, 40, .inl q_to))]) hP hD hS hA [0] [1, 2, 3] rfl rfl (by decide +kernel)
    refine va_calli (va_runV (As := [.int 1]) (rest := []) ⟨hx, hb, hml, hown, hts⟩ (s11_fail l dC dI kB kI kJ kZ kC kS H.size m0 ra y50_0 1 (hI50_0)) (cwV 1 hts gX11_link_X11_fail rfl rfl rfl (by decide +kernel) ⟨Nat.le_of_ble_eq_true rfl, Nat.le_of_ble_eq_true rfl⟩) ⟨fun a U g mk q => by obtain ⟨q0, q1, qP, qE, qD⟩ := q; exact ⟨q0, q1, qP, kE_call qE, qD⟩, va_recv hK hP (ci := 11) (q0 := 0) rfl rfl, fun U hU hW => ⟨rfl, by rw [hU], by rw [hU]; exact hPc, kE_warm hW hE, hDc.weaken (fun _ _ _ _ => trivial)⟩⟩ rfl rfl hl.1 rfl (lv_room (Nat.le_of_ble_eq_true rfl)) dX11_link_52 ⟨Nat.le_of_ble_eq_true rfl, Nat.le_of_ble_eq_true rfl⟩) hS (fun q _ h => hFc q h) hFc (fun r1 u t H locs ht hvm w2 hB hz1 hk1 hS => ?_)
    obtain ⟨y3, hq4, hq5, hq6, hq7, hq8, hq9, hP1, hD1⟩ := hB
    try dsimp only at w2
    obtain ⟨hPa, hDa⟩ := hJn (w1 := [(m0, .inr (11, oX11 ra y3))]) hk1 ht hP1 hD1
    clear hP hD hPc hDc hFc hJn hP1 hD1 hk1
    have hP : va_P (dC, dI) vwCl [(ra 2, .inl (kI, 8, .inl q_told)), (ra 8, .inl (kI, 40, .inl q_from)), (ra 9, .inl (kI, 40, .inl q_to)), (m0, .inr (11, oX11 ra y3))] H := hPa
    have hD : va_D A [(ra 2, .inl (kI, 8, .inl q_told)), (ra 8, .inl (kI, 40, .inl q_from)), (ra 9, .inl (kI, 40, .inl q_to)), (m0, .inr (11, oX11 ra y3))] := hDa
    clear hPa hDa
    refine W.widen (k := 0) (n := 0) (Nat.le_of_ble_eq_true rfl) (Nat.le_of_ble_eq_true rfl) ?_
    obtain rfl : r1 = 0 := iv_one w2 (by decide)
    have hPD9 := cl_s (wc := [(m0, .inr (11, oX11 ra y3)), (ra 2, .inl (kI, 8, .inl q_told)), (ra 8, .inl (kI, 40, .inl q_from)), (ra 9, .inl (kI, 40, .inl q_to))]) hP hD [3, 0, 1, 2] rfl (by decide +kernel)
    have hP9 := hPD9.1
    have hD9 := hPD9.2
    exact W.iret (v := 0) hx hb hr (fun t ht hW => ⟨⟨0, (), rfl, (iv_w ivk_0 (by decide) (by decide)), y3, hq4, (show y3 1 = x0 1 from hq6.trans (htp_50)), (show y3 10 = x0 10 from hq7.trans (hfp_50)), (show y3 11 = x0 11 from hq8.trans (hor_50)), (show y3 14 = x0 14 from hq9.trans (hirl_50)), by rw [ht]; exact hP9, hD9⟩, hS.F ht⟩) hS.2.2 dX11_link_55
  refine lv_aload_n hx hb dX11_link_0 rfl (lv_at hl 0 rfl) ?_
  refine lv_iconst (v := 0) hx hb dX11_link_1 ic_0 ?_
  refine va_put (D := (dC, dI)) (ci := 11) (v := .int 0) (ty := .int) (C := RX11) (T := TX11) (N := 61) hx hb hts hin11 tyX11 tyX11_ok nmX11 hown hK hP hD hS 0 rfl rfl 2 (by decide) hw_0 (fun _ h9 => h9) rfl (by decide +kernel) rfl rfl (Nat.le_of_ble_eq_true rfl) dX11_link_2 (fun H locs hPa hDa hS => ?_)
  clear hP hD
  have hP : va_P (dC, dI) vwCl [(m0, .inr (11, oX11 ra (upd x0 0 0))), (ra 2, .inl (kI, 8, .inl q_told)), (ra 8, .inl (kI, 40, .inl q_from)), (ra 9, .inl (kI, 40, .inl q_to))] H := hPa
  have hD : va_D A [(m0, .inr (11, oX11 ra (upd x0 0 0))), (ra 2, .inl (kI, 8, .inl q_told)), (ra 8, .inl (kI, 40, .inl q_from)), (ra 9, .inl (kI, 40, .inl q_to))] := hDa
  clear hPa hDa
  refine lv_iload_n hx hb dX11_link_5 rfl (lv_at hl 1 rfl) ?_
  refine lv_iconst (v := 0) hx hb dX11_link_6 ic_0 ?_
  refine lv_aload_n hx hb dX11_link_7 rfl (lv_at hl 0 rfl) ?_
  obtain ⟨hPc, hDc, hFc, hJn⟩ := cl_a (wc := [(m0, .inr (11, oX11 ra (upd x0 0 0))), (ra 2, .inl (kI, 8, .inl q_told))]) (wr := [(ra 8, .inl (kI, 40, .inl q_from)), (ra 9, .inl (kI, 40, .inl q_to))]) hP hD hS hA [0, 1] [2, 3] rfl rfl (by decide +kernel)
  refine va_calli (va_runV (As := []) (rest := [.int 0, .int p0]) ⟨hx, hb, hml, hown, hts⟩ (s11_links l dC dI kB kI kJ kZ kC kS H.size m0 ra (upd x0 0 0) q_told ((fI_u hX (k := 0) ((iv_w ivk_0 (by decide) (by decide))))) (hq_told)) (cwV 0 hts gX11_link_X11_links rfl rfl rfl (by decide +kernel) ⟨Nat.le_of_ble_eq_true rfl, Nat.le_of_ble_eq_true rfl⟩) ⟨fun a U g mk q => by obtain ⟨q0, q1, qP, qE, qD⟩ := q; exact ⟨q0, q1, qP, kE_call qE, qD⟩, va_recv hK hP (ci := 11) (q0 := 0) rfl rfl, fun U hU hW => ⟨rfl, by rw [hU], by rw [hU]; exact hPc, kE_warm hW hE, hDc.weaken (fun _ _ _ _ => trivial)⟩⟩ rfl rfl hl.1 rfl (lv_room (Nat.le_of_ble_eq_true rfl)) dX11_link_8 ⟨Nat.le_of_ble_eq_true rfl, Nat.le_of_ble_eq_true rfl⟩) hS (fun q _ h => hFc q h) hFc (fun r10 u t H locs ht hvm w11 hB hz1 hk1 hS => ?_)
  obtain ⟨hP1, hD1⟩ := hB
  try dsimp only at w11
  obtain ⟨hPa, hDa⟩ := hJn (w1 := [(m0, .inr (11, oX11 ra (upd x0 0 0))), (ra 2, .inl (kI, 8, .inl q_told))]) hk1 ht hP1 hD1
  clear hP hD hPc hDc hFc hJn hP1 hD1 hk1
  have hP : va_P (dC, dI) vwCl [(ra 8, .inl (kI, 40, .inl q_from)), (ra 9, .inl (kI, 40, .inl q_to)), (m0, .inr (11, oX11 ra (upd x0 0 0))), (ra 2, .inl (kI, 8, .inl q_told))] H := hPa
  have hD : va_D A [(ra 8, .inl (kI, 40, .inl q_from)), (ra 9, .inl (kI, 40, .inl q_to)), (m0, .inr (11, oX11 ra (upd x0 0 0))), (ra 2, .inl (kI, 8, .inl q_told))] := hDa
  clear hPa hDa
  refine W.widen (k := 0) (n := 0) (Nat.le_of_ble_eq_true rfl) (Nat.le_of_ble_eq_true rfl) ?_
  subst w11
  refine lv_iconst (v := 1) hx hb dX11_link_11 ic_1 ?_
  refine lv_isub hx hb dX11_link_12 ?_
  refine iv_top (a := (-1)) (b := 19) (iv_sub (hq_told 1 : iv 0 20 (q_told 1)) ivk_1 (by decide) (by decide) (by decide) (by decide)) (fun z12 b13 => ?_)
  obtain ⟨hPc, hDc, hFc, hJn⟩ := cl_a (wc := []) (wr := [(ra 8, .inl (kI, 40, .inl q_from)), (ra 9, .inl (kI, 40, .inl q_to)), (m0, .inr (11, oX11 ra (upd x0 0 0))), (ra 2, .inl (kI, 8, .inl q_told))]) hP hD hS hA [] [0, 1, 2, 3] rfl rfl (by decide +kernel)
  refine va_calli (va_runS (As := [.int p0, .int 0, .int z12]) (rest := []) ⟨hx, hb, hml, hown, hts⟩ (s11_isIn l dC dI kB kI kJ kZ kC kS H.size p0 0 z12) (va_cwS 3 hts gX11_link_X11_isIn rfl rfl rfl (by decide +kernel) ⟨Nat.le_of_ble_eq_true rfl, Nat.le_of_ble_eq_true rfl⟩) ⟨fun a U g mk q => by obtain ⟨q0, q1, qP, qE, qD⟩ := q; exact ⟨q0, q1, qP, kE_call qE, qD⟩, fun U hU hW => ⟨rfl, by rw [hU], by rw [hU]; exact hPc, kE_warm hW hE, hDc.weaken (fun _ _ _ _ => trivial)⟩⟩ rfl rfl hl.1 rfl (lv_room (Nat.le_of_ble_eq_true rfl)) dX11_link_13 ⟨Nat.le_of_ble_eq_true rfl, Nat.le_of_ble_eq_true rfl⟩) hS (fun q _ h => hFc q h) hFc (fun r14 u t H locs ht hvm w15 hB hz1 hk1 hS => ?_)
  obtain ⟨hP1, hD1⟩ := hB
  try dsimp only at w15
  obtain ⟨hPa, hDa⟩ := hJn (w1 := []) hk1 ht hP1 hD1
  clear hP hD hPc hDc hFc hJn hP1 hD1 hk1
  have hP : va_P (dC, dI) vwCl [(ra 8, .inl (kI, 40, .inl q_from)), (ra 9, .inl (kI, 40, .inl q_to)), (m0, .inr (11, oX11 ra (upd x0 0 0))), (ra 2, .inl (kI, 8, .inl q_told))] H := hPa
  have hD : va_D A [(ra 8, .inl (kI, 40, .inl q_from)), (ra 9, .inl (kI, 40, .inl q_to)), (m0, .inr (11, oX11 ra (upd x0 0 0))), (ra 2, .inl (kI, 8, .inl q_told))] := hDa
  clear hPa hDa
  refine W.widen (k := 0) (n := 0) (Nat.le_of_ble_eq_true rfl) (Nat.le_of_ble_eq_true rfl) ?_
  refine lv_if_eq (tgt := 50) hx hb dX11_link_16 rfl (fun c16 => ?_) (fun c16 => ?_)
  · have b17 : iv 0 0 r14 := iv_eqL c16 ivk_0
    have hPD9 := cl_s (wc := [(m0, .inr (11, oX11 ra (upd x0 0 0))), (ra 2, .inl (kI, 8, .inl q_told)), (ra 8, .inl (kI, 40, .inl q_from)), (ra 9, .inl (kI, 40, .inl q_to))]) hP hD [2, 3, 0, 1] rfl (by decide +kernel)
    exact hJ50 (upd x0 0 0) _ _ _ ((fI_u hX (k := 0) ((iv_w ivk_0 (by decide) (by decide))))) (ivk_0) ((show x0 1 = x0 1 from rfl)) ((show x0 10 = x0 10 from rfl)) ((show x0 11 = x0 11 from rfl)) ((show x0 14 = x0 14 from rfl)) (hPD9.1) (hPD9.2) hS (lv_sub hl [0, 1, 2] rfl)
  · have b18 : iv 1 1 r14 := iv_neLo c16 w15.1 ivk_0 (by decide) (by decide)
    have hr19 := (w15.2).resolve_left (iv_ne b18 ivk_0 (by decide))
    have b20 : iv 0 19 p0 := iv_cap (in_iv hr19 ivk_0 b13) (iv_t p0) (by decide) (by decide)
    refine lv_iload_n hx hb dX11_link_19 rfl (lv_at hl 2 rfl) ?_
    refine lv_iconst (v := 0) hx hb dX11_link_20 ic_0 ?_
    refine lv_iconst (v := 1) hx hb dX11_link_21 ic_1 ?_
    obtain ⟨hPc, hDc, hFc, hJn⟩ := cl_a (wc := []) (wr := [(ra 8, .inl (kI, 40, .inl q_from)), (ra 9, .inl (kI, 40, .inl q_to)), (m0, .inr (11, oX11 ra (upd x0 0 0))), (ra 2, .inl (kI, 8, .inl q_told))]) hP hD hS hA [] [0, 1, 2, 3] rfl rfl (by decide +kernel)
    refine va_calli (va_runS (As := [.int p1, .int 0, .int 1]) (rest := []) ⟨hx, hb, hml, hown, hts⟩ (s11_isIn l dC dI kB kI kJ kZ kC kS H.size p1 0 1) (va_cwS 3 hts gX11_link_X11_isIn rfl rfl rfl (by decide +kernel) ⟨Nat.le_of_ble_eq_true rfl, Nat.le_of_ble_eq_true rfl⟩) ⟨fun a U g mk q => by obtain ⟨q0, q1, qP, qE, qD⟩ := q; exact ⟨q0, q1, qP, kE_call qE, qD⟩, fun U hU hW => ⟨rfl, by rw [hU], by rw [hU]; exact hPc, kE_warm hW hE, hDc.weaken (fun _ _ _ _ => trivial)⟩⟩ rfl rfl hl.1 rfl (lv_room (Nat.le_of_ble_eq_true rfl)) dX11_link_22 ⟨Nat.le_of_ble_eq_true rfl, Nat.le_of_ble_eq_true rfl⟩) hS (fun q _ h => hFc q h) hFc (fun r21 u t H locs ht hvm w22 hB hz1 hk1 hS => ?_)
    obtain ⟨hP1, hD1⟩ := hB
    try dsimp only at w22
    obtain ⟨hPa, hDa⟩ := hJn (w1 := []) hk1 ht hP1 hD1
    clear hP hD hPc hDc hFc hJn hP1 hD1 hk1
    have hP : va_P (dC, dI) vwCl [(ra 8, .inl (kI, 40, .inl q_from)), (ra 9, .inl (kI, 40, .inl q_to)), (m0, .inr (11, oX11 ra (upd x0 0 0))), (ra 2, .inl (kI, 8, .inl q_told))] H := hPa
    have hD : va_D A [(ra 8, .inl (kI, 40, .inl q_from)), (ra 9, .inl (kI, 40, .inl q_to)), (m0, .inr (11, oX11 ra (upd x0 0 0))), (ra 2, .inl (kI, 8, .inl q_told))] := hDa
    clear hPa hDa
    refine W.widen (k := 0) (n := 0) (Nat.le_of_ble_eq_true rfl) (Nat.le_of_ble_eq_true rfl) ?_
    refine lv_if_eq (tgt := 50) hx hb dX11_link_25 rfl (fun c23 => ?_) (fun c23 => ?_)
    · have b24 : iv 0 0 r21 := iv_eqL c23 ivk_0
      have hPD9 := cl_s (wc := [(m0, .inr (11, oX11 ra (upd x0 0 0))), (ra 2, .inl (kI, 8, .inl q_told)), (ra 8, .inl (kI, 40, .inl q_from)), (ra 9, .inl (kI, 40, .inl q_to))]) hP hD [2, 3, 0, 1] rfl (by decide +kernel)
      exact hJ50 (upd x0 0 0) _ _ _ ((fI_u hX (k := 0) ((iv_w ivk_0 (by decide) (by decide))))) (ivk_0) ((show x0 1 = x0 1 from rfl)) ((show x0 10 = x0 10 from rfl)) ((show x0 11 = x0 11 from rfl)) ((show x0 14 = x0 14 from rfl)) (hPD9.1) (hPD9.2) hS (lv_sub hl [0, 1, 2] rfl)
    · have b25 : iv 1 1 r21 := iv_neLo c23 w22.1 ivk_0 (by decide) (by decide)
      have hr26 := (w22.2).resolve_left (iv_ne b25 ivk_0 (by decide))
      have b27 : iv 0 1 p1 := iv_cap (in_iv hr26 ivk_0 ivk_1) (iv_t p1) (by decide) (by decide)
      refine lv_iload_n hx hb dX11_link_28 rfl (lv_at hl 2 rfl) ?_
      refine lv_if_ne (tgt := 41) hx hb dX11_link_29 rfl (fun c28 => ?_) (fun c28 => ?_)
      · have b29 : iv 1 1 p1 := iv_neLo c28 b27 ivk_0 (by decide) (by decide)
        refine lv_aload_n hx hb dX11_link_41 rfl (lv_at hl 0 rfl) ?_
        refine va_get (D := (dC, dI)) (ci := 11) (v := .ref (ra 9)) (C := RX11) (T := TX11) (N := 61) hx hb hts hin11 hown hK hP 2 rfl rfl 10 (Nat.le_of_ble_eq_true rfl) hw_1 (fun _ h9 => h9) rfl dX11_link_42 ?_
        refine lv_iload_n hx hb dX11_link_45 rfl (lv_at hl 1 rfl) ?_
        refine va_iald hx hb hK hP 1 1 rfl rfl (iv_in b20 (by decide) (by decide)) dX11_link_46 ?_
        refine iv_top (a := 0) (b := 11) (hq_to _) (fun z30 b31 => ?_)
        refine lv_goto (tgt := 55) hx hb dX11_link_47 rfl ?_
        have hPD9 := cl_s (wc := [(m0, .inr (11, oX11 ra (upd x0 0 0))), (ra 2, .inl (kI, 8, .inl q_told)), (ra 8, .inl (kI, 40, .inl q_from)), (ra 9, .inl (kI, 40, .inl q_to))]) hP hD [2, 3, 0, 1] rfl (by decide +kernel)
        have hP9 := hPD9.1
        have hD9 := hPD9.2
        exact W.iret (v := z30) hx hb hr (fun t ht hW => ⟨⟨z30, (), rfl, b31, upd x0 0 0, (fI_u hX (k := 0) ((iv_w ivk_0 (by decide) (by decide)))), (show x0 1 = x0 1 from rfl), (show x0 10 = x0 10 from rfl), (show x0 11 = x0 11 from rfl), (show x0 14 = x0 14 from rfl), by rw [ht]; exact hP9, hD9⟩, hS.F ht⟩) hS.2.2 dX11_link_55
      · have b32 : iv 0 0 p1 := iv_eqL c28 ivk_0
        refine lv_aload_n hx hb dX11_link_32 rfl (lv_at hl 0 rfl) ?_
        refine va_get (D := (dC, dI)) (ci := 11) (v := .ref (ra 8)) (C := RX11) (T := TX11) (N := 61) hx hb hts hin11 hown hK hP 2 rfl rfl 9 (Nat.le_of_ble_eq_true rfl) hw_2 (fun _ h9 => h9) rfl dX11_link_33 ?_
        refine lv_iload_n hx hb dX11_link_36 rfl (lv_at hl 1 rfl) ?_
        refine va_iald hx hb hK hP 0 1 rfl rfl (iv_in b20 (by decide) (by decide)) dX11_link_37 ?_
        refine iv_top (a := 0) (b := 11) (hq_from _) (fun z33 b34 => ?_)
        refine lv_goto (tgt := 55) hx hb dX11_link_38 rfl ?_
        have hPD9 := cl_s (wc := [(m0, .inr (11, oX11 ra (upd x0 0 0))), (ra 2, .inl (kI, 8, .inl q_told)), (ra 8, .inl (kI, 40, .inl q_from)), (ra 9, .inl (kI, 40, .inl q_to))]) hP hD [2, 3, 0, 1] rfl (by decide +kernel)
        have hP9 := hPD9.1
        have hD9 := hPD9.2
        exact W.iret (v := z33) hx hb hr (fun t ht hW => ⟨⟨z33, (), rfl, b34, upd x0 0 0, (fI_u hX (k := 0) ((iv_w ivk_0 (by decide) (by decide)))), (show x0 1 = x0 1 from rfl), (show x0 10 = x0 10 from rfl), (show x0 11 = x0 11 from rfl), (show x0 14 = x0 14 from rfl), by rw [ht]; exact hP9, hD9⟩, hS.F ht⟩) hS.2.2 dX11_link_55
