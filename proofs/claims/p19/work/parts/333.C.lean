def rm_s2_placesAt : Room := { frames := 2, cells := 0, slots := 0, locals := 49 }
set_option maxHeartbeats 4000000 in
set_option maxRecDepth 100000 in
theorem s2_placesAt (l : Launch) (dC : Nat → ClassId) (dI : Nat → Nat → Nat) (kB kI kJ kZ kC kS : ClassId) (sz : Nat) (on : Nat) (n_kind : Nat) (n_salt : Nat) (n_pace : Nat) (n_manner : Nat) (n_from : Nat) (n_to : Nat) (n_goal : Nat) (n_reach : Nat) (n_branches : Nat) (n_branch : Nat) (n_tally : Nat) (x_n : Nat → Int32) (f_n_to : Nat → Int32) (f_n_goal : Nat → Int32) (f_n_reach : Nat → Int32) (f_n_branches : Nat → Int32) (f_n_branch : Nat → Int32) (p0 : Int32) (p1 : Int32) (hx_n : fI lX2 hX2 x_n) (hf_n_to : fI (fun _ => 0) (fun _ => 11) f_n_to) (hf_n_goal : fI (fun _ => 0) (fun _ => 11) f_n_goal) (hf_n_branches : fI (fun _ => 0) (fun _ => 4) f_n_branches) (hf_n_branch : fI (fun _ => 0) (fun _ => 19) f_n_branch) (hp0 : iv 0 2 p0) : Met l yX2_placesAt wsX2_placesAt rm_s2_placesAt (va_Pc [.ref on, .int p0, .int p1] (fun U => U.heap.size = sz ∧ va_P (dC, dI) vwCl [(on, .inr (2, oX2 n_kind n_salt n_pace n_manner n_from n_to n_goal n_reach n_branches n_branch n_tally x_n)), (n_to, .inl (kI, 20, .inl f_n_to)), (n_goal, .inl (kI, 3, .inl f_n_goal)), (n_reach, .inl (kI, 12, .inl f_n_reach)), (n_branches, .inl (kI, 36, .inl f_n_branches)), (n_branch, .inl (kI, 144, .inl f_n_branch))] U.heap ∧ kE dC dI kB kI kJ kZ kC kS U ∧ va_D (fun _ => True) [(on, .inr (2, oX2 n_kind n_salt n_pace n_manner n_from n_to n_goal n_reach n_branches n_branch n_tally x_n)), (n_to, .inl (kI, 20, .inl f_n_to)), (n_goal, .inl (kI, 3, .inl f_n_goal)), (n_reach, .inl (kI, 12, .inl f_n_reach)), (n_branches, .inl (kI, 36, .inl f_n_branches)), (n_branch, .inl (kI, 144, .inl f_n_branch))])) (va_Qi (fun (r : Int32) (_ : Unit) => True) (fun _ t => va_P (dC, dI) vwCl [(on, .inr (2, oX2 n_kind n_salt n_pace n_manner n_from n_to n_goal n_reach n_branches n_branch n_tally x_n)), (n_to, .inl (kI, 20, .inl f_n_to)), (n_goal, .inl (kI, 3, .inl f_n_goal)), (n_reach, .inl (kI, 12, .inl f_n_reach)), (n_branches, .inl (kI, 36, .inl f_n_branches)), (n_branch, .inl (kI, 144, .inl f_n_branch))] t.heap ∧ va_D (va_A [(on, .inr (2, oX2 n_kind n_salt n_pace n_manner n_from n_to n_goal n_reach n_branches n_branch n_tally x_n)), (n_to, .inl (kI, 20, .inl f_n_to)), (n_goal, .inl (kI, 3, .inl f_n_goal)), (n_reach, .inl (kI, 12, .inl f_n_reach)), (n_branches, .inl (kI, 36, .inl f_n_branches)), (n_branch, .inl (kI, 144, .inl f_n_branch))] sz) [(on, .inr (2, oX2 n_kind n_salt n_pace n_manner n_from n_to n_goal n_reach n_branches n_branch n_tally x_n)), (n_to, .inl (kI, 20, .inl f_n_to)), (n_goal, .inl (kI, 3, .inl f_n_goal)), (n_reach, .inl (kI, 12, .inl f_n_reach)), (n_branches, .inl (kI, 36, .inl f_n_branches)), (n_branch, .inl (kI, 144, .inl f_n_branch))]) (va_A [(on, .inr (2, oX2 n_kind n_salt n_pace n_manner n_from n_to n_goal n_reach n_branches n_branch n_tally x_n)), (n_to, .inl (kI, 20, .inl f_n_to)), (n_goal, .inl (kI, 3, .inl f_n_goal)), (n_reach, .inl (kI, 12, .inl f_n_reach)), (n_branches, .inl (kI, 36, .inl f_n_branches)), (n_branch, .inl (kI, 144, .inl f_n_branch))] sz)) 0 0 (va_A [(on, .inr (2, oX2 n_kind n_salt n_pace n_manner n_from n_to n_goal n_reach n_branches n_branch n_tally x_n)), (n_to, .inl (kI, 20, .inl f_n_to)), (n_goal, .inl (kI, 3, .inl f_n_goal)), (n_reach, .inl (kI, 12, .inl f_n_reach)), (n_branches, .inl (kI, 36, .inl f_n_branches)), (n_branch, .inl (kI, 144, .inl f_n_branch))] sz) := by
  refine Met.ofW (cc := cX2_placesAt) (maxL := 5) (ret := (some .int)) (by decide) rfl ?_
  intro p e s m args0 below meth c s₁ B hml hv
  obtain ⟨hargs, hsz, hP, hE, hD0⟩ := hv
  have hx := B.exec
  have hb := B.bytes
  have hr := B.returns
  have hts := atoms_spec (ws := wsX2_placesAt) B.pre
  have hown : s.vm.findClass RX2 = some m.cls := findClass_of_methodNamed B.named
  have hlocks := B.notSynchronized
  have hK := hE.1
  have hin2 : ∀ w ∈ wsX20, w ∈ wsX2_placesAt := fun _ h9 => List.mem_cons_of_mem _ (List.mem_append_right _ h9)
  have hw_0 := hts (.fieldLink RX2 30 "PathProber$Net" "goal" "[I") (List.mem_of_getElem? (i := 1) rfl)
  subst hsz
  have hD := hD0.self (sz := s.heap.size)
  generalize hAe : va_A [(on, .inr (2, oX2 n_kind n_salt n_pace n_manner n_from n_to n_goal n_reach n_branches n_branch n_tally x_n)), (n_to, .inl (kI, 20, .inl f_n_to)), (n_goal, .inl (kI, 3, .inl f_n_goal)), (n_reach, .inl (kI, 12, .inl f_n_reach)), (n_branches, .inl (kI, 36, .inl f_n_branches)), (n_branch, .inl (kI, 144, .inl f_n_branch))] s.heap.size = A at hD ⊢
  have hA : ∀ q : Nat, s.heap.size ≤ q → A q := fun q h => by rw [← hAe]; exact Or.inr h
  have hS : va_S A s.heap s.heap [] := va_S.rf
  have hP : va_P (dC, dI) vwCl [(on, .inr (2, oX2 n_kind n_salt n_pace n_manner n_from n_to n_goal n_reach n_branches n_branch n_tally x_n)), (n_to, .inl (kI, 20, .inl f_n_to)), (n_goal, .inl (kI, 3, .inl f_n_goal)), (n_reach, .inl (kI, 12, .inl f_n_reach)), (n_branches, .inl (kI, 36, .inl f_n_branches)), (n_branch, .inl (kI, 144, .inl f_n_branch))] s.heap := hP
  have hl := lv_entry ([.ref on, .int p0, .int p1]) (n := 5) (Nat.le_of_ble_eq_true rfl)
  have hla : entryFrame m args0 5 = entryFrame m ([.ref on, .int p0, .int p1] : List Value).toArray 5 := by rw [hargs]
  rw [hla, lg_entry_eq]
  generalize (lg_sl ([.ref on, .int p0, .int p1]) ++ List.replicate (5 - (lg_sl ([.ref on, .int p0, .int p1])).length) Slot.unset).toArray = ls at hl ⊢
  have hl : lv_has ls 5 [(0, .ref on), (1, .int p0), (2, .int p1)] := hl
  have hJ23 : ∀ (n : Nat) (v23_loc3 : Int32) (v23_loc4 : Int32) (H : Heap) (locs : List Loc) (ls : Array Slot), (2147483647 - v23_loc4.toInt).toNat < n → iv 1 2147483647 v23_loc4 → va_P (dC, dI) vwCl [(on, .inr (2, oX2 n_kind n_salt n_pace n_manner n_from n_to n_goal n_reach n_branches n_branch n_tally x_n)), (n_to, .inl (kI, 20, .inl f_n_to)), (n_goal, .inl (kI, 3, .inl f_n_goal)), (n_reach, .inl (kI, 12, .inl f_n_reach)), (n_branches, .inl (kI, 36, .inl f_n_branches)), (n_branch, .inl (kI, 144, .inl f_n_branch))] H → va_D A [(on, .inr (2, oX2 n_kind n_salt n_pace n_manner n_from n_to n_goal n_reach n_branches n_branch n_tally x_n)), (n_to, .inl (kI, 20, .inl f_n_to)), (n_goal, .inl (kI, 3, .inl f_n_goal)), (n_reach, .inl (kI, 12, .inl f_n_reach)), (n_branches, .inl (kI, 36, .inl f_n_branches)), (n_branch, .inl (kI, 144, .inl f_n_branch))] → va_S A s.heap H locs → lv_has ls 5 [(0, .ref on), (1, .int p0), (2, .int p1), (3, .int v23_loc3), (4, .int v23_loc4)] → W p l e (headSpec wsX2_placesAt rm_s2_placesAt).room s m args0 below meth c H locs (0) (0) (MQ below (va_Qi (fun (r : Int32) (_ : Unit) => True) (fun _ t => va_P (dC, dI) vwCl [(on, .inr (2, oX2 n_kind n_salt n_pace n_manner n_from n_to n_goal n_reach n_branches n_branch n_tally x_n)), (n_to, .inl (kI, 20, .inl f_n_to)), (n_goal, .inl (kI, 3, .inl f_n_goal)), (n_reach, .inl (kI, 12, .inl f_n_reach)), (n_branches, .inl (kI, 36, .inl f_n_branches)), (n_branch, .inl (kI, 144, .inl f_n_branch))] t.heap ∧ va_D A [(on, .inr (2, oX2 n_kind n_salt n_pace n_manner n_from n_to n_goal n_reach n_branches n_branch n_tally x_n)), (n_to, .inl (kI, 20, .inl f_n_to)), (n_goal, .inl (kI, 3, .inl f_n_goal)), (n_reach, .inl (kI, 12, .inl f_n_reach)), (n_branches, .inl (kI, 36, .inl f_n_branches)), (n_branch, .inl (kI, 144, .inl f_n_branch))]) A) args0 s 0 0 A) (F0 m 23 ls []) := by
    intro n
    induction n with
    | zero => intro v23_loc3 v23_loc4 H locs ls hm23; exact absurd hm23 (Nat.not_lt_zero _)
    | succ n ih23 =>
      intro v23_loc3 v23_loc4 H locs ls hm23 h23_1 hP hD hS hl
      refine lv_iload hx hb dX2_placesAt_23 (lv_at hl 4 rfl) ?_
      refine lv_iload_n hx hb dX2_placesAt_25 rfl (lv_at hl 2 rfl) ?_
      refine lv_icmp_ge (tgt := 42) hx hb dX2_placesAt_26 rfl (fun c1 => ?_) (fun c1 => ?_)
      · refine lv_iload_n hx hb dX2_placesAt_42 rfl (lv_at hl 3 rfl) ?_
        have hP9 := hP
        have hD9 := hD
        exact W.iret (v := v23_loc3) hx hb hr (fun t ht hW => ⟨⟨v23_loc3, (), rfl, trivial, by rw [ht]; exact hP9, hD9⟩, hS.F ht⟩) hS.2.2 dX2_placesAt_43
      · have b2 : iv 1 2147483646 v23_loc4 := iv_ltL (Int32.not_le.mp c1) h23_1 (iv_t p1) (by decide) (by decide)
        have b3 : iv 2 2147483647 p1 := iv_ltR (Int32.not_le.mp c1) h23_1 (iv_t p1) (by decide) (by decide)
        refine lv_aload_n hx hb dX2_placesAt_29 rfl (lv_at hl 0 rfl) ?_
        refine lv_iload_n hx hb dX2_placesAt_30 rfl (lv_at hl 1 rfl) ?_
        refine lv_iload_n hx hb dX2_placesAt_31 rfl (lv_at hl 3 rfl) ?_
        obtain ⟨hPc, hDc, hFc, hJn⟩ := cl_a (wc := [(on, .inr (2, oX2 n_kind n_salt n_pace n_manner n_from n_to n_goal n_reach n_branches n_branch n_tally x_n)), (n_to, .inl (kI, 20, .inl f_n_to)), (n_branches, .inl (kI, 36, .inl f_n_branches)), (n_branch, .inl (kI, 144, .inl f_n_branch))]) (wr := [(n_goal, .inl (kI, 3, .inl f_n_goal)), (n_reach, .inl (kI, 12, .inl f_n_reach))]) hP hD hS hA [0, 1, 4, 5] [2, 3] rfl rfl (by decide +kernel)
        refine va_calli (va_runV (As := [.int p0, .int v23_loc3]) (rest := []) ⟨hx, hb, hml, hown, hts⟩ (s2_placesBehind l dC dI kB kI kJ kZ kC kS H.size on n_kind n_salt n_pace n_manner n_from n_to n_goal n_reach n_branches n_branch n_tally x_n f_n_to f_n_branches f_n_branch p0 v23_loc3 (hx_n) (hf_n_to) (hf_n_branches) (hf_n_branch) (hp0)) (cwV 2 hts gX2_placesAt_X2_placesBehind rfl rfl rfl (by decide +kernel) ⟨Nat.le_of_ble_eq_true rfl, Nat.le_of_ble_eq_true rfl⟩) ⟨fun a U g mk q => by obtain ⟨q0, q1, qP, qE, qD⟩ := q; exact ⟨q0, q1, qP, kE_call qE, qD⟩, va_recv hK hP (ci := 2) (q0 := 0) rfl rfl, fun U hU hW => ⟨rfl, by rw [hU], by rw [hU]; exact hPc, kE_warm hW hE, hDc.weaken (fun _ _ _ _ => trivial)⟩⟩ rfl rfl hl.1 rfl (lv_room (Nat.le_of_ble_eq_true rfl)) dX2_placesAt_32 ⟨Nat.le_of_ble_eq_true rfl, Nat.le_of_ble_eq_true rfl⟩) hS (fun q _ h => hFc q h) hFc (fun r4 u t H locs ht hvm w5 hB hz1 hk1 hS => ?_)
        obtain ⟨hP1, hD1⟩ := hB
        try dsimp only at w5
        obtain ⟨hPa, hDa⟩ := hJn (w1 := [(on, .inr (2, oX2 n_kind n_salt n_pace n_manner n_from n_to n_goal n_reach n_branches n_branch n_tally x_n)), (n_to, .inl (kI, 20, .inl f_n_to)), (n_branches, .inl (kI, 36, .inl f_n_branches)), (n_branch, .inl (kI, 144, .inl f_n_branch))]) hk1 ht hP1 hD1
        clear hP hD hPc hDc hFc hJn hP1 hD1 hk1
        have hP : va_P (dC, dI) vwCl [(n_goal, .inl (kI, 3, .inl f_n_goal)), (n_reach, .inl (kI, 12, .inl f_n_reach)), (on, .inr (2, oX2 n_kind n_salt n_pace n_manner n_from n_to n_goal n_reach n_branches n_branch n_tally x_n)), (n_to, .inl (kI, 20, .inl f_n_to)), (n_branches, .inl (kI, 36, .inl f_n_branches)), (n_branch, .inl (kI, 144, .inl f_n_branch))] H := hPa
        have hD : va_D A [(n_goal, .inl (kI, 3, .inl f_n_goal)), (n_reach, .inl (kI, 12, .inl f_n_reach)), (on, .inr (2, oX2 n_kind n_salt n_pace n_manner n_from n_to n_goal n_reach n_branches n_branch n_tally x_n)), (n_to, .inl (kI, 20, .inl f_n_to)), (n_branches, .inl (kI, 36, .inl f_n_branches)), (n_branch, .inl (kI, 144, .inl f_n_branch))] := hDa
        clear hPa hDa
        refine W.widen (k := 0) (n := 0) (Nat.le_of_ble_eq_true rfl) (Nat.le_of_ble_eq_true rfl) ?_
        refine lv_istore_n (lv' := [(3, .int r4), (0, .ref on), (1, .int p0), (2, .int p1), (4, .int v23_loc4)]) hx hb dX2_placesAt_35 rfl hl (Nat.le_of_ble_eq_true rfl) rfl (fun ls hl => ?_)
        refine lv_iinc (v := v23_loc4 + Int32.ofInt 1) (lv' := [(4, .int (v23_loc4 + Int32.ofInt 1)), (3, .int r4), (0, .ref on), (1, .int p0), (2, .int p1)]) hx hb dX2_placesAt_36 hl (k := 4) rfl (rfl) (Nat.le_of_ble_eq_true rfl) rfl (fun ls hl => ?_)
        have b6 : iv 2 2147483647 (v23_loc4 + Int32.ofInt 1) := iv_add b2 ivo_1 (by decide) (by decide) (by decide) (by decide)
        refine lv_goto (tgt := 23) hx hb dX2_placesAt_39 rfl ?_
        have hPD9 := cl_s (wc := [(on, .inr (2, oX2 n_kind n_salt n_pace n_manner n_from n_to n_goal n_reach n_branches n_branch n_tally x_n)), (n_to, .inl (kI, 20, .inl f_n_to)), (n_goal, .inl (kI, 3, .inl f_n_goal)), (n_reach, .inl (kI, 12, .inl f_n_reach)), (n_branches, .inl (kI, 36, .inl f_n_branches)), (n_branch, .inl (kI, 144, .inl f_n_branch))]) hP hD [2, 3, 0, 1, 4, 5] rfl (by decide +kernel)
        exact ih23 r4 (v23_loc4 + Int32.ofInt 1) _ _ _ (ms_up (c := 1) (d := 0) b2 hm23 (by decide) (iv_inc 1 b2 (by decide) (by decide) (by decide) (by decide)) (by decide) rfl) ((iv_w b6 (by decide) (by decide))) (hPD9.1) (hPD9.2) hS (lv_sub hl [2, 3, 4, 1, 0] rfl)
  have hJ19 : ∀ (v19_stk0 : Int32) (H : Heap) (locs : List Loc) (ls : Array Slot), iv 0 1 v19_stk0 → va_P (dC, dI) vwCl [(on, .inr (2, oX2 n_kind n_salt n_pace n_manner n_from n_to n_goal n_reach n_branches n_branch n_tally x_n)), (n_to, .inl (kI, 20, .inl f_n_to)), (n_goal, .inl (kI, 3, .inl f_n_goal)), (n_reach, .inl (kI, 12, .inl f_n_reach)), (n_branches, .inl (kI, 36, .inl f_n_branches)), (n_branch, .inl (kI, 144, .inl f_n_branch))] H → va_D A [(on, .inr (2, oX2 n_kind n_salt n_pace n_manner n_from n_to n_goal n_reach n_branches n_branch n_tally x_n)), (n_to, .inl (kI, 20, .inl f_n_to)), (n_goal, .inl (kI, 3, .inl f_n_goal)), (n_reach, .inl (kI, 12, .inl f_n_reach)), (n_branches, .inl (kI, 36, .inl f_n_branches)), (n_branch, .inl (kI, 144, .inl f_n_branch))] → va_S A s.heap H locs → lv_has ls 5 [(0, .ref on), (1, .int p0), (2, .int p1)] → W p l e (headSpec wsX2_placesAt rm_s2_placesAt).room s m args0 below meth c H locs (0) (0) (MQ below (va_Qi (fun (r : Int32) (_ : Unit) => True) (fun _ t => va_P (dC, dI) vwCl [(on, .inr (2, oX2 n_kind n_salt n_pace n_manner n_from n_to n_goal n_reach n_branches n_branch n_tally x_n)), (n_to, .inl (kI, 20, .inl f_n_to)), (n_goal, .inl (kI, 3, .inl f_n_goal)), (n_reach, .inl (kI, 12, .inl f_n_reach)), (n_branches, .inl (kI, 36, .inl f_n_branches)), (n_branch, .inl (kI, 144, .inl f_n_branch))] t.heap ∧ va_D A [(on, .inr (2, oX2 n_kind n_salt n_pace n_manner n_from n_to n_goal n_reach n_branches n_branch n_tally x_n)), (n_to, .inl (kI, 20, .inl f_n_to)), (n_goal, .inl (kI, 3, .inl f_n_goal)), (n_reach, .inl (kI, 12, .inl f_n_reach)), (n_branches, .inl (kI, 36, .inl f_n_branches)), (n_branch, .inl (kI, 144, .inl f_n_branch))]) A) args0 s 0 0 A) (F0 m 19 ls [.int v19_stk0]) := by
    intro v19_stk0 H locs ls h19_1 hP hD hS hl
    refine lv_istore_n (lv' := [(3, .int v19_stk0), (0, .ref on), (1, .int p0), (2, .int p1)]) hx hb dX2_placesAt_19 rfl hl (Nat.le_of_ble_eq_true rfl) rfl (fun ls hl => ?_)
    refine lv_iconst (v := 1) hx hb dX2_placesAt_20 ic_1 ?_
    refine lv_istore (lv' := [(4, .int 1), (3, .int v19_stk0), (0, .ref on), (1, .int p0), (2, .int p1)]) hx hb dX2_placesAt_21 hl (Nat.le_of_ble_eq_true rfl) rfl (fun ls hl => ?_)
    exact hJ23 _ v19_stk0 1 _ _ _ (Nat.lt_succ_self _) ((iv_w ivk_1 (by decide) (by decide))) (hP) (hD) hS (lv_sub hl [2, 3, 4, 1, 0] rfl)
  refine lv_aload_n hx hb dX2_placesAt_0 rfl (lv_at hl 0 rfl) ?_
  refine lv_iconst (v := 0) hx hb dX2_placesAt_1 ic_0 ?_
  refine lv_aload_n hx hb dX2_placesAt_2 rfl (lv_at hl 0 rfl) ?_
  refine va_get (D := (dC, dI)) (ci := 2) (v := .ref n_goal) (C := RX2) (T := TX2) (N := 15) hx hb hts hin2 hown hK hP 0 rfl rfl 6 (Nat.le_of_ble_eq_true rfl) hw_0 (fun _ h9 => h9) rfl dX2_placesAt_3 ?_
  refine lv_iload_n hx hb dX2_placesAt_6 rfl (lv_at hl 1 rfl) ?_
  refine va_iald hx hb hK hP 2 1 rfl rfl (iv_in hp0 (by decide) (by decide)) dX2_placesAt_7 ?_
  refine iv_top (a := 0) (b := 11) (hf_n_goal _) (fun z7 b8 => ?_)
  obtain ⟨hPc, hDc, hFc, hJn⟩ := cl_a (wc := [(on, .inr (2, oX2 n_kind n_salt n_pace n_manner n_from n_to n_goal n_reach n_branches n_branch n_tally x_n)), (n_reach, .inl (kI, 12, .inl f_n_reach))]) (wr := [(n_to, .inl (kI, 20, .inl f_n_to)), (n_goal, .inl (kI, 3, .inl f_n_goal)), (n_branches, .inl (kI, 36, .inl f_n_branches)), (n_branch, .inl (kI, 144, .inl f_n_branch))]) hP hD hS hA [0, 3] [1, 2, 4, 5] rfl rfl (by decide +kernel)
  refine va_calli (va_runV (As := [.int 0, .int z7]) (rest := []) ⟨hx, hb, hml, hown, hts⟩ (s2_comesTo l dC dI kB kI kJ kZ kC kS s.heap.size on n_kind n_salt n_pace n_manner n_from n_to n_goal n_reach n_branches n_branch n_tally x_n f_n_reach 0 z7 (hx_n) ((iv_w ivk_0 (by decide) (by decide)))) (cwV 2 hts gX2_placesAt_X2_comesTo rfl rfl rfl (by decide +kernel) ⟨Nat.le_of_ble_eq_true rfl, Nat.le_of_ble_eq_true rfl⟩) ⟨fun a U g mk q => by obtain ⟨q0, q1, qP, qE, qD⟩ := q; exact ⟨q0, q1, qP, kE_call qE, qD⟩, va_recv hK hP (ci := 2) (q0 := 0) rfl rfl, fun U hU hW => ⟨rfl, by rw [hU], by rw [hU]; exact hPc, kE_warm hW hE, hDc.weaken (fun _ _ _ _ => trivial)⟩⟩ rfl rfl hl.1 rfl (lv_room (Nat.le_of_ble_eq_true rfl)) dX2_placesAt_8 ⟨Nat.le_of_ble_eq_true rfl, Nat.le_of_ble_eq_true rfl⟩) hS (fun q _ h => hFc q h) hFc (fun r9 u t H locs ht hvm w10 hB hz1 hk1 hS => ?_)
  obtain ⟨hP1, hD1⟩ := hB
  try dsimp only at w10
  obtain ⟨hPa, hDa⟩ := hJn (w1 := [(on, .inr (2, oX2 n_kind n_salt n_pace n_manner n_from n_to n_goal n_reach n_branches n_branch n_tally x_n)), (n_reach, .inl (kI, 12, .inl f_n_reach))]) hk1 ht hP1 hD1
  clear hP hD hPc hDc hFc hJn hP1 hD1 hk1
  have hP : va_P (dC, dI) vwCl [(n_to, .inl (kI, 20, .inl f_n_to)), (n_goal, .inl (kI, 3, .inl f_n_goal)), (n_branches, .inl (kI, 36, .inl f_n_branches)), (n_branch, .inl (kI, 144, .inl f_n_branch)), (on, .inr (2, oX2 n_kind n_salt n_pace n_manner n_from n_to n_goal n_reach n_branches n_branch n_tally x_n)), (n_reach, .inl (kI, 12, .inl f_n_reach))] H := hPa
  have hD : va_D A [(n_to, .inl (kI, 20, .inl f_n_to)), (n_goal, .inl (kI, 3, .inl f_n_goal)), (n_branches, .inl (kI, 36, .inl f_n_branches)), (n_branch, .inl (kI, 144, .inl f_n_branch)), (on, .inr (2, oX2 n_kind n_salt n_pace n_manner n_from n_to n_goal n_reach n_branches n_branch n_tally x_n)), (n_reach, .inl (kI, 12, .inl f_n_reach))] := hDa
  clear hPa hDa
  refine W.widen (k := 0) (n := 0) (Nat.le_of_ble_eq_true rfl) (Nat.le_of_ble_eq_true rfl) ?_
  refine lv_if_eq (tgt := 18) hx hb dX2_placesAt_11 rfl (fun c11 => ?_) (fun c11 => ?_)
  · have b12 : iv 0 0 r9 := iv_eqL c11 ivk_0
    refine lv_iconst (v := 0) hx hb dX2_placesAt_18 ic_0 ?_
    have hPD9 := cl_s (wc := [(on, .inr (2, oX2 n_kind n_salt n_pace n_manner n_from n_to n_goal n_reach n_branches n_branch n_tally x_n)), (n_to, .inl (kI, 20, .inl f_n_to)), (n_goal, .inl (kI, 3, .inl f_n_goal)), (n_reach, .inl (kI, 12, .inl f_n_reach)), (n_branches, .inl (kI, 36, .inl f_n_branches)), (n_branch, .inl (kI, 144, .inl f_n_branch))]) hP hD [4, 0, 1, 5, 2, 3] rfl (by decide +kernel)
    exact hJ19 0 _ _ _ ((iv_w ivk_0 (by decide) (by decide))) (hPD9.1) (hPD9.2) hS (lv_sub hl [0, 1, 2] rfl)
  · have b13 : iv 1 1 r9 := iv_neLo c11 w10 ivk_0 (by decide) (by decide)
    refine lv_iconst (v := 1) hx hb dX2_placesAt_14 ic_1 ?_
    refine lv_goto (tgt := 19) hx hb dX2_placesAt_15 rfl ?_
    have hPD9 := cl_s (wc := [(on, .inr (2, oX2 n_kind n_salt n_pace n_manner n_from n_to n_goal n_reach n_branches n_branch n_tally x_n)), (n_to, .inl (kI, 20, .inl f_n_to)), (n_goal, .inl (kI, 3, .inl f_n_goal)), (n_reach, .inl (kI, 12, .inl f_n_reach)), (n_branches, .inl (kI, 36, .inl f_n_branches)), (n_branch, .inl (kI, 144, .inl f_n_branch))]) hP hD [4, 0, 1, 5, 2, 3] rfl (by decide +kernel)
    exact hJ19 1 _ _ _ ((iv_w ivk_1 (by decide) (by decide))) (hPD9.1) (hPD9.2) hS (lv_sub hl [0, 1, 2] rfl)
def rm_s2_linksOnWaysTo : Room := { frames := 1, cells := 0, slots := 0, locals := 22 }
set_option maxHeartbeats 4000000 in
set_option maxRecDepth 100000 in
theorem s2_linksOnWaysTo (l : Launch) (dC : Nat → ClassId) (dI : Nat → Nat → Nat) (kB kI kJ kZ kC kS : ClassId) (sz : Nat) (on : Nat) (n_kind : Nat) (n_salt : Nat) (n_pace : Nat) (n_manner : Nat) (n_from : Nat) (n_to : Nat) (n_goal : Nat) (n_reach : Nat) (n_branches : Nat) (n_branch : Nat) (n_tally : Nat) (x_n : Nat → Int32) (f_n_from : Nat → Int32) (f_n_to : Nat → Int32) (f_n_goal : Nat → Int32) (f_n_reach : Nat → Int32) (p0 : Int32) (hx_n : fI lX2 hX2 x_n) (hf_n_from : fI (fun _ => 0) (fun _ => 11) f_n_from) (hf_n_to : fI (fun _ => 0) (fun _ => 11) f_n_to) (hf_n_goal : fI (fun _ => 0) (fun _ => 11) f_n_goal) (hp0 : iv 0 2 p0) : Met l yX2_linksOnWaysTo wsX2_linksOnWaysTo rm_s2_linksOnWaysTo (va_Pc [.ref on, .int p0] (fun U => U.heap.size = sz ∧ va_P (dC, dI) vwCl [(on, .inr (2, oX2 n_kind n_salt n_pace n_manner n_from n_to n_goal n_reach n_branches n_branch n_tally x_n)), (n_from, .inl (kI, 20, .inl f_n_from)), (n_to, .inl (kI, 20, .inl f_n_to)), (n_goal, .inl (kI, 3, .inl f_n_goal)), (n_reach, .inl (kI, 12, .inl f_n_reach))] U.heap ∧ kE dC dI kB kI kJ kZ kC kS U ∧ va_D (fun _ => True) [(on, .inr (2, oX2 n_kind n_salt n_pace n_manner n_from n_to n_goal n_reach n_branches n_branch n_tally x_n)), (n_from, .inl (kI, 20, .inl f_n_from)), (n_to, .inl (kI, 20, .inl f_n_to)), (n_goal, .inl (kI, 3, .inl f_n_goal)), (n_reach, .inl (kI, 12, .inl f_n_reach))])) (va_Qi (fun (r : Int32) (_ : Unit) => True) (fun _ t => va_P (dC, dI) vwCl [(on, .inr (2, oX2 n_kind n_salt n_pace n_manner n_from n_to n_goal n_reach n_branches n_branch n_tally x_n)), (n_from, .inl (kI, 20, .inl f_n_from)), (n_to, .inl (kI, 20, .inl f_n_to)), (n_goal, .inl (kI, 3, .inl f_n_goal)), (n_reach, .inl (kI, 12, .inl f_n_reach))] t.heap ∧ va_D (va_A [(on, .inr (2, oX2 n_kind n_salt n_pace n_manner n_from n_to n_goal n_reach n_branches n_branch n_tally x_n)), (n_from, .inl (kI, 20, .inl f_n_from)), (n_to, .inl (kI, 20, .inl f_n_to)), (n_goal, .inl (kI, 3, .inl f_n_goal)), (n_reach, .inl (kI, 12, .inl f_n_reach))] sz) [(on, .inr (2, oX2 n_kind n_salt n_pace n_manner n_from n_to n_goal n_reach n_branches n_branch n_tally x_n)), (n_from, .inl (kI, 20, .inl f_n_from)), (n_to, .inl (kI, 20, .inl f_n_to)), (n_goal, .inl (kI, 3, .inl f_n_goal)), (n_reach, .inl (kI, 12, .inl f_n_reach))]) (va_A [(on, .inr (2, oX2 n_kind n_salt n_pace n_manner n_from n_to n_goal n_reach n_branches n_branch n_tally x_n)), (n_from, .inl (kI, 20, .inl f_n_from)), (n_to, .inl (kI, 20, .inl f_n_to)), (n_goal, .inl (kI, 3, .inl f_n_goal)), (n_reach, .inl (kI, 12, .inl f_n_reach))] sz)) 0 0 (va_A [(on, .inr (2, oX2 n_kind n_salt n_pace n_manner n_from n_to n_goal n_reach n_branches n_branch n_tally x_n)), (n_from, .inl (kI, 20, .inl f_n_from)), (n_to, .inl (kI, 20, .inl f_n_to)), (n_goal, .inl (kI, 3, .inl f_n_goal)), (n_reach, .inl (kI, 12, .inl f_n_reach))] sz) := by
  refine Met.ofW (cc := cX2_linksOnWaysTo) (maxL := 4) (ret := (some .int)) (by decide) rfl ?_
  intro p e s m args0 below meth c s₁ B hml hv
  obtain ⟨hargs, hsz, hP, hE, hD0⟩ := hv
  have hx := B.exec
  have hb := B.bytes
  have hr := B.returns
  have hts := atoms_spec (ws := wsX2_linksOnWaysTo) B.pre
  have hown : s.vm.findClass RX2 = some m.cls := findClass_of_methodNamed B.named
  have hlocks := B.notSynchronized
  have hK := hE.1
  have hin2 : ∀ w ∈ wsX20, w ∈ wsX2_linksOnWaysTo := fun _ h9 => List.mem_cons_of_mem _ (List.mem_append_right _ h9)
  have hw_0 := hts (.fieldLink RX2 37 "PathProber$Net" "links" "I") (List.mem_of_getElem? (i := 1) rfl)
  have hw_1 := hts (.fieldLink RX2 24 "PathProber$Net" "from" "[I") (List.mem_of_getElem? (i := 2) rfl)
  have hw_2 := hts (.fieldLink RX2 27 "PathProber$Net" "to" "[I") (List.mem_of_getElem? (i := 3) rfl)
  have hw_3 := hts (.fieldLink RX2 30 "PathProber$Net" "goal" "[I") (List.mem_of_getElem? (i := 4) rfl)
  subst hsz
  have hD := hD0.self (sz := s.heap.size)
  generalize hAe : va_A [(on, .inr (2, oX2 n_kind n_salt n_pace n_manner n_from n_to n_goal n_reach n_branches n_branch n_tally x_n)), (n_from, .inl (kI, 20, .inl f_n_from)), (n_to, .inl (kI, 20, .inl f_n_to)), (n_goal, .inl (kI, 3, .inl f_n_goal)), (n_reach, .inl (kI, 12, .inl f_n_reach))] s.heap.size = A at hD ⊢
  have hA : ∀ q : Nat, s.heap.size ≤ q → A q := fun q h => by rw [← hAe]; exact Or.inr h
  have hS : va_S A s.heap s.heap [] := va_S.rf
  have hP : va_P (dC, dI) vwCl [(on, .inr (2, oX2 n_kind n_salt n_pace n_manner n_from n_to n_goal n_reach n_branches n_branch n_tally x_n)), (n_from, .inl (kI, 20, .inl f_n_from)), (n_to, .inl (kI, 20, .inl f_n_to)), (n_goal, .inl (kI, 3, .inl f_n_goal)), (n_reach, .inl (kI, 12, .inl f_n_reach))] s.heap := hP
  have hl := lv_entry ([.ref on, .int p0]) (n := 4) (Nat.le_of_ble_eq_true rfl)
  have hla : entryFrame m args0 4 = entryFrame m ([.ref on, .int p0] : List Value).toArray 4 := by rw [hargs]
  rw [hla, lg_entry_eq]
  generalize (lg_sl ([.ref on, .int p0]) ++ List.replicate (4 - (lg_sl ([.ref on, .int p0])).length) Slot.unset).toArray = ls at hl ⊢
  have hl : lv_has ls 4 [(0, .ref on), (1, .int p0)] := hl
  have hJ4 : ∀ (n : Nat) (v4_loc2 : Int32) (v4_loc3 : Int32) (H : Heap) (locs : List Loc) (ls : Array Slot), (20 - v4_loc3.toInt).toNat < n → iv 0 20 v4_loc3 → va_P (dC, dI) vwCl [(on, .inr (2, oX2 n_kind n_salt n_pace n_manner n_from n_to n_goal n_reach n_branches n_branch n_tally x_n)), (n_from, .inl (kI, 20, .inl f_n_from)), (n_to, .inl (kI, 20, .inl f_n_to)), (n_goal, .inl (kI, 3, .inl f_n_goal)), (n_reach, .inl (kI, 12, .inl f_n_reach))] H → va_D A [(on, .inr (2, oX2 n_kind n_salt n_pace n_manner n_from n_to n_goal n_reach n_branches n_branch n_tally x_n)), (n_from, .inl (kI, 20, .inl f_n_from)), (n_to, .inl (kI, 20, .inl f_n_to)), (n_goal, .inl (kI, 3, .inl f_n_goal)), (n_reach, .inl (kI, 12, .inl f_n_reach))] → va_S A s.heap H locs → lv_has ls 4 [(0, .ref on), (1, .int p0), (2, .int v4_loc2), (3, .int v4_loc3)] → W p l e (headSpec wsX2_linksOnWaysTo rm_s2_linksOnWaysTo).room s m args0 below meth c H locs (0) (0) (MQ below (va_Qi (fun (r : Int32) (_ : Unit) => True) (fun _ t => va_P (dC, dI) vwCl [(on, .inr (2, oX2 n_kind n_salt n_pace n_manner n_from n_to n_goal n_reach n_branches n_branch n_tally x_n)), (n_from, .inl (kI, 20, .inl f_n_from)), (n_to, .inl (kI, 20, .inl f_n_to)), (n_goal, .inl (kI, 3, .inl f_n_goal)), (n_reach, .inl (kI, 12, .inl f_n_reach))] t.heap ∧ va_D A [(on, .inr (2, oX2 n_kind n_salt n_pace n_manner n_from n_to n_goal n_reach n_branches n_branch n_tally x_n)), (n_from, .inl (kI, 20, .inl f_n_from)), (n_to, .inl (kI, 20, .inl f_n_to)), (n_goal, .inl (kI, 3, .inl f_n_goal)), (n_reach, .inl (kI, 12, .inl f_n_reach))]) A) args0 s 0 0 A) (F0 m 4 ls []) := by
    intro n
    induction n with
    | zero => intro v4_loc2 v4_loc3 H locs ls hm4; exact absurd hm4 (Nat.not_lt_zero _)
    | succ n ih4 =>
      intro v4_loc2 v4_loc3 H locs ls hm4 h4_1 hP hD hS hl
      have hJ51 : ∀ (v51_loc2 : Int32) (H : Heap) (locs : List Loc) (ls : Array Slot), iv 0 19 v4_loc3 → iv 1 20 (x_n 1) → va_P (dC, dI) vwCl [(on, .inr (2, oX2 n_kind n_salt n_pace n_manner n_from n_to n_goal n_reach n_branches n_branch n_tally x_n)), (n_from, .inl (kI, 20, .inl f_n_from)), (n_to, .inl (kI, 20, .inl f_n_to)), (n_goal, .inl (kI, 3, .inl f_n_goal)), (n_reach, .inl (kI, 12, .inl f_n_reach))] H → va_D A [(on, .inr (2, oX2 n_kind n_salt n_pace n_manner n_from n_to n_goal n_reach n_branches n_branch n_tally x_n)), (n_from, .inl (kI, 20, .inl f_n_from)), (n_to, .inl (kI, 20, .inl f_n_to)), (n_goal, .inl (kI, 3, .inl f_n_goal)), (n_reach, .inl (kI, 12, .inl f_n_reach))] → va_S A s.heap H locs → lv_has ls 4 [(0, .ref on), (1, .int p0), (2, .int v51_loc2), (3, .int v4_loc3)] → W p l e (headSpec wsX2_linksOnWaysTo rm_s2_linksOnWaysTo).room s m args0 below meth c H locs (0) (0) (MQ below (va_Qi (fun (r : Int32) (_ : Unit) => True) (fun _ t => va_P (dC, dI) vwCl [(on, .inr (2, oX2 n_kind n_salt n_pace n_manner n_from n_to n_goal n_reach n_branches n_branch n_tally x_n)), (n_from, .inl (kI, 20, .inl f_n_from)), (n_to, .inl (kI, 20, .inl f_n_to)), (n_goal, .inl (kI, 3, .inl f_n_goal)), (n_reach, .inl (kI, 12, .inl f_n_reach))] t.heap ∧ va_D A [(on, .inr (2, oX2 n_kind n_salt n_pace n_manner n_from n_to n_goal n_reach n_branches n_branch n_tally x_n)), (n_from, .inl (kI, 20, .inl f_n_from)), (n_to, .inl (kI, 20, .inl f_n_to)), (n_goal, .inl (kI, 3, .inl f_n_goal)), (n_reach, .inl (kI, 12, .inl f_n_reach))]) A) args0 s 0 0 A) (F0 m 51 ls []) := by
        intro v51_loc2 H locs ls h51_1 h51_2 hP hD hS hl
        refine lv_iinc (v := v4_loc3 + Int32.ofInt 1) (lv' := [(3, .int (v4_loc3 + Int32.ofInt 1)), (0, .ref on), (1, .int p0), (2, .int v51_loc2)]) hx hb dX2_linksOnWaysTo_51 hl (k := 3) rfl (rfl) (Nat.le_of_ble_eq_true rfl) rfl (fun ls hl => ?_)
        have b1 : iv 1 20 (v4_loc3 + Int32.ofInt 1) := iv_add h51_1 ivo_1 (by decide) (by decide) (by decide) (by decide)
        refine lv_goto (tgt := 4) hx hb dX2_linksOnWaysTo_54 rfl ?_
        exact ih4 v51_loc2 (v4_loc3 + Int32.ofInt 1) _ _ _ (ms_up (c := 1) (d := 0) h51_1 hm4 (by decide) (iv_inc 1 h51_1 (by decide) (by decide) (by decide) (by decide)) (by decide) rfl) ((iv_w b1 (by decide) (by decide))) (hP) (hD) hS (lv_sub hl [1, 2, 3, 0] rfl)
      refine lv_iload_n hx hb dX2_linksOnWaysTo_4 rfl (lv_at hl 3 rfl) ?_
      refine lv_aload_n hx hb dX2_linksOnWaysTo_5 rfl (lv_at hl 0 rfl) ?_
      refine va_get (D := (dC, dI)) (ci := 2) (v := .int (x_n 1)) (C := RX2) (T := TX2) (N := 15) hx hb hts hin2 hown hK hP 0 rfl rfl 8 (Nat.le_of_ble_eq_true rfl) hw_0 (fun _ h9 => h9) rfl dX2_linksOnWaysTo_6 ?_
      refine lv_icmp_ge (tgt := 57) hx hb dX2_linksOnWaysTo_9 rfl (fun c2 => ?_) (fun c2 => ?_)
      · refine lv_iload_n hx hb dX2_linksOnWaysTo_57 rfl (lv_at hl 2 rfl) ?_
        have hP9 := hP
        have hD9 := hD
        exact W.iret (v := v4_loc2) hx hb hr (fun t ht hW => ⟨⟨v4_loc2, (), rfl, trivial, by rw [ht]; exact hP9, hD9⟩, hS.F ht⟩) hS.2.2 dX2_linksOnWaysTo_58
      · have b3 : iv 0 19 v4_loc3 := iv_ltL (Int32.not_le.mp c2) h4_1 (hx_n 1 : iv 0 20 (x_n 1)) (by decide) (by decide)
        have b4 : iv 1 20 (x_n 1) := iv_ltR (Int32.not_le.mp c2) h4_1 (hx_n 1 : iv 0 20 (x_n 1)) (by decide) (by decide)
        refine lv_aload_n hx hb dX2_linksOnWaysTo_12 rfl (lv_at hl 0 rfl) ?_
        refine lv_iconst (v := 0) hx hb dX2_linksOnWaysTo_13 ic_0 ?_
        refine lv_aload_n hx hb dX2_linksOnWaysTo_14 rfl (lv_at hl 0 rfl) ?_
        refine va_get (D := (dC, dI)) (ci := 2) (v := .ref n_from) (C := RX2) (T := TX2) (N := 15) hx hb hts hin2 hown hK hP 0 rfl rfl 4 (Nat.le_of_ble_eq_true rfl) hw_1 (fun _ h9 => h9) rfl dX2_linksOnWaysTo_15 ?_
        refine lv_iload_n hx hb dX2_linksOnWaysTo_18 rfl (lv_at hl 3 rfl) ?_
        refine va_iald hx hb hK hP 1 1 rfl rfl (iv_in b3 (by decide) (by decide)) dX2_linksOnWaysTo_19 ?_
        refine iv_top (a := 0) (b := 11) (hf_n_from _) (fun z5 b6 => ?_)
        obtain ⟨hPc, hDc, hFc, hJn⟩ := cl_a (wc := [(on, .inr (2, oX2 n_kind n_salt n_pace n_manner n_from n_to n_goal n_reach n_branches n_branch n_tally x_n)), (n_reach, .inl (kI, 12, .inl f_n_reach))]) (wr := [(n_from, .inl (kI, 20, .inl f_n_from)), (n_to, .inl (kI, 20, .inl f_n_to)), (n_goal, .inl (kI, 3, .inl f_n_goal))]) hP hD hS hA [0, 4] [1, 2, 3] rfl rfl (by decide +kernel)
        refine va_calli (va_runV (As := [.int 0, .int z5]) (rest := []) ⟨hx, hb, hml, hown, hts⟩ (s2_comesTo l dC dI kB kI kJ kZ kC kS H.size on n_kind n_salt n_pace n_manner n_from n_to n_goal n_reach n_branches n_branch n_tally x_n f_n_reach 0 z5 (hx_n) ((iv_w ivk_0 (by decide) (by decide)))) (cwV 2 hts gX2_linksOnWaysTo_X2_comesTo rfl rfl rfl (by decide +kernel) ⟨Nat.le_of_ble_eq_true rfl, Nat.le_of_ble_eq_true rfl⟩) ⟨fun a U g mk q => by obtain ⟨q0, q1, qP, qE, qD⟩ := q; exact ⟨q0, q1, qP, kE_call qE, qD⟩, va_recv hK hP (ci := 2) (q0 := 0) rfl rfl, fun U hU hW => ⟨rfl, by rw [hU], by rw [hU]; exact hPc, kE_warm hW hE, hDc.weaken (fun _ _ _ _ => trivial)⟩⟩ rfl rfl hl.1 rfl (lv_room (Nat.le_of_ble_eq_true rfl)) dX2_linksOnWaysTo_20 ⟨Nat.le_of_ble_eq_true rfl, Nat.le_of_ble_eq_true rfl⟩) hS (fun q _ h => hFc q h) hFc (fun r7 u t H locs ht hvm w8 hB hz1 hk1 hS => ?_)
        obtain ⟨hP1, hD1⟩ := hB
        try dsimp only at w8
        obtain ⟨hPa, hDa⟩ := hJn (w1 := [(on, .inr (2, oX2 n_kind n_salt n_pace n_manner n_from n_to n_goal n_reach n_branches n_branch n_tally x_n)), (n_reach, .inl (kI, 12, .inl f_n_reach))]) hk1 ht hP1 hD1
        clear hP hD hPc hDc hFc hJn hP1 hD1 hk1
        have hP : va_P (dC, dI) vwCl [(n_from, .inl (kI, 20, .inl f_n_from)), (n_to, .inl (kI, 20, .inl f_n_to)), (n_goal, .inl (kI, 3, .inl f_n_goal)), (on, .inr (2, oX2 n_kind n_salt n_pace n_manner n_from n_to n_goal n_reach n_branches n_branch n_tally x_n)), (n_reach, .inl (kI, 12, .inl f_n_reach))] H := hPa
        have hD : va_D A [(n_from, .inl (kI, 20, .inl f_n_from)), (n_to, .inl (kI, 20, .inl f_n_to)), (n_goal, .inl (kI, 3, .inl f_n_goal)), (on, .inr (2, oX2 n_kind n_salt n_pace n_manner n_from n_to n_goal n_reach n_branches n_branch n_tally x_n)), (n_reach, .inl (kI, 12, .inl f_n_reach))] := hDa
        clear hPa hDa
        refine W.widen (k := 0) (n := 0) (Nat.le_of_ble_eq_true rfl) (Nat.le_of_ble_eq_true rfl) ?_
        refine lv_if_eq (tgt := 51) hx hb dX2_linksOnWaysTo_23 rfl (fun c9 => ?_) (fun c9 => ?_)
        · have b10 : iv 0 0 r7 := iv_eqL c9 ivk_0
          have hPD9 := cl_s (wc := [(on, .inr (2, oX2 n_kind n_salt n_pace n_manner n_from n_to n_goal n_reach n_branches n_branch n_tally x_n)), (n_from, .inl (kI, 20, .inl f_n_from)), (n_to, .inl (kI, 20, .inl f_n_to)), (n_goal, .inl (kI, 3, .inl f_n_goal)), (n_reach, .inl (kI, 12, .inl f_n_reach))]) hP hD [3, 0, 1, 2, 4] rfl (by decide +kernel)
          exact hJ51 v4_loc2 _ _ _ (b3) (b4) (hPD9.1) (hPD9.2) hS (lv_sub hl [0, 1, 2, 3] rfl)
        · have b11 : iv 1 1 r7 := iv_neLo c9 w8 ivk_0 (by decide) (by decide)
          refine lv_aload_n hx hb dX2_linksOnWaysTo_26 rfl (lv_at hl 0 rfl) ?_
          refine lv_aload_n hx hb dX2_linksOnWaysTo_27 rfl (lv_at hl 0 rfl) ?_
          refine va_get (D := (dC, dI)) (ci := 2) (v := .ref n_to) (C := RX2) (T := TX2) (N := 15) hx hb hts hin2 hown hK hP 3 rfl rfl 5 (Nat.le_of_ble_eq_true rfl) hw_2 (fun _ h9 => h9) rfl dX2_linksOnWaysTo_28 ?_
          refine lv_iload_n hx hb dX2_linksOnWaysTo_31 rfl (lv_at hl 3 rfl) ?_
          refine va_iald hx hb hK hP 1 1 rfl rfl (iv_in b3 (by decide) (by decide)) dX2_linksOnWaysTo_32 ?_
          refine iv_top (a := 0) (b := 11) (hf_n_to _) (fun z12 b13 => ?_)
          refine lv_aload_n hx hb dX2_linksOnWaysTo_33 rfl (lv_at hl 0 rfl) ?_
          refine va_get (D := (dC, dI)) (ci := 2) (v := .ref n_goal) (C := RX2) (T := TX2) (N := 15) hx hb hts hin2 hown hK hP 3 rfl rfl 6 (Nat.le_of_ble_eq_true rfl) hw_3 (fun _ h9 => h9) rfl dX2_linksOnWaysTo_34 ?_
          refine lv_iload_n hx hb dX2_linksOnWaysTo_37 rfl (lv_at hl 1 rfl) ?_
          refine va_iald hx hb hK hP 2 1 rfl rfl (iv_in hp0 (by decide) (by decide)) dX2_linksOnWaysTo_38 ?_
          refine iv_top (a := 0) (b := 11) (hf_n_goal _) (fun z14 b15 => ?_)
          obtain ⟨hPc, hDc, hFc, hJn⟩ := cl_a (wc := [(on, .inr (2, oX2 n_kind n_salt n_pace n_manner n_from n_to n_goal n_reach n_branches n_branch n_tally x_n)), (n_reach, .inl (kI, 12, .inl f_n_reach))]) (wr := [(n_from, .inl (kI, 20, .inl f_n_from)), (n_to, .inl (kI, 20, .inl f_n_to)), (n_goal, .inl (kI, 3, .inl f_n_goal))]) hP hD hS hA [3, 4] [0, 1, 2] rfl rfl (by decide +kernel)
          refine va_calli (va_runV (As := [.int z12, .int z14]) (rest := []) ⟨hx, hb, hml, hown, hts⟩ (s2_comesTo l dC dI kB kI kJ kZ kC kS H.size on n_kind n_salt n_pace n_manner n_from n_to n_goal n_reach n_branches n_branch n_tally x_n f_n_reach z12 z14 (hx_n) (b13)) (cwV 2 hts gX2_linksOnWaysTo_X2_comesTo rfl rfl rfl (by decide +kernel) ⟨Nat.le_of_ble_eq_true rfl, Nat.le_of_ble_eq_true rfl⟩) ⟨fun a U g mk q => by obtain ⟨q0, q1, qP, qE, qD⟩ := q; exact ⟨q0, q1, qP, kE_call qE, qD⟩, va_recv hK hP (ci := 2) (q0 := 3) rfl rfl, fun U hU hW => ⟨rfl, by rw [hU], by rw [hU]; exact hPc, kE_warm hW hE, hDc.weaken (fun _ _ _ _ => trivial)⟩⟩ rfl rfl hl.1 rfl (lv_room (Nat.le_of_ble_eq_true rfl)) dX2_linksOnWaysTo_39 ⟨Nat.le_of_ble_eq_true rfl, Nat.le_of_ble_eq_true rfl⟩) hS (fun q _ h => hFc q h) hFc (fun r16 u t H locs ht hvm w17 hB hz1 hk1 hS => ?_)
          obtain ⟨hP1, hD1⟩ := hB
          try dsimp only at w17
          obtain ⟨hPa, hDa⟩ := hJn (w1 := [(on, .inr (2, oX2 n_kind n_salt n_pace n_manner n_from n_to n_goal n_reach n_branches n_branch n_tally x_n)), (n_reach, .inl (kI, 12, .inl f_n_reach))]) hk1 ht hP1 hD1
          clear hP hD hPc hDc hFc hJn hP1 hD1 hk1
          have hP : va_P (dC, dI) vwCl [(n_from, .inl (kI, 20, .inl f_n_from)), (n_to, .inl (kI, 20, .inl f_n_to)), (n_goal, .inl (kI, 3, .inl f_n_goal)), (on, .inr (2, oX2 n_kind n_salt n_pace n_manner n_from n_to n_goal n_reach n_branches n_branch n_tally x_n)), (n_reach, .inl (kI, 12, .inl f_n_reach))] H := hPa
          have hD : va_D A [(n_from, .inl (kI, 20, .inl f_n_from)), (n_to, .inl (kI, 20, .inl f_n_to)), (n_goal, .inl (kI, 3, .inl f_n_goal)), (on, .inr (2, oX2 n_kind n_salt n_pace n_manner n_from n_to n_goal n_reach n_branches n_branch n_tally x_n)), (n_reach, .inl (kI, 12, .inl f_n_reach))] := hDa
          clear hPa hDa
          refine W.widen (k := 0) (n := 0) (Nat.le_of_ble_eq_true rfl) (Nat.le_of_ble_eq_true rfl) ?_
          refine lv_if_eq (tgt := 51) hx hb dX2_linksOnWaysTo_42 rfl (fun c18 => ?_) (fun c18 => ?_)
          · have b19 : iv 0 0 r16 := iv_eqL c18 ivk_0
            have hPD9 := cl_s (wc := [(on, .inr (2, oX2 n_kind n_salt n_pace n_manner n_from n_to n_goal n_reach n_branches n_branch n_tally x_n)), (n_from, .inl (kI, 20, .inl f_n_from)), (n_to, .inl (kI, 20, .inl f_n_to)), (n_goal, .inl (kI, 3, .inl f_n_goal)), (n_reach, .inl (kI, 12, .inl f_n_reach))]) hP hD [3, 0, 1, 2, 4] rfl (by decide +kernel)
            exact hJ51 v4_loc2 _ _ _ (b3) (b4) (hPD9.1) (hPD9.2) hS (lv_sub hl [0, 1, 2, 3] rfl)
          · have b20 : iv 1 1 r16 := iv_neLo c18 w17 ivk_0 (by decide) (by decide)
            refine lv_iload_n hx hb dX2_linksOnWaysTo_45 rfl (lv_at hl 2 rfl) ?_
            refine lv_iconst (v := 1) hx hb dX2_linksOnWaysTo_46 ic_1 ?_
            refine lv_iload_n hx hb dX2_linksOnWaysTo_47 rfl (lv_at hl 3 rfl) ?_
            refine lv_ishl hx hb dX2_linksOnWaysTo_48 ?_
            refine iv_top (a := 0) (b := 524288) (iv_shl1 19 b3 (by decide) (by decide) (by decide) (by decide)) (fun z21 b22 => ?_)
            refine lv_ior hx hb dX2_linksOnWaysTo_49 ?_
            refine lv_topi (fun z23 _ => ?_)
            refine lv_istore_n (lv' := [(2, .int z23), (0, .ref on), (1, .int p0), (3, .int v4_loc3)]) hx hb dX2_linksOnWaysTo_50 rfl hl (Nat.le_of_ble_eq_true rfl) rfl (fun ls hl => ?_)
            have hPD9 := cl_s (wc := [(on, .inr (2, oX2 n_kind n_salt n_pace n_manner n_from n_to n_goal n_reach n_branches n_branch n_tally x_n)), (n_from, .inl (kI, 20, .inl f_n_from)), (n_to, .inl (kI, 20, .inl f_n_to)), (n_goal, .inl (kI, 3, .inl f_n_goal)), (n_reach, .inl (kI, 12, .inl f_n_reach))]) hP hD [3, 0, 1, 2, 4] rfl (by decide +kernel)
            exact hJ51 z23 _ _ _ (b3) (b4) (hPD9.1) (hPD9.2) hS (lv_sub hl [1, 2, 0, 3] rfl)
  refine lv_iconst (v := 0) hx hb dX2_linksOnWaysTo_0 ic_0 ?_
  refine lv_istore_n (lv' := [(2, .int 0), (0, .ref on), (1, .int p0)]) hx hb dX2_linksOnWaysTo_1 rfl hl (Nat.le_of_ble_eq_true rfl) rfl (fun ls hl => ?_)
  refine lv_iconst (v := 0) hx hb dX2_linksOnWaysTo_2 ic_0 ?_
  refine lv_istore_n (lv' := [(3, .int 0), (2, .int 0), (0, .ref on), (1, .int p0)]) hx hb dX2_linksOnWaysTo_3 rfl hl (Nat.le_of_ble_eq_true rfl) rfl (fun ls hl => ?_)
  exact hJ4 _ 0 0 _ _ _ (Nat.lt_succ_self _) ((iv_w ivk_0 (by decide) (by decide))) (hP) (hD) hS (lv_sub hl [2, 3, 1, 0] rfl)
def rm_s2_whyLoopAt : Room := { frames := 1, cells := 0, slots := 0, locals := 22 }
set_option maxHeartbeats 4000000 in
set_option maxRecDepth 100000 in
theorem s2_whyLoopAt (l : Launch) (dC : Nat → ClassId) (dI : Nat → Nat → Nat) (kB kI kJ kZ kC kS : ClassId) (sz : Nat) (on : Nat) (n_kind : Nat) (n_salt : Nat) (n_pace : Nat) (n_manner : Nat) (n_from : Nat) (n_to : Nat) (n_goal : Nat) (n_reach : Nat) (n_branches : Nat) (n_branch : Nat) (n_tally : Nat) (x_n : Nat → Int32) (f_n_kind : Nat → Int32) (f_n_manner : Nat → Int32) (f_n_from : Nat → Int32) (f_n_to : Nat → Int32) (f_n_reach : Nat → Int32) (p0 : Int32) (hx_n : fI lX2 hX2 x_n) (hf_n_from : fI (fun _ => 0) (fun _ => 11) f_n_from) (hf_n_to : fI (fun _ => 0) (fun _ => 11) f_n_to) (hp0 : iv 0 11 p0) : Met l yX2_whyLoopAt wsX2_whyLoopAt rm_s2_whyLoopAt (va_Pc [.ref on, .int p0] (fun U => U.heap.size = sz ∧ va_P (dC, dI) vwCl [(on, .inr (2, oX2 n_kind n_salt n_pace n_manner n_from n_to n_goal n_reach n_branches n_branch n_tally x_n)), (n_kind, .inl (kI, 12, .inl f_n_kind)), (n_manner, .inl (kI, 12, .inl f_n_manner)), (n_from, .inl (kI, 20, .inl f_n_from)), (n_to, .inl (kI, 20, .inl f_n_to)), (n_reach, .inl (kI, 12, .inl f_n_reach))] U.heap ∧ kE dC dI kB kI kJ kZ kC kS U ∧ va_D (fun _ => True) [(on, .inr (2, oX2 n_kind n_salt n_pace n_manner n_from n_to n_goal n_reach n_branches n_branch n_tally x_n)), (n_kind, .inl (kI, 12, .inl f_n_kind)), (n_manner, .inl (kI, 12, .inl f_n_manner)), (n_from, .inl (kI, 20, .inl f_n_from)), (n_to, .inl (kI, 20, .inl f_n_to)), (n_reach, .inl (kI, 12, .inl f_n_reach))])) (va_Qi (fun (r : Int32) (_ : Unit) => iv 1 3 r) (fun _ t => va_P (dC, dI) vwCl [(on, .inr (2, oX2 n_kind n_salt n_pace n_manner n_from n_to n_goal n_reach n_branches n_branch n_tally x_n)), (n_kind, .inl (kI, 12, .inl f_n_kind)), (n_manner, .inl (kI, 12, .inl f_n_manner)), (n_from, .inl (kI, 20, .inl f_n_from)), (n_to, .inl (kI, 20, .inl f_n_to)), (n_reach, .inl (kI, 12, .inl f_n_reach))] t.heap ∧ va_D (va_A [(on, .inr (2, oX2 n_kind n_salt n_pace n_manner n_from n_to n_goal n_reach n_branches n_branch n_tally x_n)), (n_kind, .inl (kI, 12, .inl f_n_kind)), (n_manner, .inl (kI, 12, .inl f_n_manner)), (n_from, .inl (kI, 20, .inl f_n_from)), (n_to, .inl (kI, 20, .inl f_n_to)), (n_reach, .inl (kI, 12, .inl f_n_reach))] sz) [(on, .inr (2, oX2 n_kind n_salt n_pace n_manner n_from n_to n_goal n_reach n_branches n_branch n_tally x_n)), (n_kind, .inl (kI, 12, .inl f_n_kind)), (n_manner, .inl (kI, 12, .inl f_n_manner)), (n_from, .inl (kI, 20, .inl f_n_from)), (n_to, .inl (kI, 20, .inl f_n_to)), (n_reach, .inl (kI, 12, .inl f_n_reach))]) (va_A [(on, .inr (2, oX2 n_kind n_salt n_pace n_manner n_from n_to n_goal n_reach n_branches n_branch n_tally x_n)), (n_kind, .inl (kI, 12, .inl f_n_kind)), (n_manner, .inl (kI, 12, .inl f_n_manner)), (n_from, .inl (kI, 20, .inl f_n_from)), (n_to, .inl (kI, 20, .inl f_n_to)), (n_reach, .inl (kI, 12, .inl f_n_reach))] sz)) 0 0 (va_A [(on, .inr (2, oX2 n_kind n_salt n_pace n_manner n_from n_to n_goal n_reach n_branches n_branch n_tally x_n)), (n_kind, .inl (kI, 12, .inl f_n_kind)), (n_manner, .inl (kI, 12, .inl f_n_manner)), (n_from, .inl (kI, 20, .inl f_n_from)), (n_to, .inl (kI, 20, .inl f_n_to)), (n_reach, .inl (kI, 12, .inl f_n_reach))] sz) := by
  refine Met.ofW (cc := cX2_whyLoopAt) (maxL := 3) (ret := (some .int)) (by decide) rfl ?_
  intro p e s m args0 below meth c s₁ B hml hv
  obtain ⟨hargs, hsz, hP, hE, hD0⟩ := hv
  have hx := B.exec
  have hb := B.bytes
  have hr := B.returns
  have hts := atoms_spec (ws := wsX2_whyLoopAt) B.pre
  have hown : s.vm.findClass RX2 = some m.cls := findClass_of_methodNamed B.named
  have hlocks := B.notSynchronized
  have hK := hE.1
  have hin2 : ∀ w ∈ wsX20, w ∈ wsX2_whyLoopAt := fun _ h9 => List.mem_cons_of_mem _ (List.mem_append_right _ h9)
  have hw_0 := hts (.fieldLink RX2 33 "PathProber$Net" "routers" "I") (List.mem_of_getElem? (i := 5) rfl)
  have hw_1 := hts (.fieldLink RX2 9 "PathProber$Net" "kind" "[I") (List.mem_of_getElem? (i := 6) rfl)
  have hw_2 := hts (.fieldLink RX2 37 "PathProber$Net" "links" "I") (List.mem_of_getElem? (i := 1) rfl)
  have hw_3 := hts (.fieldLink RX2 27 "PathProber$Net" "to" "[I") (List.mem_of_getElem? (i := 2) rfl)
  have hw_4 := hts (.fieldLink RX2 21 "PathProber$Net" "manner" "[I") (List.mem_of_getElem? (i := 3) rfl)
  have hw_5 := hts (.fieldLink RX2 24 "PathProber$Net" "from" "[I") (List.mem_of_getElem? (i := 4) rfl)
  subst hsz
  have hD := hD0.self (sz := s.heap.size)
  generalize hAe : va_A [(on, .inr (2, oX2 n_kind n_salt n_pace n_manner n_from n_to n_goal n_reach n_branches n_branch n_tally x_n)), (n_kind, .inl (kI, 12, .inl f_n_kind)), (n_manner, .inl (kI, 12, .inl f_n_manner)), (n_from, .inl (kI, 20, .inl f_n_from)), (n_to, .inl (kI, 20, .inl f_n_to)), (n_reach, .inl (kI, 12, .inl f_n_reach))] s.heap.size = A at hD ⊢
  have hA : ∀ q : Nat, s.heap.size ≤ q → A q := fun q h => by rw [← hAe]; exact Or.inr h
  have hS : va_S A s.heap s.heap [] := va_S.rf
  have hP : va_P (dC, dI) vwCl [(on, .inr (2, oX2 n_kind n_salt n_pace n_manner n_from n_to n_goal n_reach n_branches n_branch n_tally x_n)), (n_kind, .inl (kI, 12, .inl f_n_kind)), (n_manner, .inl (kI, 12, .inl f_n_manner)), (n_from, .inl (kI, 20, .inl f_n_from)), (n_to, .inl (kI, 20, .inl f_n_to)), (n_reach, .inl (kI, 12, .inl f_n_reach))] s.heap := hP
  have hl := lv_entry ([.ref on, .int p0]) (n := 3) (Nat.le_of_ble_eq_true rfl)
  have hla : entryFrame m args0 3 = entryFrame m ([.ref on, .int p0] : List Value).toArray 3 := by rw [hargs]
  rw [hla, lg_entry_eq]
  generalize (lg_sl ([.ref on, .int p0]) ++ List.replicate (3 - (lg_sl ([.ref on, .int p0])).length) Slot.unset).toArray = ls at hl ⊢
  have hl : lv_has ls 3 [(0, .ref on), (1, .int p0)] := hl
  have hJ45 : ∀ (n : Nat) (v45_loc2 : Int32) (H : Heap) (locs : List Loc) (ls : Array Slot), (12 - v45_loc2.toInt).toNat < n → iv 0 12 v45_loc2 → va_P (dC, dI) vwCl [(on, .inr (2, oX2 n_kind n_salt n_pace n_manner n_from n_to n_goal n_reach n_branches n_branch n_tally x_n)), (n_kind, .inl (kI, 12, .inl f_n_kind)), (n_manner, .inl (kI, 12, .inl f_n_manner)), (n_from, .inl (kI, 20, .inl f_n_from)), (n_to, .inl (kI, 20, .inl f_n_to)), (n_reach, .inl (kI, 12, .inl f_n_reach))] H → va_D A [(on, .inr (2, oX2 n_kind n_salt n_pace n_manner n_from n_to n_goal n_reach n_branches n_branch n_tally x_n)), (n_kind, .inl (kI, 12, .inl f_n_kind)), (n_manner, .inl (kI, 12, .inl f_n_manner)), (n_from, .inl (kI, 20, .inl f_n_from)), (n_to, .inl (kI, 20, .inl f_n_to)), (n_reach, .inl (kI, 12, .inl f_n_reach))] → va_S A s.heap H locs → lv_has ls 3 [(0, .ref on), (1, .int p0), (2, .int v45_loc2)] → W p l e (headSpec wsX2_whyLoopAt rm_s2_whyLoopAt).room s m args0 below meth c H locs (0) (0) (MQ below (va_Qi (fun (r : Int32) (_ : Unit) => iv 1 3 r) (fun _ t => va_P (dC, dI) vwCl [(on, .inr (2, oX2 n_kind n_salt n_pace n_manner n_from n_to n_goal n_reach n_branches n_branch n_tally x_n)), (n_kind, .inl (kI, 12, .inl f_n_kind)), (n_manner, .inl (kI, 12, .inl f_n_manner)), (n_from, .inl (kI, 20, .inl f_n_from)), (n_to, .inl (kI, 20, .inl f_n_to)), (n_reach, .inl (kI, 12, .inl f_n_reach))] t.heap ∧ va_D A [(on, .inr (2, oX2 n_kind n_salt n_pace n_manner n_from n_to n_goal n_reach n_branches n_branch n_tally x_n)), (n_kind, .inl (kI, 12, .inl f_n_kind)), (n_manner, .inl (kI, 12, .inl f_n_manner)), (n_from, .inl (kI, 20, .inl f_n_from)), (n_to, .inl (kI, 20, .inl f_n_to)), (n_reach, .inl (kI, 12, .inl f_n_reach))]) A) args0 s 0 0 A) (F0 m 45 ls []) := by
    intro n
    induction n with
    | zero => intro v45_loc2 H locs ls hm45; exact absurd hm45 (Nat.not_lt_zero _)
    | succ n ih45 =>
      intro v45_loc2 H locs ls hm45 h45_1 hP hD hS hl
      have hJ83 : ∀ (H : Heap) (locs : List Loc) (ls : Array Slot), iv 0 11 v45_loc2 → iv 1 12 (x_n 0) → va_P (dC, dI) vwCl [(on, .inr (2, oX2 n_kind n_salt n_pace n_manner n_from n_to n_goal n_reach n_branches n_branch n_tally x_n)), (n_kind, .inl (kI, 12, .inl f_n_kind)), (n_manner, .inl (kI, 12, .inl f_n_manner)), (n_from, .inl (kI, 20, .inl f_n_from)), (n_to, .inl (kI, 20, .inl f_n_to)), (n_reach, .inl (kI, 12, .inl f_n_reach))] H → va_D A [(on, .inr (2, oX2 n_kind n_salt n_pace n_manner n_from n_to n_goal n_reach n_branches n_branch n_tally x_n)), (n_kind, .inl (kI, 12, .inl f_n_kind)), (n_manner, .inl (kI, 12, .inl f_n_manner)), (n_from, .inl (kI, 20, .inl f_n_from)), (n_to, .inl (kI, 20, .inl f_n_to)), (n_reach, .inl (kI, 12, .inl f_n_reach))] → va_S A s.heap H locs → lv_has ls 3 [(0, .ref on), (1, .int p0), (2, .int v45_loc2)] → W p l e (headSpec wsX2_whyLoopAt rm_s2_whyLoopAt).room s m args0 below meth c H locs (0) (0) (MQ below (va_Qi (fun (r : Int32) (_ : Unit) => iv 1 3 r) (fun _ t => va_P (dC, dI) vwCl [(on, .inr (2, oX2 n_kind n_salt n_pace n_manner n_from n_to n_goal n_reach n_branches n_branch n_tally x_n)), (n_kind, .inl (kI, 12, .inl f_n_kind)), (n_manner, .inl (kI, 12, .inl f_n_manner)), (n_from, .inl (kI, 20, .inl f_n_from)), (n_to, .inl (kI, 20, .inl f_n_to)), (n_reach, .inl (kI, 12, .inl f_n_reach))] t.heap ∧ va_D A [(on, .inr (2, oX2 n_kind n_salt n_pace n_manner n_from n_to n_goal n_reach n_branches n_branch n_tally x_n)), (n_kind, .inl (kI, 12, .inl f_n_kind)), (n_manner, .inl (kI, 12, .inl f_n_manner)), (n_from, .inl (kI, 20, .inl f_n_from)), (n_to, .inl (kI, 20, .inl f_n_to)), (n_reach, .inl (kI, 12, .inl f_n_reach))]) A) args0 s 0 0 A) (F0 m 83 ls []) := by
        intro H locs ls h83_1 h83_2 hP hD hS hl
        refine lv_iinc (v := v45_loc2 + Int32.ofInt 1) (lv' := [(2, .int (v45_loc2 + Int32.ofInt 1)), (0, .ref on), (1, .int p0)]) hx hb dX2_whyLoopAt_83 hl (k := 2) rfl (rfl) (Nat.le_of_ble_eq_true rfl) rfl (fun ls hl => ?_)
        have b1 : iv 1 12 (v45_loc2 + Int32.ofInt 1) := iv_add h83_1 ivo_1 (by decide) (by decide) (by decide) (by decide)
        refine lv_goto (tgt := 45) hx hb dX2_whyLoopAt_86 rfl ?_
        exact ih45 (v45_loc2 + Int32.ofInt 1) _ _ _ (ms_up (c := 1) (d := 0) h83_1 hm45 (by decide) (iv_inc 1 h83_1 (by decide) (by decide) (by decide) (by decide)) (by decide) rfl) ((iv_w b1 (by decide) (by decide))) (hP) (hD) hS (lv_sub hl [1, 2, 0] rfl)
      refine lv_iload_n hx hb dX2_whyLoopAt_45 rfl (lv_at hl 2 rfl) ?_
      refine lv_aload_n hx hb dX2_whyLoopAt_46 rfl (lv_at hl 0 rfl) ?_
      refine va_get (D := (dC, dI)) (ci := 2) (v := .int (x_n 0)) (C := RX2) (T := TX2) (N := 15) hx hb hts hin2 hown hK hP 0 rfl rfl 7 (Nat.le_of_ble_eq_true rfl) hw_0 (fun _ h9 => h9) rfl dX2_whyLoopAt_47 ?_
      refine lv_icmp_ge (tgt := 89) hx hb dX2_whyLoopAt_50 rfl (fun c2 => ?_) (fun c2 => ?_)
      · refine lv_iconst (v := 3) hx hb dX2_whyLoopAt_89 ic_3 ?_
        have hP9 := hP
        have hD9 := hD
        exact W.iret (v := 3) hx hb hr (fun t ht hW => ⟨⟨3, (), rfl, (iv_w ivk_3 (by decide) (by decide)), by rw [ht]; exact hP9, hD9⟩, hS.F ht⟩) hS.2.2 dX2_whyLoopAt_90
      · have b3 : iv 0 11 v45_loc2 := iv_ltL (Int32.not_le.mp c2) h45_1 (hx_n 0 : iv 0 12 (x_n 0)) (by decide) (by decide)
        have b4 : iv 1 12 (x_n 0) := iv_ltR (Int32.not_le.mp c2) h45_1 (hx_n 0 : iv 0 12 (x_n 0)) (by decide) (by decide)
        refine lv_aload_n hx hb dX2_whyLoopAt_53 rfl (lv_at hl 0 rfl) ?_
        refine va_get (D := (dC, dI)) (ci := 2) (v := .ref n_kind) (C := RX2) (T := TX2) (N := 15) hx hb hts hin2 hown hK hP 0 rfl rfl 0 (Nat.le_of_ble_eq_true rfl) hw_1 (fun _ h9 => h9) rfl dX2_whyLoopAt_54 ?_
        refine lv_iload_n hx hb dX2_whyLoopAt_57 rfl (lv_at hl 2 rfl) ?_
        refine va_iald hx hb hK hP 1 1 rfl rfl (iv_in b3 (by decide) (by decide)) dX2_whyLoopAt_58 ?_
        refine lv_topi (fun z5 _ => ?_)
        refine lv_iconst (v := 2) hx hb dX2_whyLoopAt_59 ic_2 ?_
        refine lv_icmp_ne (tgt := 83) hx hb dX2_whyLoopAt_60 rfl (fun c6 => ?_) (fun c6 => ?_)
        · exact hJ83 _ _ _ (b3) (b4) (hP) (hD) hS (lv_sub hl [0, 1, 2] rfl)
        · have b7 : iv 2 2 z5 := iv_eqL c6 ivk_2
          refine lv_aload_n hx hb dX2_whyLoopAt_63 rfl (lv_at hl 0 rfl) ?_
          refine lv_iconst (v := 0) hx hb dX2_whyLoopAt_64 ic_0 ?_
          refine lv_iload_n hx hb dX2_whyLoopAt_65 rfl (lv_at hl 2 rfl) ?_
          obtain ⟨hPc, hDc, hFc, hJn⟩ := cl_a (wc := [(on, .inr (2, oX2 n_kind n_salt n_pace n_manner n_from n_to n_goal n_reach n_branches n_branch n_tally x_n)), (n_reach, .inl (kI, 12, .inl f_n_reach))]) (wr := [(n_kind, .inl (kI, 12, .inl f_n_kind)), (n_manner, .inl (kI, 12, .inl f_n_manner)), (n_from, .inl (kI, 20, .inl f_n_from)), (n_to, .inl (kI, 20, .inl f_n_to))]) hP hD hS hA [0, 5] [1, 2, 3, 4] rfl rfl (by decide +kernel)
          refine va_calli (va_runV (As := [.int 0, .int v45_loc2]) (rest := []) ⟨hx, hb, hml, hown, hts⟩ (s2_comesTo l dC dI kB kI kJ kZ kC kS H.size on n_kind n_salt n_pace n_manner n_from n_to n_goal n_reach n_branches n_branch n_tally x_n f_n_reach 0 v45_loc2 (hx_n) ((iv_w ivk_0 (by decide) (by decide)))) (cwV 2 hts gX2_whyLoopAt_X2_comesTo rfl rfl rfl (by decide +kernel) ⟨Nat.le_of_ble_eq_true rfl, Nat.le_of_ble_eq_true rfl⟩) ⟨fun a U g mk q => by obtain ⟨q0, q1, qP, qE, qD⟩ := q; exact ⟨q0, q1, qP, kE_call qE, qD⟩, va_recv hK hP (ci := 2) (q0 := 0) rfl rfl, fun U hU hW => ⟨rfl, by rw [hU], by rw [hU]; exact hPc, kE_warm hW hE, hDc.weaken (fun _ _ _ _ => trivial)⟩⟩ rfl rfl hl.1 rfl (lv_room (Nat.le_of_ble_eq_true rfl)) dX2_whyLoopAt_66 ⟨Nat.le_of_ble_eq_true rfl, Nat.le_of_ble_eq_true rfl⟩) hS (fun q _ h => hFc q h) hFc (fun r8 u t H locs ht hvm w9 hB hz1 hk1 hS => ?_)
          obtain ⟨hP1, hD1⟩ := hB
          try dsimp only at w9
          obtain ⟨hPa, hDa⟩ := hJn (w1 := [(on, .inr (2, oX2 n_kind n_salt n_pace n_manner n_from n_to n_goal n_reach n_branches n_branch n_tally x_n)), (n_reach, .inl (kI, 12, .inl f_n_reach))]) hk1 ht hP1 hD1
          clear hP hD hPc hDc hFc hJn hP1 hD1 hk1
          have hP : va_P (dC, dI) vwCl [(n_kind, .inl (kI, 12, .inl f_n_kind)), (n_manner, .inl (kI, 12, .inl f_n_manner)), (n_from, .inl (kI, 20, .inl f_n_from)), (n_to, .inl (kI, 20, .inl f_n_to)), (on, .inr (2, oX2 n_kind n_salt n_pace n_manner n_from n_to n_goal n_reach n_branches n_branch n_tally x_n)), (n_reach, .inl (kI, 12, .inl f_n_reach))] H := hPa
          have hD : va_D A [(n_kind, .inl (kI, 12, .inl f_n_kind)), (n_manner, .inl (kI, 12, .inl f_n_manner)), (n_from, .inl (kI, 20, .inl f_n_from)), (n_to, .inl (kI, 20, .inl f_n_to)), (on, .inr (2, oX2 n_kind n_salt n_pace n_manner n_from n_to n_goal n_reach n_branches n_branch n_tally x_n)), (n_reach, .inl (kI, 12, .inl f_n_reach))] := hDa
          clear hPa hDa
          refine W.widen (k := 0) (n := 0) (Nat.le_of_ble_eq_true rfl) (Nat.le_of_ble_eq_true rfl) ?_
          refine lv_if_eq (tgt := 83) hx hb dX2_whyLoopAt_69 rfl (fun c10 => ?_) (fun c10 => ?_)
          · have b11 : iv 0 0 r8 := iv_eqL c10 ivk_0
            have hPD9 := cl_s (wc := [(on, .inr (2, oX2 n_kind n_salt n_pace n_manner n_from n_to n_goal n_reach n_branches n_branch n_tally x_n)), (n_kind, .inl (kI, 12, .inl f_n_kind)), (n_manner, .inl (kI, 12, .inl f_n_manner)), (n_from, .inl (kI, 20, .inl f_n_from)), (n_to, .inl (kI, 20, .inl f_n_to)), (n_reach, .inl (kI, 12, .inl f_n_reach))]) hP hD [4, 0, 1, 2, 3, 5] rfl (by decide +kernel)
            exact hJ83 _ _ _ (b3) (b4) (hPD9.1) (hPD9.2) hS (lv_sub hl [0, 1, 2] rfl)
          · have b12 : iv 1 1 r8 := iv_neLo c10 w9 ivk_0 (by decide) (by decide)
            refine lv_aload_n hx hb dX2_whyLoopAt_72 rfl (lv_at hl 0 rfl) ?_
            refine lv_iload_n hx hb dX2_whyLoopAt_73 rfl (lv_at hl 2 rfl) ?_
            refine lv_iload_n hx hb dX2_whyLoopAt_74 rfl (lv_at hl 1 rfl) ?_
            obtain ⟨hPc, hDc, hFc, hJn⟩ := cl_a (wc := [(on, .inr (2, oX2 n_kind n_salt n_pace n_manner n_from n_to n_goal n_reach n_branches n_branch n_tally x_n)), (n_reach, .inl (kI, 12, .inl f_n_reach))]) (wr := [(n_kind, .inl (kI, 12, .inl f_n_kind)), (n_manner, .inl (kI, 12, .inl f_n_manner)), (n_from, .inl (kI, 20, .inl f_n_from)), (n_to, .inl (kI, 20, .inl f_n_to))]) hP hD hS hA [4, 5] [0, 1, 2, 3] rfl rfl (by decide +kernel)
            refine va_calli (va_runV (As := [.int v45_loc2, .int p0]) (rest := []) ⟨hx, hb, hml, hown, hts⟩ (s2_comesTo l dC dI kB kI kJ kZ kC kS H.size on n_kind n_salt n_pace n_manner n_from n_to n_goal n_reach n_branches n_branch n_tally x_n f_n_reach v45_loc2 p0 (hx_n) (b3)) (cwV 2 hts gX2_whyLoopAt_X2_comesTo rfl rfl rfl (by decide +kernel) ⟨Nat.le_of_ble_eq_true rfl, Nat.le_of_ble_eq_true rfl⟩) ⟨fun a U g mk q => by obtain ⟨q0, q1, qP, qE, qD⟩ := q; exact ⟨q0, q1, qP, kE_call qE, qD⟩, va_recv hK hP (ci := 2) (q0 := 4) rfl rfl, fun U hU hW => ⟨rfl, by rw [hU], by rw [hU]; exact hPc, kE_warm hW hE, hDc.weaken (fun _ _ _ _ => trivial)⟩⟩ rfl rfl hl.1 rfl (lv_room (Nat.le_of_ble_eq_true rfl)) dX2_whyLoopAt_75 ⟨Nat.le_of_ble_eq_true rfl, Nat.le_of_ble_eq_true rfl⟩) hS (fun q _ h => hFc q h) hFc (fun r13 u t H locs ht hvm w14 hB hz1 hk1 hS => ?_)
            obtain ⟨hP1, hD1⟩ := hB
            try dsimp only at w14
            obtain ⟨hPa, hDa⟩ := hJn (w1 := [(on, .inr (2, oX2 n_kind n_salt n_pace n_manner n_from n_to n_goal n_reach n_branches n_branch n_tally x_n)), (n_reach, .inl (kI, 12, .inl f_n_reach))]) hk1 ht hP1 hD1
            clear hP hD hPc hDc hFc hJn hP1 hD1 hk1
            have hP : va_P (dC, dI) vwCl [(n_kind, .inl (kI, 12, .inl f_n_kind)), (n_manner, .inl (kI, 12, .inl f_n_manner)), (n_from, .inl (kI, 20, .inl f_n_from)), (n_to, .inl (kI, 20, .inl f_n_to)), (on, .inr (2, oX2 n_kind n_salt n_pace n_manner n_from n_to n_goal n_reach n_branches n_branch n_tally x_n)), (n_reach, .inl (kI, 12, .inl f_n_reach))] H := hPa
            have hD : va_D A [(n_kind, .inl (kI, 12, .inl f_n_kind)), (n_manner, .inl (kI, 12, .inl f_n_manner)), (n_from, .inl (kI, 20, .inl f_n_from)), (n_to, .inl (kI, 20, .inl f_n_to)), (on, .inr (2, oX2 n_kind n_salt n_pace n_manner n_from n_to n_goal n_reach n_branches n_branch n_tally x_n)), (n_reach, .inl (kI, 12, .inl f_n_reach))] := hDa
            clear hPa hDa
            refine W.widen (k := 0) (n := 0) (Nat.le_of_ble_eq_true rfl) (Nat.le_of_ble_eq_true rfl) ?_
            refine lv_if_eq (tgt := 83) hx hb dX2_whyLoopAt_78 rfl (fun c15 => ?_) (fun c15 => ?_)
            · have b16 : iv 0 0 r13 := iv_eqL c15 ivk_0
              have hPD9 := cl_s (wc := [(on, .inr (2, oX2 n_kind n_salt n_pace n_manner n_from n_to n_goal n_reach n_branches n_branch n_tally x_n)), (n_kind, .inl (kI, 12, .inl f_n_kind)), (n_manner, .inl (kI, 12, .inl f_n_manner)), (n_from, .inl (kI, 20, .inl f_n_from)), (n_to, .inl (kI, 20, .inl f_n_to)), (n_reach, .inl (kI, 12, .inl f_n_reach))]) hP hD [4, 0, 1, 2, 3, 5] rfl (by decide +kernel)
              exact hJ83 _ _ _ (b3) (b4) (hPD9.1) (hPD9.2) hS (lv_sub hl [0, 1, 2] rfl)
            · have b17 : iv 1 1 r13 := iv_neLo c15 w14 ivk_0 (by decide) (by decide)
              refine lv_iconst (v := 2) hx hb dX2_whyLoopAt_81 ic_2 ?_
              have hPD9 := cl_s (wc := [(on, .inr (2, oX2 n_kind n_salt n_pace n_manner n_from n_to n_goal n_reach n_branches n_branch n_tally x_n)), (n_kind, .inl (kI, 12, .inl f_n_kind)), (n_manner, .inl (kI, 12, .inl f_n_manner)), (n_from, .inl (kI, 20, .inl f_n_from)), (n_to, .inl (kI, 20, .inl f_n_to)), (n_reach, .inl (kI, 12, .inl f_n_reach))]) hP hD [4, 0, 1, 2, 3, 5] rfl (by decide +kernel)
              have hP9 := hPD9.1
              have hD9 := hPD9.2
              exact W.iret (v := 2) hx hb hr (fun t ht hW => ⟨⟨2, (), rfl, (iv_w ivk_2 (by decide) (by decide)), by rw [ht]; exact hP9, hD9⟩, hS.F ht⟩) hS.2.2 dX2_whyLoopAt_82
  have hJ2 : ∀ (n : Nat) (v2_loc2 : Int32) (H : Heap) (locs : List Loc) (ls : Array Slot), (20 - v2_loc2.toInt).toNat < n → iv 0 20 v2_loc2 → va_P (dC, dI) vwCl [(on, .inr (2, oX2 n_kind n_salt n_pace n_manner n_from n_to n_goal n_reach n_branches n_branch n_tally x_n)), (n_kind, .inl (kI, 12, .inl f_n_kind)), (n_manner, .inl (kI, 12, .inl f_n_manner)), (n_from, .inl (kI, 20, .inl f_n_from)), (n_to, .inl (kI, 20, .inl f_n_to)), (n_reach, .inl (kI, 12, .inl f_n_reach))] H → va_D A [(on, .inr (2, oX2 n_kind n_salt n_pace n_manner n_from n_to n_goal n_reach n_branches n_branch n_tally x_n)), (n_kind, .inl (kI, 12, .inl f_n_kind)), (n_manner, .inl (kI, 12, .inl f_n_manner)), (n_from, .inl (kI, 20, .inl f_n_from)), (n_to, .inl (kI, 20, .inl f_n_to)), (n_reach, .inl (kI, 12, .inl f_n_reach))] → va_S A s.heap H locs → lv_has ls 3 [(0, .ref on), (1, .int p0), (2, .int v2_loc2)] → W p l e (headSpec wsX2_whyLoopAt rm_s2_whyLoopAt).room s m args0 below meth c H locs (0) (0) (MQ below (va_Qi (fun (r : Int32) (_ : Unit) => iv 1 3 r) (fun _ t => va_P (dC, dI) vwCl [(on, .inr (2, oX2 n_kind n_salt n_pace n_manner n_from n_to n_goal n_reach n_branches n_branch n_tally x_n)), (n_kind, .inl (kI, 12, .inl f_n_kind)), (n_manner, .inl (kI, 12, .inl f_n_manner)), (n_from, .inl (kI, 20, .inl f_n_from)), (n_to, .inl (kI, 20, .inl f_n_to)), (n_reach, .inl (kI, 12, .inl f_n_reach))] t.heap ∧ va_D A [(on, .inr (2, oX2 n_kind n_salt n_pace n_manner n_from n_to n_goal n_reach n_branches n_branch n_tally x_n)), (n_kind, .inl (kI, 12, .inl f_n_kind)), (n_manner, .inl (kI, 12, .inl f_n_manner)), (n_from, .inl (kI, 20, .inl f_n_from)), (n_to, .inl (kI, 20, .inl f_n_to)), (n_reach, .inl (kI, 12, .inl f_n_reach))]) A) args0 s 0 0 A) (F0 m 2 ls []) := by
    intro n
    induction n with
    | zero => intro v2_loc2 H locs ls hm2; exact absurd hm2 (Nat.not_lt_zero _)
    | succ n ih2 =>
      intro v2_loc2 H locs ls hm2 h2_1 hP hD hS hl
      have hJ37 : ∀ (H : Heap) (locs : List Loc) (ls : Array Slot), iv 0 19 v2_loc2 → iv 1 20 (x_n 1) → va_P (dC, dI) vwCl [(on, .inr (2, oX2 n_kind n_salt n_pace n_manner n_from n_to n_goal n_reach n_branches n_branch n_tally x_n)), (n_kind, .inl (kI, 12, .inl f_n_kind)), (n_manner, .inl (kI, 12, .inl f_n_manner)), (n_from, .inl (kI, 20, .inl f_n_from)), (n_to, .inl (kI, 20, .inl f_n_to)), (n_reach, .inl (kI, 12, .inl f_n_reach))] H → va_D A [(on, .inr (2, oX2 n_kind n_salt n_pace n_manner n_from n_to n_goal n_reach n_branches n_branch n_tally x_n)), (n_kind, .inl (kI, 12, .inl f_n_kind)), (n_manner, .inl (kI, 12, .inl f_n_manner)), (n_from, .inl (kI, 20, .inl f_n_from)), (n_to, .inl (kI, 20, .inl f_n_to)), (n_reach, .inl (kI, 12, .inl f_n_reach))] → va_S A s.heap H locs → lv_has ls 3 [(0, .ref on), (1, .int p0), (2, .int v2_loc2)] → W p l e (headSpec wsX2_whyLoopAt rm_s2_whyLoopAt).room s m args0 below meth c H locs (0) (0) (MQ below (va_Qi (fun (r : Int32) (_ : Unit) => iv 1 3 r) (fun _ t => va_P (dC, dI) vwCl [(on, .inr (2, oX2 n_kind n_salt n_pace n_manner n_from n_to n_goal n_reach n_branches n_branch n_tally x_n)), (n_kind, .inl (kI, 12, .inl f_n_kind)), (n_manner, .inl (kI, 12, .inl f_n_manner)), (n_from, .inl (kI, 20, .inl f_n_from)), (n_to, .inl (kI, 20, .inl f_n_to)), (n_reach, .inl (kI, 12, .inl f_n_reach))] t.heap ∧ va_D A [(on, .inr (2, oX2 n_kind n_salt n_pace n_manner n_from n_to n_goal n_reach n_branches n_branch n_tally x_n)), (n_kind, .inl (kI, 12, .inl f_n_kind)), (n_manner, .inl (kI, 12, .inl f_n_manner)), (n_from, .inl (kI, 20, .inl f_n_from)), (n_to, .inl (kI, 20, .inl f_n_to)), (n_reach, .inl (kI, 12, .inl f_n_reach))]) A) args0 s 0 0 A) (F0 m 37 ls []) := by
        intro H locs ls h37_1 h37_2 hP hD hS hl
        refine lv_iinc (v := v2_loc2 + Int32.ofInt 1) (lv' := [(2, .int (v2_loc2 + Int32.ofInt 1)), (0, .ref on), (1, .int p0)]) hx hb dX2_whyLoopAt_37 hl (k := 2) rfl (rfl) (Nat.le_of_ble_eq_true rfl) rfl (fun ls hl => ?_)
        have b18 : iv 1 20 (v2_loc2 + Int32.ofInt 1) := iv_add h37_1 ivo_1 (by decide) (by decide) (by decide) (by decide)
        refine lv_goto (tgt := 2) hx hb dX2_whyLoopAt_40 rfl ?_
        exact ih2 (v2_loc2 + Int32.ofInt 1) _ _ _ (ms_up (c := 1) (d := 0) h37_1 hm2 (by decide) (iv_inc 1 h37_1 (by decide) (by decide) (by decide) (by decide)) (by decide) rfl) ((iv_w b18 (by decide) (by decide))) (hP) (hD) hS (lv_sub hl [1, 2, 0] rfl)
      refine lv_iload_n hx hb dX2_whyLoopAt_2 rfl (lv_at hl 2 rfl) ?_
      refine lv_aload_n hx hb dX2_whyLoopAt_3 rfl (lv_at hl 0 rfl) ?_
      refine va_get (D := (dC, dI)) (ci := 2) (v := .int (x_n 1)) (C := RX2) (T := TX2) (N := 15) hx hb hts hin2 hown hK hP 0 rfl rfl 8 (Nat.le_of_ble_eq_true rfl) hw_2 (fun _ h9 => h9) rfl dX2_whyLoopAt_4 ?_
      refine lv_icmp_ge (tgt := 43) hx hb dX2_whyLoopAt_7 rfl (fun c19 => ?_) (fun c19 => ?_)
      · refine lv_iconst (v := 0) hx hb dX2_whyLoopAt_43 ic_0 ?_
        refine lv_istore_n (lv' := [(2, .int 0), (0, .ref on), (1, .int p0)]) hx hb dX2_whyLoopAt_44 rfl hl (Nat.le_of_ble_eq_true rfl) rfl (fun ls hl => ?_)
        exact hJ45 _ 0 _ _ _ (Nat.lt_succ_self _) ((iv_w ivk_0 (by decide) (by decide))) (hP) (hD) hS (lv_sub hl [1, 2, 0] rfl)
      · have b20 : iv 0 19 v2_loc2 := iv_ltL (Int32.not_le.mp c19) h2_1 (hx_n 1 : iv 0 20 (x_n 1)) (by decide) (by decide)
        have b21 : iv 1 20 (x_n 1) := iv_ltR (Int32.not_le.mp c19) h2_1 (hx_n 1 : iv 0 20 (x_n 1)) (by decide) (by decide)
        refine lv_aload_n hx hb dX2_whyLoopAt_10 rfl (lv_at hl 0 rfl) ?_
        refine va_get (D := (dC, dI)) (ci := 2) (v := .ref n_to) (C := RX2) (T := TX2) (N := 15) hx hb hts hin2 hown hK hP 0 rfl rfl 5 (Nat.le_of_ble_eq_true rfl) hw_3 (fun _ h9 => h9) rfl dX2_whyLoopAt_11 ?_
        refine lv_iload_n hx hb dX2_whyLoopAt_14 rfl (lv_at hl 2 rfl) ?_
        refine va_iald hx hb hK hP 4 1 rfl rfl (iv_in b20 (by decide) (by decide)) dX2_whyLoopAt_15 ?_
        refine iv_top (a := 0) (b := 11) (hf_n_to _) (fun z22 b23 => ?_)
        refine lv_iload_n hx hb dX2_whyLoopAt_16 rfl (lv_at hl 1 rfl) ?_
        refine lv_icmp_ne (tgt := 37) hx hb dX2_whyLoopAt_17 rfl (fun c24 => ?_) (fun c24 => ?_)
        · exact hJ37 _ _ _ (b20) (b21) (hP) (hD) hS (lv_sub hl [0, 1, 2] rfl)
        · refine lv_aload_n hx hb dX2_whyLoopAt_20 rfl (lv_at hl 0 rfl) ?_
          refine va_get (D := (dC, dI)) (ci := 2) (v := .ref n_manner) (C := RX2) (T := TX2) (N := 15) hx hb hts hin2 hown hK hP 0 rfl rfl 3 (Nat.le_of_ble_eq_true rfl) hw_4 (fun _ h9 => h9) rfl dX2_whyLoopAt_21 ?_
          refine lv_aload_n hx hb dX2_whyLoopAt_24 rfl (lv_at hl 0 rfl) ?_
          refine va_get (D := (dC, dI)) (ci := 2) (v := .ref n_from) (C := RX2) (T := TX2) (N := 15) hx hb hts hin2 hown hK hP 0 rfl rfl 4 (Nat.le_of_ble_eq_true rfl) hw_5 (fun _ h9 => h9) rfl dX2_whyLoopAt_25 ?_
          refine lv_iload_n hx hb dX2_whyLoopAt_28 rfl (lv_at hl 2 rfl) ?_
          refine va_iald hx hb hK hP 3 1 rfl rfl (iv_in b20 (by decide) (by decide)) dX2_whyLoopAt_29 ?_
          refine iv_top (a := 0) (b := 11) (hf_n_from _) (fun z25 b26 => ?_)
          refine va_iald hx hb hK hP 2 1 rfl rfl (iv_in b26 (by decide) (by decide)) dX2_whyLoopAt_30 ?_
          refine lv_topi (fun z27 _ => ?_)
          refine lv_iconst (v := 2) hx hb dX2_whyLoopAt_31 ic_2 ?_
          refine lv_icmp_ne (tgt := 37) hx hb dX2_whyLoopAt_32 rfl (fun c28 => ?_) (fun c28 => ?_)
          · exact hJ37 _ _ _ (b20) (b21) (hP) (hD) hS (lv_sub hl [0, 1, 2] rfl)
          · have b29 : iv 2 2 z27 := iv_eqL c28 ivk_2
            refine lv_iconst (v := 1) hx hb dX2_whyLoopAt_35 ic_1 ?_
            have hP9 := hP
            have hD9 := hD
            exact W.iret (v := 1) hx hb hr (fun t ht hW => ⟨⟨1, (), rfl, (iv_w ivk_1 (by decide) (by decide)), by rw [ht]; exact hP9, hD9⟩, hS.F ht⟩) hS.2.2 dX2_whyLoopAt_36
  refine lv_iconst (v := 0) hx hb dX2_whyLoopAt_0 ic_0 ?_
  refine lv_istore_n (lv' := [(2, .int 0), (0, .ref on), (1, .int p0)]) hx hb dX2_whyLoopAt_1 rfl hl (Nat.le_of_ble_eq_true rfl) rfl (fun ls hl => ?_)
  exact hJ2 _ 0 _ _ _ (Nat.lt_succ_self _) ((iv_w ivk_0 (by decide) (by decide))) (hP) (hD) hS (lv_sub hl [1, 2, 0] rfl)
def rm_s4_begin : Room := { frames := 0, cells := 0, slots := 0, locals := 0 }
set_option maxHeartbeats 4000000 in
set_option maxRecDepth 100000 in
theorem s4_begin (l : Launch) (dC : Nat → ClassId) (dI : Nat → Nat → Nat) (kB kI kJ kZ kC kS : ClassId) (sz : Nat) (o : Nat) (o_met : Nat) (o_enough : Nat) (x_o : Nat → Int32) (f_o_met : Nat → Int64) (p0 : Int32) (hp0 : iv 1 22 p0) : Met l yX4_begin wsX4_begin rm_s4_begin (va_Pc [.ref o, .int p0] (fun U => U.heap.size = sz ∧ va_P (dC, dI) vwCl [(o, .inr (4, oX4 o_met o_enough x_o)), (o_met, .inl (kJ, 23, .inr (.inl f_o_met)))] U.heap ∧ kE dC dI kB kI kJ kZ kC kS U ∧ va_D (fun _ => True) [(o, .inr (4, oX4 o_met o_enough x_o)), (o_met, .inl (kJ, 23, .inr (.inl f_o_met)))])) (va_Qv (fun (_ : Unit) => True) (fun _ t => ∃ (f_o_met' : Nat → Int64), va_P (dC, dI) vwCl [(o, .inr (4, oX4 o_met o_enough x_o)), (o_met, .inl (kJ, 23, .inr (.inl f_o_met')))] t.heap ∧ va_D (va_A [(o, .inr (4, oX4 o_met o_enough x_o)), (o_met, .inl (kJ, 23, .inr (.inl f_o_met)))] sz) [(o, .inr (4, oX4 o_met o_enough x_o)), (o_met, .inl (kJ, 23, .inr (.inl f_o_met')))]) (va_A [(o, .inr (4, oX4 o_met o_enough x_o)), (o_met, .inl (kJ, 23, .inr (.inl f_o_met)))] sz)) 0 0 (va_A [(o, .inr (4, oX4 o_met o_enough x_o)), (o_met, .inl (kJ, 23, .inr (.inl f_o_met)))] sz) := by
  refine Met.ofW (cc := cX4_begin) (maxL := 3) (ret := none) (by decide) rfl ?_
  intro p e s m args0 below meth c s₁ B hml hv
  obtain ⟨hargs, hsz, hP, hE, hD0⟩ := hv
  have hx := B.exec
  have hb := B.bytes
  have hr := B.returns
  have hts := atoms_spec (ws := wsX4_begin) B.pre
  have hown : s.vm.findClass RX4 = some m.cls := findClass_of_methodNamed B.named
  have hlocks := B.notSynchronized
  have hK := hE.1
  have hin4 : ∀ w ∈ wsX40, w ∈ wsX4_begin := fun _ h9 => List.mem_cons_of_mem _ (List.mem_append_right _ h9)
  have hw_0 := hts (.fieldLink RX4 9 "PathProber$Odds" "met" "[J") (List.mem_of_getElem? (i := 1) rfl)
  have hw_1 := hts (.constantLong RX4 23 (1000000000000)) (List.mem_of_getElem? (i := 2) rfl)
  subst hsz
  have hD := hD0.self (sz := s.heap.size)
  generalize hAe : va_A [(o, .inr (4, oX4 o_met o_enough x_o)), (o_met, .inl (kJ, 23, .inr (.inl f_o_met)))] s.heap.size = A at hD ⊢
  have hA : ∀ q : Nat, s.heap.size ≤ q → A q := fun q h => by rw [← hAe]; exact Or.inr h
  have hS : va_S A s.heap s.heap [] := va_S.rf
  have hP : va_P (dC, dI) vwCl [(o, .inr (4, oX4 o_met o_enough x_o)), (o_met, .inl (kJ, 23, .inr (.inl f_o_met)))] s.heap := hP
  have hl := lv_entry ([.ref o, .int p0]) (n := 3) (Nat.le_of_ble_eq_true rfl)
  have hla : entryFrame m args0 3 = entryFrame m ([.ref o, .int p0] : List Value).toArray 3 := by rw [hargs]
  rw [hla, lg_entry_eq]
  generalize (lg_sl ([.ref o, .int p0]) ++ List.replicate (3 - (lg_sl ([.ref o, .int p0])).length) Slot.unset).toArray = ls at hl ⊢
  have hl : lv_has ls 3 [(0, .ref o), (1, .int p0)] := hl
  have hJ11 : ∀ (n : Nat) (g11_1 : Nat → Int64) (v11_loc2 : Int32) (H : Heap) (locs : List Loc) (ls : Array Slot), (2147483647 - v11_loc2.toInt).toNat < n → iv 1 2147483647 v11_loc2 → va_P (dC, dI) vwCl [(o, .inr (4, oX4 o_met o_enough x_o)), (o_met, .inl (kJ, 23, .inr (.inl g11_1)))] H → va_D A [(o, .inr (4, oX4 o_met o_enough x_o)), (o_met, .inl (kJ, 23, .inr (.inl g11_1)))] → va_S A s.heap H locs → lv_has ls 3 [(0, .ref o), (1, .int p0), (2, .int v11_loc2)] → W p l e (headSpec wsX4_begin rm_s4_begin).room s m args0 below meth c H locs (0) (0) (MQ below (va_Qv (fun (_ : Unit) => True) (fun _ t => ∃ (f_o_met' : Nat → Int64), va_P (dC, dI) vwCl [(o, .inr (4, oX4 o_met o_enough x_o)), (o_met, .inl (kJ, 23, .inr (.inl f_o_met')))] t.heap ∧ va_D A [(o, .inr (4, oX4 o_met o_enough x_o)), (o_met, .inl (kJ, 23, .inr (.inl f_o_met')))]) A) args0 s 0 0 A) (F0 m 11 ls []) := by
    intro n
    induction n with
    | zero => intro g11_1 v11_loc2 H locs ls hm11; exact absurd hm11 (Nat.not_lt_zero _)
    | succ n ih11 =>
      intro g11_1 v11_loc2 H locs ls hm11 h11_1 hP hD hS hl
      refine lv_iload_n hx hb dX4_begin_11 rfl (lv_at hl 2 rfl) ?_
      refine lv_iload_n hx hb dX4_begin_12 rfl (lv_at hl 1 rfl) ?_
      refine lv_icmp_gt (tgt := 29) hx hb dX4_begin_13 rfl (fun c1 => ?_) (fun c1 => ?_)
      · have b2 : iv 2 2147483647 v11_loc2 := iv_ltR c1 hp0 h11_1 (by decide) (by decide)
        have hP9 := hP
        have hD9 := hD
        exact W.vret hx hb hr (fun t ht hW => ⟨⟨(), rfl, trivial, g11_1, by rw [ht]; exact hP9, hD9⟩, hS.F ht⟩) hS.2.2 dX4_begin_29
      · have b3 : iv 1 22 v11_loc2 := iv_leL (Int32.not_lt.mp c1) h11_1 hp0 (by decide) (by decide)
        refine lv_aload_n hx hb dX4_begin_16 rfl (lv_at hl 0 rfl) ?_
        refine va_get (D := (dC, dI)) (ci := 4) (v := .ref o_met) (C := RX4) (T := TX4) (N := 3) hx hb hts hin4 hown hK hP 0 rfl rfl 0 (Nat.le_of_ble_eq_true rfl) hw_0 (fun _ h9 => h9) rfl dX4_begin_17 ?_
        refine lv_iload_n hx hb dX4_begin_20 rfl (lv_at hl 2 rfl) ?_
        refine lv_lconst (v := 0) hx hb dX4_begin_21 (by decide) ?_
        refine va_last hx hb hK hP hD hS 1 2 rfl rfl (iv_in b3 (by decide) (by decide)) dX4_begin_22 (fun H locs hPa hDa hS => ?_)
        clear hP hD
        have hP : va_P (dC, dI) vwCl [(o, .inr (4, oX4 o_met o_enough x_o)), (o_met, .inl (kJ, 23, .inr (.inl (vp_updL g11_1 v11_loc2.toNatClampNeg 0))))] H := hPa
        have hD : va_D A [(o, .inr (4, oX4 o_met o_enough x_o)), (o_met, .inl (kJ, 23, .inr (.inl (vp_updL g11_1 v11_loc2.toNatClampNeg 0))))] := hDa
        clear hPa hDa
        generalize (vp_updL g11_1 v11_loc2.toNatClampNeg 0) = f4 at hP hD
        refine lv_iinc (v := v11_loc2 + Int32.ofInt 1) (lv' := [(2, .int (v11_loc2 + Int32.ofInt 1)), (0, .ref o), (1, .int p0)]) hx hb dX4_begin_23 hl (k := 2) rfl (rfl) (Nat.le_of_ble_eq_true rfl) rfl (fun ls hl => ?_)
        have b5 : iv 2 23 (v11_loc2 + Int32.ofInt 1) := iv_add b3 ivo_1 (by decide) (by decide) (by decide) (by decide)
        refine lv_goto (tgt := 11) hx hb dX4_begin_26 rfl ?_
        exact ih11 f4 (v11_loc2 + Int32.ofInt 1) _ _ _ (ms_up (c := 1) (d := 0) b3 hm11 (by decide) (iv_inc 1 b3 (by decide) (by decide) (by decide) (by decide)) (by decide) rfl) ((iv_w b5 (by decide) (by decide))) (hP) (hD) hS (lv_sub hl [1, 2, 0] rfl)
  refine lv_aload_n hx hb dX4_begin_0 rfl (lv_at hl 0 rfl) ?_
  refine va_get (D := (dC, dI)) (ci := 4) (v := .ref o_met) (C := RX4) (T := TX4) (N := 3) hx hb hts hin4 hown hK hP 0 rfl rfl 0 (Nat.le_of_ble_eq_true rfl) hw_0 (fun _ h9 => h9) rfl dX4_begin_1 ?_
  refine lv_iconst (v := 0) hx hb dX4_begin_4 ic_0 ?_
  refine lv_ldc2 hx hb hown hw_1 dX4_begin_5 ?_
  refine va_last hx hb hK hP hD hS 1 2 rfl rfl (vp_in_nI (n := 0) (by decide) (by decide)) dX4_begin_8 (fun H locs hPa hDa hS => ?_)
  clear hP hD
  have hP : va_P (dC, dI) vwCl [(o, .inr (4, oX4 o_met o_enough x_o)), (o_met, .inl (kJ, 23, .inr (.inl (vp_updL f_o_met 0 1000000000000))))] H := hPa
  have hD : va_D A [(o, .inr (4, oX4 o_met o_enough x_o)), (o_met, .inl (kJ, 23, .inr (.inl (vp_updL f_o_met 0 1000000000000))))] := hDa
  clear hPa hDa
  generalize (vp_updL f_o_met 0 1000000000000) = f6 at hP hD
  refine lv_iconst (v := 1) hx hb dX4_begin_9 ic_1 ?_
  refine lv_istore_n (lv' := [(2, .int 1), (0, .ref o), (1, .int p0)]) hx hb dX4_begin_10 rfl hl (Nat.le_of_ble_eq_true rfl) rfl (fun ls hl => ?_)
  exact hJ11 _ f6 1 _ _ _ (Nat.lt_succ_self _) ((iv_w ivk_1 (by decide) (by decide))) (hP) (hD) hS (lv_sub hl [1, 2, 0] rfl)
def rm_s4_sendNext : Room := { frames := 0, cells := 0, slots := 0, locals := 0 }
set_option maxHeartbeats 4000000 in
set_option maxRecDepth 100000 in
theorem s4_sendNext (l : Launch) (dC : Nat → ClassId) (dI : Nat → Nat → Nat) (kB kI kJ kZ kC kS : ClassId) (sz : Nat) (o : Nat) (o_met : Nat) (o_enough : Nat) (x_o : Nat → Int32) (f_o_met : Nat → Int64) (p0 : Int32) : Met l yX4_sendNext wsX4_sendNext rm_s4_sendNext (va_Pc [.ref o, .int p0] (fun U => U.heap.size = sz ∧ va_P (dC, dI) vwCl [(o, .inr (4, oX4 o_met o_enough x_o)), (o_met, .inl (kJ, 23, .inr (.inl f_o_met)))] U.heap ∧ kE dC dI kB kI kJ kZ kC kS U ∧ va_D (fun _ => True) [(o, .inr (4, oX4 o_met o_enough x_o)), (o_met, .inl (kJ, 23, .inr (.inl f_o_met)))])) (va_Qv (fun (_ : Unit) => True) (fun _ t => ∃ (f_o_met' : Nat → Int64), va_P (dC, dI) vwCl [(o, .inr (4, oX4 o_met o_enough x_o)), (o_met, .inl (kJ, 23, .inr (.inl f_o_met')))] t.heap ∧ va_D (va_A [(o, .inr (4, oX4 o_met o_enough x_o)), (o_met, .inl (kJ, 23, .inr (.inl f_o_met)))] sz) [(o, .inr (4, oX4 o_met o_enough x_o)), (o_met, .inl (kJ, 23, .inr (.inl f_o_met')))]) (va_A [(o, .inr (4, oX4 o_met o_enough x_o)), (o_met, .inl (kJ, 23, .inr (.inl f_o_met)))] sz)) 0 0 (va_A [(o, .inr (4, oX4 o_met o_enough x_o)), (o_met, .inl (kJ, 23, .inr (.inl f_o_met)))] sz) := by
  refine Met.ofW (cc := cX4_sendNext) (maxL := 5) (ret := none) (by decide) rfl ?_
  intro p e s m args0 below meth c s₁ B hml hv
  obtain ⟨hargs, hsz, hP, hE, hD0⟩ := hv
  have hx := B.exec
  have hb := B.bytes
  have hr := B.returns
  have hts := atoms_spec (ws := wsX4_sendNext) B.pre
  have hown : s.vm.findClass RX4 = some m.cls := findClass_of_methodNamed B.named
  have hlocks := B.notSynchronized
  have hK := hE.1
  have hin4 : ∀ w ∈ wsX40, w ∈ wsX4_sendNext := fun _ h9 => List.mem_cons_of_mem _ (List.mem_append_right _ h9)
  have hw_0 := hts (.fieldLink RX4 9 "PathProber$Odds" "met" "[J") (List.mem_of_getElem? (i := 1) rfl)
  subst hsz
  have hD := hD0.self (sz := s.heap.size)
  generalize hAe : va_A [(o, .inr (4, oX4 o_met o_enough x_o)), (o_met, .inl (kJ, 23, .inr (.inl f_o_met)))] s.heap.size = A at hD ⊢
  have hA : ∀ q : Nat, s.heap.size ≤ q → A q := fun q h => by rw [← hAe]; exact Or.inr h
  have hS : va_S A s.heap s.heap [] := va_S.rf
  have hP : va_P (dC, dI) vwCl [(o, .inr (4, oX4 o_met o_enough x_o)), (o_met, .inl (kJ, 23, .inr (.inl f_o_met)))] s.heap := hP
  have hl := lv_entry ([.ref o, .int p0]) (n := 5) (Nat.le_of_ble_eq_true rfl)
  have hla : entryFrame m args0 5 = entryFrame m ([.ref o, .int p0] : List Value).toArray 5 := by rw [hargs]
  rw [hla, lg_entry_eq]
  generalize (lg_sl ([.ref o, .int p0]) ++ List.replicate (5 - (lg_sl ([.ref o, .int p0])).length) Slot.unset).toArray = ls at hl ⊢
  have hl : lv_has ls 5 [(0, .ref o), (1, .int p0)] := hl
  have hJ19 : ∀ (n : Nat) (g19_1 : Nat → Int64) (v19_loc2 : Int32) (H : Heap) (locs : List Loc) (ls : Array Slot), (v19_loc2.toInt - (-1)).toNat < n → iv 1 22 p0 → iv (-1) 21 v19_loc2 → va_P (dC, dI) vwCl [(o, .inr (4, oX4 o_met o_enough x_o)), (o_met, .inl (kJ, 23, .inr (.inl g19_1)))] H → va_D A [(o, .inr (4, oX4 o_met o_enough x_o)), (o_met, .inl (kJ, 23, .inr (.inl g19_1)))] → va_S A s.heap H locs → lv_has ls 5 [(0, .ref o), (1, .int p0), (2, .int v19_loc2)] → W p l e (headSpec wsX4_sendNext rm_s4_sendNext).room s m args0 below meth c H locs (0) (0) (MQ below (va_Qv (fun (_ : Unit) => True) (fun _ t => ∃ (f_o_met' : Nat → Int64), va_P (dC, dI) vwCl [(o, .inr (4, oX4 o_met o_enough x_o)), (o_met, .inl (kJ, 23, .inr (.inl f_o_met')))] t.heap ∧ va_D A [(o, .inr (4, oX4 o_met o_enough x_o)), (o_met, .inl (kJ, 23, .inr (.inl f_o_met')))]) A) args0 s 0 0 A) (F0 m 19 ls []) := by
    intro n
    induction n with
    | zero => intro g19_1 v19_loc2 H locs ls hm19; exact absurd hm19 (Nat.not_lt_zero _)
    | succ n ih19 =>
      intro g19_1 v19_loc2 H locs ls hm19 h19_1 h19_2 hP hD hS hl
      refine lv_iload_n hx hb dX4_sendNext_19 rfl (lv_at hl 2 rfl) ?_
      refine lv_if_lt (tgt := 68) hx hb dX4_sendNext_20 rfl (fun c1 => ?_) (fun c1 => ?_)
      · have b2 : iv (-1) (-1) v19_loc2 := iv_ltL c1 h19_2 ivk_0 (by decide) (by decide)
        have hP9 := hP
        have hD9 := hD
        exact W.vret hx hb hr (fun t ht hW => ⟨⟨(), rfl, trivial, g19_1, by rw [ht]; exact hP9, hD9⟩, hS.F ht⟩) hS.2.2 dX4_sendNext_68
      · have b3 : iv 0 21 v19_loc2 := iv_leR (Int32.not_lt.mp c1) ivk_0 h19_2 (by decide) (by decide)
        refine lv_aload_n hx hb dX4_sendNext_23 rfl (lv_at hl 0 rfl) ?_
        refine va_get (D := (dC, dI)) (ci := 4) (v := .ref o_met) (C := RX4) (T := TX4) (N := 3) hx hb hts hin4 hown hK hP 0 rfl rfl 0 (Nat.le_of_ble_eq_true rfl) hw_0 (fun _ h9 => h9) rfl dX4_sendNext_24 ?_
        refine lv_iload_n hx hb dX4_sendNext_27 rfl (lv_at hl 2 rfl) ?_
        refine va_lald hx hb hK hP 1 2 rfl rfl (iv_in b3 (by decide) (by decide)) dX4_sendNext_28 ?_
        refine lv_topl (fun z4 _ => ?_)
        refine lv_iload_n hx hb dX4_sendNext_29 rfl (lv_at hl 2 rfl) ?_
        refine lv_i2l (v := v19_loc2.toInt64) hx hb dX4_sendNext_30 rfl ?_
        refine lv_lmul hx hb dX4_sendNext_31 ?_
        refine lv_topl (fun z5 _ => ?_)
        refine lv_iload_n hx hb dX4_sendNext_32 rfl (lv_at hl 1 rfl) ?_
        refine lv_i2l (v := p0.toInt64) hx hb dX4_sendNext_33 rfl ?_
        refine lv_ldiv hx hb dX4_sendNext_34 (iv_ne64 h19_1 (by decide)) ?_
        refine lv_topl (fun z6 _ => ?_)
        refine lv_lstore_n (lv' := [(3, .long z6), (0, .ref o), (1, .int p0), (2, .int v19_loc2)]) hx hb dX4_sendNext_35 rfl hl (Nat.le_of_ble_eq_true rfl) rfl (fun ls hl => ?_)
        refine lv_aload_n hx hb dX4_sendNext_36 rfl (lv_at hl 1 rfl) ?_
        refine va_get (D := (dC, dI)) (ci := 4) (v := .ref o_met) (C := RX4) (T := TX4) (N := 3) hx hb hts hin4 hown hK hP 0 rfl rfl 0 (Nat.le_of_ble_eq_true rfl) hw_0 (fun _ h9 => h9) rfl dX4_sendNext_37 ?_
        refine lv_iload_n hx hb dX4_sendNext_40 rfl (lv_at hl 3 rfl) ?_
        refine lv_iconst (v := 1) hx hb dX4_sendNext_41 ic_1 ?_
        refine lv_iadd hx hb dX4_sendNext_42 ?_
        refine iv_top (a := 1) (b := 22) (iv_add b3 ivk_1 (by decide) (by decide) (by decide) (by decide)) (fun z7 b8 => ?_)
        refine lv_dup2_11 hx hb dX4_sendNext_43 rfl rfl ?_
        refine va_lald hx hb hK hP 1 2 rfl rfl (iv_in b8 (by decide) (by decide)) dX4_sendNext_44 ?_
        refine lv_topl (fun z9 _ => ?_)
        refine lv_aload_n hx hb dX4_sendNext_45 rfl (lv_at hl 1 rfl) ?_
        refine va_get (D := (dC, dI)) (ci := 4) (v := .ref o_met) (C := RX4) (T := TX4) (N := 3) hx hb hts hin4 hown hK hP 0 rfl rfl 0 (Nat.le_of_ble_eq_true rfl) hw_0 (fun _ h9 => h9) rfl dX4_sendNext_46 ?_
        refine lv_iload_n hx hb dX4_sendNext_49 rfl (lv_at hl 3 rfl) ?_
        refine va_lald hx hb hK hP 1 2 rfl rfl (iv_in b3 (by decide) (by decide)) dX4_sendNext_50 ?_
        refine lv_topl (fun z10 _ => ?_)
        refine lv_lload_n hx hb dX4_sendNext_51 rfl (lv_at hl 0 rfl) ?_
        refine lv_lsub hx hb dX4_sendNext_52 ?_
        refine lv_topl (fun z11 _ => ?_)
        refine lv_ladd hx hb dX4_sendNext_53 ?_
        refine lv_topl (fun z12 _ => ?_)
        refine va_last hx hb hK hP hD hS 1 2 rfl rfl (iv_in b8 (by decide) (by decide)) dX4_sendNext_54 (fun H locs hPa hDa hS => ?_)
        clear hP hD
        have hP : va_P (dC, dI) vwCl [(o, .inr (4, oX4 o_met o_enough x_o)), (o_met, .inl (kJ, 23, .inr (.inl (vp_updL g19_1 z7.toNatClampNeg z12))))] H := hPa
        have hD : va_D A [(o, .inr (4, oX4 o_met o_enough x_o)), (o_met, .inl (kJ, 23, .inr (.inl (vp_updL g19_1 z7.toNatClampNeg z12))))] := hDa
        clear hPa hDa
        generalize (vp_updL g19_1 z7.toNatClampNeg z12) = f13 at hP hD
        refine lv_aload_n hx hb dX4_sendNext_55 rfl (lv_at hl 1 rfl) ?_
        refine va_get (D := (dC, dI)) (ci := 4) (v := .ref o_met) (C := RX4) (T := TX4) (N := 3) hx hb hts hin4 hown hK hP 0 rfl rfl 0 (Nat.le_of_ble_eq_true rfl) hw_0 (fun _ h9 => h9) rfl dX4_sendNext_56 ?_
        refine lv_iload_n hx hb dX4_sendNext_59 rfl (lv_at hl 3 rfl) ?_
        refine lv_lload_n hx hb dX4_sendNext_60 rfl (lv_at hl 0 rfl) ?_
        refine va_last hx hb hK hP hD hS 1 2 rfl rfl (iv_in b3 (by decide) (by decide)) dX4_sendNext_61 (fun H locs hPa hDa hS => ?_)
        clear hP hD
        have hP : va_P (dC, dI) vwCl [(o, .inr (4, oX4 o_met o_enough x_o)), (o_met, .inl (kJ, 23, .inr (.inl (vp_updL f13 v19_loc2.toNatClampNeg z6))))] H := hPa
        have hD : va_D A [(o, .inr (4, oX4 o_met o_enough x_o)), (o_met, .inl (kJ, 23, .inr (.inl (vp_updL f13 v19_loc2.toNatClampNeg z6))))] := hDa
        clear hPa hDa
        generalize (vp_updL f13 v19_loc2.toNatClampNeg z6) = f14 at hP hD
        refine lv_iinc (v := v19_loc2 + Int32.ofInt (-1)) (lv' := [(2, .int (v19_loc2 + Int32.ofInt (-1))), (3, .long z6), (0, .ref o), (1, .int p0)]) hx hb dX4_sendNext_62 hl (k := 3) rfl (rfl) (Nat.le_of_ble_eq_true rfl) rfl (fun ls hl => ?_)
        have b15 : iv (-1) 20 (v19_loc2 + Int32.ofInt (-1)) := iv_add b3 ivo_m1 (by decide) (by decide) (by decide) (by decide)
        refine lv_goto (tgt := 19) hx hb dX4_sendNext_65 rfl ?_
        exact ih19 f14 (v19_loc2 + Int32.ofInt (-1)) _ _ _ (ms_dn (c := 1) (d := 0) b3 hm19 (by decide) (iv_inc (-1) b3 (by decide) (by decide) (by decide) (by decide)) (by decide) rfl) (h19_1) ((iv_w b15 (by decide) (by decide))) (hP) (hD) hS (lv_sub hl [2, 3, 0] rfl)
  refine lv_iload_n hx hb dX4_sendNext_0 rfl (lv_at hl 1 rfl) ?_
  refine lv_iconst (v := 1) hx hb dX4_sendNext_1 ic_1 ?_
  refine lv_icmp_lt (tgt := 14) hx hb dX4_sendNext_2 rfl (fun c16 => ?_) (fun c16 => ?_)
  · have b17 : iv (-2147483648) 0 p0 := iv_ltL c16 (iv_t p0) ivk_1 (by decide) (by decide)
    have hP9 := hP
    have hD9 := hD
    exact W.vret hx hb hr (fun t ht hW => ⟨⟨(), rfl, trivial, f_o_met, by rw [ht]; exact hP9, hD9⟩, hS.F ht⟩) hS.2.2 dX4_sendNext_14
  · have b18 : iv 1 2147483647 p0 := iv_leR (Int32.not_lt.mp c16) ivk_1 (iv_t p0) (by decide) (by decide)
    refine lv_iload_n hx hb dX4_sendNext_5 rfl (lv_at hl 1 rfl) ?_
    refine lv_aload_n hx hb dX4_sendNext_6 rfl (lv_at hl 0 rfl) ?_
    refine va_get (D := (dC, dI)) (ci := 4) (v := .ref o_met) (C := RX4) (T := TX4) (N := 3) hx hb hts hin4 hown hK hP 0 rfl rfl 0 (Nat.le_of_ble_eq_true rfl) hw_0 (fun _ h9 => h9) rfl dX4_sendNext_7 ?_
    refine va_alen (v := 23) hx hb hK hP 1 2 rfl rfl rfl dX4_sendNext_10 ?_
    refine lv_icmp_lt (tgt := 15) hx hb dX4_sendNext_11 rfl (fun c19 => ?_) (fun c19 => ?_)
    · have b20 : iv 1 22 p0 := iv_ltL c19 b18 ivk_23 (by decide) (by decide)
      refine lv_iload_n hx hb dX4_sendNext_15 rfl (lv_at hl 1 rfl) ?_
      refine lv_iconst (v := 1) hx hb dX4_sendNext_16 ic_1 ?_
      refine lv_isub hx hb dX4_sendNext_17 ?_
      refine iv_top (a := 0) (b := 21) (iv_sub b20 ivk_1 (by decide) (by decide) (by decide) (by decide)) (fun z21 b22 => ?_)
      refine lv_istore_n (lv' := [(2, .int z21), (0, .ref o), (1, .int p0)]) hx hb dX4_sendNext_18 rfl hl (Nat.le_of_ble_eq_true rfl) rfl (fun ls hl => ?_)
      exact hJ19 _ f_o_met z21 _ _ _ (Nat.lt_succ_self _) (b20) ((iv_w b22 (by decide) (by decide))) (hP) (hD) hS (lv_sub hl [1, 2, 0] rfl)
    · have b23 : iv 23 2147483647 p0 := iv_leR (Int32.not_lt.mp c19) ivk_23 b18 (by decide) (by decide)
      have hP9 := hP
      have hD9 := hD
      exact W.vret hx hb hr (fun t ht hW => ⟨⟨(), rfl, trivial, f_o_met, by rw [ht]; exact hP9, hD9⟩, hS.F ht⟩) hS.2.2 dX4_sendNext_14
def rm_s4_missed : Room := { frames := 1, cells := 0, slots := 0, locals := 24 }
set_option maxHeartbeats 4000000 in
set_option maxRecDepth 100000 in
theorem s4_missed (l : Launch) (dC : Nat → ClassId) (dI : Nat → Nat → Nat) (kB kI kJ kZ kC kS : ClassId) (sz : Nat) (o : Nat) (o_met : Nat) (o_enough : Nat) (x_o : Nat → Int32) (f_o_met : Nat → Int64) (p0 : Int32) (p1 : Int32) : Met l yX4_missed wsX4_missed rm_s4_missed (va_Pc [.ref o, .int p0, .int p1] (fun U => U.heap.size = sz ∧ va_P (dC, dI) vwCl [(o, .inr (4, oX4 o_met o_enough x_o)), (o_met, .inl (kJ, 23, .inr (.inl f_o_met)))] U.heap ∧ kE dC dI kB kI kJ kZ kC kS U ∧ va_D (fun _ => True) [(o, .inr (4, oX4 o_met o_enough x_o)), (o_met, .inl (kJ, 23, .inr (.inl f_o_met)))])) (va_Ql (fun (r : Int64) (_ : Unit) => True) (fun _ t => ∃ (f_o_met' : Nat → Int64), va_P (dC, dI) vwCl [(o, .inr (4, oX4 o_met o_enough x_o)), (o_met, .inl (kJ, 23, .inr (.inl f_o_met')))] t.heap ∧ va_D (va_A [(o, .inr (4, oX4 o_met o_enough x_o)), (o_met, .inl (kJ, 23, .inr (.inl f_o_met)))] sz) [(o, .inr (4, oX4 o_met o_enough x_o)), (o_met, .inl (kJ, 23, .inr (.inl f_o_met')))]) (va_A [(o, .inr (4, oX4 o_met o_enough x_o)), (o_met, .inl (kJ, 23, .inr (.inl f_o_met)))] sz)) 0 0 (va_A [(o, .inr (4, oX4 o_met o_enough x_o)), (o_met, .inl (kJ, 23, .inr (.inl f_o_met)))] sz) := by
  refine Met.ofW (cc := cX4_missed) (maxL := 4) (ret := (some .long)) (by decide) rfl ?_
  intro p e s m args0 below meth c s₁ B hml hv
  obtain ⟨hargs, hsz, hP, hE, hD0⟩ := hv
  have hx := B.exec
  have hb := B.bytes
  have hr := B.returns
  have hts := atoms_spec (ws := wsX4_missed) B.pre
  have hown : s.vm.findClass RX4 = some m.cls := findClass_of_methodNamed B.named
  have hlocks := B.notSynchronized
  have hK := hE.1
  have hin4 : ∀ w ∈ wsX40, w ∈ wsX4_missed := fun _ h9 => List.mem_cons_of_mem _ (List.mem_append_right _ h9)
  have hw_0 := hts (.constantLong RX4 23 (1000000000000)) (List.mem_of_getElem? (i := 2) rfl)
  have hw_1 := hts (.fieldLink RX4 9 "PathProber$Odds" "met" "[J") (List.mem_of_getElem? (i := 1) rfl)
  subst hsz
  have hD := hD0.self (sz := s.heap.size)
  generalize hAe : va_A [(o, .inr (4, oX4 o_met o_enough x_o)), (o_met, .inl (kJ, 23, .inr (.inl f_o_met)))] s.heap.size = A at hD ⊢
  have hA : ∀ q : Nat, s.heap.size ≤ q → A q := fun q h => by rw [← hAe]; exact Or.inr h
  have hS : va_S A s.heap s.heap [] := va_S.rf
  have hP : va_P (dC, dI) vwCl [(o, .inr (4, oX4 o_met o_enough x_o)), (o_met, .inl (kJ, 23, .inr (.inl f_o_met)))] s.heap := hP
  have hl := lv_entry ([.ref o, .int p0, .int p1]) (n := 4) (Nat.le_of_ble_eq_true rfl)
  have hla : entryFrame m args0 4 = entryFrame m ([.ref o, .int p0, .int p1] : List Value).toArray 4 := by rw [hargs]
  rw [hla, lg_entry_eq]
  generalize (lg_sl ([.ref o, .int p0, .int p1]) ++ List.replicate (4 - (lg_sl ([.ref o, .int p0, .int p1])).length) Slot.unset).toArray = ls at hl ⊢
  have hl : lv_has ls 4 [(0, .ref o), (1, .int p0), (2, .int p1)] := hl
  have hJ14 : ∀ (H : Heap) (locs : List Loc) (ls : Array Slot), iv (-2147483648) 2147483647 p1 → va_P (dC, dI) vwCl [(o, .inr (4, oX4 o_met o_enough x_o)), (o_met, .inl (kJ, 23, .inr (.inl f_o_met)))] H → va_D A [(o, .inr (4, oX4 o_met o_enough x_o)), (o_met, .inl (kJ, 23, .inr (.inl f_o_met)))] → va_S A s.heap H locs → lv_has ls 4 [(0, .ref o), (1, .int p0), (2, .int p1)] → W p l e (headSpec wsX4_missed rm_s4_missed).room s m args0 below meth c H locs (0) (0) (MQ below (va_Ql (fun (r : Int64) (_ : Unit) => True) (fun _ t => ∃ (f_o_met' : Nat → Int64), va_P (dC, dI) vwCl [(o, .inr (4, oX4 o_met o_enough x_o)), (o_met, .inl (kJ, 23, .inr (.inl f_o_met')))] t.heap ∧ va_D A [(o, .inr (4, oX4 o_met o_enough x_o)), (o_met, .inl (kJ, 23, .inr (.inl f_o_met')))]) A) args0 s 0 0 A) (F0 m 14 ls []) := by
    intro H locs ls h14_1 hP hD hS hl
    refine lv_ldc2 hx hb hown hw_0 dX4_missed_14 ?_
    have hP9 := hP
    have hD9 := hD
    exact W.lret (v := 1000000000000) hx hb hr (fun t ht hW => ⟨⟨1000000000000, (), rfl, trivial, f_o_met, by rw [ht]; exact hP9, hD9⟩, hS.F ht⟩) hS.2.2 dX4_missed_17
  have hJ54 : ∀ (g54_1 : Nat → Int64) (v54_loc3 : Int32) (H : Heap) (locs : List Loc) (ls : Array Slot), iv 1 22 p1 → iv 0 2147483647 v54_loc3 → va_P (dC, dI) vwCl [(o, .inr (4, oX4 o_met o_enough x_o)), (o_met, .inl (kJ, 23, .inr (.inl g54_1)))] H → va_D A [(o, .inr (4, oX4 o_met o_enough x_o)), (o_met, .inl (kJ, 23, .inr (.inl g54_1)))] → va_S A s.heap H locs → lv_has ls 4 [(0, .ref o), (1, .int p0), (2, .int p1), (3, .int v54_loc3)] → W p l e (headSpec wsX4_missed rm_s4_missed).room s m args0 below meth c H locs (0) (0) (MQ below (va_Ql (fun (r : Int64) (_ : Unit) => True) (fun _ t => ∃ (f_o_met' : Nat → Int64), va_P (dC, dI) vwCl [(o, .inr (4, oX4 o_met o_enough x_o)), (o_met, .inl (kJ, 23, .inr (.inl f_o_met')))] t.heap ∧ va_D A [(o, .inr (4, oX4 o_met o_enough x_o)), (o_met, .inl (kJ, 23, .inr (.inl f_o_met')))]) A) args0 s 0 0 A) (F0 m 54 ls []) := by
    intro g54_1 v54_loc3 H locs ls h54_1 h54_2 hP hD hS hl
    refine lv_ldc2 hx hb hown hw_0 dX4_missed_54 ?_
    refine lv_aload_n hx hb dX4_missed_57 rfl (lv_at hl 0 rfl) ?_
    refine va_get (D := (dC, dI)) (ci := 4) (v := .ref o_met) (C := RX4) (T := TX4) (N := 3) hx hb hts hin4 hown hK hP 0 rfl rfl 0 (Nat.le_of_ble_eq_true rfl) hw_1 (fun _ h9 => h9) rfl dX4_missed_58 ?_
    refine lv_iload_n hx hb dX4_missed_61 rfl (lv_at hl 2 rfl) ?_
    refine va_lald hx hb hK hP 1 2 rfl rfl (iv_in h54_1 (by decide) (by decide)) dX4_missed_62 ?_
    refine lv_topl (fun z1 _ => ?_)
    refine lv_lsub hx hb dX4_missed_63 ?_
    refine lv_topl (fun z2 _ => ?_)
    have hP9 := hP
    have hD9 := hD
    exact W.lret (v := z2) hx hb hr (fun t ht hW => ⟨⟨z2, (), rfl, trivial, g54_1, by rw [ht]; exact hP9, hD9⟩, hS.F ht⟩) hS.2.2 dX4_missed_64
  have hJ25 : ∀ (n : Nat) (g25_1 : Nat → Int64) (v25_loc3 : Int32) (H : Heap) (locs : List Loc) (ls : Array Slot), (2147483647 - v25_loc3.toInt).toNat < n → iv 1 22 p1 → iv 0 2147483647 v25_loc3 → va_P (dC, dI) vwCl [(o, .inr (4, oX4 o_met o_enough x_o)), (o_met, .inl (kJ, 23, .inr (.inl g25_1)))] H → va_D A [(o, .inr (4, oX4 o_met o_enough x_o)), (o_met, .inl (kJ, 23, .inr (.inl g25_1)))] → va_S A s.heap H locs → lv_has ls 4 [(0, .ref o), (1, .int p0), (2, .int p1), (3, .int v25_loc3)] → W p l e (headSpec wsX4_missed rm_s4_missed).room s m args0 below meth c H locs (0) (0) (MQ below (va_Ql (fun (r : Int64) (_ : Unit) => True) (fun _ t => ∃ (f_o_met' : Nat → Int64), va_P (dC, dI) vwCl [(o, .inr (4, oX4 o_met o_enough x_o)), (o_met, .inl (kJ, 23, .inr (.inl f_o_met')))] t.heap ∧ va_D A [(o, .inr (4, oX4 o_met o_enough x_o)), (o_met, .inl (kJ, 23, .inr (.inl f_o_met')))]) A) args0 s 0 0 A) (F0 m 25 ls []) := by
    intro n
    induction n with
    | zero => intro g25_1 v25_loc3 H locs ls hm25; exact absurd hm25 (Nat.not_lt_zero _)
    | succ n ih25 =>
      intro g25_1 v25_loc3 H locs ls hm25 h25_1 h25_2 hP hD hS hl
      refine lv_iload_n hx hb dX4_missed_25 rfl (lv_at hl 3 rfl) ?_
      refine lv_iload_n hx hb dX4_missed_26 rfl (lv_at hl 1 rfl) ?_
      refine lv_icmp_ge (tgt := 54) hx hb dX4_missed_27 rfl (fun c3 => ?_) (fun c3 => ?_)
      · exact hJ54 g25_1 v25_loc3 _ _ _ (h25_1) (h25_2) (hP) (hD) hS (lv_sub hl [0, 1, 2, 3] rfl)
      · have b4 : iv 0 2147483646 v25_loc3 := iv_ltL (Int32.not_le.mp c3) h25_2 (iv_t p0) (by decide) (by decide)
        have b5 : iv 1 2147483647 p0 := iv_ltR (Int32.not_le.mp c3) h25_2 (iv_t p0) (by decide) (by decide)
        refine lv_aload_n hx hb dX4_missed_30 rfl (lv_at hl 0 rfl) ?_
        refine va_get (D := (dC, dI)) (ci := 4) (v := .ref o_met) (C := RX4) (T := TX4) (N := 3) hx hb hts hin4 hown hK hP 0 rfl rfl 0 (Nat.le_of_ble_eq_true rfl) hw_1 (fun _ h9 => h9) rfl dX4_missed_31 ?_
        refine lv_iload_n hx hb dX4_missed_34 rfl (lv_at hl 2 rfl) ?_
        refine va_lald hx hb hK hP 1 2 rfl rfl (iv_in h25_1 (by decide) (by decide)) dX4_missed_35 ?_
        refine lv_topl (fun z6 _ => ?_)
        refine lv_ldc2 hx hb hown hw_0 dX4_missed_36 ?_
        refine W.lcmp hx hb dX4_missed_39 ?_
        refine lv_topi (fun z7 _ => ?_)
        refine lv_if_ge (tgt := 54) hx hb dX4_missed_40 rfl (fun c8 => ?_) (fun c8 => ?_)
        · have b9 : iv 0 2147483647 z7 := iv_leR c8 ivk_0 (iv_t z7) (by decide) (by decide)
          exact hJ54 g25_1 v25_loc3 _ _ _ (h25_1) ((iv_w b4 (by decide) (by decide))) (hP) (hD) hS (lv_sub hl [0, 1, 2, 3] rfl)
        · have b10 : iv (-2147483648) (-1) z7 := iv_ltL (Int32.not_le.mp c8) (iv_t z7) ivk_0 (by decide) (by decide)
          refine lv_aload_n hx hb dX4_missed_43 rfl (lv_at hl 0 rfl) ?_
          refine lv_iload_n hx hb dX4_missed_44 rfl (lv_at hl 2 rfl) ?_
          obtain ⟨hPc, hDc, hFc, hJn⟩ := cl_a (wc := [(o, .inr (4, oX4 o_met o_enough x_o)), (o_met, .inl (kJ, 23, .inr (.inl g25_1)))]) (wr := []) hP hD hS hA [0, 1] [] rfl rfl (by decide +kernel)
          refine va_callv (va_runV (As := [.int p1]) (rest := []) ⟨hx, hb, hml, hown, hts⟩ (s4_sendNext l dC dI kB kI kJ kZ kC kS H.size o o_met o_enough x_o g25_1 p1) (cwV 1 hts gX4_missed_X4_sendNext rfl rfl rfl (by decide +kernel) ⟨Nat.le_of_ble_eq_true rfl, Nat.le_of_ble_eq_true rfl⟩) ⟨fun a U g mk q => by obtain ⟨q0, q1, qP, qE, qD⟩ := q; exact ⟨q0, q1, qP, kE_call qE, qD⟩, va_recv hK hP (ci := 4) (q0 := 0) rfl rfl, fun U hU hW => ⟨rfl, by rw [hU], by rw [hU]; exact hPc, kE_warm hW hE, hDc.weaken (fun _ _ _ _ => trivial)⟩⟩ rfl rfl hl.1 rfl (lv_room (Nat.le_of_ble_eq_true rfl)) dX4_missed_45 ⟨Nat.le_of_ble_eq_true rfl, Nat.le_of_ble_eq_true rfl⟩) hS (fun q _ h => hFc q h) hFc (fun u t H locs ht hvm w12 hB hz1 hk1 hS => ?_)
          obtain ⟨f13, hP1, hD1⟩ := hB
          try dsimp only at w12
          obtain ⟨hPa, hDa⟩ := hJn (w1 := [(o, .inr (4, oX4 o_met o_enough x_o)), (o_met, .inl (kJ, 23, .inr (.inl f13)))]) hk1 ht hP1 hD1
          clear hP hD hPc hDc hFc hJn hP1 hD1 hk1
          have hP : va_P (dC, dI) vwCl [(o, .inr (4, oX4 o_met o_enough x_o)), (o_met, .inl (kJ, 23, .inr (.inl f13)))] H := hPa
          have hD : va_D A [(o, .inr (4, oX4 o_met o_enough x_o)), (o_met, .inl (kJ, 23, .inr (.inl f13)))] := hDa
          clear hPa hDa
          refine W.widen (k := 0) (n := 0) (Nat.le_of_ble_eq_true rfl) (Nat.le_of_ble_eq_true rfl) ?_
          refine lv_iinc (v := v25_loc3 + Int32.ofInt 1) (lv' := [(3, .int (v25_loc3 + Int32.ofInt 1)), (0, .ref o), (1, .int p0), (2, .int p1)]) hx hb dX4_missed_48 hl (k := 3) rfl (rfl) (Nat.le_of_ble_eq_true rfl) rfl (fun ls hl => ?_)
          have b14 : iv 1 2147483647 (v25_loc3 + Int32.ofInt 1) := iv_add b4 ivo_1 (by decide) (by decide) (by decide) (by decide)
          refine lv_goto (tgt := 25) hx hb dX4_missed_51 rfl ?_
          exact ih25 f13 (v25_loc3 + Int32.ofInt 1) _ _ _ (ms_up (c := 1) (d := 0) b4 hm25 (by decide) (iv_inc 1 b4 (by decide) (by decide) (by decide) (by decide)) (by decide) rfl) (h25_1) ((iv_w b14 (by decide) (by decide))) (hP) (hD) hS (lv_sub hl [1, 2, 3, 0] rfl)
  refine lv_iload_n hx hb dX4_missed_0 rfl (lv_at hl 2 rfl) ?_
  refine lv_iconst (v := 1) hx hb dX4_missed_1 ic_1 ?_
  refine lv_icmp_lt (tgt := 14) hx hb dX4_missed_2 rfl (fun c15 => ?_) (fun c15 => ?_)
  · have b16 : iv (-2147483648) 0 p1 := iv_ltL c15 (iv_t p1) ivk_1 (by decide) (by decide)
    exact hJ14 _ _ _ ((iv_w b16 (by decide) (by decide))) (hP) (hD) hS (lv_sub hl [0, 1, 2] rfl)
  · have b17 : iv 1 2147483647 p1 := iv_leR (Int32.not_lt.mp c15) ivk_1 (iv_t p1) (by decide) (by decide)
    refine lv_iload_n hx hb dX4_missed_5 rfl (lv_at hl 2 rfl) ?_
    refine lv_aload_n hx hb dX4_missed_6 rfl (lv_at hl 0 rfl) ?_
    refine va_get (D := (dC, dI)) (ci := 4) (v := .ref o_met) (C := RX4) (T := TX4) (N := 3) hx hb hts hin4 hown hK hP 0 rfl rfl 0 (Nat.le_of_ble_eq_true rfl) hw_1 (fun _ h9 => h9) rfl dX4_missed_7 ?_
    refine va_alen (v := 23) hx hb hK hP 1 2 rfl rfl rfl dX4_missed_10 ?_
    refine lv_icmp_lt (tgt := 18) hx hb dX4_missed_11 rfl (fun c18 => ?_) (fun c18 => ?_)
    · have b19 : iv 1 22 p1 := iv_ltL c18 b17 ivk_23 (by decide) (by decide)
      refine lv_aload_n hx hb dX4_missed_18 rfl (lv_at hl 0 rfl) ?_
      refine lv_iload_n hx hb dX4_missed_19 rfl (lv_at hl 2 rfl) ?_
      obtain ⟨hPc, hDc, hFc, hJn⟩ := cl_a (wc := [(o, .inr (4, oX4 o_met o_enough x_o)), (o_met, .inl (kJ, 23, .inr (.inl f_o_met)))]) (wr := []) hP hD hS hA [0, 1] [] rfl rfl (by decide +kernel)
      refine va_callv (va_runV (As := [.int p1]) (rest := []) ⟨hx, hb, hml, hown, hts⟩ (s4_begin l dC dI kB kI kJ kZ kC kS s.heap.size o o_met o_enough x_o f_o_met p1 (b19)) (cwV 1 hts gX4_missed_X4_begin rfl rfl rfl (by decide +kernel) ⟨Nat.le_of_ble_eq_true rfl, Nat.le_of_ble_eq_true rfl⟩) ⟨fun a U g mk q => by obtain ⟨q0, q1, qP, qE, qD⟩ := q; exact ⟨q0, q1, qP, kE_call qE, qD⟩, va_recv hK hP (ci := 4) (q0 := 0) rfl rfl, fun U hU hW => ⟨rfl, by rw [hU], by rw [hU]; exact hPc, kE_warm hW hE, hDc.weaken (fun _ _ _ _ => trivial)⟩⟩ rfl rfl hl.1 rfl (lv_room (Nat.le_of_ble_eq_true rfl)) dX4_missed_20 ⟨Nat.le_of_ble_eq_true rfl, Nat.le_of_ble_eq_true rfl⟩) hS (fun q _ h => hFc q h) hFc (fun u t H locs ht hvm w21 hB hz1 hk1 hS => ?_)
      obtain ⟨f22, hP1, hD1⟩ := hB
      try dsimp only at w21
      obtain ⟨hPa, hDa⟩ := hJn (w1 := [(o, .inr (4, oX4 o_met o_enough x_o)), (o_met, .inl (kJ, 23, .inr (.inl f22)))]) hk1 ht hP1 hD1
      clear hP hD hPc hDc hFc hJn hP1 hD1 hk1
      have hP : va_P (dC, dI) vwCl [(o, .inr (4, oX4 o_met o_enough x_o)), (o_met, .inl (kJ, 23, .inr (.inl f22)))] H := hPa
      have hD : va_D A [(o, .inr (4, oX4 o_met o_enough x_o)), (o_met, .inl (kJ, 23, .inr (.inl f22)))] := hDa
      clear hPa hDa
      refine W.widen (k := 0) (n := 0) (Nat.le_of_ble_eq_true rfl) (Nat.le_of_ble_eq_true rfl) ?_
      refine lv_iconst (v := 0) hx hb dX4_missed_23 ic_0 ?_
      refine lv_istore_n (lv' := [(3, .int 0), (0, .ref o), (1, .int p0), (2, .int p1)]) hx hb dX4_missed_24 rfl hl (Nat.le_of_ble_eq_true rfl) rfl (fun ls hl => ?_)
      exact hJ25 _ f22 0 _ _ _ (Nat.lt_succ_self _) (b19) ((iv_w ivk_0 (by decide) (by decide))) (hP) (hD) hS (lv_sub hl [1, 2, 3, 0] rfl)
    · have b23 : iv 23 2147483647 p1 := iv_leR (Int32.not_lt.mp c18) ivk_23 b17 (by decide) (by decide)
      exact hJ14 _ _ _ ((iv_w b23 (by decide) (by decide))) (hP) (hD) hS (lv_sub hl [0, 1, 2] rfl)
def rm_s4_leastFor : Room := { frames := 1, cells := 0, slots := 0, locals := 24 }
set_option maxHeartbeats 4000000 in
set_option maxRecDepth 100000 in
theorem s4_leastFor (l : Launch) (dC : Nat → ClassId) (dI : Nat → Nat → Nat) (kB kI kJ kZ kC kS : ClassId) (sz : Nat) (o : Nat) (o_met : Nat) (o_enough : Nat) (x_o : Nat → Int32) (f_o_met : Nat → Int64) (p0 : Int32) (p1 : Int64) (hp0 : iv 1 22 p0) : Met l yX4_leastFor wsX4_leastFor rm_s4_leastFor (va_Pc [.ref o, .int p0, .long p1] (fun U => U.heap.size = sz ∧ va_P (dC, dI) vwCl [(o, .inr (4, oX4 o_met o_enough x_o)), (o_met, .inl (kJ, 23, .inr (.inl f_o_met)))] U.heap ∧ kE dC dI kB kI kJ kZ kC kS U ∧ va_D (fun _ => True) [(o, .inr (4, oX4 o_met o_enough x_o)), (o_met, .inl (kJ, 23, .inr (.inl f_o_met)))])) (va_Qi (fun (r : Int32) (_ : Unit) => iv (-1) 60 r) (fun _ t => ∃ (f_o_met' : Nat → Int64), va_P (dC, dI) vwCl [(o, .inr (4, oX4 o_met o_enough x_o)), (o_met, .inl (kJ, 23, .inr (.inl f_o_met')))] t.heap ∧ va_D (va_A [(o, .inr (4, oX4 o_met o_enough x_o)), (o_met, .inl (kJ, 23, .inr (.inl f_o_met)))] sz) [(o, .inr (4, oX4 o_met o_enough x_o)), (o_met, .inl (kJ, 23, .inr (.inl f_o_met')))]) (va_A [(o, .inr (4, oX4 o_met o_enough x_o)), (o_met, .inl (kJ, 23, .inr (.inl f_o_met)))] sz)) 0 0 (va_A [(o, .inr (4, oX4 o_met o_enough x_o)), (o_met, .inl (kJ, 23, .inr (.inl f_o_met)))] sz) := by
  refine Met.ofW (cc := cX4_leastFor) (maxL := 5) (ret := (some .int)) (by decide) rfl ?_
  intro p e s m args0 below meth c s₁ B hml hv
  obtain ⟨hargs, hsz, hP, hE, hD0⟩ := hv
  have hx := B.exec
  have hb := B.bytes
  have hr := B.returns
  have hts := atoms_spec (ws := wsX4_leastFor) B.pre
  have hown : s.vm.findClass RX4 = some m.cls := findClass_of_methodNamed B.named
  have hlocks := B.notSynchronized
  have hK := hE.1
  have hin4 : ∀ w ∈ wsX40, w ∈ wsX4_leastFor := fun _ h9 => List.mem_cons_of_mem _ (List.mem_append_right _ h9)
  have hw_0 := hts (.constantLong RX4 23 (1000000000000)) (List.mem_of_getElem? (i := 1) rfl)
  have hw_1 := hts (.fieldLink RX4 9 "PathProber$Odds" "met" "[J") (List.mem_of_getElem? (i := 2) rfl)
  subst hsz
  have hD := hD0.self (sz := s.heap.size)
  generalize hAe : va_A [(o, .inr (4, oX4 o_met o_enough x_o)), (o_met, .inl (kJ, 23, .inr (.inl f_o_met)))] s.heap.size = A at hD ⊢
  have hA : ∀ q : Nat, s.heap.size ≤ q → A q := fun q h => by rw [← hAe]; exact Or.inr h
  have hS : va_S A s.heap s.heap [] := va_S.rf
  have hP : va_P (dC, dI) vwCl [(o, .inr (4, oX4 o_met o_enough x_o)), (o_met, .inl (kJ, 23, .inr (.inl f_o_met)))] s.heap := hP
  have hl := lv_entry ([.ref o, .int p0, .long p1]) (n := 5) (Nat.le_of_ble_eq_true rfl)
  have hla : entryFrame m args0 5 = entryFrame m ([.ref o, .int p0, .long p1] : List Value).toArray 5 := by rw [hargs]
  rw [hla, lg_entry_eq]
  generalize (lg_sl ([.ref o, .int p0, .long p1]) ++ List.replicate (5 - (lg_sl ([.ref o, .int p0, .long p1])).length) Slot.unset).toArray = ls at hl ⊢
  have hl : lv_has ls 5 [(0, .ref o), (1, .int p0), (2, .long p1)] := hl
  have hJ8 : ∀ (n : Nat) (g8_1 : Nat → Int64) (w8_loc2 : Int64) (v8_loc4 : Int32) (H : Heap) (locs : List Loc) (ls : Array Slot), (61 - v8_loc4.toInt).toNat < n → iv 1 61 v8_loc4 → va_P (dC, dI) vwCl [(o, .inr (4, oX4 o_met o_enough x_o)), (o_met, .inl (kJ, 23, .inr (.inl g8_1)))] H → va_D A [(o, .inr (4, oX4 o_met o_enough x_o)), (o_met, .inl (kJ, 23, .inr (.inl g8_1)))] → va_S A s.heap H locs → lv_has ls 5 [(0, .ref o), (1, .int p0), (2, .long w8_loc2), (4, .int v8_loc4)] → W p l e (headSpec wsX4_leastFor rm_s4_leastFor).room s m args0 below meth c H locs (0) (0) (MQ below (va_Qi (fun (r : Int32) (_ : Unit) => iv (-1) 60 r) (fun _ t => ∃ (f_o_met' : Nat → Int64), va_P (dC, dI) vwCl [(o, .inr (4, oX4 o_met o_enough x_o)), (o_met, .inl (kJ, 23, .inr (.inl f_o_met')))] t.heap ∧ va_D A [(o, .inr (4, oX4 o_met o_enough x_o)), (o_met, .inl (kJ, 23, .inr (.inl f_o_met')))]) A) args0 s 0 0 A) (F0 m 8 ls []) := by
    intro n
    induction n with
    | zero => intro g8_1 w8_loc2 v8_loc4 H locs ls hm8; exact absurd hm8 (Nat.not_lt_zero _)
    | succ n ih8 =>
      intro g8_1 w8_loc2 v8_loc4 H locs ls hm8 h8_1 hP hD hS hl
      refine lv_iload hx hb dX4_leastFor_8 (lv_at hl 3 rfl) ?_
      refine lv_bipush (v := 60) hx hb dX4_leastFor_10 bp_60 ?_
      refine lv_icmp_gt (tgt := 44) hx hb dX4_leastFor_12 rfl (fun c1 => ?_) (fun c1 => ?_)
      · have b2 : iv 61 61 v8_loc4 := iv_ltR c1 ivk_60 h8_1 (by decide) (by decide)
        refine lv_iconst (v := (-1)) hx hb dX4_leastFor_44 ic_m1 ?_
        have hP9 := hP
        have hD9 := hD
        exact W.iret (v := (-1)) hx hb hr (fun t ht hW => ⟨⟨(-1), (), rfl, (iv_w ivk_m1 (by decide) (by decide)), g8_1, by rw [ht]; exact hP9, hD9⟩, hS.F ht⟩) hS.2.2 dX4_leastFor_45
      · have b3 : iv 1 60 v8_loc4 := iv_leL (Int32.not_lt.mp c1) h8_1 ivk_60 (by decide) (by decide)
        refine lv_aload_n hx hb dX4_leastFor_15 rfl (lv_at hl 0 rfl) ?_
        refine lv_iload_n hx hb dX4_leastFor_16 rfl (lv_at hl 1 rfl) ?_
        obtain ⟨hPc, hDc, hFc, hJn⟩ := cl_a (wc := [(o, .inr (4, oX4 o_met o_enough x_o)), (o_met, .inl (kJ, 23, .inr (.inl g8_1)))]) (wr := []) hP hD hS hA [0, 1] [] rfl rfl (by decide +kernel)
        refine va_callv (va_runV (As := [.int p0]) (rest := []) ⟨hx, hb, hml, hown, hts⟩ (s4_sendNext l dC dI kB kI kJ kZ kC kS H.size o o_met o_enough x_o g8_1 p0) (cwV 1 hts gX4_leastFor_X4_sendNext rfl rfl rfl (by decide +kernel) ⟨Nat.le_of_ble_eq_true rfl, Nat.le_of_ble_eq_true rfl⟩) ⟨fun a U g mk q => by obtain ⟨q0, q1, qP, qE, qD⟩ := q; exact ⟨q0, q1, qP, kE_call qE, qD⟩, va_recv hK hP (ci := 4) (q0 := 0) rfl rfl, fun U hU hW => ⟨rfl, by rw [hU], by rw [hU]; exact hPc, kE_warm hW hE, hDc.weaken (fun _ _ _ _ => trivial)⟩⟩ rfl rfl hl.1 rfl (lv_room (Nat.le_of_ble_eq_true rfl)) dX4_leastFor_17 ⟨Nat.le_of_ble_eq_true rfl, Nat.le_of_ble_eq_true rfl⟩) hS (fun q _ h => hFc q h) hFc (fun u t H locs ht hvm w5 hB hz1 hk1 hS => ?_)
        obtain ⟨f6, hP1, hD1⟩ := hB
        try dsimp only at w5
        obtain ⟨hPa, hDa⟩ := hJn (w1 := [(o, .inr (4, oX4 o_met o_enough x_o)), (o_met, .inl (kJ, 23, .inr (.inl f6)))]) hk1 ht hP1 hD1
        clear hP hD hPc hDc hFc hJn hP1 hD1 hk1
        have hP : va_P (dC, dI) vwCl [(o, .inr (4, oX4 o_met o_enough x_o)), (o_met, .inl (kJ, 23, .inr (.inl f6)))] H := hPa
        have hD : va_D A [(o, .inr (4, oX4 o_met o_enough x_o)), (o_met, .inl (kJ, 23, .inr (.inl f6)))] := hDa
        clear hPa hDa
        refine W.widen (k := 0) (n := 0) (Nat.le_of_ble_eq_true rfl) (Nat.le_of_ble_eq_true rfl) ?_
        refine lv_ldc2 hx hb hown hw_0 dX4_leastFor_20 ?_
        refine lv_aload_n hx hb dX4_leastFor_23 rfl (lv_at hl 0 rfl) ?_
        refine va_get (D := (dC, dI)) (ci := 4) (v := .ref o_met) (C := RX4) (T := TX4) (N := 3) hx hb hts hin4 hown hK hP 0 rfl rfl 0 (Nat.le_of_ble_eq_true rfl) hw_1 (fun _ h9 => h9) rfl dX4_leastFor_24 ?_
        refine lv_iload_n hx hb dX4_leastFor_27 rfl (lv_at hl 1 rfl) ?_
        refine va_lald hx hb hK hP 1 2 rfl rfl (iv_in hp0 (by decide) (by decide)) dX4_leastFor_28 ?_
        refine lv_topl (fun z7 _ => ?_)
        refine lv_lsub hx hb dX4_leastFor_29 ?_
        refine lv_topl (fun z8 _ => ?_)
        refine lv_lload_n hx hb dX4_leastFor_30 rfl (lv_at hl 2 rfl) ?_
        refine W.lcmp hx hb dX4_leastFor_31 ?_
        refine lv_topi (fun z9 _ => ?_)
        refine lv_if_ge (tgt := 38) hx hb dX4_leastFor_32 rfl (fun c10 => ?_) (fun c10 => ?_)
        · have b11 : iv 0 2147483647 z9 := iv_leR c10 ivk_0 (iv_t z9) (by decide) (by decide)
          refine lv_iinc (v := v8_loc4 + Int32.ofInt 1) (lv' := [(4, .int (v8_loc4 + Int32.ofInt 1)), (0, .ref o), (1, .int p0), (2, .long w8_loc2)]) hx hb dX4_leastFor_38 hl (k := 3) rfl (rfl) (Nat.le_of_ble_eq_true rfl) rfl (fun ls hl => ?_)
          have b12 : iv 2 61 (v8_loc4 + Int32.ofInt 1) := iv_add b3 ivo_1 (by decide) (by decide) (by decide) (by decide)
          refine lv_goto (tgt := 8) hx hb dX4_leastFor_41 rfl ?_
          exact ih8 f6 w8_loc2 (v8_loc4 + Int32.ofInt 1) _ _ _ (ms_up (c := 1) (d := 0) b3 hm8 (by decide) (iv_inc 1 b3 (by decide) (by decide) (by decide) (by decide)) (by decide) rfl) ((iv_w b12 (by decide) (by decide))) (hP) (hD) hS (lv_sub hl [1, 2, 3, 0] rfl)
        · have b13 : iv (-2147483648) (-1) z9 := iv_ltL (Int32.not_le.mp c10) (iv_t z9) ivk_0 (by decide) (by decide)
          refine lv_iload hx hb dX4_leastFor_35 (lv_at hl 3 rfl) ?_
          have hP9 := hP
          have hD9 := hD
          exact W.iret (v := v8_loc4) hx hb hr (fun t ht hW => ⟨⟨v8_loc4, (), rfl, (iv_w b3 (by decide) (by decide)), f6, by rw [ht]; exact hP9, hD9⟩, hS.F ht⟩) hS.2.2 dX4_leastFor_37
  refine lv_aload_n hx hb dX4_leastFor_0 rfl (lv_at hl 0 rfl) ?_
  refine lv_iload_n hx hb dX4_leastFor_1 rfl (lv_at hl 1 rfl) ?_
  obtain ⟨hPc, hDc, hFc, hJn⟩ := cl_a (wc := [(o, .inr (4, oX4 o_met o_enough x_o)), (o_met, .inl (kJ, 23, .inr (.inl f_o_met)))]) (wr := []) hP hD hS hA [0, 1] [] rfl rfl (by decide +kernel)
  refine va_callv (va_runV (As := [.int p0]) (rest := []) ⟨hx, hb, hml, hown, hts⟩ (s4_begin l dC dI kB kI kJ kZ kC kS s.heap.size o o_met o_enough x_o f_o_met p0 (hp0)) (cwV 1 hts gX4_leastFor_X4_begin rfl rfl rfl (by decide +kernel) ⟨Nat.le_of_ble_eq_true rfl, Nat.le_of_ble_eq_true rfl⟩) ⟨fun a U g mk q => by obtain ⟨q0, q1, qP, qE, qD⟩ := q; exact ⟨q0, q1, qP, kE_call qE, qD⟩, va_recv hK hP (ci := 4) (q0 := 0) rfl rfl, fun U hU hW => ⟨rfl, by rw [hU], by rw [hU]; exact hPc, kE_warm hW hE, hDc.weaken (fun _ _ _ _ => trivial)⟩⟩ rfl rfl hl.1 rfl (lv_room (Nat.le_of_ble_eq_true rfl)) dX4_leastFor_2 ⟨Nat.le_of_ble_eq_true rfl, Nat.le_of_ble_eq_true rfl⟩) hS (fun q _ h => hFc q h) hFc (fun u t H locs ht hvm w15 hB hz1 hk1 hS => ?_)
  obtain ⟨f16, hP1, hD1⟩ := hB
  try dsimp only at w15
  obtain ⟨hPa, hDa⟩ := hJn (w1 := [(o, .inr (4, oX4 o_met o_enough x_o)), (o_met, .inl (kJ, 23, .inr (.inl f16)))]) hk1 ht hP1 hD1
  clear hP hD hPc hDc hFc hJn hP1 hD1 hk1
  have hP : va_P (dC, dI) vwCl [(o, .inr (4, oX4 o_met o_enough x_o)), (o_met, .inl (kJ, 23, .inr (.inl f16)))] H := hPa
  have hD : va_D A [(o, .inr (4, oX4 o_met o_enough x_o)), (o_met, .inl (kJ, 23, .inr (.inl f16)))] := hDa
  clear hPa hDa
  refine W.widen (k := 0) (n := 0) (Nat.le_of_ble_eq_true rfl) (Nat.le_of_ble_eq_true rfl) ?_
  refine lv_iconst (v := 1) hx hb dX4_leastFor_5 ic_1 ?_
  refine lv_istore (lv' := [(4, .int 1), (0, .ref o), (1, .int p0), (2, .long p1)]) hx hb dX4_leastFor_6 hl (Nat.le_of_ble_eq_true rfl) rfl (fun ls hl => ?_)
  exact hJ8 _ f16 p1 1 _ _ _ (Nat.lt_succ_self _) ((iv_w ivk_1 (by decide) (by decide))) (hP) (hD) hS (lv_sub hl [1, 2, 3, 0] rfl)
def rm_s4_enoughFor : Room := { frames := 2, cells := 0, slots := 0, locals := 48 }
set_option maxHeartbeats 4000000 in
set_option maxRecDepth 100000 in
theorem s4_enoughFor (l : Launch) (dC : Nat → ClassId) (dI : Nat → Nat → Nat) (kB kI kJ kZ kC kS : ClassId) (sz : Nat) (o : Nat) (o_met : Nat) (o_enough : Nat) (x_o : Nat → Int32) (f_o_met : Nat → Int64) (f_o_enough : Nat → Int32) (p0 : Int32) (p1 : Int32) : Met l yX4_enoughFor wsX4_enoughFor rm_s4_enoughFor (va_Pc [.ref o, .int p0, .int p1] (fun U => U.heap.size = sz ∧ va_P (dC, dI) vwCl [(o, .inr (4, oX4 o_met o_enough x_o)), (o_met, .inl (kJ, 23, .inr (.inl f_o_met))), (o_enough, .inl (kI, 4, .inl f_o_enough))] U.heap ∧ kE dC dI kB kI kJ kZ kC kS U ∧ va_D (fun _ => True) [(o, .inr (4, oX4 o_met o_enough x_o)), (o_met, .inl (kJ, 23, .inr (.inl f_o_met))), (o_enough, .inl (kI, 4, .inl f_o_enough))])) (va_Qi (fun (r : Int32) (_ : Unit) => True) (fun _ t => ∃ (x_o' : Nat → Int32) (f_o_met' : Nat → Int64) (f_o_enough' : Nat → Int32), va_P (dC, dI) vwCl [(o, .inr (4, oX4 o_met o_enough x_o')), (o_met, .inl (kJ, 23, .inr (.inl f_o_met'))), (o_enough, .inl (kI, 4, .inl f_o_enough'))] t.heap ∧ va_D (va_A [(o, .inr (4, oX4 o_met o_enough x_o)), (o_met, .inl (kJ, 23, .inr (.inl f_o_met))), (o_enough, .inl (kI, 4, .inl f_o_enough))] sz) [(o, .inr (4, oX4 o_met o_enough x_o')), (o_met, .inl (kJ, 23, .inr (.inl f_o_met'))), (o_enough, .inl (kI, 4, .inl f_o_enough'))]) (va_A [(o, .inr (4, oX4 o_met o_enough x_o)), (o_met, .inl (kJ, 23, .inr (.inl f_o_met))), (o_enough, .inl (kI, 4, .inl f_o_enough))] sz)) 0 0 (va_A [(o, .inr (4, oX4 o_met o_enough x_o)), (o_met, .inl (kJ, 23, .inr (.inl f_o_met))), (o_enough, .inl (kI, 4, .inl f_o_enough))] sz) := by
  refine Met.ofW (cc := cX4_enoughFor) (maxL := 4) (ret := (some .int)) (by decide) rfl ?_
  intro p e s m args0 below meth c s₁ B hml hv
  obtain ⟨hargs, hsz, hP, hE, hD0⟩ := hv
  have hx := B.exec
  have hb := B.bytes
  have hr := B.returns
  have hts := atoms_spec (ws := wsX4_enoughFor) B.pre
  have hown : s.vm.findClass RX4 = some m.cls := findClass_of_methodNamed B.named
  have hlocks := B.notSynchronized
  have hK := hE.1
  have hin4 : ∀ w ∈ wsX40, w ∈ wsX4_enoughFor := fun _ h9 => List.mem_cons_of_mem _ (List.mem_append_right _ h9)
  have hw_0 := hts (.fieldLink RX4 15 "PathProber$Odds" "enough" "[I") (List.mem_of_getElem? (i := 2) rfl)
  have hw_1 := hts (.fieldLink RX4 19 "PathProber$Odds" "lossOfEnough" "I") (List.mem_of_getElem? (i := 1) rfl)
  have hw_2 := hts (.constantLong RX4 32 (10000000000)) (List.mem_of_getElem? (i := 3) rfl)
  subst hsz
  have hD := hD0.self (sz := s.heap.size)
  generalize hAe : va_A [(o, .inr (4, oX4 o_met o_enough x_o)), (o_met, .inl (kJ, 23, .inr (.inl f_o_met))), (o_enough, .inl (kI, 4, .inl f_o_enough))] s.heap.size = A at hD ⊢
  have hA : ∀ q : Nat, s.heap.size ≤ q → A q := fun q h => by rw [← hAe]; exact Or.inr h
  have hS : va_S A s.heap s.heap [] := va_S.rf
  have hP : va_P (dC, dI) vwCl [(o, .inr (4, oX4 o_met o_enough x_o)), (o_met, .inl (kJ, 23, .inr (.inl f_o_met))), (o_enough, .inl (kI, 4, .inl f_o_enough))] s.heap := hP
  have hl := lv_entry ([.ref o, .int p0, .int p1]) (n := 4) (Nat.le_of_ble_eq_true rfl)
  have hla : entryFrame m args0 4 = entryFrame m ([.ref o, .int p0, .int p1] : List Value).toArray 4 := by rw [hargs]
  rw [hla, lg_entry_eq]
  generalize (lg_sl ([.ref o, .int p0, .int p1]) ++ List.replicate (4 - (lg_sl ([.ref o, .int p0, .int p1])).length) Slot.unset).toArray = ls at hl ⊢
  have hl : lv_has ls 4 [(0, .ref o), (1, .int p0), (2, .int p1)] := hl
  have hJ10 : ∀ (H : Heap) (locs : List Loc) (ls : Array Slot), iv (-2147483648) 2147483647 p0 → va_P (dC, dI) vwCl [(o, .inr (4, oX4 o_met o_enough x_o)), (o_met, .inl (kJ, 23, .inr (.inl f_o_met))), (o_enough, .inl (kI, 4, .inl f_o_enough))] H → va_D A [(o, .inr (4, oX4 o_met o_enough x_o)), (o_met, .inl (kJ, 23, .inr (.inl f_o_met))), (o_enough, .inl (kI, 4, .inl f_o_enough))] → va_S A s.heap H locs → lv_has ls 4 [(0, .ref o), (1, .int p0), (2, .int p1)] → W p l e (headSpec wsX4_enoughFor rm_s4_enoughFor).room s m args0 below meth c H locs (0) (0) (MQ below (va_Qi (fun (r : Int32) (_ : Unit) => True) (fun _ t => ∃ (x_o' : Nat → Int32) (f_o_met' : Nat → Int64) (f_o_enough' : Nat → Int32), va_P (dC, dI) vwCl [(o, .inr (4, oX4 o_met o_enough x_o')), (o_met, .inl (kJ, 23, .inr (.inl f_o_met'))), (o_enough, .inl (kI, 4, .inl f_o_enough'))] t.heap ∧ va_D A [(o, .inr (4, oX4 o_met o_enough x_o')), (o_met, .inl (kJ, 23, .inr (.inl f_o_met'))), (o_enough, .inl (kI, 4, .inl f_o_enough'))]) A) args0 s 0 0 A) (F0 m 10 ls []) := by
    intro H locs ls h10_1 hP hD hS hl
    refine lv_iconst (v := (-1)) hx hb dX4_enoughFor_10 ic_m1 ?_
    have hP9 := hP
    have hD9 := hD
    exact W.iret (v := (-1)) hx hb hr (fun t ht hW => ⟨⟨(-1), (), rfl, trivial, x_o, f_o_met, f_o_enough, by rw [ht]; exact hP9, hD9⟩, hS.F ht⟩) hS.2.2 dX4_enoughFor_11
  have hJ59 : ∀ (y59_0 : Nat → Int32) (g59_1 : Nat → Int64) (g59_2 : Nat → Int32) (H : Heap) (locs : List Loc) (ls : Array Slot), iv 1 4 p0 → va_P (dC, dI) vwCl [(o, .inr (4, oX4 o_met o_enough y59_0)), (o_met, .inl (kJ, 23, .inr (.inl g59_1))), (o_enough, .inl (kI, 4, .inl g59_2))] H → va_D A [(o, .inr (4, oX4 o_met o_enough y59_0)), (o_met, .inl (kJ, 23, .inr (.inl g59_1))), (o_enough, .inl (kI, 4, .inl g59_2))] → va_S A s.heap H locs → lv_has ls 4 [(0, .ref o), (1, .int p0), (2, .int p1)] → W p l e (headSpec wsX4_enoughFor rm_s4_enoughFor).room s m args0 below meth c H locs (0) (0) (MQ below (va_Qi (fun (r : Int32) (_ : Unit) => True) (fun _ t => ∃ (x_o' : Nat → Int32) (f_o_met' : Nat → Int64) (f_o_enough' : Nat → Int32), va_P (dC, dI) vwCl [(o, .inr (4, oX4 o_met o_enough x_o')), (o_met, .inl (kJ, 23, .inr (.inl f_o_met'))), (o_enough, .inl (kI, 4, .inl f_o_enough'))] t.heap ∧ va_D A [(o, .inr (4, oX4 o_met o_enough x_o')), (o_met, .inl (kJ, 23, .inr (.inl f_o_met'))), (o_enough, .inl (kI, 4, .inl f_o_enough'))]) A) args0 s 0 0 A) (F0 m 59 ls []) := by
    intro y59_0 g59_1 g59_2 H locs ls h59_1 hP hD hS hl
    refine lv_aload_n hx hb dX4_enoughFor_59 rfl (lv_at hl 0 rfl) ?_
    refine va_get (D := (dC, dI)) (ci := 4) (v := .ref o_enough) (C := RX4) (T := TX4) (N := 3) hx hb hts hin4 hown hK hP 0 rfl rfl 1 (Nat.le_of_ble_eq_true rfl) hw_0 (fun _ h9 => h9) rfl dX4_enoughFor_60 ?_
    refine lv_iload_n hx hb dX4_enoughFor_63 rfl (lv_at hl 1 rfl) ?_
    refine lv_iconst (v := 1) hx hb dX4_enoughFor_64 ic_1 ?_
    refine lv_isub hx hb dX4_enoughFor_65 ?_
    refine iv_top (a := 0) (b := 3) (iv_sub h59_1 ivk_1 (by decide) (by decide) (by decide) (by decide)) (fun z1 b2 => ?_)
    refine va_iald hx hb hK hP 2 1 rfl rfl (iv_in b2 (by decide) (by decide)) dX4_enoughFor_66 ?_
    refine lv_topi (fun z3 _ => ?_)
    have hP9 := hP
    have hD9 := hD
    exact W.iret (v := z3) hx hb hr (fun t ht hW => ⟨⟨z3, (), rfl, trivial, y59_0, g59_1, g59_2, by rw [ht]; exact hP9, hD9⟩, hS.F ht⟩) hS.2.2 dX4_enoughFor_67
  have hJ22 : ∀ (n : Nat) (g22_1 : Nat → Int64) (g22_2 : Nat → Int32) (v22_loc3 : Int32) (H : Heap) (locs : List Loc) (ls : Array Slot), (5 - v22_loc3.toInt).toNat < n → iv 1 4 p0 → iv 1 5 v22_loc3 → va_P (dC, dI) vwCl [(o, .inr (4, oX4 o_met o_enough x_o)), (o_met, .inl (kJ, 23, .inr (.inl g22_1))), (o_enough, .inl (kI, 4, .inl g22_2))] H → va_D A [(o, .inr (4, oX4 o_met o_enough x_o)), (o_met, .inl (kJ, 23, .inr (.inl g22_1))), (o_enough, .inl (kI, 4, .inl g22_2))] → va_S A s.heap H locs → lv_has ls 4 [(0, .ref o), (1, .int p0), (2, .int p1), (3, .int v22_loc3)] → W p l e (headSpec wsX4_enoughFor rm_s4_enoughFor).room s m args0 below meth c H locs (0) (0) (MQ below (va_Qi (fun (r : Int32) (_ : Unit) => True) (fun _ t => ∃ (x_o' : Nat → Int32) (f_o_met' : Nat → Int64) (f_o_enough' : Nat → Int32), va_P (dC, dI) vwCl [(o, .inr (4, oX4 o_met o_enough x_o')), (o_met, .inl (kJ, 23, .inr (.inl f_o_met'))), (o_enough, .inl (kI, 4, .inl f_o_enough'))] t.heap ∧ va_D A [(o, .inr (4, oX4 o_met o_enough x_o')), (o_met, .inl (kJ, 23, .inr (.inl f_o_met'))), (o_enough, .inl (kI, 4, .inl f_o_enough'))]) A) args0 s 0 0 A) (F0 m 22 ls []) := by
    intro n
    induction n with
    | zero => intro g22_1 g22_2 v22_loc3 H locs ls hm22; exact absurd hm22 (Nat.not_lt_zero _)
    | succ n ih22 =>
      intro g22_1 g22_2 v22_loc3 H locs ls hm22 h22_1 h22_2 hP hD hS hl
      refine lv_iload_n hx hb dX4_enoughFor_22 rfl (lv_at hl 3 rfl) ?_
      refine lv_iconst (v := 4) hx hb dX4_enoughFor_23 ic_4 ?_
      refine lv_icmp_gt (tgt := 54) hx hb dX4_enoughFor_24 rfl (fun c4 => ?_) (fun c4 => ?_)
      · have b5 : iv 5 5 v22_loc3 := iv_ltR c4 ivk_4 h22_2 (by decide) (by decide)
        refine lv_aload_n hx hb dX4_enoughFor_54 rfl (lv_at hl 0 rfl) ?_
        refine lv_iload_n hx hb dX4_enoughFor_55 rfl (lv_at hl 2 rfl) ?_
        refine va_put (D := (dC, dI)) (ci := 4) (v := .int p1) (ty := .int) (C := RX4) (T := TX4) (N := 3) hx hb hts hin4 tyX4 tyX4_ok nmX4 hown hK hP hD hS 0 rfl rfl 2 (by decide) hw_1 (fun _ h9 => h9) rfl (by decide +kernel) rfl rfl (Nat.le_of_ble_eq_true rfl) dX4_enoughFor_56 (fun H locs hPa hDa hS => ?_)
        clear hP hD
        have hP : va_P (dC, dI) vwCl [(o, .inr (4, oX4 o_met o_enough (upd x_o 0 p1))), (o_met, .inl (kJ, 23, .inr (.inl g22_1))), (o_enough, .inl (kI, 4, .inl g22_2))] H := hPa
        have hD : va_D A [(o, .inr (4, oX4 o_met o_enough (upd x_o 0 p1))), (o_met, .inl (kJ, 23, .inr (.inl g22_1))), (o_enough, .inl (kI, 4, .inl g22_2))] := hDa
        clear hPa hDa
        exact hJ59 (upd x_o 0 p1) g22_1 g22_2 _ _ _ (h22_1) (hP) (hD) hS (lv_sub hl [0, 1, 2] rfl)
      · have b6 : iv 1 4 v22_loc3 := iv_leL (Int32.not_lt.mp c4) h22_2 ivk_4 (by decide) (by decide)
        refine lv_aload_n hx hb dX4_enoughFor_27 rfl (lv_at hl 0 rfl) ?_
        refine va_get (D := (dC, dI)) (ci := 4) (v := .ref o_enough) (C := RX4) (T := TX4) (N := 3) hx hb hts hin4 hown hK hP 0 rfl rfl 1 (Nat.le_of_ble_eq_true rfl) hw_0 (fun _ h9 => h9) rfl dX4_enoughFor_28 ?_
        refine lv_iload_n hx hb dX4_enoughFor_31 rfl (lv_at hl 3 rfl) ?_
        refine lv_iconst (v := 1) hx hb dX4_enoughFor_32 ic_1 ?_
        refine lv_isub hx hb dX4_enoughFor_33 ?_
        refine iv_top (a := 0) (b := 3) (iv_sub b6 ivk_1 (by decide) (by decide) (by decide) (by decide)) (fun z7 b8 => ?_)
        refine lv_aload_n hx hb dX4_enoughFor_34 rfl (lv_at hl 0 rfl) ?_
        refine lv_iload_n hx hb dX4_enoughFor_35 rfl (lv_at hl 3 rfl) ?_
        refine lv_iconst (v := 1) hx hb dX4_enoughFor_36 ic_1 ?_
        refine lv_iadd hx hb dX4_enoughFor_37 ?_
        refine iv_top (a := 2) (b := 5) (iv_add b6 ivk_1 (by decide) (by decide) (by decide) (by decide)) (fun z9 b10 => ?_)
        refine lv_iload_n hx hb dX4_enoughFor_38 rfl (lv_at hl 2 rfl) ?_
        refine lv_i2l (v := p1.toInt64) hx hb dX4_enoughFor_39 rfl ?_
        refine lv_ldc2 hx hb hown hw_2 dX4_enoughFor_40 ?_
        refine lv_lmul hx hb dX4_enoughFor_43 ?_
        refine lv_topl (fun z11 _ => ?_)
        obtain ⟨hPc, hDc, hFc, hJn⟩ := cl_a (wc := [(o, .inr (4, oX4 o_met o_enough x_o)), (o_met, .inl (kJ, 23, .inr (.inl g22_1)))]) (wr := [(o_enough, .inl (kI, 4, .inl g22_2))]) hP hD hS hA [0, 1] [2] rfl rfl (by decide +kernel)
        refine va_calli (va_runV (As := [.int z9, .long z11]) (rest := [.int z7, .ref o_enough]) ⟨hx, hb, hml, hown, hts⟩ (s4_leastFor l dC dI kB kI kJ kZ kC kS H.size o o_met o_enough x_o g22_1 z9 z11 ((iv_w b10 (by decide) (by decide)))) (cwV 2 hts gX4_enoughFor_X4_leastFor rfl rfl rfl (by decide +kernel) ⟨Nat.le_of_ble_eq_true rfl, Nat.le_of_ble_eq_true rfl⟩) ⟨fun a U g mk q => by obtain ⟨q0, q1, qP, qE, qD⟩ := q; exact ⟨q0, q1, qP, kE_call qE, qD⟩, va_recv hK hP (ci := 4) (q0 := 0) rfl rfl, fun U hU hW => ⟨rfl, by rw [hU], by rw [hU]; exact hPc, kE_warm hW hE, hDc.weaken (fun _ _ _ _ => trivial)⟩⟩ rfl rfl hl.1 rfl (lv_room (Nat.le_of_ble_eq_true rfl)) dX4_enoughFor_44 ⟨Nat.le_of_ble_eq_true rfl, Nat.le_of_ble_eq_true rfl⟩) hS (fun q _ h => hFc q h) hFc (fun r12 u t H locs ht hvm w13 hB hz1 hk1 hS => ?_)
        obtain ⟨f14, hP1, hD1⟩ := hB
        try dsimp only at w13
        obtain ⟨hPa, hDa⟩ := hJn (w1 := [(o, .inr (4, oX4 o_met o_enough x_o)), (o_met, .inl (kJ, 23, .inr (.inl f14)))]) hk1 ht hP1 hD1
        clear hP hD hPc hDc hFc hJn hP1 hD1 hk1
        have hP : va_P (dC, dI) vwCl [(o_enough, .inl (kI, 4, .inl g22_2)), (o, .inr (4, oX4 o_met o_enough x_o)), (o_met, .inl (kJ, 23, .inr (.inl f14)))] H := hPa
        have hD : va_D A [(o_enough, .inl (kI, 4, .inl g22_2)), (o, .inr (4, oX4 o_met o_enough x_o)), (o_met, .inl (kJ, 23, .inr (.inl f14)))] := hDa
        clear hPa hDa
        refine W.widen (k := 0) (n := 0) (Nat.le_of_ble_eq_true rfl) (Nat.le_of_ble_eq_true rfl) ?_
        refine va_iast hx hb hK hP hD hS 0 1 rfl rfl (iv_in b8 (by decide) (by decide)) dX4_enoughFor_47 (fun H locs hPa hDa hS => ?_)
        clear hP hD
        have hP : va_P (dC, dI) vwCl [(o_enough, .inl (kI, 4, .inl (upd g22_2 z7.toNatClampNeg r12))), (o, .inr (4, oX4 o_met o_enough x_o)), (o_met, .inl (kJ, 23, .inr (.inl f14)))] H := hPa
        have hD : va_D A [(o_enough, .inl (kI, 4, .inl (upd g22_2 z7.toNatClampNeg r12))), (o, .inr (4, oX4 o_met o_enough x_o)), (o_met, .inl (kJ, 23, .inr (.inl f14)))] := hDa
        clear hPa hDa
        generalize (upd g22_2 z7.toNatClampNeg r12) = f15 at hP hD
        refine lv_iinc (v := v22_loc3 + Int32.ofInt 1) (lv' := [(3, .int (v22_loc3 + Int32.ofInt 1)), (0, .ref o), (1, .int p0), (2, .int p1)]) hx hb dX4_enoughFor_48 hl (k := 3) rfl (rfl) (Nat.le_of_ble_eq_true rfl) rfl (fun ls hl => ?_)
        have b16 : iv 2 5 (v22_loc3 + Int32.ofInt 1) := iv_add b6 ivo_1 (by decide) (by decide) (by decide) (by decide)
        refine lv_goto (tgt := 22) hx hb dX4_enoughFor_51 rfl ?_
        have hPD9 := cl_s (wc := [(o, .inr (4, oX4 o_met o_enough x_o)), (o_met, .inl (kJ, 23, .inr (.inl f14))), (o_enough, .inl (kI, 4, .inl f15))]) hP hD [1, 2, 0] rfl (by decide +kernel)
        exact ih22 f14 f15 (v22_loc3 + Int32.ofInt 1) _ _ _ (ms_up (c := 1) (d := 0) b6 hm22 (by decide) (iv_inc 1 b6 (by decide) (by decide) (by decide) (by decide)) (by decide) rfl) (h22_1) ((iv_w b16 (by decide) (by decide))) (hPD9.1) (hPD9.2) hS (lv_sub hl [1, 2, 3, 0] rfl)
  refine lv_iload_n hx hb dX4_enoughFor_0 rfl (lv_at hl 1 rfl) ?_
  refine lv_iconst (v := 1) hx hb dX4_enoughFor_1 ic_1 ?_
  refine lv_icmp_lt (tgt := 10) hx hb dX4_enoughFor_2 rfl (fun c17 => ?_) (fun c17 => ?_)
  · have b18 : iv (-2147483648) 0 p0 := iv_ltL c17 (iv_t p0) ivk_1 (by decide) (by decide)
    exact hJ10 _ _ _ ((iv_w b18 (by decide) (by decide))) (hP) (hD) hS (lv_sub hl [0, 1, 2] rfl)
  · have b19 : iv 1 2147483647 p0 := iv_leR (Int32.not_lt.mp c17) ivk_1 (iv_t p0) (by decide) (by decide)
    refine lv_iload_n hx hb dX4_enoughFor_5 rfl (lv_at hl 1 rfl) ?_
    refine lv_iconst (v := 4) hx hb dX4_enoughFor_6 ic_4 ?_
    refine lv_icmp_le (tgt := 12) hx hb dX4_enoughFor_7 rfl (fun c20 => ?_) (fun c20 => ?_)
    · have b21 : iv 1 4 p0 := iv_leL c20 b19 ivk_4 (by decide) (by decide)
      refine lv_iload_n hx hb dX4_enoughFor_12 rfl (lv_at hl 2 rfl) ?_
      refine lv_aload_n hx hb dX4_enoughFor_13 rfl (lv_at hl 0 rfl) ?_
      refine va_get (D := (dC, dI)) (ci := 4) (v := .int (x_o 0)) (C := RX4) (T := TX4) (N := 3) hx hb hts hin4 hown hK hP 0 rfl rfl 2 (Nat.le_of_ble_eq_true rfl) hw_1 (fun _ h9 => h9) rfl dX4_enoughFor_14 ?_
      refine lv_icmp_eq (tgt := 59) hx hb dX4_enoughFor_17 rfl (fun c22 => ?_) (fun c22 => ?_)
      · exact hJ59 x_o f_o_met f_o_enough _ _ _ (b21) (hP) (hD) hS (lv_sub hl [0, 1, 2] rfl)
      · refine lv_iconst (v := 1) hx hb dX4_enoughFor_20 ic_1 ?_
        refine lv_istore_n (lv' := [(3, .int 1), (0, .ref o), (1, .int p0), (2, .int p1)]) hx hb dX4_enoughFor_21 rfl hl (Nat.le_of_ble_eq_true rfl) rfl (fun ls hl => ?_)
        exact hJ22 _ f_o_met f_o_enough 1 _ _ _ (Nat.lt_succ_self _) (b21) ((iv_w ivk_1 (by decide) (by decide))) (hP) (hD) hS (lv_sub hl [1, 2, 3, 0] rfl)
    · have b23 : iv 5 2147483647 p0 := iv_ltR (Int32.not_le.mp c20) ivk_4 b19 (by decide) (by decide)
      exact hJ10 _ _ _ ((iv_w b23 (by decide) (by decide))) (hP) (hD) hS (lv_sub hl [0, 1, 2] rfl)
def rm_s8_hasRoomFor : Room := { frames := 0, cells := 0, slots := 0, locals := 0 }
set_option maxHeartbeats 4000000 in
set_option maxRecDepth 100000 in
theorem s8_hasRoomFor (l : Launch) (dC : Nat → ClassId) (dI : Nat → Nat → Nat) (kB kI kJ kZ kC kS : ClassId) (sz : Nat) (ot : Nat) (t_bytes : Nat) (x_t : Nat → Int32) (p0 : Int32) (hx_t : fI lX8 hX8 x_t) (hp0 : iv 0 20 p0) : Met l yX8_hasRoomFor wsX8_hasRoomFor rm_s8_hasRoomFor (va_Pc [.ref ot, .int p0] (fun U => U.heap.size = sz ∧ va_P (dC, dI) vwCl [(ot, .inr (8, oX8 t_bytes x_t))] U.heap ∧ kE dC dI kB kI kJ kZ kC kS U ∧ va_D (fun _ => True) [(ot, .inr (8, oX8 t_bytes x_t))])) (va_Qi (fun (r : Int32) (_ : Unit) => iv 0 1 r ∧ (r = 0 ∨ (x_t 0).toInt + p0.toInt ≤ 700)) (fun _ t => va_P (dC, dI) vwCl [(ot, .inr (8, oX8 t_bytes x_t))] t.heap ∧ va_D (va_A [(ot, .inr (8, oX8 t_bytes x_t))] sz) [(ot, .inr (8, oX8 t_bytes x_t))]) (va_A [(ot, .inr (8, oX8 t_bytes x_t))] sz)) 0 0 (va_A [(ot, .inr (8, oX8 t_bytes x_t))] sz) := by
  refine Met.ofW (cc := cX8_hasRoomFor) (maxL := 2) (ret := (some .boolean)) (by decide) rfl ?_
  intro p e s m args0 below meth c s₁ B hml hv
  obtain ⟨hargs, hsz, hP, hE, hD0⟩ := hv
  have hx := B.exec
  have hb := B.bytes
  have hr := B.returns
  have hts := atoms_spec (ws := wsX8_hasRoomFor) B.pre
  have hown : s.vm.findClass RX8 = some m.cls := findClass_of_methodNamed B.named
  have hlocks := B.notSynchronized
  have hK := hE.1
  have hin8 : ∀ w ∈ wsX80, w ∈ wsX8_hasRoomFor := fun _ h9 => List.mem_cons_of_mem _ (List.mem_append_right _ h9)
  have hw_0 := hts (.fieldLink RX8 15 "PathProber$Tape" "length" "I") (List.mem_of_getElem? (i := 1) rfl)
  subst hsz
  have hD := hD0.self (sz := s.heap.size)
  generalize hAe : va_A [(ot, .inr (8, oX8 t_bytes x_t))] s.heap.size = A at hD ⊢
  have hA : ∀ q : Nat, s.heap.size ≤ q → A q := fun q h => by rw [← hAe]; exact Or.inr h
  have hS : va_S A s.heap s.heap [] := va_S.rf
  have hP : va_P (dC, dI) vwCl [(ot, .inr (8, oX8 t_bytes x_t))] s.heap := hP
  have hl := lv_entry ([.ref ot, .int p0]) (n := 2) (Nat.le_of_ble_eq_true rfl)
  have hla : entryFrame m args0 2 = entryFrame m ([.ref ot, .int p0] : List Value).toArray 2 := by rw [hargs]
  rw [hla, lg_entry_eq]
  generalize (lg_sl ([.ref ot, .int p0]) ++ List.replicate (2 - (lg_sl ([.ref ot, .int p0])).length) Slot.unset).toArray = ls at hl ⊢
  have hl : lv_has ls 2 [(0, .ref ot), (1, .int p0)] := hl
  refine lv_aload_n hx hb dX8_hasRoomFor_0 rfl (lv_at hl 0 rfl) ?_
  refine va_get (D := (dC, dI)) (ci := 8) (v := .int (x_t 0)) (C := RX8) (T := TX8) (N := 2) hx hb hts hin8 hown hK hP 0 rfl rfl 1 (Nat.le_of_ble_eq_true rfl) hw_0 (fun _ h9 => h9) rfl dX8_hasRoomFor_1 ?_
  refine lv_iload_n hx hb dX8_hasRoomFor_4 rfl (lv_at hl 1 rfl) ?_
  refine lv_iadd hx hb dX8_hasRoomFor_5 ?_
  have b1 : iv 0 720 ((x_t 0) + p0) := iv_add (hx_t 0 : iv 0 700 (x_t 0)) hp0 (by decide) (by decide) (by decide) (by decide)
  refine lv_sipush (v := 700) hx hb dX8_hasRoomFor_6 (by decide) ?_
  refine lv_icmp_gt (tgt := 16) hx hb dX8_hasRoomFor_9 rfl (fun c2 => ?_) (fun c2 => ?_)
  · have b3 : iv 701 720 ((x_t 0) + p0) := iv_ltR c2 ivk_700 b1 (by decide) (by decide)
    refine lv_iconst (v := 0) hx hb dX8_hasRoomFor_16 ic_0 ?_
    have hP9 := hP
    have hD9 := hD
    exact W.zret (v := 0) (ty := .boolean) hx hb hr rfl (fun t ht hW => ⟨⟨0, (), rfl, ⟨(iv_w ivk_0 (by decide) (by decide)), Or.inl rfl⟩, by rw [ht]; exact hP9, hD9⟩, hS.F ht⟩) hS.2.2 dX8_hasRoomFor_17
  · have b4 : iv 0 700 ((x_t 0) + p0) := iv_leL (Int32.not_lt.mp c2) b1 ivk_700 (by decide) (by decide)
    refine lv_iconst (v := 1) hx hb dX8_hasRoomFor_12 ic_1 ?_
    refine lv_goto (tgt := 17) hx hb dX8_hasRoomFor_13 rfl ?_
    have hP9 := hP
    have hD9 := hD
    exact W.zret (v := 1) (ty := .boolean) hx hb hr rfl (fun t ht hW => ⟨⟨1, (), rfl, ⟨(iv_w ivk_1 (by decide) (by decide)), Or.inr (room_le (hx_t 0 : iv 0 700 (x_t 0)) hp0 (Int32.not_lt.mp c2))⟩, by rw [ht]; exact hP9, hD9⟩, hS.F ht⟩) hS.2.2 dX8_hasRoomFor_17
def rm_s8_append : Room := { frames := 1, cells := 0, slots := 0, locals := 21 }
set_option maxHeartbeats 4000000 in
set_option maxRecDepth 100000 in
theorem s8_append (l : Launch) (dC : Nat → ClassId) (dI : Nat → Nat → Nat) (kB kI kJ kZ kC kS : ClassId) (sz : Nat) (ot : Nat) (t_bytes : Nat) (x_t : Nat → Int32) (f_t_bytes : Nat → Int32) (p0 : Int32) (hx_t : fI lX8 hX8 x_t) (hf_t_bytes : fI (fun _ => (-128)) (fun _ => 127) f_t_bytes) : Met l yX8_append wsX8_append rm_s8_append (va_Pc [.ref ot, .int p0] (fun U => U.heap.size = sz ∧ va_P (dC, dI) vwCl [(ot, .inr (8, oX8 t_bytes x_t)), (t_bytes, .inl (kB, 700, .inl f_t_bytes))] U.heap ∧ kE dC dI kB kI kJ kZ kC kS U ∧ va_D (fun _ => True) [(ot, .inr (8, oX8 t_bytes x_t)), (t_bytes, .inl (kB, 700, .inl f_t_bytes))])) (va_Qv (fun (_ : Unit) => True) (fun _ t => ∃ (x_t' : Nat → Int32) (f_t_bytes' : Nat → Int32), fI lX8 hX8 x_t' ∧ fI (fun _ => (-128)) (fun _ => 127) f_t_bytes' ∧ va_P (dC, dI) vwCl [(ot, .inr (8, oX8 t_bytes x_t')), (t_bytes, .inl (kB, 700, .inl f_t_bytes'))] t.heap ∧ va_D (va_A [(ot, .inr (8, oX8 t_bytes x_t)), (t_bytes, .inl (kB, 700, .inl f_t_bytes))] sz) [(ot, .inr (8, oX8 t_bytes x_t')), (t_bytes, .inl (kB, 700, .inl f_t_bytes'))]) (va_A [(ot, .inr (8, oX8 t_bytes x_t)), (t_bytes, .inl (kB, 700, .inl f_t_bytes))] sz)) 0 0 (va_A [(ot, .inr (8, oX8 t_bytes x_t)), (t_bytes, .inl (kB, 700, .inl f_t_bytes))] sz) := by
  refine Met.ofW (cc := cX8_append) (maxL := 3) (ret := none) (by decide) rfl ?_
  intro p e s m args0 below meth c s₁ B hml hv
  obtain ⟨hargs, hsz, hP, hE, hD0⟩ := hv
  have hx := B.exec
  have hb := B.bytes
  have hr := B.returns
  have hts := atoms_spec (ws := wsX8_append) B.pre
  have hown : s.vm.findClass RX8 = some m.cls := findClass_of_methodNamed B.named
  have hlocks := B.notSynchronized
  have hK := hE.1
  have hin8 : ∀ w ∈ wsX80, w ∈ wsX8_append := fun _ h9 => List.mem_cons_of_mem _ (List.mem_append_right _ h9)
  have hw_0 := hts (.fieldLink RX8 9 "PathProber$Tape" "bytes" "[B") (List.mem_of_getElem? (i := 1) rfl)
  have hw_1 := hts (.fieldLink RX8 15 "PathProber$Tape" "length" "I") (List.mem_of_getElem? (i := 2) rfl)
  subst hsz
  have hD := hD0.self (sz := s.heap.size)
  generalize hAe : va_A [(ot, .inr (8, oX8 t_bytes x_t)), (t_bytes, .inl (kB, 700, .inl f_t_bytes))] s.heap.size = A at hD ⊢
  have hA : ∀ q : Nat, s.heap.size ≤ q → A q := fun q h => by rw [← hAe]; exact Or.inr h
  have hS : va_S A s.heap s.heap [] := va_S.rf
  have hP : va_P (dC, dI) vwCl [(ot, .inr (8, oX8 t_bytes x_t)), (t_bytes, .inl (kB, 700, .inl f_t_bytes))] s.heap := hP
  have hl := lv_entry ([.ref ot, .int p0]) (n := 3) (Nat.le_of_ble_eq_true rfl)
  have hla : entryFrame m args0 3 = entryFrame m ([.ref ot, .int p0] : List Value).toArray 3 := by rw [hargs]
  rw [hla, lg_entry_eq]
  generalize (lg_sl ([.ref ot, .int p0]) ++ List.replicate (3 - (lg_sl ([.ref ot, .int p0])).length) Slot.unset).toArray = ls at hl ⊢
  have hl : lv_has ls 3 [(0, .ref ot), (1, .int p0)] := hl
  have hJ12 : ∀ (n : Nat) (y12_0 : Nat → Int32) (g12_1 : Nat → Int32) (v12_loc2 : Int32) (H : Heap) (locs : List Loc) (ls : Array Slot), (v12_loc2.toInt - (-8)).toNat < n → fI lX8 hX8 y12_0 → fI (fun _ => (-128)) (fun _ => 127) g12_1 → iv (-8) 24 v12_loc2 → (8 * (y12_0 0).toInt + v12_loc2.toInt = 8 * (x_t 0).toInt + 24) → ((x_t 0).toInt + 4 ≤ 700) → va_P (dC, dI) vwCl [(ot, .inr (8, oX8 t_bytes y12_0)), (t_bytes, .inl (kB, 700, .inl g12_1))] H → va_D A [(ot, .inr (8, oX8 t_bytes y12_0)), (t_bytes, .inl (kB, 700, .inl g12_1))] → va_S A s.heap H locs → lv_has ls 3 [(0, .ref ot), (1, .int p0), (2, .int v12_loc2)] → W p l e (headSpec wsX8_append rm_s8_append).room s m args0 below meth c H locs (0) (0) (MQ below (va_Qv (fun (_ : Unit) => True) (fun _ t => ∃ (x_t' : Nat → Int32) (f_t_bytes' : Nat → Int32), fI lX8 hX8 x_t' ∧ fI (fun _ => (-128)) (fun _ => 127) f_t_bytes' ∧ va_P (dC, dI) vwCl [(ot, .inr (8, oX8 t_bytes x_t')), (t_bytes, .inl (kB, 700, .inl f_t_bytes'))] t.heap ∧ va_D A [(ot, .inr (8, oX8 t_bytes x_t')), (t_bytes, .inl (kB, 700, .inl f_t_bytes'))]) A) args0 s 0 0 A) (F0 m 12 ls []) := by
    intro n
    induction n with
    | zero => intro y12_0 g12_1 v12_loc2 H locs ls hm12; exact absurd hm12 (Nat.not_lt_zero _)
    | succ n ih12 =>
      intro y12_0 g12_1 v12_loc2 H locs ls hm12 hI12_0 hI12_1 h12_3 hap_12 hro_12 hP hD hS hl
      refine lv_iload_n hx hb dX8_append_12 rfl (lv_at hl 2 rfl) ?_
      refine lv_if_lt (tgt := 45) hx hb dX8_append_13 rfl (fun c1 => ?_) (fun c1 => ?_)
      · have b2 : iv (-8) (-1) v12_loc2 := iv_ltL c1 h12_3 ivk_0 (by decide) (by decide)
        have hP9 := hP
        have hD9 := hD
        exact W.vret hx hb hr (fun t ht hW => ⟨⟨(), rfl, trivial, y12_0, g12_1, hI12_0, hI12_1, by rw [ht]; exact hP9, hD9⟩, hS.F ht⟩) hS.2.2 dX8_append_45
      · have b3 : iv 0 24 v12_loc2 := iv_leR (Int32.not_lt.mp c1) ivk_0 h12_3 (by decide) (by decide)
        have b4 : iv 0 699 (y12_0 0) := app_699 hap_12 hro_12 (hI12_0 0 : iv 0 700 (y12_0 0)) b3
        refine lv_aload_n hx hb dX8_append_16 rfl (lv_at hl 0 rfl) ?_
        refine va_get (D := (dC, dI)) (ci := 8) (v := .ref t_bytes) (C := RX8) (T := TX8) (N := 2) hx hb hts hin8 hown hK hP 0 rfl rfl 0 (Nat.le_of_ble_eq_true rfl) hw_0 (fun _ h9 => h9) rfl dX8_append_17 ?_
        refine lv_aload_n hx hb dX8_append_20 rfl (lv_at hl 0 rfl) ?_
        refine va_get (D := (dC, dI)) (ci := 8) (v := .int (y12_0 0)) (C := RX8) (T := TX8) (N := 2) hx hb hts hin8 hown hK hP 0 rfl rfl 1 (Nat.le_of_ble_eq_true rfl) hw_1 (fun _ h9 => h9) rfl dX8_append_21 ?_
        refine lv_iload_n hx hb dX8_append_24 rfl (lv_at hl 1 rfl) ?_
        refine lv_iload_n hx hb dX8_append_25 rfl (lv_at hl 2 rfl) ?_
        refine lv_ishr hx hb dX8_append_26 ?_
        refine lv_topi (fun z5 _ => ?_)
        refine lv_i2b hx hb dX8_append_27 rfl ?_
        refine lv_topi (fun z6 _ => ?_)
        refine va_bast hx hb hK hP hD hS 1 0 rfl rfl (iv_in b4 (by decide) (by decide)) dX8_append_28 (fun H locs hPa hDa hS => ?_)
        clear hP hD
        have hP : va_P (dC, dI) vwCl [(ot, .inr (8, oX8 t_bytes y12_0)), (t_bytes, .inl (kB, 700, .inl (upd g12_1 (y12_0 0).toNatClampNeg (vp_nar .byte z6))))] H := hPa
        have hD : va_D A [(ot, .inr (8, oX8 t_bytes y12_0)), (t_bytes, .inl (kB, 700, .inl (upd g12_1 (y12_0 0).toNatClampNeg (vp_nar .byte z6))))] := hDa
        clear hPa hDa
        have hf8 : fI (fun _ => (-128)) (fun _ => 127) (upd g12_1 (y12_0 0).toNatClampNeg (vp_nar .byte z6)) := fI_u hI12_1 (k := (y12_0 0).toNatClampNeg) (nar_iv _)
        generalize (upd g12_1 (y12_0 0).toNatClampNeg (vp_nar .byte z6)) = f7 at hP hD hf8
        refine lv_aload_n hx hb dX8_append_29 rfl (lv_at hl 0 rfl) ?_
        refine lv_dup hx hb dX8_append_30 rfl ?_
        refine va_get (D := (dC, dI)) (ci := 8) (v := .int (y12_0 0)) (C := RX8) (T := TX8) (N := 2) hx hb hts hin8 hown hK hP 0 rfl rfl 1 (Nat.le_of_ble_eq_true rfl) hw_1 (fun _ h9 => h9) rfl dX8_append_31 ?_
        refine lv_iconst (v := 1) hx hb dX8_append_34 ic_1 ?_
        refine lv_iadd hx hb dX8_append_35 ?_
        have b9 : iv 1 700 ((y12_0 0) + 1) := iv_add b4 ivk_1 (by decide) (by decide) (by decide) (by decide)
        have t10 : ((y12_0 0) + 1).toInt = (y12_0 0).toInt + 1 := iv_addc b4 (by decide) (by decide) (by decide)
        refine va_put (D := (dC, dI)) (ci := 8) (v := .int ((y12_0 0) + 1)) (ty := .int) (C := RX8) (T := TX8) (N := 2) hx hb hts hin8 tyX8 tyX8_ok nmX8 hown hK hP hD hS 0 rfl rfl 1 (by decide) hw_1 (fun _ h9 => h9) rfl (by decide +kernel) rfl rfl (Nat.le_of_ble_eq_true rfl) dX8_append_36 (fun H locs hPa hDa hS => ?_)
        clear hP hD
        have hP : va_P (dC, dI) vwCl [(ot, .inr (8, oX8 t_bytes (upd y12_0 0 ((y12_0 0) + 1)))), (t_bytes, .inl (kB, 700, .inl f7))] H := hPa
        have hD : va_D A [(ot, .inr (8, oX8 t_bytes (upd y12_0 0 ((y12_0 0) + 1)))), (t_bytes, .inl (kB, 700, .inl f7))] := hDa
        clear hPa hDa
        refine lv_iinc (v := v12_loc2 + Int32.ofInt (-8)) (lv' := [(2, .int (v12_loc2 + Int32.ofInt (-8))), (0, .ref ot), (1, .int p0)]) hx hb dX8_append_39 hl (k := 2) rfl (rfl) (Nat.le_of_ble_eq_true rfl) rfl (fun ls hl => ?_)
        have b11 : iv (-8) 16 (v12_loc2 + Int32.ofInt (-8)) := iv_add b3 (iv_k (by decide) (by decide) : iv (-8) (-8) (Int32.ofInt (-8))) (by decide) (by decide) (by decide) (by decide)
        have t12 : (v12_loc2 + Int32.ofInt (-8)).toInt = v12_loc2.toInt + (-8) := iv_inc (-8) b3 (by decide) (by decide) (by decide) (by decide)
        refine lv_goto (tgt := 12) hx hb dX8_append_42 rfl ?_
        exact ih12 (upd y12_0 0 ((y12_0 0) + 1)) f7 (v12_loc2 + Int32.ofInt (-8)) _ _ _ (ms_dn (c := 8) (d := 0) b3 hm12 (by decide) (iv_inc (-8) b3 (by decide) (by decide) (by decide) (by decide)) (by decide) rfl) ((fI_u hI12_0 (k := 0) ((iv_w b9 (by decide) (by decide))))) (hf8) ((iv_w b11 (by decide) (by decide))) ((show 8 * ((y12_0 0) + 1).toInt + (v12_loc2 + Int32.ofInt (-8)).toInt = 8 * (x_t 0).toInt + 24 from by have q5 := hap_12; omega)) ((show (x_t 0).toInt + 4 ≤ 700 from hro_12)) (hP) (hD) hS (lv_sub hl [1, 2, 0] rfl)
  refine lv_aload_n hx hb dX8_append_0 rfl (lv_at hl 0 rfl) ?_
  refine lv_iconst (v := 4) hx hb dX8_append_1 ic_4 ?_
  obtain ⟨hPc, hDc, hFc, hJn⟩ := cl_a (wc := [(ot, .inr (8, oX8 t_bytes x_t))]) (wr := [(t_bytes, .inl (kB, 700, .inl f_t_bytes))]) hP hD hS hA [0] [1] rfl rfl (by decide +kernel)
  refine va_calli (va_runV (As := [.int 4]) (rest := []) ⟨hx, hb, hml, hown, hts⟩ (s8_hasRoomFor l dC dI kB kI kJ kZ kC kS s.heap.size ot t_bytes x_t 4 (hx_t) ((iv_w ivk_4 (by decide) (by decide)))) (cwV 1 hts gX8_append_X8_hasRoomFor rfl rfl rfl (by decide +kernel) ⟨Nat.le_of_ble_eq_true rfl, Nat.le_of_ble_eq_true rfl⟩) ⟨fun a U g mk q => by obtain ⟨q0, q1, qP, qE, qD⟩ := q; exact ⟨q0, q1, qP, kE_call qE, qD⟩, va_recv hK hP (ci := 8) (q0 := 0) rfl rfl, fun U hU hW => ⟨rfl, by rw [hU], by rw [hU]; exact hPc, kE_warm hW hE, hDc.weaken (fun _ _ _ _ => trivial)⟩⟩ rfl rfl hl.1 rfl (lv_room (Nat.le_of_ble_eq_true rfl)) dX8_append_2 ⟨Nat.le_of_ble_eq_true rfl, Nat.le_of_ble_eq_true rfl⟩) hS (fun q _ h => hFc q h) hFc (fun r13 u t H locs ht hvm w14 hB hz1 hk1 hS => ?_)
  obtain ⟨hP1, hD1⟩ := hB
  try dsimp only at w14
  obtain ⟨hPa, hDa⟩ := hJn (w1 := [(ot, .inr (8, oX8 t_bytes x_t))]) hk1 ht hP1 hD1
  clear hP hD hPc hDc hFc hJn hP1 hD1 hk1
  have hP : va_P (dC, dI) vwCl [(t_bytes, .inl (kB, 700, .inl f_t_bytes)), (ot, .inr (8, oX8 t_bytes x_t))] H := hPa
  have hD : va_D A [(t_bytes, .inl (kB, 700, .inl f_t_bytes)), (ot, .inr (8, oX8 t_bytes x_t))] := hDa
  clear hPa hDa
  refine W.widen (k := 0) (n := 0) (Nat.le_of_ble_eq_true rfl) (Nat.le_of_ble_eq_true rfl) ?_
  refine lv_if_ne (tgt := 9) hx hb dX8_append_5 rfl (fun c15 => ?_) (fun c15 => ?_)
  · have b16 : iv 1 1 r13 := iv_neLo c15 w14.1 ivk_0 (by decide) (by decide)
    have hr17 : (x_t 0).toInt + ((4 : Int32)).toInt ≤ 700 := (w14.2).resolve_left (iv_ne b16 ivk_0 (by decide))
    refine lv_bipush (v := 24) hx hb dX8_append_9 bp_24 ?_
    refine lv_istore_n (lv' := [(2, .int 24), (0, .ref ot), (1, .int p0)]) hx hb dX8_append_11 rfl hl (Nat.le_of_ble_eq_true rfl) rfl (fun ls hl => ?_)
    have hPD9 := cl_s (wc := [(ot, .inr (8, oX8 t_bytes x_t)), (t_bytes, .inl (kB, 700, .inl f_t_bytes))]) hP hD [1, 0] rfl (by decide +kernel)
    exact hJ12 _ x_t f_t_bytes 24 _ _ _ (Nat.lt_succ_self _) (hx_t) (hf_t_bytes) ((iv_w ivk_24 (by decide) (by decide))) ((show 8 * (x_t 0).toInt + ((24 : Int32)).toInt = 8 * (x_t 0).toInt + 24 from by have q24 : ((24 : Int32)).toInt = 24 := (by decide); omega)) ((show (x_t 0).toInt + 4 ≤ 700 from by have q := hr17; rw [show ((4 : Int32)).toInt = 4 from by decide] at q; exact q)) (hPD9.1) (hPD9.2) hS (lv_sub hl [1, 2, 0] rfl)
  · have b18 : iv 0 0 r13 := iv_eqL c15 ivk_0
    have hPD9 := cl_s (wc := [(ot, .inr (8, oX8 t_bytes x_t)), (t_bytes, .inl (kB, 700, .inl f_t_bytes))]) hP hD [1, 0] rfl (by decide +kernel)
    have hP9 := hPD9.1
    have hD9 := hPD9.2
    exact W.vret hx hb hr (fun t ht hW => ⟨⟨(), rfl, trivial, x_t, f_t_bytes, hx_t, hf_t_bytes, by rw [ht]; exact hP9, hD9⟩, hS.F ht⟩) hS.2.2 dX8_append_8
def rm_s9_sway : Room := { frames := 0, cells := 0, slots := 0, locals := 0 }
set_option maxHeartbeats 4000000 in
set_option maxRecDepth 100000 in
theorem s9_sway (l : Launch) (dC : Nat → ClassId) (dI : Nat → Nat → Nat) (kB kI kJ kZ kC kS : ClassId) (sz : Nat) (w : Nat) (on : Nat) (oc : Nat) (x_w : Nat → Int32) (p0 : Int32) (p1 : Int32) (hx_w : fI lX9 hX9 x_w) (hp1 : iv 0 3 p1) : Met l yX9_sway wsX9_sway rm_s9_sway (va_Pc [.ref w, .int p0, .int p1] (fun U => U.heap.size = sz ∧ va_P (dC, dI) vwCl [(w, .inr (9, oX9 on oc x_w))] U.heap ∧ kE dC dI kB kI kJ kZ kC kS U ∧ va_D (fun _ => True) [(w, .inr (9, oX9 on oc x_w))])) (va_Qv (fun (_ : Unit) => True) (fun _ t => ∃ (x_w' : Nat → Int32), fI lX9 hX9 x_w' ∧ va_P (dC, dI) vwCl [(w, .inr (9, oX9 on oc x_w'))] t.heap ∧ va_D (va_A [(w, .inr (9, oX9 on oc x_w))] sz) [(w, .inr (9, oX9 on oc x_w'))]) (va_A [(w, .inr (9, oX9 on oc x_w))] sz)) 0 0 (va_A [(w, .inr (9, oX9 on oc x_w))] sz) := by
  refine Met.ofW (cc := cX9_sway) (maxL := 3) (ret := none) (by decide) rfl ?_
  intro p e s m args0 below meth c s₁ B hml hv
  obtain ⟨hargs, hsz, hP, hE, hD0⟩ := hv
  have hx := B.exec
  have hb := B.bytes
  have hr := B.returns
  have hts := atoms_spec (ws := wsX9_sway) B.pre
  have hown : s.vm.findClass RX9 = some m.cls := findClass_of_methodNamed B.named
  have hlocks := B.notSynchronized
  have hK := hE.1
  have hin9 : ∀ w ∈ wsX90, w ∈ wsX9_sway := fun _ h9 => List.mem_cons_of_mem _ (List.mem_append_right _ h9)
  have hw_0 := hts (.fieldLink RX9 9 "PathProber$Walk" "swayed" "I") (List.mem_of_getElem? (i := 1) rfl)
  have hw_1 := hts (.fieldLink RX9 15 "PathProber$Walk" "swayedTo" "I") (List.mem_of_getElem? (i := 2) rfl)
  subst hsz
  have hD := hD0.self (sz := s.heap.size)
  generalize hAe : va_A [(w, .inr (9, oX9 on oc x_w))] s.heap.size = A at hD ⊢
  have hA : ∀ q : Nat, s.heap.size ≤ q → A q := fun q h => by rw [← hAe]; exact Or.inr h
  have hS : va_S A s.heap s.heap [] := va_S.rf
  have hP : va_P (dC, dI) vwCl [(w, .inr (9, oX9 on oc x_w))] s.heap := hP
  have hl := lv_entry ([.ref w, .int p0, .int p1]) (n := 3) (Nat.le_of_ble_eq_true rfl)
  have hla : entryFrame m args0 3 = entryFrame m ([.ref w, .int p0, .int p1] : List Value).toArray 3 := by rw [hargs]
  rw [hla, lg_entry_eq]
  generalize (lg_sl ([.ref w, .int p0, .int p1]) ++ List.replicate (3 - (lg_sl ([.ref w, .int p0, .int p1])).length) Slot.unset).toArray = ls at hl ⊢
  have hl : lv_has ls 3 [(0, .ref w), (1, .int p0), (2, .int p1)] := hl
  refine lv_aload_n hx hb dX9_sway_0 rfl (lv_at hl 0 rfl) ?_
  refine lv_iload_n hx hb dX9_sway_1 rfl (lv_at hl 1 rfl) ?_
  refine va_put (D := (dC, dI)) (ci := 9) (v := .int p0) (ty := .int) (C := RX9) (T := TX9) (N := 10) hx hb hts hin9 tyX9 tyX9_ok nmX9 hown hK hP hD hS 0 rfl rfl 2 (by decide) hw_0 (fun _ h9 => h9) rfl (by decide +kernel) rfl rfl (Nat.le_of_ble_eq_true rfl) dX9_sway_2 (fun H locs hPa hDa hS => ?_)
  clear hP hD
  have hP : va_P (dC, dI) vwCl [(w, .inr (9, oX9 on oc (upd x_w 0 p0)))] H := hPa
  have hD : va_D A [(w, .inr (9, oX9 on oc (upd x_w 0 p0)))] := hDa
  clear hPa hDa
  refine lv_aload_n hx hb dX9_sway_5 rfl (lv_at hl 0 rfl) ?_
  refine lv_iload_n hx hb dX9_sway_6 rfl (lv_at hl 2 rfl) ?_
  refine va_put (D := (dC, dI)) (ci := 9) (v := .int p1) (ty := .int) (C := RX9) (T := TX9) (N := 10) hx hb hts hin9 tyX9 tyX9_ok nmX9 hown hK hP hD hS 0 rfl rfl 3 (by decide) hw_1 (fun _ h9 => h9) rfl (by decide +kernel) rfl rfl (Nat.le_of_ble_eq_true rfl) dX9_sway_7 (fun H locs hPa hDa hS => ?_)
  clear hP hD
  have hP : va_P (dC, dI) vwCl [(w, .inr (9, oX9 on oc (upd (upd x_w 0 p0) 1 p1)))] H := hPa
  have hD : va_D A [(w, .inr (9, oX9 on oc (upd (upd x_w 0 p0) 1 p1)))] := hDa
  clear hPa hDa
  have hP9 := hP
  have hD9 := hD
  exact W.vret hx hb hr (fun t ht hW => ⟨⟨(), rfl, trivial, upd (upd x_w 0 p0) 1 p1, (fI_u (fI_u hx_w (k := 0) ((iv_t p0))) (k := 1) (hp1)), by rw [ht]; exact hP9, hD9⟩, hS.F ht⟩) hS.2.2 dX9_sway_10
def rm_s9_swayNone : Room := { frames := 0, cells := 0, slots := 0, locals := 0 }
set_option maxHeartbeats 4000000 in
set_option maxRecDepth 100000 in
theorem s9_swayNone (l : Launch) (dC : Nat → ClassId) (dI : Nat → Nat → Nat) (kB kI kJ kZ kC kS : ClassId) (sz : Nat) (w : Nat) (on : Nat) (oc : Nat) (x_w : Nat → Int32) (hx_w : fI lX9 hX9 x_w) : Met l yX9_swayNone wsX9_swayNone rm_s9_swayNone (va_Pc [.ref w] (fun U => U.heap.size = sz ∧ va_P (dC, dI) vwCl [(w, .inr (9, oX9 on oc x_w))] U.heap ∧ kE dC dI kB kI kJ kZ kC kS U ∧ va_D (fun _ => True) [(w, .inr (9, oX9 on oc x_w))])) (va_Qv (fun (_ : Unit) => True) (fun _ t => ∃ (x_w' : Nat → Int32), fI lX9 hX9 x_w' ∧ (iv (-1) (-1) (x_w' 0)) ∧ va_P (dC, dI) vwCl [(w, .inr (9, oX9 on oc x_w'))] t.heap ∧ va_D (va_A [(w, .inr (9, oX9 on oc x_w))] sz) [(w, .inr (9, oX9 on oc x_w'))]) (va_A [(w, .inr (9, oX9 on oc x_w))] sz)) 0 0 (va_A [(w, .inr (9, oX9 on oc x_w))] sz) := by
  refine Met.ofW (cc := cX9_swayNone) (maxL := 1) (ret := none) (by decide) rfl ?_
  intro p e s m args0 below meth c s₁ B hml hv
  obtain ⟨hargs, hsz, hP, hE, hD0⟩ := hv
  have hx := B.exec
  have hb := B.bytes
  have hr := B.returns
  have hts := atoms_spec (ws := wsX9_swayNone) B.pre
  have hown : s.vm.findClass RX9 = some m.cls := findClass_of_methodNamed B.named
  have hlocks := B.notSynchronized
  have hK := hE.1
  have hin9 : ∀ w ∈ wsX90, w ∈ wsX9_swayNone := fun _ h9 => List.mem_cons_of_mem _ (List.mem_append_right _ h9)
  have hw_0 := hts (.fieldLink RX9 9 "PathProber$Walk" "swayed" "I") (List.mem_of_getElem? (i := 1) rfl)
  subst hsz
  have hD := hD0.self (sz := s.heap.size)
  generalize hAe : va_A [(w, .inr (9, oX9 on oc x_w))] s.heap.size = A at hD ⊢
  have hA : ∀ q : Nat, s.heap.size ≤ q → A q := fun q h => by rw [← hAe]; exact Or.inr h
  have hS : va_S A s.heap s.heap [] := va_S.rf
  have hP : va_P (dC, dI) vwCl [(w, .inr (9, oX9 on oc x_w))] s.heap := hP
  have hl := lv_entry ([.ref w]) (n := 1) (Nat.le_of_ble_eq_true rfl)
  have hla : entryFrame m args0 1 = entryFrame m ([.ref w] : List Value).toArray 1 := by rw [hargs]
  rw [hla, lg_entry_eq]
  generalize (lg_sl ([.ref w]) ++ List.replicate (1 - (lg_sl ([.ref w])).length) Slot.unset).toArray = ls at hl ⊢
  have hl : lv_has ls 1 [(0, .ref w)] := hl
  refine lv_aload_n hx hb dX9_swayNone_0 rfl (lv_at hl 0 rfl) ?_
  refine lv_iconst (v := (-1)) hx hb dX9_swayNone_1 ic_m1 ?_
  refine va_put (D := (dC, dI)) (ci := 9) (v := .int (-1)) (ty := .int) (C := RX9) (T := TX9) (N := 10) hx hb hts hin9 tyX9 tyX9_ok nmX9 hown hK hP hD hS 0 rfl rfl 2 (by decide) hw_0 (fun _ h9 => h9) rfl (by decide +kernel) rfl rfl (Nat.le_of_ble_eq_true rfl) dX9_swayNone_2 (fun H locs hPa hDa hS => ?_)
  clear hP hD
  have hP : va_P (dC, dI) vwCl [(w, .inr (9, oX9 on oc (upd x_w 0 (-1))))] H := hPa
  have hD : va_D A [(w, .inr (9, oX9 on oc (upd x_w 0 (-1))))] := hDa
  clear hPa hDa
  have hP9 := hP
  have hD9 := hD
  exact W.vret hx hb hr (fun t ht hW => ⟨⟨(), rfl, trivial, upd x_w 0 (-1), (fI_u hx_w (k := 0) ((iv_w ivk_m1 (by decide) (by decide)))), (show iv (-1) (-1) (-1) from ivk_m1), by rw [ht]; exact hP9, hD9⟩, hS.F ht⟩) hS.2.2 dX9_swayNone_5
def rm_s9_choiceBy : Room := { frames := 0, cells := 0, slots := 0, locals := 0 }
set_option maxHeartbeats 4000000 in
set_option maxRecDepth 100000 in
theorem s9_choiceBy (l : Launch) (dC : Nat → ClassId) (dI : Nat → Nat → Nat) (kB kI kJ kZ kC kS : ClassId) (sz : Nat) (p0 : Int32) (p1 : Int32) (p2 : Int32) (p3 : Int32) (p4 : Int32) (p5 : Int32) (hp1 : iv 0 15 p1) (hp2 : iv 0 59 p2) (hp3 : iv 0 31 p3) (hp4 : iv 0 2 p4) (hp5 : iv 0 4 p5) : Met l yX9_choiceBy wsX9_choiceBy rm_s9_choiceBy (va_Pc [.int p0, .int p1, .int p2, .int p3, .int p4, .int p5] (fun U => U.heap.size = sz ∧ va_P (dC, dI) vwCl [] U.heap ∧ kE dC dI kB kI kJ kZ kC kS U ∧ va_D (fun _ => True) [])) (va_Qi (fun (r : Int32) (_ : Unit) => iv 0 3 r) (fun _ t => va_P (dC, dI) vwCl [] t.heap ∧ va_D (va_A [] sz) []) (va_A [] sz)) 0 0 (va_A [] sz) := by
  refine Met.ofW (cc := cX9_choiceBy) (maxL := 6) (ret := (some .int)) (by decide) rfl ?_
  intro p e s m args0 below meth c s₁ B hml hv
  obtain ⟨hargs, hsz, hP, hE, hD0⟩ := hv
  have hx := B.exec
  have hb := B.bytes
  have hr := B.returns
  have hts := atoms_spec (ws := wsX9_choiceBy) B.pre
  have hown : s.vm.findClass RX9 = some m.cls := findClass_of_methodNamed B.named
  have hlocks := B.notSynchronized
  have hK := hE.1
  subst hsz
  have hD := hD0.self (sz := s.heap.size)
  generalize hAe : va_A [] s.heap.size = A at hD ⊢
  have hA : ∀ q : Nat, s.heap.size ≤ q → A q := fun q h => by rw [← hAe]; exact Or.inr h
  have hS : va_S A s.heap s.heap [] := va_S.rf
  have hP : va_P (dC, dI) vwCl [] s.heap := hP
  have hl := lv_entry ([.int p0, .int p1, .int p2, .int p3, .int p4, .int p5]) (n := 6) (Nat.le_of_ble_eq_true rfl)
  have hla : entryFrame m args0 6 = entryFrame m ([.int p0, .int p1, .int p2, .int p3, .int p4, .int p5] : List Value).toArray 6 := by rw [hargs]
  rw [hla, lg_entry_eq]
  generalize (lg_sl ([.int p0, .int p1, .int p2, .int p3, .int p4, .int p5]) ++ List.replicate (6 - (lg_sl ([.int p0, .int p1, .int p2, .int p3, .int p4, .int p5])).length) Slot.unset).toArray = ls at hl ⊢
  have hl : lv_has ls 6 [(0, .int p0), (1, .int p1), (2, .int p2), (3, .int p3), (4, .int p4), (5, .int p5)] := hl
  refine lv_iload hx hb dX9_choiceBy_0 (lv_at hl 5 rfl) ?_
  refine lv_if_gt (tgt := 7) hx hb dX9_choiceBy_2 rfl (fun c1 => ?_) (fun c1 => ?_)
  · have b2 : iv 1 4 p5 := iv_ltR c1 ivk_0 hp5 (by decide) (by decide)
    refine lv_iload_n hx hb dX9_choiceBy_7 rfl (lv_at hl 0 rfl) ?_
    by_cases c3 : p0 = 1
    · refine lv_tableIn (off := 28) (tgt := 36) hx hb dX9_choiceBy_8 (by rw [c3]; decide) (by rw [c3]; decide) (by rw [c3]; decide) (by decide) ?_
      have b4 : iv 1 1 p0 := iv_eqL c3 ivk_1
      refine lv_bipush (v := 7) hx hb dX9_choiceBy_36 bp_7 ?_
      refine lv_iload_n hx hb dX9_choiceBy_38 rfl (lv_at hl 3 rfl) ?_
      refine lv_imul hx hb dX9_choiceBy_39 ?_
      refine iv_top (a := 0) (b := 217) (iv_mul ivk_7 hp3 (by decide) (by decide) (by decide) (by decide) (by decide)) (fun z5 b6 => ?_)
      refine lv_bipush (v := 13) hx hb dX9_choiceBy_40 bp_13 ?_
      refine lv_iload hx hb dX9_choiceBy_42 (lv_at hl 4 rfl) ?_
      refine lv_imul hx hb dX9_choiceBy_44 ?_
      refine iv_top (a := 0) (b := 26) (iv_mul ivk_13 hp4 (by decide) (by decide) (by decide) (by decide) (by decide)) (fun z7 b8 => ?_)
      refine lv_iadd hx hb dX9_choiceBy_45 ?_
      refine iv_top (a := 0) (b := 243) (iv_add b6 b8 (by decide) (by decide) (by decide) (by decide)) (fun z9 b10 => ?_)
      refine lv_iload_n hx hb dX9_choiceBy_46 rfl (lv_at hl 1 rfl) ?_
      refine lv_iadd hx hb dX9_choiceBy_47 ?_
      refine iv_top (a := 0) (b := 258) (iv_add b10 hp1 (by decide) (by decide) (by decide) (by decide)) (fun z11 b12 => ?_)
      refine lv_iload hx hb dX9_choiceBy_48 (lv_at hl 5 rfl) ?_
      refine lv_irem hx hb dX9_choiceBy_50 (iv_ne b2 ivk_0 (by decide)) ?_
      refine iv_top (a := 0) (b := 3) (iv_rem b12 b2 (by decide) (by decide) (by decide) (by decide)) (fun z13 b14 => ?_)
      have hP9 := hP
      have hD9 := hD
      exact W.iret (v := z13) hx hb hr (fun t ht hW => ⟨⟨z13, (), rfl, b14, by rw [ht]; exact hP9, hD9⟩, hS.F ht⟩) hS.2.2 dX9_choiceBy_51
    by_cases c15 : p0 = 2
    · refine lv_tableIn (off := 44) (tgt := 52) hx hb dX9_choiceBy_8 (by rw [c15]; decide) (by rw [c15]; decide) (by rw [c15]; decide) (by decide) ?_
      have b16 : iv 2 2 p0 := iv_eqL c15 ivk_2
      refine lv_iload_n hx hb dX9_choiceBy_52 rfl (lv_at hl 2 rfl) ?_
      refine lv_iload hx hb dX9_choiceBy_53 (lv_at hl 5 rfl) ?_
      refine lv_irem hx hb dX9_choiceBy_55 (iv_ne b2 ivk_0 (by decide)) ?_
      refine iv_top (a := 0) (b := 3) (iv_rem hp2 b2 (by decide) (by decide) (by decide) (by decide)) (fun z17 b18 => ?_)
      have hP9 := hP
      have hD9 := hD
      exact W.iret (v := z17) hx hb hr (fun t ht hW => ⟨⟨z17, (), rfl, b18, by rw [ht]; exact hP9, hD9⟩, hS.F ht⟩) hS.2.2 dX9_choiceBy_56
    by_cases c19 : p0 = 3
    · refine lv_tableIn (off := 49) (tgt := 57) hx hb dX9_choiceBy_8 (by rw [c19]; decide) (by rw [c19]; decide) (by rw [c19]; decide) (by decide) ?_
      have b20 : iv 3 3 p0 := iv_eqL c19 ivk_3
      refine lv_bipush (v := 13) hx hb dX9_choiceBy_57 bp_13 ?_
      refine lv_iload hx hb dX9_choiceBy_59 (lv_at hl 4 rfl) ?_
      refine lv_imul hx hb dX9_choiceBy_61 ?_
      refine iv_top (a := 0) (b := 26) (iv_mul ivk_13 hp4 (by decide) (by decide) (by decide) (by decide) (by decide)) (fun z21 b22 => ?_)
      refine lv_iload_n hx hb dX9_choiceBy_62 rfl (lv_at hl 1 rfl) ?_
      refine lv_iadd hx hb dX9_choiceBy_63 ?_
      refine iv_top (a := 0) (b := 41) (iv_add b22 hp1 (by decide) (by decide) (by decide) (by decide)) (fun z23 b24 => ?_)
      refine lv_iload hx hb dX9_choiceBy_64 (lv_at hl 5 rfl) ?_
      refine lv_irem hx hb dX9_choiceBy_66 (iv_ne b2 ivk_0 (by decide)) ?_
      refine iv_top (a := 0) (b := 3) (iv_rem b24 b2 (by decide) (by decide) (by decide) (by decide)) (fun z25 b26 => ?_)
      have hP9 := hP
      have hD9 := hD
      exact W.iret (v := z25) hx hb hr (fun t ht hW => ⟨⟨z25, (), rfl, b26, by rw [ht]; exact hP9, hD9⟩, hS.F ht⟩) hS.2.2 dX9_choiceBy_67
    refine lv_tableOut (tgt := 68) hx hb dX9_choiceBy_8 (by have g0 : ¬ p0.toInt = 1 := fun w => c3 (Int32.toInt_inj.mp w); have g1 : ¬ p0.toInt = 2 := fun w => c15 (Int32.toInt_inj.mp w); have g2 : ¬ p0.toInt = 3 := fun w => c19 (Int32.toInt_inj.mp w); have gb := (iv_t p0); have gb1 := gb.1; have gb2 := gb.2; omega) (by decide) ?_
    refine lv_iconst (v := 0) hx hb dX9_choiceBy_68 ic_0 ?_
    have hP9 := hP
    have hD9 := hD
    exact W.iret (v := 0) hx hb hr (fun t ht hW => ⟨⟨0, (), rfl, (iv_w ivk_0 (by decide) (by decide)), by rw [ht]; exact hP9, hD9⟩, hS.F ht⟩) hS.2.2 dX9_choiceBy_69
  · have b27 : iv 0 0 p5 := iv_leL (Int32.not_lt.mp c1) hp5 ivk_0 (by decide) (by decide)
    refine lv_iconst (v := 0) hx hb dX9_choiceBy_5 ic_0 ?_
    have hP9 := hP
    have hD9 := hD
    exact W.iret (v := 0) hx hb hr (fun t ht hW => ⟨⟨0, (), rfl, (iv_w ivk_0 (by decide) (by decide)), by rw [ht]; exact hP9, hD9⟩, hS.F ht⟩) hS.2.2 dX9_choiceBy_6
def rm_s9_choiceByCode : Room := { frames := 1, cells := 0, slots := 0, locals := 25 }
set_option maxHeartbeats 4000000 in
set_option maxRecDepth 100000 in
theorem s9_choiceByCode (l : Launch) (dC : Nat → ClassId) (dI : Nat → Nat → Nat) (kB kI kJ kZ kC kS : ClassId) (sz : Nat) (p0 : Int32) (p1 : Int32) (p2 : Int32) (p3 : Int32) (hp0 : iv 0 63 p0) (hp1 : iv 0 31 p1) (hp2 : iv 0 2 p2) (hp3 : iv 0 4 p3) : Met l yX9_choiceByCode wsX9_choiceByCode rm_s9_choiceByCode (va_Pc [.int p0, .int p1, .int p2, .int p3] (fun U => U.heap.size = sz ∧ va_P (dC, dI) vwCl [] U.heap ∧ kE dC dI kB kI kJ kZ kC kS U ∧ va_D (fun _ => True) [])) (va_Qi (fun (r : Int32) (_ : Unit) => iv 0 3 r) (fun _ t => va_P (dC, dI) vwCl [] t.heap ∧ va_D (va_A [] sz) []) (va_A [] sz)) 0 0 (va_A [] sz) := by
  refine Met.ofW (cc := cX9_choiceByCode) (maxL := 4) (ret := (some .int)) (by decide) rfl ?_
  intro p e s m args0 below meth c s₁ B hml hv
  obtain ⟨hargs, hsz, hP, hE, hD0⟩ := hv
  have hx := B.exec
  have hb := B.bytes
  have hr := B.returns
  have hts := atoms_spec (ws := wsX9_choiceByCode) B.pre
  have hown : s.vm.findClass RX9 = some m.cls := findClass_of_methodNamed B.named
  have hlocks := B.notSynchronized
  have hK := hE.1
  subst hsz
  have hD := hD0.self (sz := s.heap.size)
  generalize hAe : va_A [] s.heap.size = A at hD ⊢
  have hA : ∀ q : Nat, s.heap.size ≤ q → A q := fun q h => by rw [← hAe]; exact Or.inr h
  have hS : va_S A s.heap s.heap [] := va_S.rf
  have hP : va_P (dC, dI) vwCl [] s.heap := hP
  have hl := lv_entry ([.int p0, .int p1, .int p2, .int p3]) (n := 4) (Nat.le_of_ble_eq_true rfl)
  have hla : entryFrame m args0 4 = entryFrame m ([.int p0, .int p1, .int p2, .int p3] : List Value).toArray 4 := by rw [hargs]
  rw [hla, lg_entry_eq]
  generalize (lg_sl ([.int p0, .int p1, .int p2, .int p3]) ++ List.replicate (4 - (lg_sl ([.int p0, .int p1, .int p2, .int p3])).length) Slot.unset).toArray = ls at hl ⊢
  have hl : lv_has ls 4 [(0, .int p0), (1, .int p1), (2, .int p2), (3, .int p3)] := hl
  refine lv_iload_n hx hb dX9_choiceByCode_0 rfl (lv_at hl 0 rfl) ?_
  refine lv_bipush (v := 16) hx hb dX9_choiceByCode_1 bp_16 ?_
  refine lv_idiv hx hb dX9_choiceByCode_3 (by decide) ?_
  refine iv_top (a := 0) (b := 63) (iv_div hp0 ivk_16 (by decide) (by decide) (by decide) (by decide)) (fun z1 b2 => ?_)
  refine lv_iload_n hx hb dX9_choiceByCode_4 rfl (lv_at hl 0 rfl) ?_
  refine lv_bipush (v := 16) hx hb dX9_choiceByCode_5 bp_16 ?_
  refine lv_irem hx hb dX9_choiceByCode_7 (by decide) ?_
  refine iv_top (a := 0) (b := 15) (iv_rem hp0 ivk_16 (by decide) (by decide) (by decide) (by decide)) (fun z3 b4 => ?_)
  refine lv_iconst (v := 0) hx hb dX9_choiceByCode_8 ic_0 ?_
  refine lv_iload_n hx hb dX9_choiceByCode_9 rfl (lv_at hl 1 rfl) ?_
  refine lv_iload_n hx hb dX9_choiceByCode_10 rfl (lv_at hl 2 rfl) ?_
  refine lv_iload_n hx hb dX9_choiceByCode_11 rfl (lv_at hl 3 rfl) ?_
  obtain ⟨hPc, hDc, hFc, hJn⟩ := cl_a (wc := []) (wr := []) hP hD hS hA [] [] rfl rfl (by decide +kernel)
  refine va_calli (va_runS (As := [.int z1, .int z3, .int 0, .int p1, .int p2, .int p3]) (rest := []) ⟨hx, hb, hml, hown, hts⟩ (s9_choiceBy l dC dI kB kI kJ kZ kC kS s.heap.size z1 z3 0 p1 p2 p3 (b4) ((iv_w ivk_0 (by decide) (by decide))) (hp1) (hp2) (hp3)) (va_cwS 6 hts gX9_choiceByCode_X9_choiceBy rfl rfl rfl (by decide +kernel) ⟨Nat.le_of_ble_eq_true rfl, Nat.le_of_ble_eq_true rfl⟩) ⟨fun a U g mk q => by obtain ⟨q0, q1, qP, qE, qD⟩ := q; exact ⟨q0, q1, qP, kE_call qE, qD⟩, fun U hU hW => ⟨rfl, by rw [hU], by rw [hU]; exact hPc, kE_warm hW hE, hDc.weaken (fun _ _ _ _ => trivial)⟩⟩ rfl rfl hl.1 rfl (lv_room (Nat.le_of_ble_eq_true rfl)) dX9_choiceByCode_12 ⟨Nat.le_of_ble_eq_true rfl, Nat.le_of_ble_eq_true rfl⟩) hS (fun q _ h => hFc q h) hFc (fun r5 u t H locs ht hvm w6 hB hz1 hk1 hS => ?_)
  obtain ⟨hP1, hD1⟩ := hB
  try dsimp only at w6
  obtain ⟨hPa, hDa⟩ := hJn (w1 := []) hk1 ht hP1 hD1
  clear hP hD hPc hDc hFc hJn hP1 hD1 hk1
  have hP : va_P (dC, dI) vwCl [] H := hPa
  have hD : va_D A [] := hDa
  clear hPa hDa
  refine W.widen (k := 0) (n := 0) (Nat.le_of_ble_eq_true rfl) (Nat.le_of_ble_eq_true rfl) ?_
  have hP9 := hP
  have hD9 := hD
  exact W.iret (v := r5) hx hb hr (fun t ht hW => ⟨⟨r5, (), rfl, w6, by rw [ht]; exact hP9, hD9⟩, hS.F ht⟩) hS.2.2 dX9_choiceByCode_15
def rm_s9_goOn : Room := { frames := 1, cells := 0, slots := 0, locals := 25 }
set_option maxHeartbeats 4000000 in
set_option maxRecDepth 100000 in
theorem s9_goOn (l : Launch) (dC : Nat → ClassId) (dI : Nat → Nat → Nat) (kB kI kJ kZ kC kS : ClassId) (sz : Nat) (w : Nat) (on : Nat) (oc : Nat) (x_w : Nat → Int32) (n_kind : Nat) (n_salt : Nat) (n_pace : Nat) (n_manner : Nat) (n_from : Nat) (n_to : Nat) (n_goal : Nat) (n_reach : Nat) (n_branches : Nat) (n_branch : Nat) (n_tally : Nat) (x_n : Nat → Int32) (f_n_kind : Nat → Int32) (f_n_salt : Nat → Int32) (f_n_to : Nat → Int32) (f_n_branches : Nat → Int32) (f_n_branch : Nat → Int32) (c_seen : Nat) (c_sent : Nat) (c_turn : Nat) (c_counter : Nat) (x_c : Nat → Int32) (f_c_turn : Nat → Int32) (p0 : Int32) (p1 : Int32) (hx_w : fI lX9 hX9 x_w) (hx_n : fI lX2 hX2 x_n) (hf_n_salt : fI (fun _ => 0) (fun _ => 15) f_n_salt) (hf_n_to : fI (fun _ => 0) (fun _ => 11) f_n_to) (hf_n_branches : fI (fun _ => 0) (fun _ => 4) f_n_branches) (hf_n_branch : fI (fun _ => 0) (fun _ => 19) f_n_branch) (hf_c_turn : fI (fun _ => 0) (fun _ => 59) f_c_turn) (hp0 : iv 0 31 p0) (hp1 : iv 0 2 p1) : Met l yX9_goOn wsX9_goOn rm_s9_goOn (va_Pc [.ref w, .int p0, .int p1] (fun U => U.heap.size = sz ∧ va_P (dC, dI) vwCl [(w, .inr (9, oX9 on oc x_w)), (on, .inr (2, oX2 n_kind n_salt n_pace n_manner n_from n_to n_goal n_reach n_branches n_branch n_tally x_n)), (n_kind, .inl (kI, 12, .inl f_n_kind)), (n_salt, .inl (kI, 12, .inl f_n_salt)), (n_to, .inl (kI, 20, .inl f_n_to)), (n_branches, .inl (kI, 36, .inl f_n_branches)), (n_branch, .inl (kI, 144, .inl f_n_branch)), (oc, .inr (0, oX0 c_seen c_sent c_turn c_counter x_c)), (c_turn, .inl (kI, 12, .inl f_c_turn))] U.heap ∧ kE dC dI kB kI kJ kZ kC kS U ∧ va_D (fun _ => True) [(w, .inr (9, oX9 on oc x_w)), (on, .inr (2, oX2 n_kind n_salt n_pace n_manner n_from n_to n_goal n_reach n_branches n_branch n_tally x_n)), (n_kind, .inl (kI, 12, .inl f_n_kind)), (n_salt, .inl (kI, 12, .inl f_n_salt)), (n_to, .inl (kI, 20, .inl f_n_to)), (n_branches, .inl (kI, 36, .inl f_n_branches)), (n_branch, .inl (kI, 144, .inl f_n_branch)), (oc, .inr (0, oX0 c_seen c_sent c_turn c_counter x_c)), (c_turn, .inl (kI, 12, .inl f_c_turn))])) (va_Qv (fun (_ : Unit) => True) (fun _ t => ∃ (x_w' : Nat → Int32), fI lX9 hX9 x_w' ∧ (x_w' 0 = x_w 0) ∧ va_P (dC, dI) vwCl [(w, .inr (9, oX9 on oc x_w')), (on, .inr (2, oX2 n_kind n_salt n_pace n_manner n_from n_to n_goal n_reach n_branches n_branch n_tally x_n)), (n_kind, .inl (kI, 12, .inl f_n_kind)), (n_salt, .inl (kI, 12, .inl f_n_salt)), (n_to, .inl (kI, 20, .inl f_n_to)), (n_branches, .inl (kI, 36, .inl f_n_branches)), (n_branch, .inl (kI, 144, .inl f_n_branch)), (oc, .inr (0, oX0 c_seen c_sent c_turn c_counter x_c)), (c_turn, .inl (kI, 12, .inl f_c_turn))] t.heap ∧ va_D (va_A [(w, .inr (9, oX9 on oc x_w)), (on, .inr (2, oX2 n_kind n_salt n_pace n_manner n_from n_to n_goal n_reach n_branches n_branch n_tally x_n)), (n_kind, .inl (kI, 12, .inl f_n_kind)), (n_salt, .inl (kI, 12, .inl f_n_salt)), (n_to, .inl (kI, 20, .inl f_n_to)), (n_branches, .inl (kI, 36, .inl f_n_branches)), (n_branch, .inl (kI, 144, .inl f_n_branch)), (oc, .inr (0, oX0 c_seen c_sent c_turn c_counter x_c)), (c_turn, .inl (kI, 12, .inl f_c_turn))] sz) [(w, .inr (9, oX9 on oc x_w')), (on, .inr (2, oX2 n_kind n_salt n_pace n_manner n_from n_to n_goal n_reach n_branches n_branch n_tally x_n)), (n_kind, .inl (kI, 12, .inl f_n_kind)), (n_salt, .inl (kI, 12, .inl f_n_salt)), (n_to, .inl (kI, 20, .inl f_n_to)), (n_branches, .inl (kI, 36, .inl f_n_branches)), (n_branch, .inl (kI, 144, .inl f_n_branch)), (oc, .inr (0, oX0 c_seen c_sent c_turn c_counter x_c)), (c_turn, .inl (kI, 12, .inl f_c_turn))]) (va_A [(w, .inr (9, oX9 on oc x_w)), (on, .inr (2, oX2 n_kind n_salt n_pace n_manner n_from n_to n_goal n_reach n_branches n_branch n_tally x_n)), (n_kind, .inl (kI, 12, .inl f_n_kind)), (n_salt, .inl (kI, 12, .inl f_n_salt)), (n_to, .inl (kI, 20, .inl f_n_to)), (n_branches, .inl (kI, 36, .inl f_n_branches)), (n_branch, .inl (kI, 144, .inl f_n_branch)), (oc, .inr (0, oX0 c_seen c_sent c_turn c_counter x_c)), (c_turn, .inl (kI, 12, .inl f_c_turn))] sz)) 0 0 (va_A [(w, .inr (9, oX9 on oc x_w)), (on, .inr (2, oX2 n_kind n_salt n_pace n_manner n_from n_to n_goal n_reach n_branches n_branch n_tally x_n)), (n_kind, .inl (kI, 12, .inl f_n_kind)), (n_salt, .inl (kI, 12, .inl f_n_salt)), (n_to, .inl (kI, 20, .inl f_n_to)), (n_branches, .inl (kI, 36, .inl f_n_branches)), (n_branch, .inl (kI, 144, .inl f_n_branch)), (oc, .inr (0, oX0 c_seen c_sent c_turn c_counter x_c)), (c_turn, .inl (kI, 12, .inl f_c_turn))] sz) := by
  refine Met.ofW (cc := cX9_goOn) (maxL := 6) (ret := none) (by decide) rfl ?_
  intro p e s m args0 below meth c s₁ B hml hv
  obtain ⟨hargs, hsz, hP, hE, hD0⟩ := hv
  have hx := B.exec
  have hb := B.bytes
  have hr := B.returns
  have hts := atoms_spec (ws := wsX9_goOn) B.pre
  have hown : s.vm.findClass RX9 = some m.cls := findClass_of_methodNamed B.named
  have hlocks := B.notSynchronized
  have hK := hE.1
  have hin9 : ∀ w ∈ wsX90, w ∈ wsX9_goOn := fun _ h9 => List.mem_cons_of_mem _ (List.mem_append_left _ (List.mem_append_left _ (List.mem_append_right _ h9)))
  have hin2 : ∀ w ∈ wsX20, w ∈ wsX9_goOn := fun _ h9 => List.mem_cons_of_mem _ (List.mem_append_left _ (List.mem_append_right _ h9))
  have hin0 : ∀ w ∈ wsX00, w ∈ wsX9_goOn := fun _ h9 => List.mem_cons_of_mem _ (List.mem_append_right _ h9)
  have hw_0 := hts (.fieldLink RX9 21 "PathProber$Walk" "address" "I") (List.mem_of_getElem? (i := 11) rfl)
  have hw_1 := hts (.fieldLink RX9 24 "PathProber$Walk" "ahead" "I") (List.mem_of_getElem? (i := 4) rfl)
  have hw_2 := hts (.fieldLink RX9 27 "PathProber$Walk" "left" "I") (List.mem_of_getElem? (i := 12) rfl)
  have hw_3 := hts (.fieldLink RX9 18 "PathProber$Walk" "router" "I") (List.mem_of_getElem? (i := 2) rfl)
  have hw_4 := hts (.fieldLink RX9 30 "PathProber$Walk" "links" "I") (List.mem_of_getElem? (i := 13) rfl)
  have hw_5 := hts (.fieldLink RX9 37 "PathProber$Walk" "net" "LPathProber$Net;") (List.mem_of_getElem? (i := 1) rfl)
  have hw_6 := hts (.fieldLink RX9 85 "PathProber$Net" "to" "[I") (List.mem_of_getElem? (i := 14) rfl)
  have hw_7 := hts (.fieldLink RX9 66 "PathProber$Net" "kind" "[I") (List.mem_of_getElem? (i := 5) rfl)
  have hw_8 := hts (.fieldLink RX9 69 "PathProber$Net" "salt" "[I") (List.mem_of_getElem? (i := 6) rfl)
  have hw_9 := hts (.fieldLink RX9 41 "PathProber$Walk" "now" "LPathProber$Condition;") (List.mem_of_getElem? (i := 7) rfl)
  have hw_10 := hts (.fieldLink RX9 72 "PathProber$Condition" "turn" "[I") (List.mem_of_getElem? (i := 8) rfl)
  have hw_11 := hts (.fieldLink RX9 9 "PathProber$Walk" "swayed" "I") (List.mem_of_getElem? (i := 9) rfl)
  have hw_12 := hts (.fieldLink RX9 15 "PathProber$Walk" "swayedTo" "I") (List.mem_of_getElem? (i := 10) rfl)
  have hw_13 := hts (.fieldLink RX9 33 "PathProber$Walk" "lost" "Z") (List.mem_of_getElem? (i := 3) rfl)
  subst hsz
  have hD := hD0.self (sz := s.heap.size)
  generalize hAe : va_A [(w, .inr (9, oX9 on oc x_w)), (on, .inr (2, oX2 n_kind n_salt n_pace n_manner n_from n_to n_goal n_reach n_branches n_branch n_tally x_n)), (n_kind, .inl (kI, 12, .inl f_n_kind)), (n_salt, .inl (kI, 12, .inl f_n_salt)), (n_to, .inl (kI, 20, .inl f_n_to)), (n_branches, .inl (kI, 36, .inl f_n_branches)), (n_branch, .inl (kI, 144, .inl f_n_branch)), (oc, .inr (0, oX0 c_seen c_sent c_turn c_counter x_c)), (c_turn, .inl (kI, 12, .inl f_c_turn))] s.heap.size = A at hD ⊢
  have hA : ∀ q : Nat, s.heap.size ≤ q → A q := fun q h => by rw [← hAe]; exact Or.inr h
  have hS : va_S A s.heap s.heap [] := va_S.rf
  have hP : va_P (dC, dI) vwCl [(w, .inr (9, oX9 on oc x_w)), (on, .inr (2, oX2 n_kind n_salt n_pace n_manner n_from n_to n_goal n_reach n_branches n_branch n_tally x_n)), (n_kind, .inl (kI, 12, .inl f_n_kind)), (n_salt, .inl (kI, 12, .inl f_n_salt)), (n_to, .inl (kI, 20, .inl f_n_to)), (n_branches, .inl (kI, 36, .inl f_n_branches)), (n_branch, .inl (kI, 144, .inl f_n_branch)), (oc, .inr (0, oX0 c_seen c_sent c_turn c_counter x_c)), (c_turn, .inl (kI, 12, .inl f_c_turn))] s.heap := hP
  have hl := lv_entry ([.ref w, .int p0, .int p1]) (n := 6) (Nat.le_of_ble_eq_true rfl)
  have hla : entryFrame m args0 6 = entryFrame m ([.ref w, .int p0, .int p1] : List Value).toArray 6 := by rw [hargs]
  rw [hla, lg_entry_eq]
  generalize (lg_sl ([.ref w, .int p0, .int p1]) ++ List.replicate (6 - (lg_sl ([.ref w, .int p0, .int p1])).length) Slot.unset).toArray = ls at hl ⊢
  have hl : lv_has ls 6 [(0, .ref w), (1, .int p0), (2, .int p1)] := hl
  have hJ101 : ∀ (v101_loc3 : Int32) (v101_loc4 : Int32) (v101_stk0 : Int32) (H : Heap) (locs : List Loc) (ls : Array Slot), iv 1 4 v101_loc3 → iv 0 3 v101_loc4 → iv 0 3 v101_stk0 → iv 0 11 (x_w 2) → (x_w 0 = x_w 0) → va_P (dC, dI) vwCl [(w, .inr (9, oX9 on oc x_w)), (on, .inr (2, oX2 n_kind n_salt n_pace n_manner n_from n_to n_goal n_reach n_branches n_branch n_tally x_n)), (n_kind, .inl (kI, 12, .inl f_n_kind)), (n_salt, .inl (kI, 12, .inl f_n_salt)), (n_to, .inl (kI, 20, .inl f_n_to)), (n_branches, .inl (kI, 36, .inl f_n_branches)), (n_branch, .inl (kI, 144, .inl f_n_branch)), (oc, .inr (0, oX0 c_seen c_sent c_turn c_counter x_c)), (c_turn, .inl (kI, 12, .inl f_c_turn))] H → va_D A [(w, .inr (9, oX9 on oc x_w)), (on, .inr (2, oX2 n_kind n_salt n_pace n_manner n_from n_to n_goal n_reach n_branches n_branch n_tally x_n)), (n_kind, .inl (kI, 12, .inl f_n_kind)), (n_salt, .inl (kI, 12, .inl f_n_salt)), (n_to, .inl (kI, 20, .inl f_n_to)), (n_branches, .inl (kI, 36, .inl f_n_branches)), (n_branch, .inl (kI, 144, .inl f_n_branch)), (oc, .inr (0, oX0 c_seen c_sent c_turn c_counter x_c)), (c_turn, .inl (kI, 12, .inl f_c_turn))] → va_S A s.heap H locs → lv_has ls 6 [(0, .ref w), (1, .int p0), (2, .int p1), (3, .int v101_loc3), (4, .int v101_loc4)] → W p l e (headSpec wsX9_goOn rm_s9_goOn).room s m args0 below meth c H locs (0) (0) (MQ below (va_Qv (fun (_ : Unit) => True) (fun _ t => ∃ (x_w' : Nat → Int32), fI lX9 hX9 x_w' ∧ (x_w' 0 = x_w 0) ∧ va_P (dC, dI) vwCl [(w, .inr (9, oX9 on oc x_w')), (on, .inr (2, oX2 n_kind n_salt n_pace n_manner n_from n_to n_goal n_reach n_branches n_branch n_tally x_n)), (n_kind, .inl (kI, 12, .inl f_n_kind)), (n_salt, .inl (kI, 12, .inl f_n_salt)), (n_to, .inl (kI, 20, .inl f_n_to)), (n_branches, .inl (kI, 36, .inl f_n_branches)), (n_branch, .inl (kI, 144, .inl f_n_branch)), (oc, .inr (0, oX0 c_seen c_sent c_turn c_counter x_c)), (c_turn, .inl (kI, 12, .inl f_c_turn))] t.heap ∧ va_D A [(w, .inr (9, oX9 on oc x_w')), (on, .inr (2, oX2 n_kind n_salt n_pace n_manner n_from n_to n_goal n_reach n_branches n_branch n_tally x_n)), (n_kind, .inl (kI, 12, .inl f_n_kind)), (n_salt, .inl (kI, 12, .inl f_n_salt)), (n_to, .inl (kI, 20, .inl f_n_to)), (n_branches, .inl (kI, 36, .inl f_n_branches)), (n_branch, .inl (kI, 144, .inl f_n_branch)), (oc, .inr (0, oX0 c_seen c_sent c_turn c_counter x_c)), (c_turn, .inl (kI, 12, .inl f_c_turn))]) A) args0 s 0 0 A) (F0 m 101 ls [.int v101_stk0, .int p1, .int (x_w 2), .ref on]) := by
    intro v101_loc3 v101_loc4 v101_stk0 H locs ls h101_1 h101_2 h101_3 h101_4 hsw9_101 hP hD hS hl
    obtain ⟨hPc, hDc, hFc, hJn⟩ := cl_a (wc := [(on, .inr (2, oX2 n_kind n_salt n_pace n_manner n_from n_to n_goal n_reach n_branches n_branch n_tally x_n)), (n_branch, .inl (kI, 144, .inl f_n_branch))]) (wr := [(w, .inr (9, oX9 on oc x_w)), (n_kind, .inl (kI, 12, .inl f_n_kind)), (n_salt, .inl (kI, 12, .inl f_n_salt)), (n_to, .inl (kI, 20, .inl f_n_to)), (n_branches, .inl (kI, 36, .inl f_n_branches)), (oc, .inr (0, oX0 c_seen c_sent c_turn c_counter x_c)), (c_turn, .inl (kI, 12, .inl f_c_turn))]) hP hD hS hA [1, 6] [0, 2, 3, 4, 5, 7, 8] rfl rfl (by decide +kernel)
    refine va_calli (va_runV (As := [.int (x_w 2), .int p1, .int v101_stk0]) (rest := []) ⟨hx, hb, hml, hown, hts⟩ (s2_branchOf l dC dI kB kI kJ kZ kC kS H.size on n_kind n_salt n_pace n_manner n_from n_to n_goal n_reach n_branches n_branch n_tally x_n f_n_branch (x_w 2) p1 v101_stk0 (hx_n) (hf_n_branch) (h101_4) (hp1) (h101_3)) (cwV 3 hts gX9_goOn_X2_branchOf rfl rfl rfl (by decide +kernel) ⟨Nat.le_of_ble_eq_true rfl, Nat.le_of_ble_eq_true rfl⟩) ⟨fun a U g mk q => by obtain ⟨q0, q1, qP, qE, qD⟩ := q; exact ⟨q0, q1, qP, kE_call qE, qD⟩, va_recv hK hP (ci := 2) (q0 := 1) rfl rfl, fun U hU hW => ⟨rfl, by rw [hU], by rw [hU]; exact hPc, kE_warm hW hE, hDc.weaken (fun _ _ _ _ => trivial)⟩⟩ rfl rfl hl.1 rfl (lv_room (Nat.le_of_ble_eq_true rfl)) dX9_goOn_101 ⟨Nat.le_of_ble_eq_true rfl, Nat.le_of_ble_eq_true rfl⟩) hS (fun q _ h => hFc q h) hFc (fun r1 u t H locs ht hvm w2 hB hz1 hk1 hS => ?_)
    obtain ⟨hP1, hD1⟩ := hB
    try dsimp only at w2
    obtain ⟨hPa, hDa⟩ := hJn (w1 := [(on, .inr (2, oX2 n_kind n_salt n_pace n_manner n_from n_to n_goal n_reach n_branches n_branch n_tally x_n)), (n_branch, .inl (kI, 144, .inl f_n_branch))]) hk1 ht hP1 hD1
    clear hP hD hPc hDc hFc hJn hP1 hD1 hk1
    have hP : va_P (dC, dI) vwCl [(w, .inr (9, oX9 on oc x_w)), (n_kind, .inl (kI, 12, .inl f_n_kind)), (n_salt, .inl (kI, 12, .inl f_n_salt)), (n_to, .inl (kI, 20, .inl f_n_to)), (n_branches, .inl (kI, 36, .inl f_n_branches)), (oc, .inr (0, oX0 c_seen c_sent c_turn c_counter x_c)), (c_turn, .inl (kI, 12, .inl f_c_turn)), (on, .inr (2, oX2 n_kind n_salt n_pace n_manner n_from n_to n_goal n_reach n_branches n_branch n_tally x_n)), (n_branch, .inl (kI, 144, .inl f_n_branch))] H := hPa
    have hD : va_D A [(w, .inr (9, oX9 on oc x_w)), (n_kind, .inl (kI, 12, .inl f_n_kind)), (n_salt, .inl (kI, 12, .inl f_n_salt)), (n_to, .inl (kI, 20, .inl f_n_to)), (n_branches, .inl (kI, 36, .inl f_n_branches)), (oc, .inr (0, oX0 c_seen c_sent c_turn c_counter x_c)), (c_turn, .inl (kI, 12, .inl f_c_turn)), (on, .inr (2, oX2 n_kind n_salt n_pace n_manner n_from n_to n_goal n_reach n_branches n_branch n_tally x_n)), (n_branch, .inl (kI, 144, .inl f_n_branch))] := hDa
    clear hPa hDa
    refine W.widen (k := 0) (n := 0) (Nat.le_of_ble_eq_true rfl) (Nat.le_of_ble_eq_true rfl) ?_
    refine lv_istore (lv' := [(5, .int r1), (0, .ref w), (1, .int p0), (2, .int p1), (3, .int v101_loc3), (4, .int v101_loc4)]) hx hb dX9_goOn_104 hl (Nat.le_of_ble_eq_true rfl) rfl (fun ls hl => ?_)
    refine lv_aload_n hx hb dX9_goOn_106 rfl (lv_at hl 1 rfl) ?_
    refine lv_aload_n hx hb dX9_goOn_107 rfl (lv_at hl 1 rfl) ?_
    refine va_get (D := (dC, dI)) (ci := 9) (v := .int (x_w 3)) (C := RX9) (T := TX9) (N := 10) hx hb hts hin9 hown hK hP 0 rfl rfl 5 (Nat.le_of_ble_eq_true rfl) hw_0 (fun _ h9 => h9) rfl dX9_goOn_108 ?_
    refine va_put (D := (dC, dI)) (ci := 9) (v := .int (x_w 3)) (ty := .int) (C := RX9) (T := TX9) (N := 10) hx hb hts hin9 tyX9 tyX9_ok nmX9 hown hK hP hD hS 0 rfl rfl 6 (by decide) hw_1 (fun _ h9 => h9) rfl (by decide +kernel) rfl rfl (Nat.le_of_ble_eq_true rfl) dX9_goOn_111 (fun H locs hPa hDa hS => ?_)
    clear hP hD
    have hP : va_P (dC, dI) vwCl [(w, .inr (9, oX9 on oc (upd x_w 4 (x_w 3)))), (n_kind, .inl (kI, 12, .inl f_n_kind)), (n_salt, .inl (kI, 12, .inl f_n_salt)), (n_to, .inl (kI, 20, .inl f_n_to)), (n_branches, .inl (kI, 36, .inl f_n_branches)), (oc, .inr (0, oX0 c_seen c_sent c_turn c_counter x_c)), (c_turn, .inl (kI, 12, .inl f_c_turn)), (on, .inr (2, oX2 n_kind n_salt n_pace n_manner n_from n_to n_goal n_reach n_branches n_branch n_tally x_n)), (n_branch, .inl (kI, 144, .inl f_n_branch))] H := hPa
    have hD : va_D A [(w, .inr (9, oX9 on oc (upd x_w 4 (x_w 3)))), (n_kind, .inl (kI, 12, .inl f_n_kind)), (n_salt, .inl (kI, 12, .inl f_n_salt)), (n_to, .inl (kI, 20, .inl f_n_to)), (n_branches, .inl (kI, 36, .inl f_n_branches)), (oc, .inr (0, oX0 c_seen c_sent c_turn c_counter x_c)), (c_turn, .inl (kI, 12, .inl f_c_turn)), (on, .inr (2, oX2 n_kind n_salt n_pace n_manner n_from n_to n_goal n_reach n_branches n_branch n_tally x_n)), (n_branch, .inl (kI, 144, .inl f_n_branch))] := hDa
    clear hPa hDa
    refine lv_aload_n hx hb dX9_goOn_114 rfl (lv_at hl 1 rfl) ?_
    refine lv_dup hx hb dX9_goOn_115 rfl ?_
    refine va_get (D := (dC, dI)) (ci := 9) (v := .int (x_w 5)) (C := RX9) (T := TX9) (N := 10) hx hb hts hin9 hown hK hP 0 rfl rfl 7 (Nat.le_of_ble_eq_true rfl) hw_2 (fun _ h9 => h9) rfl dX9_goOn_116 ?_
    refine lv_iconst (v := 1) hx hb dX9_goOn_119 ic_1 ?_
    refine lv_aload_n hx hb dX9_goOn_120 rfl (lv_at hl 1 rfl) ?_
    refine va_get (D := (dC, dI)) (ci := 9) (v := .int (x_w 2)) (C := RX9) (T := TX9) (N := 10) hx hb hts hin9 hown hK hP 0 rfl rfl 4 (Nat.le_of_ble_eq_true rfl) hw_3 (fun _ h9 => h9) rfl dX9_goOn_121 ?_
    refine lv_ishl hx hb dX9_goOn_124 ?_
    refine iv_top (a := 0) (b := 2048) (iv_shl1 11 h101_4 (by decide) (by decide) (by decide) (by decide)) (fun z3 b4 => ?_)
    refine lv_ior hx hb dX9_goOn_125 ?_
    refine lv_topi (fun z5 _ => ?_)
    refine va_put (D := (dC, dI)) (ci := 9) (v := .int z5) (ty := .int) (C := RX9) (T := TX9) (N := 10) hx hb hts hin9 tyX9 tyX9_ok nmX9 hown hK hP hD hS 0 rfl rfl 7 (by decide) hw_2 (fun _ h9 => h9) rfl (by decide +kernel) rfl rfl (Nat.le_of_ble_eq_true rfl) dX9_goOn_126 (fun H locs hPa hDa hS => ?_)
    clear hP hD
    have hP : va_P (dC, dI) vwCl [(w, .inr (9, oX9 on oc (upd (upd x_w 4 (x_w 3)) 5 z5))), (n_kind, .inl (kI, 12, .inl f_n_kind)), (n_salt, .inl (kI, 12, .inl f_n_salt)), (n_to, .inl (kI, 20, .inl f_n_to)), (n_branches, .inl (kI, 36, .inl f_n_branches)), (oc, .inr (0, oX0 c_seen c_sent c_turn c_counter x_c)), (c_turn, .inl (kI, 12, .inl f_c_turn)), (on, .inr (2, oX2 n_kind n_salt n_pace n_manner n_from n_to n_goal n_reach n_branches n_branch n_tally x_n)), (n_branch, .inl (kI, 144, .inl f_n_branch))] H := hPa
    have hD : va_D A [(w, .inr (9, oX9 on oc (upd (upd x_w 4 (x_w 3)) 5 z5))), (n_kind, .inl (kI, 12, .inl f_n_kind)), (n_salt, .inl (kI, 12, .inl f_n_salt)), (n_to, .inl (kI, 20, .inl f_n_to)), (n_branches, .inl (kI, 36, .inl f_n_branches)), (oc, .inr (0, oX0 c_seen c_sent c_turn c_counter x_c)), (c_turn, .inl (kI, 12, .inl f_c_turn)), (on, .inr (2, oX2 n_kind n_salt n_pace n_manner n_from n_to n_goal n_reach n_branches n_branch n_tally x_n)), (n_branch, .inl (kI, 144, .inl f_n_branch))] := hDa
    clear hPa hDa
    refine lv_aload_n hx hb dX9_goOn_129 rfl (lv_at hl 1 rfl) ?_
    refine lv_dup hx hb dX9_goOn_130 rfl ?_
    refine va_get (D := (dC, dI)) (ci := 9) (v := .int (x_w 6)) (C := RX9) (T := TX9) (N := 10) hx hb hts hin9 hown hK hP 0 rfl rfl 8 (Nat.le_of_ble_eq_true rfl) hw_4 (fun _ h9 => h9) rfl dX9_goOn_131 ?_
    refine lv_iconst (v := 1) hx hb dX9_goOn_134 ic_1 ?_
    refine lv_iload hx hb dX9_goOn_135 (lv_at hl 0 rfl) ?_
    refine lv_ishl hx hb dX9_goOn_137 ?_
    refine iv_top (a := 0) (b := 524288) (iv_shl1 19 w2 (by decide) (by decide) (by decide) (by decide)) (fun z6 b7 => ?_)
    refine lv_ior hx hb dX9_goOn_138 ?_
    refine lv_topi (fun z8 _ => ?_)
    refine va_put (D := (dC, dI)) (ci := 9) (v := .int z8) (ty := .int) (C := RX9) (T := TX9) (N := 10) hx hb hts hin9 tyX9 tyX9_ok nmX9 hown hK hP hD hS 0 rfl rfl 8 (by decide) hw_4 (fun _ h9 => h9) rfl (by decide +kernel) rfl rfl (Nat.le_of_ble_eq_true rfl) dX9_goOn_139 (fun H locs hPa hDa hS => ?_)
    clear hP hD
    have hP : va_P (dC, dI) vwCl [(w, .inr (9, oX9 on oc (upd (upd (upd x_w 4 (x_w 3)) 5 z5) 6 z8))), (n_kind, .inl (kI, 12, .inl f_n_kind)), (n_salt, .inl (kI, 12, .inl f_n_salt)), (n_to, .inl (kI, 20, .inl f_n_to)), (n_branches, .inl (kI, 36, .inl f_n_branches)), (oc, .inr (0, oX0 c_seen c_sent c_turn c_counter x_c)), (c_turn, .inl (kI, 12, .inl f_c_turn)), (on, .inr (2, oX2 n_kind n_salt n_pace n_manner n_from n_to n_goal n_reach n_branches n_branch n_tally x_n)), (n_branch, .inl (kI, 144, .inl f_n_branch))] H := hPa
    have hD : va_D A [(w, .inr (9, oX9 on oc (upd (upd (upd x_w 4 (x_w 3)) 5 z5) 6 z8))), (n_kind, .inl (kI, 12, .inl f_n_kind)), (n_salt, .inl (kI, 12, .inl f_n_salt)), (n_to, .inl (kI, 20, .inl f_n_to)), (n_branches, .inl (kI, 36, .inl f_n_branches)), (oc, .inr (0, oX0 c_seen c_sent c_turn c_counter x_c)), (c_turn, .inl (kI, 12, .inl f_c_turn)), (on, .inr (2, oX2 n_kind n_salt n_pace n_manner n_from n_to n_goal n_reach n_branches n_branch n_tally x_n)), (n_branch, .inl (kI, 144, .inl f_n_branch))] := hDa
    clear hPa hDa
    refine lv_aload_n hx hb dX9_goOn_142 rfl (lv_at hl 1 rfl) ?_
    refine lv_iload hx hb dX9_goOn_143 (lv_at hl 0 rfl) ?_
    refine lv_iconst (v := 1) hx hb dX9_goOn_145 ic_1 ?_
    refine lv_iadd hx hb dX9_goOn_146 ?_
    refine iv_top (a := 1) (b := 20) (iv_add w2 ivk_1 (by decide) (by decide) (by decide) (by decide)) (fun z9 b10 => ?_)
    refine va_put (D := (dC, dI)) (ci := 9) (v := .int z9) (ty := .int) (C := RX9) (T := TX9) (N := 10) hx hb hts hin9 tyX9 tyX9_ok nmX9 hown hK hP hD hS 0 rfl rfl 5 (by decide) hw_0 (fun _ h9 => h9) rfl (by decide +kernel) rfl rfl (Nat.le_of_ble_eq_true rfl) dX9_goOn_147 (fun H locs hPa hDa hS => ?_)
    clear hP hD
    have hP : va_P (dC, dI) vwCl [(w, .inr (9, oX9 on oc (upd (upd (upd (upd x_w 4 (x_w 3)) 5 z5) 6 z8) 3 z9))), (n_kind, .inl (kI, 12, .inl f_n_kind)), (n_salt, .inl (kI, 12, .inl f_n_salt)), (n_to, .inl (kI, 20, .inl f_n_to)), (n_branches, .inl (kI, 36, .inl f_n_branches)), (oc, .inr (0, oX0 c_seen c_sent c_turn c_counter x_c)), (c_turn, .inl (kI, 12, .inl f_c_turn)), (on, .inr (2, oX2 n_kind n_salt n_pace n_manner n_from n_to n_goal n_reach n_branches n_branch n_tally x_n)), (n_branch, .inl (kI, 144, .inl f_n_branch))] H := hPa
    have hD : va_D A [(w, .inr (9, oX9 on oc (upd (upd (upd (upd x_w 4 (x_w 3)) 5 z5) 6 z8) 3 z9))), (n_kind, .inl (kI, 12, .inl f_n_kind)), (n_salt, .inl (kI, 12, .inl f_n_salt)), (n_to, .inl (kI, 20, .inl f_n_to)), (n_branches, .inl (kI, 36, .inl f_n_branches)), (oc, .inr (0, oX0 c_seen c_sent c_turn c_counter x_c)), (c_turn, .inl (kI, 12, .inl f_c_turn)), (on, .inr (2, oX2 n_kind n_salt n_pace n_manner n_from n_to n_goal n_reach n_branches n_branch n_tally x_n)), (n_branch, .inl (kI, 144, .inl f_n_branch))] := hDa
    clear hPa hDa
    refine lv_aload_n hx hb dX9_goOn_150 rfl (lv_at hl 1 rfl) ?_
    refine lv_aload_n hx hb dX9_goOn_151 rfl (lv_at hl 1 rfl) ?_
    refine va_get (D := (dC, dI)) (ci := 9) (v := .ref on) (C := RX9) (T := TX9) (N := 10) hx hb hts hin9 hown hK hP 0 rfl rfl 0 (Nat.le_of_ble_eq_true rfl) hw_5 (fun _ h9 => h9) rfl dX9_goOn_152 ?_
    refine va_get (D := (dC, dI)) (ci := 2) (v := .ref n_to) (C := RX2) (T := TX2) (N := 15) hx hb hts hin2 hown hK hP 7 rfl rfl 5 (Nat.le_of_ble_eq_true rfl) hw_6 (fun _ h9 => h9) rfl dX9_goOn_155 ?_
    refine lv_iload hx hb dX9_goOn_158 (lv_at hl 0 rfl) ?_
    refine va_iald hx hb hK hP 3 1 rfl rfl (iv_in w2 (by decide) (by decide)) dX9_goOn_160 ?_
    refine iv_top (a := 0) (b := 11) (hf_n_to _) (fun z11 b12 => ?_)
    refine va_put (D := (dC, dI)) (ci := 9) (v := .int z11) (ty := .int) (C := RX9) (T := TX9) (N := 10) hx hb hts hin9 tyX9 tyX9_ok nmX9 hown hK hP hD hS 0 rfl rfl 4 (by decide) hw_3 (fun _ h9 => h9) rfl (by decide +kernel) rfl rfl (Nat.le_of_ble_eq_true rfl) dX9_goOn_161 (fun H locs hPa hDa hS => ?_)
    clear hP hD
    have hP : va_P (dC, dI) vwCl [(w, .inr (9, oX9 on oc (upd (upd (upd (upd (upd x_w 4 (x_w 3)) 5 z5) 6 z8) 3 z9) 2 z11))), (n_kind, .inl (kI, 12, .inl f_n_kind)), (n_salt, .inl (kI, 12, .inl f_n_salt)), (n_to, .inl (kI, 20, .inl f_n_to)), (n_branches, .inl (kI, 36, .inl f_n_branches)), (oc, .inr (0, oX0 c_seen c_sent c_turn c_counter x_c)), (c_turn, .inl (kI, 12, .inl f_c_turn)), (on, .inr (2, oX2 n_kind n_salt n_pace n_manner n_from n_to n_goal n_reach n_branches n_branch n_tally x_n)), (n_branch, .inl (kI, 144, .inl f_n_branch))] H := hPa
    have hD : va_D A [(w, .inr (9, oX9 on oc (upd (upd (upd (upd (upd x_w 4 (x_w 3)) 5 z5) 6 z8) 3 z9) 2 z11))), (n_kind, .inl (kI, 12, .inl f_n_kind)), (n_salt, .inl (kI, 12, .inl f_n_salt)), (n_to, .inl (kI, 20, .inl f_n_to)), (n_branches, .inl (kI, 36, .inl f_n_branches)), (oc, .inr (0, oX0 c_seen c_sent c_turn c_counter x_c)), (c_turn, .inl (kI, 12, .inl f_c_turn)), (on, .inr (2, oX2 n_kind n_salt n_pace n_manner n_from n_to n_goal n_reach n_branches n_branch n_tally x_n)), (n_branch, .inl (kI, 144, .inl f_n_branch))] := hDa
    clear hPa hDa
    have hPD9 := cl_s (wc := [(w, .inr (9, oX9 on oc (upd (upd (upd (upd (upd x_w 4 (x_w 3)) 5 z5) 6 z8) 3 z9) 2 z11))), (on, .inr (2, oX2 n_kind n_salt n_pace n_manner n_from n_to n_goal n_reach n_branches n_branch n_tally x_n)), (n_kind, .inl (kI, 12, .inl f_n_kind)), (n_salt, .inl (kI, 12, .inl f_n_salt)), (n_to, .inl (kI, 20, .inl f_n_to)), (n_branches, .inl (kI, 36, .inl f_n_branches)), (n_branch, .inl (kI, 144, .inl f_n_branch)), (oc, .inr (0, oX0 c_seen c_sent c_turn c_counter x_c)), (c_turn, .inl (kI, 12, .inl f_c_turn))]) hP hD [0, 7, 1, 2, 3, 4, 8, 5, 6] rfl (by decide +kernel)
    have hP9 := hPD9.1
    have hD9 := hPD9.2
    exact W.vret hx hb hr (fun t ht hW => ⟨⟨(), rfl, trivial, upd (upd (upd (upd (upd x_w 4 (x_w 3)) 5 z5) 6 z8) 3 z9) 2 z11, (fI_u (fI_u (fI_u (fI_u (fI_u hx_w (k := 4) ((iv_w (hx_w 3 : iv 0 20 (x_w 3)) (by decide) (by decide)))) (k := 5) ((iv_t z5))) (k := 6) ((iv_t z8))) (k := 3) ((iv_w b10 (by decide) (by decide)))) (k := 2) (b12)), (show x_w 0 = x_w 0 from rfl), by rw [ht]; exact hP9, hD9⟩, hS.F ht⟩) hS.2.2 dX9_goOn_164
  refine lv_aload_n hx hb dX9_goOn_0 rfl (lv_at hl 0 rfl) ?_
  refine va_get (D := (dC, dI)) (ci := 9) (v := .ref on) (C := RX9) (T := TX9) (N := 10) hx hb hts hin9 hown hK hP 0 rfl rfl 0 (Nat.le_of_ble_eq_true rfl) hw_5 (fun _ h9 => h9) rfl dX9_goOn_1 ?_
  refine lv_aload_n hx hb dX9_goOn_4 rfl (lv_at hl 0 rfl) ?_
  refine va_get (D := (dC, dI)) (ci := 9) (v := .int (x_w 2)) (C := RX9) (T := TX9) (N := 10) hx hb hts hin9 hown hK hP 0 rfl rfl 4 (Nat.le_of_ble_eq_true rfl) hw_3 (fun _ h9 => h9) rfl dX9_goOn_5 ?_
  refine lv_iload_n hx hb dX9_goOn_8 rfl (lv_at hl 2 rfl) ?_
  obtain ⟨hPc, hDc, hFc, hJn⟩ := cl_a (wc := [(on, .inr (2, oX2 n_kind n_salt n_pace n_manner n_from n_to n_goal n_reach n_branches n_branch n_tally x_n)), (n_branches, .inl (kI, 36, .inl f_n_branches))]) (wr := [(w, .inr (9, oX9 on oc x_w)), (n_kind, .inl (kI, 12, .inl f_n_kind)), (n_salt, .inl (kI, 12, .inl f_n_salt)), (n_to, .inl (kI, 20, .inl f_n_to)), (n_branch, .inl (kI, 144, .inl f_n_branch)), (oc, .inr (0, oX0 c_seen c_sent c_turn c_counter x_c)), (c_turn, .inl (kI, 12, .inl f_c_turn))]) hP hD hS hA [1, 5] [0, 2, 3, 4, 6, 7, 8] rfl rfl (by decide +kernel)
  refine va_calli (va_runV (As := [.int (x_w 2), .int p1]) (rest := []) ⟨hx, hb, hml, hown, hts⟩ (s2_branchesOf l dC dI kB kI kJ kZ kC kS s.heap.size on n_kind n_salt n_pace n_manner n_from n_to n_goal n_reach n_branches n_branch n_tally x_n f_n_branches (x_w 2) p1 (hx_n) (hf_n_branches) ((hx_w 2 : iv 0 11 (x_w 2))) (hp1)) (cwV 2 hts gX9_goOn_X2_branchesOf rfl rfl rfl (by decide +kernel) ⟨Nat.le_of_ble_eq_true rfl, Nat.le_of_ble_eq_true rfl⟩) ⟨fun a U g mk q => by obtain ⟨q0, q1, qP, qE, qD⟩ := q; exact ⟨q0, q1, qP, kE_call qE, qD⟩, va_recv hK hP (ci := 2) (q0 := 1) rfl rfl, fun U hU hW => ⟨rfl, by rw [hU], by rw [hU]; exact hPc, kE_warm hW hE, hDc.weaken (fun _ _ _ _ => trivial)⟩⟩ rfl rfl hl.1 rfl (lv_room (Nat.le_of_ble_eq_true rfl)) dX9_goOn_9 ⟨Nat.le_of_ble_eq_true rfl, Nat.le_of_ble_eq_true rfl⟩) hS (fun q _ h => hFc q h) hFc (fun r13 u t H locs ht hvm w14 hB hz1 hk1 hS => ?_)
  obtain ⟨hP1, hD1⟩ := hB
  try dsimp only at w14
  obtain ⟨hPa, hDa⟩ := hJn (w1 := [(on, .inr (2, oX2 n_kind n_salt n_pace n_manner n_from n_to n_goal n_reach n_branches n_branch n_tally x_n)), (n_branches, .inl (kI, 36, .inl f_n_branches))]) hk1 ht hP1 hD1
  clear hP hD hPc hDc hFc hJn hP1 hD1 hk1
  have hP : va_P (dC, dI) vwCl [(w, .inr (9, oX9 on oc x_w)), (n_kind, .inl (kI, 12, .inl f_n_kind)), (n_salt, .inl (kI, 12, .inl f_n_salt)), (n_to, .inl (kI, 20, .inl f_n_to)), (n_branch, .inl (kI, 144, .inl f_n_branch)), (oc, .inr (0, oX0 c_seen c_sent c_turn c_counter x_c)), (c_turn, .inl (kI, 12, .inl f_c_turn)), (on, .inr (2, oX2 n_kind n_salt n_pace n_manner n_from n_to n_goal n_reach n_branches n_branch n_tally x_n)), (n_branches, .inl (kI, 36, .inl f_n_branches))] H := hPa
  have hD : va_D A [(w, .inr (9, oX9 on oc x_w)), (n_kind, .inl (kI, 12, .inl f_n_kind)), (n_salt, .inl (kI, 12, .inl f_n_salt)), (n_to, .inl (kI, 20, .inl f_n_to)), (n_branch, .inl (kI, 144, .inl f_n_branch)), (oc, .inr (0, oX0 c_seen c_sent c_turn c_counter x_c)), (c_turn, .inl (kI, 12, .inl f_c_turn)), (on, .inr (2, oX2 n_kind n_salt n_pace n_manner n_from n_to n_goal n_reach n_branches n_branch n_tally x_n)), (n_branches, .inl (kI, 36, .inl f_n_branches))] := hDa
  clear hPa hDa
  refine W.widen (k := 0) (n := 0) (Nat.le_of_ble_eq_true rfl) (Nat.le_of_ble_eq_true rfl) ?_
  refine lv_istore_n (lv' := [(3, .int r13), (0, .ref w), (1, .int p0), (2, .int p1)]) hx hb dX9_goOn_12 rfl hl (Nat.le_of_ble_eq_true rfl) rfl (fun ls hl => ?_)
  refine lv_iload_n hx hb dX9_goOn_13 rfl (lv_at hl 0 rfl) ?_
  refine lv_if_gt (tgt := 28) hx hb dX9_goOn_14 rfl (fun c15 => ?_) (fun c15 => ?_)
  · have b16 : iv 1 4 r13 := iv_ltR c15 ivk_0 w14 (by decide) (by decide)
    refine lv_aload_n hx hb dX9_goOn_28 rfl (lv_at hl 1 rfl) ?_
    refine va_get (D := (dC, dI)) (ci := 9) (v := .ref on) (C := RX9) (T := TX9) (N := 10) hx hb hts hin9 hown hK hP 0 rfl rfl 0 (Nat.le_of_ble_eq_true rfl) hw_5 (fun _ h9 => h9) rfl dX9_goOn_29 ?_
    refine va_get (D := (dC, dI)) (ci := 2) (v := .ref n_kind) (C := RX2) (T := TX2) (N := 15) hx hb hts hin2 hown hK hP 7 rfl rfl 0 (Nat.le_of_ble_eq_true rfl) hw_7 (fun _ h9 => h9) rfl dX9_goOn_32 ?_
    refine lv_aload_n hx hb dX9_goOn_35 rfl (lv_at hl 1 rfl) ?_
    refine va_get (D := (dC, dI)) (ci := 9) (v := .int (x_w 2)) (C := RX9) (T := TX9) (N := 10) hx hb hts hin9 hown hK hP 0 rfl rfl 4 (Nat.le_of_ble_eq_true rfl) hw_3 (fun _ h9 => h9) rfl dX9_goOn_36 ?_
    refine va_iald hx hb hK hP 1 1 rfl rfl (iv_in (hx_w 2 : iv 0 11 (x_w 2)) (by decide) (by decide)) dX9_goOn_39 ?_
    refine lv_topi (fun z17 _ => ?_)
    refine lv_aload_n hx hb dX9_goOn_40 rfl (lv_at hl 1 rfl) ?_
    refine va_get (D := (dC, dI)) (ci := 9) (v := .ref on) (C := RX9) (T := TX9) (N := 10) hx hb hts hin9 hown hK hP 0 rfl rfl 0 (Nat.le_of_ble_eq_true rfl) hw_5 (fun _ h9 => h9) rfl dX9_goOn_41 ?_
    refine va_get (D := (dC, dI)) (ci := 2) (v := .ref n_salt) (C := RX2) (T := TX2) (N := 15) hx hb hts hin2 hown hK hP 7 rfl rfl 1 (Nat.le_of_ble_eq_true rfl) hw_8 (fun _ h9 => h9) rfl dX9_goOn_44 ?_
    refine lv_aload_n hx hb dX9_goOn_47 rfl (lv_at hl 1 rfl) ?_
    refine va_get (D := (dC, dI)) (ci := 9) (v := .int (x_w 2)) (C := RX9) (T := TX9) (N := 10) hx hb hts hin9 hown hK hP 0 rfl rfl 4 (Nat.le_of_ble_eq_true rfl) hw_3 (fun _ h9 => h9) rfl dX9_goOn_48 ?_
    refine va_iald hx hb hK hP 2 1 rfl rfl (iv_in (hx_w 2 : iv 0 11 (x_w 2)) (by decide) (by decide)) dX9_goOn_51 ?_
    refine iv_top (a := 0) (b := 15) (hf_n_salt _) (fun z18 b19 => ?_)
    refine lv_aload_n hx hb dX9_goOn_52 rfl (lv_at hl 1 rfl) ?_
    refine va_get (D := (dC, dI)) (ci := 9) (v := .ref oc) (C := RX9) (T := TX9) (N := 10) hx hb hts hin9 hown hK hP 0 rfl rfl 1 (Nat.le_of_ble_eq_true rfl) hw_9 (fun _ h9 => h9) rfl dX9_goOn_53 ?_
    refine va_get (D := (dC, dI)) (ci := 0) (v := .ref c_turn) (C := RX0) (T := TX0) (N := 10) hx hb hts hin0 hown hK hP 5 rfl rfl 2 (Nat.le_of_ble_eq_true rfl) hw_10 (fun _ h9 => h9) rfl dX9_goOn_56 ?_
    refine lv_aload_n hx hb dX9_goOn_59 rfl (lv_at hl 1 rfl) ?_
    refine va_get (D := (dC, dI)) (ci := 9) (v := .int (x_w 2)) (C := RX9) (T := TX9) (N := 10) hx hb hts hin9 hown hK hP 0 rfl rfl 4 (Nat.le_of_ble_eq_true rfl) hw_3 (fun _ h9 => h9) rfl dX9_goOn_60 ?_
    refine va_iald hx hb hK hP 6 1 rfl rfl (iv_in (hx_w 2 : iv 0 11 (x_w 2)) (by decide) (by decide)) dX9_goOn_63 ?_
    refine iv_top (a := 0) (b := 59) (hf_c_turn _) (fun z20 b21 => ?_)
    refine lv_iload_n hx hb dX9_goOn_64 rfl (lv_at hl 2 rfl) ?_
    refine lv_iload_n hx hb dX9_goOn_65 rfl (lv_at hl 3 rfl) ?_
    refine lv_iload_n hx hb dX9_goOn_66 rfl (lv_at hl 0 rfl) ?_
    obtain ⟨hPc, hDc, hFc, hJn⟩ := cl_a (wc := []) (wr := [(w, .inr (9, oX9 on oc x_w)), (n_kind, .inl (kI, 12, .inl f_n_kind)), (n_salt, .inl (kI, 12, .inl f_n_salt)), (n_to, .inl (kI, 20, .inl f_n_to)), (n_branch, .inl (kI, 144, .inl f_n_branch)), (oc, .inr (0, oX0 c_seen c_sent c_turn c_counter x_c)), (c_turn, .inl (kI, 12, .inl f_c_turn)), (on, .inr (2, oX2 n_kind n_salt n_pace n_manner n_from n_to n_goal n_reach n_branches n_branch n_tally x_n)), (n_branches, .inl (kI, 36, .inl f_n_branches))]) hP hD hS hA [] [0, 1, 2, 3, 4, 5, 6, 7, 8] rfl rfl (by decide +kernel)
    refine va_calli (va_runS (As := [.int z17, .int z18, .int z20, .int p0, .int p1, .int r13]) (rest := []) ⟨hx, hb, hml, hown, hts⟩ (s9_choiceBy l dC dI kB kI kJ kZ kC kS H.size z17 z18 z20 p0 p1 r13 (b19) (b21) (hp0) (hp1) ((iv_w b16 (by decide) (by decide)))) (va_cwS 6 hts gX9_goOn_X9_choiceBy rfl rfl rfl (by decide +kernel) ⟨Nat.le_of_ble_eq_true rfl, Nat.le_of_ble_eq_true rfl⟩) ⟨fun a U g mk q => by obtain ⟨q0, q1, qP, qE, qD⟩ := q; exact ⟨q0, q1, qP, kE_call qE, qD⟩, fun U hU hW => ⟨rfl, by rw [hU], by rw [hU]; exact hPc, kE_warm hW hE, hDc.weaken (fun _ _ _ _ => trivial)⟩⟩ rfl rfl hl.1 rfl (lv_room (Nat.le_of_ble_eq_true rfl)) dX9_goOn_67 ⟨Nat.le_of_ble_eq_true rfl, Nat.le_of_ble_eq_true rfl⟩) hS (fun q _ h => hFc q h) hFc (fun r22 u t H locs ht hvm w23 hB hz1 hk1 hS => ?_)
    obtain ⟨hP1, hD1⟩ := hB
    try dsimp only at w23
    obtain ⟨hPa, hDa⟩ := hJn (w1 := []) hk1 ht hP1 hD1
    clear hP hD hPc hDc hFc hJn hP1 hD1 hk1
    have hP : va_P (dC, dI) vwCl [(w, .inr (9, oX9 on oc x_w)), (n_kind, .inl (kI, 12, .inl f_n_kind)), (n_salt, .inl (kI, 12, .inl f_n_salt)), (n_to, .inl (kI, 20, .inl f_n_to)), (n_branch, .inl (kI, 144, .inl f_n_branch)), (oc, .inr (0, oX0 c_seen c_sent c_turn c_counter x_c)), (c_turn, .inl (kI, 12, .inl f_c_turn)), (on, .inr (2, oX2 n_kind n_salt n_pace n_manner n_from n_to n_goal n_reach n_branches n_branch n_tally x_n)), (n_branches, .inl (kI, 36, .inl f_n_branches))] H := hPa
    have hD : va_D A [(w, .inr (9, oX9 on oc x_w)), (n_kind, .inl (kI, 12, .inl f_n_kind)), (n_salt, .inl (kI, 12, .inl f_n_salt)), (n_to, .inl (kI, 20, .inl f_n_to)), (n_branch, .inl (kI, 144, .inl f_n_branch)), (oc, .inr (0, oX0 c_seen c_sent c_turn c_counter x_c)), (c_turn, .inl (kI, 12, .inl f_c_turn)), (on, .inr (2, oX2 n_kind n_salt n_pace n_manner n_from n_to n_goal n_reach n_branches n_branch n_tally x_n)), (n_branches, .inl (kI, 36, .inl f_n_branches))] := hDa
    clear hPa hDa
    refine W.widen (k := 0) (n := 0) (Nat.le_of_ble_eq_true rfl) (Nat.le_of_ble_eq_true rfl) ?_
    refine lv_istore (lv' := [(4, .int r22), (3, .int r13), (0, .ref w), (1, .int p0), (2, .int p1)]) hx hb dX9_goOn_70 hl (Nat.le_of_ble_eq_true rfl) rfl (fun ls hl => ?_)
    refine lv_aload_n hx hb dX9_goOn_72 rfl (lv_at hl 2 rfl) ?_
    refine va_get (D := (dC, dI)) (ci := 9) (v := .ref on) (C := RX9) (T := TX9) (N := 10) hx hb hts hin9 hown hK hP 0 rfl rfl 0 (Nat.le_of_ble_eq_true rfl) hw_5 (fun _ h9 => h9) rfl dX9_goOn_73 ?_
    refine lv_aload_n hx hb dX9_goOn_76 rfl (lv_at hl 2 rfl) ?_
    refine va_get (D := (dC, dI)) (ci := 9) (v := .int (x_w 2)) (C := RX9) (T := TX9) (N := 10) hx hb hts hin9 hown hK hP 0 rfl rfl 4 (Nat.le_of_ble_eq_true rfl) hw_3 (fun _ h9 => h9) rfl dX9_goOn_77 ?_
    refine lv_iload_n hx hb dX9_goOn_80 rfl (lv_at hl 4 rfl) ?_
    refine lv_aload_n hx hb dX9_goOn_81 rfl (lv_at hl 2 rfl) ?_
    refine va_get (D := (dC, dI)) (ci := 9) (v := .int (x_w 2)) (C := RX9) (T := TX9) (N := 10) hx hb hts hin9 hown hK hP 0 rfl rfl 4 (Nat.le_of_ble_eq_true rfl) hw_3 (fun _ h9 => h9) rfl dX9_goOn_82 ?_
    refine lv_aload_n hx hb dX9_goOn_85 rfl (lv_at hl 2 rfl) ?_
    refine va_get (D := (dC, dI)) (ci := 9) (v := .int (x_w 0)) (C := RX9) (T := TX9) (N := 10) hx hb hts hin9 hown hK hP 0 rfl rfl 2 (Nat.le_of_ble_eq_true rfl) hw_11 (fun _ h9 => h9) rfl dX9_goOn_86 ?_
    refine lv_icmp_ne (tgt := 99) hx hb dX9_goOn_89 rfl (fun c24 => ?_) (fun c24 => ?_)
    · refine lv_iload hx hb dX9_goOn_99 (lv_at hl 0 rfl) ?_
      have hPD9 := cl_s (wc := [(w, .inr (9, oX9 on oc x_w)), (on, .inr (2, oX2 n_kind n_salt n_pace n_manner n_from n_to n_goal n_reach n_branches n_branch n_tally x_n)), (n_kind, .inl (kI, 12, .inl f_n_kind)), (n_salt, .inl (kI, 12, .inl f_n_salt)), (n_to, .inl (kI, 20, .inl f_n_to)), (n_branches, .inl (kI, 36, .inl f_n_branches)), (n_branch, .inl (kI, 144, .inl f_n_branch)), (oc, .inr (0, oX0 c_seen c_sent c_turn c_counter x_c)), (c_turn, .inl (kI, 12, .inl f_c_turn))]) hP hD [0, 7, 1, 2, 3, 8, 4, 5, 6] rfl (by decide +kernel)
      exact hJ101 r13 r22 r22 _ _ _ (b16) (w23) (w23) ((hx_w 2 : iv 0 11 (x_w 2))) ((show x_w 0 = x_w 0 from rfl)) (hPD9.1) (hPD9.2) hS (lv_sub hl [2, 3, 4, 1, 0] rfl)
    · have b25 : iv 0 11 (x_w 0) := iv_eqR c24 (hx_w 2 : iv 0 11 (x_w 2))
      refine lv_aload_n hx hb dX9_goOn_92 rfl (lv_at hl 2 rfl) ?_
      refine va_get (D := (dC, dI)) (ci := 9) (v := .int (x_w 1)) (C := RX9) (T := TX9) (N := 10) hx hb hts hin9 hown hK hP 0 rfl rfl 3 (Nat.le_of_ble_eq_true rfl) hw_12 (fun _ h9 => h9) rfl dX9_goOn_93 ?_
      refine lv_goto (tgt := 101) hx hb dX9_goOn_96 rfl ?_
      have hPD9 := cl_s (wc := [(w, .inr (9, oX9 on oc x_w)), (on, .inr (2, oX2 n_kind n_salt n_pace n_manner n_from n_to n_goal n_reach n_branches n_branch n_tally x_n)), (n_kind, .inl (kI, 12, .inl f_n_kind)), (n_salt, .inl (kI, 12, .inl f_n_salt)), (n_to, .inl (kI, 20, .inl f_n_to)), (n_branches, .inl (kI, 36, .inl f_n_branches)), (n_branch, .inl (kI, 144, .inl f_n_branch)), (oc, .inr (0, oX0 c_seen c_sent c_turn c_counter x_c)), (c_turn, .inl (kI, 12, .inl f_c_turn))]) hP hD [0, 7, 1, 2, 3, 8, 4, 5, 6] rfl (by decide +kernel)
      exact hJ101 r13 r22 (x_w 1) _ _ _ (b16) (w23) ((hx_w 1 : iv 0 3 (x_w 1))) ((hx_w 2 : iv 0 11 (x_w 2))) ((show x_w 0 = x_w 0 from rfl)) (hPD9.1) (hPD9.2) hS (lv_sub hl [2, 3, 4, 1, 0] rfl)
  · have b26 : iv 0 0 r13 := iv_leL (Int32.not_lt.mp c15) w14 ivk_0 (by decide) (by decide)
    refine lv_aload_n hx hb dX9_goOn_17 rfl (lv_at hl 1 rfl) ?_
    refine lv_iconst (v := 1) hx hb dX9_goOn_18 ic_1 ?_
    refine va_put (D := (dC, dI)) (ci := 9) (v := .int 1) (ty := .boolean) (C := RX9) (T := TX9) (N := 10) hx hb hts hin9 tyX9 tyX9_ok nmX9 hown hK hP hD hS 0 rfl rfl 9 (by decide) hw_13 (fun _ h9 => h9) rfl (by decide +kernel) rfl rfl (Nat.le_of_ble_eq_true rfl) dX9_goOn_19 (fun H locs hPa hDa hS => ?_)
    clear hP hD
    have hP : va_P (dC, dI) vwCl [(w, .inr (9, oX9 on oc (upd x_w 7 1))), (n_kind, .inl (kI, 12, .inl f_n_kind)), (n_salt, .inl (kI, 12, .inl f_n_salt)), (n_to, .inl (kI, 20, .inl f_n_to)), (n_branch, .inl (kI, 144, .inl f_n_branch)), (oc, .inr (0, oX0 c_seen c_sent c_turn c_counter x_c)), (c_turn, .inl (kI, 12, .inl f_c_turn)), (on, .inr (2, oX2 n_kind n_salt n_pace n_manner n_from n_to n_goal n_reach n_branches n_branch n_tally x_n)), (n_branches, .inl (kI, 36, .inl f_n_branches))] H := hPa
    have hD : va_D A [(w, .inr (9, oX9 on oc (upd x_w 7 1))), (n_kind, .inl (kI, 12, .inl f_n_kind)), (n_salt, .inl (kI, 12, .inl f_n_salt)), (n_to, .inl (kI, 20, .inl f_n_to)), (n_branch, .inl (kI, 144, .inl f_n_branch)), (oc, .inr (0, oX0 c_seen c_sent c_turn c_counter x_c)), (c_turn, .inl (kI, 12, .inl f_c_turn)), (on, .inr (2, oX2 n_kind n_salt n_pace n_manner n_from n_to n_goal n_reach n_branches n_branch n_tally x_n)), (n_branches, .inl (kI, 36, .inl f_n_branches))] := hDa
    clear hPa hDa
    refine lv_aload_n hx hb dX9_goOn_22 rfl (lv_at hl 1 rfl) ?_
    refine lv_iconst (v := (-1)) hx hb dX9_goOn_23 ic_m1 ?_
    refine va_put (D := (dC, dI)) (ci := 9) (v := .int (-1)) (ty := .int) (C := RX9) (T := TX9) (N := 10) hx hb hts hin9 tyX9 tyX9_ok nmX9 hown hK hP hD hS 0 rfl rfl 6 (by decide) hw_1 (fun _ h9 => h9) rfl (by decide +kernel) rfl rfl (Nat.le_of_ble_eq_true rfl) dX9_goOn_24 (fun H locs hPa hDa hS => ?_)
    clear hP hD
    have hP : va_P (dC, dI) vwCl [(w, .inr (9, oX9 on oc (upd (upd x_w 7 1) 4 (-1)))), (n_kind, .inl (kI, 12, .inl f_n_kind)), (n_salt, .inl (kI, 12, .inl f_n_salt)), (n_to, .inl (kI, 20, .inl f_n_to)), (n_branch, .inl (kI, 144, .inl f_n_branch)), (oc, .inr (0, oX0 c_seen c_sent c_turn c_counter x_c)), (c_turn, .inl (kI, 12, .inl f_c_turn)), (on, .inr (2, oX2 n_kind n_salt n_pace n_manner n_from n_to n_goal n_reach n_branches n_branch n_tally x_n)), (n_branches, .inl (kI, 36, .inl f_n_branches))] H := hPa
    have hD : va_D A [(w, .inr (9, oX9 on oc (upd (upd x_w 7 1) 4 (-1)))), (n_kind, .inl (kI, 12, .inl f_n_kind)), (n_salt, .inl (kI, 12, .inl f_n_salt)), (n_to, .inl (kI, 20, .inl f_n_to)), (n_branch, .inl (kI, 144, .inl f_n_branch)), (oc, .inr (0, oX0 c_seen c_sent c_turn c_counter x_c)), (c_turn, .inl (kI, 12, .inl f_c_turn)), (on, .inr (2, oX2 n_kind n_salt n_pace n_manner n_from n_to n_goal n_reach n_branches n_branch n_tally x_n)), (n_branches, .inl (kI, 36, .inl f_n_branches))] := hDa
    clear hPa hDa
    have hPD9 := cl_s (wc := [(w, .inr (9, oX9 on oc (upd (upd x_w 7 1) 4 (-1)))), (on, .inr (2, oX2 n_kind n_salt n_pace n_manner n_from n_to n_goal n_reach n_branches n_branch n_tally x_n)), (n_kind, .inl (kI, 12, .inl f_n_kind)), (n_salt, .inl (kI, 12, .inl f_n_salt)), (n_to, .inl (kI, 20, .inl f_n_to)), (n_branches, .inl (kI, 36, .inl f_n_branches)), (n_branch, .inl (kI, 144, .inl f_n_branch)), (oc, .inr (0, oX0 c_seen c_sent c_turn c_counter x_c)), (c_turn, .inl (kI, 12, .inl f_c_turn))]) hP hD [0, 7, 1, 2, 3, 8, 4, 5, 6] rfl (by decide +kernel)
    have hP9 := hPD9.1
    have hD9 := hPD9.2
    exact W.vret hx hb hr (fun t ht hW => ⟨⟨(), rfl, trivial, upd (upd x_w 7 1) 4 (-1), (fI_u (fI_u hx_w (k := 7) ((iv_w ivk_1 (by decide) (by decide)))) (k := 4) ((iv_w ivk_m1 (by decide) (by decide)))), (show x_w 0 = x_w 0 from rfl), by rw [ht]; exact hP9, hD9⟩, hS.F ht⟩) hS.2.2 dX9_goOn_27
def rm_s9_take : Room := { frames := 2, cells := 0, slots := 0, locals := 50 }
set_option maxHeartbeats 4000000 in
set_option maxRecDepth 100000 in
theorem s9_take (l : Launch) (dC : Nat → ClassId) (dI : Nat → Nat → Nat) (kB kI kJ kZ kC kS : ClassId) (sz : Nat) (w : Nat) (on : Nat) (oc : Nat) (x_w : Nat → Int32) (n_kind : Nat) (n_salt : Nat) (n_pace : Nat) (n_manner : Nat) (n_from : Nat) (n_to : Nat) (n_goal : Nat) (n_reach : Nat) (n_branches : Nat) (n_branch : Nat) (n_tally : Nat) (x_n : Nat → Int32) (f_n_kind : Nat → Int32) (f_n_salt : Nat → Int32) (f_n_manner : Nat → Int32) (f_n_to : Nat → Int32) (f_n_goal : Nat → Int32) (f_n_branches : Nat → Int32) (f_n_branch : Nat → Int32) (c_seen : Nat) (c_sent : Nat) (c_turn : Nat) (c_counter : Nat) (x_c : Nat → Int32) (f_c_turn : Nat → Int32) (p0 : Int32) (p1 : Int32) (p2 : Int32) (hx_w : fI lX9 hX9 x_w) (hx_n : fI lX2 hX2 x_n) (hf_n_salt : fI (fun _ => 0) (fun _ => 15) f_n_salt) (hf_n_to : fI (fun _ => 0) (fun _ => 11) f_n_to) (hf_n_goal : fI (fun _ => 0) (fun _ => 11) f_n_goal) (hf_n_branches : fI (fun _ => 0) (fun _ => 4) f_n_branches) (hf_n_branch : fI (fun _ => 0) (fun _ => 19) f_n_branch) (hf_c_turn : fI (fun _ => 0) (fun _ => 59) f_c_turn) (hp0 : iv 0 31 p0) (hp1 : iv 0 2 p1) : Met l yX9_take wsX9_take rm_s9_take (va_Pc [.ref w, .int p0, .int p1, .int p2] (fun U => U.heap.size = sz ∧ va_P (dC, dI) vwCl [(w, .inr (9, oX9 on oc x_w)), (on, .inr (2, oX2 n_kind n_salt n_pace n_manner n_from n_to n_goal n_reach n_branches n_branch n_tally x_n)), (n_kind, .inl (kI, 12, .inl f_n_kind)), (n_salt, .inl (kI, 12, .inl f_n_salt)), (n_manner, .inl (kI, 12, .inl f_n_manner)), (n_to, .inl (kI, 20, .inl f_n_to)), (n_goal, .inl (kI, 3, .inl f_n_goal)), (n_branches, .inl (kI, 36, .inl f_n_branches)), (n_branch, .inl (kI, 144, .inl f_n_branch)), (oc, .inr (0, oX0 c_seen c_sent c_turn c_counter x_c)), (c_turn, .inl (kI, 12, .inl f_c_turn))] U.heap ∧ kE dC dI kB kI kJ kZ kC kS U ∧ va_D (fun _ => True) [(w, .inr (9, oX9 on oc x_w)), (on, .inr (2, oX2 n_kind n_salt n_pace n_manner n_from n_to n_goal n_reach n_branches n_branch n_tally x_n)), (n_kind, .inl (kI, 12, .inl f_n_kind)), (n_salt, .inl (kI, 12, .inl f_n_salt)), (n_manner, .inl (kI, 12, .inl f_n_manner)), (n_to, .inl (kI, 20, .inl f_n_to)), (n_goal, .inl (kI, 3, .inl f_n_goal)), (n_branches, .inl (kI, 36, .inl f_n_branches)), (n_branch, .inl (kI, 144, .inl f_n_branch)), (oc, .inr (0, oX0 c_seen c_sent c_turn c_counter x_c)), (c_turn, .inl (kI, 12, .inl f_c_turn))])) (va_Qv (fun (_ : Unit) => True) (fun _ t => ∃ (x_w' : Nat → Int32), fI lX9 hX9 x_w' ∧ (x_w' 0 = x_w 0) ∧ va_P (dC, dI) vwCl [(w, .inr (9, oX9 on oc x_w')), (on, .inr (2, oX2 n_kind n_salt n_pace n_manner n_from n_to n_goal n_reach n_branches n_branch n_tally x_n)), (n_kind, .inl (kI, 12, .inl f_n_kind)), (n_salt, .inl (kI, 12, .inl f_n_salt)), (n_manner, .inl (kI, 12, .inl f_n_manner)), (n_to, .inl (kI, 20, .inl f_n_to)), (n_goal, .inl (kI, 3, .inl f_n_goal)), (n_branches, .inl (kI, 36, .inl f_n_branches)), (n_branch, .inl (kI, 144, .inl f_n_branch)), (oc, .inr (0, oX0 c_seen c_sent c_turn c_counter x_c)), (c_turn, .inl (kI, 12, .inl f_c_turn))] t.heap ∧ va_D (va_A [(w, .inr (9, oX9 on oc x_w)), (on, .inr (2, oX2 n_kind n_salt n_pace n_manner n_from n_to n_goal n_reach n_branches n_branch n_tally x_n)), (n_kind, .inl (kI, 12, .inl f_n_kind)), (n_salt, .inl (kI, 12, .inl f_n_salt)), (n_manner, .inl (kI, 12, .inl f_n_manner)), (n_to, .inl (kI, 20, .inl f_n_to)), (n_goal, .inl (kI, 3, .inl f_n_goal)), (n_branches, .inl (kI, 36, .inl f_n_branches)), (n_branch, .inl (kI, 144, .inl f_n_branch)), (oc, .inr (0, oX0 c_seen c_sent c_turn c_counter x_c)), (c_turn, .inl (kI, 12, .inl f_c_turn))] sz) [(w, .inr (9, oX9 on oc x_w')), (on, .inr (2, oX2 n_kind n_salt n_pace n_manner n_from n_to n_goal n_reach n_branches n_branch n_tally x_n)), (n_kind, .inl (kI, 12, .inl f_n_kind)), (n_salt, .inl (kI, 12, .inl f_n_salt)), (n_manner, .inl (kI, 12, .inl f_n_manner)), (n_to, .inl (kI, 20, .inl f_n_to)), (n_goal, .inl (kI, 3, .inl f_n_goal)), (n_branches, .inl (kI, 36, .inl f_n_branches)), (n_branch, .inl (kI, 144, .inl f_n_branch)), (oc, .inr (0, oX0 c_seen c_sent c_turn c_counter x_c)), (c_turn, .inl (kI, 12, .inl f_c_turn))]) (va_A [(w, .inr (9, oX9 on oc x_w)), (on, .inr (2, oX2 n_kind n_salt n_pace n_manner n_from n_to n_goal n_reach n_branches n_branch n_tally x_n)), (n_kind, .inl (kI, 12, .inl f_n_kind)), (n_salt, .inl (kI, 12, .inl f_n_salt)), (n_manner, .inl (kI, 12, .inl f_n_manner)), (n_to, .inl (kI, 20, .inl f_n_to)), (n_goal, .inl (kI, 3, .inl f_n_goal)), (n_branches, .inl (kI, 36, .inl f_n_branches)), (n_branch, .inl (kI, 144, .inl f_n_branch)), (oc, .inr (0, oX0 c_seen c_sent c_turn c_counter x_c)), (c_turn, .inl (kI, 12, .inl f_c_turn))] sz)) 0 0 (va_A [(w, .inr (9, oX9 on oc x_w)), (on, .inr (2, oX2 n_kind n_salt n_pace n_manner n_from n_to n_goal n_reach n_branches n_branch n_tally x_n)), (n_kind, .inl (kI, 12, .inl f_n_kind)), (n_salt, .inl (kI, 12, .inl f_n_salt)), (n_manner, .inl (kI, 12, .inl f_n_manner)), (n_to, .inl (kI, 20, .inl f_n_to)), (n_goal, .inl (kI, 3, .inl f_n_goal)), (n_branches, .inl (kI, 36, .inl f_n_branches)), (n_branch, .inl (kI, 144, .inl f_n_branch)), (oc, .inr (0, oX0 c_seen c_sent c_turn c_counter x_c)), (c_turn, .inl (kI, 12, .inl f_c_turn))] sz) := by
  refine Met.ofW (cc := cX9_take) (maxL := 6) (ret := none) (by decide) rfl ?_
  intro p e s m args0 below meth c s₁ B hml hv
  obtain ⟨hargs, hsz, hP, hE, hD0⟩ := hv
  have hx := B.exec
  have hb := B.bytes
  have hr := B.returns
  have hts := atoms_spec (ws := wsX9_take) B.pre
  have hown : s.vm.findClass RX9 = some m.cls := findClass_of_methodNamed B.named
  have hlocks := B.notSynchronized
  have hK := hE.1
  have hin9 : ∀ w ∈ wsX90, w ∈ wsX9_take := fun _ h9 => List.mem_cons_of_mem _ (List.mem_append_left _ (List.mem_append_left _ (List.mem_append_right _ h9)))
  have hin2 : ∀ w ∈ wsX20, w ∈ wsX9_take := fun _ h9 => List.mem_cons_of_mem _ (List.mem_append_left _ (List.mem_append_right _ h9))
  have hin0 : ∀ w ∈ wsX00, w ∈ wsX9_take := fun _ h9 => List.mem_cons_of_mem _ (List.mem_append_right _ h9)
  have hw_0 := hts (.fieldLink RX9 33 "PathProber$Walk" "lost" "Z") (List.mem_of_getElem? (i := 6) rfl)
  have hw_1 := hts (.fieldLink RX9 18 "PathProber$Walk" "router" "I") (List.mem_of_getElem? (i := 1) rfl)
  have hw_2 := hts (.fieldLink RX9 37 "PathProber$Walk" "net" "LPathProber$Net;") (List.mem_of_getElem? (i := 7) rfl)
  have hw_3 := hts (.fieldLink RX9 49 "PathProber$Net" "goal" "[I") (List.mem_of_getElem? (i := 8) rfl)
  have hw_4 := hts (.fieldLink RX9 55 "PathProber$Net" "manner" "[I") (List.mem_of_getElem? (i := 9) rfl)
  have hw_5 := hts (.fieldLink RX9 21 "PathProber$Walk" "address" "I") (List.mem_of_getElem? (i := 2) rfl)
  have hw_6 := hts (.fieldLink RX9 24 "PathProber$Walk" "ahead" "I") (List.mem_of_getElem? (i := 3) rfl)
  have hw_7 := hts (.fieldLink RX9 27 "PathProber$Walk" "left" "I") (List.mem_of_getElem? (i := 4) rfl)
  have hw_8 := hts (.fieldLink RX9 30 "PathProber$Walk" "links" "I") (List.mem_of_getElem? (i := 5) rfl)
  subst hsz
  have hD := hD0.self (sz := s.heap.size)
  generalize hAe : va_A [(w, .inr (9, oX9 on oc x_w)), (on, .inr (2, oX2 n_kind n_salt n_pace n_manner n_from n_to n_goal n_reach n_branches n_branch n_tally x_n)), (n_kind, .inl (kI, 12, .inl f_n_kind)), (n_salt, .inl (kI, 12, .inl f_n_salt)), (n_manner, .inl (kI, 12, .inl f_n_manner)), (n_to, .inl (kI, 20, .inl f_n_to)), (n_goal, .inl (kI, 3, .inl f_n_goal)), (n_branches, .inl (kI, 36, .inl f_n_branches)), (n_branch, .inl (kI, 144, .inl f_n_branch)), (oc, .inr (0, oX0 c_seen c_sent c_turn c_counter x_c)), (c_turn, .inl (kI, 12, .inl f_c_turn))] s.heap.size = A at hD ⊢
  have hA : ∀ q : Nat, s.heap.size ≤ q → A q := fun q h => by rw [← hAe]; exact Or.inr h
  have hS : va_S A s.heap s.heap [] := va_S.rf
  have hP : va_P (dC, dI) vwCl [(w, .inr (9, oX9 on oc x_w)), (on, .inr (2, oX2 n_kind n_salt n_pace n_manner n_from n_to n_goal n_reach n_branches n_branch n_tally x_n)), (n_kind, .inl (kI, 12, .inl f_n_kind)), (n_salt, .inl (kI, 12, .inl f_n_salt)), (n_manner, .inl (kI, 12, .inl f_n_manner)), (n_to, .inl (kI, 20, .inl f_n_to)), (n_goal, .inl (kI, 3, .inl f_n_goal)), (n_branches, .inl (kI, 36, .inl f_n_branches)), (n_branch, .inl (kI, 144, .inl f_n_branch)), (oc, .inr (0, oX0 c_seen c_sent c_turn c_counter x_c)), (c_turn, .inl (kI, 12, .inl f_c_turn))] s.heap := hP
  have hl := lv_entry ([.ref w, .int p0, .int p1, .int p2]) (n := 6) (Nat.le_of_ble_eq_true rfl)
  have hla : entryFrame m args0 6 = entryFrame m ([.ref w, .int p0, .int p1, .int p2] : List Value).toArray 6 := by rw [hargs]
  rw [hla, lg_entry_eq]
  generalize (lg_sl ([.ref w, .int p0, .int p1, .int p2]) ++ List.replicate (6 - (lg_sl ([.ref w, .int p0, .int p1, .int p2])).length) Slot.unset).toArray = ls at hl ⊢
  have hl : lv_has ls 6 [(0, .ref w), (1, .int p0), (2, .int p1), (3, .int p2)] := hl
  have hJ36 : ∀ (n : Nat) (y36_0 : Nat → Int32) (v36_loc4 : Int32) (v36_loc5 : Int32) (H : Heap) (locs : List Loc) (ls : Array Slot), (v36_loc4.toInt - (-2147483648)).toNat < n → fI lX9 hX9 y36_0 → iv 0 12 v36_loc5 → iv 0 0 (y36_0 7) → (y36_0 0 = x_w 0) → va_P (dC, dI) vwCl [(w, .inr (9, oX9 on oc y36_0)), (on, .inr (2, oX2 n_kind n_salt n_pace n_manner n_from n_to n_goal n_reach n_branches n_branch n_tally x_n)), (n_kind, .inl (kI, 12, .inl f_n_kind)), (n_salt, .inl (kI, 12, .inl f_n_salt)), (n_manner, .inl (kI, 12, .inl f_n_manner)), (n_to, .inl (kI, 20, .inl f_n_to)), (n_goal, .inl (kI, 3, .inl f_n_goal)), (n_branches, .inl (kI, 36, .inl f_n_branches)), (n_branch, .inl (kI, 144, .inl f_n_branch)), (oc, .inr (0, oX0 c_seen c_sent c_turn c_counter x_c)), (c_turn, .inl (kI, 12, .inl f_c_turn))] H → va_D A [(w, .inr (9, oX9 on oc y36_0)), (on, .inr (2, oX2 n_kind n_salt n_pace n_manner n_from n_to n_goal n_reach n_branches n_branch n_tally x_n)), (n_kind, .inl (kI, 12, .inl f_n_kind)), (n_salt, .inl (kI, 12, .inl f_n_salt)), (n_manner, .inl (kI, 12, .inl f_n_manner)), (n_to, .inl (kI, 20, .inl f_n_to)), (n_goal, .inl (kI, 3, .inl f_n_goal)), (n_branches, .inl (kI, 36, .inl f_n_branches)), (n_branch, .inl (kI, 144, .inl f_n_branch)), (oc, .inr (0, oX0 c_seen c_sent c_turn c_counter x_c)), (c_turn, .inl (kI, 12, .inl f_c_turn))] → va_S A s.heap H locs → lv_has ls 6 [(0, .ref w), (1, .int p0), (2, .int p1), (3, .int p2), (4, .int v36_loc4), (5, .int v36_loc5)] → W p l e (headSpec wsX9_take rm_s9_take).room s m args0 below meth c H locs (0) (0) (MQ below (va_Qv (fun (_ : Unit) => True) (fun _ t => ∃ (x_w' : Nat → Int32), fI lX9 hX9 x_w' ∧ (x_w' 0 = x_w 0) ∧ va_P (dC, dI) vwCl [(w, .inr (9, oX9 on oc x_w')), (on, .inr (2, oX2 n_kind n_salt n_pace n_manner n_from n_to n_goal n_reach n_branches n_branch n_tally x_n)), (n_kind, .inl (kI, 12, .inl f_n_kind)), (n_salt, .inl (kI, 12, .inl f_n_salt)), (n_manner, .inl (kI, 12, .inl f_n_manner)), (n_to, .inl (kI, 20, .inl f_n_to)), (n_goal, .inl (kI, 3, .inl f_n_goal)), (n_branches, .inl (kI, 36, .inl f_n_branches)), (n_branch, .inl (kI, 144, .inl f_n_branch)), (oc, .inr (0, oX0 c_seen c_sent c_turn c_counter x_c)), (c_turn, .inl (kI, 12, .inl f_c_turn))] t.heap ∧ va_D A [(w, .inr (9, oX9 on oc x_w')), (on, .inr (2, oX2 n_kind n_salt n_pace n_manner n_from n_to n_goal n_reach n_branches n_branch n_tally x_n)), (n_kind, .inl (kI, 12, .inl f_n_kind)), (n_salt, .inl (kI, 12, .inl f_n_salt)), (n_manner, .inl (kI, 12, .inl f_n_manner)), (n_to, .inl (kI, 20, .inl f_n_to)), (n_goal, .inl (kI, 3, .inl f_n_goal)), (n_branches, .inl (kI, 36, .inl f_n_branches)), (n_branch, .inl (kI, 144, .inl f_n_branch)), (oc, .inr (0, oX0 c_seen c_sent c_turn c_counter x_c)), (c_turn, .inl (kI, 12, .inl f_c_turn))]) A) args0 s 0 0 A) (F0 m 36 ls []) := by
    intro n
    induction n with
    | zero => intro y36_0 v36_loc4 v36_loc5 H locs ls hm36; exact absurd hm36 (Nat.not_lt_zero _)
    | succ n ih36 =>
      intro y36_0 v36_loc4 v36_loc5 H locs ls hm36 hI36_0 h36_2 h36_3 hsw9_36 hP hD hS hl
      have hJ90 : ∀ (H : Heap) (locs : List Loc) (ls : Array Slot), iv 0 2147483646 (v36_loc4 + Int32.ofInt (-1)) → iv 0 11 v36_loc5 → iv 1 2147483647 v36_loc4 → (y36_0 0 = x_w 0) → va_P (dC, dI) vwCl [(w, .inr (9, oX9 on oc y36_0)), (on, .inr (2, oX2 n_kind n_salt n_pace n_manner n_from n_to n_goal n_reach n_branches n_branch n_tally x_n)), (n_kind, .inl (kI, 12, .inl f_n_kind)), (n_salt, .inl (kI, 12, .inl f_n_salt)), (n_manner, .inl (kI, 12, .inl f_n_manner)), (n_to, .inl (kI, 20, .inl f_n_to)), (n_goal, .inl (kI, 3, .inl f_n_goal)), (n_branches, .inl (kI, 36, .inl f_n_branches)), (n_branch, .inl (kI, 144, .inl f_n_branch)), (oc, .inr (0, oX0 c_seen c_sent c_turn c_counter x_c)), (c_turn, .inl (kI, 12, .inl f_c_turn))] H → va_D A [(w, .inr (9, oX9 on oc y36_0)), (on, .inr (2, oX2 n_kind n_salt n_pace n_manner n_from n_to n_goal n_reach n_branches n_branch n_tally x_n)), (n_kind, .inl (kI, 12, .inl f_n_kind)), (n_salt, .inl (kI, 12, .inl f_n_salt)), (n_manner, .inl (kI, 12, .inl f_n_manner)), (n_to, .inl (kI, 20, .inl f_n_to)), (n_goal, .inl (kI, 3, .inl f_n_goal)), (n_branches, .inl (kI, 36, .inl f_n_branches)), (n_branch, .inl (kI, 144, .inl f_n_branch)), (oc, .inr (0, oX0 c_seen c_sent c_turn c_counter x_c)), (c_turn, .inl (kI, 12, .inl f_c_turn))] → va_S A s.heap H locs → lv_has ls 6 [(0, .ref w), (1, .int p0), (2, .int p1), (3, .int p2), (4, .int (v36_loc4 + Int32.ofInt (-1))), (5, .int v36_loc5)] → W p l e (headSpec wsX9_take rm_s9_take).room s m args0 below meth c H locs (0) (0) (MQ below (va_Qv (fun (_ : Unit) => True) (fun _ t => ∃ (x_w' : Nat → Int32), fI lX9 hX9 x_w' ∧ (x_w' 0 = x_w 0) ∧ va_P (dC, dI) vwCl [(w, .inr (9, oX9 on oc x_w')), (on, .inr (2, oX2 n_kind n_salt n_pace n_manner n_from n_to n_goal n_reach n_branches n_branch n_tally x_n)), (n_kind, .inl (kI, 12, .inl f_n_kind)), (n_salt, .inl (kI, 12, .inl f_n_salt)), (n_manner, .inl (kI, 12, .inl f_n_manner)), (n_to, .inl (kI, 20, .inl f_n_to)), (n_goal, .inl (kI, 3, .inl f_n_goal)), (n_branches, .inl (kI, 36, .inl f_n_branches)), (n_branch, .inl (kI, 144, .inl f_n_branch)), (oc, .inr (0, oX0 c_seen c_sent c_turn c_counter x_c)), (c_turn, .inl (kI, 12, .inl f_c_turn))] t.heap ∧ va_D A [(w, .inr (9, oX9 on oc x_w')), (on, .inr (2, oX2 n_kind n_salt n_pace n_manner n_from n_to n_goal n_reach n_branches n_branch n_tally x_n)), (n_kind, .inl (kI, 12, .inl f_n_kind)), (n_salt, .inl (kI, 12, .inl f_n_salt)), (n_manner, .inl (kI, 12, .inl f_n_manner)), (n_to, .inl (kI, 20, .inl f_n_to)), (n_goal, .inl (kI, 3, .inl f_n_goal)), (n_branches, .inl (kI, 36, .inl f_n_branches)), (n_branch, .inl (kI, 144, .inl f_n_branch)), (oc, .inr (0, oX0 c_seen c_sent c_turn c_counter x_c)), (c_turn, .inl (kI, 12, .inl f_c_turn))]) A) args0 s 0 0 A) (F0 m 90 ls []) := by
        intro H locs ls h90_1 h90_2 h90_3 hsw9_90 hP hD hS hl
        refine lv_aload_n hx hb dX9_take_90 rfl (lv_at hl 0 rfl) ?_
        refine lv_iload_n hx hb dX9_take_91 rfl (lv_at hl 1 rfl) ?_
        refine lv_iload_n hx hb dX9_take_92 rfl (lv_at hl 2 rfl) ?_
        obtain ⟨hPc, hDc, hFc, hJn⟩ := cl_a (wc := [(w, .inr (9, oX9 on oc y36_0)), (on, .inr (2, oX2 n_kind n_salt n_pace n_manner n_from n_to n_goal n_reach n_branches n_branch n_tally x_n)), (n_kind, .inl (kI, 12, .inl f_n_kind)), (n_salt, .inl (kI, 12, .inl f_n_salt)), (n_to, .inl (kI, 20, .inl f_n_to)), (n_branches, .inl (kI, 36, .inl f_n_branches)), (n_branch, .inl (kI, 144, .inl f_n_branch)), (oc, .inr (0, oX0 c_seen c_sent c_turn c_counter x_c)), (c_turn, .inl (kI, 12, .inl f_c_turn))]) (wr := [(n_manner, .inl (kI, 12, .inl f_n_manner)), (n_goal, .inl (kI, 3, .inl f_n_goal))]) hP hD hS hA [0, 1, 2, 3, 5, 7, 8, 9, 10] [4, 6] rfl rfl (by decide +kernel)
        refine va_callv (va_runV (As := [.int p0, .int p1]) (rest := []) ⟨hx, hb, hml, hown, hts⟩ (s9_goOn l dC dI kB kI kJ kZ kC kS H.size w on oc y36_0 n_kind n_salt n_pace n_manner n_from n_to n_goal n_reach n_branches n_branch n_tally x_n f_n_kind f_n_salt f_n_to f_n_branches f_n_branch c_seen c_sent c_turn c_counter x_c f_c_turn p0 p1 (hI36_0) (hx_n) (hf_n_salt) (hf_n_to) (hf_n_branches) (hf_n_branch) (hf_c_turn) (hp0) (hp1)) (cwV 2 hts gX9_take_X9_goOn rfl rfl rfl (by decide +kernel) ⟨Nat.le_of_ble_eq_true rfl, Nat.le_of_ble_eq_true rfl⟩) ⟨fun a U g mk q => by obtain ⟨q0, q1, qP, qE, qD⟩ := q; exact ⟨q0, q1, qP, kE_call qE, qD⟩, va_recv hK hP (ci := 9) (q0 := 0) rfl rfl, fun U hU hW => ⟨rfl, by rw [hU], by rw [hU]; exact hPc, kE_warm hW hE, hDc.weaken (fun _ _ _ _ => trivial)⟩⟩ rfl rfl hl.1 rfl (lv_room (Nat.le_of_ble_eq_true rfl)) dX9_take_93 ⟨Nat.le_of_ble_eq_true rfl, Nat.le_of_ble_eq_true rfl⟩) hS (fun q _ h => hFc q h) hFc (fun u t H locs ht hvm w2 hB hz1 hk1 hS => ?_)
        obtain ⟨y3, hq4, hq5, hP1, hD1⟩ := hB
        try dsimp only at w2
        obtain ⟨hPa, hDa⟩ := hJn (w1 := [(w, .inr (9, oX9 on oc y3)), (on, .inr (2, oX2 n_kind n_salt n_pace n_manner n_from n_to n_goal n_reach n_branches n_branch n_tally x_n)), (n_kind, .inl (kI, 12, .inl f_n_kind)), (n_salt, .inl (kI, 12, .inl f_n_salt)), (n_to, .inl (kI, 20, .inl f_n_to)), (n_branches, .inl (kI, 36, .inl f_n_branches)), (n_branch, .inl (kI, 144, .inl f_n_branch)), (oc, .inr (0, oX0 c_seen c_sent c_turn c_counter x_c)), (c_turn, .inl (kI, 12, .inl f_c_turn))]) hk1 ht hP1 hD1
        clear hP hD hPc hDc hFc hJn hP1 hD1 hk1
        have hP : va_P (dC, dI) vwCl [(n_manner, .inl (kI, 12, .inl f_n_manner)), (n_goal, .inl (kI, 3, .inl f_n_goal)), (w, .inr (9, oX9 on oc y3)), (on, .inr (2, oX2 n_kind n_salt n_pace n_manner n_from n_to n_goal n_reach n_branches n_branch n_tally x_n)), (n_kind, .inl (kI, 12, .inl f_n_kind)), (n_salt, .inl (kI, 12, .inl f_n_salt)), (n_to, .inl (kI, 20, .inl f_n_to)), (n_branches, .inl (kI, 36, .inl f_n_branches)), (n_branch, .inl (kI, 144, .inl f_n_branch)), (oc, .inr (0, oX0 c_seen c_sent c_turn c_counter x_c)), (c_turn, .inl (kI, 12, .inl f_c_turn))] H := hPa
        have hD : va_D A [(n_manner, .inl (kI, 12, .inl f_n_manner)), (n_goal, .inl (kI, 3, .inl f_n_goal)), (w, .inr (9, oX9 on oc y3)), (on, .inr (2, oX2 n_kind n_salt n_pace n_manner n_from n_to n_goal n_reach n_branches n_branch n_tally x_n)), (n_kind, .inl (kI, 12, .inl f_n_kind)), (n_salt, .inl (kI, 12, .inl f_n_salt)), (n_to, .inl (kI, 20, .inl f_n_to)), (n_branches, .inl (kI, 36, .inl f_n_branches)), (n_branch, .inl (kI, 144, .inl f_n_branch)), (oc, .inr (0, oX0 c_seen c_sent c_turn c_counter x_c)), (c_turn, .inl (kI, 12, .inl f_c_turn))] := hDa
        clear hPa hDa
        refine W.widen (k := 0) (n := 0) (Nat.le_of_ble_eq_true rfl) (Nat.le_of_ble_eq_true rfl) ?_
        refine lv_aload_n hx hb dX9_take_96 rfl (lv_at hl 0 rfl) ?_
        refine va_get (D := (dC, dI)) (ci := 9) (v := .int (y3 7)) (C := RX9) (T := TX9) (N := 10) hx hb hts hin9 hown hK hP 2 rfl rfl 9 (Nat.le_of_ble_eq_true rfl) hw_0 (fun _ h9 => h9) rfl dX9_take_97 ?_
        refine lv_if_eq (tgt := 104) hx hb dX9_take_100 rfl (fun c6 => ?_) (fun c6 => ?_)
        · have b7 : iv 0 0 (y3 7) := iv_eqL c6 ivk_0
          refine lv_iinc (v := v36_loc5 + Int32.ofInt 1) (lv' := [(5, .int (v36_loc5 + Int32.ofInt 1)), (0, .ref w), (1, .int p0), (2, .int p1), (3, .int p2), (4, .int (v36_loc4 + Int32.ofInt (-1)))]) hx hb dX9_take_104 hl (k := 5) rfl (rfl) (Nat.le_of_ble_eq_true rfl) rfl (fun ls hl => ?_)
          have b8 : iv 1 12 (v36_loc5 + Int32.ofInt 1) := iv_add h90_2 ivo_1 (by decide) (by decide) (by decide) (by decide)
          refine lv_goto (tgt := 36) hx hb dX9_take_107 rfl ?_
          have hPD9 := cl_s (wc := [(w, .inr (9, oX9 on oc y3)), (on, .inr (2, oX2 n_kind n_salt n_pace n_manner n_from n_to n_goal n_reach n_branches n_branch n_tally x_n)), (n_kind, .inl (kI, 12, .inl f_n_kind)), (n_salt, .inl (kI, 12, .inl f_n_salt)), (n_manner, .inl (kI, 12, .inl f_n_manner)), (n_to, .inl (kI, 20, .inl f_n_to)), (n_goal, .inl (kI, 3, .inl f_n_goal)), (n_branches, .inl (kI, 36, .inl f_n_branches)), (n_branch, .inl (kI, 144, .inl f_n_branch)), (oc, .inr (0, oX0 c_seen c_sent c_turn c_counter x_c)), (c_turn, .inl (kI, 12, .inl f_c_turn))]) hP hD [2, 3, 4, 5, 0, 6, 1, 7, 8, 9, 10] rfl (by decide +kernel)
          exact ih36 y3 (v36_loc4 + Int32.ofInt (-1)) (v36_loc5 + Int32.ofInt 1) _ _ _ (ms_dn (c := 1) (d := 0) h90_3 hm36 (by decide) (iv_inc (-1) h90_3 (by decide) (by decide) (by decide) (by decide)) (by decide) rfl) (hq4) ((iv_w b8 (by decide) (by decide))) (b7) ((show y3 0 = x_w 0 from hq5.trans (hsw9_36))) (hPD9.1) (hPD9.2) hS (lv_sub hl [1, 2, 3, 4, 5, 0] rfl)
        · have hPD9 := cl_s (wc := [(w, .inr (9, oX9 on oc y3)), (on, .inr (2, oX2 n_kind n_salt n_pace n_manner n_from n_to n_goal n_reach n_branches n_branch n_tally x_n)), (n_kind, .inl (kI, 12, .inl f_n_kind)), (n_salt, .inl (kI, 12, .inl f_n_salt)), (n_manner, .inl (kI, 12, .inl f_n_manner)), (n_to, .inl (kI, 20, .inl f_n_to)), (n_goal, .inl (kI, 3, .inl f_n_goal)), (n_branches, .inl (kI, 36, .inl f_n_branches)), (n_branch, .inl (kI, 144, .inl f_n_branch)), (oc, .inr (0, oX0 c_seen c_sent c_turn c_counter x_c)), (c_turn, .inl (kI, 12, .inl f_c_turn))]) hP hD [2, 3, 4, 5, 0, 6, 1, 7, 8, 9, 10] rfl (by decide +kernel)
          have hP9 := hPD9.1
          have hD9 := hPD9.2
          exact W.vret hx hb hr (fun t ht hW => ⟨⟨(), rfl, trivial, y3, hq4, (show y3 0 = x_w 0 from hq5.trans (hsw9_36)), by rw [ht]; exact hP9, hD9⟩, hS.F ht⟩) hS.2.2 dX9_take_103
      refine lv_iload hx hb dX9_take_36 (lv_at hl 5 rfl) ?_
      refine lv_bipush (v := 12) hx hb dX9_take_38 bp_12 ?_
      refine lv_icmp_ge (tgt := 110) hx hb dX9_take_40 rfl (fun c9 => ?_) (fun c9 => ?_)
      · have b10 : iv 12 12 v36_loc5 := iv_leR c9 ivk_12 h36_2 (by decide) (by decide)
        have hP9 := hP
        have hD9 := hD
        exact W.vret hx hb hr (fun t ht hW => ⟨⟨(), rfl, trivial, y36_0, hI36_0, (show y36_0 0 = x_w 0 from hsw9_36), by rw [ht]; exact hP9, hD9⟩, hS.F ht⟩) hS.2.2 dX9_take_110
      · have b11 : iv 0 11 v36_loc5 := iv_ltL (Int32.not_le.mp c9) h36_2 ivk_12 (by decide) (by decide)
        refine lv_iload hx hb dX9_take_43 (lv_at hl 4 rfl) ?_
        refine lv_if_le (tgt := 64) hx hb dX9_take_45 rfl (fun c12 => ?_) (fun c12 => ?_)
        · have b13 : iv (-2147483648) 0 v36_loc4 := iv_leL c12 (iv_t v36_loc4) ivk_0 (by decide) (by decide)
          have hP9 := hP
          have hD9 := hD
          exact W.vret hx hb hr (fun t ht hW => ⟨⟨(), rfl, trivial, y36_0, hI36_0, (show y36_0 0 = x_w 0 from hsw9_36), by rw [ht]; exact hP9, hD9⟩, hS.F ht⟩) hS.2.2 dX9_take_64
        · have b14 : iv 1 2147483647 v36_loc4 := iv_ltR (Int32.not_le.mp c12) ivk_0 (iv_t v36_loc4) (by decide) (by decide)
          refine lv_aload_n hx hb dX9_take_48 rfl (lv_at hl 0 rfl) ?_
          refine va_get (D := (dC, dI)) (ci := 9) (v := .int (y36_0 2)) (C := RX9) (T := TX9) (N := 10) hx hb hts hin9 hown hK hP 0 rfl rfl 4 (Nat.le_of_ble_eq_true rfl) hw_1 (fun _ h9 => h9) rfl dX9_take_49 ?_
          refine lv_aload_n hx hb dX9_take_52 rfl (lv_at hl 0 rfl) ?_
          refine va_get (D := (dC, dI)) (ci := 9) (v := .ref on) (C := RX9) (T := TX9) (N := 10) hx hb hts hin9 hown hK hP 0 rfl rfl 0 (Nat.le_of_ble_eq_true rfl) hw_2 (fun _ h9 => h9) rfl dX9_take_53 ?_
          refine va_get (D := (dC, dI)) (ci := 2) (v := .ref n_goal) (C := RX2) (T := TX2) (N := 15) hx hb hts hin2 hown hK hP 1 rfl rfl 6 (Nat.le_of_ble_eq_true rfl) hw_3 (fun _ h9 => h9) rfl dX9_take_56 ?_
          refine lv_iload_n hx hb dX9_take_59 rfl (lv_at hl 2 rfl) ?_
          refine va_iald hx hb hK hP 6 1 rfl rfl (iv_in hp1 (by decide) (by decide)) dX9_take_60 ?_
          refine iv_top (a := 0) (b := 11) (hf_n_goal _) (fun z15 b16 => ?_)
          refine lv_icmp_ne (tgt := 65) hx hb dX9_take_61 rfl (fun c17 => ?_) (fun c17 => ?_)
          · refine lv_iinc (v := v36_loc4 + Int32.ofInt (-1)) (lv' := [(4, .int (v36_loc4 + Int32.ofInt (-1))), (0, .ref w), (1, .int p0), (2, .int p1), (3, .int p2), (5, .int v36_loc5)]) hx hb dX9_take_65 hl (k := 4) rfl (rfl) (Nat.le_of_ble_eq_true rfl) rfl (fun ls hl => ?_)
            have b18 : iv 0 2147483646 (v36_loc4 + Int32.ofInt (-1)) := iv_add b14 ivo_m1 (by decide) (by decide) (by decide) (by decide)
            refine lv_iload hx hb dX9_take_68 (lv_at hl 0 rfl) ?_
            refine lv_if_ne (tgt := 90) hx hb dX9_take_70 rfl (fun c19 => ?_) (fun c19 => ?_)
            · have b20 : iv 1 2147483646 (v36_loc4 + Int32.ofInt (-1)) := iv_neLo c19 b18 ivk_0 (by decide) (by decide)
              exact hJ90 _ _ _ ((iv_w b20 (by decide) (by decide))) (b11) (b14) ((show y36_0 0 = x_w 0 from hsw9_36)) (hP) (hD) hS (lv_sub hl [1, 2, 3, 4, 0, 5] rfl)
            · have b21 : iv 0 0 (v36_loc4 + Int32.ofInt (-1)) := iv_eqL c19 ivk_0
              refine lv_aload_n hx hb dX9_take_73 rfl (lv_at hl 1 rfl) ?_
              refine va_get (D := (dC, dI)) (ci := 9) (v := .ref on) (C := RX9) (T := TX9) (N := 10) hx hb hts hin9 hown hK hP 0 rfl rfl 0 (Nat.le_of_ble_eq_true rfl) hw_2 (fun _ h9 => h9) rfl dX9_take_74 ?_
              refine va_get (D := (dC, dI)) (ci := 2) (v := .ref n_manner) (C := RX2) (T := TX2) (N := 15) hx hb hts hin2 hown hK hP 1 rfl rfl 3 (Nat.le_of_ble_eq_true rfl) hw_4 (fun _ h9 => h9) rfl dX9_take_77 ?_
              refine lv_aload_n hx hb dX9_take_80 rfl (lv_at hl 1 rfl) ?_
              refine va_get (D := (dC, dI)) (ci := 9) (v := .int (y36_0 2)) (C := RX9) (T := TX9) (N := 10) hx hb hts hin9 hown hK hP 0 rfl rfl 4 (Nat.le_of_ble_eq_true rfl) hw_1 (fun _ h9 => h9) rfl dX9_take_81 ?_
              refine va_iald hx hb hK hP 4 1 rfl rfl (iv_in (hI36_0 2 : iv 0 11 (y36_0 2)) (by decide) (by decide)) dX9_take_84 ?_
              refine lv_topi (fun z22 _ => ?_)
              refine lv_iconst (v := 2) hx hb dX9_take_85 ic_2 ?_
              refine lv_icmp_eq (tgt := 90) hx hb dX9_take_86 rfl (fun c23 => ?_) (fun c23 => ?_)
              · have b24 : iv 2 2 z22 := iv_eqL c23 ivk_2
                exact hJ90 _ _ _ ((iv_w b21 (by decide) (by decide))) (b11) (b14) ((show y36_0 0 = x_w 0 from hsw9_36)) (hP) (hD) hS (lv_sub hl [1, 2, 3, 4, 0, 5] rfl)
              · have hP9 := hP
                have hD9 := hD
                exact W.vret hx hb hr (fun t ht hW => ⟨⟨(), rfl, trivial, y36_0, hI36_0, (show y36_0 0 = x_w 0 from hsw9_36), by rw [ht]; exact hP9, hD9⟩, hS.F ht⟩) hS.2.2 dX9_take_89
          · have hP9 := hP
            have hD9 := hD
            exact W.vret hx hb hr (fun t ht hW => ⟨⟨(), rfl, trivial, y36_0, hI36_0, (show y36_0 0 = x_w 0 from hsw9_36), by rw [ht]; exact hP9, hD9⟩, hS.F ht⟩) hS.2.2 dX9_take_64
  refine lv_aload_n hx hb dX9_take_0 rfl (lv_at hl 0 rfl) ?_
  refine lv_iconst (v := 0) hx hb dX9_take_1 ic_0 ?_
  refine va_put (D := (dC, dI)) (ci := 9) (v := .int 0) (ty := .int) (C := RX9) (T := TX9) (N := 10) hx hb hts hin9 tyX9 tyX9_ok nmX9 hown hK hP hD hS 0 rfl rfl 4 (by decide) hw_1 (fun _ h9 => h9) rfl (by decide +kernel) rfl rfl (Nat.le_of_ble_eq_true rfl) dX9_take_2 (fun H locs hPa hDa hS => ?_)
  clear hP hD
  have hP : va_P (dC, dI) vwCl [(w, .inr (9, oX9 on oc (upd x_w 2 0))), (on, .inr (2, oX2 n_kind n_salt n_pace n_manner n_from n_to n_goal n_reach n_branches n_branch n_tally x_n)), (n_kind, .inl (kI, 12, .inl f_n_kind)), (n_salt, .inl (kI, 12, .inl f_n_salt)), (n_manner, .inl (kI, 12, .inl f_n_manner)), (n_to, .inl (kI, 20, .inl f_n_to)), (n_goal, .inl (kI, 3, .inl f_n_goal)), (n_branches, .inl (kI, 36, .inl f_n_branches)), (n_branch, .inl (kI, 144, .inl f_n_branch)), (oc, .inr (0, oX0 c_seen c_sent c_turn c_counter x_c)), (c_turn, .inl (kI, 12, .inl f_c_turn))] H := hPa
  have hD : va_D A [(w, .inr (9, oX9 on oc (upd x_w 2 0))), (on, .inr (2, oX2 n_kind n_salt n_pace n_manner n_from n_to n_goal n_reach n_branches n_branch n_tally x_n)), (n_kind, .inl (kI, 12, .inl f_n_kind)), (n_salt, .inl (kI, 12, .inl f_n_salt)), (n_manner, .inl (kI, 12, .inl f_n_manner)), (n_to, .inl (kI, 20, .inl f_n_to)), (n_goal, .inl (kI, 3, .inl f_n_goal)), (n_branches, .inl (kI, 36, .inl f_n_branches)), (n_branch, .inl (kI, 144, .inl f_n_branch)), (oc, .inr (0, oX0 c_seen c_sent c_turn c_counter x_c)), (c_turn, .inl (kI, 12, .inl f_c_turn))] := hDa
  clear hPa hDa
  refine lv_aload_n hx hb dX9_take_5 rfl (lv_at hl 0 rfl) ?_
  refine lv_iconst (v := 0) hx hb dX9_take_6 ic_0 ?_
  refine va_put (D := (dC, dI)) (ci := 9) (v := .int 0) (ty := .int) (C := RX9) (T := TX9) (N := 10) hx hb hts hin9 tyX9 tyX9_ok nmX9 hown hK hP hD hS 0 rfl rfl 5 (by decide) hw_5 (fun _ h9 => h9) rfl (by decide +kernel) rfl rfl (Nat.le_of_ble_eq_true rfl) dX9_take_7 (fun H locs hPa hDa hS => ?_)
  clear hP hD
  have hP : va_P (dC, dI) vwCl [(w, .inr (9, oX9 on oc (upd (upd x_w 2 0) 3 0))), (on, .inr (2, oX2 n_kind n_salt n_pace n_manner n_from n_to n_goal n_reach n_branches n_branch n_tally x_n)), (n_kind, .inl (kI, 12, .inl f_n_kind)), (n_salt, .inl (kI, 12, .inl f_n_salt)), (n_manner, .inl (kI, 12, .inl f_n_manner)), (n_to, .inl (kI, 20, .inl f_n_to)), (n_goal, .inl (kI, 3, .inl f_n_goal)), (n_branches, .inl (kI, 36, .inl f_n_branches)), (n_branch, .inl (kI, 144, .inl f_n_branch)), (oc, .inr (0, oX0 c_seen c_sent c_turn c_counter x_c)), (c_turn, .inl (kI, 12, .inl f_c_turn))] H := hPa
  have hD : va_D A [(w, .inr (9, oX9 on oc (upd (upd x_w 2 0) 3 0))), (on, .inr (2, oX2 n_kind n_salt n_pace n_manner n_from n_to n_goal n_reach n_branches n_branch n_tally x_n)), (n_kind, .inl (kI, 12, .inl f_n_kind)), (n_salt, .inl (kI, 12, .inl f_n_salt)), (n_manner, .inl (kI, 12, .inl f_n_manner)), (n_to, .inl (kI, 20, .inl f_n_to)), (n_goal, .inl (kI, 3, .inl f_n_goal)), (n_branches, .inl (kI, 36, .inl f_n_branches)), (n_branch, .inl (kI, 144, .inl f_n_branch)), (oc, .inr (0, oX0 c_seen c_sent c_turn c_counter x_c)), (c_turn, .inl (kI, 12, .inl f_c_turn))] := hDa
  clear hPa hDa
  refine lv_aload_n hx hb dX9_take_10 rfl (lv_at hl 0 rfl) ?_
  refine lv_iconst (v := (-1)) hx hb dX9_take_11 ic_m1 ?_
  refine va_put (D := (dC, dI)) (ci := 9) (v := .int (-1)) (ty := .int) (C := RX9) (T := TX9) (N := 10) hx hb hts hin9 tyX9 tyX9_ok nmX9 hown hK hP hD hS 0 rfl rfl 6 (by decide) hw_6 (fun _ h9 => h9) rfl (by decide +kernel) rfl rfl (Nat.le_of_ble_eq_true rfl) dX9_take_12 (fun H locs hPa hDa hS => ?_)
  clear hP hD
  have hP : va_P (dC, dI) vwCl [(w, .inr (9, oX9 on oc (upd (upd (upd x_w 2 0) 3 0) 4 (-1)))), (on, .inr (2, oX2 n_kind n_salt n_pace n_manner n_from n_to n_goal n_reach n_branches n_branch n_tally x_n)), (n_kind, .inl (kI, 12, .inl f_n_kind)), (n_salt, .inl (kI, 12, .inl f_n_salt)), (n_manner, .inl (kI, 12, .inl f_n_manner)), (n_to, .inl (kI, 20, .inl f_n_to)), (n_goal, .inl (kI, 3, .inl f_n_goal)), (n_branches, .inl (kI, 36, .inl f_n_branches)), (n_branch, .inl (kI, 144, .inl f_n_branch)), (oc, .inr (0, oX0 c_seen c_sent c_turn c_counter x_c)), (c_turn, .inl (kI, 12, .inl f_c_turn))] H := hPa
  have hD : va_D A [(w, .inr (9, oX9 on oc (upd (upd (upd x_w 2 0) 3 0) 4 (-1)))), (on, .inr (2, oX2 n_kind n_salt n_pace n_manner n_from n_to n_goal n_reach n_branches n_branch n_tally x_n)), (n_kind, .inl (kI, 12, .inl f_n_kind)), (n_salt, .inl (kI, 12, .inl f_n_salt)), (n_manner, .inl (kI, 12, .inl f_n_manner)), (n_to, .inl (kI, 20, .inl f_n_to)), (n_goal, .inl (kI, 3, .inl f_n_goal)), (n_branches, .inl (kI, 36, .inl f_n_branches)), (n_branch, .inl (kI, 144, .inl f_n_branch)), (oc, .inr (0, oX0 c_seen c_sent c_turn c_counter x_c)), (c_turn, .inl (kI, 12, .inl f_c_turn))] := hDa
  clear hPa hDa
  refine lv_aload_n hx hb dX9_take_15 rfl (lv_at hl 0 rfl) ?_
  refine lv_iconst (v := 0) hx hb dX9_take_16 ic_0 ?_
  refine va_put (D := (dC, dI)) (ci := 9) (v := .int 0) (ty := .int) (C := RX9) (T := TX9) (N := 10) hx hb hts hin9 tyX9 tyX9_ok nmX9 hown hK hP hD hS 0 rfl rfl 7 (by decide) hw_7 (fun _ h9 => h9) rfl (by decide +kernel) rfl rfl (Nat.le_of_ble_eq_true rfl) dX9_take_17 (fun H locs hPa hDa hS => ?_)
  clear hP hD
  have hP : va_P (dC, dI) vwCl [(w, .inr (9, oX9 on oc (upd (upd (upd (upd x_w 2 0) 3 0) 4 (-1)) 5 0))), (on, .inr (2, oX2 n_kind n_salt n_pace n_manner n_from n_to n_goal n_reach n_branches n_branch n_tally x_n)), (n_kind, .inl (kI, 12, .inl f_n_kind)), (n_salt, .inl (kI, 12, .inl f_n_salt)), (n_manner, .inl (kI, 12, .inl f_n_manner)), (n_to, .inl (kI, 20, .inl f_n_to)), (n_goal, .inl (kI, 3, .inl f_n_goal)), (n_branches, .inl (kI, 36, .inl f_n_branches)), (n_branch, .inl (kI, 144, .inl f_n_branch)), (oc, .inr (0, oX0 c_seen c_sent c_turn c_counter x_c)), (c_turn, .inl (kI, 12, .inl f_c_turn))] H := hPa
  have hD : va_D A [(w, .inr (9, oX9 on oc (upd (upd (upd (upd x_w 2 0) 3 0) 4 (-1)) 5 0))), (on, .inr (2, oX2 n_kind n_salt n_pace n_manner n_from n_to n_goal n_reach n_branches n_branch n_tally x_n)), (n_kind, .inl (kI, 12, .inl f_n_kind)), (n_salt, .inl (kI, 12, .inl f_n_salt)), (n_manner, .inl (kI, 12, .inl f_n_manner)), (n_to, .inl (kI, 20, .inl f_n_to)), (n_goal, .inl (kI, 3, .inl f_n_goal)), (n_branches, .inl (kI, 36, .inl f_n_branches)), (n_branch, .inl (kI, 144, .inl f_n_branch)), (oc, .inr (0, oX0 c_seen c_sent c_turn c_counter x_c)), (c_turn, .inl (kI, 12, .inl f_c_turn))] := hDa
  clear hPa hDa
  refine lv_aload_n hx hb dX9_take_20 rfl (lv_at hl 0 rfl) ?_
  refine lv_iconst (v := 0) hx hb dX9_take_21 ic_0 ?_
  refine va_put (D := (dC, dI)) (ci := 9) (v := .int 0) (ty := .int) (C := RX9) (T := TX9) (N := 10) hx hb hts hin9 tyX9 tyX9_ok nmX9 hown hK hP hD hS 0 rfl rfl 8 (by decide) hw_8 (fun _ h9 => h9) rfl (by decide +kernel) rfl rfl (Nat.le_of_ble_eq_true rfl) dX9_take_22 (fun H locs hPa hDa hS => ?_)
  clear hP hD
  have hP : va_P (dC, dI) vwCl [(w, .inr (9, oX9 on oc (upd (upd (upd (upd (upd x_w 2 0) 3 0) 4 (-1)) 5 0) 6 0))), (on, .inr (2, oX2 n_kind n_salt n_pace n_manner n_from n_to n_goal n_reach n_branches n_branch n_tally x_n)), (n_kind, .inl (kI, 12, .inl f_n_kind)), (n_salt, .inl (kI, 12, .inl f_n_salt)), (n_manner, .inl (kI, 12, .inl f_n_manner)), (n_to, .inl (kI, 20, .inl f_n_to)), (n_goal, .inl (kI, 3, .inl f_n_goal)), (n_branches, .inl (kI, 36, .inl f_n_branches)), (n_branch, .inl (kI, 144, .inl f_n_branch)), (oc, .inr (0, oX0 c_seen c_sent c_turn c_counter x_c)), (c_turn, .inl (kI, 12, .inl f_c_turn))] H := hPa
  have hD : va_D A [(w, .inr (9, oX9 on oc (upd (upd (upd (upd (upd x_w 2 0) 3 0) 4 (-1)) 5 0) 6 0))), (on, .inr (2, oX2 n_kind n_salt n_pace n_manner n_from n_to n_goal n_reach n_branches n_branch n_tally x_n)), (n_kind, .inl (kI, 12, .inl f_n_kind)), (n_salt, .inl (kI, 12, .inl f_n_salt)), (n_manner, .inl (kI, 12, .inl f_n_manner)), (n_to, .inl (kI, 20, .inl f_n_to)), (n_goal, .inl (kI, 3, .inl f_n_goal)), (n_branches, .inl (kI, 36, .inl f_n_branches)), (n_branch, .inl (kI, 144, .inl f_n_branch)), (oc, .inr (0, oX0 c_seen c_sent c_turn c_counter x_c)), (c_turn, .inl (kI, 12, .inl f_c_turn))] := hDa
  clear hPa hDa
  refine lv_aload_n hx hb dX9_take_25 rfl (lv_at hl 0 rfl) ?_
  refine lv_iconst (v := 0) hx hb dX9_take_26 ic_0 ?_
  refine va_put (D := (dC, dI)) (ci := 9) (v := .int 0) (ty := .boolean) (C := RX9) (T := TX9) (N := 10) hx hb hts hin9 tyX9 tyX9_ok nmX9 hown hK hP hD hS 0 rfl rfl 9 (by decide) hw_0 (fun _ h9 => h9) rfl (by decide +kernel) rfl rfl (Nat.le_of_ble_eq_true rfl) dX9_take_27 (fun H locs hPa hDa hS => ?_)
  clear hP hD
  have hP : va_P (dC, dI) vwCl [(w, .inr (9, oX9 on oc (upd (upd (upd (upd (upd (upd x_w 2 0) 3 0) 4 (-1)) 5 0) 6 0) 7 0))), (on, .inr (2, oX2 n_kind n_salt n_pace n_manner n_from n_to n_goal n_reach n_branches n_branch n_tally x_n)), (n_kind, .inl (kI, 12, .inl f_n_kind)), (n_salt, .inl (kI, 12, .inl f_n_salt)), (n_manner, .inl (kI, 12, .inl f_n_manner)), (n_to, .inl (kI, 20, .inl f_n_to)), (n_goal, .inl (kI, 3, .inl f_n_goal)), (n_branches, .inl (kI, 36, .inl f_n_branches)), (n_branch, .inl (kI, 144, .inl f_n_branch)), (oc, .inr (0, oX0 c_seen c_sent c_turn c_counter x_c)), (c_turn, .inl (kI, 12, .inl f_c_turn))] H := hPa
  have hD : va_D A [(w, .inr (9, oX9 on oc (upd (upd (upd (upd (upd (upd x_w 2 0) 3 0) 4 (-1)) 5 0) 6 0) 7 0))), (on, .inr (2, oX2 n_kind n_salt n_pace n_manner n_from n_to n_goal n_reach n_branches n_branch n_tally x_n)), (n_kind, .inl (kI, 12, .inl f_n_kind)), (n_salt, .inl (kI, 12, .inl f_n_salt)), (n_manner, .inl (kI, 12, .inl f_n_manner)), (n_to, .inl (kI, 20, .inl f_n_to)), (n_goal, .inl (kI, 3, .inl f_n_goal)), (n_branches, .inl (kI, 36, .inl f_n_branches)), (n_branch, .inl (kI, 144, .inl f_n_branch)), (oc, .inr (0, oX0 c_seen c_sent c_turn c_counter x_c)), (c_turn, .inl (kI, 12, .inl f_c_turn))] := hDa
  clear hPa hDa
  refine lv_iload_n hx hb dX9_take_30 rfl (lv_at hl 3 rfl) ?_
  refine lv_istore (lv' := [(4, .int p2), (0, .ref w), (1, .int p0), (2, .int p1), (3, .int p2)]) hx hb dX9_take_31 hl (Nat.le_of_ble_eq_true rfl) rfl (fun ls hl => ?_)
  refine lv_iconst (v := 0) hx hb dX9_take_33 ic_0 ?_
  refine lv_istore (lv' := [(5, .int 0), (4, .int p2), (0, .ref w), (1, .int p0), (2, .int p1), (3, .int p2)]) hx hb dX9_take_34 hl (Nat.le_of_ble_eq_true rfl) rfl (fun ls hl => ?_)
  exact hJ36 _ (upd (upd (upd (upd (upd (upd x_w 2 0) 3 0) 4 (-1)) 5 0) 6 0) 7 0) p2 0 _ _ _ (Nat.lt_succ_self _) ((fI_u (fI_u (fI_u (fI_u (fI_u (fI_u hx_w (k := 2) ((iv_w ivk_0 (by decide) (by decide)))) (k := 3) ((iv_w ivk_0 (by decide) (by decide)))) (k := 4) ((iv_w ivk_m1 (by decide) (by decide)))) (k := 5) ((iv_w ivk_0 (by decide) (by decide)))) (k := 6) ((iv_w ivk_0 (by decide) (by decide)))) (k := 7) ((iv_w ivk_0 (by decide) (by decide))))) ((iv_w ivk_0 (by decide) (by decide))) (ivk_0) ((show x_w 0 = x_w 0 from rfl)) (hP) (hD) hS (lv_sub hl [2, 3, 4, 5, 1, 0] rfl)
