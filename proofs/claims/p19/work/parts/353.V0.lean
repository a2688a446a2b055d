def rm_s2_comesTo_x : Room := { frames := 0, cells := 0, slots := 0, locals := 0 }
set_option maxHeartbeats 4000000 in
set_option maxRecDepth 100000 in
theorem s2_comesTo_x (l : Launch) (dC : Nat → ClassId) (dI : Nat → Nat → Nat) (kB kI kJ kZ kC kS : ClassId) (sz : Nat) (on : Nat) (n_kind : Nat) (n_salt : Nat) (n_pace : Nat) (n_manner : Nat) (n_from : Nat) (n_to : Nat) (n_goal : Nat) (n_reach : Nat) (n_branches : Nat) (n_branch : Nat) (n_tally : Nat) (x_n : Nat → Int32) (f_n_reach : Nat → Int32) (p0 : Int32) (p1 : Int32) (hx_n : fI lX2 hX2 x_n) (hp0 : iv 0 11 p0) (hp1 : iv 0 11 p1) : Met l yX2_comesTo wsX2_comesTo rm_s2_comesTo_x (va_Pc [.ref on, .int p0, .int p1] (fun U => U.heap.size = sz ∧ va_P (dC, dI) vwCl [(on, .inr (2, oX2 n_kind n_salt n_pace n_manner n_from n_to n_goal n_reach n_branches n_branch n_tally x_n)), (n_reach, .inl (kI, 12, .inl f_n_reach))] U.heap ∧ kE dC dI kB kI kJ kZ kC kS U ∧ va_D (fun _ => True) [(on, .inr (2, oX2 n_kind n_salt n_pace n_manner n_from n_to n_goal n_reach n_branches n_branch n_tally x_n)), (n_reach, .inl (kI, 12, .inl f_n_reach))])) (va_Qi (fun (r : Int32) (_ : Unit) => iv 0 1 r ∧ (IbR (bt (f_n_reach p0.toNatClampNeg) p1.toNatClampNeg) r)) (fun _ t => va_P (dC, dI) vwCl [(on, .inr (2, oX2 n_kind n_salt n_pace n_manner n_from n_to n_goal n_reach n_branches n_branch n_tally x_n)), (n_reach, .inl (kI, 12, .inl f_n_reach))] t.heap ∧ va_D (va_A [(on, .inr (2, oX2 n_kind n_salt n_pace n_manner n_from n_to n_goal n_reach n_branches n_branch n_tally x_n)), (n_reach, .inl (kI, 12, .inl f_n_reach))] sz) [(on, .inr (2, oX2 n_kind n_salt n_pace n_manner n_from n_to n_goal n_reach n_branches n_branch n_tally x_n)), (n_reach, .inl (kI, 12, .inl f_n_reach))]) (va_A [(on, .inr (2, oX2 n_kind n_salt n_pace n_manner n_from n_to n_goal n_reach n_branches n_branch n_tally x_n)), (n_reach, .inl (kI, 12, .inl f_n_reach))] sz)) 0 0 (va_A [(on, .inr (2, oX2 n_kind n_salt n_pace n_manner n_from n_to n_goal n_reach n_branches n_branch n_tally x_n)), (n_reach, .inl (kI, 12, .inl f_n_reach))] sz) := by
  refine Met.ofW (cc := cX2_comesTo) (maxL := 3) (ret := (some .boolean)) (by decide) rfl ?_
  intro p e s m args0 below meth c s₁ B hml hv
  obtain ⟨hargs, hsz, hP, hE, hD0⟩ := hv
  have hx := B.exec
  have hb := B.bytes
  have hr := B.returns
  have hts := atoms_spec (ws := wsX2_comesTo) B.pre
  have hown : s.vm.findClass RX2 = some m.cls := findClass_of_methodNamed B.named
  have hlocks := B.notSynchronized
  have hK := hE.1
  have hin2 : ∀ w ∈ wsX20, w ∈ wsX2_comesTo := fun _ h9 => List.mem_cons_of_mem _ (List.mem_append_right _ h9)
  have hw_0 := hts (.fieldLink RX2 46 "PathProber$Net" "reach" "[I") (List.mem_of_getElem? (i := 1) rfl)
  subst hsz
  have hD := hD0.self (sz := s.heap.size)
  generalize hAe : va_A [(on, .inr (2, oX2 n_kind n_salt n_pace n_manner n_from n_to n_goal n_reach n_branches n_branch n_tally x_n)), (n_reach, .inl (kI, 12, .inl f_n_reach))] s.heap.size = A at hD ⊢
  have hA : ∀ q : Nat, s.heap.size ≤ q → A q := fun q h => by rw [← hAe]; exact Or.inr h
  have hS : va_S A s.heap s.heap [] := va_S.rf
  have hP : va_P (dC, dI) vwCl [(on, .inr (2, oX2 n_kind n_salt n_pace n_manner n_from n_to n_goal n_reach n_branches n_branch n_tally x_n)), (n_reach, .inl (kI, 12, .inl f_n_reach))] s.heap := hP
  have hl := lv_entry ([.ref on, .int p0, .int p1]) (n := 3) (Nat.le_of_ble_eq_true rfl)
  have hla : entryFrame m args0 3 = entryFrame m ([.ref on, .int p0, .int p1] : List Value).toArray 3 := by rw [hargs]
  rw [hla, lg_entry_eq]
  generalize (lg_sl ([.ref on, .int p0, .int p1]) ++ List.replicate (3 - (lg_sl ([.ref on, .int p0, .int p1])).length) Slot.unset).toArray = ls at hl ⊢
  have hl : lv_has ls 3 [(0, .ref on), (1, .int p0), (2, .int p1)] := hl
  refine lv_aload_n hx hb dX2_comesTo_0 rfl (lv_at hl 0 rfl) ?_
  refine va_get (D := (dC, dI)) (ci := 2) (v := .ref n_reach) (C := RX2) (T := TX2) (N := 15) hx hb hts hin2 hown hK hP 0 rfl rfl 11 (Nat.le_of_ble_eq_true rfl) hw_0 (fun _ h9 => h9) rfl dX2_comesTo_1 ?_
  refine lv_iload_n hx hb dX2_comesTo_4 rfl (lv_at hl 1 rfl) ?_
  refine va_iald hx hb hK hP 1 1 rfl rfl (iv_in hp0 (by decide) (by decide)) dX2_comesTo_5 ?_
  refine lv_iload_n hx hb dX2_comesTo_6 rfl (lv_at hl 2 rfl) ?_
  refine lv_ishr hx hb dX2_comesTo_7 ?_
  refine lv_iconst (v := 1) hx hb dX2_comesTo_8 ic_1 ?_
  refine lv_iand hx hb dX2_comesTo_9 ?_
  have b1 : iv 0 1 (((f_n_reach p0.toNatClampNeg) >>> ((p1 : Int32) &&& 31)) &&& 1) := iv_and (m := 1) (by decide) (by decide) (by decide)
  refine lv_iconst (v := 1) hx hb dX2_comesTo_10 ic_1 ?_
  refine lv_icmp_ne (tgt := 18) hx hb dX2_comesTo_11 rfl (fun c2 => ?_) (fun c2 => ?_)
  · have b3 : iv 0 0 (((f_n_reach p0.toNatClampNeg) >>> ((p1 : Int32) &&& 31)) &&& 1) := iv_neHi c2 b1 ivk_1 (by decide) (by decide)
    refine lv_iconst (v := 0) hx hb dX2_comesTo_18 ic_0 ?_
    have hP9 := hP
    have hD9 := hD
    exact W.zret (v := 0) (ty := .boolean) hx hb hr rfl (fun t ht hW => ⟨⟨0, (), rfl, ⟨(iv_w ivk_0 (by decide) (by decide)), Or.inl ⟨rfl, cq_0 hp1 c2⟩⟩, by rw [ht]; exact hP9, hD9⟩, hS.F ht⟩) hS.2.2 dX2_comesTo_19
  · have b4 : iv 1 1 (((f_n_reach p0.toNatClampNeg) >>> ((p1 : Int32) &&& 31)) &&& 1) := iv_eqL c2 ivk_1
    refine lv_iconst (v := 1) hx hb dX2_comesTo_14 ic_1 ?_
    refine lv_goto (tgt := 19) hx hb dX2_comesTo_15 rfl ?_
    have hP9 := hP
    have hD9 := hD
    exact W.zret (v := 1) (ty := .boolean) hx hb hr rfl (fun t ht hW => ⟨⟨1, (), rfl, ⟨(iv_w ivk_1 (by decide) (by decide)), Or.inr ⟨rfl, cq_1 hp1 c2⟩⟩, by rw [ht]; exact hP9, hD9⟩, hS.F ht⟩) hS.2.2 dX2_comesTo_19
def rm_s2_findReach_x : Room := { frames := 0, cells := 0, slots := 0, locals := 0 }
set_option maxHeartbeats 4000000 in
set_option maxRecDepth 100000 in
theorem s2_findReach_x (l : Launch) (dC : Nat → ClassId) (dI : Nat → Nat → Nat) (kB kI kJ kZ kC kS : ClassId) (sz : Nat) (on : Nat) (n_kind : Nat) (n_salt : Nat) (n_pace : Nat) (n_manner : Nat) (n_from : Nat) (n_to : Nat) (n_goal : Nat) (n_reach : Nat) (n_branches : Nat) (n_branch : Nat) (n_tally : Nat) (x_n : Nat → Int32) (f_n_kind : Nat → Int32) (f_n_from : Nat → Int32) (f_n_to : Nat → Int32) (f_n_goal : Nat → Int32) (f_n_reach : Nat → Int32) (hx_n : fI lX2 hX2 x_n) (hf_n_from : fI (fun _ => 0) (fun _ => 11) f_n_from) (hf_n_to : fI (fun _ => 0) (fun _ => 11) f_n_to) (hf_n_goal : fI (fun _ => 0) (fun _ => 11) f_n_goal) (hWF : WfN x_n f_n_kind f_n_from f_n_to f_n_goal) : Met l yX2_findReach wsX2_findReach rm_s2_findReach_x (va_Pc [.ref on] (fun U => U.heap.size = sz ∧ va_P (dC, dI) vwCl [(on, .inr (2, oX2 n_kind n_salt n_pace n_manner n_from n_to n_goal n_reach n_branches n_branch n_tally x_n)), (n_kind, .inl (kI, 12, .inl f_n_kind)), (n_from, .inl (kI, 20, .inl f_n_from)), (n_to, .inl (kI, 20, .inl f_n_to)), (n_goal, .inl (kI, 3, .inl f_n_goal)), (n_reach, .inl (kI, 12, .inl f_n_reach))] U.heap ∧ kE dC dI kB kI kJ kZ kC kS U ∧ va_D (fun _ => True) [(on, .inr (2, oX2 n_kind n_salt n_pace n_manner n_from n_to n_goal n_reach n_branches n_branch n_tally x_n)), (n_kind, .inl (kI, 12, .inl f_n_kind)), (n_from, .inl (kI, 20, .inl f_n_from)), (n_to, .inl (kI, 20, .inl f_n_to)), (n_goal, .inl (kI, 3, .inl f_n_goal)), (n_reach, .inl (kI, 12, .inl f_n_reach))])) (va_Qv (fun (_ : Unit) => True) (fun _ t => ∃ (f_n_reach' : Nat → Int32), (RcC (nF f_n_from) (nF f_n_to) (x_n 1).toNatClampNeg (x_n 0).toNatClampNeg f_n_reach') ∧ va_P (dC, dI) vwCl [(on, .inr (2, oX2 n_kind n_salt n_pace n_manner n_from n_to n_goal n_reach n_branches n_branch n_tally x_n)), (n_kind, .inl (kI, 12, .inl f_n_kind)), (n_from, .inl (kI, 20, .inl f_n_from)), (n_to, .inl (kI, 20, .inl f_n_to)), (n_goal, .inl (kI, 3, .inl f_n_goal)), (n_reach, .inl (kI, 12, .inl f_n_reach'))] t.heap ∧ va_D (va_A [(on, .inr (2, oX2 n_kind n_salt n_pace n_manner n_from n_to n_goal n_reach n_branches n_branch n_tally x_n)), (n_kind, .inl (kI, 12, .inl f_n_kind)), (n_from, .inl (kI, 20, .inl f_n_from)), (n_to, .inl (kI, 20, .inl f_n_to)), (n_goal, .inl (kI, 3, .inl f_n_goal)), (n_reach, .inl (kI, 12, .inl f_n_reach))] sz) [(on, .inr (2, oX2 n_kind n_salt n_pace n_manner n_from n_to n_goal n_reach n_branches n_branch n_tally x_n)), (n_kind, .inl (kI, 12, .inl f_n_kind)), (n_from, .inl (kI, 20, .inl f_n_from)), (n_to, .inl (kI, 20, .inl f_n_to)), (n_goal, .inl (kI, 3, .inl f_n_goal)), (n_reach, .inl (kI, 12, .inl f_n_reach'))]) (va_A [(on, .inr (2, oX2 n_kind n_salt n_pace n_manner n_from n_to n_goal n_reach n_branches n_branch n_tally x_n)), (n_kind, .inl (kI, 12, .inl f_n_kind)), (n_from, .inl (kI, 20, .inl f_n_from)), (n_to, .inl (kI, 20, .inl f_n_to)), (n_goal, .inl (kI, 3, .inl f_n_goal)), (n_reach, .inl (kI, 12, .inl f_n_reach))] sz)) 0 0 (va_A [(on, .inr (2, oX2 n_kind n_salt n_pace n_manner n_from n_to n_goal n_reach n_branches n_branch n_tally x_n)), (n_kind, .inl (kI, 12, .inl f_n_kind)), (n_from, .inl (kI, 20, .inl f_n_from)), (n_to, .inl (kI, 20, .inl f_n_to)), (n_goal, .inl (kI, 3, .inl f_n_goal)), (n_reach, .inl (kI, 12, .inl f_n_reach))] sz) := by
  refine Met.ofW (cc := cX2_findReach) (maxL := 3) (ret := none) (by decide) rfl ?_
  intro p e s m args0 below meth c s₁ B hml hv
  obtain ⟨hargs, hsz, hP, hE, hD0⟩ := hv
  have hx := B.exec
  have hb := B.bytes
  have hr := B.returns
  have hts := atoms_spec (ws := wsX2_findReach) B.pre
  have hown : s.vm.findClass RX2 = some m.cls := findClass_of_methodNamed B.named
  have hlocks := B.notSynchronized
  have hK := hE.1
  have hin2 : ∀ w ∈ wsX20, w ∈ wsX2_findReach := fun _ h9 => List.mem_cons_of_mem _ (List.mem_append_right _ h9)
  have hw_0 := hts (.fieldLink RX2 37 "PathProber$Net" "links" "I") (List.mem_of_getElem? (i := 3) rfl)
  have hw_1 := hts (.fieldLink RX2 24 "PathProber$Net" "from" "[I") (List.mem_of_getElem? (i := 4) rfl)
  have hw_2 := hts (.fieldLink RX2 46 "PathProber$Net" "reach" "[I") (List.mem_of_getElem? (i := 2) rfl)
  have hw_3 := hts (.fieldLink RX2 27 "PathProber$Net" "to" "[I") (List.mem_of_getElem? (i := 5) rfl)
  have hw_4 := hts (.fieldLink RX2 33 "PathProber$Net" "routers" "I") (List.mem_of_getElem? (i := 1) rfl)
  subst hsz
  have hD := hD0.self (sz := s.heap.size)
  generalize hAe : va_A [(on, .inr (2, oX2 n_kind n_salt n_pace n_manner n_from n_to n_goal n_reach n_branches n_branch n_tally x_n)), (n_kind, .inl (kI, 12, .inl f_n_kind)), (n_from, .inl (kI, 20, .inl f_n_from)), (n_to, .inl (kI, 20, .inl f_n_to)), (n_goal, .inl (kI, 3, .inl f_n_goal)), (n_reach, .inl (kI, 12, .inl f_n_reach))] s.heap.size = A at hD ⊢
  have hA : ∀ q : Nat, s.heap.size ≤ q → A q := fun q h => by rw [← hAe]; exact Or.inr h
  have hS : va_S A s.heap s.heap [] := va_S.rf
  have hP : va_P (dC, dI) vwCl [(on, .inr (2, oX2 n_kind n_salt n_pace n_manner n_from n_to n_goal n_reach n_branches n_branch n_tally x_n)), (n_kind, .inl (kI, 12, .inl f_n_kind)), (n_from, .inl (kI, 20, .inl f_n_from)), (n_to, .inl (kI, 20, .inl f_n_to)), (n_goal, .inl (kI, 3, .inl f_n_goal)), (n_reach, .inl (kI, 12, .inl f_n_reach))] s.heap := hP
  have hl := lv_entry ([.ref on]) (n := 3) (Nat.le_of_ble_eq_true rfl)
  have hla : entryFrame m args0 3 = entryFrame m ([.ref on] : List Value).toArray 3 := by rw [hargs]
  rw [hla, lg_entry_eq]
  generalize (lg_sl ([.ref on]) ++ List.replicate (3 - (lg_sl ([.ref on])).length) Slot.unset).toArray = ls at hl ⊢
  have hl : lv_has ls 3 [(0, .ref on)] := hl
  have hJ7 : ∀ (n : Nat) (g7_5 : Nat → Int32) (v7_loc1 : Int32) (H : Heap) (locs : List Loc) (ls : Array Slot), (v7_loc1.toInt - (-1)).toNat < n → iv (-1) 11 v7_loc1 → iv (-1) 11 ((x_n 0) - 1) → (FR7 (nF f_n_from) (nF f_n_to) (x_n 1).toNatClampNeg (x_n 0).toNatClampNeg g7_5 v7_loc1) → va_P (dC, dI) vwCl [(on, .inr (2, oX2 n_kind n_salt n_pace n_manner n_from n_to n_goal n_reach n_branches n_branch n_tally x_n)), (n_kind, .inl (kI, 12, .inl f_n_kind)), (n_from, .inl (kI, 20, .inl f_n_from)), (n_to, .inl (kI, 20, .inl f_n_to)), (n_goal, .inl (kI, 3, .inl f_n_goal)), (n_reach, .inl (kI, 12, .inl g7_5))] H → va_D A [(on, .inr (2, oX2 n_kind n_salt n_pace n_manner n_from n_to n_goal n_reach n_branches n_branch n_tally x_n)), (n_kind, .inl (kI, 12, .inl f_n_kind)), (n_from, .inl (kI, 20, .inl f_n_from)), (n_to, .inl (kI, 20, .inl f_n_to)), (n_goal, .inl (kI, 3, .inl f_n_goal)), (n_reach, .inl (kI, 12, .inl g7_5))] → va_S A s.heap H locs → lv_has ls 3 [(0, .ref on), (1, .int v7_loc1)] → W p l e (headSpec wsX2_findReach rm_s2_findReach_x).room s m args0 below meth c H locs (0) (0) (MQ below (va_Qv (fun (_ : Unit) => True) (fun _ t => ∃ (f_n_reach' : Nat → Int32), (RcC (nF f_n_from) (nF f_n_to) (x_n 1).toNatClampNeg (x_n 0).toNatClampNeg f_n_reach') ∧ va_P (dC, dI) vwCl [(on, .inr (2, oX2 n_kind n_salt n_pace n_manner n_from n_to n_goal n_reach n_branches n_branch n_tally x_n)), (n_kind, .inl (kI, 12, .inl f_n_kind)), (n_from, .inl (kI, 20, .inl f_n_from)), (n_to, .inl (kI, 20, .inl f_n_to)), (n_goal, .inl (kI, 3, .inl f_n_goal)), (n_reach, .inl (kI, 12, .inl f_n_reach'))] t.heap ∧ va_D A [(on, .inr (2, oX2 n_kind n_salt n_pace n_manner n_from n_to n_goal n_reach n_branches n_branch n_tally x_n)), (n_kind, .inl (kI, 12, .inl f_n_kind)), (n_from, .inl (kI, 20, .inl f_n_from)), (n_to, .inl (kI, 20, .inl f_n_to)), (n_goal, .inl (kI, 3, .inl f_n_goal)), (n_reach, .inl (kI, 12, .inl f_n_reach'))]) A) args0 s 0 0 A) (F0 m 7 ls []) := by
    intro n
    induction n with
    | zero => intro g7_5 v7_loc1 H locs ls hm7; exact absurd hm7 (Nat.not_lt_zero _)
    | succ n ih7 =>
      intro g7_5 v7_loc1 H locs ls hm7 h7_1 h7_2 hf7_7 hP hD hS hl
      have hJ22 : ∀ (n : Nat) (g22_5 : Nat → Int32) (v22_loc2 : Int32) (H : Heap) (locs : List Loc) (ls : Array Slot), (20 - v22_loc2.toInt).toNat < n → iv 0 11 v7_loc1 → iv 0 20 v22_loc2 → iv 0 2048 (1 <<< ((v7_loc1 : Int32) &&& 31)) → (FR22 (nF f_n_from) (nF f_n_to) (x_n 1).toNatClampNeg (x_n 0).toNatClampNeg g22_5 v7_loc1 v22_loc2) → va_P (dC, dI) vwCl [(on, .inr (2, oX2 n_kind n_salt n_pace n_manner n_from n_to n_goal n_reach n_branches n_branch n_tally x_n)), (n_kind, .inl (kI, 12, .inl f_n_kind)), (n_from, .inl (kI, 20, .inl f_n_from)), (n_to, .inl (kI, 20, .inl f_n_to)), (n_goal, .inl (kI, 3, .inl f_n_goal)), (n_reach, .inl (kI, 12, .inl g22_5))] H → va_D A [(on, .inr (2, oX2 n_kind n_salt n_pace n_manner n_from n_to n_goal n_reach n_branches n_branch n_tally x_n)), (n_kind, .inl (kI, 12, .inl f_n_kind)), (n_from, .inl (kI, 20, .inl f_n_from)), (n_to, .inl (kI, 20, .inl f_n_to)), (n_goal, .inl (kI, 3, .inl f_n_goal)), (n_reach, .inl (kI, 12, .inl g22_5))] → va_S A s.heap H locs → lv_has ls 3 [(0, .ref on), (1, .int v7_loc1), (2, .int v22_loc2)] → W p l e (headSpec wsX2_findReach rm_s2_findReach_x).room s m args0 below meth c H locs (0) (0) (MQ below (va_Qv (fun (_ : Unit) => True) (fun _ t => ∃ (f_n_reach' : Nat → Int32), (RcC (nF f_n_from) (nF f_n_to) (x_n 1).toNatClampNeg (x_n 0).toNatClampNeg f_n_reach') ∧ va_P (dC, dI) vwCl [(on, .inr (2, oX2 n_kind n_salt n_pace n_manner n_from n_to n_goal n_reach n_branches n_branch n_tally x_n)), (n_kind, .inl (kI, 12, .inl f_n_kind)), (n_from, .inl (kI, 20, .inl f_n_from)), (n_to, .inl (kI, 20, .inl f_n_to)), (n_goal, .inl (kI, 3, .inl f_n_goal)), (n_reach, .inl (kI, 12, .inl f_n_reach'))] t.heap ∧ va_D A [(on, .inr (2, oX2 n_kind n_salt n_pace n_manner n_from n_to n_goal n_reach n_branches n_branch n_tally x_n)), (n_kind, .inl (kI, 12, .inl f_n_kind)), (n_from, .inl (kI, 20, .inl f_n_from)), (n_to, .inl (kI, 20, .inl f_n_to)), (n_goal, .inl (kI, 3, .inl f_n_goal)), (n_reach, .inl (kI, 12, .inl f_n_reach'))]) A) args0 s 0 0 A) (F0 m 22 ls []) := by
        intro n
        induction n with
        | zero => intro g22_5 v22_loc2 H locs ls hm22; exact absurd hm22 (Nat.not_lt_zero _)
        | succ n ih22 =>
          intro g22_5 v22_loc2 H locs ls hm22 h22_1 h22_2 h22_3 hf22_22 hP hD hS hl
          refine lv_iload_n hx hb dX2_findReach_22 rfl (lv_at hl 2 rfl) ?_
          refine lv_aload_n hx hb dX2_findReach_23 rfl (lv_at hl 0 rfl) ?_
          refine va_get (D := (dC, dI)) (ci := 2) (v := .int (x_n 1)) (C := RX2) (T := TX2) (N := 15) hx hb hts hin2 hown hK hP 0 rfl rfl 8 (Nat.le_of_ble_eq_true rfl) hw_0 (fun _ h9 => h9) rfl dX2_findReach_24 ?_
          refine lv_icmp_ge (tgt := 66) hx hb dX2_findReach_27 rfl (fun c1 => ?_) (fun c1 => ?_)
          · refine lv_iinc (v := v7_loc1 + Int32.ofInt (-1)) (lv' := [(1, .int (v7_loc1 + Int32.ofInt (-1))), (0, .ref on), (2, .int v22_loc2)]) hx hb dX2_findReach_66 hl (k := 1) rfl (rfl) (Nat.le_of_ble_eq_true rfl) rfl (fun ls hl => ?_)
            have b2 : iv (-1) 10 (v7_loc1 + Int32.ofInt (-1)) := iv_add h22_1 ivo_m1 (by decide) (by decide) (by decide) (by decide)
            refine lv_goto (tgt := 7) hx hb dX2_findReach_69 rfl ?_
            exact ih7 g22_5 (v7_loc1 + Int32.ofInt (-1)) _ _ _ (ms_dn (c := 1) (d := 0) h22_1 hm7 (by decide) (iv_inc (-1) h22_1 (by decide) (by decide) (by decide) (by decide)) (by decide) rfl) ((iv_w b2 (by decide) (by decide))) (h7_2) ((show FR7 (nF f_n_from) (nF f_n_to) (x_n 1).toNatClampNeg (x_n 0).toNatClampNeg g22_5 (v7_loc1 + Int32.ofInt (-1)) from fr_e hf22_22 h22_1 h22_2 ((hx_n 1 : iv 0 20 (x_n 1)) : iv 0 20 (x_n 1)) c1)) (hP) (hD) hS (lv_sub hl [1, 0] rfl)
          · have b3 : iv 0 19 v22_loc2 := iv_ltL (Int32.not_le.mp c1) h22_2 (hx_n 1 : iv 0 20 (x_n 1)) (by decide) (by decide)
            have b4 : iv 1 20 (x_n 1) := iv_ltR (Int32.not_le.mp c1) h22_2 (hx_n 1 : iv 0 20 (x_n 1)) (by decide) (by decide)
            refine lv_aload_n hx hb dX2_findReach_30 rfl (lv_at hl 0 rfl) ?_
            refine va_get (D := (dC, dI)) (ci := 2) (v := .ref n_from) (C := RX2) (T := TX2) (N := 15) hx hb hts hin2 hown hK hP 0 rfl rfl 4 (Nat.le_of_ble_eq_true rfl) hw_1 (fun _ h9 => h9) rfl dX2_findReach_31 ?_
            refine lv_iload_n hx hb dX2_findReach_34 rfl (lv_at hl 2 rfl) ?_
            refine va_iald hx hb hK hP 2 1 rfl rfl (iv_in b3 (by decide) (by decide)) dX2_findReach_35 ?_
            have b5 : iv 0 11 (f_n_from v22_loc2.toNatClampNeg) := hf_n_from _
            refine lv_iload_n hx hb dX2_findReach_36 rfl (lv_at hl 1 rfl) ?_
            refine lv_icmp_ne (tgt := 60) hx hb dX2_findReach_37 rfl (fun c6 => ?_) (fun c6 => ?_)
            · refine lv_iinc (v := v22_loc2 + Int32.ofInt 1) (lv' := [(2, .int (v22_loc2 + Int32.ofInt 1)), (0, .ref on), (1, .int v7_loc1)]) hx hb dX2_findReach_60 hl (k := 2) rfl (rfl) (Nat.le_of_ble_eq_true rfl) rfl (fun ls hl => ?_)
              have b7 : iv 1 20 (v22_loc2 + Int32.ofInt 1) := iv_add b3 ivo_1 (by decide) (by decide) (by decide) (by decide)
              refine lv_goto (tgt := 22) hx hb dX2_findReach_63 rfl ?_
              exact ih22 g22_5 (v22_loc2 + Int32.ofInt 1) _ _ _ (ms_up (c := 1) (d := 0) b3 hm22 (by decide) (iv_inc 1 b3 (by decide) (by decide) (by decide) (by decide)) (by decide) rfl) (h22_1) ((iv_w b7 (by decide) (by decide))) (h22_3) ((show FR22 (nF f_n_from) (nF f_n_to) (x_n 1).toNatClampNeg (x_n 0).toNatClampNeg g22_5 v7_loc1 (v22_loc2 + Int32.ofInt 1) from fr_n hf22_22 b3 (kl_lt (b3 : iv 0 19 v22_loc2) ((iv_w b4 (by decide) (by decide)) : iv 0 20 (x_n 1)) (Int32.not_le.mp c1)) h22_1 b5 c6)) (hP) (hD) hS (lv_sub hl [1, 2, 0] rfl)
            · refine lv_aload_n hx hb dX2_findReach_40 rfl (lv_at hl 0 rfl) ?_
              refine va_get (D := (dC, dI)) (ci := 2) (v := .ref n_reach) (C := RX2) (T := TX2) (N := 15) hx hb hts hin2 hown hK hP 0 rfl rfl 11 (Nat.le_of_ble_eq_true rfl) hw_2 (fun _ h9 => h9) rfl dX2_findReach_41 ?_
              refine lv_iload_n hx hb dX2_findReach_44 rfl (lv_at hl 1 rfl) ?_
              refine lv_dup2_11 hx hb dX2_findReach_45 rfl rfl ?_
              refine va_iald hx hb hK hP 5 1 rfl rfl (iv_in h22_1 (by decide) (by decide)) dX2_findReach_46 ?_
              refine lv_aload_n hx hb dX2_findReach_47 rfl (lv_at hl 0 rfl) ?_
              refine va_get (D := (dC, dI)) (ci := 2) (v := .ref n_reach) (C := RX2) (T := TX2) (N := 15) hx hb hts hin2 hown hK hP 0 rfl rfl 11 (Nat.le_of_ble_eq_true rfl) hw_2 (fun _ h9 => h9) rfl dX2_findReach_48 ?_
              refine lv_aload_n hx hb dX2_findReach_51 rfl (lv_at hl 0 rfl) ?_
              refine va_get (D := (dC, dI)) (ci := 2) (v := .ref n_to) (C := RX2) (T := TX2) (N := 15) hx hb hts hin2 hown hK hP 0 rfl rfl 5 (Nat.le_of_ble_eq_true rfl) hw_3 (fun _ h9 => h9) rfl dX2_findReach_52 ?_
              refine lv_iload_n hx hb dX2_findReach_55 rfl (lv_at hl 2 rfl) ?_
              refine va_iald hx hb hK hP 3 1 rfl rfl (iv_in b3 (by decide) (by decide)) dX2_findReach_56 ?_
              have b8 : iv 0 11 (f_n_to v22_loc2.toNatClampNeg) := hf_n_to _
              refine va_iald hx hb hK hP 5 1 rfl rfl (iv_in b8 (by decide) (by decide)) dX2_findReach_57 ?_
              refine lv_ior hx hb dX2_findReach_58 ?_
              refine va_iast hx hb hK hP hD hS 5 1 rfl rfl (iv_in h22_1 (by decide) (by decide)) dX2_findReach_59 (fun H locs hPa hDa hS => ?_)
              clear hP hD
              have hP : va_P (dC, dI) vwCl [(on, .inr (2, oX2 n_kind n_salt n_pace n_manner n_from n_to n_goal n_reach n_branches n_branch n_tally x_n)), (n_kind, .inl (kI, 12, .inl f_n_kind)), (n_from, .inl (kI, 20, .inl f_n_from)), (n_to, .inl (kI, 20, .inl f_n_to)), (n_goal, .inl (kI, 3, .inl f_n_goal)), (n_reach, .inl (kI, 12, .inl (upd g22_5 v7_loc1.toNatClampNeg ((g22_5 v7_loc1.toNatClampNeg) ||| (g22_5 (f_n_to v22_loc2.toNatClampNeg).toNatClampNeg)))))] H := hPa
              have hD : va_D A [(on, .inr (2, oX2 n_kind n_salt n_pace n_manner n_from n_to n_goal n_reach n_branches n_branch n_tally x_n)), (n_kind, .inl (kI, 12, .inl f_n_kind)), (n_from, .inl (kI, 20, .inl f_n_from)), (n_to, .inl (kI, 20, .inl f_n_to)), (n_goal, .inl (kI, 3, .inl f_n_goal)), (n_reach, .inl (kI, 12, .inl (upd g22_5 v7_loc1.toNatClampNeg ((g22_5 v7_loc1.toNatClampNeg) ||| (g22_5 (f_n_to v22_loc2.toNatClampNeg).toNatClampNeg)))))] := hDa
              clear hPa hDa
              have hfr10 : FR22 (nF f_n_from) (nF f_n_to) (x_n 1).toNatClampNeg (x_n 0).toNatClampNeg (upd g22_5 v7_loc1.toNatClampNeg ((g22_5 v7_loc1.toNatClampNeg) ||| (g22_5 (f_n_to v22_loc2.toNatClampNeg).toNatClampNeg))) v7_loc1 (v22_loc2 + Int32.ofInt 1) := fr_y hf22_22 hWF.1 b3 (kl_lt (b3 : iv 0 19 v22_loc2) ((iv_w b4 (by decide) (by decide)) : iv 0 20 (x_n 1)) (Int32.not_le.mp c1)) h22_1 c6
              generalize (upd g22_5 v7_loc1.toNatClampNeg ((g22_5 v7_loc1.toNatClampNeg) ||| (g22_5 (f_n_to v22_loc2.toNatClampNeg).toNatClampNeg))) = f9 at hP hD hfr10
              refine lv_iinc (v := v22_loc2 + Int32.ofInt 1) (lv' := [(2, .int (v22_loc2 + Int32.ofInt 1)), (0, .ref on), (1, .int v7_loc1)]) hx hb dX2_findReach_60 hl (k := 2) rfl (rfl) (Nat.le_of_ble_eq_true rfl) rfl (fun ls hl => ?_)
              have b11 : iv 1 20 (v22_loc2 + Int32.ofInt 1) := iv_add b3 ivo_1 (by decide) (by decide) (by decide) (by decide)
              refine lv_goto (tgt := 22) hx hb dX2_findReach_63 rfl ?_
              exact ih22 f9 (v22_loc2 + Int32.ofInt 1) _ _ _ (ms_up (c := 1) (d := 0) b3 hm22 (by decide) (iv_inc 1 b3 (by decide) (by decide) (by decide) (by decide)) (by decide) rfl) (h22_1) ((iv_w b11 (by decide) (by decide))) (h22_3) ((show FR22 (nF f_n_from) (nF f_n_to) (x_n 1).toNatClampNeg (x_n 0).toNatClampNeg f9 v7_loc1 (v22_loc2 + Int32.ofInt 1) from hfr10)) (hP) (hD) hS (lv_sub hl [1, 2, 0] rfl)
      refine lv_iload_n hx hb dX2_findReach_7 rfl (lv_at hl 1 rfl) ?_
      refine lv_if_lt (tgt := 72) hx hb dX2_findReach_8 rfl (fun c12 => ?_) (fun c12 => ?_)
      · have b13 : iv (-1) (-1) v7_loc1 := iv_ltL c12 h7_1 ivk_0 (by decide) (by decide)
        have hP9 := hP
        have hD9 := hD
        exact W.vret hx hb hr (fun t ht hW => ⟨⟨(), rfl, trivial, g7_5, (show RcC (nF f_n_from) (nF f_n_to) (x_n 1).toNatClampNeg (x_n 0).toNatClampNeg g7_5 from fr_x hf7_7 c12), by rw [ht]; exact hP9, hD9⟩, hS.F ht⟩) hS.2.2 dX2_findReach_72
      · have b14 : iv 0 11 v7_loc1 := iv_leR (Int32.not_lt.mp c12) ivk_0 h7_1 (by decide) (by decide)
        refine lv_aload_n hx hb dX2_findReach_11 rfl (lv_at hl 0 rfl) ?_
        refine va_get (D := (dC, dI)) (ci := 2) (v := .ref n_reach) (C := RX2) (T := TX2) (N := 15) hx hb hts hin2 hown hK hP 0 rfl rfl 11 (Nat.le_of_ble_eq_true rfl) hw_2 (fun _ h9 => h9) rfl dX2_findReach_12 ?_
        refine lv_iload_n hx hb dX2_findReach_15 rfl (lv_at hl 1 rfl) ?_
        refine lv_iconst (v := 1) hx hb dX2_findReach_16 ic_1 ?_
        refine lv_iload_n hx hb dX2_findReach_17 rfl (lv_at hl 1 rfl) ?_
        refine lv_ishl hx hb dX2_findReach_18 ?_
        have b15 : iv 0 2048 (1 <<< ((v7_loc1 : Int32) &&& 31)) := iv_shl1 11 b14 (by decide) (by decide) (by decide) (by decide)
        refine va_iast hx hb hK hP hD hS 5 1 rfl rfl (iv_in b14 (by decide) (by decide)) dX2_findReach_19 (fun H locs hPa hDa hS => ?_)
        clear hP hD
        have hP : va_P (dC, dI) vwCl [(on, .inr (2, oX2 n_kind n_salt n_pace n_manner n_from n_to n_goal n_reach n_branches n_branch n_tally x_n)), (n_kind, .inl (kI, 12, .inl f_n_kind)), (n_from, .inl (kI, 20, .inl f_n_from)), (n_to, .inl (kI, 20, .inl f_n_to)), (n_goal, .inl (kI, 3, .inl f_n_goal)), (n_reach, .inl (kI, 12, .inl (upd g7_5 v7_loc1.toNatClampNeg (1 <<< ((v7_loc1 : Int32) &&& 31)))))] H := hPa
        have hD : va_D A [(on, .inr (2, oX2 n_kind n_salt n_pace n_manner n_from n_to n_goal n_reach n_branches n_branch n_tally x_n)), (n_kind, .inl (kI, 12, .inl f_n_kind)), (n_from, .inl (kI, 20, .inl f_n_from)), (n_to, .inl (kI, 20, .inl f_n_to)), (n_goal, .inl (kI, 3, .inl f_n_goal)), (n_reach, .inl (kI, 12, .inl (upd g7_5 v7_loc1.toNatClampNeg (1 <<< ((v7_loc1 : Int32) &&& 31)))))] := hDa
        clear hPa hDa
        have hfr17 : FR22 (nF f_n_from) (nF f_n_to) (x_n 1).toNatClampNeg (x_n 0).toNatClampNeg (upd g7_5 v7_loc1.toNatClampNeg (1 <<< ((v7_loc1 : Int32) &&& 31))) v7_loc1 0 := fr_0 hf7_7 b14
        generalize (upd g7_5 v7_loc1.toNatClampNeg (1 <<< ((v7_loc1 : Int32) &&& 31))) = f16 at hP hD hfr17
        refine lv_iconst (v := 0) hx hb dX2_findReach_20 ic_0 ?_
        refine lv_istore_n (lv' := [(2, .int 0), (0, .ref on), (1, .int v7_loc1)]) hx hb dX2_findReach_21 rfl hl (Nat.le_of_ble_eq_true rfl) rfl (fun ls hl => ?_)
        exact hJ22 _ f16 0 _ _ _ (Nat.lt_succ_self _) (b14) ((iv_w ivk_0 (by decide) (by decide))) (b15) ((show FR22 (nF f_n_from) (nF f_n_to) (x_n 1).toNatClampNeg (x_n 0).toNatClampNeg f16 v7_loc1 0 from hfr17)) (hP) (hD) hS (lv_sub hl [1, 2, 0] rfl)
  refine lv_aload_n hx hb dX2_findReach_0 rfl (lv_at hl 0 rfl) ?_
  refine va_get (D := (dC, dI)) (ci := 2) (v := .int (x_n 0)) (C := RX2) (T := TX2) (N := 15) hx hb hts hin2 hown hK hP 0 rfl rfl 7 (Nat.le_of_ble_eq_true rfl) hw_4 (fun _ h9 => h9) rfl dX2_findReach_1 ?_
  refine lv_iconst (v := 1) hx hb dX2_findReach_4 ic_1 ?_
  refine lv_isub hx hb dX2_findReach_5 ?_
  have b18 : iv (-1) 11 ((x_n 0) - 1) := iv_sub (hx_n 0 : iv 0 12 (x_n 0)) ivk_1 (by decide) (by decide) (by decide) (by decide)
  refine lv_istore_n (lv' := [(1, .int ((x_n 0) - 1)), (0, .ref on)]) hx hb dX2_findReach_6 rfl hl (Nat.le_of_ble_eq_true rfl) rfl (fun ls hl => ?_)
  exact hJ7 _ f_n_reach ((x_n 0) - 1) _ _ _ (Nat.lt_succ_self _) (b18) (b18) ((show FR7 (nF f_n_from) (nF f_n_to) (x_n 1).toNatClampNeg (x_n 0).toNatClampNeg f_n_reach ((x_n 0) - 1) from fr_i ((hx_n 0 : iv 0 12 (x_n 0)) : iv 0 12 (x_n 0)))) (hP) (hD) hS (lv_sub hl [1, 0] rfl)
def rm_s2_addBranch_x : Room := { frames := 0, cells := 0, slots := 0, locals := 0 }
set_option maxHeartbeats 4000000 in
set_option maxRecDepth 100000 in
theorem s2_addBranch_x (l : Launch) (dC : Nat → ClassId) (dI : Nat → Nat → Nat) (kB kI kJ kZ kC kS : ClassId) (sz : Nat) (on : Nat) (n_kind : Nat) (n_salt : Nat) (n_pace : Nat) (n_manner : Nat) (n_from : Nat) (n_to : Nat) (n_goal : Nat) (n_reach : Nat) (n_branches : Nat) (n_branch : Nat) (n_tally : Nat) (x_n : Nat → Int32) (f_n_branches : Nat → Int32) (f_n_branch : Nat → Int32) (p0 : Int32) (p1 : Int32) (hx_n : fI lX2 hX2 x_n) (hf_n_branches : fI (fun _ => 0) (fun _ => 4) f_n_branches) (hf_n_branch : fI (fun _ => 0) (fun _ => 19) f_n_branch) (hp0 : iv 0 35 p0) (hp1 : iv 0 19 p1) (hb3 : iv 0 3 (f_n_branches p0.toNatClampNeg)) : Met l yX2_addBranch wsX2_addBranch rm_s2_addBranch_x (va_Pc [.ref on, .int p0, .int p1] (fun U => U.heap.size = sz ∧ va_P (dC, dI) vwCl [(on, .inr (2, oX2 n_kind n_salt n_pace n_manner n_from n_to n_goal n_reach n_branches n_branch n_tally x_n)), (n_branches, .inl (kI, 36, .inl f_n_branches)), (n_branch, .inl (kI, 144, .inl f_n_branch))] U.heap ∧ kE dC dI kB kI kJ kZ kC kS U ∧ va_D (fun _ => True) [(on, .inr (2, oX2 n_kind n_salt n_pace n_manner n_from n_to n_goal n_reach n_branches n_branch n_tally x_n)), (n_branches, .inl (kI, 36, .inl f_n_branches)), (n_branch, .inl (kI, 144, .inl f_n_branch))])) (va_Qv (fun (_ : Unit) => True) (fun _ t => ∃ (f_n_branches' : Nat → Int32) (f_n_branch' : Nat → Int32), fI (fun _ => 0) (fun _ => 4) f_n_branches' ∧ fI (fun _ => 0) (fun _ => 19) f_n_branch' ∧ (f_n_branches' = upd f_n_branches p0.toNatClampNeg ((f_n_branches p0.toNatClampNeg) + 1)) ∧ (f_n_branch' = upd f_n_branch ((p0 * 4) + (f_n_branches p0.toNatClampNeg)).toNatClampNeg p1) ∧ va_P (dC, dI) vwCl [(on, .inr (2, oX2 n_kind n_salt n_pace n_manner n_from n_to n_goal n_reach n_branches n_branch n_tally x_n)), (n_branches, .inl (kI, 36, .inl f_n_branches')), (n_branch, .inl (kI, 144, .inl f_n_branch'))] t.heap ∧ va_D (va_A [(on, .inr (2, oX2 n_kind n_salt n_pace n_manner n_from n_to n_goal n_reach n_branches n_branch n_tally x_n)), (n_branches, .inl (kI, 36, .inl f_n_branches)), (n_branch, .inl (kI, 144, .inl f_n_branch))] sz) [(on, .inr (2, oX2 n_kind n_salt n_pace n_manner n_from n_to n_goal n_reach n_branches n_branch n_tally x_n)), (n_branches, .inl (kI, 36, .inl f_n_branches')), (n_branch, .inl (kI, 144, .inl f_n_branch'))]) (va_A [(on, .inr (2, oX2 n_kind n_salt n_pace n_manner n_from n_to n_goal n_reach n_branches n_branch n_tally x_n)), (n_branches, .inl (kI, 36, .inl f_n_branches)), (n_branch, .inl (kI, 144, .inl f_n_branch))] sz)) 0 0 (va_A [(on, .inr (2, oX2 n_kind n_salt n_pace n_manner n_from n_to n_goal n_reach n_branches n_branch n_tally x_n)), (n_branches, .inl (kI, 36, .inl f_n_branches)), (n_branch, .inl (kI, 144, .inl f_n_branch))] sz) := by
  refine Met.ofW (cc := cX2_addBranch) (maxL := 3) (ret := none) (by decide) rfl ?_
  intro p e s m args0 below meth c s₁ B hml hv
  obtain ⟨hargs, hsz, hP, hE, hD0⟩ := hv
  have hx := B.exec
  have hb := B.bytes
  have hr := B.returns
  have hts := atoms_spec (ws := wsX2_addBranch) B.pre
  have hown : s.vm.findClass RX2 = some m.cls := findClass_of_methodNamed B.named
  have hlocks := B.notSynchronized
  have hK := hE.1
  have hin2 : ∀ w ∈ wsX20, w ∈ wsX2_addBranch := fun _ h9 => List.mem_cons_of_mem _ (List.mem_append_right _ h9)
  have hw_0 := hts (.fieldLink RX2 49 "PathProber$Net" "branches" "[I") (List.mem_of_getElem? (i := 1) rfl)
  have hw_1 := hts (.fieldLink RX2 52 "PathProber$Net" "branch" "[I") (List.mem_of_getElem? (i := 2) rfl)
  subst hsz
  have hD := hD0.self (sz := s.heap.size)
  generalize hAe : va_A [(on, .inr (2, oX2 n_kind n_salt n_pace n_manner n_from n_to n_goal n_reach n_branches n_branch n_tally x_n)), (n_branches, .inl (kI, 36, .inl f_n_branches)), (n_branch, .inl (kI, 144, .inl f_n_branch))] s.heap.size = A at hD ⊢
  have hA : ∀ q : Nat, s.heap.size ≤ q → A q := fun q h => by rw [← hAe]; exact Or.inr h
  have hS : va_S A s.heap s.heap [] := va_S.rf
  have hP : va_P (dC, dI) vwCl [(on, .inr (2, oX2 n_kind n_salt n_pace n_manner n_from n_to n_goal n_reach n_branches n_branch n_tally x_n)), (n_branches, .inl (kI, 36, .inl f_n_branches)), (n_branch, .inl (kI, 144, .inl f_n_branch))] s.heap := hP
  have hl := lv_entry ([.ref on, .int p0, .int p1]) (n := 3) (Nat.le_of_ble_eq_true rfl)
  have hla : entryFrame m args0 3 = entryFrame m ([.ref on, .int p0, .int p1] : List Value).toArray 3 := by rw [hargs]
  rw [hla, lg_entry_eq]
  generalize (lg_sl ([.ref on, .int p0, .int p1]) ++ List.replicate (3 - (lg_sl ([.ref on, .int p0, .int p1])).length) Slot.unset).toArray = ls at hl ⊢
  have hl : lv_has ls 3 [(0, .ref on), (1, .int p0), (2, .int p1)] := hl
  refine lv_aload_n hx hb dX2_addBranch_0 rfl (lv_at hl 0 rfl) ?_
  refine va_get (D := (dC, dI)) (ci := 2) (v := .ref n_branches) (C := RX2) (T := TX2) (N := 15) hx hb hts hin2 hown hK hP 0 rfl rfl 12 (Nat.le_of_ble_eq_true rfl) hw_0 (fun _ h9 => h9) rfl dX2_addBranch_1 ?_
  refine lv_iload_n hx hb dX2_addBranch_4 rfl (lv_at hl 1 rfl) ?_
  refine va_iald hx hb hK hP 1 1 rfl rfl (iv_in hp0 (by decide) (by decide)) dX2_addBranch_5 ?_
  refine lv_iconst (v := 4) hx hb dX2_addBranch_6 ic_4 ?_
  refine lv_icmp_ge (tgt := 36) hx hb dX2_addBranch_7 rfl (fun c9 => absurd c9 (iv_nle ivk_4 hb3 (by decide))) (fun _ => ?_)
  refine lv_aload_n hx hb dX2_addBranch_10 rfl (lv_at hl 0 rfl) ?_
  refine va_get (D := (dC, dI)) (ci := 2) (v := .ref n_branch) (C := RX2) (T := TX2) (N := 15) hx hb hts hin2 hown hK hP 0 rfl rfl 13 (Nat.le_of_ble_eq_true rfl) hw_1 (fun _ h9 => h9) rfl dX2_addBranch_11 ?_
  refine lv_iload_n hx hb dX2_addBranch_14 rfl (lv_at hl 1 rfl) ?_
  refine lv_iconst (v := 4) hx hb dX2_addBranch_15 ic_4 ?_
  refine lv_imul hx hb dX2_addBranch_16 ?_
  have b1 : iv 0 140 (p0 * 4) := iv_mul hp0 ivk_4 (by decide) (by decide) (by decide) (by decide) (by decide)
  refine lv_aload_n hx hb dX2_addBranch_17 rfl (lv_at hl 0 rfl) ?_
  refine va_get (D := (dC, dI)) (ci := 2) (v := .ref n_branches) (C := RX2) (T := TX2) (N := 15) hx hb hts hin2 hown hK hP 0 rfl rfl 12 (Nat.le_of_ble_eq_true rfl) hw_0 (fun _ h9 => h9) rfl dX2_addBranch_18 ?_
  refine lv_iload_n hx hb dX2_addBranch_21 rfl (lv_at hl 1 rfl) ?_
  refine va_iald hx hb hK hP 1 1 rfl rfl (iv_in hp0 (by decide) (by decide)) dX2_addBranch_22 ?_
  refine lv_iadd hx hb dX2_addBranch_23 ?_
  have b2 : iv 0 143 ((p0 * 4) + (f_n_branches p0.toNatClampNeg)) := iv_add b1 hb3 (by decide) (by decide) (by decide) (by decide)
  refine lv_iload_n hx hb dX2_addBranch_24 rfl (lv_at hl 2 rfl) ?_
  refine va_iast hx hb hK hP hD hS 2 1 rfl rfl (iv_in b2 (by decide) (by decide)) dX2_addBranch_25 (fun H locs hPa hDa hS => ?_)
  clear hP hD
  have hP : va_P (dC, dI) vwCl [(on, .inr (2, oX2 n_kind n_salt n_pace n_manner n_from n_to n_goal n_reach n_branches n_branch n_tally x_n)), (n_branches, .inl (kI, 36, .inl f_n_branches)), (n_branch, .inl (kI, 144, .inl (upd f_n_branch ((p0 * 4) + (f_n_branches p0.toNatClampNeg)).toNatClampNeg p1)))] H := hPa
  have hD : va_D A [(on, .inr (2, oX2 n_kind n_salt n_pace n_manner n_from n_to n_goal n_reach n_branches n_branch n_tally x_n)), (n_branches, .inl (kI, 36, .inl f_n_branches)), (n_branch, .inl (kI, 144, .inl (upd f_n_branch ((p0 * 4) + (f_n_branches p0.toNatClampNeg)).toNatClampNeg p1)))] := hDa
  clear hPa hDa
  refine lv_aload_n hx hb dX2_addBranch_26 rfl (lv_at hl 0 rfl) ?_
  refine va_get (D := (dC, dI)) (ci := 2) (v := .ref n_branches) (C := RX2) (T := TX2) (N := 15) hx hb hts hin2 hown hK hP 0 rfl rfl 12 (Nat.le_of_ble_eq_true rfl) hw_0 (fun _ h9 => h9) rfl dX2_addBranch_27 ?_
  refine lv_iload_n hx hb dX2_addBranch_30 rfl (lv_at hl 1 rfl) ?_
  refine lv_dup2_11 hx hb dX2_addBranch_31 rfl rfl ?_
  refine va_iald hx hb hK hP 1 1 rfl rfl (iv_in hp0 (by decide) (by decide)) dX2_addBranch_32 ?_
  refine lv_iconst (v := 1) hx hb dX2_addBranch_33 ic_1 ?_
  refine lv_iadd hx hb dX2_addBranch_34 ?_
  have b3 : iv 1 4 ((f_n_branches p0.toNatClampNeg) + 1) := iv_add hb3 ivk_1 (by decide) (by decide) (by decide) (by decide)
  refine va_iast hx hb hK hP hD hS 1 1 rfl rfl (iv_in hp0 (by decide) (by decide)) dX2_addBranch_35 (fun H locs hPa hDa hS => ?_)
  clear hP hD
  have hP : va_P (dC, dI) vwCl [(on, .inr (2, oX2 n_kind n_salt n_pace n_manner n_from n_to n_goal n_reach n_branches n_branch n_tally x_n)), (n_branches, .inl (kI, 36, .inl (upd f_n_branches p0.toNatClampNeg ((f_n_branches p0.toNatClampNeg) + 1)))), (n_branch, .inl (kI, 144, .inl (upd f_n_branch ((p0 * 4) + (f_n_branches p0.toNatClampNeg)).toNatClampNeg p1)))] H := hPa
  have hD : va_D A [(on, .inr (2, oX2 n_kind n_salt n_pace n_manner n_from n_to n_goal n_reach n_branches n_branch n_tally x_n)), (n_branches, .inl (kI, 36, .inl (upd f_n_branches p0.toNatClampNeg ((f_n_branches p0.toNatClampNeg) + 1)))), (n_branch, .inl (kI, 144, .inl (upd f_n_branch ((p0 * 4) + (f_n_branches p0.toNatClampNeg)).toNatClampNeg p1)))] := hDa
  clear hPa hDa
  have hP9 := hP
  have hD9 := hD
  exact W.vret hx hb hr (fun t ht hW => ⟨⟨(), rfl, trivial, upd f_n_branches p0.toNatClampNeg ((f_n_branches p0.toNatClampNeg) + 1), upd f_n_branch ((p0 * 4) + (f_n_branches p0.toNatClampNeg)).toNatClampNeg p1, (fI_u hf_n_branches (k := p0.toNatClampNeg) ((iv_w b3 (by decide) (by decide)))), (fI_u hf_n_branch (k := ((p0 * 4) + (f_n_branches p0.toNatClampNeg)).toNatClampNeg) (hp1)), rfl, rfl, by rw [ht]; exact hP9, hD9⟩, hS.F ht⟩) hS.2.2 dX2_addBranch_36
