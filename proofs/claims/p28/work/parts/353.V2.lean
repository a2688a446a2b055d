def rm_s2_hasGoal_ghi : Room := { frames := 0, cells := 0, slots := 0, locals := 0 }
set_option maxHeartbeats 4000000 in
set_option maxRecDepth 100000 in
theorem s2_hasGoal_ghi (l : Launch) (dC : Nat → ClassId) (dI : Nat → Nat → Nat) (kB kI kJ kZ kC kS : ClassId) (sz : Nat) (on : Nat) (n_kind : Nat) (n_salt : Nat) (n_pace : Nat) (n_manner : Nat) (n_from : Nat) (n_to : Nat) (n_goal : Nat) (n_reach : Nat) (n_branches : Nat) (n_branch : Nat) (n_tally : Nat) (x_n : Nat → Int32) (p0 : Int32) (hx_n : fI lX2 hX2 x_n) (hg : x_n 2 ≤ p0) : Met l yX2_hasGoal wsX2_hasGoal rm_s2_hasGoal_ghi (va_Pc [.ref on, .int p0] (fun U => U.heap.size = sz ∧ va_P (dC, dI) vwCl [(on, .inr (2, oX2 n_kind n_salt n_pace n_manner n_from n_to n_goal n_reach n_branches n_branch n_tally x_n))] U.heap ∧ kE dC dI kB kI kJ kZ kC kS U ∧ va_D (fun _ => True) [(on, .inr (2, oX2 n_kind n_salt n_pace n_manner n_from n_to n_goal n_reach n_branches n_branch n_tally x_n))])) (va_Qi (fun (r : Int32) (_ : Unit) => iv 0 0 r) (fun _ t => va_P (dC, dI) vwCl [(on, .inr (2, oX2 n_kind n_salt n_pace n_manner n_from n_to n_goal n_reach n_branches n_branch n_tally x_n))] t.heap ∧ va_D (va_A [(on, .inr (2, oX2 n_kind n_salt n_pace n_manner n_from n_to n_goal n_reach n_branches n_branch n_tally x_n))] sz) [(on, .inr (2, oX2 n_kind n_salt n_pace n_manner n_from n_to n_goal n_reach n_branches n_branch n_tally x_n))]) (va_A [(on, .inr (2, oX2 n_kind n_salt n_pace n_manner n_from n_to n_goal n_reach n_branches n_branch n_tally x_n))] sz)) 0 0 (va_A [(on, .inr (2, oX2 n_kind n_salt n_pace n_manner n_from n_to n_goal n_reach n_branches n_branch n_tally x_n))] sz) := by
  refine Met.ofW (cc := cX2_hasGoal) (maxL := 2) (ret := (some .boolean)) (by decide) rfl ?_
  intro p e s m args0 below meth c s₁ B hml hv
  obtain ⟨hargs, hsz, hP, hE, hD0⟩ := hv
  have hx := B.exec
  have hb := B.bytes
  have hr := B.returns
  have hts := atoms_spec (ws := wsX2_hasGoal) B.pre
  have hown : s.vm.findClass RX2 = some m.cls := findClass_of_methodNamed B.named
  have hlocks := B.notSynchronized
  have hK := hE.1
  have hin2 : ∀ w ∈ wsX20, w ∈ wsX2_hasGoal := fun _ h9 => List.mem_cons_of_mem _ (List.mem_append_right _ h9)
  have hw_0 := hts (.fieldLink RX2 40 "PathProber$Net" "goals" "I") (List.mem_of_getElem? (i := 1) rfl)
  subst hsz
  have hD := hD0.self (sz := s.heap.size)
  generalize hAe : va_A [(on, .inr (2, oX2 n_kind n_salt n_pace n_manner n_from n_to n_goal n_reach n_branches n_branch n_tally x_n))] s.heap.size = A at hD ⊢
  have hA : ∀ q : Nat, s.heap.size ≤ q → A q := fun q h => by rw [← hAe]; exact Or.inr h
  have hS : va_S A s.heap s.heap [] := va_S.rf
  have hP : va_P (dC, dI) vwCl [(on, .inr (2, oX2 n_kind n_salt n_pace n_manner n_from n_to n_goal n_reach n_branches n_branch n_tally x_n))] s.heap := hP
  have hl := lv_entry ([.ref on, .int p0]) (n := 2) (Nat.le_of_ble_eq_true rfl)
  have hla : entryFrame m args0 2 = entryFrame m ([.ref on, .int p0] : List Value).toArray 2 := by rw [hargs]
  rw [hla, lg_entry_eq]
  generalize (lg_sl ([.ref on, .int p0]) ++ List.replicate (2 - (lg_sl ([.ref on, .int p0])).length) Slot.unset).toArray = ls at hl ⊢
  have hl : lv_has ls 2 [(0, .ref on), (1, .int p0)] := hl
  refine lv_iload_n hx hb dX2_hasGoal_0 rfl (lv_at hl 1 rfl) ?_
  refine lv_if_lt (tgt := 16) hx hb dX2_hasGoal_1 rfl (fun c1 => ?_) (fun c1 => ?_)
  · have b2 : iv (-2147483648) (-1) p0 := iv_ltL c1 (iv_t p0) ivk_0 (by decide) (by decide)
    refine lv_iconst (v := 0) hx hb dX2_hasGoal_16 ic_0 ?_
    have hP9 := hP
    have hD9 := hD
    exact W.zret (v := 0) (ty := .boolean) hx hb hr rfl (fun t ht hW => ⟨⟨0, (), rfl, ivk_0, by rw [ht]; exact hP9, hD9⟩, hS.F ht⟩) hS.2.2 dX2_hasGoal_17
  · have b3 : iv 0 2147483647 p0 := iv_leR (Int32.not_lt.mp c1) ivk_0 (iv_t p0) (by decide) (by decide)
    refine lv_iload_n hx hb dX2_hasGoal_4 rfl (lv_at hl 1 rfl) ?_
    refine lv_aload_n hx hb dX2_hasGoal_5 rfl (lv_at hl 0 rfl) ?_
    refine va_get (D := (dC, dI)) (ci := 2) (v := .int (x_n 2)) (C := RX2) (T := TX2) (N := 15) hx hb hts hin2 hown hK hP 0 rfl rfl 9 (Nat.le_of_ble_eq_true rfl) hw_0 (fun _ h9 => h9) rfl dX2_hasGoal_6 ?_
    refine lv_icmp_ge (tgt := 16) hx hb dX2_hasGoal_9 rfl (fun _ => ?_) (fun c9 => absurd (hg) c9)
    refine lv_iconst (v := 0) hx hb dX2_hasGoal_16 ic_0 ?_
    have hP9 := hP
    have hD9 := hD
    exact W.zret (v := 0) (ty := .boolean) hx hb hr rfl (fun t ht hW => ⟨⟨0, (), rfl, ivk_0, by rw [ht]; exact hP9, hD9⟩, hS.F ht⟩) hS.2.2 dX2_hasGoal_17
def rm_s2_hasGoal_in : Room := { frames := 0, cells := 0, slots := 0, locals := 0 }
set_option maxHeartbeats 4000000 in
set_option maxRecDepth 100000 in
theorem s2_hasGoal_in (l : Launch) (dC : Nat → ClassId) (dI : Nat → Nat → Nat) (kB kI kJ kZ kC kS : ClassId) (sz : Nat) (on : Nat) (n_kind : Nat) (n_salt : Nat) (n_pace : Nat) (n_manner : Nat) (n_from : Nat) (n_to : Nat) (n_goal : Nat) (n_reach : Nat) (n_branches : Nat) (n_branch : Nat) (n_tally : Nat) (x_n : Nat → Int32) (p0 : Int32) (hx_n : fI lX2 hX2 x_n) (hp0 : iv 0 2 p0) (hg : p0 < x_n 2) : Met l yX2_hasGoal wsX2_hasGoal rm_s2_hasGoal_in (va_Pc [.ref on, .int p0] (fun U => U.heap.size = sz ∧ va_P (dC, dI) vwCl [(on, .inr (2, oX2 n_kind n_salt n_pace n_manner n_from n_to n_goal n_reach n_branches n_branch n_tally x_n))] U.heap ∧ kE dC dI kB kI kJ kZ kC kS U ∧ va_D (fun _ => True) [(on, .inr (2, oX2 n_kind n_salt n_pace n_manner n_from n_to n_goal n_reach n_branches n_branch n_tally x_n))])) (va_Qi (fun (r : Int32) (_ : Unit) => iv 1 1 r) (fun _ t => va_P (dC, dI) vwCl [(on, .inr (2, oX2 n_kind n_salt n_pace n_manner n_from n_to n_goal n_reach n_branches n_branch n_tally x_n))] t.heap ∧ va_D (va_A [(on, .inr (2, oX2 n_kind n_salt n_pace n_manner n_from n_to n_goal n_reach n_branches n_branch n_tally x_n))] sz) [(on, .inr (2, oX2 n_kind n_salt n_pace n_manner n_from n_to n_goal n_reach n_branches n_branch n_tally x_n))]) (va_A [(on, .inr (2, oX2 n_kind n_salt n_pace n_manner n_from n_to n_goal n_reach n_branches n_branch n_tally x_n))] sz)) 0 0 (va_A [(on, .inr (2, oX2 n_kind n_salt n_pace n_manner n_from n_to n_goal n_reach n_branches n_branch n_tally x_n))] sz) := by
  refine Met.ofW (cc := cX2_hasGoal) (maxL := 2) (ret := (some .boolean)) (by decide) rfl ?_
  intro p e s m args0 below meth c s₁ B hml hv
  obtain ⟨hargs, hsz, hP, hE, hD0⟩ := hv
  have hx := B.exec
  have hb := B.bytes
  have hr := B.returns
  have hts := atoms_spec (ws := wsX2_hasGoal) B.pre
  have hown : s.vm.findClass RX2 = some m.cls := findClass_of_methodNamed B.named
  have hlocks := B.notSynchronized
  have hK := hE.1
  have hin2 : ∀ w ∈ wsX20, w ∈ wsX2_hasGoal := fun _ h9 => List.mem_cons_of_mem _ (List.mem_append_right _ h9)
  have hw_0 := hts (.fieldLink RX2 40 "PathProber$Net" "goals" "I") (List.mem_of_getElem? (i := 1) rfl)
  subst hsz
  have hD := hD0.self (sz := s.heap.size)
  generalize hAe : va_A [(on, .inr (2, oX2 n_kind n_salt n_pace n_manner n_from n_to n_goal n_reach n_branches n_branch n_tally x_n))] s.heap.size = A at hD ⊢
  have hA : ∀ q : Nat, s.heap.size ≤ q → A q := fun q h => by rw [← hAe]; exact Or.inr h
  have hS : va_S A s.heap s.heap [] := va_S.rf
  have hP : va_P (dC, dI) vwCl [(on, .inr (2, oX2 n_kind n_salt n_pace n_manner n_from n_to n_goal n_reach n_branches n_branch n_tally x_n))] s.heap := hP
  have hl := lv_entry ([.ref on, .int p0]) (n := 2) (Nat.le_of_ble_eq_true rfl)
  have hla : entryFrame m args0 2 = entryFrame m ([.ref on, .int p0] : List Value).toArray 2 := by rw [hargs]
  rw [hla, lg_entry_eq]
  generalize (lg_sl ([.ref on, .int p0]) ++ List.replicate (2 - (lg_sl ([.ref on, .int p0])).length) Slot.unset).toArray = ls at hl ⊢
  have hl : lv_has ls 2 [(0, .ref on), (1, .int p0)] := hl
  refine lv_iload_n hx hb dX2_hasGoal_0 rfl (lv_at hl 1 rfl) ?_
  refine lv_if_lt (tgt := 16) hx hb dX2_hasGoal_1 rfl (fun c9 => absurd c9 (iv_nlt hp0 ivk_0 (by decide))) (fun _ => ?_)
  refine lv_iload_n hx hb dX2_hasGoal_4 rfl (lv_at hl 1 rfl) ?_
  refine lv_aload_n hx hb dX2_hasGoal_5 rfl (lv_at hl 0 rfl) ?_
  refine va_get (D := (dC, dI)) (ci := 2) (v := .int (x_n 2)) (C := RX2) (T := TX2) (N := 15) hx hb hts hin2 hown hK hP 0 rfl rfl 9 (Nat.le_of_ble_eq_true rfl) hw_0 (fun _ h9 => h9) rfl dX2_hasGoal_6 ?_
  refine lv_icmp_ge (tgt := 16) hx hb dX2_hasGoal_9 rfl (fun c9 => absurd c9 (Int32.not_le.mpr hg)) (fun _ => ?_)
  refine lv_iconst (v := 1) hx hb dX2_hasGoal_12 ic_1 ?_
  refine lv_goto (tgt := 17) hx hb dX2_hasGoal_13 rfl ?_
  have hP9 := hP
  have hD9 := hD
  exact W.zret (v := 1) (ty := .boolean) hx hb hr rfl (fun t ht hW => ⟨⟨1, (), rfl, ivk_1, by rw [ht]; exact hP9, hD9⟩, hS.F ht⟩) hS.2.2 dX2_hasGoal_17
def rm_s2_hasAddress_no : Room := { frames := 0, cells := 0, slots := 0, locals := 0 }
set_option maxHeartbeats 4000000 in
set_option maxRecDepth 100000 in
theorem s2_hasAddress_no (l : Launch) (dC : Nat → ClassId) (dI : Nat → Nat → Nat) (kB kI kJ kZ kC kS : ClassId) (sz : Nat) (on : Nat) (n_kind : Nat) (n_salt : Nat) (n_pace : Nat) (n_manner : Nat) (n_from : Nat) (n_to : Nat) (n_goal : Nat) (n_reach : Nat) (n_branches : Nat) (n_branch : Nat) (n_tally : Nat) (x_n : Nat → Int32) (p0 : Int32) (hx_n : fI lX2 hX2 x_n) (h0 : x_n 0 ≤ 0) : Met l yX2_hasAddress wsX2_hasAddress rm_s2_hasAddress_no (va_Pc [.ref on, .int p0] (fun U => U.heap.size = sz ∧ va_P (dC, dI) vwCl [(on, .inr (2, oX2 n_kind n_salt n_pace n_manner n_from n_to n_goal n_reach n_branches n_branch n_tally x_n))] U.heap ∧ kE dC dI kB kI kJ kZ kC kS U ∧ va_D (fun _ => True) [(on, .inr (2, oX2 n_kind n_salt n_pace n_manner n_from n_to n_goal n_reach n_branches n_branch n_tally x_n))])) (va_Qi (fun (r : Int32) (_ : Unit) => iv 0 0 r) (fun _ t => va_P (dC, dI) vwCl [(on, .inr (2, oX2 n_kind n_salt n_pace n_manner n_from n_to n_goal n_reach n_branches n_branch n_tally x_n))] t.heap ∧ va_D (va_A [(on, .inr (2, oX2 n_kind n_salt n_pace n_manner n_from n_to n_goal n_reach n_branches n_branch n_tally x_n))] sz) [(on, .inr (2, oX2 n_kind n_salt n_pace n_manner n_from n_to n_goal n_reach n_branches n_branch n_tally x_n))]) (va_A [(on, .inr (2, oX2 n_kind n_salt n_pace n_manner n_from n_to n_goal n_reach n_branches n_branch n_tally x_n))] sz)) 0 0 (va_A [(on, .inr (2, oX2 n_kind n_salt n_pace n_manner n_from n_to n_goal n_reach n_branches n_branch n_tally x_n))] sz) := by
  refine Met.ofW (cc := cX2_hasAddress) (maxL := 2) (ret := (some .boolean)) (by decide) rfl ?_
  intro p e s m args0 below meth c s₁ B hml hv
  obtain ⟨hargs, hsz, hP, hE, hD0⟩ := hv
  have hx := B.exec
  have hb := B.bytes
  have hr := B.returns
  have hts := atoms_spec (ws := wsX2_hasAddress) B.pre
  have hown : s.vm.findClass RX2 = some m.cls := findClass_of_methodNamed B.named
  have hlocks := B.notSynchronized
  have hK := hE.1
  have hin2 : ∀ w ∈ wsX20, w ∈ wsX2_hasAddress := fun _ h9 => List.mem_cons_of_mem _ (List.mem_append_right _ h9)
  have hw_0 := hts (.fieldLink RX2 33 "PathProber$Net" "routers" "I") (List.mem_of_getElem? (i := 1) rfl)
  subst hsz
  have hD := hD0.self (sz := s.heap.size)
  generalize hAe : va_A [(on, .inr (2, oX2 n_kind n_salt n_pace n_manner n_from n_to n_goal n_reach n_branches n_branch n_tally x_n))] s.heap.size = A at hD ⊢
  have hA : ∀ q : Nat, s.heap.size ≤ q → A q := fun q h => by rw [← hAe]; exact Or.inr h
  have hS : va_S A s.heap s.heap [] := va_S.rf
  have hP : va_P (dC, dI) vwCl [(on, .inr (2, oX2 n_kind n_salt n_pace n_manner n_from n_to n_goal n_reach n_branches n_branch n_tally x_n))] s.heap := hP
  have hl := lv_entry ([.ref on, .int p0]) (n := 2) (Nat.le_of_ble_eq_true rfl)
  have hla : entryFrame m args0 2 = entryFrame m ([.ref on, .int p0] : List Value).toArray 2 := by rw [hargs]
  rw [hla, lg_entry_eq]
  generalize (lg_sl ([.ref on, .int p0]) ++ List.replicate (2 - (lg_sl ([.ref on, .int p0])).length) Slot.unset).toArray = ls at hl ⊢
  have hl : lv_has ls 2 [(0, .ref on), (1, .int p0)] := hl
  refine lv_aload_n hx hb dX2_hasAddress_0 rfl (lv_at hl 0 rfl) ?_
  refine va_get (D := (dC, dI)) (ci := 2) (v := .int (x_n 0)) (C := RX2) (T := TX2) (N := 15) hx hb hts hin2 hown hK hP 0 rfl rfl 7 (Nat.le_of_ble_eq_true rfl) hw_0 (fun _ h9 => h9) rfl dX2_hasAddress_1 ?_
  refine lv_if_le (tgt := 23) hx hb dX2_hasAddress_4 rfl (fun _ => ?_) (fun c9 => absurd (h0) c9)
  refine lv_iconst (v := 0) hx hb dX2_hasAddress_23 ic_0 ?_
  have hP9 := hP
  have hD9 := hD
  exact W.zret (v := 0) (ty := .boolean) hx hb hr rfl (fun t ht hW => ⟨⟨0, (), rfl, ivk_0, by rw [ht]; exact hP9, hD9⟩, hS.F ht⟩) hS.2.2 dX2_hasAddress_24
