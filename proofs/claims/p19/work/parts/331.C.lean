def rm_s2_hasGoal : Room := { frames := 0, cells := 0, slots := 0, locals := 0 }
set_option maxHeartbeats 4000000 in
set_option maxRecDepth 100000 in
theorem s2_hasGoal (l : Launch) (dC : Nat → ClassId) (dI : Nat → Nat → Nat) (kB kI kJ kZ kC kS : ClassId) (sz : Nat) (on : Nat) (n_kind : Nat) (n_salt : Nat) (n_pace : Nat) (n_manner : Nat) (n_from : Nat) (n_to : Nat) (n_goal : Nat) (n_reach : Nat) (n_branches : Nat) (n_branch : Nat) (n_tally : Nat) (x_n : Nat → Int32) (p0 : Int32) (hx_n : fI lX2 hX2 x_n) : Met l yX2_hasGoal wsX2_hasGoal rm_s2_hasGoal (va_Pc [.ref on, .int p0] (fun U => U.heap.size = sz ∧ va_P (dC, dI) vwCl [(on, .inr (2, oX2 n_kind n_salt n_pace n_manner n_from n_to n_goal n_reach n_branches n_branch n_tally x_n))] U.heap ∧ kE dC dI kB kI kJ kZ kC kS U ∧ va_D (fun _ => True) [(on, .inr (2, oX2 n_kind n_salt n_pace n_manner n_from n_to n_goal n_reach n_branches n_branch n_tally x_n))])) (va_Qi (fun (r : Int32) (_ : Unit) => iv 0 1 r ∧ (r = 0 ∨ iv 0 2 p0)) (fun _ t => va_P (dC, dI) vwCl [(on, .inr (2, oX2 n_kind n_salt n_pace n_manner n_from n_to n_goal n_reach n_branches n_branch n_tally x_n))] t.heap ∧ va_D (va_A [(on, .inr (2, oX2 n_kind n_salt n_pace n_manner n_from n_to n_goal n_reach n_branches n_branch n_tally x_n))] sz) [(on, .inr (2, oX2 n_kind n_salt n_pace n_manner n_from n_to n_goal n_reach n_branches n_branch n_tally x_n))]) (va_A [(on, .inr (2, oX2 n_kind n_salt n_pace n_manner n_from n_to n_goal n_reach n_branches n_branch n_tally x_n))] sz)) 0 0 (va_A [(on, .inr (2, oX2 n_kind n_salt n_pace n_manner n_from n_to n_goal n_reach n_branches n_branch n_tally x_n))] sz) := by
  refine Met.ofW (cc := cX2_hasGoal) (maxL := 2) (ret := (some .boolean)) (by decide) rfl ?_
  intro p e s m args0 below meth c s₁ B hml hv
  obtain ⟨hargs, hsz, hP, hE, hD0⟩ := hv
  have hx := B.exec
  have hb := B.bytes
  have hr := B.returns
  have hts := atoms_spec (ws := wsX2_hasGoal) B.pre
  have hown : s.vm.findClass RX2 = some m.cls := findClass_of_methodNamed B.named
  have hlocks := B.notSynchronized
  have hK := hE.1
  have hin2 : ∀ w ∈ wsX20, w ∈ wsX2_hasGoal := fun _ h9 => List.mem_cons_of_mem _ (List.mem_append_right _ h9)
  have hw_0 := hts (.fieldLink RX2 40 "PathProber$Net" "goals" "I") (List.mem_of_getElem? (i := 1) rfl)
  subst hsz
  have hD := hD0.self (sz := s.heap.size)
  generalize hAe : va_A [(on, .inr (2, oX2 n_kind n_salt n_pace n_manner n_from n_to n_goal n_reach n_branches n_branch n_tally x_n))] s.heap.size = A at hD ⊢
  have hA : ∀ q : Nat, s.heap.size ≤ q → A q := fun q h => by rw [← hAe]; exact Or.inr h
  have hS : va_S A s.heap s.heap [] := va_S.rf
  have hP : va_P (dC, dI) vwCl [(on, .inr (2, oX2 n_kind n_salt n_pace n_manner n_from n_to n_goal n_reach n_branches n_branch n_tally x_n))] s.heap := hP
  have hl := lv_entry ([.ref on, .int p0]) (n := 2) (Nat.le_of_ble_eq_true rfl)
  have hla : entryFrame m args0 2 = entryFrame m ([.ref on, .int p0] : List Value).toArray 2 := by rw [hargs]
  rw [hla, lg_entry_eq]
  generalize (lg_sl ([.ref on, .int p0]) ++ List.replicate (2 - (lg_sl ([.ref on, .int p0])).length) Slot.unset).toArray = ls at hl ⊢
  have hl : lv_has ls 2 [(0, .ref on), (1, .int p0)] := hl
  have hJ16 : ∀ (H : Heap) (locs : List Loc) (ls : Array Slot), iv (-2147483648) 2147483647 p0 → va_P (dC, dI) vwCl [(on, .inr (2, oX2 n_kind n_salt n_pace n_manner n_from n_to n_goal n_reach n_branches n_branch n_tally x_n))] H → va_D A [(on, .inr (2, oX2 n_kind n_salt n_pace n_manner n_from n_to n_goal n_reach n_branches n_branch n_tally x_n))] → va_S A s.heap H locs → lv_has ls 2 [(0, .ref on), (1, .int p0)] → W p l e (headSpec wsX2_hasGoal rm_s2_hasGoal).room s m args0 below meth c H locs (0) (0) (MQ below (va_Qi (fun (r : Int32) (_ : Unit) => iv 0 1 r ∧ (r = 0 ∨ iv 0 2 p0)) (fun _ t => va_P (dC, dI) vwCl [(on, .inr (2, oX2 n_kind n_salt n_pace n_manner n_from n_to n_goal n_reach n_branches n_branch n_tally x_n))] t.heap ∧ va_D A [(on, .inr (2, oX2 n_kind n_salt n_pace n_manner n_from n_to n_goal n_reach n_branches n_branch n_tally x_n))]) A) args0 s 0 0 A) (F0 m 16 ls []) := by
    intro H locs ls h16_1 hP hD hS hl
    refine lv_iconst (v := 0) hx hb dX2_hasGoal_16 ic_0 ?_
    have hP9 := hP
    have hD9 := hD
    exact W.zret (v := 0) (ty := .boolean) hx hb hr rfl (fun t ht hW => ⟨⟨0, (), rfl, ⟨(iv_w ivk_0 (by decide) (by decide)), Or.inl rfl⟩, by rw [ht]; exact hP9, hD9⟩, hS.F ht⟩) hS.2.2 dX2_hasGoal_17
  refine lv_iload_n hx hb dX2_hasGoal_0 rfl (lv_at hl 1 rfl) ?_
  refine lv_if_lt (tgt := 16) hx hb dX2_hasGoal_1 rfl (fun c1 => ?_) (fun c1 => ?_)
  · have b2 : iv (-2147483648) (-1) p0 := iv_ltL c1 (iv_t p0) ivk_0 (by decide) (by decide)
    exact hJ16 _ _ _ ((iv_w b2 (by decide) (by decide))) (hP) (hD) hS (lv_sub hl [0, 1] rfl)
  · have b3 : iv 0 2147483647 p0 := iv_leR (Int32.not_lt.mp c1) ivk_0 (iv_t p0) (by decide) (by decide)
    refine lv_iload_n hx hb dX2_hasGoal_4 rfl (lv_at hl 1 rfl) ?_
    refine lv_aload_n hx hb dX2_hasGoal_5 rfl (lv_at hl 0 rfl) ?_
    refine va_get (D := (dC, dI)) (ci := 2) (v := .int (x_n 2)) (C := RX2) (T := TX2) (N := 15) hx hb hts hin2 hown hK hP 0 rfl rfl 9 (Nat.le_of_ble_eq_true rfl) hw_0 (fun _ h9 => h9) rfl dX2_hasGoal_6 ?_
    refine lv_icmp_ge (tgt := 16) hx hb dX2_hasGoal_9 rfl (fun c4 => ?_) (fun c4 => ?_)
    · exact hJ16 _ _ _ ((iv_w b3 (by decide) (by decide))) (hP) (hD) hS (lv_sub hl [0, 1] rfl)
    · have b5 : iv 0 2 p0 := iv_ltL (Int32.not_le.mp c4) b3 (hx_n 2 : iv 0 3 (x_n 2)) (by decide) (by decide)
      have b6 : iv 1 3 (x_n 2) := iv_ltR (Int32.not_le.mp c4) b3 (hx_n 2 : iv 0 3 (x_n 2)) (by decide) (by decide)
      refine lv_iconst (v := 1) hx hb dX2_hasGoal_12 ic_1 ?_
      refine lv_goto (tgt := 17) hx hb dX2_hasGoal_13 rfl ?_
      have hP9 := hP
      have hD9 := hD
      exact W.zret (v := 1) (ty := .boolean) hx hb hr rfl (fun t ht hW => ⟨⟨1, (), rfl, ⟨(iv_w ivk_1 (by decide) (by decide)), Or.inr (b5)⟩, by rw [ht]; exact hP9, hD9⟩, hS.F ht⟩) hS.2.2 dX2_hasGoal_17
def rm_s2_hasAddress : Room := { frames := 0, cells := 0, slots := 0, locals := 0 }
set_option maxHeartbeats 4000000 in
set_option maxRecDepth 100000 in
theorem s2_hasAddress (l : Launch) (dC : Nat → ClassId) (dI : Nat → Nat → Nat) (kB kI kJ kZ kC kS : ClassId) (sz : Nat) (on : Nat) (n_kind : Nat) (n_salt : Nat) (n_pace : Nat) (n_manner : Nat) (n_from : Nat) (n_to : Nat) (n_goal : Nat) (n_reach : Nat) (n_branches : Nat) (n_branch : Nat) (n_tally : Nat) (x_n : Nat → Int32) (p0 : Int32) (hx_n : fI lX2 hX2 x_n) : Met l yX2_hasAddress wsX2_hasAddress rm_s2_hasAddress (va_Pc [.ref on, .int p0] (fun U => U.heap.size = sz ∧ va_P (dC, dI) vwCl [(on, .inr (2, oX2 n_kind n_salt n_pace n_manner n_from n_to n_goal n_reach n_branches n_branch n_tally x_n))] U.heap ∧ kE dC dI kB kI kJ kZ kC kS U ∧ va_D (fun _ => True) [(on, .inr (2, oX2 n_kind n_salt n_pace n_manner n_from n_to n_goal n_reach n_branches n_branch n_tally x_n))])) (va_Qi (fun (r : Int32) (_ : Unit) => iv 0 1 r ∧ (r = 0 ∨ iv 0 20 p0)) (fun _ t => va_P (dC, dI) vwCl [(on, .inr (2, oX2 n_kind n_salt n_pace n_manner n_from n_to n_goal n_reach n_branches n_branch n_tally x_n))] t.heap ∧ va_D (va_A [(on, .inr (2, oX2 n_kind n_salt n_pace n_manner n_from n_to n_goal n_reach n_branches n_branch n_tally x_n))] sz) [(on, .inr (2, oX2 n_kind n_salt n_pace n_manner n_from n_to n_goal n_reach n_branches n_branch n_tally x_n))]) (va_A [(on, .inr (2, oX2 n_kind n_salt n_pace n_manner n_from n_to n_goal n_reach n_branches n_branch n_tally x_n))] sz)) 0 0 (va_A [(on, .inr (2, oX2 n_kind n_salt n_pace n_manner n_from n_to n_goal n_reach n_branches n_branch n_tally x_n))] sz) := by
  refine Met.ofW (cc := cX2_hasAddress) (maxL := 2) (ret := (some .boolean)) (by decide) rfl ?_
  intro p e s m args0 below meth c s₁ B hml hv
  obtain ⟨hargs, hsz, hP, hE, hD0⟩ := hv
  have hx := B.exec
  have hb := B.bytes
  have hr := B.returns
  have hts := atoms_spec (ws := wsX2_hasAddress) B.pre
  have hown : s.vm.findClass RX2 = some m.cls := findClass_of_methodNamed B.named
  have hlocks := B.notSynchronized
  have hK := hE.1
  have hin2 : ∀ w ∈ wsX20, w ∈ wsX2_hasAddress := fun _ h9 => List.mem_cons_of_mem _ (List.mem_append_right _ h9)
  have hw_0 := hts (.fieldLink RX2 33 "PathProber$Net" "routers" "I") (List.mem_of_getElem? (i := 1) rfl)
  have hw_1 := hts (.fieldLink RX2 37 "PathProber$Net" "links" "I") (List.mem_of_getElem? (i := 2) rfl)
  subst hsz
  have hD := hD0.self (sz := s.heap.size)
  generalize hAe : va_A [(on, .inr (2, oX2 n_kind n_salt n_pace n_manner n_from n_to n_goal n_reach n_branches n_branch n_tally x_n))] s.heap.size = A at hD ⊢
  have hA : ∀ q : Nat, s.heap.size ≤ q → A q := fun q h => by rw [← hAe]; exact Or.inr h
  have hS : va_S A s.heap s.heap [] := va_S.rf
  have hP : va_P (dC, dI) vwCl [(on, .inr (2, oX2 n_kind n_salt n_pace n_manner n_from n_to n_goal n_reach n_branches n_branch n_tally x_n))] s.heap := hP
  have hl := lv_entry ([.ref on, .int p0]) (n := 2) (Nat.le_of_ble_eq_true rfl)
  have hla : entryFrame m args0 2 = entryFrame m ([.ref on, .int p0] : List Value).toArray 2 := by rw [hargs]
  rw [hla, lg_entry_eq]
  generalize (lg_sl ([.ref on, .int p0]) ++ List.replicate (2 - (lg_sl ([.ref on, .int p0])).length) Slot.unset).toArray = ls at hl ⊢
  have hl : lv_has ls 2 [(0, .ref on), (1, .int p0)] := hl
  have hJ23 : ∀ (H : Heap) (locs : List Loc) (ls : Array Slot), va_P (dC, dI) vwCl [(on, .inr (2, oX2 n_kind n_salt n_pace n_manner n_from n_to n_goal n_reach n_branches n_branch n_tally x_n))] H → va_D A [(on, .inr (2, oX2 n_kind n_salt n_pace n_manner n_from n_to n_goal n_reach n_branches n_branch n_tally x_n))] → va_S A s.heap H locs → lv_has ls 2 [(0, .ref on), (1, .int p0)] → W p l e (headSpec wsX2_hasAddress rm_s2_hasAddress).room s m args0 below meth c H locs (0) (0) (MQ below (va_Qi (fun (r : Int32) (_ : Unit) => iv 0 1 r ∧ (r = 0 ∨ iv 0 20 p0)) (fun _ t => va_P (dC, dI) vwCl [(on, .inr (2, oX2 n_kind n_salt n_pace n_manner n_from n_to n_goal n_reach n_branches n_branch n_tally x_n))] t.heap ∧ va_D A [(on, .inr (2, oX2 n_kind n_salt n_pace n_manner n_from n_to n_goal n_reach n_branches n_branch n_tally x_n))]) A) args0 s 0 0 A) (F0 m 23 ls []) := by
    intro H locs ls hP hD hS hl
    refine lv_iconst (v := 0) hx hb dX2_hasAddress_23 ic_0 ?_
    have hP9 := hP
    have hD9 := hD
    exact W.zret (v := 0) (ty := .boolean) hx hb hr rfl (fun t ht hW => ⟨⟨0, (), rfl, ⟨(iv_w ivk_0 (by decide) (by decide)), Or.inl rfl⟩, by rw [ht]; exact hP9, hD9⟩, hS.F ht⟩) hS.2.2 dX2_hasAddress_24
  refine lv_aload_n hx hb dX2_hasAddress_0 rfl (lv_at hl 0 rfl) ?_
  refine va_get (D := (dC, dI)) (ci := 2) (v := .int (x_n 0)) (C := RX2) (T := TX2) (N := 15) hx hb hts hin2 hown hK hP 0 rfl rfl 7 (Nat.le_of_ble_eq_true rfl) hw_0 (fun _ h9 => h9) rfl dX2_hasAddress_1 ?_
  refine lv_if_le (tgt := 23) hx hb dX2_hasAddress_4 rfl (fun c1 => ?_) (fun c1 => ?_)
  · have b2 : iv 0 0 (x_n 0) := iv_leL c1 (hx_n 0 : iv 0 12 (x_n 0)) ivk_0 (by decide) (by decide)
    exact hJ23 _ _ _ (hP) (hD) hS (lv_sub hl [0, 1] rfl)
  · have b3 : iv 1 12 (x_n 0) := iv_ltR (Int32.not_le.mp c1) ivk_0 (hx_n 0 : iv 0 12 (x_n 0)) (by decide) (by decide)
    refine lv_iload_n hx hb dX2_hasAddress_7 rfl (lv_at hl 1 rfl) ?_
    refine lv_if_lt (tgt := 23) hx hb dX2_hasAddress_8 rfl (fun c4 => ?_) (fun c4 => ?_)
    · have b5 : iv (-2147483648) (-1) p0 := iv_ltL c4 (iv_t p0) ivk_0 (by decide) (by decide)
      exact hJ23 _ _ _ (hP) (hD) hS (lv_sub hl [0, 1] rfl)
    · have b6 : iv 0 2147483647 p0 := iv_leR (Int32.not_lt.mp c4) ivk_0 (iv_t p0) (by decide) (by decide)
      refine lv_iload_n hx hb dX2_hasAddress_11 rfl (lv_at hl 1 rfl) ?_
      refine lv_aload_n hx hb dX2_hasAddress_12 rfl (lv_at hl 0 rfl) ?_
      refine va_get (D := (dC, dI)) (ci := 2) (v := .int (x_n 1)) (C := RX2) (T := TX2) (N := 15) hx hb hts hin2 hown hK hP 0 rfl rfl 8 (Nat.le_of_ble_eq_true rfl) hw_1 (fun _ h9 => h9) rfl dX2_hasAddress_13 ?_
      refine lv_icmp_gt (tgt := 23) hx hb dX2_hasAddress_16 rfl (fun c7 => ?_) (fun c7 => ?_)
      · have b8 : iv 1 2147483647 p0 := iv_ltR c7 (hx_n 1 : iv 0 20 (x_n 1)) b6 (by decide) (by decide)
        exact hJ23 _ _ _ (hP) (hD) hS (lv_sub hl [0, 1] rfl)
      · have b9 : iv 0 20 p0 := iv_leL (Int32.not_lt.mp c7) b6 (hx_n 1 : iv 0 20 (x_n 1)) (by decide) (by decide)
        refine lv_iconst (v := 1) hx hb dX2_hasAddress_19 ic_1 ?_
        refine lv_goto (tgt := 24) hx hb dX2_hasAddress_20 rfl ?_
        have hP9 := hP
        have hD9 := hD
        exact W.zret (v := 1) (ty := .boolean) hx hb hr rfl (fun t ht hW => ⟨⟨1, (), rfl, ⟨(iv_w ivk_1 (by decide) (by decide)), Or.inr (b9)⟩, by rw [ht]; exact hP9, hD9⟩, hS.F ht⟩) hS.2.2 dX2_hasAddress_24
def rm_s2_routerOf : Room := { frames := 0, cells := 0, slots := 0, locals := 0 }
set_option maxHeartbeats 4000000 in
set_option maxRecDepth 100000 in
theorem s2_routerOf (l : Launch) (dC : Nat → ClassId) (dI : Nat → Nat → Nat) (kB kI kJ kZ kC kS : ClassId) (sz : Nat) (on : Nat) (n_kind : Nat) (n_salt : Nat) (n_pace : Nat) (n_manner : Nat) (n_from : Nat) (n_to : Nat) (n_goal : Nat) (n_reach : Nat) (n_branches : Nat) (n_branch : Nat) (n_tally : Nat) (x_n : Nat → Int32) (f_n_to : Nat → Int32) (p0 : Int32) (hx_n : fI lX2 hX2 x_n) (hf_n_to : fI (fun _ => 0) (fun _ => 11) f_n_to) : Met l yX2_routerOf wsX2_routerOf rm_s2_routerOf (va_Pc [.ref on, .int p0] (fun U => U.heap.size = sz ∧ va_P (dC, dI) vwCl [(on, .inr (2, oX2 n_kind n_salt n_pace n_manner n_from n_to n_goal n_reach n_branches n_branch n_tally x_n)), (n_to, .inl (kI, 20, .inl f_n_to))] U.heap ∧ kE dC dI kB kI kJ kZ kC kS U ∧ va_D (fun _ => True) [(on, .inr (2, oX2 n_kind n_salt n_pace n_manner n_from n_to n_goal n_reach n_branches n_branch n_tally x_n)), (n_to, .inl (kI, 20, .inl f_n_to))])) (va_Qi (fun (r : Int32) (_ : Unit) => iv 0 11 r) (fun _ t => va_P (dC, dI) vwCl [(on, .inr (2, oX2 n_kind n_salt n_pace n_manner n_from n_to n_goal n_reach n_branches n_branch n_tally x_n)), (n_to, .inl (kI, 20, .inl f_n_to))] t.heap ∧ va_D (va_A [(on, .inr (2, oX2 n_kind n_salt n_pace n_manner n_from n_to n_goal n_reach n_branches n_branch n_tally x_n)), (n_to, .inl (kI, 20, .inl f_n_to))] sz) [(on, .inr (2, oX2 n_kind n_salt n_pace n_manner n_from n_to n_goal n_reach n_branches n_branch n_tally x_n)), (n_to, .inl (kI, 20, .inl f_n_to))]) (va_A [(on, .inr (2, oX2 n_kind n_salt n_pace n_manner n_from n_to n_goal n_reach n_branches n_branch n_tally x_n)), (n_to, .inl (kI, 20, .inl f_n_to))] sz)) 0 0 (va_A [(on, .inr (2, oX2 n_kind n_salt n_pace n_manner n_from n_to n_goal n_reach n_branches n_branch n_tally x_n)), (n_to, .inl (kI, 20, .inl f_n_to))] sz) := by
  refine Met.ofW (cc := cX2_routerOf) (maxL := 2) (ret := (some .int)) (by decide) rfl ?_
  intro p e s m args0 below meth c s₁ B hml hv
  obtain ⟨hargs, hsz, hP, hE, hD0⟩ := hv
  have hx := B.exec
  have hb := B.bytes
  have hr := B.returns
  have hts := atoms_spec (ws := wsX2_routerOf) B.pre
  have hown : s.vm.findClass RX2 = some m.cls := findClass_of_methodNamed B.named
  have hlocks := B.notSynchronized
  have hK := hE.1
  have hin2 : ∀ w ∈ wsX20, w ∈ wsX2_routerOf := fun _ h9 => List.mem_cons_of_mem _ (List.mem_append_right _ h9)
  have hw_0 := hts (.fieldLink RX2 37 "PathProber$Net" "links" "I") (List.mem_of_getElem? (i := 1) rfl)
  have hw_1 := hts (.fieldLink RX2 27 "PathProber$Net" "to" "[I") (List.mem_of_getElem? (i := 2) rfl)
  subst hsz
  have hD := hD0.self (sz := s.heap.size)
  generalize hAe : va_A [(on, .inr (2, oX2 n_kind n_salt n_pace n_manner n_from n_to n_goal n_reach n_branches n_branch n_tally x_n)), (n_to, .inl (kI, 20, .inl f_n_to))] s.heap.size = A at hD ⊢
  have hA : ∀ q : Nat, s.heap.size ≤ q → A q := fun q h => by rw [← hAe]; exact Or.inr h
  have hS : va_S A s.heap s.heap [] := va_S.rf
  have hP : va_P (dC, dI) vwCl [(on, .inr (2, oX2 n_kind n_salt n_pace n_manner n_from n_to n_goal n_reach n_branches n_branch n_tally x_n)), (n_to, .inl (kI, 20, .inl f_n_to))] s.heap := hP
  have hl := lv_entry ([.ref on, .int p0]) (n := 2) (Nat.le_of_ble_eq_true rfl)
  have hla : entryFrame m args0 2 = entryFrame m ([.ref on, .int p0] : List Value).toArray 2 := by rw [hargs]
  rw [hla, lg_entry_eq]
  generalize (lg_sl ([.ref on, .int p0]) ++ List.replicate (2 - (lg_sl ([.ref on, .int p0])).length) Slot.unset).toArray = ls at hl ⊢
  have hl : lv_has ls 2 [(0, .ref on), (1, .int p0)] := hl
  have hJ12 : ∀ (H : Heap) (locs : List Loc) (ls : Array Slot), iv (-2147483648) 2147483647 p0 → va_P (dC, dI) vwCl [(on, .inr (2, oX2 n_kind n_salt n_pace n_manner n_from n_to n_goal n_reach n_branches n_branch n_tally x_n)), (n_to, .inl (kI, 20, .inl f_n_to))] H → va_D A [(on, .inr (2, oX2 n_kind n_salt n_pace n_manner n_from n_to n_goal n_reach n_branches n_branch n_tally x_n)), (n_to, .inl (kI, 20, .inl f_n_to))] → va_S A s.heap H locs → lv_has ls 2 [(0, .ref on), (1, .int p0)] → W p l e (headSpec wsX2_routerOf rm_s2_routerOf).room s m args0 below meth c H locs (0) (0) (MQ below (va_Qi (fun (r : Int32) (_ : Unit) => iv 0 11 r) (fun _ t => va_P (dC, dI) vwCl [(on, .inr (2, oX2 n_kind n_salt n_pace n_manner n_from n_to n_goal n_reach n_branches n_branch n_tally x_n)), (n_to, .inl (kI, 20, .inl f_n_to))] t.heap ∧ va_D A [(on, .inr (2, oX2 n_kind n_salt n_pace n_manner n_from n_to n_goal n_reach n_branches n_branch n_tally x_n)), (n_to, .inl (kI, 20, .inl f_n_to))]) A) args0 s 0 0 A) (F0 m 12 ls []) := by
    intro H locs ls h12_1 hP hD hS hl
    refine lv_iconst (v := 0) hx hb dX2_routerOf_12 ic_0 ?_
    refine lv_goto (tgt := 24) hx hb dX2_routerOf_13 rfl ?_
    have hP9 := hP
    have hD9 := hD
    exact W.iret (v := 0) hx hb hr (fun t ht hW => ⟨⟨0, (), rfl, (iv_w ivk_0 (by decide) (by decide)), by rw [ht]; exact hP9, hD9⟩, hS.F ht⟩) hS.2.2 dX2_routerOf_24
  refine lv_iload_n hx hb dX2_routerOf_0 rfl (lv_at hl 1 rfl) ?_
  refine lv_if_le (tgt := 12) hx hb dX2_routerOf_1 rfl (fun c1 => ?_) (fun c1 => ?_)
  · have b2 : iv (-2147483648) 0 p0 := iv_leL c1 (iv_t p0) ivk_0 (by decide) (by decide)
    exact hJ12 _ _ _ ((iv_w b2 (by decide) (by decide))) (hP) (hD) hS (lv_sub hl [0, 1] rfl)
  · have b3 : iv 1 2147483647 p0 := iv_ltR (Int32.not_le.mp c1) ivk_0 (iv_t p0) (by decide) (by decide)
    refine lv_iload_n hx hb dX2_routerOf_4 rfl (lv_at hl 1 rfl) ?_
    refine lv_aload_n hx hb dX2_routerOf_5 rfl (lv_at hl 0 rfl) ?_
    refine va_get (D := (dC, dI)) (ci := 2) (v := .int (x_n 1)) (C := RX2) (T := TX2) (N := 15) hx hb hts hin2 hown hK hP 0 rfl rfl 8 (Nat.le_of_ble_eq_true rfl) hw_0 (fun _ h9 => h9) rfl dX2_routerOf_6 ?_
    refine lv_icmp_le (tgt := 16) hx hb dX2_routerOf_9 rfl (fun c4 => ?_) (fun c4 => ?_)
    · have b5 : iv 1 20 p0 := iv_leL c4 b3 (hx_n 1 : iv 0 20 (x_n 1)) (by decide) (by decide)
      have b6 : iv 1 20 (x_n 1) := iv_leR c4 b3 (hx_n 1 : iv 0 20 (x_n 1)) (by decide) (by decide)
      refine lv_aload_n hx hb dX2_routerOf_16 rfl (lv_at hl 0 rfl) ?_
      refine va_get (D := (dC, dI)) (ci := 2) (v := .ref n_to) (C := RX2) (T := TX2) (N := 15) hx hb hts hin2 hown hK hP 0 rfl rfl 5 (Nat.le_of_ble_eq_true rfl) hw_1 (fun _ h9 => h9) rfl dX2_routerOf_17 ?_
      refine lv_iload_n hx hb dX2_routerOf_20 rfl (lv_at hl 1 rfl) ?_
      refine lv_iconst (v := 1) hx hb dX2_routerOf_21 ic_1 ?_
      refine lv_isub hx hb dX2_routerOf_22 ?_
      refine iv_top (a := 0) (b := 19) (iv_sub b5 ivk_1 (by decide) (by decide) (by decide) (by decide)) (fun z7 b8 => ?_)
      refine va_iald hx hb hK hP 1 1 rfl rfl (iv_in b8 (by decide) (by decide)) dX2_routerOf_23 ?_
      refine iv_top (a := 0) (b := 11) (hf_n_to _) (fun z9 b10 => ?_)
      have hP9 := hP
      have hD9 := hD
      exact W.iret (v := z9) hx hb hr (fun t ht hW => ⟨⟨z9, (), rfl, b10, by rw [ht]; exact hP9, hD9⟩, hS.F ht⟩) hS.2.2 dX2_routerOf_24
    · exact hJ12 _ _ _ ((iv_w b3 (by decide) (by decide))) (hP) (hD) hS (lv_sub hl [0, 1] rfl)
def rm_s2_goalAt : Room := { frames := 0, cells := 0, slots := 0, locals := 0 }
set_option maxHeartbeats 4000000 in
set_option maxRecDepth 100000 in
theorem s2_goalAt (l : Launch) (dC : Nat → ClassId) (dI : Nat → Nat → Nat) (kB kI kJ kZ kC kS : ClassId) (sz : Nat) (on : Nat) (n_kind : Nat) (n_salt : Nat) (n_pace : Nat) (n_manner : Nat) (n_from : Nat) (n_to : Nat) (n_goal : Nat) (n_reach : Nat) (n_branches : Nat) (n_branch : Nat) (n_tally : Nat) (x_n : Nat → Int32) (f_n_goal : Nat → Int32) (p0 : Int32) (hx_n : fI lX2 hX2 x_n) (hf_n_goal : fI (fun _ => 0) (fun _ => 11) f_n_goal) : Met l yX2_goalAt wsX2_goalAt rm_s2_goalAt (va_Pc [.ref on, .int p0] (fun U => U.heap.size = sz ∧ va_P (dC, dI) vwCl [(on, .inr (2, oX2 n_kind n_salt n_pace n_manner n_from n_to n_goal n_reach n_branches n_branch n_tally x_n)), (n_goal, .inl (kI, 3, .inl f_n_goal))] U.heap ∧ kE dC dI kB kI kJ kZ kC kS U ∧ va_D (fun _ => True) [(on, .inr (2, oX2 n_kind n_salt n_pace n_manner n_from n_to n_goal n_reach n_branches n_branch n_tally x_n)), (n_goal, .inl (kI, 3, .inl f_n_goal))])) (va_Qi (fun (r : Int32) (_ : Unit) => iv (-1) 2 r ∧ ((r = -1 ∧ ¬ gotT f_n_goal (x_n 2) p0) ∨ (¬ r = -1 ∧ gotT f_n_goal (x_n 2) p0))) (fun _ t => va_P (dC, dI) vwCl [(on, .inr (2, oX2 n_kind n_salt n_pace n_manner n_from n_to n_goal n_reach n_branches n_branch n_tally x_n)), (n_goal, .inl (kI, 3, .inl f_n_goal))] t.heap ∧ va_D (va_A [(on, .inr (2, oX2 n_kind n_salt n_pace n_manner n_from n_to n_goal n_reach n_branches n_branch n_tally x_n)), (n_goal, .inl (kI, 3, .inl f_n_goal))] sz) [(on, .inr (2, oX2 n_kind n_salt n_pace n_manner n_from n_to n_goal n_reach n_branches n_branch n_tally x_n)), (n_goal, .inl (kI, 3, .inl f_n_goal))]) (va_A [(on, .inr (2, oX2 n_kind n_salt n_pace n_manner n_from n_to n_goal n_reach n_branches n_branch n_tally x_n)), (n_goal, .inl (kI, 3, .inl f_n_goal))] sz)) 0 0 (va_A [(on, .inr (2, oX2 n_kind n_salt n_pace n_manner n_from n_to n_goal n_reach n_branches n_branch n_tally x_n)), (n_goal, .inl (kI, 3, .inl f_n_goal))] sz) := by
  refine Met.ofW (cc := cX2_goalAt) (maxL := 3) (ret := (some .int)) (by decide) rfl ?_
  intro p e s m args0 below meth c s₁ B hml hv
  obtain ⟨hargs, hsz, hP, hE, hD0⟩ := hv
  have hx := B.exec
  have hb := B.bytes
  have hr := B.returns
  have hts := atoms_spec (ws := wsX2_goalAt) B.pre
  have hown : s.vm.findClass RX2 = some m.cls := findClass_of_methodNamed B.named
  have hlocks := B.notSynchronized
  have hK := hE.1
  have hin2 : ∀ w ∈ wsX20, w ∈ wsX2_goalAt := fun _ h9 => List.mem_cons_of_mem _ (List.mem_append_right _ h9)
  have hw_0 := hts (.fieldLink RX2 40 "PathProber$Net" "goals" "I") (List.mem_of_getElem? (i := 1) rfl)
  have hw_1 := hts (.fieldLink RX2 30 "PathProber$Net" "goal" "[I") (List.mem_of_getElem? (i := 2) rfl)
  subst hsz
  have hD := hD0.self (sz := s.heap.size)
  generalize hAe : va_A [(on, .inr (2, oX2 n_kind n_salt n_pace n_manner n_from n_to n_goal n_reach n_branches n_branch n_tally x_n)), (n_goal, .inl (kI, 3, .inl f_n_goal))] s.heap.size = A at hD ⊢
  have hA : ∀ q : Nat, s.heap.size ≤ q → A q := fun q h => by rw [← hAe]; exact Or.inr h
  have hS : va_S A s.heap s.heap [] := va_S.rf
  have hP : va_P (dC, dI) vwCl [(on, .inr (2, oX2 n_kind n_salt n_pace n_manner n_from n_to n_goal n_reach n_branches n_branch n_tally x_n)), (n_goal, .inl (kI, 3, .inl f_n_goal))] s.heap := hP
  have hl := lv_entry ([.ref on, .int p0]) (n := 3) (Nat.le_of_ble_eq_true rfl)
  have hla : entryFrame m args0 3 = entryFrame m ([.ref on, .int p0] : List Value).toArray 3 := by rw [hargs]
  rw [hla, lg_entry_eq]
  generalize (lg_sl ([.ref on, .int p0]) ++ List.replicate (3 - (lg_sl ([.ref on, .int p0])).length) Slot.unset).toArray = ls at hl ⊢
  have hl : lv_has ls 3 [(0, .ref on), (1, .int p0)] := hl
  have hJ2 : ∀ (n : Nat) (v2_loc2 : Int32) (H : Heap) (locs : List Loc) (ls : Array Slot), (3 - v2_loc2.toInt).toNat < n → iv 0 3 v2_loc2 → (∀ j : Nat, (j : Int) < v2_loc2.toInt → ¬ f_n_goal j = p0) → va_P (dC, dI) vwCl [(on, .inr (2, oX2 n_kind n_salt n_pace n_manner n_from n_to n_goal n_reach n_branches n_branch n_tally x_n)), (n_goal, .inl (kI, 3, .inl f_n_goal))] H → va_D A [(on, .inr (2, oX2 n_kind n_salt n_pace n_manner n_from n_to n_goal n_reach n_branches n_branch n_tally x_n)), (n_goal, .inl (kI, 3, .inl f_n_goal))] → va_S A s.heap H locs → lv_has ls 3 [(0, .ref on), (1, .int p0), (2, .int v2_loc2)] → W p l e (headSpec wsX2_goalAt rm_s2_goalAt).room s m args0 below meth c H locs (0) (0) (MQ below (va_Qi (fun (r : Int32) (_ : Unit) => iv (-1) 2 r ∧ ((r = -1 ∧ ¬ gotT f_n_goal (x_n 2) p0) ∨ (¬ r = -1 ∧ gotT f_n_goal (x_n 2) p0))) (fun _ t => va_P (dC, dI) vwCl [(on, .inr (2, oX2 n_kind n_salt n_pace n_manner n_from n_to n_goal n_reach n_branches n_branch n_tally x_n)), (n_goal, .inl (kI, 3, .inl f_n_goal))] t.heap ∧ va_D A [(on, .inr (2, oX2 n_kind n_salt n_pace n_manner n_from n_to n_goal n_reach n_branches n_branch n_tally x_n)), (n_goal, .inl (kI, 3, .inl f_n_goal))]) A) args0 s 0 0 A) (F0 m 2 ls []) := by
    intro n
    induction n with
    | zero => intro v2_loc2 H locs ls hm2; exact absurd hm2 (Nat.not_lt_zero _)
    | succ n ih2 =>
      intro v2_loc2 H locs ls hm2 h2_1 hga_2 hP hD hS hl
      refine lv_iload_n hx hb dX2_goalAt_2 rfl (lv_at hl 2 rfl) ?_
      refine lv_aload_n hx hb dX2_goalAt_3 rfl (lv_at hl 0 rfl) ?_
      refine va_get (D := (dC, dI)) (ci := 2) (v := .int (x_n 2)) (C := RX2) (T := TX2) (N := 15) hx hb hts hin2 hown hK hP 0 rfl rfl 9 (Nat.le_of_ble_eq_true rfl) hw_0 (fun _ h9 => h9) rfl dX2_goalAt_4 ?_
      refine lv_icmp_ge (tgt := 28) hx hb dX2_goalAt_7 rfl (fun c1 => ?_) (fun c1 => ?_)
      · refine lv_iconst (v := (-1)) hx hb dX2_goalAt_28 ic_m1 ?_
        have hP9 := hP
        have hD9 := hD
        exact W.iret (v := (-1)) hx hb hr (fun t ht hW => ⟨⟨(-1), (), rfl, ⟨(iv_w ivk_m1 (by decide) (by decide)), Or.inl ⟨rfl, fun ⟨j, hj, e⟩ => hga_2 j (Int.lt_of_lt_of_le hj (Int32.le_iff_toInt_le.mp c1)) e⟩⟩, by rw [ht]; exact hP9, hD9⟩, hS.F ht⟩) hS.2.2 dX2_goalAt_29
      · have b2 : iv 0 2 v2_loc2 := iv_ltL (Int32.not_le.mp c1) h2_1 (hx_n 2 : iv 0 3 (x_n 2)) (by decide) (by decide)
        have b3 : iv 1 3 (x_n 2) := iv_ltR (Int32.not_le.mp c1) h2_1 (hx_n 2 : iv 0 3 (x_n 2)) (by decide) (by decide)
        refine lv_aload_n hx hb dX2_goalAt_10 rfl (lv_at hl 0 rfl) ?_
        refine va_get (D := (dC, dI)) (ci := 2) (v := .ref n_goal) (C := RX2) (T := TX2) (N := 15) hx hb hts hin2 hown hK hP 0 rfl rfl 6 (Nat.le_of_ble_eq_true rfl) hw_1 (fun _ h9 => h9) rfl dX2_goalAt_11 ?_
        refine lv_iload_n hx hb dX2_goalAt_14 rfl (lv_at hl 2 rfl) ?_
        refine va_iald hx hb hK hP 1 1 rfl rfl (iv_in b2 (by decide) (by decide)) dX2_goalAt_15 ?_
        have b4 : iv 0 11 (f_n_goal v2_loc2.toNatClampNeg) := hf_n_goal _
        refine lv_iload_n hx hb dX2_goalAt_16 rfl (lv_at hl 1 rfl) ?_
        refine lv_icmp_ne (tgt := 22) hx hb dX2_goalAt_17 rfl (fun c5 => ?_) (fun c5 => ?_)
        · refine lv_iinc (v := v2_loc2 + Int32.ofInt 1) (lv' := [(2, .int (v2_loc2 + Int32.ofInt 1)), (0, .ref on), (1, .int p0)]) hx hb dX2_goalAt_22 hl (k := 2) rfl (rfl) (Nat.le_of_ble_eq_true rfl) rfl (fun ls hl => ?_)
          have b6 : iv 1 3 (v2_loc2 + Int32.ofInt 1) := iv_add b2 ivo_1 (by decide) (by decide) (by decide) (by decide)
          refine lv_goto (tgt := 2) hx hb dX2_goalAt_25 rfl ?_
          exact ih2 (v2_loc2 + Int32.ofInt 1) _ _ _ (ms_up (c := 1) (d := 0) b2 hm2 (by decide) (iv_inc 1 b2 (by decide) (by decide) (by decide) (by decide)) (by decide) rfl) ((iv_w b6 (by decide) (by decide))) ((show ∀ j : Nat, (j : Int) < (v2_loc2 + Int32.ofInt 1).toInt → ¬ f_n_goal j = p0 from al_s hga_2 (iv_w b2 (by decide) (by decide)) c5)) (hP) (hD) hS (lv_sub hl [1, 2, 0] rfl)
        · have b7 : iv 0 11 p0 := iv_eqR c5 b4
          refine lv_iload_n hx hb dX2_goalAt_20 rfl (lv_at hl 2 rfl) ?_
          have hP9 := hP
          have hD9 := hD
          exact W.iret (v := v2_loc2) hx hb hr (fun t ht hW => ⟨⟨v2_loc2, (), rfl, ⟨(iv_w b2 (by decide) (by decide)), Or.inr ⟨iv_ne b2 ivk_m1 (by decide), v2_loc2.toNatClampNeg, by rw [cl_nat b2 (by decide)]; exact Int32.lt_iff_toInt_lt.mp (Int32.not_le.mp c1), c5⟩⟩, by rw [ht]; exact hP9, hD9⟩, hS.F ht⟩) hS.2.2 dX2_goalAt_21
  refine lv_iconst (v := 0) hx hb dX2_goalAt_0 ic_0 ?_
  refine lv_istore_n (lv' := [(2, .int 0), (0, .ref on), (1, .int p0)]) hx hb dX2_goalAt_1 rfl hl (Nat.le_of_ble_eq_true rfl) rfl (fun ls hl => ?_)
  exact hJ2 _ 0 _ _ _ (Nat.lt_succ_self _) ((iv_w ivk_0 (by decide) (by decide))) ((show ∀ j : Nat, (j : Int) < ((0 : Int32)).toInt → ¬ f_n_goal j = p0 from al_0)) (hP) (hD) hS (lv_sub hl [1, 2, 0] rfl)
def rm_s2_linksFrom : Room := { frames := 0, cells := 0, slots := 0, locals := 0 }
set_option maxHeartbeats 4000000 in
set_option maxRecDepth 100000 in
theorem s2_linksFrom (l : Launch) (dC : Nat → ClassId) (dI : Nat → Nat → Nat) (kB kI kJ kZ kC kS : ClassId) (sz : Nat) (on : Nat) (n_kind : Nat) (n_salt : Nat) (n_pace : Nat) (n_manner : Nat) (n_from : Nat) (n_to : Nat) (n_goal : Nat) (n_reach : Nat) (n_branches : Nat) (n_branch : Nat) (n_tally : Nat) (x_n : Nat → Int32) (f_n_from : Nat → Int32) (p0 : Int32) (hx_n : fI lX2 hX2 x_n) (hf_n_from : fI (fun _ => 0) (fun _ => 11) f_n_from) : Met l yX2_linksFrom wsX2_linksFrom rm_s2_linksFrom (va_Pc [.ref on, .int p0] (fun U => U.heap.size = sz ∧ va_P (dC, dI) vwCl [(on, .inr (2, oX2 n_kind n_salt n_pace n_manner n_from n_to n_goal n_reach n_branches n_branch n_tally x_n)), (n_from, .inl (kI, 20, .inl f_n_from))] U.heap ∧ kE dC dI kB kI kJ kZ kC kS U ∧ va_D (fun _ => True) [(on, .inr (2, oX2 n_kind n_salt n_pace n_manner n_from n_to n_goal n_reach n_branches n_branch n_tally x_n)), (n_from, .inl (kI, 20, .inl f_n_from))])) (va_Qi (fun (r : Int32) (_ : Unit) => r = bitT f_n_from p0 (x_n 1).toNatClampNeg ∧ iv 0 1048575 r) (fun _ t => va_P (dC, dI) vwCl [(on, .inr (2, oX2 n_kind n_salt n_pace n_manner n_from n_to n_goal n_reach n_branches n_branch n_tally x_n)), (n_from, .inl (kI, 20, .inl f_n_from))] t.heap ∧ va_D (va_A [(on, .inr (2, oX2 n_kind n_salt n_pace n_manner n_from n_to n_goal n_reach n_branches n_branch n_tally x_n)), (n_from, .inl (kI, 20, .inl f_n_from))] sz) [(on, .inr (2, oX2 n_kind n_salt n_pace n_manner n_from n_to n_goal n_reach n_branches n_branch n_tally x_n)), (n_from, .inl (kI, 20, .inl f_n_from))]) (va_A [(on, .inr (2, oX2 n_kind n_salt n_pace n_manner n_from n_to n_goal n_reach n_branches n_branch n_tally x_n)), (n_from, .inl (kI, 20, .inl f_n_from))] sz)) 0 0 (va_A [(on, .inr (2, oX2 n_kind n_salt n_pace n_manner n_from n_to n_goal n_reach n_branches n_branch n_tally x_n)), (n_from, .inl (kI, 20, .inl f_n_from))] sz) := by
  refine Met.ofW (cc := cX2_linksFrom) (maxL := 4) (ret := (some .int)) (by decide) rfl ?_
  intro p e s m args0 below meth c s₁ B hml hv
  obtain ⟨hargs, hsz, hP, hE, hD0⟩ := hv
  have hx := B.exec
  have hb := B.bytes
  have hr := B.returns
  have hts := atoms_spec (ws := wsX2_linksFrom) B.pre
  have hown : s.vm.findClass RX2 = some m.cls := findClass_of_methodNamed B.named
  have hlocks := B.notSynchronized
  have hK := hE.1
  have hin2 : ∀ w ∈ wsX20, w ∈ wsX2_linksFrom := fun _ h9 => List.mem_cons_of_mem _ (List.mem_append_right _ h9)
  have hw_0 := hts (.fieldLink RX2 37 "PathProber$Net" "links" "I") (List.mem_of_getElem? (i := 1) rfl)
  have hw_1 := hts (.fieldLink RX2 24 "PathProber$Net" "from" "[I") (List.mem_of_getElem? (i := 2) rfl)
  subst hsz
  have hD := hD0.self (sz := s.heap.size)
  generalize hAe : va_A [(on, .inr (2, oX2 n_kind n_salt n_pace n_manner n_from n_to n_goal n_reach n_branches n_branch n_tally x_n)), (n_from, .inl (kI, 20, .inl f_n_from))] s.heap.size = A at hD ⊢
  have hA : ∀ q : Nat, s.heap.size ≤ q → A q := fun q h => by rw [← hAe]; exact Or.inr h
  have hS : va_S A s.heap s.heap [] := va_S.rf
  have hP : va_P (dC, dI) vwCl [(on, .inr (2, oX2 n_kind n_salt n_pace n_manner n_from n_to n_goal n_reach n_branches n_branch n_tally x_n)), (n_from, .inl (kI, 20, .inl f_n_from))] s.heap := hP
  have hl := lv_entry ([.ref on, .int p0]) (n := 4) (Nat.le_of_ble_eq_true rfl)
  have hla : entryFrame m args0 4 = entryFrame m ([.ref on, .int p0] : List Value).toArray 4 := by rw [hargs]
  rw [hla, lg_entry_eq]
  generalize (lg_sl ([.ref on, .int p0]) ++ List.replicate (4 - (lg_sl ([.ref on, .int p0])).length) Slot.unset).toArray = ls at hl ⊢
  have hl : lv_has ls 4 [(0, .ref on), (1, .int p0)] := hl
  have hJ4 : ∀ (n : Nat) (v4_loc2 : Int32) (v4_loc3 : Int32) (H : Heap) (locs : List Loc) (ls : Array Slot), (20 - v4_loc3.toInt).toNat < n → iv 0 20 v4_loc3 → (v4_loc2 = bitT f_n_from p0 v4_loc3.toNatClampNeg ∧ v4_loc3.toInt ≤ (x_n 1).toInt) → va_P (dC, dI) vwCl [(on, .inr (2, oX2 n_kind n_salt n_pace n_manner n_from n_to n_goal n_reach n_branches n_branch n_tally x_n)), (n_from, .inl (kI, 20, .inl f_n_from))] H → va_D A [(on, .inr (2, oX2 n_kind n_salt n_pace n_manner n_from n_to n_goal n_reach n_branches n_branch n_tally x_n)), (n_from, .inl (kI, 20, .inl f_n_from))] → va_S A s.heap H locs → lv_has ls 4 [(0, .ref on), (1, .int p0), (2, .int v4_loc2), (3, .int v4_loc3)] → W p l e (headSpec wsX2_linksFrom rm_s2_linksFrom).room s m args0 below meth c H locs (0) (0) (MQ below (va_Qi (fun (r : Int32) (_ : Unit) => r = bitT f_n_from p0 (x_n 1).toNatClampNeg ∧ iv 0 1048575 r) (fun _ t => va_P (dC, dI) vwCl [(on, .inr (2, oX2 n_kind n_salt n_pace n_manner n_from n_to n_goal n_reach n_branches n_branch n_tally x_n)), (n_from, .inl (kI, 20, .inl f_n_from))] t.heap ∧ va_D A [(on, .inr (2, oX2 n_kind n_salt n_pace n_manner n_from n_to n_goal n_reach n_branches n_branch n_tally x_n)), (n_from, .inl (kI, 20, .inl f_n_from))]) A) args0 s 0 0 A) (F0 m 4 ls []) := by
    intro n
    induction n with
    | zero => intro v4_loc2 v4_loc3 H locs ls hm4; exact absurd hm4 (Nat.not_lt_zero _)
    | succ n ih4 =>
      intro v4_loc2 v4_loc3 H locs ls hm4 h4_1 hlf_4 hP hD hS hl
      refine lv_iload_n hx hb dX2_linksFrom_4 rfl (lv_at hl 3 rfl) ?_
      refine lv_aload_n hx hb dX2_linksFrom_5 rfl (lv_at hl 0 rfl) ?_
      refine va_get (D := (dC, dI)) (ci := 2) (v := .int (x_n 1)) (C := RX2) (T := TX2) (N := 15) hx hb hts hin2 hown hK hP 0 rfl rfl 8 (Nat.le_of_ble_eq_true rfl) hw_0 (fun _ h9 => h9) rfl dX2_linksFrom_6 ?_
      refine lv_icmp_ge (tgt := 34) hx hb dX2_linksFrom_9 rfl (fun c1 => ?_) (fun c1 => ?_)
      · refine lv_iload_n hx hb dX2_linksFrom_34 rfl (lv_at hl 2 rfl) ?_
        have hP9 := hP
        have hD9 := hD
        exact W.iret (v := v4_loc2) hx hb hr (fun t ht hW => ⟨⟨v4_loc2, (), rfl, ⟨bt_e hlf_4 c1 (iv_w h4_1 (by decide) (by decide)) (iv_w (hx_n 1 : iv 0 20 (x_n 1)) (by decide) (by decide)), bt_e hlf_4 c1 (iv_w h4_1 (by decide) (by decide)) (iv_w (hx_n 1 : iv 0 20 (x_n 1)) (by decide) (by decide)) ▸ bt_iv (hx_n 1 : iv 0 20 (x_n 1))⟩, by rw [ht]; exact hP9, hD9⟩, hS.F ht⟩) hS.2.2 dX2_linksFrom_35
      · have b2 : iv 0 19 v4_loc3 := iv_ltL (Int32.not_le.mp c1) h4_1 (hx_n 1 : iv 0 20 (x_n 1)) (by decide) (by decide)
        have b3 : iv 1 20 (x_n 1) := iv_ltR (Int32.not_le.mp c1) h4_1 (hx_n 1 : iv 0 20 (x_n 1)) (by decide) (by decide)
        refine lv_aload_n hx hb dX2_linksFrom_12 rfl (lv_at hl 0 rfl) ?_
        refine va_get (D := (dC, dI)) (ci := 2) (v := .ref n_from) (C := RX2) (T := TX2) (N := 15) hx hb hts hin2 hown hK hP 0 rfl rfl 4 (Nat.le_of_ble_eq_true rfl) hw_1 (fun _ h9 => h9) rfl dX2_linksFrom_13 ?_
        refine lv_iload_n hx hb dX2_linksFrom_16 rfl (lv_at hl 3 rfl) ?_
        refine va_iald hx hb hK hP 1 1 rfl rfl (iv_in b2 (by decide) (by decide)) dX2_linksFrom_17 ?_
        have b4 : iv 0 11 (f_n_from v4_loc3.toNatClampNeg) := hf_n_from _
        refine lv_iload_n hx hb dX2_linksFrom_18 rfl (lv_at hl 1 rfl) ?_
        refine lv_icmp_ne (tgt := 28) hx hb dX2_linksFrom_19 rfl (fun c5 => ?_) (fun c5 => ?_)
        · refine lv_iinc (v := v4_loc3 + Int32.ofInt 1) (lv' := [(3, .int (v4_loc3 + Int32.ofInt 1)), (0, .ref on), (1, .int p0), (2, .int v4_loc2)]) hx hb dX2_linksFrom_28 hl (k := 3) rfl (rfl) (Nat.le_of_ble_eq_true rfl) rfl (fun ls hl => ?_)
          have b6 : iv 1 20 (v4_loc3 + Int32.ofInt 1) := iv_add b2 ivo_1 (by decide) (by decide) (by decide) (by decide)
          refine lv_goto (tgt := 4) hx hb dX2_linksFrom_31 rfl ?_
          exact ih4 v4_loc2 (v4_loc3 + Int32.ofInt 1) _ _ _ (ms_up (c := 1) (d := 0) b2 hm4 (by decide) (iv_inc 1 b2 (by decide) (by decide) (by decide) (by decide)) (by decide) rfl) ((iv_w b6 (by decide) (by decide))) ((show v4_loc2 = bitT f_n_from p0 (v4_loc3 + Int32.ofInt 1).toNatClampNeg ∧ (v4_loc3 + Int32.ofInt 1).toInt ≤ (x_n 1).toInt from bt_n hlf_4 b2 (Int32.not_le.mp c1) c5)) (hP) (hD) hS (lv_sub hl [1, 2, 3, 0] rfl)
        · have b7 : iv 0 11 p0 := iv_eqR c5 b4
          refine lv_iload_n hx hb dX2_linksFrom_22 rfl (lv_at hl 2 rfl) ?_
          refine lv_iconst (v := 1) hx hb dX2_linksFrom_23 ic_1 ?_
          refine lv_iload_n hx hb dX2_linksFrom_24 rfl (lv_at hl 3 rfl) ?_
          refine lv_ishl hx hb dX2_linksFrom_25 ?_
          have b8 : iv 0 524288 (1 <<< ((v4_loc3 : Int32) &&& 31)) := iv_shl1 19 b2 (by decide) (by decide) (by decide) (by decide)
          refine lv_ior hx hb dX2_linksFrom_26 ?_
          refine lv_istore_n (lv' := [(2, .int (v4_loc2 ||| (1 <<< ((v4_loc3 : Int32) &&& 31)))), (0, .ref on), (1, .int p0), (3, .int v4_loc3)]) hx hb dX2_linksFrom_27 rfl hl (Nat.le_of_ble_eq_true rfl) rfl (fun ls hl => ?_)
          refine lv_iinc (v := v4_loc3 + Int32.ofInt 1) (lv' := [(3, .int (v4_loc3 + Int32.ofInt 1)), (2, .int (v4_loc2 ||| (1 <<< ((v4_loc3 : Int32) &&& 31)))), (0, .ref on), (1, .int p0)]) hx hb dX2_linksFrom_28 hl (k := 3) rfl (rfl) (Nat.le_of_ble_eq_true rfl) rfl (fun ls hl => ?_)
          have b9 : iv 1 20 (v4_loc3 + Int32.ofInt 1) := iv_add b2 ivo_1 (by decide) (by decide) (by decide) (by decide)
          refine lv_goto (tgt := 4) hx hb dX2_linksFrom_31 rfl ?_
          exact ih4 (v4_loc2 ||| (1 <<< ((v4_loc3 : Int32) &&& 31))) (v4_loc3 + Int32.ofInt 1) _ _ _ (ms_up (c := 1) (d := 0) b2 hm4 (by decide) (iv_inc 1 b2 (by decide) (by decide) (by decide) (by decide)) (by decide) rfl) ((iv_w b9 (by decide) (by decide))) ((show (v4_loc2 ||| (1 <<< ((v4_loc3 : Int32) &&& 31))) = bitT f_n_from p0 (v4_loc3 + Int32.ofInt 1).toNatClampNeg ∧ (v4_loc3 + Int32.ofInt 1).toInt ≤ (x_n 1).toInt from bt_y hlf_4 b2 (Int32.not_le.mp c1) c5)) (hP) (hD) hS (lv_sub hl [2, 3, 1, 0] rfl)
  refine lv_iconst (v := 0) hx hb dX2_linksFrom_0 ic_0 ?_
  refine lv_istore_n (lv' := [(2, .int 0), (0, .ref on), (1, .int p0)]) hx hb dX2_linksFrom_1 rfl hl (Nat.le_of_ble_eq_true rfl) rfl (fun ls hl => ?_)
  refine lv_iconst (v := 0) hx hb dX2_linksFrom_2 ic_0 ?_
  refine lv_istore_n (lv' := [(3, .int 0), (2, .int 0), (0, .ref on), (1, .int p0)]) hx hb dX2_linksFrom_3 rfl hl (Nat.le_of_ble_eq_true rfl) rfl (fun ls hl => ?_)
  exact hJ4 _ 0 0 _ _ _ (Nat.lt_succ_self _) ((iv_w ivk_0 (by decide) (by decide))) ((show 0 = bitT f_n_from p0 ((0 : Int32)).toNatClampNeg ∧ ((0 : Int32)).toInt ≤ (x_n 1).toInt from bt_0 (hx_n 1 : iv 0 20 (x_n 1)))) (hP) (hD) hS (lv_sub hl [2, 3, 1, 0] rfl)
def rm_s2_hasLinkBetween : Room := { frames := 0, cells := 0, slots := 0, locals := 0 }
set_option maxHeartbeats 4000000 in
set_option maxRecDepth 100000 in
theorem s2_hasLinkBetween (l : Launch) (dC : Nat → ClassId) (dI : Nat → Nat → Nat) (kB kI kJ kZ kC kS : ClassId) (sz : Nat) (on : Nat) (n_kind : Nat) (n_salt : Nat) (n_pace : Nat) (n_manner : Nat) (n_from : Nat) (n_to : Nat) (n_goal : Nat) (n_reach : Nat) (n_branches : Nat) (n_branch : Nat) (n_tally : Nat) (x_n : Nat → Int32) (f_n_from : Nat → Int32) (f_n_to : Nat → Int32) (p0 : Int32) (p1 : Int32) (hx_n : fI lX2 hX2 x_n) (hf_n_from : fI (fun _ => 0) (fun _ => 11) f_n_from) (hf_n_to : fI (fun _ => 0) (fun _ => 11) f_n_to) : Met l yX2_hasLinkBetween wsX2_hasLinkBetween rm_s2_hasLinkBetween (va_Pc [.ref on, .int p0, .int p1] (fun U => U.heap.size = sz ∧ va_P (dC, dI) vwCl [(on, .inr (2, oX2 n_kind n_salt n_pace n_manner n_from n_to n_goal n_reach n_branches n_branch n_tally x_n)), (n_from, .inl (kI, 20, .inl f_n_from)), (n_to, .inl (kI, 20, .inl f_n_to))] U.heap ∧ kE dC dI kB kI kJ kZ kC kS U ∧ va_D (fun _ => True) [(on, .inr (2, oX2 n_kind n_salt n_pace n_manner n_from n_to n_goal n_reach n_branches n_branch n_tally x_n)), (n_from, .inl (kI, 20, .inl f_n_from)), (n_to, .inl (kI, 20, .inl f_n_to))])) (va_Qi (fun (r : Int32) (_ : Unit) => iv 0 1 r ∧ ((r = 0 ∧ ¬ hasT f_n_from f_n_to (x_n 1) p0 p1) ∨ (¬ r = 0 ∧ hasT f_n_from f_n_to (x_n 1) p0 p1))) (fun _ t => va_P (dC, dI) vwCl [(on, .inr (2, oX2 n_kind n_salt n_pace n_manner n_from n_to n_goal n_reach n_branches n_branch n_tally x_n)), (n_from, .inl (kI, 20, .inl f_n_from)), (n_to, .inl (kI, 20, .inl f_n_to))] t.heap ∧ va_D (va_A [(on, .inr (2, oX2 n_kind n_salt n_pace n_manner n_from n_to n_goal n_reach n_branches n_branch n_tally x_n)), (n_from, .inl (kI, 20, .inl f_n_from)), (n_to, .inl (kI, 20, .inl f_n_to))] sz) [(on, .inr (2, oX2 n_kind n_salt n_pace n_manner n_from n_to n_goal n_reach n_branches n_branch n_tally x_n)), (n_from, .inl (kI, 20, .inl f_n_from)), (n_to, .inl (kI, 20, .inl f_n_to))]) (va_A [(on, .inr (2, oX2 n_kind n_salt n_pace n_manner n_from n_to n_goal n_reach n_branches n_branch n_tally x_n)), (n_from, .inl (kI, 20, .inl f_n_from)), (n_to, .inl (kI, 20, .inl f_n_to))] sz)) 0 0 (va_A [(on, .inr (2, oX2 n_kind n_salt n_pace n_manner n_from n_to n_goal n_reach n_branches n_branch n_tally x_n)), (n_from, .inl (kI, 20, .inl f_n_from)), (n_to, .inl (kI, 20, .inl f_n_to))] sz) := by
  refine Met.ofW (cc := cX2_hasLinkBetween) (maxL := 4) (ret := (some .boolean)) (by decide) rfl ?_
  intro p e s m args0 below meth c s₁ B hml hv
  obtain ⟨hargs, hsz, hP, hE, hD0⟩ := hv
  have hx := B.exec
  have hb := B.bytes
  have hr := B.returns
  have hts := atoms_spec (ws := wsX2_hasLinkBetween) B.pre
  have hown : s.vm.findClass RX2 = some m.cls := findClass_of_methodNamed B.named
  have hlocks := B.notSynchronized
  have hK := hE.1
  have hin2 : ∀ w ∈ wsX20, w ∈ wsX2_hasLinkBetween := fun _ h9 => List.mem_cons_of_mem _ (List.mem_append_right _ h9)
  have hw_0 := hts (.fieldLink RX2 37 "PathProber$Net" "links" "I") (List.mem_of_getElem? (i := 1) rfl)
  have hw_1 := hts (.fieldLink RX2 24 "PathProber$Net" "from" "[I") (List.mem_of_getElem? (i := 2) rfl)
  have hw_2 := hts (.fieldLink RX2 27 "PathProber$Net" "to" "[I") (List.mem_of_getElem? (i := 3) rfl)
  subst hsz
  have hD := hD0.self (sz := s.heap.size)
  generalize hAe : va_A [(on, .inr (2, oX2 n_kind n_salt n_pace n_manner n_from n_to n_goal n_reach n_branches n_branch n_tally x_n)), (n_from, .inl (kI, 20, .inl f_n_from)), (n_to, .inl (kI, 20, .inl f_n_to))] s.heap.size = A at hD ⊢
  have hA : ∀ q : Nat, s.heap.size ≤ q → A q := fun q h => by rw [← hAe]; exact Or.inr h
  have hS : va_S A s.heap s.heap [] := va_S.rf
  have hP : va_P (dC, dI) vwCl [(on, .inr (2, oX2 n_kind n_salt n_pace n_manner n_from n_to n_goal n_reach n_branches n_branch n_tally x_n)), (n_from, .inl (kI, 20, .inl f_n_from)), (n_to, .inl (kI, 20, .inl f_n_to))] s.heap := hP
  have hl := lv_entry ([.ref on, .int p0, .int p1]) (n := 4) (Nat.le_of_ble_eq_true rfl)
  have hla : entryFrame m args0 4 = entryFrame m ([.ref on, .int p0, .int p1] : List Value).toArray 4 := by rw [hargs]
  rw [hla, lg_entry_eq]
  generalize (lg_sl ([.ref on, .int p0, .int p1]) ++ List.replicate (4 - (lg_sl ([.ref on, .int p0, .int p1])).length) Slot.unset).toArray = ls at hl ⊢
  have hl : lv_has ls 4 [(0, .ref on), (1, .int p0), (2, .int p1)] := hl
  have hJ2 : ∀ (n : Nat) (v2_loc3 : Int32) (H : Heap) (locs : List Loc) (ls : Array Slot), (20 - v2_loc3.toInt).toNat < n → iv 0 20 v2_loc3 → (∀ j : Nat, (j : Int) < v2_loc3.toInt → ¬ (f_n_from j = p0 ∧ f_n_to j = p1)) → va_P (dC, dI) vwCl [(on, .inr (2, oX2 n_kind n_salt n_pace n_manner n_from n_to n_goal n_reach n_branches n_branch n_tally x_n)), (n_from, .inl (kI, 20, .inl f_n_from)), (n_to, .inl (kI, 20, .inl f_n_to))] H → va_D A [(on, .inr (2, oX2 n_kind n_salt n_pace n_manner n_from n_to n_goal n_reach n_branches n_branch n_tally x_n)), (n_from, .inl (kI, 20, .inl f_n_from)), (n_to, .inl (kI, 20, .inl f_n_to))] → va_S A s.heap H locs → lv_has ls 4 [(0, .ref on), (1, .int p0), (2, .int p1), (3, .int v2_loc3)] → W p l e (headSpec wsX2_hasLinkBetween rm_s2_hasLinkBetween).room s m args0 below meth c H locs (0) (0) (MQ below (va_Qi (fun (r : Int32) (_ : Unit) => iv 0 1 r ∧ ((r = 0 ∧ ¬ hasT f_n_from f_n_to (x_n 1) p0 p1) ∨ (¬ r = 0 ∧ hasT f_n_from f_n_to (x_n 1) p0 p1))) (fun _ t => va_P (dC, dI) vwCl [(on, .inr (2, oX2 n_kind n_salt n_pace n_manner n_from n_to n_goal n_reach n_branches n_branch n_tally x_n)), (n_from, .inl (kI, 20, .inl f_n_from)), (n_to, .inl (kI, 20, .inl f_n_to))] t.heap ∧ va_D A [(on, .inr (2, oX2 n_kind n_salt n_pace n_manner n_from n_to n_goal n_reach n_branches n_branch n_tally x_n)), (n_from, .inl (kI, 20, .inl f_n_from)), (n_to, .inl (kI, 20, .inl f_n_to))]) A) args0 s 0 0 A) (F0 m 2 ls []) := by
    intro n
    induction n with
    | zero => intro v2_loc3 H locs ls hm2; exact absurd hm2 (Nat.not_lt_zero _)
    | succ n ih2 =>
      intro v2_loc3 H locs ls hm2 h2_1 hga_2 hP hD hS hl
      refine lv_iload_n hx hb dX2_hasLinkBetween_2 rfl (lv_at hl 3 rfl) ?_
      refine lv_aload_n hx hb dX2_hasLinkBetween_3 rfl (lv_at hl 0 rfl) ?_
      refine va_get (D := (dC, dI)) (ci := 2) (v := .int (x_n 1)) (C := RX2) (T := TX2) (N := 15) hx hb hts hin2 hown hK hP 0 rfl rfl 8 (Nat.le_of_ble_eq_true rfl) hw_0 (fun _ h9 => h9) rfl dX2_hasLinkBetween_4 ?_
      refine lv_icmp_ge (tgt := 38) hx hb dX2_hasLinkBetween_7 rfl (fun c1 => ?_) (fun c1 => ?_)
      · refine lv_iconst (v := 0) hx hb dX2_hasLinkBetween_38 ic_0 ?_
        have hP9 := hP
        have hD9 := hD
        exact W.zret (v := 0) (ty := .boolean) hx hb hr rfl (fun t ht hW => ⟨⟨0, (), rfl, ⟨(iv_w ivk_0 (by decide) (by decide)), Or.inl ⟨rfl, fun ⟨j, hj, e⟩ => hga_2 j (Int.lt_of_lt_of_le hj (Int32.le_iff_toInt_le.mp c1)) e⟩⟩, by rw [ht]; exact hP9, hD9⟩, hS.F ht⟩) hS.2.2 dX2_hasLinkBetween_39
      · have b2 : iv 0 19 v2_loc3 := iv_ltL (Int32.not_le.mp c1) h2_1 (hx_n 1 : iv 0 20 (x_n 1)) (by decide) (by decide)
        have b3 : iv 1 20 (x_n 1) := iv_ltR (Int32.not_le.mp c1) h2_1 (hx_n 1 : iv 0 20 (x_n 1)) (by decide) (by decide)
        refine lv_aload_n hx hb dX2_hasLinkBetween_10 rfl (lv_at hl 0 rfl) ?_
        refine va_get (D := (dC, dI)) (ci := 2) (v := .ref n_from) (C := RX2) (T := TX2) (N := 15) hx hb hts hin2 hown hK hP 0 rfl rfl 4 (Nat.le_of_ble_eq_true rfl) hw_1 (fun _ h9 => h9) rfl dX2_hasLinkBetween_11 ?_
        refine lv_iload_n hx hb dX2_hasLinkBetween_14 rfl (lv_at hl 3 rfl) ?_
        refine va_iald hx hb hK hP 1 1 rfl rfl (iv_in b2 (by decide) (by decide)) dX2_hasLinkBetween_15 ?_
        have b4 : iv 0 11 (f_n_from v2_loc3.toNatClampNeg) := hf_n_from _
        refine lv_iload_n hx hb dX2_hasLinkBetween_16 rfl (lv_at hl 1 rfl) ?_
        refine lv_icmp_ne (tgt := 32) hx hb dX2_hasLinkBetween_17 rfl (fun c5 => ?_) (fun c5 => ?_)
        · refine lv_iinc (v := v2_loc3 + Int32.ofInt 1) (lv' := [(3, .int (v2_loc3 + Int32.ofInt 1)), (0, .ref on), (1, .int p0), (2, .int p1)]) hx hb dX2_hasLinkBetween_32 hl (k := 3) rfl (rfl) (Nat.le_of_ble_eq_true rfl) rfl (fun ls hl => ?_)
          have b6 : iv 1 20 (v2_loc3 + Int32.ofInt 1) := iv_add b2 ivo_1 (by decide) (by decide) (by decide) (by decide)
          refine lv_goto (tgt := 2) hx hb dX2_hasLinkBetween_35 rfl ?_
          exact ih2 (v2_loc3 + Int32.ofInt 1) _ _ _ (ms_up (c := 1) (d := 0) b2 hm2 (by decide) (iv_inc 1 b2 (by decide) (by decide) (by decide) (by decide)) (by decide) rfl) ((iv_w b6 (by decide) (by decide))) ((show ∀ j : Nat, (j : Int) < (v2_loc3 + Int32.ofInt 1).toInt → ¬ (f_n_from j = p0 ∧ f_n_to j = p1) from al_s (P := fun j => ¬ (f_n_from j = p0 ∧ f_n_to j = p1)) hga_2 (iv_w b2 (by decide) (by decide)) (fun w => c5 w.1))) (hP) (hD) hS (lv_sub hl [1, 2, 3, 0] rfl)
        · have b7 : iv 0 11 p0 := iv_eqR c5 b4
          refine lv_aload_n hx hb dX2_hasLinkBetween_20 rfl (lv_at hl 0 rfl) ?_
          refine va_get (D := (dC, dI)) (ci := 2) (v := .ref n_to) (C := RX2) (T := TX2) (N := 15) hx hb hts hin2 hown hK hP 0 rfl rfl 5 (Nat.le_of_ble_eq_true rfl) hw_2 (fun _ h9 => h9) rfl dX2_hasLinkBetween_21 ?_
          refine lv_iload_n hx hb dX2_hasLinkBetween_24 rfl (lv_at hl 3 rfl) ?_
          refine va_iald hx hb hK hP 2 1 rfl rfl (iv_in b2 (by decide) (by decide)) dX2_hasLinkBetween_25 ?_
          have b8 : iv 0 11 (f_n_to v2_loc3.toNatClampNeg) := hf_n_to _
          refine lv_iload_n hx hb dX2_hasLinkBetween_26 rfl (lv_at hl 2 rfl) ?_
          refine lv_icmp_ne (tgt := 32) hx hb dX2_hasLinkBetween_27 rfl (fun c9 => ?_) (fun c9 => ?_)
          · refine lv_iinc (v := v2_loc3 + Int32.ofInt 1) (lv' := [(3, .int (v2_loc3 + Int32.ofInt 1)), (0, .ref on), (1, .int p0), (2, .int p1)]) hx hb dX2_hasLinkBetween_32 hl (k := 3) rfl (rfl) (Nat.le_of_ble_eq_true rfl) rfl (fun ls hl => ?_)
            have b10 : iv 1 20 (v2_loc3 + Int32.ofInt 1) := iv_add b2 ivo_1 (by decide) (by decide) (by decide) (by decide)
            refine lv_goto (tgt := 2) hx hb dX2_hasLinkBetween_35 rfl ?_
            exact ih2 (v2_loc3 + Int32.ofInt 1) _ _ _ (ms_up (c := 1) (d := 0) b2 hm2 (by decide) (iv_inc 1 b2 (by decide) (by decide) (by decide) (by decide)) (by decide) rfl) ((iv_w b10 (by decide) (by decide))) ((show ∀ j : Nat, (j : Int) < (v2_loc3 + Int32.ofInt 1).toInt → ¬ (f_n_from j = p0 ∧ f_n_to j = p1) from al_s (P := fun j => ¬ (f_n_from j = p0 ∧ f_n_to j = p1)) hga_2 (iv_w b2 (by decide) (by decide)) (fun w => c9 w.2))) (hP) (hD) hS (lv_sub hl [1, 2, 3, 0] rfl)
          · have b11 : iv 0 11 p1 := iv_eqR c9 b8
            refine lv_iconst (v := 1) hx hb dX2_hasLinkBetween_30 ic_1 ?_
            have hP9 := hP
            have hD9 := hD
            exact W.zret (v := 1) (ty := .boolean) hx hb hr rfl (fun t ht hW => ⟨⟨1, (), rfl, ⟨(iv_w ivk_1 (by decide) (by decide)), Or.inr ⟨by decide, v2_loc3.toNatClampNeg, by rw [cl_nat b2 (by decide)]; exact Int32.lt_iff_toInt_lt.mp (Int32.not_le.mp c1), c5, c9⟩⟩, by rw [ht]; exact hP9, hD9⟩, hS.F ht⟩) hS.2.2 dX2_hasLinkBetween_31
  refine lv_iconst (v := 0) hx hb dX2_hasLinkBetween_0 ic_0 ?_
  refine lv_istore_n (lv' := [(3, .int 0), (0, .ref on), (1, .int p0), (2, .int p1)]) hx hb dX2_hasLinkBetween_1 rfl hl (Nat.le_of_ble_eq_true rfl) rfl (fun ls hl => ?_)
  exact hJ2 _ 0 _ _ _ (Nat.lt_succ_self _) ((iv_w ivk_0 (by decide) (by decide))) ((show ∀ j : Nat, (j : Int) < ((0 : Int32)).toInt → ¬ (f_n_from j = p0 ∧ f_n_to j = p1) from al_0)) (hP) (hD) hS (lv_sub hl [1, 2, 3, 0] rfl)
def rm_s2_findReach : Room := { frames := 0, cells := 0, slots := 0, locals := 0 }
set_option maxHeartbeats 4000000 in
set_option maxRecDepth 100000 in
theorem s2_findReach (l : Launch) (dC : Nat → ClassId) (dI : Nat → Nat → Nat) (kB kI kJ kZ kC kS : ClassId) (sz : Nat) (on : Nat) (n_kind : Nat) (n_salt : Nat) (n_pace : Nat) (n_manner : Nat) (n_from : Nat) (n_to : Nat) (n_goal : Nat) (n_reach : Nat) (n_branches : Nat) (n_branch : Nat) (n_tally : Nat) (x_n : Nat → Int32) (f_n_from : Nat → Int32) (f_n_to : Nat → Int32) (f_n_reach : Nat → Int32) (hx_n : fI lX2 hX2 x_n) (hf_n_from : fI (fun _ => 0) (fun _ => 11) f_n_from) (hf_n_to : fI (fun _ => 0) (fun _ => 11) f_n_to) : Met l yX2_findReach wsX2_findReach rm_s2_findReach (va_Pc [.ref on] (fun U => U.heap.size = sz ∧ va_P (dC, dI) vwCl [(on, .inr (2, oX2 n_kind n_salt n_pace n_manner n_from n_to n_goal n_reach n_branches n_branch n_tally x_n)), (n_from, .inl (kI, 20, .inl f_n_from)), (n_to, .inl (kI, 20, .inl f_n_to)), (n_reach, .inl (kI, 12, .inl f_n_reach))] U.heap ∧ kE dC dI kB kI kJ kZ kC kS U ∧ va_D (fun _ => True) [(on, .inr (2, oX2 n_kind n_salt n_pace n_manner n_from n_to n_goal n_reach n_branches n_branch n_tally x_n)), (n_from, .inl (kI, 20, .inl f_n_from)), (n_to, .inl (kI, 20, .inl f_n_to)), (n_reach, .inl (kI, 12, .inl f_n_reach))])) (va_Qv (fun (_ : Unit) => True) (fun _ t => ∃ (f_n_reach' : Nat → Int32), va_P (dC, dI) vwCl [(on, .inr (2, oX2 n_kind n_salt n_pace n_manner n_from n_to n_goal n_reach n_branches n_branch n_tally x_n)), (n_from, .inl (kI, 20, .inl f_n_from)), (n_to, .inl (kI, 20, .inl f_n_to)), (n_reach, .inl (kI, 12, .inl f_n_reach'))] t.heap ∧ va_D (va_A [(on, .inr (2, oX2 n_kind n_salt n_pace n_manner n_from n_to n_goal n_reach n_branches n_branch n_tally x_n)), (n_from, .inl (kI, 20, .inl f_n_from)), (n_to, .inl (kI, 20, .inl f_n_to)), (n_reach, .inl (kI, 12, .inl f_n_reach))] sz) [(on, .inr (2, oX2 n_kind n_salt n_pace n_manner n_from n_to n_goal n_reach n_branches n_branch n_tally x_n)), (n_from, .inl (kI, 20, .inl f_n_from)), (n_to, .inl (kI, 20, .inl f_n_to)), (n_reach, .inl (kI, 12, .inl f_n_reach'))]) (va_A [(on, .inr (2, oX2 n_kind n_salt n_pace n_manner n_from n_to n_goal n_reach n_branches n_branch n_tally x_n)), (n_from, .inl (kI, 20, .inl f_n_from)), (n_to, .inl (kI, 20, .inl f_n_to)), (n_reach, .inl (kI, 12, .inl f_n_reach))] sz)) 0 0 (va_A [(on, .inr (2, oX2 n_kind n_salt n_pace n_manner n_from n_to n_goal n_reach n_branches n_branch n_tally x_n)), (n_from, .inl (kI, 20, .inl f_n_from)), (n_to, .inl (kI, 20, .inl f_n_to)), (n_reach, .inl (kI, 12, .inl f_n_reach))] sz) := by
  refine Met.ofW (cc := cX2_findReach) (maxL := 3) (ret := none) (by decide) rfl ?_
  intro p e s m args0 below meth c s₁ B hml hv
  obtain ⟨hargs, hsz, hP, hE, hD0⟩ := hv
  have hx := B.exec
  have hb := B.bytes
  have hr := B.returns
  have hts := atoms_spec (ws := wsX2_findReach) B.pre
  have hown : s.vm.findClass RX2 = some m.cls := findClass_of_methodNamed B.named
  have hlocks := B.notSynchronized
  have hK := hE.1
  have hin2 : ∀ w ∈ wsX20, w ∈ wsX2_findReach := fun _ h9 => List.mem_cons_of_mem _ (List.mem_append_right _ h9)
  have hw_0 := hts (.fieldLink RX2 37 "PathProber$Net" "links" "I") (List.mem_of_getElem? (i := 3) rfl)
  have hw_1 := hts (.fieldLink RX2 24 "PathProber$Net" "from" "[I") (List.mem_of_getElem? (i := 4) rfl)
  have hw_2 := hts (.fieldLink RX2 46 "PathProber$Net" "reach" "[I") (List.mem_of_getElem? (i := 2) rfl)
  have hw_3 := hts (.fieldLink RX2 27 "PathProber$Net" "to" "[I") (List.mem_of_getElem? (i := 5) rfl)
  have hw_4 := hts (.fieldLink RX2 33 "PathProber$Net" "routers" "I") (List.mem_of_getElem? (i := 1) rfl)
  subst hsz
  have hD := hD0.self (sz := s.heap.size)
  generalize hAe : va_A [(on, .inr (2, oX2 n_kind n_salt n_pace n_manner n_from n_to n_goal n_reach n_branches n_branch n_tally x_n)), (n_from, .inl (kI, 20, .inl f_n_from)), (n_to, .inl (kI, 20, .inl f_n_to)), (n_reach, .inl (kI, 12, .inl f_n_reach))] s.heap.size = A at hD ⊢
  have hA : ∀ q : Nat, s.heap.size ≤ q → A q := fun q h => by rw [← hAe]; exact Or.inr h
  have hS : va_S A s.heap s.heap [] := va_S.rf
  have hP : va_P (dC, dI) vwCl [(on, .inr (2, oX2 n_kind n_salt n_pace n_manner n_from n_to n_goal n_reach n_branches n_branch n_tally x_n)), (n_from, .inl (kI, 20, .inl f_n_from)), (n_to, .inl (kI, 20, .inl f_n_to)), (n_reach, .inl (kI, 12, .inl f_n_reach))] s.heap := hP
  have hl := lv_entry ([.ref on]) (n := 3) (Nat.le_of_ble_eq_true rfl)
  have hla : entryFrame m args0 3 = entryFrame m ([.ref on] : List Value).toArray 3 := by rw [hargs]
  rw [hla, lg_entry_eq]
  generalize (lg_sl ([.ref on]) ++ List.replicate (3 - (lg_sl ([.ref on])).length) Slot.unset).toArray = ls at hl ⊢
  have hl : lv_has ls 3 [(0, .ref on)] := hl
  have hJ7 : ∀ (n : Nat) (g7_3 : Nat → Int32) (v7_loc1 : Int32) (H : Heap) (locs : List Loc) (ls : Array Slot), (v7_loc1.toInt - (-1)).toNat < n → iv (-1) 11 v7_loc1 → va_P (dC, dI) vwCl [(on, .inr (2, oX2 n_kind n_salt n_pace n_manner n_from n_to n_goal n_reach n_branches n_branch n_tally x_n)), (n_from, .inl (kI, 20, .inl f_n_from)), (n_to, .inl (kI, 20, .inl f_n_to)), (n_reach, .inl (kI, 12, .inl g7_3))] H → va_D A [(on, .inr (2, oX2 n_kind n_salt n_pace n_manner n_from n_to n_goal n_reach n_branches n_branch n_tally x_n)), (n_from, .inl (kI, 20, .inl f_n_from)), (n_to, .inl (kI, 20, .inl f_n_to)), (n_reach, .inl (kI, 12, .inl g7_3))] → va_S A s.heap H locs → lv_has ls 3 [(0, .ref on), (1, .int v7_loc1)] → W p l e (headSpec wsX2_findReach rm_s2_findReach).room s m args0 below meth c H locs (0) (0) (MQ below (va_Qv (fun (_ : Unit) => True) (fun _ t => ∃ (f_n_reach' : Nat → Int32), va_P (dC, dI) vwCl [(on, .inr (2, oX2 n_kind n_salt n_pace n_manner n_from n_to n_goal n_reach n_branches n_branch n_tally x_n)), (n_from, .inl (kI, 20, .inl f_n_from)), (n_to, .inl (kI, 20, .inl f_n_to)), (n_reach, .inl (kI, 12, .inl f_n_reach'))] t.heap ∧ va_D A [(on, .inr (2, oX2 n_kind n_salt n_pace n_manner n_from n_to n_goal n_reach n_branches n_branch n_tally x_n)), (n_from, .inl (kI, 20, .inl f_n_from)), (n_to, .inl (kI, 20, .inl f_n_to)), (n_reach, .inl (kI, 12, .inl f_n_reach'))]) A) args0 s 0 0 A) (F0 m 7 ls []) := by
    intro n
    induction n with
    | zero => intro g7_3 v7_loc1 H locs ls hm7; exact absurd hm7 (Nat.not_lt_zero _)
    | succ n ih7 =>
      intro g7_3 v7_loc1 H locs ls hm7 h7_1 hP hD hS hl
      have hJ22 : ∀ (n : Nat) (g22_3 : Nat → Int32) (v22_loc2 : Int32) (H : Heap) (locs : List Loc) (ls : Array Slot), (20 - v22_loc2.toInt).toNat < n → iv 0 11 v7_loc1 → iv 0 20 v22_loc2 → va_P (dC, dI) vwCl [(on, .inr (2, oX2 n_kind n_salt n_pace n_manner n_from n_to n_goal n_reach n_branches n_branch n_tally x_n)), (n_from, .inl (kI, 20, .inl f_n_from)), (n_to, .inl (kI, 20, .inl f_n_to)), (n_reach, .inl (kI, 12, .inl g22_3))] H → va_D A [(on, .inr (2, oX2 n_kind n_salt n_pace n_manner n_from n_to n_goal n_reach n_branches n_branch n_tally x_n)), (n_from, .inl (kI, 20, .inl f_n_from)), (n_to, .inl (kI, 20, .inl f_n_to)), (n_reach, .inl (kI, 12, .inl g22_3))] → va_S A s.heap H locs → lv_has ls 3 [(0, .ref on), (1, .int v7_loc1), (2, .int v22_loc2)] → W p l e (headSpec wsX2_findReach rm_s2_findReach).room s m args0 below meth c H locs (0) (0) (MQ below (va_Qv (fun (_ : Unit) => True) (fun _ t => ∃ (f_n_reach' : Nat → Int32), va_P (dC, dI) vwCl [(on, .inr (2, oX2 n_kind n_salt n_pace n_manner n_from n_to n_goal n_reach n_branches n_branch n_tally x_n)), (n_from, .inl (kI, 20, .inl f_n_from)), (n_to, .inl (kI, 20, .inl f_n_to)), (n_reach, .inl (kI, 12, .inl f_n_reach'))] t.heap ∧ va_D A [(on, .inr (2, oX2 n_kind n_salt n_pace n_manner n_from n_to n_goal n_reach n_branches n_branch n_tally x_n)), (n_from, .inl (kI, 20, .inl f_n_from)), (n_to, .inl (kI, 20, .inl f_n_to)), (n_reach, .inl (kI, 12, .inl f_n_reach'))]) A) args0 s 0 0 A) (F0 m 22 ls []) := by
        intro n
        induction n with
        | zero => intro g22_3 v22_loc2 H locs ls hm22; exact absurd hm22 (Nat.not_lt_zero _)
        | succ n ih22 =>
          intro g22_3 v22_loc2 H locs ls hm22 h22_1 h22_2 hP hD hS hl
          have hJ60 : ∀ (g60_3 : Nat → Int32) (H : Heap) (locs : List Loc) (ls : Array Slot), iv 0 19 v22_loc2 → iv 1 20 (x_n 1) → va_P (dC, dI) vwCl [(on, .inr (2, oX2 n_kind n_salt n_pace n_manner n_from n_to n_goal n_reach n_branches n_branch n_tally x_n)), (n_from, .inl (kI, 20, .inl f_n_from)), (n_to, .inl (kI, 20, .inl f_n_to)), (n_reach, .inl (kI, 12, .inl g60_3))] H → va_D A [(on, .inr (2, oX2 n_kind n_salt n_pace n_manner n_from n_to n_goal n_reach n_branches n_branch n_tally x_n)), (n_from, .inl (kI, 20, .inl f_n_from)), (n_to, .inl (kI, 20, .inl f_n_to)), (n_reach, .inl (kI, 12, .inl g60_3))] → va_S A s.heap H locs → lv_has ls 3 [(0, .ref on), (1, .int v7_loc1), (2, .int v22_loc2)] → W p l e (headSpec wsX2_findReach rm_s2_findReach).room s m args0 below meth c H locs (0) (0) (MQ below (va_Qv (fun (_ : Unit) => True) (fun _ t => ∃ (f_n_reach' : Nat → Int32), va_P (dC, dI) vwCl [(on, .inr (2, oX2 n_kind n_salt n_pace n_manner n_from n_to n_goal n_reach n_branches n_branch n_tally x_n)), (n_from, .inl (kI, 20, .inl f_n_from)), (n_to, .inl (kI, 20, .inl f_n_to)), (n_reach, .inl (kI, 12, .inl f_n_reach'))] t.heap ∧ va_D A [(on, .inr (2, oX2 n_kind n_salt n_pace n_manner n_from n_to n_goal n_reach n_branches n_branch n_tally x_n)), (n_from, .inl (kI, 20, .inl f_n_from)), (n_to, .inl (kI, 20, .inl f_n_to)), (n_reach, .inl (kI, 12, .inl f_n_reach'))]) A) args0 s 0 0 A) (F0 m 60 ls []) := by
            intro g60_3 H locs ls h60_1 h60_2 hP hD hS hl
            refine lv_iinc (v := v22_loc2 + Int32.ofInt 1) (lv' := [(2, .int (v22_loc2 + Int32.ofInt 1)), (0, .ref on), (1, .int v7_loc1)]) hx hb dX2_findReach_60 hl (k := 2) rfl (rfl) (Nat.le_of_ble_eq_true rfl) rfl (fun ls hl => ?_)
            have b1 : iv 1 20 (v22_loc2 + Int32.ofInt 1) := iv_add h60_1 ivo_1 (by decide) (by decide) (by decide) (by decide)
            refine lv_goto (tgt := 22) hx hb dX2_findReach_63 rfl ?_
            exact ih22 g60_3 (v22_loc2 + Int32.ofInt 1) _ _ _ (ms_up (c := 1) (d := 0) h60_1 hm22 (by decide) (iv_inc 1 h60_1 (by decide) (by decide) (by decide) (by decide)) (by decide) rfl) (h22_1) ((iv_w b1 (by decide) (by decide))) (hP) (hD) hS (lv_sub hl [1, 2, 0] rfl)
          refine lv_iload_n hx hb dX2_findReach_22 rfl (lv_at hl 2 rfl) ?_
          refine lv_aload_n hx hb dX2_findReach_23 rfl (lv_at hl 0 rfl) ?_
          refine va_get (D := (dC, dI)) (ci := 2) (v := .int (x_n 1)) (C := RX2) (T := TX2) (N := 15) hx hb hts hin2 hown hK hP 0 rfl rfl 8 (Nat.le_of_ble_eq_true rfl) hw_0 (fun _ h9 => h9) rfl dX2_findReach_24 ?_
          refine lv_icmp_ge (tgt := 66) hx hb dX2_findReach_27 rfl (fun c2 => ?_) (fun c2 => ?_)
          · refine lv_iinc (v := v7_loc1 + Int32.ofInt (-1)) (lv' := [(1, .int (v7_loc1 + Int32.ofInt (-1))), (0, .ref on), (2, .int v22_loc2)]) hx hb dX2_findReach_66 hl (k := 1) rfl (rfl) (Nat.le_of_ble_eq_true rfl) rfl (fun ls hl => ?_)
            have b3 : iv (-1) 10 (v7_loc1 + Int32.ofInt (-1)) := iv_add h22_1 ivo_m1 (by decide) (by decide) (by decide) (by decide)
            refine lv_goto (tgt := 7) hx hb dX2_findReach_69 rfl ?_
            exact ih7 g22_3 (v7_loc1 + Int32.ofInt (-1)) _ _ _ (ms_dn (c := 1) (d := 0) h22_1 hm7 (by decide) (iv_inc (-1) h22_1 (by decide) (by decide) (by decide) (by decide)) (by decide) rfl) ((iv_w b3 (by decide) (by decide))) (hP) (hD) hS (lv_sub hl [1, 0] rfl)
          · have b4 : iv 0 19 v22_loc2 := iv_ltL (Int32.not_le.mp c2) h22_2 (hx_n 1 : iv 0 20 (x_n 1)) (by decide) (by decide)
            have b5 : iv 1 20 (x_n 1) := iv_ltR (Int32.not_le.mp c2) h22_2 (hx_n 1 : iv 0 20 (x_n 1)) (by decide) (by decide)
            refine lv_aload_n hx hb dX2_findReach_30 rfl (lv_at hl 0 rfl) ?_
            refine va_get (D := (dC, dI)) (ci := 2) (v := .ref n_from) (C := RX2) (T := TX2) (N := 15) hx hb hts hin2 hown hK hP 0 rfl rfl 4 (Nat.le_of_ble_eq_true rfl) hw_1 (fun _ h9 => h9) rfl dX2_findReach_31 ?_
            refine lv_iload_n hx hb dX2_findReach_34 rfl (lv_at hl 2 rfl) ?_
            refine va_iald hx hb hK hP 1 1 rfl rfl (iv_in b4 (by decide) (by decide)) dX2_findReach_35 ?_
            refine iv_top (a := 0) (b := 11) (hf_n_from _) (fun z6 b7 => ?_)
            refine lv_iload_n hx hb dX2_findReach_36 rfl (lv_at hl 1 rfl) ?_
            refine lv_icmp_ne (tgt := 60) hx hb dX2_findReach_37 rfl (fun c8 => ?_) (fun c8 => ?_)
            · exact hJ60 g22_3 _ _ _ (b4) (b5) (hP) (hD) hS (lv_sub hl [0, 1, 2] rfl)
            · refine lv_aload_n hx hb dX2_findReach_40 rfl (lv_at hl 0 rfl) ?_
              refine va_get (D := (dC, dI)) (ci := 2) (v := .ref n_reach) (C := RX2) (T := TX2) (N := 15) hx hb hts hin2 hown hK hP 0 rfl rfl 11 (Nat.le_of_ble_eq_true rfl) hw_2 (fun _ h9 => h9) rfl dX2_findReach_41 ?_
              refine lv_iload_n hx hb dX2_findReach_44 rfl (lv_at hl 1 rfl) ?_
              refine lv_dup2_11 hx hb dX2_findReach_45 rfl rfl ?_
              refine va_iald hx hb hK hP 3 1 rfl rfl (iv_in h22_1 (by decide) (by decide)) dX2_findReach_46 ?_
              refine lv_topi (fun z9 _ => ?_)
              refine lv_aload_n hx hb dX2_findReach_47 rfl (lv_at hl 0 rfl) ?_
              refine va_get (D := (dC, dI)) (ci := 2) (v := .ref n_reach) (C := RX2) (T := TX2) (N := 15) hx hb hts hin2 hown hK hP 0 rfl rfl 11 (Nat.le_of_ble_eq_true rfl) hw_2 (fun _ h9 => h9) rfl dX2_findReach_48 ?_
              refine lv_aload_n hx hb dX2_findReach_51 rfl (lv_at hl 0 rfl) ?_
              refine va_get (D := (dC, dI)) (ci := 2) (v := .ref n_to) (C := RX2) (T := TX2) (N := 15) hx hb hts hin2 hown hK hP 0 rfl rfl 5 (Nat.le_of_ble_eq_true rfl) hw_3 (fun _ h9 => h9) rfl dX2_findReach_52 ?_
              refine lv_iload_n hx hb dX2_findReach_55 rfl (lv_at hl 2 rfl) ?_
              refine va_iald hx hb hK hP 2 1 rfl rfl (iv_in b4 (by decide) (by decide)) dX2_findReach_56 ?_
              refine iv_top (a := 0) (b := 11) (hf_n_to _) (fun z10 b11 => ?_)
              refine va_iald hx hb hK hP 3 1 rfl rfl (iv_in b11 (by decide) (by decide)) dX2_findReach_57 ?_
              refine lv_topi (fun z12 _ => ?_)
              refine lv_ior hx hb dX2_findReach_58 ?_
              refine lv_topi (fun z13 _ => ?_)
              refine va_iast hx hb hK hP hD hS 3 1 rfl rfl (iv_in h22_1 (by decide) (by decide)) dX2_findReach_59 (fun H locs hPa hDa hS => ?_)
              clear hP hD
              have hP : va_P (dC, dI) vwCl [(on, .inr (2, oX2 n_kind n_salt n_pace n_manner n_from n_to n_goal n_reach n_branches n_branch n_tally x_n)), (n_from, .inl (kI, 20, .inl f_n_from)), (n_to, .inl (kI, 20, .inl f_n_to)), (n_reach, .inl (kI, 12, .inl (upd g22_3 v7_loc1.toNatClampNeg z13)))] H := hPa
              have hD : va_D A [(on, .inr (2, oX2 n_kind n_salt n_pace n_manner n_from n_to n_goal n_reach n_branches n_branch n_tally x_n)), (n_from, .inl (kI, 20, .inl f_n_from)), (n_to, .inl (kI, 20, .inl f_n_to)), (n_reach, .inl (kI, 12, .inl (upd g22_3 v7_loc1.toNatClampNeg z13)))] := hDa
              clear hPa hDa
              generalize (upd g22_3 v7_loc1.toNatClampNeg z13) = f14 at hP hD
              exact hJ60 f14 _ _ _ (b4) (b5) (hP) (hD) hS (lv_sub hl [0, 1, 2] rfl)
      refine lv_iload_n hx hb dX2_findReach_7 rfl (lv_at hl 1 rfl) ?_
      refine lv_if_lt (tgt := 72) hx hb dX2_findReach_8 rfl (fun c15 => ?_) (fun c15 => ?_)
      · have b16 : iv (-1) (-1) v7_loc1 := iv_ltL c15 h7_1 ivk_0 (by decide) (by decide)
        have hP9 := hP
        have hD9 := hD
        exact W.vret hx hb hr (fun t ht hW => ⟨⟨(), rfl, trivial, g7_3, by rw [ht]; exact hP9, hD9⟩, hS.F ht⟩) hS.2.2 dX2_findReach_72
      · have b17 : iv 0 11 v7_loc1 := iv_leR (Int32.not_lt.mp c15) ivk_0 h7_1 (by decide) (by decide)
        refine lv_aload_n hx hb dX2_findReach_11 rfl (lv_at hl 0 rfl) ?_
        refine va_get (D := (dC, dI)) (ci := 2) (v := .ref n_reach) (C := RX2) (T := TX2) (N := 15) hx hb hts hin2 hown hK hP 0 rfl rfl 11 (Nat.le_of_ble_eq_true rfl) hw_2 (fun _ h9 => h9) rfl dX2_findReach_12 ?_
        refine lv_iload_n hx hb dX2_findReach_15 rfl (lv_at hl 1 rfl) ?_
        refine lv_iconst (v := 1) hx hb dX2_findReach_16 ic_1 ?_
        refine lv_iload_n hx hb dX2_findReach_17 rfl (lv_at hl 1 rfl) ?_
        refine lv_ishl hx hb dX2_findReach_18 ?_
        refine iv_top (a := 0) (b := 2048) (iv_shl1 11 b17 (by decide) (by decide) (by decide) (by decide)) (fun z18 b19 => ?_)
        refine va_iast hx hb hK hP hD hS 3 1 rfl rfl (iv_in b17 (by decide) (by decide)) dX2_findReach_19 (fun H locs hPa hDa hS => ?_)
        clear hP hD
        have hP : va_P (dC, dI) vwCl [(on, .inr (2, oX2 n_kind n_salt n_pace n_manner n_from n_to n_goal n_reach n_branches n_branch n_tally x_n)), (n_from, .inl (kI, 20, .inl f_n_from)), (n_to, .inl (kI, 20, .inl f_n_to)), (n_reach, .inl (kI, 12, .inl (upd g7_3 v7_loc1.toNatClampNeg z18)))] H := hPa
        have hD : va_D A [(on, .inr (2, oX2 n_kind n_salt n_pace n_manner n_from n_to n_goal n_reach n_branches n_branch n_tally x_n)), (n_from, .inl (kI, 20, .inl f_n_from)), (n_to, .inl (kI, 20, .inl f_n_to)), (n_reach, .inl (kI, 12, .inl (upd g7_3 v7_loc1.toNatClampNeg z18)))] := hDa
        clear hPa hDa
        generalize (upd g7_3 v7_loc1.toNatClampNeg z18) = f20 at hP hD
        refine lv_iconst (v := 0) hx hb dX2_findReach_20 ic_0 ?_
        refine lv_istore_n (lv' := [(2, .int 0), (0, .ref on), (1, .int v7_loc1)]) hx hb dX2_findReach_21 rfl hl (Nat.le_of_ble_eq_true rfl) rfl (fun ls hl => ?_)
        exact hJ22 _ f20 0 _ _ _ (Nat.lt_succ_self _) (b17) ((iv_w ivk_0 (by decide) (by decide))) (hP) (hD) hS (lv_sub hl [1, 2, 0] rfl)
  refine lv_aload_n hx hb dX2_findReach_0 rfl (lv_at hl 0 rfl) ?_
  refine va_get (D := (dC, dI)) (ci := 2) (v := .int (x_n 0)) (C := RX2) (T := TX2) (N := 15) hx hb hts hin2 hown hK hP 0 rfl rfl 7 (Nat.le_of_ble_eq_true rfl) hw_4 (fun _ h9 => h9) rfl dX2_findReach_1 ?_
  refine lv_iconst (v := 1) hx hb dX2_findReach_4 ic_1 ?_
  refine lv_isub hx hb dX2_findReach_5 ?_
  refine iv_top (a := (-1)) (b := 11) (iv_sub (hx_n 0 : iv 0 12 (x_n 0)) ivk_1 (by decide) (by decide) (by decide) (by decide)) (fun z21 b22 => ?_)
  refine lv_istore_n (lv' := [(1, .int z21), (0, .ref on)]) hx hb dX2_findReach_6 rfl hl (Nat.le_of_ble_eq_true rfl) rfl (fun ls hl => ?_)
  exact hJ7 _ f_n_reach z21 _ _ _ (Nat.lt_succ_self _) (b22) (hP) (hD) hS (lv_sub hl [1, 0] rfl)
def rm_s2_comesTo : Room := { frames := 0, cells := 0, slots := 0, locals := 0 }
set_option maxHeartbeats 4000000 in
set_option maxRecDepth 100000 in
theorem s2_comesTo (l : Launch) (dC : Nat → ClassId) (dI : Nat → Nat → Nat) (kB kI kJ kZ kC kS : ClassId) (sz : Nat) (on : Nat) (n_kind : Nat) (n_salt : Nat) (n_pace : Nat) (n_manner : Nat) (n_from : Nat) (n_to : Nat) (n_goal : Nat) (n_reach : Nat) (n_branches : Nat) (n_branch : Nat) (n_tally : Nat) (x_n : Nat → Int32) (f_n_reach : Nat → Int32) (p0 : Int32) (p1 : Int32) (hx_n : fI lX2 hX2 x_n) (hp0 : iv 0 11 p0) : Met l yX2_comesTo wsX2_comesTo rm_s2_comesTo (va_Pc [.ref on, .int p0, .int p1] (fun U => U.heap.size = sz ∧ va_P (dC, dI) vwCl [(on, .inr (2, oX2 n_kind n_salt n_pace n_manner n_from n_to n_goal n_reach n_branches n_branch n_tally x_n)), (n_reach, .inl (kI, 12, .inl f_n_reach))] U.heap ∧ kE dC dI kB kI kJ kZ kC kS U ∧ va_D (fun _ => True) [(on, .inr (2, oX2 n_kind n_salt n_pace n_manner n_from n_to n_goal n_reach n_branches n_branch n_tally x_n)), (n_reach, .inl (kI, 12, .inl f_n_reach))])) (va_Qi (fun (r : Int32) (_ : Unit) => iv 0 1 r) (fun _ t => va_P (dC, dI) vwCl [(on, .inr (2, oX2 n_kind n_salt n_pace n_manner n_from n_to n_goal n_reach n_branches n_branch n_tally x_n)), (n_reach, .inl (kI, 12, .inl f_n_reach))] t.heap ∧ va_D (va_A [(on, .inr (2, oX2 n_kind n_salt n_pace n_manner n_from n_to n_goal n_reach n_branches n_branch n_tally x_n)), (n_reach, .inl (kI, 12, .inl f_n_reach))] sz) [(on, .inr (2, oX2 n_kind n_salt n_pace n_manner n_from n_to n_goal n_reach n_branches n_branch n_tally x_n)), (n_reach, .inl (kI, 12, .inl f_n_reach))]) (va_A [(on, .inr (2, oX2 n_kind n_salt n_pace n_manner n_from n_to n_goal n_reach n_branches n_branch n_tally x_n)), (n_reach, .inl (kI, 12, .inl f_n_reach))] sz)) 0 0 (va_A [(on, .inr (2, oX2 n_kind n_salt n_pace n_manner n_from n_to n_goal n_reach n_branches n_branch n_tally x_n)), (n_reach, .inl (kI, 12, .inl f_n_reach))] sz) := by
  refine Met.ofW (cc := cX2_comesTo) (maxL := 3) (ret := (some .boolean)) (by decide) rfl ?_
  intro p e s m args0 below meth c s₁ B hml hv
  obtain ⟨hargs, hsz, hP, hE, hD0⟩ := hv
  have hx := B.exec
  have hb := B.bytes
  have hr := B.returns
  have hts := atoms_spec (ws := wsX2_comesTo) B.pre
  have hown : s.vm.findClass RX2 = some m.cls := findClass_of_methodNamed B.named
  have hlocks := B.notSynchronized
  have hK := hE.1
  have hin2 : ∀ w ∈ wsX20, w ∈ wsX2_comesTo := fun _ h9 => List.mem_cons_of_mem _ (List.mem_append_right _ h9)
  have hw_0 := hts (.fieldLink RX2 46 "PathProber$Net" "reach" "[I") (List.mem_of_getElem? (i := 1) rfl)
  subst hsz
  have hD := hD0.self (sz := s.heap.size)
  generalize hAe : va_A [(on, .inr (2, oX2 n_kind n_salt n_pace n_manner n_from n_to n_goal n_reach n_branches n_branch n_tally x_n)), (n_reach, .inl (kI, 12, .inl f_n_reach))] s.heap.size = A at hD ⊢
  have hA : ∀ q : Nat, s.heap.size ≤ q → A q := fun q h => by rw [← hAe]; exact Or.inr h
  have hS : va_S A s.heap s.heap [] := va_S.rf
  have hP : va_P (dC, dI) vwCl [(on, .inr (2, oX2 n_kind n_salt n_pace n_manner n_from n_to n_goal n_reach n_branches n_branch n_tally x_n)), (n_reach, .inl (kI, 12, .inl f_n_reach))] s.heap := hP
  have hl := lv_entry ([.ref on, .int p0, .int p1]) (n := 3) (Nat.le_of_ble_eq_true rfl)
  have hla : entryFrame m args0 3 = entryFrame m ([.ref on, .int p0, .int p1] : List Value).toArray 3 := by rw [hargs]
  rw [hla, lg_entry_eq]
  generalize (lg_sl ([.ref on, .int p0, .int p1]) ++ List.replicate (3 - (lg_sl ([.ref on, .int p0, .int p1])).length) Slot.unset).toArray = ls at hl ⊢
  have hl : lv_has ls 3 [(0, .ref on), (1, .int p0), (2, .int p1)] := hl
  refine lv_aload_n hx hb dX2_comesTo_0 rfl (lv_at hl 0 rfl) ?_
  refine va_get (D := (dC, dI)) (ci := 2) (v := .ref n_reach) (C := RX2) (T := TX2) (N := 15) hx hb hts hin2 hown hK hP 0 rfl rfl 11 (Nat.le_of_ble_eq_true rfl) hw_0 (fun _ h9 => h9) rfl dX2_comesTo_1 ?_
  refine lv_iload_n hx hb dX2_comesTo_4 rfl (lv_at hl 1 rfl) ?_
  refine va_iald hx hb hK hP 1 1 rfl rfl (iv_in hp0 (by decide) (by decide)) dX2_comesTo_5 ?_
  refine lv_topi (fun z1 _ => ?_)
  refine lv_iload_n hx hb dX2_comesTo_6 rfl (lv_at hl 2 rfl) ?_
  refine lv_ishr hx hb dX2_comesTo_7 ?_
  refine lv_topi (fun z2 _ => ?_)
  refine lv_iconst (v := 1) hx hb dX2_comesTo_8 ic_1 ?_
  refine lv_iand hx hb dX2_comesTo_9 ?_
  refine iv_top (a := 0) (b := 1) (iv_and (m := 1) (by decide) (by decide) (by decide)) (fun z3 b4 => ?_)
  refine lv_iconst (v := 1) hx hb dX2_comesTo_10 ic_1 ?_
  refine lv_icmp_ne (tgt := 18) hx hb dX2_comesTo_11 rfl (fun c5 => ?_) (fun c5 => ?_)
  · have b6 : iv 0 0 z3 := iv_neHi c5 b4 ivk_1 (by decide) (by decide)
    refine lv_iconst (v := 0) hx hb dX2_comesTo_18 ic_0 ?_
    have hP9 := hP
    have hD9 := hD
    exact W.zret (v := 0) (ty := .boolean) hx hb hr rfl (fun t ht hW => ⟨⟨0, (), rfl, (iv_w ivk_0 (by decide) (by decide)), by rw [ht]; exact hP9, hD9⟩, hS.F ht⟩) hS.2.2 dX2_comesTo_19
  · have b7 : iv 1 1 z3 := iv_eqL c5 ivk_1
    refine lv_iconst (v := 1) hx hb dX2_comesTo_14 ic_1 ?_
    refine lv_goto (tgt := 19) hx hb dX2_comesTo_15 rfl ?_
    have hP9 := hP
    have hD9 := hD
    exact W.zret (v := 1) (ty := .boolean) hx hb hr rfl (fun t ht hW => ⟨⟨1, (), rfl, (iv_w ivk_1 (by decide) (by decide)), by rw [ht]; exact hP9, hD9⟩, hS.F ht⟩) hS.2.2 dX2_comesTo_19
def rm_s2_addBranch : Room := { frames := 0, cells := 0, slots := 0, locals := 0 }
set_option maxHeartbeats 4000000 in
set_option maxRecDepth 100000 in
theorem s2_addBranch (l : Launch) (dC : Nat → ClassId) (dI : Nat → Nat → Nat) (kB kI kJ kZ kC kS : ClassId) (sz : Nat) (on : Nat) (n_kind : Nat) (n_salt : Nat) (n_pace : Nat) (n_manner : Nat) (n_from : Nat) (n_to : Nat) (n_goal : Nat) (n_reach : Nat) (n_branches : Nat) (n_branch : Nat) (n_tally : Nat) (x_n : Nat → Int32) (f_n_branches : Nat → Int32) (f_n_branch : Nat → Int32) (p0 : Int32) (p1 : Int32) (hx_n : fI lX2 hX2 x_n) (hf_n_branches : fI (fun _ => 0) (fun _ => 4) f_n_branches) (hf_n_branch : fI (fun _ => 0) (fun _ => 19) f_n_branch) (hp0 : iv 0 35 p0) (hp1 : iv 0 19 p1) : Met l yX2_addBranch wsX2_addBranch rm_s2_addBranch (va_Pc [.ref on, .int p0, .int p1] (fun U => U.heap.size = sz ∧ va_P (dC, dI) vwCl [(on, .inr (2, oX2 n_kind n_salt n_pace n_manner n_from n_to n_goal n_reach n_branches n_branch n_tally x_n)), (n_branches, .inl (kI, 36, .inl f_n_branches)), (n_branch, .inl (kI, 144, .inl f_n_branch))] U.heap ∧ kE dC dI kB kI kJ kZ kC kS U ∧ va_D (fun _ => True) [(on, .inr (2, oX2 n_kind n_salt n_pace n_manner n_from n_to n_goal n_reach n_branches n_branch n_tally x_n)), (n_branches, .inl (kI, 36, .inl f_n_branches)), (n_branch, .inl (kI, 144, .inl f_n_branch))])) (va_Qv (fun (_ : Unit) => True) (fun _ t => ∃ (f_n_branches' : Nat → Int32) (f_n_branch' : Nat → Int32), fI (fun _ => 0) (fun _ => 4) f_n_branches' ∧ fI (fun _ => 0) (fun _ => 19) f_n_branch' ∧ va_P (dC, dI) vwCl [(on, .inr (2, oX2 n_kind n_salt n_pace n_manner n_from n_to n_goal n_reach n_branches n_branch n_tally x_n)), (n_branches, .inl (kI, 36, .inl f_n_branches')), (n_branch, .inl (kI, 144, .inl f_n_branch'))] t.heap ∧ va_D (va_A [(on, .inr (2, oX2 n_kind n_salt n_pace n_manner n_from n_to n_goal n_reach n_branches n_branch n_tally x_n)), (n_branches, .inl (kI, 36, .inl f_n_branches)), (n_branch, .inl (kI, 144, .inl f_n_branch))] sz) [(on, .inr (2, oX2 n_kind n_salt n_pace n_manner n_from n_to n_goal n_reach n_branches n_branch n_tally x_n)), (n_branches, .inl (kI, 36, .inl f_n_branches')), (n_branch, .inl (kI, 144, .inl f_n_branch'))]) (va_A [(on, .inr (2, oX2 n_kind n_salt n_pace n_manner n_from n_to n_goal n_reach n_branches n_branch n_tally x_n)), (n_branches, .inl (kI, 36, .inl f_n_branches)), (n_branch, .inl (kI, 144, .inl f_n_branch))] sz)) 0 0 (va_A [(on, .inr (2, oX2 n_kind n_salt n_pace n_manner n_from n_to n_goal n_reach n_branches n_branch n_tally x_n)), (n_branches, .inl (kI, 36, .inl f_n_branches)), (n_branch, .inl (kI, 144, .inl f_n_branch))] sz) := by
  refine Met.ofW (cc := cX2_addBranch) (maxL := 3) (ret := none) (by decide) rfl ?_
  intro p e s m args0 below meth c s₁ B hml hv
  obtain ⟨hargs, hsz, hP, hE, hD0⟩ := hv
  have hx := B.exec
  have hb := B.bytes
  have hr := B.returns
  have hts := atoms_spec (ws := wsX2_addBranch) B.pre
  have hown : s.vm.findClass RX2 = some m.cls := findClass_of_methodNamed B.named
  have hlocks := B.notSynchronized
  have hK := hE.1
  have hin2 : ∀ w ∈ wsX20, w ∈ wsX2_addBranch := fun _ h9 => List.mem_cons_of_mem _ (List.mem_append_right _ h9)
  have hw_0 := hts (.fieldLink RX2 49 "PathProber$Net" "branches" "[I") (List.mem_of_getElem? (i := 1) rfl)
  have hw_1 := hts (.fieldLink RX2 52 "PathProber$Net" "branch" "[I") (List.mem_of_getElem? (i := 2) rfl)
  subst hsz
  have hD := hD0.self (sz := s.heap.size)
  generalize hAe : va_A [(on, .inr (2, oX2 n_kind n_salt n_pace n_manner n_from n_to n_goal n_reach n_branches n_branch n_tally x_n)), (n_branches, .inl (kI, 36, .inl f_n_branches)), (n_branch, .inl (kI, 144, .inl f_n_branch))] s.heap.size = A at hD ⊢
  have hA : ∀ q : Nat, s.heap.size ≤ q → A q := fun q h => by rw [← hAe]; exact Or.inr h
  have hS : va_S A s.heap s.heap [] := va_S.rf
  have hP : va_P (dC, dI) vwCl [(on, .inr (2, oX2 n_kind n_salt n_pace n_manner n_from n_to n_goal n_reach n_branches n_branch n_tally x_n)), (n_branches, .inl (kI, 36, .inl f_n_branches)), (n_branch, .inl (kI, 144, .inl f_n_branch))] s.heap := hP
  have hl := lv_entry ([.ref on, .int p0, .int p1]) (n := 3) (Nat.le_of_ble_eq_true rfl)
  have hla : entryFrame m args0 3 = entryFrame m ([.ref on, .int p0, .int p1] : List Value).toArray 3 := by rw [hargs]
  rw [hla, lg_entry_eq]
  generalize (lg_sl ([.ref on, .int p0, .int p1]) ++ List.replicate (3 - (lg_sl ([.ref on, .int p0, .int p1])).length) Slot.unset).toArray = ls at hl ⊢
  have hl : lv_has ls 3 [(0, .ref on), (1, .int p0), (2, .int p1)] := hl
  refine lv_aload_n hx hb dX2_addBranch_0 rfl (lv_at hl 0 rfl) ?_
  refine va_get (D := (dC, dI)) (ci := 2) (v := .ref n_branches) (C := RX2) (T := TX2) (N := 15) hx hb hts hin2 hown hK hP 0 rfl rfl 12 (Nat.le_of_ble_eq_true rfl) hw_0 (fun _ h9 => h9) rfl dX2_addBranch_1 ?_
  refine lv_iload_n hx hb dX2_addBranch_4 rfl (lv_at hl 1 rfl) ?_
  refine va_iald hx hb hK hP 1 1 rfl rfl (iv_in hp0 (by decide) (by decide)) dX2_addBranch_5 ?_
  have b1 : iv 0 4 (f_n_branches p0.toNatClampNeg) := hf_n_branches _
  refine lv_iconst (v := 4) hx hb dX2_addBranch_6 ic_4 ?_
  refine lv_icmp_ge (tgt := 36) hx hb dX2_addBranch_7 rfl (fun c2 => ?_) (fun c2 => ?_)
  · have b3 : iv 4 4 (f_n_branches p0.toNatClampNeg) := iv_leR c2 ivk_4 b1 (by decide) (by decide)
    have hP9 := hP
    have hD9 := hD
    exact W.vret hx hb hr (fun t ht hW => ⟨⟨(), rfl, trivial, f_n_branches, f_n_branch, hf_n_branches, hf_n_branch, by rw [ht]; exact hP9, hD9⟩, hS.F ht⟩) hS.2.2 dX2_addBranch_36
  · have b4 : iv 0 3 (f_n_branches p0.toNatClampNeg) := iv_ltL (Int32.not_le.mp c2) b1 ivk_4 (by decide) (by decide)
    refine lv_aload_n hx hb dX2_addBranch_10 rfl (lv_at hl 0 rfl) ?_
    refine va_get (D := (dC, dI)) (ci := 2) (v := .ref n_branch) (C := RX2) (T := TX2) (N := 15) hx hb hts hin2 hown hK hP 0 rfl rfl 13 (Nat.le_of_ble_eq_true rfl) hw_1 (fun _ h9 => h9) rfl dX2_addBranch_11 ?_
    refine lv_iload_n hx hb dX2_addBranch_14 rfl (lv_at hl 1 rfl) ?_
    refine lv_iconst (v := 4) hx hb dX2_addBranch_15 ic_4 ?_
    refine lv_imul hx hb dX2_addBranch_16 ?_
    refine iv_top (a := 0) (b := 140) (iv_mul hp0 ivk_4 (by decide) (by decide) (by decide) (by decide) (by decide)) (fun z5 b6 => ?_)
    refine lv_aload_n hx hb dX2_addBranch_17 rfl (lv_at hl 0 rfl) ?_
    refine va_get (D := (dC, dI)) (ci := 2) (v := .ref n_branches) (C := RX2) (T := TX2) (N := 15) hx hb hts hin2 hown hK hP 0 rfl rfl 12 (Nat.le_of_ble_eq_true rfl) hw_0 (fun _ h9 => h9) rfl dX2_addBranch_18 ?_
    refine lv_iload_n hx hb dX2_addBranch_21 rfl (lv_at hl 1 rfl) ?_
    refine va_iald hx hb hK hP 1 1 rfl rfl (iv_in hp0 (by decide) (by decide)) dX2_addBranch_22 ?_
    refine lv_iadd hx hb dX2_addBranch_23 ?_
    refine iv_top (a := 0) (b := 143) (iv_add b6 b4 (by decide) (by decide) (by decide) (by decide)) (fun z7 b8 => ?_)
    refine lv_iload_n hx hb dX2_addBranch_24 rfl (lv_at hl 2 rfl) ?_
    refine va_iast hx hb hK hP hD hS 2 1 rfl rfl (iv_in b8 (by decide) (by decide)) dX2_addBranch_25 (fun H locs hPa hDa hS => ?_)
    clear hP hD
    have hP : va_P (dC, dI) vwCl [(on, .inr (2, oX2 n_kind n_salt n_pace n_manner n_from n_to n_goal n_reach n_branches n_branch n_tally x_n)), (n_branches, .inl (kI, 36, .inl f_n_branches)), (n_branch, .inl (kI, 144, .inl (upd f_n_branch z7.toNatClampNeg p1)))] H := hPa
    have hD : va_D A [(on, .inr (2, oX2 n_kind n_salt n_pace n_manner n_from n_to n_goal n_reach n_branches n_branch n_tally x_n)), (n_branches, .inl (kI, 36, .inl f_n_branches)), (n_branch, .inl (kI, 144, .inl (upd f_n_branch z7.toNatClampNeg p1)))] := hDa
    clear hPa hDa
    have hf10 : fI (fun _ => 0) (fun _ => 19) (upd f_n_branch z7.toNatClampNeg p1) := fI_u hf_n_branch (k := z7.toNatClampNeg) (hp1)
    generalize (upd f_n_branch z7.toNatClampNeg p1) = f9 at hP hD hf10
    refine lv_aload_n hx hb dX2_addBranch_26 rfl (lv_at hl 0 rfl) ?_
    refine va_get (D := (dC, dI)) (ci := 2) (v := .ref n_branches) (C := RX2) (T := TX2) (N := 15) hx hb hts hin2 hown hK hP 0 rfl rfl 12 (Nat.le_of_ble_eq_true rfl) hw_0 (fun _ h9 => h9) rfl dX2_addBranch_27 ?_
    refine lv_iload_n hx hb dX2_addBranch_30 rfl (lv_at hl 1 rfl) ?_
    refine lv_dup2_11 hx hb dX2_addBranch_31 rfl rfl ?_
    refine va_iald hx hb hK hP 1 1 rfl rfl (iv_in hp0 (by decide) (by decide)) dX2_addBranch_32 ?_
    refine lv_iconst (v := 1) hx hb dX2_addBranch_33 ic_1 ?_
    refine lv_iadd hx hb dX2_addBranch_34 ?_
    refine iv_top (a := 1) (b := 4) (iv_add b4 ivk_1 (by decide) (by decide) (by decide) (by decide)) (fun z11 b12 => ?_)
    refine va_iast hx hb hK hP hD hS 1 1 rfl rfl (iv_in hp0 (by decide) (by decide)) dX2_addBranch_35 (fun H locs hPa hDa hS => ?_)
    clear hP hD
    have hP : va_P (dC, dI) vwCl [(on, .inr (2, oX2 n_kind n_salt n_pace n_manner n_from n_to n_goal n_reach n_branches n_branch n_tally x_n)), (n_branches, .inl (kI, 36, .inl (upd f_n_branches p0.toNatClampNeg z11))), (n_branch, .inl (kI, 144, .inl f9))] H := hPa
    have hD : va_D A [(on, .inr (2, oX2 n_kind n_salt n_pace n_manner n_from n_to n_goal n_reach n_branches n_branch n_tally x_n)), (n_branches, .inl (kI, 36, .inl (upd f_n_branches p0.toNatClampNeg z11))), (n_branch, .inl (kI, 144, .inl f9))] := hDa
    clear hPa hDa
    have hf14 : fI (fun _ => 0) (fun _ => 4) (upd f_n_branches p0.toNatClampNeg z11) := fI_u hf_n_branches (k := p0.toNatClampNeg) ((iv_w b12 (by decide) (by decide)))
    generalize (upd f_n_branches p0.toNatClampNeg z11) = f13 at hP hD hf14
    have hP9 := hP
    have hD9 := hD
    exact W.vret hx hb hr (fun t ht hW => ⟨⟨(), rfl, trivial, f13, f9, hf14, hf10, by rw [ht]; exact hP9, hD9⟩, hS.F ht⟩) hS.2.2 dX2_addBranch_36
def rm_s2_findBranches : Room := { frames := 1, cells := 0, slots := 0, locals := 22 }
set_option maxHeartbeats 4000000 in
set_option maxRecDepth 100000 in
theorem s2_findBranches (l : Launch) (dC : Nat → ClassId) (dI : Nat → Nat → Nat) (kB kI kJ kZ kC kS : ClassId) (sz : Nat) (on : Nat) (n_kind : Nat) (n_salt : Nat) (n_pace : Nat) (n_manner : Nat) (n_from : Nat) (n_to : Nat) (n_goal : Nat) (n_reach : Nat) (n_branches : Nat) (n_branch : Nat) (n_tally : Nat) (x_n : Nat → Int32) (f_n_from : Nat → Int32) (f_n_to : Nat → Int32) (f_n_goal : Nat → Int32) (f_n_reach : Nat → Int32) (f_n_branches : Nat → Int32) (f_n_branch : Nat → Int32) (hx_n : fI lX2 hX2 x_n) (hf_n_from : fI (fun _ => 0) (fun _ => 11) f_n_from) (hf_n_to : fI (fun _ => 0) (fun _ => 11) f_n_to) (hf_n_goal : fI (fun _ => 0) (fun _ => 11) f_n_goal) (hf_n_branches : fI (fun _ => 0) (fun _ => 4) f_n_branches) (hf_n_branch : fI (fun _ => 0) (fun _ => 19) f_n_branch) : Met l yX2_findBranches wsX2_findBranches rm_s2_findBranches (va_Pc [.ref on] (fun U => U.heap.size = sz ∧ va_P (dC, dI) vwCl [(on, .inr (2, oX2 n_kind n_salt n_pace n_manner n_from n_to n_goal n_reach n_branches n_branch n_tally x_n)), (n_from, .inl (kI, 20, .inl f_n_from)), (n_to, .inl (kI, 20, .inl f_n_to)), (n_goal, .inl (kI, 3, .inl f_n_goal)), (n_reach, .inl (kI, 12, .inl f_n_reach)), (n_branches, .inl (kI, 36, .inl f_n_branches)), (n_branch, .inl (kI, 144, .inl f_n_branch))] U.heap ∧ kE dC dI kB kI kJ kZ kC kS U ∧ va_D (fun _ => True) [(on, .inr (2, oX2 n_kind n_salt n_pace n_manner n_from n_to n_goal n_reach n_branches n_branch n_tally x_n)), (n_from, .inl (kI, 20, .inl f_n_from)), (n_to, .inl (kI, 20, .inl f_n_to)), (n_goal, .inl (kI, 3, .inl f_n_goal)), (n_reach, .inl (kI, 12, .inl f_n_reach)), (n_branches, .inl (kI, 36, .inl f_n_branches)), (n_branch, .inl (kI, 144, .inl f_n_branch))])) (va_Qv (fun (_ : Unit) => True) (fun _ t => ∃ (f_n_reach' : Nat → Int32) (f_n_branches' : Nat → Int32) (f_n_branch' : Nat → Int32), fI (fun _ => 0) (fun _ => 4) f_n_branches' ∧ fI (fun _ => 0) (fun _ => 19) f_n_branch' ∧ va_P (dC, dI) vwCl [(on, .inr (2, oX2 n_kind n_salt n_pace n_manner n_from n_to n_goal n_reach n_branches n_branch n_tally x_n)), (n_from, .inl (kI, 20, .inl f_n_from)), (n_to, .inl (kI, 20, .inl f_n_to)), (n_goal, .inl (kI, 3, .inl f_n_goal)), (n_reach, .inl (kI, 12, .inl f_n_reach')), (n_branches, .inl (kI, 36, .inl f_n_branches')), (n_branch, .inl (kI, 144, .inl f_n_branch'))] t.heap ∧ va_D (va_A [(on, .inr (2, oX2 n_kind n_salt n_pace n_manner n_from n_to n_goal n_reach n_branches n_branch n_tally x_n)), (n_from, .inl (kI, 20, .inl f_n_from)), (n_to, .inl (kI, 20, .inl f_n_to)), (n_goal, .inl (kI, 3, .inl f_n_goal)), (n_reach, .inl (kI, 12, .inl f_n_reach)), (n_branches, .inl (kI, 36, .inl f_n_branches)), (n_branch, .inl (kI, 144, .inl f_n_branch))] sz) [(on, .inr (2, oX2 n_kind n_salt n_pace n_manner n_from n_to n_goal n_reach n_branches n_branch n_tally x_n)), (n_from, .inl (kI, 20, .inl f_n_from)), (n_to, .inl (kI, 20, .inl f_n_to)), (n_goal, .inl (kI, 3, .inl f_n_goal)), (n_reach, .inl (kI, 12, .inl f_n_reach')), (n_branches, .inl (kI, 36, .inl f_n_branches')), (n_branch, .inl (kI, 144, .inl f_n_branch'))]) (va_A [(on, .inr (2, oX2 n_kind n_salt n_pace n_manner n_from n_to n_goal n_reach n_branches n_branch n_tally x_n)), (n_from, .inl (kI, 20, .inl f_n_from)), (n_to, .inl (kI, 20, .inl f_n_to)), (n_goal, .inl (kI, 3, .inl f_n_goal)), (n_reach, .inl (kI, 12, .inl f_n_reach)), (n_branches, .inl (kI, 36, .inl f_n_branches)), (n_branch, .inl (kI, 144, .inl f_n_branch))] sz)) 0 0 (va_A [(on, .inr (2, oX2 n_kind n_salt n_pace n_manner n_from n_to n_goal n_reach n_branches n_branch n_tally x_n)), (n_from, .inl (kI, 20, .inl f_n_from)), (n_to, .inl (kI, 20, .inl f_n_to)), (n_goal, .inl (kI, 3, .inl f_n_goal)), (n_reach, .inl (kI, 12, .inl f_n_reach)), (n_branches, .inl (kI, 36, .inl f_n_branches)), (n_branch, .inl (kI, 144, .inl f_n_branch))] sz) := by
  refine Met.ofW (cc := cX2_findBranches) (maxL := 3) (ret := none) (by decide) rfl ?_
  intro p e s m args0 below meth c s₁ B hml hv
  obtain ⟨hargs, hsz, hP, hE, hD0⟩ := hv
  have hx := B.exec
  have hb := B.bytes
  have hr := B.returns
  have hts := atoms_spec (ws := wsX2_findBranches) B.pre
  have hown : s.vm.findClass RX2 = some m.cls := findClass_of_methodNamed B.named
  have hlocks := B.notSynchronized
  have hK := hE.1
  have hin2 : ∀ w ∈ wsX20, w ∈ wsX2_findBranches := fun _ h9 => List.mem_cons_of_mem _ (List.mem_append_right _ h9)
  have hw_0 := hts (.fieldLink RX2 37 "PathProber$Net" "links" "I") (List.mem_of_getElem? (i := 4) rfl)
  have hw_1 := hts (.fieldLink RX2 27 "PathProber$Net" "to" "[I") (List.mem_of_getElem? (i := 5) rfl)
  have hw_2 := hts (.fieldLink RX2 30 "PathProber$Net" "goal" "[I") (List.mem_of_getElem? (i := 6) rfl)
  have hw_3 := hts (.fieldLink RX2 24 "PathProber$Net" "from" "[I") (List.mem_of_getElem? (i := 7) rfl)
  have hw_4 := hts (.fieldLink RX2 33 "PathProber$Net" "routers" "I") (List.mem_of_getElem? (i := 2) rfl)
  have hw_5 := hts (.fieldLink RX2 49 "PathProber$Net" "branches" "[I") (List.mem_of_getElem? (i := 3) rfl)
  have hw_6 := hts (.fieldLink RX2 40 "PathProber$Net" "goals" "I") (List.mem_of_getElem? (i := 1) rfl)
  subst hsz
  have hD := hD0.self (sz := s.heap.size)
  generalize hAe : va_A [(on, .inr (2, oX2 n_kind n_salt n_pace n_manner n_from n_to n_goal n_reach n_branches n_branch n_tally x_n)), (n_from, .inl (kI, 20, .inl f_n_from)), (n_to, .inl (kI, 20, .inl f_n_to)), (n_goal, .inl (kI, 3, .inl f_n_goal)), (n_reach, .inl (kI, 12, .inl f_n_reach)), (n_branches, .inl (kI, 36, .inl f_n_branches)), (n_branch, .inl (kI, 144, .inl f_n_branch))] s.heap.size = A at hD ⊢
  have hA : ∀ q : Nat, s.heap.size ≤ q → A q := fun q h => by rw [← hAe]; exact Or.inr h
  have hS : va_S A s.heap s.heap [] := va_S.rf
  have hP : va_P (dC, dI) vwCl [(on, .inr (2, oX2 n_kind n_salt n_pace n_manner n_from n_to n_goal n_reach n_branches n_branch n_tally x_n)), (n_from, .inl (kI, 20, .inl f_n_from)), (n_to, .inl (kI, 20, .inl f_n_to)), (n_goal, .inl (kI, 3, .inl f_n_goal)), (n_reach, .inl (kI, 12, .inl f_n_reach)), (n_branches, .inl (kI, 36, .inl f_n_branches)), (n_branch, .inl (kI, 144, .inl f_n_branch))] s.heap := hP
  have hl := lv_entry ([.ref on]) (n := 3) (Nat.le_of_ble_eq_true rfl)
  have hla : entryFrame m args0 3 = entryFrame m ([.ref on] : List Value).toArray 3 := by rw [hargs]
  rw [hla, lg_entry_eq]
  generalize (lg_sl ([.ref on]) ++ List.replicate (3 - (lg_sl ([.ref on])).length) Slot.unset).toArray = ls at hl ⊢
  have hl : lv_has ls 3 [(0, .ref on)] := hl
  have hJ6 : ∀ (n : Nat) (g6_4 : Nat → Int32) (g6_5 : Nat → Int32) (g6_6 : Nat → Int32) (v6_loc1 : Int32) (H : Heap) (locs : List Loc) (ls : Array Slot), (3 - v6_loc1.toInt).toNat < n → fI (fun _ => 0) (fun _ => 4) g6_5 → fI (fun _ => 0) (fun _ => 19) g6_6 → iv 0 3 v6_loc1 → va_P (dC, dI) vwCl [(on, .inr (2, oX2 n_kind n_salt n_pace n_manner n_from n_to n_goal n_reach n_branches n_branch n_tally x_n)), (n_from, .inl (kI, 20, .inl f_n_from)), (n_to, .inl (kI, 20, .inl f_n_to)), (n_goal, .inl (kI, 3, .inl f_n_goal)), (n_reach, .inl (kI, 12, .inl g6_4)), (n_branches, .inl (kI, 36, .inl g6_5)), (n_branch, .inl (kI, 144, .inl g6_6))] H → va_D A [(on, .inr (2, oX2 n_kind n_salt n_pace n_manner n_from n_to n_goal n_reach n_branches n_branch n_tally x_n)), (n_from, .inl (kI, 20, .inl f_n_from)), (n_to, .inl (kI, 20, .inl f_n_to)), (n_goal, .inl (kI, 3, .inl f_n_goal)), (n_reach, .inl (kI, 12, .inl g6_4)), (n_branches, .inl (kI, 36, .inl g6_5)), (n_branch, .inl (kI, 144, .inl g6_6))] → va_S A s.heap H locs → lv_has ls 3 [(0, .ref on), (1, .int v6_loc1)] → W p l e (headSpec wsX2_findBranches rm_s2_findBranches).room s m args0 below meth c H locs (0) (0) (MQ below (va_Qv (fun (_ : Unit) => True) (fun _ t => ∃ (f_n_reach' : Nat → Int32) (f_n_branches' : Nat → Int32) (f_n_branch' : Nat → Int32), fI (fun _ => 0) (fun _ => 4) f_n_branches' ∧ fI (fun _ => 0) (fun _ => 19) f_n_branch' ∧ va_P (dC, dI) vwCl [(on, .inr (2, oX2 n_kind n_salt n_pace n_manner n_from n_to n_goal n_reach n_branches n_branch n_tally x_n)), (n_from, .inl (kI, 20, .inl f_n_from)), (n_to, .inl (kI, 20, .inl f_n_to)), (n_goal, .inl (kI, 3, .inl f_n_goal)), (n_reach, .inl (kI, 12, .inl f_n_reach')), (n_branches, .inl (kI, 36, .inl f_n_branches')), (n_branch, .inl (kI, 144, .inl f_n_branch'))] t.heap ∧ va_D A [(on, .inr (2, oX2 n_kind n_salt n_pace n_manner n_from n_to n_goal n_reach n_branches n_branch n_tally x_n)), (n_from, .inl (kI, 20, .inl f_n_from)), (n_to, .inl (kI, 20, .inl f_n_to)), (n_goal, .inl (kI, 3, .inl f_n_goal)), (n_reach, .inl (kI, 12, .inl f_n_reach')), (n_branches, .inl (kI, 36, .inl f_n_branches')), (n_branch, .inl (kI, 144, .inl f_n_branch'))]) A) args0 s 0 0 A) (F0 m 6 ls []) := by
    intro n
    induction n with
    | zero => intro g6_4 g6_5 g6_6 v6_loc1 H locs ls hm6; exact absurd hm6 (Nat.not_lt_zero _)
    | succ n ih6 =>
      intro g6_4 g6_5 g6_6 v6_loc1 H locs ls hm6 hI6_5 hI6_6 h6_3 hP hD hS hl
      have hJ44 : ∀ (n : Nat) (g44_5 : Nat → Int32) (g44_6 : Nat → Int32) (v44_loc2 : Int32) (H : Heap) (locs : List Loc) (ls : Array Slot), (20 - v44_loc2.toInt).toNat < n → fI (fun _ => 0) (fun _ => 4) g44_5 → fI (fun _ => 0) (fun _ => 19) g44_6 → iv 0 2 v6_loc1 → iv 0 20 v44_loc2 → iv 1 3 (x_n 2) → va_P (dC, dI) vwCl [(on, .inr (2, oX2 n_kind n_salt n_pace n_manner n_from n_to n_goal n_reach n_branches n_branch n_tally x_n)), (n_from, .inl (kI, 20, .inl f_n_from)), (n_to, .inl (kI, 20, .inl f_n_to)), (n_goal, .inl (kI, 3, .inl f_n_goal)), (n_reach, .inl (kI, 12, .inl g6_4)), (n_branches, .inl (kI, 36, .inl g44_5)), (n_branch, .inl (kI, 144, .inl g44_6))] H → va_D A [(on, .inr (2, oX2 n_kind n_salt n_pace n_manner n_from n_to n_goal n_reach n_branches n_branch n_tally x_n)), (n_from, .inl (kI, 20, .inl f_n_from)), (n_to, .inl (kI, 20, .inl f_n_to)), (n_goal, .inl (kI, 3, .inl f_n_goal)), (n_reach, .inl (kI, 12, .inl g6_4)), (n_branches, .inl (kI, 36, .inl g44_5)), (n_branch, .inl (kI, 144, .inl g44_6))] → va_S A s.heap H locs → lv_has ls 3 [(0, .ref on), (1, .int v6_loc1), (2, .int v44_loc2)] → W p l e (headSpec wsX2_findBranches rm_s2_findBranches).room s m args0 below meth c H locs (0) (0) (MQ below (va_Qv (fun (_ : Unit) => True) (fun _ t => ∃ (f_n_reach' : Nat → Int32) (f_n_branches' : Nat → Int32) (f_n_branch' : Nat → Int32), fI (fun _ => 0) (fun _ => 4) f_n_branches' ∧ fI (fun _ => 0) (fun _ => 19) f_n_branch' ∧ va_P (dC, dI) vwCl [(on, .inr (2, oX2 n_kind n_salt n_pace n_manner n_from n_to n_goal n_reach n_branches n_branch n_tally x_n)), (n_from, .inl (kI, 20, .inl f_n_from)), (n_to, .inl (kI, 20, .inl f_n_to)), (n_goal, .inl (kI, 3, .inl f_n_goal)), (n_reach, .inl (kI, 12, .inl f_n_reach')), (n_branches, .inl (kI, 36, .inl f_n_branches')), (n_branch, .inl (kI, 144, .inl f_n_branch'))] t.heap ∧ va_D A [(on, .inr (2, oX2 n_kind n_salt n_pace n_manner n_from n_to n_goal n_reach n_branches n_branch n_tally x_n)), (n_from, .inl (kI, 20, .inl f_n_from)), (n_to, .inl (kI, 20, .inl f_n_to)), (n_goal, .inl (kI, 3, .inl f_n_goal)), (n_reach, .inl (kI, 12, .inl f_n_reach')), (n_branches, .inl (kI, 36, .inl f_n_branches')), (n_branch, .inl (kI, 144, .inl f_n_branch'))]) A) args0 s 0 0 A) (F0 m 44 ls []) := by
        intro n
        induction n with
        | zero => intro g44_5 g44_6 v44_loc2 H locs ls hm44; exact absurd hm44 (Nat.not_lt_zero _)
        | succ n ih44 =>
          intro g44_5 g44_6 v44_loc2 H locs ls hm44 hI44_5 hI44_6 h44_3 h44_4 h44_5 hP hD hS hl
          have hJ87 : ∀ (g87_5 : Nat → Int32) (g87_6 : Nat → Int32) (H : Heap) (locs : List Loc) (ls : Array Slot), fI (fun _ => 0) (fun _ => 4) g87_5 → fI (fun _ => 0) (fun _ => 19) g87_6 → iv 0 19 v44_loc2 → iv 1 20 (x_n 1) → va_P (dC, dI) vwCl [(on, .inr (2, oX2 n_kind n_salt n_pace n_manner n_from n_to n_goal n_reach n_branches n_branch n_tally x_n)), (n_from, .inl (kI, 20, .inl f_n_from)), (n_to, .inl (kI, 20, .inl f_n_to)), (n_goal, .inl (kI, 3, .inl f_n_goal)), (n_reach, .inl (kI, 12, .inl g6_4)), (n_branches, .inl (kI, 36, .inl g87_5)), (n_branch, .inl (kI, 144, .inl g87_6))] H → va_D A [(on, .inr (2, oX2 n_kind n_salt n_pace n_manner n_from n_to n_goal n_reach n_branches n_branch n_tally x_n)), (n_from, .inl (kI, 20, .inl f_n_from)), (n_to, .inl (kI, 20, .inl f_n_to)), (n_goal, .inl (kI, 3, .inl f_n_goal)), (n_reach, .inl (kI, 12, .inl g6_4)), (n_branches, .inl (kI, 36, .inl g87_5)), (n_branch, .inl (kI, 144, .inl g87_6))] → va_S A s.heap H locs → lv_has ls 3 [(0, .ref on), (1, .int v6_loc1), (2, .int v44_loc2)] → W p l e (headSpec wsX2_findBranches rm_s2_findBranches).room s m args0 below meth c H locs (0) (0) (MQ below (va_Qv (fun (_ : Unit) => True) (fun _ t => ∃ (f_n_reach' : Nat → Int32) (f_n_branches' : Nat → Int32) (f_n_branch' : Nat → Int32), fI (fun _ => 0) (fun _ => 4) f_n_branches' ∧ fI (fun _ => 0) (fun _ => 19) f_n_branch' ∧ va_P (dC, dI) vwCl [(on, .inr (2, oX2 n_kind n_salt n_pace n_manner n_from n_to n_goal n_reach n_branches n_branch n_tally x_n)), (n_from, .inl (kI, 20, .inl f_n_from)), (n_to, .inl (kI, 20, .inl f_n_to)), (n_goal, .inl (kI, 3, .inl f_n_goal)), (n_reach, .inl (kI, 12, .inl f_n_reach')), (n_branches, .inl (kI, 36, .inl f_n_branches')), (n_branch, .inl (kI, 144, .inl f_n_branch'))] t.heap ∧ va_D A [(on, .inr (2, oX2 n_kind n_salt n_pace n_manner n_from n_to n_goal n_reach n_branches n_branch n_tally x_n)), (n_from, .inl (kI, 20, .inl f_n_from)), (n_to, .inl (kI, 20, .inl f_n_to)), (n_goal, .inl (kI, 3, .inl f_n_goal)), (n_reach, .inl (kI, 12, .inl f_n_reach')), (n_branches, .inl (kI, 36, .inl f_n_branches')), (n_branch, .inl (kI, 144, .inl f_n_branch'))]) A) args0 s 0 0 A) (F0 m 87 ls []) := by
            intro g87_5 g87_6 H locs ls hI87_5 hI87_6 h87_3 h87_4 hP hD hS hl
            refine lv_iinc (v := v44_loc2 + Int32.ofInt 1) (lv' := [(2, .int (v44_loc2 + Int32.ofInt 1)), (0, .ref on), (1, .int v6_loc1)]) hx hb dX2_findBranches_87 hl (k := 2) rfl (rfl) (Nat.le_of_ble_eq_true rfl) rfl (fun ls hl => ?_)
            have b1 : iv 1 20 (v44_loc2 + Int32.ofInt 1) := iv_add h87_3 ivo_1 (by decide) (by decide) (by decide) (by decide)
            refine lv_goto (tgt := 44) hx hb dX2_findBranches_90 rfl ?_
            exact ih44 g87_5 g87_6 (v44_loc2 + Int32.ofInt 1) _ _ _ (ms_up (c := 1) (d := 0) h87_3 hm44 (by decide) (iv_inc 1 h87_3 (by decide) (by decide) (by decide) (by decide)) (by decide) rfl) (hI87_5) (hI87_6) (h44_3) ((iv_w b1 (by decide) (by decide))) (h44_5) (hP) (hD) hS (lv_sub hl [1, 2, 0] rfl)
          refine lv_iload_n hx hb dX2_findBranches_44 rfl (lv_at hl 2 rfl) ?_
          refine lv_aload_n hx hb dX2_findBranches_45 rfl (lv_at hl 0 rfl) ?_
          refine va_get (D := (dC, dI)) (ci := 2) (v := .int (x_n 1)) (C := RX2) (T := TX2) (N := 15) hx hb hts hin2 hown hK hP 0 rfl rfl 8 (Nat.le_of_ble_eq_true rfl) hw_0 (fun _ h9 => h9) rfl dX2_findBranches_46 ?_
          refine lv_icmp_ge (tgt := 93) hx hb dX2_findBranches_49 rfl (fun c2 => ?_) (fun c2 => ?_)
          · refine lv_iinc (v := v6_loc1 + Int32.ofInt 1) (lv' := [(1, .int (v6_loc1 + Int32.ofInt 1)), (0, .ref on), (2, .int v44_loc2)]) hx hb dX2_findBranches_93 hl (k := 1) rfl (rfl) (Nat.le_of_ble_eq_true rfl) rfl (fun ls hl => ?_)
            have b3 : iv 1 3 (v6_loc1 + Int32.ofInt 1) := iv_add h44_3 ivo_1 (by decide) (by decide) (by decide) (by decide)
            refine lv_goto (tgt := 6) hx hb dX2_findBranches_96 rfl ?_
            exact ih6 g6_4 g44_5 g44_6 (v6_loc1 + Int32.ofInt 1) _ _ _ (ms_up (c := 1) (d := 0) h44_3 hm6 (by decide) (iv_inc 1 h44_3 (by decide) (by decide) (by decide) (by decide)) (by decide) rfl) (hI44_5) (hI44_6) ((iv_w b3 (by decide) (by decide))) (hP) (hD) hS (lv_sub hl [1, 0] rfl)
          · have b4 : iv 0 19 v44_loc2 := iv_ltL (Int32.not_le.mp c2) h44_4 (hx_n 1 : iv 0 20 (x_n 1)) (by decide) (by decide)
            have b5 : iv 1 20 (x_n 1) := iv_ltR (Int32.not_le.mp c2) h44_4 (hx_n 1 : iv 0 20 (x_n 1)) (by decide) (by decide)
            refine lv_aload_n hx hb dX2_findBranches_52 rfl (lv_at hl 0 rfl) ?_
            refine lv_aload_n hx hb dX2_findBranches_53 rfl (lv_at hl 0 rfl) ?_
            refine va_get (D := (dC, dI)) (ci := 2) (v := .ref n_to) (C := RX2) (T := TX2) (N := 15) hx hb hts hin2 hown hK hP 0 rfl rfl 5 (Nat.le_of_ble_eq_true rfl) hw_1 (fun _ h9 => h9) rfl dX2_findBranches_54 ?_
            refine lv_iload_n hx hb dX2_findBranches_57 rfl (lv_at hl 2 rfl) ?_
            refine va_iald hx hb hK hP 2 1 rfl rfl (iv_in b4 (by decide) (by decide)) dX2_findBranches_58 ?_
            refine iv_top (a := 0) (b := 11) (hf_n_to _) (fun z6 b7 => ?_)
            refine lv_aload_n hx hb dX2_findBranches_59 rfl (lv_at hl 0 rfl) ?_
            refine va_get (D := (dC, dI)) (ci := 2) (v := .ref n_goal) (C := RX2) (T := TX2) (N := 15) hx hb hts hin2 hown hK hP 0 rfl rfl 6 (Nat.le_of_ble_eq_true rfl) hw_2 (fun _ h9 => h9) rfl dX2_findBranches_60 ?_
            refine lv_iload_n hx hb dX2_findBranches_63 rfl (lv_at hl 1 rfl) ?_
            refine va_iald hx hb hK hP 3 1 rfl rfl (iv_in h44_3 (by decide) (by decide)) dX2_findBranches_64 ?_
            refine iv_top (a := 0) (b := 11) (hf_n_goal _) (fun z8 b9 => ?_)
            obtain ⟨hPc, hDc, hFc, hJn⟩ := cl_a (wc := [(on, .inr (2, oX2 n_kind n_salt n_pace n_manner n_from n_to n_goal n_reach n_branches n_branch n_tally x_n)), (n_reach, .inl (kI, 12, .inl g6_4))]) (wr := [(n_from, .inl (kI, 20, .inl f_n_from)), (n_to, .inl (kI, 20, .inl f_n_to)), (n_goal, .inl (kI, 3, .inl f_n_goal)), (n_branches, .inl (kI, 36, .inl g44_5)), (n_branch, .inl (kI, 144, .inl g44_6))]) hP hD hS hA [0, 4] [1, 2, 3, 5, 6] rfl rfl (by decide +kernel)
            refine va_calli (va_runV (As := [.int z6, .int z8]) (rest := []) ⟨hx, hb, hml, hown, hts⟩ (s2_comesTo l dC dI kB kI kJ kZ kC kS H.size on n_kind n_salt n_pace n_manner n_from n_to n_goal n_reach n_branches n_branch n_tally x_n g6_4 z6 z8 (hx_n) (b7)) (cwV 2 hts gX2_findBranches_X2_comesTo rfl rfl rfl (by decide +kernel) ⟨Nat.le_of_ble_eq_true rfl, Nat.le_of_ble_eq_true rfl⟩) ⟨fun a U g mk q => by obtain ⟨q0, q1, qP, qE, qD⟩ := q; exact ⟨q0, q1, qP, kE_call qE, qD⟩, va_recv hK hP (ci := 2) (q0 := 0) rfl rfl, fun U hU hW => ⟨rfl, by rw [hU], by rw [hU]; exact hPc, kE_warm hW hE, hDc.weaken (fun _ _ _ _ => trivial)⟩⟩ rfl rfl hl.1 rfl (lv_room (Nat.le_of_ble_eq_true rfl)) dX2_findBranches_65 ⟨Nat.le_of_ble_eq_true rfl, Nat.le_of_ble_eq_true rfl⟩) hS (fun q _ h => hFc q h) hFc (fun r10 u t H locs ht hvm w11 hB hz1 hk1 hS => ?_)
            obtain ⟨hP1, hD1⟩ := hB
            try dsimp only at w11
            obtain ⟨hPa, hDa⟩ := hJn (w1 := [(on, .inr (2, oX2 n_kind n_salt n_pace n_manner n_from n_to n_goal n_reach n_branches n_branch n_tally x_n)), (n_reach, .inl (kI, 12, .inl g6_4))]) hk1 ht hP1 hD1
            clear hP hD hPc hDc hFc hJn hP1 hD1 hk1
            have hP : va_P (dC, dI) vwCl [(n_from, .inl (kI, 20, .inl f_n_from)), (n_to, .inl (kI, 20, .inl f_n_to)), (n_goal, .inl (kI, 3, .inl f_n_goal)), (n_branches, .inl (kI, 36, .inl g44_5)), (n_branch, .inl (kI, 144, .inl g44_6)), (on, .inr (2, oX2 n_kind n_salt n_pace n_manner n_from n_to n_goal n_reach n_branches n_branch n_tally x_n)), (n_reach, .inl (kI, 12, .inl g6_4))] H := hPa
            have hD : va_D A [(n_from, .inl (kI, 20, .inl f_n_from)), (n_to, .inl (kI, 20, .inl f_n_to)), (n_goal, .inl (kI, 3, .inl f_n_goal)), (n_branches, .inl (kI, 36, .inl g44_5)), (n_branch, .inl (kI, 144, .inl g44_6)), (on, .inr (2, oX2 n_kind n_salt n_pace n_manner n_from n_to n_goal n_reach n_branches n_branch n_tally x_n)), (n_reach, .inl (kI, 12, .inl g6_4))] := hDa
            clear hPa hDa
            refine W.widen (k := 0) (n := 0) (Nat.le_of_ble_eq_true rfl) (Nat.le_of_ble_eq_true rfl) ?_
            refine lv_if_eq (tgt := 87) hx hb dX2_findBranches_68 rfl (fun c12 => ?_) (fun c12 => ?_)
            · have b13 : iv 0 0 r10 := iv_eqL c12 ivk_0
              have hPD9 := cl_s (wc := [(on, .inr (2, oX2 n_kind n_salt n_pace n_manner n_from n_to n_goal n_reach n_branches n_branch n_tally x_n)), (n_from, .inl (kI, 20, .inl f_n_from)), (n_to, .inl (kI, 20, .inl f_n_to)), (n_goal, .inl (kI, 3, .inl f_n_goal)), (n_reach, .inl (kI, 12, .inl g6_4)), (n_branches, .inl (kI, 36, .inl g44_5)), (n_branch, .inl (kI, 144, .inl g44_6))]) hP hD [5, 0, 1, 2, 6, 3, 4] rfl (by decide +kernel)
              exact hJ87 g44_5 g44_6 _ _ _ (hI44_5) (hI44_6) (b4) (b5) (hPD9.1) (hPD9.2) hS (lv_sub hl [0, 1, 2] rfl)
            · have b14 : iv 1 1 r10 := iv_neLo c12 w11 ivk_0 (by decide) (by decide)
              refine lv_aload_n hx hb dX2_findBranches_71 rfl (lv_at hl 0 rfl) ?_
              refine lv_iload_n hx hb dX2_findBranches_72 rfl (lv_at hl 1 rfl) ?_
              refine lv_bipush (v := 12) hx hb dX2_findBranches_73 bp_12 ?_
              refine lv_imul hx hb dX2_findBranches_75 ?_
              refine iv_top (a := 0) (b := 24) (iv_mul h44_3 ivk_12 (by decide) (by decide) (by decide) (by decide) (by decide)) (fun z15 b16 => ?_)
              refine lv_aload_n hx hb dX2_findBranches_76 rfl (lv_at hl 0 rfl) ?_
              refine va_get (D := (dC, dI)) (ci := 2) (v := .ref n_from) (C := RX2) (T := TX2) (N := 15) hx hb hts hin2 hown hK hP 5 rfl rfl 4 (Nat.le_of_ble_eq_true rfl) hw_3 (fun _ h9 => h9) rfl dX2_findBranches_77 ?_
              refine lv_iload_n hx hb dX2_findBranches_80 rfl (lv_at hl 2 rfl) ?_
              refine va_iald hx hb hK hP 0 1 rfl rfl (iv_in b4 (by decide) (by decide)) dX2_findBranches_81 ?_
              refine iv_top (a := 0) (b := 11) (hf_n_from _) (fun z17 b18 => ?_)
              refine lv_iadd hx hb dX2_findBranches_82 ?_
              refine iv_top (a := 0) (b := 35) (iv_add b16 b18 (by decide) (by decide) (by decide) (by decide)) (fun z19 b20 => ?_)
              refine lv_iload_n hx hb dX2_findBranches_83 rfl (lv_at hl 2 rfl) ?_
              obtain ⟨hPc, hDc, hFc, hJn⟩ := cl_a (wc := [(on, .inr (2, oX2 n_kind n_salt n_pace n_manner n_from n_to n_goal n_reach n_branches n_branch n_tally x_n)), (n_branches, .inl (kI, 36, .inl g44_5)), (n_branch, .inl (kI, 144, .inl g44_6))]) (wr := [(n_from, .inl (kI, 20, .inl f_n_from)), (n_to, .inl (kI, 20, .inl f_n_to)), (n_goal, .inl (kI, 3, .inl f_n_goal)), (n_reach, .inl (kI, 12, .inl g6_4))]) hP hD hS hA [5, 3, 4] [0, 1, 2, 6] rfl rfl (by decide +kernel)
              refine va_callv (va_runV (As := [.int z19, .int v44_loc2]) (rest := []) ⟨hx, hb, hml, hown, hts⟩ (s2_addBranch l dC dI kB kI kJ kZ kC kS H.size on n_kind n_salt n_pace n_manner n_from n_to n_goal n_reach n_branches n_branch n_tally x_n g44_5 g44_6 z19 v44_loc2 (hx_n) (hI44_5) (hI44_6) (b20) (b4)) (cwV 2 hts gX2_findBranches_X2_addBranch rfl rfl rfl (by decide +kernel) ⟨Nat.le_of_ble_eq_true rfl, Nat.le_of_ble_eq_true rfl⟩) ⟨fun a U g mk q => by obtain ⟨q0, q1, qP, qE, qD⟩ := q; exact ⟨q0, q1, qP, kE_call qE, qD⟩, va_recv hK hP (ci := 2) (q0 := 5) rfl rfl, fun U hU hW => ⟨rfl, by rw [hU], by rw [hU]; exact hPc, kE_warm hW hE, hDc.weaken (fun _ _ _ _ => trivial)⟩⟩ rfl rfl hl.1 rfl (lv_room (Nat.le_of_ble_eq_true rfl)) dX2_findBranches_84 ⟨Nat.le_of_ble_eq_true rfl, Nat.le_of_ble_eq_true rfl⟩) hS (fun q _ h => hFc q h) hFc (fun u t H locs ht hvm w22 hB hz1 hk1 hS => ?_)
              obtain ⟨f23, f24, hq25, hq26, hP1, hD1⟩ := hB
              try dsimp only at w22
              obtain ⟨hPa, hDa⟩ := hJn (w1 := [(on, .inr (2, oX2 n_kind n_salt n_pace n_manner n_from n_to n_goal n_reach n_branches n_branch n_tally x_n)), (n_branches, .inl (kI, 36, .inl f23)), (n_branch, .inl (kI, 144, .inl f24))]) hk1 ht hP1 hD1
              clear hP hD hPc hDc hFc hJn hP1 hD1 hk1
              have hP : va_P (dC, dI) vwCl [(n_from, .inl (kI, 20, .inl f_n_from)), (n_to, .inl (kI, 20, .inl f_n_to)), (n_goal, .inl (kI, 3, .inl f_n_goal)), (n_reach, .inl (kI, 12, .inl g6_4)), (on, .inr (2, oX2 n_kind n_salt n_pace n_manner n_from n_to n_goal n_reach n_branches n_branch n_tally x_n)), (n_branches, .inl (kI, 36, .inl f23)), (n_branch, .inl (kI, 144, .inl f24))] H := hPa
              have hD : va_D A [(n_from, .inl (kI, 20, .inl f_n_from)), (n_to, .inl (kI, 20, .inl f_n_to)), (n_goal, .inl (kI, 3, .inl f_n_goal)), (n_reach, .inl (kI, 12, .inl g6_4)), (on, .inr (2, oX2 n_kind n_salt n_pace n_manner n_from n_to n_goal n_reach n_branches n_branch n_tally x_n)), (n_branches, .inl (kI, 36, .inl f23)), (n_branch, .inl (kI, 144, .inl f24))] := hDa
              clear hPa hDa
              refine W.widen (k := 0) (n := 0) (Nat.le_of_ble_eq_true rfl) (Nat.le_of_ble_eq_true rfl) ?_
              have hPD9 := cl_s (wc := [(on, .inr (2, oX2 n_kind n_salt n_pace n_manner n_from n_to n_goal n_reach n_branches n_branch n_tally x_n)), (n_from, .inl (kI, 20, .inl f_n_from)), (n_to, .inl (kI, 20, .inl f_n_to)), (n_goal, .inl (kI, 3, .inl f_n_goal)), (n_reach, .inl (kI, 12, .inl g6_4)), (n_branches, .inl (kI, 36, .inl f23)), (n_branch, .inl (kI, 144, .inl f24))]) hP hD [4, 0, 1, 2, 3, 5, 6] rfl (by decide +kernel)
              exact hJ87 f23 f24 _ _ _ (hq25) (hq26) (b4) (b5) (hPD9.1) (hPD9.2) hS (lv_sub hl [0, 1, 2] rfl)
      have hJ16 : ∀ (n : Nat) (g16_5 : Nat → Int32) (v16_loc2 : Int32) (H : Heap) (locs : List Loc) (ls : Array Slot), (12 - v16_loc2.toInt).toNat < n → fI (fun _ => 0) (fun _ => 4) g16_5 → iv 0 2 v6_loc1 → iv 0 12 v16_loc2 → iv 1 3 (x_n 2) → va_P (dC, dI) vwCl [(on, .inr (2, oX2 n_kind n_salt n_pace n_manner n_from n_to n_goal n_reach n_branches n_branch n_tally x_n)), (n_from, .inl (kI, 20, .inl f_n_from)), (n_to, .inl (kI, 20, .inl f_n_to)), (n_goal, .inl (kI, 3, .inl f_n_goal)), (n_reach, .inl (kI, 12, .inl g6_4)), (n_branches, .inl (kI, 36, .inl g16_5)), (n_branch, .inl (kI, 144, .inl g6_6))] H → va_D A [(on, .inr (2, oX2 n_kind n_salt n_pace n_manner n_from n_to n_goal n_reach n_branches n_branch n_tally x_n)), (n_from, .inl (kI, 20, .inl f_n_from)), (n_to, .inl (kI, 20, .inl f_n_to)), (n_goal, .inl (kI, 3, .inl f_n_goal)), (n_reach, .inl (kI, 12, .inl g6_4)), (n_branches, .inl (kI, 36, .inl g16_5)), (n_branch, .inl (kI, 144, .inl g6_6))] → va_S A s.heap H locs → lv_has ls 3 [(0, .ref on), (1, .int v6_loc1), (2, .int v16_loc2)] → W p l e (headSpec wsX2_findBranches rm_s2_findBranches).room s m args0 below meth c H locs (0) (0) (MQ below (va_Qv (fun (_ : Unit) => True) (fun _ t => ∃ (f_n_reach' : Nat → Int32) (f_n_branches' : Nat → Int32) (f_n_branch' : Nat → Int32), fI (fun _ => 0) (fun _ => 4) f_n_branches' ∧ fI (fun _ => 0) (fun _ => 19) f_n_branch' ∧ va_P (dC, dI) vwCl [(on, .inr (2, oX2 n_kind n_salt n_pace n_manner n_from n_to n_goal n_reach n_branches n_branch n_tally x_n)), (n_from, .inl (kI, 20, .inl f_n_from)), (n_to, .inl (kI, 20, .inl f_n_to)), (n_goal, .inl (kI, 3, .inl f_n_goal)), (n_reach, .inl (kI, 12, .inl f_n_reach')), (n_branches, .inl (kI, 36, .inl f_n_branches')), (n_branch, .inl (kI, 144, .inl f_n_branch'))] t.heap ∧ va_D A [(on, .inr (2, oX2 n_kind n_salt n_pace n_manner n_from n_to n_goal n_reach n_branches n_branch n_tally x_n)), (n_from, .inl (kI, 20, .inl f_n_from)), (n_to, .inl (kI, 20, .inl f_n_to)), (n_goal, .inl (kI, 3, .inl f_n_goal)), (n_reach, .inl (kI, 12, .inl f_n_reach')), (n_branches, .inl (kI, 36, .inl f_n_branches')), (n_branch, .inl (kI, 144, .inl f_n_branch'))]) A) args0 s 0 0 A) (F0 m 16 ls []) := by
        intro n
        induction n with
        | zero => intro g16_5 v16_loc2 H locs ls hm16; exact absurd hm16 (Nat.not_lt_zero _)
        | succ n ih16 =>
          intro g16_5 v16_loc2 H locs ls hm16 hI16_5 h16_2 h16_3 h16_4 hP hD hS hl
          refine lv_iload_n hx hb dX2_findBranches_16 rfl (lv_at hl 2 rfl) ?_
          refine lv_aload_n hx hb dX2_findBranches_17 rfl (lv_at hl 0 rfl) ?_
          refine va_get (D := (dC, dI)) (ci := 2) (v := .int (x_n 0)) (C := RX2) (T := TX2) (N := 15) hx hb hts hin2 hown hK hP 0 rfl rfl 7 (Nat.le_of_ble_eq_true rfl) hw_4 (fun _ h9 => h9) rfl dX2_findBranches_18 ?_
          refine lv_icmp_ge (tgt := 42) hx hb dX2_findBranches_21 rfl (fun c27 => ?_) (fun c27 => ?_)
          · refine lv_iconst (v := 0) hx hb dX2_findBranches_42 ic_0 ?_
            refine lv_istore_n (lv' := [(2, .int 0), (0, .ref on), (1, .int v6_loc1)]) hx hb dX2_findBranches_43 rfl hl (Nat.le_of_ble_eq_true rfl) rfl (fun ls hl => ?_)
            exact hJ44 _ g16_5 g6_6 0 _ _ _ (Nat.lt_succ_self _) (hI16_5) (hI6_6) (h16_2) ((iv_w ivk_0 (by decide) (by decide))) (h16_4) (hP) (hD) hS (lv_sub hl [1, 2, 0] rfl)
          · have b28 : iv 0 11 v16_loc2 := iv_ltL (Int32.not_le.mp c27) h16_3 (hx_n 0 : iv 0 12 (x_n 0)) (by decide) (by decide)
            have b29 : iv 1 12 (x_n 0) := iv_ltR (Int32.not_le.mp c27) h16_3 (hx_n 0 : iv 0 12 (x_n 0)) (by decide) (by decide)
            refine lv_aload_n hx hb dX2_findBranches_24 rfl (lv_at hl 0 rfl) ?_
            refine va_get (D := (dC, dI)) (ci := 2) (v := .ref n_branches) (C := RX2) (T := TX2) (N := 15) hx hb hts hin2 hown hK hP 0 rfl rfl 12 (Nat.le_of_ble_eq_true rfl) hw_5 (fun _ h9 => h9) rfl dX2_findBranches_25 ?_
            refine lv_iload_n hx hb dX2_findBranches_28 rfl (lv_at hl 1 rfl) ?_
            refine lv_bipush (v := 12) hx hb dX2_findBranches_29 bp_12 ?_
            refine lv_imul hx hb dX2_findBranches_31 ?_
            refine iv_top (a := 0) (b := 24) (iv_mul h16_2 ivk_12 (by decide) (by decide) (by decide) (by decide) (by decide)) (fun z30 b31 => ?_)
            refine lv_iload_n hx hb dX2_findBranches_32 rfl (lv_at hl 2 rfl) ?_
            refine lv_iadd hx hb dX2_findBranches_33 ?_
            refine iv_top (a := 0) (b := 35) (iv_add b31 b28 (by decide) (by decide) (by decide) (by decide)) (fun z32 b33 => ?_)
            refine lv_iconst (v := 0) hx hb dX2_findBranches_34 ic_0 ?_
            refine va_iast hx hb hK hP hD hS 5 1 rfl rfl (iv_in b33 (by decide) (by decide)) dX2_findBranches_35 (fun H locs hPa hDa hS => ?_)
            clear hP hD
            have hP : va_P (dC, dI) vwCl [(on, .inr (2, oX2 n_kind n_salt n_pace n_manner n_from n_to n_goal n_reach n_branches n_branch n_tally x_n)), (n_from, .inl (kI, 20, .inl f_n_from)), (n_to, .inl (kI, 20, .inl f_n_to)), (n_goal, .inl (kI, 3, .inl f_n_goal)), (n_reach, .inl (kI, 12, .inl g6_4)), (n_branches, .inl (kI, 36, .inl (upd g16_5 z32.toNatClampNeg 0))), (n_branch, .inl (kI, 144, .inl g6_6))] H := hPa
            have hD : va_D A [(on, .inr (2, oX2 n_kind n_salt n_pace n_manner n_from n_to n_goal n_reach n_branches n_branch n_tally x_n)), (n_from, .inl (kI, 20, .inl f_n_from)), (n_to, .inl (kI, 20, .inl f_n_to)), (n_goal, .inl (kI, 3, .inl f_n_goal)), (n_reach, .inl (kI, 12, .inl g6_4)), (n_branches, .inl (kI, 36, .inl (upd g16_5 z32.toNatClampNeg 0))), (n_branch, .inl (kI, 144, .inl g6_6))] := hDa
            clear hPa hDa
            have hf35 : fI (fun _ => 0) (fun _ => 4) (upd g16_5 z32.toNatClampNeg 0) := fI_u hI16_5 (k := z32.toNatClampNeg) ((iv_w ivk_0 (by decide) (by decide)))
            generalize (upd g16_5 z32.toNatClampNeg 0) = f34 at hP hD hf35
            refine lv_iinc (v := v16_loc2 + Int32.ofInt 1) (lv' := [(2, .int (v16_loc2 + Int32.ofInt 1)), (0, .ref on), (1, .int v6_loc1)]) hx hb dX2_findBranches_36 hl (k := 2) rfl (rfl) (Nat.le_of_ble_eq_true rfl) rfl (fun ls hl => ?_)
            have b36 : iv 1 12 (v16_loc2 + Int32.ofInt 1) := iv_add b28 ivo_1 (by decide) (by decide) (by decide) (by decide)
            refine lv_goto (tgt := 16) hx hb dX2_findBranches_39 rfl ?_
            exact ih16 f34 (v16_loc2 + Int32.ofInt 1) _ _ _ (ms_up (c := 1) (d := 0) b28 hm16 (by decide) (iv_inc 1 b28 (by decide) (by decide) (by decide) (by decide)) (by decide) rfl) (hf35) (h16_2) ((iv_w b36 (by decide) (by decide))) (h16_4) (hP) (hD) hS (lv_sub hl [1, 2, 0] rfl)
      refine lv_iload_n hx hb dX2_findBranches_6 rfl (lv_at hl 1 rfl) ?_
      refine lv_aload_n hx hb dX2_findBranches_7 rfl (lv_at hl 0 rfl) ?_
      refine va_get (D := (dC, dI)) (ci := 2) (v := .int (x_n 2)) (C := RX2) (T := TX2) (N := 15) hx hb hts hin2 hown hK hP 0 rfl rfl 9 (Nat.le_of_ble_eq_true rfl) hw_6 (fun _ h9 => h9) rfl dX2_findBranches_8 ?_
      refine lv_icmp_ge (tgt := 99) hx hb dX2_findBranches_11 rfl (fun c37 => ?_) (fun c37 => ?_)
      · have hP9 := hP
        have hD9 := hD
        exact W.vret hx hb hr (fun t ht hW => ⟨⟨(), rfl, trivial, g6_4, g6_5, g6_6, hI6_5, hI6_6, by rw [ht]; exact hP9, hD9⟩, hS.F ht⟩) hS.2.2 dX2_findBranches_99
      · have b38 : iv 0 2 v6_loc1 := iv_ltL (Int32.not_le.mp c37) h6_3 (hx_n 2 : iv 0 3 (x_n 2)) (by decide) (by decide)
        have b39 : iv 1 3 (x_n 2) := iv_ltR (Int32.not_le.mp c37) h6_3 (hx_n 2 : iv 0 3 (x_n 2)) (by decide) (by decide)
        refine lv_iconst (v := 0) hx hb dX2_findBranches_14 ic_0 ?_
        refine lv_istore_n (lv' := [(2, .int 0), (0, .ref on), (1, .int v6_loc1)]) hx hb dX2_findBranches_15 rfl hl (Nat.le_of_ble_eq_true rfl) rfl (fun ls hl => ?_)
        exact hJ16 _ g6_5 0 _ _ _ (Nat.lt_succ_self _) (hI6_5) (b38) ((iv_w ivk_0 (by decide) (by decide))) (b39) (hP) (hD) hS (lv_sub hl [1, 2, 0] rfl)
  refine lv_aload_n hx hb dX2_findBranches_0 rfl (lv_at hl 0 rfl) ?_
  obtain ⟨hPc, hDc, hFc, hJn⟩ := cl_a (wc := [(on, .inr (2, oX2 n_kind n_salt n_pace n_manner n_from n_to n_goal n_reach n_branches n_branch n_tally x_n)), (n_from, .inl (kI, 20, .inl f_n_from)), (n_to, .inl (kI, 20, .inl f_n_to)), (n_reach, .inl (kI, 12, .inl f_n_reach))]) (wr := [(n_goal, .inl (kI, 3, .inl f_n_goal)), (n_branches, .inl (kI, 36, .inl f_n_branches)), (n_branch, .inl (kI, 144, .inl f_n_branch))]) hP hD hS hA [0, 1, 2, 4] [3, 5, 6] rfl rfl (by decide +kernel)
  refine va_callv (va_runV (As := []) (rest := []) ⟨hx, hb, hml, hown, hts⟩ (s2_findReach l dC dI kB kI kJ kZ kC kS s.heap.size on n_kind n_salt n_pace n_manner n_from n_to n_goal n_reach n_branches n_branch n_tally x_n f_n_from f_n_to f_n_reach (hx_n) (hf_n_from) (hf_n_to)) (cwV 0 hts gX2_findBranches_X2_findReach rfl rfl rfl (by decide +kernel) ⟨Nat.le_of_ble_eq_true rfl, Nat.le_of_ble_eq_true rfl⟩) ⟨fun a U g mk q => by obtain ⟨q0, q1, qP, qE, qD⟩ := q; exact ⟨q0, q1, qP, kE_call qE, qD⟩, va_recv hK hP (ci := 2) (q0 := 0) rfl rfl, fun U hU hW => ⟨rfl, by rw [hU], by rw [hU]; exact hPc, kE_warm hW hE, hDc.weaken (fun _ _ _ _ => trivial)⟩⟩ rfl rfl hl.1 rfl (lv_room (Nat.le_of_ble_eq_true rfl)) dX2_findBranches_1 ⟨Nat.le_of_ble_eq_true rfl, Nat.le_of_ble_eq_true rfl⟩) hS (fun q _ h => hFc q h) hFc (fun u t H locs ht hvm w41 hB hz1 hk1 hS => ?_)
  obtain ⟨f42, hP1, hD1⟩ := hB
  try dsimp only at w41
  obtain ⟨hPa, hDa⟩ := hJn (w1 := [(on, .inr (2, oX2 n_kind n_salt n_pace n_manner n_from n_to n_goal n_reach n_branches n_branch n_tally x_n)), (n_from, .inl (kI, 20, .inl f_n_from)), (n_to, .inl (kI, 20, .inl f_n_to)), (n_reach, .inl (kI, 12, .inl f42))]) hk1 ht hP1 hD1
  clear hP hD hPc hDc hFc hJn hP1 hD1 hk1
  have hP : va_P (dC, dI) vwCl [(n_goal, .inl (kI, 3, .inl f_n_goal)), (n_branches, .inl (kI, 36, .inl f_n_branches)), (n_branch, .inl (kI, 144, .inl f_n_branch)), (on, .inr (2, oX2 n_kind n_salt n_pace n_manner n_from n_to n_goal n_reach n_branches n_branch n_tally x_n)), (n_from, .inl (kI, 20, .inl f_n_from)), (n_to, .inl (kI, 20, .inl f_n_to)), (n_reach, .inl (kI, 12, .inl f42))] H := hPa
  have hD : va_D A [(n_goal, .inl (kI, 3, .inl f_n_goal)), (n_branches, .inl (kI, 36, .inl f_n_branches)), (n_branch, .inl (kI, 144, .inl f_n_branch)), (on, .inr (2, oX2 n_kind n_salt n_pace n_manner n_from n_to n_goal n_reach n_branches n_branch n_tally x_n)), (n_from, .inl (kI, 20, .inl f_n_from)), (n_to, .inl (kI, 20, .inl f_n_to)), (n_reach, .inl (kI, 12, .inl f42))] := hDa
  clear hPa hDa
  refine W.widen (k := 0) (n := 0) (Nat.le_of_ble_eq_true rfl) (Nat.le_of_ble_eq_true rfl) ?_
  refine lv_iconst (v := 0) hx hb dX2_findBranches_4 ic_0 ?_
  refine lv_istore_n (lv' := [(1, .int 0), (0, .ref on)]) hx hb dX2_findBranches_5 rfl hl (Nat.le_of_ble_eq_true rfl) rfl (fun ls hl => ?_)
  have hPD9 := cl_s (wc := [(on, .inr (2, oX2 n_kind n_salt n_pace n_manner n_from n_to n_goal n_reach n_branches n_branch n_tally x_n)), (n_from, .inl (kI, 20, .inl f_n_from)), (n_to, .inl (kI, 20, .inl f_n_to)), (n_goal, .inl (kI, 3, .inl f_n_goal)), (n_reach, .inl (kI, 12, .inl f42)), (n_branches, .inl (kI, 36, .inl f_n_branches)), (n_branch, .inl (kI, 144, .inl f_n_branch))]) hP hD [3, 4, 5, 0, 6, 1, 2] rfl (by decide +kernel)
  exact hJ6 _ f42 f_n_branches f_n_branch 0 _ _ _ (Nat.lt_succ_self _) (hf_n_branches) (hf_n_branch) ((iv_w ivk_0 (by decide) (by decide))) (hPD9.1) (hPD9.2) hS (lv_sub hl [1, 0] rfl)
def rm_s2_branchesOf : Room := { frames := 0, cells := 0, slots := 0, locals := 0 }
set_option maxHeartbeats 4000000 in
set_option maxRecDepth 100000 in
theorem s2_branchesOf (l : Launch) (dC : Nat → ClassId) (dI : Nat → Nat → Nat) (kB kI kJ kZ kC kS : ClassId) (sz : Nat) (on : Nat) (n_kind : Nat) (n_salt : Nat) (n_pace : Nat) (n_manner : Nat) (n_from : Nat) (n_to : Nat) (n_goal : Nat) (n_reach : Nat) (n_branches : Nat) (n_branch : Nat) (n_tally : Nat) (x_n : Nat → Int32) (f_n_branches : Nat → Int32) (p0 : Int32) (p1 : Int32) (hx_n : fI lX2 hX2 x_n) (hf_n_branches : fI (fun _ => 0) (fun _ => 4) f_n_branches) (hp0 : iv 0 11 p0) (hp1 : iv 0 2 p1) : Met l yX2_branchesOf wsX2_branchesOf rm_s2_branchesOf (va_Pc [.ref on, .int p0, .int p1] (fun U => U.heap.size = sz ∧ va_P (dC, dI) vwCl [(on, .inr (2, oX2 n_kind n_salt n_pace n_manner n_from n_to n_goal n_reach n_branches n_branch n_tally x_n)), (n_branches, .inl (kI, 36, .inl f_n_branches))] U.heap ∧ kE dC dI kB kI kJ kZ kC kS U ∧ va_D (fun _ => True) [(on, .inr (2, oX2 n_kind n_salt n_pace n_manner n_from n_to n_goal n_reach n_branches n_branch n_tally x_n)), (n_branches, .inl (kI, 36, .inl f_n_branches))])) (va_Qi (fun (r : Int32) (_ : Unit) => iv 0 4 r) (fun _ t => va_P (dC, dI) vwCl [(on, .inr (2, oX2 n_kind n_salt n_pace n_manner n_from n_to n_goal n_reach n_branches n_branch n_tally x_n)), (n_branches, .inl (kI, 36, .inl f_n_branches))] t.heap ∧ va_D (va_A [(on, .inr (2, oX2 n_kind n_salt n_pace n_manner n_from n_to n_goal n_reach n_branches n_branch n_tally x_n)), (n_branches, .inl (kI, 36, .inl f_n_branches))] sz) [(on, .inr (2, oX2 n_kind n_salt n_pace n_manner n_from n_to n_goal n_reach n_branches n_branch n_tally x_n)), (n_branches, .inl (kI, 36, .inl f_n_branches))]) (va_A [(on, .inr (2, oX2 n_kind n_salt n_pace n_manner n_from n_to n_goal n_reach n_branches n_branch n_tally x_n)), (n_branches, .inl (kI, 36, .inl f_n_branches))] sz)) 0 0 (va_A [(on, .inr (2, oX2 n_kind n_salt n_pace n_manner n_from n_to n_goal n_reach n_branches n_branch n_tally x_n)), (n_branches, .inl (kI, 36, .inl f_n_branches))] sz) := by
  refine Met.ofW (cc := cX2_branchesOf) (maxL := 3) (ret := (some .int)) (by decide) rfl ?_
  intro p e s m args0 below meth c s₁ B hml hv
  obtain ⟨hargs, hsz, hP, hE, hD0⟩ := hv
  have hx := B.exec
  have hb := B.bytes
  have hr := B.returns
  have hts := atoms_spec (ws := wsX2_branchesOf) B.pre
  have hown : s.vm.findClass RX2 = some m.cls := findClass_of_methodNamed B.named
  have hlocks := B.notSynchronized
  have hK := hE.1
  have hin2 : ∀ w ∈ wsX20, w ∈ wsX2_branchesOf := fun _ h9 => List.mem_cons_of_mem _ (List.mem_append_right _ h9)
  have hw_0 := hts (.fieldLink RX2 49 "PathProber$Net" "branches" "[I") (List.mem_of_getElem? (i := 1) rfl)
  subst hsz
  have hD := hD0.self (sz := s.heap.size)
  generalize hAe : va_A [(on, .inr (2, oX2 n_kind n_salt n_pace n_manner n_from n_to n_goal n_reach n_branches n_branch n_tally x_n)), (n_branches, .inl (kI, 36, .inl f_n_branches))] s.heap.size = A at hD ⊢
  have hA : ∀ q : Nat, s.heap.size ≤ q → A q := fun q h => by rw [← hAe]; exact Or.inr h
  have hS : va_S A s.heap s.heap [] := va_S.rf
  have hP : va_P (dC, dI) vwCl [(on, .inr (2, oX2 n_kind n_salt n_pace n_manner n_from n_to n_goal n_reach n_branches n_branch n_tally x_n)), (n_branches, .inl (kI, 36, .inl f_n_branches))] s.heap := hP
  have hl := lv_entry ([.ref on, .int p0, .int p1]) (n := 3) (Nat.le_of_ble_eq_true rfl)
  have hla : entryFrame m args0 3 = entryFrame m ([.ref on, .int p0, .int p1] : List Value).toArray 3 := by rw [hargs]
  rw [hla, lg_entry_eq]
  generalize (lg_sl ([.ref on, .int p0, .int p1]) ++ List.replicate (3 - (lg_sl ([.ref on, .int p0, .int p1])).length) Slot.unset).toArray = ls at hl ⊢
  have hl : lv_has ls 3 [(0, .ref on), (1, .int p0), (2, .int p1)] := hl
  refine lv_aload_n hx hb dX2_branchesOf_0 rfl (lv_at hl 0 rfl) ?_
  refine va_get (D := (dC, dI)) (ci := 2) (v := .ref n_branches) (C := RX2) (T := TX2) (N := 15) hx hb hts hin2 hown hK hP 0 rfl rfl 12 (Nat.le_of_ble_eq_true rfl) hw_0 (fun _ h9 => h9) rfl dX2_branchesOf_1 ?_
  refine lv_iload_n hx hb dX2_branchesOf_4 rfl (lv_at hl 2 rfl) ?_
  refine lv_bipush (v := 12) hx hb dX2_branchesOf_5 bp_12 ?_
  refine lv_imul hx hb dX2_branchesOf_7 ?_
  refine iv_top (a := 0) (b := 24) (iv_mul hp1 ivk_12 (by decide) (by decide) (by decide) (by decide) (by decide)) (fun z1 b2 => ?_)
  refine lv_iload_n hx hb dX2_branchesOf_8 rfl (lv_at hl 1 rfl) ?_
  refine lv_iadd hx hb dX2_branchesOf_9 ?_
  refine iv_top (a := 0) (b := 35) (iv_add b2 hp0 (by decide) (by decide) (by decide) (by decide)) (fun z3 b4 => ?_)
  refine va_iald hx hb hK hP 1 1 rfl rfl (iv_in b4 (by decide) (by decide)) dX2_branchesOf_10 ?_
  refine iv_top (a := 0) (b := 4) (hf_n_branches _) (fun z5 b6 => ?_)
  have hP9 := hP
  have hD9 := hD
  exact W.iret (v := z5) hx hb hr (fun t ht hW => ⟨⟨z5, (), rfl, b6, by rw [ht]; exact hP9, hD9⟩, hS.F ht⟩) hS.2.2 dX2_branchesOf_11
def rm_s2_branchOf : Room := { frames := 0, cells := 0, slots := 0, locals := 0 }
set_option maxHeartbeats 4000000 in
set_option maxRecDepth 100000 in
theorem s2_branchOf (l : Launch) (dC : Nat → ClassId) (dI : Nat → Nat → Nat) (kB kI kJ kZ kC kS : ClassId) (sz : Nat) (on : Nat) (n_kind : Nat) (n_salt : Nat) (n_pace : Nat) (n_manner : Nat) (n_from : Nat) (n_to : Nat) (n_goal : Nat) (n_reach : Nat) (n_branches : Nat) (n_branch : Nat) (n_tally : Nat) (x_n : Nat → Int32) (f_n_branch : Nat → Int32) (p0 : Int32) (p1 : Int32) (p2 : Int32) (hx_n : fI lX2 hX2 x_n) (hf_n_branch : fI (fun _ => 0) (fun _ => 19) f_n_branch) (hp0 : iv 0 11 p0) (hp1 : iv 0 2 p1) (hp2 : iv 0 3 p2) : Met l yX2_branchOf wsX2_branchOf rm_s2_branchOf (va_Pc [.ref on, .int p0, .int p1, .int p2] (fun U => U.heap.size = sz ∧ va_P (dC, dI) vwCl [(on, .inr (2, oX2 n_kind n_salt n_pace n_manner n_from n_to n_goal n_reach n_branches n_branch n_tally x_n)), (n_branch, .inl (kI, 144, .inl f_n_branch))] U.heap ∧ kE dC dI kB kI kJ kZ kC kS U ∧ va_D (fun _ => True) [(on, .inr (2, oX2 n_kind n_salt n_pace n_manner n_from n_to n_goal n_reach n_branches n_branch n_tally x_n)), (n_branch, .inl (kI, 144, .inl f_n_branch))])) (va_Qi (fun (r : Int32) (_ : Unit) => iv 0 19 r) (fun _ t => va_P (dC, dI) vwCl [(on, .inr (2, oX2 n_kind n_salt n_pace n_manner n_from n_to n_goal n_reach n_branches n_branch n_tally x_n)), (n_branch, .inl (kI, 144, .inl f_n_branch))] t.heap ∧ va_D (va_A [(on, .inr (2, oX2 n_kind n_salt n_pace n_manner n_from n_to n_goal n_reach n_branches n_branch n_tally x_n)), (n_branch, .inl (kI, 144, .inl f_n_branch))] sz) [(on, .inr (2, oX2 n_kind n_salt n_pace n_manner n_from n_to n_goal n_reach n_branches n_branch n_tally x_n)), (n_branch, .inl (kI, 144, .inl f_n_branch))]) (va_A [(on, .inr (2, oX2 n_kind n_salt n_pace n_manner n_from n_to n_goal n_reach n_branches n_branch n_tally x_n)), (n_branch, .inl (kI, 144, .inl f_n_branch))] sz)) 0 0 (va_A [(on, .inr (2, oX2 n_kind n_salt n_pace n_manner n_from n_to n_goal n_reach n_branches n_branch n_tally x_n)), (n_branch, .inl (kI, 144, .inl f_n_branch))] sz) := by
  refine Met.ofW (cc := cX2_branchOf) (maxL := 4) (ret := (some .int)) (by decide) rfl ?_
  intro p e s m args0 below meth c s₁ B hml hv
  obtain ⟨hargs, hsz, hP, hE, hD0⟩ := hv
  have hx := B.exec
  have hb := B.bytes
  have hr := B.returns
  have hts := atoms_spec (ws := wsX2_branchOf) B.pre
  have hown : s.vm.findClass RX2 = some m.cls := findClass_of_methodNamed B.named
  have hlocks := B.notSynchronized
  have hK := hE.1
  have hin2 : ∀ w ∈ wsX20, w ∈ wsX2_branchOf := fun _ h9 => List.mem_cons_of_mem _ (List.mem_append_right _ h9)
  have hw_0 := hts (.fieldLink RX2 52 "PathProber$Net" "branch" "[I") (List.mem_of_getElem? (i := 1) rfl)
  subst hsz
  have hD := hD0.self (sz := s.heap.size)
  generalize hAe : va_A [(on, .inr (2, oX2 n_kind n_salt n_pace n_manner n_from n_to n_goal n_reach n_branches n_branch n_tally x_n)), (n_branch, .inl (kI, 144, .inl f_n_branch))] s.heap.size = A at hD ⊢
  have hA : ∀ q : Nat, s.heap.size ≤ q → A q := fun q h => by rw [← hAe]; exact Or.inr h
  have hS : va_S A s.heap s.heap [] := va_S.rf
  have hP : va_P (dC, dI) vwCl [(on, .inr (2, oX2 n_kind n_salt n_pace n_manner n_from n_to n_goal n_reach n_branches n_branch n_tally x_n)), (n_branch, .inl (kI, 144, .inl f_n_branch))] s.heap := hP
  have hl := lv_entry ([.ref on, .int p0, .int p1, .int p2]) (n := 4) (Nat.le_of_ble_eq_true rfl)
  have hla : entryFrame m args0 4 = entryFrame m ([.ref on, .int p0, .int p1, .int p2] : List Value).toArray 4 := by rw [hargs]
  rw [hla, lg_entry_eq]
  generalize (lg_sl ([.ref on, .int p0, .int p1, .int p2]) ++ List.replicate (4 - (lg_sl ([.ref on, .int p0, .int p1, .int p2])).length) Slot.unset).toArray = ls at hl ⊢
  have hl : lv_has ls 4 [(0, .ref on), (1, .int p0), (2, .int p1), (3, .int p2)] := hl
  refine lv_aload_n hx hb dX2_branchOf_0 rfl (lv_at hl 0 rfl) ?_
  refine va_get (D := (dC, dI)) (ci := 2) (v := .ref n_branch) (C := RX2) (T := TX2) (N := 15) hx hb hts hin2 hown hK hP 0 rfl rfl 13 (Nat.le_of_ble_eq_true rfl) hw_0 (fun _ h9 => h9) rfl dX2_branchOf_1 ?_
  refine lv_iload_n hx hb dX2_branchOf_4 rfl (lv_at hl 2 rfl) ?_
  refine lv_bipush (v := 12) hx hb dX2_branchOf_5 bp_12 ?_
  refine lv_imul hx hb dX2_branchOf_7 ?_
  refine iv_top (a := 0) (b := 24) (iv_mul hp1 ivk_12 (by decide) (by decide) (by decide) (by decide) (by decide)) (fun z1 b2 => ?_)
  refine lv_iload_n hx hb dX2_branchOf_8 rfl (lv_at hl 1 rfl) ?_
  refine lv_iadd hx hb dX2_branchOf_9 ?_
  refine iv_top (a := 0) (b := 35) (iv_add b2 hp0 (by decide) (by decide) (by decide) (by decide)) (fun z3 b4 => ?_)
  refine lv_iconst (v := 4) hx hb dX2_branchOf_10 ic_4 ?_
  refine lv_imul hx hb dX2_branchOf_11 ?_
  refine iv_top (a := 0) (b := 140) (iv_mul b4 ivk_4 (by decide) (by decide) (by decide) (by decide) (by decide)) (fun z5 b6 => ?_)
  refine lv_iload_n hx hb dX2_branchOf_12 rfl (lv_at hl 3 rfl) ?_
  refine lv_iadd hx hb dX2_branchOf_13 ?_
  refine iv_top (a := 0) (b := 143) (iv_add b6 hp2 (by decide) (by decide) (by decide) (by decide)) (fun z7 b8 => ?_)
  refine va_iald hx hb hK hP 1 1 rfl rfl (iv_in b8 (by decide) (by decide)) dX2_branchOf_14 ?_
  refine iv_top (a := 0) (b := 19) (hf_n_branch _) (fun z9 b10 => ?_)
  have hP9 := hP
  have hD9 := hD
  exact W.iret (v := z9) hx hb hr (fun t ht hW => ⟨⟨z9, (), rfl, b10, by rw [ht]; exact hP9, hD9⟩, hS.F ht⟩) hS.2.2 dX2_branchOf_15
def rm_s2_waysTo : Room := { frames := 1, cells := 0, slots := 0, locals := 23 }
set_option maxHeartbeats 4000000 in
set_option maxRecDepth 100000 in
theorem s2_waysTo (l : Launch) (dC : Nat → ClassId) (dI : Nat → Nat → Nat) (kB kI kJ kZ kC kS : ClassId) (sz : Nat) (on : Nat) (n_kind : Nat) (n_salt : Nat) (n_pace : Nat) (n_manner : Nat) (n_from : Nat) (n_to : Nat) (n_goal : Nat) (n_reach : Nat) (n_branches : Nat) (n_branch : Nat) (n_tally : Nat) (x_n : Nat → Int32) (f_n_to : Nat → Int32) (f_n_goal : Nat → Int32) (f_n_branches : Nat → Int32) (f_n_branch : Nat → Int32) (f_n_tally : Nat → Int32) (p0 : Int32) (hx_n : fI lX2 hX2 x_n) (hf_n_to : fI (fun _ => 0) (fun _ => 11) f_n_to) (hf_n_goal : fI (fun _ => 0) (fun _ => 11) f_n_goal) (hf_n_branches : fI (fun _ => 0) (fun _ => 4) f_n_branches) (hf_n_branch : fI (fun _ => 0) (fun _ => 19) f_n_branch) (hp0 : iv 0 2 p0) : Met l yX2_waysTo wsX2_waysTo rm_s2_waysTo (va_Pc [.ref on, .int p0] (fun U => U.heap.size = sz ∧ va_P (dC, dI) vwCl [(on, .inr (2, oX2 n_kind n_salt n_pace n_manner n_from n_to n_goal n_reach n_branches n_branch n_tally x_n)), (n_to, .inl (kI, 20, .inl f_n_to)), (n_goal, .inl (kI, 3, .inl f_n_goal)), (n_branches, .inl (kI, 36, .inl f_n_branches)), (n_branch, .inl (kI, 144, .inl f_n_branch)), (n_tally, .inl (kI, 12, .inl f_n_tally))] U.heap ∧ kE dC dI kB kI kJ kZ kC kS U ∧ va_D (fun _ => True) [(on, .inr (2, oX2 n_kind n_salt n_pace n_manner n_from n_to n_goal n_reach n_branches n_branch n_tally x_n)), (n_to, .inl (kI, 20, .inl f_n_to)), (n_goal, .inl (kI, 3, .inl f_n_goal)), (n_branches, .inl (kI, 36, .inl f_n_branches)), (n_branch, .inl (kI, 144, .inl f_n_branch)), (n_tally, .inl (kI, 12, .inl f_n_tally))])) (va_Qi (fun (r : Int32) (_ : Unit) => True) (fun _ t => ∃ (f_n_tally' : Nat → Int32), va_P (dC, dI) vwCl [(on, .inr (2, oX2 n_kind n_salt n_pace n_manner n_from n_to n_goal n_reach n_branches n_branch n_tally x_n)), (n_to, .inl (kI, 20, .inl f_n_to)), (n_goal, .inl (kI, 3, .inl f_n_goal)), (n_branches, .inl (kI, 36, .inl f_n_branches)), (n_branch, .inl (kI, 144, .inl f_n_branch)), (n_tally, .inl (kI, 12, .inl f_n_tally'))] t.heap ∧ va_D (va_A [(on, .inr (2, oX2 n_kind n_salt n_pace n_manner n_from n_to n_goal n_reach n_branches n_branch n_tally x_n)), (n_to, .inl (kI, 20, .inl f_n_to)), (n_goal, .inl (kI, 3, .inl f_n_goal)), (n_branches, .inl (kI, 36, .inl f_n_branches)), (n_branch, .inl (kI, 144, .inl f_n_branch)), (n_tally, .inl (kI, 12, .inl f_n_tally))] sz) [(on, .inr (2, oX2 n_kind n_salt n_pace n_manner n_from n_to n_goal n_reach n_branches n_branch n_tally x_n)), (n_to, .inl (kI, 20, .inl f_n_to)), (n_goal, .inl (kI, 3, .inl f_n_goal)), (n_branches, .inl (kI, 36, .inl f_n_branches)), (n_branch, .inl (kI, 144, .inl f_n_branch)), (n_tally, .inl (kI, 12, .inl f_n_tally'))]) (va_A [(on, .inr (2, oX2 n_kind n_salt n_pace n_manner n_from n_to n_goal n_reach n_branches n_branch n_tally x_n)), (n_to, .inl (kI, 20, .inl f_n_to)), (n_goal, .inl (kI, 3, .inl f_n_goal)), (n_branches, .inl (kI, 36, .inl f_n_branches)), (n_branch, .inl (kI, 144, .inl f_n_branch)), (n_tally, .inl (kI, 12, .inl f_n_tally))] sz)) 0 0 (va_A [(on, .inr (2, oX2 n_kind n_salt n_pace n_manner n_from n_to n_goal n_reach n_branches n_branch n_tally x_n)), (n_to, .inl (kI, 20, .inl f_n_to)), (n_goal, .inl (kI, 3, .inl f_n_goal)), (n_branches, .inl (kI, 36, .inl f_n_branches)), (n_branch, .inl (kI, 144, .inl f_n_branch)), (n_tally, .inl (kI, 12, .inl f_n_tally))] sz) := by
  refine Met.ofW (cc := cX2_waysTo) (maxL := 5) (ret := (some .int)) (by decide) rfl ?_
  intro p e s m args0 below meth c s₁ B hml hv
  obtain ⟨hargs, hsz, hP, hE, hD0⟩ := hv
  have hx := B.exec
  have hb := B.bytes
  have hr := B.returns
  have hts := atoms_spec (ws := wsX2_waysTo) B.pre
  have hown : s.vm.findClass RX2 = some m.cls := findClass_of_methodNamed B.named
  have hlocks := B.notSynchronized
  have hK := hE.1
  have hin2 : ∀ w ∈ wsX20, w ∈ wsX2_waysTo := fun _ h9 => List.mem_cons_of_mem _ (List.mem_append_right _ h9)
  have hw_0 := hts (.fieldLink RX2 55 "PathProber$Net" "tally" "[I") (List.mem_of_getElem? (i := 3) rfl)
  have hw_1 := hts (.fieldLink RX2 27 "PathProber$Net" "to" "[I") (List.mem_of_getElem? (i := 4) rfl)
  have hw_2 := hts (.fieldLink RX2 30 "PathProber$Net" "goal" "[I") (List.mem_of_getElem? (i := 2) rfl)
  have hw_3 := hts (.fieldLink RX2 33 "PathProber$Net" "routers" "I") (List.mem_of_getElem? (i := 1) rfl)
  subst hsz
  have hD := hD0.self (sz := s.heap.size)
  generalize hAe : va_A [(on, .inr (2, oX2 n_kind n_salt n_pace n_manner n_from n_to n_goal n_reach n_branches n_branch n_tally x_n)), (n_to, .inl (kI, 20, .inl f_n_to)), (n_goal, .inl (kI, 3, .inl f_n_goal)), (n_branches, .inl (kI, 36, .inl f_n_branches)), (n_branch, .inl (kI, 144, .inl f_n_branch)), (n_tally, .inl (kI, 12, .inl f_n_tally))] s.heap.size = A at hD ⊢
  have hA : ∀ q : Nat, s.heap.size ≤ q → A q := fun q h => by rw [← hAe]; exact Or.inr h
  have hS : va_S A s.heap s.heap [] := va_S.rf
  have hP : va_P (dC, dI) vwCl [(on, .inr (2, oX2 n_kind n_salt n_pace n_manner n_from n_to n_goal n_reach n_branches n_branch n_tally x_n)), (n_to, .inl (kI, 20, .inl f_n_to)), (n_goal, .inl (kI, 3, .inl f_n_goal)), (n_branches, .inl (kI, 36, .inl f_n_branches)), (n_branch, .inl (kI, 144, .inl f_n_branch)), (n_tally, .inl (kI, 12, .inl f_n_tally))] s.heap := hP
  have hl := lv_entry ([.ref on, .int p0]) (n := 5) (Nat.le_of_ble_eq_true rfl)
  have hla : entryFrame m args0 5 = entryFrame m ([.ref on, .int p0] : List Value).toArray 5 := by rw [hargs]
  rw [hla, lg_entry_eq]
  generalize (lg_sl ([.ref on, .int p0]) ++ List.replicate (5 - (lg_sl ([.ref on, .int p0])).length) Slot.unset).toArray = ls at hl ⊢
  have hl : lv_has ls 5 [(0, .ref on), (1, .int p0)] := hl
  have hJ7 : ∀ (n : Nat) (g7_5 : Nat → Int32) (v7_loc2 : Int32) (H : Heap) (locs : List Loc) (ls : Array Slot), (v7_loc2.toInt - (-1)).toNat < n → iv (-1) 11 v7_loc2 → va_P (dC, dI) vwCl [(on, .inr (2, oX2 n_kind n_salt n_pace n_manner n_from n_to n_goal n_reach n_branches n_branch n_tally x_n)), (n_to, .inl (kI, 20, .inl f_n_to)), (n_goal, .inl (kI, 3, .inl f_n_goal)), (n_branches, .inl (kI, 36, .inl f_n_branches)), (n_branch, .inl (kI, 144, .inl f_n_branch)), (n_tally, .inl (kI, 12, .inl g7_5))] H → va_D A [(on, .inr (2, oX2 n_kind n_salt n_pace n_manner n_from n_to n_goal n_reach n_branches n_branch n_tally x_n)), (n_to, .inl (kI, 20, .inl f_n_to)), (n_goal, .inl (kI, 3, .inl f_n_goal)), (n_branches, .inl (kI, 36, .inl f_n_branches)), (n_branch, .inl (kI, 144, .inl f_n_branch)), (n_tally, .inl (kI, 12, .inl g7_5))] → va_S A s.heap H locs → lv_has ls 5 [(0, .ref on), (1, .int p0), (2, .int v7_loc2)] → W p l e (headSpec wsX2_waysTo rm_s2_waysTo).room s m args0 below meth c H locs (0) (0) (MQ below (va_Qi (fun (r : Int32) (_ : Unit) => True) (fun _ t => ∃ (f_n_tally' : Nat → Int32), va_P (dC, dI) vwCl [(on, .inr (2, oX2 n_kind n_salt n_pace n_manner n_from n_to n_goal n_reach n_branches n_branch n_tally x_n)), (n_to, .inl (kI, 20, .inl f_n_to)), (n_goal, .inl (kI, 3, .inl f_n_goal)), (n_branches, .inl (kI, 36, .inl f_n_branches)), (n_branch, .inl (kI, 144, .inl f_n_branch)), (n_tally, .inl (kI, 12, .inl f_n_tally'))] t.heap ∧ va_D A [(on, .inr (2, oX2 n_kind n_salt n_pace n_manner n_from n_to n_goal n_reach n_branches n_branch n_tally x_n)), (n_to, .inl (kI, 20, .inl f_n_to)), (n_goal, .inl (kI, 3, .inl f_n_goal)), (n_branches, .inl (kI, 36, .inl f_n_branches)), (n_branch, .inl (kI, 144, .inl f_n_branch)), (n_tally, .inl (kI, 12, .inl f_n_tally'))]) A) args0 s 0 0 A) (F0 m 7 ls []) := by
    intro n
    induction n with
    | zero => intro g7_5 v7_loc2 H locs ls hm7; exact absurd hm7 (Nat.not_lt_zero _)
    | succ n ih7 =>
      intro g7_5 v7_loc2 H locs ls hm7 h7_1 hP hD hS hl
      have hJ30 : ∀ (n : Nat) (v30_loc3 : Int32) (v30_loc4 : Int32) (H : Heap) (locs : List Loc) (ls : Array Slot), (4 - v30_loc4.toInt).toNat < n → iv 0 11 v7_loc2 → iv 0 4 v30_loc4 → va_P (dC, dI) vwCl [(on, .inr (2, oX2 n_kind n_salt n_pace n_manner n_from n_to n_goal n_reach n_branches n_branch n_tally x_n)), (n_to, .inl (kI, 20, .inl f_n_to)), (n_goal, .inl (kI, 3, .inl f_n_goal)), (n_branches, .inl (kI, 36, .inl f_n_branches)), (n_branch, .inl (kI, 144, .inl f_n_branch)), (n_tally, .inl (kI, 12, .inl g7_5))] H → va_D A [(on, .inr (2, oX2 n_kind n_salt n_pace n_manner n_from n_to n_goal n_reach n_branches n_branch n_tally x_n)), (n_to, .inl (kI, 20, .inl f_n_to)), (n_goal, .inl (kI, 3, .inl f_n_goal)), (n_branches, .inl (kI, 36, .inl f_n_branches)), (n_branch, .inl (kI, 144, .inl f_n_branch)), (n_tally, .inl (kI, 12, .inl g7_5))] → va_S A s.heap H locs → lv_has ls 5 [(0, .ref on), (1, .int p0), (2, .int v7_loc2), (3, .int v30_loc3), (4, .int v30_loc4)] → W p l e (headSpec wsX2_waysTo rm_s2_waysTo).room s m args0 below meth c H locs (0) (0) (MQ below (va_Qi (fun (r : Int32) (_ : Unit) => True) (fun _ t => ∃ (f_n_tally' : Nat → Int32), va_P (dC, dI) vwCl [(on, .inr (2, oX2 n_kind n_salt n_pace n_manner n_from n_to n_goal n_reach n_branches n_branch n_tally x_n)), (n_to, .inl (kI, 20, .inl f_n_to)), (n_goal, .inl (kI, 3, .inl f_n_goal)), (n_branches, .inl (kI, 36, .inl f_n_branches)), (n_branch, .inl (kI, 144, .inl f_n_branch)), (n_tally, .inl (kI, 12, .inl f_n_tally'))] t.heap ∧ va_D A [(on, .inr (2, oX2 n_kind n_salt n_pace n_manner n_from n_to n_goal n_reach n_branches n_branch n_tally x_n)), (n_to, .inl (kI, 20, .inl f_n_to)), (n_goal, .inl (kI, 3, .inl f_n_goal)), (n_branches, .inl (kI, 36, .inl f_n_branches)), (n_branch, .inl (kI, 144, .inl f_n_branch)), (n_tally, .inl (kI, 12, .inl f_n_tally'))]) A) args0 s 0 0 A) (F0 m 30 ls []) := by
        intro n
        induction n with
        | zero => intro v30_loc3 v30_loc4 H locs ls hm30; exact absurd hm30 (Nat.not_lt_zero _)
        | succ n ih30 =>
          intro v30_loc3 v30_loc4 H locs ls hm30 h30_1 h30_2 hP hD hS hl
          refine lv_iload hx hb dX2_waysTo_30 (lv_at hl 4 rfl) ?_
          refine lv_aload_n hx hb dX2_waysTo_32 rfl (lv_at hl 0 rfl) ?_
          refine lv_iload_n hx hb dX2_waysTo_33 rfl (lv_at hl 2 rfl) ?_
          refine lv_iload_n hx hb dX2_waysTo_34 rfl (lv_at hl 1 rfl) ?_
          obtain ⟨hPc, hDc, hFc, hJn⟩ := cl_a (wc := [(on, .inr (2, oX2 n_kind n_salt n_pace n_manner n_from n_to n_goal n_reach n_branches n_branch n_tally x_n)), (n_branches, .inl (kI, 36, .inl f_n_branches))]) (wr := [(n_to, .inl (kI, 20, .inl f_n_to)), (n_goal, .inl (kI, 3, .inl f_n_goal)), (n_branch, .inl (kI, 144, .inl f_n_branch)), (n_tally, .inl (kI, 12, .inl g7_5))]) hP hD hS hA [0, 3] [1, 2, 4, 5] rfl rfl (by decide +kernel)
          refine va_calli (va_runV (As := [.int v7_loc2, .int p0]) (rest := [.int v30_loc4]) ⟨hx, hb, hml, hown, hts⟩ (s2_branchesOf l dC dI kB kI kJ kZ kC kS H.size on n_kind n_salt n_pace n_manner n_from n_to n_goal n_reach n_branches n_branch n_tally x_n f_n_branches v7_loc2 p0 (hx_n) (hf_n_branches) (h30_1) (hp0)) (cwV 2 hts gX2_waysTo_X2_branchesOf rfl rfl rfl (by decide +kernel) ⟨Nat.le_of_ble_eq_true rfl, Nat.le_of_ble_eq_true rfl⟩) ⟨fun a U g mk q => by obtain ⟨q0, q1, qP, qE, qD⟩ := q; exact ⟨q0, q1, qP, kE_call qE, qD⟩, va_recv hK hP (ci := 2) (q0 := 0) rfl rfl, fun U hU hW => ⟨rfl, by rw [hU], by rw [hU]; exact hPc, kE_warm hW hE, hDc.weaken (fun _ _ _ _ => trivial)⟩⟩ rfl rfl hl.1 rfl (lv_room (Nat.le_of_ble_eq_true rfl)) dX2_waysTo_35 ⟨Nat.le_of_ble_eq_true rfl, Nat.le_of_ble_eq_true rfl⟩) hS (fun q _ h => hFc q h) hFc (fun r1 u t H locs ht hvm w2 hB hz1 hk1 hS => ?_)
          obtain ⟨hP1, hD1⟩ := hB
          try dsimp only at w2
          obtain ⟨hPa, hDa⟩ := hJn (w1 := [(on, .inr (2, oX2 n_kind n_salt n_pace n_manner n_from n_to n_goal n_reach n_branches n_branch n_tally x_n)), (n_branches, .inl (kI, 36, .inl f_n_branches))]) hk1 ht hP1 hD1
          clear hP hD hPc hDc hFc hJn hP1 hD1 hk1
          have hP : va_P (dC, dI) vwCl [(n_to, .inl (kI, 20, .inl f_n_to)), (n_goal, .inl (kI, 3, .inl f_n_goal)), (n_branch, .inl (kI, 144, .inl f_n_branch)), (n_tally, .inl (kI, 12, .inl g7_5)), (on, .inr (2, oX2 n_kind n_salt n_pace n_manner n_from n_to n_goal n_reach n_branches n_branch n_tally x_n)), (n_branches, .inl (kI, 36, .inl f_n_branches))] H := hPa
          have hD : va_D A [(n_to, .inl (kI, 20, .inl f_n_to)), (n_goal, .inl (kI, 3, .inl f_n_goal)), (n_branch, .inl (kI, 144, .inl f_n_branch)), (n_tally, .inl (kI, 12, .inl g7_5)), (on, .inr (2, oX2 n_kind n_salt n_pace n_manner n_from n_to n_goal n_reach n_branches n_branch n_tally x_n)), (n_branches, .inl (kI, 36, .inl f_n_branches))] := hDa
          clear hPa hDa
          refine W.widen (k := 0) (n := 0) (Nat.le_of_ble_eq_true rfl) (Nat.le_of_ble_eq_true rfl) ?_
          refine lv_icmp_ge (tgt := 68) hx hb dX2_waysTo_38 rfl (fun c3 => ?_) (fun c3 => ?_)
          · refine lv_aload_n hx hb dX2_waysTo_68 rfl (lv_at hl 0 rfl) ?_
            refine va_get (D := (dC, dI)) (ci := 2) (v := .ref n_tally) (C := RX2) (T := TX2) (N := 15) hx hb hts hin2 hown hK hP 4 rfl rfl 14 (Nat.le_of_ble_eq_true rfl) hw_0 (fun _ h9 => h9) rfl dX2_waysTo_69 ?_
            refine lv_iload_n hx hb dX2_waysTo_72 rfl (lv_at hl 2 rfl) ?_
            refine lv_iload_n hx hb dX2_waysTo_73 rfl (lv_at hl 3 rfl) ?_
            refine va_iast hx hb hK hP hD hS 3 1 rfl rfl (iv_in h30_1 (by decide) (by decide)) dX2_waysTo_74 (fun H locs hPa hDa hS => ?_)
            clear hP hD
            have hP : va_P (dC, dI) vwCl [(n_to, .inl (kI, 20, .inl f_n_to)), (n_goal, .inl (kI, 3, .inl f_n_goal)), (n_branch, .inl (kI, 144, .inl f_n_branch)), (n_tally, .inl (kI, 12, .inl (upd g7_5 v7_loc2.toNatClampNeg v30_loc3))), (on, .inr (2, oX2 n_kind n_salt n_pace n_manner n_from n_to n_goal n_reach n_branches n_branch n_tally x_n)), (n_branches, .inl (kI, 36, .inl f_n_branches))] H := hPa
            have hD : va_D A [(n_to, .inl (kI, 20, .inl f_n_to)), (n_goal, .inl (kI, 3, .inl f_n_goal)), (n_branch, .inl (kI, 144, .inl f_n_branch)), (n_tally, .inl (kI, 12, .inl (upd g7_5 v7_loc2.toNatClampNeg v30_loc3))), (on, .inr (2, oX2 n_kind n_salt n_pace n_manner n_from n_to n_goal n_reach n_branches n_branch n_tally x_n)), (n_branches, .inl (kI, 36, .inl f_n_branches))] := hDa
            clear hPa hDa
            generalize (upd g7_5 v7_loc2.toNatClampNeg v30_loc3) = f4 at hP hD
            refine lv_iinc (v := v7_loc2 + Int32.ofInt (-1)) (lv' := [(2, .int (v7_loc2 + Int32.ofInt (-1))), (0, .ref on), (1, .int p0), (3, .int v30_loc3), (4, .int v30_loc4)]) hx hb dX2_waysTo_75 hl (k := 2) rfl (rfl) (Nat.le_of_ble_eq_true rfl) rfl (fun ls hl => ?_)
            have b5 : iv (-1) 10 (v7_loc2 + Int32.ofInt (-1)) := iv_add h30_1 ivo_m1 (by decide) (by decide) (by decide) (by decide)
            refine lv_goto (tgt := 7) hx hb dX2_waysTo_78 rfl ?_
            have hPD9 := cl_s (wc := [(on, .inr (2, oX2 n_kind n_salt n_pace n_manner n_from n_to n_goal n_reach n_branches n_branch n_tally x_n)), (n_to, .inl (kI, 20, .inl f_n_to)), (n_goal, .inl (kI, 3, .inl f_n_goal)), (n_branches, .inl (kI, 36, .inl f_n_branches)), (n_branch, .inl (kI, 144, .inl f_n_branch)), (n_tally, .inl (kI, 12, .inl f4))]) hP hD [4, 0, 1, 5, 2, 3] rfl (by decide +kernel)
            exact ih7 f4 (v7_loc2 + Int32.ofInt (-1)) _ _ _ (ms_dn (c := 1) (d := 0) h30_1 hm7 (by decide) (iv_inc (-1) h30_1 (by decide) (by decide) (by decide) (by decide)) (by decide) rfl) ((iv_w b5 (by decide) (by decide))) (hPD9.1) (hPD9.2) hS (lv_sub hl [1, 2, 0] rfl)
          · have b6 : iv 0 3 v30_loc4 := iv_ltL (Int32.not_le.mp c3) h30_2 w2 (by decide) (by decide)
            have b7 : iv 1 4 r1 := iv_ltR (Int32.not_le.mp c3) h30_2 w2 (by decide) (by decide)
            refine lv_iload_n hx hb dX2_waysTo_41 rfl (lv_at hl 3 rfl) ?_
            refine lv_aload_n hx hb dX2_waysTo_42 rfl (lv_at hl 0 rfl) ?_
            refine va_get (D := (dC, dI)) (ci := 2) (v := .ref n_tally) (C := RX2) (T := TX2) (N := 15) hx hb hts hin2 hown hK hP 4 rfl rfl 14 (Nat.le_of_ble_eq_true rfl) hw_0 (fun _ h9 => h9) rfl dX2_waysTo_43 ?_
            refine lv_aload_n hx hb dX2_waysTo_46 rfl (lv_at hl 0 rfl) ?_
            refine va_get (D := (dC, dI)) (ci := 2) (v := .ref n_to) (C := RX2) (T := TX2) (N := 15) hx hb hts hin2 hown hK hP 4 rfl rfl 5 (Nat.le_of_ble_eq_true rfl) hw_1 (fun _ h9 => h9) rfl dX2_waysTo_47 ?_
            refine lv_aload_n hx hb dX2_waysTo_50 rfl (lv_at hl 0 rfl) ?_
            refine lv_iload_n hx hb dX2_waysTo_51 rfl (lv_at hl 2 rfl) ?_
            refine lv_iload_n hx hb dX2_waysTo_52 rfl (lv_at hl 1 rfl) ?_
            refine lv_iload hx hb dX2_waysTo_53 (lv_at hl 4 rfl) ?_
            obtain ⟨hPc, hDc, hFc, hJn⟩ := cl_a (wc := [(on, .inr (2, oX2 n_kind n_salt n_pace n_manner n_from n_to n_goal n_reach n_branches n_branch n_tally x_n)), (n_branch, .inl (kI, 144, .inl f_n_branch))]) (wr := [(n_to, .inl (kI, 20, .inl f_n_to)), (n_goal, .inl (kI, 3, .inl f_n_goal)), (n_tally, .inl (kI, 12, .inl g7_5)), (n_branches, .inl (kI, 36, .inl f_n_branches))]) hP hD hS hA [4, 2] [0, 1, 3, 5] rfl rfl (by decide +kernel)
            refine va_calli (va_runV (As := [.int v7_loc2, .int p0, .int v30_loc4]) (rest := [.ref n_to, .ref n_tally, .int v30_loc3]) ⟨hx, hb, hml, hown, hts⟩ (s2_branchOf l dC dI kB kI kJ kZ kC kS H.size on n_kind n_salt n_pace n_manner n_from n_to n_goal n_reach n_branches n_branch n_tally x_n f_n_branch v7_loc2 p0 v30_loc4 (hx_n) (hf_n_branch) (h30_1) (hp0) (b6)) (cwV 3 hts gX2_waysTo_X2_branchOf rfl rfl rfl (by decide +kernel) ⟨Nat.le_of_ble_eq_true rfl, Nat.le_of_ble_eq_true rfl⟩) ⟨fun a U g mk q => by obtain ⟨q0, q1, qP, qE, qD⟩ := q; exact ⟨q0, q1, qP, kE_call qE, qD⟩, va_recv hK hP (ci := 2) (q0 := 4) rfl rfl, fun U hU hW => ⟨rfl, by rw [hU], by rw [hU]; exact hPc, kE_warm hW hE, hDc.weaken (fun _ _ _ _ => trivial)⟩⟩ rfl rfl hl.1 rfl (lv_room (Nat.le_of_ble_eq_true rfl)) dX2_waysTo_55 ⟨Nat.le_of_ble_eq_true rfl, Nat.le_of_ble_eq_true rfl⟩) hS (fun q _ h => hFc q h) hFc (fun r8 u t H locs ht hvm w9 hB hz1 hk1 hS => ?_)
            obtain ⟨hP1, hD1⟩ := hB
            try dsimp only at w9
            obtain ⟨hPa, hDa⟩ := hJn (w1 := [(on, .inr (2, oX2 n_kind n_salt n_pace n_manner n_from n_to n_goal n_reach n_branches n_branch n_tally x_n)), (n_branch, .inl (kI, 144, .inl f_n_branch))]) hk1 ht hP1 hD1
            clear hP hD hPc hDc hFc hJn hP1 hD1 hk1
            have hP : va_P (dC, dI) vwCl [(n_to, .inl (kI, 20, .inl f_n_to)), (n_goal, .inl (kI, 3, .inl f_n_goal)), (n_tally, .inl (kI, 12, .inl g7_5)), (n_branches, .inl (kI, 36, .inl f_n_branches)), (on, .inr (2, oX2 n_kind n_salt n_pace n_manner n_from n_to n_goal n_reach n_branches n_branch n_tally x_n)), (n_branch, .inl (kI, 144, .inl f_n_branch))] H := hPa
            have hD : va_D A [(n_to, .inl (kI, 20, .inl f_n_to)), (n_goal, .inl (kI, 3, .inl f_n_goal)), (n_tally, .inl (kI, 12, .inl g7_5)), (n_branches, .inl (kI, 36, .inl f_n_branches)), (on, .inr (2, oX2 n_kind n_salt n_pace n_manner n_from n_to n_goal n_reach n_branches n_branch n_tally x_n)), (n_branch, .inl (kI, 144, .inl f_n_branch))] := hDa
            clear hPa hDa
            refine W.widen (k := 0) (n := 0) (Nat.le_of_ble_eq_true rfl) (Nat.le_of_ble_eq_true rfl) ?_
            refine va_iald hx hb hK hP 0 1 rfl rfl (iv_in w9 (by decide) (by decide)) dX2_waysTo_58 ?_
            refine iv_top (a := 0) (b := 11) (hf_n_to _) (fun z10 b11 => ?_)
            refine va_iald hx hb hK hP 2 1 rfl rfl (iv_in b11 (by decide) (by decide)) dX2_waysTo_59 ?_
            refine lv_topi (fun z12 _ => ?_)
            refine lv_iadd hx hb dX2_waysTo_60 ?_
            refine lv_topi (fun z13 _ => ?_)
            refine lv_istore_n (lv' := [(3, .int z13), (0, .ref on), (1, .int p0), (2, .int v7_loc2), (4, .int v30_loc4)]) hx hb dX2_waysTo_61 rfl hl (Nat.le_of_ble_eq_true rfl) rfl (fun ls hl => ?_)
            refine lv_iinc (v := v30_loc4 + Int32.ofInt 1) (lv' := [(4, .int (v30_loc4 + Int32.ofInt 1)), (3, .int z13), (0, .ref on), (1, .int p0), (2, .int v7_loc2)]) hx hb dX2_waysTo_62 hl (k := 4) rfl (rfl) (Nat.le_of_ble_eq_true rfl) rfl (fun ls hl => ?_)
            have b14 : iv 1 4 (v30_loc4 + Int32.ofInt 1) := iv_add b6 ivo_1 (by decide) (by decide) (by decide) (by decide)
            refine lv_goto (tgt := 30) hx hb dX2_waysTo_65 rfl ?_
            have hPD9 := cl_s (wc := [(on, .inr (2, oX2 n_kind n_salt n_pace n_manner n_from n_to n_goal n_reach n_branches n_branch n_tally x_n)), (n_to, .inl (kI, 20, .inl f_n_to)), (n_goal, .inl (kI, 3, .inl f_n_goal)), (n_branches, .inl (kI, 36, .inl f_n_branches)), (n_branch, .inl (kI, 144, .inl f_n_branch)), (n_tally, .inl (kI, 12, .inl g7_5))]) hP hD [4, 0, 1, 3, 5, 2] rfl (by decide +kernel)
            exact ih30 z13 (v30_loc4 + Int32.ofInt 1) _ _ _ (ms_up (c := 1) (d := 0) b6 hm30 (by decide) (iv_inc 1 b6 (by decide) (by decide) (by decide) (by decide)) (by decide) rfl) (h30_1) ((iv_w b14 (by decide) (by decide))) (hPD9.1) (hPD9.2) hS (lv_sub hl [2, 3, 4, 1, 0] rfl)
      have hJ26 : ∀ (v26_stk0 : Int32) (H : Heap) (locs : List Loc) (ls : Array Slot), iv 0 11 v7_loc2 → iv 0 1 v26_stk0 → va_P (dC, dI) vwCl [(on, .inr (2, oX2 n_kind n_salt n_pace n_manner n_from n_to n_goal n_reach n_branches n_branch n_tally x_n)), (n_to, .inl (kI, 20, .inl f_n_to)), (n_goal, .inl (kI, 3, .inl f_n_goal)), (n_branches, .inl (kI, 36, .inl f_n_branches)), (n_branch, .inl (kI, 144, .inl f_n_branch)), (n_tally, .inl (kI, 12, .inl g7_5))] H → va_D A [(on, .inr (2, oX2 n_kind n_salt n_pace n_manner n_from n_to n_goal n_reach n_branches n_branch n_tally x_n)), (n_to, .inl (kI, 20, .inl f_n_to)), (n_goal, .inl (kI, 3, .inl f_n_goal)), (n_branches, .inl (kI, 36, .inl f_n_branches)), (n_branch, .inl (kI, 144, .inl f_n_branch)), (n_tally, .inl (kI, 12, .inl g7_5))] → va_S A s.heap H locs → lv_has ls 5 [(0, .ref on), (1, .int p0), (2, .int v7_loc2)] → W p l e (headSpec wsX2_waysTo rm_s2_waysTo).room s m args0 below meth c H locs (0) (0) (MQ below (va_Qi (fun (r : Int32) (_ : Unit) => True) (fun _ t => ∃ (f_n_tally' : Nat → Int32), va_P (dC, dI) vwCl [(on, .inr (2, oX2 n_kind n_salt n_pace n_manner n_from n_to n_goal n_reach n_branches n_branch n_tally x_n)), (n_to, .inl (kI, 20, .inl f_n_to)), (n_goal, .inl (kI, 3, .inl f_n_goal)), (n_branches, .inl (kI, 36, .inl f_n_branches)), (n_branch, .inl (kI, 144, .inl f_n_branch)), (n_tally, .inl (kI, 12, .inl f_n_tally'))] t.heap ∧ va_D A [(on, .inr (2, oX2 n_kind n_salt n_pace n_manner n_from n_to n_goal n_reach n_branches n_branch n_tally x_n)), (n_to, .inl (kI, 20, .inl f_n_to)), (n_goal, .inl (kI, 3, .inl f_n_goal)), (n_branches, .inl (kI, 36, .inl f_n_branches)), (n_branch, .inl (kI, 144, .inl f_n_branch)), (n_tally, .inl (kI, 12, .inl f_n_tally'))]) A) args0 s 0 0 A) (F0 m 26 ls [.int v26_stk0]) := by
        intro v26_stk0 H locs ls h26_1 h26_2 hP hD hS hl
        refine lv_istore_n (lv' := [(3, .int v26_stk0), (0, .ref on), (1, .int p0), (2, .int v7_loc2)]) hx hb dX2_waysTo_26 rfl hl (Nat.le_of_ble_eq_true rfl) rfl (fun ls hl => ?_)
        refine lv_iconst (v := 0) hx hb dX2_waysTo_27 ic_0 ?_
        refine lv_istore (lv' := [(4, .int 0), (3, .int v26_stk0), (0, .ref on), (1, .int p0), (2, .int v7_loc2)]) hx hb dX2_waysTo_28 hl (Nat.le_of_ble_eq_true rfl) rfl (fun ls hl => ?_)
        exact hJ30 _ v26_stk0 0 _ _ _ (Nat.lt_succ_self _) (h26_1) ((iv_w ivk_0 (by decide) (by decide))) (hP) (hD) hS (lv_sub hl [2, 3, 4, 1, 0] rfl)
      refine lv_iload_n hx hb dX2_waysTo_7 rfl (lv_at hl 2 rfl) ?_
      refine lv_if_lt (tgt := 81) hx hb dX2_waysTo_8 rfl (fun c15 => ?_) (fun c15 => ?_)
      · have b16 : iv (-1) (-1) v7_loc2 := iv_ltL c15 h7_1 ivk_0 (by decide) (by decide)
        refine lv_aload_n hx hb dX2_waysTo_81 rfl (lv_at hl 0 rfl) ?_
        refine va_get (D := (dC, dI)) (ci := 2) (v := .ref n_tally) (C := RX2) (T := TX2) (N := 15) hx hb hts hin2 hown hK hP 0 rfl rfl 14 (Nat.le_of_ble_eq_true rfl) hw_0 (fun _ h9 => h9) rfl dX2_waysTo_82 ?_
        refine lv_iconst (v := 0) hx hb dX2_waysTo_85 ic_0 ?_
        refine va_iald hx hb hK hP 5 1 rfl rfl (vp_in_nI (n := 0) (by decide) (by decide)) dX2_waysTo_86 ?_
        refine W.eq (g2 := F0 m 87 ls [.int (g7_5 0)]) rfl ?_
        have hP9 := hP
        have hD9 := hD
        exact W.iret (v := g7_5 0) hx hb hr (fun t ht hW => ⟨⟨g7_5 0, (), rfl, trivial, g7_5, by rw [ht]; exact hP9, hD9⟩, hS.F ht⟩) hS.2.2 dX2_waysTo_87
      · have b17 : iv 0 11 v7_loc2 := iv_leR (Int32.not_lt.mp c15) ivk_0 h7_1 (by decide) (by decide)
        refine lv_iload_n hx hb dX2_waysTo_11 rfl (lv_at hl 2 rfl) ?_
        refine lv_aload_n hx hb dX2_waysTo_12 rfl (lv_at hl 0 rfl) ?_
        refine va_get (D := (dC, dI)) (ci := 2) (v := .ref n_goal) (C := RX2) (T := TX2) (N := 15) hx hb hts hin2 hown hK hP 0 rfl rfl 6 (Nat.le_of_ble_eq_true rfl) hw_2 (fun _ h9 => h9) rfl dX2_waysTo_13 ?_
        refine lv_iload_n hx hb dX2_waysTo_16 rfl (lv_at hl 1 rfl) ?_
        refine va_iald hx hb hK hP 2 1 rfl rfl (iv_in hp0 (by decide) (by decide)) dX2_waysTo_17 ?_
        refine iv_top (a := 0) (b := 11) (hf_n_goal _) (fun z18 b19 => ?_)
        refine lv_icmp_ne (tgt := 25) hx hb dX2_waysTo_18 rfl (fun c20 => ?_) (fun c20 => ?_)
        · refine lv_iconst (v := 0) hx hb dX2_waysTo_25 ic_0 ?_
          exact hJ26 0 _ _ _ (b17) ((iv_w ivk_0 (by decide) (by decide))) (hP) (hD) hS (lv_sub hl [0, 1, 2] rfl)
        · refine lv_iconst (v := 1) hx hb dX2_waysTo_21 ic_1 ?_
          refine lv_goto (tgt := 26) hx hb dX2_waysTo_22 rfl ?_
          exact hJ26 1 _ _ _ (b17) ((iv_w ivk_1 (by decide) (by decide))) (hP) (hD) hS (lv_sub hl [0, 1, 2] rfl)
  refine lv_aload_n hx hb dX2_waysTo_0 rfl (lv_at hl 0 rfl) ?_
  refine va_get (D := (dC, dI)) (ci := 2) (v := .int (x_n 0)) (C := RX2) (T := TX2) (N := 15) hx hb hts hin2 hown hK hP 0 rfl rfl 7 (Nat.le_of_ble_eq_true rfl) hw_3 (fun _ h9 => h9) rfl dX2_waysTo_1 ?_
  refine lv_iconst (v := 1) hx hb dX2_waysTo_4 ic_1 ?_
  refine lv_isub hx hb dX2_waysTo_5 ?_
  refine iv_top (a := (-1)) (b := 11) (iv_sub (hx_n 0 : iv 0 12 (x_n 0)) ivk_1 (by decide) (by decide) (by decide) (by decide)) (fun z21 b22 => ?_)
  refine lv_istore_n (lv' := [(2, .int z21), (0, .ref on), (1, .int p0)]) hx hb dX2_waysTo_6 rfl hl (Nat.le_of_ble_eq_true rfl) rfl (fun ls hl => ?_)
  exact hJ7 _ f_n_tally z21 _ _ _ (Nat.lt_succ_self _) (b22) (hP) (hD) hS (lv_sub hl [1, 2, 0] rfl)
def rm_s2_longestTo : Room := { frames := 1, cells := 0, slots := 0, locals := 23 }
set_option maxHeartbeats 4000000 in
set_option maxRecDepth 100000 in
theorem s2_longestTo (l : Launch) (dC : Nat → ClassId) (dI : Nat → Nat → Nat) (kB kI kJ kZ kC kS : ClassId) (sz : Nat) (on : Nat) (n_kind : Nat) (n_salt : Nat) (n_pace : Nat) (n_manner : Nat) (n_from : Nat) (n_to : Nat) (n_goal : Nat) (n_reach : Nat) (n_branches : Nat) (n_branch : Nat) (n_tally : Nat) (x_n : Nat → Int32) (f_n_to : Nat → Int32) (f_n_goal : Nat → Int32) (f_n_branches : Nat → Int32) (f_n_branch : Nat → Int32) (f_n_tally : Nat → Int32) (p0 : Int32) (hx_n : fI lX2 hX2 x_n) (hf_n_to : fI (fun _ => 0) (fun _ => 11) f_n_to) (hf_n_goal : fI (fun _ => 0) (fun _ => 11) f_n_goal) (hf_n_branches : fI (fun _ => 0) (fun _ => 4) f_n_branches) (hf_n_branch : fI (fun _ => 0) (fun _ => 19) f_n_branch) (hp0 : iv 0 2 p0) : Met l yX2_longestTo wsX2_longestTo rm_s2_longestTo (va_Pc [.ref on, .int p0] (fun U => U.heap.size = sz ∧ va_P (dC, dI) vwCl [(on, .inr (2, oX2 n_kind n_salt n_pace n_manner n_from n_to n_goal n_reach n_branches n_branch n_tally x_n)), (n_to, .inl (kI, 20, .inl f_n_to)), (n_goal, .inl (kI, 3, .inl f_n_goal)), (n_branches, .inl (kI, 36, .inl f_n_branches)), (n_branch, .inl (kI, 144, .inl f_n_branch)), (n_tally, .inl (kI, 12, .inl f_n_tally))] U.heap ∧ kE dC dI kB kI kJ kZ kC kS U ∧ va_D (fun _ => True) [(on, .inr (2, oX2 n_kind n_salt n_pace n_manner n_from n_to n_goal n_reach n_branches n_branch n_tally x_n)), (n_to, .inl (kI, 20, .inl f_n_to)), (n_goal, .inl (kI, 3, .inl f_n_goal)), (n_branches, .inl (kI, 36, .inl f_n_branches)), (n_branch, .inl (kI, 144, .inl f_n_branch)), (n_tally, .inl (kI, 12, .inl f_n_tally))])) (va_Qi (fun (r : Int32) (_ : Unit) => True) (fun _ t => ∃ (f_n_tally' : Nat → Int32), va_P (dC, dI) vwCl [(on, .inr (2, oX2 n_kind n_salt n_pace n_manner n_from n_to n_goal n_reach n_branches n_branch n_tally x_n)), (n_to, .inl (kI, 20, .inl f_n_to)), (n_goal, .inl (kI, 3, .inl f_n_goal)), (n_branches, .inl (kI, 36, .inl f_n_branches)), (n_branch, .inl (kI, 144, .inl f_n_branch)), (n_tally, .inl (kI, 12, .inl f_n_tally'))] t.heap ∧ va_D (va_A [(on, .inr (2, oX2 n_kind n_salt n_pace n_manner n_from n_to n_goal n_reach n_branches n_branch n_tally x_n)), (n_to, .inl (kI, 20, .inl f_n_to)), (n_goal, .inl (kI, 3, .inl f_n_goal)), (n_branches, .inl (kI, 36, .inl f_n_branches)), (n_branch, .inl (kI, 144, .inl f_n_branch)), (n_tally, .inl (kI, 12, .inl f_n_tally))] sz) [(on, .inr (2, oX2 n_kind n_salt n_pace n_manner n_from n_to n_goal n_reach n_branches n_branch n_tally x_n)), (n_to, .inl (kI, 20, .inl f_n_to)), (n_goal, .inl (kI, 3, .inl f_n_goal)), (n_branches, .inl (kI, 36, .inl f_n_branches)), (n_branch, .inl (kI, 144, .inl f_n_branch)), (n_tally, .inl (kI, 12, .inl f_n_tally'))]) (va_A [(on, .inr (2, oX2 n_kind n_salt n_pace n_manner n_from n_to n_goal n_reach n_branches n_branch n_tally x_n)), (n_to, .inl (kI, 20, .inl f_n_to)), (n_goal, .inl (kI, 3, .inl f_n_goal)), (n_branches, .inl (kI, 36, .inl f_n_branches)), (n_branch, .inl (kI, 144, .inl f_n_branch)), (n_tally, .inl (kI, 12, .inl f_n_tally))] sz)) 0 0 (va_A [(on, .inr (2, oX2 n_kind n_salt n_pace n_manner n_from n_to n_goal n_reach n_branches n_branch n_tally x_n)), (n_to, .inl (kI, 20, .inl f_n_to)), (n_goal, .inl (kI, 3, .inl f_n_goal)), (n_branches, .inl (kI, 36, .inl f_n_branches)), (n_branch, .inl (kI, 144, .inl f_n_branch)), (n_tally, .inl (kI, 12, .inl f_n_tally))] sz) := by
  refine Met.ofW (cc := cX2_longestTo) (maxL := 5) (ret := (some .int)) (by decide) rfl ?_
  intro p e s m args0 below meth c s₁ B hml hv
  obtain ⟨hargs, hsz, hP, hE, hD0⟩ := hv
  have hx := B.exec
  have hb := B.bytes
  have hr := B.returns
  have hts := atoms_spec (ws := wsX2_longestTo) B.pre
  have hown : s.vm.findClass RX2 = some m.cls := findClass_of_methodNamed B.named
  have hlocks := B.notSynchronized
  have hK := hE.1
  have hin2 : ∀ w ∈ wsX20, w ∈ wsX2_longestTo := fun _ h9 => List.mem_cons_of_mem _ (List.mem_append_right _ h9)
  have hw_0 := hts (.fieldLink RX2 55 "PathProber$Net" "tally" "[I") (List.mem_of_getElem? (i := 3) rfl)
  have hw_1 := hts (.fieldLink RX2 27 "PathProber$Net" "to" "[I") (List.mem_of_getElem? (i := 4) rfl)
  have hw_2 := hts (.methodLink RX2 83 Lib.Math.max.name) (List.mem_of_getElem? (i := 5) rfl)
  have hw_3 := hts (.static Lib.Math.max.name) (List.mem_of_getElem? (i := 6) rfl)
  have hw_4 := hts (.initialized "java/lang/Math") (List.mem_of_getElem? (i := 7) rfl)
  have hw_5 := hts (.code Lib.Math.max.name Lib.Math.max.code 2 (some .int)) (List.mem_of_getElem? (i := 8) rfl)
  have hw_6 := hts (.fieldLink RX2 30 "PathProber$Net" "goal" "[I") (List.mem_of_getElem? (i := 2) rfl)
  have hw_7 := hts (.fieldLink RX2 33 "PathProber$Net" "routers" "I") (List.mem_of_getElem? (i := 1) rfl)
  subst hsz
  have hD := hD0.self (sz := s.heap.size)
  generalize hAe : va_A [(on, .inr (2, oX2 n_kind n_salt n_pace n_manner n_from n_to n_goal n_reach n_branches n_branch n_tally x_n)), (n_to, .inl (kI, 20, .inl f_n_to)), (n_goal, .inl (kI, 3, .inl f_n_goal)), (n_branches, .inl (kI, 36, .inl f_n_branches)), (n_branch, .inl (kI, 144, .inl f_n_branch)), (n_tally, .inl (kI, 12, .inl f_n_tally))] s.heap.size = A at hD ⊢
  have hA : ∀ q : Nat, s.heap.size ≤ q → A q := fun q h => by rw [← hAe]; exact Or.inr h
  have hS : va_S A s.heap s.heap [] := va_S.rf
  have hP : va_P (dC, dI) vwCl [(on, .inr (2, oX2 n_kind n_salt n_pace n_manner n_from n_to n_goal n_reach n_branches n_branch n_tally x_n)), (n_to, .inl (kI, 20, .inl f_n_to)), (n_goal, .inl (kI, 3, .inl f_n_goal)), (n_branches, .inl (kI, 36, .inl f_n_branches)), (n_branch, .inl (kI, 144, .inl f_n_branch)), (n_tally, .inl (kI, 12, .inl f_n_tally))] s.heap := hP
  have hl := lv_entry ([.ref on, .int p0]) (n := 5) (Nat.le_of_ble_eq_true rfl)
  have hla : entryFrame m args0 5 = entryFrame m ([.ref on, .int p0] : List Value).toArray 5 := by rw [hargs]
  rw [hla, lg_entry_eq]
  generalize (lg_sl ([.ref on, .int p0]) ++ List.replicate (5 - (lg_sl ([.ref on, .int p0])).length) Slot.unset).toArray = ls at hl ⊢
  have hl : lv_has ls 5 [(0, .ref on), (1, .int p0)] := hl
  have hJ7 : ∀ (n : Nat) (g7_5 : Nat → Int32) (v7_loc2 : Int32) (H : Heap) (locs : List Loc) (ls : Array Slot), (v7_loc2.toInt - (-1)).toNat < n → iv (-1) 11 v7_loc2 → va_P (dC, dI) vwCl [(on, .inr (2, oX2 n_kind n_salt n_pace n_manner n_from n_to n_goal n_reach n_branches n_branch n_tally x_n)), (n_to, .inl (kI, 20, .inl f_n_to)), (n_goal, .inl (kI, 3, .inl f_n_goal)), (n_branches, .inl (kI, 36, .inl f_n_branches)), (n_branch, .inl (kI, 144, .inl f_n_branch)), (n_tally, .inl (kI, 12, .inl g7_5))] H → va_D A [(on, .inr (2, oX2 n_kind n_salt n_pace n_manner n_from n_to n_goal n_reach n_branches n_branch n_tally x_n)), (n_to, .inl (kI, 20, .inl f_n_to)), (n_goal, .inl (kI, 3, .inl f_n_goal)), (n_branches, .inl (kI, 36, .inl f_n_branches)), (n_branch, .inl (kI, 144, .inl f_n_branch)), (n_tally, .inl (kI, 12, .inl g7_5))] → va_S A s.heap H locs → lv_has ls 5 [(0, .ref on), (1, .int p0), (2, .int v7_loc2)] → W p l e (headSpec wsX2_longestTo rm_s2_longestTo).room s m args0 below meth c H locs (0) (0) (MQ below (va_Qi (fun (r : Int32) (_ : Unit) => True) (fun _ t => ∃ (f_n_tally' : Nat → Int32), va_P (dC, dI) vwCl [(on, .inr (2, oX2 n_kind n_salt n_pace n_manner n_from n_to n_goal n_reach n_branches n_branch n_tally x_n)), (n_to, .inl (kI, 20, .inl f_n_to)), (n_goal, .inl (kI, 3, .inl f_n_goal)), (n_branches, .inl (kI, 36, .inl f_n_branches)), (n_branch, .inl (kI, 144, .inl f_n_branch)), (n_tally, .inl (kI, 12, .inl f_n_tally'))] t.heap ∧ va_D A [(on, .inr (2, oX2 n_kind n_salt n_pace n_manner n_from n_to n_goal n_reach n_branches n_branch n_tally x_n)), (n_to, .inl (kI, 20, .inl f_n_to)), (n_goal, .inl (kI, 3, .inl f_n_goal)), (n_branches, .inl (kI, 36, .inl f_n_branches)), (n_branch, .inl (kI, 144, .inl f_n_branch)), (n_tally, .inl (kI, 12, .inl f_n_tally'))]) A) args0 s 0 0 A) (F0 m 7 ls []) := by
    intro n
    induction n with
    | zero => intro g7_5 v7_loc2 H locs ls hm7; exact absurd hm7 (Nat.not_lt_zero _)
    | succ n ih7 =>
      intro g7_5 v7_loc2 H locs ls hm7 h7_1 hP hD hS hl
      have hJ30 : ∀ (n : Nat) (v30_loc3 : Int32) (v30_loc4 : Int32) (H : Heap) (locs : List Loc) (ls : Array Slot), (4 - v30_loc4.toInt).toNat < n → iv 0 11 v7_loc2 → iv 0 2147483647 v30_loc3 → iv 0 4 v30_loc4 → va_P (dC, dI) vwCl [(on, .inr (2, oX2 n_kind n_salt n_pace n_manner n_from n_to n_goal n_reach n_branches n_branch n_tally x_n)), (n_to, .inl (kI, 20, .inl f_n_to)), (n_goal, .inl (kI, 3, .inl f_n_goal)), (n_branches, .inl (kI, 36, .inl f_n_branches)), (n_branch, .inl (kI, 144, .inl f_n_branch)), (n_tally, .inl (kI, 12, .inl g7_5))] H → va_D A [(on, .inr (2, oX2 n_kind n_salt n_pace n_manner n_from n_to n_goal n_reach n_branches n_branch n_tally x_n)), (n_to, .inl (kI, 20, .inl f_n_to)), (n_goal, .inl (kI, 3, .inl f_n_goal)), (n_branches, .inl (kI, 36, .inl f_n_branches)), (n_branch, .inl (kI, 144, .inl f_n_branch)), (n_tally, .inl (kI, 12, .inl g7_5))] → va_S A s.heap H locs → lv_has ls 5 [(0, .ref on), (1, .int p0), (2, .int v7_loc2), (3, .int v30_loc3), (4, .int v30_loc4)] → W p l e (headSpec wsX2_longestTo rm_s2_longestTo).room s m args0 below meth c H locs (0) (0) (MQ below (va_Qi (fun (r : Int32) (_ : Unit) => True) (fun _ t => ∃ (f_n_tally' : Nat → Int32), va_P (dC, dI) vwCl [(on, .inr (2, oX2 n_kind n_salt n_pace n_manner n_from n_to n_goal n_reach n_branches n_branch n_tally x_n)), (n_to, .inl (kI, 20, .inl f_n_to)), (n_goal, .inl (kI, 3, .inl f_n_goal)), (n_branches, .inl (kI, 36, .inl f_n_branches)), (n_branch, .inl (kI, 144, .inl f_n_branch)), (n_tally, .inl (kI, 12, .inl f_n_tally'))] t.heap ∧ va_D A [(on, .inr (2, oX2 n_kind n_salt n_pace n_manner n_from n_to n_goal n_reach n_branches n_branch n_tally x_n)), (n_to, .inl (kI, 20, .inl f_n_to)), (n_goal, .inl (kI, 3, .inl f_n_goal)), (n_branches, .inl (kI, 36, .inl f_n_branches)), (n_branch, .inl (kI, 144, .inl f_n_branch)), (n_tally, .inl (kI, 12, .inl f_n_tally'))]) A) args0 s 0 0 A) (F0 m 30 ls []) := by
        intro n
        induction n with
        | zero => intro v30_loc3 v30_loc4 H locs ls hm30; exact absurd hm30 (Nat.not_lt_zero _)
        | succ n ih30 =>
          intro v30_loc3 v30_loc4 H locs ls hm30 h30_1 h30_2 h30_3 hP hD hS hl
          refine lv_iload hx hb dX2_longestTo_30 (lv_at hl 4 rfl) ?_
          refine lv_aload_n hx hb dX2_longestTo_32 rfl (lv_at hl 0 rfl) ?_
          refine lv_iload_n hx hb dX2_longestTo_33 rfl (lv_at hl 2 rfl) ?_
          refine lv_iload_n hx hb dX2_longestTo_34 rfl (lv_at hl 1 rfl) ?_
          obtain ⟨hPc, hDc, hFc, hJn⟩ := cl_a (wc := [(on, .inr (2, oX2 n_kind n_salt n_pace n_manner n_from n_to n_goal n_reach n_branches n_branch n_tally x_n)), (n_branches, .inl (kI, 36, .inl f_n_branches))]) (wr := [(n_to, .inl (kI, 20, .inl f_n_to)), (n_goal, .inl (kI, 3, .inl f_n_goal)), (n_branch, .inl (kI, 144, .inl f_n_branch)), (n_tally, .inl (kI, 12, .inl g7_5))]) hP hD hS hA [0, 3] [1, 2, 4, 5] rfl rfl (by decide +kernel)
          refine va_calli (va_runV (As := [.int v7_loc2, .int p0]) (rest := [.int v30_loc4]) ⟨hx, hb, hml, hown, hts⟩ (s2_branchesOf l dC dI kB kI kJ kZ kC kS H.size on n_kind n_salt n_pace n_manner n_from n_to n_goal n_reach n_branches n_branch n_tally x_n f_n_branches v7_loc2 p0 (hx_n) (hf_n_branches) (h30_1) (hp0)) (cwV 2 hts gX2_longestTo_X2_branchesOf rfl rfl rfl (by decide +kernel) ⟨Nat.le_of_ble_eq_true rfl, Nat.le_of_ble_eq_true rfl⟩) ⟨fun a U g mk q => by obtain ⟨q0, q1, qP, qE, qD⟩ := q; exact ⟨q0, q1, qP, kE_call qE, qD⟩, va_recv hK hP (ci := 2) (q0 := 0) rfl rfl, fun U hU hW => ⟨rfl, by rw [hU], by rw [hU]; exact hPc, kE_warm hW hE, hDc.weaken (fun _ _ _ _ => trivial)⟩⟩ rfl rfl hl.1 rfl (lv_room (Nat.le_of_ble_eq_true rfl)) dX2_longestTo_35 ⟨Nat.le_of_ble_eq_true rfl, Nat.le_of_ble_eq_true rfl⟩) hS (fun q _ h => hFc q h) hFc (fun r1 u t H locs ht hvm w2 hB hz1 hk1 hS => ?_)
          obtain ⟨hP1, hD1⟩ := hB
          try dsimp only at w2
          obtain ⟨hPa, hDa⟩ := hJn (w1 := [(on, .inr (2, oX2 n_kind n_salt n_pace n_manner n_from n_to n_goal n_reach n_branches n_branch n_tally x_n)), (n_branches, .inl (kI, 36, .inl f_n_branches))]) hk1 ht hP1 hD1
          clear hP hD hPc hDc hFc hJn hP1 hD1 hk1
          have hP : va_P (dC, dI) vwCl [(n_to, .inl (kI, 20, .inl f_n_to)), (n_goal, .inl (kI, 3, .inl f_n_goal)), (n_branch, .inl (kI, 144, .inl f_n_branch)), (n_tally, .inl (kI, 12, .inl g7_5)), (on, .inr (2, oX2 n_kind n_salt n_pace n_manner n_from n_to n_goal n_reach n_branches n_branch n_tally x_n)), (n_branches, .inl (kI, 36, .inl f_n_branches))] H := hPa
          have hD : va_D A [(n_to, .inl (kI, 20, .inl f_n_to)), (n_goal, .inl (kI, 3, .inl f_n_goal)), (n_branch, .inl (kI, 144, .inl f_n_branch)), (n_tally, .inl (kI, 12, .inl g7_5)), (on, .inr (2, oX2 n_kind n_salt n_pace n_manner n_from n_to n_goal n_reach n_branches n_branch n_tally x_n)), (n_branches, .inl (kI, 36, .inl f_n_branches))] := hDa
          clear hPa hDa
          refine W.widen (k := 0) (n := 0) (Nat.le_of_ble_eq_true rfl) (Nat.le_of_ble_eq_true rfl) ?_
          refine lv_icmp_ge (tgt := 72) hx hb dX2_longestTo_38 rfl (fun c3 => ?_) (fun c3 => ?_)
          · refine lv_aload_n hx hb dX2_longestTo_72 rfl (lv_at hl 0 rfl) ?_
            refine va_get (D := (dC, dI)) (ci := 2) (v := .ref n_tally) (C := RX2) (T := TX2) (N := 15) hx hb hts hin2 hown hK hP 4 rfl rfl 14 (Nat.le_of_ble_eq_true rfl) hw_0 (fun _ h9 => h9) rfl dX2_longestTo_73 ?_
            refine lv_iload_n hx hb dX2_longestTo_76 rfl (lv_at hl 2 rfl) ?_
            refine lv_iload_n hx hb dX2_longestTo_77 rfl (lv_at hl 3 rfl) ?_
            refine va_iast hx hb hK hP hD hS 3 1 rfl rfl (iv_in h30_1 (by decide) (by decide)) dX2_longestTo_78 (fun H locs hPa hDa hS => ?_)
            clear hP hD
            have hP : va_P (dC, dI) vwCl [(n_to, .inl (kI, 20, .inl f_n_to)), (n_goal, .inl (kI, 3, .inl f_n_goal)), (n_branch, .inl (kI, 144, .inl f_n_branch)), (n_tally, .inl (kI, 12, .inl (upd g7_5 v7_loc2.toNatClampNeg v30_loc3))), (on, .inr (2, oX2 n_kind n_salt n_pace n_manner n_from n_to n_goal n_reach n_branches n_branch n_tally x_n)), (n_branches, .inl (kI, 36, .inl f_n_branches))] H := hPa
            have hD : va_D A [(n_to, .inl (kI, 20, .inl f_n_to)), (n_goal, .inl (kI, 3, .inl f_n_goal)), (n_branch, .inl (kI, 144, .inl f_n_branch)), (n_tally, .inl (kI, 12, .inl (upd g7_5 v7_loc2.toNatClampNeg v30_loc3))), (on, .inr (2, oX2 n_kind n_salt n_pace n_manner n_from n_to n_goal n_reach n_branches n_branch n_tally x_n)), (n_branches, .inl (kI, 36, .inl f_n_branches))] := hDa
            clear hPa hDa
            generalize (upd g7_5 v7_loc2.toNatClampNeg v30_loc3) = f4 at hP hD
            refine lv_iinc (v := v7_loc2 + Int32.ofInt (-1)) (lv' := [(2, .int (v7_loc2 + Int32.ofInt (-1))), (0, .ref on), (1, .int p0), (3, .int v30_loc3), (4, .int v30_loc4)]) hx hb dX2_longestTo_79 hl (k := 2) rfl (rfl) (Nat.le_of_ble_eq_true rfl) rfl (fun ls hl => ?_)
            have b5 : iv (-1) 10 (v7_loc2 + Int32.ofInt (-1)) := iv_add h30_1 ivo_m1 (by decide) (by decide) (by decide) (by decide)
            refine lv_goto (tgt := 7) hx hb dX2_longestTo_82 rfl ?_
            have hPD9 := cl_s (wc := [(on, .inr (2, oX2 n_kind n_salt n_pace n_manner n_from n_to n_goal n_reach n_branches n_branch n_tally x_n)), (n_to, .inl (kI, 20, .inl f_n_to)), (n_goal, .inl (kI, 3, .inl f_n_goal)), (n_branches, .inl (kI, 36, .inl f_n_branches)), (n_branch, .inl (kI, 144, .inl f_n_branch)), (n_tally, .inl (kI, 12, .inl f4))]) hP hD [4, 0, 1, 5, 2, 3] rfl (by decide +kernel)
            exact ih7 f4 (v7_loc2 + Int32.ofInt (-1)) _ _ _ (ms_dn (c := 1) (d := 0) h30_1 hm7 (by decide) (iv_inc (-1) h30_1 (by decide) (by decide) (by decide) (by decide)) (by decide) rfl) ((iv_w b5 (by decide) (by decide))) (hPD9.1) (hPD9.2) hS (lv_sub hl [1, 2, 0] rfl)
          · have b6 : iv 0 3 v30_loc4 := iv_ltL (Int32.not_le.mp c3) h30_3 w2 (by decide) (by decide)
            have b7 : iv 1 4 r1 := iv_ltR (Int32.not_le.mp c3) h30_3 w2 (by decide) (by decide)
            refine lv_iload_n hx hb dX2_longestTo_41 rfl (lv_at hl 3 rfl) ?_
            refine lv_aload_n hx hb dX2_longestTo_42 rfl (lv_at hl 0 rfl) ?_
            refine va_get (D := (dC, dI)) (ci := 2) (v := .ref n_tally) (C := RX2) (T := TX2) (N := 15) hx hb hts hin2 hown hK hP 4 rfl rfl 14 (Nat.le_of_ble_eq_true rfl) hw_0 (fun _ h9 => h9) rfl dX2_longestTo_43 ?_
            refine lv_aload_n hx hb dX2_longestTo_46 rfl (lv_at hl 0 rfl) ?_
            refine va_get (D := (dC, dI)) (ci := 2) (v := .ref n_to) (C := RX2) (T := TX2) (N := 15) hx hb hts hin2 hown hK hP 4 rfl rfl 5 (Nat.le_of_ble_eq_true rfl) hw_1 (fun _ h9 => h9) rfl dX2_longestTo_47 ?_
            refine lv_aload_n hx hb dX2_longestTo_50 rfl (lv_at hl 0 rfl) ?_
            refine lv_iload_n hx hb dX2_longestTo_51 rfl (lv_at hl 2 rfl) ?_
            refine lv_iload_n hx hb dX2_longestTo_52 rfl (lv_at hl 1 rfl) ?_
            refine lv_iload hx hb dX2_longestTo_53 (lv_at hl 4 rfl) ?_
            obtain ⟨hPc, hDc, hFc, hJn⟩ := cl_a (wc := [(on, .inr (2, oX2 n_kind n_salt n_pace n_manner n_from n_to n_goal n_reach n_branches n_branch n_tally x_n)), (n_branch, .inl (kI, 144, .inl f_n_branch))]) (wr := [(n_to, .inl (kI, 20, .inl f_n_to)), (n_goal, .inl (kI, 3, .inl f_n_goal)), (n_tally, .inl (kI, 12, .inl g7_5)), (n_branches, .inl (kI, 36, .inl f_n_branches))]) hP hD hS hA [4, 2] [0, 1, 3, 5] rfl rfl (by decide +kernel)
            refine va_calli (va_runV (As := [.int v7_loc2, .int p0, .int v30_loc4]) (rest := [.ref n_to, .ref n_tally, .int v30_loc3]) ⟨hx, hb, hml, hown, hts⟩ (s2_branchOf l dC dI kB kI kJ kZ kC kS H.size on n_kind n_salt n_pace n_manner n_from n_to n_goal n_reach n_branches n_branch n_tally x_n f_n_branch v7_loc2 p0 v30_loc4 (hx_n) (hf_n_branch) (h30_1) (hp0) (b6)) (cwV 3 hts gX2_longestTo_X2_branchOf rfl rfl rfl (by decide +kernel) ⟨Nat.le_of_ble_eq_true rfl, Nat.le_of_ble_eq_true rfl⟩) ⟨fun a U g mk q => by obtain ⟨q0, q1, qP, qE, qD⟩ := q; exact ⟨q0, q1, qP, kE_call qE, qD⟩, va_recv hK hP (ci := 2) (q0 := 4) rfl rfl, fun U hU hW => ⟨rfl, by rw [hU], by rw [hU]; exact hPc, kE_warm hW hE, hDc.weaken (fun _ _ _ _ => trivial)⟩⟩ rfl rfl hl.1 rfl (lv_room (Nat.le_of_ble_eq_true rfl)) dX2_longestTo_55 ⟨Nat.le_of_ble_eq_true rfl, Nat.le_of_ble_eq_true rfl⟩) hS (fun q _ h => hFc q h) hFc (fun r8 u t H locs ht hvm w9 hB hz1 hk1 hS => ?_)
            obtain ⟨hP1, hD1⟩ := hB
            try dsimp only at w9
            obtain ⟨hPa, hDa⟩ := hJn (w1 := [(on, .inr (2, oX2 n_kind n_salt n_pace n_manner n_from n_to n_goal n_reach n_branches n_branch n_tally x_n)), (n_branch, .inl (kI, 144, .inl f_n_branch))]) hk1 ht hP1 hD1
            clear hP hD hPc hDc hFc hJn hP1 hD1 hk1
            have hP : va_P (dC, dI) vwCl [(n_to, .inl (kI, 20, .inl f_n_to)), (n_goal, .inl (kI, 3, .inl f_n_goal)), (n_tally, .inl (kI, 12, .inl g7_5)), (n_branches, .inl (kI, 36, .inl f_n_branches)), (on, .inr (2, oX2 n_kind n_salt n_pace n_manner n_from n_to n_goal n_reach n_branches n_branch n_tally x_n)), (n_branch, .inl (kI, 144, .inl f_n_branch))] H := hPa
            have hD : va_D A [(n_to, .inl (kI, 20, .inl f_n_to)), (n_goal, .inl (kI, 3, .inl f_n_goal)), (n_tally, .inl (kI, 12, .inl g7_5)), (n_branches, .inl (kI, 36, .inl f_n_branches)), (on, .inr (2, oX2 n_kind n_salt n_pace n_manner n_from n_to n_goal n_reach n_branches n_branch n_tally x_n)), (n_branch, .inl (kI, 144, .inl f_n_branch))] := hDa
            clear hPa hDa
            refine W.widen (k := 0) (n := 0) (Nat.le_of_ble_eq_true rfl) (Nat.le_of_ble_eq_true rfl) ?_
            refine va_iald hx hb hK hP 0 1 rfl rfl (iv_in w9 (by decide) (by decide)) dX2_longestTo_58 ?_
            refine iv_top (a := 0) (b := 11) (hf_n_to _) (fun z10 b11 => ?_)
            refine va_iald hx hb hK hP 2 1 rfl rfl (iv_in b11 (by decide) (by decide)) dX2_longestTo_59 ?_
            refine lv_topi (fun z12 _ => ?_)
            refine lv_iconst (v := 1) hx hb dX2_longestTo_60 ic_1 ?_
            refine lv_iadd hx hb dX2_longestTo_61 ?_
            refine lv_topi (fun z13 _ => ?_)
            refine va_mmax hx hb (by rw [hml]; exact hl.1.symm) hown hw_2 hw_3 hw_4 hw_5 (Nat.le_of_ble_eq_true rfl) (Nat.le_of_ble_eq_true rfl) (Nat.le_of_ble_eq_true rfl) (Nat.le_of_ble_eq_true rfl) dX2_longestTo_62 ?_
            refine iv_top (a := 0) (b := 2147483647) (iv_max h30_2 (iv_t z13) (by decide) (by decide)) (fun z14 b15 => ?_)
            refine lv_istore_n (lv' := [(3, .int z14), (0, .ref on), (1, .int p0), (2, .int v7_loc2), (4, .int v30_loc4)]) hx hb dX2_longestTo_65 rfl hl (Nat.le_of_ble_eq_true rfl) rfl (fun ls hl => ?_)
            refine lv_iinc (v := v30_loc4 + Int32.ofInt 1) (lv' := [(4, .int (v30_loc4 + Int32.ofInt 1)), (3, .int z14), (0, .ref on), (1, .int p0), (2, .int v7_loc2)]) hx hb dX2_longestTo_66 hl (k := 4) rfl (rfl) (Nat.le_of_ble_eq_true rfl) rfl (fun ls hl => ?_)
            have b16 : iv 1 4 (v30_loc4 + Int32.ofInt 1) := iv_add b6 ivo_1 (by decide) (by decide) (by decide) (by decide)
            refine lv_goto (tgt := 30) hx hb dX2_longestTo_69 rfl ?_
            have hPD9 := cl_s (wc := [(on, .inr (2, oX2 n_kind n_salt n_pace n_manner n_from n_to n_goal n_reach n_branches n_branch n_tally x_n)), (n_to, .inl (kI, 20, .inl f_n_to)), (n_goal, .inl (kI, 3, .inl f_n_goal)), (n_branches, .inl (kI, 36, .inl f_n_branches)), (n_branch, .inl (kI, 144, .inl f_n_branch)), (n_tally, .inl (kI, 12, .inl g7_5))]) hP hD [4, 0, 1, 3, 5, 2] rfl (by decide +kernel)
            exact ih30 z14 (v30_loc4 + Int32.ofInt 1) _ _ _ (ms_up (c := 1) (d := 0) b6 hm30 (by decide) (iv_inc 1 b6 (by decide) (by decide) (by decide) (by decide)) (by decide) rfl) (h30_1) (b15) ((iv_w b16 (by decide) (by decide))) (hPD9.1) (hPD9.2) hS (lv_sub hl [2, 3, 4, 1, 0] rfl)
      have hJ26 : ∀ (v26_stk0 : Int32) (H : Heap) (locs : List Loc) (ls : Array Slot), iv 0 11 v7_loc2 → iv 0 1 v26_stk0 → va_P (dC, dI) vwCl [(on, .inr (2, oX2 n_kind n_salt n_pace n_manner n_from n_to n_goal n_reach n_branches n_branch n_tally x_n)), (n_to, .inl (kI, 20, .inl f_n_to)), (n_goal, .inl (kI, 3, .inl f_n_goal)), (n_branches, .inl (kI, 36, .inl f_n_branches)), (n_branch, .inl (kI, 144, .inl f_n_branch)), (n_tally, .inl (kI, 12, .inl g7_5))] H → va_D A [(on, .inr (2, oX2 n_kind n_salt n_pace n_manner n_from n_to n_goal n_reach n_branches n_branch n_tally x_n)), (n_to, .inl (kI, 20, .inl f_n_to)), (n_goal, .inl (kI, 3, .inl f_n_goal)), (n_branches, .inl (kI, 36, .inl f_n_branches)), (n_branch, .inl (kI, 144, .inl f_n_branch)), (n_tally, .inl (kI, 12, .inl g7_5))] → va_S A s.heap H locs → lv_has ls 5 [(0, .ref on), (1, .int p0), (2, .int v7_loc2)] → W p l e (headSpec wsX2_longestTo rm_s2_longestTo).room s m args0 below meth c H locs (0) (0) (MQ below (va_Qi (fun (r : Int32) (_ : Unit) => True) (fun _ t => ∃ (f_n_tally' : Nat → Int32), va_P (dC, dI) vwCl [(on, .inr (2, oX2 n_kind n_salt n_pace n_manner n_from n_to n_goal n_reach n_branches n_branch n_tally x_n)), (n_to, .inl (kI, 20, .inl f_n_to)), (n_goal, .inl (kI, 3, .inl f_n_goal)), (n_branches, .inl (kI, 36, .inl f_n_branches)), (n_branch, .inl (kI, 144, .inl f_n_branch)), (n_tally, .inl (kI, 12, .inl f_n_tally'))] t.heap ∧ va_D A [(on, .inr (2, oX2 n_kind n_salt n_pace n_manner n_from n_to n_goal n_reach n_branches n_branch n_tally x_n)), (n_to, .inl (kI, 20, .inl f_n_to)), (n_goal, .inl (kI, 3, .inl f_n_goal)), (n_branches, .inl (kI, 36, .inl f_n_branches)), (n_branch, .inl (kI, 144, .inl f_n_branch)), (n_tally, .inl (kI, 12, .inl f_n_tally'))]) A) args0 s 0 0 A) (F0 m 26 ls [.int v26_stk0]) := by
        intro v26_stk0 H locs ls h26_1 h26_2 hP hD hS hl
        refine lv_istore_n (lv' := [(3, .int v26_stk0), (0, .ref on), (1, .int p0), (2, .int v7_loc2)]) hx hb dX2_longestTo_26 rfl hl (Nat.le_of_ble_eq_true rfl) rfl (fun ls hl => ?_)
        refine lv_iconst (v := 0) hx hb dX2_longestTo_27 ic_0 ?_
        refine lv_istore (lv' := [(4, .int 0), (3, .int v26_stk0), (0, .ref on), (1, .int p0), (2, .int v7_loc2)]) hx hb dX2_longestTo_28 hl (Nat.le_of_ble_eq_true rfl) rfl (fun ls hl => ?_)
        exact hJ30 _ v26_stk0 0 _ _ _ (Nat.lt_succ_self _) (h26_1) ((iv_w h26_2 (by decide) (by decide))) ((iv_w ivk_0 (by decide) (by decide))) (hP) (hD) hS (lv_sub hl [2, 3, 4, 1, 0] rfl)
      refine lv_iload_n hx hb dX2_longestTo_7 rfl (lv_at hl 2 rfl) ?_
      refine lv_if_lt (tgt := 85) hx hb dX2_longestTo_8 rfl (fun c17 => ?_) (fun c17 => ?_)
      · have b18 : iv (-1) (-1) v7_loc2 := iv_ltL c17 h7_1 ivk_0 (by decide) (by decide)
        refine lv_aload_n hx hb dX2_longestTo_85 rfl (lv_at hl 0 rfl) ?_
        refine va_get (D := (dC, dI)) (ci := 2) (v := .ref n_tally) (C := RX2) (T := TX2) (N := 15) hx hb hts hin2 hown hK hP 0 rfl rfl 14 (Nat.le_of_ble_eq_true rfl) hw_0 (fun _ h9 => h9) rfl dX2_longestTo_86 ?_
        refine lv_iconst (v := 0) hx hb dX2_longestTo_89 ic_0 ?_
        refine va_iald hx hb hK hP 5 1 rfl rfl (vp_in_nI (n := 0) (by decide) (by decide)) dX2_longestTo_90 ?_
        refine W.eq (g2 := F0 m 91 ls [.int (g7_5 0)]) rfl ?_
        have hP9 := hP
        have hD9 := hD
        exact W.iret (v := g7_5 0) hx hb hr (fun t ht hW => ⟨⟨g7_5 0, (), rfl, trivial, g7_5, by rw [ht]; exact hP9, hD9⟩, hS.F ht⟩) hS.2.2 dX2_longestTo_91
      · have b19 : iv 0 11 v7_loc2 := iv_leR (Int32.not_lt.mp c17) ivk_0 h7_1 (by decide) (by decide)
        refine lv_iload_n hx hb dX2_longestTo_11 rfl (lv_at hl 2 rfl) ?_
        refine lv_aload_n hx hb dX2_longestTo_12 rfl (lv_at hl 0 rfl) ?_
        refine va_get (D := (dC, dI)) (ci := 2) (v := .ref n_goal) (C := RX2) (T := TX2) (N := 15) hx hb hts hin2 hown hK hP 0 rfl rfl 6 (Nat.le_of_ble_eq_true rfl) hw_6 (fun _ h9 => h9) rfl dX2_longestTo_13 ?_
        refine lv_iload_n hx hb dX2_longestTo_16 rfl (lv_at hl 1 rfl) ?_
        refine va_iald hx hb hK hP 2 1 rfl rfl (iv_in hp0 (by decide) (by decide)) dX2_longestTo_17 ?_
        refine iv_top (a := 0) (b := 11) (hf_n_goal _) (fun z20 b21 => ?_)
        refine lv_icmp_ne (tgt := 25) hx hb dX2_longestTo_18 rfl (fun c22 => ?_) (fun c22 => ?_)
        · refine lv_iconst (v := 0) hx hb dX2_longestTo_25 ic_0 ?_
          exact hJ26 0 _ _ _ (b19) ((iv_w ivk_0 (by decide) (by decide))) (hP) (hD) hS (lv_sub hl [0, 1, 2] rfl)
        · refine lv_iconst (v := 1) hx hb dX2_longestTo_21 ic_1 ?_
          refine lv_goto (tgt := 26) hx hb dX2_longestTo_22 rfl ?_
          exact hJ26 1 _ _ _ (b19) ((iv_w ivk_1 (by decide) (by decide))) (hP) (hD) hS (lv_sub hl [0, 1, 2] rfl)
  refine lv_aload_n hx hb dX2_longestTo_0 rfl (lv_at hl 0 rfl) ?_
  refine va_get (D := (dC, dI)) (ci := 2) (v := .int (x_n 0)) (C := RX2) (T := TX2) (N := 15) hx hb hts hin2 hown hK hP 0 rfl rfl 7 (Nat.le_of_ble_eq_true rfl) hw_7 (fun _ h9 => h9) rfl dX2_longestTo_1 ?_
  refine lv_iconst (v := 1) hx hb dX2_longestTo_4 ic_1 ?_
  refine lv_isub hx hb dX2_longestTo_5 ?_
  refine iv_top (a := (-1)) (b := 11) (iv_sub (hx_n 0 : iv 0 12 (x_n 0)) ivk_1 (by decide) (by decide) (by decide) (by decide)) (fun z23 b24 => ?_)
  refine lv_istore_n (lv' := [(2, .int z23), (0, .ref on), (1, .int p0)]) hx hb dX2_longestTo_6 rfl hl (Nat.le_of_ble_eq_true rfl) rfl (fun ls hl => ?_)
  exact hJ7 _ f_n_tally z23 _ _ _ (Nat.lt_succ_self _) (b24) (hP) (hD) hS (lv_sub hl [1, 2, 0] rfl)
def rm_s2_shortestTo : Room := { frames := 1, cells := 0, slots := 0, locals := 23 }
set_option maxHeartbeats 4000000 in
set_option maxRecDepth 100000 in
theorem s2_shortestTo (l : Launch) (dC : Nat → ClassId) (dI : Nat → Nat → Nat) (kB kI kJ kZ kC kS : ClassId) (sz : Nat) (on : Nat) (n_kind : Nat) (n_salt : Nat) (n_pace : Nat) (n_manner : Nat) (n_from : Nat) (n_to : Nat) (n_goal : Nat) (n_reach : Nat) (n_branches : Nat) (n_branch : Nat) (n_tally : Nat) (x_n : Nat → Int32) (f_n_to : Nat → Int32) (f_n_goal : Nat → Int32) (f_n_branches : Nat → Int32) (f_n_branch : Nat → Int32) (f_n_tally : Nat → Int32) (p0 : Int32) (hx_n : fI lX2 hX2 x_n) (hf_n_to : fI (fun _ => 0) (fun _ => 11) f_n_to) (hf_n_goal : fI (fun _ => 0) (fun _ => 11) f_n_goal) (hf_n_branches : fI (fun _ => 0) (fun _ => 4) f_n_branches) (hf_n_branch : fI (fun _ => 0) (fun _ => 19) f_n_branch) (hp0 : iv 0 2 p0) : Met l yX2_shortestTo wsX2_shortestTo rm_s2_shortestTo (va_Pc [.ref on, .int p0] (fun U => U.heap.size = sz ∧ va_P (dC, dI) vwCl [(on, .inr (2, oX2 n_kind n_salt n_pace n_manner n_from n_to n_goal n_reach n_branches n_branch n_tally x_n)), (n_to, .inl (kI, 20, .inl f_n_to)), (n_goal, .inl (kI, 3, .inl f_n_goal)), (n_branches, .inl (kI, 36, .inl f_n_branches)), (n_branch, .inl (kI, 144, .inl f_n_branch)), (n_tally, .inl (kI, 12, .inl f_n_tally))] U.heap ∧ kE dC dI kB kI kJ kZ kC kS U ∧ va_D (fun _ => True) [(on, .inr (2, oX2 n_kind n_salt n_pace n_manner n_from n_to n_goal n_reach n_branches n_branch n_tally x_n)), (n_to, .inl (kI, 20, .inl f_n_to)), (n_goal, .inl (kI, 3, .inl f_n_goal)), (n_branches, .inl (kI, 36, .inl f_n_branches)), (n_branch, .inl (kI, 144, .inl f_n_branch)), (n_tally, .inl (kI, 12, .inl f_n_tally))])) (va_Qi (fun (r : Int32) (_ : Unit) => True) (fun _ t => ∃ (f_n_tally' : Nat → Int32), va_P (dC, dI) vwCl [(on, .inr (2, oX2 n_kind n_salt n_pace n_manner n_from n_to n_goal n_reach n_branches n_branch n_tally x_n)), (n_to, .inl (kI, 20, .inl f_n_to)), (n_goal, .inl (kI, 3, .inl f_n_goal)), (n_branches, .inl (kI, 36, .inl f_n_branches)), (n_branch, .inl (kI, 144, .inl f_n_branch)), (n_tally, .inl (kI, 12, .inl f_n_tally'))] t.heap ∧ va_D (va_A [(on, .inr (2, oX2 n_kind n_salt n_pace n_manner n_from n_to n_goal n_reach n_branches n_branch n_tally x_n)), (n_to, .inl (kI, 20, .inl f_n_to)), (n_goal, .inl (kI, 3, .inl f_n_goal)), (n_branches, .inl (kI, 36, .inl f_n_branches)), (n_branch, .inl (kI, 144, .inl f_n_branch)), (n_tally, .inl (kI, 12, .inl f_n_tally))] sz) [(on, .inr (2, oX2 n_kind n_salt n_pace n_manner n_from n_to n_goal n_reach n_branches n_branch n_tally x_n)), (n_to, .inl (kI, 20, .inl f_n_to)), (n_goal, .inl (kI, 3, .inl f_n_goal)), (n_branches, .inl (kI, 36, .inl f_n_branches)), (n_branch, .inl (kI, 144, .inl f_n_branch)), (n_tally, .inl (kI, 12, .inl f_n_tally'))]) (va_A [(on, .inr (2, oX2 n_kind n_salt n_pace n_manner n_from n_to n_goal n_reach n_branches n_branch n_tally x_n)), (n_to, .inl (kI, 20, .inl f_n_to)), (n_goal, .inl (kI, 3, .inl f_n_goal)), (n_branches, .inl (kI, 36, .inl f_n_branches)), (n_branch, .inl (kI, 144, .inl f_n_branch)), (n_tally, .inl (kI, 12, .inl f_n_tally))] sz)) 0 0 (va_A [(on, .inr (2, oX2 n_kind n_salt n_pace n_manner n_from n_to n_goal n_reach n_branches n_branch n_tally x_n)), (n_to, .inl (kI, 20, .inl f_n_to)), (n_goal, .inl (kI, 3, .inl f_n_goal)), (n_branches, .inl (kI, 36, .inl f_n_branches)), (n_branch, .inl (kI, 144, .inl f_n_branch)), (n_tally, .inl (kI, 12, .inl f_n_tally))] sz) := by
  refine Met.ofW (cc := cX2_shortestTo) (maxL := 6) (ret := (some .int)) (by decide) rfl ?_
  intro p e s m args0 below meth c s₁ B hml hv
  obtain ⟨hargs, hsz, hP, hE, hD0⟩ := hv
  have hx := B.exec
  have hb := B.bytes
  have hr := B.returns
  have hts := atoms_spec (ws := wsX2_shortestTo) B.pre
  have hown : s.vm.findClass RX2 = some m.cls := findClass_of_methodNamed B.named
  have hlocks := B.notSynchronized
  have hK := hE.1
  have hin2 : ∀ w ∈ wsX20, w ∈ wsX2_shortestTo := fun _ h9 => List.mem_cons_of_mem _ (List.mem_append_right _ h9)
  have hw_0 := hts (.fieldLink RX2 55 "PathProber$Net" "tally" "[I") (List.mem_of_getElem? (i := 3) rfl)
  have hw_1 := hts (.fieldLink RX2 27 "PathProber$Net" "to" "[I") (List.mem_of_getElem? (i := 4) rfl)
  have hw_2 := hts (.methodLink RX2 88 Lib.Math.min.name) (List.mem_of_getElem? (i := 5) rfl)
  have hw_3 := hts (.static Lib.Math.min.name) (List.mem_of_getElem? (i := 6) rfl)
  have hw_4 := hts (.initialized "java/lang/Math") (List.mem_of_getElem? (i := 7) rfl)
  have hw_5 := hts (.code Lib.Math.min.name Lib.Math.min.code 2 (some .int)) (List.mem_of_getElem? (i := 8) rfl)
  have hw_6 := hts (.fieldLink RX2 30 "PathProber$Net" "goal" "[I") (List.mem_of_getElem? (i := 2) rfl)
  have hw_7 := hts (.fieldLink RX2 33 "PathProber$Net" "routers" "I") (List.mem_of_getElem? (i := 1) rfl)
  subst hsz
  have hD := hD0.self (sz := s.heap.size)
  generalize hAe : va_A [(on, .inr (2, oX2 n_kind n_salt n_pace n_manner n_from n_to n_goal n_reach n_branches n_branch n_tally x_n)), (n_to, .inl (kI, 20, .inl f_n_to)), (n_goal, .inl (kI, 3, .inl f_n_goal)), (n_branches, .inl (kI, 36, .inl f_n_branches)), (n_branch, .inl (kI, 144, .inl f_n_branch)), (n_tally, .inl (kI, 12, .inl f_n_tally))] s.heap.size = A at hD ⊢
  have hA : ∀ q : Nat, s.heap.size ≤ q → A q := fun q h => by rw [← hAe]; exact Or.inr h
  have hS : va_S A s.heap s.heap [] := va_S.rf
  have hP : va_P (dC, dI) vwCl [(on, .inr (2, oX2 n_kind n_salt n_pace n_manner n_from n_to n_goal n_reach n_branches n_branch n_tally x_n)), (n_to, .inl (kI, 20, .inl f_n_to)), (n_goal, .inl (kI, 3, .inl f_n_goal)), (n_branches, .inl (kI, 36, .inl f_n_branches)), (n_branch, .inl (kI, 144, .inl f_n_branch)), (n_tally, .inl (kI, 12, .inl f_n_tally))] s.heap := hP
  have hl := lv_entry ([.ref on, .int p0]) (n := 6) (Nat.le_of_ble_eq_true rfl)
  have hla : entryFrame m args0 6 = entryFrame m ([.ref on, .int p0] : List Value).toArray 6 := by rw [hargs]
  rw [hla, lg_entry_eq]
  generalize (lg_sl ([.ref on, .int p0]) ++ List.replicate (6 - (lg_sl ([.ref on, .int p0])).length) Slot.unset).toArray = ls at hl ⊢
  have hl : lv_has ls 6 [(0, .ref on), (1, .int p0)] := hl
  have hJ7 : ∀ (n : Nat) (g7_5 : Nat → Int32) (v7_loc2 : Int32) (H : Heap) (locs : List Loc) (ls : Array Slot), (v7_loc2.toInt - (-1)).toNat < n → iv (-1) 11 v7_loc2 → va_P (dC, dI) vwCl [(on, .inr (2, oX2 n_kind n_salt n_pace n_manner n_from n_to n_goal n_reach n_branches n_branch n_tally x_n)), (n_to, .inl (kI, 20, .inl f_n_to)), (n_goal, .inl (kI, 3, .inl f_n_goal)), (n_branches, .inl (kI, 36, .inl f_n_branches)), (n_branch, .inl (kI, 144, .inl f_n_branch)), (n_tally, .inl (kI, 12, .inl g7_5))] H → va_D A [(on, .inr (2, oX2 n_kind n_salt n_pace n_manner n_from n_to n_goal n_reach n_branches n_branch n_tally x_n)), (n_to, .inl (kI, 20, .inl f_n_to)), (n_goal, .inl (kI, 3, .inl f_n_goal)), (n_branches, .inl (kI, 36, .inl f_n_branches)), (n_branch, .inl (kI, 144, .inl f_n_branch)), (n_tally, .inl (kI, 12, .inl g7_5))] → va_S A s.heap H locs → lv_has ls 6 [(0, .ref on), (1, .int p0), (2, .int v7_loc2)] → W p l e (headSpec wsX2_shortestTo rm_s2_shortestTo).room s m args0 below meth c H locs (0) (0) (MQ below (va_Qi (fun (r : Int32) (_ : Unit) => True) (fun _ t => ∃ (f_n_tally' : Nat → Int32), va_P (dC, dI) vwCl [(on, .inr (2, oX2 n_kind n_salt n_pace n_manner n_from n_to n_goal n_reach n_branches n_branch n_tally x_n)), (n_to, .inl (kI, 20, .inl f_n_to)), (n_goal, .inl (kI, 3, .inl f_n_goal)), (n_branches, .inl (kI, 36, .inl f_n_branches)), (n_branch, .inl (kI, 144, .inl f_n_branch)), (n_tally, .inl (kI, 12, .inl f_n_tally'))] t.heap ∧ va_D A [(on, .inr (2, oX2 n_kind n_salt n_pace n_manner n_from n_to n_goal n_reach n_branches n_branch n_tally x_n)), (n_to, .inl (kI, 20, .inl f_n_to)), (n_goal, .inl (kI, 3, .inl f_n_goal)), (n_branches, .inl (kI, 36, .inl f_n_branches)), (n_branch, .inl (kI, 144, .inl f_n_branch)), (n_tally, .inl (kI, 12, .inl f_n_tally'))]) A) args0 s 0 0 A) (F0 m 7 ls []) := by
    intro n
    induction n with
    | zero => intro g7_5 v7_loc2 H locs ls hm7; exact absurd hm7 (Nat.not_lt_zero _)
    | succ n ih7 =>
      intro g7_5 v7_loc2 H locs ls hm7 h7_1 hP hD hS hl
      have hJ30 : ∀ (n : Nat) (v30_loc3 : Int32) (v30_loc4 : Int32) (H : Heap) (locs : List Loc) (ls : Array Slot), (4 - v30_loc4.toInt).toNat < n → iv 0 11 v7_loc2 → iv 0 4 v30_loc4 → va_P (dC, dI) vwCl [(on, .inr (2, oX2 n_kind n_salt n_pace n_manner n_from n_to n_goal n_reach n_branches n_branch n_tally x_n)), (n_to, .inl (kI, 20, .inl f_n_to)), (n_goal, .inl (kI, 3, .inl f_n_goal)), (n_branches, .inl (kI, 36, .inl f_n_branches)), (n_branch, .inl (kI, 144, .inl f_n_branch)), (n_tally, .inl (kI, 12, .inl g7_5))] H → va_D A [(on, .inr (2, oX2 n_kind n_salt n_pace n_manner n_from n_to n_goal n_reach n_branches n_branch n_tally x_n)), (n_to, .inl (kI, 20, .inl f_n_to)), (n_goal, .inl (kI, 3, .inl f_n_goal)), (n_branches, .inl (kI, 36, .inl f_n_branches)), (n_branch, .inl (kI, 144, .inl f_n_branch)), (n_tally, .inl (kI, 12, .inl g7_5))] → va_S A s.heap H locs → lv_has ls 6 [(0, .ref on), (1, .int p0), (2, .int v7_loc2), (3, .int v30_loc3), (4, .int v30_loc4)] → W p l e (headSpec wsX2_shortestTo rm_s2_shortestTo).room s m args0 below meth c H locs (0) (0) (MQ below (va_Qi (fun (r : Int32) (_ : Unit) => True) (fun _ t => ∃ (f_n_tally' : Nat → Int32), va_P (dC, dI) vwCl [(on, .inr (2, oX2 n_kind n_salt n_pace n_manner n_from n_to n_goal n_reach n_branches n_branch n_tally x_n)), (n_to, .inl (kI, 20, .inl f_n_to)), (n_goal, .inl (kI, 3, .inl f_n_goal)), (n_branches, .inl (kI, 36, .inl f_n_branches)), (n_branch, .inl (kI, 144, .inl f_n_branch)), (n_tally, .inl (kI, 12, .inl f_n_tally'))] t.heap ∧ va_D A [(on, .inr (2, oX2 n_kind n_salt n_pace n_manner n_from n_to n_goal n_reach n_branches n_branch n_tally x_n)), (n_to, .inl (kI, 20, .inl f_n_to)), (n_goal, .inl (kI, 3, .inl f_n_goal)), (n_branches, .inl (kI, 36, .inl f_n_branches)), (n_branch, .inl (kI, 144, .inl f_n_branch)), (n_tally, .inl (kI, 12, .inl f_n_tally'))]) A) args0 s 0 0 A) (F0 m 30 ls []) := by
        intro n
        induction n with
        | zero => intro v30_loc3 v30_loc4 H locs ls hm30; exact absurd hm30 (Nat.not_lt_zero _)
        | succ n ih30 =>
          intro v30_loc3 v30_loc4 H locs ls hm30 h30_1 h30_2 hP hD hS hl
          have hJ78 : ∀ (v78_loc5 : Int32) (v78_stk0 : Int32) (H : Heap) (locs : List Loc) (ls : Array Slot), iv 0 3 v30_loc4 → va_P (dC, dI) vwCl [(on, .inr (2, oX2 n_kind n_salt n_pace n_manner n_from n_to n_goal n_reach n_branches n_branch n_tally x_n)), (n_to, .inl (kI, 20, .inl f_n_to)), (n_goal, .inl (kI, 3, .inl f_n_goal)), (n_branches, .inl (kI, 36, .inl f_n_branches)), (n_branch, .inl (kI, 144, .inl f_n_branch)), (n_tally, .inl (kI, 12, .inl g7_5))] H → va_D A [(on, .inr (2, oX2 n_kind n_salt n_pace n_manner n_from n_to n_goal n_reach n_branches n_branch n_tally x_n)), (n_to, .inl (kI, 20, .inl f_n_to)), (n_goal, .inl (kI, 3, .inl f_n_goal)), (n_branches, .inl (kI, 36, .inl f_n_branches)), (n_branch, .inl (kI, 144, .inl f_n_branch)), (n_tally, .inl (kI, 12, .inl g7_5))] → va_S A s.heap H locs → lv_has ls 6 [(0, .ref on), (1, .int p0), (2, .int v7_loc2), (3, .int v30_loc3), (4, .int v30_loc4), (5, .int v78_loc5)] → W p l e (headSpec wsX2_shortestTo rm_s2_shortestTo).room s m args0 below meth c H locs (0) (0) (MQ below (va_Qi (fun (r : Int32) (_ : Unit) => True) (fun _ t => ∃ (f_n_tally' : Nat → Int32), va_P (dC, dI) vwCl [(on, .inr (2, oX2 n_kind n_salt n_pace n_manner n_from n_to n_goal n_reach n_branches n_branch n_tally x_n)), (n_to, .inl (kI, 20, .inl f_n_to)), (n_goal, .inl (kI, 3, .inl f_n_goal)), (n_branches, .inl (kI, 36, .inl f_n_branches)), (n_branch, .inl (kI, 144, .inl f_n_branch)), (n_tally, .inl (kI, 12, .inl f_n_tally'))] t.heap ∧ va_D A [(on, .inr (2, oX2 n_kind n_salt n_pace n_manner n_from n_to n_goal n_reach n_branches n_branch n_tally x_n)), (n_to, .inl (kI, 20, .inl f_n_to)), (n_goal, .inl (kI, 3, .inl f_n_goal)), (n_branches, .inl (kI, 36, .inl f_n_branches)), (n_branch, .inl (kI, 144, .inl f_n_branch)), (n_tally, .inl (kI, 12, .inl f_n_tally'))]) A) args0 s 0 0 A) (F0 m 78 ls [.int v78_stk0]) := by
            intro v78_loc5 v78_stk0 H locs ls h78_1 hP hD hS hl
            refine lv_istore_n (lv' := [(3, .int v78_stk0), (0, .ref on), (1, .int p0), (2, .int v7_loc2), (4, .int v30_loc4), (5, .int v78_loc5)]) hx hb dX2_shortestTo_78 rfl hl (Nat.le_of_ble_eq_true rfl) rfl (fun ls hl => ?_)
            refine lv_iinc (v := v30_loc4 + Int32.ofInt 1) (lv' := [(4, .int (v30_loc4 + Int32.ofInt 1)), (3, .int v78_stk0), (0, .ref on), (1, .int p0), (2, .int v7_loc2), (5, .int v78_loc5)]) hx hb dX2_shortestTo_79 hl (k := 4) rfl (rfl) (Nat.le_of_ble_eq_true rfl) rfl (fun ls hl => ?_)
            have b1 : iv 1 4 (v30_loc4 + Int32.ofInt 1) := iv_add h78_1 ivo_1 (by decide) (by decide) (by decide) (by decide)
            refine lv_goto (tgt := 30) hx hb dX2_shortestTo_82 rfl ?_
            exact ih30 v78_stk0 (v30_loc4 + Int32.ofInt 1) _ _ _ (ms_up (c := 1) (d := 0) h78_1 hm30 (by decide) (iv_inc 1 h78_1 (by decide) (by decide) (by decide) (by decide)) (by decide) rfl) (h30_1) ((iv_w b1 (by decide) (by decide))) (hP) (hD) hS (lv_sub hl [2, 3, 4, 1, 0] rfl)
          refine lv_iload hx hb dX2_shortestTo_30 (lv_at hl 4 rfl) ?_
          refine lv_aload_n hx hb dX2_shortestTo_32 rfl (lv_at hl 0 rfl) ?_
          refine lv_iload_n hx hb dX2_shortestTo_33 rfl (lv_at hl 2 rfl) ?_
          refine lv_iload_n hx hb dX2_shortestTo_34 rfl (lv_at hl 1 rfl) ?_
          obtain ⟨hPc, hDc, hFc, hJn⟩ := cl_a (wc := [(on, .inr (2, oX2 n_kind n_salt n_pace n_manner n_from n_to n_goal n_reach n_branches n_branch n_tally x_n)), (n_branches, .inl (kI, 36, .inl f_n_branches))]) (wr := [(n_to, .inl (kI, 20, .inl f_n_to)), (n_goal, .inl (kI, 3, .inl f_n_goal)), (n_branch, .inl (kI, 144, .inl f_n_branch)), (n_tally, .inl (kI, 12, .inl g7_5))]) hP hD hS hA [0, 3] [1, 2, 4, 5] rfl rfl (by decide +kernel)
          refine va_calli (va_runV (As := [.int v7_loc2, .int p0]) (rest := [.int v30_loc4]) ⟨hx, hb, hml, hown, hts⟩ (s2_branchesOf l dC dI kB kI kJ kZ kC kS H.size on n_kind n_salt n_pace n_manner n_from n_to n_goal n_reach n_branches n_branch n_tally x_n f_n_branches v7_loc2 p0 (hx_n) (hf_n_branches) (h30_1) (hp0)) (cwV 2 hts gX2_shortestTo_X2_branchesOf rfl rfl rfl (by decide +kernel) ⟨Nat.le_of_ble_eq_true rfl, Nat.le_of_ble_eq_true rfl⟩) ⟨fun a U g mk q => by obtain ⟨q0, q1, qP, qE, qD⟩ := q; exact ⟨q0, q1, qP, kE_call qE, qD⟩, va_recv hK hP (ci := 2) (q0 := 0) rfl rfl, fun U hU hW => ⟨rfl, by rw [hU], by rw [hU]; exact hPc, kE_warm hW hE, hDc.weaken (fun _ _ _ _ => trivial)⟩⟩ rfl rfl hl.1 rfl (lv_room (Nat.le_of_ble_eq_true rfl)) dX2_shortestTo_35 ⟨Nat.le_of_ble_eq_true rfl, Nat.le_of_ble_eq_true rfl⟩) hS (fun q _ h => hFc q h) hFc (fun r2 u t H locs ht hvm w3 hB hz1 hk1 hS => ?_)
          obtain ⟨hP1, hD1⟩ := hB
          try dsimp only at w3
          obtain ⟨hPa, hDa⟩ := hJn (w1 := [(on, .inr (2, oX2 n_kind n_salt n_pace n_manner n_from n_to n_goal n_reach n_branches n_branch n_tally x_n)), (n_branches, .inl (kI, 36, .inl f_n_branches))]) hk1 ht hP1 hD1
          clear hP hD hPc hDc hFc hJn hP1 hD1 hk1
          have hP : va_P (dC, dI) vwCl [(n_to, .inl (kI, 20, .inl f_n_to)), (n_goal, .inl (kI, 3, .inl f_n_goal)), (n_branch, .inl (kI, 144, .inl f_n_branch)), (n_tally, .inl (kI, 12, .inl g7_5)), (on, .inr (2, oX2 n_kind n_salt n_pace n_manner n_from n_to n_goal n_reach n_branches n_branch n_tally x_n)), (n_branches, .inl (kI, 36, .inl f_n_branches))] H := hPa
          have hD : va_D A [(n_to, .inl (kI, 20, .inl f_n_to)), (n_goal, .inl (kI, 3, .inl f_n_goal)), (n_branch, .inl (kI, 144, .inl f_n_branch)), (n_tally, .inl (kI, 12, .inl g7_5)), (on, .inr (2, oX2 n_kind n_salt n_pace n_manner n_from n_to n_goal n_reach n_branches n_branch n_tally x_n)), (n_branches, .inl (kI, 36, .inl f_n_branches))] := hDa
          clear hPa hDa
          refine W.widen (k := 0) (n := 0) (Nat.le_of_ble_eq_true rfl) (Nat.le_of_ble_eq_true rfl) ?_
          refine lv_icmp_ge (tgt := 85) hx hb dX2_shortestTo_38 rfl (fun c4 => ?_) (fun c4 => ?_)
          · refine lv_aload_n hx hb dX2_shortestTo_85 rfl (lv_at hl 0 rfl) ?_
            refine va_get (D := (dC, dI)) (ci := 2) (v := .ref n_tally) (C := RX2) (T := TX2) (N := 15) hx hb hts hin2 hown hK hP 4 rfl rfl 14 (Nat.le_of_ble_eq_true rfl) hw_0 (fun _ h9 => h9) rfl dX2_shortestTo_86 ?_
            refine lv_iload_n hx hb dX2_shortestTo_89 rfl (lv_at hl 2 rfl) ?_
            refine lv_iload_n hx hb dX2_shortestTo_90 rfl (lv_at hl 3 rfl) ?_
            refine va_iast hx hb hK hP hD hS 3 1 rfl rfl (iv_in h30_1 (by decide) (by decide)) dX2_shortestTo_91 (fun H locs hPa hDa hS => ?_)
            clear hP hD
            have hP : va_P (dC, dI) vwCl [(n_to, .inl (kI, 20, .inl f_n_to)), (n_goal, .inl (kI, 3, .inl f_n_goal)), (n_branch, .inl (kI, 144, .inl f_n_branch)), (n_tally, .inl (kI, 12, .inl (upd g7_5 v7_loc2.toNatClampNeg v30_loc3))), (on, .inr (2, oX2 n_kind n_salt n_pace n_manner n_from n_to n_goal n_reach n_branches n_branch n_tally x_n)), (n_branches, .inl (kI, 36, .inl f_n_branches))] H := hPa
            have hD : va_D A [(n_to, .inl (kI, 20, .inl f_n_to)), (n_goal, .inl (kI, 3, .inl f_n_goal)), (n_branch, .inl (kI, 144, .inl f_n_branch)), (n_tally, .inl (kI, 12, .inl (upd g7_5 v7_loc2.toNatClampNeg v30_loc3))), (on, .inr (2, oX2 n_kind n_salt n_pace n_manner n_from n_to n_goal n_reach n_branches n_branch n_tally x_n)), (n_branches, .inl (kI, 36, .inl f_n_branches))] := hDa
            clear hPa hDa
            generalize (upd g7_5 v7_loc2.toNatClampNeg v30_loc3) = f5 at hP hD
            refine lv_iinc (v := v7_loc2 + Int32.ofInt (-1)) (lv' := [(2, .int (v7_loc2 + Int32.ofInt (-1))), (0, .ref on), (1, .int p0), (3, .int v30_loc3), (4, .int v30_loc4)]) hx hb dX2_shortestTo_92 hl (k := 2) rfl (rfl) (Nat.le_of_ble_eq_true rfl) rfl (fun ls hl => ?_)
            have b6 : iv (-1) 10 (v7_loc2 + Int32.ofInt (-1)) := iv_add h30_1 ivo_m1 (by decide) (by decide) (by decide) (by decide)
            refine lv_goto (tgt := 7) hx hb dX2_shortestTo_95 rfl ?_
            have hPD9 := cl_s (wc := [(on, .inr (2, oX2 n_kind n_salt n_pace n_manner n_from n_to n_goal n_reach n_branches n_branch n_tally x_n)), (n_to, .inl (kI, 20, .inl f_n_to)), (n_goal, .inl (kI, 3, .inl f_n_goal)), (n_branches, .inl (kI, 36, .inl f_n_branches)), (n_branch, .inl (kI, 144, .inl f_n_branch)), (n_tally, .inl (kI, 12, .inl f5))]) hP hD [4, 0, 1, 5, 2, 3] rfl (by decide +kernel)
            exact ih7 f5 (v7_loc2 + Int32.ofInt (-1)) _ _ _ (ms_dn (c := 1) (d := 0) h30_1 hm7 (by decide) (iv_inc (-1) h30_1 (by decide) (by decide) (by decide) (by decide)) (by decide) rfl) ((iv_w b6 (by decide) (by decide))) (hPD9.1) (hPD9.2) hS (lv_sub hl [1, 2, 0] rfl)
          · have b7 : iv 0 3 v30_loc4 := iv_ltL (Int32.not_le.mp c4) h30_2 w3 (by decide) (by decide)
            have b8 : iv 1 4 r2 := iv_ltR (Int32.not_le.mp c4) h30_2 w3 (by decide) (by decide)
            refine lv_aload_n hx hb dX2_shortestTo_41 rfl (lv_at hl 0 rfl) ?_
            refine va_get (D := (dC, dI)) (ci := 2) (v := .ref n_tally) (C := RX2) (T := TX2) (N := 15) hx hb hts hin2 hown hK hP 4 rfl rfl 14 (Nat.le_of_ble_eq_true rfl) hw_0 (fun _ h9 => h9) rfl dX2_shortestTo_42 ?_
            refine lv_aload_n hx hb dX2_shortestTo_45 rfl (lv_at hl 0 rfl) ?_
            refine va_get (D := (dC, dI)) (ci := 2) (v := .ref n_to) (C := RX2) (T := TX2) (N := 15) hx hb hts hin2 hown hK hP 4 rfl rfl 5 (Nat.le_of_ble_eq_true rfl) hw_1 (fun _ h9 => h9) rfl dX2_shortestTo_46 ?_
            refine lv_aload_n hx hb dX2_shortestTo_49 rfl (lv_at hl 0 rfl) ?_
            refine lv_iload_n hx hb dX2_shortestTo_50 rfl (lv_at hl 2 rfl) ?_
            refine lv_iload_n hx hb dX2_shortestTo_51 rfl (lv_at hl 1 rfl) ?_
            refine lv_iload hx hb dX2_shortestTo_52 (lv_at hl 4 rfl) ?_
            obtain ⟨hPc, hDc, hFc, hJn⟩ := cl_a (wc := [(on, .inr (2, oX2 n_kind n_salt n_pace n_manner n_from n_to n_goal n_reach n_branches n_branch n_tally x_n)), (n_branch, .inl (kI, 144, .inl f_n_branch))]) (wr := [(n_to, .inl (kI, 20, .inl f_n_to)), (n_goal, .inl (kI, 3, .inl f_n_goal)), (n_tally, .inl (kI, 12, .inl g7_5)), (n_branches, .inl (kI, 36, .inl f_n_branches))]) hP hD hS hA [4, 2] [0, 1, 3, 5] rfl rfl (by decide +kernel)
            refine va_calli (va_runV (As := [.int v7_loc2, .int p0, .int v30_loc4]) (rest := [.ref n_to, .ref n_tally]) ⟨hx, hb, hml, hown, hts⟩ (s2_branchOf l dC dI kB kI kJ kZ kC kS H.size on n_kind n_salt n_pace n_manner n_from n_to n_goal n_reach n_branches n_branch n_tally x_n f_n_branch v7_loc2 p0 v30_loc4 (hx_n) (hf_n_branch) (h30_1) (hp0) (b7)) (cwV 3 hts gX2_shortestTo_X2_branchOf rfl rfl rfl (by decide +kernel) ⟨Nat.le_of_ble_eq_true rfl, Nat.le_of_ble_eq_true rfl⟩) ⟨fun a U g mk q => by obtain ⟨q0, q1, qP, qE, qD⟩ := q; exact ⟨q0, q1, qP, kE_call qE, qD⟩, va_recv hK hP (ci := 2) (q0 := 4) rfl rfl, fun U hU hW => ⟨rfl, by rw [hU], by rw [hU]; exact hPc, kE_warm hW hE, hDc.weaken (fun _ _ _ _ => trivial)⟩⟩ rfl rfl hl.1 rfl (lv_room (Nat.le_of_ble_eq_true rfl)) dX2_shortestTo_54 ⟨Nat.le_of_ble_eq_true rfl, Nat.le_of_ble_eq_true rfl⟩) hS (fun q _ h => hFc q h) hFc (fun r9 u t H locs ht hvm w10 hB hz1 hk1 hS => ?_)
            obtain ⟨hP1, hD1⟩ := hB
            try dsimp only at w10
            obtain ⟨hPa, hDa⟩ := hJn (w1 := [(on, .inr (2, oX2 n_kind n_salt n_pace n_manner n_from n_to n_goal n_reach n_branches n_branch n_tally x_n)), (n_branch, .inl (kI, 144, .inl f_n_branch))]) hk1 ht hP1 hD1
            clear hP hD hPc hDc hFc hJn hP1 hD1 hk1
            have hP : va_P (dC, dI) vwCl [(n_to, .inl (kI, 20, .inl f_n_to)), (n_goal, .inl (kI, 3, .inl f_n_goal)), (n_tally, .inl (kI, 12, .inl g7_5)), (n_branches, .inl (kI, 36, .inl f_n_branches)), (on, .inr (2, oX2 n_kind n_salt n_pace n_manner n_from n_to n_goal n_reach n_branches n_branch n_tally x_n)), (n_branch, .inl (kI, 144, .inl f_n_branch))] H := hPa
            have hD : va_D A [(n_to, .inl (kI, 20, .inl f_n_to)), (n_goal, .inl (kI, 3, .inl f_n_goal)), (n_tally, .inl (kI, 12, .inl g7_5)), (n_branches, .inl (kI, 36, .inl f_n_branches)), (on, .inr (2, oX2 n_kind n_salt n_pace n_manner n_from n_to n_goal n_reach n_branches n_branch n_tally x_n)), (n_branch, .inl (kI, 144, .inl f_n_branch))] := hDa
            clear hPa hDa
            refine W.widen (k := 0) (n := 0) (Nat.le_of_ble_eq_true rfl) (Nat.le_of_ble_eq_true rfl) ?_
            refine va_iald hx hb hK hP 0 1 rfl rfl (iv_in w10 (by decide) (by decide)) dX2_shortestTo_57 ?_
            refine iv_top (a := 0) (b := 11) (hf_n_to _) (fun z11 b12 => ?_)
            refine va_iald hx hb hK hP 2 1 rfl rfl (iv_in b12 (by decide) (by decide)) dX2_shortestTo_58 ?_
            refine lv_topi (fun z13 _ => ?_)
            refine lv_iconst (v := 1) hx hb dX2_shortestTo_59 ic_1 ?_
            refine lv_iadd hx hb dX2_shortestTo_60 ?_
            refine lv_topi (fun z14 _ => ?_)
            refine lv_istore (lv' := [(5, .int z14), (0, .ref on), (1, .int p0), (2, .int v7_loc2), (3, .int v30_loc3), (4, .int v30_loc4)]) hx hb dX2_shortestTo_61 hl (Nat.le_of_ble_eq_true rfl) rfl (fun ls hl => ?_)
            refine lv_iload_n hx hb dX2_shortestTo_63 rfl (lv_at hl 4 rfl) ?_
            refine lv_if_ne (tgt := 72) hx hb dX2_shortestTo_64 rfl (fun c15 => ?_) (fun c15 => ?_)
            · refine lv_iload_n hx hb dX2_shortestTo_72 rfl (lv_at hl 4 rfl) ?_
              refine lv_iload hx hb dX2_shortestTo_73 (lv_at hl 0 rfl) ?_
              refine va_mmin hx hb (by rw [hml]; exact hl.1.symm) hown hw_2 hw_3 hw_4 hw_5 (Nat.le_of_ble_eq_true rfl) (Nat.le_of_ble_eq_true rfl) (Nat.le_of_ble_eq_true rfl) (Nat.le_of_ble_eq_true rfl) dX2_shortestTo_75 ?_
              refine lv_topi (fun z16 _ => ?_)
              have hPD9 := cl_s (wc := [(on, .inr (2, oX2 n_kind n_salt n_pace n_manner n_from n_to n_goal n_reach n_branches n_branch n_tally x_n)), (n_to, .inl (kI, 20, .inl f_n_to)), (n_goal, .inl (kI, 3, .inl f_n_goal)), (n_branches, .inl (kI, 36, .inl f_n_branches)), (n_branch, .inl (kI, 144, .inl f_n_branch)), (n_tally, .inl (kI, 12, .inl g7_5))]) hP hD [4, 0, 1, 3, 5, 2] rfl (by decide +kernel)
              exact hJ78 z14 z16 _ _ _ (b7) (hPD9.1) (hPD9.2) hS (lv_sub hl [1, 2, 3, 4, 5, 0] rfl)
            · have b17 : iv 0 0 v30_loc3 := iv_eqL c15 ivk_0
              refine lv_iload hx hb dX2_shortestTo_67 (lv_at hl 0 rfl) ?_
              refine lv_goto (tgt := 78) hx hb dX2_shortestTo_69 rfl ?_
              have hPD9 := cl_s (wc := [(on, .inr (2, oX2 n_kind n_salt n_pace n_manner n_from n_to n_goal n_reach n_branches n_branch n_tally x_n)), (n_to, .inl (kI, 20, .inl f_n_to)), (n_goal, .inl (kI, 3, .inl f_n_goal)), (n_branches, .inl (kI, 36, .inl f_n_branches)), (n_branch, .inl (kI, 144, .inl f_n_branch)), (n_tally, .inl (kI, 12, .inl g7_5))]) hP hD [4, 0, 1, 3, 5, 2] rfl (by decide +kernel)
              exact hJ78 z14 z14 _ _ _ (b7) (hPD9.1) (hPD9.2) hS (lv_sub hl [1, 2, 3, 4, 5, 0] rfl)
      have hJ26 : ∀ (v26_stk0 : Int32) (H : Heap) (locs : List Loc) (ls : Array Slot), iv 0 11 v7_loc2 → iv 0 1 v26_stk0 → va_P (dC, dI) vwCl [(on, .inr (2, oX2 n_kind n_salt n_pace n_manner n_from n_to n_goal n_reach n_branches n_branch n_tally x_n)), (n_to, .inl (kI, 20, .inl f_n_to)), (n_goal, .inl (kI, 3, .inl f_n_goal)), (n_branches, .inl (kI, 36, .inl f_n_branches)), (n_branch, .inl (kI, 144, .inl f_n_branch)), (n_tally, .inl (kI, 12, .inl g7_5))] H → va_D A [(on, .inr (2, oX2 n_kind n_salt n_pace n_manner n_from n_to n_goal n_reach n_branches n_branch n_tally x_n)), (n_to, .inl (kI, 20, .inl f_n_to)), (n_goal, .inl (kI, 3, .inl f_n_goal)), (n_branches, .inl (kI, 36, .inl f_n_branches)), (n_branch, .inl (kI, 144, .inl f_n_branch)), (n_tally, .inl (kI, 12, .inl g7_5))] → va_S A s.heap H locs → lv_has ls 6 [(0, .ref on), (1, .int p0), (2, .int v7_loc2)] → W p l e (headSpec wsX2_shortestTo rm_s2_shortestTo).room s m args0 below meth c H locs (0) (0) (MQ below (va_Qi (fun (r : Int32) (_ : Unit) => True) (fun _ t => ∃ (f_n_tally' : Nat → Int32), va_P (dC, dI) vwCl [(on, .inr (2, oX2 n_kind n_salt n_pace n_manner n_from n_to n_goal n_reach n_branches n_branch n_tally x_n)), (n_to, .inl (kI, 20, .inl f_n_to)), (n_goal, .inl (kI, 3, .inl f_n_goal)), (n_branches, .inl (kI, 36, .inl f_n_branches)), (n_branch, .inl (kI, 144, .inl f_n_branch)), (n_tally, .inl (kI, 12, .inl f_n_tally'))] t.heap ∧ va_D A [(on, .inr (2, oX2 n_kind n_salt n_pace n_manner n_from n_to n_goal n_reach n_branches n_branch n_tally x_n)), (n_to, .inl (kI, 20, .inl f_n_to)), (n_goal, .inl (kI, 3, .inl f_n_goal)), (n_branches, .inl (kI, 36, .inl f_n_branches)), (n_branch, .inl (kI, 144, .inl f_n_branch)), (n_tally, .inl (kI, 12, .inl f_n_tally'))]) A) args0 s 0 0 A) (F0 m 26 ls [.int v26_stk0]) := by
        intro v26_stk0 H locs ls h26_1 h26_2 hP hD hS hl
        refine lv_istore_n (lv' := [(3, .int v26_stk0), (0, .ref on), (1, .int p0), (2, .int v7_loc2)]) hx hb dX2_shortestTo_26 rfl hl (Nat.le_of_ble_eq_true rfl) rfl (fun ls hl => ?_)
        refine lv_iconst (v := 0) hx hb dX2_shortestTo_27 ic_0 ?_
        refine lv_istore (lv' := [(4, .int 0), (3, .int v26_stk0), (0, .ref on), (1, .int p0), (2, .int v7_loc2)]) hx hb dX2_shortestTo_28 hl (Nat.le_of_ble_eq_true rfl) rfl (fun ls hl => ?_)
        exact hJ30 _ v26_stk0 0 _ _ _ (Nat.lt_succ_self _) (h26_1) ((iv_w ivk_0 (by decide) (by decide))) (hP) (hD) hS (lv_sub hl [2, 3, 4, 1, 0] rfl)
      refine lv_iload_n hx hb dX2_shortestTo_7 rfl (lv_at hl 2 rfl) ?_
      refine lv_if_lt (tgt := 98) hx hb dX2_shortestTo_8 rfl (fun c18 => ?_) (fun c18 => ?_)
      · have b19 : iv (-1) (-1) v7_loc2 := iv_ltL c18 h7_1 ivk_0 (by decide) (by decide)
        refine lv_aload_n hx hb dX2_shortestTo_98 rfl (lv_at hl 0 rfl) ?_
        refine va_get (D := (dC, dI)) (ci := 2) (v := .ref n_tally) (C := RX2) (T := TX2) (N := 15) hx hb hts hin2 hown hK hP 0 rfl rfl 14 (Nat.le_of_ble_eq_true rfl) hw_0 (fun _ h9 => h9) rfl dX2_shortestTo_99 ?_
        refine lv_iconst (v := 0) hx hb dX2_shortestTo_102 ic_0 ?_
        refine va_iald hx hb hK hP 5 1 rfl rfl (vp_in_nI (n := 0) (by decide) (by decide)) dX2_shortestTo_103 ?_
        refine W.eq (g2 := F0 m 104 ls [.int (g7_5 0)]) rfl ?_
        have hP9 := hP
        have hD9 := hD
        exact W.iret (v := g7_5 0) hx hb hr (fun t ht hW => ⟨⟨g7_5 0, (), rfl, trivial, g7_5, by rw [ht]; exact hP9, hD9⟩, hS.F ht⟩) hS.2.2 dX2_shortestTo_104
      · have b20 : iv 0 11 v7_loc2 := iv_leR (Int32.not_lt.mp c18) ivk_0 h7_1 (by decide) (by decide)
        refine lv_iload_n hx hb dX2_shortestTo_11 rfl (lv_at hl 2 rfl) ?_
        refine lv_aload_n hx hb dX2_shortestTo_12 rfl (lv_at hl 0 rfl) ?_
        refine va_get (D := (dC, dI)) (ci := 2) (v := .ref n_goal) (C := RX2) (T := TX2) (N := 15) hx hb hts hin2 hown hK hP 0 rfl rfl 6 (Nat.le_of_ble_eq_true rfl) hw_6 (fun _ h9 => h9) rfl dX2_shortestTo_13 ?_
        refine lv_iload_n hx hb dX2_shortestTo_16 rfl (lv_at hl 1 rfl) ?_
        refine va_iald hx hb hK hP 2 1 rfl rfl (iv_in hp0 (by decide) (by decide)) dX2_shortestTo_17 ?_
        refine iv_top (a := 0) (b := 11) (hf_n_goal _) (fun z21 b22 => ?_)
        refine lv_icmp_ne (tgt := 25) hx hb dX2_shortestTo_18 rfl (fun c23 => ?_) (fun c23 => ?_)
        · refine lv_iconst (v := 0) hx hb dX2_shortestTo_25 ic_0 ?_
          exact hJ26 0 _ _ _ (b20) ((iv_w ivk_0 (by decide) (by decide))) (hP) (hD) hS (lv_sub hl [0, 1, 2] rfl)
        · refine lv_iconst (v := 1) hx hb dX2_shortestTo_21 ic_1 ?_
          refine lv_goto (tgt := 26) hx hb dX2_shortestTo_22 rfl ?_
          exact hJ26 1 _ _ _ (b20) ((iv_w ivk_1 (by decide) (by decide))) (hP) (hD) hS (lv_sub hl [0, 1, 2] rfl)
  refine lv_aload_n hx hb dX2_shortestTo_0 rfl (lv_at hl 0 rfl) ?_
  refine va_get (D := (dC, dI)) (ci := 2) (v := .int (x_n 0)) (C := RX2) (T := TX2) (N := 15) hx hb hts hin2 hown hK hP 0 rfl rfl 7 (Nat.le_of_ble_eq_true rfl) hw_7 (fun _ h9 => h9) rfl dX2_shortestTo_1 ?_
  refine lv_iconst (v := 1) hx hb dX2_shortestTo_4 ic_1 ?_
  refine lv_isub hx hb dX2_shortestTo_5 ?_
  refine iv_top (a := (-1)) (b := 11) (iv_sub (hx_n 0 : iv 0 12 (x_n 0)) ivk_1 (by decide) (by decide) (by decide) (by decide)) (fun z24 b25 => ?_)
  refine lv_istore_n (lv' := [(2, .int z24), (0, .ref on), (1, .int p0)]) hx hb dX2_shortestTo_6 rfl hl (Nat.le_of_ble_eq_true rfl) rfl (fun ls hl => ?_)
  exact hJ7 _ f_n_tally z24 _ _ _ (Nat.lt_succ_self _) (b25) (hP) (hD) hS (lv_sub hl [1, 2, 0] rfl)
def rm_s2_placesBehind : Room := { frames := 1, cells := 0, slots := 0, locals := 23 }
set_option maxHeartbeats 4000000 in
set_option maxRecDepth 100000 in
theorem s2_placesBehind (l : Launch) (dC : Nat → ClassId) (dI : Nat → Nat → Nat) (kB kI kJ kZ kC kS : ClassId) (sz : Nat) (on : Nat) (n_kind : Nat) (n_salt : Nat) (n_pace : Nat) (n_manner : Nat) (n_from : Nat) (n_to : Nat) (n_goal : Nat) (n_reach : Nat) (n_branches : Nat) (n_branch : Nat) (n_tally : Nat) (x_n : Nat → Int32) (f_n_to : Nat → Int32) (f_n_branches : Nat → Int32) (f_n_branch : Nat → Int32) (p0 : Int32) (p1 : Int32) (hx_n : fI lX2 hX2 x_n) (hf_n_to : fI (fun _ => 0) (fun _ => 11) f_n_to) (hf_n_branches : fI (fun _ => 0) (fun _ => 4) f_n_branches) (hf_n_branch : fI (fun _ => 0) (fun _ => 19) f_n_branch) (hp0 : iv 0 2 p0) : Met l yX2_placesBehind wsX2_placesBehind rm_s2_placesBehind (va_Pc [.ref on, .int p0, .int p1] (fun U => U.heap.size = sz ∧ va_P (dC, dI) vwCl [(on, .inr (2, oX2 n_kind n_salt n_pace n_manner n_from n_to n_goal n_reach n_branches n_branch n_tally x_n)), (n_to, .inl (kI, 20, .inl f_n_to)), (n_branches, .inl (kI, 36, .inl f_n_branches)), (n_branch, .inl (kI, 144, .inl f_n_branch))] U.heap ∧ kE dC dI kB kI kJ kZ kC kS U ∧ va_D (fun _ => True) [(on, .inr (2, oX2 n_kind n_salt n_pace n_manner n_from n_to n_goal n_reach n_branches n_branch n_tally x_n)), (n_to, .inl (kI, 20, .inl f_n_to)), (n_branches, .inl (kI, 36, .inl f_n_branches)), (n_branch, .inl (kI, 144, .inl f_n_branch))])) (va_Qi (fun (r : Int32) (_ : Unit) => True) (fun _ t => va_P (dC, dI) vwCl [(on, .inr (2, oX2 n_kind n_salt n_pace n_manner n_from n_to n_goal n_reach n_branches n_branch n_tally x_n)), (n_to, .inl (kI, 20, .inl f_n_to)), (n_branches, .inl (kI, 36, .inl f_n_branches)), (n_branch, .inl (kI, 144, .inl f_n_branch))] t.heap ∧ va_D (va_A [(on, .inr (2, oX2 n_kind n_salt n_pace n_manner n_from n_to n_goal n_reach n_branches n_branch n_tally x_n)), (n_to, .inl (kI, 20, .inl f_n_to)), (n_branches, .inl (kI, 36, .inl f_n_branches)), (n_branch, .inl (kI, 144, .inl f_n_branch))] sz) [(on, .inr (2, oX2 n_kind n_salt n_pace n_manner n_from n_to n_goal n_reach n_branches n_branch n_tally x_n)), (n_to, .inl (kI, 20, .inl f_n_to)), (n_branches, .inl (kI, 36, .inl f_n_branches)), (n_branch, .inl (kI, 144, .inl f_n_branch))]) (va_A [(on, .inr (2, oX2 n_kind n_salt n_pace n_manner n_from n_to n_goal n_reach n_branches n_branch n_tally x_n)), (n_to, .inl (kI, 20, .inl f_n_to)), (n_branches, .inl (kI, 36, .inl f_n_branches)), (n_branch, .inl (kI, 144, .inl f_n_branch))] sz)) 0 0 (va_A [(on, .inr (2, oX2 n_kind n_salt n_pace n_manner n_from n_to n_goal n_reach n_branches n_branch n_tally x_n)), (n_to, .inl (kI, 20, .inl f_n_to)), (n_branches, .inl (kI, 36, .inl f_n_branches)), (n_branch, .inl (kI, 144, .inl f_n_branch))] sz) := by
  refine Met.ofW (cc := cX2_placesBehind) (maxL := 7) (ret := (some .int)) (by decide) rfl ?_
  intro p e s m args0 below meth c s₁ B hml hv
  obtain ⟨hargs, hsz, hP, hE, hD0⟩ := hv
  have hx := B.exec
  have hb := B.bytes
  have hr := B.returns
  have hts := atoms_spec (ws := wsX2_placesBehind) B.pre
  have hown : s.vm.findClass RX2 = some m.cls := findClass_of_methodNamed B.named
  have hlocks := B.notSynchronized
  have hK := hE.1
  have hin2 : ∀ w ∈ wsX20, w ∈ wsX2_placesBehind := fun _ h9 => List.mem_cons_of_mem _ (List.mem_append_right _ h9)
  have hw_0 := hts (.fieldLink RX2 37 "PathProber$Net" "links" "I") (List.mem_of_getElem? (i := 1) rfl)
  subst hsz
  have hD := hD0.self (sz := s.heap.size)
  generalize hAe : va_A [(on, .inr (2, oX2 n_kind n_salt n_pace n_manner n_from n_to n_goal n_reach n_branches n_branch n_tally x_n)), (n_to, .inl (kI, 20, .inl f_n_to)), (n_branches, .inl (kI, 36, .inl f_n_branches)), (n_branch, .inl (kI, 144, .inl f_n_branch))] s.heap.size = A at hD ⊢
  have hA : ∀ q : Nat, s.heap.size ≤ q → A q := fun q h => by rw [← hAe]; exact Or.inr h
  have hS : va_S A s.heap s.heap [] := va_S.rf
  have hP : va_P (dC, dI) vwCl [(on, .inr (2, oX2 n_kind n_salt n_pace n_manner n_from n_to n_goal n_reach n_branches n_branch n_tally x_n)), (n_to, .inl (kI, 20, .inl f_n_to)), (n_branches, .inl (kI, 36, .inl f_n_branches)), (n_branch, .inl (kI, 144, .inl f_n_branch))] s.heap := hP
  have hl := lv_entry ([.ref on, .int p0, .int p1]) (n := 7) (Nat.le_of_ble_eq_true rfl)
  have hla : entryFrame m args0 7 = entryFrame m ([.ref on, .int p0, .int p1] : List Value).toArray 7 := by rw [hargs]
  rw [hla, lg_entry_eq]
  generalize (lg_sl ([.ref on, .int p0, .int p1]) ++ List.replicate (7 - (lg_sl ([.ref on, .int p0, .int p1])).length) Slot.unset).toArray = ls at hl ⊢
  have hl : lv_has ls 7 [(0, .ref on), (1, .int p0), (2, .int p1)] := hl
  have hJ5 : ∀ (n : Nat) (v5_loc3 : Int32) (v5_loc4 : Int32) (H : Heap) (locs : List Loc) (ls : Array Slot), (2147483647 - v5_loc4.toInt).toNat < n → iv 0 2147483647 v5_loc4 → va_P (dC, dI) vwCl [(on, .inr (2, oX2 n_kind n_salt n_pace n_manner n_from n_to n_goal n_reach n_branches n_branch n_tally x_n)), (n_to, .inl (kI, 20, .inl f_n_to)), (n_branches, .inl (kI, 36, .inl f_n_branches)), (n_branch, .inl (kI, 144, .inl f_n_branch))] H → va_D A [(on, .inr (2, oX2 n_kind n_salt n_pace n_manner n_from n_to n_goal n_reach n_branches n_branch n_tally x_n)), (n_to, .inl (kI, 20, .inl f_n_to)), (n_branches, .inl (kI, 36, .inl f_n_branches)), (n_branch, .inl (kI, 144, .inl f_n_branch))] → va_S A s.heap H locs → lv_has ls 7 [(0, .ref on), (1, .int p0), (2, .int p1), (3, .int v5_loc3), (4, .int v5_loc4)] → W p l e (headSpec wsX2_placesBehind rm_s2_placesBehind).room s m args0 below meth c H locs (0) (0) (MQ below (va_Qi (fun (r : Int32) (_ : Unit) => True) (fun _ t => va_P (dC, dI) vwCl [(on, .inr (2, oX2 n_kind n_salt n_pace n_manner n_from n_to n_goal n_reach n_branches n_branch n_tally x_n)), (n_to, .inl (kI, 20, .inl f_n_to)), (n_branches, .inl (kI, 36, .inl f_n_branches)), (n_branch, .inl (kI, 144, .inl f_n_branch))] t.heap ∧ va_D A [(on, .inr (2, oX2 n_kind n_salt n_pace n_manner n_from n_to n_goal n_reach n_branches n_branch n_tally x_n)), (n_to, .inl (kI, 20, .inl f_n_to)), (n_branches, .inl (kI, 36, .inl f_n_branches)), (n_branch, .inl (kI, 144, .inl f_n_branch))]) A) args0 s 0 0 A) (F0 m 5 ls []) := by
    intro n
    induction n with
    | zero => intro v5_loc3 v5_loc4 H locs ls hm5; exact absurd hm5 (Nat.not_lt_zero _)
    | succ n ih5 =>
      intro v5_loc3 v5_loc4 H locs ls hm5 h5_1 hP hD hS hl
      have hJ69 : ∀ (v69_loc3 : Int32) (H : Heap) (locs : List Loc) (ls : Array Slot), iv 0 20 v5_loc4 → va_P (dC, dI) vwCl [(on, .inr (2, oX2 n_kind n_salt n_pace n_manner n_from n_to n_goal n_reach n_branches n_branch n_tally x_n)), (n_to, .inl (kI, 20, .inl f_n_to)), (n_branches, .inl (kI, 36, .inl f_n_branches)), (n_branch, .inl (kI, 144, .inl f_n_branch))] H → va_D A [(on, .inr (2, oX2 n_kind n_salt n_pace n_manner n_from n_to n_goal n_reach n_branches n_branch n_tally x_n)), (n_to, .inl (kI, 20, .inl f_n_to)), (n_branches, .inl (kI, 36, .inl f_n_branches)), (n_branch, .inl (kI, 144, .inl f_n_branch))] → va_S A s.heap H locs → lv_has ls 7 [(0, .ref on), (1, .int p0), (2, .int p1), (3, .int v69_loc3), (4, .int v5_loc4)] → W p l e (headSpec wsX2_placesBehind rm_s2_placesBehind).room s m args0 below meth c H locs (0) (0) (MQ below (va_Qi (fun (r : Int32) (_ : Unit) => True) (fun _ t => va_P (dC, dI) vwCl [(on, .inr (2, oX2 n_kind n_salt n_pace n_manner n_from n_to n_goal n_reach n_branches n_branch n_tally x_n)), (n_to, .inl (kI, 20, .inl f_n_to)), (n_branches, .inl (kI, 36, .inl f_n_branches)), (n_branch, .inl (kI, 144, .inl f_n_branch))] t.heap ∧ va_D A [(on, .inr (2, oX2 n_kind n_salt n_pace n_manner n_from n_to n_goal n_reach n_branches n_branch n_tally x_n)), (n_to, .inl (kI, 20, .inl f_n_to)), (n_branches, .inl (kI, 36, .inl f_n_branches)), (n_branch, .inl (kI, 144, .inl f_n_branch))]) A) args0 s 0 0 A) (F0 m 69 ls []) := by
        intro v69_loc3 H locs ls h69_1 hP hD hS hl
        refine lv_iinc (v := v5_loc4 + Int32.ofInt 1) (lv' := [(4, .int (v5_loc4 + Int32.ofInt 1)), (0, .ref on), (1, .int p0), (2, .int p1), (3, .int v69_loc3)]) hx hb dX2_placesBehind_69 hl (k := 4) rfl (rfl) (Nat.le_of_ble_eq_true rfl) rfl (fun ls hl => ?_)
        have b1 : iv 1 21 (v5_loc4 + Int32.ofInt 1) := iv_add h69_1 ivo_1 (by decide) (by decide) (by decide) (by decide)
        refine lv_goto (tgt := 5) hx hb dX2_placesBehind_72 rfl ?_
        exact ih5 v69_loc3 (v5_loc4 + Int32.ofInt 1) _ _ _ (ms_up (c := 1) (d := 0) h69_1 hm5 (by decide) (iv_inc 1 h69_1 (by decide) (by decide) (by decide) (by decide)) (by decide) rfl) ((iv_w b1 (by decide) (by decide))) (hP) (hD) hS (lv_sub hl [1, 2, 3, 4, 0] rfl)
      have hJ35 : ∀ (n : Nat) (v35_loc3 : Int32) (v35_loc5 : Int32) (v35_loc6 : Int32) (H : Heap) (locs : List Loc) (ls : Array Slot), (4 - v35_loc6.toInt).toNat < n → iv 0 20 v5_loc4 → iv 0 11 v35_loc5 → iv 0 4 v35_loc6 → va_P (dC, dI) vwCl [(on, .inr (2, oX2 n_kind n_salt n_pace n_manner n_from n_to n_goal n_reach n_branches n_branch n_tally x_n)), (n_to, .inl (kI, 20, .inl f_n_to)), (n_branches, .inl (kI, 36, .inl f_n_branches)), (n_branch, .inl (kI, 144, .inl f_n_branch))] H → va_D A [(on, .inr (2, oX2 n_kind n_salt n_pace n_manner n_from n_to n_goal n_reach n_branches n_branch n_tally x_n)), (n_to, .inl (kI, 20, .inl f_n_to)), (n_branches, .inl (kI, 36, .inl f_n_branches)), (n_branch, .inl (kI, 144, .inl f_n_branch))] → va_S A s.heap H locs → lv_has ls 7 [(0, .ref on), (1, .int p0), (2, .int p1), (3, .int v35_loc3), (4, .int v5_loc4), (5, .int v35_loc5), (6, .int v35_loc6)] → W p l e (headSpec wsX2_placesBehind rm_s2_placesBehind).room s m args0 below meth c H locs (0) (0) (MQ below (va_Qi (fun (r : Int32) (_ : Unit) => True) (fun _ t => va_P (dC, dI) vwCl [(on, .inr (2, oX2 n_kind n_salt n_pace n_manner n_from n_to n_goal n_reach n_branches n_branch n_tally x_n)), (n_to, .inl (kI, 20, .inl f_n_to)), (n_branches, .inl (kI, 36, .inl f_n_branches)), (n_branch, .inl (kI, 144, .inl f_n_branch))] t.heap ∧ va_D A [(on, .inr (2, oX2 n_kind n_salt n_pace n_manner n_from n_to n_goal n_reach n_branches n_branch n_tally x_n)), (n_to, .inl (kI, 20, .inl f_n_to)), (n_branches, .inl (kI, 36, .inl f_n_branches)), (n_branch, .inl (kI, 144, .inl f_n_branch))]) A) args0 s 0 0 A) (F0 m 35 ls []) := by
        intro n
        induction n with
        | zero => intro v35_loc3 v35_loc5 v35_loc6 H locs ls hm35; exact absurd hm35 (Nat.not_lt_zero _)
        | succ n ih35 =>
          intro v35_loc3 v35_loc5 v35_loc6 H locs ls hm35 h35_1 h35_2 h35_3 hP hD hS hl
          refine lv_iload hx hb dX2_placesBehind_35 (lv_at hl 6 rfl) ?_
          refine lv_aload_n hx hb dX2_placesBehind_37 rfl (lv_at hl 0 rfl) ?_
          refine lv_iload hx hb dX2_placesBehind_38 (lv_at hl 5 rfl) ?_
          refine lv_iload_n hx hb dX2_placesBehind_40 rfl (lv_at hl 1 rfl) ?_
          obtain ⟨hPc, hDc, hFc, hJn⟩ := cl_a (wc := [(on, .inr (2, oX2 n_kind n_salt n_pace n_manner n_from n_to n_goal n_reach n_branches n_branch n_tally x_n)), (n_branches, .inl (kI, 36, .inl f_n_branches))]) (wr := [(n_to, .inl (kI, 20, .inl f_n_to)), (n_branch, .inl (kI, 144, .inl f_n_branch))]) hP hD hS hA [0, 2] [1, 3] rfl rfl (by decide +kernel)
          refine va_calli (va_runV (As := [.int v35_loc5, .int p0]) (rest := [.int v35_loc6]) ⟨hx, hb, hml, hown, hts⟩ (s2_branchesOf l dC dI kB kI kJ kZ kC kS H.size on n_kind n_salt n_pace n_manner n_from n_to n_goal n_reach n_branches n_branch n_tally x_n f_n_branches v35_loc5 p0 (hx_n) (hf_n_branches) (h35_2) (hp0)) (cwV 2 hts gX2_placesBehind_X2_branchesOf rfl rfl rfl (by decide +kernel) ⟨Nat.le_of_ble_eq_true rfl, Nat.le_of_ble_eq_true rfl⟩) ⟨fun a U g mk q => by obtain ⟨q0, q1, qP, qE, qD⟩ := q; exact ⟨q0, q1, qP, kE_call qE, qD⟩, va_recv hK hP (ci := 2) (q0 := 0) rfl rfl, fun U hU hW => ⟨rfl, by rw [hU], by rw [hU]; exact hPc, kE_warm hW hE, hDc.weaken (fun _ _ _ _ => trivial)⟩⟩ rfl rfl hl.1 rfl (lv_room (Nat.le_of_ble_eq_true rfl)) dX2_placesBehind_41 ⟨Nat.le_of_ble_eq_true rfl, Nat.le_of_ble_eq_true rfl⟩) hS (fun q _ h => hFc q h) hFc (fun r2 u t H locs ht hvm w3 hB hz1 hk1 hS => ?_)
          obtain ⟨hP1, hD1⟩ := hB
          try dsimp only at w3
          obtain ⟨hPa, hDa⟩ := hJn (w1 := [(on, .inr (2, oX2 n_kind n_salt n_pace n_manner n_from n_to n_goal n_reach n_branches n_branch n_tally x_n)), (n_branches, .inl (kI, 36, .inl f_n_branches))]) hk1 ht hP1 hD1
          clear hP hD hPc hDc hFc hJn hP1 hD1 hk1
          have hP : va_P (dC, dI) vwCl [(n_to, .inl (kI, 20, .inl f_n_to)), (n_branch, .inl (kI, 144, .inl f_n_branch)), (on, .inr (2, oX2 n_kind n_salt n_pace n_manner n_from n_to n_goal n_reach n_branches n_branch n_tally x_n)), (n_branches, .inl (kI, 36, .inl f_n_branches))] H := hPa
          have hD : va_D A [(n_to, .inl (kI, 20, .inl f_n_to)), (n_branch, .inl (kI, 144, .inl f_n_branch)), (on, .inr (2, oX2 n_kind n_salt n_pace n_manner n_from n_to n_goal n_reach n_branches n_branch n_tally x_n)), (n_branches, .inl (kI, 36, .inl f_n_branches))] := hDa
          clear hPa hDa
          refine W.widen (k := 0) (n := 0) (Nat.le_of_ble_eq_true rfl) (Nat.le_of_ble_eq_true rfl) ?_
          refine lv_icmp_ge (tgt := 69) hx hb dX2_placesBehind_44 rfl (fun c4 => ?_) (fun c4 => ?_)
          · have hPD9 := cl_s (wc := [(on, .inr (2, oX2 n_kind n_salt n_pace n_manner n_from n_to n_goal n_reach n_branches n_branch n_tally x_n)), (n_to, .inl (kI, 20, .inl f_n_to)), (n_branches, .inl (kI, 36, .inl f_n_branches)), (n_branch, .inl (kI, 144, .inl f_n_branch))]) hP hD [2, 0, 3, 1] rfl (by decide +kernel)
            exact hJ69 v35_loc3 _ _ _ (h35_1) (hPD9.1) (hPD9.2) hS (lv_sub hl [0, 1, 2, 3, 4] rfl)
          · have b5 : iv 0 3 v35_loc6 := iv_ltL (Int32.not_le.mp c4) h35_3 w3 (by decide) (by decide)
            have b6 : iv 1 4 r2 := iv_ltR (Int32.not_le.mp c4) h35_3 w3 (by decide) (by decide)
            refine lv_iload_n hx hb dX2_placesBehind_47 rfl (lv_at hl 3 rfl) ?_
            refine lv_iconst (v := 1) hx hb dX2_placesBehind_48 ic_1 ?_
            refine lv_aload_n hx hb dX2_placesBehind_49 rfl (lv_at hl 0 rfl) ?_
            refine lv_iload hx hb dX2_placesBehind_50 (lv_at hl 5 rfl) ?_
            refine lv_iload_n hx hb dX2_placesBehind_52 rfl (lv_at hl 1 rfl) ?_
            refine lv_iload hx hb dX2_placesBehind_53 (lv_at hl 6 rfl) ?_
            obtain ⟨hPc, hDc, hFc, hJn⟩ := cl_a (wc := [(on, .inr (2, oX2 n_kind n_salt n_pace n_manner n_from n_to n_goal n_reach n_branches n_branch n_tally x_n)), (n_branch, .inl (kI, 144, .inl f_n_branch))]) (wr := [(n_to, .inl (kI, 20, .inl f_n_to)), (n_branches, .inl (kI, 36, .inl f_n_branches))]) hP hD hS hA [2, 1] [0, 3] rfl rfl (by decide +kernel)
            refine va_calli (va_runV (As := [.int v35_loc5, .int p0, .int v35_loc6]) (rest := [.int 1, .int v35_loc3]) ⟨hx, hb, hml, hown, hts⟩ (s2_branchOf l dC dI kB kI kJ kZ kC kS H.size on n_kind n_salt n_pace n_manner n_from n_to n_goal n_reach n_branches n_branch n_tally x_n f_n_branch v35_loc5 p0 v35_loc6 (hx_n) (hf_n_branch) (h35_2) (hp0) (b5)) (cwV 3 hts gX2_placesBehind_X2_branchOf rfl rfl rfl (by decide +kernel) ⟨Nat.le_of_ble_eq_true rfl, Nat.le_of_ble_eq_true rfl⟩) ⟨fun a U g mk q => by obtain ⟨q0, q1, qP, qE, qD⟩ := q; exact ⟨q0, q1, qP, kE_call qE, qD⟩, va_recv hK hP (ci := 2) (q0 := 2) rfl rfl, fun U hU hW => ⟨rfl, by rw [hU], by rw [hU]; exact hPc, kE_warm hW hE, hDc.weaken (fun _ _ _ _ => trivial)⟩⟩ rfl rfl hl.1 rfl (lv_room (Nat.le_of_ble_eq_true rfl)) dX2_placesBehind_55 ⟨Nat.le_of_ble_eq_true rfl, Nat.le_of_ble_eq_true rfl⟩) hS (fun q _ h => hFc q h) hFc (fun r7 u t H locs ht hvm w8 hB hz1 hk1 hS => ?_)
            obtain ⟨hP1, hD1⟩ := hB
            try dsimp only at w8
            obtain ⟨hPa, hDa⟩ := hJn (w1 := [(on, .inr (2, oX2 n_kind n_salt n_pace n_manner n_from n_to n_goal n_reach n_branches n_branch n_tally x_n)), (n_branch, .inl (kI, 144, .inl f_n_branch))]) hk1 ht hP1 hD1
            clear hP hD hPc hDc hFc hJn hP1 hD1 hk1
            have hP : va_P (dC, dI) vwCl [(n_to, .inl (kI, 20, .inl f_n_to)), (n_branches, .inl (kI, 36, .inl f_n_branches)), (on, .inr (2, oX2 n_kind n_salt n_pace n_manner n_from n_to n_goal n_reach n_branches n_branch n_tally x_n)), (n_branch, .inl (kI, 144, .inl f_n_branch))] H := hPa
            have hD : va_D A [(n_to, .inl (kI, 20, .inl f_n_to)), (n_branches, .inl (kI, 36, .inl f_n_branches)), (on, .inr (2, oX2 n_kind n_salt n_pace n_manner n_from n_to n_goal n_reach n_branches n_branch n_tally x_n)), (n_branch, .inl (kI, 144, .inl f_n_branch))] := hDa
            clear hPa hDa
            refine W.widen (k := 0) (n := 0) (Nat.le_of_ble_eq_true rfl) (Nat.le_of_ble_eq_true rfl) ?_
            refine lv_iconst (v := 1) hx hb dX2_placesBehind_58 ic_1 ?_
            refine lv_iadd hx hb dX2_placesBehind_59 ?_
            refine iv_top (a := 1) (b := 20) (iv_add w8 ivk_1 (by decide) (by decide) (by decide) (by decide)) (fun z9 b10 => ?_)
            refine lv_ishl hx hb dX2_placesBehind_60 ?_
            refine iv_top (a := 0) (b := 1048576) (iv_shl1 20 b10 (by decide) (by decide) (by decide) (by decide)) (fun z11 b12 => ?_)
            refine lv_ior hx hb dX2_placesBehind_61 ?_
            refine lv_topi (fun z13 _ => ?_)
            refine lv_istore_n (lv' := [(3, .int z13), (0, .ref on), (1, .int p0), (2, .int p1), (4, .int v5_loc4), (5, .int v35_loc5), (6, .int v35_loc6)]) hx hb dX2_placesBehind_62 rfl hl (Nat.le_of_ble_eq_true rfl) rfl (fun ls hl => ?_)
            refine lv_iinc (v := v35_loc6 + Int32.ofInt 1) (lv' := [(6, .int (v35_loc6 + Int32.ofInt 1)), (3, .int z13), (0, .ref on), (1, .int p0), (2, .int p1), (4, .int v5_loc4), (5, .int v35_loc5)]) hx hb dX2_placesBehind_63 hl (k := 6) rfl (rfl) (Nat.le_of_ble_eq_true rfl) rfl (fun ls hl => ?_)
            have b14 : iv 1 4 (v35_loc6 + Int32.ofInt 1) := iv_add b5 ivo_1 (by decide) (by decide) (by decide) (by decide)
            refine lv_goto (tgt := 35) hx hb dX2_placesBehind_66 rfl ?_
            have hPD9 := cl_s (wc := [(on, .inr (2, oX2 n_kind n_salt n_pace n_manner n_from n_to n_goal n_reach n_branches n_branch n_tally x_n)), (n_to, .inl (kI, 20, .inl f_n_to)), (n_branches, .inl (kI, 36, .inl f_n_branches)), (n_branch, .inl (kI, 144, .inl f_n_branch))]) hP hD [2, 0, 1, 3] rfl (by decide +kernel)
            exact ih35 z13 v35_loc5 (v35_loc6 + Int32.ofInt 1) _ _ _ (ms_up (c := 1) (d := 0) b5 hm35 (by decide) (iv_inc 1 b5 (by decide) (by decide) (by decide) (by decide)) (by decide) rfl) (h35_1) (h35_2) ((iv_w b14 (by decide) (by decide))) (hPD9.1) (hPD9.2) hS (lv_sub hl [2, 3, 4, 1, 5, 6, 0] rfl)
      refine lv_iload hx hb dX2_placesBehind_5 (lv_at hl 4 rfl) ?_
      refine lv_aload_n hx hb dX2_placesBehind_7 rfl (lv_at hl 0 rfl) ?_
      refine va_get (D := (dC, dI)) (ci := 2) (v := .int (x_n 1)) (C := RX2) (T := TX2) (N := 15) hx hb hts hin2 hown hK hP 0 rfl rfl 8 (Nat.le_of_ble_eq_true rfl) hw_0 (fun _ h9 => h9) rfl dX2_placesBehind_8 ?_
      refine lv_icmp_gt (tgt := 75) hx hb dX2_placesBehind_11 rfl (fun c15 => ?_) (fun c15 => ?_)
      · have b16 : iv 1 2147483647 v5_loc4 := iv_ltR c15 (hx_n 1 : iv 0 20 (x_n 1)) h5_1 (by decide) (by decide)
        refine lv_iload_n hx hb dX2_placesBehind_75 rfl (lv_at hl 3 rfl) ?_
        have hP9 := hP
        have hD9 := hD
        exact W.iret (v := v5_loc3) hx hb hr (fun t ht hW => ⟨⟨v5_loc3, (), rfl, trivial, by rw [ht]; exact hP9, hD9⟩, hS.F ht⟩) hS.2.2 dX2_placesBehind_76
      · have b17 : iv 0 20 v5_loc4 := iv_leL (Int32.not_lt.mp c15) h5_1 (hx_n 1 : iv 0 20 (x_n 1)) (by decide) (by decide)
        refine lv_iload_n hx hb dX2_placesBehind_14 rfl (lv_at hl 2 rfl) ?_
        refine lv_iload hx hb dX2_placesBehind_15 (lv_at hl 4 rfl) ?_
        refine lv_ishr hx hb dX2_placesBehind_17 ?_
        refine lv_topi (fun z18 _ => ?_)
        refine lv_iconst (v := 1) hx hb dX2_placesBehind_18 ic_1 ?_
        refine lv_iand hx hb dX2_placesBehind_19 ?_
        refine iv_top (a := 0) (b := 1) (iv_and (m := 1) (by decide) (by decide) (by decide)) (fun z19 b20 => ?_)
        refine lv_iconst (v := 1) hx hb dX2_placesBehind_20 ic_1 ?_
        refine lv_icmp_ne (tgt := 69) hx hb dX2_placesBehind_21 rfl (fun c21 => ?_) (fun c21 => ?_)
        · have b22 : iv 0 0 z19 := iv_neHi c21 b20 ivk_1 (by decide) (by decide)
          exact hJ69 v5_loc3 _ _ _ (b17) (hP) (hD) hS (lv_sub hl [0, 1, 2, 3, 4] rfl)
        · have b23 : iv 1 1 z19 := iv_eqL c21 ivk_1
          refine lv_aload_n hx hb dX2_placesBehind_24 rfl (lv_at hl 0 rfl) ?_
          refine lv_iload hx hb dX2_placesBehind_25 (lv_at hl 4 rfl) ?_
          obtain ⟨hPc, hDc, hFc, hJn⟩ := cl_a (wc := [(on, .inr (2, oX2 n_kind n_salt n_pace n_manner n_from n_to n_goal n_reach n_branches n_branch n_tally x_n)), (n_to, .inl (kI, 20, .inl f_n_to))]) (wr := [(n_branches, .inl (kI, 36, .inl f_n_branches)), (n_branch, .inl (kI, 144, .inl f_n_branch))]) hP hD hS hA [0, 1] [2, 3] rfl rfl (by decide +kernel)
          refine va_calli (va_runV (As := [.int v5_loc4]) (rest := []) ⟨hx, hb, hml, hown, hts⟩ (s2_routerOf l dC dI kB kI kJ kZ kC kS H.size on n_kind n_salt n_pace n_manner n_from n_to n_goal n_reach n_branches n_branch n_tally x_n f_n_to v5_loc4 (hx_n) (hf_n_to)) (cwV 1 hts gX2_placesBehind_X2_routerOf rfl rfl rfl (by decide +kernel) ⟨Nat.le_of_ble_eq_true rfl, Nat.le_of_ble_eq_true rfl⟩) ⟨fun a U g mk q => by obtain ⟨q0, q1, qP, qE, qD⟩ := q; exact ⟨q0, q1, qP, kE_call qE, qD⟩, va_recv hK hP (ci := 2) (q0 := 0) rfl rfl, fun U hU hW => ⟨rfl, by rw [hU], by rw [hU]; exact hPc, kE_warm hW hE, hDc.weaken (fun _ _ _ _ => trivial)⟩⟩ rfl rfl hl.1 rfl (lv_room (Nat.le_of_ble_eq_true rfl)) dX2_placesBehind_27 ⟨Nat.le_of_ble_eq_true rfl, Nat.le_of_ble_eq_true rfl⟩) hS (fun q _ h => hFc q h) hFc (fun r24 u t H locs ht hvm w25 hB hz1 hk1 hS => ?_)
          obtain ⟨hP1, hD1⟩ := hB
          try dsimp only at w25
          obtain ⟨hPa, hDa⟩ := hJn (w1 := [(on, .inr (2, oX2 n_kind n_salt n_pace n_manner n_from n_to n_goal n_reach n_branches n_branch n_tally x_n)), (n_to, .inl (kI, 20, .inl f_n_to))]) hk1 ht hP1 hD1
          clear hP hD hPc hDc hFc hJn hP1 hD1 hk1
          have hP : va_P (dC, dI) vwCl [(n_branches, .inl (kI, 36, .inl f_n_branches)), (n_branch, .inl (kI, 144, .inl f_n_branch)), (on, .inr (2, oX2 n_kind n_salt n_pace n_manner n_from n_to n_goal n_reach n_branches n_branch n_tally x_n)), (n_to, .inl (kI, 20, .inl f_n_to))] H := hPa
          have hD : va_D A [(n_branches, .inl (kI, 36, .inl f_n_branches)), (n_branch, .inl (kI, 144, .inl f_n_branch)), (on, .inr (2, oX2 n_kind n_salt n_pace n_manner n_from n_to n_goal n_reach n_branches n_branch n_tally x_n)), (n_to, .inl (kI, 20, .inl f_n_to))] := hDa
          clear hPa hDa
          refine W.widen (k := 0) (n := 0) (Nat.le_of_ble_eq_true rfl) (Nat.le_of_ble_eq_true rfl) ?_
          refine lv_istore (lv' := [(5, .int r24), (0, .ref on), (1, .int p0), (2, .int p1), (3, .int v5_loc3), (4, .int v5_loc4)]) hx hb dX2_placesBehind_30 hl (Nat.le_of_ble_eq_true rfl) rfl (fun ls hl => ?_)
          refine lv_iconst (v := 0) hx hb dX2_placesBehind_32 ic_0 ?_
          refine lv_istore (lv' := [(6, .int 0), (5, .int r24), (0, .ref on), (1, .int p0), (2, .int p1), (3, .int v5_loc3), (4, .int v5_loc4)]) hx hb dX2_placesBehind_33 hl (Nat.le_of_ble_eq_true rfl) rfl (fun ls hl => ?_)
          have hPD9 := cl_s (wc := [(on, .inr (2, oX2 n_kind n_salt n_pace n_manner n_from n_to n_goal n_reach n_branches n_branch n_tally x_n)), (n_to, .inl (kI, 20, .inl f_n_to)), (n_branches, .inl (kI, 36, .inl f_n_branches)), (n_branch, .inl (kI, 144, .inl f_n_branch))]) hP hD [2, 3, 0, 1] rfl (by decide +kernel)
          exact hJ35 _ v5_loc3 r24 0 _ _ _ (Nat.lt_succ_self _) (b17) (w25) ((iv_w ivk_0 (by decide) (by decide))) (hPD9.1) (hPD9.2) hS (lv_sub hl [2, 3, 4, 5, 6, 1, 0] rfl)
  refine lv_iconst (v := 0) hx hb dX2_placesBehind_0 ic_0 ?_
  refine lv_istore_n (lv' := [(3, .int 0), (0, .ref on), (1, .int p0), (2, .int p1)]) hx hb dX2_placesBehind_1 rfl hl (Nat.le_of_ble_eq_true rfl) rfl (fun ls hl => ?_)
  refine lv_iconst (v := 0) hx hb dX2_placesBehind_2 ic_0 ?_
  refine lv_istore (lv' := [(4, .int 0), (3, .int 0), (0, .ref on), (1, .int p0), (2, .int p1)]) hx hb dX2_placesBehind_3 hl (Nat.le_of_ble_eq_true rfl) rfl (fun ls hl => ?_)
  exact hJ5 _ 0 0 _ _ _ (Nat.lt_succ_self _) ((iv_w ivk_0 (by decide) (by decide))) (hP) (hD) hS (lv_sub hl [2, 3, 4, 1, 0] rfl)
