def rm_s3_lookNext : Room := { frames := 5, cells := 0, slots := 0, locals := 127 }
set_option maxHeartbeats 4000000 in
set_option maxRecDepth 100000 in
theorem s3_lookNext (l : Launch) (dC : Nat → ClassId) (dI : Nat → Nat → Nat) (kB kI kJ kZ kC kS : ClassId) (sz : Nat) (nb : Nat) (on : Nat) (w : Nat) (nb_port : Nat) (nb_goal : Nat) (nb_hops : Nat) (nb_address : Nat) (x_nb : Nat → Int32) (f_nb_port : Nat → Int32) (f_nb_goal : Nat → Int32) (f_nb_hops : Nat → Int32) (f_nb_address : Nat → Int32) (n_kind : Nat) (n_salt : Nat) (n_pace : Nat) (n_manner : Nat) (n_from : Nat) (n_to : Nat) (n_goal : Nat) (n_reach : Nat) (n_branches : Nat) (n_branch : Nat) (n_tally : Nat) (x_n : Nat → Int32) (f_n_kind : Nat → Int32) (f_n_salt : Nat → Int32) (f_n_manner : Nat → Int32) (f_n_to : Nat → Int32) (f_n_goal : Nat → Int32) (f_n_branches : Nat → Int32) (f_n_branch : Nat → Int32) (oc : Nat) (x_w : Nat → Int32) (c_seen : Nat) (c_sent : Nat) (c_turn : Nat) (c_counter : Nat) (x_c : Nat → Int32) (f_c_turn : Nat → Int32) (p0 : Int32) (p1 : Int32) (hx_nb : fI lX3 hX3 x_nb) (hf_nb_port : fI (fun _ => 0) (fun _ => 31) f_nb_port) (hf_nb_goal : fI (fun _ => 0) (fun _ => 2) f_nb_goal) (hx_n : fI lX2 hX2 x_n) (hf_n_salt : fI (fun _ => 0) (fun _ => 15) f_n_salt) (hf_n_to : fI (fun _ => 0) (fun _ => 11) f_n_to) (hf_n_goal : fI (fun _ => 0) (fun _ => 11) f_n_goal) (hf_n_branches : fI (fun _ => 0) (fun _ => 4) f_n_branches) (hf_n_branch : fI (fun _ => 0) (fun _ => 19) f_n_branch) (hx_w : fI lX9 hX9 x_w) (hf_c_turn : fI (fun _ => 0) (fun _ => 59) f_c_turn) (hp0 : iv 0 11 p0) (hp1 : iv 0 2 p1) (hsw : iv (-1) (-1) (x_w 0)) : Met l yX3_lookNext wsX3_lookNext rm_s3_lookNext (va_Pc [.ref nb, .int p0, .int p1] (fun U => U.heap.size = sz ∧ va_P (dC, dI) vwCl [(nb, .inr (3, oX3 on w nb_port nb_goal nb_hops nb_address x_nb)), (nb_port, .inl (kI, 8, .inl f_nb_port)), (nb_goal, .inl (kI, 8, .inl f_nb_goal)), (nb_hops, .inl (kI, 8, .inl f_nb_hops)), (nb_address, .inl (kI, 8, .inl f_nb_address)), (on, .inr (2, oX2 n_kind n_salt n_pace n_manner n_from n_to n_goal n_reach n_branches n_branch n_tally x_n)), (n_kind, .inl (kI, 12, .inl f_n_kind)), (n_salt, .inl (kI, 12, .inl f_n_salt)), (n_manner, .inl (kI, 12, .inl f_n_manner)), (n_to, .inl (kI, 20, .inl f_n_to)), (n_goal, .inl (kI, 3, .inl f_n_goal)), (n_branches, .inl (kI, 36, .inl f_n_branches)), (n_branch, .inl (kI, 144, .inl f_n_branch)), (w, .inr (9, oX9 on oc x_w)), (oc, .inr (0, oX0 c_seen c_sent c_turn c_counter x_c)), (c_turn, .inl (kI, 12, .inl f_c_turn))] U.heap ∧ kE dC dI kB kI kJ kZ kC kS U ∧ va_D (fun _ => True) [(nb, .inr (3, oX3 on w nb_port nb_goal nb_hops nb_address x_nb)), (nb_port, .inl (kI, 8, .inl f_nb_port)), (nb_goal, .inl (kI, 8, .inl f_nb_goal)), (nb_hops, .inl (kI, 8, .inl f_nb_hops)), (nb_address, .inl (kI, 8, .inl f_nb_address)), (on, .inr (2, oX2 n_kind n_salt n_pace n_manner n_from n_to n_goal n_reach n_branches n_branch n_tally x_n)), (n_kind, .inl (kI, 12, .inl f_n_kind)), (n_salt, .inl (kI, 12, .inl f_n_salt)), (n_manner, .inl (kI, 12, .inl f_n_manner)), (n_to, .inl (kI, 20, .inl f_n_to)), (n_goal, .inl (kI, 3, .inl f_n_goal)), (n_branches, .inl (kI, 36, .inl f_n_branches)), (n_branch, .inl (kI, 144, .inl f_n_branch)), (w, .inr (9, oX9 on oc x_w)), (oc, .inr (0, oX0 c_seen c_sent c_turn c_counter x_c)), (c_turn, .inl (kI, 12, .inl f_c_turn))])) (va_Qv (fun (_ : Unit) => True) (fun _ t => ∃ (x_nb' : Nat → Int32) (x_w' : Nat → Int32), fI lX3 hX3 x_nb' ∧ fI lX9 hX9 x_w' ∧ (iv (-1) (-1) (x_w' 0)) ∧ va_P (dC, dI) vwCl [(nb, .inr (3, oX3 on w nb_port nb_goal nb_hops nb_address x_nb')), (nb_port, .inl (kI, 8, .inl f_nb_port)), (nb_goal, .inl (kI, 8, .inl f_nb_goal)), (nb_hops, .inl (kI, 8, .inl f_nb_hops)), (nb_address, .inl (kI, 8, .inl f_nb_address)), (on, .inr (2, oX2 n_kind n_salt n_pace n_manner n_from n_to n_goal n_reach n_branches n_branch n_tally x_n)), (n_kind, .inl (kI, 12, .inl f_n_kind)), (n_salt, .inl (kI, 12, .inl f_n_salt)), (n_manner, .inl (kI, 12, .inl f_n_manner)), (n_to, .inl (kI, 20, .inl f_n_to)), (n_goal, .inl (kI, 3, .inl f_n_goal)), (n_branches, .inl (kI, 36, .inl f_n_branches)), (n_branch, .inl (kI, 144, .inl f_n_branch)), (w, .inr (9, oX9 on oc x_w')), (oc, .inr (0, oX0 c_seen c_sent c_turn c_counter x_c)), (c_turn, .inl (kI, 12, .inl f_c_turn))] t.heap ∧ va_D (va_A [(nb, .inr (3, oX3 on w nb_port nb_goal nb_hops nb_address x_nb)), (nb_port, .inl (kI, 8, .inl f_nb_port)), (nb_goal, .inl (kI, 8, .inl f_nb_goal)), (nb_hops, .inl (kI, 8, .inl f_nb_hops)), (nb_address, .inl (kI, 8, .inl f_nb_address)), (on, .inr (2, oX2 n_kind n_salt n_pace n_manner n_from n_to n_goal n_reach n_branches n_branch n_tally x_n)), (n_kind, .inl (kI, 12, .inl f_n_kind)), (n_salt, .inl (kI, 12, .inl f_n_salt)), (n_manner, .inl (kI, 12, .inl f_n_manner)), (n_to, .inl (kI, 20, .inl f_n_to)), (n_goal, .inl (kI, 3, .inl f_n_goal)), (n_branches, .inl (kI, 36, .inl f_n_branches)), (n_branch, .inl (kI, 144, .inl f_n_branch)), (w, .inr (9, oX9 on oc x_w)), (oc, .inr (0, oX0 c_seen c_sent c_turn c_counter x_c)), (c_turn, .inl (kI, 12, .inl f_c_turn))] sz) [(nb, .inr (3, oX3 on w nb_port nb_goal nb_hops nb_address x_nb')), (nb_port, .inl (kI, 8, .inl f_nb_port)), (nb_goal, .inl (kI, 8, .inl f_nb_goal)), (nb_hops, .inl (kI, 8, .inl f_nb_hops)), (nb_address, .inl (kI, 8, .inl f_nb_address)), (on, .inr (2, oX2 n_kind n_salt n_pace n_manner n_from n_to n_goal n_reach n_branches n_branch n_tally x_n)), (n_kind, .inl (kI, 12, .inl f_n_kind)), (n_salt, .inl (kI, 12, .inl f_n_salt)), (n_manner, .inl (kI, 12, .inl f_n_manner)), (n_to, .inl (kI, 20, .inl f_n_to)), (n_goal, .inl (kI, 3, .inl f_n_goal)), (n_branches, .inl (kI, 36, .inl f_n_branches)), (n_branch, .inl (kI, 144, .inl f_n_branch)), (w, .inr (9, oX9 on oc x_w')), (oc, .inr (0, oX0 c_seen c_sent c_turn c_counter x_c)), (c_turn, .inl (kI, 12, .inl f_c_turn))]) (va_A [(nb, .inr (3, oX3 on w nb_port nb_goal nb_hops nb_address x_nb)), (nb_port, .inl (kI, 8, .inl f_nb_port)), (nb_goal, .inl (kI, 8, .inl f_nb_goal)), (nb_hops, .inl (kI, 8, .inl f_nb_hops)), (nb_address, .inl (kI, 8, .inl f_nb_address)), (on, .inr (2, oX2 n_kind n_salt n_pace n_manner n_from n_to n_goal n_reach n_branches n_branch n_tally x_n)), (n_kind, .inl (kI, 12, .inl f_n_kind)), (n_salt, .inl (kI, 12, .inl f_n_salt)), (n_manner, .inl (kI, 12, .inl f_n_manner)), (n_to, .inl (kI, 20, .inl f_n_to)), (n_goal, .inl (kI, 3, .inl f_n_goal)), (n_branches, .inl (kI, 36, .inl f_n_branches)), (n_branch, .inl (kI, 144, .inl f_n_branch)), (w, .inr (9, oX9 on oc x_w)), (oc, .inr (0, oX0 c_seen c_sent c_turn c_counter x_c)), (c_turn, .inl (kI, 12, .inl f_c_turn))] sz)) 0 0 (va_A [(nb, .inr (3, oX3 on w nb_port nb_goal nb_hops nb_address x_nb)), (nb_port, .inl (kI, 8, .inl f_nb_port)), (nb_goal, .inl (kI, 8, .inl f_nb_goal)), (nb_hops, .inl (kI, 8, .inl f_nb_hops)), (nb_address, .inl (kI, 8, .inl f_nb_address)), (on, .inr (2, oX2 n_kind n_salt n_pace n_manner n_from n_to n_goal n_reach n_branches n_branch n_tally x_n)), (n_kind, .inl (kI, 12, .inl f_n_kind)), (n_salt, .inl (kI, 12, .inl f_n_salt)), (n_manner, .inl (kI, 12, .inl f_n_manner)), (n_to, .inl (kI, 20, .inl f_n_to)), (n_goal, .inl (kI, 3, .inl f_n_goal)), (n_branches, .inl (kI, 36, .inl f_n_branches)), (n_branch, .inl (kI, 144, .inl f_n_branch)), (w, .inr (9, oX9 on oc x_w)), (oc, .inr (0, oX0 c_seen c_sent c_turn c_counter x_c)), (c_turn, .inl (kI, 12, .inl f_c_turn))] sz) := by
  refine Met.ofW (cc := cX3_lookNext) (maxL := 7) (ret := none) (by decide) rfl ?_
  intro p e s m args0 below meth c s₁ B hml hv
  obtain ⟨hargs, hsz, hP, hE, hD0⟩ := hv
  have hx := B.exec
  have hb := B.bytes
  have hr := B.returns
  have hts := atoms_spec (ws := wsX3_lookNext) B.pre
  have hown : s.vm.findClass RX3 = some m.cls := findClass_of_methodNamed B.named
  have hlocks := B.notSynchronized
  have hK := hE.1
  have hin3 : ∀ w ∈ wsX30, w ∈ wsX3_lookNext := fun _ h9 => List.mem_cons_of_mem _ (List.mem_append_left _ (List.mem_append_left _ (List.mem_append_left _ (List.mem_append_right _ h9))))
  have hin9 : ∀ w ∈ wsX90, w ∈ wsX3_lookNext := fun _ h9 => List.mem_cons_of_mem _ (List.mem_append_left _ (List.mem_append_left _ (List.mem_append_right _ h9)))
  have hin2 : ∀ w ∈ wsX20, w ∈ wsX3_lookNext := fun _ h9 => List.mem_cons_of_mem _ (List.mem_append_left _ (List.mem_append_right _ h9))
  have hin0 : ∀ w ∈ wsX00, w ∈ wsX3_lookNext := fun _ h9 => List.mem_cons_of_mem _ (List.mem_append_right _ h9)
  have hw_0 := hts (.fieldLink RX3 31 "PathProber$Notebook" "bestUnlike" "I") (List.mem_of_getElem? (i := 2) rfl)
  have hw_1 := hts (.fieldLink RX3 28 "PathProber$Notebook" "bestPort" "I") (List.mem_of_getElem? (i := 1) rfl)
  subst hsz
  have hD := hD0.self (sz := s.heap.size)
  generalize hAe : va_A [(nb, .inr (3, oX3 on w nb_port nb_goal nb_hops nb_address x_nb)), (nb_port, .inl (kI, 8, .inl f_nb_port)), (nb_goal, .inl (kI, 8, .inl f_nb_goal)), (nb_hops, .inl (kI, 8, .inl f_nb_hops)), (nb_address, .inl (kI, 8, .inl f_nb_address)), (on, .inr (2, oX2 n_kind n_salt n_pace n_manner n_from n_to n_goal n_reach n_branches n_branch n_tally x_n)), (n_kind, .inl (kI, 12, .inl f_n_kind)), (n_salt, .inl (kI, 12, .inl f_n_salt)), (n_manner, .inl (kI, 12, .inl f_n_manner)), (n_to, .inl (kI, 20, .inl f_n_to)), (n_goal, .inl (kI, 3, .inl f_n_goal)), (n_branches, .inl (kI, 36, .inl f_n_branches)), (n_branch, .inl (kI, 144, .inl f_n_branch)), (w, .inr (9, oX9 on oc x_w)), (oc, .inr (0, oX0 c_seen c_sent c_turn c_counter x_c)), (c_turn, .inl (kI, 12, .inl f_c_turn))] s.heap.size = A at hD ⊢
  have hA : ∀ q : Nat, s.heap.size ≤ q → A q := fun q h => by rw [← hAe]; exact Or.inr h
  have hS : va_S A s.heap s.heap [] := va_S.rf
  have hP : va_P (dC, dI) vwCl [(nb, .inr (3, oX3 on w nb_port nb_goal nb_hops nb_address x_nb)), (nb_port, .inl (kI, 8, .inl f_nb_port)), (nb_goal, .inl (kI, 8, .inl f_nb_goal)), (nb_hops, .inl (kI, 8, .inl f_nb_hops)), (nb_address, .inl (kI, 8, .inl f_nb_address)), (on, .inr (2, oX2 n_kind n_salt n_pace n_manner n_from n_to n_goal n_reach n_branches n_branch n_tally x_n)), (n_kind, .inl (kI, 12, .inl f_n_kind)), (n_salt, .inl (kI, 12, .inl f_n_salt)), (n_manner, .inl (kI, 12, .inl f_n_manner)), (n_to, .inl (kI, 20, .inl f_n_to)), (n_goal, .inl (kI, 3, .inl f_n_goal)), (n_branches, .inl (kI, 36, .inl f_n_branches)), (n_branch, .inl (kI, 144, .inl f_n_branch)), (w, .inr (9, oX9 on oc x_w)), (oc, .inr (0, oX0 c_seen c_sent c_turn c_counter x_c)), (c_turn, .inl (kI, 12, .inl f_c_turn))] s.heap := hP
  have hl := lv_entry ([.ref nb, .int p0, .int p1]) (n := 7) (Nat.le_of_ble_eq_true rfl)
  have hla : entryFrame m args0 7 = entryFrame m ([.ref nb, .int p0, .int p1] : List Value).toArray 7 := by rw [hargs]
  rw [hla, lg_entry_eq]
  generalize (lg_sl ([.ref nb, .int p0, .int p1]) ++ List.replicate (7 - (lg_sl ([.ref nb, .int p0, .int p1])).length) Slot.unset).toArray = ls at hl ⊢
  have hl : lv_has ls 7 [(0, .ref nb), (1, .int p0), (2, .int p1)] := hl
  have hJ19 : ∀ (n : Nat) (y19_0 : Nat → Int32) (y19_13 : Nat → Int32) (w19_loc3 : Int64) (v19_loc5 : Int32) (H : Heap) (locs : List Loc) (ls : Array Slot), (32 - v19_loc5.toInt).toNat < n → fI lX3 hX3 y19_0 → fI lX9 hX9 y19_13 → iv 0 32 v19_loc5 → iv (-1) 31 (y19_0 1) → iv 0 2147483647 (y19_0 2) → iv (-1) (-1) (y19_13 0) → va_P (dC, dI) vwCl [(nb, .inr (3, oX3 on w nb_port nb_goal nb_hops nb_address y19_0)), (nb_port, .inl (kI, 8, .inl f_nb_port)), (nb_goal, .inl (kI, 8, .inl f_nb_goal)), (nb_hops, .inl (kI, 8, .inl f_nb_hops)), (nb_address, .inl (kI, 8, .inl f_nb_address)), (on, .inr (2, oX2 n_kind n_salt n_pace n_manner n_from n_to n_goal n_reach n_branches n_branch n_tally x_n)), (n_kind, .inl (kI, 12, .inl f_n_kind)), (n_salt, .inl (kI, 12, .inl f_n_salt)), (n_manner, .inl (kI, 12, .inl f_n_manner)), (n_to, .inl (kI, 20, .inl f_n_to)), (n_goal, .inl (kI, 3, .inl f_n_goal)), (n_branches, .inl (kI, 36, .inl f_n_branches)), (n_branch, .inl (kI, 144, .inl f_n_branch)), (w, .inr (9, oX9 on oc y19_13)), (oc, .inr (0, oX0 c_seen c_sent c_turn c_counter x_c)), (c_turn, .inl (kI, 12, .inl f_c_turn))] H → va_D A [(nb, .inr (3, oX3 on w nb_port nb_goal nb_hops nb_address y19_0)), (nb_port, .inl (kI, 8, .inl f_nb_port)), (nb_goal, .inl (kI, 8, .inl f_nb_goal)), (nb_hops, .inl (kI, 8, .inl f_nb_hops)), (nb_address, .inl (kI, 8, .inl f_nb_address)), (on, .inr (2, oX2 n_kind n_salt n_pace n_manner n_from n_to n_goal n_reach n_branches n_branch n_tally x_n)), (n_kind, .inl (kI, 12, .inl f_n_kind)), (n_salt, .inl (kI, 12, .inl f_n_salt)), (n_manner, .inl (kI, 12, .inl f_n_manner)), (n_to, .inl (kI, 20, .inl f_n_to)), (n_goal, .inl (kI, 3, .inl f_n_goal)), (n_branches, .inl (kI, 36, .inl f_n_branches)), (n_branch, .inl (kI, 144, .inl f_n_branch)), (w, .inr (9, oX9 on oc y19_13)), (oc, .inr (0, oX0 c_seen c_sent c_turn c_counter x_c)), (c_turn, .inl (kI, 12, .inl f_c_turn))] → va_S A s.heap H locs → lv_has ls 7 [(0, .ref nb), (1, .int p0), (2, .int p1), (3, .long w19_loc3), (5, .int v19_loc5)] → W p l e (headSpec wsX3_lookNext rm_s3_lookNext).room s m args0 below meth c H locs (0) (0) (MQ below (va_Qv (fun (_ : Unit) => True) (fun _ t => ∃ (x_nb' : Nat → Int32) (x_w' : Nat → Int32), fI lX3 hX3 x_nb' ∧ fI lX9 hX9 x_w' ∧ (iv (-1) (-1) (x_w' 0)) ∧ va_P (dC, dI) vwCl [(nb, .inr (3, oX3 on w nb_port nb_goal nb_hops nb_address x_nb')), (nb_port, .inl (kI, 8, .inl f_nb_port)), (nb_goal, .inl (kI, 8, .inl f_nb_goal)), (nb_hops, .inl (kI, 8, .inl f_nb_hops)), (nb_address, .inl (kI, 8, .inl f_nb_address)), (on, .inr (2, oX2 n_kind n_salt n_pace n_manner n_from n_to n_goal n_reach n_branches n_branch n_tally x_n)), (n_kind, .inl (kI, 12, .inl f_n_kind)), (n_salt, .inl (kI, 12, .inl f_n_salt)), (n_manner, .inl (kI, 12, .inl f_n_manner)), (n_to, .inl (kI, 20, .inl f_n_to)), (n_goal, .inl (kI, 3, .inl f_n_goal)), (n_branches, .inl (kI, 36, .inl f_n_branches)), (n_branch, .inl (kI, 144, .inl f_n_branch)), (w, .inr (9, oX9 on oc x_w')), (oc, .inr (0, oX0 c_seen c_sent c_turn c_counter x_c)), (c_turn, .inl (kI, 12, .inl f_c_turn))] t.heap ∧ va_D A [(nb, .inr (3, oX3 on w nb_port nb_goal nb_hops nb_address x_nb')), (nb_port, .inl (kI, 8, .inl f_nb_port)), (nb_goal, .inl (kI, 8, .inl f_nb_goal)), (nb_hops, .inl (kI, 8, .inl f_nb_hops)), (nb_address, .inl (kI, 8, .inl f_nb_address)), (on, .inr (2, oX2 n_kind n_salt n_pace n_manner n_from n_to n_goal n_reach n_branches n_branch n_tally x_n)), (n_kind, .inl (kI, 12, .inl f_n_kind)), (n_salt, .inl (kI, 12, .inl f_n_salt)), (n_manner, .inl (kI, 12, .inl f_n_manner)), (n_to, .inl (kI, 20, .inl f_n_to)), (n_goal, .inl (kI, 3, .inl f_n_goal)), (n_branches, .inl (kI, 36, .inl f_n_branches)), (n_branch, .inl (kI, 144, .inl f_n_branch)), (w, .inr (9, oX9 on oc x_w')), (oc, .inr (0, oX0 c_seen c_sent c_turn c_counter x_c)), (c_turn, .inl (kI, 12, .inl f_c_turn))]) A) args0 s 0 0 A) (F0 m 19 ls []) := by
    intro n
    induction n with
    | zero => intro y19_0 y19_13 w19_loc3 v19_loc5 H locs ls hm19; exact absurd hm19 (Nat.not_lt_zero _)
    | succ n ih19 =>
      intro y19_0 y19_13 w19_loc3 v19_loc5 H locs ls hm19 hI19_0 hI19_13 h19_3 h19_4 h19_5 h19_6 hP hD hS hl
      have hJ64 : ∀ (y64_0 : Nat → Int32) (y64_13 : Nat → Int32) (v64_loc6 : Int32) (H : Heap) (locs : List Loc) (ls : Array Slot), fI lX3 hX3 y64_0 → fI lX9 hX9 y64_13 → iv 0 31 v19_loc5 → iv 0 63 v64_loc6 → iv (-1) 31 (y64_0 1) → iv 0 2147483647 (y64_0 2) → iv (-1) (-1) (y64_13 0) → va_P (dC, dI) vwCl [(nb, .inr (3, oX3 on w nb_port nb_goal nb_hops nb_address y64_0)), (nb_port, .inl (kI, 8, .inl f_nb_port)), (nb_goal, .inl (kI, 8, .inl f_nb_goal)), (nb_hops, .inl (kI, 8, .inl f_nb_hops)), (nb_address, .inl (kI, 8, .inl f_nb_address)), (on, .inr (2, oX2 n_kind n_salt n_pace n_manner n_from n_to n_goal n_reach n_branches n_branch n_tally x_n)), (n_kind, .inl (kI, 12, .inl f_n_kind)), (n_salt, .inl (kI, 12, .inl f_n_salt)), (n_manner, .inl (kI, 12, .inl f_n_manner)), (n_to, .inl (kI, 20, .inl f_n_to)), (n_goal, .inl (kI, 3, .inl f_n_goal)), (n_branches, .inl (kI, 36, .inl f_n_branches)), (n_branch, .inl (kI, 144, .inl f_n_branch)), (w, .inr (9, oX9 on oc y64_13)), (oc, .inr (0, oX0 c_seen c_sent c_turn c_counter x_c)), (c_turn, .inl (kI, 12, .inl f_c_turn))] H → va_D A [(nb, .inr (3, oX3 on w nb_port nb_goal nb_hops nb_address y64_0)), (nb_port, .inl (kI, 8, .inl f_nb_port)), (nb_goal, .inl (kI, 8, .inl f_nb_goal)), (nb_hops, .inl (kI, 8, .inl f_nb_hops)), (nb_address, .inl (kI, 8, .inl f_nb_address)), (on, .inr (2, oX2 n_kind n_salt n_pace n_manner n_from n_to n_goal n_reach n_branches n_branch n_tally x_n)), (n_kind, .inl (kI, 12, .inl f_n_kind)), (n_salt, .inl (kI, 12, .inl f_n_salt)), (n_manner, .inl (kI, 12, .inl f_n_manner)), (n_to, .inl (kI, 20, .inl f_n_to)), (n_goal, .inl (kI, 3, .inl f_n_goal)), (n_branches, .inl (kI, 36, .inl f_n_branches)), (n_branch, .inl (kI, 144, .inl f_n_branch)), (w, .inr (9, oX9 on oc y64_13)), (oc, .inr (0, oX0 c_seen c_sent c_turn c_counter x_c)), (c_turn, .inl (kI, 12, .inl f_c_turn))] → va_S A s.heap H locs → lv_has ls 7 [(0, .ref nb), (1, .int p0), (2, .int p1), (3, .long w19_loc3), (5, .int v19_loc5), (6, .int v64_loc6)] → W p l e (headSpec wsX3_lookNext rm_s3_lookNext).room s m args0 below meth c H locs (0) (0) (MQ below (va_Qv (fun (_ : Unit) => True) (fun _ t => ∃ (x_nb' : Nat → Int32) (x_w' : Nat → Int32), fI lX3 hX3 x_nb' ∧ fI lX9 hX9 x_w' ∧ (iv (-1) (-1) (x_w' 0)) ∧ va_P (dC, dI) vwCl [(nb, .inr (3, oX3 on w nb_port nb_goal nb_hops nb_address x_nb')), (nb_port, .inl (kI, 8, .inl f_nb_port)), (nb_goal, .inl (kI, 8, .inl f_nb_goal)), (nb_hops, .inl (kI, 8, .inl f_nb_hops)), (nb_address, .inl (kI, 8, .inl f_nb_address)), (on, .inr (2, oX2 n_kind n_salt n_pace n_manner n_from n_to n_goal n_reach n_branches n_branch n_tally x_n)), (n_kind, .inl (kI, 12, .inl f_n_kind)), (n_salt, .inl (kI, 12, .inl f_n_salt)), (n_manner, .inl (kI, 12, .inl f_n_manner)), (n_to, .inl (kI, 20, .inl f_n_to)), (n_goal, .inl (kI, 3, .inl f_n_goal)), (n_branches, .inl (kI, 36, .inl f_n_branches)), (n_branch, .inl (kI, 144, .inl f_n_branch)), (w, .inr (9, oX9 on oc x_w')), (oc, .inr (0, oX0 c_seen c_sent c_turn c_counter x_c)), (c_turn, .inl (kI, 12, .inl f_c_turn))] t.heap ∧ va_D A [(nb, .inr (3, oX3 on w nb_port nb_goal nb_hops nb_address x_nb')), (nb_port, .inl (kI, 8, .inl f_nb_port)), (nb_goal, .inl (kI, 8, .inl f_nb_goal)), (nb_hops, .inl (kI, 8, .inl f_nb_hops)), (nb_address, .inl (kI, 8, .inl f_nb_address)), (on, .inr (2, oX2 n_kind n_salt n_pace n_manner n_from n_to n_goal n_reach n_branches n_branch n_tally x_n)), (n_kind, .inl (kI, 12, .inl f_n_kind)), (n_salt, .inl (kI, 12, .inl f_n_salt)), (n_manner, .inl (kI, 12, .inl f_n_manner)), (n_to, .inl (kI, 20, .inl f_n_to)), (n_goal, .inl (kI, 3, .inl f_n_goal)), (n_branches, .inl (kI, 36, .inl f_n_branches)), (n_branch, .inl (kI, 144, .inl f_n_branch)), (w, .inr (9, oX9 on oc x_w')), (oc, .inr (0, oX0 c_seen c_sent c_turn c_counter x_c)), (c_turn, .inl (kI, 12, .inl f_c_turn))]) A) args0 s 0 0 A) (F0 m 64 ls []) := by
        intro y64_0 y64_13 v64_loc6 H locs ls hI64_0 hI64_13 h64_3 h64_4 h64_5 h64_6 h64_7 hP hD hS hl
        refine lv_iinc (v := v19_loc5 + Int32.ofInt 1) (lv' := [(5, .int (v19_loc5 + Int32.ofInt 1)), (0, .ref nb), (1, .int p0), (2, .int p1), (3, .long w19_loc3), (6, .int v64_loc6)]) hx hb dX3_lookNext_64 hl (k := 4) rfl (rfl) (Nat.le_of_ble_eq_true rfl) rfl (fun ls hl => ?_)
        have b1 : iv 1 32 (v19_loc5 + Int32.ofInt 1) := iv_add h64_3 ivo_1 (by decide) (by decide) (by decide) (by decide)
        refine lv_goto (tgt := 19) hx hb dX3_lookNext_67 rfl ?_
        exact ih19 y64_0 y64_13 w19_loc3 (v19_loc5 + Int32.ofInt 1) _ _ _ (ms_up (c := 1) (d := 0) h64_3 hm19 (by decide) (iv_inc 1 h64_3 (by decide) (by decide) (by decide) (by decide)) (by decide) rfl) (hI64_0) (hI64_13) ((iv_w b1 (by decide) (by decide))) (h64_5) (h64_6) (h64_7) (hP) (hD) hS (lv_sub hl [1, 2, 3, 4, 0] rfl)
      refine lv_iload hx hb dX3_lookNext_19 (lv_at hl 4 rfl) ?_
      refine lv_bipush (v := 32) hx hb dX3_lookNext_21 bp_32 ?_
      refine lv_icmp_ge (tgt := 70) hx hb dX3_lookNext_23 rfl (fun c2 => ?_) (fun c2 => ?_)
      · have b3 : iv 32 32 v19_loc5 := iv_leR c2 ivk_32 h19_3 (by decide) (by decide)
        have hP9 := hP
        have hD9 := hD
        exact W.vret hx hb hr (fun t ht hW => ⟨⟨(), rfl, trivial, y19_0, y19_13, hI19_0, hI19_13, (show iv (-1) (-1) (y19_13 0) from h19_6), by rw [ht]; exact hP9, hD9⟩, hS.F ht⟩) hS.2.2 dX3_lookNext_70
      · have b4 : iv 0 31 v19_loc5 := iv_ltL (Int32.not_le.mp c2) h19_3 ivk_32 (by decide) (by decide)
        refine lv_lload_n hx hb dX3_lookNext_26 rfl (lv_at hl 3 rfl) ?_
        refine lv_lconst (v := 0) hx hb dX3_lookNext_27 (by decide) ?_
        refine W.lcmp hx hb dX3_lookNext_28 ?_
        refine lv_topi (fun z5 _ => ?_)
        refine lv_if_eq (tgt := 70) hx hb dX3_lookNext_29 rfl (fun c6 => ?_) (fun c6 => ?_)
        · have b7 : iv 0 0 z5 := iv_eqL c6 ivk_0
          have hP9 := hP
          have hD9 := hD
          exact W.vret hx hb hr (fun t ht hW => ⟨⟨(), rfl, trivial, y19_0, y19_13, hI19_0, hI19_13, (show iv (-1) (-1) (y19_13 0) from h19_6), by rw [ht]; exact hP9, hD9⟩, hS.F ht⟩) hS.2.2 dX3_lookNext_70
        · refine lv_aload_n hx hb dX3_lookNext_32 rfl (lv_at hl 0 rfl) ?_
          refine lv_lload_n hx hb dX3_lookNext_33 rfl (lv_at hl 3 rfl) ?_
          refine lv_iload_n hx hb dX3_lookNext_34 rfl (lv_at hl 1 rfl) ?_
          refine lv_iload hx hb dX3_lookNext_35 (lv_at hl 4 rfl) ?_
          refine lv_iload_n hx hb dX3_lookNext_37 rfl (lv_at hl 2 rfl) ?_
          obtain ⟨hPc, hDc, hFc, hJn⟩ := cl_a (wc := [(nb, .inr (3, oX3 on w nb_port nb_goal nb_hops nb_address y19_0)), (on, .inr (2, oX2 n_kind n_salt n_pace n_manner n_from n_to n_goal n_reach n_branches n_branch n_tally x_n)), (n_kind, .inl (kI, 12, .inl f_n_kind)), (n_salt, .inl (kI, 12, .inl f_n_salt)), (n_manner, .inl (kI, 12, .inl f_n_manner)), (n_to, .inl (kI, 20, .inl f_n_to)), (n_goal, .inl (kI, 3, .inl f_n_goal)), (n_branches, .inl (kI, 36, .inl f_n_branches)), (n_branch, .inl (kI, 144, .inl f_n_branch)), (w, .inr (9, oX9 on oc y19_13)), (oc, .inr (0, oX0 c_seen c_sent c_turn c_counter x_c)), (c_turn, .inl (kI, 12, .inl f_c_turn))]) (wr := [(nb_port, .inl (kI, 8, .inl f_nb_port)), (nb_goal, .inl (kI, 8, .inl f_nb_goal)), (nb_hops, .inl (kI, 8, .inl f_nb_hops)), (nb_address, .inl (kI, 8, .inl f_nb_address))]) hP hD hS hA [0, 5, 6, 7, 8, 9, 10, 11, 12, 13, 14, 15] [1, 2, 3, 4] rfl rfl (by decide +kernel)
          refine va_calli (va_runV (As := [.long w19_loc3, .int p0, .int v19_loc5, .int p1]) (rest := []) ⟨hx, hb, hml, hown, hts⟩ (s3_unlikeBy l dC dI kB kI kJ kZ kC kS H.size nb on w nb_port nb_goal nb_hops nb_address y19_0 n_kind n_salt n_pace n_manner n_from n_to n_goal n_reach n_branches n_branch n_tally x_n f_n_kind f_n_salt f_n_manner f_n_to f_n_goal f_n_branches f_n_branch oc y19_13 c_seen c_sent c_turn c_counter x_c f_c_turn w19_loc3 p0 v19_loc5 p1 (hI19_0) (hx_n) (hf_n_salt) (hf_n_to) (hf_n_goal) (hf_n_branches) (hf_n_branch) (hI19_13) (hf_c_turn) (hp0) (b4) (hp1)) (cwV 4 hts gX3_lookNext_X3_unlikeBy rfl rfl rfl (by decide +kernel) ⟨Nat.le_of_ble_eq_true rfl, Nat.le_of_ble_eq_true rfl⟩) ⟨fun a U g mk q => by obtain ⟨q0, q1, qP, qE, qD⟩ := q; exact ⟨q0, q1, qP, kE_call qE, qD⟩, va_recv hK hP (ci := 3) (q0 := 0) rfl rfl, fun U hU hW => ⟨rfl, by rw [hU], by rw [hU]; exact hPc, kE_warm hW hE, hDc.weaken (fun _ _ _ _ => trivial)⟩⟩ rfl rfl hl.1 rfl (lv_room (Nat.le_of_ble_eq_true rfl)) dX3_lookNext_38 ⟨Nat.le_of_ble_eq_true rfl, Nat.le_of_ble_eq_true rfl⟩) hS (fun q _ h => hFc q h) hFc (fun r8 u t H locs ht hvm w9 hB hz1 hk1 hS => ?_)
          obtain ⟨y10, hq11, hq12, hP1, hD1⟩ := hB
          try dsimp only at w9
          obtain ⟨hPa, hDa⟩ := hJn (w1 := [(nb, .inr (3, oX3 on w nb_port nb_goal nb_hops nb_address y19_0)), (on, .inr (2, oX2 n_kind n_salt n_pace n_manner n_from n_to n_goal n_reach n_branches n_branch n_tally x_n)), (n_kind, .inl (kI, 12, .inl f_n_kind)), (n_salt, .inl (kI, 12, .inl f_n_salt)), (n_manner, .inl (kI, 12, .inl f_n_manner)), (n_to, .inl (kI, 20, .inl f_n_to)), (n_goal, .inl (kI, 3, .inl f_n_goal)), (n_branches, .inl (kI, 36, .inl f_n_branches)), (n_branch, .inl (kI, 144, .inl f_n_branch)), (w, .inr (9, oX9 on oc y10)), (oc, .inr (0, oX0 c_seen c_sent c_turn c_counter x_c)), (c_turn, .inl (kI, 12, .inl f_c_turn))]) hk1 ht hP1 hD1
          clear hP hD hPc hDc hFc hJn hP1 hD1 hk1
          have hP : va_P (dC, dI) vwCl [(nb_port, .inl (kI, 8, .inl f_nb_port)), (nb_goal, .inl (kI, 8, .inl f_nb_goal)), (nb_hops, .inl (kI, 8, .inl f_nb_hops)), (nb_address, .inl (kI, 8, .inl f_nb_address)), (nb, .inr (3, oX3 on w nb_port nb_goal nb_hops nb_address y19_0)), (on, .inr (2, oX2 n_kind n_salt n_pace n_manner n_from n_to n_goal n_reach n_branches n_branch n_tally x_n)), (n_kind, .inl (kI, 12, .inl f_n_kind)), (n_salt, .inl (kI, 12, .inl f_n_salt)), (n_manner, .inl (kI, 12, .inl f_n_manner)), (n_to, .inl (kI, 20, .inl f_n_to)), (n_goal, .inl (kI, 3, .inl f_n_goal)), (n_branches, .inl (kI, 36, .inl f_n_branches)), (n_branch, .inl (kI, 144, .inl f_n_branch)), (w, .inr (9, oX9 on oc y10)), (oc, .inr (0, oX0 c_seen c_sent c_turn c_counter x_c)), (c_turn, .inl (kI, 12, .inl f_c_turn))] H := hPa
          have hD : va_D A [(nb_port, .inl (kI, 8, .inl f_nb_port)), (nb_goal, .inl (kI, 8, .inl f_nb_goal)), (nb_hops, .inl (kI, 8, .inl f_nb_hops)), (nb_address, .inl (kI, 8, .inl f_nb_address)), (nb, .inr (3, oX3 on w nb_port nb_goal nb_hops nb_address y19_0)), (on, .inr (2, oX2 n_kind n_salt n_pace n_manner n_from n_to n_goal n_reach n_branches n_branch n_tally x_n)), (n_kind, .inl (kI, 12, .inl f_n_kind)), (n_salt, .inl (kI, 12, .inl f_n_salt)), (n_manner, .inl (kI, 12, .inl f_n_manner)), (n_to, .inl (kI, 20, .inl f_n_to)), (n_goal, .inl (kI, 3, .inl f_n_goal)), (n_branches, .inl (kI, 36, .inl f_n_branches)), (n_branch, .inl (kI, 144, .inl f_n_branch)), (w, .inr (9, oX9 on oc y10)), (oc, .inr (0, oX0 c_seen c_sent c_turn c_counter x_c)), (c_turn, .inl (kI, 12, .inl f_c_turn))] := hDa
          clear hPa hDa
          refine W.widen (k := 0) (n := 0) (Nat.le_of_ble_eq_true rfl) (Nat.le_of_ble_eq_true rfl) ?_
          refine lv_istore (lv' := [(6, .int r8), (0, .ref nb), (1, .int p0), (2, .int p1), (3, .long w19_loc3), (5, .int v19_loc5)]) hx hb dX3_lookNext_41 hl (Nat.le_of_ble_eq_true rfl) rfl (fun ls hl => ?_)
          refine lv_iload hx hb dX3_lookNext_43 (lv_at hl 0 rfl) ?_
          refine lv_aload_n hx hb dX3_lookNext_45 rfl (lv_at hl 1 rfl) ?_
          refine va_get (D := (dC, dI)) (ci := 3) (v := .int (y19_0 2)) (C := RX3) (T := TX3) (N := 9) hx hb hts hin3 hown hK hP 4 rfl rfl 8 (Nat.le_of_ble_eq_true rfl) hw_0 (fun _ h9 => h9) rfl dX3_lookNext_46 ?_
          refine lv_icmp_le (tgt := 64) hx hb dX3_lookNext_49 rfl (fun c13 => ?_) (fun c13 => ?_)
          · have hPD9 := cl_s (wc := [(nb, .inr (3, oX3 on w nb_port nb_goal nb_hops nb_address y19_0)), (nb_port, .inl (kI, 8, .inl f_nb_port)), (nb_goal, .inl (kI, 8, .inl f_nb_goal)), (nb_hops, .inl (kI, 8, .inl f_nb_hops)), (nb_address, .inl (kI, 8, .inl f_nb_address)), (on, .inr (2, oX2 n_kind n_salt n_pace n_manner n_from n_to n_goal n_reach n_branches n_branch n_tally x_n)), (n_kind, .inl (kI, 12, .inl f_n_kind)), (n_salt, .inl (kI, 12, .inl f_n_salt)), (n_manner, .inl (kI, 12, .inl f_n_manner)), (n_to, .inl (kI, 20, .inl f_n_to)), (n_goal, .inl (kI, 3, .inl f_n_goal)), (n_branches, .inl (kI, 36, .inl f_n_branches)), (n_branch, .inl (kI, 144, .inl f_n_branch)), (w, .inr (9, oX9 on oc y10)), (oc, .inr (0, oX0 c_seen c_sent c_turn c_counter x_c)), (c_turn, .inl (kI, 12, .inl f_c_turn))]) hP hD [4, 0, 1, 2, 3, 5, 6, 7, 8, 9, 10, 11, 12, 13, 14, 15] rfl (by decide +kernel)
            exact hJ64 y19_0 y10 r8 _ _ _ (hI19_0) (hq11) (b4) (w9) (h19_4) (h19_5) (hq12) (hPD9.1) (hPD9.2) hS (lv_sub hl [1, 2, 3, 4, 5, 0] rfl)
          · have b14 : iv 0 62 (y19_0 2) := iv_ltL (Int32.not_le.mp c13) h19_5 w9 (by decide) (by decide)
            have b15 : iv 1 63 r8 := iv_ltR (Int32.not_le.mp c13) h19_5 w9 (by decide) (by decide)
            refine lv_aload_n hx hb dX3_lookNext_52 rfl (lv_at hl 1 rfl) ?_
            refine lv_iload hx hb dX3_lookNext_53 (lv_at hl 0 rfl) ?_
            refine va_put (D := (dC, dI)) (ci := 3) (v := .int r8) (ty := .int) (C := RX3) (T := TX3) (N := 9) hx hb hts hin3 tyX3 tyX3_ok nmX3 hown hK hP hD hS 4 rfl rfl 8 (by decide) hw_0 (fun _ h9 => h9) rfl (by decide +kernel) rfl rfl (Nat.le_of_ble_eq_true rfl) dX3_lookNext_55 (fun H locs hPa hDa hS => ?_)
            clear hP hD
            have hP : va_P (dC, dI) vwCl [(nb_port, .inl (kI, 8, .inl f_nb_port)), (nb_goal, .inl (kI, 8, .inl f_nb_goal)), (nb_hops, .inl (kI, 8, .inl f_nb_hops)), (nb_address, .inl (kI, 8, .inl f_nb_address)), (nb, .inr (3, oX3 on w nb_port nb_goal nb_hops nb_address (upd y19_0 2 r8))), (on, .inr (2, oX2 n_kind n_salt n_pace n_manner n_from n_to n_goal n_reach n_branches n_branch n_tally x_n)), (n_kind, .inl (kI, 12, .inl f_n_kind)), (n_salt, .inl (kI, 12, .inl f_n_salt)), (n_manner, .inl (kI, 12, .inl f_n_manner)), (n_to, .inl (kI, 20, .inl f_n_to)), (n_goal, .inl (kI, 3, .inl f_n_goal)), (n_branches, .inl (kI, 36, .inl f_n_branches)), (n_branch, .inl (kI, 144, .inl f_n_branch)), (w, .inr (9, oX9 on oc y10)), (oc, .inr (0, oX0 c_seen c_sent c_turn c_counter x_c)), (c_turn, .inl (kI, 12, .inl f_c_turn))] H := hPa
            have hD : va_D A [(nb_port, .inl (kI, 8, .inl f_nb_port)), (nb_goal, .inl (kI, 8, .inl f_nb_goal)), (nb_hops, .inl (kI, 8, .inl f_nb_hops)), (nb_address, .inl (kI, 8, .inl f_nb_address)), (nb, .inr (3, oX3 on w nb_port nb_goal nb_hops nb_address (upd y19_0 2 r8))), (on, .inr (2, oX2 n_kind n_salt n_pace n_manner n_from n_to n_goal n_reach n_branches n_branch n_tally x_n)), (n_kind, .inl (kI, 12, .inl f_n_kind)), (n_salt, .inl (kI, 12, .inl f_n_salt)), (n_manner, .inl (kI, 12, .inl f_n_manner)), (n_to, .inl (kI, 20, .inl f_n_to)), (n_goal, .inl (kI, 3, .inl f_n_goal)), (n_branches, .inl (kI, 36, .inl f_n_branches)), (n_branch, .inl (kI, 144, .inl f_n_branch)), (w, .inr (9, oX9 on oc y10)), (oc, .inr (0, oX0 c_seen c_sent c_turn c_counter x_c)), (c_turn, .inl (kI, 12, .inl f_c_turn))] := hDa
            clear hPa hDa
            refine lv_aload_n hx hb dX3_lookNext_58 rfl (lv_at hl 1 rfl) ?_
            refine lv_iload hx hb dX3_lookNext_59 (lv_at hl 5 rfl) ?_
            refine va_put (D := (dC, dI)) (ci := 3) (v := .int v19_loc5) (ty := .int) (C := RX3) (T := TX3) (N := 9) hx hb hts hin3 tyX3 tyX3_ok nmX3 hown hK hP hD hS 4 rfl rfl 7 (by decide) hw_1 (fun _ h9 => h9) rfl (by decide +kernel) rfl rfl (Nat.le_of_ble_eq_true rfl) dX3_lookNext_61 (fun H locs hPa hDa hS => ?_)
            clear hP hD
            have hP : va_P (dC, dI) vwCl [(nb_port, .inl (kI, 8, .inl f_nb_port)), (nb_goal, .inl (kI, 8, .inl f_nb_goal)), (nb_hops, .inl (kI, 8, .inl f_nb_hops)), (nb_address, .inl (kI, 8, .inl f_nb_address)), (nb, .inr (3, oX3 on w nb_port nb_goal nb_hops nb_address (upd (upd y19_0 2 r8) 1 v19_loc5))), (on, .inr (2, oX2 n_kind n_salt n_pace n_manner n_from n_to n_goal n_reach n_branches n_branch n_tally x_n)), (n_kind, .inl (kI, 12, .inl f_n_kind)), (n_salt, .inl (kI, 12, .inl f_n_salt)), (n_manner, .inl (kI, 12, .inl f_n_manner)), (n_to, .inl (kI, 20, .inl f_n_to)), (n_goal, .inl (kI, 3, .inl f_n_goal)), (n_branches, .inl (kI, 36, .inl f_n_branches)), (n_branch, .inl (kI, 144, .inl f_n_branch)), (w, .inr (9, oX9 on oc y10)), (oc, .inr (0, oX0 c_seen c_sent c_turn c_counter x_c)), (c_turn, .inl (kI, 12, .inl f_c_turn))] H := hPa
            have hD : va_D A [(nb_port, .inl (kI, 8, .inl f_nb_port)), (nb_goal, .inl (kI, 8, .inl f_nb_goal)), (nb_hops, .inl (kI, 8, .inl f_nb_hops)), (nb_address, .inl (kI, 8, .inl f_nb_address)), (nb, .inr (3, oX3 on w nb_port nb_goal nb_hops nb_address (upd (upd y19_0 2 r8) 1 v19_loc5))), (on, .inr (2, oX2 n_kind n_salt n_pace n_manner n_from n_to n_goal n_reach n_branches n_branch n_tally x_n)), (n_kind, .inl (kI, 12, .inl f_n_kind)), (n_salt, .inl (kI, 12, .inl f_n_salt)), (n_manner, .inl (kI, 12, .inl f_n_manner)), (n_to, .inl (kI, 20, .inl f_n_to)), (n_goal, .inl (kI, 3, .inl f_n_goal)), (n_branches, .inl (kI, 36, .inl f_n_branches)), (n_branch, .inl (kI, 144, .inl f_n_branch)), (w, .inr (9, oX9 on oc y10)), (oc, .inr (0, oX0 c_seen c_sent c_turn c_counter x_c)), (c_turn, .inl (kI, 12, .inl f_c_turn))] := hDa
            clear hPa hDa
            have hPD9 := cl_s (wc := [(nb, .inr (3, oX3 on w nb_port nb_goal nb_hops nb_address (upd (upd y19_0 2 r8) 1 v19_loc5))), (nb_port, .inl (kI, 8, .inl f_nb_port)), (nb_goal, .inl (kI, 8, .inl f_nb_goal)), (nb_hops, .inl (kI, 8, .inl f_nb_hops)), (nb_address, .inl (kI, 8, .inl f_nb_address)), (on, .inr (2, oX2 n_kind n_salt n_pace n_manner n_from n_to n_goal n_reach n_branches n_branch n_tally x_n)), (n_kind, .inl (kI, 12, .inl f_n_kind)), (n_salt, .inl (kI, 12, .inl f_n_salt)), (n_manner, .inl (kI, 12, .inl f_n_manner)), (n_to, .inl (kI, 20, .inl f_n_to)), (n_goal, .inl (kI, 3, .inl f_n_goal)), (n_branches, .inl (kI, 36, .inl f_n_branches)), (n_branch, .inl (kI, 144, .inl f_n_branch)), (w, .inr (9, oX9 on oc y10)), (oc, .inr (0, oX0 c_seen c_sent c_turn c_counter x_c)), (c_turn, .inl (kI, 12, .inl f_c_turn))]) hP hD [4, 0, 1, 2, 3, 5, 6, 7, 8, 9, 10, 11, 12, 13, 14, 15] rfl (by decide +kernel)
            exact hJ64 (upd (upd y19_0 2 r8) 1 v19_loc5) y10 r8 _ _ _ ((fI_u (fI_u hI19_0 (k := 2) ((iv_w b15 (by decide) (by decide)))) (k := 1) ((iv_w b4 (by decide) (by decide))))) (hq11) (b4) ((iv_w b15 (by decide) (by decide))) ((iv_w b4 (by decide) (by decide))) ((iv_w b15 (by decide) (by decide))) (hq12) (hPD9.1) (hPD9.2) hS (lv_sub hl [1, 2, 3, 4, 5, 0] rfl)
  refine lv_aload_n hx hb dX3_lookNext_0 rfl (lv_at hl 0 rfl) ?_
  refine lv_iconst (v := (-1)) hx hb dX3_lookNext_1 ic_m1 ?_
  refine va_put (D := (dC, dI)) (ci := 3) (v := .int (-1)) (ty := .int) (C := RX3) (T := TX3) (N := 9) hx hb hts hin3 tyX3 tyX3_ok nmX3 hown hK hP hD hS 0 rfl rfl 7 (by decide) hw_1 (fun _ h9 => h9) rfl (by decide +kernel) rfl rfl (Nat.le_of_ble_eq_true rfl) dX3_lookNext_2 (fun H locs hPa hDa hS => ?_)
  clear hP hD
  have hP : va_P (dC, dI) vwCl [(nb, .inr (3, oX3 on w nb_port nb_goal nb_hops nb_address (upd x_nb 1 (-1)))), (nb_port, .inl (kI, 8, .inl f_nb_port)), (nb_goal, .inl (kI, 8, .inl f_nb_goal)), (nb_hops, .inl (kI, 8, .inl f_nb_hops)), (nb_address, .inl (kI, 8, .inl f_nb_address)), (on, .inr (2, oX2 n_kind n_salt n_pace n_manner n_from n_to n_goal n_reach n_branches n_branch n_tally x_n)), (n_kind, .inl (kI, 12, .inl f_n_kind)), (n_salt, .inl (kI, 12, .inl f_n_salt)), (n_manner, .inl (kI, 12, .inl f_n_manner)), (n_to, .inl (kI, 20, .inl f_n_to)), (n_goal, .inl (kI, 3, .inl f_n_goal)), (n_branches, .inl (kI, 36, .inl f_n_branches)), (n_branch, .inl (kI, 144, .inl f_n_branch)), (w, .inr (9, oX9 on oc x_w)), (oc, .inr (0, oX0 c_seen c_sent c_turn c_counter x_c)), (c_turn, .inl (kI, 12, .inl f_c_turn))] H := hPa
  have hD : va_D A [(nb, .inr (3, oX3 on w nb_port nb_goal nb_hops nb_address (upd x_nb 1 (-1)))), (nb_port, .inl (kI, 8, .inl f_nb_port)), (nb_goal, .inl (kI, 8, .inl f_nb_goal)), (nb_hops, .inl (kI, 8, .inl f_nb_hops)), (nb_address, .inl (kI, 8, .inl f_nb_address)), (on, .inr (2, oX2 n_kind n_salt n_pace n_manner n_from n_to n_goal n_reach n_branches n_branch n_tally x_n)), (n_kind, .inl (kI, 12, .inl f_n_kind)), (n_salt, .inl (kI, 12, .inl f_n_salt)), (n_manner, .inl (kI, 12, .inl f_n_manner)), (n_to, .inl (kI, 20, .inl f_n_to)), (n_goal, .inl (kI, 3, .inl f_n_goal)), (n_branches, .inl (kI, 36, .inl f_n_branches)), (n_branch, .inl (kI, 144, .inl f_n_branch)), (w, .inr (9, oX9 on oc x_w)), (oc, .inr (0, oX0 c_seen c_sent c_turn c_counter x_c)), (c_turn, .inl (kI, 12, .inl f_c_turn))] := hDa
  clear hPa hDa
  refine lv_aload_n hx hb dX3_lookNext_5 rfl (lv_at hl 0 rfl) ?_
  refine lv_iconst (v := 0) hx hb dX3_lookNext_6 ic_0 ?_
  refine va_put (D := (dC, dI)) (ci := 3) (v := .int 0) (ty := .int) (C := RX3) (T := TX3) (N := 9) hx hb hts hin3 tyX3 tyX3_ok nmX3 hown hK hP hD hS 0 rfl rfl 8 (by decide) hw_0 (fun _ h9 => h9) rfl (by decide +kernel) rfl rfl (Nat.le_of_ble_eq_true rfl) dX3_lookNext_7 (fun H locs hPa hDa hS => ?_)
  clear hP hD
  have hP : va_P (dC, dI) vwCl [(nb, .inr (3, oX3 on w nb_port nb_goal nb_hops nb_address (upd (upd x_nb 1 (-1)) 2 0))), (nb_port, .inl (kI, 8, .inl f_nb_port)), (nb_goal, .inl (kI, 8, .inl f_nb_goal)), (nb_hops, .inl (kI, 8, .inl f_nb_hops)), (nb_address, .inl (kI, 8, .inl f_nb_address)), (on, .inr (2, oX2 n_kind n_salt n_pace n_manner n_from n_to n_goal n_reach n_branches n_branch n_tally x_n)), (n_kind, .inl (kI, 12, .inl f_n_kind)), (n_salt, .inl (kI, 12, .inl f_n_salt)), (n_manner, .inl (kI, 12, .inl f_n_manner)), (n_to, .inl (kI, 20, .inl f_n_to)), (n_goal, .inl (kI, 3, .inl f_n_goal)), (n_branches, .inl (kI, 36, .inl f_n_branches)), (n_branch, .inl (kI, 144, .inl f_n_branch)), (w, .inr (9, oX9 on oc x_w)), (oc, .inr (0, oX0 c_seen c_sent c_turn c_counter x_c)), (c_turn, .inl (kI, 12, .inl f_c_turn))] H := hPa
  have hD : va_D A [(nb, .inr (3, oX3 on w nb_port nb_goal nb_hops nb_address (upd (upd x_nb 1 (-1)) 2 0))), (nb_port, .inl (kI, 8, .inl f_nb_port)), (nb_goal, .inl (kI, 8, .inl f_nb_goal)), (nb_hops, .inl (kI, 8, .inl f_nb_hops)), (nb_address, .inl (kI, 8, .inl f_nb_address)), (on, .inr (2, oX2 n_kind n_salt n_pace n_manner n_from n_to n_goal n_reach n_branches n_branch n_tally x_n)), (n_kind, .inl (kI, 12, .inl f_n_kind)), (n_salt, .inl (kI, 12, .inl f_n_salt)), (n_manner, .inl (kI, 12, .inl f_n_manner)), (n_to, .inl (kI, 20, .inl f_n_to)), (n_goal, .inl (kI, 3, .inl f_n_goal)), (n_branches, .inl (kI, 36, .inl f_n_branches)), (n_branch, .inl (kI, 144, .inl f_n_branch)), (w, .inr (9, oX9 on oc x_w)), (oc, .inr (0, oX0 c_seen c_sent c_turn c_counter x_c)), (c_turn, .inl (kI, 12, .inl f_c_turn))] := hDa
  clear hPa hDa
  refine lv_aload_n hx hb dX3_lookNext_10 rfl (lv_at hl 0 rfl) ?_
  refine lv_iload_n hx hb dX3_lookNext_11 rfl (lv_at hl 1 rfl) ?_
  obtain ⟨hPc, hDc, hFc, hJn⟩ := cl_a (wc := [(nb, .inr (3, oX3 on w nb_port nb_goal nb_hops nb_address (upd (upd x_nb 1 (-1)) 2 0))), (nb_port, .inl (kI, 8, .inl f_nb_port)), (nb_goal, .inl (kI, 8, .inl f_nb_goal)), (nb_hops, .inl (kI, 8, .inl f_nb_hops)), (nb_address, .inl (kI, 8, .inl f_nb_address)), (on, .inr (2, oX2 n_kind n_salt n_pace n_manner n_from n_to n_goal n_reach n_branches n_branch n_tally x_n)), (n_kind, .inl (kI, 12, .inl f_n_kind)), (n_salt, .inl (kI, 12, .inl f_n_salt)), (n_manner, .inl (kI, 12, .inl f_n_manner)), (n_to, .inl (kI, 20, .inl f_n_to)), (n_goal, .inl (kI, 3, .inl f_n_goal)), (n_branches, .inl (kI, 36, .inl f_n_branches)), (n_branch, .inl (kI, 144, .inl f_n_branch)), (w, .inr (9, oX9 on oc x_w)), (oc, .inr (0, oX0 c_seen c_sent c_turn c_counter x_c)), (c_turn, .inl (kI, 12, .inl f_c_turn))]) (wr := []) hP hD hS hA [0, 1, 2, 3, 4, 5, 6, 7, 8, 9, 10, 11, 12, 13, 14, 15] [] rfl rfl (by decide +kernel)
  refine va_calll (va_runV (As := [.int p0]) (rest := []) ⟨hx, hb, hml, hown, hts⟩ (s3_fitting l dC dI kB kI kJ kZ kC kS H.size nb on w nb_port nb_goal nb_hops nb_address (upd (upd x_nb 1 (-1)) 2 0) f_nb_port f_nb_goal f_nb_hops f_nb_address n_kind n_salt n_pace n_manner n_from n_to n_goal n_reach n_branches n_branch n_tally x_n f_n_kind f_n_salt f_n_manner f_n_to f_n_goal f_n_branches f_n_branch oc x_w c_seen c_sent c_turn c_counter x_c f_c_turn p0 ((fI_u (fI_u hx_nb (k := 1) ((iv_w ivk_m1 (by decide) (by decide)))) (k := 2) ((iv_w ivk_0 (by decide) (by decide))))) (hf_nb_port) (hf_nb_goal) (hx_n) (hf_n_salt) (hf_n_to) (hf_n_goal) (hf_n_branches) (hf_n_branch) (hx_w) (hf_c_turn) (hp0) (hsw)) (cwV 1 hts gX3_lookNext_X3_fitting rfl rfl rfl (by decide +kernel) ⟨Nat.le_of_ble_eq_true rfl, Nat.le_of_ble_eq_true rfl⟩) ⟨fun a U g mk q => by obtain ⟨q0, q1, qP, qE, qD⟩ := q; exact ⟨q0, q1, qP, kE_call qE, qD⟩, va_recv hK hP (ci := 3) (q0 := 0) rfl rfl, fun U hU hW => ⟨rfl, by rw [hU], by rw [hU]; exact hPc, kE_warm hW hE, hDc.weaken (fun _ _ _ _ => trivial)⟩⟩ rfl rfl hl.1 rfl (lv_room (Nat.le_of_ble_eq_true rfl)) dX3_lookNext_12 ⟨Nat.le_of_ble_eq_true rfl, Nat.le_of_ble_eq_true rfl⟩) hS (fun q _ h => hFc q h) hFc (fun r16 u t H locs ht hvm w17 hB hz1 hk1 hS => ?_)
  obtain ⟨y18, hq19, hq20, hP1, hD1⟩ := hB
  try dsimp only at w17
  obtain ⟨hPa, hDa⟩ := hJn (w1 := [(nb, .inr (3, oX3 on w nb_port nb_goal nb_hops nb_address (upd (upd x_nb 1 (-1)) 2 0))), (nb_port, .inl (kI, 8, .inl f_nb_port)), (nb_goal, .inl (kI, 8, .inl f_nb_goal)), (nb_hops, .inl (kI, 8, .inl f_nb_hops)), (nb_address, .inl (kI, 8, .inl f_nb_address)), (on, .inr (2, oX2 n_kind n_salt n_pace n_manner n_from n_to n_goal n_reach n_branches n_branch n_tally x_n)), (n_kind, .inl (kI, 12, .inl f_n_kind)), (n_salt, .inl (kI, 12, .inl f_n_salt)), (n_manner, .inl (kI, 12, .inl f_n_manner)), (n_to, .inl (kI, 20, .inl f_n_to)), (n_goal, .inl (kI, 3, .inl f_n_goal)), (n_branches, .inl (kI, 36, .inl f_n_branches)), (n_branch, .inl (kI, 144, .inl f_n_branch)), (w, .inr (9, oX9 on oc y18)), (oc, .inr (0, oX0 c_seen c_sent c_turn c_counter x_c)), (c_turn, .inl (kI, 12, .inl f_c_turn))]) hk1 ht hP1 hD1
  clear hP hD hPc hDc hFc hJn hP1 hD1 hk1
  have hP : va_P (dC, dI) vwCl [(nb, .inr (3, oX3 on w nb_port nb_goal nb_hops nb_address (upd (upd x_nb 1 (-1)) 2 0))), (nb_port, .inl (kI, 8, .inl f_nb_port)), (nb_goal, .inl (kI, 8, .inl f_nb_goal)), (nb_hops, .inl (kI, 8, .inl f_nb_hops)), (nb_address, .inl (kI, 8, .inl f_nb_address)), (on, .inr (2, oX2 n_kind n_salt n_pace n_manner n_from n_to n_goal n_reach n_branches n_branch n_tally x_n)), (n_kind, .inl (kI, 12, .inl f_n_kind)), (n_salt, .inl (kI, 12, .inl f_n_salt)), (n_manner, .inl (kI, 12, .inl f_n_manner)), (n_to, .inl (kI, 20, .inl f_n_to)), (n_goal, .inl (kI, 3, .inl f_n_goal)), (n_branches, .inl (kI, 36, .inl f_n_branches)), (n_branch, .inl (kI, 144, .inl f_n_branch)), (w, .inr (9, oX9 on oc y18)), (oc, .inr (0, oX0 c_seen c_sent c_turn c_counter x_c)), (c_turn, .inl (kI, 12, .inl f_c_turn))] H := hPa
  have hD : va_D A [(nb, .inr (3, oX3 on w nb_port nb_goal nb_hops nb_address (upd (upd x_nb 1 (-1)) 2 0))), (nb_port, .inl (kI, 8, .inl f_nb_port)), (nb_goal, .inl (kI, 8, .inl f_nb_goal)), (nb_hops, .inl (kI, 8, .inl f_nb_hops)), (nb_address, .inl (kI, 8, .inl f_nb_address)), (on, .inr (2, oX2 n_kind n_salt n_pace n_manner n_from n_to n_goal n_reach n_branches n_branch n_tally x_n)), (n_kind, .inl (kI, 12, .inl f_n_kind)), (n_salt, .inl (kI, 12, .inl f_n_salt)), (n_manner, .inl (kI, 12, .inl f_n_manner)), (n_to, .inl (kI, 20, .inl f_n_to)), (n_goal, .inl (kI, 3, .inl f_n_goal)), (n_branches, .inl (kI, 36, .inl f_n_branches)), (n_branch, .inl (kI, 144, .inl f_n_branch)), (w, .inr (9, oX9 on oc y18)), (oc, .inr (0, oX0 c_seen c_sent c_turn c_counter x_c)), (c_turn, .inl (kI, 12, .inl f_c_turn))] := hDa
  clear hPa hDa
  refine W.widen (k := 0) (n := 0) (Nat.le_of_ble_eq_true rfl) (Nat.le_of_ble_eq_true rfl) ?_
  refine lv_lstore_n (lv' := [(3, .long r16), (0, .ref nb), (1, .int p0), (2, .int p1)]) hx hb dX3_lookNext_15 rfl hl (Nat.le_of_ble_eq_true rfl) rfl (fun ls hl => ?_)
  refine lv_iconst (v := 0) hx hb dX3_lookNext_16 ic_0 ?_
  refine lv_istore (lv' := [(5, .int 0), (3, .long r16), (0, .ref nb), (1, .int p0), (2, .int p1)]) hx hb dX3_lookNext_17 hl (Nat.le_of_ble_eq_true rfl) rfl (fun ls hl => ?_)
  exact hJ19 _ (upd (upd x_nb 1 (-1)) 2 0) y18 r16 0 _ _ _ (Nat.lt_succ_self _) ((fI_u (fI_u hx_nb (k := 1) ((iv_w ivk_m1 (by decide) (by decide)))) (k := 2) ((iv_w ivk_0 (by decide) (by decide))))) (hq19) ((iv_w ivk_0 (by decide) (by decide))) ((iv_w ivk_m1 (by decide) (by decide))) ((iv_w ivk_0 (by decide) (by decide))) (hq20) (hP) (hD) hS (lv_sub hl [2, 3, 4, 1, 0] rfl)
def rm_s7_findDiamonds : Room := { frames := 2, cells := 0, slots := 0, locals := 47 }
set_option maxHeartbeats 4000000 in
set_option maxRecDepth 100000 in
theorem s7_findDiamonds (l : Launch) (dC : Nat → ClassId) (dI : Nat → Nat → Nat) (kB kI kJ kZ kC kS : ClassId) (sz : Nat) (si : Nat) (on : Nat) (oc : Nat) (si_edgesFrom : Nat) (si_diamondFirst : Nat) (si_diamondLast : Nat) (x_si : Nat → Int32) (f_si_diamondFirst : Nat → Int32) (f_si_diamondLast : Nat → Int32) (c_seen : Nat) (c_sent : Nat) (c_turn : Nat) (c_counter : Nat) (x_c : Nat → Int32) (f_c_seen : Nat → Int64) (p0 : Int32) (hf_si_diamondFirst : fI (fun _ => 0) (fun _ => 10) f_si_diamondFirst) (hf_si_diamondLast : fI (fun _ => 0) (fun _ => 10) f_si_diamondLast) (hf_c_seen : sI f_c_seen) (hp0 : iv 0 2 p0) : Met l yX7_findDiamonds wsX7_findDiamonds rm_s7_findDiamonds (va_Pc [.ref si, .int p0] (fun U => U.heap.size = sz ∧ va_P (dC, dI) vwCl [(si, .inr (7, oX7 on oc si_edgesFrom si_diamondFirst si_diamondLast x_si)), (si_diamondFirst, .inl (kI, 10, .inl f_si_diamondFirst)), (si_diamondLast, .inl (kI, 10, .inl f_si_diamondLast)), (oc, .inr (0, oX0 c_seen c_sent c_turn c_counter x_c)), (c_seen, .inl (kJ, 96, .inr (.inl f_c_seen)))] U.heap ∧ kE dC dI kB kI kJ kZ kC kS U ∧ va_D (fun _ => True) [(si, .inr (7, oX7 on oc si_edgesFrom si_diamondFirst si_diamondLast x_si)), (si_diamondFirst, .inl (kI, 10, .inl f_si_diamondFirst)), (si_diamondLast, .inl (kI, 10, .inl f_si_diamondLast)), (oc, .inr (0, oX0 c_seen c_sent c_turn c_counter x_c)), (c_seen, .inl (kJ, 96, .inr (.inl f_c_seen)))])) (va_Qi (fun (r : Int32) (_ : Unit) => iv 0 10 r) (fun _ t => ∃ (f_si_diamondFirst' : Nat → Int32) (f_si_diamondLast' : Nat → Int32), fI (fun _ => 0) (fun _ => 10) f_si_diamondFirst' ∧ fI (fun _ => 0) (fun _ => 10) f_si_diamondLast' ∧ va_P (dC, dI) vwCl [(si, .inr (7, oX7 on oc si_edgesFrom si_diamondFirst si_diamondLast x_si)), (si_diamondFirst, .inl (kI, 10, .inl f_si_diamondFirst')), (si_diamondLast, .inl (kI, 10, .inl f_si_diamondLast')), (oc, .inr (0, oX0 c_seen c_sent c_turn c_counter x_c)), (c_seen, .inl (kJ, 96, .inr (.inl f_c_seen)))] t.heap ∧ va_D (va_A [(si, .inr (7, oX7 on oc si_edgesFrom si_diamondFirst si_diamondLast x_si)), (si_diamondFirst, .inl (kI, 10, .inl f_si_diamondFirst)), (si_diamondLast, .inl (kI, 10, .inl f_si_diamondLast)), (oc, .inr (0, oX0 c_seen c_sent c_turn c_counter x_c)), (c_seen, .inl (kJ, 96, .inr (.inl f_c_seen)))] sz) [(si, .inr (7, oX7 on oc si_edgesFrom si_diamondFirst si_diamondLast x_si)), (si_diamondFirst, .inl (kI, 10, .inl f_si_diamondFirst')), (si_diamondLast, .inl (kI, 10, .inl f_si_diamondLast')), (oc, .inr (0, oX0 c_seen c_sent c_turn c_counter x_c)), (c_seen, .inl (kJ, 96, .inr (.inl f_c_seen)))]) (va_A [(si, .inr (7, oX7 on oc si_edgesFrom si_diamondFirst si_diamondLast x_si)), (si_diamondFirst, .inl (kI, 10, .inl f_si_diamondFirst)), (si_diamondLast, .inl (kI, 10, .inl f_si_diamondLast)), (oc, .inr (0, oX0 c_seen c_sent c_turn c_counter x_c)), (c_seen, .inl (kJ, 96, .inr (.inl f_c_seen)))] sz)) 0 0 (va_A [(si, .inr (7, oX7 on oc si_edgesFrom si_diamondFirst si_diamondLast x_si)), (si_diamondFirst, .inl (kI, 10, .inl f_si_diamondFirst)), (si_diamondLast, .inl (kI, 10, .inl f_si_diamondLast)), (oc, .inr (0, oX0 c_seen c_sent c_turn c_counter x_c)), (c_seen, .inl (kJ, 96, .inr (.inl f_c_seen)))] sz) := by
  refine Met.ofW (cc := cX7_findDiamonds) (maxL := 6) (ret := (some .int)) (by decide) rfl ?_
  intro p e s m args0 below meth c s₁ B hml hv
  obtain ⟨hargs, hsz, hP, hE, hD0⟩ := hv
  have hx := B.exec
  have hb := B.bytes
  have hr := B.returns
  have hts := atoms_spec (ws := wsX7_findDiamonds) B.pre
  have hown : s.vm.findClass RX7 = some m.cls := findClass_of_methodNamed B.named
  have hlocks := B.notSynchronized
  have hK := hE.1
  have hin7 : ∀ w ∈ wsX70, w ∈ wsX7_findDiamonds := fun _ h9 => List.mem_cons_of_mem _ (List.mem_append_left _ (List.mem_append_right _ h9))
  have hin0 : ∀ w ∈ wsX00, w ∈ wsX7_findDiamonds := fun _ h9 => List.mem_cons_of_mem _ (List.mem_append_right _ h9)
  have hw_0 := hts (.fieldLink RX7 15 "PathProber$Sight" "diamondFirst" "[I") (List.mem_of_getElem? (i := 1) rfl)
  have hw_1 := hts (.fieldLink RX7 18 "PathProber$Sight" "diamondLast" "[I") (List.mem_of_getElem? (i := 2) rfl)
  subst hsz
  have hD := hD0.self (sz := s.heap.size)
  generalize hAe : va_A [(si, .inr (7, oX7 on oc si_edgesFrom si_diamondFirst si_diamondLast x_si)), (si_diamondFirst, .inl (kI, 10, .inl f_si_diamondFirst)), (si_diamondLast, .inl (kI, 10, .inl f_si_diamondLast)), (oc, .inr (0, oX0 c_seen c_sent c_turn c_counter x_c)), (c_seen, .inl (kJ, 96, .inr (.inl f_c_seen)))] s.heap.size = A at hD ⊢
  have hA : ∀ q : Nat, s.heap.size ≤ q → A q := fun q h => by rw [← hAe]; exact Or.inr h
  have hS : va_S A s.heap s.heap [] := va_S.rf
  have hP : va_P (dC, dI) vwCl [(si, .inr (7, oX7 on oc si_edgesFrom si_diamondFirst si_diamondLast x_si)), (si_diamondFirst, .inl (kI, 10, .inl f_si_diamondFirst)), (si_diamondLast, .inl (kI, 10, .inl f_si_diamondLast)), (oc, .inr (0, oX0 c_seen c_sent c_turn c_counter x_c)), (c_seen, .inl (kJ, 96, .inr (.inl f_c_seen)))] s.heap := hP
  have hl := lv_entry ([.ref si, .int p0]) (n := 6) (Nat.le_of_ble_eq_true rfl)
  have hla : entryFrame m args0 6 = entryFrame m ([.ref si, .int p0] : List Value).toArray 6 := by rw [hargs]
  rw [hla, lg_entry_eq]
  generalize (lg_sl ([.ref si, .int p0]) ++ List.replicate (6 - (lg_sl ([.ref si, .int p0])).length) Slot.unset).toArray = ls at hl ⊢
  have hl : lv_has ls 6 [(0, .ref si), (1, .int p0)] := hl
  have hJ7 : ∀ (n : Nat) (g7_1 : Nat → Int32) (g7_2 : Nat → Int32) (v7_loc2 : Int32) (v7_loc3 : Int32) (v7_loc4 : Int32) (H : Heap) (locs : List Loc) (ls : Array Slot), (11 - v7_loc4.toInt).toNat < n → fI (fun _ => 0) (fun _ => 10) g7_1 → fI (fun _ => 0) (fun _ => 10) g7_2 → iv 0 10 v7_loc2 → iv (-1) 10 v7_loc3 → iv 1 11 v7_loc4 → (v7_loc2.toInt + 1 ≤ v7_loc4.toInt) → va_P (dC, dI) vwCl [(si, .inr (7, oX7 on oc si_edgesFrom si_diamondFirst si_diamondLast x_si)), (si_diamondFirst, .inl (kI, 10, .inl g7_1)), (si_diamondLast, .inl (kI, 10, .inl g7_2)), (oc, .inr (0, oX0 c_seen c_sent c_turn c_counter x_c)), (c_seen, .inl (kJ, 96, .inr (.inl f_c_seen)))] H → va_D A [(si, .inr (7, oX7 on oc si_edgesFrom si_diamondFirst si_diamondLast x_si)), (si_diamondFirst, .inl (kI, 10, .inl g7_1)), (si_diamondLast, .inl (kI, 10, .inl g7_2)), (oc, .inr (0, oX0 c_seen c_sent c_turn c_counter x_c)), (c_seen, .inl (kJ, 96, .inr (.inl f_c_seen)))] → va_S A s.heap H locs → lv_has ls 6 [(0, .ref si), (1, .int p0), (2, .int v7_loc2), (3, .int v7_loc3), (4, .int v7_loc4)] → W p l e (headSpec wsX7_findDiamonds rm_s7_findDiamonds).room s m args0 below meth c H locs (0) (0) (MQ below (va_Qi (fun (r : Int32) (_ : Unit) => iv 0 10 r) (fun _ t => ∃ (f_si_diamondFirst' : Nat → Int32) (f_si_diamondLast' : Nat → Int32), fI (fun _ => 0) (fun _ => 10) f_si_diamondFirst' ∧ fI (fun _ => 0) (fun _ => 10) f_si_diamondLast' ∧ va_P (dC, dI) vwCl [(si, .inr (7, oX7 on oc si_edgesFrom si_diamondFirst si_diamondLast x_si)), (si_diamondFirst, .inl (kI, 10, .inl f_si_diamondFirst')), (si_diamondLast, .inl (kI, 10, .inl f_si_diamondLast')), (oc, .inr (0, oX0 c_seen c_sent c_turn c_counter x_c)), (c_seen, .inl (kJ, 96, .inr (.inl f_c_seen)))] t.heap ∧ va_D A [(si, .inr (7, oX7 on oc si_edgesFrom si_diamondFirst si_diamondLast x_si)), (si_diamondFirst, .inl (kI, 10, .inl f_si_diamondFirst')), (si_diamondLast, .inl (kI, 10, .inl f_si_diamondLast')), (oc, .inr (0, oX0 c_seen c_sent c_turn c_counter x_c)), (c_seen, .inl (kJ, 96, .inr (.inl f_c_seen)))]) A) args0 s 0 0 A) (F0 m 7 ls []) := by
    intro n
    induction n with
    | zero => intro g7_1 g7_2 v7_loc2 v7_loc3 v7_loc4 H locs ls hm7; exact absurd hm7 (Nat.not_lt_zero _)
    | succ n ih7 =>
      intro g7_1 g7_2 v7_loc2 v7_loc3 v7_loc4 H locs ls hm7 hI7_1 hI7_2 h7_3 h7_4 h7_5 hdi_7 hP hD hS hl
      refine lv_iload hx hb dX7_findDiamonds_7 (lv_at hl 4 rfl) ?_
      refine lv_bipush (v := 10) hx hb dX7_findDiamonds_9 bp_10 ?_
      refine lv_icmp_gt (tgt := 85) hx hb dX7_findDiamonds_11 rfl (fun c1 => ?_) (fun c1 => ?_)
      · have b2 : iv 11 11 v7_loc4 := iv_ltR c1 ivk_10 h7_5 (by decide) (by decide)
        refine lv_iload_n hx hb dX7_findDiamonds_85 rfl (lv_at hl 2 rfl) ?_
        have hP9 := hP
        have hD9 := hD
        exact W.iret (v := v7_loc2) hx hb hr (fun t ht hW => ⟨⟨v7_loc2, (), rfl, h7_3, g7_1, g7_2, hI7_1, hI7_2, by rw [ht]; exact hP9, hD9⟩, hS.F ht⟩) hS.2.2 dX7_findDiamonds_86
      · have b3 : iv 1 10 v7_loc4 := iv_leL (Int32.not_lt.mp c1) h7_5 ivk_10 (by decide) (by decide)
        refine lv_aload_n hx hb dX7_findDiamonds_14 rfl (lv_at hl 0 rfl) ?_
        refine lv_iload_n hx hb dX7_findDiamonds_15 rfl (lv_at hl 1 rfl) ?_
        refine lv_iload hx hb dX7_findDiamonds_16 (lv_at hl 4 rfl) ?_
        obtain ⟨hPc, hDc, hFc, hJn⟩ := cl_a (wc := [(si, .inr (7, oX7 on oc si_edgesFrom si_diamondFirst si_diamondLast x_si)), (oc, .inr (0, oX0 c_seen c_sent c_turn c_counter x_c)), (c_seen, .inl (kJ, 96, .inr (.inl f_c_seen)))]) (wr := [(si_diamondFirst, .inl (kI, 10, .inl g7_1)), (si_diamondLast, .inl (kI, 10, .inl g7_2))]) hP hD hS hA [0, 3, 4] [1, 2] rfl rfl (by decide +kernel)
        refine va_calli (va_runV (As := [.int p0, .int v7_loc4]) (rest := []) ⟨hx, hb, hml, hown, hts⟩ (s7_widthAt l dC dI kB kI kJ kZ kC kS H.size si on oc si_edgesFrom si_diamondFirst si_diamondLast x_si c_seen c_sent c_turn c_counter x_c f_c_seen p0 v7_loc4 (hf_c_seen) (hp0)) (cwV 2 hts gX7_findDiamonds_X7_widthAt rfl rfl rfl (by decide +kernel) ⟨Nat.le_of_ble_eq_true rfl, Nat.le_of_ble_eq_true rfl⟩) ⟨fun a U g mk q => by obtain ⟨q0, q1, qP, qE, qD⟩ := q; exact ⟨q0, q1, qP, kE_call qE, qD⟩, va_recv hK hP (ci := 7) (q0 := 0) rfl rfl, fun U hU hW => ⟨rfl, by rw [hU], by rw [hU]; exact hPc, kE_warm hW hE, hDc.weaken (fun _ _ _ _ => trivial)⟩⟩ rfl rfl hl.1 rfl (lv_room (Nat.le_of_ble_eq_true rfl)) dX7_findDiamonds_18 ⟨Nat.le_of_ble_eq_true rfl, Nat.le_of_ble_eq_true rfl⟩) hS (fun q _ h => hFc q h) hFc (fun r4 u t H locs ht hvm w5 hB hz1 hk1 hS => ?_)
        obtain ⟨hP1, hD1⟩ := hB
        try dsimp only at w5
        obtain ⟨hPa, hDa⟩ := hJn (w1 := [(si, .inr (7, oX7 on oc si_edgesFrom si_diamondFirst si_diamondLast x_si)), (oc, .inr (0, oX0 c_seen c_sent c_turn c_counter x_c)), (c_seen, .inl (kJ, 96, .inr (.inl f_c_seen)))]) hk1 ht hP1 hD1
        clear hP hD hPc hDc hFc hJn hP1 hD1 hk1
        have hP : va_P (dC, dI) vwCl [(si_diamondFirst, .inl (kI, 10, .inl g7_1)), (si_diamondLast, .inl (kI, 10, .inl g7_2)), (si, .inr (7, oX7 on oc si_edgesFrom si_diamondFirst si_diamondLast x_si)), (oc, .inr (0, oX0 c_seen c_sent c_turn c_counter x_c)), (c_seen, .inl (kJ, 96, .inr (.inl f_c_seen)))] H := hPa
        have hD : va_D A [(si_diamondFirst, .inl (kI, 10, .inl g7_1)), (si_diamondLast, .inl (kI, 10, .inl g7_2)), (si, .inr (7, oX7 on oc si_edgesFrom si_diamondFirst si_diamondLast x_si)), (oc, .inr (0, oX0 c_seen c_sent c_turn c_counter x_c)), (c_seen, .inl (kJ, 96, .inr (.inl f_c_seen)))] := hDa
        clear hPa hDa
        refine W.widen (k := 0) (n := 0) (Nat.le_of_ble_eq_true rfl) (Nat.le_of_ble_eq_true rfl) ?_
        refine lv_istore (lv' := [(5, .int r4), (0, .ref si), (1, .int p0), (2, .int v7_loc2), (3, .int v7_loc3), (4, .int v7_loc4)]) hx hb dX7_findDiamonds_21 hl (Nat.le_of_ble_eq_true rfl) rfl (fun ls hl => ?_)
        refine lv_iload hx hb dX7_findDiamonds_23 (lv_at hl 0 rfl) ?_
        refine lv_iconst (v := 1) hx hb dX7_findDiamonds_25 ic_1 ?_
        refine lv_icmp_ne (tgt := 60) hx hb dX7_findDiamonds_26 rfl (fun c6 => ?_) (fun c6 => ?_)
        · refine lv_iload hx hb dX7_findDiamonds_60 (lv_at hl 0 rfl) ?_
          refine lv_iconst (v := 1) hx hb dX7_findDiamonds_62 ic_1 ?_
          refine lv_icmp_ne (tgt := 72) hx hb dX7_findDiamonds_63 rfl (fun _ => ?_) (fun c9 => absurd c9 (c6))
          refine lv_iload hx hb dX7_findDiamonds_72 (lv_at hl 0 rfl) ?_
          refine lv_if_ne (tgt := 79) hx hb dX7_findDiamonds_74 rfl (fun c7 => ?_) (fun c7 => ?_)
          · have b8 : iv 1 63 r4 := iv_neLo c7 w5 ivk_0 (by decide) (by decide)
            refine lv_iinc (v := v7_loc4 + Int32.ofInt 1) (lv' := [(4, .int (v7_loc4 + Int32.ofInt 1)), (5, .int r4), (0, .ref si), (1, .int p0), (2, .int v7_loc2), (3, .int v7_loc3)]) hx hb dX7_findDiamonds_79 hl (k := 5) rfl (rfl) (Nat.le_of_ble_eq_true rfl) rfl (fun ls hl => ?_)
            have b9 : iv 2 11 (v7_loc4 + Int32.ofInt 1) := iv_add b3 ivo_1 (by decide) (by decide) (by decide) (by decide)
            have t10 : (v7_loc4 + Int32.ofInt 1).toInt = v7_loc4.toInt + 1 := iv_inc 1 b3 (by decide) (by decide) (by decide) (by decide)
            refine lv_goto (tgt := 7) hx hb dX7_findDiamonds_82 rfl ?_
            have hPD9 := cl_s (wc := [(si, .inr (7, oX7 on oc si_edgesFrom si_diamondFirst si_diamondLast x_si)), (si_diamondFirst, .inl (kI, 10, .inl g7_1)), (si_diamondLast, .inl (kI, 10, .inl g7_2)), (oc, .inr (0, oX0 c_seen c_sent c_turn c_counter x_c)), (c_seen, .inl (kJ, 96, .inr (.inl f_c_seen)))]) hP hD [2, 0, 1, 3, 4] rfl (by decide +kernel)
            exact ih7 g7_1 g7_2 v7_loc2 v7_loc3 (v7_loc4 + Int32.ofInt 1) _ _ _ (ms_up (c := 1) (d := 0) b3 hm7 (by decide) (iv_inc 1 b3 (by decide) (by decide) (by decide) (by decide)) (by decide) rfl) (hI7_1) (hI7_2) (h7_3) (h7_4) ((iv_w b9 (by decide) (by decide))) ((show v7_loc2.toInt + 1 ≤ (v7_loc4 + Int32.ofInt 1).toInt from by have q1 := h7_3; have q2 := b9; have q3 := q1.2; have q4 := q2.1; have q5 := hdi_7; omega)) (hPD9.1) (hPD9.2) hS (lv_sub hl [2, 3, 4, 5, 0] rfl)
          · have b11 : iv 0 0 r4 := iv_eqL c7 ivk_0
            refine lv_iconst (v := (-1)) hx hb dX7_findDiamonds_77 ic_m1 ?_
            refine lv_istore_n (lv' := [(3, .int (-1)), (5, .int r4), (0, .ref si), (1, .int p0), (2, .int v7_loc2), (4, .int v7_loc4)]) hx hb dX7_findDiamonds_78 rfl hl (Nat.le_of_ble_eq_true rfl) rfl (fun ls hl => ?_)
            refine lv_iinc (v := v7_loc4 + Int32.ofInt 1) (lv' := [(4, .int (v7_loc4 + Int32.ofInt 1)), (3, .int (-1)), (5, .int r4), (0, .ref si), (1, .int p0), (2, .int v7_loc2)]) hx hb dX7_findDiamonds_79 hl (k := 5) rfl (rfl) (Nat.le_of_ble_eq_true rfl) rfl (fun ls hl => ?_)
            have b12 : iv 2 11 (v7_loc4 + Int32.ofInt 1) := iv_add b3 ivo_1 (by decide) (by decide) (by decide) (by decide)
            have t13 : (v7_loc4 + Int32.ofInt 1).toInt = v7_loc4.toInt + 1 := iv_inc 1 b3 (by decide) (by decide) (by decide) (by decide)
            refine lv_goto (tgt := 7) hx hb dX7_findDiamonds_82 rfl ?_
            have hPD9 := cl_s (wc := [(si, .inr (7, oX7 on oc si_edgesFrom si_diamondFirst si_diamondLast x_si)), (si_diamondFirst, .inl (kI, 10, .inl g7_1)), (si_diamondLast, .inl (kI, 10, .inl g7_2)), (oc, .inr (0, oX0 c_seen c_sent c_turn c_counter x_c)), (c_seen, .inl (kJ, 96, .inr (.inl f_c_seen)))]) hP hD [2, 0, 1, 3, 4] rfl (by decide +kernel)
            exact ih7 g7_1 g7_2 v7_loc2 (-1) (v7_loc4 + Int32.ofInt 1) _ _ _ (ms_up (c := 1) (d := 0) b3 hm7 (by decide) (iv_inc 1 b3 (by decide) (by decide) (by decide) (by decide)) (by decide) rfl) (hI7_1) (hI7_2) (h7_3) ((iv_w ivk_m1 (by decide) (by decide))) ((iv_w b12 (by decide) (by decide))) ((show v7_loc2.toInt + 1 ≤ (v7_loc4 + Int32.ofInt 1).toInt from by have q1 := h7_3; have q2 := b12; have q3 := q1.2; have q4 := q2.1; have q5 := hdi_7; omega)) (hPD9.1) (hPD9.2) hS (lv_sub hl [3, 4, 5, 1, 0] rfl)
        · have b14 : iv 1 1 r4 := iv_eqL c6 ivk_1
          refine lv_iload_n hx hb dX7_findDiamonds_29 rfl (lv_at hl 4 rfl) ?_
          refine lv_iconst (v := (-1)) hx hb dX7_findDiamonds_30 ic_m1 ?_
          refine lv_icmp_eq (tgt := 60) hx hb dX7_findDiamonds_31 rfl (fun c15 => ?_) (fun c15 => ?_)
          · have b16 : iv (-1) (-1) v7_loc3 := iv_eqL c15 ivk_m1
            refine lv_iload hx hb dX7_findDiamonds_60 (lv_at hl 0 rfl) ?_
            refine lv_iconst (v := 1) hx hb dX7_findDiamonds_62 ic_1 ?_
            refine lv_icmp_ne (tgt := 72) hx hb dX7_findDiamonds_63 rfl (fun c9 => absurd (c6) c9) (fun _ => ?_)
            refine lv_iload hx hb dX7_findDiamonds_66 (lv_at hl 5 rfl) ?_
            refine lv_istore_n (lv' := [(3, .int v7_loc4), (5, .int r4), (0, .ref si), (1, .int p0), (2, .int v7_loc2), (4, .int v7_loc4)]) hx hb dX7_findDiamonds_68 rfl hl (Nat.le_of_ble_eq_true rfl) rfl (fun ls hl => ?_)
            refine lv_goto (tgt := 79) hx hb dX7_findDiamonds_69 rfl ?_
            refine lv_iinc (v := v7_loc4 + Int32.ofInt 1) (lv' := [(4, .int (v7_loc4 + Int32.ofInt 1)), (3, .int v7_loc4), (5, .int r4), (0, .ref si), (1, .int p0), (2, .int v7_loc2)]) hx hb dX7_findDiamonds_79 hl (k := 5) rfl (rfl) (Nat.le_of_ble_eq_true rfl) rfl (fun ls hl => ?_)
            have b17 : iv 2 11 (v7_loc4 + Int32.ofInt 1) := iv_add b3 ivo_1 (by decide) (by decide) (by decide) (by decide)
            have t18 : (v7_loc4 + Int32.ofInt 1).toInt = v7_loc4.toInt + 1 := iv_inc 1 b3 (by decide) (by decide) (by decide) (by decide)
            refine lv_goto (tgt := 7) hx hb dX7_findDiamonds_82 rfl ?_
            have hPD9 := cl_s (wc := [(si, .inr (7, oX7 on oc si_edgesFrom si_diamondFirst si_diamondLast x_si)), (si_diamondFirst, .inl (kI, 10, .inl g7_1)), (si_diamondLast, .inl (kI, 10, .inl g7_2)), (oc, .inr (0, oX0 c_seen c_sent c_turn c_counter x_c)), (c_seen, .inl (kJ, 96, .inr (.inl f_c_seen)))]) hP hD [2, 0, 1, 3, 4] rfl (by decide +kernel)
            exact ih7 g7_1 g7_2 v7_loc2 v7_loc4 (v7_loc4 + Int32.ofInt 1) _ _ _ (ms_up (c := 1) (d := 0) b3 hm7 (by decide) (iv_inc 1 b3 (by decide) (by decide) (by decide) (by decide)) (by decide) rfl) (hI7_1) (hI7_2) (h7_3) ((iv_w b3 (by decide) (by decide))) ((iv_w b17 (by decide) (by decide))) ((show v7_loc2.toInt + 1 ≤ (v7_loc4 + Int32.ofInt 1).toInt from by have q1 := h7_3; have q2 := b17; have q3 := q1.2; have q4 := q2.1; have q5 := hdi_7; omega)) (hPD9.1) (hPD9.2) hS (lv_sub hl [3, 4, 5, 1, 0] rfl)
          · have b19 : iv 0 10 v7_loc3 := iv_neLo c15 h7_4 ivk_m1 (by decide) (by decide)
            refine lv_iload hx hb dX7_findDiamonds_34 (lv_at hl 5 rfl) ?_
            refine lv_iload_n hx hb dX7_findDiamonds_36 rfl (lv_at hl 4 rfl) ?_
            refine lv_isub hx hb dX7_findDiamonds_37 ?_
            refine iv_top (a := (-9)) (b := 10) (iv_sub b3 b19 (by decide) (by decide) (by decide) (by decide)) (fun z20 b21 => ?_)
            refine lv_iconst (v := 1) hx hb dX7_findDiamonds_38 ic_1 ?_
            refine lv_icmp_le (tgt := 60) hx hb dX7_findDiamonds_39 rfl (fun c22 => ?_) (fun c22 => ?_)
            · have b23 : iv (-9) 1 z20 := iv_leL c22 b21 ivk_1 (by decide) (by decide)
              refine lv_iload hx hb dX7_findDiamonds_60 (lv_at hl 0 rfl) ?_
              refine lv_iconst (v := 1) hx hb dX7_findDiamonds_62 ic_1 ?_
              refine lv_icmp_ne (tgt := 72) hx hb dX7_findDiamonds_63 rfl (fun c9 => absurd (c6) c9) (fun _ => ?_)
              refine lv_iload hx hb dX7_findDiamonds_66 (lv_at hl 5 rfl) ?_
              refine lv_istore_n (lv' := [(3, .int v7_loc4), (5, .int r4), (0, .ref si), (1, .int p0), (2, .int v7_loc2), (4, .int v7_loc4)]) hx hb dX7_findDiamonds_68 rfl hl (Nat.le_of_ble_eq_true rfl) rfl (fun ls hl => ?_)
              refine lv_goto (tgt := 79) hx hb dX7_findDiamonds_69 rfl ?_
              refine lv_iinc (v := v7_loc4 + Int32.ofInt 1) (lv' := [(4, .int (v7_loc4 + Int32.ofInt 1)), (3, .int v7_loc4), (5, .int r4), (0, .ref si), (1, .int p0), (2, .int v7_loc2)]) hx hb dX7_findDiamonds_79 hl (k := 5) rfl (rfl) (Nat.le_of_ble_eq_true rfl) rfl (fun ls hl => ?_)
              have b24 : iv 2 11 (v7_loc4 + Int32.ofInt 1) := iv_add b3 ivo_1 (by decide) (by decide) (by decide) (by decide)
              have t25 : (v7_loc4 + Int32.ofInt 1).toInt = v7_loc4.toInt + 1 := iv_inc 1 b3 (by decide) (by decide) (by decide) (by decide)
              refine lv_goto (tgt := 7) hx hb dX7_findDiamonds_82 rfl ?_
              have hPD9 := cl_s (wc := [(si, .inr (7, oX7 on oc si_edgesFrom si_diamondFirst si_diamondLast x_si)), (si_diamondFirst, .inl (kI, 10, .inl g7_1)), (si_diamondLast, .inl (kI, 10, .inl g7_2)), (oc, .inr (0, oX0 c_seen c_sent c_turn c_counter x_c)), (c_seen, .inl (kJ, 96, .inr (.inl f_c_seen)))]) hP hD [2, 0, 1, 3, 4] rfl (by decide +kernel)
              exact ih7 g7_1 g7_2 v7_loc2 v7_loc4 (v7_loc4 + Int32.ofInt 1) _ _ _ (ms_up (c := 1) (d := 0) b3 hm7 (by decide) (iv_inc 1 b3 (by decide) (by decide) (by decide) (by decide)) (by decide) rfl) (hI7_1) (hI7_2) (h7_3) ((iv_w b3 (by decide) (by decide))) ((iv_w b24 (by decide) (by decide))) ((show v7_loc2.toInt + 1 ≤ (v7_loc4 + Int32.ofInt 1).toInt from by have q1 := h7_3; have q2 := b24; have q3 := q1.2; have q4 := q2.1; have q5 := hdi_7; omega)) (hPD9.1) (hPD9.2) hS (lv_sub hl [3, 4, 5, 1, 0] rfl)
            · have b26 : iv 2 10 z20 := iv_ltR (Int32.not_le.mp c22) ivk_1 b21 (by decide) (by decide)
              have b27 : iv 0 9 v7_loc2 := dia_9 hdi_7 h7_3 b3
              refine lv_aload_n hx hb dX7_findDiamonds_42 rfl (lv_at hl 1 rfl) ?_
              refine va_get (D := (dC, dI)) (ci := 7) (v := .ref si_diamondFirst) (C := RX7) (T := TX7) (N := 5) hx hb hts hin7 hown hK hP 2 rfl rfl 3 (Nat.le_of_ble_eq_true rfl) hw_0 (fun _ h9 => h9) rfl dX7_findDiamonds_43 ?_
              refine lv_iload_n hx hb dX7_findDiamonds_46 rfl (lv_at hl 3 rfl) ?_
              refine lv_iload_n hx hb dX7_findDiamonds_47 rfl (lv_at hl 4 rfl) ?_
              refine va_iast hx hb hK hP hD hS 0 1 rfl rfl (iv_in b27 (by decide) (by decide)) dX7_findDiamonds_48 (fun H locs hPa hDa hS => ?_)
              clear hP hD
              have hP : va_P (dC, dI) vwCl [(si_diamondFirst, .inl (kI, 10, .inl (upd g7_1 v7_loc2.toNatClampNeg v7_loc3))), (si_diamondLast, .inl (kI, 10, .inl g7_2)), (si, .inr (7, oX7 on oc si_edgesFrom si_diamondFirst si_diamondLast x_si)), (oc, .inr (0, oX0 c_seen c_sent c_turn c_counter x_c)), (c_seen, .inl (kJ, 96, .inr (.inl f_c_seen)))] H := hPa
              have hD : va_D A [(si_diamondFirst, .inl (kI, 10, .inl (upd g7_1 v7_loc2.toNatClampNeg v7_loc3))), (si_diamondLast, .inl (kI, 10, .inl g7_2)), (si, .inr (7, oX7 on oc si_edgesFrom si_diamondFirst si_diamondLast x_si)), (oc, .inr (0, oX0 c_seen c_sent c_turn c_counter x_c)), (c_seen, .inl (kJ, 96, .inr (.inl f_c_seen)))] := hDa
              clear hPa hDa
              have hf29 : fI (fun _ => 0) (fun _ => 10) (upd g7_1 v7_loc2.toNatClampNeg v7_loc3) := fI_u hI7_1 (k := v7_loc2.toNatClampNeg) (b19)
              generalize (upd g7_1 v7_loc2.toNatClampNeg v7_loc3) = f28 at hP hD hf29
              refine lv_aload_n hx hb dX7_findDiamonds_49 rfl (lv_at hl 1 rfl) ?_
              refine va_get (D := (dC, dI)) (ci := 7) (v := .ref si_diamondLast) (C := RX7) (T := TX7) (N := 5) hx hb hts hin7 hown hK hP 2 rfl rfl 4 (Nat.le_of_ble_eq_true rfl) hw_1 (fun _ h9 => h9) rfl dX7_findDiamonds_50 ?_
              refine lv_iload_n hx hb dX7_findDiamonds_53 rfl (lv_at hl 3 rfl) ?_
              refine lv_iload hx hb dX7_findDiamonds_54 (lv_at hl 5 rfl) ?_
              refine va_iast hx hb hK hP hD hS 1 1 rfl rfl (iv_in b27 (by decide) (by decide)) dX7_findDiamonds_56 (fun H locs hPa hDa hS => ?_)
              clear hP hD
              have hP : va_P (dC, dI) vwCl [(si_diamondFirst, .inl (kI, 10, .inl f28)), (si_diamondLast, .inl (kI, 10, .inl (upd g7_2 v7_loc2.toNatClampNeg v7_loc4))), (si, .inr (7, oX7 on oc si_edgesFrom si_diamondFirst si_diamondLast x_si)), (oc, .inr (0, oX0 c_seen c_sent c_turn c_counter x_c)), (c_seen, .inl (kJ, 96, .inr (.inl f_c_seen)))] H := hPa
              have hD : va_D A [(si_diamondFirst, .inl (kI, 10, .inl f28)), (si_diamondLast, .inl (kI, 10, .inl (upd g7_2 v7_loc2.toNatClampNeg v7_loc4))), (si, .inr (7, oX7 on oc si_edgesFrom si_diamondFirst si_diamondLast x_si)), (oc, .inr (0, oX0 c_seen c_sent c_turn c_counter x_c)), (c_seen, .inl (kJ, 96, .inr (.inl f_c_seen)))] := hDa
              clear hPa hDa
              have hf31 : fI (fun _ => 0) (fun _ => 10) (upd g7_2 v7_loc2.toNatClampNeg v7_loc4) := fI_u hI7_2 (k := v7_loc2.toNatClampNeg) ((iv_w b3 (by decide) (by decide)))
              generalize (upd g7_2 v7_loc2.toNatClampNeg v7_loc4) = f30 at hP hD hf31
              refine lv_iinc (v := v7_loc2 + Int32.ofInt 1) (lv' := [(2, .int (v7_loc2 + Int32.ofInt 1)), (5, .int r4), (0, .ref si), (1, .int p0), (3, .int v7_loc3), (4, .int v7_loc4)]) hx hb dX7_findDiamonds_57 hl (k := 3) rfl (rfl) (Nat.le_of_ble_eq_true rfl) rfl (fun ls hl => ?_)
              have b32 : iv 1 10 (v7_loc2 + Int32.ofInt 1) := iv_add b27 ivo_1 (by decide) (by decide) (by decide) (by decide)
              have t33 : (v7_loc2 + Int32.ofInt 1).toInt = v7_loc2.toInt + 1 := iv_inc 1 b27 (by decide) (by decide) (by decide) (by decide)
              refine lv_iload hx hb dX7_findDiamonds_60 (lv_at hl 1 rfl) ?_
              refine lv_iconst (v := 1) hx hb dX7_findDiamonds_62 ic_1 ?_
              refine lv_icmp_ne (tgt := 72) hx hb dX7_findDiamonds_63 rfl (fun c9 => absurd (c6) c9) (fun _ => ?_)
              refine lv_iload hx hb dX7_findDiamonds_66 (lv_at hl 5 rfl) ?_
              refine lv_istore_n (lv' := [(3, .int v7_loc4), (2, .int (v7_loc2 + Int32.ofInt 1)), (5, .int r4), (0, .ref si), (1, .int p0), (4, .int v7_loc4)]) hx hb dX7_findDiamonds_68 rfl hl (Nat.le_of_ble_eq_true rfl) rfl (fun ls hl => ?_)
              refine lv_goto (tgt := 79) hx hb dX7_findDiamonds_69 rfl ?_
              refine lv_iinc (v := v7_loc4 + Int32.ofInt 1) (lv' := [(4, .int (v7_loc4 + Int32.ofInt 1)), (3, .int v7_loc4), (2, .int (v7_loc2 + Int32.ofInt 1)), (5, .int r4), (0, .ref si), (1, .int p0)]) hx hb dX7_findDiamonds_79 hl (k := 5) rfl (rfl) (Nat.le_of_ble_eq_true rfl) rfl (fun ls hl => ?_)
              have b34 : iv 2 11 (v7_loc4 + Int32.ofInt 1) := iv_add b3 ivo_1 (by decide) (by decide) (by decide) (by decide)
              have t35 : (v7_loc4 + Int32.ofInt 1).toInt = v7_loc4.toInt + 1 := iv_inc 1 b3 (by decide) (by decide) (by decide) (by decide)
              refine lv_goto (tgt := 7) hx hb dX7_findDiamonds_82 rfl ?_
              have hPD9 := cl_s (wc := [(si, .inr (7, oX7 on oc si_edgesFrom si_diamondFirst si_diamondLast x_si)), (si_diamondFirst, .inl (kI, 10, .inl f28)), (si_diamondLast, .inl (kI, 10, .inl f30)), (oc, .inr (0, oX0 c_seen c_sent c_turn c_counter x_c)), (c_seen, .inl (kJ, 96, .inr (.inl f_c_seen)))]) hP hD [2, 0, 1, 3, 4] rfl (by decide +kernel)
              exact ih7 f28 f30 (v7_loc2 + Int32.ofInt 1) v7_loc4 (v7_loc4 + Int32.ofInt 1) _ _ _ (ms_up (c := 1) (d := 0) b3 hm7 (by decide) (iv_inc 1 b3 (by decide) (by decide) (by decide) (by decide)) (by decide) rfl) (hf29) (hf31) ((iv_w b32 (by decide) (by decide))) ((iv_w b3 (by decide) (by decide))) ((iv_w b34 (by decide) (by decide))) ((show (v7_loc2 + Int32.ofInt 1).toInt + 1 ≤ (v7_loc4 + Int32.ofInt 1).toInt from by have q1 := b32; have q2 := b34; have q3 := q1.2; have q4 := q2.1; have q5 := hdi_7; omega)) (hPD9.1) (hPD9.2) hS (lv_sub hl [4, 5, 2, 1, 0] rfl)
  refine lv_iconst (v := 0) hx hb dX7_findDiamonds_0 ic_0 ?_
  refine lv_istore_n (lv' := [(2, .int 0), (0, .ref si), (1, .int p0)]) hx hb dX7_findDiamonds_1 rfl hl (Nat.le_of_ble_eq_true rfl) rfl (fun ls hl => ?_)
  refine lv_iconst (v := (-1)) hx hb dX7_findDiamonds_2 ic_m1 ?_
  refine lv_istore_n (lv' := [(3, .int (-1)), (2, .int 0), (0, .ref si), (1, .int p0)]) hx hb dX7_findDiamonds_3 rfl hl (Nat.le_of_ble_eq_true rfl) rfl (fun ls hl => ?_)
  refine lv_iconst (v := 1) hx hb dX7_findDiamonds_4 ic_1 ?_
  refine lv_istore (lv' := [(4, .int 1), (3, .int (-1)), (2, .int 0), (0, .ref si), (1, .int p0)]) hx hb dX7_findDiamonds_5 hl (Nat.le_of_ble_eq_true rfl) rfl (fun ls hl => ?_)
  exact hJ7 _ f_si_diamondFirst f_si_diamondLast 0 (-1) 1 _ _ _ (Nat.lt_succ_self _) (hf_si_diamondFirst) (hf_si_diamondLast) ((iv_w ivk_0 (by decide) (by decide))) ((iv_w ivk_m1 (by decide) (by decide))) ((iv_w ivk_1 (by decide) (by decide))) ((show ((0 : Int32)).toInt + 1 ≤ ((1 : Int32)).toInt from by have q1 := ivk_0; have q2 := ivk_1; have q3 := q1.2; have q4 := q2.1; have q24 : ((1 : Int32)).toInt = 1 := (by decide); have q25 : ((0 : Int32)).toInt = 0 := (by decide); omega)) (hP) (hD) hS (lv_sub hl [3, 4, 2, 1, 0] rfl)
def rm_s10_isPort : Room := { frames := 0, cells := 0, slots := 0, locals := 0 }
set_option maxHeartbeats 4000000 in
set_option maxRecDepth 100000 in
theorem s10_isPort (l : Launch) (dC : Nat → ClassId) (dI : Nat → Nat → Nat) (kB kI kJ kZ kC kS : ClassId) (sz : Nat) (p0 : Int32) : Met l yX10_isPort wsX10_isPort rm_s10_isPort (va_Pc [.int p0] (fun U => U.heap.size = sz ∧ va_P (dC, dI) vwCl [] U.heap ∧ kE dC dI kB kI kJ kZ kC kS U ∧ va_D (fun _ => True) [])) (va_Qi (fun (r : Int32) (_ : Unit) => iv 0 1 r ∧ (r = 0 ∨ iv 0 31 p0)) (fun _ t => va_P (dC, dI) vwCl [] t.heap ∧ va_D (va_A [] sz) []) (va_A [] sz)) 0 0 (va_A [] sz) := by
  refine Met.ofW (cc := cX10_isPort) (maxL := 1) (ret := (some .boolean)) (by decide) rfl ?_
  intro p e s m args0 below meth c s₁ B hml hv
  obtain ⟨hargs, hsz, hP, hE, hD0⟩ := hv
  have hx := B.exec
  have hb := B.bytes
  have hr := B.returns
  have hts := atoms_spec (ws := wsX10_isPort) B.pre
  have hown : s.vm.findClass RX10 = some m.cls := findClass_of_methodNamed B.named
  have hlocks := B.notSynchronized
  have hK := hE.1
  subst hsz
  have hD := hD0.self (sz := s.heap.size)
  generalize hAe : va_A [] s.heap.size = A at hD ⊢
  have hA : ∀ q : Nat, s.heap.size ≤ q → A q := fun q h => by rw [← hAe]; exact Or.inr h
  have hS : va_S A s.heap s.heap [] := va_S.rf
  have hP : va_P (dC, dI) vwCl [] s.heap := hP
  have hl := lv_entry ([.int p0]) (n := 1) (Nat.le_of_ble_eq_true rfl)
  have hla : entryFrame m args0 1 = entryFrame m ([.int p0] : List Value).toArray 1 := by rw [hargs]
  rw [hla, lg_entry_eq]
  generalize (lg_sl ([.int p0]) ++ List.replicate (1 - (lg_sl ([.int p0])).length) Slot.unset).toArray = ls at hl ⊢
  have hl : lv_has ls 1 [(0, .int p0)] := hl
  have hJ14 : ∀ (H : Heap) (locs : List Loc) (ls : Array Slot), iv (-2147483648) 2147483647 p0 → va_P (dC, dI) vwCl [] H → va_D A [] → va_S A s.heap H locs → lv_has ls 1 [(0, .int p0)] → W p l e (headSpec wsX10_isPort rm_s10_isPort).room s m args0 below meth c H locs (0) (0) (MQ below (va_Qi (fun (r : Int32) (_ : Unit) => iv 0 1 r ∧ (r = 0 ∨ iv 0 31 p0)) (fun _ t => va_P (dC, dI) vwCl [] t.heap ∧ va_D A []) A) args0 s 0 0 A) (F0 m 14 ls []) := by
    intro H locs ls h14_1 hP hD hS hl
    refine lv_iconst (v := 0) hx hb dX10_isPort_14 ic_0 ?_
    have hP9 := hP
    have hD9 := hD
    exact W.zret (v := 0) (ty := .boolean) hx hb hr rfl (fun t ht hW => ⟨⟨0, (), rfl, ⟨(iv_w ivk_0 (by decide) (by decide)), Or.inl rfl⟩, by rw [ht]; exact hP9, hD9⟩, hS.F ht⟩) hS.2.2 dX10_isPort_15
  refine lv_iload_n hx hb dX10_isPort_0 rfl (lv_at hl 0 rfl) ?_
  refine lv_if_lt (tgt := 14) hx hb dX10_isPort_1 rfl (fun c1 => ?_) (fun c1 => ?_)
  · have b2 : iv (-2147483648) (-1) p0 := iv_ltL c1 (iv_t p0) ivk_0 (by decide) (by decide)
    exact hJ14 _ _ _ ((iv_w b2 (by decide) (by decide))) (hP) (hD) hS (lv_sub hl [0] rfl)
  · have b3 : iv 0 2147483647 p0 := iv_leR (Int32.not_lt.mp c1) ivk_0 (iv_t p0) (by decide) (by decide)
    refine lv_iload_n hx hb dX10_isPort_4 rfl (lv_at hl 0 rfl) ?_
    refine lv_bipush (v := 32) hx hb dX10_isPort_5 bp_32 ?_
    refine lv_icmp_ge (tgt := 14) hx hb dX10_isPort_7 rfl (fun c4 => ?_) (fun c4 => ?_)
    · have b5 : iv 32 2147483647 p0 := iv_leR c4 ivk_32 b3 (by decide) (by decide)
      exact hJ14 _ _ _ ((iv_w b5 (by decide) (by decide))) (hP) (hD) hS (lv_sub hl [0] rfl)
    · have b6 : iv 0 31 p0 := iv_ltL (Int32.not_le.mp c4) b3 ivk_32 (by decide) (by decide)
      refine lv_iconst (v := 1) hx hb dX10_isPort_10 ic_1 ?_
      refine lv_goto (tgt := 15) hx hb dX10_isPort_11 rfl ?_
      have hP9 := hP
      have hD9 := hD
      exact W.zret (v := 1) (ty := .boolean) hx hb hr rfl (fun t ht hW => ⟨⟨1, (), rfl, ⟨(iv_w ivk_1 (by decide) (by decide)), Or.inr (b6)⟩, by rw [ht]; exact hP9, hD9⟩, hS.F ht⟩) hS.2.2 dX10_isPort_15
def rm_s10_isHops : Room := { frames := 0, cells := 0, slots := 0, locals := 0 }
set_option maxHeartbeats 4000000 in
set_option maxRecDepth 100000 in
theorem s10_isHops (l : Launch) (dC : Nat → ClassId) (dI : Nat → Nat → Nat) (kB kI kJ kZ kC kS : ClassId) (sz : Nat) (p0 : Int32) : Met l yX10_isHops wsX10_isHops rm_s10_isHops (va_Pc [.int p0] (fun U => U.heap.size = sz ∧ va_P (dC, dI) vwCl [] U.heap ∧ kE dC dI kB kI kJ kZ kC kS U ∧ va_D (fun _ => True) [])) (va_Qi (fun (r : Int32) (_ : Unit) => iv 0 1 r ∧ (r = 0 ∨ iv 1 10 p0)) (fun _ t => va_P (dC, dI) vwCl [] t.heap ∧ va_D (va_A [] sz) []) (va_A [] sz)) 0 0 (va_A [] sz) := by
  refine Met.ofW (cc := cX10_isHops) (maxL := 1) (ret := (some .boolean)) (by decide) rfl ?_
  intro p e s m args0 below meth c s₁ B hml hv
  obtain ⟨hargs, hsz, hP, hE, hD0⟩ := hv
  have hx := B.exec
  have hb := B.bytes
  have hr := B.returns
  have hts := atoms_spec (ws := wsX10_isHops) B.pre
  have hown : s.vm.findClass RX10 = some m.cls := findClass_of_methodNamed B.named
  have hlocks := B.notSynchronized
  have hK := hE.1
  subst hsz
  have hD := hD0.self (sz := s.heap.size)
  generalize hAe : va_A [] s.heap.size = A at hD ⊢
  have hA : ∀ q : Nat, s.heap.size ≤ q → A q := fun q h => by rw [← hAe]; exact Or.inr h
  have hS : va_S A s.heap s.heap [] := va_S.rf
  have hP : va_P (dC, dI) vwCl [] s.heap := hP
  have hl := lv_entry ([.int p0]) (n := 1) (Nat.le_of_ble_eq_true rfl)
  have hla : entryFrame m args0 1 = entryFrame m ([.int p0] : List Value).toArray 1 := by rw [hargs]
  rw [hla, lg_entry_eq]
  generalize (lg_sl ([.int p0]) ++ List.replicate (1 - (lg_sl ([.int p0])).length) Slot.unset).toArray = ls at hl ⊢
  have hl : lv_has ls 1 [(0, .int p0)] := hl
  have hJ15 : ∀ (H : Heap) (locs : List Loc) (ls : Array Slot), iv (-2147483648) 2147483647 p0 → va_P (dC, dI) vwCl [] H → va_D A [] → va_S A s.heap H locs → lv_has ls 1 [(0, .int p0)] → W p l e (headSpec wsX10_isHops rm_s10_isHops).room s m args0 below meth c H locs (0) (0) (MQ below (va_Qi (fun (r : Int32) (_ : Unit) => iv 0 1 r ∧ (r = 0 ∨ iv 1 10 p0)) (fun _ t => va_P (dC, dI) vwCl [] t.heap ∧ va_D A []) A) args0 s 0 0 A) (F0 m 15 ls []) := by
    intro H locs ls h15_1 hP hD hS hl
    refine lv_iconst (v := 0) hx hb dX10_isHops_15 ic_0 ?_
    have hP9 := hP
    have hD9 := hD
    exact W.zret (v := 0) (ty := .boolean) hx hb hr rfl (fun t ht hW => ⟨⟨0, (), rfl, ⟨(iv_w ivk_0 (by decide) (by decide)), Or.inl rfl⟩, by rw [ht]; exact hP9, hD9⟩, hS.F ht⟩) hS.2.2 dX10_isHops_16
  refine lv_iload_n hx hb dX10_isHops_0 rfl (lv_at hl 0 rfl) ?_
  refine lv_iconst (v := 1) hx hb dX10_isHops_1 ic_1 ?_
  refine lv_icmp_lt (tgt := 15) hx hb dX10_isHops_2 rfl (fun c1 => ?_) (fun c1 => ?_)
  · have b2 : iv (-2147483648) 0 p0 := iv_ltL c1 (iv_t p0) ivk_1 (by decide) (by decide)
    exact hJ15 _ _ _ ((iv_w b2 (by decide) (by decide))) (hP) (hD) hS (lv_sub hl [0] rfl)
  · have b3 : iv 1 2147483647 p0 := iv_leR (Int32.not_lt.mp c1) ivk_1 (iv_t p0) (by decide) (by decide)
    refine lv_iload_n hx hb dX10_isHops_5 rfl (lv_at hl 0 rfl) ?_
    refine lv_bipush (v := 10) hx hb dX10_isHops_6 bp_10 ?_
    refine lv_icmp_gt (tgt := 15) hx hb dX10_isHops_8 rfl (fun c4 => ?_) (fun c4 => ?_)
    · have b5 : iv 11 2147483647 p0 := iv_ltR c4 ivk_10 b3 (by decide) (by decide)
      exact hJ15 _ _ _ ((iv_w b5 (by decide) (by decide))) (hP) (hD) hS (lv_sub hl [0] rfl)
    · have b6 : iv 1 10 p0 := iv_leL (Int32.not_lt.mp c4) b3 ivk_10 (by decide) (by decide)
      refine lv_iconst (v := 1) hx hb dX10_isHops_11 ic_1 ?_
      refine lv_goto (tgt := 16) hx hb dX10_isHops_12 rfl ?_
      have hP9 := hP
      have hD9 := hD
      exact W.zret (v := 1) (ty := .boolean) hx hb hr rfl (fun t ht hW => ⟨⟨1, (), rfl, ⟨(iv_w ivk_1 (by decide) (by decide)), Or.inr (b6)⟩, by rw [ht]; exact hP9, hD9⟩, hS.F ht⟩) hS.2.2 dX10_isHops_16
def rm_s10_mustBePort : Room := { frames := 6, cells := 1, slots := 6, locals := 82 }
set_option maxHeartbeats 4000000 in
set_option maxRecDepth 100000 in
theorem s10_mustBePort (l : Launch) (hst : l.stackTraces = false) (dC : Nat → ClassId) (dI : Nat → Nat → Nat) (kB kI kJ kZ kC kS : ClassId) (sz : Nat) (p0 : Int32) : vx_Met l yX10_mustBePort wsX10_mustBePort rm_s10_mustBePort (va_Pc [.int p0] (fun U => U.heap.size = sz ∧ va_P (dC, dI) vwCl [] U.heap ∧ kE dC dI kB kI kJ kZ kC kS U ∧ va_D (fun _ => True) [] ∧ kX U ∧ kT (va_A [] sz) U)) (va_Qv (fun (_ : Unit) => True) (fun _ t => iv 0 31 p0 ∧ va_P (dC, dI) vwCl [] t.heap ∧ va_D (va_A [] sz) []) (va_A [] sz)) (vx_X (fun (_ : Unit) => True) (fun (E : String) (_ : Unit) (t : State) => (E = "java/util/NoSuchElementException") ∧ va_P (dC, dI) vwCl [] t.heap ∧ va_D (va_A [] sz) []) (va_A [] sz)) 1 6 (va_A [] sz) := by
  refine vx_ofW (cc := cX10_mustBePort) (maxL := 1) (ret := none) (by decide) rfl ?_
  intro p e s m args0 below meth c s₁ B hml hexT hv
  obtain ⟨hargs, hsz, hP, hE, hD0, hXs, hT⟩ := hv
  have hx := B.exec
  have hb := B.bytes
  have hr := B.returns
  have hts := atoms_spec (ws := wsX10_mustBePort) B.pre
  have hown : s.vm.findClass RX10 = some m.cls := findClass_of_methodNamed B.named
  have hlocks := B.notSynchronized
  have hK := hE.1
  have hw_0 := hts (.classLink RX10 195 "java/util/NoSuchElementException") (List.mem_of_getElem? (i := 1) rfl)
  have hw_1 := hts (.initialized "java/util/NoSuchElementException") (List.mem_of_getElem? (i := 2) rfl)
  subst hsz
  have hD := hD0.self (sz := s.heap.size)
  generalize hAe : va_A [] s.heap.size = A at hD hT ⊢
  have hA : ∀ q : Nat, s.heap.size ≤ q → A q := fun q h => by rw [← hAe]; exact Or.inr h
  have hS : va_S A s.heap s.heap [] := va_S.rf
  have hP : va_P (dC, dI) vwCl [] s.heap := hP
  have hl := lv_entry ([.int p0]) (n := 1) (Nat.le_of_ble_eq_true rfl)
  have hla : entryFrame m args0 1 = entryFrame m ([.int p0] : List Value).toArray 1 := by rw [hargs]
  rw [hla, lg_entry_eq]
  generalize (lg_sl ([.int p0]) ++ List.replicate (1 - (lg_sl ([.int p0])).length) Slot.unset).toArray = ls at hl ⊢
  have hl : lv_has ls 1 [(0, .int p0)] := hl
  refine lv_iload_n hx hb dX10_mustBePort_0 rfl (lv_at hl 0 rfl) ?_
  obtain ⟨hPc, hDc, hFc, hJn⟩ := cl_a (wc := []) (wr := []) hP hD hS hA [] [] rfl rfl (by decide +kernel)
  refine va_calli (va_runS (As := [.int p0]) (rest := []) ⟨hx, hb, hml, hown, hts⟩ (s10_isPort l dC dI kB kI kJ kZ kC kS s.heap.size p0) (va_cwS 1 hts gX10_mustBePort_X10_isPort rfl rfl rfl (by decide +kernel) ⟨Nat.le_of_ble_eq_true rfl, Nat.le_of_ble_eq_true rfl⟩) ⟨fun a U g mk q => by obtain ⟨q0, q1, qP, qE, qD⟩ := q; exact ⟨q0, q1, qP, kE_call qE, qD⟩, fun U hU hW => ⟨rfl, by rw [hU], by rw [hU]; exact hPc, kE_warm hW hE, hDc.weaken (fun _ _ _ _ => trivial)⟩⟩ rfl rfl hl.1 rfl (lv_room (Nat.le_of_ble_eq_true rfl)) dX10_mustBePort_1 ⟨Nat.le_of_ble_eq_true rfl, Nat.le_of_ble_eq_true rfl⟩) hS (fun q _ h => hFc q h) hFc (fun r1 u t H locs ht hvm w2 hB hz1 hk1 hS => ?_)
  obtain ⟨hP1, hD1⟩ := hB
  try dsimp only at w2
  obtain ⟨hPa, hDa⟩ := hJn (w1 := []) hk1 ht hP1 hD1
  clear hP hD hPc hDc hFc hJn hP1 hD1 hk1
  have hP : va_P (dC, dI) vwCl [] H := hPa
  have hD : va_D A [] := hDa
  clear hPa hDa
  refine W.widen (k := 0) (n := 0) (Nat.le_of_ble_eq_true rfl) (Nat.le_of_ble_eq_true rfl) ?_
  refine lv_if_ne (tgt := 18) hx hb dX10_mustBePort_4 rfl (fun c3 => ?_) (fun c3 => ?_)
  · have b4 : iv 1 1 r1 := iv_neLo c3 w2.1 ivk_0 (by decide) (by decide)
    have b5 : iv 0 31 p0 := (w2.2).resolve_left (iv_ne b4 ivk_0 (by decide))
    have hP9 := hP
    have hD9 := hD
    refine W.widen (k := 1) (n := 6) (Nat.le_of_ble_eq_true rfl) (Nat.le_of_ble_eq_true rfl) ?_
    refine vx_ret ?_
    exact W.vret hx hb hr (fun t ht hW => ⟨⟨(), rfl, trivial, b5, by rw [ht]; exact hP9, hD9⟩, hS.F ht⟩) hS.2.2 dX10_mustBePort_18
  · have b6 : iv 0 0 r1 := iv_eqL c3 ivk_0
    have hP9 := hP
    have hD9 := hD
    obtain ⟨sa7, hstr⟩ := hXs.2.2.2.2.2.2.2.2.2.2.2.2.2.2.1
    exact vx_throwSXW (names := ["java/lang/RuntimeException", "java/lang/Exception"]) hx hb hst (ix := 13) (rx := kNse) (by decide +kernel) (by decide +kernel) (by decide +kernel) (by decide +kernel) hown (by decide +kernel) (by decide +kernel) hw_0 hw_1 hstr (vx_hat (L := vx_atSX RX10 199 "java/util/NoSuchElementException" 13 kNse ["java/lang/RuntimeException", "java/lang/Exception"]) (B := [.castable "java/util/NoSuchElementException" "java/util/NoSuchElementException", .declares ⟨"java/lang/RuntimeException", "<init>", "(Ljava/lang/String;)V"⟩, .declares ⟨"java/lang/Exception", "<init>", "(Ljava/lang/String;)V"⟩, .declares ⟨"java/lang/Throwable", "<init>", "(Ljava/lang/String;)V"⟩]) (fun w hw => hts w ((by decide +kernel : ∀ w ∈ (vx_atSX RX10 199 "java/util/NoSuchElementException" 13 kNse ["java/lang/RuntimeException", "java/lang/Exception"]).filter goodWord, w ∈ wsX10_mustBePort) w hw)) (by decide +kernel) (vx_c (va_Nw.use rfl hXs.1) (vx_c (va_Nw.use rfl hXs.2.2.1) (vx_c (va_Nw.use rfl hXs.2.2.2.1) (vx_c (va_Nw.use rfl hXs.2.2.2.2.1) (vx_n)))))) (by decide +kernel) hT.1 hT.2 hS (by rw [hml]; exact hl.1) dX10_mustBePort_7 dX10_mustBePort_10 dX10_mustBePort_11 dX10_mustBePort_14 dX10_mustBePort_17 (fun x h9 => (hexT x h9).elim) (Nat.le_of_ble_eq_true rfl) (Nat.le_of_ble_eq_true rfl) (Nat.le_of_ble_eq_true rfl) (Nat.le_of_ble_eq_true rfl) hlocks (fun t9 _ h8 h9 => ⟨(), trivial, ⟨rfl, hP9.kept (fun k q hk => h9 q.1 (hP9 k q hk).lt), hD9⟩, Nat.le_trans hS.1 h8, fun q h1 h2 => (h9 q (Nat.lt_of_lt_of_le h1 hS.1)).trans (hS.2.1 q h1 h2)⟩) hS.2.2 (Nat.le_of_ble_eq_true rfl) (Nat.le_of_ble_eq_true rfl)
def rm_s10_mustBeHops : Room := { frames := 6, cells := 1, slots := 6, locals := 82 }
set_option maxHeartbeats 4000000 in
set_option maxRecDepth 100000 in
theorem s10_mustBeHops (l : Launch) (hst : l.stackTraces = false) (dC : Nat → ClassId) (dI : Nat → Nat → Nat) (kB kI kJ kZ kC kS : ClassId) (sz : Nat) (p0 : Int32) : vx_Met l yX10_mustBeHops wsX10_mustBeHops rm_s10_mustBeHops (va_Pc [.int p0] (fun U => U.heap.size = sz ∧ va_P (dC, dI) vwCl [] U.heap ∧ kE dC dI kB kI kJ kZ kC kS U ∧ va_D (fun _ => True) [] ∧ kX U ∧ kT (va_A [] sz) U)) (va_Qv (fun (_ : Unit) => True) (fun _ t => iv 1 10 p0 ∧ va_P (dC, dI) vwCl [] t.heap ∧ va_D (va_A [] sz) []) (va_A [] sz)) (vx_X (fun (_ : Unit) => True) (fun (E : String) (_ : Unit) (t : State) => (E = "java/util/NoSuchElementException") ∧ va_P (dC, dI) vwCl [] t.heap ∧ va_D (va_A [] sz) []) (va_A [] sz)) 1 6 (va_A [] sz) := by
  refine vx_ofW (cc := cX10_mustBeHops) (maxL := 1) (ret := none) (by decide) rfl ?_
  intro p e s m args0 below meth c s₁ B hml hexT hv
  obtain ⟨hargs, hsz, hP, hE, hD0, hXs, hT⟩ := hv
  have hx := B.exec
  have hb := B.bytes
  have hr := B.returns
  have hts := atoms_spec (ws := wsX10_mustBeHops) B.pre
  have hown : s.vm.findClass RX10 = some m.cls := findClass_of_methodNamed B.named
  have hlocks := B.notSynchronized
  have hK := hE.1
  have hw_0 := hts (.classLink RX10 195 "java/util/NoSuchElementException") (List.mem_of_getElem? (i := 1) rfl)
  have hw_1 := hts (.initialized "java/util/NoSuchElementException") (List.mem_of_getElem? (i := 2) rfl)
  subst hsz
  have hD := hD0.self (sz := s.heap.size)
  generalize hAe : va_A [] s.heap.size = A at hD hT ⊢
  have hA : ∀ q : Nat, s.heap.size ≤ q → A q := fun q h => by rw [← hAe]; exact Or.inr h
  have hS : va_S A s.heap s.heap [] := va_S.rf
  have hP : va_P (dC, dI) vwCl [] s.heap := hP
  have hl := lv_entry ([.int p0]) (n := 1) (Nat.le_of_ble_eq_true rfl)
  have hla : entryFrame m args0 1 = entryFrame m ([.int p0] : List Value).toArray 1 := by rw [hargs]
  rw [hla, lg_entry_eq]
  generalize (lg_sl ([.int p0]) ++ List.replicate (1 - (lg_sl ([.int p0])).length) Slot.unset).toArray = ls at hl ⊢
  have hl : lv_has ls 1 [(0, .int p0)] := hl
  refine lv_iload_n hx hb dX10_mustBeHops_0 rfl (lv_at hl 0 rfl) ?_
  obtain ⟨hPc, hDc, hFc, hJn⟩ := cl_a (wc := []) (wr := []) hP hD hS hA [] [] rfl rfl (by decide +kernel)
  refine va_calli (va_runS (As := [.int p0]) (rest := []) ⟨hx, hb, hml, hown, hts⟩ (s10_isHops l dC dI kB kI kJ kZ kC kS s.heap.size p0) (va_cwS 1 hts gX10_mustBeHops_X10_isHops rfl rfl rfl (by decide +kernel) ⟨Nat.le_of_ble_eq_true rfl, Nat.le_of_ble_eq_true rfl⟩) ⟨fun a U g mk q => by obtain ⟨q0, q1, qP, qE, qD⟩ := q; exact ⟨q0, q1, qP, kE_call qE, qD⟩, fun U hU hW => ⟨rfl, by rw [hU], by rw [hU]; exact hPc, kE_warm hW hE, hDc.weaken (fun _ _ _ _ => trivial)⟩⟩ rfl rfl hl.1 rfl (lv_room (Nat.le_of_ble_eq_true rfl)) dX10_mustBeHops_1 ⟨Nat.le_of_ble_eq_true rfl, Nat.le_of_ble_eq_true rfl⟩) hS (fun q _ h => hFc q h) hFc (fun r1 u t H locs ht hvm w2 hB hz1 hk1 hS => ?_)
  obtain ⟨hP1, hD1⟩ := hB
  try dsimp only at w2
  obtain ⟨hPa, hDa⟩ := hJn (w1 := []) hk1 ht hP1 hD1
  clear hP hD hPc hDc hFc hJn hP1 hD1 hk1
  have hP : va_P (dC, dI) vwCl [] H := hPa
  have hD : va_D A [] := hDa
  clear hPa hDa
  refine W.widen (k := 0) (n := 0) (Nat.le_of_ble_eq_true rfl) (Nat.le_of_ble_eq_true rfl) ?_
  refine lv_if_ne (tgt := 18) hx hb dX10_mustBeHops_4 rfl (fun c3 => ?_) (fun c3 => ?_)
  · have b4 : iv 1 1 r1 := iv_neLo c3 w2.1 ivk_0 (by decide) (by decide)
    have b5 : iv 1 10 p0 := (w2.2).resolve_left (iv_ne b4 ivk_0 (by decide))
    have hP9 := hP
    have hD9 := hD
    refine W.widen (k := 1) (n := 6) (Nat.le_of_ble_eq_true rfl) (Nat.le_of_ble_eq_true rfl) ?_
    refine vx_ret ?_
    exact W.vret hx hb hr (fun t ht hW => ⟨⟨(), rfl, trivial, b5, by rw [ht]; exact hP9, hD9⟩, hS.F ht⟩) hS.2.2 dX10_mustBeHops_18
  · have b6 : iv 0 0 r1 := iv_eqL c3 ivk_0
    have hP9 := hP
    have hD9 := hD
    obtain ⟨sa7, hstr⟩ := hXs.2.2.2.2.2.2.2.2.2.2.2.2.2.2.2.1
    exact vx_throwSXW (names := ["java/lang/RuntimeException", "java/lang/Exception"]) hx hb hst (ix := 13) (rx := kNse) (by decide +kernel) (by decide +kernel) (by decide +kernel) (by decide +kernel) hown (by decide +kernel) (by decide +kernel) hw_0 hw_1 hstr (vx_hat (L := vx_atSX RX10 199 "java/util/NoSuchElementException" 13 kNse ["java/lang/RuntimeException", "java/lang/Exception"]) (B := [.castable "java/util/NoSuchElementException" "java/util/NoSuchElementException", .declares ⟨"java/lang/RuntimeException", "<init>", "(Ljava/lang/String;)V"⟩, .declares ⟨"java/lang/Exception", "<init>", "(Ljava/lang/String;)V"⟩, .declares ⟨"java/lang/Throwable", "<init>", "(Ljava/lang/String;)V"⟩]) (fun w hw => hts w ((by decide +kernel : ∀ w ∈ (vx_atSX RX10 199 "java/util/NoSuchElementException" 13 kNse ["java/lang/RuntimeException", "java/lang/Exception"]).filter goodWord, w ∈ wsX10_mustBeHops) w hw)) (by decide +kernel) (vx_c (va_Nw.use rfl hXs.1) (vx_c (va_Nw.use rfl hXs.2.2.1) (vx_c (va_Nw.use rfl hXs.2.2.2.1) (vx_c (va_Nw.use rfl hXs.2.2.2.2.1) (vx_n)))))) (by decide +kernel) hT.1 hT.2 hS (by rw [hml]; exact hl.1) dX10_mustBeHops_7 dX10_mustBeHops_10 dX10_mustBeHops_11 dX10_mustBeHops_14 dX10_mustBeHops_17 (fun x h9 => (hexT x h9).elim) (Nat.le_of_ble_eq_true rfl) (Nat.le_of_ble_eq_true rfl) (Nat.le_of_ble_eq_true rfl) (Nat.le_of_ble_eq_true rfl) hlocks (fun t9 _ h8 h9 => ⟨(), trivial, ⟨rfl, hP9.kept (fun k q hk => h9 q.1 (hP9 k q hk).lt), hD9⟩, Nat.le_trans hS.1 h8, fun q h1 h2 => (h9 q (Nat.lt_of_lt_of_le h1 hS.1)).trans (hS.2.1 q h1 h2)⟩) hS.2.2 (Nat.le_of_ble_eq_true rfl) (Nat.le_of_ble_eq_true rfl)
def rm_s10_mustBeWhat1 : Room := { frames := 6, cells := 1, slots := 6, locals := 82 }
set_option maxHeartbeats 4000000 in
set_option maxRecDepth 100000 in
theorem s10_mustBeWhat1 (l : Launch) (hst : l.stackTraces = false) (dC : Nat → ClassId) (dI : Nat → Nat → Nat) (kB kI kJ kZ kC kS : ClassId) (sz : Nat) (p0 : Int32) : vx_Met l yX10_mustBeWhat wsX10_mustBeWhat rm_s10_mustBeWhat1 (va_Pc [.int p0, .int 1] (fun U => U.heap.size = sz ∧ va_P (dC, dI) vwCl [] U.heap ∧ kE dC dI kB kI kJ kZ kC kS U ∧ va_D (fun _ => True) [] ∧ kX U ∧ kT (va_A [] sz) U)) (va_Qv (fun (_ : Unit) => True) (fun _ t => iv 0 1 p0 ∧ va_P (dC, dI) vwCl [] t.heap ∧ va_D (va_A [] sz) []) (va_A [] sz)) (vx_X (fun (_ : Unit) => True) (fun (E : String) (_ : Unit) (t : State) => (E = "java/util/NoSuchElementException") ∧ va_P (dC, dI) vwCl [] t.heap ∧ va_D (va_A [] sz) []) (va_A [] sz)) 1 6 (va_A [] sz) := by
  refine vx_ofW (cc := cX10_mustBeWhat) (maxL := 2) (ret := none) (by decide) rfl ?_
  intro p e s m args0 below meth c s₁ B hml hexT hv
  obtain ⟨hargs, hsz, hP, hE, hD0, hXs, hT⟩ := hv
  have hx := B.exec
  have hb := B.bytes
  have hr := B.returns
  have hts := atoms_spec (ws := wsX10_mustBeWhat) B.pre
  have hown : s.vm.findClass RX10 = some m.cls := findClass_of_methodNamed B.named
  have hlocks := B.notSynchronized
  have hK := hE.1
  have hw_0 := hts (.classLink RX10 195 "java/util/NoSuchElementException") (List.mem_of_getElem? (i := 1) rfl)
  have hw_1 := hts (.initialized "java/util/NoSuchElementException") (List.mem_of_getElem? (i := 2) rfl)
  subst hsz
  have hD := hD0.self (sz := s.heap.size)
  generalize hAe : va_A [] s.heap.size = A at hD hT ⊢
  have hA : ∀ q : Nat, s.heap.size ≤ q → A q := fun q h => by rw [← hAe]; exact Or.inr h
  have hS : va_S A s.heap s.heap [] := va_S.rf
  have hP : va_P (dC, dI) vwCl [] s.heap := hP
  have hl := lv_entry ([.int p0, .int 1]) (n := 2) (Nat.le_of_ble_eq_true rfl)
  have hla : entryFrame m args0 2 = entryFrame m ([.int p0, .int 1] : List Value).toArray 2 := by rw [hargs]
  rw [hla, lg_entry_eq]
  generalize (lg_sl ([.int p0, .int 1]) ++ List.replicate (2 - (lg_sl ([.int p0, .int 1])).length) Slot.unset).toArray = ls at hl ⊢
  have hl : lv_has ls 2 [(0, .int p0), (1, .int 1)] := hl
  have hJ9 : ∀ (H : Heap) (locs : List Loc) (ls : Array Slot), iv (-2147483648) 2147483647 p0 → va_P (dC, dI) vwCl [] H → va_D A [] → va_S A s.heap H locs → lv_has ls 2 [(0, .int p0), (1, .int 1)] → W p l e (headSpec wsX10_mustBeWhat rm_s10_mustBeWhat1).room s m args0 below meth c H locs (0) (0) (vx_MQ below (va_Qv (fun (_ : Unit) => True) (fun _ t => iv 0 1 p0 ∧ va_P (dC, dI) vwCl [] t.heap ∧ va_D A []) A) (vx_X (fun (_ : Unit) => True) (fun (E : String) (_ : Unit) (t : State) => (E = "java/util/NoSuchElementException") ∧ va_P (dC, dI) vwCl [] t.heap ∧ va_D A []) A) args0 s 1 6 A) (F0 m 9 ls []) := by
    intro H locs ls h9_1 hP hD hS hl
    have hP9 := hP
    have hD9 := hD
    obtain ⟨sa1, hstr⟩ := hXs.2.2.2.2.2.2.2.2.2.2.2.2.2.2.2.2.1
    exact vx_throwSXW (names := ["java/lang/RuntimeException", "java/lang/Exception"]) hx hb hst (ix := 13) (rx := kNse) (by decide +kernel) (by decide +kernel) (by decide +kernel) (by decide +kernel) hown (by decide +kernel) (by decide +kernel) hw_0 hw_1 hstr (vx_hat (L := vx_atSX RX10 199 "java/util/NoSuchElementException" 13 kNse ["java/lang/RuntimeException", "java/lang/Exception"]) (B := [.castable "java/util/NoSuchElementException" "java/util/NoSuchElementException", .declares ⟨"java/lang/RuntimeException", "<init>", "(Ljava/lang/String;)V"⟩, .declares ⟨"java/lang/Exception", "<init>", "(Ljava/lang/String;)V"⟩, .declares ⟨"java/lang/Throwable", "<init>", "(Ljava/lang/String;)V"⟩]) (fun w hw => hts w ((by decide +kernel : ∀ w ∈ (vx_atSX RX10 199 "java/util/NoSuchElementException" 13 kNse ["java/lang/RuntimeException", "java/lang/Exception"]).filter goodWord, w ∈ wsX10_mustBeWhat) w hw)) (by decide +kernel) (vx_c (va_Nw.use rfl hXs.1) (vx_c (va_Nw.use rfl hXs.2.2.1) (vx_c (va_Nw.use rfl hXs.2.2.2.1) (vx_c (va_Nw.use rfl hXs.2.2.2.2.1) (vx_n)))))) (by decide +kernel) hT.1 hT.2 hS (by rw [hml]; exact hl.1) dX10_mustBeWhat_9 dX10_mustBeWhat_12 dX10_mustBeWhat_13 dX10_mustBeWhat_16 dX10_mustBeWhat_19 (fun x h9 => (hexT x h9).elim) (Nat.le_of_ble_eq_true rfl) (Nat.le_of_ble_eq_true rfl) (Nat.le_of_ble_eq_true rfl) (Nat.le_of_ble_eq_true rfl) hlocks (fun t9 _ h8 h9 => ⟨(), trivial, ⟨rfl, hP9.kept (fun k q hk => h9 q.1 (hP9 k q hk).lt), hD9⟩, Nat.le_trans hS.1 h8, fun q h1 h2 => (h9 q (Nat.lt_of_lt_of_le h1 hS.1)).trans (hS.2.1 q h1 h2)⟩) hS.2.2 (Nat.le_of_ble_eq_true rfl) (Nat.le_of_ble_eq_true rfl)
  refine lv_iload_n hx hb dX10_mustBeWhat_0 rfl (lv_at hl 0 rfl) ?_
  refine lv_if_lt (tgt := 9) hx hb dX10_mustBeWhat_1 rfl (fun c2 => ?_) (fun c2 => ?_)
  · have b3 : iv (-2147483648) (-1) p0 := iv_ltL c2 (iv_t p0) ivk_0 (by decide) (by decide)
    exact hJ9 _ _ _ ((iv_w b3 (by decide) (by decide))) (hP) (hD) hS (lv_sub hl [0, 1] rfl)
  · have b4 : iv 0 2147483647 p0 := iv_leR (Int32.not_lt.mp c2) ivk_0 (iv_t p0) (by decide) (by decide)
    refine lv_iload_n hx hb dX10_mustBeWhat_4 rfl (lv_at hl 0 rfl) ?_
    refine lv_iload_n hx hb dX10_mustBeWhat_5 rfl (lv_at hl 1 rfl) ?_
    refine lv_icmp_le (tgt := 20) hx hb dX10_mustBeWhat_6 rfl (fun c5 => ?_) (fun c5 => ?_)
    · have b6 : iv 0 1 p0 := iv_leL c5 b4 ivk_1 (by decide) (by decide)
      have hP9 := hP
      have hD9 := hD
      refine W.widen (k := 1) (n := 6) (Nat.le_of_ble_eq_true rfl) (Nat.le_of_ble_eq_true rfl) ?_
      refine vx_ret ?_
      exact W.vret hx hb hr (fun t ht hW => ⟨⟨(), rfl, trivial, b6, by rw [ht]; exact hP9, hD9⟩, hS.F ht⟩) hS.2.2 dX10_mustBeWhat_20
    · have b7 : iv 2 2147483647 p0 := iv_ltR (Int32.not_le.mp c5) ivk_1 b4 (by decide) (by decide)
      exact hJ9 _ _ _ ((iv_w b7 (by decide) (by decide))) (hP) (hD) hS (lv_sub hl [0, 1] rfl)
def rm_s10_mustBeWhat2 : Room := { frames := 6, cells := 1, slots := 6, locals := 82 }
set_option maxHeartbeats 4000000 in
set_option maxRecDepth 100000 in
theorem s10_mustBeWhat2 (l : Launch) (hst : l.stackTraces = false) (dC : Nat → ClassId) (dI : Nat → Nat → Nat) (kB kI kJ kZ kC kS : ClassId) (sz : Nat) (p0 : Int32) : vx_Met l yX10_mustBeWhat wsX10_mustBeWhat rm_s10_mustBeWhat2 (va_Pc [.int p0, .int 2] (fun U => U.heap.size = sz ∧ va_P (dC, dI) vwCl [] U.heap ∧ kE dC dI kB kI kJ kZ kC kS U ∧ va_D (fun _ => True) [] ∧ kX U ∧ kT (va_A [] sz) U)) (va_Qv (fun (_ : Unit) => True) (fun _ t => iv 0 2 p0 ∧ va_P (dC, dI) vwCl [] t.heap ∧ va_D (va_A [] sz) []) (va_A [] sz)) (vx_X (fun (_ : Unit) => True) (fun (E : String) (_ : Unit) (t : State) => (E = "java/util/NoSuchElementException") ∧ va_P (dC, dI) vwCl [] t.heap ∧ va_D (va_A [] sz) []) (va_A [] sz)) 1 6 (va_A [] sz) := by
  refine vx_ofW (cc := cX10_mustBeWhat) (maxL := 2) (ret := none) (by decide) rfl ?_
  intro p e s m args0 below meth c s₁ B hml hexT hv
  obtain ⟨hargs, hsz, hP, hE, hD0, hXs, hT⟩ := hv
  have hx := B.exec
  have hb := B.bytes
  have hr := B.returns
  have hts := atoms_spec (ws := wsX10_mustBeWhat) B.pre
  have hown : s.vm.findClass RX10 = some m.cls := findClass_of_methodNamed B.named
  have hlocks := B.notSynchronized
  have hK := hE.1
  have hw_0 := hts (.classLink RX10 195 "java/util/NoSuchElementException") (List.mem_of_getElem? (i := 1) rfl)
  have hw_1 := hts (.initialized "java/util/NoSuchElementException") (List.mem_of_getElem? (i := 2) rfl)
  subst hsz
  have hD := hD0.self (sz := s.heap.size)
  generalize hAe : va_A [] s.heap.size = A at hD hT ⊢
  have hA : ∀ q : Nat, s.heap.size ≤ q → A q := fun q h => by rw [← hAe]; exact Or.inr h
  have hS : va_S A s.heap s.heap [] := va_S.rf
  have hP : va_P (dC, dI) vwCl [] s.heap := hP
  have hl := lv_entry ([.int p0, .int 2]) (n := 2) (Nat.le_of_ble_eq_true rfl)
  have hla : entryFrame m args0 2 = entryFrame m ([.int p0, .int 2] : List Value).toArray 2 := by rw [hargs]
  rw [hla, lg_entry_eq]
  generalize (lg_sl ([.int p0, .int 2]) ++ List.replicate (2 - (lg_sl ([.int p0, .int 2])).length) Slot.unset).toArray = ls at hl ⊢
  have hl : lv_has ls 2 [(0, .int p0), (1, .int 2)] := hl
  have hJ9 : ∀ (H : Heap) (locs : List Loc) (ls : Array Slot), iv (-2147483648) 2147483647 p0 → va_P (dC, dI) vwCl [] H → va_D A [] → va_S A s.heap H locs → lv_has ls 2 [(0, .int p0), (1, .int 2)] → W p l e (headSpec wsX10_mustBeWhat rm_s10_mustBeWhat2).room s m args0 below meth c H locs (0) (0) (vx_MQ below (va_Qv (fun (_ : Unit) => True) (fun _ t => iv 0 2 p0 ∧ va_P (dC, dI) vwCl [] t.heap ∧ va_D A []) A) (vx_X (fun (_ : Unit) => True) (fun (E : String) (_ : Unit) (t : State) => (E = "java/util/NoSuchElementException") ∧ va_P (dC, dI) vwCl [] t.heap ∧ va_D A []) A) args0 s 1 6 A) (F0 m 9 ls []) := by
    intro H locs ls h9_1 hP hD hS hl
    have hP9 := hP
    have hD9 := hD
    obtain ⟨sa1, hstr⟩ := hXs.2.2.2.2.2.2.2.2.2.2.2.2.2.2.2.2.1
    exact vx_throwSXW (names := ["java/lang/RuntimeException", "java/lang/Exception"]) hx hb hst (ix := 13) (rx := kNse) (by decide +kernel) (by decide +kernel) (by decide +kernel) (by decide +kernel) hown (by decide +kernel) (by decide +kernel) hw_0 hw_1 hstr (vx_hat (L := vx_atSX RX10 199 "java/util/NoSuchElementException" 13 kNse ["java/lang/RuntimeException", "java/lang/Exception"]) (B := [.castable "java/util/NoSuchElementException" "java/util/NoSuchElementException", .declares ⟨"java/lang/RuntimeException", "<init>", "(Ljava/lang/String;)V"⟩, .declares ⟨"java/lang/Exception", "<init>", "(Ljava/lang/String;)V"⟩, .declares ⟨"java/lang/Throwable", "<init>", "(Ljava/lang/String;)V"⟩]) (fun w hw => hts w ((by decide +kernel : ∀ w ∈ (vx_atSX RX10 199 "java/util/NoSuchElementException" 13 kNse ["java/lang/RuntimeException", "java/lang/Exception"]).filter goodWord, w ∈ wsX10_mustBeWhat) w hw)) (by decide +kernel) (vx_c (va_Nw.use rfl hXs.1) (vx_c (va_Nw.use rfl hXs.2.2.1) (vx_c (va_Nw.use rfl hXs.2.2.2.1) (vx_c (va_Nw.use rfl hXs.2.2.2.2.1) (vx_n)))))) (by decide +kernel) hT.1 hT.2 hS (by rw [hml]; exact hl.1) dX10_mustBeWhat_9 dX10_mustBeWhat_12 dX10_mustBeWhat_13 dX10_mustBeWhat_16 dX10_mustBeWhat_19 (fun x h9 => (hexT x h9).elim) (Nat.le_of_ble_eq_true rfl) (Nat.le_of_ble_eq_true rfl) (Nat.le_of_ble_eq_true rfl) (Nat.le_of_ble_eq_true rfl) hlocks (fun t9 _ h8 h9 => ⟨(), trivial, ⟨rfl, hP9.kept (fun k q hk => h9 q.1 (hP9 k q hk).lt), hD9⟩, Nat.le_trans hS.1 h8, fun q h1 h2 => (h9 q (Nat.lt_of_lt_of_le h1 hS.1)).trans (hS.2.1 q h1 h2)⟩) hS.2.2 (Nat.le_of_ble_eq_true rfl) (Nat.le_of_ble_eq_true rfl)
  refine lv_iload_n hx hb dX10_mustBeWhat_0 rfl (lv_at hl 0 rfl) ?_
  refine lv_if_lt (tgt := 9) hx hb dX10_mustBeWhat_1 rfl (fun c2 => ?_) (fun c2 => ?_)
  · have b3 : iv (-2147483648) (-1) p0 := iv_ltL c2 (iv_t p0) ivk_0 (by decide) (by decide)
    exact hJ9 _ _ _ ((iv_w b3 (by decide) (by decide))) (hP) (hD) hS (lv_sub hl [0, 1] rfl)
  · have b4 : iv 0 2147483647 p0 := iv_leR (Int32.not_lt.mp c2) ivk_0 (iv_t p0) (by decide) (by decide)
    refine lv_iload_n hx hb dX10_mustBeWhat_4 rfl (lv_at hl 0 rfl) ?_
    refine lv_iload_n hx hb dX10_mustBeWhat_5 rfl (lv_at hl 1 rfl) ?_
    refine lv_icmp_le (tgt := 20) hx hb dX10_mustBeWhat_6 rfl (fun c5 => ?_) (fun c5 => ?_)
    · have b6 : iv 0 2 p0 := iv_leL c5 b4 ivk_2 (by decide) (by decide)
      have hP9 := hP
      have hD9 := hD
      refine W.widen (k := 1) (n := 6) (Nat.le_of_ble_eq_true rfl) (Nat.le_of_ble_eq_true rfl) ?_
      refine vx_ret ?_
      exact W.vret hx hb hr (fun t ht hW => ⟨⟨(), rfl, trivial, b6, by rw [ht]; exact hP9, hD9⟩, hS.F ht⟩) hS.2.2 dX10_mustBeWhat_20
    · have b7 : iv 3 2147483647 p0 := iv_ltR (Int32.not_le.mp c5) ivk_2 b4 (by decide) (by decide)
      exact hJ9 _ _ _ ((iv_w b7 (by decide) (by decide))) (hP) (hD) hS (lv_sub hl [0, 1] rfl)
def rm_s10_mustBeWhat3 : Room := { frames := 6, cells := 1, slots := 6, locals := 82 }
set_option maxHeartbeats 4000000 in
set_option maxRecDepth 100000 in
theorem s10_mustBeWhat3 (l : Launch) (hst : l.stackTraces = false) (dC : Nat → ClassId) (dI : Nat → Nat → Nat) (kB kI kJ kZ kC kS : ClassId) (sz : Nat) (p0 : Int32) : vx_Met l yX10_mustBeWhat wsX10_mustBeWhat rm_s10_mustBeWhat3 (va_Pc [.int p0, .int 3] (fun U => U.heap.size = sz ∧ va_P (dC, dI) vwCl [] U.heap ∧ kE dC dI kB kI kJ kZ kC kS U ∧ va_D (fun _ => True) [] ∧ kX U ∧ kT (va_A [] sz) U)) (va_Qv (fun (_ : Unit) => True) (fun _ t => iv 0 3 p0 ∧ va_P (dC, dI) vwCl [] t.heap ∧ va_D (va_A [] sz) []) (va_A [] sz)) (vx_X (fun (_ : Unit) => True) (fun (E : String) (_ : Unit) (t : State) => (E = "java/util/NoSuchElementException") ∧ va_P (dC, dI) vwCl [] t.heap ∧ va_D (va_A [] sz) []) (va_A [] sz)) 1 6 (va_A [] sz) := by
  refine vx_ofW (cc := cX10_mustBeWhat) (maxL := 2) (ret := none) (by decide) rfl ?_
  intro p e s m args0 below meth c s₁ B hml hexT hv
  obtain ⟨hargs, hsz, hP, hE, hD0, hXs, hT⟩ := hv
  have hx := B.exec
  have hb := B.bytes
  have hr := B.returns
  have hts := atoms_spec (ws := wsX10_mustBeWhat) B.pre
  have hown : s.vm.findClass RX10 = some m.cls := findClass_of_methodNamed B.named
  have hlocks := B.notSynchronized
  have hK := hE.1
  have hw_0 := hts (.classLink RX10 195 "java/util/NoSuchElementException") (List.mem_of_getElem? (i := 1) rfl)
  have hw_1 := hts (.initialized "java/util/NoSuchElementException") (List.mem_of_getElem? (i := 2) rfl)
  subst hsz
  have hD := hD0.self (sz := s.heap.size)
  generalize hAe : va_A [] s.heap.size = A at hD hT ⊢
  have hA : ∀ q : Nat, s.heap.size ≤ q → A q := fun q h => by rw [← hAe]; exact Or.inr h
  have hS : va_S A s.heap s.heap [] := va_S.rf
  have hP : va_P (dC, dI) vwCl [] s.heap := hP
  have hl := lv_entry ([.int p0, .int 3]) (n := 2) (Nat.le_of_ble_eq_true rfl)
  have hla : entryFrame m args0 2 = entryFrame m ([.int p0, .int 3] : List Value).toArray 2 := by rw [hargs]
  rw [hla, lg_entry_eq]
  generalize (lg_sl ([.int p0, .int 3]) ++ List.replicate (2 - (lg_sl ([.int p0, .int 3])).length) Slot.unset).toArray = ls at hl ⊢
  have hl : lv_has ls 2 [(0, .int p0), (1, .int 3)] := hl
  have hJ9 : ∀ (H : Heap) (locs : List Loc) (ls : Array Slot), iv (-2147483648) 2147483647 p0 → va_P (dC, dI) vwCl [] H → va_D A [] → va_S A s.heap H locs → lv_has ls 2 [(0, .int p0), (1, .int 3)] → W p l e (headSpec wsX10_mustBeWhat rm_s10_mustBeWhat3).room s m args0 below meth c H locs (0) (0) (vx_MQ below (va_Qv (fun (_ : Unit) => True) (fun _ t => iv 0 3 p0 ∧ va_P (dC, dI) vwCl [] t.heap ∧ va_D A []) A) (vx_X (fun (_ : Unit) => True) (fun (E : String) (_ : Unit) (t : State) => (E = "java/util/NoSuchElementException") ∧ va_P (dC, dI) vwCl [] t.heap ∧ va_D A []) A) args0 s 1 6 A) (F0 m 9 ls []) := by
    intro H locs ls h9_1 hP hD hS hl
    have hP9 := hP
    have hD9 := hD
    obtain ⟨sa1, hstr⟩ := hXs.2.2.2.2.2.2.2.2.2.2.2.2.2.2.2.2.1
    exact vx_throwSXW (names := ["java/lang/RuntimeException", "java/lang/Exception"]) hx hb hst (ix := 13) (rx := kNse) (by decide +kernel) (by decide +kernel) (by decide +kernel) (by decide +kernel) hown (by decide +kernel) (by decide +kernel) hw_0 hw_1 hstr (vx_hat (L := vx_atSX RX10 199 "java/util/NoSuchElementException" 13 kNse ["java/lang/RuntimeException", "java/lang/Exception"]) (B := [.castable "java/util/NoSuchElementException" "java/util/NoSuchElementException", .declares ⟨"java/lang/RuntimeException", "<init>", "(Ljava/lang/String;)V"⟩, .declares ⟨"java/lang/Exception", "<init>", "(Ljava/lang/String;)V"⟩, .declares ⟨"java/lang/Throwable", "<init>", "(Ljava/lang/String;)V"⟩]) (fun w hw => hts w ((by decide +kernel : ∀ w ∈ (vx_atSX RX10 199 "java/util/NoSuchElementException" 13 kNse ["java/lang/RuntimeException", "java/lang/Exception"]).filter goodWord, w ∈ wsX10_mustBeWhat) w hw)) (by decide +kernel) (vx_c (va_Nw.use rfl hXs.1) (vx_c (va_Nw.use rfl hXs.2.2.1) (vx_c (va_Nw.use rfl hXs.2.2.2.1) (vx_c (va_Nw.use rfl hXs.2.2.2.2.1) (vx_n)))))) (by decide +kernel) hT.1 hT.2 hS (by rw [hml]; exact hl.1) dX10_mustBeWhat_9 dX10_mustBeWhat_12 dX10_mustBeWhat_13 dX10_mustBeWhat_16 dX10_mustBeWhat_19 (fun x h9 => (hexT x h9).elim) (Nat.le_of_ble_eq_true rfl) (Nat.le_of_ble_eq_true rfl) (Nat.le_of_ble_eq_true rfl) (Nat.le_of_ble_eq_true rfl) hlocks (fun t9 _ h8 h9 => ⟨(), trivial, ⟨rfl, hP9.kept (fun k q hk => h9 q.1 (hP9 k q hk).lt), hD9⟩, Nat.le_trans hS.1 h8, fun q h1 h2 => (h9 q (Nat.lt_of_lt_of_le h1 hS.1)).trans (hS.2.1 q h1 h2)⟩) hS.2.2 (Nat.le_of_ble_eq_true rfl) (Nat.le_of_ble_eq_true rfl)
  refine lv_iload_n hx hb dX10_mustBeWhat_0 rfl (lv_at hl 0 rfl) ?_
  refine lv_if_lt (tgt := 9) hx hb dX10_mustBeWhat_1 rfl (fun c2 => ?_) (fun c2 => ?_)
  · have b3 : iv (-2147483648) (-1) p0 := iv_ltL c2 (iv_t p0) ivk_0 (by decide) (by decide)
    exact hJ9 _ _ _ ((iv_w b3 (by decide) (by decide))) (hP) (hD) hS (lv_sub hl [0, 1] rfl)
  · have b4 : iv 0 2147483647 p0 := iv_leR (Int32.not_lt.mp c2) ivk_0 (iv_t p0) (by decide) (by decide)
    refine lv_iload_n hx hb dX10_mustBeWhat_4 rfl (lv_at hl 0 rfl) ?_
    refine lv_iload_n hx hb dX10_mustBeWhat_5 rfl (lv_at hl 1 rfl) ?_
    refine lv_icmp_le (tgt := 20) hx hb dX10_mustBeWhat_6 rfl (fun c5 => ?_) (fun c5 => ?_)
    · have b6 : iv 0 3 p0 := iv_leL c5 b4 ivk_3 (by decide) (by decide)
      have hP9 := hP
      have hD9 := hD
      refine W.widen (k := 1) (n := 6) (Nat.le_of_ble_eq_true rfl) (Nat.le_of_ble_eq_true rfl) ?_
      refine vx_ret ?_
      exact W.vret hx hb hr (fun t ht hW => ⟨⟨(), rfl, trivial, b6, by rw [ht]; exact hP9, hD9⟩, hS.F ht⟩) hS.2.2 dX10_mustBeWhat_20
    · have b7 : iv 4 2147483647 p0 := iv_ltR (Int32.not_le.mp c5) ivk_3 b4 (by decide) (by decide)
      exact hJ9 _ _ _ ((iv_w b7 (by decide) (by decide))) (hP) (hD) hS (lv_sub hl [0, 1] rfl)
def rm_s10_mustBeRouter : Room := { frames := 6, cells := 1, slots := 6, locals := 82 }
set_option maxHeartbeats 4000000 in
set_option maxRecDepth 100000 in
theorem s10_mustBeRouter (l : Launch) (hst : l.stackTraces = false) (dC : Nat → ClassId) (dI : Nat → Nat → Nat) (kB kI kJ kZ kC kS : ClassId) (sz : Nat) (op : Nat) (ot : Nat) (on : Nat) (dn : Nat) (rd : Nat) (oc : Nat) (d : Nat) (o : Nat) (si : Nat) (w : Nat) (se : Nat) (nb : Nat) (hi : Nat) (p_status : Nat) (oe : Nat) (ih : Nat) (mb : Nat) (p_imageStatus : Nat) (x_p : Nat → Int32) (n_kind : Nat) (n_salt : Nat) (n_pace : Nat) (n_manner : Nat) (n_from : Nat) (n_to : Nat) (n_goal : Nat) (n_reach : Nat) (n_branches : Nat) (n_branch : Nat) (n_tally : Nat) (x_n : Nat → Int32) (p0 : Int32) (hx_n : fI lX2 hX2 x_n) : vx_Met l yX10_mustBeRouter wsX10_mustBeRouter rm_s10_mustBeRouter (va_Pc [.ref op, .int p0] (fun U => U.heap.size = sz ∧ va_P (dC, dI) vwCl [(op, .inr (10, oX10 ot on dn rd oc d o si w se nb hi p_status oe ih mb p_imageStatus x_p)), (on, .inr (2, oX2 n_kind n_salt n_pace n_manner n_from n_to n_goal n_reach n_branches n_branch n_tally x_n))] U.heap ∧ kE dC dI kB kI kJ kZ kC kS U ∧ va_D (fun _ => True) [(op, .inr (10, oX10 ot on dn rd oc d o si w se nb hi p_status oe ih mb p_imageStatus x_p)), (on, .inr (2, oX2 n_kind n_salt n_pace n_manner n_from n_to n_goal n_reach n_branches n_branch n_tally x_n))] ∧ kX U ∧ kT (va_A [(op, .inr (10, oX10 ot on dn rd oc d o si w se nb hi p_status oe ih mb p_imageStatus x_p)), (on, .inr (2, oX2 n_kind n_salt n_pace n_manner n_from n_to n_goal n_reach n_branches n_branch n_tally x_n))] sz) U)) (va_Qv (fun (_ : Unit) => True) (fun _ t => iv 0 11 p0 ∧ va_P (dC, dI) vwCl [(op, .inr (10, oX10 ot on dn rd oc d o si w se nb hi p_status oe ih mb p_imageStatus x_p)), (on, .inr (2, oX2 n_kind n_salt n_pace n_manner n_from n_to n_goal n_reach n_branches n_branch n_tally x_n))] t.heap ∧ va_D (va_A [(op, .inr (10, oX10 ot on dn rd oc d o si w se nb hi p_status oe ih mb p_imageStatus x_p)), (on, .inr (2, oX2 n_kind n_salt n_pace n_manner n_from n_to n_goal n_reach n_branches n_branch n_tally x_n))] sz) [(op, .inr (10, oX10 ot on dn rd oc d o si w se nb hi p_status oe ih mb p_imageStatus x_p)), (on, .inr (2, oX2 n_kind n_salt n_pace n_manner n_from n_to n_goal n_reach n_branches n_branch n_tally x_n))]) (va_A [(op, .inr (10, oX10 ot on dn rd oc d o si w se nb hi p_status oe ih mb p_imageStatus x_p)), (on, .inr (2, oX2 n_kind n_salt n_pace n_manner n_from n_to n_goal n_reach n_branches n_branch n_tally x_n))] sz)) (vx_X (fun (_ : Unit) => True) (fun (E : String) (_ : Unit) (t : State) => (E = "java/util/NoSuchElementException") ∧ va_P (dC, dI) vwCl [(op, .inr (10, oX10 ot on dn rd oc d o si w se nb hi p_status oe ih mb p_imageStatus x_p)), (on, .inr (2, oX2 n_kind n_salt n_pace n_manner n_from n_to n_goal n_reach n_branches n_branch n_tally x_n))] t.heap ∧ va_D (va_A [(op, .inr (10, oX10 ot on dn rd oc d o si w se nb hi p_status oe ih mb p_imageStatus x_p)), (on, .inr (2, oX2 n_kind n_salt n_pace n_manner n_from n_to n_goal n_reach n_branches n_branch n_tally x_n))] sz) [(op, .inr (10, oX10 ot on dn rd oc d o si w se nb hi p_status oe ih mb p_imageStatus x_p)), (on, .inr (2, oX2 n_kind n_salt n_pace n_manner n_from n_to n_goal n_reach n_branches n_branch n_tally x_n))]) (va_A [(op, .inr (10, oX10 ot on dn rd oc d o si w se nb hi p_status oe ih mb p_imageStatus x_p)), (on, .inr (2, oX2 n_kind n_salt n_pace n_manner n_from n_to n_goal n_reach n_branches n_branch n_tally x_n))] sz)) 1 6 (va_A [(op, .inr (10, oX10 ot on dn rd oc d o si w se nb hi p_status oe ih mb p_imageStatus x_p)), (on, .inr (2, oX2 n_kind n_salt n_pace n_manner n_from n_to n_goal n_reach n_branches n_branch n_tally x_n))] sz) := by
  refine vx_ofW (cc := cX10_mustBeRouter) (maxL := 2) (ret := none) (by decide) rfl ?_
  intro p e s m args0 below meth c s₁ B hml hexT hv
  obtain ⟨hargs, hsz, hP, hE, hD0, hXs, hT⟩ := hv
  have hx := B.exec
  have hb := B.bytes
  have hr := B.returns
  have hts := atoms_spec (ws := wsX10_mustBeRouter) B.pre
  have hown : s.vm.findClass RX10 = some m.cls := findClass_of_methodNamed B.named
  have hlocks := B.notSynchronized
  have hK := hE.1
  have hin10 : ∀ w ∈ wsX100, w ∈ wsX10_mustBeRouter := fun _ h9 => List.mem_cons_of_mem _ (List.mem_append_left _ (List.mem_append_left _ (List.mem_append_right _ h9)))
  have hin2 : ∀ w ∈ wsX20, w ∈ wsX10_mustBeRouter := fun _ h9 => List.mem_cons_of_mem _ (List.mem_append_left _ (List.mem_append_right _ h9))
  have hw_0 := hts (.fieldLink RX10 19 "PathProber" "told" "LPathProber$Net;") (List.mem_of_getElem? (i := 3) rfl)
  have hw_1 := hts (.classLink RX10 195 "java/util/NoSuchElementException") (List.mem_of_getElem? (i := 1) rfl)
  have hw_2 := hts (.initialized "java/util/NoSuchElementException") (List.mem_of_getElem? (i := 2) rfl)
  subst hsz
  have hD := hD0.self (sz := s.heap.size)
  generalize hAe : va_A [(op, .inr (10, oX10 ot on dn rd oc d o si w se nb hi p_status oe ih mb p_imageStatus x_p)), (on, .inr (2, oX2 n_kind n_salt n_pace n_manner n_from n_to n_goal n_reach n_branches n_branch n_tally x_n))] s.heap.size = A at hD hT ⊢
  have hA : ∀ q : Nat, s.heap.size ≤ q → A q := fun q h => by rw [← hAe]; exact Or.inr h
  have hS : va_S A s.heap s.heap [] := va_S.rf
  have hP : va_P (dC, dI) vwCl [(op, .inr (10, oX10 ot on dn rd oc d o si w se nb hi p_status oe ih mb p_imageStatus x_p)), (on, .inr (2, oX2 n_kind n_salt n_pace n_manner n_from n_to n_goal n_reach n_branches n_branch n_tally x_n))] s.heap := hP
  have hl := lv_entry ([.ref op, .int p0]) (n := 2) (Nat.le_of_ble_eq_true rfl)
  have hla : entryFrame m args0 2 = entryFrame m ([.ref op, .int p0] : List Value).toArray 2 := by rw [hargs]
  rw [hla, lg_entry_eq]
  generalize (lg_sl ([.ref op, .int p0]) ++ List.replicate (2 - (lg_sl ([.ref op, .int p0])).length) Slot.unset).toArray = ls at hl ⊢
  have hl : lv_has ls 2 [(0, .ref op), (1, .int p0)] := hl
  refine lv_aload_n hx hb dX10_mustBeRouter_0 rfl (lv_at hl 0 rfl) ?_
  refine va_get (D := (dC, dI)) (ci := 10) (v := .ref on) (C := RX10) (T := TX10) (N := 19) hx hb hts hin10 hown hK hP 0 rfl rfl 1 (Nat.le_of_ble_eq_true rfl) hw_0 (fun _ h9 => h9) rfl dX10_mustBeRouter_1 ?_
  refine lv_iload_n hx hb dX10_mustBeRouter_4 rfl (lv_at hl 1 rfl) ?_
  obtain ⟨hPc, hDc, hFc, hJn⟩ := cl_a (wc := [(on, .inr (2, oX2 n_kind n_salt n_pace n_manner n_from n_to n_goal n_reach n_branches n_branch n_tally x_n))]) (wr := [(op, .inr (10, oX10 ot on dn rd oc d o si w se nb hi p_status oe ih mb p_imageStatus x_p))]) hP hD hS hA [1] [0] rfl rfl (by decide +kernel)
  refine va_calli (va_runV (As := [.int p0]) (rest := []) ⟨hx, hb, hml, hown, hts⟩ (s2_hasRouter l dC dI kB kI kJ kZ kC kS s.heap.size on n_kind n_salt n_pace n_manner n_from n_to n_goal n_reach n_branches n_branch n_tally x_n p0 (hx_n)) (cwV 1 hts gX10_mustBeRouter_X2_hasRouter rfl rfl rfl (by decide +kernel) ⟨Nat.le_of_ble_eq_true rfl, Nat.le_of_ble_eq_true rfl⟩) ⟨fun a U g mk q => by obtain ⟨q0, q1, qP, qE, qD⟩ := q; exact ⟨q0, q1, qP, kE_call qE, qD⟩, va_recv hK hP (ci := 2) (q0 := 1) rfl rfl, fun U hU hW => ⟨rfl, by rw [hU], by rw [hU]; exact hPc, kE_warm hW hE, hDc.weaken (fun _ _ _ _ => trivial)⟩⟩ rfl rfl hl.1 rfl (lv_room (Nat.le_of_ble_eq_true rfl)) dX10_mustBeRouter_5 ⟨Nat.le_of_ble_eq_true rfl, Nat.le_of_ble_eq_true rfl⟩) hS (fun q _ h => hFc q h) hFc (fun r1 u t H locs ht hvm w2 hB hz1 hk1 hS => ?_)
  obtain ⟨hP1, hD1⟩ := hB
  try dsimp only at w2
  obtain ⟨hPa, hDa⟩ := hJn (w1 := [(on, .inr (2, oX2 n_kind n_salt n_pace n_manner n_from n_to n_goal n_reach n_branches n_branch n_tally x_n))]) hk1 ht hP1 hD1
  clear hP hD hPc hDc hFc hJn hP1 hD1 hk1
  have hP : va_P (dC, dI) vwCl [(op, .inr (10, oX10 ot on dn rd oc d o si w se nb hi p_status oe ih mb p_imageStatus x_p)), (on, .inr (2, oX2 n_kind n_salt n_pace n_manner n_from n_to n_goal n_reach n_branches n_branch n_tally x_n))] H := hPa
  have hD : va_D A [(op, .inr (10, oX10 ot on dn rd oc d o si w se nb hi p_status oe ih mb p_imageStatus x_p)), (on, .inr (2, oX2 n_kind n_salt n_pace n_manner n_from n_to n_goal n_reach n_branches n_branch n_tally x_n))] := hDa
  clear hPa hDa
  refine W.widen (k := 0) (n := 0) (Nat.le_of_ble_eq_true rfl) (Nat.le_of_ble_eq_true rfl) ?_
  refine lv_if_ne (tgt := 22) hx hb dX10_mustBeRouter_8 rfl (fun c3 => ?_) (fun c3 => ?_)
  · have b4 : iv 1 1 r1 := iv_neLo c3 w2.1 ivk_0 (by decide) (by decide)
    have b5 : iv 0 11 p0 := (w2.2).resolve_left (iv_ne b4 ivk_0 (by decide))
    have hP9 := hP
    have hD9 := hD
    refine W.widen (k := 1) (n := 6) (Nat.le_of_ble_eq_true rfl) (Nat.le_of_ble_eq_true rfl) ?_
    refine vx_ret ?_
    exact W.vret hx hb hr (fun t ht hW => ⟨⟨(), rfl, trivial, b5, by rw [ht]; exact hP9, hD9⟩, hS.F ht⟩) hS.2.2 dX10_mustBeRouter_22
  · have b6 : iv 0 0 r1 := iv_eqL c3 ivk_0
    have hP9 := hP
    have hD9 := hD
    obtain ⟨sa7, hstr⟩ := hXs.2.2.2.2.2.2.2.2.2.2.2.2.2.2.2.2.2.1
    exact vx_throwSXW (names := ["java/lang/RuntimeException", "java/lang/Exception"]) hx hb hst (ix := 13) (rx := kNse) (by decide +kernel) (by decide +kernel) (by decide +kernel) (by decide +kernel) hown (by decide +kernel) (by decide +kernel) hw_1 hw_2 hstr (vx_hat (L := vx_atSX RX10 199 "java/util/NoSuchElementException" 13 kNse ["java/lang/RuntimeException", "java/lang/Exception"]) (B := [.castable "java/util/NoSuchElementException" "java/util/NoSuchElementException", .declares ⟨"java/lang/RuntimeException", "<init>", "(Ljava/lang/String;)V"⟩, .declares ⟨"java/lang/Exception", "<init>", "(Ljava/lang/String;)V"⟩, .declares ⟨"java/lang/Throwable", "<init>", "(Ljava/lang/String;)V"⟩]) (fun w hw => hts w ((by decide +kernel : ∀ w ∈ (vx_atSX RX10 199 "java/util/NoSuchElementException" 13 kNse ["java/lang/RuntimeException", "java/lang/Exception"]).filter goodWord, w ∈ wsX10_mustBeRouter) w hw)) (by decide +kernel) (vx_c (va_Nw.use rfl hXs.1) (vx_c (va_Nw.use rfl hXs.2.2.1) (vx_c (va_Nw.use rfl hXs.2.2.2.1) (vx_c (va_Nw.use rfl hXs.2.2.2.2.1) (vx_n)))))) (by decide +kernel) hT.1 hT.2 hS (by rw [hml]; exact hl.1) dX10_mustBeRouter_11 dX10_mustBeRouter_14 dX10_mustBeRouter_15 dX10_mustBeRouter_18 dX10_mustBeRouter_21 (fun x h9 => (hexT x h9).elim) (Nat.le_of_ble_eq_true rfl) (Nat.le_of_ble_eq_true rfl) (Nat.le_of_ble_eq_true rfl) (Nat.le_of_ble_eq_true rfl) hlocks (fun t9 _ h8 h9 => ⟨(), trivial, ⟨rfl, hP9.kept (fun k q hk => h9 q.1 (hP9 k q hk).lt), hD9⟩, Nat.le_trans hS.1 h8, fun q h1 h2 => (h9 q (Nat.lt_of_lt_of_le h1 hS.1)).trans (hS.2.1 q h1 h2)⟩) hS.2.2 (Nat.le_of_ble_eq_true rfl) (Nat.le_of_ble_eq_true rfl)
def rm_s10_mustBeLink : Room := { frames := 6, cells := 1, slots := 6, locals := 82 }
set_option maxHeartbeats 4000000 in
set_option maxRecDepth 100000 in
theorem s10_mustBeLink (l : Launch) (hst : l.stackTraces = false) (dC : Nat → ClassId) (dI : Nat → Nat → Nat) (kB kI kJ kZ kC kS : ClassId) (sz : Nat) (op : Nat) (ot : Nat) (on : Nat) (dn : Nat) (rd : Nat) (oc : Nat) (d : Nat) (o : Nat) (si : Nat) (w : Nat) (se : Nat) (nb : Nat) (hi : Nat) (p_status : Nat) (oe : Nat) (ih : Nat) (mb : Nat) (p_imageStatus : Nat) (x_p : Nat → Int32) (n_kind : Nat) (n_salt : Nat) (n_pace : Nat) (n_manner : Nat) (n_from : Nat) (n_to : Nat) (n_goal : Nat) (n_reach : Nat) (n_branches : Nat) (n_branch : Nat) (n_tally : Nat) (x_n : Nat → Int32) (p0 : Int32) (hx_n : fI lX2 hX2 x_n) : vx_Met l yX10_mustBeLink wsX10_mustBeLink rm_s10_mustBeLink (va_Pc [.ref op, .int p0] (fun U => U.heap.size = sz ∧ va_P (dC, dI) vwCl [(op, .inr (10, oX10 ot on dn rd oc d o si w se nb hi p_status oe ih mb p_imageStatus x_p)), (on, .inr (2, oX2 n_kind n_salt n_pace n_manner n_from n_to n_goal n_reach n_branches n_branch n_tally x_n))] U.heap ∧ kE dC dI kB kI kJ kZ kC kS U ∧ va_D (fun _ => True) [(op, .inr (10, oX10 ot on dn rd oc d o si w se nb hi p_status oe ih mb p_imageStatus x_p)), (on, .inr (2, oX2 n_kind n_salt n_pace n_manner n_from n_to n_goal n_reach n_branches n_branch n_tally x_n))] ∧ kX U ∧ kT (va_A [(op, .inr (10, oX10 ot on dn rd oc d o si w se nb hi p_status oe ih mb p_imageStatus x_p)), (on, .inr (2, oX2 n_kind n_salt n_pace n_manner n_from n_to n_goal n_reach n_branches n_branch n_tally x_n))] sz) U)) (va_Qv (fun (_ : Unit) => True) (fun _ t => iv 0 19 p0 ∧ va_P (dC, dI) vwCl [(op, .inr (10, oX10 ot on dn rd oc d o si w se nb hi p_status oe ih mb p_imageStatus x_p)), (on, .inr (2, oX2 n_kind n_salt n_pace n_manner n_from n_to n_goal n_reach n_branches n_branch n_tally x_n))] t.heap ∧ va_D (va_A [(op, .inr (10, oX10 ot on dn rd oc d o si w se nb hi p_status oe ih mb p_imageStatus x_p)), (on, .inr (2, oX2 n_kind n_salt n_pace n_manner n_from n_to n_goal n_reach n_branches n_branch n_tally x_n))] sz) [(op, .inr (10, oX10 ot on dn rd oc d o si w se nb hi p_status oe ih mb p_imageStatus x_p)), (on, .inr (2, oX2 n_kind n_salt n_pace n_manner n_from n_to n_goal n_reach n_branches n_branch n_tally x_n))]) (va_A [(op, .inr (10, oX10 ot on dn rd oc d o si w se nb hi p_status oe ih mb p_imageStatus x_p)), (on, .inr (2, oX2 n_kind n_salt n_pace n_manner n_from n_to n_goal n_reach n_branches n_branch n_tally x_n))] sz)) (vx_X (fun (_ : Unit) => True) (fun (E : String) (_ : Unit) (t : State) => (E = "java/util/NoSuchElementException") ∧ va_P (dC, dI) vwCl [(op, .inr (10, oX10 ot on dn rd oc d o si w se nb hi p_status oe ih mb p_imageStatus x_p)), (on, .inr (2, oX2 n_kind n_salt n_pace n_manner n_from n_to n_goal n_reach n_branches n_branch n_tally x_n))] t.heap ∧ va_D (va_A [(op, .inr (10, oX10 ot on dn rd oc d o si w se nb hi p_status oe ih mb p_imageStatus x_p)), (on, .inr (2, oX2 n_kind n_salt n_pace n_manner n_from n_to n_goal n_reach n_branches n_branch n_tally x_n))] sz) [(op, .inr (10, oX10 ot on dn rd oc d o si w se nb hi p_status oe ih mb p_imageStatus x_p)), (on, .inr (2, oX2 n_kind n_salt n_pace n_manner n_from n_to n_goal n_reach n_branches n_branch n_tally x_n))]) (va_A [(op, .inr (10, oX10 ot on dn rd oc d o si w se nb hi p_status oe ih mb p_imageStatus x_p)), (on, .inr (2, oX2 n_kind n_salt n_pace n_manner n_from n_to n_goal n_reach n_branches n_branch n_tally x_n))] sz)) 1 6 (va_A [(op, .inr (10, oX10 ot on dn rd oc d o si w se nb hi p_status oe ih mb p_imageStatus x_p)), (on, .inr (2, oX2 n_kind n_salt n_pace n_manner n_from n_to n_goal n_reach n_branches n_branch n_tally x_n))] sz) := by
  refine vx_ofW (cc := cX10_mustBeLink) (maxL := 2) (ret := none) (by decide) rfl ?_
  intro p e s m args0 below meth c s₁ B hml hexT hv
  obtain ⟨hargs, hsz, hP, hE, hD0, hXs, hT⟩ := hv
  have hx := B.exec
  have hb := B.bytes
  have hr := B.returns
  have hts := atoms_spec (ws := wsX10_mustBeLink) B.pre
  have hown : s.vm.findClass RX10 = some m.cls := findClass_of_methodNamed B.named
  have hlocks := B.notSynchronized
  have hK := hE.1
  have hin10 : ∀ w ∈ wsX100, w ∈ wsX10_mustBeLink := fun _ h9 => List.mem_cons_of_mem _ (List.mem_append_left _ (List.mem_append_left _ (List.mem_append_right _ h9)))
  have hin2 : ∀ w ∈ wsX20, w ∈ wsX10_mustBeLink := fun _ h9 => List.mem_cons_of_mem _ (List.mem_append_left _ (List.mem_append_right _ h9))
  have hw_0 := hts (.fieldLink RX10 19 "PathProber" "told" "LPathProber$Net;") (List.mem_of_getElem? (i := 3) rfl)
  have hw_1 := hts (.classLink RX10 195 "java/util/NoSuchElementException") (List.mem_of_getElem? (i := 1) rfl)
  have hw_2 := hts (.initialized "java/util/NoSuchElementException") (List.mem_of_getElem? (i := 2) rfl)
  subst hsz
  have hD := hD0.self (sz := s.heap.size)
  generalize hAe : va_A [(op, .inr (10, oX10 ot on dn rd oc d o si w se nb hi p_status oe ih mb p_imageStatus x_p)), (on, .inr (2, oX2 n_kind n_salt n_pace n_manner n_from n_to n_goal n_reach n_branches n_branch n_tally x_n))] s.heap.size = A at hD hT ⊢
  have hA : ∀ q : Nat, s.heap.size ≤ q → A q := fun q h => by rw [← hAe]; exact Or.inr h
  have hS : va_S A s.heap s.heap [] := va_S.rf
  have hP : va_P (dC, dI) vwCl [(op, .inr (10, oX10 ot on dn rd oc d o si w se nb hi p_status oe ih mb p_imageStatus x_p)), (on, .inr (2, oX2 n_kind n_salt n_pace n_manner n_from n_to n_goal n_reach n_branches n_branch n_tally x_n))] s.heap := hP
  have hl := lv_entry ([.ref op, .int p0]) (n := 2) (Nat.le_of_ble_eq_true rfl)
  have hla : entryFrame m args0 2 = entryFrame m ([.ref op, .int p0] : List Value).toArray 2 := by rw [hargs]
  rw [hla, lg_entry_eq]
  generalize (lg_sl ([.ref op, .int p0]) ++ List.replicate (2 - (lg_sl ([.ref op, .int p0])).length) Slot.unset).toArray = ls at hl ⊢
  have hl : lv_has ls 2 [(0, .ref op), (1, .int p0)] := hl
  refine lv_aload_n hx hb dX10_mustBeLink_0 rfl (lv_at hl 0 rfl) ?_
  refine va_get (D := (dC, dI)) (ci := 10) (v := .ref on) (C := RX10) (T := TX10) (N := 19) hx hb hts hin10 hown hK hP 0 rfl rfl 1 (Nat.le_of_ble_eq_true rfl) hw_0 (fun _ h9 => h9) rfl dX10_mustBeLink_1 ?_
  refine lv_iload_n hx hb dX10_mustBeLink_4 rfl (lv_at hl 1 rfl) ?_
  obtain ⟨hPc, hDc, hFc, hJn⟩ := cl_a (wc := [(on, .inr (2, oX2 n_kind n_salt n_pace n_manner n_from n_to n_goal n_reach n_branches n_branch n_tally x_n))]) (wr := [(op, .inr (10, oX10 ot on dn rd oc d o si w se nb hi p_status oe ih mb p_imageStatus x_p))]) hP hD hS hA [1] [0] rfl rfl (by decide +kernel)
  refine va_calli (va_runV (As := [.int p0]) (rest := []) ⟨hx, hb, hml, hown, hts⟩ (s2_hasLink l dC dI kB kI kJ kZ kC kS s.heap.size on n_kind n_salt n_pace n_manner n_from n_to n_goal n_reach n_branches n_branch n_tally x_n p0 (hx_n)) (cwV 1 hts gX10_mustBeLink_X2_hasLink rfl rfl rfl (by decide +kernel) ⟨Nat.le_of_ble_eq_true rfl, Nat.le_of_ble_eq_true rfl⟩) ⟨fun a U g mk q => by obtain ⟨q0, q1, qP, qE, qD⟩ := q; exact ⟨q0, q1, qP, kE_call qE, qD⟩, va_recv hK hP (ci := 2) (q0 := 1) rfl rfl, fun U hU hW => ⟨rfl, by rw [hU], by rw [hU]; exact hPc, kE_warm hW hE, hDc.weaken (fun _ _ _ _ => trivial)⟩⟩ rfl rfl hl.1 rfl (lv_room (Nat.le_of_ble_eq_true rfl)) dX10_mustBeLink_5 ⟨Nat.le_of_ble_eq_true rfl, Nat.le_of_ble_eq_true rfl⟩) hS (fun q _ h => hFc q h) hFc (fun r1 u t H locs ht hvm w2 hB hz1 hk1 hS => ?_)
  obtain ⟨hP1, hD1⟩ := hB
  try dsimp only at w2
  obtain ⟨hPa, hDa⟩ := hJn (w1 := [(on, .inr (2, oX2 n_kind n_salt n_pace n_manner n_from n_to n_goal n_reach n_branches n_branch n_tally x_n))]) hk1 ht hP1 hD1
  clear hP hD hPc hDc hFc hJn hP1 hD1 hk1
  have hP : va_P (dC, dI) vwCl [(op, .inr (10, oX10 ot on dn rd oc d o si w se nb hi p_status oe ih mb p_imageStatus x_p)), (on, .inr (2, oX2 n_kind n_salt n_pace n_manner n_from n_to n_goal n_reach n_branches n_branch n_tally x_n))] H := hPa
  have hD : va_D A [(op, .inr (10, oX10 ot on dn rd oc d o si w se nb hi p_status oe ih mb p_imageStatus x_p)), (on, .inr (2, oX2 n_kind n_salt n_pace n_manner n_from n_to n_goal n_reach n_branches n_branch n_tally x_n))] := hDa
  clear hPa hDa
  refine W.widen (k := 0) (n := 0) (Nat.le_of_ble_eq_true rfl) (Nat.le_of_ble_eq_true rfl) ?_
  refine lv_if_ne (tgt := 22) hx hb dX10_mustBeLink_8 rfl (fun c3 => ?_) (fun c3 => ?_)
  · have b4 : iv 1 1 r1 := iv_neLo c3 w2.1 ivk_0 (by decide) (by decide)
    have b5 : iv 0 19 p0 := (w2.2).resolve_left (iv_ne b4 ivk_0 (by decide))
    have hP9 := hP
    have hD9 := hD
    refine W.widen (k := 1) (n := 6) (Nat.le_of_ble_eq_true rfl) (Nat.le_of_ble_eq_true rfl) ?_
    refine vx_ret ?_
    exact W.vret hx hb hr (fun t ht hW => ⟨⟨(), rfl, trivial, b5, by rw [ht]; exact hP9, hD9⟩, hS.F ht⟩) hS.2.2 dX10_mustBeLink_22
  · have b6 : iv 0 0 r1 := iv_eqL c3 ivk_0
    have hP9 := hP
    have hD9 := hD
    obtain ⟨sa7, hstr⟩ := hXs.2.2.2.2.2.2.2.2.2.2.2.2.2.2.2.2.2.2.1
    exact vx_throwSXW (names := ["java/lang/RuntimeException", "java/lang/Exception"]) hx hb hst (ix := 13) (rx := kNse) (by decide +kernel) (by decide +kernel) (by decide +kernel) (by decide +kernel) hown (by decide +kernel) (by decide +kernel) hw_1 hw_2 hstr (vx_hat (L := vx_atSX RX10 199 "java/util/NoSuchElementException" 13 kNse ["java/lang/RuntimeException", "java/lang/Exception"]) (B := [.castable "java/util/NoSuchElementException" "java/util/NoSuchElementException", .declares ⟨"java/lang/RuntimeException", "<init>", "(Ljava/lang/String;)V"⟩, .declares ⟨"java/lang/Exception", "<init>", "(Ljava/lang/String;)V"⟩, .declares ⟨"java/lang/Throwable", "<init>", "(Ljava/lang/String;)V"⟩]) (fun w hw => hts w ((by decide +kernel : ∀ w ∈ (vx_atSX RX10 199 "java/util/NoSuchElementException" 13 kNse ["java/lang/RuntimeException", "java/lang/Exception"]).filter goodWord, w ∈ wsX10_mustBeLink) w hw)) (by decide +kernel) (vx_c (va_Nw.use rfl hXs.1) (vx_c (va_Nw.use rfl hXs.2.2.1) (vx_c (va_Nw.use rfl hXs.2.2.2.1) (vx_c (va_Nw.use rfl hXs.2.2.2.2.1) (vx_n)))))) (by decide +kernel) hT.1 hT.2 hS (by rw [hml]; exact hl.1) dX10_mustBeLink_11 dX10_mustBeLink_14 dX10_mustBeLink_15 dX10_mustBeLink_18 dX10_mustBeLink_21 (fun x h9 => (hexT x h9).elim) (Nat.le_of_ble_eq_true rfl) (Nat.le_of_ble_eq_true rfl) (Nat.le_of_ble_eq_true rfl) (Nat.le_of_ble_eq_true rfl) hlocks (fun t9 _ h8 h9 => ⟨(), trivial, ⟨rfl, hP9.kept (fun k q hk => h9 q.1 (hP9 k q hk).lt), hD9⟩, Nat.le_trans hS.1 h8, fun q h1 h2 => (h9 q (Nat.lt_of_lt_of_le h1 hS.1)).trans (hS.2.1 q h1 h2)⟩) hS.2.2 (Nat.le_of_ble_eq_true rfl) (Nat.le_of_ble_eq_true rfl)
def rm_s10_mustBeGoal : Room := { frames := 6, cells := 1, slots := 6, locals := 82 }
set_option maxHeartbeats 4000000 in
set_option maxRecDepth 100000 in
theorem s10_mustBeGoal (l : Launch) (hst : l.stackTraces = false) (dC : Nat → ClassId) (dI : Nat → Nat → Nat) (kB kI kJ kZ kC kS : ClassId) (sz : Nat) (op : Nat) (ot : Nat) (on : Nat) (dn : Nat) (rd : Nat) (oc : Nat) (d : Nat) (o : Nat) (si : Nat) (w : Nat) (se : Nat) (nb : Nat) (hi : Nat) (p_status : Nat) (oe : Nat) (ih : Nat) (mb : Nat) (p_imageStatus : Nat) (x_p : Nat → Int32) (n_kind : Nat) (n_salt : Nat) (n_pace : Nat) (n_manner : Nat) (n_from : Nat) (n_to : Nat) (n_goal : Nat) (n_reach : Nat) (n_branches : Nat) (n_branch : Nat) (n_tally : Nat) (x_n : Nat → Int32) (p0 : Int32) (hx_n : fI lX2 hX2 x_n) : vx_Met l yX10_mustBeGoal wsX10_mustBeGoal rm_s10_mustBeGoal (va_Pc [.ref op, .int p0] (fun U => U.heap.size = sz ∧ va_P (dC, dI) vwCl [(op, .inr (10, oX10 ot on dn rd oc d o si w se nb hi p_status oe ih mb p_imageStatus x_p)), (on, .inr (2, oX2 n_kind n_salt n_pace n_manner n_from n_to n_goal n_reach n_branches n_branch n_tally x_n))] U.heap ∧ kE dC dI kB kI kJ kZ kC kS U ∧ va_D (fun _ => True) [(op, .inr (10, oX10 ot on dn rd oc d o si w se nb hi p_status oe ih mb p_imageStatus x_p)), (on, .inr (2, oX2 n_kind n_salt n_pace n_manner n_from n_to n_goal n_reach n_branches n_branch n_tally x_n))] ∧ kX U ∧ kT (va_A [(op, .inr (10, oX10 ot on dn rd oc d o si w se nb hi p_status oe ih mb p_imageStatus x_p)), (on, .inr (2, oX2 n_kind n_salt n_pace n_manner n_from n_to n_goal n_reach n_branches n_branch n_tally x_n))] sz) U)) (va_Qv (fun (_ : Unit) => True) (fun _ t => iv 0 2 p0 ∧ va_P (dC, dI) vwCl [(op, .inr (10, oX10 ot on dn rd oc d o si w se nb hi p_status oe ih mb p_imageStatus x_p)), (on, .inr (2, oX2 n_kind n_salt n_pace n_manner n_from n_to n_goal n_reach n_branches n_branch n_tally x_n))] t.heap ∧ va_D (va_A [(op, .inr (10, oX10 ot on dn rd oc d o si w se nb hi p_status oe ih mb p_imageStatus x_p)), (on, .inr (2, oX2 n_kind n_salt n_pace n_manner n_from n_to n_goal n_reach n_branches n_branch n_tally x_n))] sz) [(op, .inr (10, oX10 ot on dn rd oc d o si w se nb hi p_status oe ih mb p_imageStatus x_p)), (on, .inr (2, oX2 n_kind n_salt n_pace n_manner n_from n_to n_goal n_reach n_branches n_branch n_tally x_n))]) (va_A [(op, .inr (10, oX10 ot on dn rd oc d o si w se nb hi p_status oe ih mb p_imageStatus x_p)), (on, .inr (2, oX2 n_kind n_salt n_pace n_manner n_from n_to n_goal n_reach n_branches n_branch n_tally x_n))] sz)) (vx_X (fun (_ : Unit) => True) (fun (E : String) (_ : Unit) (t : State) => (E = "java/util/NoSuchElementException") ∧ va_P (dC, dI) vwCl [(op, .inr (10, oX10 ot on dn rd oc d o si w se nb hi p_status oe ih mb p_imageStatus x_p)), (on, .inr (2, oX2 n_kind n_salt n_pace n_manner n_from n_to n_goal n_reach n_branches n_branch n_tally x_n))] t.heap ∧ va_D (va_A [(op, .inr (10, oX10 ot on dn rd oc d o si w se nb hi p_status oe ih mb p_imageStatus x_p)), (on, .inr (2, oX2 n_kind n_salt n_pace n_manner n_from n_to n_goal n_reach n_branches n_branch n_tally x_n))] sz) [(op, .inr (10, oX10 ot on dn rd oc d o si w se nb hi p_status oe ih mb p_imageStatus x_p)), (on, .inr (2, oX2 n_kind n_salt n_pace n_manner n_from n_to n_goal n_reach n_branches n_branch n_tally x_n))]) (va_A [(op, .inr (10, oX10 ot on dn rd oc d o si w se nb hi p_status oe ih mb p_imageStatus x_p)), (on, .inr (2, oX2 n_kind n_salt n_pace n_manner n_from n_to n_goal n_reach n_branches n_branch n_tally x_n))] sz)) 1 6 (va_A [(op, .inr (10, oX10 ot on dn rd oc d o si w se nb hi p_status oe ih mb p_imageStatus x_p)), (on, .inr (2, oX2 n_kind n_salt n_pace n_manner n_from n_to n_goal n_reach n_branches n_branch n_tally x_n))] sz) := by
  refine vx_ofW (cc := cX10_mustBeGoal) (maxL := 2) (ret := none) (by decide) rfl ?_
  intro p e s m args0 below meth c s₁ B hml hexT hv
  obtain ⟨hargs, hsz, hP, hE, hD0, hXs, hT⟩ := hv
  have hx := B.exec
  have hb := B.bytes
  have hr := B.returns
  have hts := atoms_spec (ws := wsX10_mustBeGoal) B.pre
  have hown : s.vm.findClass RX10 = some m.cls := findClass_of_methodNamed B.named
  have hlocks := B.notSynchronized
  have hK := hE.1
  have hin10 : ∀ w ∈ wsX100, w ∈ wsX10_mustBeGoal := fun _ h9 => List.mem_cons_of_mem _ (List.mem_append_left _ (List.mem_append_left _ (List.mem_append_right _ h9)))
  have hin2 : ∀ w ∈ wsX20, w ∈ wsX10_mustBeGoal := fun _ h9 => List.mem_cons_of_mem _ (List.mem_append_left _ (List.mem_append_right _ h9))
  have hw_0 := hts (.fieldLink RX10 19 "PathProber" "told" "LPathProber$Net;") (List.mem_of_getElem? (i := 3) rfl)
  have hw_1 := hts (.classLink RX10 195 "java/util/NoSuchElementException") (List.mem_of_getElem? (i := 1) rfl)
  have hw_2 := hts (.initialized "java/util/NoSuchElementException") (List.mem_of_getElem? (i := 2) rfl)
  subst hsz
  have hD := hD0.self (sz := s.heap.size)
  generalize hAe : va_A [(op, .inr (10, oX10 ot on dn rd oc d o si w se nb hi p_status oe ih mb p_imageStatus x_p)), (on, .inr (2, oX2 n_kind n_salt n_pace n_manner n_from n_to n_goal n_reach n_branches n_branch n_tally x_n))] s.heap.size = A at hD hT ⊢
  have hA : ∀ q : Nat, s.heap.size ≤ q → A q := fun q h => by rw [← hAe]; exact Or.inr h
  have hS : va_S A s.heap s.heap [] := va_S.rf
  have hP : va_P (dC, dI) vwCl [(op, .inr (10, oX10 ot on dn rd oc d o si w se nb hi p_status oe ih mb p_imageStatus x_p)), (on, .inr (2, oX2 n_kind n_salt n_pace n_manner n_from n_to n_goal n_reach n_branches n_branch n_tally x_n))] s.heap := hP
  have hl := lv_entry ([.ref op, .int p0]) (n := 2) (Nat.le_of_ble_eq_true rfl)
  have hla : entryFrame m args0 2 = entryFrame m ([.ref op, .int p0] : List Value).toArray 2 := by rw [hargs]
  rw [hla, lg_entry_eq]
  generalize (lg_sl ([.ref op, .int p0]) ++ List.replicate (2 - (lg_sl ([.ref op, .int p0])).length) Slot.unset).toArray = ls at hl ⊢
  have hl : lv_has ls 2 [(0, .ref op), (1, .int p0)] := hl
  refine lv_aload_n hx hb dX10_mustBeGoal_0 rfl (lv_at hl 0 rfl) ?_
  refine va_get (D := (dC, dI)) (ci := 10) (v := .ref on) (C := RX10) (T := TX10) (N := 19) hx hb hts hin10 hown hK hP 0 rfl rfl 1 (Nat.le_of_ble_eq_true rfl) hw_0 (fun _ h9 => h9) rfl dX10_mustBeGoal_1 ?_
  refine lv_iload_n hx hb dX10_mustBeGoal_4 rfl (lv_at hl 1 rfl) ?_
  obtain ⟨hPc, hDc, hFc, hJn⟩ := cl_a (wc := [(on, .inr (2, oX2 n_kind n_salt n_pace n_manner n_from n_to n_goal n_reach n_branches n_branch n_tally x_n))]) (wr := [(op, .inr (10, oX10 ot on dn rd oc d o si w se nb hi p_status oe ih mb p_imageStatus x_p))]) hP hD hS hA [1] [0] rfl rfl (by decide +kernel)
  refine va_calli (va_runV (As := [.int p0]) (rest := []) ⟨hx, hb, hml, hown, hts⟩ (s2_hasGoal l dC dI kB kI kJ kZ kC kS s.heap.size on n_kind n_salt n_pace n_manner n_from n_to n_goal n_reach n_branches n_branch n_tally x_n p0 (hx_n)) (cwV 1 hts gX10_mustBeGoal_X2_hasGoal rfl rfl rfl (by decide +kernel) ⟨Nat.le_of_ble_eq_true rfl, Nat.le_of_ble_eq_true rfl⟩) ⟨fun a U g mk q => by obtain ⟨q0, q1, qP, qE, qD⟩ := q; exact ⟨q0, q1, qP, kE_call qE, qD⟩, va_recv hK hP (ci := 2) (q0 := 1) rfl rfl, fun U hU hW => ⟨rfl, by rw [hU], by rw [hU]; exact hPc, kE_warm hW hE, hDc.weaken (fun _ _ _ _ => trivial)⟩⟩ rfl rfl hl.1 rfl (lv_room (Nat.le_of_ble_eq_true rfl)) dX10_mustBeGoal_5 ⟨Nat.le_of_ble_eq_true rfl, Nat.le_of_ble_eq_true rfl⟩) hS (fun q _ h => hFc q h) hFc (fun r1 u t H locs ht hvm w2 hB hz1 hk1 hS => ?_)
  obtain ⟨hP1, hD1⟩ := hB
  try dsimp only at w2
  obtain ⟨hPa, hDa⟩ := hJn (w1 := [(on, .inr (2, oX2 n_kind n_salt n_pace n_manner n_from n_to n_goal n_reach n_branches n_branch n_tally x_n))]) hk1 ht hP1 hD1
  clear hP hD hPc hDc hFc hJn hP1 hD1 hk1
  have hP : va_P (dC, dI) vwCl [(op, .inr (10, oX10 ot on dn rd oc d o si w se nb hi p_status oe ih mb p_imageStatus x_p)), (on, .inr (2, oX2 n_kind n_salt n_pace n_manner n_from n_to n_goal n_reach n_branches n_branch n_tally x_n))] H := hPa
  have hD : va_D A [(op, .inr (10, oX10 ot on dn rd oc d o si w se nb hi p_status oe ih mb p_imageStatus x_p)), (on, .inr (2, oX2 n_kind n_salt n_pace n_manner n_from n_to n_goal n_reach n_branches n_branch n_tally x_n))] := hDa
  clear hPa hDa
  refine W.widen (k := 0) (n := 0) (Nat.le_of_ble_eq_true rfl) (Nat.le_of_ble_eq_true rfl) ?_
  refine lv_if_ne (tgt := 22) hx hb dX10_mustBeGoal_8 rfl (fun c3 => ?_) (fun c3 => ?_)
  · have b4 : iv 1 1 r1 := iv_neLo c3 w2.1 ivk_0 (by decide) (by decide)
    have b5 : iv 0 2 p0 := (w2.2).resolve_left (iv_ne b4 ivk_0 (by decide))
    have hP9 := hP
    have hD9 := hD
    refine W.widen (k := 1) (n := 6) (Nat.le_of_ble_eq_true rfl) (Nat.le_of_ble_eq_true rfl) ?_
    refine vx_ret ?_
    exact W.vret hx hb hr (fun t ht hW => ⟨⟨(), rfl, trivial, b5, by rw [ht]; exact hP9, hD9⟩, hS.F ht⟩) hS.2.2 dX10_mustBeGoal_22
  · have b6 : iv 0 0 r1 := iv_eqL c3 ivk_0
    have hP9 := hP
    have hD9 := hD
    obtain ⟨sa7, hstr⟩ := hXs.2.2.2.2.2.2.2.2.2.2.2.2.2.2.2.2.2.2.2.1
    exact vx_throwSXW (names := ["java/lang/RuntimeException", "java/lang/Exception"]) hx hb hst (ix := 13) (rx := kNse) (by decide +kernel) (by decide +kernel) (by decide +kernel) (by decide +kernel) hown (by decide +kernel) (by decide +kernel) hw_1 hw_2 hstr (vx_hat (L := vx_atSX RX10 199 "java/util/NoSuchElementException" 13 kNse ["java/lang/RuntimeException", "java/lang/Exception"]) (B := [.castable "java/util/NoSuchElementException" "java/util/NoSuchElementException", .declares ⟨"java/lang/RuntimeException", "<init>", "(Ljava/lang/String;)V"⟩, .declares ⟨"java/lang/Exception", "<init>", "(Ljava/lang/String;)V"⟩, .declares ⟨"java/lang/Throwable", "<init>", "(Ljava/lang/String;)V"⟩]) (fun w hw => hts w ((by decide +kernel : ∀ w ∈ (vx_atSX RX10 199 "java/util/NoSuchElementException" 13 kNse ["java/lang/RuntimeException", "java/lang/Exception"]).filter goodWord, w ∈ wsX10_mustBeGoal) w hw)) (by decide +kernel) (vx_c (va_Nw.use rfl hXs.1) (vx_c (va_Nw.use rfl hXs.2.2.1) (vx_c (va_Nw.use rfl hXs.2.2.2.1) (vx_c (va_Nw.use rfl hXs.2.2.2.2.1) (vx_n)))))) (by decide +kernel) hT.1 hT.2 hS (by rw [hml]; exact hl.1) dX10_mustBeGoal_11 dX10_mustBeGoal_14 dX10_mustBeGoal_15 dX10_mustBeGoal_18 dX10_mustBeGoal_21 (fun x h9 => (hexT x h9).elim) (Nat.le_of_ble_eq_true rfl) (Nat.le_of_ble_eq_true rfl) (Nat.le_of_ble_eq_true rfl) (Nat.le_of_ble_eq_true rfl) hlocks (fun t9 _ h8 h9 => ⟨(), trivial, ⟨rfl, hP9.kept (fun k q hk => h9 q.1 (hP9 k q hk).lt), hD9⟩, Nat.le_trans hS.1 h8, fun q h1 h2 => (h9 q (Nat.lt_of_lt_of_le h1 hS.1)).trans (hS.2.1 q h1 h2)⟩) hS.2.2 (Nat.le_of_ble_eq_true rfl) (Nat.le_of_ble_eq_true rfl)
def rm_s10_mustBeAddress : Room := { frames := 6, cells := 1, slots := 6, locals := 82 }
set_option maxHeartbeats 4000000 in
set_option maxRecDepth 100000 in
theorem s10_mustBeAddress (l : Launch) (hst : l.stackTraces = false) (dC : Nat → ClassId) (dI : Nat → Nat → Nat) (kB kI kJ kZ kC kS : ClassId) (sz : Nat) (op : Nat) (ot : Nat) (on : Nat) (dn : Nat) (rd : Nat) (oc : Nat) (d : Nat) (o : Nat) (si : Nat) (w : Nat) (se : Nat) (nb : Nat) (hi : Nat) (p_status : Nat) (oe : Nat) (ih : Nat) (mb : Nat) (p_imageStatus : Nat) (x_p : Nat → Int32) (n_kind : Nat) (n_salt : Nat) (n_pace : Nat) (n_manner : Nat) (n_from : Nat) (n_to : Nat) (n_goal : Nat) (n_reach : Nat) (n_branches : Nat) (n_branch : Nat) (n_tally : Nat) (x_n : Nat → Int32) (p0 : Int32) (hx_n : fI lX2 hX2 x_n) : vx_Met l yX10_mustBeAddress wsX10_mustBeAddress rm_s10_mustBeAddress (va_Pc [.ref op, .int p0] (fun U => U.heap.size = sz ∧ va_P (dC, dI) vwCl [(op, .inr (10, oX10 ot on dn rd oc d o si w se nb hi p_status oe ih mb p_imageStatus x_p)), (on, .inr (2, oX2 n_kind n_salt n_pace n_manner n_from n_to n_goal n_reach n_branches n_branch n_tally x_n))] U.heap ∧ kE dC dI kB kI kJ kZ kC kS U ∧ va_D (fun _ => True) [(op, .inr (10, oX10 ot on dn rd oc d o si w se nb hi p_status oe ih mb p_imageStatus x_p)), (on, .inr (2, oX2 n_kind n_salt n_pace n_manner n_from n_to n_goal n_reach n_branches n_branch n_tally x_n))] ∧ kX U ∧ kT (va_A [(op, .inr (10, oX10 ot on dn rd oc d o si w se nb hi p_status oe ih mb p_imageStatus x_p)), (on, .inr (2, oX2 n_kind n_salt n_pace n_manner n_from n_to n_goal n_reach n_branches n_branch n_tally x_n))] sz) U)) (va_Qv (fun (_ : Unit) => True) (fun _ t => iv 0 20 p0 ∧ va_P (dC, dI) vwCl [(op, .inr (10, oX10 ot on dn rd oc d o si w se nb hi p_status oe ih mb p_imageStatus x_p)), (on, .inr (2, oX2 n_kind n_salt n_pace n_manner n_from n_to n_goal n_reach n_branches n_branch n_tally x_n))] t.heap ∧ va_D (va_A [(op, .inr (10, oX10 ot on dn rd oc d o si w se nb hi p_status oe ih mb p_imageStatus x_p)), (on, .inr (2, oX2 n_kind n_salt n_pace n_manner n_from n_to n_goal n_reach n_branches n_branch n_tally x_n))] sz) [(op, .inr (10, oX10 ot on dn rd oc d o si w se nb hi p_status oe ih mb p_imageStatus x_p)), (on, .inr (2, oX2 n_kind n_salt n_pace n_manner n_from n_to n_goal n_reach n_branches n_branch n_tally x_n))]) (va_A [(op, .inr (10, oX10 ot on dn rd oc d o si w se nb hi p_status oe ih mb p_imageStatus x_p)), (on, .inr (2, oX2 n_kind n_salt n_pace n_manner n_from n_to n_goal n_reach n_branches n_branch n_tally x_n))] sz)) (vx_X (fun (_ : Unit) => True) (fun (E : String) (_ : Unit) (t : State) => (E = "java/util/NoSuchElementException") ∧ va_P (dC, dI) vwCl [(op, .inr (10, oX10 ot on dn rd oc d o si w se nb hi p_status oe ih mb p_imageStatus x_p)), (on, .inr (2, oX2 n_kind n_salt n_pace n_manner n_from n_to n_goal n_reach n_branches n_branch n_tally x_n))] t.heap ∧ va_D (va_A [(op, .inr (10, oX10 ot on dn rd oc d o si w se nb hi p_status oe ih mb p_imageStatus x_p)), (on, .inr (2, oX2 n_kind n_salt n_pace n_manner n_from n_to n_goal n_reach n_branches n_branch n_tally x_n))] sz) [(op, .inr (10, oX10 ot on dn rd oc d o si w se nb hi p_status oe ih mb p_imageStatus x_p)), (on, .inr (2, oX2 n_kind n_salt n_pace n_manner n_from n_to n_goal n_reach n_branches n_branch n_tally x_n))]) (va_A [(op, .inr (10, oX10 ot on dn rd oc d o si w se nb hi p_status oe ih mb p_imageStatus x_p)), (on, .inr (2, oX2 n_kind n_salt n_pace n_manner n_from n_to n_goal n_reach n_branches n_branch n_tally x_n))] sz)) 1 6 (va_A [(op, .inr (10, oX10 ot on dn rd oc d o si w se nb hi p_status oe ih mb p_imageStatus x_p)), (on, .inr (2, oX2 n_kind n_salt n_pace n_manner n_from n_to n_goal n_reach n_branches n_branch n_tally x_n))] sz) := by
  refine vx_ofW (cc := cX10_mustBeAddress) (maxL := 2) (ret := none) (by decide) rfl ?_
  intro p e s m args0 below meth c s₁ B hml hexT hv
  obtain ⟨hargs, hsz, hP, hE, hD0, hXs, hT⟩ := hv
  have hx := B.exec
  have hb := B.bytes
  have hr := B.returns
  have hts := atoms_spec (ws := wsX10_mustBeAddress) B.pre
  have hown : s.vm.findClass RX10 = some m.cls := findClass_of_methodNamed B.named
  have hlocks := B.notSynchronized
  have hK := hE.1
  have hin10 : ∀ w ∈ wsX100, w ∈ wsX10_mustBeAddress := fun _ h9 => List.mem_cons_of_mem _ (List.mem_append_left _ (List.mem_append_left _ (List.mem_append_right _ h9)))
  have hin2 : ∀ w ∈ wsX20, w ∈ wsX10_mustBeAddress := fun _ h9 => List.mem_cons_of_mem _ (List.mem_append_left _ (List.mem_append_right _ h9))
  have hw_0 := hts (.fieldLink RX10 19 "PathProber" "told" "LPathProber$Net;") (List.mem_of_getElem? (i := 3) rfl)
  have hw_1 := hts (.classLink RX10 195 "java/util/NoSuchElementException") (List.mem_of_getElem? (i := 1) rfl)
  have hw_2 := hts (.initialized "java/util/NoSuchElementException") (List.mem_of_getElem? (i := 2) rfl)
  subst hsz
  have hD := hD0.self (sz := s.heap.size)
  generalize hAe : va_A [(op, .inr (10, oX10 ot on dn rd oc d o si w se nb hi p_status oe ih mb p_imageStatus x_p)), (on, .inr (2, oX2 n_kind n_salt n_pace n_manner n_from n_to n_goal n_reach n_branches n_branch n_tally x_n))] s.heap.size = A at hD hT ⊢
  have hA : ∀ q : Nat, s.heap.size ≤ q → A q := fun q h => by rw [← hAe]; exact Or.inr h
  have hS : va_S A s.heap s.heap [] := va_S.rf
  have hP : va_P (dC, dI) vwCl [(op, .inr (10, oX10 ot on dn rd oc d o si w se nb hi p_status oe ih mb p_imageStatus x_p)), (on, .inr (2, oX2 n_kind n_salt n_pace n_manner n_from n_to n_goal n_reach n_branches n_branch n_tally x_n))] s.heap := hP
  have hl := lv_entry ([.ref op, .int p0]) (n := 2) (Nat.le_of_ble_eq_true rfl)
  have hla : entryFrame m args0 2 = entryFrame m ([.ref op, .int p0] : List Value).toArray 2 := by rw [hargs]
  rw [hla, lg_entry_eq]
  generalize (lg_sl ([.ref op, .int p0]) ++ List.replicate (2 - (lg_sl ([.ref op, .int p0])).length) Slot.unset).toArray = ls at hl ⊢
  have hl : lv_has ls 2 [(0, .ref op), (1, .int p0)] := hl
  refine lv_aload_n hx hb dX10_mustBeAddress_0 rfl (lv_at hl 0 rfl) ?_
  refine va_get (D := (dC, dI)) (ci := 10) (v := .ref on) (C := RX10) (T := TX10) (N := 19) hx hb hts hin10 hown hK hP 0 rfl rfl 1 (Nat.le_of_ble_eq_true rfl) hw_0 (fun _ h9 => h9) rfl dX10_mustBeAddress_1 ?_
  refine lv_iload_n hx hb dX10_mustBeAddress_4 rfl (lv_at hl 1 rfl) ?_
  obtain ⟨hPc, hDc, hFc, hJn⟩ := cl_a (wc := [(on, .inr (2, oX2 n_kind n_salt n_pace n_manner n_from n_to n_goal n_reach n_branches n_branch n_tally x_n))]) (wr := [(op, .inr (10, oX10 ot on dn rd oc d o si w se nb hi p_status oe ih mb p_imageStatus x_p))]) hP hD hS hA [1] [0] rfl rfl (by decide +kernel)
  refine va_calli (va_runV (As := [.int p0]) (rest := []) ⟨hx, hb, hml, hown, hts⟩ (s2_hasAddress l dC dI kB kI kJ kZ kC kS s.heap.size on n_kind n_salt n_pace n_manner n_from n_to n_goal n_reach n_branches n_branch n_tally x_n p0 (hx_n)) (cwV 1 hts gX10_mustBeAddress_X2_hasAddress rfl rfl rfl (by decide +kernel) ⟨Nat.le_of_ble_eq_true rfl, Nat.le_of_ble_eq_true rfl⟩) ⟨fun a U g mk q => by obtain ⟨q0, q1, qP, qE, qD⟩ := q; exact ⟨q0, q1, qP, kE_call qE, qD⟩, va_recv hK hP (ci := 2) (q0 := 1) rfl rfl, fun U hU hW => ⟨rfl, by rw [hU], by rw [hU]; exact hPc, kE_warm hW hE, hDc.weaken (fun _ _ _ _ => trivial)⟩⟩ rfl rfl hl.1 rfl (lv_room (Nat.le_of_ble_eq_true rfl)) dX10_mustBeAddress_5 ⟨Nat.le_of_ble_eq_true rfl, Nat.le_of_ble_eq_true rfl⟩) hS (fun q _ h => hFc q h) hFc (fun r1 u t H locs ht hvm w2 hB hz1 hk1 hS => ?_)
  obtain ⟨hP1, hD1⟩ := hB
  try dsimp only at w2
  obtain ⟨hPa, hDa⟩ := hJn (w1 := [(on, .inr (2, oX2 n_kind n_salt n_pace n_manner n_from n_to n_goal n_reach n_branches n_branch n_tally x_n))]) hk1 ht hP1 hD1
  clear hP hD hPc hDc hFc hJn hP1 hD1 hk1
  have hP : va_P (dC, dI) vwCl [(op, .inr (10, oX10 ot on dn rd oc d o si w se nb hi p_status oe ih mb p_imageStatus x_p)), (on, .inr (2, oX2 n_kind n_salt n_pace n_manner n_from n_to n_goal n_reach n_branches n_branch n_tally x_n))] H := hPa
  have hD : va_D A [(op, .inr (10, oX10 ot on dn rd oc d o si w se nb hi p_status oe ih mb p_imageStatus x_p)), (on, .inr (2, oX2 n_kind n_salt n_pace n_manner n_from n_to n_goal n_reach n_branches n_branch n_tally x_n))] := hDa
  clear hPa hDa
  refine W.widen (k := 0) (n := 0) (Nat.le_of_ble_eq_true rfl) (Nat.le_of_ble_eq_true rfl) ?_
  refine lv_if_ne (tgt := 22) hx hb dX10_mustBeAddress_8 rfl (fun c3 => ?_) (fun c3 => ?_)
  · have b4 : iv 1 1 r1 := iv_neLo c3 w2.1 ivk_0 (by decide) (by decide)
    have b5 : iv 0 20 p0 := (w2.2).resolve_left (iv_ne b4 ivk_0 (by decide))
    have hP9 := hP
    have hD9 := hD
    refine W.widen (k := 1) (n := 6) (Nat.le_of_ble_eq_true rfl) (Nat.le_of_ble_eq_true rfl) ?_
    refine vx_ret ?_
    exact W.vret hx hb hr (fun t ht hW => ⟨⟨(), rfl, trivial, b5, by rw [ht]; exact hP9, hD9⟩, hS.F ht⟩) hS.2.2 dX10_mustBeAddress_22
  · have b6 : iv 0 0 r1 := iv_eqL c3 ivk_0
    have hP9 := hP
    have hD9 := hD
    obtain ⟨sa7, hstr⟩ := hXs.2.2.2.2.2.2.2.2.2.2.2.2.2.2.2.2.2.2.2.2
    exact vx_throwSXW (names := ["java/lang/RuntimeException", "java/lang/Exception"]) hx hb hst (ix := 13) (rx := kNse) (by decide +kernel) (by decide +kernel) (by decide +kernel) (by decide +kernel) hown (by decide +kernel) (by decide +kernel) hw_1 hw_2 hstr (vx_hat (L := vx_atSX RX10 199 "java/util/NoSuchElementException" 13 kNse ["java/lang/RuntimeException", "java/lang/Exception"]) (B := [.castable "java/util/NoSuchElementException" "java/util/NoSuchElementException", .declares ⟨"java/lang/RuntimeException", "<init>", "(Ljava/lang/String;)V"⟩, .declares ⟨"java/lang/Exception", "<init>", "(Ljava/lang/String;)V"⟩, .declares ⟨"java/lang/Throwable", "<init>", "(Ljava/lang/String;)V"⟩]) (fun w hw => hts w ((by decide +kernel : ∀ w ∈ (vx_atSX RX10 199 "java/util/NoSuchElementException" 13 kNse ["java/lang/RuntimeException", "java/lang/Exception"]).filter goodWord, w ∈ wsX10_mustBeAddress) w hw)) (by decide +kernel) (vx_c (va_Nw.use rfl hXs.1) (vx_c (va_Nw.use rfl hXs.2.2.1) (vx_c (va_Nw.use rfl hXs.2.2.2.1) (vx_c (va_Nw.use rfl hXs.2.2.2.2.1) (vx_n)))))) (by decide +kernel) hT.1 hT.2 hS (by rw [hml]; exact hl.1) dX10_mustBeAddress_11 dX10_mustBeAddress_14 dX10_mustBeAddress_15 dX10_mustBeAddress_18 dX10_mustBeAddress_21 (fun x h9 => (hexT x h9).elim) (Nat.le_of_ble_eq_true rfl) (Nat.le_of_ble_eq_true rfl) (Nat.le_of_ble_eq_true rfl) (Nat.le_of_ble_eq_true rfl) hlocks (fun t9 _ h8 h9 => ⟨(), trivial, ⟨rfl, hP9.kept (fun k q hk => h9 q.1 (hP9 k q hk).lt), hD9⟩, Nat.le_trans hS.1 h8, fun q h1 h2 => (h9 q (Nat.lt_of_lt_of_le h1 hS.1)).trans (hS.2.1 q h1 h2)⟩) hS.2.2 (Nat.le_of_ble_eq_true rfl) (Nat.le_of_ble_eq_true rfl)
def rm_s10_wasSeen : Room := { frames := 2, cells := 0, slots := 0, locals := 48 }
set_option maxHeartbeats 4000000 in
set_option maxRecDepth 100000 in
theorem s10_wasSeen (l : Launch) (dC : Nat → ClassId) (dI : Nat → Nat → Nat) (kB kI kJ kZ kC kS : ClassId) (sz : Nat) (op : Nat) (ot : Nat) (on : Nat) (dn : Nat) (rd : Nat) (oc : Nat) (d : Nat) (o : Nat) (si : Nat) (w : Nat) (se : Nat) (nb : Nat) (hi : Nat) (p_status : Nat) (oe : Nat) (ih : Nat) (mb : Nat) (p_imageStatus : Nat) (x_p : Nat → Int32) (n_kind : Nat) (n_salt : Nat) (n_pace : Nat) (n_manner : Nat) (n_from : Nat) (n_to : Nat) (n_goal : Nat) (n_reach : Nat) (n_branches : Nat) (n_branch : Nat) (n_tally : Nat) (x_n : Nat → Int32) (c_seen : Nat) (c_sent : Nat) (c_turn : Nat) (c_counter : Nat) (x_c : Nat → Int32) (f_c_seen : Nat → Int64) (si_edgesFrom : Nat) (si_diamondFirst : Nat) (si_diamondLast : Nat) (x_si : Nat → Int32) (p0 : Int32) (hx_n : fI lX2 hX2 x_n) (hf_c_seen : sI f_c_seen) : Met l yX10_wasSeen wsX10_wasSeen rm_s10_wasSeen (va_Pc [.ref op, .int p0] (fun U => U.heap.size = sz ∧ va_P (dC, dI) vwCl [(op, .inr (10, oX10 ot on dn rd oc d o si w se nb hi p_status oe ih mb p_imageStatus x_p)), (on, .inr (2, oX2 n_kind n_salt n_pace n_manner n_from n_to n_goal n_reach n_branches n_branch n_tally x_n)), (oc, .inr (0, oX0 c_seen c_sent c_turn c_counter x_c)), (c_seen, .inl (kJ, 96, .inr (.inl f_c_seen))), (si, .inr (7, oX7 on oc si_edgesFrom si_diamondFirst si_diamondLast x_si))] U.heap ∧ kE dC dI kB kI kJ kZ kC kS U ∧ va_D (fun _ => True) [(op, .inr (10, oX10 ot on dn rd oc d o si w se nb hi p_status oe ih mb p_imageStatus x_p)), (on, .inr (2, oX2 n_kind n_salt n_pace n_manner n_from n_to n_goal n_reach n_branches n_branch n_tally x_n)), (oc, .inr (0, oX0 c_seen c_sent c_turn c_counter x_c)), (c_seen, .inl (kJ, 96, .inr (.inl f_c_seen))), (si, .inr (7, oX7 on oc si_edgesFrom si_diamondFirst si_diamondLast x_si))])) (va_Qi (fun (r : Int32) (_ : Unit) => iv 0 1 r) (fun _ t => va_P (dC, dI) vwCl [(op, .inr (10, oX10 ot on dn rd oc d o si w se nb hi p_status oe ih mb p_imageStatus x_p)), (on, .inr (2, oX2 n_kind n_salt n_pace n_manner n_from n_to n_goal n_reach n_branches n_branch n_tally x_n)), (oc, .inr (0, oX0 c_seen c_sent c_turn c_counter x_c)), (c_seen, .inl (kJ, 96, .inr (.inl f_c_seen))), (si, .inr (7, oX7 on oc si_edgesFrom si_diamondFirst si_diamondLast x_si))] t.heap ∧ va_D (va_A [(op, .inr (10, oX10 ot on dn rd oc d o si w se nb hi p_status oe ih mb p_imageStatus x_p)), (on, .inr (2, oX2 n_kind n_salt n_pace n_manner n_from n_to n_goal n_reach n_branches n_branch n_tally x_n)), (oc, .inr (0, oX0 c_seen c_sent c_turn c_counter x_c)), (c_seen, .inl (kJ, 96, .inr (.inl f_c_seen))), (si, .inr (7, oX7 on oc si_edgesFrom si_diamondFirst si_diamondLast x_si))] sz) [(op, .inr (10, oX10 ot on dn rd oc d o si w se nb hi p_status oe ih mb p_imageStatus x_p)), (on, .inr (2, oX2 n_kind n_salt n_pace n_manner n_from n_to n_goal n_reach n_branches n_branch n_tally x_n)), (oc, .inr (0, oX0 c_seen c_sent c_turn c_counter x_c)), (c_seen, .inl (kJ, 96, .inr (.inl f_c_seen))), (si, .inr (7, oX7 on oc si_edgesFrom si_diamondFirst si_diamondLast x_si))]) (va_A [(op, .inr (10, oX10 ot on dn rd oc d o si w se nb hi p_status oe ih mb p_imageStatus x_p)), (on, .inr (2, oX2 n_kind n_salt n_pace n_manner n_from n_to n_goal n_reach n_branches n_branch n_tally x_n)), (oc, .inr (0, oX0 c_seen c_sent c_turn c_counter x_c)), (c_seen, .inl (kJ, 96, .inr (.inl f_c_seen))), (si, .inr (7, oX7 on oc si_edgesFrom si_diamondFirst si_diamondLast x_si))] sz)) 0 0 (va_A [(op, .inr (10, oX10 ot on dn rd oc d o si w se nb hi p_status oe ih mb p_imageStatus x_p)), (on, .inr (2, oX2 n_kind n_salt n_pace n_manner n_from n_to n_goal n_reach n_branches n_branch n_tally x_n)), (oc, .inr (0, oX0 c_seen c_sent c_turn c_counter x_c)), (c_seen, .inl (kJ, 96, .inr (.inl f_c_seen))), (si, .inr (7, oX7 on oc si_edgesFrom si_diamondFirst si_diamondLast x_si))] sz) := by
  refine Met.ofW (cc := cX10_wasSeen) (maxL := 2) (ret := (some .boolean)) (by decide) rfl ?_
  intro p e s m args0 below meth c s₁ B hml hv
  obtain ⟨hargs, hsz, hP, hE, hD0⟩ := hv
  have hx := B.exec
  have hb := B.bytes
  have hr := B.returns
  have hts := atoms_spec (ws := wsX10_wasSeen) B.pre
  have hown : s.vm.findClass RX10 = some m.cls := findClass_of_methodNamed B.named
  have hlocks := B.notSynchronized
  have hK := hE.1
  have hin10 : ∀ w ∈ wsX100, w ∈ wsX10_wasSeen := fun _ h9 => List.mem_cons_of_mem _ (List.mem_append_left _ (List.mem_append_left _ (List.mem_append_left _ (List.mem_append_right _ h9))))
  have hin2 : ∀ w ∈ wsX20, w ∈ wsX10_wasSeen := fun _ h9 => List.mem_cons_of_mem _ (List.mem_append_left _ (List.mem_append_left _ (List.mem_append_right _ h9)))
  have hin7 : ∀ w ∈ wsX70, w ∈ wsX10_wasSeen := fun _ h9 => List.mem_cons_of_mem _ (List.mem_append_left _ (List.mem_append_right _ h9))
  have hin0 : ∀ w ∈ wsX00, w ∈ wsX10_wasSeen := fun _ h9 => List.mem_cons_of_mem _ (List.mem_append_right _ h9)
  have hw_0 := hts (.fieldLink RX10 19 "PathProber" "told" "LPathProber$Net;") (List.mem_of_getElem? (i := 1) rfl)
  have hw_1 := hts (.fieldLink RX10 57 "PathProber" "sight" "LPathProber$Sight;") (List.mem_of_getElem? (i := 2) rfl)
  subst hsz
  have hD := hD0.self (sz := s.heap.size)
  generalize hAe : va_A [(op, .inr (10, oX10 ot on dn rd oc d o si w se nb hi p_status oe ih mb p_imageStatus x_p)), (on, .inr (2, oX2 n_kind n_salt n_pace n_manner n_from n_to n_goal n_reach n_branches n_branch n_tally x_n)), (oc, .inr (0, oX0 c_seen c_sent c_turn c_counter x_c)), (c_seen, .inl (kJ, 96, .inr (.inl f_c_seen))), (si, .inr (7, oX7 on oc si_edgesFrom si_diamondFirst si_diamondLast x_si))] s.heap.size = A at hD ⊢
  have hA : ∀ q : Nat, s.heap.size ≤ q → A q := fun q h => by rw [← hAe]; exact Or.inr h
  have hS : va_S A s.heap s.heap [] := va_S.rf
  have hP : va_P (dC, dI) vwCl [(op, .inr (10, oX10 ot on dn rd oc d o si w se nb hi p_status oe ih mb p_imageStatus x_p)), (on, .inr (2, oX2 n_kind n_salt n_pace n_manner n_from n_to n_goal n_reach n_branches n_branch n_tally x_n)), (oc, .inr (0, oX0 c_seen c_sent c_turn c_counter x_c)), (c_seen, .inl (kJ, 96, .inr (.inl f_c_seen))), (si, .inr (7, oX7 on oc si_edgesFrom si_diamondFirst si_diamondLast x_si))] s.heap := hP
  have hl := lv_entry ([.ref op, .int p0]) (n := 2) (Nat.le_of_ble_eq_true rfl)
  have hla : entryFrame m args0 2 = entryFrame m ([.ref op, .int p0] : List Value).toArray 2 := by rw [hargs]
  rw [hla, lg_entry_eq]
  generalize (lg_sl ([.ref op, .int p0]) ++ List.replicate (2 - (lg_sl ([.ref op, .int p0])).length) Slot.unset).toArray = ls at hl ⊢
  have hl : lv_has ls 2 [(0, .ref op), (1, .int p0)] := hl
  have hJ30 : ∀ (H : Heap) (locs : List Loc) (ls : Array Slot), (True) → va_P (dC, dI) vwCl [(op, .inr (10, oX10 ot on dn rd oc d o si w se nb hi p_status oe ih mb p_imageStatus x_p)), (on, .inr (2, oX2 n_kind n_salt n_pace n_manner n_from n_to n_goal n_reach n_branches n_branch n_tally x_n)), (oc, .inr (0, oX0 c_seen c_sent c_turn c_counter x_c)), (c_seen, .inl (kJ, 96, .inr (.inl f_c_seen))), (si, .inr (7, oX7 on oc si_edgesFrom si_diamondFirst si_diamondLast x_si))] H → va_D A [(op, .inr (10, oX10 ot on dn rd oc d o si w se nb hi p_status oe ih mb p_imageStatus x_p)), (on, .inr (2, oX2 n_kind n_salt n_pace n_manner n_from n_to n_goal n_reach n_branches n_branch n_tally x_n)), (oc, .inr (0, oX0 c_seen c_sent c_turn c_counter x_c)), (c_seen, .inl (kJ, 96, .inr (.inl f_c_seen))), (si, .inr (7, oX7 on oc si_edgesFrom si_diamondFirst si_diamondLast x_si))] → va_S A s.heap H locs → lv_has ls 2 [(0, .ref op), (1, .int p0)] → W p l e (headSpec wsX10_wasSeen rm_s10_wasSeen).room s m args0 below meth c H locs (0) (0) (MQ below (va_Qi (fun (r : Int32) (_ : Unit) => iv 0 1 r) (fun _ t => va_P (dC, dI) vwCl [(op, .inr (10, oX10 ot on dn rd oc d o si w se nb hi p_status oe ih mb p_imageStatus x_p)), (on, .inr (2, oX2 n_kind n_salt n_pace n_manner n_from n_to n_goal n_reach n_branches n_branch n_tally x_n)), (oc, .inr (0, oX0 c_seen c_sent c_turn c_counter x_c)), (c_seen, .inl (kJ, 96, .inr (.inl f_c_seen))), (si, .inr (7, oX7 on oc si_edgesFrom si_diamondFirst si_diamondLast x_si))] t.heap ∧ va_D A [(op, .inr (10, oX10 ot on dn rd oc d o si w se nb hi p_status oe ih mb p_imageStatus x_p)), (on, .inr (2, oX2 n_kind n_salt n_pace n_manner n_from n_to n_goal n_reach n_branches n_branch n_tally x_n)), (oc, .inr (0, oX0 c_seen c_sent c_turn c_counter x_c)), (c_seen, .inl (kJ, 96, .inr (.inl f_c_seen))), (si, .inr (7, oX7 on oc si_edgesFrom si_diamondFirst si_diamondLast x_si))]) A) args0 s 0 0 A) (F0 m 30 ls []) := by
    intro H locs ls hsw9_30 hP hD hS hl
    refine lv_iconst (v := 0) hx hb dX10_wasSeen_30 ic_0 ?_
    have hP9 := hP
    have hD9 := hD
    exact W.zret (v := 0) (ty := .boolean) hx hb hr rfl (fun t ht hW => ⟨⟨0, (), rfl, (iv_w ivk_0 (by decide) (by decide)), by rw [ht]; exact hP9, hD9⟩, hS.F ht⟩) hS.2.2 dX10_wasSeen_31
  refine lv_aload_n hx hb dX10_wasSeen_0 rfl (lv_at hl 0 rfl) ?_
  refine va_get (D := (dC, dI)) (ci := 10) (v := .ref on) (C := RX10) (T := TX10) (N := 19) hx hb hts hin10 hown hK hP 0 rfl rfl 1 (Nat.le_of_ble_eq_true rfl) hw_0 (fun _ h9 => h9) rfl dX10_wasSeen_1 ?_
  refine lv_iload_n hx hb dX10_wasSeen_4 rfl (lv_at hl 1 rfl) ?_
  obtain ⟨hPc, hDc, hFc, hJn⟩ := cl_a (wc := [(on, .inr (2, oX2 n_kind n_salt n_pace n_manner n_from n_to n_goal n_reach n_branches n_branch n_tally x_n))]) (wr := [(op, .inr (10, oX10 ot on dn rd oc d o si w se nb hi p_status oe ih mb p_imageStatus x_p)), (oc, .inr (0, oX0 c_seen c_sent c_turn c_counter x_c)), (c_seen, .inl (kJ, 96, .inr (.inl f_c_seen))), (si, .inr (7, oX7 on oc si_edgesFrom si_diamondFirst si_diamondLast x_si))]) hP hD hS hA [1] [0, 2, 3, 4] rfl rfl (by decide +kernel)
  refine va_calli (va_runV (As := [.int p0]) (rest := []) ⟨hx, hb, hml, hown, hts⟩ (s2_hasAddress l dC dI kB kI kJ kZ kC kS s.heap.size on n_kind n_salt n_pace n_manner n_from n_to n_goal n_reach n_branches n_branch n_tally x_n p0 (hx_n)) (cwV 1 hts gX10_wasSeen_X2_hasAddress rfl rfl rfl (by decide +kernel) ⟨Nat.le_of_ble_eq_true rfl, Nat.le_of_ble_eq_true rfl⟩) ⟨fun a U g mk q => by obtain ⟨q0, q1, qP, qE, qD⟩ := q; exact ⟨q0, q1, qP, kE_call qE, qD⟩, va_recv hK hP (ci := 2) (q0 := 1) rfl rfl, fun U hU hW => ⟨rfl, by rw [hU], by rw [hU]; exact hPc, kE_warm hW hE, hDc.weaken (fun _ _ _ _ => trivial)⟩⟩ rfl rfl hl.1 rfl (lv_room (Nat.le_of_ble_eq_true rfl)) dX10_wasSeen_5 ⟨Nat.le_of_ble_eq_true rfl, Nat.le_of_ble_eq_true rfl⟩) hS (fun q _ h => hFc q h) hFc (fun r1 u t H locs ht hvm w2 hB hz1 hk1 hS => ?_)
  obtain ⟨hP1, hD1⟩ := hB
  try dsimp only at w2
  obtain ⟨hPa, hDa⟩ := hJn (w1 := [(on, .inr (2, oX2 n_kind n_salt n_pace n_manner n_from n_to n_goal n_reach n_branches n_branch n_tally x_n))]) hk1 ht hP1 hD1
  clear hP hD hPc hDc hFc hJn hP1 hD1 hk1
  have hP : va_P (dC, dI) vwCl [(op, .inr (10, oX10 ot on dn rd oc d o si w se nb hi p_status oe ih mb p_imageStatus x_p)), (oc, .inr (0, oX0 c_seen c_sent c_turn c_counter x_c)), (c_seen, .inl (kJ, 96, .inr (.inl f_c_seen))), (si, .inr (7, oX7 on oc si_edgesFrom si_diamondFirst si_diamondLast x_si)), (on, .inr (2, oX2 n_kind n_salt n_pace n_manner n_from n_to n_goal n_reach n_branches n_branch n_tally x_n))] H := hPa
  have hD : va_D A [(op, .inr (10, oX10 ot on dn rd oc d o si w se nb hi p_status oe ih mb p_imageStatus x_p)), (oc, .inr (0, oX0 c_seen c_sent c_turn c_counter x_c)), (c_seen, .inl (kJ, 96, .inr (.inl f_c_seen))), (si, .inr (7, oX7 on oc si_edgesFrom si_diamondFirst si_diamondLast x_si)), (on, .inr (2, oX2 n_kind n_salt n_pace n_manner n_from n_to n_goal n_reach n_branches n_branch n_tally x_n))] := hDa
  clear hPa hDa
  refine W.widen (k := 0) (n := 0) (Nat.le_of_ble_eq_true rfl) (Nat.le_of_ble_eq_true rfl) ?_
  refine lv_if_eq (tgt := 30) hx hb dX10_wasSeen_8 rfl (fun c3 => ?_) (fun c3 => ?_)
  · have b4 : iv 0 0 r1 := iv_eqL c3 ivk_0
    have hPD9 := cl_s (wc := [(op, .inr (10, oX10 ot on dn rd oc d o si w se nb hi p_status oe ih mb p_imageStatus x_p)), (on, .inr (2, oX2 n_kind n_salt n_pace n_manner n_from n_to n_goal n_reach n_branches n_branch n_tally x_n)), (oc, .inr (0, oX0 c_seen c_sent c_turn c_counter x_c)), (c_seen, .inl (kJ, 96, .inr (.inl f_c_seen))), (si, .inr (7, oX7 on oc si_edgesFrom si_diamondFirst si_diamondLast x_si))]) hP hD [0, 4, 1, 2, 3] rfl (by decide +kernel)
    exact hJ30 _ _ _ ((show True from trivial)) (hPD9.1) (hPD9.2) hS (lv_sub hl [0, 1] rfl)
  · have b5 : iv 1 1 r1 := iv_neLo c3 w2.1 ivk_0 (by decide) (by decide)
    have b6 : iv 0 20 p0 := (w2.2).resolve_left (iv_ne b5 ivk_0 (by decide))
    refine lv_aload_n hx hb dX10_wasSeen_11 rfl (lv_at hl 0 rfl) ?_
    refine va_get (D := (dC, dI)) (ci := 10) (v := .ref si) (C := RX10) (T := TX10) (N := 19) hx hb hts hin10 hown hK hP 0 rfl rfl 7 (Nat.le_of_ble_eq_true rfl) hw_1 (fun _ h9 => h9) rfl dX10_wasSeen_12 ?_
    obtain ⟨hPc, hDc, hFc, hJn⟩ := cl_a (wc := [(si, .inr (7, oX7 on oc si_edgesFrom si_diamondFirst si_diamondLast x_si)), (on, .inr (2, oX2 n_kind n_salt n_pace n_manner n_from n_to n_goal n_reach n_branches n_branch n_tally x_n)), (oc, .inr (0, oX0 c_seen c_sent c_turn c_counter x_c)), (c_seen, .inl (kJ, 96, .inr (.inl f_c_seen)))]) (wr := [(op, .inr (10, oX10 ot on dn rd oc d o si w se nb hi p_status oe ih mb p_imageStatus x_p))]) hP hD hS hA [3, 4, 1, 2] [0] rfl rfl (by decide +kernel)
    refine va_calli (va_runV (As := []) (rest := []) ⟨hx, hb, hml, hown, hts⟩ (s7_addressesEverywhere l dC dI kB kI kJ kZ kC kS H.size si on oc si_edgesFrom si_diamondFirst si_diamondLast x_si n_kind n_salt n_pace n_manner n_from n_to n_goal n_reach n_branches n_branch n_tally x_n c_seen c_sent c_turn c_counter x_c f_c_seen (hx_n) (hf_c_seen)) (cwV 0 hts gX10_wasSeen_X7_addressesEverywhere rfl rfl rfl (by decide +kernel) ⟨Nat.le_of_ble_eq_true rfl, Nat.le_of_ble_eq_true rfl⟩) ⟨fun a U g mk q => by obtain ⟨q0, q1, qP, qE, qD⟩ := q; exact ⟨q0, q1, qP, kE_call qE, qD⟩, va_recv hK hP (ci := 7) (q0 := 3) rfl rfl, fun U hU hW => ⟨rfl, by rw [hU], by rw [hU]; exact hPc, kE_warm hW hE, hDc.weaken (fun _ _ _ _ => trivial)⟩⟩ rfl rfl hl.1 rfl (lv_room (Nat.le_of_ble_eq_true rfl)) dX10_wasSeen_15 ⟨Nat.le_of_ble_eq_true rfl, Nat.le_of_ble_eq_true rfl⟩) hS (fun q _ h => hFc q h) hFc (fun r7 u t H locs ht hvm w8 hB hz1 hk1 hS => ?_)
    obtain ⟨hP1, hD1⟩ := hB
    try dsimp only at w8
    obtain ⟨hPa, hDa⟩ := hJn (w1 := [(si, .inr (7, oX7 on oc si_edgesFrom si_diamondFirst si_diamondLast x_si)), (on, .inr (2, oX2 n_kind n_salt n_pace n_manner n_from n_to n_goal n_reach n_branches n_branch n_tally x_n)), (oc, .inr (0, oX0 c_seen c_sent c_turn c_counter x_c)), (c_seen, .inl (kJ, 96, .inr (.inl f_c_seen)))]) hk1 ht hP1 hD1
    clear hP hD hPc hDc hFc hJn hP1 hD1 hk1
    have hP : va_P (dC, dI) vwCl [(op, .inr (10, oX10 ot on dn rd oc d o si w se nb hi p_status oe ih mb p_imageStatus x_p)), (si, .inr (7, oX7 on oc si_edgesFrom si_diamondFirst si_diamondLast x_si)), (on, .inr (2, oX2 n_kind n_salt n_pace n_manner n_from n_to n_goal n_reach n_branches n_branch n_tally x_n)), (oc, .inr (0, oX0 c_seen c_sent c_turn c_counter x_c)), (c_seen, .inl (kJ, 96, .inr (.inl f_c_seen)))] H := hPa
    have hD : va_D A [(op, .inr (10, oX10 ot on dn rd oc d o si w se nb hi p_status oe ih mb p_imageStatus x_p)), (si, .inr (7, oX7 on oc si_edgesFrom si_diamondFirst si_diamondLast x_si)), (on, .inr (2, oX2 n_kind n_salt n_pace n_manner n_from n_to n_goal n_reach n_branches n_branch n_tally x_n)), (oc, .inr (0, oX0 c_seen c_sent c_turn c_counter x_c)), (c_seen, .inl (kJ, 96, .inr (.inl f_c_seen)))] := hDa
    clear hPa hDa
    refine W.widen (k := 0) (n := 0) (Nat.le_of_ble_eq_true rfl) (Nat.le_of_ble_eq_true rfl) ?_
    refine lv_iload_n hx hb dX10_wasSeen_18 rfl (lv_at hl 1 rfl) ?_
    refine lv_ishr hx hb dX10_wasSeen_19 ?_
    refine lv_topi (fun z9 _ => ?_)
    refine lv_iconst (v := 1) hx hb dX10_wasSeen_20 ic_1 ?_
    refine lv_iand hx hb dX10_wasSeen_21 ?_
    refine iv_top (a := 0) (b := 1) (iv_and (m := 1) (by decide) (by decide) (by decide)) (fun z10 b11 => ?_)
    refine lv_iconst (v := 1) hx hb dX10_wasSeen_22 ic_1 ?_
    refine lv_icmp_ne (tgt := 30) hx hb dX10_wasSeen_23 rfl (fun c12 => ?_) (fun c12 => ?_)
    · have b13 : iv 0 0 z10 := iv_neHi c12 b11 ivk_1 (by decide) (by decide)
      have hPD9 := cl_s (wc := [(op, .inr (10, oX10 ot on dn rd oc d o si w se nb hi p_status oe ih mb p_imageStatus x_p)), (on, .inr (2, oX2 n_kind n_salt n_pace n_manner n_from n_to n_goal n_reach n_branches n_branch n_tally x_n)), (oc, .inr (0, oX0 c_seen c_sent c_turn c_counter x_c)), (c_seen, .inl (kJ, 96, .inr (.inl f_c_seen))), (si, .inr (7, oX7 on oc si_edgesFrom si_diamondFirst si_diamondLast x_si))]) hP hD [0, 2, 3, 4, 1] rfl (by decide +kernel)
      exact hJ30 _ _ _ ((show True from trivial)) (hPD9.1) (hPD9.2) hS (lv_sub hl [0, 1] rfl)
    · have b14 : iv 1 1 z10 := iv_eqL c12 ivk_1
      refine lv_iconst (v := 1) hx hb dX10_wasSeen_26 ic_1 ?_
      refine lv_goto (tgt := 31) hx hb dX10_wasSeen_27 rfl ?_
      have hPD9 := cl_s (wc := [(op, .inr (10, oX10 ot on dn rd oc d o si w se nb hi p_status oe ih mb p_imageStatus x_p)), (on, .inr (2, oX2 n_kind n_salt n_pace n_manner n_from n_to n_goal n_reach n_branches n_branch n_tally x_n)), (oc, .inr (0, oX0 c_seen c_sent c_turn c_counter x_c)), (c_seen, .inl (kJ, 96, .inr (.inl f_c_seen))), (si, .inr (7, oX7 on oc si_edgesFrom si_diamondFirst si_diamondLast x_si))]) hP hD [0, 2, 3, 4, 1] rfl (by decide +kernel)
      have hP9 := hPD9.1
      have hD9 := hPD9.2
      exact W.zret (v := 1) (ty := .boolean) hx hb hr rfl (fun t ht hW => ⟨⟨1, (), rfl, (iv_w ivk_1 (by decide) (by decide)), by rw [ht]; exact hP9, hD9⟩, hS.F ht⟩) hS.2.2 dX10_wasSeen_31
def rm_s10_refuseAct : Room := { frames := 0, cells := 0, slots := 0, locals := 0 }
set_option maxHeartbeats 4000000 in
set_option maxRecDepth 100000 in
theorem s10_refuseAct (l : Launch) (dC : Nat → ClassId) (dI : Nat → Nat → Nat) (kB kI kJ kZ kC kS : ClassId) (sz : Nat) (op : Nat) (ot : Nat) (on : Nat) (dn : Nat) (rd : Nat) (oc : Nat) (d : Nat) (o : Nat) (si : Nat) (w : Nat) (se : Nat) (nb : Nat) (hi : Nat) (p_status : Nat) (oe : Nat) (ih : Nat) (mb : Nat) (p_imageStatus : Nat) (x_p : Nat → Int32) (f_p_status : Nat → Int32) : Met l yX10_refuseAct wsX10_refuseAct rm_s10_refuseAct (va_Pc [.ref op] (fun U => U.heap.size = sz ∧ va_P (dC, dI) vwCl [(op, .inr (10, oX10 ot on dn rd oc d o si w se nb hi p_status oe ih mb p_imageStatus x_p)), (p_status, .inl (kI, 3, .inl f_p_status))] U.heap ∧ kE dC dI kB kI kJ kZ kC kS U ∧ va_D (fun _ => True) [(op, .inr (10, oX10 ot on dn rd oc d o si w se nb hi p_status oe ih mb p_imageStatus x_p)), (p_status, .inl (kI, 3, .inl f_p_status))])) (va_Qi (fun (r : Int32) (_ : Unit) => iv (-1) (-1) r) (fun _ t => ∃ (f_p_status' : Nat → Int32), va_P (dC, dI) vwCl [(op, .inr (10, oX10 ot on dn rd oc d o si w se nb hi p_status oe ih mb p_imageStatus x_p)), (p_status, .inl (kI, 3, .inl f_p_status'))] t.heap ∧ va_D (va_A [(op, .inr (10, oX10 ot on dn rd oc d o si w se nb hi p_status oe ih mb p_imageStatus x_p)), (p_status, .inl (kI, 3, .inl f_p_status))] sz) [(op, .inr (10, oX10 ot on dn rd oc d o si w se nb hi p_status oe ih mb p_imageStatus x_p)), (p_status, .inl (kI, 3, .inl f_p_status'))]) (va_A [(op, .inr (10, oX10 ot on dn rd oc d o si w se nb hi p_status oe ih mb p_imageStatus x_p)), (p_status, .inl (kI, 3, .inl f_p_status))] sz)) 0 0 (va_A [(op, .inr (10, oX10 ot on dn rd oc d o si w se nb hi p_status oe ih mb p_imageStatus x_p)), (p_status, .inl (kI, 3, .inl f_p_status))] sz) := by
  refine Met.ofW (cc := cX10_refuseAct) (maxL := 1) (ret := (some .int)) (by decide) rfl ?_
  intro p e s m args0 below meth c s₁ B hml hv
  obtain ⟨hargs, hsz, hP, hE, hD0⟩ := hv
  have hx := B.exec
  have hb := B.bytes
  have hr := B.returns
  have hts := atoms_spec (ws := wsX10_refuseAct) B.pre
  have hown : s.vm.findClass RX10 = some m.cls := findClass_of_methodNamed B.named
  have hlocks := B.notSynchronized
  have hK := hE.1
  have hin10 : ∀ w ∈ wsX100, w ∈ wsX10_refuseAct := fun _ h9 => List.mem_cons_of_mem _ (List.mem_append_right _ h9)
  have hw_0 := hts (.fieldLink RX10 93 "PathProber" "status" "[I") (List.mem_of_getElem? (i := 1) rfl)
  subst hsz
  have hD := hD0.self (sz := s.heap.size)
  generalize hAe : va_A [(op, .inr (10, oX10 ot on dn rd oc d o si w se nb hi p_status oe ih mb p_imageStatus x_p)), (p_status, .inl (kI, 3, .inl f_p_status))] s.heap.size = A at hD ⊢
  have hA : ∀ q : Nat, s.heap.size ≤ q → A q := fun q h => by rw [← hAe]; exact Or.inr h
  have hS : va_S A s.heap s.heap [] := va_S.rf
  have hP : va_P (dC, dI) vwCl [(op, .inr (10, oX10 ot on dn rd oc d o si w se nb hi p_status oe ih mb p_imageStatus x_p)), (p_status, .inl (kI, 3, .inl f_p_status))] s.heap := hP
  have hl := lv_entry ([.ref op]) (n := 1) (Nat.le_of_ble_eq_true rfl)
  have hla : entryFrame m args0 1 = entryFrame m ([.ref op] : List Value).toArray 1 := by rw [hargs]
  rw [hla, lg_entry_eq]
  generalize (lg_sl ([.ref op]) ++ List.replicate (1 - (lg_sl ([.ref op])).length) Slot.unset).toArray = ls at hl ⊢
  have hl : lv_has ls 1 [(0, .ref op)] := hl
  refine lv_aload_n hx hb dX10_refuseAct_0 rfl (lv_at hl 0 rfl) ?_
  refine va_get (D := (dC, dI)) (ci := 10) (v := .ref p_status) (C := RX10) (T := TX10) (N := 19) hx hb hts hin10 hown hK hP 0 rfl rfl 12 (Nat.le_of_ble_eq_true rfl) hw_0 (fun _ h9 => h9) rfl dX10_refuseAct_1 ?_
  refine lv_iconst (v := 1) hx hb dX10_refuseAct_4 ic_1 ?_
  refine lv_dup2_11 hx hb dX10_refuseAct_5 rfl rfl ?_
  refine va_iald hx hb hK hP 1 1 rfl rfl (vp_in_nI (n := 1) (by decide) (by decide)) dX10_refuseAct_6 ?_
  refine W.eq (g2 := F0 m 7 ls [.int (f_p_status 1), .int 1, .ref p_status]) rfl ?_
  refine lv_iconst (v := 1) hx hb dX10_refuseAct_7 ic_1 ?_
  refine lv_iadd hx hb dX10_refuseAct_8 ?_
  refine lv_topi (fun z1 _ => ?_)
  refine va_iast hx hb hK hP hD hS 1 1 rfl rfl (vp_in_nI (n := 1) (by decide) (by decide)) dX10_refuseAct_9 (fun H locs hPa hDa hS => ?_)
  clear hP hD
  have hP : va_P (dC, dI) vwCl [(op, .inr (10, oX10 ot on dn rd oc d o si w se nb hi p_status oe ih mb p_imageStatus x_p)), (p_status, .inl (kI, 3, .inl (upd f_p_status 1 z1)))] H := hPa
  have hD : va_D A [(op, .inr (10, oX10 ot on dn rd oc d o si w se nb hi p_status oe ih mb p_imageStatus x_p)), (p_status, .inl (kI, 3, .inl (upd f_p_status 1 z1)))] := hDa
  clear hPa hDa
  generalize (upd f_p_status 1 z1) = f2 at hP hD
  refine lv_iconst (v := (-1)) hx hb dX10_refuseAct_10 ic_m1 ?_
  have hP9 := hP
  have hD9 := hD
  exact W.iret (v := (-1)) hx hb hr (fun t ht hW => ⟨⟨(-1), (), rfl, ivk_m1, f2, by rw [ht]; exact hP9, hD9⟩, hS.F ht⟩) hS.2.2 dX10_refuseAct_11
def rm_s10_goesBy : Room := { frames := 4, cells := 0, slots := 0, locals := 97 }
set_option maxHeartbeats 4000000 in
set_option maxRecDepth 100000 in
theorem s10_goesBy (l : Launch) (dC : Nat → ClassId) (dI : Nat → Nat → Nat) (kB kI kJ kZ kC kS : ClassId) (sz : Nat) (op : Nat) (ot : Nat) (on : Nat) (dn : Nat) (rd : Nat) (oc : Nat) (d : Nat) (o : Nat) (si : Nat) (w : Nat) (se : Nat) (nb : Nat) (hi : Nat) (p_status : Nat) (oe : Nat) (ih : Nat) (mb : Nat) (p_imageStatus : Nat) (x_p : Nat → Int32) (n_kind : Nat) (n_salt : Nat) (n_pace : Nat) (n_manner : Nat) (n_from : Nat) (n_to : Nat) (n_goal : Nat) (n_reach : Nat) (n_branches : Nat) (n_branch : Nat) (n_tally : Nat) (x_n : Nat → Int32) (f_n_kind : Nat → Int32) (f_n_salt : Nat → Int32) (f_n_manner : Nat → Int32) (f_n_to : Nat → Int32) (f_n_goal : Nat → Int32) (f_n_branches : Nat → Int32) (f_n_branch : Nat → Int32) (c_seen : Nat) (c_sent : Nat) (c_turn : Nat) (c_counter : Nat) (x_c : Nat → Int32) (f_c_turn : Nat → Int32) (x_w : Nat → Int32) (p0 : Int32) (p1 : Int32) (p2 : Int32) (hx_n : fI lX2 hX2 x_n) (hf_n_salt : fI (fun _ => 0) (fun _ => 15) f_n_salt) (hf_n_to : fI (fun _ => 0) (fun _ => 11) f_n_to) (hf_n_goal : fI (fun _ => 0) (fun _ => 11) f_n_goal) (hf_n_branches : fI (fun _ => 0) (fun _ => 4) f_n_branches) (hf_n_branch : fI (fun _ => 0) (fun _ => 19) f_n_branch) (hf_c_turn : fI (fun _ => 0) (fun _ => 59) f_c_turn) (hx_w : fI lX9 hX9 x_w) (hp0 : iv 0 31 p0) (hp1 : iv 0 2 p1) : Met l yX10_goesBy wsX10_goesBy rm_s10_goesBy (va_Pc [.ref op, .int p0, .int p1, .int p2] (fun U => U.heap.size = sz ∧ va_P (dC, dI) vwCl [(op, .inr (10, oX10 ot on dn rd oc d o si w se nb hi p_status oe ih mb p_imageStatus x_p)), (on, .inr (2, oX2 n_kind n_salt n_pace n_manner n_from n_to n_goal n_reach n_branches n_branch n_tally x_n)), (n_kind, .inl (kI, 12, .inl f_n_kind)), (n_salt, .inl (kI, 12, .inl f_n_salt)), (n_manner, .inl (kI, 12, .inl f_n_manner)), (n_to, .inl (kI, 20, .inl f_n_to)), (n_goal, .inl (kI, 3, .inl f_n_goal)), (n_branches, .inl (kI, 36, .inl f_n_branches)), (n_branch, .inl (kI, 144, .inl f_n_branch)), (oc, .inr (0, oX0 c_seen c_sent c_turn c_counter x_c)), (c_turn, .inl (kI, 12, .inl f_c_turn)), (w, .inr (9, oX9 on oc x_w))] U.heap ∧ kE dC dI kB kI kJ kZ kC kS U ∧ va_D (fun _ => True) [(op, .inr (10, oX10 ot on dn rd oc d o si w se nb hi p_status oe ih mb p_imageStatus x_p)), (on, .inr (2, oX2 n_kind n_salt n_pace n_manner n_from n_to n_goal n_reach n_branches n_branch n_tally x_n)), (n_kind, .inl (kI, 12, .inl f_n_kind)), (n_salt, .inl (kI, 12, .inl f_n_salt)), (n_manner, .inl (kI, 12, .inl f_n_manner)), (n_to, .inl (kI, 20, .inl f_n_to)), (n_goal, .inl (kI, 3, .inl f_n_goal)), (n_branches, .inl (kI, 36, .inl f_n_branches)), (n_branch, .inl (kI, 144, .inl f_n_branch)), (oc, .inr (0, oX0 c_seen c_sent c_turn c_counter x_c)), (c_turn, .inl (kI, 12, .inl f_c_turn)), (w, .inr (9, oX9 on oc x_w))])) (va_Qi (fun (r : Int32) (_ : Unit) => iv 0 1 r) (fun _ t => ∃ (x_w' : Nat → Int32), fI lX9 hX9 x_w' ∧ (x_w' 0 = x_w 0) ∧ va_P (dC, dI) vwCl [(op, .inr (10, oX10 ot on dn rd oc d o si w se nb hi p_status oe ih mb p_imageStatus x_p)), (on, .inr (2, oX2 n_kind n_salt n_pace n_manner n_from n_to n_goal n_reach n_branches n_branch n_tally x_n)), (n_kind, .inl (kI, 12, .inl f_n_kind)), (n_salt, .inl (kI, 12, .inl f_n_salt)), (n_manner, .inl (kI, 12, .inl f_n_manner)), (n_to, .inl (kI, 20, .inl f_n_to)), (n_goal, .inl (kI, 3, .inl f_n_goal)), (n_branches, .inl (kI, 36, .inl f_n_branches)), (n_branch, .inl (kI, 144, .inl f_n_branch)), (oc, .inr (0, oX0 c_seen c_sent c_turn c_counter x_c)), (c_turn, .inl (kI, 12, .inl f_c_turn)), (w, .inr (9, oX9 on oc x_w'))] t.heap ∧ va_D (va_A [(op, .inr (10, oX10 ot on dn rd oc d o si w se nb hi p_status oe ih mb p_imageStatus x_p)), (on, .inr (2, oX2 n_kind n_salt n_pace n_manner n_from n_to n_goal n_reach n_branches n_branch n_tally x_n)), (n_kind, .inl (kI, 12, .inl f_n_kind)), (n_salt, .inl (kI, 12, .inl f_n_salt)), (n_manner, .inl (kI, 12, .inl f_n_manner)), (n_to, .inl (kI, 20, .inl f_n_to)), (n_goal, .inl (kI, 3, .inl f_n_goal)), (n_branches, .inl (kI, 36, .inl f_n_branches)), (n_branch, .inl (kI, 144, .inl f_n_branch)), (oc, .inr (0, oX0 c_seen c_sent c_turn c_counter x_c)), (c_turn, .inl (kI, 12, .inl f_c_turn)), (w, .inr (9, oX9 on oc x_w))] sz) [(op, .inr (10, oX10 ot on dn rd oc d o si w se nb hi p_status oe ih mb p_imageStatus x_p)), (on, .inr (2, oX2 n_kind n_salt n_pace n_manner n_from n_to n_goal n_reach n_branches n_branch n_tally x_n)), (n_kind, .inl (kI, 12, .inl f_n_kind)), (n_salt, .inl (kI, 12, .inl f_n_salt)), (n_manner, .inl (kI, 12, .inl f_n_manner)), (n_to, .inl (kI, 20, .inl f_n_to)), (n_goal, .inl (kI, 3, .inl f_n_goal)), (n_branches, .inl (kI, 36, .inl f_n_branches)), (n_branch, .inl (kI, 144, .inl f_n_branch)), (oc, .inr (0, oX0 c_seen c_sent c_turn c_counter x_c)), (c_turn, .inl (kI, 12, .inl f_c_turn)), (w, .inr (9, oX9 on oc x_w'))]) (va_A [(op, .inr (10, oX10 ot on dn rd oc d o si w se nb hi p_status oe ih mb p_imageStatus x_p)), (on, .inr (2, oX2 n_kind n_salt n_pace n_manner n_from n_to n_goal n_reach n_branches n_branch n_tally x_n)), (n_kind, .inl (kI, 12, .inl f_n_kind)), (n_salt, .inl (kI, 12, .inl f_n_salt)), (n_manner, .inl (kI, 12, .inl f_n_manner)), (n_to, .inl (kI, 20, .inl f_n_to)), (n_goal, .inl (kI, 3, .inl f_n_goal)), (n_branches, .inl (kI, 36, .inl f_n_branches)), (n_branch, .inl (kI, 144, .inl f_n_branch)), (oc, .inr (0, oX0 c_seen c_sent c_turn c_counter x_c)), (c_turn, .inl (kI, 12, .inl f_c_turn)), (w, .inr (9, oX9 on oc x_w))] sz)) 0 0 (va_A [(op, .inr (10, oX10 ot on dn rd oc d o si w se nb hi p_status oe ih mb p_imageStatus x_p)), (on, .inr (2, oX2 n_kind n_salt n_pace n_manner n_from n_to n_goal n_reach n_branches n_branch n_tally x_n)), (n_kind, .inl (kI, 12, .inl f_n_kind)), (n_salt, .inl (kI, 12, .inl f_n_salt)), (n_manner, .inl (kI, 12, .inl f_n_manner)), (n_to, .inl (kI, 20, .inl f_n_to)), (n_goal, .inl (kI, 3, .inl f_n_goal)), (n_branches, .inl (kI, 36, .inl f_n_branches)), (n_branch, .inl (kI, 144, .inl f_n_branch)), (oc, .inr (0, oX0 c_seen c_sent c_turn c_counter x_c)), (c_turn, .inl (kI, 12, .inl f_c_turn)), (w, .inr (9, oX9 on oc x_w))] sz) := by
  refine Met.ofW (cc := cX10_goesBy) (maxL := 4) (ret := (some .boolean)) (by decide) rfl ?_
  intro p e s m args0 below meth c s₁ B hml hv
  obtain ⟨hargs, hsz, hP, hE, hD0⟩ := hv
  have hx := B.exec
  have hb := B.bytes
  have hr := B.returns
  have hts := atoms_spec (ws := wsX10_goesBy) B.pre
  have hown : s.vm.findClass RX10 = some m.cls := findClass_of_methodNamed B.named
  have hlocks := B.notSynchronized
  have hK := hE.1
  have hin10 : ∀ w ∈ wsX100, w ∈ wsX10_goesBy := fun _ h9 => List.mem_cons_of_mem _ (List.mem_append_left _ (List.mem_append_left _ (List.mem_append_left _ (List.mem_append_right _ h9))))
  have hin9 : ∀ w ∈ wsX90, w ∈ wsX10_goesBy := fun _ h9 => List.mem_cons_of_mem _ (List.mem_append_left _ (List.mem_append_left _ (List.mem_append_right _ h9)))
  have hin2 : ∀ w ∈ wsX20, w ∈ wsX10_goesBy := fun _ h9 => List.mem_cons_of_mem _ (List.mem_append_left _ (List.mem_append_right _ h9))
  have hin0 : ∀ w ∈ wsX00, w ∈ wsX10_goesBy := fun _ h9 => List.mem_cons_of_mem _ (List.mem_append_right _ h9)
  have hw_0 := hts (.fieldLink RX10 64 "PathProber" "walk" "LPathProber$Walk;") (List.mem_of_getElem? (i := 1) rfl)
  have hw_1 := hts (.fieldLink RX10 346 "PathProber$Walk" "links" "I") (List.mem_of_getElem? (i := 2) rfl)
  subst hsz
  have hD := hD0.self (sz := s.heap.size)
  generalize hAe : va_A [(op, .inr (10, oX10 ot on dn rd oc d o si w se nb hi p_status oe ih mb p_imageStatus x_p)), (on, .inr (2, oX2 n_kind n_salt n_pace n_manner n_from n_to n_goal n_reach n_branches n_branch n_tally x_n)), (n_kind, .inl (kI, 12, .inl f_n_kind)), (n_salt, .inl (kI, 12, .inl f_n_salt)), (n_manner, .inl (kI, 12, .inl f_n_manner)), (n_to, .inl (kI, 20, .inl f_n_to)), (n_goal, .inl (kI, 3, .inl f_n_goal)), (n_branches, .inl (kI, 36, .inl f_n_branches)), (n_branch, .inl (kI, 144, .inl f_n_branch)), (oc, .inr (0, oX0 c_seen c_sent c_turn c_counter x_c)), (c_turn, .inl (kI, 12, .inl f_c_turn)), (w, .inr (9, oX9 on oc x_w))] s.heap.size = A at hD ⊢
  have hA : ∀ q : Nat, s.heap.size ≤ q → A q := fun q h => by rw [← hAe]; exact Or.inr h
  have hS : va_S A s.heap s.heap [] := va_S.rf
  have hP : va_P (dC, dI) vwCl [(op, .inr (10, oX10 ot on dn rd oc d o si w se nb hi p_status oe ih mb p_imageStatus x_p)), (on, .inr (2, oX2 n_kind n_salt n_pace n_manner n_from n_to n_goal n_reach n_branches n_branch n_tally x_n)), (n_kind, .inl (kI, 12, .inl f_n_kind)), (n_salt, .inl (kI, 12, .inl f_n_salt)), (n_manner, .inl (kI, 12, .inl f_n_manner)), (n_to, .inl (kI, 20, .inl f_n_to)), (n_goal, .inl (kI, 3, .inl f_n_goal)), (n_branches, .inl (kI, 36, .inl f_n_branches)), (n_branch, .inl (kI, 144, .inl f_n_branch)), (oc, .inr (0, oX0 c_seen c_sent c_turn c_counter x_c)), (c_turn, .inl (kI, 12, .inl f_c_turn)), (w, .inr (9, oX9 on oc x_w))] s.heap := hP
  have hl := lv_entry ([.ref op, .int p0, .int p1, .int p2]) (n := 4) (Nat.le_of_ble_eq_true rfl)
  have hla : entryFrame m args0 4 = entryFrame m ([.ref op, .int p0, .int p1, .int p2] : List Value).toArray 4 := by rw [hargs]
  rw [hla, lg_entry_eq]
  generalize (lg_sl ([.ref op, .int p0, .int p1, .int p2]) ++ List.replicate (4 - (lg_sl ([.ref op, .int p0, .int p1, .int p2])).length) Slot.unset).toArray = ls at hl ⊢
  have hl : lv_has ls 4 [(0, .ref op), (1, .int p0), (2, .int p1), (3, .int p2)] := hl
  refine lv_aload_n hx hb dX10_goesBy_0 rfl (lv_at hl 0 rfl) ?_
  refine va_get (D := (dC, dI)) (ci := 10) (v := .ref w) (C := RX10) (T := TX10) (N := 19) hx hb hts hin10 hown hK hP 0 rfl rfl 8 (Nat.le_of_ble_eq_true rfl) hw_0 (fun _ h9 => h9) rfl dX10_goesBy_1 ?_
  refine lv_iload_n hx hb dX10_goesBy_4 rfl (lv_at hl 1 rfl) ?_
  refine lv_iload_n hx hb dX10_goesBy_5 rfl (lv_at hl 2 rfl) ?_
  obtain ⟨hPc, hDc, hFc, hJn⟩ := cl_a (wc := [(w, .inr (9, oX9 on oc x_w)), (on, .inr (2, oX2 n_kind n_salt n_pace n_manner n_from n_to n_goal n_reach n_branches n_branch n_tally x_n)), (n_kind, .inl (kI, 12, .inl f_n_kind)), (n_salt, .inl (kI, 12, .inl f_n_salt)), (n_manner, .inl (kI, 12, .inl f_n_manner)), (n_to, .inl (kI, 20, .inl f_n_to)), (n_goal, .inl (kI, 3, .inl f_n_goal)), (n_branches, .inl (kI, 36, .inl f_n_branches)), (n_branch, .inl (kI, 144, .inl f_n_branch)), (oc, .inr (0, oX0 c_seen c_sent c_turn c_counter x_c)), (c_turn, .inl (kI, 12, .inl f_c_turn))]) (wr := [(op, .inr (10, oX10 ot on dn rd oc d o si w se nb hi p_status oe ih mb p_imageStatus x_p))]) hP hD hS hA [11, 1, 2, 3, 4, 5, 6, 7, 8, 9, 10] [0] rfl rfl (by decide +kernel)
  refine va_callv (va_runV (As := [.int p0, .int p1]) (rest := []) ⟨hx, hb, hml, hown, hts⟩ (s9_takeAll l dC dI kB kI kJ kZ kC kS s.heap.size w on oc x_w n_kind n_salt n_pace n_manner n_from n_to n_goal n_reach n_branches n_branch n_tally x_n f_n_kind f_n_salt f_n_manner f_n_to f_n_goal f_n_branches f_n_branch c_seen c_sent c_turn c_counter x_c f_c_turn p0 p1 (hx_w) (hx_n) (hf_n_salt) (hf_n_to) (hf_n_goal) (hf_n_branches) (hf_n_branch) (hf_c_turn) (hp0) (hp1)) (cwV 2 hts gX10_goesBy_X9_takeAll rfl rfl rfl (by decide +kernel) ⟨Nat.le_of_ble_eq_true rfl, Nat.le_of_ble_eq_true rfl⟩) ⟨fun a U g mk q => by obtain ⟨q0, q1, qP, qE, qD⟩ := q; exact ⟨q0, q1, qP, kE_call qE, qD⟩, va_recv hK hP (ci := 9) (q0 := 11) rfl rfl, fun U hU hW => ⟨rfl, by rw [hU], by rw [hU]; exact hPc, kE_warm hW hE, hDc.weaken (fun _ _ _ _ => trivial)⟩⟩ rfl rfl hl.1 rfl (lv_room (Nat.le_of_ble_eq_true rfl)) dX10_goesBy_6 ⟨Nat.le_of_ble_eq_true rfl, Nat.le_of_ble_eq_true rfl⟩) hS (fun q _ h => hFc q h) hFc (fun u t H locs ht hvm w2 hB hz1 hk1 hS => ?_)
  obtain ⟨y3, hq4, hq5, hP1, hD1⟩ := hB
  try dsimp only at w2
  obtain ⟨hPa, hDa⟩ := hJn (w1 := [(w, .inr (9, oX9 on oc y3)), (on, .inr (2, oX2 n_kind n_salt n_pace n_manner n_from n_to n_goal n_reach n_branches n_branch n_tally x_n)), (n_kind, .inl (kI, 12, .inl f_n_kind)), (n_salt, .inl (kI, 12, .inl f_n_salt)), (n_manner, .inl (kI, 12, .inl f_n_manner)), (n_to, .inl (kI, 20, .inl f_n_to)), (n_goal, .inl (kI, 3, .inl f_n_goal)), (n_branches, .inl (kI, 36, .inl f_n_branches)), (n_branch, .inl (kI, 144, .inl f_n_branch)), (oc, .inr (0, oX0 c_seen c_sent c_turn c_counter x_c)), (c_turn, .inl (kI, 12, .inl f_c_turn))]) hk1 ht hP1 hD1
  clear hP hD hPc hDc hFc hJn hP1 hD1 hk1
  have hP : va_P (dC, dI) vwCl [(op, .inr (10, oX10 ot on dn rd oc d o si w se nb hi p_status oe ih mb p_imageStatus x_p)), (w, .inr (9, oX9 on oc y3)), (on, .inr (2, oX2 n_kind n_salt n_pace n_manner n_from n_to n_goal n_reach n_branches n_branch n_tally x_n)), (n_kind, .inl (kI, 12, .inl f_n_kind)), (n_salt, .inl (kI, 12, .inl f_n_salt)), (n_manner, .inl (kI, 12, .inl f_n_manner)), (n_to, .inl (kI, 20, .inl f_n_to)), (n_goal, .inl (kI, 3, .inl f_n_goal)), (n_branches, .inl (kI, 36, .inl f_n_branches)), (n_branch, .inl (kI, 144, .inl f_n_branch)), (oc, .inr (0, oX0 c_seen c_sent c_turn c_counter x_c)), (c_turn, .inl (kI, 12, .inl f_c_turn))] H := hPa
  have hD : va_D A [(op, .inr (10, oX10 ot on dn rd oc d o si w se nb hi p_status oe ih mb p_imageStatus x_p)), (w, .inr (9, oX9 on oc y3)), (on, .inr (2, oX2 n_kind n_salt n_pace n_manner n_from n_to n_goal n_reach n_branches n_branch n_tally x_n)), (n_kind, .inl (kI, 12, .inl f_n_kind)), (n_salt, .inl (kI, 12, .inl f_n_salt)), (n_manner, .inl (kI, 12, .inl f_n_manner)), (n_to, .inl (kI, 20, .inl f_n_to)), (n_goal, .inl (kI, 3, .inl f_n_goal)), (n_branches, .inl (kI, 36, .inl f_n_branches)), (n_branch, .inl (kI, 144, .inl f_n_branch)), (oc, .inr (0, oX0 c_seen c_sent c_turn c_counter x_c)), (c_turn, .inl (kI, 12, .inl f_c_turn))] := hDa
  clear hPa hDa
  refine W.widen (k := 0) (n := 0) (Nat.le_of_ble_eq_true rfl) (Nat.le_of_ble_eq_true rfl) ?_
  refine lv_aload_n hx hb dX10_goesBy_9 rfl (lv_at hl 0 rfl) ?_
  refine va_get (D := (dC, dI)) (ci := 10) (v := .ref w) (C := RX10) (T := TX10) (N := 19) hx hb hts hin10 hown hK hP 0 rfl rfl 8 (Nat.le_of_ble_eq_true rfl) hw_0 (fun _ h9 => h9) rfl dX10_goesBy_10 ?_
  refine va_get (D := (dC, dI)) (ci := 9) (v := .int (y3 6)) (C := RX9) (T := TX9) (N := 10) hx hb hts hin9 hown hK hP 1 rfl rfl 8 (Nat.le_of_ble_eq_true rfl) hw_1 (fun _ h9 => h9) rfl dX10_goesBy_13 ?_
  refine lv_iload_n hx hb dX10_goesBy_16 rfl (lv_at hl 3 rfl) ?_
  refine lv_ishr hx hb dX10_goesBy_17 ?_
  refine lv_topi (fun z6 _ => ?_)
  refine lv_iconst (v := 1) hx hb dX10_goesBy_18 ic_1 ?_
  refine lv_iand hx hb dX10_goesBy_19 ?_
  refine iv_top (a := 0) (b := 1) (iv_and (m := 1) (by decide) (by decide) (by decide)) (fun z7 b8 => ?_)
  refine lv_iconst (v := 1) hx hb dX10_goesBy_20 ic_1 ?_
  refine lv_icmp_ne (tgt := 28) hx hb dX10_goesBy_21 rfl (fun c9 => ?_) (fun c9 => ?_)
  · have b10 : iv 0 0 z7 := iv_neHi c9 b8 ivk_1 (by decide) (by decide)
    refine lv_iconst (v := 0) hx hb dX10_goesBy_28 ic_0 ?_
    have hPD9 := cl_s (wc := [(op, .inr (10, oX10 ot on dn rd oc d o si w se nb hi p_status oe ih mb p_imageStatus x_p)), (on, .inr (2, oX2 n_kind n_salt n_pace n_manner n_from n_to n_goal n_reach n_branches n_branch n_tally x_n)), (n_kind, .inl (kI, 12, .inl f_n_kind)), (n_salt, .inl (kI, 12, .inl f_n_salt)), (n_manner, .inl (kI, 12, .inl f_n_manner)), (n_to, .inl (kI, 20, .inl f_n_to)), (n_goal, .inl (kI, 3, .inl f_n_goal)), (n_branches, .inl (kI, 36, .inl f_n_branches)), (n_branch, .inl (kI, 144, .inl f_n_branch)), (oc, .inr (0, oX0 c_seen c_sent c_turn c_counter x_c)), (c_turn, .inl (kI, 12, .inl f_c_turn)), (w, .inr (9, oX9 on oc y3))]) hP hD [0, 2, 3, 4, 5, 6, 7, 8, 9, 10, 11, 1] rfl (by decide +kernel)
    have hP9 := hPD9.1
    have hD9 := hPD9.2
    exact W.zret (v := 0) (ty := .boolean) hx hb hr rfl (fun t ht hW => ⟨⟨0, (), rfl, (iv_w ivk_0 (by decide) (by decide)), y3, hq4, (show y3 0 = x_w 0 from hq5), by rw [ht]; exact hP9, hD9⟩, hS.F ht⟩) hS.2.2 dX10_goesBy_29
  · have b11 : iv 1 1 z7 := iv_eqL c9 ivk_1
    refine lv_iconst (v := 1) hx hb dX10_goesBy_24 ic_1 ?_
    refine lv_goto (tgt := 29) hx hb dX10_goesBy_25 rfl ?_
    have hPD9 := cl_s (wc := [(op, .inr (10, oX10 ot on dn rd oc d o si w se nb hi p_status oe ih mb p_imageStatus x_p)), (on, .inr (2, oX2 n_kind n_salt n_pace n_manner n_from n_to n_goal n_reach n_branches n_branch n_tally x_n)), (n_kind, .inl (kI, 12, .inl f_n_kind)), (n_salt, .inl (kI, 12, .inl f_n_salt)), (n_manner, .inl (kI, 12, .inl f_n_manner)), (n_to, .inl (kI, 20, .inl f_n_to)), (n_goal, .inl (kI, 3, .inl f_n_goal)), (n_branches, .inl (kI, 36, .inl f_n_branches)), (n_branch, .inl (kI, 144, .inl f_n_branch)), (oc, .inr (0, oX0 c_seen c_sent c_turn c_counter x_c)), (c_turn, .inl (kI, 12, .inl f_c_turn)), (w, .inr (9, oX9 on oc y3))]) hP hD [0, 2, 3, 4, 5, 6, 7, 8, 9, 10, 11, 1] rfl (by decide +kernel)
    have hP9 := hPD9.1
    have hD9 := hPD9.2
    exact W.zret (v := 1) (ty := .boolean) hx hb hr rfl (fun t ht hW => ⟨⟨1, (), rfl, (iv_w ivk_1 (by decide) (by decide)), y3, hq4, (show y3 0 = x_w 0 from hq5), by rw [ht]; exact hP9, hD9⟩, hS.F ht⟩) hS.2.2 dX10_goesBy_29
