def rm_s9_takeAll : Room := { frames := 3, cells := 0, slots := 0, locals := 75 }
set_option maxHeartbeats 4000000 in
set_option maxRecDepth 100000 in
theorem s9_takeAll (l : Launch) (dC : Nat → ClassId) (dI : Nat → Nat → Nat) (kB kI kJ kZ kC kS : ClassId) (sz : Nat) (w : Nat) (on : Nat) (oc : Nat) (x_w : Nat → Int32) (n_kind : Nat) (n_salt : Nat) (n_pace : Nat) (n_manner : Nat) (n_from : Nat) (n_to : Nat) (n_goal : Nat) (n_reach : Nat) (n_branches : Nat) (n_branch : Nat) (n_tally : Nat) (x_n : Nat → Int32) (f_n_kind : Nat → Int32) (f_n_salt : Nat → Int32) (f_n_manner : Nat → Int32) (f_n_to : Nat → Int32) (f_n_goal : Nat → Int32) (f_n_branches : Nat → Int32) (f_n_branch : Nat → Int32) (c_seen : Nat) (c_sent : Nat) (c_turn : Nat) (c_counter : Nat) (x_c : Nat → Int32) (f_c_turn : Nat → Int32) (p0 : Int32) (p1 : Int32) (hx_w : fI lX9 hX9 x_w) (hx_n : fI lX2 hX2 x_n) (hf_n_salt : fI (fun _ => 0) (fun _ => 15) f_n_salt) (hf_n_to : fI (fun _ => 0) (fun _ => 11) f_n_to) (hf_n_goal : fI (fun _ => 0) (fun _ => 11) f_n_goal) (hf_n_branches : fI (fun _ => 0) (fun _ => 4) f_n_branches) (hf_n_branch : fI (fun _ => 0) (fun _ => 19) f_n_branch) (hf_c_turn : fI (fun _ => 0) (fun _ => 59) f_c_turn) (hp0 : iv 0 31 p0) (hp1 : iv 0 2 p1) : Met l yX9_takeAll wsX9_takeAll rm_s9_takeAll (va_Pc [.ref w, .int p0, .int p1] (fun U => U.heap.size = sz ∧ va_P (dC, dI) vwCl [(w, .inr (9, oX9 on oc x_w)), (on, .inr (2, oX2 n_kind n_salt n_pace n_manner n_from n_to n_goal n_reach n_branches n_branch n_tally x_n)), (n_kind, .inl (kI, 12, .inl f_n_kind)), (n_salt, .inl (kI, 12, .inl f_n_salt)), (n_manner, .inl (kI, 12, .inl f_n_manner)), (n_to, .inl (kI, 20, .inl f_n_to)), (n_goal, .inl (kI, 3, .inl f_n_goal)), (n_branches, .inl (kI, 36, .inl f_n_branches)), (n_branch, .inl (kI, 144, .inl f_n_branch)), (oc, .inr (0, oX0 c_seen c_sent c_turn c_counter x_c)), (c_turn, .inl (kI, 12, .inl f_c_turn))] U.heap ∧ kE dC dI kB kI kJ kZ kC kS U ∧ va_D (fun _ => True) [(w, .inr (9, oX9 on oc x_w)), (on, .inr (2, oX2 n_kind n_salt n_pace n_manner n_from n_to n_goal n_reach n_branches n_branch n_tally x_n)), (n_kind, .inl (kI, 12, .inl f_n_kind)), (n_salt, .inl (kI, 12, .inl f_n_salt)), (n_manner, .inl (kI, 12, .inl f_n_manner)), (n_to, .inl (kI, 20, .inl f_n_to)), (n_goal, .inl (kI, 3, .inl f_n_goal)), (n_branches, .inl (kI, 36, .inl f_n_branches)), (n_branch, .inl (kI, 144, .inl f_n_branch)), (oc, .inr (0, oX0 c_seen c_sent c_turn c_counter x_c)), (c_turn, .inl (kI, 12, .inl f_c_turn))])) (va_Qv (fun (_ : Unit) => True) (fun _ t => ∃ (x_w' : Nat → Int32), fI lX9 hX9 x_w' ∧ (x_w' 0 = x_w 0) ∧ va_P (dC, dI) vwCl [(w, .inr (9, oX9 on oc x_w')), (on, .inr (2, oX2 n_kind n_salt n_pace n_manner n_from n_to n_goal n_reach n_branches n_branch n_tally x_n)), (n_kind, .inl (kI, 12, .inl f_n_kind)), (n_salt, .inl (kI, 12, .inl f_n_salt)), (n_manner, .inl (kI, 12, .inl f_n_manner)), (n_to, .inl (kI, 20, .inl f_n_to)), (n_goal, .inl (kI, 3, .inl f_n_goal)), (n_branches, .inl (kI, 36, .inl f_n_branches)), (n_branch, .inl (kI, 144, .inl f_n_branch)), (oc, .inr (0, oX0 c_seen c_sent c_turn c_counter x_c)), (c_turn, .inl (kI, 12, .inl f_c_turn))] t.heap ∧ va_D (va_A [(w, .inr (9, oX9 on oc x_w)), (on, .inr (2, oX2 n_kind n_salt n_pace n_manner n_from n_to n_goal n_reach n_branches n_branch n_tally x_n)), (n_kind, .inl (kI, 12, .inl f_n_kind)), (n_salt, .inl (kI, 12, .inl f_n_salt)), (n_manner, .inl (kI, 12, .inl f_n_manner)), (n_to, .inl (kI, 20, .inl f_n_to)), (n_goal, .inl (kI, 3, .inl f_n_goal)), (n_branches, .inl (kI, 36, .inl f_n_branches)), (n_branch, .inl (kI, 144, .inl f_n_branch)), (oc, .inr (0, oX0 c_seen c_sent c_turn c_counter x_c)), (c_turn, .inl (kI, 12, .inl f_c_turn))] sz) [(w, .inr (9, oX9 on oc x_w')), (on, .inr (2, oX2 n_kind n_salt n_pace n_manner n_from n_to n_goal n_reach n_branches n_branch n_tally x_n)), (n_kind, .inl (kI, 12, .inl f_n_kind)), (n_salt, .inl (kI, 12, .inl f_n_salt)), (n_manner, .inl (kI, 12, .inl f_n_manner)), (n_to, .inl (kI, 20, .inl f_n_to)), (n_goal, .inl (kI, 3, .inl f_n_goal)), (n_branches, .inl (kI, 36, .inl f_n_branches)), (n_branch, .inl (kI, 144, .inl f_n_branch)), (oc, .inr (0, oX0 c_seen c_sent c_turn c_counter x_c)), (c_turn, .inl (kI, 12, .inl f_c_turn))]) (va_A [(w, .inr (9, oX9 on oc x_w)), (on, .inr (2, oX2 n_kind n_salt n_pace n_manner n_from n_to n_goal n_reach n_branches n_branch n_tally x_n)), (n_kind, .inl (kI, 12, .inl f_n_kind)), (n_salt, .inl (kI, 12, .inl f_n_salt)), (n_manner, .inl (kI, 12, .inl f_n_manner)), (n_to, .inl (kI, 20, .inl f_n_to)), (n_goal, .inl (kI, 3, .inl f_n_goal)), (n_branches, .inl (kI, 36, .inl f_n_branches)), (n_branch, .inl (kI, 144, .inl f_n_branch)), (oc, .inr (0, oX0 c_seen c_sent c_turn c_counter x_c)), (c_turn, .inl (kI, 12, .inl f_c_turn))] sz)) 0 0 (va_A [(w, .inr (9, oX9 on oc x_w)), (on, .inr (2, oX2 n_kind n_salt n_pace n_manner n_from n_to n_goal n_reach n_branches n_branch n_tally x_n)), (n_kind, .inl (kI, 12, .inl f_n_kind)), (n_salt, .inl (kI, 12, .inl f_n_salt)), (n_manner, .inl (kI, 12, .inl f_n_manner)), (n_to, .inl (kI, 20, .inl f_n_to)), (n_goal, .inl (kI, 3, .inl f_n_goal)), (n_branches, .inl (kI, 36, .inl f_n_branches)), (n_branch, .inl (kI, 144, .inl f_n_branch)), (oc, .inr (0, oX0 c_seen c_sent c_turn c_counter x_c)), (c_turn, .inl (kI, 12, .inl f_c_turn))] sz) := by
  refine Met.ofW (cc := cX9_takeAll) (maxL := 3) (ret := none) (by decide) rfl ?_
  intro p e s m args0 below meth c s₁ B hml hv
  obtain ⟨hargs, hsz, hP, hE, hD0⟩ := hv
  have hx := B.exec
  have hb := B.bytes
  have hr := B.returns
  have hts := atoms_spec (ws := wsX9_takeAll) B.pre
  have hown : s.vm.findClass RX9 = some m.cls := findClass_of_methodNamed B.named
  have hlocks := B.notSynchronized
  have hK := hE.1
  have hin9 : ∀ w ∈ wsX90, w ∈ wsX9_takeAll := fun _ h9 => List.mem_cons_of_mem _ (List.mem_append_left _ (List.mem_append_left _ (List.mem_append_right _ h9)))
  have hin2 : ∀ w ∈ wsX20, w ∈ wsX9_takeAll := fun _ h9 => List.mem_cons_of_mem _ (List.mem_append_left _ (List.mem_append_right _ h9))
  have hin0 : ∀ w ∈ wsX00, w ∈ wsX9_takeAll := fun _ h9 => List.mem_cons_of_mem _ (List.mem_append_right _ h9)
  subst hsz
  have hD := hD0.self (sz := s.heap.size)
  generalize hAe : va_A [(w, .inr (9, oX9 on oc x_w)), (on, .inr (2, oX2 n_kind n_salt n_pace n_manner n_from n_to n_goal n_reach n_branches n_branch n_tally x_n)), (n_kind, .inl (kI, 12, .inl f_n_kind)), (n_salt, .inl (kI, 12, .inl f_n_salt)), (n_manner, .inl (kI, 12, .inl f_n_manner)), (n_to, .inl (kI, 20, .inl f_n_to)), (n_goal, .inl (kI, 3, .inl f_n_goal)), (n_branches, .inl (kI, 36, .inl f_n_branches)), (n_branch, .inl (kI, 144, .inl f_n_branch)), (oc, .inr (0, oX0 c_seen c_sent c_turn c_counter x_c)), (c_turn, .inl (kI, 12, .inl f_c_turn))] s.heap.size = A at hD ⊢
  have hA : ∀ q : Nat, s.heap.size ≤ q → A q := fun q h => by rw [← hAe]; exact Or.inr h
  have hS : va_S A s.heap s.heap [] := va_S.rf
  have hP : va_P (dC, dI) vwCl [(w, .inr (9, oX9 on oc x_w)), (on, .inr (2, oX2 n_kind n_salt n_pace n_manner n_from n_to n_goal n_reach n_branches n_branch n_tally x_n)), (n_kind, .inl (kI, 12, .inl f_n_kind)), (n_salt, .inl (kI, 12, .inl f_n_salt)), (n_manner, .inl (kI, 12, .inl f_n_manner)), (n_to, .inl (kI, 20, .inl f_n_to)), (n_goal, .inl (kI, 3, .inl f_n_goal)), (n_branches, .inl (kI, 36, .inl f_n_branches)), (n_branch, .inl (kI, 144, .inl f_n_branch)), (oc, .inr (0, oX0 c_seen c_sent c_turn c_counter x_c)), (c_turn, .inl (kI, 12, .inl f_c_turn))] s.heap := hP
  have hl := lv_entry ([.ref w, .int p0, .int p1]) (n := 3) (Nat.le_of_ble_eq_true rfl)
  have hla : entryFrame m args0 3 = entryFrame m ([.ref w, .int p0, .int p1] : List Value).toArray 3 := by rw [hargs]
  rw [hla, lg_entry_eq]
  generalize (lg_sl ([.ref w, .int p0, .int p1]) ++ List.replicate (3 - (lg_sl ([.ref w, .int p0, .int p1])).length) Slot.unset).toArray = ls at hl ⊢
  have hl : lv_has ls 3 [(0, .ref w), (1, .int p0), (2, .int p1)] := hl
  refine lv_aload_n hx hb dX9_takeAll_0 rfl (lv_at hl 0 rfl) ?_
  refine lv_iload_n hx hb dX9_takeAll_1 rfl (lv_at hl 1 rfl) ?_
  refine lv_iload_n hx hb dX9_takeAll_2 rfl (lv_at hl 2 rfl) ?_
  refine lv_bipush (v := 13) hx hb dX9_takeAll_3 bp_13 ?_
  obtain ⟨hPc, hDc, hFc, hJn⟩ := cl_a (wc := [(w, .inr (9, oX9 on oc x_w)), (on, .inr (2, oX2 n_kind n_salt n_pace n_manner n_from n_to n_goal n_reach n_branches n_branch n_tally x_n)), (n_kind, .inl (kI, 12, .inl f_n_kind)), (n_salt, .inl (kI, 12, .inl f_n_salt)), (n_manner, .inl (kI, 12, .inl f_n_manner)), (n_to, .inl (kI, 20, .inl f_n_to)), (n_goal, .inl (kI, 3, .inl f_n_goal)), (n_branches, .inl (kI, 36, .inl f_n_branches)), (n_branch, .inl (kI, 144, .inl f_n_branch)), (oc, .inr (0, oX0 c_seen c_sent c_turn c_counter x_c)), (c_turn, .inl (kI, 12, .inl f_c_turn))]) (wr := []) hP hD hS hA [0, 1, 2, 3, 4, 5, 6, 7, 8, 9, 10] [] rfl rfl (by decide +kernel)
  refine va_callv (va_runV (As := [.int p0, .int p1, .int 13]) (rest := []) ⟨hx, hb, hml, hown, hts⟩ (s9_take l dC dI kB kI kJ kZ kC kS s.heap.size w on oc x_w n_kind n_salt n_pace n_manner n_from n_to n_goal n_reach n_branches n_branch n_tally x_n f_n_kind f_n_salt f_n_manner f_n_to f_n_goal f_n_branches f_n_branch c_seen c_sent c_turn c_counter x_c f_c_turn p0 p1 13 (hx_w) (hx_n) (hf_n_salt) (hf_n_to) (hf_n_goal) (hf_n_branches) (hf_n_branch) (hf_c_turn) (hp0) (hp1)) (cwV 3 hts gX9_takeAll_X9_take rfl rfl rfl (by decide +kernel) ⟨Nat.le_of_ble_eq_true rfl, Nat.le_of_ble_eq_true rfl⟩) ⟨fun a U g mk q => by obtain ⟨q0, q1, qP, qE, qD⟩ := q; exact ⟨q0, q1, qP, kE_call qE, qD⟩, va_recv hK hP (ci := 9) (q0 := 0) rfl rfl, fun U hU hW => ⟨rfl, by rw [hU], by rw [hU]; exact hPc, kE_warm hW hE, hDc.weaken (fun _ _ _ _ => trivial)⟩⟩ rfl rfl hl.1 rfl (lv_room (Nat.le_of_ble_eq_true rfl)) dX9_takeAll_5 ⟨Nat.le_of_ble_eq_true rfl, Nat.le_of_ble_eq_true rfl⟩) hS (fun q _ h => hFc q h) hFc (fun u t H locs ht hvm w2 hB hz1 hk1 hS => ?_)
  obtain ⟨y3, hq4, hq5, hP1, hD1⟩ := hB
  try dsimp only at w2
  obtain ⟨hPa, hDa⟩ := hJn (w1 := [(w, .inr (9, oX9 on oc y3)), (on, .inr (2, oX2 n_kind n_salt n_pace n_manner n_from n_to n_goal n_reach n_branches n_branch n_tally x_n)), (n_kind, .inl (kI, 12, .inl f_n_kind)), (n_salt, .inl (kI, 12, .inl f_n_salt)), (n_manner, .inl (kI, 12, .inl f_n_manner)), (n_to, .inl (kI, 20, .inl f_n_to)), (n_goal, .inl (kI, 3, .inl f_n_goal)), (n_branches, .inl (kI, 36, .inl f_n_branches)), (n_branch, .inl (kI, 144, .inl f_n_branch)), (oc, .inr (0, oX0 c_seen c_sent c_turn c_counter x_c)), (c_turn, .inl (kI, 12, .inl f_c_turn))]) hk1 ht hP1 hD1
  clear hP hD hPc hDc hFc hJn hP1 hD1 hk1
  have hP : va_P (dC, dI) vwCl [(w, .inr (9, oX9 on oc y3)), (on, .inr (2, oX2 n_kind n_salt n_pace n_manner n_from n_to n_goal n_reach n_branches n_branch n_tally x_n)), (n_kind, .inl (kI, 12, .inl f_n_kind)), (n_salt, .inl (kI, 12, .inl f_n_salt)), (n_manner, .inl (kI, 12, .inl f_n_manner)), (n_to, .inl (kI, 20, .inl f_n_to)), (n_goal, .inl (kI, 3, .inl f_n_goal)), (n_branches, .inl (kI, 36, .inl f_n_branches)), (n_branch, .inl (kI, 144, .inl f_n_branch)), (oc, .inr (0, oX0 c_seen c_sent c_turn c_counter x_c)), (c_turn, .inl (kI, 12, .inl f_c_turn))] H := hPa
  have hD : va_D A [(w, .inr (9, oX9 on oc y3)), (on, .inr (2, oX2 n_kind n_salt n_pace n_manner n_from n_to n_goal n_reach n_branches n_branch n_tally x_n)), (n_kind, .inl (kI, 12, .inl f_n_kind)), (n_salt, .inl (kI, 12, .inl f_n_salt)), (n_manner, .inl (kI, 12, .inl f_n_manner)), (n_to, .inl (kI, 20, .inl f_n_to)), (n_goal, .inl (kI, 3, .inl f_n_goal)), (n_branches, .inl (kI, 36, .inl f_n_branches)), (n_branch, .inl (kI, 144, .inl f_n_branch)), (oc, .inr (0, oX0 c_seen c_sent c_turn c_counter x_c)), (c_turn, .inl (kI, 12, .inl f_c_turn))] := hDa
  clear hPa hDa
  refine W.widen (k := 0) (n := 0) (Nat.le_of_ble_eq_true rfl) (Nat.le_of_ble_eq_true rfl) ?_
  have hP9 := hP
  have hD9 := hD
  exact W.vret hx hb hr (fun t ht hW => ⟨⟨(), rfl, trivial, y3, hq4, (show y3 0 = x_w 0 from hq5), by rw [ht]; exact hP9, hD9⟩, hS.F ht⟩) hS.2.2 dX9_takeAll_8
def rm_s9_isAnswered : Room := { frames := 1, cells := 0, slots := 0, locals := 22 }
set_option maxHeartbeats 4000000 in
set_option maxRecDepth 100000 in
theorem s9_isAnswered (l : Launch) (dC : Nat → ClassId) (dI : Nat → Nat → Nat) (kB kI kJ kZ kC kS : ClassId) (sz : Nat) (w : Nat) (on : Nat) (oc : Nat) (x_w : Nat → Int32) (n_kind : Nat) (n_salt : Nat) (n_pace : Nat) (n_manner : Nat) (n_from : Nat) (n_to : Nat) (n_goal : Nat) (n_reach : Nat) (n_branches : Nat) (n_branch : Nat) (n_tally : Nat) (x_n : Nat → Int32) (f_n_manner : Nat → Int32) (f_n_goal : Nat → Int32) (hx_w : fI lX9 hX9 x_w) (hx_n : fI lX2 hX2 x_n) (hf_n_goal : fI (fun _ => 0) (fun _ => 11) f_n_goal) : Met l yX9_isAnswered wsX9_isAnswered rm_s9_isAnswered (va_Pc [.ref w] (fun U => U.heap.size = sz ∧ va_P (dC, dI) vwCl [(w, .inr (9, oX9 on oc x_w)), (on, .inr (2, oX2 n_kind n_salt n_pace n_manner n_from n_to n_goal n_reach n_branches n_branch n_tally x_n)), (n_manner, .inl (kI, 12, .inl f_n_manner)), (n_goal, .inl (kI, 3, .inl f_n_goal))] U.heap ∧ kE dC dI kB kI kJ kZ kC kS U ∧ va_D (fun _ => True) [(w, .inr (9, oX9 on oc x_w)), (on, .inr (2, oX2 n_kind n_salt n_pace n_manner n_from n_to n_goal n_reach n_branches n_branch n_tally x_n)), (n_manner, .inl (kI, 12, .inl f_n_manner)), (n_goal, .inl (kI, 3, .inl f_n_goal))])) (va_Qi (fun (r : Int32) (_ : Unit) => iv 0 1 r) (fun _ t => va_P (dC, dI) vwCl [(w, .inr (9, oX9 on oc x_w)), (on, .inr (2, oX2 n_kind n_salt n_pace n_manner n_from n_to n_goal n_reach n_branches n_branch n_tally x_n)), (n_manner, .inl (kI, 12, .inl f_n_manner)), (n_goal, .inl (kI, 3, .inl f_n_goal))] t.heap ∧ va_D (va_A [(w, .inr (9, oX9 on oc x_w)), (on, .inr (2, oX2 n_kind n_salt n_pace n_manner n_from n_to n_goal n_reach n_branches n_branch n_tally x_n)), (n_manner, .inl (kI, 12, .inl f_n_manner)), (n_goal, .inl (kI, 3, .inl f_n_goal))] sz) [(w, .inr (9, oX9 on oc x_w)), (on, .inr (2, oX2 n_kind n_salt n_pace n_manner n_from n_to n_goal n_reach n_branches n_branch n_tally x_n)), (n_manner, .inl (kI, 12, .inl f_n_manner)), (n_goal, .inl (kI, 3, .inl f_n_goal))]) (va_A [(w, .inr (9, oX9 on oc x_w)), (on, .inr (2, oX2 n_kind n_salt n_pace n_manner n_from n_to n_goal n_reach n_branches n_branch n_tally x_n)), (n_manner, .inl (kI, 12, .inl f_n_manner)), (n_goal, .inl (kI, 3, .inl f_n_goal))] sz)) 0 0 (va_A [(w, .inr (9, oX9 on oc x_w)), (on, .inr (2, oX2 n_kind n_salt n_pace n_manner n_from n_to n_goal n_reach n_branches n_branch n_tally x_n)), (n_manner, .inl (kI, 12, .inl f_n_manner)), (n_goal, .inl (kI, 3, .inl f_n_goal))] sz) := by
  refine Met.ofW (cc := cX9_isAnswered) (maxL := 1) (ret := (some .boolean)) (by decide) rfl ?_
  intro p e s m args0 below meth c s₁ B hml hv
  obtain ⟨hargs, hsz, hP, hE, hD0⟩ := hv
  have hx := B.exec
  have hb := B.bytes
  have hr := B.returns
  have hts := atoms_spec (ws := wsX9_isAnswered) B.pre
  have hown : s.vm.findClass RX9 = some m.cls := findClass_of_methodNamed B.named
  have hlocks := B.notSynchronized
  have hK := hE.1
  have hin9 : ∀ w ∈ wsX90, w ∈ wsX9_isAnswered := fun _ h9 => List.mem_cons_of_mem _ (List.mem_append_left _ (List.mem_append_right _ h9))
  have hin2 : ∀ w ∈ wsX20, w ∈ wsX9_isAnswered := fun _ h9 => List.mem_cons_of_mem _ (List.mem_append_right _ h9)
  have hw_0 := hts (.fieldLink RX9 33 "PathProber$Walk" "lost" "Z") (List.mem_of_getElem? (i := 1) rfl)
  have hw_1 := hts (.fieldLink RX9 37 "PathProber$Walk" "net" "LPathProber$Net;") (List.mem_of_getElem? (i := 2) rfl)
  have hw_2 := hts (.fieldLink RX9 55 "PathProber$Net" "manner" "[I") (List.mem_of_getElem? (i := 3) rfl)
  have hw_3 := hts (.fieldLink RX9 18 "PathProber$Walk" "router" "I") (List.mem_of_getElem? (i := 4) rfl)
  subst hsz
  have hD := hD0.self (sz := s.heap.size)
  generalize hAe : va_A [(w, .inr (9, oX9 on oc x_w)), (on, .inr (2, oX2 n_kind n_salt n_pace n_manner n_from n_to n_goal n_reach n_branches n_branch n_tally x_n)), (n_manner, .inl (kI, 12, .inl f_n_manner)), (n_goal, .inl (kI, 3, .inl f_n_goal))] s.heap.size = A at hD ⊢
  have hA : ∀ q : Nat, s.heap.size ≤ q → A q := fun q h => by rw [← hAe]; exact Or.inr h
  have hS : va_S A s.heap s.heap [] := va_S.rf
  have hP : va_P (dC, dI) vwCl [(w, .inr (9, oX9 on oc x_w)), (on, .inr (2, oX2 n_kind n_salt n_pace n_manner n_from n_to n_goal n_reach n_branches n_branch n_tally x_n)), (n_manner, .inl (kI, 12, .inl f_n_manner)), (n_goal, .inl (kI, 3, .inl f_n_goal))] s.heap := hP
  have hl := lv_entry ([.ref w]) (n := 1) (Nat.le_of_ble_eq_true rfl)
  have hla : entryFrame m args0 1 = entryFrame m ([.ref w] : List Value).toArray 1 := by rw [hargs]
  rw [hla, lg_entry_eq]
  generalize (lg_sl ([.ref w]) ++ List.replicate (1 - (lg_sl ([.ref w])).length) Slot.unset).toArray = ls at hl ⊢
  have hl : lv_has ls 1 [(0, .ref w)] := hl
  have hJ42 : ∀ (H : Heap) (locs : List Loc) (ls : Array Slot), (x_w 0 = x_w 0) → va_P (dC, dI) vwCl [(w, .inr (9, oX9 on oc x_w)), (on, .inr (2, oX2 n_kind n_salt n_pace n_manner n_from n_to n_goal n_reach n_branches n_branch n_tally x_n)), (n_manner, .inl (kI, 12, .inl f_n_manner)), (n_goal, .inl (kI, 3, .inl f_n_goal))] H → va_D A [(w, .inr (9, oX9 on oc x_w)), (on, .inr (2, oX2 n_kind n_salt n_pace n_manner n_from n_to n_goal n_reach n_branches n_branch n_tally x_n)), (n_manner, .inl (kI, 12, .inl f_n_manner)), (n_goal, .inl (kI, 3, .inl f_n_goal))] → va_S A s.heap H locs → lv_has ls 1 [(0, .ref w)] → W p l e (headSpec wsX9_isAnswered rm_s9_isAnswered).room s m args0 below meth c H locs (0) (0) (MQ below (va_Qi (fun (r : Int32) (_ : Unit) => iv 0 1 r) (fun _ t => va_P (dC, dI) vwCl [(w, .inr (9, oX9 on oc x_w)), (on, .inr (2, oX2 n_kind n_salt n_pace n_manner n_from n_to n_goal n_reach n_branches n_branch n_tally x_n)), (n_manner, .inl (kI, 12, .inl f_n_manner)), (n_goal, .inl (kI, 3, .inl f_n_goal))] t.heap ∧ va_D A [(w, .inr (9, oX9 on oc x_w)), (on, .inr (2, oX2 n_kind n_salt n_pace n_manner n_from n_to n_goal n_reach n_branches n_branch n_tally x_n)), (n_manner, .inl (kI, 12, .inl f_n_manner)), (n_goal, .inl (kI, 3, .inl f_n_goal))]) A) args0 s 0 0 A) (F0 m 42 ls []) := by
    intro H locs ls hsw9_42 hP hD hS hl
    refine lv_iconst (v := 0) hx hb dX9_isAnswered_42 ic_0 ?_
    have hP9 := hP
    have hD9 := hD
    exact W.zret (v := 0) (ty := .boolean) hx hb hr rfl (fun t ht hW => ⟨⟨0, (), rfl, (iv_w ivk_0 (by decide) (by decide)), by rw [ht]; exact hP9, hD9⟩, hS.F ht⟩) hS.2.2 dX9_isAnswered_43
  have hJ38 : ∀ (H : Heap) (locs : List Loc) (ls : Array Slot), iv 0 0 (x_w 7) → (x_w 0 = x_w 0) → va_P (dC, dI) vwCl [(w, .inr (9, oX9 on oc x_w)), (on, .inr (2, oX2 n_kind n_salt n_pace n_manner n_from n_to n_goal n_reach n_branches n_branch n_tally x_n)), (n_manner, .inl (kI, 12, .inl f_n_manner)), (n_goal, .inl (kI, 3, .inl f_n_goal))] H → va_D A [(w, .inr (9, oX9 on oc x_w)), (on, .inr (2, oX2 n_kind n_salt n_pace n_manner n_from n_to n_goal n_reach n_branches n_branch n_tally x_n)), (n_manner, .inl (kI, 12, .inl f_n_manner)), (n_goal, .inl (kI, 3, .inl f_n_goal))] → va_S A s.heap H locs → lv_has ls 1 [(0, .ref w)] → W p l e (headSpec wsX9_isAnswered rm_s9_isAnswered).room s m args0 below meth c H locs (0) (0) (MQ below (va_Qi (fun (r : Int32) (_ : Unit) => iv 0 1 r) (fun _ t => va_P (dC, dI) vwCl [(w, .inr (9, oX9 on oc x_w)), (on, .inr (2, oX2 n_kind n_salt n_pace n_manner n_from n_to n_goal n_reach n_branches n_branch n_tally x_n)), (n_manner, .inl (kI, 12, .inl f_n_manner)), (n_goal, .inl (kI, 3, .inl f_n_goal))] t.heap ∧ va_D A [(w, .inr (9, oX9 on oc x_w)), (on, .inr (2, oX2 n_kind n_salt n_pace n_manner n_from n_to n_goal n_reach n_branches n_branch n_tally x_n)), (n_manner, .inl (kI, 12, .inl f_n_manner)), (n_goal, .inl (kI, 3, .inl f_n_goal))]) A) args0 s 0 0 A) (F0 m 38 ls []) := by
    intro H locs ls h38_1 hsw9_38 hP hD hS hl
    refine lv_iconst (v := 1) hx hb dX9_isAnswered_38 ic_1 ?_
    refine lv_goto (tgt := 43) hx hb dX9_isAnswered_39 rfl ?_
    have hP9 := hP
    have hD9 := hD
    exact W.zret (v := 1) (ty := .boolean) hx hb hr rfl (fun t ht hW => ⟨⟨1, (), rfl, (iv_w ivk_1 (by decide) (by decide)), by rw [ht]; exact hP9, hD9⟩, hS.F ht⟩) hS.2.2 dX9_isAnswered_43
  refine lv_aload_n hx hb dX9_isAnswered_0 rfl (lv_at hl 0 rfl) ?_
  refine va_get (D := (dC, dI)) (ci := 9) (v := .int (x_w 7)) (C := RX9) (T := TX9) (N := 10) hx hb hts hin9 hown hK hP 0 rfl rfl 9 (Nat.le_of_ble_eq_true rfl) hw_0 (fun _ h9 => h9) rfl dX9_isAnswered_1 ?_
  refine lv_if_ne (tgt := 42) hx hb dX9_isAnswered_4 rfl (fun c1 => ?_) (fun c1 => ?_)
  · exact hJ42 _ _ _ ((show x_w 0 = x_w 0 from rfl)) (hP) (hD) hS (lv_sub hl [0] rfl)
  · have b2 : iv 0 0 (x_w 7) := iv_eqL c1 ivk_0
    refine lv_aload_n hx hb dX9_isAnswered_7 rfl (lv_at hl 0 rfl) ?_
    refine va_get (D := (dC, dI)) (ci := 9) (v := .ref on) (C := RX9) (T := TX9) (N := 10) hx hb hts hin9 hown hK hP 0 rfl rfl 0 (Nat.le_of_ble_eq_true rfl) hw_1 (fun _ h9 => h9) rfl dX9_isAnswered_8 ?_
    refine va_get (D := (dC, dI)) (ci := 2) (v := .ref n_manner) (C := RX2) (T := TX2) (N := 15) hx hb hts hin2 hown hK hP 1 rfl rfl 3 (Nat.le_of_ble_eq_true rfl) hw_2 (fun _ h9 => h9) rfl dX9_isAnswered_11 ?_
    refine lv_aload_n hx hb dX9_isAnswered_14 rfl (lv_at hl 0 rfl) ?_
    refine va_get (D := (dC, dI)) (ci := 9) (v := .int (x_w 2)) (C := RX9) (T := TX9) (N := 10) hx hb hts hin9 hown hK hP 0 rfl rfl 4 (Nat.le_of_ble_eq_true rfl) hw_3 (fun _ h9 => h9) rfl dX9_isAnswered_15 ?_
    refine va_iald hx hb hK hP 2 1 rfl rfl (iv_in (hx_w 2 : iv 0 11 (x_w 2)) (by decide) (by decide)) dX9_isAnswered_18 ?_
    refine lv_topi (fun z3 _ => ?_)
    refine lv_iconst (v := 1) hx hb dX9_isAnswered_19 ic_1 ?_
    refine lv_icmp_ne (tgt := 38) hx hb dX9_isAnswered_20 rfl (fun c4 => ?_) (fun c4 => ?_)
    · exact hJ38 _ _ _ (b2) ((show x_w 0 = x_w 0 from rfl)) (hP) (hD) hS (lv_sub hl [0] rfl)
    · have b5 : iv 1 1 z3 := iv_eqL c4 ivk_1
      refine lv_aload_n hx hb dX9_isAnswered_23 rfl (lv_at hl 0 rfl) ?_
      refine va_get (D := (dC, dI)) (ci := 9) (v := .ref on) (C := RX9) (T := TX9) (N := 10) hx hb hts hin9 hown hK hP 0 rfl rfl 0 (Nat.le_of_ble_eq_true rfl) hw_1 (fun _ h9 => h9) rfl dX9_isAnswered_24 ?_
      refine lv_aload_n hx hb dX9_isAnswered_27 rfl (lv_at hl 0 rfl) ?_
      refine va_get (D := (dC, dI)) (ci := 9) (v := .int (x_w 2)) (C := RX9) (T := TX9) (N := 10) hx hb hts hin9 hown hK hP 0 rfl rfl 4 (Nat.le_of_ble_eq_true rfl) hw_3 (fun _ h9 => h9) rfl dX9_isAnswered_28 ?_
      obtain ⟨hPc, hDc, hFc, hJn⟩ := cl_a (wc := [(on, .inr (2, oX2 n_kind n_salt n_pace n_manner n_from n_to n_goal n_reach n_branches n_branch n_tally x_n)), (n_goal, .inl (kI, 3, .inl f_n_goal))]) (wr := [(w, .inr (9, oX9 on oc x_w)), (n_manner, .inl (kI, 12, .inl f_n_manner))]) hP hD hS hA [1, 3] [0, 2] rfl rfl (by decide +kernel)
      refine va_calli (va_runV (As := [.int (x_w 2)]) (rest := []) ⟨hx, hb, hml, hown, hts⟩ (s2_goalAt l dC dI kB kI kJ kZ kC kS s.heap.size on n_kind n_salt n_pace n_manner n_from n_to n_goal n_reach n_branches n_branch n_tally x_n f_n_goal (x_w 2) (hx_n) (hf_n_goal)) (cwV 1 hts gX9_isAnswered_X2_goalAt rfl rfl rfl (by decide +kernel) ⟨Nat.le_of_ble_eq_true rfl, Nat.le_of_ble_eq_true rfl⟩) ⟨fun a U g mk q => by obtain ⟨q0, q1, qP, qE, qD⟩ := q; exact ⟨q0, q1, qP, kE_call qE, qD⟩, va_recv hK hP (ci := 2) (q0 := 1) rfl rfl, fun U hU hW => ⟨rfl, by rw [hU], by rw [hU]; exact hPc, kE_warm hW hE, hDc.weaken (fun _ _ _ _ => trivial)⟩⟩ rfl rfl hl.1 rfl (lv_room (Nat.le_of_ble_eq_true rfl)) dX9_isAnswered_31 ⟨Nat.le_of_ble_eq_true rfl, Nat.le_of_ble_eq_true rfl⟩) hS (fun q _ h => hFc q h) hFc (fun r6 u t H locs ht hvm w7 hB hz1 hk1 hS => ?_)
      obtain ⟨hP1, hD1⟩ := hB
      try dsimp only at w7
      obtain ⟨hPa, hDa⟩ := hJn (w1 := [(on, .inr (2, oX2 n_kind n_salt n_pace n_manner n_from n_to n_goal n_reach n_branches n_branch n_tally x_n)), (n_goal, .inl (kI, 3, .inl f_n_goal))]) hk1 ht hP1 hD1
      clear hP hD hPc hDc hFc hJn hP1 hD1 hk1
      have hP : va_P (dC, dI) vwCl [(w, .inr (9, oX9 on oc x_w)), (n_manner, .inl (kI, 12, .inl f_n_manner)), (on, .inr (2, oX2 n_kind n_salt n_pace n_manner n_from n_to n_goal n_reach n_branches n_branch n_tally x_n)), (n_goal, .inl (kI, 3, .inl f_n_goal))] H := hPa
      have hD : va_D A [(w, .inr (9, oX9 on oc x_w)), (n_manner, .inl (kI, 12, .inl f_n_manner)), (on, .inr (2, oX2 n_kind n_salt n_pace n_manner n_from n_to n_goal n_reach n_branches n_branch n_tally x_n)), (n_goal, .inl (kI, 3, .inl f_n_goal))] := hDa
      clear hPa hDa
      refine W.widen (k := 0) (n := 0) (Nat.le_of_ble_eq_true rfl) (Nat.le_of_ble_eq_true rfl) ?_
      refine lv_iconst (v := (-1)) hx hb dX9_isAnswered_34 ic_m1 ?_
      refine lv_icmp_eq (tgt := 42) hx hb dX9_isAnswered_35 rfl (fun c8 => ?_) (fun c8 => ?_)
      · have b9 : iv (-1) (-1) r6 := iv_eqL c8 ivk_m1
        have hPD9 := cl_s (wc := [(w, .inr (9, oX9 on oc x_w)), (on, .inr (2, oX2 n_kind n_salt n_pace n_manner n_from n_to n_goal n_reach n_branches n_branch n_tally x_n)), (n_manner, .inl (kI, 12, .inl f_n_manner)), (n_goal, .inl (kI, 3, .inl f_n_goal))]) hP hD [0, 2, 1, 3] rfl (by decide +kernel)
        exact hJ42 _ _ _ ((show x_w 0 = x_w 0 from rfl)) (hPD9.1) (hPD9.2) hS (lv_sub hl [0] rfl)
      · have b10 : iv 0 2 r6 := iv_neLo c8 w7.1 ivk_m1 (by decide) (by decide)
        have hPD9 := cl_s (wc := [(w, .inr (9, oX9 on oc x_w)), (on, .inr (2, oX2 n_kind n_salt n_pace n_manner n_from n_to n_goal n_reach n_branches n_branch n_tally x_n)), (n_manner, .inl (kI, 12, .inl f_n_manner)), (n_goal, .inl (kI, 3, .inl f_n_goal))]) hP hD [0, 2, 1, 3] rfl (by decide +kernel)
        exact hJ38 _ _ _ (b2) ((show x_w 0 = x_w 0 from rfl)) (hPD9.1) (hPD9.2) hS (lv_sub hl [0] rfl)
def rm_sJ_bitCountL : Room := { frames := 0, cells := 0, slots := 0, locals := 0 }
set_option maxHeartbeats 4000000 in
set_option maxRecDepth 100000 in
theorem sJ_bitCountL (l : Launch) (dC : Nat → ClassId) (dI : Nat → Nat → Nat) (kB kI kJ kZ kC kS : ClassId) (sz : Nat) (p0 : Int64) : Met l yJ13_bitCount_95d88 wsJ13_bitCount_95d88 rm_sJ_bitCountL (va_Pc [.long p0] (fun U => U.heap.size = sz ∧ va_P (dC, dI) vwCl [] U.heap ∧ kE dC dI kB kI kJ kZ kC kS U ∧ va_D (fun _ => True) [])) (va_Qi (fun (r : Int32) (_ : Unit) => iv 0 127 r) (fun _ t => va_P (dC, dI) vwCl [] t.heap ∧ va_D (va_A [] sz) []) (va_A [] sz)) 0 0 (va_A [] sz) := by
  refine Met.ofW (cc := cJ13_bitCount_95d88) (maxL := 2) (ret := (some .int)) (by decide) rfl ?_
  intro p e s m args0 below meth c s₁ B hml hv
  obtain ⟨hargs, hsz, hP, hE, hD0⟩ := hv
  have hx := B.exec
  have hb := B.bytes
  have hr := B.returns
  have hts := atoms_spec (ws := wsJ13_bitCount_95d88) B.pre
  have hown : s.vm.findClass RJ13 = some m.cls := findClass_of_methodNamed B.named
  have hlocks := B.notSynchronized
  have hK := hE.1
  have hw_0 := hts (.constantLong RJ13 314 (6148914691236517205)) (List.mem_of_getElem? (i := 1) rfl)
  have hw_1 := hts (.constantLong RJ13 316 (3689348814741910323)) (List.mem_of_getElem? (i := 2) rfl)
  have hw_2 := hts (.constantLong RJ13 318 (1085102592571150095)) (List.mem_of_getElem? (i := 3) rfl)
  subst hsz
  have hD := hD0.self (sz := s.heap.size)
  generalize hAe : va_A [] s.heap.size = A at hD ⊢
  have hA : ∀ q : Nat, s.heap.size ≤ q → A q := fun q h => by rw [← hAe]; exact Or.inr h
  have hS : va_S A s.heap s.heap [] := va_S.rf
  have hP : va_P (dC, dI) vwCl [] s.heap := hP
  have hl := lv_entry ([.long p0]) (n := 2) (Nat.le_of_ble_eq_true rfl)
  have hla : entryFrame m args0 2 = entryFrame m ([.long p0] : List Value).toArray 2 := by rw [hargs]
  rw [hla, lg_entry_eq]
  generalize (lg_sl ([.long p0]) ++ List.replicate (2 - (lg_sl ([.long p0])).length) Slot.unset).toArray = ls at hl ⊢
  have hl : lv_has ls 2 [(0, .long p0)] := hl
  refine lv_lload_n hx hb dJ13_bitCount_95d88_0 rfl (lv_at hl 0 rfl) ?_
  refine lv_lload_n hx hb dJ13_bitCount_95d88_1 rfl (lv_at hl 0 rfl) ?_
  refine lv_iconst (v := 1) hx hb dJ13_bitCount_95d88_2 ic_1 ?_
  refine lv_lushr hx hb dJ13_bitCount_95d88_3 rfl ?_
  refine lv_topl (fun z1 _ => ?_)
  refine lv_ldc2 hx hb hown hw_0 dJ13_bitCount_95d88_4 ?_
  refine lv_land hx hb dJ13_bitCount_95d88_7 ?_
  refine lv_topl (fun z2 _ => ?_)
  refine lv_lsub hx hb dJ13_bitCount_95d88_8 ?_
  refine lv_topl (fun z3 _ => ?_)
  refine lv_lstore_n (lv' := [(0, .long z3)]) hx hb dJ13_bitCount_95d88_9 rfl hl (Nat.le_of_ble_eq_true rfl) rfl (fun ls hl => ?_)
  refine lv_lload_n hx hb dJ13_bitCount_95d88_10 rfl (lv_at hl 0 rfl) ?_
  refine lv_ldc2 hx hb hown hw_1 dJ13_bitCount_95d88_11 ?_
  refine lv_land hx hb dJ13_bitCount_95d88_14 ?_
  refine lv_topl (fun z4 _ => ?_)
  refine lv_lload_n hx hb dJ13_bitCount_95d88_15 rfl (lv_at hl 0 rfl) ?_
  refine lv_iconst (v := 2) hx hb dJ13_bitCount_95d88_16 ic_2 ?_
  refine lv_lushr hx hb dJ13_bitCount_95d88_17 rfl ?_
  refine lv_topl (fun z5 _ => ?_)
  refine lv_ldc2 hx hb hown hw_1 dJ13_bitCount_95d88_18 ?_
  refine lv_land hx hb dJ13_bitCount_95d88_21 ?_
  refine lv_topl (fun z6 _ => ?_)
  refine lv_ladd hx hb dJ13_bitCount_95d88_22 ?_
  refine lv_topl (fun z7 _ => ?_)
  refine lv_lstore_n (lv' := [(0, .long z7)]) hx hb dJ13_bitCount_95d88_23 rfl hl (Nat.le_of_ble_eq_true rfl) rfl (fun ls hl => ?_)
  refine lv_lload_n hx hb dJ13_bitCount_95d88_24 rfl (lv_at hl 0 rfl) ?_
  refine lv_lload_n hx hb dJ13_bitCount_95d88_25 rfl (lv_at hl 0 rfl) ?_
  refine lv_iconst (v := 4) hx hb dJ13_bitCount_95d88_26 ic_4 ?_
  refine lv_lushr hx hb dJ13_bitCount_95d88_27 rfl ?_
  refine lv_topl (fun z8 _ => ?_)
  refine lv_ladd hx hb dJ13_bitCount_95d88_28 ?_
  refine lv_topl (fun z9 _ => ?_)
  refine lv_ldc2 hx hb hown hw_2 dJ13_bitCount_95d88_29 ?_
  refine lv_land hx hb dJ13_bitCount_95d88_32 ?_
  refine lv_topl (fun z10 _ => ?_)
  refine lv_lstore_n (lv' := [(0, .long z10)]) hx hb dJ13_bitCount_95d88_33 rfl hl (Nat.le_of_ble_eq_true rfl) rfl (fun ls hl => ?_)
  refine lv_lload_n hx hb dJ13_bitCount_95d88_34 rfl (lv_at hl 0 rfl) ?_
  refine lv_lload_n hx hb dJ13_bitCount_95d88_35 rfl (lv_at hl 0 rfl) ?_
  refine lv_bipush (v := 8) hx hb dJ13_bitCount_95d88_36 bp_8 ?_
  refine lv_lushr hx hb dJ13_bitCount_95d88_38 rfl ?_
  refine lv_topl (fun z11 _ => ?_)
  refine lv_ladd hx hb dJ13_bitCount_95d88_39 ?_
  refine lv_topl (fun z12 _ => ?_)
  refine lv_lstore_n (lv' := [(0, .long z12)]) hx hb dJ13_bitCount_95d88_40 rfl hl (Nat.le_of_ble_eq_true rfl) rfl (fun ls hl => ?_)
  refine lv_lload_n hx hb dJ13_bitCount_95d88_41 rfl (lv_at hl 0 rfl) ?_
  refine lv_lload_n hx hb dJ13_bitCount_95d88_42 rfl (lv_at hl 0 rfl) ?_
  refine lv_bipush (v := 16) hx hb dJ13_bitCount_95d88_43 bp_16 ?_
  refine lv_lushr hx hb dJ13_bitCount_95d88_45 rfl ?_
  refine lv_topl (fun z13 _ => ?_)
  refine lv_ladd hx hb dJ13_bitCount_95d88_46 ?_
  refine lv_topl (fun z14 _ => ?_)
  refine lv_lstore_n (lv' := [(0, .long z14)]) hx hb dJ13_bitCount_95d88_47 rfl hl (Nat.le_of_ble_eq_true rfl) rfl (fun ls hl => ?_)
  refine lv_lload_n hx hb dJ13_bitCount_95d88_48 rfl (lv_at hl 0 rfl) ?_
  refine lv_lload_n hx hb dJ13_bitCount_95d88_49 rfl (lv_at hl 0 rfl) ?_
  refine lv_bipush (v := 32) hx hb dJ13_bitCount_95d88_50 bp_32 ?_
  refine lv_lushr hx hb dJ13_bitCount_95d88_52 rfl ?_
  refine lv_topl (fun z15 _ => ?_)
  refine lv_ladd hx hb dJ13_bitCount_95d88_53 ?_
  refine lv_topl (fun z16 _ => ?_)
  refine lv_lstore_n (lv' := [(0, .long z16)]) hx hb dJ13_bitCount_95d88_54 rfl hl (Nat.le_of_ble_eq_true rfl) rfl (fun ls hl => ?_)
  refine lv_lload_n hx hb dJ13_bitCount_95d88_55 rfl (lv_at hl 0 rfl) ?_
  refine lv_l2i hx hb dJ13_bitCount_95d88_56 rfl ?_
  refine lv_topi (fun z17 _ => ?_)
  refine lv_bipush (v := 127) hx hb dJ13_bitCount_95d88_57 bp_127 ?_
  refine lv_iand hx hb dJ13_bitCount_95d88_59 ?_
  refine iv_top (a := 0) (b := 127) (iv_and (m := 127) (by decide) (by decide) (by decide)) (fun z18 b19 => ?_)
  have hP9 := hP
  have hD9 := hD
  exact W.iret (v := z18) hx hb hr (fun t ht hW => ⟨⟨z18, (), rfl, b19, by rw [ht]; exact hP9, hD9⟩, hS.F ht⟩) hS.2.2 dJ13_bitCount_95d88_60
def rm_sJ_zeros : Room := { frames := 0, cells := 0, slots := 0, locals := 0 }
set_option maxHeartbeats 4000000 in
set_option maxRecDepth 100000 in
theorem sJ_zeros (l : Launch) (dC : Nat → ClassId) (dI : Nat → Nat → Nat) (kB kI kJ kZ kC kS : ClassId) (sz : Nat) (p0 : Int32) : Met l yJ6_numberOfTrailingZeros_0f7a4 wsJ6_numberOfTrailingZeros_0f7a4 rm_sJ_zeros (va_Pc [.int p0] (fun U => U.heap.size = sz ∧ va_P (dC, dI) vwCl [] U.heap ∧ kE dC dI kB kI kJ kZ kC kS U ∧ va_D (fun _ => True) [])) (va_Qi (fun (r : Int32) (_ : Unit) => True) (fun _ t => va_P (dC, dI) vwCl [] t.heap ∧ va_D (va_A [] sz) []) (va_A [] sz)) 0 0 (va_A [] sz) := by
  refine Met.ofW (cc := cJ6_numberOfTrailingZeros_0f7a4) (maxL := 2) (ret := (some .int)) (by decide) rfl ?_
  intro p e s m args0 below meth c s₁ B hml hv
  obtain ⟨hargs, hsz, hP, hE, hD0⟩ := hv
  have hx := B.exec
  have hb := B.bytes
  have hr := B.returns
  have hts := atoms_spec (ws := wsJ6_numberOfTrailingZeros_0f7a4) B.pre
  have hown : s.vm.findClass RJ6 = some m.cls := findClass_of_methodNamed B.named
  have hlocks := B.notSynchronized
  have hK := hE.1
  have hw_0 := hts (.constant RJ6 264 (65536)) (List.mem_of_getElem? (i := 1) rfl)
  subst hsz
  have hD := hD0.self (sz := s.heap.size)
  generalize hAe : va_A [] s.heap.size = A at hD ⊢
  have hA : ∀ q : Nat, s.heap.size ≤ q → A q := fun q h => by rw [← hAe]; exact Or.inr h
  have hS : va_S A s.heap s.heap [] := va_S.rf
  have hP : va_P (dC, dI) vwCl [] s.heap := hP
  have hl := lv_entry ([.int p0]) (n := 2) (Nat.le_of_ble_eq_true rfl)
  have hla : entryFrame m args0 2 = entryFrame m ([.int p0] : List Value).toArray 2 := by rw [hargs]
  rw [hla, lg_entry_eq]
  generalize (lg_sl ([.int p0]) ++ List.replicate (2 - (lg_sl ([.int p0])).length) Slot.unset).toArray = ls at hl ⊢
  have hl : lv_has ls 2 [(0, .int p0)] := hl
  have hJ74 : ∀ (v74_loc0 : Int32) (v74_loc1 : Int32) (H : Heap) (locs : List Loc) (ls : Array Slot), iv 1 31 v74_loc1 → va_P (dC, dI) vwCl [] H → va_D A [] → va_S A s.heap H locs → lv_has ls 2 [(0, .int v74_loc0), (1, .int v74_loc1)] → W p l e (headSpec wsJ6_numberOfTrailingZeros_0f7a4 rm_sJ_zeros).room s m args0 below meth c H locs (0) (0) (MQ below (va_Qi (fun (r : Int32) (_ : Unit) => True) (fun _ t => va_P (dC, dI) vwCl [] t.heap ∧ va_D A []) A) args0 s 0 0 A) (F0 m 74 ls []) := by
    intro v74_loc0 v74_loc1 H locs ls h74_1 hP hD hS hl
    refine lv_iload_n hx hb dJ6_numberOfTrailingZeros_0f7a4_74 rfl (lv_at hl 1 rfl) ?_
    refine lv_iload_n hx hb dJ6_numberOfTrailingZeros_0f7a4_75 rfl (lv_at hl 0 rfl) ?_
    refine lv_iconst (v := 1) hx hb dJ6_numberOfTrailingZeros_0f7a4_76 ic_1 ?_
    refine lv_iushr hx hb dJ6_numberOfTrailingZeros_0f7a4_77 rfl ?_
    refine lv_topi (fun z1 _ => ?_)
    refine lv_iadd hx hb dJ6_numberOfTrailingZeros_0f7a4_78 ?_
    refine lv_topi (fun z2 _ => ?_)
    have hP9 := hP
    have hD9 := hD
    exact W.iret (v := z2) hx hb hr (fun t ht hW => ⟨⟨z2, (), rfl, trivial, by rw [ht]; exact hP9, hD9⟩, hS.F ht⟩) hS.2.2 dJ6_numberOfTrailingZeros_0f7a4_79
  have hJ62 : ∀ (v62_loc0 : Int32) (v62_loc1 : Int32) (H : Heap) (locs : List Loc) (ls : Array Slot), iv 1 29 v62_loc1 → va_P (dC, dI) vwCl [] H → va_D A [] → va_S A s.heap H locs → lv_has ls 2 [(0, .int v62_loc0), (1, .int v62_loc1)] → W p l e (headSpec wsJ6_numberOfTrailingZeros_0f7a4 rm_sJ_zeros).room s m args0 below meth c H locs (0) (0) (MQ below (va_Qi (fun (r : Int32) (_ : Unit) => True) (fun _ t => va_P (dC, dI) vwCl [] t.heap ∧ va_D A []) A) args0 s 0 0 A) (F0 m 62 ls []) := by
    intro v62_loc0 v62_loc1 H locs ls h62_1 hP hD hS hl
    refine lv_iload_n hx hb dJ6_numberOfTrailingZeros_0f7a4_62 rfl (lv_at hl 0 rfl) ?_
    refine lv_iconst (v := 4) hx hb dJ6_numberOfTrailingZeros_0f7a4_63 ic_4 ?_
    refine lv_icmp_le (tgt := 74) hx hb dJ6_numberOfTrailingZeros_0f7a4_64 rfl (fun c3 => ?_) (fun c3 => ?_)
    · have b4 : iv (-2147483648) 4 v62_loc0 := iv_leL c3 (iv_t v62_loc0) ivk_4 (by decide) (by decide)
      exact hJ74 v62_loc0 v62_loc1 _ _ _ ((iv_w h62_1 (by decide) (by decide))) (hP) (hD) hS (lv_sub hl [0, 1] rfl)
    · have b5 : iv 5 2147483647 v62_loc0 := iv_ltR (Int32.not_le.mp c3) ivk_4 (iv_t v62_loc0) (by decide) (by decide)
      refine lv_iinc (v := v62_loc1 + Int32.ofInt 2) (lv' := [(1, .int (v62_loc1 + Int32.ofInt 2)), (0, .int v62_loc0)]) hx hb dJ6_numberOfTrailingZeros_0f7a4_67 hl (k := 1) rfl (rfl) (Nat.le_of_ble_eq_true rfl) rfl (fun ls hl => ?_)
      have b6 : iv 3 31 (v62_loc1 + Int32.ofInt 2) := iv_add h62_1 ivo_2 (by decide) (by decide) (by decide) (by decide)
      refine lv_iload_n hx hb dJ6_numberOfTrailingZeros_0f7a4_70 rfl (lv_at hl 1 rfl) ?_
      refine lv_iconst (v := 2) hx hb dJ6_numberOfTrailingZeros_0f7a4_71 ic_2 ?_
      refine lv_iushr hx hb dJ6_numberOfTrailingZeros_0f7a4_72 rfl ?_
      refine lv_topi (fun z7 _ => ?_)
      refine lv_istore_n (lv' := [(0, .int z7), (1, .int (v62_loc1 + Int32.ofInt 2))]) hx hb dJ6_numberOfTrailingZeros_0f7a4_73 rfl hl (Nat.le_of_ble_eq_true rfl) rfl (fun ls hl => ?_)
      exact hJ74 z7 (v62_loc1 + Int32.ofInt 2) _ _ _ ((iv_w b6 (by decide) (by decide))) (hP) (hD) hS (lv_sub hl [0, 1] rfl)
  have hJ49 : ∀ (v49_loc0 : Int32) (v49_loc1 : Int32) (H : Heap) (locs : List Loc) (ls : Array Slot), iv 1 25 v49_loc1 → va_P (dC, dI) vwCl [] H → va_D A [] → va_S A s.heap H locs → lv_has ls 2 [(0, .int v49_loc0), (1, .int v49_loc1)] → W p l e (headSpec wsJ6_numberOfTrailingZeros_0f7a4 rm_sJ_zeros).room s m args0 below meth c H locs (0) (0) (MQ below (va_Qi (fun (r : Int32) (_ : Unit) => True) (fun _ t => va_P (dC, dI) vwCl [] t.heap ∧ va_D A []) A) args0 s 0 0 A) (F0 m 49 ls []) := by
    intro v49_loc0 v49_loc1 H locs ls h49_1 hP hD hS hl
    refine lv_iload_n hx hb dJ6_numberOfTrailingZeros_0f7a4_49 rfl (lv_at hl 0 rfl) ?_
    refine lv_bipush (v := 16) hx hb dJ6_numberOfTrailingZeros_0f7a4_50 bp_16 ?_
    refine lv_icmp_le (tgt := 62) hx hb dJ6_numberOfTrailingZeros_0f7a4_52 rfl (fun c8 => ?_) (fun c8 => ?_)
    · have b9 : iv (-2147483648) 16 v49_loc0 := iv_leL c8 (iv_t v49_loc0) ivk_16 (by decide) (by decide)
      exact hJ62 v49_loc0 v49_loc1 _ _ _ ((iv_w h49_1 (by decide) (by decide))) (hP) (hD) hS (lv_sub hl [0, 1] rfl)
    · have b10 : iv 17 2147483647 v49_loc0 := iv_ltR (Int32.not_le.mp c8) ivk_16 (iv_t v49_loc0) (by decide) (by decide)
      refine lv_iinc (v := v49_loc1 + Int32.ofInt 4) (lv' := [(1, .int (v49_loc1 + Int32.ofInt 4)), (0, .int v49_loc0)]) hx hb dJ6_numberOfTrailingZeros_0f7a4_55 hl (k := 1) rfl (rfl) (Nat.le_of_ble_eq_true rfl) rfl (fun ls hl => ?_)
      have b11 : iv 5 29 (v49_loc1 + Int32.ofInt 4) := iv_add h49_1 ivo_4 (by decide) (by decide) (by decide) (by decide)
      refine lv_iload_n hx hb dJ6_numberOfTrailingZeros_0f7a4_58 rfl (lv_at hl 1 rfl) ?_
      refine lv_iconst (v := 4) hx hb dJ6_numberOfTrailingZeros_0f7a4_59 ic_4 ?_
      refine lv_iushr hx hb dJ6_numberOfTrailingZeros_0f7a4_60 rfl ?_
      refine lv_topi (fun z12 _ => ?_)
      refine lv_istore_n (lv' := [(0, .int z12), (1, .int (v49_loc1 + Int32.ofInt 4))]) hx hb dJ6_numberOfTrailingZeros_0f7a4_61 rfl hl (Nat.le_of_ble_eq_true rfl) rfl (fun ls hl => ?_)
      exact hJ62 z12 (v49_loc1 + Int32.ofInt 4) _ _ _ ((iv_w b11 (by decide) (by decide))) (hP) (hD) hS (lv_sub hl [0, 1] rfl)
  have hJ34 : ∀ (v34_loc0 : Int32) (v34_loc1 : Int32) (H : Heap) (locs : List Loc) (ls : Array Slot), iv 1 17 v34_loc1 → va_P (dC, dI) vwCl [] H → va_D A [] → va_S A s.heap H locs → lv_has ls 2 [(0, .int v34_loc0), (1, .int v34_loc1)] → W p l e (headSpec wsJ6_numberOfTrailingZeros_0f7a4 rm_sJ_zeros).room s m args0 below meth c H locs (0) (0) (MQ below (va_Qi (fun (r : Int32) (_ : Unit) => True) (fun _ t => va_P (dC, dI) vwCl [] t.heap ∧ va_D A []) A) args0 s 0 0 A) (F0 m 34 ls []) := by
    intro v34_loc0 v34_loc1 H locs ls h34_1 hP hD hS hl
    refine lv_iload_n hx hb dJ6_numberOfTrailingZeros_0f7a4_34 rfl (lv_at hl 0 rfl) ?_
    refine lv_sipush (v := 256) hx hb dJ6_numberOfTrailingZeros_0f7a4_35 (by decide) ?_
    refine lv_icmp_le (tgt := 49) hx hb dJ6_numberOfTrailingZeros_0f7a4_38 rfl (fun c13 => ?_) (fun c13 => ?_)
    · have b14 : iv (-2147483648) 256 v34_loc0 := iv_leL c13 (iv_t v34_loc0) ivk_256 (by decide) (by decide)
      exact hJ49 v34_loc0 v34_loc1 _ _ _ ((iv_w h34_1 (by decide) (by decide))) (hP) (hD) hS (lv_sub hl [0, 1] rfl)
    · have b15 : iv 257 2147483647 v34_loc0 := iv_ltR (Int32.not_le.mp c13) ivk_256 (iv_t v34_loc0) (by decide) (by decide)
      refine lv_iinc (v := v34_loc1 + Int32.ofInt 8) (lv' := [(1, .int (v34_loc1 + Int32.ofInt 8)), (0, .int v34_loc0)]) hx hb dJ6_numberOfTrailingZeros_0f7a4_41 hl (k := 1) rfl (rfl) (Nat.le_of_ble_eq_true rfl) rfl (fun ls hl => ?_)
      have b16 : iv 9 25 (v34_loc1 + Int32.ofInt 8) := iv_add h34_1 (iv_k (by decide) (by decide) : iv 8 8 (Int32.ofInt 8)) (by decide) (by decide) (by decide) (by decide)
      refine lv_iload_n hx hb dJ6_numberOfTrailingZeros_0f7a4_44 rfl (lv_at hl 1 rfl) ?_
      refine lv_bipush (v := 8) hx hb dJ6_numberOfTrailingZeros_0f7a4_45 bp_8 ?_
      refine lv_iushr hx hb dJ6_numberOfTrailingZeros_0f7a4_47 rfl ?_
      refine lv_topi (fun z17 _ => ?_)
      refine lv_istore_n (lv' := [(0, .int z17), (1, .int (v34_loc1 + Int32.ofInt 8))]) hx hb dJ6_numberOfTrailingZeros_0f7a4_48 rfl hl (Nat.le_of_ble_eq_true rfl) rfl (fun ls hl => ?_)
      exact hJ49 z17 (v34_loc1 + Int32.ofInt 8) _ _ _ ((iv_w b16 (by decide) (by decide))) (hP) (hD) hS (lv_sub hl [0, 1] rfl)
  refine lv_iload_n hx hb dJ6_numberOfTrailingZeros_0f7a4_0 rfl (lv_at hl 0 rfl) ?_
  refine lv_iconst (v := (-1)) hx hb dJ6_numberOfTrailingZeros_0f7a4_1 ic_m1 ?_
  refine lv_ixor hx hb dJ6_numberOfTrailingZeros_0f7a4_2 ?_
  refine lv_topi (fun z18 _ => ?_)
  refine lv_iload_n hx hb dJ6_numberOfTrailingZeros_0f7a4_3 rfl (lv_at hl 0 rfl) ?_
  refine lv_iconst (v := 1) hx hb dJ6_numberOfTrailingZeros_0f7a4_4 ic_1 ?_
  refine lv_isub hx hb dJ6_numberOfTrailingZeros_0f7a4_5 ?_
  refine lv_topi (fun z19 _ => ?_)
  refine lv_iand hx hb dJ6_numberOfTrailingZeros_0f7a4_6 ?_
  refine lv_topi (fun z20 _ => ?_)
  refine lv_istore_n (lv' := [(0, .int z20)]) hx hb dJ6_numberOfTrailingZeros_0f7a4_7 rfl hl (Nat.le_of_ble_eq_true rfl) rfl (fun ls hl => ?_)
  refine lv_iload_n hx hb dJ6_numberOfTrailingZeros_0f7a4_8 rfl (lv_at hl 0 rfl) ?_
  refine lv_if_gt (tgt := 17) hx hb dJ6_numberOfTrailingZeros_0f7a4_9 rfl (fun c21 => ?_) (fun c21 => ?_)
  · have b22 : iv 1 2147483647 z20 := iv_ltR c21 ivk_0 (iv_t z20) (by decide) (by decide)
    refine lv_iconst (v := 1) hx hb dJ6_numberOfTrailingZeros_0f7a4_17 ic_1 ?_
    refine lv_istore_n (lv' := [(1, .int 1), (0, .int z20)]) hx hb dJ6_numberOfTrailingZeros_0f7a4_18 rfl hl (Nat.le_of_ble_eq_true rfl) rfl (fun ls hl => ?_)
    refine lv_iload_n hx hb dJ6_numberOfTrailingZeros_0f7a4_19 rfl (lv_at hl 1 rfl) ?_
    refine lv_ldcw hx hb hown hw_0 dJ6_numberOfTrailingZeros_0f7a4_20 ?_
    refine lv_icmp_le (tgt := 34) hx hb dJ6_numberOfTrailingZeros_0f7a4_23 rfl (fun c23 => ?_) (fun c23 => ?_)
    · have b24 : iv 1 65536 z20 := iv_leL c23 b22 (iv_k (by decide) (by decide) : iv 65536 65536 65536) (by decide) (by decide)
      exact hJ34 z20 1 _ _ _ ((iv_w ivk_1 (by decide) (by decide))) (hP) (hD) hS (lv_sub hl [1, 0] rfl)
    · have b25 : iv 65537 2147483647 z20 := iv_ltR (Int32.not_le.mp c23) (iv_k (by decide) (by decide) : iv 65536 65536 65536) b22 (by decide) (by decide)
      refine lv_iinc (v := 17) (lv' := [(1, .int 17), (0, .int z20)]) hx hb dJ6_numberOfTrailingZeros_0f7a4_26 hl (k := 0) rfl (by decide) (Nat.le_of_ble_eq_true rfl) rfl (fun ls hl => ?_)
      refine lv_iload_n hx hb dJ6_numberOfTrailingZeros_0f7a4_29 rfl (lv_at hl 1 rfl) ?_
      refine lv_bipush (v := 16) hx hb dJ6_numberOfTrailingZeros_0f7a4_30 bp_16 ?_
      refine lv_iushr hx hb dJ6_numberOfTrailingZeros_0f7a4_32 rfl ?_
      refine lv_topi (fun z26 _ => ?_)
      refine lv_istore_n (lv' := [(0, .int z26), (1, .int 17)]) hx hb dJ6_numberOfTrailingZeros_0f7a4_33 rfl hl (Nat.le_of_ble_eq_true rfl) rfl (fun ls hl => ?_)
      exact hJ34 z26 17 _ _ _ ((iv_w ivk_17 (by decide) (by decide))) (hP) (hD) hS (lv_sub hl [0, 1] rfl)
  · have b27 : iv (-2147483648) 0 z20 := iv_leL (Int32.not_lt.mp c21) (iv_t z20) ivk_0 (by decide) (by decide)
    refine lv_iload_n hx hb dJ6_numberOfTrailingZeros_0f7a4_12 rfl (lv_at hl 0 rfl) ?_
    refine lv_bipush (v := 32) hx hb dJ6_numberOfTrailingZeros_0f7a4_13 bp_32 ?_
    refine lv_iand hx hb dJ6_numberOfTrailingZeros_0f7a4_15 ?_
    refine iv_top (a := 0) (b := 32) (iv_and (m := 32) (by decide) (by decide) (by decide)) (fun z28 b29 => ?_)
    have hP9 := hP
    have hD9 := hD
    exact W.iret (v := z28) hx hb hr (fun t ht hW => ⟨⟨z28, (), rfl, trivial, by rw [ht]; exact hP9, hD9⟩, hS.F ht⟩) hS.2.2 dJ6_numberOfTrailingZeros_0f7a4_16
def rm_sJ_zerosL : Room := { frames := 1, cells := 0, slots := 0, locals := 21 }
set_option maxHeartbeats 4000000 in
set_option maxRecDepth 100000 in
theorem sJ_zerosL (l : Launch) (dC : Nat → ClassId) (dI : Nat → Nat → Nat) (kB kI kJ kZ kC kS : ClassId) (sz : Nat) (p0 : Int64) : Met l yJ13_numberOfTrailingZeros_95d88 wsJ13_numberOfTrailingZeros_95d88 rm_sJ_zerosL (va_Pc [.long p0] (fun U => U.heap.size = sz ∧ va_P (dC, dI) vwCl [] U.heap ∧ kE dC dI kB kI kJ kZ kC kS U ∧ va_D (fun _ => True) [])) (va_Qi (fun (r : Int32) (_ : Unit) => True) (fun _ t => va_P (dC, dI) vwCl [] t.heap ∧ va_D (va_A [] sz) []) (va_A [] sz)) 0 0 (va_A [] sz) := by
  refine Met.ofW (cc := cJ13_numberOfTrailingZeros_95d88) (maxL := 3) (ret := (some .int)) (by decide) rfl ?_
  intro p e s m args0 below meth c s₁ B hml hv
  obtain ⟨hargs, hsz, hP, hE, hD0⟩ := hv
  have hx := B.exec
  have hb := B.bytes
  have hr := B.returns
  have hts := atoms_spec (ws := wsJ13_numberOfTrailingZeros_95d88) B.pre
  have hown : s.vm.findClass RJ13 = some m.cls := findClass_of_methodNamed B.named
  have hlocks := B.notSynchronized
  have hK := hE.1
  subst hsz
  have hD := hD0.self (sz := s.heap.size)
  generalize hAe : va_A [] s.heap.size = A at hD ⊢
  have hA : ∀ q : Nat, s.heap.size ≤ q → A q := fun q h => by rw [← hAe]; exact Or.inr h
  have hS : va_S A s.heap s.heap [] := va_S.rf
  have hP : va_P (dC, dI) vwCl [] s.heap := hP
  have hl := lv_entry ([.long p0]) (n := 3) (Nat.le_of_ble_eq_true rfl)
  have hla : entryFrame m args0 3 = entryFrame m ([.long p0] : List Value).toArray 3 := by rw [hargs]
  rw [hla, lg_entry_eq]
  generalize (lg_sl ([.long p0]) ++ List.replicate (3 - (lg_sl ([.long p0])).length) Slot.unset).toArray = ls at hl ⊢
  have hl : lv_has ls 3 [(0, .long p0)] := hl
  refine lv_lload_n hx hb dJ13_numberOfTrailingZeros_95d88_0 rfl (lv_at hl 0 rfl) ?_
  refine lv_l2i hx hb dJ13_numberOfTrailingZeros_95d88_1 rfl ?_
  refine lv_topi (fun z1 _ => ?_)
  refine lv_istore_n (lv' := [(2, .int z1), (0, .long p0)]) hx hb dJ13_numberOfTrailingZeros_95d88_2 rfl hl (Nat.le_of_ble_eq_true rfl) rfl (fun ls hl => ?_)
  refine lv_iload_n hx hb dJ13_numberOfTrailingZeros_95d88_3 rfl (lv_at hl 0 rfl) ?_
  refine lv_if_ne (tgt := 21) hx hb dJ13_numberOfTrailingZeros_95d88_4 rfl (fun c2 => ?_) (fun c2 => ?_)
  · refine lv_iload_n hx hb dJ13_numberOfTrailingZeros_95d88_21 rfl (lv_at hl 0 rfl) ?_
    obtain ⟨hPc, hDc, hFc, hJn⟩ := cl_a (wc := []) (wr := []) hP hD hS hA [] [] rfl rfl (by decide +kernel)
    refine va_calli (va_runS (As := [.int z1]) (rest := []) ⟨hx, hb, hml, hown, hts⟩ (sJ_zeros l dC dI kB kI kJ kZ kC kS s.heap.size z1) (va_cwS 1 hts gJ13_numberOfTrailingZeros_95d88_J6_numberOfTrailingZeros_0f7a4 rfl rfl rfl (by decide +kernel) ⟨Nat.le_of_ble_eq_true rfl, Nat.le_of_ble_eq_true rfl⟩) ⟨fun a U g mk q => by obtain ⟨q0, q1, qP, qE, qD⟩ := q; exact ⟨q0, q1, qP, kE_call qE, qD⟩, fun U hU hW => ⟨rfl, by rw [hU], by rw [hU]; exact hPc, kE_warm hW hE, hDc.weaken (fun _ _ _ _ => trivial)⟩⟩ rfl rfl hl.1 rfl (lv_room (Nat.le_of_ble_eq_true rfl)) dJ13_numberOfTrailingZeros_95d88_22 ⟨Nat.le_of_ble_eq_true rfl, Nat.le_of_ble_eq_true rfl⟩) hS (fun q _ h => hFc q h) hFc (fun r3 u t H locs ht hvm w4 hB hz1 hk1 hS => ?_)
    obtain ⟨hP1, hD1⟩ := hB
    try dsimp only at w4
    obtain ⟨hPa, hDa⟩ := hJn (w1 := []) hk1 ht hP1 hD1
    clear hP hD hPc hDc hFc hJn hP1 hD1 hk1
    have hP : va_P (dC, dI) vwCl [] H := hPa
    have hD : va_D A [] := hDa
    clear hPa hDa
    refine W.widen (k := 0) (n := 0) (Nat.le_of_ble_eq_true rfl) (Nat.le_of_ble_eq_true rfl) ?_
    have hP9 := hP
    have hD9 := hD
    exact W.iret (v := r3) hx hb hr (fun t ht hW => ⟨⟨r3, (), rfl, trivial, by rw [ht]; exact hP9, hD9⟩, hS.F ht⟩) hS.2.2 dJ13_numberOfTrailingZeros_95d88_25
  · have b5 : iv 0 0 z1 := iv_eqL c2 ivk_0
    refine lv_bipush (v := 32) hx hb dJ13_numberOfTrailingZeros_95d88_7 bp_32 ?_
    refine lv_lload_n hx hb dJ13_numberOfTrailingZeros_95d88_9 rfl (lv_at hl 1 rfl) ?_
    refine lv_bipush (v := 32) hx hb dJ13_numberOfTrailingZeros_95d88_10 bp_32 ?_
    refine lv_lushr hx hb dJ13_numberOfTrailingZeros_95d88_12 rfl ?_
    refine lv_topl (fun z6 _ => ?_)
    refine lv_l2i hx hb dJ13_numberOfTrailingZeros_95d88_13 rfl ?_
    refine lv_topi (fun z7 _ => ?_)
    obtain ⟨hPc, hDc, hFc, hJn⟩ := cl_a (wc := []) (wr := []) hP hD hS hA [] [] rfl rfl (by decide +kernel)
    refine va_calli (va_runS (As := [.int z7]) (rest := [.int 32]) ⟨hx, hb, hml, hown, hts⟩ (sJ_zeros l dC dI kB kI kJ kZ kC kS s.heap.size z7) (va_cwS 1 hts gJ13_numberOfTrailingZeros_95d88_J6_numberOfTrailingZeros_0f7a4 rfl rfl rfl (by decide +kernel) ⟨Nat.le_of_ble_eq_true rfl, Nat.le_of_ble_eq_true rfl⟩) ⟨fun a U g mk q => by obtain ⟨q0, q1, qP, qE, qD⟩ := q; exact ⟨q0, q1, qP, kE_call qE, qD⟩, fun U hU hW => ⟨rfl, by rw [hU], by rw [hU]; exact hPc, kE_warm hW hE, hDc.weaken (fun _ _ _ _ => trivial)⟩⟩ rfl rfl hl.1 rfl (lv_room (Nat.le_of_ble_eq_true rfl)) dJ13_numberOfTrailingZeros_95d88_14 ⟨Nat.le_of_ble_eq_true rfl, Nat.le_of_ble_eq_true rfl⟩) hS (fun q _ h => hFc q h) hFc (fun r8 u t H locs ht hvm w9 hB hz1 hk1 hS => ?_)
    obtain ⟨hP1, hD1⟩ := hB
    try dsimp only at w9
    obtain ⟨hPa, hDa⟩ := hJn (w1 := []) hk1 ht hP1 hD1
    clear hP hD hPc hDc hFc hJn hP1 hD1 hk1
    have hP : va_P (dC, dI) vwCl [] H := hPa
    have hD : va_D A [] := hDa
    clear hPa hDa
    refine W.widen (k := 0) (n := 0) (Nat.le_of_ble_eq_true rfl) (Nat.le_of_ble_eq_true rfl) ?_
    refine lv_iadd hx hb dJ13_numberOfTrailingZeros_95d88_17 ?_
    refine lv_topi (fun z10 _ => ?_)
    refine lv_goto (tgt := 25) hx hb dJ13_numberOfTrailingZeros_95d88_18 rfl ?_
    have hP9 := hP
    have hD9 := hD
    exact W.iret (v := z10) hx hb hr (fun t ht hW => ⟨⟨z10, (), rfl, trivial, by rw [ht]; exact hP9, hD9⟩, hS.F ht⟩) hS.2.2 dJ13_numberOfTrailingZeros_95d88_25
def rm_s7_widthAt : Room := { frames := 1, cells := 0, slots := 0, locals := 25 }
set_option maxHeartbeats 4000000 in
set_option maxRecDepth 100000 in
theorem s7_widthAt (l : Launch) (dC : Nat → ClassId) (dI : Nat → Nat → Nat) (kB kI kJ kZ kC kS : ClassId) (sz : Nat) (si : Nat) (on : Nat) (oc : Nat) (si_edgesFrom : Nat) (si_diamondFirst : Nat) (si_diamondLast : Nat) (x_si : Nat → Int32) (c_seen : Nat) (c_sent : Nat) (c_turn : Nat) (c_counter : Nat) (x_c : Nat → Int32) (f_c_seen : Nat → Int64) (p0 : Int32) (p1 : Int32) (hf_c_seen : sI f_c_seen) (hp0 : iv 0 2 p0) : Met l yX7_widthAt wsX7_widthAt rm_s7_widthAt (va_Pc [.ref si, .int p0, .int p1] (fun U => U.heap.size = sz ∧ va_P (dC, dI) vwCl [(si, .inr (7, oX7 on oc si_edgesFrom si_diamondFirst si_diamondLast x_si)), (oc, .inr (0, oX0 c_seen c_sent c_turn c_counter x_c)), (c_seen, .inl (kJ, 96, .inr (.inl f_c_seen)))] U.heap ∧ kE dC dI kB kI kJ kZ kC kS U ∧ va_D (fun _ => True) [(si, .inr (7, oX7 on oc si_edgesFrom si_diamondFirst si_diamondLast x_si)), (oc, .inr (0, oX0 c_seen c_sent c_turn c_counter x_c)), (c_seen, .inl (kJ, 96, .inr (.inl f_c_seen)))])) (va_Qi (fun (r : Int32) (_ : Unit) => iv 0 63 r) (fun _ t => va_P (dC, dI) vwCl [(si, .inr (7, oX7 on oc si_edgesFrom si_diamondFirst si_diamondLast x_si)), (oc, .inr (0, oX0 c_seen c_sent c_turn c_counter x_c)), (c_seen, .inl (kJ, 96, .inr (.inl f_c_seen)))] t.heap ∧ va_D (va_A [(si, .inr (7, oX7 on oc si_edgesFrom si_diamondFirst si_diamondLast x_si)), (oc, .inr (0, oX0 c_seen c_sent c_turn c_counter x_c)), (c_seen, .inl (kJ, 96, .inr (.inl f_c_seen)))] sz) [(si, .inr (7, oX7 on oc si_edgesFrom si_diamondFirst si_diamondLast x_si)), (oc, .inr (0, oX0 c_seen c_sent c_turn c_counter x_c)), (c_seen, .inl (kJ, 96, .inr (.inl f_c_seen)))]) (va_A [(si, .inr (7, oX7 on oc si_edgesFrom si_diamondFirst si_diamondLast x_si)), (oc, .inr (0, oX0 c_seen c_sent c_turn c_counter x_c)), (c_seen, .inl (kJ, 96, .inr (.inl f_c_seen)))] sz)) 0 0 (va_A [(si, .inr (7, oX7 on oc si_edgesFrom si_diamondFirst si_diamondLast x_si)), (oc, .inr (0, oX0 c_seen c_sent c_turn c_counter x_c)), (c_seen, .inl (kJ, 96, .inr (.inl f_c_seen)))] sz) := by
  refine Met.ofW (cc := cX7_widthAt) (maxL := 3) (ret := (some .int)) (by decide) rfl ?_
  intro p e s m args0 below meth c s₁ B hml hv
  obtain ⟨hargs, hsz, hP, hE, hD0⟩ := hv
  have hx := B.exec
  have hb := B.bytes
  have hr := B.returns
  have hts := atoms_spec (ws := wsX7_widthAt) B.pre
  have hown : s.vm.findClass RX7 = some m.cls := findClass_of_methodNamed B.named
  have hlocks := B.notSynchronized
  have hK := hE.1
  have hin7 : ∀ w ∈ wsX70, w ∈ wsX7_widthAt := fun _ h9 => List.mem_cons_of_mem _ (List.mem_append_left _ (List.mem_append_right _ h9))
  have hin0 : ∀ w ∈ wsX00, w ∈ wsX7_widthAt := fun _ h9 => List.mem_cons_of_mem _ (List.mem_append_right _ h9)
  have hw_0 := hts (.fieldLink RX7 25 "PathProber$Sight" "now" "LPathProber$Condition;") (List.mem_of_getElem? (i := 1) rfl)
  subst hsz
  have hD := hD0.self (sz := s.heap.size)
  generalize hAe : va_A [(si, .inr (7, oX7 on oc si_edgesFrom si_diamondFirst si_diamondLast x_si)), (oc, .inr (0, oX0 c_seen c_sent c_turn c_counter x_c)), (c_seen, .inl (kJ, 96, .inr (.inl f_c_seen)))] s.heap.size = A at hD ⊢
  have hA : ∀ q : Nat, s.heap.size ≤ q → A q := fun q h => by rw [← hAe]; exact Or.inr h
  have hS : va_S A s.heap s.heap [] := va_S.rf
  have hP : va_P (dC, dI) vwCl [(si, .inr (7, oX7 on oc si_edgesFrom si_diamondFirst si_diamondLast x_si)), (oc, .inr (0, oX0 c_seen c_sent c_turn c_counter x_c)), (c_seen, .inl (kJ, 96, .inr (.inl f_c_seen)))] s.heap := hP
  have hl := lv_entry ([.ref si, .int p0, .int p1]) (n := 3) (Nat.le_of_ble_eq_true rfl)
  have hla : entryFrame m args0 3 = entryFrame m ([.ref si, .int p0, .int p1] : List Value).toArray 3 := by rw [hargs]
  rw [hla, lg_entry_eq]
  generalize (lg_sl ([.ref si, .int p0, .int p1]) ++ List.replicate (3 - (lg_sl ([.ref si, .int p0, .int p1])).length) Slot.unset).toArray = ls at hl ⊢
  have hl : lv_has ls 3 [(0, .ref si), (1, .int p0), (2, .int p1)] := hl
  refine lv_aload_n hx hb dX7_widthAt_0 rfl (lv_at hl 0 rfl) ?_
  refine va_get (D := (dC, dI)) (ci := 7) (v := .ref oc) (C := RX7) (T := TX7) (N := 5) hx hb hts hin7 hown hK hP 0 rfl rfl 1 (Nat.le_of_ble_eq_true rfl) hw_0 (fun _ h9 => h9) rfl dX7_widthAt_1 ?_
  refine lv_iload_n hx hb dX7_widthAt_4 rfl (lv_at hl 1 rfl) ?_
  refine lv_iload_n hx hb dX7_widthAt_5 rfl (lv_at hl 2 rfl) ?_
  obtain ⟨hPc, hDc, hFc, hJn⟩ := cl_a (wc := [(oc, .inr (0, oX0 c_seen c_sent c_turn c_counter x_c)), (c_seen, .inl (kJ, 96, .inr (.inl f_c_seen)))]) (wr := [(si, .inr (7, oX7 on oc si_edgesFrom si_diamondFirst si_diamondLast x_si))]) hP hD hS hA [1, 2] [0] rfl rfl (by decide +kernel)
  refine va_calli (va_runV (As := [.int p0, .int p1]) (rest := []) ⟨hx, hb, hml, hown, hts⟩ (s0_seenAt l dC dI kB kI kJ kZ kC kS s.heap.size oc c_seen c_sent c_turn c_counter x_c f_c_seen p0 p1 (hf_c_seen) (hp0)) (cwV 2 hts gX7_widthAt_X0_seenAt rfl rfl rfl (by decide +kernel) ⟨Nat.le_of_ble_eq_true rfl, Nat.le_of_ble_eq_true rfl⟩) ⟨fun a U g mk q => by obtain ⟨q0, q1, qP, qE, qD⟩ := q; exact ⟨q0, q1, qP, kE_call qE, qD⟩, va_recv hK hP (ci := 0) (q0 := 1) rfl rfl, fun U hU hW => ⟨rfl, by rw [hU], by rw [hU]; exact hPc, kE_warm hW hE, hDc.weaken (fun _ _ _ _ => trivial)⟩⟩ rfl rfl hl.1 rfl (lv_room (Nat.le_of_ble_eq_true rfl)) dX7_widthAt_6 ⟨Nat.le_of_ble_eq_true rfl, Nat.le_of_ble_eq_true rfl⟩) hS (fun q _ h => hFc q h) hFc (fun r1 u t H locs ht hvm w2 hB hz1 hk1 hS => ?_)
  obtain ⟨hP1, hD1⟩ := hB
  try dsimp only at w2
  obtain ⟨hPa, hDa⟩ := hJn (w1 := [(oc, .inr (0, oX0 c_seen c_sent c_turn c_counter x_c)), (c_seen, .inl (kJ, 96, .inr (.inl f_c_seen)))]) hk1 ht hP1 hD1
  clear hP hD hPc hDc hFc hJn hP1 hD1 hk1
  have hP : va_P (dC, dI) vwCl [(si, .inr (7, oX7 on oc si_edgesFrom si_diamondFirst si_diamondLast x_si)), (oc, .inr (0, oX0 c_seen c_sent c_turn c_counter x_c)), (c_seen, .inl (kJ, 96, .inr (.inl f_c_seen)))] H := hPa
  have hD : va_D A [(si, .inr (7, oX7 on oc si_edgesFrom si_diamondFirst si_diamondLast x_si)), (oc, .inr (0, oX0 c_seen c_sent c_turn c_counter x_c)), (c_seen, .inl (kJ, 96, .inr (.inl f_c_seen)))] := hDa
  clear hPa hDa
  refine W.widen (k := 0) (n := 0) (Nat.le_of_ble_eq_true rfl) (Nat.le_of_ble_eq_true rfl) ?_
  obtain ⟨hPc, hDc, hFc, hJn⟩ := cl_a (wc := []) (wr := [(si, .inr (7, oX7 on oc si_edgesFrom si_diamondFirst si_diamondLast x_si)), (oc, .inr (0, oX0 c_seen c_sent c_turn c_counter x_c)), (c_seen, .inl (kJ, 96, .inr (.inl f_c_seen)))]) hP hD hS hA [] [0, 1, 2] rfl rfl (by decide +kernel)
  refine va_calli (va_runS (As := [.int r1]) (rest := []) ⟨hx, hb, hml, hown, hts⟩ (sJ_bitCount l dC dI kB kI kJ kZ kC kS H.size r1) (va_cwS 1 hts gX7_widthAt_J6_bitCount_0f7a4 rfl rfl rfl (by decide +kernel) ⟨Nat.le_of_ble_eq_true rfl, Nat.le_of_ble_eq_true rfl⟩) ⟨fun a U g mk q => by obtain ⟨q0, q1, qP, qE, qD⟩ := q; exact ⟨q0, q1, qP, kE_call qE, qD⟩, fun U hU hW => ⟨rfl, by rw [hU], by rw [hU]; exact hPc, kE_warm hW hE, hDc.weaken (fun _ _ _ _ => trivial)⟩⟩ rfl rfl hl.1 rfl (lv_room (Nat.le_of_ble_eq_true rfl)) dX7_widthAt_9 ⟨Nat.le_of_ble_eq_true rfl, Nat.le_of_ble_eq_true rfl⟩) hS (fun q _ h => hFc q h) hFc (fun r3 u t H locs ht hvm w4 hB hz1 hk1 hS => ?_)
  obtain ⟨hP1, hD1⟩ := hB
  try dsimp only at w4
  obtain ⟨hPa, hDa⟩ := hJn (w1 := []) hk1 ht hP1 hD1
  clear hP hD hPc hDc hFc hJn hP1 hD1 hk1
  have hP : va_P (dC, dI) vwCl [(si, .inr (7, oX7 on oc si_edgesFrom si_diamondFirst si_diamondLast x_si)), (oc, .inr (0, oX0 c_seen c_sent c_turn c_counter x_c)), (c_seen, .inl (kJ, 96, .inr (.inl f_c_seen)))] H := hPa
  have hD : va_D A [(si, .inr (7, oX7 on oc si_edgesFrom si_diamondFirst si_diamondLast x_si)), (oc, .inr (0, oX0 c_seen c_sent c_turn c_counter x_c)), (c_seen, .inl (kJ, 96, .inr (.inl f_c_seen)))] := hDa
  clear hPa hDa
  refine W.widen (k := 0) (n := 0) (Nat.le_of_ble_eq_true rfl) (Nat.le_of_ble_eq_true rfl) ?_
  have hP9 := hP
  have hD9 := hD
  exact W.iret (v := r3) hx hb hr (fun t ht hW => ⟨⟨r3, (), rfl, w4, by rw [ht]; exact hP9, hD9⟩, hS.F ht⟩) hS.2.2 dX7_widthAt_12
def rm_s7_addressesEverywhere : Room := { frames := 1, cells := 0, slots := 0, locals := 25 }
set_option maxHeartbeats 4000000 in
set_option maxRecDepth 100000 in
theorem s7_addressesEverywhere (l : Launch) (dC : Nat → ClassId) (dI : Nat → Nat → Nat) (kB kI kJ kZ kC kS : ClassId) (sz : Nat) (si : Nat) (on : Nat) (oc : Nat) (si_edgesFrom : Nat) (si_diamondFirst : Nat) (si_diamondLast : Nat) (x_si : Nat → Int32) (n_kind : Nat) (n_salt : Nat) (n_pace : Nat) (n_manner : Nat) (n_from : Nat) (n_to : Nat) (n_goal : Nat) (n_reach : Nat) (n_branches : Nat) (n_branch : Nat) (n_tally : Nat) (x_n : Nat → Int32) (c_seen : Nat) (c_sent : Nat) (c_turn : Nat) (c_counter : Nat) (x_c : Nat → Int32) (f_c_seen : Nat → Int64) (hx_n : fI lX2 hX2 x_n) (hf_c_seen : sI f_c_seen) : Met l yX7_addressesEverywhere wsX7_addressesEverywhere rm_s7_addressesEverywhere (va_Pc [.ref si] (fun U => U.heap.size = sz ∧ va_P (dC, dI) vwCl [(si, .inr (7, oX7 on oc si_edgesFrom si_diamondFirst si_diamondLast x_si)), (on, .inr (2, oX2 n_kind n_salt n_pace n_manner n_from n_to n_goal n_reach n_branches n_branch n_tally x_n)), (oc, .inr (0, oX0 c_seen c_sent c_turn c_counter x_c)), (c_seen, .inl (kJ, 96, .inr (.inl f_c_seen)))] U.heap ∧ kE dC dI kB kI kJ kZ kC kS U ∧ va_D (fun _ => True) [(si, .inr (7, oX7 on oc si_edgesFrom si_diamondFirst si_diamondLast x_si)), (on, .inr (2, oX2 n_kind n_salt n_pace n_manner n_from n_to n_goal n_reach n_branches n_branch n_tally x_n)), (oc, .inr (0, oX0 c_seen c_sent c_turn c_counter x_c)), (c_seen, .inl (kJ, 96, .inr (.inl f_c_seen)))])) (va_Qi (fun (r : Int32) (_ : Unit) => True) (fun _ t => va_P (dC, dI) vwCl [(si, .inr (7, oX7 on oc si_edgesFrom si_diamondFirst si_diamondLast x_si)), (on, .inr (2, oX2 n_kind n_salt n_pace n_manner n_from n_to n_goal n_reach n_branches n_branch n_tally x_n)), (oc, .inr (0, oX0 c_seen c_sent c_turn c_counter x_c)), (c_seen, .inl (kJ, 96, .inr (.inl f_c_seen)))] t.heap ∧ va_D (va_A [(si, .inr (7, oX7 on oc si_edgesFrom si_diamondFirst si_diamondLast x_si)), (on, .inr (2, oX2 n_kind n_salt n_pace n_manner n_from n_to n_goal n_reach n_branches n_branch n_tally x_n)), (oc, .inr (0, oX0 c_seen c_sent c_turn c_counter x_c)), (c_seen, .inl (kJ, 96, .inr (.inl f_c_seen)))] sz) [(si, .inr (7, oX7 on oc si_edgesFrom si_diamondFirst si_diamondLast x_si)), (on, .inr (2, oX2 n_kind n_salt n_pace n_manner n_from n_to n_goal n_reach n_branches n_branch n_tally x_n)), (oc, .inr (0, oX0 c_seen c_sent c_turn c_counter x_c)), (c_seen, .inl (kJ, 96, .inr (.inl f_c_seen)))]) (va_A [(si, .inr (7, oX7 on oc si_edgesFrom si_diamondFirst si_diamondLast x_si)), (on, .inr (2, oX2 n_kind n_salt n_pace n_manner n_from n_to n_goal n_reach n_branches n_branch n_tally x_n)), (oc, .inr (0, oX0 c_seen c_sent c_turn c_counter x_c)), (c_seen, .inl (kJ, 96, .inr (.inl f_c_seen)))] sz)) 0 0 (va_A [(si, .inr (7, oX7 on oc si_edgesFrom si_diamondFirst si_diamondLast x_si)), (on, .inr (2, oX2 n_kind n_salt n_pace n_manner n_from n_to n_goal n_reach n_branches n_branch n_tally x_n)), (oc, .inr (0, oX0 c_seen c_sent c_turn c_counter x_c)), (c_seen, .inl (kJ, 96, .inr (.inl f_c_seen)))] sz) := by
  refine Met.ofW (cc := cX7_addressesEverywhere) (maxL := 4) (ret := (some .int)) (by decide) rfl ?_
  intro p e s m args0 below meth c s₁ B hml hv
  obtain ⟨hargs, hsz, hP, hE, hD0⟩ := hv
  have hx := B.exec
  have hb := B.bytes
  have hr := B.returns
  have hts := atoms_spec (ws := wsX7_addressesEverywhere) B.pre
  have hown : s.vm.findClass RX7 = some m.cls := findClass_of_methodNamed B.named
  have hlocks := B.notSynchronized
  have hK := hE.1
  have hin7 : ∀ w ∈ wsX70, w ∈ wsX7_addressesEverywhere := fun _ h9 => List.mem_cons_of_mem _ (List.mem_append_left _ (List.mem_append_left _ (List.mem_append_right _ h9)))
  have hin2 : ∀ w ∈ wsX20, w ∈ wsX7_addressesEverywhere := fun _ h9 => List.mem_cons_of_mem _ (List.mem_append_left _ (List.mem_append_right _ h9))
  have hin0 : ∀ w ∈ wsX00, w ∈ wsX7_addressesEverywhere := fun _ h9 => List.mem_cons_of_mem _ (List.mem_append_right _ h9)
  have hw_0 := hts (.fieldLink RX7 25 "PathProber$Sight" "now" "LPathProber$Condition;") (List.mem_of_getElem? (i := 3) rfl)
  have hw_1 := hts (.fieldLink RX7 21 "PathProber$Sight" "net" "LPathProber$Net;") (List.mem_of_getElem? (i := 1) rfl)
  have hw_2 := hts (.fieldLink RX7 41 "PathProber$Net" "goals" "I") (List.mem_of_getElem? (i := 2) rfl)
  subst hsz
  have hD := hD0.self (sz := s.heap.size)
  generalize hAe : va_A [(si, .inr (7, oX7 on oc si_edgesFrom si_diamondFirst si_diamondLast x_si)), (on, .inr (2, oX2 n_kind n_salt n_pace n_manner n_from n_to n_goal n_reach n_branches n_branch n_tally x_n)), (oc, .inr (0, oX0 c_seen c_sent c_turn c_counter x_c)), (c_seen, .inl (kJ, 96, .inr (.inl f_c_seen)))] s.heap.size = A at hD ⊢
  have hA : ∀ q : Nat, s.heap.size ≤ q → A q := fun q h => by rw [← hAe]; exact Or.inr h
  have hS : va_S A s.heap s.heap [] := va_S.rf
  have hP : va_P (dC, dI) vwCl [(si, .inr (7, oX7 on oc si_edgesFrom si_diamondFirst si_diamondLast x_si)), (on, .inr (2, oX2 n_kind n_salt n_pace n_manner n_from n_to n_goal n_reach n_branches n_branch n_tally x_n)), (oc, .inr (0, oX0 c_seen c_sent c_turn c_counter x_c)), (c_seen, .inl (kJ, 96, .inr (.inl f_c_seen)))] s.heap := hP
  have hl := lv_entry ([.ref si]) (n := 4) (Nat.le_of_ble_eq_true rfl)
  have hla : entryFrame m args0 4 = entryFrame m ([.ref si] : List Value).toArray 4 := by rw [hargs]
  rw [hla, lg_entry_eq]
  generalize (lg_sl ([.ref si]) ++ List.replicate (4 - (lg_sl ([.ref si])).length) Slot.unset).toArray = ls at hl ⊢
  have hl : lv_has ls 4 [(0, .ref si)] := hl
  have hJ4 : ∀ (n : Nat) (v4_loc1 : Int32) (v4_loc2 : Int32) (H : Heap) (locs : List Loc) (ls : Array Slot), (3 - v4_loc2.toInt).toNat < n → iv 0 3 v4_loc2 → va_P (dC, dI) vwCl [(si, .inr (7, oX7 on oc si_edgesFrom si_diamondFirst si_diamondLast x_si)), (on, .inr (2, oX2 n_kind n_salt n_pace n_manner n_from n_to n_goal n_reach n_branches n_branch n_tally x_n)), (oc, .inr (0, oX0 c_seen c_sent c_turn c_counter x_c)), (c_seen, .inl (kJ, 96, .inr (.inl f_c_seen)))] H → va_D A [(si, .inr (7, oX7 on oc si_edgesFrom si_diamondFirst si_diamondLast x_si)), (on, .inr (2, oX2 n_kind n_salt n_pace n_manner n_from n_to n_goal n_reach n_branches n_branch n_tally x_n)), (oc, .inr (0, oX0 c_seen c_sent c_turn c_counter x_c)), (c_seen, .inl (kJ, 96, .inr (.inl f_c_seen)))] → va_S A s.heap H locs → lv_has ls 4 [(0, .ref si), (1, .int v4_loc1), (2, .int v4_loc2)] → W p l e (headSpec wsX7_addressesEverywhere rm_s7_addressesEverywhere).room s m args0 below meth c H locs (0) (0) (MQ below (va_Qi (fun (r : Int32) (_ : Unit) => True) (fun _ t => va_P (dC, dI) vwCl [(si, .inr (7, oX7 on oc si_edgesFrom si_diamondFirst si_diamondLast x_si)), (on, .inr (2, oX2 n_kind n_salt n_pace n_manner n_from n_to n_goal n_reach n_branches n_branch n_tally x_n)), (oc, .inr (0, oX0 c_seen c_sent c_turn c_counter x_c)), (c_seen, .inl (kJ, 96, .inr (.inl f_c_seen)))] t.heap ∧ va_D A [(si, .inr (7, oX7 on oc si_edgesFrom si_diamondFirst si_diamondLast x_si)), (on, .inr (2, oX2 n_kind n_salt n_pace n_manner n_from n_to n_goal n_reach n_branches n_branch n_tally x_n)), (oc, .inr (0, oX0 c_seen c_sent c_turn c_counter x_c)), (c_seen, .inl (kJ, 96, .inr (.inl f_c_seen)))]) A) args0 s 0 0 A) (F0 m 4 ls []) := by
    intro n
    induction n with
    | zero => intro v4_loc1 v4_loc2 H locs ls hm4; exact absurd hm4 (Nat.not_lt_zero _)
    | succ n ih4 =>
      intro v4_loc1 v4_loc2 H locs ls hm4 h4_1 hP hD hS hl
      have hJ17 : ∀ (n : Nat) (v17_loc1 : Int32) (v17_loc3 : Int32) (H : Heap) (locs : List Loc) (ls : Array Slot), (11 - v17_loc3.toInt).toNat < n → iv 0 2 v4_loc2 → iv 1 11 v17_loc3 → iv 1 3 (x_n 2) → va_P (dC, dI) vwCl [(si, .inr (7, oX7 on oc si_edgesFrom si_diamondFirst si_diamondLast x_si)), (on, .inr (2, oX2 n_kind n_salt n_pace n_manner n_from n_to n_goal n_reach n_branches n_branch n_tally x_n)), (oc, .inr (0, oX0 c_seen c_sent c_turn c_counter x_c)), (c_seen, .inl (kJ, 96, .inr (.inl f_c_seen)))] H → va_D A [(si, .inr (7, oX7 on oc si_edgesFrom si_diamondFirst si_diamondLast x_si)), (on, .inr (2, oX2 n_kind n_salt n_pace n_manner n_from n_to n_goal n_reach n_branches n_branch n_tally x_n)), (oc, .inr (0, oX0 c_seen c_sent c_turn c_counter x_c)), (c_seen, .inl (kJ, 96, .inr (.inl f_c_seen)))] → va_S A s.heap H locs → lv_has ls 4 [(0, .ref si), (1, .int v17_loc1), (2, .int v4_loc2), (3, .int v17_loc3)] → W p l e (headSpec wsX7_addressesEverywhere rm_s7_addressesEverywhere).room s m args0 below meth c H locs (0) (0) (MQ below (va_Qi (fun (r : Int32) (_ : Unit) => True) (fun _ t => va_P (dC, dI) vwCl [(si, .inr (7, oX7 on oc si_edgesFrom si_diamondFirst si_diamondLast x_si)), (on, .inr (2, oX2 n_kind n_salt n_pace n_manner n_from n_to n_goal n_reach n_branches n_branch n_tally x_n)), (oc, .inr (0, oX0 c_seen c_sent c_turn c_counter x_c)), (c_seen, .inl (kJ, 96, .inr (.inl f_c_seen)))] t.heap ∧ va_D A [(si, .inr (7, oX7 on oc si_edgesFrom si_diamondFirst si_diamondLast x_si)), (on, .inr (2, oX2 n_kind n_salt n_pace n_manner n_from n_to n_goal n_reach n_branches n_branch n_tally x_n)), (oc, .inr (0, oX0 c_seen c_sent c_turn c_counter x_c)), (c_seen, .inl (kJ, 96, .inr (.inl f_c_seen)))]) A) args0 s 0 0 A) (F0 m 17 ls []) := by
        intro n
        induction n with
        | zero => intro v17_loc1 v17_loc3 H locs ls hm17; exact absurd hm17 (Nat.not_lt_zero _)
        | succ n ih17 =>
          intro v17_loc1 v17_loc3 H locs ls hm17 h17_1 h17_2 h17_3 hP hD hS hl
          refine lv_iload_n hx hb dX7_addressesEverywhere_17 rfl (lv_at hl 3 rfl) ?_
          refine lv_bipush (v := 10) hx hb dX7_addressesEverywhere_18 bp_10 ?_
          refine lv_icmp_gt (tgt := 41) hx hb dX7_addressesEverywhere_20 rfl (fun c1 => ?_) (fun c1 => ?_)
          · have b2 : iv 11 11 v17_loc3 := iv_ltR c1 ivk_10 h17_2 (by decide) (by decide)
            refine lv_iinc (v := v4_loc2 + Int32.ofInt 1) (lv' := [(2, .int (v4_loc2 + Int32.ofInt 1)), (0, .ref si), (1, .int v17_loc1), (3, .int v17_loc3)]) hx hb dX7_addressesEverywhere_41 hl (k := 2) rfl (rfl) (Nat.le_of_ble_eq_true rfl) rfl (fun ls hl => ?_)
            have b3 : iv 1 3 (v4_loc2 + Int32.ofInt 1) := iv_add h17_1 ivo_1 (by decide) (by decide) (by decide) (by decide)
            refine lv_goto (tgt := 4) hx hb dX7_addressesEverywhere_44 rfl ?_
            exact ih4 v17_loc1 (v4_loc2 + Int32.ofInt 1) _ _ _ (ms_up (c := 1) (d := 0) h17_1 hm4 (by decide) (iv_inc 1 h17_1 (by decide) (by decide) (by decide) (by decide)) (by decide) rfl) ((iv_w b3 (by decide) (by decide))) (hP) (hD) hS (lv_sub hl [1, 2, 0] rfl)
          · have b4 : iv 1 10 v17_loc3 := iv_leL (Int32.not_lt.mp c1) h17_2 ivk_10 (by decide) (by decide)
            refine lv_iload_n hx hb dX7_addressesEverywhere_23 rfl (lv_at hl 1 rfl) ?_
            refine lv_aload_n hx hb dX7_addressesEverywhere_24 rfl (lv_at hl 0 rfl) ?_
            refine va_get (D := (dC, dI)) (ci := 7) (v := .ref oc) (C := RX7) (T := TX7) (N := 5) hx hb hts hin7 hown hK hP 0 rfl rfl 1 (Nat.le_of_ble_eq_true rfl) hw_0 (fun _ h9 => h9) rfl dX7_addressesEverywhere_25 ?_
            refine lv_iload_n hx hb dX7_addressesEverywhere_28 rfl (lv_at hl 2 rfl) ?_
            refine lv_iload_n hx hb dX7_addressesEverywhere_29 rfl (lv_at hl 3 rfl) ?_
            obtain ⟨hPc, hDc, hFc, hJn⟩ := cl_a (wc := [(oc, .inr (0, oX0 c_seen c_sent c_turn c_counter x_c)), (c_seen, .inl (kJ, 96, .inr (.inl f_c_seen)))]) (wr := [(si, .inr (7, oX7 on oc si_edgesFrom si_diamondFirst si_diamondLast x_si)), (on, .inr (2, oX2 n_kind n_salt n_pace n_manner n_from n_to n_goal n_reach n_branches n_branch n_tally x_n))]) hP hD hS hA [2, 3] [0, 1] rfl rfl (by decide +kernel)
            refine va_calli (va_runV (As := [.int v4_loc2, .int v17_loc3]) (rest := [.int v17_loc1]) ⟨hx, hb, hml, hown, hts⟩ (s0_seenAt l dC dI kB kI kJ kZ kC kS H.size oc c_seen c_sent c_turn c_counter x_c f_c_seen v4_loc2 v17_loc3 (hf_c_seen) (h17_1)) (cwV 2 hts gX7_addressesEverywhere_X0_seenAt rfl rfl rfl (by decide +kernel) ⟨Nat.le_of_ble_eq_true rfl, Nat.le_of_ble_eq_true rfl⟩) ⟨fun a U g mk q => by obtain ⟨q0, q1, qP, qE, qD⟩ := q; exact ⟨q0, q1, qP, kE_call qE, qD⟩, va_recv hK hP (ci := 0) (q0 := 2) rfl rfl, fun U hU hW => ⟨rfl, by rw [hU], by rw [hU]; exact hPc, kE_warm hW hE, hDc.weaken (fun _ _ _ _ => trivial)⟩⟩ rfl rfl hl.1 rfl (lv_room (Nat.le_of_ble_eq_true rfl)) dX7_addressesEverywhere_30 ⟨Nat.le_of_ble_eq_true rfl, Nat.le_of_ble_eq_true rfl⟩) hS (fun q _ h => hFc q h) hFc (fun r5 u t H locs ht hvm w6 hB hz1 hk1 hS => ?_)
            obtain ⟨hP1, hD1⟩ := hB
            try dsimp only at w6
            obtain ⟨hPa, hDa⟩ := hJn (w1 := [(oc, .inr (0, oX0 c_seen c_sent c_turn c_counter x_c)), (c_seen, .inl (kJ, 96, .inr (.inl f_c_seen)))]) hk1 ht hP1 hD1
            clear hP hD hPc hDc hFc hJn hP1 hD1 hk1
            have hP : va_P (dC, dI) vwCl [(si, .inr (7, oX7 on oc si_edgesFrom si_diamondFirst si_diamondLast x_si)), (on, .inr (2, oX2 n_kind n_salt n_pace n_manner n_from n_to n_goal n_reach n_branches n_branch n_tally x_n)), (oc, .inr (0, oX0 c_seen c_sent c_turn c_counter x_c)), (c_seen, .inl (kJ, 96, .inr (.inl f_c_seen)))] H := hPa
            have hD : va_D A [(si, .inr (7, oX7 on oc si_edgesFrom si_diamondFirst si_diamondLast x_si)), (on, .inr (2, oX2 n_kind n_salt n_pace n_manner n_from n_to n_goal n_reach n_branches n_branch n_tally x_n)), (oc, .inr (0, oX0 c_seen c_sent c_turn c_counter x_c)), (c_seen, .inl (kJ, 96, .inr (.inl f_c_seen)))] := hDa
            clear hPa hDa
            refine W.widen (k := 0) (n := 0) (Nat.le_of_ble_eq_true rfl) (Nat.le_of_ble_eq_true rfl) ?_
            refine lv_ior hx hb dX7_addressesEverywhere_33 ?_
            refine lv_topi (fun z7 _ => ?_)
            refine lv_istore_n (lv' := [(1, .int z7), (0, .ref si), (2, .int v4_loc2), (3, .int v17_loc3)]) hx hb dX7_addressesEverywhere_34 rfl hl (Nat.le_of_ble_eq_true rfl) rfl (fun ls hl => ?_)
            refine lv_iinc (v := v17_loc3 + Int32.ofInt 1) (lv' := [(3, .int (v17_loc3 + Int32.ofInt 1)), (1, .int z7), (0, .ref si), (2, .int v4_loc2)]) hx hb dX7_addressesEverywhere_35 hl (k := 3) rfl (rfl) (Nat.le_of_ble_eq_true rfl) rfl (fun ls hl => ?_)
            have b8 : iv 2 11 (v17_loc3 + Int32.ofInt 1) := iv_add b4 ivo_1 (by decide) (by decide) (by decide) (by decide)
            refine lv_goto (tgt := 17) hx hb dX7_addressesEverywhere_38 rfl ?_
            exact ih17 z7 (v17_loc3 + Int32.ofInt 1) _ _ _ (ms_up (c := 1) (d := 0) b4 hm17 (by decide) (iv_inc 1 b4 (by decide) (by decide) (by decide) (by decide)) (by decide) rfl) (h17_1) ((iv_w b8 (by decide) (by decide))) (h17_3) (hP) (hD) hS (lv_sub hl [2, 1, 3, 0] rfl)
      refine lv_iload_n hx hb dX7_addressesEverywhere_4 rfl (lv_at hl 2 rfl) ?_
      refine lv_aload_n hx hb dX7_addressesEverywhere_5 rfl (lv_at hl 0 rfl) ?_
      refine va_get (D := (dC, dI)) (ci := 7) (v := .ref on) (C := RX7) (T := TX7) (N := 5) hx hb hts hin7 hown hK hP 0 rfl rfl 0 (Nat.le_of_ble_eq_true rfl) hw_1 (fun _ h9 => h9) rfl dX7_addressesEverywhere_6 ?_
      refine va_get (D := (dC, dI)) (ci := 2) (v := .int (x_n 2)) (C := RX2) (T := TX2) (N := 15) hx hb hts hin2 hown hK hP 1 rfl rfl 9 (Nat.le_of_ble_eq_true rfl) hw_2 (fun _ h9 => h9) rfl dX7_addressesEverywhere_9 ?_
      refine lv_icmp_ge (tgt := 47) hx hb dX7_addressesEverywhere_12 rfl (fun c9 => ?_) (fun c9 => ?_)
      · refine lv_iload_n hx hb dX7_addressesEverywhere_47 rfl (lv_at hl 1 rfl) ?_
        have hP9 := hP
        have hD9 := hD
        exact W.iret (v := v4_loc1) hx hb hr (fun t ht hW => ⟨⟨v4_loc1, (), rfl, trivial, by rw [ht]; exact hP9, hD9⟩, hS.F ht⟩) hS.2.2 dX7_addressesEverywhere_48
      · have b10 : iv 0 2 v4_loc2 := iv_ltL (Int32.not_le.mp c9) h4_1 (hx_n 2 : iv 0 3 (x_n 2)) (by decide) (by decide)
        have b11 : iv 1 3 (x_n 2) := iv_ltR (Int32.not_le.mp c9) h4_1 (hx_n 2 : iv 0 3 (x_n 2)) (by decide) (by decide)
        refine lv_iconst (v := 1) hx hb dX7_addressesEverywhere_15 ic_1 ?_
        refine lv_istore_n (lv' := [(3, .int 1), (0, .ref si), (1, .int v4_loc1), (2, .int v4_loc2)]) hx hb dX7_addressesEverywhere_16 rfl hl (Nat.le_of_ble_eq_true rfl) rfl (fun ls hl => ?_)
        exact hJ17 _ v4_loc1 1 _ _ _ (Nat.lt_succ_self _) (b10) ((iv_w ivk_1 (by decide) (by decide))) (b11) (hP) (hD) hS (lv_sub hl [1, 2, 3, 0] rfl)
  refine lv_iconst (v := 0) hx hb dX7_addressesEverywhere_0 ic_0 ?_
  refine lv_istore_n (lv' := [(1, .int 0), (0, .ref si)]) hx hb dX7_addressesEverywhere_1 rfl hl (Nat.le_of_ble_eq_true rfl) rfl (fun ls hl => ?_)
  refine lv_iconst (v := 0) hx hb dX7_addressesEverywhere_2 ic_0 ?_
  refine lv_istore_n (lv' := [(2, .int 0), (1, .int 0), (0, .ref si)]) hx hb dX7_addressesEverywhere_3 rfl hl (Nat.le_of_ble_eq_true rfl) rfl (fun ls hl => ?_)
  exact hJ4 _ 0 0 _ _ _ (Nat.lt_succ_self _) ((iv_w ivk_0 (by decide) (by decide))) (hP) (hD) hS (lv_sub hl [2, 1, 0] rfl)
def rm_s7_drawEdges : Room := { frames := 1, cells := 0, slots := 0, locals := 25 }
set_option maxHeartbeats 4000000 in
set_option maxRecDepth 100000 in
theorem s7_drawEdges (l : Launch) (dC : Nat → ClassId) (dI : Nat → Nat → Nat) (kB kI kJ kZ kC kS : ClassId) (sz : Nat) (si : Nat) (on : Nat) (oc : Nat) (si_edgesFrom : Nat) (si_diamondFirst : Nat) (si_diamondLast : Nat) (x_si : Nat → Int32) (f_si_edgesFrom : Nat → Int32) (c_seen : Nat) (c_sent : Nat) (c_turn : Nat) (c_counter : Nat) (x_c : Nat → Int32) (f_c_seen : Nat → Int64) (p0 : Int32) (p1 : Int32) (hf_c_seen : sI f_c_seen) (hp0 : iv 0 2 p0) (hp1 : iv 0 10 p1) : Met l yX7_drawEdges wsX7_drawEdges rm_s7_drawEdges (va_Pc [.ref si, .int p0, .int p1] (fun U => U.heap.size = sz ∧ va_P (dC, dI) vwCl [(si, .inr (7, oX7 on oc si_edgesFrom si_diamondFirst si_diamondLast x_si)), (si_edgesFrom, .inl (kI, 21, .inl f_si_edgesFrom)), (oc, .inr (0, oX0 c_seen c_sent c_turn c_counter x_c)), (c_seen, .inl (kJ, 96, .inr (.inl f_c_seen)))] U.heap ∧ kE dC dI kB kI kJ kZ kC kS U ∧ va_D (fun _ => True) [(si, .inr (7, oX7 on oc si_edgesFrom si_diamondFirst si_diamondLast x_si)), (si_edgesFrom, .inl (kI, 21, .inl f_si_edgesFrom)), (oc, .inr (0, oX0 c_seen c_sent c_turn c_counter x_c)), (c_seen, .inl (kJ, 96, .inr (.inl f_c_seen)))])) (va_Qv (fun (_ : Unit) => True) (fun _ t => ∃ (f_si_edgesFrom' : Nat → Int32), va_P (dC, dI) vwCl [(si, .inr (7, oX7 on oc si_edgesFrom si_diamondFirst si_diamondLast x_si)), (si_edgesFrom, .inl (kI, 21, .inl f_si_edgesFrom')), (oc, .inr (0, oX0 c_seen c_sent c_turn c_counter x_c)), (c_seen, .inl (kJ, 96, .inr (.inl f_c_seen)))] t.heap ∧ va_D (va_A [(si, .inr (7, oX7 on oc si_edgesFrom si_diamondFirst si_diamondLast x_si)), (si_edgesFrom, .inl (kI, 21, .inl f_si_edgesFrom)), (oc, .inr (0, oX0 c_seen c_sent c_turn c_counter x_c)), (c_seen, .inl (kJ, 96, .inr (.inl f_c_seen)))] sz) [(si, .inr (7, oX7 on oc si_edgesFrom si_diamondFirst si_diamondLast x_si)), (si_edgesFrom, .inl (kI, 21, .inl f_si_edgesFrom')), (oc, .inr (0, oX0 c_seen c_sent c_turn c_counter x_c)), (c_seen, .inl (kJ, 96, .inr (.inl f_c_seen)))]) (va_A [(si, .inr (7, oX7 on oc si_edgesFrom si_diamondFirst si_diamondLast x_si)), (si_edgesFrom, .inl (kI, 21, .inl f_si_edgesFrom)), (oc, .inr (0, oX0 c_seen c_sent c_turn c_counter x_c)), (c_seen, .inl (kJ, 96, .inr (.inl f_c_seen)))] sz)) 0 0 (va_A [(si, .inr (7, oX7 on oc si_edgesFrom si_diamondFirst si_diamondLast x_si)), (si_edgesFrom, .inl (kI, 21, .inl f_si_edgesFrom)), (oc, .inr (0, oX0 c_seen c_sent c_turn c_counter x_c)), (c_seen, .inl (kJ, 96, .inr (.inl f_c_seen)))] sz) := by
  refine Met.ofW (cc := cX7_drawEdges) (maxL := 6) (ret := none) (by decide) rfl ?_
  intro p e s m args0 below meth c s₁ B hml hv
  obtain ⟨hargs, hsz, hP, hE, hD0⟩ := hv
  have hx := B.exec
  have hb := B.bytes
  have hr := B.returns
  have hts := atoms_spec (ws := wsX7_drawEdges) B.pre
  have hown : s.vm.findClass RX7 = some m.cls := findClass_of_methodNamed B.named
  have hlocks := B.notSynchronized
  have hK := hE.1
  have hin7 : ∀ w ∈ wsX70, w ∈ wsX7_drawEdges := fun _ h9 => List.mem_cons_of_mem _ (List.mem_append_left _ (List.mem_append_right _ h9))
  have hin0 : ∀ w ∈ wsX00, w ∈ wsX7_drawEdges := fun _ h9 => List.mem_cons_of_mem _ (List.mem_append_right _ h9)
  have hw_0 := hts (.fieldLink RX7 25 "PathProber$Sight" "now" "LPathProber$Condition;") (List.mem_of_getElem? (i := 2) rfl)
  have hw_1 := hts (.fieldLink RX7 9 "PathProber$Sight" "edgesFrom" "[I") (List.mem_of_getElem? (i := 1) rfl)
  subst hsz
  have hD := hD0.self (sz := s.heap.size)
  generalize hAe : va_A [(si, .inr (7, oX7 on oc si_edgesFrom si_diamondFirst si_diamondLast x_si)), (si_edgesFrom, .inl (kI, 21, .inl f_si_edgesFrom)), (oc, .inr (0, oX0 c_seen c_sent c_turn c_counter x_c)), (c_seen, .inl (kJ, 96, .inr (.inl f_c_seen)))] s.heap.size = A at hD ⊢
  have hA : ∀ q : Nat, s.heap.size ≤ q → A q := fun q h => by rw [← hAe]; exact Or.inr h
  have hS : va_S A s.heap s.heap [] := va_S.rf
  have hP : va_P (dC, dI) vwCl [(si, .inr (7, oX7 on oc si_edgesFrom si_diamondFirst si_diamondLast x_si)), (si_edgesFrom, .inl (kI, 21, .inl f_si_edgesFrom)), (oc, .inr (0, oX0 c_seen c_sent c_turn c_counter x_c)), (c_seen, .inl (kJ, 96, .inr (.inl f_c_seen)))] s.heap := hP
  have hl := lv_entry ([.ref si, .int p0, .int p1]) (n := 6) (Nat.le_of_ble_eq_true rfl)
  have hla : entryFrame m args0 6 = entryFrame m ([.ref si, .int p0, .int p1] : List Value).toArray 6 := by rw [hargs]
  rw [hla, lg_entry_eq]
  generalize (lg_sl ([.ref si, .int p0, .int p1]) ++ List.replicate (6 - (lg_sl ([.ref si, .int p0, .int p1])).length) Slot.unset).toArray = ls at hl ⊢
  have hl : lv_has ls 6 [(0, .ref si), (1, .int p0), (2, .int p1)] := hl
  have hJ30 : ∀ (n : Nat) (g30_1 : Nat → Int32) (v30_loc3 : Int32) (H : Heap) (locs : List Loc) (ls : Array Slot), (32 - v30_loc3.toInt).toNat < n → iv 0 9 p1 → iv 0 32 v30_loc3 → va_P (dC, dI) vwCl [(si, .inr (7, oX7 on oc si_edgesFrom si_diamondFirst si_diamondLast x_si)), (si_edgesFrom, .inl (kI, 21, .inl g30_1)), (oc, .inr (0, oX0 c_seen c_sent c_turn c_counter x_c)), (c_seen, .inl (kJ, 96, .inr (.inl f_c_seen)))] H → va_D A [(si, .inr (7, oX7 on oc si_edgesFrom si_diamondFirst si_diamondLast x_si)), (si_edgesFrom, .inl (kI, 21, .inl g30_1)), (oc, .inr (0, oX0 c_seen c_sent c_turn c_counter x_c)), (c_seen, .inl (kJ, 96, .inr (.inl f_c_seen)))] → va_S A s.heap H locs → lv_has ls 6 [(0, .ref si), (1, .int p0), (2, .int p1), (3, .int v30_loc3)] → W p l e (headSpec wsX7_drawEdges rm_s7_drawEdges).room s m args0 below meth c H locs (0) (0) (MQ below (va_Qv (fun (_ : Unit) => True) (fun _ t => ∃ (f_si_edgesFrom' : Nat → Int32), va_P (dC, dI) vwCl [(si, .inr (7, oX7 on oc si_edgesFrom si_diamondFirst si_diamondLast x_si)), (si_edgesFrom, .inl (kI, 21, .inl f_si_edgesFrom')), (oc, .inr (0, oX0 c_seen c_sent c_turn c_counter x_c)), (c_seen, .inl (kJ, 96, .inr (.inl f_c_seen)))] t.heap ∧ va_D A [(si, .inr (7, oX7 on oc si_edgesFrom si_diamondFirst si_diamondLast x_si)), (si_edgesFrom, .inl (kI, 21, .inl f_si_edgesFrom')), (oc, .inr (0, oX0 c_seen c_sent c_turn c_counter x_c)), (c_seen, .inl (kJ, 96, .inr (.inl f_c_seen)))]) A) args0 s 0 0 A) (F0 m 30 ls []) := by
    intro n
    induction n with
    | zero => intro g30_1 v30_loc3 H locs ls hm30; exact absurd hm30 (Nat.not_lt_zero _)
    | succ n ih30 =>
      intro g30_1 v30_loc3 H locs ls hm30 h30_1 h30_2 hP hD hS hl
      have hJ95 : ∀ (g95_1 : Nat → Int32) (v95_loc4 : Int32) (v95_loc5 : Int32) (H : Heap) (locs : List Loc) (ls : Array Slot), iv 0 31 v30_loc3 → iv (-1) 20 v95_loc4 → iv (-1) 20 v95_loc5 → va_P (dC, dI) vwCl [(si, .inr (7, oX7 on oc si_edgesFrom si_diamondFirst si_diamondLast x_si)), (si_edgesFrom, .inl (kI, 21, .inl g95_1)), (oc, .inr (0, oX0 c_seen c_sent c_turn c_counter x_c)), (c_seen, .inl (kJ, 96, .inr (.inl f_c_seen)))] H → va_D A [(si, .inr (7, oX7 on oc si_edgesFrom si_diamondFirst si_diamondLast x_si)), (si_edgesFrom, .inl (kI, 21, .inl g95_1)), (oc, .inr (0, oX0 c_seen c_sent c_turn c_counter x_c)), (c_seen, .inl (kJ, 96, .inr (.inl f_c_seen)))] → va_S A s.heap H locs → lv_has ls 6 [(0, .ref si), (1, .int p0), (2, .int p1), (3, .int v30_loc3), (4, .int v95_loc4), (5, .int v95_loc5)] → W p l e (headSpec wsX7_drawEdges rm_s7_drawEdges).room s m args0 below meth c H locs (0) (0) (MQ below (va_Qv (fun (_ : Unit) => True) (fun _ t => ∃ (f_si_edgesFrom' : Nat → Int32), va_P (dC, dI) vwCl [(si, .inr (7, oX7 on oc si_edgesFrom si_diamondFirst si_diamondLast x_si)), (si_edgesFrom, .inl (kI, 21, .inl f_si_edgesFrom')), (oc, .inr (0, oX0 c_seen c_sent c_turn c_counter x_c)), (c_seen, .inl (kJ, 96, .inr (.inl f_c_seen)))] t.heap ∧ va_D A [(si, .inr (7, oX7 on oc si_edgesFrom si_diamondFirst si_diamondLast x_si)), (si_edgesFrom, .inl (kI, 21, .inl f_si_edgesFrom')), (oc, .inr (0, oX0 c_seen c_sent c_turn c_counter x_c)), (c_seen, .inl (kJ, 96, .inr (.inl f_c_seen)))]) A) args0 s 0 0 A) (F0 m 95 ls []) := by
        intro g95_1 v95_loc4 v95_loc5 H locs ls h95_1 h95_2 h95_3 hP hD hS hl
        refine lv_iinc (v := v30_loc3 + Int32.ofInt 1) (lv' := [(3, .int (v30_loc3 + Int32.ofInt 1)), (0, .ref si), (1, .int p0), (2, .int p1), (4, .int v95_loc4), (5, .int v95_loc5)]) hx hb dX7_drawEdges_95 hl (k := 3) rfl (rfl) (Nat.le_of_ble_eq_true rfl) rfl (fun ls hl => ?_)
        have b1 : iv 1 32 (v30_loc3 + Int32.ofInt 1) := iv_add h95_1 ivo_1 (by decide) (by decide) (by decide) (by decide)
        refine lv_goto (tgt := 30) hx hb dX7_drawEdges_98 rfl ?_
        exact ih30 g95_1 (v30_loc3 + Int32.ofInt 1) _ _ _ (ms_up (c := 1) (d := 0) h95_1 hm30 (by decide) (iv_inc 1 h95_1 (by decide) (by decide) (by decide) (by decide)) (by decide) rfl) (h30_1) ((iv_w b1 (by decide) (by decide))) (hP) (hD) hS (lv_sub hl [1, 2, 3, 0] rfl)
      refine lv_iload_n hx hb dX7_drawEdges_30 rfl (lv_at hl 3 rfl) ?_
      refine lv_bipush (v := 32) hx hb dX7_drawEdges_31 bp_32 ?_
      refine lv_icmp_ge (tgt := 101) hx hb dX7_drawEdges_33 rfl (fun c2 => ?_) (fun c2 => ?_)
      · have b3 : iv 32 32 v30_loc3 := iv_leR c2 ivk_32 h30_2 (by decide) (by decide)
        have hP9 := hP
        have hD9 := hD
        exact W.vret hx hb hr (fun t ht hW => ⟨⟨(), rfl, trivial, g30_1, by rw [ht]; exact hP9, hD9⟩, hS.F ht⟩) hS.2.2 dX7_drawEdges_101
      · have b4 : iv 0 31 v30_loc3 := iv_ltL (Int32.not_le.mp c2) h30_2 ivk_32 (by decide) (by decide)
        refine lv_aload_n hx hb dX7_drawEdges_36 rfl (lv_at hl 0 rfl) ?_
        refine va_get (D := (dC, dI)) (ci := 7) (v := .ref oc) (C := RX7) (T := TX7) (N := 5) hx hb hts hin7 hown hK hP 0 rfl rfl 1 (Nat.le_of_ble_eq_true rfl) hw_0 (fun _ h9 => h9) rfl dX7_drawEdges_37 ?_
        refine lv_iload_n hx hb dX7_drawEdges_40 rfl (lv_at hl 3 rfl) ?_
        refine lv_iload_n hx hb dX7_drawEdges_41 rfl (lv_at hl 1 rfl) ?_
        refine lv_iload_n hx hb dX7_drawEdges_42 rfl (lv_at hl 2 rfl) ?_
        obtain ⟨hPc, hDc, hFc, hJn⟩ := cl_a (wc := [(oc, .inr (0, oX0 c_seen c_sent c_turn c_counter x_c)), (c_seen, .inl (kJ, 96, .inr (.inl f_c_seen)))]) (wr := [(si, .inr (7, oX7 on oc si_edgesFrom si_diamondFirst si_diamondLast x_si)), (si_edgesFrom, .inl (kI, 21, .inl g30_1))]) hP hD hS hA [2, 3] [0, 1] rfl rfl (by decide +kernel)
        refine va_calli (va_runV (As := [.int v30_loc3, .int p0, .int p1]) (rest := []) ⟨hx, hb, hml, hown, hts⟩ (s0_seenBy l dC dI kB kI kJ kZ kC kS H.size oc c_seen c_sent c_turn c_counter x_c f_c_seen v30_loc3 p0 p1 (hf_c_seen) (b4) (hp0) ((iv_w h30_1 (by decide) (by decide)))) (cwV 3 hts gX7_drawEdges_X0_seenBy rfl rfl rfl (by decide +kernel) ⟨Nat.le_of_ble_eq_true rfl, Nat.le_of_ble_eq_true rfl⟩) ⟨fun a U g mk q => by obtain ⟨q0, q1, qP, qE, qD⟩ := q; exact ⟨q0, q1, qP, kE_call qE, qD⟩, va_recv hK hP (ci := 0) (q0 := 2) rfl rfl, fun U hU hW => ⟨rfl, by rw [hU], by rw [hU]; exact hPc, kE_warm hW hE, hDc.weaken (fun _ _ _ _ => trivial)⟩⟩ rfl rfl hl.1 rfl (lv_room (Nat.le_of_ble_eq_true rfl)) dX7_drawEdges_43 ⟨Nat.le_of_ble_eq_true rfl, Nat.le_of_ble_eq_true rfl⟩) hS (fun q _ h => hFc q h) hFc (fun r5 u t H locs ht hvm w6 hB hz1 hk1 hS => ?_)
        obtain ⟨hP1, hD1⟩ := hB
        try dsimp only at w6
        obtain ⟨hPa, hDa⟩ := hJn (w1 := [(oc, .inr (0, oX0 c_seen c_sent c_turn c_counter x_c)), (c_seen, .inl (kJ, 96, .inr (.inl f_c_seen)))]) hk1 ht hP1 hD1
        clear hP hD hPc hDc hFc hJn hP1 hD1 hk1
        have hP : va_P (dC, dI) vwCl [(si, .inr (7, oX7 on oc si_edgesFrom si_diamondFirst si_diamondLast x_si)), (si_edgesFrom, .inl (kI, 21, .inl g30_1)), (oc, .inr (0, oX0 c_seen c_sent c_turn c_counter x_c)), (c_seen, .inl (kJ, 96, .inr (.inl f_c_seen)))] H := hPa
        have hD : va_D A [(si, .inr (7, oX7 on oc si_edgesFrom si_diamondFirst si_diamondLast x_si)), (si_edgesFrom, .inl (kI, 21, .inl g30_1)), (oc, .inr (0, oX0 c_seen c_sent c_turn c_counter x_c)), (c_seen, .inl (kJ, 96, .inr (.inl f_c_seen)))] := hDa
        clear hPa hDa
        refine W.widen (k := 0) (n := 0) (Nat.le_of_ble_eq_true rfl) (Nat.le_of_ble_eq_true rfl) ?_
        refine lv_istore (lv' := [(4, .int r5), (0, .ref si), (1, .int p0), (2, .int p1), (3, .int v30_loc3)]) hx hb dX7_drawEdges_46 hl (Nat.le_of_ble_eq_true rfl) rfl (fun ls hl => ?_)
        refine lv_aload_n hx hb dX7_drawEdges_48 rfl (lv_at hl 1 rfl) ?_
        refine va_get (D := (dC, dI)) (ci := 7) (v := .ref oc) (C := RX7) (T := TX7) (N := 5) hx hb hts hin7 hown hK hP 0 rfl rfl 1 (Nat.le_of_ble_eq_true rfl) hw_0 (fun _ h9 => h9) rfl dX7_drawEdges_49 ?_
        refine lv_iload_n hx hb dX7_drawEdges_52 rfl (lv_at hl 4 rfl) ?_
        refine lv_iload_n hx hb dX7_drawEdges_53 rfl (lv_at hl 2 rfl) ?_
        refine lv_iload_n hx hb dX7_drawEdges_54 rfl (lv_at hl 3 rfl) ?_
        refine lv_iconst (v := 1) hx hb dX7_drawEdges_55 ic_1 ?_
        refine lv_iadd hx hb dX7_drawEdges_56 ?_
        refine iv_top (a := 1) (b := 10) (iv_add h30_1 ivk_1 (by decide) (by decide) (by decide) (by decide)) (fun z7 b8 => ?_)
        obtain ⟨hPc, hDc, hFc, hJn⟩ := cl_a (wc := [(oc, .inr (0, oX0 c_seen c_sent c_turn c_counter x_c)), (c_seen, .inl (kJ, 96, .inr (.inl f_c_seen)))]) (wr := [(si, .inr (7, oX7 on oc si_edgesFrom si_diamondFirst si_diamondLast x_si)), (si_edgesFrom, .inl (kI, 21, .inl g30_1))]) hP hD hS hA [2, 3] [0, 1] rfl rfl (by decide +kernel)
        refine va_calli (va_runV (As := [.int v30_loc3, .int p0, .int z7]) (rest := []) ⟨hx, hb, hml, hown, hts⟩ (s0_seenBy l dC dI kB kI kJ kZ kC kS H.size oc c_seen c_sent c_turn c_counter x_c f_c_seen v30_loc3 p0 z7 (hf_c_seen) (b4) (hp0) ((iv_w b8 (by decide) (by decide)))) (cwV 3 hts gX7_drawEdges_X0_seenBy rfl rfl rfl (by decide +kernel) ⟨Nat.le_of_ble_eq_true rfl, Nat.le_of_ble_eq_true rfl⟩) ⟨fun a U g mk q => by obtain ⟨q0, q1, qP, qE, qD⟩ := q; exact ⟨q0, q1, qP, kE_call qE, qD⟩, va_recv hK hP (ci := 0) (q0 := 2) rfl rfl, fun U hU hW => ⟨rfl, by rw [hU], by rw [hU]; exact hPc, kE_warm hW hE, hDc.weaken (fun _ _ _ _ => trivial)⟩⟩ rfl rfl hl.1 rfl (lv_room (Nat.le_of_ble_eq_true rfl)) dX7_drawEdges_57 ⟨Nat.le_of_ble_eq_true rfl, Nat.le_of_ble_eq_true rfl⟩) hS (fun q _ h => hFc q h) hFc (fun r9 u t H locs ht hvm w10 hB hz1 hk1 hS => ?_)
        obtain ⟨hP1, hD1⟩ := hB
        try dsimp only at w10
        obtain ⟨hPa, hDa⟩ := hJn (w1 := [(oc, .inr (0, oX0 c_seen c_sent c_turn c_counter x_c)), (c_seen, .inl (kJ, 96, .inr (.inl f_c_seen)))]) hk1 ht hP1 hD1
        clear hP hD hPc hDc hFc hJn hP1 hD1 hk1
        have hP : va_P (dC, dI) vwCl [(si, .inr (7, oX7 on oc si_edgesFrom si_diamondFirst si_diamondLast x_si)), (si_edgesFrom, .inl (kI, 21, .inl g30_1)), (oc, .inr (0, oX0 c_seen c_sent c_turn c_counter x_c)), (c_seen, .inl (kJ, 96, .inr (.inl f_c_seen)))] H := hPa
        have hD : va_D A [(si, .inr (7, oX7 on oc si_edgesFrom si_diamondFirst si_diamondLast x_si)), (si_edgesFrom, .inl (kI, 21, .inl g30_1)), (oc, .inr (0, oX0 c_seen c_sent c_turn c_counter x_c)), (c_seen, .inl (kJ, 96, .inr (.inl f_c_seen)))] := hDa
        clear hPa hDa
        refine W.widen (k := 0) (n := 0) (Nat.le_of_ble_eq_true rfl) (Nat.le_of_ble_eq_true rfl) ?_
        refine lv_istore (lv' := [(5, .int r9), (4, .int r5), (0, .ref si), (1, .int p0), (2, .int p1), (3, .int v30_loc3)]) hx hb dX7_drawEdges_60 hl (Nat.le_of_ble_eq_true rfl) rfl (fun ls hl => ?_)
        refine lv_iload hx hb dX7_drawEdges_62 (lv_at hl 1 rfl) ?_
        refine lv_iconst (v := (-1)) hx hb dX7_drawEdges_64 ic_m1 ?_
        refine lv_icmp_eq (tgt := 95) hx hb dX7_drawEdges_65 rfl (fun c11 => ?_) (fun c11 => ?_)
        · have b12 : iv (-1) (-1) r5 := iv_eqL c11 ivk_m1
          exact hJ95 g30_1 r5 r9 _ _ _ (b4) ((iv_w b12 (by decide) (by decide))) (w10) (hP) (hD) hS (lv_sub hl [2, 3, 4, 5, 1, 0] rfl)
        · have b13 : iv 0 20 r5 := iv_neLo c11 w6 ivk_m1 (by decide) (by decide)
          refine lv_iload hx hb dX7_drawEdges_68 (lv_at hl 0 rfl) ?_
          refine lv_iconst (v := (-1)) hx hb dX7_drawEdges_70 ic_m1 ?_
          refine lv_icmp_eq (tgt := 95) hx hb dX7_drawEdges_71 rfl (fun c14 => ?_) (fun c14 => ?_)
          · have b15 : iv (-1) (-1) r9 := iv_eqL c14 ivk_m1
            exact hJ95 g30_1 r5 r9 _ _ _ (b4) ((iv_w b13 (by decide) (by decide))) ((iv_w b15 (by decide) (by decide))) (hP) (hD) hS (lv_sub hl [2, 3, 4, 5, 1, 0] rfl)
          · have b16 : iv 0 20 r9 := iv_neLo c14 w10 ivk_m1 (by decide) (by decide)
            refine lv_iload hx hb dX7_drawEdges_74 (lv_at hl 1 rfl) ?_
            refine lv_iload hx hb dX7_drawEdges_76 (lv_at hl 0 rfl) ?_
            refine lv_icmp_eq (tgt := 95) hx hb dX7_drawEdges_78 rfl (fun c17 => ?_) (fun c17 => ?_)
            · exact hJ95 g30_1 r5 r9 _ _ _ (b4) ((iv_w b13 (by decide) (by decide))) ((iv_w b16 (by decide) (by decide))) (hP) (hD) hS (lv_sub hl [2, 3, 4, 5, 1, 0] rfl)
            · refine lv_aload_n hx hb dX7_drawEdges_81 rfl (lv_at hl 2 rfl) ?_
              refine va_get (D := (dC, dI)) (ci := 7) (v := .ref si_edgesFrom) (C := RX7) (T := TX7) (N := 5) hx hb hts hin7 hown hK hP 0 rfl rfl 2 (Nat.le_of_ble_eq_true rfl) hw_1 (fun _ h9 => h9) rfl dX7_drawEdges_82 ?_
              refine lv_iload hx hb dX7_drawEdges_85 (lv_at hl 1 rfl) ?_
              refine lv_dup2_11 hx hb dX7_drawEdges_87 rfl rfl ?_
              refine va_iald hx hb hK hP 1 1 rfl rfl (iv_in b13 (by decide) (by decide)) dX7_drawEdges_88 ?_
              refine lv_topi (fun z18 _ => ?_)
              refine lv_iconst (v := 1) hx hb dX7_drawEdges_89 ic_1 ?_
              refine lv_iload hx hb dX7_drawEdges_90 (lv_at hl 0 rfl) ?_
              refine lv_ishl hx hb dX7_drawEdges_92 ?_
              refine iv_top (a := 0) (b := 1048576) (iv_shl1 20 b16 (by decide) (by decide) (by decide) (by decide)) (fun z19 b20 => ?_)
              refine lv_ior hx hb dX7_drawEdges_93 ?_
              refine lv_topi (fun z21 _ => ?_)
              refine va_iast hx hb hK hP hD hS 1 1 rfl rfl (iv_in b13 (by decide) (by decide)) dX7_drawEdges_94 (fun H locs hPa hDa hS => ?_)
              clear hP hD
              have hP : va_P (dC, dI) vwCl [(si, .inr (7, oX7 on oc si_edgesFrom si_diamondFirst si_diamondLast x_si)), (si_edgesFrom, .inl (kI, 21, .inl (upd g30_1 r5.toNatClampNeg z21))), (oc, .inr (0, oX0 c_seen c_sent c_turn c_counter x_c)), (c_seen, .inl (kJ, 96, .inr (.inl f_c_seen)))] H := hPa
              have hD : va_D A [(si, .inr (7, oX7 on oc si_edgesFrom si_diamondFirst si_diamondLast x_si)), (si_edgesFrom, .inl (kI, 21, .inl (upd g30_1 r5.toNatClampNeg z21))), (oc, .inr (0, oX0 c_seen c_sent c_turn c_counter x_c)), (c_seen, .inl (kJ, 96, .inr (.inl f_c_seen)))] := hDa
              clear hPa hDa
              generalize (upd g30_1 r5.toNatClampNeg z21) = f22 at hP hD
              exact hJ95 f22 r5 r9 _ _ _ (b4) ((iv_w b13 (by decide) (by decide))) ((iv_w b16 (by decide) (by decide))) (hP) (hD) hS (lv_sub hl [2, 3, 4, 5, 1, 0] rfl)
  have hJ2 : ∀ (n : Nat) (g2_1 : Nat → Int32) (v2_loc3 : Int32) (H : Heap) (locs : List Loc) (ls : Array Slot), (21 - v2_loc3.toInt).toNat < n → iv 0 21 v2_loc3 → va_P (dC, dI) vwCl [(si, .inr (7, oX7 on oc si_edgesFrom si_diamondFirst si_diamondLast x_si)), (si_edgesFrom, .inl (kI, 21, .inl g2_1)), (oc, .inr (0, oX0 c_seen c_sent c_turn c_counter x_c)), (c_seen, .inl (kJ, 96, .inr (.inl f_c_seen)))] H → va_D A [(si, .inr (7, oX7 on oc si_edgesFrom si_diamondFirst si_diamondLast x_si)), (si_edgesFrom, .inl (kI, 21, .inl g2_1)), (oc, .inr (0, oX0 c_seen c_sent c_turn c_counter x_c)), (c_seen, .inl (kJ, 96, .inr (.inl f_c_seen)))] → va_S A s.heap H locs → lv_has ls 6 [(0, .ref si), (1, .int p0), (2, .int p1), (3, .int v2_loc3)] → W p l e (headSpec wsX7_drawEdges rm_s7_drawEdges).room s m args0 below meth c H locs (0) (0) (MQ below (va_Qv (fun (_ : Unit) => True) (fun _ t => ∃ (f_si_edgesFrom' : Nat → Int32), va_P (dC, dI) vwCl [(si, .inr (7, oX7 on oc si_edgesFrom si_diamondFirst si_diamondLast x_si)), (si_edgesFrom, .inl (kI, 21, .inl f_si_edgesFrom')), (oc, .inr (0, oX0 c_seen c_sent c_turn c_counter x_c)), (c_seen, .inl (kJ, 96, .inr (.inl f_c_seen)))] t.heap ∧ va_D A [(si, .inr (7, oX7 on oc si_edgesFrom si_diamondFirst si_diamondLast x_si)), (si_edgesFrom, .inl (kI, 21, .inl f_si_edgesFrom')), (oc, .inr (0, oX0 c_seen c_sent c_turn c_counter x_c)), (c_seen, .inl (kJ, 96, .inr (.inl f_c_seen)))]) A) args0 s 0 0 A) (F0 m 2 ls []) := by
    intro n
    induction n with
    | zero => intro g2_1 v2_loc3 H locs ls hm2; exact absurd hm2 (Nat.not_lt_zero _)
    | succ n ih2 =>
      intro g2_1 v2_loc3 H locs ls hm2 h2_1 hP hD hS hl
      refine lv_iload_n hx hb dX7_drawEdges_2 rfl (lv_at hl 3 rfl) ?_
      refine lv_bipush (v := 21) hx hb dX7_drawEdges_3 bp_21 ?_
      refine lv_icmp_ge (tgt := 21) hx hb dX7_drawEdges_5 rfl (fun c23 => ?_) (fun c23 => ?_)
      · have b24 : iv 21 21 v2_loc3 := iv_leR c23 ivk_21 h2_1 (by decide) (by decide)
        refine lv_iload_n hx hb dX7_drawEdges_21 rfl (lv_at hl 2 rfl) ?_
        refine lv_bipush (v := 10) hx hb dX7_drawEdges_22 bp_10 ?_
        refine lv_icmp_lt (tgt := 28) hx hb dX7_drawEdges_24 rfl (fun c25 => ?_) (fun c25 => ?_)
        · have b26 : iv 0 9 p1 := iv_ltL c25 hp1 ivk_10 (by decide) (by decide)
          refine lv_iconst (v := 0) hx hb dX7_drawEdges_28 ic_0 ?_
          refine lv_istore_n (lv' := [(3, .int 0), (0, .ref si), (1, .int p0), (2, .int p1)]) hx hb dX7_drawEdges_29 rfl hl (Nat.le_of_ble_eq_true rfl) rfl (fun ls hl => ?_)
          exact hJ30 _ g2_1 0 _ _ _ (Nat.lt_succ_self _) (b26) ((iv_w ivk_0 (by decide) (by decide))) (hP) (hD) hS (lv_sub hl [1, 2, 3, 0] rfl)
        · have b27 : iv 10 10 p1 := iv_leR (Int32.not_lt.mp c25) ivk_10 hp1 (by decide) (by decide)
          have hP9 := hP
          have hD9 := hD
          exact W.vret hx hb hr (fun t ht hW => ⟨⟨(), rfl, trivial, g2_1, by rw [ht]; exact hP9, hD9⟩, hS.F ht⟩) hS.2.2 dX7_drawEdges_27
      · have b28 : iv 0 20 v2_loc3 := iv_ltL (Int32.not_le.mp c23) h2_1 ivk_21 (by decide) (by decide)
        refine lv_aload_n hx hb dX7_drawEdges_8 rfl (lv_at hl 0 rfl) ?_
        refine va_get (D := (dC, dI)) (ci := 7) (v := .ref si_edgesFrom) (C := RX7) (T := TX7) (N := 5) hx hb hts hin7 hown hK hP 0 rfl rfl 2 (Nat.le_of_ble_eq_true rfl) hw_1 (fun _ h9 => h9) rfl dX7_drawEdges_9 ?_
        refine lv_iload_n hx hb dX7_drawEdges_12 rfl (lv_at hl 3 rfl) ?_
        refine lv_iconst (v := 0) hx hb dX7_drawEdges_13 ic_0 ?_
        refine va_iast hx hb hK hP hD hS 1 1 rfl rfl (iv_in b28 (by decide) (by decide)) dX7_drawEdges_14 (fun H locs hPa hDa hS => ?_)
        clear hP hD
        have hP : va_P (dC, dI) vwCl [(si, .inr (7, oX7 on oc si_edgesFrom si_diamondFirst si_diamondLast x_si)), (si_edgesFrom, .inl (kI, 21, .inl (upd g2_1 v2_loc3.toNatClampNeg 0))), (oc, .inr (0, oX0 c_seen c_sent c_turn c_counter x_c)), (c_seen, .inl (kJ, 96, .inr (.inl f_c_seen)))] H := hPa
        have hD : va_D A [(si, .inr (7, oX7 on oc si_edgesFrom si_diamondFirst si_diamondLast x_si)), (si_edgesFrom, .inl (kI, 21, .inl (upd g2_1 v2_loc3.toNatClampNeg 0))), (oc, .inr (0, oX0 c_seen c_sent c_turn c_counter x_c)), (c_seen, .inl (kJ, 96, .inr (.inl f_c_seen)))] := hDa
        clear hPa hDa
        generalize (upd g2_1 v2_loc3.toNatClampNeg 0) = f29 at hP hD
        refine lv_iinc (v := v2_loc3 + Int32.ofInt 1) (lv' := [(3, .int (v2_loc3 + Int32.ofInt 1)), (0, .ref si), (1, .int p0), (2, .int p1)]) hx hb dX7_drawEdges_15 hl (k := 3) rfl (rfl) (Nat.le_of_ble_eq_true rfl) rfl (fun ls hl => ?_)
        have b30 : iv 1 21 (v2_loc3 + Int32.ofInt 1) := iv_add b28 ivo_1 (by decide) (by decide) (by decide) (by decide)
        refine lv_goto (tgt := 2) hx hb dX7_drawEdges_18 rfl ?_
        exact ih2 f29 (v2_loc3 + Int32.ofInt 1) _ _ _ (ms_up (c := 1) (d := 0) b28 hm2 (by decide) (iv_inc 1 b28 (by decide) (by decide) (by decide) (by decide)) (by decide) rfl) ((iv_w b30 (by decide) (by decide))) (hP) (hD) hS (lv_sub hl [1, 2, 3, 0] rfl)
  refine lv_iconst (v := 0) hx hb dX7_drawEdges_0 ic_0 ?_
  refine lv_istore_n (lv' := [(3, .int 0), (0, .ref si), (1, .int p0), (2, .int p1)]) hx hb dX7_drawEdges_1 rfl hl (Nat.le_of_ble_eq_true rfl) rfl (fun ls hl => ?_)
  exact hJ2 _ f_si_edgesFrom 0 _ _ _ (Nat.lt_succ_self _) ((iv_w ivk_0 (by decide) (by decide))) (hP) (hD) hS (lv_sub hl [1, 2, 3, 0] rfl)
def rm_s7_edgesAt : Room := { frames := 2, cells := 0, slots := 0, locals := 50 }
set_option maxHeartbeats 4000000 in
set_option maxRecDepth 100000 in
theorem s7_edgesAt (l : Launch) (dC : Nat → ClassId) (dI : Nat → Nat → Nat) (kB kI kJ kZ kC kS : ClassId) (sz : Nat) (si : Nat) (on : Nat) (oc : Nat) (si_edgesFrom : Nat) (si_diamondFirst : Nat) (si_diamondLast : Nat) (x_si : Nat → Int32) (f_si_edgesFrom : Nat → Int32) (c_seen : Nat) (c_sent : Nat) (c_turn : Nat) (c_counter : Nat) (x_c : Nat → Int32) (f_c_seen : Nat → Int64) (p0 : Int32) (p1 : Int32) (hf_c_seen : sI f_c_seen) (hp0 : iv 0 2 p0) (hp1 : iv 0 10 p1) : Met l yX7_edgesAt wsX7_edgesAt rm_s7_edgesAt (va_Pc [.ref si, .int p0, .int p1] (fun U => U.heap.size = sz ∧ va_P (dC, dI) vwCl [(si, .inr (7, oX7 on oc si_edgesFrom si_diamondFirst si_diamondLast x_si)), (si_edgesFrom, .inl (kI, 21, .inl f_si_edgesFrom)), (oc, .inr (0, oX0 c_seen c_sent c_turn c_counter x_c)), (c_seen, .inl (kJ, 96, .inr (.inl f_c_seen)))] U.heap ∧ kE dC dI kB kI kJ kZ kC kS U ∧ va_D (fun _ => True) [(si, .inr (7, oX7 on oc si_edgesFrom si_diamondFirst si_diamondLast x_si)), (si_edgesFrom, .inl (kI, 21, .inl f_si_edgesFrom)), (oc, .inr (0, oX0 c_seen c_sent c_turn c_counter x_c)), (c_seen, .inl (kJ, 96, .inr (.inl f_c_seen)))])) (va_Qi (fun (r : Int32) (_ : Unit) => True) (fun _ t => ∃ (f_si_edgesFrom' : Nat → Int32), va_P (dC, dI) vwCl [(si, .inr (7, oX7 on oc si_edgesFrom si_diamondFirst si_diamondLast x_si)), (si_edgesFrom, .inl (kI, 21, .inl f_si_edgesFrom')), (oc, .inr (0, oX0 c_seen c_sent c_turn c_counter x_c)), (c_seen, .inl (kJ, 96, .inr (.inl f_c_seen)))] t.heap ∧ va_D (va_A [(si, .inr (7, oX7 on oc si_edgesFrom si_diamondFirst si_diamondLast x_si)), (si_edgesFrom, .inl (kI, 21, .inl f_si_edgesFrom)), (oc, .inr (0, oX0 c_seen c_sent c_turn c_counter x_c)), (c_seen, .inl (kJ, 96, .inr (.inl f_c_seen)))] sz) [(si, .inr (7, oX7 on oc si_edgesFrom si_diamondFirst si_diamondLast x_si)), (si_edgesFrom, .inl (kI, 21, .inl f_si_edgesFrom')), (oc, .inr (0, oX0 c_seen c_sent c_turn c_counter x_c)), (c_seen, .inl (kJ, 96, .inr (.inl f_c_seen)))]) (va_A [(si, .inr (7, oX7 on oc si_edgesFrom si_diamondFirst si_diamondLast x_si)), (si_edgesFrom, .inl (kI, 21, .inl f_si_edgesFrom)), (oc, .inr (0, oX0 c_seen c_sent c_turn c_counter x_c)), (c_seen, .inl (kJ, 96, .inr (.inl f_c_seen)))] sz)) 0 0 (va_A [(si, .inr (7, oX7 on oc si_edgesFrom si_diamondFirst si_diamondLast x_si)), (si_edgesFrom, .inl (kI, 21, .inl f_si_edgesFrom)), (oc, .inr (0, oX0 c_seen c_sent c_turn c_counter x_c)), (c_seen, .inl (kJ, 96, .inr (.inl f_c_seen)))] sz) := by
  refine Met.ofW (cc := cX7_edgesAt) (maxL := 5) (ret := (some .int)) (by decide) rfl ?_
  intro p e s m args0 below meth c s₁ B hml hv
  obtain ⟨hargs, hsz, hP, hE, hD0⟩ := hv
  have hx := B.exec
  have hb := B.bytes
  have hr := B.returns
  have hts := atoms_spec (ws := wsX7_edgesAt) B.pre
  have hown : s.vm.findClass RX7 = some m.cls := findClass_of_methodNamed B.named
  have hlocks := B.notSynchronized
  have hK := hE.1
  have hin7 : ∀ w ∈ wsX70, w ∈ wsX7_edgesAt := fun _ h9 => List.mem_cons_of_mem _ (List.mem_append_left _ (List.mem_append_right _ h9))
  have hin0 : ∀ w ∈ wsX00, w ∈ wsX7_edgesAt := fun _ h9 => List.mem_cons_of_mem _ (List.mem_append_right _ h9)
  have hw_0 := hts (.fieldLink RX7 9 "PathProber$Sight" "edgesFrom" "[I") (List.mem_of_getElem? (i := 1) rfl)
  subst hsz
  have hD := hD0.self (sz := s.heap.size)
  generalize hAe : va_A [(si, .inr (7, oX7 on oc si_edgesFrom si_diamondFirst si_diamondLast x_si)), (si_edgesFrom, .inl (kI, 21, .inl f_si_edgesFrom)), (oc, .inr (0, oX0 c_seen c_sent c_turn c_counter x_c)), (c_seen, .inl (kJ, 96, .inr (.inl f_c_seen)))] s.heap.size = A at hD ⊢
  have hA : ∀ q : Nat, s.heap.size ≤ q → A q := fun q h => by rw [← hAe]; exact Or.inr h
  have hS : va_S A s.heap s.heap [] := va_S.rf
  have hP : va_P (dC, dI) vwCl [(si, .inr (7, oX7 on oc si_edgesFrom si_diamondFirst si_diamondLast x_si)), (si_edgesFrom, .inl (kI, 21, .inl f_si_edgesFrom)), (oc, .inr (0, oX0 c_seen c_sent c_turn c_counter x_c)), (c_seen, .inl (kJ, 96, .inr (.inl f_c_seen)))] s.heap := hP
  have hl := lv_entry ([.ref si, .int p0, .int p1]) (n := 5) (Nat.le_of_ble_eq_true rfl)
  have hla : entryFrame m args0 5 = entryFrame m ([.ref si, .int p0, .int p1] : List Value).toArray 5 := by rw [hargs]
  rw [hla, lg_entry_eq]
  generalize (lg_sl ([.ref si, .int p0, .int p1]) ++ List.replicate (5 - (lg_sl ([.ref si, .int p0, .int p1])).length) Slot.unset).toArray = ls at hl ⊢
  have hl : lv_has ls 5 [(0, .ref si), (1, .int p0), (2, .int p1)] := hl
  have hJ11 : ∀ (n : Nat) (g11_1 : Nat → Int32) (v11_loc3 : Int32) (v11_loc4 : Int32) (H : Heap) (locs : List Loc) (ls : Array Slot), (21 - v11_loc4.toInt).toNat < n → iv 0 21 v11_loc4 → va_P (dC, dI) vwCl [(si, .inr (7, oX7 on oc si_edgesFrom si_diamondFirst si_diamondLast x_si)), (si_edgesFrom, .inl (kI, 21, .inl g11_1)), (oc, .inr (0, oX0 c_seen c_sent c_turn c_counter x_c)), (c_seen, .inl (kJ, 96, .inr (.inl f_c_seen)))] H → va_D A [(si, .inr (7, oX7 on oc si_edgesFrom si_diamondFirst si_diamondLast x_si)), (si_edgesFrom, .inl (kI, 21, .inl g11_1)), (oc, .inr (0, oX0 c_seen c_sent c_turn c_counter x_c)), (c_seen, .inl (kJ, 96, .inr (.inl f_c_seen)))] → va_S A s.heap H locs → lv_has ls 5 [(0, .ref si), (1, .int p0), (2, .int p1), (3, .int v11_loc3), (4, .int v11_loc4)] → W p l e (headSpec wsX7_edgesAt rm_s7_edgesAt).room s m args0 below meth c H locs (0) (0) (MQ below (va_Qi (fun (r : Int32) (_ : Unit) => True) (fun _ t => ∃ (f_si_edgesFrom' : Nat → Int32), va_P (dC, dI) vwCl [(si, .inr (7, oX7 on oc si_edgesFrom si_diamondFirst si_diamondLast x_si)), (si_edgesFrom, .inl (kI, 21, .inl f_si_edgesFrom')), (oc, .inr (0, oX0 c_seen c_sent c_turn c_counter x_c)), (c_seen, .inl (kJ, 96, .inr (.inl f_c_seen)))] t.heap ∧ va_D A [(si, .inr (7, oX7 on oc si_edgesFrom si_diamondFirst si_diamondLast x_si)), (si_edgesFrom, .inl (kI, 21, .inl f_si_edgesFrom')), (oc, .inr (0, oX0 c_seen c_sent c_turn c_counter x_c)), (c_seen, .inl (kJ, 96, .inr (.inl f_c_seen)))]) A) args0 s 0 0 A) (F0 m 11 ls []) := by
    intro n
    induction n with
    | zero => intro g11_1 v11_loc3 v11_loc4 H locs ls hm11; exact absurd hm11 (Nat.not_lt_zero _)
    | succ n ih11 =>
      intro g11_1 v11_loc3 v11_loc4 H locs ls hm11 h11_1 hP hD hS hl
      refine lv_iload hx hb dX7_edgesAt_11 (lv_at hl 4 rfl) ?_
      refine lv_bipush (v := 21) hx hb dX7_edgesAt_13 bp_21 ?_
      refine lv_icmp_ge (tgt := 37) hx hb dX7_edgesAt_15 rfl (fun c1 => ?_) (fun c1 => ?_)
      · have b2 : iv 21 21 v11_loc4 := iv_leR c1 ivk_21 h11_1 (by decide) (by decide)
        refine lv_iload_n hx hb dX7_edgesAt_37 rfl (lv_at hl 3 rfl) ?_
        have hP9 := hP
        have hD9 := hD
        exact W.iret (v := v11_loc3) hx hb hr (fun t ht hW => ⟨⟨v11_loc3, (), rfl, trivial, g11_1, by rw [ht]; exact hP9, hD9⟩, hS.F ht⟩) hS.2.2 dX7_edgesAt_38
      · have b3 : iv 0 20 v11_loc4 := iv_ltL (Int32.not_le.mp c1) h11_1 ivk_21 (by decide) (by decide)
        refine lv_iload_n hx hb dX7_edgesAt_18 rfl (lv_at hl 3 rfl) ?_
        refine lv_aload_n hx hb dX7_edgesAt_19 rfl (lv_at hl 0 rfl) ?_
        refine va_get (D := (dC, dI)) (ci := 7) (v := .ref si_edgesFrom) (C := RX7) (T := TX7) (N := 5) hx hb hts hin7 hown hK hP 0 rfl rfl 2 (Nat.le_of_ble_eq_true rfl) hw_0 (fun _ h9 => h9) rfl dX7_edgesAt_20 ?_
        refine lv_iload hx hb dX7_edgesAt_23 (lv_at hl 4 rfl) ?_
        refine va_iald hx hb hK hP 1 1 rfl rfl (iv_in b3 (by decide) (by decide)) dX7_edgesAt_25 ?_
        refine lv_topi (fun z4 _ => ?_)
        obtain ⟨hPc, hDc, hFc, hJn⟩ := cl_a (wc := []) (wr := [(si, .inr (7, oX7 on oc si_edgesFrom si_diamondFirst si_diamondLast x_si)), (si_edgesFrom, .inl (kI, 21, .inl g11_1)), (oc, .inr (0, oX0 c_seen c_sent c_turn c_counter x_c)), (c_seen, .inl (kJ, 96, .inr (.inl f_c_seen)))]) hP hD hS hA [] [0, 1, 2, 3] rfl rfl (by decide +kernel)
        refine va_calli (va_runS (As := [.int z4]) (rest := [.int v11_loc3]) ⟨hx, hb, hml, hown, hts⟩ (sJ_bitCount l dC dI kB kI kJ kZ kC kS H.size z4) (va_cwS 1 hts gX7_edgesAt_J6_bitCount_0f7a4 rfl rfl rfl (by decide +kernel) ⟨Nat.le_of_ble_eq_true rfl, Nat.le_of_ble_eq_true rfl⟩) ⟨fun a U g mk q => by obtain ⟨q0, q1, qP, qE, qD⟩ := q; exact ⟨q0, q1, qP, kE_call qE, qD⟩, fun U hU hW => ⟨rfl, by rw [hU], by rw [hU]; exact hPc, kE_warm hW hE, hDc.weaken (fun _ _ _ _ => trivial)⟩⟩ rfl rfl hl.1 rfl (lv_room (Nat.le_of_ble_eq_true rfl)) dX7_edgesAt_26 ⟨Nat.le_of_ble_eq_true rfl, Nat.le_of_ble_eq_true rfl⟩) hS (fun q _ h => hFc q h) hFc (fun r5 u t H locs ht hvm w6 hB hz1 hk1 hS => ?_)
        obtain ⟨hP1, hD1⟩ := hB
        try dsimp only at w6
        obtain ⟨hPa, hDa⟩ := hJn (w1 := []) hk1 ht hP1 hD1
        clear hP hD hPc hDc hFc hJn hP1 hD1 hk1
        have hP : va_P (dC, dI) vwCl [(si, .inr (7, oX7 on oc si_edgesFrom si_diamondFirst si_diamondLast x_si)), (si_edgesFrom, .inl (kI, 21, .inl g11_1)), (oc, .inr (0, oX0 c_seen c_sent c_turn c_counter x_c)), (c_seen, .inl (kJ, 96, .inr (.inl f_c_seen)))] H := hPa
        have hD : va_D A [(si, .inr (7, oX7 on oc si_edgesFrom si_diamondFirst si_diamondLast x_si)), (si_edgesFrom, .inl (kI, 21, .inl g11_1)), (oc, .inr (0, oX0 c_seen c_sent c_turn c_counter x_c)), (c_seen, .inl (kJ, 96, .inr (.inl f_c_seen)))] := hDa
        clear hPa hDa
        refine W.widen (k := 0) (n := 0) (Nat.le_of_ble_eq_true rfl) (Nat.le_of_ble_eq_true rfl) ?_
        refine lv_iadd hx hb dX7_edgesAt_29 ?_
        refine lv_topi (fun z7 _ => ?_)
        refine lv_istore_n (lv' := [(3, .int z7), (0, .ref si), (1, .int p0), (2, .int p1), (4, .int v11_loc4)]) hx hb dX7_edgesAt_30 rfl hl (Nat.le_of_ble_eq_true rfl) rfl (fun ls hl => ?_)
        refine lv_iinc (v := v11_loc4 + Int32.ofInt 1) (lv' := [(4, .int (v11_loc4 + Int32.ofInt 1)), (3, .int z7), (0, .ref si), (1, .int p0), (2, .int p1)]) hx hb dX7_edgesAt_31 hl (k := 4) rfl (rfl) (Nat.le_of_ble_eq_true rfl) rfl (fun ls hl => ?_)
        have b8 : iv 1 21 (v11_loc4 + Int32.ofInt 1) := iv_add b3 ivo_1 (by decide) (by decide) (by decide) (by decide)
        refine lv_goto (tgt := 11) hx hb dX7_edgesAt_34 rfl ?_
        exact ih11 g11_1 z7 (v11_loc4 + Int32.ofInt 1) _ _ _ (ms_up (c := 1) (d := 0) b3 hm11 (by decide) (iv_inc 1 b3 (by decide) (by decide) (by decide) (by decide)) (by decide) rfl) ((iv_w b8 (by decide) (by decide))) (hP) (hD) hS (lv_sub hl [2, 3, 4, 1, 0] rfl)
  refine lv_aload_n hx hb dX7_edgesAt_0 rfl (lv_at hl 0 rfl) ?_
  refine lv_iload_n hx hb dX7_edgesAt_1 rfl (lv_at hl 1 rfl) ?_
  refine lv_iload_n hx hb dX7_edgesAt_2 rfl (lv_at hl 2 rfl) ?_
  obtain ⟨hPc, hDc, hFc, hJn⟩ := cl_a (wc := [(si, .inr (7, oX7 on oc si_edgesFrom si_diamondFirst si_diamondLast x_si)), (si_edgesFrom, .inl (kI, 21, .inl f_si_edgesFrom)), (oc, .inr (0, oX0 c_seen c_sent c_turn c_counter x_c)), (c_seen, .inl (kJ, 96, .inr (.inl f_c_seen)))]) (wr := []) hP hD hS hA [0, 1, 2, 3] [] rfl rfl (by decide +kernel)
  refine va_callv (va_runV (As := [.int p0, .int p1]) (rest := []) ⟨hx, hb, hml, hown, hts⟩ (s7_drawEdges l dC dI kB kI kJ kZ kC kS s.heap.size si on oc si_edgesFrom si_diamondFirst si_diamondLast x_si f_si_edgesFrom c_seen c_sent c_turn c_counter x_c f_c_seen p0 p1 (hf_c_seen) (hp0) (hp1)) (cwV 2 hts gX7_edgesAt_X7_drawEdges rfl rfl rfl (by decide +kernel) ⟨Nat.le_of_ble_eq_true rfl, Nat.le_of_ble_eq_true rfl⟩) ⟨fun a U g mk q => by obtain ⟨q0, q1, qP, qE, qD⟩ := q; exact ⟨q0, q1, qP, kE_call qE, qD⟩, va_recv hK hP (ci := 7) (q0 := 0) rfl rfl, fun U hU hW => ⟨rfl, by rw [hU], by rw [hU]; exact hPc, kE_warm hW hE, hDc.weaken (fun _ _ _ _ => trivial)⟩⟩ rfl rfl hl.1 rfl (lv_room (Nat.le_of_ble_eq_true rfl)) dX7_edgesAt_3 ⟨Nat.le_of_ble_eq_true rfl, Nat.le_of_ble_eq_true rfl⟩) hS (fun q _ h => hFc q h) hFc (fun u t H locs ht hvm w10 hB hz1 hk1 hS => ?_)
  obtain ⟨f11, hP1, hD1⟩ := hB
  try dsimp only at w10
  obtain ⟨hPa, hDa⟩ := hJn (w1 := [(si, .inr (7, oX7 on oc si_edgesFrom si_diamondFirst si_diamondLast x_si)), (si_edgesFrom, .inl (kI, 21, .inl f11)), (oc, .inr (0, oX0 c_seen c_sent c_turn c_counter x_c)), (c_seen, .inl (kJ, 96, .inr (.inl f_c_seen)))]) hk1 ht hP1 hD1
  clear hP hD hPc hDc hFc hJn hP1 hD1 hk1
  have hP : va_P (dC, dI) vwCl [(si, .inr (7, oX7 on oc si_edgesFrom si_diamondFirst si_diamondLast x_si)), (si_edgesFrom, .inl (kI, 21, .inl f11)), (oc, .inr (0, oX0 c_seen c_sent c_turn c_counter x_c)), (c_seen, .inl (kJ, 96, .inr (.inl f_c_seen)))] H := hPa
  have hD : va_D A [(si, .inr (7, oX7 on oc si_edgesFrom si_diamondFirst si_diamondLast x_si)), (si_edgesFrom, .inl (kI, 21, .inl f11)), (oc, .inr (0, oX0 c_seen c_sent c_turn c_counter x_c)), (c_seen, .inl (kJ, 96, .inr (.inl f_c_seen)))] := hDa
  clear hPa hDa
  refine W.widen (k := 0) (n := 0) (Nat.le_of_ble_eq_true rfl) (Nat.le_of_ble_eq_true rfl) ?_
  refine lv_iconst (v := 0) hx hb dX7_edgesAt_6 ic_0 ?_
  refine lv_istore_n (lv' := [(3, .int 0), (0, .ref si), (1, .int p0), (2, .int p1)]) hx hb dX7_edgesAt_7 rfl hl (Nat.le_of_ble_eq_true rfl) rfl (fun ls hl => ?_)
  refine lv_iconst (v := 0) hx hb dX7_edgesAt_8 ic_0 ?_
  refine lv_istore (lv' := [(4, .int 0), (3, .int 0), (0, .ref si), (1, .int p0), (2, .int p1)]) hx hb dX7_edgesAt_9 hl (Nat.le_of_ble_eq_true rfl) rfl (fun ls hl => ?_)
  exact hJ11 _ f11 0 0 _ _ _ (Nat.lt_succ_self _) ((iv_w ivk_0 (by decide) (by decide))) (hP) (hD) hS (lv_sub hl [2, 3, 4, 1, 0] rfl)
def rm_s7_edgesInAll : Room := { frames := 3, cells := 0, slots := 0, locals := 74 }
set_option maxHeartbeats 4000000 in
set_option maxRecDepth 100000 in
theorem s7_edgesInAll (l : Launch) (dC : Nat → ClassId) (dI : Nat → Nat → Nat) (kB kI kJ kZ kC kS : ClassId) (sz : Nat) (si : Nat) (on : Nat) (oc : Nat) (si_edgesFrom : Nat) (si_diamondFirst : Nat) (si_diamondLast : Nat) (x_si : Nat → Int32) (f_si_edgesFrom : Nat → Int32) (n_kind : Nat) (n_salt : Nat) (n_pace : Nat) (n_manner : Nat) (n_from : Nat) (n_to : Nat) (n_goal : Nat) (n_reach : Nat) (n_branches : Nat) (n_branch : Nat) (n_tally : Nat) (x_n : Nat → Int32) (c_seen : Nat) (c_sent : Nat) (c_turn : Nat) (c_counter : Nat) (x_c : Nat → Int32) (f_c_seen : Nat → Int64) (hx_n : fI lX2 hX2 x_n) (hf_c_seen : sI f_c_seen) : Met l yX7_edgesInAll wsX7_edgesInAll rm_s7_edgesInAll (va_Pc [.ref si] (fun U => U.heap.size = sz ∧ va_P (dC, dI) vwCl [(si, .inr (7, oX7 on oc si_edgesFrom si_diamondFirst si_diamondLast x_si)), (si_edgesFrom, .inl (kI, 21, .inl f_si_edgesFrom)), (on, .inr (2, oX2 n_kind n_salt n_pace n_manner n_from n_to n_goal n_reach n_branches n_branch n_tally x_n)), (oc, .inr (0, oX0 c_seen c_sent c_turn c_counter x_c)), (c_seen, .inl (kJ, 96, .inr (.inl f_c_seen)))] U.heap ∧ kE dC dI kB kI kJ kZ kC kS U ∧ va_D (fun _ => True) [(si, .inr (7, oX7 on oc si_edgesFrom si_diamondFirst si_diamondLast x_si)), (si_edgesFrom, .inl (kI, 21, .inl f_si_edgesFrom)), (on, .inr (2, oX2 n_kind n_salt n_pace n_manner n_from n_to n_goal n_reach n_branches n_branch n_tally x_n)), (oc, .inr (0, oX0 c_seen c_sent c_turn c_counter x_c)), (c_seen, .inl (kJ, 96, .inr (.inl f_c_seen)))])) (va_Qi (fun (r : Int32) (_ : Unit) => True) (fun _ t => ∃ (f_si_edgesFrom' : Nat → Int32), va_P (dC, dI) vwCl [(si, .inr (7, oX7 on oc si_edgesFrom si_diamondFirst si_diamondLast x_si)), (si_edgesFrom, .inl (kI, 21, .inl f_si_edgesFrom')), (on, .inr (2, oX2 n_kind n_salt n_pace n_manner n_from n_to n_goal n_reach n_branches n_branch n_tally x_n)), (oc, .inr (0, oX0 c_seen c_sent c_turn c_counter x_c)), (c_seen, .inl (kJ, 96, .inr (.inl f_c_seen)))] t.heap ∧ va_D (va_A [(si, .inr (7, oX7 on oc si_edgesFrom si_diamondFirst si_diamondLast x_si)), (si_edgesFrom, .inl (kI, 21, .inl f_si_edgesFrom)), (on, .inr (2, oX2 n_kind n_salt n_pace n_manner n_from n_to n_goal n_reach n_branches n_branch n_tally x_n)), (oc, .inr (0, oX0 c_seen c_sent c_turn c_counter x_c)), (c_seen, .inl (kJ, 96, .inr (.inl f_c_seen)))] sz) [(si, .inr (7, oX7 on oc si_edgesFrom si_diamondFirst si_diamondLast x_si)), (si_edgesFrom, .inl (kI, 21, .inl f_si_edgesFrom')), (on, .inr (2, oX2 n_kind n_salt n_pace n_manner n_from n_to n_goal n_reach n_branches n_branch n_tally x_n)), (oc, .inr (0, oX0 c_seen c_sent c_turn c_counter x_c)), (c_seen, .inl (kJ, 96, .inr (.inl f_c_seen)))]) (va_A [(si, .inr (7, oX7 on oc si_edgesFrom si_diamondFirst si_diamondLast x_si)), (si_edgesFrom, .inl (kI, 21, .inl f_si_edgesFrom)), (on, .inr (2, oX2 n_kind n_salt n_pace n_manner n_from n_to n_goal n_reach n_branches n_branch n_tally x_n)), (oc, .inr (0, oX0 c_seen c_sent c_turn c_counter x_c)), (c_seen, .inl (kJ, 96, .inr (.inl f_c_seen)))] sz)) 0 0 (va_A [(si, .inr (7, oX7 on oc si_edgesFrom si_diamondFirst si_diamondLast x_si)), (si_edgesFrom, .inl (kI, 21, .inl f_si_edgesFrom)), (on, .inr (2, oX2 n_kind n_salt n_pace n_manner n_from n_to n_goal n_reach n_branches n_branch n_tally x_n)), (oc, .inr (0, oX0 c_seen c_sent c_turn c_counter x_c)), (c_seen, .inl (kJ, 96, .inr (.inl f_c_seen)))] sz) := by
  refine Met.ofW (cc := cX7_edgesInAll) (maxL := 4) (ret := (some .int)) (by decide) rfl ?_
  intro p e s m args0 below meth c s₁ B hml hv
  obtain ⟨hargs, hsz, hP, hE, hD0⟩ := hv
  have hx := B.exec
  have hb := B.bytes
  have hr := B.returns
  have hts := atoms_spec (ws := wsX7_edgesInAll) B.pre
  have hown : s.vm.findClass RX7 = some m.cls := findClass_of_methodNamed B.named
  have hlocks := B.notSynchronized
  have hK := hE.1
  have hin7 : ∀ w ∈ wsX70, w ∈ wsX7_edgesInAll := fun _ h9 => List.mem_cons_of_mem _ (List.mem_append_left _ (List.mem_append_left _ (List.mem_append_right _ h9)))
  have hin2 : ∀ w ∈ wsX20, w ∈ wsX7_edgesInAll := fun _ h9 => List.mem_cons_of_mem _ (List.mem_append_left _ (List.mem_append_right _ h9))
  have hin0 : ∀ w ∈ wsX00, w ∈ wsX7_edgesInAll := fun _ h9 => List.mem_cons_of_mem _ (List.mem_append_right _ h9)
  have hw_0 := hts (.fieldLink RX7 21 "PathProber$Sight" "net" "LPathProber$Net;") (List.mem_of_getElem? (i := 1) rfl)
  have hw_1 := hts (.fieldLink RX7 41 "PathProber$Net" "goals" "I") (List.mem_of_getElem? (i := 2) rfl)
  subst hsz
  have hD := hD0.self (sz := s.heap.size)
  generalize hAe : va_A [(si, .inr (7, oX7 on oc si_edgesFrom si_diamondFirst si_diamondLast x_si)), (si_edgesFrom, .inl (kI, 21, .inl f_si_edgesFrom)), (on, .inr (2, oX2 n_kind n_salt n_pace n_manner n_from n_to n_goal n_reach n_branches n_branch n_tally x_n)), (oc, .inr (0, oX0 c_seen c_sent c_turn c_counter x_c)), (c_seen, .inl (kJ, 96, .inr (.inl f_c_seen)))] s.heap.size = A at hD ⊢
  have hA : ∀ q : Nat, s.heap.size ≤ q → A q := fun q h => by rw [← hAe]; exact Or.inr h
  have hS : va_S A s.heap s.heap [] := va_S.rf
  have hP : va_P (dC, dI) vwCl [(si, .inr (7, oX7 on oc si_edgesFrom si_diamondFirst si_diamondLast x_si)), (si_edgesFrom, .inl (kI, 21, .inl f_si_edgesFrom)), (on, .inr (2, oX2 n_kind n_salt n_pace n_manner n_from n_to n_goal n_reach n_branches n_branch n_tally x_n)), (oc, .inr (0, oX0 c_seen c_sent c_turn c_counter x_c)), (c_seen, .inl (kJ, 96, .inr (.inl f_c_seen)))] s.heap := hP
  have hl := lv_entry ([.ref si]) (n := 4) (Nat.le_of_ble_eq_true rfl)
  have hla : entryFrame m args0 4 = entryFrame m ([.ref si] : List Value).toArray 4 := by rw [hargs]
  rw [hla, lg_entry_eq]
  generalize (lg_sl ([.ref si]) ++ List.replicate (4 - (lg_sl ([.ref si])).length) Slot.unset).toArray = ls at hl ⊢
  have hl : lv_has ls 4 [(0, .ref si)] := hl
  have hJ4 : ∀ (n : Nat) (g4_1 : Nat → Int32) (v4_loc1 : Int32) (v4_loc2 : Int32) (H : Heap) (locs : List Loc) (ls : Array Slot), (3 - v4_loc2.toInt).toNat < n → iv 0 3 v4_loc2 → va_P (dC, dI) vwCl [(si, .inr (7, oX7 on oc si_edgesFrom si_diamondFirst si_diamondLast x_si)), (si_edgesFrom, .inl (kI, 21, .inl g4_1)), (on, .inr (2, oX2 n_kind n_salt n_pace n_manner n_from n_to n_goal n_reach n_branches n_branch n_tally x_n)), (oc, .inr (0, oX0 c_seen c_sent c_turn c_counter x_c)), (c_seen, .inl (kJ, 96, .inr (.inl f_c_seen)))] H → va_D A [(si, .inr (7, oX7 on oc si_edgesFrom si_diamondFirst si_diamondLast x_si)), (si_edgesFrom, .inl (kI, 21, .inl g4_1)), (on, .inr (2, oX2 n_kind n_salt n_pace n_manner n_from n_to n_goal n_reach n_branches n_branch n_tally x_n)), (oc, .inr (0, oX0 c_seen c_sent c_turn c_counter x_c)), (c_seen, .inl (kJ, 96, .inr (.inl f_c_seen)))] → va_S A s.heap H locs → lv_has ls 4 [(0, .ref si), (1, .int v4_loc1), (2, .int v4_loc2)] → W p l e (headSpec wsX7_edgesInAll rm_s7_edgesInAll).room s m args0 below meth c H locs (0) (0) (MQ below (va_Qi (fun (r : Int32) (_ : Unit) => True) (fun _ t => ∃ (f_si_edgesFrom' : Nat → Int32), va_P (dC, dI) vwCl [(si, .inr (7, oX7 on oc si_edgesFrom si_diamondFirst si_diamondLast x_si)), (si_edgesFrom, .inl (kI, 21, .inl f_si_edgesFrom')), (on, .inr (2, oX2 n_kind n_salt n_pace n_manner n_from n_to n_goal n_reach n_branches n_branch n_tally x_n)), (oc, .inr (0, oX0 c_seen c_sent c_turn c_counter x_c)), (c_seen, .inl (kJ, 96, .inr (.inl f_c_seen)))] t.heap ∧ va_D A [(si, .inr (7, oX7 on oc si_edgesFrom si_diamondFirst si_diamondLast x_si)), (si_edgesFrom, .inl (kI, 21, .inl f_si_edgesFrom')), (on, .inr (2, oX2 n_kind n_salt n_pace n_manner n_from n_to n_goal n_reach n_branches n_branch n_tally x_n)), (oc, .inr (0, oX0 c_seen c_sent c_turn c_counter x_c)), (c_seen, .inl (kJ, 96, .inr (.inl f_c_seen)))]) A) args0 s 0 0 A) (F0 m 4 ls []) := by
    intro n
    induction n with
    | zero => intro g4_1 v4_loc1 v4_loc2 H locs ls hm4; exact absurd hm4 (Nat.not_lt_zero _)
    | succ n ih4 =>
      intro g4_1 v4_loc1 v4_loc2 H locs ls hm4 h4_1 hP hD hS hl
      have hJ17 : ∀ (n : Nat) (g17_1 : Nat → Int32) (v17_loc1 : Int32) (v17_loc3 : Int32) (H : Heap) (locs : List Loc) (ls : Array Slot), (10 - v17_loc3.toInt).toNat < n → iv 0 2 v4_loc2 → iv 1 10 v17_loc3 → iv 1 3 (x_n 2) → va_P (dC, dI) vwCl [(si, .inr (7, oX7 on oc si_edgesFrom si_diamondFirst si_diamondLast x_si)), (si_edgesFrom, .inl (kI, 21, .inl g17_1)), (on, .inr (2, oX2 n_kind n_salt n_pace n_manner n_from n_to n_goal n_reach n_branches n_branch n_tally x_n)), (oc, .inr (0, oX0 c_seen c_sent c_turn c_counter x_c)), (c_seen, .inl (kJ, 96, .inr (.inl f_c_seen)))] H → va_D A [(si, .inr (7, oX7 on oc si_edgesFrom si_diamondFirst si_diamondLast x_si)), (si_edgesFrom, .inl (kI, 21, .inl g17_1)), (on, .inr (2, oX2 n_kind n_salt n_pace n_manner n_from n_to n_goal n_reach n_branches n_branch n_tally x_n)), (oc, .inr (0, oX0 c_seen c_sent c_turn c_counter x_c)), (c_seen, .inl (kJ, 96, .inr (.inl f_c_seen)))] → va_S A s.heap H locs → lv_has ls 4 [(0, .ref si), (1, .int v17_loc1), (2, .int v4_loc2), (3, .int v17_loc3)] → W p l e (headSpec wsX7_edgesInAll rm_s7_edgesInAll).room s m args0 below meth c H locs (0) (0) (MQ below (va_Qi (fun (r : Int32) (_ : Unit) => True) (fun _ t => ∃ (f_si_edgesFrom' : Nat → Int32), va_P (dC, dI) vwCl [(si, .inr (7, oX7 on oc si_edgesFrom si_diamondFirst si_diamondLast x_si)), (si_edgesFrom, .inl (kI, 21, .inl f_si_edgesFrom')), (on, .inr (2, oX2 n_kind n_salt n_pace n_manner n_from n_to n_goal n_reach n_branches n_branch n_tally x_n)), (oc, .inr (0, oX0 c_seen c_sent c_turn c_counter x_c)), (c_seen, .inl (kJ, 96, .inr (.inl f_c_seen)))] t.heap ∧ va_D A [(si, .inr (7, oX7 on oc si_edgesFrom si_diamondFirst si_diamondLast x_si)), (si_edgesFrom, .inl (kI, 21, .inl f_si_edgesFrom')), (on, .inr (2, oX2 n_kind n_salt n_pace n_manner n_from n_to n_goal n_reach n_branches n_branch n_tally x_n)), (oc, .inr (0, oX0 c_seen c_sent c_turn c_counter x_c)), (c_seen, .inl (kJ, 96, .inr (.inl f_c_seen)))]) A) args0 s 0 0 A) (F0 m 17 ls []) := by
        intro n
        induction n with
        | zero => intro g17_1 v17_loc1 v17_loc3 H locs ls hm17; exact absurd hm17 (Nat.not_lt_zero _)
        | succ n ih17 =>
          intro g17_1 v17_loc1 v17_loc3 H locs ls hm17 h17_1 h17_2 h17_3 hP hD hS hl
          refine lv_iload_n hx hb dX7_edgesInAll_17 rfl (lv_at hl 3 rfl) ?_
          refine lv_bipush (v := 10) hx hb dX7_edgesInAll_18 bp_10 ?_
          refine lv_icmp_ge (tgt := 38) hx hb dX7_edgesInAll_20 rfl (fun c1 => ?_) (fun c1 => ?_)
          · have b2 : iv 10 10 v17_loc3 := iv_leR c1 ivk_10 h17_2 (by decide) (by decide)
            refine lv_iinc (v := v4_loc2 + Int32.ofInt 1) (lv' := [(2, .int (v4_loc2 + Int32.ofInt 1)), (0, .ref si), (1, .int v17_loc1), (3, .int v17_loc3)]) hx hb dX7_edgesInAll_38 hl (k := 2) rfl (rfl) (Nat.le_of_ble_eq_true rfl) rfl (fun ls hl => ?_)
            have b3 : iv 1 3 (v4_loc2 + Int32.ofInt 1) := iv_add h17_1 ivo_1 (by decide) (by decide) (by decide) (by decide)
            refine lv_goto (tgt := 4) hx hb dX7_edgesInAll_41 rfl ?_
            exact ih4 g17_1 v17_loc1 (v4_loc2 + Int32.ofInt 1) _ _ _ (ms_up (c := 1) (d := 0) h17_1 hm4 (by decide) (iv_inc 1 h17_1 (by decide) (by decide) (by decide) (by decide)) (by decide) rfl) ((iv_w b3 (by decide) (by decide))) (hP) (hD) hS (lv_sub hl [1, 2, 0] rfl)
          · have b4 : iv 1 9 v17_loc3 := iv_ltL (Int32.not_le.mp c1) h17_2 ivk_10 (by decide) (by decide)
            refine lv_iload_n hx hb dX7_edgesInAll_23 rfl (lv_at hl 1 rfl) ?_
            refine lv_aload_n hx hb dX7_edgesInAll_24 rfl (lv_at hl 0 rfl) ?_
            refine lv_iload_n hx hb dX7_edgesInAll_25 rfl (lv_at hl 2 rfl) ?_
            refine lv_iload_n hx hb dX7_edgesInAll_26 rfl (lv_at hl 3 rfl) ?_
            obtain ⟨hPc, hDc, hFc, hJn⟩ := cl_a (wc := [(si, .inr (7, oX7 on oc si_edgesFrom si_diamondFirst si_diamondLast x_si)), (si_edgesFrom, .inl (kI, 21, .inl g17_1)), (oc, .inr (0, oX0 c_seen c_sent c_turn c_counter x_c)), (c_seen, .inl (kJ, 96, .inr (.inl f_c_seen)))]) (wr := [(on, .inr (2, oX2 n_kind n_salt n_pace n_manner n_from n_to n_goal n_reach n_branches n_branch n_tally x_n))]) hP hD hS hA [0, 1, 3, 4] [2] rfl rfl (by decide +kernel)
            refine va_calli (va_runV (As := [.int v4_loc2, .int v17_loc3]) (rest := [.int v17_loc1]) ⟨hx, hb, hml, hown, hts⟩ (s7_edgesAt l dC dI kB kI kJ kZ kC kS H.size si on oc si_edgesFrom si_diamondFirst si_diamondLast x_si g17_1 c_seen c_sent c_turn c_counter x_c f_c_seen v4_loc2 v17_loc3 (hf_c_seen) (h17_1) ((iv_w b4 (by decide) (by decide)))) (cwV 2 hts gX7_edgesInAll_X7_edgesAt rfl rfl rfl (by decide +kernel) ⟨Nat.le_of_ble_eq_true rfl, Nat.le_of_ble_eq_true rfl⟩) ⟨fun a U g mk q => by obtain ⟨q0, q1, qP, qE, qD⟩ := q; exact ⟨q0, q1, qP, kE_call qE, qD⟩, va_recv hK hP (ci := 7) (q0 := 0) rfl rfl, fun U hU hW => ⟨rfl, by rw [hU], by rw [hU]; exact hPc, kE_warm hW hE, hDc.weaken (fun _ _ _ _ => trivial)⟩⟩ rfl rfl hl.1 rfl (lv_room (Nat.le_of_ble_eq_true rfl)) dX7_edgesInAll_27 ⟨Nat.le_of_ble_eq_true rfl, Nat.le_of_ble_eq_true rfl⟩) hS (fun q _ h => hFc q h) hFc (fun r5 u t H locs ht hvm w6 hB hz1 hk1 hS => ?_)
            obtain ⟨f7, hP1, hD1⟩ := hB
            try dsimp only at w6
            obtain ⟨hPa, hDa⟩ := hJn (w1 := [(si, .inr (7, oX7 on oc si_edgesFrom si_diamondFirst si_diamondLast x_si)), (si_edgesFrom, .inl (kI, 21, .inl f7)), (oc, .inr (0, oX0 c_seen c_sent c_turn c_counter x_c)), (c_seen, .inl (kJ, 96, .inr (.inl f_c_seen)))]) hk1 ht hP1 hD1
            clear hP hD hPc hDc hFc hJn hP1 hD1 hk1
            have hP : va_P (dC, dI) vwCl [(on, .inr (2, oX2 n_kind n_salt n_pace n_manner n_from n_to n_goal n_reach n_branches n_branch n_tally x_n)), (si, .inr (7, oX7 on oc si_edgesFrom si_diamondFirst si_diamondLast x_si)), (si_edgesFrom, .inl (kI, 21, .inl f7)), (oc, .inr (0, oX0 c_seen c_sent c_turn c_counter x_c)), (c_seen, .inl (kJ, 96, .inr (.inl f_c_seen)))] H := hPa
            have hD : va_D A [(on, .inr (2, oX2 n_kind n_salt n_pace n_manner n_from n_to n_goal n_reach n_branches n_branch n_tally x_n)), (si, .inr (7, oX7 on oc si_edgesFrom si_diamondFirst si_diamondLast x_si)), (si_edgesFrom, .inl (kI, 21, .inl f7)), (oc, .inr (0, oX0 c_seen c_sent c_turn c_counter x_c)), (c_seen, .inl (kJ, 96, .inr (.inl f_c_seen)))] := hDa
            clear hPa hDa
            refine W.widen (k := 0) (n := 0) (Nat.le_of_ble_eq_true rfl) (Nat.le_of_ble_eq_true rfl) ?_
            refine lv_iadd hx hb dX7_edgesInAll_30 ?_
            refine lv_topi (fun z8 _ => ?_)
            refine lv_istore_n (lv' := [(1, .int z8), (0, .ref si), (2, .int v4_loc2), (3, .int v17_loc3)]) hx hb dX7_edgesInAll_31 rfl hl (Nat.le_of_ble_eq_true rfl) rfl (fun ls hl => ?_)
            refine lv_iinc (v := v17_loc3 + Int32.ofInt 1) (lv' := [(3, .int (v17_loc3 + Int32.ofInt 1)), (1, .int z8), (0, .ref si), (2, .int v4_loc2)]) hx hb dX7_edgesInAll_32 hl (k := 3) rfl (rfl) (Nat.le_of_ble_eq_true rfl) rfl (fun ls hl => ?_)
            have b9 : iv 2 10 (v17_loc3 + Int32.ofInt 1) := iv_add b4 ivo_1 (by decide) (by decide) (by decide) (by decide)
            refine lv_goto (tgt := 17) hx hb dX7_edgesInAll_35 rfl ?_
            have hPD9 := cl_s (wc := [(si, .inr (7, oX7 on oc si_edgesFrom si_diamondFirst si_diamondLast x_si)), (si_edgesFrom, .inl (kI, 21, .inl f7)), (on, .inr (2, oX2 n_kind n_salt n_pace n_manner n_from n_to n_goal n_reach n_branches n_branch n_tally x_n)), (oc, .inr (0, oX0 c_seen c_sent c_turn c_counter x_c)), (c_seen, .inl (kJ, 96, .inr (.inl f_c_seen)))]) hP hD [1, 2, 0, 3, 4] rfl (by decide +kernel)
            exact ih17 f7 z8 (v17_loc3 + Int32.ofInt 1) _ _ _ (ms_up (c := 1) (d := 0) b4 hm17 (by decide) (iv_inc 1 b4 (by decide) (by decide) (by decide) (by decide)) (by decide) rfl) (h17_1) ((iv_w b9 (by decide) (by decide))) (h17_3) (hPD9.1) (hPD9.2) hS (lv_sub hl [2, 1, 3, 0] rfl)
      refine lv_iload_n hx hb dX7_edgesInAll_4 rfl (lv_at hl 2 rfl) ?_
      refine lv_aload_n hx hb dX7_edgesInAll_5 rfl (lv_at hl 0 rfl) ?_
      refine va_get (D := (dC, dI)) (ci := 7) (v := .ref on) (C := RX7) (T := TX7) (N := 5) hx hb hts hin7 hown hK hP 0 rfl rfl 0 (Nat.le_of_ble_eq_true rfl) hw_0 (fun _ h9 => h9) rfl dX7_edgesInAll_6 ?_
      refine va_get (D := (dC, dI)) (ci := 2) (v := .int (x_n 2)) (C := RX2) (T := TX2) (N := 15) hx hb hts hin2 hown hK hP 2 rfl rfl 9 (Nat.le_of_ble_eq_true rfl) hw_1 (fun _ h9 => h9) rfl dX7_edgesInAll_9 ?_
      refine lv_icmp_ge (tgt := 44) hx hb dX7_edgesInAll_12 rfl (fun c10 => ?_) (fun c10 => ?_)
      · refine lv_iload_n hx hb dX7_edgesInAll_44 rfl (lv_at hl 1 rfl) ?_
        have hP9 := hP
        have hD9 := hD
        exact W.iret (v := v4_loc1) hx hb hr (fun t ht hW => ⟨⟨v4_loc1, (), rfl, trivial, g4_1, by rw [ht]; exact hP9, hD9⟩, hS.F ht⟩) hS.2.2 dX7_edgesInAll_45
      · have b11 : iv 0 2 v4_loc2 := iv_ltL (Int32.not_le.mp c10) h4_1 (hx_n 2 : iv 0 3 (x_n 2)) (by decide) (by decide)
        have b12 : iv 1 3 (x_n 2) := iv_ltR (Int32.not_le.mp c10) h4_1 (hx_n 2 : iv 0 3 (x_n 2)) (by decide) (by decide)
        refine lv_iconst (v := 1) hx hb dX7_edgesInAll_15 ic_1 ?_
        refine lv_istore_n (lv' := [(3, .int 1), (0, .ref si), (1, .int v4_loc1), (2, .int v4_loc2)]) hx hb dX7_edgesInAll_16 rfl hl (Nat.le_of_ble_eq_true rfl) rfl (fun ls hl => ?_)
        exact hJ17 _ g4_1 v4_loc1 1 _ _ _ (Nat.lt_succ_self _) (b11) ((iv_w ivk_1 (by decide) (by decide))) (b12) (hP) (hD) hS (lv_sub hl [1, 2, 3, 0] rfl)
  refine lv_iconst (v := 0) hx hb dX7_edgesInAll_0 ic_0 ?_
  refine lv_istore_n (lv' := [(1, .int 0), (0, .ref si)]) hx hb dX7_edgesInAll_1 rfl hl (Nat.le_of_ble_eq_true rfl) rfl (fun ls hl => ?_)
  refine lv_iconst (v := 0) hx hb dX7_edgesInAll_2 ic_0 ?_
  refine lv_istore_n (lv' := [(2, .int 0), (1, .int 0), (0, .ref si)]) hx hb dX7_edgesInAll_3 rfl hl (Nat.le_of_ble_eq_true rfl) rfl (fun ls hl => ?_)
  exact hJ4 _ f_si_edgesFrom 0 0 _ _ _ (Nat.lt_succ_self _) ((iv_w ivk_0 (by decide) (by decide))) (hP) (hD) hS (lv_sub hl [2, 1, 0] rfl)
def rm_s7_widthOf : Room := { frames := 2, cells := 0, slots := 0, locals := 47 }
set_option maxHeartbeats 4000000 in
set_option maxRecDepth 100000 in
theorem s7_widthOf (l : Launch) (dC : Nat → ClassId) (dI : Nat → Nat → Nat) (kB kI kJ kZ kC kS : ClassId) (sz : Nat) (si : Nat) (on : Nat) (oc : Nat) (si_edgesFrom : Nat) (si_diamondFirst : Nat) (si_diamondLast : Nat) (x_si : Nat → Int32) (c_seen : Nat) (c_sent : Nat) (c_turn : Nat) (c_counter : Nat) (x_c : Nat → Int32) (f_c_seen : Nat → Int64) (p0 : Int32) (p1 : Int32) (p2 : Int32) (hf_c_seen : sI f_c_seen) (hp0 : iv 0 2 p0) (hp1 : iv 0 10 p1) (hp2 : iv 0 10 p2) : Met l yX7_widthOf wsX7_widthOf rm_s7_widthOf (va_Pc [.ref si, .int p0, .int p1, .int p2] (fun U => U.heap.size = sz ∧ va_P (dC, dI) vwCl [(si, .inr (7, oX7 on oc si_edgesFrom si_diamondFirst si_diamondLast x_si)), (oc, .inr (0, oX0 c_seen c_sent c_turn c_counter x_c)), (c_seen, .inl (kJ, 96, .inr (.inl f_c_seen)))] U.heap ∧ kE dC dI kB kI kJ kZ kC kS U ∧ va_D (fun _ => True) [(si, .inr (7, oX7 on oc si_edgesFrom si_diamondFirst si_diamondLast x_si)), (oc, .inr (0, oX0 c_seen c_sent c_turn c_counter x_c)), (c_seen, .inl (kJ, 96, .inr (.inl f_c_seen)))])) (va_Qi (fun (r : Int32) (_ : Unit) => iv 0 2147483647 r) (fun _ t => va_P (dC, dI) vwCl [(si, .inr (7, oX7 on oc si_edgesFrom si_diamondFirst si_diamondLast x_si)), (oc, .inr (0, oX0 c_seen c_sent c_turn c_counter x_c)), (c_seen, .inl (kJ, 96, .inr (.inl f_c_seen)))] t.heap ∧ va_D (va_A [(si, .inr (7, oX7 on oc si_edgesFrom si_diamondFirst si_diamondLast x_si)), (oc, .inr (0, oX0 c_seen c_sent c_turn c_counter x_c)), (c_seen, .inl (kJ, 96, .inr (.inl f_c_seen)))] sz) [(si, .inr (7, oX7 on oc si_edgesFrom si_diamondFirst si_diamondLast x_si)), (oc, .inr (0, oX0 c_seen c_sent c_turn c_counter x_c)), (c_seen, .inl (kJ, 96, .inr (.inl f_c_seen)))]) (va_A [(si, .inr (7, oX7 on oc si_edgesFrom si_diamondFirst si_diamondLast x_si)), (oc, .inr (0, oX0 c_seen c_sent c_turn c_counter x_c)), (c_seen, .inl (kJ, 96, .inr (.inl f_c_seen)))] sz)) 0 0 (va_A [(si, .inr (7, oX7 on oc si_edgesFrom si_diamondFirst si_diamondLast x_si)), (oc, .inr (0, oX0 c_seen c_sent c_turn c_counter x_c)), (c_seen, .inl (kJ, 96, .inr (.inl f_c_seen)))] sz) := by
  refine Met.ofW (cc := cX7_widthOf) (maxL := 6) (ret := (some .int)) (by decide) rfl ?_
  intro p e s m args0 below meth c s₁ B hml hv
  obtain ⟨hargs, hsz, hP, hE, hD0⟩ := hv
  have hx := B.exec
  have hb := B.bytes
  have hr := B.returns
  have hts := atoms_spec (ws := wsX7_widthOf) B.pre
  have hown : s.vm.findClass RX7 = some m.cls := findClass_of_methodNamed B.named
  have hlocks := B.notSynchronized
  have hK := hE.1
  have hin7 : ∀ w ∈ wsX70, w ∈ wsX7_widthOf := fun _ h9 => List.mem_cons_of_mem _ (List.mem_append_left _ (List.mem_append_right _ h9))
  have hin0 : ∀ w ∈ wsX00, w ∈ wsX7_widthOf := fun _ h9 => List.mem_cons_of_mem _ (List.mem_append_right _ h9)
  have hw_0 := hts (.methodLink RX7 61 Lib.Math.max.name) (List.mem_of_getElem? (i := 1) rfl)
  have hw_1 := hts (.static Lib.Math.max.name) (List.mem_of_getElem? (i := 2) rfl)
  have hw_2 := hts (.initialized "java/lang/Math") (List.mem_of_getElem? (i := 3) rfl)
  have hw_3 := hts (.code Lib.Math.max.name Lib.Math.max.code 2 (some .int)) (List.mem_of_getElem? (i := 4) rfl)
  subst hsz
  have hD := hD0.self (sz := s.heap.size)
  generalize hAe : va_A [(si, .inr (7, oX7 on oc si_edgesFrom si_diamondFirst si_diamondLast x_si)), (oc, .inr (0, oX0 c_seen c_sent c_turn c_counter x_c)), (c_seen, .inl (kJ, 96, .inr (.inl f_c_seen)))] s.heap.size = A at hD ⊢
  have hA : ∀ q : Nat, s.heap.size ≤ q → A q := fun q h => by rw [← hAe]; exact Or.inr h
  have hS : va_S A s.heap s.heap [] := va_S.rf
  have hP : va_P (dC, dI) vwCl [(si, .inr (7, oX7 on oc si_edgesFrom si_diamondFirst si_diamondLast x_si)), (oc, .inr (0, oX0 c_seen c_sent c_turn c_counter x_c)), (c_seen, .inl (kJ, 96, .inr (.inl f_c_seen)))] s.heap := hP
  have hl := lv_entry ([.ref si, .int p0, .int p1, .int p2]) (n := 6) (Nat.le_of_ble_eq_true rfl)
  have hla : entryFrame m args0 6 = entryFrame m ([.ref si, .int p0, .int p1, .int p2] : List Value).toArray 6 := by rw [hargs]
  rw [hla, lg_entry_eq]
  generalize (lg_sl ([.ref si, .int p0, .int p1, .int p2]) ++ List.replicate (6 - (lg_sl ([.ref si, .int p0, .int p1, .int p2])).length) Slot.unset).toArray = ls at hl ⊢
  have hl : lv_has ls 6 [(0, .ref si), (1, .int p0), (2, .int p1), (3, .int p2)] := hl
  have hJ6 : ∀ (n : Nat) (v6_loc4 : Int32) (v6_loc5 : Int32) (H : Heap) (locs : List Loc) (ls : Array Slot), (11 - v6_loc5.toInt).toNat < n → iv 0 2147483647 v6_loc4 → iv 0 11 v6_loc5 → va_P (dC, dI) vwCl [(si, .inr (7, oX7 on oc si_edgesFrom si_diamondFirst si_diamondLast x_si)), (oc, .inr (0, oX0 c_seen c_sent c_turn c_counter x_c)), (c_seen, .inl (kJ, 96, .inr (.inl f_c_seen)))] H → va_D A [(si, .inr (7, oX7 on oc si_edgesFrom si_diamondFirst si_diamondLast x_si)), (oc, .inr (0, oX0 c_seen c_sent c_turn c_counter x_c)), (c_seen, .inl (kJ, 96, .inr (.inl f_c_seen)))] → va_S A s.heap H locs → lv_has ls 6 [(0, .ref si), (1, .int p0), (2, .int p1), (3, .int p2), (4, .int v6_loc4), (5, .int v6_loc5)] → W p l e (headSpec wsX7_widthOf rm_s7_widthOf).room s m args0 below meth c H locs (0) (0) (MQ below (va_Qi (fun (r : Int32) (_ : Unit) => iv 0 2147483647 r) (fun _ t => va_P (dC, dI) vwCl [(si, .inr (7, oX7 on oc si_edgesFrom si_diamondFirst si_diamondLast x_si)), (oc, .inr (0, oX0 c_seen c_sent c_turn c_counter x_c)), (c_seen, .inl (kJ, 96, .inr (.inl f_c_seen)))] t.heap ∧ va_D A [(si, .inr (7, oX7 on oc si_edgesFrom si_diamondFirst si_diamondLast x_si)), (oc, .inr (0, oX0 c_seen c_sent c_turn c_counter x_c)), (c_seen, .inl (kJ, 96, .inr (.inl f_c_seen)))]) A) args0 s 0 0 A) (F0 m 6 ls []) := by
    intro n
    induction n with
    | zero => intro v6_loc4 v6_loc5 H locs ls hm6; exact absurd hm6 (Nat.not_lt_zero _)
    | succ n ih6 =>
      intro v6_loc4 v6_loc5 H locs ls hm6 h6_1 h6_2 hP hD hS hl
      refine lv_iload hx hb dX7_widthOf_6 (lv_at hl 5 rfl) ?_
      refine lv_iload_n hx hb dX7_widthOf_8 rfl (lv_at hl 3 rfl) ?_
      refine lv_icmp_gt (tgt := 32) hx hb dX7_widthOf_9 rfl (fun c1 => ?_) (fun c1 => ?_)
      · have b2 : iv 1 11 v6_loc5 := iv_ltR c1 hp2 h6_2 (by decide) (by decide)
        refine lv_iload hx hb dX7_widthOf_32 (lv_at hl 4 rfl) ?_
        have hP9 := hP
        have hD9 := hD
        exact W.iret (v := v6_loc4) hx hb hr (fun t ht hW => ⟨⟨v6_loc4, (), rfl, h6_1, by rw [ht]; exact hP9, hD9⟩, hS.F ht⟩) hS.2.2 dX7_widthOf_34
      · have b3 : iv 0 10 v6_loc5 := iv_leL (Int32.not_lt.mp c1) h6_2 hp2 (by decide) (by decide)
        refine lv_iload hx hb dX7_widthOf_12 (lv_at hl 4 rfl) ?_
        refine lv_aload_n hx hb dX7_widthOf_14 rfl (lv_at hl 0 rfl) ?_
        refine lv_iload_n hx hb dX7_widthOf_15 rfl (lv_at hl 1 rfl) ?_
        refine lv_iload hx hb dX7_widthOf_16 (lv_at hl 5 rfl) ?_
        obtain ⟨hPc, hDc, hFc, hJn⟩ := cl_a (wc := [(si, .inr (7, oX7 on oc si_edgesFrom si_diamondFirst si_diamondLast x_si)), (oc, .inr (0, oX0 c_seen c_sent c_turn c_counter x_c)), (c_seen, .inl (kJ, 96, .inr (.inl f_c_seen)))]) (wr := []) hP hD hS hA [0, 1, 2] [] rfl rfl (by decide +kernel)
        refine va_calli (va_runV (As := [.int p0, .int v6_loc5]) (rest := [.int v6_loc4]) ⟨hx, hb, hml, hown, hts⟩ (s7_widthAt l dC dI kB kI kJ kZ kC kS H.size si on oc si_edgesFrom si_diamondFirst si_diamondLast x_si c_seen c_sent c_turn c_counter x_c f_c_seen p0 v6_loc5 (hf_c_seen) (hp0)) (cwV 2 hts gX7_widthOf_X7_widthAt rfl rfl rfl (by decide +kernel) ⟨Nat.le_of_ble_eq_true rfl, Nat.le_of_ble_eq_true rfl⟩) ⟨fun a U g mk q => by obtain ⟨q0, q1, qP, qE, qD⟩ := q; exact ⟨q0, q1, qP, kE_call qE, qD⟩, va_recv hK hP (ci := 7) (q0 := 0) rfl rfl, fun U hU hW => ⟨rfl, by rw [hU], by rw [hU]; exact hPc, kE_warm hW hE, hDc.weaken (fun _ _ _ _ => trivial)⟩⟩ rfl rfl hl.1 rfl (lv_room (Nat.le_of_ble_eq_true rfl)) dX7_widthOf_18 ⟨Nat.le_of_ble_eq_true rfl, Nat.le_of_ble_eq_true rfl⟩) hS (fun q _ h => hFc q h) hFc (fun r4 u t H locs ht hvm w5 hB hz1 hk1 hS => ?_)
        obtain ⟨hP1, hD1⟩ := hB
        try dsimp only at w5
        obtain ⟨hPa, hDa⟩ := hJn (w1 := [(si, .inr (7, oX7 on oc si_edgesFrom si_diamondFirst si_diamondLast x_si)), (oc, .inr (0, oX0 c_seen c_sent c_turn c_counter x_c)), (c_seen, .inl (kJ, 96, .inr (.inl f_c_seen)))]) hk1 ht hP1 hD1
        clear hP hD hPc hDc hFc hJn hP1 hD1 hk1
        have hP : va_P (dC, dI) vwCl [(si, .inr (7, oX7 on oc si_edgesFrom si_diamondFirst si_diamondLast x_si)), (oc, .inr (0, oX0 c_seen c_sent c_turn c_counter x_c)), (c_seen, .inl (kJ, 96, .inr (.inl f_c_seen)))] H := hPa
        have hD : va_D A [(si, .inr (7, oX7 on oc si_edgesFrom si_diamondFirst si_diamondLast x_si)), (oc, .inr (0, oX0 c_seen c_sent c_turn c_counter x_c)), (c_seen, .inl (kJ, 96, .inr (.inl f_c_seen)))] := hDa
        clear hPa hDa
        refine W.widen (k := 0) (n := 0) (Nat.le_of_ble_eq_true rfl) (Nat.le_of_ble_eq_true rfl) ?_
        refine va_mmax hx hb (by rw [hml]; exact hl.1.symm) hown hw_0 hw_1 hw_2 hw_3 (Nat.le_of_ble_eq_true rfl) (Nat.le_of_ble_eq_true rfl) (Nat.le_of_ble_eq_true rfl) (Nat.le_of_ble_eq_true rfl) dX7_widthOf_21 ?_
        refine iv_top (a := 0) (b := 2147483647) (iv_max h6_1 w5 (by decide) (by decide)) (fun z6 b7 => ?_)
        refine lv_istore (lv' := [(4, .int z6), (0, .ref si), (1, .int p0), (2, .int p1), (3, .int p2), (5, .int v6_loc5)]) hx hb dX7_widthOf_24 hl (Nat.le_of_ble_eq_true rfl) rfl (fun ls hl => ?_)
        refine lv_iinc (v := v6_loc5 + Int32.ofInt 1) (lv' := [(5, .int (v6_loc5 + Int32.ofInt 1)), (4, .int z6), (0, .ref si), (1, .int p0), (2, .int p1), (3, .int p2)]) hx hb dX7_widthOf_26 hl (k := 5) rfl (rfl) (Nat.le_of_ble_eq_true rfl) rfl (fun ls hl => ?_)
        have b8 : iv 1 11 (v6_loc5 + Int32.ofInt 1) := iv_add b3 ivo_1 (by decide) (by decide) (by decide) (by decide)
        refine lv_goto (tgt := 6) hx hb dX7_widthOf_29 rfl ?_
        exact ih6 z6 (v6_loc5 + Int32.ofInt 1) _ _ _ (ms_up (c := 1) (d := 0) b3 hm6 (by decide) (iv_inc 1 b3 (by decide) (by decide) (by decide) (by decide)) (by decide) rfl) (b7) ((iv_w b8 (by decide) (by decide))) (hP) (hD) hS (lv_sub hl [2, 3, 4, 5, 1, 0] rfl)
  refine lv_iconst (v := 0) hx hb dX7_widthOf_0 ic_0 ?_
  refine lv_istore (lv' := [(4, .int 0), (0, .ref si), (1, .int p0), (2, .int p1), (3, .int p2)]) hx hb dX7_widthOf_1 hl (Nat.le_of_ble_eq_true rfl) rfl (fun ls hl => ?_)
  refine lv_iload_n hx hb dX7_widthOf_3 rfl (lv_at hl 3 rfl) ?_
  refine lv_istore (lv' := [(5, .int p1), (4, .int 0), (0, .ref si), (1, .int p0), (2, .int p1), (3, .int p2)]) hx hb dX7_widthOf_4 hl (Nat.le_of_ble_eq_true rfl) rfl (fun ls hl => ?_)
  exact hJ6 _ 0 p1 _ _ _ (Nat.lt_succ_self _) ((iv_w ivk_0 (by decide) (by decide))) ((iv_w hp1 (by decide) (by decide))) (hP) (hD) hS (lv_sub hl [2, 3, 4, 5, 1, 0] rfl)
def rm_s7_skewAt : Room := { frames := 2, cells := 0, slots := 0, locals := 50 }
set_option maxHeartbeats 4000000 in
set_option maxRecDepth 100000 in
theorem s7_skewAt (l : Launch) (dC : Nat → ClassId) (dI : Nat → Nat → Nat) (kB kI kJ kZ kC kS : ClassId) (sz : Nat) (si : Nat) (on : Nat) (oc : Nat) (si_edgesFrom : Nat) (si_diamondFirst : Nat) (si_diamondLast : Nat) (x_si : Nat → Int32) (f_si_edgesFrom : Nat → Int32) (c_seen : Nat) (c_sent : Nat) (c_turn : Nat) (c_counter : Nat) (x_c : Nat → Int32) (f_c_seen : Nat → Int64) (p0 : Int32) (p1 : Int32) (hf_c_seen : sI f_c_seen) (hp0 : iv 0 2 p0) (hp1 : iv 0 10 p1) : Met l yX7_skewAt wsX7_skewAt rm_s7_skewAt (va_Pc [.ref si, .int p0, .int p1] (fun U => U.heap.size = sz ∧ va_P (dC, dI) vwCl [(si, .inr (7, oX7 on oc si_edgesFrom si_diamondFirst si_diamondLast x_si)), (si_edgesFrom, .inl (kI, 21, .inl f_si_edgesFrom)), (oc, .inr (0, oX0 c_seen c_sent c_turn c_counter x_c)), (c_seen, .inl (kJ, 96, .inr (.inl f_c_seen)))] U.heap ∧ kE dC dI kB kI kJ kZ kC kS U ∧ va_D (fun _ => True) [(si, .inr (7, oX7 on oc si_edgesFrom si_diamondFirst si_diamondLast x_si)), (si_edgesFrom, .inl (kI, 21, .inl f_si_edgesFrom)), (oc, .inr (0, oX0 c_seen c_sent c_turn c_counter x_c)), (c_seen, .inl (kJ, 96, .inr (.inl f_c_seen)))])) (va_Qi (fun (r : Int32) (_ : Unit) => iv 0 2147483647 r) (fun _ t => ∃ (f_si_edgesFrom' : Nat → Int32), va_P (dC, dI) vwCl [(si, .inr (7, oX7 on oc si_edgesFrom si_diamondFirst si_diamondLast x_si)), (si_edgesFrom, .inl (kI, 21, .inl f_si_edgesFrom')), (oc, .inr (0, oX0 c_seen c_sent c_turn c_counter x_c)), (c_seen, .inl (kJ, 96, .inr (.inl f_c_seen)))] t.heap ∧ va_D (va_A [(si, .inr (7, oX7 on oc si_edgesFrom si_diamondFirst si_diamondLast x_si)), (si_edgesFrom, .inl (kI, 21, .inl f_si_edgesFrom)), (oc, .inr (0, oX0 c_seen c_sent c_turn c_counter x_c)), (c_seen, .inl (kJ, 96, .inr (.inl f_c_seen)))] sz) [(si, .inr (7, oX7 on oc si_edgesFrom si_diamondFirst si_diamondLast x_si)), (si_edgesFrom, .inl (kI, 21, .inl f_si_edgesFrom')), (oc, .inr (0, oX0 c_seen c_sent c_turn c_counter x_c)), (c_seen, .inl (kJ, 96, .inr (.inl f_c_seen)))]) (va_A [(si, .inr (7, oX7 on oc si_edgesFrom si_diamondFirst si_diamondLast x_si)), (si_edgesFrom, .inl (kI, 21, .inl f_si_edgesFrom)), (oc, .inr (0, oX0 c_seen c_sent c_turn c_counter x_c)), (c_seen, .inl (kJ, 96, .inr (.inl f_c_seen)))] sz)) 0 0 (va_A [(si, .inr (7, oX7 on oc si_edgesFrom si_diamondFirst si_diamondLast x_si)), (si_edgesFrom, .inl (kI, 21, .inl f_si_edgesFrom)), (oc, .inr (0, oX0 c_seen c_sent c_turn c_counter x_c)), (c_seen, .inl (kJ, 96, .inr (.inl f_c_seen)))] sz) := by
  refine Met.ofW (cc := cX7_skewAt) (maxL := 8) (ret := (some .int)) (by decide) rfl ?_
  intro p e s m args0 below meth c s₁ B hml hv
  obtain ⟨hargs, hsz, hP, hE, hD0⟩ := hv
  have hx := B.exec
  have hb := B.bytes
  have hr := B.returns
  have hts := atoms_spec (ws := wsX7_skewAt) B.pre
  have hown : s.vm.findClass RX7 = some m.cls := findClass_of_methodNamed B.named
  have hlocks := B.notSynchronized
  have hK := hE.1
  have hin7 : ∀ w ∈ wsX70, w ∈ wsX7_skewAt := fun _ h9 => List.mem_cons_of_mem _ (List.mem_append_left _ (List.mem_append_right _ h9))
  have hin0 : ∀ w ∈ wsX00, w ∈ wsX7_skewAt := fun _ h9 => List.mem_cons_of_mem _ (List.mem_append_right _ h9)
  have hw_0 := hts (.methodLink RX7 61 Lib.Math.max.name) (List.mem_of_getElem? (i := 3) rfl)
  have hw_1 := hts (.static Lib.Math.max.name) (List.mem_of_getElem? (i := 4) rfl)
  have hw_2 := hts (.initialized "java/lang/Math") (List.mem_of_getElem? (i := 5) rfl)
  have hw_3 := hts (.code Lib.Math.max.name Lib.Math.max.code 2 (some .int)) (List.mem_of_getElem? (i := 6) rfl)
  have hw_4 := hts (.fieldLink RX7 9 "PathProber$Sight" "edgesFrom" "[I") (List.mem_of_getElem? (i := 2) rfl)
  have hw_5 := hts (.methodLink RX7 69 Lib.Math.min.name) (List.mem_of_getElem? (i := 7) rfl)
  have hw_6 := hts (.static Lib.Math.min.name) (List.mem_of_getElem? (i := 8) rfl)
  have hw_7 := hts (.code Lib.Math.min.name Lib.Math.min.code 2 (some .int)) (List.mem_of_getElem? (i := 9) rfl)
  have hw_8 := hts (.fieldLink RX7 25 "PathProber$Sight" "now" "LPathProber$Condition;") (List.mem_of_getElem? (i := 1) rfl)
  subst hsz
  have hD := hD0.self (sz := s.heap.size)
  generalize hAe : va_A [(si, .inr (7, oX7 on oc si_edgesFrom si_diamondFirst si_diamondLast x_si)), (si_edgesFrom, .inl (kI, 21, .inl f_si_edgesFrom)), (oc, .inr (0, oX0 c_seen c_sent c_turn c_counter x_c)), (c_seen, .inl (kJ, 96, .inr (.inl f_c_seen)))] s.heap.size = A at hD ⊢
  have hA : ∀ q : Nat, s.heap.size ≤ q → A q := fun q h => by rw [← hAe]; exact Or.inr h
  have hS : va_S A s.heap s.heap [] := va_S.rf
  have hP : va_P (dC, dI) vwCl [(si, .inr (7, oX7 on oc si_edgesFrom si_diamondFirst si_diamondLast x_si)), (si_edgesFrom, .inl (kI, 21, .inl f_si_edgesFrom)), (oc, .inr (0, oX0 c_seen c_sent c_turn c_counter x_c)), (c_seen, .inl (kJ, 96, .inr (.inl f_c_seen)))] s.heap := hP
  have hl := lv_entry ([.ref si, .int p0, .int p1]) (n := 8) (Nat.le_of_ble_eq_true rfl)
  have hla : entryFrame m args0 8 = entryFrame m ([.ref si, .int p0, .int p1] : List Value).toArray 8 := by rw [hargs]
  rw [hla, lg_entry_eq]
  generalize (lg_sl ([.ref si, .int p0, .int p1]) ++ List.replicate (8 - (lg_sl ([.ref si, .int p0, .int p1])).length) Slot.unset).toArray = ls at hl ⊢
  have hl : lv_has ls 8 [(0, .ref si), (1, .int p0), (2, .int p1)] := hl
  have hJ26 : ∀ (n : Nat) (g26_1 : Nat → Int32) (v26_loc3 : Int32) (v26_loc4 : Int32) (v26_loc5 : Int32) (v26_loc6 : Int32) (H : Heap) (locs : List Loc) (ls : Array Slot), (21 - v26_loc6.toInt).toNat < n → iv 0 2147483647 v26_loc4 → iv 0 21 v26_loc5 → iv 0 21 v26_loc6 → va_P (dC, dI) vwCl [(si, .inr (7, oX7 on oc si_edgesFrom si_diamondFirst si_diamondLast x_si)), (si_edgesFrom, .inl (kI, 21, .inl g26_1)), (oc, .inr (0, oX0 c_seen c_sent c_turn c_counter x_c)), (c_seen, .inl (kJ, 96, .inr (.inl f_c_seen)))] H → va_D A [(si, .inr (7, oX7 on oc si_edgesFrom si_diamondFirst si_diamondLast x_si)), (si_edgesFrom, .inl (kI, 21, .inl g26_1)), (oc, .inr (0, oX0 c_seen c_sent c_turn c_counter x_c)), (c_seen, .inl (kJ, 96, .inr (.inl f_c_seen)))] → va_S A s.heap H locs → lv_has ls 8 [(0, .ref si), (1, .int p0), (2, .int p1), (3, .int v26_loc3), (4, .int v26_loc4), (5, .int v26_loc5), (6, .int v26_loc6)] → W p l e (headSpec wsX7_skewAt rm_s7_skewAt).room s m args0 below meth c H locs (0) (0) (MQ below (va_Qi (fun (r : Int32) (_ : Unit) => iv 0 2147483647 r) (fun _ t => ∃ (f_si_edgesFrom' : Nat → Int32), va_P (dC, dI) vwCl [(si, .inr (7, oX7 on oc si_edgesFrom si_diamondFirst si_diamondLast x_si)), (si_edgesFrom, .inl (kI, 21, .inl f_si_edgesFrom')), (oc, .inr (0, oX0 c_seen c_sent c_turn c_counter x_c)), (c_seen, .inl (kJ, 96, .inr (.inl f_c_seen)))] t.heap ∧ va_D A [(si, .inr (7, oX7 on oc si_edgesFrom si_diamondFirst si_diamondLast x_si)), (si_edgesFrom, .inl (kI, 21, .inl f_si_edgesFrom')), (oc, .inr (0, oX0 c_seen c_sent c_turn c_counter x_c)), (c_seen, .inl (kJ, 96, .inr (.inl f_c_seen)))]) A) args0 s 0 0 A) (F0 m 26 ls []) := by
    intro n
    induction n with
    | zero => intro g26_1 v26_loc3 v26_loc4 v26_loc5 v26_loc6 H locs ls hm26; exact absurd hm26 (Nat.not_lt_zero _)
    | succ n ih26 =>
      intro g26_1 v26_loc3 v26_loc4 v26_loc5 v26_loc6 H locs ls hm26 h26_1 h26_2 h26_3 hP hD hS hl
      have hJ73 : ∀ (v73_loc4 : Int32) (v73_loc5 : Int32) (H : Heap) (locs : List Loc) (ls : Array Slot), iv 0 2147483647 v73_loc4 → iv 0 21 v73_loc5 → iv 0 20 v26_loc6 → va_P (dC, dI) vwCl [(si, .inr (7, oX7 on oc si_edgesFrom si_diamondFirst si_diamondLast x_si)), (si_edgesFrom, .inl (kI, 21, .inl g26_1)), (oc, .inr (0, oX0 c_seen c_sent c_turn c_counter x_c)), (c_seen, .inl (kJ, 96, .inr (.inl f_c_seen)))] H → va_D A [(si, .inr (7, oX7 on oc si_edgesFrom si_diamondFirst si_diamondLast x_si)), (si_edgesFrom, .inl (kI, 21, .inl g26_1)), (oc, .inr (0, oX0 c_seen c_sent c_turn c_counter x_c)), (c_seen, .inl (kJ, 96, .inr (.inl f_c_seen)))] → va_S A s.heap H locs → lv_has ls 8 [(0, .ref si), (1, .int p0), (2, .int p1), (3, .int v26_loc3), (4, .int v73_loc4), (5, .int v73_loc5), (6, .int v26_loc6)] → W p l e (headSpec wsX7_skewAt rm_s7_skewAt).room s m args0 below meth c H locs (0) (0) (MQ below (va_Qi (fun (r : Int32) (_ : Unit) => iv 0 2147483647 r) (fun _ t => ∃ (f_si_edgesFrom' : Nat → Int32), va_P (dC, dI) vwCl [(si, .inr (7, oX7 on oc si_edgesFrom si_diamondFirst si_diamondLast x_si)), (si_edgesFrom, .inl (kI, 21, .inl f_si_edgesFrom')), (oc, .inr (0, oX0 c_seen c_sent c_turn c_counter x_c)), (c_seen, .inl (kJ, 96, .inr (.inl f_c_seen)))] t.heap ∧ va_D A [(si, .inr (7, oX7 on oc si_edgesFrom si_diamondFirst si_diamondLast x_si)), (si_edgesFrom, .inl (kI, 21, .inl f_si_edgesFrom')), (oc, .inr (0, oX0 c_seen c_sent c_turn c_counter x_c)), (c_seen, .inl (kJ, 96, .inr (.inl f_c_seen)))]) A) args0 s 0 0 A) (F0 m 73 ls []) := by
        intro v73_loc4 v73_loc5 H locs ls h73_1 h73_2 h73_3 hP hD hS hl
        refine lv_iinc (v := v26_loc6 + Int32.ofInt 1) (lv' := [(6, .int (v26_loc6 + Int32.ofInt 1)), (0, .ref si), (1, .int p0), (2, .int p1), (3, .int v26_loc3), (4, .int v73_loc4), (5, .int v73_loc5)]) hx hb dX7_skewAt_73 hl (k := 6) rfl (rfl) (Nat.le_of_ble_eq_true rfl) rfl (fun ls hl => ?_)
        have b1 : iv 1 21 (v26_loc6 + Int32.ofInt 1) := iv_add h73_3 ivo_1 (by decide) (by decide) (by decide) (by decide)
        refine lv_goto (tgt := 26) hx hb dX7_skewAt_76 rfl ?_
        exact ih26 g26_1 v26_loc3 v73_loc4 v73_loc5 (v26_loc6 + Int32.ofInt 1) _ _ _ (ms_up (c := 1) (d := 0) h73_3 hm26 (by decide) (iv_inc 1 h73_3 (by decide) (by decide) (by decide) (by decide)) (by decide) rfl) (h73_1) (h73_2) ((iv_w b1 (by decide) (by decide))) (hP) (hD) hS (lv_sub hl [1, 2, 3, 4, 5, 6, 0] rfl)
      refine lv_iload hx hb dX7_skewAt_26 (lv_at hl 6 rfl) ?_
      refine lv_bipush (v := 21) hx hb dX7_skewAt_28 bp_21 ?_
      refine lv_icmp_ge (tgt := 79) hx hb dX7_skewAt_30 rfl (fun c2 => ?_) (fun c2 => ?_)
      · have b3 : iv 21 21 v26_loc6 := iv_leR c2 ivk_21 h26_3 (by decide) (by decide)
        refine lv_iload hx hb dX7_skewAt_79 (lv_at hl 4 rfl) ?_
        refine lv_iload hx hb dX7_skewAt_81 (lv_at hl 5 rfl) ?_
        refine lv_isub hx hb dX7_skewAt_83 ?_
        refine iv_top (a := (-21)) (b := 2147483647) (iv_sub h26_1 h26_2 (by decide) (by decide) (by decide) (by decide)) (fun z4 b5 => ?_)
        refine lv_iconst (v := 0) hx hb dX7_skewAt_84 ic_0 ?_
        refine va_mmax hx hb (by rw [hml]; exact hl.1.symm) hown hw_0 hw_1 hw_2 hw_3 (Nat.le_of_ble_eq_true rfl) (Nat.le_of_ble_eq_true rfl) (Nat.le_of_ble_eq_true rfl) (Nat.le_of_ble_eq_true rfl) dX7_skewAt_85 ?_
        refine iv_top (a := 0) (b := 2147483647) (iv_max b5 ivk_0 (by decide) (by decide)) (fun z6 b7 => ?_)
        have hP9 := hP
        have hD9 := hD
        exact W.iret (v := z6) hx hb hr (fun t ht hW => ⟨⟨z6, (), rfl, b7, g26_1, by rw [ht]; exact hP9, hD9⟩, hS.F ht⟩) hS.2.2 dX7_skewAt_88
      · have b8 : iv 0 20 v26_loc6 := iv_ltL (Int32.not_le.mp c2) h26_3 ivk_21 (by decide) (by decide)
        refine lv_iload_n hx hb dX7_skewAt_33 rfl (lv_at hl 3 rfl) ?_
        refine lv_iload hx hb dX7_skewAt_34 (lv_at hl 6 rfl) ?_
        refine lv_ishr hx hb dX7_skewAt_36 ?_
        refine lv_topi (fun z9 _ => ?_)
        refine lv_iconst (v := 1) hx hb dX7_skewAt_37 ic_1 ?_
        refine lv_iand hx hb dX7_skewAt_38 ?_
        refine iv_top (a := 0) (b := 1) (iv_and (m := 1) (by decide) (by decide) (by decide)) (fun z10 b11 => ?_)
        refine lv_iconst (v := 1) hx hb dX7_skewAt_39 ic_1 ?_
        refine lv_icmp_ne (tgt := 73) hx hb dX7_skewAt_40 rfl (fun c12 => ?_) (fun c12 => ?_)
        · have b13 : iv 0 0 z10 := iv_neHi c12 b11 ivk_1 (by decide) (by decide)
          exact hJ73 v26_loc4 v26_loc5 _ _ _ (h26_1) (h26_2) (b8) (hP) (hD) hS (lv_sub hl [0, 1, 2, 3, 4, 5, 6] rfl)
        · have b14 : iv 1 1 z10 := iv_eqL c12 ivk_1
          refine lv_aload_n hx hb dX7_skewAt_43 rfl (lv_at hl 0 rfl) ?_
          refine va_get (D := (dC, dI)) (ci := 7) (v := .ref si_edgesFrom) (C := RX7) (T := TX7) (N := 5) hx hb hts hin7 hown hK hP 0 rfl rfl 2 (Nat.le_of_ble_eq_true rfl) hw_4 (fun _ h9 => h9) rfl dX7_skewAt_44 ?_
          refine lv_iload hx hb dX7_skewAt_47 (lv_at hl 6 rfl) ?_
          refine va_iald hx hb hK hP 1 1 rfl rfl (iv_in b8 (by decide) (by decide)) dX7_skewAt_49 ?_
          refine lv_topi (fun z15 _ => ?_)
          obtain ⟨hPc, hDc, hFc, hJn⟩ := cl_a (wc := []) (wr := [(si, .inr (7, oX7 on oc si_edgesFrom si_diamondFirst si_diamondLast x_si)), (si_edgesFrom, .inl (kI, 21, .inl g26_1)), (oc, .inr (0, oX0 c_seen c_sent c_turn c_counter x_c)), (c_seen, .inl (kJ, 96, .inr (.inl f_c_seen)))]) hP hD hS hA [] [0, 1, 2, 3] rfl rfl (by decide +kernel)
          refine va_calli (va_runS (As := [.int z15]) (rest := []) ⟨hx, hb, hml, hown, hts⟩ (sJ_bitCount l dC dI kB kI kJ kZ kC kS H.size z15) (va_cwS 1 hts gX7_skewAt_J6_bitCount_0f7a4 rfl rfl rfl (by decide +kernel) ⟨Nat.le_of_ble_eq_true rfl, Nat.le_of_ble_eq_true rfl⟩) ⟨fun a U g mk q => by obtain ⟨q0, q1, qP, qE, qD⟩ := q; exact ⟨q0, q1, qP, kE_call qE, qD⟩, fun U hU hW => ⟨rfl, by rw [hU], by rw [hU]; exact hPc, kE_warm hW hE, hDc.weaken (fun _ _ _ _ => trivial)⟩⟩ rfl rfl hl.1 rfl (lv_room (Nat.le_of_ble_eq_true rfl)) dX7_skewAt_50 ⟨Nat.le_of_ble_eq_true rfl, Nat.le_of_ble_eq_true rfl⟩) hS (fun q _ h => hFc q h) hFc (fun r16 u t H locs ht hvm w17 hB hz1 hk1 hS => ?_)
          obtain ⟨hP1, hD1⟩ := hB
          try dsimp only at w17
          obtain ⟨hPa, hDa⟩ := hJn (w1 := []) hk1 ht hP1 hD1
          clear hP hD hPc hDc hFc hJn hP1 hD1 hk1
          have hP : va_P (dC, dI) vwCl [(si, .inr (7, oX7 on oc si_edgesFrom si_diamondFirst si_diamondLast x_si)), (si_edgesFrom, .inl (kI, 21, .inl g26_1)), (oc, .inr (0, oX0 c_seen c_sent c_turn c_counter x_c)), (c_seen, .inl (kJ, 96, .inr (.inl f_c_seen)))] H := hPa
          have hD : va_D A [(si, .inr (7, oX7 on oc si_edgesFrom si_diamondFirst si_diamondLast x_si)), (si_edgesFrom, .inl (kI, 21, .inl g26_1)), (oc, .inr (0, oX0 c_seen c_sent c_turn c_counter x_c)), (c_seen, .inl (kJ, 96, .inr (.inl f_c_seen)))] := hDa
          clear hPa hDa
          refine W.widen (k := 0) (n := 0) (Nat.le_of_ble_eq_true rfl) (Nat.le_of_ble_eq_true rfl) ?_
          refine lv_istore (lv' := [(7, .int r16), (0, .ref si), (1, .int p0), (2, .int p1), (3, .int v26_loc3), (4, .int v26_loc4), (5, .int v26_loc5), (6, .int v26_loc6)]) hx hb dX7_skewAt_53 hl (Nat.le_of_ble_eq_true rfl) rfl (fun ls hl => ?_)
          refine lv_iload hx hb dX7_skewAt_55 (lv_at hl 5 rfl) ?_
          refine lv_iload hx hb dX7_skewAt_57 (lv_at hl 0 rfl) ?_
          refine va_mmax hx hb (by rw [hml]; exact hl.1.symm) hown hw_0 hw_1 hw_2 hw_3 (Nat.le_of_ble_eq_true rfl) (Nat.le_of_ble_eq_true rfl) (Nat.le_of_ble_eq_true rfl) (Nat.le_of_ble_eq_true rfl) dX7_skewAt_59 ?_
          refine iv_top (a := 0) (b := 2147483647) (iv_max h26_1 w17 (by decide) (by decide)) (fun z18 b19 => ?_)
          refine lv_istore (lv' := [(4, .int z18), (7, .int r16), (0, .ref si), (1, .int p0), (2, .int p1), (3, .int v26_loc3), (5, .int v26_loc5), (6, .int v26_loc6)]) hx hb dX7_skewAt_62 hl (Nat.le_of_ble_eq_true rfl) rfl (fun ls hl => ?_)
          refine lv_iload hx hb dX7_skewAt_64 (lv_at hl 6 rfl) ?_
          refine lv_iload hx hb dX7_skewAt_66 (lv_at hl 1 rfl) ?_
          refine va_mmin hx hb (by rw [hml]; exact hl.1.symm) hown hw_5 hw_6 hw_2 hw_7 (Nat.le_of_ble_eq_true rfl) (Nat.le_of_ble_eq_true rfl) (Nat.le_of_ble_eq_true rfl) (Nat.le_of_ble_eq_true rfl) dX7_skewAt_68 ?_
          refine iv_top (a := 0) (b := 21) (iv_min h26_2 w17 (by decide) (by decide)) (fun z20 b21 => ?_)
          refine lv_istore (lv' := [(5, .int z20), (4, .int z18), (7, .int r16), (0, .ref si), (1, .int p0), (2, .int p1), (3, .int v26_loc3), (6, .int v26_loc6)]) hx hb dX7_skewAt_71 hl (Nat.le_of_ble_eq_true rfl) rfl (fun ls hl => ?_)
          exact hJ73 z18 z20 _ _ _ (b19) (b21) (b8) (hP) (hD) hS (lv_sub hl [3, 4, 5, 6, 1, 0, 7] rfl)
  refine lv_aload_n hx hb dX7_skewAt_0 rfl (lv_at hl 0 rfl) ?_
  refine va_get (D := (dC, dI)) (ci := 7) (v := .ref oc) (C := RX7) (T := TX7) (N := 5) hx hb hts hin7 hown hK hP 0 rfl rfl 1 (Nat.le_of_ble_eq_true rfl) hw_8 (fun _ h9 => h9) rfl dX7_skewAt_1 ?_
  refine lv_iload_n hx hb dX7_skewAt_4 rfl (lv_at hl 1 rfl) ?_
  refine lv_iload_n hx hb dX7_skewAt_5 rfl (lv_at hl 2 rfl) ?_
  obtain ⟨hPc, hDc, hFc, hJn⟩ := cl_a (wc := [(oc, .inr (0, oX0 c_seen c_sent c_turn c_counter x_c)), (c_seen, .inl (kJ, 96, .inr (.inl f_c_seen)))]) (wr := [(si, .inr (7, oX7 on oc si_edgesFrom si_diamondFirst si_diamondLast x_si)), (si_edgesFrom, .inl (kI, 21, .inl f_si_edgesFrom))]) hP hD hS hA [2, 3] [0, 1] rfl rfl (by decide +kernel)
  refine va_calli (va_runV (As := [.int p0, .int p1]) (rest := []) ⟨hx, hb, hml, hown, hts⟩ (s0_seenAt l dC dI kB kI kJ kZ kC kS s.heap.size oc c_seen c_sent c_turn c_counter x_c f_c_seen p0 p1 (hf_c_seen) (hp0)) (cwV 2 hts gX7_skewAt_X0_seenAt rfl rfl rfl (by decide +kernel) ⟨Nat.le_of_ble_eq_true rfl, Nat.le_of_ble_eq_true rfl⟩) ⟨fun a U g mk q => by obtain ⟨q0, q1, qP, qE, qD⟩ := q; exact ⟨q0, q1, qP, kE_call qE, qD⟩, va_recv hK hP (ci := 0) (q0 := 2) rfl rfl, fun U hU hW => ⟨rfl, by rw [hU], by rw [hU]; exact hPc, kE_warm hW hE, hDc.weaken (fun _ _ _ _ => trivial)⟩⟩ rfl rfl hl.1 rfl (lv_room (Nat.le_of_ble_eq_true rfl)) dX7_skewAt_6 ⟨Nat.le_of_ble_eq_true rfl, Nat.le_of_ble_eq_true rfl⟩) hS (fun q _ h => hFc q h) hFc (fun r22 u t H locs ht hvm w23 hB hz1 hk1 hS => ?_)
  obtain ⟨hP1, hD1⟩ := hB
  try dsimp only at w23
  obtain ⟨hPa, hDa⟩ := hJn (w1 := [(oc, .inr (0, oX0 c_seen c_sent c_turn c_counter x_c)), (c_seen, .inl (kJ, 96, .inr (.inl f_c_seen)))]) hk1 ht hP1 hD1
  clear hP hD hPc hDc hFc hJn hP1 hD1 hk1
  have hP : va_P (dC, dI) vwCl [(si, .inr (7, oX7 on oc si_edgesFrom si_diamondFirst si_diamondLast x_si)), (si_edgesFrom, .inl (kI, 21, .inl f_si_edgesFrom)), (oc, .inr (0, oX0 c_seen c_sent c_turn c_counter x_c)), (c_seen, .inl (kJ, 96, .inr (.inl f_c_seen)))] H := hPa
  have hD : va_D A [(si, .inr (7, oX7 on oc si_edgesFrom si_diamondFirst si_diamondLast x_si)), (si_edgesFrom, .inl (kI, 21, .inl f_si_edgesFrom)), (oc, .inr (0, oX0 c_seen c_sent c_turn c_counter x_c)), (c_seen, .inl (kJ, 96, .inr (.inl f_c_seen)))] := hDa
  clear hPa hDa
  refine W.widen (k := 0) (n := 0) (Nat.le_of_ble_eq_true rfl) (Nat.le_of_ble_eq_true rfl) ?_
  refine lv_istore_n (lv' := [(3, .int r22), (0, .ref si), (1, .int p0), (2, .int p1)]) hx hb dX7_skewAt_9 rfl hl (Nat.le_of_ble_eq_true rfl) rfl (fun ls hl => ?_)
  refine lv_aload_n hx hb dX7_skewAt_10 rfl (lv_at hl 1 rfl) ?_
  refine lv_iload_n hx hb dX7_skewAt_11 rfl (lv_at hl 2 rfl) ?_
  refine lv_iload_n hx hb dX7_skewAt_12 rfl (lv_at hl 3 rfl) ?_
  obtain ⟨hPc, hDc, hFc, hJn⟩ := cl_a (wc := [(si, .inr (7, oX7 on oc si_edgesFrom si_diamondFirst si_diamondLast x_si)), (si_edgesFrom, .inl (kI, 21, .inl f_si_edgesFrom)), (oc, .inr (0, oX0 c_seen c_sent c_turn c_counter x_c)), (c_seen, .inl (kJ, 96, .inr (.inl f_c_seen)))]) (wr := []) hP hD hS hA [0, 1, 2, 3] [] rfl rfl (by decide +kernel)
  refine va_callv (va_runV (As := [.int p0, .int p1]) (rest := []) ⟨hx, hb, hml, hown, hts⟩ (s7_drawEdges l dC dI kB kI kJ kZ kC kS H.size si on oc si_edgesFrom si_diamondFirst si_diamondLast x_si f_si_edgesFrom c_seen c_sent c_turn c_counter x_c f_c_seen p0 p1 (hf_c_seen) (hp0) (hp1)) (cwV 2 hts gX7_skewAt_X7_drawEdges rfl rfl rfl (by decide +kernel) ⟨Nat.le_of_ble_eq_true rfl, Nat.le_of_ble_eq_true rfl⟩) ⟨fun a U g mk q => by obtain ⟨q0, q1, qP, qE, qD⟩ := q; exact ⟨q0, q1, qP, kE_call qE, qD⟩, va_recv hK hP (ci := 7) (q0 := 0) rfl rfl, fun U hU hW => ⟨rfl, by rw [hU], by rw [hU]; exact hPc, kE_warm hW hE, hDc.weaken (fun _ _ _ _ => trivial)⟩⟩ rfl rfl hl.1 rfl (lv_room (Nat.le_of_ble_eq_true rfl)) dX7_skewAt_13 ⟨Nat.le_of_ble_eq_true rfl, Nat.le_of_ble_eq_true rfl⟩) hS (fun q _ h => hFc q h) hFc (fun u t H locs ht hvm w25 hB hz1 hk1 hS => ?_)
  obtain ⟨f26, hP1, hD1⟩ := hB
  try dsimp only at w25
  obtain ⟨hPa, hDa⟩ := hJn (w1 := [(si, .inr (7, oX7 on oc si_edgesFrom si_diamondFirst si_diamondLast x_si)), (si_edgesFrom, .inl (kI, 21, .inl f26)), (oc, .inr (0, oX0 c_seen c_sent c_turn c_counter x_c)), (c_seen, .inl (kJ, 96, .inr (.inl f_c_seen)))]) hk1 ht hP1 hD1
  clear hP hD hPc hDc hFc hJn hP1 hD1 hk1
  have hP : va_P (dC, dI) vwCl [(si, .inr (7, oX7 on oc si_edgesFrom si_diamondFirst si_diamondLast x_si)), (si_edgesFrom, .inl (kI, 21, .inl f26)), (oc, .inr (0, oX0 c_seen c_sent c_turn c_counter x_c)), (c_seen, .inl (kJ, 96, .inr (.inl f_c_seen)))] H := hPa
  have hD : va_D A [(si, .inr (7, oX7 on oc si_edgesFrom si_diamondFirst si_diamondLast x_si)), (si_edgesFrom, .inl (kI, 21, .inl f26)), (oc, .inr (0, oX0 c_seen c_sent c_turn c_counter x_c)), (c_seen, .inl (kJ, 96, .inr (.inl f_c_seen)))] := hDa
  clear hPa hDa
  refine W.widen (k := 0) (n := 0) (Nat.le_of_ble_eq_true rfl) (Nat.le_of_ble_eq_true rfl) ?_
  refine lv_iconst (v := 0) hx hb dX7_skewAt_16 ic_0 ?_
  refine lv_istore (lv' := [(4, .int 0), (3, .int r22), (0, .ref si), (1, .int p0), (2, .int p1)]) hx hb dX7_skewAt_17 hl (Nat.le_of_ble_eq_true rfl) rfl (fun ls hl => ?_)
  refine lv_bipush (v := 21) hx hb dX7_skewAt_19 bp_21 ?_
  refine lv_istore (lv' := [(5, .int 21), (4, .int 0), (3, .int r22), (0, .ref si), (1, .int p0), (2, .int p1)]) hx hb dX7_skewAt_21 hl (Nat.le_of_ble_eq_true rfl) rfl (fun ls hl => ?_)
  refine lv_iconst (v := 0) hx hb dX7_skewAt_23 ic_0 ?_
  refine lv_istore (lv' := [(6, .int 0), (5, .int 21), (4, .int 0), (3, .int r22), (0, .ref si), (1, .int p0), (2, .int p1)]) hx hb dX7_skewAt_24 hl (Nat.le_of_ble_eq_true rfl) rfl (fun ls hl => ?_)
  exact hJ26 _ f26 r22 0 21 0 _ _ _ (Nat.lt_succ_self _) ((iv_w ivk_0 (by decide) (by decide))) ((iv_w ivk_21 (by decide) (by decide))) ((iv_w ivk_0 (by decide) (by decide))) (hP) (hD) hS (lv_sub hl [4, 5, 6, 3, 2, 1, 0] rfl)
def rm_s7_skewOf : Room := { frames := 3, cells := 0, slots := 0, locals := 77 }
set_option maxHeartbeats 4000000 in
set_option maxRecDepth 100000 in
theorem s7_skewOf (l : Launch) (dC : Nat → ClassId) (dI : Nat → Nat → Nat) (kB kI kJ kZ kC kS : ClassId) (sz : Nat) (si : Nat) (on : Nat) (oc : Nat) (si_edgesFrom : Nat) (si_diamondFirst : Nat) (si_diamondLast : Nat) (x_si : Nat → Int32) (f_si_edgesFrom : Nat → Int32) (c_seen : Nat) (c_sent : Nat) (c_turn : Nat) (c_counter : Nat) (x_c : Nat → Int32) (f_c_seen : Nat → Int64) (p0 : Int32) (p1 : Int32) (p2 : Int32) (hf_c_seen : sI f_c_seen) (hp0 : iv 0 2 p0) (hp1 : iv 0 10 p1) (hp2 : iv 0 10 p2) : Met l yX7_skewOf wsX7_skewOf rm_s7_skewOf (va_Pc [.ref si, .int p0, .int p1, .int p2] (fun U => U.heap.size = sz ∧ va_P (dC, dI) vwCl [(si, .inr (7, oX7 on oc si_edgesFrom si_diamondFirst si_diamondLast x_si)), (si_edgesFrom, .inl (kI, 21, .inl f_si_edgesFrom)), (oc, .inr (0, oX0 c_seen c_sent c_turn c_counter x_c)), (c_seen, .inl (kJ, 96, .inr (.inl f_c_seen)))] U.heap ∧ kE dC dI kB kI kJ kZ kC kS U ∧ va_D (fun _ => True) [(si, .inr (7, oX7 on oc si_edgesFrom si_diamondFirst si_diamondLast x_si)), (si_edgesFrom, .inl (kI, 21, .inl f_si_edgesFrom)), (oc, .inr (0, oX0 c_seen c_sent c_turn c_counter x_c)), (c_seen, .inl (kJ, 96, .inr (.inl f_c_seen)))])) (va_Qi (fun (r : Int32) (_ : Unit) => iv 0 2147483647 r) (fun _ t => ∃ (f_si_edgesFrom' : Nat → Int32), va_P (dC, dI) vwCl [(si, .inr (7, oX7 on oc si_edgesFrom si_diamondFirst si_diamondLast x_si)), (si_edgesFrom, .inl (kI, 21, .inl f_si_edgesFrom')), (oc, .inr (0, oX0 c_seen c_sent c_turn c_counter x_c)), (c_seen, .inl (kJ, 96, .inr (.inl f_c_seen)))] t.heap ∧ va_D (va_A [(si, .inr (7, oX7 on oc si_edgesFrom si_diamondFirst si_diamondLast x_si)), (si_edgesFrom, .inl (kI, 21, .inl f_si_edgesFrom)), (oc, .inr (0, oX0 c_seen c_sent c_turn c_counter x_c)), (c_seen, .inl (kJ, 96, .inr (.inl f_c_seen)))] sz) [(si, .inr (7, oX7 on oc si_edgesFrom si_diamondFirst si_diamondLast x_si)), (si_edgesFrom, .inl (kI, 21, .inl f_si_edgesFrom')), (oc, .inr (0, oX0 c_seen c_sent c_turn c_counter x_c)), (c_seen, .inl (kJ, 96, .inr (.inl f_c_seen)))]) (va_A [(si, .inr (7, oX7 on oc si_edgesFrom si_diamondFirst si_diamondLast x_si)), (si_edgesFrom, .inl (kI, 21, .inl f_si_edgesFrom)), (oc, .inr (0, oX0 c_seen c_sent c_turn c_counter x_c)), (c_seen, .inl (kJ, 96, .inr (.inl f_c_seen)))] sz)) 0 0 (va_A [(si, .inr (7, oX7 on oc si_edgesFrom si_diamondFirst si_diamondLast x_si)), (si_edgesFrom, .inl (kI, 21, .inl f_si_edgesFrom)), (oc, .inr (0, oX0 c_seen c_sent c_turn c_counter x_c)), (c_seen, .inl (kJ, 96, .inr (.inl f_c_seen)))] sz) := by
  refine Met.ofW (cc := cX7_skewOf) (maxL := 6) (ret := (some .int)) (by decide) rfl ?_
  intro p e s m args0 below meth c s₁ B hml hv
  obtain ⟨hargs, hsz, hP, hE, hD0⟩ := hv
  have hx := B.exec
  have hb := B.bytes
  have hr := B.returns
  have hts := atoms_spec (ws := wsX7_skewOf) B.pre
  have hown : s.vm.findClass RX7 = some m.cls := findClass_of_methodNamed B.named
  have hlocks := B.notSynchronized
  have hK := hE.1
  have hin7 : ∀ w ∈ wsX70, w ∈ wsX7_skewOf := fun _ h9 => List.mem_cons_of_mem _ (List.mem_append_left _ (List.mem_append_right _ h9))
  have hin0 : ∀ w ∈ wsX00, w ∈ wsX7_skewOf := fun _ h9 => List.mem_cons_of_mem _ (List.mem_append_right _ h9)
  have hw_0 := hts (.methodLink RX7 61 Lib.Math.max.name) (List.mem_of_getElem? (i := 1) rfl)
  have hw_1 := hts (.static Lib.Math.max.name) (List.mem_of_getElem? (i := 2) rfl)
  have hw_2 := hts (.initialized "java/lang/Math") (List.mem_of_getElem? (i := 3) rfl)
  have hw_3 := hts (.code Lib.Math.max.name Lib.Math.max.code 2 (some .int)) (List.mem_of_getElem? (i := 4) rfl)
  subst hsz
  have hD := hD0.self (sz := s.heap.size)
  generalize hAe : va_A [(si, .inr (7, oX7 on oc si_edgesFrom si_diamondFirst si_diamondLast x_si)), (si_edgesFrom, .inl (kI, 21, .inl f_si_edgesFrom)), (oc, .inr (0, oX0 c_seen c_sent c_turn c_counter x_c)), (c_seen, .inl (kJ, 96, .inr (.inl f_c_seen)))] s.heap.size = A at hD ⊢
  have hA : ∀ q : Nat, s.heap.size ≤ q → A q := fun q h => by rw [← hAe]; exact Or.inr h
  have hS : va_S A s.heap s.heap [] := va_S.rf
  have hP : va_P (dC, dI) vwCl [(si, .inr (7, oX7 on oc si_edgesFrom si_diamondFirst si_diamondLast x_si)), (si_edgesFrom, .inl (kI, 21, .inl f_si_edgesFrom)), (oc, .inr (0, oX0 c_seen c_sent c_turn c_counter x_c)), (c_seen, .inl (kJ, 96, .inr (.inl f_c_seen)))] s.heap := hP
  have hl := lv_entry ([.ref si, .int p0, .int p1, .int p2]) (n := 6) (Nat.le_of_ble_eq_true rfl)
  have hla : entryFrame m args0 6 = entryFrame m ([.ref si, .int p0, .int p1, .int p2] : List Value).toArray 6 := by rw [hargs]
  rw [hla, lg_entry_eq]
  generalize (lg_sl ([.ref si, .int p0, .int p1, .int p2]) ++ List.replicate (6 - (lg_sl ([.ref si, .int p0, .int p1, .int p2])).length) Slot.unset).toArray = ls at hl ⊢
  have hl : lv_has ls 6 [(0, .ref si), (1, .int p0), (2, .int p1), (3, .int p2)] := hl
  have hJ6 : ∀ (n : Nat) (g6_1 : Nat → Int32) (v6_loc4 : Int32) (v6_loc5 : Int32) (H : Heap) (locs : List Loc) (ls : Array Slot), (10 - v6_loc5.toInt).toNat < n → iv 0 2147483647 v6_loc4 → iv 0 10 v6_loc5 → va_P (dC, dI) vwCl [(si, .inr (7, oX7 on oc si_edgesFrom si_diamondFirst si_diamondLast x_si)), (si_edgesFrom, .inl (kI, 21, .inl g6_1)), (oc, .inr (0, oX0 c_seen c_sent c_turn c_counter x_c)), (c_seen, .inl (kJ, 96, .inr (.inl f_c_seen)))] H → va_D A [(si, .inr (7, oX7 on oc si_edgesFrom si_diamondFirst si_diamondLast x_si)), (si_edgesFrom, .inl (kI, 21, .inl g6_1)), (oc, .inr (0, oX0 c_seen c_sent c_turn c_counter x_c)), (c_seen, .inl (kJ, 96, .inr (.inl f_c_seen)))] → va_S A s.heap H locs → lv_has ls 6 [(0, .ref si), (1, .int p0), (2, .int p1), (3, .int p2), (4, .int v6_loc4), (5, .int v6_loc5)] → W p l e (headSpec wsX7_skewOf rm_s7_skewOf).room s m args0 below meth c H locs (0) (0) (MQ below (va_Qi (fun (r : Int32) (_ : Unit) => iv 0 2147483647 r) (fun _ t => ∃ (f_si_edgesFrom' : Nat → Int32), va_P (dC, dI) vwCl [(si, .inr (7, oX7 on oc si_edgesFrom si_diamondFirst si_diamondLast x_si)), (si_edgesFrom, .inl (kI, 21, .inl f_si_edgesFrom')), (oc, .inr (0, oX0 c_seen c_sent c_turn c_counter x_c)), (c_seen, .inl (kJ, 96, .inr (.inl f_c_seen)))] t.heap ∧ va_D A [(si, .inr (7, oX7 on oc si_edgesFrom si_diamondFirst si_diamondLast x_si)), (si_edgesFrom, .inl (kI, 21, .inl f_si_edgesFrom')), (oc, .inr (0, oX0 c_seen c_sent c_turn c_counter x_c)), (c_seen, .inl (kJ, 96, .inr (.inl f_c_seen)))]) A) args0 s 0 0 A) (F0 m 6 ls []) := by
    intro n
    induction n with
    | zero => intro g6_1 v6_loc4 v6_loc5 H locs ls hm6; exact absurd hm6 (Nat.not_lt_zero _)
    | succ n ih6 =>
      intro g6_1 v6_loc4 v6_loc5 H locs ls hm6 h6_1 h6_2 hP hD hS hl
      refine lv_iload hx hb dX7_skewOf_6 (lv_at hl 5 rfl) ?_
      refine lv_iload_n hx hb dX7_skewOf_8 rfl (lv_at hl 3 rfl) ?_
      refine lv_icmp_ge (tgt := 32) hx hb dX7_skewOf_9 rfl (fun c1 => ?_) (fun c1 => ?_)
      · refine lv_iload hx hb dX7_skewOf_32 (lv_at hl 4 rfl) ?_
        have hP9 := hP
        have hD9 := hD
        exact W.iret (v := v6_loc4) hx hb hr (fun t ht hW => ⟨⟨v6_loc4, (), rfl, h6_1, g6_1, by rw [ht]; exact hP9, hD9⟩, hS.F ht⟩) hS.2.2 dX7_skewOf_34
      · have b2 : iv 0 9 v6_loc5 := iv_ltL (Int32.not_le.mp c1) h6_2 hp2 (by decide) (by decide)
        have b3 : iv 1 10 p2 := iv_ltR (Int32.not_le.mp c1) h6_2 hp2 (by decide) (by decide)
        refine lv_iload hx hb dX7_skewOf_12 (lv_at hl 4 rfl) ?_
        refine lv_aload_n hx hb dX7_skewOf_14 rfl (lv_at hl 0 rfl) ?_
        refine lv_iload_n hx hb dX7_skewOf_15 rfl (lv_at hl 1 rfl) ?_
        refine lv_iload hx hb dX7_skewOf_16 (lv_at hl 5 rfl) ?_
        obtain ⟨hPc, hDc, hFc, hJn⟩ := cl_a (wc := [(si, .inr (7, oX7 on oc si_edgesFrom si_diamondFirst si_diamondLast x_si)), (si_edgesFrom, .inl (kI, 21, .inl g6_1)), (oc, .inr (0, oX0 c_seen c_sent c_turn c_counter x_c)), (c_seen, .inl (kJ, 96, .inr (.inl f_c_seen)))]) (wr := []) hP hD hS hA [0, 1, 2, 3] [] rfl rfl (by decide +kernel)
        refine va_calli (va_runV (As := [.int p0, .int v6_loc5]) (rest := [.int v6_loc4]) ⟨hx, hb, hml, hown, hts⟩ (s7_skewAt l dC dI kB kI kJ kZ kC kS H.size si on oc si_edgesFrom si_diamondFirst si_diamondLast x_si g6_1 c_seen c_sent c_turn c_counter x_c f_c_seen p0 v6_loc5 (hf_c_seen) (hp0) ((iv_w b2 (by decide) (by decide)))) (cwV 2 hts gX7_skewOf_X7_skewAt rfl rfl rfl (by decide +kernel) ⟨Nat.le_of_ble_eq_true rfl, Nat.le_of_ble_eq_true rfl⟩) ⟨fun a U g mk q => by obtain ⟨q0, q1, qP, qE, qD⟩ := q; exact ⟨q0, q1, qP, kE_call qE, qD⟩, va_recv hK hP (ci := 7) (q0 := 0) rfl rfl, fun U hU hW => ⟨rfl, by rw [hU], by rw [hU]; exact hPc, kE_warm hW hE, hDc.weaken (fun _ _ _ _ => trivial)⟩⟩ rfl rfl hl.1 rfl (lv_room (Nat.le_of_ble_eq_true rfl)) dX7_skewOf_18 ⟨Nat.le_of_ble_eq_true rfl, Nat.le_of_ble_eq_true rfl⟩) hS (fun q _ h => hFc q h) hFc (fun r4 u t H locs ht hvm w5 hB hz1 hk1 hS => ?_)
        obtain ⟨f6, hP1, hD1⟩ := hB
        try dsimp only at w5
        obtain ⟨hPa, hDa⟩ := hJn (w1 := [(si, .inr (7, oX7 on oc si_edgesFrom si_diamondFirst si_diamondLast x_si)), (si_edgesFrom, .inl (kI, 21, .inl f6)), (oc, .inr (0, oX0 c_seen c_sent c_turn c_counter x_c)), (c_seen, .inl (kJ, 96, .inr (.inl f_c_seen)))]) hk1 ht hP1 hD1
        clear hP hD hPc hDc hFc hJn hP1 hD1 hk1
        have hP : va_P (dC, dI) vwCl [(si, .inr (7, oX7 on oc si_edgesFrom si_diamondFirst si_diamondLast x_si)), (si_edgesFrom, .inl (kI, 21, .inl f6)), (oc, .inr (0, oX0 c_seen c_sent c_turn c_counter x_c)), (c_seen, .inl (kJ, 96, .inr (.inl f_c_seen)))] H := hPa
        have hD : va_D A [(si, .inr (7, oX7 on oc si_edgesFrom si_diamondFirst si_diamondLast x_si)), (si_edgesFrom, .inl (kI, 21, .inl f6)), (oc, .inr (0, oX0 c_seen c_sent c_turn c_counter x_c)), (c_seen, .inl (kJ, 96, .inr (.inl f_c_seen)))] := hDa
        clear hPa hDa
        refine W.widen (k := 0) (n := 0) (Nat.le_of_ble_eq_true rfl) (Nat.le_of_ble_eq_true rfl) ?_
        refine va_mmax hx hb (by rw [hml]; exact hl.1.symm) hown hw_0 hw_1 hw_2 hw_3 (Nat.le_of_ble_eq_true rfl) (Nat.le_of_ble_eq_true rfl) (Nat.le_of_ble_eq_true rfl) (Nat.le_of_ble_eq_true rfl) dX7_skewOf_21 ?_
        refine iv_top (a := 0) (b := 2147483647) (iv_max h6_1 w5 (by decide) (by decide)) (fun z7 b8 => ?_)
        refine lv_istore (lv' := [(4, .int z7), (0, .ref si), (1, .int p0), (2, .int p1), (3, .int p2), (5, .int v6_loc5)]) hx hb dX7_skewOf_24 hl (Nat.le_of_ble_eq_true rfl) rfl (fun ls hl => ?_)
        refine lv_iinc (v := v6_loc5 + Int32.ofInt 1) (lv' := [(5, .int (v6_loc5 + Int32.ofInt 1)), (4, .int z7), (0, .ref si), (1, .int p0), (2, .int p1), (3, .int p2)]) hx hb dX7_skewOf_26 hl (k := 5) rfl (rfl) (Nat.le_of_ble_eq_true rfl) rfl (fun ls hl => ?_)
        have b9 : iv 1 10 (v6_loc5 + Int32.ofInt 1) := iv_add b2 ivo_1 (by decide) (by decide) (by decide) (by decide)
        refine lv_goto (tgt := 6) hx hb dX7_skewOf_29 rfl ?_
        exact ih6 f6 z7 (v6_loc5 + Int32.ofInt 1) _ _ _ (ms_up (c := 1) (d := 0) b2 hm6 (by decide) (iv_inc 1 b2 (by decide) (by decide) (by decide) (by decide)) (by decide) rfl) (b8) ((iv_w b9 (by decide) (by decide))) (hP) (hD) hS (lv_sub hl [2, 3, 4, 5, 1, 0] rfl)
  refine lv_iconst (v := 0) hx hb dX7_skewOf_0 ic_0 ?_
  refine lv_istore (lv' := [(4, .int 0), (0, .ref si), (1, .int p0), (2, .int p1), (3, .int p2)]) hx hb dX7_skewOf_1 hl (Nat.le_of_ble_eq_true rfl) rfl (fun ls hl => ?_)
  refine lv_iload_n hx hb dX7_skewOf_3 rfl (lv_at hl 3 rfl) ?_
  refine lv_istore (lv' := [(5, .int p1), (4, .int 0), (0, .ref si), (1, .int p0), (2, .int p1), (3, .int p2)]) hx hb dX7_skewOf_4 hl (Nat.le_of_ble_eq_true rfl) rfl (fun ls hl => ?_)
  exact hJ6 _ f_si_edgesFrom 0 p1 _ _ _ (Nat.lt_succ_self _) ((iv_w ivk_0 (by decide) (by decide))) (hp1) (hP) (hD) hS (lv_sub hl [2, 3, 4, 5, 1, 0] rfl)
def rm_s7_loopOf : Room := { frames := 1, cells := 0, slots := 0, locals := 25 }
set_option maxHeartbeats 4000000 in
set_option maxRecDepth 100000 in
theorem s7_loopOf (l : Launch) (dC : Nat → ClassId) (dI : Nat → Nat → Nat) (kB kI kJ kZ kC kS : ClassId) (sz : Nat) (si : Nat) (on : Nat) (oc : Nat) (si_edgesFrom : Nat) (si_diamondFirst : Nat) (si_diamondLast : Nat) (x_si : Nat → Int32) (n_kind : Nat) (n_salt : Nat) (n_pace : Nat) (n_manner : Nat) (n_from : Nat) (n_to : Nat) (n_goal : Nat) (n_reach : Nat) (n_branches : Nat) (n_branch : Nat) (n_tally : Nat) (x_n : Nat → Int32) (f_n_to : Nat → Int32) (f_n_goal : Nat → Int32) (c_seen : Nat) (c_sent : Nat) (c_turn : Nat) (c_counter : Nat) (x_c : Nat → Int32) (f_c_seen : Nat → Int64) (p0 : Int32) (p1 : Int32) (hx_n : fI lX2 hX2 x_n) (hf_n_to : fI (fun _ => 0) (fun _ => 11) f_n_to) (hf_n_goal : fI (fun _ => 0) (fun _ => 11) f_n_goal) (hf_c_seen : sI f_c_seen) (hp0 : iv 0 31 p0) (hp1 : iv 0 2 p1) : Met l yX7_loopOf wsX7_loopOf rm_s7_loopOf (va_Pc [.ref si, .int p0, .int p1] (fun U => U.heap.size = sz ∧ va_P (dC, dI) vwCl [(si, .inr (7, oX7 on oc si_edgesFrom si_diamondFirst si_diamondLast x_si)), (on, .inr (2, oX2 n_kind n_salt n_pace n_manner n_from n_to n_goal n_reach n_branches n_branch n_tally x_n)), (n_to, .inl (kI, 20, .inl f_n_to)), (n_goal, .inl (kI, 3, .inl f_n_goal)), (oc, .inr (0, oX0 c_seen c_sent c_turn c_counter x_c)), (c_seen, .inl (kJ, 96, .inr (.inl f_c_seen)))] U.heap ∧ kE dC dI kB kI kJ kZ kC kS U ∧ va_D (fun _ => True) [(si, .inr (7, oX7 on oc si_edgesFrom si_diamondFirst si_diamondLast x_si)), (on, .inr (2, oX2 n_kind n_salt n_pace n_manner n_from n_to n_goal n_reach n_branches n_branch n_tally x_n)), (n_to, .inl (kI, 20, .inl f_n_to)), (n_goal, .inl (kI, 3, .inl f_n_goal)), (oc, .inr (0, oX0 c_seen c_sent c_turn c_counter x_c)), (c_seen, .inl (kJ, 96, .inr (.inl f_c_seen)))])) (va_Qi (fun (r : Int32) (_ : Unit) => iv (-1) 9 r) (fun _ t => va_P (dC, dI) vwCl [(si, .inr (7, oX7 on oc si_edgesFrom si_diamondFirst si_diamondLast x_si)), (on, .inr (2, oX2 n_kind n_salt n_pace n_manner n_from n_to n_goal n_reach n_branches n_branch n_tally x_n)), (n_to, .inl (kI, 20, .inl f_n_to)), (n_goal, .inl (kI, 3, .inl f_n_goal)), (oc, .inr (0, oX0 c_seen c_sent c_turn c_counter x_c)), (c_seen, .inl (kJ, 96, .inr (.inl f_c_seen)))] t.heap ∧ va_D (va_A [(si, .inr (7, oX7 on oc si_edgesFrom si_diamondFirst si_diamondLast x_si)), (on, .inr (2, oX2 n_kind n_salt n_pace n_manner n_from n_to n_goal n_reach n_branches n_branch n_tally x_n)), (n_to, .inl (kI, 20, .inl f_n_to)), (n_goal, .inl (kI, 3, .inl f_n_goal)), (oc, .inr (0, oX0 c_seen c_sent c_turn c_counter x_c)), (c_seen, .inl (kJ, 96, .inr (.inl f_c_seen)))] sz) [(si, .inr (7, oX7 on oc si_edgesFrom si_diamondFirst si_diamondLast x_si)), (on, .inr (2, oX2 n_kind n_salt n_pace n_manner n_from n_to n_goal n_reach n_branches n_branch n_tally x_n)), (n_to, .inl (kI, 20, .inl f_n_to)), (n_goal, .inl (kI, 3, .inl f_n_goal)), (oc, .inr (0, oX0 c_seen c_sent c_turn c_counter x_c)), (c_seen, .inl (kJ, 96, .inr (.inl f_c_seen)))]) (va_A [(si, .inr (7, oX7 on oc si_edgesFrom si_diamondFirst si_diamondLast x_si)), (on, .inr (2, oX2 n_kind n_salt n_pace n_manner n_from n_to n_goal n_reach n_branches n_branch n_tally x_n)), (n_to, .inl (kI, 20, .inl f_n_to)), (n_goal, .inl (kI, 3, .inl f_n_goal)), (oc, .inr (0, oX0 c_seen c_sent c_turn c_counter x_c)), (c_seen, .inl (kJ, 96, .inr (.inl f_c_seen)))] sz)) 0 0 (va_A [(si, .inr (7, oX7 on oc si_edgesFrom si_diamondFirst si_diamondLast x_si)), (on, .inr (2, oX2 n_kind n_salt n_pace n_manner n_from n_to n_goal n_reach n_branches n_branch n_tally x_n)), (n_to, .inl (kI, 20, .inl f_n_to)), (n_goal, .inl (kI, 3, .inl f_n_goal)), (oc, .inr (0, oX0 c_seen c_sent c_turn c_counter x_c)), (c_seen, .inl (kJ, 96, .inr (.inl f_c_seen)))] sz) := by
  refine Met.ofW (cc := cX7_loopOf) (maxL := 6) (ret := (some .int)) (by decide) rfl ?_
  intro p e s m args0 below meth c s₁ B hml hv
  obtain ⟨hargs, hsz, hP, hE, hD0⟩ := hv
  have hx := B.exec
  have hb := B.bytes
  have hr := B.returns
  have hts := atoms_spec (ws := wsX7_loopOf) B.pre
  have hown : s.vm.findClass RX7 = some m.cls := findClass_of_methodNamed B.named
  have hlocks := B.notSynchronized
  have hK := hE.1
  have hin7 : ∀ w ∈ wsX70, w ∈ wsX7_loopOf := fun _ h9 => List.mem_cons_of_mem _ (List.mem_append_left _ (List.mem_append_left _ (List.mem_append_right _ h9)))
  have hin2 : ∀ w ∈ wsX20, w ∈ wsX7_loopOf := fun _ h9 => List.mem_cons_of_mem _ (List.mem_append_left _ (List.mem_append_right _ h9))
  have hin0 : ∀ w ∈ wsX00, w ∈ wsX7_loopOf := fun _ h9 => List.mem_cons_of_mem _ (List.mem_append_right _ h9)
  have hw_0 := hts (.fieldLink RX7 21 "PathProber$Sight" "net" "LPathProber$Net;") (List.mem_of_getElem? (i := 2) rfl)
  have hw_1 := hts (.fieldLink RX7 75 "PathProber$Net" "goal" "[I") (List.mem_of_getElem? (i := 3) rfl)
  have hw_2 := hts (.fieldLink RX7 25 "PathProber$Sight" "now" "LPathProber$Condition;") (List.mem_of_getElem? (i := 1) rfl)
  subst hsz
  have hD := hD0.self (sz := s.heap.size)
  generalize hAe : va_A [(si, .inr (7, oX7 on oc si_edgesFrom si_diamondFirst si_diamondLast x_si)), (on, .inr (2, oX2 n_kind n_salt n_pace n_manner n_from n_to n_goal n_reach n_branches n_branch n_tally x_n)), (n_to, .inl (kI, 20, .inl f_n_to)), (n_goal, .inl (kI, 3, .inl f_n_goal)), (oc, .inr (0, oX0 c_seen c_sent c_turn c_counter x_c)), (c_seen, .inl (kJ, 96, .inr (.inl f_c_seen)))] s.heap.size = A at hD ⊢
  have hA : ∀ q : Nat, s.heap.size ≤ q → A q := fun q h => by rw [← hAe]; exact Or.inr h
  have hS : va_S A s.heap s.heap [] := va_S.rf
  have hP : va_P (dC, dI) vwCl [(si, .inr (7, oX7 on oc si_edgesFrom si_diamondFirst si_diamondLast x_si)), (on, .inr (2, oX2 n_kind n_salt n_pace n_manner n_from n_to n_goal n_reach n_branches n_branch n_tally x_n)), (n_to, .inl (kI, 20, .inl f_n_to)), (n_goal, .inl (kI, 3, .inl f_n_goal)), (oc, .inr (0, oX0 c_seen c_sent c_turn c_counter x_c)), (c_seen, .inl (kJ, 96, .inr (.inl f_c_seen)))] s.heap := hP
  have hl := lv_entry ([.ref si, .int p0, .int p1]) (n := 6) (Nat.le_of_ble_eq_true rfl)
  have hla : entryFrame m args0 6 = entryFrame m ([.ref si, .int p0, .int p1] : List Value).toArray 6 := by rw [hargs]
  rw [hla, lg_entry_eq]
  generalize (lg_sl ([.ref si, .int p0, .int p1]) ++ List.replicate (6 - (lg_sl ([.ref si, .int p0, .int p1])).length) Slot.unset).toArray = ls at hl ⊢
  have hl : lv_has ls 6 [(0, .ref si), (1, .int p0), (2, .int p1)] := hl
  have hJ2 : ∀ (n : Nat) (v2_loc3 : Int32) (H : Heap) (locs : List Loc) (ls : Array Slot), (10 - v2_loc3.toInt).toNat < n → iv 1 10 v2_loc3 → va_P (dC, dI) vwCl [(si, .inr (7, oX7 on oc si_edgesFrom si_diamondFirst si_diamondLast x_si)), (on, .inr (2, oX2 n_kind n_salt n_pace n_manner n_from n_to n_goal n_reach n_branches n_branch n_tally x_n)), (n_to, .inl (kI, 20, .inl f_n_to)), (n_goal, .inl (kI, 3, .inl f_n_goal)), (oc, .inr (0, oX0 c_seen c_sent c_turn c_counter x_c)), (c_seen, .inl (kJ, 96, .inr (.inl f_c_seen)))] H → va_D A [(si, .inr (7, oX7 on oc si_edgesFrom si_diamondFirst si_diamondLast x_si)), (on, .inr (2, oX2 n_kind n_salt n_pace n_manner n_from n_to n_goal n_reach n_branches n_branch n_tally x_n)), (n_to, .inl (kI, 20, .inl f_n_to)), (n_goal, .inl (kI, 3, .inl f_n_goal)), (oc, .inr (0, oX0 c_seen c_sent c_turn c_counter x_c)), (c_seen, .inl (kJ, 96, .inr (.inl f_c_seen)))] → va_S A s.heap H locs → lv_has ls 6 [(0, .ref si), (1, .int p0), (2, .int p1), (3, .int v2_loc3)] → W p l e (headSpec wsX7_loopOf rm_s7_loopOf).room s m args0 below meth c H locs (0) (0) (MQ below (va_Qi (fun (r : Int32) (_ : Unit) => iv (-1) 9 r) (fun _ t => va_P (dC, dI) vwCl [(si, .inr (7, oX7 on oc si_edgesFrom si_diamondFirst si_diamondLast x_si)), (on, .inr (2, oX2 n_kind n_salt n_pace n_manner n_from n_to n_goal n_reach n_branches n_branch n_tally x_n)), (n_to, .inl (kI, 20, .inl f_n_to)), (n_goal, .inl (kI, 3, .inl f_n_goal)), (oc, .inr (0, oX0 c_seen c_sent c_turn c_counter x_c)), (c_seen, .inl (kJ, 96, .inr (.inl f_c_seen)))] t.heap ∧ va_D A [(si, .inr (7, oX7 on oc si_edgesFrom si_diamondFirst si_diamondLast x_si)), (on, .inr (2, oX2 n_kind n_salt n_pace n_manner n_from n_to n_goal n_reach n_branches n_branch n_tally x_n)), (n_to, .inl (kI, 20, .inl f_n_to)), (n_goal, .inl (kI, 3, .inl f_n_goal)), (oc, .inr (0, oX0 c_seen c_sent c_turn c_counter x_c)), (c_seen, .inl (kJ, 96, .inr (.inl f_c_seen)))]) A) args0 s 0 0 A) (F0 m 2 ls []) := by
    intro n
    induction n with
    | zero => intro v2_loc3 H locs ls hm2; exact absurd hm2 (Nat.not_lt_zero _)
    | succ n ih2 =>
      intro v2_loc3 H locs ls hm2 h2_1 hP hD hS hl
      have hJ78 : ∀ (v78_loc4 : Int32) (v78_loc5 : Int32) (H : Heap) (locs : List Loc) (ls : Array Slot), iv 1 9 v2_loc3 → iv (-1) 20 v78_loc4 → iv 0 1 v78_loc5 → va_P (dC, dI) vwCl [(si, .inr (7, oX7 on oc si_edgesFrom si_diamondFirst si_diamondLast x_si)), (on, .inr (2, oX2 n_kind n_salt n_pace n_manner n_from n_to n_goal n_reach n_branches n_branch n_tally x_n)), (n_to, .inl (kI, 20, .inl f_n_to)), (n_goal, .inl (kI, 3, .inl f_n_goal)), (oc, .inr (0, oX0 c_seen c_sent c_turn c_counter x_c)), (c_seen, .inl (kJ, 96, .inr (.inl f_c_seen)))] H → va_D A [(si, .inr (7, oX7 on oc si_edgesFrom si_diamondFirst si_diamondLast x_si)), (on, .inr (2, oX2 n_kind n_salt n_pace n_manner n_from n_to n_goal n_reach n_branches n_branch n_tally x_n)), (n_to, .inl (kI, 20, .inl f_n_to)), (n_goal, .inl (kI, 3, .inl f_n_goal)), (oc, .inr (0, oX0 c_seen c_sent c_turn c_counter x_c)), (c_seen, .inl (kJ, 96, .inr (.inl f_c_seen)))] → va_S A s.heap H locs → lv_has ls 6 [(0, .ref si), (1, .int p0), (2, .int p1), (3, .int v2_loc3), (4, .int v78_loc4), (5, .int v78_loc5)] → W p l e (headSpec wsX7_loopOf rm_s7_loopOf).room s m args0 below meth c H locs (0) (0) (MQ below (va_Qi (fun (r : Int32) (_ : Unit) => iv (-1) 9 r) (fun _ t => va_P (dC, dI) vwCl [(si, .inr (7, oX7 on oc si_edgesFrom si_diamondFirst si_diamondLast x_si)), (on, .inr (2, oX2 n_kind n_salt n_pace n_manner n_from n_to n_goal n_reach n_branches n_branch n_tally x_n)), (n_to, .inl (kI, 20, .inl f_n_to)), (n_goal, .inl (kI, 3, .inl f_n_goal)), (oc, .inr (0, oX0 c_seen c_sent c_turn c_counter x_c)), (c_seen, .inl (kJ, 96, .inr (.inl f_c_seen)))] t.heap ∧ va_D A [(si, .inr (7, oX7 on oc si_edgesFrom si_diamondFirst si_diamondLast x_si)), (on, .inr (2, oX2 n_kind n_salt n_pace n_manner n_from n_to n_goal n_reach n_branches n_branch n_tally x_n)), (n_to, .inl (kI, 20, .inl f_n_to)), (n_goal, .inl (kI, 3, .inl f_n_goal)), (oc, .inr (0, oX0 c_seen c_sent c_turn c_counter x_c)), (c_seen, .inl (kJ, 96, .inr (.inl f_c_seen)))]) A) args0 s 0 0 A) (F0 m 78 ls []) := by
        intro v78_loc4 v78_loc5 H locs ls h78_1 h78_2 h78_3 hP hD hS hl
        refine lv_iinc (v := v2_loc3 + Int32.ofInt 1) (lv' := [(3, .int (v2_loc3 + Int32.ofInt 1)), (0, .ref si), (1, .int p0), (2, .int p1), (4, .int v78_loc4), (5, .int v78_loc5)]) hx hb dX7_loopOf_78 hl (k := 3) rfl (rfl) (Nat.le_of_ble_eq_true rfl) rfl (fun ls hl => ?_)
        have b1 : iv 2 10 (v2_loc3 + Int32.ofInt 1) := iv_add h78_1 ivo_1 (by decide) (by decide) (by decide) (by decide)
        refine lv_goto (tgt := 2) hx hb dX7_loopOf_81 rfl ?_
        exact ih2 (v2_loc3 + Int32.ofInt 1) _ _ _ (ms_up (c := 1) (d := 0) h78_1 hm2 (by decide) (iv_inc 1 h78_1 (by decide) (by decide) (by decide) (by decide)) (by decide) rfl) ((iv_w b1 (by decide) (by decide))) (hP) (hD) hS (lv_sub hl [1, 2, 3, 0] rfl)
      have hJ48 : ∀ (v48_loc4 : Int32) (v48_stk0 : Int32) (H : Heap) (locs : List Loc) (ls : Array Slot), iv 1 9 v2_loc3 → iv (-1) 20 v48_loc4 → iv 0 1 v48_stk0 → va_P (dC, dI) vwCl [(si, .inr (7, oX7 on oc si_edgesFrom si_diamondFirst si_diamondLast x_si)), (on, .inr (2, oX2 n_kind n_salt n_pace n_manner n_from n_to n_goal n_reach n_branches n_branch n_tally x_n)), (n_to, .inl (kI, 20, .inl f_n_to)), (n_goal, .inl (kI, 3, .inl f_n_goal)), (oc, .inr (0, oX0 c_seen c_sent c_turn c_counter x_c)), (c_seen, .inl (kJ, 96, .inr (.inl f_c_seen)))] H → va_D A [(si, .inr (7, oX7 on oc si_edgesFrom si_diamondFirst si_diamondLast x_si)), (on, .inr (2, oX2 n_kind n_salt n_pace n_manner n_from n_to n_goal n_reach n_branches n_branch n_tally x_n)), (n_to, .inl (kI, 20, .inl f_n_to)), (n_goal, .inl (kI, 3, .inl f_n_goal)), (oc, .inr (0, oX0 c_seen c_sent c_turn c_counter x_c)), (c_seen, .inl (kJ, 96, .inr (.inl f_c_seen)))] → va_S A s.heap H locs → lv_has ls 6 [(0, .ref si), (1, .int p0), (2, .int p1), (3, .int v2_loc3), (4, .int v48_loc4)] → W p l e (headSpec wsX7_loopOf rm_s7_loopOf).room s m args0 below meth c H locs (0) (0) (MQ below (va_Qi (fun (r : Int32) (_ : Unit) => iv (-1) 9 r) (fun _ t => va_P (dC, dI) vwCl [(si, .inr (7, oX7 on oc si_edgesFrom si_diamondFirst si_diamondLast x_si)), (on, .inr (2, oX2 n_kind n_salt n_pace n_manner n_from n_to n_goal n_reach n_branches n_branch n_tally x_n)), (n_to, .inl (kI, 20, .inl f_n_to)), (n_goal, .inl (kI, 3, .inl f_n_goal)), (oc, .inr (0, oX0 c_seen c_sent c_turn c_counter x_c)), (c_seen, .inl (kJ, 96, .inr (.inl f_c_seen)))] t.heap ∧ va_D A [(si, .inr (7, oX7 on oc si_edgesFrom si_diamondFirst si_diamondLast x_si)), (on, .inr (2, oX2 n_kind n_salt n_pace n_manner n_from n_to n_goal n_reach n_branches n_branch n_tally x_n)), (n_to, .inl (kI, 20, .inl f_n_to)), (n_goal, .inl (kI, 3, .inl f_n_goal)), (oc, .inr (0, oX0 c_seen c_sent c_turn c_counter x_c)), (c_seen, .inl (kJ, 96, .inr (.inl f_c_seen)))]) A) args0 s 0 0 A) (F0 m 48 ls [.int v48_stk0]) := by
        intro v48_loc4 v48_stk0 H locs ls h48_1 h48_2 h48_3 hP hD hS hl
        refine lv_istore (lv' := [(5, .int v48_stk0), (0, .ref si), (1, .int p0), (2, .int p1), (3, .int v2_loc3), (4, .int v48_loc4)]) hx hb dX7_loopOf_48 hl (Nat.le_of_ble_eq_true rfl) rfl (fun ls hl => ?_)
        refine lv_iload hx hb dX7_loopOf_50 (lv_at hl 0 rfl) ?_
        refine lv_if_eq (tgt := 78) hx hb dX7_loopOf_52 rfl (fun c2 => ?_) (fun c2 => ?_)
        · have b3 : iv 0 0 v48_stk0 := iv_eqL c2 ivk_0
          exact hJ78 v48_loc4 v48_stk0 _ _ _ (h48_1) (h48_2) ((iv_w b3 (by decide) (by decide))) (hP) (hD) hS (lv_sub hl [1, 2, 3, 4, 5, 0] rfl)
        · have b4 : iv 1 1 v48_stk0 := iv_neLo c2 h48_3 ivk_0 (by decide) (by decide)
          refine lv_aload_n hx hb dX7_loopOf_55 rfl (lv_at hl 1 rfl) ?_
          refine va_get (D := (dC, dI)) (ci := 7) (v := .ref on) (C := RX7) (T := TX7) (N := 5) hx hb hts hin7 hown hK hP 0 rfl rfl 0 (Nat.le_of_ble_eq_true rfl) hw_0 (fun _ h9 => h9) rfl dX7_loopOf_56 ?_
          refine lv_iload hx hb dX7_loopOf_59 (lv_at hl 5 rfl) ?_
          obtain ⟨hPc, hDc, hFc, hJn⟩ := cl_a (wc := [(on, .inr (2, oX2 n_kind n_salt n_pace n_manner n_from n_to n_goal n_reach n_branches n_branch n_tally x_n)), (n_to, .inl (kI, 20, .inl f_n_to))]) (wr := [(si, .inr (7, oX7 on oc si_edgesFrom si_diamondFirst si_diamondLast x_si)), (n_goal, .inl (kI, 3, .inl f_n_goal)), (oc, .inr (0, oX0 c_seen c_sent c_turn c_counter x_c)), (c_seen, .inl (kJ, 96, .inr (.inl f_c_seen)))]) hP hD hS hA [1, 2] [0, 3, 4, 5] rfl rfl (by decide +kernel)
          refine va_calli (va_runV (As := [.int v48_loc4]) (rest := []) ⟨hx, hb, hml, hown, hts⟩ (s2_routerOf l dC dI kB kI kJ kZ kC kS H.size on n_kind n_salt n_pace n_manner n_from n_to n_goal n_reach n_branches n_branch n_tally x_n f_n_to v48_loc4 (hx_n) (hf_n_to)) (cwV 1 hts gX7_loopOf_X2_routerOf rfl rfl rfl (by decide +kernel) ⟨Nat.le_of_ble_eq_true rfl, Nat.le_of_ble_eq_true rfl⟩) ⟨fun a U g mk q => by obtain ⟨q0, q1, qP, qE, qD⟩ := q; exact ⟨q0, q1, qP, kE_call qE, qD⟩, va_recv hK hP (ci := 2) (q0 := 1) rfl rfl, fun U hU hW => ⟨rfl, by rw [hU], by rw [hU]; exact hPc, kE_warm hW hE, hDc.weaken (fun _ _ _ _ => trivial)⟩⟩ rfl rfl hl.1 rfl (lv_room (Nat.le_of_ble_eq_true rfl)) dX7_loopOf_61 ⟨Nat.le_of_ble_eq_true rfl, Nat.le_of_ble_eq_true rfl⟩) hS (fun q _ h => hFc q h) hFc (fun r5 u t H locs ht hvm w6 hB hz1 hk1 hS => ?_)
          obtain ⟨hP1, hD1⟩ := hB
          try dsimp only at w6
          obtain ⟨hPa, hDa⟩ := hJn (w1 := [(on, .inr (2, oX2 n_kind n_salt n_pace n_manner n_from n_to n_goal n_reach n_branches n_branch n_tally x_n)), (n_to, .inl (kI, 20, .inl f_n_to))]) hk1 ht hP1 hD1
          clear hP hD hPc hDc hFc hJn hP1 hD1 hk1
          have hP : va_P (dC, dI) vwCl [(si, .inr (7, oX7 on oc si_edgesFrom si_diamondFirst si_diamondLast x_si)), (n_goal, .inl (kI, 3, .inl f_n_goal)), (oc, .inr (0, oX0 c_seen c_sent c_turn c_counter x_c)), (c_seen, .inl (kJ, 96, .inr (.inl f_c_seen))), (on, .inr (2, oX2 n_kind n_salt n_pace n_manner n_from n_to n_goal n_reach n_branches n_branch n_tally x_n)), (n_to, .inl (kI, 20, .inl f_n_to))] H := hPa
          have hD : va_D A [(si, .inr (7, oX7 on oc si_edgesFrom si_diamondFirst si_diamondLast x_si)), (n_goal, .inl (kI, 3, .inl f_n_goal)), (oc, .inr (0, oX0 c_seen c_sent c_turn c_counter x_c)), (c_seen, .inl (kJ, 96, .inr (.inl f_c_seen))), (on, .inr (2, oX2 n_kind n_salt n_pace n_manner n_from n_to n_goal n_reach n_branches n_branch n_tally x_n)), (n_to, .inl (kI, 20, .inl f_n_to))] := hDa
          clear hPa hDa
          refine W.widen (k := 0) (n := 0) (Nat.le_of_ble_eq_true rfl) (Nat.le_of_ble_eq_true rfl) ?_
          refine lv_aload_n hx hb dX7_loopOf_64 rfl (lv_at hl 1 rfl) ?_
          refine va_get (D := (dC, dI)) (ci := 7) (v := .ref on) (C := RX7) (T := TX7) (N := 5) hx hb hts hin7 hown hK hP 0 rfl rfl 0 (Nat.le_of_ble_eq_true rfl) hw_0 (fun _ h9 => h9) rfl dX7_loopOf_65 ?_
          refine va_get (D := (dC, dI)) (ci := 2) (v := .ref n_goal) (C := RX2) (T := TX2) (N := 15) hx hb hts hin2 hown hK hP 4 rfl rfl 6 (Nat.le_of_ble_eq_true rfl) hw_1 (fun _ h9 => h9) rfl dX7_loopOf_68 ?_
          refine lv_iload_n hx hb dX7_loopOf_71 rfl (lv_at hl 3 rfl) ?_
          refine va_iald hx hb hK hP 1 1 rfl rfl (iv_in hp1 (by decide) (by decide)) dX7_loopOf_72 ?_
          refine iv_top (a := 0) (b := 11) (hf_n_goal _) (fun z7 b8 => ?_)
          refine lv_icmp_eq (tgt := 78) hx hb dX7_loopOf_73 rfl (fun c9 => ?_) (fun c9 => ?_)
          · have hPD9 := cl_s (wc := [(si, .inr (7, oX7 on oc si_edgesFrom si_diamondFirst si_diamondLast x_si)), (on, .inr (2, oX2 n_kind n_salt n_pace n_manner n_from n_to n_goal n_reach n_branches n_branch n_tally x_n)), (n_to, .inl (kI, 20, .inl f_n_to)), (n_goal, .inl (kI, 3, .inl f_n_goal)), (oc, .inr (0, oX0 c_seen c_sent c_turn c_counter x_c)), (c_seen, .inl (kJ, 96, .inr (.inl f_c_seen)))]) hP hD [0, 4, 5, 1, 2, 3] rfl (by decide +kernel)
            exact hJ78 v48_loc4 v48_stk0 _ _ _ (h48_1) (h48_2) ((iv_w b4 (by decide) (by decide))) (hPD9.1) (hPD9.2) hS (lv_sub hl [1, 2, 3, 4, 5, 0] rfl)
          · refine lv_iload_n hx hb dX7_loopOf_76 rfl (lv_at hl 4 rfl) ?_
            have hPD9 := cl_s (wc := [(si, .inr (7, oX7 on oc si_edgesFrom si_diamondFirst si_diamondLast x_si)), (on, .inr (2, oX2 n_kind n_salt n_pace n_manner n_from n_to n_goal n_reach n_branches n_branch n_tally x_n)), (n_to, .inl (kI, 20, .inl f_n_to)), (n_goal, .inl (kI, 3, .inl f_n_goal)), (oc, .inr (0, oX0 c_seen c_sent c_turn c_counter x_c)), (c_seen, .inl (kJ, 96, .inr (.inl f_c_seen)))]) hP hD [0, 4, 5, 1, 2, 3] rfl (by decide +kernel)
            have hP9 := hPD9.1
            have hD9 := hPD9.2
            exact W.iret (v := v2_loc3) hx hb hr (fun t ht hW => ⟨⟨v2_loc3, (), rfl, (iv_w h48_1 (by decide) (by decide)), by rw [ht]; exact hP9, hD9⟩, hS.F ht⟩) hS.2.2 dX7_loopOf_77
      have hJ47 : ∀ (v47_loc4 : Int32) (H : Heap) (locs : List Loc) (ls : Array Slot), iv 1 9 v2_loc3 → iv (-1) 20 v47_loc4 → va_P (dC, dI) vwCl [(si, .inr (7, oX7 on oc si_edgesFrom si_diamondFirst si_diamondLast x_si)), (on, .inr (2, oX2 n_kind n_salt n_pace n_manner n_from n_to n_goal n_reach n_branches n_branch n_tally x_n)), (n_to, .inl (kI, 20, .inl f_n_to)), (n_goal, .inl (kI, 3, .inl f_n_goal)), (oc, .inr (0, oX0 c_seen c_sent c_turn c_counter x_c)), (c_seen, .inl (kJ, 96, .inr (.inl f_c_seen)))] H → va_D A [(si, .inr (7, oX7 on oc si_edgesFrom si_diamondFirst si_diamondLast x_si)), (on, .inr (2, oX2 n_kind n_salt n_pace n_manner n_from n_to n_goal n_reach n_branches n_branch n_tally x_n)), (n_to, .inl (kI, 20, .inl f_n_to)), (n_goal, .inl (kI, 3, .inl f_n_goal)), (oc, .inr (0, oX0 c_seen c_sent c_turn c_counter x_c)), (c_seen, .inl (kJ, 96, .inr (.inl f_c_seen)))] → va_S A s.heap H locs → lv_has ls 6 [(0, .ref si), (1, .int p0), (2, .int p1), (3, .int v2_loc3), (4, .int v47_loc4)] → W p l e (headSpec wsX7_loopOf rm_s7_loopOf).room s m args0 below meth c H locs (0) (0) (MQ below (va_Qi (fun (r : Int32) (_ : Unit) => iv (-1) 9 r) (fun _ t => va_P (dC, dI) vwCl [(si, .inr (7, oX7 on oc si_edgesFrom si_diamondFirst si_diamondLast x_si)), (on, .inr (2, oX2 n_kind n_salt n_pace n_manner n_from n_to n_goal n_reach n_branches n_branch n_tally x_n)), (n_to, .inl (kI, 20, .inl f_n_to)), (n_goal, .inl (kI, 3, .inl f_n_goal)), (oc, .inr (0, oX0 c_seen c_sent c_turn c_counter x_c)), (c_seen, .inl (kJ, 96, .inr (.inl f_c_seen)))] t.heap ∧ va_D A [(si, .inr (7, oX7 on oc si_edgesFrom si_diamondFirst si_diamondLast x_si)), (on, .inr (2, oX2 n_kind n_salt n_pace n_manner n_from n_to n_goal n_reach n_branches n_branch n_tally x_n)), (n_to, .inl (kI, 20, .inl f_n_to)), (n_goal, .inl (kI, 3, .inl f_n_goal)), (oc, .inr (0, oX0 c_seen c_sent c_turn c_counter x_c)), (c_seen, .inl (kJ, 96, .inr (.inl f_c_seen)))]) A) args0 s 0 0 A) (F0 m 47 ls []) := by
        intro v47_loc4 H locs ls h47_1 h47_2 hP hD hS hl
        refine lv_iconst (v := 0) hx hb dX7_loopOf_47 ic_0 ?_
        exact hJ48 v47_loc4 0 _ _ _ (h47_1) (h47_2) ((iv_w ivk_0 (by decide) (by decide))) (hP) (hD) hS (lv_sub hl [0, 1, 2, 3, 4] rfl)
      refine lv_iload_n hx hb dX7_loopOf_2 rfl (lv_at hl 3 rfl) ?_
      refine lv_bipush (v := 10) hx hb dX7_loopOf_3 bp_10 ?_
      refine lv_icmp_ge (tgt := 84) hx hb dX7_loopOf_5 rfl (fun c10 => ?_) (fun c10 => ?_)
      · have b11 : iv 10 10 v2_loc3 := iv_leR c10 ivk_10 h2_1 (by decide) (by decide)
        refine lv_iconst (v := (-1)) hx hb dX7_loopOf_84 ic_m1 ?_
        have hP9 := hP
        have hD9 := hD
        exact W.iret (v := (-1)) hx hb hr (fun t ht hW => ⟨⟨(-1), (), rfl, (iv_w ivk_m1 (by decide) (by decide)), by rw [ht]; exact hP9, hD9⟩, hS.F ht⟩) hS.2.2 dX7_loopOf_85
      · have b12 : iv 1 9 v2_loc3 := iv_ltL (Int32.not_le.mp c10) h2_1 ivk_10 (by decide) (by decide)
        refine lv_aload_n hx hb dX7_loopOf_8 rfl (lv_at hl 0 rfl) ?_
        refine va_get (D := (dC, dI)) (ci := 7) (v := .ref oc) (C := RX7) (T := TX7) (N := 5) hx hb hts hin7 hown hK hP 0 rfl rfl 1 (Nat.le_of_ble_eq_true rfl) hw_2 (fun _ h9 => h9) rfl dX7_loopOf_9 ?_
        refine lv_iload_n hx hb dX7_loopOf_12 rfl (lv_at hl 1 rfl) ?_
        refine lv_iload_n hx hb dX7_loopOf_13 rfl (lv_at hl 2 rfl) ?_
        refine lv_iload_n hx hb dX7_loopOf_14 rfl (lv_at hl 3 rfl) ?_
        obtain ⟨hPc, hDc, hFc, hJn⟩ := cl_a (wc := [(oc, .inr (0, oX0 c_seen c_sent c_turn c_counter x_c)), (c_seen, .inl (kJ, 96, .inr (.inl f_c_seen)))]) (wr := [(si, .inr (7, oX7 on oc si_edgesFrom si_diamondFirst si_diamondLast x_si)), (on, .inr (2, oX2 n_kind n_salt n_pace n_manner n_from n_to n_goal n_reach n_branches n_branch n_tally x_n)), (n_to, .inl (kI, 20, .inl f_n_to)), (n_goal, .inl (kI, 3, .inl f_n_goal))]) hP hD hS hA [4, 5] [0, 1, 2, 3] rfl rfl (by decide +kernel)
        refine va_calli (va_runV (As := [.int p0, .int p1, .int v2_loc3]) (rest := []) ⟨hx, hb, hml, hown, hts⟩ (s0_seenBy l dC dI kB kI kJ kZ kC kS H.size oc c_seen c_sent c_turn c_counter x_c f_c_seen p0 p1 v2_loc3 (hf_c_seen) (hp0) (hp1) ((iv_w b12 (by decide) (by decide)))) (cwV 3 hts gX7_loopOf_X0_seenBy rfl rfl rfl (by decide +kernel) ⟨Nat.le_of_ble_eq_true rfl, Nat.le_of_ble_eq_true rfl⟩) ⟨fun a U g mk q => by obtain ⟨q0, q1, qP, qE, qD⟩ := q; exact ⟨q0, q1, qP, kE_call qE, qD⟩, va_recv hK hP (ci := 0) (q0 := 4) rfl rfl, fun U hU hW => ⟨rfl, by rw [hU], by rw [hU]; exact hPc, kE_warm hW hE, hDc.weaken (fun _ _ _ _ => trivial)⟩⟩ rfl rfl hl.1 rfl (lv_room (Nat.le_of_ble_eq_true rfl)) dX7_loopOf_15 ⟨Nat.le_of_ble_eq_true rfl, Nat.le_of_ble_eq_true rfl⟩) hS (fun q _ h => hFc q h) hFc (fun r13 u t H locs ht hvm w14 hB hz1 hk1 hS => ?_)
        obtain ⟨hP1, hD1⟩ := hB
        try dsimp only at w14
        obtain ⟨hPa, hDa⟩ := hJn (w1 := [(oc, .inr (0, oX0 c_seen c_sent c_turn c_counter x_c)), (c_seen, .inl (kJ, 96, .inr (.inl f_c_seen)))]) hk1 ht hP1 hD1
        clear hP hD hPc hDc hFc hJn hP1 hD1 hk1
        have hP : va_P (dC, dI) vwCl [(si, .inr (7, oX7 on oc si_edgesFrom si_diamondFirst si_diamondLast x_si)), (on, .inr (2, oX2 n_kind n_salt n_pace n_manner n_from n_to n_goal n_reach n_branches n_branch n_tally x_n)), (n_to, .inl (kI, 20, .inl f_n_to)), (n_goal, .inl (kI, 3, .inl f_n_goal)), (oc, .inr (0, oX0 c_seen c_sent c_turn c_counter x_c)), (c_seen, .inl (kJ, 96, .inr (.inl f_c_seen)))] H := hPa
        have hD : va_D A [(si, .inr (7, oX7 on oc si_edgesFrom si_diamondFirst si_diamondLast x_si)), (on, .inr (2, oX2 n_kind n_salt n_pace n_manner n_from n_to n_goal n_reach n_branches n_branch n_tally x_n)), (n_to, .inl (kI, 20, .inl f_n_to)), (n_goal, .inl (kI, 3, .inl f_n_goal)), (oc, .inr (0, oX0 c_seen c_sent c_turn c_counter x_c)), (c_seen, .inl (kJ, 96, .inr (.inl f_c_seen)))] := hDa
        clear hPa hDa
        refine W.widen (k := 0) (n := 0) (Nat.le_of_ble_eq_true rfl) (Nat.le_of_ble_eq_true rfl) ?_
        refine lv_istore (lv' := [(4, .int r13), (0, .ref si), (1, .int p0), (2, .int p1), (3, .int v2_loc3)]) hx hb dX7_loopOf_18 hl (Nat.le_of_ble_eq_true rfl) rfl (fun ls hl => ?_)
        refine lv_iload hx hb dX7_loopOf_20 (lv_at hl 0 rfl) ?_
        refine lv_iconst (v := (-1)) hx hb dX7_loopOf_22 ic_m1 ?_
        refine lv_icmp_eq (tgt := 47) hx hb dX7_loopOf_23 rfl (fun c15 => ?_) (fun c15 => ?_)
        · have b16 : iv (-1) (-1) r13 := iv_eqL c15 ivk_m1
          exact hJ47 r13 _ _ _ (b12) ((iv_w b16 (by decide) (by decide))) (hP) (hD) hS (lv_sub hl [1, 2, 3, 4, 0] rfl)
        · have b17 : iv 0 20 r13 := iv_neLo c15 w14 ivk_m1 (by decide) (by decide)
          refine lv_iload hx hb dX7_loopOf_26 (lv_at hl 0 rfl) ?_
          refine lv_aload_n hx hb dX7_loopOf_28 rfl (lv_at hl 1 rfl) ?_
          refine va_get (D := (dC, dI)) (ci := 7) (v := .ref oc) (C := RX7) (T := TX7) (N := 5) hx hb hts hin7 hown hK hP 0 rfl rfl 1 (Nat.le_of_ble_eq_true rfl) hw_2 (fun _ h9 => h9) rfl dX7_loopOf_29 ?_
          refine lv_iload_n hx hb dX7_loopOf_32 rfl (lv_at hl 2 rfl) ?_
          refine lv_iload_n hx hb dX7_loopOf_33 rfl (lv_at hl 3 rfl) ?_
          refine lv_iload_n hx hb dX7_loopOf_34 rfl (lv_at hl 4 rfl) ?_
          refine lv_iconst (v := 1) hx hb dX7_loopOf_35 ic_1 ?_
          refine lv_iadd hx hb dX7_loopOf_36 ?_
          refine iv_top (a := 2) (b := 10) (iv_add b12 ivk_1 (by decide) (by decide) (by decide) (by decide)) (fun z18 b19 => ?_)
          obtain ⟨hPc, hDc, hFc, hJn⟩ := cl_a (wc := [(oc, .inr (0, oX0 c_seen c_sent c_turn c_counter x_c)), (c_seen, .inl (kJ, 96, .inr (.inl f_c_seen)))]) (wr := [(si, .inr (7, oX7 on oc si_edgesFrom si_diamondFirst si_diamondLast x_si)), (on, .inr (2, oX2 n_kind n_salt n_pace n_manner n_from n_to n_goal n_reach n_branches n_branch n_tally x_n)), (n_to, .inl (kI, 20, .inl f_n_to)), (n_goal, .inl (kI, 3, .inl f_n_goal))]) hP hD hS hA [4, 5] [0, 1, 2, 3] rfl rfl (by decide +kernel)
          refine va_calli (va_runV (As := [.int p0, .int p1, .int z18]) (rest := [.int r13]) ⟨hx, hb, hml, hown, hts⟩ (s0_seenBy l dC dI kB kI kJ kZ kC kS H.size oc c_seen c_sent c_turn c_counter x_c f_c_seen p0 p1 z18 (hf_c_seen) (hp0) (hp1) ((iv_w b19 (by decide) (by decide)))) (cwV 3 hts gX7_loopOf_X0_seenBy rfl rfl rfl (by decide +kernel) ⟨Nat.le_of_ble_eq_true rfl, Nat.le_of_ble_eq_true rfl⟩) ⟨fun a U g mk q => by obtain ⟨q0, q1, qP, qE, qD⟩ := q; exact ⟨q0, q1, qP, kE_call qE, qD⟩, va_recv hK hP (ci := 0) (q0 := 4) rfl rfl, fun U hU hW => ⟨rfl, by rw [hU], by rw [hU]; exact hPc, kE_warm hW hE, hDc.weaken (fun _ _ _ _ => trivial)⟩⟩ rfl rfl hl.1 rfl (lv_room (Nat.le_of_ble_eq_true rfl)) dX7_loopOf_37 ⟨Nat.le_of_ble_eq_true rfl, Nat.le_of_ble_eq_true rfl⟩) hS (fun q _ h => hFc q h) hFc (fun r20 u t H locs ht hvm w21 hB hz1 hk1 hS => ?_)
          obtain ⟨hP1, hD1⟩ := hB
          try dsimp only at w21
          obtain ⟨hPa, hDa⟩ := hJn (w1 := [(oc, .inr (0, oX0 c_seen c_sent c_turn c_counter x_c)), (c_seen, .inl (kJ, 96, .inr (.inl f_c_seen)))]) hk1 ht hP1 hD1
          clear hP hD hPc hDc hFc hJn hP1 hD1 hk1
          have hP : va_P (dC, dI) vwCl [(si, .inr (7, oX7 on oc si_edgesFrom si_diamondFirst si_diamondLast x_si)), (on, .inr (2, oX2 n_kind n_salt n_pace n_manner n_from n_to n_goal n_reach n_branches n_branch n_tally x_n)), (n_to, .inl (kI, 20, .inl f_n_to)), (n_goal, .inl (kI, 3, .inl f_n_goal)), (oc, .inr (0, oX0 c_seen c_sent c_turn c_counter x_c)), (c_seen, .inl (kJ, 96, .inr (.inl f_c_seen)))] H := hPa
          have hD : va_D A [(si, .inr (7, oX7 on oc si_edgesFrom si_diamondFirst si_diamondLast x_si)), (on, .inr (2, oX2 n_kind n_salt n_pace n_manner n_from n_to n_goal n_reach n_branches n_branch n_tally x_n)), (n_to, .inl (kI, 20, .inl f_n_to)), (n_goal, .inl (kI, 3, .inl f_n_goal)), (oc, .inr (0, oX0 c_seen c_sent c_turn c_counter x_c)), (c_seen, .inl (kJ, 96, .inr (.inl f_c_seen)))] := hDa
          clear hPa hDa
          refine W.widen (k := 0) (n := 0) (Nat.le_of_ble_eq_true rfl) (Nat.le_of_ble_eq_true rfl) ?_
          refine lv_icmp_ne (tgt := 47) hx hb dX7_loopOf_40 rfl (fun c22 => ?_) (fun c22 => ?_)
          · exact hJ47 r13 _ _ _ (b12) ((iv_w b17 (by decide) (by decide))) (hP) (hD) hS (lv_sub hl [1, 2, 3, 4, 0] rfl)
          · have b23 : iv 0 20 r20 := iv_eqR c22 b17
            refine lv_iconst (v := 1) hx hb dX7_loopOf_43 ic_1 ?_
            refine lv_goto (tgt := 48) hx hb dX7_loopOf_44 rfl ?_
            exact hJ48 r13 1 _ _ _ (b12) ((iv_w b17 (by decide) (by decide))) ((iv_w ivk_1 (by decide) (by decide))) (hP) (hD) hS (lv_sub hl [1, 2, 3, 4, 0] rfl)
  refine lv_iconst (v := 1) hx hb dX7_loopOf_0 ic_1 ?_
  refine lv_istore_n (lv' := [(3, .int 1), (0, .ref si), (1, .int p0), (2, .int p1)]) hx hb dX7_loopOf_1 rfl hl (Nat.le_of_ble_eq_true rfl) rfl (fun ls hl => ?_)
  exact hJ2 _ 1 _ _ _ (Nat.lt_succ_self _) ((iv_w ivk_1 (by decide) (by decide))) (hP) (hD) hS (lv_sub hl [1, 2, 3, 0] rfl)
def rm_s6_stepCounter : Room := { frames := 0, cells := 0, slots := 0, locals := 0 }
set_option maxHeartbeats 4000000 in
set_option maxRecDepth 100000 in
theorem s6_stepCounter (l : Launch) (dC : Nat → ClassId) (dI : Nat → Nat → Nat) (kB kI kJ kZ kC kS : ClassId) (sz : Nat) (se : Nat) (on : Nat) (oc : Nat) (w : Nat) (o : Nat) (x_se : Nat → Int32) (n_kind : Nat) (n_salt : Nat) (n_pace : Nat) (n_manner : Nat) (n_from : Nat) (n_to : Nat) (n_goal : Nat) (n_reach : Nat) (n_branches : Nat) (n_branch : Nat) (n_tally : Nat) (x_n : Nat → Int32) (f_n_pace : Nat → Int32) (c_seen : Nat) (c_sent : Nat) (c_turn : Nat) (c_counter : Nat) (x_c : Nat → Int32) (f_c_counter : Nat → Int32) (p0 : Int32) (hx_n : fI lX2 hX2 x_n) (hp0 : iv 0 11 p0) : Met l yX6_stepCounter wsX6_stepCounter rm_s6_stepCounter (va_Pc [.ref se, .int p0] (fun U => U.heap.size = sz ∧ va_P (dC, dI) vwCl [(se, .inr (6, oX6 on oc w o x_se)), (on, .inr (2, oX2 n_kind n_salt n_pace n_manner n_from n_to n_goal n_reach n_branches n_branch n_tally x_n)), (n_pace, .inl (kI, 12, .inl f_n_pace)), (oc, .inr (0, oX0 c_seen c_sent c_turn c_counter x_c)), (c_counter, .inl (kI, 12, .inl f_c_counter))] U.heap ∧ kE dC dI kB kI kJ kZ kC kS U ∧ va_D (fun _ => True) [(se, .inr (6, oX6 on oc w o x_se)), (on, .inr (2, oX2 n_kind n_salt n_pace n_manner n_from n_to n_goal n_reach n_branches n_branch n_tally x_n)), (n_pace, .inl (kI, 12, .inl f_n_pace)), (oc, .inr (0, oX0 c_seen c_sent c_turn c_counter x_c)), (c_counter, .inl (kI, 12, .inl f_c_counter))])) (va_Qi (fun (r : Int32) (_ : Unit) => True) (fun _ t => ∃ (f_c_counter' : Nat → Int32), va_P (dC, dI) vwCl [(se, .inr (6, oX6 on oc w o x_se)), (on, .inr (2, oX2 n_kind n_salt n_pace n_manner n_from n_to n_goal n_reach n_branches n_branch n_tally x_n)), (n_pace, .inl (kI, 12, .inl f_n_pace)), (oc, .inr (0, oX0 c_seen c_sent c_turn c_counter x_c)), (c_counter, .inl (kI, 12, .inl f_c_counter'))] t.heap ∧ va_D (va_A [(se, .inr (6, oX6 on oc w o x_se)), (on, .inr (2, oX2 n_kind n_salt n_pace n_manner n_from n_to n_goal n_reach n_branches n_branch n_tally x_n)), (n_pace, .inl (kI, 12, .inl f_n_pace)), (oc, .inr (0, oX0 c_seen c_sent c_turn c_counter x_c)), (c_counter, .inl (kI, 12, .inl f_c_counter))] sz) [(se, .inr (6, oX6 on oc w o x_se)), (on, .inr (2, oX2 n_kind n_salt n_pace n_manner n_from n_to n_goal n_reach n_branches n_branch n_tally x_n)), (n_pace, .inl (kI, 12, .inl f_n_pace)), (oc, .inr (0, oX0 c_seen c_sent c_turn c_counter x_c)), (c_counter, .inl (kI, 12, .inl f_c_counter'))]) (va_A [(se, .inr (6, oX6 on oc w o x_se)), (on, .inr (2, oX2 n_kind n_salt n_pace n_manner n_from n_to n_goal n_reach n_branches n_branch n_tally x_n)), (n_pace, .inl (kI, 12, .inl f_n_pace)), (oc, .inr (0, oX0 c_seen c_sent c_turn c_counter x_c)), (c_counter, .inl (kI, 12, .inl f_c_counter))] sz)) 0 0 (va_A [(se, .inr (6, oX6 on oc w o x_se)), (on, .inr (2, oX2 n_kind n_salt n_pace n_manner n_from n_to n_goal n_reach n_branches n_branch n_tally x_n)), (n_pace, .inl (kI, 12, .inl f_n_pace)), (oc, .inr (0, oX0 c_seen c_sent c_turn c_counter x_c)), (c_counter, .inl (kI, 12, .inl f_c_counter))] sz) := by
  refine Met.ofW (cc := cX6_stepCounter) (maxL := 2) (ret := (some .int)) (by decide) rfl ?_
  intro p e s m args0 below meth c s₁ B hml hv
  obtain ⟨hargs, hsz, hP, hE, hD0⟩ := hv
  have hx := B.exec
  have hb := B.bytes
  have hr := B.returns
  have hts := atoms_spec (ws := wsX6_stepCounter) B.pre
  have hown : s.vm.findClass RX6 = some m.cls := findClass_of_methodNamed B.named
  have hlocks := B.notSynchronized
  have hK := hE.1
  have hin6 : ∀ w ∈ wsX60, w ∈ wsX6_stepCounter := fun _ h9 => List.mem_cons_of_mem _ (List.mem_append_left _ (List.mem_append_left _ (List.mem_append_right _ h9)))
  have hin0 : ∀ w ∈ wsX00, w ∈ wsX6_stepCounter := fun _ h9 => List.mem_cons_of_mem _ (List.mem_append_left _ (List.mem_append_right _ h9))
  have hin2 : ∀ w ∈ wsX20, w ∈ wsX6_stepCounter := fun _ h9 => List.mem_cons_of_mem _ (List.mem_append_right _ h9)
  have hw_0 := hts (.fieldLink RX6 19 "PathProber$Sender" "now" "LPathProber$Condition;") (List.mem_of_getElem? (i := 1) rfl)
  have hw_1 := hts (.fieldLink RX6 94 "PathProber$Condition" "counter" "[I") (List.mem_of_getElem? (i := 2) rfl)
  have hw_2 := hts (.fieldLink RX6 15 "PathProber$Sender" "net" "LPathProber$Net;") (List.mem_of_getElem? (i := 3) rfl)
  have hw_3 := hts (.fieldLink RX6 97 "PathProber$Net" "pace" "[I") (List.mem_of_getElem? (i := 4) rfl)
  subst hsz
  have hD := hD0.self (sz := s.heap.size)
  generalize hAe : va_A [(se, .inr (6, oX6 on oc w o x_se)), (on, .inr (2, oX2 n_kind n_salt n_pace n_manner n_from n_to n_goal n_reach n_branches n_branch n_tally x_n)), (n_pace, .inl (kI, 12, .inl f_n_pace)), (oc, .inr (0, oX0 c_seen c_sent c_turn c_counter x_c)), (c_counter, .inl (kI, 12, .inl f_c_counter))] s.heap.size = A at hD ⊢
  have hA : ∀ q : Nat, s.heap.size ≤ q → A q := fun q h => by rw [← hAe]; exact Or.inr h
  have hS : va_S A s.heap s.heap [] := va_S.rf
  have hP : va_P (dC, dI) vwCl [(se, .inr (6, oX6 on oc w o x_se)), (on, .inr (2, oX2 n_kind n_salt n_pace n_manner n_from n_to n_goal n_reach n_branches n_branch n_tally x_n)), (n_pace, .inl (kI, 12, .inl f_n_pace)), (oc, .inr (0, oX0 c_seen c_sent c_turn c_counter x_c)), (c_counter, .inl (kI, 12, .inl f_c_counter))] s.heap := hP
  have hl := lv_entry ([.ref se, .int p0]) (n := 2) (Nat.le_of_ble_eq_true rfl)
  have hla : entryFrame m args0 2 = entryFrame m ([.ref se, .int p0] : List Value).toArray 2 := by rw [hargs]
  rw [hla, lg_entry_eq]
  generalize (lg_sl ([.ref se, .int p0]) ++ List.replicate (2 - (lg_sl ([.ref se, .int p0])).length) Slot.unset).toArray = ls at hl ⊢
  have hl : lv_has ls 2 [(0, .ref se), (1, .int p0)] := hl
  refine lv_aload_n hx hb dX6_stepCounter_0 rfl (lv_at hl 0 rfl) ?_
  refine va_get (D := (dC, dI)) (ci := 6) (v := .ref oc) (C := RX6) (T := TX6) (N := 5) hx hb hts hin6 hown hK hP 0 rfl rfl 1 (Nat.le_of_ble_eq_true rfl) hw_0 (fun _ h9 => h9) rfl dX6_stepCounter_1 ?_
  refine va_get (D := (dC, dI)) (ci := 0) (v := .ref c_counter) (C := RX0) (T := TX0) (N := 10) hx hb hts hin0 hown hK hP 3 rfl rfl 3 (Nat.le_of_ble_eq_true rfl) hw_1 (fun _ h9 => h9) rfl dX6_stepCounter_4 ?_
  refine lv_iload_n hx hb dX6_stepCounter_7 rfl (lv_at hl 1 rfl) ?_
  refine lv_aload_n hx hb dX6_stepCounter_8 rfl (lv_at hl 0 rfl) ?_
  refine va_get (D := (dC, dI)) (ci := 6) (v := .ref oc) (C := RX6) (T := TX6) (N := 5) hx hb hts hin6 hown hK hP 0 rfl rfl 1 (Nat.le_of_ble_eq_true rfl) hw_0 (fun _ h9 => h9) rfl dX6_stepCounter_9 ?_
  refine va_get (D := (dC, dI)) (ci := 0) (v := .ref c_counter) (C := RX0) (T := TX0) (N := 10) hx hb hts hin0 hown hK hP 3 rfl rfl 3 (Nat.le_of_ble_eq_true rfl) hw_1 (fun _ h9 => h9) rfl dX6_stepCounter_12 ?_
  refine lv_iload_n hx hb dX6_stepCounter_15 rfl (lv_at hl 1 rfl) ?_
  refine va_iald hx hb hK hP 4 1 rfl rfl (iv_in hp0 (by decide) (by decide)) dX6_stepCounter_16 ?_
  refine lv_topi (fun z1 _ => ?_)
  refine lv_aload_n hx hb dX6_stepCounter_17 rfl (lv_at hl 0 rfl) ?_
  refine va_get (D := (dC, dI)) (ci := 6) (v := .ref on) (C := RX6) (T := TX6) (N := 5) hx hb hts hin6 hown hK hP 0 rfl rfl 0 (Nat.le_of_ble_eq_true rfl) hw_2 (fun _ h9 => h9) rfl dX6_stepCounter_18 ?_
  refine va_get (D := (dC, dI)) (ci := 2) (v := .ref n_pace) (C := RX2) (T := TX2) (N := 15) hx hb hts hin2 hown hK hP 1 rfl rfl 2 (Nat.le_of_ble_eq_true rfl) hw_3 (fun _ h9 => h9) rfl dX6_stepCounter_21 ?_
  refine lv_iload_n hx hb dX6_stepCounter_24 rfl (lv_at hl 1 rfl) ?_
  refine va_iald hx hb hK hP 2 1 rfl rfl (iv_in hp0 (by decide) (by decide)) dX6_stepCounter_25 ?_
  refine lv_topi (fun z2 _ => ?_)
  refine lv_iadd hx hb dX6_stepCounter_26 ?_
  refine lv_topi (fun z3 _ => ?_)
  refine lv_sipush (v := 256) hx hb dX6_stepCounter_27 (by decide) ?_
  refine lv_irem hx hb dX6_stepCounter_30 (by decide) ?_
  refine lv_topi (fun z4 _ => ?_)
  refine va_iast hx hb hK hP hD hS 4 1 rfl rfl (iv_in hp0 (by decide) (by decide)) dX6_stepCounter_31 (fun H locs hPa hDa hS => ?_)
  clear hP hD
  have hP : va_P (dC, dI) vwCl [(se, .inr (6, oX6 on oc w o x_se)), (on, .inr (2, oX2 n_kind n_salt n_pace n_manner n_from n_to n_goal n_reach n_branches n_branch n_tally x_n)), (n_pace, .inl (kI, 12, .inl f_n_pace)), (oc, .inr (0, oX0 c_seen c_sent c_turn c_counter x_c)), (c_counter, .inl (kI, 12, .inl (upd f_c_counter p0.toNatClampNeg z4)))] H := hPa
  have hD : va_D A [(se, .inr (6, oX6 on oc w o x_se)), (on, .inr (2, oX2 n_kind n_salt n_pace n_manner n_from n_to n_goal n_reach n_branches n_branch n_tally x_n)), (n_pace, .inl (kI, 12, .inl f_n_pace)), (oc, .inr (0, oX0 c_seen c_sent c_turn c_counter x_c)), (c_counter, .inl (kI, 12, .inl (upd f_c_counter p0.toNatClampNeg z4)))] := hDa
  clear hPa hDa
  generalize (upd f_c_counter p0.toNatClampNeg z4) = f5 at hP hD
  refine lv_aload_n hx hb dX6_stepCounter_32 rfl (lv_at hl 0 rfl) ?_
  refine va_get (D := (dC, dI)) (ci := 6) (v := .ref oc) (C := RX6) (T := TX6) (N := 5) hx hb hts hin6 hown hK hP 0 rfl rfl 1 (Nat.le_of_ble_eq_true rfl) hw_0 (fun _ h9 => h9) rfl dX6_stepCounter_33 ?_
  refine va_get (D := (dC, dI)) (ci := 0) (v := .ref c_counter) (C := RX0) (T := TX0) (N := 10) hx hb hts hin0 hown hK hP 3 rfl rfl 3 (Nat.le_of_ble_eq_true rfl) hw_1 (fun _ h9 => h9) rfl dX6_stepCounter_36 ?_
  refine lv_iload_n hx hb dX6_stepCounter_39 rfl (lv_at hl 1 rfl) ?_
  refine va_iald hx hb hK hP 4 1 rfl rfl (iv_in hp0 (by decide) (by decide)) dX6_stepCounter_40 ?_
  refine lv_topi (fun z6 _ => ?_)
  have hP9 := hP
  have hD9 := hD
  exact W.iret (v := z6) hx hb hr (fun t ht hW => ⟨⟨z6, (), rfl, trivial, f5, by rw [ht]; exact hP9, hD9⟩, hS.F ht⟩) hS.2.2 dX6_stepCounter_41
def rm_s6_pingOne : Room := { frames := 1, cells := 0, slots := 0, locals := 21 }
set_option maxHeartbeats 4000000 in
set_option maxRecDepth 100000 in
theorem s6_pingOne (l : Launch) (dC : Nat → ClassId) (dI : Nat → Nat → Nat) (kB kI kJ kZ kC kS : ClassId) (sz : Nat) (se : Nat) (on : Nat) (oc : Nat) (w : Nat) (o : Nat) (x_se : Nat → Int32) (n_kind : Nat) (n_salt : Nat) (n_pace : Nat) (n_manner : Nat) (n_from : Nat) (n_to : Nat) (n_goal : Nat) (n_reach : Nat) (n_branches : Nat) (n_branch : Nat) (n_tally : Nat) (x_n : Nat → Int32) (f_n_pace : Nat → Int32) (f_n_to : Nat → Int32) (c_seen : Nat) (c_sent : Nat) (c_turn : Nat) (c_counter : Nat) (x_c : Nat → Int32) (f_c_counter : Nat → Int32) (p0 : Int32) (hx_n : fI lX2 hX2 x_n) (hf_n_to : fI (fun _ => 0) (fun _ => 11) f_n_to) : Met l yX6_pingOne wsX6_pingOne rm_s6_pingOne (va_Pc [.ref se, .int p0] (fun U => U.heap.size = sz ∧ va_P (dC, dI) vwCl [(se, .inr (6, oX6 on oc w o x_se)), (on, .inr (2, oX2 n_kind n_salt n_pace n_manner n_from n_to n_goal n_reach n_branches n_branch n_tally x_n)), (n_pace, .inl (kI, 12, .inl f_n_pace)), (n_to, .inl (kI, 20, .inl f_n_to)), (oc, .inr (0, oX0 c_seen c_sent c_turn c_counter x_c)), (c_counter, .inl (kI, 12, .inl f_c_counter))] U.heap ∧ kE dC dI kB kI kJ kZ kC kS U ∧ va_D (fun _ => True) [(se, .inr (6, oX6 on oc w o x_se)), (on, .inr (2, oX2 n_kind n_salt n_pace n_manner n_from n_to n_goal n_reach n_branches n_branch n_tally x_n)), (n_pace, .inl (kI, 12, .inl f_n_pace)), (n_to, .inl (kI, 20, .inl f_n_to)), (oc, .inr (0, oX0 c_seen c_sent c_turn c_counter x_c)), (c_counter, .inl (kI, 12, .inl f_c_counter))])) (va_Qi (fun (r : Int32) (_ : Unit) => True) (fun _ t => ∃ (f_c_counter' : Nat → Int32), va_P (dC, dI) vwCl [(se, .inr (6, oX6 on oc w o x_se)), (on, .inr (2, oX2 n_kind n_salt n_pace n_manner n_from n_to n_goal n_reach n_branches n_branch n_tally x_n)), (n_pace, .inl (kI, 12, .inl f_n_pace)), (n_to, .inl (kI, 20, .inl f_n_to)), (oc, .inr (0, oX0 c_seen c_sent c_turn c_counter x_c)), (c_counter, .inl (kI, 12, .inl f_c_counter'))] t.heap ∧ va_D (va_A [(se, .inr (6, oX6 on oc w o x_se)), (on, .inr (2, oX2 n_kind n_salt n_pace n_manner n_from n_to n_goal n_reach n_branches n_branch n_tally x_n)), (n_pace, .inl (kI, 12, .inl f_n_pace)), (n_to, .inl (kI, 20, .inl f_n_to)), (oc, .inr (0, oX0 c_seen c_sent c_turn c_counter x_c)), (c_counter, .inl (kI, 12, .inl f_c_counter))] sz) [(se, .inr (6, oX6 on oc w o x_se)), (on, .inr (2, oX2 n_kind n_salt n_pace n_manner n_from n_to n_goal n_reach n_branches n_branch n_tally x_n)), (n_pace, .inl (kI, 12, .inl f_n_pace)), (n_to, .inl (kI, 20, .inl f_n_to)), (oc, .inr (0, oX0 c_seen c_sent c_turn c_counter x_c)), (c_counter, .inl (kI, 12, .inl f_c_counter'))]) (va_A [(se, .inr (6, oX6 on oc w o x_se)), (on, .inr (2, oX2 n_kind n_salt n_pace n_manner n_from n_to n_goal n_reach n_branches n_branch n_tally x_n)), (n_pace, .inl (kI, 12, .inl f_n_pace)), (n_to, .inl (kI, 20, .inl f_n_to)), (oc, .inr (0, oX0 c_seen c_sent c_turn c_counter x_c)), (c_counter, .inl (kI, 12, .inl f_c_counter))] sz)) 0 0 (va_A [(se, .inr (6, oX6 on oc w o x_se)), (on, .inr (2, oX2 n_kind n_salt n_pace n_manner n_from n_to n_goal n_reach n_branches n_branch n_tally x_n)), (n_pace, .inl (kI, 12, .inl f_n_pace)), (n_to, .inl (kI, 20, .inl f_n_to)), (oc, .inr (0, oX0 c_seen c_sent c_turn c_counter x_c)), (c_counter, .inl (kI, 12, .inl f_c_counter))] sz) := by
  refine Met.ofW (cc := cX6_pingOne) (maxL := 2) (ret := (some .int)) (by decide) rfl ?_
  intro p e s m args0 below meth c s₁ B hml hv
  obtain ⟨hargs, hsz, hP, hE, hD0⟩ := hv
  have hx := B.exec
  have hb := B.bytes
  have hr := B.returns
  have hts := atoms_spec (ws := wsX6_pingOne) B.pre
  have hown : s.vm.findClass RX6 = some m.cls := findClass_of_methodNamed B.named
  have hlocks := B.notSynchronized
  have hK := hE.1
  have hin6 : ∀ w ∈ wsX60, w ∈ wsX6_pingOne := fun _ h9 => List.mem_cons_of_mem _ (List.mem_append_left _ (List.mem_append_left _ (List.mem_append_right _ h9)))
  have hin2 : ∀ w ∈ wsX20, w ∈ wsX6_pingOne := fun _ h9 => List.mem_cons_of_mem _ (List.mem_append_left _ (List.mem_append_right _ h9))
  have hin0 : ∀ w ∈ wsX00, w ∈ wsX6_pingOne := fun _ h9 => List.mem_cons_of_mem _ (List.mem_append_right _ h9)
  have hw_0 := hts (.fieldLink RX6 15 "PathProber$Sender" "net" "LPathProber$Net;") (List.mem_of_getElem? (i := 1) rfl)
  subst hsz
  have hD := hD0.self (sz := s.heap.size)
  generalize hAe : va_A [(se, .inr (6, oX6 on oc w o x_se)), (on, .inr (2, oX2 n_kind n_salt n_pace n_manner n_from n_to n_goal n_reach n_branches n_branch n_tally x_n)), (n_pace, .inl (kI, 12, .inl f_n_pace)), (n_to, .inl (kI, 20, .inl f_n_to)), (oc, .inr (0, oX0 c_seen c_sent c_turn c_counter x_c)), (c_counter, .inl (kI, 12, .inl f_c_counter))] s.heap.size = A at hD ⊢
  have hA : ∀ q : Nat, s.heap.size ≤ q → A q := fun q h => by rw [← hAe]; exact Or.inr h
  have hS : va_S A s.heap s.heap [] := va_S.rf
  have hP : va_P (dC, dI) vwCl [(se, .inr (6, oX6 on oc w o x_se)), (on, .inr (2, oX2 n_kind n_salt n_pace n_manner n_from n_to n_goal n_reach n_branches n_branch n_tally x_n)), (n_pace, .inl (kI, 12, .inl f_n_pace)), (n_to, .inl (kI, 20, .inl f_n_to)), (oc, .inr (0, oX0 c_seen c_sent c_turn c_counter x_c)), (c_counter, .inl (kI, 12, .inl f_c_counter))] s.heap := hP
  have hl := lv_entry ([.ref se, .int p0]) (n := 2) (Nat.le_of_ble_eq_true rfl)
  have hla : entryFrame m args0 2 = entryFrame m ([.ref se, .int p0] : List Value).toArray 2 := by rw [hargs]
  rw [hla, lg_entry_eq]
  generalize (lg_sl ([.ref se, .int p0]) ++ List.replicate (2 - (lg_sl ([.ref se, .int p0])).length) Slot.unset).toArray = ls at hl ⊢
  have hl : lv_has ls 2 [(0, .ref se), (1, .int p0)] := hl
  refine lv_aload_n hx hb dX6_pingOne_0 rfl (lv_at hl 0 rfl) ?_
  refine lv_aload_n hx hb dX6_pingOne_1 rfl (lv_at hl 0 rfl) ?_
  refine va_get (D := (dC, dI)) (ci := 6) (v := .ref on) (C := RX6) (T := TX6) (N := 5) hx hb hts hin6 hown hK hP 0 rfl rfl 0 (Nat.le_of_ble_eq_true rfl) hw_0 (fun _ h9 => h9) rfl dX6_pingOne_2 ?_
  refine lv_iload_n hx hb dX6_pingOne_5 rfl (lv_at hl 1 rfl) ?_
  obtain ⟨hPc, hDc, hFc, hJn⟩ := cl_a (wc := [(on, .inr (2, oX2 n_kind n_salt n_pace n_manner n_from n_to n_goal n_reach n_branches n_branch n_tally x_n)), (n_to, .inl (kI, 20, .inl f_n_to))]) (wr := [(se, .inr (6, oX6 on oc w o x_se)), (n_pace, .inl (kI, 12, .inl f_n_pace)), (oc, .inr (0, oX0 c_seen c_sent c_turn c_counter x_c)), (c_counter, .inl (kI, 12, .inl f_c_counter))]) hP hD hS hA [1, 3] [0, 2, 4, 5] rfl rfl (by decide +kernel)
  refine va_calli (va_runV (As := [.int p0]) (rest := [.ref se]) ⟨hx, hb, hml, hown, hts⟩ (s2_routerOf l dC dI kB kI kJ kZ kC kS s.heap.size on n_kind n_salt n_pace n_manner n_from n_to n_goal n_reach n_branches n_branch n_tally x_n f_n_to p0 (hx_n) (hf_n_to)) (cwV 1 hts gX6_pingOne_X2_routerOf rfl rfl rfl (by decide +kernel) ⟨Nat.le_of_ble_eq_true rfl, Nat.le_of_ble_eq_true rfl⟩) ⟨fun a U g mk q => by obtain ⟨q0, q1, qP, qE, qD⟩ := q; exact ⟨q0, q1, qP, kE_call qE, qD⟩, va_recv hK hP (ci := 2) (q0 := 1) rfl rfl, fun U hU hW => ⟨rfl, by rw [hU], by rw [hU]; exact hPc, kE_warm hW hE, hDc.weaken (fun _ _ _ _ => trivial)⟩⟩ rfl rfl hl.1 rfl (lv_room (Nat.le_of_ble_eq_true rfl)) dX6_pingOne_6 ⟨Nat.le_of_ble_eq_true rfl, Nat.le_of_ble_eq_true rfl⟩) hS (fun q _ h => hFc q h) hFc (fun r1 u t H locs ht hvm w2 hB hz1 hk1 hS => ?_)
  obtain ⟨hP1, hD1⟩ := hB
  try dsimp only at w2
  obtain ⟨hPa, hDa⟩ := hJn (w1 := [(on, .inr (2, oX2 n_kind n_salt n_pace n_manner n_from n_to n_goal n_reach n_branches n_branch n_tally x_n)), (n_to, .inl (kI, 20, .inl f_n_to))]) hk1 ht hP1 hD1
  clear hP hD hPc hDc hFc hJn hP1 hD1 hk1
  have hP : va_P (dC, dI) vwCl [(se, .inr (6, oX6 on oc w o x_se)), (n_pace, .inl (kI, 12, .inl f_n_pace)), (oc, .inr (0, oX0 c_seen c_sent c_turn c_counter x_c)), (c_counter, .inl (kI, 12, .inl f_c_counter)), (on, .inr (2, oX2 n_kind n_salt n_pace n_manner n_from n_to n_goal n_reach n_branches n_branch n_tally x_n)), (n_to, .inl (kI, 20, .inl f_n_to))] H := hPa
  have hD : va_D A [(se, .inr (6, oX6 on oc w o x_se)), (n_pace, .inl (kI, 12, .inl f_n_pace)), (oc, .inr (0, oX0 c_seen c_sent c_turn c_counter x_c)), (c_counter, .inl (kI, 12, .inl f_c_counter)), (on, .inr (2, oX2 n_kind n_salt n_pace n_manner n_from n_to n_goal n_reach n_branches n_branch n_tally x_n)), (n_to, .inl (kI, 20, .inl f_n_to))] := hDa
  clear hPa hDa
  refine W.widen (k := 0) (n := 0) (Nat.le_of_ble_eq_true rfl) (Nat.le_of_ble_eq_true rfl) ?_
  obtain ⟨hPc, hDc, hFc, hJn⟩ := cl_a (wc := [(se, .inr (6, oX6 on oc w o x_se)), (on, .inr (2, oX2 n_kind n_salt n_pace n_manner n_from n_to n_goal n_reach n_branches n_branch n_tally x_n)), (n_pace, .inl (kI, 12, .inl f_n_pace)), (oc, .inr (0, oX0 c_seen c_sent c_turn c_counter x_c)), (c_counter, .inl (kI, 12, .inl f_c_counter))]) (wr := [(n_to, .inl (kI, 20, .inl f_n_to))]) hP hD hS hA [0, 4, 1, 2, 3] [5] rfl rfl (by decide +kernel)
  refine va_calli (va_runV (As := [.int r1]) (rest := []) ⟨hx, hb, hml, hown, hts⟩ (s6_stepCounter l dC dI kB kI kJ kZ kC kS H.size se on oc w o x_se n_kind n_salt n_pace n_manner n_from n_to n_goal n_reach n_branches n_branch n_tally x_n f_n_pace c_seen c_sent c_turn c_counter x_c f_c_counter r1 (hx_n) (w2)) (cwV 1 hts gX6_pingOne_X6_stepCounter rfl rfl rfl (by decide +kernel) ⟨Nat.le_of_ble_eq_true rfl, Nat.le_of_ble_eq_true rfl⟩) ⟨fun a U g mk q => by obtain ⟨q0, q1, qP, qE, qD⟩ := q; exact ⟨q0, q1, qP, kE_call qE, qD⟩, va_recv hK hP (ci := 6) (q0 := 0) rfl rfl, fun U hU hW => ⟨rfl, by rw [hU], by rw [hU]; exact hPc, kE_warm hW hE, hDc.weaken (fun _ _ _ _ => trivial)⟩⟩ rfl rfl hl.1 rfl (lv_room (Nat.le_of_ble_eq_true rfl)) dX6_pingOne_9 ⟨Nat.le_of_ble_eq_true rfl, Nat.le_of_ble_eq_true rfl⟩) hS (fun q _ h => hFc q h) hFc (fun r3 u t H locs ht hvm w4 hB hz1 hk1 hS => ?_)
  obtain ⟨f5, hP1, hD1⟩ := hB
  try dsimp only at w4
  obtain ⟨hPa, hDa⟩ := hJn (w1 := [(se, .inr (6, oX6 on oc w o x_se)), (on, .inr (2, oX2 n_kind n_salt n_pace n_manner n_from n_to n_goal n_reach n_branches n_branch n_tally x_n)), (n_pace, .inl (kI, 12, .inl f_n_pace)), (oc, .inr (0, oX0 c_seen c_sent c_turn c_counter x_c)), (c_counter, .inl (kI, 12, .inl f5))]) hk1 ht hP1 hD1
  clear hP hD hPc hDc hFc hJn hP1 hD1 hk1
  have hP : va_P (dC, dI) vwCl [(n_to, .inl (kI, 20, .inl f_n_to)), (se, .inr (6, oX6 on oc w o x_se)), (on, .inr (2, oX2 n_kind n_salt n_pace n_manner n_from n_to n_goal n_reach n_branches n_branch n_tally x_n)), (n_pace, .inl (kI, 12, .inl f_n_pace)), (oc, .inr (0, oX0 c_seen c_sent c_turn c_counter x_c)), (c_counter, .inl (kI, 12, .inl f5))] H := hPa
  have hD : va_D A [(n_to, .inl (kI, 20, .inl f_n_to)), (se, .inr (6, oX6 on oc w o x_se)), (on, .inr (2, oX2 n_kind n_salt n_pace n_manner n_from n_to n_goal n_reach n_branches n_branch n_tally x_n)), (n_pace, .inl (kI, 12, .inl f_n_pace)), (oc, .inr (0, oX0 c_seen c_sent c_turn c_counter x_c)), (c_counter, .inl (kI, 12, .inl f5))] := hDa
  clear hPa hDa
  refine W.widen (k := 0) (n := 0) (Nat.le_of_ble_eq_true rfl) (Nat.le_of_ble_eq_true rfl) ?_
  have hPD9 := cl_s (wc := [(se, .inr (6, oX6 on oc w o x_se)), (on, .inr (2, oX2 n_kind n_salt n_pace n_manner n_from n_to n_goal n_reach n_branches n_branch n_tally x_n)), (n_pace, .inl (kI, 12, .inl f_n_pace)), (n_to, .inl (kI, 20, .inl f_n_to)), (oc, .inr (0, oX0 c_seen c_sent c_turn c_counter x_c)), (c_counter, .inl (kI, 12, .inl f5))]) hP hD [1, 2, 3, 0, 4, 5] rfl (by decide +kernel)
  have hP9 := hPD9.1
  have hD9 := hPD9.2
  exact W.iret (v := r3) hx hb hr (fun t ht hW => ⟨⟨r3, (), rfl, trivial, f5, by rw [ht]; exact hP9, hD9⟩, hS.F ht⟩) hS.2.2 dX6_pingOne_12
