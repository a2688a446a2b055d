def rm_s2_findBranches_x : Room := { frames := 1, cells := 0, slots := 0, locals := 22 }
set_option maxHeartbeats 4000000 in
set_option maxRecDepth 100000 in
theorem s2_findBranches_x (l : Launch) (dC : Nat → ClassId) (dI : Nat → Nat → Nat) (kB kI kJ kZ kC kS : ClassId) (sz : Nat) (on : Nat) (n_kind : Nat) (n_salt : Nat) (n_pace : Nat) (n_manner : Nat) (n_from : Nat) (n_to : Nat) (n_goal : Nat) (n_reach : Nat) (n_branches : Nat) (n_branch : Nat) (n_tally : Nat) (x_n : Nat → Int32) (f_n_kind : Nat → Int32) (f_n_from : Nat → Int32) (f_n_to : Nat → Int32) (f_n_goal : Nat → Int32) (f_n_reach : Nat → Int32) (f_n_branches : Nat → Int32) (f_n_branch : Nat → Int32) (hx_n : fI lX2 hX2 x_n) (hf_n_from : fI (fun _ => 0) (fun _ => 11) f_n_from) (hf_n_to : fI (fun _ => 0) (fun _ => 11) f_n_to) (hf_n_goal : fI (fun _ => 0) (fun _ => 11) f_n_goal) (hf_n_branches : fI (fun _ => 0) (fun _ => 4) f_n_branches) (hf_n_branch : fI (fun _ => 0) (fun _ => 19) f_n_branch) (hWF : WfN x_n f_n_kind f_n_from f_n_to f_n_goal) : Met l yX2_findBranches wsX2_findBranches rm_s2_findBranches_x (va_Pc [.ref on] (fun U => U.heap.size = sz ∧ va_P (dC, dI) vwCl [(on, .inr (2, oX2 n_kind n_salt n_pace n_manner n_from n_to n_goal n_reach n_branches n_branch n_tally x_n)), (n_kind, .inl (kI, 12, .inl f_n_kind)), (n_from, .inl (kI, 20, .inl f_n_from)), (n_to, .inl (kI, 20, .inl f_n_to)), (n_goal, .inl (kI, 3, .inl f_n_goal)), (n_reach, .inl (kI, 12, .inl f_n_reach)), (n_branches, .inl (kI, 36, .inl f_n_branches)), (n_branch, .inl (kI, 144, .inl f_n_branch))] U.heap ∧ kE dC dI kB kI kJ kZ kC kS U ∧ va_D (fun _ => True) [(on, .inr (2, oX2 n_kind n_salt n_pace n_manner n_from n_to n_goal n_reach n_branches n_branch n_tally x_n)), (n_kind, .inl (kI, 12, .inl f_n_kind)), (n_from, .inl (kI, 20, .inl f_n_from)), (n_to, .inl (kI, 20, .inl f_n_to)), (n_goal, .inl (kI, 3, .inl f_n_goal)), (n_reach, .inl (kI, 12, .inl f_n_reach)), (n_branches, .inl (kI, 36, .inl f_n_branches)), (n_branch, .inl (kI, 144, .inl f_n_branch))])) (va_Qv (fun (_ : Unit) => True) (fun _ t => ∃ (f_n_reach' : Nat → Int32) (f_n_branches' : Nat → Int32) (f_n_branch' : Nat → Int32), fI (fun _ => 0) (fun _ => 4) f_n_branches' ∧ fI (fun _ => 0) (fun _ => 19) f_n_branch' ∧ (TabC x_n f_n_from f_n_to f_n_goal f_n_reach' f_n_branches' f_n_branch') ∧ va_P (dC, dI) vwCl [(on, .inr (2, oX2 n_kind n_salt n_pace n_manner n_from n_to n_goal n_reach n_branches n_branch n_tally x_n)), (n_kind, .inl (kI, 12, .inl f_n_kind)), (n_from, .inl (kI, 20, .inl f_n_from)), (n_to, .inl (kI, 20, .inl f_n_to)), (n_goal, .inl (kI, 3, .inl f_n_goal)), (n_reach, .inl (kI, 12, .inl f_n_reach')), (n_branches, .inl (kI, 36, .inl f_n_branches')), (n_branch, .inl (kI, 144, .inl f_n_branch'))] t.heap ∧ va_D (va_A [(on, .inr (2, oX2 n_kind n_salt n_pace n_manner n_from n_to n_goal n_reach n_branches n_branch n_tally x_n)), (n_kind, .inl (kI, 12, .inl f_n_kind)), (n_from, .inl (kI, 20, .inl f_n_from)), (n_to, .inl (kI, 20, .inl f_n_to)), (n_goal, .inl (kI, 3, .inl f_n_goal)), (n_reach, .inl (kI, 12, .inl f_n_reach)), (n_branches, .inl (kI, 36, .inl f_n_branches)), (n_branch, .inl (kI, 144, .inl f_n_branch))] sz) [(on, .inr (2, oX2 n_kind n_salt n_pace n_manner n_from n_to n_goal n_reach n_branches n_branch n_tally x_n)), (n_kind, .inl (kI, 12, .inl f_n_kind)), (n_from, .inl (kI, 20, .inl f_n_from)), (n_to, .inl (kI, 20, .inl f_n_to)), (n_goal, .inl (kI, 3, .inl f_n_goal)), (n_reach, .inl (kI, 12, .inl f_n_reach')), (n_branches, .inl (kI, 36, .inl f_n_branches')), (n_branch, .inl (kI, 144, .inl f_n_branch'))]) (va_A [(on, .inr (2, oX2 n_kind n_salt n_pace n_manner n_from n_to n_goal n_reach n_branches n_branch n_tally x_n)), (n_kind, .inl (kI, 12, .inl f_n_kind)), (n_from, .inl (kI, 20, .inl f_n_from)), (n_to, .inl (kI, 20, .inl f_n_to)), (n_goal, .inl (kI, 3, .inl f_n_goal)), (n_reach, .inl (kI, 12, .inl f_n_reach)), (n_branches, .inl (kI, 36, .inl f_n_branches)), (n_branch, .inl (kI, 144, .inl f_n_branch))] sz)) 0 0 (va_A [(on, .inr (2, oX2 n_kind n_salt n_pace n_manner n_from n_to n_goal n_reach n_branches n_branch n_tally x_n)), (n_kind, .inl (kI, 12, .inl f_n_kind)), (n_from, .inl (kI, 20, .inl f_n_from)), (n_to, .inl (kI, 20, .inl f_n_to)), (n_goal, .inl (kI, 3, .inl f_n_goal)), (n_reach, .inl (kI, 12, .inl f_n_reach)), (n_branches, .inl (kI, 36, .inl f_n_branches)), (n_branch, .inl (kI, 144, .inl f_n_branch))] sz) := by
  refine Met.ofW (cc := cX2_findBranches) (maxL := 3) (ret := none) (by decide) rfl ?_
  intro p e s m args0 below meth c s₁ B hml hv
  obtain ⟨hargs, hsz, hP, hE, hD0⟩ := hv
  have hx := B.exec
  have hb := B.bytes
  have hr := B.returns
  have hts := atoms_spec (ws := wsX2_findBranches) B.pre
  have hown : s.vm.findClass RX2 = some m.cls := findClass_of_methodNamed B.named
  have hlocks := B.notSynchronized
  have hK := hE.1
  have hin2 : ∀ w ∈ wsX20, w ∈ wsX2_findBranches := fun _ h9 => List.mem_cons_of_mem _ (List.mem_append_right _ h9)
  have hw_0 := hts (.fieldLink RX2 37 "PathProber$Net" "links" "I") (List.mem_of_getElem? (i := 4) rfl)
  have hw_1 := hts (.fieldLink RX2 27 "PathProber$Net" "to" "[I") (List.mem_of_getElem? (i := 5) rfl)
  have hw_2 := hts (.fieldLink RX2 30 "PathProber$Net" "goal" "[I") (List.mem_of_getElem? (i := 6) rfl)
  have hw_3 := hts (.fieldLink RX2 24 "PathProber$Net" "from" "[I") (List.mem_of_getElem? (i := 7) rfl)
  have hw_4 := hts (.fieldLink RX2 33 "PathProber$Net" "routers" "I") (List.mem_of_getElem? (i := 2) rfl)
  have hw_5 := hts (.fieldLink RX2 49 "PathProber$Net" "branches" "[I") (List.mem_of_getElem? (i := 3) rfl)
  have hw_6 := hts (.fieldLink RX2 40 "PathProber$Net" "goals" "I") (List.mem_of_getElem? (i := 1) rfl)
  subst hsz
  have hD := hD0.self (sz := s.heap.size)
  generalize hAe : va_A [(on, .inr (2, oX2 n_kind n_salt n_pace n_manner n_from n_to n_goal n_reach n_branches n_branch n_tally x_n)), (n_kind, .inl (kI, 12, .inl f_n_kind)), (n_from, .inl (kI, 20, .inl f_n_from)), (n_to, .inl (kI, 20, .inl f_n_to)), (n_goal, .inl (kI, 3, .inl f_n_goal)), (n_reach, .inl (kI, 12, .inl f_n_reach)), (n_branches, .inl (kI, 36, .inl f_n_branches)), (n_branch, .inl (kI, 144, .inl f_n_branch))] s.heap.size = A at hD ⊢
  have hA : ∀ q : Nat, s.heap.size ≤ q → A q := fun q h => by rw [← hAe]; exact Or.inr h
  have hS : va_S A s.heap s.heap [] := va_S.rf
  have hP : va_P (dC, dI) vwCl [(on, .inr (2, oX2 n_kind n_salt n_pace n_manner n_from n_to n_goal n_reach n_branches n_branch n_tally x_n)), (n_kind, .inl (kI, 12, .inl f_n_kind)), (n_from, .inl (kI, 20, .inl f_n_from)), (n_to, .inl (kI, 20, .inl f_n_to)), (n_goal, .inl (kI, 3, .inl f_n_goal)), (n_reach, .inl (kI, 12, .inl f_n_reach)), (n_branches, .inl (kI, 36, .inl f_n_branches)), (n_branch, .inl (kI, 144, .inl f_n_branch))] s.heap := hP
  have hl := lv_entry ([.ref on]) (n := 3) (Nat.le_of_ble_eq_true rfl)
  have hla : entryFrame m args0 3 = entryFrame m ([.ref on] : List Value).toArray 3 := by rw [hargs]
  rw [hla, lg_entry_eq]
  generalize (lg_sl ([.ref on]) ++ List.replicate (3 - (lg_sl ([.ref on])).length) Slot.unset).toArray = ls at hl ⊢
  have hl : lv_has ls 3 [(0, .ref on)] := hl
  have hJ6 : ∀ (n : Nat) (g6_5 : Nat → Int32) (g6_6 : Nat → Int32) (g6_7 : Nat → Int32) (v6_loc1 : Int32) (H : Heap) (locs : List Loc) (ls : Array Slot), (3 - v6_loc1.toInt).toNat < n → fI (fun _ => 0) (fun _ => 4) g6_6 → fI (fun _ => 0) (fun _ => 19) g6_7 → iv 0 3 v6_loc1 → (BF16 (nF f_n_from) (nF f_n_to) (nF f_n_goal) (x_n 1).toNatClampNeg (x_n 0).toNatClampNeg g6_5 g6_6 g6_7 v6_loc1.toNatClampNeg 0) → va_P (dC, dI) vwCl [(on, .inr (2, oX2 n_kind n_salt n_pace n_manner n_from n_to n_goal n_reach n_branches n_branch n_tally x_n)), (n_kind, .inl (kI, 12, .inl f_n_kind)), (n_from, .inl (kI, 20, .inl f_n_from)), (n_to, .inl (kI, 20, .inl f_n_to)), (n_goal, .inl (kI, 3, .inl f_n_goal)), (n_reach, .inl (kI, 12, .inl g6_5)), (n_branches, .inl (kI, 36, .inl g6_6)), (n_branch, .inl (kI, 144, .inl g6_7))] H → va_D A [(on, .inr (2, oX2 n_kind n_salt n_pace n_manner n_from n_to n_goal n_reach n_branches n_branch n_tally x_n)), (n_kind, .inl (kI, 12, .inl f_n_kind)), (n_from, .inl (kI, 20, .inl f_n_from)), (n_to, .inl (kI, 20, .inl f_n_to)), (n_goal, .inl (kI, 3, .inl f_n_goal)), (n_reach, .inl (kI, 12, .inl g6_5)), (n_branches, .inl (kI, 36, .inl g6_6)), (n_branch, .inl (kI, 144, .inl g6_7))] → va_S A s.heap H locs → lv_has ls 3 [(0, .ref on), (1, .int v6_loc1)] → W p l e (headSpec wsX2_findBranches rm_s2_findBranches_x).room s m args0 below meth c H locs (0) (0) (MQ below (va_Qv (fun (_ : Unit) => True) (fun _ t => ∃ (f_n_reach' : Nat → Int32) (f_n_branches' : Nat → Int32) (f_n_branch' : Nat → Int32), fI (fun _ => 0) (fun _ => 4) f_n_branches' ∧ fI (fun _ => 0) (fun _ => 19) f_n_branch' ∧ (TabC x_n f_n_from f_n_to f_n_goal f_n_reach' f_n_branches' f_n_branch') ∧ va_P (dC, dI) vwCl [(on, .inr (2, oX2 n_kind n_salt n_pace n_manner n_from n_to n_goal n_reach n_branches n_branch n_tally x_n)), (n_kind, .inl (kI, 12, .inl f_n_kind)), (n_from, .inl (kI, 20, .inl f_n_from)), (n_to, .inl (kI, 20, .inl f_n_to)), (n_goal, .inl (kI, 3, .inl f_n_goal)), (n_reach, .inl (kI, 12, .inl f_n_reach')), (n_branches, .inl (kI, 36, .inl f_n_branches')), (n_branch, .inl (kI, 144, .inl f_n_branch'))] t.heap ∧ va_D A [(on, .inr (2, oX2 n_kind n_salt n_pace n_manner n_from n_to n_goal n_reach n_branches n_branch n_tally x_n)), (n_kind, .inl (kI, 12, .inl f_n_kind)), (n_from, .inl (kI, 20, .inl f_n_from)), (n_to, .inl (kI, 20, .inl f_n_to)), (n_goal, .inl (kI, 3, .inl f_n_goal)), (n_reach, .inl (kI, 12, .inl f_n_reach')), (n_branches, .inl (kI, 36, .inl f_n_branches')), (n_branch, .inl (kI, 144, .inl f_n_branch'))]) A) args0 s 0 0 A) (F0 m 6 ls []) := by
    intro n
    induction n with
    | zero => intro g6_5 g6_6 g6_7 v6_loc1 H locs ls hm6; exact absurd hm6 (Nat.not_lt_zero _)
    | succ n ih6 =>
      intro g6_5 g6_6 g6_7 v6_loc1 H locs ls hm6 hI6_6 hI6_7 h6_3 hb6_6 hP hD hS hl
      have hJ44 : ∀ (n : Nat) (g44_6 : Nat → Int32) (g44_7 : Nat → Int32) (v44_loc2 : Int32) (H : Heap) (locs : List Loc) (ls : Array Slot), (20 - v44_loc2.toInt).toNat < n → fI (fun _ => 0) (fun _ => 4) g44_6 → fI (fun _ => 0) (fun _ => 19) g44_7 → iv 0 2 v6_loc1 → iv 0 20 v44_loc2 → iv 1 3 (x_n 2) → (BF44 (nF f_n_from) (nF f_n_to) (nF f_n_goal) (x_n 1).toNatClampNeg (x_n 0).toNatClampNeg g6_5 g44_6 g44_7 v6_loc1.toNatClampNeg v44_loc2.toNatClampNeg) → va_P (dC, dI) vwCl [(on, .inr (2, oX2 n_kind n_salt n_pace n_manner n_from n_to n_goal n_reach n_branches n_branch n_tally x_n)), (n_kind, .inl (kI, 12, .inl f_n_kind)), (n_from, .inl (kI, 20, .inl f_n_from)), (n_to, .inl (kI, 20, .inl f_n_to)), (n_goal, .inl (kI, 3, .inl f_n_goal)), (n_reach, .inl (kI, 12, .inl g6_5)), (n_branches, .inl (kI, 36, .inl g44_6)), (n_branch, .inl (kI, 144, .inl g44_7))] H → va_D A [(on, .inr (2, oX2 n_kind n_salt n_pace n_manner n_from n_to n_goal n_reach n_branches n_branch n_tally x_n)), (n_kind, .inl (kI, 12, .inl f_n_kind)), (n_from, .inl (kI, 20, .inl f_n_from)), (n_to, .inl (kI, 20, .inl f_n_to)), (n_goal, .inl (kI, 3, .inl f_n_goal)), (n_reach, .inl (kI, 12, .inl g6_5)), (n_branches, .inl (kI, 36, .inl g44_6)), (n_branch, .inl (kI, 144, .inl g44_7))] → va_S A s.heap H locs → lv_has ls 3 [(0, .ref on), (1, .int v6_loc1), (2, .int v44_loc2)] → W p l e (headSpec wsX2_findBranches rm_s2_findBranches_x).room s m args0 below meth c H locs (0) (0) (MQ below (va_Qv (fun (_ : Unit) => True) (fun _ t => ∃ (f_n_reach' : Nat → Int32) (f_n_branches' : Nat → Int32) (f_n_branch' : Nat → Int32), fI (fun _ => 0) (fun _ => 4) f_n_branches' ∧ fI (fun _ => 0) (fun _ => 19) f_n_branch' ∧ (TabC x_n f_n_from f_n_to f_n_goal f_n_reach' f_n_branches' f_n_branch') ∧ va_P (dC, dI) vwCl [(on, .inr (2, oX2 n_kind n_salt n_pace n_manner n_from n_to n_goal n_reach n_branches n_branch n_tally x_n)), (n_kind, .inl (kI, 12, .inl f_n_kind)), (n_from, .inl (kI, 20, .inl f_n_from)), (n_to, .inl (kI, 20, .inl f_n_to)), (n_goal, .inl (kI, 3, .inl f_n_goal)), (n_reach, .inl (kI, 12, .inl f_n_reach')), (n_branches, .inl (kI, 36, .inl f_n_branches')), (n_branch, .inl (kI, 144, .inl f_n_branch'))] t.heap ∧ va_D A [(on, .inr (2, oX2 n_kind n_salt n_pace n_manner n_from n_to n_goal n_reach n_branches n_branch n_tally x_n)), (n_kind, .inl (kI, 12, .inl f_n_kind)), (n_from, .inl (kI, 20, .inl f_n_from)), (n_to, .inl (kI, 20, .inl f_n_to)), (n_goal, .inl (kI, 3, .inl f_n_goal)), (n_reach, .inl (kI, 12, .inl f_n_reach')), (n_branches, .inl (kI, 36, .inl f_n_branches')), (n_branch, .inl (kI, 144, .inl f_n_branch'))]) A) args0 s 0 0 A) (F0 m 44 ls []) := by
        intro n
        induction n with
        | zero => intro g44_6 g44_7 v44_loc2 H locs ls hm44; exact absurd hm44 (Nat.not_lt_zero _)
        | succ n ih44 =>
          intro g44_6 g44_7 v44_loc2 H locs ls hm44 hI44_6 hI44_7 h44_3 h44_4 h44_5 hb44_44 hP hD hS hl
          refine lv_iload_n hx hb dX2_findBranches_44 rfl (lv_at hl 2 rfl) ?_
          refine lv_aload_n hx hb dX2_findBranches_45 rfl (lv_at hl 0 rfl) ?_
          refine va_get (D := (dC, dI)) (ci := 2) (v := .int (x_n 1)) (C := RX2) (T := TX2) (N := 15) hx hb hts hin2 hown hK hP 0 rfl rfl 8 (Nat.le_of_ble_eq_true rfl) hw_0 (fun _ h9 => h9) rfl dX2_findBranches_46 ?_
          refine lv_icmp_ge (tgt := 93) hx hb dX2_findBranches_49 rfl (fun c1 => ?_) (fun c1 => ?_)
          · refine lv_iinc (v := v6_loc1 + Int32.ofInt 1) (lv' := [(1, .int (v6_loc1 + Int32.ofInt 1)), (0, .ref on), (2, .int v44_loc2)]) hx hb dX2_findBranches_93 hl (k := 1) rfl (rfl) (Nat.le_of_ble_eq_true rfl) rfl (fun ls hl => ?_)
            have b2 : iv 1 3 (v6_loc1 + Int32.ofInt 1) := iv_add h44_3 ivo_1 (by decide) (by decide) (by decide) (by decide)
            refine lv_goto (tgt := 6) hx hb dX2_findBranches_96 rfl ?_
            exact ih6 g6_5 g44_6 g44_7 (v6_loc1 + Int32.ofInt 1) _ _ _ (ms_up (c := 1) (d := 0) h44_3 hm6 (by decide) (iv_inc 1 h44_3 (by decide) (by decide) (by decide) (by decide)) (by decide) rfl) (hI44_6) (hI44_7) ((iv_w b2 (by decide) (by decide))) ((show BF16 (nF f_n_from) (nF f_n_to) (nF f_n_goal) (x_n 1).toNatClampNeg (x_n 0).toNatClampNeg g6_5 g44_6 g44_7 (v6_loc1 + Int32.ofInt 1).toNatClampNeg 0 from bf_6i hb44_44 h44_3 h44_4 ((hx_n 1 : iv 0 20 (x_n 1)) : iv 0 20 (x_n 1)) c1)) (hP) (hD) hS (lv_sub hl [1, 0] rfl)
          · have b3 : iv 0 19 v44_loc2 := iv_ltL (Int32.not_le.mp c1) h44_4 (hx_n 1 : iv 0 20 (x_n 1)) (by decide) (by decide)
            have b4 : iv 1 20 (x_n 1) := iv_ltR (Int32.not_le.mp c1) h44_4 (hx_n 1 : iv 0 20 (x_n 1)) (by decide) (by decide)
            refine lv_aload_n hx hb dX2_findBranches_52 rfl (lv_at hl 0 rfl) ?_
            refine lv_aload_n hx hb dX2_findBranches_53 rfl (lv_at hl 0 rfl) ?_
            refine va_get (D := (dC, dI)) (ci := 2) (v := .ref n_to) (C := RX2) (T := TX2) (N := 15) hx hb hts hin2 hown hK hP 0 rfl rfl 5 (Nat.le_of_ble_eq_true rfl) hw_1 (fun _ h9 => h9) rfl dX2_findBranches_54 ?_
            refine lv_iload_n hx hb dX2_findBranches_57 rfl (lv_at hl 2 rfl) ?_
            refine va_iald hx hb hK hP 3 1 rfl rfl (iv_in b3 (by decide) (by decide)) dX2_findBranches_58 ?_
            have b5 : iv 0 11 (f_n_to v44_loc2.toNatClampNeg) := hf_n_to _
            refine lv_aload_n hx hb dX2_findBranches_59 rfl (lv_at hl 0 rfl) ?_
            refine va_get (D := (dC, dI)) (ci := 2) (v := .ref n_goal) (C := RX2) (T := TX2) (N := 15) hx hb hts hin2 hown hK hP 0 rfl rfl 6 (Nat.le_of_ble_eq_true rfl) hw_2 (fun _ h9 => h9) rfl dX2_findBranches_60 ?_
            refine lv_iload_n hx hb dX2_findBranches_63 rfl (lv_at hl 1 rfl) ?_
            refine va_iald hx hb hK hP 4 1 rfl rfl (iv_in h44_3 (by decide) (by decide)) dX2_findBranches_64 ?_
            have b6 : iv 0 11 (f_n_goal v6_loc1.toNatClampNeg) := hf_n_goal _
            obtain ⟨hPc, hDc, hFc, hJn⟩ := cl_a (wc := [(on, .inr (2, oX2 n_kind n_salt n_pace n_manner n_from n_to n_goal n_reach n_branches n_branch n_tally x_n)), (n_reach, .inl (kI, 12, .inl g6_5))]) (wr := [(n_kind, .inl (kI, 12, .inl f_n_kind)), (n_from, .inl (kI, 20, .inl f_n_from)), (n_to, .inl (kI, 20, .inl f_n_to)), (n_goal, .inl (kI, 3, .inl f_n_goal)), (n_branches, .inl (kI, 36, .inl g44_6)), (n_branch, .inl (kI, 144, .inl g44_7))]) hP hD hS hA [0, 5] [1, 2, 3, 4, 6, 7] rfl rfl (by decide +kernel)
            refine va_calli (va_runV (As := [.int (f_n_to v44_loc2.toNatClampNeg), .int (f_n_goal v6_loc1.toNatClampNeg)]) (rest := []) ⟨hx, hb, hml, hown, hts⟩ (s2_comesTo_x l dC dI kB kI kJ kZ kC kS H.size on n_kind n_salt n_pace n_manner n_from n_to n_goal n_reach n_branches n_branch n_tally x_n g6_5 (f_n_to v44_loc2.toNatClampNeg) (f_n_goal v6_loc1.toNatClampNeg) (hx_n) (b5) (b6)) (cwV 2 hts gX2_findBranches_X2_comesTo rfl rfl rfl (by decide +kernel) ⟨Nat.le_of_ble_eq_true rfl, Nat.le_of_ble_eq_true rfl⟩) ⟨fun a U g mk q => by obtain ⟨q0, q1, qP, qE, qD⟩ := q; exact ⟨q0, q1, qP, kE_call qE, qD⟩, va_recv hK hP (ci := 2) (q0 := 0) rfl rfl, fun U hU hW => ⟨rfl, by rw [hU], by rw [hU]; exact hPc, kE_warm hW hE, hDc.weaken (fun _ _ _ _ => trivial)⟩⟩ rfl rfl hl.1 rfl (lv_room (Nat.le_of_ble_eq_true rfl)) dX2_findBranches_65 ⟨Nat.le_of_ble_eq_true rfl, Nat.le_of_ble_eq_true rfl⟩) hS (fun q _ h => hFc q h) hFc (fun r7 u t H locs ht hvm w8 hB hz1 hk1 hS => ?_)
            obtain ⟨hP1, hD1⟩ := hB
            try dsimp only at w8
            obtain ⟨hPa, hDa⟩ := hJn (w1 := [(on, .inr (2, oX2 n_kind n_salt n_pace n_manner n_from n_to n_goal n_reach n_branches n_branch n_tally x_n)), (n_reach, .inl (kI, 12, .inl g6_5))]) hk1 ht hP1 hD1
            clear hP hD hPc hDc hFc hJn hP1 hD1 hk1
            have hP : va_P (dC, dI) vwCl [(n_kind, .inl (kI, 12, .inl f_n_kind)), (n_from, .inl (kI, 20, .inl f_n_from)), (n_to, .inl (kI, 20, .inl f_n_to)), (n_goal, .inl (kI, 3, .inl f_n_goal)), (n_branches, .inl (kI, 36, .inl g44_6)), (n_branch, .inl (kI, 144, .inl g44_7)), (on, .inr (2, oX2 n_kind n_salt n_pace n_manner n_from n_to n_goal n_reach n_branches n_branch n_tally x_n)), (n_reach, .inl (kI, 12, .inl g6_5))] H := hPa
            have hD : va_D A [(n_kind, .inl (kI, 12, .inl f_n_kind)), (n_from, .inl (kI, 20, .inl f_n_from)), (n_to, .inl (kI, 20, .inl f_n_to)), (n_goal, .inl (kI, 3, .inl f_n_goal)), (n_branches, .inl (kI, 36, .inl g44_6)), (n_branch, .inl (kI, 144, .inl g44_7)), (on, .inr (2, oX2 n_kind n_salt n_pace n_manner n_from n_to n_goal n_reach n_branches n_branch n_tally x_n)), (n_reach, .inl (kI, 12, .inl g6_5))] := hDa
            clear hPa hDa
            refine W.widen (k := 0) (n := 0) (Nat.le_of_ble_eq_true rfl) (Nat.le_of_ble_eq_true rfl) ?_
            refine lv_if_eq (tgt := 87) hx hb dX2_findBranches_68 rfl (fun c9 => ?_) (fun c9 => ?_)
            · have b10 : iv 0 0 r7 := iv_eqL c9 ivk_0
              refine lv_iinc (v := v44_loc2 + Int32.ofInt 1) (lv' := [(2, .int (v44_loc2 + Int32.ofInt 1)), (0, .ref on), (1, .int v6_loc1)]) hx hb dX2_findBranches_87 hl (k := 2) rfl (rfl) (Nat.le_of_ble_eq_true rfl) rfl (fun ls hl => ?_)
              have b11 : iv 1 20 (v44_loc2 + Int32.ofInt 1) := iv_add b3 ivo_1 (by decide) (by decide) (by decide) (by decide)
              refine lv_goto (tgt := 44) hx hb dX2_findBranches_90 rfl ?_
              have hPD9 := cl_s (wc := [(on, .inr (2, oX2 n_kind n_salt n_pace n_manner n_from n_to n_goal n_reach n_branches n_branch n_tally x_n)), (n_kind, .inl (kI, 12, .inl f_n_kind)), (n_from, .inl (kI, 20, .inl f_n_from)), (n_to, .inl (kI, 20, .inl f_n_to)), (n_goal, .inl (kI, 3, .inl f_n_goal)), (n_reach, .inl (kI, 12, .inl g6_5)), (n_branches, .inl (kI, 36, .inl g44_6)), (n_branch, .inl (kI, 144, .inl g44_7))]) hP hD [6, 0, 1, 2, 3, 7, 4, 5] rfl (by decide +kernel)
              exact ih44 g44_6 g44_7 (v44_loc2 + Int32.ofInt 1) _ _ _ (ms_up (c := 1) (d := 0) b3 hm44 (by decide) (iv_inc 1 b3 (by decide) (by decide) (by decide) (by decide)) (by decide) rfl) (hI44_6) (hI44_7) (h44_3) ((iv_w b11 (by decide) (by decide))) (h44_5) ((show BF44 (nF f_n_from) (nF f_n_to) (nF f_n_goal) (x_n 1).toNatClampNeg (x_n 0).toNatClampNeg g6_5 g44_6 g44_7 v6_loc1.toNatClampNeg (v44_loc2 + Int32.ofInt 1).toNatClampNeg from bf_44u hb44_44 hWF ((iv_w b4 (by decide) (by decide)) : iv 0 20 (x_n 1)) b3 (Int32.not_le.mp c1) (hf_n_goal v6_loc1.toNatClampNeg) (ib_n w8.2 c9))) (hPD9.1) (hPD9.2) hS (lv_sub hl [1, 2, 0] rfl)
            · have b12 : iv 1 1 r7 := iv_neLo c9 w8.1 ivk_0 (by decide) (by decide)
              refine lv_aload_n hx hb dX2_findBranches_71 rfl (lv_at hl 0 rfl) ?_
              refine lv_iload_n hx hb dX2_findBranches_72 rfl (lv_at hl 1 rfl) ?_
              refine lv_bipush (v := 12) hx hb dX2_findBranches_73 bp_12 ?_
              refine lv_imul hx hb dX2_findBranches_75 ?_
              have b13 : iv 0 24 (v6_loc1 * 12) := iv_mul h44_3 ivk_12 (by decide) (by decide) (by decide) (by decide) (by decide)
              refine lv_aload_n hx hb dX2_findBranches_76 rfl (lv_at hl 0 rfl) ?_
              refine va_get (D := (dC, dI)) (ci := 2) (v := .ref n_from) (C := RX2) (T := TX2) (N := 15) hx hb hts hin2 hown hK hP 6 rfl rfl 4 (Nat.le_of_ble_eq_true rfl) hw_3 (fun _ h9 => h9) rfl dX2_findBranches_77 ?_
              refine lv_iload_n hx hb dX2_findBranches_80 rfl (lv_at hl 2 rfl) ?_
              refine va_iald hx hb hK hP 1 1 rfl rfl (iv_in b3 (by decide) (by decide)) dX2_findBranches_81 ?_
              have b14 : iv 0 11 (f_n_from v44_loc2.toNatClampNeg) := hf_n_from _
              refine lv_iadd hx hb dX2_findBranches_82 ?_
              have b15 : iv 0 35 ((v6_loc1 * 12) + (f_n_from v44_loc2.toNatClampNeg)) := iv_add b13 b14 (by decide) (by decide) (by decide) (by decide)
              refine lv_iload_n hx hb dX2_findBranches_83 rfl (lv_at hl 2 rfl) ?_
              obtain ⟨hPc, hDc, hFc, hJn⟩ := cl_a (wc := [(on, .inr (2, oX2 n_kind n_salt n_pace n_manner n_from n_to n_goal n_reach n_branches n_branch n_tally x_n)), (n_branches, .inl (kI, 36, .inl g44_6)), (n_branch, .inl (kI, 144, .inl g44_7))]) (wr := [(n_kind, .inl (kI, 12, .inl f_n_kind)), (n_from, .inl (kI, 20, .inl f_n_from)), (n_to, .inl (kI, 20, .inl f_n_to)), (n_goal, .inl (kI, 3, .inl f_n_goal)), (n_reach, .inl (kI, 12, .inl g6_5))]) hP hD hS hA [6, 4, 5] [0, 1, 2, 3, 7] rfl rfl (by decide +kernel)
              refine va_callv (va_runV (As := [.int ((v6_loc1 * 12) + (f_n_from v44_loc2.toNatClampNeg)), .int v44_loc2]) (rest := []) ⟨hx, hb, hml, hown, hts⟩ (s2_addBranch_x l dC dI kB kI kJ kZ kC kS H.size on n_kind n_salt n_pace n_manner n_from n_to n_goal n_reach n_branches n_branch n_tally x_n g44_6 g44_7 ((v6_loc1 * 12) + (f_n_from v44_loc2.toNatClampNeg)) v44_loc2 (hx_n) (hI44_6) (hI44_7) (b15) (b3) (bf_b3 hb44_44 hWF ((iv_w b4 (by decide) (by decide)) : iv 0 20 (x_n 1)) b3 (Int32.not_le.mp c1) h44_3 b14 (hf_n_goal v6_loc1.toNatClampNeg) (ib_y w8.2 c9))) (cwV 2 hts gX2_findBranches_X2_addBranch rfl rfl rfl (by decide +kernel) ⟨Nat.le_of_ble_eq_true rfl, Nat.le_of_ble_eq_true rfl⟩) ⟨fun a U g mk q => by obtain ⟨q0, q1, qP, qE, qD⟩ := q; exact ⟨q0, q1, qP, kE_call qE, qD⟩, va_recv hK hP (ci := 2) (q0 := 6) rfl rfl, fun U hU hW => ⟨rfl, by rw [hU], by rw [hU]; exact hPc, kE_warm hW hE, hDc.weaken (fun _ _ _ _ => trivial)⟩⟩ rfl rfl hl.1 rfl (lv_room (Nat.le_of_ble_eq_true rfl)) dX2_findBranches_84 ⟨Nat.le_of_ble_eq_true rfl, Nat.le_of_ble_eq_true rfl⟩) hS (fun q _ h => hFc q h) hFc (fun u t H locs ht hvm w17 hB hz1 hk1 hS => ?_)
              obtain ⟨f18, f19, hq20, hq21, hq22, hq23, hP1, hD1⟩ := hB
              try dsimp only at w17
              obtain ⟨hPa, hDa⟩ := hJn (w1 := [(on, .inr (2, oX2 n_kind n_salt n_pace n_manner n_from n_to n_goal n_reach n_branches n_branch n_tally x_n)), (n_branches, .inl (kI, 36, .inl f18)), (n_branch, .inl (kI, 144, .inl f19))]) hk1 ht hP1 hD1
              clear hP hD hPc hDc hFc hJn hP1 hD1 hk1
              have hP : va_P (dC, dI) vwCl [(n_kind, .inl (kI, 12, .inl f_n_kind)), (n_from, .inl (kI, 20, .inl f_n_from)), (n_to, .inl (kI, 20, .inl f_n_to)), (n_goal, .inl (kI, 3, .inl f_n_goal)), (n_reach, .inl (kI, 12, .inl g6_5)), (on, .inr (2, oX2 n_kind n_salt n_pace n_manner n_from n_to n_goal n_reach n_branches n_branch n_tally x_n)), (n_branches, .inl (kI, 36, .inl f18)), (n_branch, .inl (kI, 144, .inl f19))] H := hPa
              have hD : va_D A [(n_kind, .inl (kI, 12, .inl f_n_kind)), (n_from, .inl (kI, 20, .inl f_n_from)), (n_to, .inl (kI, 20, .inl f_n_to)), (n_goal, .inl (kI, 3, .inl f_n_goal)), (n_reach, .inl (kI, 12, .inl g6_5)), (on, .inr (2, oX2 n_kind n_salt n_pace n_manner n_from n_to n_goal n_reach n_branches n_branch n_tally x_n)), (n_branches, .inl (kI, 36, .inl f18)), (n_branch, .inl (kI, 144, .inl f19))] := hDa
              clear hPa hDa
              refine W.widen (k := 0) (n := 0) (Nat.le_of_ble_eq_true rfl) (Nat.le_of_ble_eq_true rfl) ?_
              refine lv_iinc (v := v44_loc2 + Int32.ofInt 1) (lv' := [(2, .int (v44_loc2 + Int32.ofInt 1)), (0, .ref on), (1, .int v6_loc1)]) hx hb dX2_findBranches_87 hl (k := 2) rfl (rfl) (Nat.le_of_ble_eq_true rfl) rfl (fun ls hl => ?_)
              have b24 : iv 1 20 (v44_loc2 + Int32.ofInt 1) := iv_add b3 ivo_1 (by decide) (by decide) (by decide) (by decide)
              refine lv_goto (tgt := 44) hx hb dX2_findBranches_90 rfl ?_
              have hPD9 := cl_s (wc := [(on, .inr (2, oX2 n_kind n_salt n_pace n_manner n_from n_to n_goal n_reach n_branches n_branch n_tally x_n)), (n_kind, .inl (kI, 12, .inl f_n_kind)), (n_from, .inl (kI, 20, .inl f_n_from)), (n_to, .inl (kI, 20, .inl f_n_to)), (n_goal, .inl (kI, 3, .inl f_n_goal)), (n_reach, .inl (kI, 12, .inl g6_5)), (n_branches, .inl (kI, 36, .inl f18)), (n_branch, .inl (kI, 144, .inl f19))]) hP hD [5, 0, 1, 2, 3, 4, 6, 7] rfl (by decide +kernel)
              exact ih44 f18 f19 (v44_loc2 + Int32.ofInt 1) _ _ _ (ms_up (c := 1) (d := 0) b3 hm44 (by decide) (iv_inc 1 b3 (by decide) (by decide) (by decide) (by decide)) (by decide) rfl) (hq20) (hq21) (h44_3) ((iv_w b24 (by decide) (by decide))) (h44_5) ((show BF44 (nF f_n_from) (nF f_n_to) (nF f_n_goal) (x_n 1).toNatClampNeg (x_n 0).toNatClampNeg g6_5 f18 f19 v6_loc1.toNatClampNeg (v44_loc2 + Int32.ofInt 1).toNatClampNeg from bf_44t hb44_44 hWF ((hx_n 0 : iv 0 12 (x_n 0)) : iv 0 12 (x_n 0)) ((iv_w b4 (by decide) (by decide)) : iv 0 20 (x_n 1)) b3 (Int32.not_le.mp c1) h44_3 b14 (hf_n_goal v6_loc1.toNatClampNeg) (ib_y w8.2 c9) hq22 hq23)) (hPD9.1) (hPD9.2) hS (lv_sub hl [1, 2, 0] rfl)
      have hJ16 : ∀ (n : Nat) (g16_6 : Nat → Int32) (v16_loc2 : Int32) (H : Heap) (locs : List Loc) (ls : Array Slot), (12 - v16_loc2.toInt).toNat < n → fI (fun _ => 0) (fun _ => 4) g16_6 → iv 0 2 v6_loc1 → iv 0 12 v16_loc2 → iv 1 3 (x_n 2) → (BF16 (nF f_n_from) (nF f_n_to) (nF f_n_goal) (x_n 1).toNatClampNeg (x_n 0).toNatClampNeg g6_5 g16_6 g6_7 v6_loc1.toNatClampNeg v16_loc2.toNatClampNeg) → va_P (dC, dI) vwCl [(on, .inr (2, oX2 n_kind n_salt n_pace n_manner n_from n_to n_goal n_reach n_branches n_branch n_tally x_n)), (n_kind, .inl (kI, 12, .inl f_n_kind)), (n_from, .inl (kI, 20, .inl f_n_from)), (n_to, .inl (kI, 20, .inl f_n_to)), (n_goal, .inl (kI, 3, .inl f_n_goal)), (n_reach, .inl (kI, 12, .inl g6_5)), (n_branches, .inl (kI, 36, .inl g16_6)), (n_branch, .inl (kI, 144, .inl g6_7))] H → va_D A [(on, .inr (2, oX2 n_kind n_salt n_pace n_manner n_from n_to n_goal n_reach n_branches n_branch n_tally x_n)), (n_kind, .inl (kI, 12, .inl f_n_kind)), (n_from, .inl (kI, 20, .inl f_n_from)), (n_to, .inl (kI, 20, .inl f_n_to)), (n_goal, .inl (kI, 3, .inl f_n_goal)), (n_reach, .inl (kI, 12, .inl g6_5)), (n_branches, .inl (kI, 36, .inl g16_6)), (n_branch, .inl (kI, 144, .inl g6_7))] → va_S A s.heap H locs → lv_has ls 3 [(0, .ref on), (1, .int v6_loc1), (2, .int v16_loc2)] → W p l e (headSpec wsX2_findBranches rm_s2_findBranches_x).room s m args0 below meth c H locs (0) (0) (MQ below (va_Qv (fun (_ : Unit) => True) (fun _ t => ∃ (f_n_reach' : Nat → Int32) (f_n_branches' : Nat → Int32) (f_n_branch' : Nat → Int32), fI (fun _ => 0) (fun _ => 4) f_n_branches' ∧ fI (fun _ => 0) (fun _ => 19) f_n_branch' ∧ (TabC x_n f_n_from f_n_to f_n_goal f_n_reach' f_n_branches' f_n_branch') ∧ va_P (dC, dI) vwCl [(on, .inr (2, oX2 n_kind n_salt n_pace n_manner n_from n_to n_goal n_reach n_branches n_branch n_tally x_n)), (n_kind, .inl (kI, 12, .inl f_n_kind)), (n_from, .inl (kI, 20, .inl f_n_from)), (n_to, .inl (kI, 20, .inl f_n_to)), (n_goal, .inl (kI, 3, .inl f_n_goal)), (n_reach, .inl (kI, 12, .inl f_n_reach')), (n_branches, .inl (kI, 36, .inl f_n_branches')), (n_branch, .inl (kI, 144, .inl f_n_branch'))] t.heap ∧ va_D A [(on, .inr (2, oX2 n_kind n_salt n_pace n_manner n_from n_to n_goal n_reach n_branches n_branch n_tally x_n)), (n_kind, .inl (kI, 12, .inl f_n_kind)), (n_from, .inl (kI, 20, .inl f_n_from)), (n_to, .inl (kI, 20, .inl f_n_to)), (n_goal, .inl (kI, 3, .inl f_n_goal)), (n_reach, .inl (kI, 12, .inl f_n_reach')), (n_branches, .inl (kI, 36, .inl f_n_branches')), (n_branch, .inl (kI, 144, .inl f_n_branch'))]) A) args0 s 0 0 A) (F0 m 16 ls []) := by
        intro n
        induction n with
        | zero => intro g16_6 v16_loc2 H locs ls hm16; exact absurd hm16 (Nat.not_lt_zero _)
        | succ n ih16 =>
          intro g16_6 v16_loc2 H locs ls hm16 hI16_6 h16_2 h16_3 h16_4 hb16_16 hP hD hS hl
          refine lv_iload_n hx hb dX2_findBranches_16 rfl (lv_at hl 2 rfl) ?_
          refine lv_aload_n hx hb dX2_findBranches_17 rfl (lv_at hl 0 rfl) ?_
          refine va_get (D := (dC, dI)) (ci := 2) (v := .int (x_n 0)) (C := RX2) (T := TX2) (N := 15) hx hb hts hin2 hown hK hP 0 rfl rfl 7 (Nat.le_of_ble_eq_true rfl) hw_4 (fun _ h9 => h9) rfl dX2_findBranches_18 ?_
          refine lv_icmp_ge (tgt := 42) hx hb dX2_findBranches_21 rfl (fun c25 => ?_) (fun c25 => ?_)
          · refine lv_iconst (v := 0) hx hb dX2_findBranches_42 ic_0 ?_
            refine lv_istore_n (lv' := [(2, .int 0), (0, .ref on), (1, .int v6_loc1)]) hx hb dX2_findBranches_43 rfl hl (Nat.le_of_ble_eq_true rfl) rfl (fun ls hl => ?_)
            exact hJ44 _ g16_6 g6_7 0 _ _ _ (Nat.lt_succ_self _) (hI16_6) (hI6_7) (h16_2) ((iv_w ivk_0 (by decide) (by decide))) (h16_4) ((show BF44 (nF f_n_from) (nF f_n_to) (nF f_n_goal) (x_n 1).toNatClampNeg (x_n 0).toNatClampNeg g6_5 g16_6 g6_7 v6_loc1.toNatClampNeg ((0 : Int32)).toNatClampNeg from bf_44j hb16_16 h16_3 ((hx_n 0 : iv 0 12 (x_n 0)) : iv 0 12 (x_n 0)) c25)) (hP) (hD) hS (lv_sub hl [1, 2, 0] rfl)
          · have b26 : iv 0 11 v16_loc2 := iv_ltL (Int32.not_le.mp c25) h16_3 (hx_n 0 : iv 0 12 (x_n 0)) (by decide) (by decide)
            have b27 : iv 1 12 (x_n 0) := iv_ltR (Int32.not_le.mp c25) h16_3 (hx_n 0 : iv 0 12 (x_n 0)) (by decide) (by decide)
            refine lv_aload_n hx hb dX2_findBranches_24 rfl (lv_at hl 0 rfl) ?_
            refine va_get (D := (dC, dI)) (ci := 2) (v := .ref n_branches) (C := RX2) (T := TX2) (N := 15) hx hb hts hin2 hown hK hP 0 rfl rfl 12 (Nat.le_of_ble_eq_true rfl) hw_5 (fun _ h9 => h9) rfl dX2_findBranches_25 ?_
            refine lv_iload_n hx hb dX2_findBranches_28 rfl (lv_at hl 1 rfl) ?_
            refine lv_bipush (v := 12) hx hb dX2_findBranches_29 bp_12 ?_
            refine lv_imul hx hb dX2_findBranches_31 ?_
            have b28 : iv 0 24 (v6_loc1 * 12) := iv_mul h16_2 ivk_12 (by decide) (by decide) (by decide) (by decide) (by decide)
            refine lv_iload_n hx hb dX2_findBranches_32 rfl (lv_at hl 2 rfl) ?_
            refine lv_iadd hx hb dX2_findBranches_33 ?_
            have b29 : iv 0 35 ((v6_loc1 * 12) + v16_loc2) := iv_add b28 b26 (by decide) (by decide) (by decide) (by decide)
            refine lv_iconst (v := 0) hx hb dX2_findBranches_34 ic_0 ?_
            refine va_iast hx hb hK hP hD hS 6 1 rfl rfl (iv_in b29 (by decide) (by decide)) dX2_findBranches_35 (fun H locs hPa hDa hS => ?_)
            clear hP hD
            have hP : va_P (dC, dI) vwCl [(on, .inr (2, oX2 n_kind n_salt n_pace n_manner n_from n_to n_goal n_reach n_branches n_branch n_tally x_n)), (n_kind, .inl (kI, 12, .inl f_n_kind)), (n_from, .inl (kI, 20, .inl f_n_from)), (n_to, .inl (kI, 20, .inl f_n_to)), (n_goal, .inl (kI, 3, .inl f_n_goal)), (n_reach, .inl (kI, 12, .inl g6_5)), (n_branches, .inl (kI, 36, .inl (upd g16_6 ((v6_loc1 * 12) + v16_loc2).toNatClampNeg 0))), (n_branch, .inl (kI, 144, .inl g6_7))] H := hPa
            have hD : va_D A [(on, .inr (2, oX2 n_kind n_salt n_pace n_manner n_from n_to n_goal n_reach n_branches n_branch n_tally x_n)), (n_kind, .inl (kI, 12, .inl f_n_kind)), (n_from, .inl (kI, 20, .inl f_n_from)), (n_to, .inl (kI, 20, .inl f_n_to)), (n_goal, .inl (kI, 3, .inl f_n_goal)), (n_reach, .inl (kI, 12, .inl g6_5)), (n_branches, .inl (kI, 36, .inl (upd g16_6 ((v6_loc1 * 12) + v16_loc2).toNatClampNeg 0))), (n_branch, .inl (kI, 144, .inl g6_7))] := hDa
            clear hPa hDa
            have hf32 : fI (fun _ => 0) (fun _ => 4) (upd g16_6 ((v6_loc1 * 12) + v16_loc2).toNatClampNeg 0) := fI_u hI16_6 (k := ((v6_loc1 * 12) + v16_loc2).toNatClampNeg) ((iv_w ivk_0 (by decide) (by decide)))
            have hbf31 : BF16 (nF f_n_from) (nF f_n_to) (nF f_n_goal) (x_n 1).toNatClampNeg (x_n 0).toNatClampNeg g6_5 (upd g16_6 ((v6_loc1 * 12) + v16_loc2).toNatClampNeg 0) g6_7 v6_loc1.toNatClampNeg (v16_loc2 + Int32.ofInt 1).toNatClampNeg := bf_16t hb16_16 ((iv_w b27 (by decide) (by decide)) : iv 0 12 (x_n 0)) h16_2 b26 (Int32.not_le.mp c25)
            generalize (upd g16_6 ((v6_loc1 * 12) + v16_loc2).toNatClampNeg 0) = f30 at hP hD hf32 hbf31
            refine lv_iinc (v := v16_loc2 + Int32.ofInt 1) (lv' := [(2, .int (v16_loc2 + Int32.ofInt 1)), (0, .ref on), (1, .int v6_loc1)]) hx hb dX2_findBranches_36 hl (k := 2) rfl (rfl) (Nat.le_of_ble_eq_true rfl) rfl (fun ls hl => ?_)
            have b33 : iv 1 12 (v16_loc2 + Int32.ofInt 1) := iv_add b26 ivo_1 (by decide) (by decide) (by decide) (by decide)
            refine lv_goto (tgt := 16) hx hb dX2_findBranches_39 rfl ?_
            exact ih16 f30 (v16_loc2 + Int32.ofInt 1) _ _ _ (ms_up (c := 1) (d := 0) b26 hm16 (by decide) (iv_inc 1 b26 (by decide) (by decide) (by decide) (by decide)) (by decide) rfl) (hf32) (h16_2) ((iv_w b33 (by decide) (by decide))) (h16_4) ((show BF16 (nF f_n_from) (nF f_n_to) (nF f_n_goal) (x_n 1).toNatClampNeg (x_n 0).toNatClampNeg g6_5 f30 g6_7 v6_loc1.toNatClampNeg (v16_loc2 + Int32.ofInt 1).toNatClampNeg from hbf31)) (hP) (hD) hS (lv_sub hl [1, 2, 0] rfl)
      refine lv_iload_n hx hb dX2_findBranches_6 rfl (lv_at hl 1 rfl) ?_
      refine lv_aload_n hx hb dX2_findBranches_7 rfl (lv_at hl 0 rfl) ?_
      refine va_get (D := (dC, dI)) (ci := 2) (v := .int (x_n 2)) (C := RX2) (T := TX2) (N := 15) hx hb hts hin2 hown hK hP 0 rfl rfl 9 (Nat.le_of_ble_eq_true rfl) hw_6 (fun _ h9 => h9) rfl dX2_findBranches_8 ?_
      refine lv_icmp_ge (tgt := 99) hx hb dX2_findBranches_11 rfl (fun c34 => ?_) (fun c34 => ?_)
      · have hP9 := hP
        have hD9 := hD
        exact W.vret hx hb hr (fun t ht hW => ⟨⟨(), rfl, trivial, g6_5, g6_6, g6_7, hI6_6, hI6_7, (show TabC x_n f_n_from f_n_to f_n_goal g6_5 g6_6 g6_7 from bf_tab hb6_6 h6_3 ((hx_n 2 : iv 0 3 (x_n 2)) : iv 0 3 (x_n 2)) c34), by rw [ht]; exact hP9, hD9⟩, hS.F ht⟩) hS.2.2 dX2_findBranches_99
      · have b35 : iv 0 2 v6_loc1 := iv_ltL (Int32.not_le.mp c34) h6_3 (hx_n 2 : iv 0 3 (x_n 2)) (by decide) (by decide)
        have b36 : iv 1 3 (x_n 2) := iv_ltR (Int32.not_le.mp c34) h6_3 (hx_n 2 : iv 0 3 (x_n 2)) (by decide) (by decide)
        refine lv_iconst (v := 0) hx hb dX2_findBranches_14 ic_0 ?_
        refine lv_istore_n (lv' := [(2, .int 0), (0, .ref on), (1, .int v6_loc1)]) hx hb dX2_findBranches_15 rfl hl (Nat.le_of_ble_eq_true rfl) rfl (fun ls hl => ?_)
        exact hJ16 _ g6_6 0 _ _ _ (Nat.lt_succ_self _) (hI6_6) (b35) ((iv_w ivk_0 (by decide) (by decide))) (b36) ((show BF16 (nF f_n_from) (nF f_n_to) (nF f_n_goal) (x_n 1).toNatClampNeg (x_n 0).toNatClampNeg g6_5 g6_6 g6_7 v6_loc1.toNatClampNeg ((0 : Int32)).toNatClampNeg from bf_c hb6_6)) (hP) (hD) hS (lv_sub hl [1, 2, 0] rfl)
  refine lv_aload_n hx hb dX2_findBranches_0 rfl (lv_at hl 0 rfl) ?_
  obtain ⟨hPc, hDc, hFc, hJn⟩ := cl_a (wc := [(on, .inr (2, oX2 n_kind n_salt n_pace n_manner n_from n_to n_goal n_reach n_branches n_branch n_tally x_n)), (n_kind, .inl (kI, 12, .inl f_n_kind)), (n_from, .inl (kI, 20, .inl f_n_from)), (n_to, .inl (kI, 20, .inl f_n_to)), (n_goal, .inl (kI, 3, .inl f_n_goal)), (n_reach, .inl (kI, 12, .inl f_n_reach))]) (wr := [(n_branches, .inl (kI, 36, .inl f_n_branches)), (n_branch, .inl (kI, 144, .inl f_n_branch))]) hP hD hS hA [0, 1, 2, 3, 4, 5] [6, 7] rfl rfl (by decide +kernel)
  refine va_callv (va_runV (As := []) (rest := []) ⟨hx, hb, hml, hown, hts⟩ (s2_findReach_x l dC dI kB kI kJ kZ kC kS s.heap.size on n_kind n_salt n_pace n_manner n_from n_to n_goal n_reach n_branches n_branch n_tally x_n f_n_kind f_n_from f_n_to f_n_goal f_n_reach (hx_n) (hf_n_from) (hf_n_to) (hf_n_goal) (hWF)) (cwV 0 hts gX2_findBranches_X2_findReach rfl rfl rfl (by decide +kernel) ⟨Nat.le_of_ble_eq_true rfl, Nat.le_of_ble_eq_true rfl⟩) ⟨fun a U g mk q => by obtain ⟨q0, q1, qP, qE, qD⟩ := q; exact ⟨q0, q1, qP, kE_call qE, qD⟩, va_recv hK hP (ci := 2) (q0 := 0) rfl rfl, fun U hU hW => ⟨rfl, by rw [hU], by rw [hU]; exact hPc, kE_warm hW hE, hDc.weaken (fun _ _ _ _ => trivial)⟩⟩ rfl rfl hl.1 rfl (lv_room (Nat.le_of_ble_eq_true rfl)) dX2_findBranches_1 ⟨Nat.le_of_ble_eq_true rfl, Nat.le_of_ble_eq_true rfl⟩) hS (fun q _ h => hFc q h) hFc (fun u t H locs ht hvm w38 hB hz1 hk1 hS => ?_)
  obtain ⟨f39, hq40, hP1, hD1⟩ := hB
  try dsimp only at w38
  obtain ⟨hPa, hDa⟩ := hJn (w1 := [(on, .inr (2, oX2 n_kind n_salt n_pace n_manner n_from n_to n_goal n_reach n_branches n_branch n_tally x_n)), (n_kind, .inl (kI, 12, .inl f_n_kind)), (n_from, .inl (kI, 20, .inl f_n_from)), (n_to, .inl (kI, 20, .inl f_n_to)), (n_goal, .inl (kI, 3, .inl f_n_goal)), (n_reach, .inl (kI, 12, .inl f39))]) hk1 ht hP1 hD1
  clear hP hD hPc hDc hFc hJn hP1 hD1 hk1
  have hP : va_P (dC, dI) vwCl [(n_branches, .inl (kI, 36, .inl f_n_branches)), (n_branch, .inl (kI, 144, .inl f_n_branch)), (on, .inr (2, oX2 n_kind n_salt n_pace n_manner n_from n_to n_goal n_reach n_branches n_branch n_tally x_n)), (n_kind, .inl (kI, 12, .inl f_n_kind)), (n_from, .inl (kI, 20, .inl f_n_from)), (n_to, .inl (kI, 20, .inl f_n_to)), (n_goal, .inl (kI, 3, .inl f_n_goal)), (n_reach, .inl (kI, 12, .inl f39))] H := hPa
  have hD : va_D A [(n_branches, .inl (kI, 36, .inl f_n_branches)), (n_branch, .inl (kI, 144, .inl f_n_branch)), (on, .inr (2, oX2 n_kind n_salt n_pace n_manner n_from n_to n_goal n_reach n_branches n_branch n_tally x_n)), (n_kind, .inl (kI, 12, .inl f_n_kind)), (n_from, .inl (kI, 20, .inl f_n_from)), (n_to, .inl (kI, 20, .inl f_n_to)), (n_goal, .inl (kI, 3, .inl f_n_goal)), (n_reach, .inl (kI, 12, .inl f39))] := hDa
  clear hPa hDa
  refine W.widen (k := 0) (n := 0) (Nat.le_of_ble_eq_true rfl) (Nat.le_of_ble_eq_true rfl) ?_
  refine lv_iconst (v := 0) hx hb dX2_findBranches_4 ic_0 ?_
  refine lv_istore_n (lv' := [(1, .int 0), (0, .ref on)]) hx hb dX2_findBranches_5 rfl hl (Nat.le_of_ble_eq_true rfl) rfl (fun ls hl => ?_)
  have hPD9 := cl_s (wc := [(on, .inr (2, oX2 n_kind n_salt n_pace n_manner n_from n_to n_goal n_reach n_branches n_branch n_tally x_n)), (n_kind, .inl (kI, 12, .inl f_n_kind)), (n_from, .inl (kI, 20, .inl f_n_from)), (n_to, .inl (kI, 20, .inl f_n_to)), (n_goal, .inl (kI, 3, .inl f_n_goal)), (n_reach, .inl (kI, 12, .inl f39)), (n_branches, .inl (kI, 36, .inl f_n_branches)), (n_branch, .inl (kI, 144, .inl f_n_branch))]) hP hD [2, 3, 4, 5, 6, 7, 0, 1] rfl (by decide +kernel)
  exact hJ6 _ f39 f_n_branches f_n_branch 0 _ _ _ (Nat.lt_succ_self _) (hf_n_branches) (hf_n_branch) ((iv_w ivk_0 (by decide) (by decide))) ((show BF16 (nF f_n_from) (nF f_n_to) (nF f_n_goal) (x_n 1).toNatClampNeg (x_n 0).toNatClampNeg f39 f_n_branches f_n_branch ((0 : Int32)).toNatClampNeg 0 from bf_0 hq40)) (hPD9.1) (hPD9.2) hS (lv_sub hl [1, 0] rfl)
def rm_s2_branchesOf_x : Room := { frames := 0, cells := 0, slots := 0, locals := 0 }
set_option maxHeartbeats 4000000 in
set_option maxRecDepth 100000 in
theorem s2_branchesOf_x (l : Launch) (dC : Nat → ClassId) (dI : Nat → Nat → Nat) (kB kI kJ kZ kC kS : ClassId) (sz : Nat) (on : Nat) (n_kind : Nat) (n_salt : Nat) (n_pace : Nat) (n_manner : Nat) (n_from : Nat) (n_to : Nat) (n_goal : Nat) (n_reach : Nat) (n_branches : Nat) (n_branch : Nat) (n_tally : Nat) (x_n : Nat → Int32) (f_n_branches : Nat → Int32) (p0 : Int32) (p1 : Int32) (hx_n : fI lX2 hX2 x_n) (hf_n_branches : fI (fun _ => 0) (fun _ => 4) f_n_branches) (hp0 : iv 0 11 p0) (hp1 : iv 0 2 p1) : Met l yX2_branchesOf wsX2_branchesOf rm_s2_branchesOf_x (va_Pc [.ref on, .int p0, .int p1] (fun U => U.heap.size = sz ∧ va_P (dC, dI) vwCl [(on, .inr (2, oX2 n_kind n_salt n_pace n_manner n_from n_to n_goal n_reach n_branches n_branch n_tally x_n)), (n_branches, .inl (kI, 36, .inl f_n_branches))] U.heap ∧ kE dC dI kB kI kJ kZ kC kS U ∧ va_D (fun _ => True) [(on, .inr (2, oX2 n_kind n_salt n_pace n_manner n_from n_to n_goal n_reach n_branches n_branch n_tally x_n)), (n_branches, .inl (kI, 36, .inl f_n_branches))])) (va_Qi (fun (r : Int32) (_ : Unit) => r = f_n_branches ((p1 * 12) + p0).toNatClampNeg ∧ iv 0 4 r) (fun _ t => va_P (dC, dI) vwCl [(on, .inr (2, oX2 n_kind n_salt n_pace n_manner n_from n_to n_goal n_reach n_branches n_branch n_tally x_n)), (n_branches, .inl (kI, 36, .inl f_n_branches))] t.heap ∧ va_D (va_A [(on, .inr (2, oX2 n_kind n_salt n_pace n_manner n_from n_to n_goal n_reach n_branches n_branch n_tally x_n)), (n_branches, .inl (kI, 36, .inl f_n_branches))] sz) [(on, .inr (2, oX2 n_kind n_salt n_pace n_manner n_from n_to n_goal n_reach n_branches n_branch n_tally x_n)), (n_branches, .inl (kI, 36, .inl f_n_branches))]) (va_A [(on, .inr (2, oX2 n_kind n_salt n_pace n_manner n_from n_to n_goal n_reach n_branches n_branch n_tally x_n)), (n_branches, .inl (kI, 36, .inl f_n_branches))] sz)) 0 0 (va_A [(on, .inr (2, oX2 n_kind n_salt n_pace n_manner n_from n_to n_goal n_reach n_branches n_branch n_tally x_n)), (n_branches, .inl (kI, 36, .inl f_n_branches))] sz) := by
  refine Met.ofW (cc := cX2_branchesOf) (maxL := 3) (ret := (some .int)) (by decide) rfl ?_
  intro p e s m args0 below meth c s₁ B hml hv
  obtain ⟨hargs, hsz, hP, hE, hD0⟩ := hv
  have hx := B.exec
  have hb := B.bytes
  have hr := B.returns
  have hts := atoms_spec (ws := wsX2_branchesOf) B.pre
  have hown : s.vm.findClass RX2 = some m.cls := findClass_of_methodNamed B.named
  have hlocks := B.notSynchronized
  have hK := hE.1
  have hin2 : ∀ w ∈ wsX20, w ∈ wsX2_branchesOf := fun _ h9 => List.mem_cons_of_mem _ (List.mem_append_right _ h9)
  have hw_0 := hts (.fieldLink RX2 49 "PathProber$Net" "branches" "[I") (List.mem_of_getElem? (i := 1) rfl)
  subst hsz
  have hD := hD0.self (sz := s.heap.size)
  generalize hAe : va_A [(on, .inr (2, oX2 n_kind n_salt n_pace n_manner n_from n_to n_goal n_reach n_branches n_branch n_tally x_n)), (n_branches, .inl (kI, 36, .inl f_n_branches))] s.heap.size = A at hD ⊢
  have hA : ∀ q : Nat, s.heap.size ≤ q → A q := fun q h => by rw [← hAe]; exact Or.inr h
  have hS : va_S A s.heap s.heap [] := va_S.rf
  have hP : va_P (dC, dI) vwCl [(on, .inr (2, oX2 n_kind n_salt n_pace n_manner n_from n_to n_goal n_reach n_branches n_branch n_tally x_n)), (n_branches, .inl (kI, 36, .inl f_n_branches))] s.heap := hP
  have hl := lv_entry ([.ref on, .int p0, .int p1]) (n := 3) (Nat.le_of_ble_eq_true rfl)
  have hla : entryFrame m args0 3 = entryFrame m ([.ref on, .int p0, .int p1] : List Value).toArray 3 := by rw [hargs]
  rw [hla, lg_entry_eq]
  generalize (lg_sl ([.ref on, .int p0, .int p1]) ++ List.replicate (3 - (lg_sl ([.ref on, .int p0, .int p1])).length) Slot.unset).toArray = ls at hl ⊢
  have hl : lv_has ls 3 [(0, .ref on), (1, .int p0), (2, .int p1)] := hl
  refine lv_aload_n hx hb dX2_branchesOf_0 rfl (lv_at hl 0 rfl) ?_
  refine va_get (D := (dC, dI)) (ci := 2) (v := .ref n_branches) (C := RX2) (T := TX2) (N := 15) hx hb hts hin2 hown hK hP 0 rfl rfl 12 (Nat.le_of_ble_eq_true rfl) hw_0 (fun _ h9 => h9) rfl dX2_branchesOf_1 ?_
  refine lv_iload_n hx hb dX2_branchesOf_4 rfl (lv_at hl 2 rfl) ?_
  refine lv_bipush (v := 12) hx hb dX2_branchesOf_5 bp_12 ?_
  refine lv_imul hx hb dX2_branchesOf_7 ?_
  have b1 : iv 0 24 (p1 * 12) := iv_mul hp1 ivk_12 (by decide) (by decide) (by decide) (by decide) (by decide)
  refine lv_iload_n hx hb dX2_branchesOf_8 rfl (lv_at hl 1 rfl) ?_
  refine lv_iadd hx hb dX2_branchesOf_9 ?_
  have b2 : iv 0 35 ((p1 * 12) + p0) := iv_add b1 hp0 (by decide) (by decide) (by decide) (by decide)
  refine va_iald hx hb hK hP 1 1 rfl rfl (iv_in b2 (by decide) (by decide)) dX2_branchesOf_10 ?_
  have b3 : iv 0 4 (f_n_branches ((p1 * 12) + p0).toNatClampNeg) := hf_n_branches _
  have hP9 := hP
  have hD9 := hD
  exact W.iret (v := f_n_branches ((p1 * 12) + p0).toNatClampNeg) hx hb hr (fun t ht hW => ⟨⟨f_n_branches ((p1 * 12) + p0).toNatClampNeg, (), rfl, ⟨rfl, b3⟩, by rw [ht]; exact hP9, hD9⟩, hS.F ht⟩) hS.2.2 dX2_branchesOf_11
def rm_s2_branchOf_x : Room := { frames := 0, cells := 0, slots := 0, locals := 0 }
set_option maxHeartbeats 4000000 in
set_option maxRecDepth 100000 in
theorem s2_branchOf_x (l : Launch) (dC : Nat → ClassId) (dI : Nat → Nat → Nat) (kB kI kJ kZ kC kS : ClassId) (sz : Nat) (on : Nat) (n_kind : Nat) (n_salt : Nat) (n_pace : Nat) (n_manner : Nat) (n_from : Nat) (n_to : Nat) (n_goal : Nat) (n_reach : Nat) (n_branches : Nat) (n_branch : Nat) (n_tally : Nat) (x_n : Nat → Int32) (f_n_branch : Nat → Int32) (p0 : Int32) (p1 : Int32) (p2 : Int32) (hx_n : fI lX2 hX2 x_n) (hf_n_branch : fI (fun _ => 0) (fun _ => 19) f_n_branch) (hp0 : iv 0 11 p0) (hp1 : iv 0 2 p1) (hp2 : iv 0 3 p2) : Met l yX2_branchOf wsX2_branchOf rm_s2_branchOf_x (va_Pc [.ref on, .int p0, .int p1, .int p2] (fun U => U.heap.size = sz ∧ va_P (dC, dI) vwCl [(on, .inr (2, oX2 n_kind n_salt n_pace n_manner n_from n_to n_goal n_reach n_branches n_branch n_tally x_n)), (n_branch, .inl (kI, 144, .inl f_n_branch))] U.heap ∧ kE dC dI kB kI kJ kZ kC kS U ∧ va_D (fun _ => True) [(on, .inr (2, oX2 n_kind n_salt n_pace n_manner n_from n_to n_goal n_reach n_branches n_branch n_tally x_n)), (n_branch, .inl (kI, 144, .inl f_n_branch))])) (va_Qi (fun (r : Int32) (_ : Unit) => r = f_n_branch ((((p1 * 12) + p0) * 4) + p2).toNatClampNeg ∧ iv 0 19 r) (fun _ t => va_P (dC, dI) vwCl [(on, .inr (2, oX2 n_kind n_salt n_pace n_manner n_from n_to n_goal n_reach n_branches n_branch n_tally x_n)), (n_branch, .inl (kI, 144, .inl f_n_branch))] t.heap ∧ va_D (va_A [(on, .inr (2, oX2 n_kind n_salt n_pace n_manner n_from n_to n_goal n_reach n_branches n_branch n_tally x_n)), (n_branch, .inl (kI, 144, .inl f_n_branch))] sz) [(on, .inr (2, oX2 n_kind n_salt n_pace n_manner n_from n_to n_goal n_reach n_branches n_branch n_tally x_n)), (n_branch, .inl (kI, 144, .inl f_n_branch))]) (va_A [(on, .inr (2, oX2 n_kind n_salt n_pace n_manner n_from n_to n_goal n_reach n_branches n_branch n_tally x_n)), (n_branch, .inl (kI, 144, .inl f_n_branch))] sz)) 0 0 (va_A [(on, .inr (2, oX2 n_kind n_salt n_pace n_manner n_from n_to n_goal n_reach n_branches n_branch n_tally x_n)), (n_branch, .inl (kI, 144, .inl f_n_branch))] sz) := by
  refine Met.ofW (cc := cX2_branchOf) (maxL := 4) (ret := (some .int)) (by decide) rfl ?_
  intro p e s m args0 below meth c s₁ B hml hv
  obtain ⟨hargs, hsz, hP, hE, hD0⟩ := hv
  have hx := B.exec
  have hb := B.bytes
  have hr := B.returns
  have hts := atoms_spec (ws := wsX2_branchOf) B.pre
  have hown : s.vm.findClass RX2 = some m.cls := findClass_of_methodNamed B.named
  have hlocks := B.notSynchronized
  have hK := hE.1
  have hin2 : ∀ w ∈ wsX20, w ∈ wsX2_branchOf := fun _ h9 => List.mem_cons_of_mem _ (List.mem_append_right _ h9)
  have hw_0 := hts (.fieldLink RX2 52 "PathProber$Net" "branch" "[I") (List.mem_of_getElem? (i := 1) rfl)
  subst hsz
  have hD := hD0.self (sz := s.heap.size)
  generalize hAe : va_A [(on, .inr (2, oX2 n_kind n_salt n_pace n_manner n_from n_to n_goal n_reach n_branches n_branch n_tally x_n)), (n_branch, .inl (kI, 144, .inl f_n_branch))] s.heap.size = A at hD ⊢
  have hA : ∀ q : Nat, s.heap.size ≤ q → A q := fun q h => by rw [← hAe]; exact Or.inr h
  have hS : va_S A s.heap s.heap [] := va_S.rf
  have hP : va_P (dC, dI) vwCl [(on, .inr (2, oX2 n_kind n_salt n_pace n_manner n_from n_to n_goal n_reach n_branches n_branch n_tally x_n)), (n_branch, .inl (kI, 144, .inl f_n_branch))] s.heap := hP
  have hl := lv_entry ([.ref on, .int p0, .int p1, .int p2]) (n := 4) (Nat.le_of_ble_eq_true rfl)
  have hla : entryFrame m args0 4 = entryFrame m ([.ref on, .int p0, .int p1, .int p2] : List Value).toArray 4 := by rw [hargs]
  rw [hla, lg_entry_eq]
  generalize (lg_sl ([.ref on, .int p0, .int p1, .int p2]) ++ List.replicate (4 - (lg_sl ([.ref on, .int p0, .int p1, .int p2])).length) Slot.unset).toArray = ls at hl ⊢
  have hl : lv_has ls 4 [(0, .ref on), (1, .int p0), (2, .int p1), (3, .int p2)] := hl
  refine lv_aload_n hx hb dX2_branchOf_0 rfl (lv_at hl 0 rfl) ?_
  refine va_get (D := (dC, dI)) (ci := 2) (v := .ref n_branch) (C := RX2) (T := TX2) (N := 15) hx hb hts hin2 hown hK hP 0 rfl rfl 13 (Nat.le_of_ble_eq_true rfl) hw_0 (fun _ h9 => h9) rfl dX2_branchOf_1 ?_
  refine lv_iload_n hx hb dX2_branchOf_4 rfl (lv_at hl 2 rfl) ?_
  refine lv_bipush (v := 12) hx hb dX2_branchOf_5 bp_12 ?_
  refine lv_imul hx hb dX2_branchOf_7 ?_
  have b1 : iv 0 24 (p1 * 12) := iv_mul hp1 ivk_12 (by decide) (by decide) (by decide) (by decide) (by decide)
  refine lv_iload_n hx hb dX2_branchOf_8 rfl (lv_at hl 1 rfl) ?_
  refine lv_iadd hx hb dX2_branchOf_9 ?_
  have b2 : iv 0 35 ((p1 * 12) + p0) := iv_add b1 hp0 (by decide) (by decide) (by decide) (by decide)
  refine lv_iconst (v := 4) hx hb dX2_branchOf_10 ic_4 ?_
  refine lv_imul hx hb dX2_branchOf_11 ?_
  have b3 : iv 0 140 (((p1 * 12) + p0) * 4) := iv_mul b2 ivk_4 (by decide) (by decide) (by decide) (by decide) (by decide)
  refine lv_iload_n hx hb dX2_branchOf_12 rfl (lv_at hl 3 rfl) ?_
  refine lv_iadd hx hb dX2_branchOf_13 ?_
  have b4 : iv 0 143 ((((p1 * 12) + p0) * 4) + p2) := iv_add b3 hp2 (by decide) (by decide) (by decide) (by decide)
  refine va_iald hx hb hK hP 1 1 rfl rfl (iv_in b4 (by decide) (by decide)) dX2_branchOf_14 ?_
  have b5 : iv 0 19 (f_n_branch ((((p1 * 12) + p0) * 4) + p2).toNatClampNeg) := hf_n_branch _
  have hP9 := hP
  have hD9 := hD
  exact W.iret (v := f_n_branch ((((p1 * 12) + p0) * 4) + p2).toNatClampNeg) hx hb hr (fun t ht hW => ⟨⟨f_n_branch ((((p1 * 12) + p0) * 4) + p2).toNatClampNeg, (), rfl, ⟨rfl, b5⟩, by rw [ht]; exact hP9, hD9⟩, hS.F ht⟩) hS.2.2 dX2_branchOf_15
