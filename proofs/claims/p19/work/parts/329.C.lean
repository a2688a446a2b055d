def rm_s0_forgetAllSeen : Room := { frames := 0, cells := 0, slots := 0, locals := 0 }
set_option maxHeartbeats 4000000 in
set_option maxRecDepth 100000 in
theorem s0_forgetAllSeen (l : Launch) (dC : Nat → ClassId) (dI : Nat → Nat → Nat) (kB kI kJ kZ kC kS : ClassId) (sz : Nat) (oc : Nat) (c_seen : Nat) (c_sent : Nat) (c_turn : Nat) (c_counter : Nat) (x_c : Nat → Int32) (f_c_seen : Nat → Int64) (f_c_sent : Nat → Int32) (hf_c_seen : sI f_c_seen) : Met l yX0_forgetAllSeen wsX0_forgetAllSeen rm_s0_forgetAllSeen (va_Pc [.ref oc] (fun U => U.heap.size = sz ∧ va_P (dC, dI) vwCl [(oc, .inr (0, oX0 c_seen c_sent c_turn c_counter x_c)), (c_seen, .inl (kJ, 96, .inr (.inl f_c_seen))), (c_sent, .inl (kI, 30, .inl f_c_sent))] U.heap ∧ kE dC dI kB kI kJ kZ kC kS U ∧ va_D (fun _ => True) [(oc, .inr (0, oX0 c_seen c_sent c_turn c_counter x_c)), (c_seen, .inl (kJ, 96, .inr (.inl f_c_seen))), (c_sent, .inl (kI, 30, .inl f_c_sent))])) (va_Qv (fun (_ : Unit) => True) (fun _ t => ∃ (f_c_seen' : Nat → Int64) (f_c_sent' : Nat → Int32), sI f_c_seen' ∧ va_P (dC, dI) vwCl [(oc, .inr (0, oX0 c_seen c_sent c_turn c_counter x_c)), (c_seen, .inl (kJ, 96, .inr (.inl f_c_seen'))), (c_sent, .inl (kI, 30, .inl f_c_sent'))] t.heap ∧ va_D (va_A [(oc, .inr (0, oX0 c_seen c_sent c_turn c_counter x_c)), (c_seen, .inl (kJ, 96, .inr (.inl f_c_seen))), (c_sent, .inl (kI, 30, .inl f_c_sent))] sz) [(oc, .inr (0, oX0 c_seen c_sent c_turn c_counter x_c)), (c_seen, .inl (kJ, 96, .inr (.inl f_c_seen'))), (c_sent, .inl (kI, 30, .inl f_c_sent'))]) (va_A [(oc, .inr (0, oX0 c_seen c_sent c_turn c_counter x_c)), (c_seen, .inl (kJ, 96, .inr (.inl f_c_seen))), (c_sent, .inl (kI, 30, .inl f_c_sent))] sz)) 0 0 (va_A [(oc, .inr (0, oX0 c_seen c_sent c_turn c_counter x_c)), (c_seen, .inl (kJ, 96, .inr (.inl f_c_seen))), (c_sent, .inl (kI, 30, .inl f_c_sent))] sz) := by
  refine Met.ofW (cc := cX0_forgetAllSeen) (maxL := 2) (ret := none) (by decide) rfl ?_
  intro p e s m args0 below meth c s₁ B hml hv
  obtain ⟨hargs, hsz, hP, hE, hD0⟩ := hv
  have hx := B.exec
  have hb := B.bytes
  have hr := B.returns
  have hts := atoms_spec (ws := wsX0_forgetAllSeen) B.pre
  have hown : s.vm.findClass RX0 = some m.cls := findClass_of_methodNamed B.named
  have hlocks := B.notSynchronized
  have hK := hE.1
  have hin0 : ∀ w ∈ wsX00, w ∈ wsX0_forgetAllSeen := fun _ h9 => List.mem_cons_of_mem _ (List.mem_append_right _ h9)
  have hw_0 := hts (.fieldLink RX0 15 "PathProber$Condition" "sent" "[I") (List.mem_of_getElem? (i := 2) rfl)
  have hw_1 := hts (.fieldLink RX0 9 "PathProber$Condition" "seen" "[J") (List.mem_of_getElem? (i := 1) rfl)
  subst hsz
  have hD := hD0.self (sz := s.heap.size)
  generalize hAe : va_A [(oc, .inr (0, oX0 c_seen c_sent c_turn c_counter x_c)), (c_seen, .inl (kJ, 96, .inr (.inl f_c_seen))), (c_sent, .inl (kI, 30, .inl f_c_sent))] s.heap.size = A at hD ⊢
  have hA : ∀ q : Nat, s.heap.size ≤ q → A q := fun q h => by rw [← hAe]; exact Or.inr h
  have hS : va_S A s.heap s.heap [] := va_S.rf
  have hP : va_P (dC, dI) vwCl [(oc, .inr (0, oX0 c_seen c_sent c_turn c_counter x_c)), (c_seen, .inl (kJ, 96, .inr (.inl f_c_seen))), (c_sent, .inl (kI, 30, .inl f_c_sent))] s.heap := hP
  have hl := lv_entry ([.ref oc]) (n := 2) (Nat.le_of_ble_eq_true rfl)
  have hla : entryFrame m args0 2 = entryFrame m ([.ref oc] : List Value).toArray 2 := by rw [hargs]
  rw [hla, lg_entry_eq]
  generalize (lg_sl ([.ref oc]) ++ List.replicate (2 - (lg_sl ([.ref oc])).length) Slot.unset).toArray = ls at hl ⊢
  have hl : lv_has ls 2 [(0, .ref oc)] := hl
  have hJ23 : ∀ (n : Nat) (g23_1 : Nat → Int64) (g23_2 : Nat → Int32) (v23_loc1 : Int32) (H : Heap) (locs : List Loc) (ls : Array Slot), (30 - v23_loc1.toInt).toNat < n → sI g23_1 → iv 0 30 v23_loc1 → va_P (dC, dI) vwCl [(oc, .inr (0, oX0 c_seen c_sent c_turn c_counter x_c)), (c_seen, .inl (kJ, 96, .inr (.inl g23_1))), (c_sent, .inl (kI, 30, .inl g23_2))] H → va_D A [(oc, .inr (0, oX0 c_seen c_sent c_turn c_counter x_c)), (c_seen, .inl (kJ, 96, .inr (.inl g23_1))), (c_sent, .inl (kI, 30, .inl g23_2))] → va_S A s.heap H locs → lv_has ls 2 [(0, .ref oc), (1, .int v23_loc1)] → W p l e (headSpec wsX0_forgetAllSeen rm_s0_forgetAllSeen).room s m args0 below meth c H locs (0) (0) (MQ below (va_Qv (fun (_ : Unit) => True) (fun _ t => ∃ (f_c_seen' : Nat → Int64) (f_c_sent' : Nat → Int32), sI f_c_seen' ∧ va_P (dC, dI) vwCl [(oc, .inr (0, oX0 c_seen c_sent c_turn c_counter x_c)), (c_seen, .inl (kJ, 96, .inr (.inl f_c_seen'))), (c_sent, .inl (kI, 30, .inl f_c_sent'))] t.heap ∧ va_D A [(oc, .inr (0, oX0 c_seen c_sent c_turn c_counter x_c)), (c_seen, .inl (kJ, 96, .inr (.inl f_c_seen'))), (c_sent, .inl (kI, 30, .inl f_c_sent'))]) A) args0 s 0 0 A) (F0 m 23 ls []) := by
    intro n
    induction n with
    | zero => intro g23_1 g23_2 v23_loc1 H locs ls hm23; exact absurd hm23 (Nat.not_lt_zero _)
    | succ n ih23 =>
      intro g23_1 g23_2 v23_loc1 H locs ls hm23 hI23_1 h23_2 hP hD hS hl
      refine lv_iload_n hx hb dX0_forgetAllSeen_23 rfl (lv_at hl 1 rfl) ?_
      refine lv_bipush (v := 30) hx hb dX0_forgetAllSeen_24 bp_30 ?_
      refine lv_icmp_ge (tgt := 42) hx hb dX0_forgetAllSeen_26 rfl (fun c1 => ?_) (fun c1 => ?_)
      · have b2 : iv 30 30 v23_loc1 := iv_leR c1 ivk_30 h23_2 (by decide) (by decide)
        have hP9 := hP
        have hD9 := hD
        exact W.vret hx hb hr (fun t ht hW => ⟨⟨(), rfl, trivial, g23_1, g23_2, hI23_1, by rw [ht]; exact hP9, hD9⟩, hS.F ht⟩) hS.2.2 dX0_forgetAllSeen_42
      · have b3 : iv 0 29 v23_loc1 := iv_ltL (Int32.not_le.mp c1) h23_2 ivk_30 (by decide) (by decide)
        refine lv_aload_n hx hb dX0_forgetAllSeen_29 rfl (lv_at hl 0 rfl) ?_
        refine va_get (D := (dC, dI)) (ci := 0) (v := .ref c_sent) (C := RX0) (T := TX0) (N := 10) hx hb hts hin0 hown hK hP 0 rfl rfl 1 (Nat.le_of_ble_eq_true rfl) hw_0 (fun _ h9 => h9) rfl dX0_forgetAllSeen_30 ?_
        refine lv_iload_n hx hb dX0_forgetAllSeen_33 rfl (lv_at hl 1 rfl) ?_
        refine lv_iconst (v := 0) hx hb dX0_forgetAllSeen_34 ic_0 ?_
        refine va_iast hx hb hK hP hD hS 2 1 rfl rfl (iv_in b3 (by decide) (by decide)) dX0_forgetAllSeen_35 (fun H locs hPa hDa hS => ?_)
        clear hP hD
        have hP : va_P (dC, dI) vwCl [(oc, .inr (0, oX0 c_seen c_sent c_turn c_counter x_c)), (c_seen, .inl (kJ, 96, .inr (.inl g23_1))), (c_sent, .inl (kI, 30, .inl (upd g23_2 v23_loc1.toNatClampNeg 0)))] H := hPa
        have hD : va_D A [(oc, .inr (0, oX0 c_seen c_sent c_turn c_counter x_c)), (c_seen, .inl (kJ, 96, .inr (.inl g23_1))), (c_sent, .inl (kI, 30, .inl (upd g23_2 v23_loc1.toNatClampNeg 0)))] := hDa
        clear hPa hDa
        generalize (upd g23_2 v23_loc1.toNatClampNeg 0) = f4 at hP hD
        refine lv_iinc (v := v23_loc1 + Int32.ofInt 1) (lv' := [(1, .int (v23_loc1 + Int32.ofInt 1)), (0, .ref oc)]) hx hb dX0_forgetAllSeen_36 hl (k := 1) rfl (rfl) (Nat.le_of_ble_eq_true rfl) rfl (fun ls hl => ?_)
        have b5 : iv 1 30 (v23_loc1 + Int32.ofInt 1) := iv_add b3 ivo_1 (by decide) (by decide) (by decide) (by decide)
        refine lv_goto (tgt := 23) hx hb dX0_forgetAllSeen_39 rfl ?_
        exact ih23 g23_1 f4 (v23_loc1 + Int32.ofInt 1) _ _ _ (ms_up (c := 1) (d := 0) b3 hm23 (by decide) (iv_inc 1 b3 (by decide) (by decide) (by decide) (by decide)) (by decide) rfl) (hI23_1) ((iv_w b5 (by decide) (by decide))) (hP) (hD) hS (lv_sub hl [1, 0] rfl)
  have hJ2 : ∀ (n : Nat) (g2_1 : Nat → Int64) (v2_loc1 : Int32) (H : Heap) (locs : List Loc) (ls : Array Slot), (96 - v2_loc1.toInt).toNat < n → sI g2_1 → iv 0 96 v2_loc1 → va_P (dC, dI) vwCl [(oc, .inr (0, oX0 c_seen c_sent c_turn c_counter x_c)), (c_seen, .inl (kJ, 96, .inr (.inl g2_1))), (c_sent, .inl (kI, 30, .inl f_c_sent))] H → va_D A [(oc, .inr (0, oX0 c_seen c_sent c_turn c_counter x_c)), (c_seen, .inl (kJ, 96, .inr (.inl g2_1))), (c_sent, .inl (kI, 30, .inl f_c_sent))] → va_S A s.heap H locs → lv_has ls 2 [(0, .ref oc), (1, .int v2_loc1)] → W p l e (headSpec wsX0_forgetAllSeen rm_s0_forgetAllSeen).room s m args0 below meth c H locs (0) (0) (MQ below (va_Qv (fun (_ : Unit) => True) (fun _ t => ∃ (f_c_seen' : Nat → Int64) (f_c_sent' : Nat → Int32), sI f_c_seen' ∧ va_P (dC, dI) vwCl [(oc, .inr (0, oX0 c_seen c_sent c_turn c_counter x_c)), (c_seen, .inl (kJ, 96, .inr (.inl f_c_seen'))), (c_sent, .inl (kI, 30, .inl f_c_sent'))] t.heap ∧ va_D A [(oc, .inr (0, oX0 c_seen c_sent c_turn c_counter x_c)), (c_seen, .inl (kJ, 96, .inr (.inl f_c_seen'))), (c_sent, .inl (kI, 30, .inl f_c_sent'))]) A) args0 s 0 0 A) (F0 m 2 ls []) := by
    intro n
    induction n with
    | zero => intro g2_1 v2_loc1 H locs ls hm2; exact absurd hm2 (Nat.not_lt_zero _)
    | succ n ih2 =>
      intro g2_1 v2_loc1 H locs ls hm2 hI2_1 h2_2 hP hD hS hl
      refine lv_iload_n hx hb dX0_forgetAllSeen_2 rfl (lv_at hl 1 rfl) ?_
      refine lv_bipush (v := 96) hx hb dX0_forgetAllSeen_3 bp_96 ?_
      refine lv_icmp_ge (tgt := 21) hx hb dX0_forgetAllSeen_5 rfl (fun c6 => ?_) (fun c6 => ?_)
      · have b7 : iv 96 96 v2_loc1 := iv_leR c6 ivk_96 h2_2 (by decide) (by decide)
        refine lv_iconst (v := 0) hx hb dX0_forgetAllSeen_21 ic_0 ?_
        refine lv_istore_n (lv' := [(1, .int 0), (0, .ref oc)]) hx hb dX0_forgetAllSeen_22 rfl hl (Nat.le_of_ble_eq_true rfl) rfl (fun ls hl => ?_)
        exact hJ23 _ g2_1 f_c_sent 0 _ _ _ (Nat.lt_succ_self _) (hI2_1) ((iv_w ivk_0 (by decide) (by decide))) (hP) (hD) hS (lv_sub hl [1, 0] rfl)
      · have b8 : iv 0 95 v2_loc1 := iv_ltL (Int32.not_le.mp c6) h2_2 ivk_96 (by decide) (by decide)
        refine lv_aload_n hx hb dX0_forgetAllSeen_8 rfl (lv_at hl 0 rfl) ?_
        refine va_get (D := (dC, dI)) (ci := 0) (v := .ref c_seen) (C := RX0) (T := TX0) (N := 10) hx hb hts hin0 hown hK hP 0 rfl rfl 0 (Nat.le_of_ble_eq_true rfl) hw_1 (fun _ h9 => h9) rfl dX0_forgetAllSeen_9 ?_
        refine lv_iload_n hx hb dX0_forgetAllSeen_12 rfl (lv_at hl 1 rfl) ?_
        refine lv_lconst (v := 0) hx hb dX0_forgetAllSeen_13 (by decide) ?_
        refine va_last hx hb hK hP hD hS 1 2 rfl rfl (iv_in b8 (by decide) (by decide)) dX0_forgetAllSeen_14 (fun H locs hPa hDa hS => ?_)
        clear hP hD
        have hP : va_P (dC, dI) vwCl [(oc, .inr (0, oX0 c_seen c_sent c_turn c_counter x_c)), (c_seen, .inl (kJ, 96, .inr (.inl (vp_updL g2_1 v2_loc1.toNatClampNeg 0)))), (c_sent, .inl (kI, 30, .inl f_c_sent))] H := hPa
        have hD : va_D A [(oc, .inr (0, oX0 c_seen c_sent c_turn c_counter x_c)), (c_seen, .inl (kJ, 96, .inr (.inl (vp_updL g2_1 v2_loc1.toNatClampNeg 0)))), (c_sent, .inl (kI, 30, .inl f_c_sent))] := hDa
        clear hPa hDa
        have hf10 : sI (vp_updL g2_1 v2_loc1.toNatClampNeg 0) := sI_u hI2_1 SB_0
        generalize (vp_updL g2_1 v2_loc1.toNatClampNeg 0) = f9 at hP hD hf10
        refine lv_iinc (v := v2_loc1 + Int32.ofInt 1) (lv' := [(1, .int (v2_loc1 + Int32.ofInt 1)), (0, .ref oc)]) hx hb dX0_forgetAllSeen_15 hl (k := 1) rfl (rfl) (Nat.le_of_ble_eq_true rfl) rfl (fun ls hl => ?_)
        have b11 : iv 1 96 (v2_loc1 + Int32.ofInt 1) := iv_add b8 ivo_1 (by decide) (by decide) (by decide) (by decide)
        refine lv_goto (tgt := 2) hx hb dX0_forgetAllSeen_18 rfl ?_
        exact ih2 f9 (v2_loc1 + Int32.ofInt 1) _ _ _ (ms_up (c := 1) (d := 0) b8 hm2 (by decide) (iv_inc 1 b8 (by decide) (by decide) (by decide) (by decide)) (by decide) rfl) (hf10) ((iv_w b11 (by decide) (by decide))) (hP) (hD) hS (lv_sub hl [1, 0] rfl)
  refine lv_iconst (v := 0) hx hb dX0_forgetAllSeen_0 ic_0 ?_
  refine lv_istore_n (lv' := [(1, .int 0), (0, .ref oc)]) hx hb dX0_forgetAllSeen_1 rfl hl (Nat.le_of_ble_eq_true rfl) rfl (fun ls hl => ?_)
  exact hJ2 _ f_c_seen 0 _ _ _ (Nat.lt_succ_self _) (hf_c_seen) ((iv_w ivk_0 (by decide) (by decide))) (hP) (hD) hS (lv_sub hl [1, 0] rfl)
def rm_s0_beginAnew : Room := { frames := 1, cells := 0, slots := 0, locals := 21 }
set_option maxHeartbeats 4000000 in
set_option maxRecDepth 100000 in
theorem s0_beginAnew (l : Launch) (dC : Nat → ClassId) (dI : Nat → Nat → Nat) (kB kI kJ kZ kC kS : ClassId) (sz : Nat) (oc : Nat) (c_seen : Nat) (c_sent : Nat) (c_turn : Nat) (c_counter : Nat) (x_c : Nat → Int32) (f_c_seen : Nat → Int64) (f_c_sent : Nat → Int32) (f_c_turn : Nat → Int32) (f_c_counter : Nat → Int32) (p0 : Int32) (hf_c_seen : sI f_c_seen) (hf_c_turn : fI (fun _ => 0) (fun _ => 59) f_c_turn) : Met l yX0_beginAnew wsX0_beginAnew rm_s0_beginAnew (va_Pc [.ref oc, .int p0] (fun U => U.heap.size = sz ∧ va_P (dC, dI) vwCl [(oc, .inr (0, oX0 c_seen c_sent c_turn c_counter x_c)), (c_seen, .inl (kJ, 96, .inr (.inl f_c_seen))), (c_sent, .inl (kI, 30, .inl f_c_sent)), (c_turn, .inl (kI, 12, .inl f_c_turn)), (c_counter, .inl (kI, 12, .inl f_c_counter))] U.heap ∧ kE dC dI kB kI kJ kZ kC kS U ∧ va_D (fun _ => True) [(oc, .inr (0, oX0 c_seen c_sent c_turn c_counter x_c)), (c_seen, .inl (kJ, 96, .inr (.inl f_c_seen))), (c_sent, .inl (kI, 30, .inl f_c_sent)), (c_turn, .inl (kI, 12, .inl f_c_turn)), (c_counter, .inl (kI, 12, .inl f_c_counter))])) (va_Qv (fun (_ : Unit) => True) (fun _ t => ∃ (x_c' : Nat → Int32) (f_c_seen' : Nat → Int64) (f_c_sent' : Nat → Int32) (f_c_turn' : Nat → Int32) (f_c_counter' : Nat → Int32), sI f_c_seen' ∧ fI (fun _ => 0) (fun _ => 59) f_c_turn' ∧ va_P (dC, dI) vwCl [(oc, .inr (0, oX0 c_seen c_sent c_turn c_counter x_c')), (c_seen, .inl (kJ, 96, .inr (.inl f_c_seen'))), (c_sent, .inl (kI, 30, .inl f_c_sent')), (c_turn, .inl (kI, 12, .inl f_c_turn')), (c_counter, .inl (kI, 12, .inl f_c_counter'))] t.heap ∧ va_D (va_A [(oc, .inr (0, oX0 c_seen c_sent c_turn c_counter x_c)), (c_seen, .inl (kJ, 96, .inr (.inl f_c_seen))), (c_sent, .inl (kI, 30, .inl f_c_sent)), (c_turn, .inl (kI, 12, .inl f_c_turn)), (c_counter, .inl (kI, 12, .inl f_c_counter))] sz) [(oc, .inr (0, oX0 c_seen c_sent c_turn c_counter x_c')), (c_seen, .inl (kJ, 96, .inr (.inl f_c_seen'))), (c_sent, .inl (kI, 30, .inl f_c_sent')), (c_turn, .inl (kI, 12, .inl f_c_turn')), (c_counter, .inl (kI, 12, .inl f_c_counter'))]) (va_A [(oc, .inr (0, oX0 c_seen c_sent c_turn c_counter x_c)), (c_seen, .inl (kJ, 96, .inr (.inl f_c_seen))), (c_sent, .inl (kI, 30, .inl f_c_sent)), (c_turn, .inl (kI, 12, .inl f_c_turn)), (c_counter, .inl (kI, 12, .inl f_c_counter))] sz)) 0 0 (va_A [(oc, .inr (0, oX0 c_seen c_sent c_turn c_counter x_c)), (c_seen, .inl (kJ, 96, .inr (.inl f_c_seen))), (c_sent, .inl (kI, 30, .inl f_c_sent)), (c_turn, .inl (kI, 12, .inl f_c_turn)), (c_counter, .inl (kI, 12, .inl f_c_counter))] sz) := by
  refine Met.ofW (cc := cX0_beginAnew) (maxL := 3) (ret := none) (by decide) rfl ?_
  intro p e s m args0 below meth c s₁ B hml hv
  obtain ⟨hargs, hsz, hP, hE, hD0⟩ := hv
  have hx := B.exec
  have hb := B.bytes
  have hr := B.returns
  have hts := atoms_spec (ws := wsX0_beginAnew) B.pre
  have hown : s.vm.findClass RX0 = some m.cls := findClass_of_methodNamed B.named
  have hlocks := B.notSynchronized
  have hK := hE.1
  have hin0 : ∀ w ∈ wsX00, w ∈ wsX0_beginAnew := fun _ h9 => List.mem_cons_of_mem _ (List.mem_append_right _ h9)
  have hw_0 := hts (.fieldLink RX0 25 "PathProber$Condition" "loss" "I") (List.mem_of_getElem? (i := 3) rfl)
  have hw_1 := hts (.fieldLink RX0 29 "PathProber$Condition" "opened" "I") (List.mem_of_getElem? (i := 4) rfl)
  have hw_2 := hts (.fieldLink RX0 32 "PathProber$Condition" "open" "I") (List.mem_of_getElem? (i := 5) rfl)
  have hw_3 := hts (.fieldLink RX0 35 "PathProber$Condition" "deep" "I") (List.mem_of_getElem? (i := 6) rfl)
  have hw_4 := hts (.fieldLink RX0 38 "PathProber$Condition" "muted" "I") (List.mem_of_getElem? (i := 7) rfl)
  have hw_5 := hts (.fieldLink RX0 41 "PathProber$Condition" "lost" "I") (List.mem_of_getElem? (i := 8) rfl)
  have hw_6 := hts (.fieldLink RX0 19 "PathProber$Condition" "turn" "[I") (List.mem_of_getElem? (i := 1) rfl)
  have hw_7 := hts (.fieldLink RX0 22 "PathProber$Condition" "counter" "[I") (List.mem_of_getElem? (i := 2) rfl)
  subst hsz
  have hD := hD0.self (sz := s.heap.size)
  generalize hAe : va_A [(oc, .inr (0, oX0 c_seen c_sent c_turn c_counter x_c)), (c_seen, .inl (kJ, 96, .inr (.inl f_c_seen))), (c_sent, .inl (kI, 30, .inl f_c_sent)), (c_turn, .inl (kI, 12, .inl f_c_turn)), (c_counter, .inl (kI, 12, .inl f_c_counter))] s.heap.size = A at hD ⊢
  have hA : ∀ q : Nat, s.heap.size ≤ q → A q := fun q h => by rw [← hAe]; exact Or.inr h
  have hS : va_S A s.heap s.heap [] := va_S.rf
  have hP : va_P (dC, dI) vwCl [(oc, .inr (0, oX0 c_seen c_sent c_turn c_counter x_c)), (c_seen, .inl (kJ, 96, .inr (.inl f_c_seen))), (c_sent, .inl (kI, 30, .inl f_c_sent)), (c_turn, .inl (kI, 12, .inl f_c_turn)), (c_counter, .inl (kI, 12, .inl f_c_counter))] s.heap := hP
  have hl := lv_entry ([.ref oc, .int p0]) (n := 3) (Nat.le_of_ble_eq_true rfl)
  have hla : entryFrame m args0 3 = entryFrame m ([.ref oc, .int p0] : List Value).toArray 3 := by rw [hargs]
  rw [hla, lg_entry_eq]
  generalize (lg_sl ([.ref oc, .int p0]) ++ List.replicate (3 - (lg_sl ([.ref oc, .int p0])).length) Slot.unset).toArray = ls at hl ⊢
  have hl : lv_has ls 3 [(0, .ref oc), (1, .int p0)] := hl
  have hJ6 : ∀ (n : Nat) (g6_1 : Nat → Int64) (g6_2 : Nat → Int32) (g6_3 : Nat → Int32) (g6_4 : Nat → Int32) (v6_loc2 : Int32) (H : Heap) (locs : List Loc) (ls : Array Slot), (12 - v6_loc2.toInt).toNat < n → sI g6_1 → fI (fun _ => 0) (fun _ => 59) g6_3 → iv 0 12 v6_loc2 → va_P (dC, dI) vwCl [(oc, .inr (0, oX0 c_seen c_sent c_turn c_counter x_c)), (c_seen, .inl (kJ, 96, .inr (.inl g6_1))), (c_sent, .inl (kI, 30, .inl g6_2)), (c_turn, .inl (kI, 12, .inl g6_3)), (c_counter, .inl (kI, 12, .inl g6_4))] H → va_D A [(oc, .inr (0, oX0 c_seen c_sent c_turn c_counter x_c)), (c_seen, .inl (kJ, 96, .inr (.inl g6_1))), (c_sent, .inl (kI, 30, .inl g6_2)), (c_turn, .inl (kI, 12, .inl g6_3)), (c_counter, .inl (kI, 12, .inl g6_4))] → va_S A s.heap H locs → lv_has ls 3 [(0, .ref oc), (1, .int p0), (2, .int v6_loc2)] → W p l e (headSpec wsX0_beginAnew rm_s0_beginAnew).room s m args0 below meth c H locs (0) (0) (MQ below (va_Qv (fun (_ : Unit) => True) (fun _ t => ∃ (x_c' : Nat → Int32) (f_c_seen' : Nat → Int64) (f_c_sent' : Nat → Int32) (f_c_turn' : Nat → Int32) (f_c_counter' : Nat → Int32), sI f_c_seen' ∧ fI (fun _ => 0) (fun _ => 59) f_c_turn' ∧ va_P (dC, dI) vwCl [(oc, .inr (0, oX0 c_seen c_sent c_turn c_counter x_c')), (c_seen, .inl (kJ, 96, .inr (.inl f_c_seen'))), (c_sent, .inl (kI, 30, .inl f_c_sent')), (c_turn, .inl (kI, 12, .inl f_c_turn')), (c_counter, .inl (kI, 12, .inl f_c_counter'))] t.heap ∧ va_D A [(oc, .inr (0, oX0 c_seen c_sent c_turn c_counter x_c')), (c_seen, .inl (kJ, 96, .inr (.inl f_c_seen'))), (c_sent, .inl (kI, 30, .inl f_c_sent')), (c_turn, .inl (kI, 12, .inl f_c_turn')), (c_counter, .inl (kI, 12, .inl f_c_counter'))]) A) args0 s 0 0 A) (F0 m 6 ls []) := by
    intro n
    induction n with
    | zero => intro g6_1 g6_2 g6_3 g6_4 v6_loc2 H locs ls hm6; exact absurd hm6 (Nat.not_lt_zero _)
    | succ n ih6 =>
      intro g6_1 g6_2 g6_3 g6_4 v6_loc2 H locs ls hm6 hI6_1 hI6_3 h6_3 hP hD hS hl
      refine lv_iload_n hx hb dX0_beginAnew_6 rfl (lv_at hl 2 rfl) ?_
      refine lv_bipush (v := 12) hx hb dX0_beginAnew_7 bp_12 ?_
      refine lv_icmp_ge (tgt := 32) hx hb dX0_beginAnew_9 rfl (fun c1 => ?_) (fun c1 => ?_)
      · have b2 : iv 12 12 v6_loc2 := iv_leR c1 ivk_12 h6_3 (by decide) (by decide)
        refine lv_aload_n hx hb dX0_beginAnew_32 rfl (lv_at hl 0 rfl) ?_
        refine lv_iload_n hx hb dX0_beginAnew_33 rfl (lv_at hl 1 rfl) ?_
        refine va_put (D := (dC, dI)) (ci := 0) (v := .int p0) (ty := .int) (C := RX0) (T := TX0) (N := 10) hx hb hts hin0 tyX0 tyX0_ok nmX0 hown hK hP hD hS 0 rfl rfl 4 (by decide) hw_0 (fun _ h9 => h9) rfl (by decide +kernel) rfl rfl (Nat.le_of_ble_eq_true rfl) dX0_beginAnew_34 (fun H locs hPa hDa hS => ?_)
        clear hP hD
        have hP : va_P (dC, dI) vwCl [(oc, .inr (0, oX0 c_seen c_sent c_turn c_counter (upd x_c 0 p0))), (c_seen, .inl (kJ, 96, .inr (.inl g6_1))), (c_sent, .inl (kI, 30, .inl g6_2)), (c_turn, .inl (kI, 12, .inl g6_3)), (c_counter, .inl (kI, 12, .inl g6_4))] H := hPa
        have hD : va_D A [(oc, .inr (0, oX0 c_seen c_sent c_turn c_counter (upd x_c 0 p0))), (c_seen, .inl (kJ, 96, .inr (.inl g6_1))), (c_sent, .inl (kI, 30, .inl g6_2)), (c_turn, .inl (kI, 12, .inl g6_3)), (c_counter, .inl (kI, 12, .inl g6_4))] := hDa
        clear hPa hDa
        refine lv_aload_n hx hb dX0_beginAnew_37 rfl (lv_at hl 0 rfl) ?_
        refine lv_iconst (v := 0) hx hb dX0_beginAnew_38 ic_0 ?_
        refine va_put (D := (dC, dI)) (ci := 0) (v := .int 0) (ty := .int) (C := RX0) (T := TX0) (N := 10) hx hb hts hin0 tyX0 tyX0_ok nmX0 hown hK hP hD hS 0 rfl rfl 5 (by decide) hw_1 (fun _ h9 => h9) rfl (by decide +kernel) rfl rfl (Nat.le_of_ble_eq_true rfl) dX0_beginAnew_39 (fun H locs hPa hDa hS => ?_)
        clear hP hD
        have hP : va_P (dC, dI) vwCl [(oc, .inr (0, oX0 c_seen c_sent c_turn c_counter (upd (upd x_c 0 p0) 1 0))), (c_seen, .inl (kJ, 96, .inr (.inl g6_1))), (c_sent, .inl (kI, 30, .inl g6_2)), (c_turn, .inl (kI, 12, .inl g6_3)), (c_counter, .inl (kI, 12, .inl g6_4))] H := hPa
        have hD : va_D A [(oc, .inr (0, oX0 c_seen c_sent c_turn c_counter (upd (upd x_c 0 p0) 1 0))), (c_seen, .inl (kJ, 96, .inr (.inl g6_1))), (c_sent, .inl (kI, 30, .inl g6_2)), (c_turn, .inl (kI, 12, .inl g6_3)), (c_counter, .inl (kI, 12, .inl g6_4))] := hDa
        clear hPa hDa
        refine lv_aload_n hx hb dX0_beginAnew_42 rfl (lv_at hl 0 rfl) ?_
        refine lv_iconst (v := 0) hx hb dX0_beginAnew_43 ic_0 ?_
        refine va_put (D := (dC, dI)) (ci := 0) (v := .int 0) (ty := .int) (C := RX0) (T := TX0) (N := 10) hx hb hts hin0 tyX0 tyX0_ok nmX0 hown hK hP hD hS 0 rfl rfl 6 (by decide) hw_2 (fun _ h9 => h9) rfl (by decide +kernel) rfl rfl (Nat.le_of_ble_eq_true rfl) dX0_beginAnew_44 (fun H locs hPa hDa hS => ?_)
        clear hP hD
        have hP : va_P (dC, dI) vwCl [(oc, .inr (0, oX0 c_seen c_sent c_turn c_counter (upd (upd (upd x_c 0 p0) 1 0) 2 0))), (c_seen, .inl (kJ, 96, .inr (.inl g6_1))), (c_sent, .inl (kI, 30, .inl g6_2)), (c_turn, .inl (kI, 12, .inl g6_3)), (c_counter, .inl (kI, 12, .inl g6_4))] H := hPa
        have hD : va_D A [(oc, .inr (0, oX0 c_seen c_sent c_turn c_counter (upd (upd (upd x_c 0 p0) 1 0) 2 0))), (c_seen, .inl (kJ, 96, .inr (.inl g6_1))), (c_sent, .inl (kI, 30, .inl g6_2)), (c_turn, .inl (kI, 12, .inl g6_3)), (c_counter, .inl (kI, 12, .inl g6_4))] := hDa
        clear hPa hDa
        refine lv_aload_n hx hb dX0_beginAnew_47 rfl (lv_at hl 0 rfl) ?_
        refine lv_iconst (v := 0) hx hb dX0_beginAnew_48 ic_0 ?_
        refine va_put (D := (dC, dI)) (ci := 0) (v := .int 0) (ty := .int) (C := RX0) (T := TX0) (N := 10) hx hb hts hin0 tyX0 tyX0_ok nmX0 hown hK hP hD hS 0 rfl rfl 7 (by decide) hw_3 (fun _ h9 => h9) rfl (by decide +kernel) rfl rfl (Nat.le_of_ble_eq_true rfl) dX0_beginAnew_49 (fun H locs hPa hDa hS => ?_)
        clear hP hD
        have hP : va_P (dC, dI) vwCl [(oc, .inr (0, oX0 c_seen c_sent c_turn c_counter (upd (upd (upd (upd x_c 0 p0) 1 0) 2 0) 3 0))), (c_seen, .inl (kJ, 96, .inr (.inl g6_1))), (c_sent, .inl (kI, 30, .inl g6_2)), (c_turn, .inl (kI, 12, .inl g6_3)), (c_counter, .inl (kI, 12, .inl g6_4))] H := hPa
        have hD : va_D A [(oc, .inr (0, oX0 c_seen c_sent c_turn c_counter (upd (upd (upd (upd x_c 0 p0) 1 0) 2 0) 3 0))), (c_seen, .inl (kJ, 96, .inr (.inl g6_1))), (c_sent, .inl (kI, 30, .inl g6_2)), (c_turn, .inl (kI, 12, .inl g6_3)), (c_counter, .inl (kI, 12, .inl g6_4))] := hDa
        clear hPa hDa
        refine lv_aload_n hx hb dX0_beginAnew_52 rfl (lv_at hl 0 rfl) ?_
        refine lv_iconst (v := 0) hx hb dX0_beginAnew_53 ic_0 ?_
        refine va_put (D := (dC, dI)) (ci := 0) (v := .int 0) (ty := .int) (C := RX0) (T := TX0) (N := 10) hx hb hts hin0 tyX0 tyX0_ok nmX0 hown hK hP hD hS 0 rfl rfl 8 (by decide) hw_4 (fun _ h9 => h9) rfl (by decide +kernel) rfl rfl (Nat.le_of_ble_eq_true rfl) dX0_beginAnew_54 (fun H locs hPa hDa hS => ?_)
        clear hP hD
        have hP : va_P (dC, dI) vwCl [(oc, .inr (0, oX0 c_seen c_sent c_turn c_counter (upd (upd (upd (upd (upd x_c 0 p0) 1 0) 2 0) 3 0) 4 0))), (c_seen, .inl (kJ, 96, .inr (.inl g6_1))), (c_sent, .inl (kI, 30, .inl g6_2)), (c_turn, .inl (kI, 12, .inl g6_3)), (c_counter, .inl (kI, 12, .inl g6_4))] H := hPa
        have hD : va_D A [(oc, .inr (0, oX0 c_seen c_sent c_turn c_counter (upd (upd (upd (upd (upd x_c 0 p0) 1 0) 2 0) 3 0) 4 0))), (c_seen, .inl (kJ, 96, .inr (.inl g6_1))), (c_sent, .inl (kI, 30, .inl g6_2)), (c_turn, .inl (kI, 12, .inl g6_3)), (c_counter, .inl (kI, 12, .inl g6_4))] := hDa
        clear hPa hDa
        refine lv_aload_n hx hb dX0_beginAnew_57 rfl (lv_at hl 0 rfl) ?_
        refine lv_iconst (v := 0) hx hb dX0_beginAnew_58 ic_0 ?_
        refine va_put (D := (dC, dI)) (ci := 0) (v := .int 0) (ty := .int) (C := RX0) (T := TX0) (N := 10) hx hb hts hin0 tyX0 tyX0_ok nmX0 hown hK hP hD hS 0 rfl rfl 9 (by decide) hw_5 (fun _ h9 => h9) rfl (by decide +kernel) rfl rfl (Nat.le_of_ble_eq_true rfl) dX0_beginAnew_59 (fun H locs hPa hDa hS => ?_)
        clear hP hD
        have hP : va_P (dC, dI) vwCl [(oc, .inr (0, oX0 c_seen c_sent c_turn c_counter (upd (upd (upd (upd (upd (upd x_c 0 p0) 1 0) 2 0) 3 0) 4 0) 5 0))), (c_seen, .inl (kJ, 96, .inr (.inl g6_1))), (c_sent, .inl (kI, 30, .inl g6_2)), (c_turn, .inl (kI, 12, .inl g6_3)), (c_counter, .inl (kI, 12, .inl g6_4))] H := hPa
        have hD : va_D A [(oc, .inr (0, oX0 c_seen c_sent c_turn c_counter (upd (upd (upd (upd (upd (upd x_c 0 p0) 1 0) 2 0) 3 0) 4 0) 5 0))), (c_seen, .inl (kJ, 96, .inr (.inl g6_1))), (c_sent, .inl (kI, 30, .inl g6_2)), (c_turn, .inl (kI, 12, .inl g6_3)), (c_counter, .inl (kI, 12, .inl g6_4))] := hDa
        clear hPa hDa
        have hP9 := hP
        have hD9 := hD
        exact W.vret hx hb hr (fun t ht hW => ⟨⟨(), rfl, trivial, upd (upd (upd (upd (upd (upd x_c 0 p0) 1 0) 2 0) 3 0) 4 0) 5 0, g6_1, g6_2, g6_3, g6_4, hI6_1, hI6_3, by rw [ht]; exact hP9, hD9⟩, hS.F ht⟩) hS.2.2 dX0_beginAnew_62
      · have b3 : iv 0 11 v6_loc2 := iv_ltL (Int32.not_le.mp c1) h6_3 ivk_12 (by decide) (by decide)
        refine lv_aload_n hx hb dX0_beginAnew_12 rfl (lv_at hl 0 rfl) ?_
        refine va_get (D := (dC, dI)) (ci := 0) (v := .ref c_turn) (C := RX0) (T := TX0) (N := 10) hx hb hts hin0 hown hK hP 0 rfl rfl 2 (Nat.le_of_ble_eq_true rfl) hw_6 (fun _ h9 => h9) rfl dX0_beginAnew_13 ?_
        refine lv_iload_n hx hb dX0_beginAnew_16 rfl (lv_at hl 2 rfl) ?_
        refine lv_iconst (v := 0) hx hb dX0_beginAnew_17 ic_0 ?_
        refine va_iast hx hb hK hP hD hS 3 1 rfl rfl (iv_in b3 (by decide) (by decide)) dX0_beginAnew_18 (fun H locs hPa hDa hS => ?_)
        clear hP hD
        have hP : va_P (dC, dI) vwCl [(oc, .inr (0, oX0 c_seen c_sent c_turn c_counter x_c)), (c_seen, .inl (kJ, 96, .inr (.inl g6_1))), (c_sent, .inl (kI, 30, .inl g6_2)), (c_turn, .inl (kI, 12, .inl (upd g6_3 v6_loc2.toNatClampNeg 0))), (c_counter, .inl (kI, 12, .inl g6_4))] H := hPa
        have hD : va_D A [(oc, .inr (0, oX0 c_seen c_sent c_turn c_counter x_c)), (c_seen, .inl (kJ, 96, .inr (.inl g6_1))), (c_sent, .inl (kI, 30, .inl g6_2)), (c_turn, .inl (kI, 12, .inl (upd g6_3 v6_loc2.toNatClampNeg 0))), (c_counter, .inl (kI, 12, .inl g6_4))] := hDa
        clear hPa hDa
        have hf5 : fI (fun _ => 0) (fun _ => 59) (upd g6_3 v6_loc2.toNatClampNeg 0) := fI_u hI6_3 (k := v6_loc2.toNatClampNeg) ((iv_w ivk_0 (by decide) (by decide)))
        generalize (upd g6_3 v6_loc2.toNatClampNeg 0) = f4 at hP hD hf5
        refine lv_aload_n hx hb dX0_beginAnew_19 rfl (lv_at hl 0 rfl) ?_
        refine va_get (D := (dC, dI)) (ci := 0) (v := .ref c_counter) (C := RX0) (T := TX0) (N := 10) hx hb hts hin0 hown hK hP 0 rfl rfl 3 (Nat.le_of_ble_eq_true rfl) hw_7 (fun _ h9 => h9) rfl dX0_beginAnew_20 ?_
        refine lv_iload_n hx hb dX0_beginAnew_23 rfl (lv_at hl 2 rfl) ?_
        refine lv_iconst (v := 0) hx hb dX0_beginAnew_24 ic_0 ?_
        refine va_iast hx hb hK hP hD hS 4 1 rfl rfl (iv_in b3 (by decide) (by decide)) dX0_beginAnew_25 (fun H locs hPa hDa hS => ?_)
        clear hP hD
        have hP : va_P (dC, dI) vwCl [(oc, .inr (0, oX0 c_seen c_sent c_turn c_counter x_c)), (c_seen, .inl (kJ, 96, .inr (.inl g6_1))), (c_sent, .inl (kI, 30, .inl g6_2)), (c_turn, .inl (kI, 12, .inl f4)), (c_counter, .inl (kI, 12, .inl (upd g6_4 v6_loc2.toNatClampNeg 0)))] H := hPa
        have hD : va_D A [(oc, .inr (0, oX0 c_seen c_sent c_turn c_counter x_c)), (c_seen, .inl (kJ, 96, .inr (.inl g6_1))), (c_sent, .inl (kI, 30, .inl g6_2)), (c_turn, .inl (kI, 12, .inl f4)), (c_counter, .inl (kI, 12, .inl (upd g6_4 v6_loc2.toNatClampNeg 0)))] := hDa
        clear hPa hDa
        generalize (upd g6_4 v6_loc2.toNatClampNeg 0) = f6 at hP hD
        refine lv_iinc (v := v6_loc2 + Int32.ofInt 1) (lv' := [(2, .int (v6_loc2 + Int32.ofInt 1)), (0, .ref oc), (1, .int p0)]) hx hb dX0_beginAnew_26 hl (k := 2) rfl (rfl) (Nat.le_of_ble_eq_true rfl) rfl (fun ls hl => ?_)
        have b7 : iv 1 12 (v6_loc2 + Int32.ofInt 1) := iv_add b3 ivo_1 (by decide) (by decide) (by decide) (by decide)
        refine lv_goto (tgt := 6) hx hb dX0_beginAnew_29 rfl ?_
        exact ih6 g6_1 g6_2 f4 f6 (v6_loc2 + Int32.ofInt 1) _ _ _ (ms_up (c := 1) (d := 0) b3 hm6 (by decide) (iv_inc 1 b3 (by decide) (by decide) (by decide) (by decide)) (by decide) rfl) (hI6_1) (hf5) ((iv_w b7 (by decide) (by decide))) (hP) (hD) hS (lv_sub hl [1, 2, 0] rfl)
  refine lv_aload_n hx hb dX0_beginAnew_0 rfl (lv_at hl 0 rfl) ?_
  obtain ⟨hPc, hDc, hFc, hJn⟩ := cl_a (wc := [(oc, .inr (0, oX0 c_seen c_sent c_turn c_counter x_c)), (c_seen, .inl (kJ, 96, .inr (.inl f_c_seen))), (c_sent, .inl (kI, 30, .inl f_c_sent))]) (wr := [(c_turn, .inl (kI, 12, .inl f_c_turn)), (c_counter, .inl (kI, 12, .inl f_c_counter))]) hP hD hS hA [0, 1, 2] [3, 4] rfl rfl (by decide +kernel)
  refine va_callv (va_runV (As := []) (rest := []) ⟨hx, hb, hml, hown, hts⟩ (s0_forgetAllSeen l dC dI kB kI kJ kZ kC kS s.heap.size oc c_seen c_sent c_turn c_counter x_c f_c_seen f_c_sent (hf_c_seen)) (cwV 0 hts gX0_beginAnew_X0_forgetAllSeen rfl rfl rfl (by decide +kernel) ⟨Nat.le_of_ble_eq_true rfl, Nat.le_of_ble_eq_true rfl⟩) ⟨fun a U g mk q => by obtain ⟨q0, q1, qP, qE, qD⟩ := q; exact ⟨q0, q1, qP, kE_call qE, qD⟩, va_recv hK hP (ci := 0) (q0 := 0) rfl rfl, fun U hU hW => ⟨rfl, by rw [hU], by rw [hU]; exact hPc, kE_warm hW hE, hDc.weaken (fun _ _ _ _ => trivial)⟩⟩ rfl rfl hl.1 rfl (lv_room (Nat.le_of_ble_eq_true rfl)) dX0_beginAnew_1 ⟨Nat.le_of_ble_eq_true rfl, Nat.le_of_ble_eq_true rfl⟩) hS (fun q _ h => hFc q h) hFc (fun u t H locs ht hvm w9 hB hz1 hk1 hS => ?_)
  obtain ⟨f10, f11, hq12, hP1, hD1⟩ := hB
  try dsimp only at w9
  obtain ⟨hPa, hDa⟩ := hJn (w1 := [(oc, .inr (0, oX0 c_seen c_sent c_turn c_counter x_c)), (c_seen, .inl (kJ, 96, .inr (.inl f10))), (c_sent, .inl (kI, 30, .inl f11))]) hk1 ht hP1 hD1
  clear hP hD hPc hDc hFc hJn hP1 hD1 hk1
  have hP : va_P (dC, dI) vwCl [(c_turn, .inl (kI, 12, .inl f_c_turn)), (c_counter, .inl (kI, 12, .inl f_c_counter)), (oc, .inr (0, oX0 c_seen c_sent c_turn c_counter x_c)), (c_seen, .inl (kJ, 96, .inr (.inl f10))), (c_sent, .inl (kI, 30, .inl f11))] H := hPa
  have hD : va_D A [(c_turn, .inl (kI, 12, .inl f_c_turn)), (c_counter, .inl (kI, 12, .inl f_c_counter)), (oc, .inr (0, oX0 c_seen c_sent c_turn c_counter x_c)), (c_seen, .inl (kJ, 96, .inr (.inl f10))), (c_sent, .inl (kI, 30, .inl f11))] := hDa
  clear hPa hDa
  refine W.widen (k := 0) (n := 0) (Nat.le_of_ble_eq_true rfl) (Nat.le_of_ble_eq_true rfl) ?_
  refine lv_iconst (v := 0) hx hb dX0_beginAnew_4 ic_0 ?_
  refine lv_istore_n (lv' := [(2, .int 0), (0, .ref oc), (1, .int p0)]) hx hb dX0_beginAnew_5 rfl hl (Nat.le_of_ble_eq_true rfl) rfl (fun ls hl => ?_)
  have hPD9 := cl_s (wc := [(oc, .inr (0, oX0 c_seen c_sent c_turn c_counter x_c)), (c_seen, .inl (kJ, 96, .inr (.inl f10))), (c_sent, .inl (kI, 30, .inl f11)), (c_turn, .inl (kI, 12, .inl f_c_turn)), (c_counter, .inl (kI, 12, .inl f_c_counter))]) hP hD [2, 3, 4, 0, 1] rfl (by decide +kernel)
  exact hJ6 _ f10 f11 f_c_turn f_c_counter 0 _ _ _ (Nat.lt_succ_self _) (hq12) (hf_c_turn) ((iv_w ivk_0 (by decide) (by decide))) (hPD9.1) (hPD9.2) hS (lv_sub hl [1, 2, 0] rfl)
def rm_s0_copyFrom : Room := { frames := 1, cells := 0, slots := 0, locals := 60 }
set_option maxHeartbeats 4000000 in
set_option maxRecDepth 100000 in
theorem s0_copyFrom (l : Launch) (dC : Nat → ClassId) (dI : Nat → Nat → Nat) (kB kI kJ kZ kC kS : ClassId) (sz : Nat) (oc : Nat) (c_seen : Nat) (c_sent : Nat) (c_turn : Nat) (c_counter : Nat) (x_c : Nat → Int32) (f_c_seen : Nat → Int64) (f_c_sent : Nat → Int32) (f_c_turn : Nat → Int32) (f_c_counter : Nat → Int32) (d : Nat) (d_seen : Nat) (d_sent : Nat) (d_turn : Nat) (d_counter : Nat) (x_d : Nat → Int32) (f_d_seen : Nat → Int64) (f_d_sent : Nat → Int32) (f_d_turn : Nat → Int32) (f_d_counter : Nat → Int32) (hf_c_seen : sI f_c_seen) (hf_c_turn : fI (fun _ => 0) (fun _ => 59) f_c_turn) (hf_d_seen : sI f_d_seen) (hf_d_turn : fI (fun _ => 0) (fun _ => 59) f_d_turn) : Met l yX0_copyFrom wsX0_copyFrom rm_s0_copyFrom (va_Pc [.ref oc, .ref d] (fun U => U.heap.size = sz ∧ va_P (dC, dI) vwCl [(oc, .inr (0, oX0 c_seen c_sent c_turn c_counter x_c)), (c_seen, .inl (kJ, 96, .inr (.inl f_c_seen))), (c_sent, .inl (kI, 30, .inl f_c_sent)), (c_turn, .inl (kI, 12, .inl f_c_turn)), (c_counter, .inl (kI, 12, .inl f_c_counter)), (d, .inr (0, oX0 d_seen d_sent d_turn d_counter x_d)), (d_seen, .inl (kJ, 96, .inr (.inl f_d_seen))), (d_sent, .inl (kI, 30, .inl f_d_sent)), (d_turn, .inl (kI, 12, .inl f_d_turn)), (d_counter, .inl (kI, 12, .inl f_d_counter))] U.heap ∧ kE dC dI kB kI kJ kZ kC kS U ∧ va_D (fun _ => True) [(oc, .inr (0, oX0 c_seen c_sent c_turn c_counter x_c)), (c_seen, .inl (kJ, 96, .inr (.inl f_c_seen))), (c_sent, .inl (kI, 30, .inl f_c_sent)), (c_turn, .inl (kI, 12, .inl f_c_turn)), (c_counter, .inl (kI, 12, .inl f_c_counter)), (d, .inr (0, oX0 d_seen d_sent d_turn d_counter x_d)), (d_seen, .inl (kJ, 96, .inr (.inl f_d_seen))), (d_sent, .inl (kI, 30, .inl f_d_sent)), (d_turn, .inl (kI, 12, .inl f_d_turn)), (d_counter, .inl (kI, 12, .inl f_d_counter))])) (va_Qv (fun (_ : Unit) => True) (fun _ t => ∃ (x_c' : Nat → Int32) (f_c_seen' : Nat → Int64) (f_c_sent' : Nat → Int32) (f_c_turn' : Nat → Int32) (f_c_counter' : Nat → Int32), sI f_c_seen' ∧ fI (fun _ => 0) (fun _ => 59) f_c_turn' ∧ va_P (dC, dI) vwCl [(oc, .inr (0, oX0 c_seen c_sent c_turn c_counter x_c')), (c_seen, .inl (kJ, 96, .inr (.inl f_c_seen'))), (c_sent, .inl (kI, 30, .inl f_c_sent')), (c_turn, .inl (kI, 12, .inl f_c_turn')), (c_counter, .inl (kI, 12, .inl f_c_counter')), (d, .inr (0, oX0 d_seen d_sent d_turn d_counter x_d)), (d_seen, .inl (kJ, 96, .inr (.inl f_d_seen))), (d_sent, .inl (kI, 30, .inl f_d_sent)), (d_turn, .inl (kI, 12, .inl f_d_turn)), (d_counter, .inl (kI, 12, .inl f_d_counter))] t.heap ∧ va_D (va_A [(oc, .inr (0, oX0 c_seen c_sent c_turn c_counter x_c)), (c_seen, .inl (kJ, 96, .inr (.inl f_c_seen))), (c_sent, .inl (kI, 30, .inl f_c_sent)), (c_turn, .inl (kI, 12, .inl f_c_turn)), (c_counter, .inl (kI, 12, .inl f_c_counter)), (d, .inr (0, oX0 d_seen d_sent d_turn d_counter x_d)), (d_seen, .inl (kJ, 96, .inr (.inl f_d_seen))), (d_sent, .inl (kI, 30, .inl f_d_sent)), (d_turn, .inl (kI, 12, .inl f_d_turn)), (d_counter, .inl (kI, 12, .inl f_d_counter))] sz) [(oc, .inr (0, oX0 c_seen c_sent c_turn c_counter x_c')), (c_seen, .inl (kJ, 96, .inr (.inl f_c_seen'))), (c_sent, .inl (kI, 30, .inl f_c_sent')), (c_turn, .inl (kI, 12, .inl f_c_turn')), (c_counter, .inl (kI, 12, .inl f_c_counter')), (d, .inr (0, oX0 d_seen d_sent d_turn d_counter x_d)), (d_seen, .inl (kJ, 96, .inr (.inl f_d_seen))), (d_sent, .inl (kI, 30, .inl f_d_sent)), (d_turn, .inl (kI, 12, .inl f_d_turn)), (d_counter, .inl (kI, 12, .inl f_d_counter))]) (va_A [(oc, .inr (0, oX0 c_seen c_sent c_turn c_counter x_c)), (c_seen, .inl (kJ, 96, .inr (.inl f_c_seen))), (c_sent, .inl (kI, 30, .inl f_c_sent)), (c_turn, .inl (kI, 12, .inl f_c_turn)), (c_counter, .inl (kI, 12, .inl f_c_counter)), (d, .inr (0, oX0 d_seen d_sent d_turn d_counter x_d)), (d_seen, .inl (kJ, 96, .inr (.inl f_d_seen))), (d_sent, .inl (kI, 30, .inl f_d_sent)), (d_turn, .inl (kI, 12, .inl f_d_turn)), (d_counter, .inl (kI, 12, .inl f_d_counter))] sz)) 0 0 (va_A [(oc, .inr (0, oX0 c_seen c_sent c_turn c_counter x_c)), (c_seen, .inl (kJ, 96, .inr (.inl f_c_seen))), (c_sent, .inl (kI, 30, .inl f_c_sent)), (c_turn, .inl (kI, 12, .inl f_c_turn)), (c_counter, .inl (kI, 12, .inl f_c_counter)), (d, .inr (0, oX0 d_seen d_sent d_turn d_counter x_d)), (d_seen, .inl (kJ, 96, .inr (.inl f_d_seen))), (d_sent, .inl (kI, 30, .inl f_d_sent)), (d_turn, .inl (kI, 12, .inl f_d_turn)), (d_counter, .inl (kI, 12, .inl f_d_counter))] sz) := by
  refine Met.ofW (cc := cX0_copyFrom) (maxL := 2) (ret := none) (by decide) rfl ?_
  intro p e s m args0 below meth c s₁ B hml hv
  obtain ⟨hargs, hsz, hP, hE, hD0⟩ := hv
  have hx := B.exec
  have hb := B.bytes
  have hr := B.returns
  have hts := atoms_spec (ws := wsX0_copyFrom) B.pre
  have hown : s.vm.findClass RX0 = some m.cls := findClass_of_methodNamed B.named
  have hlocks := B.notSynchronized
  have hK := hE.1
  have hin0 : ∀ w ∈ wsX00, w ∈ wsX0_copyFrom := fun _ h9 => List.mem_cons_of_mem _ (List.mem_append_right _ h9)
  have hw_0 := hts (.fieldLink RX0 9 "PathProber$Condition" "seen" "[J") (List.mem_of_getElem? (i := 1) rfl)
  have hw_1 := hts (.methodLink RX0 47 arraycopyName) (List.mem_of_getElem? (i := 2) rfl)
  have hw_2 := hts (.native arraycopyName) (List.mem_of_getElem? (i := 3) rfl)
  have hw_3 := hts (.static arraycopyName) (List.mem_of_getElem? (i := 4) rfl)
  have hw_4 := hts (.initialized "java/lang/System") (List.mem_of_getElem? (i := 5) rfl)
  have hw_5 := hts (.fieldLink RX0 15 "PathProber$Condition" "sent" "[I") (List.mem_of_getElem? (i := 6) rfl)
  have hw_6 := hts (.fieldLink RX0 19 "PathProber$Condition" "turn" "[I") (List.mem_of_getElem? (i := 7) rfl)
  have hw_7 := hts (.fieldLink RX0 22 "PathProber$Condition" "counter" "[I") (List.mem_of_getElem? (i := 8) rfl)
  have hw_8 := hts (.fieldLink RX0 25 "PathProber$Condition" "loss" "I") (List.mem_of_getElem? (i := 9) rfl)
  have hw_9 := hts (.fieldLink RX0 29 "PathProber$Condition" "opened" "I") (List.mem_of_getElem? (i := 10) rfl)
  have hw_10 := hts (.fieldLink RX0 32 "PathProber$Condition" "open" "I") (List.mem_of_getElem? (i := 11) rfl)
  have hw_11 := hts (.fieldLink RX0 35 "PathProber$Condition" "deep" "I") (List.mem_of_getElem? (i := 12) rfl)
  have hw_12 := hts (.fieldLink RX0 38 "PathProber$Condition" "muted" "I") (List.mem_of_getElem? (i := 13) rfl)
  have hw_13 := hts (.fieldLink RX0 41 "PathProber$Condition" "lost" "I") (List.mem_of_getElem? (i := 14) rfl)
  subst hsz
  have hD := hD0.self (sz := s.heap.size)
  generalize hAe : va_A [(oc, .inr (0, oX0 c_seen c_sent c_turn c_counter x_c)), (c_seen, .inl (kJ, 96, .inr (.inl f_c_seen))), (c_sent, .inl (kI, 30, .inl f_c_sent)), (c_turn, .inl (kI, 12, .inl f_c_turn)), (c_counter, .inl (kI, 12, .inl f_c_counter)), (d, .inr (0, oX0 d_seen d_sent d_turn d_counter x_d)), (d_seen, .inl (kJ, 96, .inr (.inl f_d_seen))), (d_sent, .inl (kI, 30, .inl f_d_sent)), (d_turn, .inl (kI, 12, .inl f_d_turn)), (d_counter, .inl (kI, 12, .inl f_d_counter))] s.heap.size = A at hD ⊢
  have hA : ∀ q : Nat, s.heap.size ≤ q → A q := fun q h => by rw [← hAe]; exact Or.inr h
  have hS : va_S A s.heap s.heap [] := va_S.rf
  have hP : va_P (dC, dI) vwCl [(oc, .inr (0, oX0 c_seen c_sent c_turn c_counter x_c)), (c_seen, .inl (kJ, 96, .inr (.inl f_c_seen))), (c_sent, .inl (kI, 30, .inl f_c_sent)), (c_turn, .inl (kI, 12, .inl f_c_turn)), (c_counter, .inl (kI, 12, .inl f_c_counter)), (d, .inr (0, oX0 d_seen d_sent d_turn d_counter x_d)), (d_seen, .inl (kJ, 96, .inr (.inl f_d_seen))), (d_sent, .inl (kI, 30, .inl f_d_sent)), (d_turn, .inl (kI, 12, .inl f_d_turn)), (d_counter, .inl (kI, 12, .inl f_d_counter))] s.heap := hP
  have hl := lv_entry ([.ref oc, .ref d]) (n := 2) (Nat.le_of_ble_eq_true rfl)
  have hla : entryFrame m args0 2 = entryFrame m ([.ref oc, .ref d] : List Value).toArray 2 := by rw [hargs]
  rw [hla, lg_entry_eq]
  generalize (lg_sl ([.ref oc, .ref d]) ++ List.replicate (2 - (lg_sl ([.ref oc, .ref d])).length) Slot.unset).toArray = ls at hl ⊢
  have hl : lv_has ls 2 [(0, .ref oc), (1, .ref d)] := hl
  refine lv_aload_n hx hb dX0_copyFrom_0 rfl (lv_at hl 1 rfl) ?_
  refine va_get (D := (dC, dI)) (ci := 0) (v := .ref d_seen) (C := RX0) (T := TX0) (N := 10) hx hb hts hin0 hown hK hP 5 rfl rfl 0 (Nat.le_of_ble_eq_true rfl) hw_0 (fun _ h9 => h9) rfl dX0_copyFrom_1 ?_
  refine lv_iconst (v := 0) hx hb dX0_copyFrom_4 ic_0 ?_
  refine lv_aload_n hx hb dX0_copyFrom_5 rfl (lv_at hl 0 rfl) ?_
  refine va_get (D := (dC, dI)) (ci := 0) (v := .ref c_seen) (C := RX0) (T := TX0) (N := 10) hx hb hts hin0 hown hK hP 0 rfl rfl 0 (Nat.le_of_ble_eq_true rfl) hw_0 (fun _ h9 => h9) rfl dX0_copyFrom_6 ?_
  refine lv_iconst (v := 0) hx hb dX0_copyFrom_9 ic_0 ?_
  refine lv_bipush (v := 96) hx hb dX0_copyFrom_10 bp_96 ?_
  refine va_copyl hx hb (by rw [hml]; exact hl.1.symm) hown hw_1 hw_2 hw_3 hw_4 hK hP hD hS 6 1 2 2 rfl rfl rfl rfl rfl (by decide) (by decide) (by decide) (by decide) (by decide) (fun _ _ => rfl) (Nat.le_of_ble_eq_true rfl) (Nat.le_of_ble_eq_true rfl) dX0_copyFrom_12 (fun H locs hPa hDa hS => ?_)
  clear hP hD
  have hP : va_P (dC, dI) vwCl [(oc, .inr (0, oX0 c_seen c_sent c_turn c_counter x_c)), (c_seen, .inl (kJ, 96, .inr (.inl (va_cpy f_d_seen f_c_seen 0 0 96)))), (c_sent, .inl (kI, 30, .inl f_c_sent)), (c_turn, .inl (kI, 12, .inl f_c_turn)), (c_counter, .inl (kI, 12, .inl f_c_counter)), (d, .inr (0, oX0 d_seen d_sent d_turn d_counter x_d)), (d_seen, .inl (kJ, 96, .inr (.inl f_d_seen))), (d_sent, .inl (kI, 30, .inl f_d_sent)), (d_turn, .inl (kI, 12, .inl f_d_turn)), (d_counter, .inl (kI, 12, .inl f_d_counter))] H := hPa
  have hD : va_D A [(oc, .inr (0, oX0 c_seen c_sent c_turn c_counter x_c)), (c_seen, .inl (kJ, 96, .inr (.inl (va_cpy f_d_seen f_c_seen 0 0 96)))), (c_sent, .inl (kI, 30, .inl f_c_sent)), (c_turn, .inl (kI, 12, .inl f_c_turn)), (c_counter, .inl (kI, 12, .inl f_c_counter)), (d, .inr (0, oX0 d_seen d_sent d_turn d_counter x_d)), (d_seen, .inl (kJ, 96, .inr (.inl f_d_seen))), (d_sent, .inl (kI, 30, .inl f_d_sent)), (d_turn, .inl (kI, 12, .inl f_d_turn)), (d_counter, .inl (kI, 12, .inl f_d_counter))] := hDa
  clear hPa hDa
  have hf2 : sI (va_cpy f_d_seen f_c_seen 0 0 96) := sI_cpy hf_d_seen hf_c_seen
  generalize (va_cpy f_d_seen f_c_seen 0 0 96) = f1 at hP hD hf2
  refine lv_aload_n hx hb dX0_copyFrom_15 rfl (lv_at hl 1 rfl) ?_
  refine va_get (D := (dC, dI)) (ci := 0) (v := .ref d_sent) (C := RX0) (T := TX0) (N := 10) hx hb hts hin0 hown hK hP 5 rfl rfl 1 (Nat.le_of_ble_eq_true rfl) hw_5 (fun _ h9 => h9) rfl dX0_copyFrom_16 ?_
  refine lv_iconst (v := 0) hx hb dX0_copyFrom_19 ic_0 ?_
  refine lv_aload_n hx hb dX0_copyFrom_20 rfl (lv_at hl 0 rfl) ?_
  refine va_get (D := (dC, dI)) (ci := 0) (v := .ref c_sent) (C := RX0) (T := TX0) (N := 10) hx hb hts hin0 hown hK hP 0 rfl rfl 1 (Nat.le_of_ble_eq_true rfl) hw_5 (fun _ h9 => h9) rfl dX0_copyFrom_21 ?_
  refine lv_iconst (v := 0) hx hb dX0_copyFrom_24 ic_0 ?_
  refine lv_bipush (v := 30) hx hb dX0_copyFrom_25 bp_30 ?_
  refine va_copyi hx hb (by rw [hml]; exact hl.1.symm) hown hw_1 hw_2 hw_3 hw_4 hK hP hD hS 7 2 1 1 rfl rfl rfl rfl rfl (by decide) (by decide) (by decide) (by decide) (by decide) (fun _ _ => rfl) (Nat.le_of_ble_eq_true rfl) (Nat.le_of_ble_eq_true rfl) dX0_copyFrom_27 (fun H locs hPa hDa hS => ?_)
  clear hP hD
  have hP : va_P (dC, dI) vwCl [(oc, .inr (0, oX0 c_seen c_sent c_turn c_counter x_c)), (c_seen, .inl (kJ, 96, .inr (.inl f1))), (c_sent, .inl (kI, 30, .inl (va_cpy f_d_sent f_c_sent 0 0 30))), (c_turn, .inl (kI, 12, .inl f_c_turn)), (c_counter, .inl (kI, 12, .inl f_c_counter)), (d, .inr (0, oX0 d_seen d_sent d_turn d_counter x_d)), (d_seen, .inl (kJ, 96, .inr (.inl f_d_seen))), (d_sent, .inl (kI, 30, .inl f_d_sent)), (d_turn, .inl (kI, 12, .inl f_d_turn)), (d_counter, .inl (kI, 12, .inl f_d_counter))] H := hPa
  have hD : va_D A [(oc, .inr (0, oX0 c_seen c_sent c_turn c_counter x_c)), (c_seen, .inl (kJ, 96, .inr (.inl f1))), (c_sent, .inl (kI, 30, .inl (va_cpy f_d_sent f_c_sent 0 0 30))), (c_turn, .inl (kI, 12, .inl f_c_turn)), (c_counter, .inl (kI, 12, .inl f_c_counter)), (d, .inr (0, oX0 d_seen d_sent d_turn d_counter x_d)), (d_seen, .inl (kJ, 96, .inr (.inl f_d_seen))), (d_sent, .inl (kI, 30, .inl f_d_sent)), (d_turn, .inl (kI, 12, .inl f_d_turn)), (d_counter, .inl (kI, 12, .inl f_d_counter))] := hDa
  clear hPa hDa
  generalize (va_cpy f_d_sent f_c_sent 0 0 30) = f3 at hP hD
  refine lv_aload_n hx hb dX0_copyFrom_30 rfl (lv_at hl 1 rfl) ?_
  refine va_get (D := (dC, dI)) (ci := 0) (v := .ref d_turn) (C := RX0) (T := TX0) (N := 10) hx hb hts hin0 hown hK hP 5 rfl rfl 2 (Nat.le_of_ble_eq_true rfl) hw_6 (fun _ h9 => h9) rfl dX0_copyFrom_31 ?_
  refine lv_iconst (v := 0) hx hb dX0_copyFrom_34 ic_0 ?_
  refine lv_aload_n hx hb dX0_copyFrom_35 rfl (lv_at hl 0 rfl) ?_
  refine va_get (D := (dC, dI)) (ci := 0) (v := .ref c_turn) (C := RX0) (T := TX0) (N := 10) hx hb hts hin0 hown hK hP 0 rfl rfl 2 (Nat.le_of_ble_eq_true rfl) hw_6 (fun _ h9 => h9) rfl dX0_copyFrom_36 ?_
  refine lv_iconst (v := 0) hx hb dX0_copyFrom_39 ic_0 ?_
  refine lv_bipush (v := 12) hx hb dX0_copyFrom_40 bp_12 ?_
  refine va_copyi hx hb (by rw [hml]; exact hl.1.symm) hown hw_1 hw_2 hw_3 hw_4 hK hP hD hS 8 3 1 1 rfl rfl rfl rfl rfl (by decide) (by decide) (by decide) (by decide) (by decide) (fun _ _ => rfl) (Nat.le_of_ble_eq_true rfl) (Nat.le_of_ble_eq_true rfl) dX0_copyFrom_42 (fun H locs hPa hDa hS => ?_)
  clear hP hD
  have hP : va_P (dC, dI) vwCl [(oc, .inr (0, oX0 c_seen c_sent c_turn c_counter x_c)), (c_seen, .inl (kJ, 96, .inr (.inl f1))), (c_sent, .inl (kI, 30, .inl f3)), (c_turn, .inl (kI, 12, .inl (va_cpy f_d_turn f_c_turn 0 0 12))), (c_counter, .inl (kI, 12, .inl f_c_counter)), (d, .inr (0, oX0 d_seen d_sent d_turn d_counter x_d)), (d_seen, .inl (kJ, 96, .inr (.inl f_d_seen))), (d_sent, .inl (kI, 30, .inl f_d_sent)), (d_turn, .inl (kI, 12, .inl f_d_turn)), (d_counter, .inl (kI, 12, .inl f_d_counter))] H := hPa
  have hD : va_D A [(oc, .inr (0, oX0 c_seen c_sent c_turn c_counter x_c)), (c_seen, .inl (kJ, 96, .inr (.inl f1))), (c_sent, .inl (kI, 30, .inl f3)), (c_turn, .inl (kI, 12, .inl (va_cpy f_d_turn f_c_turn 0 0 12))), (c_counter, .inl (kI, 12, .inl f_c_counter)), (d, .inr (0, oX0 d_seen d_sent d_turn d_counter x_d)), (d_seen, .inl (kJ, 96, .inr (.inl f_d_seen))), (d_sent, .inl (kI, 30, .inl f_d_sent)), (d_turn, .inl (kI, 12, .inl f_d_turn)), (d_counter, .inl (kI, 12, .inl f_d_counter))] := hDa
  clear hPa hDa
  have hf5 : fI (fun _ => 0) (fun _ => 59) (va_cpy f_d_turn f_c_turn 0 0 12) := fI_cpy hf_d_turn hf_c_turn
  generalize (va_cpy f_d_turn f_c_turn 0 0 12) = f4 at hP hD hf5
  refine lv_aload_n hx hb dX0_copyFrom_45 rfl (lv_at hl 1 rfl) ?_
  refine va_get (D := (dC, dI)) (ci := 0) (v := .ref d_counter) (C := RX0) (T := TX0) (N := 10) hx hb hts hin0 hown hK hP 5 rfl rfl 3 (Nat.le_of_ble_eq_true rfl) hw_7 (fun _ h9 => h9) rfl dX0_copyFrom_46 ?_
  refine lv_iconst (v := 0) hx hb dX0_copyFrom_49 ic_0 ?_
  refine lv_aload_n hx hb dX0_copyFrom_50 rfl (lv_at hl 0 rfl) ?_
  refine va_get (D := (dC, dI)) (ci := 0) (v := .ref c_counter) (C := RX0) (T := TX0) (N := 10) hx hb hts hin0 hown hK hP 0 rfl rfl 3 (Nat.le_of_ble_eq_true rfl) hw_7 (fun _ h9 => h9) rfl dX0_copyFrom_51 ?_
  refine lv_iconst (v := 0) hx hb dX0_copyFrom_54 ic_0 ?_
  refine lv_bipush (v := 12) hx hb dX0_copyFrom_55 bp_12 ?_
  refine va_copyi hx hb (by rw [hml]; exact hl.1.symm) hown hw_1 hw_2 hw_3 hw_4 hK hP hD hS 9 4 1 1 rfl rfl rfl rfl rfl (by decide) (by decide) (by decide) (by decide) (by decide) (fun _ _ => rfl) (Nat.le_of_ble_eq_true rfl) (Nat.le_of_ble_eq_true rfl) dX0_copyFrom_57 (fun H locs hPa hDa hS => ?_)
  clear hP hD
  have hP : va_P (dC, dI) vwCl [(oc, .inr (0, oX0 c_seen c_sent c_turn c_counter x_c)), (c_seen, .inl (kJ, 96, .inr (.inl f1))), (c_sent, .inl (kI, 30, .inl f3)), (c_turn, .inl (kI, 12, .inl f4)), (c_counter, .inl (kI, 12, .inl (va_cpy f_d_counter f_c_counter 0 0 12))), (d, .inr (0, oX0 d_seen d_sent d_turn d_counter x_d)), (d_seen, .inl (kJ, 96, .inr (.inl f_d_seen))), (d_sent, .inl (kI, 30, .inl f_d_sent)), (d_turn, .inl (kI, 12, .inl f_d_turn)), (d_counter, .inl (kI, 12, .inl f_d_counter))] H := hPa
  have hD : va_D A [(oc, .inr (0, oX0 c_seen c_sent c_turn c_counter x_c)), (c_seen, .inl (kJ, 96, .inr (.inl f1))), (c_sent, .inl (kI, 30, .inl f3)), (c_turn, .inl (kI, 12, .inl f4)), (c_counter, .inl (kI, 12, .inl (va_cpy f_d_counter f_c_counter 0 0 12))), (d, .inr (0, oX0 d_seen d_sent d_turn d_counter x_d)), (d_seen, .inl (kJ, 96, .inr (.inl f_d_seen))), (d_sent, .inl (kI, 30, .inl f_d_sent)), (d_turn, .inl (kI, 12, .inl f_d_turn)), (d_counter, .inl (kI, 12, .inl f_d_counter))] := hDa
  clear hPa hDa
  generalize (va_cpy f_d_counter f_c_counter 0 0 12) = f6 at hP hD
  refine lv_aload_n hx hb dX0_copyFrom_60 rfl (lv_at hl 0 rfl) ?_
  refine lv_aload_n hx hb dX0_copyFrom_61 rfl (lv_at hl 1 rfl) ?_
  refine va_get (D := (dC, dI)) (ci := 0) (v := .int (x_d 0)) (C := RX0) (T := TX0) (N := 10) hx hb hts hin0 hown hK hP 5 rfl rfl 4 (Nat.le_of_ble_eq_true rfl) hw_8 (fun _ h9 => h9) rfl dX0_copyFrom_62 ?_
  refine va_put (D := (dC, dI)) (ci := 0) (v := .int (x_d 0)) (ty := .int) (C := RX0) (T := TX0) (N := 10) hx hb hts hin0 tyX0 tyX0_ok nmX0 hown hK hP hD hS 0 rfl rfl 4 (by decide) hw_8 (fun _ h9 => h9) rfl (by decide +kernel) rfl rfl (Nat.le_of_ble_eq_true rfl) dX0_copyFrom_65 (fun H locs hPa hDa hS => ?_)
  clear hP hD
  have hP : va_P (dC, dI) vwCl [(oc, .inr (0, oX0 c_seen c_sent c_turn c_counter (upd x_c 0 (x_d 0)))), (c_seen, .inl (kJ, 96, .inr (.inl f1))), (c_sent, .inl (kI, 30, .inl f3)), (c_turn, .inl (kI, 12, .inl f4)), (c_counter, .inl (kI, 12, .inl f6)), (d, .inr (0, oX0 d_seen d_sent d_turn d_counter x_d)), (d_seen, .inl (kJ, 96, .inr (.inl f_d_seen))), (d_sent, .inl (kI, 30, .inl f_d_sent)), (d_turn, .inl (kI, 12, .inl f_d_turn)), (d_counter, .inl (kI, 12, .inl f_d_counter))] H := hPa
  have hD : va_D A [(oc, .inr (0, oX0 c_seen c_sent c_turn c_counter (upd x_c 0 (x_d 0)))), (c_seen, .inl (kJ, 96, .inr (.inl f1))), (c_sent, .inl (kI, 30, .inl f3)), (c_turn, .inl (kI, 12, .inl f4)), (c_counter, .inl (kI, 12, .inl f6)), (d, .inr (0, oX0 d_seen d_sent d_turn d_counter x_d)), (d_seen, .inl (kJ, 96, .inr (.inl f_d_seen))), (d_sent, .inl (kI, 30, .inl f_d_sent)), (d_turn, .inl (kI, 12, .inl f_d_turn)), (d_counter, .inl (kI, 12, .inl f_d_counter))] := hDa
  clear hPa hDa
  refine lv_aload_n hx hb dX0_copyFrom_68 rfl (lv_at hl 0 rfl) ?_
  refine lv_aload_n hx hb dX0_copyFrom_69 rfl (lv_at hl 1 rfl) ?_
  refine va_get (D := (dC, dI)) (ci := 0) (v := .int (x_d 1)) (C := RX0) (T := TX0) (N := 10) hx hb hts hin0 hown hK hP 5 rfl rfl 5 (Nat.le_of_ble_eq_true rfl) hw_9 (fun _ h9 => h9) rfl dX0_copyFrom_70 ?_
  refine va_put (D := (dC, dI)) (ci := 0) (v := .int (x_d 1)) (ty := .int) (C := RX0) (T := TX0) (N := 10) hx hb hts hin0 tyX0 tyX0_ok nmX0 hown hK hP hD hS 0 rfl rfl 5 (by decide) hw_9 (fun _ h9 => h9) rfl (by decide +kernel) rfl rfl (Nat.le_of_ble_eq_true rfl) dX0_copyFrom_73 (fun H locs hPa hDa hS => ?_)
  clear hP hD
  have hP : va_P (dC, dI) vwCl [(oc, .inr (0, oX0 c_seen c_sent c_turn c_counter (upd (upd x_c 0 (x_d 0)) 1 (x_d 1)))), (c_seen, .inl (kJ, 96, .inr (.inl f1))), (c_sent, .inl (kI, 30, .inl f3)), (c_turn, .inl (kI, 12, .inl f4)), (c_counter, .inl (kI, 12, .inl f6)), (d, .inr (0, oX0 d_seen d_sent d_turn d_counter x_d)), (d_seen, .inl (kJ, 96, .inr (.inl f_d_seen))), (d_sent, .inl (kI, 30, .inl f_d_sent)), (d_turn, .inl (kI, 12, .inl f_d_turn)), (d_counter, .inl (kI, 12, .inl f_d_counter))] H := hPa
  have hD : va_D A [(oc, .inr (0, oX0 c_seen c_sent c_turn c_counter (upd (upd x_c 0 (x_d 0)) 1 (x_d 1)))), (c_seen, .inl (kJ, 96, .inr (.inl f1))), (c_sent, .inl (kI, 30, .inl f3)), (c_turn, .inl (kI, 12, .inl f4)), (c_counter, .inl (kI, 12, .inl f6)), (d, .inr (0, oX0 d_seen d_sent d_turn d_counter x_d)), (d_seen, .inl (kJ, 96, .inr (.inl f_d_seen))), (d_sent, .inl (kI, 30, .inl f_d_sent)), (d_turn, .inl (kI, 12, .inl f_d_turn)), (d_counter, .inl (kI, 12, .inl f_d_counter))] := hDa
  clear hPa hDa
  refine lv_aload_n hx hb dX0_copyFrom_76 rfl (lv_at hl 0 rfl) ?_
  refine lv_aload_n hx hb dX0_copyFrom_77 rfl (lv_at hl 1 rfl) ?_
  refine va_get (D := (dC, dI)) (ci := 0) (v := .int (x_d 2)) (C := RX0) (T := TX0) (N := 10) hx hb hts hin0 hown hK hP 5 rfl rfl 6 (Nat.le_of_ble_eq_true rfl) hw_10 (fun _ h9 => h9) rfl dX0_copyFrom_78 ?_
  refine va_put (D := (dC, dI)) (ci := 0) (v := .int (x_d 2)) (ty := .int) (C := RX0) (T := TX0) (N := 10) hx hb hts hin0 tyX0 tyX0_ok nmX0 hown hK hP hD hS 0 rfl rfl 6 (by decide) hw_10 (fun _ h9 => h9) rfl (by decide +kernel) rfl rfl (Nat.le_of_ble_eq_true rfl) dX0_copyFrom_81 (fun H locs hPa hDa hS => ?_)
  clear hP hD
  have hP : va_P (dC, dI) vwCl [(oc, .inr (0, oX0 c_seen c_sent c_turn c_counter (upd (upd (upd x_c 0 (x_d 0)) 1 (x_d 1)) 2 (x_d 2)))), (c_seen, .inl (kJ, 96, .inr (.inl f1))), (c_sent, .inl (kI, 30, .inl f3)), (c_turn, .inl (kI, 12, .inl f4)), (c_counter, .inl (kI, 12, .inl f6)), (d, .inr (0, oX0 d_seen d_sent d_turn d_counter x_d)), (d_seen, .inl (kJ, 96, .inr (.inl f_d_seen))), (d_sent, .inl (kI, 30, .inl f_d_sent)), (d_turn, .inl (kI, 12, .inl f_d_turn)), (d_counter, .inl (kI, 12, .inl f_d_counter))] H := hPa
  have hD : va_D A [(oc, .inr (0, oX0 c_seen c_sent c_turn c_counter (upd (upd (upd x_c 0 (x_d 0)) 1 (x_d 1)) 2 (x_d 2)))), (c_seen, .inl (kJ, 96, .inr (.inl f1))), (c_sent, .inl (kI, 30, .inl f3)), (c_turn, .inl (kI, 12, .inl f4)), (c_counter, .inl (kI, 12, .inl f6)), (d, .inr (0, oX0 d_seen d_sent d_turn d_counter x_d)), (d_seen, .inl (kJ, 96, .inr (.inl f_d_seen))), (d_sent, .inl (kI, 30, .inl f_d_sent)), (d_turn, .inl (kI, 12, .inl f_d_turn)), (d_counter, .inl (kI, 12, .inl f_d_counter))] := hDa
  clear hPa hDa
  refine lv_aload_n hx hb dX0_copyFrom_84 rfl (lv_at hl 0 rfl) ?_
  refine lv_aload_n hx hb dX0_copyFrom_85 rfl (lv_at hl 1 rfl) ?_
  refine va_get (D := (dC, dI)) (ci := 0) (v := .int (x_d 3)) (C := RX0) (T := TX0) (N := 10) hx hb hts hin0 hown hK hP 5 rfl rfl 7 (Nat.le_of_ble_eq_true rfl) hw_11 (fun _ h9 => h9) rfl dX0_copyFrom_86 ?_
  refine va_put (D := (dC, dI)) (ci := 0) (v := .int (x_d 3)) (ty := .int) (C := RX0) (T := TX0) (N := 10) hx hb hts hin0 tyX0 tyX0_ok nmX0 hown hK hP hD hS 0 rfl rfl 7 (by decide) hw_11 (fun _ h9 => h9) rfl (by decide +kernel) rfl rfl (Nat.le_of_ble_eq_true rfl) dX0_copyFrom_89 (fun H locs hPa hDa hS => ?_)
  clear hP hD
  have hP : va_P (dC, dI) vwCl [(oc, .inr (0, oX0 c_seen c_sent c_turn c_counter (upd (upd (upd (upd x_c 0 (x_d 0)) 1 (x_d 1)) 2 (x_d 2)) 3 (x_d 3)))), (c_seen, .inl (kJ, 96, .inr (.inl f1))), (c_sent, .inl (kI, 30, .inl f3)), (c_turn, .inl (kI, 12, .inl f4)), (c_counter, .inl (kI, 12, .inl f6)), (d, .inr (0, oX0 d_seen d_sent d_turn d_counter x_d)), (d_seen, .inl (kJ, 96, .inr (.inl f_d_seen))), (d_sent, .inl (kI, 30, .inl f_d_sent)), (d_turn, .inl (kI, 12, .inl f_d_turn)), (d_counter, .inl (kI, 12, .inl f_d_counter))] H := hPa
  have hD : va_D A [(oc, .inr (0, oX0 c_seen c_sent c_turn c_counter (upd (upd (upd (upd x_c 0 (x_d 0)) 1 (x_d 1)) 2 (x_d 2)) 3 (x_d 3)))), (c_seen, .inl (kJ, 96, .inr (.inl f1))), (c_sent, .inl (kI, 30, .inl f3)), (c_turn, .inl (kI, 12, .inl f4)), (c_counter, .inl (kI, 12, .inl f6)), (d, .inr (0, oX0 d_seen d_sent d_turn d_counter x_d)), (d_seen, .inl (kJ, 96, .inr (.inl f_d_seen))), (d_sent, .inl (kI, 30, .inl f_d_sent)), (d_turn, .inl (kI, 12, .inl f_d_turn)), (d_counter, .inl (kI, 12, .inl f_d_counter))] := hDa
  clear hPa hDa
  refine lv_aload_n hx hb dX0_copyFrom_92 rfl (lv_at hl 0 rfl) ?_
  refine lv_aload_n hx hb dX0_copyFrom_93 rfl (lv_at hl 1 rfl) ?_
  refine va_get (D := (dC, dI)) (ci := 0) (v := .int (x_d 4)) (C := RX0) (T := TX0) (N := 10) hx hb hts hin0 hown hK hP 5 rfl rfl 8 (Nat.le_of_ble_eq_true rfl) hw_12 (fun _ h9 => h9) rfl dX0_copyFrom_94 ?_
  refine va_put (D := (dC, dI)) (ci := 0) (v := .int (x_d 4)) (ty := .int) (C := RX0) (T := TX0) (N := 10) hx hb hts hin0 tyX0 tyX0_ok nmX0 hown hK hP hD hS 0 rfl rfl 8 (by decide) hw_12 (fun _ h9 => h9) rfl (by decide +kernel) rfl rfl (Nat.le_of_ble_eq_true rfl) dX0_copyFrom_97 (fun H locs hPa hDa hS => ?_)
  clear hP hD
  have hP : va_P (dC, dI) vwCl [(oc, .inr (0, oX0 c_seen c_sent c_turn c_counter (upd (upd (upd (upd (upd x_c 0 (x_d 0)) 1 (x_d 1)) 2 (x_d 2)) 3 (x_d 3)) 4 (x_d 4)))), (c_seen, .inl (kJ, 96, .inr (.inl f1))), (c_sent, .inl (kI, 30, .inl f3)), (c_turn, .inl (kI, 12, .inl f4)), (c_counter, .inl (kI, 12, .inl f6)), (d, .inr (0, oX0 d_seen d_sent d_turn d_counter x_d)), (d_seen, .inl (kJ, 96, .inr (.inl f_d_seen))), (d_sent, .inl (kI, 30, .inl f_d_sent)), (d_turn, .inl (kI, 12, .inl f_d_turn)), (d_counter, .inl (kI, 12, .inl f_d_counter))] H := hPa
  have hD : va_D A [(oc, .inr (0, oX0 c_seen c_sent c_turn c_counter (upd (upd (upd (upd (upd x_c 0 (x_d 0)) 1 (x_d 1)) 2 (x_d 2)) 3 (x_d 3)) 4 (x_d 4)))), (c_seen, .inl (kJ, 96, .inr (.inl f1))), (c_sent, .inl (kI, 30, .inl f3)), (c_turn, .inl (kI, 12, .inl f4)), (c_counter, .inl (kI, 12, .inl f6)), (d, .inr (0, oX0 d_seen d_sent d_turn d_counter x_d)), (d_seen, .inl (kJ, 96, .inr (.inl f_d_seen))), (d_sent, .inl (kI, 30, .inl f_d_sent)), (d_turn, .inl (kI, 12, .inl f_d_turn)), (d_counter, .inl (kI, 12, .inl f_d_counter))] := hDa
  clear hPa hDa
  refine lv_aload_n hx hb dX0_copyFrom_100 rfl (lv_at hl 0 rfl) ?_
  refine lv_aload_n hx hb dX0_copyFrom_101 rfl (lv_at hl 1 rfl) ?_
  refine va_get (D := (dC, dI)) (ci := 0) (v := .int (x_d 5)) (C := RX0) (T := TX0) (N := 10) hx hb hts hin0 hown hK hP 5 rfl rfl 9 (Nat.le_of_ble_eq_true rfl) hw_13 (fun _ h9 => h9) rfl dX0_copyFrom_102 ?_
  refine va_put (D := (dC, dI)) (ci := 0) (v := .int (x_d 5)) (ty := .int) (C := RX0) (T := TX0) (N := 10) hx hb hts hin0 tyX0 tyX0_ok nmX0 hown hK hP hD hS 0 rfl rfl 9 (by decide) hw_13 (fun _ h9 => h9) rfl (by decide +kernel) rfl rfl (Nat.le_of_ble_eq_true rfl) dX0_copyFrom_105 (fun H locs hPa hDa hS => ?_)
  clear hP hD
  have hP : va_P (dC, dI) vwCl [(oc, .inr (0, oX0 c_seen c_sent c_turn c_counter (upd (upd (upd (upd (upd (upd x_c 0 (x_d 0)) 1 (x_d 1)) 2 (x_d 2)) 3 (x_d 3)) 4 (x_d 4)) 5 (x_d 5)))), (c_seen, .inl (kJ, 96, .inr (.inl f1))), (c_sent, .inl (kI, 30, .inl f3)), (c_turn, .inl (kI, 12, .inl f4)), (c_counter, .inl (kI, 12, .inl f6)), (d, .inr (0, oX0 d_seen d_sent d_turn d_counter x_d)), (d_seen, .inl (kJ, 96, .inr (.inl f_d_seen))), (d_sent, .inl (kI, 30, .inl f_d_sent)), (d_turn, .inl (kI, 12, .inl f_d_turn)), (d_counter, .inl (kI, 12, .inl f_d_counter))] H := hPa
  have hD : va_D A [(oc, .inr (0, oX0 c_seen c_sent c_turn c_counter (upd (upd (upd (upd (upd (upd x_c 0 (x_d 0)) 1 (x_d 1)) 2 (x_d 2)) 3 (x_d 3)) 4 (x_d 4)) 5 (x_d 5)))), (c_seen, .inl (kJ, 96, .inr (.inl f1))), (c_sent, .inl (kI, 30, .inl f3)), (c_turn, .inl (kI, 12, .inl f4)), (c_counter, .inl (kI, 12, .inl f6)), (d, .inr (0, oX0 d_seen d_sent d_turn d_counter x_d)), (d_seen, .inl (kJ, 96, .inr (.inl f_d_seen))), (d_sent, .inl (kI, 30, .inl f_d_sent)), (d_turn, .inl (kI, 12, .inl f_d_turn)), (d_counter, .inl (kI, 12, .inl f_d_counter))] := hDa
  clear hPa hDa
  have hP9 := hP
  have hD9 := hD
  exact W.vret hx hb hr (fun t ht hW => ⟨⟨(), rfl, trivial, upd (upd (upd (upd (upd (upd x_c 0 (x_d 0)) 1 (x_d 1)) 2 (x_d 2)) 3 (x_d 3)) 4 (x_d 4)) 5 (x_d 5), f1, f3, f4, f6, hf2, hf5, by rw [ht]; exact hP9, hD9⟩, hS.F ht⟩) hS.2.2 dX0_copyFrom_108
def rm_s0_sentAt : Room := { frames := 0, cells := 0, slots := 0, locals := 0 }
set_option maxHeartbeats 4000000 in
set_option maxRecDepth 100000 in
theorem s0_sentAt (l : Launch) (dC : Nat → ClassId) (dI : Nat → Nat → Nat) (kB kI kJ kZ kC kS : ClassId) (sz : Nat) (oc : Nat) (c_seen : Nat) (c_sent : Nat) (c_turn : Nat) (c_counter : Nat) (x_c : Nat → Int32) (f_c_sent : Nat → Int32) (p0 : Int32) (p1 : Int32) (hp0 : iv 0 2 p0) (hp1 : iv 1 10 p1) : Met l yX0_sentAt wsX0_sentAt rm_s0_sentAt (va_Pc [.ref oc, .int p0, .int p1] (fun U => U.heap.size = sz ∧ va_P (dC, dI) vwCl [(oc, .inr (0, oX0 c_seen c_sent c_turn c_counter x_c)), (c_sent, .inl (kI, 30, .inl f_c_sent))] U.heap ∧ kE dC dI kB kI kJ kZ kC kS U ∧ va_D (fun _ => True) [(oc, .inr (0, oX0 c_seen c_sent c_turn c_counter x_c)), (c_sent, .inl (kI, 30, .inl f_c_sent))])) (va_Qi (fun (r : Int32) (_ : Unit) => True) (fun _ t => va_P (dC, dI) vwCl [(oc, .inr (0, oX0 c_seen c_sent c_turn c_counter x_c)), (c_sent, .inl (kI, 30, .inl f_c_sent))] t.heap ∧ va_D (va_A [(oc, .inr (0, oX0 c_seen c_sent c_turn c_counter x_c)), (c_sent, .inl (kI, 30, .inl f_c_sent))] sz) [(oc, .inr (0, oX0 c_seen c_sent c_turn c_counter x_c)), (c_sent, .inl (kI, 30, .inl f_c_sent))]) (va_A [(oc, .inr (0, oX0 c_seen c_sent c_turn c_counter x_c)), (c_sent, .inl (kI, 30, .inl f_c_sent))] sz)) 0 0 (va_A [(oc, .inr (0, oX0 c_seen c_sent c_turn c_counter x_c)), (c_sent, .inl (kI, 30, .inl f_c_sent))] sz) := by
  refine Met.ofW (cc := cX0_sentAt) (maxL := 3) (ret := (some .int)) (by decide) rfl ?_
  intro p e s m args0 below meth c s₁ B hml hv
  obtain ⟨hargs, hsz, hP, hE, hD0⟩ := hv
  have hx := B.exec
  have hb := B.bytes
  have hr := B.returns
  have hts := atoms_spec (ws := wsX0_sentAt) B.pre
  have hown : s.vm.findClass RX0 = some m.cls := findClass_of_methodNamed B.named
  have hlocks := B.notSynchronized
  have hK := hE.1
  have hin0 : ∀ w ∈ wsX00, w ∈ wsX0_sentAt := fun _ h9 => List.mem_cons_of_mem _ (List.mem_append_right _ h9)
  have hw_0 := hts (.fieldLink RX0 15 "PathProber$Condition" "sent" "[I") (List.mem_of_getElem? (i := 1) rfl)
  subst hsz
  have hD := hD0.self (sz := s.heap.size)
  generalize hAe : va_A [(oc, .inr (0, oX0 c_seen c_sent c_turn c_counter x_c)), (c_sent, .inl (kI, 30, .inl f_c_sent))] s.heap.size = A at hD ⊢
  have hA : ∀ q : Nat, s.heap.size ≤ q → A q := fun q h => by rw [← hAe]; exact Or.inr h
  have hS : va_S A s.heap s.heap [] := va_S.rf
  have hP : va_P (dC, dI) vwCl [(oc, .inr (0, oX0 c_seen c_sent c_turn c_counter x_c)), (c_sent, .inl (kI, 30, .inl f_c_sent))] s.heap := hP
  have hl := lv_entry ([.ref oc, .int p0, .int p1]) (n := 3) (Nat.le_of_ble_eq_true rfl)
  have hla : entryFrame m args0 3 = entryFrame m ([.ref oc, .int p0, .int p1] : List Value).toArray 3 := by rw [hargs]
  rw [hla, lg_entry_eq]
  generalize (lg_sl ([.ref oc, .int p0, .int p1]) ++ List.replicate (3 - (lg_sl ([.ref oc, .int p0, .int p1])).length) Slot.unset).toArray = ls at hl ⊢
  have hl : lv_has ls 3 [(0, .ref oc), (1, .int p0), (2, .int p1)] := hl
  refine lv_aload_n hx hb dX0_sentAt_0 rfl (lv_at hl 0 rfl) ?_
  refine va_get (D := (dC, dI)) (ci := 0) (v := .ref c_sent) (C := RX0) (T := TX0) (N := 10) hx hb hts hin0 hown hK hP 0 rfl rfl 1 (Nat.le_of_ble_eq_true rfl) hw_0 (fun _ h9 => h9) rfl dX0_sentAt_1 ?_
  refine lv_iload_n hx hb dX0_sentAt_4 rfl (lv_at hl 1 rfl) ?_
  refine lv_bipush (v := 10) hx hb dX0_sentAt_5 bp_10 ?_
  refine lv_imul hx hb dX0_sentAt_7 ?_
  refine iv_top (a := 0) (b := 20) (iv_mul hp0 ivk_10 (by decide) (by decide) (by decide) (by decide) (by decide)) (fun z1 b2 => ?_)
  refine lv_iload_n hx hb dX0_sentAt_8 rfl (lv_at hl 2 rfl) ?_
  refine lv_iadd hx hb dX0_sentAt_9 ?_
  refine iv_top (a := 1) (b := 30) (iv_add b2 hp1 (by decide) (by decide) (by decide) (by decide)) (fun z3 b4 => ?_)
  refine lv_iconst (v := 1) hx hb dX0_sentAt_10 ic_1 ?_
  refine lv_isub hx hb dX0_sentAt_11 ?_
  refine iv_top (a := 0) (b := 29) (iv_sub b4 ivk_1 (by decide) (by decide) (by decide) (by decide)) (fun z5 b6 => ?_)
  refine va_iald hx hb hK hP 1 1 rfl rfl (iv_in b6 (by decide) (by decide)) dX0_sentAt_12 ?_
  refine lv_topi (fun z7 _ => ?_)
  have hP9 := hP
  have hD9 := hD
  exact W.iret (v := z7) hx hb hr (fun t ht hW => ⟨⟨z7, (), rfl, trivial, by rw [ht]; exact hP9, hD9⟩, hS.F ht⟩) hS.2.2 dX0_sentAt_13
def rm_s0_countSent : Room := { frames := 0, cells := 0, slots := 0, locals := 0 }
set_option maxHeartbeats 4000000 in
set_option maxRecDepth 100000 in
theorem s0_countSent (l : Launch) (dC : Nat → ClassId) (dI : Nat → Nat → Nat) (kB kI kJ kZ kC kS : ClassId) (sz : Nat) (oc : Nat) (c_seen : Nat) (c_sent : Nat) (c_turn : Nat) (c_counter : Nat) (x_c : Nat → Int32) (f_c_sent : Nat → Int32) (p0 : Int32) (p1 : Int32) (hp0 : iv 0 2 p0) (hp1 : iv 1 10 p1) : Met l yX0_countSent wsX0_countSent rm_s0_countSent (va_Pc [.ref oc, .int p0, .int p1] (fun U => U.heap.size = sz ∧ va_P (dC, dI) vwCl [(oc, .inr (0, oX0 c_seen c_sent c_turn c_counter x_c)), (c_sent, .inl (kI, 30, .inl f_c_sent))] U.heap ∧ kE dC dI kB kI kJ kZ kC kS U ∧ va_D (fun _ => True) [(oc, .inr (0, oX0 c_seen c_sent c_turn c_counter x_c)), (c_sent, .inl (kI, 30, .inl f_c_sent))])) (va_Qv (fun (_ : Unit) => True) (fun _ t => ∃ (f_c_sent' : Nat → Int32), va_P (dC, dI) vwCl [(oc, .inr (0, oX0 c_seen c_sent c_turn c_counter x_c)), (c_sent, .inl (kI, 30, .inl f_c_sent'))] t.heap ∧ va_D (va_A [(oc, .inr (0, oX0 c_seen c_sent c_turn c_counter x_c)), (c_sent, .inl (kI, 30, .inl f_c_sent))] sz) [(oc, .inr (0, oX0 c_seen c_sent c_turn c_counter x_c)), (c_sent, .inl (kI, 30, .inl f_c_sent'))]) (va_A [(oc, .inr (0, oX0 c_seen c_sent c_turn c_counter x_c)), (c_sent, .inl (kI, 30, .inl f_c_sent))] sz)) 0 0 (va_A [(oc, .inr (0, oX0 c_seen c_sent c_turn c_counter x_c)), (c_sent, .inl (kI, 30, .inl f_c_sent))] sz) := by
  refine Met.ofW (cc := cX0_countSent) (maxL := 3) (ret := none) (by decide) rfl ?_
  intro p e s m args0 below meth c s₁ B hml hv
  obtain ⟨hargs, hsz, hP, hE, hD0⟩ := hv
  have hx := B.exec
  have hb := B.bytes
  have hr := B.returns
  have hts := atoms_spec (ws := wsX0_countSent) B.pre
  have hown : s.vm.findClass RX0 = some m.cls := findClass_of_methodNamed B.named
  have hlocks := B.notSynchronized
  have hK := hE.1
  have hin0 : ∀ w ∈ wsX00, w ∈ wsX0_countSent := fun _ h9 => List.mem_cons_of_mem _ (List.mem_append_right _ h9)
  have hw_0 := hts (.fieldLink RX0 15 "PathProber$Condition" "sent" "[I") (List.mem_of_getElem? (i := 1) rfl)
  subst hsz
  have hD := hD0.self (sz := s.heap.size)
  generalize hAe : va_A [(oc, .inr (0, oX0 c_seen c_sent c_turn c_counter x_c)), (c_sent, .inl (kI, 30, .inl f_c_sent))] s.heap.size = A at hD ⊢
  have hA : ∀ q : Nat, s.heap.size ≤ q → A q := fun q h => by rw [← hAe]; exact Or.inr h
  have hS : va_S A s.heap s.heap [] := va_S.rf
  have hP : va_P (dC, dI) vwCl [(oc, .inr (0, oX0 c_seen c_sent c_turn c_counter x_c)), (c_sent, .inl (kI, 30, .inl f_c_sent))] s.heap := hP
  have hl := lv_entry ([.ref oc, .int p0, .int p1]) (n := 3) (Nat.le_of_ble_eq_true rfl)
  have hla : entryFrame m args0 3 = entryFrame m ([.ref oc, .int p0, .int p1] : List Value).toArray 3 := by rw [hargs]
  rw [hla, lg_entry_eq]
  generalize (lg_sl ([.ref oc, .int p0, .int p1]) ++ List.replicate (3 - (lg_sl ([.ref oc, .int p0, .int p1])).length) Slot.unset).toArray = ls at hl ⊢
  have hl : lv_has ls 3 [(0, .ref oc), (1, .int p0), (2, .int p1)] := hl
  refine lv_aload_n hx hb dX0_countSent_0 rfl (lv_at hl 0 rfl) ?_
  refine va_get (D := (dC, dI)) (ci := 0) (v := .ref c_sent) (C := RX0) (T := TX0) (N := 10) hx hb hts hin0 hown hK hP 0 rfl rfl 1 (Nat.le_of_ble_eq_true rfl) hw_0 (fun _ h9 => h9) rfl dX0_countSent_1 ?_
  refine lv_iload_n hx hb dX0_countSent_4 rfl (lv_at hl 1 rfl) ?_
  refine lv_bipush (v := 10) hx hb dX0_countSent_5 bp_10 ?_
  refine lv_imul hx hb dX0_countSent_7 ?_
  refine iv_top (a := 0) (b := 20) (iv_mul hp0 ivk_10 (by decide) (by decide) (by decide) (by decide) (by decide)) (fun z1 b2 => ?_)
  refine lv_iload_n hx hb dX0_countSent_8 rfl (lv_at hl 2 rfl) ?_
  refine lv_iadd hx hb dX0_countSent_9 ?_
  refine iv_top (a := 1) (b := 30) (iv_add b2 hp1 (by decide) (by decide) (by decide) (by decide)) (fun z3 b4 => ?_)
  refine lv_iconst (v := 1) hx hb dX0_countSent_10 ic_1 ?_
  refine lv_isub hx hb dX0_countSent_11 ?_
  refine iv_top (a := 0) (b := 29) (iv_sub b4 ivk_1 (by decide) (by decide) (by decide) (by decide)) (fun z5 b6 => ?_)
  refine lv_dup2_11 hx hb dX0_countSent_12 rfl rfl ?_
  refine va_iald hx hb hK hP 1 1 rfl rfl (iv_in b6 (by decide) (by decide)) dX0_countSent_13 ?_
  refine lv_topi (fun z7 _ => ?_)
  refine lv_iconst (v := 1) hx hb dX0_countSent_14 ic_1 ?_
  refine lv_iadd hx hb dX0_countSent_15 ?_
  refine lv_topi (fun z8 _ => ?_)
  refine va_iast hx hb hK hP hD hS 1 1 rfl rfl (iv_in b6 (by decide) (by decide)) dX0_countSent_16 (fun H locs hPa hDa hS => ?_)
  clear hP hD
  have hP : va_P (dC, dI) vwCl [(oc, .inr (0, oX0 c_seen c_sent c_turn c_counter x_c)), (c_sent, .inl (kI, 30, .inl (upd f_c_sent z5.toNatClampNeg z8)))] H := hPa
  have hD : va_D A [(oc, .inr (0, oX0 c_seen c_sent c_turn c_counter x_c)), (c_sent, .inl (kI, 30, .inl (upd f_c_sent z5.toNatClampNeg z8)))] := hDa
  clear hPa hDa
  generalize (upd f_c_sent z5.toNatClampNeg z8) = f9 at hP hD
  have hP9 := hP
  have hD9 := hD
  exact W.vret hx hb hr (fun t ht hW => ⟨⟨(), rfl, trivial, f9, by rw [ht]; exact hP9, hD9⟩, hS.F ht⟩) hS.2.2 dX0_countSent_17
def rm_s0_sentInAll : Room := { frames := 0, cells := 0, slots := 0, locals := 0 }
set_option maxHeartbeats 4000000 in
set_option maxRecDepth 100000 in
theorem s0_sentInAll (l : Launch) (dC : Nat → ClassId) (dI : Nat → Nat → Nat) (kB kI kJ kZ kC kS : ClassId) (sz : Nat) (oc : Nat) (c_seen : Nat) (c_sent : Nat) (c_turn : Nat) (c_counter : Nat) (x_c : Nat → Int32) (f_c_sent : Nat → Int32) : Met l yX0_sentInAll wsX0_sentInAll rm_s0_sentInAll (va_Pc [.ref oc] (fun U => U.heap.size = sz ∧ va_P (dC, dI) vwCl [(oc, .inr (0, oX0 c_seen c_sent c_turn c_counter x_c)), (c_sent, .inl (kI, 30, .inl f_c_sent))] U.heap ∧ kE dC dI kB kI kJ kZ kC kS U ∧ va_D (fun _ => True) [(oc, .inr (0, oX0 c_seen c_sent c_turn c_counter x_c)), (c_sent, .inl (kI, 30, .inl f_c_sent))])) (va_Qi (fun (r : Int32) (_ : Unit) => True) (fun _ t => va_P (dC, dI) vwCl [(oc, .inr (0, oX0 c_seen c_sent c_turn c_counter x_c)), (c_sent, .inl (kI, 30, .inl f_c_sent))] t.heap ∧ va_D (va_A [(oc, .inr (0, oX0 c_seen c_sent c_turn c_counter x_c)), (c_sent, .inl (kI, 30, .inl f_c_sent))] sz) [(oc, .inr (0, oX0 c_seen c_sent c_turn c_counter x_c)), (c_sent, .inl (kI, 30, .inl f_c_sent))]) (va_A [(oc, .inr (0, oX0 c_seen c_sent c_turn c_counter x_c)), (c_sent, .inl (kI, 30, .inl f_c_sent))] sz)) 0 0 (va_A [(oc, .inr (0, oX0 c_seen c_sent c_turn c_counter x_c)), (c_sent, .inl (kI, 30, .inl f_c_sent))] sz) := by
  refine Met.ofW (cc := cX0_sentInAll) (maxL := 3) (ret := (some .int)) (by decide) rfl ?_
  intro p e s m args0 below meth c s₁ B hml hv
  obtain ⟨hargs, hsz, hP, hE, hD0⟩ := hv
  have hx := B.exec
  have hb := B.bytes
  have hr := B.returns
  have hts := atoms_spec (ws := wsX0_sentInAll) B.pre
  have hown : s.vm.findClass RX0 = some m.cls := findClass_of_methodNamed B.named
  have hlocks := B.notSynchronized
  have hK := hE.1
  have hin0 : ∀ w ∈ wsX00, w ∈ wsX0_sentInAll := fun _ h9 => List.mem_cons_of_mem _ (List.mem_append_right _ h9)
  have hw_0 := hts (.fieldLink RX0 15 "PathProber$Condition" "sent" "[I") (List.mem_of_getElem? (i := 1) rfl)
  subst hsz
  have hD := hD0.self (sz := s.heap.size)
  generalize hAe : va_A [(oc, .inr (0, oX0 c_seen c_sent c_turn c_counter x_c)), (c_sent, .inl (kI, 30, .inl f_c_sent))] s.heap.size = A at hD ⊢
  have hA : ∀ q : Nat, s.heap.size ≤ q → A q := fun q h => by rw [← hAe]; exact Or.inr h
  have hS : va_S A s.heap s.heap [] := va_S.rf
  have hP : va_P (dC, dI) vwCl [(oc, .inr (0, oX0 c_seen c_sent c_turn c_counter x_c)), (c_sent, .inl (kI, 30, .inl f_c_sent))] s.heap := hP
  have hl := lv_entry ([.ref oc]) (n := 3) (Nat.le_of_ble_eq_true rfl)
  have hla : entryFrame m args0 3 = entryFrame m ([.ref oc] : List Value).toArray 3 := by rw [hargs]
  rw [hla, lg_entry_eq]
  generalize (lg_sl ([.ref oc]) ++ List.replicate (3 - (lg_sl ([.ref oc])).length) Slot.unset).toArray = ls at hl ⊢
  have hl : lv_has ls 3 [(0, .ref oc)] := hl
  have hJ4 : ∀ (n : Nat) (v4_loc1 : Int32) (v4_loc2 : Int32) (H : Heap) (locs : List Loc) (ls : Array Slot), (30 - v4_loc2.toInt).toNat < n → iv 0 30 v4_loc2 → va_P (dC, dI) vwCl [(oc, .inr (0, oX0 c_seen c_sent c_turn c_counter x_c)), (c_sent, .inl (kI, 30, .inl f_c_sent))] H → va_D A [(oc, .inr (0, oX0 c_seen c_sent c_turn c_counter x_c)), (c_sent, .inl (kI, 30, .inl f_c_sent))] → va_S A s.heap H locs → lv_has ls 3 [(0, .ref oc), (1, .int v4_loc1), (2, .int v4_loc2)] → W p l e (headSpec wsX0_sentInAll rm_s0_sentInAll).room s m args0 below meth c H locs (0) (0) (MQ below (va_Qi (fun (r : Int32) (_ : Unit) => True) (fun _ t => va_P (dC, dI) vwCl [(oc, .inr (0, oX0 c_seen c_sent c_turn c_counter x_c)), (c_sent, .inl (kI, 30, .inl f_c_sent))] t.heap ∧ va_D A [(oc, .inr (0, oX0 c_seen c_sent c_turn c_counter x_c)), (c_sent, .inl (kI, 30, .inl f_c_sent))]) A) args0 s 0 0 A) (F0 m 4 ls []) := by
    intro n
    induction n with
    | zero => intro v4_loc1 v4_loc2 H locs ls hm4; exact absurd hm4 (Nat.not_lt_zero _)
    | succ n ih4 =>
      intro v4_loc1 v4_loc2 H locs ls hm4 h4_1 hP hD hS hl
      refine lv_iload_n hx hb dX0_sentInAll_4 rfl (lv_at hl 2 rfl) ?_
      refine lv_bipush (v := 30) hx hb dX0_sentInAll_5 bp_30 ?_
      refine lv_icmp_ge (tgt := 25) hx hb dX0_sentInAll_7 rfl (fun c1 => ?_) (fun c1 => ?_)
      · have b2 : iv 30 30 v4_loc2 := iv_leR c1 ivk_30 h4_1 (by decide) (by decide)
        refine lv_iload_n hx hb dX0_sentInAll_25 rfl (lv_at hl 1 rfl) ?_
        have hP9 := hP
        have hD9 := hD
        exact W.iret (v := v4_loc1) hx hb hr (fun t ht hW => ⟨⟨v4_loc1, (), rfl, trivial, by rw [ht]; exact hP9, hD9⟩, hS.F ht⟩) hS.2.2 dX0_sentInAll_26
      · have b3 : iv 0 29 v4_loc2 := iv_ltL (Int32.not_le.mp c1) h4_1 ivk_30 (by decide) (by decide)
        refine lv_iload_n hx hb dX0_sentInAll_10 rfl (lv_at hl 1 rfl) ?_
        refine lv_aload_n hx hb dX0_sentInAll_11 rfl (lv_at hl 0 rfl) ?_
        refine va_get (D := (dC, dI)) (ci := 0) (v := .ref c_sent) (C := RX0) (T := TX0) (N := 10) hx hb hts hin0 hown hK hP 0 rfl rfl 1 (Nat.le_of_ble_eq_true rfl) hw_0 (fun _ h9 => h9) rfl dX0_sentInAll_12 ?_
        refine lv_iload_n hx hb dX0_sentInAll_15 rfl (lv_at hl 2 rfl) ?_
        refine va_iald hx hb hK hP 1 1 rfl rfl (iv_in b3 (by decide) (by decide)) dX0_sentInAll_16 ?_
        refine lv_topi (fun z4 _ => ?_)
        refine lv_iadd hx hb dX0_sentInAll_17 ?_
        refine lv_topi (fun z5 _ => ?_)
        refine lv_istore_n (lv' := [(1, .int z5), (0, .ref oc), (2, .int v4_loc2)]) hx hb dX0_sentInAll_18 rfl hl (Nat.le_of_ble_eq_true rfl) rfl (fun ls hl => ?_)
        refine lv_iinc (v := v4_loc2 + Int32.ofInt 1) (lv' := [(2, .int (v4_loc2 + Int32.ofInt 1)), (1, .int z5), (0, .ref oc)]) hx hb dX0_sentInAll_19 hl (k := 2) rfl (rfl) (Nat.le_of_ble_eq_true rfl) rfl (fun ls hl => ?_)
        have b6 : iv 1 30 (v4_loc2 + Int32.ofInt 1) := iv_add b3 ivo_1 (by decide) (by decide) (by decide) (by decide)
        refine lv_goto (tgt := 4) hx hb dX0_sentInAll_22 rfl ?_
        exact ih4 z5 (v4_loc2 + Int32.ofInt 1) _ _ _ (ms_up (c := 1) (d := 0) b3 hm4 (by decide) (iv_inc 1 b3 (by decide) (by decide) (by decide) (by decide)) (by decide) rfl) ((iv_w b6 (by decide) (by decide))) (hP) (hD) hS (lv_sub hl [2, 1, 0] rfl)
  refine lv_iconst (v := 0) hx hb dX0_sentInAll_0 ic_0 ?_
  refine lv_istore_n (lv' := [(1, .int 0), (0, .ref oc)]) hx hb dX0_sentInAll_1 rfl hl (Nat.le_of_ble_eq_true rfl) rfl (fun ls hl => ?_)
  refine lv_iconst (v := 0) hx hb dX0_sentInAll_2 ic_0 ?_
  refine lv_istore_n (lv' := [(2, .int 0), (1, .int 0), (0, .ref oc)]) hx hb dX0_sentInAll_3 rfl hl (Nat.le_of_ble_eq_true rfl) rfl (fun ls hl => ?_)
  exact hJ4 _ 0 0 _ _ _ (Nat.lt_succ_self _) ((iv_w ivk_0 (by decide) (by decide))) (hP) (hD) hS (lv_sub hl [2, 1, 0] rfl)
def rm_s0_countersInAll : Room := { frames := 0, cells := 0, slots := 0, locals := 0 }
set_option maxHeartbeats 4000000 in
set_option maxRecDepth 100000 in
theorem s0_countersInAll (l : Launch) (dC : Nat → ClassId) (dI : Nat → Nat → Nat) (kB kI kJ kZ kC kS : ClassId) (sz : Nat) (oc : Nat) (c_seen : Nat) (c_sent : Nat) (c_turn : Nat) (c_counter : Nat) (x_c : Nat → Int32) (f_c_counter : Nat → Int32) : Met l yX0_countersInAll wsX0_countersInAll rm_s0_countersInAll (va_Pc [.ref oc] (fun U => U.heap.size = sz ∧ va_P (dC, dI) vwCl [(oc, .inr (0, oX0 c_seen c_sent c_turn c_counter x_c)), (c_counter, .inl (kI, 12, .inl f_c_counter))] U.heap ∧ kE dC dI kB kI kJ kZ kC kS U ∧ va_D (fun _ => True) [(oc, .inr (0, oX0 c_seen c_sent c_turn c_counter x_c)), (c_counter, .inl (kI, 12, .inl f_c_counter))])) (va_Qi (fun (r : Int32) (_ : Unit) => True) (fun _ t => va_P (dC, dI) vwCl [(oc, .inr (0, oX0 c_seen c_sent c_turn c_counter x_c)), (c_counter, .inl (kI, 12, .inl f_c_counter))] t.heap ∧ va_D (va_A [(oc, .inr (0, oX0 c_seen c_sent c_turn c_counter x_c)), (c_counter, .inl (kI, 12, .inl f_c_counter))] sz) [(oc, .inr (0, oX0 c_seen c_sent c_turn c_counter x_c)), (c_counter, .inl (kI, 12, .inl f_c_counter))]) (va_A [(oc, .inr (0, oX0 c_seen c_sent c_turn c_counter x_c)), (c_counter, .inl (kI, 12, .inl f_c_counter))] sz)) 0 0 (va_A [(oc, .inr (0, oX0 c_seen c_sent c_turn c_counter x_c)), (c_counter, .inl (kI, 12, .inl f_c_counter))] sz) := by
  refine Met.ofW (cc := cX0_countersInAll) (maxL := 3) (ret := (some .int)) (by decide) rfl ?_
  intro p e s m args0 below meth c s₁ B hml hv
  obtain ⟨hargs, hsz, hP, hE, hD0⟩ := hv
  have hx := B.exec
  have hb := B.bytes
  have hr := B.returns
  have hts := atoms_spec (ws := wsX0_countersInAll) B.pre
  have hown : s.vm.findClass RX0 = some m.cls := findClass_of_methodNamed B.named
  have hlocks := B.notSynchronized
  have hK := hE.1
  have hin0 : ∀ w ∈ wsX00, w ∈ wsX0_countersInAll := fun _ h9 => List.mem_cons_of_mem _ (List.mem_append_right _ h9)
  have hw_0 := hts (.fieldLink RX0 22 "PathProber$Condition" "counter" "[I") (List.mem_of_getElem? (i := 1) rfl)
  subst hsz
  have hD := hD0.self (sz := s.heap.size)
  generalize hAe : va_A [(oc, .inr (0, oX0 c_seen c_sent c_turn c_counter x_c)), (c_counter, .inl (kI, 12, .inl f_c_counter))] s.heap.size = A at hD ⊢
  have hA : ∀ q : Nat, s.heap.size ≤ q → A q := fun q h => by rw [← hAe]; exact Or.inr h
  have hS : va_S A s.heap s.heap [] := va_S.rf
  have hP : va_P (dC, dI) vwCl [(oc, .inr (0, oX0 c_seen c_sent c_turn c_counter x_c)), (c_counter, .inl (kI, 12, .inl f_c_counter))] s.heap := hP
  have hl := lv_entry ([.ref oc]) (n := 3) (Nat.le_of_ble_eq_true rfl)
  have hla : entryFrame m args0 3 = entryFrame m ([.ref oc] : List Value).toArray 3 := by rw [hargs]
  rw [hla, lg_entry_eq]
  generalize (lg_sl ([.ref oc]) ++ List.replicate (3 - (lg_sl ([.ref oc])).length) Slot.unset).toArray = ls at hl ⊢
  have hl : lv_has ls 3 [(0, .ref oc)] := hl
  have hJ4 : ∀ (n : Nat) (v4_loc1 : Int32) (v4_loc2 : Int32) (H : Heap) (locs : List Loc) (ls : Array Slot), (12 - v4_loc2.toInt).toNat < n → iv 0 12 v4_loc2 → va_P (dC, dI) vwCl [(oc, .inr (0, oX0 c_seen c_sent c_turn c_counter x_c)), (c_counter, .inl (kI, 12, .inl f_c_counter))] H → va_D A [(oc, .inr (0, oX0 c_seen c_sent c_turn c_counter x_c)), (c_counter, .inl (kI, 12, .inl f_c_counter))] → va_S A s.heap H locs → lv_has ls 3 [(0, .ref oc), (1, .int v4_loc1), (2, .int v4_loc2)] → W p l e (headSpec wsX0_countersInAll rm_s0_countersInAll).room s m args0 below meth c H locs (0) (0) (MQ below (va_Qi (fun (r : Int32) (_ : Unit) => True) (fun _ t => va_P (dC, dI) vwCl [(oc, .inr (0, oX0 c_seen c_sent c_turn c_counter x_c)), (c_counter, .inl (kI, 12, .inl f_c_counter))] t.heap ∧ va_D A [(oc, .inr (0, oX0 c_seen c_sent c_turn c_counter x_c)), (c_counter, .inl (kI, 12, .inl f_c_counter))]) A) args0 s 0 0 A) (F0 m 4 ls []) := by
    intro n
    induction n with
    | zero => intro v4_loc1 v4_loc2 H locs ls hm4; exact absurd hm4 (Nat.not_lt_zero _)
    | succ n ih4 =>
      intro v4_loc1 v4_loc2 H locs ls hm4 h4_1 hP hD hS hl
      refine lv_iload_n hx hb dX0_countersInAll_4 rfl (lv_at hl 2 rfl) ?_
      refine lv_bipush (v := 12) hx hb dX0_countersInAll_5 bp_12 ?_
      refine lv_icmp_ge (tgt := 25) hx hb dX0_countersInAll_7 rfl (fun c1 => ?_) (fun c1 => ?_)
      · have b2 : iv 12 12 v4_loc2 := iv_leR c1 ivk_12 h4_1 (by decide) (by decide)
        refine lv_iload_n hx hb dX0_countersInAll_25 rfl (lv_at hl 1 rfl) ?_
        have hP9 := hP
        have hD9 := hD
        exact W.iret (v := v4_loc1) hx hb hr (fun t ht hW => ⟨⟨v4_loc1, (), rfl, trivial, by rw [ht]; exact hP9, hD9⟩, hS.F ht⟩) hS.2.2 dX0_countersInAll_26
      · have b3 : iv 0 11 v4_loc2 := iv_ltL (Int32.not_le.mp c1) h4_1 ivk_12 (by decide) (by decide)
        refine lv_iload_n hx hb dX0_countersInAll_10 rfl (lv_at hl 1 rfl) ?_
        refine lv_aload_n hx hb dX0_countersInAll_11 rfl (lv_at hl 0 rfl) ?_
        refine va_get (D := (dC, dI)) (ci := 0) (v := .ref c_counter) (C := RX0) (T := TX0) (N := 10) hx hb hts hin0 hown hK hP 0 rfl rfl 3 (Nat.le_of_ble_eq_true rfl) hw_0 (fun _ h9 => h9) rfl dX0_countersInAll_12 ?_
        refine lv_iload_n hx hb dX0_countersInAll_15 rfl (lv_at hl 2 rfl) ?_
        refine va_iald hx hb hK hP 1 1 rfl rfl (iv_in b3 (by decide) (by decide)) dX0_countersInAll_16 ?_
        refine lv_topi (fun z4 _ => ?_)
        refine lv_iadd hx hb dX0_countersInAll_17 ?_
        refine lv_topi (fun z5 _ => ?_)
        refine lv_istore_n (lv' := [(1, .int z5), (0, .ref oc), (2, .int v4_loc2)]) hx hb dX0_countersInAll_18 rfl hl (Nat.le_of_ble_eq_true rfl) rfl (fun ls hl => ?_)
        refine lv_iinc (v := v4_loc2 + Int32.ofInt 1) (lv' := [(2, .int (v4_loc2 + Int32.ofInt 1)), (1, .int z5), (0, .ref oc)]) hx hb dX0_countersInAll_19 hl (k := 2) rfl (rfl) (Nat.le_of_ble_eq_true rfl) rfl (fun ls hl => ?_)
        have b6 : iv 1 12 (v4_loc2 + Int32.ofInt 1) := iv_add b3 ivo_1 (by decide) (by decide) (by decide) (by decide)
        refine lv_goto (tgt := 4) hx hb dX0_countersInAll_22 rfl ?_
        exact ih4 z5 (v4_loc2 + Int32.ofInt 1) _ _ _ (ms_up (c := 1) (d := 0) b3 hm4 (by decide) (iv_inc 1 b3 (by decide) (by decide) (by decide) (by decide)) (by decide) rfl) ((iv_w b6 (by decide) (by decide))) (hP) (hD) hS (lv_sub hl [2, 1, 0] rfl)
  refine lv_iconst (v := 0) hx hb dX0_countersInAll_0 ic_0 ?_
  refine lv_istore_n (lv' := [(1, .int 0), (0, .ref oc)]) hx hb dX0_countersInAll_1 rfl hl (Nat.le_of_ble_eq_true rfl) rfl (fun ls hl => ?_)
  refine lv_iconst (v := 0) hx hb dX0_countersInAll_2 ic_0 ?_
  refine lv_istore_n (lv' := [(2, .int 0), (1, .int 0), (0, .ref oc)]) hx hb dX0_countersInAll_3 rfl hl (Nat.le_of_ble_eq_true rfl) rfl (fun ls hl => ?_)
  exact hJ4 _ 0 0 _ _ _ (Nat.lt_succ_self _) ((iv_w ivk_0 (by decide) (by decide))) (hP) (hD) hS (lv_sub hl [2, 1, 0] rfl)
def rm_s0_openWindow : Room := { frames := 1, cells := 0, slots := 0, locals := 21 }
set_option maxHeartbeats 4000000 in
set_option maxRecDepth 100000 in
theorem s0_openWindow (l : Launch) (dC : Nat → ClassId) (dI : Nat → Nat → Nat) (kB kI kJ kZ kC kS : ClassId) (sz : Nat) (oc : Nat) (c_seen : Nat) (c_sent : Nat) (c_turn : Nat) (c_counter : Nat) (x_c : Nat → Int32) : Met l yX0_openWindow wsX0_openWindow rm_s0_openWindow (va_Pc [.ref oc] (fun U => U.heap.size = sz ∧ va_P (dC, dI) vwCl [(oc, .inr (0, oX0 c_seen c_sent c_turn c_counter x_c))] U.heap ∧ kE dC dI kB kI kJ kZ kC kS U ∧ va_D (fun _ => True) [(oc, .inr (0, oX0 c_seen c_sent c_turn c_counter x_c))])) (va_Qv (fun (_ : Unit) => True) (fun _ t => ∃ (x_c' : Nat → Int32), va_P (dC, dI) vwCl [(oc, .inr (0, oX0 c_seen c_sent c_turn c_counter x_c'))] t.heap ∧ va_D (va_A [(oc, .inr (0, oX0 c_seen c_sent c_turn c_counter x_c))] sz) [(oc, .inr (0, oX0 c_seen c_sent c_turn c_counter x_c'))]) (va_A [(oc, .inr (0, oX0 c_seen c_sent c_turn c_counter x_c))] sz)) 0 0 (va_A [(oc, .inr (0, oX0 c_seen c_sent c_turn c_counter x_c))] sz) := by
  refine Met.ofW (cc := cX0_openWindow) (maxL := 1) (ret := none) (by decide) rfl ?_
  intro p e s m args0 below meth c s₁ B hml hv
  obtain ⟨hargs, hsz, hP, hE, hD0⟩ := hv
  have hx := B.exec
  have hb := B.bytes
  have hr := B.returns
  have hts := atoms_spec (ws := wsX0_openWindow) B.pre
  have hown : s.vm.findClass RX0 = some m.cls := findClass_of_methodNamed B.named
  have hlocks := B.notSynchronized
  have hK := hE.1
  have hin0 : ∀ w ∈ wsX00, w ∈ wsX0_openWindow := fun _ h9 => List.mem_cons_of_mem _ (List.mem_append_right _ h9)
  have hw_0 := hts (.fieldLink RX0 29 "PathProber$Condition" "opened" "I") (List.mem_of_getElem? (i := 1) rfl)
  have hw_1 := hts (.fieldLink RX0 32 "PathProber$Condition" "open" "I") (List.mem_of_getElem? (i := 2) rfl)
  have hw_2 := hts (.fieldLink RX0 35 "PathProber$Condition" "deep" "I") (List.mem_of_getElem? (i := 3) rfl)
  have hw_3 := hts (.methodLink RX0 57 Lib.Math.max.name) (List.mem_of_getElem? (i := 4) rfl)
  have hw_4 := hts (.static Lib.Math.max.name) (List.mem_of_getElem? (i := 5) rfl)
  have hw_5 := hts (.initialized "java/lang/Math") (List.mem_of_getElem? (i := 6) rfl)
  have hw_6 := hts (.code Lib.Math.max.name Lib.Math.max.code 2 (some .int)) (List.mem_of_getElem? (i := 7) rfl)
  subst hsz
  have hD := hD0.self (sz := s.heap.size)
  generalize hAe : va_A [(oc, .inr (0, oX0 c_seen c_sent c_turn c_counter x_c))] s.heap.size = A at hD ⊢
  have hA : ∀ q : Nat, s.heap.size ≤ q → A q := fun q h => by rw [← hAe]; exact Or.inr h
  have hS : va_S A s.heap s.heap [] := va_S.rf
  have hP : va_P (dC, dI) vwCl [(oc, .inr (0, oX0 c_seen c_sent c_turn c_counter x_c))] s.heap := hP
  have hl := lv_entry ([.ref oc]) (n := 1) (Nat.le_of_ble_eq_true rfl)
  have hla : entryFrame m args0 1 = entryFrame m ([.ref oc] : List Value).toArray 1 := by rw [hargs]
  rw [hla, lg_entry_eq]
  generalize (lg_sl ([.ref oc]) ++ List.replicate (1 - (lg_sl ([.ref oc])).length) Slot.unset).toArray = ls at hl ⊢
  have hl : lv_has ls 1 [(0, .ref oc)] := hl
  refine lv_aload_n hx hb dX0_openWindow_0 rfl (lv_at hl 0 rfl) ?_
  refine lv_dup hx hb dX0_openWindow_1 rfl ?_
  refine va_get (D := (dC, dI)) (ci := 0) (v := .int (x_c 1)) (C := RX0) (T := TX0) (N := 10) hx hb hts hin0 hown hK hP 0 rfl rfl 5 (Nat.le_of_ble_eq_true rfl) hw_0 (fun _ h9 => h9) rfl dX0_openWindow_2 ?_
  refine lv_iconst (v := 1) hx hb dX0_openWindow_5 ic_1 ?_
  refine lv_iadd hx hb dX0_openWindow_6 ?_
  refine lv_topi (fun z1 _ => ?_)
  refine va_put (D := (dC, dI)) (ci := 0) (v := .int z1) (ty := .int) (C := RX0) (T := TX0) (N := 10) hx hb hts hin0 tyX0 tyX0_ok nmX0 hown hK hP hD hS 0 rfl rfl 5 (by decide) hw_0 (fun _ h9 => h9) rfl (by decide +kernel) rfl rfl (Nat.le_of_ble_eq_true rfl) dX0_openWindow_7 (fun H locs hPa hDa hS => ?_)
  clear hP hD
  have hP : va_P (dC, dI) vwCl [(oc, .inr (0, oX0 c_seen c_sent c_turn c_counter (upd x_c 1 z1)))] H := hPa
  have hD : va_D A [(oc, .inr (0, oX0 c_seen c_sent c_turn c_counter (upd x_c 1 z1)))] := hDa
  clear hPa hDa
  refine lv_aload_n hx hb dX0_openWindow_10 rfl (lv_at hl 0 rfl) ?_
  refine lv_dup hx hb dX0_openWindow_11 rfl ?_
  refine va_get (D := (dC, dI)) (ci := 0) (v := .int (x_c 2)) (C := RX0) (T := TX0) (N := 10) hx hb hts hin0 hown hK hP 0 rfl rfl 6 (Nat.le_of_ble_eq_true rfl) hw_1 (fun _ h9 => h9) rfl dX0_openWindow_12 ?_
  refine lv_iconst (v := 1) hx hb dX0_openWindow_15 ic_1 ?_
  refine lv_iadd hx hb dX0_openWindow_16 ?_
  refine lv_topi (fun z2 _ => ?_)
  refine va_put (D := (dC, dI)) (ci := 0) (v := .int z2) (ty := .int) (C := RX0) (T := TX0) (N := 10) hx hb hts hin0 tyX0 tyX0_ok nmX0 hown hK hP hD hS 0 rfl rfl 6 (by decide) hw_1 (fun _ h9 => h9) rfl (by decide +kernel) rfl rfl (Nat.le_of_ble_eq_true rfl) dX0_openWindow_17 (fun H locs hPa hDa hS => ?_)
  clear hP hD
  have hP : va_P (dC, dI) vwCl [(oc, .inr (0, oX0 c_seen c_sent c_turn c_counter (upd (upd x_c 1 z1) 2 z2)))] H := hPa
  have hD : va_D A [(oc, .inr (0, oX0 c_seen c_sent c_turn c_counter (upd (upd x_c 1 z1) 2 z2)))] := hDa
  clear hPa hDa
  refine lv_aload_n hx hb dX0_openWindow_20 rfl (lv_at hl 0 rfl) ?_
  refine lv_aload_n hx hb dX0_openWindow_21 rfl (lv_at hl 0 rfl) ?_
  refine va_get (D := (dC, dI)) (ci := 0) (v := .int (x_c 3)) (C := RX0) (T := TX0) (N := 10) hx hb hts hin0 hown hK hP 0 rfl rfl 7 (Nat.le_of_ble_eq_true rfl) hw_2 (fun _ h9 => h9) rfl dX0_openWindow_22 ?_
  refine lv_aload_n hx hb dX0_openWindow_25 rfl (lv_at hl 0 rfl) ?_
  refine va_get (D := (dC, dI)) (ci := 0) (v := .int z2) (C := RX0) (T := TX0) (N := 10) hx hb hts hin0 hown hK hP 0 rfl rfl 6 (Nat.le_of_ble_eq_true rfl) hw_1 (fun _ h9 => h9) rfl dX0_openWindow_26 ?_
  refine va_mmax hx hb (by rw [hml]; exact hl.1.symm) hown hw_3 hw_4 hw_5 hw_6 (Nat.le_of_ble_eq_true rfl) (Nat.le_of_ble_eq_true rfl) (Nat.le_of_ble_eq_true rfl) (Nat.le_of_ble_eq_true rfl) dX0_openWindow_29 ?_
  refine lv_topi (fun z3 _ => ?_)
  refine va_put (D := (dC, dI)) (ci := 0) (v := .int z3) (ty := .int) (C := RX0) (T := TX0) (N := 10) hx hb hts hin0 tyX0 tyX0_ok nmX0 hown hK hP hD hS 0 rfl rfl 7 (by decide) hw_2 (fun _ h9 => h9) rfl (by decide +kernel) rfl rfl (Nat.le_of_ble_eq_true rfl) dX0_openWindow_32 (fun H locs hPa hDa hS => ?_)
  clear hP hD
  have hP : va_P (dC, dI) vwCl [(oc, .inr (0, oX0 c_seen c_sent c_turn c_counter (upd (upd (upd x_c 1 z1) 2 z2) 3 z3)))] H := hPa
  have hD : va_D A [(oc, .inr (0, oX0 c_seen c_sent c_turn c_counter (upd (upd (upd x_c 1 z1) 2 z2) 3 z3)))] := hDa
  clear hPa hDa
  have hP9 := hP
  have hD9 := hD
  exact W.vret hx hb hr (fun t ht hW => ⟨⟨(), rfl, trivial, upd (upd (upd x_c 1 z1) 2 z2) 3 z3, by rw [ht]; exact hP9, hD9⟩, hS.F ht⟩) hS.2.2 dX0_openWindow_35
def rm_s0_shutWindow : Room := { frames := 0, cells := 0, slots := 0, locals := 0 }
set_option maxHeartbeats 4000000 in
set_option maxRecDepth 100000 in
theorem s0_shutWindow (l : Launch) (dC : Nat → ClassId) (dI : Nat → Nat → Nat) (kB kI kJ kZ kC kS : ClassId) (sz : Nat) (oc : Nat) (c_seen : Nat) (c_sent : Nat) (c_turn : Nat) (c_counter : Nat) (x_c : Nat → Int32) : Met l yX0_shutWindow wsX0_shutWindow rm_s0_shutWindow (va_Pc [.ref oc] (fun U => U.heap.size = sz ∧ va_P (dC, dI) vwCl [(oc, .inr (0, oX0 c_seen c_sent c_turn c_counter x_c))] U.heap ∧ kE dC dI kB kI kJ kZ kC kS U ∧ va_D (fun _ => True) [(oc, .inr (0, oX0 c_seen c_sent c_turn c_counter x_c))])) (va_Qv (fun (_ : Unit) => True) (fun _ t => ∃ (x_c' : Nat → Int32), va_P (dC, dI) vwCl [(oc, .inr (0, oX0 c_seen c_sent c_turn c_counter x_c'))] t.heap ∧ va_D (va_A [(oc, .inr (0, oX0 c_seen c_sent c_turn c_counter x_c))] sz) [(oc, .inr (0, oX0 c_seen c_sent c_turn c_counter x_c'))]) (va_A [(oc, .inr (0, oX0 c_seen c_sent c_turn c_counter x_c))] sz)) 0 0 (va_A [(oc, .inr (0, oX0 c_seen c_sent c_turn c_counter x_c))] sz) := by
  refine Met.ofW (cc := cX0_shutWindow) (maxL := 1) (ret := none) (by decide) rfl ?_
  intro p e s m args0 below meth c s₁ B hml hv
  obtain ⟨hargs, hsz, hP, hE, hD0⟩ := hv
  have hx := B.exec
  have hb := B.bytes
  have hr := B.returns
  have hts := atoms_spec (ws := wsX0_shutWindow) B.pre
  have hown : s.vm.findClass RX0 = some m.cls := findClass_of_methodNamed B.named
  have hlocks := B.notSynchronized
  have hK := hE.1
  have hin0 : ∀ w ∈ wsX00, w ∈ wsX0_shutWindow := fun _ h9 => List.mem_cons_of_mem _ (List.mem_append_right _ h9)
  have hw_0 := hts (.fieldLink RX0 32 "PathProber$Condition" "open" "I") (List.mem_of_getElem? (i := 1) rfl)
  subst hsz
  have hD := hD0.self (sz := s.heap.size)
  generalize hAe : va_A [(oc, .inr (0, oX0 c_seen c_sent c_turn c_counter x_c))] s.heap.size = A at hD ⊢
  have hA : ∀ q : Nat, s.heap.size ≤ q → A q := fun q h => by rw [← hAe]; exact Or.inr h
  have hS : va_S A s.heap s.heap [] := va_S.rf
  have hP : va_P (dC, dI) vwCl [(oc, .inr (0, oX0 c_seen c_sent c_turn c_counter x_c))] s.heap := hP
  have hl := lv_entry ([.ref oc]) (n := 1) (Nat.le_of_ble_eq_true rfl)
  have hla : entryFrame m args0 1 = entryFrame m ([.ref oc] : List Value).toArray 1 := by rw [hargs]
  rw [hla, lg_entry_eq]
  generalize (lg_sl ([.ref oc]) ++ List.replicate (1 - (lg_sl ([.ref oc])).length) Slot.unset).toArray = ls at hl ⊢
  have hl : lv_has ls 1 [(0, .ref oc)] := hl
  refine lv_aload_n hx hb dX0_shutWindow_0 rfl (lv_at hl 0 rfl) ?_
  refine lv_dup hx hb dX0_shutWindow_1 rfl ?_
  refine va_get (D := (dC, dI)) (ci := 0) (v := .int (x_c 2)) (C := RX0) (T := TX0) (N := 10) hx hb hts hin0 hown hK hP 0 rfl rfl 6 (Nat.le_of_ble_eq_true rfl) hw_0 (fun _ h9 => h9) rfl dX0_shutWindow_2 ?_
  refine lv_iconst (v := 1) hx hb dX0_shutWindow_5 ic_1 ?_
  refine lv_isub hx hb dX0_shutWindow_6 ?_
  refine lv_topi (fun z1 _ => ?_)
  refine va_put (D := (dC, dI)) (ci := 0) (v := .int z1) (ty := .int) (C := RX0) (T := TX0) (N := 10) hx hb hts hin0 tyX0 tyX0_ok nmX0 hown hK hP hD hS 0 rfl rfl 6 (by decide) hw_0 (fun _ h9 => h9) rfl (by decide +kernel) rfl rfl (Nat.le_of_ble_eq_true rfl) dX0_shutWindow_7 (fun H locs hPa hDa hS => ?_)
  clear hP hD
  have hP : va_P (dC, dI) vwCl [(oc, .inr (0, oX0 c_seen c_sent c_turn c_counter (upd x_c 2 z1)))] H := hPa
  have hD : va_D A [(oc, .inr (0, oX0 c_seen c_sent c_turn c_counter (upd x_c 2 z1)))] := hDa
  clear hPa hDa
  have hP9 := hP
  have hD9 := hD
  exact W.vret hx hb hr (fun t ht hW => ⟨⟨(), rfl, trivial, upd x_c 2 z1, by rw [ht]; exact hP9, hD9⟩, hS.F ht⟩) hS.2.2 dX0_shutWindow_10
def rm_s0_seenBy : Room := { frames := 0, cells := 0, slots := 0, locals := 0 }
set_option maxHeartbeats 4000000 in
set_option maxRecDepth 100000 in
theorem s0_seenBy (l : Launch) (dC : Nat → ClassId) (dI : Nat → Nat → Nat) (kB kI kJ kZ kC kS : ClassId) (sz : Nat) (oc : Nat) (c_seen : Nat) (c_sent : Nat) (c_turn : Nat) (c_counter : Nat) (x_c : Nat → Int32) (f_c_seen : Nat → Int64) (p0 : Int32) (p1 : Int32) (p2 : Int32) (hf_c_seen : sI f_c_seen) (hp0 : iv 0 31 p0) (hp1 : iv 0 2 p1) (hp2 : iv 0 10 p2) : Met l yX0_seenBy wsX0_seenBy rm_s0_seenBy (va_Pc [.ref oc, .int p0, .int p1, .int p2] (fun U => U.heap.size = sz ∧ va_P (dC, dI) vwCl [(oc, .inr (0, oX0 c_seen c_sent c_turn c_counter x_c)), (c_seen, .inl (kJ, 96, .inr (.inl f_c_seen)))] U.heap ∧ kE dC dI kB kI kJ kZ kC kS U ∧ va_D (fun _ => True) [(oc, .inr (0, oX0 c_seen c_sent c_turn c_counter x_c)), (c_seen, .inl (kJ, 96, .inr (.inl f_c_seen)))])) (va_Qi (fun (r : Int32) (_ : Unit) => iv (-1) 20 r) (fun _ t => va_P (dC, dI) vwCl [(oc, .inr (0, oX0 c_seen c_sent c_turn c_counter x_c)), (c_seen, .inl (kJ, 96, .inr (.inl f_c_seen)))] t.heap ∧ va_D (va_A [(oc, .inr (0, oX0 c_seen c_sent c_turn c_counter x_c)), (c_seen, .inl (kJ, 96, .inr (.inl f_c_seen)))] sz) [(oc, .inr (0, oX0 c_seen c_sent c_turn c_counter x_c)), (c_seen, .inl (kJ, 96, .inr (.inl f_c_seen)))]) (va_A [(oc, .inr (0, oX0 c_seen c_sent c_turn c_counter x_c)), (c_seen, .inl (kJ, 96, .inr (.inl f_c_seen)))] sz)) 0 0 (va_A [(oc, .inr (0, oX0 c_seen c_sent c_turn c_counter x_c)), (c_seen, .inl (kJ, 96, .inr (.inl f_c_seen)))] sz) := by
  refine Met.ofW (cc := cX0_seenBy) (maxL := 6) (ret := (some .int)) (by decide) rfl ?_
  intro p e s m args0 below meth c s₁ B hml hv
  obtain ⟨hargs, hsz, hP, hE, hD0⟩ := hv
  have hx := B.exec
  have hb := B.bytes
  have hr := B.returns
  have hts := atoms_spec (ws := wsX0_seenBy) B.pre
  have hown : s.vm.findClass RX0 = some m.cls := findClass_of_methodNamed B.named
  have hlocks := B.notSynchronized
  have hK := hE.1
  have hin0 : ∀ w ∈ wsX00, w ∈ wsX0_seenBy := fun _ h9 => List.mem_cons_of_mem _ (List.mem_append_right _ h9)
  have hw_0 := hts (.fieldLink RX0 9 "PathProber$Condition" "seen" "[J") (List.mem_of_getElem? (i := 1) rfl)
  have hw_1 := hts (.constantLong RX0 53 (31)) (List.mem_of_getElem? (i := 2) rfl)
  subst hsz
  have hD := hD0.self (sz := s.heap.size)
  generalize hAe : va_A [(oc, .inr (0, oX0 c_seen c_sent c_turn c_counter x_c)), (c_seen, .inl (kJ, 96, .inr (.inl f_c_seen)))] s.heap.size = A at hD ⊢
  have hA : ∀ q : Nat, s.heap.size ≤ q → A q := fun q h => by rw [← hAe]; exact Or.inr h
  have hS : va_S A s.heap s.heap [] := va_S.rf
  have hP : va_P (dC, dI) vwCl [(oc, .inr (0, oX0 c_seen c_sent c_turn c_counter x_c)), (c_seen, .inl (kJ, 96, .inr (.inl f_c_seen)))] s.heap := hP
  have hl := lv_entry ([.ref oc, .int p0, .int p1, .int p2]) (n := 6) (Nat.le_of_ble_eq_true rfl)
  have hla : entryFrame m args0 6 = entryFrame m ([.ref oc, .int p0, .int p1, .int p2] : List Value).toArray 6 := by rw [hargs]
  rw [hla, lg_entry_eq]
  generalize (lg_sl ([.ref oc, .int p0, .int p1, .int p2]) ++ List.replicate (6 - (lg_sl ([.ref oc, .int p0, .int p1, .int p2])).length) Slot.unset).toArray = ls at hl ⊢
  have hl : lv_has ls 6 [(0, .ref oc), (1, .int p0), (2, .int p1), (3, .int p2)] := hl
  refine lv_aload_n hx hb dX0_seenBy_0 rfl (lv_at hl 0 rfl) ?_
  refine va_get (D := (dC, dI)) (ci := 0) (v := .ref c_seen) (C := RX0) (T := TX0) (N := 10) hx hb hts hin0 hown hK hP 0 rfl rfl 0 (Nat.le_of_ble_eq_true rfl) hw_0 (fun _ h9 => h9) rfl dX0_seenBy_1 ?_
  refine lv_iload_n hx hb dX0_seenBy_4 rfl (lv_at hl 2 rfl) ?_
  refine lv_bipush (v := 32) hx hb dX0_seenBy_5 bp_32 ?_
  refine lv_imul hx hb dX0_seenBy_7 ?_
  refine iv_top (a := 0) (b := 64) (iv_mul hp1 ivk_32 (by decide) (by decide) (by decide) (by decide) (by decide)) (fun z1 b2 => ?_)
  refine lv_iload_n hx hb dX0_seenBy_8 rfl (lv_at hl 1 rfl) ?_
  refine lv_iadd hx hb dX0_seenBy_9 ?_
  refine iv_top (a := 0) (b := 95) (iv_add b2 hp0 (by decide) (by decide) (by decide) (by decide)) (fun z3 b4 => ?_)
  refine va_lald hx hb hK hP 1 2 rfl rfl (iv_in b4 (by decide) (by decide)) dX0_seenBy_10 ?_
  refine lv_lstore (lv' := [(4, .long (f_c_seen z3.toNatClampNeg)), (0, .ref oc), (1, .int p0), (2, .int p1), (3, .int p2)]) hx hb dX0_seenBy_11 hl (Nat.le_of_ble_eq_true rfl) rfl (fun ls hl => ?_)
  refine lv_lload hx hb dX0_seenBy_13 (lv_at hl 0 rfl) ?_
  refine lv_iconst (v := 5) hx hb dX0_seenBy_15 ic_5 ?_
  refine lv_iload_n hx hb dX0_seenBy_16 rfl (lv_at hl 4 rfl) ?_
  refine lv_iconst (v := 1) hx hb dX0_seenBy_17 ic_1 ?_
  refine lv_isub hx hb dX0_seenBy_18 ?_
  have b5 : iv (-1) 9 (p2 - 1) := iv_sub hp2 ivk_1 (by decide) (by decide) (by decide) (by decide)
  refine lv_imul hx hb dX0_seenBy_19 ?_
  refine lv_lushr hx hb dX0_seenBy_20 rfl ?_
  refine lv_ldc2 hx hb hown hw_1 dX0_seenBy_21 ?_
  refine lv_land hx hb dX0_seenBy_24 ?_
  refine lv_l2i hx hb dX0_seenBy_25 rfl ?_
  refine iv_top (a := 0) (b := 21) (sb_get hf_c_seen _ hp2) (fun z6 b7 => ?_)
  refine lv_iconst (v := 1) hx hb dX0_seenBy_26 ic_1 ?_
  refine lv_isub hx hb dX0_seenBy_27 ?_
  refine iv_top (a := (-1)) (b := 20) (iv_sub b7 ivk_1 (by decide) (by decide) (by decide) (by decide)) (fun z8 b9 => ?_)
  have hP9 := hP
  have hD9 := hD
  exact W.iret (v := z8) hx hb hr (fun t ht hW => ⟨⟨z8, (), rfl, b9, by rw [ht]; exact hP9, hD9⟩, hS.F ht⟩) hS.2.2 dX0_seenBy_28
def rm_s0_see : Room := { frames := 0, cells := 0, slots := 0, locals := 0 }
set_option maxHeartbeats 4000000 in
set_option maxRecDepth 100000 in
theorem s0_see (l : Launch) (dC : Nat → ClassId) (dI : Nat → Nat → Nat) (kB kI kJ kZ kC kS : ClassId) (sz : Nat) (oc : Nat) (c_seen : Nat) (c_sent : Nat) (c_turn : Nat) (c_counter : Nat) (x_c : Nat → Int32) (f_c_seen : Nat → Int64) (p0 : Int32) (p1 : Int32) (p2 : Int32) (p3 : Int32) (hf_c_seen : sI f_c_seen) (hp0 : iv 0 31 p0) (hp1 : iv 0 2 p1) (hp2 : iv 1 10 p2) (hp3 : iv 0 20 p3) : Met l yX0_see wsX0_see rm_s0_see (va_Pc [.ref oc, .int p0, .int p1, .int p2, .int p3] (fun U => U.heap.size = sz ∧ va_P (dC, dI) vwCl [(oc, .inr (0, oX0 c_seen c_sent c_turn c_counter x_c)), (c_seen, .inl (kJ, 96, .inr (.inl f_c_seen)))] U.heap ∧ kE dC dI kB kI kJ kZ kC kS U ∧ va_D (fun _ => True) [(oc, .inr (0, oX0 c_seen c_sent c_turn c_counter x_c)), (c_seen, .inl (kJ, 96, .inr (.inl f_c_seen)))])) (va_Qv (fun (_ : Unit) => True) (fun _ t => ∃ (f_c_seen' : Nat → Int64), sI f_c_seen' ∧ va_P (dC, dI) vwCl [(oc, .inr (0, oX0 c_seen c_sent c_turn c_counter x_c)), (c_seen, .inl (kJ, 96, .inr (.inl f_c_seen')))] t.heap ∧ va_D (va_A [(oc, .inr (0, oX0 c_seen c_sent c_turn c_counter x_c)), (c_seen, .inl (kJ, 96, .inr (.inl f_c_seen)))] sz) [(oc, .inr (0, oX0 c_seen c_sent c_turn c_counter x_c)), (c_seen, .inl (kJ, 96, .inr (.inl f_c_seen')))]) (va_A [(oc, .inr (0, oX0 c_seen c_sent c_turn c_counter x_c)), (c_seen, .inl (kJ, 96, .inr (.inl f_c_seen)))] sz)) 0 0 (va_A [(oc, .inr (0, oX0 c_seen c_sent c_turn c_counter x_c)), (c_seen, .inl (kJ, 96, .inr (.inl f_c_seen)))] sz) := by
  refine Met.ofW (cc := cX0_see) (maxL := 8) (ret := none) (by decide) rfl ?_
  intro p e s m args0 below meth c s₁ B hml hv
  obtain ⟨hargs, hsz, hP, hE, hD0⟩ := hv
  have hx := B.exec
  have hb := B.bytes
  have hr := B.returns
  have hts := atoms_spec (ws := wsX0_see) B.pre
  have hown : s.vm.findClass RX0 = some m.cls := findClass_of_methodNamed B.named
  have hlocks := B.notSynchronized
  have hK := hE.1
  have hin0 : ∀ w ∈ wsX00, w ∈ wsX0_see := fun _ h9 => List.mem_cons_of_mem _ (List.mem_append_right _ h9)
  have hw_0 := hts (.fieldLink RX0 9 "PathProber$Condition" "seen" "[J") (List.mem_of_getElem? (i := 1) rfl)
  have hw_1 := hts (.constantLong RX0 53 (31)) (List.mem_of_getElem? (i := 2) rfl)
  have hw_2 := hts (.constantLong RX0 55 (-1)) (List.mem_of_getElem? (i := 3) rfl)
  subst hsz
  have hD := hD0.self (sz := s.heap.size)
  generalize hAe : va_A [(oc, .inr (0, oX0 c_seen c_sent c_turn c_counter x_c)), (c_seen, .inl (kJ, 96, .inr (.inl f_c_seen)))] s.heap.size = A at hD ⊢
  have hA : ∀ q : Nat, s.heap.size ≤ q → A q := fun q h => by rw [← hAe]; exact Or.inr h
  have hS : va_S A s.heap s.heap [] := va_S.rf
  have hP : va_P (dC, dI) vwCl [(oc, .inr (0, oX0 c_seen c_sent c_turn c_counter x_c)), (c_seen, .inl (kJ, 96, .inr (.inl f_c_seen)))] s.heap := hP
  have hl := lv_entry ([.ref oc, .int p0, .int p1, .int p2, .int p3]) (n := 8) (Nat.le_of_ble_eq_true rfl)
  have hla : entryFrame m args0 8 = entryFrame m ([.ref oc, .int p0, .int p1, .int p2, .int p3] : List Value).toArray 8 := by rw [hargs]
  rw [hla, lg_entry_eq]
  generalize (lg_sl ([.ref oc, .int p0, .int p1, .int p2, .int p3]) ++ List.replicate (8 - (lg_sl ([.ref oc, .int p0, .int p1, .int p2, .int p3])).length) Slot.unset).toArray = ls at hl ⊢
  have hl : lv_has ls 8 [(0, .ref oc), (1, .int p0), (2, .int p1), (3, .int p2), (4, .int p3)] := hl
  refine lv_iconst (v := 5) hx hb dX0_see_0 ic_5 ?_
  refine lv_iload_n hx hb dX0_see_1 rfl (lv_at hl 3 rfl) ?_
  refine lv_iconst (v := 1) hx hb dX0_see_2 ic_1 ?_
  refine lv_isub hx hb dX0_see_3 ?_
  have b1 : iv 0 9 (p2 - 1) := iv_sub hp2 ivk_1 (by decide) (by decide) (by decide) (by decide)
  refine lv_imul hx hb dX0_see_4 ?_
  have b2 : iv 0 45 (5 * (p2 - 1)) := iv_mul ivk_5 b1 (by decide) (by decide) (by decide) (by decide) (by decide)
  refine lv_istore (lv' := [(5, .int (5 * (p2 - 1))), (0, .ref oc), (1, .int p0), (2, .int p1), (3, .int p2), (4, .int p3)]) hx hb dX0_see_5 hl (Nat.le_of_ble_eq_true rfl) rfl (fun ls hl => ?_)
  refine lv_aload_n hx hb dX0_see_7 rfl (lv_at hl 1 rfl) ?_
  refine va_get (D := (dC, dI)) (ci := 0) (v := .ref c_seen) (C := RX0) (T := TX0) (N := 10) hx hb hts hin0 hown hK hP 0 rfl rfl 0 (Nat.le_of_ble_eq_true rfl) hw_0 (fun _ h9 => h9) rfl dX0_see_8 ?_
  refine lv_iload_n hx hb dX0_see_11 rfl (lv_at hl 3 rfl) ?_
  refine lv_bipush (v := 32) hx hb dX0_see_12 bp_32 ?_
  refine lv_imul hx hb dX0_see_14 ?_
  have b3 : iv 0 64 (p1 * 32) := iv_mul hp1 ivk_32 (by decide) (by decide) (by decide) (by decide) (by decide)
  refine lv_iload_n hx hb dX0_see_15 rfl (lv_at hl 2 rfl) ?_
  refine lv_iadd hx hb dX0_see_16 ?_
  have b4 : iv 0 95 ((p1 * 32) + p0) := iv_add b3 hp0 (by decide) (by decide) (by decide) (by decide)
  refine va_lald hx hb hK hP 1 2 rfl rfl (iv_in b4 (by decide) (by decide)) dX0_see_17 ?_
  refine lv_ldc2 hx hb hown hw_1 dX0_see_18 ?_
  refine lv_iload hx hb dX0_see_21 (lv_at hl 0 rfl) ?_
  refine lv_lshl hx hb dX0_see_23 rfl ?_
  refine lv_ldc2 hx hb hown hw_2 dX0_see_24 ?_
  refine lv_lxor hx hb dX0_see_27 ?_
  refine lv_land hx hb dX0_see_28 ?_
  refine lv_lstore (lv' := [(6, .long ((f_c_seen ((p1 * 32) + p0).toNatClampNeg) &&& ((31 <<< ((5 * (p2 - 1)).toInt64 &&& 63)) ^^^ (-1)))), (5, .int (5 * (p2 - 1))), (0, .ref oc), (1, .int p0), (2, .int p1), (3, .int p2), (4, .int p3)]) hx hb dX0_see_29 hl (Nat.le_of_ble_eq_true rfl) rfl (fun ls hl => ?_)
  refine lv_aload_n hx hb dX0_see_31 rfl (lv_at hl 2 rfl) ?_
  refine va_get (D := (dC, dI)) (ci := 0) (v := .ref c_seen) (C := RX0) (T := TX0) (N := 10) hx hb hts hin0 hown hK hP 0 rfl rfl 0 (Nat.le_of_ble_eq_true rfl) hw_0 (fun _ h9 => h9) rfl dX0_see_32 ?_
  refine lv_iload_n hx hb dX0_see_35 rfl (lv_at hl 4 rfl) ?_
  refine lv_bipush (v := 32) hx hb dX0_see_36 bp_32 ?_
  refine lv_imul hx hb dX0_see_38 ?_
  have b5 : iv 0 64 (p1 * 32) := iv_mul hp1 ivk_32 (by decide) (by decide) (by decide) (by decide) (by decide)
  refine lv_iload_n hx hb dX0_see_39 rfl (lv_at hl 3 rfl) ?_
  refine lv_iadd hx hb dX0_see_40 ?_
  have b6 : iv 0 95 ((p1 * 32) + p0) := iv_add b5 hp0 (by decide) (by decide) (by decide) (by decide)
  refine lv_lload hx hb dX0_see_41 (lv_at hl 0 rfl) ?_
  refine lv_iload hx hb dX0_see_43 (lv_at hl 6 rfl) ?_
  refine lv_iconst (v := 1) hx hb dX0_see_45 ic_1 ?_
  refine lv_iadd hx hb dX0_see_46 ?_
  have b7 : iv 1 21 (p3 + 1) := iv_add hp3 ivk_1 (by decide) (by decide) (by decide) (by decide)
  refine lv_i2l (v := (p3 + 1).toInt64) hx hb dX0_see_47 rfl ?_
  refine lv_iload hx hb dX0_see_48 (lv_at hl 1 rfl) ?_
  refine lv_lshl hx hb dX0_see_50 rfl ?_
  refine lv_lor hx hb dX0_see_51 ?_
  refine va_last hx hb hK hP hD hS 1 2 rfl rfl (iv_in b6 (by decide) (by decide)) dX0_see_52 (fun H locs hPa hDa hS => ?_)
  clear hP hD
  have hP : va_P (dC, dI) vwCl [(oc, .inr (0, oX0 c_seen c_sent c_turn c_counter x_c)), (c_seen, .inl (kJ, 96, .inr (.inl (vp_updL f_c_seen ((p1 * 32) + p0).toNatClampNeg (((f_c_seen ((p1 * 32) + p0).toNatClampNeg) &&& ((31 <<< ((5 * (p2 - 1)).toInt64 &&& 63)) ^^^ (-1))) ||| (((p3 + 1).toInt64) <<< ((5 * (p2 - 1)).toInt64 &&& 63)))))))] H := hPa
  have hD : va_D A [(oc, .inr (0, oX0 c_seen c_sent c_turn c_counter x_c)), (c_seen, .inl (kJ, 96, .inr (.inl (vp_updL f_c_seen ((p1 * 32) + p0).toNatClampNeg (((f_c_seen ((p1 * 32) + p0).toNatClampNeg) &&& ((31 <<< ((5 * (p2 - 1)).toInt64 &&& 63)) ^^^ (-1))) ||| (((p3 + 1).toInt64) <<< ((5 * (p2 - 1)).toInt64 &&& 63)))))))] := hDa
  clear hPa hDa
  have hf9 : sI (vp_updL f_c_seen ((p1 * 32) + p0).toNatClampNeg (((f_c_seen ((p1 * 32) + p0).toNatClampNeg) &&& ((31 <<< ((5 * (p2 - 1)).toInt64 &&& 63)) ^^^ (-1))) ||| (((p3 + 1).toInt64) <<< ((5 * (p2 - 1)).toInt64 &&& 63)))) := sb_see hf_c_seen hp2 hp3
  generalize (vp_updL f_c_seen ((p1 * 32) + p0).toNatClampNeg (((f_c_seen ((p1 * 32) + p0).toNatClampNeg) &&& ((31 <<< ((5 * (p2 - 1)).toInt64 &&& 63)) ^^^ (-1))) ||| (((p3 + 1).toInt64) <<< ((5 * (p2 - 1)).toInt64 &&& 63)))) = f8 at hP hD hf9
  have hP9 := hP
  have hD9 := hD
  exact W.vret hx hb hr (fun t ht hW => ⟨⟨(), rfl, trivial, f8, hf9, by rw [ht]; exact hP9, hD9⟩, hS.F ht⟩) hS.2.2 dX0_see_53
def rm_s0_seenAt : Room := { frames := 0, cells := 0, slots := 0, locals := 0 }
set_option maxHeartbeats 4000000 in
set_option maxRecDepth 100000 in
theorem s0_seenAt (l : Launch) (dC : Nat → ClassId) (dI : Nat → Nat → Nat) (kB kI kJ kZ kC kS : ClassId) (sz : Nat) (oc : Nat) (c_seen : Nat) (c_sent : Nat) (c_turn : Nat) (c_counter : Nat) (x_c : Nat → Int32) (f_c_seen : Nat → Int64) (p0 : Int32) (p1 : Int32) (hf_c_seen : sI f_c_seen) (hp0 : iv 0 2 p0) : Met l yX0_seenAt wsX0_seenAt rm_s0_seenAt (va_Pc [.ref oc, .int p0, .int p1] (fun U => U.heap.size = sz ∧ va_P (dC, dI) vwCl [(oc, .inr (0, oX0 c_seen c_sent c_turn c_counter x_c)), (c_seen, .inl (kJ, 96, .inr (.inl f_c_seen)))] U.heap ∧ kE dC dI kB kI kJ kZ kC kS U ∧ va_D (fun _ => True) [(oc, .inr (0, oX0 c_seen c_sent c_turn c_counter x_c)), (c_seen, .inl (kJ, 96, .inr (.inl f_c_seen)))])) (va_Qi (fun (r : Int32) (_ : Unit) => True) (fun _ t => va_P (dC, dI) vwCl [(oc, .inr (0, oX0 c_seen c_sent c_turn c_counter x_c)), (c_seen, .inl (kJ, 96, .inr (.inl f_c_seen)))] t.heap ∧ va_D (va_A [(oc, .inr (0, oX0 c_seen c_sent c_turn c_counter x_c)), (c_seen, .inl (kJ, 96, .inr (.inl f_c_seen)))] sz) [(oc, .inr (0, oX0 c_seen c_sent c_turn c_counter x_c)), (c_seen, .inl (kJ, 96, .inr (.inl f_c_seen)))]) (va_A [(oc, .inr (0, oX0 c_seen c_sent c_turn c_counter x_c)), (c_seen, .inl (kJ, 96, .inr (.inl f_c_seen)))] sz)) 0 0 (va_A [(oc, .inr (0, oX0 c_seen c_sent c_turn c_counter x_c)), (c_seen, .inl (kJ, 96, .inr (.inl f_c_seen)))] sz) := by
  refine Met.ofW (cc := cX0_seenAt) (maxL := 6) (ret := (some .int)) (by decide) rfl ?_
  intro p e s m args0 below meth c s₁ B hml hv
  obtain ⟨hargs, hsz, hP, hE, hD0⟩ := hv
  have hx := B.exec
  have hb := B.bytes
  have hr := B.returns
  have hts := atoms_spec (ws := wsX0_seenAt) B.pre
  have hown : s.vm.findClass RX0 = some m.cls := findClass_of_methodNamed B.named
  have hlocks := B.notSynchronized
  have hK := hE.1
  have hin0 : ∀ w ∈ wsX00, w ∈ wsX0_seenAt := fun _ h9 => List.mem_cons_of_mem _ (List.mem_append_right _ h9)
  have hw_0 := hts (.fieldLink RX0 9 "PathProber$Condition" "seen" "[J") (List.mem_of_getElem? (i := 1) rfl)
  have hw_1 := hts (.constantLong RX0 53 (31)) (List.mem_of_getElem? (i := 2) rfl)
  subst hsz
  have hD := hD0.self (sz := s.heap.size)
  generalize hAe : va_A [(oc, .inr (0, oX0 c_seen c_sent c_turn c_counter x_c)), (c_seen, .inl (kJ, 96, .inr (.inl f_c_seen)))] s.heap.size = A at hD ⊢
  have hA : ∀ q : Nat, s.heap.size ≤ q → A q := fun q h => by rw [← hAe]; exact Or.inr h
  have hS : va_S A s.heap s.heap [] := va_S.rf
  have hP : va_P (dC, dI) vwCl [(oc, .inr (0, oX0 c_seen c_sent c_turn c_counter x_c)), (c_seen, .inl (kJ, 96, .inr (.inl f_c_seen)))] s.heap := hP
  have hl := lv_entry ([.ref oc, .int p0, .int p1]) (n := 6) (Nat.le_of_ble_eq_true rfl)
  have hla : entryFrame m args0 6 = entryFrame m ([.ref oc, .int p0, .int p1] : List Value).toArray 6 := by rw [hargs]
  rw [hla, lg_entry_eq]
  generalize (lg_sl ([.ref oc, .int p0, .int p1]) ++ List.replicate (6 - (lg_sl ([.ref oc, .int p0, .int p1])).length) Slot.unset).toArray = ls at hl ⊢
  have hl : lv_has ls 6 [(0, .ref oc), (1, .int p0), (2, .int p1)] := hl
  have hJ12 : ∀ (n : Nat) (v12_loc3 : Int32) (v12_loc4 : Int32) (v12_loc5 : Int32) (H : Heap) (locs : List Loc) (ls : Array Slot), (32 - v12_loc5.toInt).toNat < n → iv 0 32 v12_loc5 → va_P (dC, dI) vwCl [(oc, .inr (0, oX0 c_seen c_sent c_turn c_counter x_c)), (c_seen, .inl (kJ, 96, .inr (.inl f_c_seen)))] H → va_D A [(oc, .inr (0, oX0 c_seen c_sent c_turn c_counter x_c)), (c_seen, .inl (kJ, 96, .inr (.inl f_c_seen)))] → va_S A s.heap H locs → lv_has ls 6 [(0, .ref oc), (1, .int p0), (2, .int p1), (3, .int v12_loc3), (4, .int v12_loc4), (5, .int v12_loc5)] → W p l e (headSpec wsX0_seenAt rm_s0_seenAt).room s m args0 below meth c H locs (0) (0) (MQ below (va_Qi (fun (r : Int32) (_ : Unit) => True) (fun _ t => va_P (dC, dI) vwCl [(oc, .inr (0, oX0 c_seen c_sent c_turn c_counter x_c)), (c_seen, .inl (kJ, 96, .inr (.inl f_c_seen)))] t.heap ∧ va_D A [(oc, .inr (0, oX0 c_seen c_sent c_turn c_counter x_c)), (c_seen, .inl (kJ, 96, .inr (.inl f_c_seen)))]) A) args0 s 0 0 A) (F0 m 12 ls []) := by
    intro n
    induction n with
    | zero => intro v12_loc3 v12_loc4 v12_loc5 H locs ls hm12; exact absurd hm12 (Nat.not_lt_zero _)
    | succ n ih12 =>
      intro v12_loc3 v12_loc4 v12_loc5 H locs ls hm12 h12_1 hP hD hS hl
      refine lv_iload hx hb dX0_seenAt_12 (lv_at hl 5 rfl) ?_
      refine lv_bipush (v := 32) hx hb dX0_seenAt_14 bp_32 ?_
      refine lv_icmp_ge (tgt := 51) hx hb dX0_seenAt_16 rfl (fun c1 => ?_) (fun c1 => ?_)
      · have b2 : iv 32 32 v12_loc5 := iv_leR c1 ivk_32 h12_1 (by decide) (by decide)
        refine lv_iload hx hb dX0_seenAt_51 (lv_at hl 4 rfl) ?_
        refine lv_iconst (v := 1) hx hb dX0_seenAt_53 ic_1 ?_
        refine lv_iushr hx hb dX0_seenAt_54 rfl ?_
        refine lv_topi (fun z3 _ => ?_)
        have hP9 := hP
        have hD9 := hD
        exact W.iret (v := z3) hx hb hr (fun t ht hW => ⟨⟨z3, (), rfl, trivial, by rw [ht]; exact hP9, hD9⟩, hS.F ht⟩) hS.2.2 dX0_seenAt_55
      · have b4 : iv 0 31 v12_loc5 := iv_ltL (Int32.not_le.mp c1) h12_1 ivk_32 (by decide) (by decide)
        refine lv_iload hx hb dX0_seenAt_19 (lv_at hl 4 rfl) ?_
        refine lv_iconst (v := 1) hx hb dX0_seenAt_21 ic_1 ?_
        refine lv_aload_n hx hb dX0_seenAt_22 rfl (lv_at hl 0 rfl) ?_
        refine va_get (D := (dC, dI)) (ci := 0) (v := .ref c_seen) (C := RX0) (T := TX0) (N := 10) hx hb hts hin0 hown hK hP 0 rfl rfl 0 (Nat.le_of_ble_eq_true rfl) hw_0 (fun _ h9 => h9) rfl dX0_seenAt_23 ?_
        refine lv_iload_n hx hb dX0_seenAt_26 rfl (lv_at hl 1 rfl) ?_
        refine lv_bipush (v := 32) hx hb dX0_seenAt_27 bp_32 ?_
        refine lv_imul hx hb dX0_seenAt_29 ?_
        refine iv_top (a := 0) (b := 64) (iv_mul hp0 ivk_32 (by decide) (by decide) (by decide) (by decide) (by decide)) (fun z5 b6 => ?_)
        refine lv_iload hx hb dX0_seenAt_30 (lv_at hl 5 rfl) ?_
        refine lv_iadd hx hb dX0_seenAt_32 ?_
        refine iv_top (a := 0) (b := 95) (iv_add b6 b4 (by decide) (by decide) (by decide) (by decide)) (fun z7 b8 => ?_)
        refine va_lald hx hb hK hP 1 2 rfl rfl (iv_in b8 (by decide) (by decide)) dX0_seenAt_33 ?_
        refine lv_topl (fun z9 _ => ?_)
        refine lv_iload_n hx hb dX0_seenAt_34 rfl (lv_at hl 3 rfl) ?_
        refine lv_lushr hx hb dX0_seenAt_35 rfl ?_
        refine lv_topl (fun z10 _ => ?_)
        refine lv_ldc2 hx hb hown hw_1 dX0_seenAt_36 ?_
        refine lv_land hx hb dX0_seenAt_39 ?_
        refine lv_topl (fun z11 _ => ?_)
        refine lv_l2i hx hb dX0_seenAt_40 rfl ?_
        refine lv_topi (fun z12 _ => ?_)
        refine lv_ishl hx hb dX0_seenAt_41 ?_
        refine lv_topi (fun z13 _ => ?_)
        refine lv_ior hx hb dX0_seenAt_42 ?_
        refine lv_topi (fun z14 _ => ?_)
        refine lv_istore (lv' := [(4, .int z14), (0, .ref oc), (1, .int p0), (2, .int p1), (3, .int v12_loc3), (5, .int v12_loc5)]) hx hb dX0_seenAt_43 hl (Nat.le_of_ble_eq_true rfl) rfl (fun ls hl => ?_)
        refine lv_iinc (v := v12_loc5 + Int32.ofInt 1) (lv' := [(5, .int (v12_loc5 + Int32.ofInt 1)), (4, .int z14), (0, .ref oc), (1, .int p0), (2, .int p1), (3, .int v12_loc3)]) hx hb dX0_seenAt_45 hl (k := 5) rfl (rfl) (Nat.le_of_ble_eq_true rfl) rfl (fun ls hl => ?_)
        have b15 : iv 1 32 (v12_loc5 + Int32.ofInt 1) := iv_add b4 ivo_1 (by decide) (by decide) (by decide) (by decide)
        refine lv_goto (tgt := 12) hx hb dX0_seenAt_48 rfl ?_
        exact ih12 v12_loc3 z14 (v12_loc5 + Int32.ofInt 1) _ _ _ (ms_up (c := 1) (d := 0) b4 hm12 (by decide) (iv_inc 1 b4 (by decide) (by decide) (by decide) (by decide)) (by decide) rfl) ((iv_w b15 (by decide) (by decide))) (hP) (hD) hS (lv_sub hl [2, 3, 4, 5, 1, 0] rfl)
  refine lv_iconst (v := 5) hx hb dX0_seenAt_0 ic_5 ?_
  refine lv_iload_n hx hb dX0_seenAt_1 rfl (lv_at hl 2 rfl) ?_
  refine lv_iconst (v := 1) hx hb dX0_seenAt_2 ic_1 ?_
  refine lv_isub hx hb dX0_seenAt_3 ?_
  refine lv_topi (fun z16 _ => ?_)
  refine lv_imul hx hb dX0_seenAt_4 ?_
  refine lv_topi (fun z17 _ => ?_)
  refine lv_istore_n (lv' := [(3, .int z17), (0, .ref oc), (1, .int p0), (2, .int p1)]) hx hb dX0_seenAt_5 rfl hl (Nat.le_of_ble_eq_true rfl) rfl (fun ls hl => ?_)
  refine lv_iconst (v := 0) hx hb dX0_seenAt_6 ic_0 ?_
  refine lv_istore (lv' := [(4, .int 0), (3, .int z17), (0, .ref oc), (1, .int p0), (2, .int p1)]) hx hb dX0_seenAt_7 hl (Nat.le_of_ble_eq_true rfl) rfl (fun ls hl => ?_)
  refine lv_iconst (v := 0) hx hb dX0_seenAt_9 ic_0 ?_
  refine lv_istore (lv' := [(5, .int 0), (4, .int 0), (3, .int z17), (0, .ref oc), (1, .int p0), (2, .int p1)]) hx hb dX0_seenAt_10 hl (Nat.le_of_ble_eq_true rfl) rfl (fun ls hl => ?_)
  exact hJ12 _ z17 0 0 _ _ _ (Nat.lt_succ_self _) ((iv_w ivk_0 (by decide) (by decide))) (hP) (hD) hS (lv_sub hl [3, 4, 5, 2, 1, 0] rfl)
def rm_s2_empty : Room := { frames := 0, cells := 0, slots := 0, locals := 0 }
set_option maxHeartbeats 4000000 in
set_option maxRecDepth 100000 in
theorem s2_empty (l : Launch) (dC : Nat → ClassId) (dI : Nat → Nat → Nat) (kB kI kJ kZ kC kS : ClassId) (sz : Nat) (on : Nat) (n_kind : Nat) (n_salt : Nat) (n_pace : Nat) (n_manner : Nat) (n_from : Nat) (n_to : Nat) (n_goal : Nat) (n_reach : Nat) (n_branches : Nat) (n_branch : Nat) (n_tally : Nat) (x_n : Nat → Int32) (hx_n : fI lX2 hX2 x_n) : Met l yX2_empty wsX2_empty rm_s2_empty (va_Pc [.ref on] (fun U => U.heap.size = sz ∧ va_P (dC, dI) vwCl [(on, .inr (2, oX2 n_kind n_salt n_pace n_manner n_from n_to n_goal n_reach n_branches n_branch n_tally x_n))] U.heap ∧ kE dC dI kB kI kJ kZ kC kS U ∧ va_D (fun _ => True) [(on, .inr (2, oX2 n_kind n_salt n_pace n_manner n_from n_to n_goal n_reach n_branches n_branch n_tally x_n))])) (va_Qv (fun (_ : Unit) => True) (fun _ t => ∃ (x_n' : Nat → Int32), fI lX2 hX2 x_n' ∧ (x_n' = upd (upd (upd (upd x_n 0 0) 1 0) 2 0) 3 5) ∧ va_P (dC, dI) vwCl [(on, .inr (2, oX2 n_kind n_salt n_pace n_manner n_from n_to n_goal n_reach n_branches n_branch n_tally x_n'))] t.heap ∧ va_D (va_A [(on, .inr (2, oX2 n_kind n_salt n_pace n_manner n_from n_to n_goal n_reach n_branches n_branch n_tally x_n))] sz) [(on, .inr (2, oX2 n_kind n_salt n_pace n_manner n_from n_to n_goal n_reach n_branches n_branch n_tally x_n'))]) (va_A [(on, .inr (2, oX2 n_kind n_salt n_pace n_manner n_from n_to n_goal n_reach n_branches n_branch n_tally x_n))] sz)) 0 0 (va_A [(on, .inr (2, oX2 n_kind n_salt n_pace n_manner n_from n_to n_goal n_reach n_branches n_branch n_tally x_n))] sz) := by
  refine Met.ofW (cc := cX2_empty) (maxL := 1) (ret := none) (by decide) rfl ?_
  intro p e s m args0 below meth c s₁ B hml hv
  obtain ⟨hargs, hsz, hP, hE, hD0⟩ := hv
  have hx := B.exec
  have hb := B.bytes
  have hr := B.returns
  have hts := atoms_spec (ws := wsX2_empty) B.pre
  have hown : s.vm.findClass RX2 = some m.cls := findClass_of_methodNamed B.named
  have hlocks := B.notSynchronized
  have hK := hE.1
  have hin2 : ∀ w ∈ wsX20, w ∈ wsX2_empty := fun _ h9 => List.mem_cons_of_mem _ (List.mem_append_right _ h9)
  have hw_0 := hts (.fieldLink RX2 33 "PathProber$Net" "routers" "I") (List.mem_of_getElem? (i := 1) rfl)
  have hw_1 := hts (.fieldLink RX2 37 "PathProber$Net" "links" "I") (List.mem_of_getElem? (i := 2) rfl)
  have hw_2 := hts (.fieldLink RX2 40 "PathProber$Net" "goals" "I") (List.mem_of_getElem? (i := 3) rfl)
  have hw_3 := hts (.fieldLink RX2 43 "PathProber$Net" "loss" "I") (List.mem_of_getElem? (i := 4) rfl)
  subst hsz
  have hD := hD0.self (sz := s.heap.size)
  generalize hAe : va_A [(on, .inr (2, oX2 n_kind n_salt n_pace n_manner n_from n_to n_goal n_reach n_branches n_branch n_tally x_n))] s.heap.size = A at hD ⊢
  have hA : ∀ q : Nat, s.heap.size ≤ q → A q := fun q h => by rw [← hAe]; exact Or.inr h
  have hS : va_S A s.heap s.heap [] := va_S.rf
  have hP : va_P (dC, dI) vwCl [(on, .inr (2, oX2 n_kind n_salt n_pace n_manner n_from n_to n_goal n_reach n_branches n_branch n_tally x_n))] s.heap := hP
  have hl := lv_entry ([.ref on]) (n := 1) (Nat.le_of_ble_eq_true rfl)
  have hla : entryFrame m args0 1 = entryFrame m ([.ref on] : List Value).toArray 1 := by rw [hargs]
  rw [hla, lg_entry_eq]
  generalize (lg_sl ([.ref on]) ++ List.replicate (1 - (lg_sl ([.ref on])).length) Slot.unset).toArray = ls at hl ⊢
  have hl : lv_has ls 1 [(0, .ref on)] := hl
  refine lv_aload_n hx hb dX2_empty_0 rfl (lv_at hl 0 rfl) ?_
  refine lv_iconst (v := 0) hx hb dX2_empty_1 ic_0 ?_
  refine va_put (D := (dC, dI)) (ci := 2) (v := .int 0) (ty := .int) (C := RX2) (T := TX2) (N := 15) hx hb hts hin2 tyX2 tyX2_ok nmX2 hown hK hP hD hS 0 rfl rfl 7 (by decide) hw_0 (fun _ h9 => h9) rfl (by decide +kernel) rfl rfl (Nat.le_of_ble_eq_true rfl) dX2_empty_2 (fun H locs hPa hDa hS => ?_)
  clear hP hD
  have hP : va_P (dC, dI) vwCl [(on, .inr (2, oX2 n_kind n_salt n_pace n_manner n_from n_to n_goal n_reach n_branches n_branch n_tally (upd x_n 0 0)))] H := hPa
  have hD : va_D A [(on, .inr (2, oX2 n_kind n_salt n_pace n_manner n_from n_to n_goal n_reach n_branches n_branch n_tally (upd x_n 0 0)))] := hDa
  clear hPa hDa
  refine lv_aload_n hx hb dX2_empty_5 rfl (lv_at hl 0 rfl) ?_
  refine lv_iconst (v := 0) hx hb dX2_empty_6 ic_0 ?_
  refine va_put (D := (dC, dI)) (ci := 2) (v := .int 0) (ty := .int) (C := RX2) (T := TX2) (N := 15) hx hb hts hin2 tyX2 tyX2_ok nmX2 hown hK hP hD hS 0 rfl rfl 8 (by decide) hw_1 (fun _ h9 => h9) rfl (by decide +kernel) rfl rfl (Nat.le_of_ble_eq_true rfl) dX2_empty_7 (fun H locs hPa hDa hS => ?_)
  clear hP hD
  have hP : va_P (dC, dI) vwCl [(on, .inr (2, oX2 n_kind n_salt n_pace n_manner n_from n_to n_goal n_reach n_branches n_branch n_tally (upd (upd x_n 0 0) 1 0)))] H := hPa
  have hD : va_D A [(on, .inr (2, oX2 n_kind n_salt n_pace n_manner n_from n_to n_goal n_reach n_branches n_branch n_tally (upd (upd x_n 0 0) 1 0)))] := hDa
  clear hPa hDa
  refine lv_aload_n hx hb dX2_empty_10 rfl (lv_at hl 0 rfl) ?_
  refine lv_iconst (v := 0) hx hb dX2_empty_11 ic_0 ?_
  refine va_put (D := (dC, dI)) (ci := 2) (v := .int 0) (ty := .int) (C := RX2) (T := TX2) (N := 15) hx hb hts hin2 tyX2 tyX2_ok nmX2 hown hK hP hD hS 0 rfl rfl 9 (by decide) hw_2 (fun _ h9 => h9) rfl (by decide +kernel) rfl rfl (Nat.le_of_ble_eq_true rfl) dX2_empty_12 (fun H locs hPa hDa hS => ?_)
  clear hP hD
  have hP : va_P (dC, dI) vwCl [(on, .inr (2, oX2 n_kind n_salt n_pace n_manner n_from n_to n_goal n_reach n_branches n_branch n_tally (upd (upd (upd x_n 0 0) 1 0) 2 0)))] H := hPa
  have hD : va_D A [(on, .inr (2, oX2 n_kind n_salt n_pace n_manner n_from n_to n_goal n_reach n_branches n_branch n_tally (upd (upd (upd x_n 0 0) 1 0) 2 0)))] := hDa
  clear hPa hDa
  refine lv_aload_n hx hb dX2_empty_15 rfl (lv_at hl 0 rfl) ?_
  refine lv_iconst (v := 5) hx hb dX2_empty_16 ic_5 ?_
  refine va_put (D := (dC, dI)) (ci := 2) (v := .int 5) (ty := .int) (C := RX2) (T := TX2) (N := 15) hx hb hts hin2 tyX2 tyX2_ok nmX2 hown hK hP hD hS 0 rfl rfl 10 (by decide) hw_3 (fun _ h9 => h9) rfl (by decide +kernel) rfl rfl (Nat.le_of_ble_eq_true rfl) dX2_empty_17 (fun H locs hPa hDa hS => ?_)
  clear hP hD
  have hP : va_P (dC, dI) vwCl [(on, .inr (2, oX2 n_kind n_salt n_pace n_manner n_from n_to n_goal n_reach n_branches n_branch n_tally (upd (upd (upd (upd x_n 0 0) 1 0) 2 0) 3 5)))] H := hPa
  have hD : va_D A [(on, .inr (2, oX2 n_kind n_salt n_pace n_manner n_from n_to n_goal n_reach n_branches n_branch n_tally (upd (upd (upd (upd x_n 0 0) 1 0) 2 0) 3 5)))] := hDa
  clear hPa hDa
  have hP9 := hP
  have hD9 := hD
  exact W.vret hx hb hr (fun t ht hW => ⟨⟨(), rfl, trivial, upd (upd (upd (upd x_n 0 0) 1 0) 2 0) 3 5, (fI_u (fI_u (fI_u (fI_u hx_n (k := 0) ((iv_w ivk_0 (by decide) (by decide)))) (k := 1) ((iv_w ivk_0 (by decide) (by decide)))) (k := 2) ((iv_w ivk_0 (by decide) (by decide)))) (k := 3) ((iv_w ivk_5 (by decide) (by decide)))), rfl, by rw [ht]; exact hP9, hD9⟩, hS.F ht⟩) hS.2.2 dX2_empty_20
def rm_s2_copyFrom : Room := { frames := 1, cells := 0, slots := 0, locals := 60 }
set_option maxHeartbeats 4000000 in
set_option maxRecDepth 100000 in
theorem s2_copyFrom (l : Launch) (dC : Nat → ClassId) (dI : Nat → Nat → Nat) (kB kI kJ kZ kC kS : ClassId) (sz : Nat) (on : Nat) (n_kind : Nat) (n_salt : Nat) (n_pace : Nat) (n_manner : Nat) (n_from : Nat) (n_to : Nat) (n_goal : Nat) (n_reach : Nat) (n_branches : Nat) (n_branch : Nat) (n_tally : Nat) (x_n : Nat → Int32) (f_n_kind : Nat → Int32) (f_n_salt : Nat → Int32) (f_n_pace : Nat → Int32) (f_n_manner : Nat → Int32) (f_n_from : Nat → Int32) (f_n_to : Nat → Int32) (f_n_goal : Nat → Int32) (dn : Nat) (dn_kind : Nat) (dn_salt : Nat) (dn_pace : Nat) (dn_manner : Nat) (dn_from : Nat) (dn_to : Nat) (dn_goal : Nat) (dn_reach : Nat) (dn_branches : Nat) (dn_branch : Nat) (dn_tally : Nat) (x_dn : Nat → Int32) (f_dn_kind : Nat → Int32) (f_dn_salt : Nat → Int32) (f_dn_pace : Nat → Int32) (f_dn_manner : Nat → Int32) (f_dn_from : Nat → Int32) (f_dn_to : Nat → Int32) (f_dn_goal : Nat → Int32) (hx_n : fI lX2 hX2 x_n) (hf_n_salt : fI (fun _ => 0) (fun _ => 15) f_n_salt) (hf_n_from : fI (fun _ => 0) (fun _ => 11) f_n_from) (hf_n_to : fI (fun _ => 0) (fun _ => 11) f_n_to) (hf_n_goal : fI (fun _ => 0) (fun _ => 11) f_n_goal) (hx_dn : fI lX2 hX2 x_dn) (hf_dn_salt : fI (fun _ => 0) (fun _ => 15) f_dn_salt) (hf_dn_from : fI (fun _ => 0) (fun _ => 11) f_dn_from) (hf_dn_to : fI (fun _ => 0) (fun _ => 11) f_dn_to) (hf_dn_goal : fI (fun _ => 0) (fun _ => 11) f_dn_goal) : Met l yX2_copyFrom wsX2_copyFrom rm_s2_copyFrom (va_Pc [.ref on, .ref dn] (fun U => U.heap.size = sz ∧ va_P (dC, dI) vwCl [(on, .inr (2, oX2 n_kind n_salt n_pace n_manner n_from n_to n_goal n_reach n_branches n_branch n_tally x_n)), (n_kind, .inl (kI, 12, .inl f_n_kind)), (n_salt, .inl (kI, 12, .inl f_n_salt)), (n_pace, .inl (kI, 12, .inl f_n_pace)), (n_manner, .inl (kI, 12, .inl f_n_manner)), (n_from, .inl (kI, 20, .inl f_n_from)), (n_to, .inl (kI, 20, .inl f_n_to)), (n_goal, .inl (kI, 3, .inl f_n_goal)), (dn, .inr (2, oX2 dn_kind dn_salt dn_pace dn_manner dn_from dn_to dn_goal dn_reach dn_branches dn_branch dn_tally x_dn)), (dn_kind, .inl (kI, 12, .inl f_dn_kind)), (dn_salt, .inl (kI, 12, .inl f_dn_salt)), (dn_pace, .inl (kI, 12, .inl f_dn_pace)), (dn_manner, .inl (kI, 12, .inl f_dn_manner)), (dn_from, .inl (kI, 20, .inl f_dn_from)), (dn_to, .inl (kI, 20, .inl f_dn_to)), (dn_goal, .inl (kI, 3, .inl f_dn_goal))] U.heap ∧ kE dC dI kB kI kJ kZ kC kS U ∧ va_D (fun _ => True) [(on, .inr (2, oX2 n_kind n_salt n_pace n_manner n_from n_to n_goal n_reach n_branches n_branch n_tally x_n)), (n_kind, .inl (kI, 12, .inl f_n_kind)), (n_salt, .inl (kI, 12, .inl f_n_salt)), (n_pace, .inl (kI, 12, .inl f_n_pace)), (n_manner, .inl (kI, 12, .inl f_n_manner)), (n_from, .inl (kI, 20, .inl f_n_from)), (n_to, .inl (kI, 20, .inl f_n_to)), (n_goal, .inl (kI, 3, .inl f_n_goal)), (dn, .inr (2, oX2 dn_kind dn_salt dn_pace dn_manner dn_from dn_to dn_goal dn_reach dn_branches dn_branch dn_tally x_dn)), (dn_kind, .inl (kI, 12, .inl f_dn_kind)), (dn_salt, .inl (kI, 12, .inl f_dn_salt)), (dn_pace, .inl (kI, 12, .inl f_dn_pace)), (dn_manner, .inl (kI, 12, .inl f_dn_manner)), (dn_from, .inl (kI, 20, .inl f_dn_from)), (dn_to, .inl (kI, 20, .inl f_dn_to)), (dn_goal, .inl (kI, 3, .inl f_dn_goal))])) (va_Qv (fun (_ : Unit) => True) (fun _ t => ∃ (x_n' : Nat → Int32) (f_n_kind' : Nat → Int32) (f_n_salt' : Nat → Int32) (f_n_pace' : Nat → Int32) (f_n_manner' : Nat → Int32) (f_n_from' : Nat → Int32) (f_n_to' : Nat → Int32) (f_n_goal' : Nat → Int32), fI lX2 hX2 x_n' ∧ fI (fun _ => 0) (fun _ => 15) f_n_salt' ∧ fI (fun _ => 0) (fun _ => 11) f_n_from' ∧ fI (fun _ => 0) (fun _ => 11) f_n_to' ∧ fI (fun _ => 0) (fun _ => 11) f_n_goal' ∧ (x_n' 0 = x_dn 0) ∧ (x_n' 1 = x_dn 1) ∧ (x_n' 2 = x_dn 2) ∧ (∀ i : Nat, i < 12 → f_n_kind' i = f_dn_kind i) ∧ (∀ i : Nat, i < 12 → f_n_salt' i = f_dn_salt i) ∧ (∀ i : Nat, i < 20 → f_n_from' i = f_dn_from i) ∧ (∀ i : Nat, i < 20 → f_n_to' i = f_dn_to i) ∧ (∀ i : Nat, i < 3 → f_n_goal' i = f_dn_goal i) ∧ va_P (dC, dI) vwCl [(on, .inr (2, oX2 n_kind n_salt n_pace n_manner n_from n_to n_goal n_reach n_branches n_branch n_tally x_n')), (n_kind, .inl (kI, 12, .inl f_n_kind')), (n_salt, .inl (kI, 12, .inl f_n_salt')), (n_pace, .inl (kI, 12, .inl f_n_pace')), (n_manner, .inl (kI, 12, .inl f_n_manner')), (n_from, .inl (kI, 20, .inl f_n_from')), (n_to, .inl (kI, 20, .inl f_n_to')), (n_goal, .inl (kI, 3, .inl f_n_goal')), (dn, .inr (2, oX2 dn_kind dn_salt dn_pace dn_manner dn_from dn_to dn_goal dn_reach dn_branches dn_branch dn_tally x_dn)), (dn_kind, .inl (kI, 12, .inl f_dn_kind)), (dn_salt, .inl (kI, 12, .inl f_dn_salt)), (dn_pace, .inl (kI, 12, .inl f_dn_pace)), (dn_manner, .inl (kI, 12, .inl f_dn_manner)), (dn_from, .inl (kI, 20, .inl f_dn_from)), (dn_to, .inl (kI, 20, .inl f_dn_to)), (dn_goal, .inl (kI, 3, .inl f_dn_goal))] t.heap ∧ va_D (va_A [(on, .inr (2, oX2 n_kind n_salt n_pace n_manner n_from n_to n_goal n_reach n_branches n_branch n_tally x_n)), (n_kind, .inl (kI, 12, .inl f_n_kind)), (n_salt, .inl (kI, 12, .inl f_n_salt)), (n_pace, .inl (kI, 12, .inl f_n_pace)), (n_manner, .inl (kI, 12, .inl f_n_manner)), (n_from, .inl (kI, 20, .inl f_n_from)), (n_to, .inl (kI, 20, .inl f_n_to)), (n_goal, .inl (kI, 3, .inl f_n_goal)), (dn, .inr (2, oX2 dn_kind dn_salt dn_pace dn_manner dn_from dn_to dn_goal dn_reach dn_branches dn_branch dn_tally x_dn)), (dn_kind, .inl (kI, 12, .inl f_dn_kind)), (dn_salt, .inl (kI, 12, .inl f_dn_salt)), (dn_pace, .inl (kI, 12, .inl f_dn_pace)), (dn_manner, .inl (kI, 12, .inl f_dn_manner)), (dn_from, .inl (kI, 20, .inl f_dn_from)), (dn_to, .inl (kI, 20, .inl f_dn_to)), (dn_goal, .inl (kI, 3, .inl f_dn_goal))] sz) [(on, .inr (2, oX2 n_kind n_salt n_pace n_manner n_from n_to n_goal n_reach n_branches n_branch n_tally x_n')), (n_kind, .inl (kI, 12, .inl f_n_kind')), (n_salt, .inl (kI, 12, .inl f_n_salt')), (n_pace, .inl (kI, 12, .inl f_n_pace')), (n_manner, .inl (kI, 12, .inl f_n_manner')), (n_from, .inl (kI, 20, .inl f_n_from')), (n_to, .inl (kI, 20, .inl f_n_to')), (n_goal, .inl (kI, 3, .inl f_n_goal')), (dn, .inr (2, oX2 dn_kind dn_salt dn_pace dn_manner dn_from dn_to dn_goal dn_reach dn_branches dn_branch dn_tally x_dn)), (dn_kind, .inl (kI, 12, .inl f_dn_kind)), (dn_salt, .inl (kI, 12, .inl f_dn_salt)), (dn_pace, .inl (kI, 12, .inl f_dn_pace)), (dn_manner, .inl (kI, 12, .inl f_dn_manner)), (dn_from, .inl (kI, 20, .inl f_dn_from)), (dn_to, .inl (kI, 20, .inl f_dn_to)), (dn_goal, .inl (kI, 3, .inl f_dn_goal))]) (va_A [(on, .inr (2, oX2 n_kind n_salt n_pace n_manner n_from n_to n_goal n_reach n_branches n_branch n_tally x_n)), (n_kind, .inl (kI, 12, .inl f_n_kind)), (n_salt, .inl (kI, 12, .inl f_n_salt)), (n_pace, .inl (kI, 12, .inl f_n_pace)), (n_manner, .inl (kI, 12, .inl f_n_manner)), (n_from, .inl (kI, 20, .inl f_n_from)), (n_to, .inl (kI, 20, .inl f_n_to)), (n_goal, .inl (kI, 3, .inl f_n_goal)), (dn, .inr (2, oX2 dn_kind dn_salt dn_pace dn_manner dn_from dn_to dn_goal dn_reach dn_branches dn_branch dn_tally x_dn)), (dn_kind, .inl (kI, 12, .inl f_dn_kind)), (dn_salt, .inl (kI, 12, .inl f_dn_salt)), (dn_pace, .inl (kI, 12, .inl f_dn_pace)), (dn_manner, .inl (kI, 12, .inl f_dn_manner)), (dn_from, .inl (kI, 20, .inl f_dn_from)), (dn_to, .inl (kI, 20, .inl f_dn_to)), (dn_goal, .inl (kI, 3, .inl f_dn_goal))] sz)) 0 0 (va_A [(on, .inr (2, oX2 n_kind n_salt n_pace n_manner n_from n_to n_goal n_reach n_branches n_branch n_tally x_n)), (n_kind, .inl (kI, 12, .inl f_n_kind)), (n_salt, .inl (kI, 12, .inl f_n_salt)), (n_pace, .inl (kI, 12, .inl f_n_pace)), (n_manner, .inl (kI, 12, .inl f_n_manner)), (n_from, .inl (kI, 20, .inl f_n_from)), (n_to, .inl (kI, 20, .inl f_n_to)), (n_goal, .inl (kI, 3, .inl f_n_goal)), (dn, .inr (2, oX2 dn_kind dn_salt dn_pace dn_manner dn_from dn_to dn_goal dn_reach dn_branches dn_branch dn_tally x_dn)), (dn_kind, .inl (kI, 12, .inl f_dn_kind)), (dn_salt, .inl (kI, 12, .inl f_dn_salt)), (dn_pace, .inl (kI, 12, .inl f_dn_pace)), (dn_manner, .inl (kI, 12, .inl f_dn_manner)), (dn_from, .inl (kI, 20, .inl f_dn_from)), (dn_to, .inl (kI, 20, .inl f_dn_to)), (dn_goal, .inl (kI, 3, .inl f_dn_goal))] sz) := by
  refine Met.ofW (cc := cX2_copyFrom) (maxL := 2) (ret := none) (by decide) rfl ?_
  intro p e s m args0 below meth c s₁ B hml hv
  obtain ⟨hargs, hsz, hP, hE, hD0⟩ := hv
  have hx := B.exec
  have hb := B.bytes
  have hr := B.returns
  have hts := atoms_spec (ws := wsX2_copyFrom) B.pre
  have hown : s.vm.findClass RX2 = some m.cls := findClass_of_methodNamed B.named
  have hlocks := B.notSynchronized
  have hK := hE.1
  have hin2 : ∀ w ∈ wsX20, w ∈ wsX2_copyFrom := fun _ h9 => List.mem_cons_of_mem _ (List.mem_append_right _ h9)
  have hw_0 := hts (.fieldLink RX2 9 "PathProber$Net" "kind" "[I") (List.mem_of_getElem? (i := 1) rfl)
  have hw_1 := hts (.methodLink RX2 58 arraycopyName) (List.mem_of_getElem? (i := 2) rfl)
  have hw_2 := hts (.native arraycopyName) (List.mem_of_getElem? (i := 3) rfl)
  have hw_3 := hts (.static arraycopyName) (List.mem_of_getElem? (i := 4) rfl)
  have hw_4 := hts (.initialized "java/lang/System") (List.mem_of_getElem? (i := 5) rfl)
  have hw_5 := hts (.fieldLink RX2 15 "PathProber$Net" "salt" "[I") (List.mem_of_getElem? (i := 6) rfl)
  have hw_6 := hts (.fieldLink RX2 18 "PathProber$Net" "pace" "[I") (List.mem_of_getElem? (i := 7) rfl)
  have hw_7 := hts (.fieldLink RX2 21 "PathProber$Net" "manner" "[I") (List.mem_of_getElem? (i := 8) rfl)
  have hw_8 := hts (.fieldLink RX2 24 "PathProber$Net" "from" "[I") (List.mem_of_getElem? (i := 9) rfl)
  have hw_9 := hts (.fieldLink RX2 27 "PathProber$Net" "to" "[I") (List.mem_of_getElem? (i := 10) rfl)
  have hw_10 := hts (.fieldLink RX2 30 "PathProber$Net" "goal" "[I") (List.mem_of_getElem? (i := 11) rfl)
  have hw_11 := hts (.fieldLink RX2 33 "PathProber$Net" "routers" "I") (List.mem_of_getElem? (i := 12) rfl)
  have hw_12 := hts (.fieldLink RX2 37 "PathProber$Net" "links" "I") (List.mem_of_getElem? (i := 13) rfl)
  have hw_13 := hts (.fieldLink RX2 40 "PathProber$Net" "goals" "I") (List.mem_of_getElem? (i := 14) rfl)
  have hw_14 := hts (.fieldLink RX2 43 "PathProber$Net" "loss" "I") (List.mem_of_getElem? (i := 15) rfl)
  subst hsz
  have hD := hD0.self (sz := s.heap.size)
  generalize hAe : va_A [(on, .inr (2, oX2 n_kind n_salt n_pace n_manner n_from n_to n_goal n_reach n_branches n_branch n_tally x_n)), (n_kind, .inl (kI, 12, .inl f_n_kind)), (n_salt, .inl (kI, 12, .inl f_n_salt)), (n_pace, .inl (kI, 12, .inl f_n_pace)), (n_manner, .inl (kI, 12, .inl f_n_manner)), (n_from, .inl (kI, 20, .inl f_n_from)), (n_to, .inl (kI, 20, .inl f_n_to)), (n_goal, .inl (kI, 3, .inl f_n_goal)), (dn, .inr (2, oX2 dn_kind dn_salt dn_pace dn_manner dn_from dn_to dn_goal dn_reach dn_branches dn_branch dn_tally x_dn)), (dn_kind, .inl (kI, 12, .inl f_dn_kind)), (dn_salt, .inl (kI, 12, .inl f_dn_salt)), (dn_pace, .inl (kI, 12, .inl f_dn_pace)), (dn_manner, .inl (kI, 12, .inl f_dn_manner)), (dn_from, .inl (kI, 20, .inl f_dn_from)), (dn_to, .inl (kI, 20, .inl f_dn_to)), (dn_goal, .inl (kI, 3, .inl f_dn_goal))] s.heap.size = A at hD ⊢
  have hA : ∀ q : Nat, s.heap.size ≤ q → A q := fun q h => by rw [← hAe]; exact Or.inr h
  have hS : va_S A s.heap s.heap [] := va_S.rf
  have hP : va_P (dC, dI) vwCl [(on, .inr (2, oX2 n_kind n_salt n_pace n_manner n_from n_to n_goal n_reach n_branches n_branch n_tally x_n)), (n_kind, .inl (kI, 12, .inl f_n_kind)), (n_salt, .inl (kI, 12, .inl f_n_salt)), (n_pace, .inl (kI, 12, .inl f_n_pace)), (n_manner, .inl (kI, 12, .inl f_n_manner)), (n_from, .inl (kI, 20, .inl f_n_from)), (n_to, .inl (kI, 20, .inl f_n_to)), (n_goal, .inl (kI, 3, .inl f_n_goal)), (dn, .inr (2, oX2 dn_kind dn_salt dn_pace dn_manner dn_from dn_to dn_goal dn_reach dn_branches dn_branch dn_tally x_dn)), (dn_kind, .inl (kI, 12, .inl f_dn_kind)), (dn_salt, .inl (kI, 12, .inl f_dn_salt)), (dn_pace, .inl (kI, 12, .inl f_dn_pace)), (dn_manner, .inl (kI, 12, .inl f_dn_manner)), (dn_from, .inl (kI, 20, .inl f_dn_from)), (dn_to, .inl (kI, 20, .inl f_dn_to)), (dn_goal, .inl (kI, 3, .inl f_dn_goal))] s.heap := hP
  have hl := lv_entry ([.ref on, .ref dn]) (n := 2) (Nat.le_of_ble_eq_true rfl)
  have hla : entryFrame m args0 2 = entryFrame m ([.ref on, .ref dn] : List Value).toArray 2 := by rw [hargs]
  rw [hla, lg_entry_eq]
  generalize (lg_sl ([.ref on, .ref dn]) ++ List.replicate (2 - (lg_sl ([.ref on, .ref dn])).length) Slot.unset).toArray = ls at hl ⊢
  have hl : lv_has ls 2 [(0, .ref on), (1, .ref dn)] := hl
  refine lv_aload_n hx hb dX2_copyFrom_0 rfl (lv_at hl 1 rfl) ?_
  refine va_get (D := (dC, dI)) (ci := 2) (v := .ref dn_kind) (C := RX2) (T := TX2) (N := 15) hx hb hts hin2 hown hK hP 8 rfl rfl 0 (Nat.le_of_ble_eq_true rfl) hw_0 (fun _ h9 => h9) rfl dX2_copyFrom_1 ?_
  refine lv_iconst (v := 0) hx hb dX2_copyFrom_4 ic_0 ?_
  refine lv_aload_n hx hb dX2_copyFrom_5 rfl (lv_at hl 0 rfl) ?_
  refine va_get (D := (dC, dI)) (ci := 2) (v := .ref n_kind) (C := RX2) (T := TX2) (N := 15) hx hb hts hin2 hown hK hP 0 rfl rfl 0 (Nat.le_of_ble_eq_true rfl) hw_0 (fun _ h9 => h9) rfl dX2_copyFrom_6 ?_
  refine lv_iconst (v := 0) hx hb dX2_copyFrom_9 ic_0 ?_
  refine lv_bipush (v := 12) hx hb dX2_copyFrom_10 bp_12 ?_
  refine va_copyi hx hb (by rw [hml]; exact hl.1.symm) hown hw_1 hw_2 hw_3 hw_4 hK hP hD hS 9 1 1 1 rfl rfl rfl rfl rfl (by decide) (by decide) (by decide) (by decide) (by decide) (fun _ _ => rfl) (Nat.le_of_ble_eq_true rfl) (Nat.le_of_ble_eq_true rfl) dX2_copyFrom_12 (fun H locs hPa hDa hS => ?_)
  clear hP hD
  have hP : va_P (dC, dI) vwCl [(on, .inr (2, oX2 n_kind n_salt n_pace n_manner n_from n_to n_goal n_reach n_branches n_branch n_tally x_n)), (n_kind, .inl (kI, 12, .inl (va_cpy f_dn_kind f_n_kind 0 0 12))), (n_salt, .inl (kI, 12, .inl f_n_salt)), (n_pace, .inl (kI, 12, .inl f_n_pace)), (n_manner, .inl (kI, 12, .inl f_n_manner)), (n_from, .inl (kI, 20, .inl f_n_from)), (n_to, .inl (kI, 20, .inl f_n_to)), (n_goal, .inl (kI, 3, .inl f_n_goal)), (dn, .inr (2, oX2 dn_kind dn_salt dn_pace dn_manner dn_from dn_to dn_goal dn_reach dn_branches dn_branch dn_tally x_dn)), (dn_kind, .inl (kI, 12, .inl f_dn_kind)), (dn_salt, .inl (kI, 12, .inl f_dn_salt)), (dn_pace, .inl (kI, 12, .inl f_dn_pace)), (dn_manner, .inl (kI, 12, .inl f_dn_manner)), (dn_from, .inl (kI, 20, .inl f_dn_from)), (dn_to, .inl (kI, 20, .inl f_dn_to)), (dn_goal, .inl (kI, 3, .inl f_dn_goal))] H := hPa
  have hD : va_D A [(on, .inr (2, oX2 n_kind n_salt n_pace n_manner n_from n_to n_goal n_reach n_branches n_branch n_tally x_n)), (n_kind, .inl (kI, 12, .inl (va_cpy f_dn_kind f_n_kind 0 0 12))), (n_salt, .inl (kI, 12, .inl f_n_salt)), (n_pace, .inl (kI, 12, .inl f_n_pace)), (n_manner, .inl (kI, 12, .inl f_n_manner)), (n_from, .inl (kI, 20, .inl f_n_from)), (n_to, .inl (kI, 20, .inl f_n_to)), (n_goal, .inl (kI, 3, .inl f_n_goal)), (dn, .inr (2, oX2 dn_kind dn_salt dn_pace dn_manner dn_from dn_to dn_goal dn_reach dn_branches dn_branch dn_tally x_dn)), (dn_kind, .inl (kI, 12, .inl f_dn_kind)), (dn_salt, .inl (kI, 12, .inl f_dn_salt)), (dn_pace, .inl (kI, 12, .inl f_dn_pace)), (dn_manner, .inl (kI, 12, .inl f_dn_manner)), (dn_from, .inl (kI, 20, .inl f_dn_from)), (dn_to, .inl (kI, 20, .inl f_dn_to)), (dn_goal, .inl (kI, 3, .inl f_dn_goal))] := hDa
  clear hPa hDa
  have hcp2 : ∀ i : Nat, i < 12 → (va_cpy f_dn_kind f_n_kind 0 0 12) i = f_dn_kind i := cpy_eq
  generalize (va_cpy f_dn_kind f_n_kind 0 0 12) = f1 at hP hD  hcp2
  refine lv_aload_n hx hb dX2_copyFrom_15 rfl (lv_at hl 1 rfl) ?_
  refine va_get (D := (dC, dI)) (ci := 2) (v := .ref dn_salt) (C := RX2) (T := TX2) (N := 15) hx hb hts hin2 hown hK hP 8 rfl rfl 1 (Nat.le_of_ble_eq_true rfl) hw_5 (fun _ h9 => h9) rfl dX2_copyFrom_16 ?_
  refine lv_iconst (v := 0) hx hb dX2_copyFrom_19 ic_0 ?_
  refine lv_aload_n hx hb dX2_copyFrom_20 rfl (lv_at hl 0 rfl) ?_
  refine va_get (D := (dC, dI)) (ci := 2) (v := .ref n_salt) (C := RX2) (T := TX2) (N := 15) hx hb hts hin2 hown hK hP 0 rfl rfl 1 (Nat.le_of_ble_eq_true rfl) hw_5 (fun _ h9 => h9) rfl dX2_copyFrom_21 ?_
  refine lv_iconst (v := 0) hx hb dX2_copyFrom_24 ic_0 ?_
  refine lv_bipush (v := 12) hx hb dX2_copyFrom_25 bp_12 ?_
  refine va_copyi hx hb (by rw [hml]; exact hl.1.symm) hown hw_1 hw_2 hw_3 hw_4 hK hP hD hS 10 2 1 1 rfl rfl rfl rfl rfl (by decide) (by decide) (by decide) (by decide) (by decide) (fun _ _ => rfl) (Nat.le_of_ble_eq_true rfl) (Nat.le_of_ble_eq_true rfl) dX2_copyFrom_27 (fun H locs hPa hDa hS => ?_)
  clear hP hD
  have hP : va_P (dC, dI) vwCl [(on, .inr (2, oX2 n_kind n_salt n_pace n_manner n_from n_to n_goal n_reach n_branches n_branch n_tally x_n)), (n_kind, .inl (kI, 12, .inl f1)), (n_salt, .inl (kI, 12, .inl (va_cpy f_dn_salt f_n_salt 0 0 12))), (n_pace, .inl (kI, 12, .inl f_n_pace)), (n_manner, .inl (kI, 12, .inl f_n_manner)), (n_from, .inl (kI, 20, .inl f_n_from)), (n_to, .inl (kI, 20, .inl f_n_to)), (n_goal, .inl (kI, 3, .inl f_n_goal)), (dn, .inr (2, oX2 dn_kind dn_salt dn_pace dn_manner dn_from dn_to dn_goal dn_reach dn_branches dn_branch dn_tally x_dn)), (dn_kind, .inl (kI, 12, .inl f_dn_kind)), (dn_salt, .inl (kI, 12, .inl f_dn_salt)), (dn_pace, .inl (kI, 12, .inl f_dn_pace)), (dn_manner, .inl (kI, 12, .inl f_dn_manner)), (dn_from, .inl (kI, 20, .inl f_dn_from)), (dn_to, .inl (kI, 20, .inl f_dn_to)), (dn_goal, .inl (kI, 3, .inl f_dn_goal))] H := hPa
  have hD : va_D A [(on, .inr (2, oX2 n_kind n_salt n_pace n_manner n_from n_to n_goal n_reach n_branches n_branch n_tally x_n)), (n_kind, .inl (kI, 12, .inl f1)), (n_salt, .inl (kI, 12, .inl (va_cpy f_dn_salt f_n_salt 0 0 12))), (n_pace, .inl (kI, 12, .inl f_n_pace)), (n_manner, .inl (kI, 12, .inl f_n_manner)), (n_from, .inl (kI, 20, .inl f_n_from)), (n_to, .inl (kI, 20, .inl f_n_to)), (n_goal, .inl (kI, 3, .inl f_n_goal)), (dn, .inr (2, oX2 dn_kind dn_salt dn_pace dn_manner dn_from dn_to dn_goal dn_reach dn_branches dn_branch dn_tally x_dn)), (dn_kind, .inl (kI, 12, .inl f_dn_kind)), (dn_salt, .inl (kI, 12, .inl f_dn_salt)), (dn_pace, .inl (kI, 12, .inl f_dn_pace)), (dn_manner, .inl (kI, 12, .inl f_dn_manner)), (dn_from, .inl (kI, 20, .inl f_dn_from)), (dn_to, .inl (kI, 20, .inl f_dn_to)), (dn_goal, .inl (kI, 3, .inl f_dn_goal))] := hDa
  clear hPa hDa
  have hf4 : fI (fun _ => 0) (fun _ => 15) (va_cpy f_dn_salt f_n_salt 0 0 12) := fI_cpy hf_dn_salt hf_n_salt
  have hcp5 : ∀ i : Nat, i < 12 → (va_cpy f_dn_salt f_n_salt 0 0 12) i = f_dn_salt i := cpy_eq
  generalize (va_cpy f_dn_salt f_n_salt 0 0 12) = f3 at hP hD hf4 hcp5
  refine lv_aload_n hx hb dX2_copyFrom_30 rfl (lv_at hl 1 rfl) ?_
  refine va_get (D := (dC, dI)) (ci := 2) (v := .ref dn_pace) (C := RX2) (T := TX2) (N := 15) hx hb hts hin2 hown hK hP 8 rfl rfl 2 (Nat.le_of_ble_eq_true rfl) hw_6 (fun _ h9 => h9) rfl dX2_copyFrom_31 ?_
  refine lv_iconst (v := 0) hx hb dX2_copyFrom_34 ic_0 ?_
  refine lv_aload_n hx hb dX2_copyFrom_35 rfl (lv_at hl 0 rfl) ?_
  refine va_get (D := (dC, dI)) (ci := 2) (v := .ref n_pace) (C := RX2) (T := TX2) (N := 15) hx hb hts hin2 hown hK hP 0 rfl rfl 2 (Nat.le_of_ble_eq_true rfl) hw_6 (fun _ h9 => h9) rfl dX2_copyFrom_36 ?_
  refine lv_iconst (v := 0) hx hb dX2_copyFrom_39 ic_0 ?_
  refine lv_bipush (v := 12) hx hb dX2_copyFrom_40 bp_12 ?_
  refine va_copyi hx hb (by rw [hml]; exact hl.1.symm) hown hw_1 hw_2 hw_3 hw_4 hK hP hD hS 11 3 1 1 rfl rfl rfl rfl rfl (by decide) (by decide) (by decide) (by decide) (by decide) (fun _ _ => rfl) (Nat.le_of_ble_eq_true rfl) (Nat.le_of_ble_eq_true rfl) dX2_copyFrom_42 (fun H locs hPa hDa hS => ?_)
  clear hP hD
  have hP : va_P (dC, dI) vwCl [(on, .inr (2, oX2 n_kind n_salt n_pace n_manner n_from n_to n_goal n_reach n_branches n_branch n_tally x_n)), (n_kind, .inl (kI, 12, .inl f1)), (n_salt, .inl (kI, 12, .inl f3)), (n_pace, .inl (kI, 12, .inl (va_cpy f_dn_pace f_n_pace 0 0 12))), (n_manner, .inl (kI, 12, .inl f_n_manner)), (n_from, .inl (kI, 20, .inl f_n_from)), (n_to, .inl (kI, 20, .inl f_n_to)), (n_goal, .inl (kI, 3, .inl f_n_goal)), (dn, .inr (2, oX2 dn_kind dn_salt dn_pace dn_manner dn_from dn_to dn_goal dn_reach dn_branches dn_branch dn_tally x_dn)), (dn_kind, .inl (kI, 12, .inl f_dn_kind)), (dn_salt, .inl (kI, 12, .inl f_dn_salt)), (dn_pace, .inl (kI, 12, .inl f_dn_pace)), (dn_manner, .inl (kI, 12, .inl f_dn_manner)), (dn_from, .inl (kI, 20, .inl f_dn_from)), (dn_to, .inl (kI, 20, .inl f_dn_to)), (dn_goal, .inl (kI, 3, .inl f_dn_goal))] H := hPa
  have hD : va_D A [(on, .inr (2, oX2 n_kind n_salt n_pace n_manner n_from n_to n_goal n_reach n_branches n_branch n_tally x_n)), (n_kind, .inl (kI, 12, .inl f1)), (n_salt, .inl (kI, 12, .inl f3)), (n_pace, .inl (kI, 12, .inl (va_cpy f_dn_pace f_n_pace 0 0 12))), (n_manner, .inl (kI, 12, .inl f_n_manner)), (n_from, .inl (kI, 20, .inl f_n_from)), (n_to, .inl (kI, 20, .inl f_n_to)), (n_goal, .inl (kI, 3, .inl f_n_goal)), (dn, .inr (2, oX2 dn_kind dn_salt dn_pace dn_manner dn_from dn_to dn_goal dn_reach dn_branches dn_branch dn_tally x_dn)), (dn_kind, .inl (kI, 12, .inl f_dn_kind)), (dn_salt, .inl (kI, 12, .inl f_dn_salt)), (dn_pace, .inl (kI, 12, .inl f_dn_pace)), (dn_manner, .inl (kI, 12, .inl f_dn_manner)), (dn_from, .inl (kI, 20, .inl f_dn_from)), (dn_to, .inl (kI, 20, .inl f_dn_to)), (dn_goal, .inl (kI, 3, .inl f_dn_goal))] := hDa
  clear hPa hDa
  generalize (va_cpy f_dn_pace f_n_pace 0 0 12) = f6 at hP hD
  refine lv_aload_n hx hb dX2_copyFrom_45 rfl (lv_at hl 1 rfl) ?_
  refine va_get (D := (dC, dI)) (ci := 2) (v := .ref dn_manner) (C := RX2) (T := TX2) (N := 15) hx hb hts hin2 hown hK hP 8 rfl rfl 3 (Nat.le_of_ble_eq_true rfl) hw_7 (fun _ h9 => h9) rfl dX2_copyFrom_46 ?_
  refine lv_iconst (v := 0) hx hb dX2_copyFrom_49 ic_0 ?_
  refine lv_aload_n hx hb dX2_copyFrom_50 rfl (lv_at hl 0 rfl) ?_
  refine va_get (D := (dC, dI)) (ci := 2) (v := .ref n_manner) (C := RX2) (T := TX2) (N := 15) hx hb hts hin2 hown hK hP 0 rfl rfl 3 (Nat.le_of_ble_eq_true rfl) hw_7 (fun _ h9 => h9) rfl dX2_copyFrom_51 ?_
  refine lv_iconst (v := 0) hx hb dX2_copyFrom_54 ic_0 ?_
  refine lv_bipush (v := 12) hx hb dX2_copyFrom_55 bp_12 ?_
  refine va_copyi hx hb (by rw [hml]; exact hl.1.symm) hown hw_1 hw_2 hw_3 hw_4 hK hP hD hS 12 4 1 1 rfl rfl rfl rfl rfl (by decide) (by decide) (by decide) (by decide) (by decide) (fun _ _ => rfl) (Nat.le_of_ble_eq_true rfl) (Nat.le_of_ble_eq_true rfl) dX2_copyFrom_57 (fun H locs hPa hDa hS => ?_)
  clear hP hD
  have hP : va_P (dC, dI) vwCl [(on, .inr (2, oX2 n_kind n_salt n_pace n_manner n_from n_to n_goal n_reach n_branches n_branch n_tally x_n)), (n_kind, .inl (kI, 12, .inl f1)), (n_salt, .inl (kI, 12, .inl f3)), (n_pace, .inl (kI, 12, .inl f6)), (n_manner, .inl (kI, 12, .inl (va_cpy f_dn_manner f_n_manner 0 0 12))), (n_from, .inl (kI, 20, .inl f_n_from)), (n_to, .inl (kI, 20, .inl f_n_to)), (n_goal, .inl (kI, 3, .inl f_n_goal)), (dn, .inr (2, oX2 dn_kind dn_salt dn_pace dn_manner dn_from dn_to dn_goal dn_reach dn_branches dn_branch dn_tally x_dn)), (dn_kind, .inl (kI, 12, .inl f_dn_kind)), (dn_salt, .inl (kI, 12, .inl f_dn_salt)), (dn_pace, .inl (kI, 12, .inl f_dn_pace)), (dn_manner, .inl (kI, 12, .inl f_dn_manner)), (dn_from, .inl (kI, 20, .inl f_dn_from)), (dn_to, .inl (kI, 20, .inl f_dn_to)), (dn_goal, .inl (kI, 3, .inl f_dn_goal))] H := hPa
  have hD : va_D A [(on, .inr (2, oX2 n_kind n_salt n_pace n_manner n_from n_to n_goal n_reach n_branches n_branch n_tally x_n)), (n_kind, .inl (kI, 12, .inl f1)), (n_salt, .inl (kI, 12, .inl f3)), (n_pace, .inl (kI, 12, .inl f6)), (n_manner, .inl (kI, 12, .inl (va_cpy f_dn_manner f_n_manner 0 0 12))), (n_from, .inl (kI, 20, .inl f_n_from)), (n_to, .inl (kI, 20, .inl f_n_to)), (n_goal, .inl (kI, 3, .inl f_n_goal)), (dn, .inr (2, oX2 dn_kind dn_salt dn_pace dn_manner dn_from dn_to dn_goal dn_reach dn_branches dn_branch dn_tally x_dn)), (dn_kind, .inl (kI, 12, .inl f_dn_kind)), (dn_salt, .inl (kI, 12, .inl f_dn_salt)), (dn_pace, .inl (kI, 12, .inl f_dn_pace)), (dn_manner, .inl (kI, 12, .inl f_dn_manner)), (dn_from, .inl (kI, 20, .inl f_dn_from)), (dn_to, .inl (kI, 20, .inl f_dn_to)), (dn_goal, .inl (kI, 3, .inl f_dn_goal))] := hDa
  clear hPa hDa
  generalize (va_cpy f_dn_manner f_n_manner 0 0 12) = f7 at hP hD
  refine lv_aload_n hx hb dX2_copyFrom_60 rfl (lv_at hl 1 rfl) ?_
  refine va_get (D := (dC, dI)) (ci := 2) (v := .ref dn_from) (C := RX2) (T := TX2) (N := 15) hx hb hts hin2 hown hK hP 8 rfl rfl 4 (Nat.le_of_ble_eq_true rfl) hw_8 (fun _ h9 => h9) rfl dX2_copyFrom_61 ?_
  refine lv_iconst (v := 0) hx hb dX2_copyFrom_64 ic_0 ?_
  refine lv_aload_n hx hb dX2_copyFrom_65 rfl (lv_at hl 0 rfl) ?_
  refine va_get (D := (dC, dI)) (ci := 2) (v := .ref n_from) (C := RX2) (T := TX2) (N := 15) hx hb hts hin2 hown hK hP 0 rfl rfl 4 (Nat.le_of_ble_eq_true rfl) hw_8 (fun _ h9 => h9) rfl dX2_copyFrom_66 ?_
  refine lv_iconst (v := 0) hx hb dX2_copyFrom_69 ic_0 ?_
  refine lv_bipush (v := 20) hx hb dX2_copyFrom_70 bp_20 ?_
  refine va_copyi hx hb (by rw [hml]; exact hl.1.symm) hown hw_1 hw_2 hw_3 hw_4 hK hP hD hS 13 5 1 1 rfl rfl rfl rfl rfl (by decide) (by decide) (by decide) (by decide) (by decide) (fun _ _ => rfl) (Nat.le_of_ble_eq_true rfl) (Nat.le_of_ble_eq_true rfl) dX2_copyFrom_72 (fun H locs hPa hDa hS => ?_)
  clear hP hD
  have hP : va_P (dC, dI) vwCl [(on, .inr (2, oX2 n_kind n_salt n_pace n_manner n_from n_to n_goal n_reach n_branches n_branch n_tally x_n)), (n_kind, .inl (kI, 12, .inl f1)), (n_salt, .inl (kI, 12, .inl f3)), (n_pace, .inl (kI, 12, .inl f6)), (n_manner, .inl (kI, 12, .inl f7)), (n_from, .inl (kI, 20, .inl (va_cpy f_dn_from f_n_from 0 0 20))), (n_to, .inl (kI, 20, .inl f_n_to)), (n_goal, .inl (kI, 3, .inl f_n_goal)), (dn, .inr (2, oX2 dn_kind dn_salt dn_pace dn_manner dn_from dn_to dn_goal dn_reach dn_branches dn_branch dn_tally x_dn)), (dn_kind, .inl (kI, 12, .inl f_dn_kind)), (dn_salt, .inl (kI, 12, .inl f_dn_salt)), (dn_pace, .inl (kI, 12, .inl f_dn_pace)), (dn_manner, .inl (kI, 12, .inl f_dn_manner)), (dn_from, .inl (kI, 20, .inl f_dn_from)), (dn_to, .inl (kI, 20, .inl f_dn_to)), (dn_goal, .inl (kI, 3, .inl f_dn_goal))] H := hPa
  have hD : va_D A [(on, .inr (2, oX2 n_kind n_salt n_pace n_manner n_from n_to n_goal n_reach n_branches n_branch n_tally x_n)), (n_kind, .inl (kI, 12, .inl f1)), (n_salt, .inl (kI, 12, .inl f3)), (n_pace, .inl (kI, 12, .inl f6)), (n_manner, .inl (kI, 12, .inl f7)), (n_from, .inl (kI, 20, .inl (va_cpy f_dn_from f_n_from 0 0 20))), (n_to, .inl (kI, 20, .inl f_n_to)), (n_goal, .inl (kI, 3, .inl f_n_goal)), (dn, .inr (2, oX2 dn_kind dn_salt dn_pace dn_manner dn_from dn_to dn_goal dn_reach dn_branches dn_branch dn_tally x_dn)), (dn_kind, .inl (kI, 12, .inl f_dn_kind)), (dn_salt, .inl (kI, 12, .inl f_dn_salt)), (dn_pace, .inl (kI, 12, .inl f_dn_pace)), (dn_manner, .inl (kI, 12, .inl f_dn_manner)), (dn_from, .inl (kI, 20, .inl f_dn_from)), (dn_to, .inl (kI, 20, .inl f_dn_to)), (dn_goal, .inl (kI, 3, .inl f_dn_goal))] := hDa
  clear hPa hDa
  have hf9 : fI (fun _ => 0) (fun _ => 11) (va_cpy f_dn_from f_n_from 0 0 20) := fI_cpy hf_dn_from hf_n_from
  have hcp10 : ∀ i : Nat, i < 20 → (va_cpy f_dn_from f_n_from 0 0 20) i = f_dn_from i := cpy_eq
  generalize (va_cpy f_dn_from f_n_from 0 0 20) = f8 at hP hD hf9 hcp10
  refine lv_aload_n hx hb dX2_copyFrom_75 rfl (lv_at hl 1 rfl) ?_
  refine va_get (D := (dC, dI)) (ci := 2) (v := .ref dn_to) (C := RX2) (T := TX2) (N := 15) hx hb hts hin2 hown hK hP 8 rfl rfl 5 (Nat.le_of_ble_eq_true rfl) hw_9 (fun _ h9 => h9) rfl dX2_copyFrom_76 ?_
  refine lv_iconst (v := 0) hx hb dX2_copyFrom_79 ic_0 ?_
  refine lv_aload_n hx hb dX2_copyFrom_80 rfl (lv_at hl 0 rfl) ?_
  refine va_get (D := (dC, dI)) (ci := 2) (v := .ref n_to) (C := RX2) (T := TX2) (N := 15) hx hb hts hin2 hown hK hP 0 rfl rfl 5 (Nat.le_of_ble_eq_true rfl) hw_9 (fun _ h9 => h9) rfl dX2_copyFrom_81 ?_
  refine lv_iconst (v := 0) hx hb dX2_copyFrom_84 ic_0 ?_
  refine lv_bipush (v := 20) hx hb dX2_copyFrom_85 bp_20 ?_
  refine va_copyi hx hb (by rw [hml]; exact hl.1.symm) hown hw_1 hw_2 hw_3 hw_4 hK hP hD hS 14 6 1 1 rfl rfl rfl rfl rfl (by decide) (by decide) (by decide) (by decide) (by decide) (fun _ _ => rfl) (Nat.le_of_ble_eq_true rfl) (Nat.le_of_ble_eq_true rfl) dX2_copyFrom_87 (fun H locs hPa hDa hS => ?_)
  clear hP hD
  have hP : va_P (dC, dI) vwCl [(on, .inr (2, oX2 n_kind n_salt n_pace n_manner n_from n_to n_goal n_reach n_branches n_branch n_tally x_n)), (n_kind, .inl (kI, 12, .inl f1)), (n_salt, .inl (kI, 12, .inl f3)), (n_pace, .inl (kI, 12, .inl f6)), (n_manner, .inl (kI, 12, .inl f7)), (n_from, .inl (kI, 20, .inl f8)), (n_to, .inl (kI, 20, .inl (va_cpy f_dn_to f_n_to 0 0 20))), (n_goal, .inl (kI, 3, .inl f_n_goal)), (dn, .inr (2, oX2 dn_kind dn_salt dn_pace dn_manner dn_from dn_to dn_goal dn_reach dn_branches dn_branch dn_tally x_dn)), (dn_kind, .inl (kI, 12, .inl f_dn_kind)), (dn_salt, .inl (kI, 12, .inl f_dn_salt)), (dn_pace, .inl (kI, 12, .inl f_dn_pace)), (dn_manner, .inl (kI, 12, .inl f_dn_manner)), (dn_from, .inl (kI, 20, .inl f_dn_from)), (dn_to, .inl (kI, 20, .inl f_dn_to)), (dn_goal, .inl (kI, 3, .inl f_dn_goal))] H := hPa
  have hD : va_D A [(on, .inr (2, oX2 n_kind n_salt n_pace n_manner n_from n_to n_goal n_reach n_branches n_branch n_tally x_n)), (n_kind, .inl (kI, 12, .inl f1)), (n_salt, .inl (kI, 12, .inl f3)), (n_pace, .inl (kI, 12, .inl f6)), (n_manner, .inl (kI, 12, .inl f7)), (n_from, .inl (kI, 20, .inl f8)), (n_to, .inl (kI, 20, .inl (va_cpy f_dn_to f_n_to 0 0 20))), (n_goal, .inl (kI, 3, .inl f_n_goal)), (dn, .inr (2, oX2 dn_kind dn_salt dn_pace dn_manner dn_from dn_to dn_goal dn_reach dn_branches dn_branch dn_tally x_dn)), (dn_kind, .inl (kI, 12, .inl f_dn_kind)), (dn_salt, .inl (kI, 12, .inl f_dn_salt)), (dn_pace, .inl (kI, 12, .inl f_dn_pace)), (dn_manner, .inl (kI, 12, .inl f_dn_manner)), (dn_from, .inl (kI, 20, .inl f_dn_from)), (dn_to, .inl (kI, 20, .inl f_dn_to)), (dn_goal, .inl (kI, 3, .inl f_dn_goal))] := hDa
  clear hPa hDa
  have hf12 : fI (fun _ => 0) (fun _ => 11) (va_cpy f_dn_to f_n_to 0 0 20) := fI_cpy hf_dn_to hf_n_to
  have hcp13 : ∀ i : Nat, i < 20 → (va_cpy f_dn_to f_n_to 0 0 20) i = f_dn_to i := cpy_eq
  generalize (va_cpy f_dn_to f_n_to 0 0 20) = f11 at hP hD hf12 hcp13
  refine lv_aload_n hx hb dX2_copyFrom_90 rfl (lv_at hl 1 rfl) ?_
  refine va_get (D := (dC, dI)) (ci := 2) (v := .ref dn_goal) (C := RX2) (T := TX2) (N := 15) hx hb hts hin2 hown hK hP 8 rfl rfl 6 (Nat.le_of_ble_eq_true rfl) hw_10 (fun _ h9 => h9) rfl dX2_copyFrom_91 ?_
  refine lv_iconst (v := 0) hx hb dX2_copyFrom_94 ic_0 ?_
  refine lv_aload_n hx hb dX2_copyFrom_95 rfl (lv_at hl 0 rfl) ?_
  refine va_get (D := (dC, dI)) (ci := 2) (v := .ref n_goal) (C := RX2) (T := TX2) (N := 15) hx hb hts hin2 hown hK hP 0 rfl rfl 6 (Nat.le_of_ble_eq_true rfl) hw_10 (fun _ h9 => h9) rfl dX2_copyFrom_96 ?_
  refine lv_iconst (v := 0) hx hb dX2_copyFrom_99 ic_0 ?_
  refine lv_iconst (v := 3) hx hb dX2_copyFrom_100 ic_3 ?_
  refine va_copyi hx hb (by rw [hml]; exact hl.1.symm) hown hw_1 hw_2 hw_3 hw_4 hK hP hD hS 15 7 1 1 rfl rfl rfl rfl rfl (by decide) (by decide) (by decide) (by decide) (by decide) (fun _ _ => rfl) (Nat.le_of_ble_eq_true rfl) (Nat.le_of_ble_eq_true rfl) dX2_copyFrom_101 (fun H locs hPa hDa hS => ?_)
  clear hP hD
  have hP : va_P (dC, dI) vwCl [(on, .inr (2, oX2 n_kind n_salt n_pace n_manner n_from n_to n_goal n_reach n_branches n_branch n_tally x_n)), (n_kind, .inl (kI, 12, .inl f1)), (n_salt, .inl (kI, 12, .inl f3)), (n_pace, .inl (kI, 12, .inl f6)), (n_manner, .inl (kI, 12, .inl f7)), (n_from, .inl (kI, 20, .inl f8)), (n_to, .inl (kI, 20, .inl f11)), (n_goal, .inl (kI, 3, .inl (va_cpy f_dn_goal f_n_goal 0 0 3))), (dn, .inr (2, oX2 dn_kind dn_salt dn_pace dn_manner dn_from dn_to dn_goal dn_reach dn_branches dn_branch dn_tally x_dn)), (dn_kind, .inl (kI, 12, .inl f_dn_kind)), (dn_salt, .inl (kI, 12, .inl f_dn_salt)), (dn_pace, .inl (kI, 12, .inl f_dn_pace)), (dn_manner, .inl (kI, 12, .inl f_dn_manner)), (dn_from, .inl (kI, 20, .inl f_dn_from)), (dn_to, .inl (kI, 20, .inl f_dn_to)), (dn_goal, .inl (kI, 3, .inl f_dn_goal))] H := hPa
  have hD : va_D A [(on, .inr (2, oX2 n_kind n_salt n_pace n_manner n_from n_to n_goal n_reach n_branches n_branch n_tally x_n)), (n_kind, .inl (kI, 12, .inl f1)), (n_salt, .inl (kI, 12, .inl f3)), (n_pace, .inl (kI, 12, .inl f6)), (n_manner, .inl (kI, 12, .inl f7)), (n_from, .inl (kI, 20, .inl f8)), (n_to, .inl (kI, 20, .inl f11)), (n_goal, .inl (kI, 3, .inl (va_cpy f_dn_goal f_n_goal 0 0 3))), (dn, .inr (2, oX2 dn_kind dn_salt dn_pace dn_manner dn_from dn_to dn_goal dn_reach dn_branches dn_branch dn_tally x_dn)), (dn_kind, .inl (kI, 12, .inl f_dn_kind)), (dn_salt, .inl (kI, 12, .inl f_dn_salt)), (dn_pace, .inl (kI, 12, .inl f_dn_pace)), (dn_manner, .inl (kI, 12, .inl f_dn_manner)), (dn_from, .inl (kI, 20, .inl f_dn_from)), (dn_to, .inl (kI, 20, .inl f_dn_to)), (dn_goal, .inl (kI, 3, .inl f_dn_goal))] := hDa
  clear hPa hDa
  have hf15 : fI (fun _ => 0) (fun _ => 11) (va_cpy f_dn_goal f_n_goal 0 0 3) := fI_cpy hf_dn_goal hf_n_goal
  have hcp16 : ∀ i : Nat, i < 3 → (va_cpy f_dn_goal f_n_goal 0 0 3) i = f_dn_goal i := cpy_eq
  generalize (va_cpy f_dn_goal f_n_goal 0 0 3) = f14 at hP hD hf15 hcp16
  refine lv_aload_n hx hb dX2_copyFrom_104 rfl (lv_at hl 0 rfl) ?_
  refine lv_aload_n hx hb dX2_copyFrom_105 rfl (lv_at hl 1 rfl) ?_
  refine va_get (D := (dC, dI)) (ci := 2) (v := .int (x_dn 0)) (C := RX2) (T := TX2) (N := 15) hx hb hts hin2 hown hK hP 8 rfl rfl 7 (Nat.le_of_ble_eq_true rfl) hw_11 (fun _ h9 => h9) rfl dX2_copyFrom_106 ?_
  refine va_put (D := (dC, dI)) (ci := 2) (v := .int (x_dn 0)) (ty := .int) (C := RX2) (T := TX2) (N := 15) hx hb hts hin2 tyX2 tyX2_ok nmX2 hown hK hP hD hS 0 rfl rfl 7 (by decide) hw_11 (fun _ h9 => h9) rfl (by decide +kernel) rfl rfl (Nat.le_of_ble_eq_true rfl) dX2_copyFrom_109 (fun H locs hPa hDa hS => ?_)
  clear hP hD
  have hP : va_P (dC, dI) vwCl [(on, .inr (2, oX2 n_kind n_salt n_pace n_manner n_from n_to n_goal n_reach n_branches n_branch n_tally (upd x_n 0 (x_dn 0)))), (n_kind, .inl (kI, 12, .inl f1)), (n_salt, .inl (kI, 12, .inl f3)), (n_pace, .inl (kI, 12, .inl f6)), (n_manner, .inl (kI, 12, .inl f7)), (n_from, .inl (kI, 20, .inl f8)), (n_to, .inl (kI, 20, .inl f11)), (n_goal, .inl (kI, 3, .inl f14)), (dn, .inr (2, oX2 dn_kind dn_salt dn_pace dn_manner dn_from dn_to dn_goal dn_reach dn_branches dn_branch dn_tally x_dn)), (dn_kind, .inl (kI, 12, .inl f_dn_kind)), (dn_salt, .inl (kI, 12, .inl f_dn_salt)), (dn_pace, .inl (kI, 12, .inl f_dn_pace)), (dn_manner, .inl (kI, 12, .inl f_dn_manner)), (dn_from, .inl (kI, 20, .inl f_dn_from)), (dn_to, .inl (kI, 20, .inl f_dn_to)), (dn_goal, .inl (kI, 3, .inl f_dn_goal))] H := hPa
  have hD : va_D A [(on, .inr (2, oX2 n_kind n_salt n_pace n_manner n_from n_to n_goal n_reach n_branches n_branch n_tally (upd x_n 0 (x_dn 0)))), (n_kind, .inl (kI, 12, .inl f1)), (n_salt, .inl (kI, 12, .inl f3)), (n_pace, .inl (kI, 12, .inl f6)), (n_manner, .inl (kI, 12, .inl f7)), (n_from, .inl (kI, 20, .inl f8)), (n_to, .inl (kI, 20, .inl f11)), (n_goal, .inl (kI, 3, .inl f14)), (dn, .inr (2, oX2 dn_kind dn_salt dn_pace dn_manner dn_from dn_to dn_goal dn_reach dn_branches dn_branch dn_tally x_dn)), (dn_kind, .inl (kI, 12, .inl f_dn_kind)), (dn_salt, .inl (kI, 12, .inl f_dn_salt)), (dn_pace, .inl (kI, 12, .inl f_dn_pace)), (dn_manner, .inl (kI, 12, .inl f_dn_manner)), (dn_from, .inl (kI, 20, .inl f_dn_from)), (dn_to, .inl (kI, 20, .inl f_dn_to)), (dn_goal, .inl (kI, 3, .inl f_dn_goal))] := hDa
  clear hPa hDa
  refine lv_aload_n hx hb dX2_copyFrom_112 rfl (lv_at hl 0 rfl) ?_
  refine lv_aload_n hx hb dX2_copyFrom_113 rfl (lv_at hl 1 rfl) ?_
  refine va_get (D := (dC, dI)) (ci := 2) (v := .int (x_dn 1)) (C := RX2) (T := TX2) (N := 15) hx hb hts hin2 hown hK hP 8 rfl rfl 8 (Nat.le_of_ble_eq_true rfl) hw_12 (fun _ h9 => h9) rfl dX2_copyFrom_114 ?_
  refine va_put (D := (dC, dI)) (ci := 2) (v := .int (x_dn 1)) (ty := .int) (C := RX2) (T := TX2) (N := 15) hx hb hts hin2 tyX2 tyX2_ok nmX2 hown hK hP hD hS 0 rfl rfl 8 (by decide) hw_12 (fun _ h9 => h9) rfl (by decide +kernel) rfl rfl (Nat.le_of_ble_eq_true rfl) dX2_copyFrom_117 (fun H locs hPa hDa hS => ?_)
  clear hP hD
  have hP : va_P (dC, dI) vwCl [(on, .inr (2, oX2 n_kind n_salt n_pace n_manner n_from n_to n_goal n_reach n_branches n_branch n_tally (upd (upd x_n 0 (x_dn 0)) 1 (x_dn 1)))), (n_kind, .inl (kI, 12, .inl f1)), (n_salt, .inl (kI, 12, .inl f3)), (n_pace, .inl (kI, 12, .inl f6)), (n_manner, .inl (kI, 12, .inl f7)), (n_from, .inl (kI, 20, .inl f8)), (n_to, .inl (kI, 20, .inl f11)), (n_goal, .inl (kI, 3, .inl f14)), (dn, .inr (2, oX2 dn_kind dn_salt dn_pace dn_manner dn_from dn_to dn_goal dn_reach dn_branches dn_branch dn_tally x_dn)), (dn_kind, .inl (kI, 12, .inl f_dn_kind)), (dn_salt, .inl (kI, 12, .inl f_dn_salt)), (dn_pace, .inl (kI, 12, .inl f_dn_pace)), (dn_manner, .inl (kI, 12, .inl f_dn_manner)), (dn_from, .inl (kI, 20, .inl f_dn_from)), (dn_to, .inl (kI, 20, .inl f_dn_to)), (dn_goal, .inl (kI, 3, .inl f_dn_goal))] H := hPa
  have hD : va_D A [(on, .inr (2, oX2 n_kind n_salt n_pace n_manner n_from n_to n_goal n_reach n_branches n_branch n_tally (upd (upd x_n 0 (x_dn 0)) 1 (x_dn 1)))), (n_kind, .inl (kI, 12, .inl f1)), (n_salt, .inl (kI, 12, .inl f3)), (n_pace, .inl (kI, 12, .inl f6)), (n_manner, .inl (kI, 12, .inl f7)), (n_from, .inl (kI, 20, .inl f8)), (n_to, .inl (kI, 20, .inl f11)), (n_goal, .inl (kI, 3, .inl f14)), (dn, .inr (2, oX2 dn_kind dn_salt dn_pace dn_manner dn_from dn_to dn_goal dn_reach dn_branches dn_branch dn_tally x_dn)), (dn_kind, .inl (kI, 12, .inl f_dn_kind)), (dn_salt, .inl (kI, 12, .inl f_dn_salt)), (dn_pace, .inl (kI, 12, .inl f_dn_pace)), (dn_manner, .inl (kI, 12, .inl f_dn_manner)), (dn_from, .inl (kI, 20, .inl f_dn_from)), (dn_to, .inl (kI, 20, .inl f_dn_to)), (dn_goal, .inl (kI, 3, .inl f_dn_goal))] := hDa
  clear hPa hDa
  refine lv_aload_n hx hb dX2_copyFrom_120 rfl (lv_at hl 0 rfl) ?_
  refine lv_aload_n hx hb dX2_copyFrom_121 rfl (lv_at hl 1 rfl) ?_
  refine va_get (D := (dC, dI)) (ci := 2) (v := .int (x_dn 2)) (C := RX2) (T := TX2) (N := 15) hx hb hts hin2 hown hK hP 8 rfl rfl 9 (Nat.le_of_ble_eq_true rfl) hw_13 (fun _ h9 => h9) rfl dX2_copyFrom_122 ?_
  refine va_put (D := (dC, dI)) (ci := 2) (v := .int (x_dn 2)) (ty := .int) (C := RX2) (T := TX2) (N := 15) hx hb hts hin2 tyX2 tyX2_ok nmX2 hown hK hP hD hS 0 rfl rfl 9 (by decide) hw_13 (fun _ h9 => h9) rfl (by decide +kernel) rfl rfl (Nat.le_of_ble_eq_true rfl) dX2_copyFrom_125 (fun H locs hPa hDa hS => ?_)
  clear hP hD
  have hP : va_P (dC, dI) vwCl [(on, .inr (2, oX2 n_kind n_salt n_pace n_manner n_from n_to n_goal n_reach n_branches n_branch n_tally (upd (upd (upd x_n 0 (x_dn 0)) 1 (x_dn 1)) 2 (x_dn 2)))), (n_kind, .inl (kI, 12, .inl f1)), (n_salt, .inl (kI, 12, .inl f3)), (n_pace, .inl (kI, 12, .inl f6)), (n_manner, .inl (kI, 12, .inl f7)), (n_from, .inl (kI, 20, .inl f8)), (n_to, .inl (kI, 20, .inl f11)), (n_goal, .inl (kI, 3, .inl f14)), (dn, .inr (2, oX2 dn_kind dn_salt dn_pace dn_manner dn_from dn_to dn_goal dn_reach dn_branches dn_branch dn_tally x_dn)), (dn_kind, .inl (kI, 12, .inl f_dn_kind)), (dn_salt, .inl (kI, 12, .inl f_dn_salt)), (dn_pace, .inl (kI, 12, .inl f_dn_pace)), (dn_manner, .inl (kI, 12, .inl f_dn_manner)), (dn_from, .inl (kI, 20, .inl f_dn_from)), (dn_to, .inl (kI, 20, .inl f_dn_to)), (dn_goal, .inl (kI, 3, .inl f_dn_goal))] H := hPa
  have hD : va_D A [(on, .inr (2, oX2 n_kind n_salt n_pace n_manner n_from n_to n_goal n_reach n_branches n_branch n_tally (upd (upd (upd x_n 0 (x_dn 0)) 1 (x_dn 1)) 2 (x_dn 2)))), (n_kind, .inl (kI, 12, .inl f1)), (n_salt, .inl (kI, 12, .inl f3)), (n_pace, .inl (kI, 12, .inl f6)), (n_manner, .inl (kI, 12, .inl f7)), (n_from, .inl (kI, 20, .inl f8)), (n_to, .inl (kI, 20, .inl f11)), (n_goal, .inl (kI, 3, .inl f14)), (dn, .inr (2, oX2 dn_kind dn_salt dn_pace dn_manner dn_from dn_to dn_goal dn_reach dn_branches dn_branch dn_tally x_dn)), (dn_kind, .inl (kI, 12, .inl f_dn_kind)), (dn_salt, .inl (kI, 12, .inl f_dn_salt)), (dn_pace, .inl (kI, 12, .inl f_dn_pace)), (dn_manner, .inl (kI, 12, .inl f_dn_manner)), (dn_from, .inl (kI, 20, .inl f_dn_from)), (dn_to, .inl (kI, 20, .inl f_dn_to)), (dn_goal, .inl (kI, 3, .inl f_dn_goal))] := hDa
  clear hPa hDa
  refine lv_aload_n hx hb dX2_copyFrom_128 rfl (lv_at hl 0 rfl) ?_
  refine lv_aload_n hx hb dX2_copyFrom_129 rfl (lv_at hl 1 rfl) ?_
  refine va_get (D := (dC, dI)) (ci := 2) (v := .int (x_dn 3)) (C := RX2) (T := TX2) (N := 15) hx hb hts hin2 hown hK hP 8 rfl rfl 10 (Nat.le_of_ble_eq_true rfl) hw_14 (fun _ h9 => h9) rfl dX2_copyFrom_130 ?_
  refine va_put (D := (dC, dI)) (ci := 2) (v := .int (x_dn 3)) (ty := .int) (C := RX2) (T := TX2) (N := 15) hx hb hts hin2 tyX2 tyX2_ok nmX2 hown hK hP hD hS 0 rfl rfl 10 (by decide) hw_14 (fun _ h9 => h9) rfl (by decide +kernel) rfl rfl (Nat.le_of_ble_eq_true rfl) dX2_copyFrom_133 (fun H locs hPa hDa hS => ?_)
  clear hP hD
  have hP : va_P (dC, dI) vwCl [(on, .inr (2, oX2 n_kind n_salt n_pace n_manner n_from n_to n_goal n_reach n_branches n_branch n_tally (upd (upd (upd (upd x_n 0 (x_dn 0)) 1 (x_dn 1)) 2 (x_dn 2)) 3 (x_dn 3)))), (n_kind, .inl (kI, 12, .inl f1)), (n_salt, .inl (kI, 12, .inl f3)), (n_pace, .inl (kI, 12, .inl f6)), (n_manner, .inl (kI, 12, .inl f7)), (n_from, .inl (kI, 20, .inl f8)), (n_to, .inl (kI, 20, .inl f11)), (n_goal, .inl (kI, 3, .inl f14)), (dn, .inr (2, oX2 dn_kind dn_salt dn_pace dn_manner dn_from dn_to dn_goal dn_reach dn_branches dn_branch dn_tally x_dn)), (dn_kind, .inl (kI, 12, .inl f_dn_kind)), (dn_salt, .inl (kI, 12, .inl f_dn_salt)), (dn_pace, .inl (kI, 12, .inl f_dn_pace)), (dn_manner, .inl (kI, 12, .inl f_dn_manner)), (dn_from, .inl (kI, 20, .inl f_dn_from)), (dn_to, .inl (kI, 20, .inl f_dn_to)), (dn_goal, .inl (kI, 3, .inl f_dn_goal))] H := hPa
  have hD : va_D A [(on, .inr (2, oX2 n_kind n_salt n_pace n_manner n_from n_to n_goal n_reach n_branches n_branch n_tally (upd (upd (upd (upd x_n 0 (x_dn 0)) 1 (x_dn 1)) 2 (x_dn 2)) 3 (x_dn 3)))), (n_kind, .inl (kI, 12, .inl f1)), (n_salt, .inl (kI, 12, .inl f3)), (n_pace, .inl (kI, 12, .inl f6)), (n_manner, .inl (kI, 12, .inl f7)), (n_from, .inl (kI, 20, .inl f8)), (n_to, .inl (kI, 20, .inl f11)), (n_goal, .inl (kI, 3, .inl f14)), (dn, .inr (2, oX2 dn_kind dn_salt dn_pace dn_manner dn_from dn_to dn_goal dn_reach dn_branches dn_branch dn_tally x_dn)), (dn_kind, .inl (kI, 12, .inl f_dn_kind)), (dn_salt, .inl (kI, 12, .inl f_dn_salt)), (dn_pace, .inl (kI, 12, .inl f_dn_pace)), (dn_manner, .inl (kI, 12, .inl f_dn_manner)), (dn_from, .inl (kI, 20, .inl f_dn_from)), (dn_to, .inl (kI, 20, .inl f_dn_to)), (dn_goal, .inl (kI, 3, .inl f_dn_goal))] := hDa
  clear hPa hDa
  have hP9 := hP
  have hD9 := hD
  exact W.vret hx hb hr (fun t ht hW => ⟨⟨(), rfl, trivial, upd (upd (upd (upd x_n 0 (x_dn 0)) 1 (x_dn 1)) 2 (x_dn 2)) 3 (x_dn 3), f1, f3, f6, f7, f8, f11, f14, (fI_u (fI_u (fI_u (fI_u hx_n (k := 0) ((hx_dn 0 : iv 0 12 (x_dn 0)))) (k := 1) ((hx_dn 1 : iv 0 20 (x_dn 1)))) (k := 2) ((hx_dn 2 : iv 0 3 (x_dn 2)))) (k := 3) ((hx_dn 3 : iv (-2147483648) 2147483647 (x_dn 3)))), hf4, hf9, hf12, hf15, (show x_dn 0 = x_dn 0 from rfl), (show x_dn 1 = x_dn 1 from rfl), (show x_dn 2 = x_dn 2 from rfl), (show ∀ i : Nat, i < 12 → f1 i = f_dn_kind i from hcp2), (show ∀ i : Nat, i < 12 → f3 i = f_dn_salt i from hcp5), (show ∀ i : Nat, i < 20 → f8 i = f_dn_from i from hcp10), (show ∀ i : Nat, i < 20 → f11 i = f_dn_to i from hcp13), (show ∀ i : Nat, i < 3 → f14 i = f_dn_goal i from hcp16), by rw [ht]; exact hP9, hD9⟩, hS.F ht⟩) hS.2.2 dX2_copyFrom_136
def rm_s2_hasRouter : Room := { frames := 0, cells := 0, slots := 0, locals := 0 }
set_option maxHeartbeats 4000000 in
set_option maxRecDepth 100000 in
theorem s2_hasRouter (l : Launch) (dC : Nat → ClassId) (dI : Nat → Nat → Nat) (kB kI kJ kZ kC kS : ClassId) (sz : Nat) (on : Nat) (n_kind : Nat) (n_salt : Nat) (n_pace : Nat) (n_manner : Nat) (n_from : Nat) (n_to : Nat) (n_goal : Nat) (n_reach : Nat) (n_branches : Nat) (n_branch : Nat) (n_tally : Nat) (x_n : Nat → Int32) (p0 : Int32) (hx_n : fI lX2 hX2 x_n) : Met l yX2_hasRouter wsX2_hasRouter rm_s2_hasRouter (va_Pc [.ref on, .int p0] (fun U => U.heap.size = sz ∧ va_P (dC, dI) vwCl [(on, .inr (2, oX2 n_kind n_salt n_pace n_manner n_from n_to n_goal n_reach n_branches n_branch n_tally x_n))] U.heap ∧ kE dC dI kB kI kJ kZ kC kS U ∧ va_D (fun _ => True) [(on, .inr (2, oX2 n_kind n_salt n_pace n_manner n_from n_to n_goal n_reach n_branches n_branch n_tally x_n))])) (va_Qi (fun (r : Int32) (_ : Unit) => iv 0 1 r ∧ (r = 0 ∨ iv 0 11 p0)) (fun _ t => va_P (dC, dI) vwCl [(on, .inr (2, oX2 n_kind n_salt n_pace n_manner n_from n_to n_goal n_reach n_branches n_branch n_tally x_n))] t.heap ∧ va_D (va_A [(on, .inr (2, oX2 n_kind n_salt n_pace n_manner n_from n_to n_goal n_reach n_branches n_branch n_tally x_n))] sz) [(on, .inr (2, oX2 n_kind n_salt n_pace n_manner n_from n_to n_goal n_reach n_branches n_branch n_tally x_n))]) (va_A [(on, .inr (2, oX2 n_kind n_salt n_pace n_manner n_from n_to n_goal n_reach n_branches n_branch n_tally x_n))] sz)) 0 0 (va_A [(on, .inr (2, oX2 n_kind n_salt n_pace n_manner n_from n_to n_goal n_reach n_branches n_branch n_tally x_n))] sz) := by
  refine Met.ofW (cc := cX2_hasRouter) (maxL := 2) (ret := (some .boolean)) (by decide) rfl ?_
  intro p e s m args0 below meth c s₁ B hml hv
  obtain ⟨hargs, hsz, hP, hE, hD0⟩ := hv
  have hx := B.exec
  have hb := B.bytes
  have hr := B.returns
  have hts := atoms_spec (ws := wsX2_hasRouter) B.pre
  have hown : s.vm.findClass RX2 = some m.cls := findClass_of_methodNamed B.named
  have hlocks := B.notSynchronized
  have hK := hE.1
  have hin2 : ∀ w ∈ wsX20, w ∈ wsX2_hasRouter := fun _ h9 => List.mem_cons_of_mem _ (List.mem_append_right _ h9)
  have hw_0 := hts (.fieldLink RX2 33 "PathProber$Net" "routers" "I") (List.mem_of_getElem? (i := 1) rfl)
  subst hsz
  have hD := hD0.self (sz := s.heap.size)
  generalize hAe : va_A [(on, .inr (2, oX2 n_kind n_salt n_pace n_manner n_from n_to n_goal n_reach n_branches n_branch n_tally x_n))] s.heap.size = A at hD ⊢
  have hA : ∀ q : Nat, s.heap.size ≤ q → A q := fun q h => by rw [← hAe]; exact Or.inr h
  have hS : va_S A s.heap s.heap [] := va_S.rf
  have hP : va_P (dC, dI) vwCl [(on, .inr (2, oX2 n_kind n_salt n_pace n_manner n_from n_to n_goal n_reach n_branches n_branch n_tally x_n))] s.heap := hP
  have hl := lv_entry ([.ref on, .int p0]) (n := 2) (Nat.le_of_ble_eq_true rfl)
  have hla : entryFrame m args0 2 = entryFrame m ([.ref on, .int p0] : List Value).toArray 2 := by rw [hargs]
  rw [hla, lg_entry_eq]
  generalize (lg_sl ([.ref on, .int p0]) ++ List.replicate (2 - (lg_sl ([.ref on, .int p0])).length) Slot.unset).toArray = ls at hl ⊢
  have hl : lv_has ls 2 [(0, .ref on), (1, .int p0)] := hl
  have hJ16 : ∀ (H : Heap) (locs : List Loc) (ls : Array Slot), iv (-2147483648) 2147483647 p0 → va_P (dC, dI) vwCl [(on, .inr (2, oX2 n_kind n_salt n_pace n_manner n_from n_to n_goal n_reach n_branches n_branch n_tally x_n))] H → va_D A [(on, .inr (2, oX2 n_kind n_salt n_pace n_manner n_from n_to n_goal n_reach n_branches n_branch n_tally x_n))] → va_S A s.heap H locs → lv_has ls 2 [(0, .ref on), (1, .int p0)] → W p l e (headSpec wsX2_hasRouter rm_s2_hasRouter).room s m args0 below meth c H locs (0) (0) (MQ below (va_Qi (fun (r : Int32) (_ : Unit) => iv 0 1 r ∧ (r = 0 ∨ iv 0 11 p0)) (fun _ t => va_P (dC, dI) vwCl [(on, .inr (2, oX2 n_kind n_salt n_pace n_manner n_from n_to n_goal n_reach n_branches n_branch n_tally x_n))] t.heap ∧ va_D A [(on, .inr (2, oX2 n_kind n_salt n_pace n_manner n_from n_to n_goal n_reach n_branches n_branch n_tally x_n))]) A) args0 s 0 0 A) (F0 m 16 ls []) := by
    intro H locs ls h16_1 hP hD hS hl
    refine lv_iconst (v := 0) hx hb dX2_hasRouter_16 ic_0 ?_
    have hP9 := hP
    have hD9 := hD
    exact W.zret (v := 0) (ty := .boolean) hx hb hr rfl (fun t ht hW => ⟨⟨0, (), rfl, ⟨(iv_w ivk_0 (by decide) (by decide)), Or.inl rfl⟩, by rw [ht]; exact hP9, hD9⟩, hS.F ht⟩) hS.2.2 dX2_hasRouter_17
  refine lv_iload_n hx hb dX2_hasRouter_0 rfl (lv_at hl 1 rfl) ?_
  refine lv_if_lt (tgt := 16) hx hb dX2_hasRouter_1 rfl (fun c1 => ?_) (fun c1 => ?_)
  · have b2 : iv (-2147483648) (-1) p0 := iv_ltL c1 (iv_t p0) ivk_0 (by decide) (by decide)
    exact hJ16 _ _ _ ((iv_w b2 (by decide) (by decide))) (hP) (hD) hS (lv_sub hl [0, 1] rfl)
  · have b3 : iv 0 2147483647 p0 := iv_leR (Int32.not_lt.mp c1) ivk_0 (iv_t p0) (by decide) (by decide)
    refine lv_iload_n hx hb dX2_hasRouter_4 rfl (lv_at hl 1 rfl) ?_
    refine lv_aload_n hx hb dX2_hasRouter_5 rfl (lv_at hl 0 rfl) ?_
    refine va_get (D := (dC, dI)) (ci := 2) (v := .int (x_n 0)) (C := RX2) (T := TX2) (N := 15) hx hb hts hin2 hown hK hP 0 rfl rfl 7 (Nat.le_of_ble_eq_true rfl) hw_0 (fun _ h9 => h9) rfl dX2_hasRouter_6 ?_
    refine lv_icmp_ge (tgt := 16) hx hb dX2_hasRouter_9 rfl (fun c4 => ?_) (fun c4 => ?_)
    · exact hJ16 _ _ _ ((iv_w b3 (by decide) (by decide))) (hP) (hD) hS (lv_sub hl [0, 1] rfl)
    · have b5 : iv 0 11 p0 := iv_ltL (Int32.not_le.mp c4) b3 (hx_n 0 : iv 0 12 (x_n 0)) (by decide) (by decide)
      have b6 : iv 1 12 (x_n 0) := iv_ltR (Int32.not_le.mp c4) b3 (hx_n 0 : iv 0 12 (x_n 0)) (by decide) (by decide)
      refine lv_iconst (v := 1) hx hb dX2_hasRouter_12 ic_1 ?_
      refine lv_goto (tgt := 17) hx hb dX2_hasRouter_13 rfl ?_
      have hP9 := hP
      have hD9 := hD
      exact W.zret (v := 1) (ty := .boolean) hx hb hr rfl (fun t ht hW => ⟨⟨1, (), rfl, ⟨(iv_w ivk_1 (by decide) (by decide)), Or.inr (b5)⟩, by rw [ht]; exact hP9, hD9⟩, hS.F ht⟩) hS.2.2 dX2_hasRouter_17
def rm_s2_hasLink : Room := { frames := 0, cells := 0, slots := 0, locals := 0 }
set_option maxHeartbeats 4000000 in
set_option maxRecDepth 100000 in
theorem s2_hasLink (l : Launch) (dC : Nat → ClassId) (dI : Nat → Nat → Nat) (kB kI kJ kZ kC kS : ClassId) (sz : Nat) (on : Nat) (n_kind : Nat) (n_salt : Nat) (n_pace : Nat) (n_manner : Nat) (n_from : Nat) (n_to : Nat) (n_goal : Nat) (n_reach : Nat) (n_branches : Nat) (n_branch : Nat) (n_tally : Nat) (x_n : Nat → Int32) (p0 : Int32) (hx_n : fI lX2 hX2 x_n) : Met l yX2_hasLink wsX2_hasLink rm_s2_hasLink (va_Pc [.ref on, .int p0] (fun U => U.heap.size = sz ∧ va_P (dC, dI) vwCl [(on, .inr (2, oX2 n_kind n_salt n_pace n_manner n_from n_to n_goal n_reach n_branches n_branch n_tally x_n))] U.heap ∧ kE dC dI kB kI kJ kZ kC kS U ∧ va_D (fun _ => True) [(on, .inr (2, oX2 n_kind n_salt n_pace n_manner n_from n_to n_goal n_reach n_branches n_branch n_tally x_n))])) (va_Qi (fun (r : Int32) (_ : Unit) => iv 0 1 r ∧ (r = 0 ∨ iv 0 19 p0)) (fun _ t => va_P (dC, dI) vwCl [(on, .inr (2, oX2 n_kind n_salt n_pace n_manner n_from n_to n_goal n_reach n_branches n_branch n_tally x_n))] t.heap ∧ va_D (va_A [(on, .inr (2, oX2 n_kind n_salt n_pace n_manner n_from n_to n_goal n_reach n_branches n_branch n_tally x_n))] sz) [(on, .inr (2, oX2 n_kind n_salt n_pace n_manner n_from n_to n_goal n_reach n_branches n_branch n_tally x_n))]) (va_A [(on, .inr (2, oX2 n_kind n_salt n_pace n_manner n_from n_to n_goal n_reach n_branches n_branch n_tally x_n))] sz)) 0 0 (va_A [(on, .inr (2, oX2 n_kind n_salt n_pace n_manner n_from n_to n_goal n_reach n_branches n_branch n_tally x_n))] sz) := by
  refine Met.ofW (cc := cX2_hasLink) (maxL := 2) (ret := (some .boolean)) (by decide) rfl ?_
  intro p e s m args0 below meth c s₁ B hml hv
  obtain ⟨hargs, hsz, hP, hE, hD0⟩ := hv
  have hx := B.exec
  have hb := B.bytes
  have hr := B.returns
  have hts := atoms_spec (ws := wsX2_hasLink) B.pre
  have hown : s.vm.findClass RX2 = some m.cls := findClass_of_methodNamed B.named
  have hlocks := B.notSynchronized
  have hK := hE.1
  have hin2 : ∀ w ∈ wsX20, w ∈ wsX2_hasLink := fun _ h9 => List.mem_cons_of_mem _ (List.mem_append_right _ h9)
  have hw_0 := hts (.fieldLink RX2 37 "PathProber$Net" "links" "I") (List.mem_of_getElem? (i := 1) rfl)
  subst hsz
  have hD := hD0.self (sz := s.heap.size)
  generalize hAe : va_A [(on, .inr (2, oX2 n_kind n_salt n_pace n_manner n_from n_to n_goal n_reach n_branches n_branch n_tally x_n))] s.heap.size = A at hD ⊢
  have hA : ∀ q : Nat, s.heap.size ≤ q → A q := fun q h => by rw [← hAe]; exact Or.inr h
  have hS : va_S A s.heap s.heap [] := va_S.rf
  have hP : va_P (dC, dI) vwCl [(on, .inr (2, oX2 n_kind n_salt n_pace n_manner n_from n_to n_goal n_reach n_branches n_branch n_tally x_n))] s.heap := hP
  have hl := lv_entry ([.ref on, .int p0]) (n := 2) (Nat.le_of_ble_eq_true rfl)
  have hla : entryFrame m args0 2 = entryFrame m ([.ref on, .int p0] : List Value).toArray 2 := by rw [hargs]
  rw [hla, lg_entry_eq]
  generalize (lg_sl ([.ref on, .int p0]) ++ List.replicate (2 - (lg_sl ([.ref on, .int p0])).length) Slot.unset).toArray = ls at hl ⊢
  have hl : lv_has ls 2 [(0, .ref on), (1, .int p0)] := hl
  have hJ16 : ∀ (H : Heap) (locs : List Loc) (ls : Array Slot), iv (-2147483648) 2147483647 p0 → va_P (dC, dI) vwCl [(on, .inr (2, oX2 n_kind n_salt n_pace n_manner n_from n_to n_goal n_reach n_branches n_branch n_tally x_n))] H → va_D A [(on, .inr (2, oX2 n_kind n_salt n_pace n_manner n_from n_to n_goal n_reach n_branches n_branch n_tally x_n))] → va_S A s.heap H locs → lv_has ls 2 [(0, .ref on), (1, .int p0)] → W p l e (headSpec wsX2_hasLink rm_s2_hasLink).room s m args0 below meth c H locs (0) (0) (MQ below (va_Qi (fun (r : Int32) (_ : Unit) => iv 0 1 r ∧ (r = 0 ∨ iv 0 19 p0)) (fun _ t => va_P (dC, dI) vwCl [(on, .inr (2, oX2 n_kind n_salt n_pace n_manner n_from n_to n_goal n_reach n_branches n_branch n_tally x_n))] t.heap ∧ va_D A [(on, .inr (2, oX2 n_kind n_salt n_pace n_manner n_from n_to n_goal n_reach n_branches n_branch n_tally x_n))]) A) args0 s 0 0 A) (F0 m 16 ls []) := by
    intro H locs ls h16_1 hP hD hS hl
    refine lv_iconst (v := 0) hx hb dX2_hasLink_16 ic_0 ?_
    have hP9 := hP
    have hD9 := hD
    exact W.zret (v := 0) (ty := .boolean) hx hb hr rfl (fun t ht hW => ⟨⟨0, (), rfl, ⟨(iv_w ivk_0 (by decide) (by decide)), Or.inl rfl⟩, by rw [ht]; exact hP9, hD9⟩, hS.F ht⟩) hS.2.2 dX2_hasLink_17
  refine lv_iload_n hx hb dX2_hasLink_0 rfl (lv_at hl 1 rfl) ?_
  refine lv_if_lt (tgt := 16) hx hb dX2_hasLink_1 rfl (fun c1 => ?_) (fun c1 => ?_)
  · have b2 : iv (-2147483648) (-1) p0 := iv_ltL c1 (iv_t p0) ivk_0 (by decide) (by decide)
    exact hJ16 _ _ _ ((iv_w b2 (by decide) (by decide))) (hP) (hD) hS (lv_sub hl [0, 1] rfl)
  · have b3 : iv 0 2147483647 p0 := iv_leR (Int32.not_lt.mp c1) ivk_0 (iv_t p0) (by decide) (by decide)
    refine lv_iload_n hx hb dX2_hasLink_4 rfl (lv_at hl 1 rfl) ?_
    refine lv_aload_n hx hb dX2_hasLink_5 rfl (lv_at hl 0 rfl) ?_
    refine va_get (D := (dC, dI)) (ci := 2) (v := .int (x_n 1)) (C := RX2) (T := TX2) (N := 15) hx hb hts hin2 hown hK hP 0 rfl rfl 8 (Nat.le_of_ble_eq_true rfl) hw_0 (fun _ h9 => h9) rfl dX2_hasLink_6 ?_
    refine lv_icmp_ge (tgt := 16) hx hb dX2_hasLink_9 rfl (fun c4 => ?_) (fun c4 => ?_)
    · exact hJ16 _ _ _ ((iv_w b3 (by decide) (by decide))) (hP) (hD) hS (lv_sub hl [0, 1] rfl)
    · have b5 : iv 0 19 p0 := iv_ltL (Int32.not_le.mp c4) b3 (hx_n 1 : iv 0 20 (x_n 1)) (by decide) (by decide)
      have b6 : iv 1 20 (x_n 1) := iv_ltR (Int32.not_le.mp c4) b3 (hx_n 1 : iv 0 20 (x_n 1)) (by decide) (by decide)
      refine lv_iconst (v := 1) hx hb dX2_hasLink_12 ic_1 ?_
      refine lv_goto (tgt := 17) hx hb dX2_hasLink_13 rfl ?_
      have hP9 := hP
      have hD9 := hD
      exact W.zret (v := 1) (ty := .boolean) hx hb hr rfl (fun t ht hW => ⟨⟨1, (), rfl, ⟨(iv_w ivk_1 (by decide) (by decide)), Or.inr (b5)⟩, by rw [ht]; exact hP9, hD9⟩, hS.F ht⟩) hS.2.2 dX2_hasLink_17
