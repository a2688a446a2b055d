def rm_s1_rowOf : Room := { frames := 2, cells := 5, slots := 160, locals := 32 }
set_option maxHeartbeats 4000000 in
set_option maxRecDepth 100000 in
theorem s1_rowOf (l : Launch) (dC : Nat → ClassId) (dI : Nat → Nat → Nat) (kB kI kJ kZ kC kS : ClassId) (sz : Nat) (hi : Nat) (hi_ahead : Nat) (x_hi : Nat → Int32) (f_hi_ahead : Nat → Option Nat) (p0 : Int32) (rows : List RR) (hx_hi : fI lX1 hX1 x_hi) (hp0 : iv 0 39 p0) (hOK : rOK rows) (hF_hi : rFam f_hi_ahead rows) : Met l yX1_rowOf wsX1_rowOf rm_s1_rowOf (va_Pc [.ref hi, .int p0] (fun U => U.heap.size = sz ∧ va_P (dC, dI) vwCl (([(hi, .inr (1, oX1 hi_ahead x_hi)), (hi_ahead, .inl (kC, 40, .inr (.inr (.inr (.inr f_hi_ahead)))))] : va_W) ++ rfm kI kJ rows) U.heap ∧ kE dC dI kB kI kJ kZ kC kS U ∧ va_D (fun _ => True) (([(hi, .inr (1, oX1 hi_ahead x_hi)), (hi_ahead, .inl (kC, 40, .inr (.inr (.inr (.inr f_hi_ahead)))))] : va_W) ++ rfm kI kJ rows))) (va_Qr (fun (_ : Unit) => True) (fun _ ra t => ∃ (f_hi_ahead' : Nat → Option Nat) (rows' : List RR), rOK rows' ∧ rFam f_hi_ahead' rows' ∧ (∃ r ∈ rows', r.1.1 = ra) ∧ (∀ g2, rFam g2 rows → rFam g2 rows') ∧ (∀ k q : Nat, f_hi_ahead' k = some q → f_hi_ahead k = some q ∨ ∀ x ∈ rows, x.1.1 ≠ q) ∧ (∃ k : Nat, f_hi_ahead' k = some ra) ∧ va_P (dC, dI) vwCl (([(hi, .inr (1, oX1 hi_ahead x_hi)), (hi_ahead, .inl (kC, 40, .inr (.inr (.inr (.inr f_hi_ahead')))))] : va_W) ++ rfm kI kJ rows') t.heap ∧ va_D (va_A (([(hi, .inr (1, oX1 hi_ahead x_hi)), (hi_ahead, .inl (kC, 40, .inr (.inr (.inr (.inr f_hi_ahead)))))] : va_W) ++ rfm kI kJ rows) sz) (([(hi, .inr (1, oX1 hi_ahead x_hi)), (hi_ahead, .inl (kC, 40, .inr (.inr (.inr (.inr f_hi_ahead')))))] : va_W) ++ rfm kI kJ rows')) (va_A (([(hi, .inr (1, oX1 hi_ahead x_hi)), (hi_ahead, .inl (kC, 40, .inr (.inr (.inr (.inr f_hi_ahead)))))] : va_W) ++ rfm kI kJ rows) sz)) 5 160 (va_A (([(hi, .inr (1, oX1 hi_ahead x_hi)), (hi_ahead, .inl (kC, 40, .inr (.inr (.inr (.inr f_hi_ahead)))))] : va_W) ++ rfm kI kJ rows) sz) := by
  refine Met.ofW (cc := cX1_rowOf) (maxL := 4) (ret := (some (.object "PathProber$Condition"))) (by decide) rfl ?_
  intro p e s m args0 below meth c s₁ B hml hv
  obtain ⟨hargs, hsz, hP, hE, hD0⟩ := hv
  have hx := B.exec
  have hb := B.bytes
  have hr := B.returns
  have hts := atoms_spec (ws := wsX1_rowOf) B.pre
  have hown : s.vm.findClass RX1 = some m.cls := findClass_of_methodNamed B.named
  have hlocks := B.notSynchronized
  have hK := hE.1
  have hin1 : ∀ w ∈ wsX10, w ∈ wsX1_rowOf := fun _ h9 => List.mem_cons_of_mem _ (List.mem_append_left _ (List.mem_append_right _ h9))
  have hin0 : ∀ w ∈ wsX00, w ∈ wsX1_rowOf := fun _ h9 => List.mem_cons_of_mem _ (List.mem_append_right _ h9)
  have hw_0 := hts (.fieldLink RX1 17 "PathProber$History" "oldest" "I") (List.mem_of_getElem? (i := 1) rfl)
  have hw_1 := hts (.fieldLink RX1 11 "PathProber$History" "ahead" "[LPathProber$Condition;") (List.mem_of_getElem? (i := 2) rfl)
  have hw_2 := hts (.classLink RX1 9 RX0) (List.mem_of_getElem? (i := 3) rfl)
  have hw_3 := hts (.instantiable RX0 10) (List.mem_of_getElem? (i := 4) rfl)
  have hw_4 := hts (.initialized RX0) (List.mem_of_getElem? (i := 5) rfl)
  have hw_5 := hts (.instanceMethod yX0_init) (List.mem_of_getElem? (i := 6) rfl)
  subst hsz
  have hD := hD0.self (sz := s.heap.size)
  generalize hAe : va_A (([(hi, .inr (1, oX1 hi_ahead x_hi)), (hi_ahead, .inl (kC, 40, .inr (.inr (.inr (.inr f_hi_ahead)))))] : va_W) ++ rfm kI kJ rows) s.heap.size = A at hD ⊢
  have hA : ∀ q : Nat, s.heap.size ≤ q → A q := fun q h => by rw [← hAe]; exact Or.inr h
  have hS : va_S A s.heap s.heap [] := va_S.rf
  have hP : va_P (dC, dI) vwCl (([(hi, .inr (1, oX1 hi_ahead x_hi)), (hi_ahead, .inl (kC, 40, .inr (.inr (.inr (.inr f_hi_ahead)))))] : va_W) ++ rfm kI kJ rows) s.heap := hP
  have hl := lv_entry ([.ref hi, .int p0]) (n := 4) (Nat.le_of_ble_eq_true rfl)
  have hla : entryFrame m args0 4 = entryFrame m ([.ref hi, .int p0] : List Value).toArray 4 := by rw [hargs]
  rw [hla, lg_entry_eq]
  generalize (lg_sl ([.ref hi, .int p0]) ++ List.replicate (4 - (lg_sl ([.ref hi, .int p0])).length) Slot.unset).toArray = ls at hl ⊢
  have hl : lv_has ls 4 [(0, .ref hi), (1, .int p0)] := hl
  refine lv_aload_n hx hb dX1_rowOf_0 rfl (lv_at hl 0 rfl) ?_
  refine va_get (D := (dC, dI)) (ci := 1) (v := .int (x_hi 0)) (C := RX1) (T := TX1) (N := 3) hx hb hts hin1 hown hK hP 0 rfl rfl 1 (Nat.le_of_ble_eq_true rfl) hw_0 (fun _ h9 => h9) rfl dX1_rowOf_1 ?_
  refine lv_iload_n hx hb dX1_rowOf_4 rfl (lv_at hl 1 rfl) ?_
  refine lv_iadd hx hb dX1_rowOf_5 ?_
  refine iv_top (a := 0) (b := 78) (iv_add (hx_hi 0 : iv 0 39 (x_hi 0)) hp0 (by decide) (by decide) (by decide) (by decide)) (fun z1 b2 => ?_)
  refine lv_bipush (v := 40) hx hb dX1_rowOf_6 bp_40 ?_
  refine lv_irem hx hb dX1_rowOf_8 (by decide) ?_
  refine iv_top (a := 0) (b := 39) (iv_rem b2 ivk_40 (by decide) (by decide) (by decide) (by decide)) (fun z3 b4 => ?_)
  refine lv_istore_n (lv' := [(2, .int z3), (0, .ref hi), (1, .int p0)]) hx hb dX1_rowOf_9 rfl hl (Nat.le_of_ble_eq_true rfl) rfl (fun ls hl => ?_)
  refine lv_aload_n hx hb dX1_rowOf_10 rfl (lv_at hl 1 rfl) ?_
  refine va_get (D := (dC, dI)) (ci := 1) (v := .ref hi_ahead) (C := RX1) (T := TX1) (N := 3) hx hb hts hin1 hown hK hP 0 rfl rfl 0 (Nat.le_of_ble_eq_true rfl) hw_1 (fun _ h9 => h9) rfl dX1_rowOf_11 ?_
  refine lv_iload_n hx hb dX1_rowOf_14 rfl (lv_at hl 0 rfl) ?_
  refine va_aldq hx hb hK hP 1 4 rfl rfl (iv_in b4 (by decide) (by decide)) dX1_rowOf_15 ?_
  cases hg : f_hi_ahead z3.toNatClampNeg with
  | some q =>
    refine W.eq (g2 := F0 m 16 ls [.ref q]) rfl ?_
    refine lv_astore_n (lv' := [(3, .ref q), (2, .int z3), (0, .ref hi), (1, .int p0)]) hx hb dX1_rowOf_16 rfl hl (Nat.le_of_ble_eq_true rfl) rfl (fun ls hl => ?_)
    refine lv_aload_n hx hb dX1_rowOf_17 rfl (lv_at hl 0 rfl) ?_
    refine lv_ifnonnull (tgt := 36) hx hb dX1_rowOf_18 (by decide) ?_
    refine lv_aload_n hx hb dX1_rowOf_36 rfl (lv_at hl 0 rfl) ?_
    have hP9 := hP
    have hD9 := hD
    refine W.widen (k := 5) (n := 160) (Nat.le_of_ble_eq_true rfl) (Nat.le_of_ble_eq_true rfl) ?_
    exact W.aret (v := .ref q) hx hb hr (Or.inl ⟨_, rfl⟩) (Or.inr ⟨_, rfl⟩) (fun t ht hW => ⟨⟨(), q, rfl, trivial, f_hi_ahead, rows, hOK, hF_hi, hF_hi _ _ hg, fun _ h => h, fun _ _ h => Or.inl h, ⟨_, hg⟩, by rw [ht]; exact hP9, hD9⟩, hS.F ht⟩) hS.2.2 dX1_rowOf_37
  | none =>
    refine W.eq (g2 := F0 m 16 ls [.null]) rfl ?_
    refine lv_astore_nN (lv' := [(3, .null), (2, .int z3), (0, .ref hi), (1, .int p0)]) hx hb dX1_rowOf_16 rfl hl (Nat.le_of_ble_eq_true rfl) rfl (fun ls hl => ?_)
    refine lv_aload_nN hx hb dX1_rowOf_17 rfl (lv_at hl 0 rfl) ?_
    refine lv_ifnonnullN hx hb dX1_rowOf_18 ?_
    refine va_new (ci := 0) (fs := [.null, .null, .null, .null, .int 0, .int 0, .int 0, .int 0, .int 0, .int 0]) (C := RX0) (T := TX0) (N := 10) hx hb hts hin0 tyX0 tyX0_ok hown hw_2 hw_3 hw_4 hK hP hD hS hA rfl (fun j hj => by rcases (show j = 0 ∨ j = 1 ∨ j = 2 ∨ j = 3 ∨ j = 4 ∨ j = 5 ∨ j = 6 ∨ j = 7 ∨ j = 8 ∨ j = 9 by omega) with rfl | rfl | rfl | rfl | rfl | rfl | rfl | rfl | rfl | rfl <;> rfl) (Nat.le_of_ble_eq_true rfl) (Nat.le_of_ble_eq_true rfl) dX1_rowOf_21 (fun q H hP hD hS => ?_)
    have hfr : ∀ x ∈ rows, x.1.1 ≠ q := rfresh hD
    have hP : va_P (dC, dI) vwCl (([(hi, .inr (1, oX1 hi_ahead x_hi)), (hi_ahead, .inl (kC, 40, .inr (.inr (.inr (.inr f_hi_ahead))))), (q, .inr (0, [.null, .null, .null, .null, .int 0, .int 0, .int 0, .int 0, .int 0, .int 0]))] : va_W) ++ rfm kI kJ rows) H := hP.swap
    have hD : va_D A (([(hi, .inr (1, oX1 hi_ahead x_hi)), (hi_ahead, .inl (kC, 40, .inr (.inr (.inr (.inr f_hi_ahead))))), (q, .inr (0, [.null, .null, .null, .null, .int 0, .int 0, .int 0, .int 0, .int 0, .int 0]))] : va_W) ++ rfm kI kJ rows) := hD.swap
    refine W.widen (k := 1) (n := 10) (Nat.le_of_ble_eq_true rfl) (Nat.le_of_ble_eq_true rfl) ?_
    refine lv_dup hx hb dX1_rowOf_24 rfl ?_
    have hPc := hP.sub (ws' := [(q, .inr (0, [.null, .null, .null, .null, .int 0, .int 0, .int 0, .int 0, .int 0, .int 0]))]) [2] rfl
    have hDc := hD.sub (ws' := [(q, .inr (0, [.null, .null, .null, .null, .int 0, .int 0, .int 0, .int 0, .int 0, .int 0]))]) [2] (by decide) rfl
    have hFc := va_free (wc := [(q, .inr (0, [.null, .null, .null, .null, .int 0, .int 0, .int 0, .int 0, .int 0, .int 0]))]) hD hS hA [2] rfl
    refine va_callv (va_runIN (As := []) (rest := [.ref q]) ⟨hx, hb, hml, hown, hts⟩ (k0_init l dC dI kB kI kJ kZ kC kS H.size q) ⟨va_cnB 0 hts gX1_rowOf_X0_init_n35 rfl rfl rfl hE.2.2.2.2.2.2.2.2 hw_4 (by decide +kernel) ⟨Nat.le_of_ble_eq_true rfl, Nat.le_of_ble_eq_true rfl⟩, rfl, hw_5⟩ ⟨fun a U g mk q => by obtain ⟨q0, q1, qP, qE, qD⟩ := q; exact ⟨q0, q1, qP, kE_call qE, qD⟩, fun U hU hW => ⟨rfl, by rw [hU], by rw [hU]; exact hPc, kE_warm hW hE, hDc.weaken (fun _ _ _ _ => trivial)⟩⟩ rfl rfl hl.1 rfl (lv_room (Nat.le_of_ble_eq_true rfl)) dX1_rowOf_25 ⟨Nat.le_of_ble_eq_true rfl, Nat.le_of_ble_eq_true rfl⟩) hS (fun q _ h => hFc q h) hFc (fun u t H1 locs ht hvm w9 hB hz1 hk1 hS => ?_)
    obtain ⟨s1, t1, u1, v1, hP1, hD1⟩ := hB
    rw [ht] at hP1
    obtain ⟨hP, hD⟩ := va_joinQ (X := [(hi, .inr (1, oX1 hi_ahead x_hi)), (hi_ahead, .inl (kC, 40, .inr (.inr (.inr (.inr f_hi_ahead))))), (q, .inr (0, [.null, .null, .null, .null, .int 0, .int 0, .int 0, .int 0, .int 0, .int 0]))]) (cx := [(q, .inr (0, [.null, .null, .null, .null, .int 0, .int 0, .int 0, .int 0, .int 0, .int 0]))]) (wr := [(hi, .inr (1, oX1 hi_ahead x_hi)), (hi_ahead, .inl (kC, 40, .inr (.inr (.inr (.inr f_hi_ahead)))))]) (w1 := [(q, .inr (0, oX0 s1 t1 u1 v1 xini)), (s1, .inl (kJ, 96, .inr (.inl (fun _ => 0)))), (t1, .inl (kI, 30, .inl (fun _ => 0))), (u1, .inl (kI, 12, .inl (fun _ => 0))), (v1, .inl (kI, 12, .inl (fun _ => 0)))]) (pl := rfm kI kJ rows) hP hD [2] [0, 1] rfl rfl (by decide +kernel) (by decide +kernel) hk1 hFc hP1 hD1
    generalize H1 = H at hP hS ⊢
    have hP : va_P (dC, dI) vwCl (([(hi, .inr (1, oX1 hi_ahead x_hi)), (hi_ahead, .inl (kC, 40, .inr (.inr (.inr (.inr f_hi_ahead))))), (q, .inr (0, oX0 s1 t1 u1 v1 xini)), (s1, .inl (kJ, 96, .inr (.inl (fun _ => 0)))), (t1, .inl (kI, 30, .inl (fun _ => 0))), (u1, .inl (kI, 12, .inl (fun _ => 0))), (v1, .inl (kI, 12, .inl (fun _ => 0)))] : va_W) ++ rfm kI kJ rows) H := hP
    have hD : va_D A (([(hi, .inr (1, oX1 hi_ahead x_hi)), (hi_ahead, .inl (kC, 40, .inr (.inr (.inr (.inr f_hi_ahead))))), (q, .inr (0, oX0 s1 t1 u1 v1 xini)), (s1, .inl (kJ, 96, .inr (.inl (fun _ => 0)))), (t1, .inl (kI, 30, .inl (fun _ => 0))), (u1, .inl (kI, 12, .inl (fun _ => 0))), (v1, .inl (kI, 12, .inl (fun _ => 0)))] : va_W) ++ rfm kI kJ rows) := hD
    refine W.widen (k := 5) (n := 160) (Nat.le_of_ble_eq_true rfl) (Nat.le_of_ble_eq_true rfl) ?_
    refine lv_astore_n (lv' := [(3, .ref q), (2, .int z3), (0, .ref hi), (1, .int p0)]) hx hb dX1_rowOf_28 rfl hl (Nat.le_of_ble_eq_true rfl) rfl (fun ls hl => ?_)
    refine lv_aload_n hx hb dX1_rowOf_29 rfl (lv_at hl 2 rfl) ?_
    refine va_get (D := (dC, dI)) (ci := 1) (v := .ref hi_ahead) (C := RX1) (T := TX1) (N := 3) hx hb hts hin1 hown hK hP 0 rfl rfl 0 (Nat.le_of_ble_eq_true rfl) hw_1 (fun _ h9 => h9) rfl dX1_rowOf_30 ?_
    refine lv_iload_n hx hb dX1_rowOf_33 rfl (lv_at hl 1 rfl) ?_
    refine lv_aload_n hx hb dX1_rowOf_34 rfl (lv_at hl 0 rfl) ?_
    refine va_astq hx hb hK hP hD hS 1 4 2 0 rfl rfl rfl rfl (iv_in b4 (by decide) (by decide)) dX1_rowOf_35 (fun H locs hP hD hS => ?_)
    have hP : va_P (dC, dI) vwCl (([(hi, .inr (1, oX1 hi_ahead x_hi)), (hi_ahead, .inl (kC, 40, .inr (.inr (.inr (.inr (va_up f_hi_ahead z3.toNatClampNeg (some q)))))))] : va_W) ++ rfm kI kJ (((q, s1, t1, u1, v1), xini, (fun _ => 0), (fun _ => 0), (fun _ => 0), (fun _ => 0)) :: rows)) H := hP
    have hD : va_D A (([(hi, .inr (1, oX1 hi_ahead x_hi)), (hi_ahead, .inl (kC, 40, .inr (.inr (.inr (.inr (va_up f_hi_ahead z3.toNatClampNeg (some q)))))))] : va_W) ++ rfm kI kJ (((q, s1, t1, u1, v1), xini, (fun _ => 0), (fun _ => 0), (fun _ => 0), (fun _ => 0)) :: rows)) := hD
    refine lv_aload_n hx hb dX1_rowOf_36 rfl (lv_at hl 0 rfl) ?_
    have hP9 := hP.part (cx := [(hi, .inr (1, oX1 hi_ahead x_hi)), (hi_ahead, .inl (kC, 40, .inr (.inr (.inr (.inr (va_up f_hi_ahead z3.toNatClampNeg (some q)))))))]) [0, 1] rfl
    have hD9 := hD.part (cx := [(hi, .inr (1, oX1 hi_ahead x_hi)), (hi_ahead, .inl (kC, 40, .inr (.inr (.inr (.inr (va_up f_hi_ahead z3.toNatClampNeg (some q)))))))]) [0, 1] (by decide) rfl
    exact W.aret (v := .ref q) hx hb hr (Or.inl ⟨_, rfl⟩) (Or.inr ⟨_, rfl⟩) (fun t ht hW => ⟨⟨(), q, rfl, trivial, va_up f_hi_ahead z3.toNatClampNeg (some q), (((q, s1, t1, u1, v1), xini, (fun _ => 0), (fun _ => 0), (fun _ => 0), (fun _ => 0)) :: rows), rOK_cons ⟨sI_0, fI_59⟩ hOK, rFam_put (r := ((q, s1, t1, u1, v1), xini, (fun _ => 0), (fun _ => 0), (fun _ => 0), (fun _ => 0))) hF_hi, ⟨_, List.mem_cons_self, rfl⟩, fun _ h => rFam_more h, rput_new hfr, ⟨_, va_up_self _ _ _⟩, by rw [ht]; exact hP9, hD9⟩, hS.F ht⟩) hS.2.2 dX1_rowOf_37
def rm_s1_keep : Room := { frames := 3, cells := 5, slots := 160, locals := 81 }
set_option maxHeartbeats 4000000 in
set_option maxRecDepth 100000 in
theorem s1_keep (l : Launch) (dC : Nat → ClassId) (dI : Nat → Nat → Nat) (kB kI kJ kZ kC kS : ClassId) (sz : Nat) (hi : Nat) (hi_ahead : Nat) (x_hi : Nat → Int32) (oc : Nat) (c_seen : Nat) (c_sent : Nat) (c_turn : Nat) (c_counter : Nat) (x_c : Nat → Int32) (f_c_seen : Nat → Int64) (f_c_sent : Nat → Int32) (f_c_turn : Nat → Int32) (f_c_counter : Nat → Int32) (f_hi_ahead : Nat → Option Nat) (rows : List RR) (hx_hi : fI lX1 hX1 x_hi) (hf_c_seen : sI f_c_seen) (hf_c_turn : fI (fun _ => 0) (fun _ => 59) f_c_turn) (hOK : rOK rows) (hF_hi : rFam f_hi_ahead rows) : Met l yX1_keep wsX1_keep rm_s1_keep (va_Pc [.ref hi, .ref oc] (fun U => U.heap.size = sz ∧ va_P (dC, dI) vwCl (([(hi, .inr (1, oX1 hi_ahead x_hi)), (oc, .inr (0, oX0 c_seen c_sent c_turn c_counter x_c)), (c_seen, .inl (kJ, 96, .inr (.inl f_c_seen))), (c_sent, .inl (kI, 30, .inl f_c_sent)), (c_turn, .inl (kI, 12, .inl f_c_turn)), (c_counter, .inl (kI, 12, .inl f_c_counter)), (hi_ahead, .inl (kC, 40, .inr (.inr (.inr (.inr f_hi_ahead)))))] : va_W) ++ rfm kI kJ rows) U.heap ∧ kE dC dI kB kI kJ kZ kC kS U ∧ va_D (fun _ => True) (([(hi, .inr (1, oX1 hi_ahead x_hi)), (oc, .inr (0, oX0 c_seen c_sent c_turn c_counter x_c)), (c_seen, .inl (kJ, 96, .inr (.inl f_c_seen))), (c_sent, .inl (kI, 30, .inl f_c_sent)), (c_turn, .inl (kI, 12, .inl f_c_turn)), (c_counter, .inl (kI, 12, .inl f_c_counter)), (hi_ahead, .inl (kC, 40, .inr (.inr (.inr (.inr f_hi_ahead)))))] : va_W) ++ rfm kI kJ rows))) (va_Qv (fun (_ : Unit) => True) (fun _ t => ∃ (x_hi' : Nat → Int32) (f_hi_ahead' : Nat → Option Nat) (rows' : List RR), fI lX1 hX1 x_hi' ∧ rOK rows' ∧ rFam f_hi_ahead' rows' ∧ (∀ g2, rFam g2 rows → rFam g2 rows') ∧ (∀ k q : Nat, f_hi_ahead' k = some q → f_hi_ahead k = some q ∨ ∀ x ∈ rows, x.1.1 ≠ q) ∧ va_P (dC, dI) vwCl (([(hi, .inr (1, oX1 hi_ahead x_hi')), (oc, .inr (0, oX0 c_seen c_sent c_turn c_counter x_c)), (c_seen, .inl (kJ, 96, .inr (.inl f_c_seen))), (c_sent, .inl (kI, 30, .inl f_c_sent)), (c_turn, .inl (kI, 12, .inl f_c_turn)), (c_counter, .inl (kI, 12, .inl f_c_counter)), (hi_ahead, .inl (kC, 40, .inr (.inr (.inr (.inr f_hi_ahead')))))] : va_W) ++ rfm kI kJ rows') t.heap ∧ va_D (va_A (([(hi, .inr (1, oX1 hi_ahead x_hi)), (oc, .inr (0, oX0 c_seen c_sent c_turn c_counter x_c)), (c_seen, .inl (kJ, 96, .inr (.inl f_c_seen))), (c_sent, .inl (kI, 30, .inl f_c_sent)), (c_turn, .inl (kI, 12, .inl f_c_turn)), (c_counter, .inl (kI, 12, .inl f_c_counter)), (hi_ahead, .inl (kC, 40, .inr (.inr (.inr (.inr f_hi_ahead)))))] : va_W) ++ rfm kI kJ rows) sz) (([(hi, .inr (1, oX1 hi_ahead x_hi')), (oc, .inr (0, oX0 c_seen c_sent c_turn c_counter x_c)), (c_seen, .inl (kJ, 96, .inr (.inl f_c_seen))), (c_sent, .inl (kI, 30, .inl f_c_sent)), (c_turn, .inl (kI, 12, .inl f_c_turn)), (c_counter, .inl (kI, 12, .inl f_c_counter)), (hi_ahead, .inl (kC, 40, .inr (.inr (.inr (.inr f_hi_ahead')))))] : va_W) ++ rfm kI kJ rows')) (va_A (([(hi, .inr (1, oX1 hi_ahead x_hi)), (oc, .inr (0, oX0 c_seen c_sent c_turn c_counter x_c)), (c_seen, .inl (kJ, 96, .inr (.inl f_c_seen))), (c_sent, .inl (kI, 30, .inl f_c_sent)), (c_turn, .inl (kI, 12, .inl f_c_turn)), (c_counter, .inl (kI, 12, .inl f_c_counter)), (hi_ahead, .inl (kC, 40, .inr (.inr (.inr (.inr f_hi_ahead)))))] : va_W) ++ rfm kI kJ rows) sz)) 5 160 (va_A (([(hi, .inr (1, oX1 hi_ahead x_hi)), (oc, .inr (0, oX0 c_seen c_sent c_turn c_counter x_c)), (c_seen, .inl (kJ, 96, .inr (.inl f_c_seen))), (c_sent, .inl (kI, 30, .inl f_c_sent)), (c_turn, .inl (kI, 12, .inl f_c_turn)), (c_counter, .inl (kI, 12, .inl f_c_counter)), (hi_ahead, .inl (kC, 40, .inr (.inr (.inr (.inr f_hi_ahead)))))] : va_W) ++ rfm kI kJ rows) sz) := by
  refine Met.ofW (cc := cX1_keep) (maxL := 2) (ret := none) (by decide) rfl ?_
  intro p e s m args0 below meth c s₁ B hml hv
  obtain ⟨hargs, hsz, hP, hE, hD0⟩ := hv
  have hx := B.exec
  have hb := B.bytes
  have hr := B.returns
  have hts := atoms_spec (ws := wsX1_keep) B.pre
  have hown : s.vm.findClass RX1 = some m.cls := findClass_of_methodNamed B.named
  have hlocks := B.notSynchronized
  have hK := hE.1
  have hin1 : ∀ w ∈ wsX10, w ∈ wsX1_keep := fun _ h9 => List.mem_cons_of_mem _ (List.mem_append_left _ (List.mem_append_right _ h9))
  have hin0 : ∀ w ∈ wsX00, w ∈ wsX1_keep := fun _ h9 => List.mem_cons_of_mem _ (List.mem_append_right _ h9)
  have hw_0 := hts (.fieldLink RX1 21 "PathProber$History" "size" "I") (List.mem_of_getElem? (i := 1) rfl)
  have hw_1 := hts (.fieldLink RX1 17 "PathProber$History" "oldest" "I") (List.mem_of_getElem? (i := 2) rfl)
  subst hsz
  have hD := hD0.self (sz := s.heap.size)
  generalize hAe : va_A (([(hi, .inr (1, oX1 hi_ahead x_hi)), (oc, .inr (0, oX0 c_seen c_sent c_turn c_counter x_c)), (c_seen, .inl (kJ, 96, .inr (.inl f_c_seen))), (c_sent, .inl (kI, 30, .inl f_c_sent)), (c_turn, .inl (kI, 12, .inl f_c_turn)), (c_counter, .inl (kI, 12, .inl f_c_counter)), (hi_ahead, .inl (kC, 40, .inr (.inr (.inr (.inr f_hi_ahead)))))] : va_W) ++ rfm kI kJ rows) s.heap.size = A at hD ⊢
  have hA : ∀ q : Nat, s.heap.size ≤ q → A q := fun q h => by rw [← hAe]; exact Or.inr h
  have hS : va_S A s.heap s.heap [] := va_S.rf
  have hP : va_P (dC, dI) vwCl (([(hi, .inr (1, oX1 hi_ahead x_hi)), (oc, .inr (0, oX0 c_seen c_sent c_turn c_counter x_c)), (c_seen, .inl (kJ, 96, .inr (.inl f_c_seen))), (c_sent, .inl (kI, 30, .inl f_c_sent)), (c_turn, .inl (kI, 12, .inl f_c_turn)), (c_counter, .inl (kI, 12, .inl f_c_counter)), (hi_ahead, .inl (kC, 40, .inr (.inr (.inr (.inr f_hi_ahead)))))] : va_W) ++ rfm kI kJ rows) s.heap := hP
  have hl := lv_entry ([.ref hi, .ref oc]) (n := 2) (Nat.le_of_ble_eq_true rfl)
  have hla : entryFrame m args0 2 = entryFrame m ([.ref hi, .ref oc] : List Value).toArray 2 := by rw [hargs]
  rw [hla, lg_entry_eq]
  generalize (lg_sl ([.ref hi, .ref oc]) ++ List.replicate (2 - (lg_sl ([.ref hi, .ref oc])).length) Slot.unset).toArray = ls at hl ⊢
  have hl : lv_has ls 2 [(0, .ref hi), (1, .ref oc)] := hl
  have hJ28 : ∀ (y28_0 : Nat → Int32) (H : Heap) (locs : List Loc) (ls : Array Slot), fI lX1 hX1 y28_0 → iv 0 39 (y28_0 1) → va_P (dC, dI) vwCl (([(hi, .inr (1, oX1 hi_ahead y28_0)), (oc, .inr (0, oX0 c_seen c_sent c_turn c_counter x_c)), (c_seen, .inl (kJ, 96, .inr (.inl f_c_seen))), (c_sent, .inl (kI, 30, .inl f_c_sent)), (c_turn, .inl (kI, 12, .inl f_c_turn)), (c_counter, .inl (kI, 12, .inl f_c_counter)), (hi_ahead, .inl (kC, 40, .inr (.inr (.inr (.inr f_hi_ahead)))))] : va_W) ++ rfm kI kJ rows) H → va_D A (([(hi, .inr (1, oX1 hi_ahead y28_0)), (oc, .inr (0, oX0 c_seen c_sent c_turn c_counter x_c)), (c_seen, .inl (kJ, 96, .inr (.inl f_c_seen))), (c_sent, .inl (kI, 30, .inl f_c_sent)), (c_turn, .inl (kI, 12, .inl f_c_turn)), (c_counter, .inl (kI, 12, .inl f_c_counter)), (hi_ahead, .inl (kC, 40, .inr (.inr (.inr (.inr f_hi_ahead)))))] : va_W) ++ rfm kI kJ rows) → va_S A s.heap H locs → lv_has ls 2 [(0, .ref hi), (1, .ref oc)] → W p l e (headSpec wsX1_keep rm_s1_keep).room s m args0 below meth c H locs (0) (0) (MQ below (va_Qv (fun (_ : Unit) => True) (fun _ t => ∃ (x_hi' : Nat → Int32) (f_hi_ahead' : Nat → Option Nat) (rows' : List RR), fI lX1 hX1 x_hi' ∧ rOK rows' ∧ rFam f_hi_ahead' rows' ∧ (∀ g2, rFam g2 rows → rFam g2 rows') ∧ (∀ k q : Nat, f_hi_ahead' k = some q → f_hi_ahead k = some q ∨ ∀ x ∈ rows, x.1.1 ≠ q) ∧ va_P (dC, dI) vwCl (([(hi, .inr (1, oX1 hi_ahead x_hi')), (oc, .inr (0, oX0 c_seen c_sent c_turn c_counter x_c)), (c_seen, .inl (kJ, 96, .inr (.inl f_c_seen))), (c_sent, .inl (kI, 30, .inl f_c_sent)), (c_turn, .inl (kI, 12, .inl f_c_turn)), (c_counter, .inl (kI, 12, .inl f_c_counter)), (hi_ahead, .inl (kC, 40, .inr (.inr (.inr (.inr f_hi_ahead')))))] : va_W) ++ rfm kI kJ rows') t.heap ∧ va_D A (([(hi, .inr (1, oX1 hi_ahead x_hi')), (oc, .inr (0, oX0 c_seen c_sent c_turn c_counter x_c)), (c_seen, .inl (kJ, 96, .inr (.inl f_c_seen))), (c_sent, .inl (kI, 30, .inl f_c_sent)), (c_turn, .inl (kI, 12, .inl f_c_turn)), (c_counter, .inl (kI, 12, .inl f_c_counter)), (hi_ahead, .inl (kC, 40, .inr (.inr (.inr (.inr f_hi_ahead')))))] : va_W) ++ rfm kI kJ rows')) A) args0 s 5 160 A) (F0 m 28 ls []) := by
    intro y28_0 H locs ls hI28_0 h28_2 hP hD hS hl
    refine lv_aload_n hx hb dX1_keep_28 rfl (lv_at hl 0 rfl) ?_
    refine lv_aload_n hx hb dX1_keep_29 rfl (lv_at hl 0 rfl) ?_
    refine va_get (D := (dC, dI)) (ci := 1) (v := .int (y28_0 1)) (C := RX1) (T := TX1) (N := 3) hx hb hts hin1 hown hK hP 0 rfl rfl 2 (Nat.le_of_ble_eq_true rfl) hw_0 (fun _ h9 => h9) rfl dX1_keep_30 ?_
    obtain ⟨hPc, hDc, hFc, hJn⟩ := cl_p (wc := [(hi, .inr (1, oX1 hi_ahead y28_0)), (hi_ahead, .inl (kC, 40, .inr (.inr (.inr (.inr f_hi_ahead)))))]) (wr := [(oc, .inr (0, oX0 c_seen c_sent c_turn c_counter x_c)), (c_seen, .inl (kJ, 96, .inr (.inl f_c_seen))), (c_sent, .inl (kI, 30, .inl f_c_sent)), (c_turn, .inl (kI, 12, .inl f_c_turn)), (c_counter, .inl (kI, 12, .inl f_c_counter))]) hP hD hS hA [0, 6] [1, 2, 3, 4, 5] rfl rfl (by decide +kernel)
    refine va_callr (va_runV (As := [.int (y28_0 1)]) (rest := []) ⟨hx, hb, hml, hown, hts⟩ (s1_rowOf l dC dI kB kI kJ kZ kC kS H.size hi hi_ahead y28_0 f_hi_ahead (y28_0 1) rows (hI28_0) (h28_2) (hOK) (hF_hi)) (cwV 1 hts gX1_keep_X1_rowOf rfl rfl rfl (by decide +kernel) ⟨Nat.le_of_ble_eq_true rfl, Nat.le_of_ble_eq_true rfl⟩) ⟨fun a U g mk q => by obtain ⟨q0, q1, qP, qE, qD⟩ := q; exact ⟨q0, q1, qP, kE_call qE, qD⟩, va_recv hK hP (ci := 1) (q0 := 0) rfl rfl, fun U hU hW => ⟨rfl, by rw [hU], by rw [hU]; exact hPc, kE_warm hW hE, hDc.weaken (fun _ _ _ _ => trivial)⟩⟩ rfl rfl hl.1 rfl (lv_room (Nat.le_of_ble_eq_true rfl)) dX1_keep_33 ⟨Nat.le_of_ble_eq_true rfl, Nat.le_of_ble_eq_true rfl⟩) hS (fun q _ h => hFc q h) hFc (fun u r1 t H locs ht hvm w2 hB hz1 hk1 hS => ?_)
    obtain ⟨f3, rows4, hp5, hp6, hp7, hp8, hp9, hp10, hP1, hD1⟩ := hB
    try dsimp only at w2
    obtain ⟨hPa, hDa⟩ := hJn (rx := [(hi, .inr (1, oX1 hi_ahead y28_0)), (hi_ahead, .inl (kC, 40, .inr (.inr (.inr (.inr f3)))))]) (pl1 := rfm kI kJ rows4) hk1 ht hP1 hD1
    clear hP hD hPc hDc hFc hJn hP1 hD1 hk1
    have hP : va_P (dC, dI) vwCl (([(oc, .inr (0, oX0 c_seen c_sent c_turn c_counter x_c)), (c_seen, .inl (kJ, 96, .inr (.inl f_c_seen))), (c_sent, .inl (kI, 30, .inl f_c_sent)), (c_turn, .inl (kI, 12, .inl f_c_turn)), (c_counter, .inl (kI, 12, .inl f_c_counter)), (hi, .inr (1, oX1 hi_ahead y28_0)), (hi_ahead, .inl (kC, 40, .inr (.inr (.inr (.inr f3)))))] : va_W) ++ rfm kI kJ rows4) H := hPa
    have hD : va_D A (([(oc, .inr (0, oX0 c_seen c_sent c_turn c_counter x_c)), (c_seen, .inl (kJ, 96, .inr (.inl f_c_seen))), (c_sent, .inl (kI, 30, .inl f_c_sent)), (c_turn, .inl (kI, 12, .inl f_c_turn)), (c_counter, .inl (kI, 12, .inl f_c_counter)), (hi, .inr (1, oX1 hi_ahead y28_0)), (hi_ahead, .inl (kC, 40, .inr (.inr (.inr (.inr f3)))))] : va_W) ++ rfm kI kJ rows4) := hDa
    clear hPa hDa
    refine W.widen (k := 5) (n := 160) (Nat.le_of_ble_eq_true rfl) (Nat.le_of_ble_eq_true rfl) ?_
    refine lv_aload_n hx hb dX1_keep_36 rfl (lv_at hl 1 rfl) ?_
    obtain ⟨⟨⟨qa9, sa9, ta9, ua9, va9⟩, xa9, fsa9, fta9, fua9, fva9⟩, l9, he9, hpm9, ⟨hsia9, hfia9⟩, hok9⟩ := rtake hp5 hp7
    have he9 : r1 = qa9 := he9.symm
    subst he9
    have hP := hP.perm (rperm hpm9)
    have hD := hD.perm (rperm hpm9)
    have hP : va_P (dC, dI) vwCl (([(oc, .inr (0, oX0 c_seen c_sent c_turn c_counter x_c)), (c_seen, .inl (kJ, 96, .inr (.inl f_c_seen))), (c_sent, .inl (kI, 30, .inl f_c_sent)), (c_turn, .inl (kI, 12, .inl f_c_turn)), (c_counter, .inl (kI, 12, .inl f_c_counter)), (hi, .inr (1, oX1 hi_ahead y28_0)), (hi_ahead, .inl (kC, 40, .inr (.inr (.inr (.inr f3))))), (r1, .inr (0, oX0 sa9 ta9 ua9 va9 xa9)), (sa9, .inl (kJ, 96, .inr (.inl fsa9))), (ta9, .inl (kI, 30, .inl fta9)), (ua9, .inl (kI, 12, .inl fua9)), (va9, .inl (kI, 12, .inl fva9))] : va_W) ++ rfm kI kJ l9) H := hP
    have hD : va_D A (([(oc, .inr (0, oX0 c_seen c_sent c_turn c_counter x_c)), (c_seen, .inl (kJ, 96, .inr (.inl f_c_seen))), (c_sent, .inl (kI, 30, .inl f_c_sent)), (c_turn, .inl (kI, 12, .inl f_c_turn)), (c_counter, .inl (kI, 12, .inl f_c_counter)), (hi, .inr (1, oX1 hi_ahead y28_0)), (hi_ahead, .inl (kC, 40, .inr (.inr (.inr (.inr f3))))), (r1, .inr (0, oX0 sa9 ta9 ua9 va9 xa9)), (sa9, .inl (kJ, 96, .inr (.inl fsa9))), (ta9, .inl (kI, 30, .inl fta9)), (ua9, .inl (kI, 12, .inl fua9)), (va9, .inl (kI, 12, .inl fva9))] : va_W) ++ rfm kI kJ l9) := hD
    obtain ⟨hPc, hDc, hFc, hJn⟩ := cl_q (wc := [(r1, .inr (0, oX0 sa9 ta9 ua9 va9 xa9)), (sa9, .inl (kJ, 96, .inr (.inl fsa9))), (ta9, .inl (kI, 30, .inl fta9)), (ua9, .inl (kI, 12, .inl fua9)), (va9, .inl (kI, 12, .inl fva9)), (oc, .inr (0, oX0 c_seen c_sent c_turn c_counter x_c)), (c_seen, .inl (kJ, 96, .inr (.inl f_c_seen))), (c_sent, .inl (kI, 30, .inl f_c_sent)), (c_turn, .inl (kI, 12, .inl f_c_turn)), (c_counter, .inl (kI, 12, .inl f_c_counter))]) (wr := [(hi, .inr (1, oX1 hi_ahead y28_0)), (hi_ahead, .inl (kC, 40, .inr (.inr (.inr (.inr f3)))))]) hP hD hS hA [7, 8, 9, 10, 11, 0, 1, 2, 3, 4] [5, 6] rfl rfl (by decide +kernel)
    refine va_callv (va_runV (As := [.ref oc]) (rest := []) ⟨hx, hb, hml, hown, hts⟩ (s0_copyFrom l dC dI kB kI kJ kZ kC kS H.size r1 sa9 ta9 ua9 va9 xa9 fsa9 fta9 fua9 fva9 oc c_seen c_sent c_turn c_counter x_c f_c_seen f_c_sent f_c_turn f_c_counter (hsia9) (hfia9) (hf_c_seen) (hf_c_turn)) (cwV 1 hts gX1_keep_X0_copyFrom rfl rfl rfl (by decide +kernel) ⟨Nat.le_of_ble_eq_true rfl, Nat.le_of_ble_eq_true rfl⟩) ⟨fun a U g mk q => by obtain ⟨q0, q1, qP, qE, qD⟩ := q; exact ⟨q0, q1, qP, kE_call qE, qD⟩, va_recv hK hP (ci := 0) (q0 := 7) rfl rfl, fun U hU hW => ⟨rfl, by rw [hU], by rw [hU]; exact hPc, kE_warm hW hE, hDc.weaken (fun _ _ _ _ => trivial)⟩⟩ rfl rfl hl.1 rfl (lv_room (Nat.le_of_ble_eq_true rfl)) dX1_keep_37 ⟨Nat.le_of_ble_eq_true rfl, Nat.le_of_ble_eq_true rfl⟩) hS (fun q _ h => hFc q h) hFc (fun u t H locs ht hvm w12 hB hz1 hk1 hS => ?_)
    obtain ⟨y13, f14, f15, f16, f17, hq18, hq19, hP1, hD1⟩ := hB
    try dsimp only at w12
    obtain ⟨hPa, hDa⟩ := hJn (w1 := [(r1, .inr (0, oX0 sa9 ta9 ua9 va9 y13)), (sa9, .inl (kJ, 96, .inr (.inl f14))), (ta9, .inl (kI, 30, .inl f15)), (ua9, .inl (kI, 12, .inl f16)), (va9, .inl (kI, 12, .inl f17)), (oc, .inr (0, oX0 c_seen c_sent c_turn c_counter x_c)), (c_seen, .inl (kJ, 96, .inr (.inl f_c_seen))), (c_sent, .inl (kI, 30, .inl f_c_sent)), (c_turn, .inl (kI, 12, .inl f_c_turn)), (c_counter, .inl (kI, 12, .inl f_c_counter))]) hk1 ht hP1 hD1
    clear hP hD hPc hDc hFc hJn hP1 hD1 hk1
    have hP : va_P (dC, dI) vwCl (([(hi, .inr (1, oX1 hi_ahead y28_0)), (hi_ahead, .inl (kC, 40, .inr (.inr (.inr (.inr f3))))), (r1, .inr (0, oX0 sa9 ta9 ua9 va9 y13)), (sa9, .inl (kJ, 96, .inr (.inl f14))), (ta9, .inl (kI, 30, .inl f15)), (ua9, .inl (kI, 12, .inl f16)), (va9, .inl (kI, 12, .inl f17)), (oc, .inr (0, oX0 c_seen c_sent c_turn c_counter x_c)), (c_seen, .inl (kJ, 96, .inr (.inl f_c_seen))), (c_sent, .inl (kI, 30, .inl f_c_sent)), (c_turn, .inl (kI, 12, .inl f_c_turn)), (c_counter, .inl (kI, 12, .inl f_c_counter))] : va_W) ++ rfm kI kJ l9) H := hPa
    have hD : va_D A (([(hi, .inr (1, oX1 hi_ahead y28_0)), (hi_ahead, .inl (kC, 40, .inr (.inr (.inr (.inr f3))))), (r1, .inr (0, oX0 sa9 ta9 ua9 va9 y13)), (sa9, .inl (kJ, 96, .inr (.inl f14))), (ta9, .inl (kI, 30, .inl f15)), (ua9, .inl (kI, 12, .inl f16)), (va9, .inl (kI, 12, .inl f17)), (oc, .inr (0, oX0 c_seen c_sent c_turn c_counter x_c)), (c_seen, .inl (kJ, 96, .inr (.inl f_c_seen))), (c_sent, .inl (kI, 30, .inl f_c_sent)), (c_turn, .inl (kI, 12, .inl f_c_turn)), (c_counter, .inl (kI, 12, .inl f_c_counter))] : va_W) ++ rfm kI kJ l9) := hDa
    clear hPa hDa
    refine W.widen (k := 5) (n := 160) (Nat.le_of_ble_eq_true rfl) (Nat.le_of_ble_eq_true rfl) ?_
    refine lv_aload_n hx hb dX1_keep_40 rfl (lv_at hl 0 rfl) ?_
    refine lv_dup hx hb dX1_keep_41 rfl ?_
    refine va_get (D := (dC, dI)) (ci := 1) (v := .int (y28_0 1)) (C := RX1) (T := TX1) (N := 3) hx hb hts hin1 hown hK hP 0 rfl rfl 2 (Nat.le_of_ble_eq_true rfl) hw_0 (fun _ h9 => h9) rfl dX1_keep_42 ?_
    refine lv_iconst (v := 1) hx hb dX1_keep_45 ic_1 ?_
    refine lv_iadd hx hb dX1_keep_46 ?_
    refine iv_top (a := 1) (b := 40) (iv_add h28_2 ivk_1 (by decide) (by decide) (by decide) (by decide)) (fun z20 b21 => ?_)
    refine va_put (D := (dC, dI)) (ci := 1) (v := .int z20) (ty := .int) (C := RX1) (T := TX1) (N := 3) hx hb hts hin1 tyX1 tyX1_ok nmX1 hown hK hP hD hS 0 rfl rfl 2 (by decide) hw_0 (fun _ h9 => h9) rfl (by decide +kernel) rfl rfl (Nat.le_of_ble_eq_true rfl) dX1_keep_47 (fun H locs hPa hDa hS => ?_)
    clear hP hD
    have hP : va_P (dC, dI) vwCl (([(hi, .inr (1, oX1 hi_ahead (upd y28_0 1 z20))), (hi_ahead, .inl (kC, 40, .inr (.inr (.inr (.inr f3))))), (r1, .inr (0, oX0 sa9 ta9 ua9 va9 y13)), (sa9, .inl (kJ, 96, .inr (.inl f14))), (ta9, .inl (kI, 30, .inl f15)), (ua9, .inl (kI, 12, .inl f16)), (va9, .inl (kI, 12, .inl f17)), (oc, .inr (0, oX0 c_seen c_sent c_turn c_counter x_c)), (c_seen, .inl (kJ, 96, .inr (.inl f_c_seen))), (c_sent, .inl (kI, 30, .inl f_c_sent)), (c_turn, .inl (kI, 12, .inl f_c_turn)), (c_counter, .inl (kI, 12, .inl f_c_counter))] : va_W) ++ rfm kI kJ l9) H := hPa
    have hD : va_D A (([(hi, .inr (1, oX1 hi_ahead (upd y28_0 1 z20))), (hi_ahead, .inl (kC, 40, .inr (.inr (.inr (.inr f3))))), (r1, .inr (0, oX0 sa9 ta9 ua9 va9 y13)), (sa9, .inl (kJ, 96, .inr (.inl f14))), (ta9, .inl (kI, 30, .inl f15)), (ua9, .inl (kI, 12, .inl f16)), (va9, .inl (kI, 12, .inl f17)), (oc, .inr (0, oX0 c_seen c_sent c_turn c_counter x_c)), (c_seen, .inl (kJ, 96, .inr (.inl f_c_seen))), (c_sent, .inl (kI, 30, .inl f_c_sent)), (c_turn, .inl (kI, 12, .inl f_c_turn)), (c_counter, .inl (kI, 12, .inl f_c_counter))] : va_W) ++ rfm kI kJ l9) := hDa
    clear hPa hDa
    have hPD9 := cl_sp (wc := [(hi, .inr (1, oX1 hi_ahead (upd y28_0 1 z20))), (oc, .inr (0, oX0 c_seen c_sent c_turn c_counter x_c)), (c_seen, .inl (kJ, 96, .inr (.inl f_c_seen))), (c_sent, .inl (kI, 30, .inl f_c_sent)), (c_turn, .inl (kI, 12, .inl f_c_turn)), (c_counter, .inl (kI, 12, .inl f_c_counter)), (hi_ahead, .inl (kC, 40, .inr (.inr (.inr (.inr f3))))), (r1, .inr (0, oX0 sa9 ta9 ua9 va9 y13)), (sa9, .inl (kJ, 96, .inr (.inl f14))), (ta9, .inl (kI, 30, .inl f15)), (ua9, .inl (kI, 12, .inl f16)), (va9, .inl (kI, 12, .inl f17))]) hP hD [0, 7, 8, 9, 10, 11, 1, 2, 3, 4, 5, 6] rfl (by decide +kernel)
    have hP9 := hPD9.1
    have hD9 := hPD9.2
    have hP9 : va_P (dC, dI) vwCl (([(hi, .inr (1, oX1 hi_ahead (upd y28_0 1 z20))), (oc, .inr (0, oX0 c_seen c_sent c_turn c_counter x_c)), (c_seen, .inl (kJ, 96, .inr (.inl f_c_seen))), (c_sent, .inl (kI, 30, .inl f_c_sent)), (c_turn, .inl (kI, 12, .inl f_c_turn)), (c_counter, .inl (kI, 12, .inl f_c_counter)), (hi_ahead, .inl (kC, 40, .inr (.inr (.inr (.inr f3)))))] : va_W) ++ rfm kI kJ ((((r1, sa9, ta9, ua9, va9), y13, f14, f15, f16, f17) : RR) :: l9)) H := hP9
    have hD9 : va_D A (([(hi, .inr (1, oX1 hi_ahead (upd y28_0 1 z20))), (oc, .inr (0, oX0 c_seen c_sent c_turn c_counter x_c)), (c_seen, .inl (kJ, 96, .inr (.inl f_c_seen))), (c_sent, .inl (kI, 30, .inl f_c_sent)), (c_turn, .inl (kI, 12, .inl f_c_turn)), (c_counter, .inl (kI, 12, .inl f_c_counter)), (hi_ahead, .inl (kC, 40, .inr (.inr (.inr (.inr f3)))))] : va_W) ++ rfm kI kJ ((((r1, sa9, ta9, ua9, va9), y13, f14, f15, f16, f17) : RR) :: l9)) := hD9
    exact W.vret hx hb hr (fun t ht hW => ⟨⟨(), rfl, trivial, upd y28_0 1 z20, f3, ((((r1, sa9, ta9, ua9, va9), y13, f14, f15, f16, f17) : RR) :: l9), (fI_u hI28_0 (k := 1) ((iv_w b21 (by decide) (by decide)))), (rOK_cons ⟨hq18, hq19⟩ hok9), rFam_back hp6 hpm9 rfl, fun g2 hg2 => rFam_back (hp8 g2 hg2) hpm9 rfl, hp9, by rw [ht]; exact hP9, hD9⟩, hS.F ht⟩) hS.2.2 dX1_keep_50
  refine lv_aload_n hx hb dX1_keep_0 rfl (lv_at hl 0 rfl) ?_
  refine va_get (D := (dC, dI)) (ci := 1) (v := .int (x_hi 1)) (C := RX1) (T := TX1) (N := 3) hx hb hts hin1 hown hK hP 0 rfl rfl 2 (Nat.le_of_ble_eq_true rfl) hw_0 (fun _ h9 => h9) rfl dX1_keep_1 ?_
  refine lv_bipush (v := 40) hx hb dX1_keep_4 bp_40 ?_
  refine lv_icmp_lt (tgt := 28) hx hb dX1_keep_6 rfl (fun c22 => ?_) (fun c22 => ?_)
  · have b23 : iv 0 39 (x_hi 1) := iv_ltL c22 (hx_hi 1 : iv 0 40 (x_hi 1)) ivk_40 (by decide) (by decide)
    exact hJ28 x_hi _ _ _ (hx_hi) (b23) (hP) (hD) hS (lv_sub hl [0, 1] rfl)
  · have b24 : iv 40 40 (x_hi 1) := iv_leR (Int32.not_lt.mp c22) ivk_40 (hx_hi 1 : iv 0 40 (x_hi 1)) (by decide) (by decide)
    refine lv_aload_n hx hb dX1_keep_9 rfl (lv_at hl 0 rfl) ?_
    refine lv_aload_n hx hb dX1_keep_10 rfl (lv_at hl 0 rfl) ?_
    refine va_get (D := (dC, dI)) (ci := 1) (v := .int (x_hi 0)) (C := RX1) (T := TX1) (N := 3) hx hb hts hin1 hown hK hP 0 rfl rfl 1 (Nat.le_of_ble_eq_true rfl) hw_1 (fun _ h9 => h9) rfl dX1_keep_11 ?_
    refine lv_iconst (v := 1) hx hb dX1_keep_14 ic_1 ?_
    refine lv_iadd hx hb dX1_keep_15 ?_
    refine iv_top (a := 1) (b := 40) (iv_add (hx_hi 0 : iv 0 39 (x_hi 0)) ivk_1 (by decide) (by decide) (by decide) (by decide)) (fun z25 b26 => ?_)
    refine lv_bipush (v := 40) hx hb dX1_keep_16 bp_40 ?_
    refine lv_irem hx hb dX1_keep_18 (by decide) ?_
    refine iv_top (a := 0) (b := 39) (iv_rem b26 ivk_40 (by decide) (by decide) (by decide) (by decide)) (fun z27 b28 => ?_)
    refine va_put (D := (dC, dI)) (ci := 1) (v := .int z27) (ty := .int) (C := RX1) (T := TX1) (N := 3) hx hb hts hin1 tyX1 tyX1_ok nmX1 hown hK hP hD hS 0 rfl rfl 1 (by decide) hw_1 (fun _ h9 => h9) rfl (by decide +kernel) rfl rfl (Nat.le_of_ble_eq_true rfl) dX1_keep_19 (fun H locs hPa hDa hS => ?_)
    clear hP hD
    have hP : va_P (dC, dI) vwCl (([(hi, .inr (1, oX1 hi_ahead (upd x_hi 0 z27))), (oc, .inr (0, oX0 c_seen c_sent c_turn c_counter x_c)), (c_seen, .inl (kJ, 96, .inr (.inl f_c_seen))), (c_sent, .inl (kI, 30, .inl f_c_sent)), (c_turn, .inl (kI, 12, .inl f_c_turn)), (c_counter, .inl (kI, 12, .inl f_c_counter)), (hi_ahead, .inl (kC, 40, .inr (.inr (.inr (.inr f_hi_ahead)))))] : va_W) ++ rfm kI kJ rows) H := hPa
    have hD : va_D A (([(hi, .inr (1, oX1 hi_ahead (upd x_hi 0 z27))), (oc, .inr (0, oX0 c_seen c_sent c_turn c_counter x_c)), (c_seen, .inl (kJ, 96, .inr (.inl f_c_seen))), (c_sent, .inl (kI, 30, .inl f_c_sent)), (c_turn, .inl (kI, 12, .inl f_c_turn)), (c_counter, .inl (kI, 12, .inl f_c_counter)), (hi_ahead, .inl (kC, 40, .inr (.inr (.inr (.inr f_hi_ahead)))))] : va_W) ++ rfm kI kJ rows) := hDa
    clear hPa hDa
    refine lv_aload_n hx hb dX1_keep_22 rfl (lv_at hl 0 rfl) ?_
    refine lv_bipush (v := 39) hx hb dX1_keep_23 bp_39 ?_
    refine va_put (D := (dC, dI)) (ci := 1) (v := .int 39) (ty := .int) (C := RX1) (T := TX1) (N := 3) hx hb hts hin1 tyX1 tyX1_ok nmX1 hown hK hP hD hS 0 rfl rfl 2 (by decide) hw_0 (fun _ h9 => h9) rfl (by decide +kernel) rfl rfl (Nat.le_of_ble_eq_true rfl) dX1_keep_25 (fun H locs hPa hDa hS => ?_)
    clear hP hD
    have hP : va_P (dC, dI) vwCl (([(hi, .inr (1, oX1 hi_ahead (upd (upd x_hi 0 z27) 1 39))), (oc, .inr (0, oX0 c_seen c_sent c_turn c_counter x_c)), (c_seen, .inl (kJ, 96, .inr (.inl f_c_seen))), (c_sent, .inl (kI, 30, .inl f_c_sent)), (c_turn, .inl (kI, 12, .inl f_c_turn)), (c_counter, .inl (kI, 12, .inl f_c_counter)), (hi_ahead, .inl (kC, 40, .inr (.inr (.inr (.inr f_hi_ahead)))))] : va_W) ++ rfm kI kJ rows) H := hPa
    have hD : va_D A (([(hi, .inr (1, oX1 hi_ahead (upd (upd x_hi 0 z27) 1 39))), (oc, .inr (0, oX0 c_seen c_sent c_turn c_counter x_c)), (c_seen, .inl (kJ, 96, .inr (.inl f_c_seen))), (c_sent, .inl (kI, 30, .inl f_c_sent)), (c_turn, .inl (kI, 12, .inl f_c_turn)), (c_counter, .inl (kI, 12, .inl f_c_counter)), (hi_ahead, .inl (kC, 40, .inr (.inr (.inr (.inr f_hi_ahead)))))] : va_W) ++ rfm kI kJ rows) := hDa
    clear hPa hDa
    exact hJ28 (upd (upd x_hi 0 z27) 1 39) _ _ _ ((fI_u (fI_u hx_hi (k := 0) (b28)) (k := 1) ((iv_w ivk_39 (by decide) (by decide))))) ((iv_w ivk_39 (by decide) (by decide))) (hP) (hD) hS (lv_sub hl [0, 1] rfl)
