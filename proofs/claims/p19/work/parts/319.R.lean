def rm_s11_readGoal : Room := { frames := 3, cells := 0, slots := 0, locals := 64 }
set_option maxHeartbeats 4000000 in
set_option maxRecDepth 100000 in
theorem s11_readGoal (l : Launch) (dC : Nat → ClassId) (dI : Nat → Nat → Nat) (kB kI kJ kZ kC kS : ClassId) (sz : Nat) (m0 : Nat) (ra : Nat → Nat) (x0 : Nat → Int32) (q_told : Nat → Int32) (q_from : Nat → Int32) (q_to : Nat → Int32) (q_goal : Nat → Int32) (q_tape : Nat → Int32) (tT : Nat → Int32) (nN : Int32) (sS : StT) (hX : fI lX11 hX11 x0) (hq_told : fI lTold hTold q_told) (hq_goal : fI (fun _ => 0) (fun _ => 11) q_goal) (hq_tape : fI (fun _ => 0) (fun _ => 255) q_tape) (hLT : ∀ j : Nat, (j : Int) < (q_told 1).toInt → (q_from j).toInt < (q_to j).toInt) (hLD : ∀ j : Nat, (j : Int) < (q_told 5).toInt → (q_from (20 + j)).toInt < (q_to (20 + j)).toInt) (hRr : RRd tT nN x0 sS) (hTQ : tT = q_tape) : Met l yX11_readGoal wsX11_readGoal rm_s11_readGoal (va_Pc [.ref m0] (fun U => U.heap.size = sz ∧ va_P (dC, dI) vwCl [(m0, .inr (11, oX11 ra x0)), (ra 2, .inl (kI, 8, .inl q_told)), (ra 10, .inl (kI, 6, .inl q_goal)), (ra 13, .inl (kI, 700, .inl q_tape))] U.heap ∧ kE dC dI kB kI kJ kZ kC kS U ∧ va_D (fun _ => True) [(m0, .inr (11, oX11 ra x0)), (ra 2, .inl (kI, 8, .inl q_told)), (ra 10, .inl (kI, 6, .inl q_goal)), (ra 13, .inl (kI, 700, .inl q_tape))])) (va_Qv (fun (_ : Unit) => True) (fun _ t => ∃ (x0' : Nat → Int32) (q_told' : Nat → Int32) (q_goal' : Nat → Int32), fI lX11 hX11 x0' ∧ fI lTold hTold q_told' ∧ fI (fun _ => 0) (fun _ => 11) q_goal' ∧ ((x0 2).toInt ≤ (x0' 2).toInt) ∧ (x0' 3 = x0 3) ∧ (∀ j : Nat, (j : Int) < (q_told' 1).toInt → (q_from j).toInt < (q_to j).toInt) ∧ (∀ j : Nat, (j : Int) < (q_told' 5).toInt → (q_from (20 + j)).toInt < (q_to (20 + j)).toInt) ∧ (RRd tT nN x0' (golS tT nN sS (q_told 4) (q_told 6) (shT 3 q_goal))) ∧ (x0' 8 = 0 → q_told' = upd q_told 6 (q_told 6 + 1) ∧ q_goal' = upd q_goal ((3 + (q_told 6)).toNatClampNeg) (lnkA tT nN sS)) ∧ (LowT q_told q_from q_to q_told' q_from q_to) ∧ (Lw3 q_goal q_goal') ∧ (x0' 1 = x0 1) ∧ (x0' 10 = x0 10) ∧ (x0' 11 = x0 11) ∧ (x0' 14 = x0 14) ∧ va_P (dC, dI) vwCl [(m0, .inr (11, oX11 ra x0')), (ra 2, .inl (kI, 8, .inl q_told')), (ra 10, .inl (kI, 6, .inl q_goal')), (ra 13, .inl (kI, 700, .inl q_tape))] t.heap ∧ va_D (va_A [(m0, .inr (11, oX11 ra x0)), (ra 2, .inl (kI, 8, .inl q_told)), (ra 10, .inl (kI, 6, .inl q_goal)), (ra 13, .inl (kI, 700, .inl q_tape))] sz) [(m0, .inr (11, oX11 ra x0')), (ra 2, .inl (kI, 8, .inl q_told')), (ra 10, .inl (kI, 6, .inl q_goal')), (ra 13, .inl (kI, 700, .inl q_tape))]) (va_A [(m0, .inr (11, oX11 ra x0)), (ra 2, .inl (kI, 8, .inl q_told)), (ra 10, .inl (kI, 6, .inl q_goal)), (ra 13, .inl (kI, 700, .inl q_tape))] sz)) 0 0 (va_A [(m0, .inr (11, oX11 ra x0)), (ra 2, .inl (kI, 8, .inl q_told)), (ra 10, .inl (kI, 6, .inl q_goal)), (ra 13, .inl (kI, 700, .inl q_tape))] sz) := by
  refine Met.ofW (cc := cX11_readGoal) (maxL := 3) (ret := none) (by decide) rfl ?_
  intro p e s m args0 below meth c s₁ B hml hv
  obtain ⟨hargs, hsz, hP, hE, hD0⟩ := hv
  have hx := B.exec
  have hb := B.bytes
  have hr := B.returns
  have hts := atoms_spec (ws := wsX11_readGoal) B.pre
  have hown : s.vm.findClass RX11 = some m.cls := findClass_of_methodNamed B.named
  have hlocks := B.notSynchronized
  have hK := hE.1
  have hin11 : ∀ w ∈ wsX110, w ∈ wsX11_readGoal := fun _ h9 => List.mem_cons_of_mem _ (List.mem_append_right _ h9)
  have hw_0 := hts (.fieldLink RX11 34 "PathProberModel" "told" "[I") (List.mem_of_getElem? (i := 1) rfl)
  have hw_1 := hts (.fieldLink RX11 184 "PathProberModel" "bad" "I") (List.mem_of_getElem? (i := 2) rfl)
  have hw_2 := hts (.fieldLink RX11 58 "PathProberModel" "goal" "[I") (List.mem_of_getElem? (i := 3) rfl)
  subst hsz
  have hD := hD0.self (sz := s.heap.size)
  generalize hAe : va_A [(m0, .inr (11, oX11 ra x0)), (ra 2, .inl (kI, 8, .inl q_told)), (ra 10, .inl (kI, 6, .inl q_goal)), (ra 13, .inl (kI, 700, .inl q_tape))] s.heap.size = A at hD ⊢
  have hA : ∀ q : Nat, s.heap.size ≤ q → A q := fun q h => by rw [← hAe]; exact Or.inr h
  have hS : va_S A s.heap s.heap [] := va_S.rf
  have hP : va_P (dC, dI) vwCl [(m0, .inr (11, oX11 ra x0)), (ra 2, .inl (kI, 8, .inl q_told)), (ra 10, .inl (kI, 6, .inl q_goal)), (ra 13, .inl (kI, 700, .inl q_tape))] s.heap := hP
  have hl := lv_entry ([.ref m0]) (n := 3) (Nat.le_of_ble_eq_true rfl)
  have hla : entryFrame m args0 3 = entryFrame m ([.ref m0] : List Value).toArray 3 := by rw [hargs]
  rw [hla, lg_entry_eq]
  generalize (lg_sl ([.ref m0]) ++ List.replicate (3 - (lg_sl ([.ref m0])).length) Slot.unset).toArray = ls at hl ⊢
  have hl : lv_has ls 3 [(0, .ref m0)] := hl
  have hJ35 : ∀ (n : Nat) (y35_0 : Nat → Int32) (v35_loc1 : Int32) (v35_loc2 : Int32) (H : Heap) (locs : List Loc) (ls : Array Slot), (2 - v35_loc2.toInt).toNat < n → fI lX11 hX11 y35_0 → iv 0 11 v35_loc1 → iv 0 2 v35_loc2 → iv 0 2 (q_told 6) → iv 0 0 (x0 8) → (RRd tT nN y35_0 (glK (shT 3 q_goal) v35_loc2 v35_loc1 (lnk1 tT nN sS (q_told 4)))) → (v35_loc2.toInt ≤ (q_told 6).toInt) → (okT (lnk1 tT nN sS (q_told 4)) → v35_loc1 = lnkA tT nN sS) → (¬ q_told 6 = 3) → ((x0 2).toInt ≤ (y35_0 2).toInt) → (y35_0 3 = x0 3) → (y35_0 1 = x0 1) → (y35_0 10 = x0 10) → (y35_0 11 = x0 11) → (y35_0 14 = x0 14) → va_P (dC, dI) vwCl [(m0, .inr (11, oX11 ra y35_0)), (ra 2, .inl (kI, 8, .inl q_told)), (ra 10, .inl (kI, 6, .inl q_goal)), (ra 13, .inl (kI, 700, .inl q_tape))] H → va_D A [(m0, .inr (11, oX11 ra y35_0)), (ra 2, .inl (kI, 8, .inl q_told)), (ra 10, .inl (kI, 6, .inl q_goal)), (ra 13, .inl (kI, 700, .inl q_tape))] → va_S A s.heap H locs → lv_has ls 3 [(0, .ref m0), (1, .int v35_loc1), (2, .int v35_loc2)] → W p l e (headSpec wsX11_readGoal rm_s11_readGoal).room s m args0 below meth c H locs (0) (0) (MQ below (va_Qv (fun (_ : Unit) => True) (fun _ t => ∃ (x0' : Nat → Int32) (q_told' : Nat → Int32) (q_goal' : Nat → Int32), fI lX11 hX11 x0' ∧ fI lTold hTold q_told' ∧ fI (fun _ => 0) (fun _ => 11) q_goal' ∧ ((x0 2).toInt ≤ (x0' 2).toInt) ∧ (x0' 3 = x0 3) ∧ (∀ j : Nat, (j : Int) < (q_told' 1).toInt → (q_from j).toInt < (q_to j).toInt) ∧ (∀ j : Nat, (j : Int) < (q_told' 5).toInt → (q_from (20 + j)).toInt < (q_to (20 + j)).toInt) ∧ (RRd tT nN x0' (golS tT nN sS (q_told 4) (q_told 6) (shT 3 q_goal))) ∧ (x0' 8 = 0 → q_told' = upd q_told 6 (q_told 6 + 1) ∧ q_goal' = upd q_goal ((3 + (q_told 6)).toNatClampNeg) (lnkA tT nN sS)) ∧ (LowT q_told q_from q_to q_told' q_from q_to) ∧ (Lw3 q_goal q_goal') ∧ (x0' 1 = x0 1) ∧ (x0' 10 = x0 10) ∧ (x0' 11 = x0 11) ∧ (x0' 14 = x0 14) ∧ va_P (dC, dI) vwCl [(m0, .inr (11, oX11 ra x0')), (ra 2, .inl (kI, 8, .inl q_told')), (ra 10, .inl (kI, 6, .inl q_goal')), (ra 13, .inl (kI, 700, .inl q_tape))] t.heap ∧ va_D A [(m0, .inr (11, oX11 ra x0')), (ra 2, .inl (kI, 8, .inl q_told')), (ra 10, .inl (kI, 6, .inl q_goal')), (ra 13, .inl (kI, 700, .inl q_tape))]) A) args0 s 0 0 A) (F0 m 35 ls []) := by
    intro n
    induction n with
    | zero => intro y35_0 v35_loc1 v35_loc2 H locs ls hm35; exact absurd hm35 (Nat.not_lt_zero _)
    | succ n ih35 =>
      intro y35_0 v35_loc1 v35_loc2 H locs ls hm35 hI35_0 h35_2 h35_3 h35_4 h35_5 hgo_35 hgi_35 hgv_35 hg3_35 hat_35 hts_35 htp_35 hfp_35 hor_35 hirl_35 hP hD hS hl
      refine lv_iload_n hx hb dX11_readGoal_35 rfl (lv_at hl 2 rfl) ?_
      refine lv_aload_n hx hb dX11_readGoal_36 rfl (lv_at hl 0 rfl) ?_
      refine va_get (D := (dC, dI)) (ci := 11) (v := .ref (ra 2)) (C := RX11) (T := TX11) (N := 61) hx hb hts hin11 hown hK hP 0 rfl rfl 3 (Nat.le_of_ble_eq_true rfl) hw_0 (fun _ h9 => h9) rfl dX11_readGoal_37 ?_
      refine lv_bipush (v := 6) hx hb dX11_readGoal_40 bp_6 ?_
      refine va_iald hx hb hK hP 1 1 rfl rfl (vp_in_nI (n := 6) (by decide) (by decide)) dX11_readGoal_42 ?_
      refine W.eq (g2 := F0 m 43 ls [.int (q_told 6), .int v35_loc2]) rfl ?_
      refine lv_icmp_ge (tgt := 76) hx hb dX11_readGoal_43 rfl (fun c1 => ?_) (fun c1 => ?_)
      · have hrr2 : RRd tT nN y35_0 (iteT (gotT (shT 3 q_goal) (q_told 6) (lnkA tT nN sS)) (failT 4 (lnk1 tT nN sS (q_told 4))) (lnk1 tT nN sS (q_told 4))) := (gl_e (Int32.toInt_inj.mp (Int.le_antisymm hgi_35 (Int32.le_iff_toInt_le.mp c1))) hgv_35) ▸ hgo_35
        refine lv_aload_n hx hb dX11_readGoal_76 rfl (lv_at hl 0 rfl) ?_
        refine va_get (D := (dC, dI)) (ci := 11) (v := .int (y35_0 8)) (C := RX11) (T := TX11) (N := 61) hx hb hts hin11 hown hK hP 0 rfl rfl 22 (Nat.le_of_ble_eq_true rfl) hw_1 (fun _ h9 => h9) rfl dX11_readGoal_77 ?_
        refine lv_if_eq (tgt := 84) hx hb dX11_readGoal_80 rfl (fun c3 => ?_) (fun c3 => ?_)
        · have b4 : iv 0 0 (y35_0 8) := iv_eqL c3 ivk_0
          refine lv_aload_n hx hb dX11_readGoal_84 rfl (lv_at hl 0 rfl) ?_
          obtain ⟨hPc, hDc, hFc, hJn⟩ := cl_a (wc := [(m0, .inr (11, oX11 ra y35_0)), (ra 13, .inl (kI, 700, .inl q_tape))]) (wr := [(ra 2, .inl (kI, 8, .inl q_told)), (ra 10, .inl (kI, 6, .inl q_goal))]) hP hD hS hA [0, 3] [1, 2] rfl rfl (by decide +kernel)
          refine va_callv (va_runV (As := []) (rest := []) ⟨hx, hb, hml, hown, hts⟩ (s11_stepOn l dC dI kB kI kJ kZ kC kS H.size m0 ra y35_0 q_tape tT nN (nextT tT nN (iteT (gotT (shT 3 q_goal) (q_told 6) (lnkA tT nN sS)) (failT 4 (lnk1 tT nN sS (q_told 4))) (lnk1 tT nN sS (q_told 4)))) (hI35_0) (hq_tape) (hrr2.2) (stp_of hrr2) (hTQ)) (cwV 0 hts gX11_readGoal_X11_stepOn rfl rfl rfl (by decide +kernel) ⟨Nat.le_of_ble_eq_true rfl, Nat.le_of_ble_eq_true rfl⟩) ⟨fun a U g mk q => by obtain ⟨q0, q1, qP, qE, qD⟩ := q; exact ⟨q0, q1, qP, kE_call qE, qD⟩, va_recv hK hP (ci := 11) (q0 := 0) rfl rfl, fun U hU hW => ⟨rfl, by rw [hU], by rw [hU]; exact hPc, kE_warm hW hE, hDc.weaken (fun _ _ _ _ => trivial)⟩⟩ rfl rfl hl.1 rfl (lv_room (Nat.le_of_ble_eq_true rfl)) dX11_readGoal_85 ⟨Nat.le_of_ble_eq_true rfl, Nat.le_of_ble_eq_true rfl⟩) hS (fun q _ h => hFc q h) hFc (fun u t H locs ht hvm w6 hB hz1 hk1 hS => ?_)
          obtain ⟨y7, hq8, hq9, hq10, hq11, hq12, hq13, hq14, hq15, hq16, hP1, hD1⟩ := hB
          try dsimp only at w6
          obtain ⟨hPa, hDa⟩ := hJn (w1 := [(m0, .inr (11, oX11 ra y7)), (ra 13, .inl (kI, 700, .inl q_tape))]) hk1 ht hP1 hD1
          clear hP hD hPc hDc hFc hJn hP1 hD1 hk1
          have hP : va_P (dC, dI) vwCl [(ra 2, .inl (kI, 8, .inl q_told)), (ra 10, .inl (kI, 6, .inl q_goal)), (m0, .inr (11, oX11 ra y7)), (ra 13, .inl (kI, 700, .inl q_tape))] H := hPa
          have hD : va_D A [(ra 2, .inl (kI, 8, .inl q_told)), (ra 10, .inl (kI, 6, .inl q_goal)), (m0, .inr (11, oX11 ra y7)), (ra 13, .inl (kI, 700, .inl q_tape))] := hDa
          clear hPa hDa
          refine W.widen (k := 0) (n := 0) (Nat.le_of_ble_eq_true rfl) (Nat.le_of_ble_eq_true rfl) ?_
          refine lv_aload_n hx hb dX11_readGoal_88 rfl (lv_at hl 0 rfl) ?_
          refine va_get (D := (dC, dI)) (ci := 11) (v := .ref (ra 10)) (C := RX11) (T := TX11) (N := 61) hx hb hts hin11 hown hK hP 2 rfl rfl 11 (Nat.le_of_ble_eq_true rfl) hw_2 (fun _ h9 => h9) rfl dX11_readGoal_89 ?_
          refine lv_iconst (v := 3) hx hb dX11_readGoal_92 ic_3 ?_
          refine lv_aload_n hx hb dX11_readGoal_93 rfl (lv_at hl 0 rfl) ?_
          refine va_get (D := (dC, dI)) (ci := 11) (v := .ref (ra 2)) (C := RX11) (T := TX11) (N := 61) hx hb hts hin11 hown hK hP 2 rfl rfl 3 (Nat.le_of_ble_eq_true rfl) hw_0 (fun _ h9 => h9) rfl dX11_readGoal_94 ?_
          refine lv_bipush (v := 6) hx hb dX11_readGoal_97 bp_6 ?_
          refine va_iald hx hb hK hP 0 1 rfl rfl (vp_in_nI (n := 6) (by decide) (by decide)) dX11_readGoal_99 ?_
          refine W.eq (g2 := F0 m 100 ls [.int (q_told 6), .int 3, .ref (ra 10)]) rfl ?_
          refine lv_iadd hx hb dX11_readGoal_100 ?_
          have b17 : iv 3 5 (3 + (q_told 6)) := iv_add ivk_3 h35_4 (by decide) (by decide) (by decide) (by decide)
          refine lv_iload_n hx hb dX11_readGoal_101 rfl (lv_at hl 1 rfl) ?_
          refine va_iast hx hb hK hP hD hS 1 1 rfl rfl (iv_in b17 (by decide) (by decide)) dX11_readGoal_102 (fun H locs hPa hDa hS => ?_)
          clear hP hD
          have hP : va_P (dC, dI) vwCl [(ra 2, .inl (kI, 8, .inl q_told)), (ra 10, .inl (kI, 6, .inl (upd q_goal (3 + (q_told 6)).toNatClampNeg v35_loc1))), (m0, .inr (11, oX11 ra y7)), (ra 13, .inl (kI, 700, .inl q_tape))] H := hPa
          have hD : va_D A [(ra 2, .inl (kI, 8, .inl q_told)), (ra 10, .inl (kI, 6, .inl (upd q_goal (3 + (q_told 6)).toNatClampNeg v35_loc1))), (m0, .inr (11, oX11 ra y7)), (ra 13, .inl (kI, 700, .inl q_tape))] := hDa
          clear hPa hDa
          refine lv_aload_n hx hb dX11_readGoal_103 rfl (lv_at hl 0 rfl) ?_
          refine va_get (D := (dC, dI)) (ci := 11) (v := .ref (ra 2)) (C := RX11) (T := TX11) (N := 61) hx hb hts hin11 hown hK hP 2 rfl rfl 3 (Nat.le_of_ble_eq_true rfl) hw_0 (fun _ h9 => h9) rfl dX11_readGoal_104 ?_
          refine lv_bipush (v := 6) hx hb dX11_readGoal_107 bp_6 ?_
          refine lv_dup2_11 hx hb dX11_readGoal_109 rfl rfl ?_
          refine va_iald hx hb hK hP 0 1 rfl rfl (vp_in_nI (n := 6) (by decide) (by decide)) dX11_readGoal_110 ?_
          refine W.eq (g2 := F0 m 111 ls [.int (q_told 6), .int 6, .ref (ra 2)]) rfl ?_
          refine lv_iconst (v := 1) hx hb dX11_readGoal_111 ic_1 ?_
          refine lv_iadd hx hb dX11_readGoal_112 ?_
          have b18 : iv 1 3 ((q_told 6) + 1) := iv_add h35_4 ivk_1 (by decide) (by decide) (by decide) (by decide)
          refine va_iast hx hb hK hP hD hS 0 1 rfl rfl (vp_in_nI (n := 6) (by decide) (by decide)) dX11_readGoal_113 (fun H locs hPa hDa hS => ?_)
          clear hP hD
          have hP : va_P (dC, dI) vwCl [(ra 2, .inl (kI, 8, .inl (upd q_told 6 ((q_told 6) + 1)))), (ra 10, .inl (kI, 6, .inl (upd q_goal (3 + (q_told 6)).toNatClampNeg v35_loc1))), (m0, .inr (11, oX11 ra y7)), (ra 13, .inl (kI, 700, .inl q_tape))] H := hPa
          have hD : va_D A [(ra 2, .inl (kI, 8, .inl (upd q_told 6 ((q_told 6) + 1)))), (ra 10, .inl (kI, 6, .inl (upd q_goal (3 + (q_told 6)).toNatClampNeg v35_loc1))), (m0, .inr (11, oX11 ra y7)), (ra 13, .inl (kI, 700, .inl q_tape))] := hDa
          clear hPa hDa
          have hPD9 := cl_s (wc := [(m0, .inr (11, oX11 ra y7)), (ra 2, .inl (kI, 8, .inl (upd q_told 6 ((q_told 6) + 1)))), (ra 10, .inl (kI, 6, .inl (upd q_goal (3 + (q_told 6)).toNatClampNeg v35_loc1))), (ra 13, .inl (kI, 700, .inl q_tape))]) hP hD [2, 0, 1, 3] rfl (by decide +kernel)
          have hP9 := hPD9.1
          have hD9 := hPD9.2
          exact W.vret hx hb hr (fun t ht hW => ⟨⟨(), rfl, trivial, y7, upd q_told 6 ((q_told 6) + 1), upd q_goal (3 + (q_told 6)).toNatClampNeg v35_loc1, hq8, (fI_u hq_told (k := 6) ((iv_w b18 (by decide) (by decide)))), (fI_u hq_goal (k := (3 + (q_told 6)).toNatClampNeg) (h35_2)), (show (x0 2).toInt ≤ (y7 2).toInt from by omega), (show y7 3 = x0 3 from hq10.trans (hts_35)), (show ∀ j : Nat, (j : Int) < (q_told 1).toInt → (q_from j).toInt < (q_to j).toInt from hLT), (show ∀ j : Nat, (j : Int) < (q_told 5).toInt → (q_from (20 + j)).toInt < (q_to (20 + j)).toInt from hLD), (show RRd tT nN y7 (golS tT nN sS (q_told 4) (q_told 6) (shT 3 q_goal)) from it_f (Q := RRd tT nN y7) hg3_35 (hq12)), fun _ => ⟨rfl, congrArg (upd q_goal ((3 + (q_told 6)).toNatClampNeg)) (hgv_35 (ok_ite (rr_ok hrr2 c3)).1)⟩, low_t (by decide), lw3_u (iv_w h35_4 (by decide) (by decide)), (show y7 1 = x0 1 from hq13.trans (htp_35)), (show y7 10 = x0 10 from hq14.trans (hfp_35)), (show y7 11 = x0 11 from hq15.trans (hor_35)), (show y7 14 = x0 14 from hq16.trans (hirl_35)), by rw [ht]; exact hP9, hD9⟩, hS.F ht⟩) hS.2.2 dX11_readGoal_114
        · have b19 : iv 1 5 (y35_0 8) := iv_neLo c3 (hI35_0 8 : iv 0 5 (y35_0 8)) ivk_0 (by decide) (by decide)
          have hP9 := hP
          have hD9 := hD
          exact W.vret hx hb hr (fun t ht hW => ⟨⟨(), rfl, trivial, y35_0, q_told, q_goal, hI35_0, hq_told, hq_goal, (show (x0 2).toInt ≤ (y35_0 2).toInt from by omega), (show y35_0 3 = x0 3 from hts_35), (show ∀ j : Nat, (j : Int) < (q_told 1).toInt → (q_from j).toInt < (q_to j).toInt from hLT), (show ∀ j : Nat, (j : Int) < (q_told 5).toInt → (q_from (20 + j)).toInt < (q_to (20 + j)).toInt from hLD), (show RRd tT nN y35_0 (golS tT nN sS (q_told 4) (q_told 6) (shT 3 q_goal)) from it_f (Q := RRd tT nN y35_0) hg3_35 ((rr_stepN hrr2 c3))), (show y35_0 8 = 0 → q_told = upd q_told 6 (q_told 6 + 1) ∧ q_goal = upd q_goal ((3 + (q_told 6)).toNatClampNeg) (lnkA tT nN sS) from fun w => absurd w c3), (show LowT q_told q_from q_to q_told q_from q_to from low_0), (show Lw3 q_goal q_goal from lw3_0), (show y35_0 1 = x0 1 from htp_35), (show y35_0 10 = x0 10 from hfp_35), (show y35_0 11 = x0 11 from hor_35), (show y35_0 14 = x0 14 from hirl_35), by rw [ht]; exact hP9, hD9⟩, hS.F ht⟩) hS.2.2 dX11_readGoal_83
      · have b20 : iv 0 1 v35_loc2 := iv_ltL (Int32.not_le.mp c1) h35_3 h35_4 (by decide) (by decide)
        have b21 : iv 1 2 (q_told 6) := iv_ltR (Int32.not_le.mp c1) h35_3 h35_4 (by decide) (by decide)
        refine lv_aload_n hx hb dX11_readGoal_46 rfl (lv_at hl 0 rfl) ?_
        refine va_get (D := (dC, dI)) (ci := 11) (v := .int (y35_0 8)) (C := RX11) (T := TX11) (N := 61) hx hb hts hin11 hown hK hP 0 rfl rfl 22 (Nat.le_of_ble_eq_true rfl) hw_1 (fun _ h9 => h9) rfl dX11_readGoal_47 ?_
        refine lv_if_ne (tgt := 70) hx hb dX11_readGoal_50 rfl (fun c22 => ?_) (fun c22 => ?_)
        · have b23 : iv 1 5 (y35_0 8) := iv_neLo c22 (hI35_0 8 : iv 0 5 (y35_0 8)) ivk_0 (by decide) (by decide)
          refine lv_iinc (v := v35_loc2 + Int32.ofInt 1) (lv' := [(2, .int (v35_loc2 + Int32.ofInt 1)), (0, .ref m0), (1, .int v35_loc1)]) hx hb dX11_readGoal_70 hl (k := 2) rfl (rfl) (Nat.le_of_ble_eq_true rfl) rfl (fun ls hl => ?_)
          have b24 : iv 1 2 (v35_loc2 + Int32.ofInt 1) := iv_add b20 ivo_1 (by decide) (by decide) (by decide) (by decide)
          refine lv_goto (tgt := 35) hx hb dX11_readGoal_73 rfl ?_
          exact ih35 y35_0 v35_loc1 (v35_loc2 + Int32.ofInt 1) _ _ _ (ms_up (c := 1) (d := 0) b20 hm35 (by decide) (iv_inc 1 b20 (by decide) (by decide) (by decide) (by decide)) (by decide) rfl) (hI35_0) (h35_2) ((iv_w b24 (by decide) (by decide))) ((iv_w b21 (by decide) (by decide))) (h35_5) ((show RRd tT nN y35_0 (glK (shT 3 q_goal) (v35_loc2 + Int32.ofInt 1) v35_loc1 (lnk1 tT nN sS (q_told 4))) from (gl_b hgo_35 c22 (iv_w b20 (by decide) (by decide))) ▸ hgo_35)) ((show (v35_loc2 + Int32.ofInt 1).toInt ≤ (q_told 6).toInt from by have q := Int32.lt_iff_toInt_lt.mp (Int32.not_le.mp c1); rw [iv_inc 1 b20 (by decide) (by decide) (by decide) (by decide)]; omega)) ((show okT (lnk1 tT nN sS (q_told 4)) → v35_loc1 = lnkA tT nN sS from hgv_35)) ((show ¬ q_told 6 = 3 from hg3_35)) ((show (x0 2).toInt ≤ (y35_0 2).toInt from by omega)) ((show y35_0 3 = x0 3 from hts_35)) ((show y35_0 1 = x0 1 from htp_35)) ((show y35_0 10 = x0 10 from hfp_35)) ((show y35_0 11 = x0 11 from hor_35)) ((show y35_0 14 = x0 14 from hirl_35)) (hP) (hD) hS (lv_sub hl [1, 2, 0] rfl)
        · have b25 : iv 0 0 (y35_0 8) := iv_eqL c22 ivk_0
          refine lv_aload_n hx hb dX11_readGoal_53 rfl (lv_at hl 0 rfl) ?_
          refine va_get (D := (dC, dI)) (ci := 11) (v := .ref (ra 10)) (C := RX11) (T := TX11) (N := 61) hx hb hts hin11 hown hK hP 0 rfl rfl 11 (Nat.le_of_ble_eq_true rfl) hw_2 (fun _ h9 => h9) rfl dX11_readGoal_54 ?_
          refine lv_iconst (v := 3) hx hb dX11_readGoal_57 ic_3 ?_
          refine lv_iload_n hx hb dX11_readGoal_58 rfl (lv_at hl 2 rfl) ?_
          refine lv_iadd hx hb dX11_readGoal_59 ?_
          have b26 : iv 3 4 (3 + v35_loc2) := iv_add ivk_3 b20 (by decide) (by decide) (by decide) (by decide)
          refine va_iald hx hb hK hP 2 1 rfl rfl (iv_in b26 (by decide) (by decide)) dX11_readGoal_60 ?_
          have b27 : iv 0 11 (q_goal (3 + v35_loc2).toNatClampNeg) := hq_goal _
          refine lv_iload_n hx hb dX11_readGoal_61 rfl (lv_at hl 1 rfl) ?_
          refine lv_icmp_ne (tgt := 70) hx hb dX11_readGoal_62 rfl (fun c28 => ?_) (fun c28 => ?_)
          · refine lv_iinc (v := v35_loc2 + Int32.ofInt 1) (lv' := [(2, .int (v35_loc2 + Int32.ofInt 1)), (0, .ref m0), (1, .int v35_loc1)]) hx hb dX11_readGoal_70 hl (k := 2) rfl (rfl) (Nat.le_of_ble_eq_true rfl) rfl (fun ls hl => ?_)
            have b29 : iv 1 2 (v35_loc2 + Int32.ofInt 1) := iv_add b20 ivo_1 (by decide) (by decide) (by decide) (by decide)
            refine lv_goto (tgt := 35) hx hb dX11_readGoal_73 rfl ?_
            exact ih35 y35_0 v35_loc1 (v35_loc2 + Int32.ofInt 1) _ _ _ (ms_up (c := 1) (d := 0) b20 hm35 (by decide) (iv_inc 1 b20 (by decide) (by decide) (by decide) (by decide)) (by decide) rfl) (hI35_0) (h35_2) ((iv_w b29 (by decide) (by decide))) ((iv_w b21 (by decide) (by decide))) (h35_5) ((show RRd tT nN y35_0 (glK (shT 3 q_goal) (v35_loc2 + Int32.ofInt 1) v35_loc1 (lnk1 tT nN sS (q_told 4))) from (gl_n (f := (shT 3 q_goal)) hgo_35 c22 (iv_w b20 (by decide) (by decide)) (sh3 (f := q_goal) (iv_w b20 (by decide) (by decide)) ▸ c28)) ▸ hgo_35)) ((show (v35_loc2 + Int32.ofInt 1).toInt ≤ (q_told 6).toInt from by have q := Int32.lt_iff_toInt_lt.mp (Int32.not_le.mp c1); rw [iv_inc 1 b20 (by decide) (by decide) (by decide) (by decide)]; omega)) ((show okT (lnk1 tT nN sS (q_told 4)) → v35_loc1 = lnkA tT nN sS from hgv_35)) ((show ¬ q_told 6 = 3 from hg3_35)) ((show (x0 2).toInt ≤ (y35_0 2).toInt from by omega)) ((show y35_0 3 = x0 3 from hts_35)) ((show y35_0 1 = x0 1 from htp_35)) ((show y35_0 10 = x0 10 from hfp_35)) ((show y35_0 11 = x0 11 from hor_35)) ((show y35_0 14 = x0 14 from hirl_35)) (hP) (hD) hS (lv_sub hl [1, 2, 0] rfl)
          · refine lv_aload_n hx hb dX11_readGoal_65 rfl (lv_at hl 0 rfl) ?_
            refine lv_iconst (v := 4) hx hb dX11_readGoal_66 ic_4 ?_
            obtain ⟨hPc, hDc, hFc, hJn⟩ := cl_a (wc := [(m0, .inr (11, oX11 ra y35_0))]) (wr := [(ra 2, .inl (kI, 8, .inl q_told)), (ra 10, .inl (kI, 6, .inl q_goal)), (ra 13, .inl (kI, 700, .inl q_tape))]) hP hD hS hA [0] [1, 2, 3] rfl rfl (by decide +kernel)
            refine va_callv (va_runV (As := [.int 4]) (rest := []) ⟨hx, hb, hml, hown, hts⟩ (s11_wrong l dC dI kB kI kJ kZ kC kS H.size m0 ra y35_0 4 tT nN (glK (shT 3 q_goal) v35_loc2 v35_loc1 (lnk1 tT nN sS (q_told 4))) (hI35_0) ((iv_w ivk_4 (by decide) (by decide))) (hgo_35)) (cwV 1 hts gX11_readGoal_X11_wrong rfl rfl rfl (by decide +kernel) ⟨Nat.le_of_ble_eq_true rfl, Nat.le_of_ble_eq_true rfl⟩) ⟨fun a U g mk q => by obtain ⟨q0, q1, qP, qE, qD⟩ := q; exact ⟨q0, q1, qP, kE_call qE, qD⟩, va_recv hK hP (ci := 11) (q0 := 0) rfl rfl, fun U hU hW => ⟨rfl, by rw [hU], by rw [hU]; exact hPc, kE_warm hW hE, hDc.weaken (fun _ _ _ _ => trivial)⟩⟩ rfl rfl hl.1 rfl (lv_room (Nat.le_of_ble_eq_true rfl)) dX11_readGoal_67 ⟨Nat.le_of_ble_eq_true rfl, Nat.le_of_ble_eq_true rfl⟩) hS (fun q _ h => hFc q h) hFc (fun u t H locs ht hvm w31 hB hz1 hk1 hS => ?_)
            obtain ⟨y32, hq33, hq34, hq35, hq36, hq37, hq38, hq39, hq40, hq41, hP1, hD1⟩ := hB
            try dsimp only at w31
            obtain ⟨hPa, hDa⟩ := hJn (w1 := [(m0, .inr (11, oX11 ra y32))]) hk1 ht hP1 hD1
            clear hP hD hPc hDc hFc hJn hP1 hD1 hk1
            have hP : va_P (dC, dI) vwCl [(ra 2, .inl (kI, 8, .inl q_told)), (ra 10, .inl (kI, 6, .inl q_goal)), (ra 13, .inl (kI, 700, .inl q_tape)), (m0, .inr (11, oX11 ra y32))] H := hPa
            have hD : va_D A [(ra 2, .inl (kI, 8, .inl q_told)), (ra 10, .inl (kI, 6, .inl q_goal)), (ra 13, .inl (kI, 700, .inl q_tape)), (m0, .inr (11, oX11 ra y32))] := hDa
            clear hPa hDa
            refine W.widen (k := 0) (n := 0) (Nat.le_of_ble_eq_true rfl) (Nat.le_of_ble_eq_true rfl) ?_
            refine lv_iinc (v := v35_loc2 + Int32.ofInt 1) (lv' := [(2, .int (v35_loc2 + Int32.ofInt 1)), (0, .ref m0), (1, .int v35_loc1)]) hx hb dX11_readGoal_70 hl (k := 2) rfl (rfl) (Nat.le_of_ble_eq_true rfl) rfl (fun ls hl => ?_)
            have b42 : iv 1 2 (v35_loc2 + Int32.ofInt 1) := iv_add b20 ivo_1 (by decide) (by decide) (by decide) (by decide)
            refine lv_goto (tgt := 35) hx hb dX11_readGoal_73 rfl ?_
            have hPD9 := cl_s (wc := [(m0, .inr (11, oX11 ra y32)), (ra 2, .inl (kI, 8, .inl q_told)), (ra 10, .inl (kI, 6, .inl q_goal)), (ra 13, .inl (kI, 700, .inl q_tape))]) hP hD [3, 0, 1, 2] rfl (by decide +kernel)
            exact ih35 y32 v35_loc1 (v35_loc2 + Int32.ofInt 1) _ _ _ (ms_up (c := 1) (d := 0) b20 hm35 (by decide) (iv_inc 1 b20 (by decide) (by decide) (by decide) (by decide)) (by decide) rfl) (hq33) (h35_2) ((iv_w b42 (by decide) (by decide))) ((iv_w b21 (by decide) (by decide))) (h35_5) ((show RRd tT nN y32 (glK (shT 3 q_goal) (v35_loc2 + Int32.ofInt 1) v35_loc1 (lnk1 tT nN sS (q_told 4))) from (gl_y (f := (shT 3 q_goal)) hgo_35 c22 (iv_w b20 (by decide) (by decide)) (sh3 (f := q_goal) (iv_w b20 (by decide) (by decide)) ▸ c28)) ▸ hq37)) ((show (v35_loc2 + Int32.ofInt 1).toInt ≤ (q_told 6).toInt from by have q := Int32.lt_iff_toInt_lt.mp (Int32.not_le.mp c1); rw [iv_inc 1 b20 (by decide) (by decide) (by decide) (by decide)]; omega)) ((show okT (lnk1 tT nN sS (q_told 4)) → v35_loc1 = lnkA tT nN sS from hgv_35)) ((show ¬ q_told 6 = 3 from hg3_35)) ((show (x0 2).toInt ≤ (y32 2).toInt from by omega)) ((show y32 3 = x0 3 from hq36.trans (hts_35))) ((show y32 1 = x0 1 from hq38.trans (htp_35))) ((show y32 10 = x0 10 from hq39.trans (hfp_35))) ((show y32 11 = x0 11 from hq40.trans (hor_35))) ((show y32 14 = x0 14 from hq41.trans (hirl_35))) (hPD9.1) (hPD9.2) hS (lv_sub hl [1, 2, 0] rfl)
  refine lv_aload_n hx hb dX11_readGoal_0 rfl (lv_at hl 0 rfl) ?_
  refine va_get (D := (dC, dI)) (ci := 11) (v := .ref (ra 2)) (C := RX11) (T := TX11) (N := 61) hx hb hts hin11 hown hK hP 0 rfl rfl 3 (Nat.le_of_ble_eq_true rfl) hw_0 (fun _ h9 => h9) rfl dX11_readGoal_1 ?_
  refine lv_bipush (v := 6) hx hb dX11_readGoal_4 bp_6 ?_
  refine va_iald hx hb hK hP 1 1 rfl rfl (vp_in_nI (n := 6) (by decide) (by decide)) dX11_readGoal_6 ?_
  refine W.eq (g2 := F0 m 7 ls [.int (q_told 6)]) rfl ?_
  refine lv_iconst (v := 3) hx hb dX11_readGoal_7 ic_3 ?_
  refine lv_icmp_ne (tgt := 16) hx hb dX11_readGoal_8 rfl (fun c43 => ?_) (fun c43 => ?_)
  · have b44 : iv 0 2 (q_told 6) := iv_neHi c43 (hq_told 6 : iv 0 3 (q_told 6)) ivk_3 (by decide) (by decide)
    refine lv_aload_n hx hb dX11_readGoal_16 rfl (lv_at hl 0 rfl) ?_
    refine va_get (D := (dC, dI)) (ci := 11) (v := .int (x0 8)) (C := RX11) (T := TX11) (N := 61) hx hb hts hin11 hown hK hP 0 rfl rfl 22 (Nat.le_of_ble_eq_true rfl) hw_1 (fun _ h9 => h9) rfl dX11_readGoal_17 ?_
    refine lv_if_eq (tgt := 24) hx hb dX11_readGoal_20 rfl (fun c45 => ?_) (fun c45 => ?_)
    · have b46 : iv 0 0 (x0 8) := iv_eqL c45 ivk_0
      refine lv_aload_n hx hb dX11_readGoal_24 rfl (lv_at hl 0 rfl) ?_
      obtain ⟨hPc, hDc, hFc, hJn⟩ := cl_a (wc := [(m0, .inr (11, oX11 ra x0)), (ra 13, .inl (kI, 700, .inl q_tape))]) (wr := [(ra 2, .inl (kI, 8, .inl q_told)), (ra 10, .inl (kI, 6, .inl q_goal))]) hP hD hS hA [0, 3] [1, 2] rfl rfl (by decide +kernel)
      refine va_callv (va_runV (As := []) (rest := []) ⟨hx, hb, hml, hown, hts⟩ (s11_stepOn l dC dI kB kI kJ kZ kC kS s.heap.size m0 ra x0 q_tape tT nN (nextT tT nN sS) (hX) (hq_tape) (hRr.2) (stp_of hRr) (hTQ)) (cwV 0 hts gX11_readGoal_X11_stepOn rfl rfl rfl (by decide +kernel) ⟨Nat.le_of_ble_eq_true rfl, Nat.le_of_ble_eq_true rfl⟩) ⟨fun a U g mk q => by obtain ⟨q0, q1, qP, qE, qD⟩ := q; exact ⟨q0, q1, qP, kE_call qE, qD⟩, va_recv hK hP (ci := 11) (q0 := 0) rfl rfl, fun U hU hW => ⟨rfl, by rw [hU], by rw [hU]; exact hPc, kE_warm hW hE, hDc.weaken (fun _ _ _ _ => trivial)⟩⟩ rfl rfl hl.1 rfl (lv_room (Nat.le_of_ble_eq_true rfl)) dX11_readGoal_25 ⟨Nat.le_of_ble_eq_true rfl, Nat.le_of_ble_eq_true rfl⟩) hS (fun q _ h => hFc q h) hFc (fun u t H locs ht hvm w48 hB hz1 hk1 hS => ?_)
      obtain ⟨y49, hq50, hq51, hq52, hq53, hq54, hq55, hq56, hq57, hq58, hP1, hD1⟩ := hB
      try dsimp only at w48
      obtain ⟨hPa, hDa⟩ := hJn (w1 := [(m0, .inr (11, oX11 ra y49)), (ra 13, .inl (kI, 700, .inl q_tape))]) hk1 ht hP1 hD1
      clear hP hD hPc hDc hFc hJn hP1 hD1 hk1
      have hP : va_P (dC, dI) vwCl [(ra 2, .inl (kI, 8, .inl q_told)), (ra 10, .inl (kI, 6, .inl q_goal)), (m0, .inr (11, oX11 ra y49)), (ra 13, .inl (kI, 700, .inl q_tape))] H := hPa
      have hD : va_D A [(ra 2, .inl (kI, 8, .inl q_told)), (ra 10, .inl (kI, 6, .inl q_goal)), (m0, .inr (11, oX11 ra y49)), (ra 13, .inl (kI, 700, .inl q_tape))] := hDa
      clear hPa hDa
      refine W.widen (k := 0) (n := 0) (Nat.le_of_ble_eq_true rfl) (Nat.le_of_ble_eq_true rfl) ?_
      refine lv_aload_n hx hb dX11_readGoal_28 rfl (lv_at hl 0 rfl) ?_
      obtain ⟨hPc, hDc, hFc, hJn⟩ := cl_a (wc := [(m0, .inr (11, oX11 ra y49)), (ra 2, .inl (kI, 8, .inl q_told))]) (wr := [(ra 10, .inl (kI, 6, .inl q_goal)), (ra 13, .inl (kI, 700, .inl q_tape))]) hP hD hS hA [2, 0] [1, 3] rfl rfl (by decide +kernel)
      refine va_calli (va_runV (As := []) (rest := []) ⟨hx, hb, hml, hown, hts⟩ (s11_routerNow l dC dI kB kI kJ kZ kC kS H.size m0 ra y49 q_told tT nN (nextT tT nN sS) (hq50) (hq_told) (hq54)) (cwV 0 hts gX11_readGoal_X11_routerNow rfl rfl rfl (by decide +kernel) ⟨Nat.le_of_ble_eq_true rfl, Nat.le_of_ble_eq_true rfl⟩) ⟨fun a U g mk q => by obtain ⟨q0, q1, qP, qE, qD⟩ := q; exact ⟨q0, q1, qP, kE_call qE, qD⟩, va_recv hK hP (ci := 11) (q0 := 2) rfl rfl, fun U hU hW => ⟨rfl, by rw [hU], by rw [hU]; exact hPc, kE_warm hW hE, hDc.weaken (fun _ _ _ _ => trivial)⟩⟩ rfl rfl hl.1 rfl (lv_room (Nat.le_of_ble_eq_true rfl)) dX11_readGoal_29 ⟨Nat.le_of_ble_eq_true rfl, Nat.le_of_ble_eq_true rfl⟩) hS (fun q _ h => hFc q h) hFc (fun r59 u t H locs ht hvm w60 hB hz1 hk1 hS => ?_)
      obtain ⟨y61, hq62, hq63, hq64, hq65, hq66, hq67, hq68, hq69, hP1, hD1⟩ := hB
      try dsimp only at w60
      obtain ⟨hPa, hDa⟩ := hJn (w1 := [(m0, .inr (11, oX11 ra y61)), (ra 2, .inl (kI, 8, .inl q_told))]) hk1 ht hP1 hD1
      clear hP hD hPc hDc hFc hJn hP1 hD1 hk1
      have hP : va_P (dC, dI) vwCl [(ra 10, .inl (kI, 6, .inl q_goal)), (ra 13, .inl (kI, 700, .inl q_tape)), (m0, .inr (11, oX11 ra y61)), (ra 2, .inl (kI, 8, .inl q_told))] H := hPa
      have hD : va_D A [(ra 10, .inl (kI, 6, .inl q_goal)), (ra 13, .inl (kI, 700, .inl q_tape)), (m0, .inr (11, oX11 ra y61)), (ra 2, .inl (kI, 8, .inl q_told))] := hDa
      clear hPa hDa
      refine W.widen (k := 0) (n := 0) (Nat.le_of_ble_eq_true rfl) (Nat.le_of_ble_eq_true rfl) ?_
      have hv9 := w60.2
      refine lv_istore_n (lv' := [(1, .int r59), (0, .ref m0)]) hx hb dX11_readGoal_32 rfl hl (Nat.le_of_ble_eq_true rfl) rfl (fun ls hl => ?_)
      refine lv_iconst (v := 0) hx hb dX11_readGoal_33 ic_0 ?_
      refine lv_istore_n (lv' := [(2, .int 0), (1, .int r59), (0, .ref m0)]) hx hb dX11_readGoal_34 rfl hl (Nat.le_of_ble_eq_true rfl) rfl (fun ls hl => ?_)
      have hPD9 := cl_s (wc := [(m0, .inr (11, oX11 ra y61)), (ra 2, .inl (kI, 8, .inl q_told)), (ra 10, .inl (kI, 6, .inl q_goal)), (ra 13, .inl (kI, 700, .inl q_tape))]) hP hD [2, 3, 0, 1] rfl (by decide +kernel)
      exact hJ35 _ y61 r59 0 _ _ _ (Nat.lt_succ_self _) (hq62) (w60.1) ((iv_w ivk_0 (by decide) (by decide))) (b44) (b46) ((show RRd tT nN y61 (glK (shT 3 q_goal) 0 r59 (lnk1 tT nN sS (q_told 4))) from gl_0 ▸ hq65)) ((show ((0 : Int32)).toInt ≤ (q_told 6).toInt from by rw [show ((0 : Int32)).toInt = 0 from by decide]; exact b44.1)) ((show okT (lnk1 tT nN sS (q_told 4)) → r59 = lnkA tT nN sS from hv9)) ((show ¬ q_told 6 = 3 from c43)) ((show (x0 2).toInt ≤ (y61 2).toInt from by omega)) ((show y61 3 = x0 3 from hq64.trans (hq52))) ((show y61 1 = x0 1 from hq66.trans (hq55))) ((show y61 10 = x0 10 from hq67.trans (hq56))) ((show y61 11 = x0 11 from hq68.trans (hq57))) ((show y61 14 = x0 14 from hq69.trans (hq58))) (hPD9.1) (hPD9.2) hS (lv_sub hl [2, 1, 0] rfl)
    · have b70 : iv 1 5 (x0 8) := iv_neLo c45 (hX 8 : iv 0 5 (x0 8)) ivk_0 (by decide) (by decide)
      have hP9 := hP
      have hD9 := hD
      exact W.vret hx hb hr (fun t ht hW => ⟨⟨(), rfl, trivial, x0, q_told, q_goal, hX, hq_told, hq_goal, (show (x0 2).toInt ≤ (x0 2).toInt from by omega), (show x0 3 = x0 3 from rfl), (show ∀ j : Nat, (j : Int) < (q_told 1).toInt → (q_from j).toInt < (q_to j).toInt from hLT), (show ∀ j : Nat, (j : Int) < (q_told 5).toInt → (q_from (20 + j)).toInt < (q_to (20 + j)).toInt from hLD), (show RRd tT nN x0 (golS tT nN sS (q_told 4) (q_told 6) (shT 3 q_goal)) from (go_in hRr c45) ▸ hRr), (show x0 8 = 0 → q_told = upd q_told 6 (q_told 6 + 1) ∧ q_goal = upd q_goal ((3 + (q_told 6)).toNatClampNeg) (lnkA tT nN sS) from fun w => absurd w c45), (show LowT q_told q_from q_to q_told q_from q_to from low_0), (show Lw3 q_goal q_goal from lw3_0), (show x0 1 = x0 1 from rfl), (show x0 10 = x0 10 from rfl), (show x0 11 = x0 11 from rfl), (show x0 14 = x0 14 from rfl), by rw [ht]; exact hP9, hD9⟩, hS.F ht⟩) hS.2.2 dX11_readGoal_23
  · have b71 : iv 3 3 (q_told 6) := iv_eqL c43 ivk_3
    refine lv_aload_n hx hb dX11_readGoal_11 rfl (lv_at hl 0 rfl) ?_
    refine lv_iconst (v := 2) hx hb dX11_readGoal_12 ic_2 ?_
    obtain ⟨hPc, hDc, hFc, hJn⟩ := cl_a (wc := [(m0, .inr (11, oX11 ra x0))]) (wr := [(ra 2, .inl (kI, 8, .inl q_told)), (ra 10, .inl (kI, 6, .inl q_goal)), (ra 13, .inl (kI, 700, .inl q_tape))]) hP hD hS hA [0] [1, 2, 3] rfl rfl (by decide +kernel)
    refine va_callv (va_runV (As := [.int 2]) (rest := []) ⟨hx, hb, hml, hown, hts⟩ (s11_wrong l dC dI kB kI kJ kZ kC kS s.heap.size m0 ra x0 2 tT nN sS (hX) ((iv_w ivk_2 (by decide) (by decide))) (hRr)) (cwV 1 hts gX11_readGoal_X11_wrong rfl rfl rfl (by decide +kernel) ⟨Nat.le_of_ble_eq_true rfl, Nat.le_of_ble_eq_true rfl⟩) ⟨fun a U g mk q => by obtain ⟨q0, q1, qP, qE, qD⟩ := q; exact ⟨q0, q1, qP, kE_call qE, qD⟩, va_recv hK hP (ci := 11) (q0 := 0) rfl rfl, fun U hU hW => ⟨rfl, by rw [hU], by rw [hU]; exact hPc, kE_warm hW hE, hDc.weaken (fun _ _ _ _ => trivial)⟩⟩ rfl rfl hl.1 rfl (lv_room (Nat.le_of_ble_eq_true rfl)) dX11_readGoal_13 ⟨Nat.le_of_ble_eq_true rfl, Nat.le_of_ble_eq_true rfl⟩) hS (fun q _ h => hFc q h) hFc (fun u t H locs ht hvm w73 hB hz1 hk1 hS => ?_)
    obtain ⟨y74, hq75, hq76, hq77, hq78, hq79, hq80, hq81, hq82, hq83, hP1, hD1⟩ := hB
    try dsimp only at w73
    obtain ⟨hPa, hDa⟩ := hJn (w1 := [(m0, .inr (11, oX11 ra y74))]) hk1 ht hP1 hD1
    clear hP hD hPc hDc hFc hJn hP1 hD1 hk1
    have hP : va_P (dC, dI) vwCl [(ra 2, .inl (kI, 8, .inl q_told)), (ra 10, .inl (kI, 6, .inl q_goal)), (ra 13, .inl (kI, 700, .inl q_tape)), (m0, .inr (11, oX11 ra y74))] H := hPa
    have hD : va_D A [(ra 2, .inl (kI, 8, .inl q_told)), (ra 10, .inl (kI, 6, .inl q_goal)), (ra 13, .inl (kI, 700, .inl q_tape)), (m0, .inr (11, oX11 ra y74))] := hDa
    clear hPa hDa
    refine W.widen (k := 0) (n := 0) (Nat.le_of_ble_eq_true rfl) (Nat.le_of_ble_eq_true rfl) ?_
    refine lv_aload_n hx hb dX11_readGoal_16 rfl (lv_at hl 0 rfl) ?_
    refine va_get (D := (dC, dI)) (ci := 11) (v := .int (y74 8)) (C := RX11) (T := TX11) (N := 61) hx hb hts hin11 hown hK hP 3 rfl rfl 22 (Nat.le_of_ble_eq_true rfl) hw_1 (fun _ h9 => h9) rfl dX11_readGoal_17 ?_
    refine lv_if_eq (tgt := 24) hx hb dX11_readGoal_20 rfl (fun c9 => absurd c9 (iv_ne hq76 ivk_0 (by decide))) (fun _ => ?_)
    have hPD9 := cl_s (wc := [(m0, .inr (11, oX11 ra y74)), (ra 2, .inl (kI, 8, .inl q_told)), (ra 10, .inl (kI, 6, .inl q_goal)), (ra 13, .inl (kI, 700, .inl q_tape))]) hP hD [3, 0, 1, 2] rfl (by decide +kernel)
    have hP9 := hPD9.1
    have hD9 := hPD9.2
    exact W.vret hx hb hr (fun t ht hW => ⟨⟨(), rfl, trivial, y74, q_told, q_goal, hq75, hq_told, hq_goal, (show (x0 2).toInt ≤ (y74 2).toInt from by omega), (show y74 3 = x0 3 from hq78), (show ∀ j : Nat, (j : Int) < (q_told 1).toInt → (q_from j).toInt < (q_to j).toInt from hLT), (show ∀ j : Nat, (j : Int) < (q_told 5).toInt → (q_from (20 + j)).toInt < (q_to (20 + j)).toInt from hLD), (show RRd tT nN y74 (golS tT nN sS (q_told 4) (q_told 6) (shT 3 q_goal)) from it_t (Q := RRd tT nN y74) c43 (hq79)), (show y74 8 = 0 → q_told = upd q_told 6 (q_told 6 + 1) ∧ q_goal = upd q_goal ((3 + (q_told 6)).toNatClampNeg) (lnkA tT nN sS) from fun w => absurd w (rr_nf hq79)), (show LowT q_told q_from q_to q_told q_from q_to from low_0), (show Lw3 q_goal q_goal from lw3_0), (show y74 1 = x0 1 from hq80), (show y74 10 = x0 10 from hq81), (show y74 11 = x0 11 from hq82), (show y74 14 = x0 14 from hq83), by rw [ht]; exact hP9, hD9⟩, hS.F ht⟩) hS.2.2 dX11_readGoal_23
def rm_s11_readClause : Room := { frames := 7, cells := 0, slots := 0, locals := 152 }
set_option maxHeartbeats 4000000 in
set_option maxRecDepth 100000 in
theorem s11_readClause (l : Launch) (dC : Nat → ClassId) (dI : Nat → Nat → Nat) (kB kI kJ kZ kC kS : ClassId) (sz : Nat) (adK : Nat → Nat) (adV : Nat → Nat) (m0 : Nat) (ra : Nat → Nat) (x0 : Nat → Int32) (q_told : Nat → Int32) (q_kind : Nat → Int32) (q_salt : Nat → Int32) (q_pace : Nat → Int32) (q_mute : Nat → Int32) (q_late : Nat → Int32) (q_from : Nat → Int32) (q_to : Nat → Int32) (q_goal : Nat → Int32) (q_tape : Nat → Int32) (q_words : Nat → Option Nat) (q_kinds : Nat → Option Nat) (tT : Nat → Int32) (nN : Int32) (kK : TkT) (hX : fI lX11 hX11 x0) (hq_told : fI lTold hTold q_told) (hq_salt : fI (fun _ => 0) (fun _ => 15) q_salt) (hq_from : fI (fun _ => 0) (fun _ => 11) q_from) (hq_to : fI (fun _ => 0) (fun _ => 11) q_to) (hq_goal : fI (fun _ => 0) (fun _ => 11) q_goal) (hq_tape : fI (fun _ => 0) (fun _ => 255) q_tape) (hLT : ∀ j : Nat, (j : Int) < (q_told 1).toInt → (q_from j).toInt < (q_to j).toInt) (hLD : ∀ j : Nat, (j : Int) < (q_told 5).toInt → (q_from (20 + j)).toInt < (q_to (20 + j)).toInt) (hwo : ∀ k, k < 4 → q_words k = some (adK (0 + k))) (hki : ∀ k, k < 4 → q_kinds k = some (adK (4 + k))) (hRr : RRd tT nN x0 (Sum.inr kK)) (hTQ : tT = q_tape) : Met l yX11_readClause wsX11_readClause rm_s11_readClause (va_Pc [.ref m0] (fun U => U.heap.size = sz ∧ va_P (dC, dI) vwCl [(m0, .inr (11, oX11 ra x0)), (ra 2, .inl (kI, 8, .inl q_told)), (ra 3, .inl (kI, 24, .inl q_kind)), (ra 4, .inl (kI, 24, .inl q_salt)), (ra 5, .inl (kI, 24, .inl q_pace)), (ra 6, .inl (kI, 24, .inl q_mute)), (ra 7, .inl (kI, 24, .inl q_late)), (ra 8, .inl (kI, 40, .inl q_from)), (ra 9, .inl (kI, 40, .inl q_to)), (ra 10, .inl (kI, 6, .inl q_goal)), (ra 13, .inl (kI, 700, .inl q_tape)), (ra 0, .inl (kS, 4, .inr (.inr (.inr (.inr q_words))))), (ra 1, .inl (kS, 4, .inr (.inr (.inr (.inr q_kinds)))))] U.heap ∧ kE dC dI kB kI kJ kZ kC kS U ∧ va_D (fun _ => True) [(m0, .inr (11, oX11 ra x0)), (ra 2, .inl (kI, 8, .inl q_told)), (ra 3, .inl (kI, 24, .inl q_kind)), (ra 4, .inl (kI, 24, .inl q_salt)), (ra 5, .inl (kI, 24, .inl q_pace)), (ra 6, .inl (kI, 24, .inl q_mute)), (ra 7, .inl (kI, 24, .inl q_late)), (ra 8, .inl (kI, 40, .inl q_from)), (ra 9, .inl (kI, 40, .inl q_to)), (ra 10, .inl (kI, 6, .inl q_goal)), (ra 13, .inl (kI, 700, .inl q_tape)), (ra 0, .inl (kS, 4, .inr (.inr (.inr (.inr q_words))))), (ra 1, .inl (kS, 4, .inr (.inr (.inr (.inr q_kinds)))))] ∧ kL adK adV (va_A [(m0, .inr (11, oX11 ra x0)), (ra 2, .inl (kI, 8, .inl q_told)), (ra 3, .inl (kI, 24, .inl q_kind)), (ra 4, .inl (kI, 24, .inl q_salt)), (ra 5, .inl (kI, 24, .inl q_pace)), (ra 6, .inl (kI, 24, .inl q_mute)), (ra 7, .inl (kI, 24, .inl q_late)), (ra 8, .inl (kI, 40, .inl q_from)), (ra 9, .inl (kI, 40, .inl q_to)), (ra 10, .inl (kI, 6, .inl q_goal)), (ra 13, .inl (kI, 700, .inl q_tape)), (ra 0, .inl (kS, 4, .inr (.inr (.inr (.inr q_words))))), (ra 1, .inl (kS, 4, .inr (.inr (.inr (.inr q_kinds)))))] sz) U)) (va_Qv (fun (_ : Unit) => True) (fun _ t => ∃ (x0' : Nat → Int32) (q_told' : Nat → Int32) (q_kind' : Nat → Int32) (q_salt' : Nat → Int32) (q_pace' : Nat → Int32) (q_mute' : Nat → Int32) (q_late' : Nat → Int32) (q_from' : Nat → Int32) (q_to' : Nat → Int32) (q_goal' : Nat → Int32), fI lX11 hX11 x0' ∧ fI lTold hTold q_told' ∧ fI (fun _ => 0) (fun _ => 15) q_salt' ∧ fI (fun _ => 0) (fun _ => 11) q_from' ∧ fI (fun _ => 0) (fun _ => 11) q_to' ∧ fI (fun _ => 0) (fun _ => 11) q_goal' ∧ ((x0 2).toInt ≤ (x0' 2).toInt) ∧ (x0' 3 = x0 3) ∧ (∀ j : Nat, (j : Int) < (q_told' 1).toInt → (q_from' j).toInt < (q_to' j).toInt) ∧ (∀ j : Nat, (j : Int) < (q_told' 5).toInt → (q_from' (20 + j)).toInt < (q_to' (20 + j)).toInt) ∧ (¬ x0' 8 = 0 ∨ x0' 4 = 0 ∨ (x0 2).toInt + 1 ≤ (x0' 2).toInt) ∧ (RRd tT nN x0' (clsS tT nN kK (NR q_told q_kind q_salt q_pace q_mute q_late q_from q_to q_goal))) ∧ (x0' 8 = 0 → NR q_told' q_kind' q_salt' q_pace' q_mute' q_late' q_from' q_to' q_goal' = clsN tT nN kK (NR q_told q_kind q_salt q_pace q_mute q_late q_from q_to q_goal)) ∧ (LowT q_told q_from q_to q_told' q_from' q_to') ∧ (Lw12 q_kind q_kind') ∧ (Lw12 q_salt q_salt') ∧ (Lw3 q_goal q_goal') ∧ (x0' 1 = x0 1) ∧ (x0' 10 = x0 10) ∧ (x0' 11 = x0 11) ∧ (x0' 14 = x0 14) ∧ va_P (dC, dI) vwCl [(m0, .inr (11, oX11 ra x0')), (ra 2, .inl (kI, 8, .inl q_told')), (ra 3, .inl (kI, 24, .inl q_kind')), (ra 4, .inl (kI, 24, .inl q_salt')), (ra 5, .inl (kI, 24, .inl q_pace')), (ra 6, .inl (kI, 24, .inl q_mute')), (ra 7, .inl (kI, 24, .inl q_late')), (ra 8, .inl (kI, 40, .inl q_from')), (ra 9, .inl (kI, 40, .inl q_to')), (ra 10, .inl (kI, 6, .inl q_goal')), (ra 13, .inl (kI, 700, .inl q_tape)), (ra 0, .inl (kS, 4, .inr (.inr (.inr (.inr q_words))))), (ra 1, .inl (kS, 4, .inr (.inr (.inr (.inr q_kinds)))))] t.heap ∧ va_D (va_A [(m0, .inr (11, oX11 ra x0)), (ra 2, .inl (kI, 8, .inl q_told)), (ra 3, .inl (kI, 24, .inl q_kind)), (ra 4, .inl (kI, 24, .inl q_salt)), (ra 5, .inl (kI, 24, .inl q_pace)), (ra 6, .inl (kI, 24, .inl q_mute)), (ra 7, .inl (kI, 24, .inl q_late)), (ra 8, .inl (kI, 40, .inl q_from)), (ra 9, .inl (kI, 40, .inl q_to)), (ra 10, .inl (kI, 6, .inl q_goal)), (ra 13, .inl (kI, 700, .inl q_tape)), (ra 0, .inl (kS, 4, .inr (.inr (.inr (.inr q_words))))), (ra 1, .inl (kS, 4, .inr (.inr (.inr (.inr q_kinds)))))] sz) [(m0, .inr (11, oX11 ra x0')), (ra 2, .inl (kI, 8, .inl q_told')), (ra 3, .inl (kI, 24, .inl q_kind')), (ra 4, .inl (kI, 24, .inl q_salt')), (ra 5, .inl (kI, 24, .inl q_pace')), (ra 6, .inl (kI, 24, .inl q_mute')), (ra 7, .inl (kI, 24, .inl q_late')), (ra 8, .inl (kI, 40, .inl q_from')), (ra 9, .inl (kI, 40, .inl q_to')), (ra 10, .inl (kI, 6, .inl q_goal')), (ra 13, .inl (kI, 700, .inl q_tape)), (ra 0, .inl (kS, 4, .inr (.inr (.inr (.inr q_words))))), (ra 1, .inl (kS, 4, .inr (.inr (.inr (.inr q_kinds)))))]) (va_A [(m0, .inr (11, oX11 ra x0)), (ra 2, .inl (kI, 8, .inl q_told)), (ra 3, .inl (kI, 24, .inl q_kind)), (ra 4, .inl (kI, 24, .inl q_salt)), (ra 5, .inl (kI, 24, .inl q_pace)), (ra 6, .inl (kI, 24, .inl q_mute)), (ra 7, .inl (kI, 24, .inl q_late)), (ra 8, .inl (kI, 40, .inl q_from)), (ra 9, .inl (kI, 40, .inl q_to)), (ra 10, .inl (kI, 6, .inl q_goal)), (ra 13, .inl (kI, 700, .inl q_tape)), (ra 0, .inl (kS, 4, .inr (.inr (.inr (.inr q_words))))), (ra 1, .inl (kS, 4, .inr (.inr (.inr (.inr q_kinds)))))] sz)) 0 0 (va_A [(m0, .inr (11, oX11 ra x0)), (ra 2, .inl (kI, 8, .inl q_told)), (ra 3, .inl (kI, 24, .inl q_kind)), (ra 4, .inl (kI, 24, .inl q_salt)), (ra 5, .inl (kI, 24, .inl q_pace)), (ra 6, .inl (kI, 24, .inl q_mute)), (ra 7, .inl (kI, 24, .inl q_late)), (ra 8, .inl (kI, 40, .inl q_from)), (ra 9, .inl (kI, 40, .inl q_to)), (ra 10, .inl (kI, 6, .inl q_goal)), (ra 13, .inl (kI, 700, .inl q_tape)), (ra 0, .inl (kS, 4, .inr (.inr (.inr (.inr q_words))))), (ra 1, .inl (kS, 4, .inr (.inr (.inr (.inr q_kinds)))))] sz) := by
  refine Met.ofW (cc := cX11_readClause) (maxL := 2) (ret := none) (by decide) rfl ?_
  intro p e s m args0 below meth c s₁ B hml hv
  obtain ⟨hargs, hsz, hP, hE, hD0, hKL⟩ := hv
  have hx := B.exec
  have hb := B.bytes
  have hr := B.returns
  have hts := atoms_spec (ws := wsX11_readClause) B.pre
  have hown : s.vm.findClass RX11 = some m.cls := findClass_of_methodNamed B.named
  have hlocks := B.notSynchronized
  have hK := hE.1
  have hin11 : ∀ w ∈ wsX110, w ∈ wsX11_readClause := fun _ h9 => List.mem_cons_of_mem _ (List.mem_append_right _ h9)
  have hw_0 := hts (.fieldLink RX11 17 "PathProberModel" "words" "[Ljava/lang/String;") (List.mem_of_getElem? (i := 1) rfl)
  have hw_1 := hts (.fieldLink RX11 184 "PathProberModel" "bad" "I") (List.mem_of_getElem? (i := 3) rfl)
  have hw_2 := hts (.fieldLink RX11 161 "PathProberModel" "token" "I") (List.mem_of_getElem? (i := 4) rfl)
  have hw_3 := hts (.fieldLink RX11 34 "PathProberModel" "told" "[I") (List.mem_of_getElem? (i := 2) rfl)
  subst hsz
  have hD := hD0.self (sz := s.heap.size)
  generalize hAe : va_A [(m0, .inr (11, oX11 ra x0)), (ra 2, .inl (kI, 8, .inl q_told)), (ra 3, .inl (kI, 24, .inl q_kind)), (ra 4, .inl (kI, 24, .inl q_salt)), (ra 5, .inl (kI, 24, .inl q_pace)), (ra 6, .inl (kI, 24, .inl q_mute)), (ra 7, .inl (kI, 24, .inl q_late)), (ra 8, .inl (kI, 40, .inl q_from)), (ra 9, .inl (kI, 40, .inl q_to)), (ra 10, .inl (kI, 6, .inl q_goal)), (ra 13, .inl (kI, 700, .inl q_tape)), (ra 0, .inl (kS, 4, .inr (.inr (.inr (.inr q_words))))), (ra 1, .inl (kS, 4, .inr (.inr (.inr (.inr q_kinds)))))] s.heap.size = A at hD hKL ⊢
  have hA : ∀ q : Nat, s.heap.size ≤ q → A q := fun q h => by rw [← hAe]; exact Or.inr h
  have hS : va_S A s.heap s.heap [] := va_S.rf
  have hP : va_P (dC, dI) vwCl [(m0, .inr (11, oX11 ra x0)), (ra 2, .inl (kI, 8, .inl q_told)), (ra 3, .inl (kI, 24, .inl q_kind)), (ra 4, .inl (kI, 24, .inl q_salt)), (ra 5, .inl (kI, 24, .inl q_pace)), (ra 6, .inl (kI, 24, .inl q_mute)), (ra 7, .inl (kI, 24, .inl q_late)), (ra 8, .inl (kI, 40, .inl q_from)), (ra 9, .inl (kI, 40, .inl q_to)), (ra 10, .inl (kI, 6, .inl q_goal)), (ra 13, .inl (kI, 700, .inl q_tape)), (ra 0, .inl (kS, 4, .inr (.inr (.inr (.inr q_words))))), (ra 1, .inl (kS, 4, .inr (.inr (.inr (.inr q_kinds)))))] s.heap := hP
  have hl := lv_entry ([.ref m0]) (n := 2) (Nat.le_of_ble_eq_true rfl)
  have hla : entryFrame m args0 2 = entryFrame m ([.ref m0] : List Value).toArray 2 := by rw [hargs]
  rw [hla, lg_entry_eq]
  generalize (lg_sl ([.ref m0]) ++ List.replicate (2 - (lg_sl ([.ref m0])).length) Slot.unset).toArray = ls at hl ⊢
  have hl : lv_has ls 2 [(0, .ref m0)] := hl
  refine lv_aload_n hx hb dX11_readClause_0 rfl (lv_at hl 0 rfl) ?_
  refine lv_aload_n hx hb dX11_readClause_1 rfl (lv_at hl 0 rfl) ?_
  refine va_get (D := (dC, dI)) (ci := 11) (v := .ref (ra 0)) (C := RX11) (T := TX11) (N := 61) hx hb hts hin11 hown hK hP 0 rfl rfl 0 (Nat.le_of_ble_eq_true rfl) hw_0 (fun _ h9 => h9) rfl dX11_readClause_2 ?_
  obtain ⟨hPc, hDc, hFc, hJn⟩ := cl_a (wc := [(m0, .inr (11, oX11 ra x0)), (ra 13, .inl (kI, 700, .inl q_tape)), (ra 0, .inl (kS, 4, .inr (.inr (.inr (.inr q_words)))))]) (wr := [(ra 2, .inl (kI, 8, .inl q_told)), (ra 3, .inl (kI, 24, .inl q_kind)), (ra 4, .inl (kI, 24, .inl q_salt)), (ra 5, .inl (kI, 24, .inl q_pace)), (ra 6, .inl (kI, 24, .inl q_mute)), (ra 7, .inl (kI, 24, .inl q_late)), (ra 8, .inl (kI, 40, .inl q_from)), (ra 9, .inl (kI, 40, .inl q_to)), (ra 10, .inl (kI, 6, .inl q_goal)), (ra 1, .inl (kS, 4, .inr (.inr (.inr (.inr q_kinds)))))]) hP hD hS hA [0, 10, 11] [1, 2, 3, 4, 5, 6, 7, 8, 9, 12] rfl rfl (by decide +kernel)
  refine va_calli (va_runV (As := [.ref (ra 0)]) (rest := []) ⟨hx, hb, hml, hown, hts⟩ (s11_which l dC dI kB kI kJ kZ kC kS s.heap.size adK adV m0 ra x0 q_tape (ra 0) q_words 0 tT nN (Sum.inr kK) (hX) (hq_tape) (by decide) (hwo) (hRr) (hTQ)) (cwV 1 hts gX11_readClause_X11_which rfl rfl rfl (by decide +kernel) ⟨Nat.le_of_ble_eq_true rfl, Nat.le_of_ble_eq_true rfl⟩) ⟨fun a U g mk q => by obtain ⟨q0, q1, qP, qE, qD, qL⟩ := q; exact ⟨q0, q1, qP, kE_call qE, qD, kL_call qL⟩, va_recv hK hP (ci := 11) (q0 := 0) rfl rfl, fun U hU hW => ⟨rfl, by rw [hU], by rw [hU]; exact hPc, kE_warm hW hE, hDc.weaken (fun _ _ _ _ => trivial), kL_at hKL hS hFc hW hU⟩⟩ rfl rfl hl.1 rfl (lv_room (Nat.le_of_ble_eq_true rfl)) dX11_readClause_5 ⟨Nat.le_of_ble_eq_true rfl, Nat.le_of_ble_eq_true rfl⟩) hS (fun q _ h => hFc q h) hFc (fun r1 u t H locs ht hvm w2 hB hz1 hk1 hS => ?_)
  obtain ⟨hP1, hD1⟩ := hB
  try dsimp only at w2
  obtain ⟨hPa, hDa⟩ := hJn (w1 := [(m0, .inr (11, oX11 ra x0)), (ra 13, .inl (kI, 700, .inl q_tape)), (ra 0, .inl (kS, 4, .inr (.inr (.inr (.inr q_words)))))]) hk1 ht hP1 hD1
  clear hP hD hPc hDc hFc hJn hP1 hD1 hk1
  have hP : va_P (dC, dI) vwCl [(ra 2, .inl (kI, 8, .inl q_told)), (ra 3, .inl (kI, 24, .inl q_kind)), (ra 4, .inl (kI, 24, .inl q_salt)), (ra 5, .inl (kI, 24, .inl q_pace)), (ra 6, .inl (kI, 24, .inl q_mute)), (ra 7, .inl (kI, 24, .inl q_late)), (ra 8, .inl (kI, 40, .inl q_from)), (ra 9, .inl (kI, 40, .inl q_to)), (ra 10, .inl (kI, 6, .inl q_goal)), (ra 1, .inl (kS, 4, .inr (.inr (.inr (.inr q_kinds))))), (m0, .inr (11, oX11 ra x0)), (ra 13, .inl (kI, 700, .inl q_tape)), (ra 0, .inl (kS, 4, .inr (.inr (.inr (.inr q_words)))))] H := hPa
  have hD : va_D A [(ra 2, .inl (kI, 8, .inl q_told)), (ra 3, .inl (kI, 24, .inl q_kind)), (ra 4, .inl (kI, 24, .inl q_salt)), (ra 5, .inl (kI, 24, .inl q_pace)), (ra 6, .inl (kI, 24, .inl q_mute)), (ra 7, .inl (kI, 24, .inl q_late)), (ra 8, .inl (kI, 40, .inl q_from)), (ra 9, .inl (kI, 40, .inl q_to)), (ra 10, .inl (kI, 6, .inl q_goal)), (ra 1, .inl (kS, 4, .inr (.inr (.inr (.inr q_kinds))))), (m0, .inr (11, oX11 ra x0)), (ra 13, .inl (kI, 700, .inl q_tape)), (ra 0, .inl (kS, 4, .inr (.inr (.inr (.inr q_words)))))] := hDa
  clear hPa hDa
  refine W.widen (k := 0) (n := 0) (Nat.le_of_ble_eq_true rfl) (Nat.le_of_ble_eq_true rfl) ?_
  have hwk := w2.2
  refine lv_istore_n (lv' := [(1, .int r1), (0, .ref m0)]) hx hb dX11_readClause_8 rfl hl (Nat.le_of_ble_eq_true rfl) rfl (fun ls hl => ?_)
  refine lv_iload_n hx hb dX11_readClause_9 rfl (lv_at hl 0 rfl) ?_
  refine lv_iconst (v := (-1)) hx hb dX11_readClause_10 ic_m1 ?_
  refine lv_icmp_ne (tgt := 19) hx hb dX11_readClause_11 rfl (fun c3 => ?_) (fun c3 => ?_)
  · have b4 : iv 0 3 r1 := iv_neLo c3 w2.1 ivk_m1 (by decide) (by decide)
    refine lv_iload_n hx hb dX11_readClause_19 rfl (lv_at hl 0 rfl) ?_
    refine lv_iconst (v := 3) hx hb dX11_readClause_20 ic_3 ?_
    refine lv_icmp_ne (tgt := 40) hx hb dX11_readClause_21 rfl (fun c5 => ?_) (fun c5 => ?_)
    · have b6 : iv 0 2 r1 := iv_neHi c5 b4 ivk_3 (by decide) (by decide)
      refine lv_iload_n hx hb dX11_readClause_40 rfl (lv_at hl 0 rfl) ?_
      refine lv_if_ne (tgt := 48) hx hb dX11_readClause_41 rfl (fun c7 => ?_) (fun c7 => ?_)
      · have b8 : iv 1 2 r1 := iv_neLo c7 b6 ivk_0 (by decide) (by decide)
        refine lv_iload_n hx hb dX11_readClause_48 rfl (lv_at hl 0 rfl) ?_
        refine lv_iconst (v := 1) hx hb dX11_readClause_49 ic_1 ?_
        refine lv_icmp_ne (tgt := 57) hx hb dX11_readClause_50 rfl (fun c9 => ?_) (fun c9 => ?_)
        · have b10 : iv 2 2 r1 := iv_neLo c9 b8 ivk_1 (by decide) (by decide)
          refine lv_iload_n hx hb dX11_readClause_57 rfl (lv_at hl 0 rfl) ?_
          refine lv_iconst (v := 2) hx hb dX11_readClause_58 ic_2 ?_
          refine lv_icmp_ne (tgt := 66) hx hb dX11_readClause_59 rfl (fun c11 => ?_) (fun c11 => ?_)
          · refine lv_iload_n hx hb dX11_readClause_66 rfl (lv_at hl 0 rfl) ?_
            refine lv_iconst (v := 3) hx hb dX11_readClause_67 ic_3 ?_
            refine lv_icmp_ne (tgt := 96) hx hb dX11_readClause_68 rfl (fun _ => ?_) (fun c9 => absurd c9 (c5))
            exact absurd (iv_one b10 (by decide)) c11
          · refine lv_aload_n hx hb dX11_readClause_62 rfl (lv_at hl 1 rfl) ?_
            obtain ⟨hPc, hDc, hFc, hJn⟩ := cl_a (wc := [(m0, .inr (11, oX11 ra x0)), (ra 2, .inl (kI, 8, .inl q_told)), (ra 10, .inl (kI, 6, .inl q_goal)), (ra 13, .inl (kI, 700, .inl q_tape))]) (wr := [(ra 3, .inl (kI, 24, .inl q_kind)), (ra 4, .inl (kI, 24, .inl q_salt)), (ra 5, .inl (kI, 24, .inl q_pace)), (ra 6, .inl (kI, 24, .inl q_mute)), (ra 7, .inl (kI, 24, .inl q_late)), (ra 8, .inl (kI, 40, .inl q_from)), (ra 9, .inl (kI, 40, .inl q_to)), (ra 1, .inl (kS, 4, .inr (.inr (.inr (.inr q_kinds))))), (ra 0, .inl (kS, 4, .inr (.inr (.inr (.inr q_words)))))]) hP hD hS hA [10, 0, 8, 11] [1, 2, 3, 4, 5, 6, 7, 9, 12] rfl rfl (by decide +kernel)
            refine va_callv (va_runV (As := []) (rest := []) ⟨hx, hb, hml, hown, hts⟩ (s11_readGoal l dC dI kB kI kJ kZ kC kS H.size m0 ra x0 q_told q_from q_to q_goal q_tape tT nN (Sum.inr kK) (hX) (hq_told) (hq_goal) (hq_tape) (hLT) (hLD) (hRr) (hTQ)) (cwV 0 hts gX11_readClause_X11_readGoal rfl rfl rfl (by decide +kernel) ⟨Nat.le_of_ble_eq_true rfl, Nat.le_of_ble_eq_true rfl⟩) ⟨fun a U g mk q => by obtain ⟨q0, q1, qP, qE, qD⟩ := q; exact ⟨q0, q1, qP, kE_call qE, qD⟩, va_recv hK hP (ci := 11) (q0 := 10) rfl rfl, fun U hU hW => ⟨rfl, by rw [hU], by rw [hU]; exact hPc, kE_warm hW hE, hDc.weaken (fun _ _ _ _ => trivial)⟩⟩ rfl rfl hl.1 rfl (lv_room (Nat.le_of_ble_eq_true rfl)) dX11_readClause_63 ⟨Nat.le_of_ble_eq_true rfl, Nat.le_of_ble_eq_true rfl⟩) hS (fun q _ h => hFc q h) hFc (fun u t H locs ht hvm w13 hB hz1 hk1 hS => ?_)
            obtain ⟨y14, f15, f16, hq17, hq18, hq19, hq20, hq21, hq22, hq23, hq24, hq25, hq26, hq27, hq28, hq29, hq30, hq31, hP1, hD1⟩ := hB
            try dsimp only at w13
            obtain ⟨hPa, hDa⟩ := hJn (w1 := [(m0, .inr (11, oX11 ra y14)), (ra 2, .inl (kI, 8, .inl f15)), (ra 10, .inl (kI, 6, .inl f16)), (ra 13, .inl (kI, 700, .inl q_tape))]) hk1 ht hP1 hD1
            clear hP hD hPc hDc hFc hJn hP1 hD1 hk1
            have hP : va_P (dC, dI) vwCl [(ra 3, .inl (kI, 24, .inl q_kind)), (ra 4, .inl (kI, 24, .inl q_salt)), (ra 5, .inl (kI, 24, .inl q_pace)), (ra 6, .inl (kI, 24, .inl q_mute)), (ra 7, .inl (kI, 24, .inl q_late)), (ra 8, .inl (kI, 40, .inl q_from)), (ra 9, .inl (kI, 40, .inl q_to)), (ra 1, .inl (kS, 4, .inr (.inr (.inr (.inr q_kinds))))), (ra 0, .inl (kS, 4, .inr (.inr (.inr (.inr q_words))))), (m0, .inr (11, oX11 ra y14)), (ra 2, .inl (kI, 8, .inl f15)), (ra 10, .inl (kI, 6, .inl f16)), (ra 13, .inl (kI, 700, .inl q_tape))] H := hPa
            have hD : va_D A [(ra 3, .inl (kI, 24, .inl q_kind)), (ra 4, .inl (kI, 24, .inl q_salt)), (ra 5, .inl (kI, 24, .inl q_pace)), (ra 6, .inl (kI, 24, .inl q_mute)), (ra 7, .inl (kI, 24, .inl q_late)), (ra 8, .inl (kI, 40, .inl q_from)), (ra 9, .inl (kI, 40, .inl q_to)), (ra 1, .inl (kS, 4, .inr (.inr (.inr (.inr q_kinds))))), (ra 0, .inl (kS, 4, .inr (.inr (.inr (.inr q_words))))), (m0, .inr (11, oX11 ra y14)), (ra 2, .inl (kI, 8, .inl f15)), (ra 10, .inl (kI, 6, .inl f16)), (ra 13, .inl (kI, 700, .inl q_tape))] := hDa
            clear hPa hDa
            refine W.widen (k := 0) (n := 0) (Nat.le_of_ble_eq_true rfl) (Nat.le_of_ble_eq_true rfl) ?_
            refine lv_iload_n hx hb dX11_readClause_66 rfl (lv_at hl 0 rfl) ?_
            refine lv_iconst (v := 3) hx hb dX11_readClause_67 ic_3 ?_
            refine lv_icmp_ne (tgt := 96) hx hb dX11_readClause_68 rfl (fun _ => ?_) (fun c9 => absurd c9 (c5))
            have hck : clsK tT kK = 2 := (wh_c.symm.trans (hwk.symm.trans c11))
            have hrr32 : RRd tT nN y14 (clsM tT nN kK (NR q_told q_kind q_salt q_pace q_mute q_late q_from q_to q_goal)) := (cm_2 (N := NR q_told q_kind q_salt q_pace q_mute q_late q_from q_to q_goal) hck) ▸ hq24
            refine lv_aload_n hx hb dX11_readClause_96 rfl (lv_at hl 1 rfl) ?_
            refine va_get (D := (dC, dI)) (ci := 11) (v := .int (y14 8)) (C := RX11) (T := TX11) (N := 61) hx hb hts hin11 hown hK hP 9 rfl rfl 22 (Nat.le_of_ble_eq_true rfl) hw_1 (fun _ h9 => h9) rfl dX11_readClause_97 ?_
            refine lv_if_ne (tgt := 116) hx hb dX11_readClause_100 rfl (fun c33 => ?_) (fun c33 => ?_)
            · have b34 : iv 1 5 (y14 8) := iv_neLo c33 (hq17 8 : iv 0 5 (y14 8)) ivk_0 (by decide) (by decide)
              have hrr35 : RRd tT nN y14 (sgnT (clsM tT nN kK (NR q_told q_kind q_salt q_pace q_mute q_late q_from q_to q_goal))) := (sr_a hrr32 (Or.inl c33)) ▸ hrr32
              refine lv_aload_n hx hb dX11_readClause_116 rfl (lv_at hl 1 rfl) ?_
              refine va_get (D := (dC, dI)) (ci := 11) (v := .int (y14 8)) (C := RX11) (T := TX11) (N := 61) hx hb hts hin11 hown hK hP 9 rfl rfl 22 (Nat.le_of_ble_eq_true rfl) hw_1 (fun _ h9 => h9) rfl dX11_readClause_117 ?_
              refine lv_if_ne (tgt := 127) hx hb dX11_readClause_120 rfl (fun _ => ?_) (fun c9 => absurd c9 (c33))
              have hPD9 := cl_s (wc := [(m0, .inr (11, oX11 ra y14)), (ra 2, .inl (kI, 8, .inl f15)), (ra 3, .inl (kI, 24, .inl q_kind)), (ra 4, .inl (kI, 24, .inl q_salt)), (ra 5, .inl (kI, 24, .inl q_pace)), (ra 6, .inl (kI, 24, .inl q_mute)), (ra 7, .inl (kI, 24, .inl q_late)), (ra 8, .inl (kI, 40, .inl q_from)), (ra 9, .inl (kI, 40, .inl q_to)), (ra 10, .inl (kI, 6, .inl f16)), (ra 13, .inl (kI, 700, .inl q_tape)), (ra 0, .inl (kS, 4, .inr (.inr (.inr (.inr q_words))))), (ra 1, .inl (kS, 4, .inr (.inr (.inr (.inr q_kinds)))))]) hP hD [9, 10, 0, 1, 2, 3, 4, 5, 6, 11, 12, 8, 7] rfl (by decide +kernel)
              have hP9 := hPD9.1
              have hD9 := hPD9.2
              exact W.vret hx hb hr (fun t ht hW => ⟨⟨(), rfl, trivial, y14, f15, q_kind, q_salt, q_pace, q_mute, q_late, q_from, q_to, f16, hq17, hq18, hq_salt, hq_from, hq_to, hq19, (show (x0 2).toInt ≤ (y14 2).toInt from by omega), (show y14 3 = x0 3 from hq21), (show ∀ j : Nat, (j : Int) < (f15 1).toInt → (q_from j).toInt < (q_to j).toInt from hq22), (show ∀ j : Nat, (j : Int) < (f15 5).toInt → (q_from (20 + j)).toInt < (q_to (20 + j)).toInt from hq23), (show ¬ y14 8 = 0 ∨ y14 4 = 0 ∨ (x0 2).toInt + 1 ≤ (y14 2).toInt from Or.inl (iv_ne b34 ivk_0 (by decide))), (show RRd tT nN y14 (clsS tT nN kK (NR q_told q_kind q_salt q_pace q_mute q_late q_from q_to q_goal)) from rr_stepN hrr35 c33), (show y14 8 = 0 → NR f15 q_kind q_salt q_pace q_mute q_late q_from q_to f16 = clsN tT nN kK (NR q_told q_kind q_salt q_pace q_mute q_late q_from q_to q_goal) from fun w => absurd w c33), (show LowT q_told q_from q_to f15 q_from q_to from hq26), (show Lw12 q_kind q_kind from lw12_0), (show Lw12 q_salt q_salt from lw12_0), (show Lw3 q_goal f16 from hq27), (show y14 1 = x0 1 from hq28), (show y14 10 = x0 10 from hq29), (show y14 11 = x0 11 from hq30), (show y14 14 = x0 14 from hq31), by rw [ht]; exact hP9, hD9⟩, hS.F ht⟩) hS.2.2 dX11_readClause_127
            · have b36 : iv 0 0 (y14 8) := iv_eqL c33 ivk_0
              refine lv_aload_n hx hb dX11_readClause_103 rfl (lv_at hl 1 rfl) ?_
              refine va_get (D := (dC, dI)) (ci := 11) (v := .int (y14 4)) (C := RX11) (T := TX11) (N := 61) hx hb hts hin11 hown hK hP 9 rfl rfl 18 (Nat.le_of_ble_eq_true rfl) hw_2 (fun _ h9 => h9) rfl dX11_readClause_104 ?_
              refine lv_iconst (v := 3) hx hb dX11_readClause_107 ic_3 ?_
              refine lv_icmp_eq (tgt := 116) hx hb dX11_readClause_108 rfl (fun c37 => ?_) (fun c37 => ?_)
              · have b38 : iv 3 3 (y14 4) := iv_eqL c37 ivk_3
                have hrr39 : RRd tT nN y14 (sgnT (clsM tT nN kK (NR q_told q_kind q_salt q_pace q_mute q_late q_from q_to q_goal))) := (sr_a hrr32 (Or.inr c37)) ▸ hrr32
                refine lv_aload_n hx hb dX11_readClause_116 rfl (lv_at hl 1 rfl) ?_
                refine va_get (D := (dC, dI)) (ci := 11) (v := .int (y14 8)) (C := RX11) (T := TX11) (N := 61) hx hb hts hin11 hown hK hP 9 rfl rfl 22 (Nat.le_of_ble_eq_true rfl) hw_1 (fun _ h9 => h9) rfl dX11_readClause_117 ?_
                refine lv_if_ne (tgt := 127) hx hb dX11_readClause_120 rfl (fun c9 => absurd (c33) c9) (fun _ => ?_)
                refine lv_aload_n hx hb dX11_readClause_123 rfl (lv_at hl 1 rfl) ?_
                obtain ⟨hPc, hDc, hFc, hJn⟩ := cl_a (wc := [(m0, .inr (11, oX11 ra y14)), (ra 13, .inl (kI, 700, .inl q_tape))]) (wr := [(ra 3, .inl (kI, 24, .inl q_kind)), (ra 4, .inl (kI, 24, .inl q_salt)), (ra 5, .inl (kI, 24, .inl q_pace)), (ra 6, .inl (kI, 24, .inl q_mute)), (ra 7, .inl (kI, 24, .inl q_late)), (ra 8, .inl (kI, 40, .inl q_from)), (ra 9, .inl (kI, 40, .inl q_to)), (ra 1, .inl (kS, 4, .inr (.inr (.inr (.inr q_kinds))))), (ra 0, .inl (kS, 4, .inr (.inr (.inr (.inr q_words))))), (ra 2, .inl (kI, 8, .inl f15)), (ra 10, .inl (kI, 6, .inl f16))]) hP hD hS hA [9, 12] [0, 1, 2, 3, 4, 5, 6, 7, 8, 10, 11] rfl rfl (by decide +kernel)
                refine va_callv (va_runV (As := []) (rest := []) ⟨hx, hb, hml, hown, hts⟩ (s11_stepOn l dC dI kB kI kJ kZ kC kS H.size m0 ra y14 q_tape tT nN (nextT tT nN (sgnT (clsM tT nN kK (NR q_told q_kind q_salt q_pace q_mute q_late q_from q_to q_goal)))) (hq17) (hq_tape) (hrr39.2) (stp_of hrr39) (hTQ)) (cwV 0 hts gX11_readClause_X11_stepOn rfl rfl rfl (by decide +kernel) ⟨Nat.le_of_ble_eq_true rfl, Nat.le_of_ble_eq_true rfl⟩) ⟨fun a U g mk q => by obtain ⟨q0, q1, qP, qE, qD⟩ := q; exact ⟨q0, q1, qP, kE_call qE, qD⟩, va_recv hK hP (ci := 11) (q0 := 9) rfl rfl, fun U hU hW => ⟨rfl, by rw [hU], by rw [hU]; exact hPc, kE_warm hW hE, hDc.weaken (fun _ _ _ _ => trivial)⟩⟩ rfl rfl hl.1 rfl (lv_room (Nat.le_of_ble_eq_true rfl)) dX11_readClause_124 ⟨Nat.le_of_ble_eq_true rfl, Nat.le_of_ble_eq_true rfl⟩) hS (fun q _ h => hFc q h) hFc (fun u t H locs ht hvm w41 hB hz1 hk1 hS => ?_)
                obtain ⟨y42, hq43, hq44, hq45, hq46, hq47, hq48, hq49, hq50, hq51, hP1, hD1⟩ := hB
                try dsimp only at w41
                obtain ⟨hPa, hDa⟩ := hJn (w1 := [(m0, .inr (11, oX11 ra y42)), (ra 13, .inl (kI, 700, .inl q_tape))]) hk1 ht hP1 hD1
                clear hP hD hPc hDc hFc hJn hP1 hD1 hk1
                have hP : va_P (dC, dI) vwCl [(ra 3, .inl (kI, 24, .inl q_kind)), (ra 4, .inl (kI, 24, .inl q_salt)), (ra 5, .inl (kI, 24, .inl q_pace)), (ra 6, .inl (kI, 24, .inl q_mute)), (ra 7, .inl (kI, 24, .inl q_late)), (ra 8, .inl (kI, 40, .inl q_from)), (ra 9, .inl (kI, 40, .inl q_to)), (ra 1, .inl (kS, 4, .inr (.inr (.inr (.inr q_kinds))))), (ra 0, .inl (kS, 4, .inr (.inr (.inr (.inr q_words))))), (ra 2, .inl (kI, 8, .inl f15)), (ra 10, .inl (kI, 6, .inl f16)), (m0, .inr (11, oX11 ra y42)), (ra 13, .inl (kI, 700, .inl q_tape))] H := hPa
                have hD : va_D A [(ra 3, .inl (kI, 24, .inl q_kind)), (ra 4, .inl (kI, 24, .inl q_salt)), (ra 5, .inl (kI, 24, .inl q_pace)), (ra 6, .inl (kI, 24, .inl q_mute)), (ra 7, .inl (kI, 24, .inl q_late)), (ra 8, .inl (kI, 40, .inl q_from)), (ra 9, .inl (kI, 40, .inl q_to)), (ra 1, .inl (kS, 4, .inr (.inr (.inr (.inr q_kinds))))), (ra 0, .inl (kS, 4, .inr (.inr (.inr (.inr q_words))))), (ra 2, .inl (kI, 8, .inl f15)), (ra 10, .inl (kI, 6, .inl f16)), (m0, .inr (11, oX11 ra y42)), (ra 13, .inl (kI, 700, .inl q_tape))] := hDa
                clear hPa hDa
                refine W.widen (k := 0) (n := 0) (Nat.le_of_ble_eq_true rfl) (Nat.le_of_ble_eq_true rfl) ?_
                have hPD9 := cl_s (wc := [(m0, .inr (11, oX11 ra y42)), (ra 2, .inl (kI, 8, .inl f15)), (ra 3, .inl (kI, 24, .inl q_kind)), (ra 4, .inl (kI, 24, .inl q_salt)), (ra 5, .inl (kI, 24, .inl q_pace)), (ra 6, .inl (kI, 24, .inl q_mute)), (ra 7, .inl (kI, 24, .inl q_late)), (ra 8, .inl (kI, 40, .inl q_from)), (ra 9, .inl (kI, 40, .inl q_to)), (ra 10, .inl (kI, 6, .inl f16)), (ra 13, .inl (kI, 700, .inl q_tape)), (ra 0, .inl (kS, 4, .inr (.inr (.inr (.inr q_words))))), (ra 1, .inl (kS, 4, .inr (.inr (.inr (.inr q_kinds)))))]) hP hD [11, 9, 0, 1, 2, 3, 4, 5, 6, 10, 12, 8, 7] rfl (by decide +kernel)
                have hP9 := hPD9.1
                have hD9 := hPD9.2
                exact W.vret hx hb hr (fun t ht hW => ⟨⟨(), rfl, trivial, y42, f15, q_kind, q_salt, q_pace, q_mute, q_late, q_from, q_to, f16, hq43, hq18, hq_salt, hq_from, hq_to, hq19, (show (x0 2).toInt ≤ (y42 2).toInt from by omega), (show y42 3 = x0 3 from hq45.trans (hq21)), (show ∀ j : Nat, (j : Int) < (f15 1).toInt → (q_from j).toInt < (q_to j).toInt from hq22), (show ∀ j : Nat, (j : Int) < (f15 5).toInt → (q_from (20 + j)).toInt < (q_to (20 + j)).toInt from hq23), (show ¬ y42 8 = 0 ∨ y42 4 = 0 ∨ (x0 2).toInt + 1 ≤ (y42 2).toInt from Or.inr (hq46.imp_right (fun w => by omega))), (show RRd tT nN y42 (clsS tT nN kK (NR q_told q_kind q_salt q_pace q_mute q_late q_from q_to q_goal)) from hq47), (show y42 8 = 0 → NR f15 q_kind q_salt q_pace q_mute q_late q_from q_to f16 = clsN tT nN kK (NR q_told q_kind q_salt q_pace q_mute q_late q_from q_to q_goal) from fun _ => nq_g hck (iv_w (hq_told 6 : iv 0 3 (q_told 6)) (by decide) (by decide)) (hq25 c33)), (show LowT q_told q_from q_to f15 q_from q_to from hq26), (show Lw12 q_kind q_kind from lw12_0), (show Lw12 q_salt q_salt from lw12_0), (show Lw3 q_goal f16 from hq27), (show y42 1 = x0 1 from hq48.trans (hq28)), (show y42 10 = x0 10 from hq49.trans (hq29)), (show y42 11 = x0 11 from hq50.trans (hq30)), (show y42 14 = x0 14 from hq51.trans (hq31)), by rw [ht]; exact hP9, hD9⟩, hS.F ht⟩) hS.2.2 dX11_readClause_127
              · refine lv_aload_n hx hb dX11_readClause_111 rfl (lv_at hl 1 rfl) ?_
                refine lv_iconst (v := 1) hx hb dX11_readClause_112 ic_1 ?_
                obtain ⟨hPc, hDc, hFc, hJn⟩ := cl_a (wc := [(m0, .inr (11, oX11 ra y14))]) (wr := [(ra 3, .inl (kI, 24, .inl q_kind)), (ra 4, .inl (kI, 24, .inl q_salt)), (ra 5, .inl (kI, 24, .inl q_pace)), (ra 6, .inl (kI, 24, .inl q_mute)), (ra 7, .inl (kI, 24, .inl q_late)), (ra 8, .inl (kI, 40, .inl q_from)), (ra 9, .inl (kI, 40, .inl q_to)), (ra 1, .inl (kS, 4, .inr (.inr (.inr (.inr q_kinds))))), (ra 0, .inl (kS, 4, .inr (.inr (.inr (.inr q_words))))), (ra 2, .inl (kI, 8, .inl f15)), (ra 10, .inl (kI, 6, .inl f16)), (ra 13, .inl (kI, 700, .inl q_tape))]) hP hD hS hA [9] [0, 1, 2, 3, 4, 5, 6, 7, 8, 10, 11, 12] rfl rfl (by decide +kernel)
                refine va_callv (va_runV (As := [.int 1]) (rest := []) ⟨hx, hb, hml, hown, hts⟩ (s11_wrong l dC dI kB kI kJ kZ kC kS H.size m0 ra y14 1 tT nN (clsM tT nN kK (NR q_told q_kind q_salt q_pace q_mute q_late q_from q_to q_goal)) (hq17) ((iv_w ivk_1 (by decide) (by decide))) (hrr32)) (cwV 1 hts gX11_readClause_X11_wrong rfl rfl rfl (by decide +kernel) ⟨Nat.le_of_ble_eq_true rfl, Nat.le_of_ble_eq_true rfl⟩) ⟨fun a U g mk q => by obtain ⟨q0, q1, qP, qE, qD⟩ := q; exact ⟨q0, q1, qP, kE_call qE, qD⟩, va_recv hK hP (ci := 11) (q0 := 9) rfl rfl, fun U hU hW => ⟨rfl, by rw [hU], by rw [hU]; exact hPc, kE_warm hW hE, hDc.weaken (fun _ _ _ _ => trivial)⟩⟩ rfl rfl hl.1 rfl (lv_room (Nat.le_of_ble_eq_true rfl)) dX11_readClause_113 ⟨Nat.le_of_ble_eq_true rfl, Nat.le_of_ble_eq_true rfl⟩) hS (fun q _ h => hFc q h) hFc (fun u t H locs ht hvm w53 hB hz1 hk1 hS => ?_)
                obtain ⟨y54, hq55, hq56, hq57, hq58, hq59, hq60, hq61, hq62, hq63, hP1, hD1⟩ := hB
                try dsimp only at w53
                obtain ⟨hPa, hDa⟩ := hJn (w1 := [(m0, .inr (11, oX11 ra y54))]) hk1 ht hP1 hD1
                clear hP hD hPc hDc hFc hJn hP1 hD1 hk1
                have hP : va_P (dC, dI) vwCl [(ra 3, .inl (kI, 24, .inl q_kind)), (ra 4, .inl (kI, 24, .inl q_salt)), (ra 5, .inl (kI, 24, .inl q_pace)), (ra 6, .inl (kI, 24, .inl q_mute)), (ra 7, .inl (kI, 24, .inl q_late)), (ra 8, .inl (kI, 40, .inl q_from)), (ra 9, .inl (kI, 40, .inl q_to)), (ra 1, .inl (kS, 4, .inr (.inr (.inr (.inr q_kinds))))), (ra 0, .inl (kS, 4, .inr (.inr (.inr (.inr q_words))))), (ra 2, .inl (kI, 8, .inl f15)), (ra 10, .inl (kI, 6, .inl f16)), (ra 13, .inl (kI, 700, .inl q_tape)), (m0, .inr (11, oX11 ra y54))] H := hPa
                have hD : va_D A [(ra 3, .inl (kI, 24, .inl q_kind)), (ra 4, .inl (kI, 24, .inl q_salt)), (ra 5, .inl (kI, 24, .inl q_pace)), (ra 6, .inl (kI, 24, .inl q_mute)), (ra 7, .inl (kI, 24, .inl q_late)), (ra 8, .inl (kI, 40, .inl q_from)), (ra 9, .inl (kI, 40, .inl q_to)), (ra 1, .inl (kS, 4, .inr (.inr (.inr (.inr q_kinds))))), (ra 0, .inl (kS, 4, .inr (.inr (.inr (.inr q_words))))), (ra 2, .inl (kI, 8, .inl f15)), (ra 10, .inl (kI, 6, .inl f16)), (ra 13, .inl (kI, 700, .inl q_tape)), (m0, .inr (11, oX11 ra y54))] := hDa
                clear hPa hDa
                refine W.widen (k := 0) (n := 0) (Nat.le_of_ble_eq_true rfl) (Nat.le_of_ble_eq_true rfl) ?_
                have hrr64 : RRd tT nN y54 (sgnT (clsM tT nN kK (NR q_told q_kind q_salt q_pace q_mute q_late q_from q_to q_goal))) := (sr_c hrr32 c37) ▸ hq59
                refine lv_aload_n hx hb dX11_readClause_116 rfl (lv_at hl 1 rfl) ?_
                refine va_get (D := (dC, dI)) (ci := 11) (v := .int (y54 8)) (C := RX11) (T := TX11) (N := 61) hx hb hts hin11 hown hK hP 12 rfl rfl 22 (Nat.le_of_ble_eq_true rfl) hw_1 (fun _ h9 => h9) rfl dX11_readClause_117 ?_
                refine lv_if_ne (tgt := 127) hx hb dX11_readClause_120 rfl (fun _ => ?_) (fun c9 => absurd c9 (iv_ne hq56 ivk_0 (by decide)))
                have hPD9 := cl_s (wc := [(m0, .inr (11, oX11 ra y54)), (ra 2, .inl (kI, 8, .inl f15)), (ra 3, .inl (kI, 24, .inl q_kind)), (ra 4, .inl (kI, 24, .inl q_salt)), (ra 5, .inl (kI, 24, .inl q_pace)), (ra 6, .inl (kI, 24, .inl q_mute)), (ra 7, .inl (kI, 24, .inl q_late)), (ra 8, .inl (kI, 40, .inl q_from)), (ra 9, .inl (kI, 40, .inl q_to)), (ra 10, .inl (kI, 6, .inl f16)), (ra 13, .inl (kI, 700, .inl q_tape)), (ra 0, .inl (kS, 4, .inr (.inr (.inr (.inr q_words))))), (ra 1, .inl (kS, 4, .inr (.inr (.inr (.inr q_kinds)))))]) hP hD [12, 9, 0, 1, 2, 3, 4, 5, 6, 10, 11, 8, 7] rfl (by decide +kernel)
                have hP9 := hPD9.1
                have hD9 := hPD9.2
                exact W.vret hx hb hr (fun t ht hW => ⟨⟨(), rfl, trivial, y54, f15, q_kind, q_salt, q_pace, q_mute, q_late, q_from, q_to, f16, hq55, hq18, hq_salt, hq_from, hq_to, hq19, (show (x0 2).toInt ≤ (y54 2).toInt from by omega), (show y54 3 = x0 3 from hq58.trans (hq21)), (show ∀ j : Nat, (j : Int) < (f15 1).toInt → (q_from j).toInt < (q_to j).toInt from hq22), (show ∀ j : Nat, (j : Int) < (f15 5).toInt → (q_from (20 + j)).toInt < (q_to (20 + j)).toInt from hq23), (show ¬ y54 8 = 0 ∨ y54 4 = 0 ∨ (x0 2).toInt + 1 ≤ (y54 2).toInt from Or.inl (iv_ne hq56 ivk_0 (by decide))), (show RRd tT nN y54 (clsS tT nN kK (NR q_told q_kind q_salt q_pace q_mute q_late q_from q_to q_goal)) from rr_stepN hrr64 (iv_ne hq56 ivk_0 (by decide))), (show y54 8 = 0 → NR f15 q_kind q_salt q_pace q_mute q_late q_from q_to f16 = clsN tT nN kK (NR q_told q_kind q_salt q_pace q_mute q_late q_from q_to q_goal) from fun w => absurd w (iv_ne hq56 ivk_0 (by decide))), (show LowT q_told q_from q_to f15 q_from q_to from hq26), (show Lw12 q_kind q_kind from lw12_0), (show Lw12 q_salt q_salt from lw12_0), (show Lw3 q_goal f16 from hq27), (show y54 1 = x0 1 from hq60.trans (hq28)), (show y54 10 = x0 10 from hq61.trans (hq29)), (show y54 11 = x0 11 from hq62.trans (hq30)), (show y54 14 = x0 14 from hq63.trans (hq31)), by rw [ht]; exact hP9, hD9⟩, hS.F ht⟩) hS.2.2 dX11_readClause_127
        · have b65 : iv 1 1 r1 := iv_eqL c9 ivk_1
          refine lv_aload_n hx hb dX11_readClause_53 rfl (lv_at hl 1 rfl) ?_
          obtain ⟨hPc, hDc, hFc, hJn⟩ := cl_a (wc := [(m0, .inr (11, oX11 ra x0)), (ra 2, .inl (kI, 8, .inl q_told)), (ra 8, .inl (kI, 40, .inl q_from)), (ra 9, .inl (kI, 40, .inl q_to)), (ra 13, .inl (kI, 700, .inl q_tape))]) (wr := [(ra 3, .inl (kI, 24, .inl q_kind)), (ra 4, .inl (kI, 24, .inl q_salt)), (ra 5, .inl (kI, 24, .inl q_pace)), (ra 6, .inl (kI, 24, .inl q_mute)), (ra 7, .inl (kI, 24, .inl q_late)), (ra 10, .inl (kI, 6, .inl q_goal)), (ra 1, .inl (kS, 4, .inr (.inr (.inr (.inr q_kinds))))), (ra 0, .inl (kS, 4, .inr (.inr (.inr (.inr q_words)))))]) hP hD hS hA [10, 0, 6, 7, 11] [1, 2, 3, 4, 5, 8, 9, 12] rfl rfl (by decide +kernel)
          refine va_callv (va_runV (As := []) (rest := []) ⟨hx, hb, hml, hown, hts⟩ (s11_readLink l dC dI kB kI kJ kZ kC kS H.size m0 ra x0 q_told q_from q_to q_tape tT nN (Sum.inr kK) (hX) (hq_told) (hq_from) (hq_to) (hq_tape) (hLT) (hLD) (hRr) (hTQ)) (cwV 0 hts gX11_readClause_X11_readLink rfl rfl rfl (by decide +kernel) ⟨Nat.le_of_ble_eq_true rfl, Nat.le_of_ble_eq_true rfl⟩) ⟨fun a U g mk q => by obtain ⟨q0, q1, qP, qE, qD⟩ := q; exact ⟨q0, q1, qP, kE_call qE, qD⟩, va_recv hK hP (ci := 11) (q0 := 10) rfl rfl, fun U hU hW => ⟨rfl, by rw [hU], by rw [hU]; exact hPc, kE_warm hW hE, hDc.weaken (fun _ _ _ _ => trivial)⟩⟩ rfl rfl hl.1 rfl (lv_room (Nat.le_of_ble_eq_true rfl)) dX11_readClause_54 ⟨Nat.le_of_ble_eq_true rfl, Nat.le_of_ble_eq_true rfl⟩) hS (fun q _ h => hFc q h) hFc (fun u t H locs ht hvm w67 hB hz1 hk1 hS => ?_)
          obtain ⟨y68, f69, f70, f71, hq72, hq73, hq74, hq75, hq76, hq77, hq78, hq79, hq80, hq81, hq82, hq83, hq84, hq85, hq86, hP1, hD1⟩ := hB
          try dsimp only at w67
          obtain ⟨hPa, hDa⟩ := hJn (w1 := [(m0, .inr (11, oX11 ra y68)), (ra 2, .inl (kI, 8, .inl f69)), (ra 8, .inl (kI, 40, .inl f70)), (ra 9, .inl (kI, 40, .inl f71)), (ra 13, .inl (kI, 700, .inl q_tape))]) hk1 ht hP1 hD1
          clear hP hD hPc hDc hFc hJn hP1 hD1 hk1
          have hP : va_P (dC, dI) vwCl [(ra 3, .inl (kI, 24, .inl q_kind)), (ra 4, .inl (kI, 24, .inl q_salt)), (ra 5, .inl (kI, 24, .inl q_pace)), (ra 6, .inl (kI, 24, .inl q_mute)), (ra 7, .inl (kI, 24, .inl q_late)), (ra 10, .inl (kI, 6, .inl q_goal)), (ra 1, .inl (kS, 4, .inr (.inr (.inr (.inr q_kinds))))), (ra 0, .inl (kS, 4, .inr (.inr (.inr (.inr q_words))))), (m0, .inr (11, oX11 ra y68)), (ra 2, .inl (kI, 8, .inl f69)), (ra 8, .inl (kI, 40, .inl f70)), (ra 9, .inl (kI, 40, .inl f71)), (ra 13, .inl (kI, 700, .inl q_tape))] H := hPa
          have hD : va_D A [(ra 3, .inl (kI, 24, .inl q_kind)), (ra 4, .inl (kI, 24, .inl q_salt)), (ra 5, .inl (kI, 24, .inl q_pace)), (ra 6, .inl (kI, 24, .inl q_mute)), (ra 7, .inl (kI, 24, .inl q_late)), (ra 10, .inl (kI, 6, .inl q_goal)), (ra 1, .inl (kS, 4, .inr (.inr (.inr (.inr q_kinds))))), (ra 0, .inl (kS, 4, .inr (.inr (.inr (.inr q_words))))), (m0, .inr (11, oX11 ra y68)), (ra 2, .inl (kI, 8, .inl f69)), (ra 8, .inl (kI, 40, .inl f70)), (ra 9, .inl (kI, 40, .inl f71)), (ra 13, .inl (kI, 700, .inl q_tape))] := hDa
          clear hPa hDa
          refine W.widen (k := 0) (n := 0) (Nat.le_of_ble_eq_true rfl) (Nat.le_of_ble_eq_true rfl) ?_
          refine lv_iload_n hx hb dX11_readClause_57 rfl (lv_at hl 0 rfl) ?_
          refine lv_iconst (v := 2) hx hb dX11_readClause_58 ic_2 ?_
          refine lv_icmp_ne (tgt := 66) hx hb dX11_readClause_59 rfl (fun _ => ?_) (fun c9 => absurd c9 (iv_ne b65 ivk_2 (by decide)))
          refine lv_iload_n hx hb dX11_readClause_66 rfl (lv_at hl 0 rfl) ?_
          refine lv_iconst (v := 3) hx hb dX11_readClause_67 ic_3 ?_
          refine lv_icmp_ne (tgt := 96) hx hb dX11_readClause_68 rfl (fun _ => ?_) (fun c9 => absurd c9 (c5))
          have hck : clsK tT kK = 1 := (wh_c.symm.trans (hwk.symm.trans c9))
          have hrr87 : RRd tT nN y68 (clsM tT nN kK (NR q_told q_kind q_salt q_pace q_mute q_late q_from q_to q_goal)) := (cm_1 (N := NR q_told q_kind q_salt q_pace q_mute q_late q_from q_to q_goal) hck) ▸ hq80
          refine lv_aload_n hx hb dX11_readClause_96 rfl (lv_at hl 1 rfl) ?_
          refine va_get (D := (dC, dI)) (ci := 11) (v := .int (y68 8)) (C := RX11) (T := TX11) (N := 61) hx hb hts hin11 hown hK hP 8 rfl rfl 22 (Nat.le_of_ble_eq_true rfl) hw_1 (fun _ h9 => h9) rfl dX11_readClause_97 ?_
          refine lv_if_ne (tgt := 116) hx hb dX11_readClause_100 rfl (fun c88 => ?_) (fun c88 => ?_)
          · have b89 : iv 1 5 (y68 8) := iv_neLo c88 (hq72 8 : iv 0 5 (y68 8)) ivk_0 (by decide) (by decide)
            have hrr90 : RRd tT nN y68 (sgnT (clsM tT nN kK (NR q_told q_kind q_salt q_pace q_mute q_late q_from q_to q_goal))) := (sr_a hrr87 (Or.inl c88)) ▸ hrr87
            refine lv_aload_n hx hb dX11_readClause_116 rfl (lv_at hl 1 rfl) ?_
            refine va_get (D := (dC, dI)) (ci := 11) (v := .int (y68 8)) (C := RX11) (T := TX11) (N := 61) hx hb hts hin11 hown hK hP 8 rfl rfl 22 (Nat.le_of_ble_eq_true rfl) hw_1 (fun _ h9 => h9) rfl dX11_readClause_117 ?_
            refine lv_if_ne (tgt := 127) hx hb dX11_readClause_120 rfl (fun _ => ?_) (fun c9 => absurd c9 (c88))
            have hPD9 := cl_s (wc := [(m0, .inr (11, oX11 ra y68)), (ra 2, .inl (kI, 8, .inl f69)), (ra 3, .inl (kI, 24, .inl q_kind)), (ra 4, .inl (kI, 24, .inl q_salt)), (ra 5, .inl (kI, 24, .inl q_pace)), (ra 6, .inl (kI, 24, .inl q_mute)), (ra 7, .inl (kI, 24, .inl q_late)), (ra 8, .inl (kI, 40, .inl f70)), (ra 9, .inl (kI, 40, .inl f71)), (ra 10, .inl (kI, 6, .inl q_goal)), (ra 13, .inl (kI, 700, .inl q_tape)), (ra 0, .inl (kS, 4, .inr (.inr (.inr (.inr q_words))))), (ra 1, .inl (kS, 4, .inr (.inr (.inr (.inr q_kinds)))))]) hP hD [8, 9, 0, 1, 2, 3, 4, 10, 11, 5, 12, 7, 6] rfl (by decide +kernel)
            have hP9 := hPD9.1
            have hD9 := hPD9.2
            exact W.vret hx hb hr (fun t ht hW => ⟨⟨(), rfl, trivial, y68, f69, q_kind, q_salt, q_pace, q_mute, q_late, f70, f71, q_goal, hq72, hq73, hq_salt, hq74, hq75, hq_goal, (show (x0 2).toInt ≤ (y68 2).toInt from by omega), (show y68 3 = x0 3 from hq77), (show ∀ j : Nat, (j : Int) < (f69 1).toInt → (f70 j).toInt < (f71 j).toInt from hq78), (show ∀ j : Nat, (j : Int) < (f69 5).toInt → (f70 (20 + j)).toInt < (f71 (20 + j)).toInt from hq79), (show ¬ y68 8 = 0 ∨ y68 4 = 0 ∨ (x0 2).toInt + 1 ≤ (y68 2).toInt from Or.inl (iv_ne b89 ivk_0 (by decide))), (show RRd tT nN y68 (clsS tT nN kK (NR q_told q_kind q_salt q_pace q_mute q_late q_from q_to q_goal)) from rr_stepN hrr90 c88), (show y68 8 = 0 → NR f69 q_kind q_salt q_pace q_mute q_late f70 f71 q_goal = clsN tT nN kK (NR q_told q_kind q_salt q_pace q_mute q_late q_from q_to q_goal) from fun w => absurd w c88), (show LowT q_told q_from q_to f69 f70 f71 from hq82), (show Lw12 q_kind q_kind from lw12_0), (show Lw12 q_salt q_salt from lw12_0), (show Lw3 q_goal q_goal from lw3_0), (show y68 1 = x0 1 from hq83), (show y68 10 = x0 10 from hq84), (show y68 11 = x0 11 from hq85), (show y68 14 = x0 14 from hq86), by rw [ht]; exact hP9, hD9⟩, hS.F ht⟩) hS.2.2 dX11_readClause_127
          · have b91 : iv 0 0 (y68 8) := iv_eqL c88 ivk_0
            refine lv_aload_n hx hb dX11_readClause_103 rfl (lv_at hl 1 rfl) ?_
            refine va_get (D := (dC, dI)) (ci := 11) (v := .int (y68 4)) (C := RX11) (T := TX11) (N := 61) hx hb hts hin11 hown hK hP 8 rfl rfl 18 (Nat.le_of_ble_eq_true rfl) hw_2 (fun _ h9 => h9) rfl dX11_readClause_104 ?_
            refine lv_iconst (v := 3) hx hb dX11_readClause_107 ic_3 ?_
            refine lv_icmp_eq (tgt := 116) hx hb dX11_readClause_108 rfl (fun c92 => ?_) (fun c92 => ?_)
            · have b93 : iv 3 3 (y68 4) := iv_eqL c92 ivk_3
              have hrr94 : RRd tT nN y68 (sgnT (clsM tT nN kK (NR q_told q_kind q_salt q_pace q_mute q_late q_from q_to q_goal))) := (sr_a hrr87 (Or.inr c92)) ▸ hrr87
              refine lv_aload_n hx hb dX11_readClause_116 rfl (lv_at hl 1 rfl) ?_
              refine va_get (D := (dC, dI)) (ci := 11) (v := .int (y68 8)) (C := RX11) (T := TX11) (N := 61) hx hb hts hin11 hown hK hP 8 rfl rfl 22 (Nat.le_of_ble_eq_true rfl) hw_1 (fun _ h9 => h9) rfl dX11_readClause_117 ?_
              refine lv_if_ne (tgt := 127) hx hb dX11_readClause_120 rfl (fun c9 => absurd (c88) c9) (fun _ => ?_)
              refine lv_aload_n hx hb dX11_readClause_123 rfl (lv_at hl 1 rfl) ?_
              obtain ⟨hPc, hDc, hFc, hJn⟩ := cl_a (wc := [(m0, .inr (11, oX11 ra y68)), (ra 13, .inl (kI, 700, .inl q_tape))]) (wr := [(ra 3, .inl (kI, 24, .inl q_kind)), (ra 4, .inl (kI, 24, .inl q_salt)), (ra 5, .inl (kI, 24, .inl q_pace)), (ra 6, .inl (kI, 24, .inl q_mute)), (ra 7, .inl (kI, 24, .inl q_late)), (ra 10, .inl (kI, 6, .inl q_goal)), (ra 1, .inl (kS, 4, .inr (.inr (.inr (.inr q_kinds))))), (ra 0, .inl (kS, 4, .inr (.inr (.inr (.inr q_words))))), (ra 2, .inl (kI, 8, .inl f69)), (ra 8, .inl (kI, 40, .inl f70)), (ra 9, .inl (kI, 40, .inl f71))]) hP hD hS hA [8, 12] [0, 1, 2, 3, 4, 5, 6, 7, 9, 10, 11] rfl rfl (by decide +kernel)
              refine va_callv (va_runV (As := []) (rest := []) ⟨hx, hb, hml, hown, hts⟩ (s11_stepOn l dC dI kB kI kJ kZ kC kS H.size m0 ra y68 q_tape tT nN (nextT tT nN (sgnT (clsM tT nN kK (NR q_told q_kind q_salt q_pace q_mute q_late q_from q_to q_goal)))) (hq72) (hq_tape) (hrr94.2) (stp_of hrr94) (hTQ)) (cwV 0 hts gX11_readClause_X11_stepOn rfl rfl rfl (by decide +kernel) ⟨Nat.le_of_ble_eq_true rfl, Nat.le_of_ble_eq_true rfl⟩) ⟨fun a U g mk q => by obtain ⟨q0, q1, qP, qE, qD⟩ := q; exact ⟨q0, q1, qP, kE_call qE, qD⟩, va_recv hK hP (ci := 11) (q0 := 8) rfl rfl, fun U hU hW => ⟨rfl, by rw [hU], by rw [hU]; exact hPc, kE_warm hW hE, hDc.weaken (fun _ _ _ _ => trivial)⟩⟩ rfl rfl hl.1 rfl (lv_room (Nat.le_of_ble_eq_true rfl)) dX11_readClause_124 ⟨Nat.le_of_ble_eq_true rfl, Nat.le_of_ble_eq_true rfl⟩) hS (fun q _ h => hFc q h) hFc (fun u t H locs ht hvm w96 hB hz1 hk1 hS => ?_)
              obtain ⟨y97, hq98, hq99, hq100, hq101, hq102, hq103, hq104, hq105, hq106, hP1, hD1⟩ := hB
              try dsimp only at w96
              obtain ⟨hPa, hDa⟩ := hJn (w1 := [(m0, .inr (11, oX11 ra y97)), (ra 13, .inl (kI, 700, .inl q_tape))]) hk1 ht hP1 hD1
              clear hP hD hPc hDc hFc hJn hP1 hD1 hk1
              have hP : va_P (dC, dI) vwCl [(ra 3, .inl (kI, 24, .inl q_kind)), (ra 4, .inl (kI, 24, .inl q_salt)), (ra 5, .inl (kI, 24, .inl q_pace)), (ra 6, .inl (kI, 24, .inl q_mute)), (ra 7, .inl (kI, 24, .inl q_late)), (ra 10, .inl (kI, 6, .inl q_goal)), (ra 1, .inl (kS, 4, .inr (.inr (.inr (.inr q_kinds))))), (ra 0, .inl (kS, 4, .inr (.inr (.inr (.inr q_words))))), (ra 2, .inl (kI, 8, .inl f69)), (ra 8, .inl (kI, 40, .inl f70)), (ra 9, .inl (kI, 40, .inl f71)), (m0, .inr (11, oX11 ra y97)), (ra 13, .inl (kI, 700, .inl q_tape))] H := hPa
              have hD : va_D A [(ra 3, .inl (kI, 24, .inl q_kind)), (ra 4, .inl (kI, 24, .inl q_salt)), (ra 5, .inl (kI, 24, .inl q_pace)), (ra 6, .inl (kI, 24, .inl q_mute)), (ra 7, .inl (kI, 24, .inl q_late)), (ra 10, .inl (kI, 6, .inl q_goal)), (ra 1, .inl (kS, 4, .inr (.inr (.inr (.inr q_kinds))))), (ra 0, .inl (kS, 4, .inr (.inr (.inr (.inr q_words))))), (ra 2, .inl (kI, 8, .inl f69)), (ra 8, .inl (kI, 40, .inl f70)), (ra 9, .inl (kI, 40, .inl f71)), (m0, .inr (11, oX11 ra y97)), (ra 13, .inl (kI, 700, .inl q_tape))] := hDa
              clear hPa hDa
              refine W.widen (k := 0) (n := 0) (Nat.le_of_ble_eq_true rfl) (Nat.le_of_ble_eq_true rfl) ?_
              have hPD9 := cl_s (wc := [(m0, .inr (11, oX11 ra y97)), (ra 2, .inl (kI, 8, .inl f69)), (ra 3, .inl (kI, 24, .inl q_kind)), (ra 4, .inl (kI, 24, .inl q_salt)), (ra 5, .inl (kI, 24, .inl q_pace)), (ra 6, .inl (kI, 24, .inl q_mute)), (ra 7, .inl (kI, 24, .inl q_late)), (ra 8, .inl (kI, 40, .inl f70)), (ra 9, .inl (kI, 40, .inl f71)), (ra 10, .inl (kI, 6, .inl q_goal)), (ra 13, .inl (kI, 700, .inl q_tape)), (ra 0, .inl (kS, 4, .inr (.inr (.inr (.inr q_words))))), (ra 1, .inl (kS, 4, .inr (.inr (.inr (.inr q_kinds)))))]) hP hD [11, 8, 0, 1, 2, 3, 4, 9, 10, 5, 12, 7, 6] rfl (by decide +kernel)
              have hP9 := hPD9.1
              have hD9 := hPD9.2
              exact W.vret hx hb hr (fun t ht hW => ⟨⟨(), rfl, trivial, y97, f69, q_kind, q_salt, q_pace, q_mute, q_late, f70, f71, q_goal, hq98, hq73, hq_salt, hq74, hq75, hq_goal, (show (x0 2).toInt ≤ (y97 2).toInt from by omega), (show y97 3 = x0 3 from hq100.trans (hq77)), (show ∀ j : Nat, (j : Int) < (f69 1).toInt → (f70 j).toInt < (f71 j).toInt from hq78), (show ∀ j : Nat, (j : Int) < (f69 5).toInt → (f70 (20 + j)).toInt < (f71 (20 + j)).toInt from hq79), (show ¬ y97 8 = 0 ∨ y97 4 = 0 ∨ (x0 2).toInt + 1 ≤ (y97 2).toInt from Or.inr (hq101.imp_right (fun w => by omega))), (show RRd tT nN y97 (clsS tT nN kK (NR q_told q_kind q_salt q_pace q_mute q_late q_from q_to q_goal)) from hq102), (show y97 8 = 0 → NR f69 q_kind q_salt q_pace q_mute q_late f70 f71 q_goal = clsN tT nN kK (NR q_told q_kind q_salt q_pace q_mute q_late q_from q_to q_goal) from fun _ => nq_l hck (hq_told 5 : iv 0 20 (q_told 5)) (hq81 c88)), (show LowT q_told q_from q_to f69 f70 f71 from hq82), (show Lw12 q_kind q_kind from lw12_0), (show Lw12 q_salt q_salt from lw12_0), (show Lw3 q_goal q_goal from lw3_0), (show y97 1 = x0 1 from hq103.trans (hq83)), (show y97 10 = x0 10 from hq104.trans (hq84)), (show y97 11 = x0 11 from hq105.trans (hq85)), (show y97 14 = x0 14 from hq106.trans (hq86)), by rw [ht]; exact hP9, hD9⟩, hS.F ht⟩) hS.2.2 dX11_readClause_127
            · refine lv_aload_n hx hb dX11_readClause_111 rfl (lv_at hl 1 rfl) ?_
              refine lv_iconst (v := 1) hx hb dX11_readClause_112 ic_1 ?_
              obtain ⟨hPc, hDc, hFc, hJn⟩ := cl_a (wc := [(m0, .inr (11, oX11 ra y68))]) (wr := [(ra 3, .inl (kI, 24, .inl q_kind)), (ra 4, .inl (kI, 24, .inl q_salt)), (ra 5, .inl (kI, 24, .inl q_pace)), (ra 6, .inl (kI, 24, .inl q_mute)), (ra 7, .inl (kI, 24, .inl q_late)), (ra 10, .inl (kI, 6, .inl q_goal)), (ra 1, .inl (kS, 4, .inr (.inr (.inr (.inr q_kinds))))), (ra 0, .inl (kS, 4, .inr (.inr (.inr (.inr q_words))))), (ra 2, .inl (kI, 8, .inl f69)), (ra 8, .inl (kI, 40, .inl f70)), (ra 9, .inl (kI, 40, .inl f71)), (ra 13, .inl (kI, 700, .inl q_tape))]) hP hD hS hA [8] [0, 1, 2, 3, 4, 5, 6, 7, 9, 10, 11, 12] rfl rfl (by decide +kernel)
              refine va_callv (va_runV (As := [.int 1]) (rest := []) ⟨hx, hb, hml, hown, hts⟩ (s11_wrong l dC dI kB kI kJ kZ kC kS H.size m0 ra y68 1 tT nN (clsM tT nN kK (NR q_told q_kind q_salt q_pace q_mute q_late q_from q_to q_goal)) (hq72) ((iv_w ivk_1 (by decide) (by decide))) (hrr87)) (cwV 1 hts gX11_readClause_X11_wrong rfl rfl rfl (by decide +kernel) ⟨Nat.le_of_ble_eq_true rfl, Nat.le_of_ble_eq_true rfl⟩) ⟨fun a U g mk q => by obtain ⟨q0, q1, qP, qE, qD⟩ := q; exact ⟨q0, q1, qP, kE_call qE, qD⟩, va_recv hK hP (ci := 11) (q0 := 8) rfl rfl, fun U hU hW => ⟨rfl, by rw [hU], by rw [hU]; exact hPc, kE_warm hW hE, hDc.weaken (fun _ _ _ _ => trivial)⟩⟩ rfl rfl hl.1 rfl (lv_room (Nat.le_of_ble_eq_true rfl)) dX11_readClause_113 ⟨Nat.le_of_ble_eq_true rfl, Nat.le_of_ble_eq_true rfl⟩) hS (fun q _ h => hFc q h) hFc (fun u t H locs ht hvm w108 hB hz1 hk1 hS => ?_)
              obtain ⟨y109, hq110, hq111, hq112, hq113, hq114, hq115, hq116, hq117, hq118, hP1, hD1⟩ := hB
              try dsimp only at w108
              obtain ⟨hPa, hDa⟩ := hJn (w1 := [(m0, .inr (11, oX11 ra y109))]) hk1 ht hP1 hD1
              clear hP hD hPc hDc hFc hJn hP1 hD1 hk1
              have hP : va_P (dC, dI) vwCl [(ra 3, .inl (kI, 24, .inl q_kind)), (ra 4, .inl (kI, 24, .inl q_salt)), (ra 5, .inl (kI, 24, .inl q_pace)), (ra 6, .inl (kI, 24, .inl q_mute)), (ra 7, .inl (kI, 24, .inl q_late)), (ra 10, .inl (kI, 6, .inl q_goal)), (ra 1, .inl (kS, 4, .inr (.inr (.inr (.inr q_kinds))))), (ra 0, .inl (kS, 4, .inr (.inr (.inr (.inr q_words))))), (ra 2, .inl (kI, 8, .inl f69)), (ra 8, .inl (kI, 40, .inl f70)), (ra 9, .inl (kI, 40, .inl f71)), (ra 13, .inl (kI, 700, .inl q_tape)), (m0, .inr (11, oX11 ra y109))] H := hPa
              have hD : va_D A [(ra 3, .inl (kI, 24, .inl q_kind)), (ra 4, .inl (kI, 24, .inl q_salt)), (ra 5, .inl (kI, 24, .inl q_pace)), (ra 6, .inl (kI, 24, .inl q_mute)), (ra 7, .inl (kI, 24, .inl q_late)), (ra 10, .inl (kI, 6, .inl q_goal)), (ra 1, .inl (kS, 4, .inr (.inr (.inr (.inr q_kinds))))), (ra 0, .inl (kS, 4, .inr (.inr (.inr (.inr q_words))))), (ra 2, .inl (kI, 8, .inl f69)), (ra 8, .inl (kI, 40, .inl f70)), (ra 9, .inl (kI, 40, .inl f71)), (ra 13, .inl (kI, 700, .inl q_tape)), (m0, .inr (11, oX11 ra y109))] := hDa
              clear hPa hDa
              refine W.widen (k := 0) (n := 0) (Nat.le_of_ble_eq_true rfl) (Nat.le_of_ble_eq_true rfl) ?_
              have hrr119 : RRd tT nN y109 (sgnT (clsM tT nN kK (NR q_told q_kind q_salt q_pace q_mute q_late q_from q_to q_goal))) := (sr_c hrr87 c92) ▸ hq114
              refine lv_aload_n hx hb dX11_readClause_116 rfl (lv_at hl 1 rfl) ?_
              refine va_get (D := (dC, dI)) (ci := 11) (v := .int (y109 8)) (C := RX11) (T := TX11) (N := 61) hx hb hts hin11 hown hK hP 12 rfl rfl 22 (Nat.le_of_ble_eq_true rfl) hw_1 (fun _ h9 => h9) rfl dX11_readClause_117 ?_
              refine lv_if_ne (tgt := 127) hx hb dX11_readClause_120 rfl (fun _ => ?_) (fun c9 => absurd c9 (iv_ne hq111 ivk_0 (by decide)))
              have hPD9 := cl_s (wc := [(m0, .inr (11, oX11 ra y109)), (ra 2, .inl (kI, 8, .inl f69)), (ra 3, .inl (kI, 24, .inl q_kind)), (ra 4, .inl (kI, 24, .inl q_salt)), (ra 5, .inl (kI, 24, .inl q_pace)), (ra 6, .inl (kI, 24, .inl q_mute)), (ra 7, .inl (kI, 24, .inl q_late)), (ra 8, .inl (kI, 40, .inl f70)), (ra 9, .inl (kI, 40, .inl f71)), (ra 10, .inl (kI, 6, .inl q_goal)), (ra 13, .inl (kI, 700, .inl q_tape)), (ra 0, .inl (kS, 4, .inr (.inr (.inr (.inr q_words))))), (ra 1, .inl (kS, 4, .inr (.inr (.inr (.inr q_kinds)))))]) hP hD [12, 8, 0, 1, 2, 3, 4, 9, 10, 5, 11, 7, 6] rfl (by decide +kernel)
              have hP9 := hPD9.1
              have hD9 := hPD9.2
              exact W.vret hx hb hr (fun t ht hW => ⟨⟨(), rfl, trivial, y109, f69, q_kind, q_salt, q_pace, q_mute, q_late, f70, f71, q_goal, hq110, hq73, hq_salt, hq74, hq75, hq_goal, (show (x0 2).toInt ≤ (y109 2).toInt from by omega), (show y109 3 = x0 3 from hq113.trans (hq77)), (show ∀ j : Nat, (j : Int) < (f69 1).toInt → (f70 j).toInt < (f71 j).toInt from hq78), (show ∀ j : Nat, (j : Int) < (f69 5).toInt → (f70 (20 + j)).toInt < (f71 (20 + j)).toInt from hq79), (show ¬ y109 8 = 0 ∨ y109 4 = 0 ∨ (x0 2).toInt + 1 ≤ (y109 2).toInt from Or.inl (iv_ne hq111 ivk_0 (by decide))), (show RRd tT nN y109 (clsS tT nN kK (NR q_told q_kind q_salt q_pace q_mute q_late q_from q_to q_goal)) from rr_stepN hrr119 (iv_ne hq111 ivk_0 (by decide))), (show y109 8 = 0 → NR f69 q_kind q_salt q_pace q_mute q_late f70 f71 q_goal = clsN tT nN kK (NR q_told q_kind q_salt q_pace q_mute q_late q_from q_to q_goal) from fun w => absurd w (iv_ne hq111 ivk_0 (by decide))), (show LowT q_told q_from q_to f69 f70 f71 from hq82), (show Lw12 q_kind q_kind from lw12_0), (show Lw12 q_salt q_salt from lw12_0), (show Lw3 q_goal q_goal from lw3_0), (show y109 1 = x0 1 from hq115.trans (hq83)), (show y109 10 = x0 10 from hq116.trans (hq84)), (show y109 11 = x0 11 from hq117.trans (hq85)), (show y109 14 = x0 14 from hq118.trans (hq86)), by rw [ht]; exact hP9, hD9⟩, hS.F ht⟩) hS.2.2 dX11_readClause_127
      · have b120 : iv 0 0 r1 := iv_eqL c7 ivk_0
        refine lv_aload_n hx hb dX11_readClause_44 rfl (lv_at hl 1 rfl) ?_
        obtain ⟨hPc, hDc, hFc, hJn⟩ := cl_a (wc := [(m0, .inr (11, oX11 ra x0)), (ra 2, .inl (kI, 8, .inl q_told)), (ra 3, .inl (kI, 24, .inl q_kind)), (ra 4, .inl (kI, 24, .inl q_salt)), (ra 5, .inl (kI, 24, .inl q_pace)), (ra 6, .inl (kI, 24, .inl q_mute)), (ra 7, .inl (kI, 24, .inl q_late)), (ra 13, .inl (kI, 700, .inl q_tape)), (ra 1, .inl (kS, 4, .inr (.inr (.inr (.inr q_kinds)))))]) (wr := [(ra 8, .inl (kI, 40, .inl q_from)), (ra 9, .inl (kI, 40, .inl q_to)), (ra 10, .inl (kI, 6, .inl q_goal)), (ra 0, .inl (kS, 4, .inr (.inr (.inr (.inr q_words)))))]) hP hD hS hA [10, 0, 1, 2, 3, 4, 5, 11, 9] [6, 7, 8, 12] rfl rfl (by decide +kernel)
        refine va_callv (va_runV (As := []) (rest := []) ⟨hx, hb, hml, hown, hts⟩ (s11_readRouter l dC dI kB kI kJ kZ kC kS H.size adK adV m0 ra x0 q_told q_kind q_salt q_pace q_mute q_late q_from q_to q_tape q_words q_kinds tT nN (Sum.inr kK) (hX) (hq_told) (hq_salt) (hq_tape) (hLT) (hLD) (hwo) (hki) (hRr) (hTQ)) (cwV 0 hts gX11_readClause_X11_readRouter rfl rfl rfl (by decide +kernel) ⟨Nat.le_of_ble_eq_true rfl, Nat.le_of_ble_eq_true rfl⟩) ⟨fun a U g mk q => by obtain ⟨q0, q1, qP, qE, qD, qL⟩ := q; exact ⟨q0, q1, qP, kE_call qE, qD, kL_call qL⟩, va_recv hK hP (ci := 11) (q0 := 10) rfl rfl, fun U hU hW => ⟨rfl, by rw [hU], by rw [hU]; exact hPc, kE_warm hW hE, hDc.weaken (fun _ _ _ _ => trivial), kL_at hKL hS hFc hW hU⟩⟩ rfl rfl hl.1 rfl (lv_room (Nat.le_of_ble_eq_true rfl)) dX11_readClause_45 ⟨Nat.le_of_ble_eq_true rfl, Nat.le_of_ble_eq_true rfl⟩) hS (fun q _ h => hFc q h) hFc (fun u t H locs ht hvm w122 hB hz1 hk1 hS => ?_)
        obtain ⟨y123, f124, f125, f126, f127, f128, f129, hq130, hq131, hq132, hq133, hq134, hq135, hq136, hq137, hq138, hq139, hq140, hq141, hq142, hq143, hq144, hq145, hP1, hD1⟩ := hB
        try dsimp only at w122
        obtain ⟨hPa, hDa⟩ := hJn (w1 := [(m0, .inr (11, oX11 ra y123)), (ra 2, .inl (kI, 8, .inl f124)), (ra 3, .inl (kI, 24, .inl f125)), (ra 4, .inl (kI, 24, .inl f126)), (ra 5, .inl (kI, 24, .inl f127)), (ra 6, .inl (kI, 24, .inl f128)), (ra 7, .inl (kI, 24, .inl f129)), (ra 13, .inl (kI, 700, .inl q_tape)), (ra 1, .inl (kS, 4, .inr (.inr (.inr (.inr q_kinds)))))]) hk1 ht hP1 hD1
        clear hP hD hPc hDc hFc hJn hP1 hD1 hk1
        have hP : va_P (dC, dI) vwCl [(ra 8, .inl (kI, 40, .inl q_from)), (ra 9, .inl (kI, 40, .inl q_to)), (ra 10, .inl (kI, 6, .inl q_goal)), (ra 0, .inl (kS, 4, .inr (.inr (.inr (.inr q_words))))), (m0, .inr (11, oX11 ra y123)), (ra 2, .inl (kI, 8, .inl f124)), (ra 3, .inl (kI, 24, .inl f125)), (ra 4, .inl (kI, 24, .inl f126)), (ra 5, .inl (kI, 24, .inl f127)), (ra 6, .inl (kI, 24, .inl f128)), (ra 7, .inl (kI, 24, .inl f129)), (ra 13, .inl (kI, 700, .inl q_tape)), (ra 1, .inl (kS, 4, .inr (.inr (.inr (.inr q_kinds)))))] H := hPa
        have hD : va_D A [(ra 8, .inl (kI, 40, .inl q_from)), (ra 9, .inl (kI, 40, .inl q_to)), (ra 10, .inl (kI, 6, .inl q_goal)), (ra 0, .inl (kS, 4, .inr (.inr (.inr (.inr q_words))))), (m0, .inr (11, oX11 ra y123)), (ra 2, .inl (kI, 8, .inl f124)), (ra 3, .inl (kI, 24, .inl f125)), (ra 4, .inl (kI, 24, .inl f126)), (ra 5, .inl (kI, 24, .inl f127)), (ra 6, .inl (kI, 24, .inl f128)), (ra 7, .inl (kI, 24, .inl f129)), (ra 13, .inl (kI, 700, .inl q_tape)), (ra 1, .inl (kS, 4, .inr (.inr (.inr (.inr q_kinds)))))] := hDa
        clear hPa hDa
        refine W.widen (k := 0) (n := 0) (Nat.le_of_ble_eq_true rfl) (Nat.le_of_ble_eq_true rfl) ?_
        refine lv_iload_n hx hb dX11_readClause_48 rfl (lv_at hl 0 rfl) ?_
        refine lv_iconst (v := 1) hx hb dX11_readClause_49 ic_1 ?_
        refine lv_icmp_ne (tgt := 57) hx hb dX11_readClause_50 rfl (fun _ => ?_) (fun c9 => absurd c9 (iv_ne b120 ivk_1 (by decide)))
        refine lv_iload_n hx hb dX11_readClause_57 rfl (lv_at hl 0 rfl) ?_
        refine lv_iconst (v := 2) hx hb dX11_readClause_58 ic_2 ?_
        refine lv_icmp_ne (tgt := 66) hx hb dX11_readClause_59 rfl (fun _ => ?_) (fun c9 => absurd c9 (iv_ne b120 ivk_2 (by decide)))
        refine lv_iload_n hx hb dX11_readClause_66 rfl (lv_at hl 0 rfl) ?_
        refine lv_iconst (v := 3) hx hb dX11_readClause_67 ic_3 ?_
        refine lv_icmp_ne (tgt := 96) hx hb dX11_readClause_68 rfl (fun _ => ?_) (fun c9 => absurd c9 (c5))
        have hck : clsK tT kK = 0 := (wh_c.symm.trans (hwk.symm.trans c7))
        have hrr146 : RRd tT nN y123 (clsM tT nN kK (NR q_told q_kind q_salt q_pace q_mute q_late q_from q_to q_goal)) := (cm_0 (N := NR q_told q_kind q_salt q_pace q_mute q_late q_from q_to q_goal) hck) ▸ hq137
        refine lv_aload_n hx hb dX11_readClause_96 rfl (lv_at hl 1 rfl) ?_
        refine va_get (D := (dC, dI)) (ci := 11) (v := .int (y123 8)) (C := RX11) (T := TX11) (N := 61) hx hb hts hin11 hown hK hP 4 rfl rfl 22 (Nat.le_of_ble_eq_true rfl) hw_1 (fun _ h9 => h9) rfl dX11_readClause_97 ?_
        refine lv_if_ne (tgt := 116) hx hb dX11_readClause_100 rfl (fun c147 => ?_) (fun c147 => ?_)
        · have b148 : iv 1 5 (y123 8) := iv_neLo c147 (hq130 8 : iv 0 5 (y123 8)) ivk_0 (by decide) (by decide)
          have hrr149 : RRd tT nN y123 (sgnT (clsM tT nN kK (NR q_told q_kind q_salt q_pace q_mute q_late q_from q_to q_goal))) := (sr_a hrr146 (Or.inl c147)) ▸ hrr146
          refine lv_aload_n hx hb dX11_readClause_116 rfl (lv_at hl 1 rfl) ?_
          refine va_get (D := (dC, dI)) (ci := 11) (v := .int (y123 8)) (C := RX11) (T := TX11) (N := 61) hx hb hts hin11 hown hK hP 4 rfl rfl 22 (Nat.le_of_ble_eq_true rfl) hw_1 (fun _ h9 => h9) rfl dX11_readClause_117 ?_
          refine lv_if_ne (tgt := 127) hx hb dX11_readClause_120 rfl (fun _ => ?_) (fun c9 => absurd c9 (c147))
          have hPD9 := cl_s (wc := [(m0, .inr (11, oX11 ra y123)), (ra 2, .inl (kI, 8, .inl f124)), (ra 3, .inl (kI, 24, .inl f125)), (ra 4, .inl (kI, 24, .inl f126)), (ra 5, .inl (kI, 24, .inl f127)), (ra 6, .inl (kI, 24, .inl f128)), (ra 7, .inl (kI, 24, .inl f129)), (ra 8, .inl (kI, 40, .inl q_from)), (ra 9, .inl (kI, 40, .inl q_to)), (ra 10, .inl (kI, 6, .inl q_goal)), (ra 13, .inl (kI, 700, .inl q_tape)), (ra 0, .inl (kS, 4, .inr (.inr (.inr (.inr q_words))))), (ra 1, .inl (kS, 4, .inr (.inr (.inr (.inr q_kinds)))))]) hP hD [4, 5, 6, 7, 8, 9, 10, 0, 1, 2, 11, 3, 12] rfl (by decide +kernel)
          have hP9 := hPD9.1
          have hD9 := hPD9.2
          exact W.vret hx hb hr (fun t ht hW => ⟨⟨(), rfl, trivial, y123, f124, f125, f126, f127, f128, f129, q_from, q_to, q_goal, hq130, hq131, hq132, hq_from, hq_to, hq_goal, (show (x0 2).toInt ≤ (y123 2).toInt from by omega), (show y123 3 = x0 3 from hq134), (show ∀ j : Nat, (j : Int) < (f124 1).toInt → (q_from j).toInt < (q_to j).toInt from hq135), (show ∀ j : Nat, (j : Int) < (f124 5).toInt → (q_from (20 + j)).toInt < (q_to (20 + j)).toInt from hq136), (show ¬ y123 8 = 0 ∨ y123 4 = 0 ∨ (x0 2).toInt + 1 ≤ (y123 2).toInt from Or.inl (iv_ne b148 ivk_0 (by decide))), (show RRd tT nN y123 (clsS tT nN kK (NR q_told q_kind q_salt q_pace q_mute q_late q_from q_to q_goal)) from rr_stepN hrr149 c147), (show y123 8 = 0 → NR f124 f125 f126 f127 f128 f129 q_from q_to q_goal = clsN tT nN kK (NR q_told q_kind q_salt q_pace q_mute q_late q_from q_to q_goal) from fun w => absurd w c147), (show LowT q_told q_from q_to f124 q_from q_to from hq139), (show Lw12 q_kind f125 from hq140), (show Lw12 q_salt f126 from hq141), (show Lw3 q_goal q_goal from lw3_0), (show y123 1 = x0 1 from hq142), (show y123 10 = x0 10 from hq143), (show y123 11 = x0 11 from hq144), (show y123 14 = x0 14 from hq145), by rw [ht]; exact hP9, hD9⟩, hS.F ht⟩) hS.2.2 dX11_readClause_127
        · have b150 : iv 0 0 (y123 8) := iv_eqL c147 ivk_0
          refine lv_aload_n hx hb dX11_readClause_103 rfl (lv_at hl 1 rfl) ?_
          refine va_get (D := (dC, dI)) (ci := 11) (v := .int (y123 4)) (C := RX11) (T := TX11) (N := 61) hx hb hts hin11 hown hK hP 4 rfl rfl 18 (Nat.le_of_ble_eq_true rfl) hw_2 (fun _ h9 => h9) rfl dX11_readClause_104 ?_
          refine lv_iconst (v := 3) hx hb dX11_readClause_107 ic_3 ?_
          refine lv_icmp_eq (tgt := 116) hx hb dX11_readClause_108 rfl (fun c151 => ?_) (fun c151 => ?_)
          · have b152 : iv 3 3 (y123 4) := iv_eqL c151 ivk_3
            have hrr153 : RRd tT nN y123 (sgnT (clsM tT nN kK (NR q_told q_kind q_salt q_pace q_mute q_late q_from q_to q_goal))) := (sr_a hrr146 (Or.inr c151)) ▸ hrr146
            refine lv_aload_n hx hb dX11_readClause_116 rfl (lv_at hl 1 rfl) ?_
            refine va_get (D := (dC, dI)) (ci := 11) (v := .int (y123 8)) (C := RX11) (T := TX11) (N := 61) hx hb hts hin11 hown hK hP 4 rfl rfl 22 (Nat.le_of_ble_eq_true rfl) hw_1 (fun _ h9 => h9) rfl dX11_readClause_117 ?_
            refine lv_if_ne (tgt := 127) hx hb dX11_readClause_120 rfl (fun c9 => absurd (c147) c9) (fun _ => ?_)
            refine lv_aload_n hx hb dX11_readClause_123 rfl (lv_at hl 1 rfl) ?_
            obtain ⟨hPc, hDc, hFc, hJn⟩ := cl_a (wc := [(m0, .inr (11, oX11 ra y123)), (ra 13, .inl (kI, 700, .inl q_tape))]) (wr := [(ra 8, .inl (kI, 40, .inl q_from)), (ra 9, .inl (kI, 40, .inl q_to)), (ra 10, .inl (kI, 6, .inl q_goal)), (ra 0, .inl (kS, 4, .inr (.inr (.inr (.inr q_words))))), (ra 2, .inl (kI, 8, .inl f124)), (ra 3, .inl (kI, 24, .inl f125)), (ra 4, .inl (kI, 24, .inl f126)), (ra 5, .inl (kI, 24, .inl f127)), (ra 6, .inl (kI, 24, .inl f128)), (ra 7, .inl (kI, 24, .inl f129)), (ra 1, .inl (kS, 4, .inr (.inr (.inr (.inr q_kinds)))))]) hP hD hS hA [4, 11] [0, 1, 2, 3, 5, 6, 7, 8, 9, 10, 12] rfl rfl (by decide +kernel)
            refine va_callv (va_runV (As := []) (rest := []) ⟨hx, hb, hml, hown, hts⟩ (s11_stepOn l dC dI kB kI kJ kZ kC kS H.size m0 ra y123 q_tape tT nN (nextT tT nN (sgnT (clsM tT nN kK (NR q_told q_kind q_salt q_pace q_mute q_late q_from q_to q_goal)))) (hq130) (hq_tape) (hrr153.2) (stp_of hrr153) (hTQ)) (cwV 0 hts gX11_readClause_X11_stepOn rfl rfl rfl (by decide +kernel) ⟨Nat.le_of_ble_eq_true rfl, Nat.le_of_ble_eq_true rfl⟩) ⟨fun a U g mk q => by obtain ⟨q0, q1, qP, qE, qD⟩ := q; exact ⟨q0, q1, qP, kE_call qE, qD⟩, va_recv hK hP (ci := 11) (q0 := 4) rfl rfl, fun U hU hW => ⟨rfl, by rw [hU], by rw [hU]; exact hPc, kE_warm hW hE, hDc.weaken (fun _ _ _ _ => trivial)⟩⟩ rfl rfl hl.1 rfl (lv_room (Nat.le_of_ble_eq_true rfl)) dX11_readClause_124 ⟨Nat.le_of_ble_eq_true rfl, Nat.le_of_ble_eq_true rfl⟩) hS (fun q _ h => hFc q h) hFc (fun u t H locs ht hvm w155 hB hz1 hk1 hS => ?_)
            obtain ⟨y156, hq157, hq158, hq159, hq160, hq161, hq162, hq163, hq164, hq165, hP1, hD1⟩ := hB
            try dsimp only at w155
            obtain ⟨hPa, hDa⟩ := hJn (w1 := [(m0, .inr (11, oX11 ra y156)), (ra 13, .inl (kI, 700, .inl q_tape))]) hk1 ht hP1 hD1
            clear hP hD hPc hDc hFc hJn hP1 hD1 hk1
            have hP : va_P (dC, dI) vwCl [(ra 8, .inl (kI, 40, .inl q_from)), (ra 9, .inl (kI, 40, .inl q_to)), (ra 10, .inl (kI, 6, .inl q_goal)), (ra 0, .inl (kS, 4, .inr (.inr (.inr (.inr q_words))))), (ra 2, .inl (kI, 8, .inl f124)), (ra 3, .inl (kI, 24, .inl f125)), (ra 4, .inl (kI, 24, .inl f126)), (ra 5, .inl (kI, 24, .inl f127)), (ra 6, .inl (kI, 24, .inl f128)), (ra 7, .inl (kI, 24, .inl f129)), (ra 1, .inl (kS, 4, .inr (.inr (.inr (.inr q_kinds))))), (m0, .inr (11, oX11 ra y156)), (ra 13, .inl (kI, 700, .inl q_tape))] H := hPa
            have hD : va_D A [(ra 8, .inl (kI, 40, .inl q_from)), (ra 9, .inl (kI, 40, .inl q_to)), (ra 10, .inl (kI, 6, .inl q_goal)), (ra 0, .inl (kS, 4, .inr (.inr (.inr (.inr q_words))))), (ra 2, .inl (kI, 8, .inl f124)), (ra 3, .inl (kI, 24, .inl f125)), (ra 4, .inl (kI, 24, .inl f126)), (ra 5, .inl (kI, 24, .inl f127)), (ra 6, .inl (kI, 24, .inl f128)), (ra 7, .inl (kI, 24, .inl f129)), (ra 1, .inl (kS, 4, .inr (.inr (.inr (.inr q_kinds))))), (m0, .inr (11, oX11 ra y156)), (ra 13, .inl (kI, 700, .inl q_tape))] := hDa
            clear hPa hDa
            refine W.widen (k := 0) (n := 0) (Nat.le_of_ble_eq_true rfl) (Nat.le_of_ble_eq_true rfl) ?_
            have hPD9 := cl_s (wc := [(m0, .inr (11, oX11 ra y156)), (ra 2, .inl (kI, 8, .inl f124)), (ra 3, .inl (kI, 24, .inl f125)), (ra 4, .inl (kI, 24, .inl f126)), (ra 5, .inl (kI, 24, .inl f127)), (ra 6, .inl (kI, 24, .inl f128)), (ra 7, .inl (kI, 24, .inl f129)), (ra 8, .inl (kI, 40, .inl q_from)), (ra 9, .inl (kI, 40, .inl q_to)), (ra 10, .inl (kI, 6, .inl q_goal)), (ra 13, .inl (kI, 700, .inl q_tape)), (ra 0, .inl (kS, 4, .inr (.inr (.inr (.inr q_words))))), (ra 1, .inl (kS, 4, .inr (.inr (.inr (.inr q_kinds)))))]) hP hD [11, 4, 5, 6, 7, 8, 9, 0, 1, 2, 12, 3, 10] rfl (by decide +kernel)
            have hP9 := hPD9.1
            have hD9 := hPD9.2
            exact W.vret hx hb hr (fun t ht hW => ⟨⟨(), rfl, trivial, y156, f124, f125, f126, f127, f128, f129, q_from, q_to, q_goal, hq157, hq131, hq132, hq_from, hq_to, hq_goal, (show (x0 2).toInt ≤ (y156 2).toInt from by omega), (show y156 3 = x0 3 from hq159.trans (hq134)), (show ∀ j : Nat, (j : Int) < (f124 1).toInt → (q_from j).toInt < (q_to j).toInt from hq135), (show ∀ j : Nat, (j : Int) < (f124 5).toInt → (q_from (20 + j)).toInt < (q_to (20 + j)).toInt from hq136), (show ¬ y156 8 = 0 ∨ y156 4 = 0 ∨ (x0 2).toInt + 1 ≤ (y156 2).toInt from Or.inr (hq160.imp_right (fun w => by omega))), (show RRd tT nN y156 (clsS tT nN kK (NR q_told q_kind q_salt q_pace q_mute q_late q_from q_to q_goal)) from hq161), (show y156 8 = 0 → NR f124 f125 f126 f127 f128 f129 q_from q_to q_goal = clsN tT nN kK (NR q_told q_kind q_salt q_pace q_mute q_late q_from q_to q_goal) from fun _ => nq_r hck (iv_w (hq_told 4 : iv 0 12 (q_told 4)) (by decide) (by decide)) (rt_ok4 (rr_ok hq137 c147)) (hq138 c147)), (show LowT q_told q_from q_to f124 q_from q_to from hq139), (show Lw12 q_kind f125 from hq140), (show Lw12 q_salt f126 from hq141), (show Lw3 q_goal q_goal from lw3_0), (show y156 1 = x0 1 from hq162.trans (hq142)), (show y156 10 = x0 10 from hq163.trans (hq143)), (show y156 11 = x0 11 from hq164.trans (hq144)), (show y156 14 = x0 14 from hq165.trans (hq145)), by rw [ht]; exact hP9, hD9⟩, hS.F ht⟩) hS.2.2 dX11_readClause_127
          · refine lv_aload_n hx hb dX11_readClause_111 rfl (lv_at hl 1 rfl) ?_
            refine lv_iconst (v := 1) hx hb dX11_readClause_112 ic_1 ?_
            obtain ⟨hPc, hDc, hFc, hJn⟩ := cl_a (wc := [(m0, .inr (11, oX11 ra y123))]) (wr := [(ra 8, .inl (kI, 40, .inl q_from)), (ra 9, .inl (kI, 40, .inl q_to)), (ra 10, .inl (kI, 6, .inl q_goal)), (ra 0, .inl (kS, 4, .inr (.inr (.inr (.inr q_words))))), (ra 2, .inl (kI, 8, .inl f124)), (ra 3, .inl (kI, 24, .inl f125)), (ra 4, .inl (kI, 24, .inl f126)), (ra 5, .inl (kI, 24, .inl f127)), (ra 6, .inl (kI, 24, .inl f128)), (ra 7, .inl (kI, 24, .inl f129)), (ra 13, .inl (kI, 700, .inl q_tape)), (ra 1, .inl (kS, 4, .inr (.inr (.inr (.inr q_kinds)))))]) hP hD hS hA [4] [0, 1, 2, 3, 5, 6, 7, 8, 9, 10, 11, 12] rfl rfl (by decide +kernel)
            refine va_callv (va_runV (As := [.int 1]) (rest := []) ⟨hx, hb, hml, hown, hts⟩ (s11_wrong l dC dI kB kI kJ kZ kC kS H.size m0 ra y123 1 tT nN (clsM tT nN kK (NR q_told q_kind q_salt q_pace q_mute q_late q_from q_to q_goal)) (hq130) ((iv_w ivk_1 (by decide) (by decide))) (hrr146)) (cwV 1 hts gX11_readClause_X11_wrong rfl rfl rfl (by decide +kernel) ⟨Nat.le_of_ble_eq_true rfl, Nat.le_of_ble_eq_true rfl⟩) ⟨fun a U g mk q => by obtain ⟨q0, q1, qP, qE, qD⟩ := q; exact ⟨q0, q1, qP, kE_call qE, qD⟩, va_recv hK hP (ci := 11) (q0 := 4) rfl rfl, fun U hU hW => ⟨rfl, by rw [hU], by rw [hU]; exact hPc, kE_warm hW hE, hDc.weaken (fun _ _ _ _ => trivial)⟩⟩ rfl rfl hl.1 rfl (lv_room (Nat.le_of_ble_eq_true rfl)) dX11_readClause_113 ⟨Nat.le_of_ble_eq_true rfl, Nat.le_of_ble_eq_true rfl⟩) hS (fun q _ h => hFc q h) hFc (fun u t H locs ht hvm w167 hB hz1 hk1 hS => ?_)
            obtain ⟨y168, hq169, hq170, hq171, hq172, hq173, hq174, hq175, hq176, hq177, hP1, hD1⟩ := hB
            try dsimp only at w167
            obtain ⟨hPa, hDa⟩ := hJn (w1 := [(m0, .inr (11, oX11 ra y168))]) hk1 ht hP1 hD1
            clear hP hD hPc hDc hFc hJn hP1 hD1 hk1
            have hP : va_P (dC, dI) vwCl [(ra 8, .inl (kI, 40, .inl q_from)), (ra 9, .inl (kI, 40, .inl q_to)), (ra 10, .inl (kI, 6, .inl q_goal)), (ra 0, .inl (kS, 4, .inr (.inr (.inr (.inr q_words))))), (ra 2, .inl (kI, 8, .inl f124)), (ra 3, .inl (kI, 24, .inl f125)), (ra 4, .inl (kI, 24, .inl f126)), (ra 5, .inl (kI, 24, .inl f127)), (ra 6, .inl (kI, 24, .inl f128)), (ra 7, .inl (kI, 24, .inl f129)), (ra 13, .inl (kI, 700, .inl q_tape)), (ra 1, .inl (kS, 4, .inr (.inr (.inr (.inr q_kinds))))), (m0, .inr (11, oX11 ra y168))] H := hPa
            have hD : va_D A [(ra 8, .inl (kI, 40, .inl q_from)), (ra 9, .inl (kI, 40, .inl q_to)), (ra 10, .inl (kI, 6, .inl q_goal)), (ra 0, .inl (kS, 4, .inr (.inr (.inr (.inr q_words))))), (ra 2, .inl (kI, 8, .inl f124)), (ra 3, .inl (kI, 24, .inl f125)), (ra 4, .inl (kI, 24, .inl f126)), (ra 5, .inl (kI, 24, .inl f127)), (ra 6, .inl (kI, 24, .inl f128)), (ra 7, .inl (kI, 24, .inl f129)), (ra 13, .inl (kI, 700, .inl q_tape)), (ra 1, .inl (kS, 4, .inr (.inr (.inr (.inr q_kinds))))), (m0, .inr (11, oX11 ra y168))] := hDa
            clear hPa hDa
            refine W.widen (k := 0) (n := 0) (Nat.le_of_ble_eq_true rfl) (Nat.le_of_ble_eq_true rfl) ?_
            have hrr178 : RRd tT nN y168 (sgnT (clsM tT nN kK (NR q_told q_kind q_salt q_pace q_mute q_late q_from q_to q_goal))) := (sr_c hrr146 c151) ▸ hq173
            refine lv_aload_n hx hb dX11_readClause_116 rfl (lv_at hl 1 rfl) ?_
            refine va_get (D := (dC, dI)) (ci := 11) (v := .int (y168 8)) (C := RX11) (T := TX11) (N := 61) hx hb hts hin11 hown hK hP 12 rfl rfl 22 (Nat.le_of_ble_eq_true rfl) hw_1 (fun _ h9 => h9) rfl dX11_readClause_117 ?_
            refine lv_if_ne (tgt := 127) hx hb dX11_readClause_120 rfl (fun _ => ?_) (fun c9 => absurd c9 (iv_ne hq170 ivk_0 (by decide)))
            have hPD9 := cl_s (wc := [(m0, .inr (11, oX11 ra y168)), (ra 2, .inl (kI, 8, .inl f124)), (ra 3, .inl (kI, 24, .inl f125)), (ra 4, .inl (kI, 24, .inl f126)), (ra 5, .inl (kI, 24, .inl f127)), (ra 6, .inl (kI, 24, .inl f128)), (ra 7, .inl (kI, 24, .inl f129)), (ra 8, .inl (kI, 40, .inl q_from)), (ra 9, .inl (kI, 40, .inl q_to)), (ra 10, .inl (kI, 6, .inl q_goal)), (ra 13, .inl (kI, 700, .inl q_tape)), (ra 0, .inl (kS, 4, .inr (.inr (.inr (.inr q_words))))), (ra 1, .inl (kS, 4, .inr (.inr (.inr (.inr q_kinds)))))]) hP hD [12, 4, 5, 6, 7, 8, 9, 0, 1, 2, 10, 3, 11] rfl (by decide +kernel)
            have hP9 := hPD9.1
            have hD9 := hPD9.2
            exact W.vret hx hb hr (fun t ht hW => ⟨⟨(), rfl, trivial, y168, f124, f125, f126, f127, f128, f129, q_from, q_to, q_goal, hq169, hq131, hq132, hq_from, hq_to, hq_goal, (show (x0 2).toInt ≤ (y168 2).toInt from by omega), (show y168 3 = x0 3 from hq172.trans (hq134)), (show ∀ j : Nat, (j : Int) < (f124 1).toInt → (q_from j).toInt < (q_to j).toInt from hq135), (show ∀ j : Nat, (j : Int) < (f124 5).toInt → (q_from (20 + j)).toInt < (q_to (20 + j)).toInt from hq136), (show ¬ y168 8 = 0 ∨ y168 4 = 0 ∨ (x0 2).toInt + 1 ≤ (y168 2).toInt from Or.inl (iv_ne hq170 ivk_0 (by decide))), (show RRd tT nN y168 (clsS tT nN kK (NR q_told q_kind q_salt q_pace q_mute q_late q_from q_to q_goal)) from rr_stepN hrr178 (iv_ne hq170 ivk_0 (by decide))), (show y168 8 = 0 → NR f124 f125 f126 f127 f128 f129 q_from q_to q_goal = clsN tT nN kK (NR q_told q_kind q_salt q_pace q_mute q_late q_from q_to q_goal) from fun w => absurd w (iv_ne hq170 ivk_0 (by decide))), (show LowT q_told q_from q_to f124 q_from q_to from hq139), (show Lw12 q_kind f125 from hq140), (show Lw12 q_salt f126 from hq141), (show Lw3 q_goal q_goal from lw3_0), (show y168 1 = x0 1 from hq174.trans (hq142)), (show y168 10 = x0 10 from hq175.trans (hq143)), (show y168 11 = x0 11 from hq176.trans (hq144)), (show y168 14 = x0 14 from hq177.trans (hq145)), by rw [ht]; exact hP9, hD9⟩, hS.F ht⟩) hS.2.2 dX11_readClause_127
    · have b179 : iv 3 3 r1 := iv_eqL c5 ivk_3
      refine lv_aload_n hx hb dX11_readClause_24 rfl (lv_at hl 1 rfl) ?_
      refine va_get (D := (dC, dI)) (ci := 11) (v := .ref (ra 2)) (C := RX11) (T := TX11) (N := 61) hx hb hts hin11 hown hK hP 10 rfl rfl 3 (Nat.le_of_ble_eq_true rfl) hw_3 (fun _ h9 => h9) rfl dX11_readClause_25 ?_
      refine lv_bipush (v := 7) hx hb dX11_readClause_28 bp_7 ?_
      refine va_iald hx hb hK hP 0 1 rfl rfl (vp_in_nI (n := 7) (by decide) (by decide)) dX11_readClause_30 ?_
      refine W.eq (g2 := F0 m 31 ls [.int (q_told 7)]) rfl ?_
      refine lv_iconst (v := (-1)) hx hb dX11_readClause_31 ic_m1 ?_
      refine lv_icmp_eq (tgt := 40) hx hb dX11_readClause_32 rfl (fun c180 => ?_) (fun c180 => ?_)
      · have b181 : iv (-1) (-1) (q_told 7) := iv_eqL c180 ivk_m1
        refine lv_iload_n hx hb dX11_readClause_40 rfl (lv_at hl 0 rfl) ?_
        refine lv_if_ne (tgt := 48) hx hb dX11_readClause_41 rfl (fun _ => ?_) (fun c9 => absurd c9 (iv_ne b179 ivk_0 (by decide)))
        refine lv_iload_n hx hb dX11_readClause_48 rfl (lv_at hl 0 rfl) ?_
        refine lv_iconst (v := 1) hx hb dX11_readClause_49 ic_1 ?_
        refine lv_icmp_ne (tgt := 57) hx hb dX11_readClause_50 rfl (fun _ => ?_) (fun c9 => absurd c9 (iv_ne b179 ivk_1 (by decide)))
        refine lv_iload_n hx hb dX11_readClause_57 rfl (lv_at hl 0 rfl) ?_
        refine lv_iconst (v := 2) hx hb dX11_readClause_58 ic_2 ?_
        refine lv_icmp_ne (tgt := 66) hx hb dX11_readClause_59 rfl (fun _ => ?_) (fun c9 => absurd c9 (iv_ne b179 ivk_2 (by decide)))
        refine lv_iload_n hx hb dX11_readClause_66 rfl (lv_at hl 0 rfl) ?_
        refine lv_iconst (v := 3) hx hb dX11_readClause_67 ic_3 ?_
        refine lv_icmp_ne (tgt := 96) hx hb dX11_readClause_68 rfl (fun c9 => absurd (c5) c9) (fun _ => ?_)
        refine lv_aload_n hx hb dX11_readClause_71 rfl (lv_at hl 1 rfl) ?_
        refine va_get (D := (dC, dI)) (ci := 11) (v := .int (x0 8)) (C := RX11) (T := TX11) (N := 61) hx hb hts hin11 hown hK hP 10 rfl rfl 22 (Nat.le_of_ble_eq_true rfl) hw_1 (fun _ h9 => h9) rfl dX11_readClause_72 ?_
        refine lv_if_ne (tgt := 96) hx hb dX11_readClause_75 rfl (fun c182 => ?_) (fun c182 => ?_)
        · have b183 : iv 1 5 (x0 8) := iv_neLo c182 (hX 8 : iv 0 5 (x0 8)) ivk_0 (by decide) (by decide)
          have hck : clsK tT kK = 3 := (wh_c.symm.trans (hwk.symm.trans c5))
          have hrr184 : RRd tT nN x0 (clsM tT nN kK (NR q_told q_kind q_salt q_pace q_mute q_late q_from q_to q_goal)) := absurd (rr_z hRr) c182
          refine lv_aload_n hx hb dX11_readClause_96 rfl (lv_at hl 1 rfl) ?_
          refine va_get (D := (dC, dI)) (ci := 11) (v := .int (x0 8)) (C := RX11) (T := TX11) (N := 61) hx hb hts hin11 hown hK hP 10 rfl rfl 22 (Nat.le_of_ble_eq_true rfl) hw_1 (fun _ h9 => h9) rfl dX11_readClause_97 ?_
          refine lv_if_ne (tgt := 116) hx hb dX11_readClause_100 rfl (fun _ => ?_) (fun c9 => absurd c9 (c182))
          have hrr185 : RRd tT nN x0 (sgnT (clsM tT nN kK (NR q_told q_kind q_salt q_pace q_mute q_late q_from q_to q_goal))) := (sr_a hrr184 (Or.inl c182)) ▸ hrr184
          refine lv_aload_n hx hb dX11_readClause_116 rfl (lv_at hl 1 rfl) ?_
          refine va_get (D := (dC, dI)) (ci := 11) (v := .int (x0 8)) (C := RX11) (T := TX11) (N := 61) hx hb hts hin11 hown hK hP 10 rfl rfl 22 (Nat.le_of_ble_eq_true rfl) hw_1 (fun _ h9 => h9) rfl dX11_readClause_117 ?_
          refine lv_if_ne (tgt := 127) hx hb dX11_readClause_120 rfl (fun _ => ?_) (fun c9 => absurd c9 (c182))
          have hPD9 := cl_s (wc := [(m0, .inr (11, oX11 ra x0)), (ra 2, .inl (kI, 8, .inl q_told)), (ra 3, .inl (kI, 24, .inl q_kind)), (ra 4, .inl (kI, 24, .inl q_salt)), (ra 5, .inl (kI, 24, .inl q_pace)), (ra 6, .inl (kI, 24, .inl q_mute)), (ra 7, .inl (kI, 24, .inl q_late)), (ra 8, .inl (kI, 40, .inl q_from)), (ra 9, .inl (kI, 40, .inl q_to)), (ra 10, .inl (kI, 6, .inl q_goal)), (ra 13, .inl (kI, 700, .inl q_tape)), (ra 0, .inl (kS, 4, .inr (.inr (.inr (.inr q_words))))), (ra 1, .inl (kS, 4, .inr (.inr (.inr (.inr q_kinds)))))]) hP hD [10, 0, 1, 2, 3, 4, 5, 6, 7, 8, 11, 12, 9] rfl (by decide +kernel)
          have hP9 := hPD9.1
          have hD9 := hPD9.2
          exact W.vret hx hb hr (fun t ht hW => ⟨⟨(), rfl, trivial, x0, q_told, q_kind, q_salt, q_pace, q_mute, q_late, q_from, q_to, q_goal, hX, hq_told, hq_salt, hq_from, hq_to, hq_goal, (show (x0 2).toInt ≤ (x0 2).toInt from by omega), (show x0 3 = x0 3 from rfl), (show ∀ j : Nat, (j : Int) < (q_told 1).toInt → (q_from j).toInt < (q_to j).toInt from hLT), (show ∀ j : Nat, (j : Int) < (q_told 5).toInt → (q_from (20 + j)).toInt < (q_to (20 + j)).toInt from hLD), (show ¬ x0 8 = 0 ∨ x0 4 = 0 ∨ (x0 2).toInt + 1 ≤ (x0 2).toInt from Or.inl (iv_ne b183 ivk_0 (by decide))), (show RRd tT nN x0 (clsS tT nN kK (NR q_told q_kind q_salt q_pace q_mute q_late q_from q_to q_goal)) from rr_stepN hrr185 c182), (show x0 8 = 0 → NR q_told q_kind q_salt q_pace q_mute q_late q_from q_to q_goal = clsN tT nN kK (NR q_told q_kind q_salt q_pace q_mute q_late q_from q_to q_goal) from fun w => absurd w c182), (show LowT q_told q_from q_to q_told q_from q_to from low_0), (show Lw12 q_kind q_kind from lw12_0), (show Lw12 q_salt q_salt from lw12_0), (show Lw3 q_goal q_goal from lw3_0), (show x0 1 = x0 1 from rfl), (show x0 10 = x0 10 from rfl), (show x0 11 = x0 11 from rfl), (show x0 14 = x0 14 from rfl), by rw [ht]; exact hP9, hD9⟩, hS.F ht⟩) hS.2.2 dX11_readClause_127
        · have b186 : iv 0 0 (x0 8) := iv_eqL c182 ivk_0
          refine lv_aload_n hx hb dX11_readClause_78 rfl (lv_at hl 1 rfl) ?_
          obtain ⟨hPc, hDc, hFc, hJn⟩ := cl_a (wc := [(m0, .inr (11, oX11 ra x0)), (ra 13, .inl (kI, 700, .inl q_tape))]) (wr := [(ra 2, .inl (kI, 8, .inl q_told)), (ra 3, .inl (kI, 24, .inl q_kind)), (ra 4, .inl (kI, 24, .inl q_salt)), (ra 5, .inl (kI, 24, .inl q_pace)), (ra 6, .inl (kI, 24, .inl q_mute)), (ra 7, .inl (kI, 24, .inl q_late)), (ra 8, .inl (kI, 40, .inl q_from)), (ra 9, .inl (kI, 40, .inl q_to)), (ra 10, .inl (kI, 6, .inl q_goal)), (ra 1, .inl (kS, 4, .inr (.inr (.inr (.inr q_kinds))))), (ra 0, .inl (kS, 4, .inr (.inr (.inr (.inr q_words)))))]) hP hD hS hA [10, 11] [0, 1, 2, 3, 4, 5, 6, 7, 8, 9, 12] rfl rfl (by decide +kernel)
          refine va_callv (va_runV (As := []) (rest := []) ⟨hx, hb, hml, hown, hts⟩ (s11_stepOn l dC dI kB kI kJ kZ kC kS H.size m0 ra x0 q_tape tT nN (nextT tT nN (Sum.inr kK)) (hX) (hq_tape) (hRr.2) (stp_of hRr) (hTQ)) (cwV 0 hts gX11_readClause_X11_stepOn rfl rfl rfl (by decide +kernel) ⟨Nat.le_of_ble_eq_true rfl, Nat.le_of_ble_eq_true rfl⟩) ⟨fun a U g mk q => by obtain ⟨q0, q1, qP, qE, qD⟩ := q; exact ⟨q0, q1, qP, kE_call qE, qD⟩, va_recv hK hP (ci := 11) (q0 := 10) rfl rfl, fun U hU hW => ⟨rfl, by rw [hU], by rw [hU]; exact hPc, kE_warm hW hE, hDc.weaken (fun _ _ _ _ => trivial)⟩⟩ rfl rfl hl.1 rfl (lv_room (Nat.le_of_ble_eq_true rfl)) dX11_readClause_79 ⟨Nat.le_of_ble_eq_true rfl, Nat.le_of_ble_eq_true rfl⟩) hS (fun q _ h => hFc q h) hFc (fun u t H locs ht hvm w188 hB hz1 hk1 hS => ?_)
          obtain ⟨y189, hq190, hq191, hq192, hq193, hq194, hq195, hq196, hq197, hq198, hP1, hD1⟩ := hB
          try dsimp only at w188
          obtain ⟨hPa, hDa⟩ := hJn (w1 := [(m0, .inr (11, oX11 ra y189)), (ra 13, .inl (kI, 700, .inl q_tape))]) hk1 ht hP1 hD1
          clear hP hD hPc hDc hFc hJn hP1 hD1 hk1
          have hP : va_P (dC, dI) vwCl [(ra 2, .inl (kI, 8, .inl q_told)), (ra 3, .inl (kI, 24, .inl q_kind)), (ra 4, .inl (kI, 24, .inl q_salt)), (ra 5, .inl (kI, 24, .inl q_pace)), (ra 6, .inl (kI, 24, .inl q_mute)), (ra 7, .inl (kI, 24, .inl q_late)), (ra 8, .inl (kI, 40, .inl q_from)), (ra 9, .inl (kI, 40, .inl q_to)), (ra 10, .inl (kI, 6, .inl q_goal)), (ra 1, .inl (kS, 4, .inr (.inr (.inr (.inr q_kinds))))), (ra 0, .inl (kS, 4, .inr (.inr (.inr (.inr q_words))))), (m0, .inr (11, oX11 ra y189)), (ra 13, .inl (kI, 700, .inl q_tape))] H := hPa
          have hD : va_D A [(ra 2, .inl (kI, 8, .inl q_told)), (ra 3, .inl (kI, 24, .inl q_kind)), (ra 4, .inl (kI, 24, .inl q_salt)), (ra 5, .inl (kI, 24, .inl q_pace)), (ra 6, .inl (kI, 24, .inl q_mute)), (ra 7, .inl (kI, 24, .inl q_late)), (ra 8, .inl (kI, 40, .inl q_from)), (ra 9, .inl (kI, 40, .inl q_to)), (ra 10, .inl (kI, 6, .inl q_goal)), (ra 1, .inl (kS, 4, .inr (.inr (.inr (.inr q_kinds))))), (ra 0, .inl (kS, 4, .inr (.inr (.inr (.inr q_words))))), (m0, .inr (11, oX11 ra y189)), (ra 13, .inl (kI, 700, .inl q_tape))] := hDa
          clear hPa hDa
          refine W.widen (k := 0) (n := 0) (Nat.le_of_ble_eq_true rfl) (Nat.le_of_ble_eq_true rfl) ?_
          refine lv_aload_n hx hb dX11_readClause_82 rfl (lv_at hl 1 rfl) ?_
          refine va_get (D := (dC, dI)) (ci := 11) (v := .ref (ra 2)) (C := RX11) (T := TX11) (N := 61) hx hb hts hin11 hown hK hP 11 rfl rfl 3 (Nat.le_of_ble_eq_true rfl) hw_3 (fun _ h9 => h9) rfl dX11_readClause_83 ?_
          refine lv_bipush (v := 7) hx hb dX11_readClause_86 bp_7 ?_
          refine lv_aload_n hx hb dX11_readClause_88 rfl (lv_at hl 1 rfl) ?_
          refine lv_iconst (v := 1) hx hb dX11_readClause_89 ic_1 ?_
          refine lv_bipush (v := 50) hx hb dX11_readClause_90 bp_50 ?_
          obtain ⟨hPc, hDc, hFc, hJn⟩ := cl_a (wc := [(m0, .inr (11, oX11 ra y189)), (ra 13, .inl (kI, 700, .inl q_tape))]) (wr := [(ra 2, .inl (kI, 8, .inl q_told)), (ra 3, .inl (kI, 24, .inl q_kind)), (ra 4, .inl (kI, 24, .inl q_salt)), (ra 5, .inl (kI, 24, .inl q_pace)), (ra 6, .inl (kI, 24, .inl q_mute)), (ra 7, .inl (kI, 24, .inl q_late)), (ra 8, .inl (kI, 40, .inl q_from)), (ra 9, .inl (kI, 40, .inl q_to)), (ra 10, .inl (kI, 6, .inl q_goal)), (ra 1, .inl (kS, 4, .inr (.inr (.inr (.inr q_kinds))))), (ra 0, .inl (kS, 4, .inr (.inr (.inr (.inr q_words)))))]) hP hD hS hA [11, 12] [0, 1, 2, 3, 4, 5, 6, 7, 8, 9, 10] rfl rfl (by decide +kernel)
          refine va_calli (va_runV (As := [.int 1, .int 50]) (rest := [.int 7, .ref (ra 2)]) ⟨hx, hb, hml, hown, hts⟩ (s11_readNumber_1_50 l dC dI kB kI kJ kZ kC kS H.size m0 ra y189 q_tape tT nN (nextT tT nN (Sum.inr kK)) (hq190) (hq_tape) (hq194) (hTQ)) (cwV 2 hts gX11_readClause_X11_readNumber rfl rfl rfl (by decide +kernel) ⟨Nat.le_of_ble_eq_true rfl, Nat.le_of_ble_eq_true rfl⟩) ⟨fun a U g mk q => by obtain ⟨q0, q1, qP, qE, qD⟩ := q; exact ⟨q0, q1, qP, kE_call qE, qD⟩, va_recv hK hP (ci := 11) (q0 := 11) rfl rfl, fun U hU hW => ⟨rfl, by rw [hU], by rw [hU]; exact hPc, kE_warm hW hE, hDc.weaken (fun _ _ _ _ => trivial)⟩⟩ rfl rfl hl.1 rfl (lv_room (Nat.le_of_ble_eq_true rfl)) dX11_readClause_92 ⟨Nat.le_of_ble_eq_true rfl, Nat.le_of_ble_eq_true rfl⟩) hS (fun q _ h => hFc q h) hFc (fun r199 u t H locs ht hvm w200 hB hz1 hk1 hS => ?_)
          obtain ⟨y201, hq202, hq203, hq204, hq205, hq206, hq207, hq208, hq209, hP1, hD1⟩ := hB
          try dsimp only at w200
          obtain ⟨hPa, hDa⟩ := hJn (w1 := [(m0, .inr (11, oX11 ra y201)), (ra 13, .inl (kI, 700, .inl q_tape))]) hk1 ht hP1 hD1
          clear hP hD hPc hDc hFc hJn hP1 hD1 hk1
          have hP : va_P (dC, dI) vwCl [(ra 2, .inl (kI, 8, .inl q_told)), (ra 3, .inl (kI, 24, .inl q_kind)), (ra 4, .inl (kI, 24, .inl q_salt)), (ra 5, .inl (kI, 24, .inl q_pace)), (ra 6, .inl (kI, 24, .inl q_mute)), (ra 7, .inl (kI, 24, .inl q_late)), (ra 8, .inl (kI, 40, .inl q_from)), (ra 9, .inl (kI, 40, .inl q_to)), (ra 10, .inl (kI, 6, .inl q_goal)), (ra 1, .inl (kS, 4, .inr (.inr (.inr (.inr q_kinds))))), (ra 0, .inl (kS, 4, .inr (.inr (.inr (.inr q_words))))), (m0, .inr (11, oX11 ra y201)), (ra 13, .inl (kI, 700, .inl q_tape))] H := hPa
          have hD : va_D A [(ra 2, .inl (kI, 8, .inl q_told)), (ra 3, .inl (kI, 24, .inl q_kind)), (ra 4, .inl (kI, 24, .inl q_salt)), (ra 5, .inl (kI, 24, .inl q_pace)), (ra 6, .inl (kI, 24, .inl q_mute)), (ra 7, .inl (kI, 24, .inl q_late)), (ra 8, .inl (kI, 40, .inl q_from)), (ra 9, .inl (kI, 40, .inl q_to)), (ra 10, .inl (kI, 6, .inl q_goal)), (ra 1, .inl (kS, 4, .inr (.inr (.inr (.inr q_kinds))))), (ra 0, .inl (kS, 4, .inr (.inr (.inr (.inr q_words))))), (m0, .inr (11, oX11 ra y201)), (ra 13, .inl (kI, 700, .inl q_tape))] := hDa
          clear hPa hDa
          refine W.widen (k := 0) (n := 0) (Nat.le_of_ble_eq_true rfl) (Nat.le_of_ble_eq_true rfl) ?_
          have hv9 := w200
          refine va_iast hx hb hK hP hD hS 0 1 rfl rfl (vp_in_nI (n := 7) (by decide) (by decide)) dX11_readClause_95 (fun H locs hPa hDa hS => ?_)
          clear hP hD
          have hP : va_P (dC, dI) vwCl [(ra 2, .inl (kI, 8, .inl (upd q_told 7 r199))), (ra 3, .inl (kI, 24, .inl q_kind)), (ra 4, .inl (kI, 24, .inl q_salt)), (ra 5, .inl (kI, 24, .inl q_pace)), (ra 6, .inl (kI, 24, .inl q_mute)), (ra 7, .inl (kI, 24, .inl q_late)), (ra 8, .inl (kI, 40, .inl q_from)), (ra 9, .inl (kI, 40, .inl q_to)), (ra 10, .inl (kI, 6, .inl q_goal)), (ra 1, .inl (kS, 4, .inr (.inr (.inr (.inr q_kinds))))), (ra 0, .inl (kS, 4, .inr (.inr (.inr (.inr q_words))))), (m0, .inr (11, oX11 ra y201)), (ra 13, .inl (kI, 700, .inl q_tape))] H := hPa
          have hD : va_D A [(ra 2, .inl (kI, 8, .inl (upd q_told 7 r199))), (ra 3, .inl (kI, 24, .inl q_kind)), (ra 4, .inl (kI, 24, .inl q_salt)), (ra 5, .inl (kI, 24, .inl q_pace)), (ra 6, .inl (kI, 24, .inl q_mute)), (ra 7, .inl (kI, 24, .inl q_late)), (ra 8, .inl (kI, 40, .inl q_from)), (ra 9, .inl (kI, 40, .inl q_to)), (ra 10, .inl (kI, 6, .inl q_goal)), (ra 1, .inl (kS, 4, .inr (.inr (.inr (.inr q_kinds))))), (ra 0, .inl (kS, 4, .inr (.inr (.inr (.inr q_words))))), (m0, .inr (11, oX11 ra y201)), (ra 13, .inl (kI, 700, .inl q_tape))] := hDa
          clear hPa hDa
          have hck : clsK tT kK = 3 := (wh_c.symm.trans (hwk.symm.trans c5))
          have hrr210 : RRd tT nN y201 (clsM tT nN kK (NR q_told q_kind q_salt q_pace q_mute q_late q_from q_to q_goal)) := (cm_3 (N := NR q_told q_kind q_salt q_pace q_mute q_late q_from q_to q_goal) hck rfl) ▸ (show RRd tT nN y201 (losS tT nN (Sum.inr kK) (¬ NR q_told q_kind q_salt q_pace q_mute q_late q_from q_to q_goal 0 4 = 0)) from it_f (Q := RRd tT nN y201) (not_not_intro (nr_untold c180)) (hq205))
          refine lv_aload_n hx hb dX11_readClause_96 rfl (lv_at hl 1 rfl) ?_
          refine va_get (D := (dC, dI)) (ci := 11) (v := .int (y201 8)) (C := RX11) (T := TX11) (N := 61) hx hb hts hin11 hown hK hP 11 rfl rfl 22 (Nat.le_of_ble_eq_true rfl) hw_1 (fun _ h9 => h9) rfl dX11_readClause_97 ?_
          refine lv_if_ne (tgt := 116) hx hb dX11_readClause_100 rfl (fun c211 => ?_) (fun c211 => ?_)
          · have b212 : iv 1 5 (y201 8) := iv_neLo c211 (hq202 8 : iv 0 5 (y201 8)) ivk_0 (by decide) (by decide)
            have hrr213 : RRd tT nN y201 (sgnT (clsM tT nN kK (NR q_told q_kind q_salt q_pace q_mute q_late q_from q_to q_goal))) := (sr_a hrr210 (Or.inl c211)) ▸ hrr210
            refine lv_aload_n hx hb dX11_readClause_116 rfl (lv_at hl 1 rfl) ?_
            refine va_get (D := (dC, dI)) (ci := 11) (v := .int (y201 8)) (C := RX11) (T := TX11) (N := 61) hx hb hts hin11 hown hK hP 11 rfl rfl 22 (Nat.le_of_ble_eq_true rfl) hw_1 (fun _ h9 => h9) rfl dX11_readClause_117 ?_
            refine lv_if_ne (tgt := 127) hx hb dX11_readClause_120 rfl (fun _ => ?_) (fun c9 => absurd c9 (c211))
            have hPD9 := cl_s (wc := [(m0, .inr (11, oX11 ra y201)), (ra 2, .inl (kI, 8, .inl (upd q_told 7 r199))), (ra 3, .inl (kI, 24, .inl q_kind)), (ra 4, .inl (kI, 24, .inl q_salt)), (ra 5, .inl (kI, 24, .inl q_pace)), (ra 6, .inl (kI, 24, .inl q_mute)), (ra 7, .inl (kI, 24, .inl q_late)), (ra 8, .inl (kI, 40, .inl q_from)), (ra 9, .inl (kI, 40, .inl q_to)), (ra 10, .inl (kI, 6, .inl q_goal)), (ra 13, .inl (kI, 700, .inl q_tape)), (ra 0, .inl (kS, 4, .inr (.inr (.inr (.inr q_words))))), (ra 1, .inl (kS, 4, .inr (.inr (.inr (.inr q_kinds)))))]) hP hD [11, 0, 1, 2, 3, 4, 5, 6, 7, 8, 12, 10, 9] rfl (by decide +kernel)
            have hP9 := hPD9.1
            have hD9 := hPD9.2
            exact W.vret hx hb hr (fun t ht hW => ⟨⟨(), rfl, trivial, y201, upd q_told 7 r199, q_kind, q_salt, q_pace, q_mute, q_late, q_from, q_to, q_goal, hq202, (fI_u hq_told (k := 7) ((iv_w w200.1 (by decide) (by decide)))), hq_salt, hq_from, hq_to, hq_goal, (show (x0 2).toInt ≤ (y201 2).toInt from by omega), (show y201 3 = x0 3 from hq204.trans (hq192)), (show ∀ j : Nat, (j : Int) < (q_told 1).toInt → (q_from j).toInt < (q_to j).toInt from hLT), (show ∀ j : Nat, (j : Int) < (q_told 5).toInt → (q_from (20 + j)).toInt < (q_to (20 + j)).toInt from hLD), (show ¬ y201 8 = 0 ∨ y201 4 = 0 ∨ (x0 2).toInt + 1 ≤ (y201 2).toInt from Or.inl (iv_ne b212 ivk_0 (by decide))), (show RRd tT nN y201 (clsS tT nN kK (NR q_told q_kind q_salt q_pace q_mute q_late q_from q_to q_goal)) from rr_stepN hrr213 c211), fun w => absurd w c211, low_t (by decide), (show Lw12 q_kind q_kind from lw12_0), (show Lw12 q_salt q_salt from lw12_0), (show Lw3 q_goal q_goal from lw3_0), (show y201 1 = x0 1 from hq206.trans (hq195)), (show y201 10 = x0 10 from hq207.trans (hq196)), (show y201 11 = x0 11 from hq208.trans (hq197)), (show y201 14 = x0 14 from hq209.trans (hq198)), by rw [ht]; exact hP9, hD9⟩, hS.F ht⟩) hS.2.2 dX11_readClause_127
          · have b214 : iv 0 0 (y201 8) := iv_eqL c211 ivk_0
            refine lv_aload_n hx hb dX11_readClause_103 rfl (lv_at hl 1 rfl) ?_
            refine va_get (D := (dC, dI)) (ci := 11) (v := .int (y201 4)) (C := RX11) (T := TX11) (N := 61) hx hb hts hin11 hown hK hP 11 rfl rfl 18 (Nat.le_of_ble_eq_true rfl) hw_2 (fun _ h9 => h9) rfl dX11_readClause_104 ?_
            refine lv_iconst (v := 3) hx hb dX11_readClause_107 ic_3 ?_
            refine lv_icmp_eq (tgt := 116) hx hb dX11_readClause_108 rfl (fun c215 => ?_) (fun c215 => ?_)
            · have b216 : iv 3 3 (y201 4) := iv_eqL c215 ivk_3
              have hrr217 : RRd tT nN y201 (sgnT (clsM tT nN kK (NR q_told q_kind q_salt q_pace q_mute q_late q_from q_to q_goal))) := (sr_a hrr210 (Or.inr c215)) ▸ hrr210
              refine lv_aload_n hx hb dX11_readClause_116 rfl (lv_at hl 1 rfl) ?_
              refine va_get (D := (dC, dI)) (ci := 11) (v := .int (y201 8)) (C := RX11) (T := TX11) (N := 61) hx hb hts hin11 hown hK hP 11 rfl rfl 22 (Nat.le_of_ble_eq_true rfl) hw_1 (fun _ h9 => h9) rfl dX11_readClause_117 ?_
              refine lv_if_ne (tgt := 127) hx hb dX11_readClause_120 rfl (fun c9 => absurd (c211) c9) (fun _ => ?_)
              refine lv_aload_n hx hb dX11_readClause_123 rfl (lv_at hl 1 rfl) ?_
              obtain ⟨hPc, hDc, hFc, hJn⟩ := cl_a (wc := [(m0, .inr (11, oX11 ra y201)), (ra 13, .inl (kI, 700, .inl q_tape))]) (wr := [(ra 2, .inl (kI, 8, .inl (upd q_told 7 r199))), (ra 3, .inl (kI, 24, .inl q_kind)), (ra 4, .inl (kI, 24, .inl q_salt)), (ra 5, .inl (kI, 24, .inl q_pace)), (ra 6, .inl (kI, 24, .inl q_mute)), (ra 7, .inl (kI, 24, .inl q_late)), (ra 8, .inl (kI, 40, .inl q_from)), (ra 9, .inl (kI, 40, .inl q_to)), (ra 10, .inl (kI, 6, .inl q_goal)), (ra 1, .inl (kS, 4, .inr (.inr (.inr (.inr q_kinds))))), (ra 0, .inl (kS, 4, .inr (.inr (.inr (.inr q_words)))))]) hP hD hS hA [11, 12] [0, 1, 2, 3, 4, 5, 6, 7, 8, 9, 10] rfl rfl (by decide +kernel)
              refine va_callv (va_runV (As := []) (rest := []) ⟨hx, hb, hml, hown, hts⟩ (s11_stepOn l dC dI kB kI kJ kZ kC kS H.size m0 ra y201 q_tape tT nN (nextT tT nN (sgnT (clsM tT nN kK (NR q_told q_kind q_salt q_pace q_mute q_late q_from q_to q_goal)))) (hq202) (hq_tape) (hrr217.2) (stp_of hrr217) (hTQ)) (cwV 0 hts gX11_readClause_X11_stepOn rfl rfl rfl (by decide +kernel) ⟨Nat.le_of_ble_eq_true rfl, Nat.le_of_ble_eq_true rfl⟩) ⟨fun a U g mk q => by obtain ⟨q0, q1, qP, qE, qD⟩ := q; exact ⟨q0, q1, qP, kE_call qE, qD⟩, va_recv hK hP (ci := 11) (q0 := 11) rfl rfl, fun U hU hW => ⟨rfl, by rw [hU], by rw [hU]; exact hPc, kE_warm hW hE, hDc.weaken (fun _ _ _ _ => trivial)⟩⟩ rfl rfl hl.1 rfl (lv_room (Nat.le_of_ble_eq_true rfl)) dX11_readClause_124 ⟨Nat.le_of_ble_eq_true rfl, Nat.le_of_ble_eq_true rfl⟩) hS (fun q _ h => hFc q h) hFc (fun u t H locs ht hvm w219 hB hz1 hk1 hS => ?_)
              obtain ⟨y220, hq221, hq222, hq223, hq224, hq225, hq226, hq227, hq228, hq229, hP1, hD1⟩ := hB
              try dsimp only at w219
              obtain ⟨hPa, hDa⟩ := hJn (w1 := [(m0, .inr (11, oX11 ra y220)), (ra 13, .inl (kI, 700, .inl q_tape))]) hk1 ht hP1 hD1
              clear hP hD hPc hDc hFc hJn hP1 hD1 hk1
              have hP : va_P (dC, dI) vwCl [(ra 2, .inl (kI, 8, .inl (upd q_told 7 r199))), (ra 3, .inl (kI, 24, .inl q_kind)), (ra 4, .inl (kI, 24, .inl q_salt)), (ra 5, .inl (kI, 24, .inl q_pace)), (ra 6, .inl (kI, 24, .inl q_mute)), (ra 7, .inl (kI, 24, .inl q_late)), (ra 8, .inl (kI, 40, .inl q_from)), (ra 9, .inl (kI, 40, .inl q_to)), (ra 10, .inl (kI, 6, .inl q_goal)), (ra 1, .inl (kS, 4, .inr (.inr (.inr (.inr q_kinds))))), (ra 0, .inl (kS, 4, .inr (.inr (.inr (.inr q_words))))), (m0, .inr (11, oX11 ra y220)), (ra 13, .inl (kI, 700, .inl q_tape))] H := hPa
              have hD : va_D A [(ra 2, .inl (kI, 8, .inl (upd q_told 7 r199))), (ra 3, .inl (kI, 24, .inl q_kind)), (ra 4, .inl (kI, 24, .inl q_salt)), (ra 5, .inl (kI, 24, .inl q_pace)), (ra 6, .inl (kI, 24, .inl q_mute)), (ra 7, .inl (kI, 24, .inl q_late)), (ra 8, .inl (kI, 40, .inl q_from)), (ra 9, .inl (kI, 40, .inl q_to)), (ra 10, .inl (kI, 6, .inl q_goal)), (ra 1, .inl (kS, 4, .inr (.inr (.inr (.inr q_kinds))))), (ra 0, .inl (kS, 4, .inr (.inr (.inr (.inr q_words))))), (m0, .inr (11, oX11 ra y220)), (ra 13, .inl (kI, 700, .inl q_tape))] := hDa
              clear hPa hDa
              refine W.widen (k := 0) (n := 0) (Nat.le_of_ble_eq_true rfl) (Nat.le_of_ble_eq_true rfl) ?_
              have hPD9 := cl_s (wc := [(m0, .inr (11, oX11 ra y220)), (ra 2, .inl (kI, 8, .inl (upd q_told 7 r199))), (ra 3, .inl (kI, 24, .inl q_kind)), (ra 4, .inl (kI, 24, .inl q_salt)), (ra 5, .inl (kI, 24, .inl q_pace)), (ra 6, .inl (kI, 24, .inl q_mute)), (ra 7, .inl (kI, 24, .inl q_late)), (ra 8, .inl (kI, 40, .inl q_from)), (ra 9, .inl (kI, 40, .inl q_to)), (ra 10, .inl (kI, 6, .inl q_goal)), (ra 13, .inl (kI, 700, .inl q_tape)), (ra 0, .inl (kS, 4, .inr (.inr (.inr (.inr q_words))))), (ra 1, .inl (kS, 4, .inr (.inr (.inr (.inr q_kinds)))))]) hP hD [11, 0, 1, 2, 3, 4, 5, 6, 7, 8, 12, 10, 9] rfl (by decide +kernel)
              have hP9 := hPD9.1
              have hD9 := hPD9.2
              exact W.vret hx hb hr (fun t ht hW => ⟨⟨(), rfl, trivial, y220, upd q_told 7 r199, q_kind, q_salt, q_pace, q_mute, q_late, q_from, q_to, q_goal, hq221, (fI_u hq_told (k := 7) ((iv_w w200.1 (by decide) (by decide)))), hq_salt, hq_from, hq_to, hq_goal, (show (x0 2).toInt ≤ (y220 2).toInt from by omega), (show y220 3 = x0 3 from hq223.trans (hq204.trans (hq192))), (show ∀ j : Nat, (j : Int) < (q_told 1).toInt → (q_from j).toInt < (q_to j).toInt from hLT), (show ∀ j : Nat, (j : Int) < (q_told 5).toInt → (q_from (20 + j)).toInt < (q_to (20 + j)).toInt from hLD), (show ¬ y220 8 = 0 ∨ y220 4 = 0 ∨ (x0 2).toInt + 1 ≤ (y220 2).toInt from Or.inr (hq224.imp_right (fun w => by omega))), (show RRd tT nN y220 (clsS tT nN kK (NR q_told q_kind q_salt q_pace q_mute q_late q_from q_to q_goal)) from hq225), fun _ => nq_o hck hv9.1 rfl (hv9.2 (ok_next (rr_ok hq205 c211))), low_t (by decide), (show Lw12 q_kind q_kind from lw12_0), (show Lw12 q_salt q_salt from lw12_0), (show Lw3 q_goal q_goal from lw3_0), (show y220 1 = x0 1 from hq226.trans (hq206.trans (hq195))), (show y220 10 = x0 10 from hq227.trans (hq207.trans (hq196))), (show y220 11 = x0 11 from hq228.trans (hq208.trans (hq197))), (show y220 14 = x0 14 from hq229.trans (hq209.trans (hq198))), by rw [ht]; exact hP9, hD9⟩, hS.F ht⟩) hS.2.2 dX11_readClause_127
            · refine lv_aload_n hx hb dX11_readClause_111 rfl (lv_at hl 1 rfl) ?_
              refine lv_iconst (v := 1) hx hb dX11_readClause_112 ic_1 ?_
              obtain ⟨hPc, hDc, hFc, hJn⟩ := cl_a (wc := [(m0, .inr (11, oX11 ra y201))]) (wr := [(ra 2, .inl (kI, 8, .inl (upd q_told 7 r199))), (ra 3, .inl (kI, 24, .inl q_kind)), (ra 4, .inl (kI, 24, .inl q_salt)), (ra 5, .inl (kI, 24, .inl q_pace)), (ra 6, .inl (kI, 24, .inl q_mute)), (ra 7, .inl (kI, 24, .inl q_late)), (ra 8, .inl (kI, 40, .inl q_from)), (ra 9, .inl (kI, 40, .inl q_to)), (ra 10, .inl (kI, 6, .inl q_goal)), (ra 1, .inl (kS, 4, .inr (.inr (.inr (.inr q_kinds))))), (ra 0, .inl (kS, 4, .inr (.inr (.inr (.inr q_words))))), (ra 13, .inl (kI, 700, .inl q_tape))]) hP hD hS hA [11] [0, 1, 2, 3, 4, 5, 6, 7, 8, 9, 10, 12] rfl rfl (by decide +kernel)
              refine va_callv (va_runV (As := [.int 1]) (rest := []) ⟨hx, hb, hml, hown, hts⟩ (s11_wrong l dC dI kB kI kJ kZ kC kS H.size m0 ra y201 1 tT nN (clsM tT nN kK (NR q_told q_kind q_salt q_pace q_mute q_late q_from q_to q_goal)) (hq202) ((iv_w ivk_1 (by decide) (by decide))) (hrr210)) (cwV 1 hts gX11_readClause_X11_wrong rfl rfl rfl (by decide +kernel) ⟨Nat.le_of_ble_eq_true rfl, Nat.le_of_ble_eq_true rfl⟩) ⟨fun a U g mk q => by obtain ⟨q0, q1, qP, qE, qD⟩ := q; exact ⟨q0, q1, qP, kE_call qE, qD⟩, va_recv hK hP (ci := 11) (q0 := 11) rfl rfl, fun U hU hW => ⟨rfl, by rw [hU], by rw [hU]; exact hPc, kE_warm hW hE, hDc.weaken (fun _ _ _ _ => trivial)⟩⟩ rfl rfl hl.1 rfl (lv_room (Nat.le_of_ble_eq_true rfl)) dX11_readClause_113 ⟨Nat.le_of_ble_eq_true rfl, Nat.le_of_ble_eq_true rfl⟩) hS (fun q _ h => hFc q h) hFc (fun u t H locs ht hvm w231 hB hz1 hk1 hS => ?_)
              obtain ⟨y232, hq233, hq234, hq235, hq236, hq237, hq238, hq239, hq240, hq241, hP1, hD1⟩ := hB
              try dsimp only at w231
              obtain ⟨hPa, hDa⟩ := hJn (w1 := [(m0, .inr (11, oX11 ra y232))]) hk1 ht hP1 hD1
              clear hP hD hPc hDc hFc hJn hP1 hD1 hk1
              have hP : va_P (dC, dI) vwCl [(ra 2, .inl (kI, 8, .inl (upd q_told 7 r199))), (ra 3, .inl (kI, 24, .inl q_kind)), (ra 4, .inl (kI, 24, .inl q_salt)), (ra 5, .inl (kI, 24, .inl q_pace)), (ra 6, .inl (kI, 24, .inl q_mute)), (ra 7, .inl (kI, 24, .inl q_late)), (ra 8, .inl (kI, 40, .inl q_from)), (ra 9, .inl (kI, 40, .inl q_to)), (ra 10, .inl (kI, 6, .inl q_goal)), (ra 1, .inl (kS, 4, .inr (.inr (.inr (.inr q_kinds))))), (ra 0, .inl (kS, 4, .inr (.inr (.inr (.inr q_words))))), (ra 13, .inl (kI, 700, .inl q_tape)), (m0, .inr (11, oX11 ra y232))] H := hPa
              have hD : va_D A [(ra 2, .inl (kI, 8, .inl (upd q_told 7 r199))), (ra 3, .inl (kI, 24, .inl q_kind)), (ra 4, .inl (kI, 24, .inl q_salt)), (ra 5, .inl (kI, 24, .inl q_pace)), (ra 6, .inl (kI, 24, .inl q_mute)), (ra 7, .inl (kI, 24, .inl q_late)), (ra 8, .inl (kI, 40, .inl q_from)), (ra 9, .inl (kI, 40, .inl q_to)), (ra 10, .inl (kI, 6, .inl q_goal)), (ra 1, .inl (kS, 4, .inr (.inr (.inr (.inr q_kinds))))), (ra 0, .inl (kS, 4, .inr (.inr (.inr (.inr q_words))))), (ra 13, .inl (kI, 700, .inl q_tape)), (m0, .inr (11, oX11 ra y232))] := hDa
              clear hPa hDa
              refine W.widen (k := 0) (n := 0) (Nat.le_of_ble_eq_true rfl) (Nat.le_of_ble_eq_true rfl) ?_
              have hrr242 : RRd tT nN y232 (sgnT (clsM tT nN kK (NR q_told q_kind q_salt q_pace q_mute q_late q_from q_to q_goal))) := (sr_c hrr210 c215) ▸ hq237
              refine lv_aload_n hx hb dX11_readClause_116 rfl (lv_at hl 1 rfl) ?_
              refine va_get (D := (dC, dI)) (ci := 11) (v := .int (y232 8)) (C := RX11) (T := TX11) (N := 61) hx hb hts hin11 hown hK hP 12 rfl rfl 22 (Nat.le_of_ble_eq_true rfl) hw_1 (fun _ h9 => h9) rfl dX11_readClause_117 ?_
              refine lv_if_ne (tgt := 127) hx hb dX11_readClause_120 rfl (fun _ => ?_) (fun c9 => absurd c9 (iv_ne hq234 ivk_0 (by decide)))
              have hPD9 := cl_s (wc := [(m0, .inr (11, oX11 ra y232)), (ra 2, .inl (kI, 8, .inl (upd q_told 7 r199))), (ra 3, .inl (kI, 24, .inl q_kind)), (ra 4, .inl (kI, 24, .inl q_salt)), (ra 5, .inl (kI, 24, .inl q_pace)), (ra 6, .inl (kI, 24, .inl q_mute)), (ra 7, .inl (kI, 24, .inl q_late)), (ra 8, .inl (kI, 40, .inl q_from)), (ra 9, .inl (kI, 40, .inl q_to)), (ra 10, .inl (kI, 6, .inl q_goal)), (ra 13, .inl (kI, 700, .inl q_tape)), (ra 0, .inl (kS, 4, .inr (.inr (.inr (.inr q_words))))), (ra 1, .inl (kS, 4, .inr (.inr (.inr (.inr q_kinds)))))]) hP hD [12, 0, 1, 2, 3, 4, 5, 6, 7, 8, 11, 10, 9] rfl (by decide +kernel)
              have hP9 := hPD9.1
              have hD9 := hPD9.2
              exact W.vret hx hb hr (fun t ht hW => ⟨⟨(), rfl, trivial, y232, upd q_told 7 r199, q_kind, q_salt, q_pace, q_mute, q_late, q_from, q_to, q_goal, hq233, (fI_u hq_told (k := 7) ((iv_w w200.1 (by decide) (by decide)))), hq_salt, hq_from, hq_to, hq_goal, (show (x0 2).toInt ≤ (y232 2).toInt from by omega), (show y232 3 = x0 3 from hq236.trans (hq204.trans (hq192))), (show ∀ j : Nat, (j : Int) < (q_told 1).toInt → (q_from j).toInt < (q_to j).toInt from hLT), (show ∀ j : Nat, (j : Int) < (q_told 5).toInt → (q_from (20 + j)).toInt < (q_to (20 + j)).toInt from hLD), (show ¬ y232 8 = 0 ∨ y232 4 = 0 ∨ (x0 2).toInt + 1 ≤ (y232 2).toInt from Or.inl (iv_ne hq234 ivk_0 (by decide))), (show RRd tT nN y232 (clsS tT nN kK (NR q_told q_kind q_salt q_pace q_mute q_late q_from q_to q_goal)) from rr_stepN hrr242 (iv_ne hq234 ivk_0 (by decide))), fun w => absurd w (iv_ne hq234 ivk_0 (by decide)), low_t (by decide), (show Lw12 q_kind q_kind from lw12_0), (show Lw12 q_salt q_salt from lw12_0), (show Lw3 q_goal q_goal from lw3_0), (show y232 1 = x0 1 from hq238.trans (hq206.trans (hq195))), (show y232 10 = x0 10 from hq239.trans (hq207.trans (hq196))), (show y232 11 = x0 11 from hq240.trans (hq208.trans (hq197))), (show y232 14 = x0 14 from hq241.trans (hq209.trans (hq198))), by rw [ht]; exact hP9, hD9⟩, hS.F ht⟩) hS.2.2 dX11_readClause_127
      · have b243 : iv 0 50 (q_told 7) := iv_neLo c180 (hq_told 7 : iv (-1) 50 (q_told 7)) ivk_m1 (by decide) (by decide)
        refine lv_aload_n hx hb dX11_readClause_35 rfl (lv_at hl 1 rfl) ?_
        refine lv_iconst (v := 4) hx hb dX11_readClause_36 ic_4 ?_
        obtain ⟨hPc, hDc, hFc, hJn⟩ := cl_a (wc := [(m0, .inr (11, oX11 ra x0))]) (wr := [(ra 2, .inl (kI, 8, .inl q_told)), (ra 3, .inl (kI, 24, .inl q_kind)), (ra 4, .inl (kI, 24, .inl q_salt)), (ra 5, .inl (kI, 24, .inl q_pace)), (ra 6, .inl (kI, 24, .inl q_mute)), (ra 7, .inl (kI, 24, .inl q_late)), (ra 8, .inl (kI, 40, .inl q_from)), (ra 9, .inl (kI, 40, .inl q_to)), (ra 10, .inl (kI, 6, .inl q_goal)), (ra 1, .inl (kS, 4, .inr (.inr (.inr (.inr q_kinds))))), (ra 13, .inl (kI, 700, .inl q_tape)), (ra 0, .inl (kS, 4, .inr (.inr (.inr (.inr q_words)))))]) hP hD hS hA [10] [0, 1, 2, 3, 4, 5, 6, 7, 8, 9, 11, 12] rfl rfl (by decide +kernel)
        refine va_callv (va_runV (As := [.int 4]) (rest := []) ⟨hx, hb, hml, hown, hts⟩ (s11_wrong l dC dI kB kI kJ kZ kC kS H.size m0 ra x0 4 tT nN (Sum.inr kK) (hX) ((iv_w ivk_4 (by decide) (by decide))) (hRr)) (cwV 1 hts gX11_readClause_X11_wrong rfl rfl rfl (by decide +kernel) ⟨Nat.le_of_ble_eq_true rfl, Nat.le_of_ble_eq_true rfl⟩) ⟨fun a U g mk q => by obtain ⟨q0, q1, qP, qE, qD⟩ := q; exact ⟨q0, q1, qP, kE_call qE, qD⟩, va_recv hK hP (ci := 11) (q0 := 10) rfl rfl, fun U hU hW => ⟨rfl, by rw [hU], by rw [hU]; exact hPc, kE_warm hW hE, hDc.weaken (fun _ _ _ _ => trivial)⟩⟩ rfl rfl hl.1 rfl (lv_room (Nat.le_of_ble_eq_true rfl)) dX11_readClause_37 ⟨Nat.le_of_ble_eq_true rfl, Nat.le_of_ble_eq_true rfl⟩) hS (fun q _ h => hFc q h) hFc (fun u t H locs ht hvm w245 hB hz1 hk1 hS => ?_)
        obtain ⟨y246, hq247, hq248, hq249, hq250, hq251, hq252, hq253, hq254, hq255, hP1, hD1⟩ := hB
        try dsimp only at w245
        obtain ⟨hPa, hDa⟩ := hJn (w1 := [(m0, .inr (11, oX11 ra y246))]) hk1 ht hP1 hD1
        clear hP hD hPc hDc hFc hJn hP1 hD1 hk1
        have hP : va_P (dC, dI) vwCl [(ra 2, .inl (kI, 8, .inl q_told)), (ra 3, .inl (kI, 24, .inl q_kind)), (ra 4, .inl (kI, 24, .inl q_salt)), (ra 5, .inl (kI, 24, .inl q_pace)), (ra 6, .inl (kI, 24, .inl q_mute)), (ra 7, .inl (kI, 24, .inl q_late)), (ra 8, .inl (kI, 40, .inl q_from)), (ra 9, .inl (kI, 40, .inl q_to)), (ra 10, .inl (kI, 6, .inl q_goal)), (ra 1, .inl (kS, 4, .inr (.inr (.inr (.inr q_kinds))))), (ra 13, .inl (kI, 700, .inl q_tape)), (ra 0, .inl (kS, 4, .inr (.inr (.inr (.inr q_words))))), (m0, .inr (11, oX11 ra y246))] H := hPa
        have hD : va_D A [(ra 2, .inl (kI, 8, .inl q_told)), (ra 3, .inl (kI, 24, .inl q_kind)), (ra 4, .inl (kI, 24, .inl q_salt)), (ra 5, .inl (kI, 24, .inl q_pace)), (ra 6, .inl (kI, 24, .inl q_mute)), (ra 7, .inl (kI, 24, .inl q_late)), (ra 8, .inl (kI, 40, .inl q_from)), (ra 9, .inl (kI, 40, .inl q_to)), (ra 10, .inl (kI, 6, .inl q_goal)), (ra 1, .inl (kS, 4, .inr (.inr (.inr (.inr q_kinds))))), (ra 13, .inl (kI, 700, .inl q_tape)), (ra 0, .inl (kS, 4, .inr (.inr (.inr (.inr q_words))))), (m0, .inr (11, oX11 ra y246))] := hDa
        clear hPa hDa
        refine W.widen (k := 0) (n := 0) (Nat.le_of_ble_eq_true rfl) (Nat.le_of_ble_eq_true rfl) ?_
        refine lv_iload_n hx hb dX11_readClause_40 rfl (lv_at hl 0 rfl) ?_
        refine lv_if_ne (tgt := 48) hx hb dX11_readClause_41 rfl (fun _ => ?_) (fun c9 => absurd c9 (iv_ne b179 ivk_0 (by decide)))
        refine lv_iload_n hx hb dX11_readClause_48 rfl (lv_at hl 0 rfl) ?_
        refine lv_iconst (v := 1) hx hb dX11_readClause_49 ic_1 ?_
        refine lv_icmp_ne (tgt := 57) hx hb dX11_readClause_50 rfl (fun _ => ?_) (fun c9 => absurd c9 (iv_ne b179 ivk_1 (by decide)))
        refine lv_iload_n hx hb dX11_readClause_57 rfl (lv_at hl 0 rfl) ?_
        refine lv_iconst (v := 2) hx hb dX11_readClause_58 ic_2 ?_
        refine lv_icmp_ne (tgt := 66) hx hb dX11_readClause_59 rfl (fun _ => ?_) (fun c9 => absurd c9 (iv_ne b179 ivk_2 (by decide)))
        refine lv_iload_n hx hb dX11_readClause_66 rfl (lv_at hl 0 rfl) ?_
        refine lv_iconst (v := 3) hx hb dX11_readClause_67 ic_3 ?_
        refine lv_icmp_ne (tgt := 96) hx hb dX11_readClause_68 rfl (fun c9 => absurd (c5) c9) (fun _ => ?_)
        refine lv_aload_n hx hb dX11_readClause_71 rfl (lv_at hl 1 rfl) ?_
        refine va_get (D := (dC, dI)) (ci := 11) (v := .int (y246 8)) (C := RX11) (T := TX11) (N := 61) hx hb hts hin11 hown hK hP 12 rfl rfl 22 (Nat.le_of_ble_eq_true rfl) hw_1 (fun _ h9 => h9) rfl dX11_readClause_72 ?_
        refine lv_if_ne (tgt := 96) hx hb dX11_readClause_75 rfl (fun _ => ?_) (fun c9 => absurd c9 (iv_ne hq248 ivk_0 (by decide)))
        have hck : clsK tT kK = 3 := (wh_c.symm.trans (hwk.symm.trans c5))
        have hrr256 : RRd tT nN y246 (clsM tT nN kK (NR q_told q_kind q_salt q_pace q_mute q_late q_from q_to q_goal)) := (cm_3 (N := NR q_told q_kind q_salt q_pace q_mute q_late q_from q_to q_goal) hck rfl) ▸ (show RRd tT nN y246 (losS tT nN (Sum.inr kK) (¬ NR q_told q_kind q_salt q_pace q_mute q_late q_from q_to q_goal 0 4 = 0)) from it_t (Q := RRd tT nN y246) (nr_told c180) (hq251))
        refine lv_aload_n hx hb dX11_readClause_96 rfl (lv_at hl 1 rfl) ?_
        refine va_get (D := (dC, dI)) (ci := 11) (v := .int (y246 8)) (C := RX11) (T := TX11) (N := 61) hx hb hts hin11 hown hK hP 12 rfl rfl 22 (Nat.le_of_ble_eq_true rfl) hw_1 (fun _ h9 => h9) rfl dX11_readClause_97 ?_
        refine lv_if_ne (tgt := 116) hx hb dX11_readClause_100 rfl (fun _ => ?_) (fun c9 => absurd c9 (iv_ne hq248 ivk_0 (by decide)))
        have hrr257 : RRd tT nN y246 (sgnT (clsM tT nN kK (NR q_told q_kind q_salt q_pace q_mute q_late q_from q_to q_goal))) := (sr_a hrr256 (Or.inl (iv_ne hq248 ivk_0 (by decide)))) ▸ hrr256
        refine lv_aload_n hx hb dX11_readClause_116 rfl (lv_at hl 1 rfl) ?_
        refine va_get (D := (dC, dI)) (ci := 11) (v := .int (y246 8)) (C := RX11) (T := TX11) (N := 61) hx hb hts hin11 hown hK hP 12 rfl rfl 22 (Nat.le_of_ble_eq_true rfl) hw_1 (fun _ h9 => h9) rfl dX11_readClause_117 ?_
        refine lv_if_ne (tgt := 127) hx hb dX11_readClause_120 rfl (fun _ => ?_) (fun c9 => absurd c9 (iv_ne hq248 ivk_0 (by decide)))
        have hPD9 := cl_s (wc := [(m0, .inr (11, oX11 ra y246)), (ra 2, .inl (kI, 8, .inl q_told)), (ra 3, .inl (kI, 24, .inl q_kind)), (ra 4, .inl (kI, 24, .inl q_salt)), (ra 5, .inl (kI, 24, .inl q_pace)), (ra 6, .inl (kI, 24, .inl q_mute)), (ra 7, .inl (kI, 24, .inl q_late)), (ra 8, .inl (kI, 40, .inl q_from)), (ra 9, .inl (kI, 40, .inl q_to)), (ra 10, .inl (kI, 6, .inl q_goal)), (ra 13, .inl (kI, 700, .inl q_tape)), (ra 0, .inl (kS, 4, .inr (.inr (.inr (.inr q_words))))), (ra 1, .inl (kS, 4, .inr (.inr (.inr (.inr q_kinds)))))]) hP hD [12, 0, 1, 2, 3, 4, 5, 6, 7, 8, 10, 11, 9] rfl (by decide +kernel)
        have hP9 := hPD9.1
        have hD9 := hPD9.2
        exact W.vret hx hb hr (fun t ht hW => ⟨⟨(), rfl, trivial, y246, q_told, q_kind, q_salt, q_pace, q_mute, q_late, q_from, q_to, q_goal, hq247, hq_told, hq_salt, hq_from, hq_to, hq_goal, (show (x0 2).toInt ≤ (y246 2).toInt from by omega), (show y246 3 = x0 3 from hq250), (show ∀ j : Nat, (j : Int) < (q_told 1).toInt → (q_from j).toInt < (q_to j).toInt from hLT), (show ∀ j : Nat, (j : Int) < (q_told 5).toInt → (q_from (20 + j)).toInt < (q_to (20 + j)).toInt from hLD), (show ¬ y246 8 = 0 ∨ y246 4 = 0 ∨ (x0 2).toInt + 1 ≤ (y246 2).toInt from Or.inl (iv_ne hq248 ivk_0 (by decide))), (show RRd tT nN y246 (clsS tT nN kK (NR q_told q_kind q_salt q_pace q_mute q_late q_from q_to q_goal)) from rr_stepN hrr257 (iv_ne hq248 ivk_0 (by decide))), (show y246 8 = 0 → NR q_told q_kind q_salt q_pace q_mute q_late q_from q_to q_goal = clsN tT nN kK (NR q_told q_kind q_salt q_pace q_mute q_late q_from q_to q_goal) from fun w => absurd w (iv_ne hq248 ivk_0 (by decide))), (show LowT q_told q_from q_to q_told q_from q_to from low_0), (show Lw12 q_kind q_kind from lw12_0), (show Lw12 q_salt q_salt from lw12_0), (show Lw3 q_goal q_goal from lw3_0), (show y246 1 = x0 1 from hq252), (show y246 10 = x0 10 from hq253), (show y246 11 = x0 11 from hq254), (show y246 14 = x0 14 from hq255), by rw [ht]; exact hP9, hD9⟩, hS.F ht⟩) hS.2.2 dX11_readClause_127
  · have b258 : iv (-1) (-1) r1 := iv_eqL c3 ivk_m1
    refine lv_aload_n hx hb dX11_readClause_14 rfl (lv_at hl 1 rfl) ?_
    refine lv_iconst (v := 1) hx hb dX11_readClause_15 ic_1 ?_
    obtain ⟨hPc, hDc, hFc, hJn⟩ := cl_a (wc := [(m0, .inr (11, oX11 ra x0))]) (wr := [(ra 2, .inl (kI, 8, .inl q_told)), (ra 3, .inl (kI, 24, .inl q_kind)), (ra 4, .inl (kI, 24, .inl q_salt)), (ra 5, .inl (kI, 24, .inl q_pace)), (ra 6, .inl (kI, 24, .inl q_mute)), (ra 7, .inl (kI, 24, .inl q_late)), (ra 8, .inl (kI, 40, .inl q_from)), (ra 9, .inl (kI, 40, .inl q_to)), (ra 10, .inl (kI, 6, .inl q_goal)), (ra 1, .inl (kS, 4, .inr (.inr (.inr (.inr q_kinds))))), (ra 13, .inl (kI, 700, .inl q_tape)), (ra 0, .inl (kS, 4, .inr (.inr (.inr (.inr q_words)))))]) hP hD hS hA [10] [0, 1, 2, 3, 4, 5, 6, 7, 8, 9, 11, 12] rfl rfl (by decide +kernel)
    refine va_callv (va_runV (As := [.int 1]) (rest := []) ⟨hx, hb, hml, hown, hts⟩ (s11_wrong l dC dI kB kI kJ kZ kC kS H.size m0 ra x0 1 tT nN (Sum.inr kK) (hX) ((iv_w ivk_1 (by decide) (by decide))) (hRr)) (cwV 1 hts gX11_readClause_X11_wrong rfl rfl rfl (by decide +kernel) ⟨Nat.le_of_ble_eq_true rfl, Nat.le_of_ble_eq_true rfl⟩) ⟨fun a U g mk q => by obtain ⟨q0, q1, qP, qE, qD⟩ := q; exact ⟨q0, q1, qP, kE_call qE, qD⟩, va_recv hK hP (ci := 11) (q0 := 10) rfl rfl, fun U hU hW => ⟨rfl, by rw [hU], by rw [hU]; exact hPc, kE_warm hW hE, hDc.weaken (fun _ _ _ _ => trivial)⟩⟩ rfl rfl hl.1 rfl (lv_room (Nat.le_of_ble_eq_true rfl)) dX11_readClause_16 ⟨Nat.le_of_ble_eq_true rfl, Nat.le_of_ble_eq_true rfl⟩) hS (fun q _ h => hFc q h) hFc (fun u t H locs ht hvm w260 hB hz1 hk1 hS => ?_)
    obtain ⟨y261, hq262, hq263, hq264, hq265, hq266, hq267, hq268, hq269, hq270, hP1, hD1⟩ := hB
    try dsimp only at w260
    obtain ⟨hPa, hDa⟩ := hJn (w1 := [(m0, .inr (11, oX11 ra y261))]) hk1 ht hP1 hD1
    clear hP hD hPc hDc hFc hJn hP1 hD1 hk1
    have hP : va_P (dC, dI) vwCl [(ra 2, .inl (kI, 8, .inl q_told)), (ra 3, .inl (kI, 24, .inl q_kind)), (ra 4, .inl (kI, 24, .inl q_salt)), (ra 5, .inl (kI, 24, .inl q_pace)), (ra 6, .inl (kI, 24, .inl q_mute)), (ra 7, .inl (kI, 24, .inl q_late)), (ra 8, .inl (kI, 40, .inl q_from)), (ra 9, .inl (kI, 40, .inl q_to)), (ra 10, .inl (kI, 6, .inl q_goal)), (ra 1, .inl (kS, 4, .inr (.inr (.inr (.inr q_kinds))))), (ra 13, .inl (kI, 700, .inl q_tape)), (ra 0, .inl (kS, 4, .inr (.inr (.inr (.inr q_words))))), (m0, .inr (11, oX11 ra y261))] H := hPa
    have hD : va_D A [(ra 2, .inl (kI, 8, .inl q_told)), (ra 3, .inl (kI, 24, .inl q_kind)), (ra 4, .inl (kI, 24, .inl q_salt)), (ra 5, .inl (kI, 24, .inl q_pace)), (ra 6, .inl (kI, 24, .inl q_mute)), (ra 7, .inl (kI, 24, .inl q_late)), (ra 8, .inl (kI, 40, .inl q_from)), (ra 9, .inl (kI, 40, .inl q_to)), (ra 10, .inl (kI, 6, .inl q_goal)), (ra 1, .inl (kS, 4, .inr (.inr (.inr (.inr q_kinds))))), (ra 13, .inl (kI, 700, .inl q_tape)), (ra 0, .inl (kS, 4, .inr (.inr (.inr (.inr q_words))))), (m0, .inr (11, oX11 ra y261))] := hDa
    clear hPa hDa
    refine W.widen (k := 0) (n := 0) (Nat.le_of_ble_eq_true rfl) (Nat.le_of_ble_eq_true rfl) ?_
    refine lv_iload_n hx hb dX11_readClause_19 rfl (lv_at hl 0 rfl) ?_
    refine lv_iconst (v := 3) hx hb dX11_readClause_20 ic_3 ?_
    refine lv_icmp_ne (tgt := 40) hx hb dX11_readClause_21 rfl (fun _ => ?_) (fun c9 => absurd c9 (iv_ne b258 ivk_3 (by decide)))
    refine lv_iload_n hx hb dX11_readClause_40 rfl (lv_at hl 0 rfl) ?_
    refine lv_if_ne (tgt := 48) hx hb dX11_readClause_41 rfl (fun _ => ?_) (fun c9 => absurd c9 (iv_ne b258 ivk_0 (by decide)))
    refine lv_iload_n hx hb dX11_readClause_48 rfl (lv_at hl 0 rfl) ?_
    refine lv_iconst (v := 1) hx hb dX11_readClause_49 ic_1 ?_
    refine lv_icmp_ne (tgt := 57) hx hb dX11_readClause_50 rfl (fun _ => ?_) (fun c9 => absurd c9 (iv_ne b258 ivk_1 (by decide)))
    refine lv_iload_n hx hb dX11_readClause_57 rfl (lv_at hl 0 rfl) ?_
    refine lv_iconst (v := 2) hx hb dX11_readClause_58 ic_2 ?_
    refine lv_icmp_ne (tgt := 66) hx hb dX11_readClause_59 rfl (fun _ => ?_) (fun c9 => absurd c9 (iv_ne b258 ivk_2 (by decide)))
    refine lv_iload_n hx hb dX11_readClause_66 rfl (lv_at hl 0 rfl) ?_
    refine lv_iconst (v := 3) hx hb dX11_readClause_67 ic_3 ?_
    refine lv_icmp_ne (tgt := 96) hx hb dX11_readClause_68 rfl (fun _ => ?_) (fun c9 => absurd c9 (iv_ne b258 ivk_3 (by decide)))
    have hck : clsK tT kK = -1 := (wh_c.symm.trans (hwk.symm.trans c3))
    have hrr271 : RRd tT nN y261 (clsM tT nN kK (NR q_told q_kind q_salt q_pace q_mute q_late q_from q_to q_goal)) := (cm_n (N := NR q_told q_kind q_salt q_pace q_mute q_late q_from q_to q_goal) hck) ▸ hq266
    refine lv_aload_n hx hb dX11_readClause_96 rfl (lv_at hl 1 rfl) ?_
    refine va_get (D := (dC, dI)) (ci := 11) (v := .int (y261 8)) (C := RX11) (T := TX11) (N := 61) hx hb hts hin11 hown hK hP 12 rfl rfl 22 (Nat.le_of_ble_eq_true rfl) hw_1 (fun _ h9 => h9) rfl dX11_readClause_97 ?_
    refine lv_if_ne (tgt := 116) hx hb dX11_readClause_100 rfl (fun _ => ?_) (fun c9 => absurd c9 (iv_ne hq263 ivk_0 (by decide)))
    have hrr272 : RRd tT nN y261 (sgnT (clsM tT nN kK (NR q_told q_kind q_salt q_pace q_mute q_late q_from q_to q_goal))) := (sr_a hrr271 (Or.inl (iv_ne hq263 ivk_0 (by decide)))) ▸ hrr271
    refine lv_aload_n hx hb dX11_readClause_116 rfl (lv_at hl 1 rfl) ?_
    refine va_get (D := (dC, dI)) (ci := 11) (v := .int (y261 8)) (C := RX11) (T := TX11) (N := 61) hx hb hts hin11 hown hK hP 12 rfl rfl 22 (Nat.le_of_ble_eq_true rfl) hw_1 (fun _ h9 => h9) rfl dX11_readClause_117 ?_
    refine lv_if_ne (tgt := 127) hx hb dX11_readClause_120 rfl (fun _ => ?_) (fun c9 => absurd c9 (iv_ne hq263 ivk_0 (by decide)))
    have hPD9 := cl_s (wc := [(m0, .inr (11, oX11 ra y261)), (ra 2, .inl (kI, 8, .inl q_told)), (ra 3, .inl (kI, 24, .inl q_kind)), (ra 4, .inl (kI, 24, .inl q_salt)), (ra 5, .inl (kI, 24, .inl q_pace)), (ra 6, .inl (kI, 24, .inl q_mute)), (ra 7, .inl (kI, 24, .inl q_late)), (ra 8, .inl (kI, 40, .inl q_from)), (ra 9, .inl (kI, 40, .inl q_to)), (ra 10, .inl (kI, 6, .inl q_goal)), (ra 13, .inl (kI, 700, .inl q_tape)), (ra 0, .inl (kS, 4, .inr (.inr (.inr (.inr q_words))))), (ra 1, .inl (kS, 4, .inr (.inr (.inr (.inr q_kinds)))))]) hP hD [12, 0, 1, 2, 3, 4, 5, 6, 7, 8, 10, 11, 9] rfl (by decide +kernel)
    have hP9 := hPD9.1
    have hD9 := hPD9.2
    exact W.vret hx hb hr (fun t ht hW => ⟨⟨(), rfl, trivial, y261, q_told, q_kind, q_salt, q_pace, q_mute, q_late, q_from, q_to, q_goal, hq262, hq_told, hq_salt, hq_from, hq_to, hq_goal, (show (x0 2).toInt ≤ (y261 2).toInt from by omega), (show y261 3 = x0 3 from hq265), (show ∀ j : Nat, (j : Int) < (q_told 1).toInt → (q_from j).toInt < (q_to j).toInt from hLT), (show ∀ j : Nat, (j : Int) < (q_told 5).toInt → (q_from (20 + j)).toInt < (q_to (20 + j)).toInt from hLD), (show ¬ y261 8 = 0 ∨ y261 4 = 0 ∨ (x0 2).toInt + 1 ≤ (y261 2).toInt from Or.inl (iv_ne hq263 ivk_0 (by decide))), (show RRd tT nN y261 (clsS tT nN kK (NR q_told q_kind q_salt q_pace q_mute q_late q_from q_to q_goal)) from rr_stepN hrr272 (iv_ne hq263 ivk_0 (by decide))), (show y261 8 = 0 → NR q_told q_kind q_salt q_pace q_mute q_late q_from q_to q_goal = clsN tT nN kK (NR q_told q_kind q_salt q_pace q_mute q_late q_from q_to q_goal) from fun w => absurd w (iv_ne hq263 ivk_0 (by decide))), (show LowT q_told q_from q_to q_told q_from q_to from low_0), (show Lw12 q_kind q_kind from lw12_0), (show Lw12 q_salt q_salt from lw12_0), (show Lw3 q_goal q_goal from lw3_0), (show y261 1 = x0 1 from hq267), (show y261 10 = x0 10 from hq268), (show y261 11 = x0 11 from hq269), (show y261 14 = x0 14 from hq270), by rw [ht]; exact hP9, hD9⟩, hS.F ht⟩) hS.2.2 dX11_readClause_127
def rm_s11_tellReach : Room := { frames := 1, cells := 0, slots := 0, locals := 20 }
set_option maxHeartbeats 4000000 in
set_option maxRecDepth 100000 in
theorem s11_tellReach (l : Launch) (dC : Nat → ClassId) (dI : Nat → Nat → Nat) (kB kI kJ kZ kC kS : ClassId) (sz : Nat) (m0 : Nat) (ra : Nat → Nat) (x0 : Nat → Int32) (q_told : Nat → Int32) (q_from : Nat → Int32) (q_to : Nat → Int32) (q_reach : Nat → Int32) (hX : fI lX11 hX11 x0) (hq_told : fI lTold hTold q_told) (hq_from : fI (fun _ => 0) (fun _ => 11) q_from) (hq_to : fI (fun _ => 0) (fun _ => 11) q_to) : Met l yX11_tellReach wsX11_tellReach rm_s11_tellReach (va_Pc [.ref m0] (fun U => U.heap.size = sz ∧ va_P (dC, dI) vwCl [(m0, .inr (11, oX11 ra x0)), (ra 2, .inl (kI, 8, .inl q_told)), (ra 8, .inl (kI, 40, .inl q_from)), (ra 9, .inl (kI, 40, .inl q_to)), (ra 14, .inl (kI, 12, .inl q_reach))] U.heap ∧ kE dC dI kB kI kJ kZ kC kS U ∧ va_D (fun _ => True) [(m0, .inr (11, oX11 ra x0)), (ra 2, .inl (kI, 8, .inl q_told)), (ra 8, .inl (kI, 40, .inl q_from)), (ra 9, .inl (kI, 40, .inl q_to)), (ra 14, .inl (kI, 12, .inl q_reach))])) (va_Qv (fun (_ : Unit) => True) (fun _ t => ∃ (q_reach' : Nat → Int32), va_P (dC, dI) vwCl [(m0, .inr (11, oX11 ra x0)), (ra 2, .inl (kI, 8, .inl q_told)), (ra 8, .inl (kI, 40, .inl q_from)), (ra 9, .inl (kI, 40, .inl q_to)), (ra 14, .inl (kI, 12, .inl q_reach'))] t.heap ∧ va_D (va_A [(m0, .inr (11, oX11 ra x0)), (ra 2, .inl (kI, 8, .inl q_told)), (ra 8, .inl (kI, 40, .inl q_from)), (ra 9, .inl (kI, 40, .inl q_to)), (ra 14, .inl (kI, 12, .inl q_reach))] sz) [(m0, .inr (11, oX11 ra x0)), (ra 2, .inl (kI, 8, .inl q_told)), (ra 8, .inl (kI, 40, .inl q_from)), (ra 9, .inl (kI, 40, .inl q_to)), (ra 14, .inl (kI, 12, .inl q_reach'))]) (va_A [(m0, .inr (11, oX11 ra x0)), (ra 2, .inl (kI, 8, .inl q_told)), (ra 8, .inl (kI, 40, .inl q_from)), (ra 9, .inl (kI, 40, .inl q_to)), (ra 14, .inl (kI, 12, .inl q_reach))] sz)) 0 0 (va_A [(m0, .inr (11, oX11 ra x0)), (ra 2, .inl (kI, 8, .inl q_told)), (ra 8, .inl (kI, 40, .inl q_from)), (ra 9, .inl (kI, 40, .inl q_to)), (ra 14, .inl (kI, 12, .inl q_reach))] sz) := by
  refine Met.ofW (cc := cX11_tellReach) (maxL := 4) (ret := none) (by decide) rfl ?_
  intro p e s m args0 below meth c s₁ B hml hv
  obtain ⟨hargs, hsz, hP, hE, hD0⟩ := hv
  have hx := B.exec
  have hb := B.bytes
  have hr := B.returns
  have hts := atoms_spec (ws := wsX11_tellReach) B.pre
  have hown : s.vm.findClass RX11 = some m.cls := findClass_of_methodNamed B.named
  have hlocks := B.notSynchronized
  have hK := hE.1
  have hin11 : ∀ w ∈ wsX110, w ∈ wsX11_tellReach := fun _ h9 => List.mem_cons_of_mem _ (List.mem_append_right _ h9)
  have hw_0 := hts (.fieldLink RX11 53 "PathProberModel" "from" "[I") (List.mem_of_getElem? (i := 2) rfl)
  have hw_1 := hts (.fieldLink RX11 73 "PathProberModel" "reach" "[I") (List.mem_of_getElem? (i := 1) rfl)
  have hw_2 := hts (.fieldLink RX11 56 "PathProberModel" "to" "[I") (List.mem_of_getElem? (i := 3) rfl)
  subst hsz
  have hD := hD0.self (sz := s.heap.size)
  generalize hAe : va_A [(m0, .inr (11, oX11 ra x0)), (ra 2, .inl (kI, 8, .inl q_told)), (ra 8, .inl (kI, 40, .inl q_from)), (ra 9, .inl (kI, 40, .inl q_to)), (ra 14, .inl (kI, 12, .inl q_reach))] s.heap.size = A at hD ⊢
  have hA : ∀ q : Nat, s.heap.size ≤ q → A q := fun q h => by rw [← hAe]; exact Or.inr h
  have hS : va_S A s.heap s.heap [] := va_S.rf
  have hP : va_P (dC, dI) vwCl [(m0, .inr (11, oX11 ra x0)), (ra 2, .inl (kI, 8, .inl q_told)), (ra 8, .inl (kI, 40, .inl q_from)), (ra 9, .inl (kI, 40, .inl q_to)), (ra 14, .inl (kI, 12, .inl q_reach))] s.heap := hP
  have hl := lv_entry ([.ref m0]) (n := 4) (Nat.le_of_ble_eq_true rfl)
  have hla : entryFrame m args0 4 = entryFrame m ([.ref m0] : List Value).toArray 4 := by rw [hargs]
  rw [hla, lg_entry_eq]
  generalize (lg_sl ([.ref m0]) ++ List.replicate (4 - (lg_sl ([.ref m0])).length) Slot.unset).toArray = ls at hl ⊢
  have hl : lv_has ls 4 [(0, .ref m0)] := hl
  have hJ2 : ∀ (n : Nat) (g2_4 : Nat → Int32) (v2_loc1 : Int32) (H : Heap) (locs : List Loc) (ls : Array Slot), (12 - v2_loc1.toInt).toNat < n → iv 0 12 v2_loc1 → (x0 1 = x0 1) → (x0 10 = x0 10) → (x0 11 = x0 11) → (x0 14 = x0 14) → va_P (dC, dI) vwCl [(m0, .inr (11, oX11 ra x0)), (ra 2, .inl (kI, 8, .inl q_told)), (ra 8, .inl (kI, 40, .inl q_from)), (ra 9, .inl (kI, 40, .inl q_to)), (ra 14, .inl (kI, 12, .inl g2_4))] H → va_D A [(m0, .inr (11, oX11 ra x0)), (ra 2, .inl (kI, 8, .inl q_told)), (ra 8, .inl (kI, 40, .inl q_from)), (ra 9, .inl (kI, 40, .inl q_to)), (ra 14, .inl (kI, 12, .inl g2_4))] → va_S A s.heap H locs → lv_has ls 4 [(0, .ref m0), (1, .int v2_loc1)] → W p l e (headSpec wsX11_tellReach rm_s11_tellReach).room s m args0 below meth c H locs (0) (0) (MQ below (va_Qv (fun (_ : Unit) => True) (fun _ t => ∃ (q_reach' : Nat → Int32), va_P (dC, dI) vwCl [(m0, .inr (11, oX11 ra x0)), (ra 2, .inl (kI, 8, .inl q_told)), (ra 8, .inl (kI, 40, .inl q_from)), (ra 9, .inl (kI, 40, .inl q_to)), (ra 14, .inl (kI, 12, .inl q_reach'))] t.heap ∧ va_D A [(m0, .inr (11, oX11 ra x0)), (ra 2, .inl (kI, 8, .inl q_told)), (ra 8, .inl (kI, 40, .inl q_from)), (ra 9, .inl (kI, 40, .inl q_to)), (ra 14, .inl (kI, 12, .inl q_reach'))]) A) args0 s 0 0 A) (F0 m 2 ls []) := by
    intro n
    induction n with
    | zero => intro g2_4 v2_loc1 H locs ls hm2; exact absurd hm2 (Nat.not_lt_zero _)
    | succ n ih2 =>
      intro g2_4 v2_loc1 H locs ls hm2 h2_1 htp_2 hfp_2 hor_2 hirl_2 hP hD hS hl
      have hJ21 : ∀ (n : Nat) (g21_4 : Nat → Int32) (v21_loc2 : Int32) (H : Heap) (locs : List Loc) (ls : Array Slot), (v21_loc2.toInt - (-1)).toNat < n → iv 0 11 v2_loc1 → iv (-1) 11 v21_loc2 → iv 1 12 (q_told 0) → (x0 1 = x0 1) → (x0 10 = x0 10) → (x0 11 = x0 11) → (x0 14 = x0 14) → va_P (dC, dI) vwCl [(m0, .inr (11, oX11 ra x0)), (ra 2, .inl (kI, 8, .inl q_told)), (ra 8, .inl (kI, 40, .inl q_from)), (ra 9, .inl (kI, 40, .inl q_to)), (ra 14, .inl (kI, 12, .inl g21_4))] H → va_D A [(m0, .inr (11, oX11 ra x0)), (ra 2, .inl (kI, 8, .inl q_told)), (ra 8, .inl (kI, 40, .inl q_from)), (ra 9, .inl (kI, 40, .inl q_to)), (ra 14, .inl (kI, 12, .inl g21_4))] → va_S A s.heap H locs → lv_has ls 4 [(0, .ref m0), (1, .int v2_loc1), (2, .int v21_loc2)] → W p l e (headSpec wsX11_tellReach rm_s11_tellReach).room s m args0 below meth c H locs (0) (0) (MQ below (va_Qv (fun (_ : Unit) => True) (fun _ t => ∃ (q_reach' : Nat → Int32), va_P (dC, dI) vwCl [(m0, .inr (11, oX11 ra x0)), (ra 2, .inl (kI, 8, .inl q_told)), (ra 8, .inl (kI, 40, .inl q_from)), (ra 9, .inl (kI, 40, .inl q_to)), (ra 14, .inl (kI, 12, .inl q_reach'))] t.heap ∧ va_D A [(m0, .inr (11, oX11 ra x0)), (ra 2, .inl (kI, 8, .inl q_told)), (ra 8, .inl (kI, 40, .inl q_from)), (ra 9, .inl (kI, 40, .inl q_to)), (ra 14, .inl (kI, 12, .inl q_reach'))]) A) args0 s 0 0 A) (F0 m 21 ls []) := by
        intro n
        induction n with
        | zero => intro g21_4 v21_loc2 H locs ls hm21; exact absurd hm21 (Nat.not_lt_zero _)
        | succ n ih21 =>
          intro g21_4 v21_loc2 H locs ls hm21 h21_1 h21_2 h21_3 htp_21 hfp_21 hor_21 hirl_21 hP hD hS hl
          have hJ27 : ∀ (n : Nat) (g27_4 : Nat → Int32) (v27_loc3 : Int32) (H : Heap) (locs : List Loc) (ls : Array Slot), (20 - v27_loc3.toInt).toNat < n → iv 0 11 v21_loc2 → iv 0 20 v27_loc3 → (x0 1 = x0 1) → (x0 10 = x0 10) → (x0 11 = x0 11) → (x0 14 = x0 14) → va_P (dC, dI) vwCl [(m0, .inr (11, oX11 ra x0)), (ra 2, .inl (kI, 8, .inl q_told)), (ra 8, .inl (kI, 40, .inl q_from)), (ra 9, .inl (kI, 40, .inl q_to)), (ra 14, .inl (kI, 12, .inl g27_4))] H → va_D A [(m0, .inr (11, oX11 ra x0)), (ra 2, .inl (kI, 8, .inl q_told)), (ra 8, .inl (kI, 40, .inl q_from)), (ra 9, .inl (kI, 40, .inl q_to)), (ra 14, .inl (kI, 12, .inl g27_4))] → va_S A s.heap H locs → lv_has ls 4 [(0, .ref m0), (1, .int v2_loc1), (2, .int v21_loc2), (3, .int v27_loc3)] → W p l e (headSpec wsX11_tellReach rm_s11_tellReach).room s m args0 below meth c H locs (0) (0) (MQ below (va_Qv (fun (_ : Unit) => True) (fun _ t => ∃ (q_reach' : Nat → Int32), va_P (dC, dI) vwCl [(m0, .inr (11, oX11 ra x0)), (ra 2, .inl (kI, 8, .inl q_told)), (ra 8, .inl (kI, 40, .inl q_from)), (ra 9, .inl (kI, 40, .inl q_to)), (ra 14, .inl (kI, 12, .inl q_reach'))] t.heap ∧ va_D A [(m0, .inr (11, oX11 ra x0)), (ra 2, .inl (kI, 8, .inl q_told)), (ra 8, .inl (kI, 40, .inl q_from)), (ra 9, .inl (kI, 40, .inl q_to)), (ra 14, .inl (kI, 12, .inl q_reach'))]) A) args0 s 0 0 A) (F0 m 27 ls []) := by
            intro n
            induction n with
            | zero => intro g27_4 v27_loc3 H locs ls hm27; exact absurd hm27 (Nat.not_lt_zero _)
            | succ n ih27 =>
              intro g27_4 v27_loc3 H locs ls hm27 h27_1 h27_2 htp_27 hfp_27 hor_27 hirl_27 hP hD hS hl
              have hJ76 : ∀ (g76_4 : Nat → Int32) (H : Heap) (locs : List Loc) (ls : Array Slot), iv 0 19 v27_loc3 → iv 1 20 (q_told 1) → (x0 1 = x0 1) → (x0 10 = x0 10) → (x0 11 = x0 11) → (x0 14 = x0 14) → va_P (dC, dI) vwCl [(m0, .inr (11, oX11 ra x0)), (ra 2, .inl (kI, 8, .inl q_told)), (ra 8, .inl (kI, 40, .inl q_from)), (ra 9, .inl (kI, 40, .inl q_to)), (ra 14, .inl (kI, 12, .inl g76_4))] H → va_D A [(m0, .inr (11, oX11 ra x0)), (ra 2, .inl (kI, 8, .inl q_told)), (ra 8, .inl (kI, 40, .inl q_from)), (ra 9, .inl (kI, 40, .inl q_to)), (ra 14, .inl (kI, 12, .inl g76_4))] → va_S A s.heap H locs → lv_has ls 4 [(0, .ref m0), (1, .int v2_loc1), (2, .int v21_loc2), (3, .int v27_loc3)] → W p l e (headSpec wsX11_tellReach rm_s11_tellReach).room s m args0 below meth c H locs (0) (0) (MQ below (va_Qv (fun (_ : Unit) => True) (fun _ t => ∃ (q_reach' : Nat → Int32), va_P (dC, dI) vwCl [(m0, .inr (11, oX11 ra x0)), (ra 2, .inl (kI, 8, .inl q_told)), (ra 8, .inl (kI, 40, .inl q_from)), (ra 9, .inl (kI, 40, .inl q_to)), (ra 14, .inl (kI, 12, .inl q_reach'))] t.heap ∧ va_D A [(m0, .inr (11, oX11 ra x0)), (ra 2, .inl (kI, 8, .inl q_told)), (ra 8, .inl (kI, 40, .inl q_from)), (ra 9, .inl (kI, 40, .inl q_to)), (ra 14, .inl (kI, 12, .inl q_reach'))]) A) args0 s 0 0 A) (F0 m 76 ls []) := by
                intro g76_4 H locs ls h76_1 h76_2 htp_76 hfp_76 hor_76 hirl_76 hP hD hS hl
                refine lv_iinc (v := v27_loc3 + Int32.ofInt 1) (lv' := [(3, .int (v27_loc3 + Int32.ofInt 1)), (0, .ref m0), (1, .int v2_loc1), (2, .int v21_loc2)]) hx hb dX11_tellReach_76 hl (k := 3) rfl (rfl) (Nat.le_of_ble_eq_true rfl) rfl (fun ls hl => ?_)
                have b1 : iv 1 20 (v27_loc3 + Int32.ofInt 1) := iv_add h76_1 ivo_1 (by decide) (by decide) (by decide) (by decide)
                refine lv_goto (tgt := 27) hx hb dX11_tellReach_79 rfl ?_
                exact ih27 g76_4 (v27_loc3 + Int32.ofInt 1) _ _ _ (ms_up (c := 1) (d := 0) h76_1 hm27 (by decide) (iv_inc 1 h76_1 (by decide) (by decide) (by decide) (by decide)) (by decide) rfl) (h27_1) ((iv_w b1 (by decide) (by decide))) ((show x0 1 = x0 1 from rfl)) ((show x0 10 = x0 10 from rfl)) ((show x0 11 = x0 11 from rfl)) ((show x0 14 = x0 14 from rfl)) (hP) (hD) hS (lv_sub hl [1, 2, 3, 0] rfl)
              refine lv_iload_n hx hb dX11_tellReach_27 rfl (lv_at hl 3 rfl) ?_
              refine lv_aload_n hx hb dX11_tellReach_28 rfl (lv_at hl 0 rfl) ?_
              obtain ⟨hPc, hDc, hFc, hJn⟩ := cl_a (wc := [(m0, .inr (11, oX11 ra x0)), (ra 2, .inl (kI, 8, .inl q_told))]) (wr := [(ra 8, .inl (kI, 40, .inl q_from)), (ra 9, .inl (kI, 40, .inl q_to)), (ra 14, .inl (kI, 12, .inl g27_4))]) hP hD hS hA [0, 1] [2, 3, 4] rfl rfl (by decide +kernel)
              refine va_calli (va_runV (As := []) (rest := [.int v27_loc3]) ⟨hx, hb, hml, hown, hts⟩ (s11_links l dC dI kB kI kJ kZ kC kS H.size m0 ra x0 q_told (hX) (hq_told)) (cwV 0 hts gX11_tellReach_X11_links rfl rfl rfl (by decide +kernel) ⟨Nat.le_of_ble_eq_true rfl, Nat.le_of_ble_eq_true rfl⟩) ⟨fun a U g mk q => by obtain ⟨q0, q1, qP, qE, qD⟩ := q; exact ⟨q0, q1, qP, kE_call qE, qD⟩, va_recv hK hP (ci := 11) (q0 := 0) rfl rfl, fun U hU hW => ⟨rfl, by rw [hU], by rw [hU]; exact hPc, kE_warm hW hE, hDc.weaken (fun _ _ _ _ => trivial)⟩⟩ rfl rfl hl.1 rfl (lv_room (Nat.le_of_ble_eq_true rfl)) dX11_tellReach_29 ⟨Nat.le_of_ble_eq_true rfl, Nat.le_of_ble_eq_true rfl⟩) hS (fun q _ h => hFc q h) hFc (fun r2 u t H locs ht hvm w3 hB hz1 hk1 hS => ?_)
              obtain ⟨hP1, hD1⟩ := hB
              try dsimp only at w3
              obtain ⟨hPa, hDa⟩ := hJn (w1 := [(m0, .inr (11, oX11 ra x0)), (ra 2, .inl (kI, 8, .inl q_told))]) hk1 ht hP1 hD1
              clear hP hD hPc hDc hFc hJn hP1 hD1 hk1
              have hP : va_P (dC, dI) vwCl [(ra 8, .inl (kI, 40, .inl q_from)), (ra 9, .inl (kI, 40, .inl q_to)), (ra 14, .inl (kI, 12, .inl g27_4)), (m0, .inr (11, oX11 ra x0)), (ra 2, .inl (kI, 8, .inl q_told))] H := hPa
              have hD : va_D A [(ra 8, .inl (kI, 40, .inl q_from)), (ra 9, .inl (kI, 40, .inl q_to)), (ra 14, .inl (kI, 12, .inl g27_4)), (m0, .inr (11, oX11 ra x0)), (ra 2, .inl (kI, 8, .inl q_told))] := hDa
              clear hPa hDa
              refine W.widen (k := 0) (n := 0) (Nat.le_of_ble_eq_true rfl) (Nat.le_of_ble_eq_true rfl) ?_
              subst w3
              refine lv_icmp_ge (tgt := 82) hx hb dX11_tellReach_32 rfl (fun c4 => ?_) (fun c4 => ?_)
              · refine lv_iinc (v := v21_loc2 + Int32.ofInt (-1)) (lv' := [(2, .int (v21_loc2 + Int32.ofInt (-1))), (0, .ref m0), (1, .int v2_loc1), (3, .int v27_loc3)]) hx hb dX11_tellReach_82 hl (k := 2) rfl (rfl) (Nat.le_of_ble_eq_true rfl) rfl (fun ls hl => ?_)
                have b5 : iv (-1) 10 (v21_loc2 + Int32.ofInt (-1)) := iv_add h27_1 ivo_m1 (by decide) (by decide) (by decide) (by decide)
                refine lv_goto (tgt := 21) hx hb dX11_tellReach_85 rfl ?_
                have hPD9 := cl_s (wc := [(m0, .inr (11, oX11 ra x0)), (ra 2, .inl (kI, 8, .inl q_told)), (ra 8, .inl (kI, 40, .inl q_from)), (ra 9, .inl (kI, 40, .inl q_to)), (ra 14, .inl (kI, 12, .inl g27_4))]) hP hD [3, 4, 0, 1, 2] rfl (by decide +kernel)
                exact ih21 g27_4 (v21_loc2 + Int32.ofInt (-1)) _ _ _ (ms_dn (c := 1) (d := 0) h27_1 hm21 (by decide) (iv_inc (-1) h27_1 (by decide) (by decide) (by decide) (by decide)) (by decide) rfl) (h21_1) ((iv_w b5 (by decide) (by decide))) (h21_3) ((show x0 1 = x0 1 from rfl)) ((show x0 10 = x0 10 from rfl)) ((show x0 11 = x0 11 from rfl)) ((show x0 14 = x0 14 from rfl)) (hPD9.1) (hPD9.2) hS (lv_sub hl [1, 2, 0] rfl)
              · have b6 : iv 0 19 v27_loc3 := iv_ltL (Int32.not_le.mp c4) h27_2 (hq_told 1 : iv 0 20 (q_told 1)) (by decide) (by decide)
                have b7 : iv 1 20 (q_told 1) := iv_ltR (Int32.not_le.mp c4) h27_2 (hq_told 1 : iv 0 20 (q_told 1)) (by decide) (by decide)
                refine lv_aload_n hx hb dX11_tellReach_35 rfl (lv_at hl 0 rfl) ?_
                refine va_get (D := (dC, dI)) (ci := 11) (v := .ref (ra 8)) (C := RX11) (T := TX11) (N := 61) hx hb hts hin11 hown hK hP 3 rfl rfl 9 (Nat.le_of_ble_eq_true rfl) hw_0 (fun _ h9 => h9) rfl dX11_tellReach_36 ?_
                refine lv_iload_n hx hb dX11_tellReach_39 rfl (lv_at hl 3 rfl) ?_
                refine va_iald hx hb hK hP 0 1 rfl rfl (iv_in b6 (by decide) (by decide)) dX11_tellReach_40 ?_
                refine iv_top (a := 0) (b := 11) (hq_from _) (fun z8 b9 => ?_)
                refine lv_iload_n hx hb dX11_tellReach_41 rfl (lv_at hl 2 rfl) ?_
                refine lv_icmp_ne (tgt := 76) hx hb dX11_tellReach_42 rfl (fun c10 => ?_) (fun c10 => ?_)
                · have hPD9 := cl_s (wc := [(m0, .inr (11, oX11 ra x0)), (ra 2, .inl (kI, 8, .inl q_told)), (ra 8, .inl (kI, 40, .inl q_from)), (ra 9, .inl (kI, 40, .inl q_to)), (ra 14, .inl (kI, 12, .inl g27_4))]) hP hD [3, 4, 0, 1, 2] rfl (by decide +kernel)
                  exact hJ76 g27_4 _ _ _ (b6) (b7) ((show x0 1 = x0 1 from rfl)) ((show x0 10 = x0 10 from rfl)) ((show x0 11 = x0 11 from rfl)) ((show x0 14 = x0 14 from rfl)) (hPD9.1) (hPD9.2) hS (lv_sub hl [0, 1, 2, 3] rfl)
                · refine lv_aload_n hx hb dX11_tellReach_45 rfl (lv_at hl 0 rfl) ?_
                  refine va_get (D := (dC, dI)) (ci := 11) (v := .ref (ra 14)) (C := RX11) (T := TX11) (N := 61) hx hb hts hin11 hown hK hP 3 rfl rfl 25 (Nat.le_of_ble_eq_true rfl) hw_1 (fun _ h9 => h9) rfl dX11_tellReach_46 ?_
                  refine lv_iload_n hx hb dX11_tellReach_49 rfl (lv_at hl 1 rfl) ?_
                  refine va_iald hx hb hK hP 2 1 rfl rfl (iv_in h21_1 (by decide) (by decide)) dX11_tellReach_50 ?_
                  refine lv_topi (fun z11 _ => ?_)
                  refine lv_aload_n hx hb dX11_tellReach_51 rfl (lv_at hl 0 rfl) ?_
                  refine va_get (D := (dC, dI)) (ci := 11) (v := .ref (ra 9)) (C := RX11) (T := TX11) (N := 61) hx hb hts hin11 hown hK hP 3 rfl rfl 10 (Nat.le_of_ble_eq_true rfl) hw_2 (fun _ h9 => h9) rfl dX11_tellReach_52 ?_
                  refine lv_iload_n hx hb dX11_tellReach_55 rfl (lv_at hl 3 rfl) ?_
                  refine va_iald hx hb hK hP 1 1 rfl rfl (iv_in b6 (by decide) (by decide)) dX11_tellReach_56 ?_
                  refine iv_top (a := 0) (b := 11) (hq_to _) (fun z12 b13 => ?_)
                  refine lv_ishr hx hb dX11_tellReach_57 ?_
                  refine lv_topi (fun z14 _ => ?_)
                  refine lv_iconst (v := 1) hx hb dX11_tellReach_58 ic_1 ?_
                  refine lv_iand hx hb dX11_tellReach_59 ?_
                  refine iv_top (a := 0) (b := 1) (iv_and (m := 1) (by decide) (by decide) (by decide)) (fun z15 b16 => ?_)
                  refine lv_iconst (v := 1) hx hb dX11_tellReach_60 ic_1 ?_
                  refine lv_icmp_ne (tgt := 76) hx hb dX11_tellReach_61 rfl (fun c17 => ?_) (fun c17 => ?_)
                  · have b18 : iv 0 0 z15 := iv_neHi c17 b16 ivk_1 (by decide) (by decide)
                    have hPD9 := cl_s (wc := [(m0, .inr (11, oX11 ra x0)), (ra 2, .inl (kI, 8, .inl q_told)), (ra 8, .inl (kI, 40, .inl q_from)), (ra 9, .inl (kI, 40, .inl q_to)), (ra 14, .inl (kI, 12, .inl g27_4))]) hP hD [3, 4, 0, 1, 2] rfl (by decide +kernel)
                    exact hJ76 g27_4 _ _ _ (b6) (b7) ((show x0 1 = x0 1 from rfl)) ((show x0 10 = x0 10 from rfl)) ((show x0 11 = x0 11 from rfl)) ((show x0 14 = x0 14 from rfl)) (hPD9.1) (hPD9.2) hS (lv_sub hl [0, 1, 2, 3] rfl)
                  · have b19 : iv 1 1 z15 := iv_eqL c17 ivk_1
                    refine lv_aload_n hx hb dX11_tellReach_64 rfl (lv_at hl 0 rfl) ?_
                    refine va_get (D := (dC, dI)) (ci := 11) (v := .ref (ra 14)) (C := RX11) (T := TX11) (N := 61) hx hb hts hin11 hown hK hP 3 rfl rfl 25 (Nat.le_of_ble_eq_true rfl) hw_1 (fun _ h9 => h9) rfl dX11_tellReach_65 ?_
                    refine lv_iload_n hx hb dX11_tellReach_68 rfl (lv_at hl 1 rfl) ?_
                    refine lv_dup2_11 hx hb dX11_tellReach_69 rfl rfl ?_
                    refine va_iald hx hb hK hP 2 1 rfl rfl (iv_in h21_1 (by decide) (by decide)) dX11_tellReach_70 ?_
                    refine lv_topi (fun z20 _ => ?_)
                    refine lv_iconst (v := 1) hx hb dX11_tellReach_71 ic_1 ?_
                    refine lv_iload_n hx hb dX11_tellReach_72 rfl (lv_at hl 2 rfl) ?_
                    refine lv_ishl hx hb dX11_tellReach_73 ?_
                    refine iv_top (a := 0) (b := 2048) (iv_shl1 11 h27_1 (by decide) (by decide) (by decide) (by decide)) (fun z21 b22 => ?_)
                    refine lv_ior hx hb dX11_tellReach_74 ?_
                    refine lv_topi (fun z23 _ => ?_)
                    refine va_iast hx hb hK hP hD hS 2 1 rfl rfl (iv_in h21_1 (by decide) (by decide)) dX11_tellReach_75 (fun H locs hPa hDa hS => ?_)
                    clear hP hD
                    have hP : va_P (dC, dI) vwCl [(ra 8, .inl (kI, 40, .inl q_from)), (ra 9, .inl (kI, 40, .inl q_to)), (ra 14, .inl (kI, 12, .inl (upd g27_4 v2_loc1.toNatClampNeg z23))), (m0, .inr (11, oX11 ra x0)), (ra 2, .inl (kI, 8, .inl q_told))] H := hPa
                    have hD : va_D A [(ra 8, .inl (kI, 40, .inl q_from)), (ra 9, .inl (kI, 40, .inl q_to)), (ra 14, .inl (kI, 12, .inl (upd g27_4 v2_loc1.toNatClampNeg z23))), (m0, .inr (11, oX11 ra x0)), (ra 2, .inl (kI, 8, .inl q_told))] := hDa
                    clear hPa hDa
                    generalize (upd g27_4 v2_loc1.toNatClampNeg z23) = f24 at hP hD
                    have hPD9 := cl_s (wc := [(m0, .inr (11, oX11 ra x0)), (ra 2, .inl (kI, 8, .inl q_told)), (ra 8, .inl (kI, 40, .inl q_from)), (ra 9, .inl (kI, 40, .inl q_to)), (ra 14, .inl (kI, 12, .inl f24))]) hP hD [3, 4, 0, 1, 2] rfl (by decide +kernel)
                    exact hJ76 f24 _ _ _ (b6) (b7) ((show x0 1 = x0 1 from rfl)) ((show x0 10 = x0 10 from rfl)) ((show x0 11 = x0 11 from rfl)) ((show x0 14 = x0 14 from rfl)) (hPD9.1) (hPD9.2) hS (lv_sub hl [0, 1, 2, 3] rfl)
          refine lv_iload_n hx hb dX11_tellReach_21 rfl (lv_at hl 2 rfl) ?_
          refine lv_if_lt (tgt := 88) hx hb dX11_tellReach_22 rfl (fun c25 => ?_) (fun c25 => ?_)
          · have b26 : iv (-1) (-1) v21_loc2 := iv_ltL c25 h21_2 ivk_0 (by decide) (by decide)
            refine lv_iinc (v := v2_loc1 + Int32.ofInt 1) (lv' := [(1, .int (v2_loc1 + Int32.ofInt 1)), (0, .ref m0), (2, .int v21_loc2)]) hx hb dX11_tellReach_88 hl (k := 1) rfl (rfl) (Nat.le_of_ble_eq_true rfl) rfl (fun ls hl => ?_)
            have b27 : iv 1 12 (v2_loc1 + Int32.ofInt 1) := iv_add h21_1 ivo_1 (by decide) (by decide) (by decide) (by decide)
            refine lv_goto (tgt := 2) hx hb dX11_tellReach_91 rfl ?_
            exact ih2 g21_4 (v2_loc1 + Int32.ofInt 1) _ _ _ (ms_up (c := 1) (d := 0) h21_1 hm2 (by decide) (iv_inc 1 h21_1 (by decide) (by decide) (by decide) (by decide)) (by decide) rfl) ((iv_w b27 (by decide) (by decide))) ((show x0 1 = x0 1 from rfl)) ((show x0 10 = x0 10 from rfl)) ((show x0 11 = x0 11 from rfl)) ((show x0 14 = x0 14 from rfl)) (hP) (hD) hS (lv_sub hl [1, 0] rfl)
          · have b28 : iv 0 11 v21_loc2 := iv_leR (Int32.not_lt.mp c25) ivk_0 h21_2 (by decide) (by decide)
            refine lv_iconst (v := 0) hx hb dX11_tellReach_25 ic_0 ?_
            refine lv_istore_n (lv' := [(3, .int 0), (0, .ref m0), (1, .int v2_loc1), (2, .int v21_loc2)]) hx hb dX11_tellReach_26 rfl hl (Nat.le_of_ble_eq_true rfl) rfl (fun ls hl => ?_)
            exact hJ27 _ g21_4 0 _ _ _ (Nat.lt_succ_self _) (b28) ((iv_w ivk_0 (by decide) (by decide))) ((show x0 1 = x0 1 from rfl)) ((show x0 10 = x0 10 from rfl)) ((show x0 11 = x0 11 from rfl)) ((show x0 14 = x0 14 from rfl)) (hP) (hD) hS (lv_sub hl [1, 2, 3, 0] rfl)
      refine lv_iload_n hx hb dX11_tellReach_2 rfl (lv_at hl 1 rfl) ?_
      refine lv_aload_n hx hb dX11_tellReach_3 rfl (lv_at hl 0 rfl) ?_
      obtain ⟨hPc, hDc, hFc, hJn⟩ := cl_a (wc := [(m0, .inr (11, oX11 ra x0)), (ra 2, .inl (kI, 8, .inl q_told))]) (wr := [(ra 8, .inl (kI, 40, .inl q_from)), (ra 9, .inl (kI, 40, .inl q_to)), (ra 14, .inl (kI, 12, .inl g2_4))]) hP hD hS hA [0, 1] [2, 3, 4] rfl rfl (by decide +kernel)
      refine va_calli (va_runV (As := []) (rest := [.int v2_loc1]) ⟨hx, hb, hml, hown, hts⟩ (s11_routers l dC dI kB kI kJ kZ kC kS H.size m0 ra x0 q_told (hX) (hq_told)) (cwV 0 hts gX11_tellReach_X11_routers rfl rfl rfl (by decide +kernel) ⟨Nat.le_of_ble_eq_true rfl, Nat.le_of_ble_eq_true rfl⟩) ⟨fun a U g mk q => by obtain ⟨q0, q1, qP, qE, qD⟩ := q; exact ⟨q0, q1, qP, kE_call qE, qD⟩, va_recv hK hP (ci := 11) (q0 := 0) rfl rfl, fun U hU hW => ⟨rfl, by rw [hU], by rw [hU]; exact hPc, kE_warm hW hE, hDc.weaken (fun _ _ _ _ => trivial)⟩⟩ rfl rfl hl.1 rfl (lv_room (Nat.le_of_ble_eq_true rfl)) dX11_tellReach_4 ⟨Nat.le_of_ble_eq_true rfl, Nat.le_of_ble_eq_true rfl⟩) hS (fun q _ h => hFc q h) hFc (fun r29 u t H locs ht hvm w30 hB hz1 hk1 hS => ?_)
      obtain ⟨hP1, hD1⟩ := hB
      try dsimp only at w30
      obtain ⟨hPa, hDa⟩ := hJn (w1 := [(m0, .inr (11, oX11 ra x0)), (ra 2, .inl (kI, 8, .inl q_told))]) hk1 ht hP1 hD1
      clear hP hD hPc hDc hFc hJn hP1 hD1 hk1
      have hP : va_P (dC, dI) vwCl [(ra 8, .inl (kI, 40, .inl q_from)), (ra 9, .inl (kI, 40, .inl q_to)), (ra 14, .inl (kI, 12, .inl g2_4)), (m0, .inr (11, oX11 ra x0)), (ra 2, .inl (kI, 8, .inl q_told))] H := hPa
      have hD : va_D A [(ra 8, .inl (kI, 40, .inl q_from)), (ra 9, .inl (kI, 40, .inl q_to)), (ra 14, .inl (kI, 12, .inl g2_4)), (m0, .inr (11, oX11 ra x0)), (ra 2, .inl (kI, 8, .inl q_told))] := hDa
      clear hPa hDa
      refine W.widen (k := 0) (n := 0) (Nat.le_of_ble_eq_true rfl) (Nat.le_of_ble_eq_true rfl) ?_
      subst w30
      refine lv_icmp_ge (tgt := 94) hx hb dX11_tellReach_7 rfl (fun c31 => ?_) (fun c31 => ?_)
      · have hPD9 := cl_s (wc := [(m0, .inr (11, oX11 ra x0)), (ra 2, .inl (kI, 8, .inl q_told)), (ra 8, .inl (kI, 40, .inl q_from)), (ra 9, .inl (kI, 40, .inl q_to)), (ra 14, .inl (kI, 12, .inl g2_4))]) hP hD [3, 4, 0, 1, 2] rfl (by decide +kernel)
        have hP9 := hPD9.1
        have hD9 := hPD9.2
        exact W.vret hx hb hr (fun t ht hW => ⟨⟨(), rfl, trivial, g2_4, by rw [ht]; exact hP9, hD9⟩, hS.F ht⟩) hS.2.2 dX11_tellReach_94
      · have b32 : iv 0 11 v2_loc1 := iv_ltL (Int32.not_le.mp c31) h2_1 (hq_told 0 : iv 0 12 (q_told 0)) (by decide) (by decide)
        have b33 : iv 1 12 (q_told 0) := iv_ltR (Int32.not_le.mp c31) h2_1 (hq_told 0 : iv 0 12 (q_told 0)) (by decide) (by decide)
        refine lv_aload_n hx hb dX11_tellReach_10 rfl (lv_at hl 0 rfl) ?_
        refine va_get (D := (dC, dI)) (ci := 11) (v := .ref (ra 14)) (C := RX11) (T := TX11) (N := 61) hx hb hts hin11 hown hK hP 3 rfl rfl 25 (Nat.le_of_ble_eq_true rfl) hw_1 (fun _ h9 => h9) rfl dX11_tellReach_11 ?_
        refine lv_iload_n hx hb dX11_tellReach_14 rfl (lv_at hl 1 rfl) ?_
        refine lv_iconst (v := 1) hx hb dX11_tellReach_15 ic_1 ?_
        refine lv_iload_n hx hb dX11_tellReach_16 rfl (lv_at hl 1 rfl) ?_
        refine lv_ishl hx hb dX11_tellReach_17 ?_
        refine iv_top (a := 0) (b := 2048) (iv_shl1 11 b32 (by decide) (by decide) (by decide) (by decide)) (fun z34 b35 => ?_)
        refine va_iast hx hb hK hP hD hS 2 1 rfl rfl (iv_in b32 (by decide) (by decide)) dX11_tellReach_18 (fun H locs hPa hDa hS => ?_)
        clear hP hD
        have hP : va_P (dC, dI) vwCl [(ra 8, .inl (kI, 40, .inl q_from)), (ra 9, .inl (kI, 40, .inl q_to)), (ra 14, .inl (kI, 12, .inl (upd g2_4 v2_loc1.toNatClampNeg z34))), (m0, .inr (11, oX11 ra x0)), (ra 2, .inl (kI, 8, .inl q_told))] H := hPa
        have hD : va_D A [(ra 8, .inl (kI, 40, .inl q_from)), (ra 9, .inl (kI, 40, .inl q_to)), (ra 14, .inl (kI, 12, .inl (upd g2_4 v2_loc1.toNatClampNeg z34))), (m0, .inr (11, oX11 ra x0)), (ra 2, .inl (kI, 8, .inl q_told))] := hDa
        clear hPa hDa
        generalize (upd g2_4 v2_loc1.toNatClampNeg z34) = f36 at hP hD
        refine lv_iload_n hx hb dX11_tellReach_19 rfl (lv_at hl 1 rfl) ?_
        refine lv_istore_n (lv' := [(2, .int v2_loc1), (0, .ref m0), (1, .int v2_loc1)]) hx hb dX11_tellReach_20 rfl hl (Nat.le_of_ble_eq_true rfl) rfl (fun ls hl => ?_)
        have hPD9 := cl_s (wc := [(m0, .inr (11, oX11 ra x0)), (ra 2, .inl (kI, 8, .inl q_told)), (ra 8, .inl (kI, 40, .inl q_from)), (ra 9, .inl (kI, 40, .inl q_to)), (ra 14, .inl (kI, 12, .inl f36))]) hP hD [3, 4, 0, 1, 2] rfl (by decide +kernel)
        exact hJ21 _ f36 v2_loc1 _ _ _ (Nat.lt_succ_self _) (b32) ((iv_w b32 (by decide) (by decide))) (b33) ((show x0 1 = x0 1 from rfl)) ((show x0 10 = x0 10 from rfl)) ((show x0 11 = x0 11 from rfl)) ((show x0 14 = x0 14 from rfl)) (hPD9.1) (hPD9.2) hS (lv_sub hl [1, 2, 0] rfl)
  refine lv_iconst (v := 0) hx hb dX11_tellReach_0 ic_0 ?_
  refine lv_istore_n (lv' := [(1, .int 0), (0, .ref m0)]) hx hb dX11_tellReach_1 rfl hl (Nat.le_of_ble_eq_true rfl) rfl (fun ls hl => ?_)
  exact hJ2 _ q_reach 0 _ _ _ (Nat.lt_succ_self _) ((iv_w ivk_0 (by decide) (by decide))) ((show x0 1 = x0 1 from rfl)) ((show x0 10 = x0 10 from rfl)) ((show x0 11 = x0 11 from rfl)) ((show x0 14 = x0 14 from rfl)) (hP) (hD) hS (lv_sub hl [1, 0] rfl)
def rm_s11_takeHalf_told : Room := { frames := 0, cells := 0, slots := 0, locals := 0 }
set_option maxHeartbeats 4000000 in
set_option maxRecDepth 100000 in
theorem s11_takeHalf_told (l : Launch) (dC : Nat → ClassId) (dI : Nat → Nat → Nat) (kB kI kJ kZ kC kS : ClassId) (sz : Nat) (b0 : Nat) (fr : Nat → Int32) (hfr : fI lTold hTold fr) : Met l yX11_takeHalf wsX11_takeHalf rm_s11_takeHalf_told (va_Pc [.ref b0] (fun U => U.heap.size = sz ∧ va_P (dC, dI) vwCl [(b0, .inl (kI, 8, .inl fr))] U.heap ∧ kE dC dI kB kI kJ kZ kC kS U ∧ va_D (fun _ => True) [(b0, .inl (kI, 8, .inl fr))])) (va_Qv (fun (_ : Unit) => True) (fun _ t => ∃ (fr' : Nat → Int32), fI lTold hTold fr' ∧ (∀ j : Nat, j < 4 → fr' j = fr (4 + j)) ∧ (∀ j : Nat, 4 ≤ j → fr' j = fr j) ∧ va_P (dC, dI) vwCl [(b0, .inl (kI, 8, .inl fr'))] t.heap ∧ va_D (va_A [(b0, .inl (kI, 8, .inl fr))] sz) [(b0, .inl (kI, 8, .inl fr'))]) (va_A [(b0, .inl (kI, 8, .inl fr))] sz)) 0 0 (va_A [(b0, .inl (kI, 8, .inl fr))] sz) := by
  refine Met.ofW (cc := cX11_takeHalf) (maxL := 2) (ret := none) (by decide) rfl ?_
  intro p e s m args0 below meth c s₁ B hml hv
  obtain ⟨hargs, hsz, hP, hE, hD0⟩ := hv
  have hx := B.exec
  have hb := B.bytes
  have hr := B.returns
  have hts := atoms_spec (ws := wsX11_takeHalf) B.pre
  have hown : s.vm.findClass RX11 = some m.cls := findClass_of_methodNamed B.named
  have hlocks := B.notSynchronized
  have hK := hE.1
  subst hsz
  have hD := hD0.self (sz := s.heap.size)
  generalize hAe : va_A [(b0, .inl (kI, 8, .inl fr))] s.heap.size = A at hD ⊢
  have hA : ∀ q : Nat, s.heap.size ≤ q → A q := fun q h => by rw [← hAe]; exact Or.inr h
  have hS : va_S A s.heap s.heap [] := va_S.rf
  have hP : va_P (dC, dI) vwCl [(b0, .inl (kI, 8, .inl fr))] s.heap := hP
  have hl := lv_entry ([.ref b0]) (n := 2) (Nat.le_of_ble_eq_true rfl)
  have hla : entryFrame m args0 2 = entryFrame m ([.ref b0] : List Value).toArray 2 := by rw [hargs]
  rw [hla, lg_entry_eq]
  generalize (lg_sl ([.ref b0]) ++ List.replicate (2 - (lg_sl ([.ref b0])).length) Slot.unset).toArray = ls at hl ⊢
  have hl : lv_has ls 2 [(0, .ref b0)] := hl
  have hJ2 : ∀ (n : Nat) (g2_0 : Nat → Int32) (v2_loc1 : Int32) (H : Heap) (locs : List Loc) (ls : Array Slot), (4 - v2_loc1.toInt).toNat < n → fI lTold hTold g2_0 → iv 0 4 v2_loc1 → ((∀ j : Nat, (j : Int) < v2_loc1.toInt → g2_0 j = fr (4 + j)) ∧ ∀ j : Nat, v2_loc1.toInt ≤ (j : Int) → g2_0 j = fr j) → va_P (dC, dI) vwCl [(b0, .inl (kI, 8, .inl g2_0))] H → va_D A [(b0, .inl (kI, 8, .inl g2_0))] → va_S A s.heap H locs → lv_has ls 2 [(0, .ref b0), (1, .int v2_loc1)] → W p l e (headSpec wsX11_takeHalf rm_s11_takeHalf_told).room s m args0 below meth c H locs (0) (0) (MQ below (va_Qv (fun (_ : Unit) => True) (fun _ t => ∃ (fr' : Nat → Int32), fI lTold hTold fr' ∧ (∀ j : Nat, j < 4 → fr' j = fr (4 + j)) ∧ (∀ j : Nat, 4 ≤ j → fr' j = fr j) ∧ va_P (dC, dI) vwCl [(b0, .inl (kI, 8, .inl fr'))] t.heap ∧ va_D A [(b0, .inl (kI, 8, .inl fr'))]) A) args0 s 0 0 A) (F0 m 2 ls []) := by
    intro n
    induction n with
    | zero => intro g2_0 v2_loc1 H locs ls hm2; exact absurd hm2 (Nat.not_lt_zero _)
    | succ n ih2 =>
      intro g2_0 v2_loc1 H locs ls hm2 hI2_0 h2_2 hha_2 hP hD hS hl
      refine lv_iload_n hx hb dX11_takeHalf_2 rfl (lv_at hl 1 rfl) ?_
      refine lv_aload_n hx hb dX11_takeHalf_3 rfl (lv_at hl 0 rfl) ?_
      refine va_alen (v := 8) hx hb hK hP 0 1 rfl rfl rfl dX11_takeHalf_4 ?_
      refine lv_iconst (v := 2) hx hb dX11_takeHalf_5 ic_2 ?_
      refine lv_idiv hx hb dX11_takeHalf_6 (by decide) ?_
      refine lv_topi (fun z1 e2 => ?_)
      obtain rfl : z1 = (4 : Int32) := e2.trans (by decide)
      refine lv_icmp_ge (tgt := 27) hx hb dX11_takeHalf_7 rfl (fun c3 => ?_) (fun c3 => ?_)
      · have b4 : iv 4 4 v2_loc1 := iv_leR c3 ivk_4 h2_2 (by decide) (by decide)
        have hP9 := hP
        have hD9 := hD
        exact W.vret hx hb hr (fun t ht hW => ⟨⟨(), rfl, trivial, g2_0, hI2_0, (show ∀ j : Nat, j < 4 → g2_0 j = fr (4 + j) from fun j hj => hha_2.1 j (by have q := c3; have q2 := Int32.le_iff_toInt_le.mp q; rw [show ((4 : Int32)).toInt = 4 from by decide] at q2; omega)), (show ∀ j : Nat, 4 ≤ j → g2_0 j = fr j from fun j hj => hha_2.2 j (by have q := b4; have q2 := q.2; omega)), by rw [ht]; exact hP9, hD9⟩, hS.F ht⟩) hS.2.2 dX11_takeHalf_27
      · have b5 : iv 0 3 v2_loc1 := iv_ltL (Int32.not_le.mp c3) h2_2 ivk_4 (by decide) (by decide)
        refine lv_aload_n hx hb dX11_takeHalf_10 rfl (lv_at hl 0 rfl) ?_
        refine lv_iload_n hx hb dX11_takeHalf_11 rfl (lv_at hl 1 rfl) ?_
        refine lv_aload_n hx hb dX11_takeHalf_12 rfl (lv_at hl 0 rfl) ?_
        refine lv_aload_n hx hb dX11_takeHalf_13 rfl (lv_at hl 0 rfl) ?_
        refine va_alen (v := 8) hx hb hK hP 0 1 rfl rfl rfl dX11_takeHalf_14 ?_
        refine lv_iconst (v := 2) hx hb dX11_takeHalf_15 ic_2 ?_
        refine lv_idiv hx hb dX11_takeHalf_16 (by decide) ?_
        refine lv_topi (fun z6 e7 => ?_)
        obtain rfl : z6 = (4 : Int32) := e7.trans (by decide)
        refine lv_iload_n hx hb dX11_takeHalf_17 rfl (lv_at hl 1 rfl) ?_
        refine lv_iadd hx hb dX11_takeHalf_18 ?_
        have b8 : iv 4 7 (4 + v2_loc1) := iv_add ivk_4 b5 (by decide) (by decide) (by decide) (by decide)
        refine va_iald hx hb hK hP 0 1 rfl rfl (iv_in b8 (by decide) (by decide)) dX11_takeHalf_19 ?_
        have b9 : iv (-1) 50 (g2_0 (4 + v2_loc1).toNatClampNeg) := told_any hI2_0 _
        refine va_iast hx hb hK hP hD hS 0 1 rfl rfl (iv_in b5 (by decide) (by decide)) dX11_takeHalf_20 (fun H locs hPa hDa hS => ?_)
        clear hP hD
        have hP : va_P (dC, dI) vwCl [(b0, .inl (kI, 8, .inl (upd g2_0 v2_loc1.toNatClampNeg (g2_0 (4 + v2_loc1).toNatClampNeg))))] H := hPa
        have hD : va_D A [(b0, .inl (kI, 8, .inl (upd g2_0 v2_loc1.toNatClampNeg (g2_0 (4 + v2_loc1).toNatClampNeg))))] := hDa
        clear hPa hDa
        have hf11 : fI lTold hTold (upd g2_0 v2_loc1.toNatClampNeg (g2_0 (4 + v2_loc1).toNatClampNeg)) := fI_u hI2_0 (told_half hI2_0 b5)
        have hxa : (∀ j : Nat, (j : Int) < (v2_loc1 + Int32.ofInt 1).toInt → (upd g2_0 v2_loc1.toNatClampNeg (g2_0 (4 + v2_loc1).toNatClampNeg)) j = fr (4 + j)) ∧ ∀ j : Nat, (v2_loc1 + Int32.ofInt 1).toInt ≤ (j : Int) → (upd g2_0 v2_loc1.toNatClampNeg (g2_0 (4 + v2_loc1).toNatClampNeg)) j = fr j := half_st hha_2 b5 (by decide) (by decide)
        generalize (upd g2_0 v2_loc1.toNatClampNeg (g2_0 (4 + v2_loc1).toNatClampNeg)) = f10 at hP hD hf11 hxa
        refine lv_iinc (v := v2_loc1 + Int32.ofInt 1) (lv' := [(1, .int (v2_loc1 + Int32.ofInt 1)), (0, .ref b0)]) hx hb dX11_takeHalf_21 hl (k := 1) rfl (rfl) (Nat.le_of_ble_eq_true rfl) rfl (fun ls hl => ?_)
        have b12 : iv 1 4 (v2_loc1 + Int32.ofInt 1) := iv_add b5 ivo_1 (by decide) (by decide) (by decide) (by decide)
        refine lv_goto (tgt := 2) hx hb dX11_takeHalf_24 rfl ?_
        exact ih2 f10 (v2_loc1 + Int32.ofInt 1) _ _ _ (ms_up (c := 1) (d := 0) b5 hm2 (by decide) (iv_inc 1 b5 (by decide) (by decide) (by decide) (by decide)) (by decide) rfl) (hf11) ((iv_w b12 (by decide) (by decide))) ((show (∀ j : Nat, (j : Int) < (v2_loc1 + Int32.ofInt 1).toInt → f10 j = fr (4 + j)) ∧ ∀ j : Nat, (v2_loc1 + Int32.ofInt 1).toInt ≤ (j : Int) → f10 j = fr j from hxa)) (hP) (hD) hS (lv_sub hl [1, 0] rfl)
  refine lv_iconst (v := 0) hx hb dX11_takeHalf_0 ic_0 ?_
  refine lv_istore_n (lv' := [(1, .int 0), (0, .ref b0)]) hx hb dX11_takeHalf_1 rfl hl (Nat.le_of_ble_eq_true rfl) rfl (fun ls hl => ?_)
  exact hJ2 _ fr 0 _ _ _ (Nat.lt_succ_self _) (hfr) ((iv_w ivk_0 (by decide) (by decide))) ((show (∀ j : Nat, (j : Int) < ((0 : Int32)).toInt → fr j = fr (4 + j)) ∧ ∀ j : Nat, ((0 : Int32)).toInt ≤ (j : Int) → fr j = fr j from half_0)) (hP) (hD) hS (lv_sub hl [1, 0] rfl)
def rm_s11_takeHalf_link : Room := { frames := 0, cells := 0, slots := 0, locals := 0 }
set_option maxHeartbeats 4000000 in
set_option maxRecDepth 100000 in
theorem s11_takeHalf_link (l : Launch) (dC : Nat → ClassId) (dI : Nat → Nat → Nat) (kB kI kJ kZ kC kS : ClassId) (sz : Nat) (b0 : Nat) (fr : Nat → Int32) (hfr : fI (fun _ => 0) (fun _ => 11) fr) : Met l yX11_takeHalf wsX11_takeHalf rm_s11_takeHalf_link (va_Pc [.ref b0] (fun U => U.heap.size = sz ∧ va_P (dC, dI) vwCl [(b0, .inl (kI, 40, .inl fr))] U.heap ∧ kE dC dI kB kI kJ kZ kC kS U ∧ va_D (fun _ => True) [(b0, .inl (kI, 40, .inl fr))])) (va_Qv (fun (_ : Unit) => True) (fun _ t => ∃ (fr' : Nat → Int32), fI (fun _ => 0) (fun _ => 11) fr' ∧ (∀ j : Nat, j < 20 → fr' j = fr (20 + j)) ∧ (∀ j : Nat, 20 ≤ j → fr' j = fr j) ∧ va_P (dC, dI) vwCl [(b0, .inl (kI, 40, .inl fr'))] t.heap ∧ va_D (va_A [(b0, .inl (kI, 40, .inl fr))] sz) [(b0, .inl (kI, 40, .inl fr'))]) (va_A [(b0, .inl (kI, 40, .inl fr))] sz)) 0 0 (va_A [(b0, .inl (kI, 40, .inl fr))] sz) := by
  refine Met.ofW (cc := cX11_takeHalf) (maxL := 2) (ret := none) (by decide) rfl ?_
  intro p e s m args0 below meth c s₁ B hml hv
  obtain ⟨hargs, hsz, hP, hE, hD0⟩ := hv
  have hx := B.exec
  have hb := B.bytes
  have hr := B.returns
  have hts := atoms_spec (ws := wsX11_takeHalf) B.pre
  have hown : s.vm.findClass RX11 = some m.cls := findClass_of_methodNamed B.named
  have hlocks := B.notSynchronized
  have hK := hE.1
  subst hsz
  have hD := hD0.self (sz := s.heap.size)
  generalize hAe : va_A [(b0, .inl (kI, 40, .inl fr))] s.heap.size = A at hD ⊢
  have hA : ∀ q : Nat, s.heap.size ≤ q → A q := fun q h => by rw [← hAe]; exact Or.inr h
  have hS : va_S A s.heap s.heap [] := va_S.rf
  have hP : va_P (dC, dI) vwCl [(b0, .inl (kI, 40, .inl fr))] s.heap := hP
  have hl := lv_entry ([.ref b0]) (n := 2) (Nat.le_of_ble_eq_true rfl)
  have hla : entryFrame m args0 2 = entryFrame m ([.ref b0] : List Value).toArray 2 := by rw [hargs]
  rw [hla, lg_entry_eq]
  generalize (lg_sl ([.ref b0]) ++ List.replicate (2 - (lg_sl ([.ref b0])).length) Slot.unset).toArray = ls at hl ⊢
  have hl : lv_has ls 2 [(0, .ref b0)] := hl
  have hJ2 : ∀ (n : Nat) (g2_0 : Nat → Int32) (v2_loc1 : Int32) (H : Heap) (locs : List Loc) (ls : Array Slot), (20 - v2_loc1.toInt).toNat < n → fI (fun _ => 0) (fun _ => 11) g2_0 → iv 0 20 v2_loc1 → ((∀ j : Nat, (j : Int) < v2_loc1.toInt → g2_0 j = fr (20 + j)) ∧ ∀ j : Nat, v2_loc1.toInt ≤ (j : Int) → g2_0 j = fr j) → va_P (dC, dI) vwCl [(b0, .inl (kI, 40, .inl g2_0))] H → va_D A [(b0, .inl (kI, 40, .inl g2_0))] → va_S A s.heap H locs → lv_has ls 2 [(0, .ref b0), (1, .int v2_loc1)] → W p l e (headSpec wsX11_takeHalf rm_s11_takeHalf_link).room s m args0 below meth c H locs (0) (0) (MQ below (va_Qv (fun (_ : Unit) => True) (fun _ t => ∃ (fr' : Nat → Int32), fI (fun _ => 0) (fun _ => 11) fr' ∧ (∀ j : Nat, j < 20 → fr' j = fr (20 + j)) ∧ (∀ j : Nat, 20 ≤ j → fr' j = fr j) ∧ va_P (dC, dI) vwCl [(b0, .inl (kI, 40, .inl fr'))] t.heap ∧ va_D A [(b0, .inl (kI, 40, .inl fr'))]) A) args0 s 0 0 A) (F0 m 2 ls []) := by
    intro n
    induction n with
    | zero => intro g2_0 v2_loc1 H locs ls hm2; exact absurd hm2 (Nat.not_lt_zero _)
    | succ n ih2 =>
      intro g2_0 v2_loc1 H locs ls hm2 hI2_0 h2_2 hha_2 hP hD hS hl
      refine lv_iload_n hx hb dX11_takeHalf_2 rfl (lv_at hl 1 rfl) ?_
      refine lv_aload_n hx hb dX11_takeHalf_3 rfl (lv_at hl 0 rfl) ?_
      refine va_alen (v := 40) hx hb hK hP 0 1 rfl rfl rfl dX11_takeHalf_4 ?_
      refine lv_iconst (v := 2) hx hb dX11_takeHalf_5 ic_2 ?_
      refine lv_idiv hx hb dX11_takeHalf_6 (by decide) ?_
      refine lv_topi (fun z1 e2 => ?_)
      obtain rfl : z1 = (20 : Int32) := e2.trans (by decide)
      refine lv_icmp_ge (tgt := 27) hx hb dX11_takeHalf_7 rfl (fun c3 => ?_) (fun c3 => ?_)
      · have b4 : iv 20 20 v2_loc1 := iv_leR c3 ivk_20 h2_2 (by decide) (by decide)
        have hP9 := hP
        have hD9 := hD
        exact W.vret hx hb hr (fun t ht hW => ⟨⟨(), rfl, trivial, g2_0, hI2_0, (show ∀ j : Nat, j < 20 → g2_0 j = fr (20 + j) from fun j hj => hha_2.1 j (by have q := c3; have q2 := Int32.le_iff_toInt_le.mp q; rw [show ((20 : Int32)).toInt = 20 from by decide] at q2; omega)), (show ∀ j : Nat, 20 ≤ j → g2_0 j = fr j from fun j hj => hha_2.2 j (by have q := b4; have q2 := q.2; omega)), by rw [ht]; exact hP9, hD9⟩, hS.F ht⟩) hS.2.2 dX11_takeHalf_27
      · have b5 : iv 0 19 v2_loc1 := iv_ltL (Int32.not_le.mp c3) h2_2 ivk_20 (by decide) (by decide)
        refine lv_aload_n hx hb dX11_takeHalf_10 rfl (lv_at hl 0 rfl) ?_
        refine lv_iload_n hx hb dX11_takeHalf_11 rfl (lv_at hl 1 rfl) ?_
        refine lv_aload_n hx hb dX11_takeHalf_12 rfl (lv_at hl 0 rfl) ?_
        refine lv_aload_n hx hb dX11_takeHalf_13 rfl (lv_at hl 0 rfl) ?_
        refine va_alen (v := 40) hx hb hK hP 0 1 rfl rfl rfl dX11_takeHalf_14 ?_
        refine lv_iconst (v := 2) hx hb dX11_takeHalf_15 ic_2 ?_
        refine lv_idiv hx hb dX11_takeHalf_16 (by decide) ?_
        refine lv_topi (fun z6 e7 => ?_)
        obtain rfl : z6 = (20 : Int32) := e7.trans (by decide)
        refine lv_iload_n hx hb dX11_takeHalf_17 rfl (lv_at hl 1 rfl) ?_
        refine lv_iadd hx hb dX11_takeHalf_18 ?_
        have b8 : iv 20 39 (20 + v2_loc1) := iv_add ivk_20 b5 (by decide) (by decide) (by decide) (by decide)
        refine va_iald hx hb hK hP 0 1 rfl rfl (iv_in b8 (by decide) (by decide)) dX11_takeHalf_19 ?_
        have b9 : iv 0 11 (g2_0 (20 + v2_loc1).toNatClampNeg) := hI2_0 _
        refine va_iast hx hb hK hP hD hS 0 1 rfl rfl (iv_in b5 (by decide) (by decide)) dX11_takeHalf_20 (fun H locs hPa hDa hS => ?_)
        clear hP hD
        have hP : va_P (dC, dI) vwCl [(b0, .inl (kI, 40, .inl (upd g2_0 v2_loc1.toNatClampNeg (g2_0 (20 + v2_loc1).toNatClampNeg))))] H := hPa
        have hD : va_D A [(b0, .inl (kI, 40, .inl (upd g2_0 v2_loc1.toNatClampNeg (g2_0 (20 + v2_loc1).toNatClampNeg))))] := hDa
        clear hPa hDa
        have hf11 : fI (fun _ => 0) (fun _ => 11) (upd g2_0 v2_loc1.toNatClampNeg (g2_0 (20 + v2_loc1).toNatClampNeg)) := fI_u hI2_0 (hI2_0 _)
        have hxa : (∀ j : Nat, (j : Int) < (v2_loc1 + Int32.ofInt 1).toInt → (upd g2_0 v2_loc1.toNatClampNeg (g2_0 (20 + v2_loc1).toNatClampNeg)) j = fr (20 + j)) ∧ ∀ j : Nat, (v2_loc1 + Int32.ofInt 1).toInt ≤ (j : Int) → (upd g2_0 v2_loc1.toNatClampNeg (g2_0 (20 + v2_loc1).toNatClampNeg)) j = fr j := half_st hha_2 b5 (by decide) (by decide)
        generalize (upd g2_0 v2_loc1.toNatClampNeg (g2_0 (20 + v2_loc1).toNatClampNeg)) = f10 at hP hD hf11 hxa
        refine lv_iinc (v := v2_loc1 + Int32.ofInt 1) (lv' := [(1, .int (v2_loc1 + Int32.ofInt 1)), (0, .ref b0)]) hx hb dX11_takeHalf_21 hl (k := 1) rfl (rfl) (Nat.le_of_ble_eq_true rfl) rfl (fun ls hl => ?_)
        have b12 : iv 1 20 (v2_loc1 + Int32.ofInt 1) := iv_add b5 ivo_1 (by decide) (by decide) (by decide) (by decide)
        refine lv_goto (tgt := 2) hx hb dX11_takeHalf_24 rfl ?_
        exact ih2 f10 (v2_loc1 + Int32.ofInt 1) _ _ _ (ms_up (c := 1) (d := 0) b5 hm2 (by decide) (iv_inc 1 b5 (by decide) (by decide) (by decide) (by decide)) (by decide) rfl) (hf11) ((iv_w b12 (by decide) (by decide))) ((show (∀ j : Nat, (j : Int) < (v2_loc1 + Int32.ofInt 1).toInt → f10 j = fr (20 + j)) ∧ ∀ j : Nat, (v2_loc1 + Int32.ofInt 1).toInt ≤ (j : Int) → f10 j = fr j from hxa)) (hP) (hD) hS (lv_sub hl [1, 0] rfl)
  refine lv_iconst (v := 0) hx hb dX11_takeHalf_0 ic_0 ?_
  refine lv_istore_n (lv' := [(1, .int 0), (0, .ref b0)]) hx hb dX11_takeHalf_1 rfl hl (Nat.le_of_ble_eq_true rfl) rfl (fun ls hl => ?_)
  exact hJ2 _ fr 0 _ _ _ (Nat.lt_succ_self _) (hfr) ((iv_w ivk_0 (by decide) (by decide))) ((show (∀ j : Nat, (j : Int) < ((0 : Int32)).toInt → fr j = fr (20 + j)) ∧ ∀ j : Nat, ((0 : Int32)).toInt ≤ (j : Int) → fr j = fr j from half_0)) (hP) (hD) hS (lv_sub hl [1, 0] rfl)
def rm_s11_takeHalf_salt : Room := { frames := 0, cells := 0, slots := 0, locals := 0 }
set_option maxHeartbeats 4000000 in
set_option maxRecDepth 100000 in
theorem s11_takeHalf_salt (l : Launch) (dC : Nat → ClassId) (dI : Nat → Nat → Nat) (kB kI kJ kZ kC kS : ClassId) (sz : Nat) (b0 : Nat) (fr : Nat → Int32) (hfr : fI (fun _ => 0) (fun _ => 15) fr) : Met l yX11_takeHalf wsX11_takeHalf rm_s11_takeHalf_salt (va_Pc [.ref b0] (fun U => U.heap.size = sz ∧ va_P (dC, dI) vwCl [(b0, .inl (kI, 24, .inl fr))] U.heap ∧ kE dC dI kB kI kJ kZ kC kS U ∧ va_D (fun _ => True) [(b0, .inl (kI, 24, .inl fr))])) (va_Qv (fun (_ : Unit) => True) (fun _ t => ∃ (fr' : Nat → Int32), fI (fun _ => 0) (fun _ => 15) fr' ∧ va_P (dC, dI) vwCl [(b0, .inl (kI, 24, .inl fr'))] t.heap ∧ va_D (va_A [(b0, .inl (kI, 24, .inl fr))] sz) [(b0, .inl (kI, 24, .inl fr'))]) (va_A [(b0, .inl (kI, 24, .inl fr))] sz)) 0 0 (va_A [(b0, .inl (kI, 24, .inl fr))] sz) := by
  refine Met.ofW (cc := cX11_takeHalf) (maxL := 2) (ret := none) (by decide) rfl ?_
  intro p e s m args0 below meth c s₁ B hml hv
  obtain ⟨hargs, hsz, hP, hE, hD0⟩ := hv
  have hx := B.exec
  have hb := B.bytes
  have hr := B.returns
  have hts := atoms_spec (ws := wsX11_takeHalf) B.pre
  have hown : s.vm.findClass RX11 = some m.cls := findClass_of_methodNamed B.named
  have hlocks := B.notSynchronized
  have hK := hE.1
  subst hsz
  have hD := hD0.self (sz := s.heap.size)
  generalize hAe : va_A [(b0, .inl (kI, 24, .inl fr))] s.heap.size = A at hD ⊢
  have hA : ∀ q : Nat, s.heap.size ≤ q → A q := fun q h => by rw [← hAe]; exact Or.inr h
  have hS : va_S A s.heap s.heap [] := va_S.rf
  have hP : va_P (dC, dI) vwCl [(b0, .inl (kI, 24, .inl fr))] s.heap := hP
  have hl := lv_entry ([.ref b0]) (n := 2) (Nat.le_of_ble_eq_true rfl)
  have hla : entryFrame m args0 2 = entryFrame m ([.ref b0] : List Value).toArray 2 := by rw [hargs]
  rw [hla, lg_entry_eq]
  generalize (lg_sl ([.ref b0]) ++ List.replicate (2 - (lg_sl ([.ref b0])).length) Slot.unset).toArray = ls at hl ⊢
  have hl : lv_has ls 2 [(0, .ref b0)] := hl
  have hJ2 : ∀ (n : Nat) (g2_0 : Nat → Int32) (v2_loc1 : Int32) (H : Heap) (locs : List Loc) (ls : Array Slot), (12 - v2_loc1.toInt).toNat < n → fI (fun _ => 0) (fun _ => 15) g2_0 → iv 0 12 v2_loc1 → va_P (dC, dI) vwCl [(b0, .inl (kI, 24, .inl g2_0))] H → va_D A [(b0, .inl (kI, 24, .inl g2_0))] → va_S A s.heap H locs → lv_has ls 2 [(0, .ref b0), (1, .int v2_loc1)] → W p l e (headSpec wsX11_takeHalf rm_s11_takeHalf_salt).room s m args0 below meth c H locs (0) (0) (MQ below (va_Qv (fun (_ : Unit) => True) (fun _ t => ∃ (fr' : Nat → Int32), fI (fun _ => 0) (fun _ => 15) fr' ∧ va_P (dC, dI) vwCl [(b0, .inl (kI, 24, .inl fr'))] t.heap ∧ va_D A [(b0, .inl (kI, 24, .inl fr'))]) A) args0 s 0 0 A) (F0 m 2 ls []) := by
    intro n
    induction n with
    | zero => intro g2_0 v2_loc1 H locs ls hm2; exact absurd hm2 (Nat.not_lt_zero _)
    | succ n ih2 =>
      intro g2_0 v2_loc1 H locs ls hm2 hI2_0 h2_2 hP hD hS hl
      refine lv_iload_n hx hb dX11_takeHalf_2 rfl (lv_at hl 1 rfl) ?_
      refine lv_aload_n hx hb dX11_takeHalf_3 rfl (lv_at hl 0 rfl) ?_
      refine va_alen (v := 24) hx hb hK hP 0 1 rfl rfl rfl dX11_takeHalf_4 ?_
      refine lv_iconst (v := 2) hx hb dX11_takeHalf_5 ic_2 ?_
      refine lv_idiv hx hb dX11_takeHalf_6 (by decide) ?_
      refine lv_topi (fun z1 e2 => ?_)
      obtain rfl : z1 = (12 : Int32) := e2.trans (by decide)
      refine lv_icmp_ge (tgt := 27) hx hb dX11_takeHalf_7 rfl (fun c3 => ?_) (fun c3 => ?_)
      · have b4 : iv 12 12 v2_loc1 := iv_leR c3 ivk_12 h2_2 (by decide) (by decide)
        have hP9 := hP
        have hD9 := hD
        exact W.vret hx hb hr (fun t ht hW => ⟨⟨(), rfl, trivial, g2_0, hI2_0, by rw [ht]; exact hP9, hD9⟩, hS.F ht⟩) hS.2.2 dX11_takeHalf_27
      · have b5 : iv 0 11 v2_loc1 := iv_ltL (Int32.not_le.mp c3) h2_2 ivk_12 (by decide) (by decide)
        refine lv_aload_n hx hb dX11_takeHalf_10 rfl (lv_at hl 0 rfl) ?_
        refine lv_iload_n hx hb dX11_takeHalf_11 rfl (lv_at hl 1 rfl) ?_
        refine lv_aload_n hx hb dX11_takeHalf_12 rfl (lv_at hl 0 rfl) ?_
        refine lv_aload_n hx hb dX11_takeHalf_13 rfl (lv_at hl 0 rfl) ?_
        refine va_alen (v := 24) hx hb hK hP 0 1 rfl rfl rfl dX11_takeHalf_14 ?_
        refine lv_iconst (v := 2) hx hb dX11_takeHalf_15 ic_2 ?_
        refine lv_idiv hx hb dX11_takeHalf_16 (by decide) ?_
        refine lv_topi (fun z6 e7 => ?_)
        obtain rfl : z6 = (12 : Int32) := e7.trans (by decide)
        refine lv_iload_n hx hb dX11_takeHalf_17 rfl (lv_at hl 1 rfl) ?_
        refine lv_iadd hx hb dX11_takeHalf_18 ?_
        have b8 : iv 12 23 (12 + v2_loc1) := iv_add ivk_12 b5 (by decide) (by decide) (by decide) (by decide)
        refine va_iald hx hb hK hP 0 1 rfl rfl (iv_in b8 (by decide) (by decide)) dX11_takeHalf_19 ?_
        have b9 : iv 0 15 (g2_0 (12 + v2_loc1).toNatClampNeg) := hI2_0 _
        refine va_iast hx hb hK hP hD hS 0 1 rfl rfl (iv_in b5 (by decide) (by decide)) dX11_takeHalf_20 (fun H locs hPa hDa hS => ?_)
        clear hP hD
        have hP : va_P (dC, dI) vwCl [(b0, .inl (kI, 24, .inl (upd g2_0 v2_loc1.toNatClampNeg (g2_0 (12 + v2_loc1).toNatClampNeg))))] H := hPa
        have hD : va_D A [(b0, .inl (kI, 24, .inl (upd g2_0 v2_loc1.toNatClampNeg (g2_0 (12 + v2_loc1).toNatClampNeg))))] := hDa
        clear hPa hDa
        have hf11 : fI (fun _ => 0) (fun _ => 15) (upd g2_0 v2_loc1.toNatClampNeg (g2_0 (12 + v2_loc1).toNatClampNeg)) := fI_u hI2_0 (hI2_0 _)
        generalize (upd g2_0 v2_loc1.toNatClampNeg (g2_0 (12 + v2_loc1).toNatClampNeg)) = f10 at hP hD hf11
        refine lv_iinc (v := v2_loc1 + Int32.ofInt 1) (lv' := [(1, .int (v2_loc1 + Int32.ofInt 1)), (0, .ref b0)]) hx hb dX11_takeHalf_21 hl (k := 1) rfl (rfl) (Nat.le_of_ble_eq_true rfl) rfl (fun ls hl => ?_)
        have b12 : iv 1 12 (v2_loc1 + Int32.ofInt 1) := iv_add b5 ivo_1 (by decide) (by decide) (by decide) (by decide)
        refine lv_goto (tgt := 2) hx hb dX11_takeHalf_24 rfl ?_
        exact ih2 f10 (v2_loc1 + Int32.ofInt 1) _ _ _ (ms_up (c := 1) (d := 0) b5 hm2 (by decide) (iv_inc 1 b5 (by decide) (by decide) (by decide) (by decide)) (by decide) rfl) (hf11) ((iv_w b12 (by decide) (by decide))) (hP) (hD) hS (lv_sub hl [1, 0] rfl)
  refine lv_iconst (v := 0) hx hb dX11_takeHalf_0 ic_0 ?_
  refine lv_istore_n (lv' := [(1, .int 0), (0, .ref b0)]) hx hb dX11_takeHalf_1 rfl hl (Nat.le_of_ble_eq_true rfl) rfl (fun ls hl => ?_)
  exact hJ2 _ fr 0 _ _ _ (Nat.lt_succ_self _) (hfr) ((iv_w ivk_0 (by decide) (by decide))) (hP) (hD) hS (lv_sub hl [1, 0] rfl)
def rm_s11_takeHalf_any : Room := { frames := 0, cells := 0, slots := 0, locals := 0 }
set_option maxHeartbeats 4000000 in
set_option maxRecDepth 100000 in
theorem s11_takeHalf_any (l : Launch) (dC : Nat → ClassId) (dI : Nat → Nat → Nat) (kB kI kJ kZ kC kS : ClassId) (sz : Nat) (b0 : Nat) (fr : Nat → Int32) : Met l yX11_takeHalf wsX11_takeHalf rm_s11_takeHalf_any (va_Pc [.ref b0] (fun U => U.heap.size = sz ∧ va_P (dC, dI) vwCl [(b0, .inl (kI, 24, .inl fr))] U.heap ∧ kE dC dI kB kI kJ kZ kC kS U ∧ va_D (fun _ => True) [(b0, .inl (kI, 24, .inl fr))])) (va_Qv (fun (_ : Unit) => True) (fun _ t => ∃ (fr' : Nat → Int32), va_P (dC, dI) vwCl [(b0, .inl (kI, 24, .inl fr'))] t.heap ∧ va_D (va_A [(b0, .inl (kI, 24, .inl fr))] sz) [(b0, .inl (kI, 24, .inl fr'))]) (va_A [(b0, .inl (kI, 24, .inl fr))] sz)) 0 0 (va_A [(b0, .inl (kI, 24, .inl fr))] sz) := by
  refine Met.ofW (cc := cX11_takeHalf) (maxL := 2) (ret := none) (by decide) rfl ?_
  intro p e s m args0 below meth c s₁ B hml hv
  obtain ⟨hargs, hsz, hP, hE, hD0⟩ := hv
  have hx := B.exec
  have hb := B.bytes
  have hr := B.returns
  have hts := atoms_spec (ws := wsX11_takeHalf) B.pre
  have hown : s.vm.findClass RX11 = some m.cls := findClass_of_methodNamed B.named
  have hlocks := B.notSynchronized
  have hK := hE.1
  subst hsz
  have hD := hD0.self (sz := s.heap.size)
  generalize hAe : va_A [(b0, .inl (kI, 24, .inl fr))] s.heap.size = A at hD ⊢
  have hA : ∀ q : Nat, s.heap.size ≤ q → A q := fun q h => by rw [← hAe]; exact Or.inr h
  have hS : va_S A s.heap s.heap [] := va_S.rf
  have hP : va_P (dC, dI) vwCl [(b0, .inl (kI, 24, .inl fr))] s.heap := hP
  have hl := lv_entry ([.ref b0]) (n := 2) (Nat.le_of_ble_eq_true rfl)
  have hla : entryFrame m args0 2 = entryFrame m ([.ref b0] : List Value).toArray 2 := by rw [hargs]
  rw [hla, lg_entry_eq]
  generalize (lg_sl ([.ref b0]) ++ List.replicate (2 - (lg_sl ([.ref b0])).length) Slot.unset).toArray = ls at hl ⊢
  have hl : lv_has ls 2 [(0, .ref b0)] := hl
  have hJ2 : ∀ (n : Nat) (g2_0 : Nat → Int32) (v2_loc1 : Int32) (H : Heap) (locs : List Loc) (ls : Array Slot), (12 - v2_loc1.toInt).toNat < n → iv 0 12 v2_loc1 → va_P (dC, dI) vwCl [(b0, .inl (kI, 24, .inl g2_0))] H → va_D A [(b0, .inl (kI, 24, .inl g2_0))] → va_S A s.heap H locs → lv_has ls 2 [(0, .ref b0), (1, .int v2_loc1)] → W p l e (headSpec wsX11_takeHalf rm_s11_takeHalf_any).room s m args0 below meth c H locs (0) (0) (MQ below (va_Qv (fun (_ : Unit) => True) (fun _ t => ∃ (fr' : Nat → Int32), va_P (dC, dI) vwCl [(b0, .inl (kI, 24, .inl fr'))] t.heap ∧ va_D A [(b0, .inl (kI, 24, .inl fr'))]) A) args0 s 0 0 A) (F0 m 2 ls []) := by
    intro n
    induction n with
    | zero => intro g2_0 v2_loc1 H locs ls hm2; exact absurd hm2 (Nat.not_lt_zero _)
    | succ n ih2 =>
      intro g2_0 v2_loc1 H locs ls hm2 h2_1 hP hD hS hl
      refine lv_iload_n hx hb dX11_takeHalf_2 rfl (lv_at hl 1 rfl) ?_
      refine lv_aload_n hx hb dX11_takeHalf_3 rfl (lv_at hl 0 rfl) ?_
      refine va_alen (v := 24) hx hb hK hP 0 1 rfl rfl rfl dX11_takeHalf_4 ?_
      refine lv_iconst (v := 2) hx hb dX11_takeHalf_5 ic_2 ?_
      refine lv_idiv hx hb dX11_takeHalf_6 (by decide) ?_
      refine lv_topi (fun z1 e2 => ?_)
      obtain rfl : z1 = (12 : Int32) := e2.trans (by decide)
      refine lv_icmp_ge (tgt := 27) hx hb dX11_takeHalf_7 rfl (fun c3 => ?_) (fun c3 => ?_)
      · have b4 : iv 12 12 v2_loc1 := iv_leR c3 ivk_12 h2_1 (by decide) (by decide)
        have hP9 := hP
        have hD9 := hD
        exact W.vret hx hb hr (fun t ht hW => ⟨⟨(), rfl, trivial, g2_0, by rw [ht]; exact hP9, hD9⟩, hS.F ht⟩) hS.2.2 dX11_takeHalf_27
      · have b5 : iv 0 11 v2_loc1 := iv_ltL (Int32.not_le.mp c3) h2_1 ivk_12 (by decide) (by decide)
        refine lv_aload_n hx hb dX11_takeHalf_10 rfl (lv_at hl 0 rfl) ?_
        refine lv_iload_n hx hb dX11_takeHalf_11 rfl (lv_at hl 1 rfl) ?_
        refine lv_aload_n hx hb dX11_takeHalf_12 rfl (lv_at hl 0 rfl) ?_
        refine lv_aload_n hx hb dX11_takeHalf_13 rfl (lv_at hl 0 rfl) ?_
        refine va_alen (v := 24) hx hb hK hP 0 1 rfl rfl rfl dX11_takeHalf_14 ?_
        refine lv_iconst (v := 2) hx hb dX11_takeHalf_15 ic_2 ?_
        refine lv_idiv hx hb dX11_takeHalf_16 (by decide) ?_
        refine lv_topi (fun z6 e7 => ?_)
        obtain rfl : z6 = (12 : Int32) := e7.trans (by decide)
        refine lv_iload_n hx hb dX11_takeHalf_17 rfl (lv_at hl 1 rfl) ?_
        refine lv_iadd hx hb dX11_takeHalf_18 ?_
        have b8 : iv 12 23 (12 + v2_loc1) := iv_add ivk_12 b5 (by decide) (by decide) (by decide) (by decide)
        refine va_iald hx hb hK hP 0 1 rfl rfl (iv_in b8 (by decide) (by decide)) dX11_takeHalf_19 ?_
        refine va_iast hx hb hK hP hD hS 0 1 rfl rfl (iv_in b5 (by decide) (by decide)) dX11_takeHalf_20 (fun H locs hPa hDa hS => ?_)
        clear hP hD
        have hP : va_P (dC, dI) vwCl [(b0, .inl (kI, 24, .inl (upd g2_0 v2_loc1.toNatClampNeg (g2_0 (12 + v2_loc1).toNatClampNeg))))] H := hPa
        have hD : va_D A [(b0, .inl (kI, 24, .inl (upd g2_0 v2_loc1.toNatClampNeg (g2_0 (12 + v2_loc1).toNatClampNeg))))] := hDa
        clear hPa hDa
        generalize (upd g2_0 v2_loc1.toNatClampNeg (g2_0 (12 + v2_loc1).toNatClampNeg)) = f9 at hP hD 
        refine lv_iinc (v := v2_loc1 + Int32.ofInt 1) (lv' := [(1, .int (v2_loc1 + Int32.ofInt 1)), (0, .ref b0)]) hx hb dX11_takeHalf_21 hl (k := 1) rfl (rfl) (Nat.le_of_ble_eq_true rfl) rfl (fun ls hl => ?_)
        have b11 : iv 1 12 (v2_loc1 + Int32.ofInt 1) := iv_add b5 ivo_1 (by decide) (by decide) (by decide) (by decide)
        refine lv_goto (tgt := 2) hx hb dX11_takeHalf_24 rfl ?_
        exact ih2 f9 (v2_loc1 + Int32.ofInt 1) _ _ _ (ms_up (c := 1) (d := 0) b5 hm2 (by decide) (iv_inc 1 b5 (by decide) (by decide) (by decide) (by decide)) (by decide) rfl) ((iv_w b11 (by decide) (by decide))) (hP) (hD) hS (lv_sub hl [1, 0] rfl)
  refine lv_iconst (v := 0) hx hb dX11_takeHalf_0 ic_0 ?_
  refine lv_istore_n (lv' := [(1, .int 0), (0, .ref b0)]) hx hb dX11_takeHalf_1 rfl hl (Nat.le_of_ble_eq_true rfl) rfl (fun ls hl => ?_)
  exact hJ2 _ fr 0 _ _ _ (Nat.lt_succ_self _) ((iv_w ivk_0 (by decide) (by decide))) (hP) (hD) hS (lv_sub hl [1, 0] rfl)
def rm_s11_takeHalf_goal : Room := { frames := 0, cells := 0, slots := 0, locals := 0 }
set_option maxHeartbeats 4000000 in
set_option maxRecDepth 100000 in
theorem s11_takeHalf_goal (l : Launch) (dC : Nat → ClassId) (dI : Nat → Nat → Nat) (kB kI kJ kZ kC kS : ClassId) (sz : Nat) (b0 : Nat) (fr : Nat → Int32) (hfr : fI (fun _ => 0) (fun _ => 11) fr) : Met l yX11_takeHalf wsX11_takeHalf rm_s11_takeHalf_goal (va_Pc [.ref b0] (fun U => U.heap.size = sz ∧ va_P (dC, dI) vwCl [(b0, .inl (kI, 6, .inl fr))] U.heap ∧ kE dC dI kB kI kJ kZ kC kS U ∧ va_D (fun _ => True) [(b0, .inl (kI, 6, .inl fr))])) (va_Qv (fun (_ : Unit) => True) (fun _ t => ∃ (fr' : Nat → Int32), fI (fun _ => 0) (fun _ => 11) fr' ∧ va_P (dC, dI) vwCl [(b0, .inl (kI, 6, .inl fr'))] t.heap ∧ va_D (va_A [(b0, .inl (kI, 6, .inl fr))] sz) [(b0, .inl (kI, 6, .inl fr'))]) (va_A [(b0, .inl (kI, 6, .inl fr))] sz)) 0 0 (va_A [(b0, .inl (kI, 6, .inl fr))] sz) := by
  refine Met.ofW (cc := cX11_takeHalf) (maxL := 2) (ret := none) (by decide) rfl ?_
  intro p e s m args0 below meth c s₁ B hml hv
  obtain ⟨hargs, hsz, hP, hE, hD0⟩ := hv
  have hx := B.exec
  have hb := B.bytes
  have hr := B.returns
  have hts := atoms_spec (ws := wsX11_takeHalf) B.pre
  have hown : s.vm.findClass RX11 = some m.cls := findClass_of_methodNamed B.named
  have hlocks := B.notSynchronized
  have hK := hE.1
  subst hsz
  have hD := hD0.self (sz := s.heap.size)
  generalize hAe : va_A [(b0, .inl (kI, 6, .inl fr))] s.heap.size = A at hD ⊢
  have hA : ∀ q : Nat, s.heap.size ≤ q → A q := fun q h => by rw [← hAe]; exact Or.inr h
  have hS : va_S A s.heap s.heap [] := va_S.rf
  have hP : va_P (dC, dI) vwCl [(b0, .inl (kI, 6, .inl fr))] s.heap := hP
  have hl := lv_entry ([.ref b0]) (n := 2) (Nat.le_of_ble_eq_true rfl)
  have hla : entryFrame m args0 2 = entryFrame m ([.ref b0] : List Value).toArray 2 := by rw [hargs]
  rw [hla, lg_entry_eq]
  generalize (lg_sl ([.ref b0]) ++ List.replicate (2 - (lg_sl ([.ref b0])).length) Slot.unset).toArray = ls at hl ⊢
  have hl : lv_has ls 2 [(0, .ref b0)] := hl
  have hJ2 : ∀ (n : Nat) (g2_0 : Nat → Int32) (v2_loc1 : Int32) (H : Heap) (locs : List Loc) (ls : Array Slot), (3 - v2_loc1.toInt).toNat < n → fI (fun _ => 0) (fun _ => 11) g2_0 → iv 0 3 v2_loc1 → va_P (dC, dI) vwCl [(b0, .inl (kI, 6, .inl g2_0))] H → va_D A [(b0, .inl (kI, 6, .inl g2_0))] → va_S A s.heap H locs → lv_has ls 2 [(0, .ref b0), (1, .int v2_loc1)] → W p l e (headSpec wsX11_takeHalf rm_s11_takeHalf_goal).room s m args0 below meth c H locs (0) (0) (MQ below (va_Qv (fun (_ : Unit) => True) (fun _ t => ∃ (fr' : Nat → Int32), fI (fun _ => 0) (fun _ => 11) fr' ∧ va_P (dC, dI) vwCl [(b0, .inl (kI, 6, .inl fr'))] t.heap ∧ va_D A [(b0, .inl (kI, 6, .inl fr'))]) A) args0 s 0 0 A) (F0 m 2 ls []) := by
    intro n
    induction n with
    | zero => intro g2_0 v2_loc1 H locs ls hm2; exact absurd hm2 (Nat.not_lt_zero _)
    | succ n ih2 =>
      intro g2_0 v2_loc1 H locs ls hm2 hI2_0 h2_2 hP hD hS hl
      refine lv_iload_n hx hb dX11_takeHalf_2 rfl (lv_at hl 1 rfl) ?_
      refine lv_aload_n hx hb dX11_takeHalf_3 rfl (lv_at hl 0 rfl) ?_
      refine va_alen (v := 6) hx hb hK hP 0 1 rfl rfl rfl dX11_takeHalf_4 ?_
      refine lv_iconst (v := 2) hx hb dX11_takeHalf_5 ic_2 ?_
      refine lv_idiv hx hb dX11_takeHalf_6 (by decide) ?_
      refine lv_topi (fun z1 e2 => ?_)
      obtain rfl : z1 = (3 : Int32) := e2.trans (by decide)
      refine lv_icmp_ge (tgt := 27) hx hb dX11_takeHalf_7 rfl (fun c3 => ?_) (fun c3 => ?_)
      · have b4 : iv 3 3 v2_loc1 := iv_leR c3 ivk_3 h2_2 (by decide) (by decide)
        have hP9 := hP
        have hD9 := hD
        exact W.vret hx hb hr (fun t ht hW => ⟨⟨(), rfl, trivial, g2_0, hI2_0, by rw [ht]; exact hP9, hD9⟩, hS.F ht⟩) hS.2.2 dX11_takeHalf_27
      · have b5 : iv 0 2 v2_loc1 := iv_ltL (Int32.not_le.mp c3) h2_2 ivk_3 (by decide) (by decide)
        refine lv_aload_n hx hb dX11_takeHalf_10 rfl (lv_at hl 0 rfl) ?_
        refine lv_iload_n hx hb dX11_takeHalf_11 rfl (lv_at hl 1 rfl) ?_
        refine lv_aload_n hx hb dX11_takeHalf_12 rfl (lv_at hl 0 rfl) ?_
        refine lv_aload_n hx hb dX11_takeHalf_13 rfl (lv_at hl 0 rfl) ?_
        refine va_alen (v := 6) hx hb hK hP 0 1 rfl rfl rfl dX11_takeHalf_14 ?_
        refine lv_iconst (v := 2) hx hb dX11_takeHalf_15 ic_2 ?_
        refine lv_idiv hx hb dX11_takeHalf_16 (by decide) ?_
        refine lv_topi (fun z6 e7 => ?_)
        obtain rfl : z6 = (3 : Int32) := e7.trans (by decide)
        refine lv_iload_n hx hb dX11_takeHalf_17 rfl (lv_at hl 1 rfl) ?_
        refine lv_iadd hx hb dX11_takeHalf_18 ?_
        have b8 : iv 3 5 (3 + v2_loc1) := iv_add ivk_3 b5 (by decide) (by decide) (by decide) (by decide)
        refine va_iald hx hb hK hP 0 1 rfl rfl (iv_in b8 (by decide) (by decide)) dX11_takeHalf_19 ?_
        have b9 : iv 0 11 (g2_0 (3 + v2_loc1).toNatClampNeg) := hI2_0 _
        refine va_iast hx hb hK hP hD hS 0 1 rfl rfl (iv_in b5 (by decide) (by decide)) dX11_takeHalf_20 (fun H locs hPa hDa hS => ?_)
        clear hP hD
        have hP : va_P (dC, dI) vwCl [(b0, .inl (kI, 6, .inl (upd g2_0 v2_loc1.toNatClampNeg (g2_0 (3 + v2_loc1).toNatClampNeg))))] H := hPa
        have hD : va_D A [(b0, .inl (kI, 6, .inl (upd g2_0 v2_loc1.toNatClampNeg (g2_0 (3 + v2_loc1).toNatClampNeg))))] := hDa
        clear hPa hDa
        have hf11 : fI (fun _ => 0) (fun _ => 11) (upd g2_0 v2_loc1.toNatClampNeg (g2_0 (3 + v2_loc1).toNatClampNeg)) := fI_u hI2_0 (hI2_0 _)
        generalize (upd g2_0 v2_loc1.toNatClampNeg (g2_0 (3 + v2_loc1).toNatClampNeg)) = f10 at hP hD hf11
        refine lv_iinc (v := v2_loc1 + Int32.ofInt 1) (lv' := [(1, .int (v2_loc1 + Int32.ofInt 1)), (0, .ref b0)]) hx hb dX11_takeHalf_21 hl (k := 1) rfl (rfl) (Nat.le_of_ble_eq_true rfl) rfl (fun ls hl => ?_)
        have b12 : iv 1 3 (v2_loc1 + Int32.ofInt 1) := iv_add b5 ivo_1 (by decide) (by decide) (by decide) (by decide)
        refine lv_goto (tgt := 2) hx hb dX11_takeHalf_24 rfl ?_
        exact ih2 f10 (v2_loc1 + Int32.ofInt 1) _ _ _ (ms_up (c := 1) (d := 0) b5 hm2 (by decide) (iv_inc 1 b5 (by decide) (by decide) (by decide) (by decide)) (by decide) rfl) (hf11) ((iv_w b12 (by decide) (by decide))) (hP) (hD) hS (lv_sub hl [1, 0] rfl)
  refine lv_iconst (v := 0) hx hb dX11_takeHalf_0 ic_0 ?_
  refine lv_istore_n (lv' := [(1, .int 0), (0, .ref b0)]) hx hb dX11_takeHalf_1 rfl hl (Nat.le_of_ble_eq_true rfl) rfl (fun ls hl => ?_)
  exact hJ2 _ fr 0 _ _ _ (Nat.lt_succ_self _) (hfr) ((iv_w ivk_0 (by decide) (by decide))) (hP) (hD) hS (lv_sub hl [1, 0] rfl)
def rm_s11_walk : Room := { frames := 3, cells := 0, slots := 0, locals := 76 }
set_option maxHeartbeats 4000000 in
set_option maxRecDepth 100000 in
theorem s11_walk (l : Launch) (dC : Nat → ClassId) (dI : Nat → Nat → Nat) (kB kI kJ kZ kC kS : ClassId) (sz : Nat) (m0 : Nat) (ra : Nat → Nat) (x0 : Nat → Int32) (q_told : Nat → Int32) (q_kind : Nat → Int32) (q_salt : Nat → Int32) (q_late : Nat → Int32) (q_from : Nat → Int32) (q_to : Nat → Int32) (q_goal : Nat → Int32) (q_now : Nat → Int32) (q_reach : Nat → Int32) (p0 : Int32) (p1 : Int32) (p2 : Int32) (hX : fI lX11 hX11 x0) (hq_told : fI lTold hTold q_told) (hq_salt : fI (fun _ => 0) (fun _ => 15) q_salt) (hq_from : fI (fun _ => 0) (fun _ => 11) q_from) (hq_to : fI (fun _ => 0) (fun _ => 11) q_to) (hq_goal : fI (fun _ => 0) (fun _ => 11) q_goal) (hq_now : fI lNow hNow q_now) (hp0 : iv 0 31 p0) (hp1 : iv 0 2 p1) (hLT : ∀ j : Nat, (j : Int) < (q_told 1).toInt → (q_from j).toInt < (q_to j).toInt) : Met l yX11_walk wsX11_walk rm_s11_walk (va_Pc [.ref m0, .int p0, .int p1, .int p2] (fun U => U.heap.size = sz ∧ va_P (dC, dI) vwCl [(m0, .inr (11, oX11 ra x0)), (ra 2, .inl (kI, 8, .inl q_told)), (ra 3, .inl (kI, 24, .inl q_kind)), (ra 4, .inl (kI, 24, .inl q_salt)), (ra 7, .inl (kI, 24, .inl q_late)), (ra 8, .inl (kI, 40, .inl q_from)), (ra 9, .inl (kI, 40, .inl q_to)), (ra 10, .inl (kI, 6, .inl q_goal)), (ra 11, .inl (kI, 1019, .inl q_now)), (ra 14, .inl (kI, 12, .inl q_reach))] U.heap ∧ kE dC dI kB kI kJ kZ kC kS U ∧ va_D (fun _ => True) [(m0, .inr (11, oX11 ra x0)), (ra 2, .inl (kI, 8, .inl q_told)), (ra 3, .inl (kI, 24, .inl q_kind)), (ra 4, .inl (kI, 24, .inl q_salt)), (ra 7, .inl (kI, 24, .inl q_late)), (ra 8, .inl (kI, 40, .inl q_from)), (ra 9, .inl (kI, 40, .inl q_to)), (ra 10, .inl (kI, 6, .inl q_goal)), (ra 11, .inl (kI, 1019, .inl q_now)), (ra 14, .inl (kI, 12, .inl q_reach))])) (va_Qv (fun (_ : Unit) => True) (fun _ t => ∃ (x0' : Nat → Int32) (q_now' : Nat → Int32), fI lX11 hX11 x0' ∧ fI lNow hNow q_now' ∧ (x0' 1 = x0 1) ∧ (x0' 10 = x0 10) ∧ (x0' 11 = x0 11) ∧ (x0' 14 = x0 14) ∧ va_P (dC, dI) vwCl [(m0, .inr (11, oX11 ra x0')), (ra 2, .inl (kI, 8, .inl q_told)), (ra 3, .inl (kI, 24, .inl q_kind)), (ra 4, .inl (kI, 24, .inl q_salt)), (ra 7, .inl (kI, 24, .inl q_late)), (ra 8, .inl (kI, 40, .inl q_from)), (ra 9, .inl (kI, 40, .inl q_to)), (ra 10, .inl (kI, 6, .inl q_goal)), (ra 11, .inl (kI, 1019, .inl q_now')), (ra 14, .inl (kI, 12, .inl q_reach))] t.heap ∧ va_D (va_A [(m0, .inr (11, oX11 ra x0)), (ra 2, .inl (kI, 8, .inl q_told)), (ra 3, .inl (kI, 24, .inl q_kind)), (ra 4, .inl (kI, 24, .inl q_salt)), (ra 7, .inl (kI, 24, .inl q_late)), (ra 8, .inl (kI, 40, .inl q_from)), (ra 9, .inl (kI, 40, .inl q_to)), (ra 10, .inl (kI, 6, .inl q_goal)), (ra 11, .inl (kI, 1019, .inl q_now)), (ra 14, .inl (kI, 12, .inl q_reach))] sz) [(m0, .inr (11, oX11 ra x0')), (ra 2, .inl (kI, 8, .inl q_told)), (ra 3, .inl (kI, 24, .inl q_kind)), (ra 4, .inl (kI, 24, .inl q_salt)), (ra 7, .inl (kI, 24, .inl q_late)), (ra 8, .inl (kI, 40, .inl q_from)), (ra 9, .inl (kI, 40, .inl q_to)), (ra 10, .inl (kI, 6, .inl q_goal)), (ra 11, .inl (kI, 1019, .inl q_now')), (ra 14, .inl (kI, 12, .inl q_reach))]) (va_A [(m0, .inr (11, oX11 ra x0)), (ra 2, .inl (kI, 8, .inl q_told)), (ra 3, .inl (kI, 24, .inl q_kind)), (ra 4, .inl (kI, 24, .inl q_salt)), (ra 7, .inl (kI, 24, .inl q_late)), (ra 8, .inl (kI, 40, .inl q_from)), (ra 9, .inl (kI, 40, .inl q_to)), (ra 10, .inl (kI, 6, .inl q_goal)), (ra 11, .inl (kI, 1019, .inl q_now)), (ra 14, .inl (kI, 12, .inl q_reach))] sz)) 0 0 (va_A [(m0, .inr (11, oX11 ra x0)), (ra 2, .inl (kI, 8, .inl q_told)), (ra 3, .inl (kI, 24, .inl q_kind)), (ra 4, .inl (kI, 24, .inl q_salt)), (ra 7, .inl (kI, 24, .inl q_late)), (ra 8, .inl (kI, 40, .inl q_from)), (ra 9, .inl (kI, 40, .inl q_to)), (ra 10, .inl (kI, 6, .inl q_goal)), (ra 11, .inl (kI, 1019, .inl q_now)), (ra 14, .inl (kI, 12, .inl q_reach))] sz) := by
  refine Met.ofW (cc := cX11_walk) (maxL := 10) (ret := none) (by decide) rfl ?_
  intro p e s m args0 below meth c s₁ B hml hv
  obtain ⟨hargs, hsz, hP, hE, hD0⟩ := hv
  have hx := B.exec
  have hb := B.bytes
  have hr := B.returns
  have hts := atoms_spec (ws := wsX11_walk) B.pre
  have hown : s.vm.findClass RX11 = some m.cls := findClass_of_methodNamed B.named
  have hlocks := B.notSynchronized
  have hK := hE.1
  have hin11 : ∀ w ∈ wsX110, w ∈ wsX11_walk := fun _ h9 => List.mem_cons_of_mem _ (List.mem_append_right _ h9)
  have hw_0 := hts (.fieldLink RX11 292 "PathProberModel" "endRouter" "I") (List.mem_of_getElem? (i := 3) rfl)
  have hw_1 := hts (.fieldLink RX11 295 "PathProberModel" "endAddress" "I") (List.mem_of_getElem? (i := 5) rfl)
  have hw_2 := hts (.fieldLink RX11 58 "PathProberModel" "goal" "[I") (List.mem_of_getElem? (i := 1) rfl)
  have hw_3 := hts (.fieldLink RX11 56 "PathProberModel" "to" "[I") (List.mem_of_getElem? (i := 4) rfl)
  have hw_4 := hts (.fieldLink RX11 50 "PathProberModel" "late" "[I") (List.mem_of_getElem? (i := 2) rfl)
  subst hsz
  have hD := hD0.self (sz := s.heap.size)
  generalize hAe : va_A [(m0, .inr (11, oX11 ra x0)), (ra 2, .inl (kI, 8, .inl q_told)), (ra 3, .inl (kI, 24, .inl q_kind)), (ra 4, .inl (kI, 24, .inl q_salt)), (ra 7, .inl (kI, 24, .inl q_late)), (ra 8, .inl (kI, 40, .inl q_from)), (ra 9, .inl (kI, 40, .inl q_to)), (ra 10, .inl (kI, 6, .inl q_goal)), (ra 11, .inl (kI, 1019, .inl q_now)), (ra 14, .inl (kI, 12, .inl q_reach))] s.heap.size = A at hD ⊢
  have hA : ∀ q : Nat, s.heap.size ≤ q → A q := fun q h => by rw [← hAe]; exact Or.inr h
  have hS : va_S A s.heap s.heap [] := va_S.rf
  have hP : va_P (dC, dI) vwCl [(m0, .inr (11, oX11 ra x0)), (ra 2, .inl (kI, 8, .inl q_told)), (ra 3, .inl (kI, 24, .inl q_kind)), (ra 4, .inl (kI, 24, .inl q_salt)), (ra 7, .inl (kI, 24, .inl q_late)), (ra 8, .inl (kI, 40, .inl q_from)), (ra 9, .inl (kI, 40, .inl q_to)), (ra 10, .inl (kI, 6, .inl q_goal)), (ra 11, .inl (kI, 1019, .inl q_now)), (ra 14, .inl (kI, 12, .inl q_reach))] s.heap := hP
  have hl := lv_entry ([.ref m0, .int p0, .int p1, .int p2]) (n := 10) (Nat.le_of_ble_eq_true rfl)
  have hla : entryFrame m args0 10 = entryFrame m ([.ref m0, .int p0, .int p1, .int p2] : List Value).toArray 10 := by rw [hargs]
  rw [hla, lg_entry_eq]
  generalize (lg_sl ([.ref m0, .int p0, .int p1, .int p2]) ++ List.replicate (10 - (lg_sl ([.ref m0, .int p0, .int p1, .int p2])).length) Slot.unset).toArray = ls at hl ⊢
  have hl : lv_has ls 10 [(0, .ref m0), (1, .int p0), (2, .int p1), (3, .int p2)] := hl
  have hJ12 : ∀ (n : Nat) (g12_8 : Nat → Int32) (v12_loc4 : Int32) (v12_loc5 : Int32) (v12_loc6 : Int32) (v12_loc7 : Int32) (H : Heap) (locs : List Loc) (ls : Array Slot), (2 * (12 - v12_loc4.toInt) + 1 - v12_loc7.toInt).toNat < n → fI lNow hNow g12_8 → iv 0 11 v12_loc4 → iv 0 20 v12_loc5 → iv 0 1 v12_loc7 → (x0 1 = x0 1) → (x0 10 = x0 10) → (x0 11 = x0 11) → (x0 14 = x0 14) → va_P (dC, dI) vwCl [(m0, .inr (11, oX11 ra x0)), (ra 2, .inl (kI, 8, .inl q_told)), (ra 3, .inl (kI, 24, .inl q_kind)), (ra 4, .inl (kI, 24, .inl q_salt)), (ra 7, .inl (kI, 24, .inl q_late)), (ra 8, .inl (kI, 40, .inl q_from)), (ra 9, .inl (kI, 40, .inl q_to)), (ra 10, .inl (kI, 6, .inl q_goal)), (ra 11, .inl (kI, 1019, .inl g12_8)), (ra 14, .inl (kI, 12, .inl q_reach))] H → va_D A [(m0, .inr (11, oX11 ra x0)), (ra 2, .inl (kI, 8, .inl q_told)), (ra 3, .inl (kI, 24, .inl q_kind)), (ra 4, .inl (kI, 24, .inl q_salt)), (ra 7, .inl (kI, 24, .inl q_late)), (ra 8, .inl (kI, 40, .inl q_from)), (ra 9, .inl (kI, 40, .inl q_to)), (ra 10, .inl (kI, 6, .inl q_goal)), (ra 11, .inl (kI, 1019, .inl g12_8)), (ra 14, .inl (kI, 12, .inl q_reach))] → va_S A s.heap H locs → lv_has ls 10 [(0, .ref m0), (1, .int p0), (2, .int p1), (3, .int p2), (4, .int v12_loc4), (5, .int v12_loc5), (6, .int v12_loc6), (7, .int v12_loc7)] → W p l e (headSpec wsX11_walk rm_s11_walk).room s m args0 below meth c H locs (0) (0) (MQ below (va_Qv (fun (_ : Unit) => True) (fun _ t => ∃ (x0' : Nat → Int32) (q_now' : Nat → Int32), fI lX11 hX11 x0' ∧ fI lNow hNow q_now' ∧ (x0' 1 = x0 1) ∧ (x0' 10 = x0 10) ∧ (x0' 11 = x0 11) ∧ (x0' 14 = x0 14) ∧ va_P (dC, dI) vwCl [(m0, .inr (11, oX11 ra x0')), (ra 2, .inl (kI, 8, .inl q_told)), (ra 3, .inl (kI, 24, .inl q_kind)), (ra 4, .inl (kI, 24, .inl q_salt)), (ra 7, .inl (kI, 24, .inl q_late)), (ra 8, .inl (kI, 40, .inl q_from)), (ra 9, .inl (kI, 40, .inl q_to)), (ra 10, .inl (kI, 6, .inl q_goal)), (ra 11, .inl (kI, 1019, .inl q_now')), (ra 14, .inl (kI, 12, .inl q_reach))] t.heap ∧ va_D A [(m0, .inr (11, oX11 ra x0')), (ra 2, .inl (kI, 8, .inl q_told)), (ra 3, .inl (kI, 24, .inl q_kind)), (ra 4, .inl (kI, 24, .inl q_salt)), (ra 7, .inl (kI, 24, .inl q_late)), (ra 8, .inl (kI, 40, .inl q_from)), (ra 9, .inl (kI, 40, .inl q_to)), (ra 10, .inl (kI, 6, .inl q_goal)), (ra 11, .inl (kI, 1019, .inl q_now')), (ra 14, .inl (kI, 12, .inl q_reach))]) A) args0 s 0 0 A) (F0 m 12 ls []) := by
    intro n
    induction n with
    | zero => intro g12_8 v12_loc4 v12_loc5 v12_loc6 v12_loc7 H locs ls hm12; exact absurd hm12 (Nat.not_lt_zero _)
    | succ n ih12 =>
      intro g12_8 v12_loc4 v12_loc5 v12_loc6 v12_loc7 H locs ls hm12 hI12_8 h12_2 h12_3 h12_4 htp_12 hfp_12 hor_12 hirl_12 hP hD hS hl
      refine lv_iload hx hb dX11_walk_12 (lv_at hl 7 rfl) ?_
      refine lv_if_ne (tgt := 126) hx hb dX11_walk_14 rfl (fun c1 => ?_) (fun c1 => ?_)
      · have b2 : iv 1 1 v12_loc7 := iv_neLo c1 h12_4 ivk_0 (by decide) (by decide)
        refine lv_aload_n hx hb dX11_walk_126 rfl (lv_at hl 0 rfl) ?_
        refine lv_iload hx hb dX11_walk_127 (lv_at hl 4 rfl) ?_
        refine va_put (D := (dC, dI)) (ci := 11) (v := .int v12_loc4) (ty := .int) (C := RX11) (T := TX11) (N := 61) hx hb hts hin11 tyX11 tyX11_ok nmX11 hown hK hP hD hS 0 rfl rfl 30 (by decide) hw_0 (fun _ h9 => h9) rfl (by decide +kernel) rfl rfl (Nat.le_of_ble_eq_true rfl) dX11_walk_129 (fun H locs hPa hDa hS => ?_)
        clear hP hD
        have hP : va_P (dC, dI) vwCl [(m0, .inr (11, oX11 ra (upd x0 15 v12_loc4))), (ra 2, .inl (kI, 8, .inl q_told)), (ra 3, .inl (kI, 24, .inl q_kind)), (ra 4, .inl (kI, 24, .inl q_salt)), (ra 7, .inl (kI, 24, .inl q_late)), (ra 8, .inl (kI, 40, .inl q_from)), (ra 9, .inl (kI, 40, .inl q_to)), (ra 10, .inl (kI, 6, .inl q_goal)), (ra 11, .inl (kI, 1019, .inl g12_8)), (ra 14, .inl (kI, 12, .inl q_reach))] H := hPa
        have hD : va_D A [(m0, .inr (11, oX11 ra (upd x0 15 v12_loc4))), (ra 2, .inl (kI, 8, .inl q_told)), (ra 3, .inl (kI, 24, .inl q_kind)), (ra 4, .inl (kI, 24, .inl q_salt)), (ra 7, .inl (kI, 24, .inl q_late)), (ra 8, .inl (kI, 40, .inl q_from)), (ra 9, .inl (kI, 40, .inl q_to)), (ra 10, .inl (kI, 6, .inl q_goal)), (ra 11, .inl (kI, 1019, .inl g12_8)), (ra 14, .inl (kI, 12, .inl q_reach))] := hDa
        clear hPa hDa
        refine lv_aload_n hx hb dX11_walk_132 rfl (lv_at hl 0 rfl) ?_
        refine lv_iload hx hb dX11_walk_133 (lv_at hl 5 rfl) ?_
        refine va_put (D := (dC, dI)) (ci := 11) (v := .int v12_loc5) (ty := .int) (C := RX11) (T := TX11) (N := 61) hx hb hts hin11 tyX11 tyX11_ok nmX11 hown hK hP hD hS 0 rfl rfl 31 (by decide) hw_1 (fun _ h9 => h9) rfl (by decide +kernel) rfl rfl (Nat.le_of_ble_eq_true rfl) dX11_walk_135 (fun H locs hPa hDa hS => ?_)
        clear hP hD
        have hP : va_P (dC, dI) vwCl [(m0, .inr (11, oX11 ra (upd (upd x0 15 v12_loc4) 16 v12_loc5))), (ra 2, .inl (kI, 8, .inl q_told)), (ra 3, .inl (kI, 24, .inl q_kind)), (ra 4, .inl (kI, 24, .inl q_salt)), (ra 7, .inl (kI, 24, .inl q_late)), (ra 8, .inl (kI, 40, .inl q_from)), (ra 9, .inl (kI, 40, .inl q_to)), (ra 10, .inl (kI, 6, .inl q_goal)), (ra 11, .inl (kI, 1019, .inl g12_8)), (ra 14, .inl (kI, 12, .inl q_reach))] H := hPa
        have hD : va_D A [(m0, .inr (11, oX11 ra (upd (upd x0 15 v12_loc4) 16 v12_loc5))), (ra 2, .inl (kI, 8, .inl q_told)), (ra 3, .inl (kI, 24, .inl q_kind)), (ra 4, .inl (kI, 24, .inl q_salt)), (ra 7, .inl (kI, 24, .inl q_late)), (ra 8, .inl (kI, 40, .inl q_from)), (ra 9, .inl (kI, 40, .inl q_to)), (ra 10, .inl (kI, 6, .inl q_goal)), (ra 11, .inl (kI, 1019, .inl g12_8)), (ra 14, .inl (kI, 12, .inl q_reach))] := hDa
        clear hPa hDa
        have hP9 := hP
        have hD9 := hD
        exact W.vret hx hb hr (fun t ht hW => ⟨⟨(), rfl, trivial, upd (upd x0 15 v12_loc4) 16 v12_loc5, g12_8, (fI_u (fI_u hX (k := 15) ((iv_w h12_2 (by decide) (by decide)))) (k := 16) (h12_3)), hI12_8, (show x0 1 = x0 1 from rfl), (show x0 10 = x0 10 from rfl), (show x0 11 = x0 11 from rfl), (show x0 14 = x0 14 from rfl), by rw [ht]; exact hP9, hD9⟩, hS.F ht⟩) hS.2.2 dX11_walk_138
      · have b3 : iv 0 0 v12_loc7 := iv_eqL c1 ivk_0
        refine lv_iconst (v := 0) hx hb dX11_walk_17 ic_0 ?_
        refine lv_istore (lv' := [(8, .int 0), (0, .ref m0), (1, .int p0), (2, .int p1), (3, .int p2), (4, .int v12_loc4), (5, .int v12_loc5), (6, .int v12_loc6), (7, .int v12_loc7)]) hx hb dX11_walk_18 hl (Nat.le_of_ble_eq_true rfl) rfl (fun ls hl => ?_)
        refine lv_iload hx hb dX11_walk_20 (lv_at hl 5 rfl) ?_
        refine lv_aload_n hx hb dX11_walk_22 rfl (lv_at hl 1 rfl) ?_
        refine va_get (D := (dC, dI)) (ci := 11) (v := .ref (ra 10)) (C := RX11) (T := TX11) (N := 61) hx hb hts hin11 hown hK hP 0 rfl rfl 11 (Nat.le_of_ble_eq_true rfl) hw_2 (fun _ h9 => h9) rfl dX11_walk_23 ?_
        refine lv_iload_n hx hb dX11_walk_26 rfl (lv_at hl 3 rfl) ?_
        refine va_iald hx hb hK hP 7 1 rfl rfl (iv_in hp1 (by decide) (by decide)) dX11_walk_27 ?_
        refine iv_top (a := 0) (b := 11) (hq_goal _) (fun z4 b5 => ?_)
        refine lv_icmp_ne (tgt := 37) hx hb dX11_walk_28 rfl (fun c6 => ?_) (fun c6 => ?_)
        · refine lv_iinc (v := v12_loc6 + Int32.ofInt (-1)) (lv' := [(6, .int (v12_loc6 + Int32.ofInt (-1))), (8, .int 0), (0, .ref m0), (1, .int p0), (2, .int p1), (3, .int p2), (4, .int v12_loc4), (5, .int v12_loc5), (7, .int v12_loc7)]) hx hb dX11_walk_37 hl (k := 7) rfl (rfl) (Nat.le_of_ble_eq_true rfl) rfl (fun ls hl => ?_)
          refine lv_iload hx hb dX11_walk_40 (lv_at hl 0 rfl) ?_
          refine lv_if_ne (tgt := 49) hx hb dX11_walk_42 rfl (fun c7 => ?_) (fun c7 => ?_)
          · refine lv_iconst (v := 0) hx hb dX11_walk_49 ic_0 ?_
            refine lv_istore (lv' := [(8, .int 0), (6, .int (v12_loc6 + Int32.ofInt (-1))), (0, .ref m0), (1, .int p0), (2, .int p1), (3, .int p2), (4, .int v12_loc4), (5, .int v12_loc5), (7, .int v12_loc7)]) hx hb dX11_walk_50 hl (Nat.le_of_ble_eq_true rfl) rfl (fun ls hl => ?_)
            refine lv_iload hx hb dX11_walk_52 (lv_at hl 0 rfl) ?_
            refine lv_if_eq (tgt := 71) hx hb dX11_walk_54 rfl (fun _ => ?_) (fun c9 => absurd (by decide) c9)
            refine lv_iconst (v := 0) hx hb dX11_walk_71 ic_0 ?_
            refine lv_istore (lv' := [(7, .int 0), (8, .int 0), (6, .int (v12_loc6 + Int32.ofInt (-1))), (0, .ref m0), (1, .int p0), (2, .int p1), (3, .int p2), (4, .int v12_loc4), (5, .int v12_loc5)]) hx hb dX11_walk_72 hl (Nat.le_of_ble_eq_true rfl) rfl (fun ls hl => ?_)
            refine lv_iload hx hb dX11_walk_74 (lv_at hl 0 rfl) ?_
            refine lv_if_eq (tgt := 82) hx hb dX11_walk_76 rfl (fun _ => ?_) (fun c9 => absurd (by decide) c9)
            refine lv_aload_n hx hb dX11_walk_82 rfl (lv_at hl 3 rfl) ?_
            refine lv_iload hx hb dX11_walk_83 (lv_at hl 7 rfl) ?_
            refine lv_iload_n hx hb dX11_walk_85 rfl (lv_at hl 4 rfl) ?_
            refine lv_iload_n hx hb dX11_walk_86 rfl (lv_at hl 5 rfl) ?_
            obtain ⟨hPc, hDc, hFc, hJn⟩ := cl_a (wc := [(m0, .inr (11, oX11 ra x0)), (ra 2, .inl (kI, 8, .inl q_told)), (ra 3, .inl (kI, 24, .inl q_kind)), (ra 4, .inl (kI, 24, .inl q_salt)), (ra 8, .inl (kI, 40, .inl q_from)), (ra 9, .inl (kI, 40, .inl q_to)), (ra 10, .inl (kI, 6, .inl q_goal)), (ra 11, .inl (kI, 1019, .inl g12_8)), (ra 14, .inl (kI, 12, .inl q_reach))]) (wr := [(ra 7, .inl (kI, 24, .inl q_late))]) hP hD hS hA [0, 1, 2, 3, 5, 6, 7, 8, 9] [4] rfl rfl (by decide +kernel)
            refine va_calli (va_runV (As := [.int v12_loc4, .int p0, .int p1]) (rest := []) ⟨hx, hb, hml, hown, hts⟩ (s11_goesBy l dC dI kB kI kJ kZ kC kS H.size m0 ra x0 q_told q_kind q_salt q_from q_to q_goal g12_8 q_reach v12_loc4 p0 p1 (hX) (hq_told) (hq_salt) (hq_from) (hq_to) (hq_goal) (hI12_8) (h12_2) (hp0) (hp1)) (cwV 3 hts gX11_walk_X11_goesBy rfl rfl rfl (by decide +kernel) ⟨Nat.le_of_ble_eq_true rfl, Nat.le_of_ble_eq_true rfl⟩) ⟨fun a U g mk q => by obtain ⟨q0, q1, qP, qE, qD⟩ := q; exact ⟨q0, q1, qP, kE_call qE, qD⟩, va_recv hK hP (ci := 11) (q0 := 0) rfl rfl, fun U hU hW => ⟨rfl, by rw [hU], by rw [hU]; exact hPc, kE_warm hW hE, hDc.weaken (fun _ _ _ _ => trivial)⟩⟩ rfl rfl hl.1 rfl (lv_room (Nat.le_of_ble_eq_true rfl)) dX11_walk_87 ⟨Nat.le_of_ble_eq_true rfl, Nat.le_of_ble_eq_true rfl⟩) hS (fun q _ h => hFc q h) hFc (fun r8 u t H locs ht hvm w9 hB hz1 hk1 hS => ?_)
            obtain ⟨f10, hq11, hP1, hD1⟩ := hB
            try dsimp only at w9
            obtain ⟨hPa, hDa⟩ := hJn (w1 := [(m0, .inr (11, oX11 ra x0)), (ra 2, .inl (kI, 8, .inl q_told)), (ra 3, .inl (kI, 24, .inl q_kind)), (ra 4, .inl (kI, 24, .inl q_salt)), (ra 8, .inl (kI, 40, .inl q_from)), (ra 9, .inl (kI, 40, .inl q_to)), (ra 10, .inl (kI, 6, .inl q_goal)), (ra 11, .inl (kI, 1019, .inl f10)), (ra 14, .inl (kI, 12, .inl q_reach))]) hk1 ht hP1 hD1
            clear hP hD hPc hDc hFc hJn hP1 hD1 hk1
            have hP : va_P (dC, dI) vwCl [(ra 7, .inl (kI, 24, .inl q_late)), (m0, .inr (11, oX11 ra x0)), (ra 2, .inl (kI, 8, .inl q_told)), (ra 3, .inl (kI, 24, .inl q_kind)), (ra 4, .inl (kI, 24, .inl q_salt)), (ra 8, .inl (kI, 40, .inl q_from)), (ra 9, .inl (kI, 40, .inl q_to)), (ra 10, .inl (kI, 6, .inl q_goal)), (ra 11, .inl (kI, 1019, .inl f10)), (ra 14, .inl (kI, 12, .inl q_reach))] H := hPa
            have hD : va_D A [(ra 7, .inl (kI, 24, .inl q_late)), (m0, .inr (11, oX11 ra x0)), (ra 2, .inl (kI, 8, .inl q_told)), (ra 3, .inl (kI, 24, .inl q_kind)), (ra 4, .inl (kI, 24, .inl q_salt)), (ra 8, .inl (kI, 40, .inl q_from)), (ra 9, .inl (kI, 40, .inl q_to)), (ra 10, .inl (kI, 6, .inl q_goal)), (ra 11, .inl (kI, 1019, .inl f10)), (ra 14, .inl (kI, 12, .inl q_reach))] := hDa
            clear hPa hDa
            refine W.widen (k := 0) (n := 0) (Nat.le_of_ble_eq_true rfl) (Nat.le_of_ble_eq_true rfl) ?_
            refine lv_istore (lv' := [(9, .int r8), (7, .int 0), (8, .int 0), (6, .int (v12_loc6 + Int32.ofInt (-1))), (0, .ref m0), (1, .int p0), (2, .int p1), (3, .int p2), (4, .int v12_loc4), (5, .int v12_loc5)]) hx hb dX11_walk_90 hl (Nat.le_of_ble_eq_true rfl) rfl (fun ls hl => ?_)
            refine lv_iload hx hb dX11_walk_92 (lv_at hl 0 rfl) ?_
            refine lv_iconst (v := (-1)) hx hb dX11_walk_94 ic_m1 ?_
            refine lv_icmp_ne (tgt := 104) hx hb dX11_walk_95 rfl (fun c12 => ?_) (fun c12 => ?_)
            · have b13 : iv 0 19 r8 := iv_neLo c12 w9.1 ivk_m1 (by decide) (by decide)
              have hr14 : q_from r8.toNatClampNeg = v12_loc4 ∧ r8.toInt < (q_told 1).toInt := (w9.2).resolve_left (iv_ne b13 ivk_m1 (by decide))
              refine lv_aload_n hx hb dX11_walk_104 rfl (lv_at hl 4 rfl) ?_
              refine va_get (D := (dC, dI)) (ci := 11) (v := .ref (ra 9)) (C := RX11) (T := TX11) (N := 61) hx hb hts hin11 hown hK hP 1 rfl rfl 10 (Nat.le_of_ble_eq_true rfl) hw_3 (fun _ h9 => h9) rfl dX11_walk_105 ?_
              refine lv_iload hx hb dX11_walk_108 (lv_at hl 0 rfl) ?_
              refine va_iald hx hb hK hP 6 1 rfl rfl (iv_in b13 (by decide) (by decide)) dX11_walk_110 ?_
              have b15 : iv 0 11 (q_to r8.toNatClampNeg) := hq_to _
              refine lv_istore (lv' := [(4, .int (q_to r8.toNatClampNeg)), (9, .int r8), (7, .int 0), (8, .int 0), (6, .int (v12_loc6 + Int32.ofInt (-1))), (0, .ref m0), (1, .int p0), (2, .int p1), (3, .int p2), (5, .int v12_loc5)]) hx hb dX11_walk_111 hl (Nat.le_of_ble_eq_true rfl) rfl (fun ls hl => ?_)
              refine lv_iload hx hb dX11_walk_113 (lv_at hl 1 rfl) ?_
              refine lv_iconst (v := 1) hx hb dX11_walk_115 ic_1 ?_
              refine lv_iadd hx hb dX11_walk_116 ?_
              refine iv_top (a := 1) (b := 20) (iv_add b13 ivk_1 (by decide) (by decide) (by decide) (by decide)) (fun z16 b17 => ?_)
              refine lv_istore (lv' := [(5, .int z16), (4, .int (q_to r8.toNatClampNeg)), (9, .int r8), (7, .int 0), (8, .int 0), (6, .int (v12_loc6 + Int32.ofInt (-1))), (0, .ref m0), (1, .int p0), (2, .int p1), (3, .int p2)]) hx hb dX11_walk_117 hl (Nat.le_of_ble_eq_true rfl) rfl (fun ls hl => ?_)
              refine lv_iload hx hb dX11_walk_119 (lv_at hl 4 rfl) ?_
              refine lv_istore (lv' := [(7, .int 0), (5, .int z16), (4, .int (q_to r8.toNatClampNeg)), (9, .int r8), (8, .int 0), (6, .int (v12_loc6 + Int32.ofInt (-1))), (0, .ref m0), (1, .int p0), (2, .int p1), (3, .int p2)]) hx hb dX11_walk_121 hl (Nat.le_of_ble_eq_true rfl) rfl (fun ls hl => ?_)
              refine lv_goto (tgt := 12) hx hb dX11_walk_123 rfl ?_
              have hPD9 := cl_s (wc := [(m0, .inr (11, oX11 ra x0)), (ra 2, .inl (kI, 8, .inl q_told)), (ra 3, .inl (kI, 24, .inl q_kind)), (ra 4, .inl (kI, 24, .inl q_salt)), (ra 7, .inl (kI, 24, .inl q_late)), (ra 8, .inl (kI, 40, .inl q_from)), (ra 9, .inl (kI, 40, .inl q_to)), (ra 10, .inl (kI, 6, .inl q_goal)), (ra 11, .inl (kI, 1019, .inl f10)), (ra 14, .inl (kI, 12, .inl q_reach))]) hP hD [1, 2, 3, 4, 0, 5, 6, 7, 8, 9] rfl (by decide +kernel)
              exact ih12 f10 (q_to r8.toNatClampNeg) z16 (v12_loc6 + Int32.ofInt (-1)) 0 _ _ _ (by have q1 := h12_2; have q2 := q1.1; have q3 := q1.2; have q4 := ivk_0; have q5 := q4.1; have q6 := q4.2; have q7 := b3; have q8 := q7.1; have q9 := q7.2; have k1 := hr14; have k2 := hLT r8.toNatClampNeg (by have k3 := k1.2; rw [cl_nat b13 (by decide)]; exact k3); rw [k1.1] at k2; have hm := hm12; omega) (hq11) (b15) ((iv_w b17 (by decide) (by decide))) ((iv_w ivk_0 (by decide) (by decide))) ((show x0 1 = x0 1 from rfl)) ((show x0 10 = x0 10 from rfl)) ((show x0 11 = x0 11 from rfl)) ((show x0 14 = x0 14 from rfl)) (hPD9.1) (hPD9.2) hS (lv_sub hl [6, 7, 8, 9, 2, 1, 5, 0] rfl)
            · have b18 : iv (-1) (-1) r8 := iv_eqL c12 ivk_m1
              refine lv_aload_n hx hb dX11_walk_98 rfl (lv_at hl 4 rfl) ?_
              refine lv_iconst (v := (-1)) hx hb dX11_walk_99 ic_m1 ?_
              refine va_put (D := (dC, dI)) (ci := 11) (v := .int (-1)) (ty := .int) (C := RX11) (T := TX11) (N := 61) hx hb hts hin11 tyX11 tyX11_ok nmX11 hown hK hP hD hS 1 rfl rfl 30 (by decide) hw_0 (fun _ h9 => h9) rfl (by decide +kernel) rfl rfl (Nat.le_of_ble_eq_true rfl) dX11_walk_100 (fun H locs hPa hDa hS => ?_)
              clear hP hD
              have hP : va_P (dC, dI) vwCl [(ra 7, .inl (kI, 24, .inl q_late)), (m0, .inr (11, oX11 ra (upd x0 15 (-1)))), (ra 2, .inl (kI, 8, .inl q_told)), (ra 3, .inl (kI, 24, .inl q_kind)), (ra 4, .inl (kI, 24, .inl q_salt)), (ra 8, .inl (kI, 40, .inl q_from)), (ra 9, .inl (kI, 40, .inl q_to)), (ra 10, .inl (kI, 6, .inl q_goal)), (ra 11, .inl (kI, 1019, .inl f10)), (ra 14, .inl (kI, 12, .inl q_reach))] H := hPa
              have hD : va_D A [(ra 7, .inl (kI, 24, .inl q_late)), (m0, .inr (11, oX11 ra (upd x0 15 (-1)))), (ra 2, .inl (kI, 8, .inl q_told)), (ra 3, .inl (kI, 24, .inl q_kind)), (ra 4, .inl (kI, 24, .inl q_salt)), (ra 8, .inl (kI, 40, .inl q_from)), (ra 9, .inl (kI, 40, .inl q_to)), (ra 10, .inl (kI, 6, .inl q_goal)), (ra 11, .inl (kI, 1019, .inl f10)), (ra 14, .inl (kI, 12, .inl q_reach))] := hDa
              clear hPa hDa
              have hPD9 := cl_s (wc := [(m0, .inr (11, oX11 ra (upd x0 15 (-1)))), (ra 2, .inl (kI, 8, .inl q_told)), (ra 3, .inl (kI, 24, .inl q_kind)), (ra 4, .inl (kI, 24, .inl q_salt)), (ra 7, .inl (kI, 24, .inl q_late)), (ra 8, .inl (kI, 40, .inl q_from)), (ra 9, .inl (kI, 40, .inl q_to)), (ra 10, .inl (kI, 6, .inl q_goal)), (ra 11, .inl (kI, 1019, .inl f10)), (ra 14, .inl (kI, 12, .inl q_reach))]) hP hD [1, 2, 3, 4, 0, 5, 6, 7, 8, 9] rfl (by decide +kernel)
              have hP9 := hPD9.1
              have hD9 := hPD9.2
              exact W.vret hx hb hr (fun t ht hW => ⟨⟨(), rfl, trivial, upd x0 15 (-1), f10, (fI_u hX (k := 15) ((iv_w ivk_m1 (by decide) (by decide)))), hq11, (show x0 1 = x0 1 from rfl), (show x0 10 = x0 10 from rfl), (show x0 11 = x0 11 from rfl), (show x0 14 = x0 14 from rfl), by rw [ht]; exact hP9, hD9⟩, hS.F ht⟩) hS.2.2 dX11_walk_103
          · have b19 : iv 0 0 (v12_loc6 + Int32.ofInt (-1)) := iv_eqL c7 ivk_0
            refine lv_iconst (v := 1) hx hb dX11_walk_45 ic_1 ?_
            refine lv_goto (tgt := 50) hx hb dX11_walk_46 rfl ?_
            refine lv_istore (lv' := [(8, .int 1), (6, .int (v12_loc6 + Int32.ofInt (-1))), (0, .ref m0), (1, .int p0), (2, .int p1), (3, .int p2), (4, .int v12_loc4), (5, .int v12_loc5), (7, .int v12_loc7)]) hx hb dX11_walk_50 hl (Nat.le_of_ble_eq_true rfl) rfl (fun ls hl => ?_)
            refine lv_iload hx hb dX11_walk_52 (lv_at hl 0 rfl) ?_
            refine lv_if_eq (tgt := 71) hx hb dX11_walk_54 rfl (fun c9 => absurd c9 (by decide)) (fun _ => ?_)
            refine lv_aload_n hx hb dX11_walk_57 rfl (lv_at hl 2 rfl) ?_
            refine va_get (D := (dC, dI)) (ci := 11) (v := .ref (ra 7)) (C := RX11) (T := TX11) (N := 61) hx hb hts hin11 hown hK hP 0 rfl rfl 8 (Nat.le_of_ble_eq_true rfl) hw_4 (fun _ h9 => h9) rfl dX11_walk_58 ?_
            refine lv_iload hx hb dX11_walk_61 (lv_at hl 6 rfl) ?_
            refine va_iald hx hb hK hP 4 1 rfl rfl (iv_in h12_2 (by decide) (by decide)) dX11_walk_63 ?_
            refine lv_topi (fun z20 _ => ?_)
            refine lv_if_ne (tgt := 71) hx hb dX11_walk_64 rfl (fun c21 => ?_) (fun c21 => ?_)
            · refine lv_iconst (v := 0) hx hb dX11_walk_71 ic_0 ?_
              refine lv_istore (lv' := [(7, .int 0), (8, .int 1), (6, .int (v12_loc6 + Int32.ofInt (-1))), (0, .ref m0), (1, .int p0), (2, .int p1), (3, .int p2), (4, .int v12_loc4), (5, .int v12_loc5)]) hx hb dX11_walk_72 hl (Nat.le_of_ble_eq_true rfl) rfl (fun ls hl => ?_)
              refine lv_iload hx hb dX11_walk_74 (lv_at hl 0 rfl) ?_
              refine lv_if_eq (tgt := 82) hx hb dX11_walk_76 rfl (fun _ => ?_) (fun c9 => absurd (by decide) c9)
              refine lv_aload_n hx hb dX11_walk_82 rfl (lv_at hl 3 rfl) ?_
              refine lv_iload hx hb dX11_walk_83 (lv_at hl 7 rfl) ?_
              refine lv_iload_n hx hb dX11_walk_85 rfl (lv_at hl 4 rfl) ?_
              refine lv_iload_n hx hb dX11_walk_86 rfl (lv_at hl 5 rfl) ?_
              obtain ⟨hPc, hDc, hFc, hJn⟩ := cl_a (wc := [(m0, .inr (11, oX11 ra x0)), (ra 2, .inl (kI, 8, .inl q_told)), (ra 3, .inl (kI, 24, .inl q_kind)), (ra 4, .inl (kI, 24, .inl q_salt)), (ra 8, .inl (kI, 40, .inl q_from)), (ra 9, .inl (kI, 40, .inl q_to)), (ra 10, .inl (kI, 6, .inl q_goal)), (ra 11, .inl (kI, 1019, .inl g12_8)), (ra 14, .inl (kI, 12, .inl q_reach))]) (wr := [(ra 7, .inl (kI, 24, .inl q_late))]) hP hD hS hA [0, 1, 2, 3, 5, 6, 7, 8, 9] [4] rfl rfl (by decide +kernel)
              refine va_calli (va_runV (As := [.int v12_loc4, .int p0, .int p1]) (rest := []) ⟨hx, hb, hml, hown, hts⟩ (s11_goesBy l dC dI kB kI kJ kZ kC kS H.size m0 ra x0 q_told q_kind q_salt q_from q_to q_goal g12_8 q_reach v12_loc4 p0 p1 (hX) (hq_told) (hq_salt) (hq_from) (hq_to) (hq_goal) (hI12_8) (h12_2) (hp0) (hp1)) (cwV 3 hts gX11_walk_X11_goesBy rfl rfl rfl (by decide +kernel) ⟨Nat.le_of_ble_eq_true rfl, Nat.le_of_ble_eq_true rfl⟩) ⟨fun a U g mk q => by obtain ⟨q0, q1, qP, qE, qD⟩ := q; exact ⟨q0, q1, qP, kE_call qE, qD⟩, va_recv hK hP (ci := 11) (q0 := 0) rfl rfl, fun U hU hW => ⟨rfl, by rw [hU], by rw [hU]; exact hPc, kE_warm hW hE, hDc.weaken (fun _ _ _ _ => trivial)⟩⟩ rfl rfl hl.1 rfl (lv_room (Nat.le_of_ble_eq_true rfl)) dX11_walk_87 ⟨Nat.le_of_ble_eq_true rfl, Nat.le_of_ble_eq_true rfl⟩) hS (fun q _ h => hFc q h) hFc (fun r22 u t H locs ht hvm w23 hB hz1 hk1 hS => ?_)
              obtain ⟨f24, hq25, hP1, hD1⟩ := hB
              try dsimp only at w23
              obtain ⟨hPa, hDa⟩ := hJn (w1 := [(m0, .inr (11, oX11 ra x0)), (ra 2, .inl (kI, 8, .inl q_told)), (ra 3, .inl (kI, 24, .inl q_kind)), (ra 4, .inl (kI, 24, .inl q_salt)), (ra 8, .inl (kI, 40, .inl q_from)), (ra 9, .inl (kI, 40, .inl q_to)), (ra 10, .inl (kI, 6, .inl q_goal)), (ra 11, .inl (kI, 1019, .inl f24)), (ra 14, .inl (kI, 12, .inl q_reach))]) hk1 ht hP1 hD1
              clear hP hD hPc hDc hFc hJn hP1 hD1 hk1
              have hP : va_P (dC, dI) vwCl [(ra 7, .inl (kI, 24, .inl q_late)), (m0, .inr (11, oX11 ra x0)), (ra 2, .inl (kI, 8, .inl q_told)), (ra 3, .inl (kI, 24, .inl q_kind)), (ra 4, .inl (kI, 24, .inl q_salt)), (ra 8, .inl (kI, 40, .inl q_from)), (ra 9, .inl (kI, 40, .inl q_to)), (ra 10, .inl (kI, 6, .inl q_goal)), (ra 11, .inl (kI, 1019, .inl f24)), (ra 14, .inl (kI, 12, .inl q_reach))] H := hPa
              have hD : va_D A [(ra 7, .inl (kI, 24, .inl q_late)), (m0, .inr (11, oX11 ra x0)), (ra 2, .inl (kI, 8, .inl q_told)), (ra 3, .inl (kI, 24, .inl q_kind)), (ra 4, .inl (kI, 24, .inl q_salt)), (ra 8, .inl (kI, 40, .inl q_from)), (ra 9, .inl (kI, 40, .inl q_to)), (ra 10, .inl (kI, 6, .inl q_goal)), (ra 11, .inl (kI, 1019, .inl f24)), (ra 14, .inl (kI, 12, .inl q_reach))] := hDa
              clear hPa hDa
              refine W.widen (k := 0) (n := 0) (Nat.le_of_ble_eq_true rfl) (Nat.le_of_ble_eq_true rfl) ?_
              refine lv_istore (lv' := [(9, .int r22), (7, .int 0), (8, .int 1), (6, .int (v12_loc6 + Int32.ofInt (-1))), (0, .ref m0), (1, .int p0), (2, .int p1), (3, .int p2), (4, .int v12_loc4), (5, .int v12_loc5)]) hx hb dX11_walk_90 hl (Nat.le_of_ble_eq_true rfl) rfl (fun ls hl => ?_)
              refine lv_iload hx hb dX11_walk_92 (lv_at hl 0 rfl) ?_
              refine lv_iconst (v := (-1)) hx hb dX11_walk_94 ic_m1 ?_
              refine lv_icmp_ne (tgt := 104) hx hb dX11_walk_95 rfl (fun c26 => ?_) (fun c26 => ?_)
              · have b27 : iv 0 19 r22 := iv_neLo c26 w23.1 ivk_m1 (by decide) (by decide)
                have hr28 : q_from r22.toNatClampNeg = v12_loc4 ∧ r22.toInt < (q_told 1).toInt := (w23.2).resolve_left (iv_ne b27 ivk_m1 (by decide))
                refine lv_aload_n hx hb dX11_walk_104 rfl (lv_at hl 4 rfl) ?_
                refine va_get (D := (dC, dI)) (ci := 11) (v := .ref (ra 9)) (C := RX11) (T := TX11) (N := 61) hx hb hts hin11 hown hK hP 1 rfl rfl 10 (Nat.le_of_ble_eq_true rfl) hw_3 (fun _ h9 => h9) rfl dX11_walk_105 ?_
                refine lv_iload hx hb dX11_walk_108 (lv_at hl 0 rfl) ?_
                refine va_iald hx hb hK hP 6 1 rfl rfl (iv_in b27 (by decide) (by decide)) dX11_walk_110 ?_
                have b29 : iv 0 11 (q_to r22.toNatClampNeg) := hq_to _
                refine lv_istore (lv' := [(4, .int (q_to r22.toNatClampNeg)), (9, .int r22), (7, .int 0), (8, .int 1), (6, .int (v12_loc6 + Int32.ofInt (-1))), (0, .ref m0), (1, .int p0), (2, .int p1), (3, .int p2), (5, .int v12_loc5)]) hx hb dX11_walk_111 hl (Nat.le_of_ble_eq_true rfl) rfl (fun ls hl => ?_)
                refine lv_iload hx hb dX11_walk_113 (lv_at hl 1 rfl) ?_
                refine lv_iconst (v := 1) hx hb dX11_walk_115 ic_1 ?_
                refine lv_iadd hx hb dX11_walk_116 ?_
                refine iv_top (a := 1) (b := 20) (iv_add b27 ivk_1 (by decide) (by decide) (by decide) (by decide)) (fun z30 b31 => ?_)
                refine lv_istore (lv' := [(5, .int z30), (4, .int (q_to r22.toNatClampNeg)), (9, .int r22), (7, .int 0), (8, .int 1), (6, .int (v12_loc6 + Int32.ofInt (-1))), (0, .ref m0), (1, .int p0), (2, .int p1), (3, .int p2)]) hx hb dX11_walk_117 hl (Nat.le_of_ble_eq_true rfl) rfl (fun ls hl => ?_)
                refine lv_iload hx hb dX11_walk_119 (lv_at hl 4 rfl) ?_
                refine lv_istore (lv' := [(7, .int 1), (5, .int z30), (4, .int (q_to r22.toNatClampNeg)), (9, .int r22), (8, .int 1), (6, .int (v12_loc6 + Int32.ofInt (-1))), (0, .ref m0), (1, .int p0), (2, .int p1), (3, .int p2)]) hx hb dX11_walk_121 hl (Nat.le_of_ble_eq_true rfl) rfl (fun ls hl => ?_)
                refine lv_goto (tgt := 12) hx hb dX11_walk_123 rfl ?_
                have hPD9 := cl_s (wc := [(m0, .inr (11, oX11 ra x0)), (ra 2, .inl (kI, 8, .inl q_told)), (ra 3, .inl (kI, 24, .inl q_kind)), (ra 4, .inl (kI, 24, .inl q_salt)), (ra 7, .inl (kI, 24, .inl q_late)), (ra 8, .inl (kI, 40, .inl q_from)), (ra 9, .inl (kI, 40, .inl q_to)), (ra 10, .inl (kI, 6, .inl q_goal)), (ra 11, .inl (kI, 1019, .inl f24)), (ra 14, .inl (kI, 12, .inl q_reach))]) hP hD [1, 2, 3, 4, 0, 5, 6, 7, 8, 9] rfl (by decide +kernel)
                exact ih12 f24 (q_to r22.toNatClampNeg) z30 (v12_loc6 + Int32.ofInt (-1)) 1 _ _ _ (by have q1 := h12_2; have q2 := q1.1; have q3 := q1.2; have q4 := ivk_1; have q5 := q4.1; have q6 := q4.2; have q7 := b3; have q8 := q7.1; have q9 := q7.2; have k1 := hr28; have k2 := hLT r22.toNatClampNeg (by have k3 := k1.2; rw [cl_nat b27 (by decide)]; exact k3); rw [k1.1] at k2; have hm := hm12; omega) (hq25) (b29) ((iv_w b31 (by decide) (by decide))) ((iv_w ivk_1 (by decide) (by decide))) ((show x0 1 = x0 1 from rfl)) ((show x0 10 = x0 10 from rfl)) ((show x0 11 = x0 11 from rfl)) ((show x0 14 = x0 14 from rfl)) (hPD9.1) (hPD9.2) hS (lv_sub hl [6, 7, 8, 9, 2, 1, 5, 0] rfl)
              · have b32 : iv (-1) (-1) r22 := iv_eqL c26 ivk_m1
                refine lv_aload_n hx hb dX11_walk_98 rfl (lv_at hl 4 rfl) ?_
                refine lv_iconst (v := (-1)) hx hb dX11_walk_99 ic_m1 ?_
                refine va_put (D := (dC, dI)) (ci := 11) (v := .int (-1)) (ty := .int) (C := RX11) (T := TX11) (N := 61) hx hb hts hin11 tyX11 tyX11_ok nmX11 hown hK hP hD hS 1 rfl rfl 30 (by decide) hw_0 (fun _ h9 => h9) rfl (by decide +kernel) rfl rfl (Nat.le_of_ble_eq_true rfl) dX11_walk_100 (fun H locs hPa hDa hS => ?_)
                clear hP hD
                have hP : va_P (dC, dI) vwCl [(ra 7, .inl (kI, 24, .inl q_late)), (m0, .inr (11, oX11 ra (upd x0 15 (-1)))), (ra 2, .inl (kI, 8, .inl q_told)), (ra 3, .inl (kI, 24, .inl q_kind)), (ra 4, .inl (kI, 24, .inl q_salt)), (ra 8, .inl (kI, 40, .inl q_from)), (ra 9, .inl (kI, 40, .inl q_to)), (ra 10, .inl (kI, 6, .inl q_goal)), (ra 11, .inl (kI, 1019, .inl f24)), (ra 14, .inl (kI, 12, .inl q_reach))] H := hPa
                have hD : va_D A [(ra 7, .inl (kI, 24, .inl q_late)), (m0, .inr (11, oX11 ra (upd x0 15 (-1)))), (ra 2, .inl (kI, 8, .inl q_told)), (ra 3, .inl (kI, 24, .inl q_kind)), (ra 4, .inl (kI, 24, .inl q_salt)), (ra 8, .inl (kI, 40, .inl q_from)), (ra 9, .inl (kI, 40, .inl q_to)), (ra 10, .inl (kI, 6, .inl q_goal)), (ra 11, .inl (kI, 1019, .inl f24)), (ra 14, .inl (kI, 12, .inl q_reach))] := hDa
                clear hPa hDa
                have hPD9 := cl_s (wc := [(m0, .inr (11, oX11 ra (upd x0 15 (-1)))), (ra 2, .inl (kI, 8, .inl q_told)), (ra 3, .inl (kI, 24, .inl q_kind)), (ra 4, .inl (kI, 24, .inl q_salt)), (ra 7, .inl (kI, 24, .inl q_late)), (ra 8, .inl (kI, 40, .inl q_from)), (ra 9, .inl (kI, 40, .inl q_to)), (ra 10, .inl (kI, 6, .inl q_goal)), (ra 11, .inl (kI, 1019, .inl f24)), (ra 14, .inl (kI, 12, .inl q_reach))]) hP hD [1, 2, 3, 4, 0, 5, 6, 7, 8, 9] rfl (by decide +kernel)
                have hP9 := hPD9.1
                have hD9 := hPD9.2
                exact W.vret hx hb hr (fun t ht hW => ⟨⟨(), rfl, trivial, upd x0 15 (-1), f24, (fI_u hX (k := 15) ((iv_w ivk_m1 (by decide) (by decide)))), hq25, (show x0 1 = x0 1 from rfl), (show x0 10 = x0 10 from rfl), (show x0 11 = x0 11 from rfl), (show x0 14 = x0 14 from rfl), by rw [ht]; exact hP9, hD9⟩, hS.F ht⟩) hS.2.2 dX11_walk_103
            · have b33 : iv 0 0 z20 := iv_eqL c21 ivk_0
              refine lv_iconst (v := 1) hx hb dX11_walk_67 ic_1 ?_
              refine lv_goto (tgt := 72) hx hb dX11_walk_68 rfl ?_
              refine lv_istore (lv' := [(7, .int 1), (8, .int 1), (6, .int (v12_loc6 + Int32.ofInt (-1))), (0, .ref m0), (1, .int p0), (2, .int p1), (3, .int p2), (4, .int v12_loc4), (5, .int v12_loc5)]) hx hb dX11_walk_72 hl (Nat.le_of_ble_eq_true rfl) rfl (fun ls hl => ?_)
              refine lv_iload hx hb dX11_walk_74 (lv_at hl 0 rfl) ?_
              refine lv_if_eq (tgt := 82) hx hb dX11_walk_76 rfl (fun c9 => absurd c9 (by decide)) (fun _ => ?_)
              refine lv_goto (tgt := 12) hx hb dX11_walk_79 rfl ?_
              exact ih12 g12_8 v12_loc4 v12_loc5 (v12_loc6 + Int32.ofInt (-1)) 1 _ _ _ (by have q1 := h12_2; have q2 := q1.1; have q3 := q1.2; have q4 := ivk_1; have q5 := q4.1; have q6 := q4.2; have q7 := b3; have q8 := q7.1; have q9 := q7.2; have hm := hm12; omega) (hI12_8) (h12_2) (h12_3) ((iv_w ivk_1 (by decide) (by decide))) ((show x0 1 = x0 1 from rfl)) ((show x0 10 = x0 10 from rfl)) ((show x0 11 = x0 11 from rfl)) ((show x0 14 = x0 14 from rfl)) (hP) (hD) hS (lv_sub hl [3, 4, 5, 6, 7, 8, 2, 0] rfl)
        · refine lv_iconst (v := 1) hx hb dX11_walk_31 ic_1 ?_
          refine lv_istore (lv' := [(7, .int 1), (8, .int 0), (0, .ref m0), (1, .int p0), (2, .int p1), (3, .int p2), (4, .int v12_loc4), (5, .int v12_loc5), (6, .int v12_loc6)]) hx hb dX11_walk_32 hl (Nat.le_of_ble_eq_true rfl) rfl (fun ls hl => ?_)
          refine lv_goto (tgt := 74) hx hb dX11_walk_34 rfl ?_
          refine lv_iload hx hb dX11_walk_74 (lv_at hl 0 rfl) ?_
          refine lv_if_eq (tgt := 82) hx hb dX11_walk_76 rfl (fun c9 => absurd c9 (by decide)) (fun _ => ?_)
          refine lv_goto (tgt := 12) hx hb dX11_walk_79 rfl ?_
          exact ih12 g12_8 v12_loc4 v12_loc5 v12_loc6 1 _ _ _ (by have q1 := h12_2; have q2 := q1.1; have q3 := q1.2; have q4 := ivk_1; have q5 := q4.1; have q6 := q4.2; have q7 := b3; have q8 := q7.1; have q9 := q7.2; have hm := hm12; omega) (hI12_8) (h12_2) (h12_3) ((iv_w ivk_1 (by decide) (by decide))) ((show x0 1 = x0 1 from rfl)) ((show x0 10 = x0 10 from rfl)) ((show x0 11 = x0 11 from rfl)) ((show x0 14 = x0 14 from rfl)) (hP) (hD) hS (lv_sub hl [2, 3, 4, 5, 6, 7, 8, 0] rfl)
  refine lv_iconst (v := 0) hx hb dX11_walk_0 ic_0 ?_
  refine lv_istore (lv' := [(4, .int 0), (0, .ref m0), (1, .int p0), (2, .int p1), (3, .int p2)]) hx hb dX11_walk_1 hl (Nat.le_of_ble_eq_true rfl) rfl (fun ls hl => ?_)
  refine lv_iconst (v := 0) hx hb dX11_walk_3 ic_0 ?_
  refine lv_istore (lv' := [(5, .int 0), (4, .int 0), (0, .ref m0), (1, .int p0), (2, .int p1), (3, .int p2)]) hx hb dX11_walk_4 hl (Nat.le_of_ble_eq_true rfl) rfl (fun ls hl => ?_)
  refine lv_iload_n hx hb dX11_walk_6 rfl (lv_at hl 5 rfl) ?_
  refine lv_istore (lv' := [(6, .int p2), (5, .int 0), (4, .int 0), (0, .ref m0), (1, .int p0), (2, .int p1), (3, .int p2)]) hx hb dX11_walk_7 hl (Nat.le_of_ble_eq_true rfl) rfl (fun ls hl => ?_)
  refine lv_iconst (v := 0) hx hb dX11_walk_9 ic_0 ?_
  refine lv_istore (lv' := [(7, .int 0), (6, .int p2), (5, .int 0), (4, .int 0), (0, .ref m0), (1, .int p0), (2, .int p1), (3, .int p2)]) hx hb dX11_walk_10 hl (Nat.le_of_ble_eq_true rfl) rfl (fun ls hl => ?_)
  exact hJ12 _ q_now 0 0 p2 0 _ _ _ (Nat.lt_succ_self _) (hq_now) ((iv_w ivk_0 (by decide) (by decide))) ((iv_w ivk_0 (by decide) (by decide))) ((iv_w ivk_0 (by decide) (by decide))) ((show x0 1 = x0 1 from rfl)) ((show x0 10 = x0 10 from rfl)) ((show x0 11 = x0 11 from rfl)) ((show x0 14 = x0 14 from rfl)) (hP) (hD) hS (lv_sub hl [4, 5, 6, 7, 3, 2, 1, 0] rfl)
def rm_s11_answers : Room := { frames := 0, cells := 0, slots := 0, locals := 0 }
set_option maxHeartbeats 4000000 in
set_option maxRecDepth 100000 in
theorem s11_answers (l : Launch) (dC : Nat → ClassId) (dI : Nat → Nat → Nat) (kB kI kJ kZ kC kS : ClassId) (sz : Nat) (m0 : Nat) (ra : Nat → Nat) (x0 : Nat → Int32) (q_mute : Nat → Int32) (q_goal : Nat → Int32) (p0 : Int32) (hX : fI lX11 hX11 x0) (hq_goal : fI (fun _ => 0) (fun _ => 11) q_goal) (hp0 : iv 0 2 p0) : Met l yX11_answers wsX11_answers rm_s11_answers (va_Pc [.ref m0, .int p0] (fun U => U.heap.size = sz ∧ va_P (dC, dI) vwCl [(m0, .inr (11, oX11 ra x0)), (ra 6, .inl (kI, 24, .inl q_mute)), (ra 10, .inl (kI, 6, .inl q_goal))] U.heap ∧ kE dC dI kB kI kJ kZ kC kS U ∧ va_D (fun _ => True) [(m0, .inr (11, oX11 ra x0)), (ra 6, .inl (kI, 24, .inl q_mute)), (ra 10, .inl (kI, 6, .inl q_goal))])) (va_Qi (fun (r : Int32) (_ : Unit) => iv 0 1 r ∧ (r = 0 ∨ iv 0 11 (x0 15))) (fun _ t => va_P (dC, dI) vwCl [(m0, .inr (11, oX11 ra x0)), (ra 6, .inl (kI, 24, .inl q_mute)), (ra 10, .inl (kI, 6, .inl q_goal))] t.heap ∧ va_D (va_A [(m0, .inr (11, oX11 ra x0)), (ra 6, .inl (kI, 24, .inl q_mute)), (ra 10, .inl (kI, 6, .inl q_goal))] sz) [(m0, .inr (11, oX11 ra x0)), (ra 6, .inl (kI, 24, .inl q_mute)), (ra 10, .inl (kI, 6, .inl q_goal))]) (va_A [(m0, .inr (11, oX11 ra x0)), (ra 6, .inl (kI, 24, .inl q_mute)), (ra 10, .inl (kI, 6, .inl q_goal))] sz)) 0 0 (va_A [(m0, .inr (11, oX11 ra x0)), (ra 6, .inl (kI, 24, .inl q_mute)), (ra 10, .inl (kI, 6, .inl q_goal))] sz) := by
  refine Met.ofW (cc := cX11_answers) (maxL := 2) (ret := (some .boolean)) (by decide) rfl ?_
  intro p e s m args0 below meth c s₁ B hml hv
  obtain ⟨hargs, hsz, hP, hE, hD0⟩ := hv
  have hx := B.exec
  have hb := B.bytes
  have hr := B.returns
  have hts := atoms_spec (ws := wsX11_answers) B.pre
  have hown : s.vm.findClass RX11 = some m.cls := findClass_of_methodNamed B.named
  have hlocks := B.notSynchronized
  have hK := hE.1
  have hin11 : ∀ w ∈ wsX110, w ∈ wsX11_answers := fun _ h9 => List.mem_cons_of_mem _ (List.mem_append_right _ h9)
  have hw_0 := hts (.fieldLink RX11 292 "PathProberModel" "endRouter" "I") (List.mem_of_getElem? (i := 1) rfl)
  have hw_1 := hts (.fieldLink RX11 47 "PathProberModel" "mute" "[I") (List.mem_of_getElem? (i := 2) rfl)
  have hw_2 := hts (.fieldLink RX11 58 "PathProberModel" "goal" "[I") (List.mem_of_getElem? (i := 3) rfl)
  subst hsz
  have hD := hD0.self (sz := s.heap.size)
  generalize hAe : va_A [(m0, .inr (11, oX11 ra x0)), (ra 6, .inl (kI, 24, .inl q_mute)), (ra 10, .inl (kI, 6, .inl q_goal))] s.heap.size = A at hD ⊢
  have hA : ∀ q : Nat, s.heap.size ≤ q → A q := fun q h => by rw [← hAe]; exact Or.inr h
  have hS : va_S A s.heap s.heap [] := va_S.rf
  have hP : va_P (dC, dI) vwCl [(m0, .inr (11, oX11 ra x0)), (ra 6, .inl (kI, 24, .inl q_mute)), (ra 10, .inl (kI, 6, .inl q_goal))] s.heap := hP
  have hl := lv_entry ([.ref m0, .int p0]) (n := 2) (Nat.le_of_ble_eq_true rfl)
  have hla : entryFrame m args0 2 = entryFrame m ([.ref m0, .int p0] : List Value).toArray 2 := by rw [hargs]
  rw [hla, lg_entry_eq]
  generalize (lg_sl ([.ref m0, .int p0]) ++ List.replicate (2 - (lg_sl ([.ref m0, .int p0])).length) Slot.unset).toArray = ls at hl ⊢
  have hl : lv_has ls 2 [(0, .ref m0), (1, .int p0)] := hl
  refine lv_aload_n hx hb dX11_answers_0 rfl (lv_at hl 0 rfl) ?_
  refine va_get (D := (dC, dI)) (ci := 11) (v := .int (x0 15)) (C := RX11) (T := TX11) (N := 61) hx hb hts hin11 hown hK hP 0 rfl rfl 30 (Nat.le_of_ble_eq_true rfl) hw_0 (fun _ h9 => h9) rfl dX11_answers_1 ?_
  refine lv_iconst (v := (-1)) hx hb dX11_answers_4 ic_m1 ?_
  refine lv_icmp_eq (tgt := 37) hx hb dX11_answers_5 rfl (fun c1 => ?_) (fun c1 => ?_)
  · have b2 : iv (-1) (-1) (x0 15) := iv_eqL c1 ivk_m1
    refine lv_iconst (v := 0) hx hb dX11_answers_37 ic_0 ?_
    have hP9 := hP
    have hD9 := hD
    exact W.zret (v := 0) (ty := .boolean) hx hb hr rfl (fun t ht hW => ⟨⟨0, (), rfl, ⟨(iv_w ivk_0 (by decide) (by decide)), Or.inl rfl⟩, by rw [ht]; exact hP9, hD9⟩, hS.F ht⟩) hS.2.2 dX11_answers_38
  · have b3 : iv 0 11 (x0 15) := iv_neLo c1 (hX 15 : iv (-1) 11 (x0 15)) ivk_m1 (by decide) (by decide)
    refine lv_aload_n hx hb dX11_answers_8 rfl (lv_at hl 0 rfl) ?_
    refine va_get (D := (dC, dI)) (ci := 11) (v := .ref (ra 6)) (C := RX11) (T := TX11) (N := 61) hx hb hts hin11 hown hK hP 0 rfl rfl 7 (Nat.le_of_ble_eq_true rfl) hw_1 (fun _ h9 => h9) rfl dX11_answers_9 ?_
    refine lv_aload_n hx hb dX11_answers_12 rfl (lv_at hl 0 rfl) ?_
    refine va_get (D := (dC, dI)) (ci := 11) (v := .int (x0 15)) (C := RX11) (T := TX11) (N := 61) hx hb hts hin11 hown hK hP 0 rfl rfl 30 (Nat.le_of_ble_eq_true rfl) hw_0 (fun _ h9 => h9) rfl dX11_answers_13 ?_
    refine va_iald hx hb hK hP 1 1 rfl rfl (iv_in b3 (by decide) (by decide)) dX11_answers_16 ?_
    refine lv_topi (fun z4 _ => ?_)
    refine lv_if_eq (tgt := 33) hx hb dX11_answers_17 rfl (fun c5 => ?_) (fun c5 => ?_)
    · have b6 : iv 0 0 z4 := iv_eqL c5 ivk_0
      refine lv_iconst (v := 1) hx hb dX11_answers_33 ic_1 ?_
      refine lv_goto (tgt := 38) hx hb dX11_answers_34 rfl ?_
      have hP9 := hP
      have hD9 := hD
      exact W.zret (v := 1) (ty := .boolean) hx hb hr rfl (fun t ht hW => ⟨⟨1, (), rfl, ⟨(iv_w ivk_1 (by decide) (by decide)), Or.inr (b3)⟩, by rw [ht]; exact hP9, hD9⟩, hS.F ht⟩) hS.2.2 dX11_answers_38
    · refine lv_aload_n hx hb dX11_answers_20 rfl (lv_at hl 0 rfl) ?_
      refine va_get (D := (dC, dI)) (ci := 11) (v := .int (x0 15)) (C := RX11) (T := TX11) (N := 61) hx hb hts hin11 hown hK hP 0 rfl rfl 30 (Nat.le_of_ble_eq_true rfl) hw_0 (fun _ h9 => h9) rfl dX11_answers_21 ?_
      refine lv_aload_n hx hb dX11_answers_24 rfl (lv_at hl 0 rfl) ?_
      refine va_get (D := (dC, dI)) (ci := 11) (v := .ref (ra 10)) (C := RX11) (T := TX11) (N := 61) hx hb hts hin11 hown hK hP 0 rfl rfl 11 (Nat.le_of_ble_eq_true rfl) hw_2 (fun _ h9 => h9) rfl dX11_answers_25 ?_
      refine lv_iload_n hx hb dX11_answers_28 rfl (lv_at hl 1 rfl) ?_
      refine va_iald hx hb hK hP 2 1 rfl rfl (iv_in hp0 (by decide) (by decide)) dX11_answers_29 ?_
      refine iv_top (a := 0) (b := 11) (hq_goal _) (fun z7 b8 => ?_)
      refine lv_icmp_ne (tgt := 37) hx hb dX11_answers_30 rfl (fun c9 => ?_) (fun c9 => ?_)
      · refine lv_iconst (v := 0) hx hb dX11_answers_37 ic_0 ?_
        have hP9 := hP
        have hD9 := hD
        exact W.zret (v := 0) (ty := .boolean) hx hb hr rfl (fun t ht hW => ⟨⟨0, (), rfl, ⟨(iv_w ivk_0 (by decide) (by decide)), Or.inl rfl⟩, by rw [ht]; exact hP9, hD9⟩, hS.F ht⟩) hS.2.2 dX11_answers_38
      · refine lv_iconst (v := 1) hx hb dX11_answers_33 ic_1 ?_
        refine lv_goto (tgt := 38) hx hb dX11_answers_34 rfl ?_
        have hP9 := hP
        have hD9 := hD
        exact W.zret (v := 1) (ty := .boolean) hx hb hr rfl (fun t ht hW => ⟨⟨1, (), rfl, ⟨(iv_w ivk_1 (by decide) (by decide)), Or.inr (b3)⟩, by rw [ht]; exact hP9, hD9⟩, hS.F ht⟩) hS.2.2 dX11_answers_38
def rm_s11_wholeWay : Room := { frames := 3, cells := 0, slots := 0, locals := 76 }
set_option maxHeartbeats 4000000 in
set_option maxRecDepth 100000 in
theorem s11_wholeWay (l : Launch) (dC : Nat → ClassId) (dI : Nat → Nat → Nat) (kB kI kJ kZ kC kS : ClassId) (sz : Nat) (m0 : Nat) (ra : Nat → Nat) (x0 : Nat → Int32) (q_told : Nat → Int32) (q_kind : Nat → Int32) (q_salt : Nat → Int32) (q_from : Nat → Int32) (q_to : Nat → Int32) (q_goal : Nat → Int32) (q_now : Nat → Int32) (q_reach : Nat → Int32) (p0 : Int32) (p1 : Int32) (hX : fI lX11 hX11 x0) (hq_told : fI lTold hTold q_told) (hq_salt : fI (fun _ => 0) (fun _ => 15) q_salt) (hq_from : fI (fun _ => 0) (fun _ => 11) q_from) (hq_to : fI (fun _ => 0) (fun _ => 11) q_to) (hq_goal : fI (fun _ => 0) (fun _ => 11) q_goal) (hq_now : fI lNow hNow q_now) (hp0 : iv 0 31 p0) (hp1 : iv 0 2 p1) (hLT : ∀ j : Nat, (j : Int) < (q_told 1).toInt → (q_from j).toInt < (q_to j).toInt) : Met l yX11_wholeWay wsX11_wholeWay rm_s11_wholeWay (va_Pc [.ref m0, .int p0, .int p1] (fun U => U.heap.size = sz ∧ va_P (dC, dI) vwCl [(m0, .inr (11, oX11 ra x0)), (ra 2, .inl (kI, 8, .inl q_told)), (ra 3, .inl (kI, 24, .inl q_kind)), (ra 4, .inl (kI, 24, .inl q_salt)), (ra 8, .inl (kI, 40, .inl q_from)), (ra 9, .inl (kI, 40, .inl q_to)), (ra 10, .inl (kI, 6, .inl q_goal)), (ra 11, .inl (kI, 1019, .inl q_now)), (ra 14, .inl (kI, 12, .inl q_reach))] U.heap ∧ kE dC dI kB kI kJ kZ kC kS U ∧ va_D (fun _ => True) [(m0, .inr (11, oX11 ra x0)), (ra 2, .inl (kI, 8, .inl q_told)), (ra 3, .inl (kI, 24, .inl q_kind)), (ra 4, .inl (kI, 24, .inl q_salt)), (ra 8, .inl (kI, 40, .inl q_from)), (ra 9, .inl (kI, 40, .inl q_to)), (ra 10, .inl (kI, 6, .inl q_goal)), (ra 11, .inl (kI, 1019, .inl q_now)), (ra 14, .inl (kI, 12, .inl q_reach))])) (va_Qv (fun (_ : Unit) => True) (fun _ t => ∃ (x0' : Nat → Int32) (q_now' : Nat → Int32), fI lX11 hX11 x0' ∧ fI lNow hNow q_now' ∧ (x0' 1 = x0 1) ∧ (x0' 10 = x0 10) ∧ (x0' 11 = x0 11) ∧ (x0' 14 = x0 14) ∧ va_P (dC, dI) vwCl [(m0, .inr (11, oX11 ra x0')), (ra 2, .inl (kI, 8, .inl q_told)), (ra 3, .inl (kI, 24, .inl q_kind)), (ra 4, .inl (kI, 24, .inl q_salt)), (ra 8, .inl (kI, 40, .inl q_from)), (ra 9, .inl (kI, 40, .inl q_to)), (ra 10, .inl (kI, 6, .inl q_goal)), (ra 11, .inl (kI, 1019, .inl q_now')), (ra 14, .inl (kI, 12, .inl q_reach))] t.heap ∧ va_D (va_A [(m0, .inr (11, oX11 ra x0)), (ra 2, .inl (kI, 8, .inl q_told)), (ra 3, .inl (kI, 24, .inl q_kind)), (ra 4, .inl (kI, 24, .inl q_salt)), (ra 8, .inl (kI, 40, .inl q_from)), (ra 9, .inl (kI, 40, .inl q_to)), (ra 10, .inl (kI, 6, .inl q_goal)), (ra 11, .inl (kI, 1019, .inl q_now)), (ra 14, .inl (kI, 12, .inl q_reach))] sz) [(m0, .inr (11, oX11 ra x0')), (ra 2, .inl (kI, 8, .inl q_told)), (ra 3, .inl (kI, 24, .inl q_kind)), (ra 4, .inl (kI, 24, .inl q_salt)), (ra 8, .inl (kI, 40, .inl q_from)), (ra 9, .inl (kI, 40, .inl q_to)), (ra 10, .inl (kI, 6, .inl q_goal)), (ra 11, .inl (kI, 1019, .inl q_now')), (ra 14, .inl (kI, 12, .inl q_reach))]) (va_A [(m0, .inr (11, oX11 ra x0)), (ra 2, .inl (kI, 8, .inl q_told)), (ra 3, .inl (kI, 24, .inl q_kind)), (ra 4, .inl (kI, 24, .inl q_salt)), (ra 8, .inl (kI, 40, .inl q_from)), (ra 9, .inl (kI, 40, .inl q_to)), (ra 10, .inl (kI, 6, .inl q_goal)), (ra 11, .inl (kI, 1019, .inl q_now)), (ra 14, .inl (kI, 12, .inl q_reach))] sz)) 0 0 (va_A [(m0, .inr (11, oX11 ra x0)), (ra 2, .inl (kI, 8, .inl q_told)), (ra 3, .inl (kI, 24, .inl q_kind)), (ra 4, .inl (kI, 24, .inl q_salt)), (ra 8, .inl (kI, 40, .inl q_from)), (ra 9, .inl (kI, 40, .inl q_to)), (ra 10, .inl (kI, 6, .inl q_goal)), (ra 11, .inl (kI, 1019, .inl q_now)), (ra 14, .inl (kI, 12, .inl q_reach))] sz) := by
  refine Met.ofW (cc := cX11_wholeWay) (maxL := 7) (ret := none) (by decide) rfl ?_
  intro p e s m args0 below meth c s₁ B hml hv
  obtain ⟨hargs, hsz, hP, hE, hD0⟩ := hv
  have hx := B.exec
  have hb := B.bytes
  have hr := B.returns
  have hts := atoms_spec (ws := wsX11_wholeWay) B.pre
  have hown : s.vm.findClass RX11 = some m.cls := findClass_of_methodNamed B.named
  have hlocks := B.notSynchronized
  have hK := hE.1
  have hin11 : ∀ w ∈ wsX110, w ∈ wsX11_wholeWay := fun _ h9 => List.mem_cons_of_mem _ (List.mem_append_right _ h9)
  have hw_0 := hts (.fieldLink RX11 58 "PathProberModel" "goal" "[I") (List.mem_of_getElem? (i := 3) rfl)
  have hw_1 := hts (.fieldLink RX11 443 "PathProberModel" "wayAddress" "I") (List.mem_of_getElem? (i := 2) rfl)
  have hw_2 := hts (.fieldLink RX11 440 "PathProberModel" "wayLinks" "I") (List.mem_of_getElem? (i := 1) rfl)
  have hw_3 := hts (.fieldLink RX11 56 "PathProberModel" "to" "[I") (List.mem_of_getElem? (i := 4) rfl)
  subst hsz
  have hD := hD0.self (sz := s.heap.size)
  generalize hAe : va_A [(m0, .inr (11, oX11 ra x0)), (ra 2, .inl (kI, 8, .inl q_told)), (ra 3, .inl (kI, 24, .inl q_kind)), (ra 4, .inl (kI, 24, .inl q_salt)), (ra 8, .inl (kI, 40, .inl q_from)), (ra 9, .inl (kI, 40, .inl q_to)), (ra 10, .inl (kI, 6, .inl q_goal)), (ra 11, .inl (kI, 1019, .inl q_now)), (ra 14, .inl (kI, 12, .inl q_reach))] s.heap.size = A at hD ⊢
  have hA : ∀ q : Nat, s.heap.size ≤ q → A q := fun q h => by rw [← hAe]; exact Or.inr h
  have hS : va_S A s.heap s.heap [] := va_S.rf
  have hP : va_P (dC, dI) vwCl [(m0, .inr (11, oX11 ra x0)), (ra 2, .inl (kI, 8, .inl q_told)), (ra 3, .inl (kI, 24, .inl q_kind)), (ra 4, .inl (kI, 24, .inl q_salt)), (ra 8, .inl (kI, 40, .inl q_from)), (ra 9, .inl (kI, 40, .inl q_to)), (ra 10, .inl (kI, 6, .inl q_goal)), (ra 11, .inl (kI, 1019, .inl q_now)), (ra 14, .inl (kI, 12, .inl q_reach))] s.heap := hP
  have hl := lv_entry ([.ref m0, .int p0, .int p1]) (n := 7) (Nat.le_of_ble_eq_true rfl)
  have hla : entryFrame m args0 7 = entryFrame m ([.ref m0, .int p0, .int p1] : List Value).toArray 7 := by rw [hargs]
  rw [hla, lg_entry_eq]
  generalize (lg_sl ([.ref m0, .int p0, .int p1]) ++ List.replicate (7 - (lg_sl ([.ref m0, .int p0, .int p1])).length) Slot.unset).toArray = ls at hl ⊢
  have hl : lv_has ls 7 [(0, .ref m0), (1, .int p0), (2, .int p1)] := hl
  have hJ18 : ∀ (n : Nat) (y18_0 : Nat → Int32) (g18_7 : Nat → Int32) (v18_loc3 : Int32) (v18_loc4 : Int32) (v18_loc5 : Int32) (H : Heap) (locs : List Loc) (ls : Array Slot), (12 - v18_loc3.toInt).toNat < n → fI lX11 hX11 y18_0 → fI lNow hNow g18_7 → iv 0 11 v18_loc3 → iv 0 20 v18_loc4 → iv (-1) 20 v18_loc5 → iv (-1) (-1) (y18_0 20) → (y18_0 1 = x0 1) → (y18_0 10 = x0 10) → (y18_0 11 = x0 11) → (y18_0 14 = x0 14) → va_P (dC, dI) vwCl [(m0, .inr (11, oX11 ra y18_0)), (ra 2, .inl (kI, 8, .inl q_told)), (ra 3, .inl (kI, 24, .inl q_kind)), (ra 4, .inl (kI, 24, .inl q_salt)), (ra 8, .inl (kI, 40, .inl q_from)), (ra 9, .inl (kI, 40, .inl q_to)), (ra 10, .inl (kI, 6, .inl q_goal)), (ra 11, .inl (kI, 1019, .inl g18_7)), (ra 14, .inl (kI, 12, .inl q_reach))] H → va_D A [(m0, .inr (11, oX11 ra y18_0)), (ra 2, .inl (kI, 8, .inl q_told)), (ra 3, .inl (kI, 24, .inl q_kind)), (ra 4, .inl (kI, 24, .inl q_salt)), (ra 8, .inl (kI, 40, .inl q_from)), (ra 9, .inl (kI, 40, .inl q_to)), (ra 10, .inl (kI, 6, .inl q_goal)), (ra 11, .inl (kI, 1019, .inl g18_7)), (ra 14, .inl (kI, 12, .inl q_reach))] → va_S A s.heap H locs → lv_has ls 7 [(0, .ref m0), (1, .int p0), (2, .int p1), (3, .int v18_loc3), (4, .int v18_loc4), (5, .int v18_loc5)] → W p l e (headSpec wsX11_wholeWay rm_s11_wholeWay).room s m args0 below meth c H locs (0) (0) (MQ below (va_Qv (fun (_ : Unit) => True) (fun _ t => ∃ (x0' : Nat → Int32) (q_now' : Nat → Int32), fI lX11 hX11 x0' ∧ fI lNow hNow q_now' ∧ (x0' 1 = x0 1) ∧ (x0' 10 = x0 10) ∧ (x0' 11 = x0 11) ∧ (x0' 14 = x0 14) ∧ va_P (dC, dI) vwCl [(m0, .inr (11, oX11 ra x0')), (ra 2, .inl (kI, 8, .inl q_told)), (ra 3, .inl (kI, 24, .inl q_kind)), (ra 4, .inl (kI, 24, .inl q_salt)), (ra 8, .inl (kI, 40, .inl q_from)), (ra 9, .inl (kI, 40, .inl q_to)), (ra 10, .inl (kI, 6, .inl q_goal)), (ra 11, .inl (kI, 1019, .inl q_now')), (ra 14, .inl (kI, 12, .inl q_reach))] t.heap ∧ va_D A [(m0, .inr (11, oX11 ra x0')), (ra 2, .inl (kI, 8, .inl q_told)), (ra 3, .inl (kI, 24, .inl q_kind)), (ra 4, .inl (kI, 24, .inl q_salt)), (ra 8, .inl (kI, 40, .inl q_from)), (ra 9, .inl (kI, 40, .inl q_to)), (ra 10, .inl (kI, 6, .inl q_goal)), (ra 11, .inl (kI, 1019, .inl q_now')), (ra 14, .inl (kI, 12, .inl q_reach))]) A) args0 s 0 0 A) (F0 m 18 ls []) := by
    intro n
    induction n with
    | zero => intro y18_0 g18_7 v18_loc3 v18_loc4 v18_loc5 H locs ls hm18; exact absurd hm18 (Nat.not_lt_zero _)
    | succ n ih18 =>
      intro y18_0 g18_7 v18_loc3 v18_loc4 v18_loc5 H locs ls hm18 hI18_0 hI18_7 h18_3 h18_4 h18_5 h18_6 htp_18 hfp_18 hor_18 hirl_18 hP hD hS hl
      refine lv_iload_n hx hb dX11_wholeWay_18 rfl (lv_at hl 3 rfl) ?_
      refine lv_aload_n hx hb dX11_wholeWay_19 rfl (lv_at hl 0 rfl) ?_
      refine va_get (D := (dC, dI)) (ci := 11) (v := .ref (ra 10)) (C := RX11) (T := TX11) (N := 61) hx hb hts hin11 hown hK hP 0 rfl rfl 11 (Nat.le_of_ble_eq_true rfl) hw_0 (fun _ h9 => h9) rfl dX11_wholeWay_20 ?_
      refine lv_iload_n hx hb dX11_wholeWay_23 rfl (lv_at hl 2 rfl) ?_
      refine va_iald hx hb hK hP 6 1 rfl rfl (iv_in hp1 (by decide) (by decide)) dX11_wholeWay_24 ?_
      refine iv_top (a := 0) (b := 11) (hq_goal _) (fun z1 b2 => ?_)
      refine lv_icmp_eq (tgt := 78) hx hb dX11_wholeWay_25 rfl (fun c3 => ?_) (fun c3 => ?_)
      · refine lv_aload_n hx hb dX11_wholeWay_78 rfl (lv_at hl 0 rfl) ?_
        refine lv_iload hx hb dX11_wholeWay_79 (lv_at hl 5 rfl) ?_
        refine va_put (D := (dC, dI)) (ci := 11) (v := .int v18_loc5) (ty := .int) (C := RX11) (T := TX11) (N := 61) hx hb hts hin11 tyX11 tyX11_ok nmX11 hown hK hP hD hS 0 rfl rfl 42 (by decide) hw_1 (fun _ h9 => h9) rfl (by decide +kernel) rfl rfl (Nat.le_of_ble_eq_true rfl) dX11_wholeWay_81 (fun H locs hPa hDa hS => ?_)
        clear hP hD
        have hP : va_P (dC, dI) vwCl [(m0, .inr (11, oX11 ra (upd y18_0 20 v18_loc5))), (ra 2, .inl (kI, 8, .inl q_told)), (ra 3, .inl (kI, 24, .inl q_kind)), (ra 4, .inl (kI, 24, .inl q_salt)), (ra 8, .inl (kI, 40, .inl q_from)), (ra 9, .inl (kI, 40, .inl q_to)), (ra 10, .inl (kI, 6, .inl q_goal)), (ra 11, .inl (kI, 1019, .inl g18_7)), (ra 14, .inl (kI, 12, .inl q_reach))] H := hPa
        have hD : va_D A [(m0, .inr (11, oX11 ra (upd y18_0 20 v18_loc5))), (ra 2, .inl (kI, 8, .inl q_told)), (ra 3, .inl (kI, 24, .inl q_kind)), (ra 4, .inl (kI, 24, .inl q_salt)), (ra 8, .inl (kI, 40, .inl q_from)), (ra 9, .inl (kI, 40, .inl q_to)), (ra 10, .inl (kI, 6, .inl q_goal)), (ra 11, .inl (kI, 1019, .inl g18_7)), (ra 14, .inl (kI, 12, .inl q_reach))] := hDa
        clear hPa hDa
        have hP9 := hP
        have hD9 := hD
        exact W.vret hx hb hr (fun t ht hW => ⟨⟨(), rfl, trivial, upd y18_0 20 v18_loc5, g18_7, (fI_u hI18_0 (k := 20) ((iv_w h18_5 (by decide) (by decide)))), hI18_7, (show y18_0 1 = x0 1 from htp_18), (show y18_0 10 = x0 10 from hfp_18), (show y18_0 11 = x0 11 from hor_18), (show y18_0 14 = x0 14 from hirl_18), by rw [ht]; exact hP9, hD9⟩, hS.F ht⟩) hS.2.2 dX11_wholeWay_84
      · refine lv_aload_n hx hb dX11_wholeWay_28 rfl (lv_at hl 0 rfl) ?_
        refine lv_iload_n hx hb dX11_wholeWay_29 rfl (lv_at hl 3 rfl) ?_
        refine lv_iload_n hx hb dX11_wholeWay_30 rfl (lv_at hl 1 rfl) ?_
        refine lv_iload_n hx hb dX11_wholeWay_31 rfl (lv_at hl 2 rfl) ?_
        obtain ⟨hPc, hDc, hFc, hJn⟩ := cl_a (wc := [(m0, .inr (11, oX11 ra y18_0)), (ra 2, .inl (kI, 8, .inl q_told)), (ra 3, .inl (kI, 24, .inl q_kind)), (ra 4, .inl (kI, 24, .inl q_salt)), (ra 8, .inl (kI, 40, .inl q_from)), (ra 9, .inl (kI, 40, .inl q_to)), (ra 10, .inl (kI, 6, .inl q_goal)), (ra 11, .inl (kI, 1019, .inl g18_7)), (ra 14, .inl (kI, 12, .inl q_reach))]) (wr := []) hP hD hS hA [0, 1, 2, 3, 4, 5, 6, 7, 8] [] rfl rfl (by decide +kernel)
        refine va_calli (va_runV (As := [.int v18_loc3, .int p0, .int p1]) (rest := []) ⟨hx, hb, hml, hown, hts⟩ (s11_goesBy l dC dI kB kI kJ kZ kC kS H.size m0 ra y18_0 q_told q_kind q_salt q_from q_to q_goal g18_7 q_reach v18_loc3 p0 p1 (hI18_0) (hq_told) (hq_salt) (hq_from) (hq_to) (hq_goal) (hI18_7) (h18_3) (hp0) (hp1)) (cwV 3 hts gX11_wholeWay_X11_goesBy rfl rfl rfl (by decide +kernel) ⟨Nat.le_of_ble_eq_true rfl, Nat.le_of_ble_eq_true rfl⟩) ⟨fun a U g mk q => by obtain ⟨q0, q1, qP, qE, qD⟩ := q; exact ⟨q0, q1, qP, kE_call qE, qD⟩, va_recv hK hP (ci := 11) (q0 := 0) rfl rfl, fun U hU hW => ⟨rfl, by rw [hU], by rw [hU]; exact hPc, kE_warm hW hE, hDc.weaken (fun _ _ _ _ => trivial)⟩⟩ rfl rfl hl.1 rfl (lv_room (Nat.le_of_ble_eq_true rfl)) dX11_wholeWay_32 ⟨Nat.le_of_ble_eq_true rfl, Nat.le_of_ble_eq_true rfl⟩) hS (fun q _ h => hFc q h) hFc (fun r4 u t H locs ht hvm w5 hB hz1 hk1 hS => ?_)
        obtain ⟨f6, hq7, hP1, hD1⟩ := hB
        try dsimp only at w5
        obtain ⟨hPa, hDa⟩ := hJn (w1 := [(m0, .inr (11, oX11 ra y18_0)), (ra 2, .inl (kI, 8, .inl q_told)), (ra 3, .inl (kI, 24, .inl q_kind)), (ra 4, .inl (kI, 24, .inl q_salt)), (ra 8, .inl (kI, 40, .inl q_from)), (ra 9, .inl (kI, 40, .inl q_to)), (ra 10, .inl (kI, 6, .inl q_goal)), (ra 11, .inl (kI, 1019, .inl f6)), (ra 14, .inl (kI, 12, .inl q_reach))]) hk1 ht hP1 hD1
        clear hP hD hPc hDc hFc hJn hP1 hD1 hk1
        have hP : va_P (dC, dI) vwCl [(m0, .inr (11, oX11 ra y18_0)), (ra 2, .inl (kI, 8, .inl q_told)), (ra 3, .inl (kI, 24, .inl q_kind)), (ra 4, .inl (kI, 24, .inl q_salt)), (ra 8, .inl (kI, 40, .inl q_from)), (ra 9, .inl (kI, 40, .inl q_to)), (ra 10, .inl (kI, 6, .inl q_goal)), (ra 11, .inl (kI, 1019, .inl f6)), (ra 14, .inl (kI, 12, .inl q_reach))] H := hPa
        have hD : va_D A [(m0, .inr (11, oX11 ra y18_0)), (ra 2, .inl (kI, 8, .inl q_told)), (ra 3, .inl (kI, 24, .inl q_kind)), (ra 4, .inl (kI, 24, .inl q_salt)), (ra 8, .inl (kI, 40, .inl q_from)), (ra 9, .inl (kI, 40, .inl q_to)), (ra 10, .inl (kI, 6, .inl q_goal)), (ra 11, .inl (kI, 1019, .inl f6)), (ra 14, .inl (kI, 12, .inl q_reach))] := hDa
        clear hPa hDa
        refine W.widen (k := 0) (n := 0) (Nat.le_of_ble_eq_true rfl) (Nat.le_of_ble_eq_true rfl) ?_
        refine lv_istore (lv' := [(6, .int r4), (0, .ref m0), (1, .int p0), (2, .int p1), (3, .int v18_loc3), (4, .int v18_loc4), (5, .int v18_loc5)]) hx hb dX11_wholeWay_35 hl (Nat.le_of_ble_eq_true rfl) rfl (fun ls hl => ?_)
        refine lv_iload hx hb dX11_wholeWay_37 (lv_at hl 0 rfl) ?_
        refine lv_iconst (v := (-1)) hx hb dX11_wholeWay_39 ic_m1 ?_
        refine lv_icmp_ne (tgt := 44) hx hb dX11_wholeWay_40 rfl (fun c8 => ?_) (fun c8 => ?_)
        · have b9 : iv 0 19 r4 := iv_neLo c8 w5.1 ivk_m1 (by decide) (by decide)
          have hr10 : q_from r4.toNatClampNeg = v18_loc3 ∧ r4.toInt < (q_told 1).toInt := (w5.2).resolve_left (iv_ne b9 ivk_m1 (by decide))
          refine lv_aload_n hx hb dX11_wholeWay_44 rfl (lv_at hl 1 rfl) ?_
          refine lv_dup hx hb dX11_wholeWay_45 rfl ?_
          refine va_get (D := (dC, dI)) (ci := 11) (v := .int (y18_0 19)) (C := RX11) (T := TX11) (N := 61) hx hb hts hin11 hown hK hP 0 rfl rfl 41 (Nat.le_of_ble_eq_true rfl) hw_2 (fun _ h9 => h9) rfl dX11_wholeWay_46 ?_
          refine lv_iconst (v := 1) hx hb dX11_wholeWay_49 ic_1 ?_
          refine lv_iload hx hb dX11_wholeWay_50 (lv_at hl 0 rfl) ?_
          refine lv_ishl hx hb dX11_wholeWay_52 ?_
          refine iv_top (a := 0) (b := 524288) (iv_shl1 19 b9 (by decide) (by decide) (by decide) (by decide)) (fun z11 b12 => ?_)
          refine lv_ior hx hb dX11_wholeWay_53 ?_
          refine lv_topi (fun z13 _ => ?_)
          refine va_put (D := (dC, dI)) (ci := 11) (v := .int z13) (ty := .int) (C := RX11) (T := TX11) (N := 61) hx hb hts hin11 tyX11 tyX11_ok nmX11 hown hK hP hD hS 0 rfl rfl 41 (by decide) hw_2 (fun _ h9 => h9) rfl (by decide +kernel) rfl rfl (Nat.le_of_ble_eq_true rfl) dX11_wholeWay_54 (fun H locs hPa hDa hS => ?_)
          clear hP hD
          have hP : va_P (dC, dI) vwCl [(m0, .inr (11, oX11 ra (upd y18_0 19 z13))), (ra 2, .inl (kI, 8, .inl q_told)), (ra 3, .inl (kI, 24, .inl q_kind)), (ra 4, .inl (kI, 24, .inl q_salt)), (ra 8, .inl (kI, 40, .inl q_from)), (ra 9, .inl (kI, 40, .inl q_to)), (ra 10, .inl (kI, 6, .inl q_goal)), (ra 11, .inl (kI, 1019, .inl f6)), (ra 14, .inl (kI, 12, .inl q_reach))] H := hPa
          have hD : va_D A [(m0, .inr (11, oX11 ra (upd y18_0 19 z13))), (ra 2, .inl (kI, 8, .inl q_told)), (ra 3, .inl (kI, 24, .inl q_kind)), (ra 4, .inl (kI, 24, .inl q_salt)), (ra 8, .inl (kI, 40, .inl q_from)), (ra 9, .inl (kI, 40, .inl q_to)), (ra 10, .inl (kI, 6, .inl q_goal)), (ra 11, .inl (kI, 1019, .inl f6)), (ra 14, .inl (kI, 12, .inl q_reach))] := hDa
          clear hPa hDa
          refine lv_iload hx hb dX11_wholeWay_57 (lv_at hl 5 rfl) ?_
          refine lv_istore (lv' := [(5, .int v18_loc4), (6, .int r4), (0, .ref m0), (1, .int p0), (2, .int p1), (3, .int v18_loc3), (4, .int v18_loc4)]) hx hb dX11_wholeWay_59 hl (Nat.le_of_ble_eq_true rfl) rfl (fun ls hl => ?_)
          refine lv_iload hx hb dX11_wholeWay_61 (lv_at hl 1 rfl) ?_
          refine lv_iconst (v := 1) hx hb dX11_wholeWay_63 ic_1 ?_
          refine lv_iadd hx hb dX11_wholeWay_64 ?_
          refine iv_top (a := 1) (b := 20) (iv_add b9 ivk_1 (by decide) (by decide) (by decide) (by decide)) (fun z14 b15 => ?_)
          refine lv_istore (lv' := [(4, .int z14), (5, .int v18_loc4), (6, .int r4), (0, .ref m0), (1, .int p0), (2, .int p1), (3, .int v18_loc3)]) hx hb dX11_wholeWay_65 hl (Nat.le_of_ble_eq_true rfl) rfl (fun ls hl => ?_)
          refine lv_aload_n hx hb dX11_wholeWay_67 rfl (lv_at hl 3 rfl) ?_
          refine va_get (D := (dC, dI)) (ci := 11) (v := .ref (ra 9)) (C := RX11) (T := TX11) (N := 61) hx hb hts hin11 hown hK hP 0 rfl rfl 10 (Nat.le_of_ble_eq_true rfl) hw_3 (fun _ h9 => h9) rfl dX11_wholeWay_68 ?_
          refine lv_iload hx hb dX11_wholeWay_71 (lv_at hl 2 rfl) ?_
          refine va_iald hx hb hK hP 5 1 rfl rfl (iv_in b9 (by decide) (by decide)) dX11_wholeWay_73 ?_
          have b16 : iv 0 11 (q_to r4.toNatClampNeg) := hq_to _
          refine lv_istore_n (lv' := [(3, .int (q_to r4.toNatClampNeg)), (4, .int z14), (5, .int v18_loc4), (6, .int r4), (0, .ref m0), (1, .int p0), (2, .int p1)]) hx hb dX11_wholeWay_74 rfl hl (Nat.le_of_ble_eq_true rfl) rfl (fun ls hl => ?_)
          refine lv_goto (tgt := 18) hx hb dX11_wholeWay_75 rfl ?_
          exact ih18 (upd y18_0 19 z13) f6 (q_to r4.toNatClampNeg) z14 v18_loc4 _ _ _ (by have q1 := h18_3; have q2 := q1.1; have q3 := q1.2; have k1 := hr10; have k2 := hLT r4.toNatClampNeg (by have k3 := k1.2; rw [cl_nat b9 (by decide)]; exact k3); rw [k1.1] at k2; have hm := hm18; omega) ((fI_u hI18_0 (k := 19) ((iv_t z13)))) (hq7) (b16) ((iv_w b15 (by decide) (by decide))) ((iv_w h18_4 (by decide) (by decide))) (h18_6) ((show y18_0 1 = x0 1 from htp_18)) ((show y18_0 10 = x0 10 from hfp_18)) ((show y18_0 11 = x0 11 from hor_18)) ((show y18_0 14 = x0 14 from hirl_18)) (hP) (hD) hS (lv_sub hl [4, 5, 6, 0, 1, 2] rfl)
        · have b17 : iv (-1) (-1) r4 := iv_eqL c8 ivk_m1
          have hP9 := hP
          have hD9 := hD
          exact W.vret hx hb hr (fun t ht hW => ⟨⟨(), rfl, trivial, y18_0, f6, hI18_0, hq7, (show y18_0 1 = x0 1 from htp_18), (show y18_0 10 = x0 10 from hfp_18), (show y18_0 11 = x0 11 from hor_18), (show y18_0 14 = x0 14 from hirl_18), by rw [ht]; exact hP9, hD9⟩, hS.F ht⟩) hS.2.2 dX11_wholeWay_43
  refine lv_aload_n hx hb dX11_wholeWay_0 rfl (lv_at hl 0 rfl) ?_
  refine lv_iconst (v := 0) hx hb dX11_wholeWay_1 ic_0 ?_
  refine va_put (D := (dC, dI)) (ci := 11) (v := .int 0) (ty := .int) (C := RX11) (T := TX11) (N := 61) hx hb hts hin11 tyX11 tyX11_ok nmX11 hown hK hP hD hS 0 rfl rfl 41 (by decide) hw_2 (fun _ h9 => h9) rfl (by decide +kernel) rfl rfl (Nat.le_of_ble_eq_true rfl) dX11_wholeWay_2 (fun H locs hPa hDa hS => ?_)
  clear hP hD
  have hP : va_P (dC, dI) vwCl [(m0, .inr (11, oX11 ra (upd x0 19 0))), (ra 2, .inl (kI, 8, .inl q_told)), (ra 3, .inl (kI, 24, .inl q_kind)), (ra 4, .inl (kI, 24, .inl q_salt)), (ra 8, .inl (kI, 40, .inl q_from)), (ra 9, .inl (kI, 40, .inl q_to)), (ra 10, .inl (kI, 6, .inl q_goal)), (ra 11, .inl (kI, 1019, .inl q_now)), (ra 14, .inl (kI, 12, .inl q_reach))] H := hPa
  have hD : va_D A [(m0, .inr (11, oX11 ra (upd x0 19 0))), (ra 2, .inl (kI, 8, .inl q_told)), (ra 3, .inl (kI, 24, .inl q_kind)), (ra 4, .inl (kI, 24, .inl q_salt)), (ra 8, .inl (kI, 40, .inl q_from)), (ra 9, .inl (kI, 40, .inl q_to)), (ra 10, .inl (kI, 6, .inl q_goal)), (ra 11, .inl (kI, 1019, .inl q_now)), (ra 14, .inl (kI, 12, .inl q_reach))] := hDa
  clear hPa hDa
  refine lv_aload_n hx hb dX11_wholeWay_5 rfl (lv_at hl 0 rfl) ?_
  refine lv_iconst (v := (-1)) hx hb dX11_wholeWay_6 ic_m1 ?_
  refine va_put (D := (dC, dI)) (ci := 11) (v := .int (-1)) (ty := .int) (C := RX11) (T := TX11) (N := 61) hx hb hts hin11 tyX11 tyX11_ok nmX11 hown hK hP hD hS 0 rfl rfl 42 (by decide) hw_1 (fun _ h9 => h9) rfl (by decide +kernel) rfl rfl (Nat.le_of_ble_eq_true rfl) dX11_wholeWay_7 (fun H locs hPa hDa hS => ?_)
  clear hP hD
  have hP : va_P (dC, dI) vwCl [(m0, .inr (11, oX11 ra (upd (upd x0 19 0) 20 (-1)))), (ra 2, .inl (kI, 8, .inl q_told)), (ra 3, .inl (kI, 24, .inl q_kind)), (ra 4, .inl (kI, 24, .inl q_salt)), (ra 8, .inl (kI, 40, .inl q_from)), (ra 9, .inl (kI, 40, .inl q_to)), (ra 10, .inl (kI, 6, .inl q_goal)), (ra 11, .inl (kI, 1019, .inl q_now)), (ra 14, .inl (kI, 12, .inl q_reach))] H := hPa
  have hD : va_D A [(m0, .inr (11, oX11 ra (upd (upd x0 19 0) 20 (-1)))), (ra 2, .inl (kI, 8, .inl q_told)), (ra 3, .inl (kI, 24, .inl q_kind)), (ra 4, .inl (kI, 24, .inl q_salt)), (ra 8, .inl (kI, 40, .inl q_from)), (ra 9, .inl (kI, 40, .inl q_to)), (ra 10, .inl (kI, 6, .inl q_goal)), (ra 11, .inl (kI, 1019, .inl q_now)), (ra 14, .inl (kI, 12, .inl q_reach))] := hDa
  clear hPa hDa
  refine lv_iconst (v := 0) hx hb dX11_wholeWay_10 ic_0 ?_
  refine lv_istore_n (lv' := [(3, .int 0), (0, .ref m0), (1, .int p0), (2, .int p1)]) hx hb dX11_wholeWay_11 rfl hl (Nat.le_of_ble_eq_true rfl) rfl (fun ls hl => ?_)
  refine lv_iconst (v := 0) hx hb dX11_wholeWay_12 ic_0 ?_
  refine lv_istore (lv' := [(4, .int 0), (3, .int 0), (0, .ref m0), (1, .int p0), (2, .int p1)]) hx hb dX11_wholeWay_13 hl (Nat.le_of_ble_eq_true rfl) rfl (fun ls hl => ?_)
  refine lv_iconst (v := (-1)) hx hb dX11_wholeWay_15 ic_m1 ?_
  refine lv_istore (lv' := [(5, .int (-1)), (4, .int 0), (3, .int 0), (0, .ref m0), (1, .int p0), (2, .int p1)]) hx hb dX11_wholeWay_16 hl (Nat.le_of_ble_eq_true rfl) rfl (fun ls hl => ?_)
  exact hJ18 _ (upd (upd x0 19 0) 20 (-1)) q_now 0 0 (-1) _ _ _ (Nat.lt_succ_self _) ((fI_u (fI_u hX (k := 19) ((iv_w ivk_0 (by decide) (by decide)))) (k := 20) ((iv_w ivk_m1 (by decide) (by decide))))) (hq_now) ((iv_w ivk_0 (by decide) (by decide))) ((iv_w ivk_0 (by decide) (by decide))) ((iv_w ivk_m1 (by decide) (by decide))) (ivk_m1) ((show x0 1 = x0 1 from rfl)) ((show x0 10 = x0 10 from rfl)) ((show x0 11 = x0 11 from rfl)) ((show x0 14 = x0 14 from rfl)) (hP) (hD) hS (lv_sub hl [3, 4, 5, 2, 1, 0] rfl)
def rm_s11_missingOf : Room := { frames := 0, cells := 0, slots := 0, locals := 0 }
set_option maxHeartbeats 4000000 in
set_option maxRecDepth 100000 in
theorem s11_missingOf (l : Launch) (dC : Nat → ClassId) (dI : Nat → Nat → Nat) (kB kI kJ kZ kC kS : ClassId) (sz : Nat) (m0 : Nat) (ra : Nat → Nat) (x0 : Nat → Int32) (q_met : Nat → Int64) (p0 : Int32) (p1 : Int32) (hX : fI lX11 hX11 x0) (hp1 : iv 1 23 p1) : Met l yX11_missingOf wsX11_missingOf rm_s11_missingOf (va_Pc [.ref m0, .int p0, .int p1] (fun U => U.heap.size = sz ∧ va_P (dC, dI) vwCl [(m0, .inr (11, oX11 ra x0)), (ra 15, .inl (kJ, 24, .inr (.inl q_met)))] U.heap ∧ kE dC dI kB kI kJ kZ kC kS U ∧ va_D (fun _ => True) [(m0, .inr (11, oX11 ra x0)), (ra 15, .inl (kJ, 24, .inr (.inl q_met)))])) (va_Ql (fun (r : Int64) (_ : Unit) => True) (fun _ t => ∃ (q_met' : Nat → Int64), va_P (dC, dI) vwCl [(m0, .inr (11, oX11 ra x0)), (ra 15, .inl (kJ, 24, .inr (.inl q_met')))] t.heap ∧ va_D (va_A [(m0, .inr (11, oX11 ra x0)), (ra 15, .inl (kJ, 24, .inr (.inl q_met)))] sz) [(m0, .inr (11, oX11 ra x0)), (ra 15, .inl (kJ, 24, .inr (.inl q_met')))]) (va_A [(m0, .inr (11, oX11 ra x0)), (ra 15, .inl (kJ, 24, .inr (.inl q_met)))] sz)) 0 0 (va_A [(m0, .inr (11, oX11 ra x0)), (ra 15, .inl (kJ, 24, .inr (.inl q_met)))] sz) := by
  refine Met.ofW (cc := cX11_missingOf) (maxL := 7) (ret := (some .long)) (by decide) rfl ?_
  intro p e s m args0 below meth c s₁ B hml hv
  obtain ⟨hargs, hsz, hP, hE, hD0⟩ := hv
  have hx := B.exec
  have hb := B.bytes
  have hr := B.returns
  have hts := atoms_spec (ws := wsX11_missingOf) B.pre
  have hown : s.vm.findClass RX11 = some m.cls := findClass_of_methodNamed B.named
  have hlocks := B.notSynchronized
  have hK := hE.1
  have hin11 : ∀ w ∈ wsX110, w ∈ wsX11_missingOf := fun _ h9 => List.mem_cons_of_mem _ (List.mem_append_right _ h9)
  have hw_0 := hts (.fieldLink RX11 79 "PathProberModel" "met" "[J") (List.mem_of_getElem? (i := 1) rfl)
  have hw_1 := hts (.constantLong RX11 320 (1000000000000)) (List.mem_of_getElem? (i := 2) rfl)
  subst hsz
  have hD := hD0.self (sz := s.heap.size)
  generalize hAe : va_A [(m0, .inr (11, oX11 ra x0)), (ra 15, .inl (kJ, 24, .inr (.inl q_met)))] s.heap.size = A at hD ⊢
  have hA : ∀ q : Nat, s.heap.size ≤ q → A q := fun q h => by rw [← hAe]; exact Or.inr h
  have hS : va_S A s.heap s.heap [] := va_S.rf
  have hP : va_P (dC, dI) vwCl [(m0, .inr (11, oX11 ra x0)), (ra 15, .inl (kJ, 24, .inr (.inl q_met)))] s.heap := hP
  have hl := lv_entry ([.ref m0, .int p0, .int p1]) (n := 7) (Nat.le_of_ble_eq_true rfl)
  have hla : entryFrame m args0 7 = entryFrame m ([.ref m0, .int p0, .int p1] : List Value).toArray 7 := by rw [hargs]
  rw [hla, lg_entry_eq]
  generalize (lg_sl ([.ref m0, .int p0, .int p1]) ++ List.replicate (7 - (lg_sl ([.ref m0, .int p0, .int p1])).length) Slot.unset).toArray = ls at hl ⊢
  have hl : lv_has ls 7 [(0, .ref m0), (1, .int p0), (2, .int p1)] := hl
  have hJ32 : ∀ (n : Nat) (g32_1 : Nat → Int64) (v32_loc3 : Int32) (H : Heap) (locs : List Loc) (ls : Array Slot), (2147483647 - v32_loc3.toInt).toNat < n → iv 0 2147483647 v32_loc3 → (x0 1 = x0 1) → (x0 10 = x0 10) → (x0 11 = x0 11) → (x0 14 = x0 14) → va_P (dC, dI) vwCl [(m0, .inr (11, oX11 ra x0)), (ra 15, .inl (kJ, 24, .inr (.inl g32_1)))] H → va_D A [(m0, .inr (11, oX11 ra x0)), (ra 15, .inl (kJ, 24, .inr (.inl g32_1)))] → va_S A s.heap H locs → lv_has ls 7 [(0, .ref m0), (1, .int p0), (2, .int p1), (3, .int v32_loc3)] → W p l e (headSpec wsX11_missingOf rm_s11_missingOf).room s m args0 below meth c H locs (0) (0) (MQ below (va_Ql (fun (r : Int64) (_ : Unit) => True) (fun _ t => ∃ (q_met' : Nat → Int64), va_P (dC, dI) vwCl [(m0, .inr (11, oX11 ra x0)), (ra 15, .inl (kJ, 24, .inr (.inl q_met')))] t.heap ∧ va_D A [(m0, .inr (11, oX11 ra x0)), (ra 15, .inl (kJ, 24, .inr (.inl q_met')))]) A) args0 s 0 0 A) (F0 m 32 ls []) := by
    intro n
    induction n with
    | zero => intro g32_1 v32_loc3 H locs ls hm32; exact absurd hm32 (Nat.not_lt_zero _)
    | succ n ih32 =>
      intro g32_1 v32_loc3 H locs ls hm32 h32_1 htp_32 hfp_32 hor_32 hirl_32 hP hD hS hl
      have hJ42 : ∀ (n : Nat) (g42_1 : Nat → Int64) (v42_loc4 : Int32) (H : Heap) (locs : List Loc) (ls : Array Slot), (v42_loc4.toInt - (-1)).toNat < n → iv 1 2147483647 p0 → iv 0 2147483646 v32_loc3 → iv (-1) 22 v42_loc4 → (x0 1 = x0 1) → (x0 10 = x0 10) → (x0 11 = x0 11) → (x0 14 = x0 14) → va_P (dC, dI) vwCl [(m0, .inr (11, oX11 ra x0)), (ra 15, .inl (kJ, 24, .inr (.inl g42_1)))] H → va_D A [(m0, .inr (11, oX11 ra x0)), (ra 15, .inl (kJ, 24, .inr (.inl g42_1)))] → va_S A s.heap H locs → lv_has ls 7 [(0, .ref m0), (1, .int p0), (2, .int p1), (3, .int v32_loc3), (4, .int v42_loc4)] → W p l e (headSpec wsX11_missingOf rm_s11_missingOf).room s m args0 below meth c H locs (0) (0) (MQ below (va_Ql (fun (r : Int64) (_ : Unit) => True) (fun _ t => ∃ (q_met' : Nat → Int64), va_P (dC, dI) vwCl [(m0, .inr (11, oX11 ra x0)), (ra 15, .inl (kJ, 24, .inr (.inl q_met')))] t.heap ∧ va_D A [(m0, .inr (11, oX11 ra x0)), (ra 15, .inl (kJ, 24, .inr (.inl q_met')))]) A) args0 s 0 0 A) (F0 m 42 ls []) := by
        intro n
        induction n with
        | zero => intro g42_1 v42_loc4 H locs ls hm42; exact absurd hm42 (Nat.not_lt_zero _)
        | succ n ih42 =>
          intro g42_1 v42_loc4 H locs ls hm42 h42_1 h42_2 h42_3 htp_42 hfp_42 hor_42 hirl_42 hP hD hS hl
          refine lv_iload hx hb dX11_missingOf_42 (lv_at hl 4 rfl) ?_
          refine lv_if_lt (tgt := 100) hx hb dX11_missingOf_44 rfl (fun c1 => ?_) (fun c1 => ?_)
          · have b2 : iv (-1) (-1) v42_loc4 := iv_ltL c1 h42_3 ivk_0 (by decide) (by decide)
            refine lv_iinc (v := v32_loc3 + Int32.ofInt 1) (lv' := [(3, .int (v32_loc3 + Int32.ofInt 1)), (0, .ref m0), (1, .int p0), (2, .int p1), (4, .int v42_loc4)]) hx hb dX11_missingOf_100 hl (k := 3) rfl (rfl) (Nat.le_of_ble_eq_true rfl) rfl (fun ls hl => ?_)
            have b3 : iv 1 2147483647 (v32_loc3 + Int32.ofInt 1) := iv_add h42_2 ivo_1 (by decide) (by decide) (by decide) (by decide)
            refine lv_goto (tgt := 32) hx hb dX11_missingOf_103 rfl ?_
            exact ih32 g42_1 (v32_loc3 + Int32.ofInt 1) _ _ _ (ms_up (c := 1) (d := 0) h42_2 hm32 (by decide) (iv_inc 1 h42_2 (by decide) (by decide) (by decide) (by decide)) (by decide) rfl) ((iv_w b3 (by decide) (by decide))) ((show x0 1 = x0 1 from rfl)) ((show x0 10 = x0 10 from rfl)) ((show x0 11 = x0 11 from rfl)) ((show x0 14 = x0 14 from rfl)) (hP) (hD) hS (lv_sub hl [1, 2, 3, 0] rfl)
          · have b4 : iv 0 22 v42_loc4 := iv_leR (Int32.not_lt.mp c1) ivk_0 h42_3 (by decide) (by decide)
            refine lv_aload_n hx hb dX11_missingOf_47 rfl (lv_at hl 0 rfl) ?_
            refine va_get (D := (dC, dI)) (ci := 11) (v := .ref (ra 15)) (C := RX11) (T := TX11) (N := 61) hx hb hts hin11 hown hK hP 0 rfl rfl 32 (Nat.le_of_ble_eq_true rfl) hw_0 (fun _ h9 => h9) rfl dX11_missingOf_48 ?_
            refine lv_iload hx hb dX11_missingOf_51 (lv_at hl 4 rfl) ?_
            refine va_lald hx hb hK hP 1 2 rfl rfl (iv_in b4 (by decide) (by decide)) dX11_missingOf_53 ?_
            refine lv_topl (fun z5 _ => ?_)
            refine lv_iload hx hb dX11_missingOf_54 (lv_at hl 4 rfl) ?_
            refine lv_i2l (v := v42_loc4.toInt64) hx hb dX11_missingOf_56 rfl ?_
            refine lv_lmul hx hb dX11_missingOf_57 ?_
            refine lv_topl (fun z6 _ => ?_)
            refine lv_iload_n hx hb dX11_missingOf_58 rfl (lv_at hl 2 rfl) ?_
            refine lv_i2l (v := p1.toInt64) hx hb dX11_missingOf_59 rfl ?_
            refine lv_ldiv hx hb dX11_missingOf_60 (iv_ne64 hp1 (by decide)) ?_
            refine lv_topl (fun z7 _ => ?_)
            refine lv_lstore (lv' := [(5, .long z7), (0, .ref m0), (1, .int p0), (2, .int p1), (3, .int v32_loc3), (4, .int v42_loc4)]) hx hb dX11_missingOf_61 hl (Nat.le_of_ble_eq_true rfl) rfl (fun ls hl => ?_)
            refine lv_aload_n hx hb dX11_missingOf_63 rfl (lv_at hl 1 rfl) ?_
            refine va_get (D := (dC, dI)) (ci := 11) (v := .ref (ra 15)) (C := RX11) (T := TX11) (N := 61) hx hb hts hin11 hown hK hP 0 rfl rfl 32 (Nat.le_of_ble_eq_true rfl) hw_0 (fun _ h9 => h9) rfl dX11_missingOf_64 ?_
            refine lv_iload hx hb dX11_missingOf_67 (lv_at hl 5 rfl) ?_
            refine lv_iconst (v := 1) hx hb dX11_missingOf_69 ic_1 ?_
            refine lv_iadd hx hb dX11_missingOf_70 ?_
            refine iv_top (a := 1) (b := 23) (iv_add b4 ivk_1 (by decide) (by decide) (by decide) (by decide)) (fun z8 b9 => ?_)
            refine lv_dup2_11 hx hb dX11_missingOf_71 rfl rfl ?_
            refine va_lald hx hb hK hP 1 2 rfl rfl (iv_in b9 (by decide) (by decide)) dX11_missingOf_72 ?_
            refine lv_topl (fun z10 _ => ?_)
            refine lv_aload_n hx hb dX11_missingOf_73 rfl (lv_at hl 1 rfl) ?_
            refine va_get (D := (dC, dI)) (ci := 11) (v := .ref (ra 15)) (C := RX11) (T := TX11) (N := 61) hx hb hts hin11 hown hK hP 0 rfl rfl 32 (Nat.le_of_ble_eq_true rfl) hw_0 (fun _ h9 => h9) rfl dX11_missingOf_74 ?_
            refine lv_iload hx hb dX11_missingOf_77 (lv_at hl 5 rfl) ?_
            refine va_lald hx hb hK hP 1 2 rfl rfl (iv_in b4 (by decide) (by decide)) dX11_missingOf_79 ?_
            refine lv_topl (fun z11 _ => ?_)
            refine lv_lload hx hb dX11_missingOf_80 (lv_at hl 0 rfl) ?_
            refine lv_lsub hx hb dX11_missingOf_82 ?_
            refine lv_topl (fun z12 _ => ?_)
            refine lv_ladd hx hb dX11_missingOf_83 ?_
            refine lv_topl (fun z13 _ => ?_)
            refine va_last hx hb hK hP hD hS 1 2 rfl rfl (iv_in b9 (by decide) (by decide)) dX11_missingOf_84 (fun H locs hPa hDa hS => ?_)
            clear hP hD
            have hP : va_P (dC, dI) vwCl [(m0, .inr (11, oX11 ra x0)), (ra 15, .inl (kJ, 24, .inr (.inl (vp_updL g42_1 z8.toNatClampNeg z13))))] H := hPa
            have hD : va_D A [(m0, .inr (11, oX11 ra x0)), (ra 15, .inl (kJ, 24, .inr (.inl (vp_updL g42_1 z8.toNatClampNeg z13))))] := hDa
            clear hPa hDa
            generalize (vp_updL g42_1 z8.toNatClampNeg z13) = f14 at hP hD
            refine lv_aload_n hx hb dX11_missingOf_85 rfl (lv_at hl 1 rfl) ?_
            refine va_get (D := (dC, dI)) (ci := 11) (v := .ref (ra 15)) (C := RX11) (T := TX11) (N := 61) hx hb hts hin11 hown hK hP 0 rfl rfl 32 (Nat.le_of_ble_eq_true rfl) hw_0 (fun _ h9 => h9) rfl dX11_missingOf_86 ?_
            refine lv_iload hx hb dX11_missingOf_89 (lv_at hl 5 rfl) ?_
            refine lv_lload hx hb dX11_missingOf_91 (lv_at hl 0 rfl) ?_
            refine va_last hx hb hK hP hD hS 1 2 rfl rfl (iv_in b4 (by decide) (by decide)) dX11_missingOf_93 (fun H locs hPa hDa hS => ?_)
            clear hP hD
            have hP : va_P (dC, dI) vwCl [(m0, .inr (11, oX11 ra x0)), (ra 15, .inl (kJ, 24, .inr (.inl (vp_updL f14 v42_loc4.toNatClampNeg z7))))] H := hPa
            have hD : va_D A [(m0, .inr (11, oX11 ra x0)), (ra 15, .inl (kJ, 24, .inr (.inl (vp_updL f14 v42_loc4.toNatClampNeg z7))))] := hDa
            clear hPa hDa
            generalize (vp_updL f14 v42_loc4.toNatClampNeg z7) = f15 at hP hD
            refine lv_iinc (v := v42_loc4 + Int32.ofInt (-1)) (lv' := [(4, .int (v42_loc4 + Int32.ofInt (-1))), (5, .long z7), (0, .ref m0), (1, .int p0), (2, .int p1), (3, .int v32_loc3)]) hx hb dX11_missingOf_94 hl (k := 5) rfl (rfl) (Nat.le_of_ble_eq_true rfl) rfl (fun ls hl => ?_)
            have b16 : iv (-1) 21 (v42_loc4 + Int32.ofInt (-1)) := iv_add b4 ivo_m1 (by decide) (by decide) (by decide) (by decide)
            refine lv_goto (tgt := 42) hx hb dX11_missingOf_97 rfl ?_
            exact ih42 f15 (v42_loc4 + Int32.ofInt (-1)) _ _ _ (ms_dn (c := 1) (d := 0) b4 hm42 (by decide) (iv_inc (-1) b4 (by decide) (by decide) (by decide) (by decide)) (by decide) rfl) (h42_1) (h42_2) ((iv_w b16 (by decide) (by decide))) ((show x0 1 = x0 1 from rfl)) ((show x0 10 = x0 10 from rfl)) ((show x0 11 = x0 11 from rfl)) ((show x0 14 = x0 14 from rfl)) (hP) (hD) hS (lv_sub hl [2, 3, 4, 5, 0] rfl)
      refine lv_iload_n hx hb dX11_missingOf_32 rfl (lv_at hl 3 rfl) ?_
      refine lv_iload_n hx hb dX11_missingOf_33 rfl (lv_at hl 1 rfl) ?_
      refine lv_icmp_ge (tgt := 106) hx hb dX11_missingOf_34 rfl (fun c17 => ?_) (fun c17 => ?_)
      · refine lv_ldc2 hx hb hown hw_1 dX11_missingOf_106 ?_
        refine lv_aload_n hx hb dX11_missingOf_109 rfl (lv_at hl 0 rfl) ?_
        refine va_get (D := (dC, dI)) (ci := 11) (v := .ref (ra 15)) (C := RX11) (T := TX11) (N := 61) hx hb hts hin11 hown hK hP 0 rfl rfl 32 (Nat.le_of_ble_eq_true rfl) hw_0 (fun _ h9 => h9) rfl dX11_missingOf_110 ?_
        refine lv_iload_n hx hb dX11_missingOf_113 rfl (lv_at hl 2 rfl) ?_
        refine va_lald hx hb hK hP 1 2 rfl rfl (iv_in hp1 (by decide) (by decide)) dX11_missingOf_114 ?_
        refine lv_topl (fun z18 _ => ?_)
        refine lv_lsub hx hb dX11_missingOf_115 ?_
        refine lv_topl (fun z19 _ => ?_)
        have hP9 := hP
        have hD9 := hD
        exact W.lret (v := z19) hx hb hr (fun t ht hW => ⟨⟨z19, (), rfl, trivial, g32_1, by rw [ht]; exact hP9, hD9⟩, hS.F ht⟩) hS.2.2 dX11_missingOf_116
      · have b20 : iv 0 2147483646 v32_loc3 := iv_ltL (Int32.not_le.mp c17) h32_1 (iv_t p0) (by decide) (by decide)
        have b21 : iv 1 2147483647 p0 := iv_ltR (Int32.not_le.mp c17) h32_1 (iv_t p0) (by decide) (by decide)
        refine lv_iload_n hx hb dX11_missingOf_37 rfl (lv_at hl 2 rfl) ?_
        refine lv_iconst (v := 1) hx hb dX11_missingOf_38 ic_1 ?_
        refine lv_isub hx hb dX11_missingOf_39 ?_
        refine iv_top (a := 0) (b := 22) (iv_sub hp1 ivk_1 (by decide) (by decide) (by decide) (by decide)) (fun z22 b23 => ?_)
        refine lv_istore (lv' := [(4, .int z22), (0, .ref m0), (1, .int p0), (2, .int p1), (3, .int v32_loc3)]) hx hb dX11_missingOf_40 hl (Nat.le_of_ble_eq_true rfl) rfl (fun ls hl => ?_)
        exact hJ42 _ g32_1 z22 _ _ _ (Nat.lt_succ_self _) (b21) (b20) ((iv_w b23 (by decide) (by decide))) ((show x0 1 = x0 1 from rfl)) ((show x0 10 = x0 10 from rfl)) ((show x0 11 = x0 11 from rfl)) ((show x0 14 = x0 14 from rfl)) (hP) (hD) hS (lv_sub hl [1, 2, 3, 4, 0] rfl)
  have hJ2 : ∀ (n : Nat) (g2_1 : Nat → Int64) (v2_loc3 : Int32) (H : Heap) (locs : List Loc) (ls : Array Slot), (2147483647 - v2_loc3.toInt).toNat < n → iv 0 2147483647 v2_loc3 → (x0 1 = x0 1) → (x0 10 = x0 10) → (x0 11 = x0 11) → (x0 14 = x0 14) → va_P (dC, dI) vwCl [(m0, .inr (11, oX11 ra x0)), (ra 15, .inl (kJ, 24, .inr (.inl g2_1)))] H → va_D A [(m0, .inr (11, oX11 ra x0)), (ra 15, .inl (kJ, 24, .inr (.inl g2_1)))] → va_S A s.heap H locs → lv_has ls 7 [(0, .ref m0), (1, .int p0), (2, .int p1), (3, .int v2_loc3)] → W p l e (headSpec wsX11_missingOf rm_s11_missingOf).room s m args0 below meth c H locs (0) (0) (MQ below (va_Ql (fun (r : Int64) (_ : Unit) => True) (fun _ t => ∃ (q_met' : Nat → Int64), va_P (dC, dI) vwCl [(m0, .inr (11, oX11 ra x0)), (ra 15, .inl (kJ, 24, .inr (.inl q_met')))] t.heap ∧ va_D A [(m0, .inr (11, oX11 ra x0)), (ra 15, .inl (kJ, 24, .inr (.inl q_met')))]) A) args0 s 0 0 A) (F0 m 2 ls []) := by
    intro n
    induction n with
    | zero => intro g2_1 v2_loc3 H locs ls hm2; exact absurd hm2 (Nat.not_lt_zero _)
    | succ n ih2 =>
      intro g2_1 v2_loc3 H locs ls hm2 h2_1 htp_2 hfp_2 hor_2 hirl_2 hP hD hS hl
      have hJ23 : ∀ (w23_stk0 : Int64) (H : Heap) (locs : List Loc) (ls : Array Slot), iv 0 23 v2_loc3 → (x0 1 = x0 1) → (x0 10 = x0 10) → (x0 11 = x0 11) → (x0 14 = x0 14) → va_P (dC, dI) vwCl [(m0, .inr (11, oX11 ra x0)), (ra 15, .inl (kJ, 24, .inr (.inl g2_1)))] H → va_D A [(m0, .inr (11, oX11 ra x0)), (ra 15, .inl (kJ, 24, .inr (.inl g2_1)))] → va_S A s.heap H locs → lv_has ls 7 [(0, .ref m0), (1, .int p0), (2, .int p1), (3, .int v2_loc3)] → W p l e (headSpec wsX11_missingOf rm_s11_missingOf).room s m args0 below meth c H locs (0) (0) (MQ below (va_Ql (fun (r : Int64) (_ : Unit) => True) (fun _ t => ∃ (q_met' : Nat → Int64), va_P (dC, dI) vwCl [(m0, .inr (11, oX11 ra x0)), (ra 15, .inl (kJ, 24, .inr (.inl q_met')))] t.heap ∧ va_D A [(m0, .inr (11, oX11 ra x0)), (ra 15, .inl (kJ, 24, .inr (.inl q_met')))]) A) args0 s 0 0 A) (F0 m 23 ls [.long w23_stk0, .int v2_loc3, .ref (ra 15)]) := by
        intro w23_stk0 H locs ls h23_1 htp_23 hfp_23 hor_23 hirl_23 hP hD hS hl
        refine va_last hx hb hK hP hD hS 1 2 rfl rfl (iv_in h23_1 (by decide) (by decide)) dX11_missingOf_23 (fun H locs hPa hDa hS => ?_)
        clear hP hD
        have hP : va_P (dC, dI) vwCl [(m0, .inr (11, oX11 ra x0)), (ra 15, .inl (kJ, 24, .inr (.inl (vp_updL g2_1 v2_loc3.toNatClampNeg w23_stk0))))] H := hPa
        have hD : va_D A [(m0, .inr (11, oX11 ra x0)), (ra 15, .inl (kJ, 24, .inr (.inl (vp_updL g2_1 v2_loc3.toNatClampNeg w23_stk0))))] := hDa
        clear hPa hDa
        generalize (vp_updL g2_1 v2_loc3.toNatClampNeg w23_stk0) = f24 at hP hD
        refine lv_iinc (v := v2_loc3 + Int32.ofInt 1) (lv' := [(3, .int (v2_loc3 + Int32.ofInt 1)), (0, .ref m0), (1, .int p0), (2, .int p1)]) hx hb dX11_missingOf_24 hl (k := 3) rfl (rfl) (Nat.le_of_ble_eq_true rfl) rfl (fun ls hl => ?_)
        have b25 : iv 1 24 (v2_loc3 + Int32.ofInt 1) := iv_add h23_1 ivo_1 (by decide) (by decide) (by decide) (by decide)
        refine lv_goto (tgt := 2) hx hb dX11_missingOf_27 rfl ?_
        exact ih2 f24 (v2_loc3 + Int32.ofInt 1) _ _ _ (ms_up (c := 1) (d := 0) h23_1 hm2 (by decide) (iv_inc 1 h23_1 (by decide) (by decide) (by decide) (by decide)) (by decide) rfl) ((iv_w b25 (by decide) (by decide))) ((show x0 1 = x0 1 from rfl)) ((show x0 10 = x0 10 from rfl)) ((show x0 11 = x0 11 from rfl)) ((show x0 14 = x0 14 from rfl)) (hP) (hD) hS (lv_sub hl [1, 2, 3, 0] rfl)
      refine lv_iload_n hx hb dX11_missingOf_2 rfl (lv_at hl 3 rfl) ?_
      refine lv_iload_n hx hb dX11_missingOf_3 rfl (lv_at hl 2 rfl) ?_
      refine lv_icmp_gt (tgt := 30) hx hb dX11_missingOf_4 rfl (fun c26 => ?_) (fun c26 => ?_)
      · have b27 : iv 2 2147483647 v2_loc3 := iv_ltR c26 hp1 h2_1 (by decide) (by decide)
        refine lv_iconst (v := 0) hx hb dX11_missingOf_30 ic_0 ?_
        refine lv_istore_n (lv' := [(3, .int 0), (0, .ref m0), (1, .int p0), (2, .int p1)]) hx hb dX11_missingOf_31 rfl hl (Nat.le_of_ble_eq_true rfl) rfl (fun ls hl => ?_)
        exact hJ32 _ g2_1 0 _ _ _ (Nat.lt_succ_self _) ((iv_w ivk_0 (by decide) (by decide))) ((show x0 1 = x0 1 from rfl)) ((show x0 10 = x0 10 from rfl)) ((show x0 11 = x0 11 from rfl)) ((show x0 14 = x0 14 from rfl)) (hP) (hD) hS (lv_sub hl [1, 2, 3, 0] rfl)
      · have b28 : iv 0 23 v2_loc3 := iv_leL (Int32.not_lt.mp c26) h2_1 hp1 (by decide) (by decide)
        refine lv_aload_n hx hb dX11_missingOf_7 rfl (lv_at hl 0 rfl) ?_
        refine va_get (D := (dC, dI)) (ci := 11) (v := .ref (ra 15)) (C := RX11) (T := TX11) (N := 61) hx hb hts hin11 hown hK hP 0 rfl rfl 32 (Nat.le_of_ble_eq_true rfl) hw_0 (fun _ h9 => h9) rfl dX11_missingOf_8 ?_
        refine lv_iload_n hx hb dX11_missingOf_11 rfl (lv_at hl 3 rfl) ?_
        refine lv_iload_n hx hb dX11_missingOf_12 rfl (lv_at hl 3 rfl) ?_
        refine lv_if_ne (tgt := 22) hx hb dX11_missingOf_13 rfl (fun c29 => ?_) (fun c29 => ?_)
        · have b30 : iv 1 23 v2_loc3 := iv_neLo c29 b28 ivk_0 (by decide) (by decide)
          refine lv_lconst (v := 0) hx hb dX11_missingOf_22 (by decide) ?_
          exact hJ23 0 _ _ _ ((iv_w b30 (by decide) (by decide))) ((show x0 1 = x0 1 from rfl)) ((show x0 10 = x0 10 from rfl)) ((show x0 11 = x0 11 from rfl)) ((show x0 14 = x0 14 from rfl)) (hP) (hD) hS (lv_sub hl [0, 1, 2, 3] rfl)
        · have b31 : iv 0 0 v2_loc3 := iv_eqL c29 ivk_0
          refine lv_ldc2 hx hb hown hw_1 dX11_missingOf_16 ?_
          refine lv_goto (tgt := 23) hx hb dX11_missingOf_19 rfl ?_
          exact hJ23 1000000000000 _ _ _ ((iv_w b31 (by decide) (by decide))) ((show x0 1 = x0 1 from rfl)) ((show x0 10 = x0 10 from rfl)) ((show x0 11 = x0 11 from rfl)) ((show x0 14 = x0 14 from rfl)) (hP) (hD) hS (lv_sub hl [0, 1, 2, 3] rfl)
  refine lv_iconst (v := 0) hx hb dX11_missingOf_0 ic_0 ?_
  refine lv_istore_n (lv' := [(3, .int 0), (0, .ref m0), (1, .int p0), (2, .int p1)]) hx hb dX11_missingOf_1 rfl hl (Nat.le_of_ble_eq_true rfl) rfl (fun ls hl => ?_)
  exact hJ2 _ q_met 0 _ _ _ (Nat.lt_succ_self _) ((iv_w ivk_0 (by decide) (by decide))) ((show x0 1 = x0 1 from rfl)) ((show x0 10 = x0 10 from rfl)) ((show x0 11 = x0 11 from rfl)) ((show x0 14 = x0 14 from rfl)) (hP) (hD) hS (lv_sub hl [1, 2, 3, 0] rfl)
def rm_s11_enough : Room := { frames := 1, cells := 0, slots := 0, locals := 26 }
set_option maxHeartbeats 4000000 in
set_option maxRecDepth 100000 in
theorem s11_enough (l : Launch) (dC : Nat → ClassId) (dI : Nat → Nat → Nat) (kB kI kJ kZ kC kS : ClassId) (sz : Nat) (m0 : Nat) (ra : Nat → Nat) (x0 : Nat → Int32) (q_now : Nat → Int32) (q_met : Nat → Int64) (p0 : Int32) (hX : fI lX11 hX11 x0) (hq_now : fI lNow hNow q_now) (hp0 : iv 1 22 p0) : Met l yX11_enough wsX11_enough rm_s11_enough (va_Pc [.ref m0, .int p0] (fun U => U.heap.size = sz ∧ va_P (dC, dI) vwCl [(m0, .inr (11, oX11 ra x0)), (ra 11, .inl (kI, 1019, .inl q_now)), (ra 15, .inl (kJ, 24, .inr (.inl q_met)))] U.heap ∧ kE dC dI kB kI kJ kZ kC kS U ∧ va_D (fun _ => True) [(m0, .inr (11, oX11 ra x0)), (ra 11, .inl (kI, 1019, .inl q_now)), (ra 15, .inl (kJ, 24, .inr (.inl q_met)))])) (va_Qi (fun (r : Int32) (_ : Unit) => iv (-1) 60 r) (fun _ t => ∃ (q_met' : Nat → Int64), va_P (dC, dI) vwCl [(m0, .inr (11, oX11 ra x0)), (ra 11, .inl (kI, 1019, .inl q_now)), (ra 15, .inl (kJ, 24, .inr (.inl q_met')))] t.heap ∧ va_D (va_A [(m0, .inr (11, oX11 ra x0)), (ra 11, .inl (kI, 1019, .inl q_now)), (ra 15, .inl (kJ, 24, .inr (.inl q_met)))] sz) [(m0, .inr (11, oX11 ra x0)), (ra 11, .inl (kI, 1019, .inl q_now)), (ra 15, .inl (kJ, 24, .inr (.inl q_met')))]) (va_A [(m0, .inr (11, oX11 ra x0)), (ra 11, .inl (kI, 1019, .inl q_now)), (ra 15, .inl (kJ, 24, .inr (.inl q_met)))] sz)) 0 0 (va_A [(m0, .inr (11, oX11 ra x0)), (ra 11, .inl (kI, 1019, .inl q_now)), (ra 15, .inl (kJ, 24, .inr (.inl q_met)))] sz) := by
  refine Met.ofW (cc := cX11_enough) (maxL := 3) (ret := (some .int)) (by decide) rfl ?_
  intro p e s m args0 below meth c s₁ B hml hv
  obtain ⟨hargs, hsz, hP, hE, hD0⟩ := hv
  have hx := B.exec
  have hb := B.bytes
  have hr := B.returns
  have hts := atoms_spec (ws := wsX11_enough) B.pre
  have hown : s.vm.findClass RX11 = some m.cls := findClass_of_methodNamed B.named
  have hlocks := B.notSynchronized
  have hK := hE.1
  have hin11 : ∀ w ∈ wsX110, w ∈ wsX11_enough := fun _ h9 => List.mem_cons_of_mem _ (List.mem_append_right _ h9)
  have hw_0 := hts (.fieldLink RX11 60 "PathProberModel" "now" "[I") (List.mem_of_getElem? (i := 1) rfl)
  have hw_1 := hts (.constantLong RX11 326 (10000000000)) (List.mem_of_getElem? (i := 2) rfl)
  subst hsz
  have hD := hD0.self (sz := s.heap.size)
  generalize hAe : va_A [(m0, .inr (11, oX11 ra x0)), (ra 11, .inl (kI, 1019, .inl q_now)), (ra 15, .inl (kJ, 24, .inr (.inl q_met)))] s.heap.size = A at hD ⊢
  have hA : ∀ q : Nat, s.heap.size ≤ q → A q := fun q h => by rw [← hAe]; exact Or.inr h
  have hS : va_S A s.heap s.heap [] := va_S.rf
  have hP : va_P (dC, dI) vwCl [(m0, .inr (11, oX11 ra x0)), (ra 11, .inl (kI, 1019, .inl q_now)), (ra 15, .inl (kJ, 24, .inr (.inl q_met)))] s.heap := hP
  have hl := lv_entry ([.ref m0, .int p0]) (n := 3) (Nat.le_of_ble_eq_true rfl)
  have hla : entryFrame m args0 3 = entryFrame m ([.ref m0, .int p0] : List Value).toArray 3 := by rw [hargs]
  rw [hla, lg_entry_eq]
  generalize (lg_sl ([.ref m0, .int p0]) ++ List.replicate (3 - (lg_sl ([.ref m0, .int p0])).length) Slot.unset).toArray = ls at hl ⊢
  have hl : lv_has ls 3 [(0, .ref m0), (1, .int p0)] := hl
  have hJ2 : ∀ (n : Nat) (g2_2 : Nat → Int64) (v2_loc2 : Int32) (H : Heap) (locs : List Loc) (ls : Array Slot), (61 - v2_loc2.toInt).toNat < n → iv 1 61 v2_loc2 → (x0 1 = x0 1) → (x0 10 = x0 10) → (x0 11 = x0 11) → (x0 14 = x0 14) → va_P (dC, dI) vwCl [(m0, .inr (11, oX11 ra x0)), (ra 11, .inl (kI, 1019, .inl q_now)), (ra 15, .inl (kJ, 24, .inr (.inl g2_2)))] H → va_D A [(m0, .inr (11, oX11 ra x0)), (ra 11, .inl (kI, 1019, .inl q_now)), (ra 15, .inl (kJ, 24, .inr (.inl g2_2)))] → va_S A s.heap H locs → lv_has ls 3 [(0, .ref m0), (1, .int p0), (2, .int v2_loc2)] → W p l e (headSpec wsX11_enough rm_s11_enough).room s m args0 below meth c H locs (0) (0) (MQ below (va_Qi (fun (r : Int32) (_ : Unit) => iv (-1) 60 r) (fun _ t => ∃ (q_met' : Nat → Int64), va_P (dC, dI) vwCl [(m0, .inr (11, oX11 ra x0)), (ra 11, .inl (kI, 1019, .inl q_now)), (ra 15, .inl (kJ, 24, .inr (.inl q_met')))] t.heap ∧ va_D A [(m0, .inr (11, oX11 ra x0)), (ra 11, .inl (kI, 1019, .inl q_now)), (ra 15, .inl (kJ, 24, .inr (.inl q_met')))]) A) args0 s 0 0 A) (F0 m 2 ls []) := by
    intro n
    induction n with
    | zero => intro g2_2 v2_loc2 H locs ls hm2; exact absurd hm2 (Nat.not_lt_zero _)
    | succ n ih2 =>
      intro g2_2 v2_loc2 H locs ls hm2 h2_1 htp_2 hfp_2 hor_2 hirl_2 hP hD hS hl
      refine lv_iload_n hx hb dX11_enough_2 rfl (lv_at hl 2 rfl) ?_
      refine lv_bipush (v := 60) hx hb dX11_enough_3 bp_60 ?_
      refine lv_icmp_gt (tgt := 40) hx hb dX11_enough_5 rfl (fun c1 => ?_) (fun c1 => ?_)
      · have b2 : iv 61 61 v2_loc2 := iv_ltR c1 ivk_60 h2_1 (by decide) (by decide)
        refine lv_iconst (v := (-1)) hx hb dX11_enough_40 ic_m1 ?_
        have hP9 := hP
        have hD9 := hD
        exact W.iret (v := (-1)) hx hb hr (fun t ht hW => ⟨⟨(-1), (), rfl, (iv_w ivk_m1 (by decide) (by decide)), g2_2, by rw [ht]; exact hP9, hD9⟩, hS.F ht⟩) hS.2.2 dX11_enough_41
      · have b3 : iv 1 60 v2_loc2 := iv_leL (Int32.not_lt.mp c1) h2_1 ivk_60 (by decide) (by decide)
        refine lv_aload_n hx hb dX11_enough_8 rfl (lv_at hl 0 rfl) ?_
        refine lv_iload_n hx hb dX11_enough_9 rfl (lv_at hl 2 rfl) ?_
        refine lv_iload_n hx hb dX11_enough_10 rfl (lv_at hl 1 rfl) ?_
        refine lv_iconst (v := 1) hx hb dX11_enough_11 ic_1 ?_
        refine lv_iadd hx hb dX11_enough_12 ?_
        refine iv_top (a := 2) (b := 23) (iv_add hp0 ivk_1 (by decide) (by decide) (by decide) (by decide)) (fun z4 b5 => ?_)
        obtain ⟨hPc, hDc, hFc, hJn⟩ := cl_a (wc := [(m0, .inr (11, oX11 ra x0)), (ra 15, .inl (kJ, 24, .inr (.inl g2_2)))]) (wr := [(ra 11, .inl (kI, 1019, .inl q_now))]) hP hD hS hA [0, 2] [1] rfl rfl (by decide +kernel)
        refine va_calll (va_runV (As := [.int v2_loc2, .int z4]) (rest := []) ⟨hx, hb, hml, hown, hts⟩ (s11_missingOf l dC dI kB kI kJ kZ kC kS H.size m0 ra x0 g2_2 v2_loc2 z4 (hX) ((iv_w b5 (by decide) (by decide)))) (cwV 2 hts gX11_enough_X11_missingOf rfl rfl rfl (by decide +kernel) ⟨Nat.le_of_ble_eq_true rfl, Nat.le_of_ble_eq_true rfl⟩) ⟨fun a U g mk q => by obtain ⟨q0, q1, qP, qE, qD⟩ := q; exact ⟨q0, q1, qP, kE_call qE, qD⟩, va_recv hK hP (ci := 11) (q0 := 0) rfl rfl, fun U hU hW => ⟨rfl, by rw [hU], by rw [hU]; exact hPc, kE_warm hW hE, hDc.weaken (fun _ _ _ _ => trivial)⟩⟩ rfl rfl hl.1 rfl (lv_room (Nat.le_of_ble_eq_true rfl)) dX11_enough_13 ⟨Nat.le_of_ble_eq_true rfl, Nat.le_of_ble_eq_true rfl⟩) hS (fun q _ h => hFc q h) hFc (fun r6 u t H locs ht hvm w7 hB hz1 hk1 hS => ?_)
        obtain ⟨f8, hP1, hD1⟩ := hB
        try dsimp only at w7
        obtain ⟨hPa, hDa⟩ := hJn (w1 := [(m0, .inr (11, oX11 ra x0)), (ra 15, .inl (kJ, 24, .inr (.inl f8)))]) hk1 ht hP1 hD1
        clear hP hD hPc hDc hFc hJn hP1 hD1 hk1
        have hP : va_P (dC, dI) vwCl [(ra 11, .inl (kI, 1019, .inl q_now)), (m0, .inr (11, oX11 ra x0)), (ra 15, .inl (kJ, 24, .inr (.inl f8)))] H := hPa
        have hD : va_D A [(ra 11, .inl (kI, 1019, .inl q_now)), (m0, .inr (11, oX11 ra x0)), (ra 15, .inl (kJ, 24, .inr (.inl f8)))] := hDa
        clear hPa hDa
        refine W.widen (k := 0) (n := 0) (Nat.le_of_ble_eq_true rfl) (Nat.le_of_ble_eq_true rfl) ?_
        refine lv_aload_n hx hb dX11_enough_16 rfl (lv_at hl 0 rfl) ?_
        refine va_get (D := (dC, dI)) (ci := 11) (v := .ref (ra 11)) (C := RX11) (T := TX11) (N := 61) hx hb hts hin11 hown hK hP 1 rfl rfl 12 (Nat.le_of_ble_eq_true rfl) hw_0 (fun _ h9 => h9) rfl dX11_enough_17 ?_
        refine lv_bipush (v := 54) hx hb dX11_enough_20 bp_54 ?_
        refine va_iald hx hb hK hP 0 1 rfl rfl (vp_in_nI (n := 54) (by decide) (by decide)) dX11_enough_22 ?_
        refine W.eq (g2 := F0 m 23 ls [.int (q_now 54), .long r6]) rfl ?_
        refine lv_i2l (v := (q_now 54).toInt64) hx hb dX11_enough_23 rfl ?_
        refine lv_ldc2 hx hb hown hw_1 dX11_enough_24 ?_
        refine lv_lmul hx hb dX11_enough_27 ?_
        refine lv_topl (fun z9 _ => ?_)
        refine W.lcmp hx hb dX11_enough_28 ?_
        refine lv_topi (fun z10 _ => ?_)
        refine lv_if_ge (tgt := 34) hx hb dX11_enough_29 rfl (fun c11 => ?_) (fun c11 => ?_)
        · have b12 : iv 0 2147483647 z10 := iv_leR c11 ivk_0 (iv_t z10) (by decide) (by decide)
          refine lv_iinc (v := v2_loc2 + Int32.ofInt 1) (lv' := [(2, .int (v2_loc2 + Int32.ofInt 1)), (0, .ref m0), (1, .int p0)]) hx hb dX11_enough_34 hl (k := 2) rfl (rfl) (Nat.le_of_ble_eq_true rfl) rfl (fun ls hl => ?_)
          have b13 : iv 2 61 (v2_loc2 + Int32.ofInt 1) := iv_add b3 ivo_1 (by decide) (by decide) (by decide) (by decide)
          refine lv_goto (tgt := 2) hx hb dX11_enough_37 rfl ?_
          have hPD9 := cl_s (wc := [(m0, .inr (11, oX11 ra x0)), (ra 11, .inl (kI, 1019, .inl q_now)), (ra 15, .inl (kJ, 24, .inr (.inl f8)))]) hP hD [1, 0, 2] rfl (by decide +kernel)
          exact ih2 f8 (v2_loc2 + Int32.ofInt 1) _ _ _ (ms_up (c := 1) (d := 0) b3 hm2 (by decide) (iv_inc 1 b3 (by decide) (by decide) (by decide) (by decide)) (by decide) rfl) ((iv_w b13 (by decide) (by decide))) ((show x0 1 = x0 1 from rfl)) ((show x0 10 = x0 10 from rfl)) ((show x0 11 = x0 11 from rfl)) ((show x0 14 = x0 14 from rfl)) (hPD9.1) (hPD9.2) hS (lv_sub hl [1, 2, 0] rfl)
        · have b14 : iv (-2147483648) (-1) z10 := iv_ltL (Int32.not_le.mp c11) (iv_t z10) ivk_0 (by decide) (by decide)
          refine lv_iload_n hx hb dX11_enough_32 rfl (lv_at hl 2 rfl) ?_
          have hPD9 := cl_s (wc := [(m0, .inr (11, oX11 ra x0)), (ra 11, .inl (kI, 1019, .inl q_now)), (ra 15, .inl (kJ, 24, .inr (.inl f8)))]) hP hD [1, 0, 2] rfl (by decide +kernel)
          have hP9 := hPD9.1
          have hD9 := hPD9.2
          exact W.iret (v := v2_loc2) hx hb hr (fun t ht hW => ⟨⟨v2_loc2, (), rfl, (iv_w b3 (by decide) (by decide)), f8, by rw [ht]; exact hP9, hD9⟩, hS.F ht⟩) hS.2.2 dX11_enough_33
  refine lv_iconst (v := 1) hx hb dX11_enough_0 ic_1 ?_
  refine lv_istore_n (lv' := [(2, .int 1), (0, .ref m0), (1, .int p0)]) hx hb dX11_enough_1 rfl hl (Nat.le_of_ble_eq_true rfl) rfl (fun ls hl => ?_)
  exact hJ2 _ q_met 1 _ _ _ (Nat.lt_succ_self _) ((iv_w ivk_1 (by decide) (by decide))) ((show x0 1 = x0 1 from rfl)) ((show x0 10 = x0 10 from rfl)) ((show x0 11 = x0 11 from rfl)) ((show x0 14 = x0 14 from rfl)) (hP) (hD) hS (lv_sub hl [1, 2, 0] rfl)
def rm_s11_probeNow : Room := { frames := 4, cells := 0, slots := 0, locals := 105 }
set_option maxHeartbeats 4000000 in
set_option maxRecDepth 100000 in
theorem s11_probeNow (l : Launch) (dC : Nat → ClassId) (dI : Nat → Nat → Nat) (kB kI kJ kZ kC kS : ClassId) (sz : Nat) (m0 : Nat) (ra : Nat → Nat) (x0 : Nat → Int32) (q_told : Nat → Int32) (q_kind : Nat → Int32) (q_salt : Nat → Int32) (q_pace : Nat → Int32) (q_mute : Nat → Int32) (q_late : Nat → Int32) (q_from : Nat → Int32) (q_to : Nat → Int32) (q_goal : Nat → Int32) (q_now : Nat → Int32) (q_reach : Nat → Int32) (p0 : Int32) (p1 : Int32) (p2 : Int32) (p3 : Int32) (hX : fI lX11 hX11 x0) (hq_told : fI lTold hTold q_told) (hq_salt : fI (fun _ => 0) (fun _ => 15) q_salt) (hq_from : fI (fun _ => 0) (fun _ => 11) q_from) (hq_to : fI (fun _ => 0) (fun _ => 11) q_to) (hq_goal : fI (fun _ => 0) (fun _ => 11) q_goal) (hq_now : fI lNow hNow q_now) (hp0 : iv 0 31 p0) (hp1 : iv 0 2 p1) (hp2 : iv 1 10 p2) (hLT : ∀ j : Nat, (j : Int) < (q_told 1).toInt → (q_from j).toInt < (q_to j).toInt) : Met l yX11_probeNow wsX11_probeNow rm_s11_probeNow (va_Pc [.ref m0, .int p0, .int p1, .int p2, .int p3] (fun U => U.heap.size = sz ∧ va_P (dC, dI) vwCl [(m0, .inr (11, oX11 ra x0)), (ra 2, .inl (kI, 8, .inl q_told)), (ra 3, .inl (kI, 24, .inl q_kind)), (ra 4, .inl (kI, 24, .inl q_salt)), (ra 5, .inl (kI, 24, .inl q_pace)), (ra 6, .inl (kI, 24, .inl q_mute)), (ra 7, .inl (kI, 24, .inl q_late)), (ra 8, .inl (kI, 40, .inl q_from)), (ra 9, .inl (kI, 40, .inl q_to)), (ra 10, .inl (kI, 6, .inl q_goal)), (ra 11, .inl (kI, 1019, .inl q_now)), (ra 14, .inl (kI, 12, .inl q_reach))] U.heap ∧ kE dC dI kB kI kJ kZ kC kS U ∧ va_D (fun _ => True) [(m0, .inr (11, oX11 ra x0)), (ra 2, .inl (kI, 8, .inl q_told)), (ra 3, .inl (kI, 24, .inl q_kind)), (ra 4, .inl (kI, 24, .inl q_salt)), (ra 5, .inl (kI, 24, .inl q_pace)), (ra 6, .inl (kI, 24, .inl q_mute)), (ra 7, .inl (kI, 24, .inl q_late)), (ra 8, .inl (kI, 40, .inl q_from)), (ra 9, .inl (kI, 40, .inl q_to)), (ra 10, .inl (kI, 6, .inl q_goal)), (ra 11, .inl (kI, 1019, .inl q_now)), (ra 14, .inl (kI, 12, .inl q_reach))])) (va_Qi (fun (r : Int32) (_ : Unit) => iv (-1) 20 r) (fun _ t => ∃ (x0' : Nat → Int32) (q_now' : Nat → Int32), fI lX11 hX11 x0' ∧ iv 0 0 (x0' 14) ∧ fI lNow hNow q_now' ∧ (x0' 1 = x0 1) ∧ (x0' 10 = x0 10) ∧ (x0' 11 = x0 11) ∧ va_P (dC, dI) vwCl [(m0, .inr (11, oX11 ra x0')), (ra 2, .inl (kI, 8, .inl q_told)), (ra 3, .inl (kI, 24, .inl q_kind)), (ra 4, .inl (kI, 24, .inl q_salt)), (ra 5, .inl (kI, 24, .inl q_pace)), (ra 6, .inl (kI, 24, .inl q_mute)), (ra 7, .inl (kI, 24, .inl q_late)), (ra 8, .inl (kI, 40, .inl q_from)), (ra 9, .inl (kI, 40, .inl q_to)), (ra 10, .inl (kI, 6, .inl q_goal)), (ra 11, .inl (kI, 1019, .inl q_now')), (ra 14, .inl (kI, 12, .inl q_reach))] t.heap ∧ va_D (va_A [(m0, .inr (11, oX11 ra x0)), (ra 2, .inl (kI, 8, .inl q_told)), (ra 3, .inl (kI, 24, .inl q_kind)), (ra 4, .inl (kI, 24, .inl q_salt)), (ra 5, .inl (kI, 24, .inl q_pace)), (ra 6, .inl (kI, 24, .inl q_mute)), (ra 7, .inl (kI, 24, .inl q_late)), (ra 8, .inl (kI, 40, .inl q_from)), (ra 9, .inl (kI, 40, .inl q_to)), (ra 10, .inl (kI, 6, .inl q_goal)), (ra 11, .inl (kI, 1019, .inl q_now)), (ra 14, .inl (kI, 12, .inl q_reach))] sz) [(m0, .inr (11, oX11 ra x0')), (ra 2, .inl (kI, 8, .inl q_told)), (ra 3, .inl (kI, 24, .inl q_kind)), (ra 4, .inl (kI, 24, .inl q_salt)), (ra 5, .inl (kI, 24, .inl q_pace)), (ra 6, .inl (kI, 24, .inl q_mute)), (ra 7, .inl (kI, 24, .inl q_late)), (ra 8, .inl (kI, 40, .inl q_from)), (ra 9, .inl (kI, 40, .inl q_to)), (ra 10, .inl (kI, 6, .inl q_goal)), (ra 11, .inl (kI, 1019, .inl q_now')), (ra 14, .inl (kI, 12, .inl q_reach))]) (va_A [(m0, .inr (11, oX11 ra x0)), (ra 2, .inl (kI, 8, .inl q_told)), (ra 3, .inl (kI, 24, .inl q_kind)), (ra 4, .inl (kI, 24, .inl q_salt)), (ra 5, .inl (kI, 24, .inl q_pace)), (ra 6, .inl (kI, 24, .inl q_mute)), (ra 7, .inl (kI, 24, .inl q_late)), (ra 8, .inl (kI, 40, .inl q_from)), (ra 9, .inl (kI, 40, .inl q_to)), (ra 10, .inl (kI, 6, .inl q_goal)), (ra 11, .inl (kI, 1019, .inl q_now)), (ra 14, .inl (kI, 12, .inl q_reach))] sz)) 0 0 (va_A [(m0, .inr (11, oX11 ra x0)), (ra 2, .inl (kI, 8, .inl q_told)), (ra 3, .inl (kI, 24, .inl q_kind)), (ra 4, .inl (kI, 24, .inl q_salt)), (ra 5, .inl (kI, 24, .inl q_pace)), (ra 6, .inl (kI, 24, .inl q_mute)), (ra 7, .inl (kI, 24, .inl q_late)), (ra 8, .inl (kI, 40, .inl q_from)), (ra 9, .inl (kI, 40, .inl q_to)), (ra 10, .inl (kI, 6, .inl q_goal)), (ra 11, .inl (kI, 1019, .inl q_now)), (ra 14, .inl (kI, 12, .inl q_reach))] sz) := by
  refine Met.ofW (cc := cX11_probeNow) (maxL := 6) (ret := (some .int)) (by decide) rfl ?_
  intro p e s m args0 below meth c s₁ B hml hv
  obtain ⟨hargs, hsz, hP, hE, hD0⟩ := hv
  have hx := B.exec
  have hb := B.bytes
  have hr := B.returns
  have hts := atoms_spec (ws := wsX11_probeNow) B.pre
  have hown : s.vm.findClass RX11 = some m.cls := findClass_of_methodNamed B.named
  have hlocks := B.notSynchronized
  have hK := hE.1
  have hin11 : ∀ w ∈ wsX110, w ∈ wsX11_probeNow := fun _ h9 => List.mem_cons_of_mem _ (List.mem_append_right _ h9)
  have hw_0 := hts (.fieldLink RX11 60 "PathProberModel" "now" "[I") (List.mem_of_getElem? (i := 1) rfl)
  have hw_1 := hts (.fieldLink RX11 282 "PathProberModel" "isReal" "Z") (List.mem_of_getElem? (i := 2) rfl)
  have hw_2 := hts (.fieldLink RX11 292 "PathProberModel" "endRouter" "I") (List.mem_of_getElem? (i := 3) rfl)
  have hw_3 := hts (.fieldLink RX11 295 "PathProberModel" "endAddress" "I") (List.mem_of_getElem? (i := 4) rfl)
  subst hsz
  have hD := hD0.self (sz := s.heap.size)
  generalize hAe : va_A [(m0, .inr (11, oX11 ra x0)), (ra 2, .inl (kI, 8, .inl q_told)), (ra 3, .inl (kI, 24, .inl q_kind)), (ra 4, .inl (kI, 24, .inl q_salt)), (ra 5, .inl (kI, 24, .inl q_pace)), (ra 6, .inl (kI, 24, .inl q_mute)), (ra 7, .inl (kI, 24, .inl q_late)), (ra 8, .inl (kI, 40, .inl q_from)), (ra 9, .inl (kI, 40, .inl q_to)), (ra 10, .inl (kI, 6, .inl q_goal)), (ra 11, .inl (kI, 1019, .inl q_now)), (ra 14, .inl (kI, 12, .inl q_reach))] s.heap.size = A at hD ⊢
  have hA : ∀ q : Nat, s.heap.size ≤ q → A q := fun q h => by rw [← hAe]; exact Or.inr h
  have hS : va_S A s.heap s.heap [] := va_S.rf
  have hP : va_P (dC, dI) vwCl [(m0, .inr (11, oX11 ra x0)), (ra 2, .inl (kI, 8, .inl q_told)), (ra 3, .inl (kI, 24, .inl q_kind)), (ra 4, .inl (kI, 24, .inl q_salt)), (ra 5, .inl (kI, 24, .inl q_pace)), (ra 6, .inl (kI, 24, .inl q_mute)), (ra 7, .inl (kI, 24, .inl q_late)), (ra 8, .inl (kI, 40, .inl q_from)), (ra 9, .inl (kI, 40, .inl q_to)), (ra 10, .inl (kI, 6, .inl q_goal)), (ra 11, .inl (kI, 1019, .inl q_now)), (ra 14, .inl (kI, 12, .inl q_reach))] s.heap := hP
  have hl := lv_entry ([.ref m0, .int p0, .int p1, .int p2, .int p3]) (n := 6) (Nat.le_of_ble_eq_true rfl)
  have hla : entryFrame m args0 6 = entryFrame m ([.ref m0, .int p0, .int p1, .int p2, .int p3] : List Value).toArray 6 := by rw [hargs]
  rw [hla, lg_entry_eq]
  generalize (lg_sl ([.ref m0, .int p0, .int p1, .int p2, .int p3]) ++ List.replicate (6 - (lg_sl ([.ref m0, .int p0, .int p1, .int p2, .int p3])).length) Slot.unset).toArray = ls at hl ⊢
  have hl : lv_has ls 6 [(0, .ref m0), (1, .int p0), (2, .int p1), (3, .int p2), (4, .int p3)] := hl
  refine lv_aload_n hx hb dX11_probeNow_0 rfl (lv_at hl 0 rfl) ?_
  refine lv_iload hx hb dX11_probeNow_1 (lv_at hl 4 rfl) ?_
  obtain ⟨hPc, hDc, hFc, hJn⟩ := cl_a (wc := [(m0, .inr (11, oX11 ra x0)), (ra 11, .inl (kI, 1019, .inl q_now))]) (wr := [(ra 2, .inl (kI, 8, .inl q_told)), (ra 3, .inl (kI, 24, .inl q_kind)), (ra 4, .inl (kI, 24, .inl q_salt)), (ra 5, .inl (kI, 24, .inl q_pace)), (ra 6, .inl (kI, 24, .inl q_mute)), (ra 7, .inl (kI, 24, .inl q_late)), (ra 8, .inl (kI, 40, .inl q_from)), (ra 9, .inl (kI, 40, .inl q_to)), (ra 10, .inl (kI, 6, .inl q_goal)), (ra 14, .inl (kI, 12, .inl q_reach))]) hP hD hS hA [0, 10] [1, 2, 3, 4, 5, 6, 7, 8, 9, 11] rfl rfl (by decide +kernel)
  refine va_callv (va_runV (As := [.int p3]) (rest := []) ⟨hx, hb, hml, hown, hts⟩ (s11_opens l dC dI kB kI kJ kZ kC kS s.heap.size m0 ra x0 q_now p3 (hX) (hq_now)) (cwV 1 hts gX11_probeNow_X11_opens rfl rfl rfl (by decide +kernel) ⟨Nat.le_of_ble_eq_true rfl, Nat.le_of_ble_eq_true rfl⟩) ⟨fun a U g mk q => by obtain ⟨q0, q1, qP, qE, qD⟩ := q; exact ⟨q0, q1, qP, kE_call qE, qD⟩, va_recv hK hP (ci := 11) (q0 := 0) rfl rfl, fun U hU hW => ⟨rfl, by rw [hU], by rw [hU]; exact hPc, kE_warm hW hE, hDc.weaken (fun _ _ _ _ => trivial)⟩⟩ rfl rfl hl.1 rfl (lv_room (Nat.le_of_ble_eq_true rfl)) dX11_probeNow_3 ⟨Nat.le_of_ble_eq_true rfl, Nat.le_of_ble_eq_true rfl⟩) hS (fun q _ h => hFc q h) hFc (fun u t H locs ht hvm w2 hB hz1 hk1 hS => ?_)
  obtain ⟨f3, hq4, hP1, hD1⟩ := hB
  try dsimp only at w2
  obtain ⟨hPa, hDa⟩ := hJn (w1 := [(m0, .inr (11, oX11 ra x0)), (ra 11, .inl (kI, 1019, .inl f3))]) hk1 ht hP1 hD1
  clear hP hD hPc hDc hFc hJn hP1 hD1 hk1
  have hP : va_P (dC, dI) vwCl [(ra 2, .inl (kI, 8, .inl q_told)), (ra 3, .inl (kI, 24, .inl q_kind)), (ra 4, .inl (kI, 24, .inl q_salt)), (ra 5, .inl (kI, 24, .inl q_pace)), (ra 6, .inl (kI, 24, .inl q_mute)), (ra 7, .inl (kI, 24, .inl q_late)), (ra 8, .inl (kI, 40, .inl q_from)), (ra 9, .inl (kI, 40, .inl q_to)), (ra 10, .inl (kI, 6, .inl q_goal)), (ra 14, .inl (kI, 12, .inl q_reach)), (m0, .inr (11, oX11 ra x0)), (ra 11, .inl (kI, 1019, .inl f3))] H := hPa
  have hD : va_D A [(ra 2, .inl (kI, 8, .inl q_told)), (ra 3, .inl (kI, 24, .inl q_kind)), (ra 4, .inl (kI, 24, .inl q_salt)), (ra 5, .inl (kI, 24, .inl q_pace)), (ra 6, .inl (kI, 24, .inl q_mute)), (ra 7, .inl (kI, 24, .inl q_late)), (ra 8, .inl (kI, 40, .inl q_from)), (ra 9, .inl (kI, 40, .inl q_to)), (ra 10, .inl (kI, 6, .inl q_goal)), (ra 14, .inl (kI, 12, .inl q_reach)), (m0, .inr (11, oX11 ra x0)), (ra 11, .inl (kI, 1019, .inl f3))] := hDa
  clear hPa hDa
  refine W.widen (k := 0) (n := 0) (Nat.le_of_ble_eq_true rfl) (Nat.le_of_ble_eq_true rfl) ?_
  refine lv_aload_n hx hb dX11_probeNow_6 rfl (lv_at hl 0 rfl) ?_
  refine va_get (D := (dC, dI)) (ci := 11) (v := .ref (ra 11)) (C := RX11) (T := TX11) (N := 61) hx hb hts hin11 hown hK hP 10 rfl rfl 12 (Nat.le_of_ble_eq_true rfl) hw_0 (fun _ h9 => h9) rfl dX11_probeNow_7 ?_
  refine lv_iload_n hx hb dX11_probeNow_10 rfl (lv_at hl 2 rfl) ?_
  refine lv_iload_n hx hb dX11_probeNow_11 rfl (lv_at hl 3 rfl) ?_
  obtain ⟨hPc, hDc, hFc, hJn⟩ := cl_a (wc := []) (wr := [(ra 2, .inl (kI, 8, .inl q_told)), (ra 3, .inl (kI, 24, .inl q_kind)), (ra 4, .inl (kI, 24, .inl q_salt)), (ra 5, .inl (kI, 24, .inl q_pace)), (ra 6, .inl (kI, 24, .inl q_mute)), (ra 7, .inl (kI, 24, .inl q_late)), (ra 8, .inl (kI, 40, .inl q_from)), (ra 9, .inl (kI, 40, .inl q_to)), (ra 10, .inl (kI, 6, .inl q_goal)), (ra 14, .inl (kI, 12, .inl q_reach)), (m0, .inr (11, oX11 ra x0)), (ra 11, .inl (kI, 1019, .inl f3))]) hP hD hS hA [] [0, 1, 2, 3, 4, 5, 6, 7, 8, 9, 10, 11] rfl rfl (by decide +kernel)
  refine va_calli (va_runS (As := [.int p1, .int p2]) (rest := [.ref (ra 11)]) ⟨hx, hb, hml, hown, hts⟩ (s11_sentAt l dC dI kB kI kJ kZ kC kS H.size p1 p2 (hp1) (hp2)) (va_cwS 2 hts gX11_probeNow_X11_sentAt rfl rfl rfl (by decide +kernel) ⟨Nat.le_of_ble_eq_true rfl, Nat.le_of_ble_eq_true rfl⟩) ⟨fun a U g mk q => by obtain ⟨q0, q1, qP, qE, qD⟩ := q; exact ⟨q0, q1, qP, kE_call qE, qD⟩, fun U hU hW => ⟨rfl, by rw [hU], by rw [hU]; exact hPc, kE_warm hW hE, hDc.weaken (fun _ _ _ _ => trivial)⟩⟩ rfl rfl hl.1 rfl (lv_room (Nat.le_of_ble_eq_true rfl)) dX11_probeNow_12 ⟨Nat.le_of_ble_eq_true rfl, Nat.le_of_ble_eq_true rfl⟩) hS (fun q _ h => hFc q h) hFc (fun r5 u t H locs ht hvm w6 hB hz1 hk1 hS => ?_)
  obtain ⟨hP1, hD1⟩ := hB
  try dsimp only at w6
  obtain ⟨hPa, hDa⟩ := hJn (w1 := []) hk1 ht hP1 hD1
  clear hP hD hPc hDc hFc hJn hP1 hD1 hk1
  have hP : va_P (dC, dI) vwCl [(ra 2, .inl (kI, 8, .inl q_told)), (ra 3, .inl (kI, 24, .inl q_kind)), (ra 4, .inl (kI, 24, .inl q_salt)), (ra 5, .inl (kI, 24, .inl q_pace)), (ra 6, .inl (kI, 24, .inl q_mute)), (ra 7, .inl (kI, 24, .inl q_late)), (ra 8, .inl (kI, 40, .inl q_from)), (ra 9, .inl (kI, 40, .inl q_to)), (ra 10, .inl (kI, 6, .inl q_goal)), (ra 14, .inl (kI, 12, .inl q_reach)), (m0, .inr (11, oX11 ra x0)), (ra 11, .inl (kI, 1019, .inl f3))] H := hPa
  have hD : va_D A [(ra 2, .inl (kI, 8, .inl q_told)), (ra 3, .inl (kI, 24, .inl q_kind)), (ra 4, .inl (kI, 24, .inl q_salt)), (ra 5, .inl (kI, 24, .inl q_pace)), (ra 6, .inl (kI, 24, .inl q_mute)), (ra 7, .inl (kI, 24, .inl q_late)), (ra 8, .inl (kI, 40, .inl q_from)), (ra 9, .inl (kI, 40, .inl q_to)), (ra 10, .inl (kI, 6, .inl q_goal)), (ra 14, .inl (kI, 12, .inl q_reach)), (m0, .inr (11, oX11 ra x0)), (ra 11, .inl (kI, 1019, .inl f3))] := hDa
  clear hPa hDa
  refine W.widen (k := 0) (n := 0) (Nat.le_of_ble_eq_true rfl) (Nat.le_of_ble_eq_true rfl) ?_
  refine lv_dup2_11 hx hb dX11_probeNow_15 rfl rfl ?_
  refine va_iald hx hb hK hP 11 1 rfl rfl (iv_in w6 (by decide) (by decide)) dX11_probeNow_16 ?_
  refine lv_topi (fun z7 _ => ?_)
  refine lv_iconst (v := 1) hx hb dX11_probeNow_17 ic_1 ?_
  refine lv_iadd hx hb dX11_probeNow_18 ?_
  refine lv_topi (fun z8 _ => ?_)
  refine va_iast hx hb hK hP hD hS 11 1 rfl rfl (iv_in w6 (by decide) (by decide)) dX11_probeNow_19 (fun H locs hPa hDa hS => ?_)
  clear hP hD
  have hP : va_P (dC, dI) vwCl [(ra 2, .inl (kI, 8, .inl q_told)), (ra 3, .inl (kI, 24, .inl q_kind)), (ra 4, .inl (kI, 24, .inl q_salt)), (ra 5, .inl (kI, 24, .inl q_pace)), (ra 6, .inl (kI, 24, .inl q_mute)), (ra 7, .inl (kI, 24, .inl q_late)), (ra 8, .inl (kI, 40, .inl q_from)), (ra 9, .inl (kI, 40, .inl q_to)), (ra 10, .inl (kI, 6, .inl q_goal)), (ra 14, .inl (kI, 12, .inl q_reach)), (m0, .inr (11, oX11 ra x0)), (ra 11, .inl (kI, 1019, .inl (upd f3 r5.toNatClampNeg z8)))] H := hPa
  have hD : va_D A [(ra 2, .inl (kI, 8, .inl q_told)), (ra 3, .inl (kI, 24, .inl q_kind)), (ra 4, .inl (kI, 24, .inl q_salt)), (ra 5, .inl (kI, 24, .inl q_pace)), (ra 6, .inl (kI, 24, .inl q_mute)), (ra 7, .inl (kI, 24, .inl q_late)), (ra 8, .inl (kI, 40, .inl q_from)), (ra 9, .inl (kI, 40, .inl q_to)), (ra 10, .inl (kI, 6, .inl q_goal)), (ra 14, .inl (kI, 12, .inl q_reach)), (m0, .inr (11, oX11 ra x0)), (ra 11, .inl (kI, 1019, .inl (upd f3 r5.toNatClampNeg z8)))] := hDa
  clear hPa hDa
  have hf10 : fI lNow hNow (upd f3 r5.toNatClampNeg z8) := fI_u hq4 (k := r5.toNatClampNeg) (now_po w6 (by decide) (by decide))
  generalize (upd f3 r5.toNatClampNeg z8) = f9 at hP hD hf10
  refine lv_aload_n hx hb dX11_probeNow_20 rfl (lv_at hl 0 rfl) ?_
  refine lv_iconst (v := 1) hx hb dX11_probeNow_21 ic_1 ?_
  refine va_put (D := (dC, dI)) (ci := 11) (v := .int 1) (ty := .boolean) (C := RX11) (T := TX11) (N := 61) hx hb hts hin11 tyX11 tyX11_ok nmX11 hown hK hP hD hS 10 rfl rfl 29 (by decide) hw_1 (fun _ h9 => h9) rfl (by decide +kernel) rfl rfl (Nat.le_of_ble_eq_true rfl) dX11_probeNow_22 (fun H locs hPa hDa hS => ?_)
  clear hP hD
  have hP : va_P (dC, dI) vwCl [(ra 2, .inl (kI, 8, .inl q_told)), (ra 3, .inl (kI, 24, .inl q_kind)), (ra 4, .inl (kI, 24, .inl q_salt)), (ra 5, .inl (kI, 24, .inl q_pace)), (ra 6, .inl (kI, 24, .inl q_mute)), (ra 7, .inl (kI, 24, .inl q_late)), (ra 8, .inl (kI, 40, .inl q_from)), (ra 9, .inl (kI, 40, .inl q_to)), (ra 10, .inl (kI, 6, .inl q_goal)), (ra 14, .inl (kI, 12, .inl q_reach)), (m0, .inr (11, oX11 ra (upd x0 14 1))), (ra 11, .inl (kI, 1019, .inl f9))] H := hPa
  have hD : va_D A [(ra 2, .inl (kI, 8, .inl q_told)), (ra 3, .inl (kI, 24, .inl q_kind)), (ra 4, .inl (kI, 24, .inl q_salt)), (ra 5, .inl (kI, 24, .inl q_pace)), (ra 6, .inl (kI, 24, .inl q_mute)), (ra 7, .inl (kI, 24, .inl q_late)), (ra 8, .inl (kI, 40, .inl q_from)), (ra 9, .inl (kI, 40, .inl q_to)), (ra 10, .inl (kI, 6, .inl q_goal)), (ra 14, .inl (kI, 12, .inl q_reach)), (m0, .inr (11, oX11 ra (upd x0 14 1))), (ra 11, .inl (kI, 1019, .inl f9))] := hDa
  clear hPa hDa
  refine lv_aload_n hx hb dX11_probeNow_25 rfl (lv_at hl 0 rfl) ?_
  refine lv_iload_n hx hb dX11_probeNow_26 rfl (lv_at hl 1 rfl) ?_
  refine lv_iload_n hx hb dX11_probeNow_27 rfl (lv_at hl 2 rfl) ?_
  refine lv_iload_n hx hb dX11_probeNow_28 rfl (lv_at hl 3 rfl) ?_
  obtain ⟨hPc, hDc, hFc, hJn⟩ := cl_a (wc := [(m0, .inr (11, oX11 ra (upd x0 14 1))), (ra 2, .inl (kI, 8, .inl q_told)), (ra 3, .inl (kI, 24, .inl q_kind)), (ra 4, .inl (kI, 24, .inl q_salt)), (ra 7, .inl (kI, 24, .inl q_late)), (ra 8, .inl (kI, 40, .inl q_from)), (ra 9, .inl (kI, 40, .inl q_to)), (ra 10, .inl (kI, 6, .inl q_goal)), (ra 11, .inl (kI, 1019, .inl f9)), (ra 14, .inl (kI, 12, .inl q_reach))]) (wr := [(ra 5, .inl (kI, 24, .inl q_pace)), (ra 6, .inl (kI, 24, .inl q_mute))]) hP hD hS hA [10, 0, 1, 2, 5, 6, 7, 8, 11, 9] [3, 4] rfl rfl (by decide +kernel)
  refine va_callv (va_runV (As := [.int p0, .int p1, .int p2]) (rest := []) ⟨hx, hb, hml, hown, hts⟩ (s11_walk l dC dI kB kI kJ kZ kC kS H.size m0 ra (upd x0 14 1) q_told q_kind q_salt q_late q_from q_to q_goal f9 q_reach p0 p1 p2 ((fI_u hX (k := 14) ((iv_w ivk_1 (by decide) (by decide))))) (hq_told) (hq_salt) (hq_from) (hq_to) (hq_goal) (hf10) (hp0) (hp1) (hLT)) (cwV 3 hts gX11_probeNow_X11_walk rfl rfl rfl (by decide +kernel) ⟨Nat.le_of_ble_eq_true rfl, Nat.le_of_ble_eq_true rfl⟩) ⟨fun a U g mk q => by obtain ⟨q0, q1, qP, qE, qD⟩ := q; exact ⟨q0, q1, qP, kE_call qE, qD⟩, va_recv hK hP (ci := 11) (q0 := 10) rfl rfl, fun U hU hW => ⟨rfl, by rw [hU], by rw [hU]; exact hPc, kE_warm hW hE, hDc.weaken (fun _ _ _ _ => trivial)⟩⟩ rfl rfl hl.1 rfl (lv_room (Nat.le_of_ble_eq_true rfl)) dX11_probeNow_29 ⟨Nat.le_of_ble_eq_true rfl, Nat.le_of_ble_eq_true rfl⟩) hS (fun q _ h => hFc q h) hFc (fun u t H locs ht hvm w12 hB hz1 hk1 hS => ?_)
  obtain ⟨y13, f14, hq15, hq16, hq17, hq18, hq19, hq20, hP1, hD1⟩ := hB
  try dsimp only at w12
  obtain ⟨hPa, hDa⟩ := hJn (w1 := [(m0, .inr (11, oX11 ra y13)), (ra 2, .inl (kI, 8, .inl q_told)), (ra 3, .inl (kI, 24, .inl q_kind)), (ra 4, .inl (kI, 24, .inl q_salt)), (ra 7, .inl (kI, 24, .inl q_late)), (ra 8, .inl (kI, 40, .inl q_from)), (ra 9, .inl (kI, 40, .inl q_to)), (ra 10, .inl (kI, 6, .inl q_goal)), (ra 11, .inl (kI, 1019, .inl f14)), (ra 14, .inl (kI, 12, .inl q_reach))]) hk1 ht hP1 hD1
  clear hP hD hPc hDc hFc hJn hP1 hD1 hk1
  have hP : va_P (dC, dI) vwCl [(ra 5, .inl (kI, 24, .inl q_pace)), (ra 6, .inl (kI, 24, .inl q_mute)), (m0, .inr (11, oX11 ra y13)), (ra 2, .inl (kI, 8, .inl q_told)), (ra 3, .inl (kI, 24, .inl q_kind)), (ra 4, .inl (kI, 24, .inl q_salt)), (ra 7, .inl (kI, 24, .inl q_late)), (ra 8, .inl (kI, 40, .inl q_from)), (ra 9, .inl (kI, 40, .inl q_to)), (ra 10, .inl (kI, 6, .inl q_goal)), (ra 11, .inl (kI, 1019, .inl f14)), (ra 14, .inl (kI, 12, .inl q_reach))] H := hPa
  have hD : va_D A [(ra 5, .inl (kI, 24, .inl q_pace)), (ra 6, .inl (kI, 24, .inl q_mute)), (m0, .inr (11, oX11 ra y13)), (ra 2, .inl (kI, 8, .inl q_told)), (ra 3, .inl (kI, 24, .inl q_kind)), (ra 4, .inl (kI, 24, .inl q_salt)), (ra 7, .inl (kI, 24, .inl q_late)), (ra 8, .inl (kI, 40, .inl q_from)), (ra 9, .inl (kI, 40, .inl q_to)), (ra 10, .inl (kI, 6, .inl q_goal)), (ra 11, .inl (kI, 1019, .inl f14)), (ra 14, .inl (kI, 12, .inl q_reach))] := hDa
  clear hPa hDa
  refine W.widen (k := 0) (n := 0) (Nat.le_of_ble_eq_true rfl) (Nat.le_of_ble_eq_true rfl) ?_
  refine lv_aload_n hx hb dX11_probeNow_32 rfl (lv_at hl 0 rfl) ?_
  refine lv_iconst (v := 0) hx hb dX11_probeNow_33 ic_0 ?_
  refine va_put (D := (dC, dI)) (ci := 11) (v := .int 0) (ty := .boolean) (C := RX11) (T := TX11) (N := 61) hx hb hts hin11 tyX11 tyX11_ok nmX11 hown hK hP hD hS 2 rfl rfl 29 (by decide) hw_1 (fun _ h9 => h9) rfl (by decide +kernel) rfl rfl (Nat.le_of_ble_eq_true rfl) dX11_probeNow_34 (fun H locs hPa hDa hS => ?_)
  clear hP hD
  have hP : va_P (dC, dI) vwCl [(ra 5, .inl (kI, 24, .inl q_pace)), (ra 6, .inl (kI, 24, .inl q_mute)), (m0, .inr (11, oX11 ra (upd y13 14 0))), (ra 2, .inl (kI, 8, .inl q_told)), (ra 3, .inl (kI, 24, .inl q_kind)), (ra 4, .inl (kI, 24, .inl q_salt)), (ra 7, .inl (kI, 24, .inl q_late)), (ra 8, .inl (kI, 40, .inl q_from)), (ra 9, .inl (kI, 40, .inl q_to)), (ra 10, .inl (kI, 6, .inl q_goal)), (ra 11, .inl (kI, 1019, .inl f14)), (ra 14, .inl (kI, 12, .inl q_reach))] H := hPa
  have hD : va_D A [(ra 5, .inl (kI, 24, .inl q_pace)), (ra 6, .inl (kI, 24, .inl q_mute)), (m0, .inr (11, oX11 ra (upd y13 14 0))), (ra 2, .inl (kI, 8, .inl q_told)), (ra 3, .inl (kI, 24, .inl q_kind)), (ra 4, .inl (kI, 24, .inl q_salt)), (ra 7, .inl (kI, 24, .inl q_late)), (ra 8, .inl (kI, 40, .inl q_from)), (ra 9, .inl (kI, 40, .inl q_to)), (ra 10, .inl (kI, 6, .inl q_goal)), (ra 11, .inl (kI, 1019, .inl f14)), (ra 14, .inl (kI, 12, .inl q_reach))] := hDa
  clear hPa hDa
  refine lv_aload_n hx hb dX11_probeNow_37 rfl (lv_at hl 0 rfl) ?_
  refine lv_iload_n hx hb dX11_probeNow_38 rfl (lv_at hl 2 rfl) ?_
  obtain ⟨hPc, hDc, hFc, hJn⟩ := cl_a (wc := [(m0, .inr (11, oX11 ra (upd y13 14 0))), (ra 6, .inl (kI, 24, .inl q_mute)), (ra 10, .inl (kI, 6, .inl q_goal))]) (wr := [(ra 5, .inl (kI, 24, .inl q_pace)), (ra 2, .inl (kI, 8, .inl q_told)), (ra 3, .inl (kI, 24, .inl q_kind)), (ra 4, .inl (kI, 24, .inl q_salt)), (ra 7, .inl (kI, 24, .inl q_late)), (ra 8, .inl (kI, 40, .inl q_from)), (ra 9, .inl (kI, 40, .inl q_to)), (ra 11, .inl (kI, 1019, .inl f14)), (ra 14, .inl (kI, 12, .inl q_reach))]) hP hD hS hA [2, 1, 9] [0, 3, 4, 5, 6, 7, 8, 10, 11] rfl rfl (by decide +kernel)
  refine va_calli (va_runV (As := [.int p1]) (rest := []) ⟨hx, hb, hml, hown, hts⟩ (s11_answers l dC dI kB kI kJ kZ kC kS H.size m0 ra (upd y13 14 0) q_mute q_goal p1 ((fI_u hq15 (k := 14) ((iv_w ivk_0 (by decide) (by decide))))) (hq_goal) (hp1)) (cwV 1 hts gX11_probeNow_X11_answers rfl rfl rfl (by decide +kernel) ⟨Nat.le_of_ble_eq_true rfl, Nat.le_of_ble_eq_true rfl⟩) ⟨fun a U g mk q => by obtain ⟨q0, q1, qP, qE, qD⟩ := q; exact ⟨q0, q1, qP, kE_call qE, qD⟩, va_recv hK hP (ci := 11) (q0 := 2) rfl rfl, fun U hU hW => ⟨rfl, by rw [hU], by rw [hU]; exact hPc, kE_warm hW hE, hDc.weaken (fun _ _ _ _ => trivial)⟩⟩ rfl rfl hl.1 rfl (lv_room (Nat.le_of_ble_eq_true rfl)) dX11_probeNow_39 ⟨Nat.le_of_ble_eq_true rfl, Nat.le_of_ble_eq_true rfl⟩) hS (fun q _ h => hFc q h) hFc (fun r21 u t H locs ht hvm w22 hB hz1 hk1 hS => ?_)
  obtain ⟨hP1, hD1⟩ := hB
  try dsimp only at w22
  obtain ⟨hPa, hDa⟩ := hJn (w1 := [(m0, .inr (11, oX11 ra (upd y13 14 0))), (ra 6, .inl (kI, 24, .inl q_mute)), (ra 10, .inl (kI, 6, .inl q_goal))]) hk1 ht hP1 hD1
  clear hP hD hPc hDc hFc hJn hP1 hD1 hk1
  have hP : va_P (dC, dI) vwCl [(ra 5, .inl (kI, 24, .inl q_pace)), (ra 2, .inl (kI, 8, .inl q_told)), (ra 3, .inl (kI, 24, .inl q_kind)), (ra 4, .inl (kI, 24, .inl q_salt)), (ra 7, .inl (kI, 24, .inl q_late)), (ra 8, .inl (kI, 40, .inl q_from)), (ra 9, .inl (kI, 40, .inl q_to)), (ra 11, .inl (kI, 1019, .inl f14)), (ra 14, .inl (kI, 12, .inl q_reach)), (m0, .inr (11, oX11 ra (upd y13 14 0))), (ra 6, .inl (kI, 24, .inl q_mute)), (ra 10, .inl (kI, 6, .inl q_goal))] H := hPa
  have hD : va_D A [(ra 5, .inl (kI, 24, .inl q_pace)), (ra 2, .inl (kI, 8, .inl q_told)), (ra 3, .inl (kI, 24, .inl q_kind)), (ra 4, .inl (kI, 24, .inl q_salt)), (ra 7, .inl (kI, 24, .inl q_late)), (ra 8, .inl (kI, 40, .inl q_from)), (ra 9, .inl (kI, 40, .inl q_to)), (ra 11, .inl (kI, 1019, .inl f14)), (ra 14, .inl (kI, 12, .inl q_reach)), (m0, .inr (11, oX11 ra (upd y13 14 0))), (ra 6, .inl (kI, 24, .inl q_mute)), (ra 10, .inl (kI, 6, .inl q_goal))] := hDa
  clear hPa hDa
  refine W.widen (k := 0) (n := 0) (Nat.le_of_ble_eq_true rfl) (Nat.le_of_ble_eq_true rfl) ?_
  refine lv_if_ne (tgt := 71) hx hb dX11_probeNow_42 rfl (fun c23 => ?_) (fun c23 => ?_)
  · have b24 : iv 1 1 r21 := iv_neLo c23 w22.1 ivk_0 (by decide) (by decide)
    have b25 : iv 0 11 (y13 15) := (w22.2).resolve_left (iv_ne b24 ivk_0 (by decide))
    refine lv_aload_n hx hb dX11_probeNow_71 rfl (lv_at hl 0 rfl) ?_
    refine lv_aload_n hx hb dX11_probeNow_72 rfl (lv_at hl 0 rfl) ?_
    refine va_get (D := (dC, dI)) (ci := 11) (v := .int (y13 15)) (C := RX11) (T := TX11) (N := 61) hx hb hts hin11 hown hK hP 9 rfl rfl 30 (Nat.le_of_ble_eq_true rfl) hw_2 (fun _ h9 => h9) rfl dX11_probeNow_73 ?_
    obtain ⟨hPc, hDc, hFc, hJn⟩ := cl_a (wc := [(m0, .inr (11, oX11 ra (upd y13 14 0))), (ra 5, .inl (kI, 24, .inl q_pace)), (ra 11, .inl (kI, 1019, .inl f14))]) (wr := [(ra 2, .inl (kI, 8, .inl q_told)), (ra 3, .inl (kI, 24, .inl q_kind)), (ra 4, .inl (kI, 24, .inl q_salt)), (ra 7, .inl (kI, 24, .inl q_late)), (ra 8, .inl (kI, 40, .inl q_from)), (ra 9, .inl (kI, 40, .inl q_to)), (ra 14, .inl (kI, 12, .inl q_reach)), (ra 6, .inl (kI, 24, .inl q_mute)), (ra 10, .inl (kI, 6, .inl q_goal))]) hP hD hS hA [9, 0, 7] [1, 2, 3, 4, 5, 6, 8, 10, 11] rfl rfl (by decide +kernel)
    refine va_calli (va_runV (As := [.int (y13 15)]) (rest := []) ⟨hx, hb, hml, hown, hts⟩ (s11_answered l dC dI kB kI kJ kZ kC kS H.size m0 ra (upd y13 14 0) q_pace f14 (y13 15) ((fI_u hq15 (k := 14) ((iv_w ivk_0 (by decide) (by decide))))) (hq16) (b25)) (cwV 1 hts gX11_probeNow_X11_answered rfl rfl rfl (by decide +kernel) ⟨Nat.le_of_ble_eq_true rfl, Nat.le_of_ble_eq_true rfl⟩) ⟨fun a U g mk q => by obtain ⟨q0, q1, qP, qE, qD⟩ := q; exact ⟨q0, q1, qP, kE_call qE, qD⟩, va_recv hK hP (ci := 11) (q0 := 9) rfl rfl, fun U hU hW => ⟨rfl, by rw [hU], by rw [hU]; exact hPc, kE_warm hW hE, hDc.weaken (fun _ _ _ _ => trivial)⟩⟩ rfl rfl hl.1 rfl (lv_room (Nat.le_of_ble_eq_true rfl)) dX11_probeNow_76 ⟨Nat.le_of_ble_eq_true rfl, Nat.le_of_ble_eq_true rfl⟩) hS (fun q _ h => hFc q h) hFc (fun r26 u t H locs ht hvm w27 hB hz1 hk1 hS => ?_)
    obtain ⟨f28, hq29, hP1, hD1⟩ := hB
    try dsimp only at w27
    obtain ⟨hPa, hDa⟩ := hJn (w1 := [(m0, .inr (11, oX11 ra (upd y13 14 0))), (ra 5, .inl (kI, 24, .inl q_pace)), (ra 11, .inl (kI, 1019, .inl f28))]) hk1 ht hP1 hD1
    clear hP hD hPc hDc hFc hJn hP1 hD1 hk1
    have hP : va_P (dC, dI) vwCl [(ra 2, .inl (kI, 8, .inl q_told)), (ra 3, .inl (kI, 24, .inl q_kind)), (ra 4, .inl (kI, 24, .inl q_salt)), (ra 7, .inl (kI, 24, .inl q_late)), (ra 8, .inl (kI, 40, .inl q_from)), (ra 9, .inl (kI, 40, .inl q_to)), (ra 14, .inl (kI, 12, .inl q_reach)), (ra 6, .inl (kI, 24, .inl q_mute)), (ra 10, .inl (kI, 6, .inl q_goal)), (m0, .inr (11, oX11 ra (upd y13 14 0))), (ra 5, .inl (kI, 24, .inl q_pace)), (ra 11, .inl (kI, 1019, .inl f28))] H := hPa
    have hD : va_D A [(ra 2, .inl (kI, 8, .inl q_told)), (ra 3, .inl (kI, 24, .inl q_kind)), (ra 4, .inl (kI, 24, .inl q_salt)), (ra 7, .inl (kI, 24, .inl q_late)), (ra 8, .inl (kI, 40, .inl q_from)), (ra 9, .inl (kI, 40, .inl q_to)), (ra 14, .inl (kI, 12, .inl q_reach)), (ra 6, .inl (kI, 24, .inl q_mute)), (ra 10, .inl (kI, 6, .inl q_goal)), (m0, .inr (11, oX11 ra (upd y13 14 0))), (ra 5, .inl (kI, 24, .inl q_pace)), (ra 11, .inl (kI, 1019, .inl f28))] := hDa
    clear hPa hDa
    refine W.widen (k := 0) (n := 0) (Nat.le_of_ble_eq_true rfl) (Nat.le_of_ble_eq_true rfl) ?_
    refine lv_istore (lv' := [(5, .int r26), (0, .ref m0), (1, .int p0), (2, .int p1), (3, .int p2), (4, .int p3)]) hx hb dX11_probeNow_79 hl (Nat.le_of_ble_eq_true rfl) rfl (fun ls hl => ?_)
    refine lv_aload_n hx hb dX11_probeNow_81 rfl (lv_at hl 1 rfl) ?_
    refine va_get (D := (dC, dI)) (ci := 11) (v := .ref (ra 11)) (C := RX11) (T := TX11) (N := 61) hx hb hts hin11 hown hK hP 9 rfl rfl 12 (Nat.le_of_ble_eq_true rfl) hw_0 (fun _ h9 => h9) rfl dX11_probeNow_82 ?_
    refine lv_iload_n hx hb dX11_probeNow_85 rfl (lv_at hl 2 rfl) ?_
    refine lv_iload_n hx hb dX11_probeNow_86 rfl (lv_at hl 3 rfl) ?_
    refine lv_iload_n hx hb dX11_probeNow_87 rfl (lv_at hl 4 rfl) ?_
    obtain ⟨hPc, hDc, hFc, hJn⟩ := cl_a (wc := []) (wr := [(ra 2, .inl (kI, 8, .inl q_told)), (ra 3, .inl (kI, 24, .inl q_kind)), (ra 4, .inl (kI, 24, .inl q_salt)), (ra 7, .inl (kI, 24, .inl q_late)), (ra 8, .inl (kI, 40, .inl q_from)), (ra 9, .inl (kI, 40, .inl q_to)), (ra 14, .inl (kI, 12, .inl q_reach)), (ra 6, .inl (kI, 24, .inl q_mute)), (ra 10, .inl (kI, 6, .inl q_goal)), (m0, .inr (11, oX11 ra (upd y13 14 0))), (ra 5, .inl (kI, 24, .inl q_pace)), (ra 11, .inl (kI, 1019, .inl f28))]) hP hD hS hA [] [0, 1, 2, 3, 4, 5, 6, 7, 8, 9, 10, 11] rfl rfl (by decide +kernel)
    refine va_calli (va_runS (As := [.int p0, .int p1, .int p2]) (rest := [.ref (ra 11)]) ⟨hx, hb, hml, hown, hts⟩ (s11_seenAt l dC dI kB kI kJ kZ kC kS H.size p0 p1 p2 (hp0) (hp1) (hp2)) (va_cwS 3 hts gX11_probeNow_X11_seenAt rfl rfl rfl (by decide +kernel) ⟨Nat.le_of_ble_eq_true rfl, Nat.le_of_ble_eq_true rfl⟩) ⟨fun a U g mk q => by obtain ⟨q0, q1, qP, qE, qD⟩ := q; exact ⟨q0, q1, qP, kE_call qE, qD⟩, fun U hU hW => ⟨rfl, by rw [hU], by rw [hU]; exact hPc, kE_warm hW hE, hDc.weaken (fun _ _ _ _ => trivial)⟩⟩ rfl rfl hl.1 rfl (lv_room (Nat.le_of_ble_eq_true rfl)) dX11_probeNow_88 ⟨Nat.le_of_ble_eq_true rfl, Nat.le_of_ble_eq_true rfl⟩) hS (fun q _ h => hFc q h) hFc (fun r30 u t H locs ht hvm w31 hB hz1 hk1 hS => ?_)
    obtain ⟨hP1, hD1⟩ := hB
    try dsimp only at w31
    obtain ⟨hPa, hDa⟩ := hJn (w1 := []) hk1 ht hP1 hD1
    clear hP hD hPc hDc hFc hJn hP1 hD1 hk1
    have hP : va_P (dC, dI) vwCl [(ra 2, .inl (kI, 8, .inl q_told)), (ra 3, .inl (kI, 24, .inl q_kind)), (ra 4, .inl (kI, 24, .inl q_salt)), (ra 7, .inl (kI, 24, .inl q_late)), (ra 8, .inl (kI, 40, .inl q_from)), (ra 9, .inl (kI, 40, .inl q_to)), (ra 14, .inl (kI, 12, .inl q_reach)), (ra 6, .inl (kI, 24, .inl q_mute)), (ra 10, .inl (kI, 6, .inl q_goal)), (m0, .inr (11, oX11 ra (upd y13 14 0))), (ra 5, .inl (kI, 24, .inl q_pace)), (ra 11, .inl (kI, 1019, .inl f28))] H := hPa
    have hD : va_D A [(ra 2, .inl (kI, 8, .inl q_told)), (ra 3, .inl (kI, 24, .inl q_kind)), (ra 4, .inl (kI, 24, .inl q_salt)), (ra 7, .inl (kI, 24, .inl q_late)), (ra 8, .inl (kI, 40, .inl q_from)), (ra 9, .inl (kI, 40, .inl q_to)), (ra 14, .inl (kI, 12, .inl q_reach)), (ra 6, .inl (kI, 24, .inl q_mute)), (ra 10, .inl (kI, 6, .inl q_goal)), (m0, .inr (11, oX11 ra (upd y13 14 0))), (ra 5, .inl (kI, 24, .inl q_pace)), (ra 11, .inl (kI, 1019, .inl f28))] := hDa
    clear hPa hDa
    refine W.widen (k := 0) (n := 0) (Nat.le_of_ble_eq_true rfl) (Nat.le_of_ble_eq_true rfl) ?_
    obtain ⟨w31, b32⟩ := w31
    subst w31
    refine lv_aload_n hx hb dX11_probeNow_91 rfl (lv_at hl 1 rfl) ?_
    refine va_get (D := (dC, dI)) (ci := 11) (v := .int (y13 16)) (C := RX11) (T := TX11) (N := 61) hx hb hts hin11 hown hK hP 9 rfl rfl 31 (Nat.le_of_ble_eq_true rfl) hw_3 (fun _ h9 => h9) rfl dX11_probeNow_92 ?_
    refine lv_iconst (v := 1) hx hb dX11_probeNow_95 ic_1 ?_
    refine lv_iadd hx hb dX11_probeNow_96 ?_
    refine iv_top (a := 1) (b := 21) (iv_add (hq15 16 : iv 0 20 (y13 16)) ivk_1 (by decide) (by decide) (by decide) (by decide)) (fun z33 b34 => ?_)
    refine va_iast hx hb hK hP hD hS 11 1 rfl rfl (iv_in b32 (by decide) (by decide)) dX11_probeNow_97 (fun H locs hPa hDa hS => ?_)
    clear hP hD
    have hP : va_P (dC, dI) vwCl [(ra 2, .inl (kI, 8, .inl q_told)), (ra 3, .inl (kI, 24, .inl q_kind)), (ra 4, .inl (kI, 24, .inl q_salt)), (ra 7, .inl (kI, 24, .inl q_late)), (ra 8, .inl (kI, 40, .inl q_from)), (ra 9, .inl (kI, 40, .inl q_to)), (ra 14, .inl (kI, 12, .inl q_reach)), (ra 6, .inl (kI, 24, .inl q_mute)), (ra 10, .inl (kI, 6, .inl q_goal)), (m0, .inr (11, oX11 ra (upd y13 14 0))), (ra 5, .inl (kI, 24, .inl q_pace)), (ra 11, .inl (kI, 1019, .inl (upd f28 ((59 + (10 * ((3 * p0) + p1)) + p2) - 1).toNatClampNeg z33)))] H := hPa
    have hD : va_D A [(ra 2, .inl (kI, 8, .inl q_told)), (ra 3, .inl (kI, 24, .inl q_kind)), (ra 4, .inl (kI, 24, .inl q_salt)), (ra 7, .inl (kI, 24, .inl q_late)), (ra 8, .inl (kI, 40, .inl q_from)), (ra 9, .inl (kI, 40, .inl q_to)), (ra 14, .inl (kI, 12, .inl q_reach)), (ra 6, .inl (kI, 24, .inl q_mute)), (ra 10, .inl (kI, 6, .inl q_goal)), (m0, .inr (11, oX11 ra (upd y13 14 0))), (ra 5, .inl (kI, 24, .inl q_pace)), (ra 11, .inl (kI, 1019, .inl (upd f28 ((59 + (10 * ((3 * p0) + p1)) + p2) - 1).toNatClampNeg z33)))] := hDa
    clear hPa hDa
    have hf36 : fI lNow hNow (upd f28 ((59 + (10 * ((3 * p0) + p1)) + p2) - 1).toNatClampNeg z33) := fI_u hq29 (k := ((59 + (10 * ((3 * p0) + p1)) + p2) - 1).toNatClampNeg) (now_ps b32 (by decide) (iv_w b34 (by decide) (by decide)))
    generalize (upd f28 ((59 + (10 * ((3 * p0) + p1)) + p2) - 1).toNatClampNeg z33) = f35 at hP hD hf36
    refine lv_aload_n hx hb dX11_probeNow_98 rfl (lv_at hl 1 rfl) ?_
    refine va_get (D := (dC, dI)) (ci := 11) (v := .int (y13 16)) (C := RX11) (T := TX11) (N := 61) hx hb hts hin11 hown hK hP 9 rfl rfl 31 (Nat.le_of_ble_eq_true rfl) hw_3 (fun _ h9 => h9) rfl dX11_probeNow_99 ?_
    have hPD9 := cl_s (wc := [(m0, .inr (11, oX11 ra (upd y13 14 0))), (ra 2, .inl (kI, 8, .inl q_told)), (ra 3, .inl (kI, 24, .inl q_kind)), (ra 4, .inl (kI, 24, .inl q_salt)), (ra 5, .inl (kI, 24, .inl q_pace)), (ra 6, .inl (kI, 24, .inl q_mute)), (ra 7, .inl (kI, 24, .inl q_late)), (ra 8, .inl (kI, 40, .inl q_from)), (ra 9, .inl (kI, 40, .inl q_to)), (ra 10, .inl (kI, 6, .inl q_goal)), (ra 11, .inl (kI, 1019, .inl f35)), (ra 14, .inl (kI, 12, .inl q_reach))]) hP hD [9, 0, 1, 2, 10, 7, 3, 4, 5, 8, 11, 6] rfl (by decide +kernel)
    have hP9 := hPD9.1
    have hD9 := hPD9.2
    exact W.iret (v := y13 16) hx hb hr (fun t ht hW => ⟨⟨y13 16, (), rfl, (iv_w (hq15 16 : iv 0 20 (y13 16)) (by decide) (by decide)), upd y13 14 0, f35, (fI_u hq15 (k := 14) ((iv_w ivk_0 (by decide) (by decide)))), ivk_0, hf36, (show y13 1 = x0 1 from hq17), (show y13 10 = x0 10 from hq18), (show y13 11 = x0 11 from hq19), by rw [ht]; exact hP9, hD9⟩, hS.F ht⟩) hS.2.2 dX11_probeNow_102
  · have b37 : iv 0 0 r21 := iv_eqL c23 ivk_0
    refine lv_aload_n hx hb dX11_probeNow_45 rfl (lv_at hl 0 rfl) ?_
    refine va_get (D := (dC, dI)) (ci := 11) (v := .ref (ra 11)) (C := RX11) (T := TX11) (N := 61) hx hb hts hin11 hown hK hP 9 rfl rfl 12 (Nat.le_of_ble_eq_true rfl) hw_0 (fun _ h9 => h9) rfl dX11_probeNow_46 ?_
    refine lv_aload_n hx hb dX11_probeNow_49 rfl (lv_at hl 0 rfl) ?_
    refine va_get (D := (dC, dI)) (ci := 11) (v := .int (y13 15)) (C := RX11) (T := TX11) (N := 61) hx hb hts hin11 hown hK hP 9 rfl rfl 30 (Nat.le_of_ble_eq_true rfl) hw_2 (fun _ h9 => h9) rfl dX11_probeNow_50 ?_
    refine lv_iconst (v := (-1)) hx hb dX11_probeNow_53 ic_m1 ?_
    refine lv_icmp_ne (tgt := 62) hx hb dX11_probeNow_54 rfl (fun c38 => ?_) (fun c38 => ?_)
    · have b39 : iv 0 11 (y13 15) := iv_neLo c38 (hq15 15 : iv (-1) 11 (y13 15)) ivk_m1 (by decide) (by decide)
      refine lv_bipush (v := 57) hx hb dX11_probeNow_62 bp_57 ?_
      refine lv_dup2_11 hx hb dX11_probeNow_64 rfl rfl ?_
      refine va_iald hx hb hK hP 7 1 rfl rfl (vp_in_nI (n := 57) (by decide) (by decide)) dX11_probeNow_65 ?_
      refine W.eq (g2 := F0 m 66 ls [.int (f14 57), .int 57, .ref (ra 11)]) rfl ?_
      refine lv_iconst (v := 1) hx hb dX11_probeNow_66 ic_1 ?_
      refine lv_iadd hx hb dX11_probeNow_67 ?_
      refine lv_topi (fun z40 _ => ?_)
      refine va_iast hx hb hK hP hD hS 7 1 rfl rfl (vp_in_nI (n := 57) (by decide) (by decide)) dX11_probeNow_68 (fun H locs hPa hDa hS => ?_)
      clear hP hD
      have hP : va_P (dC, dI) vwCl [(ra 5, .inl (kI, 24, .inl q_pace)), (ra 2, .inl (kI, 8, .inl q_told)), (ra 3, .inl (kI, 24, .inl q_kind)), (ra 4, .inl (kI, 24, .inl q_salt)), (ra 7, .inl (kI, 24, .inl q_late)), (ra 8, .inl (kI, 40, .inl q_from)), (ra 9, .inl (kI, 40, .inl q_to)), (ra 11, .inl (kI, 1019, .inl (upd f14 57 z40))), (ra 14, .inl (kI, 12, .inl q_reach)), (m0, .inr (11, oX11 ra (upd y13 14 0))), (ra 6, .inl (kI, 24, .inl q_mute)), (ra 10, .inl (kI, 6, .inl q_goal))] H := hPa
      have hD : va_D A [(ra 5, .inl (kI, 24, .inl q_pace)), (ra 2, .inl (kI, 8, .inl q_told)), (ra 3, .inl (kI, 24, .inl q_kind)), (ra 4, .inl (kI, 24, .inl q_salt)), (ra 7, .inl (kI, 24, .inl q_late)), (ra 8, .inl (kI, 40, .inl q_from)), (ra 9, .inl (kI, 40, .inl q_to)), (ra 11, .inl (kI, 1019, .inl (upd f14 57 z40))), (ra 14, .inl (kI, 12, .inl q_reach)), (m0, .inr (11, oX11 ra (upd y13 14 0))), (ra 6, .inl (kI, 24, .inl q_mute)), (ra 10, .inl (kI, 6, .inl q_goal))] := hDa
      clear hPa hDa
      have hf42 : fI lNow hNow (upd f14 57 z40) := fI_u hq16 (k := 57) ((iv_t z40))
      generalize (upd f14 57 z40) = f41 at hP hD hf42
      refine lv_iconst (v := (-1)) hx hb dX11_probeNow_69 ic_m1 ?_
      have hPD9 := cl_s (wc := [(m0, .inr (11, oX11 ra (upd y13 14 0))), (ra 2, .inl (kI, 8, .inl q_told)), (ra 3, .inl (kI, 24, .inl q_kind)), (ra 4, .inl (kI, 24, .inl q_salt)), (ra 5, .inl (kI, 24, .inl q_pace)), (ra 6, .inl (kI, 24, .inl q_mute)), (ra 7, .inl (kI, 24, .inl q_late)), (ra 8, .inl (kI, 40, .inl q_from)), (ra 9, .inl (kI, 40, .inl q_to)), (ra 10, .inl (kI, 6, .inl q_goal)), (ra 11, .inl (kI, 1019, .inl f41)), (ra 14, .inl (kI, 12, .inl q_reach))]) hP hD [9, 1, 2, 3, 0, 10, 4, 5, 6, 11, 7, 8] rfl (by decide +kernel)
      have hP9 := hPD9.1
      have hD9 := hPD9.2
      exact W.iret (v := (-1)) hx hb hr (fun t ht hW => ⟨⟨(-1), (), rfl, (iv_w ivk_m1 (by decide) (by decide)), upd y13 14 0, f41, (fI_u hq15 (k := 14) ((iv_w ivk_0 (by decide) (by decide)))), ivk_0, hf42, (show y13 1 = x0 1 from hq17), (show y13 10 = x0 10 from hq18), (show y13 11 = x0 11 from hq19), by rw [ht]; exact hP9, hD9⟩, hS.F ht⟩) hS.2.2 dX11_probeNow_70
    · have b43 : iv (-1) (-1) (y13 15) := iv_eqL c38 ivk_m1
      refine lv_bipush (v := 58) hx hb dX11_probeNow_57 bp_58 ?_
      refine lv_goto (tgt := 64) hx hb dX11_probeNow_59 rfl ?_
      refine lv_dup2_11 hx hb dX11_probeNow_64 rfl rfl ?_
      refine va_iald hx hb hK hP 7 1 rfl rfl (vp_in_nI (n := 58) (by decide) (by decide)) dX11_probeNow_65 ?_
      refine W.eq (g2 := F0 m 66 ls [.int (f14 58), .int 58, .ref (ra 11)]) rfl ?_
      refine lv_iconst (v := 1) hx hb dX11_probeNow_66 ic_1 ?_
      refine lv_iadd hx hb dX11_probeNow_67 ?_
      refine lv_topi (fun z44 _ => ?_)
      refine va_iast hx hb hK hP hD hS 7 1 rfl rfl (vp_in_nI (n := 58) (by decide) (by decide)) dX11_probeNow_68 (fun H locs hPa hDa hS => ?_)
      clear hP hD
      have hP : va_P (dC, dI) vwCl [(ra 5, .inl (kI, 24, .inl q_pace)), (ra 2, .inl (kI, 8, .inl q_told)), (ra 3, .inl (kI, 24, .inl q_kind)), (ra 4, .inl (kI, 24, .inl q_salt)), (ra 7, .inl (kI, 24, .inl q_late)), (ra 8, .inl (kI, 40, .inl q_from)), (ra 9, .inl (kI, 40, .inl q_to)), (ra 11, .inl (kI, 1019, .inl (upd f14 58 z44))), (ra 14, .inl (kI, 12, .inl q_reach)), (m0, .inr (11, oX11 ra (upd y13 14 0))), (ra 6, .inl (kI, 24, .inl q_mute)), (ra 10, .inl (kI, 6, .inl q_goal))] H := hPa
      have hD : va_D A [(ra 5, .inl (kI, 24, .inl q_pace)), (ra 2, .inl (kI, 8, .inl q_told)), (ra 3, .inl (kI, 24, .inl q_kind)), (ra 4, .inl (kI, 24, .inl q_salt)), (ra 7, .inl (kI, 24, .inl q_late)), (ra 8, .inl (kI, 40, .inl q_from)), (ra 9, .inl (kI, 40, .inl q_to)), (ra 11, .inl (kI, 1019, .inl (upd f14 58 z44))), (ra 14, .inl (kI, 12, .inl q_reach)), (m0, .inr (11, oX11 ra (upd y13 14 0))), (ra 6, .inl (kI, 24, .inl q_mute)), (ra 10, .inl (kI, 6, .inl q_goal))] := hDa
      clear hPa hDa
      have hf46 : fI lNow hNow (upd f14 58 z44) := fI_u hq16 (k := 58) ((iv_t z44))
      generalize (upd f14 58 z44) = f45 at hP hD hf46
      refine lv_iconst (v := (-1)) hx hb dX11_probeNow_69 ic_m1 ?_
      have hPD9 := cl_s (wc := [(m0, .inr (11, oX11 ra (upd y13 14 0))), (ra 2, .inl (kI, 8, .inl q_told)), (ra 3, .inl (kI, 24, .inl q_kind)), (ra 4, .inl (kI, 24, .inl q_salt)), (ra 5, .inl (kI, 24, .inl q_pace)), (ra 6, .inl (kI, 24, .inl q_mute)), (ra 7, .inl (kI, 24, .inl q_late)), (ra 8, .inl (kI, 40, .inl q_from)), (ra 9, .inl (kI, 40, .inl q_to)), (ra 10, .inl (kI, 6, .inl q_goal)), (ra 11, .inl (kI, 1019, .inl f45)), (ra 14, .inl (kI, 12, .inl q_reach))]) hP hD [9, 1, 2, 3, 0, 10, 4, 5, 6, 11, 7, 8] rfl (by decide +kernel)
      have hP9 := hPD9.1
      have hD9 := hPD9.2
      exact W.iret (v := (-1)) hx hb hr (fun t ht hW => ⟨⟨(-1), (), rfl, (iv_w ivk_m1 (by decide) (by decide)), upd y13 14 0, f45, (fI_u hq15 (k := 14) ((iv_w ivk_0 (by decide) (by decide)))), ivk_0, hf46, (show y13 1 = x0 1 from hq17), (show y13 10 = x0 10 from hq18), (show y13 11 = x0 11 from hq19), by rw [ht]; exact hP9, hD9⟩, hS.F ht⟩) hS.2.2 dX11_probeNow_70
def rm_s11_sweepNow : Room := { frames := 5, cells := 0, slots := 0, locals := 130 }
set_option maxHeartbeats 4000000 in
set_option maxRecDepth 100000 in
theorem s11_sweepNow (l : Launch) (dC : Nat → ClassId) (dI : Nat → Nat → Nat) (kB kI kJ kZ kC kS : ClassId) (sz : Nat) (m0 : Nat) (ra : Nat → Nat) (x0 : Nat → Int32) (q_told : Nat → Int32) (q_kind : Nat → Int32) (q_salt : Nat → Int32) (q_pace : Nat → Int32) (q_mute : Nat → Int32) (q_late : Nat → Int32) (q_from : Nat → Int32) (q_to : Nat → Int32) (q_goal : Nat → Int32) (q_now : Nat → Int32) (q_reach : Nat → Int32) (q_met : Nat → Int64) (p0 : Int32) (p1 : Int32) (hX : fI lX11 hX11 x0) (hq_told : fI lTold hTold q_told) (hq_salt : fI (fun _ => 0) (fun _ => 15) q_salt) (hq_from : fI (fun _ => 0) (fun _ => 11) q_from) (hq_to : fI (fun _ => 0) (fun _ => 11) q_to) (hq_goal : fI (fun _ => 0) (fun _ => 11) q_goal) (hq_now : fI lNow hNow q_now) (hp0 : iv 0 2 p0) (hp1 : iv 1 10 p1) (hLT : ∀ j : Nat, (j : Int) < (q_told 1).toInt → (q_from j).toInt < (q_to j).toInt) (hfl14 : iv 0 0 (x0 14)) : Met l yX11_sweepNow wsX11_sweepNow rm_s11_sweepNow (va_Pc [.ref m0, .int p0, .int p1] (fun U => U.heap.size = sz ∧ va_P (dC, dI) vwCl [(m0, .inr (11, oX11 ra x0)), (ra 2, .inl (kI, 8, .inl q_told)), (ra 3, .inl (kI, 24, .inl q_kind)), (ra 4, .inl (kI, 24, .inl q_salt)), (ra 5, .inl (kI, 24, .inl q_pace)), (ra 6, .inl (kI, 24, .inl q_mute)), (ra 7, .inl (kI, 24, .inl q_late)), (ra 8, .inl (kI, 40, .inl q_from)), (ra 9, .inl (kI, 40, .inl q_to)), (ra 10, .inl (kI, 6, .inl q_goal)), (ra 11, .inl (kI, 1019, .inl q_now)), (ra 14, .inl (kI, 12, .inl q_reach)), (ra 15, .inl (kJ, 24, .inr (.inl q_met)))] U.heap ∧ kE dC dI kB kI kJ kZ kC kS U ∧ va_D (fun _ => True) [(m0, .inr (11, oX11 ra x0)), (ra 2, .inl (kI, 8, .inl q_told)), (ra 3, .inl (kI, 24, .inl q_kind)), (ra 4, .inl (kI, 24, .inl q_salt)), (ra 5, .inl (kI, 24, .inl q_pace)), (ra 6, .inl (kI, 24, .inl q_mute)), (ra 7, .inl (kI, 24, .inl q_late)), (ra 8, .inl (kI, 40, .inl q_from)), (ra 9, .inl (kI, 40, .inl q_to)), (ra 10, .inl (kI, 6, .inl q_goal)), (ra 11, .inl (kI, 1019, .inl q_now)), (ra 14, .inl (kI, 12, .inl q_reach)), (ra 15, .inl (kJ, 24, .inr (.inl q_met)))])) (va_Qi (fun (r : Int32) (_ : Unit) => iv 0 32 r) (fun _ t => ∃ (x0' : Nat → Int32) (q_now' : Nat → Int32) (q_met' : Nat → Int64), fI lX11 hX11 x0' ∧ iv 0 0 (x0' 14) ∧ fI lNow hNow q_now' ∧ (x0' 1 = x0 1) ∧ (x0' 10 = x0 10) ∧ (x0' 11 = x0 11) ∧ va_P (dC, dI) vwCl [(m0, .inr (11, oX11 ra x0')), (ra 2, .inl (kI, 8, .inl q_told)), (ra 3, .inl (kI, 24, .inl q_kind)), (ra 4, .inl (kI, 24, .inl q_salt)), (ra 5, .inl (kI, 24, .inl q_pace)), (ra 6, .inl (kI, 24, .inl q_mute)), (ra 7, .inl (kI, 24, .inl q_late)), (ra 8, .inl (kI, 40, .inl q_from)), (ra 9, .inl (kI, 40, .inl q_to)), (ra 10, .inl (kI, 6, .inl q_goal)), (ra 11, .inl (kI, 1019, .inl q_now')), (ra 14, .inl (kI, 12, .inl q_reach)), (ra 15, .inl (kJ, 24, .inr (.inl q_met')))] t.heap ∧ va_D (va_A [(m0, .inr (11, oX11 ra x0)), (ra 2, .inl (kI, 8, .inl q_told)), (ra 3, .inl (kI, 24, .inl q_kind)), (ra 4, .inl (kI, 24, .inl q_salt)), (ra 5, .inl (kI, 24, .inl q_pace)), (ra 6, .inl (kI, 24, .inl q_mute)), (ra 7, .inl (kI, 24, .inl q_late)), (ra 8, .inl (kI, 40, .inl q_from)), (ra 9, .inl (kI, 40, .inl q_to)), (ra 10, .inl (kI, 6, .inl q_goal)), (ra 11, .inl (kI, 1019, .inl q_now)), (ra 14, .inl (kI, 12, .inl q_reach)), (ra 15, .inl (kJ, 24, .inr (.inl q_met)))] sz) [(m0, .inr (11, oX11 ra x0')), (ra 2, .inl (kI, 8, .inl q_told)), (ra 3, .inl (kI, 24, .inl q_kind)), (ra 4, .inl (kI, 24, .inl q_salt)), (ra 5, .inl (kI, 24, .inl q_pace)), (ra 6, .inl (kI, 24, .inl q_mute)), (ra 7, .inl (kI, 24, .inl q_late)), (ra 8, .inl (kI, 40, .inl q_from)), (ra 9, .inl (kI, 40, .inl q_to)), (ra 10, .inl (kI, 6, .inl q_goal)), (ra 11, .inl (kI, 1019, .inl q_now')), (ra 14, .inl (kI, 12, .inl q_reach)), (ra 15, .inl (kJ, 24, .inr (.inl q_met')))]) (va_A [(m0, .inr (11, oX11 ra x0)), (ra 2, .inl (kI, 8, .inl q_told)), (ra 3, .inl (kI, 24, .inl q_kind)), (ra 4, .inl (kI, 24, .inl q_salt)), (ra 5, .inl (kI, 24, .inl q_pace)), (ra 6, .inl (kI, 24, .inl q_mute)), (ra 7, .inl (kI, 24, .inl q_late)), (ra 8, .inl (kI, 40, .inl q_from)), (ra 9, .inl (kI, 40, .inl q_to)), (ra 10, .inl (kI, 6, .inl q_goal)), (ra 11, .inl (kI, 1019, .inl q_now)), (ra 14, .inl (kI, 12, .inl q_reach)), (ra 15, .inl (kJ, 24, .inr (.inl q_met)))] sz)) 0 0 (va_A [(m0, .inr (11, oX11 ra x0)), (ra 2, .inl (kI, 8, .inl q_told)), (ra 3, .inl (kI, 24, .inl q_kind)), (ra 4, .inl (kI, 24, .inl q_salt)), (ra 5, .inl (kI, 24, .inl q_pace)), (ra 6, .inl (kI, 24, .inl q_mute)), (ra 7, .inl (kI, 24, .inl q_late)), (ra 8, .inl (kI, 40, .inl q_from)), (ra 9, .inl (kI, 40, .inl q_to)), (ra 10, .inl (kI, 6, .inl q_goal)), (ra 11, .inl (kI, 1019, .inl q_now)), (ra 14, .inl (kI, 12, .inl q_reach)), (ra 15, .inl (kJ, 24, .inr (.inl q_met)))] sz) := by
  refine Met.ofW (cc := cX11_sweepNow) (maxL := 7) (ret := (some .int)) (by decide) rfl ?_
  intro p e s m args0 below meth c s₁ B hml hv
  obtain ⟨hargs, hsz, hP, hE, hD0⟩ := hv
  have hx := B.exec
  have hb := B.bytes
  have hr := B.returns
  have hts := atoms_spec (ws := wsX11_sweepNow) B.pre
  have hown : s.vm.findClass RX11 = some m.cls := findClass_of_methodNamed B.named
  have hlocks := B.notSynchronized
  have hK := hE.1
  have hin11 : ∀ w ∈ wsX110, w ∈ wsX11_sweepNow := fun _ h9 => List.mem_cons_of_mem _ (List.mem_append_right _ h9)
  have hw_0 := hts (.methodLink RX11 175 Lib.Math.min.name) (List.mem_of_getElem? (i := 1) rfl)
  have hw_1 := hts (.static Lib.Math.min.name) (List.mem_of_getElem? (i := 2) rfl)
  have hw_2 := hts (.initialized "java/lang/Math") (List.mem_of_getElem? (i := 3) rfl)
  have hw_3 := hts (.code Lib.Math.min.name Lib.Math.min.code 2 (some .int)) (List.mem_of_getElem? (i := 4) rfl)
  have hw_4 := hts (.methodLink RX11 328 Lib.Math.max.name) (List.mem_of_getElem? (i := 5) rfl)
  have hw_5 := hts (.static Lib.Math.max.name) (List.mem_of_getElem? (i := 6) rfl)
  have hw_6 := hts (.code Lib.Math.max.name Lib.Math.max.code 2 (some .int)) (List.mem_of_getElem? (i := 7) rfl)
  subst hsz
  have hD := hD0.self (sz := s.heap.size)
  generalize hAe : va_A [(m0, .inr (11, oX11 ra x0)), (ra 2, .inl (kI, 8, .inl q_told)), (ra 3, .inl (kI, 24, .inl q_kind)), (ra 4, .inl (kI, 24, .inl q_salt)), (ra 5, .inl (kI, 24, .inl q_pace)), (ra 6, .inl (kI, 24, .inl q_mute)), (ra 7, .inl (kI, 24, .inl q_late)), (ra 8, .inl (kI, 40, .inl q_from)), (ra 9, .inl (kI, 40, .inl q_to)), (ra 10, .inl (kI, 6, .inl q_goal)), (ra 11, .inl (kI, 1019, .inl q_now)), (ra 14, .inl (kI, 12, .inl q_reach)), (ra 15, .inl (kJ, 24, .inr (.inl q_met)))] s.heap.size = A at hD ⊢
  have hA : ∀ q : Nat, s.heap.size ≤ q → A q := fun q h => by rw [← hAe]; exact Or.inr h
  have hS : va_S A s.heap s.heap [] := va_S.rf
  have hP : va_P (dC, dI) vwCl [(m0, .inr (11, oX11 ra x0)), (ra 2, .inl (kI, 8, .inl q_told)), (ra 3, .inl (kI, 24, .inl q_kind)), (ra 4, .inl (kI, 24, .inl q_salt)), (ra 5, .inl (kI, 24, .inl q_pace)), (ra 6, .inl (kI, 24, .inl q_mute)), (ra 7, .inl (kI, 24, .inl q_late)), (ra 8, .inl (kI, 40, .inl q_from)), (ra 9, .inl (kI, 40, .inl q_to)), (ra 10, .inl (kI, 6, .inl q_goal)), (ra 11, .inl (kI, 1019, .inl q_now)), (ra 14, .inl (kI, 12, .inl q_reach)), (ra 15, .inl (kJ, 24, .inr (.inl q_met)))] s.heap := hP
  have hl := lv_entry ([.ref m0, .int p0, .int p1]) (n := 7) (Nat.le_of_ble_eq_true rfl)
  have hla : entryFrame m args0 7 = entryFrame m ([.ref m0, .int p0, .int p1] : List Value).toArray 7 := by rw [hargs]
  rw [hla, lg_entry_eq]
  generalize (lg_sl ([.ref m0, .int p0, .int p1]) ++ List.replicate (7 - (lg_sl ([.ref m0, .int p0, .int p1])).length) Slot.unset).toArray = ls at hl ⊢
  have hl : lv_has ls 7 [(0, .ref m0), (1, .int p0), (2, .int p1)] := hl
  have hJ10 : ∀ (n : Nat) (y10_0 : Nat → Int32) (g10_10 : Nat → Int32) (g10_12 : Nat → Int64) (v10_loc3 : Int32) (v10_loc4 : Int32) (H : Heap) (locs : List Loc) (ls : Array Slot), (32 - v10_loc3.toInt).toNat < n → fI lX11 hX11 y10_0 → fI lNow hNow g10_10 → iv 0 32 v10_loc3 → iv 0 1 v10_loc4 → iv 0 0 (y10_0 14) → (v10_loc4 = 0 ∨ iv 0 31 v10_loc3) → (y10_0 1 = x0 1) → (y10_0 10 = x0 10) → (y10_0 11 = x0 11) → va_P (dC, dI) vwCl [(m0, .inr (11, oX11 ra y10_0)), (ra 2, .inl (kI, 8, .inl q_told)), (ra 3, .inl (kI, 24, .inl q_kind)), (ra 4, .inl (kI, 24, .inl q_salt)), (ra 5, .inl (kI, 24, .inl q_pace)), (ra 6, .inl (kI, 24, .inl q_mute)), (ra 7, .inl (kI, 24, .inl q_late)), (ra 8, .inl (kI, 40, .inl q_from)), (ra 9, .inl (kI, 40, .inl q_to)), (ra 10, .inl (kI, 6, .inl q_goal)), (ra 11, .inl (kI, 1019, .inl g10_10)), (ra 14, .inl (kI, 12, .inl q_reach)), (ra 15, .inl (kJ, 24, .inr (.inl g10_12)))] H → va_D A [(m0, .inr (11, oX11 ra y10_0)), (ra 2, .inl (kI, 8, .inl q_told)), (ra 3, .inl (kI, 24, .inl q_kind)), (ra 4, .inl (kI, 24, .inl q_salt)), (ra 5, .inl (kI, 24, .inl q_pace)), (ra 6, .inl (kI, 24, .inl q_mute)), (ra 7, .inl (kI, 24, .inl q_late)), (ra 8, .inl (kI, 40, .inl q_from)), (ra 9, .inl (kI, 40, .inl q_to)), (ra 10, .inl (kI, 6, .inl q_goal)), (ra 11, .inl (kI, 1019, .inl g10_10)), (ra 14, .inl (kI, 12, .inl q_reach)), (ra 15, .inl (kJ, 24, .inr (.inl g10_12)))] → va_S A s.heap H locs → lv_has ls 7 [(0, .ref m0), (1, .int p0), (2, .int p1), (3, .int v10_loc3), (4, .int v10_loc4)] → W p l e (headSpec wsX11_sweepNow rm_s11_sweepNow).room s m args0 below meth c H locs (0) (0) (MQ below (va_Qi (fun (r : Int32) (_ : Unit) => iv 0 32 r) (fun _ t => ∃ (x0' : Nat → Int32) (q_now' : Nat → Int32) (q_met' : Nat → Int64), fI lX11 hX11 x0' ∧ iv 0 0 (x0' 14) ∧ fI lNow hNow q_now' ∧ (x0' 1 = x0 1) ∧ (x0' 10 = x0 10) ∧ (x0' 11 = x0 11) ∧ va_P (dC, dI) vwCl [(m0, .inr (11, oX11 ra x0')), (ra 2, .inl (kI, 8, .inl q_told)), (ra 3, .inl (kI, 24, .inl q_kind)), (ra 4, .inl (kI, 24, .inl q_salt)), (ra 5, .inl (kI, 24, .inl q_pace)), (ra 6, .inl (kI, 24, .inl q_mute)), (ra 7, .inl (kI, 24, .inl q_late)), (ra 8, .inl (kI, 40, .inl q_from)), (ra 9, .inl (kI, 40, .inl q_to)), (ra 10, .inl (kI, 6, .inl q_goal)), (ra 11, .inl (kI, 1019, .inl q_now')), (ra 14, .inl (kI, 12, .inl q_reach)), (ra 15, .inl (kJ, 24, .inr (.inl q_met')))] t.heap ∧ va_D A [(m0, .inr (11, oX11 ra x0')), (ra 2, .inl (kI, 8, .inl q_told)), (ra 3, .inl (kI, 24, .inl q_kind)), (ra 4, .inl (kI, 24, .inl q_salt)), (ra 5, .inl (kI, 24, .inl q_pace)), (ra 6, .inl (kI, 24, .inl q_mute)), (ra 7, .inl (kI, 24, .inl q_late)), (ra 8, .inl (kI, 40, .inl q_from)), (ra 9, .inl (kI, 40, .inl q_to)), (ra 10, .inl (kI, 6, .inl q_goal)), (ra 11, .inl (kI, 1019, .inl q_now')), (ra 14, .inl (kI, 12, .inl q_reach)), (ra 15, .inl (kJ, 24, .inr (.inl q_met')))]) A) args0 s 0 0 A) (F0 m 10 ls []) := by
    intro n
    induction n with
    | zero => intro y10_0 g10_10 g10_12 v10_loc3 v10_loc4 H locs ls hm10; exact absurd hm10 (Nat.not_lt_zero _)
    | succ n ih10 =>
      intro y10_0 g10_10 g10_12 v10_loc3 v10_loc4 H locs ls hm10 hI10_0 hI10_10 h10_3 h10_4 h10_5 hmo_10 htp_10 hfp_10 hor_10 hP hD hS hl
      refine lv_iload hx hb dX11_sweepNow_10 (lv_at hl 4 rfl) ?_
      refine lv_if_eq (tgt := 79) hx hb dX11_sweepNow_12 rfl (fun c1 => ?_) (fun c1 => ?_)
      · have b2 : iv 0 0 v10_loc4 := iv_eqL c1 ivk_0
        refine lv_iload_n hx hb dX11_sweepNow_79 rfl (lv_at hl 3 rfl) ?_
        have hP9 := hP
        have hD9 := hD
        exact W.iret (v := v10_loc3) hx hb hr (fun t ht hW => ⟨⟨v10_loc3, (), rfl, h10_3, y10_0, g10_10, g10_12, hI10_0, h10_5, hI10_10, (show y10_0 1 = x0 1 from htp_10), (show y10_0 10 = x0 10 from hfp_10), (show y10_0 11 = x0 11 from hor_10), by rw [ht]; exact hP9, hD9⟩, hS.F ht⟩) hS.2.2 dX11_sweepNow_80
      · have b3 : iv 1 1 v10_loc4 := iv_neLo c1 h10_4 ivk_0 (by decide) (by decide)
        have b4 : iv 0 31 v10_loc3 := hmo_10.resolve_left (iv_ne b3 ivk_0 (by decide))
        refine lv_aload_n hx hb dX11_sweepNow_15 rfl (lv_at hl 0 rfl) ?_
        refine lv_iload_n hx hb dX11_sweepNow_16 rfl (lv_at hl 3 rfl) ?_
        refine lv_iload_n hx hb dX11_sweepNow_17 rfl (lv_at hl 1 rfl) ?_
        refine lv_iload_n hx hb dX11_sweepNow_18 rfl (lv_at hl 2 rfl) ?_
        refine lv_iconst (v := 2) hx hb dX11_sweepNow_19 ic_2 ?_
        obtain ⟨hPc, hDc, hFc, hJn⟩ := cl_a (wc := [(m0, .inr (11, oX11 ra y10_0)), (ra 2, .inl (kI, 8, .inl q_told)), (ra 3, .inl (kI, 24, .inl q_kind)), (ra 4, .inl (kI, 24, .inl q_salt)), (ra 5, .inl (kI, 24, .inl q_pace)), (ra 6, .inl (kI, 24, .inl q_mute)), (ra 7, .inl (kI, 24, .inl q_late)), (ra 8, .inl (kI, 40, .inl q_from)), (ra 9, .inl (kI, 40, .inl q_to)), (ra 10, .inl (kI, 6, .inl q_goal)), (ra 11, .inl (kI, 1019, .inl g10_10)), (ra 14, .inl (kI, 12, .inl q_reach))]) (wr := [(ra 15, .inl (kJ, 24, .inr (.inl g10_12)))]) hP hD hS hA [0, 1, 2, 3, 4, 5, 6, 7, 8, 9, 10, 11] [12] rfl rfl (by decide +kernel)
        refine va_calli (va_runV (As := [.int v10_loc3, .int p0, .int p1, .int 2]) (rest := []) ⟨hx, hb, hml, hown, hts⟩ (s11_probeNow l dC dI kB kI kJ kZ kC kS H.size m0 ra y10_0 q_told q_kind q_salt q_pace q_mute q_late q_from q_to q_goal g10_10 q_reach v10_loc3 p0 p1 2 (hI10_0) (hq_told) (hq_salt) (hq_from) (hq_to) (hq_goal) (hI10_10) (b4) (hp0) (hp1) (hLT)) (cwV 4 hts gX11_sweepNow_X11_probeNow rfl rfl rfl (by decide +kernel) ⟨Nat.le_of_ble_eq_true rfl, Nat.le_of_ble_eq_true rfl⟩) ⟨fun a U g mk q => by obtain ⟨q0, q1, qP, qE, qD⟩ := q; exact ⟨q0, q1, qP, kE_call qE, qD⟩, va_recv hK hP (ci := 11) (q0 := 0) rfl rfl, fun U hU hW => ⟨rfl, by rw [hU], by rw [hU]; exact hPc, kE_warm hW hE, hDc.weaken (fun _ _ _ _ => trivial)⟩⟩ rfl rfl hl.1 rfl (lv_room (Nat.le_of_ble_eq_true rfl)) dX11_sweepNow_20 ⟨Nat.le_of_ble_eq_true rfl, Nat.le_of_ble_eq_true rfl⟩) hS (fun q _ h => hFc q h) hFc (fun r5 u t H locs ht hvm w6 hB hz1 hk1 hS => ?_)
        obtain ⟨y7, f8, hq9, hq10, hq11, hq12, hq13, hq14, hP1, hD1⟩ := hB
        try dsimp only at w6
        obtain ⟨hPa, hDa⟩ := hJn (w1 := [(m0, .inr (11, oX11 ra y7)), (ra 2, .inl (kI, 8, .inl q_told)), (ra 3, .inl (kI, 24, .inl q_kind)), (ra 4, .inl (kI, 24, .inl q_salt)), (ra 5, .inl (kI, 24, .inl q_pace)), (ra 6, .inl (kI, 24, .inl q_mute)), (ra 7, .inl (kI, 24, .inl q_late)), (ra 8, .inl (kI, 40, .inl q_from)), (ra 9, .inl (kI, 40, .inl q_to)), (ra 10, .inl (kI, 6, .inl q_goal)), (ra 11, .inl (kI, 1019, .inl f8)), (ra 14, .inl (kI, 12, .inl q_reach))]) hk1 ht hP1 hD1
        clear hP hD hPc hDc hFc hJn hP1 hD1 hk1
        have hP : va_P (dC, dI) vwCl [(ra 15, .inl (kJ, 24, .inr (.inl g10_12))), (m0, .inr (11, oX11 ra y7)), (ra 2, .inl (kI, 8, .inl q_told)), (ra 3, .inl (kI, 24, .inl q_kind)), (ra 4, .inl (kI, 24, .inl q_salt)), (ra 5, .inl (kI, 24, .inl q_pace)), (ra 6, .inl (kI, 24, .inl q_mute)), (ra 7, .inl (kI, 24, .inl q_late)), (ra 8, .inl (kI, 40, .inl q_from)), (ra 9, .inl (kI, 40, .inl q_to)), (ra 10, .inl (kI, 6, .inl q_goal)), (ra 11, .inl (kI, 1019, .inl f8)), (ra 14, .inl (kI, 12, .inl q_reach))] H := hPa
        have hD : va_D A [(ra 15, .inl (kJ, 24, .inr (.inl g10_12))), (m0, .inr (11, oX11 ra y7)), (ra 2, .inl (kI, 8, .inl q_told)), (ra 3, .inl (kI, 24, .inl q_kind)), (ra 4, .inl (kI, 24, .inl q_salt)), (ra 5, .inl (kI, 24, .inl q_pace)), (ra 6, .inl (kI, 24, .inl q_mute)), (ra 7, .inl (kI, 24, .inl q_late)), (ra 8, .inl (kI, 40, .inl q_from)), (ra 9, .inl (kI, 40, .inl q_to)), (ra 10, .inl (kI, 6, .inl q_goal)), (ra 11, .inl (kI, 1019, .inl f8)), (ra 14, .inl (kI, 12, .inl q_reach))] := hDa
        clear hPa hDa
        refine W.widen (k := 0) (n := 0) (Nat.le_of_ble_eq_true rfl) (Nat.le_of_ble_eq_true rfl) ?_
        refine lv_istore (lv' := [(5, .int r5), (0, .ref m0), (1, .int p0), (2, .int p1), (3, .int v10_loc3), (4, .int v10_loc4)]) hx hb dX11_sweepNow_23 hl (Nat.le_of_ble_eq_true rfl) rfl (fun ls hl => ?_)
        refine lv_iinc (v := v10_loc3 + Int32.ofInt 1) (lv' := [(3, .int (v10_loc3 + Int32.ofInt 1)), (5, .int r5), (0, .ref m0), (1, .int p0), (2, .int p1), (4, .int v10_loc4)]) hx hb dX11_sweepNow_25 hl (k := 4) rfl (rfl) (Nat.le_of_ble_eq_true rfl) rfl (fun ls hl => ?_)
        have b15 : iv 1 32 (v10_loc3 + Int32.ofInt 1) := iv_add b4 ivo_1 (by decide) (by decide) (by decide) (by decide)
        refine lv_aload_n hx hb dX11_sweepNow_28 rfl (lv_at hl 2 rfl) ?_
        refine lv_iconst (v := 1) hx hb dX11_sweepNow_29 ic_1 ?_
        refine lv_iconst (v := 4) hx hb dX11_sweepNow_30 ic_4 ?_
        refine lv_aload_n hx hb dX11_sweepNow_31 rfl (lv_at hl 2 rfl) ?_
        refine lv_iload_n hx hb dX11_sweepNow_32 rfl (lv_at hl 3 rfl) ?_
        refine lv_iload_n hx hb dX11_sweepNow_33 rfl (lv_at hl 4 rfl) ?_
        obtain ⟨hPc, hDc, hFc, hJn⟩ := cl_a (wc := [(m0, .inr (11, oX11 ra y7)), (ra 11, .inl (kI, 1019, .inl f8))]) (wr := [(ra 15, .inl (kJ, 24, .inr (.inl g10_12))), (ra 2, .inl (kI, 8, .inl q_told)), (ra 3, .inl (kI, 24, .inl q_kind)), (ra 4, .inl (kI, 24, .inl q_salt)), (ra 5, .inl (kI, 24, .inl q_pace)), (ra 6, .inl (kI, 24, .inl q_mute)), (ra 7, .inl (kI, 24, .inl q_late)), (ra 8, .inl (kI, 40, .inl q_from)), (ra 9, .inl (kI, 40, .inl q_to)), (ra 10, .inl (kI, 6, .inl q_goal)), (ra 14, .inl (kI, 12, .inl q_reach))]) hP hD hS hA [1, 11] [0, 2, 3, 4, 5, 6, 7, 8, 9, 10, 12] rfl rfl (by decide +kernel)
        refine va_calli (va_runV (As := [.int p0, .int p1]) (rest := [.int 4, .int 1, .ref m0]) ⟨hx, hb, hml, hown, hts⟩ (s11_addresses l dC dI kB kI kJ kZ kC kS H.size m0 ra y7 f8 p0 p1 (hq9) (hq11) (hp0) (hp1)) (cwV 2 hts gX11_sweepNow_X11_addresses rfl rfl rfl (by decide +kernel) ⟨Nat.le_of_ble_eq_true rfl, Nat.le_of_ble_eq_true rfl⟩) ⟨fun a U g mk q => by obtain ⟨q0, q1, qP, qE, qD⟩ := q; exact ⟨q0, q1, qP, kE_call qE, qD⟩, va_recv hK hP (ci := 11) (q0 := 1) rfl rfl, fun U hU hW => ⟨rfl, by rw [hU], by rw [hU]; exact hPc, kE_warm hW hE, hDc.weaken (fun _ _ _ _ => trivial)⟩⟩ rfl rfl hl.1 rfl (lv_room (Nat.le_of_ble_eq_true rfl)) dX11_sweepNow_34 ⟨Nat.le_of_ble_eq_true rfl, Nat.le_of_ble_eq_true rfl⟩) hS (fun q _ h => hFc q h) hFc (fun r16 u t H locs ht hvm w17 hB hz1 hk1 hS => ?_)
        obtain ⟨hP1, hD1⟩ := hB
        try dsimp only at w17
        obtain ⟨hPa, hDa⟩ := hJn (w1 := [(m0, .inr (11, oX11 ra y7)), (ra 11, .inl (kI, 1019, .inl f8))]) hk1 ht hP1 hD1
        clear hP hD hPc hDc hFc hJn hP1 hD1 hk1
        have hP : va_P (dC, dI) vwCl [(ra 15, .inl (kJ, 24, .inr (.inl g10_12))), (ra 2, .inl (kI, 8, .inl q_told)), (ra 3, .inl (kI, 24, .inl q_kind)), (ra 4, .inl (kI, 24, .inl q_salt)), (ra 5, .inl (kI, 24, .inl q_pace)), (ra 6, .inl (kI, 24, .inl q_mute)), (ra 7, .inl (kI, 24, .inl q_late)), (ra 8, .inl (kI, 40, .inl q_from)), (ra 9, .inl (kI, 40, .inl q_to)), (ra 10, .inl (kI, 6, .inl q_goal)), (ra 14, .inl (kI, 12, .inl q_reach)), (m0, .inr (11, oX11 ra y7)), (ra 11, .inl (kI, 1019, .inl f8))] H := hPa
        have hD : va_D A [(ra 15, .inl (kJ, 24, .inr (.inl g10_12))), (ra 2, .inl (kI, 8, .inl q_told)), (ra 3, .inl (kI, 24, .inl q_kind)), (ra 4, .inl (kI, 24, .inl q_salt)), (ra 5, .inl (kI, 24, .inl q_pace)), (ra 6, .inl (kI, 24, .inl q_mute)), (ra 7, .inl (kI, 24, .inl q_late)), (ra 8, .inl (kI, 40, .inl q_from)), (ra 9, .inl (kI, 40, .inl q_to)), (ra 10, .inl (kI, 6, .inl q_goal)), (ra 14, .inl (kI, 12, .inl q_reach)), (m0, .inr (11, oX11 ra y7)), (ra 11, .inl (kI, 1019, .inl f8))] := hDa
        clear hPa hDa
        refine W.widen (k := 0) (n := 0) (Nat.le_of_ble_eq_true rfl) (Nat.le_of_ble_eq_true rfl) ?_
        obtain ⟨hPc, hDc, hFc, hJn⟩ := cl_a (wc := []) (wr := [(ra 15, .inl (kJ, 24, .inr (.inl g10_12))), (ra 2, .inl (kI, 8, .inl q_told)), (ra 3, .inl (kI, 24, .inl q_kind)), (ra 4, .inl (kI, 24, .inl q_salt)), (ra 5, .inl (kI, 24, .inl q_pace)), (ra 6, .inl (kI, 24, .inl q_mute)), (ra 7, .inl (kI, 24, .inl q_late)), (ra 8, .inl (kI, 40, .inl q_from)), (ra 9, .inl (kI, 40, .inl q_to)), (ra 10, .inl (kI, 6, .inl q_goal)), (ra 14, .inl (kI, 12, .inl q_reach)), (m0, .inr (11, oX11 ra y7)), (ra 11, .inl (kI, 1019, .inl f8))]) hP hD hS hA [] [0, 1, 2, 3, 4, 5, 6, 7, 8, 9, 10, 11, 12] rfl rfl (by decide +kernel)
        refine va_calli (va_runS (As := [.int r16]) (rest := [.int 4, .int 1, .ref m0]) ⟨hx, hb, hml, hown, hts⟩ (sJ_bitCount21 l dC dI kB kI kJ kZ kC kS H.size r16 (w17)) (va_cwS 1 hts gX11_sweepNow_J6_bitCount_0f7a4 rfl rfl rfl (by decide +kernel) ⟨Nat.le_of_ble_eq_true rfl, Nat.le_of_ble_eq_true rfl⟩) ⟨fun a U g mk q => by obtain ⟨q0, q1, qP, qE, qD⟩ := q; exact ⟨q0, q1, qP, kE_call qE, qD⟩, fun U hU hW => ⟨rfl, by rw [hU], by rw [hU]; exact hPc, kE_warm hW hE, hDc.weaken (fun _ _ _ _ => trivial)⟩⟩ rfl rfl hl.1 rfl (lv_room (Nat.le_of_ble_eq_true rfl)) dX11_sweepNow_37 ⟨Nat.le_of_ble_eq_true rfl, Nat.le_of_ble_eq_true rfl⟩) hS (fun q _ h => hFc q h) hFc (fun r18 u t H locs ht hvm w19 hB hz1 hk1 hS => ?_)
        obtain ⟨hP1, hD1⟩ := hB
        try dsimp only at w19
        obtain ⟨hPa, hDa⟩ := hJn (w1 := []) hk1 ht hP1 hD1
        clear hP hD hPc hDc hFc hJn hP1 hD1 hk1
        have hP : va_P (dC, dI) vwCl [(ra 15, .inl (kJ, 24, .inr (.inl g10_12))), (ra 2, .inl (kI, 8, .inl q_told)), (ra 3, .inl (kI, 24, .inl q_kind)), (ra 4, .inl (kI, 24, .inl q_salt)), (ra 5, .inl (kI, 24, .inl q_pace)), (ra 6, .inl (kI, 24, .inl q_mute)), (ra 7, .inl (kI, 24, .inl q_late)), (ra 8, .inl (kI, 40, .inl q_from)), (ra 9, .inl (kI, 40, .inl q_to)), (ra 10, .inl (kI, 6, .inl q_goal)), (ra 14, .inl (kI, 12, .inl q_reach)), (m0, .inr (11, oX11 ra y7)), (ra 11, .inl (kI, 1019, .inl f8))] H := hPa
        have hD : va_D A [(ra 15, .inl (kJ, 24, .inr (.inl g10_12))), (ra 2, .inl (kI, 8, .inl q_told)), (ra 3, .inl (kI, 24, .inl q_kind)), (ra 4, .inl (kI, 24, .inl q_salt)), (ra 5, .inl (kI, 24, .inl q_pace)), (ra 6, .inl (kI, 24, .inl q_mute)), (ra 7, .inl (kI, 24, .inl q_late)), (ra 8, .inl (kI, 40, .inl q_from)), (ra 9, .inl (kI, 40, .inl q_to)), (ra 10, .inl (kI, 6, .inl q_goal)), (ra 14, .inl (kI, 12, .inl q_reach)), (m0, .inr (11, oX11 ra y7)), (ra 11, .inl (kI, 1019, .inl f8))] := hDa
        clear hPa hDa
        refine W.widen (k := 0) (n := 0) (Nat.le_of_ble_eq_true rfl) (Nat.le_of_ble_eq_true rfl) ?_
        obtain ⟨w19, b20⟩ := w19
        subst w19
        refine va_mmin hx hb (by rw [hml]; exact hl.1.symm) hown hw_0 hw_1 hw_2 hw_3 (Nat.le_of_ble_eq_true rfl) (Nat.le_of_ble_eq_true rfl) (Nat.le_of_ble_eq_true rfl) (Nat.le_of_ble_eq_true rfl) dX11_sweepNow_40 ?_
        refine iv_top (a := 0) (b := 4) (iv_min ivk_4 b20 (by decide) (by decide)) (fun z21 b22 => ?_)
        refine va_mmax hx hb (by rw [hml]; exact hl.1.symm) hown hw_4 hw_5 hw_2 hw_6 (Nat.le_of_ble_eq_true rfl) (Nat.le_of_ble_eq_true rfl) (Nat.le_of_ble_eq_true rfl) (Nat.le_of_ble_eq_true rfl) dX11_sweepNow_43 ?_
        refine iv_top (a := 1) (b := 4) (iv_max ivk_1 b22 (by decide) (by decide)) (fun z23 b24 => ?_)
        obtain ⟨hPc, hDc, hFc, hJn⟩ := cl_a (wc := [(m0, .inr (11, oX11 ra y7)), (ra 11, .inl (kI, 1019, .inl f8)), (ra 15, .inl (kJ, 24, .inr (.inl g10_12)))]) (wr := [(ra 2, .inl (kI, 8, .inl q_told)), (ra 3, .inl (kI, 24, .inl q_kind)), (ra 4, .inl (kI, 24, .inl q_salt)), (ra 5, .inl (kI, 24, .inl q_pace)), (ra 6, .inl (kI, 24, .inl q_mute)), (ra 7, .inl (kI, 24, .inl q_late)), (ra 8, .inl (kI, 40, .inl q_from)), (ra 9, .inl (kI, 40, .inl q_to)), (ra 10, .inl (kI, 6, .inl q_goal)), (ra 14, .inl (kI, 12, .inl q_reach))]) hP hD hS hA [11, 12, 0] [1, 2, 3, 4, 5, 6, 7, 8, 9, 10] rfl rfl (by decide +kernel)
        refine va_calli (va_runV (As := [.int z23]) (rest := []) ⟨hx, hb, hml, hown, hts⟩ (s11_enough l dC dI kB kI kJ kZ kC kS H.size m0 ra y7 f8 g10_12 z23 (hq9) (hq11) ((iv_w b24 (by decide) (by decide)))) (cwV 1 hts gX11_sweepNow_X11_enough rfl rfl rfl (by decide +kernel) ⟨Nat.le_of_ble_eq_true rfl, Nat.le_of_ble_eq_true rfl⟩) ⟨fun a U g mk q => by obtain ⟨q0, q1, qP, qE, qD⟩ := q; exact ⟨q0, q1, qP, kE_call qE, qD⟩, va_recv hK hP (ci := 11) (q0 := 11) rfl rfl, fun U hU hW => ⟨rfl, by rw [hU], by rw [hU]; exact hPc, kE_warm hW hE, hDc.weaken (fun _ _ _ _ => trivial)⟩⟩ rfl rfl hl.1 rfl (lv_room (Nat.le_of_ble_eq_true rfl)) dX11_sweepNow_46 ⟨Nat.le_of_ble_eq_true rfl, Nat.le_of_ble_eq_true rfl⟩) hS (fun q _ h => hFc q h) hFc (fun r25 u t H locs ht hvm w26 hB hz1 hk1 hS => ?_)
        obtain ⟨f27, hP1, hD1⟩ := hB
        try dsimp only at w26
        obtain ⟨hPa, hDa⟩ := hJn (w1 := [(m0, .inr (11, oX11 ra y7)), (ra 11, .inl (kI, 1019, .inl f8)), (ra 15, .inl (kJ, 24, .inr (.inl f27)))]) hk1 ht hP1 hD1
        clear hP hD hPc hDc hFc hJn hP1 hD1 hk1
        have hP : va_P (dC, dI) vwCl [(ra 2, .inl (kI, 8, .inl q_told)), (ra 3, .inl (kI, 24, .inl q_kind)), (ra 4, .inl (kI, 24, .inl q_salt)), (ra 5, .inl (kI, 24, .inl q_pace)), (ra 6, .inl (kI, 24, .inl q_mute)), (ra 7, .inl (kI, 24, .inl q_late)), (ra 8, .inl (kI, 40, .inl q_from)), (ra 9, .inl (kI, 40, .inl q_to)), (ra 10, .inl (kI, 6, .inl q_goal)), (ra 14, .inl (kI, 12, .inl q_reach)), (m0, .inr (11, oX11 ra y7)), (ra 11, .inl (kI, 1019, .inl f8)), (ra 15, .inl (kJ, 24, .inr (.inl f27)))] H := hPa
        have hD : va_D A [(ra 2, .inl (kI, 8, .inl q_told)), (ra 3, .inl (kI, 24, .inl q_kind)), (ra 4, .inl (kI, 24, .inl q_salt)), (ra 5, .inl (kI, 24, .inl q_pace)), (ra 6, .inl (kI, 24, .inl q_mute)), (ra 7, .inl (kI, 24, .inl q_late)), (ra 8, .inl (kI, 40, .inl q_from)), (ra 9, .inl (kI, 40, .inl q_to)), (ra 10, .inl (kI, 6, .inl q_goal)), (ra 14, .inl (kI, 12, .inl q_reach)), (m0, .inr (11, oX11 ra y7)), (ra 11, .inl (kI, 1019, .inl f8)), (ra 15, .inl (kJ, 24, .inr (.inl f27)))] := hDa
        clear hPa hDa
        refine W.widen (k := 0) (n := 0) (Nat.le_of_ble_eq_true rfl) (Nat.le_of_ble_eq_true rfl) ?_
        refine lv_istore (lv' := [(6, .int r25), (3, .int (v10_loc3 + Int32.ofInt 1)), (5, .int r5), (0, .ref m0), (1, .int p0), (2, .int p1), (4, .int v10_loc4)]) hx hb dX11_sweepNow_49 hl (Nat.le_of_ble_eq_true rfl) rfl (fun ls hl => ?_)
        refine lv_iload_n hx hb dX11_sweepNow_51 rfl (lv_at hl 1 rfl) ?_
        refine lv_bipush (v := 32) hx hb dX11_sweepNow_52 bp_32 ?_
        refine lv_icmp_ge (tgt := 73) hx hb dX11_sweepNow_54 rfl (fun c28 => ?_) (fun c28 => ?_)
        · have b29 : iv 32 32 (v10_loc3 + Int32.ofInt 1) := iv_leR c28 ivk_32 b15 (by decide) (by decide)
          refine lv_iconst (v := 0) hx hb dX11_sweepNow_73 ic_0 ?_
          refine lv_istore (lv' := [(4, .int 0), (6, .int r25), (3, .int (v10_loc3 + Int32.ofInt 1)), (5, .int r5), (0, .ref m0), (1, .int p0), (2, .int p1)]) hx hb dX11_sweepNow_74 hl (Nat.le_of_ble_eq_true rfl) rfl (fun ls hl => ?_)
          refine lv_goto (tgt := 10) hx hb dX11_sweepNow_76 rfl ?_
          have hPD9 := cl_s (wc := [(m0, .inr (11, oX11 ra y7)), (ra 2, .inl (kI, 8, .inl q_told)), (ra 3, .inl (kI, 24, .inl q_kind)), (ra 4, .inl (kI, 24, .inl q_salt)), (ra 5, .inl (kI, 24, .inl q_pace)), (ra 6, .inl (kI, 24, .inl q_mute)), (ra 7, .inl (kI, 24, .inl q_late)), (ra 8, .inl (kI, 40, .inl q_from)), (ra 9, .inl (kI, 40, .inl q_to)), (ra 10, .inl (kI, 6, .inl q_goal)), (ra 11, .inl (kI, 1019, .inl f8)), (ra 14, .inl (kI, 12, .inl q_reach)), (ra 15, .inl (kJ, 24, .inr (.inl f27)))]) hP hD [10, 0, 1, 2, 3, 4, 5, 6, 7, 8, 11, 9, 12] rfl (by decide +kernel)
          exact ih10 y7 f8 f27 (v10_loc3 + Int32.ofInt 1) 0 _ _ _ (ms_up (c := 1) (d := 0) b4 hm10 (by decide) (iv_inc 1 b4 (by decide) (by decide) (by decide) (by decide)) (by decide) rfl) (hq9) (hq11) ((iv_w b29 (by decide) (by decide))) ((iv_w ivk_0 (by decide) (by decide))) (hq10) ((show 0 = 0 ∨ iv 0 31 (v10_loc3 + Int32.ofInt 1) from Or.inl rfl)) ((show y7 1 = x0 1 from hq12.trans (htp_10))) ((show y7 10 = x0 10 from hq13.trans (hfp_10))) ((show y7 11 = x0 11 from hq14.trans (hor_10))) (hPD9.1) (hPD9.2) hS (lv_sub hl [4, 5, 6, 2, 0] rfl)
        · have b30 : iv 1 31 (v10_loc3 + Int32.ofInt 1) := iv_ltL (Int32.not_le.mp c28) b15 ivk_32 (by decide) (by decide)
          refine lv_iload hx hb dX11_sweepNow_57 (lv_at hl 0 rfl) ?_
          refine lv_iconst (v := (-1)) hx hb dX11_sweepNow_59 ic_m1 ?_
          refine lv_icmp_eq (tgt := 69) hx hb dX11_sweepNow_60 rfl (fun c31 => ?_) (fun c31 => ?_)
          · have b32 : iv (-1) (-1) r25 := iv_eqL c31 ivk_m1
            refine lv_iconst (v := 1) hx hb dX11_sweepNow_69 ic_1 ?_
            refine lv_goto (tgt := 74) hx hb dX11_sweepNow_70 rfl ?_
            refine lv_istore (lv' := [(4, .int 1), (6, .int r25), (3, .int (v10_loc3 + Int32.ofInt 1)), (5, .int r5), (0, .ref m0), (1, .int p0), (2, .int p1)]) hx hb dX11_sweepNow_74 hl (Nat.le_of_ble_eq_true rfl) rfl (fun ls hl => ?_)
            refine lv_goto (tgt := 10) hx hb dX11_sweepNow_76 rfl ?_
            have hPD9 := cl_s (wc := [(m0, .inr (11, oX11 ra y7)), (ra 2, .inl (kI, 8, .inl q_told)), (ra 3, .inl (kI, 24, .inl q_kind)), (ra 4, .inl (kI, 24, .inl q_salt)), (ra 5, .inl (kI, 24, .inl q_pace)), (ra 6, .inl (kI, 24, .inl q_mute)), (ra 7, .inl (kI, 24, .inl q_late)), (ra 8, .inl (kI, 40, .inl q_from)), (ra 9, .inl (kI, 40, .inl q_to)), (ra 10, .inl (kI, 6, .inl q_goal)), (ra 11, .inl (kI, 1019, .inl f8)), (ra 14, .inl (kI, 12, .inl q_reach)), (ra 15, .inl (kJ, 24, .inr (.inl f27)))]) hP hD [10, 0, 1, 2, 3, 4, 5, 6, 7, 8, 11, 9, 12] rfl (by decide +kernel)
            exact ih10 y7 f8 f27 (v10_loc3 + Int32.ofInt 1) 1 _ _ _ (ms_up (c := 1) (d := 0) b4 hm10 (by decide) (iv_inc 1 b4 (by decide) (by decide) (by decide) (by decide)) (by decide) rfl) (hq9) (hq11) ((iv_w b30 (by decide) (by decide))) ((iv_w ivk_1 (by decide) (by decide))) (hq10) ((show 1 = 0 ∨ iv 0 31 (v10_loc3 + Int32.ofInt 1) from Or.inr ((iv_w b30 (by decide) (by decide))))) ((show y7 1 = x0 1 from hq12.trans (htp_10))) ((show y7 10 = x0 10 from hq13.trans (hfp_10))) ((show y7 11 = x0 11 from hq14.trans (hor_10))) (hPD9.1) (hPD9.2) hS (lv_sub hl [4, 5, 6, 2, 0] rfl)
          · have b33 : iv 0 60 r25 := iv_neLo c31 w26 ivk_m1 (by decide) (by decide)
            refine lv_iload_n hx hb dX11_sweepNow_63 rfl (lv_at hl 1 rfl) ?_
            refine lv_iload hx hb dX11_sweepNow_64 (lv_at hl 0 rfl) ?_
            refine lv_icmp_ge (tgt := 73) hx hb dX11_sweepNow_66 rfl (fun c34 => ?_) (fun c34 => ?_)
            · have b35 : iv 0 31 r25 := iv_leL c34 b33 b30 (by decide) (by decide)
              refine lv_iconst (v := 0) hx hb dX11_sweepNow_73 ic_0 ?_
              refine lv_istore (lv' := [(4, .int 0), (6, .int r25), (3, .int (v10_loc3 + Int32.ofInt 1)), (5, .int r5), (0, .ref m0), (1, .int p0), (2, .int p1)]) hx hb dX11_sweepNow_74 hl (Nat.le_of_ble_eq_true rfl) rfl (fun ls hl => ?_)
              refine lv_goto (tgt := 10) hx hb dX11_sweepNow_76 rfl ?_
              have hPD9 := cl_s (wc := [(m0, .inr (11, oX11 ra y7)), (ra 2, .inl (kI, 8, .inl q_told)), (ra 3, .inl (kI, 24, .inl q_kind)), (ra 4, .inl (kI, 24, .inl q_salt)), (ra 5, .inl (kI, 24, .inl q_pace)), (ra 6, .inl (kI, 24, .inl q_mute)), (ra 7, .inl (kI, 24, .inl q_late)), (ra 8, .inl (kI, 40, .inl q_from)), (ra 9, .inl (kI, 40, .inl q_to)), (ra 10, .inl (kI, 6, .inl q_goal)), (ra 11, .inl (kI, 1019, .inl f8)), (ra 14, .inl (kI, 12, .inl q_reach)), (ra 15, .inl (kJ, 24, .inr (.inl f27)))]) hP hD [10, 0, 1, 2, 3, 4, 5, 6, 7, 8, 11, 9, 12] rfl (by decide +kernel)
              exact ih10 y7 f8 f27 (v10_loc3 + Int32.ofInt 1) 0 _ _ _ (ms_up (c := 1) (d := 0) b4 hm10 (by decide) (iv_inc 1 b4 (by decide) (by decide) (by decide) (by decide)) (by decide) rfl) (hq9) (hq11) ((iv_w b30 (by decide) (by decide))) ((iv_w ivk_0 (by decide) (by decide))) (hq10) ((show 0 = 0 ∨ iv 0 31 (v10_loc3 + Int32.ofInt 1) from Or.inl rfl)) ((show y7 1 = x0 1 from hq12.trans (htp_10))) ((show y7 10 = x0 10 from hq13.trans (hfp_10))) ((show y7 11 = x0 11 from hq14.trans (hor_10))) (hPD9.1) (hPD9.2) hS (lv_sub hl [4, 5, 6, 2, 0] rfl)
            · have b36 : iv 2 60 r25 := iv_ltR (Int32.not_le.mp c34) b30 b33 (by decide) (by decide)
              refine lv_iconst (v := 1) hx hb dX11_sweepNow_69 ic_1 ?_
              refine lv_goto (tgt := 74) hx hb dX11_sweepNow_70 rfl ?_
              refine lv_istore (lv' := [(4, .int 1), (6, .int r25), (3, .int (v10_loc3 + Int32.ofInt 1)), (5, .int r5), (0, .ref m0), (1, .int p0), (2, .int p1)]) hx hb dX11_sweepNow_74 hl (Nat.le_of_ble_eq_true rfl) rfl (fun ls hl => ?_)
              refine lv_goto (tgt := 10) hx hb dX11_sweepNow_76 rfl ?_
              have hPD9 := cl_s (wc := [(m0, .inr (11, oX11 ra y7)), (ra 2, .inl (kI, 8, .inl q_told)), (ra 3, .inl (kI, 24, .inl q_kind)), (ra 4, .inl (kI, 24, .inl q_salt)), (ra 5, .inl (kI, 24, .inl q_pace)), (ra 6, .inl (kI, 24, .inl q_mute)), (ra 7, .inl (kI, 24, .inl q_late)), (ra 8, .inl (kI, 40, .inl q_from)), (ra 9, .inl (kI, 40, .inl q_to)), (ra 10, .inl (kI, 6, .inl q_goal)), (ra 11, .inl (kI, 1019, .inl f8)), (ra 14, .inl (kI, 12, .inl q_reach)), (ra 15, .inl (kJ, 24, .inr (.inl f27)))]) hP hD [10, 0, 1, 2, 3, 4, 5, 6, 7, 8, 11, 9, 12] rfl (by decide +kernel)
              exact ih10 y7 f8 f27 (v10_loc3 + Int32.ofInt 1) 1 _ _ _ (ms_up (c := 1) (d := 0) b4 hm10 (by decide) (iv_inc 1 b4 (by decide) (by decide) (by decide) (by decide)) (by decide) rfl) (hq9) (hq11) ((iv_w b30 (by decide) (by decide))) ((iv_w ivk_1 (by decide) (by decide))) (hq10) ((show 1 = 0 ∨ iv 0 31 (v10_loc3 + Int32.ofInt 1) from Or.inr ((iv_w b30 (by decide) (by decide))))) ((show y7 1 = x0 1 from hq12.trans (htp_10))) ((show y7 10 = x0 10 from hq13.trans (hfp_10))) ((show y7 11 = x0 11 from hq14.trans (hor_10))) (hPD9.1) (hPD9.2) hS (lv_sub hl [4, 5, 6, 2, 0] rfl)
  refine lv_aload_n hx hb dX11_sweepNow_0 rfl (lv_at hl 0 rfl) ?_
  refine lv_iconst (v := 1) hx hb dX11_sweepNow_1 ic_1 ?_
  obtain ⟨hPc, hDc, hFc, hJn⟩ := cl_a (wc := [(m0, .inr (11, oX11 ra x0)), (ra 11, .inl (kI, 1019, .inl q_now))]) (wr := [(ra 2, .inl (kI, 8, .inl q_told)), (ra 3, .inl (kI, 24, .inl q_kind)), (ra 4, .inl (kI, 24, .inl q_salt)), (ra 5, .inl (kI, 24, .inl q_pace)), (ra 6, .inl (kI, 24, .inl q_mute)), (ra 7, .inl (kI, 24, .inl q_late)), (ra 8, .inl (kI, 40, .inl q_from)), (ra 9, .inl (kI, 40, .inl q_to)), (ra 10, .inl (kI, 6, .inl q_goal)), (ra 14, .inl (kI, 12, .inl q_reach)), (ra 15, .inl (kJ, 24, .inr (.inl q_met)))]) hP hD hS hA [0, 10] [1, 2, 3, 4, 5, 6, 7, 8, 9, 11, 12] rfl rfl (by decide +kernel)
  refine va_callv (va_runV (As := [.int 1]) (rest := []) ⟨hx, hb, hml, hown, hts⟩ (s11_opens l dC dI kB kI kJ kZ kC kS s.heap.size m0 ra x0 q_now 1 (hX) (hq_now)) (cwV 1 hts gX11_sweepNow_X11_opens rfl rfl rfl (by decide +kernel) ⟨Nat.le_of_ble_eq_true rfl, Nat.le_of_ble_eq_true rfl⟩) ⟨fun a U g mk q => by obtain ⟨q0, q1, qP, qE, qD⟩ := q; exact ⟨q0, q1, qP, kE_call qE, qD⟩, va_recv hK hP (ci := 11) (q0 := 0) rfl rfl, fun U hU hW => ⟨rfl, by rw [hU], by rw [hU]; exact hPc, kE_warm hW hE, hDc.weaken (fun _ _ _ _ => trivial)⟩⟩ rfl rfl hl.1 rfl (lv_room (Nat.le_of_ble_eq_true rfl)) dX11_sweepNow_2 ⟨Nat.le_of_ble_eq_true rfl, Nat.le_of_ble_eq_true rfl⟩) hS (fun q _ h => hFc q h) hFc (fun u t H locs ht hvm w38 hB hz1 hk1 hS => ?_)
  obtain ⟨f39, hq40, hP1, hD1⟩ := hB
  try dsimp only at w38
  obtain ⟨hPa, hDa⟩ := hJn (w1 := [(m0, .inr (11, oX11 ra x0)), (ra 11, .inl (kI, 1019, .inl f39))]) hk1 ht hP1 hD1
  clear hP hD hPc hDc hFc hJn hP1 hD1 hk1
  have hP : va_P (dC, dI) vwCl [(ra 2, .inl (kI, 8, .inl q_told)), (ra 3, .inl (kI, 24, .inl q_kind)), (ra 4, .inl (kI, 24, .inl q_salt)), (ra 5, .inl (kI, 24, .inl q_pace)), (ra 6, .inl (kI, 24, .inl q_mute)), (ra 7, .inl (kI, 24, .inl q_late)), (ra 8, .inl (kI, 40, .inl q_from)), (ra 9, .inl (kI, 40, .inl q_to)), (ra 10, .inl (kI, 6, .inl q_goal)), (ra 14, .inl (kI, 12, .inl q_reach)), (ra 15, .inl (kJ, 24, .inr (.inl q_met))), (m0, .inr (11, oX11 ra x0)), (ra 11, .inl (kI, 1019, .inl f39))] H := hPa
  have hD : va_D A [(ra 2, .inl (kI, 8, .inl q_told)), (ra 3, .inl (kI, 24, .inl q_kind)), (ra 4, .inl (kI, 24, .inl q_salt)), (ra 5, .inl (kI, 24, .inl q_pace)), (ra 6, .inl (kI, 24, .inl q_mute)), (ra 7, .inl (kI, 24, .inl q_late)), (ra 8, .inl (kI, 40, .inl q_from)), (ra 9, .inl (kI, 40, .inl q_to)), (ra 10, .inl (kI, 6, .inl q_goal)), (ra 14, .inl (kI, 12, .inl q_reach)), (ra 15, .inl (kJ, 24, .inr (.inl q_met))), (m0, .inr (11, oX11 ra x0)), (ra 11, .inl (kI, 1019, .inl f39))] := hDa
  clear hPa hDa
  refine W.widen (k := 0) (n := 0) (Nat.le_of_ble_eq_true rfl) (Nat.le_of_ble_eq_true rfl) ?_
  refine lv_iconst (v := 0) hx hb dX11_sweepNow_5 ic_0 ?_
  refine lv_istore_n (lv' := [(3, .int 0), (0, .ref m0), (1, .int p0), (2, .int p1)]) hx hb dX11_sweepNow_6 rfl hl (Nat.le_of_ble_eq_true rfl) rfl (fun ls hl => ?_)
  refine lv_iconst (v := 1) hx hb dX11_sweepNow_7 ic_1 ?_
  refine lv_istore (lv' := [(4, .int 1), (3, .int 0), (0, .ref m0), (1, .int p0), (2, .int p1)]) hx hb dX11_sweepNow_8 hl (Nat.le_of_ble_eq_true rfl) rfl (fun ls hl => ?_)
  have hPD9 := cl_s (wc := [(m0, .inr (11, oX11 ra x0)), (ra 2, .inl (kI, 8, .inl q_told)), (ra 3, .inl (kI, 24, .inl q_kind)), (ra 4, .inl (kI, 24, .inl q_salt)), (ra 5, .inl (kI, 24, .inl q_pace)), (ra 6, .inl (kI, 24, .inl q_mute)), (ra 7, .inl (kI, 24, .inl q_late)), (ra 8, .inl (kI, 40, .inl q_from)), (ra 9, .inl (kI, 40, .inl q_to)), (ra 10, .inl (kI, 6, .inl q_goal)), (ra 11, .inl (kI, 1019, .inl f39)), (ra 14, .inl (kI, 12, .inl q_reach)), (ra 15, .inl (kJ, 24, .inr (.inl q_met)))]) hP hD [11, 0, 1, 2, 3, 4, 5, 6, 7, 8, 12, 9, 10] rfl (by decide +kernel)
  exact hJ10 _ x0 f39 q_met 0 1 _ _ _ (Nat.lt_succ_self _) (hX) (hq40) ((iv_w ivk_0 (by decide) (by decide))) ((iv_w ivk_1 (by decide) (by decide))) (hfl14) ((show 1 = 0 ∨ iv 0 31 0 from Or.inr ((iv_w ivk_0 (by decide) (by decide))))) ((show x0 1 = x0 1 from rfl)) ((show x0 10 = x0 10 from rfl)) ((show x0 11 = x0 11 from rfl)) (hPD9.1) (hPD9.2) hS (lv_sub hl [2, 3, 4, 1, 0] rfl)
def rm_s11_traceNow : Room := { frames := 5, cells := 0, slots := 0, locals := 130 }
set_option maxHeartbeats 4000000 in
set_option maxRecDepth 100000 in
theorem s11_traceNow (l : Launch) (dC : Nat → ClassId) (dI : Nat → Nat → Nat) (kB kI kJ kZ kC kS : ClassId) (sz : Nat) (m0 : Nat) (ra : Nat → Nat) (x0 : Nat → Int32) (q_told : Nat → Int32) (q_kind : Nat → Int32) (q_salt : Nat → Int32) (q_pace : Nat → Int32) (q_mute : Nat → Int32) (q_late : Nat → Int32) (q_from : Nat → Int32) (q_to : Nat → Int32) (q_goal : Nat → Int32) (q_now : Nat → Int32) (q_reach : Nat → Int32) (p0 : Int32) (p1 : Int32) (hX : fI lX11 hX11 x0) (hq_told : fI lTold hTold q_told) (hq_salt : fI (fun _ => 0) (fun _ => 15) q_salt) (hq_from : fI (fun _ => 0) (fun _ => 11) q_from) (hq_to : fI (fun _ => 0) (fun _ => 11) q_to) (hq_goal : fI (fun _ => 0) (fun _ => 11) q_goal) (hq_now : fI lNow hNow q_now) (hp0 : iv 0 31 p0) (hp1 : iv 0 2 p1) (hLT : ∀ j : Nat, (j : Int) < (q_told 1).toInt → (q_from j).toInt < (q_to j).toInt) (hfl14 : iv 0 0 (x0 14)) : Met l yX11_traceNow wsX11_traceNow rm_s11_traceNow (va_Pc [.ref m0, .int p0, .int p1] (fun U => U.heap.size = sz ∧ va_P (dC, dI) vwCl [(m0, .inr (11, oX11 ra x0)), (ra 2, .inl (kI, 8, .inl q_told)), (ra 3, .inl (kI, 24, .inl q_kind)), (ra 4, .inl (kI, 24, .inl q_salt)), (ra 5, .inl (kI, 24, .inl q_pace)), (ra 6, .inl (kI, 24, .inl q_mute)), (ra 7, .inl (kI, 24, .inl q_late)), (ra 8, .inl (kI, 40, .inl q_from)), (ra 9, .inl (kI, 40, .inl q_to)), (ra 10, .inl (kI, 6, .inl q_goal)), (ra 11, .inl (kI, 1019, .inl q_now)), (ra 14, .inl (kI, 12, .inl q_reach))] U.heap ∧ kE dC dI kB kI kJ kZ kC kS U ∧ va_D (fun _ => True) [(m0, .inr (11, oX11 ra x0)), (ra 2, .inl (kI, 8, .inl q_told)), (ra 3, .inl (kI, 24, .inl q_kind)), (ra 4, .inl (kI, 24, .inl q_salt)), (ra 5, .inl (kI, 24, .inl q_pace)), (ra 6, .inl (kI, 24, .inl q_mute)), (ra 7, .inl (kI, 24, .inl q_late)), (ra 8, .inl (kI, 40, .inl q_from)), (ra 9, .inl (kI, 40, .inl q_to)), (ra 10, .inl (kI, 6, .inl q_goal)), (ra 11, .inl (kI, 1019, .inl q_now)), (ra 14, .inl (kI, 12, .inl q_reach))])) (va_Qi (fun (r : Int32) (_ : Unit) => iv 1 10 r) (fun _ t => ∃ (x0' : Nat → Int32) (q_now' : Nat → Int32), fI lX11 hX11 x0' ∧ iv 0 0 (x0' 14) ∧ fI lNow hNow q_now' ∧ (x0' 1 = x0 1) ∧ (x0' 10 = x0 10) ∧ (x0' 11 = x0 11) ∧ va_P (dC, dI) vwCl [(m0, .inr (11, oX11 ra x0')), (ra 2, .inl (kI, 8, .inl q_told)), (ra 3, .inl (kI, 24, .inl q_kind)), (ra 4, .inl (kI, 24, .inl q_salt)), (ra 5, .inl (kI, 24, .inl q_pace)), (ra 6, .inl (kI, 24, .inl q_mute)), (ra 7, .inl (kI, 24, .inl q_late)), (ra 8, .inl (kI, 40, .inl q_from)), (ra 9, .inl (kI, 40, .inl q_to)), (ra 10, .inl (kI, 6, .inl q_goal)), (ra 11, .inl (kI, 1019, .inl q_now')), (ra 14, .inl (kI, 12, .inl q_reach))] t.heap ∧ va_D (va_A [(m0, .inr (11, oX11 ra x0)), (ra 2, .inl (kI, 8, .inl q_told)), (ra 3, .inl (kI, 24, .inl q_kind)), (ra 4, .inl (kI, 24, .inl q_salt)), (ra 5, .inl (kI, 24, .inl q_pace)), (ra 6, .inl (kI, 24, .inl q_mute)), (ra 7, .inl (kI, 24, .inl q_late)), (ra 8, .inl (kI, 40, .inl q_from)), (ra 9, .inl (kI, 40, .inl q_to)), (ra 10, .inl (kI, 6, .inl q_goal)), (ra 11, .inl (kI, 1019, .inl q_now)), (ra 14, .inl (kI, 12, .inl q_reach))] sz) [(m0, .inr (11, oX11 ra x0')), (ra 2, .inl (kI, 8, .inl q_told)), (ra 3, .inl (kI, 24, .inl q_kind)), (ra 4, .inl (kI, 24, .inl q_salt)), (ra 5, .inl (kI, 24, .inl q_pace)), (ra 6, .inl (kI, 24, .inl q_mute)), (ra 7, .inl (kI, 24, .inl q_late)), (ra 8, .inl (kI, 40, .inl q_from)), (ra 9, .inl (kI, 40, .inl q_to)), (ra 10, .inl (kI, 6, .inl q_goal)), (ra 11, .inl (kI, 1019, .inl q_now')), (ra 14, .inl (kI, 12, .inl q_reach))]) (va_A [(m0, .inr (11, oX11 ra x0)), (ra 2, .inl (kI, 8, .inl q_told)), (ra 3, .inl (kI, 24, .inl q_kind)), (ra 4, .inl (kI, 24, .inl q_salt)), (ra 5, .inl (kI, 24, .inl q_pace)), (ra 6, .inl (kI, 24, .inl q_mute)), (ra 7, .inl (kI, 24, .inl q_late)), (ra 8, .inl (kI, 40, .inl q_from)), (ra 9, .inl (kI, 40, .inl q_to)), (ra 10, .inl (kI, 6, .inl q_goal)), (ra 11, .inl (kI, 1019, .inl q_now)), (ra 14, .inl (kI, 12, .inl q_reach))] sz)) 0 0 (va_A [(m0, .inr (11, oX11 ra x0)), (ra 2, .inl (kI, 8, .inl q_told)), (ra 3, .inl (kI, 24, .inl q_kind)), (ra 4, .inl (kI, 24, .inl q_salt)), (ra 5, .inl (kI, 24, .inl q_pace)), (ra 6, .inl (kI, 24, .inl q_mute)), (ra 7, .inl (kI, 24, .inl q_late)), (ra 8, .inl (kI, 40, .inl q_from)), (ra 9, .inl (kI, 40, .inl q_to)), (ra 10, .inl (kI, 6, .inl q_goal)), (ra 11, .inl (kI, 1019, .inl q_now)), (ra 14, .inl (kI, 12, .inl q_reach))] sz) := by
  refine Met.ofW (cc := cX11_traceNow) (maxL := 5) (ret := (some .int)) (by decide) rfl ?_
  intro p e s m args0 below meth c s₁ B hml hv
  obtain ⟨hargs, hsz, hP, hE, hD0⟩ := hv
  have hx := B.exec
  have hb := B.bytes
  have hr := B.returns
  have hts := atoms_spec (ws := wsX11_traceNow) B.pre
  have hown : s.vm.findClass RX11 = some m.cls := findClass_of_methodNamed B.named
  have hlocks := B.notSynchronized
  have hK := hE.1
  have hin11 : ∀ w ∈ wsX110, w ∈ wsX11_traceNow := fun _ h9 => List.mem_cons_of_mem _ (List.mem_append_right _ h9)
  have hw_0 := hts (.fieldLink RX11 292 "PathProberModel" "endRouter" "I") (List.mem_of_getElem? (i := 1) rfl)
  have hw_1 := hts (.fieldLink RX11 58 "PathProberModel" "goal" "[I") (List.mem_of_getElem? (i := 2) rfl)
  subst hsz
  have hD := hD0.self (sz := s.heap.size)
  generalize hAe : va_A [(m0, .inr (11, oX11 ra x0)), (ra 2, .inl (kI, 8, .inl q_told)), (ra 3, .inl (kI, 24, .inl q_kind)), (ra 4, .inl (kI, 24, .inl q_salt)), (ra 5, .inl (kI, 24, .inl q_pace)), (ra 6, .inl (kI, 24, .inl q_mute)), (ra 7, .inl (kI, 24, .inl q_late)), (ra 8, .inl (kI, 40, .inl q_from)), (ra 9, .inl (kI, 40, .inl q_to)), (ra 10, .inl (kI, 6, .inl q_goal)), (ra 11, .inl (kI, 1019, .inl q_now)), (ra 14, .inl (kI, 12, .inl q_reach))] s.heap.size = A at hD ⊢
  have hA : ∀ q : Nat, s.heap.size ≤ q → A q := fun q h => by rw [← hAe]; exact Or.inr h
  have hS : va_S A s.heap s.heap [] := va_S.rf
  have hP : va_P (dC, dI) vwCl [(m0, .inr (11, oX11 ra x0)), (ra 2, .inl (kI, 8, .inl q_told)), (ra 3, .inl (kI, 24, .inl q_kind)), (ra 4, .inl (kI, 24, .inl q_salt)), (ra 5, .inl (kI, 24, .inl q_pace)), (ra 6, .inl (kI, 24, .inl q_mute)), (ra 7, .inl (kI, 24, .inl q_late)), (ra 8, .inl (kI, 40, .inl q_from)), (ra 9, .inl (kI, 40, .inl q_to)), (ra 10, .inl (kI, 6, .inl q_goal)), (ra 11, .inl (kI, 1019, .inl q_now)), (ra 14, .inl (kI, 12, .inl q_reach))] s.heap := hP
  have hl := lv_entry ([.ref m0, .int p0, .int p1]) (n := 5) (Nat.le_of_ble_eq_true rfl)
  have hla : entryFrame m args0 5 = entryFrame m ([.ref m0, .int p0, .int p1] : List Value).toArray 5 := by rw [hargs]
  rw [hla, lg_entry_eq]
  generalize (lg_sl ([.ref m0, .int p0, .int p1]) ++ List.replicate (5 - (lg_sl ([.ref m0, .int p0, .int p1])).length) Slot.unset).toArray = ls at hl ⊢
  have hl : lv_has ls 5 [(0, .ref m0), (1, .int p0), (2, .int p1)] := hl
  have hJ7 : ∀ (n : Nat) (y7_0 : Nat → Int32) (g7_10 : Nat → Int32) (v7_loc3 : Int32) (H : Heap) (locs : List Loc) (ls : Array Slot), (11 - v7_loc3.toInt).toNat < n → fI lX11 hX11 y7_0 → fI lNow hNow g7_10 → iv 1 11 v7_loc3 → iv 0 0 (y7_0 14) → (y7_0 1 = x0 1) → (y7_0 10 = x0 10) → (y7_0 11 = x0 11) → va_P (dC, dI) vwCl [(m0, .inr (11, oX11 ra y7_0)), (ra 2, .inl (kI, 8, .inl q_told)), (ra 3, .inl (kI, 24, .inl q_kind)), (ra 4, .inl (kI, 24, .inl q_salt)), (ra 5, .inl (kI, 24, .inl q_pace)), (ra 6, .inl (kI, 24, .inl q_mute)), (ra 7, .inl (kI, 24, .inl q_late)), (ra 8, .inl (kI, 40, .inl q_from)), (ra 9, .inl (kI, 40, .inl q_to)), (ra 10, .inl (kI, 6, .inl q_goal)), (ra 11, .inl (kI, 1019, .inl g7_10)), (ra 14, .inl (kI, 12, .inl q_reach))] H → va_D A [(m0, .inr (11, oX11 ra y7_0)), (ra 2, .inl (kI, 8, .inl q_told)), (ra 3, .inl (kI, 24, .inl q_kind)), (ra 4, .inl (kI, 24, .inl q_salt)), (ra 5, .inl (kI, 24, .inl q_pace)), (ra 6, .inl (kI, 24, .inl q_mute)), (ra 7, .inl (kI, 24, .inl q_late)), (ra 8, .inl (kI, 40, .inl q_from)), (ra 9, .inl (kI, 40, .inl q_to)), (ra 10, .inl (kI, 6, .inl q_goal)), (ra 11, .inl (kI, 1019, .inl g7_10)), (ra 14, .inl (kI, 12, .inl q_reach))] → va_S A s.heap H locs → lv_has ls 5 [(0, .ref m0), (1, .int p0), (2, .int p1), (3, .int v7_loc3)] → W p l e (headSpec wsX11_traceNow rm_s11_traceNow).room s m args0 below meth c H locs (0) (0) (MQ below (va_Qi (fun (r : Int32) (_ : Unit) => iv 1 10 r) (fun _ t => ∃ (x0' : Nat → Int32) (q_now' : Nat → Int32), fI lX11 hX11 x0' ∧ iv 0 0 (x0' 14) ∧ fI lNow hNow q_now' ∧ (x0' 1 = x0 1) ∧ (x0' 10 = x0 10) ∧ (x0' 11 = x0 11) ∧ va_P (dC, dI) vwCl [(m0, .inr (11, oX11 ra x0')), (ra 2, .inl (kI, 8, .inl q_told)), (ra 3, .inl (kI, 24, .inl q_kind)), (ra 4, .inl (kI, 24, .inl q_salt)), (ra 5, .inl (kI, 24, .inl q_pace)), (ra 6, .inl (kI, 24, .inl q_mute)), (ra 7, .inl (kI, 24, .inl q_late)), (ra 8, .inl (kI, 40, .inl q_from)), (ra 9, .inl (kI, 40, .inl q_to)), (ra 10, .inl (kI, 6, .inl q_goal)), (ra 11, .inl (kI, 1019, .inl q_now')), (ra 14, .inl (kI, 12, .inl q_reach))] t.heap ∧ va_D A [(m0, .inr (11, oX11 ra x0')), (ra 2, .inl (kI, 8, .inl q_told)), (ra 3, .inl (kI, 24, .inl q_kind)), (ra 4, .inl (kI, 24, .inl q_salt)), (ra 5, .inl (kI, 24, .inl q_pace)), (ra 6, .inl (kI, 24, .inl q_mute)), (ra 7, .inl (kI, 24, .inl q_late)), (ra 8, .inl (kI, 40, .inl q_from)), (ra 9, .inl (kI, 40, .inl q_to)), (ra 10, .inl (kI, 6, .inl q_goal)), (ra 11, .inl (kI, 1019, .inl q_now')), (ra 14, .inl (kI, 12, .inl q_reach))]) A) args0 s 0 0 A) (F0 m 7 ls []) := by
    intro n
    induction n with
    | zero => intro y7_0 g7_10 v7_loc3 H locs ls hm7; exact absurd hm7 (Nat.not_lt_zero _)
    | succ n ih7 =>
      intro y7_0 g7_10 v7_loc3 H locs ls hm7 hI7_0 hI7_10 h7_3 h7_4 htp_7 hfp_7 hor_7 hP hD hS hl
      have hJ44 : ∀ (y44_0 : Nat → Int32) (g44_10 : Nat → Int32) (v44_loc4 : Int32) (H : Heap) (locs : List Loc) (ls : Array Slot), fI lX11 hX11 y44_0 → fI lNow hNow g44_10 → iv 1 10 v7_loc3 → iv (-1) 20 v44_loc4 → iv 0 0 (y44_0 14) → (y44_0 1 = x0 1) → (y44_0 10 = x0 10) → (y44_0 11 = x0 11) → va_P (dC, dI) vwCl [(m0, .inr (11, oX11 ra y44_0)), (ra 2, .inl (kI, 8, .inl q_told)), (ra 3, .inl (kI, 24, .inl q_kind)), (ra 4, .inl (kI, 24, .inl q_salt)), (ra 5, .inl (kI, 24, .inl q_pace)), (ra 6, .inl (kI, 24, .inl q_mute)), (ra 7, .inl (kI, 24, .inl q_late)), (ra 8, .inl (kI, 40, .inl q_from)), (ra 9, .inl (kI, 40, .inl q_to)), (ra 10, .inl (kI, 6, .inl q_goal)), (ra 11, .inl (kI, 1019, .inl g44_10)), (ra 14, .inl (kI, 12, .inl q_reach))] H → va_D A [(m0, .inr (11, oX11 ra y44_0)), (ra 2, .inl (kI, 8, .inl q_told)), (ra 3, .inl (kI, 24, .inl q_kind)), (ra 4, .inl (kI, 24, .inl q_salt)), (ra 5, .inl (kI, 24, .inl q_pace)), (ra 6, .inl (kI, 24, .inl q_mute)), (ra 7, .inl (kI, 24, .inl q_late)), (ra 8, .inl (kI, 40, .inl q_from)), (ra 9, .inl (kI, 40, .inl q_to)), (ra 10, .inl (kI, 6, .inl q_goal)), (ra 11, .inl (kI, 1019, .inl g44_10)), (ra 14, .inl (kI, 12, .inl q_reach))] → va_S A s.heap H locs → lv_has ls 5 [(0, .ref m0), (1, .int p0), (2, .int p1), (3, .int v7_loc3), (4, .int v44_loc4)] → W p l e (headSpec wsX11_traceNow rm_s11_traceNow).room s m args0 below meth c H locs (0) (0) (MQ below (va_Qi (fun (r : Int32) (_ : Unit) => iv 1 10 r) (fun _ t => ∃ (x0' : Nat → Int32) (q_now' : Nat → Int32), fI lX11 hX11 x0' ∧ iv 0 0 (x0' 14) ∧ fI lNow hNow q_now' ∧ (x0' 1 = x0 1) ∧ (x0' 10 = x0 10) ∧ (x0' 11 = x0 11) ∧ va_P (dC, dI) vwCl [(m0, .inr (11, oX11 ra x0')), (ra 2, .inl (kI, 8, .inl q_told)), (ra 3, .inl (kI, 24, .inl q_kind)), (ra 4, .inl (kI, 24, .inl q_salt)), (ra 5, .inl (kI, 24, .inl q_pace)), (ra 6, .inl (kI, 24, .inl q_mute)), (ra 7, .inl (kI, 24, .inl q_late)), (ra 8, .inl (kI, 40, .inl q_from)), (ra 9, .inl (kI, 40, .inl q_to)), (ra 10, .inl (kI, 6, .inl q_goal)), (ra 11, .inl (kI, 1019, .inl q_now')), (ra 14, .inl (kI, 12, .inl q_reach))] t.heap ∧ va_D A [(m0, .inr (11, oX11 ra x0')), (ra 2, .inl (kI, 8, .inl q_told)), (ra 3, .inl (kI, 24, .inl q_kind)), (ra 4, .inl (kI, 24, .inl q_salt)), (ra 5, .inl (kI, 24, .inl q_pace)), (ra 6, .inl (kI, 24, .inl q_mute)), (ra 7, .inl (kI, 24, .inl q_late)), (ra 8, .inl (kI, 40, .inl q_from)), (ra 9, .inl (kI, 40, .inl q_to)), (ra 10, .inl (kI, 6, .inl q_goal)), (ra 11, .inl (kI, 1019, .inl q_now')), (ra 14, .inl (kI, 12, .inl q_reach))]) A) args0 s 0 0 A) (F0 m 44 ls []) := by
        intro y44_0 g44_10 v44_loc4 H locs ls hI44_0 hI44_10 h44_3 h44_4 h44_5 htp_44 hfp_44 hor_44 hP hD hS hl
        refine lv_iinc (v := v7_loc3 + Int32.ofInt 1) (lv' := [(3, .int (v7_loc3 + Int32.ofInt 1)), (0, .ref m0), (1, .int p0), (2, .int p1), (4, .int v44_loc4)]) hx hb dX11_traceNow_44 hl (k := 3) rfl (rfl) (Nat.le_of_ble_eq_true rfl) rfl (fun ls hl => ?_)
        have b1 : iv 2 11 (v7_loc3 + Int32.ofInt 1) := iv_add h44_3 ivo_1 (by decide) (by decide) (by decide) (by decide)
        refine lv_goto (tgt := 7) hx hb dX11_traceNow_47 rfl ?_
        exact ih7 y44_0 g44_10 (v7_loc3 + Int32.ofInt 1) _ _ _ (ms_up (c := 1) (d := 0) h44_3 hm7 (by decide) (iv_inc 1 h44_3 (by decide) (by decide) (by decide) (by decide)) (by decide) rfl) (hI44_0) (hI44_10) ((iv_w b1 (by decide) (by decide))) (h44_5) ((show y44_0 1 = x0 1 from htp_44)) ((show y44_0 10 = x0 10 from hfp_44)) ((show y44_0 11 = x0 11 from hor_44)) (hP) (hD) hS (lv_sub hl [1, 2, 3, 0] rfl)
      refine lv_iload_n hx hb dX11_traceNow_7 rfl (lv_at hl 3 rfl) ?_
      refine lv_bipush (v := 10) hx hb dX11_traceNow_8 bp_10 ?_
      refine lv_icmp_gt (tgt := 50) hx hb dX11_traceNow_10 rfl (fun c2 => ?_) (fun c2 => ?_)
      · have b3 : iv 11 11 v7_loc3 := iv_ltR c2 ivk_10 h7_3 (by decide) (by decide)
        refine lv_bipush (v := 10) hx hb dX11_traceNow_50 bp_10 ?_
        have hP9 := hP
        have hD9 := hD
        exact W.iret (v := 10) hx hb hr (fun t ht hW => ⟨⟨10, (), rfl, (iv_w ivk_10 (by decide) (by decide)), y7_0, g7_10, hI7_0, h7_4, hI7_10, (show y7_0 1 = x0 1 from htp_7), (show y7_0 10 = x0 10 from hfp_7), (show y7_0 11 = x0 11 from hor_7), by rw [ht]; exact hP9, hD9⟩, hS.F ht⟩) hS.2.2 dX11_traceNow_52
      · have b4 : iv 1 10 v7_loc3 := iv_leL (Int32.not_lt.mp c2) h7_3 ivk_10 (by decide) (by decide)
        refine lv_aload_n hx hb dX11_traceNow_13 rfl (lv_at hl 0 rfl) ?_
        refine lv_iload_n hx hb dX11_traceNow_14 rfl (lv_at hl 1 rfl) ?_
        refine lv_iload_n hx hb dX11_traceNow_15 rfl (lv_at hl 2 rfl) ?_
        refine lv_iload_n hx hb dX11_traceNow_16 rfl (lv_at hl 3 rfl) ?_
        refine lv_iconst (v := 2) hx hb dX11_traceNow_17 ic_2 ?_
        obtain ⟨hPc, hDc, hFc, hJn⟩ := cl_a (wc := [(m0, .inr (11, oX11 ra y7_0)), (ra 2, .inl (kI, 8, .inl q_told)), (ra 3, .inl (kI, 24, .inl q_kind)), (ra 4, .inl (kI, 24, .inl q_salt)), (ra 5, .inl (kI, 24, .inl q_pace)), (ra 6, .inl (kI, 24, .inl q_mute)), (ra 7, .inl (kI, 24, .inl q_late)), (ra 8, .inl (kI, 40, .inl q_from)), (ra 9, .inl (kI, 40, .inl q_to)), (ra 10, .inl (kI, 6, .inl q_goal)), (ra 11, .inl (kI, 1019, .inl g7_10)), (ra 14, .inl (kI, 12, .inl q_reach))]) (wr := []) hP hD hS hA [0, 1, 2, 3, 4, 5, 6, 7, 8, 9, 10, 11] [] rfl rfl (by decide +kernel)
        refine va_calli (va_runV (As := [.int p0, .int p1, .int v7_loc3, .int 2]) (rest := []) ⟨hx, hb, hml, hown, hts⟩ (s11_probeNow l dC dI kB kI kJ kZ kC kS H.size m0 ra y7_0 q_told q_kind q_salt q_pace q_mute q_late q_from q_to q_goal g7_10 q_reach p0 p1 v7_loc3 2 (hI7_0) (hq_told) (hq_salt) (hq_from) (hq_to) (hq_goal) (hI7_10) (hp0) (hp1) (b4) (hLT)) (cwV 4 hts gX11_traceNow_X11_probeNow rfl rfl rfl (by decide +kernel) ⟨Nat.le_of_ble_eq_true rfl, Nat.le_of_ble_eq_true rfl⟩) ⟨fun a U g mk q => by obtain ⟨q0, q1, qP, qE, qD⟩ := q; exact ⟨q0, q1, qP, kE_call qE, qD⟩, va_recv hK hP (ci := 11) (q0 := 0) rfl rfl, fun U hU hW => ⟨rfl, by rw [hU], by rw [hU]; exact hPc, kE_warm hW hE, hDc.weaken (fun _ _ _ _ => trivial)⟩⟩ rfl rfl hl.1 rfl (lv_room (Nat.le_of_ble_eq_true rfl)) dX11_traceNow_18 ⟨Nat.le_of_ble_eq_true rfl, Nat.le_of_ble_eq_true rfl⟩) hS (fun q _ h => hFc q h) hFc (fun r5 u t H locs ht hvm w6 hB hz1 hk1 hS => ?_)
        obtain ⟨y7, f8, hq9, hq10, hq11, hq12, hq13, hq14, hP1, hD1⟩ := hB
        try dsimp only at w6
        obtain ⟨hPa, hDa⟩ := hJn (w1 := [(m0, .inr (11, oX11 ra y7)), (ra 2, .inl (kI, 8, .inl q_told)), (ra 3, .inl (kI, 24, .inl q_kind)), (ra 4, .inl (kI, 24, .inl q_salt)), (ra 5, .inl (kI, 24, .inl q_pace)), (ra 6, .inl (kI, 24, .inl q_mute)), (ra 7, .inl (kI, 24, .inl q_late)), (ra 8, .inl (kI, 40, .inl q_from)), (ra 9, .inl (kI, 40, .inl q_to)), (ra 10, .inl (kI, 6, .inl q_goal)), (ra 11, .inl (kI, 1019, .inl f8)), (ra 14, .inl (kI, 12, .inl q_reach))]) hk1 ht hP1 hD1
        clear hP hD hPc hDc hFc hJn hP1 hD1 hk1
        have hP : va_P (dC, dI) vwCl [(m0, .inr (11, oX11 ra y7)), (ra 2, .inl (kI, 8, .inl q_told)), (ra 3, .inl (kI, 24, .inl q_kind)), (ra 4, .inl (kI, 24, .inl q_salt)), (ra 5, .inl (kI, 24, .inl q_pace)), (ra 6, .inl (kI, 24, .inl q_mute)), (ra 7, .inl (kI, 24, .inl q_late)), (ra 8, .inl (kI, 40, .inl q_from)), (ra 9, .inl (kI, 40, .inl q_to)), (ra 10, .inl (kI, 6, .inl q_goal)), (ra 11, .inl (kI, 1019, .inl f8)), (ra 14, .inl (kI, 12, .inl q_reach))] H := hPa
        have hD : va_D A [(m0, .inr (11, oX11 ra y7)), (ra 2, .inl (kI, 8, .inl q_told)), (ra 3, .inl (kI, 24, .inl q_kind)), (ra 4, .inl (kI, 24, .inl q_salt)), (ra 5, .inl (kI, 24, .inl q_pace)), (ra 6, .inl (kI, 24, .inl q_mute)), (ra 7, .inl (kI, 24, .inl q_late)), (ra 8, .inl (kI, 40, .inl q_from)), (ra 9, .inl (kI, 40, .inl q_to)), (ra 10, .inl (kI, 6, .inl q_goal)), (ra 11, .inl (kI, 1019, .inl f8)), (ra 14, .inl (kI, 12, .inl q_reach))] := hDa
        clear hPa hDa
        refine W.widen (k := 0) (n := 0) (Nat.le_of_ble_eq_true rfl) (Nat.le_of_ble_eq_true rfl) ?_
        refine lv_istore (lv' := [(4, .int r5), (0, .ref m0), (1, .int p0), (2, .int p1), (3, .int v7_loc3)]) hx hb dX11_traceNow_21 hl (Nat.le_of_ble_eq_true rfl) rfl (fun ls hl => ?_)
        refine lv_iload hx hb dX11_traceNow_23 (lv_at hl 0 rfl) ?_
        refine lv_iconst (v := (-1)) hx hb dX11_traceNow_25 ic_m1 ?_
        refine lv_icmp_eq (tgt := 44) hx hb dX11_traceNow_26 rfl (fun c15 => ?_) (fun c15 => ?_)
        · have b16 : iv (-1) (-1) r5 := iv_eqL c15 ivk_m1
          exact hJ44 y7 f8 r5 _ _ _ (hq9) (hq11) (b4) ((iv_w b16 (by decide) (by decide))) (hq10) ((show y7 1 = x0 1 from hq12.trans (htp_7))) ((show y7 10 = x0 10 from hq13.trans (hfp_7))) ((show y7 11 = x0 11 from hq14.trans (hor_7))) (hP) (hD) hS (lv_sub hl [1, 2, 3, 4, 0] rfl)
        · have b17 : iv 0 20 r5 := iv_neLo c15 w6 ivk_m1 (by decide) (by decide)
          refine lv_aload_n hx hb dX11_traceNow_29 rfl (lv_at hl 1 rfl) ?_
          refine va_get (D := (dC, dI)) (ci := 11) (v := .int (y7 15)) (C := RX11) (T := TX11) (N := 61) hx hb hts hin11 hown hK hP 0 rfl rfl 30 (Nat.le_of_ble_eq_true rfl) hw_0 (fun _ h9 => h9) rfl dX11_traceNow_30 ?_
          refine lv_aload_n hx hb dX11_traceNow_33 rfl (lv_at hl 1 rfl) ?_
          refine va_get (D := (dC, dI)) (ci := 11) (v := .ref (ra 10)) (C := RX11) (T := TX11) (N := 61) hx hb hts hin11 hown hK hP 0 rfl rfl 11 (Nat.le_of_ble_eq_true rfl) hw_1 (fun _ h9 => h9) rfl dX11_traceNow_34 ?_
          refine lv_iload_n hx hb dX11_traceNow_37 rfl (lv_at hl 3 rfl) ?_
          refine va_iald hx hb hK hP 9 1 rfl rfl (iv_in hp1 (by decide) (by decide)) dX11_traceNow_38 ?_
          refine iv_top (a := 0) (b := 11) (hq_goal _) (fun z18 b19 => ?_)
          refine lv_icmp_ne (tgt := 44) hx hb dX11_traceNow_39 rfl (fun c20 => ?_) (fun c20 => ?_)
          · exact hJ44 y7 f8 r5 _ _ _ (hq9) (hq11) (b4) ((iv_w b17 (by decide) (by decide))) (hq10) ((show y7 1 = x0 1 from hq12.trans (htp_7))) ((show y7 10 = x0 10 from hq13.trans (hfp_7))) ((show y7 11 = x0 11 from hq14.trans (hor_7))) (hP) (hD) hS (lv_sub hl [1, 2, 3, 4, 0] rfl)
          · have b21 : iv 0 11 (y7 15) := iv_eqL c20 b19
            refine lv_iload_n hx hb dX11_traceNow_42 rfl (lv_at hl 4 rfl) ?_
            have hP9 := hP
            have hD9 := hD
            exact W.iret (v := v7_loc3) hx hb hr (fun t ht hW => ⟨⟨v7_loc3, (), rfl, b4, y7, f8, hq9, hq10, hq11, (show y7 1 = x0 1 from hq12.trans (htp_7)), (show y7 10 = x0 10 from hq13.trans (hfp_7)), (show y7 11 = x0 11 from hq14.trans (hor_7)), by rw [ht]; exact hP9, hD9⟩, hS.F ht⟩) hS.2.2 dX11_traceNow_43
  refine lv_aload_n hx hb dX11_traceNow_0 rfl (lv_at hl 0 rfl) ?_
  refine lv_iconst (v := 1) hx hb dX11_traceNow_1 ic_1 ?_
  obtain ⟨hPc, hDc, hFc, hJn⟩ := cl_a (wc := [(m0, .inr (11, oX11 ra x0)), (ra 11, .inl (kI, 1019, .inl q_now))]) (wr := [(ra 2, .inl (kI, 8, .inl q_told)), (ra 3, .inl (kI, 24, .inl q_kind)), (ra 4, .inl (kI, 24, .inl q_salt)), (ra 5, .inl (kI, 24, .inl q_pace)), (ra 6, .inl (kI, 24, .inl q_mute)), (ra 7, .inl (kI, 24, .inl q_late)), (ra 8, .inl (kI, 40, .inl q_from)), (ra 9, .inl (kI, 40, .inl q_to)), (ra 10, .inl (kI, 6, .inl q_goal)), (ra 14, .inl (kI, 12, .inl q_reach))]) hP hD hS hA [0, 10] [1, 2, 3, 4, 5, 6, 7, 8, 9, 11] rfl rfl (by decide +kernel)
  refine va_callv (va_runV (As := [.int 1]) (rest := []) ⟨hx, hb, hml, hown, hts⟩ (s11_opens l dC dI kB kI kJ kZ kC kS s.heap.size m0 ra x0 q_now 1 (hX) (hq_now)) (cwV 1 hts gX11_traceNow_X11_opens rfl rfl rfl (by decide +kernel) ⟨Nat.le_of_ble_eq_true rfl, Nat.le_of_ble_eq_true rfl⟩) ⟨fun a U g mk q => by obtain ⟨q0, q1, qP, qE, qD⟩ := q; exact ⟨q0, q1, qP, kE_call qE, qD⟩, va_recv hK hP (ci := 11) (q0 := 0) rfl rfl, fun U hU hW => ⟨rfl, by rw [hU], by rw [hU]; exact hPc, kE_warm hW hE, hDc.weaken (fun _ _ _ _ => trivial)⟩⟩ rfl rfl hl.1 rfl (lv_room (Nat.le_of_ble_eq_true rfl)) dX11_traceNow_2 ⟨Nat.le_of_ble_eq_true rfl, Nat.le_of_ble_eq_true rfl⟩) hS (fun q _ h => hFc q h) hFc (fun u t H locs ht hvm w23 hB hz1 hk1 hS => ?_)
  obtain ⟨f24, hq25, hP1, hD1⟩ := hB
  try dsimp only at w23
  obtain ⟨hPa, hDa⟩ := hJn (w1 := [(m0, .inr (11, oX11 ra x0)), (ra 11, .inl (kI, 1019, .inl f24))]) hk1 ht hP1 hD1
  clear hP hD hPc hDc hFc hJn hP1 hD1 hk1
  have hP : va_P (dC, dI) vwCl [(ra 2, .inl (kI, 8, .inl q_told)), (ra 3, .inl (kI, 24, .inl q_kind)), (ra 4, .inl (kI, 24, .inl q_salt)), (ra 5, .inl (kI, 24, .inl q_pace)), (ra 6, .inl (kI, 24, .inl q_mute)), (ra 7, .inl (kI, 24, .inl q_late)), (ra 8, .inl (kI, 40, .inl q_from)), (ra 9, .inl (kI, 40, .inl q_to)), (ra 10, .inl (kI, 6, .inl q_goal)), (ra 14, .inl (kI, 12, .inl q_reach)), (m0, .inr (11, oX11 ra x0)), (ra 11, .inl (kI, 1019, .inl f24))] H := hPa
  have hD : va_D A [(ra 2, .inl (kI, 8, .inl q_told)), (ra 3, .inl (kI, 24, .inl q_kind)), (ra 4, .inl (kI, 24, .inl q_salt)), (ra 5, .inl (kI, 24, .inl q_pace)), (ra 6, .inl (kI, 24, .inl q_mute)), (ra 7, .inl (kI, 24, .inl q_late)), (ra 8, .inl (kI, 40, .inl q_from)), (ra 9, .inl (kI, 40, .inl q_to)), (ra 10, .inl (kI, 6, .inl q_goal)), (ra 14, .inl (kI, 12, .inl q_reach)), (m0, .inr (11, oX11 ra x0)), (ra 11, .inl (kI, 1019, .inl f24))] := hDa
  clear hPa hDa
  refine W.widen (k := 0) (n := 0) (Nat.le_of_ble_eq_true rfl) (Nat.le_of_ble_eq_true rfl) ?_
  refine lv_iconst (v := 1) hx hb dX11_traceNow_5 ic_1 ?_
  refine lv_istore_n (lv' := [(3, .int 1), (0, .ref m0), (1, .int p0), (2, .int p1)]) hx hb dX11_traceNow_6 rfl hl (Nat.le_of_ble_eq_true rfl) rfl (fun ls hl => ?_)
  have hPD9 := cl_s (wc := [(m0, .inr (11, oX11 ra x0)), (ra 2, .inl (kI, 8, .inl q_told)), (ra 3, .inl (kI, 24, .inl q_kind)), (ra 4, .inl (kI, 24, .inl q_salt)), (ra 5, .inl (kI, 24, .inl q_pace)), (ra 6, .inl (kI, 24, .inl q_mute)), (ra 7, .inl (kI, 24, .inl q_late)), (ra 8, .inl (kI, 40, .inl q_from)), (ra 9, .inl (kI, 40, .inl q_to)), (ra 10, .inl (kI, 6, .inl q_goal)), (ra 11, .inl (kI, 1019, .inl f24)), (ra 14, .inl (kI, 12, .inl q_reach))]) hP hD [10, 0, 1, 2, 3, 4, 5, 6, 7, 8, 11, 9] rfl (by decide +kernel)
  exact hJ7 _ x0 f24 1 _ _ _ (Nat.lt_succ_self _) (hX) (hq25) ((iv_w ivk_1 (by decide) (by decide))) (hfl14) ((show x0 1 = x0 1 from rfl)) ((show x0 10 = x0 10 from rfl)) ((show x0 11 = x0 11 from rfl)) (hPD9.1) (hPD9.2) hS (lv_sub hl [1, 2, 3, 0] rfl)
def rm_s11_keep : Room := { frames := 0, cells := 0, slots := 0, locals := 0 }
set_option maxHeartbeats 4000000 in
set_option maxRecDepth 100000 in
theorem s11_keep (l : Launch) (dC : Nat → ClassId) (dI : Nat → Nat → Nat) (kB kI kJ kZ kC kS : ClassId) (sz : Nat) (m0 : Nat) (ra : Nat → Nat) (x0 : Nat → Int32) (q_now : Nat → Int32) (q_past : Nat → Int32) (hX : fI lX11 hX11 x0) (hq_now : fI lNow hNow q_now) (hq_past : fI lPast hPast q_past) : Met l yX11_keep wsX11_keep rm_s11_keep (va_Pc [.ref m0] (fun U => U.heap.size = sz ∧ va_P (dC, dI) vwCl [(m0, .inr (11, oX11 ra x0)), (ra 11, .inl (kI, 1019, .inl q_now)), (ra 16, .inl (kI, 40760, .inl q_past))] U.heap ∧ kE dC dI kB kI kJ kZ kC kS U ∧ va_D (fun _ => True) [(m0, .inr (11, oX11 ra x0)), (ra 11, .inl (kI, 1019, .inl q_now)), (ra 16, .inl (kI, 40760, .inl q_past))])) (va_Qv (fun (_ : Unit) => True) (fun _ t => ∃ (x0' : Nat → Int32) (q_past' : Nat → Int32), fI lX11 hX11 x0' ∧ fI lPast hPast q_past' ∧ (x0' 1 = x0 1) ∧ (x0' 10 = x0 10) ∧ (x0' 11 = x0 11) ∧ (x0' 14 = x0 14) ∧ va_P (dC, dI) vwCl [(m0, .inr (11, oX11 ra x0')), (ra 11, .inl (kI, 1019, .inl q_now)), (ra 16, .inl (kI, 40760, .inl q_past'))] t.heap ∧ va_D (va_A [(m0, .inr (11, oX11 ra x0)), (ra 11, .inl (kI, 1019, .inl q_now)), (ra 16, .inl (kI, 40760, .inl q_past))] sz) [(m0, .inr (11, oX11 ra x0')), (ra 11, .inl (kI, 1019, .inl q_now)), (ra 16, .inl (kI, 40760, .inl q_past'))]) (va_A [(m0, .inr (11, oX11 ra x0)), (ra 11, .inl (kI, 1019, .inl q_now)), (ra 16, .inl (kI, 40760, .inl q_past))] sz)) 0 0 (va_A [(m0, .inr (11, oX11 ra x0)), (ra 11, .inl (kI, 1019, .inl q_now)), (ra 16, .inl (kI, 40760, .inl q_past))] sz) := by
  refine Met.ofW (cc := cX11_keep) (maxL := 2) (ret := none) (by decide) rfl ?_
  intro p e s m args0 below meth c s₁ B hml hv
  obtain ⟨hargs, hsz, hP, hE, hD0⟩ := hv
  have hx := B.exec
  have hb := B.bytes
  have hr := B.returns
  have hts := atoms_spec (ws := wsX11_keep) B.pre
  have hown : s.vm.findClass RX11 = some m.cls := findClass_of_methodNamed B.named
  have hlocks := B.notSynchronized
  have hK := hE.1
  have hin11 : ∀ w ∈ wsX110, w ∈ wsX11_keep := fun _ h9 => List.mem_cons_of_mem _ (List.mem_append_right _ h9)
  have hw_0 := hts (.fieldLink RX11 250 "PathProberModel" "acts" "I") (List.mem_of_getElem? (i := 1) rfl)
  have hw_1 := hts (.fieldLink RX11 84 "PathProberModel" "past" "[I") (List.mem_of_getElem? (i := 2) rfl)
  have hw_2 := hts (.fieldLink RX11 60 "PathProberModel" "now" "[I") (List.mem_of_getElem? (i := 3) rfl)
  subst hsz
  have hD := hD0.self (sz := s.heap.size)
  generalize hAe : va_A [(m0, .inr (11, oX11 ra x0)), (ra 11, .inl (kI, 1019, .inl q_now)), (ra 16, .inl (kI, 40760, .inl q_past))] s.heap.size = A at hD ⊢
  have hA : ∀ q : Nat, s.heap.size ≤ q → A q := fun q h => by rw [← hAe]; exact Or.inr h
  have hS : va_S A s.heap s.heap [] := va_S.rf
  have hP : va_P (dC, dI) vwCl [(m0, .inr (11, oX11 ra x0)), (ra 11, .inl (kI, 1019, .inl q_now)), (ra 16, .inl (kI, 40760, .inl q_past))] s.heap := hP
  have hl := lv_entry ([.ref m0]) (n := 2) (Nat.le_of_ble_eq_true rfl)
  have hla : entryFrame m args0 2 = entryFrame m ([.ref m0] : List Value).toArray 2 := by rw [hargs]
  rw [hla, lg_entry_eq]
  generalize (lg_sl ([.ref m0]) ++ List.replicate (2 - (lg_sl ([.ref m0])).length) Slot.unset).toArray = ls at hl ⊢
  have hl : lv_has ls 2 [(0, .ref m0)] := hl
  have hJ56 : ∀ (n : Nat) (y56_0 : Nat → Int32) (g56_2 : Nat → Int32) (v56_loc1 : Int32) (H : Heap) (locs : List Loc) (ls : Array Slot), (1019 - v56_loc1.toInt).toNat < n → fI lX11 hX11 y56_0 → fI lPast hPast g56_2 → iv 0 1019 v56_loc1 → iv 0 39 (y56_0 17) → (y56_0 1 = x0 1) → (y56_0 10 = x0 10) → (y56_0 11 = x0 11) → (y56_0 14 = x0 14) → va_P (dC, dI) vwCl [(m0, .inr (11, oX11 ra y56_0)), (ra 11, .inl (kI, 1019, .inl q_now)), (ra 16, .inl (kI, 40760, .inl g56_2))] H → va_D A [(m0, .inr (11, oX11 ra y56_0)), (ra 11, .inl (kI, 1019, .inl q_now)), (ra 16, .inl (kI, 40760, .inl g56_2))] → va_S A s.heap H locs → lv_has ls 2 [(0, .ref m0), (1, .int v56_loc1)] → W p l e (headSpec wsX11_keep rm_s11_keep).room s m args0 below meth c H locs (0) (0) (MQ below (va_Qv (fun (_ : Unit) => True) (fun _ t => ∃ (x0' : Nat → Int32) (q_past' : Nat → Int32), fI lX11 hX11 x0' ∧ fI lPast hPast q_past' ∧ (x0' 1 = x0 1) ∧ (x0' 10 = x0 10) ∧ (x0' 11 = x0 11) ∧ (x0' 14 = x0 14) ∧ va_P (dC, dI) vwCl [(m0, .inr (11, oX11 ra x0')), (ra 11, .inl (kI, 1019, .inl q_now)), (ra 16, .inl (kI, 40760, .inl q_past'))] t.heap ∧ va_D A [(m0, .inr (11, oX11 ra x0')), (ra 11, .inl (kI, 1019, .inl q_now)), (ra 16, .inl (kI, 40760, .inl q_past'))]) A) args0 s 0 0 A) (F0 m 56 ls []) := by
    intro n
    induction n with
    | zero => intro y56_0 g56_2 v56_loc1 H locs ls hm56; exact absurd hm56 (Nat.not_lt_zero _)
    | succ n ih56 =>
      intro y56_0 g56_2 v56_loc1 H locs ls hm56 hI56_0 hI56_2 h56_3 h56_4 htp_56 hfp_56 hor_56 hirl_56 hP hD hS hl
      refine lv_iload_n hx hb dX11_keep_56 rfl (lv_at hl 1 rfl) ?_
      refine lv_sipush (v := 1019) hx hb dX11_keep_57 (by decide) ?_
      refine lv_icmp_ge (tgt := 90) hx hb dX11_keep_60 rfl (fun c1 => ?_) (fun c1 => ?_)
      · have b2 : iv 1019 1019 v56_loc1 := iv_leR c1 ivk_1019 h56_3 (by decide) (by decide)
        refine lv_aload_n hx hb dX11_keep_90 rfl (lv_at hl 0 rfl) ?_
        refine lv_dup hx hb dX11_keep_91 rfl ?_
        refine va_get (D := (dC, dI)) (ci := 11) (v := .int (y56_0 17)) (C := RX11) (T := TX11) (N := 61) hx hb hts hin11 hown hK hP 0 rfl rfl 33 (Nat.le_of_ble_eq_true rfl) hw_0 (fun _ h9 => h9) rfl dX11_keep_92 ?_
        refine lv_iconst (v := 1) hx hb dX11_keep_95 ic_1 ?_
        refine lv_iadd hx hb dX11_keep_96 ?_
        refine iv_top (a := 1) (b := 40) (iv_add h56_4 ivk_1 (by decide) (by decide) (by decide) (by decide)) (fun z3 b4 => ?_)
        refine va_put (D := (dC, dI)) (ci := 11) (v := .int z3) (ty := .int) (C := RX11) (T := TX11) (N := 61) hx hb hts hin11 tyX11 tyX11_ok nmX11 hown hK hP hD hS 0 rfl rfl 33 (by decide) hw_0 (fun _ h9 => h9) rfl (by decide +kernel) rfl rfl (Nat.le_of_ble_eq_true rfl) dX11_keep_97 (fun H locs hPa hDa hS => ?_)
        clear hP hD
        have hP : va_P (dC, dI) vwCl [(m0, .inr (11, oX11 ra (upd y56_0 17 z3))), (ra 11, .inl (kI, 1019, .inl q_now)), (ra 16, .inl (kI, 40760, .inl g56_2))] H := hPa
        have hD : va_D A [(m0, .inr (11, oX11 ra (upd y56_0 17 z3))), (ra 11, .inl (kI, 1019, .inl q_now)), (ra 16, .inl (kI, 40760, .inl g56_2))] := hDa
        clear hPa hDa
        have hP9 := hP
        have hD9 := hD
        exact W.vret hx hb hr (fun t ht hW => ⟨⟨(), rfl, trivial, upd y56_0 17 z3, g56_2, (fI_u hI56_0 (k := 17) ((iv_w b4 (by decide) (by decide)))), hI56_2, (show y56_0 1 = x0 1 from htp_56), (show y56_0 10 = x0 10 from hfp_56), (show y56_0 11 = x0 11 from hor_56), (show y56_0 14 = x0 14 from hirl_56), by rw [ht]; exact hP9, hD9⟩, hS.F ht⟩) hS.2.2 dX11_keep_100
      · have b5 : iv 0 1018 v56_loc1 := iv_ltL (Int32.not_le.mp c1) h56_3 ivk_1019 (by decide) (by decide)
        refine lv_aload_n hx hb dX11_keep_63 rfl (lv_at hl 0 rfl) ?_
        refine va_get (D := (dC, dI)) (ci := 11) (v := .ref (ra 16)) (C := RX11) (T := TX11) (N := 61) hx hb hts hin11 hown hK hP 0 rfl rfl 34 (Nat.le_of_ble_eq_true rfl) hw_1 (fun _ h9 => h9) rfl dX11_keep_64 ?_
        refine lv_sipush (v := 1019) hx hb dX11_keep_67 (by decide) ?_
        refine lv_aload_n hx hb dX11_keep_70 rfl (lv_at hl 0 rfl) ?_
        refine va_get (D := (dC, dI)) (ci := 11) (v := .int (y56_0 17)) (C := RX11) (T := TX11) (N := 61) hx hb hts hin11 hown hK hP 0 rfl rfl 33 (Nat.le_of_ble_eq_true rfl) hw_0 (fun _ h9 => h9) rfl dX11_keep_71 ?_
        refine lv_imul hx hb dX11_keep_74 ?_
        have b6 : iv 0 39741 (1019 * (y56_0 17)) := iv_mul ivk_1019 h56_4 (by decide) (by decide) (by decide) (by decide) (by decide)
        refine lv_iload_n hx hb dX11_keep_75 rfl (lv_at hl 1 rfl) ?_
        refine lv_iadd hx hb dX11_keep_76 ?_
        have b7 : iv 0 40759 ((1019 * (y56_0 17)) + v56_loc1) := iv_add b6 b5 (by decide) (by decide) (by decide) (by decide)
        refine lv_aload_n hx hb dX11_keep_77 rfl (lv_at hl 0 rfl) ?_
        refine va_get (D := (dC, dI)) (ci := 11) (v := .ref (ra 11)) (C := RX11) (T := TX11) (N := 61) hx hb hts hin11 hown hK hP 0 rfl rfl 12 (Nat.le_of_ble_eq_true rfl) hw_2 (fun _ h9 => h9) rfl dX11_keep_78 ?_
        refine lv_iload_n hx hb dX11_keep_81 rfl (lv_at hl 1 rfl) ?_
        refine va_iald hx hb hK hP 1 1 rfl rfl (iv_in b5 (by decide) (by decide)) dX11_keep_82 ?_
        refine va_iast hx hb hK hP hD hS 2 1 rfl rfl (iv_in b7 (by decide) (by decide)) dX11_keep_83 (fun H locs hPa hDa hS => ?_)
        clear hP hD
        have hP : va_P (dC, dI) vwCl [(m0, .inr (11, oX11 ra y56_0)), (ra 11, .inl (kI, 1019, .inl q_now)), (ra 16, .inl (kI, 40760, .inl (upd g56_2 ((1019 * (y56_0 17)) + v56_loc1).toNatClampNeg (q_now v56_loc1.toNatClampNeg))))] H := hPa
        have hD : va_D A [(m0, .inr (11, oX11 ra y56_0)), (ra 11, .inl (kI, 1019, .inl q_now)), (ra 16, .inl (kI, 40760, .inl (upd g56_2 ((1019 * (y56_0 17)) + v56_loc1).toNatClampNeg (q_now v56_loc1.toNatClampNeg))))] := hDa
        clear hPa hDa
        have hf9 : fI lPast hPast (upd g56_2 ((1019 * (y56_0 17)) + v56_loc1).toNatClampNeg (q_now v56_loc1.toNatClampNeg)) := fI_u hI56_2 (past_row hq_now h56_4 b5)
        generalize (upd g56_2 ((1019 * (y56_0 17)) + v56_loc1).toNatClampNeg (q_now v56_loc1.toNatClampNeg)) = f8 at hP hD hf9
        refine lv_iinc (v := v56_loc1 + Int32.ofInt 1) (lv' := [(1, .int (v56_loc1 + Int32.ofInt 1)), (0, .ref m0)]) hx hb dX11_keep_84 hl (k := 1) rfl (rfl) (Nat.le_of_ble_eq_true rfl) rfl (fun ls hl => ?_)
        have b10 : iv 1 1019 (v56_loc1 + Int32.ofInt 1) := iv_add b5 ivo_1 (by decide) (by decide) (by decide) (by decide)
        refine lv_goto (tgt := 56) hx hb dX11_keep_87 rfl ?_
        exact ih56 y56_0 f8 (v56_loc1 + Int32.ofInt 1) _ _ _ (ms_up (c := 1) (d := 0) b5 hm56 (by decide) (iv_inc 1 b5 (by decide) (by decide) (by decide) (by decide)) (by decide) rfl) (hI56_0) (hf9) ((iv_w b10 (by decide) (by decide))) (h56_4) ((show y56_0 1 = x0 1 from htp_56)) ((show y56_0 10 = x0 10 from hfp_56)) ((show y56_0 11 = x0 11 from hor_56)) ((show y56_0 14 = x0 14 from hirl_56)) (hP) (hD) hS (lv_sub hl [1, 0] rfl)
  have hJ54 : ∀ (y54_0 : Nat → Int32) (g54_2 : Nat → Int32) (H : Heap) (locs : List Loc) (ls : Array Slot), fI lX11 hX11 y54_0 → fI lPast hPast g54_2 → iv 0 39 (y54_0 17) → (y54_0 1 = x0 1) → (y54_0 10 = x0 10) → (y54_0 11 = x0 11) → (y54_0 14 = x0 14) → va_P (dC, dI) vwCl [(m0, .inr (11, oX11 ra y54_0)), (ra 11, .inl (kI, 1019, .inl q_now)), (ra 16, .inl (kI, 40760, .inl g54_2))] H → va_D A [(m0, .inr (11, oX11 ra y54_0)), (ra 11, .inl (kI, 1019, .inl q_now)), (ra 16, .inl (kI, 40760, .inl g54_2))] → va_S A s.heap H locs → lv_has ls 2 [(0, .ref m0)] → W p l e (headSpec wsX11_keep rm_s11_keep).room s m args0 below meth c H locs (0) (0) (MQ below (va_Qv (fun (_ : Unit) => True) (fun _ t => ∃ (x0' : Nat → Int32) (q_past' : Nat → Int32), fI lX11 hX11 x0' ∧ fI lPast hPast q_past' ∧ (x0' 1 = x0 1) ∧ (x0' 10 = x0 10) ∧ (x0' 11 = x0 11) ∧ (x0' 14 = x0 14) ∧ va_P (dC, dI) vwCl [(m0, .inr (11, oX11 ra x0')), (ra 11, .inl (kI, 1019, .inl q_now)), (ra 16, .inl (kI, 40760, .inl q_past'))] t.heap ∧ va_D A [(m0, .inr (11, oX11 ra x0')), (ra 11, .inl (kI, 1019, .inl q_now)), (ra 16, .inl (kI, 40760, .inl q_past'))]) A) args0 s 0 0 A) (F0 m 54 ls []) := by
    intro y54_0 g54_2 H locs ls hI54_0 hI54_2 h54_3 htp_54 hfp_54 hor_54 hirl_54 hP hD hS hl
    refine lv_iconst (v := 0) hx hb dX11_keep_54 ic_0 ?_
    refine lv_istore_n (lv' := [(1, .int 0), (0, .ref m0)]) hx hb dX11_keep_55 rfl hl (Nat.le_of_ble_eq_true rfl) rfl (fun ls hl => ?_)
    exact hJ56 _ y54_0 g54_2 0 _ _ _ (Nat.lt_succ_self _) (hI54_0) (hI54_2) ((iv_w ivk_0 (by decide) (by decide))) (h54_3) ((show y54_0 1 = x0 1 from htp_54)) ((show y54_0 10 = x0 10 from hfp_54)) ((show y54_0 11 = x0 11 from hor_54)) ((show y54_0 14 = x0 14 from hirl_54)) (hP) (hD) hS (lv_sub hl [1, 0] rfl)
  have hJ13 : ∀ (n : Nat) (g13_2 : Nat → Int32) (v13_loc1 : Int32) (H : Heap) (locs : List Loc) (ls : Array Slot), (40760 - v13_loc1.toInt).toNat < n → fI lPast hPast g13_2 → iv 1019 40760 v13_loc1 → iv 40 40 (x0 17) → (x0 1 = x0 1) → (x0 10 = x0 10) → (x0 11 = x0 11) → (x0 14 = x0 14) → va_P (dC, dI) vwCl [(m0, .inr (11, oX11 ra x0)), (ra 11, .inl (kI, 1019, .inl q_now)), (ra 16, .inl (kI, 40760, .inl g13_2))] H → va_D A [(m0, .inr (11, oX11 ra x0)), (ra 11, .inl (kI, 1019, .inl q_now)), (ra 16, .inl (kI, 40760, .inl g13_2))] → va_S A s.heap H locs → lv_has ls 2 [(0, .ref m0), (1, .int v13_loc1)] → W p l e (headSpec wsX11_keep rm_s11_keep).room s m args0 below meth c H locs (0) (0) (MQ below (va_Qv (fun (_ : Unit) => True) (fun _ t => ∃ (x0' : Nat → Int32) (q_past' : Nat → Int32), fI lX11 hX11 x0' ∧ fI lPast hPast q_past' ∧ (x0' 1 = x0 1) ∧ (x0' 10 = x0 10) ∧ (x0' 11 = x0 11) ∧ (x0' 14 = x0 14) ∧ va_P (dC, dI) vwCl [(m0, .inr (11, oX11 ra x0')), (ra 11, .inl (kI, 1019, .inl q_now)), (ra 16, .inl (kI, 40760, .inl q_past'))] t.heap ∧ va_D A [(m0, .inr (11, oX11 ra x0')), (ra 11, .inl (kI, 1019, .inl q_now)), (ra 16, .inl (kI, 40760, .inl q_past'))]) A) args0 s 0 0 A) (F0 m 13 ls []) := by
    intro n
    induction n with
    | zero => intro g13_2 v13_loc1 H locs ls hm13; exact absurd hm13 (Nat.not_lt_zero _)
    | succ n ih13 =>
      intro g13_2 v13_loc1 H locs ls hm13 hI13_2 h13_2 h13_3 htp_13 hfp_13 hor_13 hirl_13 hP hD hS hl
      refine lv_iload_n hx hb dX11_keep_13 rfl (lv_at hl 1 rfl) ?_
      refine lv_aload_n hx hb dX11_keep_14 rfl (lv_at hl 0 rfl) ?_
      refine va_get (D := (dC, dI)) (ci := 11) (v := .ref (ra 16)) (C := RX11) (T := TX11) (N := 61) hx hb hts hin11 hown hK hP 0 rfl rfl 34 (Nat.le_of_ble_eq_true rfl) hw_1 (fun _ h9 => h9) rfl dX11_keep_15 ?_
      refine va_alen (v := 40760) hx hb hK hP 2 1 rfl rfl rfl dX11_keep_18 ?_
      refine lv_icmp_ge (tgt := 44) hx hb dX11_keep_19 rfl (fun c11 => ?_) (fun c11 => ?_)
      · have b12 : iv 40760 40760 v13_loc1 := iv_leR c11 (iv_k (by decide) (by decide) : iv 40760 40760 40760) h13_2 (by decide) (by decide)
        refine lv_aload_n hx hb dX11_keep_44 rfl (lv_at hl 0 rfl) ?_
        refine lv_dup hx hb dX11_keep_45 rfl ?_
        refine va_get (D := (dC, dI)) (ci := 11) (v := .int (x0 17)) (C := RX11) (T := TX11) (N := 61) hx hb hts hin11 hown hK hP 0 rfl rfl 33 (Nat.le_of_ble_eq_true rfl) hw_0 (fun _ h9 => h9) rfl dX11_keep_46 ?_
        refine lv_iconst (v := 1) hx hb dX11_keep_49 ic_1 ?_
        refine lv_isub hx hb dX11_keep_50 ?_
        refine iv_top (a := 39) (b := 39) (iv_sub h13_3 ivk_1 (by decide) (by decide) (by decide) (by decide)) (fun z13 b14 => ?_)
        refine va_put (D := (dC, dI)) (ci := 11) (v := .int z13) (ty := .int) (C := RX11) (T := TX11) (N := 61) hx hb hts hin11 tyX11 tyX11_ok nmX11 hown hK hP hD hS 0 rfl rfl 33 (by decide) hw_0 (fun _ h9 => h9) rfl (by decide +kernel) rfl rfl (Nat.le_of_ble_eq_true rfl) dX11_keep_51 (fun H locs hPa hDa hS => ?_)
        clear hP hD
        have hP : va_P (dC, dI) vwCl [(m0, .inr (11, oX11 ra (upd x0 17 z13))), (ra 11, .inl (kI, 1019, .inl q_now)), (ra 16, .inl (kI, 40760, .inl g13_2))] H := hPa
        have hD : va_D A [(m0, .inr (11, oX11 ra (upd x0 17 z13))), (ra 11, .inl (kI, 1019, .inl q_now)), (ra 16, .inl (kI, 40760, .inl g13_2))] := hDa
        clear hPa hDa
        exact hJ54 (upd x0 17 z13) g13_2 _ _ _ ((fI_u hX (k := 17) ((iv_w b14 (by decide) (by decide))))) (hI13_2) ((iv_w b14 (by decide) (by decide))) ((show x0 1 = x0 1 from rfl)) ((show x0 10 = x0 10 from rfl)) ((show x0 11 = x0 11 from rfl)) ((show x0 14 = x0 14 from rfl)) (hP) (hD) hS (lv_sub hl [0] rfl)
      · have b15 : iv 1019 40759 v13_loc1 := iv_ltL (Int32.not_le.mp c11) h13_2 (iv_k (by decide) (by decide) : iv 40760 40760 40760) (by decide) (by decide)
        refine lv_aload_n hx hb dX11_keep_22 rfl (lv_at hl 0 rfl) ?_
        refine va_get (D := (dC, dI)) (ci := 11) (v := .ref (ra 16)) (C := RX11) (T := TX11) (N := 61) hx hb hts hin11 hown hK hP 0 rfl rfl 34 (Nat.le_of_ble_eq_true rfl) hw_1 (fun _ h9 => h9) rfl dX11_keep_23 ?_
        refine lv_iload_n hx hb dX11_keep_26 rfl (lv_at hl 1 rfl) ?_
        refine lv_sipush (v := 1019) hx hb dX11_keep_27 (by decide) ?_
        refine lv_isub hx hb dX11_keep_30 ?_
        have b16 : iv 0 39740 (v13_loc1 - 1019) := iv_sub b15 ivk_1019 (by decide) (by decide) (by decide) (by decide)
        refine lv_aload_n hx hb dX11_keep_31 rfl (lv_at hl 0 rfl) ?_
        refine va_get (D := (dC, dI)) (ci := 11) (v := .ref (ra 16)) (C := RX11) (T := TX11) (N := 61) hx hb hts hin11 hown hK hP 0 rfl rfl 34 (Nat.le_of_ble_eq_true rfl) hw_1 (fun _ h9 => h9) rfl dX11_keep_32 ?_
        refine lv_iload_n hx hb dX11_keep_35 rfl (lv_at hl 1 rfl) ?_
        refine va_iald hx hb hK hP 2 1 rfl rfl (iv_in b15 (by decide) (by decide)) dX11_keep_36 ?_
        refine va_iast hx hb hK hP hD hS 2 1 rfl rfl (iv_in b16 (by decide) (by decide)) dX11_keep_37 (fun H locs hPa hDa hS => ?_)
        clear hP hD
        have hP : va_P (dC, dI) vwCl [(m0, .inr (11, oX11 ra x0)), (ra 11, .inl (kI, 1019, .inl q_now)), (ra 16, .inl (kI, 40760, .inl (upd g13_2 (v13_loc1 - 1019).toNatClampNeg (g13_2 v13_loc1.toNatClampNeg))))] H := hPa
        have hD : va_D A [(m0, .inr (11, oX11 ra x0)), (ra 11, .inl (kI, 1019, .inl q_now)), (ra 16, .inl (kI, 40760, .inl (upd g13_2 (v13_loc1 - 1019).toNatClampNeg (g13_2 v13_loc1.toNatClampNeg))))] := hDa
        clear hPa hDa
        have hf18 : fI lPast hPast (upd g13_2 (v13_loc1 - 1019).toNatClampNeg (g13_2 v13_loc1.toNatClampNeg)) := fI_u hI13_2 (past_sh hI13_2 b15)
        generalize (upd g13_2 (v13_loc1 - 1019).toNatClampNeg (g13_2 v13_loc1.toNatClampNeg)) = f17 at hP hD hf18
        refine lv_iinc (v := v13_loc1 + Int32.ofInt 1) (lv' := [(1, .int (v13_loc1 + Int32.ofInt 1)), (0, .ref m0)]) hx hb dX11_keep_38 hl (k := 1) rfl (rfl) (Nat.le_of_ble_eq_true rfl) rfl (fun ls hl => ?_)
        have b19 : iv 1020 40760 (v13_loc1 + Int32.ofInt 1) := iv_add b15 ivo_1 (by decide) (by decide) (by decide) (by decide)
        refine lv_goto (tgt := 13) hx hb dX11_keep_41 rfl ?_
        exact ih13 f17 (v13_loc1 + Int32.ofInt 1) _ _ _ (ms_up (c := 1) (d := 0) b15 hm13 (by decide) (iv_inc 1 b15 (by decide) (by decide) (by decide) (by decide)) (by decide) rfl) (hf18) ((iv_w b19 (by decide) (by decide))) (h13_3) ((show x0 1 = x0 1 from rfl)) ((show x0 10 = x0 10 from rfl)) ((show x0 11 = x0 11 from rfl)) ((show x0 14 = x0 14 from rfl)) (hP) (hD) hS (lv_sub hl [1, 0] rfl)
  refine lv_aload_n hx hb dX11_keep_0 rfl (lv_at hl 0 rfl) ?_
  refine va_get (D := (dC, dI)) (ci := 11) (v := .int (x0 17)) (C := RX11) (T := TX11) (N := 61) hx hb hts hin11 hown hK hP 0 rfl rfl 33 (Nat.le_of_ble_eq_true rfl) hw_0 (fun _ h9 => h9) rfl dX11_keep_1 ?_
  refine lv_bipush (v := 40) hx hb dX11_keep_4 bp_40 ?_
  refine lv_icmp_ne (tgt := 54) hx hb dX11_keep_6 rfl (fun c20 => ?_) (fun c20 => ?_)
  · have b21 : iv 0 39 (x0 17) := iv_neHi c20 (hX 17 : iv 0 40 (x0 17)) ivk_40 (by decide) (by decide)
    exact hJ54 x0 q_past _ _ _ (hX) (hq_past) (b21) ((show x0 1 = x0 1 from rfl)) ((show x0 10 = x0 10 from rfl)) ((show x0 11 = x0 11 from rfl)) ((show x0 14 = x0 14 from rfl)) (hP) (hD) hS (lv_sub hl [0] rfl)
  · have b22 : iv 40 40 (x0 17) := iv_eqL c20 ivk_40
    refine lv_sipush (v := 1019) hx hb dX11_keep_9 (by decide) ?_
    refine lv_istore_n (lv' := [(1, .int 1019), (0, .ref m0)]) hx hb dX11_keep_12 rfl hl (Nat.le_of_ble_eq_true rfl) rfl (fun ls hl => ?_)
    exact hJ13 _ q_past 1019 _ _ _ (Nat.lt_succ_self _) (hq_past) ((iv_w ivk_1019 (by decide) (by decide))) (b22) ((show x0 1 = x0 1 from rfl)) ((show x0 10 = x0 10 from rfl)) ((show x0 11 = x0 11 from rfl)) ((show x0 14 = x0 14 from rfl)) (hP) (hD) hS (lv_sub hl [1, 0] rfl)
def rm_s11_undo : Room := { frames := 0, cells := 0, slots := 0, locals := 0 }
set_option maxHeartbeats 4000000 in
set_option maxRecDepth 100000 in
theorem s11_undo (l : Launch) (dC : Nat → ClassId) (dI : Nat → Nat → Nat) (kB kI kJ kZ kC kS : ClassId) (sz : Nat) (m0 : Nat) (ra : Nat → Nat) (x0 : Nat → Int32) (q_now : Nat → Int32) (q_past : Nat → Int32) (hX : fI lX11 hX11 x0) (hq_now : fI lNow hNow q_now) (hq_past : fI lPast hPast q_past) : Met l yX11_undo wsX11_undo rm_s11_undo (va_Pc [.ref m0] (fun U => U.heap.size = sz ∧ va_P (dC, dI) vwCl [(m0, .inr (11, oX11 ra x0)), (ra 11, .inl (kI, 1019, .inl q_now)), (ra 16, .inl (kI, 40760, .inl q_past))] U.heap ∧ kE dC dI kB kI kJ kZ kC kS U ∧ va_D (fun _ => True) [(m0, .inr (11, oX11 ra x0)), (ra 11, .inl (kI, 1019, .inl q_now)), (ra 16, .inl (kI, 40760, .inl q_past))])) (va_Qi (fun (r : Int32) (_ : Unit) => iv (-1) 39 r) (fun _ t => ∃ (x0' : Nat → Int32) (q_now' : Nat → Int32), fI lX11 hX11 x0' ∧ fI lNow hNow q_now' ∧ (x0' 1 = x0 1) ∧ (x0' 10 = x0 10) ∧ (x0' 11 = x0 11) ∧ (x0' 14 = x0 14) ∧ va_P (dC, dI) vwCl [(m0, .inr (11, oX11 ra x0')), (ra 11, .inl (kI, 1019, .inl q_now')), (ra 16, .inl (kI, 40760, .inl q_past))] t.heap ∧ va_D (va_A [(m0, .inr (11, oX11 ra x0)), (ra 11, .inl (kI, 1019, .inl q_now)), (ra 16, .inl (kI, 40760, .inl q_past))] sz) [(m0, .inr (11, oX11 ra x0')), (ra 11, .inl (kI, 1019, .inl q_now')), (ra 16, .inl (kI, 40760, .inl q_past))]) (va_A [(m0, .inr (11, oX11 ra x0)), (ra 11, .inl (kI, 1019, .inl q_now)), (ra 16, .inl (kI, 40760, .inl q_past))] sz)) 0 0 (va_A [(m0, .inr (11, oX11 ra x0)), (ra 11, .inl (kI, 1019, .inl q_now)), (ra 16, .inl (kI, 40760, .inl q_past))] sz) := by
  refine Met.ofW (cc := cX11_undo) (maxL := 2) (ret := (some .int)) (by decide) rfl ?_
  intro p e s m args0 below meth c s₁ B hml hv
  obtain ⟨hargs, hsz, hP, hE, hD0⟩ := hv
  have hx := B.exec
  have hb := B.bytes
  have hr := B.returns
  have hts := atoms_spec (ws := wsX11_undo) B.pre
  have hown : s.vm.findClass RX11 = some m.cls := findClass_of_methodNamed B.named
  have hlocks := B.notSynchronized
  have hK := hE.1
  have hin11 : ∀ w ∈ wsX110, w ∈ wsX11_undo := fun _ h9 => List.mem_cons_of_mem _ (List.mem_append_right _ h9)
  have hw_0 := hts (.fieldLink RX11 250 "PathProberModel" "acts" "I") (List.mem_of_getElem? (i := 2) rfl)
  have hw_1 := hts (.fieldLink RX11 60 "PathProberModel" "now" "[I") (List.mem_of_getElem? (i := 3) rfl)
  have hw_2 := hts (.fieldLink RX11 84 "PathProberModel" "past" "[I") (List.mem_of_getElem? (i := 4) rfl)
  have hw_3 := hts (.fieldLink RX11 142 "PathProberModel" "code" "I") (List.mem_of_getElem? (i := 1) rfl)
  subst hsz
  have hD := hD0.self (sz := s.heap.size)
  generalize hAe : va_A [(m0, .inr (11, oX11 ra x0)), (ra 11, .inl (kI, 1019, .inl q_now)), (ra 16, .inl (kI, 40760, .inl q_past))] s.heap.size = A at hD ⊢
  have hA : ∀ q : Nat, s.heap.size ≤ q → A q := fun q h => by rw [← hAe]; exact Or.inr h
  have hS : va_S A s.heap s.heap [] := va_S.rf
  have hP : va_P (dC, dI) vwCl [(m0, .inr (11, oX11 ra x0)), (ra 11, .inl (kI, 1019, .inl q_now)), (ra 16, .inl (kI, 40760, .inl q_past))] s.heap := hP
  have hl := lv_entry ([.ref m0]) (n := 2) (Nat.le_of_ble_eq_true rfl)
  have hla : entryFrame m args0 2 = entryFrame m ([.ref m0] : List Value).toArray 2 := by rw [hargs]
  rw [hla, lg_entry_eq]
  generalize (lg_sl ([.ref m0]) ++ List.replicate (2 - (lg_sl ([.ref m0])).length) Slot.unset).toArray = ls at hl ⊢
  have hl : lv_has ls 2 [(0, .ref m0)] := hl
  have hJ26 : ∀ (n : Nat) (y26_0 : Nat → Int32) (g26_1 : Nat → Int32) (v26_loc1 : Int32) (H : Heap) (locs : List Loc) (ls : Array Slot), (1019 - v26_loc1.toInt).toNat < n → fI lX11 hX11 y26_0 → fI lNow hNow g26_1 → iv 0 1019 v26_loc1 → iv 0 0 (y26_0 0) → iv 0 39 (y26_0 17) → iv 1 40 (x0 17) → (y26_0 1 = x0 1) → (y26_0 10 = x0 10) → (y26_0 11 = x0 11) → (y26_0 14 = x0 14) → va_P (dC, dI) vwCl [(m0, .inr (11, oX11 ra y26_0)), (ra 11, .inl (kI, 1019, .inl g26_1)), (ra 16, .inl (kI, 40760, .inl q_past))] H → va_D A [(m0, .inr (11, oX11 ra y26_0)), (ra 11, .inl (kI, 1019, .inl g26_1)), (ra 16, .inl (kI, 40760, .inl q_past))] → va_S A s.heap H locs → lv_has ls 2 [(0, .ref m0), (1, .int v26_loc1)] → W p l e (headSpec wsX11_undo rm_s11_undo).room s m args0 below meth c H locs (0) (0) (MQ below (va_Qi (fun (r : Int32) (_ : Unit) => iv (-1) 39 r) (fun _ t => ∃ (x0' : Nat → Int32) (q_now' : Nat → Int32), fI lX11 hX11 x0' ∧ fI lNow hNow q_now' ∧ (x0' 1 = x0 1) ∧ (x0' 10 = x0 10) ∧ (x0' 11 = x0 11) ∧ (x0' 14 = x0 14) ∧ va_P (dC, dI) vwCl [(m0, .inr (11, oX11 ra x0')), (ra 11, .inl (kI, 1019, .inl q_now')), (ra 16, .inl (kI, 40760, .inl q_past))] t.heap ∧ va_D A [(m0, .inr (11, oX11 ra x0')), (ra 11, .inl (kI, 1019, .inl q_now')), (ra 16, .inl (kI, 40760, .inl q_past))]) A) args0 s 0 0 A) (F0 m 26 ls []) := by
    intro n
    induction n with
    | zero => intro y26_0 g26_1 v26_loc1 H locs ls hm26; exact absurd hm26 (Nat.not_lt_zero _)
    | succ n ih26 =>
      intro y26_0 g26_1 v26_loc1 H locs ls hm26 hI26_0 hI26_1 h26_3 h26_4 h26_5 h26_6 htp_26 hfp_26 hor_26 hirl_26 hP hD hS hl
      refine lv_iload_n hx hb dX11_undo_26 rfl (lv_at hl 1 rfl) ?_
      refine lv_sipush (v := 1019) hx hb dX11_undo_27 (by decide) ?_
      refine lv_icmp_ge (tgt := 60) hx hb dX11_undo_30 rfl (fun c1 => ?_) (fun c1 => ?_)
      · have b2 : iv 1019 1019 v26_loc1 := iv_leR c1 ivk_1019 h26_3 (by decide) (by decide)
        refine lv_aload_n hx hb dX11_undo_60 rfl (lv_at hl 0 rfl) ?_
        refine va_get (D := (dC, dI)) (ci := 11) (v := .int (y26_0 17)) (C := RX11) (T := TX11) (N := 61) hx hb hts hin11 hown hK hP 0 rfl rfl 33 (Nat.le_of_ble_eq_true rfl) hw_0 (fun _ h9 => h9) rfl dX11_undo_61 ?_
        have hP9 := hP
        have hD9 := hD
        exact W.iret (v := y26_0 17) hx hb hr (fun t ht hW => ⟨⟨y26_0 17, (), rfl, (iv_w h26_5 (by decide) (by decide)), y26_0, g26_1, hI26_0, hI26_1, (show y26_0 1 = x0 1 from htp_26), (show y26_0 10 = x0 10 from hfp_26), (show y26_0 11 = x0 11 from hor_26), (show y26_0 14 = x0 14 from hirl_26), by rw [ht]; exact hP9, hD9⟩, hS.F ht⟩) hS.2.2 dX11_undo_64
      · have b3 : iv 0 1018 v26_loc1 := iv_ltL (Int32.not_le.mp c1) h26_3 ivk_1019 (by decide) (by decide)
        refine lv_aload_n hx hb dX11_undo_33 rfl (lv_at hl 0 rfl) ?_
        refine va_get (D := (dC, dI)) (ci := 11) (v := .ref (ra 11)) (C := RX11) (T := TX11) (N := 61) hx hb hts hin11 hown hK hP 0 rfl rfl 12 (Nat.le_of_ble_eq_true rfl) hw_1 (fun _ h9 => h9) rfl dX11_undo_34 ?_
        refine lv_iload_n hx hb dX11_undo_37 rfl (lv_at hl 1 rfl) ?_
        refine lv_aload_n hx hb dX11_undo_38 rfl (lv_at hl 0 rfl) ?_
        refine va_get (D := (dC, dI)) (ci := 11) (v := .ref (ra 16)) (C := RX11) (T := TX11) (N := 61) hx hb hts hin11 hown hK hP 0 rfl rfl 34 (Nat.le_of_ble_eq_true rfl) hw_2 (fun _ h9 => h9) rfl dX11_undo_39 ?_
        refine lv_sipush (v := 1019) hx hb dX11_undo_42 (by decide) ?_
        refine lv_aload_n hx hb dX11_undo_45 rfl (lv_at hl 0 rfl) ?_
        refine va_get (D := (dC, dI)) (ci := 11) (v := .int (y26_0 17)) (C := RX11) (T := TX11) (N := 61) hx hb hts hin11 hown hK hP 0 rfl rfl 33 (Nat.le_of_ble_eq_true rfl) hw_0 (fun _ h9 => h9) rfl dX11_undo_46 ?_
        refine lv_imul hx hb dX11_undo_49 ?_
        have b4 : iv 0 39741 (1019 * (y26_0 17)) := iv_mul ivk_1019 h26_5 (by decide) (by decide) (by decide) (by decide) (by decide)
        refine lv_iload_n hx hb dX11_undo_50 rfl (lv_at hl 1 rfl) ?_
        refine lv_iadd hx hb dX11_undo_51 ?_
        have b5 : iv 0 40759 ((1019 * (y26_0 17)) + v26_loc1) := iv_add b4 b3 (by decide) (by decide) (by decide) (by decide)
        refine va_iald hx hb hK hP 2 1 rfl rfl (iv_in b5 (by decide) (by decide)) dX11_undo_52 ?_
        refine va_iast hx hb hK hP hD hS 1 1 rfl rfl (iv_in b3 (by decide) (by decide)) dX11_undo_53 (fun H locs hPa hDa hS => ?_)
        clear hP hD
        have hP : va_P (dC, dI) vwCl [(m0, .inr (11, oX11 ra y26_0)), (ra 11, .inl (kI, 1019, .inl (upd g26_1 v26_loc1.toNatClampNeg (q_past ((1019 * (y26_0 17)) + v26_loc1).toNatClampNeg)))), (ra 16, .inl (kI, 40760, .inl q_past))] H := hPa
        have hD : va_D A [(m0, .inr (11, oX11 ra y26_0)), (ra 11, .inl (kI, 1019, .inl (upd g26_1 v26_loc1.toNatClampNeg (q_past ((1019 * (y26_0 17)) + v26_loc1).toNatClampNeg)))), (ra 16, .inl (kI, 40760, .inl q_past))] := hDa
        clear hPa hDa
        have hf7 : fI lNow hNow (upd g26_1 v26_loc1.toNatClampNeg (q_past ((1019 * (y26_0 17)) + v26_loc1).toNatClampNeg)) := fI_u hI26_1 (now_row hq_past h26_5 b3)
        generalize (upd g26_1 v26_loc1.toNatClampNeg (q_past ((1019 * (y26_0 17)) + v26_loc1).toNatClampNeg)) = f6 at hP hD hf7
        refine lv_iinc (v := v26_loc1 + Int32.ofInt 1) (lv' := [(1, .int (v26_loc1 + Int32.ofInt 1)), (0, .ref m0)]) hx hb dX11_undo_54 hl (k := 1) rfl (rfl) (Nat.le_of_ble_eq_true rfl) rfl (fun ls hl => ?_)
        have b8 : iv 1 1019 (v26_loc1 + Int32.ofInt 1) := iv_add b3 ivo_1 (by decide) (by decide) (by decide) (by decide)
        refine lv_goto (tgt := 26) hx hb dX11_undo_57 rfl ?_
        exact ih26 y26_0 f6 (v26_loc1 + Int32.ofInt 1) _ _ _ (ms_up (c := 1) (d := 0) b3 hm26 (by decide) (iv_inc 1 b3 (by decide) (by decide) (by decide) (by decide)) (by decide) rfl) (hI26_0) (hf7) ((iv_w b8 (by decide) (by decide))) (h26_4) (h26_5) (h26_6) ((show y26_0 1 = x0 1 from htp_26)) ((show y26_0 10 = x0 10 from hfp_26)) ((show y26_0 11 = x0 11 from hor_26)) ((show y26_0 14 = x0 14 from hirl_26)) (hP) (hD) hS (lv_sub hl [1, 0] rfl)
  refine lv_aload_n hx hb dX11_undo_0 rfl (lv_at hl 0 rfl) ?_
  refine lv_iconst (v := 0) hx hb dX11_undo_1 ic_0 ?_
  refine va_put (D := (dC, dI)) (ci := 11) (v := .int 0) (ty := .int) (C := RX11) (T := TX11) (N := 61) hx hb hts hin11 tyX11 tyX11_ok nmX11 hown hK hP hD hS 0 rfl rfl 2 (by decide) hw_3 (fun _ h9 => h9) rfl (by decide +kernel) rfl rfl (Nat.le_of_ble_eq_true rfl) dX11_undo_2 (fun H locs hPa hDa hS => ?_)
  clear hP hD
  have hP : va_P (dC, dI) vwCl [(m0, .inr (11, oX11 ra (upd x0 0 0))), (ra 11, .inl (kI, 1019, .inl q_now)), (ra 16, .inl (kI, 40760, .inl q_past))] H := hPa
  have hD : va_D A [(m0, .inr (11, oX11 ra (upd x0 0 0))), (ra 11, .inl (kI, 1019, .inl q_now)), (ra 16, .inl (kI, 40760, .inl q_past))] := hDa
  clear hPa hDa
  refine lv_aload_n hx hb dX11_undo_5 rfl (lv_at hl 0 rfl) ?_
  refine va_get (D := (dC, dI)) (ci := 11) (v := .int (x0 17)) (C := RX11) (T := TX11) (N := 61) hx hb hts hin11 hown hK hP 0 rfl rfl 33 (Nat.le_of_ble_eq_true rfl) hw_0 (fun _ h9 => h9) rfl dX11_undo_6 ?_
  refine lv_if_ne (tgt := 14) hx hb dX11_undo_9 rfl (fun c9 => ?_) (fun c9 => ?_)
  · have b10 : iv 1 40 (x0 17) := iv_neLo c9 (hX 17 : iv 0 40 (x0 17)) ivk_0 (by decide) (by decide)
    refine lv_aload_n hx hb dX11_undo_14 rfl (lv_at hl 0 rfl) ?_
    refine lv_dup hx hb dX11_undo_15 rfl ?_
    refine va_get (D := (dC, dI)) (ci := 11) (v := .int (x0 17)) (C := RX11) (T := TX11) (N := 61) hx hb hts hin11 hown hK hP 0 rfl rfl 33 (Nat.le_of_ble_eq_true rfl) hw_0 (fun _ h9 => h9) rfl dX11_undo_16 ?_
    refine lv_iconst (v := 1) hx hb dX11_undo_19 ic_1 ?_
    refine lv_isub hx hb dX11_undo_20 ?_
    refine iv_top (a := 0) (b := 39) (iv_sub b10 ivk_1 (by decide) (by decide) (by decide) (by decide)) (fun z11 b12 => ?_)
    refine va_put (D := (dC, dI)) (ci := 11) (v := .int z11) (ty := .int) (C := RX11) (T := TX11) (N := 61) hx hb hts hin11 tyX11 tyX11_ok nmX11 hown hK hP hD hS 0 rfl rfl 33 (by decide) hw_0 (fun _ h9 => h9) rfl (by decide +kernel) rfl rfl (Nat.le_of_ble_eq_true rfl) dX11_undo_21 (fun H locs hPa hDa hS => ?_)
    clear hP hD
    have hP : va_P (dC, dI) vwCl [(m0, .inr (11, oX11 ra (upd (upd x0 0 0) 17 z11))), (ra 11, .inl (kI, 1019, .inl q_now)), (ra 16, .inl (kI, 40760, .inl q_past))] H := hPa
    have hD : va_D A [(m0, .inr (11, oX11 ra (upd (upd x0 0 0) 17 z11))), (ra 11, .inl (kI, 1019, .inl q_now)), (ra 16, .inl (kI, 40760, .inl q_past))] := hDa
    clear hPa hDa
    refine lv_iconst (v := 0) hx hb dX11_undo_24 ic_0 ?_
    refine lv_istore_n (lv' := [(1, .int 0), (0, .ref m0)]) hx hb dX11_undo_25 rfl hl (Nat.le_of_ble_eq_true rfl) rfl (fun ls hl => ?_)
    exact hJ26 _ (upd (upd x0 0 0) 17 z11) q_now 0 _ _ _ (Nat.lt_succ_self _) ((fI_u (fI_u hX (k := 0) ((iv_w ivk_0 (by decide) (by decide)))) (k := 17) ((iv_w b12 (by decide) (by decide))))) (hq_now) ((iv_w ivk_0 (by decide) (by decide))) (ivk_0) (b12) (b10) ((show x0 1 = x0 1 from rfl)) ((show x0 10 = x0 10 from rfl)) ((show x0 11 = x0 11 from rfl)) ((show x0 14 = x0 14 from rfl)) (hP) (hD) hS (lv_sub hl [1, 0] rfl)
  · have b13 : iv 0 0 (x0 17) := iv_eqL c9 ivk_0
    refine lv_iconst (v := (-1)) hx hb dX11_undo_12 ic_m1 ?_
    have hP9 := hP
    have hD9 := hD
    exact W.iret (v := (-1)) hx hb hr (fun t ht hW => ⟨⟨(-1), (), rfl, (iv_w ivk_m1 (by decide) (by decide)), upd x0 0 0, q_now, (fI_u hX (k := 0) ((iv_w ivk_0 (by decide) (by decide)))), hq_now, (show x0 1 = x0 1 from rfl), (show x0 10 = x0 10 from rfl), (show x0 11 = x0 11 from rfl), (show x0 14 = x0 14 from rfl), by rw [ht]; exact hP9, hD9⟩, hS.F ht⟩) hS.2.2 dX11_undo_13
