def rm_s11_feed_room : Room := { frames := 0, cells := 0, slots := 0, locals := 0 }
set_option maxHeartbeats 4000000 in
set_option maxRecDepth 100000 in
theorem s11_feed_room (l : Launch) (dC : Nat → ClassId) (dI : Nat → Nat → Nat) (kB kI kJ kZ kC kS : ClassId) (sz : Nat) (m0 : Nat) (ra : Nat → Nat) (x0 : Nat → Int32) (q_tape : Nat → Int32) (p0 : Int32) (p1 : Int32) (p2 : Int32) (p3 : Int32) (p4 : Int32) (hX : fI lX11 hX11 x0) (hq_tape : fI (fun _ => 0) (fun _ => 255) q_tape) (hflr : iv 0 680 (x0 1)) : Met l yX11_feed wsX11_feed rm_s11_feed_room (va_Pc [.ref m0, .int p0, .int p1, .int p2, .int p3, .int p4] (fun U => U.heap.size = sz ∧ va_P (dC, dI) vwCl [(m0, .inr (11, oX11 ra x0)), (ra 13, .inl (kI, 700, .inl q_tape))] U.heap ∧ kE dC dI kB kI kJ kZ kC kS U ∧ va_D (fun _ => True) [(m0, .inr (11, oX11 ra x0)), (ra 13, .inl (kI, 700, .inl q_tape))])) (va_Qi (fun (r : Int32) (_ : Unit) => iv 0 700 r ∧ (r.toInt = (x0 1).toInt + 20)) (fun _ t => ∃ (x0' : Nat → Int32) (q_tape' : Nat → Int32), fI lX11 hX11 x0' ∧ fI (fun _ => 0) (fun _ => 255) q_tape' ∧ ((x0' 1).toInt = (x0 1).toInt + 20) ∧ va_P (dC, dI) vwCl [(m0, .inr (11, oX11 ra x0')), (ra 13, .inl (kI, 700, .inl q_tape'))] t.heap ∧ va_D (va_A [(m0, .inr (11, oX11 ra x0)), (ra 13, .inl (kI, 700, .inl q_tape))] sz) [(m0, .inr (11, oX11 ra x0')), (ra 13, .inl (kI, 700, .inl q_tape'))]) (va_A [(m0, .inr (11, oX11 ra x0)), (ra 13, .inl (kI, 700, .inl q_tape))] sz)) 0 0 (va_A [(m0, .inr (11, oX11 ra x0)), (ra 13, .inl (kI, 700, .inl q_tape))] sz) := by
  refine Met.ofW (cc := cX11_feed) (maxL := 8) (ret := (some .int)) (by decide) rfl ?_
  intro p e s m args0 below meth c s₁ B hml hv
  obtain ⟨hargs, hsz, hP, hE, hD0⟩ := hv
  have hx := B.exec
  have hb := B.bytes
  have hr := B.returns
  have hts := atoms_spec (ws := wsX11_feed) B.pre
  have hown : s.vm.findClass RX11 = some m.cls := findClass_of_methodNamed B.named
  have hlocks := B.notSynchronized
  have hK := hE.1
  have hin11 : ∀ w ∈ wsX110, w ∈ wsX11_feed := fun _ h9 => List.mem_cons_of_mem _ (List.mem_append_right _ h9)
  have hw_0 := hts (.fieldLink RX11 145 "PathProberModel" "taped" "I") (List.mem_of_getElem? (i := 2) (by decide +kernel))
  have hw_1 := hts (.fieldLink RX11 66 "PathProberModel" "tape" "[I") (List.mem_of_getElem? (i := 3) (by decide +kernel))
  have hw_2 := hts (.fieldLink RX11 142 "PathProberModel" "code" "I") (List.mem_of_getElem? (i := 1) (by decide +kernel))
  subst hsz
  have hD := hD0.self (sz := s.heap.size)
  generalize hAe : va_A [(m0, .inr (11, oX11 ra x0)), (ra 13, .inl (kI, 700, .inl q_tape))] s.heap.size = A at hD ⊢
  have hA : ∀ q : Nat, s.heap.size ≤ q → A q := fun q h => by rw [← hAe]; exact Or.inr h
  have hS : va_S A s.heap s.heap [] := va_S.rf
  have hP : va_P (dC, dI) vwCl [(m0, .inr (11, oX11 ra x0)), (ra 13, .inl (kI, 700, .inl q_tape))] s.heap := hP
  have hl := lv_entry ([.ref m0, .int p0, .int p1, .int p2, .int p3, .int p4]) (n := 8) (Nat.le_of_ble_eq_true rfl)
  have hla : entryFrame m args0 8 = entryFrame m ([.ref m0, .int p0, .int p1, .int p2, .int p3, .int p4] : List Value).toArray 8 := by rw [hargs]
  rw [hla, lg_entry_eq]
  generalize (lg_sl ([.ref m0, .int p0, .int p1, .int p2, .int p3, .int p4]) ++ List.replicate (8 - (lg_sl ([.ref m0, .int p0, .int p1, .int p2, .int p3, .int p4])).length) Slot.unset).toArray = ls at hl ⊢
  have hl : lv_has ls 8 [(0, .ref m0), (1, .int p0), (2, .int p1), (3, .int p2), (4, .int p3), (5, .int p4)] := hl
  have hJ23 : ∀ (n : Nat) (y23_0 : Nat → Int32) (g23_1 : Nat → Int32) (v23_loc6 : Int32) (H : Heap) (locs : List Loc) (ls : Array Slot), (20 - v23_loc6.toInt).toNat < n → fI lX11 hX11 y23_0 → fI (fun _ => 0) (fun _ => 255) g23_1 → iv 0 20 v23_loc6 → iv 0 0 (y23_0 0) → iv 20 700 ((x0 1) + 20) → ((y23_0 1).toInt = (x0 1).toInt + v23_loc6.toInt) → ((x0 1).toInt + 20 ≤ 700) → va_P (dC, dI) vwCl [(m0, .inr (11, oX11 ra y23_0)), (ra 13, .inl (kI, 700, .inl g23_1))] H → va_D A [(m0, .inr (11, oX11 ra y23_0)), (ra 13, .inl (kI, 700, .inl g23_1))] → va_S A s.heap H locs → lv_has ls 8 [(0, .ref m0), (1, .int p0), (2, .int p1), (3, .int p2), (4, .int p3), (5, .int p4), (6, .int v23_loc6)] → W p l e (headSpec wsX11_feed rm_s11_feed_room).room s m args0 below meth c H locs (0) (0) (MQ below (va_Qi (fun (r : Int32) (_ : Unit) => iv 0 700 r ∧ (r.toInt = (x0 1).toInt + 20)) (fun _ t => ∃ (x0' : Nat → Int32) (q_tape' : Nat → Int32), fI lX11 hX11 x0' ∧ fI (fun _ => 0) (fun _ => 255) q_tape' ∧ ((x0' 1).toInt = (x0 1).toInt + 20) ∧ va_P (dC, dI) vwCl [(m0, .inr (11, oX11 ra x0')), (ra 13, .inl (kI, 700, .inl q_tape'))] t.heap ∧ va_D A [(m0, .inr (11, oX11 ra x0')), (ra 13, .inl (kI, 700, .inl q_tape'))]) A) args0 s 0 0 A) (F0 m 23 ls []) := by
    intro n
    induction n with
    | zero => intro y23_0 g23_1 v23_loc6 H locs ls hm23; exact absurd hm23 (Nat.not_lt_zero _)
    | succ n ih23 =>
      intro y23_0 g23_1 v23_loc6 H locs ls hm23 hI23_0 hI23_1 h23_3 h23_4 h23_5 hfd_23 hro_23 hP hD hS hl
      refine lv_iload hx hb dX11_feed_23 (lv_at hl 6 rfl) ?_
      refine lv_bipush (v := 20) hx hb dX11_feed_25 (by decide) ?_
      refine lv_icmp_ge (tgt := 120) hx hb dX11_feed_27 (by decide) (fun c1 => ?_) (fun c1 => ?_)
      · have b2 : iv 20 20 v23_loc6 := iv_leR c1 (iv_k (by decide) (by decide) : iv 20 20 20) h23_3 (by decide) (by decide)
        refine lv_aload_n hx hb dX11_feed_120 rfl (lv_at hl 0 rfl) ?_
        refine va_get (D := (dC, dI)) (ci := 11) (v := .int (y23_0 1)) (C := RX11) (T := TX11) (N := 61) hx hb hts hin11 hown hK hP 0 rfl rfl 15 (by decide) hw_0 (fun _ h9 => h9) rfl dX11_feed_121 ?_
        have hP9 := hP.sub (ws' := [(m0, .inr (11, oX11 ra y23_0)), (ra 13, .inl (kI, 700, .inl g23_1))]) [0, 1] rfl
        have hD9 := hD.sub (ws' := [(m0, .inr (11, oX11 ra y23_0)), (ra 13, .inl (kI, 700, .inl g23_1))]) [0, 1] (by decide) rfl
        exact W.iret (v := y23_0 1) hx hb hr (fun t ht hW => ⟨⟨y23_0 1, (), rfl, ⟨(hI23_0 1 : iv 0 700 (y23_0 1)), by have q5 := hfd_23; have q6 := b2; have q7 := q6.1; have q8 := q6.2; omega⟩, y23_0, g23_1, hI23_0, hI23_1, (show (y23_0 1).toInt = (x0 1).toInt + 20 from by have q5 := hfd_23; have q6 := b2; have q7 := q6.1; have q8 := q6.2; omega), by rw [ht]; exact hP9, hD9⟩, hS.F ht⟩) hS.2.2 dX11_feed_124
      · have b3 : iv 0 19 v23_loc6 := iv_ltL (Int32.not_le.mp c1) h23_3 (iv_k (by decide) (by decide) : iv 20 20 20) (by decide) (by decide)
        refine lv_iload hx hb dX11_feed_30 (lv_at hl 6 rfl) ?_
        refine lv_iconst (v := 4) hx hb dX11_feed_32 (by decide) ?_
        refine lv_icmp_ge (tgt := 40) hx hb dX11_feed_33 (by decide) (fun c4 => ?_) (fun c4 => ?_)
        · have b5 : iv 4 19 v23_loc6 := iv_leR c4 (iv_k (by decide) (by decide) : iv 4 4 4) b3 (by decide) (by decide)
          refine lv_iload hx hb dX11_feed_40 (lv_at hl 6 rfl) ?_
          refine lv_bipush (v := 8) hx hb dX11_feed_42 (by decide) ?_
          refine lv_icmp_ge (tgt := 51) hx hb dX11_feed_44 (by decide) (fun c6 => ?_) (fun c6 => ?_)
          · have b7 : iv 8 19 v23_loc6 := iv_leR c6 (iv_k (by decide) (by decide) : iv 8 8 8) b5 (by decide) (by decide)
            refine lv_iload hx hb dX11_feed_51 (lv_at hl 6 rfl) ?_
            refine lv_bipush (v := 12) hx hb dX11_feed_53 (by decide) ?_
            refine lv_icmp_ge (tgt := 62) hx hb dX11_feed_55 (by decide) (fun c8 => ?_) (fun c8 => ?_)
            · have b9 : iv 12 19 v23_loc6 := iv_leR c8 (iv_k (by decide) (by decide) : iv 12 12 12) b7 (by decide) (by decide)
              refine lv_iload hx hb dX11_feed_62 (lv_at hl 6 rfl) ?_
              refine lv_bipush (v := 16) hx hb dX11_feed_64 (by decide) ?_
              refine lv_icmp_ge (tgt := 74) hx hb dX11_feed_66 (by decide) (fun c10 => ?_) (fun c10 => ?_)
              · have b11 : iv 16 19 v23_loc6 := iv_leR c10 (iv_k (by decide) (by decide) : iv 16 16 16) b9 (by decide) (by decide)
                refine lv_iload hx hb dX11_feed_74 (lv_at hl 5 rfl) ?_
                refine lv_istore (lv' := [(7, .int p4), (0, .ref m0), (1, .int p0), (2, .int p1), (3, .int p2), (4, .int p3), (5, .int p4), (6, .int v23_loc6)]) hx hb dX11_feed_76 hl (by decide) rfl (fun ls hl => ?_)
                have b12 : iv 0 699 (y23_0 1) := feed_699 hfd_23 hro_23 (hI23_0 1 : iv 0 700 (y23_0 1)) (iv_w b11 (by decide) (by decide))
                refine lv_aload_n hx hb dX11_feed_78 rfl (lv_at hl 1 rfl) ?_
                refine va_get (D := (dC, dI)) (ci := 11) (v := .ref (ra 13)) (C := RX11) (T := TX11) (N := 61) hx hb hts hin11 hown hK hP 0 rfl rfl 14 (by decide) hw_1 (fun _ h9 => h9) rfl dX11_feed_79 ?_
                refine lv_aload_n hx hb dX11_feed_82 rfl (lv_at hl 1 rfl) ?_
                refine va_get (D := (dC, dI)) (ci := 11) (v := .int (y23_0 1)) (C := RX11) (T := TX11) (N := 61) hx hb hts hin11 hown hK hP 0 rfl rfl 15 (by decide) hw_0 (fun _ h9 => h9) rfl dX11_feed_83 ?_
                refine lv_iload hx hb dX11_feed_86 (lv_at hl 0 rfl) ?_
                refine lv_bipush (v := 24) hx hb dX11_feed_88 (by decide) ?_
                refine lv_bipush (v := 8) hx hb dX11_feed_90 (by decide) ?_
                refine lv_iload hx hb dX11_feed_92 (lv_at hl 7 rfl) ?_
                refine lv_iconst (v := 4) hx hb dX11_feed_94 (by decide) ?_
                refine lv_irem hx hb dX11_feed_95 (by decide) ?_
                refine iv_top (a := 0) (b := 3) (iv_rem b11 (iv_k (by decide) (by decide) : iv 4 4 4) (by decide) (by decide) (by decide) (by decide)) (fun z13 b14 => ?_)
                refine lv_imul hx hb dX11_feed_96 ?_
                refine iv_top (a := 0) (b := 24) (iv_mul (iv_k (by decide) (by decide) : iv 8 8 8) b14 (by decide) (by decide) (by decide) (by decide) (by decide)) (fun z15 b16 => ?_)
                refine lv_isub hx hb dX11_feed_97 ?_
                refine iv_top (a := 0) (b := 24) (iv_sub (iv_k (by decide) (by decide) : iv 24 24 24) b16 (by decide) (by decide) (by decide) (by decide)) (fun z17 b18 => ?_)
                refine lv_ishr hx hb dX11_feed_98 ?_
                refine lv_topi (fun z19 _ => ?_)
                refine lv_sipush (v := 255) hx hb dX11_feed_99 (by decide) ?_
                refine lv_iand hx hb dX11_feed_102 ?_
                refine iv_top (a := 0) (b := 255) (iv_and (m := 255) (by decide) (by decide) (by decide)) (fun z20 b21 => ?_)
                refine va_iast hx hb hK hP hD hS 1 1 rfl rfl (iv_in b12 (by decide) (by decide)) dX11_feed_103 (fun H locs hP hD hS => ?_)
                have hP : va_P (dC, dI) vwCl [(m0, .inr (11, oX11 ra y23_0)), (ra 13, .inl (kI, 700, .inl (upd g23_1 (y23_0 1).toNatClampNeg z20)))] H := hP
                have hD : va_D A [(m0, .inr (11, oX11 ra y23_0)), (ra 13, .inl (kI, 700, .inl (upd g23_1 (y23_0 1).toNatClampNeg z20)))] := hD
                have hf23 : fI (fun _ => 0) (fun _ => 255) (upd g23_1 (y23_0 1).toNatClampNeg z20) := fI_u hI23_1 (k := (y23_0 1).toNatClampNeg) (b21)
                generalize (upd g23_1 (y23_0 1).toNatClampNeg z20) = f22 at hP hD hf23
                refine lv_aload_n hx hb dX11_feed_104 rfl (lv_at hl 1 rfl) ?_
                refine lv_dup hx hb dX11_feed_105 rfl ?_
                refine va_get (D := (dC, dI)) (ci := 11) (v := .int (y23_0 1)) (C := RX11) (T := TX11) (N := 61) hx hb hts hin11 hown hK hP 0 rfl rfl 15 (by decide) hw_0 (fun _ h9 => h9) rfl dX11_feed_106 ?_
                refine lv_iconst (v := 1) hx hb dX11_feed_109 (by decide) ?_
                refine lv_iadd hx hb dX11_feed_110 ?_
                have b24 : iv 1 700 ((y23_0 1) + 1) := iv_add b12 (iv_k (by decide) (by decide) : iv 1 1 1) (by decide) (by decide) (by decide) (by decide)
                have t25 : ((y23_0 1) + 1).toInt = (y23_0 1).toInt + 1 := iv_addc b12 (by decide) (by decide) (by decide)
                refine va_put (D := (dC, dI)) (ci := 11) (v := .int ((y23_0 1) + 1)) (ty := .int) (C := RX11) (T := TX11) (N := 61) hx hb hts hin11 tyX11 tyX11_ok nmX11 hown hK hP hD hS 0 rfl rfl 15 (by decide) hw_0 (fun _ h9 => h9) rfl (by decide +kernel) rfl rfl (Nat.le_of_ble_eq_true rfl) dX11_feed_111 (fun H locs hP hD hS => ?_)
                have hP : va_P (dC, dI) vwCl [(m0, .inr (11, oX11 ra (upd y23_0 1 ((y23_0 1) + 1)))), (ra 13, .inl (kI, 700, .inl f22))] H := hP
                have hD : va_D A [(m0, .inr (11, oX11 ra (upd y23_0 1 ((y23_0 1) + 1)))), (ra 13, .inl (kI, 700, .inl f22))] := hD
                refine lv_iinc (v := v23_loc6 + Int32.ofInt 1) (lv' := [(6, .int (v23_loc6 + Int32.ofInt 1)), (7, .int p4), (0, .ref m0), (1, .int p0), (2, .int p1), (3, .int p2), (4, .int p3), (5, .int p4)]) hx hb dX11_feed_114 hl (k := 7) rfl (rfl) (by decide) rfl (fun ls hl => ?_)
                have b26 : iv 17 20 (v23_loc6 + Int32.ofInt 1) := iv_add b11 (iv_k (by decide) (by decide) : iv 1 1 (Int32.ofInt 1)) (by decide) (by decide) (by decide) (by decide)
                have t27 : (v23_loc6 + Int32.ofInt 1).toInt = v23_loc6.toInt + 1 := iv_inc 1 b11 (by decide) (by decide) (by decide) (by decide)
                refine lv_goto (tgt := 23) hx hb dX11_feed_117 (by decide) ?_
                exact ih23 (upd y23_0 1 ((y23_0 1) + 1)) f22 (v23_loc6 + Int32.ofInt 1) _ _ _ (ms_up (c := 1) (d := 0) b11 hm23 (by decide) (iv_inc 1 b11 (by decide) (by decide) (by decide) (by decide)) (by decide) rfl) ((fI_u hI23_0 (k := 1) ((iv_w b24 (by decide) (by decide))))) (hf23) ((iv_w b26 (by decide) (by decide))) (h23_4) (h23_5) ((show ((y23_0 1) + 1).toInt = (x0 1).toInt + (v23_loc6 + Int32.ofInt 1).toInt from by have q5 := hfd_23; omega)) ((show (x0 1).toInt + 20 ≤ 700 from hro_23)) (hP.sub [0, 1] rfl) (hD.sub [0, 1] (by decide) rfl) hS (lv_sub hl [2, 3, 4, 5, 6, 7, 0] rfl)
              · have b28 : iv 12 15 v23_loc6 := iv_ltL (Int32.not_le.mp c10) b9 (iv_k (by decide) (by decide) : iv 16 16 16) (by decide) (by decide)
                refine lv_iload hx hb dX11_feed_69 (lv_at hl 4 rfl) ?_
                refine lv_goto (tgt := 76) hx hb dX11_feed_71 (by decide) ?_
                refine lv_istore (lv' := [(7, .int p3), (0, .ref m0), (1, .int p0), (2, .int p1), (3, .int p2), (4, .int p3), (5, .int p4), (6, .int v23_loc6)]) hx hb dX11_feed_76 hl (by decide) rfl (fun ls hl => ?_)
                have b29 : iv 0 699 (y23_0 1) := feed_699 hfd_23 hro_23 (hI23_0 1 : iv 0 700 (y23_0 1)) (iv_w b28 (by decide) (by decide))
                refine lv_aload_n hx hb dX11_feed_78 rfl (lv_at hl 1 rfl) ?_
                refine va_get (D := (dC, dI)) (ci := 11) (v := .ref (ra 13)) (C := RX11) (T := TX11) (N := 61) hx hb hts hin11 hown hK hP 0 rfl rfl 14 (by decide) hw_1 (fun _ h9 => h9) rfl dX11_feed_79 ?_
                refine lv_aload_n hx hb dX11_feed_82 rfl (lv_at hl 1 rfl) ?_
                refine va_get (D := (dC, dI)) (ci := 11) (v := .int (y23_0 1)) (C := RX11) (T := TX11) (N := 61) hx hb hts hin11 hown hK hP 0 rfl rfl 15 (by decide) hw_0 (fun _ h9 => h9) rfl dX11_feed_83 ?_
                refine lv_iload hx hb dX11_feed_86 (lv_at hl 0 rfl) ?_
                refine lv_bipush (v := 24) hx hb dX11_feed_88 (by decide) ?_
                refine lv_bipush (v := 8) hx hb dX11_feed_90 (by decide) ?_
                refine lv_iload hx hb dX11_feed_92 (lv_at hl 7 rfl) ?_
                refine lv_iconst (v := 4) hx hb dX11_feed_94 (by decide) ?_
                refine lv_irem hx hb dX11_feed_95 (by decide) ?_
                refine iv_top (a := 0) (b := 3) (iv_rem b28 (iv_k (by decide) (by decide) : iv 4 4 4) (by decide) (by decide) (by decide) (by decide)) (fun z30 b31 => ?_)
                refine lv_imul hx hb dX11_feed_96 ?_
                refine iv_top (a := 0) (b := 24) (iv_mul (iv_k (by decide) (by decide) : iv 8 8 8) b31 (by decide) (by decide) (by decide) (by decide) (by decide)) (fun z32 b33 => ?_)
                refine lv_isub hx hb dX11_feed_97 ?_
                refine iv_top (a := 0) (b := 24) (iv_sub (iv_k (by decide) (by decide) : iv 24 24 24) b33 (by decide) (by decide) (by decide) (by decide)) (fun z34 b35 => ?_)
                refine lv_ishr hx hb dX11_feed_98 ?_
                refine lv_topi (fun z36 _ => ?_)
                refine lv_sipush (v := 255) hx hb dX11_feed_99 (by decide) ?_
                refine lv_iand hx hb dX11_feed_102 ?_
                refine iv_top (a := 0) (b := 255) (iv_and (m := 255) (by decide) (by decide) (by decide)) (fun z37 b38 => ?_)
                refine va_iast hx hb hK hP hD hS 1 1 rfl rfl (iv_in b29 (by decide) (by decide)) dX11_feed_103 (fun H locs hP hD hS => ?_)
                have hP : va_P (dC, dI) vwCl [(m0, .inr (11, oX11 ra y23_0)), (ra 13, .inl (kI, 700, .inl (upd g23_1 (y23_0 1).toNatClampNeg z37)))] H := hP
                have hD : va_D A [(m0, .inr (11, oX11 ra y23_0)), (ra 13, .inl (kI, 700, .inl (upd g23_1 (y23_0 1).toNatClampNeg z37)))] := hD
                have hf40 : fI (fun _ => 0) (fun _ => 255) (upd g23_1 (y23_0 1).toNatClampNeg z37) := fI_u hI23_1 (k := (y23_0 1).toNatClampNeg) (b38)
                generalize (upd g23_1 (y23_0 1).toNatClampNeg z37) = f39 at hP hD hf40
                refine lv_aload_n hx hb dX11_feed_104 rfl (lv_at hl 1 rfl) ?_
                refine lv_dup hx hb dX11_feed_105 rfl ?_
                refine va_get (D := (dC, dI)) (ci := 11) (v := .int (y23_0 1)) (C := RX11) (T := TX11) (N := 61) hx hb hts hin11 hown hK hP 0 rfl rfl 15 (by decide) hw_0 (fun _ h9 => h9) rfl dX11_feed_106 ?_
                refine lv_iconst (v := 1) hx hb dX11_feed_109 (by decide) ?_
                refine lv_iadd hx hb dX11_feed_110 ?_
                have b41 : iv 1 700 ((y23_0 1) + 1) := iv_add b29 (iv_k (by decide) (by decide) : iv 1 1 1) (by decide) (by decide) (by decide) (by decide)
                have t42 : ((y23_0 1) + 1).toInt = (y23_0 1).toInt + 1 := iv_addc b29 (by decide) (by decide) (by decide)
                refine va_put (D := (dC, dI)) (ci := 11) (v := .int ((y23_0 1) + 1)) (ty := .int) (C := RX11) (T := TX11) (N := 61) hx hb hts hin11 tyX11 tyX11_ok nmX11 hown hK hP hD hS 0 rfl rfl 15 (by decide) hw_0 (fun _ h9 => h9) rfl (by decide +kernel) rfl rfl (Nat.le_of_ble_eq_true rfl) dX11_feed_111 (fun H locs hP hD hS => ?_)
                have hP : va_P (dC, dI) vwCl [(m0, .inr (11, oX11 ra (upd y23_0 1 ((y23_0 1) + 1)))), (ra 13, .inl (kI, 700, .inl f39))] H := hP
                have hD : va_D A [(m0, .inr (11, oX11 ra (upd y23_0 1 ((y23_0 1) + 1)))), (ra 13, .inl (kI, 700, .inl f39))] := hD
                refine lv_iinc (v := v23_loc6 + Int32.ofInt 1) (lv' := [(6, .int (v23_loc6 + Int32.ofInt 1)), (7, .int p3), (0, .ref m0), (1, .int p0), (2, .int p1), (3, .int p2), (4, .int p3), (5, .int p4)]) hx hb dX11_feed_114 hl (k := 7) rfl (rfl) (by decide) rfl (fun ls hl => ?_)
                have b43 : iv 13 16 (v23_loc6 + Int32.ofInt 1) := iv_add b28 (iv_k (by decide) (by decide) : iv 1 1 (Int32.ofInt 1)) (by decide) (by decide) (by decide) (by decide)
                have t44 : (v23_loc6 + Int32.ofInt 1).toInt = v23_loc6.toInt + 1 := iv_inc 1 b28 (by decide) (by decide) (by decide) (by decide)
                refine lv_goto (tgt := 23) hx hb dX11_feed_117 (by decide) ?_
                exact ih23 (upd y23_0 1 ((y23_0 1) + 1)) f39 (v23_loc6 + Int32.ofInt 1) _ _ _ (ms_up (c := 1) (d := 0) b28 hm23 (by decide) (iv_inc 1 b28 (by decide) (by decide) (by decide) (by decide)) (by decide) rfl) ((fI_u hI23_0 (k := 1) ((iv_w b41 (by decide) (by decide))))) (hf40) ((iv_w b43 (by decide) (by decide))) (h23_4) (h23_5) ((show ((y23_0 1) + 1).toInt = (x0 1).toInt + (v23_loc6 + Int32.ofInt 1).toInt from by have q5 := hfd_23; omega)) ((show (x0 1).toInt + 20 ≤ 700 from hro_23)) (hP.sub [0, 1] rfl) (hD.sub [0, 1] (by decide) rfl) hS (lv_sub hl [2, 3, 4, 5, 6, 7, 0] rfl)
            · have b45 : iv 8 11 v23_loc6 := iv_ltL (Int32.not_le.mp c8) b7 (iv_k (by decide) (by decide) : iv 12 12 12) (by decide) (by decide)
              refine lv_iload_n hx hb dX11_feed_58 rfl (lv_at hl 3 rfl) ?_
              refine lv_goto (tgt := 76) hx hb dX11_feed_59 (by decide) ?_
              refine lv_istore (lv' := [(7, .int p2), (0, .ref m0), (1, .int p0), (2, .int p1), (3, .int p2), (4, .int p3), (5, .int p4), (6, .int v23_loc6)]) hx hb dX11_feed_76 hl (by decide) rfl (fun ls hl => ?_)
              have b46 : iv 0 699 (y23_0 1) := feed_699 hfd_23 hro_23 (hI23_0 1 : iv 0 700 (y23_0 1)) (iv_w b45 (by decide) (by decide))
              refine lv_aload_n hx hb dX11_feed_78 rfl (lv_at hl 1 rfl) ?_
              refine va_get (D := (dC, dI)) (ci := 11) (v := .ref (ra 13)) (C := RX11) (T := TX11) (N := 61) hx hb hts hin11 hown hK hP 0 rfl rfl 14 (by decide) hw_1 (fun _ h9 => h9) rfl dX11_feed_79 ?_
              refine lv_aload_n hx hb dX11_feed_82 rfl (lv_at hl 1 rfl) ?_
              refine va_get (D := (dC, dI)) (ci := 11) (v := .int (y23_0 1)) (C := RX11) (T := TX11) (N := 61) hx hb hts hin11 hown hK hP 0 rfl rfl 15 (by decide) hw_0 (fun _ h9 => h9) rfl dX11_feed_83 ?_
              refine lv_iload hx hb dX11_feed_86 (lv_at hl 0 rfl) ?_
              refine lv_bipush (v := 24) hx hb dX11_feed_88 (by decide) ?_
              refine lv_bipush (v := 8) hx hb dX11_feed_90 (by decide) ?_
              refine lv_iload hx hb dX11_feed_92 (lv_at hl 7 rfl) ?_
              refine lv_iconst (v := 4) hx hb dX11_feed_94 (by decide) ?_
              refine lv_irem hx hb dX11_feed_95 (by decide) ?_
              refine iv_top (a := 0) (b := 3) (iv_rem b45 (iv_k (by decide) (by decide) : iv 4 4 4) (by decide) (by decide) (by decide) (by decide)) (fun z47 b48 => ?_)
              refine lv_imul hx hb dX11_feed_96 ?_
              refine iv_top (a := 0) (b := 24) (iv_mul (iv_k (by decide) (by decide) : iv 8 8 8) b48 (by decide) (by decide) (by decide) (by decide) (by decide)) (fun z49 b50 => ?_)
              refine lv_isub hx hb dX11_feed_97 ?_
              refine iv_top (a := 0) (b := 24) (iv_sub (iv_k (by decide) (by decide) : iv 24 24 24) b50 (by decide) (by decide) (by decide) (by decide)) (fun z51 b52 => ?_)
              refine lv_ishr hx hb dX11_feed_98 ?_
              refine lv_topi (fun z53 _ => ?_)
              refine lv_sipush (v := 255) hx hb dX11_feed_99 (by decide) ?_
              refine lv_iand hx hb dX11_feed_102 ?_
              refine iv_top (a := 0) (b := 255) (iv_and (m := 255) (by decide) (by decide) (by decide)) (fun z54 b55 => ?_)
              refine va_iast hx hb hK hP hD hS 1 1 rfl rfl (iv_in b46 (by decide) (by decide)) dX11_feed_103 (fun H locs hP hD hS => ?_)
              have hP : va_P (dC, dI) vwCl [(m0, .inr (11, oX11 ra y23_0)), (ra 13, .inl (kI, 700, .inl (upd g23_1 (y23_0 1).toNatClampNeg z54)))] H := hP
              have hD : va_D A [(m0, .inr (11, oX11 ra y23_0)), (ra 13, .inl (kI, 700, .inl (upd g23_1 (y23_0 1).toNatClampNeg z54)))] := hD
              have hf57 : fI (fun _ => 0) (fun _ => 255) (upd g23_1 (y23_0 1).toNatClampNeg z54) := fI_u hI23_1 (k := (y23_0 1).toNatClampNeg) (b55)
              generalize (upd g23_1 (y23_0 1).toNatClampNeg z54) = f56 at hP hD hf57
              refine lv_aload_n hx hb dX11_feed_104 rfl (lv_at hl 1 rfl) ?_
              refine lv_dup hx hb dX11_feed_105 rfl ?_
              refine va_get (D := (dC, dI)) (ci := 11) (v := .int (y23_0 1)) (C := RX11) (T := TX11) (N := 61) hx hb hts hin11 hown hK hP 0 rfl rfl 15 (by decide) hw_0 (fun _ h9 => h9) rfl dX11_feed_106 ?_
              refine lv_iconst (v := 1) hx hb dX11_feed_109 (by decide) ?_
              refine lv_iadd hx hb dX11_feed_110 ?_
              have b58 : iv 1 700 ((y23_0 1) + 1) := iv_add b46 (iv_k (by decide) (by decide) : iv 1 1 1) (by decide) (by decide) (by decide) (by decide)
              have t59 : ((y23_0 1) + 1).toInt = (y23_0 1).toInt + 1 := iv_addc b46 (by decide) (by decide) (by decide)
              refine va_put (D := (dC, dI)) (ci := 11) (v := .int ((y23_0 1) + 1)) (ty := .int) (C := RX11) (T := TX11) (N := 61) hx hb hts hin11 tyX11 tyX11_ok nmX11 hown hK hP hD hS 0 rfl rfl 15 (by decide) hw_0 (fun _ h9 => h9) rfl (by decide +kernel) rfl rfl (Nat.le_of_ble_eq_true rfl) dX11_feed_111 (fun H locs hP hD hS => ?_)
              have hP : va_P (dC, dI) vwCl [(m0, .inr (11, oX11 ra (upd y23_0 1 ((y23_0 1) + 1)))), (ra 13, .inl (kI, 700, .inl f56))] H := hP
              have hD : va_D A [(m0, .inr (11, oX11 ra (upd y23_0 1 ((y23_0 1) + 1)))), (ra 13, .inl (kI, 700, .inl f56))] := hD
              refine lv_iinc (v := v23_loc6 + Int32.ofInt 1) (lv' := [(6, .int (v23_loc6 + Int32.ofInt 1)), (7, .int p2), (0, .ref m0), (1, .int p0), (2, .int p1), (3, .int p2), (4, .int p3), (5, .int p4)]) hx hb dX11_feed_114 hl (k := 7) rfl (rfl) (by decide) rfl (fun ls hl => ?_)
              have b60 : iv 9 12 (v23_loc6 + Int32.ofInt 1) := iv_add b45 (iv_k (by decide) (by decide) : iv 1 1 (Int32.ofInt 1)) (by decide) (by decide) (by decide) (by decide)
              have t61 : (v23_loc6 + Int32.ofInt 1).toInt = v23_loc6.toInt + 1 := iv_inc 1 b45 (by decide) (by decide) (by decide) (by decide)
              refine lv_goto (tgt := 23) hx hb dX11_feed_117 (by decide) ?_
              exact ih23 (upd y23_0 1 ((y23_0 1) + 1)) f56 (v23_loc6 + Int32.ofInt 1) _ _ _ (ms_up (c := 1) (d := 0) b45 hm23 (by decide) (iv_inc 1 b45 (by decide) (by decide) (by decide) (by decide)) (by decide) rfl) ((fI_u hI23_0 (k := 1) ((iv_w b58 (by decide) (by decide))))) (hf57) ((iv_w b60 (by decide) (by decide))) (h23_4) (h23_5) ((show ((y23_0 1) + 1).toInt = (x0 1).toInt + (v23_loc6 + Int32.ofInt 1).toInt from by have q5 := hfd_23; omega)) ((show (x0 1).toInt + 20 ≤ 700 from hro_23)) (hP.sub [0, 1] rfl) (hD.sub [0, 1] (by decide) rfl) hS (lv_sub hl [2, 3, 4, 5, 6, 7, 0] rfl)
          · have b62 : iv 4 7 v23_loc6 := iv_ltL (Int32.not_le.mp c6) b5 (iv_k (by decide) (by decide) : iv 8 8 8) (by decide) (by decide)
            refine lv_iload_n hx hb dX11_feed_47 rfl (lv_at hl 2 rfl) ?_
            refine lv_goto (tgt := 76) hx hb dX11_feed_48 (by decide) ?_
            refine lv_istore (lv' := [(7, .int p1), (0, .ref m0), (1, .int p0), (2, .int p1), (3, .int p2), (4, .int p3), (5, .int p4), (6, .int v23_loc6)]) hx hb dX11_feed_76 hl (by decide) rfl (fun ls hl => ?_)
            have b63 : iv 0 699 (y23_0 1) := feed_699 hfd_23 hro_23 (hI23_0 1 : iv 0 700 (y23_0 1)) (iv_w b62 (by decide) (by decide))
            refine lv_aload_n hx hb dX11_feed_78 rfl (lv_at hl 1 rfl) ?_
            refine va_get (D := (dC, dI)) (ci := 11) (v := .ref (ra 13)) (C := RX11) (T := TX11) (N := 61) hx hb hts hin11 hown hK hP 0 rfl rfl 14 (by decide) hw_1 (fun _ h9 => h9) rfl dX11_feed_79 ?_
            refine lv_aload_n hx hb dX11_feed_82 rfl (lv_at hl 1 rfl) ?_
            refine va_get (D := (dC, dI)) (ci := 11) (v := .int (y23_0 1)) (C := RX11) (T := TX11) (N := 61) hx hb hts hin11 hown hK hP 0 rfl rfl 15 (by decide) hw_0 (fun _ h9 => h9) rfl dX11_feed_83 ?_
            refine lv_iload hx hb dX11_feed_86 (lv_at hl 0 rfl) ?_
            refine lv_bipush (v := 24) hx hb dX11_feed_88 (by decide) ?_
            refine lv_bipush (v := 8) hx hb dX11_feed_90 (by decide) ?_
            refine lv_iload hx hb dX11_feed_92 (lv_at hl 7 rfl) ?_
            refine lv_iconst (v := 4) hx hb dX11_feed_94 (by decide) ?_
            refine lv_irem hx hb dX11_feed_95 (by decide) ?_
            refine iv_top (a := 0) (b := 3) (iv_rem b62 (iv_k (by decide) (by decide) : iv 4 4 4) (by decide) (by decide) (by decide) (by decide)) (fun z64 b65 => ?_)
            refine lv_imul hx hb dX11_feed_96 ?_
            refine iv_top (a := 0) (b := 24) (iv_mul (iv_k (by decide) (by decide) : iv 8 8 8) b65 (by decide) (by decide) (by decide) (by decide) (by decide)) (fun z66 b67 => ?_)
            refine lv_isub hx hb dX11_feed_97 ?_
            refine iv_top (a := 0) (b := 24) (iv_sub (iv_k (by decide) (by decide) : iv 24 24 24) b67 (by decide) (by decide) (by decide) (by decide)) (fun z68 b69 => ?_)
            refine lv_ishr hx hb dX11_feed_98 ?_
            refine lv_topi (fun z70 _ => ?_)
            refine lv_sipush (v := 255) hx hb dX11_feed_99 (by decide) ?_
            refine lv_iand hx hb dX11_feed_102 ?_
            refine iv_top (a := 0) (b := 255) (iv_and (m := 255) (by decide) (by decide) (by decide)) (fun z71 b72 => ?_)
            refine va_iast hx hb hK hP hD hS 1 1 rfl rfl (iv_in b63 (by decide) (by decide)) dX11_feed_103 (fun H locs hP hD hS => ?_)
            have hP : va_P (dC, dI) vwCl [(m0, .inr (11, oX11 ra y23_0)), (ra 13, .inl (kI, 700, .inl (upd g23_1 (y23_0 1).toNatClampNeg z71)))] H := hP
            have hD : va_D A [(m0, .inr (11, oX11 ra y23_0)), (ra 13, .inl (kI, 700, .inl (upd g23_1 (y23_0 1).toNatClampNeg z71)))] := hD
            have hf74 : fI (fun _ => 0) (fun _ => 255) (upd g23_1 (y23_0 1).toNatClampNeg z71) := fI_u hI23_1 (k := (y23_0 1).toNatClampNeg) (b72)
            generalize (upd g23_1 (y23_0 1).toNatClampNeg z71) = f73 at hP hD hf74
            refine lv_aload_n hx hb dX11_feed_104 rfl (lv_at hl 1 rfl) ?_
            refine lv_dup hx hb dX11_feed_105 rfl ?_
            refine va_get (D := (dC, dI)) (ci := 11) (v := .int (y23_0 1)) (C := RX11) (T := TX11) (N := 61) hx hb hts hin11 hown hK hP 0 rfl rfl 15 (by decide) hw_0 (fun _ h9 => h9) rfl dX11_feed_106 ?_
            refine lv_iconst (v := 1) hx hb dX11_feed_109 (by decide) ?_
            refine lv_iadd hx hb dX11_feed_110 ?_
            have b75 : iv 1 700 ((y23_0 1) + 1) := iv_add b63 (iv_k (by decide) (by decide) : iv 1 1 1) (by decide) (by decide) (by decide) (by decide)
            have t76 : ((y23_0 1) + 1).toInt = (y23_0 1).toInt + 1 := iv_addc b63 (by decide) (by decide) (by decide)
            refine va_put (D := (dC, dI)) (ci := 11) (v := .int ((y23_0 1) + 1)) (ty := .int) (C := RX11) (T := TX11) (N := 61) hx hb hts hin11 tyX11 tyX11_ok nmX11 hown hK hP hD hS 0 rfl rfl 15 (by decide) hw_0 (fun _ h9 => h9) rfl (by decide +kernel) rfl rfl (Nat.le_of_ble_eq_true rfl) dX11_feed_111 (fun H locs hP hD hS => ?_)
            have hP : va_P (dC, dI) vwCl [(m0, .inr (11, oX11 ra (upd y23_0 1 ((y23_0 1) + 1)))), (ra 13, .inl (kI, 700, .inl f73))] H := hP
            have hD : va_D A [(m0, .inr (11, oX11 ra (upd y23_0 1 ((y23_0 1) + 1)))), (ra 13, .inl (kI, 700, .inl f73))] := hD
            refine lv_iinc (v := v23_loc6 + Int32.ofInt 1) (lv' := [(6, .int (v23_loc6 + Int32.ofInt 1)), (7, .int p1), (0, .ref m0), (1, .int p0), (2, .int p1), (3, .int p2), (4, .int p3), (5, .int p4)]) hx hb dX11_feed_114 hl (k := 7) rfl (rfl) (by decide) rfl (fun ls hl => ?_)
            have b77 : iv 5 8 (v23_loc6 + Int32.ofInt 1) := iv_add b62 (iv_k (by decide) (by decide) : iv 1 1 (Int32.ofInt 1)) (by decide) (by decide) (by decide) (by decide)
            have t78 : (v23_loc6 + Int32.ofInt 1).toInt = v23_loc6.toInt + 1 := iv_inc 1 b62 (by decide) (by decide) (by decide) (by decide)
            refine lv_goto (tgt := 23) hx hb dX11_feed_117 (by decide) ?_
            exact ih23 (upd y23_0 1 ((y23_0 1) + 1)) f73 (v23_loc6 + Int32.ofInt 1) _ _ _ (ms_up (c := 1) (d := 0) b62 hm23 (by decide) (iv_inc 1 b62 (by decide) (by decide) (by decide) (by decide)) (by decide) rfl) ((fI_u hI23_0 (k := 1) ((iv_w b75 (by decide) (by decide))))) (hf74) ((iv_w b77 (by decide) (by decide))) (h23_4) (h23_5) ((show ((y23_0 1) + 1).toInt = (x0 1).toInt + (v23_loc6 + Int32.ofInt 1).toInt from by have q5 := hfd_23; omega)) ((show (x0 1).toInt + 20 ≤ 700 from hro_23)) (hP.sub [0, 1] rfl) (hD.sub [0, 1] (by decide) rfl) hS (lv_sub hl [2, 3, 4, 5, 6, 7, 0] rfl)
        · have b79 : iv 0 3 v23_loc6 := iv_ltL (Int32.not_le.mp c4) b3 (iv_k (by decide) (by decide) : iv 4 4 4) (by decide) (by decide)
          refine lv_iload_n hx hb dX11_feed_36 rfl (lv_at hl 1 rfl) ?_
          refine lv_goto (tgt := 76) hx hb dX11_feed_37 (by decide) ?_
          refine lv_istore (lv' := [(7, .int p0), (0, .ref m0), (1, .int p0), (2, .int p1), (3, .int p2), (4, .int p3), (5, .int p4), (6, .int v23_loc6)]) hx hb dX11_feed_76 hl (by decide) rfl (fun ls hl => ?_)
          have b80 : iv 0 699 (y23_0 1) := feed_699 hfd_23 hro_23 (hI23_0 1 : iv 0 700 (y23_0 1)) (iv_w b79 (by decide) (by decide))
          refine lv_aload_n hx hb dX11_feed_78 rfl (lv_at hl 1 rfl) ?_
          refine va_get (D := (dC, dI)) (ci := 11) (v := .ref (ra 13)) (C := RX11) (T := TX11) (N := 61) hx hb hts hin11 hown hK hP 0 rfl rfl 14 (by decide) hw_1 (fun _ h9 => h9) rfl dX11_feed_79 ?_
          refine lv_aload_n hx hb dX11_feed_82 rfl (lv_at hl 1 rfl) ?_
          refine va_get (D := (dC, dI)) (ci := 11) (v := .int (y23_0 1)) (C := RX11) (T := TX11) (N := 61) hx hb hts hin11 hown hK hP 0 rfl rfl 15 (by decide) hw_0 (fun _ h9 => h9) rfl dX11_feed_83 ?_
          refine lv_iload hx hb dX11_feed_86 (lv_at hl 0 rfl) ?_
          refine lv_bipush (v := 24) hx hb dX11_feed_88 (by decide) ?_
          refine lv_bipush (v := 8) hx hb dX11_feed_90 (by decide) ?_
          refine lv_iload hx hb dX11_feed_92 (lv_at hl 7 rfl) ?_
          refine lv_iconst (v := 4) hx hb dX11_feed_94 (by decide) ?_
          refine lv_irem hx hb dX11_feed_95 (by decide) ?_
          refine iv_top (a := 0) (b := 3) (iv_rem b79 (iv_k (by decide) (by decide) : iv 4 4 4) (by decide) (by decide) (by decide) (by decide)) (fun z81 b82 => ?_)
          refine lv_imul hx hb dX11_feed_96 ?_
          refine iv_top (a := 0) (b := 24) (iv_mul (iv_k (by decide) (by decide) : iv 8 8 8) b82 (by decide) (by decide) (by decide) (by decide) (by decide)) (fun z83 b84 => ?_)
          refine lv_isub hx hb dX11_feed_97 ?_
          refine iv_top (a := 0) (b := 24) (iv_sub (iv_k (by decide) (by decide) : iv 24 24 24) b84 (by decide) (by decide) (by decide) (by decide)) (fun z85 b86 => ?_)
          refine lv_ishr hx hb dX11_feed_98 ?_
          refine lv_topi (fun z87 _ => ?_)
          refine lv_sipush (v := 255) hx hb dX11_feed_99 (by decide) ?_
          refine lv_iand hx hb dX11_feed_102 ?_
          refine iv_top (a := 0) (b := 255) (iv_and (m := 255) (by decide) (by decide) (by decide)) (fun z88 b89 => ?_)
          refine va_iast hx hb hK hP hD hS 1 1 rfl rfl (iv_in b80 (by decide) (by decide)) dX11_feed_103 (fun H locs hP hD hS => ?_)
          have hP : va_P (dC, dI) vwCl [(m0, .inr (11, oX11 ra y23_0)), (ra 13, .inl (kI, 700, .inl (upd g23_1 (y23_0 1).toNatClampNeg z88)))] H := hP
          have hD : va_D A [(m0, .inr (11, oX11 ra y23_0)), (ra 13, .inl (kI, 700, .inl (upd g23_1 (y23_0 1).toNatClampNeg z88)))] := hD
          have hf91 : fI (fun _ => 0) (fun _ => 255) (upd g23_1 (y23_0 1).toNatClampNeg z88) := fI_u hI23_1 (k := (y23_0 1).toNatClampNeg) (b89)
          generalize (upd g23_1 (y23_0 1).toNatClampNeg z88) = f90 at hP hD hf91
          refine lv_aload_n hx hb dX11_feed_104 rfl (lv_at hl 1 rfl) ?_
          refine lv_dup hx hb dX11_feed_105 rfl ?_
          refine va_get (D := (dC, dI)) (ci := 11) (v := .int (y23_0 1)) (C := RX11) (T := TX11) (N := 61) hx hb hts hin11 hown hK hP 0 rfl rfl 15 (by decide) hw_0 (fun _ h9 => h9) rfl dX11_feed_106 ?_
          refine lv_iconst (v := 1) hx hb dX11_feed_109 (by decide) ?_
          refine lv_iadd hx hb dX11_feed_110 ?_
          have b92 : iv 1 700 ((y23_0 1) + 1) := iv_add b80 (iv_k (by decide) (by decide) : iv 1 1 1) (by decide) (by decide) (by decide) (by decide)
          have t93 : ((y23_0 1) + 1).toInt = (y23_0 1).toInt + 1 := iv_addc b80 (by decide) (by decide) (by decide)
          refine va_put (D := (dC, dI)) (ci := 11) (v := .int ((y23_0 1) + 1)) (ty := .int) (C := RX11) (T := TX11) (N := 61) hx hb hts hin11 tyX11 tyX11_ok nmX11 hown hK hP hD hS 0 rfl rfl 15 (by decide) hw_0 (fun _ h9 => h9) rfl (by decide +kernel) rfl rfl (Nat.le_of_ble_eq_true rfl) dX11_feed_111 (fun H locs hP hD hS => ?_)
          have hP : va_P (dC, dI) vwCl [(m0, .inr (11, oX11 ra (upd y23_0 1 ((y23_0 1) + 1)))), (ra 13, .inl (kI, 700, .inl f90))] H := hP
          have hD : va_D A [(m0, .inr (11, oX11 ra (upd y23_0 1 ((y23_0 1) + 1)))), (ra 13, .inl (kI, 700, .inl f90))] := hD
          refine lv_iinc (v := v23_loc6 + Int32.ofInt 1) (lv' := [(6, .int (v23_loc6 + Int32.ofInt 1)), (7, .int p0), (0, .ref m0), (1, .int p0), (2, .int p1), (3, .int p2), (4, .int p3), (5, .int p4)]) hx hb dX11_feed_114 hl (k := 7) rfl (rfl) (by decide) rfl (fun ls hl => ?_)
          have b94 : iv 1 4 (v23_loc6 + Int32.ofInt 1) := iv_add b79 (iv_k (by decide) (by decide) : iv 1 1 (Int32.ofInt 1)) (by decide) (by decide) (by decide) (by decide)
          have t95 : (v23_loc6 + Int32.ofInt 1).toInt = v23_loc6.toInt + 1 := iv_inc 1 b79 (by decide) (by decide) (by decide) (by decide)
          refine lv_goto (tgt := 23) hx hb dX11_feed_117 (by decide) ?_
          exact ih23 (upd y23_0 1 ((y23_0 1) + 1)) f90 (v23_loc6 + Int32.ofInt 1) _ _ _ (ms_up (c := 1) (d := 0) b79 hm23 (by decide) (iv_inc 1 b79 (by decide) (by decide) (by decide) (by decide)) (by decide) rfl) ((fI_u hI23_0 (k := 1) ((iv_w b92 (by decide) (by decide))))) (hf91) ((iv_w b94 (by decide) (by decide))) (h23_4) (h23_5) ((show ((y23_0 1) + 1).toInt = (x0 1).toInt + (v23_loc6 + Int32.ofInt 1).toInt from by have q5 := hfd_23; omega)) ((show (x0 1).toInt + 20 ≤ 700 from hro_23)) (hP.sub [0, 1] rfl) (hD.sub [0, 1] (by decide) rfl) hS (lv_sub hl [2, 3, 4, 5, 6, 7, 0] rfl)
  refine lv_aload_n hx hb dX11_feed_0 rfl (lv_at hl 0 rfl) ?_
  refine lv_iconst (v := 0) hx hb dX11_feed_1 (by decide) ?_
  refine va_put (D := (dC, dI)) (ci := 11) (v := .int 0) (ty := .int) (C := RX11) (T := TX11) (N := 61) hx hb hts hin11 tyX11 tyX11_ok nmX11 hown hK hP hD hS 0 rfl rfl 2 (by decide) hw_2 (fun _ h9 => h9) rfl (by decide +kernel) rfl rfl (Nat.le_of_ble_eq_true rfl) dX11_feed_2 (fun H locs hP hD hS => ?_)
  have hP : va_P (dC, dI) vwCl [(m0, .inr (11, oX11 ra (upd x0 0 0))), (ra 13, .inl (kI, 700, .inl q_tape))] H := hP
  have hD : va_D A [(m0, .inr (11, oX11 ra (upd x0 0 0))), (ra 13, .inl (kI, 700, .inl q_tape))] := hD
  refine lv_aload_n hx hb dX11_feed_5 rfl (lv_at hl 0 rfl) ?_
  refine va_get (D := (dC, dI)) (ci := 11) (v := .int (x0 1)) (C := RX11) (T := TX11) (N := 61) hx hb hts hin11 hown hK hP 0 rfl rfl 15 (by decide) hw_0 (fun _ h9 => h9) rfl dX11_feed_6 ?_
  refine lv_bipush (v := 20) hx hb dX11_feed_9 (by decide) ?_
  refine lv_iadd hx hb dX11_feed_11 ?_
  have b96 : iv 20 700 ((x0 1) + 20) := iv_add hflr (iv_k (by decide) (by decide) : iv 20 20 20) (by decide) (by decide) (by decide) (by decide)
  have t97 : ((x0 1) + 20).toInt = (x0 1).toInt + 20 := iv_addc hflr (by decide) (by decide) (by decide)
  refine lv_sipush (v := 700) hx hb dX11_feed_12 (by decide) ?_
  refine lv_icmp_le (tgt := 20) hx hb dX11_feed_15 (by decide) (fun _ => ?_) (fun c9 => absurd (iv_le b96 (iv_k (by decide) (by decide) : iv 700 700 700) (by decide)) c9)
  refine lv_iconst (v := 0) hx hb dX11_feed_20 (by decide) ?_
  refine lv_istore (lv' := [(6, .int 0), (0, .ref m0), (1, .int p0), (2, .int p1), (3, .int p2), (4, .int p3), (5, .int p4)]) hx hb dX11_feed_21 hl (by decide) rfl (fun ls hl => ?_)
  exact hJ23 _ (upd x0 0 0) q_tape 0 _ _ _ (Nat.lt_succ_self _) ((fI_u hX (k := 0) ((iv_w (iv_k (by decide) (by decide) : iv 0 0 0) (by decide) (by decide))))) (hq_tape) ((iv_w (iv_k (by decide) (by decide) : iv 0 0 0) (by decide) (by decide))) ((iv_k (by decide) (by decide) : iv 0 0 0)) (b96) ((show (x0 1).toInt = (x0 1).toInt + ((0 : Int32)).toInt from by rw [show ((0 : Int32)).toInt = 0 from by decide]; omega)) ((show (x0 1).toInt + 20 ≤ 700 from by have q := hflr; have q2 := q.2; omega)) (hP.sub [0, 1] rfl) (hD.sub [0, 1] (by decide) rfl) hS (lv_sub hl [1, 2, 3, 4, 5, 6, 0] rfl)
def rm_s11_feed_full : Room := { frames := 0, cells := 0, slots := 0, locals := 0 }
set_option maxHeartbeats 4000000 in
set_option maxRecDepth 100000 in
theorem s11_feed_full (l : Launch) (dC : Nat → ClassId) (dI : Nat → Nat → Nat) (kB kI kJ kZ kC kS : ClassId) (sz : Nat) (m0 : Nat) (ra : Nat → Nat) (x0 : Nat → Int32) (p0 : Int32) (p1 : Int32) (p2 : Int32) (p3 : Int32) (p4 : Int32) (hX : fI lX11 hX11 x0) (hflr : iv 681 700 (x0 1)) : Met l yX11_feed wsX11_feed rm_s11_feed_full (va_Pc [.ref m0, .int p0, .int p1, .int p2, .int p3, .int p4] (fun U => U.heap.size = sz ∧ va_P (dC, dI) vwCl [(m0, .inr (11, oX11 ra x0))] U.heap ∧ kE dC dI kB kI kJ kZ kC kS U ∧ va_D (fun _ => True) [(m0, .inr (11, oX11 ra x0))])) (va_Qi (fun (r : Int32) (_ : Unit) => iv (-1) (-1) r) (fun _ t => ∃ (x0' : Nat → Int32), fI lX11 hX11 x0' ∧ (x0' 1 = x0 1) ∧ va_P (dC, dI) vwCl [(m0, .inr (11, oX11 ra x0'))] t.heap ∧ va_D (va_A [(m0, .inr (11, oX11 ra x0))] sz) [(m0, .inr (11, oX11 ra x0'))]) (va_A [(m0, .inr (11, oX11 ra x0))] sz)) 0 0 (va_A [(m0, .inr (11, oX11 ra x0))] sz) := by
  refine Met.ofW (cc := cX11_feed) (maxL := 8) (ret := (some .int)) (by decide) rfl ?_
  intro p e s m args0 below meth c s₁ B hml hv
  obtain ⟨hargs, hsz, hP, hE, hD0⟩ := hv
  have hx := B.exec
  have hb := B.bytes
  have hr := B.returns
  have hts := atoms_spec (ws := wsX11_feed) B.pre
  have hown : s.vm.findClass RX11 = some m.cls := findClass_of_methodNamed B.named
  have hlocks := B.notSynchronized
  have hK := hE.1
  have hin11 : ∀ w ∈ wsX110, w ∈ wsX11_feed := fun _ h9 => List.mem_cons_of_mem _ (List.mem_append_right _ h9)
  have hw_0 := hts (.fieldLink RX11 142 "PathProberModel" "code" "I") (List.mem_of_getElem? (i := 1) (by decide +kernel))
  have hw_1 := hts (.fieldLink RX11 145 "PathProberModel" "taped" "I") (List.mem_of_getElem? (i := 2) (by decide +kernel))
  subst hsz
  have hD := hD0.self (sz := s.heap.size)
  generalize hAe : va_A [(m0, .inr (11, oX11 ra x0))] s.heap.size = A at hD ⊢
  have hA : ∀ q : Nat, s.heap.size ≤ q → A q := fun q h => by rw [← hAe]; exact Or.inr h
  have hS : va_S A s.heap s.heap [] := va_S.rf
  have hP : va_P (dC, dI) vwCl [(m0, .inr (11, oX11 ra x0))] s.heap := hP
  have hl := lv_entry ([.ref m0, .int p0, .int p1, .int p2, .int p3, .int p4]) (n := 8) (Nat.le_of_ble_eq_true rfl)
  have hla : entryFrame m args0 8 = entryFrame m ([.ref m0, .int p0, .int p1, .int p2, .int p3, .int p4] : List Value).toArray 8 := by rw [hargs]
  rw [hla, lg_entry_eq]
  generalize (lg_sl ([.ref m0, .int p0, .int p1, .int p2, .int p3, .int p4]) ++ List.replicate (8 - (lg_sl ([.ref m0, .int p0, .int p1, .int p2, .int p3, .int p4])).length) Slot.unset).toArray = ls at hl ⊢
  have hl : lv_has ls 8 [(0, .ref m0), (1, .int p0), (2, .int p1), (3, .int p2), (4, .int p3), (5, .int p4)] := hl
  refine lv_aload_n hx hb dX11_feed_0 rfl (lv_at hl 0 rfl) ?_
  refine lv_iconst (v := 0) hx hb dX11_feed_1 (by decide) ?_
  refine va_put (D := (dC, dI)) (ci := 11) (v := .int 0) (ty := .int) (C := RX11) (T := TX11) (N := 61) hx hb hts hin11 tyX11 tyX11_ok nmX11 hown hK hP hD hS 0 rfl rfl 2 (by decide) hw_0 (fun _ h9 => h9) rfl (by decide +kernel) rfl rfl (Nat.le_of_ble_eq_true rfl) dX11_feed_2 (fun H locs hP hD hS => ?_)
  have hP : va_P (dC, dI) vwCl [(m0, .inr (11, oX11 ra (upd x0 0 0)))] H := hP
  have hD : va_D A [(m0, .inr (11, oX11 ra (upd x0 0 0)))] := hD
  refine lv_aload_n hx hb dX11_feed_5 rfl (lv_at hl 0 rfl) ?_
  refine va_get (D := (dC, dI)) (ci := 11) (v := .int (x0 1)) (C := RX11) (T := TX11) (N := 61) hx hb hts hin11 hown hK hP 0 rfl rfl 15 (by decide) hw_1 (fun _ h9 => h9) rfl dX11_feed_6 ?_
  refine lv_bipush (v := 20) hx hb dX11_feed_9 (by decide) ?_
  refine lv_iadd hx hb dX11_feed_11 ?_
  refine iv_top (a := 701) (b := 720) (iv_add hflr (iv_k (by decide) (by decide) : iv 20 20 20) (by decide) (by decide) (by decide) (by decide)) (fun z1 b2 => ?_)
  refine lv_sipush (v := 700) hx hb dX11_feed_12 (by decide) ?_
  refine lv_icmp_le (tgt := 20) hx hb dX11_feed_15 (by decide) (fun c9 => absurd c9 (iv_nle b2 (iv_k (by decide) (by decide) : iv 700 700 700) (by decide))) (fun _ => ?_)
  refine lv_iconst (v := (-1)) hx hb dX11_feed_18 (by decide) ?_
  have hP9 := hP.sub (ws' := [(m0, .inr (11, oX11 ra (upd x0 0 0)))]) [0] rfl
  have hD9 := hD.sub (ws' := [(m0, .inr (11, oX11 ra (upd x0 0 0)))]) [0] (by decide) rfl
  exact W.iret (v := (-1)) hx hb hr (fun t ht hW => ⟨⟨(-1), (), rfl, (iv_k (by decide) (by decide) : iv (-1) (-1) (-1)), upd x0 0 0, (fI_u hX (k := 0) ((iv_w (iv_k (by decide) (by decide) : iv 0 0 0) (by decide) (by decide)))), (show x0 1 = x0 1 from rfl), by rw [ht]; exact hP9, hD9⟩, hS.F ht⟩) hS.2.2 dX11_feed_19
def rm_s10_net_lo : Room := { frames := 6, cells := 1, slots := 6, locals := 82 }
set_option maxHeartbeats 4000000 in
set_option maxRecDepth 100000 in
theorem s10_net_lo (l : Launch) (hst : l.stackTraces = false) (dC : Nat → ClassId) (dI : Nat → Nat → Nat) (kB kI kJ kZ kC kS : ClassId) (sz : Nat) (op : Nat) (p0 : Int32) (hp0 : iv (-2147483648) (-1) p0) : vx_Met l yX10_net wsX10_net rm_s10_net_lo (va_Pc [.ref op, .int p0] (fun U => U.heap.size = sz ∧ va_P (dC, dI) vwCl [] U.heap ∧ kE dC dI kB kI kJ kZ kC kS U ∧ va_D (fun _ => True) [] ∧ kX U ∧ kT (va_A [] sz) U)) (va_Qi (fun (r : Int32) (_ : Unit) => False) (fun _ t => va_P (dC, dI) vwCl [] t.heap ∧ va_D (va_A [] sz) []) (va_A [] sz)) (vx_X (fun (_ : Unit) => True) (fun (E : String) (_ : Unit) (t : State) => (E = "java/lang/IllegalArgumentException") ∧ va_P (dC, dI) vwCl [] t.heap ∧ va_D (va_A [] sz) []) (va_A [] sz)) 1 6 (va_A [] sz) := by
  refine vx_ofW (cc := cX10_net) (maxL := 3) (ret := (some .int)) (by decide) rfl ?_
  intro p e s m args0 below meth c s₁ B hml hexT hv
  obtain ⟨hargs, hsz, hP, hE, hD0, hXs, hT⟩ := hv
  have hx := B.exec
  have hb := B.bytes
  have hr := B.returns
  have hts := atoms_spec (ws := wsX10_net) B.pre
  have hown : s.vm.findClass RX10 = some m.cls := findClass_of_methodNamed B.named
  have hlocks := B.notSynchronized
  have hK := hE.1
  have hin10 : ∀ w ∈ wsX100, w ∈ wsX10_net := fun _ h9 => List.mem_cons_of_mem _ (List.mem_append_left _ (List.mem_append_left _ (List.mem_append_left _ (List.mem_append_left _ (List.mem_append_left _ (List.mem_append_left _ (List.mem_append_left _ (List.mem_append_right _ h9))))))))
  have hin8 : ∀ w ∈ wsX80, w ∈ wsX10_net := fun _ h9 => List.mem_cons_of_mem _ (List.mem_append_left _ (List.mem_append_left _ (List.mem_append_left _ (List.mem_append_left _ (List.mem_append_left _ (List.mem_append_left _ (List.mem_append_right _ h9)))))))
  have hin5 : ∀ w ∈ wsX50, w ∈ wsX10_net := fun _ h9 => List.mem_cons_of_mem _ (List.mem_append_left _ (List.mem_append_left _ (List.mem_append_left _ (List.mem_append_left _ (List.mem_append_left _ (List.mem_append_right _ h9))))))
  have hin2 : ∀ w ∈ wsX20, w ∈ wsX10_net := fun _ h9 => List.mem_cons_of_mem _ (List.mem_append_left _ (List.mem_append_left _ (List.mem_append_left _ (List.mem_append_left _ (List.mem_append_right _ h9)))))
  have hin1 : ∀ w ∈ wsX10, w ∈ wsX10_net := fun _ h9 => List.mem_cons_of_mem _ (List.mem_append_left _ (List.mem_append_left _ (List.mem_append_left _ (List.mem_append_right _ h9))))
  have hin3 : ∀ w ∈ wsX30, w ∈ wsX10_net := fun _ h9 => List.mem_cons_of_mem _ (List.mem_append_left _ (List.mem_append_left _ (List.mem_append_right _ h9)))
  have hin0 : ∀ w ∈ wsX00, w ∈ wsX10_net := fun _ h9 => List.mem_cons_of_mem _ (List.mem_append_left _ (List.mem_append_right _ h9))
  have hw_0 := hts (.classLink RX10 128 "java/lang/IllegalArgumentException") (List.mem_of_getElem? (i := 1) (by decide +kernel))
  have hw_1 := hts (.initialized "java/lang/IllegalArgumentException") (List.mem_of_getElem? (i := 2) (by decide +kernel))
  subst hsz
  have hD := hD0.self (sz := s.heap.size)
  generalize hAe : va_A [] s.heap.size = A at hD hT ⊢
  have hA : ∀ q : Nat, s.heap.size ≤ q → A q := fun q h => by rw [← hAe]; exact Or.inr h
  have hS : va_S A s.heap s.heap [] := va_S.rf
  have hP : va_P (dC, dI) vwCl [] s.heap := hP
  have hl := lv_entry ([.ref op, .int p0]) (n := 3) (Nat.le_of_ble_eq_true rfl)
  have hla : entryFrame m args0 3 = entryFrame m ([.ref op, .int p0] : List Value).toArray 3 := by rw [hargs]
  rw [hla, lg_entry_eq]
  generalize (lg_sl ([.ref op, .int p0]) ++ List.replicate (3 - (lg_sl ([.ref op, .int p0])).length) Slot.unset).toArray = ls at hl ⊢
  have hl : lv_has ls 3 [(0, .ref op), (1, .int p0)] := hl
  refine lv_iload_n hx hb dX10_net_0 rfl (lv_at hl 1 rfl) ?_
  refine lv_if_lt (tgt := 15) hx hb dX10_net_1 (by decide) (fun _ => ?_) (fun c9 => absurd (iv_lt hp0 (iv_k (by decide) (by decide) : iv 0 0 0) (by decide)) c9)
  have hP9 := hP.sub (ws' := []) [] rfl
  have hD9 := hD.sub (ws' := []) [] (by decide) rfl
  obtain ⟨sa1, hstr⟩ := hXs.2.2.2.2.2.1
  exact vx_throwS (names := ["java/lang/RuntimeException", "java/lang/Exception"]) hx hb hst hown (by decide +kernel) (by decide +kernel) hw_0 hw_1 hstr (vx_hat (L := vx_atS RX10 132 "java/lang/IllegalArgumentException" ["java/lang/RuntimeException", "java/lang/Exception"]) (B := [.castable "java/lang/IllegalArgumentException" "java/lang/IllegalArgumentException", .declares ⟨"java/lang/RuntimeException", "<init>", "(Ljava/lang/String;)V"⟩, .declares ⟨"java/lang/Exception", "<init>", "(Ljava/lang/String;)V"⟩, .declares ⟨"java/lang/Throwable", "<init>", "(Ljava/lang/String;)V"⟩]) (fun w hw => hts w ((by decide +kernel : ∀ w ∈ (vx_atS RX10 132 "java/lang/IllegalArgumentException" ["java/lang/RuntimeException", "java/lang/Exception"]).filter goodWord, w ∈ wsX10_net) w hw)) (by decide +kernel) (vx_c (va_Nw.use rfl hXs.2.1) (vx_c (va_Nw.use rfl hXs.2.2.1) (vx_c (va_Nw.use rfl hXs.2.2.2.1) (vx_c (va_Nw.use rfl hXs.2.2.2.2.1) (vx_n)))))) (by decide +kernel) hT.1 hT.2 hS (by rw [hml]; exact hl.1) dX10_net_15 dX10_net_18 dX10_net_19 dX10_net_21 dX10_net_24 (fun x h9 => (hexT x h9).elim) (Nat.le_of_ble_eq_true rfl) (Nat.le_of_ble_eq_true rfl) (Nat.le_of_ble_eq_true rfl) (Nat.le_of_ble_eq_true rfl) hlocks (fun t9 _ h8 h9 => ⟨(), trivial, ⟨rfl, hP9.kept (fun k q hk => h9 q.1 (hP9 k q hk).lt), hD9⟩, Nat.le_trans hS.1 h8, fun q h1 h2 => (h9 q (Nat.lt_of_lt_of_le h1 hS.1)).trans (hS.2.1 q h1 h2)⟩) hS.2.2 (Nat.le_of_ble_eq_true rfl) (Nat.le_of_ble_eq_true rfl)
