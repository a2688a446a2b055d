def rm_s8_append_x : Room := { frames := 1, cells := 0, slots := 0, locals := 21 }
set_option maxHeartbeats 4000000 in
set_option maxRecDepth 100000 in
theorem s8_append_x (l : Launch) (dC : Nat → ClassId) (dI : Nat → Nat → Nat) (kB kI kJ kZ kC kS : ClassId) (sz : Nat) (ot : Nat) (t_bytes : Nat) (x_t : Nat → Int32) (f_t_bytes : Nat → Int32) (p0 : Int32) (hx_t : fI lX8 hX8 x_t) (hfl : iv 0 696 (x_t 0)) : Met l yX8_append wsX8_append rm_s8_append_x (va_Pc [.ref ot, .int p0] (fun U => U.heap.size = sz ∧ va_P (dC, dI) vwCl [(ot, .inr (8, oX8 t_bytes x_t)), (t_bytes, .inl (kB, 700, .inl f_t_bytes))] U.heap ∧ kE dC dI kB kI kJ kZ kC kS U ∧ va_D (fun _ => True) [(ot, .inr (8, oX8 t_bytes x_t)), (t_bytes, .inl (kB, 700, .inl f_t_bytes))])) (va_Qv (fun (_ : Unit) => True) (fun _ t => ∃ (x_t' : Nat → Int32) (f_t_bytes' : Nat → Int32), fI lX8 hX8 x_t' ∧ ((x_t' 0).toInt = (x_t 0).toInt + 4) ∧ va_P (dC, dI) vwCl [(ot, .inr (8, oX8 t_bytes x_t')), (t_bytes, .inl (kB, 700, .inl f_t_bytes'))] t.heap ∧ va_D (va_A [(ot, .inr (8, oX8 t_bytes x_t)), (t_bytes, .inl (kB, 700, .inl f_t_bytes))] sz) [(ot, .inr (8, oX8 t_bytes x_t')), (t_bytes, .inl (kB, 700, .inl f_t_bytes'))]) (va_A [(ot, .inr (8, oX8 t_bytes x_t)), (t_bytes, .inl (kB, 700, .inl f_t_bytes))] sz)) 0 0 (va_A [(ot, .inr (8, oX8 t_bytes x_t)), (t_bytes, .inl (kB, 700, .inl f_t_bytes))] sz) := by
  refine Met.ofW (cc := cX8_append) (maxL := 3) (ret := none) (by decide) rfl ?_
  intro p e s m args0 below meth c s₁ B hml hv
  obtain ⟨hargs, hsz, hP, hE, hD0⟩ := hv
  have hx := B.exec
  have hb := B.bytes
  have hr := B.returns
  have hts := atoms_spec (ws := wsX8_append) B.pre
  have hown : s.vm.findClass RX8 = some m.cls := findClass_of_methodNamed B.named
  have hlocks := B.notSynchronized
  have hK := hE.1
  have hin8 : ∀ w ∈ wsX80, w ∈ wsX8_append := fun _ h9 => List.mem_cons_of_mem _ (List.mem_append_right _ h9)
  have hw_0 := hts (.fieldLink RX8 9 "PathProber$Tape" "bytes" "[B") (List.mem_of_getElem? (i := 1) (by decide +kernel))
  have hw_1 := hts (.fieldLink RX8 15 "PathProber$Tape" "length" "I") (List.mem_of_getElem? (i := 2) (by decide +kernel))
  subst hsz
  have hD := hD0.self (sz := s.heap.size)
  generalize hAe : va_A [(ot, .inr (8, oX8 t_bytes x_t)), (t_bytes, .inl (kB, 700, .inl f_t_bytes))] s.heap.size = A at hD ⊢
  have hA : ∀ q : Nat, s.heap.size ≤ q → A q := fun q h => by rw [← hAe]; exact Or.inr h
  have hS : va_S A s.heap s.heap [] := va_S.rf
  have hP : va_P (dC, dI) vwCl [(ot, .inr (8, oX8 t_bytes x_t)), (t_bytes, .inl (kB, 700, .inl f_t_bytes))] s.heap := hP
  have hl := lv_entry ([.ref ot, .int p0]) (n := 3) (Nat.le_of_ble_eq_true rfl)
  have hla : entryFrame m args0 3 = entryFrame m ([.ref ot, .int p0] : List Value).toArray 3 := by rw [hargs]
  rw [hla, lg_entry_eq]
  generalize (lg_sl ([.ref ot, .int p0]) ++ List.replicate (3 - (lg_sl ([.ref ot, .int p0])).length) Slot.unset).toArray = ls at hl ⊢
  have hl : lv_has ls 3 [(0, .ref ot), (1, .int p0)] := hl
  have hJ12 : ∀ (n : Nat) (y12_0 : Nat → Int32) (g12_1 : Nat → Int32) (v12_loc2 : Int32) (H : Heap) (locs : List Loc) (ls : Array Slot), (v12_loc2.toInt - (-8)).toNat < n → fI lX8 hX8 y12_0 → iv (-8) 24 v12_loc2 → (8 * (y12_0 0).toInt + v12_loc2.toInt = 8 * (x_t 0).toInt + 24) → ((x_t 0).toInt + 4 ≤ 700) → va_P (dC, dI) vwCl [(ot, .inr (8, oX8 t_bytes y12_0)), (t_bytes, .inl (kB, 700, .inl g12_1))] H → va_D A [(ot, .inr (8, oX8 t_bytes y12_0)), (t_bytes, .inl (kB, 700, .inl g12_1))] → va_S A s.heap H locs → lv_has ls 3 [(0, .ref ot), (1, .int p0), (2, .int v12_loc2)] → W p l e (headSpec wsX8_append rm_s8_append_x).room s m args0 below meth c H locs (0) (0) (MQ below (va_Qv (fun (_ : Unit) => True) (fun _ t => ∃ (x_t' : Nat → Int32) (f_t_bytes' : Nat → Int32), fI lX8 hX8 x_t' ∧ ((x_t' 0).toInt = (x_t 0).toInt + 4) ∧ va_P (dC, dI) vwCl [(ot, .inr (8, oX8 t_bytes x_t')), (t_bytes, .inl (kB, 700, .inl f_t_bytes'))] t.heap ∧ va_D A [(ot, .inr (8, oX8 t_bytes x_t')), (t_bytes, .inl (kB, 700, .inl f_t_bytes'))]) A) args0 s 0 0 A) (F0 m 12 ls []) := by
    intro n
    induction n with
    | zero => intro y12_0 g12_1 v12_loc2 H locs ls hm12; exact absurd hm12 (Nat.not_lt_zero _)
    | succ n ih12 =>
      intro y12_0 g12_1 v12_loc2 H locs ls hm12 hI12_0 h12_2 hap_12 hro_12 hP hD hS hl
      refine lv_iload_n hx hb dX8_append_12 rfl (lv_at hl 2 rfl) ?_
      refine lv_if_lt (tgt := 45) hx hb dX8_append_13 (by decide) (fun c1 => ?_) (fun c1 => ?_)
      · have b2 : iv (-8) (-1) v12_loc2 := iv_ltL c1 h12_2 (iv_k (by decide) (by decide) : iv 0 0 0) (by decide) (by decide)
        have hP9 := hP.sub (ws' := [(ot, .inr (8, oX8 t_bytes y12_0)), (t_bytes, .inl (kB, 700, .inl g12_1))]) [0, 1] rfl
        have hD9 := hD.sub (ws' := [(ot, .inr (8, oX8 t_bytes y12_0)), (t_bytes, .inl (kB, 700, .inl g12_1))]) [0, 1] (by decide) rfl
        exact W.vret hx hb hr (fun t ht hW => ⟨⟨(), rfl, trivial, y12_0, g12_1, hI12_0, (show (y12_0 0).toInt = (x_t 0).toInt + 4 from by have q5 := hap_12; have q6 := b2; have q7 := q6.1; have q8 := q6.2; omega), by rw [ht]; exact hP9, hD9⟩, hS.F ht⟩) hS.2.2 dX8_append_45
      · have b3 : iv 0 24 v12_loc2 := iv_leR (Int32.not_lt.mp c1) (iv_k (by decide) (by decide) : iv 0 0 0) h12_2 (by decide) (by decide)
        have b4 : iv 0 699 (y12_0 0) := app_699 hap_12 hro_12 (hI12_0 0 : iv 0 700 (y12_0 0)) b3
        refine lv_aload_n hx hb dX8_append_16 rfl (lv_at hl 0 rfl) ?_
        refine va_get (D := (dC, dI)) (ci := 8) (v := .ref t_bytes) (C := RX8) (T := TX8) (N := 2) hx hb hts hin8 hown hK hP 0 rfl rfl 0 (by decide) hw_0 (fun _ h9 => h9) rfl dX8_append_17 ?_
        refine lv_aload_n hx hb dX8_append_20 rfl (lv_at hl 0 rfl) ?_
        refine va_get (D := (dC, dI)) (ci := 8) (v := .int (y12_0 0)) (C := RX8) (T := TX8) (N := 2) hx hb hts hin8 hown hK hP 0 rfl rfl 1 (by decide) hw_1 (fun _ h9 => h9) rfl dX8_append_21 ?_
        refine lv_iload_n hx hb dX8_append_24 rfl (lv_at hl 1 rfl) ?_
        refine lv_iload_n hx hb dX8_append_25 rfl (lv_at hl 2 rfl) ?_
        refine lv_ishr hx hb dX8_append_26 ?_
        refine lv_topi (fun z5 _ => ?_)
        refine lv_i2b hx hb dX8_append_27 rfl ?_
        refine lv_topi (fun z6 _ => ?_)
        refine va_bast hx hb hK hP hD hS 1 0 rfl rfl (iv_in b4 (by decide) (by decide)) dX8_append_28 (fun H locs hP hD hS => ?_)
        have hP : va_P (dC, dI) vwCl [(ot, .inr (8, oX8 t_bytes y12_0)), (t_bytes, .inl (kB, 700, .inl (upd g12_1 (y12_0 0).toNatClampNeg (vp_nar .byte z6))))] H := hP
        have hD : va_D A [(ot, .inr (8, oX8 t_bytes y12_0)), (t_bytes, .inl (kB, 700, .inl (upd g12_1 (y12_0 0).toNatClampNeg (vp_nar .byte z6))))] := hD
        generalize (upd g12_1 (y12_0 0).toNatClampNeg (vp_nar .byte z6)) = f7 at hP hD
        refine lv_aload_n hx hb dX8_append_29 rfl (lv_at hl 0 rfl) ?_
        refine lv_dup hx hb dX8_append_30 rfl ?_
        refine va_get (D := (dC, dI)) (ci := 8) (v := .int (y12_0 0)) (C := RX8) (T := TX8) (N := 2) hx hb hts hin8 hown hK hP 0 rfl rfl 1 (by decide) hw_1 (fun _ h9 => h9) rfl dX8_append_31 ?_
        refine lv_iconst (v := 1) hx hb dX8_append_34 (by decide) ?_
        refine lv_iadd hx hb dX8_append_35 ?_
        have b8 : iv 1 700 ((y12_0 0) + 1) := iv_add b4 (iv_k (by decide) (by decide) : iv 1 1 1) (by decide) (by decide) (by decide) (by decide)
        have t9 : ((y12_0 0) + 1).toInt = (y12_0 0).toInt + 1 := iv_addc b4 (by decide) (by decide) (by decide)
        refine va_put (D := (dC, dI)) (ci := 8) (v := .int ((y12_0 0) + 1)) (ty := .int) (C := RX8) (T := TX8) (N := 2) hx hb hts hin8 tyX8 tyX8_ok nmX8 hown hK hP hD hS 0 rfl rfl 1 (by decide) hw_1 (fun _ h9 => h9) rfl (by decide +kernel) rfl rfl (Nat.le_of_ble_eq_true rfl) dX8_append_36 (fun H locs hP hD hS => ?_)
        have hP : va_P (dC, dI) vwCl [(ot, .inr (8, oX8 t_bytes (upd y12_0 0 ((y12_0 0) + 1)))), (t_bytes, .inl (kB, 700, .inl f7))] H := hP
        have hD : va_D A [(ot, .inr (8, oX8 t_bytes (upd y12_0 0 ((y12_0 0) + 1)))), (t_bytes, .inl (kB, 700, .inl f7))] := hD
        refine lv_iinc (v := v12_loc2 + Int32.ofInt (-8)) (lv' := [(2, .int (v12_loc2 + Int32.ofInt (-8))), (0, .ref ot), (1, .int p0)]) hx hb dX8_append_39 hl (k := 2) rfl (rfl) (by decide) rfl (fun ls hl => ?_)
        have b10 : iv (-8) 16 (v12_loc2 + Int32.ofInt (-8)) := iv_add b3 (iv_k (by decide) (by decide) : iv (-8) (-8) (Int32.ofInt (-8))) (by decide) (by decide) (by decide) (by decide)
        have t11 : (v12_loc2 + Int32.ofInt (-8)).toInt = v12_loc2.toInt + (-8) := iv_inc (-8) b3 (by decide) (by decide) (by decide) (by decide)
        refine lv_goto (tgt := 12) hx hb dX8_append_42 (by decide) ?_
        exact ih12 (upd y12_0 0 ((y12_0 0) + 1)) f7 (v12_loc2 + Int32.ofInt (-8)) _ _ _ (ms_dn (c := 8) (d := 0) b3 hm12 (by decide) (iv_inc (-8) b3 (by decide) (by decide) (by decide) (by decide)) (by decide) rfl) ((fI_u hI12_0 (k := 0) ((iv_w b8 (by decide) (by decide))))) ((iv_w b10 (by decide) (by decide))) ((show 8 * ((y12_0 0) + 1).toInt + (v12_loc2 + Int32.ofInt (-8)).toInt = 8 * (x_t 0).toInt + 24 from by have q5 := hap_12; omega)) ((show (x_t 0).toInt + 4 ≤ 700 from hro_12)) (hP.sub [0, 1] rfl) (hD.sub [0, 1] (by decide) rfl) hS (lv_sub hl [1, 2, 0] rfl)
  refine lv_aload_n hx hb dX8_append_0 rfl (lv_at hl 0 rfl) ?_
  refine lv_iconst (v := 4) hx hb dX8_append_1 (by decide) ?_
  have hPc := hP.sub (ws' := [(ot, .inr (8, oX8 t_bytes x_t))]) [0] rfl
  have hDc := hD.sub (ws' := [(ot, .inr (8, oX8 t_bytes x_t))]) [0] (by decide) rfl
  have hFc := va_free (wc := [(ot, .inr (8, oX8 t_bytes x_t))]) hD hS hA [0] rfl
  refine va_calli (va_runV (As := [.int 4]) (rest := []) ⟨hx, hb, hml, hown, hts⟩ (s8_hasRoomFor_4 l dC dI kB kI kJ kZ kC kS s.heap.size ot t_bytes x_t (hx_t) (hfl)) (cwV 1 hts gX8_append_X8_hasRoomFor rfl rfl rfl (by decide +kernel) ⟨Nat.le_of_ble_eq_true rfl, Nat.le_of_ble_eq_true rfl⟩) ⟨fun a U g mk q => by obtain ⟨q0, q1, qP, qE, qD⟩ := q; exact ⟨q0, q1, qP, kE_call qE, qD⟩, va_recv hK hP (ci := 8) (q0 := 0) rfl rfl, fun U hU hW => ⟨rfl, by rw [hU], by rw [hU]; exact hPc, kE_warm hW hE, hDc.weaken (fun _ _ _ _ => trivial)⟩⟩ rfl rfl hl.1 rfl (lv_room (Nat.le_of_ble_eq_true rfl)) dX8_append_2 ⟨Nat.le_of_ble_eq_true rfl, Nat.le_of_ble_eq_true rfl⟩) hS (fun q _ h => hFc q h) hFc (fun r12 u t H1 locs ht hvm w13 hB hz1 hk1 hS => ?_)
  obtain ⟨hP1, hD1⟩ := hB
  rw [ht] at hP1
  try dsimp only at w13
  obtain ⟨hP, hD⟩ := va_join (wr := [(t_bytes, .inl (kB, 700, .inl f_t_bytes))]) (w1 := [(ot, .inr (8, oX8 t_bytes x_t))]) hP hD [0] [1] rfl rfl (by decide) (by decide) hk1 hFc hP1 hD1
  generalize H1 = H at hP hS ⊢
  have hP : va_P (dC, dI) vwCl [(t_bytes, .inl (kB, 700, .inl f_t_bytes)), (ot, .inr (8, oX8 t_bytes x_t))] H := hP
  have hD : va_D A [(t_bytes, .inl (kB, 700, .inl f_t_bytes)), (ot, .inr (8, oX8 t_bytes x_t))] := hD
  refine W.widen (k := 0) (n := 0) (Nat.le_of_ble_eq_true rfl) (Nat.le_of_ble_eq_true rfl) ?_
  obtain rfl : r12 = 1 := iv_one w13 (by decide)
  refine lv_if_ne (tgt := 9) hx hb dX8_append_5 (by decide) (fun _ => ?_) (fun c9 => absurd c9 (by decide))
  refine lv_bipush (v := 24) hx hb dX8_append_9 (by decide) ?_
  refine lv_istore_n (lv' := [(2, .int 24), (0, .ref ot), (1, .int p0)]) hx hb dX8_append_11 rfl hl (by decide) rfl (fun ls hl => ?_)
  exact hJ12 _ x_t f_t_bytes 24 _ _ _ (Nat.lt_succ_self _) (hx_t) ((iv_w (iv_k (by decide) (by decide) : iv 24 24 24) (by decide) (by decide))) ((show 8 * (x_t 0).toInt + ((24 : Int32)).toInt = 8 * (x_t 0).toInt + 24 from by have q24 : ((24 : Int32)).toInt = 24 := (by decide); omega)) ((show (x_t 0).toInt + 4 ≤ 700 from by have q := hfl; have q2 := q.2; omega)) (hP.sub [1, 0] rfl) (hD.sub [1, 0] (by decide) rfl) hS (lv_sub hl [1, 2, 0] rfl)
def rm_s10_feed_room : Room := { frames := 2, cells := 0, slots := 0, locals := 43 }
set_option maxHeartbeats 4000000 in
set_option maxRecDepth 100000 in
theorem s10_feed_room (l : Launch) (dC : Nat → ClassId) (dI : Nat → Nat → Nat) (kB kI kJ kZ kC kS : ClassId) (sz : Nat) (op : Nat) (ot : Nat) (on : Nat) (dn : Nat) (rd : Nat) (oc : Nat) (d : Nat) (o : Nat) (si : Nat) (w : Nat) (se : Nat) (nb : Nat) (hi : Nat) (p_status : Nat) (oe : Nat) (ih : Nat) (mb : Nat) (p_imageStatus : Nat) (x_p : Nat → Int32) (t_bytes : Nat) (x_t : Nat → Int32) (f_t_bytes : Nat → Int32) (p0 : Int32) (p1 : Int32) (p2 : Int32) (p3 : Int32) (p4 : Int32) (hx_t : fI lX8 hX8 x_t) (hfl : iv 0 680 (x_t 0)) : Met l yX10_feed wsX10_feed rm_s10_feed_room (va_Pc [.ref op, .int p0, .int p1, .int p2, .int p3, .int p4] (fun U => U.heap.size = sz ∧ va_P (dC, dI) vwCl [(op, .inr (10, oX10 ot on dn rd oc d o si w se nb hi p_status oe ih mb p_imageStatus x_p)), (ot, .inr (8, oX8 t_bytes x_t)), (t_bytes, .inl (kB, 700, .inl f_t_bytes))] U.heap ∧ kE dC dI kB kI kJ kZ kC kS U ∧ va_D (fun _ => True) [(op, .inr (10, oX10 ot on dn rd oc d o si w se nb hi p_status oe ih mb p_imageStatus x_p)), (ot, .inr (8, oX8 t_bytes x_t)), (t_bytes, .inl (kB, 700, .inl f_t_bytes))])) (va_Qi (fun (r : Int32) (_ : Unit) => iv 20 700 r ∧ (r.toInt = (x_t 0).toInt + 20)) (fun _ t => ∃ (x_t' : Nat → Int32) (f_t_bytes' : Nat → Int32), fI lX8 hX8 x_t' ∧ ((x_t' 0).toInt = (x_t 0).toInt + 20) ∧ va_P (dC, dI) vwCl [(op, .inr (10, oX10 ot on dn rd oc d o si w se nb hi p_status oe ih mb p_imageStatus x_p)), (ot, .inr (8, oX8 t_bytes x_t')), (t_bytes, .inl (kB, 700, .inl f_t_bytes'))] t.heap ∧ va_D (va_A [(op, .inr (10, oX10 ot on dn rd oc d o si w se nb hi p_status oe ih mb p_imageStatus x_p)), (ot, .inr (8, oX8 t_bytes x_t)), (t_bytes, .inl (kB, 700, .inl f_t_bytes))] sz) [(op, .inr (10, oX10 ot on dn rd oc d o si w se nb hi p_status oe ih mb p_imageStatus x_p)), (ot, .inr (8, oX8 t_bytes x_t')), (t_bytes, .inl (kB, 700, .inl f_t_bytes'))]) (va_A [(op, .inr (10, oX10 ot on dn rd oc d o si w se nb hi p_status oe ih mb p_imageStatus x_p)), (ot, .inr (8, oX8 t_bytes x_t)), (t_bytes, .inl (kB, 700, .inl f_t_bytes))] sz)) 0 0 (va_A [(op, .inr (10, oX10 ot on dn rd oc d o si w se nb hi p_status oe ih mb p_imageStatus x_p)), (ot, .inr (8, oX8 t_bytes x_t)), (t_bytes, .inl (kB, 700, .inl f_t_bytes))] sz) := by
  refine Met.ofW (cc := cX10_feed) (maxL := 6) (ret := (some .int)) (by decide) rfl ?_
  intro p e s m args0 below meth c s₁ B hml hv
  obtain ⟨hargs, hsz, hP, hE, hD0⟩ := hv
  have hx := B.exec
  have hb := B.bytes
  have hr := B.returns
  have hts := atoms_spec (ws := wsX10_feed) B.pre
  have hown : s.vm.findClass RX10 = some m.cls := findClass_of_methodNamed B.named
  have hlocks := B.notSynchronized
  have hK := hE.1
  have hin10 : ∀ w ∈ wsX100, w ∈ wsX10_feed := fun _ h9 => List.mem_cons_of_mem _ (List.mem_append_left _ (List.mem_append_right _ h9))
  have hin8 : ∀ w ∈ wsX80, w ∈ wsX10_feed := fun _ h9 => List.mem_cons_of_mem _ (List.mem_append_right _ h9)
  have hw_0 := hts (.fieldLink RX10 12 "PathProber" "tape" "LPathProber$Tape;") (List.mem_of_getElem? (i := 1) (by decide +kernel))
  have hw_1 := hts (.fieldLink RX10 125 "PathProber$Tape" "length" "I") (List.mem_of_getElem? (i := 2) (by decide +kernel))
  subst hsz
  have hD := hD0.self (sz := s.heap.size)
  generalize hAe : va_A [(op, .inr (10, oX10 ot on dn rd oc d o si w se nb hi p_status oe ih mb p_imageStatus x_p)), (ot, .inr (8, oX8 t_bytes x_t)), (t_bytes, .inl (kB, 700, .inl f_t_bytes))] s.heap.size = A at hD ⊢
  have hA : ∀ q : Nat, s.heap.size ≤ q → A q := fun q h => by rw [← hAe]; exact Or.inr h
  have hS : va_S A s.heap s.heap [] := va_S.rf
  have hP : va_P (dC, dI) vwCl [(op, .inr (10, oX10 ot on dn rd oc d o si w se nb hi p_status oe ih mb p_imageStatus x_p)), (ot, .inr (8, oX8 t_bytes x_t)), (t_bytes, .inl (kB, 700, .inl f_t_bytes))] s.heap := hP
  have hl := lv_entry ([.ref op, .int p0, .int p1, .int p2, .int p3, .int p4]) (n := 6) (Nat.le_of_ble_eq_true rfl)
  have hla : entryFrame m args0 6 = entryFrame m ([.ref op, .int p0, .int p1, .int p2, .int p3, .int p4] : List Value).toArray 6 := by rw [hargs]
  rw [hla, lg_entry_eq]
  generalize (lg_sl ([.ref op, .int p0, .int p1, .int p2, .int p3, .int p4]) ++ List.replicate (6 - (lg_sl ([.ref op, .int p0, .int p1, .int p2, .int p3, .int p4])).length) Slot.unset).toArray = ls at hl ⊢
  have hl : lv_has ls 6 [(0, .ref op), (1, .int p0), (2, .int p1), (3, .int p2), (4, .int p3), (5, .int p4)] := hl
  refine lv_aload_n hx hb dX10_feed_0 rfl (lv_at hl 0 rfl) ?_
  refine va_get (D := (dC, dI)) (ci := 10) (v := .ref ot) (C := RX10) (T := TX10) (N := 19) hx hb hts hin10 hown hK hP 0 rfl rfl 0 (by decide) hw_0 (fun _ h9 => h9) rfl dX10_feed_1 ?_
  refine lv_bipush (v := 20) hx hb dX10_feed_4 (by decide) ?_
  have hPc := hP.sub (ws' := [(ot, .inr (8, oX8 t_bytes x_t))]) [1] rfl
  have hDc := hD.sub (ws' := [(ot, .inr (8, oX8 t_bytes x_t))]) [1] (by decide) rfl
  have hFc := va_free (wc := [(ot, .inr (8, oX8 t_bytes x_t))]) hD hS hA [1] rfl
  refine va_calli (va_runV (As := [.int 20]) (rest := []) ⟨hx, hb, hml, hown, hts⟩ (s8_hasRoomFor_yes l dC dI kB kI kJ kZ kC kS s.heap.size ot t_bytes x_t (hx_t) (hfl)) (cwV 1 hts gX10_feed_X8_hasRoomFor rfl rfl rfl (by decide +kernel) ⟨Nat.le_of_ble_eq_true rfl, Nat.le_of_ble_eq_true rfl⟩) ⟨fun a U g mk q => by obtain ⟨q0, q1, qP, qE, qD⟩ := q; exact ⟨q0, q1, qP, kE_call qE, qD⟩, va_recv hK hP (ci := 8) (q0 := 1) rfl rfl, fun U hU hW => ⟨rfl, by rw [hU], by rw [hU]; exact hPc, kE_warm hW hE, hDc.weaken (fun _ _ _ _ => trivial)⟩⟩ rfl rfl hl.1 rfl (lv_room (Nat.le_of_ble_eq_true rfl)) dX10_feed_6 ⟨Nat.le_of_ble_eq_true rfl, Nat.le_of_ble_eq_true rfl⟩) hS (fun q _ h => hFc q h) hFc (fun r1 u t H1 locs ht hvm w2 hB hz1 hk1 hS => ?_)
  obtain ⟨hP1, hD1⟩ := hB
  rw [ht] at hP1
  try dsimp only at w2
  obtain ⟨hP, hD⟩ := va_join (wr := [(op, .inr (10, oX10 ot on dn rd oc d o si w se nb hi p_status oe ih mb p_imageStatus x_p)), (t_bytes, .inl (kB, 700, .inl f_t_bytes))]) (w1 := [(ot, .inr (8, oX8 t_bytes x_t))]) hP hD [1] [0, 2] rfl rfl (by decide) (by decide) hk1 hFc hP1 hD1
  generalize H1 = H at hP hS ⊢
  have hP : va_P (dC, dI) vwCl [(op, .inr (10, oX10 ot on dn rd oc d o si w se nb hi p_status oe ih mb p_imageStatus x_p)), (t_bytes, .inl (kB, 700, .inl f_t_bytes)), (ot, .inr (8, oX8 t_bytes x_t))] H := hP
  have hD : va_D A [(op, .inr (10, oX10 ot on dn rd oc d o si w se nb hi p_status oe ih mb p_imageStatus x_p)), (t_bytes, .inl (kB, 700, .inl f_t_bytes)), (ot, .inr (8, oX8 t_bytes x_t))] := hD
  refine W.widen (k := 0) (n := 0) (Nat.le_of_ble_eq_true rfl) (Nat.le_of_ble_eq_true rfl) ?_
  obtain rfl : r1 = 1 := iv_one w2 (by decide)
  refine lv_if_ne (tgt := 14) hx hb dX10_feed_9 (by decide) (fun _ => ?_) (fun c9 => absurd c9 (by decide))
  refine lv_aload_n hx hb dX10_feed_14 rfl (lv_at hl 0 rfl) ?_
  refine va_get (D := (dC, dI)) (ci := 10) (v := .ref ot) (C := RX10) (T := TX10) (N := 19) hx hb hts hin10 hown hK hP 0 rfl rfl 0 (by decide) hw_0 (fun _ h9 => h9) rfl dX10_feed_15 ?_
  refine lv_iload_n hx hb dX10_feed_18 rfl (lv_at hl 1 rfl) ?_
  have hPc := hP.sub (ws' := [(ot, .inr (8, oX8 t_bytes x_t)), (t_bytes, .inl (kB, 700, .inl f_t_bytes))]) [2, 1] rfl
  have hDc := hD.sub (ws' := [(ot, .inr (8, oX8 t_bytes x_t)), (t_bytes, .inl (kB, 700, .inl f_t_bytes))]) [2, 1] (by decide) rfl
  have hFc := va_free (wc := [(ot, .inr (8, oX8 t_bytes x_t)), (t_bytes, .inl (kB, 700, .inl f_t_bytes))]) hD hS hA [2, 1] rfl
  refine va_callv (va_runV (As := [.int p0]) (rest := []) ⟨hx, hb, hml, hown, hts⟩ (s8_append_x l dC dI kB kI kJ kZ kC kS H.size ot t_bytes x_t f_t_bytes p0 (hx_t) ((iv_w hfl (by decide) (by decide)))) (cwV 1 hts gX10_feed_X8_append rfl rfl rfl (by decide +kernel) ⟨Nat.le_of_ble_eq_true rfl, Nat.le_of_ble_eq_true rfl⟩) ⟨fun a U g mk q => by obtain ⟨q0, q1, qP, qE, qD⟩ := q; exact ⟨q0, q1, qP, kE_call qE, qD⟩, va_recv hK hP (ci := 8) (q0 := 2) rfl rfl, fun U hU hW => ⟨rfl, by rw [hU], by rw [hU]; exact hPc, kE_warm hW hE, hDc.weaken (fun _ _ _ _ => trivial)⟩⟩ rfl rfl hl.1 rfl (lv_room (Nat.le_of_ble_eq_true rfl)) dX10_feed_19 ⟨Nat.le_of_ble_eq_true rfl, Nat.le_of_ble_eq_true rfl⟩) hS (fun q _ h => hFc q h) hFc (fun u t H1 locs ht hvm w4 hB hz1 hk1 hS => ?_)
  obtain ⟨y5, f6, hq7, hq8, hP1, hD1⟩ := hB
  rw [ht] at hP1
  try dsimp only at w4
  obtain ⟨hP, hD⟩ := va_join (wr := [(op, .inr (10, oX10 ot on dn rd oc d o si w se nb hi p_status oe ih mb p_imageStatus x_p))]) (w1 := [(ot, .inr (8, oX8 t_bytes y5)), (t_bytes, .inl (kB, 700, .inl f6))]) hP hD [2, 1] [0] rfl rfl (by decide) (by decide) hk1 hFc hP1 hD1
  generalize H1 = H at hP hS ⊢
  have hP : va_P (dC, dI) vwCl [(op, .inr (10, oX10 ot on dn rd oc d o si w se nb hi p_status oe ih mb p_imageStatus x_p)), (ot, .inr (8, oX8 t_bytes y5)), (t_bytes, .inl (kB, 700, .inl f6))] H := hP
  have hD : va_D A [(op, .inr (10, oX10 ot on dn rd oc d o si w se nb hi p_status oe ih mb p_imageStatus x_p)), (ot, .inr (8, oX8 t_bytes y5)), (t_bytes, .inl (kB, 700, .inl f6))] := hD
  refine W.widen (k := 0) (n := 0) (Nat.le_of_ble_eq_true rfl) (Nat.le_of_ble_eq_true rfl) ?_
  have b9 : iv 4 684 (y5 0) := iv_eqc hq8 hfl (by decide) (by decide)
  refine lv_aload_n hx hb dX10_feed_22 rfl (lv_at hl 0 rfl) ?_
  refine va_get (D := (dC, dI)) (ci := 10) (v := .ref ot) (C := RX10) (T := TX10) (N := 19) hx hb hts hin10 hown hK hP 0 rfl rfl 0 (by decide) hw_0 (fun _ h9 => h9) rfl dX10_feed_23 ?_
  refine lv_iload_n hx hb dX10_feed_26 rfl (lv_at hl 2 rfl) ?_
  have hPc := hP.sub (ws' := [(ot, .inr (8, oX8 t_bytes y5)), (t_bytes, .inl (kB, 700, .inl f6))]) [1, 2] rfl
  have hDc := hD.sub (ws' := [(ot, .inr (8, oX8 t_bytes y5)), (t_bytes, .inl (kB, 700, .inl f6))]) [1, 2] (by decide) rfl
  have hFc := va_free (wc := [(ot, .inr (8, oX8 t_bytes y5)), (t_bytes, .inl (kB, 700, .inl f6))]) hD hS hA [1, 2] rfl
  refine va_callv (va_runV (As := [.int p1]) (rest := []) ⟨hx, hb, hml, hown, hts⟩ (s8_append_x l dC dI kB kI kJ kZ kC kS H.size ot t_bytes y5 f6 p1 (hq7) ((iv_w b9 (by decide) (by decide)))) (cwV 1 hts gX10_feed_X8_append rfl rfl rfl (by decide +kernel) ⟨Nat.le_of_ble_eq_true rfl, Nat.le_of_ble_eq_true rfl⟩) ⟨fun a U g mk q => by obtain ⟨q0, q1, qP, qE, qD⟩ := q; exact ⟨q0, q1, qP, kE_call qE, qD⟩, va_recv hK hP (ci := 8) (q0 := 1) rfl rfl, fun U hU hW => ⟨rfl, by rw [hU], by rw [hU]; exact hPc, kE_warm hW hE, hDc.weaken (fun _ _ _ _ => trivial)⟩⟩ rfl rfl hl.1 rfl (lv_room (Nat.le_of_ble_eq_true rfl)) dX10_feed_27 ⟨Nat.le_of_ble_eq_true rfl, Nat.le_of_ble_eq_true rfl⟩) hS (fun q _ h => hFc q h) hFc (fun u t H1 locs ht hvm w11 hB hz1 hk1 hS => ?_)
  obtain ⟨y12, f13, hq14, hq15, hP1, hD1⟩ := hB
  rw [ht] at hP1
  try dsimp only at w11
  obtain ⟨hP, hD⟩ := va_join (wr := [(op, .inr (10, oX10 ot on dn rd oc d o si w se nb hi p_status oe ih mb p_imageStatus x_p))]) (w1 := [(ot, .inr (8, oX8 t_bytes y12)), (t_bytes, .inl (kB, 700, .inl f13))]) hP hD [1, 2] [0] rfl rfl (by decide) (by decide) hk1 hFc hP1 hD1
  generalize H1 = H at hP hS ⊢
  have hP : va_P (dC, dI) vwCl [(op, .inr (10, oX10 ot on dn rd oc d o si w se nb hi p_status oe ih mb p_imageStatus x_p)), (ot, .inr (8, oX8 t_bytes y12)), (t_bytes, .inl (kB, 700, .inl f13))] H := hP
  have hD : va_D A [(op, .inr (10, oX10 ot on dn rd oc d o si w se nb hi p_status oe ih mb p_imageStatus x_p)), (ot, .inr (8, oX8 t_bytes y12)), (t_bytes, .inl (kB, 700, .inl f13))] := hD
  refine W.widen (k := 0) (n := 0) (Nat.le_of_ble_eq_true rfl) (Nat.le_of_ble_eq_true rfl) ?_
  have b16 : iv 8 688 (y12 0) := iv_eqc hq15 b9 (by decide) (by decide)
  refine lv_aload_n hx hb dX10_feed_30 rfl (lv_at hl 0 rfl) ?_
  refine va_get (D := (dC, dI)) (ci := 10) (v := .ref ot) (C := RX10) (T := TX10) (N := 19) hx hb hts hin10 hown hK hP 0 rfl rfl 0 (by decide) hw_0 (fun _ h9 => h9) rfl dX10_feed_31 ?_
  refine lv_iload_n hx hb dX10_feed_34 rfl (lv_at hl 3 rfl) ?_
  have hPc := hP.sub (ws' := [(ot, .inr (8, oX8 t_bytes y12)), (t_bytes, .inl (kB, 700, .inl f13))]) [1, 2] rfl
  have hDc := hD.sub (ws' := [(ot, .inr (8, oX8 t_bytes y12)), (t_bytes, .inl (kB, 700, .inl f13))]) [1, 2] (by decide) rfl
  have hFc := va_free (wc := [(ot, .inr (8, oX8 t_bytes y12)), (t_bytes, .inl (kB, 700, .inl f13))]) hD hS hA [1, 2] rfl
  refine va_callv (va_runV (As := [.int p2]) (rest := []) ⟨hx, hb, hml, hown, hts⟩ (s8_append_x l dC dI kB kI kJ kZ kC kS H.size ot t_bytes y12 f13 p2 (hq14) ((iv_w b16 (by decide) (by decide)))) (cwV 1 hts gX10_feed_X8_append rfl rfl rfl (by decide +kernel) ⟨Nat.le_of_ble_eq_true rfl, Nat.le_of_ble_eq_true rfl⟩) ⟨fun a U g mk q => by obtain ⟨q0, q1, qP, qE, qD⟩ := q; exact ⟨q0, q1, qP, kE_call qE, qD⟩, va_recv hK hP (ci := 8) (q0 := 1) rfl rfl, fun U hU hW => ⟨rfl, by rw [hU], by rw [hU]; exact hPc, kE_warm hW hE, hDc.weaken (fun _ _ _ _ => trivial)⟩⟩ rfl rfl hl.1 rfl (lv_room (Nat.le_of_ble_eq_true rfl)) dX10_feed_35 ⟨Nat.le_of_ble_eq_true rfl, Nat.le_of_ble_eq_true rfl⟩) hS (fun q _ h => hFc q h) hFc (fun u t H1 locs ht hvm w18 hB hz1 hk1 hS => ?_)
  obtain ⟨y19, f20, hq21, hq22, hP1, hD1⟩ := hB
  rw [ht] at hP1
  try dsimp only at w18
  obtain ⟨hP, hD⟩ := va_join (wr := [(op, .inr (10, oX10 ot on dn rd oc d o si w se nb hi p_status oe ih mb p_imageStatus x_p))]) (w1 := [(ot, .inr (8, oX8 t_bytes y19)), (t_bytes, .inl (kB, 700, .inl f20))]) hP hD [1, 2] [0] rfl rfl (by decide) (by decide) hk1 hFc hP1 hD1
  generalize H1 = H at hP hS ⊢
  have hP : va_P (dC, dI) vwCl [(op, .inr (10, oX10 ot on dn rd oc d o si w se nb hi p_status oe ih mb p_imageStatus x_p)), (ot, .inr (8, oX8 t_bytes y19)), (t_bytes, .inl (kB, 700, .inl f20))] H := hP
  have hD : va_D A [(op, .inr (10, oX10 ot on dn rd oc d o si w se nb hi p_status oe ih mb p_imageStatus x_p)), (ot, .inr (8, oX8 t_bytes y19)), (t_bytes, .inl (kB, 700, .inl f20))] := hD
  refine W.widen (k := 0) (n := 0) (Nat.le_of_ble_eq_true rfl) (Nat.le_of_ble_eq_true rfl) ?_
  have b23 : iv 12 692 (y19 0) := iv_eqc hq22 b16 (by decide) (by decide)
  refine lv_aload_n hx hb dX10_feed_38 rfl (lv_at hl 0 rfl) ?_
  refine va_get (D := (dC, dI)) (ci := 10) (v := .ref ot) (C := RX10) (T := TX10) (N := 19) hx hb hts hin10 hown hK hP 0 rfl rfl 0 (by decide) hw_0 (fun _ h9 => h9) rfl dX10_feed_39 ?_
  refine lv_iload hx hb dX10_feed_42 (lv_at hl 4 rfl) ?_
  have hPc := hP.sub (ws' := [(ot, .inr (8, oX8 t_bytes y19)), (t_bytes, .inl (kB, 700, .inl f20))]) [1, 2] rfl
  have hDc := hD.sub (ws' := [(ot, .inr (8, oX8 t_bytes y19)), (t_bytes, .inl (kB, 700, .inl f20))]) [1, 2] (by decide) rfl
  have hFc := va_free (wc := [(ot, .inr (8, oX8 t_bytes y19)), (t_bytes, .inl (kB, 700, .inl f20))]) hD hS hA [1, 2] rfl
  refine va_callv (va_runV (As := [.int p3]) (rest := []) ⟨hx, hb, hml, hown, hts⟩ (s8_append_x l dC dI kB kI kJ kZ kC kS H.size ot t_bytes y19 f20 p3 (hq21) ((iv_w b23 (by decide) (by decide)))) (cwV 1 hts gX10_feed_X8_append rfl rfl rfl (by decide +kernel) ⟨Nat.le_of_ble_eq_true rfl, Nat.le_of_ble_eq_true rfl⟩) ⟨fun a U g mk q => by obtain ⟨q0, q1, qP, qE, qD⟩ := q; exact ⟨q0, q1, qP, kE_call qE, qD⟩, va_recv hK hP (ci := 8) (q0 := 1) rfl rfl, fun U hU hW => ⟨rfl, by rw [hU], by rw [hU]; exact hPc, kE_warm hW hE, hDc.weaken (fun _ _ _ _ => trivial)⟩⟩ rfl rfl hl.1 rfl (lv_room (Nat.le_of_ble_eq_true rfl)) dX10_feed_44 ⟨Nat.le_of_ble_eq_true rfl, Nat.le_of_ble_eq_true rfl⟩) hS (fun q _ h => hFc q h) hFc (fun u t H1 locs ht hvm w25 hB hz1 hk1 hS => ?_)
  obtain ⟨y26, f27, hq28, hq29, hP1, hD1⟩ := hB
  rw [ht] at hP1
  try dsimp only at w25
  obtain ⟨hP, hD⟩ := va_join (wr := [(op, .inr (10, oX10 ot on dn rd oc d o si w se nb hi p_status oe ih mb p_imageStatus x_p))]) (w1 := [(ot, .inr (8, oX8 t_bytes y26)), (t_bytes, .inl (kB, 700, .inl f27))]) hP hD [1, 2] [0] rfl rfl (by decide) (by decide) hk1 hFc hP1 hD1
  generalize H1 = H at hP hS ⊢
  have hP : va_P (dC, dI) vwCl [(op, .inr (10, oX10 ot on dn rd oc d o si w se nb hi p_status oe ih mb p_imageStatus x_p)), (ot, .inr (8, oX8 t_bytes y26)), (t_bytes, .inl (kB, 700, .inl f27))] H := hP
  have hD : va_D A [(op, .inr (10, oX10 ot on dn rd oc d o si w se nb hi p_status oe ih mb p_imageStatus x_p)), (ot, .inr (8, oX8 t_bytes y26)), (t_bytes, .inl (kB, 700, .inl f27))] := hD
  refine W.widen (k := 0) (n := 0) (Nat.le_of_ble_eq_true rfl) (Nat.le_of_ble_eq_true rfl) ?_
  have b30 : iv 16 696 (y26 0) := iv_eqc hq29 b23 (by decide) (by decide)
  refine lv_aload_n hx hb dX10_feed_47 rfl (lv_at hl 0 rfl) ?_
  refine va_get (D := (dC, dI)) (ci := 10) (v := .ref ot) (C := RX10) (T := TX10) (N := 19) hx hb hts hin10 hown hK hP 0 rfl rfl 0 (by decide) hw_0 (fun _ h9 => h9) rfl dX10_feed_48 ?_
  refine lv_iload hx hb dX10_feed_51 (lv_at hl 5 rfl) ?_
  have hPc := hP.sub (ws' := [(ot, .inr (8, oX8 t_bytes y26)), (t_bytes, .inl (kB, 700, .inl f27))]) [1, 2] rfl
  have hDc := hD.sub (ws' := [(ot, .inr (8, oX8 t_bytes y26)), (t_bytes, .inl (kB, 700, .inl f27))]) [1, 2] (by decide) rfl
  have hFc := va_free (wc := [(ot, .inr (8, oX8 t_bytes y26)), (t_bytes, .inl (kB, 700, .inl f27))]) hD hS hA [1, 2] rfl
  refine va_callv (va_runV (As := [.int p4]) (rest := []) ⟨hx, hb, hml, hown, hts⟩ (s8_append_x l dC dI kB kI kJ kZ kC kS H.size ot t_bytes y26 f27 p4 (hq28) ((iv_w b30 (by decide) (by decide)))) (cwV 1 hts gX10_feed_X8_append rfl rfl rfl (by decide +kernel) ⟨Nat.le_of_ble_eq_true rfl, Nat.le_of_ble_eq_true rfl⟩) ⟨fun a U g mk q => by obtain ⟨q0, q1, qP, qE, qD⟩ := q; exact ⟨q0, q1, qP, kE_call qE, qD⟩, va_recv hK hP (ci := 8) (q0 := 1) rfl rfl, fun U hU hW => ⟨rfl, by rw [hU], by rw [hU]; exact hPc, kE_warm hW hE, hDc.weaken (fun _ _ _ _ => trivial)⟩⟩ rfl rfl hl.1 rfl (lv_room (Nat.le_of_ble_eq_true rfl)) dX10_feed_53 ⟨Nat.le_of_ble_eq_true rfl, Nat.le_of_ble_eq_true rfl⟩) hS (fun q _ h => hFc q h) hFc (fun u t H1 locs ht hvm w32 hB hz1 hk1 hS => ?_)
  obtain ⟨y33, f34, hq35, hq36, hP1, hD1⟩ := hB
  rw [ht] at hP1
  try dsimp only at w32
  obtain ⟨hP, hD⟩ := va_join (wr := [(op, .inr (10, oX10 ot on dn rd oc d o si w se nb hi p_status oe ih mb p_imageStatus x_p))]) (w1 := [(ot, .inr (8, oX8 t_bytes y33)), (t_bytes, .inl (kB, 700, .inl f34))]) hP hD [1, 2] [0] rfl rfl (by decide) (by decide) hk1 hFc hP1 hD1
  generalize H1 = H at hP hS ⊢
  have hP : va_P (dC, dI) vwCl [(op, .inr (10, oX10 ot on dn rd oc d o si w se nb hi p_status oe ih mb p_imageStatus x_p)), (ot, .inr (8, oX8 t_bytes y33)), (t_bytes, .inl (kB, 700, .inl f34))] H := hP
  have hD : va_D A [(op, .inr (10, oX10 ot on dn rd oc d o si w se nb hi p_status oe ih mb p_imageStatus x_p)), (ot, .inr (8, oX8 t_bytes y33)), (t_bytes, .inl (kB, 700, .inl f34))] := hD
  refine W.widen (k := 0) (n := 0) (Nat.le_of_ble_eq_true rfl) (Nat.le_of_ble_eq_true rfl) ?_
  have b37 : iv 20 700 (y33 0) := iv_eqc hq36 b30 (by decide) (by decide)
  refine lv_aload_n hx hb dX10_feed_56 rfl (lv_at hl 0 rfl) ?_
  refine va_get (D := (dC, dI)) (ci := 10) (v := .ref ot) (C := RX10) (T := TX10) (N := 19) hx hb hts hin10 hown hK hP 0 rfl rfl 0 (by decide) hw_0 (fun _ h9 => h9) rfl dX10_feed_57 ?_
  refine va_get (D := (dC, dI)) (ci := 8) (v := .int (y33 0)) (C := RX8) (T := TX8) (N := 2) hx hb hts hin8 hown hK hP 1 rfl rfl 1 (by decide) hw_1 (fun _ h9 => h9) rfl dX10_feed_60 ?_
  have hP9 := hP.sub (ws' := [(op, .inr (10, oX10 ot on dn rd oc d o si w se nb hi p_status oe ih mb p_imageStatus x_p)), (ot, .inr (8, oX8 t_bytes y33)), (t_bytes, .inl (kB, 700, .inl f34))]) [0, 1, 2] rfl
  have hD9 := hD.sub (ws' := [(op, .inr (10, oX10 ot on dn rd oc d o si w se nb hi p_status oe ih mb p_imageStatus x_p)), (ot, .inr (8, oX8 t_bytes y33)), (t_bytes, .inl (kB, 700, .inl f34))]) [0, 1, 2] (by decide) rfl
  exact W.iret (v := y33 0) hx hb hr (fun t ht hW => ⟨⟨y33 0, (), rfl, ⟨b37, by omega⟩, y33, f34, hq35, (show (y33 0).toInt = (x_t 0).toInt + 20 from by omega), by rw [ht]; exact hP9, hD9⟩, hS.F ht⟩) hS.2.2 dX10_feed_63
def rm_s10_feed_full : Room := { frames := 1, cells := 0, slots := 0, locals := 21 }
set_option maxHeartbeats 4000000 in
set_option maxRecDepth 100000 in
theorem s10_feed_full (l : Launch) (dC : Nat → ClassId) (dI : Nat → Nat → Nat) (kB kI kJ kZ kC kS : ClassId) (sz : Nat) (op : Nat) (ot : Nat) (on : Nat) (dn : Nat) (rd : Nat) (oc : Nat) (d : Nat) (o : Nat) (si : Nat) (w : Nat) (se : Nat) (nb : Nat) (hi : Nat) (p_status : Nat) (oe : Nat) (ih : Nat) (mb : Nat) (p_imageStatus : Nat) (x_p : Nat → Int32) (t_bytes : Nat) (x_t : Nat → Int32) (p0 : Int32) (p1 : Int32) (p2 : Int32) (p3 : Int32) (p4 : Int32) (hx_t : fI lX8 hX8 x_t) (hfl : iv 681 700 (x_t 0)) : Met l yX10_feed wsX10_feed rm_s10_feed_full (va_Pc [.ref op, .int p0, .int p1, .int p2, .int p3, .int p4] (fun U => U.heap.size = sz ∧ va_P (dC, dI) vwCl [(op, .inr (10, oX10 ot on dn rd oc d o si w se nb hi p_status oe ih mb p_imageStatus x_p)), (ot, .inr (8, oX8 t_bytes x_t))] U.heap ∧ kE dC dI kB kI kJ kZ kC kS U ∧ va_D (fun _ => True) [(op, .inr (10, oX10 ot on dn rd oc d o si w se nb hi p_status oe ih mb p_imageStatus x_p)), (ot, .inr (8, oX8 t_bytes x_t))])) (va_Qi (fun (r : Int32) (_ : Unit) => iv (-1) (-1) r) (fun _ t => va_P (dC, dI) vwCl [(op, .inr (10, oX10 ot on dn rd oc d o si w se nb hi p_status oe ih mb p_imageStatus x_p)), (ot, .inr (8, oX8 t_bytes x_t))] t.heap ∧ va_D (va_A [(op, .inr (10, oX10 ot on dn rd oc d o si w se nb hi p_status oe ih mb p_imageStatus x_p)), (ot, .inr (8, oX8 t_bytes x_t))] sz) [(op, .inr (10, oX10 ot on dn rd oc d o si w se nb hi p_status oe ih mb p_imageStatus x_p)), (ot, .inr (8, oX8 t_bytes x_t))]) (va_A [(op, .inr (10, oX10 ot on dn rd oc d o si w se nb hi p_status oe ih mb p_imageStatus x_p)), (ot, .inr (8, oX8 t_bytes x_t))] sz)) 0 0 (va_A [(op, .inr (10, oX10 ot on dn rd oc d o si w se nb hi p_status oe ih mb p_imageStatus x_p)), (ot, .inr (8, oX8 t_bytes x_t))] sz) := by
  refine Met.ofW (cc := cX10_feed) (maxL := 6) (ret := (some .int)) (by decide) rfl ?_
  intro p e s m args0 below meth c s₁ B hml hv
  obtain ⟨hargs, hsz, hP, hE, hD0⟩ := hv
  have hx := B.exec
  have hb := B.bytes
  have hr := B.returns
  have hts := atoms_spec (ws := wsX10_feed) B.pre
  have hown : s.vm.findClass RX10 = some m.cls := findClass_of_methodNamed B.named
  have hlocks := B.notSynchronized
  have hK := hE.1
  have hin10 : ∀ w ∈ wsX100, w ∈ wsX10_feed := fun _ h9 => List.mem_cons_of_mem _ (List.mem_append_left _ (List.mem_append_right _ h9))
  have hin8 : ∀ w ∈ wsX80, w ∈ wsX10_feed := fun _ h9 => List.mem_cons_of_mem _ (List.mem_append_right _ h9)
  have hw_0 := hts (.fieldLink RX10 12 "PathProber" "tape" "LPathProber$Tape;") (List.mem_of_getElem? (i := 1) (by decide +kernel))
  subst hsz
  have hD := hD0.self (sz := s.heap.size)
  generalize hAe : va_A [(op, .inr (10, oX10 ot on dn rd oc d o si w se nb hi p_status oe ih mb p_imageStatus x_p)), (ot, .inr (8, oX8 t_bytes x_t))] s.heap.size = A at hD ⊢
  have hA : ∀ q : Nat, s.heap.size ≤ q → A q := fun q h => by rw [← hAe]; exact Or.inr h
  have hS : va_S A s.heap s.heap [] := va_S.rf
  have hP : va_P (dC, dI) vwCl [(op, .inr (10, oX10 ot on dn rd oc d o si w se nb hi p_status oe ih mb p_imageStatus x_p)), (ot, .inr (8, oX8 t_bytes x_t))] s.heap := hP
  have hl := lv_entry ([.ref op, .int p0, .int p1, .int p2, .int p3, .int p4]) (n := 6) (Nat.le_of_ble_eq_true rfl)
  have hla : entryFrame m args0 6 = entryFrame m ([.ref op, .int p0, .int p1, .int p2, .int p3, .int p4] : List Value).toArray 6 := by rw [hargs]
  rw [hla, lg_entry_eq]
  generalize (lg_sl ([.ref op, .int p0, .int p1, .int p2, .int p3, .int p4]) ++ List.replicate (6 - (lg_sl ([.ref op, .int p0, .int p1, .int p2, .int p3, .int p4])).length) Slot.unset).toArray = ls at hl ⊢
  have hl : lv_has ls 6 [(0, .ref op), (1, .int p0), (2, .int p1), (3, .int p2), (4, .int p3), (5, .int p4)] := hl
  refine lv_aload_n hx hb dX10_feed_0 rfl (lv_at hl 0 rfl) ?_
  refine va_get (D := (dC, dI)) (ci := 10) (v := .ref ot) (C := RX10) (T := TX10) (N := 19) hx hb hts hin10 hown hK hP 0 rfl rfl 0 (by decide) hw_0 (fun _ h9 => h9) rfl dX10_feed_1 ?_
  refine lv_bipush (v := 20) hx hb dX10_feed_4 (by decide) ?_
  have hPc := hP.sub (ws' := [(ot, .inr (8, oX8 t_bytes x_t))]) [1] rfl
  have hDc := hD.sub (ws' := [(ot, .inr (8, oX8 t_bytes x_t))]) [1] (by decide) rfl
  have hFc := va_free (wc := [(ot, .inr (8, oX8 t_bytes x_t))]) hD hS hA [1] rfl
  refine va_calli (va_runV (As := [.int 20]) (rest := []) ⟨hx, hb, hml, hown, hts⟩ (s8_hasRoomFor_no l dC dI kB kI kJ kZ kC kS s.heap.size ot t_bytes x_t (hx_t) (hfl)) (cwV 1 hts gX10_feed_X8_hasRoomFor rfl rfl rfl (by decide +kernel) ⟨Nat.le_of_ble_eq_true rfl, Nat.le_of_ble_eq_true rfl⟩) ⟨fun a U g mk q => by obtain ⟨q0, q1, qP, qE, qD⟩ := q; exact ⟨q0, q1, qP, kE_call qE, qD⟩, va_recv hK hP (ci := 8) (q0 := 1) rfl rfl, fun U hU hW => ⟨rfl, by rw [hU], by rw [hU]; exact hPc, kE_warm hW hE, hDc.weaken (fun _ _ _ _ => trivial)⟩⟩ rfl rfl hl.1 rfl (lv_room (Nat.le_of_ble_eq_true rfl)) dX10_feed_6 ⟨Nat.le_of_ble_eq_true rfl, Nat.le_of_ble_eq_true rfl⟩) hS (fun q _ h => hFc q h) hFc (fun r1 u t H1 locs ht hvm w2 hB hz1 hk1 hS => ?_)
  obtain ⟨hP1, hD1⟩ := hB
  rw [ht] at hP1
  try dsimp only at w2
  obtain ⟨hP, hD⟩ := va_join (wr := [(op, .inr (10, oX10 ot on dn rd oc d o si w se nb hi p_status oe ih mb p_imageStatus x_p))]) (w1 := [(ot, .inr (8, oX8 t_bytes x_t))]) hP hD [1] [0] rfl rfl (by decide) (by decide) hk1 hFc hP1 hD1
  generalize H1 = H at hP hS ⊢
  have hP : va_P (dC, dI) vwCl [(op, .inr (10, oX10 ot on dn rd oc d o si w se nb hi p_status oe ih mb p_imageStatus x_p)), (ot, .inr (8, oX8 t_bytes x_t))] H := hP
  have hD : va_D A [(op, .inr (10, oX10 ot on dn rd oc d o si w se nb hi p_status oe ih mb p_imageStatus x_p)), (ot, .inr (8, oX8 t_bytes x_t))] := hD
  refine W.widen (k := 0) (n := 0) (Nat.le_of_ble_eq_true rfl) (Nat.le_of_ble_eq_true rfl) ?_
  obtain rfl : r1 = 0 := iv_one w2 (by decide)
  refine lv_if_ne (tgt := 14) hx hb dX10_feed_9 (by decide) (fun c9 => absurd (by decide) c9) (fun _ => ?_)
  refine lv_iconst (v := (-1)) hx hb dX10_feed_12 (by decide) ?_
  have hP9 := hP.sub (ws' := [(op, .inr (10, oX10 ot on dn rd oc d o si w se nb hi p_status oe ih mb p_imageStatus x_p)), (ot, .inr (8, oX8 t_bytes x_t))]) [0, 1] rfl
  have hD9 := hD.sub (ws' := [(op, .inr (10, oX10 ot on dn rd oc d o si w se nb hi p_status oe ih mb p_imageStatus x_p)), (ot, .inr (8, oX8 t_bytes x_t))]) [0, 1] (by decide) rfl
  exact W.iret (v := (-1)) hx hb hr (fun t ht hW => ⟨⟨(-1), (), rfl, (iv_k (by decide) (by decide) : iv (-1) (-1) (-1)), by rw [ht]; exact hP9, hD9⟩, hS.F ht⟩) hS.2.2 dX10_feed_13
