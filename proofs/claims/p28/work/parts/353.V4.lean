def rm_s3_write_ok : Room := { frames := 0, cells := 0, slots := 0, locals := 0 }
set_option maxHeartbeats 4000000 in
set_option maxRecDepth 100000 in
theorem s3_write_ok (l : Launch) (dC : Nat → ClassId) (dI : Nat → Nat → Nat) (kB kI kJ kZ kC kS : ClassId) (sz : Nat) (nb : Nat) (on : Nat) (w : Nat) (nb_port : Nat) (nb_goal : Nat) (nb_hops : Nat) (nb_address : Nat) (x_nb : Nat → Int32) (f_nb_port : Nat → Int32) (f_nb_goal : Nat → Int32) (f_nb_hops : Nat → Int32) (f_nb_address : Nat → Int32) (p0 : Int32) (p1 : Int32) (p2 : Int32) (p3 : Int32) (hx_nb : fI lX3 hX3 x_nb) (hf_nb_port : fI (fun _ => 0) (fun _ => 31) f_nb_port) (hf_nb_goal : fI (fun _ => 0) (fun _ => 2) f_nb_goal) (hp0 : iv 0 31 p0) (hp1 : iv 0 2 p1) (hfs : iv 0 7 (x_nb 0)) : Met l yX3_write wsX3_write rm_s3_write_ok (va_Pc [.ref nb, .int p0, .int p1, .int p2, .int p3] (fun U => U.heap.size = sz ∧ va_P (dC, dI) vwCl [(nb, .inr (3, oX3 on w nb_port nb_goal nb_hops nb_address x_nb)), (nb_port, .inl (kI, 8, .inl f_nb_port)), (nb_goal, .inl (kI, 8, .inl f_nb_goal)), (nb_hops, .inl (kI, 8, .inl f_nb_hops)), (nb_address, .inl (kI, 8, .inl f_nb_address))] U.heap ∧ kE dC dI kB kI kJ kZ kC kS U ∧ va_D (fun _ => True) [(nb, .inr (3, oX3 on w nb_port nb_goal nb_hops nb_address x_nb)), (nb_port, .inl (kI, 8, .inl f_nb_port)), (nb_goal, .inl (kI, 8, .inl f_nb_goal)), (nb_hops, .inl (kI, 8, .inl f_nb_hops)), (nb_address, .inl (kI, 8, .inl f_nb_address))])) (va_Qv (fun (_ : Unit) => True) (fun _ t => ∃ (x_nb' : Nat → Int32) (f_nb_port' : Nat → Int32) (f_nb_goal' : Nat → Int32) (f_nb_hops' : Nat → Int32) (f_nb_address' : Nat → Int32), fI lX3 hX3 x_nb' ∧ fI (fun _ => 0) (fun _ => 31) f_nb_port' ∧ fI (fun _ => 0) (fun _ => 2) f_nb_goal' ∧ (x_nb' 0 = x_nb 0 + 1) ∧ va_P (dC, dI) vwCl [(nb, .inr (3, oX3 on w nb_port nb_goal nb_hops nb_address x_nb')), (nb_port, .inl (kI, 8, .inl f_nb_port')), (nb_goal, .inl (kI, 8, .inl f_nb_goal')), (nb_hops, .inl (kI, 8, .inl f_nb_hops')), (nb_address, .inl (kI, 8, .inl f_nb_address'))] t.heap ∧ va_D (va_A [(nb, .inr (3, oX3 on w nb_port nb_goal nb_hops nb_address x_nb)), (nb_port, .inl (kI, 8, .inl f_nb_port)), (nb_goal, .inl (kI, 8, .inl f_nb_goal)), (nb_hops, .inl (kI, 8, .inl f_nb_hops)), (nb_address, .inl (kI, 8, .inl f_nb_address))] sz) [(nb, .inr (3, oX3 on w nb_port nb_goal nb_hops nb_address x_nb')), (nb_port, .inl (kI, 8, .inl f_nb_port')), (nb_goal, .inl (kI, 8, .inl f_nb_goal')), (nb_hops, .inl (kI, 8, .inl f_nb_hops')), (nb_address, .inl (kI, 8, .inl f_nb_address'))]) (va_A [(nb, .inr (3, oX3 on w nb_port nb_goal nb_hops nb_address x_nb)), (nb_port, .inl (kI, 8, .inl f_nb_port)), (nb_goal, .inl (kI, 8, .inl f_nb_goal)), (nb_hops, .inl (kI, 8, .inl f_nb_hops)), (nb_address, .inl (kI, 8, .inl f_nb_address))] sz)) 0 0 (va_A [(nb, .inr (3, oX3 on w nb_port nb_goal nb_hops nb_address x_nb)), (nb_port, .inl (kI, 8, .inl f_nb_port)), (nb_goal, .inl (kI, 8, .inl f_nb_goal)), (nb_hops, .inl (kI, 8, .inl f_nb_hops)), (nb_address, .inl (kI, 8, .inl f_nb_address))] sz) := by
  refine Met.ofW (cc := cX3_write) (maxL := 5) (ret := none) (by decide) rfl ?_
  intro p e s m args0 below meth c s₁ B hml hv
  obtain ⟨hargs, hsz, hP, hE, hD0⟩ := hv
  have hx := B.exec
  have hb := B.bytes
  have hr := B.returns
  have hts := atoms_spec (ws := wsX3_write) B.pre
  have hown : s.vm.findClass RX3 = some m.cls := findClass_of_methodNamed B.named
  have hlocks := B.notSynchronized
  have hK := hE.1
  have hin3 : ∀ w ∈ wsX30, w ∈ wsX3_write := fun _ h9 => List.mem_cons_of_mem _ (List.mem_append_right _ h9)
  have hw_0 := hts (.fieldLink RX3 24 "PathProber$Notebook" "size" "I") (List.mem_of_getElem? (i := 1) rfl)
  have hw_1 := hts (.fieldLink RX3 9 "PathProber$Notebook" "port" "[I") (List.mem_of_getElem? (i := 2) rfl)
  have hw_2 := hts (.fieldLink RX3 15 "PathProber$Notebook" "goal" "[I") (List.mem_of_getElem? (i := 3) rfl)
  have hw_3 := hts (.fieldLink RX3 18 "PathProber$Notebook" "hops" "[I") (List.mem_of_getElem? (i := 4) rfl)
  have hw_4 := hts (.fieldLink RX3 21 "PathProber$Notebook" "address" "[I") (List.mem_of_getElem? (i := 5) rfl)
  subst hsz
  have hD := hD0.self (sz := s.heap.size)
  generalize hAe : va_A [(nb, .inr (3, oX3 on w nb_port nb_goal nb_hops nb_address x_nb)), (nb_port, .inl (kI, 8, .inl f_nb_port)), (nb_goal, .inl (kI, 8, .inl f_nb_goal)), (nb_hops, .inl (kI, 8, .inl f_nb_hops)), (nb_address, .inl (kI, 8, .inl f_nb_address))] s.heap.size = A at hD ⊢
  have hA : ∀ q : Nat, s.heap.size ≤ q → A q := fun q h => by rw [← hAe]; exact Or.inr h
  have hS : va_S A s.heap s.heap [] := va_S.rf
  have hP : va_P (dC, dI) vwCl [(nb, .inr (3, oX3 on w nb_port nb_goal nb_hops nb_address x_nb)), (nb_port, .inl (kI, 8, .inl f_nb_port)), (nb_goal, .inl (kI, 8, .inl f_nb_goal)), (nb_hops, .inl (kI, 8, .inl f_nb_hops)), (nb_address, .inl (kI, 8, .inl f_nb_address))] s.heap := hP
  have hl := lv_entry ([.ref nb, .int p0, .int p1, .int p2, .int p3]) (n := 5) (Nat.le_of_ble_eq_true rfl)
  have hla : entryFrame m args0 5 = entryFrame m ([.ref nb, .int p0, .int p1, .int p2, .int p3] : List Value).toArray 5 := by rw [hargs]
  rw [hla, lg_entry_eq]
  generalize (lg_sl ([.ref nb, .int p0, .int p1, .int p2, .int p3]) ++ List.replicate (5 - (lg_sl ([.ref nb, .int p0, .int p1, .int p2, .int p3])).length) Slot.unset).toArray = ls at hl ⊢
  have hl : lv_has ls 5 [(0, .ref nb), (1, .int p0), (2, .int p1), (3, .int p2), (4, .int p3)] := hl
  refine lv_aload_n hx hb dX3_write_0 rfl (lv_at hl 0 rfl) ?_
  refine va_get (D := (dC, dI)) (ci := 3) (v := .int (x_nb 0)) (C := RX3) (T := TX3) (N := 9) hx hb hts hin3 hown hK hP 0 rfl rfl 6 (Nat.le_of_ble_eq_true rfl) hw_0 (fun _ h9 => h9) rfl dX3_write_1 ?_
  refine lv_bipush (v := 8) hx hb dX3_write_4 bp_8 ?_
  refine lv_icmp_lt (tgt := 10) hx hb dX3_write_6 rfl (fun _ => ?_) (fun c9 => absurd (iv_lt hfs ivk_8 (by decide)) c9)
  refine lv_aload_n hx hb dX3_write_10 rfl (lv_at hl 0 rfl) ?_
  refine va_get (D := (dC, dI)) (ci := 3) (v := .ref nb_port) (C := RX3) (T := TX3) (N := 9) hx hb hts hin3 hown hK hP 0 rfl rfl 2 (Nat.le_of_ble_eq_true rfl) hw_1 (fun _ h9 => h9) rfl dX3_write_11 ?_
  refine lv_aload_n hx hb dX3_write_14 rfl (lv_at hl 0 rfl) ?_
  refine va_get (D := (dC, dI)) (ci := 3) (v := .int (x_nb 0)) (C := RX3) (T := TX3) (N := 9) hx hb hts hin3 hown hK hP 0 rfl rfl 6 (Nat.le_of_ble_eq_true rfl) hw_0 (fun _ h9 => h9) rfl dX3_write_15 ?_
  refine lv_iload_n hx hb dX3_write_18 rfl (lv_at hl 1 rfl) ?_
  refine va_iast hx hb hK hP hD hS 1 1 rfl rfl (iv_in hfs (by decide) (by decide)) dX3_write_19 (fun H locs hPa hDa hS => ?_)
  clear hP hD
  have hP : va_P (dC, dI) vwCl [(nb, .inr (3, oX3 on w nb_port nb_goal nb_hops nb_address x_nb)), (nb_port, .inl (kI, 8, .inl (upd f_nb_port (x_nb 0).toNatClampNeg p0))), (nb_goal, .inl (kI, 8, .inl f_nb_goal)), (nb_hops, .inl (kI, 8, .inl f_nb_hops)), (nb_address, .inl (kI, 8, .inl f_nb_address))] H := hPa
  have hD : va_D A [(nb, .inr (3, oX3 on w nb_port nb_goal nb_hops nb_address x_nb)), (nb_port, .inl (kI, 8, .inl (upd f_nb_port (x_nb 0).toNatClampNeg p0))), (nb_goal, .inl (kI, 8, .inl f_nb_goal)), (nb_hops, .inl (kI, 8, .inl f_nb_hops)), (nb_address, .inl (kI, 8, .inl f_nb_address))] := hDa
  clear hPa hDa
  have hf2 : fI (fun _ => 0) (fun _ => 31) (upd f_nb_port (x_nb 0).toNatClampNeg p0) := fI_u hf_nb_port (k := (x_nb 0).toNatClampNeg) (hp0)
  generalize (upd f_nb_port (x_nb 0).toNatClampNeg p0) = f1 at hP hD hf2
  refine lv_aload_n hx hb dX3_write_20 rfl (lv_at hl 0 rfl) ?_
  refine va_get (D := (dC, dI)) (ci := 3) (v := .ref nb_goal) (C := RX3) (T := TX3) (N := 9) hx hb hts hin3 hown hK hP 0 rfl rfl 3 (Nat.le_of_ble_eq_true rfl) hw_2 (fun _ h9 => h9) rfl dX3_write_21 ?_
  refine lv_aload_n hx hb dX3_write_24 rfl (lv_at hl 0 rfl) ?_
  refine va_get (D := (dC, dI)) (ci := 3) (v := .int (x_nb 0)) (C := RX3) (T := TX3) (N := 9) hx hb hts hin3 hown hK hP 0 rfl rfl 6 (Nat.le_of_ble_eq_true rfl) hw_0 (fun _ h9 => h9) rfl dX3_write_25 ?_
  refine lv_iload_n hx hb dX3_write_28 rfl (lv_at hl 2 rfl) ?_
  refine va_iast hx hb hK hP hD hS 2 1 rfl rfl (iv_in hfs (by decide) (by decide)) dX3_write_29 (fun H locs hPa hDa hS => ?_)
  clear hP hD
  have hP : va_P (dC, dI) vwCl [(nb, .inr (3, oX3 on w nb_port nb_goal nb_hops nb_address x_nb)), (nb_port, .inl (kI, 8, .inl f1)), (nb_goal, .inl (kI, 8, .inl (upd f_nb_goal (x_nb 0).toNatClampNeg p1))), (nb_hops, .inl (kI, 8, .inl f_nb_hops)), (nb_address, .inl (kI, 8, .inl f_nb_address))] H := hPa
  have hD : va_D A [(nb, .inr (3, oX3 on w nb_port nb_goal nb_hops nb_address x_nb)), (nb_port, .inl (kI, 8, .inl f1)), (nb_goal, .inl (kI, 8, .inl (upd f_nb_goal (x_nb 0).toNatClampNeg p1))), (nb_hops, .inl (kI, 8, .inl f_nb_hops)), (nb_address, .inl (kI, 8, .inl f_nb_address))] := hDa
  clear hPa hDa
  have hf4 : fI (fun _ => 0) (fun _ => 2) (upd f_nb_goal (x_nb 0).toNatClampNeg p1) := fI_u hf_nb_goal (k := (x_nb 0).toNatClampNeg) (hp1)
  generalize (upd f_nb_goal (x_nb 0).toNatClampNeg p1) = f3 at hP hD hf4
  refine lv_aload_n hx hb dX3_write_30 rfl (lv_at hl 0 rfl) ?_
  refine va_get (D := (dC, dI)) (ci := 3) (v := .ref nb_hops) (C := RX3) (T := TX3) (N := 9) hx hb hts hin3 hown hK hP 0 rfl rfl 4 (Nat.le_of_ble_eq_true rfl) hw_3 (fun _ h9 => h9) rfl dX3_write_31 ?_
  refine lv_aload_n hx hb dX3_write_34 rfl (lv_at hl 0 rfl) ?_
  refine va_get (D := (dC, dI)) (ci := 3) (v := .int (x_nb 0)) (C := RX3) (T := TX3) (N := 9) hx hb hts hin3 hown hK hP 0 rfl rfl 6 (Nat.le_of_ble_eq_true rfl) hw_0 (fun _ h9 => h9) rfl dX3_write_35 ?_
  refine lv_iload_n hx hb dX3_write_38 rfl (lv_at hl 3 rfl) ?_
  refine va_iast hx hb hK hP hD hS 3 1 rfl rfl (iv_in hfs (by decide) (by decide)) dX3_write_39 (fun H locs hPa hDa hS => ?_)
  clear hP hD
  have hP : va_P (dC, dI) vwCl [(nb, .inr (3, oX3 on w nb_port nb_goal nb_hops nb_address x_nb)), (nb_port, .inl (kI, 8, .inl f1)), (nb_goal, .inl (kI, 8, .inl f3)), (nb_hops, .inl (kI, 8, .inl (upd f_nb_hops (x_nb 0).toNatClampNeg p2))), (nb_address, .inl (kI, 8, .inl f_nb_address))] H := hPa
  have hD : va_D A [(nb, .inr (3, oX3 on w nb_port nb_goal nb_hops nb_address x_nb)), (nb_port, .inl (kI, 8, .inl f1)), (nb_goal, .inl (kI, 8, .inl f3)), (nb_hops, .inl (kI, 8, .inl (upd f_nb_hops (x_nb 0).toNatClampNeg p2))), (nb_address, .inl (kI, 8, .inl f_nb_address))] := hDa
  clear hPa hDa
  generalize (upd f_nb_hops (x_nb 0).toNatClampNeg p2) = f5 at hP hD
  refine lv_aload_n hx hb dX3_write_40 rfl (lv_at hl 0 rfl) ?_
  refine va_get (D := (dC, dI)) (ci := 3) (v := .ref nb_address) (C := RX3) (T := TX3) (N := 9) hx hb hts hin3 hown hK hP 0 rfl rfl 5 (Nat.le_of_ble_eq_true rfl) hw_4 (fun _ h9 => h9) rfl dX3_write_41 ?_
  refine lv_aload_n hx hb dX3_write_44 rfl (lv_at hl 0 rfl) ?_
  refine va_get (D := (dC, dI)) (ci := 3) (v := .int (x_nb 0)) (C := RX3) (T := TX3) (N := 9) hx hb hts hin3 hown hK hP 0 rfl rfl 6 (Nat.le_of_ble_eq_true rfl) hw_0 (fun _ h9 => h9) rfl dX3_write_45 ?_
  refine lv_iload hx hb dX3_write_48 (lv_at hl 4 rfl) ?_
  refine va_iast hx hb hK hP hD hS 4 1 rfl rfl (iv_in hfs (by decide) (by decide)) dX3_write_50 (fun H locs hPa hDa hS => ?_)
  clear hP hD
  have hP : va_P (dC, dI) vwCl [(nb, .inr (3, oX3 on w nb_port nb_goal nb_hops nb_address x_nb)), (nb_port, .inl (kI, 8, .inl f1)), (nb_goal, .inl (kI, 8, .inl f3)), (nb_hops, .inl (kI, 8, .inl f5)), (nb_address, .inl (kI, 8, .inl (upd f_nb_address (x_nb 0).toNatClampNeg p3)))] H := hPa
  have hD : va_D A [(nb, .inr (3, oX3 on w nb_port nb_goal nb_hops nb_address x_nb)), (nb_port, .inl (kI, 8, .inl f1)), (nb_goal, .inl (kI, 8, .inl f3)), (nb_hops, .inl (kI, 8, .inl f5)), (nb_address, .inl (kI, 8, .inl (upd f_nb_address (x_nb 0).toNatClampNeg p3)))] := hDa
  clear hPa hDa
  generalize (upd f_nb_address (x_nb 0).toNatClampNeg p3) = f6 at hP hD
  refine lv_aload_n hx hb dX3_write_51 rfl (lv_at hl 0 rfl) ?_
  refine lv_dup hx hb dX3_write_52 rfl ?_
  refine va_get (D := (dC, dI)) (ci := 3) (v := .int (x_nb 0)) (C := RX3) (T := TX3) (N := 9) hx hb hts hin3 hown hK hP 0 rfl rfl 6 (Nat.le_of_ble_eq_true rfl) hw_0 (fun _ h9 => h9) rfl dX3_write_53 ?_
  refine lv_iconst (v := 1) hx hb dX3_write_56 ic_1 ?_
  refine lv_iadd hx hb dX3_write_57 ?_
  have b7 : iv 1 8 ((x_nb 0) + 1) := iv_add hfs ivk_1 (by decide) (by decide) (by decide) (by decide)
  refine va_put (D := (dC, dI)) (ci := 3) (v := .int ((x_nb 0) + 1)) (ty := .int) (C := RX3) (T := TX3) (N := 9) hx hb hts hin3 tyX3 tyX3_ok nmX3 hown hK hP hD hS 0 rfl rfl 6 (by decide) hw_0 (fun _ h9 => h9) rfl (by decide +kernel) rfl rfl (Nat.le_of_ble_eq_true rfl) dX3_write_58 (fun H locs hPa hDa hS => ?_)
  clear hP hD
  have hP : va_P (dC, dI) vwCl [(nb, .inr (3, oX3 on w nb_port nb_goal nb_hops nb_address (upd x_nb 0 ((x_nb 0) + 1)))), (nb_port, .inl (kI, 8, .inl f1)), (nb_goal, .inl (kI, 8, .inl f3)), (nb_hops, .inl (kI, 8, .inl f5)), (nb_address, .inl (kI, 8, .inl f6))] H := hPa
  have hD : va_D A [(nb, .inr (3, oX3 on w nb_port nb_goal nb_hops nb_address (upd x_nb 0 ((x_nb 0) + 1)))), (nb_port, .inl (kI, 8, .inl f1)), (nb_goal, .inl (kI, 8, .inl f3)), (nb_hops, .inl (kI, 8, .inl f5)), (nb_address, .inl (kI, 8, .inl f6))] := hDa
  clear hPa hDa
  have hP9 := hP
  have hD9 := hD
  exact W.vret hx hb hr (fun t ht hW => ⟨⟨(), rfl, trivial, upd x_nb 0 ((x_nb 0) + 1), f1, f3, f5, f6, (fI_u hx_nb (k := 0) ((iv_w b7 (by decide) (by decide)))), hf2, hf4, (show (x_nb 0) + 1 = x_nb 0 + 1 from rfl), by rw [ht]; exact hP9, hD9⟩, hS.F ht⟩) hS.2.2 dX3_write_61
def rm_s10_note_full : Room := { frames := 1, cells := 0, slots := 0, locals := 21 }
set_option maxHeartbeats 4000000 in
set_option maxRecDepth 100000 in
theorem s10_note_full (l : Launch) (dC : Nat → ClassId) (dI : Nat → Nat → Nat) (kB kI kJ kZ kC kS : ClassId) (sz : Nat) (op : Nat) (ot : Nat) (on : Nat) (dn : Nat) (rd : Nat) (oc : Nat) (d : Nat) (o : Nat) (si : Nat) (w : Nat) (se : Nat) (nb : Nat) (hi : Nat) (p_status : Nat) (oe : Nat) (ih : Nat) (mb : Nat) (p_imageStatus : Nat) (x_p : Nat → Int32) (f_p_status : Nat → Int32) (n_kind : Nat) (n_salt : Nat) (n_pace : Nat) (n_manner : Nat) (n_from : Nat) (n_to : Nat) (n_goal : Nat) (n_reach : Nat) (n_branches : Nat) (n_branch : Nat) (n_tally : Nat) (x_n : Nat → Int32) (nb_port : Nat) (nb_goal : Nat) (nb_hops : Nat) (nb_address : Nat) (x_nb : Nat → Int32) (p0 : Int32) (p1 : Int32) (p2 : Int32) (p3 : Int32) (hx_n : fI lX2 hX2 x_n) (hx_nb : fI lX3 hX3 x_nb) (hfs : iv 8 8 (x_nb 0)) : Met l yX10_note wsX10_note rm_s10_note_full (va_Pc [.ref op, .int p0, .int p1, .int p2, .int p3] (fun U => U.heap.size = sz ∧ va_P (dC, dI) vwCl [(op, .inr (10, oX10 ot on dn rd oc d o si w se nb hi p_status oe ih mb p_imageStatus x_p)), (p_status, .inl (kI, 3, .inl f_p_status)), (on, .inr (2, oX2 n_kind n_salt n_pace n_manner n_from n_to n_goal n_reach n_branches n_branch n_tally x_n)), (nb, .inr (3, oX3 on w nb_port nb_goal nb_hops nb_address x_nb))] U.heap ∧ kE dC dI kB kI kJ kZ kC kS U ∧ va_D (fun _ => True) [(op, .inr (10, oX10 ot on dn rd oc d o si w se nb hi p_status oe ih mb p_imageStatus x_p)), (p_status, .inl (kI, 3, .inl f_p_status)), (on, .inr (2, oX2 n_kind n_salt n_pace n_manner n_from n_to n_goal n_reach n_branches n_branch n_tally x_n)), (nb, .inr (3, oX3 on w nb_port nb_goal nb_hops nb_address x_nb))])) (va_Qi (fun (r : Int32) (_ : Unit) => iv (-1) (-1) r) (fun _ t => ∃ (f_p_status' : Nat → Int32), va_P (dC, dI) vwCl [(op, .inr (10, oX10 ot on dn rd oc d o si w se nb hi p_status oe ih mb p_imageStatus x_p)), (p_status, .inl (kI, 3, .inl f_p_status')), (on, .inr (2, oX2 n_kind n_salt n_pace n_manner n_from n_to n_goal n_reach n_branches n_branch n_tally x_n)), (nb, .inr (3, oX3 on w nb_port nb_goal nb_hops nb_address x_nb))] t.heap ∧ va_D (va_A [(op, .inr (10, oX10 ot on dn rd oc d o si w se nb hi p_status oe ih mb p_imageStatus x_p)), (p_status, .inl (kI, 3, .inl f_p_status)), (on, .inr (2, oX2 n_kind n_salt n_pace n_manner n_from n_to n_goal n_reach n_branches n_branch n_tally x_n)), (nb, .inr (3, oX3 on w nb_port nb_goal nb_hops nb_address x_nb))] sz) [(op, .inr (10, oX10 ot on dn rd oc d o si w se nb hi p_status oe ih mb p_imageStatus x_p)), (p_status, .inl (kI, 3, .inl f_p_status')), (on, .inr (2, oX2 n_kind n_salt n_pace n_manner n_from n_to n_goal n_reach n_branches n_branch n_tally x_n)), (nb, .inr (3, oX3 on w nb_port nb_goal nb_hops nb_address x_nb))]) (va_A [(op, .inr (10, oX10 ot on dn rd oc d o si w se nb hi p_status oe ih mb p_imageStatus x_p)), (p_status, .inl (kI, 3, .inl f_p_status)), (on, .inr (2, oX2 n_kind n_salt n_pace n_manner n_from n_to n_goal n_reach n_branches n_branch n_tally x_n)), (nb, .inr (3, oX3 on w nb_port nb_goal nb_hops nb_address x_nb))] sz)) 0 0 (va_A [(op, .inr (10, oX10 ot on dn rd oc d o si w se nb hi p_status oe ih mb p_imageStatus x_p)), (p_status, .inl (kI, 3, .inl f_p_status)), (on, .inr (2, oX2 n_kind n_salt n_pace n_manner n_from n_to n_goal n_reach n_branches n_branch n_tally x_n)), (nb, .inr (3, oX3 on w nb_port nb_goal nb_hops nb_address x_nb))] sz) := by
  refine Met.ofW (cc := cX10_note) (maxL := 6) (ret := (some .int)) (by decide) rfl ?_
  intro p e s m args0 below meth c s₁ B hml hv
  obtain ⟨hargs, hsz, hP, hE, hD0⟩ := hv
  have hx := B.exec
  have hb := B.bytes
  have hr := B.returns
  have hts := atoms_spec (ws := wsX10_note) B.pre
  have hown : s.vm.findClass RX10 = some m.cls := findClass_of_methodNamed B.named
  have hlocks := B.notSynchronized
  have hK := hE.1
  have hin10 : ∀ w ∈ wsX100, w ∈ wsX10_note := fun _ h9 => List.mem_cons_of_mem _ (List.mem_append_left _ (List.mem_append_left _ (List.mem_append_right _ h9)))
  have hin3 : ∀ w ∈ wsX30, w ∈ wsX10_note := fun _ h9 => List.mem_cons_of_mem _ (List.mem_append_left _ (List.mem_append_right _ h9))
  have hin2 : ∀ w ∈ wsX20, w ∈ wsX10_note := fun _ h9 => List.mem_cons_of_mem _ (List.mem_append_right _ h9)
  have hw_0 := hts (.fieldLink RX10 93 "PathProber" "status" "[I") (List.mem_of_getElem? (i := 4) rfl)
  have hw_1 := hts (.fieldLink RX10 19 "PathProber" "told" "LPathProber$Net;") (List.mem_of_getElem? (i := 1) rfl)
  have hw_2 := hts (.fieldLink RX10 82 "PathProber" "notebook" "LPathProber$Notebook;") (List.mem_of_getElem? (i := 2) rfl)
  have hw_3 := hts (.fieldLink RX10 158 "PathProber$Notebook" "size" "I") (List.mem_of_getElem? (i := 3) rfl)
  subst hsz
  have hD := hD0.self (sz := s.heap.size)
  generalize hAe : va_A [(op, .inr (10, oX10 ot on dn rd oc d o si w se nb hi p_status oe ih mb p_imageStatus x_p)), (p_status, .inl (kI, 3, .inl f_p_status)), (on, .inr (2, oX2 n_kind n_salt n_pace n_manner n_from n_to n_goal n_reach n_branches n_branch n_tally x_n)), (nb, .inr (3, oX3 on w nb_port nb_goal nb_hops nb_address x_nb))] s.heap.size = A at hD ⊢
  have hA : ∀ q : Nat, s.heap.size ≤ q → A q := fun q h => by rw [← hAe]; exact Or.inr h
  have hS : va_S A s.heap s.heap [] := va_S.rf
  have hP : va_P (dC, dI) vwCl [(op, .inr (10, oX10 ot on dn rd oc d o si w se nb hi p_status oe ih mb p_imageStatus x_p)), (p_status, .inl (kI, 3, .inl f_p_status)), (on, .inr (2, oX2 n_kind n_salt n_pace n_manner n_from n_to n_goal n_reach n_branches n_branch n_tally x_n)), (nb, .inr (3, oX3 on w nb_port nb_goal nb_hops nb_address x_nb))] s.heap := hP
  have hl := lv_entry ([.ref op, .int p0, .int p1, .int p2, .int p3]) (n := 6) (Nat.le_of_ble_eq_true rfl)
  have hla : entryFrame m args0 6 = entryFrame m ([.ref op, .int p0, .int p1, .int p2, .int p3] : List Value).toArray 6 := by rw [hargs]
  rw [hla, lg_entry_eq]
  generalize (lg_sl ([.ref op, .int p0, .int p1, .int p2, .int p3]) ++ List.replicate (6 - (lg_sl ([.ref op, .int p0, .int p1, .int p2, .int p3])).length) Slot.unset).toArray = ls at hl ⊢
  have hl : lv_has ls 6 [(0, .ref op), (1, .int p0), (2, .int p1), (3, .int p2), (4, .int p3)] := hl
  refine lv_iload_n hx hb dX10_note_0 rfl (lv_at hl 1 rfl) ?_
  obtain ⟨hPc, hDc, hFc, hJn⟩ := cl_a (wc := []) (wr := [(op, .inr (10, oX10 ot on dn rd oc d o si w se nb hi p_status oe ih mb p_imageStatus x_p)), (p_status, .inl (kI, 3, .inl f_p_status)), (on, .inr (2, oX2 n_kind n_salt n_pace n_manner n_from n_to n_goal n_reach n_branches n_branch n_tally x_n)), (nb, .inr (3, oX3 on w nb_port nb_goal nb_hops nb_address x_nb))]) hP hD hS hA [] [0, 1, 2, 3] rfl rfl (by decide +kernel)
  refine va_calli (va_runS (As := [.int p0]) (rest := []) ⟨hx, hb, hml, hown, hts⟩ (s10_isPort l dC dI kB kI kJ kZ kC kS s.heap.size p0) (va_cwS 1 hts gX10_note_X10_isPort rfl rfl rfl (by decide +kernel) ⟨Nat.le_of_ble_eq_true rfl, Nat.le_of_ble_eq_true rfl⟩) ⟨fun a U g mk q => by obtain ⟨q0, q1, qP, qE, qD⟩ := q; exact ⟨q0, q1, qP, kE_call qE, qD⟩, fun U hU hW => ⟨rfl, by rw [hU], by rw [hU]; exact hPc, kE_warm hW hE, hDc.weaken (fun _ _ _ _ => trivial)⟩⟩ rfl rfl hl.1 rfl (lv_room (Nat.le_of_ble_eq_true rfl)) dX10_note_1 ⟨Nat.le_of_ble_eq_true rfl, Nat.le_of_ble_eq_true rfl⟩) hS (fun q _ h => hFc q h) hFc (fun r1 u t H locs ht hvm w2 hB hz1 hk1 hS => ?_)
  obtain ⟨hP1, hD1⟩ := hB
  try dsimp only at w2
  obtain ⟨hPa, hDa⟩ := hJn (w1 := []) hk1 ht hP1 hD1
  clear hP hD hPc hDc hFc hJn hP1 hD1 hk1
  have hP : va_P (dC, dI) vwCl [(op, .inr (10, oX10 ot on dn rd oc d o si w se nb hi p_status oe ih mb p_imageStatus x_p)), (p_status, .inl (kI, 3, .inl f_p_status)), (on, .inr (2, oX2 n_kind n_salt n_pace n_manner n_from n_to n_goal n_reach n_branches n_branch n_tally x_n)), (nb, .inr (3, oX3 on w nb_port nb_goal nb_hops nb_address x_nb))] H := hPa
  have hD : va_D A [(op, .inr (10, oX10 ot on dn rd oc d o si w se nb hi p_status oe ih mb p_imageStatus x_p)), (p_status, .inl (kI, 3, .inl f_p_status)), (on, .inr (2, oX2 n_kind n_salt n_pace n_manner n_from n_to n_goal n_reach n_branches n_branch n_tally x_n)), (nb, .inr (3, oX3 on w nb_port nb_goal nb_hops nb_address x_nb))] := hDa
  clear hPa hDa
  refine W.widen (k := 0) (n := 0) (Nat.le_of_ble_eq_true rfl) (Nat.le_of_ble_eq_true rfl) ?_
  refine lv_if_eq (tgt := 41) hx hb dX10_note_4 rfl (fun c3 => ?_) (fun c3 => ?_)
  · have b4 : iv 0 0 r1 := iv_eqL c3 ivk_0
    refine lv_iconst (v := 0) hx hb dX10_note_41 ic_0 ?_
    refine lv_istore (lv' := [(5, .int 0), (0, .ref op), (1, .int p0), (2, .int p1), (3, .int p2), (4, .int p3)]) hx hb dX10_note_42 hl (Nat.le_of_ble_eq_true rfl) rfl (fun ls hl => ?_)
    refine lv_iload hx hb dX10_note_44 (lv_at hl 0 rfl) ?_
    refine lv_if_eq (tgt := 61) hx hb dX10_note_46 rfl (fun _ => ?_) (fun c9 => absurd (by decide) c9)
    refine lv_aload_n hx hb dX10_note_61 rfl (lv_at hl 1 rfl) ?_
    refine va_get (D := (dC, dI)) (ci := 10) (v := .ref p_status) (C := RX10) (T := TX10) (N := 19) hx hb hts hin10 hown hK hP 0 rfl rfl 12 (Nat.le_of_ble_eq_true rfl) hw_0 (fun _ h9 => h9) rfl dX10_note_62 ?_
    refine lv_iconst (v := 2) hx hb dX10_note_65 ic_2 ?_
    refine lv_dup2_11 hx hb dX10_note_66 rfl rfl ?_
    refine va_iald hx hb hK hP 1 1 rfl rfl (vp_in_nI (n := 2) (by decide) (by decide)) dX10_note_67 ?_
    refine W.eq (g2 := F0 m 68 ls [.int (f_p_status 2), .int 2, .ref p_status]) rfl ?_
    refine lv_iconst (v := 1) hx hb dX10_note_68 ic_1 ?_
    refine lv_iadd hx hb dX10_note_69 ?_
    refine lv_topi (fun z5 _ => ?_)
    refine va_iast hx hb hK hP hD hS 1 1 rfl rfl (vp_in_nI (n := 2) (by decide) (by decide)) dX10_note_70 (fun H locs hPa hDa hS => ?_)
    clear hP hD
    have hP : va_P (dC, dI) vwCl [(op, .inr (10, oX10 ot on dn rd oc d o si w se nb hi p_status oe ih mb p_imageStatus x_p)), (p_status, .inl (kI, 3, .inl (upd f_p_status 2 z5))), (on, .inr (2, oX2 n_kind n_salt n_pace n_manner n_from n_to n_goal n_reach n_branches n_branch n_tally x_n)), (nb, .inr (3, oX3 on w nb_port nb_goal nb_hops nb_address x_nb))] H := hPa
    have hD : va_D A [(op, .inr (10, oX10 ot on dn rd oc d o si w se nb hi p_status oe ih mb p_imageStatus x_p)), (p_status, .inl (kI, 3, .inl (upd f_p_status 2 z5))), (on, .inr (2, oX2 n_kind n_salt n_pace n_manner n_from n_to n_goal n_reach n_branches n_branch n_tally x_n)), (nb, .inr (3, oX3 on w nb_port nb_goal nb_hops nb_address x_nb))] := hDa
    clear hPa hDa
    generalize (upd f_p_status 2 z5) = f6 at hP hD
    refine lv_iconst (v := (-1)) hx hb dX10_note_71 ic_m1 ?_
    have hP9 := hP
    have hD9 := hD
    exact W.iret (v := (-1)) hx hb hr (fun t ht hW => ⟨⟨(-1), (), rfl, ivk_m1, f6, by rw [ht]; exact hP9, hD9⟩, hS.F ht⟩) hS.2.2 dX10_note_72
  · have b7 : iv 1 1 r1 := iv_neLo c3 w2.1 ivk_0 (by decide) (by decide)
    have b8 : iv 0 31 p0 := (w2.2).resolve_left (iv_ne b7 ivk_0 (by decide))
    refine lv_aload_n hx hb dX10_note_7 rfl (lv_at hl 0 rfl) ?_
    refine va_get (D := (dC, dI)) (ci := 10) (v := .ref on) (C := RX10) (T := TX10) (N := 19) hx hb hts hin10 hown hK hP 0 rfl rfl 1 (Nat.le_of_ble_eq_true rfl) hw_1 (fun _ h9 => h9) rfl dX10_note_8 ?_
    refine lv_iload_n hx hb dX10_note_11 rfl (lv_at hl 2 rfl) ?_
    obtain ⟨hPc, hDc, hFc, hJn⟩ := cl_a (wc := [(on, .inr (2, oX2 n_kind n_salt n_pace n_manner n_from n_to n_goal n_reach n_branches n_branch n_tally x_n))]) (wr := [(op, .inr (10, oX10 ot on dn rd oc d o si w se nb hi p_status oe ih mb p_imageStatus x_p)), (p_status, .inl (kI, 3, .inl f_p_status)), (nb, .inr (3, oX3 on w nb_port nb_goal nb_hops nb_address x_nb))]) hP hD hS hA [2] [0, 1, 3] rfl rfl (by decide +kernel)
    refine va_calli (va_runV (As := [.int p1]) (rest := []) ⟨hx, hb, hml, hown, hts⟩ (s2_hasGoal l dC dI kB kI kJ kZ kC kS H.size on n_kind n_salt n_pace n_manner n_from n_to n_goal n_reach n_branches n_branch n_tally x_n p1 (hx_n)) (cwV 1 hts gX10_note_X2_hasGoal rfl rfl rfl (by decide +kernel) ⟨Nat.le_of_ble_eq_true rfl, Nat.le_of_ble_eq_true rfl⟩) ⟨fun a U g mk q => by obtain ⟨q0, q1, qP, qE, qD⟩ := q; exact ⟨q0, q1, qP, kE_call qE, qD⟩, va_recv hK hP (ci := 2) (q0 := 2) rfl rfl, fun U hU hW => ⟨rfl, by rw [hU], by rw [hU]; exact hPc, kE_warm hW hE, hDc.weaken (fun _ _ _ _ => trivial)⟩⟩ rfl rfl hl.1 rfl (lv_room (Nat.le_of_ble_eq_true rfl)) dX10_note_12 ⟨Nat.le_of_ble_eq_true rfl, Nat.le_of_ble_eq_true rfl⟩) hS (fun q _ h => hFc q h) hFc (fun r9 u t H locs ht hvm w10 hB hz1 hk1 hS => ?_)
    obtain ⟨hP1, hD1⟩ := hB
    try dsimp only at w10
    obtain ⟨hPa, hDa⟩ := hJn (w1 := [(on, .inr (2, oX2 n_kind n_salt n_pace n_manner n_from n_to n_goal n_reach n_branches n_branch n_tally x_n))]) hk1 ht hP1 hD1
    clear hP hD hPc hDc hFc hJn hP1 hD1 hk1
    have hP : va_P (dC, dI) vwCl [(op, .inr (10, oX10 ot on dn rd oc d o si w se nb hi p_status oe ih mb p_imageStatus x_p)), (p_status, .inl (kI, 3, .inl f_p_status)), (nb, .inr (3, oX3 on w nb_port nb_goal nb_hops nb_address x_nb)), (on, .inr (2, oX2 n_kind n_salt n_pace n_manner n_from n_to n_goal n_reach n_branches n_branch n_tally x_n))] H := hPa
    have hD : va_D A [(op, .inr (10, oX10 ot on dn rd oc d o si w se nb hi p_status oe ih mb p_imageStatus x_p)), (p_status, .inl (kI, 3, .inl f_p_status)), (nb, .inr (3, oX3 on w nb_port nb_goal nb_hops nb_address x_nb)), (on, .inr (2, oX2 n_kind n_salt n_pace n_manner n_from n_to n_goal n_reach n_branches n_branch n_tally x_n))] := hDa
    clear hPa hDa
    refine W.widen (k := 0) (n := 0) (Nat.le_of_ble_eq_true rfl) (Nat.le_of_ble_eq_true rfl) ?_
    refine lv_if_eq (tgt := 41) hx hb dX10_note_15 rfl (fun c11 => ?_) (fun c11 => ?_)
    · have b12 : iv 0 0 r9 := iv_eqL c11 ivk_0
      refine lv_iconst (v := 0) hx hb dX10_note_41 ic_0 ?_
      refine lv_istore (lv' := [(5, .int 0), (0, .ref op), (1, .int p0), (2, .int p1), (3, .int p2), (4, .int p3)]) hx hb dX10_note_42 hl (Nat.le_of_ble_eq_true rfl) rfl (fun ls hl => ?_)
      refine lv_iload hx hb dX10_note_44 (lv_at hl 0 rfl) ?_
      refine lv_if_eq (tgt := 61) hx hb dX10_note_46 rfl (fun _ => ?_) (fun c9 => absurd (by decide) c9)
      refine lv_aload_n hx hb dX10_note_61 rfl (lv_at hl 1 rfl) ?_
      refine va_get (D := (dC, dI)) (ci := 10) (v := .ref p_status) (C := RX10) (T := TX10) (N := 19) hx hb hts hin10 hown hK hP 0 rfl rfl 12 (Nat.le_of_ble_eq_true rfl) hw_0 (fun _ h9 => h9) rfl dX10_note_62 ?_
      refine lv_iconst (v := 2) hx hb dX10_note_65 ic_2 ?_
      refine lv_dup2_11 hx hb dX10_note_66 rfl rfl ?_
      refine va_iald hx hb hK hP 1 1 rfl rfl (vp_in_nI (n := 2) (by decide) (by decide)) dX10_note_67 ?_
      refine W.eq (g2 := F0 m 68 ls [.int (f_p_status 2), .int 2, .ref p_status]) rfl ?_
      refine lv_iconst (v := 1) hx hb dX10_note_68 ic_1 ?_
      refine lv_iadd hx hb dX10_note_69 ?_
      refine lv_topi (fun z13 _ => ?_)
      refine va_iast hx hb hK hP hD hS 1 1 rfl rfl (vp_in_nI (n := 2) (by decide) (by decide)) dX10_note_70 (fun H locs hPa hDa hS => ?_)
      clear hP hD
      have hP : va_P (dC, dI) vwCl [(op, .inr (10, oX10 ot on dn rd oc d o si w se nb hi p_status oe ih mb p_imageStatus x_p)), (p_status, .inl (kI, 3, .inl (upd f_p_status 2 z13))), (nb, .inr (3, oX3 on w nb_port nb_goal nb_hops nb_address x_nb)), (on, .inr (2, oX2 n_kind n_salt n_pace n_manner n_from n_to n_goal n_reach n_branches n_branch n_tally x_n))] H := hPa
      have hD : va_D A [(op, .inr (10, oX10 ot on dn rd oc d o si w se nb hi p_status oe ih mb p_imageStatus x_p)), (p_status, .inl (kI, 3, .inl (upd f_p_status 2 z13))), (nb, .inr (3, oX3 on w nb_port nb_goal nb_hops nb_address x_nb)), (on, .inr (2, oX2 n_kind n_salt n_pace n_manner n_from n_to n_goal n_reach n_branches n_branch n_tally x_n))] := hDa
      clear hPa hDa
      generalize (upd f_p_status 2 z13) = f14 at hP hD
      refine lv_iconst (v := (-1)) hx hb dX10_note_71 ic_m1 ?_
      have hPD9 := cl_s (wc := [(op, .inr (10, oX10 ot on dn rd oc d o si w se nb hi p_status oe ih mb p_imageStatus x_p)), (p_status, .inl (kI, 3, .inl f14)), (on, .inr (2, oX2 n_kind n_salt n_pace n_manner n_from n_to n_goal n_reach n_branches n_branch n_tally x_n)), (nb, .inr (3, oX3 on w nb_port nb_goal nb_hops nb_address x_nb))]) hP hD [0, 1, 3, 2] rfl (by decide +kernel)
      have hP9 := hPD9.1
      have hD9 := hPD9.2
      exact W.iret (v := (-1)) hx hb hr (fun t ht hW => ⟨⟨(-1), (), rfl, ivk_m1, f14, by rw [ht]; exact hP9, hD9⟩, hS.F ht⟩) hS.2.2 dX10_note_72
    · have b15 : iv 1 1 r9 := iv_neLo c11 w10.1 ivk_0 (by decide) (by decide)
      have b16 : iv 0 2 p1 := (w10.2).resolve_left (iv_ne b15 ivk_0 (by decide))
      refine lv_iload_n hx hb dX10_note_18 rfl (lv_at hl 3 rfl) ?_
      obtain ⟨hPc, hDc, hFc, hJn⟩ := cl_a (wc := []) (wr := [(op, .inr (10, oX10 ot on dn rd oc d o si w se nb hi p_status oe ih mb p_imageStatus x_p)), (p_status, .inl (kI, 3, .inl f_p_status)), (nb, .inr (3, oX3 on w nb_port nb_goal nb_hops nb_address x_nb)), (on, .inr (2, oX2 n_kind n_salt n_pace n_manner n_from n_to n_goal n_reach n_branches n_branch n_tally x_n))]) hP hD hS hA [] [0, 1, 2, 3] rfl rfl (by decide +kernel)
      refine va_calli (va_runS (As := [.int p2]) (rest := []) ⟨hx, hb, hml, hown, hts⟩ (s10_isHops l dC dI kB kI kJ kZ kC kS H.size p2) (va_cwS 1 hts gX10_note_X10_isHops rfl rfl rfl (by decide +kernel) ⟨Nat.le_of_ble_eq_true rfl, Nat.le_of_ble_eq_true rfl⟩) ⟨fun a U g mk q => by obtain ⟨q0, q1, qP, qE, qD⟩ := q; exact ⟨q0, q1, qP, kE_call qE, qD⟩, fun U hU hW => ⟨rfl, by rw [hU], by rw [hU]; exact hPc, kE_warm hW hE, hDc.weaken (fun _ _ _ _ => trivial)⟩⟩ rfl rfl hl.1 rfl (lv_room (Nat.le_of_ble_eq_true rfl)) dX10_note_19 ⟨Nat.le_of_ble_eq_true rfl, Nat.le_of_ble_eq_true rfl⟩) hS (fun q _ h => hFc q h) hFc (fun r17 u t H locs ht hvm w18 hB hz1 hk1 hS => ?_)
      obtain ⟨hP1, hD1⟩ := hB
      try dsimp only at w18
      obtain ⟨hPa, hDa⟩ := hJn (w1 := []) hk1 ht hP1 hD1
      clear hP hD hPc hDc hFc hJn hP1 hD1 hk1
      have hP : va_P (dC, dI) vwCl [(op, .inr (10, oX10 ot on dn rd oc d o si w se nb hi p_status oe ih mb p_imageStatus x_p)), (p_status, .inl (kI, 3, .inl f_p_status)), (nb, .inr (3, oX3 on w nb_port nb_goal nb_hops nb_address x_nb)), (on, .inr (2, oX2 n_kind n_salt n_pace n_manner n_from n_to n_goal n_reach n_branches n_branch n_tally x_n))] H := hPa
      have hD : va_D A [(op, .inr (10, oX10 ot on dn rd oc d o si w se nb hi p_status oe ih mb p_imageStatus x_p)), (p_status, .inl (kI, 3, .inl f_p_status)), (nb, .inr (3, oX3 on w nb_port nb_goal nb_hops nb_address x_nb)), (on, .inr (2, oX2 n_kind n_salt n_pace n_manner n_from n_to n_goal n_reach n_branches n_branch n_tally x_n))] := hDa
      clear hPa hDa
      refine W.widen (k := 0) (n := 0) (Nat.le_of_ble_eq_true rfl) (Nat.le_of_ble_eq_true rfl) ?_
      refine lv_if_eq (tgt := 41) hx hb dX10_note_22 rfl (fun c19 => ?_) (fun c19 => ?_)
      · have b20 : iv 0 0 r17 := iv_eqL c19 ivk_0
        refine lv_iconst (v := 0) hx hb dX10_note_41 ic_0 ?_
        refine lv_istore (lv' := [(5, .int 0), (0, .ref op), (1, .int p0), (2, .int p1), (3, .int p2), (4, .int p3)]) hx hb dX10_note_42 hl (Nat.le_of_ble_eq_true rfl) rfl (fun ls hl => ?_)
        refine lv_iload hx hb dX10_note_44 (lv_at hl 0 rfl) ?_
        refine lv_if_eq (tgt := 61) hx hb dX10_note_46 rfl (fun _ => ?_) (fun c9 => absurd (by decide) c9)
        refine lv_aload_n hx hb dX10_note_61 rfl (lv_at hl 1 rfl) ?_
        refine va_get (D := (dC, dI)) (ci := 10) (v := .ref p_status) (C := RX10) (T := TX10) (N := 19) hx hb hts hin10 hown hK hP 0 rfl rfl 12 (Nat.le_of_ble_eq_true rfl) hw_0 (fun _ h9 => h9) rfl dX10_note_62 ?_
        refine lv_iconst (v := 2) hx hb dX10_note_65 ic_2 ?_
        refine lv_dup2_11 hx hb dX10_note_66 rfl rfl ?_
        refine va_iald hx hb hK hP 1 1 rfl rfl (vp_in_nI (n := 2) (by decide) (by decide)) dX10_note_67 ?_
        refine W.eq (g2 := F0 m 68 ls [.int (f_p_status 2), .int 2, .ref p_status]) rfl ?_
        refine lv_iconst (v := 1) hx hb dX10_note_68 ic_1 ?_
        refine lv_iadd hx hb dX10_note_69 ?_
        refine lv_topi (fun z21 _ => ?_)
        refine va_iast hx hb hK hP hD hS 1 1 rfl rfl (vp_in_nI (n := 2) (by decide) (by decide)) dX10_note_70 (fun H locs hPa hDa hS => ?_)
        clear hP hD
        have hP : va_P (dC, dI) vwCl [(op, .inr (10, oX10 ot on dn rd oc d o si w se nb hi p_status oe ih mb p_imageStatus x_p)), (p_status, .inl (kI, 3, .inl (upd f_p_status 2 z21))), (nb, .inr (3, oX3 on w nb_port nb_goal nb_hops nb_address x_nb)), (on, .inr (2, oX2 n_kind n_salt n_pace n_manner n_from n_to n_goal n_reach n_branches n_branch n_tally x_n))] H := hPa
        have hD : va_D A [(op, .inr (10, oX10 ot on dn rd oc d o si w se nb hi p_status oe ih mb p_imageStatus x_p)), (p_status, .inl (kI, 3, .inl (upd f_p_status 2 z21))), (nb, .inr (3, oX3 on w nb_port nb_goal nb_hops nb_address x_nb)), (on, .inr (2, oX2 n_kind n_salt n_pace n_manner n_from n_to n_goal n_reach n_branches n_branch n_tally x_n))] := hDa
        clear hPa hDa
        generalize (upd f_p_status 2 z21) = f22 at hP hD
        refine lv_iconst (v := (-1)) hx hb dX10_note_71 ic_m1 ?_
        have hPD9 := cl_s (wc := [(op, .inr (10, oX10 ot on dn rd oc d o si w se nb hi p_status oe ih mb p_imageStatus x_p)), (p_status, .inl (kI, 3, .inl f22)), (on, .inr (2, oX2 n_kind n_salt n_pace n_manner n_from n_to n_goal n_reach n_branches n_branch n_tally x_n)), (nb, .inr (3, oX3 on w nb_port nb_goal nb_hops nb_address x_nb))]) hP hD [0, 1, 3, 2] rfl (by decide +kernel)
        have hP9 := hPD9.1
        have hD9 := hPD9.2
        exact W.iret (v := (-1)) hx hb hr (fun t ht hW => ⟨⟨(-1), (), rfl, ivk_m1, f22, by rw [ht]; exact hP9, hD9⟩, hS.F ht⟩) hS.2.2 dX10_note_72
      · have b23 : iv 1 1 r17 := iv_neLo c19 w18.1 ivk_0 (by decide) (by decide)
        have b24 : iv 1 10 p2 := (w18.2).resolve_left (iv_ne b23 ivk_0 (by decide))
        refine lv_aload_n hx hb dX10_note_25 rfl (lv_at hl 0 rfl) ?_
        refine va_get (D := (dC, dI)) (ci := 10) (v := .ref on) (C := RX10) (T := TX10) (N := 19) hx hb hts hin10 hown hK hP 0 rfl rfl 1 (Nat.le_of_ble_eq_true rfl) hw_1 (fun _ h9 => h9) rfl dX10_note_26 ?_
        refine lv_iload hx hb dX10_note_29 (lv_at hl 4 rfl) ?_
        obtain ⟨hPc, hDc, hFc, hJn⟩ := cl_a (wc := [(on, .inr (2, oX2 n_kind n_salt n_pace n_manner n_from n_to n_goal n_reach n_branches n_branch n_tally x_n))]) (wr := [(op, .inr (10, oX10 ot on dn rd oc d o si w se nb hi p_status oe ih mb p_imageStatus x_p)), (p_status, .inl (kI, 3, .inl f_p_status)), (nb, .inr (3, oX3 on w nb_port nb_goal nb_hops nb_address x_nb))]) hP hD hS hA [3] [0, 1, 2] rfl rfl (by decide +kernel)
        refine va_calli (va_runV (As := [.int p3]) (rest := []) ⟨hx, hb, hml, hown, hts⟩ (s2_hasAddress l dC dI kB kI kJ kZ kC kS H.size on n_kind n_salt n_pace n_manner n_from n_to n_goal n_reach n_branches n_branch n_tally x_n p3 (hx_n)) (cwV 1 hts gX10_note_X2_hasAddress rfl rfl rfl (by decide +kernel) ⟨Nat.le_of_ble_eq_true rfl, Nat.le_of_ble_eq_true rfl⟩) ⟨fun a U g mk q => by obtain ⟨q0, q1, qP, qE, qD⟩ := q; exact ⟨q0, q1, qP, kE_call qE, qD⟩, va_recv hK hP (ci := 2) (q0 := 3) rfl rfl, fun U hU hW => ⟨rfl, by rw [hU], by rw [hU]; exact hPc, kE_warm hW hE, hDc.weaken (fun _ _ _ _ => trivial)⟩⟩ rfl rfl hl.1 rfl (lv_room (Nat.le_of_ble_eq_true rfl)) dX10_note_31 ⟨Nat.le_of_ble_eq_true rfl, Nat.le_of_ble_eq_true rfl⟩) hS (fun q _ h => hFc q h) hFc (fun r25 u t H locs ht hvm w26 hB hz1 hk1 hS => ?_)
        obtain ⟨hP1, hD1⟩ := hB
        try dsimp only at w26
        obtain ⟨hPa, hDa⟩ := hJn (w1 := [(on, .inr (2, oX2 n_kind n_salt n_pace n_manner n_from n_to n_goal n_reach n_branches n_branch n_tally x_n))]) hk1 ht hP1 hD1
        clear hP hD hPc hDc hFc hJn hP1 hD1 hk1
        have hP : va_P (dC, dI) vwCl [(op, .inr (10, oX10 ot on dn rd oc d o si w se nb hi p_status oe ih mb p_imageStatus x_p)), (p_status, .inl (kI, 3, .inl f_p_status)), (nb, .inr (3, oX3 on w nb_port nb_goal nb_hops nb_address x_nb)), (on, .inr (2, oX2 n_kind n_salt n_pace n_manner n_from n_to n_goal n_reach n_branches n_branch n_tally x_n))] H := hPa
        have hD : va_D A [(op, .inr (10, oX10 ot on dn rd oc d o si w se nb hi p_status oe ih mb p_imageStatus x_p)), (p_status, .inl (kI, 3, .inl f_p_status)), (nb, .inr (3, oX3 on w nb_port nb_goal nb_hops nb_address x_nb)), (on, .inr (2, oX2 n_kind n_salt n_pace n_manner n_from n_to n_goal n_reach n_branches n_branch n_tally x_n))] := hDa
        clear hPa hDa
        refine W.widen (k := 0) (n := 0) (Nat.le_of_ble_eq_true rfl) (Nat.le_of_ble_eq_true rfl) ?_
        refine lv_if_eq (tgt := 41) hx hb dX10_note_34 rfl (fun c27 => ?_) (fun c27 => ?_)
        · have b28 : iv 0 0 r25 := iv_eqL c27 ivk_0
          refine lv_iconst (v := 0) hx hb dX10_note_41 ic_0 ?_
          refine lv_istore (lv' := [(5, .int 0), (0, .ref op), (1, .int p0), (2, .int p1), (3, .int p2), (4, .int p3)]) hx hb dX10_note_42 hl (Nat.le_of_ble_eq_true rfl) rfl (fun ls hl => ?_)
          refine lv_iload hx hb dX10_note_44 (lv_at hl 0 rfl) ?_
          refine lv_if_eq (tgt := 61) hx hb dX10_note_46 rfl (fun _ => ?_) (fun c9 => absurd (by decide) c9)
          refine lv_aload_n hx hb dX10_note_61 rfl (lv_at hl 1 rfl) ?_
          refine va_get (D := (dC, dI)) (ci := 10) (v := .ref p_status) (C := RX10) (T := TX10) (N := 19) hx hb hts hin10 hown hK hP 0 rfl rfl 12 (Nat.le_of_ble_eq_true rfl) hw_0 (fun _ h9 => h9) rfl dX10_note_62 ?_
          refine lv_iconst (v := 2) hx hb dX10_note_65 ic_2 ?_
          refine lv_dup2_11 hx hb dX10_note_66 rfl rfl ?_
          refine va_iald hx hb hK hP 1 1 rfl rfl (vp_in_nI (n := 2) (by decide) (by decide)) dX10_note_67 ?_
          refine W.eq (g2 := F0 m 68 ls [.int (f_p_status 2), .int 2, .ref p_status]) rfl ?_
          refine lv_iconst (v := 1) hx hb dX10_note_68 ic_1 ?_
          refine lv_iadd hx hb dX10_note_69 ?_
          refine lv_topi (fun z29 _ => ?_)
          refine va_iast hx hb hK hP hD hS 1 1 rfl rfl (vp_in_nI (n := 2) (by decide) (by decide)) dX10_note_70 (fun H locs hPa hDa hS => ?_)
          clear hP hD
          have hP : va_P (dC, dI) vwCl [(op, .inr (10, oX10 ot on dn rd oc d o si w se nb hi p_status oe ih mb p_imageStatus x_p)), (p_status, .inl (kI, 3, .inl (upd f_p_status 2 z29))), (nb, .inr (3, oX3 on w nb_port nb_goal nb_hops nb_address x_nb)), (on, .inr (2, oX2 n_kind n_salt n_pace n_manner n_from n_to n_goal n_reach n_branches n_branch n_tally x_n))] H := hPa
          have hD : va_D A [(op, .inr (10, oX10 ot on dn rd oc d o si w se nb hi p_status oe ih mb p_imageStatus x_p)), (p_status, .inl (kI, 3, .inl (upd f_p_status 2 z29))), (nb, .inr (3, oX3 on w nb_port nb_goal nb_hops nb_address x_nb)), (on, .inr (2, oX2 n_kind n_salt n_pace n_manner n_from n_to n_goal n_reach n_branches n_branch n_tally x_n))] := hDa
          clear hPa hDa
          generalize (upd f_p_status 2 z29) = f30 at hP hD
          refine lv_iconst (v := (-1)) hx hb dX10_note_71 ic_m1 ?_
          have hPD9 := cl_s (wc := [(op, .inr (10, oX10 ot on dn rd oc d o si w se nb hi p_status oe ih mb p_imageStatus x_p)), (p_status, .inl (kI, 3, .inl f30)), (on, .inr (2, oX2 n_kind n_salt n_pace n_manner n_from n_to n_goal n_reach n_branches n_branch n_tally x_n)), (nb, .inr (3, oX3 on w nb_port nb_goal nb_hops nb_address x_nb))]) hP hD [0, 1, 3, 2] rfl (by decide +kernel)
          have hP9 := hPD9.1
          have hD9 := hPD9.2
          exact W.iret (v := (-1)) hx hb hr (fun t ht hW => ⟨⟨(-1), (), rfl, ivk_m1, f30, by rw [ht]; exact hP9, hD9⟩, hS.F ht⟩) hS.2.2 dX10_note_72
        · have b31 : iv 1 1 r25 := iv_neLo c27 w26.1 ivk_0 (by decide) (by decide)
          have b32 : iv 0 20 p3 := (w26.2).resolve_left (iv_ne b31 ivk_0 (by decide))
          refine lv_iconst (v := 1) hx hb dX10_note_37 ic_1 ?_
          refine lv_goto (tgt := 42) hx hb dX10_note_38 rfl ?_
          refine lv_istore (lv' := [(5, .int 1), (0, .ref op), (1, .int p0), (2, .int p1), (3, .int p2), (4, .int p3)]) hx hb dX10_note_42 hl (Nat.le_of_ble_eq_true rfl) rfl (fun ls hl => ?_)
          refine lv_iload hx hb dX10_note_44 (lv_at hl 0 rfl) ?_
          refine lv_if_eq (tgt := 61) hx hb dX10_note_46 rfl (fun c9 => absurd c9 (by decide)) (fun _ => ?_)
          refine lv_aload_n hx hb dX10_note_49 rfl (lv_at hl 1 rfl) ?_
          refine va_get (D := (dC, dI)) (ci := 10) (v := .ref nb) (C := RX10) (T := TX10) (N := 19) hx hb hts hin10 hown hK hP 0 rfl rfl 10 (Nat.le_of_ble_eq_true rfl) hw_2 (fun _ h9 => h9) rfl dX10_note_50 ?_
          refine va_get (D := (dC, dI)) (ci := 3) (v := .int (x_nb 0)) (C := RX3) (T := TX3) (N := 9) hx hb hts hin3 hown hK hP 2 rfl rfl 6 (Nat.le_of_ble_eq_true rfl) hw_3 (fun _ h9 => h9) rfl dX10_note_53 ?_
          refine lv_bipush (v := 8) hx hb dX10_note_56 bp_8 ?_
          refine lv_icmp_lt (tgt := 73) hx hb dX10_note_58 rfl (fun c9 => absurd c9 (iv_nlt hfs ivk_8 (by decide))) (fun _ => ?_)
          refine lv_aload_n hx hb dX10_note_61 rfl (lv_at hl 1 rfl) ?_
          refine va_get (D := (dC, dI)) (ci := 10) (v := .ref p_status) (C := RX10) (T := TX10) (N := 19) hx hb hts hin10 hown hK hP 0 rfl rfl 12 (Nat.le_of_ble_eq_true rfl) hw_0 (fun _ h9 => h9) rfl dX10_note_62 ?_
          refine lv_iconst (v := 2) hx hb dX10_note_65 ic_2 ?_
          refine lv_dup2_11 hx hb dX10_note_66 rfl rfl ?_
          refine va_iald hx hb hK hP 1 1 rfl rfl (vp_in_nI (n := 2) (by decide) (by decide)) dX10_note_67 ?_
          refine W.eq (g2 := F0 m 68 ls [.int (f_p_status 2), .int 2, .ref p_status]) rfl ?_
          refine lv_iconst (v := 1) hx hb dX10_note_68 ic_1 ?_
          refine lv_iadd hx hb dX10_note_69 ?_
          refine lv_topi (fun z33 _ => ?_)
          refine va_iast hx hb hK hP hD hS 1 1 rfl rfl (vp_in_nI (n := 2) (by decide) (by decide)) dX10_note_70 (fun H locs hPa hDa hS => ?_)
          clear hP hD
          have hP : va_P (dC, dI) vwCl [(op, .inr (10, oX10 ot on dn rd oc d o si w se nb hi p_status oe ih mb p_imageStatus x_p)), (p_status, .inl (kI, 3, .inl (upd f_p_status 2 z33))), (nb, .inr (3, oX3 on w nb_port nb_goal nb_hops nb_address x_nb)), (on, .inr (2, oX2 n_kind n_salt n_pace n_manner n_from n_to n_goal n_reach n_branches n_branch n_tally x_n))] H := hPa
          have hD : va_D A [(op, .inr (10, oX10 ot on dn rd oc d o si w se nb hi p_status oe ih mb p_imageStatus x_p)), (p_status, .inl (kI, 3, .inl (upd f_p_status 2 z33))), (nb, .inr (3, oX3 on w nb_port nb_goal nb_hops nb_address x_nb)), (on, .inr (2, oX2 n_kind n_salt n_pace n_manner n_from n_to n_goal n_reach n_branches n_branch n_tally x_n))] := hDa
          clear hPa hDa
          generalize (upd f_p_status 2 z33) = f34 at hP hD
          refine lv_iconst (v := (-1)) hx hb dX10_note_71 ic_m1 ?_
          have hPD9 := cl_s (wc := [(op, .inr (10, oX10 ot on dn rd oc d o si w se nb hi p_status oe ih mb p_imageStatus x_p)), (p_status, .inl (kI, 3, .inl f34)), (on, .inr (2, oX2 n_kind n_salt n_pace n_manner n_from n_to n_goal n_reach n_branches n_branch n_tally x_n)), (nb, .inr (3, oX3 on w nb_port nb_goal nb_hops nb_address x_nb))]) hP hD [0, 1, 3, 2] rfl (by decide +kernel)
          have hP9 := hPD9.1
          have hD9 := hPD9.2
          exact W.iret (v := (-1)) hx hb hr (fun t ht hW => ⟨⟨(-1), (), rfl, ivk_m1, f34, by rw [ht]; exact hP9, hD9⟩, hS.F ht⟩) hS.2.2 dX10_note_72
def rm_s10_note_plo : Room := { frames := 1, cells := 0, slots := 0, locals := 20 }
set_option maxHeartbeats 4000000 in
set_option maxRecDepth 100000 in
theorem s10_note_plo (l : Launch) (dC : Nat → ClassId) (dI : Nat → Nat → Nat) (kB kI kJ kZ kC kS : ClassId) (sz : Nat) (op : Nat) (ot : Nat) (on : Nat) (dn : Nat) (rd : Nat) (oc : Nat) (d : Nat) (o : Nat) (si : Nat) (w : Nat) (se : Nat) (nb : Nat) (hi : Nat) (p_status : Nat) (oe : Nat) (ih : Nat) (mb : Nat) (p_imageStatus : Nat) (x_p : Nat → Int32) (f_p_status : Nat → Int32) (p0 : Int32) (p1 : Int32) (p2 : Int32) (p3 : Int32) (hp0 : iv (-2147483648) (-1) p0) : Met l yX10_note wsX10_note rm_s10_note_plo (va_Pc [.ref op, .int p0, .int p1, .int p2, .int p3] (fun U => U.heap.size = sz ∧ va_P (dC, dI) vwCl [(op, .inr (10, oX10 ot on dn rd oc d o si w se nb hi p_status oe ih mb p_imageStatus x_p)), (p_status, .inl (kI, 3, .inl f_p_status))] U.heap ∧ kE dC dI kB kI kJ kZ kC kS U ∧ va_D (fun _ => True) [(op, .inr (10, oX10 ot on dn rd oc d o si w se nb hi p_status oe ih mb p_imageStatus x_p)), (p_status, .inl (kI, 3, .inl f_p_status))])) (va_Qi (fun (r : Int32) (_ : Unit) => iv (-1) (-1) r) (fun _ t => ∃ (f_p_status' : Nat → Int32), va_P (dC, dI) vwCl [(op, .inr (10, oX10 ot on dn rd oc d o si w se nb hi p_status oe ih mb p_imageStatus x_p)), (p_status, .inl (kI, 3, .inl f_p_status'))] t.heap ∧ va_D (va_A [(op, .inr (10, oX10 ot on dn rd oc d o si w se nb hi p_status oe ih mb p_imageStatus x_p)), (p_status, .inl (kI, 3, .inl f_p_status))] sz) [(op, .inr (10, oX10 ot on dn rd oc d o si w se nb hi p_status oe ih mb p_imageStatus x_p)), (p_status, .inl (kI, 3, .inl f_p_status'))]) (va_A [(op, .inr (10, oX10 ot on dn rd oc d o si w se nb hi p_status oe ih mb p_imageStatus x_p)), (p_status, .inl (kI, 3, .inl f_p_status))] sz)) 0 0 (va_A [(op, .inr (10, oX10 ot on dn rd oc d o si w se nb hi p_status oe ih mb p_imageStatus x_p)), (p_status, .inl (kI, 3, .inl f_p_status))] sz) := by
  refine Met.ofW (cc := cX10_note) (maxL := 6) (ret := (some .int)) (by decide) rfl ?_
  intro p e s m args0 below meth c s₁ B hml hv
  obtain ⟨hargs, hsz, hP, hE, hD0⟩ := hv
  have hx := B.exec
  have hb := B.bytes
  have hr := B.returns
  have hts := atoms_spec (ws := wsX10_note) B.pre
  have hown : s.vm.findClass RX10 = some m.cls := findClass_of_methodNamed B.named
  have hlocks := B.notSynchronized
  have hK := hE.1
  have hin10 : ∀ w ∈ wsX100, w ∈ wsX10_note := fun _ h9 => List.mem_cons_of_mem _ (List.mem_append_left _ (List.mem_append_left _ (List.mem_append_right _ h9)))
  have hin3 : ∀ w ∈ wsX30, w ∈ wsX10_note := fun _ h9 => List.mem_cons_of_mem _ (List.mem_append_left _ (List.mem_append_right _ h9))
  have hin2 : ∀ w ∈ wsX20, w ∈ wsX10_note := fun _ h9 => List.mem_cons_of_mem _ (List.mem_append_right _ h9)
  have hw_0 := hts (.fieldLink RX10 93 "PathProber" "status" "[I") (List.mem_of_getElem? (i := 4) rfl)
  subst hsz
  have hD := hD0.self (sz := s.heap.size)
  generalize hAe : va_A [(op, .inr (10, oX10 ot on dn rd oc d o si w se nb hi p_status oe ih mb p_imageStatus x_p)), (p_status, .inl (kI, 3, .inl f_p_status))] s.heap.size = A at hD ⊢
  have hA : ∀ q : Nat, s.heap.size ≤ q → A q := fun q h => by rw [← hAe]; exact Or.inr h
  have hS : va_S A s.heap s.heap [] := va_S.rf
  have hP : va_P (dC, dI) vwCl [(op, .inr (10, oX10 ot on dn rd oc d o si w se nb hi p_status oe ih mb p_imageStatus x_p)), (p_status, .inl (kI, 3, .inl f_p_status))] s.heap := hP
  have hl := lv_entry ([.ref op, .int p0, .int p1, .int p2, .int p3]) (n := 6) (Nat.le_of_ble_eq_true rfl)
  have hla : entryFrame m args0 6 = entryFrame m ([.ref op, .int p0, .int p1, .int p2, .int p3] : List Value).toArray 6 := by rw [hargs]
  rw [hla, lg_entry_eq]
  generalize (lg_sl ([.ref op, .int p0, .int p1, .int p2, .int p3]) ++ List.replicate (6 - (lg_sl ([.ref op, .int p0, .int p1, .int p2, .int p3])).length) Slot.unset).toArray = ls at hl ⊢
  have hl : lv_has ls 6 [(0, .ref op), (1, .int p0), (2, .int p1), (3, .int p2), (4, .int p3)] := hl
  refine lv_iload_n hx hb dX10_note_0 rfl (lv_at hl 1 rfl) ?_
  obtain ⟨hPc, hDc, hFc, hJn⟩ := cl_a (wc := []) (wr := [(op, .inr (10, oX10 ot on dn rd oc d o si w se nb hi p_status oe ih mb p_imageStatus x_p)), (p_status, .inl (kI, 3, .inl f_p_status))]) hP hD hS hA [] [0, 1] rfl rfl (by decide +kernel)
  refine va_calli (va_runS (As := [.int p0]) (rest := []) ⟨hx, hb, hml, hown, hts⟩ (s10_isPort_plo l dC dI kB kI kJ kZ kC kS s.heap.size p0 (hp0)) (va_cwS 1 hts gX10_note_X10_isPort rfl rfl rfl (by decide +kernel) ⟨Nat.le_of_ble_eq_true rfl, Nat.le_of_ble_eq_true rfl⟩) ⟨fun a U g mk q => by obtain ⟨q0, q1, qP, qE, qD⟩ := q; exact ⟨q0, q1, qP, kE_call qE, qD⟩, fun U hU hW => ⟨rfl, by rw [hU], by rw [hU]; exact hPc, kE_warm hW hE, hDc.weaken (fun _ _ _ _ => trivial)⟩⟩ rfl rfl hl.1 rfl (lv_room (Nat.le_of_ble_eq_true rfl)) dX10_note_1 ⟨Nat.le_of_ble_eq_true rfl, Nat.le_of_ble_eq_true rfl⟩) hS (fun q _ h => hFc q h) hFc (fun r1 u t H locs ht hvm w2 hB hz1 hk1 hS => ?_)
  obtain ⟨hP1, hD1⟩ := hB
  try dsimp only at w2
  obtain ⟨hPa, hDa⟩ := hJn (w1 := []) hk1 ht hP1 hD1
  clear hP hD hPc hDc hFc hJn hP1 hD1 hk1
  have hP : va_P (dC, dI) vwCl [(op, .inr (10, oX10 ot on dn rd oc d o si w se nb hi p_status oe ih mb p_imageStatus x_p)), (p_status, .inl (kI, 3, .inl f_p_status))] H := hPa
  have hD : va_D A [(op, .inr (10, oX10 ot on dn rd oc d o si w se nb hi p_status oe ih mb p_imageStatus x_p)), (p_status, .inl (kI, 3, .inl f_p_status))] := hDa
  clear hPa hDa
  refine W.widen (k := 0) (n := 0) (Nat.le_of_ble_eq_true rfl) (Nat.le_of_ble_eq_true rfl) ?_
  obtain rfl : r1 = 0 := iv_one w2 (by decide)
  refine lv_if_eq (tgt := 41) hx hb dX10_note_4 rfl (fun _ => ?_) (fun c9 => absurd (by decide) c9)
  refine lv_iconst (v := 0) hx hb dX10_note_41 ic_0 ?_
  refine lv_istore (lv' := [(5, .int 0), (0, .ref op), (1, .int p0), (2, .int p1), (3, .int p2), (4, .int p3)]) hx hb dX10_note_42 hl (Nat.le_of_ble_eq_true rfl) rfl (fun ls hl => ?_)
  refine lv_iload hx hb dX10_note_44 (lv_at hl 0 rfl) ?_
  refine lv_if_eq (tgt := 61) hx hb dX10_note_46 rfl (fun _ => ?_) (fun c9 => absurd (by decide) c9)
  refine lv_aload_n hx hb dX10_note_61 rfl (lv_at hl 1 rfl) ?_
  refine va_get (D := (dC, dI)) (ci := 10) (v := .ref p_status) (C := RX10) (T := TX10) (N := 19) hx hb hts hin10 hown hK hP 0 rfl rfl 12 (Nat.le_of_ble_eq_true rfl) hw_0 (fun _ h9 => h9) rfl dX10_note_62 ?_
  refine lv_iconst (v := 2) hx hb dX10_note_65 ic_2 ?_
  refine lv_dup2_11 hx hb dX10_note_66 rfl rfl ?_
  refine va_iald hx hb hK hP 1 1 rfl rfl (vp_in_nI (n := 2) (by decide) (by decide)) dX10_note_67 ?_
  refine W.eq (g2 := F0 m 68 ls [.int (f_p_status 2), .int 2, .ref p_status]) rfl ?_
  refine lv_iconst (v := 1) hx hb dX10_note_68 ic_1 ?_
  refine lv_iadd hx hb dX10_note_69 ?_
  refine lv_topi (fun z3 _ => ?_)
  refine va_iast hx hb hK hP hD hS 1 1 rfl rfl (vp_in_nI (n := 2) (by decide) (by decide)) dX10_note_70 (fun H locs hPa hDa hS => ?_)
  clear hP hD
  have hP : va_P (dC, dI) vwCl [(op, .inr (10, oX10 ot on dn rd oc d o si w se nb hi p_status oe ih mb p_imageStatus x_p)), (p_status, .inl (kI, 3, .inl (upd f_p_status 2 z3)))] H := hPa
  have hD : va_D A [(op, .inr (10, oX10 ot on dn rd oc d o si w se nb hi p_status oe ih mb p_imageStatus x_p)), (p_status, .inl (kI, 3, .inl (upd f_p_status 2 z3)))] := hDa
  clear hPa hDa
  generalize (upd f_p_status 2 z3) = f4 at hP hD
  refine lv_iconst (v := (-1)) hx hb dX10_note_71 ic_m1 ?_
  have hP9 := hP
  have hD9 := hD
  exact W.iret (v := (-1)) hx hb hr (fun t ht hW => ⟨⟨(-1), (), rfl, ivk_m1, f4, by rw [ht]; exact hP9, hD9⟩, hS.F ht⟩) hS.2.2 dX10_note_72
