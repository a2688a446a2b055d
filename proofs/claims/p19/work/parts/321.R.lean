def rm_s11_copyTo_now : Room := { frames := 0, cells := 0, slots := 0, locals := 0 }
set_option maxHeartbeats 4000000 in
set_option maxRecDepth 100000 in
theorem s11_copyTo_now (l : Launch) (dC : Nat → ClassId) (dI : Nat → Nat → Nat) (kB kI kJ kZ kC kS : ClassId) (sz : Nat) (b0 : Nat) (b1 : Nat) (fi : Nat → Int32) (fr : Nat → Int32) (hfi : fI lNow hNow fi) (hfr : fI lNow hNow fr) : Met l yX11_copyTo wsX11_copyTo rm_s11_copyTo_now (va_Pc [.ref b0, .ref b1] (fun U => U.heap.size = sz ∧ va_P (dC, dI) vwCl [(b0, .inl (kI, 1019, .inl fi)), (b1, .inl (kI, 1019, .inl fr))] U.heap ∧ kE dC dI kB kI kJ kZ kC kS U ∧ va_D (fun _ => True) [(b0, .inl (kI, 1019, .inl fi)), (b1, .inl (kI, 1019, .inl fr))])) (va_Qv (fun (_ : Unit) => True) (fun _ t => ∃ (fi' : Nat → Int32), fI lNow hNow fi' ∧ va_P (dC, dI) vwCl [(b0, .inl (kI, 1019, .inl fi')), (b1, .inl (kI, 1019, .inl fr))] t.heap ∧ va_D (va_A [(b0, .inl (kI, 1019, .inl fi)), (b1, .inl (kI, 1019, .inl fr))] sz) [(b0, .inl (kI, 1019, .inl fi')), (b1, .inl (kI, 1019, .inl fr))]) (va_A [(b0, .inl (kI, 1019, .inl fi)), (b1, .inl (kI, 1019, .inl fr))] sz)) 0 0 (va_A [(b0, .inl (kI, 1019, .inl fi)), (b1, .inl (kI, 1019, .inl fr))] sz) := by
  refine Met.ofW (cc := cX11_copyTo) (maxL := 3) (ret := none) (by decide) rfl ?_
  intro p e s m args0 below meth c s₁ B hml hv
  obtain ⟨hargs, hsz, hP, hE, hD0⟩ := hv
  have hx := B.exec
  have hb := B.bytes
  have hr := B.returns
  have hts := atoms_spec (ws := wsX11_copyTo) B.pre
  have hown : s.vm.findClass RX11 = some m.cls := findClass_of_methodNamed B.named
  have hlocks := B.notSynchronized
  have hK := hE.1
  subst hsz
  have hD := hD0.self (sz := s.heap.size)
  generalize hAe : va_A [(b0, .inl (kI, 1019, .inl fi)), (b1, .inl (kI, 1019, .inl fr))] s.heap.size = A at hD ⊢
  have hA : ∀ q : Nat, s.heap.size ≤ q → A q := fun q h => by rw [← hAe]; exact Or.inr h
  have hS : va_S A s.heap s.heap [] := va_S.rf
  have hP : va_P (dC, dI) vwCl [(b0, .inl (kI, 1019, .inl fi)), (b1, .inl (kI, 1019, .inl fr))] s.heap := hP
  have hl := lv_entry ([.ref b0, .ref b1]) (n := 3) (Nat.le_of_ble_eq_true rfl)
  have hla : entryFrame m args0 3 = entryFrame m ([.ref b0, .ref b1] : List Value).toArray 3 := by rw [hargs]
  rw [hla, lg_entry_eq]
  generalize (lg_sl ([.ref b0, .ref b1]) ++ List.replicate (3 - (lg_sl ([.ref b0, .ref b1])).length) Slot.unset).toArray = ls at hl ⊢
  have hl : lv_has ls 3 [(0, .ref b0), (1, .ref b1)] := hl
  have hJ2 : ∀ (n : Nat) (g2_0 : Nat → Int32) (v2_loc2 : Int32) (H : Heap) (locs : List Loc) (ls : Array Slot), (1019 - v2_loc2.toInt).toNat < n → fI lNow hNow g2_0 → iv 0 1019 v2_loc2 → va_P (dC, dI) vwCl [(b0, .inl (kI, 1019, .inl g2_0)), (b1, .inl (kI, 1019, .inl fr))] H → va_D A [(b0, .inl (kI, 1019, .inl g2_0)), (b1, .inl (kI, 1019, .inl fr))] → va_S A s.heap H locs → lv_has ls 3 [(0, .ref b0), (1, .ref b1), (2, .int v2_loc2)] → W p l e (headSpec wsX11_copyTo rm_s11_copyTo_now).room s m args0 below meth c H locs (0) (0) (MQ below (va_Qv (fun (_ : Unit) => True) (fun _ t => ∃ (fi' : Nat → Int32), fI lNow hNow fi' ∧ va_P (dC, dI) vwCl [(b0, .inl (kI, 1019, .inl fi')), (b1, .inl (kI, 1019, .inl fr))] t.heap ∧ va_D A [(b0, .inl (kI, 1019, .inl fi')), (b1, .inl (kI, 1019, .inl fr))]) A) args0 s 0 0 A) (F0 m 2 ls []) := by
    intro n
    induction n with
    | zero => intro g2_0 v2_loc2 H locs ls hm2; exact absurd hm2 (Nat.not_lt_zero _)
    | succ n ih2 =>
      intro g2_0 v2_loc2 H locs ls hm2 hI2_0 h2_2 hP hD hS hl
      refine lv_iload_n hx hb dX11_copyTo_2 rfl (lv_at hl 2 rfl) ?_
      refine lv_aload_n hx hb dX11_copyTo_3 rfl (lv_at hl 0 rfl) ?_
      refine va_alen (v := 1019) hx hb hK hP 0 1 rfl rfl rfl dX11_copyTo_4 ?_
      refine lv_icmp_ge (tgt := 20) hx hb dX11_copyTo_5 rfl (fun c1 => ?_) (fun c1 => ?_)
      · have b2 : iv 1019 1019 v2_loc2 := iv_leR c1 ivk_1019 h2_2 (by decide) (by decide)
        have hP9 := hP
        have hD9 := hD
        exact W.vret hx hb hr (fun t ht hW => ⟨⟨(), rfl, trivial, g2_0, hI2_0, by rw [ht]; exact hP9, hD9⟩, hS.F ht⟩) hS.2.2 dX11_copyTo_20
      · have b3 : iv 0 1018 v2_loc2 := iv_ltL (Int32.not_le.mp c1) h2_2 ivk_1019 (by decide) (by decide)
        refine lv_aload_n hx hb dX11_copyTo_8 rfl (lv_at hl 0 rfl) ?_
        refine lv_iload_n hx hb dX11_copyTo_9 rfl (lv_at hl 2 rfl) ?_
        refine lv_aload_n hx hb dX11_copyTo_10 rfl (lv_at hl 1 rfl) ?_
        refine lv_iload_n hx hb dX11_copyTo_11 rfl (lv_at hl 2 rfl) ?_
        refine va_iald hx hb hK hP 1 1 rfl rfl (iv_in b3 (by decide) (by decide)) dX11_copyTo_12 ?_
        refine va_iast hx hb hK hP hD hS 0 1 rfl rfl (iv_in b3 (by decide) (by decide)) dX11_copyTo_13 (fun H locs hPa hDa hS => ?_)
        clear hP hD
        have hP : va_P (dC, dI) vwCl [(b0, .inl (kI, 1019, .inl (upd g2_0 v2_loc2.toNatClampNeg (fr v2_loc2.toNatClampNeg)))), (b1, .inl (kI, 1019, .inl fr))] H := hPa
        have hD : va_D A [(b0, .inl (kI, 1019, .inl (upd g2_0 v2_loc2.toNatClampNeg (fr v2_loc2.toNatClampNeg)))), (b1, .inl (kI, 1019, .inl fr))] := hDa
        clear hPa hDa
        have hf5 : fI lNow hNow (upd g2_0 v2_loc2.toNatClampNeg (fr v2_loc2.toNatClampNeg)) := fI_u hI2_0 (hfr _)
        generalize (upd g2_0 v2_loc2.toNatClampNeg (fr v2_loc2.toNatClampNeg)) = f4 at hP hD hf5
        refine lv_iinc (v := v2_loc2 + Int32.ofInt 1) (lv' := [(2, .int (v2_loc2 + Int32.ofInt 1)), (0, .ref b0), (1, .ref b1)]) hx hb dX11_copyTo_14 hl (k := 2) rfl (rfl) (Nat.le_of_ble_eq_true rfl) rfl (fun ls hl => ?_)
        have b6 : iv 1 1019 (v2_loc2 + Int32.ofInt 1) := iv_add b3 ivo_1 (by decide) (by decide) (by decide) (by decide)
        refine lv_goto (tgt := 2) hx hb dX11_copyTo_17 rfl ?_
        exact ih2 f4 (v2_loc2 + Int32.ofInt 1) _ _ _ (ms_up (c := 1) (d := 0) b3 hm2 (by decide) (iv_inc 1 b3 (by decide) (by decide) (by decide) (by decide)) (by decide) rfl) (hf5) ((iv_w b6 (by decide) (by decide))) (hP) (hD) hS (lv_sub hl [1, 2, 0] rfl)
  refine lv_iconst (v := 0) hx hb dX11_copyTo_0 ic_0 ?_
  refine lv_istore_n (lv' := [(2, .int 0), (0, .ref b0), (1, .ref b1)]) hx hb dX11_copyTo_1 rfl hl (Nat.le_of_ble_eq_true rfl) rfl (fun ls hl => ?_)
  exact hJ2 _ fi 0 _ _ _ (Nat.lt_succ_self _) (hfi) ((iv_w ivk_0 (by decide) (by decide))) (hP) (hD) hS (lv_sub hl [1, 2, 0] rfl)
def rm_s11_copyTo_past : Room := { frames := 0, cells := 0, slots := 0, locals := 0 }
set_option maxHeartbeats 4000000 in
set_option maxRecDepth 100000 in
theorem s11_copyTo_past (l : Launch) (dC : Nat → ClassId) (dI : Nat → Nat → Nat) (kB kI kJ kZ kC kS : ClassId) (sz : Nat) (b0 : Nat) (b1 : Nat) (fi : Nat → Int32) (fr : Nat → Int32) (hfi : fI lPast hPast fi) (hfr : fI lPast hPast fr) : Met l yX11_copyTo wsX11_copyTo rm_s11_copyTo_past (va_Pc [.ref b0, .ref b1] (fun U => U.heap.size = sz ∧ va_P (dC, dI) vwCl [(b0, .inl (kI, 40760, .inl fi)), (b1, .inl (kI, 40760, .inl fr))] U.heap ∧ kE dC dI kB kI kJ kZ kC kS U ∧ va_D (fun _ => True) [(b0, .inl (kI, 40760, .inl fi)), (b1, .inl (kI, 40760, .inl fr))])) (va_Qv (fun (_ : Unit) => True) (fun _ t => ∃ (fi' : Nat → Int32), fI lPast hPast fi' ∧ va_P (dC, dI) vwCl [(b0, .inl (kI, 40760, .inl fi')), (b1, .inl (kI, 40760, .inl fr))] t.heap ∧ va_D (va_A [(b0, .inl (kI, 40760, .inl fi)), (b1, .inl (kI, 40760, .inl fr))] sz) [(b0, .inl (kI, 40760, .inl fi')), (b1, .inl (kI, 40760, .inl fr))]) (va_A [(b0, .inl (kI, 40760, .inl fi)), (b1, .inl (kI, 40760, .inl fr))] sz)) 0 0 (va_A [(b0, .inl (kI, 40760, .inl fi)), (b1, .inl (kI, 40760, .inl fr))] sz) := by
  refine Met.ofW (cc := cX11_copyTo) (maxL := 3) (ret := none) (by decide) rfl ?_
  intro p e s m args0 below meth c s₁ B hml hv
  obtain ⟨hargs, hsz, hP, hE, hD0⟩ := hv
  have hx := B.exec
  have hb := B.bytes
  have hr := B.returns
  have hts := atoms_spec (ws := wsX11_copyTo) B.pre
  have hown : s.vm.findClass RX11 = some m.cls := findClass_of_methodNamed B.named
  have hlocks := B.notSynchronized
  have hK := hE.1
  subst hsz
  have hD := hD0.self (sz := s.heap.size)
  generalize hAe : va_A [(b0, .inl (kI, 40760, .inl fi)), (b1, .inl (kI, 40760, .inl fr))] s.heap.size = A at hD ⊢
  have hA : ∀ q : Nat, s.heap.size ≤ q → A q := fun q h => by rw [← hAe]; exact Or.inr h
  have hS : va_S A s.heap s.heap [] := va_S.rf
  have hP : va_P (dC, dI) vwCl [(b0, .inl (kI, 40760, .inl fi)), (b1, .inl (kI, 40760, .inl fr))] s.heap := hP
  have hl := lv_entry ([.ref b0, .ref b1]) (n := 3) (Nat.le_of_ble_eq_true rfl)
  have hla : entryFrame m args0 3 = entryFrame m ([.ref b0, .ref b1] : List Value).toArray 3 := by rw [hargs]
  rw [hla, lg_entry_eq]
  generalize (lg_sl ([.ref b0, .ref b1]) ++ List.replicate (3 - (lg_sl ([.ref b0, .ref b1])).length) Slot.unset).toArray = ls at hl ⊢
  have hl : lv_has ls 3 [(0, .ref b0), (1, .ref b1)] := hl
  have hJ2 : ∀ (n : Nat) (g2_0 : Nat → Int32) (v2_loc2 : Int32) (H : Heap) (locs : List Loc) (ls : Array Slot), (40760 - v2_loc2.toInt).toNat < n → fI lPast hPast g2_0 → iv 0 40760 v2_loc2 → va_P (dC, dI) vwCl [(b0, .inl (kI, 40760, .inl g2_0)), (b1, .inl (kI, 40760, .inl fr))] H → va_D A [(b0, .inl (kI, 40760, .inl g2_0)), (b1, .inl (kI, 40760, .inl fr))] → va_S A s.heap H locs → lv_has ls 3 [(0, .ref b0), (1, .ref b1), (2, .int v2_loc2)] → W p l e (headSpec wsX11_copyTo rm_s11_copyTo_past).room s m args0 below meth c H locs (0) (0) (MQ below (va_Qv (fun (_ : Unit) => True) (fun _ t => ∃ (fi' : Nat → Int32), fI lPast hPast fi' ∧ va_P (dC, dI) vwCl [(b0, .inl (kI, 40760, .inl fi')), (b1, .inl (kI, 40760, .inl fr))] t.heap ∧ va_D A [(b0, .inl (kI, 40760, .inl fi')), (b1, .inl (kI, 40760, .inl fr))]) A) args0 s 0 0 A) (F0 m 2 ls []) := by
    intro n
    induction n with
    | zero => intro g2_0 v2_loc2 H locs ls hm2; exact absurd hm2 (Nat.not_lt_zero _)
    | succ n ih2 =>
      intro g2_0 v2_loc2 H locs ls hm2 hI2_0 h2_2 hP hD hS hl
      refine lv_iload_n hx hb dX11_copyTo_2 rfl (lv_at hl 2 rfl) ?_
      refine lv_aload_n hx hb dX11_copyTo_3 rfl (lv_at hl 0 rfl) ?_
      refine va_alen (v := 40760) hx hb hK hP 0 1 rfl rfl rfl dX11_copyTo_4 ?_
      refine lv_icmp_ge (tgt := 20) hx hb dX11_copyTo_5 rfl (fun c1 => ?_) (fun c1 => ?_)
      · have b2 : iv 40760 40760 v2_loc2 := iv_leR c1 (iv_k (by decide) (by decide) : iv 40760 40760 40760) h2_2 (by decide) (by decide)
        have hP9 := hP
        have hD9 := hD
        exact W.vret hx hb hr (fun t ht hW => ⟨⟨(), rfl, trivial, g2_0, hI2_0, by rw [ht]; exact hP9, hD9⟩, hS.F ht⟩) hS.2.2 dX11_copyTo_20
      · have b3 : iv 0 40759 v2_loc2 := iv_ltL (Int32.not_le.mp c1) h2_2 (iv_k (by decide) (by decide) : iv 40760 40760 40760) (by decide) (by decide)
        refine lv_aload_n hx hb dX11_copyTo_8 rfl (lv_at hl 0 rfl) ?_
        refine lv_iload_n hx hb dX11_copyTo_9 rfl (lv_at hl 2 rfl) ?_
        refine lv_aload_n hx hb dX11_copyTo_10 rfl (lv_at hl 1 rfl) ?_
        refine lv_iload_n hx hb dX11_copyTo_11 rfl (lv_at hl 2 rfl) ?_
        refine va_iald hx hb hK hP 1 1 rfl rfl (iv_in b3 (by decide) (by decide)) dX11_copyTo_12 ?_
        refine va_iast hx hb hK hP hD hS 0 1 rfl rfl (iv_in b3 (by decide) (by decide)) dX11_copyTo_13 (fun H locs hPa hDa hS => ?_)
        clear hP hD
        have hP : va_P (dC, dI) vwCl [(b0, .inl (kI, 40760, .inl (upd g2_0 v2_loc2.toNatClampNeg (fr v2_loc2.toNatClampNeg)))), (b1, .inl (kI, 40760, .inl fr))] H := hPa
        have hD : va_D A [(b0, .inl (kI, 40760, .inl (upd g2_0 v2_loc2.toNatClampNeg (fr v2_loc2.toNatClampNeg)))), (b1, .inl (kI, 40760, .inl fr))] := hDa
        clear hPa hDa
        have hf5 : fI lPast hPast (upd g2_0 v2_loc2.toNatClampNeg (fr v2_loc2.toNatClampNeg)) := fI_u hI2_0 (hfr _)
        generalize (upd g2_0 v2_loc2.toNatClampNeg (fr v2_loc2.toNatClampNeg)) = f4 at hP hD hf5
        refine lv_iinc (v := v2_loc2 + Int32.ofInt 1) (lv' := [(2, .int (v2_loc2 + Int32.ofInt 1)), (0, .ref b0), (1, .ref b1)]) hx hb dX11_copyTo_14 hl (k := 2) rfl (rfl) (Nat.le_of_ble_eq_true rfl) rfl (fun ls hl => ?_)
        have b6 : iv 1 40760 (v2_loc2 + Int32.ofInt 1) := iv_add b3 ivo_1 (by decide) (by decide) (by decide) (by decide)
        refine lv_goto (tgt := 2) hx hb dX11_copyTo_17 rfl ?_
        exact ih2 f4 (v2_loc2 + Int32.ofInt 1) _ _ _ (ms_up (c := 1) (d := 0) b3 hm2 (by decide) (iv_inc 1 b3 (by decide) (by decide) (by decide) (by decide)) (by decide) rfl) (hf5) ((iv_w b6 (by decide) (by decide))) (hP) (hD) hS (lv_sub hl [1, 2, 0] rfl)
  refine lv_iconst (v := 0) hx hb dX11_copyTo_0 ic_0 ?_
  refine lv_istore_n (lv' := [(2, .int 0), (0, .ref b0), (1, .ref b1)]) hx hb dX11_copyTo_1 rfl hl (Nat.le_of_ble_eq_true rfl) rfl (fun ls hl => ?_)
  exact hJ2 _ fi 0 _ _ _ (Nat.lt_succ_self _) (hfi) ((iv_w ivk_0 (by decide) (by decide))) (hP) (hD) hS (lv_sub hl [1, 2, 0] rfl)
def rm_s11_copyTo_port : Room := { frames := 0, cells := 0, slots := 0, locals := 0 }
set_option maxHeartbeats 4000000 in
set_option maxRecDepth 100000 in
theorem s11_copyTo_port (l : Launch) (dC : Nat → ClassId) (dI : Nat → Nat → Nat) (kB kI kJ kZ kC kS : ClassId) (sz : Nat) (b0 : Nat) (b1 : Nat) (fi : Nat → Int32) (fr : Nat → Int32) (hfi : fI (fun _ => 0) (fun _ => 31) fi) (hfr : fI (fun _ => 0) (fun _ => 31) fr) : Met l yX11_copyTo wsX11_copyTo rm_s11_copyTo_port (va_Pc [.ref b0, .ref b1] (fun U => U.heap.size = sz ∧ va_P (dC, dI) vwCl [(b0, .inl (kI, 8, .inl fi)), (b1, .inl (kI, 8, .inl fr))] U.heap ∧ kE dC dI kB kI kJ kZ kC kS U ∧ va_D (fun _ => True) [(b0, .inl (kI, 8, .inl fi)), (b1, .inl (kI, 8, .inl fr))])) (va_Qv (fun (_ : Unit) => True) (fun _ t => ∃ (fi' : Nat → Int32), fI (fun _ => 0) (fun _ => 31) fi' ∧ va_P (dC, dI) vwCl [(b0, .inl (kI, 8, .inl fi')), (b1, .inl (kI, 8, .inl fr))] t.heap ∧ va_D (va_A [(b0, .inl (kI, 8, .inl fi)), (b1, .inl (kI, 8, .inl fr))] sz) [(b0, .inl (kI, 8, .inl fi')), (b1, .inl (kI, 8, .inl fr))]) (va_A [(b0, .inl (kI, 8, .inl fi)), (b1, .inl (kI, 8, .inl fr))] sz)) 0 0 (va_A [(b0, .inl (kI, 8, .inl fi)), (b1, .inl (kI, 8, .inl fr))] sz) := by
  refine Met.ofW (cc := cX11_copyTo) (maxL := 3) (ret := none) (by decide) rfl ?_
  intro p e s m args0 below meth c s₁ B hml hv
  obtain ⟨hargs, hsz, hP, hE, hD0⟩ := hv
  have hx := B.exec
  have hb := B.bytes
  have hr := B.returns
  have hts := atoms_spec (ws := wsX11_copyTo) B.pre
  have hown : s.vm.findClass RX11 = some m.cls := findClass_of_methodNamed B.named
  have hlocks := B.notSynchronized
  have hK := hE.1
  subst hsz
  have hD := hD0.self (sz := s.heap.size)
  generalize hAe : va_A [(b0, .inl (kI, 8, .inl fi)), (b1, .inl (kI, 8, .inl fr))] s.heap.size = A at hD ⊢
  have hA : ∀ q : Nat, s.heap.size ≤ q → A q := fun q h => by rw [← hAe]; exact Or.inr h
  have hS : va_S A s.heap s.heap [] := va_S.rf
  have hP : va_P (dC, dI) vwCl [(b0, .inl (kI, 8, .inl fi)), (b1, .inl (kI, 8, .inl fr))] s.heap := hP
  have hl := lv_entry ([.ref b0, .ref b1]) (n := 3) (Nat.le_of_ble_eq_true rfl)
  have hla : entryFrame m args0 3 = entryFrame m ([.ref b0, .ref b1] : List Value).toArray 3 := by rw [hargs]
  rw [hla, lg_entry_eq]
  generalize (lg_sl ([.ref b0, .ref b1]) ++ List.replicate (3 - (lg_sl ([.ref b0, .ref b1])).length) Slot.unset).toArray = ls at hl ⊢
  have hl : lv_has ls 3 [(0, .ref b0), (1, .ref b1)] := hl
  have hJ2 : ∀ (n : Nat) (g2_0 : Nat → Int32) (v2_loc2 : Int32) (H : Heap) (locs : List Loc) (ls : Array Slot), (8 - v2_loc2.toInt).toNat < n → fI (fun _ => 0) (fun _ => 31) g2_0 → iv 0 8 v2_loc2 → va_P (dC, dI) vwCl [(b0, .inl (kI, 8, .inl g2_0)), (b1, .inl (kI, 8, .inl fr))] H → va_D A [(b0, .inl (kI, 8, .inl g2_0)), (b1, .inl (kI, 8, .inl fr))] → va_S A s.heap H locs → lv_has ls 3 [(0, .ref b0), (1, .ref b1), (2, .int v2_loc2)] → W p l e (headSpec wsX11_copyTo rm_s11_copyTo_port).room s m args0 below meth c H locs (0) (0) (MQ below (va_Qv (fun (_ : Unit) => True) (fun _ t => ∃ (fi' : Nat → Int32), fI (fun _ => 0) (fun _ => 31) fi' ∧ va_P (dC, dI) vwCl [(b0, .inl (kI, 8, .inl fi')), (b1, .inl (kI, 8, .inl fr))] t.heap ∧ va_D A [(b0, .inl (kI, 8, .inl fi')), (b1, .inl (kI, 8, .inl fr))]) A) args0 s 0 0 A) (F0 m 2 ls []) := by
    intro n
    induction n with
    | zero => intro g2_0 v2_loc2 H locs ls hm2; exact absurd hm2 (Nat.not_lt_zero _)
    | succ n ih2 =>
      intro g2_0 v2_loc2 H locs ls hm2 hI2_0 h2_2 hP hD hS hl
      refine lv_iload_n hx hb dX11_copyTo_2 rfl (lv_at hl 2 rfl) ?_
      refine lv_aload_n hx hb dX11_copyTo_3 rfl (lv_at hl 0 rfl) ?_
      refine va_alen (v := 8) hx hb hK hP 0 1 rfl rfl rfl dX11_copyTo_4 ?_
      refine lv_icmp_ge (tgt := 20) hx hb dX11_copyTo_5 rfl (fun c1 => ?_) (fun c1 => ?_)
      · have b2 : iv 8 8 v2_loc2 := iv_leR c1 ivk_8 h2_2 (by decide) (by decide)
        have hP9 := hP
        have hD9 := hD
        exact W.vret hx hb hr (fun t ht hW => ⟨⟨(), rfl, trivial, g2_0, hI2_0, by rw [ht]; exact hP9, hD9⟩, hS.F ht⟩) hS.2.2 dX11_copyTo_20
      · have b3 : iv 0 7 v2_loc2 := iv_ltL (Int32.not_le.mp c1) h2_2 ivk_8 (by decide) (by decide)
        refine lv_aload_n hx hb dX11_copyTo_8 rfl (lv_at hl 0 rfl) ?_
        refine lv_iload_n hx hb dX11_copyTo_9 rfl (lv_at hl 2 rfl) ?_
        refine lv_aload_n hx hb dX11_copyTo_10 rfl (lv_at hl 1 rfl) ?_
        refine lv_iload_n hx hb dX11_copyTo_11 rfl (lv_at hl 2 rfl) ?_
        refine va_iald hx hb hK hP 1 1 rfl rfl (iv_in b3 (by decide) (by decide)) dX11_copyTo_12 ?_
        have b4 : iv 0 31 (fr v2_loc2.toNatClampNeg) := hfr _
        refine va_iast hx hb hK hP hD hS 0 1 rfl rfl (iv_in b3 (by decide) (by decide)) dX11_copyTo_13 (fun H locs hPa hDa hS => ?_)
        clear hP hD
        have hP : va_P (dC, dI) vwCl [(b0, .inl (kI, 8, .inl (upd g2_0 v2_loc2.toNatClampNeg (fr v2_loc2.toNatClampNeg)))), (b1, .inl (kI, 8, .inl fr))] H := hPa
        have hD : va_D A [(b0, .inl (kI, 8, .inl (upd g2_0 v2_loc2.toNatClampNeg (fr v2_loc2.toNatClampNeg)))), (b1, .inl (kI, 8, .inl fr))] := hDa
        clear hPa hDa
        have hf6 : fI (fun _ => 0) (fun _ => 31) (upd g2_0 v2_loc2.toNatClampNeg (fr v2_loc2.toNatClampNeg)) := fI_u hI2_0 (hfr _)
        generalize (upd g2_0 v2_loc2.toNatClampNeg (fr v2_loc2.toNatClampNeg)) = f5 at hP hD hf6
        refine lv_iinc (v := v2_loc2 + Int32.ofInt 1) (lv' := [(2, .int (v2_loc2 + Int32.ofInt 1)), (0, .ref b0), (1, .ref b1)]) hx hb dX11_copyTo_14 hl (k := 2) rfl (rfl) (Nat.le_of_ble_eq_true rfl) rfl (fun ls hl => ?_)
        have b7 : iv 1 8 (v2_loc2 + Int32.ofInt 1) := iv_add b3 ivo_1 (by decide) (by decide) (by decide) (by decide)
        refine lv_goto (tgt := 2) hx hb dX11_copyTo_17 rfl ?_
        exact ih2 f5 (v2_loc2 + Int32.ofInt 1) _ _ _ (ms_up (c := 1) (d := 0) b3 hm2 (by decide) (iv_inc 1 b3 (by decide) (by decide) (by decide) (by decide)) (by decide) rfl) (hf6) ((iv_w b7 (by decide) (by decide))) (hP) (hD) hS (lv_sub hl [1, 2, 0] rfl)
  refine lv_iconst (v := 0) hx hb dX11_copyTo_0 ic_0 ?_
  refine lv_istore_n (lv' := [(2, .int 0), (0, .ref b0), (1, .ref b1)]) hx hb dX11_copyTo_1 rfl hl (Nat.le_of_ble_eq_true rfl) rfl (fun ls hl => ?_)
  exact hJ2 _ fi 0 _ _ _ (Nat.lt_succ_self _) (hfi) ((iv_w ivk_0 (by decide) (by decide))) (hP) (hD) hS (lv_sub hl [1, 2, 0] rfl)
def rm_s11_copyTo_goal : Room := { frames := 0, cells := 0, slots := 0, locals := 0 }
set_option maxHeartbeats 4000000 in
set_option maxRecDepth 100000 in
theorem s11_copyTo_goal (l : Launch) (dC : Nat → ClassId) (dI : Nat → Nat → Nat) (kB kI kJ kZ kC kS : ClassId) (sz : Nat) (b0 : Nat) (b1 : Nat) (fi : Nat → Int32) (fr : Nat → Int32) (hfi : fI (fun _ => 0) (fun _ => 2) fi) (hfr : fI (fun _ => 0) (fun _ => 2) fr) : Met l yX11_copyTo wsX11_copyTo rm_s11_copyTo_goal (va_Pc [.ref b0, .ref b1] (fun U => U.heap.size = sz ∧ va_P (dC, dI) vwCl [(b0, .inl (kI, 8, .inl fi)), (b1, .inl (kI, 8, .inl fr))] U.heap ∧ kE dC dI kB kI kJ kZ kC kS U ∧ va_D (fun _ => True) [(b0, .inl (kI, 8, .inl fi)), (b1, .inl (kI, 8, .inl fr))])) (va_Qv (fun (_ : Unit) => True) (fun _ t => ∃ (fi' : Nat → Int32), fI (fun _ => 0) (fun _ => 2) fi' ∧ va_P (dC, dI) vwCl [(b0, .inl (kI, 8, .inl fi')), (b1, .inl (kI, 8, .inl fr))] t.heap ∧ va_D (va_A [(b0, .inl (kI, 8, .inl fi)), (b1, .inl (kI, 8, .inl fr))] sz) [(b0, .inl (kI, 8, .inl fi')), (b1, .inl (kI, 8, .inl fr))]) (va_A [(b0, .inl (kI, 8, .inl fi)), (b1, .inl (kI, 8, .inl fr))] sz)) 0 0 (va_A [(b0, .inl (kI, 8, .inl fi)), (b1, .inl (kI, 8, .inl fr))] sz) := by
  refine Met.ofW (cc := cX11_copyTo) (maxL := 3) (ret := none) (by decide) rfl ?_
  intro p e s m args0 below meth c s₁ B hml hv
  obtain ⟨hargs, hsz, hP, hE, hD0⟩ := hv
  have hx := B.exec
  have hb := B.bytes
  have hr := B.returns
  have hts := atoms_spec (ws := wsX11_copyTo) B.pre
  have hown : s.vm.findClass RX11 = some m.cls := findClass_of_methodNamed B.named
  have hlocks := B.notSynchronized
  have hK := hE.1
  subst hsz
  have hD := hD0.self (sz := s.heap.size)
  generalize hAe : va_A [(b0, .inl (kI, 8, .inl fi)), (b1, .inl (kI, 8, .inl fr))] s.heap.size = A at hD ⊢
  have hA : ∀ q : Nat, s.heap.size ≤ q → A q := fun q h => by rw [← hAe]; exact Or.inr h
  have hS : va_S A s.heap s.heap [] := va_S.rf
  have hP : va_P (dC, dI) vwCl [(b0, .inl (kI, 8, .inl fi)), (b1, .inl (kI, 8, .inl fr))] s.heap := hP
  have hl := lv_entry ([.ref b0, .ref b1]) (n := 3) (Nat.le_of_ble_eq_true rfl)
  have hla : entryFrame m args0 3 = entryFrame m ([.ref b0, .ref b1] : List Value).toArray 3 := by rw [hargs]
  rw [hla, lg_entry_eq]
  generalize (lg_sl ([.ref b0, .ref b1]) ++ List.replicate (3 - (lg_sl ([.ref b0, .ref b1])).length) Slot.unset).toArray = ls at hl ⊢
  have hl : lv_has ls 3 [(0, .ref b0), (1, .ref b1)] := hl
  have hJ2 : ∀ (n : Nat) (g2_0 : Nat → Int32) (v2_loc2 : Int32) (H : Heap) (locs : List Loc) (ls : Array Slot), (8 - v2_loc2.toInt).toNat < n → fI (fun _ => 0) (fun _ => 2) g2_0 → iv 0 8 v2_loc2 → va_P (dC, dI) vwCl [(b0, .inl (kI, 8, .inl g2_0)), (b1, .inl (kI, 8, .inl fr))] H → va_D A [(b0, .inl (kI, 8, .inl g2_0)), (b1, .inl (kI, 8, .inl fr))] → va_S A s.heap H locs → lv_has ls 3 [(0, .ref b0), (1, .ref b1), (2, .int v2_loc2)] → W p l e (headSpec wsX11_copyTo rm_s11_copyTo_goal).room s m args0 below meth c H locs (0) (0) (MQ below (va_Qv (fun (_ : Unit) => True) (fun _ t => ∃ (fi' : Nat → Int32), fI (fun _ => 0) (fun _ => 2) fi' ∧ va_P (dC, dI) vwCl [(b0, .inl (kI, 8, .inl fi')), (b1, .inl (kI, 8, .inl fr))] t.heap ∧ va_D A [(b0, .inl (kI, 8, .inl fi')), (b1, .inl (kI, 8, .inl fr))]) A) args0 s 0 0 A) (F0 m 2 ls []) := by
    intro n
    induction n with
    | zero => intro g2_0 v2_loc2 H locs ls hm2; exact absurd hm2 (Nat.not_lt_zero _)
    | succ n ih2 =>
      intro g2_0 v2_loc2 H locs ls hm2 hI2_0 h2_2 hP hD hS hl
      refine lv_iload_n hx hb dX11_copyTo_2 rfl (lv_at hl 2 rfl) ?_
      refine lv_aload_n hx hb dX11_copyTo_3 rfl (lv_at hl 0 rfl) ?_
      refine va_alen (v := 8) hx hb hK hP 0 1 rfl rfl rfl dX11_copyTo_4 ?_
      refine lv_icmp_ge (tgt := 20) hx hb dX11_copyTo_5 rfl (fun c1 => ?_) (fun c1 => ?_)
      · have b2 : iv 8 8 v2_loc2 := iv_leR c1 ivk_8 h2_2 (by decide) (by decide)
        have hP9 := hP
        have hD9 := hD
        exact W.vret hx hb hr (fun t ht hW => ⟨⟨(), rfl, trivial, g2_0, hI2_0, by rw [ht]; exact hP9, hD9⟩, hS.F ht⟩) hS.2.2 dX11_copyTo_20
      · have b3 : iv 0 7 v2_loc2 := iv_ltL (Int32.not_le.mp c1) h2_2 ivk_8 (by decide) (by decide)
        refine lv_aload_n hx hb dX11_copyTo_8 rfl (lv_at hl 0 rfl) ?_
        refine lv_iload_n hx hb dX11_copyTo_9 rfl (lv_at hl 2 rfl) ?_
        refine lv_aload_n hx hb dX11_copyTo_10 rfl (lv_at hl 1 rfl) ?_
        refine lv_iload_n hx hb dX11_copyTo_11 rfl (lv_at hl 2 rfl) ?_
        refine va_iald hx hb hK hP 1 1 rfl rfl (iv_in b3 (by decide) (by decide)) dX11_copyTo_12 ?_
        have b4 : iv 0 2 (fr v2_loc2.toNatClampNeg) := hfr _
        refine va_iast hx hb hK hP hD hS 0 1 rfl rfl (iv_in b3 (by decide) (by decide)) dX11_copyTo_13 (fun H locs hPa hDa hS => ?_)
        clear hP hD
        have hP : va_P (dC, dI) vwCl [(b0, .inl (kI, 8, .inl (upd g2_0 v2_loc2.toNatClampNeg (fr v2_loc2.toNatClampNeg)))), (b1, .inl (kI, 8, .inl fr))] H := hPa
        have hD : va_D A [(b0, .inl (kI, 8, .inl (upd g2_0 v2_loc2.toNatClampNeg (fr v2_loc2.toNatClampNeg)))), (b1, .inl (kI, 8, .inl fr))] := hDa
        clear hPa hDa
        have hf6 : fI (fun _ => 0) (fun _ => 2) (upd g2_0 v2_loc2.toNatClampNeg (fr v2_loc2.toNatClampNeg)) := fI_u hI2_0 (hfr _)
        generalize (upd g2_0 v2_loc2.toNatClampNeg (fr v2_loc2.toNatClampNeg)) = f5 at hP hD hf6
        refine lv_iinc (v := v2_loc2 + Int32.ofInt 1) (lv' := [(2, .int (v2_loc2 + Int32.ofInt 1)), (0, .ref b0), (1, .ref b1)]) hx hb dX11_copyTo_14 hl (k := 2) rfl (rfl) (Nat.le_of_ble_eq_true rfl) rfl (fun ls hl => ?_)
        have b7 : iv 1 8 (v2_loc2 + Int32.ofInt 1) := iv_add b3 ivo_1 (by decide) (by decide) (by decide) (by decide)
        refine lv_goto (tgt := 2) hx hb dX11_copyTo_17 rfl ?_
        exact ih2 f5 (v2_loc2 + Int32.ofInt 1) _ _ _ (ms_up (c := 1) (d := 0) b3 hm2 (by decide) (iv_inc 1 b3 (by decide) (by decide) (by decide) (by decide)) (by decide) rfl) (hf6) ((iv_w b7 (by decide) (by decide))) (hP) (hD) hS (lv_sub hl [1, 2, 0] rfl)
  refine lv_iconst (v := 0) hx hb dX11_copyTo_0 ic_0 ?_
  refine lv_istore_n (lv' := [(2, .int 0), (0, .ref b0), (1, .ref b1)]) hx hb dX11_copyTo_1 rfl hl (Nat.le_of_ble_eq_true rfl) rfl (fun ls hl => ?_)
  exact hJ2 _ fi 0 _ _ _ (Nat.lt_succ_self _) (hfi) ((iv_w ivk_0 (by decide) (by decide))) (hP) (hD) hS (lv_sub hl [1, 2, 0] rfl)
def rm_s11_copyTo_any8 : Room := { frames := 0, cells := 0, slots := 0, locals := 0 }
set_option maxHeartbeats 4000000 in
set_option maxRecDepth 100000 in
theorem s11_copyTo_any8 (l : Launch) (dC : Nat → ClassId) (dI : Nat → Nat → Nat) (kB kI kJ kZ kC kS : ClassId) (sz : Nat) (b0 : Nat) (b1 : Nat) (fi : Nat → Int32) (fr : Nat → Int32) : Met l yX11_copyTo wsX11_copyTo rm_s11_copyTo_any8 (va_Pc [.ref b0, .ref b1] (fun U => U.heap.size = sz ∧ va_P (dC, dI) vwCl [(b0, .inl (kI, 8, .inl fi)), (b1, .inl (kI, 8, .inl fr))] U.heap ∧ kE dC dI kB kI kJ kZ kC kS U ∧ va_D (fun _ => True) [(b0, .inl (kI, 8, .inl fi)), (b1, .inl (kI, 8, .inl fr))])) (va_Qv (fun (_ : Unit) => True) (fun _ t => ∃ (fi' : Nat → Int32), va_P (dC, dI) vwCl [(b0, .inl (kI, 8, .inl fi')), (b1, .inl (kI, 8, .inl fr))] t.heap ∧ va_D (va_A [(b0, .inl (kI, 8, .inl fi)), (b1, .inl (kI, 8, .inl fr))] sz) [(b0, .inl (kI, 8, .inl fi')), (b1, .inl (kI, 8, .inl fr))]) (va_A [(b0, .inl (kI, 8, .inl fi)), (b1, .inl (kI, 8, .inl fr))] sz)) 0 0 (va_A [(b0, .inl (kI, 8, .inl fi)), (b1, .inl (kI, 8, .inl fr))] sz) := by
  refine Met.ofW (cc := cX11_copyTo) (maxL := 3) (ret := none) (by decide) rfl ?_
  intro p e s m args0 below meth c s₁ B hml hv
  obtain ⟨hargs, hsz, hP, hE, hD0⟩ := hv
  have hx := B.exec
  have hb := B.bytes
  have hr := B.returns
  have hts := atoms_spec (ws := wsX11_copyTo) B.pre
  have hown : s.vm.findClass RX11 = some m.cls := findClass_of_methodNamed B.named
  have hlocks := B.notSynchronized
  have hK := hE.1
  subst hsz
  have hD := hD0.self (sz := s.heap.size)
  generalize hAe : va_A [(b0, .inl (kI, 8, .inl fi)), (b1, .inl (kI, 8, .inl fr))] s.heap.size = A at hD ⊢
  have hA : ∀ q : Nat, s.heap.size ≤ q → A q := fun q h => by rw [← hAe]; exact Or.inr h
  have hS : va_S A s.heap s.heap [] := va_S.rf
  have hP : va_P (dC, dI) vwCl [(b0, .inl (kI, 8, .inl fi)), (b1, .inl (kI, 8, .inl fr))] s.heap := hP
  have hl := lv_entry ([.ref b0, .ref b1]) (n := 3) (Nat.le_of_ble_eq_true rfl)
  have hla : entryFrame m args0 3 = entryFrame m ([.ref b0, .ref b1] : List Value).toArray 3 := by rw [hargs]
  rw [hla, lg_entry_eq]
  generalize (lg_sl ([.ref b0, .ref b1]) ++ List.replicate (3 - (lg_sl ([.ref b0, .ref b1])).length) Slot.unset).toArray = ls at hl ⊢
  have hl : lv_has ls 3 [(0, .ref b0), (1, .ref b1)] := hl
  have hJ2 : ∀ (n : Nat) (g2_0 : Nat → Int32) (v2_loc2 : Int32) (H : Heap) (locs : List Loc) (ls : Array Slot), (8 - v2_loc2.toInt).toNat < n → iv 0 8 v2_loc2 → va_P (dC, dI) vwCl [(b0, .inl (kI, 8, .inl g2_0)), (b1, .inl (kI, 8, .inl fr))] H → va_D A [(b0, .inl (kI, 8, .inl g2_0)), (b1, .inl (kI, 8, .inl fr))] → va_S A s.heap H locs → lv_has ls 3 [(0, .ref b0), (1, .ref b1), (2, .int v2_loc2)] → W p l e (headSpec wsX11_copyTo rm_s11_copyTo_any8).room s m args0 below meth c H locs (0) (0) (MQ below (va_Qv (fun (_ : Unit) => True) (fun _ t => ∃ (fi' : Nat → Int32), va_P (dC, dI) vwCl [(b0, .inl (kI, 8, .inl fi')), (b1, .inl (kI, 8, .inl fr))] t.heap ∧ va_D A [(b0, .inl (kI, 8, .inl fi')), (b1, .inl (kI, 8, .inl fr))]) A) args0 s 0 0 A) (F0 m 2 ls []) := by
    intro n
    induction n with
    | zero => intro g2_0 v2_loc2 H locs ls hm2; exact absurd hm2 (Nat.not_lt_zero _)
    | succ n ih2 =>
      intro g2_0 v2_loc2 H locs ls hm2 h2_1 hP hD hS hl
      refine lv_iload_n hx hb dX11_copyTo_2 rfl (lv_at hl 2 rfl) ?_
      refine lv_aload_n hx hb dX11_copyTo_3 rfl (lv_at hl 0 rfl) ?_
      refine va_alen (v := 8) hx hb hK hP 0 1 rfl rfl rfl dX11_copyTo_4 ?_
      refine lv_icmp_ge (tgt := 20) hx hb dX11_copyTo_5 rfl (fun c1 => ?_) (fun c1 => ?_)
      · have b2 : iv 8 8 v2_loc2 := iv_leR c1 ivk_8 h2_1 (by decide) (by decide)
        have hP9 := hP
        have hD9 := hD
        exact W.vret hx hb hr (fun t ht hW => ⟨⟨(), rfl, trivial, g2_0, by rw [ht]; exact hP9, hD9⟩, hS.F ht⟩) hS.2.2 dX11_copyTo_20
      · have b3 : iv 0 7 v2_loc2 := iv_ltL (Int32.not_le.mp c1) h2_1 ivk_8 (by decide) (by decide)
        refine lv_aload_n hx hb dX11_copyTo_8 rfl (lv_at hl 0 rfl) ?_
        refine lv_iload_n hx hb dX11_copyTo_9 rfl (lv_at hl 2 rfl) ?_
        refine lv_aload_n hx hb dX11_copyTo_10 rfl (lv_at hl 1 rfl) ?_
        refine lv_iload_n hx hb dX11_copyTo_11 rfl (lv_at hl 2 rfl) ?_
        refine va_iald hx hb hK hP 1 1 rfl rfl (iv_in b3 (by decide) (by decide)) dX11_copyTo_12 ?_
        refine va_iast hx hb hK hP hD hS 0 1 rfl rfl (iv_in b3 (by decide) (by decide)) dX11_copyTo_13 (fun H locs hPa hDa hS => ?_)
        clear hP hD
        have hP : va_P (dC, dI) vwCl [(b0, .inl (kI, 8, .inl (upd g2_0 v2_loc2.toNatClampNeg (fr v2_loc2.toNatClampNeg)))), (b1, .inl (kI, 8, .inl fr))] H := hPa
        have hD : va_D A [(b0, .inl (kI, 8, .inl (upd g2_0 v2_loc2.toNatClampNeg (fr v2_loc2.toNatClampNeg)))), (b1, .inl (kI, 8, .inl fr))] := hDa
        clear hPa hDa
        generalize (upd g2_0 v2_loc2.toNatClampNeg (fr v2_loc2.toNatClampNeg)) = f4 at hP hD
        refine lv_iinc (v := v2_loc2 + Int32.ofInt 1) (lv' := [(2, .int (v2_loc2 + Int32.ofInt 1)), (0, .ref b0), (1, .ref b1)]) hx hb dX11_copyTo_14 hl (k := 2) rfl (rfl) (Nat.le_of_ble_eq_true rfl) rfl (fun ls hl => ?_)
        have b5 : iv 1 8 (v2_loc2 + Int32.ofInt 1) := iv_add b3 ivo_1 (by decide) (by decide) (by decide) (by decide)
        refine lv_goto (tgt := 2) hx hb dX11_copyTo_17 rfl ?_
        exact ih2 f4 (v2_loc2 + Int32.ofInt 1) _ _ _ (ms_up (c := 1) (d := 0) b3 hm2 (by decide) (iv_inc 1 b3 (by decide) (by decide) (by decide) (by decide)) (by decide) rfl) ((iv_w b5 (by decide) (by decide))) (hP) (hD) hS (lv_sub hl [1, 2, 0] rfl)
  refine lv_iconst (v := 0) hx hb dX11_copyTo_0 ic_0 ?_
  refine lv_istore_n (lv' := [(2, .int 0), (0, .ref b0), (1, .ref b1)]) hx hb dX11_copyTo_1 rfl hl (Nat.le_of_ble_eq_true rfl) rfl (fun ls hl => ?_)
  exact hJ2 _ fi 0 _ _ _ (Nat.lt_succ_self _) ((iv_w ivk_0 (by decide) (by decide))) (hP) (hD) hS (lv_sub hl [1, 2, 0] rfl)
def rm_s11_copyTo_any3 : Room := { frames := 0, cells := 0, slots := 0, locals := 0 }
set_option maxHeartbeats 4000000 in
set_option maxRecDepth 100000 in
theorem s11_copyTo_any3 (l : Launch) (dC : Nat → ClassId) (dI : Nat → Nat → Nat) (kB kI kJ kZ kC kS : ClassId) (sz : Nat) (b0 : Nat) (b1 : Nat) (fi : Nat → Int32) (fr : Nat → Int32) : Met l yX11_copyTo wsX11_copyTo rm_s11_copyTo_any3 (va_Pc [.ref b0, .ref b1] (fun U => U.heap.size = sz ∧ va_P (dC, dI) vwCl [(b0, .inl (kI, 3, .inl fi)), (b1, .inl (kI, 3, .inl fr))] U.heap ∧ kE dC dI kB kI kJ kZ kC kS U ∧ va_D (fun _ => True) [(b0, .inl (kI, 3, .inl fi)), (b1, .inl (kI, 3, .inl fr))])) (va_Qv (fun (_ : Unit) => True) (fun _ t => ∃ (fi' : Nat → Int32), va_P (dC, dI) vwCl [(b0, .inl (kI, 3, .inl fi')), (b1, .inl (kI, 3, .inl fr))] t.heap ∧ va_D (va_A [(b0, .inl (kI, 3, .inl fi)), (b1, .inl (kI, 3, .inl fr))] sz) [(b0, .inl (kI, 3, .inl fi')), (b1, .inl (kI, 3, .inl fr))]) (va_A [(b0, .inl (kI, 3, .inl fi)), (b1, .inl (kI, 3, .inl fr))] sz)) 0 0 (va_A [(b0, .inl (kI, 3, .inl fi)), (b1, .inl (kI, 3, .inl fr))] sz) := by
  refine Met.ofW (cc := cX11_copyTo) (maxL := 3) (ret := none) (by decide) rfl ?_
  intro p e s m args0 below meth c s₁ B hml hv
  obtain ⟨hargs, hsz, hP, hE, hD0⟩ := hv
  have hx := B.exec
  have hb := B.bytes
  have hr := B.returns
  have hts := atoms_spec (ws := wsX11_copyTo) B.pre
  have hown : s.vm.findClass RX11 = some m.cls := findClass_of_methodNamed B.named
  have hlocks := B.notSynchronized
  have hK := hE.1
  subst hsz
  have hD := hD0.self (sz := s.heap.size)
  generalize hAe : va_A [(b0, .inl (kI, 3, .inl fi)), (b1, .inl (kI, 3, .inl fr))] s.heap.size = A at hD ⊢
  have hA : ∀ q : Nat, s.heap.size ≤ q → A q := fun q h => by rw [← hAe]; exact Or.inr h
  have hS : va_S A s.heap s.heap [] := va_S.rf
  have hP : va_P (dC, dI) vwCl [(b0, .inl (kI, 3, .inl fi)), (b1, .inl (kI, 3, .inl fr))] s.heap := hP
  have hl := lv_entry ([.ref b0, .ref b1]) (n := 3) (Nat.le_of_ble_eq_true rfl)
  have hla : entryFrame m args0 3 = entryFrame m ([.ref b0, .ref b1] : List Value).toArray 3 := by rw [hargs]
  rw [hla, lg_entry_eq]
  generalize (lg_sl ([.ref b0, .ref b1]) ++ List.replicate (3 - (lg_sl ([.ref b0, .ref b1])).length) Slot.unset).toArray = ls at hl ⊢
  have hl : lv_has ls 3 [(0, .ref b0), (1, .ref b1)] := hl
  have hJ2 : ∀ (n : Nat) (g2_0 : Nat → Int32) (v2_loc2 : Int32) (H : Heap) (locs : List Loc) (ls : Array Slot), (3 - v2_loc2.toInt).toNat < n → iv 0 3 v2_loc2 → va_P (dC, dI) vwCl [(b0, .inl (kI, 3, .inl g2_0)), (b1, .inl (kI, 3, .inl fr))] H → va_D A [(b0, .inl (kI, 3, .inl g2_0)), (b1, .inl (kI, 3, .inl fr))] → va_S A s.heap H locs → lv_has ls 3 [(0, .ref b0), (1, .ref b1), (2, .int v2_loc2)] → W p l e (headSpec wsX11_copyTo rm_s11_copyTo_any3).room s m args0 below meth c H locs (0) (0) (MQ below (va_Qv (fun (_ : Unit) => True) (fun _ t => ∃ (fi' : Nat → Int32), va_P (dC, dI) vwCl [(b0, .inl (kI, 3, .inl fi')), (b1, .inl (kI, 3, .inl fr))] t.heap ∧ va_D A [(b0, .inl (kI, 3, .inl fi')), (b1, .inl (kI, 3, .inl fr))]) A) args0 s 0 0 A) (F0 m 2 ls []) := by
    intro n
    induction n with
    | zero => intro g2_0 v2_loc2 H locs ls hm2; exact absurd hm2 (Nat.not_lt_zero _)
    | succ n ih2 =>
      intro g2_0 v2_loc2 H locs ls hm2 h2_1 hP hD hS hl
      refine lv_iload_n hx hb dX11_copyTo_2 rfl (lv_at hl 2 rfl) ?_
      refine lv_aload_n hx hb dX11_copyTo_3 rfl (lv_at hl 0 rfl) ?_
      refine va_alen (v := 3) hx hb hK hP 0 1 rfl rfl rfl dX11_copyTo_4 ?_
      refine lv_icmp_ge (tgt := 20) hx hb dX11_copyTo_5 rfl (fun c1 => ?_) (fun c1 => ?_)
      · have b2 : iv 3 3 v2_loc2 := iv_leR c1 ivk_3 h2_1 (by decide) (by decide)
        have hP9 := hP
        have hD9 := hD
        exact W.vret hx hb hr (fun t ht hW => ⟨⟨(), rfl, trivial, g2_0, by rw [ht]; exact hP9, hD9⟩, hS.F ht⟩) hS.2.2 dX11_copyTo_20
      · have b3 : iv 0 2 v2_loc2 := iv_ltL (Int32.not_le.mp c1) h2_1 ivk_3 (by decide) (by decide)
        refine lv_aload_n hx hb dX11_copyTo_8 rfl (lv_at hl 0 rfl) ?_
        refine lv_iload_n hx hb dX11_copyTo_9 rfl (lv_at hl 2 rfl) ?_
        refine lv_aload_n hx hb dX11_copyTo_10 rfl (lv_at hl 1 rfl) ?_
        refine lv_iload_n hx hb dX11_copyTo_11 rfl (lv_at hl 2 rfl) ?_
        refine va_iald hx hb hK hP 1 1 rfl rfl (iv_in b3 (by decide) (by decide)) dX11_copyTo_12 ?_
        refine va_iast hx hb hK hP hD hS 0 1 rfl rfl (iv_in b3 (by decide) (by decide)) dX11_copyTo_13 (fun H locs hPa hDa hS => ?_)
        clear hP hD
        have hP : va_P (dC, dI) vwCl [(b0, .inl (kI, 3, .inl (upd g2_0 v2_loc2.toNatClampNeg (fr v2_loc2.toNatClampNeg)))), (b1, .inl (kI, 3, .inl fr))] H := hPa
        have hD : va_D A [(b0, .inl (kI, 3, .inl (upd g2_0 v2_loc2.toNatClampNeg (fr v2_loc2.toNatClampNeg)))), (b1, .inl (kI, 3, .inl fr))] := hDa
        clear hPa hDa
        generalize (upd g2_0 v2_loc2.toNatClampNeg (fr v2_loc2.toNatClampNeg)) = f4 at hP hD
        refine lv_iinc (v := v2_loc2 + Int32.ofInt 1) (lv' := [(2, .int (v2_loc2 + Int32.ofInt 1)), (0, .ref b0), (1, .ref b1)]) hx hb dX11_copyTo_14 hl (k := 2) rfl (rfl) (Nat.le_of_ble_eq_true rfl) rfl (fun ls hl => ?_)
        have b5 : iv 1 3 (v2_loc2 + Int32.ofInt 1) := iv_add b3 ivo_1 (by decide) (by decide) (by decide) (by decide)
        refine lv_goto (tgt := 2) hx hb dX11_copyTo_17 rfl ?_
        exact ih2 f4 (v2_loc2 + Int32.ofInt 1) _ _ _ (ms_up (c := 1) (d := 0) b3 hm2 (by decide) (iv_inc 1 b3 (by decide) (by decide) (by decide) (by decide)) (by decide) rfl) ((iv_w b5 (by decide) (by decide))) (hP) (hD) hS (lv_sub hl [1, 2, 0] rfl)
  refine lv_iconst (v := 0) hx hb dX11_copyTo_0 ic_0 ?_
  refine lv_istore_n (lv' := [(2, .int 0), (0, .ref b0), (1, .ref b1)]) hx hb dX11_copyTo_1 rfl hl (Nat.le_of_ble_eq_true rfl) rfl (fun ls hl => ?_)
  exact hJ2 _ fi 0 _ _ _ (Nat.lt_succ_self _) ((iv_w ivk_0 (by decide) (by decide))) (hP) (hD) hS (lv_sub hl [1, 2, 0] rfl)
def rm_s11_clear : Room := { frames := 1, cells := 0, slots := 0, locals := 22 }
set_option maxHeartbeats 4000000 in
set_option maxRecDepth 100000 in
theorem s11_clear (l : Launch) (dC : Nat → ClassId) (dI : Nat → Nat → Nat) (kB kI kJ kZ kC kS : ClassId) (sz : Nat) (m0 : Nat) (ra : Nat → Nat) (x0 : Nat → Int32) (q_now : Nat → Int32) (q_past : Nat → Int32) (hX : fI lX11 hX11 x0) (hq_now : fI lNow hNow q_now) (hq_past : fI lPast hPast q_past) : Met l yX11_clear wsX11_clear rm_s11_clear (va_Pc [.ref m0] (fun U => U.heap.size = sz ∧ va_P (dC, dI) vwCl [(m0, .inr (11, oX11 ra x0)), (ra 11, .inl (kI, 1019, .inl q_now)), (ra 16, .inl (kI, 40760, .inl q_past))] U.heap ∧ kE dC dI kB kI kJ kZ kC kS U ∧ va_D (fun _ => True) [(m0, .inr (11, oX11 ra x0)), (ra 11, .inl (kI, 1019, .inl q_now)), (ra 16, .inl (kI, 40760, .inl q_past))])) (va_Qi (fun (r : Int32) (_ : Unit) => True) (fun _ t => ∃ (x0' : Nat → Int32) (q_now' : Nat → Int32) (q_past' : Nat → Int32), fI lX11 hX11 x0' ∧ fI lNow hNow q_now' ∧ fI lPast hPast q_past' ∧ (x0' 1 = x0 1) ∧ (x0' 10 = x0 10) ∧ (x0' 11 = x0 11) ∧ (x0' 14 = x0 14) ∧ va_P (dC, dI) vwCl [(m0, .inr (11, oX11 ra x0')), (ra 11, .inl (kI, 1019, .inl q_now')), (ra 16, .inl (kI, 40760, .inl q_past'))] t.heap ∧ va_D (va_A [(m0, .inr (11, oX11 ra x0)), (ra 11, .inl (kI, 1019, .inl q_now)), (ra 16, .inl (kI, 40760, .inl q_past))] sz) [(m0, .inr (11, oX11 ra x0')), (ra 11, .inl (kI, 1019, .inl q_now')), (ra 16, .inl (kI, 40760, .inl q_past'))]) (va_A [(m0, .inr (11, oX11 ra x0)), (ra 11, .inl (kI, 1019, .inl q_now)), (ra 16, .inl (kI, 40760, .inl q_past))] sz)) 0 0 (va_A [(m0, .inr (11, oX11 ra x0)), (ra 11, .inl (kI, 1019, .inl q_now)), (ra 16, .inl (kI, 40760, .inl q_past))] sz) := by
  refine Met.ofW (cc := cX11_clear) (maxL := 3) (ret := (some .int)) (by decide) rfl ?_
  intro p e s m args0 below meth c s₁ B hml hv
  obtain ⟨hargs, hsz, hP, hE, hD0⟩ := hv
  have hx := B.exec
  have hb := B.bytes
  have hr := B.returns
  have hts := atoms_spec (ws := wsX11_clear) B.pre
  have hown : s.vm.findClass RX11 = some m.cls := findClass_of_methodNamed B.named
  have hlocks := B.notSynchronized
  have hK := hE.1
  have hin11 : ∀ w ∈ wsX110, w ∈ wsX11_clear := fun _ h9 => List.mem_cons_of_mem _ (List.mem_append_right _ h9)
  have hw_0 := hts (.fieldLink RX11 60 "PathProberModel" "now" "[I") (List.mem_of_getElem? (i := 2) rfl)
  have hw_1 := hts (.fieldLink RX11 142 "PathProberModel" "code" "I") (List.mem_of_getElem? (i := 1) rfl)
  subst hsz
  have hD := hD0.self (sz := s.heap.size)
  generalize hAe : va_A [(m0, .inr (11, oX11 ra x0)), (ra 11, .inl (kI, 1019, .inl q_now)), (ra 16, .inl (kI, 40760, .inl q_past))] s.heap.size = A at hD ⊢
  have hA : ∀ q : Nat, s.heap.size ≤ q → A q := fun q h => by rw [← hAe]; exact Or.inr h
  have hS : va_S A s.heap s.heap [] := va_S.rf
  have hP : va_P (dC, dI) vwCl [(m0, .inr (11, oX11 ra x0)), (ra 11, .inl (kI, 1019, .inl q_now)), (ra 16, .inl (kI, 40760, .inl q_past))] s.heap := hP
  have hl := lv_entry ([.ref m0]) (n := 3) (Nat.le_of_ble_eq_true rfl)
  have hla : entryFrame m args0 3 = entryFrame m ([.ref m0] : List Value).toArray 3 := by rw [hargs]
  rw [hla, lg_entry_eq]
  generalize (lg_sl ([.ref m0]) ++ List.replicate (3 - (lg_sl ([.ref m0])).length) Slot.unset).toArray = ls at hl ⊢
  have hl : lv_has ls 3 [(0, .ref m0)] := hl
  have hJ41 : ∀ (n : Nat) (y41_0 : Nat → Int32) (g41_1 : Nat → Int32) (g41_2 : Nat → Int32) (v41_loc1 : Int32) (v41_loc2 : Int32) (H : Heap) (locs : List Loc) (ls : Array Slot), (1019 - v41_loc2.toInt).toNat < n → fI lX11 hX11 y41_0 → fI lNow hNow g41_1 → fI lPast hPast g41_2 → iv 59 1019 v41_loc2 → (y41_0 1 = x0 1) → (y41_0 10 = x0 10) → (y41_0 11 = x0 11) → (y41_0 14 = x0 14) → va_P (dC, dI) vwCl [(m0, .inr (11, oX11 ra y41_0)), (ra 11, .inl (kI, 1019, .inl g41_1)), (ra 16, .inl (kI, 40760, .inl g41_2))] H → va_D A [(m0, .inr (11, oX11 ra y41_0)), (ra 11, .inl (kI, 1019, .inl g41_1)), (ra 16, .inl (kI, 40760, .inl g41_2))] → va_S A s.heap H locs → lv_has ls 3 [(0, .ref m0), (1, .int v41_loc1), (2, .int v41_loc2)] → W p l e (headSpec wsX11_clear rm_s11_clear).room s m args0 below meth c H locs (0) (0) (MQ below (va_Qi (fun (r : Int32) (_ : Unit) => True) (fun _ t => ∃ (x0' : Nat → Int32) (q_now' : Nat → Int32) (q_past' : Nat → Int32), fI lX11 hX11 x0' ∧ fI lNow hNow q_now' ∧ fI lPast hPast q_past' ∧ (x0' 1 = x0 1) ∧ (x0' 10 = x0 10) ∧ (x0' 11 = x0 11) ∧ (x0' 14 = x0 14) ∧ va_P (dC, dI) vwCl [(m0, .inr (11, oX11 ra x0')), (ra 11, .inl (kI, 1019, .inl q_now')), (ra 16, .inl (kI, 40760, .inl q_past'))] t.heap ∧ va_D A [(m0, .inr (11, oX11 ra x0')), (ra 11, .inl (kI, 1019, .inl q_now')), (ra 16, .inl (kI, 40760, .inl q_past'))]) A) args0 s 0 0 A) (F0 m 41 ls []) := by
    intro n
    induction n with
    | zero => intro y41_0 g41_1 g41_2 v41_loc1 v41_loc2 H locs ls hm41; exact absurd hm41 (Nat.not_lt_zero _)
    | succ n ih41 =>
      intro y41_0 g41_1 g41_2 v41_loc1 v41_loc2 H locs ls hm41 hI41_0 hI41_1 hI41_2 h41_4 htp_41 hfp_41 hor_41 hirl_41 hP hD hS hl
      refine lv_iload_n hx hb dX11_clear_41 rfl (lv_at hl 2 rfl) ?_
      refine lv_sipush (v := 1019) hx hb dX11_clear_42 (by decide) ?_
      refine lv_icmp_ge (tgt := 61) hx hb dX11_clear_45 rfl (fun c1 => ?_) (fun c1 => ?_)
      · have b2 : iv 1019 1019 v41_loc2 := iv_leR c1 ivk_1019 h41_4 (by decide) (by decide)
        refine lv_iload_n hx hb dX11_clear_61 rfl (lv_at hl 1 rfl) ?_
        have hP9 := hP
        have hD9 := hD
        exact W.iret (v := v41_loc1) hx hb hr (fun t ht hW => ⟨⟨v41_loc1, (), rfl, trivial, y41_0, g41_1, g41_2, hI41_0, hI41_1, hI41_2, (show y41_0 1 = x0 1 from htp_41), (show y41_0 10 = x0 10 from hfp_41), (show y41_0 11 = x0 11 from hor_41), (show y41_0 14 = x0 14 from hirl_41), by rw [ht]; exact hP9, hD9⟩, hS.F ht⟩) hS.2.2 dX11_clear_62
      · have b3 : iv 59 1018 v41_loc2 := iv_ltL (Int32.not_le.mp c1) h41_4 ivk_1019 (by decide) (by decide)
        refine lv_aload_n hx hb dX11_clear_48 rfl (lv_at hl 0 rfl) ?_
        refine va_get (D := (dC, dI)) (ci := 11) (v := .ref (ra 11)) (C := RX11) (T := TX11) (N := 61) hx hb hts hin11 hown hK hP 0 rfl rfl 12 (Nat.le_of_ble_eq_true rfl) hw_0 (fun _ h9 => h9) rfl dX11_clear_49 ?_
        refine lv_iload_n hx hb dX11_clear_52 rfl (lv_at hl 2 rfl) ?_
        refine lv_iconst (v := 0) hx hb dX11_clear_53 ic_0 ?_
        refine va_iast hx hb hK hP hD hS 1 1 rfl rfl (iv_in b3 (by decide) (by decide)) dX11_clear_54 (fun H locs hPa hDa hS => ?_)
        clear hP hD
        have hP : va_P (dC, dI) vwCl [(m0, .inr (11, oX11 ra y41_0)), (ra 11, .inl (kI, 1019, .inl (upd g41_1 v41_loc2.toNatClampNeg 0))), (ra 16, .inl (kI, 40760, .inl g41_2))] H := hPa
        have hD : va_D A [(m0, .inr (11, oX11 ra y41_0)), (ra 11, .inl (kI, 1019, .inl (upd g41_1 v41_loc2.toNatClampNeg 0))), (ra 16, .inl (kI, 40760, .inl g41_2))] := hDa
        clear hPa hDa
        have hf5 : fI lNow hNow (upd g41_1 v41_loc2.toNatClampNeg 0) := fI_u hI41_1 (k := v41_loc2.toNatClampNeg) (now_ps b3 (by decide) (iv_w ivk_0 (by decide) (by decide)))
        generalize (upd g41_1 v41_loc2.toNatClampNeg 0) = f4 at hP hD hf5
        refine lv_iinc (v := v41_loc2 + Int32.ofInt 1) (lv' := [(2, .int (v41_loc2 + Int32.ofInt 1)), (0, .ref m0), (1, .int v41_loc1)]) hx hb dX11_clear_55 hl (k := 2) rfl (rfl) (Nat.le_of_ble_eq_true rfl) rfl (fun ls hl => ?_)
        have b6 : iv 60 1019 (v41_loc2 + Int32.ofInt 1) := iv_add b3 ivo_1 (by decide) (by decide) (by decide) (by decide)
        refine lv_goto (tgt := 41) hx hb dX11_clear_58 rfl ?_
        exact ih41 y41_0 f4 g41_2 v41_loc1 (v41_loc2 + Int32.ofInt 1) _ _ _ (ms_up (c := 1) (d := 0) b3 hm41 (by decide) (iv_inc 1 b3 (by decide) (by decide) (by decide) (by decide)) (by decide) rfl) (hI41_0) (hf5) (hI41_2) ((iv_w b6 (by decide) (by decide))) ((show y41_0 1 = x0 1 from htp_41)) ((show y41_0 10 = x0 10 from hfp_41)) ((show y41_0 11 = x0 11 from hor_41)) ((show y41_0 14 = x0 14 from hirl_41)) (hP) (hD) hS (lv_sub hl [1, 2, 0] rfl)
  have hJ16 : ∀ (n : Nat) (y16_0 : Nat → Int32) (g16_1 : Nat → Int32) (g16_2 : Nat → Int32) (v16_loc1 : Int32) (v16_loc2 : Int32) (H : Heap) (locs : List Loc) (ls : Array Slot), (30 - v16_loc2.toInt).toNat < n → fI lX11 hX11 y16_0 → fI lNow hNow g16_1 → fI lPast hPast g16_2 → iv 0 30 v16_loc2 → (y16_0 1 = x0 1) → (y16_0 10 = x0 10) → (y16_0 11 = x0 11) → (y16_0 14 = x0 14) → va_P (dC, dI) vwCl [(m0, .inr (11, oX11 ra y16_0)), (ra 11, .inl (kI, 1019, .inl g16_1)), (ra 16, .inl (kI, 40760, .inl g16_2))] H → va_D A [(m0, .inr (11, oX11 ra y16_0)), (ra 11, .inl (kI, 1019, .inl g16_1)), (ra 16, .inl (kI, 40760, .inl g16_2))] → va_S A s.heap H locs → lv_has ls 3 [(0, .ref m0), (1, .int v16_loc1), (2, .int v16_loc2)] → W p l e (headSpec wsX11_clear rm_s11_clear).room s m args0 below meth c H locs (0) (0) (MQ below (va_Qi (fun (r : Int32) (_ : Unit) => True) (fun _ t => ∃ (x0' : Nat → Int32) (q_now' : Nat → Int32) (q_past' : Nat → Int32), fI lX11 hX11 x0' ∧ fI lNow hNow q_now' ∧ fI lPast hPast q_past' ∧ (x0' 1 = x0 1) ∧ (x0' 10 = x0 10) ∧ (x0' 11 = x0 11) ∧ (x0' 14 = x0 14) ∧ va_P (dC, dI) vwCl [(m0, .inr (11, oX11 ra x0')), (ra 11, .inl (kI, 1019, .inl q_now')), (ra 16, .inl (kI, 40760, .inl q_past'))] t.heap ∧ va_D A [(m0, .inr (11, oX11 ra x0')), (ra 11, .inl (kI, 1019, .inl q_now')), (ra 16, .inl (kI, 40760, .inl q_past'))]) A) args0 s 0 0 A) (F0 m 16 ls []) := by
    intro n
    induction n with
    | zero => intro y16_0 g16_1 g16_2 v16_loc1 v16_loc2 H locs ls hm16; exact absurd hm16 (Nat.not_lt_zero _)
    | succ n ih16 =>
      intro y16_0 g16_1 g16_2 v16_loc1 v16_loc2 H locs ls hm16 hI16_0 hI16_1 hI16_2 h16_4 htp_16 hfp_16 hor_16 hirl_16 hP hD hS hl
      refine lv_iload_n hx hb dX11_clear_16 rfl (lv_at hl 2 rfl) ?_
      refine lv_bipush (v := 30) hx hb dX11_clear_17 bp_30 ?_
      refine lv_icmp_ge (tgt := 38) hx hb dX11_clear_19 rfl (fun c7 => ?_) (fun c7 => ?_)
      · have b8 : iv 30 30 v16_loc2 := iv_leR c7 ivk_30 h16_4 (by decide) (by decide)
        refine lv_bipush (v := 59) hx hb dX11_clear_38 bp_59 ?_
        refine lv_istore_n (lv' := [(2, .int 59), (0, .ref m0), (1, .int v16_loc1)]) hx hb dX11_clear_40 rfl hl (Nat.le_of_ble_eq_true rfl) rfl (fun ls hl => ?_)
        exact hJ41 _ y16_0 g16_1 g16_2 v16_loc1 59 _ _ _ (Nat.lt_succ_self _) (hI16_0) (hI16_1) (hI16_2) ((iv_w ivk_59 (by decide) (by decide))) ((show y16_0 1 = x0 1 from htp_16)) ((show y16_0 10 = x0 10 from hfp_16)) ((show y16_0 11 = x0 11 from hor_16)) ((show y16_0 14 = x0 14 from hirl_16)) (hP) (hD) hS (lv_sub hl [1, 2, 0] rfl)
      · have b9 : iv 0 29 v16_loc2 := iv_ltL (Int32.not_le.mp c7) h16_4 ivk_30 (by decide) (by decide)
        refine lv_aload_n hx hb dX11_clear_22 rfl (lv_at hl 0 rfl) ?_
        refine va_get (D := (dC, dI)) (ci := 11) (v := .ref (ra 11)) (C := RX11) (T := TX11) (N := 61) hx hb hts hin11 hown hK hP 0 rfl rfl 12 (Nat.le_of_ble_eq_true rfl) hw_0 (fun _ h9 => h9) rfl dX11_clear_23 ?_
        refine lv_bipush (v := 24) hx hb dX11_clear_26 bp_24 ?_
        refine lv_iload_n hx hb dX11_clear_28 rfl (lv_at hl 2 rfl) ?_
        refine lv_iadd hx hb dX11_clear_29 ?_
        refine iv_top (a := 24) (b := 53) (iv_add ivk_24 b9 (by decide) (by decide) (by decide) (by decide)) (fun z10 b11 => ?_)
        refine lv_iconst (v := 0) hx hb dX11_clear_30 ic_0 ?_
        refine va_iast hx hb hK hP hD hS 1 1 rfl rfl (iv_in b11 (by decide) (by decide)) dX11_clear_31 (fun H locs hPa hDa hS => ?_)
        clear hP hD
        have hP : va_P (dC, dI) vwCl [(m0, .inr (11, oX11 ra y16_0)), (ra 11, .inl (kI, 1019, .inl (upd g16_1 z10.toNatClampNeg 0))), (ra 16, .inl (kI, 40760, .inl g16_2))] H := hPa
        have hD : va_D A [(m0, .inr (11, oX11 ra y16_0)), (ra 11, .inl (kI, 1019, .inl (upd g16_1 z10.toNatClampNeg 0))), (ra 16, .inl (kI, 40760, .inl g16_2))] := hDa
        clear hPa hDa
        have hf13 : fI lNow hNow (upd g16_1 z10.toNatClampNeg 0) := fI_u hI16_1 (k := z10.toNatClampNeg) (now_po b11 (by decide) (by decide))
        generalize (upd g16_1 z10.toNatClampNeg 0) = f12 at hP hD hf13
        refine lv_iinc (v := v16_loc2 + Int32.ofInt 1) (lv' := [(2, .int (v16_loc2 + Int32.ofInt 1)), (0, .ref m0), (1, .int v16_loc1)]) hx hb dX11_clear_32 hl (k := 2) rfl (rfl) (Nat.le_of_ble_eq_true rfl) rfl (fun ls hl => ?_)
        have b14 : iv 1 30 (v16_loc2 + Int32.ofInt 1) := iv_add b9 ivo_1 (by decide) (by decide) (by decide) (by decide)
        refine lv_goto (tgt := 16) hx hb dX11_clear_35 rfl ?_
        exact ih16 y16_0 f12 g16_2 v16_loc1 (v16_loc2 + Int32.ofInt 1) _ _ _ (ms_up (c := 1) (d := 0) b9 hm16 (by decide) (iv_inc 1 b9 (by decide) (by decide) (by decide) (by decide)) (by decide) rfl) (hI16_0) (hf13) (hI16_2) ((iv_w b14 (by decide) (by decide))) ((show y16_0 1 = x0 1 from htp_16)) ((show y16_0 10 = x0 10 from hfp_16)) ((show y16_0 11 = x0 11 from hor_16)) ((show y16_0 14 = x0 14 from hirl_16)) (hP) (hD) hS (lv_sub hl [1, 2, 0] rfl)
  refine lv_aload_n hx hb dX11_clear_0 rfl (lv_at hl 0 rfl) ?_
  refine lv_iconst (v := 0) hx hb dX11_clear_1 ic_0 ?_
  refine va_put (D := (dC, dI)) (ci := 11) (v := .int 0) (ty := .int) (C := RX11) (T := TX11) (N := 61) hx hb hts hin11 tyX11 tyX11_ok nmX11 hown hK hP hD hS 0 rfl rfl 2 (by decide) hw_1 (fun _ h9 => h9) rfl (by decide +kernel) rfl rfl (Nat.le_of_ble_eq_true rfl) dX11_clear_2 (fun H locs hPa hDa hS => ?_)
  clear hP hD
  have hP : va_P (dC, dI) vwCl [(m0, .inr (11, oX11 ra (upd x0 0 0))), (ra 11, .inl (kI, 1019, .inl q_now)), (ra 16, .inl (kI, 40760, .inl q_past))] H := hPa
  have hD : va_D A [(m0, .inr (11, oX11 ra (upd x0 0 0))), (ra 11, .inl (kI, 1019, .inl q_now)), (ra 16, .inl (kI, 40760, .inl q_past))] := hDa
  clear hPa hDa
  refine lv_aload_n hx hb dX11_clear_5 rfl (lv_at hl 0 rfl) ?_
  obtain ⟨hPc, hDc, hFc, hJn⟩ := cl_a (wc := [(m0, .inr (11, oX11 ra (upd x0 0 0))), (ra 11, .inl (kI, 1019, .inl q_now)), (ra 16, .inl (kI, 40760, .inl q_past))]) (wr := []) hP hD hS hA [0, 1, 2] [] rfl rfl (by decide +kernel)
  refine va_callv (va_runV (As := []) (rest := []) ⟨hx, hb, hml, hown, hts⟩ (s11_keep l dC dI kB kI kJ kZ kC kS H.size m0 ra (upd x0 0 0) q_now q_past ((fI_u hX (k := 0) ((iv_w ivk_0 (by decide) (by decide))))) (hq_now) (hq_past)) (cwV 0 hts gX11_clear_X11_keep rfl rfl rfl (by decide +kernel) ⟨Nat.le_of_ble_eq_true rfl, Nat.le_of_ble_eq_true rfl⟩) ⟨fun a U g mk q => by obtain ⟨q0, q1, qP, qE, qD⟩ := q; exact ⟨q0, q1, qP, kE_call qE, qD⟩, va_recv hK hP (ci := 11) (q0 := 0) rfl rfl, fun U hU hW => ⟨rfl, by rw [hU], by rw [hU]; exact hPc, kE_warm hW hE, hDc.weaken (fun _ _ _ _ => trivial)⟩⟩ rfl rfl hl.1 rfl (lv_room (Nat.le_of_ble_eq_true rfl)) dX11_clear_6 ⟨Nat.le_of_ble_eq_true rfl, Nat.le_of_ble_eq_true rfl⟩) hS (fun q _ h => hFc q h) hFc (fun u t H locs ht hvm w16 hB hz1 hk1 hS => ?_)
  obtain ⟨y17, f18, hq19, hq20, hq21, hq22, hq23, hq24, hP1, hD1⟩ := hB
  try dsimp only at w16
  obtain ⟨hPa, hDa⟩ := hJn (w1 := [(m0, .inr (11, oX11 ra y17)), (ra 11, .inl (kI, 1019, .inl q_now)), (ra 16, .inl (kI, 40760, .inl f18))]) hk1 ht hP1 hD1
  clear hP hD hPc hDc hFc hJn hP1 hD1 hk1
  have hP : va_P (dC, dI) vwCl [(m0, .inr (11, oX11 ra y17)), (ra 11, .inl (kI, 1019, .inl q_now)), (ra 16, .inl (kI, 40760, .inl f18))] H := hPa
  have hD : va_D A [(m0, .inr (11, oX11 ra y17)), (ra 11, .inl (kI, 1019, .inl q_now)), (ra 16, .inl (kI, 40760, .inl f18))] := hDa
  clear hPa hDa
  refine W.widen (k := 0) (n := 0) (Nat.le_of_ble_eq_true rfl) (Nat.le_of_ble_eq_true rfl) ?_
  refine lv_aload_n hx hb dX11_clear_9 rfl (lv_at hl 0 rfl) ?_
  obtain ⟨hPc, hDc, hFc, hJn⟩ := cl_a (wc := [(m0, .inr (11, oX11 ra y17)), (ra 11, .inl (kI, 1019, .inl q_now))]) (wr := [(ra 16, .inl (kI, 40760, .inl f18))]) hP hD hS hA [0, 1] [2] rfl rfl (by decide +kernel)
  refine va_calli (va_runV (As := []) (rest := []) ⟨hx, hb, hml, hown, hts⟩ (s11_sentAll l dC dI kB kI kJ kZ kC kS H.size m0 ra y17 q_now (hq19) (hq_now)) (cwV 0 hts gX11_clear_X11_sentAll rfl rfl rfl (by decide +kernel) ⟨Nat.le_of_ble_eq_true rfl, Nat.le_of_ble_eq_true rfl⟩) ⟨fun a U g mk q => by obtain ⟨q0, q1, qP, qE, qD⟩ := q; exact ⟨q0, q1, qP, kE_call qE, qD⟩, va_recv hK hP (ci := 11) (q0 := 0) rfl rfl, fun U hU hW => ⟨rfl, by rw [hU], by rw [hU]; exact hPc, kE_warm hW hE, hDc.weaken (fun _ _ _ _ => trivial)⟩⟩ rfl rfl hl.1 rfl (lv_room (Nat.le_of_ble_eq_true rfl)) dX11_clear_10 ⟨Nat.le_of_ble_eq_true rfl, Nat.le_of_ble_eq_true rfl⟩) hS (fun q _ h => hFc q h) hFc (fun r25 u t H locs ht hvm w26 hB hz1 hk1 hS => ?_)
  obtain ⟨hP1, hD1⟩ := hB
  try dsimp only at w26
  obtain ⟨hPa, hDa⟩ := hJn (w1 := [(m0, .inr (11, oX11 ra y17)), (ra 11, .inl (kI, 1019, .inl q_now))]) hk1 ht hP1 hD1
  clear hP hD hPc hDc hFc hJn hP1 hD1 hk1
  have hP : va_P (dC, dI) vwCl [(ra 16, .inl (kI, 40760, .inl f18)), (m0, .inr (11, oX11 ra y17)), (ra 11, .inl (kI, 1019, .inl q_now))] H := hPa
  have hD : va_D A [(ra 16, .inl (kI, 40760, .inl f18)), (m0, .inr (11, oX11 ra y17)), (ra 11, .inl (kI, 1019, .inl q_now))] := hDa
  clear hPa hDa
  refine W.widen (k := 0) (n := 0) (Nat.le_of_ble_eq_true rfl) (Nat.le_of_ble_eq_true rfl) ?_
  refine lv_istore_n (lv' := [(1, .int r25), (0, .ref m0)]) hx hb dX11_clear_13 rfl hl (Nat.le_of_ble_eq_true rfl) rfl (fun ls hl => ?_)
  refine lv_iconst (v := 0) hx hb dX11_clear_14 ic_0 ?_
  refine lv_istore_n (lv' := [(2, .int 0), (1, .int r25), (0, .ref m0)]) hx hb dX11_clear_15 rfl hl (Nat.le_of_ble_eq_true rfl) rfl (fun ls hl => ?_)
  have hPD9 := cl_s (wc := [(m0, .inr (11, oX11 ra y17)), (ra 11, .inl (kI, 1019, .inl q_now)), (ra 16, .inl (kI, 40760, .inl f18))]) hP hD [1, 2, 0] rfl (by decide +kernel)
  exact hJ16 _ y17 q_now f18 r25 0 _ _ _ (Nat.lt_succ_self _) (hq19) (hq_now) (hq20) ((iv_w ivk_0 (by decide) (by decide))) ((show y17 1 = x0 1 from hq21)) ((show y17 10 = x0 10 from hq22)) ((show y17 11 = x0 11 from hq23)) ((show y17 14 = x0 14 from hq24)) (hPD9.1) (hPD9.2) hS (lv_sub hl [2, 1, 0] rfl)
def rm_s11_draw3 : Room := { frames := 0, cells := 0, slots := 0, locals := 0 }
set_option maxHeartbeats 4000000 in
set_option maxRecDepth 100000 in
theorem s11_draw3 (l : Launch) (dC : Nat → ClassId) (dI : Nat → Nat → Nat) (kB kI kJ kZ kC kS : ClassId) (sz : Nat) (m0 : Nat) (ra : Nat → Nat) (x0 : Nat → Int32) (p0 : Int32) (hX : fI lX11 hX11 x0) (hp0 : iv 1 3 p0) : Met l yX11_draw wsX11_draw rm_s11_draw3 (va_Pc [.ref m0, .int p0] (fun U => U.heap.size = sz ∧ va_P (dC, dI) vwCl [(m0, .inr (11, oX11 ra x0))] U.heap ∧ kE dC dI kB kI kJ kZ kC kS U ∧ va_D (fun _ => True) [(m0, .inr (11, oX11 ra x0))])) (va_Qi (fun (r : Int32) (_ : Unit) => iv 0 2 r) (fun _ t => ∃ (x0' : Nat → Int32), fI lX11 hX11 x0' ∧ (x0' 1 = x0 1) ∧ (x0' 10 = x0 10) ∧ (x0' 11 = x0 11) ∧ (x0' 14 = x0 14) ∧ va_P (dC, dI) vwCl [(m0, .inr (11, oX11 ra x0'))] t.heap ∧ va_D (va_A [(m0, .inr (11, oX11 ra x0))] sz) [(m0, .inr (11, oX11 ra x0'))]) (va_A [(m0, .inr (11, oX11 ra x0))] sz)) 0 0 (va_A [(m0, .inr (11, oX11 ra x0))] sz) := by
  refine Met.ofW (cc := cX11_draw) (maxL := 2) (ret := (some .int)) (by decide) rfl ?_
  intro p e s m args0 below meth c s₁ B hml hv
  obtain ⟨hargs, hsz, hP, hE, hD0⟩ := hv
  have hx := B.exec
  have hb := B.bytes
  have hr := B.returns
  have hts := atoms_spec (ws := wsX11_draw) B.pre
  have hown : s.vm.findClass RX11 = some m.cls := findClass_of_methodNamed B.named
  have hlocks := B.notSynchronized
  have hK := hE.1
  have hin11 : ∀ w ∈ wsX110, w ∈ wsX11_draw := fun _ h9 => List.mem_cons_of_mem _ (List.mem_append_right _ h9)
  have hw_0 := hts (.fieldLink RX11 460 "PathProberModel" "seedNow" "I") (List.mem_of_getElem? (i := 1) rfl)
  have hw_1 := hts (.constant RX11 463 (1103515245)) (List.mem_of_getElem? (i := 2) rfl)
  subst hsz
  have hD := hD0.self (sz := s.heap.size)
  generalize hAe : va_A [(m0, .inr (11, oX11 ra x0))] s.heap.size = A at hD ⊢
  have hA : ∀ q : Nat, s.heap.size ≤ q → A q := fun q h => by rw [← hAe]; exact Or.inr h
  have hS : va_S A s.heap s.heap [] := va_S.rf
  have hP : va_P (dC, dI) vwCl [(m0, .inr (11, oX11 ra x0))] s.heap := hP
  have hl := lv_entry ([.ref m0, .int p0]) (n := 2) (Nat.le_of_ble_eq_true rfl)
  have hla : entryFrame m args0 2 = entryFrame m ([.ref m0, .int p0] : List Value).toArray 2 := by rw [hargs]
  rw [hla, lg_entry_eq]
  generalize (lg_sl ([.ref m0, .int p0]) ++ List.replicate (2 - (lg_sl ([.ref m0, .int p0])).length) Slot.unset).toArray = ls at hl ⊢
  have hl : lv_has ls 2 [(0, .ref m0), (1, .int p0)] := hl
  refine lv_aload_n hx hb dX11_draw_0 rfl (lv_at hl 0 rfl) ?_
  refine lv_aload_n hx hb dX11_draw_1 rfl (lv_at hl 0 rfl) ?_
  refine va_get (D := (dC, dI)) (ci := 11) (v := .int (x0 22)) (C := RX11) (T := TX11) (N := 61) hx hb hts hin11 hown hK hP 0 rfl rfl 49 (Nat.le_of_ble_eq_true rfl) hw_0 (fun _ h9 => h9) rfl dX11_draw_2 ?_
  refine lv_ldcw hx hb hown hw_1 dX11_draw_5 ?_
  refine lv_imul hx hb dX11_draw_8 ?_
  refine lv_topi (fun z1 _ => ?_)
  refine lv_sipush (v := 12345) hx hb dX11_draw_9 (by decide) ?_
  refine lv_iadd hx hb dX11_draw_12 ?_
  refine lv_topi (fun z2 _ => ?_)
  refine va_put (D := (dC, dI)) (ci := 11) (v := .int z2) (ty := .int) (C := RX11) (T := TX11) (N := 61) hx hb hts hin11 tyX11 tyX11_ok nmX11 hown hK hP hD hS 0 rfl rfl 49 (by decide) hw_0 (fun _ h9 => h9) rfl (by decide +kernel) rfl rfl (Nat.le_of_ble_eq_true rfl) dX11_draw_13 (fun H locs hPa hDa hS => ?_)
  clear hP hD
  have hP : va_P (dC, dI) vwCl [(m0, .inr (11, oX11 ra (upd x0 22 z2)))] H := hPa
  have hD : va_D A [(m0, .inr (11, oX11 ra (upd x0 22 z2)))] := hDa
  clear hPa hDa
  refine lv_aload_n hx hb dX11_draw_16 rfl (lv_at hl 0 rfl) ?_
  refine va_get (D := (dC, dI)) (ci := 11) (v := .int z2) (C := RX11) (T := TX11) (N := 61) hx hb hts hin11 hown hK hP 0 rfl rfl 49 (Nat.le_of_ble_eq_true rfl) hw_0 (fun _ h9 => h9) rfl dX11_draw_17 ?_
  refine lv_bipush (v := 16) hx hb dX11_draw_20 bp_16 ?_
  refine lv_ishr hx hb dX11_draw_22 ?_
  refine lv_topi (fun z3 _ => ?_)
  refine lv_sipush (v := 32767) hx hb dX11_draw_23 (by decide) ?_
  refine lv_iand hx hb dX11_draw_26 ?_
  refine iv_top (a := 0) (b := 32767) (iv_and (m := 32767) (by decide) (by decide) (by decide)) (fun z4 b5 => ?_)
  refine lv_iload_n hx hb dX11_draw_27 rfl (lv_at hl 1 rfl) ?_
  refine lv_irem hx hb dX11_draw_28 (iv_ne hp0 ivk_0 (by decide)) ?_
  refine iv_top (a := 0) (b := 2) (iv_rem b5 hp0 (by decide) (by decide) (by decide) (by decide)) (fun z6 b7 => ?_)
  have hP9 := hP
  have hD9 := hD
  exact W.iret (v := z6) hx hb hr (fun t ht hW => ⟨⟨z6, (), rfl, b7, upd x0 22 z2, (fI_u hX (k := 22) ((iv_t z2))), (show x0 1 = x0 1 from rfl), (show x0 10 = x0 10 from rfl), (show x0 11 = x0 11 from rfl), (show x0 14 = x0 14 from rfl), by rw [ht]; exact hP9, hD9⟩, hS.F ht⟩) hS.2.2 dX11_draw_29
def rm_s11_draw4 : Room := { frames := 0, cells := 0, slots := 0, locals := 0 }
set_option maxHeartbeats 4000000 in
set_option maxRecDepth 100000 in
theorem s11_draw4 (l : Launch) (dC : Nat → ClassId) (dI : Nat → Nat → Nat) (kB kI kJ kZ kC kS : ClassId) (sz : Nat) (m0 : Nat) (ra : Nat → Nat) (x0 : Nat → Int32) (p0 : Int32) (hX : fI lX11 hX11 x0) (hp0 : iv 1 4 p0) : Met l yX11_draw wsX11_draw rm_s11_draw4 (va_Pc [.ref m0, .int p0] (fun U => U.heap.size = sz ∧ va_P (dC, dI) vwCl [(m0, .inr (11, oX11 ra x0))] U.heap ∧ kE dC dI kB kI kJ kZ kC kS U ∧ va_D (fun _ => True) [(m0, .inr (11, oX11 ra x0))])) (va_Qi (fun (r : Int32) (_ : Unit) => iv 0 3 r) (fun _ t => ∃ (x0' : Nat → Int32), fI lX11 hX11 x0' ∧ (x0' 1 = x0 1) ∧ (x0' 10 = x0 10) ∧ (x0' 11 = x0 11) ∧ (x0' 14 = x0 14) ∧ va_P (dC, dI) vwCl [(m0, .inr (11, oX11 ra x0'))] t.heap ∧ va_D (va_A [(m0, .inr (11, oX11 ra x0))] sz) [(m0, .inr (11, oX11 ra x0'))]) (va_A [(m0, .inr (11, oX11 ra x0))] sz)) 0 0 (va_A [(m0, .inr (11, oX11 ra x0))] sz) := by
  refine Met.ofW (cc := cX11_draw) (maxL := 2) (ret := (some .int)) (by decide) rfl ?_
  intro p e s m args0 below meth c s₁ B hml hv
  obtain ⟨hargs, hsz, hP, hE, hD0⟩ := hv
  have hx := B.exec
  have hb := B.bytes
  have hr := B.returns
  have hts := atoms_spec (ws := wsX11_draw) B.pre
  have hown : s.vm.findClass RX11 = some m.cls := findClass_of_methodNamed B.named
  have hlocks := B.notSynchronized
  have hK := hE.1
  have hin11 : ∀ w ∈ wsX110, w ∈ wsX11_draw := fun _ h9 => List.mem_cons_of_mem _ (List.mem_append_right _ h9)
  have hw_0 := hts (.fieldLink RX11 460 "PathProberModel" "seedNow" "I") (List.mem_of_getElem? (i := 1) rfl)
  have hw_1 := hts (.constant RX11 463 (1103515245)) (List.mem_of_getElem? (i := 2) rfl)
  subst hsz
  have hD := hD0.self (sz := s.heap.size)
  generalize hAe : va_A [(m0, .inr (11, oX11 ra x0))] s.heap.size = A at hD ⊢
  have hA : ∀ q : Nat, s.heap.size ≤ q → A q := fun q h => by rw [← hAe]; exact Or.inr h
  have hS : va_S A s.heap s.heap [] := va_S.rf
  have hP : va_P (dC, dI) vwCl [(m0, .inr (11, oX11 ra x0))] s.heap := hP
  have hl := lv_entry ([.ref m0, .int p0]) (n := 2) (Nat.le_of_ble_eq_true rfl)
  have hla : entryFrame m args0 2 = entryFrame m ([.ref m0, .int p0] : List Value).toArray 2 := by rw [hargs]
  rw [hla, lg_entry_eq]
  generalize (lg_sl ([.ref m0, .int p0]) ++ List.replicate (2 - (lg_sl ([.ref m0, .int p0])).length) Slot.unset).toArray = ls at hl ⊢
  have hl : lv_has ls 2 [(0, .ref m0), (1, .int p0)] := hl
  refine lv_aload_n hx hb dX11_draw_0 rfl (lv_at hl 0 rfl) ?_
  refine lv_aload_n hx hb dX11_draw_1 rfl (lv_at hl 0 rfl) ?_
  refine va_get (D := (dC, dI)) (ci := 11) (v := .int (x0 22)) (C := RX11) (T := TX11) (N := 61) hx hb hts hin11 hown hK hP 0 rfl rfl 49 (Nat.le_of_ble_eq_true rfl) hw_0 (fun _ h9 => h9) rfl dX11_draw_2 ?_
  refine lv_ldcw hx hb hown hw_1 dX11_draw_5 ?_
  refine lv_imul hx hb dX11_draw_8 ?_
  refine lv_topi (fun z1 _ => ?_)
  refine lv_sipush (v := 12345) hx hb dX11_draw_9 (by decide) ?_
  refine lv_iadd hx hb dX11_draw_12 ?_
  refine lv_topi (fun z2 _ => ?_)
  refine va_put (D := (dC, dI)) (ci := 11) (v := .int z2) (ty := .int) (C := RX11) (T := TX11) (N := 61) hx hb hts hin11 tyX11 tyX11_ok nmX11 hown hK hP hD hS 0 rfl rfl 49 (by decide) hw_0 (fun _ h9 => h9) rfl (by decide +kernel) rfl rfl (Nat.le_of_ble_eq_true rfl) dX11_draw_13 (fun H locs hPa hDa hS => ?_)
  clear hP hD
  have hP : va_P (dC, dI) vwCl [(m0, .inr (11, oX11 ra (upd x0 22 z2)))] H := hPa
  have hD : va_D A [(m0, .inr (11, oX11 ra (upd x0 22 z2)))] := hDa
  clear hPa hDa
  refine lv_aload_n hx hb dX11_draw_16 rfl (lv_at hl 0 rfl) ?_
  refine va_get (D := (dC, dI)) (ci := 11) (v := .int z2) (C := RX11) (T := TX11) (N := 61) hx hb hts hin11 hown hK hP 0 rfl rfl 49 (Nat.le_of_ble_eq_true rfl) hw_0 (fun _ h9 => h9) rfl dX11_draw_17 ?_
  refine lv_bipush (v := 16) hx hb dX11_draw_20 bp_16 ?_
  refine lv_ishr hx hb dX11_draw_22 ?_
  refine lv_topi (fun z3 _ => ?_)
  refine lv_sipush (v := 32767) hx hb dX11_draw_23 (by decide) ?_
  refine lv_iand hx hb dX11_draw_26 ?_
  refine iv_top (a := 0) (b := 32767) (iv_and (m := 32767) (by decide) (by decide) (by decide)) (fun z4 b5 => ?_)
  refine lv_iload_n hx hb dX11_draw_27 rfl (lv_at hl 1 rfl) ?_
  refine lv_irem hx hb dX11_draw_28 (iv_ne hp0 ivk_0 (by decide)) ?_
  refine iv_top (a := 0) (b := 3) (iv_rem b5 hp0 (by decide) (by decide) (by decide) (by decide)) (fun z6 b7 => ?_)
  have hP9 := hP
  have hD9 := hD
  exact W.iret (v := z6) hx hb hr (fun t ht hW => ⟨⟨z6, (), rfl, b7, upd x0 22 z2, (fI_u hX (k := 22) ((iv_t z2))), (show x0 1 = x0 1 from rfl), (show x0 10 = x0 10 from rfl), (show x0 11 = x0 11 from rfl), (show x0 14 = x0 14 from rfl), by rw [ht]; exact hP9, hD9⟩, hS.F ht⟩) hS.2.2 dX11_draw_29
def rm_s11_draw10 : Room := { frames := 0, cells := 0, slots := 0, locals := 0 }
set_option maxHeartbeats 4000000 in
set_option maxRecDepth 100000 in
theorem s11_draw10 (l : Launch) (dC : Nat → ClassId) (dI : Nat → Nat → Nat) (kB kI kJ kZ kC kS : ClassId) (sz : Nat) (m0 : Nat) (ra : Nat → Nat) (x0 : Nat → Int32) (p0 : Int32) (hX : fI lX11 hX11 x0) (hp0 : iv 1 10 p0) : Met l yX11_draw wsX11_draw rm_s11_draw10 (va_Pc [.ref m0, .int p0] (fun U => U.heap.size = sz ∧ va_P (dC, dI) vwCl [(m0, .inr (11, oX11 ra x0))] U.heap ∧ kE dC dI kB kI kJ kZ kC kS U ∧ va_D (fun _ => True) [(m0, .inr (11, oX11 ra x0))])) (va_Qi (fun (r : Int32) (_ : Unit) => iv 0 9 r) (fun _ t => ∃ (x0' : Nat → Int32), fI lX11 hX11 x0' ∧ (x0' 1 = x0 1) ∧ (x0' 10 = x0 10) ∧ (x0' 11 = x0 11) ∧ (x0' 14 = x0 14) ∧ va_P (dC, dI) vwCl [(m0, .inr (11, oX11 ra x0'))] t.heap ∧ va_D (va_A [(m0, .inr (11, oX11 ra x0))] sz) [(m0, .inr (11, oX11 ra x0'))]) (va_A [(m0, .inr (11, oX11 ra x0))] sz)) 0 0 (va_A [(m0, .inr (11, oX11 ra x0))] sz) := by
  refine Met.ofW (cc := cX11_draw) (maxL := 2) (ret := (some .int)) (by decide) rfl ?_
  intro p e s m args0 below meth c s₁ B hml hv
  obtain ⟨hargs, hsz, hP, hE, hD0⟩ := hv
  have hx := B.exec
  have hb := B.bytes
  have hr := B.returns
  have hts := atoms_spec (ws := wsX11_draw) B.pre
  have hown : s.vm.findClass RX11 = some m.cls := findClass_of_methodNamed B.named
  have hlocks := B.notSynchronized
  have hK := hE.1
  have hin11 : ∀ w ∈ wsX110, w ∈ wsX11_draw := fun _ h9 => List.mem_cons_of_mem _ (List.mem_append_right _ h9)
  have hw_0 := hts (.fieldLink RX11 460 "PathProberModel" "seedNow" "I") (List.mem_of_getElem? (i := 1) rfl)
  have hw_1 := hts (.constant RX11 463 (1103515245)) (List.mem_of_getElem? (i := 2) rfl)
  subst hsz
  have hD := hD0.self (sz := s.heap.size)
  generalize hAe : va_A [(m0, .inr (11, oX11 ra x0))] s.heap.size = A at hD ⊢
  have hA : ∀ q : Nat, s.heap.size ≤ q → A q := fun q h => by rw [← hAe]; exact Or.inr h
  have hS : va_S A s.heap s.heap [] := va_S.rf
  have hP : va_P (dC, dI) vwCl [(m0, .inr (11, oX11 ra x0))] s.heap := hP
  have hl := lv_entry ([.ref m0, .int p0]) (n := 2) (Nat.le_of_ble_eq_true rfl)
  have hla : entryFrame m args0 2 = entryFrame m ([.ref m0, .int p0] : List Value).toArray 2 := by rw [hargs]
  rw [hla, lg_entry_eq]
  generalize (lg_sl ([.ref m0, .int p0]) ++ List.replicate (2 - (lg_sl ([.ref m0, .int p0])).length) Slot.unset).toArray = ls at hl ⊢
  have hl : lv_has ls 2 [(0, .ref m0), (1, .int p0)] := hl
  refine lv_aload_n hx hb dX11_draw_0 rfl (lv_at hl 0 rfl) ?_
  refine lv_aload_n hx hb dX11_draw_1 rfl (lv_at hl 0 rfl) ?_
  refine va_get (D := (dC, dI)) (ci := 11) (v := .int (x0 22)) (C := RX11) (T := TX11) (N := 61) hx hb hts hin11 hown hK hP 0 rfl rfl 49 (Nat.le_of_ble_eq_true rfl) hw_0 (fun _ h9 => h9) rfl dX11_draw_2 ?_
  refine lv_ldcw hx hb hown hw_1 dX11_draw_5 ?_
  refine lv_imul hx hb dX11_draw_8 ?_
  refine lv_topi (fun z1 _ => ?_)
  refine lv_sipush (v := 12345) hx hb dX11_draw_9 (by decide) ?_
  refine lv_iadd hx hb dX11_draw_12 ?_
  refine lv_topi (fun z2 _ => ?_)
  refine va_put (D := (dC, dI)) (ci := 11) (v := .int z2) (ty := .int) (C := RX11) (T := TX11) (N := 61) hx hb hts hin11 tyX11 tyX11_ok nmX11 hown hK hP hD hS 0 rfl rfl 49 (by decide) hw_0 (fun _ h9 => h9) rfl (by decide +kernel) rfl rfl (Nat.le_of_ble_eq_true rfl) dX11_draw_13 (fun H locs hPa hDa hS => ?_)
  clear hP hD
  have hP : va_P (dC, dI) vwCl [(m0, .inr (11, oX11 ra (upd x0 22 z2)))] H := hPa
  have hD : va_D A [(m0, .inr (11, oX11 ra (upd x0 22 z2)))] := hDa
  clear hPa hDa
  refine lv_aload_n hx hb dX11_draw_16 rfl (lv_at hl 0 rfl) ?_
  refine va_get (D := (dC, dI)) (ci := 11) (v := .int z2) (C := RX11) (T := TX11) (N := 61) hx hb hts hin11 hown hK hP 0 rfl rfl 49 (Nat.le_of_ble_eq_true rfl) hw_0 (fun _ h9 => h9) rfl dX11_draw_17 ?_
  refine lv_bipush (v := 16) hx hb dX11_draw_20 bp_16 ?_
  refine lv_ishr hx hb dX11_draw_22 ?_
  refine lv_topi (fun z3 _ => ?_)
  refine lv_sipush (v := 32767) hx hb dX11_draw_23 (by decide) ?_
  refine lv_iand hx hb dX11_draw_26 ?_
  refine iv_top (a := 0) (b := 32767) (iv_and (m := 32767) (by decide) (by decide) (by decide)) (fun z4 b5 => ?_)
  refine lv_iload_n hx hb dX11_draw_27 rfl (lv_at hl 1 rfl) ?_
  refine lv_irem hx hb dX11_draw_28 (iv_ne hp0 ivk_0 (by decide)) ?_
  refine iv_top (a := 0) (b := 9) (iv_rem b5 hp0 (by decide) (by decide) (by decide) (by decide)) (fun z6 b7 => ?_)
  have hP9 := hP
  have hD9 := hD
  exact W.iret (v := z6) hx hb hr (fun t ht hW => ⟨⟨z6, (), rfl, b7, upd x0 22 z2, (fI_u hX (k := 22) ((iv_t z2))), (show x0 1 = x0 1 from rfl), (show x0 10 = x0 10 from rfl), (show x0 11 = x0 11 from rfl), (show x0 14 = x0 14 from rfl), by rw [ht]; exact hP9, hD9⟩, hS.F ht⟩) hS.2.2 dX11_draw_29
def rm_s11_draw : Room := { frames := 0, cells := 0, slots := 0, locals := 0 }
set_option maxHeartbeats 4000000 in
set_option maxRecDepth 100000 in
theorem s11_draw (l : Launch) (dC : Nat → ClassId) (dI : Nat → Nat → Nat) (kB kI kJ kZ kC kS : ClassId) (sz : Nat) (m0 : Nat) (ra : Nat → Nat) (x0 : Nat → Int32) (p0 : Int32) (hX : fI lX11 hX11 x0) (hp0 : iv 1 32 p0) : Met l yX11_draw wsX11_draw rm_s11_draw (va_Pc [.ref m0, .int p0] (fun U => U.heap.size = sz ∧ va_P (dC, dI) vwCl [(m0, .inr (11, oX11 ra x0))] U.heap ∧ kE dC dI kB kI kJ kZ kC kS U ∧ va_D (fun _ => True) [(m0, .inr (11, oX11 ra x0))])) (va_Qi (fun (r : Int32) (_ : Unit) => iv 0 31 r) (fun _ t => ∃ (x0' : Nat → Int32), fI lX11 hX11 x0' ∧ (x0' 1 = x0 1) ∧ (x0' 10 = x0 10) ∧ (x0' 11 = x0 11) ∧ (x0' 14 = x0 14) ∧ va_P (dC, dI) vwCl [(m0, .inr (11, oX11 ra x0'))] t.heap ∧ va_D (va_A [(m0, .inr (11, oX11 ra x0))] sz) [(m0, .inr (11, oX11 ra x0'))]) (va_A [(m0, .inr (11, oX11 ra x0))] sz)) 0 0 (va_A [(m0, .inr (11, oX11 ra x0))] sz) := by
  refine Met.ofW (cc := cX11_draw) (maxL := 2) (ret := (some .int)) (by decide) rfl ?_
  intro p e s m args0 below meth c s₁ B hml hv
  obtain ⟨hargs, hsz, hP, hE, hD0⟩ := hv
  have hx := B.exec
  have hb := B.bytes
  have hr := B.returns
  have hts := atoms_spec (ws := wsX11_draw) B.pre
  have hown : s.vm.findClass RX11 = some m.cls := findClass_of_methodNamed B.named
  have hlocks := B.notSynchronized
  have hK := hE.1
  have hin11 : ∀ w ∈ wsX110, w ∈ wsX11_draw := fun _ h9 => List.mem_cons_of_mem _ (List.mem_append_right _ h9)
  have hw_0 := hts (.fieldLink RX11 460 "PathProberModel" "seedNow" "I") (List.mem_of_getElem? (i := 1) rfl)
  have hw_1 := hts (.constant RX11 463 (1103515245)) (List.mem_of_getElem? (i := 2) rfl)
  subst hsz
  have hD := hD0.self (sz := s.heap.size)
  generalize hAe : va_A [(m0, .inr (11, oX11 ra x0))] s.heap.size = A at hD ⊢
  have hA : ∀ q : Nat, s.heap.size ≤ q → A q := fun q h => by rw [← hAe]; exact Or.inr h
  have hS : va_S A s.heap s.heap [] := va_S.rf
  have hP : va_P (dC, dI) vwCl [(m0, .inr (11, oX11 ra x0))] s.heap := hP
  have hl := lv_entry ([.ref m0, .int p0]) (n := 2) (Nat.le_of_ble_eq_true rfl)
  have hla : entryFrame m args0 2 = entryFrame m ([.ref m0, .int p0] : List Value).toArray 2 := by rw [hargs]
  rw [hla, lg_entry_eq]
  generalize (lg_sl ([.ref m0, .int p0]) ++ List.replicate (2 - (lg_sl ([.ref m0, .int p0])).length) Slot.unset).toArray = ls at hl ⊢
  have hl : lv_has ls 2 [(0, .ref m0), (1, .int p0)] := hl
  refine lv_aload_n hx hb dX11_draw_0 rfl (lv_at hl 0 rfl) ?_
  refine lv_aload_n hx hb dX11_draw_1 rfl (lv_at hl 0 rfl) ?_
  refine va_get (D := (dC, dI)) (ci := 11) (v := .int (x0 22)) (C := RX11) (T := TX11) (N := 61) hx hb hts hin11 hown hK hP 0 rfl rfl 49 (Nat.le_of_ble_eq_true rfl) hw_0 (fun _ h9 => h9) rfl dX11_draw_2 ?_
  refine lv_ldcw hx hb hown hw_1 dX11_draw_5 ?_
  refine lv_imul hx hb dX11_draw_8 ?_
  refine lv_topi (fun z1 _ => ?_)
  refine lv_sipush (v := 12345) hx hb dX11_draw_9 (by decide) ?_
  refine lv_iadd hx hb dX11_draw_12 ?_
  refine lv_topi (fun z2 _ => ?_)
  refine va_put (D := (dC, dI)) (ci := 11) (v := .int z2) (ty := .int) (C := RX11) (T := TX11) (N := 61) hx hb hts hin11 tyX11 tyX11_ok nmX11 hown hK hP hD hS 0 rfl rfl 49 (by decide) hw_0 (fun _ h9 => h9) rfl (by decide +kernel) rfl rfl (Nat.le_of_ble_eq_true rfl) dX11_draw_13 (fun H locs hPa hDa hS => ?_)
  clear hP hD
  have hP : va_P (dC, dI) vwCl [(m0, .inr (11, oX11 ra (upd x0 22 z2)))] H := hPa
  have hD : va_D A [(m0, .inr (11, oX11 ra (upd x0 22 z2)))] := hDa
  clear hPa hDa
  refine lv_aload_n hx hb dX11_draw_16 rfl (lv_at hl 0 rfl) ?_
  refine va_get (D := (dC, dI)) (ci := 11) (v := .int z2) (C := RX11) (T := TX11) (N := 61) hx hb hts hin11 hown hK hP 0 rfl rfl 49 (Nat.le_of_ble_eq_true rfl) hw_0 (fun _ h9 => h9) rfl dX11_draw_17 ?_
  refine lv_bipush (v := 16) hx hb dX11_draw_20 bp_16 ?_
  refine lv_ishr hx hb dX11_draw_22 ?_
  refine lv_topi (fun z3 _ => ?_)
  refine lv_sipush (v := 32767) hx hb dX11_draw_23 (by decide) ?_
  refine lv_iand hx hb dX11_draw_26 ?_
  refine iv_top (a := 0) (b := 32767) (iv_and (m := 32767) (by decide) (by decide) (by decide)) (fun z4 b5 => ?_)
  refine lv_iload_n hx hb dX11_draw_27 rfl (lv_at hl 1 rfl) ?_
  refine lv_irem hx hb dX11_draw_28 (iv_ne hp0 ivk_0 (by decide)) ?_
  refine iv_top (a := 0) (b := 31) (iv_rem b5 hp0 (by decide) (by decide) (by decide) (by decide)) (fun z6 b7 => ?_)
  have hP9 := hP
  have hD9 := hD
  exact W.iret (v := z6) hx hb hr (fun t ht hW => ⟨⟨z6, (), rfl, b7, upd x0 22 z2, (fI_u hX (k := 22) ((iv_t z2))), (show x0 1 = x0 1 from rfl), (show x0 10 = x0 10 from rfl), (show x0 11 = x0 11 from rfl), (show x0 14 = x0 14 from rfl), by rw [ht]; exact hP9, hD9⟩, hS.F ht⟩) hS.2.2 dX11_draw_29
def rm_s11_widest : Room := { frames := 1, cells := 0, slots := 0, locals := 21 }
set_option maxHeartbeats 4000000 in
set_option maxRecDepth 100000 in
theorem s11_widest (l : Launch) (dC : Nat → ClassId) (dI : Nat → Nat → Nat) (kB kI kJ kZ kC kS : ClassId) (sz : Nat) (m0 : Nat) (ra : Nat → Nat) (x0 : Nat → Int32) (q_wide : Nat → Int32) (q_diamondFrom : Nat → Int32) (q_diamondTo : Nat → Int32) (p0 : Int32) (hX : fI lX11 hX11 x0) (hq_diamondFrom : fI (fun _ => 0) (fun _ => 10) q_diamondFrom) (hq_diamondTo : fI (fun _ => 0) (fun _ => 10) q_diamondTo) (hp0 : iv 0 9 p0) : Met l yX11_widest wsX11_widest rm_s11_widest (va_Pc [.ref m0, .int p0] (fun U => U.heap.size = sz ∧ va_P (dC, dI) vwCl [(m0, .inr (11, oX11 ra x0)), (ra 19, .inl (kI, 12, .inl q_wide)), (ra 20, .inl (kI, 10, .inl q_diamondFrom)), (ra 21, .inl (kI, 10, .inl q_diamondTo))] U.heap ∧ kE dC dI kB kI kJ kZ kC kS U ∧ va_D (fun _ => True) [(m0, .inr (11, oX11 ra x0)), (ra 19, .inl (kI, 12, .inl q_wide)), (ra 20, .inl (kI, 10, .inl q_diamondFrom)), (ra 21, .inl (kI, 10, .inl q_diamondTo))])) (va_Qi (fun (r : Int32) (_ : Unit) => iv 0 2147483647 r) (fun _ t => va_P (dC, dI) vwCl [(m0, .inr (11, oX11 ra x0)), (ra 19, .inl (kI, 12, .inl q_wide)), (ra 20, .inl (kI, 10, .inl q_diamondFrom)), (ra 21, .inl (kI, 10, .inl q_diamondTo))] t.heap ∧ va_D (va_A [(m0, .inr (11, oX11 ra x0)), (ra 19, .inl (kI, 12, .inl q_wide)), (ra 20, .inl (kI, 10, .inl q_diamondFrom)), (ra 21, .inl (kI, 10, .inl q_diamondTo))] sz) [(m0, .inr (11, oX11 ra x0)), (ra 19, .inl (kI, 12, .inl q_wide)), (ra 20, .inl (kI, 10, .inl q_diamondFrom)), (ra 21, .inl (kI, 10, .inl q_diamondTo))]) (va_A [(m0, .inr (11, oX11 ra x0)), (ra 19, .inl (kI, 12, .inl q_wide)), (ra 20, .inl (kI, 10, .inl q_diamondFrom)), (ra 21, .inl (kI, 10, .inl q_diamondTo))] sz)) 0 0 (va_A [(m0, .inr (11, oX11 ra x0)), (ra 19, .inl (kI, 12, .inl q_wide)), (ra 20, .inl (kI, 10, .inl q_diamondFrom)), (ra 21, .inl (kI, 10, .inl q_diamondTo))] sz) := by
  refine Met.ofW (cc := cX11_widest) (maxL := 4) (ret := (some .int)) (by decide) rfl ?_
  intro p e s m args0 below meth c s₁ B hml hv
  obtain ⟨hargs, hsz, hP, hE, hD0⟩ := hv
  have hx := B.exec
  have hb := B.bytes
  have hr := B.returns
  have hts := atoms_spec (ws := wsX11_widest) B.pre
  have hown : s.vm.findClass RX11 = some m.cls := findClass_of_methodNamed B.named
  have hlocks := B.notSynchronized
  have hK := hE.1
  have hin11 : ∀ w ∈ wsX110, w ∈ wsX11_widest := fun _ h9 => List.mem_cons_of_mem _ (List.mem_append_right _ h9)
  have hw_0 := hts (.fieldLink RX11 100 "PathProberModel" "diamondTo" "[I") (List.mem_of_getElem? (i := 2) rfl)
  have hw_1 := hts (.fieldLink RX11 94 "PathProberModel" "wide" "[I") (List.mem_of_getElem? (i := 3) rfl)
  have hw_2 := hts (.methodLink RX11 328 Lib.Math.max.name) (List.mem_of_getElem? (i := 4) rfl)
  have hw_3 := hts (.static Lib.Math.max.name) (List.mem_of_getElem? (i := 5) rfl)
  have hw_4 := hts (.initialized "java/lang/Math") (List.mem_of_getElem? (i := 6) rfl)
  have hw_5 := hts (.code Lib.Math.max.name Lib.Math.max.code 2 (some .int)) (List.mem_of_getElem? (i := 7) rfl)
  have hw_6 := hts (.fieldLink RX11 97 "PathProberModel" "diamondFrom" "[I") (List.mem_of_getElem? (i := 1) rfl)
  subst hsz
  have hD := hD0.self (sz := s.heap.size)
  generalize hAe : va_A [(m0, .inr (11, oX11 ra x0)), (ra 19, .inl (kI, 12, .inl q_wide)), (ra 20, .inl (kI, 10, .inl q_diamondFrom)), (ra 21, .inl (kI, 10, .inl q_diamondTo))] s.heap.size = A at hD ⊢
  have hA : ∀ q : Nat, s.heap.size ≤ q → A q := fun q h => by rw [← hAe]; exact Or.inr h
  have hS : va_S A s.heap s.heap [] := va_S.rf
  have hP : va_P (dC, dI) vwCl [(m0, .inr (11, oX11 ra x0)), (ra 19, .inl (kI, 12, .inl q_wide)), (ra 20, .inl (kI, 10, .inl q_diamondFrom)), (ra 21, .inl (kI, 10, .inl q_diamondTo))] s.heap := hP
  have hl := lv_entry ([.ref m0, .int p0]) (n := 4) (Nat.le_of_ble_eq_true rfl)
  have hla : entryFrame m args0 4 = entryFrame m ([.ref m0, .int p0] : List Value).toArray 4 := by rw [hargs]
  rw [hla, lg_entry_eq]
  generalize (lg_sl ([.ref m0, .int p0]) ++ List.replicate (4 - (lg_sl ([.ref m0, .int p0])).length) Slot.unset).toArray = ls at hl ⊢
  have hl : lv_has ls 4 [(0, .ref m0), (1, .int p0)] := hl
  have hJ11 : ∀ (n : Nat) (v11_loc2 : Int32) (v11_loc3 : Int32) (H : Heap) (locs : List Loc) (ls : Array Slot), (11 - v11_loc3.toInt).toNat < n → iv 0 2147483647 v11_loc2 → iv 1 11 v11_loc3 → (x0 1 = x0 1) → (x0 10 = x0 10) → (x0 11 = x0 11) → (x0 14 = x0 14) → va_P (dC, dI) vwCl [(m0, .inr (11, oX11 ra x0)), (ra 19, .inl (kI, 12, .inl q_wide)), (ra 20, .inl (kI, 10, .inl q_diamondFrom)), (ra 21, .inl (kI, 10, .inl q_diamondTo))] H → va_D A [(m0, .inr (11, oX11 ra x0)), (ra 19, .inl (kI, 12, .inl q_wide)), (ra 20, .inl (kI, 10, .inl q_diamondFrom)), (ra 21, .inl (kI, 10, .inl q_diamondTo))] → va_S A s.heap H locs → lv_has ls 4 [(0, .ref m0), (1, .int p0), (2, .int v11_loc2), (3, .int v11_loc3)] → W p l e (headSpec wsX11_widest rm_s11_widest).room s m args0 below meth c H locs (0) (0) (MQ below (va_Qi (fun (r : Int32) (_ : Unit) => iv 0 2147483647 r) (fun _ t => va_P (dC, dI) vwCl [(m0, .inr (11, oX11 ra x0)), (ra 19, .inl (kI, 12, .inl q_wide)), (ra 20, .inl (kI, 10, .inl q_diamondFrom)), (ra 21, .inl (kI, 10, .inl q_diamondTo))] t.heap ∧ va_D A [(m0, .inr (11, oX11 ra x0)), (ra 19, .inl (kI, 12, .inl q_wide)), (ra 20, .inl (kI, 10, .inl q_diamondFrom)), (ra 21, .inl (kI, 10, .inl q_diamondTo))]) A) args0 s 0 0 A) (F0 m 11 ls []) := by
    intro n
    induction n with
    | zero => intro v11_loc2 v11_loc3 H locs ls hm11; exact absurd hm11 (Nat.not_lt_zero _)
    | succ n ih11 =>
      intro v11_loc2 v11_loc3 H locs ls hm11 h11_1 h11_2 htp_11 hfp_11 hor_11 hirl_11 hP hD hS hl
      refine lv_iload_n hx hb dX11_widest_11 rfl (lv_at hl 3 rfl) ?_
      refine lv_aload_n hx hb dX11_widest_12 rfl (lv_at hl 0 rfl) ?_
      refine va_get (D := (dC, dI)) (ci := 11) (v := .ref (ra 21)) (C := RX11) (T := TX11) (N := 61) hx hb hts hin11 hown hK hP 0 rfl rfl 39 (Nat.le_of_ble_eq_true rfl) hw_0 (fun _ h9 => h9) rfl dX11_widest_13 ?_
      refine lv_iload_n hx hb dX11_widest_16 rfl (lv_at hl 1 rfl) ?_
      refine va_iald hx hb hK hP 3 1 rfl rfl (iv_in hp0 (by decide) (by decide)) dX11_widest_17 ?_
      refine iv_top (a := 0) (b := 10) (hq_diamondTo _) (fun z1 b2 => ?_)
      refine lv_icmp_ge (tgt := 38) hx hb dX11_widest_18 rfl (fun c3 => ?_) (fun c3 => ?_)
      · refine lv_iload_n hx hb dX11_widest_38 rfl (lv_at hl 2 rfl) ?_
        have hP9 := hP
        have hD9 := hD
        exact W.iret (v := v11_loc2) hx hb hr (fun t ht hW => ⟨⟨v11_loc2, (), rfl, h11_1, by rw [ht]; exact hP9, hD9⟩, hS.F ht⟩) hS.2.2 dX11_widest_39
      · have b4 : iv 1 9 v11_loc3 := iv_ltL (Int32.not_le.mp c3) h11_2 b2 (by decide) (by decide)
        have b5 : iv 2 10 z1 := iv_ltR (Int32.not_le.mp c3) h11_2 b2 (by decide) (by decide)
        refine lv_iload_n hx hb dX11_widest_21 rfl (lv_at hl 2 rfl) ?_
        refine lv_aload_n hx hb dX11_widest_22 rfl (lv_at hl 0 rfl) ?_
        refine va_get (D := (dC, dI)) (ci := 11) (v := .ref (ra 19)) (C := RX11) (T := TX11) (N := 61) hx hb hts hin11 hown hK hP 0 rfl rfl 37 (Nat.le_of_ble_eq_true rfl) hw_1 (fun _ h9 => h9) rfl dX11_widest_23 ?_
        refine lv_iload_n hx hb dX11_widest_26 rfl (lv_at hl 3 rfl) ?_
        refine va_iald hx hb hK hP 1 1 rfl rfl (iv_in b4 (by decide) (by decide)) dX11_widest_27 ?_
        refine lv_topi (fun z6 _ => ?_)
        refine va_mmax hx hb (by rw [hml]; exact hl.1.symm) hown hw_2 hw_3 hw_4 hw_5 (Nat.le_of_ble_eq_true rfl) (Nat.le_of_ble_eq_true rfl) (Nat.le_of_ble_eq_true rfl) (Nat.le_of_ble_eq_true rfl) dX11_widest_28 ?_
        refine iv_top (a := 0) (b := 2147483647) (iv_max h11_1 (iv_t z6) (by decide) (by decide)) (fun z7 b8 => ?_)
        refine lv_istore_n (lv' := [(2, .int z7), (0, .ref m0), (1, .int p0), (3, .int v11_loc3)]) hx hb dX11_widest_31 rfl hl (Nat.le_of_ble_eq_true rfl) rfl (fun ls hl => ?_)
        refine lv_iinc (v := v11_loc3 + Int32.ofInt 1) (lv' := [(3, .int (v11_loc3 + Int32.ofInt 1)), (2, .int z7), (0, .ref m0), (1, .int p0)]) hx hb dX11_widest_32 hl (k := 3) rfl (rfl) (Nat.le_of_ble_eq_true rfl) rfl (fun ls hl => ?_)
        have b9 : iv 2 10 (v11_loc3 + Int32.ofInt 1) := iv_add b4 ivo_1 (by decide) (by decide) (by decide) (by decide)
        refine lv_goto (tgt := 11) hx hb dX11_widest_35 rfl ?_
        exact ih11 z7 (v11_loc3 + Int32.ofInt 1) _ _ _ (ms_up (c := 1) (d := 0) b4 hm11 (by decide) (iv_inc 1 b4 (by decide) (by decide) (by decide) (by decide)) (by decide) rfl) (b8) ((iv_w b9 (by decide) (by decide))) ((show x0 1 = x0 1 from rfl)) ((show x0 10 = x0 10 from rfl)) ((show x0 11 = x0 11 from rfl)) ((show x0 14 = x0 14 from rfl)) (hP) (hD) hS (lv_sub hl [2, 3, 1, 0] rfl)
  refine lv_iconst (v := 0) hx hb dX11_widest_0 ic_0 ?_
  refine lv_istore_n (lv' := [(2, .int 0), (0, .ref m0), (1, .int p0)]) hx hb dX11_widest_1 rfl hl (Nat.le_of_ble_eq_true rfl) rfl (fun ls hl => ?_)
  refine lv_aload_n hx hb dX11_widest_2 rfl (lv_at hl 1 rfl) ?_
  refine va_get (D := (dC, dI)) (ci := 11) (v := .ref (ra 20)) (C := RX11) (T := TX11) (N := 61) hx hb hts hin11 hown hK hP 0 rfl rfl 38 (Nat.le_of_ble_eq_true rfl) hw_6 (fun _ h9 => h9) rfl dX11_widest_3 ?_
  refine lv_iload_n hx hb dX11_widest_6 rfl (lv_at hl 2 rfl) ?_
  refine va_iald hx hb hK hP 2 1 rfl rfl (iv_in hp0 (by decide) (by decide)) dX11_widest_7 ?_
  refine iv_top (a := 0) (b := 10) (hq_diamondFrom _) (fun z10 b11 => ?_)
  refine lv_iconst (v := 1) hx hb dX11_widest_8 ic_1 ?_
  refine lv_iadd hx hb dX11_widest_9 ?_
  refine iv_top (a := 1) (b := 11) (iv_add b11 ivk_1 (by decide) (by decide) (by decide) (by decide)) (fun z12 b13 => ?_)
  refine lv_istore_n (lv' := [(3, .int z12), (2, .int 0), (0, .ref m0), (1, .int p0)]) hx hb dX11_widest_10 rfl hl (Nat.le_of_ble_eq_true rfl) rfl (fun ls hl => ?_)
  exact hJ11 _ 0 z12 _ _ _ (Nat.lt_succ_self _) ((iv_w ivk_0 (by decide) (by decide))) (b13) ((show x0 1 = x0 1 from rfl)) ((show x0 10 = x0 10 from rfl)) ((show x0 11 = x0 11 from rfl)) ((show x0 14 = x0 14 from rfl)) (hP) (hD) hS (lv_sub hl [2, 3, 1, 0] rfl)
def rm_s11_skewOf : Room := { frames := 4, cells := 0, slots := 0, locals := 96 }
set_option maxHeartbeats 4000000 in
set_option maxRecDepth 100000 in
theorem s11_skewOf (l : Launch) (dC : Nat → ClassId) (dI : Nat → Nat → Nat) (kB kI kJ kZ kC kS : ClassId) (sz : Nat) (m0 : Nat) (ra : Nat → Nat) (x0 : Nat → Int32) (q_told : Nat → Int32) (q_now : Nat → Int32) (q_diamondFrom : Nat → Int32) (q_diamondTo : Nat → Int32) (p0 : Int32) (p1 : Int32) (hX : fI lX11 hX11 x0) (hq_told : fI lTold hTold q_told) (hq_now : fI lNow hNow q_now) (hq_diamondFrom : fI (fun _ => 0) (fun _ => 10) q_diamondFrom) (hq_diamondTo : fI (fun _ => 0) (fun _ => 10) q_diamondTo) (hp0 : iv 0 2 p0) (hp1 : iv 0 9 p1) : Met l yX11_skewOf wsX11_skewOf rm_s11_skewOf (va_Pc [.ref m0, .int p0, .int p1] (fun U => U.heap.size = sz ∧ va_P (dC, dI) vwCl [(m0, .inr (11, oX11 ra x0)), (ra 2, .inl (kI, 8, .inl q_told)), (ra 11, .inl (kI, 1019, .inl q_now)), (ra 20, .inl (kI, 10, .inl q_diamondFrom)), (ra 21, .inl (kI, 10, .inl q_diamondTo))] U.heap ∧ kE dC dI kB kI kJ kZ kC kS U ∧ va_D (fun _ => True) [(m0, .inr (11, oX11 ra x0)), (ra 2, .inl (kI, 8, .inl q_told)), (ra 11, .inl (kI, 1019, .inl q_now)), (ra 20, .inl (kI, 10, .inl q_diamondFrom)), (ra 21, .inl (kI, 10, .inl q_diamondTo))])) (va_Qi (fun (r : Int32) (_ : Unit) => iv 0 2147483647 r) (fun _ t => va_P (dC, dI) vwCl [(m0, .inr (11, oX11 ra x0)), (ra 2, .inl (kI, 8, .inl q_told)), (ra 11, .inl (kI, 1019, .inl q_now)), (ra 20, .inl (kI, 10, .inl q_diamondFrom)), (ra 21, .inl (kI, 10, .inl q_diamondTo))] t.heap ∧ va_D (va_A [(m0, .inr (11, oX11 ra x0)), (ra 2, .inl (kI, 8, .inl q_told)), (ra 11, .inl (kI, 1019, .inl q_now)), (ra 20, .inl (kI, 10, .inl q_diamondFrom)), (ra 21, .inl (kI, 10, .inl q_diamondTo))] sz) [(m0, .inr (11, oX11 ra x0)), (ra 2, .inl (kI, 8, .inl q_told)), (ra 11, .inl (kI, 1019, .inl q_now)), (ra 20, .inl (kI, 10, .inl q_diamondFrom)), (ra 21, .inl (kI, 10, .inl q_diamondTo))]) (va_A [(m0, .inr (11, oX11 ra x0)), (ra 2, .inl (kI, 8, .inl q_told)), (ra 11, .inl (kI, 1019, .inl q_now)), (ra 20, .inl (kI, 10, .inl q_diamondFrom)), (ra 21, .inl (kI, 10, .inl q_diamondTo))] sz)) 0 0 (va_A [(m0, .inr (11, oX11 ra x0)), (ra 2, .inl (kI, 8, .inl q_told)), (ra 11, .inl (kI, 1019, .inl q_now)), (ra 20, .inl (kI, 10, .inl q_diamondFrom)), (ra 21, .inl (kI, 10, .inl q_diamondTo))] sz) := by
  refine Met.ofW (cc := cX11_skewOf) (maxL := 10) (ret := (some .int)) (by decide) rfl ?_
  intro p e s m args0 below meth c s₁ B hml hv
  obtain ⟨hargs, hsz, hP, hE, hD0⟩ := hv
  have hx := B.exec
  have hb := B.bytes
  have hr := B.returns
  have hts := atoms_spec (ws := wsX11_skewOf) B.pre
  have hown : s.vm.findClass RX11 = some m.cls := findClass_of_methodNamed B.named
  have hlocks := B.notSynchronized
  have hK := hE.1
  have hin11 : ∀ w ∈ wsX110, w ∈ wsX11_skewOf := fun _ h9 => List.mem_cons_of_mem _ (List.mem_append_right _ h9)
  have hw_0 := hts (.methodLink RX11 328 Lib.Math.max.name) (List.mem_of_getElem? (i := 4) rfl)
  have hw_1 := hts (.static Lib.Math.max.name) (List.mem_of_getElem? (i := 5) rfl)
  have hw_2 := hts (.initialized "java/lang/Math") (List.mem_of_getElem? (i := 6) rfl)
  have hw_3 := hts (.code Lib.Math.max.name Lib.Math.max.code 2 (some .int)) (List.mem_of_getElem? (i := 7) rfl)
  have hw_4 := hts (.methodLink RX11 175 Lib.Math.min.name) (List.mem_of_getElem? (i := 8) rfl)
  have hw_5 := hts (.static Lib.Math.min.name) (List.mem_of_getElem? (i := 9) rfl)
  have hw_6 := hts (.code Lib.Math.min.name Lib.Math.min.code 2 (some .int)) (List.mem_of_getElem? (i := 10) rfl)
  have hw_7 := hts (.fieldLink RX11 100 "PathProberModel" "diamondTo" "[I") (List.mem_of_getElem? (i := 2) rfl)
  have hw_8 := hts (.constant RX11 174 (100000)) (List.mem_of_getElem? (i := 3) rfl)
  have hw_9 := hts (.fieldLink RX11 97 "PathProberModel" "diamondFrom" "[I") (List.mem_of_getElem? (i := 1) rfl)
  subst hsz
  have hD := hD0.self (sz := s.heap.size)
  generalize hAe : va_A [(m0, .inr (11, oX11 ra x0)), (ra 2, .inl (kI, 8, .inl q_told)), (ra 11, .inl (kI, 1019, .inl q_now)), (ra 20, .inl (kI, 10, .inl q_diamondFrom)), (ra 21, .inl (kI, 10, .inl q_diamondTo))] s.heap.size = A at hD ⊢
  have hA : ∀ q : Nat, s.heap.size ≤ q → A q := fun q h => by rw [← hAe]; exact Or.inr h
  have hS : va_S A s.heap s.heap [] := va_S.rf
  have hP : va_P (dC, dI) vwCl [(m0, .inr (11, oX11 ra x0)), (ra 2, .inl (kI, 8, .inl q_told)), (ra 11, .inl (kI, 1019, .inl q_now)), (ra 20, .inl (kI, 10, .inl q_diamondFrom)), (ra 21, .inl (kI, 10, .inl q_diamondTo))] s.heap := hP
  have hl := lv_entry ([.ref m0, .int p0, .int p1]) (n := 10) (Nat.le_of_ble_eq_true rfl)
  have hla : entryFrame m args0 10 = entryFrame m ([.ref m0, .int p0, .int p1] : List Value).toArray 10 := by rw [hargs]
  rw [hla, lg_entry_eq]
  generalize (lg_sl ([.ref m0, .int p0, .int p1]) ++ List.replicate (10 - (lg_sl ([.ref m0, .int p0, .int p1])).length) Slot.unset).toArray = ls at hl ⊢
  have hl : lv_has ls 10 [(0, .ref m0), (1, .int p0), (2, .int p1)] := hl
  have hJ10 : ∀ (n : Nat) (v10_loc3 : Int32) (v10_loc4 : Int32) (H : Heap) (locs : List Loc) (ls : Array Slot), (10 - v10_loc4.toInt).toNat < n → iv 0 2147483647 v10_loc3 → iv 0 10 v10_loc4 → (x0 1 = x0 1) → (x0 10 = x0 10) → (x0 11 = x0 11) → (x0 14 = x0 14) → va_P (dC, dI) vwCl [(m0, .inr (11, oX11 ra x0)), (ra 2, .inl (kI, 8, .inl q_told)), (ra 11, .inl (kI, 1019, .inl q_now)), (ra 20, .inl (kI, 10, .inl q_diamondFrom)), (ra 21, .inl (kI, 10, .inl q_diamondTo))] H → va_D A [(m0, .inr (11, oX11 ra x0)), (ra 2, .inl (kI, 8, .inl q_told)), (ra 11, .inl (kI, 1019, .inl q_now)), (ra 20, .inl (kI, 10, .inl q_diamondFrom)), (ra 21, .inl (kI, 10, .inl q_diamondTo))] → va_S A s.heap H locs → lv_has ls 10 [(0, .ref m0), (1, .int p0), (2, .int p1), (3, .int v10_loc3), (4, .int v10_loc4)] → W p l e (headSpec wsX11_skewOf rm_s11_skewOf).room s m args0 below meth c H locs (0) (0) (MQ below (va_Qi (fun (r : Int32) (_ : Unit) => iv 0 2147483647 r) (fun _ t => va_P (dC, dI) vwCl [(m0, .inr (11, oX11 ra x0)), (ra 2, .inl (kI, 8, .inl q_told)), (ra 11, .inl (kI, 1019, .inl q_now)), (ra 20, .inl (kI, 10, .inl q_diamondFrom)), (ra 21, .inl (kI, 10, .inl q_diamondTo))] t.heap ∧ va_D A [(m0, .inr (11, oX11 ra x0)), (ra 2, .inl (kI, 8, .inl q_told)), (ra 11, .inl (kI, 1019, .inl q_now)), (ra 20, .inl (kI, 10, .inl q_diamondFrom)), (ra 21, .inl (kI, 10, .inl q_diamondTo))]) A) args0 s 0 0 A) (F0 m 10 ls []) := by
    intro n
    induction n with
    | zero => intro v10_loc3 v10_loc4 H locs ls hm10; exact absurd hm10 (Nat.not_lt_zero _)
    | succ n ih10 =>
      intro v10_loc3 v10_loc4 H locs ls hm10 h10_1 h10_2 htp_10 hfp_10 hor_10 hirl_10 hP hD hS hl
      have hJ40 : ∀ (n : Nat) (v40_loc5 : Int32) (v40_loc6 : Int32) (v40_loc7 : Int32) (v40_loc8 : Int32) (H : Heap) (locs : List Loc) (ls : Array Slot), (2147483647 - v40_loc8.toInt).toNat < n → iv 0 9 v10_loc4 → iv (-1) 2147483647 v40_loc6 → iv (-2147483648) 100000 v40_loc7 → iv 0 2147483647 v40_loc8 → (x0 1 = x0 1) → (x0 10 = x0 10) → (x0 11 = x0 11) → (x0 14 = x0 14) → va_P (dC, dI) vwCl [(m0, .inr (11, oX11 ra x0)), (ra 2, .inl (kI, 8, .inl q_told)), (ra 11, .inl (kI, 1019, .inl q_now)), (ra 20, .inl (kI, 10, .inl q_diamondFrom)), (ra 21, .inl (kI, 10, .inl q_diamondTo))] H → va_D A [(m0, .inr (11, oX11 ra x0)), (ra 2, .inl (kI, 8, .inl q_told)), (ra 11, .inl (kI, 1019, .inl q_now)), (ra 20, .inl (kI, 10, .inl q_diamondFrom)), (ra 21, .inl (kI, 10, .inl q_diamondTo))] → va_S A s.heap H locs → lv_has ls 10 [(0, .ref m0), (1, .int p0), (2, .int p1), (3, .int v10_loc3), (4, .int v10_loc4), (5, .int v40_loc5), (6, .int v40_loc6), (7, .int v40_loc7), (8, .int v40_loc8)] → W p l e (headSpec wsX11_skewOf rm_s11_skewOf).room s m args0 below meth c H locs (0) (0) (MQ below (va_Qi (fun (r : Int32) (_ : Unit) => iv 0 2147483647 r) (fun _ t => va_P (dC, dI) vwCl [(m0, .inr (11, oX11 ra x0)), (ra 2, .inl (kI, 8, .inl q_told)), (ra 11, .inl (kI, 1019, .inl q_now)), (ra 20, .inl (kI, 10, .inl q_diamondFrom)), (ra 21, .inl (kI, 10, .inl q_diamondTo))] t.heap ∧ va_D A [(m0, .inr (11, oX11 ra x0)), (ra 2, .inl (kI, 8, .inl q_told)), (ra 11, .inl (kI, 1019, .inl q_now)), (ra 20, .inl (kI, 10, .inl q_diamondFrom)), (ra 21, .inl (kI, 10, .inl q_diamondTo))]) A) args0 s 0 0 A) (F0 m 40 ls []) := by
        intro n
        induction n with
        | zero => intro v40_loc5 v40_loc6 v40_loc7 v40_loc8 H locs ls hm40; exact absurd hm40 (Nat.not_lt_zero _)
        | succ n ih40 =>
          intro v40_loc5 v40_loc6 v40_loc7 v40_loc8 H locs ls hm40 h40_1 h40_2 h40_3 h40_4 htp_40 hfp_40 hor_40 hirl_40 hP hD hS hl
          have hJ91 : ∀ (v91_loc6 : Int32) (v91_loc7 : Int32) (H : Heap) (locs : List Loc) (ls : Array Slot), iv (-1) 2147483647 v91_loc6 → iv (-2147483648) 100000 v91_loc7 → iv 0 20 v40_loc8 → (x0 1 = x0 1) → (x0 10 = x0 10) → (x0 11 = x0 11) → (x0 14 = x0 14) → va_P (dC, dI) vwCl [(m0, .inr (11, oX11 ra x0)), (ra 2, .inl (kI, 8, .inl q_told)), (ra 11, .inl (kI, 1019, .inl q_now)), (ra 20, .inl (kI, 10, .inl q_diamondFrom)), (ra 21, .inl (kI, 10, .inl q_diamondTo))] H → va_D A [(m0, .inr (11, oX11 ra x0)), (ra 2, .inl (kI, 8, .inl q_told)), (ra 11, .inl (kI, 1019, .inl q_now)), (ra 20, .inl (kI, 10, .inl q_diamondFrom)), (ra 21, .inl (kI, 10, .inl q_diamondTo))] → va_S A s.heap H locs → lv_has ls 10 [(0, .ref m0), (1, .int p0), (2, .int p1), (3, .int v10_loc3), (4, .int v10_loc4), (5, .int v40_loc5), (6, .int v91_loc6), (7, .int v91_loc7), (8, .int v40_loc8)] → W p l e (headSpec wsX11_skewOf rm_s11_skewOf).room s m args0 below meth c H locs (0) (0) (MQ below (va_Qi (fun (r : Int32) (_ : Unit) => iv 0 2147483647 r) (fun _ t => va_P (dC, dI) vwCl [(m0, .inr (11, oX11 ra x0)), (ra 2, .inl (kI, 8, .inl q_told)), (ra 11, .inl (kI, 1019, .inl q_now)), (ra 20, .inl (kI, 10, .inl q_diamondFrom)), (ra 21, .inl (kI, 10, .inl q_diamondTo))] t.heap ∧ va_D A [(m0, .inr (11, oX11 ra x0)), (ra 2, .inl (kI, 8, .inl q_told)), (ra 11, .inl (kI, 1019, .inl q_now)), (ra 20, .inl (kI, 10, .inl q_diamondFrom)), (ra 21, .inl (kI, 10, .inl q_diamondTo))]) A) args0 s 0 0 A) (F0 m 91 ls []) := by
            intro v91_loc6 v91_loc7 H locs ls h91_1 h91_2 h91_3 htp_91 hfp_91 hor_91 hirl_91 hP hD hS hl
            refine lv_iinc (v := v40_loc8 + Int32.ofInt 1) (lv' := [(8, .int (v40_loc8 + Int32.ofInt 1)), (0, .ref m0), (1, .int p0), (2, .int p1), (3, .int v10_loc3), (4, .int v10_loc4), (5, .int v40_loc5), (6, .int v91_loc6), (7, .int v91_loc7)]) hx hb dX11_skewOf_91 hl (k := 8) rfl (rfl) (Nat.le_of_ble_eq_true rfl) rfl (fun ls hl => ?_)
            have b1 : iv 1 21 (v40_loc8 + Int32.ofInt 1) := iv_add h91_3 ivo_1 (by decide) (by decide) (by decide) (by decide)
            refine lv_goto (tgt := 40) hx hb dX11_skewOf_94 rfl ?_
            exact ih40 v40_loc5 v91_loc6 v91_loc7 (v40_loc8 + Int32.ofInt 1) _ _ _ (ms_up (c := 1) (d := 0) h91_3 hm40 (by decide) (iv_inc 1 h91_3 (by decide) (by decide) (by decide) (by decide)) (by decide) rfl) (h40_1) (h91_1) (h91_2) ((iv_w b1 (by decide) (by decide))) ((show x0 1 = x0 1 from rfl)) ((show x0 10 = x0 10 from rfl)) ((show x0 11 = x0 11 from rfl)) ((show x0 14 = x0 14 from rfl)) (hP) (hD) hS (lv_sub hl [1, 2, 3, 4, 5, 6, 7, 8, 0] rfl)
          refine lv_iload hx hb dX11_skewOf_40 (lv_at hl 8 rfl) ?_
          refine lv_aload_n hx hb dX11_skewOf_42 rfl (lv_at hl 0 rfl) ?_
          obtain ⟨hPc, hDc, hFc, hJn⟩ := cl_a (wc := [(m0, .inr (11, oX11 ra x0)), (ra 2, .inl (kI, 8, .inl q_told))]) (wr := [(ra 11, .inl (kI, 1019, .inl q_now)), (ra 20, .inl (kI, 10, .inl q_diamondFrom)), (ra 21, .inl (kI, 10, .inl q_diamondTo))]) hP hD hS hA [0, 1] [2, 3, 4] rfl rfl (by decide +kernel)
          refine va_calli (va_runV (As := []) (rest := [.int v40_loc8]) ⟨hx, hb, hml, hown, hts⟩ (s11_links l dC dI kB kI kJ kZ kC kS H.size m0 ra x0 q_told (hX) (hq_told)) (cwV 0 hts gX11_skewOf_X11_links rfl rfl rfl (by decide +kernel) ⟨Nat.le_of_ble_eq_true rfl, Nat.le_of_ble_eq_true rfl⟩) ⟨fun a U g mk q => by obtain ⟨q0, q1, qP, qE, qD⟩ := q; exact ⟨q0, q1, qP, kE_call qE, qD⟩, va_recv hK hP (ci := 11) (q0 := 0) rfl rfl, fun U hU hW => ⟨rfl, by rw [hU], by rw [hU]; exact hPc, kE_warm hW hE, hDc.weaken (fun _ _ _ _ => trivial)⟩⟩ rfl rfl hl.1 rfl (lv_room (Nat.le_of_ble_eq_true rfl)) dX11_skewOf_43 ⟨Nat.le_of_ble_eq_true rfl, Nat.le_of_ble_eq_true rfl⟩) hS (fun q _ h => hFc q h) hFc (fun r2 u t H locs ht hvm w3 hB hz1 hk1 hS => ?_)
          obtain ⟨hP1, hD1⟩ := hB
          try dsimp only at w3
          obtain ⟨hPa, hDa⟩ := hJn (w1 := [(m0, .inr (11, oX11 ra x0)), (ra 2, .inl (kI, 8, .inl q_told))]) hk1 ht hP1 hD1
          clear hP hD hPc hDc hFc hJn hP1 hD1 hk1
          have hP : va_P (dC, dI) vwCl [(ra 11, .inl (kI, 1019, .inl q_now)), (ra 20, .inl (kI, 10, .inl q_diamondFrom)), (ra 21, .inl (kI, 10, .inl q_diamondTo)), (m0, .inr (11, oX11 ra x0)), (ra 2, .inl (kI, 8, .inl q_told))] H := hPa
          have hD : va_D A [(ra 11, .inl (kI, 1019, .inl q_now)), (ra 20, .inl (kI, 10, .inl q_diamondFrom)), (ra 21, .inl (kI, 10, .inl q_diamondTo)), (m0, .inr (11, oX11 ra x0)), (ra 2, .inl (kI, 8, .inl q_told))] := hDa
          clear hPa hDa
          refine W.widen (k := 0) (n := 0) (Nat.le_of_ble_eq_true rfl) (Nat.le_of_ble_eq_true rfl) ?_
          subst w3
          refine lv_icmp_gt (tgt := 97) hx hb dX11_skewOf_46 rfl (fun c4 => ?_) (fun c4 => ?_)
          · have b5 : iv 1 2147483647 v40_loc8 := iv_ltR c4 (hq_told 1 : iv 0 20 (q_told 1)) h40_4 (by decide) (by decide)
            refine lv_iload_n hx hb dX11_skewOf_97 rfl (lv_at hl 3 rfl) ?_
            refine lv_iload hx hb dX11_skewOf_98 (lv_at hl 6 rfl) ?_
            refine lv_iload hx hb dX11_skewOf_100 (lv_at hl 7 rfl) ?_
            refine lv_isub hx hb dX11_skewOf_102 ?_
            refine lv_topi (fun z6 _ => ?_)
            refine va_mmax hx hb (by rw [hml]; exact hl.1.symm) hown hw_0 hw_1 hw_2 hw_3 (Nat.le_of_ble_eq_true rfl) (Nat.le_of_ble_eq_true rfl) (Nat.le_of_ble_eq_true rfl) (Nat.le_of_ble_eq_true rfl) dX11_skewOf_103 ?_
            refine iv_top (a := 0) (b := 2147483647) (iv_max h10_1 (iv_t z6) (by decide) (by decide)) (fun z7 b8 => ?_)
            refine lv_istore_n (lv' := [(3, .int z7), (0, .ref m0), (1, .int p0), (2, .int p1), (4, .int v10_loc4), (5, .int v40_loc5), (6, .int v40_loc6), (7, .int v40_loc7), (8, .int v40_loc8)]) hx hb dX11_skewOf_106 rfl hl (Nat.le_of_ble_eq_true rfl) rfl (fun ls hl => ?_)
            refine lv_iinc (v := v10_loc4 + Int32.ofInt 1) (lv' := [(4, .int (v10_loc4 + Int32.ofInt 1)), (3, .int z7), (0, .ref m0), (1, .int p0), (2, .int p1), (5, .int v40_loc5), (6, .int v40_loc6), (7, .int v40_loc7), (8, .int v40_loc8)]) hx hb dX11_skewOf_107 hl (k := 4) rfl (rfl) (Nat.le_of_ble_eq_true rfl) rfl (fun ls hl => ?_)
            have b9 : iv 1 10 (v10_loc4 + Int32.ofInt 1) := iv_add h40_1 ivo_1 (by decide) (by decide) (by decide) (by decide)
            refine lv_goto (tgt := 10) hx hb dX11_skewOf_110 rfl ?_
            have hPD9 := cl_s (wc := [(m0, .inr (11, oX11 ra x0)), (ra 2, .inl (kI, 8, .inl q_told)), (ra 11, .inl (kI, 1019, .inl q_now)), (ra 20, .inl (kI, 10, .inl q_diamondFrom)), (ra 21, .inl (kI, 10, .inl q_diamondTo))]) hP hD [3, 4, 0, 1, 2] rfl (by decide +kernel)
            exact ih10 z7 (v10_loc4 + Int32.ofInt 1) _ _ _ (ms_up (c := 1) (d := 0) h40_1 hm10 (by decide) (iv_inc 1 h40_1 (by decide) (by decide) (by decide) (by decide)) (by decide) rfl) (b8) ((iv_w b9 (by decide) (by decide))) ((show x0 1 = x0 1 from rfl)) ((show x0 10 = x0 10 from rfl)) ((show x0 11 = x0 11 from rfl)) ((show x0 14 = x0 14 from rfl)) (hPD9.1) (hPD9.2) hS (lv_sub hl [2, 3, 4, 1, 0] rfl)
          · have b10 : iv 0 20 v40_loc8 := iv_leL (Int32.not_lt.mp c4) h40_4 (hq_told 1 : iv 0 20 (q_told 1)) (by decide) (by decide)
            refine lv_iload hx hb dX11_skewOf_49 (lv_at hl 5 rfl) ?_
            refine lv_iload hx hb dX11_skewOf_51 (lv_at hl 8 rfl) ?_
            refine lv_ishr hx hb dX11_skewOf_53 ?_
            refine lv_topi (fun z11 _ => ?_)
            refine lv_iconst (v := 1) hx hb dX11_skewOf_54 ic_1 ?_
            refine lv_iand hx hb dX11_skewOf_55 ?_
            refine iv_top (a := 0) (b := 1) (iv_and (m := 1) (by decide) (by decide) (by decide)) (fun z12 b13 => ?_)
            refine lv_if_ne (tgt := 62) hx hb dX11_skewOf_56 rfl (fun c14 => ?_) (fun c14 => ?_)
            · have b15 : iv 1 1 z12 := iv_neLo c14 b13 ivk_0 (by decide) (by decide)
              refine lv_aload_n hx hb dX11_skewOf_62 rfl (lv_at hl 0 rfl) ?_
              refine lv_iload_n hx hb dX11_skewOf_63 rfl (lv_at hl 1 rfl) ?_
              refine lv_iload hx hb dX11_skewOf_64 (lv_at hl 4 rfl) ?_
              refine lv_iload hx hb dX11_skewOf_66 (lv_at hl 8 rfl) ?_
              obtain ⟨hPc, hDc, hFc, hJn⟩ := cl_a (wc := [(m0, .inr (11, oX11 ra x0)), (ra 2, .inl (kI, 8, .inl q_told)), (ra 11, .inl (kI, 1019, .inl q_now))]) (wr := [(ra 20, .inl (kI, 10, .inl q_diamondFrom)), (ra 21, .inl (kI, 10, .inl q_diamondTo))]) hP hD hS hA [3, 4, 0] [1, 2] rfl rfl (by decide +kernel)
              refine va_calli (va_runV (As := [.int p0, .int v10_loc4, .int v40_loc8]) (rest := []) ⟨hx, hb, hml, hown, hts⟩ (s11_edgesFrom l dC dI kB kI kJ kZ kC kS H.size m0 ra x0 q_told q_now p0 v10_loc4 v40_loc8 (hX) (hq_told) (hq_now) (hp0) (h40_1)) (cwV 3 hts gX11_skewOf_X11_edgesFrom rfl rfl rfl (by decide +kernel) ⟨Nat.le_of_ble_eq_true rfl, Nat.le_of_ble_eq_true rfl⟩) ⟨fun a U g mk q => by obtain ⟨q0, q1, qP, qE, qD⟩ := q; exact ⟨q0, q1, qP, kE_call qE, qD⟩, va_recv hK hP (ci := 11) (q0 := 3) rfl rfl, fun U hU hW => ⟨rfl, by rw [hU], by rw [hU]; exact hPc, kE_warm hW hE, hDc.weaken (fun _ _ _ _ => trivial)⟩⟩ rfl rfl hl.1 rfl (lv_room (Nat.le_of_ble_eq_true rfl)) dX11_skewOf_68 ⟨Nat.le_of_ble_eq_true rfl, Nat.le_of_ble_eq_true rfl⟩) hS (fun q _ h => hFc q h) hFc (fun r16 u t H locs ht hvm w17 hB hz1 hk1 hS => ?_)
              obtain ⟨hP1, hD1⟩ := hB
              try dsimp only at w17
              obtain ⟨hPa, hDa⟩ := hJn (w1 := [(m0, .inr (11, oX11 ra x0)), (ra 2, .inl (kI, 8, .inl q_told)), (ra 11, .inl (kI, 1019, .inl q_now))]) hk1 ht hP1 hD1
              clear hP hD hPc hDc hFc hJn hP1 hD1 hk1
              have hP : va_P (dC, dI) vwCl [(ra 20, .inl (kI, 10, .inl q_diamondFrom)), (ra 21, .inl (kI, 10, .inl q_diamondTo)), (m0, .inr (11, oX11 ra x0)), (ra 2, .inl (kI, 8, .inl q_told)), (ra 11, .inl (kI, 1019, .inl q_now))] H := hPa
              have hD : va_D A [(ra 20, .inl (kI, 10, .inl q_diamondFrom)), (ra 21, .inl (kI, 10, .inl q_diamondTo)), (m0, .inr (11, oX11 ra x0)), (ra 2, .inl (kI, 8, .inl q_told)), (ra 11, .inl (kI, 1019, .inl q_now))] := hDa
              clear hPa hDa
              refine W.widen (k := 0) (n := 0) (Nat.le_of_ble_eq_true rfl) (Nat.le_of_ble_eq_true rfl) ?_
              refine lv_istore (lv' := [(9, .int r16), (0, .ref m0), (1, .int p0), (2, .int p1), (3, .int v10_loc3), (4, .int v10_loc4), (5, .int v40_loc5), (6, .int v40_loc6), (7, .int v40_loc7), (8, .int v40_loc8)]) hx hb dX11_skewOf_71 hl (Nat.le_of_ble_eq_true rfl) rfl (fun ls hl => ?_)
              refine lv_iload hx hb dX11_skewOf_73 (lv_at hl 7 rfl) ?_
              refine lv_iload hx hb dX11_skewOf_75 (lv_at hl 0 rfl) ?_
              refine va_mmax hx hb (by rw [hml]; exact hl.1.symm) hown hw_0 hw_1 hw_2 hw_3 (Nat.le_of_ble_eq_true rfl) (Nat.le_of_ble_eq_true rfl) (Nat.le_of_ble_eq_true rfl) (Nat.le_of_ble_eq_true rfl) dX11_skewOf_77 ?_
              refine iv_top (a := (-1)) (b := 2147483647) (iv_max h40_2 (iv_t r16) (by decide) (by decide)) (fun z18 b19 => ?_)
              refine lv_istore (lv' := [(6, .int z18), (9, .int r16), (0, .ref m0), (1, .int p0), (2, .int p1), (3, .int v10_loc3), (4, .int v10_loc4), (5, .int v40_loc5), (7, .int v40_loc7), (8, .int v40_loc8)]) hx hb dX11_skewOf_80 hl (Nat.le_of_ble_eq_true rfl) rfl (fun ls hl => ?_)
              refine lv_iload hx hb dX11_skewOf_82 (lv_at hl 8 rfl) ?_
              refine lv_iload hx hb dX11_skewOf_84 (lv_at hl 1 rfl) ?_
              refine va_mmin hx hb (by rw [hml]; exact hl.1.symm) hown hw_4 hw_5 hw_2 hw_6 (Nat.le_of_ble_eq_true rfl) (Nat.le_of_ble_eq_true rfl) (Nat.le_of_ble_eq_true rfl) (Nat.le_of_ble_eq_true rfl) dX11_skewOf_86 ?_
              refine iv_top (a := (-2147483648)) (b := 100000) (iv_min h40_3 (iv_t r16) (by decide) (by decide)) (fun z20 b21 => ?_)
              refine lv_istore (lv' := [(7, .int z20), (6, .int z18), (9, .int r16), (0, .ref m0), (1, .int p0), (2, .int p1), (3, .int v10_loc3), (4, .int v10_loc4), (5, .int v40_loc5), (8, .int v40_loc8)]) hx hb dX11_skewOf_89 hl (Nat.le_of_ble_eq_true rfl) rfl (fun ls hl => ?_)
              have hPD9 := cl_s (wc := [(m0, .inr (11, oX11 ra x0)), (ra 2, .inl (kI, 8, .inl q_told)), (ra 11, .inl (kI, 1019, .inl q_now)), (ra 20, .inl (kI, 10, .inl q_diamondFrom)), (ra 21, .inl (kI, 10, .inl q_diamondTo))]) hP hD [2, 3, 4, 0, 1] rfl (by decide +kernel)
              exact hJ91 z18 z20 _ _ _ (b19) (b21) (b10) ((show x0 1 = x0 1 from rfl)) ((show x0 10 = x0 10 from rfl)) ((show x0 11 = x0 11 from rfl)) ((show x0 14 = x0 14 from rfl)) (hPD9.1) (hPD9.2) hS (lv_sub hl [3, 4, 5, 6, 7, 8, 1, 0, 9] rfl)
            · have b22 : iv 0 0 z12 := iv_eqL c14 ivk_0
              refine lv_goto (tgt := 91) hx hb dX11_skewOf_59 rfl ?_
              have hPD9 := cl_s (wc := [(m0, .inr (11, oX11 ra x0)), (ra 2, .inl (kI, 8, .inl q_told)), (ra 11, .inl (kI, 1019, .inl q_now)), (ra 20, .inl (kI, 10, .inl q_diamondFrom)), (ra 21, .inl (kI, 10, .inl q_diamondTo))]) hP hD [3, 4, 0, 1, 2] rfl (by decide +kernel)
              exact hJ91 v40_loc6 v40_loc7 _ _ _ (h40_2) (h40_3) (b10) ((show x0 1 = x0 1 from rfl)) ((show x0 10 = x0 10 from rfl)) ((show x0 11 = x0 11 from rfl)) ((show x0 14 = x0 14 from rfl)) (hPD9.1) (hPD9.2) hS (lv_sub hl [0, 1, 2, 3, 4, 5, 6, 7, 8] rfl)
      refine lv_iload hx hb dX11_skewOf_10 (lv_at hl 4 rfl) ?_
      refine lv_aload_n hx hb dX11_skewOf_12 rfl (lv_at hl 0 rfl) ?_
      refine va_get (D := (dC, dI)) (ci := 11) (v := .ref (ra 21)) (C := RX11) (T := TX11) (N := 61) hx hb hts hin11 hown hK hP 0 rfl rfl 39 (Nat.le_of_ble_eq_true rfl) hw_7 (fun _ h9 => h9) rfl dX11_skewOf_13 ?_
      refine lv_iload_n hx hb dX11_skewOf_16 rfl (lv_at hl 2 rfl) ?_
      refine va_iald hx hb hK hP 4 1 rfl rfl (iv_in hp1 (by decide) (by decide)) dX11_skewOf_17 ?_
      refine iv_top (a := 0) (b := 10) (hq_diamondTo _) (fun z23 b24 => ?_)
      refine lv_icmp_ge (tgt := 113) hx hb dX11_skewOf_18 rfl (fun c25 => ?_) (fun c25 => ?_)
      · refine lv_iload_n hx hb dX11_skewOf_113 rfl (lv_at hl 3 rfl) ?_
        have hP9 := hP
        have hD9 := hD
        exact W.iret (v := v10_loc3) hx hb hr (fun t ht hW => ⟨⟨v10_loc3, (), rfl, h10_1, by rw [ht]; exact hP9, hD9⟩, hS.F ht⟩) hS.2.2 dX11_skewOf_114
      · have b26 : iv 0 9 v10_loc4 := iv_ltL (Int32.not_le.mp c25) h10_2 b24 (by decide) (by decide)
        have b27 : iv 1 10 z23 := iv_ltR (Int32.not_le.mp c25) h10_2 b24 (by decide) (by decide)
        refine lv_aload_n hx hb dX11_skewOf_21 rfl (lv_at hl 0 rfl) ?_
        refine lv_iload_n hx hb dX11_skewOf_22 rfl (lv_at hl 1 rfl) ?_
        refine lv_iload hx hb dX11_skewOf_23 (lv_at hl 4 rfl) ?_
        obtain ⟨hPc, hDc, hFc, hJn⟩ := cl_a (wc := [(m0, .inr (11, oX11 ra x0)), (ra 11, .inl (kI, 1019, .inl q_now))]) (wr := [(ra 2, .inl (kI, 8, .inl q_told)), (ra 20, .inl (kI, 10, .inl q_diamondFrom)), (ra 21, .inl (kI, 10, .inl q_diamondTo))]) hP hD hS hA [0, 2] [1, 3, 4] rfl rfl (by decide +kernel)
        refine va_calli (va_runV (As := [.int p0, .int v10_loc4]) (rest := []) ⟨hx, hb, hml, hown, hts⟩ (s11_addresses0 l dC dI kB kI kJ kZ kC kS H.size m0 ra x0 q_now p0 v10_loc4 (hX) (hq_now) (hp0) ((iv_w b26 (by decide) (by decide)))) (cwV 2 hts gX11_skewOf_X11_addresses rfl rfl rfl (by decide +kernel) ⟨Nat.le_of_ble_eq_true rfl, Nat.le_of_ble_eq_true rfl⟩) ⟨fun a U g mk q => by obtain ⟨q0, q1, qP, qE, qD⟩ := q; exact ⟨q0, q1, qP, kE_call qE, qD⟩, va_recv hK hP (ci := 11) (q0 := 0) rfl rfl, fun U hU hW => ⟨rfl, by rw [hU], by rw [hU]; exact hPc, kE_warm hW hE, hDc.weaken (fun _ _ _ _ => trivial)⟩⟩ rfl rfl hl.1 rfl (lv_room (Nat.le_of_ble_eq_true rfl)) dX11_skewOf_25 ⟨Nat.le_of_ble_eq_true rfl, Nat.le_of_ble_eq_true rfl⟩) hS (fun q _ h => hFc q h) hFc (fun r28 u t H locs ht hvm w29 hB hz1 hk1 hS => ?_)
        obtain ⟨hP1, hD1⟩ := hB
        try dsimp only at w29
        obtain ⟨hPa, hDa⟩ := hJn (w1 := [(m0, .inr (11, oX11 ra x0)), (ra 11, .inl (kI, 1019, .inl q_now))]) hk1 ht hP1 hD1
        clear hP hD hPc hDc hFc hJn hP1 hD1 hk1
        have hP : va_P (dC, dI) vwCl [(ra 2, .inl (kI, 8, .inl q_told)), (ra 20, .inl (kI, 10, .inl q_diamondFrom)), (ra 21, .inl (kI, 10, .inl q_diamondTo)), (m0, .inr (11, oX11 ra x0)), (ra 11, .inl (kI, 1019, .inl q_now))] H := hPa
        have hD : va_D A [(ra 2, .inl (kI, 8, .inl q_told)), (ra 20, .inl (kI, 10, .inl q_diamondFrom)), (ra 21, .inl (kI, 10, .inl q_diamondTo)), (m0, .inr (11, oX11 ra x0)), (ra 11, .inl (kI, 1019, .inl q_now))] := hDa
        clear hPa hDa
        refine W.widen (k := 0) (n := 0) (Nat.le_of_ble_eq_true rfl) (Nat.le_of_ble_eq_true rfl) ?_
        refine lv_istore (lv' := [(5, .int r28), (0, .ref m0), (1, .int p0), (2, .int p1), (3, .int v10_loc3), (4, .int v10_loc4)]) hx hb dX11_skewOf_28 hl (Nat.le_of_ble_eq_true rfl) rfl (fun ls hl => ?_)
        refine lv_iconst (v := (-1)) hx hb dX11_skewOf_30 ic_m1 ?_
        refine lv_istore (lv' := [(6, .int (-1)), (5, .int r28), (0, .ref m0), (1, .int p0), (2, .int p1), (3, .int v10_loc3), (4, .int v10_loc4)]) hx hb dX11_skewOf_31 hl (Nat.le_of_ble_eq_true rfl) rfl (fun ls hl => ?_)
        refine lv_ldc hx hb hown hw_8 dX11_skewOf_33 ?_
        refine lv_istore (lv' := [(7, .int 100000), (6, .int (-1)), (5, .int r28), (0, .ref m0), (1, .int p0), (2, .int p1), (3, .int v10_loc3), (4, .int v10_loc4)]) hx hb dX11_skewOf_35 hl (Nat.le_of_ble_eq_true rfl) rfl (fun ls hl => ?_)
        refine lv_iconst (v := 0) hx hb dX11_skewOf_37 ic_0 ?_
        refine lv_istore (lv' := [(8, .int 0), (7, .int 100000), (6, .int (-1)), (5, .int r28), (0, .ref m0), (1, .int p0), (2, .int p1), (3, .int v10_loc3), (4, .int v10_loc4)]) hx hb dX11_skewOf_38 hl (Nat.le_of_ble_eq_true rfl) rfl (fun ls hl => ?_)
        have hPD9 := cl_s (wc := [(m0, .inr (11, oX11 ra x0)), (ra 2, .inl (kI, 8, .inl q_told)), (ra 11, .inl (kI, 1019, .inl q_now)), (ra 20, .inl (kI, 10, .inl q_diamondFrom)), (ra 21, .inl (kI, 10, .inl q_diamondTo))]) hP hD [3, 0, 4, 1, 2] rfl (by decide +kernel)
        exact hJ40 _ r28 (-1) 100000 0 _ _ _ (Nat.lt_succ_self _) (b26) ((iv_w ivk_m1 (by decide) (by decide))) ((iv_w (iv_k (by decide) (by decide) : iv 100000 100000 100000) (by decide) (by decide))) ((iv_w ivk_0 (by decide) (by decide))) ((show x0 1 = x0 1 from rfl)) ((show x0 10 = x0 10 from rfl)) ((show x0 11 = x0 11 from rfl)) ((show x0 14 = x0 14 from rfl)) (hPD9.1) (hPD9.2) hS (lv_sub hl [4, 5, 6, 7, 8, 3, 2, 1, 0] rfl)
  refine lv_iconst (v := 0) hx hb dX11_skewOf_0 ic_0 ?_
  refine lv_istore_n (lv' := [(3, .int 0), (0, .ref m0), (1, .int p0), (2, .int p1)]) hx hb dX11_skewOf_1 rfl hl (Nat.le_of_ble_eq_true rfl) rfl (fun ls hl => ?_)
  refine lv_aload_n hx hb dX11_skewOf_2 rfl (lv_at hl 1 rfl) ?_
  refine va_get (D := (dC, dI)) (ci := 11) (v := .ref (ra 20)) (C := RX11) (T := TX11) (N := 61) hx hb hts hin11 hown hK hP 0 rfl rfl 38 (Nat.le_of_ble_eq_true rfl) hw_9 (fun _ h9 => h9) rfl dX11_skewOf_3 ?_
  refine lv_iload_n hx hb dX11_skewOf_6 rfl (lv_at hl 3 rfl) ?_
  refine va_iald hx hb hK hP 3 1 rfl rfl (iv_in hp1 (by decide) (by decide)) dX11_skewOf_7 ?_
  refine iv_top (a := 0) (b := 10) (hq_diamondFrom _) (fun z30 b31 => ?_)
  refine lv_istore (lv' := [(4, .int z30), (3, .int 0), (0, .ref m0), (1, .int p0), (2, .int p1)]) hx hb dX11_skewOf_8 hl (Nat.le_of_ble_eq_true rfl) rfl (fun ls hl => ?_)
  exact hJ10 _ 0 z30 _ _ _ (Nat.lt_succ_self _) ((iv_w ivk_0 (by decide) (by decide))) (b31) ((show x0 1 = x0 1 from rfl)) ((show x0 10 = x0 10 from rfl)) ((show x0 11 = x0 11 from rfl)) ((show x0 14 = x0 14 from rfl)) (hP) (hD) hS (lv_sub hl [2, 3, 4, 1, 0] rfl)
def rm_s11_loopOf : Room := { frames := 2, cells := 0, slots := 0, locals := 45 }
set_option maxHeartbeats 4000000 in
set_option maxRecDepth 100000 in
theorem s11_loopOf (l : Launch) (dC : Nat → ClassId) (dI : Nat → Nat → Nat) (kB kI kJ kZ kC kS : ClassId) (sz : Nat) (m0 : Nat) (ra : Nat → Nat) (x0 : Nat → Int32) (q_to : Nat → Int32) (q_goal : Nat → Int32) (q_now : Nat → Int32) (p0 : Int32) (p1 : Int32) (hX : fI lX11 hX11 x0) (hq_to : fI (fun _ => 0) (fun _ => 11) q_to) (hq_goal : fI (fun _ => 0) (fun _ => 11) q_goal) (hq_now : fI lNow hNow q_now) (hp0 : iv 0 31 p0) (hp1 : iv 0 2 p1) : Met l yX11_loopOf wsX11_loopOf rm_s11_loopOf (va_Pc [.ref m0, .int p0, .int p1] (fun U => U.heap.size = sz ∧ va_P (dC, dI) vwCl [(m0, .inr (11, oX11 ra x0)), (ra 9, .inl (kI, 40, .inl q_to)), (ra 10, .inl (kI, 6, .inl q_goal)), (ra 11, .inl (kI, 1019, .inl q_now))] U.heap ∧ kE dC dI kB kI kJ kZ kC kS U ∧ va_D (fun _ => True) [(m0, .inr (11, oX11 ra x0)), (ra 9, .inl (kI, 40, .inl q_to)), (ra 10, .inl (kI, 6, .inl q_goal)), (ra 11, .inl (kI, 1019, .inl q_now))])) (va_Qi (fun (r : Int32) (_ : Unit) => iv (-1) 9 r ∧ (r = -1 ∨ (iv 1 9 r ∧ iv 0 20 (q_now ((59 + (10 * ((3 * p0) + p1)) + r) - 1).toNatClampNeg - 1)))) (fun _ t => va_P (dC, dI) vwCl [(m0, .inr (11, oX11 ra x0)), (ra 9, .inl (kI, 40, .inl q_to)), (ra 10, .inl (kI, 6, .inl q_goal)), (ra 11, .inl (kI, 1019, .inl q_now))] t.heap ∧ va_D (va_A [(m0, .inr (11, oX11 ra x0)), (ra 9, .inl (kI, 40, .inl q_to)), (ra 10, .inl (kI, 6, .inl q_goal)), (ra 11, .inl (kI, 1019, .inl q_now))] sz) [(m0, .inr (11, oX11 ra x0)), (ra 9, .inl (kI, 40, .inl q_to)), (ra 10, .inl (kI, 6, .inl q_goal)), (ra 11, .inl (kI, 1019, .inl q_now))]) (va_A [(m0, .inr (11, oX11 ra x0)), (ra 9, .inl (kI, 40, .inl q_to)), (ra 10, .inl (kI, 6, .inl q_goal)), (ra 11, .inl (kI, 1019, .inl q_now))] sz)) 0 0 (va_A [(m0, .inr (11, oX11 ra x0)), (ra 9, .inl (kI, 40, .inl q_to)), (ra 10, .inl (kI, 6, .inl q_goal)), (ra 11, .inl (kI, 1019, .inl q_now))] sz) := by
  refine Met.ofW (cc := cX11_loopOf) (maxL := 5) (ret := (some .int)) (by decide) rfl ?_
  intro p e s m args0 below meth c s₁ B hml hv
  obtain ⟨hargs, hsz, hP, hE, hD0⟩ := hv
  have hx := B.exec
  have hb := B.bytes
  have hr := B.returns
  have hts := atoms_spec (ws := wsX11_loopOf) B.pre
  have hown : s.vm.findClass RX11 = some m.cls := findClass_of_methodNamed B.named
  have hlocks := B.notSynchronized
  have hK := hE.1
  have hin11 : ∀ w ∈ wsX110, w ∈ wsX11_loopOf := fun _ h9 => List.mem_cons_of_mem _ (List.mem_append_right _ h9)
  have hw_0 := hts (.fieldLink RX11 58 "PathProberModel" "goal" "[I") (List.mem_of_getElem? (i := 1) rfl)
  subst hsz
  have hD := hD0.self (sz := s.heap.size)
  generalize hAe : va_A [(m0, .inr (11, oX11 ra x0)), (ra 9, .inl (kI, 40, .inl q_to)), (ra 10, .inl (kI, 6, .inl q_goal)), (ra 11, .inl (kI, 1019, .inl q_now))] s.heap.size = A at hD ⊢
  have hA : ∀ q : Nat, s.heap.size ≤ q → A q := fun q h => by rw [← hAe]; exact Or.inr h
  have hS : va_S A s.heap s.heap [] := va_S.rf
  have hP : va_P (dC, dI) vwCl [(m0, .inr (11, oX11 ra x0)), (ra 9, .inl (kI, 40, .inl q_to)), (ra 10, .inl (kI, 6, .inl q_goal)), (ra 11, .inl (kI, 1019, .inl q_now))] s.heap := hP
  have hl := lv_entry ([.ref m0, .int p0, .int p1]) (n := 5) (Nat.le_of_ble_eq_true rfl)
  have hla : entryFrame m args0 5 = entryFrame m ([.ref m0, .int p0, .int p1] : List Value).toArray 5 := by rw [hargs]
  rw [hla, lg_entry_eq]
  generalize (lg_sl ([.ref m0, .int p0, .int p1]) ++ List.replicate (5 - (lg_sl ([.ref m0, .int p0, .int p1])).length) Slot.unset).toArray = ls at hl ⊢
  have hl : lv_has ls 5 [(0, .ref m0), (1, .int p0), (2, .int p1)] := hl
  have hJ2 : ∀ (n : Nat) (v2_loc3 : Int32) (H : Heap) (locs : List Loc) (ls : Array Slot), (10 - v2_loc3.toInt).toNat < n → iv 1 10 v2_loc3 → (x0 1 = x0 1) → (x0 10 = x0 10) → (x0 11 = x0 11) → (x0 14 = x0 14) → va_P (dC, dI) vwCl [(m0, .inr (11, oX11 ra x0)), (ra 9, .inl (kI, 40, .inl q_to)), (ra 10, .inl (kI, 6, .inl q_goal)), (ra 11, .inl (kI, 1019, .inl q_now))] H → va_D A [(m0, .inr (11, oX11 ra x0)), (ra 9, .inl (kI, 40, .inl q_to)), (ra 10, .inl (kI, 6, .inl q_goal)), (ra 11, .inl (kI, 1019, .inl q_now))] → va_S A s.heap H locs → lv_has ls 5 [(0, .ref m0), (1, .int p0), (2, .int p1), (3, .int v2_loc3)] → W p l e (headSpec wsX11_loopOf rm_s11_loopOf).room s m args0 below meth c H locs (0) (0) (MQ below (va_Qi (fun (r : Int32) (_ : Unit) => iv (-1) 9 r ∧ (r = -1 ∨ (iv 1 9 r ∧ iv 0 20 (q_now ((59 + (10 * ((3 * p0) + p1)) + r) - 1).toNatClampNeg - 1)))) (fun _ t => va_P (dC, dI) vwCl [(m0, .inr (11, oX11 ra x0)), (ra 9, .inl (kI, 40, .inl q_to)), (ra 10, .inl (kI, 6, .inl q_goal)), (ra 11, .inl (kI, 1019, .inl q_now))] t.heap ∧ va_D A [(m0, .inr (11, oX11 ra x0)), (ra 9, .inl (kI, 40, .inl q_to)), (ra 10, .inl (kI, 6, .inl q_goal)), (ra 11, .inl (kI, 1019, .inl q_now))]) A) args0 s 0 0 A) (F0 m 2 ls []) := by
    intro n
    induction n with
    | zero => intro v2_loc3 H locs ls hm2; exact absurd hm2 (Nat.not_lt_zero _)
    | succ n ih2 =>
      intro v2_loc3 H locs ls hm2 h2_1 htp_2 hfp_2 hor_2 hirl_2 hP hD hS hl
      refine lv_iload_n hx hb dX11_loopOf_2 rfl (lv_at hl 3 rfl) ?_
      refine lv_bipush (v := 10) hx hb dX11_loopOf_3 bp_10 ?_
      refine lv_icmp_ge (tgt := 60) hx hb dX11_loopOf_5 rfl (fun c1 => ?_) (fun c1 => ?_)
      · have b2 : iv 10 10 v2_loc3 := iv_leR c1 ivk_10 h2_1 (by decide) (by decide)
        refine lv_iconst (v := (-1)) hx hb dX11_loopOf_60 ic_m1 ?_
        have hP9 := hP
        have hD9 := hD
        exact W.iret (v := (-1)) hx hb hr (fun t ht hW => ⟨⟨(-1), (), rfl, ⟨(iv_w ivk_m1 (by decide) (by decide)), Or.inl rfl⟩, by rw [ht]; exact hP9, hD9⟩, hS.F ht⟩) hS.2.2 dX11_loopOf_61
      · have b3 : iv 1 9 v2_loc3 := iv_ltL (Int32.not_le.mp c1) h2_1 ivk_10 (by decide) (by decide)
        refine lv_aload_n hx hb dX11_loopOf_8 rfl (lv_at hl 0 rfl) ?_
        refine lv_iload_n hx hb dX11_loopOf_9 rfl (lv_at hl 1 rfl) ?_
        refine lv_iload_n hx hb dX11_loopOf_10 rfl (lv_at hl 2 rfl) ?_
        refine lv_iload_n hx hb dX11_loopOf_11 rfl (lv_at hl 3 rfl) ?_
        obtain ⟨hPc, hDc, hFc, hJn⟩ := cl_a (wc := [(m0, .inr (11, oX11 ra x0)), (ra 11, .inl (kI, 1019, .inl q_now))]) (wr := [(ra 9, .inl (kI, 40, .inl q_to)), (ra 10, .inl (kI, 6, .inl q_goal))]) hP hD hS hA [0, 3] [1, 2] rfl rfl (by decide +kernel)
        refine va_calli (va_runV (As := [.int p0, .int p1, .int v2_loc3]) (rest := []) ⟨hx, hb, hml, hown, hts⟩ (s11_seenBy l dC dI kB kI kJ kZ kC kS H.size m0 ra x0 q_now p0 p1 v2_loc3 (hX) (hq_now) (hp0) (hp1) ((iv_w b3 (by decide) (by decide)))) (cwV 3 hts gX11_loopOf_X11_seenBy rfl rfl rfl (by decide +kernel) ⟨Nat.le_of_ble_eq_true rfl, Nat.le_of_ble_eq_true rfl⟩) ⟨fun a U g mk q => by obtain ⟨q0, q1, qP, qE, qD⟩ := q; exact ⟨q0, q1, qP, kE_call qE, qD⟩, va_recv hK hP (ci := 11) (q0 := 0) rfl rfl, fun U hU hW => ⟨rfl, by rw [hU], by rw [hU]; exact hPc, kE_warm hW hE, hDc.weaken (fun _ _ _ _ => trivial)⟩⟩ rfl rfl hl.1 rfl (lv_room (Nat.le_of_ble_eq_true rfl)) dX11_loopOf_12 ⟨Nat.le_of_ble_eq_true rfl, Nat.le_of_ble_eq_true rfl⟩) hS (fun q _ h => hFc q h) hFc (fun r4 u t H locs ht hvm w5 hB hz1 hk1 hS => ?_)
        obtain ⟨hP1, hD1⟩ := hB
        try dsimp only at w5
        obtain ⟨hPa, hDa⟩ := hJn (w1 := [(m0, .inr (11, oX11 ra x0)), (ra 11, .inl (kI, 1019, .inl q_now))]) hk1 ht hP1 hD1
        clear hP hD hPc hDc hFc hJn hP1 hD1 hk1
        have hP : va_P (dC, dI) vwCl [(ra 9, .inl (kI, 40, .inl q_to)), (ra 10, .inl (kI, 6, .inl q_goal)), (m0, .inr (11, oX11 ra x0)), (ra 11, .inl (kI, 1019, .inl q_now))] H := hPa
        have hD : va_D A [(ra 9, .inl (kI, 40, .inl q_to)), (ra 10, .inl (kI, 6, .inl q_goal)), (m0, .inr (11, oX11 ra x0)), (ra 11, .inl (kI, 1019, .inl q_now))] := hDa
        clear hPa hDa
        refine W.widen (k := 0) (n := 0) (Nat.le_of_ble_eq_true rfl) (Nat.le_of_ble_eq_true rfl) ?_
        obtain ⟨w5, b6⟩ := w5
        subst w5
        refine lv_istore (lv' := [(4, .int (q_now ((59 + (10 * ((3 * p0) + p1)) + v2_loc3) - 1).toNatClampNeg - 1)), (0, .ref m0), (1, .int p0), (2, .int p1), (3, .int v2_loc3)]) hx hb dX11_loopOf_15 hl (Nat.le_of_ble_eq_true rfl) rfl (fun ls hl => ?_)
        refine lv_iload hx hb dX11_loopOf_17 (lv_at hl 0 rfl) ?_
        refine lv_iconst (v := (-1)) hx hb dX11_loopOf_19 ic_m1 ?_
        refine lv_icmp_eq (tgt := 54) hx hb dX11_loopOf_20 rfl (fun c7 => ?_) (fun c7 => ?_)
        · have b8 : iv (-1) (-1) (q_now ((59 + (10 * ((3 * p0) + p1)) + v2_loc3) - 1).toNatClampNeg - 1) := iv_eqL c7 ivk_m1
          refine lv_iinc (v := v2_loc3 + Int32.ofInt 1) (lv' := [(3, .int (v2_loc3 + Int32.ofInt 1)), (4, .int (q_now ((59 + (10 * ((3 * p0) + p1)) + v2_loc3) - 1).toNatClampNeg - 1)), (0, .ref m0), (1, .int p0), (2, .int p1)]) hx hb dX11_loopOf_54 hl (k := 4) rfl (rfl) (Nat.le_of_ble_eq_true rfl) rfl (fun ls hl => ?_)
          have b9 : iv 2 10 (v2_loc3 + Int32.ofInt 1) := iv_add b3 ivo_1 (by decide) (by decide) (by decide) (by decide)
          refine lv_goto (tgt := 2) hx hb dX11_loopOf_57 rfl ?_
          have hPD9 := cl_s (wc := [(m0, .inr (11, oX11 ra x0)), (ra 9, .inl (kI, 40, .inl q_to)), (ra 10, .inl (kI, 6, .inl q_goal)), (ra 11, .inl (kI, 1019, .inl q_now))]) hP hD [2, 0, 1, 3] rfl (by decide +kernel)
          exact ih2 (v2_loc3 + Int32.ofInt 1) _ _ _ (ms_up (c := 1) (d := 0) b3 hm2 (by decide) (iv_inc 1 b3 (by decide) (by decide) (by decide) (by decide)) (by decide) rfl) ((iv_w b9 (by decide) (by decide))) ((show x0 1 = x0 1 from rfl)) ((show x0 10 = x0 10 from rfl)) ((show x0 11 = x0 11 from rfl)) ((show x0 14 = x0 14 from rfl)) (hPD9.1) (hPD9.2) hS (lv_sub hl [2, 3, 4, 0] rfl)
        · have b10 : iv 0 20 (q_now ((59 + (10 * ((3 * p0) + p1)) + v2_loc3) - 1).toNatClampNeg - 1) := iv_neLo c7 b6 ivk_m1 (by decide) (by decide)
          refine lv_iload hx hb dX11_loopOf_23 (lv_at hl 0 rfl) ?_
          refine lv_aload_n hx hb dX11_loopOf_25 rfl (lv_at hl 1 rfl) ?_
          refine lv_iload_n hx hb dX11_loopOf_26 rfl (lv_at hl 2 rfl) ?_
          refine lv_iload_n hx hb dX11_loopOf_27 rfl (lv_at hl 3 rfl) ?_
          refine lv_iload_n hx hb dX11_loopOf_28 rfl (lv_at hl 4 rfl) ?_
          refine lv_iconst (v := 1) hx hb dX11_loopOf_29 ic_1 ?_
          refine lv_iadd hx hb dX11_loopOf_30 ?_
          refine iv_top (a := 2) (b := 10) (iv_add b3 ivk_1 (by decide) (by decide) (by decide) (by decide)) (fun z11 b12 => ?_)
          obtain ⟨hPc, hDc, hFc, hJn⟩ := cl_a (wc := [(m0, .inr (11, oX11 ra x0)), (ra 11, .inl (kI, 1019, .inl q_now))]) (wr := [(ra 9, .inl (kI, 40, .inl q_to)), (ra 10, .inl (kI, 6, .inl q_goal))]) hP hD hS hA [2, 3] [0, 1] rfl rfl (by decide +kernel)
          refine va_calli (va_runV (As := [.int p0, .int p1, .int z11]) (rest := [.int (q_now ((59 + (10 * ((3 * p0) + p1)) + v2_loc3) - 1).toNatClampNeg - 1)]) ⟨hx, hb, hml, hown, hts⟩ (s11_seenBy l dC dI kB kI kJ kZ kC kS H.size m0 ra x0 q_now p0 p1 z11 (hX) (hq_now) (hp0) (hp1) ((iv_w b12 (by decide) (by decide)))) (cwV 3 hts gX11_loopOf_X11_seenBy rfl rfl rfl (by decide +kernel) ⟨Nat.le_of_ble_eq_true rfl, Nat.le_of_ble_eq_true rfl⟩) ⟨fun a U g mk q => by obtain ⟨q0, q1, qP, qE, qD⟩ := q; exact ⟨q0, q1, qP, kE_call qE, qD⟩, va_recv hK hP (ci := 11) (q0 := 2) rfl rfl, fun U hU hW => ⟨rfl, by rw [hU], by rw [hU]; exact hPc, kE_warm hW hE, hDc.weaken (fun _ _ _ _ => trivial)⟩⟩ rfl rfl hl.1 rfl (lv_room (Nat.le_of_ble_eq_true rfl)) dX11_loopOf_31 ⟨Nat.le_of_ble_eq_true rfl, Nat.le_of_ble_eq_true rfl⟩) hS (fun q _ h => hFc q h) hFc (fun r13 u t H locs ht hvm w14 hB hz1 hk1 hS => ?_)
          obtain ⟨hP1, hD1⟩ := hB
          try dsimp only at w14
          obtain ⟨hPa, hDa⟩ := hJn (w1 := [(m0, .inr (11, oX11 ra x0)), (ra 11, .inl (kI, 1019, .inl q_now))]) hk1 ht hP1 hD1
          clear hP hD hPc hDc hFc hJn hP1 hD1 hk1
          have hP : va_P (dC, dI) vwCl [(ra 9, .inl (kI, 40, .inl q_to)), (ra 10, .inl (kI, 6, .inl q_goal)), (m0, .inr (11, oX11 ra x0)), (ra 11, .inl (kI, 1019, .inl q_now))] H := hPa
          have hD : va_D A [(ra 9, .inl (kI, 40, .inl q_to)), (ra 10, .inl (kI, 6, .inl q_goal)), (m0, .inr (11, oX11 ra x0)), (ra 11, .inl (kI, 1019, .inl q_now))] := hDa
          clear hPa hDa
          refine W.widen (k := 0) (n := 0) (Nat.le_of_ble_eq_true rfl) (Nat.le_of_ble_eq_true rfl) ?_
          obtain ⟨w14, b15⟩ := w14
          subst w14
          refine lv_icmp_ne (tgt := 54) hx hb dX11_loopOf_34 rfl (fun c16 => ?_) (fun c16 => ?_)
          · refine lv_iinc (v := v2_loc3 + Int32.ofInt 1) (lv' := [(3, .int (v2_loc3 + Int32.ofInt 1)), (4, .int (q_now ((59 + (10 * ((3 * p0) + p1)) + v2_loc3) - 1).toNatClampNeg - 1)), (0, .ref m0), (1, .int p0), (2, .int p1)]) hx hb dX11_loopOf_54 hl (k := 4) rfl (rfl) (Nat.le_of_ble_eq_true rfl) rfl (fun ls hl => ?_)
            have b17 : iv 2 10 (v2_loc3 + Int32.ofInt 1) := iv_add b3 ivo_1 (by decide) (by decide) (by decide) (by decide)
            refine lv_goto (tgt := 2) hx hb dX11_loopOf_57 rfl ?_
            have hPD9 := cl_s (wc := [(m0, .inr (11, oX11 ra x0)), (ra 9, .inl (kI, 40, .inl q_to)), (ra 10, .inl (kI, 6, .inl q_goal)), (ra 11, .inl (kI, 1019, .inl q_now))]) hP hD [2, 0, 1, 3] rfl (by decide +kernel)
            exact ih2 (v2_loc3 + Int32.ofInt 1) _ _ _ (ms_up (c := 1) (d := 0) b3 hm2 (by decide) (iv_inc 1 b3 (by decide) (by decide) (by decide) (by decide)) (by decide) rfl) ((iv_w b17 (by decide) (by decide))) ((show x0 1 = x0 1 from rfl)) ((show x0 10 = x0 10 from rfl)) ((show x0 11 = x0 11 from rfl)) ((show x0 14 = x0 14 from rfl)) (hPD9.1) (hPD9.2) hS (lv_sub hl [2, 3, 4, 0] rfl)
          · have b18 : iv 0 20 (q_now ((59 + (10 * ((3 * p0) + p1)) + z11) - 1).toNatClampNeg - 1) := iv_eqR c16 b10
            refine lv_aload_n hx hb dX11_loopOf_37 rfl (lv_at hl 1 rfl) ?_
            refine lv_iload hx hb dX11_loopOf_38 (lv_at hl 0 rfl) ?_
            obtain ⟨hPc, hDc, hFc, hJn⟩ := cl_a (wc := [(m0, .inr (11, oX11 ra x0)), (ra 9, .inl (kI, 40, .inl q_to))]) (wr := [(ra 10, .inl (kI, 6, .inl q_goal)), (ra 11, .inl (kI, 1019, .inl q_now))]) hP hD hS hA [2, 0] [1, 3] rfl rfl (by decide +kernel)
            refine va_calli (va_runV (As := [.int (q_now ((59 + (10 * ((3 * p0) + p1)) + v2_loc3) - 1).toNatClampNeg - 1)]) (rest := []) ⟨hx, hb, hml, hown, hts⟩ (s11_routerOf l dC dI kB kI kJ kZ kC kS H.size m0 ra x0 q_to (q_now ((59 + (10 * ((3 * p0) + p1)) + v2_loc3) - 1).toNatClampNeg - 1) (hX) (hq_to) ((iv_w b10 (by decide) (by decide)))) (cwV 1 hts gX11_loopOf_X11_routerOf rfl rfl rfl (by decide +kernel) ⟨Nat.le_of_ble_eq_true rfl, Nat.le_of_ble_eq_true rfl⟩) ⟨fun a U g mk q => by obtain ⟨q0, q1, qP, qE, qD⟩ := q; exact ⟨q0, q1, qP, kE_call qE, qD⟩, va_recv hK hP (ci := 11) (q0 := 2) rfl rfl, fun U hU hW => ⟨rfl, by rw [hU], by rw [hU]; exact hPc, kE_warm hW hE, hDc.weaken (fun _ _ _ _ => trivial)⟩⟩ rfl rfl hl.1 rfl (lv_room (Nat.le_of_ble_eq_true rfl)) dX11_loopOf_40 ⟨Nat.le_of_ble_eq_true rfl, Nat.le_of_ble_eq_true rfl⟩) hS (fun q _ h => hFc q h) hFc (fun r19 u t H locs ht hvm w20 hB hz1 hk1 hS => ?_)
            obtain ⟨hP1, hD1⟩ := hB
            try dsimp only at w20
            obtain ⟨hPa, hDa⟩ := hJn (w1 := [(m0, .inr (11, oX11 ra x0)), (ra 9, .inl (kI, 40, .inl q_to))]) hk1 ht hP1 hD1
            clear hP hD hPc hDc hFc hJn hP1 hD1 hk1
            have hP : va_P (dC, dI) vwCl [(ra 10, .inl (kI, 6, .inl q_goal)), (ra 11, .inl (kI, 1019, .inl q_now)), (m0, .inr (11, oX11 ra x0)), (ra 9, .inl (kI, 40, .inl q_to))] H := hPa
            have hD : va_D A [(ra 10, .inl (kI, 6, .inl q_goal)), (ra 11, .inl (kI, 1019, .inl q_now)), (m0, .inr (11, oX11 ra x0)), (ra 9, .inl (kI, 40, .inl q_to))] := hDa
            clear hPa hDa
            refine W.widen (k := 0) (n := 0) (Nat.le_of_ble_eq_true rfl) (Nat.le_of_ble_eq_true rfl) ?_
            refine lv_aload_n hx hb dX11_loopOf_43 rfl (lv_at hl 1 rfl) ?_
            refine va_get (D := (dC, dI)) (ci := 11) (v := .ref (ra 10)) (C := RX11) (T := TX11) (N := 61) hx hb hts hin11 hown hK hP 2 rfl rfl 11 (Nat.le_of_ble_eq_true rfl) hw_0 (fun _ h9 => h9) rfl dX11_loopOf_44 ?_
            refine lv_iload_n hx hb dX11_loopOf_47 rfl (lv_at hl 3 rfl) ?_
            refine va_iald hx hb hK hP 0 1 rfl rfl (iv_in hp1 (by decide) (by decide)) dX11_loopOf_48 ?_
            refine iv_top (a := 0) (b := 11) (hq_goal _) (fun z21 b22 => ?_)
            refine lv_icmp_eq (tgt := 54) hx hb dX11_loopOf_49 rfl (fun c23 => ?_) (fun c23 => ?_)
            · refine lv_iinc (v := v2_loc3 + Int32.ofInt 1) (lv' := [(3, .int (v2_loc3 + Int32.ofInt 1)), (4, .int (q_now ((59 + (10 * ((3 * p0) + p1)) + v2_loc3) - 1).toNatClampNeg - 1)), (0, .ref m0), (1, .int p0), (2, .int p1)]) hx hb dX11_loopOf_54 hl (k := 4) rfl (rfl) (Nat.le_of_ble_eq_true rfl) rfl (fun ls hl => ?_)
              have b24 : iv 2 10 (v2_loc3 + Int32.ofInt 1) := iv_add b3 ivo_1 (by decide) (by decide) (by decide) (by decide)
              refine lv_goto (tgt := 2) hx hb dX11_loopOf_57 rfl ?_
              have hPD9 := cl_s (wc := [(m0, .inr (11, oX11 ra x0)), (ra 9, .inl (kI, 40, .inl q_to)), (ra 10, .inl (kI, 6, .inl q_goal)), (ra 11, .inl (kI, 1019, .inl q_now))]) hP hD [2, 3, 0, 1] rfl (by decide +kernel)
              exact ih2 (v2_loc3 + Int32.ofInt 1) _ _ _ (ms_up (c := 1) (d := 0) b3 hm2 (by decide) (iv_inc 1 b3 (by decide) (by decide) (by decide) (by decide)) (by decide) rfl) ((iv_w b24 (by decide) (by decide))) ((show x0 1 = x0 1 from rfl)) ((show x0 10 = x0 10 from rfl)) ((show x0 11 = x0 11 from rfl)) ((show x0 14 = x0 14 from rfl)) (hPD9.1) (hPD9.2) hS (lv_sub hl [2, 3, 4, 0] rfl)
            · refine lv_iload_n hx hb dX11_loopOf_52 rfl (lv_at hl 4 rfl) ?_
              have hPD9 := cl_s (wc := [(m0, .inr (11, oX11 ra x0)), (ra 9, .inl (kI, 40, .inl q_to)), (ra 10, .inl (kI, 6, .inl q_goal)), (ra 11, .inl (kI, 1019, .inl q_now))]) hP hD [2, 3, 0, 1] rfl (by decide +kernel)
              have hP9 := hPD9.1
              have hD9 := hPD9.2
              exact W.iret (v := v2_loc3) hx hb hr (fun t ht hW => ⟨⟨v2_loc3, (), rfl, ⟨(iv_w b3 (by decide) (by decide)), Or.inr ⟨b3, b10⟩⟩, by rw [ht]; exact hP9, hD9⟩, hS.F ht⟩) hS.2.2 dX11_loopOf_53
  refine lv_iconst (v := 1) hx hb dX11_loopOf_0 ic_1 ?_
  refine lv_istore_n (lv' := [(3, .int 1), (0, .ref m0), (1, .int p0), (2, .int p1)]) hx hb dX11_loopOf_1 rfl hl (Nat.le_of_ble_eq_true rfl) rfl (fun ls hl => ?_)
  exact hJ2 _ 1 _ _ _ (Nat.lt_succ_self _) ((iv_w ivk_1 (by decide) (by decide))) ((show x0 1 = x0 1 from rfl)) ((show x0 10 = x0 10 from rfl)) ((show x0 11 = x0 11 from rfl)) ((show x0 14 = x0 14 from rfl)) (hP) (hD) hS (lv_sub hl [1, 2, 3, 0] rfl)
def rm_s11_whyOf : Room := { frames := 1, cells := 0, slots := 0, locals := 20 }
set_option maxHeartbeats 4000000 in
set_option maxRecDepth 100000 in
theorem s11_whyOf (l : Launch) (dC : Nat → ClassId) (dI : Nat → Nat → Nat) (kB kI kJ kZ kC kS : ClassId) (sz : Nat) (m0 : Nat) (ra : Nat → Nat) (x0 : Nat → Int32) (q_told : Nat → Int32) (q_kind : Nat → Int32) (q_late : Nat → Int32) (q_from : Nat → Int32) (q_to : Nat → Int32) (q_reach : Nat → Int32) (p0 : Int32) (hX : fI lX11 hX11 x0) (hq_told : fI lTold hTold q_told) (hq_from : fI (fun _ => 0) (fun _ => 11) q_from) (hq_to : fI (fun _ => 0) (fun _ => 11) q_to) (hp0 : iv 0 11 p0) : Met l yX11_whyOf wsX11_whyOf rm_s11_whyOf (va_Pc [.ref m0, .int p0] (fun U => U.heap.size = sz ∧ va_P (dC, dI) vwCl [(m0, .inr (11, oX11 ra x0)), (ra 2, .inl (kI, 8, .inl q_told)), (ra 3, .inl (kI, 24, .inl q_kind)), (ra 7, .inl (kI, 24, .inl q_late)), (ra 8, .inl (kI, 40, .inl q_from)), (ra 9, .inl (kI, 40, .inl q_to)), (ra 14, .inl (kI, 12, .inl q_reach))] U.heap ∧ kE dC dI kB kI kJ kZ kC kS U ∧ va_D (fun _ => True) [(m0, .inr (11, oX11 ra x0)), (ra 2, .inl (kI, 8, .inl q_told)), (ra 3, .inl (kI, 24, .inl q_kind)), (ra 7, .inl (kI, 24, .inl q_late)), (ra 8, .inl (kI, 40, .inl q_from)), (ra 9, .inl (kI, 40, .inl q_to)), (ra 14, .inl (kI, 12, .inl q_reach))])) (va_Qi (fun (r : Int32) (_ : Unit) => iv 1 3 r) (fun _ t => va_P (dC, dI) vwCl [(m0, .inr (11, oX11 ra x0)), (ra 2, .inl (kI, 8, .inl q_told)), (ra 3, .inl (kI, 24, .inl q_kind)), (ra 7, .inl (kI, 24, .inl q_late)), (ra 8, .inl (kI, 40, .inl q_from)), (ra 9, .inl (kI, 40, .inl q_to)), (ra 14, .inl (kI, 12, .inl q_reach))] t.heap ∧ va_D (va_A [(m0, .inr (11, oX11 ra x0)), (ra 2, .inl (kI, 8, .inl q_told)), (ra 3, .inl (kI, 24, .inl q_kind)), (ra 7, .inl (kI, 24, .inl q_late)), (ra 8, .inl (kI, 40, .inl q_from)), (ra 9, .inl (kI, 40, .inl q_to)), (ra 14, .inl (kI, 12, .inl q_reach))] sz) [(m0, .inr (11, oX11 ra x0)), (ra 2, .inl (kI, 8, .inl q_told)), (ra 3, .inl (kI, 24, .inl q_kind)), (ra 7, .inl (kI, 24, .inl q_late)), (ra 8, .inl (kI, 40, .inl q_from)), (ra 9, .inl (kI, 40, .inl q_to)), (ra 14, .inl (kI, 12, .inl q_reach))]) (va_A [(m0, .inr (11, oX11 ra x0)), (ra 2, .inl (kI, 8, .inl q_told)), (ra 3, .inl (kI, 24, .inl q_kind)), (ra 7, .inl (kI, 24, .inl q_late)), (ra 8, .inl (kI, 40, .inl q_from)), (ra 9, .inl (kI, 40, .inl q_to)), (ra 14, .inl (kI, 12, .inl q_reach))] sz)) 0 0 (va_A [(m0, .inr (11, oX11 ra x0)), (ra 2, .inl (kI, 8, .inl q_told)), (ra 3, .inl (kI, 24, .inl q_kind)), (ra 7, .inl (kI, 24, .inl q_late)), (ra 8, .inl (kI, 40, .inl q_from)), (ra 9, .inl (kI, 40, .inl q_to)), (ra 14, .inl (kI, 12, .inl q_reach))] sz) := by
  refine Met.ofW (cc := cX11_whyOf) (maxL := 5) (ret := (some .int)) (by decide) rfl ?_
  intro p e s m args0 below meth c s₁ B hml hv
  obtain ⟨hargs, hsz, hP, hE, hD0⟩ := hv
  have hx := B.exec
  have hb := B.bytes
  have hr := B.returns
  have hts := atoms_spec (ws := wsX11_whyOf) B.pre
  have hown : s.vm.findClass RX11 = some m.cls := findClass_of_methodNamed B.named
  have hlocks := B.notSynchronized
  have hK := hE.1
  have hin11 : ∀ w ∈ wsX110, w ∈ wsX11_whyOf := fun _ h9 => List.mem_cons_of_mem _ (List.mem_append_right _ h9)
  have hw_0 := hts (.fieldLink RX11 38 "PathProberModel" "kind" "[I") (List.mem_of_getElem? (i := 4) rfl)
  have hw_1 := hts (.fieldLink RX11 73 "PathProberModel" "reach" "[I") (List.mem_of_getElem? (i := 5) rfl)
  have hw_2 := hts (.fieldLink RX11 56 "PathProberModel" "to" "[I") (List.mem_of_getElem? (i := 1) rfl)
  have hw_3 := hts (.fieldLink RX11 50 "PathProberModel" "late" "[I") (List.mem_of_getElem? (i := 2) rfl)
  have hw_4 := hts (.fieldLink RX11 53 "PathProberModel" "from" "[I") (List.mem_of_getElem? (i := 3) rfl)
  subst hsz
  have hD := hD0.self (sz := s.heap.size)
  generalize hAe : va_A [(m0, .inr (11, oX11 ra x0)), (ra 2, .inl (kI, 8, .inl q_told)), (ra 3, .inl (kI, 24, .inl q_kind)), (ra 7, .inl (kI, 24, .inl q_late)), (ra 8, .inl (kI, 40, .inl q_from)), (ra 9, .inl (kI, 40, .inl q_to)), (ra 14, .inl (kI, 12, .inl q_reach))] s.heap.size = A at hD ⊢
  have hA : ∀ q : Nat, s.heap.size ≤ q → A q := fun q h => by rw [← hAe]; exact Or.inr h
  have hS : va_S A s.heap s.heap [] := va_S.rf
  have hP : va_P (dC, dI) vwCl [(m0, .inr (11, oX11 ra x0)), (ra 2, .inl (kI, 8, .inl q_told)), (ra 3, .inl (kI, 24, .inl q_kind)), (ra 7, .inl (kI, 24, .inl q_late)), (ra 8, .inl (kI, 40, .inl q_from)), (ra 9, .inl (kI, 40, .inl q_to)), (ra 14, .inl (kI, 12, .inl q_reach))] s.heap := hP
  have hl := lv_entry ([.ref m0, .int p0]) (n := 5) (Nat.le_of_ble_eq_true rfl)
  have hla : entryFrame m args0 5 = entryFrame m ([.ref m0, .int p0] : List Value).toArray 5 := by rw [hargs]
  rw [hla, lg_entry_eq]
  generalize (lg_sl ([.ref m0, .int p0]) ++ List.replicate (5 - (lg_sl ([.ref m0, .int p0])).length) Slot.unset).toArray = ls at hl ⊢
  have hl : lv_has ls 5 [(0, .ref m0), (1, .int p0)] := hl
  have hJ62 : ∀ (n : Nat) (v62_loc2 : Int32) (v62_loc3 : Int32) (v62_loc4 : Int32) (H : Heap) (locs : List Loc) (ls : Array Slot), (11 - v62_loc4.toInt).toNat < n → iv 0 1 v62_loc2 → iv 0 1 v62_loc3 → iv 0 11 v62_loc4 → (x0 1 = x0 1) → (x0 10 = x0 10) → (x0 11 = x0 11) → (x0 14 = x0 14) → va_P (dC, dI) vwCl [(m0, .inr (11, oX11 ra x0)), (ra 2, .inl (kI, 8, .inl q_told)), (ra 3, .inl (kI, 24, .inl q_kind)), (ra 7, .inl (kI, 24, .inl q_late)), (ra 8, .inl (kI, 40, .inl q_from)), (ra 9, .inl (kI, 40, .inl q_to)), (ra 14, .inl (kI, 12, .inl q_reach))] H → va_D A [(m0, .inr (11, oX11 ra x0)), (ra 2, .inl (kI, 8, .inl q_told)), (ra 3, .inl (kI, 24, .inl q_kind)), (ra 7, .inl (kI, 24, .inl q_late)), (ra 8, .inl (kI, 40, .inl q_from)), (ra 9, .inl (kI, 40, .inl q_to)), (ra 14, .inl (kI, 12, .inl q_reach))] → va_S A s.heap H locs → lv_has ls 5 [(0, .ref m0), (1, .int p0), (2, .int v62_loc2), (3, .int v62_loc3), (4, .int v62_loc4)] → W p l e (headSpec wsX11_whyOf rm_s11_whyOf).room s m args0 below meth c H locs (0) (0) (MQ below (va_Qi (fun (r : Int32) (_ : Unit) => iv 1 3 r) (fun _ t => va_P (dC, dI) vwCl [(m0, .inr (11, oX11 ra x0)), (ra 2, .inl (kI, 8, .inl q_told)), (ra 3, .inl (kI, 24, .inl q_kind)), (ra 7, .inl (kI, 24, .inl q_late)), (ra 8, .inl (kI, 40, .inl q_from)), (ra 9, .inl (kI, 40, .inl q_to)), (ra 14, .inl (kI, 12, .inl q_reach))] t.heap ∧ va_D A [(m0, .inr (11, oX11 ra x0)), (ra 2, .inl (kI, 8, .inl q_told)), (ra 3, .inl (kI, 24, .inl q_kind)), (ra 7, .inl (kI, 24, .inl q_late)), (ra 8, .inl (kI, 40, .inl q_from)), (ra 9, .inl (kI, 40, .inl q_to)), (ra 14, .inl (kI, 12, .inl q_reach))]) A) args0 s 0 0 A) (F0 m 62 ls []) := by
    intro n
    induction n with
    | zero => intro v62_loc2 v62_loc3 v62_loc4 H locs ls hm62; exact absurd hm62 (Nat.not_lt_zero _)
    | succ n ih62 =>
      intro v62_loc2 v62_loc3 v62_loc4 H locs ls hm62 h62_1 h62_2 h62_3 htp_62 hfp_62 hor_62 hirl_62 hP hD hS hl
      have hJ116 : ∀ (v116_stk0 : Int32) (H : Heap) (locs : List Loc) (ls : Array Slot), iv 1 11 p0 → iv 0 10 v62_loc4 → iv 0 1 v116_stk0 → (x0 1 = x0 1) → (x0 10 = x0 10) → (x0 11 = x0 11) → (x0 14 = x0 14) → va_P (dC, dI) vwCl [(m0, .inr (11, oX11 ra x0)), (ra 2, .inl (kI, 8, .inl q_told)), (ra 3, .inl (kI, 24, .inl q_kind)), (ra 7, .inl (kI, 24, .inl q_late)), (ra 8, .inl (kI, 40, .inl q_from)), (ra 9, .inl (kI, 40, .inl q_to)), (ra 14, .inl (kI, 12, .inl q_reach))] H → va_D A [(m0, .inr (11, oX11 ra x0)), (ra 2, .inl (kI, 8, .inl q_told)), (ra 3, .inl (kI, 24, .inl q_kind)), (ra 7, .inl (kI, 24, .inl q_late)), (ra 8, .inl (kI, 40, .inl q_from)), (ra 9, .inl (kI, 40, .inl q_to)), (ra 14, .inl (kI, 12, .inl q_reach))] → va_S A s.heap H locs → lv_has ls 5 [(0, .ref m0), (1, .int p0), (2, .int v62_loc2), (3, .int v62_loc3), (4, .int v62_loc4)] → W p l e (headSpec wsX11_whyOf rm_s11_whyOf).room s m args0 below meth c H locs (0) (0) (MQ below (va_Qi (fun (r : Int32) (_ : Unit) => iv 1 3 r) (fun _ t => va_P (dC, dI) vwCl [(m0, .inr (11, oX11 ra x0)), (ra 2, .inl (kI, 8, .inl q_told)), (ra 3, .inl (kI, 24, .inl q_kind)), (ra 7, .inl (kI, 24, .inl q_late)), (ra 8, .inl (kI, 40, .inl q_from)), (ra 9, .inl (kI, 40, .inl q_to)), (ra 14, .inl (kI, 12, .inl q_reach))] t.heap ∧ va_D A [(m0, .inr (11, oX11 ra x0)), (ra 2, .inl (kI, 8, .inl q_told)), (ra 3, .inl (kI, 24, .inl q_kind)), (ra 7, .inl (kI, 24, .inl q_late)), (ra 8, .inl (kI, 40, .inl q_from)), (ra 9, .inl (kI, 40, .inl q_to)), (ra 14, .inl (kI, 12, .inl q_reach))]) A) args0 s 0 0 A) (F0 m 116 ls [.int v116_stk0]) := by
        intro v116_stk0 H locs ls h116_1 h116_2 h116_3 htp_116 hfp_116 hor_116 hirl_116 hP hD hS hl
        refine lv_istore_n (lv' := [(3, .int v116_stk0), (0, .ref m0), (1, .int p0), (2, .int v62_loc2), (4, .int v62_loc4)]) hx hb dX11_whyOf_116 rfl hl (Nat.le_of_ble_eq_true rfl) rfl (fun ls hl => ?_)
        refine lv_iinc (v := v62_loc4 + Int32.ofInt 1) (lv' := [(4, .int (v62_loc4 + Int32.ofInt 1)), (3, .int v116_stk0), (0, .ref m0), (1, .int p0), (2, .int v62_loc2)]) hx hb dX11_whyOf_117 hl (k := 4) rfl (rfl) (Nat.le_of_ble_eq_true rfl) rfl (fun ls hl => ?_)
        have b1 : iv 1 11 (v62_loc4 + Int32.ofInt 1) := iv_add h116_2 ivo_1 (by decide) (by decide) (by decide) (by decide)
        refine lv_goto (tgt := 62) hx hb dX11_whyOf_120 rfl ?_
        exact ih62 v62_loc2 v116_stk0 (v62_loc4 + Int32.ofInt 1) _ _ _ (ms_up (c := 1) (d := 0) h116_2 hm62 (by decide) (iv_inc 1 h116_2 (by decide) (by decide) (by decide) (by decide)) (by decide) rfl) (h62_1) (h116_3) ((iv_w b1 (by decide) (by decide))) ((show x0 1 = x0 1 from rfl)) ((show x0 10 = x0 10 from rfl)) ((show x0 11 = x0 11 from rfl)) ((show x0 14 = x0 14 from rfl)) (hP) (hD) hS (lv_sub hl [2, 3, 4, 1, 0] rfl)
      have hJ111 : ∀ (H : Heap) (locs : List Loc) (ls : Array Slot), iv 1 11 p0 → iv 0 10 v62_loc4 → (x0 1 = x0 1) → (x0 10 = x0 10) → (x0 11 = x0 11) → (x0 14 = x0 14) → va_P (dC, dI) vwCl [(m0, .inr (11, oX11 ra x0)), (ra 2, .inl (kI, 8, .inl q_told)), (ra 3, .inl (kI, 24, .inl q_kind)), (ra 7, .inl (kI, 24, .inl q_late)), (ra 8, .inl (kI, 40, .inl q_from)), (ra 9, .inl (kI, 40, .inl q_to)), (ra 14, .inl (kI, 12, .inl q_reach))] H → va_D A [(m0, .inr (11, oX11 ra x0)), (ra 2, .inl (kI, 8, .inl q_told)), (ra 3, .inl (kI, 24, .inl q_kind)), (ra 7, .inl (kI, 24, .inl q_late)), (ra 8, .inl (kI, 40, .inl q_from)), (ra 9, .inl (kI, 40, .inl q_to)), (ra 14, .inl (kI, 12, .inl q_reach))] → va_S A s.heap H locs → lv_has ls 5 [(0, .ref m0), (1, .int p0), (2, .int v62_loc2), (3, .int v62_loc3), (4, .int v62_loc4)] → W p l e (headSpec wsX11_whyOf rm_s11_whyOf).room s m args0 below meth c H locs (0) (0) (MQ below (va_Qi (fun (r : Int32) (_ : Unit) => iv 1 3 r) (fun _ t => va_P (dC, dI) vwCl [(m0, .inr (11, oX11 ra x0)), (ra 2, .inl (kI, 8, .inl q_told)), (ra 3, .inl (kI, 24, .inl q_kind)), (ra 7, .inl (kI, 24, .inl q_late)), (ra 8, .inl (kI, 40, .inl q_from)), (ra 9, .inl (kI, 40, .inl q_to)), (ra 14, .inl (kI, 12, .inl q_reach))] t.heap ∧ va_D A [(m0, .inr (11, oX11 ra x0)), (ra 2, .inl (kI, 8, .inl q_told)), (ra 3, .inl (kI, 24, .inl q_kind)), (ra 7, .inl (kI, 24, .inl q_late)), (ra 8, .inl (kI, 40, .inl q_from)), (ra 9, .inl (kI, 40, .inl q_to)), (ra 14, .inl (kI, 12, .inl q_reach))]) A) args0 s 0 0 A) (F0 m 111 ls []) := by
        intro H locs ls h111_1 h111_2 htp_111 hfp_111 hor_111 hirl_111 hP hD hS hl
        refine lv_iconst (v := 1) hx hb dX11_whyOf_111 ic_1 ?_
        refine lv_goto (tgt := 116) hx hb dX11_whyOf_112 rfl ?_
        exact hJ116 1 _ _ _ (h111_1) (h111_2) ((iv_w ivk_1 (by decide) (by decide))) ((show x0 1 = x0 1 from rfl)) ((show x0 10 = x0 10 from rfl)) ((show x0 11 = x0 11 from rfl)) ((show x0 14 = x0 14 from rfl)) (hP) (hD) hS (lv_sub hl [0, 1, 2, 3, 4] rfl)
      have hJ115 : ∀ (H : Heap) (locs : List Loc) (ls : Array Slot), iv 1 11 p0 → iv 0 0 v62_loc3 → iv 0 10 v62_loc4 → (x0 1 = x0 1) → (x0 10 = x0 10) → (x0 11 = x0 11) → (x0 14 = x0 14) → va_P (dC, dI) vwCl [(m0, .inr (11, oX11 ra x0)), (ra 2, .inl (kI, 8, .inl q_told)), (ra 3, .inl (kI, 24, .inl q_kind)), (ra 7, .inl (kI, 24, .inl q_late)), (ra 8, .inl (kI, 40, .inl q_from)), (ra 9, .inl (kI, 40, .inl q_to)), (ra 14, .inl (kI, 12, .inl q_reach))] H → va_D A [(m0, .inr (11, oX11 ra x0)), (ra 2, .inl (kI, 8, .inl q_told)), (ra 3, .inl (kI, 24, .inl q_kind)), (ra 7, .inl (kI, 24, .inl q_late)), (ra 8, .inl (kI, 40, .inl q_from)), (ra 9, .inl (kI, 40, .inl q_to)), (ra 14, .inl (kI, 12, .inl q_reach))] → va_S A s.heap H locs → lv_has ls 5 [(0, .ref m0), (1, .int p0), (2, .int v62_loc2), (3, .int v62_loc3), (4, .int v62_loc4)] → W p l e (headSpec wsX11_whyOf rm_s11_whyOf).room s m args0 below meth c H locs (0) (0) (MQ below (va_Qi (fun (r : Int32) (_ : Unit) => iv 1 3 r) (fun _ t => va_P (dC, dI) vwCl [(m0, .inr (11, oX11 ra x0)), (ra 2, .inl (kI, 8, .inl q_told)), (ra 3, .inl (kI, 24, .inl q_kind)), (ra 7, .inl (kI, 24, .inl q_late)), (ra 8, .inl (kI, 40, .inl q_from)), (ra 9, .inl (kI, 40, .inl q_to)), (ra 14, .inl (kI, 12, .inl q_reach))] t.heap ∧ va_D A [(m0, .inr (11, oX11 ra x0)), (ra 2, .inl (kI, 8, .inl q_told)), (ra 3, .inl (kI, 24, .inl q_kind)), (ra 7, .inl (kI, 24, .inl q_late)), (ra 8, .inl (kI, 40, .inl q_from)), (ra 9, .inl (kI, 40, .inl q_to)), (ra 14, .inl (kI, 12, .inl q_reach))]) A) args0 s 0 0 A) (F0 m 115 ls []) := by
        intro H locs ls h115_1 h115_2 h115_3 htp_115 hfp_115 hor_115 hirl_115 hP hD hS hl
        refine lv_iconst (v := 0) hx hb dX11_whyOf_115 ic_0 ?_
        exact hJ116 0 _ _ _ (h115_1) (h115_3) ((iv_w ivk_0 (by decide) (by decide))) ((show x0 1 = x0 1 from rfl)) ((show x0 10 = x0 10 from rfl)) ((show x0 11 = x0 11 from rfl)) ((show x0 14 = x0 14 from rfl)) (hP) (hD) hS (lv_sub hl [0, 1, 2, 3, 4] rfl)
      refine lv_iload hx hb dX11_whyOf_62 (lv_at hl 4 rfl) ?_
      refine lv_iload_n hx hb dX11_whyOf_64 rfl (lv_at hl 1 rfl) ?_
      refine lv_icmp_ge (tgt := 123) hx hb dX11_whyOf_65 rfl (fun c2 => ?_) (fun c2 => ?_)
      · refine lv_iload_n hx hb dX11_whyOf_123 rfl (lv_at hl 2 rfl) ?_
        refine lv_if_eq (tgt := 131) hx hb dX11_whyOf_124 rfl (fun c3 => ?_) (fun c3 => ?_)
        · have b4 : iv 0 0 v62_loc2 := iv_eqL c3 ivk_0
          refine lv_iload_n hx hb dX11_whyOf_131 rfl (lv_at hl 3 rfl) ?_
          refine lv_if_eq (tgt := 139) hx hb dX11_whyOf_132 rfl (fun c5 => ?_) (fun c5 => ?_)
          · have b6 : iv 0 0 v62_loc3 := iv_eqL c5 ivk_0
            refine lv_iconst (v := 3) hx hb dX11_whyOf_139 ic_3 ?_
            have hP9 := hP
            have hD9 := hD
            exact W.iret (v := 3) hx hb hr (fun t ht hW => ⟨⟨3, (), rfl, (iv_w ivk_3 (by decide) (by decide)), by rw [ht]; exact hP9, hD9⟩, hS.F ht⟩) hS.2.2 dX11_whyOf_140
          · have b7 : iv 1 1 v62_loc3 := iv_neLo c5 h62_2 ivk_0 (by decide) (by decide)
            refine lv_iconst (v := 2) hx hb dX11_whyOf_135 ic_2 ?_
            refine lv_goto (tgt := 140) hx hb dX11_whyOf_136 rfl ?_
            have hP9 := hP
            have hD9 := hD
            exact W.iret (v := 2) hx hb hr (fun t ht hW => ⟨⟨2, (), rfl, (iv_w ivk_2 (by decide) (by decide)), by rw [ht]; exact hP9, hD9⟩, hS.F ht⟩) hS.2.2 dX11_whyOf_140
        · have b8 : iv 1 1 v62_loc2 := iv_neLo c3 h62_1 ivk_0 (by decide) (by decide)
          refine lv_iconst (v := 1) hx hb dX11_whyOf_127 ic_1 ?_
          refine lv_goto (tgt := 140) hx hb dX11_whyOf_128 rfl ?_
          have hP9 := hP
          have hD9 := hD
          exact W.iret (v := 1) hx hb hr (fun t ht hW => ⟨⟨1, (), rfl, (iv_w ivk_1 (by decide) (by decide)), by rw [ht]; exact hP9, hD9⟩, hS.F ht⟩) hS.2.2 dX11_whyOf_140
      · have b9 : iv 0 10 v62_loc4 := iv_ltL (Int32.not_le.mp c2) h62_3 hp0 (by decide) (by decide)
        have b10 : iv 1 11 p0 := iv_ltR (Int32.not_le.mp c2) h62_3 hp0 (by decide) (by decide)
        refine lv_iload_n hx hb dX11_whyOf_68 rfl (lv_at hl 3 rfl) ?_
        refine lv_if_ne (tgt := 111) hx hb dX11_whyOf_69 rfl (fun c11 => ?_) (fun c11 => ?_)
        · have b12 : iv 1 1 v62_loc3 := iv_neLo c11 h62_2 ivk_0 (by decide) (by decide)
          exact hJ111 _ _ _ (b10) (b9) ((show x0 1 = x0 1 from rfl)) ((show x0 10 = x0 10 from rfl)) ((show x0 11 = x0 11 from rfl)) ((show x0 14 = x0 14 from rfl)) (hP) (hD) hS (lv_sub hl [0, 1, 2, 3, 4] rfl)
        · have b13 : iv 0 0 v62_loc3 := iv_eqL c11 ivk_0
          refine lv_aload_n hx hb dX11_whyOf_72 rfl (lv_at hl 0 rfl) ?_
          refine va_get (D := (dC, dI)) (ci := 11) (v := .ref (ra 3)) (C := RX11) (T := TX11) (N := 61) hx hb hts hin11 hown hK hP 0 rfl rfl 4 (Nat.le_of_ble_eq_true rfl) hw_0 (fun _ h9 => h9) rfl dX11_whyOf_73 ?_
          refine lv_iload hx hb dX11_whyOf_76 (lv_at hl 4 rfl) ?_
          refine va_iald hx hb hK hP 2 1 rfl rfl (iv_in b9 (by decide) (by decide)) dX11_whyOf_78 ?_
          refine lv_topi (fun z14 _ => ?_)
          refine lv_iconst (v := 2) hx hb dX11_whyOf_79 ic_2 ?_
          refine lv_icmp_ne (tgt := 115) hx hb dX11_whyOf_80 rfl (fun c15 => ?_) (fun c15 => ?_)
          · exact hJ115 _ _ _ (b10) (b13) (b9) ((show x0 1 = x0 1 from rfl)) ((show x0 10 = x0 10 from rfl)) ((show x0 11 = x0 11 from rfl)) ((show x0 14 = x0 14 from rfl)) (hP) (hD) hS (lv_sub hl [0, 1, 2, 3, 4] rfl)
          · have b16 : iv 2 2 z14 := iv_eqL c15 ivk_2
            refine lv_aload_n hx hb dX11_whyOf_83 rfl (lv_at hl 0 rfl) ?_
            refine va_get (D := (dC, dI)) (ci := 11) (v := .ref (ra 14)) (C := RX11) (T := TX11) (N := 61) hx hb hts hin11 hown hK hP 0 rfl rfl 25 (Nat.le_of_ble_eq_true rfl) hw_1 (fun _ h9 => h9) rfl dX11_whyOf_84 ?_
            refine lv_iload_n hx hb dX11_whyOf_87 rfl (lv_at hl 1 rfl) ?_
            refine va_iald hx hb hK hP 6 1 rfl rfl (iv_in b10 (by decide) (by decide)) dX11_whyOf_88 ?_
            refine lv_topi (fun z17 _ => ?_)
            refine lv_iload hx hb dX11_whyOf_89 (lv_at hl 4 rfl) ?_
            refine lv_ishr hx hb dX11_whyOf_91 ?_
            refine lv_topi (fun z18 _ => ?_)
            refine lv_iconst (v := 1) hx hb dX11_whyOf_92 ic_1 ?_
            refine lv_iand hx hb dX11_whyOf_93 ?_
            refine iv_top (a := 0) (b := 1) (iv_and (m := 1) (by decide) (by decide) (by decide)) (fun z19 b20 => ?_)
            refine lv_iconst (v := 1) hx hb dX11_whyOf_94 ic_1 ?_
            refine lv_icmp_ne (tgt := 115) hx hb dX11_whyOf_95 rfl (fun c21 => ?_) (fun c21 => ?_)
            · have b22 : iv 0 0 z19 := iv_neHi c21 b20 ivk_1 (by decide) (by decide)
              exact hJ115 _ _ _ (b10) (b13) (b9) ((show x0 1 = x0 1 from rfl)) ((show x0 10 = x0 10 from rfl)) ((show x0 11 = x0 11 from rfl)) ((show x0 14 = x0 14 from rfl)) (hP) (hD) hS (lv_sub hl [0, 1, 2, 3, 4] rfl)
            · have b23 : iv 1 1 z19 := iv_eqL c21 ivk_1
              refine lv_aload_n hx hb dX11_whyOf_98 rfl (lv_at hl 0 rfl) ?_
              refine va_get (D := (dC, dI)) (ci := 11) (v := .ref (ra 14)) (C := RX11) (T := TX11) (N := 61) hx hb hts hin11 hown hK hP 0 rfl rfl 25 (Nat.le_of_ble_eq_true rfl) hw_1 (fun _ h9 => h9) rfl dX11_whyOf_99 ?_
              refine lv_iload hx hb dX11_whyOf_102 (lv_at hl 4 rfl) ?_
              refine va_iald hx hb hK hP 6 1 rfl rfl (iv_in b9 (by decide) (by decide)) dX11_whyOf_104 ?_
              refine lv_topi (fun z24 _ => ?_)
              refine lv_iconst (v := 1) hx hb dX11_whyOf_105 ic_1 ?_
              refine lv_iand hx hb dX11_whyOf_106 ?_
              refine iv_top (a := 0) (b := 1) (iv_and (m := 1) (by decide) (by decide) (by decide)) (fun z25 b26 => ?_)
              refine lv_iconst (v := 1) hx hb dX11_whyOf_107 ic_1 ?_
              refine lv_icmp_ne (tgt := 115) hx hb dX11_whyOf_108 rfl (fun c27 => ?_) (fun c27 => ?_)
              · have b28 : iv 0 0 z25 := iv_neHi c27 b26 ivk_1 (by decide) (by decide)
                exact hJ115 _ _ _ (b10) (b13) (b9) ((show x0 1 = x0 1 from rfl)) ((show x0 10 = x0 10 from rfl)) ((show x0 11 = x0 11 from rfl)) ((show x0 14 = x0 14 from rfl)) (hP) (hD) hS (lv_sub hl [0, 1, 2, 3, 4] rfl)
              · have b29 : iv 1 1 z25 := iv_eqL c27 ivk_1
                exact hJ111 _ _ _ (b10) (b9) ((show x0 1 = x0 1 from rfl)) ((show x0 10 = x0 10 from rfl)) ((show x0 11 = x0 11 from rfl)) ((show x0 14 = x0 14 from rfl)) (hP) (hD) hS (lv_sub hl [0, 1, 2, 3, 4] rfl)
  have hJ7 : ∀ (n : Nat) (v7_loc2 : Int32) (v7_loc4 : Int32) (H : Heap) (locs : List Loc) (ls : Array Slot), (20 - v7_loc4.toInt).toNat < n → iv 0 1 v7_loc2 → iv 0 20 v7_loc4 → (x0 1 = x0 1) → (x0 10 = x0 10) → (x0 11 = x0 11) → (x0 14 = x0 14) → va_P (dC, dI) vwCl [(m0, .inr (11, oX11 ra x0)), (ra 2, .inl (kI, 8, .inl q_told)), (ra 3, .inl (kI, 24, .inl q_kind)), (ra 7, .inl (kI, 24, .inl q_late)), (ra 8, .inl (kI, 40, .inl q_from)), (ra 9, .inl (kI, 40, .inl q_to)), (ra 14, .inl (kI, 12, .inl q_reach))] H → va_D A [(m0, .inr (11, oX11 ra x0)), (ra 2, .inl (kI, 8, .inl q_told)), (ra 3, .inl (kI, 24, .inl q_kind)), (ra 7, .inl (kI, 24, .inl q_late)), (ra 8, .inl (kI, 40, .inl q_from)), (ra 9, .inl (kI, 40, .inl q_to)), (ra 14, .inl (kI, 12, .inl q_reach))] → va_S A s.heap H locs → lv_has ls 5 [(0, .ref m0), (1, .int p0), (2, .int v7_loc2), (3, .int 0), (4, .int v7_loc4)] → W p l e (headSpec wsX11_whyOf rm_s11_whyOf).room s m args0 below meth c H locs (0) (0) (MQ below (va_Qi (fun (r : Int32) (_ : Unit) => iv 1 3 r) (fun _ t => va_P (dC, dI) vwCl [(m0, .inr (11, oX11 ra x0)), (ra 2, .inl (kI, 8, .inl q_told)), (ra 3, .inl (kI, 24, .inl q_kind)), (ra 7, .inl (kI, 24, .inl q_late)), (ra 8, .inl (kI, 40, .inl q_from)), (ra 9, .inl (kI, 40, .inl q_to)), (ra 14, .inl (kI, 12, .inl q_reach))] t.heap ∧ va_D A [(m0, .inr (11, oX11 ra x0)), (ra 2, .inl (kI, 8, .inl q_told)), (ra 3, .inl (kI, 24, .inl q_kind)), (ra 7, .inl (kI, 24, .inl q_late)), (ra 8, .inl (kI, 40, .inl q_from)), (ra 9, .inl (kI, 40, .inl q_to)), (ra 14, .inl (kI, 12, .inl q_reach))]) A) args0 s 0 0 A) (F0 m 7 ls []) := by
    intro n
    induction n with
    | zero => intro v7_loc2 v7_loc4 H locs ls hm7; exact absurd hm7 (Nat.not_lt_zero _)
    | succ n ih7 =>
      intro v7_loc2 v7_loc4 H locs ls hm7 h7_1 h7_2 htp_7 hfp_7 hor_7 hirl_7 hP hD hS hl
      have hJ52 : ∀ (v52_stk0 : Int32) (H : Heap) (locs : List Loc) (ls : Array Slot), iv 0 19 v7_loc4 → iv 0 1 v52_stk0 → iv 1 20 (q_told 1) → (x0 1 = x0 1) → (x0 10 = x0 10) → (x0 11 = x0 11) → (x0 14 = x0 14) → va_P (dC, dI) vwCl [(m0, .inr (11, oX11 ra x0)), (ra 2, .inl (kI, 8, .inl q_told)), (ra 3, .inl (kI, 24, .inl q_kind)), (ra 7, .inl (kI, 24, .inl q_late)), (ra 8, .inl (kI, 40, .inl q_from)), (ra 9, .inl (kI, 40, .inl q_to)), (ra 14, .inl (kI, 12, .inl q_reach))] H → va_D A [(m0, .inr (11, oX11 ra x0)), (ra 2, .inl (kI, 8, .inl q_told)), (ra 3, .inl (kI, 24, .inl q_kind)), (ra 7, .inl (kI, 24, .inl q_late)), (ra 8, .inl (kI, 40, .inl q_from)), (ra 9, .inl (kI, 40, .inl q_to)), (ra 14, .inl (kI, 12, .inl q_reach))] → va_S A s.heap H locs → lv_has ls 5 [(0, .ref m0), (1, .int p0), (2, .int v7_loc2), (3, .int 0), (4, .int v7_loc4)] → W p l e (headSpec wsX11_whyOf rm_s11_whyOf).room s m args0 below meth c H locs (0) (0) (MQ below (va_Qi (fun (r : Int32) (_ : Unit) => iv 1 3 r) (fun _ t => va_P (dC, dI) vwCl [(m0, .inr (11, oX11 ra x0)), (ra 2, .inl (kI, 8, .inl q_told)), (ra 3, .inl (kI, 24, .inl q_kind)), (ra 7, .inl (kI, 24, .inl q_late)), (ra 8, .inl (kI, 40, .inl q_from)), (ra 9, .inl (kI, 40, .inl q_to)), (ra 14, .inl (kI, 12, .inl q_reach))] t.heap ∧ va_D A [(m0, .inr (11, oX11 ra x0)), (ra 2, .inl (kI, 8, .inl q_told)), (ra 3, .inl (kI, 24, .inl q_kind)), (ra 7, .inl (kI, 24, .inl q_late)), (ra 8, .inl (kI, 40, .inl q_from)), (ra 9, .inl (kI, 40, .inl q_to)), (ra 14, .inl (kI, 12, .inl q_reach))]) A) args0 s 0 0 A) (F0 m 52 ls [.int v52_stk0]) := by
        intro v52_stk0 H locs ls h52_1 h52_2 h52_3 htp_52 hfp_52 hor_52 hirl_52 hP hD hS hl
        refine lv_istore_n (lv' := [(2, .int v52_stk0), (0, .ref m0), (1, .int p0), (3, .int 0), (4, .int v7_loc4)]) hx hb dX11_whyOf_52 rfl hl (Nat.le_of_ble_eq_true rfl) rfl (fun ls hl => ?_)
        refine lv_iinc (v := v7_loc4 + Int32.ofInt 1) (lv' := [(4, .int (v7_loc4 + Int32.ofInt 1)), (2, .int v52_stk0), (0, .ref m0), (1, .int p0), (3, .int 0)]) hx hb dX11_whyOf_53 hl (k := 4) rfl (rfl) (Nat.le_of_ble_eq_true rfl) rfl (fun ls hl => ?_)
        have b30 : iv 1 20 (v7_loc4 + Int32.ofInt 1) := iv_add h52_1 ivo_1 (by decide) (by decide) (by decide) (by decide)
        refine lv_goto (tgt := 7) hx hb dX11_whyOf_56 rfl ?_
        exact ih7 v52_stk0 (v7_loc4 + Int32.ofInt 1) _ _ _ (ms_up (c := 1) (d := 0) h52_1 hm7 (by decide) (iv_inc 1 h52_1 (by decide) (by decide) (by decide) (by decide)) (by decide) rfl) (h52_2) ((iv_w b30 (by decide) (by decide))) ((show x0 1 = x0 1 from rfl)) ((show x0 10 = x0 10 from rfl)) ((show x0 11 = x0 11 from rfl)) ((show x0 14 = x0 14 from rfl)) (hP) (hD) hS (lv_sub hl [2, 3, 1, 4, 0] rfl)
      have hJ47 : ∀ (H : Heap) (locs : List Loc) (ls : Array Slot), iv 0 19 v7_loc4 → iv 1 20 (q_told 1) → (x0 1 = x0 1) → (x0 10 = x0 10) → (x0 11 = x0 11) → (x0 14 = x0 14) → va_P (dC, dI) vwCl [(m0, .inr (11, oX11 ra x0)), (ra 2, .inl (kI, 8, .inl q_told)), (ra 3, .inl (kI, 24, .inl q_kind)), (ra 7, .inl (kI, 24, .inl q_late)), (ra 8, .inl (kI, 40, .inl q_from)), (ra 9, .inl (kI, 40, .inl q_to)), (ra 14, .inl (kI, 12, .inl q_reach))] H → va_D A [(m0, .inr (11, oX11 ra x0)), (ra 2, .inl (kI, 8, .inl q_told)), (ra 3, .inl (kI, 24, .inl q_kind)), (ra 7, .inl (kI, 24, .inl q_late)), (ra 8, .inl (kI, 40, .inl q_from)), (ra 9, .inl (kI, 40, .inl q_to)), (ra 14, .inl (kI, 12, .inl q_reach))] → va_S A s.heap H locs → lv_has ls 5 [(0, .ref m0), (1, .int p0), (2, .int v7_loc2), (3, .int 0), (4, .int v7_loc4)] → W p l e (headSpec wsX11_whyOf rm_s11_whyOf).room s m args0 below meth c H locs (0) (0) (MQ below (va_Qi (fun (r : Int32) (_ : Unit) => iv 1 3 r) (fun _ t => va_P (dC, dI) vwCl [(m0, .inr (11, oX11 ra x0)), (ra 2, .inl (kI, 8, .inl q_told)), (ra 3, .inl (kI, 24, .inl q_kind)), (ra 7, .inl (kI, 24, .inl q_late)), (ra 8, .inl (kI, 40, .inl q_from)), (ra 9, .inl (kI, 40, .inl q_to)), (ra 14, .inl (kI, 12, .inl q_reach))] t.heap ∧ va_D A [(m0, .inr (11, oX11 ra x0)), (ra 2, .inl (kI, 8, .inl q_told)), (ra 3, .inl (kI, 24, .inl q_kind)), (ra 7, .inl (kI, 24, .inl q_late)), (ra 8, .inl (kI, 40, .inl q_from)), (ra 9, .inl (kI, 40, .inl q_to)), (ra 14, .inl (kI, 12, .inl q_reach))]) A) args0 s 0 0 A) (F0 m 47 ls []) := by
        intro H locs ls h47_1 h47_2 htp_47 hfp_47 hor_47 hirl_47 hP hD hS hl
        refine lv_iconst (v := 1) hx hb dX11_whyOf_47 ic_1 ?_
        refine lv_goto (tgt := 52) hx hb dX11_whyOf_48 rfl ?_
        exact hJ52 1 _ _ _ (h47_1) ((iv_w ivk_1 (by decide) (by decide))) (h47_2) ((show x0 1 = x0 1 from rfl)) ((show x0 10 = x0 10 from rfl)) ((show x0 11 = x0 11 from rfl)) ((show x0 14 = x0 14 from rfl)) (hP) (hD) hS (lv_sub hl [0, 1, 2, 3, 4] rfl)
      have hJ51 : ∀ (H : Heap) (locs : List Loc) (ls : Array Slot), iv 0 0 v7_loc2 → iv 0 19 v7_loc4 → iv 1 20 (q_told 1) → (x0 1 = x0 1) → (x0 10 = x0 10) → (x0 11 = x0 11) → (x0 14 = x0 14) → va_P (dC, dI) vwCl [(m0, .inr (11, oX11 ra x0)), (ra 2, .inl (kI, 8, .inl q_told)), (ra 3, .inl (kI, 24, .inl q_kind)), (ra 7, .inl (kI, 24, .inl q_late)), (ra 8, .inl (kI, 40, .inl q_from)), (ra 9, .inl (kI, 40, .inl q_to)), (ra 14, .inl (kI, 12, .inl q_reach))] H → va_D A [(m0, .inr (11, oX11 ra x0)), (ra 2, .inl (kI, 8, .inl q_told)), (ra 3, .inl (kI, 24, .inl q_kind)), (ra 7, .inl (kI, 24, .inl q_late)), (ra 8, .inl (kI, 40, .inl q_from)), (ra 9, .inl (kI, 40, .inl q_to)), (ra 14, .inl (kI, 12, .inl q_reach))] → va_S A s.heap H locs → lv_has ls 5 [(0, .ref m0), (1, .int p0), (2, .int v7_loc2), (3, .int 0), (4, .int v7_loc4)] → W p l e (headSpec wsX11_whyOf rm_s11_whyOf).room s m args0 below meth c H locs (0) (0) (MQ below (va_Qi (fun (r : Int32) (_ : Unit) => iv 1 3 r) (fun _ t => va_P (dC, dI) vwCl [(m0, .inr (11, oX11 ra x0)), (ra 2, .inl (kI, 8, .inl q_told)), (ra 3, .inl (kI, 24, .inl q_kind)), (ra 7, .inl (kI, 24, .inl q_late)), (ra 8, .inl (kI, 40, .inl q_from)), (ra 9, .inl (kI, 40, .inl q_to)), (ra 14, .inl (kI, 12, .inl q_reach))] t.heap ∧ va_D A [(m0, .inr (11, oX11 ra x0)), (ra 2, .inl (kI, 8, .inl q_told)), (ra 3, .inl (kI, 24, .inl q_kind)), (ra 7, .inl (kI, 24, .inl q_late)), (ra 8, .inl (kI, 40, .inl q_from)), (ra 9, .inl (kI, 40, .inl q_to)), (ra 14, .inl (kI, 12, .inl q_reach))]) A) args0 s 0 0 A) (F0 m 51 ls []) := by
        intro H locs ls h51_1 h51_2 h51_3 htp_51 hfp_51 hor_51 hirl_51 hP hD hS hl
        refine lv_iconst (v := 0) hx hb dX11_whyOf_51 ic_0 ?_
        exact hJ52 0 _ _ _ (h51_2) ((iv_w ivk_0 (by decide) (by decide))) (h51_3) ((show x0 1 = x0 1 from rfl)) ((show x0 10 = x0 10 from rfl)) ((show x0 11 = x0 11 from rfl)) ((show x0 14 = x0 14 from rfl)) (hP) (hD) hS (lv_sub hl [0, 1, 2, 3, 4] rfl)
      refine lv_iload hx hb dX11_whyOf_7 (lv_at hl 4 rfl) ?_
      refine lv_aload_n hx hb dX11_whyOf_9 rfl (lv_at hl 0 rfl) ?_
      obtain ⟨hPc, hDc, hFc, hJn⟩ := cl_a (wc := [(m0, .inr (11, oX11 ra x0)), (ra 2, .inl (kI, 8, .inl q_told))]) (wr := [(ra 3, .inl (kI, 24, .inl q_kind)), (ra 7, .inl (kI, 24, .inl q_late)), (ra 8, .inl (kI, 40, .inl q_from)), (ra 9, .inl (kI, 40, .inl q_to)), (ra 14, .inl (kI, 12, .inl q_reach))]) hP hD hS hA [0, 1] [2, 3, 4, 5, 6] rfl rfl (by decide +kernel)
      refine va_calli (va_runV (As := []) (rest := [.int v7_loc4]) ⟨hx, hb, hml, hown, hts⟩ (s11_links l dC dI kB kI kJ kZ kC kS H.size m0 ra x0 q_told (hX) (hq_told)) (cwV 0 hts gX11_whyOf_X11_links rfl rfl rfl (by decide +kernel) ⟨Nat.le_of_ble_eq_true rfl, Nat.le_of_ble_eq_true rfl⟩) ⟨fun a U g mk q => by obtain ⟨q0, q1, qP, qE, qD⟩ := q; exact ⟨q0, q1, qP, kE_call qE, qD⟩, va_recv hK hP (ci := 11) (q0 := 0) rfl rfl, fun U hU hW => ⟨rfl, by rw [hU], by rw [hU]; exact hPc, kE_warm hW hE, hDc.weaken (fun _ _ _ _ => trivial)⟩⟩ rfl rfl hl.1 rfl (lv_room (Nat.le_of_ble_eq_true rfl)) dX11_whyOf_10 ⟨Nat.le_of_ble_eq_true rfl, Nat.le_of_ble_eq_true rfl⟩) hS (fun q _ h => hFc q h) hFc (fun r31 u t H locs ht hvm w32 hB hz1 hk1 hS => ?_)
      obtain ⟨hP1, hD1⟩ := hB
      try dsimp only at w32
      obtain ⟨hPa, hDa⟩ := hJn (w1 := [(m0, .inr (11, oX11 ra x0)), (ra 2, .inl (kI, 8, .inl q_told))]) hk1 ht hP1 hD1
      clear hP hD hPc hDc hFc hJn hP1 hD1 hk1
      have hP : va_P (dC, dI) vwCl [(ra 3, .inl (kI, 24, .inl q_kind)), (ra 7, .inl (kI, 24, .inl q_late)), (ra 8, .inl (kI, 40, .inl q_from)), (ra 9, .inl (kI, 40, .inl q_to)), (ra 14, .inl (kI, 12, .inl q_reach)), (m0, .inr (11, oX11 ra x0)), (ra 2, .inl (kI, 8, .inl q_told))] H := hPa
      have hD : va_D A [(ra 3, .inl (kI, 24, .inl q_kind)), (ra 7, .inl (kI, 24, .inl q_late)), (ra 8, .inl (kI, 40, .inl q_from)), (ra 9, .inl (kI, 40, .inl q_to)), (ra 14, .inl (kI, 12, .inl q_reach)), (m0, .inr (11, oX11 ra x0)), (ra 2, .inl (kI, 8, .inl q_told))] := hDa
      clear hPa hDa
      refine W.widen (k := 0) (n := 0) (Nat.le_of_ble_eq_true rfl) (Nat.le_of_ble_eq_true rfl) ?_
      subst w32
      refine lv_icmp_ge (tgt := 59) hx hb dX11_whyOf_13 rfl (fun c33 => ?_) (fun c33 => ?_)
      · refine lv_iconst (v := 0) hx hb dX11_whyOf_59 ic_0 ?_
        refine lv_istore (lv' := [(4, .int 0), (0, .ref m0), (1, .int p0), (2, .int v7_loc2), (3, .int 0)]) hx hb dX11_whyOf_60 hl (Nat.le_of_ble_eq_true rfl) rfl (fun ls hl => ?_)
        have hPD9 := cl_s (wc := [(m0, .inr (11, oX11 ra x0)), (ra 2, .inl (kI, 8, .inl q_told)), (ra 3, .inl (kI, 24, .inl q_kind)), (ra 7, .inl (kI, 24, .inl q_late)), (ra 8, .inl (kI, 40, .inl q_from)), (ra 9, .inl (kI, 40, .inl q_to)), (ra 14, .inl (kI, 12, .inl q_reach))]) hP hD [5, 6, 0, 1, 2, 3, 4] rfl (by decide +kernel)
        exact hJ62 _ v7_loc2 0 0 _ _ _ (Nat.lt_succ_self _) (h7_1) ((iv_w ivk_0 (by decide) (by decide))) ((iv_w ivk_0 (by decide) (by decide))) ((show x0 1 = x0 1 from rfl)) ((show x0 10 = x0 10 from rfl)) ((show x0 11 = x0 11 from rfl)) ((show x0 14 = x0 14 from rfl)) (hPD9.1) (hPD9.2) hS (lv_sub hl [1, 2, 3, 4, 0] rfl)
      · have b34 : iv 0 19 v7_loc4 := iv_ltL (Int32.not_le.mp c33) h7_2 (hq_told 1 : iv 0 20 (q_told 1)) (by decide) (by decide)
        have b35 : iv 1 20 (q_told 1) := iv_ltR (Int32.not_le.mp c33) h7_2 (hq_told 1 : iv 0 20 (q_told 1)) (by decide) (by decide)
        refine lv_iload_n hx hb dX11_whyOf_16 rfl (lv_at hl 2 rfl) ?_
        refine lv_if_ne (tgt := 47) hx hb dX11_whyOf_17 rfl (fun c36 => ?_) (fun c36 => ?_)
        · have b37 : iv 1 1 v7_loc2 := iv_neLo c36 h7_1 ivk_0 (by decide) (by decide)
          have hPD9 := cl_s (wc := [(m0, .inr (11, oX11 ra x0)), (ra 2, .inl (kI, 8, .inl q_told)), (ra 3, .inl (kI, 24, .inl q_kind)), (ra 7, .inl (kI, 24, .inl q_late)), (ra 8, .inl (kI, 40, .inl q_from)), (ra 9, .inl (kI, 40, .inl q_to)), (ra 14, .inl (kI, 12, .inl q_reach))]) hP hD [5, 6, 0, 1, 2, 3, 4] rfl (by decide +kernel)
          exact hJ47 _ _ _ (b34) (b35) ((show x0 1 = x0 1 from rfl)) ((show x0 10 = x0 10 from rfl)) ((show x0 11 = x0 11 from rfl)) ((show x0 14 = x0 14 from rfl)) (hPD9.1) (hPD9.2) hS (lv_sub hl [0, 1, 2, 3, 4] rfl)
        · have b38 : iv 0 0 v7_loc2 := iv_eqL c36 ivk_0
          refine lv_aload_n hx hb dX11_whyOf_20 rfl (lv_at hl 0 rfl) ?_
          refine va_get (D := (dC, dI)) (ci := 11) (v := .ref (ra 9)) (C := RX11) (T := TX11) (N := 61) hx hb hts hin11 hown hK hP 5 rfl rfl 10 (Nat.le_of_ble_eq_true rfl) hw_2 (fun _ h9 => h9) rfl dX11_whyOf_21 ?_
          refine lv_iload hx hb dX11_whyOf_24 (lv_at hl 4 rfl) ?_
          refine va_iald hx hb hK hP 3 1 rfl rfl (iv_in b34 (by decide) (by decide)) dX11_whyOf_26 ?_
          refine iv_top (a := 0) (b := 11) (hq_to _) (fun z39 b40 => ?_)
          refine lv_iload_n hx hb dX11_whyOf_27 rfl (lv_at hl 1 rfl) ?_
          refine lv_icmp_ne (tgt := 51) hx hb dX11_whyOf_28 rfl (fun c41 => ?_) (fun c41 => ?_)
          · have hPD9 := cl_s (wc := [(m0, .inr (11, oX11 ra x0)), (ra 2, .inl (kI, 8, .inl q_told)), (ra 3, .inl (kI, 24, .inl q_kind)), (ra 7, .inl (kI, 24, .inl q_late)), (ra 8, .inl (kI, 40, .inl q_from)), (ra 9, .inl (kI, 40, .inl q_to)), (ra 14, .inl (kI, 12, .inl q_reach))]) hP hD [5, 6, 0, 1, 2, 3, 4] rfl (by decide +kernel)
            exact hJ51 _ _ _ (b38) (b34) (b35) ((show x0 1 = x0 1 from rfl)) ((show x0 10 = x0 10 from rfl)) ((show x0 11 = x0 11 from rfl)) ((show x0 14 = x0 14 from rfl)) (hPD9.1) (hPD9.2) hS (lv_sub hl [0, 1, 2, 3, 4] rfl)
          · refine lv_aload_n hx hb dX11_whyOf_31 rfl (lv_at hl 0 rfl) ?_
            refine va_get (D := (dC, dI)) (ci := 11) (v := .ref (ra 7)) (C := RX11) (T := TX11) (N := 61) hx hb hts hin11 hown hK hP 5 rfl rfl 8 (Nat.le_of_ble_eq_true rfl) hw_3 (fun _ h9 => h9) rfl dX11_whyOf_32 ?_
            refine lv_aload_n hx hb dX11_whyOf_35 rfl (lv_at hl 0 rfl) ?_
            refine va_get (D := (dC, dI)) (ci := 11) (v := .ref (ra 8)) (C := RX11) (T := TX11) (N := 61) hx hb hts hin11 hown hK hP 5 rfl rfl 9 (Nat.le_of_ble_eq_true rfl) hw_4 (fun _ h9 => h9) rfl dX11_whyOf_36 ?_
            refine lv_iload hx hb dX11_whyOf_39 (lv_at hl 4 rfl) ?_
            refine va_iald hx hb hK hP 2 1 rfl rfl (iv_in b34 (by decide) (by decide)) dX11_whyOf_41 ?_
            refine iv_top (a := 0) (b := 11) (hq_from _) (fun z42 b43 => ?_)
            refine va_iald hx hb hK hP 1 1 rfl rfl (iv_in b43 (by decide) (by decide)) dX11_whyOf_42 ?_
            refine lv_topi (fun z44 _ => ?_)
            refine lv_iconst (v := 1) hx hb dX11_whyOf_43 ic_1 ?_
            refine lv_icmp_ne (tgt := 51) hx hb dX11_whyOf_44 rfl (fun c45 => ?_) (fun c45 => ?_)
            · have hPD9 := cl_s (wc := [(m0, .inr (11, oX11 ra x0)), (ra 2, .inl (kI, 8, .inl q_told)), (ra 3, .inl (kI, 24, .inl q_kind)), (ra 7, .inl (kI, 24, .inl q_late)), (ra 8, .inl (kI, 40, .inl q_from)), (ra 9, .inl (kI, 40, .inl q_to)), (ra 14, .inl (kI, 12, .inl q_reach))]) hP hD [5, 6, 0, 1, 2, 3, 4] rfl (by decide +kernel)
              exact hJ51 _ _ _ (b38) (b34) (b35) ((show x0 1 = x0 1 from rfl)) ((show x0 10 = x0 10 from rfl)) ((show x0 11 = x0 11 from rfl)) ((show x0 14 = x0 14 from rfl)) (hPD9.1) (hPD9.2) hS (lv_sub hl [0, 1, 2, 3, 4] rfl)
            · have b46 : iv 1 1 z44 := iv_eqL c45 ivk_1
              have hPD9 := cl_s (wc := [(m0, .inr (11, oX11 ra x0)), (ra 2, .inl (kI, 8, .inl q_told)), (ra 3, .inl (kI, 24, .inl q_kind)), (ra 7, .inl (kI, 24, .inl q_late)), (ra 8, .inl (kI, 40, .inl q_from)), (ra 9, .inl (kI, 40, .inl q_to)), (ra 14, .inl (kI, 12, .inl q_reach))]) hP hD [5, 6, 0, 1, 2, 3, 4] rfl (by decide +kernel)
              exact hJ47 _ _ _ (b34) (b35) ((show x0 1 = x0 1 from rfl)) ((show x0 10 = x0 10 from rfl)) ((show x0 11 = x0 11 from rfl)) ((show x0 14 = x0 14 from rfl)) (hPD9.1) (hPD9.2) hS (lv_sub hl [0, 1, 2, 3, 4] rfl)
  refine lv_iconst (v := 0) hx hb dX11_whyOf_0 ic_0 ?_
  refine lv_istore_n (lv' := [(2, .int 0), (0, .ref m0), (1, .int p0)]) hx hb dX11_whyOf_1 rfl hl (Nat.le_of_ble_eq_true rfl) rfl (fun ls hl => ?_)
  refine lv_iconst (v := 0) hx hb dX11_whyOf_2 ic_0 ?_
  refine lv_istore_n (lv' := [(3, .int 0), (2, .int 0), (0, .ref m0), (1, .int p0)]) hx hb dX11_whyOf_3 rfl hl (Nat.le_of_ble_eq_true rfl) rfl (fun ls hl => ?_)
  refine lv_iconst (v := 0) hx hb dX11_whyOf_4 ic_0 ?_
  refine lv_istore (lv' := [(4, .int 0), (3, .int 0), (2, .int 0), (0, .ref m0), (1, .int p0)]) hx hb dX11_whyOf_5 hl (Nat.le_of_ble_eq_true rfl) rfl (fun ls hl => ?_)
  exact hJ7 _ 0 0 _ _ _ (Nat.lt_succ_self _) ((iv_w ivk_0 (by decide) (by decide))) ((iv_w ivk_0 (by decide) (by decide))) ((show x0 1 = x0 1 from rfl)) ((show x0 10 = x0 10 from rfl)) ((show x0 11 = x0 11 from rfl)) ((show x0 14 = x0 14 from rfl)) (hP) (hD) hS (lv_sub hl [3, 4, 2, 1, 0] rfl)
def rm_s11_tellPlaces : Room := { frames := 1, cells := 0, slots := 0, locals := 23 }
set_option maxHeartbeats 4000000 in
set_option maxRecDepth 100000 in
theorem s11_tellPlaces (l : Launch) (dC : Nat → ClassId) (dI : Nat → Nat → Nat) (kB kI kJ kZ kC kS : ClassId) (sz : Nat) (m0 : Nat) (ra : Nat → Nat) (x0 : Nat → Int32) (q_told : Nat → Int32) (q_from : Nat → Int32) (q_to : Nat → Int32) (q_goal : Nat → Int32) (q_reach : Nat → Int32) (q_isAt : Nat → Int32) (p0 : Int32) (hX : fI lX11 hX11 x0) (hq_told : fI lTold hTold q_told) (hq_from : fI (fun _ => 0) (fun _ => 11) q_from) (hq_to : fI (fun _ => 0) (fun _ => 11) q_to) (hq_goal : fI (fun _ => 0) (fun _ => 11) q_goal) (hp0 : iv 0 2 p0) : Met l yX11_tellPlaces wsX11_tellPlaces rm_s11_tellPlaces (va_Pc [.ref m0, .int p0] (fun U => U.heap.size = sz ∧ va_P (dC, dI) vwCl [(m0, .inr (11, oX11 ra x0)), (ra 2, .inl (kI, 8, .inl q_told)), (ra 8, .inl (kI, 40, .inl q_from)), (ra 9, .inl (kI, 40, .inl q_to)), (ra 10, .inl (kI, 6, .inl q_goal)), (ra 14, .inl (kI, 12, .inl q_reach)), (ra 17, .inl (kZ, 168, .inl q_isAt))] U.heap ∧ kE dC dI kB kI kJ kZ kC kS U ∧ va_D (fun _ => True) [(m0, .inr (11, oX11 ra x0)), (ra 2, .inl (kI, 8, .inl q_told)), (ra 8, .inl (kI, 40, .inl q_from)), (ra 9, .inl (kI, 40, .inl q_to)), (ra 10, .inl (kI, 6, .inl q_goal)), (ra 14, .inl (kI, 12, .inl q_reach)), (ra 17, .inl (kZ, 168, .inl q_isAt))])) (va_Qv (fun (_ : Unit) => True) (fun _ t => ∃ (q_isAt' : Nat → Int32), va_P (dC, dI) vwCl [(m0, .inr (11, oX11 ra x0)), (ra 2, .inl (kI, 8, .inl q_told)), (ra 8, .inl (kI, 40, .inl q_from)), (ra 9, .inl (kI, 40, .inl q_to)), (ra 10, .inl (kI, 6, .inl q_goal)), (ra 14, .inl (kI, 12, .inl q_reach)), (ra 17, .inl (kZ, 168, .inl q_isAt'))] t.heap ∧ va_D (va_A [(m0, .inr (11, oX11 ra x0)), (ra 2, .inl (kI, 8, .inl q_told)), (ra 8, .inl (kI, 40, .inl q_from)), (ra 9, .inl (kI, 40, .inl q_to)), (ra 10, .inl (kI, 6, .inl q_goal)), (ra 14, .inl (kI, 12, .inl q_reach)), (ra 17, .inl (kZ, 168, .inl q_isAt))] sz) [(m0, .inr (11, oX11 ra x0)), (ra 2, .inl (kI, 8, .inl q_told)), (ra 8, .inl (kI, 40, .inl q_from)), (ra 9, .inl (kI, 40, .inl q_to)), (ra 10, .inl (kI, 6, .inl q_goal)), (ra 14, .inl (kI, 12, .inl q_reach)), (ra 17, .inl (kZ, 168, .inl q_isAt'))]) (va_A [(m0, .inr (11, oX11 ra x0)), (ra 2, .inl (kI, 8, .inl q_told)), (ra 8, .inl (kI, 40, .inl q_from)), (ra 9, .inl (kI, 40, .inl q_to)), (ra 10, .inl (kI, 6, .inl q_goal)), (ra 14, .inl (kI, 12, .inl q_reach)), (ra 17, .inl (kZ, 168, .inl q_isAt))] sz)) 0 0 (va_A [(m0, .inr (11, oX11 ra x0)), (ra 2, .inl (kI, 8, .inl q_told)), (ra 8, .inl (kI, 40, .inl q_from)), (ra 9, .inl (kI, 40, .inl q_to)), (ra 10, .inl (kI, 6, .inl q_goal)), (ra 14, .inl (kI, 12, .inl q_reach)), (ra 17, .inl (kZ, 168, .inl q_isAt))] sz) := by
  refine Met.ofW (cc := cX11_tellPlaces) (maxL := 5) (ret := none) (by decide) rfl ?_
  intro p e s m args0 below meth c s₁ B hml hv
  obtain ⟨hargs, hsz, hP, hE, hD0⟩ := hv
  have hx := B.exec
  have hb := B.bytes
  have hr := B.returns
  have hts := atoms_spec (ws := wsX11_tellPlaces) B.pre
  have hown : s.vm.findClass RX11 = some m.cls := findClass_of_methodNamed B.named
  have hlocks := B.notSynchronized
  have hK := hE.1
  have hin11 : ∀ w ∈ wsX110, w ∈ wsX11_tellPlaces := fun _ h9 => List.mem_cons_of_mem _ (List.mem_append_right _ h9)
  have hw_0 := hts (.fieldLink RX11 58 "PathProberModel" "goal" "[I") (List.mem_of_getElem? (i := 3) rfl)
  have hw_1 := hts (.fieldLink RX11 87 "PathProberModel" "isAt" "[Z") (List.mem_of_getElem? (i := 1) rfl)
  have hw_2 := hts (.fieldLink RX11 56 "PathProberModel" "to" "[I") (List.mem_of_getElem? (i := 4) rfl)
  have hw_3 := hts (.fieldLink RX11 73 "PathProberModel" "reach" "[I") (List.mem_of_getElem? (i := 2) rfl)
  subst hsz
  have hD := hD0.self (sz := s.heap.size)
  generalize hAe : va_A [(m0, .inr (11, oX11 ra x0)), (ra 2, .inl (kI, 8, .inl q_told)), (ra 8, .inl (kI, 40, .inl q_from)), (ra 9, .inl (kI, 40, .inl q_to)), (ra 10, .inl (kI, 6, .inl q_goal)), (ra 14, .inl (kI, 12, .inl q_reach)), (ra 17, .inl (kZ, 168, .inl q_isAt))] s.heap.size = A at hD ⊢
  have hA : ∀ q : Nat, s.heap.size ≤ q → A q := fun q h => by rw [← hAe]; exact Or.inr h
  have hS : va_S A s.heap s.heap [] := va_S.rf
  have hP : va_P (dC, dI) vwCl [(m0, .inr (11, oX11 ra x0)), (ra 2, .inl (kI, 8, .inl q_told)), (ra 8, .inl (kI, 40, .inl q_from)), (ra 9, .inl (kI, 40, .inl q_to)), (ra 10, .inl (kI, 6, .inl q_goal)), (ra 14, .inl (kI, 12, .inl q_reach)), (ra 17, .inl (kZ, 168, .inl q_isAt))] s.heap := hP
  have hl := lv_entry ([.ref m0, .int p0]) (n := 5) (Nat.le_of_ble_eq_true rfl)
  have hla : entryFrame m args0 5 = entryFrame m ([.ref m0, .int p0] : List Value).toArray 5 := by rw [hargs]
  rw [hla, lg_entry_eq]
  generalize (lg_sl ([.ref m0, .int p0]) ++ List.replicate (5 - (lg_sl ([.ref m0, .int p0])).length) Slot.unset).toArray = ls at hl ⊢
  have hl : lv_has ls 5 [(0, .ref m0), (1, .int p0)] := hl
  have hJ61 : ∀ (n : Nat) (g61_6 : Nat → Int32) (v61_loc2 : Int32) (H : Heap) (locs : List Loc) (ls : Array Slot), (12 - v61_loc2.toInt).toNat < n → iv 0 12 v61_loc2 → (x0 1 = x0 1) → (x0 10 = x0 10) → (x0 11 = x0 11) → (x0 14 = x0 14) → va_P (dC, dI) vwCl [(m0, .inr (11, oX11 ra x0)), (ra 2, .inl (kI, 8, .inl q_told)), (ra 8, .inl (kI, 40, .inl q_from)), (ra 9, .inl (kI, 40, .inl q_to)), (ra 10, .inl (kI, 6, .inl q_goal)), (ra 14, .inl (kI, 12, .inl q_reach)), (ra 17, .inl (kZ, 168, .inl g61_6))] H → va_D A [(m0, .inr (11, oX11 ra x0)), (ra 2, .inl (kI, 8, .inl q_told)), (ra 8, .inl (kI, 40, .inl q_from)), (ra 9, .inl (kI, 40, .inl q_to)), (ra 10, .inl (kI, 6, .inl q_goal)), (ra 14, .inl (kI, 12, .inl q_reach)), (ra 17, .inl (kZ, 168, .inl g61_6))] → va_S A s.heap H locs → lv_has ls 5 [(0, .ref m0), (1, .int p0), (2, .int v61_loc2)] → W p l e (headSpec wsX11_tellPlaces rm_s11_tellPlaces).room s m args0 below meth c H locs (0) (0) (MQ below (va_Qv (fun (_ : Unit) => True) (fun _ t => ∃ (q_isAt' : Nat → Int32), va_P (dC, dI) vwCl [(m0, .inr (11, oX11 ra x0)), (ra 2, .inl (kI, 8, .inl q_told)), (ra 8, .inl (kI, 40, .inl q_from)), (ra 9, .inl (kI, 40, .inl q_to)), (ra 10, .inl (kI, 6, .inl q_goal)), (ra 14, .inl (kI, 12, .inl q_reach)), (ra 17, .inl (kZ, 168, .inl q_isAt'))] t.heap ∧ va_D A [(m0, .inr (11, oX11 ra x0)), (ra 2, .inl (kI, 8, .inl q_told)), (ra 8, .inl (kI, 40, .inl q_from)), (ra 9, .inl (kI, 40, .inl q_to)), (ra 10, .inl (kI, 6, .inl q_goal)), (ra 14, .inl (kI, 12, .inl q_reach)), (ra 17, .inl (kZ, 168, .inl q_isAt'))]) A) args0 s 0 0 A) (F0 m 61 ls []) := by
    intro n
    induction n with
    | zero => intro g61_6 v61_loc2 H locs ls hm61; exact absurd hm61 (Nat.not_lt_zero _)
    | succ n ih61 =>
      intro g61_6 v61_loc2 H locs ls hm61 h61_1 htp_61 hfp_61 hor_61 hirl_61 hP hD hS hl
      have hJ71 : ∀ (n : Nat) (g71_6 : Nat → Int32) (v71_loc3 : Int32) (H : Heap) (locs : List Loc) (ls : Array Slot), (13 - v71_loc3.toInt).toNat < n → iv 0 11 v61_loc2 → iv 1 13 v71_loc3 → iv 1 12 (q_told 0) → (x0 1 = x0 1) → (x0 10 = x0 10) → (x0 11 = x0 11) → (x0 14 = x0 14) → va_P (dC, dI) vwCl [(m0, .inr (11, oX11 ra x0)), (ra 2, .inl (kI, 8, .inl q_told)), (ra 8, .inl (kI, 40, .inl q_from)), (ra 9, .inl (kI, 40, .inl q_to)), (ra 10, .inl (kI, 6, .inl q_goal)), (ra 14, .inl (kI, 12, .inl q_reach)), (ra 17, .inl (kZ, 168, .inl g71_6))] H → va_D A [(m0, .inr (11, oX11 ra x0)), (ra 2, .inl (kI, 8, .inl q_told)), (ra 8, .inl (kI, 40, .inl q_from)), (ra 9, .inl (kI, 40, .inl q_to)), (ra 10, .inl (kI, 6, .inl q_goal)), (ra 14, .inl (kI, 12, .inl q_reach)), (ra 17, .inl (kZ, 168, .inl g71_6))] → va_S A s.heap H locs → lv_has ls 5 [(0, .ref m0), (1, .int p0), (2, .int v61_loc2), (3, .int v71_loc3)] → W p l e (headSpec wsX11_tellPlaces rm_s11_tellPlaces).room s m args0 below meth c H locs (0) (0) (MQ below (va_Qv (fun (_ : Unit) => True) (fun _ t => ∃ (q_isAt' : Nat → Int32), va_P (dC, dI) vwCl [(m0, .inr (11, oX11 ra x0)), (ra 2, .inl (kI, 8, .inl q_told)), (ra 8, .inl (kI, 40, .inl q_from)), (ra 9, .inl (kI, 40, .inl q_to)), (ra 10, .inl (kI, 6, .inl q_goal)), (ra 14, .inl (kI, 12, .inl q_reach)), (ra 17, .inl (kZ, 168, .inl q_isAt'))] t.heap ∧ va_D A [(m0, .inr (11, oX11 ra x0)), (ra 2, .inl (kI, 8, .inl q_told)), (ra 8, .inl (kI, 40, .inl q_from)), (ra 9, .inl (kI, 40, .inl q_to)), (ra 10, .inl (kI, 6, .inl q_goal)), (ra 14, .inl (kI, 12, .inl q_reach)), (ra 17, .inl (kZ, 168, .inl q_isAt'))]) A) args0 s 0 0 A) (F0 m 71 ls []) := by
        intro n
        induction n with
        | zero => intro g71_6 v71_loc3 H locs ls hm71; exact absurd hm71 (Nat.not_lt_zero _)
        | succ n ih71 =>
          intro g71_6 v71_loc3 H locs ls hm71 h71_1 h71_2 h71_3 htp_71 hfp_71 hor_71 hirl_71 hP hD hS hl
          have hJ158 : ∀ (g158_6 : Nat → Int32) (H : Heap) (locs : List Loc) (ls : Array Slot), iv 1 12 v71_loc3 → (x0 1 = x0 1) → (x0 10 = x0 10) → (x0 11 = x0 11) → (x0 14 = x0 14) → va_P (dC, dI) vwCl [(m0, .inr (11, oX11 ra x0)), (ra 2, .inl (kI, 8, .inl q_told)), (ra 8, .inl (kI, 40, .inl q_from)), (ra 9, .inl (kI, 40, .inl q_to)), (ra 10, .inl (kI, 6, .inl q_goal)), (ra 14, .inl (kI, 12, .inl q_reach)), (ra 17, .inl (kZ, 168, .inl g158_6))] H → va_D A [(m0, .inr (11, oX11 ra x0)), (ra 2, .inl (kI, 8, .inl q_told)), (ra 8, .inl (kI, 40, .inl q_from)), (ra 9, .inl (kI, 40, .inl q_to)), (ra 10, .inl (kI, 6, .inl q_goal)), (ra 14, .inl (kI, 12, .inl q_reach)), (ra 17, .inl (kZ, 168, .inl g158_6))] → va_S A s.heap H locs → lv_has ls 5 [(0, .ref m0), (1, .int p0), (2, .int v61_loc2), (3, .int v71_loc3)] → W p l e (headSpec wsX11_tellPlaces rm_s11_tellPlaces).room s m args0 below meth c H locs (0) (0) (MQ below (va_Qv (fun (_ : Unit) => True) (fun _ t => ∃ (q_isAt' : Nat → Int32), va_P (dC, dI) vwCl [(m0, .inr (11, oX11 ra x0)), (ra 2, .inl (kI, 8, .inl q_told)), (ra 8, .inl (kI, 40, .inl q_from)), (ra 9, .inl (kI, 40, .inl q_to)), (ra 10, .inl (kI, 6, .inl q_goal)), (ra 14, .inl (kI, 12, .inl q_reach)), (ra 17, .inl (kZ, 168, .inl q_isAt'))] t.heap ∧ va_D A [(m0, .inr (11, oX11 ra x0)), (ra 2, .inl (kI, 8, .inl q_told)), (ra 8, .inl (kI, 40, .inl q_from)), (ra 9, .inl (kI, 40, .inl q_to)), (ra 10, .inl (kI, 6, .inl q_goal)), (ra 14, .inl (kI, 12, .inl q_reach)), (ra 17, .inl (kZ, 168, .inl q_isAt'))]) A) args0 s 0 0 A) (F0 m 158 ls []) := by
            intro g158_6 H locs ls h158_1 htp_158 hfp_158 hor_158 hirl_158 hP hD hS hl
            refine lv_iinc (v := v71_loc3 + Int32.ofInt 1) (lv' := [(3, .int (v71_loc3 + Int32.ofInt 1)), (0, .ref m0), (1, .int p0), (2, .int v61_loc2)]) hx hb dX11_tellPlaces_158 hl (k := 3) rfl (rfl) (Nat.le_of_ble_eq_true rfl) rfl (fun ls hl => ?_)
            have b1 : iv 2 13 (v71_loc3 + Int32.ofInt 1) := iv_add h158_1 ivo_1 (by decide) (by decide) (by decide) (by decide)
            refine lv_goto (tgt := 71) hx hb dX11_tellPlaces_161 rfl ?_
            exact ih71 g158_6 (v71_loc3 + Int32.ofInt 1) _ _ _ (ms_up (c := 1) (d := 0) h158_1 hm71 (by decide) (iv_inc 1 h158_1 (by decide) (by decide) (by decide) (by decide)) (by decide) rfl) (h71_1) ((iv_w b1 (by decide) (by decide))) (h71_3) ((show x0 1 = x0 1 from rfl)) ((show x0 10 = x0 10 from rfl)) ((show x0 11 = x0 11 from rfl)) ((show x0 14 = x0 14 from rfl)) (hP) (hD) hS (lv_sub hl [1, 2, 3, 0] rfl)
          have hJ97 : ∀ (n : Nat) (g97_6 : Nat → Int32) (v97_loc4 : Int32) (H : Heap) (locs : List Loc) (ls : Array Slot), (20 - v97_loc4.toInt).toNat < n → iv 1 12 v71_loc3 → iv 0 20 v97_loc4 → (x0 1 = x0 1) → (x0 10 = x0 10) → (x0 11 = x0 11) → (x0 14 = x0 14) → va_P (dC, dI) vwCl [(m0, .inr (11, oX11 ra x0)), (ra 2, .inl (kI, 8, .inl q_told)), (ra 8, .inl (kI, 40, .inl q_from)), (ra 9, .inl (kI, 40, .inl q_to)), (ra 10, .inl (kI, 6, .inl q_goal)), (ra 14, .inl (kI, 12, .inl q_reach)), (ra 17, .inl (kZ, 168, .inl g97_6))] H → va_D A [(m0, .inr (11, oX11 ra x0)), (ra 2, .inl (kI, 8, .inl q_told)), (ra 8, .inl (kI, 40, .inl q_from)), (ra 9, .inl (kI, 40, .inl q_to)), (ra 10, .inl (kI, 6, .inl q_goal)), (ra 14, .inl (kI, 12, .inl q_reach)), (ra 17, .inl (kZ, 168, .inl g97_6))] → va_S A s.heap H locs → lv_has ls 5 [(0, .ref m0), (1, .int p0), (2, .int v61_loc2), (3, .int v71_loc3), (4, .int v97_loc4)] → W p l e (headSpec wsX11_tellPlaces rm_s11_tellPlaces).room s m args0 below meth c H locs (0) (0) (MQ below (va_Qv (fun (_ : Unit) => True) (fun _ t => ∃ (q_isAt' : Nat → Int32), va_P (dC, dI) vwCl [(m0, .inr (11, oX11 ra x0)), (ra 2, .inl (kI, 8, .inl q_told)), (ra 8, .inl (kI, 40, .inl q_from)), (ra 9, .inl (kI, 40, .inl q_to)), (ra 10, .inl (kI, 6, .inl q_goal)), (ra 14, .inl (kI, 12, .inl q_reach)), (ra 17, .inl (kZ, 168, .inl q_isAt'))] t.heap ∧ va_D A [(m0, .inr (11, oX11 ra x0)), (ra 2, .inl (kI, 8, .inl q_told)), (ra 8, .inl (kI, 40, .inl q_from)), (ra 9, .inl (kI, 40, .inl q_to)), (ra 10, .inl (kI, 6, .inl q_goal)), (ra 14, .inl (kI, 12, .inl q_reach)), (ra 17, .inl (kZ, 168, .inl q_isAt'))]) A) args0 s 0 0 A) (F0 m 97 ls []) := by
            intro n
            induction n with
            | zero => intro g97_6 v97_loc4 H locs ls hm97; exact absurd hm97 (Nat.not_lt_zero _)
            | succ n ih97 =>
              intro g97_6 v97_loc4 H locs ls hm97 h97_1 h97_2 htp_97 hfp_97 hor_97 hirl_97 hP hD hS hl
              have hJ152 : ∀ (g152_6 : Nat → Int32) (H : Heap) (locs : List Loc) (ls : Array Slot), iv 0 19 v97_loc4 → iv 1 20 (q_told 1) → (x0 1 = x0 1) → (x0 10 = x0 10) → (x0 11 = x0 11) → (x0 14 = x0 14) → va_P (dC, dI) vwCl [(m0, .inr (11, oX11 ra x0)), (ra 2, .inl (kI, 8, .inl q_told)), (ra 8, .inl (kI, 40, .inl q_from)), (ra 9, .inl (kI, 40, .inl q_to)), (ra 10, .inl (kI, 6, .inl q_goal)), (ra 14, .inl (kI, 12, .inl q_reach)), (ra 17, .inl (kZ, 168, .inl g152_6))] H → va_D A [(m0, .inr (11, oX11 ra x0)), (ra 2, .inl (kI, 8, .inl q_told)), (ra 8, .inl (kI, 40, .inl q_from)), (ra 9, .inl (kI, 40, .inl q_to)), (ra 10, .inl (kI, 6, .inl q_goal)), (ra 14, .inl (kI, 12, .inl q_reach)), (ra 17, .inl (kZ, 168, .inl g152_6))] → va_S A s.heap H locs → lv_has ls 5 [(0, .ref m0), (1, .int p0), (2, .int v61_loc2), (3, .int v71_loc3), (4, .int v97_loc4)] → W p l e (headSpec wsX11_tellPlaces rm_s11_tellPlaces).room s m args0 below meth c H locs (0) (0) (MQ below (va_Qv (fun (_ : Unit) => True) (fun _ t => ∃ (q_isAt' : Nat → Int32), va_P (dC, dI) vwCl [(m0, .inr (11, oX11 ra x0)), (ra 2, .inl (kI, 8, .inl q_told)), (ra 8, .inl (kI, 40, .inl q_from)), (ra 9, .inl (kI, 40, .inl q_to)), (ra 10, .inl (kI, 6, .inl q_goal)), (ra 14, .inl (kI, 12, .inl q_reach)), (ra 17, .inl (kZ, 168, .inl q_isAt'))] t.heap ∧ va_D A [(m0, .inr (11, oX11 ra x0)), (ra 2, .inl (kI, 8, .inl q_told)), (ra 8, .inl (kI, 40, .inl q_from)), (ra 9, .inl (kI, 40, .inl q_to)), (ra 10, .inl (kI, 6, .inl q_goal)), (ra 14, .inl (kI, 12, .inl q_reach)), (ra 17, .inl (kZ, 168, .inl q_isAt'))]) A) args0 s 0 0 A) (F0 m 152 ls []) := by
                intro g152_6 H locs ls h152_1 h152_2 htp_152 hfp_152 hor_152 hirl_152 hP hD hS hl
                refine lv_iinc (v := v97_loc4 + Int32.ofInt 1) (lv' := [(4, .int (v97_loc4 + Int32.ofInt 1)), (0, .ref m0), (1, .int p0), (2, .int v61_loc2), (3, .int v71_loc3)]) hx hb dX11_tellPlaces_152 hl (k := 4) rfl (rfl) (Nat.le_of_ble_eq_true rfl) rfl (fun ls hl => ?_)
                have b2 : iv 1 20 (v97_loc4 + Int32.ofInt 1) := iv_add h152_1 ivo_1 (by decide) (by decide) (by decide) (by decide)
                refine lv_goto (tgt := 97) hx hb dX11_tellPlaces_155 rfl ?_
                exact ih97 g152_6 (v97_loc4 + Int32.ofInt 1) _ _ _ (ms_up (c := 1) (d := 0) h152_1 hm97 (by decide) (iv_inc 1 h152_1 (by decide) (by decide) (by decide) (by decide)) (by decide) rfl) (h97_1) ((iv_w b2 (by decide) (by decide))) ((show x0 1 = x0 1 from rfl)) ((show x0 10 = x0 10 from rfl)) ((show x0 11 = x0 11 from rfl)) ((show x0 14 = x0 14 from rfl)) (hP) (hD) hS (lv_sub hl [1, 2, 3, 4, 0] rfl)
              refine lv_iload hx hb dX11_tellPlaces_97 (lv_at hl 4 rfl) ?_
              refine lv_aload_n hx hb dX11_tellPlaces_99 rfl (lv_at hl 0 rfl) ?_
              obtain ⟨hPc, hDc, hFc, hJn⟩ := cl_a (wc := [(m0, .inr (11, oX11 ra x0)), (ra 2, .inl (kI, 8, .inl q_told))]) (wr := [(ra 8, .inl (kI, 40, .inl q_from)), (ra 9, .inl (kI, 40, .inl q_to)), (ra 10, .inl (kI, 6, .inl q_goal)), (ra 14, .inl (kI, 12, .inl q_reach)), (ra 17, .inl (kZ, 168, .inl g97_6))]) hP hD hS hA [0, 1] [2, 3, 4, 5, 6] rfl rfl (by decide +kernel)
              refine va_calli (va_runV (As := []) (rest := [.int v97_loc4]) ⟨hx, hb, hml, hown, hts⟩ (s11_links l dC dI kB kI kJ kZ kC kS H.size m0 ra x0 q_told (hX) (hq_told)) (cwV 0 hts gX11_tellPlaces_X11_links rfl rfl rfl (by decide +kernel) ⟨Nat.le_of_ble_eq_true rfl, Nat.le_of_ble_eq_true rfl⟩) ⟨fun a U g mk q => by obtain ⟨q0, q1, qP, qE, qD⟩ := q; exact ⟨q0, q1, qP, kE_call qE, qD⟩, va_recv hK hP (ci := 11) (q0 := 0) rfl rfl, fun U hU hW => ⟨rfl, by rw [hU], by rw [hU]; exact hPc, kE_warm hW hE, hDc.weaken (fun _ _ _ _ => trivial)⟩⟩ rfl rfl hl.1 rfl (lv_room (Nat.le_of_ble_eq_true rfl)) dX11_tellPlaces_100 ⟨Nat.le_of_ble_eq_true rfl, Nat.le_of_ble_eq_true rfl⟩) hS (fun q _ h => hFc q h) hFc (fun r3 u t H locs ht hvm w4 hB hz1 hk1 hS => ?_)
              obtain ⟨hP1, hD1⟩ := hB
              try dsimp only at w4
              obtain ⟨hPa, hDa⟩ := hJn (w1 := [(m0, .inr (11, oX11 ra x0)), (ra 2, .inl (kI, 8, .inl q_told))]) hk1 ht hP1 hD1
              clear hP hD hPc hDc hFc hJn hP1 hD1 hk1
              have hP : va_P (dC, dI) vwCl [(ra 8, .inl (kI, 40, .inl q_from)), (ra 9, .inl (kI, 40, .inl q_to)), (ra 10, .inl (kI, 6, .inl q_goal)), (ra 14, .inl (kI, 12, .inl q_reach)), (ra 17, .inl (kZ, 168, .inl g97_6)), (m0, .inr (11, oX11 ra x0)), (ra 2, .inl (kI, 8, .inl q_told))] H := hPa
              have hD : va_D A [(ra 8, .inl (kI, 40, .inl q_from)), (ra 9, .inl (kI, 40, .inl q_to)), (ra 10, .inl (kI, 6, .inl q_goal)), (ra 14, .inl (kI, 12, .inl q_reach)), (ra 17, .inl (kZ, 168, .inl g97_6)), (m0, .inr (11, oX11 ra x0)), (ra 2, .inl (kI, 8, .inl q_told))] := hDa
              clear hPa hDa
              refine W.widen (k := 0) (n := 0) (Nat.le_of_ble_eq_true rfl) (Nat.le_of_ble_eq_true rfl) ?_
              subst w4
              refine lv_icmp_ge (tgt := 158) hx hb dX11_tellPlaces_103 rfl (fun c5 => ?_) (fun c5 => ?_)
              · have hPD9 := cl_s (wc := [(m0, .inr (11, oX11 ra x0)), (ra 2, .inl (kI, 8, .inl q_told)), (ra 8, .inl (kI, 40, .inl q_from)), (ra 9, .inl (kI, 40, .inl q_to)), (ra 10, .inl (kI, 6, .inl q_goal)), (ra 14, .inl (kI, 12, .inl q_reach)), (ra 17, .inl (kZ, 168, .inl g97_6))]) hP hD [5, 6, 0, 1, 2, 3, 4] rfl (by decide +kernel)
                exact hJ158 g97_6 _ _ _ (h97_1) ((show x0 1 = x0 1 from rfl)) ((show x0 10 = x0 10 from rfl)) ((show x0 11 = x0 11 from rfl)) ((show x0 14 = x0 14 from rfl)) (hPD9.1) (hPD9.2) hS (lv_sub hl [0, 1, 2, 3] rfl)
              · have b6 : iv 0 19 v97_loc4 := iv_ltL (Int32.not_le.mp c5) h97_2 (hq_told 1 : iv 0 20 (q_told 1)) (by decide) (by decide)
                have b7 : iv 1 20 (q_told 1) := iv_ltR (Int32.not_le.mp c5) h97_2 (hq_told 1 : iv 0 20 (q_told 1)) (by decide) (by decide)
                refine lv_aload_n hx hb dX11_tellPlaces_106 rfl (lv_at hl 0 rfl) ?_
                refine lv_iload hx hb dX11_tellPlaces_107 (lv_at hl 4 rfl) ?_
                refine lv_iload_n hx hb dX11_tellPlaces_109 rfl (lv_at hl 2 rfl) ?_
                refine lv_aload_n hx hb dX11_tellPlaces_110 rfl (lv_at hl 0 rfl) ?_
                refine va_get (D := (dC, dI)) (ci := 11) (v := .ref (ra 10)) (C := RX11) (T := TX11) (N := 61) hx hb hts hin11 hown hK hP 5 rfl rfl 11 (Nat.le_of_ble_eq_true rfl) hw_0 (fun _ h9 => h9) rfl dX11_tellPlaces_111 ?_
                refine lv_iload_n hx hb dX11_tellPlaces_114 rfl (lv_at hl 1 rfl) ?_
                refine va_iald hx hb hK hP 2 1 rfl rfl (iv_in hp0 (by decide) (by decide)) dX11_tellPlaces_115 ?_
                refine iv_top (a := 0) (b := 11) (hq_goal _) (fun z8 b9 => ?_)
                obtain ⟨hPc, hDc, hFc, hJn⟩ := cl_a (wc := [(m0, .inr (11, oX11 ra x0)), (ra 8, .inl (kI, 40, .inl q_from)), (ra 9, .inl (kI, 40, .inl q_to)), (ra 14, .inl (kI, 12, .inl q_reach))]) (wr := [(ra 10, .inl (kI, 6, .inl q_goal)), (ra 17, .inl (kZ, 168, .inl g97_6)), (ra 2, .inl (kI, 8, .inl q_told))]) hP hD hS hA [5, 0, 1, 3] [2, 4, 6] rfl rfl (by decide +kernel)
                refine va_calli (va_runV (As := [.int v97_loc4, .int v61_loc2, .int z8]) (rest := []) ⟨hx, hb, hml, hown, hts⟩ (s11_isBranch l dC dI kB kI kJ kZ kC kS H.size m0 ra x0 q_from q_to q_reach v97_loc4 v61_loc2 z8 (hX) (hq_from) (hq_to) ((iv_w b6 (by decide) (by decide))) (b9)) (cwV 3 hts gX11_tellPlaces_X11_isBranch rfl rfl rfl (by decide +kernel) ⟨Nat.le_of_ble_eq_true rfl, Nat.le_of_ble_eq_true rfl⟩) ⟨fun a U g mk q => by obtain ⟨q0, q1, qP, qE, qD⟩ := q; exact ⟨q0, q1, qP, kE_call qE, qD⟩, va_recv hK hP (ci := 11) (q0 := 5) rfl rfl, fun U hU hW => ⟨rfl, by rw [hU], by rw [hU]; exact hPc, kE_warm hW hE, hDc.weaken (fun _ _ _ _ => trivial)⟩⟩ rfl rfl hl.1 rfl (lv_room (Nat.le_of_ble_eq_true rfl)) dX11_tellPlaces_116 ⟨Nat.le_of_ble_eq_true rfl, Nat.le_of_ble_eq_true rfl⟩) hS (fun q _ h => hFc q h) hFc (fun r10 u t H locs ht hvm w11 hB hz1 hk1 hS => ?_)
                obtain ⟨hP1, hD1⟩ := hB
                try dsimp only at w11
                obtain ⟨hPa, hDa⟩ := hJn (w1 := [(m0, .inr (11, oX11 ra x0)), (ra 8, .inl (kI, 40, .inl q_from)), (ra 9, .inl (kI, 40, .inl q_to)), (ra 14, .inl (kI, 12, .inl q_reach))]) hk1 ht hP1 hD1
                clear hP hD hPc hDc hFc hJn hP1 hD1 hk1
                have hP : va_P (dC, dI) vwCl [(ra 10, .inl (kI, 6, .inl q_goal)), (ra 17, .inl (kZ, 168, .inl g97_6)), (ra 2, .inl (kI, 8, .inl q_told)), (m0, .inr (11, oX11 ra x0)), (ra 8, .inl (kI, 40, .inl q_from)), (ra 9, .inl (kI, 40, .inl q_to)), (ra 14, .inl (kI, 12, .inl q_reach))] H := hPa
                have hD : va_D A [(ra 10, .inl (kI, 6, .inl q_goal)), (ra 17, .inl (kZ, 168, .inl g97_6)), (ra 2, .inl (kI, 8, .inl q_told)), (m0, .inr (11, oX11 ra x0)), (ra 8, .inl (kI, 40, .inl q_from)), (ra 9, .inl (kI, 40, .inl q_to)), (ra 14, .inl (kI, 12, .inl q_reach))] := hDa
                clear hPa hDa
                refine W.widen (k := 0) (n := 0) (Nat.le_of_ble_eq_true rfl) (Nat.le_of_ble_eq_true rfl) ?_
                refine lv_if_eq (tgt := 152) hx hb dX11_tellPlaces_119 rfl (fun c12 => ?_) (fun c12 => ?_)
                · have b13 : iv 0 0 r10 := iv_eqL c12 ivk_0
                  have hPD9 := cl_s (wc := [(m0, .inr (11, oX11 ra x0)), (ra 2, .inl (kI, 8, .inl q_told)), (ra 8, .inl (kI, 40, .inl q_from)), (ra 9, .inl (kI, 40, .inl q_to)), (ra 10, .inl (kI, 6, .inl q_goal)), (ra 14, .inl (kI, 12, .inl q_reach)), (ra 17, .inl (kZ, 168, .inl g97_6))]) hP hD [3, 2, 4, 5, 0, 6, 1] rfl (by decide +kernel)
                  exact hJ152 g97_6 _ _ _ (b6) (b7) ((show x0 1 = x0 1 from rfl)) ((show x0 10 = x0 10 from rfl)) ((show x0 11 = x0 11 from rfl)) ((show x0 14 = x0 14 from rfl)) (hPD9.1) (hPD9.2) hS (lv_sub hl [0, 1, 2, 3, 4] rfl)
                · have b14 : iv 1 1 r10 := iv_neLo c12 w11.1 ivk_0 (by decide) (by decide)
                  have hr15 : q_from v97_loc4.toNatClampNeg = v61_loc2 := (w11.2).resolve_left (iv_ne b14 ivk_0 (by decide))
                  refine lv_iload_n hx hb dX11_tellPlaces_122 rfl (lv_at hl 2 rfl) ?_
                  refine lv_aload_n hx hb dX11_tellPlaces_123 rfl (lv_at hl 0 rfl) ?_
                  refine va_get (D := (dC, dI)) (ci := 11) (v := .ref (ra 10)) (C := RX11) (T := TX11) (N := 61) hx hb hts hin11 hown hK hP 3 rfl rfl 11 (Nat.le_of_ble_eq_true rfl) hw_0 (fun _ h9 => h9) rfl dX11_tellPlaces_124 ?_
                  refine lv_iload_n hx hb dX11_tellPlaces_127 rfl (lv_at hl 1 rfl) ?_
                  refine va_iald hx hb hK hP 0 1 rfl rfl (iv_in hp0 (by decide) (by decide)) dX11_tellPlaces_128 ?_
                  refine iv_top (a := 0) (b := 11) (hq_goal _) (fun z16 b17 => ?_)
                  refine lv_icmp_eq (tgt := 152) hx hb dX11_tellPlaces_129 rfl (fun c18 => ?_) (fun c18 => ?_)
                  · have hPD9 := cl_s (wc := [(m0, .inr (11, oX11 ra x0)), (ra 2, .inl (kI, 8, .inl q_told)), (ra 8, .inl (kI, 40, .inl q_from)), (ra 9, .inl (kI, 40, .inl q_to)), (ra 10, .inl (kI, 6, .inl q_goal)), (ra 14, .inl (kI, 12, .inl q_reach)), (ra 17, .inl (kZ, 168, .inl g97_6))]) hP hD [3, 2, 4, 5, 0, 6, 1] rfl (by decide +kernel)
                    exact hJ152 g97_6 _ _ _ (b6) (b7) ((show x0 1 = x0 1 from rfl)) ((show x0 10 = x0 10 from rfl)) ((show x0 11 = x0 11 from rfl)) ((show x0 14 = x0 14 from rfl)) (hPD9.1) (hPD9.2) hS (lv_sub hl [0, 1, 2, 3, 4] rfl)
                  · refine lv_aload_n hx hb dX11_tellPlaces_132 rfl (lv_at hl 0 rfl) ?_
                    refine va_get (D := (dC, dI)) (ci := 11) (v := .ref (ra 17)) (C := RX11) (T := TX11) (N := 61) hx hb hts hin11 hown hK hP 3 rfl rfl 35 (Nat.le_of_ble_eq_true rfl) hw_1 (fun _ h9 => h9) rfl dX11_tellPlaces_133 ?_
                    refine lv_bipush (v := 14) hx hb dX11_tellPlaces_136 bp_14 ?_
                    refine lv_aload_n hx hb dX11_tellPlaces_138 rfl (lv_at hl 0 rfl) ?_
                    refine va_get (D := (dC, dI)) (ci := 11) (v := .ref (ra 9)) (C := RX11) (T := TX11) (N := 61) hx hb hts hin11 hown hK hP 3 rfl rfl 10 (Nat.le_of_ble_eq_true rfl) hw_2 (fun _ h9 => h9) rfl dX11_tellPlaces_139 ?_
                    refine lv_iload hx hb dX11_tellPlaces_142 (lv_at hl 4 rfl) ?_
                    refine va_iald hx hb hK hP 5 1 rfl rfl (iv_in b6 (by decide) (by decide)) dX11_tellPlaces_144 ?_
                    refine iv_top (a := 0) (b := 11) (hq_to _) (fun z19 b20 => ?_)
                    refine lv_imul hx hb dX11_tellPlaces_145 ?_
                    refine iv_top (a := 0) (b := 154) (iv_mul ivk_14 b20 (by decide) (by decide) (by decide) (by decide) (by decide)) (fun z21 b22 => ?_)
                    refine lv_iload_n hx hb dX11_tellPlaces_146 rfl (lv_at hl 3 rfl) ?_
                    refine lv_iadd hx hb dX11_tellPlaces_147 ?_
                    refine iv_top (a := 1) (b := 166) (iv_add b22 h97_1 (by decide) (by decide) (by decide) (by decide)) (fun z23 b24 => ?_)
                    refine lv_iconst (v := 1) hx hb dX11_tellPlaces_148 ic_1 ?_
                    refine lv_iadd hx hb dX11_tellPlaces_149 ?_
                    refine iv_top (a := 2) (b := 167) (iv_add b24 ivk_1 (by decide) (by decide) (by decide) (by decide)) (fun z25 b26 => ?_)
                    refine lv_iconst (v := 1) hx hb dX11_tellPlaces_150 ic_1 ?_
                    refine va_zast hx hb hK hP hD hS 1 3 rfl rfl (iv_in b26 (by decide) (by decide)) dX11_tellPlaces_151 (fun H locs hPa hDa hS => ?_)
                    clear hP hD
                    have hP : va_P (dC, dI) vwCl [(ra 10, .inl (kI, 6, .inl q_goal)), (ra 17, .inl (kZ, 168, .inl (upd g97_6 z25.toNatClampNeg (vp_nar .boolean 1)))), (ra 2, .inl (kI, 8, .inl q_told)), (m0, .inr (11, oX11 ra x0)), (ra 8, .inl (kI, 40, .inl q_from)), (ra 9, .inl (kI, 40, .inl q_to)), (ra 14, .inl (kI, 12, .inl q_reach))] H := hPa
                    have hD : va_D A [(ra 10, .inl (kI, 6, .inl q_goal)), (ra 17, .inl (kZ, 168, .inl (upd g97_6 z25.toNatClampNeg (vp_nar .boolean 1)))), (ra 2, .inl (kI, 8, .inl q_told)), (m0, .inr (11, oX11 ra x0)), (ra 8, .inl (kI, 40, .inl q_from)), (ra 9, .inl (kI, 40, .inl q_to)), (ra 14, .inl (kI, 12, .inl q_reach))] := hDa
                    clear hPa hDa
                    generalize (upd g97_6 z25.toNatClampNeg (vp_nar .boolean 1)) = f27 at hP hD
                    have hPD9 := cl_s (wc := [(m0, .inr (11, oX11 ra x0)), (ra 2, .inl (kI, 8, .inl q_told)), (ra 8, .inl (kI, 40, .inl q_from)), (ra 9, .inl (kI, 40, .inl q_to)), (ra 10, .inl (kI, 6, .inl q_goal)), (ra 14, .inl (kI, 12, .inl q_reach)), (ra 17, .inl (kZ, 168, .inl f27))]) hP hD [3, 2, 4, 5, 0, 6, 1] rfl (by decide +kernel)
                    exact hJ152 f27 _ _ _ (b6) (b7) ((show x0 1 = x0 1 from rfl)) ((show x0 10 = x0 10 from rfl)) ((show x0 11 = x0 11 from rfl)) ((show x0 14 = x0 14 from rfl)) (hPD9.1) (hPD9.2) hS (lv_sub hl [0, 1, 2, 3, 4] rfl)
          refine lv_iload_n hx hb dX11_tellPlaces_71 rfl (lv_at hl 3 rfl) ?_
          refine lv_bipush (v := 12) hx hb dX11_tellPlaces_72 bp_12 ?_
          refine lv_icmp_gt (tgt := 164) hx hb dX11_tellPlaces_74 rfl (fun c28 => ?_) (fun c28 => ?_)
          · have b29 : iv 13 13 v71_loc3 := iv_ltR c28 ivk_12 h71_2 (by decide) (by decide)
            refine lv_iinc (v := v61_loc2 + Int32.ofInt 1) (lv' := [(2, .int (v61_loc2 + Int32.ofInt 1)), (0, .ref m0), (1, .int p0), (3, .int v71_loc3)]) hx hb dX11_tellPlaces_164 hl (k := 2) rfl (rfl) (Nat.le_of_ble_eq_true rfl) rfl (fun ls hl => ?_)
            have b30 : iv 1 12 (v61_loc2 + Int32.ofInt 1) := iv_add h71_1 ivo_1 (by decide) (by decide) (by decide) (by decide)
            refine lv_goto (tgt := 61) hx hb dX11_tellPlaces_167 rfl ?_
            exact ih61 g71_6 (v61_loc2 + Int32.ofInt 1) _ _ _ (ms_up (c := 1) (d := 0) h71_1 hm61 (by decide) (iv_inc 1 h71_1 (by decide) (by decide) (by decide) (by decide)) (by decide) rfl) ((iv_w b30 (by decide) (by decide))) ((show x0 1 = x0 1 from rfl)) ((show x0 10 = x0 10 from rfl)) ((show x0 11 = x0 11 from rfl)) ((show x0 14 = x0 14 from rfl)) (hP) (hD) hS (lv_sub hl [1, 2, 0] rfl)
          · have b31 : iv 1 12 v71_loc3 := iv_leL (Int32.not_lt.mp c28) h71_2 ivk_12 (by decide) (by decide)
            refine lv_aload_n hx hb dX11_tellPlaces_77 rfl (lv_at hl 0 rfl) ?_
            refine va_get (D := (dC, dI)) (ci := 11) (v := .ref (ra 17)) (C := RX11) (T := TX11) (N := 61) hx hb hts hin11 hown hK hP 0 rfl rfl 35 (Nat.le_of_ble_eq_true rfl) hw_1 (fun _ h9 => h9) rfl dX11_tellPlaces_78 ?_
            refine lv_bipush (v := 14) hx hb dX11_tellPlaces_81 bp_14 ?_
            refine lv_iload_n hx hb dX11_tellPlaces_83 rfl (lv_at hl 2 rfl) ?_
            refine lv_imul hx hb dX11_tellPlaces_84 ?_
            refine iv_top (a := 0) (b := 154) (iv_mul ivk_14 h71_1 (by decide) (by decide) (by decide) (by decide) (by decide)) (fun z32 b33 => ?_)
            refine lv_iload_n hx hb dX11_tellPlaces_85 rfl (lv_at hl 3 rfl) ?_
            refine lv_iadd hx hb dX11_tellPlaces_86 ?_
            refine iv_top (a := 1) (b := 166) (iv_add b33 b31 (by decide) (by decide) (by decide) (by decide)) (fun z34 b35 => ?_)
            refine va_zald hx hb hK hP 6 3 rfl rfl (iv_in b35 (by decide) (by decide)) dX11_tellPlaces_87 ?_
            refine lv_topi (fun z36 _ => ?_)
            refine lv_if_ne (tgt := 94) hx hb dX11_tellPlaces_88 rfl (fun c37 => ?_) (fun c37 => ?_)
            · refine lv_iconst (v := 0) hx hb dX11_tellPlaces_94 ic_0 ?_
              refine lv_istore (lv' := [(4, .int 0), (0, .ref m0), (1, .int p0), (2, .int v61_loc2), (3, .int v71_loc3)]) hx hb dX11_tellPlaces_95 hl (Nat.le_of_ble_eq_true rfl) rfl (fun ls hl => ?_)
              exact hJ97 _ g71_6 0 _ _ _ (Nat.lt_succ_self _) (b31) ((iv_w ivk_0 (by decide) (by decide))) ((show x0 1 = x0 1 from rfl)) ((show x0 10 = x0 10 from rfl)) ((show x0 11 = x0 11 from rfl)) ((show x0 14 = x0 14 from rfl)) (hP) (hD) hS (lv_sub hl [1, 2, 3, 4, 0] rfl)
            · have b38 : iv 0 0 z36 := iv_eqL c37 ivk_0
              refine lv_goto (tgt := 158) hx hb dX11_tellPlaces_91 rfl ?_
              exact hJ158 g71_6 _ _ _ (b31) ((show x0 1 = x0 1 from rfl)) ((show x0 10 = x0 10 from rfl)) ((show x0 11 = x0 11 from rfl)) ((show x0 14 = x0 14 from rfl)) (hP) (hD) hS (lv_sub hl [0, 1, 2, 3] rfl)
      refine lv_iload_n hx hb dX11_tellPlaces_61 rfl (lv_at hl 2 rfl) ?_
      refine lv_aload_n hx hb dX11_tellPlaces_62 rfl (lv_at hl 0 rfl) ?_
      obtain ⟨hPc, hDc, hFc, hJn⟩ := cl_a (wc := [(m0, .inr (11, oX11 ra x0)), (ra 2, .inl (kI, 8, .inl q_told))]) (wr := [(ra 8, .inl (kI, 40, .inl q_from)), (ra 9, .inl (kI, 40, .inl q_to)), (ra 10, .inl (kI, 6, .inl q_goal)), (ra 14, .inl (kI, 12, .inl q_reach)), (ra 17, .inl (kZ, 168, .inl g61_6))]) hP hD hS hA [0, 1] [2, 3, 4, 5, 6] rfl rfl (by decide +kernel)
      refine va_calli (va_runV (As := []) (rest := [.int v61_loc2]) ⟨hx, hb, hml, hown, hts⟩ (s11_routers l dC dI kB kI kJ kZ kC kS H.size m0 ra x0 q_told (hX) (hq_told)) (cwV 0 hts gX11_tellPlaces_X11_routers rfl rfl rfl (by decide +kernel) ⟨Nat.le_of_ble_eq_true rfl, Nat.le_of_ble_eq_true rfl⟩) ⟨fun a U g mk q => by obtain ⟨q0, q1, qP, qE, qD⟩ := q; exact ⟨q0, q1, qP, kE_call qE, qD⟩, va_recv hK hP (ci := 11) (q0 := 0) rfl rfl, fun U hU hW => ⟨rfl, by rw [hU], by rw [hU]; exact hPc, kE_warm hW hE, hDc.weaken (fun _ _ _ _ => trivial)⟩⟩ rfl rfl hl.1 rfl (lv_room (Nat.le_of_ble_eq_true rfl)) dX11_tellPlaces_63 ⟨Nat.le_of_ble_eq_true rfl, Nat.le_of_ble_eq_true rfl⟩) hS (fun q _ h => hFc q h) hFc (fun r39 u t H locs ht hvm w40 hB hz1 hk1 hS => ?_)
      obtain ⟨hP1, hD1⟩ := hB
      try dsimp only at w40
      obtain ⟨hPa, hDa⟩ := hJn (w1 := [(m0, .inr (11, oX11 ra x0)), (ra 2, .inl (kI, 8, .inl q_told))]) hk1 ht hP1 hD1
      clear hP hD hPc hDc hFc hJn hP1 hD1 hk1
      have hP : va_P (dC, dI) vwCl [(ra 8, .inl (kI, 40, .inl q_from)), (ra 9, .inl (kI, 40, .inl q_to)), (ra 10, .inl (kI, 6, .inl q_goal)), (ra 14, .inl (kI, 12, .inl q_reach)), (ra 17, .inl (kZ, 168, .inl g61_6)), (m0, .inr (11, oX11 ra x0)), (ra 2, .inl (kI, 8, .inl q_told))] H := hPa
      have hD : va_D A [(ra 8, .inl (kI, 40, .inl q_from)), (ra 9, .inl (kI, 40, .inl q_to)), (ra 10, .inl (kI, 6, .inl q_goal)), (ra 14, .inl (kI, 12, .inl q_reach)), (ra 17, .inl (kZ, 168, .inl g61_6)), (m0, .inr (11, oX11 ra x0)), (ra 2, .inl (kI, 8, .inl q_told))] := hDa
      clear hPa hDa
      refine W.widen (k := 0) (n := 0) (Nat.le_of_ble_eq_true rfl) (Nat.le_of_ble_eq_true rfl) ?_
      subst w40
      refine lv_icmp_ge (tgt := 170) hx hb dX11_tellPlaces_66 rfl (fun c41 => ?_) (fun c41 => ?_)
      · have hPD9 := cl_s (wc := [(m0, .inr (11, oX11 ra x0)), (ra 2, .inl (kI, 8, .inl q_told)), (ra 8, .inl (kI, 40, .inl q_from)), (ra 9, .inl (kI, 40, .inl q_to)), (ra 10, .inl (kI, 6, .inl q_goal)), (ra 14, .inl (kI, 12, .inl q_reach)), (ra 17, .inl (kZ, 168, .inl g61_6))]) hP hD [5, 6, 0, 1, 2, 3, 4] rfl (by decide +kernel)
        have hP9 := hPD9.1
        have hD9 := hPD9.2
        exact W.vret hx hb hr (fun t ht hW => ⟨⟨(), rfl, trivial, g61_6, by rw [ht]; exact hP9, hD9⟩, hS.F ht⟩) hS.2.2 dX11_tellPlaces_170
      · have b42 : iv 0 11 v61_loc2 := iv_ltL (Int32.not_le.mp c41) h61_1 (hq_told 0 : iv 0 12 (q_told 0)) (by decide) (by decide)
        have b43 : iv 1 12 (q_told 0) := iv_ltR (Int32.not_le.mp c41) h61_1 (hq_told 0 : iv 0 12 (q_told 0)) (by decide) (by decide)
        refine lv_iconst (v := 1) hx hb dX11_tellPlaces_69 ic_1 ?_
        refine lv_istore_n (lv' := [(3, .int 1), (0, .ref m0), (1, .int p0), (2, .int v61_loc2)]) hx hb dX11_tellPlaces_70 rfl hl (Nat.le_of_ble_eq_true rfl) rfl (fun ls hl => ?_)
        have hPD9 := cl_s (wc := [(m0, .inr (11, oX11 ra x0)), (ra 2, .inl (kI, 8, .inl q_told)), (ra 8, .inl (kI, 40, .inl q_from)), (ra 9, .inl (kI, 40, .inl q_to)), (ra 10, .inl (kI, 6, .inl q_goal)), (ra 14, .inl (kI, 12, .inl q_reach)), (ra 17, .inl (kZ, 168, .inl g61_6))]) hP hD [5, 6, 0, 1, 2, 3, 4] rfl (by decide +kernel)
        exact hJ71 _ g61_6 1 _ _ _ (Nat.lt_succ_self _) (b42) ((iv_w ivk_1 (by decide) (by decide))) (b43) ((show x0 1 = x0 1 from rfl)) ((show x0 10 = x0 10 from rfl)) ((show x0 11 = x0 11 from rfl)) ((show x0 14 = x0 14 from rfl)) (hPD9.1) (hPD9.2) hS (lv_sub hl [1, 2, 3, 0] rfl)
  have hJ58 : ∀ (g58_6 : Nat → Int32) (v58_stk0 : Int32) (H : Heap) (locs : List Loc) (ls : Array Slot), iv 0 1 v58_stk0 → (x0 1 = x0 1) → (x0 10 = x0 10) → (x0 11 = x0 11) → (x0 14 = x0 14) → va_P (dC, dI) vwCl [(m0, .inr (11, oX11 ra x0)), (ra 2, .inl (kI, 8, .inl q_told)), (ra 8, .inl (kI, 40, .inl q_from)), (ra 9, .inl (kI, 40, .inl q_to)), (ra 10, .inl (kI, 6, .inl q_goal)), (ra 14, .inl (kI, 12, .inl q_reach)), (ra 17, .inl (kZ, 168, .inl g58_6))] H → va_D A [(m0, .inr (11, oX11 ra x0)), (ra 2, .inl (kI, 8, .inl q_told)), (ra 8, .inl (kI, 40, .inl q_from)), (ra 9, .inl (kI, 40, .inl q_to)), (ra 10, .inl (kI, 6, .inl q_goal)), (ra 14, .inl (kI, 12, .inl q_reach)), (ra 17, .inl (kZ, 168, .inl g58_6))] → va_S A s.heap H locs → lv_has ls 5 [(0, .ref m0), (1, .int p0), (2, .int 168)] → W p l e (headSpec wsX11_tellPlaces rm_s11_tellPlaces).room s m args0 below meth c H locs (0) (0) (MQ below (va_Qv (fun (_ : Unit) => True) (fun _ t => ∃ (q_isAt' : Nat → Int32), va_P (dC, dI) vwCl [(m0, .inr (11, oX11 ra x0)), (ra 2, .inl (kI, 8, .inl q_told)), (ra 8, .inl (kI, 40, .inl q_from)), (ra 9, .inl (kI, 40, .inl q_to)), (ra 10, .inl (kI, 6, .inl q_goal)), (ra 14, .inl (kI, 12, .inl q_reach)), (ra 17, .inl (kZ, 168, .inl q_isAt'))] t.heap ∧ va_D A [(m0, .inr (11, oX11 ra x0)), (ra 2, .inl (kI, 8, .inl q_told)), (ra 8, .inl (kI, 40, .inl q_from)), (ra 9, .inl (kI, 40, .inl q_to)), (ra 10, .inl (kI, 6, .inl q_goal)), (ra 14, .inl (kI, 12, .inl q_reach)), (ra 17, .inl (kZ, 168, .inl q_isAt'))]) A) args0 s 0 0 A) (F0 m 58 ls [.int v58_stk0, .int 1, .ref (ra 17)]) := by
    intro g58_6 v58_stk0 H locs ls h58_1 htp_58 hfp_58 hor_58 hirl_58 hP hD hS hl
    refine va_zast hx hb hK hP hD hS 6 3 rfl rfl (vp_in_nI (n := 1) (by decide) (by decide)) dX11_tellPlaces_58 (fun H locs hPa hDa hS => ?_)
    clear hP hD
    have hP : va_P (dC, dI) vwCl [(m0, .inr (11, oX11 ra x0)), (ra 2, .inl (kI, 8, .inl q_told)), (ra 8, .inl (kI, 40, .inl q_from)), (ra 9, .inl (kI, 40, .inl q_to)), (ra 10, .inl (kI, 6, .inl q_goal)), (ra 14, .inl (kI, 12, .inl q_reach)), (ra 17, .inl (kZ, 168, .inl (upd g58_6 1 (vp_nar .boolean v58_stk0))))] H := hPa
    have hD : va_D A [(m0, .inr (11, oX11 ra x0)), (ra 2, .inl (kI, 8, .inl q_told)), (ra 8, .inl (kI, 40, .inl q_from)), (ra 9, .inl (kI, 40, .inl q_to)), (ra 10, .inl (kI, 6, .inl q_goal)), (ra 14, .inl (kI, 12, .inl q_reach)), (ra 17, .inl (kZ, 168, .inl (upd g58_6 1 (vp_nar .boolean v58_stk0))))] := hDa
    clear hPa hDa
    generalize (upd g58_6 1 (vp_nar .boolean v58_stk0)) = f44 at hP hD
    refine lv_iconst (v := 0) hx hb dX11_tellPlaces_59 ic_0 ?_
    refine lv_istore_n (lv' := [(2, .int 0), (0, .ref m0), (1, .int p0)]) hx hb dX11_tellPlaces_60 rfl hl (Nat.le_of_ble_eq_true rfl) rfl (fun ls hl => ?_)
    exact hJ61 _ f44 0 _ _ _ (Nat.lt_succ_self _) ((iv_w ivk_0 (by decide) (by decide))) ((show x0 1 = x0 1 from rfl)) ((show x0 10 = x0 10 from rfl)) ((show x0 11 = x0 11 from rfl)) ((show x0 14 = x0 14 from rfl)) (hP) (hD) hS (lv_sub hl [1, 2, 0] rfl)
  have hJ57 : ∀ (g57_6 : Nat → Int32) (H : Heap) (locs : List Loc) (ls : Array Slot), (x0 1 = x0 1) → (x0 10 = x0 10) → (x0 11 = x0 11) → (x0 14 = x0 14) → va_P (dC, dI) vwCl [(m0, .inr (11, oX11 ra x0)), (ra 2, .inl (kI, 8, .inl q_told)), (ra 8, .inl (kI, 40, .inl q_from)), (ra 9, .inl (kI, 40, .inl q_to)), (ra 10, .inl (kI, 6, .inl q_goal)), (ra 14, .inl (kI, 12, .inl q_reach)), (ra 17, .inl (kZ, 168, .inl g57_6))] H → va_D A [(m0, .inr (11, oX11 ra x0)), (ra 2, .inl (kI, 8, .inl q_told)), (ra 8, .inl (kI, 40, .inl q_from)), (ra 9, .inl (kI, 40, .inl q_to)), (ra 10, .inl (kI, 6, .inl q_goal)), (ra 14, .inl (kI, 12, .inl q_reach)), (ra 17, .inl (kZ, 168, .inl g57_6))] → va_S A s.heap H locs → lv_has ls 5 [(0, .ref m0), (1, .int p0), (2, .int 168)] → W p l e (headSpec wsX11_tellPlaces rm_s11_tellPlaces).room s m args0 below meth c H locs (0) (0) (MQ below (va_Qv (fun (_ : Unit) => True) (fun _ t => ∃ (q_isAt' : Nat → Int32), va_P (dC, dI) vwCl [(m0, .inr (11, oX11 ra x0)), (ra 2, .inl (kI, 8, .inl q_told)), (ra 8, .inl (kI, 40, .inl q_from)), (ra 9, .inl (kI, 40, .inl q_to)), (ra 10, .inl (kI, 6, .inl q_goal)), (ra 14, .inl (kI, 12, .inl q_reach)), (ra 17, .inl (kZ, 168, .inl q_isAt'))] t.heap ∧ va_D A [(m0, .inr (11, oX11 ra x0)), (ra 2, .inl (kI, 8, .inl q_told)), (ra 8, .inl (kI, 40, .inl q_from)), (ra 9, .inl (kI, 40, .inl q_to)), (ra 10, .inl (kI, 6, .inl q_goal)), (ra 14, .inl (kI, 12, .inl q_reach)), (ra 17, .inl (kZ, 168, .inl q_isAt'))]) A) args0 s 0 0 A) (F0 m 57 ls [.int 1, .ref (ra 17)]) := by
    intro g57_6 H locs ls htp_57 hfp_57 hor_57 hirl_57 hP hD hS hl
    refine lv_iconst (v := 0) hx hb dX11_tellPlaces_57 ic_0 ?_
    exact hJ58 g57_6 0 _ _ _ ((iv_w ivk_0 (by decide) (by decide))) ((show x0 1 = x0 1 from rfl)) ((show x0 10 = x0 10 from rfl)) ((show x0 11 = x0 11 from rfl)) ((show x0 14 = x0 14 from rfl)) (hP) (hD) hS (lv_sub hl [0, 1, 2] rfl)
  have hJ2 : ∀ (n : Nat) (g2_6 : Nat → Int32) (v2_loc2 : Int32) (H : Heap) (locs : List Loc) (ls : Array Slot), (168 - v2_loc2.toInt).toNat < n → iv 0 168 v2_loc2 → (x0 1 = x0 1) → (x0 10 = x0 10) → (x0 11 = x0 11) → (x0 14 = x0 14) → va_P (dC, dI) vwCl [(m0, .inr (11, oX11 ra x0)), (ra 2, .inl (kI, 8, .inl q_told)), (ra 8, .inl (kI, 40, .inl q_from)), (ra 9, .inl (kI, 40, .inl q_to)), (ra 10, .inl (kI, 6, .inl q_goal)), (ra 14, .inl (kI, 12, .inl q_reach)), (ra 17, .inl (kZ, 168, .inl g2_6))] H → va_D A [(m0, .inr (11, oX11 ra x0)), (ra 2, .inl (kI, 8, .inl q_told)), (ra 8, .inl (kI, 40, .inl q_from)), (ra 9, .inl (kI, 40, .inl q_to)), (ra 10, .inl (kI, 6, .inl q_goal)), (ra 14, .inl (kI, 12, .inl q_reach)), (ra 17, .inl (kZ, 168, .inl g2_6))] → va_S A s.heap H locs → lv_has ls 5 [(0, .ref m0), (1, .int p0), (2, .int v2_loc2)] → W p l e (headSpec wsX11_tellPlaces rm_s11_tellPlaces).room s m args0 below meth c H locs (0) (0) (MQ below (va_Qv (fun (_ : Unit) => True) (fun _ t => ∃ (q_isAt' : Nat → Int32), va_P (dC, dI) vwCl [(m0, .inr (11, oX11 ra x0)), (ra 2, .inl (kI, 8, .inl q_told)), (ra 8, .inl (kI, 40, .inl q_from)), (ra 9, .inl (kI, 40, .inl q_to)), (ra 10, .inl (kI, 6, .inl q_goal)), (ra 14, .inl (kI, 12, .inl q_reach)), (ra 17, .inl (kZ, 168, .inl q_isAt'))] t.heap ∧ va_D A [(m0, .inr (11, oX11 ra x0)), (ra 2, .inl (kI, 8, .inl q_told)), (ra 8, .inl (kI, 40, .inl q_from)), (ra 9, .inl (kI, 40, .inl q_to)), (ra 10, .inl (kI, 6, .inl q_goal)), (ra 14, .inl (kI, 12, .inl q_reach)), (ra 17, .inl (kZ, 168, .inl q_isAt'))]) A) args0 s 0 0 A) (F0 m 2 ls []) := by
    intro n
    induction n with
    | zero => intro g2_6 v2_loc2 H locs ls hm2; exact absurd hm2 (Nat.not_lt_zero _)
    | succ n ih2 =>
      intro g2_6 v2_loc2 H locs ls hm2 h2_1 htp_2 hfp_2 hor_2 hirl_2 hP hD hS hl
      refine lv_iload_n hx hb dX11_tellPlaces_2 rfl (lv_at hl 2 rfl) ?_
      refine lv_aload_n hx hb dX11_tellPlaces_3 rfl (lv_at hl 0 rfl) ?_
      refine va_get (D := (dC, dI)) (ci := 11) (v := .ref (ra 17)) (C := RX11) (T := TX11) (N := 61) hx hb hts hin11 hown hK hP 0 rfl rfl 35 (Nat.le_of_ble_eq_true rfl) hw_1 (fun _ h9 => h9) rfl dX11_tellPlaces_4 ?_
      refine va_alen (v := 168) hx hb hK hP 6 3 rfl rfl rfl dX11_tellPlaces_7 ?_
      refine lv_icmp_ge (tgt := 24) hx hb dX11_tellPlaces_8 rfl (fun c45 => ?_) (fun c45 => ?_)
      · have b46 : iv 168 168 v2_loc2 := iv_leR c45 ivk_168 h2_1 (by decide) (by decide)
        refine lv_aload_n hx hb dX11_tellPlaces_24 rfl (lv_at hl 0 rfl) ?_
        refine va_get (D := (dC, dI)) (ci := 11) (v := .ref (ra 17)) (C := RX11) (T := TX11) (N := 61) hx hb hts hin11 hown hK hP 0 rfl rfl 35 (Nat.le_of_ble_eq_true rfl) hw_1 (fun _ h9 => h9) rfl dX11_tellPlaces_25 ?_
        refine lv_iconst (v := 1) hx hb dX11_tellPlaces_28 ic_1 ?_
        refine lv_aload_n hx hb dX11_tellPlaces_29 rfl (lv_at hl 0 rfl) ?_
        obtain ⟨hPc, hDc, hFc, hJn⟩ := cl_a (wc := [(m0, .inr (11, oX11 ra x0)), (ra 2, .inl (kI, 8, .inl q_told))]) (wr := [(ra 8, .inl (kI, 40, .inl q_from)), (ra 9, .inl (kI, 40, .inl q_to)), (ra 10, .inl (kI, 6, .inl q_goal)), (ra 14, .inl (kI, 12, .inl q_reach)), (ra 17, .inl (kZ, 168, .inl g2_6))]) hP hD hS hA [0, 1] [2, 3, 4, 5, 6] rfl rfl (by decide +kernel)
        refine va_calli (va_runV (As := []) (rest := [.int 1, .ref (ra 17)]) ⟨hx, hb, hml, hown, hts⟩ (s11_routers l dC dI kB kI kJ kZ kC kS H.size m0 ra x0 q_told (hX) (hq_told)) (cwV 0 hts gX11_tellPlaces_X11_routers rfl rfl rfl (by decide +kernel) ⟨Nat.le_of_ble_eq_true rfl, Nat.le_of_ble_eq_true rfl⟩) ⟨fun a U g mk q => by obtain ⟨q0, q1, qP, qE, qD⟩ := q; exact ⟨q0, q1, qP, kE_call qE, qD⟩, va_recv hK hP (ci := 11) (q0 := 0) rfl rfl, fun U hU hW => ⟨rfl, by rw [hU], by rw [hU]; exact hPc, kE_warm hW hE, hDc.weaken (fun _ _ _ _ => trivial)⟩⟩ rfl rfl hl.1 rfl (lv_room (Nat.le_of_ble_eq_true rfl)) dX11_tellPlaces_30 ⟨Nat.le_of_ble_eq_true rfl, Nat.le_of_ble_eq_true rfl⟩) hS (fun q _ h => hFc q h) hFc (fun r47 u t H locs ht hvm w48 hB hz1 hk1 hS => ?_)
        obtain ⟨hP1, hD1⟩ := hB
        try dsimp only at w48
        obtain ⟨hPa, hDa⟩ := hJn (w1 := [(m0, .inr (11, oX11 ra x0)), (ra 2, .inl (kI, 8, .inl q_told))]) hk1 ht hP1 hD1
        clear hP hD hPc hDc hFc hJn hP1 hD1 hk1
        have hP : va_P (dC, dI) vwCl [(ra 8, .inl (kI, 40, .inl q_from)), (ra 9, .inl (kI, 40, .inl q_to)), (ra 10, .inl (kI, 6, .inl q_goal)), (ra 14, .inl (kI, 12, .inl q_reach)), (ra 17, .inl (kZ, 168, .inl g2_6)), (m0, .inr (11, oX11 ra x0)), (ra 2, .inl (kI, 8, .inl q_told))] H := hPa
        have hD : va_D A [(ra 8, .inl (kI, 40, .inl q_from)), (ra 9, .inl (kI, 40, .inl q_to)), (ra 10, .inl (kI, 6, .inl q_goal)), (ra 14, .inl (kI, 12, .inl q_reach)), (ra 17, .inl (kZ, 168, .inl g2_6)), (m0, .inr (11, oX11 ra x0)), (ra 2, .inl (kI, 8, .inl q_told))] := hDa
        clear hPa hDa
        refine W.widen (k := 0) (n := 0) (Nat.le_of_ble_eq_true rfl) (Nat.le_of_ble_eq_true rfl) ?_
        subst w48
        refine lv_if_le (tgt := 57) hx hb dX11_tellPlaces_33 rfl (fun c49 => ?_) (fun c49 => ?_)
        · have b50 : iv 0 0 (q_told 0) := iv_leL c49 (hq_told 0 : iv 0 12 (q_told 0)) ivk_0 (by decide) (by decide)
          rw [show v2_loc2 = (168 : Int32) from iv_one (b46) (by decide)] at hl
          have hPD9 := cl_s (wc := [(m0, .inr (11, oX11 ra x0)), (ra 2, .inl (kI, 8, .inl q_told)), (ra 8, .inl (kI, 40, .inl q_from)), (ra 9, .inl (kI, 40, .inl q_to)), (ra 10, .inl (kI, 6, .inl q_goal)), (ra 14, .inl (kI, 12, .inl q_reach)), (ra 17, .inl (kZ, 168, .inl g2_6))]) hP hD [5, 6, 0, 1, 2, 3, 4] rfl (by decide +kernel)
          exact hJ57 g2_6 _ _ _ ((show x0 1 = x0 1 from rfl)) ((show x0 10 = x0 10 from rfl)) ((show x0 11 = x0 11 from rfl)) ((show x0 14 = x0 14 from rfl)) (hPD9.1) (hPD9.2) hS (lv_sub hl [0, 1, 2] rfl)
        · have b51 : iv 1 12 (q_told 0) := iv_ltR (Int32.not_le.mp c49) ivk_0 (hq_told 0 : iv 0 12 (q_told 0)) (by decide) (by decide)
          refine lv_aload_n hx hb dX11_tellPlaces_36 rfl (lv_at hl 0 rfl) ?_
          refine va_get (D := (dC, dI)) (ci := 11) (v := .ref (ra 14)) (C := RX11) (T := TX11) (N := 61) hx hb hts hin11 hown hK hP 5 rfl rfl 25 (Nat.le_of_ble_eq_true rfl) hw_3 (fun _ h9 => h9) rfl dX11_tellPlaces_37 ?_
          refine lv_aload_n hx hb dX11_tellPlaces_40 rfl (lv_at hl 0 rfl) ?_
          refine va_get (D := (dC, dI)) (ci := 11) (v := .ref (ra 10)) (C := RX11) (T := TX11) (N := 61) hx hb hts hin11 hown hK hP 5 rfl rfl 11 (Nat.le_of_ble_eq_true rfl) hw_0 (fun _ h9 => h9) rfl dX11_tellPlaces_41 ?_
          refine lv_iload_n hx hb dX11_tellPlaces_44 rfl (lv_at hl 1 rfl) ?_
          refine va_iald hx hb hK hP 2 1 rfl rfl (iv_in hp0 (by decide) (by decide)) dX11_tellPlaces_45 ?_
          refine iv_top (a := 0) (b := 11) (hq_goal _) (fun z52 b53 => ?_)
          refine va_iald hx hb hK hP 3 1 rfl rfl (iv_in b53 (by decide) (by decide)) dX11_tellPlaces_46 ?_
          refine lv_topi (fun z54 _ => ?_)
          refine lv_iconst (v := 1) hx hb dX11_tellPlaces_47 ic_1 ?_
          refine lv_iand hx hb dX11_tellPlaces_48 ?_
          refine iv_top (a := 0) (b := 1) (iv_and (m := 1) (by decide) (by decide) (by decide)) (fun z55 b56 => ?_)
          refine lv_iconst (v := 1) hx hb dX11_tellPlaces_49 ic_1 ?_
          refine lv_icmp_ne (tgt := 57) hx hb dX11_tellPlaces_50 rfl (fun c57 => ?_) (fun c57 => ?_)
          · have b58 : iv 0 0 z55 := iv_neHi c57 b56 ivk_1 (by decide) (by decide)
            rw [show v2_loc2 = (168 : Int32) from iv_one (b46) (by decide)] at hl
            have hPD9 := cl_s (wc := [(m0, .inr (11, oX11 ra x0)), (ra 2, .inl (kI, 8, .inl q_told)), (ra 8, .inl (kI, 40, .inl q_from)), (ra 9, .inl (kI, 40, .inl q_to)), (ra 10, .inl (kI, 6, .inl q_goal)), (ra 14, .inl (kI, 12, .inl q_reach)), (ra 17, .inl (kZ, 168, .inl g2_6))]) hP hD [5, 6, 0, 1, 2, 3, 4] rfl (by decide +kernel)
            exact hJ57 g2_6 _ _ _ ((show x0 1 = x0 1 from rfl)) ((show x0 10 = x0 10 from rfl)) ((show x0 11 = x0 11 from rfl)) ((show x0 14 = x0 14 from rfl)) (hPD9.1) (hPD9.2) hS (lv_sub hl [0, 1, 2] rfl)
          · have b59 : iv 1 1 z55 := iv_eqL c57 ivk_1
            refine lv_iconst (v := 1) hx hb dX11_tellPlaces_53 ic_1 ?_
            refine lv_goto (tgt := 58) hx hb dX11_tellPlaces_54 rfl ?_
            rw [show v2_loc2 = (168 : Int32) from iv_one (b46) (by decide)] at hl
            have hPD9 := cl_s (wc := [(m0, .inr (11, oX11 ra x0)), (ra 2, .inl (kI, 8, .inl q_told)), (ra 8, .inl (kI, 40, .inl q_from)), (ra 9, .inl (kI, 40, .inl q_to)), (ra 10, .inl (kI, 6, .inl q_goal)), (ra 14, .inl (kI, 12, .inl q_reach)), (ra 17, .inl (kZ, 168, .inl g2_6))]) hP hD [5, 6, 0, 1, 2, 3, 4] rfl (by decide +kernel)
            exact hJ58 g2_6 1 _ _ _ ((iv_w ivk_1 (by decide) (by decide))) ((show x0 1 = x0 1 from rfl)) ((show x0 10 = x0 10 from rfl)) ((show x0 11 = x0 11 from rfl)) ((show x0 14 = x0 14 from rfl)) (hPD9.1) (hPD9.2) hS (lv_sub hl [0, 1, 2] rfl)
      · have b60 : iv 0 167 v2_loc2 := iv_ltL (Int32.not_le.mp c45) h2_1 ivk_168 (by decide) (by decide)
        refine lv_aload_n hx hb dX11_tellPlaces_11 rfl (lv_at hl 0 rfl) ?_
        refine va_get (D := (dC, dI)) (ci := 11) (v := .ref (ra 17)) (C := RX11) (T := TX11) (N := 61) hx hb hts hin11 hown hK hP 0 rfl rfl 35 (Nat.le_of_ble_eq_true rfl) hw_1 (fun _ h9 => h9) rfl dX11_tellPlaces_12 ?_
        refine lv_iload_n hx hb dX11_tellPlaces_15 rfl (lv_at hl 2 rfl) ?_
        refine lv_iconst (v := 0) hx hb dX11_tellPlaces_16 ic_0 ?_
        refine va_zast hx hb hK hP hD hS 6 3 rfl rfl (iv_in b60 (by decide) (by decide)) dX11_tellPlaces_17 (fun H locs hPa hDa hS => ?_)
        clear hP hD
        have hP : va_P (dC, dI) vwCl [(m0, .inr (11, oX11 ra x0)), (ra 2, .inl (kI, 8, .inl q_told)), (ra 8, .inl (kI, 40, .inl q_from)), (ra 9, .inl (kI, 40, .inl q_to)), (ra 10, .inl (kI, 6, .inl q_goal)), (ra 14, .inl (kI, 12, .inl q_reach)), (ra 17, .inl (kZ, 168, .inl (upd g2_6 v2_loc2.toNatClampNeg (vp_nar .boolean 0))))] H := hPa
        have hD : va_D A [(m0, .inr (11, oX11 ra x0)), (ra 2, .inl (kI, 8, .inl q_told)), (ra 8, .inl (kI, 40, .inl q_from)), (ra 9, .inl (kI, 40, .inl q_to)), (ra 10, .inl (kI, 6, .inl q_goal)), (ra 14, .inl (kI, 12, .inl q_reach)), (ra 17, .inl (kZ, 168, .inl (upd g2_6 v2_loc2.toNatClampNeg (vp_nar .boolean 0))))] := hDa
        clear hPa hDa
        generalize (upd g2_6 v2_loc2.toNatClampNeg (vp_nar .boolean 0)) = f61 at hP hD
        refine lv_iinc (v := v2_loc2 + Int32.ofInt 1) (lv' := [(2, .int (v2_loc2 + Int32.ofInt 1)), (0, .ref m0), (1, .int p0)]) hx hb dX11_tellPlaces_18 hl (k := 2) rfl (rfl) (Nat.le_of_ble_eq_true rfl) rfl (fun ls hl => ?_)
        have b62 : iv 1 168 (v2_loc2 + Int32.ofInt 1) := iv_add b60 ivo_1 (by decide) (by decide) (by decide) (by decide)
        refine lv_goto (tgt := 2) hx hb dX11_tellPlaces_21 rfl ?_
        exact ih2 f61 (v2_loc2 + Int32.ofInt 1) _ _ _ (ms_up (c := 1) (d := 0) b60 hm2 (by decide) (iv_inc 1 b60 (by decide) (by decide) (by decide) (by decide)) (by decide) rfl) ((iv_w b62 (by decide) (by decide))) ((show x0 1 = x0 1 from rfl)) ((show x0 10 = x0 10 from rfl)) ((show x0 11 = x0 11 from rfl)) ((show x0 14 = x0 14 from rfl)) (hP) (hD) hS (lv_sub hl [1, 2, 0] rfl)
  refine lv_iconst (v := 0) hx hb dX11_tellPlaces_0 ic_0 ?_
  refine lv_istore_n (lv' := [(2, .int 0), (0, .ref m0), (1, .int p0)]) hx hb dX11_tellPlaces_1 rfl hl (Nat.le_of_ble_eq_true rfl) rfl (fun ls hl => ?_)
  exact hJ2 _ q_isAt 0 _ _ _ (Nat.lt_succ_self _) ((iv_w ivk_0 (by decide) (by decide))) ((show x0 1 = x0 1 from rfl)) ((show x0 10 = x0 10 from rfl)) ((show x0 11 = x0 11 from rfl)) ((show x0 14 = x0 14 from rfl)) (hP) (hD) hS (lv_sub hl [1, 2, 0] rfl)
def rm_s11_places : Room := { frames := 2, cells := 0, slots := 0, locals := 47 }
set_option maxHeartbeats 4000000 in
set_option maxRecDepth 100000 in
theorem s11_places (l : Launch) (dC : Nat → ClassId) (dI : Nat → Nat → Nat) (kB kI kJ kZ kC kS : ClassId) (sz : Nat) (m0 : Nat) (ra : Nat → Nat) (x0 : Nat → Int32) (q_told : Nat → Int32) (q_from : Nat → Int32) (q_to : Nat → Int32) (q_goal : Nat → Int32) (q_reach : Nat → Int32) (q_isAt : Nat → Int32) (p0 : Int32) (p1 : Int32) (hX : fI lX11 hX11 x0) (hq_told : fI lTold hTold q_told) (hq_from : fI (fun _ => 0) (fun _ => 11) q_from) (hq_to : fI (fun _ => 0) (fun _ => 11) q_to) (hq_goal : fI (fun _ => 0) (fun _ => 11) q_goal) (hp0 : iv 0 2 p0) (hp1 : iv 1 10 p1) : Met l yX11_places wsX11_places rm_s11_places (va_Pc [.ref m0, .int p0, .int p1] (fun U => U.heap.size = sz ∧ va_P (dC, dI) vwCl [(m0, .inr (11, oX11 ra x0)), (ra 2, .inl (kI, 8, .inl q_told)), (ra 8, .inl (kI, 40, .inl q_from)), (ra 9, .inl (kI, 40, .inl q_to)), (ra 10, .inl (kI, 6, .inl q_goal)), (ra 14, .inl (kI, 12, .inl q_reach)), (ra 17, .inl (kZ, 168, .inl q_isAt))] U.heap ∧ kE dC dI kB kI kJ kZ kC kS U ∧ va_D (fun _ => True) [(m0, .inr (11, oX11 ra x0)), (ra 2, .inl (kI, 8, .inl q_told)), (ra 8, .inl (kI, 40, .inl q_from)), (ra 9, .inl (kI, 40, .inl q_to)), (ra 10, .inl (kI, 6, .inl q_goal)), (ra 14, .inl (kI, 12, .inl q_reach)), (ra 17, .inl (kZ, 168, .inl q_isAt))])) (va_Qi (fun (r : Int32) (_ : Unit) => True) (fun _ t => ∃ (q_isAt' : Nat → Int32), va_P (dC, dI) vwCl [(m0, .inr (11, oX11 ra x0)), (ra 2, .inl (kI, 8, .inl q_told)), (ra 8, .inl (kI, 40, .inl q_from)), (ra 9, .inl (kI, 40, .inl q_to)), (ra 10, .inl (kI, 6, .inl q_goal)), (ra 14, .inl (kI, 12, .inl q_reach)), (ra 17, .inl (kZ, 168, .inl q_isAt'))] t.heap ∧ va_D (va_A [(m0, .inr (11, oX11 ra x0)), (ra 2, .inl (kI, 8, .inl q_told)), (ra 8, .inl (kI, 40, .inl q_from)), (ra 9, .inl (kI, 40, .inl q_to)), (ra 10, .inl (kI, 6, .inl q_goal)), (ra 14, .inl (kI, 12, .inl q_reach)), (ra 17, .inl (kZ, 168, .inl q_isAt))] sz) [(m0, .inr (11, oX11 ra x0)), (ra 2, .inl (kI, 8, .inl q_told)), (ra 8, .inl (kI, 40, .inl q_from)), (ra 9, .inl (kI, 40, .inl q_to)), (ra 10, .inl (kI, 6, .inl q_goal)), (ra 14, .inl (kI, 12, .inl q_reach)), (ra 17, .inl (kZ, 168, .inl q_isAt'))]) (va_A [(m0, .inr (11, oX11 ra x0)), (ra 2, .inl (kI, 8, .inl q_told)), (ra 8, .inl (kI, 40, .inl q_from)), (ra 9, .inl (kI, 40, .inl q_to)), (ra 10, .inl (kI, 6, .inl q_goal)), (ra 14, .inl (kI, 12, .inl q_reach)), (ra 17, .inl (kZ, 168, .inl q_isAt))] sz)) 0 0 (va_A [(m0, .inr (11, oX11 ra x0)), (ra 2, .inl (kI, 8, .inl q_told)), (ra 8, .inl (kI, 40, .inl q_from)), (ra 9, .inl (kI, 40, .inl q_to)), (ra 10, .inl (kI, 6, .inl q_goal)), (ra 14, .inl (kI, 12, .inl q_reach)), (ra 17, .inl (kZ, 168, .inl q_isAt))] sz) := by
  refine Met.ofW (cc := cX11_places) (maxL := 5) (ret := (some .int)) (by decide) rfl ?_
  intro p e s m args0 below meth c s₁ B hml hv
  obtain ⟨hargs, hsz, hP, hE, hD0⟩ := hv
  have hx := B.exec
  have hb := B.bytes
  have hr := B.returns
  have hts := atoms_spec (ws := wsX11_places) B.pre
  have hown : s.vm.findClass RX11 = some m.cls := findClass_of_methodNamed B.named
  have hlocks := B.notSynchronized
  have hK := hE.1
  have hin11 : ∀ w ∈ wsX110, w ∈ wsX11_places := fun _ h9 => List.mem_cons_of_mem _ (List.mem_append_right _ h9)
  have hw_0 := hts (.fieldLink RX11 87 "PathProberModel" "isAt" "[Z") (List.mem_of_getElem? (i := 1) rfl)
  have hw_1 := hts (.fieldLink RX11 53 "PathProberModel" "from" "[I") (List.mem_of_getElem? (i := 2) rfl)
  have hw_2 := hts (.fieldLink RX11 58 "PathProberModel" "goal" "[I") (List.mem_of_getElem? (i := 3) rfl)
  subst hsz
  have hD := hD0.self (sz := s.heap.size)
  generalize hAe : va_A [(m0, .inr (11, oX11 ra x0)), (ra 2, .inl (kI, 8, .inl q_told)), (ra 8, .inl (kI, 40, .inl q_from)), (ra 9, .inl (kI, 40, .inl q_to)), (ra 10, .inl (kI, 6, .inl q_goal)), (ra 14, .inl (kI, 12, .inl q_reach)), (ra 17, .inl (kZ, 168, .inl q_isAt))] s.heap.size = A at hD ⊢
  have hA : ∀ q : Nat, s.heap.size ≤ q → A q := fun q h => by rw [← hAe]; exact Or.inr h
  have hS : va_S A s.heap s.heap [] := va_S.rf
  have hP : va_P (dC, dI) vwCl [(m0, .inr (11, oX11 ra x0)), (ra 2, .inl (kI, 8, .inl q_told)), (ra 8, .inl (kI, 40, .inl q_from)), (ra 9, .inl (kI, 40, .inl q_to)), (ra 10, .inl (kI, 6, .inl q_goal)), (ra 14, .inl (kI, 12, .inl q_reach)), (ra 17, .inl (kZ, 168, .inl q_isAt))] s.heap := hP
  have hl := lv_entry ([.ref m0, .int p0, .int p1]) (n := 5) (Nat.le_of_ble_eq_true rfl)
  have hla : entryFrame m args0 5 = entryFrame m ([.ref m0, .int p0, .int p1] : List Value).toArray 5 := by rw [hargs]
  rw [hla, lg_entry_eq]
  generalize (lg_sl ([.ref m0, .int p0, .int p1]) ++ List.replicate (5 - (lg_sl ([.ref m0, .int p0, .int p1])).length) Slot.unset).toArray = ls at hl ⊢
  have hl : lv_has ls 5 [(0, .ref m0), (1, .int p0), (2, .int p1)] := hl
  have hJ28 : ∀ (n : Nat) (g28_6 : Nat → Int32) (v28_loc3 : Int32) (v28_loc4 : Int32) (H : Heap) (locs : List Loc) (ls : Array Slot), (20 - v28_loc4.toInt).toNat < n → iv 0 20 v28_loc4 → (x0 1 = x0 1) → (x0 10 = x0 10) → (x0 11 = x0 11) → (x0 14 = x0 14) → va_P (dC, dI) vwCl [(m0, .inr (11, oX11 ra x0)), (ra 2, .inl (kI, 8, .inl q_told)), (ra 8, .inl (kI, 40, .inl q_from)), (ra 9, .inl (kI, 40, .inl q_to)), (ra 10, .inl (kI, 6, .inl q_goal)), (ra 14, .inl (kI, 12, .inl q_reach)), (ra 17, .inl (kZ, 168, .inl g28_6))] H → va_D A [(m0, .inr (11, oX11 ra x0)), (ra 2, .inl (kI, 8, .inl q_told)), (ra 8, .inl (kI, 40, .inl q_from)), (ra 9, .inl (kI, 40, .inl q_to)), (ra 10, .inl (kI, 6, .inl q_goal)), (ra 14, .inl (kI, 12, .inl q_reach)), (ra 17, .inl (kZ, 168, .inl g28_6))] → va_S A s.heap H locs → lv_has ls 5 [(0, .ref m0), (1, .int p0), (2, .int p1), (3, .int v28_loc3), (4, .int v28_loc4)] → W p l e (headSpec wsX11_places rm_s11_places).room s m args0 below meth c H locs (0) (0) (MQ below (va_Qi (fun (r : Int32) (_ : Unit) => True) (fun _ t => ∃ (q_isAt' : Nat → Int32), va_P (dC, dI) vwCl [(m0, .inr (11, oX11 ra x0)), (ra 2, .inl (kI, 8, .inl q_told)), (ra 8, .inl (kI, 40, .inl q_from)), (ra 9, .inl (kI, 40, .inl q_to)), (ra 10, .inl (kI, 6, .inl q_goal)), (ra 14, .inl (kI, 12, .inl q_reach)), (ra 17, .inl (kZ, 168, .inl q_isAt'))] t.heap ∧ va_D A [(m0, .inr (11, oX11 ra x0)), (ra 2, .inl (kI, 8, .inl q_told)), (ra 8, .inl (kI, 40, .inl q_from)), (ra 9, .inl (kI, 40, .inl q_to)), (ra 10, .inl (kI, 6, .inl q_goal)), (ra 14, .inl (kI, 12, .inl q_reach)), (ra 17, .inl (kZ, 168, .inl q_isAt'))]) A) args0 s 0 0 A) (F0 m 28 ls []) := by
    intro n
    induction n with
    | zero => intro g28_6 v28_loc3 v28_loc4 H locs ls hm28; exact absurd hm28 (Nat.not_lt_zero _)
    | succ n ih28 =>
      intro g28_6 v28_loc3 v28_loc4 H locs ls hm28 h28_1 htp_28 hfp_28 hor_28 hirl_28 hP hD hS hl
      have hJ111 : ∀ (v111_stk0 : Int32) (H : Heap) (locs : List Loc) (ls : Array Slot), iv 0 19 v28_loc4 → iv 1 20 (q_told 1) → (x0 1 = x0 1) → (x0 10 = x0 10) → (x0 11 = x0 11) → (x0 14 = x0 14) → va_P (dC, dI) vwCl [(m0, .inr (11, oX11 ra x0)), (ra 2, .inl (kI, 8, .inl q_told)), (ra 8, .inl (kI, 40, .inl q_from)), (ra 9, .inl (kI, 40, .inl q_to)), (ra 10, .inl (kI, 6, .inl q_goal)), (ra 14, .inl (kI, 12, .inl q_reach)), (ra 17, .inl (kZ, 168, .inl g28_6))] H → va_D A [(m0, .inr (11, oX11 ra x0)), (ra 2, .inl (kI, 8, .inl q_told)), (ra 8, .inl (kI, 40, .inl q_from)), (ra 9, .inl (kI, 40, .inl q_to)), (ra 10, .inl (kI, 6, .inl q_goal)), (ra 14, .inl (kI, 12, .inl q_reach)), (ra 17, .inl (kZ, 168, .inl g28_6))] → va_S A s.heap H locs → lv_has ls 5 [(0, .ref m0), (1, .int p0), (2, .int p1), (3, .int v28_loc3), (4, .int v28_loc4)] → W p l e (headSpec wsX11_places rm_s11_places).room s m args0 below meth c H locs (0) (0) (MQ below (va_Qi (fun (r : Int32) (_ : Unit) => True) (fun _ t => ∃ (q_isAt' : Nat → Int32), va_P (dC, dI) vwCl [(m0, .inr (11, oX11 ra x0)), (ra 2, .inl (kI, 8, .inl q_told)), (ra 8, .inl (kI, 40, .inl q_from)), (ra 9, .inl (kI, 40, .inl q_to)), (ra 10, .inl (kI, 6, .inl q_goal)), (ra 14, .inl (kI, 12, .inl q_reach)), (ra 17, .inl (kZ, 168, .inl q_isAt'))] t.heap ∧ va_D A [(m0, .inr (11, oX11 ra x0)), (ra 2, .inl (kI, 8, .inl q_told)), (ra 8, .inl (kI, 40, .inl q_from)), (ra 9, .inl (kI, 40, .inl q_to)), (ra 10, .inl (kI, 6, .inl q_goal)), (ra 14, .inl (kI, 12, .inl q_reach)), (ra 17, .inl (kZ, 168, .inl q_isAt'))]) A) args0 s 0 0 A) (F0 m 111 ls [.int v111_stk0, .int v28_loc3]) := by
        intro v111_stk0 H locs ls h111_1 h111_2 htp_111 hfp_111 hor_111 hirl_111 hP hD hS hl
        refine lv_ior hx hb dX11_places_111 ?_
        refine lv_topi (fun z1 _ => ?_)
        refine lv_istore_n (lv' := [(3, .int z1), (0, .ref m0), (1, .int p0), (2, .int p1), (4, .int v28_loc4)]) hx hb dX11_places_112 rfl hl (Nat.le_of_ble_eq_true rfl) rfl (fun ls hl => ?_)
        refine lv_iinc (v := v28_loc4 + Int32.ofInt 1) (lv' := [(4, .int (v28_loc4 + Int32.ofInt 1)), (3, .int z1), (0, .ref m0), (1, .int p0), (2, .int p1)]) hx hb dX11_places_113 hl (k := 4) rfl (rfl) (Nat.le_of_ble_eq_true rfl) rfl (fun ls hl => ?_)
        have b2 : iv 1 20 (v28_loc4 + Int32.ofInt 1) := iv_add h111_1 ivo_1 (by decide) (by decide) (by decide) (by decide)
        refine lv_goto (tgt := 28) hx hb dX11_places_116 rfl ?_
        exact ih28 g28_6 z1 (v28_loc4 + Int32.ofInt 1) _ _ _ (ms_up (c := 1) (d := 0) h111_1 hm28 (by decide) (iv_inc 1 h111_1 (by decide) (by decide) (by decide) (by decide)) (by decide) rfl) ((iv_w b2 (by decide) (by decide))) ((show x0 1 = x0 1 from rfl)) ((show x0 10 = x0 10 from rfl)) ((show x0 11 = x0 11 from rfl)) ((show x0 14 = x0 14 from rfl)) (hP) (hD) hS (lv_sub hl [2, 3, 4, 1, 0] rfl)
      have hJ110 : ∀ (H : Heap) (locs : List Loc) (ls : Array Slot), iv 0 19 v28_loc4 → iv 1 20 (q_told 1) → (x0 1 = x0 1) → (x0 10 = x0 10) → (x0 11 = x0 11) → (x0 14 = x0 14) → va_P (dC, dI) vwCl [(m0, .inr (11, oX11 ra x0)), (ra 2, .inl (kI, 8, .inl q_told)), (ra 8, .inl (kI, 40, .inl q_from)), (ra 9, .inl (kI, 40, .inl q_to)), (ra 10, .inl (kI, 6, .inl q_goal)), (ra 14, .inl (kI, 12, .inl q_reach)), (ra 17, .inl (kZ, 168, .inl g28_6))] H → va_D A [(m0, .inr (11, oX11 ra x0)), (ra 2, .inl (kI, 8, .inl q_told)), (ra 8, .inl (kI, 40, .inl q_from)), (ra 9, .inl (kI, 40, .inl q_to)), (ra 10, .inl (kI, 6, .inl q_goal)), (ra 14, .inl (kI, 12, .inl q_reach)), (ra 17, .inl (kZ, 168, .inl g28_6))] → va_S A s.heap H locs → lv_has ls 5 [(0, .ref m0), (1, .int p0), (2, .int p1), (3, .int v28_loc3), (4, .int v28_loc4)] → W p l e (headSpec wsX11_places rm_s11_places).room s m args0 below meth c H locs (0) (0) (MQ below (va_Qi (fun (r : Int32) (_ : Unit) => True) (fun _ t => ∃ (q_isAt' : Nat → Int32), va_P (dC, dI) vwCl [(m0, .inr (11, oX11 ra x0)), (ra 2, .inl (kI, 8, .inl q_told)), (ra 8, .inl (kI, 40, .inl q_from)), (ra 9, .inl (kI, 40, .inl q_to)), (ra 10, .inl (kI, 6, .inl q_goal)), (ra 14, .inl (kI, 12, .inl q_reach)), (ra 17, .inl (kZ, 168, .inl q_isAt'))] t.heap ∧ va_D A [(m0, .inr (11, oX11 ra x0)), (ra 2, .inl (kI, 8, .inl q_told)), (ra 8, .inl (kI, 40, .inl q_from)), (ra 9, .inl (kI, 40, .inl q_to)), (ra 10, .inl (kI, 6, .inl q_goal)), (ra 14, .inl (kI, 12, .inl q_reach)), (ra 17, .inl (kZ, 168, .inl q_isAt'))]) A) args0 s 0 0 A) (F0 m 110 ls [.int v28_loc3]) := by
        intro H locs ls h110_1 h110_2 htp_110 hfp_110 hor_110 hirl_110 hP hD hS hl
        refine lv_iconst (v := 0) hx hb dX11_places_110 ic_0 ?_
        exact hJ111 0 _ _ _ (h110_1) (h110_2) ((show x0 1 = x0 1 from rfl)) ((show x0 10 = x0 10 from rfl)) ((show x0 11 = x0 11 from rfl)) ((show x0 14 = x0 14 from rfl)) (hP) (hD) hS (lv_sub hl [0, 1, 2, 3, 4] rfl)
      refine lv_iload hx hb dX11_places_28 (lv_at hl 4 rfl) ?_
      refine lv_aload_n hx hb dX11_places_30 rfl (lv_at hl 0 rfl) ?_
      obtain ⟨hPc, hDc, hFc, hJn⟩ := cl_a (wc := [(m0, .inr (11, oX11 ra x0)), (ra 2, .inl (kI, 8, .inl q_told))]) (wr := [(ra 8, .inl (kI, 40, .inl q_from)), (ra 9, .inl (kI, 40, .inl q_to)), (ra 10, .inl (kI, 6, .inl q_goal)), (ra 14, .inl (kI, 12, .inl q_reach)), (ra 17, .inl (kZ, 168, .inl g28_6))]) hP hD hS hA [0, 1] [2, 3, 4, 5, 6] rfl rfl (by decide +kernel)
      refine va_calli (va_runV (As := []) (rest := [.int v28_loc4]) ⟨hx, hb, hml, hown, hts⟩ (s11_links l dC dI kB kI kJ kZ kC kS H.size m0 ra x0 q_told (hX) (hq_told)) (cwV 0 hts gX11_places_X11_links rfl rfl rfl (by decide +kernel) ⟨Nat.le_of_ble_eq_true rfl, Nat.le_of_ble_eq_true rfl⟩) ⟨fun a U g mk q => by obtain ⟨q0, q1, qP, qE, qD⟩ := q; exact ⟨q0, q1, qP, kE_call qE, qD⟩, va_recv hK hP (ci := 11) (q0 := 0) rfl rfl, fun U hU hW => ⟨rfl, by rw [hU], by rw [hU]; exact hPc, kE_warm hW hE, hDc.weaken (fun _ _ _ _ => trivial)⟩⟩ rfl rfl hl.1 rfl (lv_room (Nat.le_of_ble_eq_true rfl)) dX11_places_31 ⟨Nat.le_of_ble_eq_true rfl, Nat.le_of_ble_eq_true rfl⟩) hS (fun q _ h => hFc q h) hFc (fun r3 u t H locs ht hvm w4 hB hz1 hk1 hS => ?_)
      obtain ⟨hP1, hD1⟩ := hB
      try dsimp only at w4
      obtain ⟨hPa, hDa⟩ := hJn (w1 := [(m0, .inr (11, oX11 ra x0)), (ra 2, .inl (kI, 8, .inl q_told))]) hk1 ht hP1 hD1
      clear hP hD hPc hDc hFc hJn hP1 hD1 hk1
      have hP : va_P (dC, dI) vwCl [(ra 8, .inl (kI, 40, .inl q_from)), (ra 9, .inl (kI, 40, .inl q_to)), (ra 10, .inl (kI, 6, .inl q_goal)), (ra 14, .inl (kI, 12, .inl q_reach)), (ra 17, .inl (kZ, 168, .inl g28_6)), (m0, .inr (11, oX11 ra x0)), (ra 2, .inl (kI, 8, .inl q_told))] H := hPa
      have hD : va_D A [(ra 8, .inl (kI, 40, .inl q_from)), (ra 9, .inl (kI, 40, .inl q_to)), (ra 10, .inl (kI, 6, .inl q_goal)), (ra 14, .inl (kI, 12, .inl q_reach)), (ra 17, .inl (kZ, 168, .inl g28_6)), (m0, .inr (11, oX11 ra x0)), (ra 2, .inl (kI, 8, .inl q_told))] := hDa
      clear hPa hDa
      refine W.widen (k := 0) (n := 0) (Nat.le_of_ble_eq_true rfl) (Nat.le_of_ble_eq_true rfl) ?_
      subst w4
      refine lv_icmp_ge (tgt := 119) hx hb dX11_places_34 rfl (fun c5 => ?_) (fun c5 => ?_)
      · refine lv_iload_n hx hb dX11_places_119 rfl (lv_at hl 3 rfl) ?_
        have hPD9 := cl_s (wc := [(m0, .inr (11, oX11 ra x0)), (ra 2, .inl (kI, 8, .inl q_told)), (ra 8, .inl (kI, 40, .inl q_from)), (ra 9, .inl (kI, 40, .inl q_to)), (ra 10, .inl (kI, 6, .inl q_goal)), (ra 14, .inl (kI, 12, .inl q_reach)), (ra 17, .inl (kZ, 168, .inl g28_6))]) hP hD [5, 6, 0, 1, 2, 3, 4] rfl (by decide +kernel)
        have hP9 := hPD9.1
        have hD9 := hPD9.2
        exact W.iret (v := v28_loc3) hx hb hr (fun t ht hW => ⟨⟨v28_loc3, (), rfl, trivial, g28_6, by rw [ht]; exact hP9, hD9⟩, hS.F ht⟩) hS.2.2 dX11_places_120
      · have b6 : iv 0 19 v28_loc4 := iv_ltL (Int32.not_le.mp c5) h28_1 (hq_told 1 : iv 0 20 (q_told 1)) (by decide) (by decide)
        have b7 : iv 1 20 (q_told 1) := iv_ltR (Int32.not_le.mp c5) h28_1 (hq_told 1 : iv 0 20 (q_told 1)) (by decide) (by decide)
        refine lv_iload_n hx hb dX11_places_37 rfl (lv_at hl 3 rfl) ?_
        refine lv_iload_n hx hb dX11_places_38 rfl (lv_at hl 2 rfl) ?_
        refine lv_iconst (v := 1) hx hb dX11_places_39 ic_1 ?_
        refine lv_icmp_le (tgt := 110) hx hb dX11_places_40 rfl (fun c8 => ?_) (fun c8 => ?_)
        · have b9 : iv 1 1 p1 := iv_leL c8 hp1 ivk_1 (by decide) (by decide)
          have hPD9 := cl_s (wc := [(m0, .inr (11, oX11 ra x0)), (ra 2, .inl (kI, 8, .inl q_told)), (ra 8, .inl (kI, 40, .inl q_from)), (ra 9, .inl (kI, 40, .inl q_to)), (ra 10, .inl (kI, 6, .inl q_goal)), (ra 14, .inl (kI, 12, .inl q_reach)), (ra 17, .inl (kZ, 168, .inl g28_6))]) hP hD [5, 6, 0, 1, 2, 3, 4] rfl (by decide +kernel)
          exact hJ110 _ _ _ (b6) (b7) ((show x0 1 = x0 1 from rfl)) ((show x0 10 = x0 10 from rfl)) ((show x0 11 = x0 11 from rfl)) ((show x0 14 = x0 14 from rfl)) (hPD9.1) (hPD9.2) hS (lv_sub hl [0, 1, 2, 3, 4] rfl)
        · have b10 : iv 2 10 p1 := iv_ltR (Int32.not_le.mp c8) ivk_1 hp1 (by decide) (by decide)
          refine lv_aload_n hx hb dX11_places_43 rfl (lv_at hl 0 rfl) ?_
          refine va_get (D := (dC, dI)) (ci := 11) (v := .ref (ra 17)) (C := RX11) (T := TX11) (N := 61) hx hb hts hin11 hown hK hP 5 rfl rfl 35 (Nat.le_of_ble_eq_true rfl) hw_0 (fun _ h9 => h9) rfl dX11_places_44 ?_
          refine lv_bipush (v := 14) hx hb dX11_places_47 bp_14 ?_
          refine lv_aload_n hx hb dX11_places_49 rfl (lv_at hl 0 rfl) ?_
          refine va_get (D := (dC, dI)) (ci := 11) (v := .ref (ra 8)) (C := RX11) (T := TX11) (N := 61) hx hb hts hin11 hown hK hP 5 rfl rfl 9 (Nat.le_of_ble_eq_true rfl) hw_1 (fun _ h9 => h9) rfl dX11_places_50 ?_
          refine lv_iload hx hb dX11_places_53 (lv_at hl 4 rfl) ?_
          refine va_iald hx hb hK hP 0 1 rfl rfl (iv_in b6 (by decide) (by decide)) dX11_places_55 ?_
          refine iv_top (a := 0) (b := 11) (hq_from _) (fun z11 b12 => ?_)
          refine lv_imul hx hb dX11_places_56 ?_
          refine iv_top (a := 0) (b := 154) (iv_mul ivk_14 b12 (by decide) (by decide) (by decide) (by decide) (by decide)) (fun z13 b14 => ?_)
          refine lv_iload_n hx hb dX11_places_57 rfl (lv_at hl 2 rfl) ?_
          refine lv_iadd hx hb dX11_places_58 ?_
          refine iv_top (a := 2) (b := 164) (iv_add b14 b10 (by decide) (by decide) (by decide) (by decide)) (fun z15 b16 => ?_)
          refine lv_iconst (v := 1) hx hb dX11_places_59 ic_1 ?_
          refine lv_isub hx hb dX11_places_60 ?_
          refine iv_top (a := 1) (b := 163) (iv_sub b16 ivk_1 (by decide) (by decide) (by decide) (by decide)) (fun z17 b18 => ?_)
          refine va_zald hx hb hK hP 4 3 rfl rfl (iv_in b18 (by decide) (by decide)) dX11_places_61 ?_
          refine lv_topi (fun z19 _ => ?_)
          refine lv_if_eq (tgt := 110) hx hb dX11_places_62 rfl (fun c20 => ?_) (fun c20 => ?_)
          · have b21 : iv 0 0 z19 := iv_eqL c20 ivk_0
            have hPD9 := cl_s (wc := [(m0, .inr (11, oX11 ra x0)), (ra 2, .inl (kI, 8, .inl q_told)), (ra 8, .inl (kI, 40, .inl q_from)), (ra 9, .inl (kI, 40, .inl q_to)), (ra 10, .inl (kI, 6, .inl q_goal)), (ra 14, .inl (kI, 12, .inl q_reach)), (ra 17, .inl (kZ, 168, .inl g28_6))]) hP hD [5, 6, 0, 1, 2, 3, 4] rfl (by decide +kernel)
            exact hJ110 _ _ _ (b6) (b7) ((show x0 1 = x0 1 from rfl)) ((show x0 10 = x0 10 from rfl)) ((show x0 11 = x0 11 from rfl)) ((show x0 14 = x0 14 from rfl)) (hPD9.1) (hPD9.2) hS (lv_sub hl [0, 1, 2, 3, 4] rfl)
          · refine lv_aload_n hx hb dX11_places_65 rfl (lv_at hl 0 rfl) ?_
            refine va_get (D := (dC, dI)) (ci := 11) (v := .ref (ra 8)) (C := RX11) (T := TX11) (N := 61) hx hb hts hin11 hown hK hP 5 rfl rfl 9 (Nat.le_of_ble_eq_true rfl) hw_1 (fun _ h9 => h9) rfl dX11_places_66 ?_
            refine lv_iload hx hb dX11_places_69 (lv_at hl 4 rfl) ?_
            refine va_iald hx hb hK hP 0 1 rfl rfl (iv_in b6 (by decide) (by decide)) dX11_places_71 ?_
            refine iv_top (a := 0) (b := 11) (hq_from _) (fun z22 b23 => ?_)
            refine lv_aload_n hx hb dX11_places_72 rfl (lv_at hl 0 rfl) ?_
            refine va_get (D := (dC, dI)) (ci := 11) (v := .ref (ra 10)) (C := RX11) (T := TX11) (N := 61) hx hb hts hin11 hown hK hP 5 rfl rfl 11 (Nat.le_of_ble_eq_true rfl) hw_2 (fun _ h9 => h9) rfl dX11_places_73 ?_
            refine lv_iload_n hx hb dX11_places_76 rfl (lv_at hl 1 rfl) ?_
            refine va_iald hx hb hK hP 2 1 rfl rfl (iv_in hp0 (by decide) (by decide)) dX11_places_77 ?_
            refine iv_top (a := 0) (b := 11) (hq_goal _) (fun z24 b25 => ?_)
            refine lv_icmp_eq (tgt := 110) hx hb dX11_places_78 rfl (fun c26 => ?_) (fun c26 => ?_)
            · have hPD9 := cl_s (wc := [(m0, .inr (11, oX11 ra x0)), (ra 2, .inl (kI, 8, .inl q_told)), (ra 8, .inl (kI, 40, .inl q_from)), (ra 9, .inl (kI, 40, .inl q_to)), (ra 10, .inl (kI, 6, .inl q_goal)), (ra 14, .inl (kI, 12, .inl q_reach)), (ra 17, .inl (kZ, 168, .inl g28_6))]) hP hD [5, 6, 0, 1, 2, 3, 4] rfl (by decide +kernel)
              exact hJ110 _ _ _ (b6) (b7) ((show x0 1 = x0 1 from rfl)) ((show x0 10 = x0 10 from rfl)) ((show x0 11 = x0 11 from rfl)) ((show x0 14 = x0 14 from rfl)) (hPD9.1) (hPD9.2) hS (lv_sub hl [0, 1, 2, 3, 4] rfl)
            · refine lv_aload_n hx hb dX11_places_81 rfl (lv_at hl 0 rfl) ?_
              refine lv_iload hx hb dX11_places_82 (lv_at hl 4 rfl) ?_
              refine lv_aload_n hx hb dX11_places_84 rfl (lv_at hl 0 rfl) ?_
              refine va_get (D := (dC, dI)) (ci := 11) (v := .ref (ra 8)) (C := RX11) (T := TX11) (N := 61) hx hb hts hin11 hown hK hP 5 rfl rfl 9 (Nat.le_of_ble_eq_true rfl) hw_1 (fun _ h9 => h9) rfl dX11_places_85 ?_
              refine lv_iload hx hb dX11_places_88 (lv_at hl 4 rfl) ?_
              refine va_iald hx hb hK hP 0 1 rfl rfl (iv_in b6 (by decide) (by decide)) dX11_places_90 ?_
              refine iv_top (a := 0) (b := 11) (hq_from _) (fun z27 b28 => ?_)
              refine lv_aload_n hx hb dX11_places_91 rfl (lv_at hl 0 rfl) ?_
              refine va_get (D := (dC, dI)) (ci := 11) (v := .ref (ra 10)) (C := RX11) (T := TX11) (N := 61) hx hb hts hin11 hown hK hP 5 rfl rfl 11 (Nat.le_of_ble_eq_true rfl) hw_2 (fun _ h9 => h9) rfl dX11_places_92 ?_
              refine lv_iload_n hx hb dX11_places_95 rfl (lv_at hl 1 rfl) ?_
              refine va_iald hx hb hK hP 2 1 rfl rfl (iv_in hp0 (by decide) (by decide)) dX11_places_96 ?_
              refine iv_top (a := 0) (b := 11) (hq_goal _) (fun z29 b30 => ?_)
              obtain ⟨hPc, hDc, hFc, hJn⟩ := cl_a (wc := [(m0, .inr (11, oX11 ra x0)), (ra 8, .inl (kI, 40, .inl q_from)), (ra 9, .inl (kI, 40, .inl q_to)), (ra 14, .inl (kI, 12, .inl q_reach))]) (wr := [(ra 10, .inl (kI, 6, .inl q_goal)), (ra 17, .inl (kZ, 168, .inl g28_6)), (ra 2, .inl (kI, 8, .inl q_told))]) hP hD hS hA [5, 0, 1, 3] [2, 4, 6] rfl rfl (by decide +kernel)
              refine va_calli (va_runV (As := [.int v28_loc4, .int z27, .int z29]) (rest := [.int v28_loc3]) ⟨hx, hb, hml, hown, hts⟩ (s11_isBranch l dC dI kB kI kJ kZ kC kS H.size m0 ra x0 q_from q_to q_reach v28_loc4 z27 z29 (hX) (hq_from) (hq_to) ((iv_w b6 (by decide) (by decide))) (b30)) (cwV 3 hts gX11_places_X11_isBranch rfl rfl rfl (by decide +kernel) ⟨Nat.le_of_ble_eq_true rfl, Nat.le_of_ble_eq_true rfl⟩) ⟨fun a U g mk q => by obtain ⟨q0, q1, qP, qE, qD⟩ := q; exact ⟨q0, q1, qP, kE_call qE, qD⟩, va_recv hK hP (ci := 11) (q0 := 5) rfl rfl, fun U hU hW => ⟨rfl, by rw [hU], by rw [hU]; exact hPc, kE_warm hW hE, hDc.weaken (fun _ _ _ _ => trivial)⟩⟩ rfl rfl hl.1 rfl (lv_room (Nat.le_of_ble_eq_true rfl)) dX11_places_97 ⟨Nat.le_of_ble_eq_true rfl, Nat.le_of_ble_eq_true rfl⟩) hS (fun q _ h => hFc q h) hFc (fun r31 u t H locs ht hvm w32 hB hz1 hk1 hS => ?_)
              obtain ⟨hP1, hD1⟩ := hB
              try dsimp only at w32
              obtain ⟨hPa, hDa⟩ := hJn (w1 := [(m0, .inr (11, oX11 ra x0)), (ra 8, .inl (kI, 40, .inl q_from)), (ra 9, .inl (kI, 40, .inl q_to)), (ra 14, .inl (kI, 12, .inl q_reach))]) hk1 ht hP1 hD1
              clear hP hD hPc hDc hFc hJn hP1 hD1 hk1
              have hP : va_P (dC, dI) vwCl [(ra 10, .inl (kI, 6, .inl q_goal)), (ra 17, .inl (kZ, 168, .inl g28_6)), (ra 2, .inl (kI, 8, .inl q_told)), (m0, .inr (11, oX11 ra x0)), (ra 8, .inl (kI, 40, .inl q_from)), (ra 9, .inl (kI, 40, .inl q_to)), (ra 14, .inl (kI, 12, .inl q_reach))] H := hPa
              have hD : va_D A [(ra 10, .inl (kI, 6, .inl q_goal)), (ra 17, .inl (kZ, 168, .inl g28_6)), (ra 2, .inl (kI, 8, .inl q_told)), (m0, .inr (11, oX11 ra x0)), (ra 8, .inl (kI, 40, .inl q_from)), (ra 9, .inl (kI, 40, .inl q_to)), (ra 14, .inl (kI, 12, .inl q_reach))] := hDa
              clear hPa hDa
              refine W.widen (k := 0) (n := 0) (Nat.le_of_ble_eq_true rfl) (Nat.le_of_ble_eq_true rfl) ?_
              refine lv_if_eq (tgt := 110) hx hb dX11_places_100 rfl (fun c33 => ?_) (fun c33 => ?_)
              · have b34 : iv 0 0 r31 := iv_eqL c33 ivk_0
                have hPD9 := cl_s (wc := [(m0, .inr (11, oX11 ra x0)), (ra 2, .inl (kI, 8, .inl q_told)), (ra 8, .inl (kI, 40, .inl q_from)), (ra 9, .inl (kI, 40, .inl q_to)), (ra 10, .inl (kI, 6, .inl q_goal)), (ra 14, .inl (kI, 12, .inl q_reach)), (ra 17, .inl (kZ, 168, .inl g28_6))]) hP hD [3, 2, 4, 5, 0, 6, 1] rfl (by decide +kernel)
                exact hJ110 _ _ _ (b6) (b7) ((show x0 1 = x0 1 from rfl)) ((show x0 10 = x0 10 from rfl)) ((show x0 11 = x0 11 from rfl)) ((show x0 14 = x0 14 from rfl)) (hPD9.1) (hPD9.2) hS (lv_sub hl [0, 1, 2, 3, 4] rfl)
              · have b35 : iv 1 1 r31 := iv_neLo c33 w32.1 ivk_0 (by decide) (by decide)
                have hr36 : q_from v28_loc4.toNatClampNeg = z27 := (w32.2).resolve_left (iv_ne b35 ivk_0 (by decide))
                refine lv_iconst (v := 2) hx hb dX11_places_103 ic_2 ?_
                refine lv_iload hx hb dX11_places_104 (lv_at hl 4 rfl) ?_
                refine lv_ishl hx hb dX11_places_106 ?_
                refine lv_topi (fun z37 _ => ?_)
                refine lv_goto (tgt := 111) hx hb dX11_places_107 rfl ?_
                have hPD9 := cl_s (wc := [(m0, .inr (11, oX11 ra x0)), (ra 2, .inl (kI, 8, .inl q_told)), (ra 8, .inl (kI, 40, .inl q_from)), (ra 9, .inl (kI, 40, .inl q_to)), (ra 10, .inl (kI, 6, .inl q_goal)), (ra 14, .inl (kI, 12, .inl q_reach)), (ra 17, .inl (kZ, 168, .inl g28_6))]) hP hD [3, 2, 4, 5, 0, 6, 1] rfl (by decide +kernel)
                exact hJ111 z37 _ _ _ (b6) (b7) ((show x0 1 = x0 1 from rfl)) ((show x0 10 = x0 10 from rfl)) ((show x0 11 = x0 11 from rfl)) ((show x0 14 = x0 14 from rfl)) (hPD9.1) (hPD9.2) hS (lv_sub hl [0, 1, 2, 3, 4] rfl)
  have hJ24 : ∀ (g24_6 : Nat → Int32) (v24_stk0 : Int32) (H : Heap) (locs : List Loc) (ls : Array Slot), iv 0 1 v24_stk0 → (x0 1 = x0 1) → (x0 10 = x0 10) → (x0 11 = x0 11) → (x0 14 = x0 14) → va_P (dC, dI) vwCl [(m0, .inr (11, oX11 ra x0)), (ra 2, .inl (kI, 8, .inl q_told)), (ra 8, .inl (kI, 40, .inl q_from)), (ra 9, .inl (kI, 40, .inl q_to)), (ra 10, .inl (kI, 6, .inl q_goal)), (ra 14, .inl (kI, 12, .inl q_reach)), (ra 17, .inl (kZ, 168, .inl g24_6))] H → va_D A [(m0, .inr (11, oX11 ra x0)), (ra 2, .inl (kI, 8, .inl q_told)), (ra 8, .inl (kI, 40, .inl q_from)), (ra 9, .inl (kI, 40, .inl q_to)), (ra 10, .inl (kI, 6, .inl q_goal)), (ra 14, .inl (kI, 12, .inl q_reach)), (ra 17, .inl (kZ, 168, .inl g24_6))] → va_S A s.heap H locs → lv_has ls 5 [(0, .ref m0), (1, .int p0), (2, .int p1)] → W p l e (headSpec wsX11_places rm_s11_places).room s m args0 below meth c H locs (0) (0) (MQ below (va_Qi (fun (r : Int32) (_ : Unit) => True) (fun _ t => ∃ (q_isAt' : Nat → Int32), va_P (dC, dI) vwCl [(m0, .inr (11, oX11 ra x0)), (ra 2, .inl (kI, 8, .inl q_told)), (ra 8, .inl (kI, 40, .inl q_from)), (ra 9, .inl (kI, 40, .inl q_to)), (ra 10, .inl (kI, 6, .inl q_goal)), (ra 14, .inl (kI, 12, .inl q_reach)), (ra 17, .inl (kZ, 168, .inl q_isAt'))] t.heap ∧ va_D A [(m0, .inr (11, oX11 ra x0)), (ra 2, .inl (kI, 8, .inl q_told)), (ra 8, .inl (kI, 40, .inl q_from)), (ra 9, .inl (kI, 40, .inl q_to)), (ra 10, .inl (kI, 6, .inl q_goal)), (ra 14, .inl (kI, 12, .inl q_reach)), (ra 17, .inl (kZ, 168, .inl q_isAt'))]) A) args0 s 0 0 A) (F0 m 24 ls [.int v24_stk0]) := by
    intro g24_6 v24_stk0 H locs ls h24_1 htp_24 hfp_24 hor_24 hirl_24 hP hD hS hl
    refine lv_istore_n (lv' := [(3, .int v24_stk0), (0, .ref m0), (1, .int p0), (2, .int p1)]) hx hb dX11_places_24 rfl hl (Nat.le_of_ble_eq_true rfl) rfl (fun ls hl => ?_)
    refine lv_iconst (v := 0) hx hb dX11_places_25 ic_0 ?_
    refine lv_istore (lv' := [(4, .int 0), (3, .int v24_stk0), (0, .ref m0), (1, .int p0), (2, .int p1)]) hx hb dX11_places_26 hl (Nat.le_of_ble_eq_true rfl) rfl (fun ls hl => ?_)
    exact hJ28 _ g24_6 v24_stk0 0 _ _ _ (Nat.lt_succ_self _) ((iv_w ivk_0 (by decide) (by decide))) ((show x0 1 = x0 1 from rfl)) ((show x0 10 = x0 10 from rfl)) ((show x0 11 = x0 11 from rfl)) ((show x0 14 = x0 14 from rfl)) (hP) (hD) hS (lv_sub hl [2, 3, 4, 1, 0] rfl)
  have hJ23 : ∀ (g23_6 : Nat → Int32) (H : Heap) (locs : List Loc) (ls : Array Slot), (x0 1 = x0 1) → (x0 10 = x0 10) → (x0 11 = x0 11) → (x0 14 = x0 14) → va_P (dC, dI) vwCl [(m0, .inr (11, oX11 ra x0)), (ra 2, .inl (kI, 8, .inl q_told)), (ra 8, .inl (kI, 40, .inl q_from)), (ra 9, .inl (kI, 40, .inl q_to)), (ra 10, .inl (kI, 6, .inl q_goal)), (ra 14, .inl (kI, 12, .inl q_reach)), (ra 17, .inl (kZ, 168, .inl g23_6))] H → va_D A [(m0, .inr (11, oX11 ra x0)), (ra 2, .inl (kI, 8, .inl q_told)), (ra 8, .inl (kI, 40, .inl q_from)), (ra 9, .inl (kI, 40, .inl q_to)), (ra 10, .inl (kI, 6, .inl q_goal)), (ra 14, .inl (kI, 12, .inl q_reach)), (ra 17, .inl (kZ, 168, .inl g23_6))] → va_S A s.heap H locs → lv_has ls 5 [(0, .ref m0), (1, .int p0), (2, .int p1)] → W p l e (headSpec wsX11_places rm_s11_places).room s m args0 below meth c H locs (0) (0) (MQ below (va_Qi (fun (r : Int32) (_ : Unit) => True) (fun _ t => ∃ (q_isAt' : Nat → Int32), va_P (dC, dI) vwCl [(m0, .inr (11, oX11 ra x0)), (ra 2, .inl (kI, 8, .inl q_told)), (ra 8, .inl (kI, 40, .inl q_from)), (ra 9, .inl (kI, 40, .inl q_to)), (ra 10, .inl (kI, 6, .inl q_goal)), (ra 14, .inl (kI, 12, .inl q_reach)), (ra 17, .inl (kZ, 168, .inl q_isAt'))] t.heap ∧ va_D A [(m0, .inr (11, oX11 ra x0)), (ra 2, .inl (kI, 8, .inl q_told)), (ra 8, .inl (kI, 40, .inl q_from)), (ra 9, .inl (kI, 40, .inl q_to)), (ra 10, .inl (kI, 6, .inl q_goal)), (ra 14, .inl (kI, 12, .inl q_reach)), (ra 17, .inl (kZ, 168, .inl q_isAt'))]) A) args0 s 0 0 A) (F0 m 23 ls []) := by
    intro g23_6 H locs ls htp_23 hfp_23 hor_23 hirl_23 hP hD hS hl
    refine lv_iconst (v := 0) hx hb dX11_places_23 ic_0 ?_
    exact hJ24 g23_6 0 _ _ _ ((iv_w ivk_0 (by decide) (by decide))) ((show x0 1 = x0 1 from rfl)) ((show x0 10 = x0 10 from rfl)) ((show x0 11 = x0 11 from rfl)) ((show x0 14 = x0 14 from rfl)) (hP) (hD) hS (lv_sub hl [0, 1, 2] rfl)
  refine lv_aload_n hx hb dX11_places_0 rfl (lv_at hl 0 rfl) ?_
  refine lv_iload_n hx hb dX11_places_1 rfl (lv_at hl 1 rfl) ?_
  obtain ⟨hPc, hDc, hFc, hJn⟩ := cl_a (wc := [(m0, .inr (11, oX11 ra x0)), (ra 2, .inl (kI, 8, .inl q_told)), (ra 8, .inl (kI, 40, .inl q_from)), (ra 9, .inl (kI, 40, .inl q_to)), (ra 10, .inl (kI, 6, .inl q_goal)), (ra 14, .inl (kI, 12, .inl q_reach)), (ra 17, .inl (kZ, 168, .inl q_isAt))]) (wr := []) hP hD hS hA [0, 1, 2, 3, 4, 5, 6] [] rfl rfl (by decide +kernel)
  refine va_callv (va_runV (As := [.int p0]) (rest := []) ⟨hx, hb, hml, hown, hts⟩ (s11_tellPlaces l dC dI kB kI kJ kZ kC kS s.heap.size m0 ra x0 q_told q_from q_to q_goal q_reach q_isAt p0 (hX) (hq_told) (hq_from) (hq_to) (hq_goal) (hp0)) (cwV 1 hts gX11_places_X11_tellPlaces rfl rfl rfl (by decide +kernel) ⟨Nat.le_of_ble_eq_true rfl, Nat.le_of_ble_eq_true rfl⟩) ⟨fun a U g mk q => by obtain ⟨q0, q1, qP, qE, qD⟩ := q; exact ⟨q0, q1, qP, kE_call qE, qD⟩, va_recv hK hP (ci := 11) (q0 := 0) rfl rfl, fun U hU hW => ⟨rfl, by rw [hU], by rw [hU]; exact hPc, kE_warm hW hE, hDc.weaken (fun _ _ _ _ => trivial)⟩⟩ rfl rfl hl.1 rfl (lv_room (Nat.le_of_ble_eq_true rfl)) dX11_places_2 ⟨Nat.le_of_ble_eq_true rfl, Nat.le_of_ble_eq_true rfl⟩) hS (fun q _ h => hFc q h) hFc (fun u t H locs ht hvm w39 hB hz1 hk1 hS => ?_)
  obtain ⟨f40, hP1, hD1⟩ := hB
  try dsimp only at w39
  obtain ⟨hPa, hDa⟩ := hJn (w1 := [(m0, .inr (11, oX11 ra x0)), (ra 2, .inl (kI, 8, .inl q_told)), (ra 8, .inl (kI, 40, .inl q_from)), (ra 9, .inl (kI, 40, .inl q_to)), (ra 10, .inl (kI, 6, .inl q_goal)), (ra 14, .inl (kI, 12, .inl q_reach)), (ra 17, .inl (kZ, 168, .inl f40))]) hk1 ht hP1 hD1
  clear hP hD hPc hDc hFc hJn hP1 hD1 hk1
  have hP : va_P (dC, dI) vwCl [(m0, .inr (11, oX11 ra x0)), (ra 2, .inl (kI, 8, .inl q_told)), (ra 8, .inl (kI, 40, .inl q_from)), (ra 9, .inl (kI, 40, .inl q_to)), (ra 10, .inl (kI, 6, .inl q_goal)), (ra 14, .inl (kI, 12, .inl q_reach)), (ra 17, .inl (kZ, 168, .inl f40))] H := hPa
  have hD : va_D A [(m0, .inr (11, oX11 ra x0)), (ra 2, .inl (kI, 8, .inl q_told)), (ra 8, .inl (kI, 40, .inl q_from)), (ra 9, .inl (kI, 40, .inl q_to)), (ra 10, .inl (kI, 6, .inl q_goal)), (ra 14, .inl (kI, 12, .inl q_reach)), (ra 17, .inl (kZ, 168, .inl f40))] := hDa
  clear hPa hDa
  refine W.widen (k := 0) (n := 0) (Nat.le_of_ble_eq_true rfl) (Nat.le_of_ble_eq_true rfl) ?_
  refine lv_iload_n hx hb dX11_places_5 rfl (lv_at hl 2 rfl) ?_
  refine lv_iconst (v := 1) hx hb dX11_places_6 ic_1 ?_
  refine lv_icmp_ne (tgt := 23) hx hb dX11_places_7 rfl (fun c41 => ?_) (fun c41 => ?_)
  · have b42 : iv 2 10 p1 := iv_neLo c41 hp1 ivk_1 (by decide) (by decide)
    exact hJ23 f40 _ _ _ ((show x0 1 = x0 1 from rfl)) ((show x0 10 = x0 10 from rfl)) ((show x0 11 = x0 11 from rfl)) ((show x0 14 = x0 14 from rfl)) (hP) (hD) hS (lv_sub hl [0, 1, 2] rfl)
  · have b43 : iv 1 1 p1 := iv_eqL c41 ivk_1
    refine lv_aload_n hx hb dX11_places_10 rfl (lv_at hl 0 rfl) ?_
    refine va_get (D := (dC, dI)) (ci := 11) (v := .ref (ra 17)) (C := RX11) (T := TX11) (N := 61) hx hb hts hin11 hown hK hP 0 rfl rfl 35 (Nat.le_of_ble_eq_true rfl) hw_0 (fun _ h9 => h9) rfl dX11_places_11 ?_
    refine lv_iconst (v := 1) hx hb dX11_places_14 ic_1 ?_
    refine va_zald hx hb hK hP 6 3 rfl rfl (vp_in_nI (n := 1) (by decide) (by decide)) dX11_places_15 ?_
    refine W.eq (g2 := F0 m 16 ls [.int (f40 1)]) rfl ?_
    refine lv_if_eq (tgt := 23) hx hb dX11_places_16 rfl (fun c44 => ?_) (fun c44 => ?_)
    · have b45 : iv 0 0 (f40 1) := iv_eqL c44 ivk_0
      exact hJ23 f40 _ _ _ ((show x0 1 = x0 1 from rfl)) ((show x0 10 = x0 10 from rfl)) ((show x0 11 = x0 11 from rfl)) ((show x0 14 = x0 14 from rfl)) (hP) (hD) hS (lv_sub hl [0, 1, 2] rfl)
    · refine lv_iconst (v := 1) hx hb dX11_places_19 ic_1 ?_
      refine lv_goto (tgt := 24) hx hb dX11_places_20 rfl ?_
      exact hJ24 f40 1 _ _ _ ((iv_w ivk_1 (by decide) (by decide))) ((show x0 1 = x0 1 from rfl)) ((show x0 10 = x0 10 from rfl)) ((show x0 11 = x0 11 from rfl)) ((show x0 14 = x0 14 from rfl)) (hP) (hD) hS (lv_sub hl [0, 1, 2] rfl)
def rm_s11_hidden : Room := { frames := 3, cells := 0, slots := 0, locals := 71 }
set_option maxHeartbeats 4000000 in
set_option maxRecDepth 100000 in
theorem s11_hidden (l : Launch) (dC : Nat → ClassId) (dI : Nat → Nat → Nat) (kB kI kJ kZ kC kS : ClassId) (sz : Nat) (m0 : Nat) (ra : Nat → Nat) (x0 : Nat → Int32) (q_told : Nat → Int32) (q_from : Nat → Int32) (q_to : Nat → Int32) (q_goal : Nat → Int32) (q_now : Nat → Int32) (q_reach : Nat → Int32) (q_isAt : Nat → Int32) (p0 : Int32) (p1 : Int32) (hX : fI lX11 hX11 x0) (hq_told : fI lTold hTold q_told) (hq_from : fI (fun _ => 0) (fun _ => 11) q_from) (hq_to : fI (fun _ => 0) (fun _ => 11) q_to) (hq_goal : fI (fun _ => 0) (fun _ => 11) q_goal) (hq_now : fI lNow hNow q_now) (hp0 : iv 0 2 p0) (hp1 : iv 1 10 p1) : Met l yX11_hidden wsX11_hidden rm_s11_hidden (va_Pc [.ref m0, .int p0, .int p1] (fun U => U.heap.size = sz ∧ va_P (dC, dI) vwCl [(m0, .inr (11, oX11 ra x0)), (ra 2, .inl (kI, 8, .inl q_told)), (ra 8, .inl (kI, 40, .inl q_from)), (ra 9, .inl (kI, 40, .inl q_to)), (ra 10, .inl (kI, 6, .inl q_goal)), (ra 11, .inl (kI, 1019, .inl q_now)), (ra 14, .inl (kI, 12, .inl q_reach)), (ra 17, .inl (kZ, 168, .inl q_isAt))] U.heap ∧ kE dC dI kB kI kJ kZ kC kS U ∧ va_D (fun _ => True) [(m0, .inr (11, oX11 ra x0)), (ra 2, .inl (kI, 8, .inl q_told)), (ra 8, .inl (kI, 40, .inl q_from)), (ra 9, .inl (kI, 40, .inl q_to)), (ra 10, .inl (kI, 6, .inl q_goal)), (ra 11, .inl (kI, 1019, .inl q_now)), (ra 14, .inl (kI, 12, .inl q_reach)), (ra 17, .inl (kZ, 168, .inl q_isAt))])) (va_Qi (fun (r : Int32) (_ : Unit) => True) (fun _ t => ∃ (q_isAt' : Nat → Int32), va_P (dC, dI) vwCl [(m0, .inr (11, oX11 ra x0)), (ra 2, .inl (kI, 8, .inl q_told)), (ra 8, .inl (kI, 40, .inl q_from)), (ra 9, .inl (kI, 40, .inl q_to)), (ra 10, .inl (kI, 6, .inl q_goal)), (ra 11, .inl (kI, 1019, .inl q_now)), (ra 14, .inl (kI, 12, .inl q_reach)), (ra 17, .inl (kZ, 168, .inl q_isAt'))] t.heap ∧ va_D (va_A [(m0, .inr (11, oX11 ra x0)), (ra 2, .inl (kI, 8, .inl q_told)), (ra 8, .inl (kI, 40, .inl q_from)), (ra 9, .inl (kI, 40, .inl q_to)), (ra 10, .inl (kI, 6, .inl q_goal)), (ra 11, .inl (kI, 1019, .inl q_now)), (ra 14, .inl (kI, 12, .inl q_reach)), (ra 17, .inl (kZ, 168, .inl q_isAt))] sz) [(m0, .inr (11, oX11 ra x0)), (ra 2, .inl (kI, 8, .inl q_told)), (ra 8, .inl (kI, 40, .inl q_from)), (ra 9, .inl (kI, 40, .inl q_to)), (ra 10, .inl (kI, 6, .inl q_goal)), (ra 11, .inl (kI, 1019, .inl q_now)), (ra 14, .inl (kI, 12, .inl q_reach)), (ra 17, .inl (kZ, 168, .inl q_isAt'))]) (va_A [(m0, .inr (11, oX11 ra x0)), (ra 2, .inl (kI, 8, .inl q_told)), (ra 8, .inl (kI, 40, .inl q_from)), (ra 9, .inl (kI, 40, .inl q_to)), (ra 10, .inl (kI, 6, .inl q_goal)), (ra 11, .inl (kI, 1019, .inl q_now)), (ra 14, .inl (kI, 12, .inl q_reach)), (ra 17, .inl (kZ, 168, .inl q_isAt))] sz)) 0 0 (va_A [(m0, .inr (11, oX11 ra x0)), (ra 2, .inl (kI, 8, .inl q_told)), (ra 8, .inl (kI, 40, .inl q_from)), (ra 9, .inl (kI, 40, .inl q_to)), (ra 10, .inl (kI, 6, .inl q_goal)), (ra 11, .inl (kI, 1019, .inl q_now)), (ra 14, .inl (kI, 12, .inl q_reach)), (ra 17, .inl (kZ, 168, .inl q_isAt))] sz) := by
  refine Met.ofW (cc := cX11_hidden) (maxL := 3) (ret := (some .int)) (by decide) rfl ?_
  intro p e s m args0 below meth c s₁ B hml hv
  obtain ⟨hargs, hsz, hP, hE, hD0⟩ := hv
  have hx := B.exec
  have hb := B.bytes
  have hr := B.returns
  have hts := atoms_spec (ws := wsX11_hidden) B.pre
  have hown : s.vm.findClass RX11 = some m.cls := findClass_of_methodNamed B.named
  have hlocks := B.notSynchronized
  have hK := hE.1
  have hin11 : ∀ w ∈ wsX110, w ∈ wsX11_hidden := fun _ h9 => List.mem_cons_of_mem _ (List.mem_append_right _ h9)
  subst hsz
  have hD := hD0.self (sz := s.heap.size)
  generalize hAe : va_A [(m0, .inr (11, oX11 ra x0)), (ra 2, .inl (kI, 8, .inl q_told)), (ra 8, .inl (kI, 40, .inl q_from)), (ra 9, .inl (kI, 40, .inl q_to)), (ra 10, .inl (kI, 6, .inl q_goal)), (ra 11, .inl (kI, 1019, .inl q_now)), (ra 14, .inl (kI, 12, .inl q_reach)), (ra 17, .inl (kZ, 168, .inl q_isAt))] s.heap.size = A at hD ⊢
  have hA : ∀ q : Nat, s.heap.size ≤ q → A q := fun q h => by rw [← hAe]; exact Or.inr h
  have hS : va_S A s.heap s.heap [] := va_S.rf
  have hP : va_P (dC, dI) vwCl [(m0, .inr (11, oX11 ra x0)), (ra 2, .inl (kI, 8, .inl q_told)), (ra 8, .inl (kI, 40, .inl q_from)), (ra 9, .inl (kI, 40, .inl q_to)), (ra 10, .inl (kI, 6, .inl q_goal)), (ra 11, .inl (kI, 1019, .inl q_now)), (ra 14, .inl (kI, 12, .inl q_reach)), (ra 17, .inl (kZ, 168, .inl q_isAt))] s.heap := hP
  have hl := lv_entry ([.ref m0, .int p0, .int p1]) (n := 3) (Nat.le_of_ble_eq_true rfl)
  have hla : entryFrame m args0 3 = entryFrame m ([.ref m0, .int p0, .int p1] : List Value).toArray 3 := by rw [hargs]
  rw [hla, lg_entry_eq]
  generalize (lg_sl ([.ref m0, .int p0, .int p1]) ++ List.replicate (3 - (lg_sl ([.ref m0, .int p0, .int p1])).length) Slot.unset).toArray = ls at hl ⊢
  have hl : lv_has ls 3 [(0, .ref m0), (1, .int p0), (2, .int p1)] := hl
  refine lv_aload_n hx hb dX11_hidden_0 rfl (lv_at hl 0 rfl) ?_
  refine lv_iload_n hx hb dX11_hidden_1 rfl (lv_at hl 1 rfl) ?_
  refine lv_iload_n hx hb dX11_hidden_2 rfl (lv_at hl 2 rfl) ?_
  obtain ⟨hPc, hDc, hFc, hJn⟩ := cl_a (wc := [(m0, .inr (11, oX11 ra x0)), (ra 2, .inl (kI, 8, .inl q_told)), (ra 8, .inl (kI, 40, .inl q_from)), (ra 9, .inl (kI, 40, .inl q_to)), (ra 10, .inl (kI, 6, .inl q_goal)), (ra 14, .inl (kI, 12, .inl q_reach)), (ra 17, .inl (kZ, 168, .inl q_isAt))]) (wr := [(ra 11, .inl (kI, 1019, .inl q_now))]) hP hD hS hA [0, 1, 2, 3, 4, 6, 7] [5] rfl rfl (by decide +kernel)
  refine va_calli (va_runV (As := [.int p0, .int p1]) (rest := []) ⟨hx, hb, hml, hown, hts⟩ (s11_places l dC dI kB kI kJ kZ kC kS s.heap.size m0 ra x0 q_told q_from q_to q_goal q_reach q_isAt p0 p1 (hX) (hq_told) (hq_from) (hq_to) (hq_goal) (hp0) (hp1)) (cwV 2 hts gX11_hidden_X11_places rfl rfl rfl (by decide +kernel) ⟨Nat.le_of_ble_eq_true rfl, Nat.le_of_ble_eq_true rfl⟩) ⟨fun a U g mk q => by obtain ⟨q0, q1, qP, qE, qD⟩ := q; exact ⟨q0, q1, qP, kE_call qE, qD⟩, va_recv hK hP (ci := 11) (q0 := 0) rfl rfl, fun U hU hW => ⟨rfl, by rw [hU], by rw [hU]; exact hPc, kE_warm hW hE, hDc.weaken (fun _ _ _ _ => trivial)⟩⟩ rfl rfl hl.1 rfl (lv_room (Nat.le_of_ble_eq_true rfl)) dX11_hidden_3 ⟨Nat.le_of_ble_eq_true rfl, Nat.le_of_ble_eq_true rfl⟩) hS (fun q _ h => hFc q h) hFc (fun r1 u t H locs ht hvm w2 hB hz1 hk1 hS => ?_)
  obtain ⟨f3, hP1, hD1⟩ := hB
  try dsimp only at w2
  obtain ⟨hPa, hDa⟩ := hJn (w1 := [(m0, .inr (11, oX11 ra x0)), (ra 2, .inl (kI, 8, .inl q_told)), (ra 8, .inl (kI, 40, .inl q_from)), (ra 9, .inl (kI, 40, .inl q_to)), (ra 10, .inl (kI, 6, .inl q_goal)), (ra 14, .inl (kI, 12, .inl q_reach)), (ra 17, .inl (kZ, 168, .inl f3))]) hk1 ht hP1 hD1
  clear hP hD hPc hDc hFc hJn hP1 hD1 hk1
  have hP : va_P (dC, dI) vwCl [(ra 11, .inl (kI, 1019, .inl q_now)), (m0, .inr (11, oX11 ra x0)), (ra 2, .inl (kI, 8, .inl q_told)), (ra 8, .inl (kI, 40, .inl q_from)), (ra 9, .inl (kI, 40, .inl q_to)), (ra 10, .inl (kI, 6, .inl q_goal)), (ra 14, .inl (kI, 12, .inl q_reach)), (ra 17, .inl (kZ, 168, .inl f3))] H := hPa
  have hD : va_D A [(ra 11, .inl (kI, 1019, .inl q_now)), (m0, .inr (11, oX11 ra x0)), (ra 2, .inl (kI, 8, .inl q_told)), (ra 8, .inl (kI, 40, .inl q_from)), (ra 9, .inl (kI, 40, .inl q_to)), (ra 10, .inl (kI, 6, .inl q_goal)), (ra 14, .inl (kI, 12, .inl q_reach)), (ra 17, .inl (kZ, 168, .inl f3))] := hDa
  clear hPa hDa
  refine W.widen (k := 0) (n := 0) (Nat.le_of_ble_eq_true rfl) (Nat.le_of_ble_eq_true rfl) ?_
  refine lv_aload_n hx hb dX11_hidden_6 rfl (lv_at hl 0 rfl) ?_
  refine lv_iload_n hx hb dX11_hidden_7 rfl (lv_at hl 1 rfl) ?_
  refine lv_iload_n hx hb dX11_hidden_8 rfl (lv_at hl 2 rfl) ?_
  obtain ⟨hPc, hDc, hFc, hJn⟩ := cl_a (wc := [(m0, .inr (11, oX11 ra x0)), (ra 11, .inl (kI, 1019, .inl q_now))]) (wr := [(ra 2, .inl (kI, 8, .inl q_told)), (ra 8, .inl (kI, 40, .inl q_from)), (ra 9, .inl (kI, 40, .inl q_to)), (ra 10, .inl (kI, 6, .inl q_goal)), (ra 14, .inl (kI, 12, .inl q_reach)), (ra 17, .inl (kZ, 168, .inl f3))]) hP hD hS hA [1, 0] [2, 3, 4, 5, 6, 7] rfl rfl (by decide +kernel)
  refine va_calli (va_runV (As := [.int p0, .int p1]) (rest := [.int r1]) ⟨hx, hb, hml, hown, hts⟩ (s11_addresses l dC dI kB kI kJ kZ kC kS H.size m0 ra x0 q_now p0 p1 (hX) (hq_now) (hp0) (hp1)) (cwV 2 hts gX11_hidden_X11_addresses rfl rfl rfl (by decide +kernel) ⟨Nat.le_of_ble_eq_true rfl, Nat.le_of_ble_eq_true rfl⟩) ⟨fun a U g mk q => by obtain ⟨q0, q1, qP, qE, qD⟩ := q; exact ⟨q0, q1, qP, kE_call qE, qD⟩, va_recv hK hP (ci := 11) (q0 := 1) rfl rfl, fun U hU hW => ⟨rfl, by rw [hU], by rw [hU]; exact hPc, kE_warm hW hE, hDc.weaken (fun _ _ _ _ => trivial)⟩⟩ rfl rfl hl.1 rfl (lv_room (Nat.le_of_ble_eq_true rfl)) dX11_hidden_9 ⟨Nat.le_of_ble_eq_true rfl, Nat.le_of_ble_eq_true rfl⟩) hS (fun q _ h => hFc q h) hFc (fun r4 u t H locs ht hvm w5 hB hz1 hk1 hS => ?_)
  obtain ⟨hP1, hD1⟩ := hB
  try dsimp only at w5
  obtain ⟨hPa, hDa⟩ := hJn (w1 := [(m0, .inr (11, oX11 ra x0)), (ra 11, .inl (kI, 1019, .inl q_now))]) hk1 ht hP1 hD1
  clear hP hD hPc hDc hFc hJn hP1 hD1 hk1
  have hP : va_P (dC, dI) vwCl [(ra 2, .inl (kI, 8, .inl q_told)), (ra 8, .inl (kI, 40, .inl q_from)), (ra 9, .inl (kI, 40, .inl q_to)), (ra 10, .inl (kI, 6, .inl q_goal)), (ra 14, .inl (kI, 12, .inl q_reach)), (ra 17, .inl (kZ, 168, .inl f3)), (m0, .inr (11, oX11 ra x0)), (ra 11, .inl (kI, 1019, .inl q_now))] H := hPa
  have hD : va_D A [(ra 2, .inl (kI, 8, .inl q_told)), (ra 8, .inl (kI, 40, .inl q_from)), (ra 9, .inl (kI, 40, .inl q_to)), (ra 10, .inl (kI, 6, .inl q_goal)), (ra 14, .inl (kI, 12, .inl q_reach)), (ra 17, .inl (kZ, 168, .inl f3)), (m0, .inr (11, oX11 ra x0)), (ra 11, .inl (kI, 1019, .inl q_now))] := hDa
  clear hPa hDa
  refine W.widen (k := 0) (n := 0) (Nat.le_of_ble_eq_true rfl) (Nat.le_of_ble_eq_true rfl) ?_
  refine lv_iconst (v := (-1)) hx hb dX11_hidden_12 ic_m1 ?_
  refine lv_ixor hx hb dX11_hidden_13 ?_
  refine lv_topi (fun z6 _ => ?_)
  refine lv_iand hx hb dX11_hidden_14 ?_
  refine lv_topi (fun z7 _ => ?_)
  have hPD9 := cl_s (wc := [(m0, .inr (11, oX11 ra x0)), (ra 2, .inl (kI, 8, .inl q_told)), (ra 8, .inl (kI, 40, .inl q_from)), (ra 9, .inl (kI, 40, .inl q_to)), (ra 10, .inl (kI, 6, .inl q_goal)), (ra 11, .inl (kI, 1019, .inl q_now)), (ra 14, .inl (kI, 12, .inl q_reach)), (ra 17, .inl (kZ, 168, .inl f3))]) hP hD [6, 0, 1, 2, 3, 7, 4, 5] rfl (by decide +kernel)
  have hP9 := hPD9.1
  have hD9 := hPD9.2
  exact W.iret (v := z7) hx hb hr (fun t ht hW => ⟨⟨z7, (), rfl, trivial, f3, by rw [ht]; exact hP9, hD9⟩, hS.F ht⟩) hS.2.2 dX11_hidden_15
