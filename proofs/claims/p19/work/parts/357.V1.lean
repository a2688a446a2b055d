def rm_s11_takeHalf_kindx : Room := { frames := 0, cells := 0, slots := 0, locals := 0 }
set_option maxHeartbeats 4000000 in
set_option maxRecDepth 100000 in
theorem s11_takeHalf_kindx (l : Launch) (dC : Nat → ClassId) (dI : Nat → Nat → Nat) (kB kI kJ kZ kC kS : ClassId) (sz : Nat) (b0 : Nat) (fr : Nat → Int32) : Met l yX11_takeHalf wsX11_takeHalf rm_s11_takeHalf_kindx (va_Pc [.ref b0] (fun U => U.heap.size = sz ∧ va_P (dC, dI) vwCl [(b0, .inl (kI, 24, .inl fr))] U.heap ∧ kE dC dI kB kI kJ kZ kC kS U ∧ va_D (fun _ => True) [(b0, .inl (kI, 24, .inl fr))])) (va_Qv (fun (_ : Unit) => True) (fun _ t => ∃ (fr' : Nat → Int32), (∀ j : Nat, j < 12 → fr' j = fr (12 + j)) ∧ (∀ j : Nat, 12 ≤ j → fr' j = fr j) ∧ va_P (dC, dI) vwCl [(b0, .inl (kI, 24, .inl fr'))] t.heap ∧ va_D (va_A [(b0, .inl (kI, 24, .inl fr))] sz) [(b0, .inl (kI, 24, .inl fr'))]) (va_A [(b0, .inl (kI, 24, .inl fr))] sz)) 0 0 (va_A [(b0, .inl (kI, 24, .inl fr))] sz) := by
  refine Met.ofW (cc := cX11_takeHalf) (maxL := 2) (ret := none) (by decide) rfl ?_
  intro p e s m args0 below meth c s₁ B hml hv
  obtain ⟨hargs, hsz, hP, hE, hD0⟩ := hv
  have hx := B.exec
  have hb := B.bytes
  have hr := B.returns
  have hts := atoms_spec (ws := wsX11_takeHalf) B.pre
  have hown : s.vm.findClass RX11 = some m.cls := findClass_of_methodNamed B.named
  have hlocks := B.notSynchronized
  have hK := hE.1
  subst hsz
  have hD := hD0.self (sz := s.heap.size)
  generalize hAe : va_A [(b0, .inl (kI, 24, .inl fr))] s.heap.size = A at hD ⊢
  have hA : ∀ q : Nat, s.heap.size ≤ q → A q := fun q h => by rw [← hAe]; exact Or.inr h
  have hS : va_S A s.heap s.heap [] := va_S.rf
  have hP : va_P (dC, dI) vwCl [(b0, .inl (kI, 24, .inl fr))] s.heap := hP
  have hl := lv_entry ([.ref b0]) (n := 2) (Nat.le_of_ble_eq_true rfl)
  have hla : entryFrame m args0 2 = entryFrame m ([.ref b0] : List Value).toArray 2 := by rw [hargs]
  rw [hla, lg_entry_eq]
  generalize (lg_sl ([.ref b0]) ++ List.replicate (2 - (lg_sl ([.ref b0])).length) Slot.unset).toArray = ls at hl ⊢
  have hl : lv_has ls 2 [(0, .ref b0)] := hl
  have hJ2 : ∀ (n : Nat) (g2_0 : Nat → Int32) (v2_loc1 : Int32) (H : Heap) (locs : List Loc) (ls : Array Slot), (12 - v2_loc1.toInt).toNat < n → iv 0 12 v2_loc1 → ((∀ j : Nat, (j : Int) < v2_loc1.toInt → g2_0 j = fr (12 + j)) ∧ ∀ j : Nat, v2_loc1.toInt ≤ (j : Int) → g2_0 j = fr j) → va_P (dC, dI) vwCl [(b0, .inl (kI, 24, .inl g2_0))] H → va_D A [(b0, .inl (kI, 24, .inl g2_0))] → va_S A s.heap H locs → lv_has ls 2 [(0, .ref b0), (1, .int v2_loc1)] → W p l e (headSpec wsX11_takeHalf rm_s11_takeHalf_kindx).room s m args0 below meth c H locs (0) (0) (MQ below (va_Qv (fun (_ : Unit) => True) (fun _ t => ∃ (fr' : Nat → Int32), (∀ j : Nat, j < 12 → fr' j = fr (12 + j)) ∧ (∀ j : Nat, 12 ≤ j → fr' j = fr j) ∧ va_P (dC, dI) vwCl [(b0, .inl (kI, 24, .inl fr'))] t.heap ∧ va_D A [(b0, .inl (kI, 24, .inl fr'))]) A) args0 s 0 0 A) (F0 m 2 ls []) := by
    intro n
    induction n with
    | zero => intro g2_0 v2_loc1 H locs ls hm2; exact absurd hm2 (Nat.not_lt_zero _)
    | succ n ih2 =>
      intro g2_0 v2_loc1 H locs ls hm2 h2_1 hha_2 hP hD hS hl
      refine lv_iload_n hx hb dX11_takeHalf_2 rfl (lv_at hl 1 rfl) ?_
      refine lv_aload_n hx hb dX11_takeHalf_3 rfl (lv_at hl 0 rfl) ?_
      refine va_alen (v := 24) hx hb hK hP 0 1 rfl rfl rfl dX11_takeHalf_4 ?_
      refine lv_iconst (v := 2) hx hb dX11_takeHalf_5 ic_2 ?_
      refine lv_idiv hx hb dX11_takeHalf_6 (by decide) ?_
      refine lv_topi (fun z1 e2 => ?_)
      obtain rfl : z1 = (12 : Int32) := e2.trans (by decide)
      refine lv_icmp_ge (tgt := 27) hx hb dX11_takeHalf_7 rfl (fun c3 => ?_) (fun c3 => ?_)
      · have b4 : iv 12 12 v2_loc1 := iv_leR c3 ivk_12 h2_1 (by decide) (by decide)
        have hP9 := hP
        have hD9 := hD
        exact W.vret hx hb hr (fun t ht hW => ⟨⟨(), rfl, trivial, g2_0, (show ∀ j : Nat, j < 12 → g2_0 j = fr (12 + j) from fun j hj => hha_2.1 j (by have q := c3; have q2 := Int32.le_iff_toInt_le.mp q; rw [show ((12 : Int32)).toInt = 12 from by decide] at q2; omega)), (show ∀ j : Nat, 12 ≤ j → g2_0 j = fr j from fun j hj => hha_2.2 j (by have q := b4; have q2 := q.2; omega)), by rw [ht]; exact hP9, hD9⟩, hS.F ht⟩) hS.2.2 dX11_takeHalf_27
      · have b5 : iv 0 11 v2_loc1 := iv_ltL (Int32.not_le.mp c3) h2_1 ivk_12 (by decide) (by decide)
        refine lv_aload_n hx hb dX11_takeHalf_10 rfl (lv_at hl 0 rfl) ?_
        refine lv_iload_n hx hb dX11_takeHalf_11 rfl (lv_at hl 1 rfl) ?_
        refine lv_aload_n hx hb dX11_takeHalf_12 rfl (lv_at hl 0 rfl) ?_
        refine lv_aload_n hx hb dX11_takeHalf_13 rfl (lv_at hl 0 rfl) ?_
        refine va_alen (v := 24) hx hb hK hP 0 1 rfl rfl rfl dX11_takeHalf_14 ?_
        refine lv_iconst (v := 2) hx hb dX11_takeHalf_15 ic_2 ?_
        refine lv_idiv hx hb dX11_takeHalf_16 (by decide) ?_
        refine lv_topi (fun z6 e7 => ?_)
        obtain rfl : z6 = (12 : Int32) := e7.trans (by decide)
        refine lv_iload_n hx hb dX11_takeHalf_17 rfl (lv_at hl 1 rfl) ?_
        refine lv_iadd hx hb dX11_takeHalf_18 ?_
        have b8 : iv 12 23 (12 + v2_loc1) := iv_add ivk_12 b5 (by decide) (by decide) (by decide) (by decide)
        refine va_iald hx hb hK hP 0 1 rfl rfl (iv_in b8 (by decide) (by decide)) dX11_takeHalf_19 ?_
        refine va_iast hx hb hK hP hD hS 0 1 rfl rfl (iv_in b5 (by decide) (by decide)) dX11_takeHalf_20 (fun H locs hPa hDa hS => ?_)
        clear hP hD
        have hP : va_P (dC, dI) vwCl [(b0, .inl (kI, 24, .inl (upd g2_0 v2_loc1.toNatClampNeg (g2_0 (12 + v2_loc1).toNatClampNeg))))] H := hPa
        have hD : va_D A [(b0, .inl (kI, 24, .inl (upd g2_0 v2_loc1.toNatClampNeg (g2_0 (12 + v2_loc1).toNatClampNeg))))] := hDa
        clear hPa hDa
        have hxa : (∀ j : Nat, (j : Int) < (v2_loc1 + Int32.ofInt 1).toInt → (upd g2_0 v2_loc1.toNatClampNeg (g2_0 (12 + v2_loc1).toNatClampNeg)) j = fr (12 + j)) ∧ ∀ j : Nat, (v2_loc1 + Int32.ofInt 1).toInt ≤ (j : Int) → (upd g2_0 v2_loc1.toNatClampNeg (g2_0 (12 + v2_loc1).toNatClampNeg)) j = fr j := half_st hha_2 b5 (by decide) (by decide)
        generalize (upd g2_0 v2_loc1.toNatClampNeg (g2_0 (12 + v2_loc1).toNatClampNeg)) = f9 at hP hD hxa
        refine lv_iinc (v := v2_loc1 + Int32.ofInt 1) (lv' := [(1, .int (v2_loc1 + Int32.ofInt 1)), (0, .ref b0)]) hx hb dX11_takeHalf_21 hl (k := 1) rfl (rfl) (Nat.le_of_ble_eq_true rfl) rfl (fun ls hl => ?_)
        have b11 : iv 1 12 (v2_loc1 + Int32.ofInt 1) := iv_add b5 ivo_1 (by decide) (by decide) (by decide) (by decide)
        refine lv_goto (tgt := 2) hx hb dX11_takeHalf_24 rfl ?_
        exact ih2 f9 (v2_loc1 + Int32.ofInt 1) _ _ _ (ms_up (c := 1) (d := 0) b5 hm2 (by decide) (iv_inc 1 b5 (by decide) (by decide) (by decide) (by decide)) (by decide) rfl) ((iv_w b11 (by decide) (by decide))) ((show (∀ j : Nat, (j : Int) < (v2_loc1 + Int32.ofInt 1).toInt → f9 j = fr (12 + j)) ∧ ∀ j : Nat, (v2_loc1 + Int32.ofInt 1).toInt ≤ (j : Int) → f9 j = fr j from hxa)) (hP) (hD) hS (lv_sub hl [1, 0] rfl)
  refine lv_iconst (v := 0) hx hb dX11_takeHalf_0 ic_0 ?_
  refine lv_istore_n (lv' := [(1, .int 0), (0, .ref b0)]) hx hb dX11_takeHalf_1 rfl hl (Nat.le_of_ble_eq_true rfl) rfl (fun ls hl => ?_)
  exact hJ2 _ fr 0 _ _ _ (Nat.lt_succ_self _) ((iv_w ivk_0 (by decide) (by decide))) ((show (∀ j : Nat, (j : Int) < ((0 : Int32)).toInt → fr j = fr (12 + j)) ∧ ∀ j : Nat, ((0 : Int32)).toInt ≤ (j : Int) → fr j = fr j from half_0)) (hP) (hD) hS (lv_sub hl [1, 0] rfl)
def rm_s11_takeHalf_goalx : Room := { frames := 0, cells := 0, slots := 0, locals := 0 }
set_option maxHeartbeats 4000000 in
set_option maxRecDepth 100000 in
theorem s11_takeHalf_goalx (l : Launch) (dC : Nat → ClassId) (dI : Nat → Nat → Nat) (kB kI kJ kZ kC kS : ClassId) (sz : Nat) (b0 : Nat) (fr : Nat → Int32) (hfr : fI (fun _ => 0) (fun _ => 11) fr) : Met l yX11_takeHalf wsX11_takeHalf rm_s11_takeHalf_goalx (va_Pc [.ref b0] (fun U => U.heap.size = sz ∧ va_P (dC, dI) vwCl [(b0, .inl (kI, 6, .inl fr))] U.heap ∧ kE dC dI kB kI kJ kZ kC kS U ∧ va_D (fun _ => True) [(b0, .inl (kI, 6, .inl fr))])) (va_Qv (fun (_ : Unit) => True) (fun _ t => ∃ (fr' : Nat → Int32), fI (fun _ => 0) (fun _ => 11) fr' ∧ (∀ j : Nat, j < 3 → fr' j = fr (3 + j)) ∧ (∀ j : Nat, 3 ≤ j → fr' j = fr j) ∧ va_P (dC, dI) vwCl [(b0, .inl (kI, 6, .inl fr'))] t.heap ∧ va_D (va_A [(b0, .inl (kI, 6, .inl fr))] sz) [(b0, .inl (kI, 6, .inl fr'))]) (va_A [(b0, .inl (kI, 6, .inl fr))] sz)) 0 0 (va_A [(b0, .inl (kI, 6, .inl fr))] sz) := by
  refine Met.ofW (cc := cX11_takeHalf) (maxL := 2) (ret := none) (by decide) rfl ?_
  intro p e s m args0 below meth c s₁ B hml hv
  obtain ⟨hargs, hsz, hP, hE, hD0⟩ := hv
  have hx := B.exec
  have hb := B.bytes
  have hr := B.returns
  have hts := atoms_spec (ws := wsX11_takeHalf) B.pre
  have hown : s.vm.findClass RX11 = some m.cls := findClass_of_methodNamed B.named
  have hlocks := B.notSynchronized
  have hK := hE.1
  subst hsz
  have hD := hD0.self (sz := s.heap.size)
  generalize hAe : va_A [(b0, .inl (kI, 6, .inl fr))] s.heap.size = A at hD ⊢
  have hA : ∀ q : Nat, s.heap.size ≤ q → A q := fun q h => by rw [← hAe]; exact Or.inr h
  have hS : va_S A s.heap s.heap [] := va_S.rf
  have hP : va_P (dC, dI) vwCl [(b0, .inl (kI, 6, .inl fr))] s.heap := hP
  have hl := lv_entry ([.ref b0]) (n := 2) (Nat.le_of_ble_eq_true rfl)
  have hla : entryFrame m args0 2 = entryFrame m ([.ref b0] : List Value).toArray 2 := by rw [hargs]
  rw [hla, lg_entry_eq]
  generalize (lg_sl ([.ref b0]) ++ List.replicate (2 - (lg_sl ([.ref b0])).length) Slot.unset).toArray = ls at hl ⊢
  have hl : lv_has ls 2 [(0, .ref b0)] := hl
  have hJ2 : ∀ (n : Nat) (g2_0 : Nat → Int32) (v2_loc1 : Int32) (H : Heap) (locs : List Loc) (ls : Array Slot), (3 - v2_loc1.toInt).toNat < n → fI (fun _ => 0) (fun _ => 11) g2_0 → iv 0 3 v2_loc1 → ((∀ j : Nat, (j : Int) < v2_loc1.toInt → g2_0 j = fr (3 + j)) ∧ ∀ j : Nat, v2_loc1.toInt ≤ (j : Int) → g2_0 j = fr j) → va_P (dC, dI) vwCl [(b0, .inl (kI, 6, .inl g2_0))] H → va_D A [(b0, .inl (kI, 6, .inl g2_0))] → va_S A s.heap H locs → lv_has ls 2 [(0, .ref b0), (1, .int v2_loc1)] → W p l e (headSpec wsX11_takeHalf rm_s11_takeHalf_goalx).room s m args0 below meth c H locs (0) (0) (MQ below (va_Qv (fun (_ : Unit) => True) (fun _ t => ∃ (fr' : Nat → Int32), fI (fun _ => 0) (fun _ => 11) fr' ∧ (∀ j : Nat, j < 3 → fr' j = fr (3 + j)) ∧ (∀ j : Nat, 3 ≤ j → fr' j = fr j) ∧ va_P (dC, dI) vwCl [(b0, .inl (kI, 6, .inl fr'))] t.heap ∧ va_D A [(b0, .inl (kI, 6, .inl fr'))]) A) args0 s 0 0 A) (F0 m 2 ls []) := by
    intro n
    induction n with
    | zero => intro g2_0 v2_loc1 H locs ls hm2; exact absurd hm2 (Nat.not_lt_zero _)
    | succ n ih2 =>
      intro g2_0 v2_loc1 H locs ls hm2 hI2_0 h2_2 hha_2 hP hD hS hl
      refine lv_iload_n hx hb dX11_takeHalf_2 rfl (lv_at hl 1 rfl) ?_
      refine lv_aload_n hx hb dX11_takeHalf_3 rfl (lv_at hl 0 rfl) ?_
      refine va_alen (v := 6) hx hb hK hP 0 1 rfl rfl rfl dX11_takeHalf_4 ?_
      refine lv_iconst (v := 2) hx hb dX11_takeHalf_5 ic_2 ?_
      refine lv_idiv hx hb dX11_takeHalf_6 (by decide) ?_
      refine lv_topi (fun z1 e2 => ?_)
      obtain rfl : z1 = (3 : Int32) := e2.trans (by decide)
      refine lv_icmp_ge (tgt := 27) hx hb dX11_takeHalf_7 rfl (fun c3 => ?_) (fun c3 => ?_)
      · have b4 : iv 3 3 v2_loc1 := iv_leR c3 ivk_3 h2_2 (by decide) (by decide)
        have hP9 := hP
        have hD9 := hD
        exact W.vret hx hb hr (fun t ht hW => ⟨⟨(), rfl, trivial, g2_0, hI2_0, (show ∀ j : Nat, j < 3 → g2_0 j = fr (3 + j) from fun j hj => hha_2.1 j (by have q := c3; have q2 := Int32.le_iff_toInt_le.mp q; rw [show ((3 : Int32)).toInt = 3 from by decide] at q2; omega)), (show ∀ j : Nat, 3 ≤ j → g2_0 j = fr j from fun j hj => hha_2.2 j (by have q := b4; have q2 := q.2; omega)), by rw [ht]; exact hP9, hD9⟩, hS.F ht⟩) hS.2.2 dX11_takeHalf_27
      · have b5 : iv 0 2 v2_loc1 := iv_ltL (Int32.not_le.mp c3) h2_2 ivk_3 (by decide) (by decide)
        refine lv_aload_n hx hb dX11_takeHalf_10 rfl (lv_at hl 0 rfl) ?_
        refine lv_iload_n hx hb dX11_takeHalf_11 rfl (lv_at hl 1 rfl) ?_
        refine lv_aload_n hx hb dX11_takeHalf_12 rfl (lv_at hl 0 rfl) ?_
        refine lv_aload_n hx hb dX11_takeHalf_13 rfl (lv_at hl 0 rfl) ?_
        refine va_alen (v := 6) hx hb hK hP 0 1 rfl rfl rfl dX11_takeHalf_14 ?_
        refine lv_iconst (v := 2) hx hb dX11_takeHalf_15 ic_2 ?_
        refine lv_idiv hx hb dX11_takeHalf_16 (by decide) ?_
        refine lv_topi (fun z6 e7 => ?_)
        obtain rfl : z6 = (3 : Int32) := e7.trans (by decide)
        refine lv_iload_n hx hb dX11_takeHalf_17 rfl (lv_at hl 1 rfl) ?_
        refine lv_iadd hx hb dX11_takeHalf_18 ?_
        have b8 : iv 3 5 (3 + v2_loc1) := iv_add ivk_3 b5 (by decide) (by decide) (by decide) (by decide)
        refine va_iald hx hb hK hP 0 1 rfl rfl (iv_in b8 (by decide) (by decide)) dX11_takeHalf_19 ?_
        have b9 : iv 0 11 (g2_0 (3 + v2_loc1).toNatClampNeg) := hI2_0 _
        refine va_iast hx hb hK hP hD hS 0 1 rfl rfl (iv_in b5 (by decide) (by decide)) dX11_takeHalf_20 (fun H locs hPa hDa hS => ?_)
        clear hP hD
        have hP : va_P (dC, dI) vwCl [(b0, .inl (kI, 6, .inl (upd g2_0 v2_loc1.toNatClampNeg (g2_0 (3 + v2_loc1).toNatClampNeg))))] H := hPa
        have hD : va_D A [(b0, .inl (kI, 6, .inl (upd g2_0 v2_loc1.toNatClampNeg (g2_0 (3 + v2_loc1).toNatClampNeg))))] := hDa
        clear hPa hDa
        have hf11 : fI (fun _ => 0) (fun _ => 11) (upd g2_0 v2_loc1.toNatClampNeg (g2_0 (3 + v2_loc1).toNatClampNeg)) := fI_u hI2_0 (hI2_0 _)
        have hxa : (∀ j : Nat, (j : Int) < (v2_loc1 + Int32.ofInt 1).toInt → (upd g2_0 v2_loc1.toNatClampNeg (g2_0 (3 + v2_loc1).toNatClampNeg)) j = fr (3 + j)) ∧ ∀ j : Nat, (v2_loc1 + Int32.ofInt 1).toInt ≤ (j : Int) → (upd g2_0 v2_loc1.toNatClampNeg (g2_0 (3 + v2_loc1).toNatClampNeg)) j = fr j := half_st hha_2 b5 (by decide) (by decide)
        generalize (upd g2_0 v2_loc1.toNatClampNeg (g2_0 (3 + v2_loc1).toNatClampNeg)) = f10 at hP hD hf11 hxa
        refine lv_iinc (v := v2_loc1 + Int32.ofInt 1) (lv' := [(1, .int (v2_loc1 + Int32.ofInt 1)), (0, .ref b0)]) hx hb dX11_takeHalf_21 hl (k := 1) rfl (rfl) (Nat.le_of_ble_eq_true rfl) rfl (fun ls hl => ?_)
        have b12 : iv 1 3 (v2_loc1 + Int32.ofInt 1) := iv_add b5 ivo_1 (by decide) (by decide) (by decide) (by decide)
        refine lv_goto (tgt := 2) hx hb dX11_takeHalf_24 rfl ?_
        exact ih2 f10 (v2_loc1 + Int32.ofInt 1) _ _ _ (ms_up (c := 1) (d := 0) b5 hm2 (by decide) (iv_inc 1 b5 (by decide) (by decide) (by decide) (by decide)) (by decide) rfl) (hf11) ((iv_w b12 (by decide) (by decide))) ((show (∀ j : Nat, (j : Int) < (v2_loc1 + Int32.ofInt 1).toInt → f10 j = fr (3 + j)) ∧ ∀ j : Nat, (v2_loc1 + Int32.ofInt 1).toInt ≤ (j : Int) → f10 j = fr j from hxa)) (hP) (hD) hS (lv_sub hl [1, 0] rfl)
  refine lv_iconst (v := 0) hx hb dX11_takeHalf_0 ic_0 ?_
  refine lv_istore_n (lv' := [(1, .int 0), (0, .ref b0)]) hx hb dX11_takeHalf_1 rfl hl (Nat.le_of_ble_eq_true rfl) rfl (fun ls hl => ?_)
  exact hJ2 _ fr 0 _ _ _ (Nat.lt_succ_self _) (hfr) ((iv_w ivk_0 (by decide) (by decide))) ((show (∀ j : Nat, (j : Int) < ((0 : Int32)).toInt → fr j = fr (3 + j)) ∧ ∀ j : Nat, ((0 : Int32)).toInt ≤ (j : Int) → fr j = fr j from half_0)) (hP) (hD) hS (lv_sub hl [1, 0] rfl)
def rm_s8_hasRoomFor_no : Room := { frames := 0, cells := 0, slots := 0, locals := 0 }
set_option maxHeartbeats 4000000 in
set_option maxRecDepth 100000 in
theorem s8_hasRoomFor_no (l : Launch) (dC : Nat → ClassId) (dI : Nat → Nat → Nat) (kB kI kJ kZ kC kS : ClassId) (sz : Nat) (ot : Nat) (t_bytes : Nat) (x_t : Nat → Int32) (hx_t : fI lX8 hX8 x_t) (hfl : iv 681 700 (x_t 0)) : Met l yX8_hasRoomFor wsX8_hasRoomFor rm_s8_hasRoomFor_no (va_Pc [.ref ot, .int 20] (fun U => U.heap.size = sz ∧ va_P (dC, dI) vwCl [(ot, .inr (8, oX8 t_bytes x_t))] U.heap ∧ kE dC dI kB kI kJ kZ kC kS U ∧ va_D (fun _ => True) [(ot, .inr (8, oX8 t_bytes x_t))])) (va_Qi (fun (r : Int32) (_ : Unit) => iv 0 0 r) (fun _ t => va_P (dC, dI) vwCl [(ot, .inr (8, oX8 t_bytes x_t))] t.heap ∧ va_D (va_A [(ot, .inr (8, oX8 t_bytes x_t))] sz) [(ot, .inr (8, oX8 t_bytes x_t))]) (va_A [(ot, .inr (8, oX8 t_bytes x_t))] sz)) 0 0 (va_A [(ot, .inr (8, oX8 t_bytes x_t))] sz) := by
  refine Met.ofW (cc := cX8_hasRoomFor) (maxL := 2) (ret := (some .boolean)) (by decide) rfl ?_
  intro p e s m args0 below meth c s₁ B hml hv
  obtain ⟨hargs, hsz, hP, hE, hD0⟩ := hv
  have hx := B.exec
  have hb := B.bytes
  have hr := B.returns
  have hts := atoms_spec (ws := wsX8_hasRoomFor) B.pre
  have hown : s.vm.findClass RX8 = some m.cls := findClass_of_methodNamed B.named
  have hlocks := B.notSynchronized
  have hK := hE.1
  have hin8 : ∀ w ∈ wsX80, w ∈ wsX8_hasRoomFor := fun _ h9 => List.mem_cons_of_mem _ (List.mem_append_right _ h9)
  have hw_0 := hts (.fieldLink RX8 15 "PathProber$Tape" "length" "I") (List.mem_of_getElem? (i := 1) rfl)
  subst hsz
  have hD := hD0.self (sz := s.heap.size)
  generalize hAe : va_A [(ot, .inr (8, oX8 t_bytes x_t))] s.heap.size = A at hD ⊢
  have hA : ∀ q : Nat, s.heap.size ≤ q → A q := fun q h => by rw [← hAe]; exact Or.inr h
  have hS : va_S A s.heap s.heap [] := va_S.rf
  have hP : va_P (dC, dI) vwCl [(ot, .inr (8, oX8 t_bytes x_t))] s.heap := hP
  have hl := lv_entry ([.ref ot, .int 20]) (n := 2) (Nat.le_of_ble_eq_true rfl)
  have hla : entryFrame m args0 2 = entryFrame m ([.ref ot, .int 20] : List Value).toArray 2 := by rw [hargs]
  rw [hla, lg_entry_eq]
  generalize (lg_sl ([.ref ot, .int 20]) ++ List.replicate (2 - (lg_sl ([.ref ot, .int 20])).length) Slot.unset).toArray = ls at hl ⊢
  have hl : lv_has ls 2 [(0, .ref ot), (1, .int 20)] := hl
  refine lv_aload_n hx hb dX8_hasRoomFor_0 rfl (lv_at hl 0 rfl) ?_
  refine va_get (D := (dC, dI)) (ci := 8) (v := .int (x_t 0)) (C := RX8) (T := TX8) (N := 2) hx hb hts hin8 hown hK hP 0 rfl rfl 1 (Nat.le_of_ble_eq_true rfl) hw_0 (fun _ h9 => h9) rfl dX8_hasRoomFor_1 ?_
  refine lv_iload_n hx hb dX8_hasRoomFor_4 rfl (lv_at hl 1 rfl) ?_
  refine lv_iadd hx hb dX8_hasRoomFor_5 ?_
  refine iv_top (a := 701) (b := 720) (iv_add hfl ivk_20 (by decide) (by decide) (by decide) (by decide)) (fun z1 b2 => ?_)
  refine lv_sipush (v := 700) hx hb dX8_hasRoomFor_6 (by decide) ?_
  refine lv_icmp_gt (tgt := 16) hx hb dX8_hasRoomFor_9 rfl (fun _ => ?_) (fun c9 => absurd (iv_lt ivk_700 b2 (by decide)) c9)
  refine lv_iconst (v := 0) hx hb dX8_hasRoomFor_16 ic_0 ?_
  have hP9 := hP
  have hD9 := hD
  exact W.zret (v := 0) (ty := .boolean) hx hb hr rfl (fun t ht hW => ⟨⟨0, (), rfl, ivk_0, by rw [ht]; exact hP9, hD9⟩, hS.F ht⟩) hS.2.2 dX8_hasRoomFor_17
