theorem kEq2 {args : Array Value} {s : State} {t u : Term} {a : Nat} (h : (Cond.eq t u).before args s = true) (ht : t.eval args s none [] s = some (.ref a)) : u.eval args s none [] s = some (.ref a) := by
  cases hu : u.eval args s none [] s with
  | none => simp [Cond.before, Cond.holds, Cond.value, ht, hu] at h
  | some w =>
    simp only [Cond.before, Cond.holds, Cond.value, ht, hu] at h
    cases w <;> simp_all
set_option maxHeartbeats 8000000 in
set_option maxRecDepth 100000 in
theorem law_texts {p : Program} {s : State} {m : MethodId} {meth : Method} {c : Code} {b L : Nat} {xs : Nat → Int32} {A : Nat → Prop} (hA2 : ∀ q, A q → s.heap.size ≤ q) (C0 : lw_At p s m meth c b L xs) : ∃ adK adV : Nat → Nat, kL adK adV A s := by
  obtain ⟨hx, hb, hr, hml, hown, hts0, hX, hbl, hlocks, hgv⟩ := C0
  have hs := flat_of_before _ hgv
  have hA3 : ∀ a : Nat, a < s.heap.size → ¬ A a := fun a h q => absurd h (Nat.not_lt.mpr (hA2 a q))
  obtain ⟨k0, v0, hk0, he0⟩ := vk_Sof (args := #[Value.ref b]) (s := s) (N := 1) (tm := fun _ => .string RX5 64) (len := [6]) (byt := [[114, 111, 117, 116, 101, 114]]) (A := A) (by intro i hi; obtain rfl : i = 0 := (by omega); decide) (by intro i hi; obtain rfl : i = 0 := (by omega); exact (hs (.exactly (.string RX5 64) "java/lang/String") (by decide +kernel))) (by intro i hi; obtain rfl : i = 0 := (by omega); exact (hs (.eq (.field (.string RX5 64) "java/lang/String" "coder" "B") (.int 0)) (by decide +kernel))) (by intro i hi; obtain rfl : i = 0 := (by omega); exact (hs (.arrayOf (.field (.string RX5 64) "java/lang/String" "value" "[B") .byte) (by decide +kernel))) (by intro i hi; obtain rfl : i = 0 := (by omega); exact (hs (.eq (.length (.field (.string RX5 64) "java/lang/String" "value" "[B")) (.int 6)) (by decide +kernel))) (by
    intro i hi; obtain rfl : i = 0 := (by omega)
    intro j hj
    match j, hj with
    | 0, _ => exact (hs (.eq (.elem (.field (.string RX5 64) "java/lang/String" "value" "[B") (.int 0)) (.int 114)) (by decide +kernel))
    | 1, _ => exact (hs (.eq (.elem (.field (.string RX5 64) "java/lang/String" "value" "[B") (.int 1)) (.int 111)) (by decide +kernel))
    | 2, _ => exact (hs (.eq (.elem (.field (.string RX5 64) "java/lang/String" "value" "[B") (.int 2)) (.int 117)) (by decide +kernel))
    | 3, _ => exact (hs (.eq (.elem (.field (.string RX5 64) "java/lang/String" "value" "[B") (.int 3)) (.int 116)) (by decide +kernel))
    | 4, _ => exact (hs (.eq (.elem (.field (.string RX5 64) "java/lang/String" "value" "[B") (.int 4)) (.int 101)) (by decide +kernel))
    | 5, _ => exact (hs (.eq (.elem (.field (.string RX5 64) "java/lang/String" "value" "[B") (.int 5)) (.int 114)) (by decide +kernel))
    | j + 6, hj => exact absurd hj (by show ¬ j + 6 < 6; omega)) (by intro i j hi hj hij; omega) hA3
  obtain ⟨k1, v1, hk1, he1⟩ := vk_Sof (args := #[Value.ref b]) (s := s) (N := 1) (tm := fun _ => .string RX5 73) (len := [4]) (byt := [[108, 105, 110, 107]]) (A := A) (by intro i hi; obtain rfl : i = 0 := (by omega); decide) (by intro i hi; obtain rfl : i = 0 := (by omega); exact (hs (.exactly (.string RX5 73) "java/lang/String") (by decide +kernel))) (by intro i hi; obtain rfl : i = 0 := (by omega); exact (hs (.eq (.field (.string RX5 73) "java/lang/String" "coder" "B") (.int 0)) (by decide +kernel))) (by intro i hi; obtain rfl : i = 0 := (by omega); exact (hs (.arrayOf (.field (.string RX5 73) "java/lang/String" "value" "[B") .byte) (by decide +kernel))) (by intro i hi; obtain rfl : i = 0 := (by omega); exact (hs (.eq (.length (.field (.string RX5 73) "java/lang/String" "value" "[B")) (.int 4)) (by decide +kernel))) (by
    intro i hi; obtain rfl : i = 0 := (by omega)
    intro j hj
    match j, hj with
    | 0, _ => exact (hs (.eq (.elem (.field (.string RX5 73) "java/lang/String" "value" "[B") (.int 0)) (.int 108)) (by decide +kernel))
    | 1, _ => exact (hs (.eq (.elem (.field (.string RX5 73) "java/lang/String" "value" "[B") (.int 1)) (.int 105)) (by decide +kernel))
    | 2, _ => exact (hs (.eq (.elem (.field (.string RX5 73) "java/lang/String" "value" "[B") (.int 2)) (.int 110)) (by decide +kernel))
    | 3, _ => exact (hs (.eq (.elem (.field (.string RX5 73) "java/lang/String" "value" "[B") (.int 3)) (.int 107)) (by decide +kernel))
    | j + 4, hj => exact absurd hj (by show ¬ j + 4 < 4; omega)) (by intro i j hi hj hij; omega) hA3
  obtain ⟨k2, v2, hk2, he2⟩ := vk_Sof (args := #[Value.ref b]) (s := s) (N := 1) (tm := fun _ => .string RX5 78) (len := [2]) (byt := [[116, 111]]) (A := A) (by intro i hi; obtain rfl : i = 0 := (by omega); decide) (by intro i hi; obtain rfl : i = 0 := (by omega); exact (hs (.exactly (.string RX5 78) "java/lang/String") (by decide +kernel))) (by intro i hi; obtain rfl : i = 0 := (by omega); exact (hs (.eq (.field (.string RX5 78) "java/lang/String" "coder" "B") (.int 0)) (by decide +kernel))) (by intro i hi; obtain rfl : i = 0 := (by omega); exact (hs (.arrayOf (.field (.string RX5 78) "java/lang/String" "value" "[B") .byte) (by decide +kernel))) (by intro i hi; obtain rfl : i = 0 := (by omega); exact (hs (.eq (.length (.field (.string RX5 78) "java/lang/String" "value" "[B")) (.int 2)) (by decide +kernel))) (by
    intro i hi; obtain rfl : i = 0 := (by omega)
    intro j hj
    match j, hj with
    | 0, _ => exact (hs (.eq (.elem (.field (.string RX5 78) "java/lang/String" "value" "[B") (.int 0)) (.int 116)) (by decide +kernel))
    | 1, _ => exact (hs (.eq (.elem (.field (.string RX5 78) "java/lang/String" "value" "[B") (.int 1)) (.int 111)) (by decide +kernel))
    | j + 2, hj => exact absurd hj (by show ¬ j + 2 < 2; omega)) (by intro i j hi hj hij; omega) hA3
  obtain ⟨k3, v3, hk3, he3⟩ := vk_Sof (args := #[Value.ref b]) (s := s) (N := 1) (tm := fun _ => .string RX5 83) (len := [4]) (byt := [[108, 111, 115, 115]]) (A := A) (by intro i hi; obtain rfl : i = 0 := (by omega); decide) (by intro i hi; obtain rfl : i = 0 := (by omega); exact (hs (.exactly (.string RX5 83) "java/lang/String") (by decide +kernel))) (by intro i hi; obtain rfl : i = 0 := (by omega); exact (hs (.eq (.field (.string RX5 83) "java/lang/String" "coder" "B") (.int 0)) (by decide +kernel))) (by intro i hi; obtain rfl : i = 0 := (by omega); exact (hs (.arrayOf (.field (.string RX5 83) "java/lang/String" "value" "[B") .byte) (by decide +kernel))) (by intro i hi; obtain rfl : i = 0 := (by omega); exact (hs (.eq (.length (.field (.string RX5 83) "java/lang/String" "value" "[B")) (.int 4)) (by decide +kernel))) (by
    intro i hi; obtain rfl : i = 0 := (by omega)
    intro j hj
    match j, hj with
    | 0, _ => exact (hs (.eq (.elem (.field (.string RX5 83) "java/lang/String" "value" "[B") (.int 0)) (.int 108)) (by decide +kernel))
    | 1, _ => exact (hs (.eq (.elem (.field (.string RX5 83) "java/lang/String" "value" "[B") (.int 1)) (.int 111)) (by decide +kernel))
    | 2, _ => exact (hs (.eq (.elem (.field (.string RX5 83) "java/lang/String" "value" "[B") (.int 2)) (.int 115)) (by decide +kernel))
    | 3, _ => exact (hs (.eq (.elem (.field (.string RX5 83) "java/lang/String" "value" "[B") (.int 3)) (.int 115)) (by decide +kernel))
    | j + 4, hj => exact absurd hj (by show ¬ j + 4 < 4; omega)) (by intro i j hi hj hij; omega) hA3
  obtain ⟨k4, v4, hk4, he4⟩ := vk_Sof (args := #[Value.ref b]) (s := s) (N := 1) (tm := fun _ => .string RX5 118) (len := [3]) (byt := [[111, 110, 101]]) (A := A) (by intro i hi; obtain rfl : i = 0 := (by omega); decide) (by intro i hi; obtain rfl : i = 0 := (by omega); exact (hs (.exactly (.string RX5 118) "java/lang/String") (by decide +kernel))) (by intro i hi; obtain rfl : i = 0 := (by omega); exact (hs (.eq (.field (.string RX5 118) "java/lang/String" "coder" "B") (.int 0)) (by decide +kernel))) (by intro i hi; obtain rfl : i = 0 := (by omega); exact (hs (.arrayOf (.field (.string RX5 118) "java/lang/String" "value" "[B") .byte) (by decide +kernel))) (by intro i hi; obtain rfl : i = 0 := (by omega); exact (hs (.eq (.length (.field (.string RX5 118) "java/lang/String" "value" "[B")) (.int 3)) (by decide +kernel))) (by
    intro i hi; obtain rfl : i = 0 := (by omega)
    intro j hj
    match j, hj with
    | 0, _ => exact (hs (.eq (.elem (.field (.string RX5 118) "java/lang/String" "value" "[B") (.int 0)) (.int 111)) (by decide +kernel))
    | 1, _ => exact (hs (.eq (.elem (.field (.string RX5 118) "java/lang/String" "value" "[B") (.int 1)) (.int 110)) (by decide +kernel))
    | 2, _ => exact (hs (.eq (.elem (.field (.string RX5 118) "java/lang/String" "value" "[B") (.int 2)) (.int 101)) (by decide +kernel))
    | j + 3, hj => exact absurd hj (by show ¬ j + 3 < 3; omega)) (by intro i j hi hj hij; omega) hA3
  obtain ⟨k5, v5, hk5, he5⟩ := vk_Sof (args := #[Value.ref b]) (s := s) (N := 1) (tm := fun _ => .string RX5 120) (len := [4]) (byt := [[102, 108, 111, 119]]) (A := A) (by intro i hi; obtain rfl : i = 0 := (by omega); decide) (by intro i hi; obtain rfl : i = 0 := (by omega); exact (hs (.exactly (.string RX5 120) "java/lang/String") (by decide +kernel))) (by intro i hi; obtain rfl : i = 0 := (by omega); exact (hs (.eq (.field (.string RX5 120) "java/lang/String" "coder" "B") (.int 0)) (by decide +kernel))) (by intro i hi; obtain rfl : i = 0 := (by omega); exact (hs (.arrayOf (.field (.string RX5 120) "java/lang/String" "value" "[B") .byte) (by decide +kernel))) (by intro i hi; obtain rfl : i = 0 := (by omega); exact (hs (.eq (.length (.field (.string RX5 120) "java/lang/String" "value" "[B")) (.int 4)) (by decide +kernel))) (by
    intro i hi; obtain rfl : i = 0 := (by omega)
    intro j hj
    match j, hj with
    | 0, _ => exact (hs (.eq (.elem (.field (.string RX5 120) "java/lang/String" "value" "[B") (.int 0)) (.int 102)) (by decide +kernel))
    | 1, _ => exact (hs (.eq (.elem (.field (.string RX5 120) "java/lang/String" "value" "[B") (.int 1)) (.int 108)) (by decide +kernel))
    | 2, _ => exact (hs (.eq (.elem (.field (.string RX5 120) "java/lang/String" "value" "[B") (.int 2)) (.int 111)) (by decide +kernel))
    | 3, _ => exact (hs (.eq (.elem (.field (.string RX5 120) "java/lang/String" "value" "[B") (.int 3)) (.int 119)) (by decide +kernel))
    | j + 4, hj => exact absurd hj (by show ¬ j + 4 < 4; omega)) (by intro i j hi hj hij; omega) hA3
  obtain ⟨k6, v6, hk6, he6⟩ := vk_Sof (args := #[Value.ref b]) (s := s) (N := 1) (tm := fun _ => .string RX5 122) (len := [6]) (byt := [[112, 97, 99, 107, 101, 116]]) (A := A) (by intro i hi; obtain rfl : i = 0 := (by omega); decide) (by intro i hi; obtain rfl : i = 0 := (by omega); exact (hs (.exactly (.string RX5 122) "java/lang/String") (by decide +kernel))) (by intro i hi; obtain rfl : i = 0 := (by omega); exact (hs (.eq (.field (.string RX5 122) "java/lang/String" "coder" "B") (.int 0)) (by decide +kernel))) (by intro i hi; obtain rfl : i = 0 := (by omega); exact (hs (.arrayOf (.field (.string RX5 122) "java/lang/String" "value" "[B") .byte) (by decide +kernel))) (by intro i hi; obtain rfl : i = 0 := (by omega); exact (hs (.eq (.length (.field (.string RX5 122) "java/lang/String" "value" "[B")) (.int 6)) (by decide +kernel))) (by
    intro i hi; obtain rfl : i = 0 := (by omega)
    intro j hj
    match j, hj with
    | 0, _ => exact (hs (.eq (.elem (.field (.string RX5 122) "java/lang/String" "value" "[B") (.int 0)) (.int 112)) (by decide +kernel))
    | 1, _ => exact (hs (.eq (.elem (.field (.string RX5 122) "java/lang/String" "value" "[B") (.int 1)) (.int 97)) (by decide +kernel))
    | 2, _ => exact (hs (.eq (.elem (.field (.string RX5 122) "java/lang/String" "value" "[B") (.int 2)) (.int 99)) (by decide +kernel))
    | 3, _ => exact (hs (.eq (.elem (.field (.string RX5 122) "java/lang/String" "value" "[B") (.int 3)) (.int 107)) (by decide +kernel))
    | 4, _ => exact (hs (.eq (.elem (.field (.string RX5 122) "java/lang/String" "value" "[B") (.int 4)) (.int 101)) (by decide +kernel))
    | 5, _ => exact (hs (.eq (.elem (.field (.string RX5 122) "java/lang/String" "value" "[B") (.int 5)) (.int 116)) (by decide +kernel))
    | j + 6, hj => exact absurd hj (by show ¬ j + 6 < 6; omega)) (by intro i j hi hj hij; omega) hA3
  obtain ⟨k7, v7, hk7, he7⟩ := vk_Sof (args := #[Value.ref b]) (s := s) (N := 1) (tm := fun _ => .string RX5 124) (len := [4]) (byt := [[103, 111, 97, 108]]) (A := A) (by intro i hi; obtain rfl : i = 0 := (by omega); decide) (by intro i hi; obtain rfl : i = 0 := (by omega); exact (hs (.exactly (.string RX5 124) "java/lang/String") (by decide +kernel))) (by intro i hi; obtain rfl : i = 0 := (by omega); exact (hs (.eq (.field (.string RX5 124) "java/lang/String" "coder" "B") (.int 0)) (by decide +kernel))) (by intro i hi; obtain rfl : i = 0 := (by omega); exact (hs (.arrayOf (.field (.string RX5 124) "java/lang/String" "value" "[B") .byte) (by decide +kernel))) (by intro i hi; obtain rfl : i = 0 := (by omega); exact (hs (.eq (.length (.field (.string RX5 124) "java/lang/String" "value" "[B")) (.int 4)) (by decide +kernel))) (by
    intro i hi; obtain rfl : i = 0 := (by omega)
    intro j hj
    match j, hj with
    | 0, _ => exact (hs (.eq (.elem (.field (.string RX5 124) "java/lang/String" "value" "[B") (.int 0)) (.int 103)) (by decide +kernel))
    | 1, _ => exact (hs (.eq (.elem (.field (.string RX5 124) "java/lang/String" "value" "[B") (.int 1)) (.int 111)) (by decide +kernel))
    | 2, _ => exact (hs (.eq (.elem (.field (.string RX5 124) "java/lang/String" "value" "[B") (.int 2)) (.int 97)) (by decide +kernel))
    | 3, _ => exact (hs (.eq (.elem (.field (.string RX5 124) "java/lang/String" "value" "[B") (.int 3)) (.int 108)) (by decide +kernel))
    | j + 4, hj => exact absurd hj (by show ¬ j + 4 < 4; omega)) (by intro i j hi hj hij; omega) hA3
  obtain ⟨k8, v8, hk8, he8⟩ := vk_Sof (args := #[Value.ref b]) (s := s) (N := 1) (tm := fun _ => .string RX5 126) (len := [4]) (byt := [[109, 117, 116, 101]]) (A := A) (by intro i hi; obtain rfl : i = 0 := (by omega); decide) (by intro i hi; obtain rfl : i = 0 := (by omega); exact (hs (.exactly (.string RX5 126) "java/lang/String") (by decide +kernel))) (by intro i hi; obtain rfl : i = 0 := (by omega); exact (hs (.eq (.field (.string RX5 126) "java/lang/String" "coder" "B") (.int 0)) (by decide +kernel))) (by intro i hi; obtain rfl : i = 0 := (by omega); exact (hs (.arrayOf (.field (.string RX5 126) "java/lang/String" "value" "[B") .byte) (by decide +kernel))) (by intro i hi; obtain rfl : i = 0 := (by omega); exact (hs (.eq (.length (.field (.string RX5 126) "java/lang/String" "value" "[B")) (.int 4)) (by decide +kernel))) (by
    intro i hi; obtain rfl : i = 0 := (by omega)
    intro j hj
    match j, hj with
    | 0, _ => exact (hs (.eq (.elem (.field (.string RX5 126) "java/lang/String" "value" "[B") (.int 0)) (.int 109)) (by decide +kernel))
    | 1, _ => exact (hs (.eq (.elem (.field (.string RX5 126) "java/lang/String" "value" "[B") (.int 1)) (.int 117)) (by decide +kernel))
    | 2, _ => exact (hs (.eq (.elem (.field (.string RX5 126) "java/lang/String" "value" "[B") (.int 2)) (.int 116)) (by decide +kernel))
    | 3, _ => exact (hs (.eq (.elem (.field (.string RX5 126) "java/lang/String" "value" "[B") (.int 3)) (.int 101)) (by decide +kernel))
    | j + 4, hj => exact absurd hj (by show ¬ j + 4 < 4; omega)) (by intro i j hi hj hij; omega) hA3
  obtain ⟨k9, v9, hk9, he9⟩ := vk_Sof (args := #[Value.ref b]) (s := s) (N := 1) (tm := fun _ => .string RX5 128) (len := [4]) (byt := [[108, 97, 116, 101]]) (A := A) (by intro i hi; obtain rfl : i = 0 := (by omega); decide) (by intro i hi; obtain rfl : i = 0 := (by omega); exact (hs (.exactly (.string RX5 128) "java/lang/String") (by decide +kernel))) (by intro i hi; obtain rfl : i = 0 := (by omega); exact (hs (.eq (.field (.string RX5 128) "java/lang/String" "coder" "B") (.int 0)) (by decide +kernel))) (by intro i hi; obtain rfl : i = 0 := (by omega); exact (hs (.arrayOf (.field (.string RX5 128) "java/lang/String" "value" "[B") .byte) (by decide +kernel))) (by intro i hi; obtain rfl : i = 0 := (by omega); exact (hs (.eq (.length (.field (.string RX5 128) "java/lang/String" "value" "[B")) (.int 4)) (by decide +kernel))) (by
    intro i hi; obtain rfl : i = 0 := (by omega)
    intro j hj
    match j, hj with
    | 0, _ => exact (hs (.eq (.elem (.field (.string RX5 128) "java/lang/String" "value" "[B") (.int 0)) (.int 108)) (by decide +kernel))
    | 1, _ => exact (hs (.eq (.elem (.field (.string RX5 128) "java/lang/String" "value" "[B") (.int 1)) (.int 97)) (by decide +kernel))
    | 2, _ => exact (hs (.eq (.elem (.field (.string RX5 128) "java/lang/String" "value" "[B") (.int 2)) (.int 116)) (by decide +kernel))
    | 3, _ => exact (hs (.eq (.elem (.field (.string RX5 128) "java/lang/String" "value" "[B") (.int 3)) (.int 101)) (by decide +kernel))
    | j + 4, hj => exact absurd hj (by show ¬ j + 4 < 4; omega)) (by intro i j hi hj hij; omega) hA3
  refine ⟨fun k => if k = 0 then k0 0 else if k = 1 then k1 0 else if k = 2 then k2 0 else if k = 3 then k3 0 else if k = 4 then k4 0 else if k = 5 then k5 0 else if k = 6 then k6 0 else if k = 7 then k7 0 else if k = 8 then k8 0 else k9 0, fun k => if k = 0 then v0 0 else if k = 1 then v1 0 else if k = 2 then v2 0 else if k = 3 then v3 0 else if k = 4 then v4 0 else if k = 5 then v5 0 else if k = 6 then v6 0 else if k = 7 then v7 0 else if k = 8 then v8 0 else v9 0, ⟨fun i hi => ?_, trivial⟩, ?_, ?_, ?_⟩
  · match i, hi with
    | 0, _ => exact hk0.1 0 (by decide)
    | 1, _ => exact hk1.1 0 (by decide)
    | 2, _ => exact hk2.1 0 (by decide)
    | 3, _ => exact hk3.1 0 (by decide)
    | 4, _ => exact hk4.1 0 (by decide)
    | 5, _ => exact hk5.1 0 (by decide)
    | 6, _ => exact hk6.1 0 (by decide)
    | 7, _ => exact hk7.1 0 (by decide)
    | 8, _ => exact hk8.1 0 (by decide)
    | 9, _ => exact hk9.1 0 (by decide)
    | i + 10, hi => exact absurd hi (by omega)
  · exact va_Zof (hts0 (.laysStatic "java/lang/String" "COMPACT_STRINGS" "Z") (List.mem_of_getElem? (i := 915) rfl)) (hts0 (.initialized "java/lang/String") (List.mem_of_getElem? (i := 122) rfl)) (va_eqt (hs (.eq (.static "java/lang/String" "COMPACT_STRINGS" "Z") (.int 1)) (by decide +kernel))) hA3
  · exact va_Zqof (hts0 (.laysStatic "jdk/internal/util/Preconditions" "SIOOBE_FORMATTER" "Ljava/util/function/BiFunction;") (List.mem_of_getElem? (i := 931) rfl)) (hts0 (.initialized "jdk/internal/util/Preconditions") (List.mem_of_getElem? (i := 124) rfl)) (hs (.isRef (.static "jdk/internal/util/Preconditions" "SIOOBE_FORMATTER" "Ljava/util/function/BiFunction;")) (by decide +kernel)) hA3
  · exact ⟨vk_R.of (hts0 (.stringRef RX5 64 "router") (List.mem_of_getElem? (i := 901) rfl)) (he0 0 (by decide)), vk_R.of (hts0 (.stringRef RX5 73 "link") (List.mem_of_getElem? (i := 984) rfl)) (he1 0 (by decide)), vk_R.of (hts0 (.stringRef RX5 78 "to") (List.mem_of_getElem? (i := 1002) rfl)) (he2 0 (by decide)), vk_R.of (hts0 (.stringRef RX5 83 "loss") (List.mem_of_getElem? (i := 1008) rfl)) (he3 0 (by decide)), vk_R.of (hts0 (.stringRef RX5 118 "one") (List.mem_of_getElem? (i := 966) rfl)) (he4 0 (by decide)), vk_R.of (hts0 (.stringRef RX5 120 "flow") (List.mem_of_getElem? (i := 967) rfl)) (he5 0 (by decide)), vk_R.of (hts0 (.stringRef RX5 122 "packet") (List.mem_of_getElem? (i := 968) rfl)) (he6 0 (by decide)), vk_R.of (hts0 (.stringRef RX5 124 "goal") (List.mem_of_getElem? (i := 969) rfl)) (he7 0 (by decide)), vk_R.of (hts0 (.stringRef RX5 126 "mute") (List.mem_of_getElem? (i := 982) rfl)) (he8 0 (by decide)), vk_R.of (hts0 (.stringRef RX5 128 "late") (List.mem_of_getElem? (i := 983) rfl)) (he9 0 (by decide)), vk_R.of (hts0 (.stringRef RX11 9 "router") (List.mem_of_getElem? (i := 1412) rfl)) (kEq2 (hs (.eq (.string RX5 64) (.string RX11 9)) (by decide +kernel)) (he0 0 (by decide))), vk_R.of (hts0 (.stringRef RX11 11 "link") (List.mem_of_getElem? (i := 1413) rfl)) (kEq2 (hs (.eq (.string RX5 73) (.string RX11 11)) (by decide +kernel)) (he1 0 (by decide))), vk_R.of (hts0 (.stringRef RX11 13 "to") (List.mem_of_getElem? (i := 1414) rfl)) (kEq2 (hs (.eq (.string RX5 78) (.string RX11 13)) (by decide +kernel)) (he2 0 (by decide))), vk_R.of (hts0 (.stringRef RX11 15 "loss") (List.mem_of_getElem? (i := 1415) rfl)) (kEq2 (hs (.eq (.string RX5 83) (.string RX11 15)) (by decide +kernel)) (he3 0 (by decide))), vk_R.of (hts0 (.stringRef RX11 23 "one") (List.mem_of_getElem? (i := 1416) rfl)) (kEq2 (hs (.eq (.string RX5 118) (.string RX11 23)) (by decide +kernel)) (he4 0 (by decide))), vk_R.of (hts0 (.stringRef RX11 25 "flow") (List.mem_of_getElem? (i := 1417) rfl)) (kEq2 (hs (.eq (.string RX5 120) (.string RX11 25)) (by decide +kernel)) (he5 0 (by decide))), vk_R.of (hts0 (.stringRef RX11 27 "packet") (List.mem_of_getElem? (i := 1418) rfl)) (kEq2 (hs (.eq (.string RX5 122) (.string RX11 27)) (by decide +kernel)) (he6 0 (by decide))), vk_R.of (hts0 (.stringRef RX11 29 "goal") (List.mem_of_getElem? (i := 1419) rfl)) (kEq2 (hs (.eq (.string RX5 124) (.string RX11 29)) (by decide +kernel)) (he7 0 (by decide))), vk_R.of (hts0 (.stringRef RX11 219 "mute") (List.mem_of_getElem? (i := 1668) rfl)) (kEq2 (hs (.eq (.string RX5 126) (.string RX11 219)) (by decide +kernel)) (he8 0 (by decide))), vk_R.of (hts0 (.stringRef RX11 220 "late") (List.mem_of_getElem? (i := 1669) rfl)) (kEq2 (hs (.eq (.string RX5 128) (.string RX11 220)) (by decide +kernel)) (he9 0 (by decide)))⟩
