/-! a call's frame in one: what the callee gets, what stays, what both are behind it -/
theorem nd_app : ∀ (a b : List Nat), va_nd (a ++ b) = true → va_nd a = true ∧ va_nd b = true ∧ ∀ i ∈ b, i ∉ a
  | [], b, h => ⟨rfl, h, fun _ _ => List.not_mem_nil⟩
  | x :: a, b, h => by
    have h : (decide (x ∉ a ++ b) && va_nd (a ++ b)) = true := h
    simp only [Bool.and_eq_true, decide_eq_true_eq] at h
    obtain ⟨h1, h2⟩ := h
    obtain ⟨i1, i2, i3⟩ := nd_app a b h2
    refine ⟨?_, i2, fun i hi hm => ?_⟩
    · show (decide (x ∉ a) && va_nd a) = true
      simp only [Bool.and_eq_true, decide_eq_true_eq]
      exact ⟨fun w => h1 (List.mem_append_left _ w), i1⟩
    · rcases List.mem_cons.mp hm with w | w
      · exact h1 (w ▸ List.mem_append_right _ hi)
      · exact i3 i hi w
def ndM : Nat → List Nat → Bool
  | _, [] => true
  | m, a :: l => Nat.beq (m &&& (1 <<< a)) 0 && ndM (m ||| (1 <<< a)) l
theorem ndM_ok : ∀ (l : List Nat) (m : Nat), ndM m l = true → va_nd l = true ∧ ∀ x ∈ l, m.testBit x = false
  | [], _, _ => ⟨rfl, fun _ h => absurd h List.not_mem_nil⟩
  | a :: l, m, h => by
    have h : (Nat.beq (m &&& (1 <<< a)) 0 && ndM (m ||| (1 <<< a)) l) = true := h
    rw [Bool.and_eq_true] at h
    obtain ⟨h1, h2⟩ := h
    obtain ⟨i1, i2⟩ := ndM_ok l _ h2
    have bit : ∀ x : Nat, (1 <<< a).testBit x = decide (a = x) := fun x => by rw [Nat.one_shiftLeft, Nat.testBit_two_pow]
    have h0 : m.testBit a = false := by
      have e := Nat.eq_of_beq_eq_true h1
      have e2 : (m &&& (1 <<< a)).testBit a = false := by rw [e]; exact Nat.zero_testBit a
      rw [Nat.testBit_and, bit a] at e2
      simpa using e2
    have h3 : ∀ x ∈ l, m.testBit x = false ∧ ¬ a = x := by
      intro x hx
      have e := i2 x hx
      rw [Nat.testBit_or, bit x] at e
      simpa using e
    refine ⟨?_, fun x hx => ?_⟩
    · show (decide (a ∉ l) && va_nd l) = true
      simp only [Bool.and_eq_true, decide_eq_true_eq]
      exact ⟨fun w => (h3 a w).2 rfl, i1⟩
    · rcases List.mem_cons.mp hx with w | w
      · rw [w]; exact h0
      · exact (h3 x w).1
theorem ndM_nd {l : List Nat} (h : ndM 0 l = true) : va_nd l = true := (ndM_ok l 0 h).1
theorem cl_two {X wc wr : va_W} {isC isR : List Nat} (h : (isC ++ isR).map (fun i => X[i]?) = (wc ++ wr).map some) (hl : isC.length = wc.length) : isC.map (fun i => X[i]?) = wc.map some ∧ isR.map (fun i => X[i]?) = wr.map some := by
  rw [List.map_append, List.map_append] at h
  exact List.append_inj h (by rw [List.length_map, List.length_map, hl])
theorem cl_P {D : va_G} {cl : List vw_C} {a b : va_W} {H : Heap} (h : va_P D cl (a ++ b) H) : va_P D cl a H := fun k q hk => h k q (by rw [List.getElem?_append_left (List.getElem?_eq_some_iff.mp hk).1]; exact hk)
theorem cl_D {A : Nat → Prop} {a b : va_W} (h : va_D A (a ++ b)) : va_D A a := by
  have f : ∀ (k : Nat) (q : Nat × va_E), a[k]? = some q → (a ++ b)[k]? = some q := fun k q hk => by rw [List.getElem?_append_left (List.getElem?_eq_some_iff.mp hk).1]; exact hk
  exact ⟨fun i j x y hi hj e => h.1 i j x y (f i x hi) (f j y hj) e, fun k q hk => h.2 k q (f k q hk)⟩
theorem cl_sP {D : va_G} {cl : List vw_C} {X wc : va_W} {H : Heap} (h : va_P D cl X H) (is : List Nat) (hs : is.map (fun i => X[i]?) = wc.map some) : va_P D cl wc H := by
  intro k q hk
  obtain ⟨i, -, hi⟩ := va_in_of is hs hk
  exact h i q hi
/-- a part of a world, both ways -/
theorem cl_s {A : Nat → Prop} {D : va_G} {cl : List vw_C} {X wc : va_W} {H : Heap} (hP : va_P D cl X H) (hD : va_D A X) (is : List Nat) (hs : is.map (fun i => X[i]?) = wc.map some) (hn : ndM 0 is = true) : va_P D cl wc H ∧ va_D A wc := ⟨cl_sP hP is hs, hD.sub is (ndM_nd hn) hs⟩
theorem cl_sp {A : Nat → Prop} {D : va_G} {cl : List vw_C} {X wc pl : va_W} {H : Heap} (hP : va_P D cl (X ++ pl) H) (hD : va_D A (X ++ pl)) (is : List Nat) (hs : is.map (fun i => X[i]?) = wc.map some) (hn : ndM 0 is = true) : va_P D cl (wc ++ pl) H ∧ va_D A (wc ++ pl) := ⟨hP.part is hs, hD.part is (ndM_nd hn) hs⟩
/-- a call without the pool, the caller without it -/
theorem cl_a {A0 : Nat → Prop} {D : va_G} {cl : List vw_C} {X wc wr : va_W} {H0 H : Heap} {locs : List Loc} (hP : va_P D cl X H) (hD : va_D A0 X) (hS : va_S A0 H0 H locs) (hA : ∀ q, H0.size ≤ q → A0 q) (isC isR : List Nat) (h : (isC ++ isR).map (fun i => X[i]?) = (wc ++ wr).map some) (hl : isC.length = wc.length) (hn : ndM 0 (isC ++ isR) = true) :
    va_P D cl wc H ∧ va_D A0 wc ∧ (∀ q, va_A wc H.size q → A0 q) ∧ ∀ {H1 H2 : Heap} {w1 : va_W}, (∀ q : Nat, q < H.size → ¬ va_A wc H.size q → H1[q]? = H[q]?) → H2 = H1 → va_P D cl w1 H2 → va_D (va_A wc H.size) w1 → va_P D cl (wr ++ w1) H1 ∧ va_D A0 (wr ++ w1) := by
  obtain ⟨hC, hR⟩ := cl_two h hl
  obtain ⟨n1, n2, n3⟩ := nd_app _ _ (ndM_nd hn)
  have hF := va_free (wc := wc) hD hS hA isC hC
  exact ⟨cl_sP hP isC hC, hD.sub isC n1 hC, hF, fun hk e hP1 hD1 => va_join hP hD isC isR hC hR n2 n3 hk hF (e ▸ hP1) hD1⟩
/-- a call without the pool, the caller with it -/
theorem cl_q {A0 : Nat → Prop} {D : va_G} {cl : List vw_C} {X wc wr pl : va_W} {H0 H : Heap} {locs : List Loc} (hP : va_P D cl (X ++ pl) H) (hD : va_D A0 (X ++ pl)) (hS : va_S A0 H0 H locs) (hA : ∀ q, H0.size ≤ q → A0 q) (isC isR : List Nat) (h : (isC ++ isR).map (fun i => X[i]?) = (wc ++ wr).map some) (hl : isC.length = wc.length) (hn : ndM 0 (isC ++ isR) = true) :
    va_P D cl wc H ∧ va_D A0 wc ∧ (∀ q, va_A wc H.size q → A0 q) ∧ ∀ {H1 H2 : Heap} {w1 : va_W}, (∀ q : Nat, q < H.size → ¬ va_A wc H.size q → H1[q]? = H[q]?) → H2 = H1 → va_P D cl w1 H2 → va_D (va_A wc H.size) w1 → va_P D cl ((wr ++ w1) ++ pl) H1 ∧ va_D A0 ((wr ++ w1) ++ pl) := by
  obtain ⟨hC, hR⟩ := cl_two h hl
  obtain ⟨n1, n2, n3⟩ := nd_app _ _ (ndM_nd hn)
  have hPc : va_P D cl wc H := cl_P (hP.part isC hC)
  have hDc : va_D A0 wc := cl_D (hD.part isC n1 hC)
  have hF : ∀ q, va_A wc H.size q → A0 q := by
    intro q hq
    rcases hq with ⟨k, e, hk⟩ | hq
    · exact hDc.2 k (q, e) hk
    · exact hA q (Nat.le_trans hS.1 hq)
  exact ⟨hPc, hDc, hF, fun hk e hP1 hD1 => va_joinQ hP hD isC isR hC hR n2 n3 hk hF (e ▸ hP1) hD1⟩
/-- a call with the pool -/
theorem cl_p {A0 : Nat → Prop} {D : va_G} {cl : List vw_C} {X wc wr pl : va_W} {H0 H : Heap} {locs : List Loc} (hP : va_P D cl (X ++ pl) H) (hD : va_D A0 (X ++ pl)) (hS : va_S A0 H0 H locs) (hA : ∀ q, H0.size ≤ q → A0 q) (isC isR : List Nat) (h : (isC ++ isR).map (fun i => X[i]?) = (wc ++ wr).map some) (hl : isC.length = wc.length) (hn : ndM 0 (isC ++ isR) = true) :
    va_P D cl (wc ++ pl) H ∧ va_D A0 (wc ++ pl) ∧ (∀ q, va_A (wc ++ pl) H.size q → A0 q) ∧ ∀ {H1 H2 : Heap} {rx pl1 : va_W}, (∀ q : Nat, q < H.size → ¬ va_A (wc ++ pl) H.size q → H1[q]? = H[q]?) → H2 = H1 → va_P D cl (rx ++ pl1) H2 → va_D (va_A (wc ++ pl) H.size) (rx ++ pl1) → va_P D cl ((wr ++ rx) ++ pl1) H1 ∧ va_D A0 ((wr ++ rx) ++ pl1) := by
  obtain ⟨hC, hR⟩ := cl_two h hl
  obtain ⟨n1, n2, n3⟩ := nd_app _ _ (ndM_nd hn)
  have hF := va_freeP hD hS hA isC hC
  exact ⟨hP.part isC hC, hD.part isC n1 hC, hF, fun hk e hP1 hD1 => va_joinP hP hD isC isR hC hR n2 n3 hk hF (e ▸ hP1) hD1⟩
