/-! note: lemmas -/
theorem nn_in {z x : Int32} (h0 : 0 ≤ z) (h : z < x) (hx : iv 0 3 x) : iv 0 2 z := by
  have h0 := Int32.le_iff_toInt_le.mp h0
  have h := Int32.lt_iff_toInt_lt.mp h
  rw [show ((0 : Int32)).toInt = 0 from by decide] at h0
  have h2 := hx.2
  exact ⟨h0, by omega⟩
theorem nn_lo {z k : Int32} {n : Int} (hk : k.toInt = n) (h : z < k) : iv (-2147483648) (n - 1) z := by
  have h := Int32.lt_iff_toInt_lt.mp h
  exact ⟨(iv_t z).1, by omega⟩
theorem nn_hi {z k : Int32} {n : Int} (hk : k.toInt = n) (h : k < z) : iv (n + 1) 2147483647 z := by
  have h := Int32.lt_iff_toInt_lt.mp h
  exact ⟨by omega, (iv_t z).2⟩
theorem nn_mid {z k l : Int32} {m n : Int} (hk : k.toInt = m) (hl : l.toInt = n) (h : ¬ z < k) (q : ¬ l < z) : iv m n z := by
  have h := Int32.le_iff_toInt_le.mp (Int32.not_lt.mp h)
  have q := Int32.le_iff_toInt_le.mp (Int32.not_lt.mp q)
  exact ⟨by omega, by omega⟩
theorem nn_s1 {b : Int32} (hb : iv 0 3 b) : (b - 1).toInt = b.toInt - 1 := iv_subc (c := 1) hb (by decide) (by decide) (by decide)
theorem sub3_le {p b : Int32} (h : p < b) (hb : iv 0 3 b) : p ≤ b - 1 := by
  have h := Int32.lt_iff_toInt_lt.mp h
  have e := nn_s1 hb
  exact Int32.le_iff_toInt_le.mpr (by omega)
theorem sub3_lt {p b : Int32} (h : b ≤ p) (hb : iv 0 3 b) : b - 1 < p := by
  have h := Int32.le_iff_toInt_le.mp h
  have e := nn_s1 hb
  exact Int32.lt_iff_toInt_lt.mpr (by omega)
theorem nn_8 {x : Int32} (hx : iv 0 8 x) (h : x = 8) : iv 8 8 x := by
  subst h
  exact ⟨by decide, by decide⟩
theorem nn_7 {x : Int32} (hx : iv 0 8 x) (h : ¬ x = 8) : iv 0 7 x := by
  have g : ¬ x.toInt = 8 := fun w => h (Int32.toInt_inj.mp (by rw [w]; decide))
  have h1 := hx.1
  have h2 := hx.2
  exact ⟨h1, by omega⟩
theorem nn_eq {x y x' y' : Int32} (h : x = y) (h1 : x' = x + 1) (h2 : y' = y + 1) : x' = y' := by rw [h1, h2, h]
theorem nn_rs {a b x y x' y' u v : Int32} (hi : a = b) (h : x = y) (ht : u = v) (h1 : (a = 0 → x' = x) ∧ (¬ a = 0 → x' = u)) (h2 : (b = 0 → y' = y) ∧ (¬ b = 0 → y' = v)) : x' = y' := by
  subst hi
  by_cases q : a = 0
  · rw [h1.1 q, h2.1 q, h]
  · rw [h1.2 q, h2.2 q, ht]
