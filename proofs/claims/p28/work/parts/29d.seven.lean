/-! link and same: lemmas -/
theorem sn_in {z x : Int32} (h0 : 0 ≤ z) (h : z < x) (hx : iv 0 20 x) : iv 0 19 z := by
  have h0 := Int32.le_iff_toInt_le.mp h0
  have h := Int32.lt_iff_toInt_lt.mp h
  rw [show ((0 : Int32)).toInt = 0 from by decide] at h0
  have h2 := hx.2
  exact ⟨h0, by omega⟩
theorem sa_in {z x : Int32} (h0 : 0 ≤ z) (h : z ≤ x) (hx : iv 0 20 x) : iv 0 20 z := by
  have h0 := Int32.le_iff_toInt_le.mp h0
  have h := Int32.le_iff_toInt_le.mp h
  rw [show ((0 : Int32)).toInt = 0 from by decide] at h0
  have h2 := hx.2
  exact ⟨h0, by omega⟩
theorem sn_big {y : Int32} (h : ¬ y < 0) (h0 : ¬ y = 0) (h1 : ¬ y = 1) : iv 2 2147483647 y := by
  have h := Int32.le_iff_toInt_le.mp (Int32.not_lt.mp h)
  rw [show ((0 : Int32)).toInt = 0 from by decide] at h
  have g0 : ¬ y.toInt = 0 := fun w => h0 (Int32.toInt_inj.mp (by rw [w]; decide))
  have g1 : ¬ y.toInt = 1 := fun w => h1 (Int32.toInt_inj.mp (by rw [w]; decide))
  exact ⟨by omega, (iv_t y).2⟩
theorem sn_lt {x y z : Int32} (h : x = y) (q : z < x) : z < y := h ▸ q
theorem sn_le {x y z : Int32} (h : x = y) (q : x ≤ z) : y ≤ z := h ▸ q
theorem sn_cl {z x : Int32} (hz : iv 0 19 z) (h : z < x) : (z.toNatClampNeg : Int) < x.toInt := by
  rw [cl_nat hz (by decide)]
  exact Int32.lt_iff_toInt_lt.mp h
theorem sn_s1 {b : Int32} (hb : iv 0 20 b) : (b - 1).toInt = b.toInt - 1 := iv_subc (c := 1) hb (by decide) (by decide) (by decide)
theorem sub1_le {p b : Int32} (h : p < b) (hb : iv 0 20 b) : p ≤ b - 1 := by
  have h := Int32.lt_iff_toInt_lt.mp h
  have e := sn_s1 hb
  exact Int32.le_iff_toInt_le.mpr (by omega)
theorem sub1_lt {p b : Int32} (h : b ≤ p) (hb : iv 0 20 b) : b - 1 < p := by
  have h := Int32.le_iff_toInt_le.mp h
  have e := sn_s1 hb
  exact Int32.lt_iff_toInt_lt.mpr (by omega)
def rtrT (f : Nat → Int32) (a : Int32) : Int32 := if a ≤ 0 then 0 else f (a - 1).toNatClampNeg
theorem rtr_0 {f : Nat → Int32} {a : Int32} (h : a ≤ 0) : rtrT f a = 0 := if_pos h
theorem rtr_1 {f : Nat → Int32} {a : Int32} (h : 0 < a) : rtrT f a = f (a - 1).toNatClampNeg := if_neg (Int32.not_le.mpr h)
theorem rtr_e {f : Nat → Int32} {a : Int32} (h : a = 0) : rtrT f a = 0 := if_pos (by rw [h]; decide)
theorem rtr_n {f : Nat → Int32} {a : Int32} (h : ¬ a = 0) (ha : iv 0 20 a) : rtrT f a = f (a - 1).toNatClampNeg := by
  refine if_neg (fun w => h ?_)
  have w := Int32.le_iff_toInt_le.mp w
  rw [show ((0 : Int32)).toInt = 0 from by decide] at w
  have h1 := ha.1
  exact Int32.toInt_inj.mp (by rw [show ((0 : Int32)).toInt = 0 from by decide]; omega)
def smT (a b : Int32) : Int32 := if a = b then 1 else 0
theorem sm_1 {a b : Int32} (h : a = b) : smT a b = 1 := if_pos h
theorem sm_0 {a b : Int32} (h : ¬ a = b) : smT a b = 0 := if_neg h
theorem sm_eq {a b c d : Int32} (h : a = c) (q : b = d) : smT a b = smT c d := by rw [h, q]
theorem rtr_eq {xn fr to t fq tq : Nat → Int32} {a : Int32} (h : SameT xn fr to t fq tq) (ha : iv 0 20 a) (hl : a ≤ xn 1) : rtrT to a = rtrT tq a := by
  by_cases q : a ≤ 0
  · rw [rtr_0 q, rtr_0 q]
  · have q := Int32.not_le.mp q
    rw [rtr_1 q, rtr_1 q]
    have e := sn_s1 ha
    have q1 := Int32.lt_iff_toInt_lt.mp q
    rw [show ((0 : Int32)).toInt = 0 from by decide] at q1
    have hl1 := Int32.le_iff_toInt_le.mp hl
    have h2 := ha.2
    have b : iv 0 19 (a - 1) := ⟨by omega, by omega⟩
    exact (h.2 _ (by rw [cl_nat b (by decide)]; omega)).2
theorem sn_gt {x y z : Int32} (h : x = y) (q : x < z) : y < z := h ▸ q
theorem sn_ge {x y z : Int32} (h : x = y) (q : z ≤ x) : z ≤ y := h ▸ q
