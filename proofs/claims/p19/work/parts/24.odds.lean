theorem iv_eqc {x y : Int32} {a b c u v : Int} (h : y.toInt = x.toInt + c) (hx : iv a b x) (h1 : u ≤ a + c) (h2 : b + c ≤ v) : iv u v y := by
  obtain ⟨p1, p2⟩ := hx
  exact ⟨by omega, by omega⟩
theorem tt_full {x y : Int32} (h : x = y) (hx : iv 681 700 x) : iv 681 700 y := h ▸ hx
theorem tt_iv {x y : Int32} {a b : Int} (h : x = y) (hx : iv a b x) : iv a b y := h ▸ hx
theorem tt_eq {x y x2 y2 : Int32} (h : x = y) (h1 : x2.toInt = x.toInt + 20) (h2 : y2.toInt = y.toInt + 20) : x2 = y2 := by
  subst h
  exact Int32.toInt_inj.mp (by omega)
theorem tt_lt {x y z : Int32} (h : x = y) (q : x < z) : y < z := h ▸ q
theorem tt_le {x y z : Int32} (h : x = y) (q : z ≤ x) : z ≤ y := h ▸ q
theorem iv_mid {x z : Int32} (h0 : 0 ≤ z) (h : z ≤ x) (hx : iv 0 700 x) : iv 0 700 z := by
  have h0 := Int32.le_iff_toInt_le.mp h0
  have h := Int32.le_iff_toInt_le.mp h
  rw [show ((0 : Int32)).toInt = 0 from by decide] at h0
  obtain ⟨p1, p2⟩ := hx
  exact ⟨h0, by omega⟩
theorem iv_680 {x : Int32} (hx : iv 0 700 x) (h : x.toInt ≤ 680) : iv 0 680 x := ⟨hx.1, h⟩
theorem iv_681 {x : Int32} (hx : iv 0 700 x) (h : ¬ x.toInt ≤ 680) : iv 681 700 x := ⟨by omega, hx.2⟩
