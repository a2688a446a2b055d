/-! the reference's feed: byte by byte -/
def itT (t : Int32) : Nat → Int32
  | 0 => t
  | n + 1 => itT t n + 1
def wdT (a b c d e k : Int32) : Int32 := if k < 4 then a else if k < 8 then b else if k < 12 then c else if k < 16 then d else e
def fdK (f : Nat → Int32) (t a b c d e : Int32) : Nat → Nat → Int32
  | 0 => f
  | n + 1 => upd (fdK f t a b c d e n) (itT t n).toNatClampNeg (((wdT a b c d e (nI n)) >>> ((24 - (8 * (nI n - nI n / 4 * 4))) &&& 31)) &&& 255)
theorem wq_0 {a b c d e k : Int32} (h : k < 4) : wdT a b c d e k = a := if_pos h
theorem wq_1 {a b c d e k : Int32} (h0 : 4 ≤ k) (h : k < 8) : wdT a b c d e k = b := (if_neg (Int32.not_lt.mpr h0)).trans (if_pos h)
theorem wq_2 {a b c d e k : Int32} (h0 : 4 ≤ k) (h1 : 8 ≤ k) (h : k < 12) : wdT a b c d e k = c := (if_neg (Int32.not_lt.mpr h0)).trans ((if_neg (Int32.not_lt.mpr h1)).trans (if_pos h))
theorem wq_3 {a b c d e k : Int32} (h0 : 4 ≤ k) (h1 : 8 ≤ k) (h2 : 12 ≤ k) (h : k < 16) : wdT a b c d e k = d := (if_neg (Int32.not_lt.mpr h0)).trans ((if_neg (Int32.not_lt.mpr h1)).trans ((if_neg (Int32.not_lt.mpr h2)).trans (if_pos h)))
theorem wq_4 {a b c d e k : Int32} (h0 : 4 ≤ k) (h1 : 8 ≤ k) (h2 : 12 ≤ k) (h3 : 16 ≤ k) : wdT a b c d e k = e := (if_neg (Int32.not_lt.mpr h0)).trans ((if_neg (Int32.not_lt.mpr h1)).trans ((if_neg (Int32.not_lt.mpr h2)).trans (if_neg (Int32.not_lt.mpr h3))))
theorem fk_0 {f : Nat → Int32} {t a b c d e : Int32} : f = fdK f t a b c d e ((0 : Int32)).toNatClampNeg ∧ t = itT t ((0 : Int32)).toNatClampNeg := by
  rw [show ((0 : Int32)).toNatClampNeg = 0 from by decide]
  exact ⟨rfl, rfl⟩
theorem fk_t {t y k : Int32} (h : y = itT t k.toNatClampNeg) (hk : iv 0 19 k) : y + 1 = itT t (k + Int32.ofInt 1).toNatClampNeg := by
  rw [(bt_i hk).1, h]
  rfl
theorem fk_s {f cur : Nat → Int32} {t a b c d e y k w : Int32} (h : cur = fdK f t a b c d e k.toNatClampNeg ∧ y = itT t k.toNatClampNeg) (hk : iv 0 19 k) (hw : wdT a b c d e k = w) : upd cur y.toNatClampNeg ((w >>> ((24 - (8 * (k - k / 4 * 4)) : Int32) &&& 31)) &&& 255) = fdK f t a b c d e (k + Int32.ofInt 1).toNatClampNeg := by
  obtain ⟨h1, h2⟩ := h
  obtain ⟨e1, e2, _⟩ := bt_i hk
  subst hw h1 h2
  rw [e1]
  show _ = upd (fdK f t a b c d e k.toNatClampNeg) (itT t k.toNatClampNeg).toNatClampNeg (((wdT a b c d e (nI k.toNatClampNeg)) >>> ((24 - (8 * (nI k.toNatClampNeg - nI k.toNatClampNeg / 4 * 4))) &&& 31)) &&& 255)
  rw [e2]
theorem fd_a {f : Nat → Int32} {t a b c d e : Int32} : fdK f t a b c d e 4 = apR f t a := rfl
theorem fd_b {f : Nat → Int32} {t a b c d e : Int32} : fdK f t a b c d e 8 = apR (fdK f t a b c d e 4) (t4T t) b := rfl
theorem fd_c {f : Nat → Int32} {t a b c d e : Int32} : fdK f t a b c d e 12 = apR (fdK f t a b c d e 8) (t4T (t4T t)) c := rfl
theorem fd_d {f : Nat → Int32} {t a b c d e : Int32} : fdK f t a b c d e 16 = apR (fdK f t a b c d e 12) (t4T (t4T (t4T t))) d := rfl
theorem fd_e {f : Nat → Int32} {t a b c d e : Int32} : fdK f t a b c d e 20 = apR (fdK f t a b c d e 16) (t4T (t4T (t4T (t4T t)))) e := rfl
theorem fk_e {f cur : Nat → Int32} {t a b c d e k : Int32} (h : cur = fdK f t a b c d e k.toNatClampNeg) (hk : iv 0 20 k) (he : 20 ≤ k) : cur = fedR f t a b c d e := by
  have he := Int32.le_iff_toInt_le.mp he
  rw [show ((20 : Int32)).toInt = 20 from by decide] at he
  have q := cl_nat hk (by decide)
  have h2 := hk.2
  rw [h, show k.toNatClampNeg = 20 from by omega, fd_e, fd_d, fd_c, fd_b, fd_a]
  rfl
