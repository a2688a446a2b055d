def lX11 (k : Nat) : Int := [(-2147483648), 0, 0, 0, (-2147483648), (-2147483648), 0, 0, 0, (-2147483648), (-2147483648), (-2147483648), (-2147483648), 0, (-2147483648), (-1), 0, 0, 0, (-2147483648), (-2147483648), 0, (-2147483648), (-2147483648), 0, 0].getD k (-2147483648)
def hX11 (k : Nat) : Int := [2147483647, 700, 700, 700, 2147483647, 2147483647, 700, 700, 5, 2147483647, 2147483647, 2147483647, 2147483647, 15, 2147483647, 11, 20, 40, 10, 2147483647, 2147483647, 8, 2147483647, 2147483647, 40, 8].getD k (2147483647)
def lTold (k : Nat) : Int := [0, 0, 0, (-1), 0, 0, 0, (-1)].getD k 0
def hTold (k : Nat) : Int := [12, 20, 3, 50, 12, 20, 3, 50].getD k 0
def lNow (k : Nat) : Int := if k < 12 then 0 else if k < 59 then -2147483648 else 0
def hNow (k : Nat) : Int := if k < 12 then 59 else if k < 59 then 2147483647 else 21
def lPast (k : Nat) : Int := lNow (k % 1019)
def hPast (k : Nat) : Int := hNow (k % 1019)
def lX2 (k : Nat) : Int := [0, 0, 0, (-2147483648)].getD k (-2147483648)
def hX2 (k : Nat) : Int := [12, 20, 3, 2147483647].getD k (2147483647)
def lX3 (k : Nat) : Int := [0, (-2147483648), (-2147483648)].getD k (-2147483648)
def hX3 (k : Nat) : Int := [8, 2147483647, 2147483647].getD k (2147483647)
def lX5 (k : Nat) : Int := [(-2147483648), (-2147483648), 0, (-2147483648), 0, 0, (-2147483648)].getD k (-2147483648)
def hX5 (k : Nat) : Int := [2147483647, 2147483647, 700, 2147483647, 700, 700, 2147483647].getD k (2147483647)
def lX8 (k : Nat) : Int := [0].getD k (-2147483648)
def hX8 (k : Nat) : Int := [700].getD k (2147483647)
def lX9 (k : Nat) : Int := [(-2147483648), 0, 0, 0, (-2147483648), (-2147483648), (-2147483648), (-2147483648)].getD k (-2147483648)
def hX9 (k : Nat) : Int := [2147483647, 3, 11, 20, 2147483647, 2147483647, 2147483647, 2147483647].getD k (2147483647)
def lX1 (k : Nat) : Int := [0, 0].getD k (-2147483648)
def hX1 (k : Nat) : Int := [39, 40].getD k (2147483647)

theorem iv_k {a b : Int} {x : Int32} (h1 : a ≤ x.toInt) (h2 : x.toInt ≤ b) : iv a b x := ⟨h1, h2⟩
theorem iv_one {a : Int} {x n : Int32} (h : iv a a x) (hn : n.toInt = a) : x = n := by
  obtain ⟨h1, h2⟩ := h
  exact Int32.toInt_inj.mp (by omega)
theorem iv_addc {a b c : Int} {x y : Int32} (hx : iv a b x) (hc : y.toInt = c) (h1 : -2147483648 ≤ a + c) (h2 : b + c ≤ 2147483647) : (x + y).toInt = x.toInt + c := by
  have e := iv_add0 (c := c) (d := c) hx (y := y) ⟨by omega, by omega⟩ h1 h2
  omega
theorem iv_subc {a b c : Int} {x y : Int32} (hx : iv a b x) (hc : y.toInt = c) (h1 : -2147483648 ≤ a - c) (h2 : b - c ≤ 2147483647) : (x - y).toInt = x.toInt - c := by
  have e := iv_sub0 (c := c) (d := c) hx (y := y) ⟨by omega, by omega⟩ h1 h2
  omega
theorem iv_max {a b c d u v : Int} {x y : Int32} (hx : iv a b x) (hy : iv c d y) (h1 : u ≤ max a c) (h2 : max b d ≤ v) : iv u v (if x < y then y else x) := by
  obtain ⟨p1, p2⟩ := hx; obtain ⟨q1, q2⟩ := hy
  by_cases h : x < y
  · rw [if_pos h]; have h := Int32.lt_iff_toInt_lt.mp h; exact ⟨by omega, by omega⟩
  · rw [if_neg h]; have h := Int32.le_iff_toInt_le.mp (Int32.not_lt.mp h); exact ⟨by omega, by omega⟩
theorem iv_min {a b c d u v : Int} {x y : Int32} (hx : iv a b x) (hy : iv c d y) (h1 : u ≤ min a c) (h2 : min b d ≤ v) : iv u v (if y < x then y else x) := by
  obtain ⟨p1, p2⟩ := hx; obtain ⟨q1, q2⟩ := hy
  by_cases h : y < x
  · rw [if_pos h]; have h := Int32.lt_iff_toInt_lt.mp h; exact ⟨by omega, by omega⟩
  · rw [if_neg h]; have h := Int32.le_iff_toInt_le.mp (Int32.not_lt.mp h); exact ⟨by omega, by omega⟩
theorem in_iv {a b c d : Int} {p q x : Int32} (h : p.toInt ≤ x.toInt ∧ x.toInt ≤ q.toInt) (hp : iv a b p) (hq : iv c d q) : iv a d x := ⟨Int.le_trans hp.1 h.1, Int.le_trans h.2 hq.2⟩
theorem iv_cap {a b c d u v : Int} {x : Int32} (hx : iv a b x) (hy : iv c d x) (h1 : u ≤ max a c) (h2 : min b d ≤ v) : iv u v x := by
  obtain ⟨p1, p2⟩ := hx; obtain ⟨q1, q2⟩ := hy
  exact ⟨by omega, by omega⟩
theorem cl_nat {a b : Int} {x : Int32} (h : iv a b x) (ha : 0 ≤ a) : (x.toNatClampNeg : Int) = x.toInt := by
  obtain ⟨k, rfl, hk, lk⟩ := iv_nI h ha
  rw [nI_clamp lk, hk]
theorem dia_9 {d x : Int32} (h : d.toInt + 1 ≤ x.toInt) (hd : iv 0 10 d) (hx : iv 1 10 x) : iv 0 9 d := by
  obtain ⟨p1, p2⟩ := hd; obtain ⟨q1, q2⟩ := hx
  exact ⟨by omega, by omega⟩
theorem iv_ne64 {a b : Int} {x : Int32} (h : iv a b x) (h1 : 1 ≤ a) : ¬ x.toInt64 = 0 := by
  intro e
  have e2 : x.toInt64.toInt = (0 : Int64).toInt := by rw [e]
  rw [Int32.toInt_toInt64] at e2
  have e3 : (0 : Int64).toInt = 0 := by decide
  have := h.1
  omega
theorem z_nar {v : Int32} (h : iv 0 1 v) : narrow .boolean (.int v) = .int v := by
  have hv : v = 0 ∨ v = 1 := by
    obtain ⟨h1, h2⟩ := h
    rcases (show v.toInt = 0 ∨ v.toInt = 1 by omega) with e | e
    · exact Or.inl (Int32.toInt_inj.mp (by rw [e]; decide))
    · exact Or.inr (Int32.toInt_inj.mp (by rw [e]; decide))
  rcases hv with rfl | rfl <;> rfl
theorem fI_cpy {lo hi : Nat → Int} {f g : Nat → Int32} {n : Nat} (hf : fI lo hi f) (hg : fI lo hi g) : fI lo hi (va_cpy f g 0 0 n) := by
  intro j
  unfold va_cpy
  by_cases h : 0 ≤ j ∧ j < 0 + n
  · rw [if_pos h]
    have e : 0 + (j - 0) = j := by omega
    rw [e]
    exact hf j
  · rw [if_neg h]
    exact hg j
theorem iv_nIv {n : Nat} {u v : Int} (h : n < 2 ^ 31) (h1 : u ≤ n) (h2 : (n : Int) ≤ v) : iv u v (nI n) := by
  have e := nI_toInt h
  exact ⟨by rw [e]; omega, by rw [e]; omega⟩
theorem nI_bv {n : Nat} (h : n < 2 ^ 32) : (nI n).toBitVec.toNat = n := by
  show (BitVec.ofNat 32 n).toNat = n
  rw [BitVec.toNat_ofNat, Nat.mod_eq_of_lt h]
theorem nI_eqbv {x : Int32} {n : Nat} (h : x.toBitVec.toNat = n) : x = nI n := by
  have e : x.toBitVec = BitVec.ofNat 32 n := by
    apply BitVec.eq_of_toNat_eq
    rw [h, BitVec.toNat_ofNat, Nat.mod_eq_of_lt]
    rw [← h]; exact x.toBitVec.isLt
  exact Int32.toBitVec_inj.mp e
theorem nI_or {a b : Nat} (ha : a < 2 ^ 32) (hb : b < 2 ^ 32) : nI a ||| nI b = nI (a ||| b) := nI_eqbv (by rw [Int32.toBitVec_or, BitVec.toNat_or, nI_bv ha, nI_bv hb])
theorem nI_and {a b : Nat} (ha : a < 2 ^ 32) (hb : b < 2 ^ 32) : nI a &&& nI b = nI (a &&& b) := nI_eqbv (by rw [Int32.toBitVec_and, BitVec.toNat_and, nI_bv ha, nI_bv hb])
theorem iv_or (k : Nat) {a b c d u v : Int} {x y : Int32} (hx : iv a b x) (hy : iv c d y) (ha : 0 ≤ a) (hc : 0 ≤ c) (hb : b < 2 ^ k) (hd : d < 2 ^ k) (hk : k < 31) (hv : u ≤ 0 ∧ (2 ^ k : Int) - 1 ≤ v) : iv u v (x ||| y) := by
  obtain ⟨i, rfl, hi, li⟩ := iv_nI hx ha
  obtain ⟨j, rfl, hj, lj⟩ := iv_nI hy hc
  have hp : (2 : Int) ^ k = ((2 ^ k : Nat) : Int) := by rw [Int.natCast_pow]; rfl
  obtain ⟨hv1, hv2⟩ := hv
  rw [hp] at hb hd hv2
  have e1 : i < 2 ^ k := by have := hx.2; omega
  have e2 : j < 2 ^ k := by have := hy.2; omega
  have e3 : i ||| j < 2 ^ k := Nat.or_lt_two_pow e1 e2
  have e4 : 2 ^ k ≤ 2 ^ 30 := Nat.pow_le_pow_right (by decide) (by omega)
  rw [nI_or (by omega) (by omega)]
  exact iv_nIv (by omega) (by omega) (by omega)
theorem shl1_all : ∀ j : Nat, j < 31 → ((1 : Int32) <<< ((nI j : Int32) &&& 31)).toInt = 2 ^ j := by decide +kernel
theorem iv_shl1 (d : Int) {c u v : Int} {y : Int32} (hy : iv c d y) (hc : 0 ≤ c) (hd : d ≤ 30) (hu : u ≤ 0) (hv : (2 : Int) ^ d.toNat ≤ v) : iv u v (1 <<< (y &&& 31)) := by
  obtain ⟨j, rfl, hj, lj⟩ := iv_nI hy hc
  have h1 := hy.2
  have e := shl1_all j (by omega)
  have g : (2 : Nat) ^ j ≤ 2 ^ d.toNat := Nat.pow_le_pow_right (by decide) (by omega)
  have hp : ∀ t : Nat, (2 : Int) ^ t = ((2 ^ t : Nat) : Int) := fun t => by rw [Int.natCast_pow]; rfl
  rw [hp] at hv
  rw [hp] at e
  exact ⟨by rw [e]; exact Int.le_trans hu (Int.natCast_nonneg _), by rw [e]; exact Int.le_trans (Int.ofNat_le.mpr g) hv⟩

theorem room_le {x y : Int32} (hx : iv 0 700 x) (hy : iv 0 20 y) (h : x + y ≤ 700) : x.toInt + y.toInt ≤ 700 := by
  have e := iv_add0 hx hy (by decide) (by decide)
  have h := Int32.le_iff_toInt_le.mp h
  rw [e, show ((700 : Int32)).toInt = 700 from by decide] at h
  exact h
theorem room_20 {x : Int32} (hx : iv 0 700 x) (h : x + 20 ≤ 700) : x.toInt + 20 ≤ 700 := by
  have e := iv_addc (c := 20) hx (y := 20) (by decide) (by decide) (by decide)
  have h := Int32.le_iff_toInt_le.mp h
  rw [e, show ((700 : Int32)).toInt = 700 from by decide] at h
  exact h
theorem feed_699 {a x k : Int32} (h : a.toInt = x.toInt + k.toInt) (hr : x.toInt + 20 ≤ 700) (ha : iv 0 700 a) (hk : iv 0 19 k) : iv 0 699 a := by
  obtain ⟨p1, p2⟩ := ha; obtain ⟨q1, q2⟩ := hk
  exact ⟨by omega, by omega⟩
theorem app_699 {a x k : Int32} (h : 8 * a.toInt + k.toInt = 8 * x.toInt + 24) (hr : x.toInt + 4 ≤ 700) (ha : iv 0 700 a) (hk : iv 0 24 k) : iv 0 699 a := by
  obtain ⟨p1, p2⟩ := ha; obtain ⟨q1, q2⟩ := hk
  exact ⟨by omega, by omega⟩

theorem now_s {f : Nat → Int32} {a b : Int} {i : Int32} (hf : fI lNow hNow f) (hi : iv a b i) (h : 59 ≤ a) : iv 0 21 (f i.toNatClampNeg) := by
  have e := cl_nat hi (by omega)
  have h1 := hi.1
  have q := hf i.toNatClampNeg
  simp only [lNow, hNow, if_neg (show ¬ i.toNatClampNeg < 12 by omega), if_neg (show ¬ i.toNatClampNeg < 59 by omega)] at q
  exact q
theorem now_t {f : Nat → Int32} {a b : Int} {i : Int32} (hf : fI lNow hNow f) (hi : iv a b i) (h : 0 ≤ a) (h2 : b < 12) : iv 0 59 (f i.toNatClampNeg) := by
  have e := cl_nat hi h
  have h1 := hi.2
  have q := hf i.toNatClampNeg
  simp only [lNow, hNow, if_pos (show i.toNatClampNeg < 12 by omega)] at q
  exact q
theorem now_ps {a b : Int} {i v : Int32} (hi : iv a b i) (h : 59 ≤ a) (hv : iv 0 21 v) : iv (lNow i.toNatClampNeg) (hNow i.toNatClampNeg) v := by
  have e := cl_nat hi (by omega)
  have h1 := hi.1
  simp only [lNow, hNow, if_neg (show ¬ i.toNatClampNeg < 12 by omega), if_neg (show ¬ i.toNatClampNeg < 59 by omega)]
  exact hv
theorem now_pt {a b : Int} {i v : Int32} (hi : iv a b i) (h : 0 ≤ a) (h2 : b < 12) (hv : iv 0 59 v) : iv (lNow i.toNatClampNeg) (hNow i.toNatClampNeg) v := by
  have e := cl_nat hi h
  have h1 := hi.2
  simp only [lNow, hNow, if_pos (show i.toNatClampNeg < 12 by omega)]
  exact hv
theorem now_po {a b : Int} {i v : Int32} (hi : iv a b i) (h : 12 ≤ a) (h2 : b < 59) : iv (lNow i.toNatClampNeg) (hNow i.toNatClampNeg) v := by
  have e := cl_nat hi (by omega)
  have h1 := hi.1
  have h3 := hi.2
  simp only [lNow, hNow, if_neg (show ¬ i.toNatClampNeg < 12 by omega), if_pos (show i.toNatClampNeg < 59 by omega)]
  exact iv_t v
theorem now_p0 (k : Nat) : iv (lNow k) (hNow k) 0 := by
  have e : ((0 : Int32)).toInt = 0 := by decide
  unfold iv lNow hNow
  rw [e]
  by_cases h1 : k < 12
  · simp [h1]
  · by_cases h2 : k < 59
    · simp [h1, h2]
    · simp [h1, h2]
theorem past_sh {f : Nat → Int32} {k : Int32} (hf : fI lPast hPast f) (hk : iv 1019 40759 k) : iv (lPast (k - 1019).toNatClampNeg) (hPast (k - 1019).toNatClampNeg) (f k.toNatClampNeg) := by
  have e := cl_nat hk (by omega)
  have e1 := iv_subc (c := 1019) hk (y := 1019) (by decide) (by omega) (by omega)
  have h1 := hk.1
  have e2 := cl_nat (x := k - 1019) (a := 0) (b := 40000) ⟨by omega, by have := hk.2; omega⟩ (by omega)
  have e3 : (k - 1019).toNatClampNeg % 1019 = k.toNatClampNeg % 1019 := by omega
  have q := hf k.toNatClampNeg
  simp only [lPast, hPast] at q ⊢
  rw [e3]
  exact q
theorem row_ix {a k : Int32} (ha : iv 0 39 a) (hk : iv 0 1018 k) : (1019 * a + k).toNatClampNeg % 1019 = k.toNatClampNeg := by
  have g1 : iv 1019 1019 (1019 : Int32) := ⟨by decide, by decide⟩
  have m0 := iv_mul0 g1 ha (by decide) (by decide) (by decide)
  have m1 : iv 0 39741 (1019 * a) := iv_mul g1 ha (by decide) (by decide) (by decide) (by decide) (by decide)
  have s0 := iv_add0 m1 hk (by decide) (by decide)
  have s1 : iv 0 40759 (1019 * a + k) := iv_add m1 hk (by decide) (by decide) (by decide) (by decide)
  have e1 := cl_nat s1 (by decide)
  have e2 := cl_nat hk (by decide)
  have e3 : ((1019 : Int32)).toInt = 1019 := by decide
  rw [e3] at m0
  have h1 := hk.1; have h2 := hk.2; have h3 := ha.1
  omega
theorem past_row {f : Nat → Int32} {a k : Int32} (hf : fI lNow hNow f) (ha : iv 0 39 a) (hk : iv 0 1018 k) : iv (lPast (1019 * a + k).toNatClampNeg) (hPast (1019 * a + k).toNatClampNeg) (f k.toNatClampNeg) := by
  simp only [lPast, hPast]
  rw [row_ix ha hk]
  exact hf _
theorem now_row {f : Nat → Int32} {a k : Int32} (hf : fI lPast hPast f) (ha : iv 0 39 a) (hk : iv 0 1018 k) : iv (lNow k.toNatClampNeg) (hNow k.toNatClampNeg) (f (1019 * a + k).toNatClampNeg) := by
  have q := hf (1019 * a + k).toNatClampNeg
  simp only [lPast, hPast] at q
  rw [row_ix ha hk] at q
  exact q

/-! how many bits, by bytes -/
theorem ln_and {a u c d : Nat} (ha : a < 256) (hu : u < 256) : (a + 256 * c) &&& (u + 256 * d) = (a &&& u) + 256 * (c &&& d) := by
  have hau : a &&& u < 2 ^ 8 := Nat.and_lt_two_pow a hu
  have e1 : a + 256 * c = 2 ^ 8 * c + a := by omega
  have e2 : u + 256 * d = 2 ^ 8 * d + u := by omega
  have e3 : (a &&& u) + 256 * (c &&& d) = 2 ^ 8 * (c &&& d) + (a &&& u) := by omega
  rw [e1, e2, e3]
  apply Nat.eq_of_testBit_eq
  intro i
  rw [Nat.testBit_and, Nat.testBit_two_pow_mul_add c ha, Nat.testBit_two_pow_mul_add d hu, Nat.testBit_two_pow_mul_add (c &&& d) hau]
  by_cases h : i < 8
  · simp [h]
  · simp [h]
def sw1 (b : Nat) : Nat := b - (b / 2 &&& 85)
def sw2 (b : Nat) : Nat := (sw1 b &&& 51) + (sw1 b / 4 &&& 51)
def sw3 (b : Nat) : Nat := (sw2 b + sw2 b / 16) &&& 15
theorem sw_a : ∀ b, b < 256 → ∀ e, e < 2 → (b / 2 + 128 * e) &&& 85 = (b / 2 &&& 85) := by decide +kernel
theorem sw_b : ∀ b, b < 256 → (b / 2 &&& 85) ≤ b ∧ sw1 b < 256 ∧ sw2 b ≤ 68 ∧ sw3 b ≤ 8 := by decide +kernel
theorem sw_c : ∀ y, y < 256 → ∀ e, e < 4 → (y / 4 + 64 * e) &&& 51 = (y / 4 &&& 51) := by decide +kernel
theorem sw_d : ∀ b, b < 256 → ∀ e, e < 16 → (sw2 b + sw2 b / 16 + 16 * e) &&& 15 = sw3 b := by decide +kernel
theorem sw_f : ∀ b, b < 256 → sw2 b % 16 ≤ 4 := by decide +kernel
theorem sw_e : ∀ b, b < 32 → sw3 b ≤ 5 := by decide +kernel
theorem sw_s1 {b0 b1 b2 : Nat} (h0 : b0 < 256) (h1 : b1 < 256) (h2 : b2 < 32) : (b0 + 256 * (b1 + 256 * b2)) - ((b0 + 256 * (b1 + 256 * b2)) / 2 &&& 1431655765) = sw1 b0 + 256 * (sw1 b1 + 256 * sw1 b2) := by
  have e0 : (b0 + 256 * (b1 + 256 * b2)) / 2 = (b0 / 2 + 128 * (b1 % 2)) + 256 * ((b1 / 2 + 128 * (b2 % 2)) + 256 * ((b2 / 2 + 128 * 0) + 256 * 0)) := by omega
  have e1 : (1431655765 : Nat) = 85 + 256 * (85 + 256 * (85 + 256 * 85)) := by decide
  rw [e0, e1, ln_and (by omega) (by decide), ln_and (by omega) (by decide), ln_and (by omega) (by decide)]
  rw [sw_a b0 h0 _ (by omega), sw_a b1 h1 _ (by omega), sw_a b2 (by omega) 0 (by decide)]
  have k0 := (sw_b b0 h0).1; have k1 := (sw_b b1 h1).1; have k2 := (sw_b b2 (by omega)).1
  have k3 : (0 &&& 85 : Nat) = 0 := by decide
  rw [k3]
  unfold sw1
  omega
theorem sw_s2 {t0 t1 t2 : Nat} (h0 : t0 < 256) (h1 : t1 < 256) (h2 : t2 < 256) : ((t0 + 256 * (t1 + 256 * t2)) &&& 858993459) + ((t0 + 256 * (t1 + 256 * t2)) / 4 &&& 858993459) = ((t0 &&& 51) + (t0 / 4 &&& 51)) + 256 * (((t1 &&& 51) + (t1 / 4 &&& 51)) + 256 * ((t2 &&& 51) + (t2 / 4 &&& 51))) := by
  have e0 : (t0 + 256 * (t1 + 256 * t2)) / 4 = (t0 / 4 + 64 * (t1 % 4)) + 256 * ((t1 / 4 + 64 * (t2 % 4)) + 256 * ((t2 / 4 + 64 * 0) + 256 * 0)) := by omega
  have e1 : (858993459 : Nat) = 51 + 256 * (51 + 256 * (51 + 256 * 51)) := by decide
  have e2 : t0 + 256 * (t1 + 256 * t2) = t0 + 256 * (t1 + 256 * (t2 + 256 * 0)) := by omega
  rw [e0, e1]
  rw [show (t0 + 256 * (t1 + 256 * t2)) &&& (51 + 256 * (51 + 256 * (51 + 256 * 51))) = (t0 &&& 51) + 256 * ((t1 &&& 51) + 256 * ((t2 &&& 51) + 256 * (0 &&& 51))) from by rw [e2, ln_and h0 (by decide), ln_and h1 (by decide), ln_and h2 (by decide)]]
  rw [ln_and (by omega) (by decide), ln_and (by omega) (by decide), ln_and (by omega) (by decide)]
  rw [sw_c t0 h0 _ (by omega), sw_c t1 h1 _ (by omega), sw_c t2 h2 0 (by decide)]
  have k3 : (0 &&& 51 : Nat) = 0 := by decide
  rw [k3]
  omega
theorem sw_s3 {b0 b1 b2 : Nat} (h0 : b0 < 256) (h1 : b1 < 256) (h2 : b2 < 256) : ((sw2 b0 + 256 * (sw2 b1 + 256 * sw2 b2)) + (sw2 b0 + 256 * (sw2 b1 + 256 * sw2 b2)) / 16) &&& 252645135 = sw3 b0 + 256 * (sw3 b1 + 256 * sw3 b2) := by
  have k0 := (sw_b b0 h0).2.2.1; have k1 := (sw_b b1 h1).2.2.1; have k2 := (sw_b b2 h2).2.2.1
  have f1 := sw_f b1 h1; have f2 := sw_f b2 h2
  have e0 : (sw2 b0 + 256 * (sw2 b1 + 256 * sw2 b2)) + (sw2 b0 + 256 * (sw2 b1 + 256 * sw2 b2)) / 16 = (sw2 b0 + sw2 b0 / 16 + 16 * (sw2 b1 % 16)) + 256 * ((sw2 b1 + sw2 b1 / 16 + 16 * (sw2 b2 % 16)) + 256 * ((sw2 b2 + sw2 b2 / 16 + 16 * 0) + 256 * 0)) := by omega
  have e1 : (252645135 : Nat) = 15 + 256 * (15 + 256 * (15 + 256 * 15)) := by decide
  rw [e0, e1, ln_and (by omega) (by decide), ln_and (by omega) (by decide), ln_and (by omega) (by decide)]
  rw [sw_d b0 h0 _ (by omega), sw_d b1 h1 _ (by omega), sw_d b2 h2 0 (by decide)]
  have k3 : (0 &&& 15 : Nat) = 0 := by decide
  rw [k3]
  omega
theorem swar21 {p0 : Int32} (h : iv 0 2097151 p0) : iv 0 21 ((((((((p0 - (((p0.toUInt32 >>> ((1 : Int32).toUInt32 &&& Int32.toUInt32 31)).toInt32) &&& 1431655765)) &&& 858993459) + ((((p0 - (((p0.toUInt32 >>> ((1 : Int32).toUInt32 &&& Int32.toUInt32 31)).toInt32) &&& 1431655765)).toUInt32 >>> ((2 : Int32).toUInt32 &&& Int32.toUInt32 31)).toInt32) &&& 858993459)) + (((((p0 - (((p0.toUInt32 >>> ((1 : Int32).toUInt32 &&& Int32.toUInt32 31)).toInt32) &&& 1431655765)) &&& 858993459) + ((((p0 - (((p0.toUInt32 >>> ((1 : Int32).toUInt32 &&& Int32.toUInt32 31)).toInt32) &&& 1431655765)).toUInt32 >>> ((2 : Int32).toUInt32 &&& Int32.toUInt32 31)).toInt32) &&& 858993459)).toUInt32 >>> ((4 : Int32).toUInt32 &&& Int32.toUInt32 31)).toInt32)) &&& 252645135) + (((((((p0 - (((p0.toUInt32 >>> ((1 : Int32).toUInt32 &&& Int32.toUInt32 31)).toInt32) &&& 1431655765)) &&& 858993459) + ((((p0 - (((p0.toUInt32 >>> ((1 : Int32).toUInt32 &&& Int32.toUInt32 31)).toInt32) &&& 1431655765)).toUInt32 >>> ((2 : Int32).toUInt32 &&& Int32.toUInt32 31)).toInt32) &&& 858993459)) + (((((p0 - (((p0.toUInt32 >>> ((1 : Int32).toUInt32 &&& Int32.toUInt32 31)).toInt32) &&& 1431655765)) &&& 858993459) + ((((p0 - (((p0.toUInt32 >>> ((1 : Int32).toUInt32 &&& Int32.toUInt32 31)).toInt32) &&& 1431655765)).toUInt32 >>> ((2 : Int32).toUInt32 &&& Int32.toUInt32 31)).toInt32) &&& 858993459)).toUInt32 >>> ((4 : Int32).toUInt32 &&& Int32.toUInt32 31)).toInt32)) &&& 252645135).toUInt32 >>> ((8 : Int32).toUInt32 &&& Int32.toUInt32 31)).toInt32)) + ((((((((p0 - (((p0.toUInt32 >>> ((1 : Int32).toUInt32 &&& Int32.toUInt32 31)).toInt32) &&& 1431655765)) &&& 858993459) + ((((p0 - (((p0.toUInt32 >>> ((1 : Int32).toUInt32 &&& Int32.toUInt32 31)).toInt32) &&& 1431655765)).toUInt32 >>> ((2 : Int32).toUInt32 &&& Int32.toUInt32 31)).toInt32) &&& 858993459)) + (((((p0 - (((p0.toUInt32 >>> ((1 : Int32).toUInt32 &&& Int32.toUInt32 31)).toInt32) &&& 1431655765)) &&& 858993459) + ((((p0 - (((p0.toUInt32 >>> ((1 : Int32).toUInt32 &&& Int32.toUInt32 31)).toInt32) &&& 1431655765)).toUInt32 >>> ((2 : Int32).toUInt32 &&& Int32.toUInt32 31)).toInt32) &&& 858993459)).toUInt32 >>> ((4 : Int32).toUInt32 &&& Int32.toUInt32 31)).toInt32)) &&& 252645135) + (((((((p0 - (((p0.toUInt32 >>> ((1 : Int32).toUInt32 &&& Int32.toUInt32 31)).toInt32) &&& 1431655765)) &&& 858993459) + ((((p0 - (((p0.toUInt32 >>> ((1 : Int32).toUInt32 &&& Int32.toUInt32 31)).toInt32) &&& 1431655765)).toUInt32 >>> ((2 : Int32).toUInt32 &&& Int32.toUInt32 31)).toInt32) &&& 858993459)) + (((((p0 - (((p0.toUInt32 >>> ((1 : Int32).toUInt32 &&& Int32.toUInt32 31)).toInt32) &&& 1431655765)) &&& 858993459) + ((((p0 - (((p0.toUInt32 >>> ((1 : Int32).toUInt32 &&& Int32.toUInt32 31)).toInt32) &&& 1431655765)).toUInt32 >>> ((2 : Int32).toUInt32 &&& Int32.toUInt32 31)).toInt32) &&& 858993459)).toUInt32 >>> ((4 : Int32).toUInt32 &&& Int32.toUInt32 31)).toInt32)) &&& 252645135).toUInt32 >>> ((8 : Int32).toUInt32 &&& Int32.toUInt32 31)).toInt32)).toUInt32 >>> ((16 : Int32).toUInt32 &&& Int32.toUInt32 31)).toInt32)) &&& 63) := by
  obtain ⟨n, rfl, hn, ln⟩ := iv_nI h (by decide)
  have hh := h.2
  obtain ⟨b0, b1, b2, h0, h1, h2, e0⟩ : ∃ b0 b1 b2 : Nat, b0 < 256 ∧ b1 < 256 ∧ b2 < 32 ∧ n = b0 + 256 * (b1 + 256 * b2) := ⟨n % 256, n / 256 % 256, n / 65536, by omega, by omega, by omega, by omega⟩
  have c1 : (1431655765 : Int32) = nI 1431655765 := by decide
  have c2 : (858993459 : Int32) = nI 858993459 := by decide
  have c3 : (252645135 : Int32) = nI 252645135 := by decide
  have k0 := sw_b b0 h0; have k1 := sw_b b1 h1; have k2 := sw_b b2 (by omega); have k3 := sw_e b2 h2
  have a1 : n / 2 &&& 1431655765 < 2 ^ 32 := Nat.and_lt_two_pow _ (by decide)
  have s1 := sw_s1 h0 h1 h2
  rw [← e0] at s1
  have a2 : n / 2 &&& 1431655765 ≤ n := by
    by_cases q : n / 2 &&& 1431655765 ≤ n
    · exact q
    · exact Nat.le_trans (Nat.and_le_left) (Nat.div_le_self _ _)
  have s2 := sw_s2 k0.2.1 k1.2.1 k2.2.1
  rw [← s1] at s2
  have s2' : (n - (n / 2 &&& 1431655765) &&& 858993459) + ((n - (n / 2 &&& 1431655765)) / 4 &&& 858993459) = sw2 b0 + 256 * (sw2 b1 + 256 * sw2 b2) := s2
  have s3 := sw_s3 h0 h1 (show b2 < 256 by omega)
  rw [← s2'] at s3
  have r1 : ((nI n).toUInt32 >>> ((1 : Int32).toUInt32 &&& Int32.toUInt32 31)).toInt32 = nI (n / 2 ^ 1) := pk_ushrN (by omega) 1 1 (by decide)
  generalize hT : n - (n / 2 &&& 1431655765) = T at *
  have lT : T < 2 ^ 31 := by omega
  have r2 : ((nI T).toUInt32 >>> ((2 : Int32).toUInt32 &&& Int32.toUInt32 31)).toInt32 = nI (T / 2 ^ 2) := pk_ushrN (by omega) 2 2 (by decide)
  generalize hU : (T &&& 858993459) + (T / 4 &&& 858993459) = U at *
  have lU : U < 2 ^ 31 := by omega
  have r3 : ((nI U).toUInt32 >>> ((4 : Int32).toUInt32 &&& Int32.toUInt32 31)).toInt32 = nI (U / 2 ^ 4) := pk_ushrN (by omega) 4 4 (by decide)
  generalize hVe : (U + U / 16) &&& 252645135 = Ve at *
  have lV : Ve < 2 ^ 31 := by omega
  have r4 : ((nI Ve).toUInt32 >>> ((8 : Int32).toUInt32 &&& Int32.toUInt32 31)).toInt32 = nI (Ve / 2 ^ 8) := pk_ushrN (by omega) 8 8 (by decide)
  have r5 : ((nI (Ve + Ve / 256)).toUInt32 >>> ((16 : Int32).toUInt32 &&& Int32.toUInt32 31)).toInt32 = nI ((Ve + Ve / 256) / 2 ^ 16) := pk_ushrN (by omega) 16 16 (by decide)
  have p1 : (2 : Nat) ^ 1 = 2 := by decide
  have p2 : (2 : Nat) ^ 2 = 4 := by decide
  have p3 : (2 : Nat) ^ 4 = 16 := by decide
  have p4 : (2 : Nat) ^ 8 = 256 := by decide
  rw [r1, p1, c1, nI_and (by omega) (by decide), pk_sub (by omega), hT, r2, p2, c2, nI_and (by omega) (by decide), nI_and (by omega) (by decide), nI_add, hU, r3, p3, nI_add, c3, nI_and (by omega) (by decide), hVe, r4, p4, nI_add, r5, nI_add]
  have hq : (Ve + Ve / 256 + (Ve + Ve / 256) / 2 ^ 16) % 2 ^ 6 ≤ 21 := by
    have d1 : Ve / 256 = sw3 b1 + 256 * sw3 b2 := by omega
    have d2 : (Ve + Ve / 256) / 2 ^ 16 = sw3 b2 := by
      rw [show (2 : Nat) ^ 16 = 65536 from rfl, d1]; omega
    rw [d2, d1, show (2 : Nat) ^ 6 = 64 from rfl]
    have d3 : Ve + (sw3 b1 + 256 * sw3 b2) + sw3 b2 = (sw3 b0 + sw3 b1 + sw3 b2) + 64 * (4 * sw3 b1 + 1028 * sw3 b2) := by omega
    rw [d3, Nat.add_mul_mod_self_left, Nat.mod_eq_of_lt (by omega)]
    omega
  rw [pk_andN (k := 6) (by omega) (by decide)]
  exact iv_nIv (by omega) (Int.natCast_nonneg _) (Int.ofNat_le.mpr hq)

/-! what a flow saw: five bits a hop, at most 21 in each -/
def shn (i : Nat) : Nat := if i = 0 then 59 else 5 * (i - 1)
def SB (w : Int64) : Prop := ∀ i, i ≤ 10 → (w.toBitVec.toNat / 2 ^ shn i) % 32 ≤ 21
def sI (f : Nat → Int64) : Prop := ∀ j, SB (f j)
theorem sI_cpy {f g : Nat → Int64} {n : Nat} (hf : sI f) (hg : sI g) : sI (va_cpy f g 0 0 n) := by
  intro j
  unfold va_cpy
  by_cases h : 0 ≤ j ∧ j < 0 + n
  · rw [if_pos h]
    have e : 0 + (j - 0) = j := by omega
    rw [e]
    exact hf j
  · rw [if_neg h]
    exact hg j
theorem sI_u {f : Nat → Int64} (h : sI f) {k : Nat} {v : Int64} (hv : SB v) : sI (vp_updL f k v) := by
  intro j
  unfold vp_updL
  by_cases hj : j = k
  · rw [if_pos hj]; exact hv
  · rw [if_neg hj]; exact h j
theorem SB_0 : SB 0 := by
  intro i _
  rw [show ((0 : Int64)).toBitVec.toNat = 0 from by decide, Nat.zero_div]
  decide
theorem sb_ex (w : Int64) (s : UInt64) (n : Nat) (hs : s.toBitVec.toNat = n) (hn : n < 64) : ((w.toUInt64 >>> s).toInt64 &&& 31).toInt32 = nI ((w.toBitVec.toNat / 2 ^ n) % 32) := by
  apply nI_eqbv
  rw [Int64.toBitVec_toInt32, BitVec.signExtend_eq_setWidth_of_le _ (by decide), BitVec.toNat_setWidth, Int64.toBitVec_and, BitVec.toNat_and]
  have e1 : ((w.toUInt64 >>> s).toInt64).toBitVec.toNat = w.toBitVec.toNat / 2 ^ n := by
    rw [show ((w.toUInt64 >>> s).toInt64).toBitVec = (w.toUInt64 >>> s).toBitVec from rfl, UInt64.toBitVec_shiftRight]
    rw [show w.toUInt64.toBitVec = w.toBitVec from rfl]
    rw [BitVec.ushiftRight_eq', BitVec.toNat_ushiftRight, BitVec.toNat_umod, hs, Nat.shiftRight_eq_div_pow]
    rw [show (64 : BitVec 64).toNat = 64 from rfl, Nat.mod_eq_of_lt hn]
  rw [e1, show ((31 : Int64)).toBitVec.toNat = 2 ^ 5 - 1 from by decide, Nat.and_two_pow_sub_one_eq_mod]
  rw [Nat.mod_eq_of_lt (a := w.toBitVec.toNat / 2 ^ n % 2 ^ 5)]
  exact Nat.lt_of_lt_of_le (Nat.mod_lt _ (by decide)) (by decide)
theorem sb_sh : ∀ i, i ≤ 10 → ((5 * (nI i - 1)).toInt64.toUInt64 &&& Int64.toUInt64 63).toBitVec.toNat = shn i := by decide +kernel
theorem sb_get {f : Nat → Int64} (hf : sI f) (k : Nat) {h : Int32} (hh : iv 0 10 h) : iv 0 21 ((((f k).toUInt64 >>> ((5 * (h - 1)).toInt64.toUInt64 &&& Int64.toUInt64 63)).toInt64 &&& 31).toInt32) := by
  obtain ⟨i, rfl, hi, li⟩ := iv_nI hh (by decide)
  have h2 := hh.2
  have hi10 : i ≤ 10 := by omega
  have hsn : shn i < 64 := by unfold shn; split <;> omega
  rw [sb_ex (f k) _ (shn i) (sb_sh i hi10) hsn]
  have q := hf k i hi10
  exact iv_nIv (by omega) (by omega) (by omega)
/-- a group of five bits set anew -/
theorem sb_bits (w a : BitVec 64) (n : Nat) (hn : n + 5 ≤ 64) (ha : a.toNat < 32) (j : Nat) (hj : j < 64) : ((w &&& ((31#64 <<< n) ^^^ 18446744073709551615#64)) ||| (a <<< n)).getLsbD j = if n ≤ j ∧ j < n + 5 then a.getLsbD (j - n) else w.getLsbD j := by
  have h31 : ∀ t, (31#64).getLsbD t = decide (t < 5) := by
    intro t
    by_cases ht : t < 5
    · rcases (show t = 0 ∨ t = 1 ∨ t = 2 ∨ t = 3 ∨ t = 4 by omega) with rfl | rfl | rfl | rfl | rfl <;> decide
    · have : (31#64).getLsbD t = false := by
        show Nat.testBit (31#64).toNat t = false
        exact Nat.testBit_lt_two_pow (Nat.lt_of_lt_of_le (by decide : 31 < 2 ^ 5) (Nat.pow_le_pow_right (by decide) (by omega)))
      rw [this]; simp [ht]
  have hfull : (18446744073709551615#64).getLsbD j = true := by
    rw [show 18446744073709551615#64 = BitVec.allOnes 64 from by decide, BitVec.getLsbD_allOnes]; simp [hj]
  have haf : ∀ t, 5 ≤ t → a.getLsbD t = false := fun t ht => show Nat.testBit a.toNat t = false from Nat.testBit_lt_two_pow (Nat.lt_of_lt_of_le ha (Nat.le_trans (by decide : 32 ≤ 2 ^ 5) (Nat.pow_le_pow_right (by decide) ht)))
  rw [BitVec.getLsbD_or, BitVec.getLsbD_and, BitVec.getLsbD_xor, BitVec.getLsbD_shiftLeft, BitVec.getLsbD_shiftLeft, hfull, h31]
  by_cases h1 : n ≤ j
  · by_cases h2 : j < n + 5
    · simp [h1, h2, hj, show ¬ j < n by omega, show j - n < 5 by omega]
    · simp [h1, h2, hj, show ¬ j < n by omega, show ¬ j - n < 5 by omega, haf (j - n) (by omega)]
  · simp [h1, hj, show j < n by omega]
theorem sb_grp (x : BitVec 64) (n j : Nat) : ((x.toNat / 2 ^ n) % 32).testBit j = (decide (j < 5) && x.getLsbD (n + j)) := by
  rw [show (32 : Nat) = 2 ^ 5 from rfl, Nat.testBit_mod_two_pow, ← Nat.shiftRight_eq_div_pow, Nat.testBit_shiftRight]
  rfl
theorem sb_new (w : Int64) (a : BitVec 64) (n : Nat) (w2 : Int64) (hw : SB w) (i : Nat) (hi : 1 ≤ i) (hi2 : i ≤ 10) (hn : n = shn i) (ha : a.toNat ≤ 21) (e : w2.toBitVec = (w.toBitVec &&& ((31#64 <<< n) ^^^ 18446744073709551615#64)) ||| (a <<< n)) : SB w2 := by
  intro k hk
  have hnv : n = 5 * (i - 1) := by rw [hn]; unfold shn; rw [if_neg (by omega)]
  have key : ∀ j, j < 5 → shn k + j < 64 := by
    intro j hj; unfold shn; split <;> omega
  by_cases hki : k = i
  · subst hki
    have e2 : (w2.toBitVec.toNat / 2 ^ shn k) % 32 = a.toNat := by
      apply Nat.eq_of_testBit_eq
      intro j
      rw [sb_grp, e]
      by_cases hj : j < 5
      · rw [sb_bits _ _ _ (by omega) (by omega) _ (key j hj), if_pos (by omega), hn, Nat.add_sub_cancel_left]
        simp [hj]; rfl
      · have : a.toNat.testBit j = false := Nat.testBit_lt_two_pow (Nat.lt_of_lt_of_le (by omega : a.toNat < 2 ^ 5) (Nat.pow_le_pow_right (by decide) (by omega)))
        simp [hj, this]
    omega
  · have e2 : (w2.toBitVec.toNat / 2 ^ shn k) % 32 = (w.toBitVec.toNat / 2 ^ shn k) % 32 := by
      apply Nat.eq_of_testBit_eq
      intro j
      rw [sb_grp, sb_grp, e]
      by_cases hj : j < 5
      · rw [sb_bits _ _ _ (by omega) (by omega) _ (key j hj), if_neg (by unfold shn; split <;> omega)]
      · simp [hj]
    have := hw k hk
    omega
theorem sb_s2 : ∀ i, i ≤ 10 → 1 ≤ i → ((5 * (nI i - 1)).toInt64 &&& 63).toBitVec.smod 64 = BitVec.ofNat 64 (shn i) := by decide +kernel
theorem sb_a2 : ∀ t, t ≤ 20 → ((nI t + 1).toInt64).toBitVec.toNat = t + 1 := by decide +kernel
theorem sb_see {f : Nat → Int64} {k j : Nat} {h a : Int32} (hf : sI f) (hh : iv 1 10 h) (ha : iv 0 20 a) : sI (vp_updL f k (((f j) &&& ((31 <<< ((5 * (h - 1)).toInt64 &&& 63)) ^^^ (-1))) ||| ((a + 1).toInt64 <<< ((5 * (h - 1)).toInt64 &&& 63)))) := by
  obtain ⟨i, rfl, hi, li⟩ := iv_nI hh (by decide)
  obtain ⟨t, rfl, ht, lt⟩ := iv_nI ha (by decide)
  have h1 := hh.1; have h2 := hh.2; have h3 := ha.2
  refine sI_u hf (sb_new (f j) ((nI t + 1).toInt64).toBitVec (shn i) _ (hf j) i (by omega) (by omega) rfl (by rw [sb_a2 t (by omega)]; omega) ?_)
  have e := sb_s2 i (by omega) (by omega)
  have hl : shn i < 2 ^ 64 := by unfold shn; split <;> omega
  rw [Int64.toBitVec_or, Int64.toBitVec_and, Int64.toBitVec_xor, Int64.toBitVec_shiftLeft, Int64.toBitVec_shiftLeft, e]
  rw [BitVec.shiftLeft_eq', BitVec.shiftLeft_eq', BitVec.toNat_ofNat, Nat.mod_eq_of_lt hl]
  rfl
