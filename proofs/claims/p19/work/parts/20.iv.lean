/-! numbers between bounds; rows of numbers between bounds; objects whose numbers are a row -/
def iv (a b : Int) (x : Int32) : Prop := a ≤ x.toInt ∧ x.toInt ≤ b
def fI (lo hi : Nat → Int) (f : Nat → Int32) : Prop := ∀ j, iv (lo j) (hi j) (f j)
theorem iv_w {a b c d : Int} {x : Int32} (h : iv a b x) (h1 : c ≤ a) (h2 : b ≤ d) : iv c d x := ⟨Int.le_trans h1 h.1, Int.le_trans h.2 h2⟩
theorem iv_no {a b : Int} {x : Int32} (h : iv a b x) (h1 : b < a) : False := by obtain ⟨h2, h3⟩ := h; omega
theorem iv_t (x : Int32) : iv (-2147483648) 2147483647 x := ⟨Int32.le_toInt x, Int.le_of_lt_add_one (Int32.toInt_lt x)⟩
theorem iv_add0 {a b c d : Int} {x y : Int32} (hx : iv a b x) (hy : iv c d y) (h1 : -2147483648 ≤ a + c) (h2 : b + d ≤ 2147483647) : (x + y).toInt = x.toInt + y.toInt := by
  obtain ⟨p1, p2⟩ := hx; obtain ⟨q1, q2⟩ := hy
  rw [Int32.toInt_add]
  exact Int.bmod_eq_of_le (by omega) (by omega)
theorem iv_sub0 {a b c d : Int} {x y : Int32} (hx : iv a b x) (hy : iv c d y) (h1 : -2147483648 ≤ a - d) (h2 : b - c ≤ 2147483647) : (x - y).toInt = x.toInt - y.toInt := by
  obtain ⟨p1, p2⟩ := hx; obtain ⟨q1, q2⟩ := hy
  rw [Int32.toInt_sub]
  exact Int.bmod_eq_of_le (by omega) (by omega)
theorem iv_add {a b c d u v : Int} {x y : Int32} (hx : iv a b x) (hy : iv c d y) (h1 : -2147483648 ≤ u) (h2 : v ≤ 2147483647) (h3 : u ≤ a + c) (h4 : b + d ≤ v) : iv u v (x + y) := by
  have e := iv_add0 hx hy (by omega) (by omega)
  obtain ⟨p1, p2⟩ := hx; obtain ⟨q1, q2⟩ := hy
  exact ⟨by rw [e]; omega, by rw [e]; omega⟩
theorem iv_sub {a b c d u v : Int} {x y : Int32} (hx : iv a b x) (hy : iv c d y) (h1 : -2147483648 ≤ u) (h2 : v ≤ 2147483647) (h3 : u ≤ a - d) (h4 : b - c ≤ v) : iv u v (x - y) := by
  have e := iv_sub0 hx hy (by omega) (by omega)
  obtain ⟨p1, p2⟩ := hx; obtain ⟨q1, q2⟩ := hy
  exact ⟨by rw [e]; omega, by rw [e]; omega⟩
theorem iv_mul0 {a b c d : Int} {x y : Int32} (hx : iv a b x) (hy : iv c d y) (ha : 0 ≤ a) (hc : 0 ≤ c) (h2 : b * d ≤ 2147483647) : (x * y).toInt = x.toInt * y.toInt := by
  obtain ⟨p1, p2⟩ := hx; obtain ⟨q1, q2⟩ := hy
  have g1 : 0 ≤ x.toInt * y.toInt := Int.mul_nonneg (by omega) (by omega)
  have g2 : x.toInt * y.toInt ≤ b * d := Int.mul_le_mul p2 q2 (by omega) (by omega)
  rw [Int32.toInt_mul]
  exact Int.bmod_eq_of_le (by omega) (by omega)
theorem iv_mul {a b c d u v : Int} {x y : Int32} (hx : iv a b x) (hy : iv c d y) (ha : 0 ≤ a) (hc : 0 ≤ c) (h2 : v ≤ 2147483647) (h3 : u ≤ a * c) (h4 : b * d ≤ v) : iv u v (x * y) := by
  have e := iv_mul0 hx hy ha hc (by omega)
  obtain ⟨p1, p2⟩ := hx; obtain ⟨q1, q2⟩ := hy
  have g1 : a * c ≤ x.toInt * y.toInt := Int.mul_le_mul p1 q1 hc (by omega)
  have g2 : x.toInt * y.toInt ≤ b * d := Int.mul_le_mul p2 q2 (by omega) (by omega)
  exact ⟨by rw [e]; omega, by rw [e]; omega⟩
theorem iv_nI {a b : Int} {x : Int32} (h : iv a b x) (ha : 0 ≤ a) : ∃ k : Nat, x = nI k ∧ (k : Int) = x.toInt ∧ k < 2 ^ 31 := by
  have hl := Int32.toInt_lt x
  refine ⟨x.toInt.toNat, ?_, by have := h.1; omega, by have := h.1; omega⟩
  have h0 : 0 ≤ x.toInt := Int.le_trans ha h.1
  apply Int32.toInt_inj.mp
  rw [nI_toInt (by omega)]
  omega
theorem iv_rem {a b c d u v : Int} {x y : Int32} (hx : iv a b x) (hy : iv c d y) (ha : 0 ≤ a) (hc : 1 ≤ c) (h3 : u ≤ 0) (h4 : d - 1 ≤ v) : iv u v (x - x / y * y) := by
  obtain ⟨k, rfl, hk, lk⟩ := iv_nI hx ha
  obtain ⟨n, rfl, hn, ln⟩ := iv_nI hy (by omega)
  have h0 : 0 < n := by have := hy.1; omega
  rw [pk_rem lk h0 ln]
  have hm := Nat.mod_lt k h0
  have e := nI_toInt (n := k % n) (by omega)
  exact ⟨by rw [e]; omega, by rw [e]; have := hy.2; omega⟩
theorem iv_div {a b c d u v : Int} {x y : Int32} (hx : iv a b x) (hy : iv c d y) (ha : 0 ≤ a) (hc : 1 ≤ c) (h3 : u ≤ 0) (h4 : b ≤ v) : iv u v (x / y) := by
  obtain ⟨k, rfl, hk, lk⟩ := iv_nI hx ha
  obtain ⟨n, rfl, hn, ln⟩ := iv_nI hy (by omega)
  have h0 : 0 < n := by have := hy.1; omega
  rw [pk_div lk h0 ln]
  have hm : k / n ≤ k := Nat.div_le_self k n
  have e := nI_toInt (n := k / n) (by omega)
  exact ⟨by rw [e]; exact Int.le_trans h3 (Int.natCast_nonneg _), by rw [e]; have := hx.2; omega⟩
theorem iv_and {m : Nat} {x : Int32} {u v : Int} (hm : m < 2 ^ 31) (h3 : u ≤ 0) (h4 : (m : Int) ≤ v) : iv u v (x &&& nI m) := by
  have e : (x &&& nI m).toInt = ((x &&& nI m).toBitVec.toNat : Int) := by
    have hb : (x &&& nI m).toBitVec.toNat ≤ m := by
      rw [Int32.toBitVec_and, BitVec.toNat_and]
      refine Nat.le_trans Nat.and_le_right ?_
      show (Int32.ofNat m).toBitVec.toNat ≤ m
      rw [show (Int32.ofNat m).toBitVec = BitVec.ofNat 32 m from rfl, BitVec.toNat_ofNat]
      exact Nat.mod_le _ _
    rw [← Int32.toInt_toBitVec, BitVec.toInt_eq_toNat_cond]
    rw [if_pos (by omega)]
  have hb : (x &&& nI m).toBitVec.toNat ≤ m := by
    rw [Int32.toBitVec_and, BitVec.toNat_and]
    refine Nat.le_trans Nat.and_le_right ?_
    show (Int32.ofNat m).toBitVec.toNat ≤ m
    rw [show (Int32.ofNat m).toBitVec = BitVec.ofNat 32 m from rfl, BitVec.toNat_ofNat]
    exact Nat.mod_le _ _
  exact ⟨by rw [e]; omega, by rw [e]; omega⟩
theorem iv_ltL {a b c d u v : Int} {x y : Int32} (h : x < y) (hx : iv a b x) (hy : iv c d y) (h1 : u ≤ a) (h2 : d - 1 ≤ v) : iv u v x := by
  have q := Int32.lt_iff_toInt_lt.mp h
  obtain ⟨p1, p2⟩ := hx; obtain ⟨q1, q2⟩ := hy
  exact ⟨by omega, by omega⟩
theorem iv_ltR {a b c d u v : Int} {x y : Int32} (h : x < y) (hx : iv a b x) (hy : iv c d y) (h1 : u ≤ a + 1) (h2 : d ≤ v) : iv u v y := by
  have q := Int32.lt_iff_toInt_lt.mp h
  obtain ⟨p1, p2⟩ := hx; obtain ⟨q1, q2⟩ := hy
  exact ⟨by omega, by omega⟩
theorem iv_leL {a b c d u v : Int} {x y : Int32} (h : x ≤ y) (hx : iv a b x) (hy : iv c d y) (h1 : u ≤ a) (h2 : d ≤ v) : iv u v x := by
  have q := Int32.le_iff_toInt_le.mp h
  obtain ⟨p1, p2⟩ := hx; obtain ⟨q1, q2⟩ := hy
  exact ⟨by omega, by omega⟩
theorem iv_leR {a b c d u v : Int} {x y : Int32} (h : x ≤ y) (hx : iv a b x) (hy : iv c d y) (h1 : u ≤ a) (h2 : d ≤ v) : iv u v y := by
  have q := Int32.le_iff_toInt_le.mp h
  obtain ⟨p1, p2⟩ := hx; obtain ⟨q1, q2⟩ := hy
  exact ⟨by omega, by omega⟩
theorem iv_eqL {a b : Int} {x y : Int32} (h : x = y) (hy : iv a b y) : iv a b x := h ▸ hy
theorem iv_eqR {a b : Int} {x y : Int32} (h : x = y) (hx : iv a b x) : iv a b y := h ▸ hx
theorem iv_neLo {a b c u : Int} {x y : Int32} (h : ¬ x = y) (hx : iv a b x) (hy : iv a a y) (h1 : u ≤ a + 1) (h2 : b ≤ c) : iv u c x := by
  have q : ¬ x.toInt = y.toInt := fun w => h (Int32.toInt_inj.mp w)
  obtain ⟨p1, p2⟩ := hx; obtain ⟨q1, q2⟩ := hy
  exact ⟨by omega, by omega⟩
theorem iv_neHi {a b c u : Int} {x y : Int32} (h : ¬ x = y) (hx : iv a b x) (hy : iv b b y) (h1 : c ≤ a) (h2 : b - 1 ≤ u) : iv c u x := by
  have q : ¬ x.toInt = y.toInt := fun w => h (Int32.toInt_inj.mp w)
  obtain ⟨p1, p2⟩ := hx; obtain ⟨q1, q2⟩ := hy
  exact ⟨by omega, by omega⟩
theorem ne_sy {x y : Int32} (h : ¬ x = y) : ¬ y = x := fun w => h w.symm
theorem iv_lt {a b c d : Int} {x y : Int32} (hx : iv a b x) (hy : iv c d y) (h : b < c) : x < y := by
  refine Int32.lt_iff_toInt_lt.mpr ?_
  obtain ⟨p1, p2⟩ := hx; obtain ⟨q1, q2⟩ := hy
  omega
theorem iv_le {a b c d : Int} {x y : Int32} (hx : iv a b x) (hy : iv c d y) (h : b ≤ c) : x ≤ y := by
  refine Int32.le_iff_toInt_le.mpr ?_
  obtain ⟨p1, p2⟩ := hx; obtain ⟨q1, q2⟩ := hy
  omega
theorem iv_nlt {a b c d : Int} {x y : Int32} (hx : iv a b x) (hy : iv c d y) (h : d ≤ a) : ¬ x < y := fun w => by
  have w := Int32.lt_iff_toInt_lt.mp w
  obtain ⟨p1, p2⟩ := hx; obtain ⟨q1, q2⟩ := hy
  omega
theorem iv_nle {a b c d : Int} {x y : Int32} (hx : iv a b x) (hy : iv c d y) (h : d < a) : ¬ x ≤ y := fun w => by
  have w := Int32.le_iff_toInt_le.mp w
  obtain ⟨p1, p2⟩ := hx; obtain ⟨q1, q2⟩ := hy
  omega
theorem iv_ne {a b c d : Int} {x y : Int32} (hx : iv a b x) (hy : iv c d y) (h : b < c ∨ d < a) : ¬ x = y := fun w => by
  subst w
  obtain ⟨p1, p2⟩ := hx; obtain ⟨q1, q2⟩ := hy
  omega
theorem iv_in {a b : Int} {n : Nat} {x : Int32} (h : iv a b x) (h1 : 0 ≤ a) (h2 : b < n) : vp_in x n := vp_in_iff.mpr ⟨Int.le_trans h1 h.1, Int.lt_of_le_of_lt h.2 h2⟩
theorem fI_w {lo hi lo2 hi2 : Nat → Int} {f : Nat → Int32} (h : fI lo hi f) (h1 : ∀ j, lo2 j ≤ lo j) (h2 : ∀ j, hi j ≤ hi2 j) : fI lo2 hi2 f := fun j => iv_w (h j) (h1 j) (h2 j)
theorem fI_u {lo hi : Nat → Int} {f : Nat → Int32} (h : fI lo hi f) {k : Nat} {v : Int32} (hv : iv (lo k) (hi k) v) : fI lo hi (upd f k v) := by
  intro j
  by_cases hj : j = k
  · subst hj; simpa [upd] using hv
  · simpa [upd, hj] using h j
theorem ms_up {a b c d : Int} {x y : Int32} {n : Nat} {t : Int} (hx : iv a b x) (hm : (t - x.toInt).toNat < n + 1) (h : b < t) (hy : y.toInt = x.toInt + c) (hc : 1 ≤ c) (_ : d = d) : (t - y.toInt).toNat < n := by
  obtain ⟨p1, p2⟩ := hx
  omega
theorem ms_dn {a b c d : Int} {x y : Int32} {n : Nat} {t : Int} (hx : iv a b x) (hm : (x.toInt - t).toNat < n + 1) (h : t < a) (hy : y.toInt = x.toInt - c) (hc : 1 ≤ c) (_ : d = d) : (y.toInt - t).toNat < n := by
  obtain ⟨p1, p2⟩ := hx
  omega
theorem iv_inc {a b : Int} {x : Int32} (c : Int) (hx : iv a b x) (h0 : -2147483648 ≤ a + c) (h1 : b + c ≤ 2147483647) (hc : -2147483648 ≤ c) (hc2 : c ≤ 2147483647) : (x + Int32.ofInt c).toInt = x.toInt + c := by
  obtain ⟨p1, p2⟩ := hx
  rw [Int32.toInt_add, Int32.toInt_ofInt_of_le (by omega) (by omega)]
  exact Int.bmod_eq_of_le (by omega) (by omega)
section IVW
variable {p : Program} {l : Launch} {e : Env} {R : Room} {s : State} {m : MethodId} {args : Array Value} {below : List Frame} {meth : Method} {c : Code} {H : Heap} {locs : List Loc} {cells slots : Nat} {Q : State → Prop}
variable {pc : Nat} {ls : Array Slot} {rest : List Value}
/-- the top's bounds are kept, and nothing else of it -/
theorem iv_top {a b : Int} {x : Int32} (hx : iv a b x) (k : ∀ y : Int32, iv a b y → W p l e R s m args below meth c H locs cells slots Q (F0 m pc ls (.int y :: rest))) : W p l e R s m args below meth c H locs cells slots Q (F0 m pc ls (.int x :: rest)) := k x hx
end IVW
def oX0 (r0 r1 r2 r3 : Nat) (x : Nat → Int32) : List Value := [.ref r0, .ref r1, .ref r2, .ref r3, .int (x 0), .int (x 1), .int (x 2), .int (x 3), .int (x 4), .int (x 5)]
def oX1 (r0 : Nat) (x : Nat → Int32) : List Value := [.ref r0, .int (x 0), .int (x 1)]
def oX2 (r0 r1 r2 r3 r4 r5 r6 r7 r8 r9 r10 : Nat) (x : Nat → Int32) : List Value := [.ref r0, .ref r1, .ref r2, .ref r3, .ref r4, .ref r5, .ref r6, .int (x 0), .int (x 1), .int (x 2), .int (x 3), .ref r7, .ref r8, .ref r9, .ref r10]
def oX3 (r0 r1 r2 r3 r4 r5 : Nat) (x : Nat → Int32) : List Value := [.ref r0, .ref r1, .ref r2, .ref r3, .ref r4, .ref r5, .int (x 0), .int (x 1), .int (x 2)]
def oX4 (r0 r1 : Nat) (x : Nat → Int32) : List Value := [.ref r0, .ref r1, .int (x 0)]
def oX5 (r0 r1 : Nat) (x : Nat → Int32) : List Value := [.int (x 0), .int (x 1), .ref r0, .ref r1, .int (x 2), .int (x 3), .int (x 4), .int (x 5), .int (x 6)]
def oX6 (r0 r1 r2 r3 : Nat) (x : Nat → Int32) : List Value := [.ref r0, .ref r1, .ref r2, .ref r3, .int (x 0)]
def oX7 (r0 r1 r2 r3 r4 : Nat) (x : Nat → Int32) : List Value := [.ref r0, .ref r1, .ref r2, .ref r3, .ref r4]
def oX8 (r0 : Nat) (x : Nat → Int32) : List Value := [.ref r0, .int (x 0)]
def oX9 (r0 r1 : Nat) (x : Nat → Int32) : List Value := [.ref r0, .ref r1, .int (x 0), .int (x 1), .int (x 2), .int (x 3), .int (x 4), .int (x 5), .int (x 6), .int (x 7)]
def oX10 (r0 r1 r2 r3 r4 r5 r6 r7 r8 r9 r10 r11 r12 r13 r14 r15 r16 : Nat) (x : Nat → Int32) : List Value := [.ref r0, .ref r1, .ref r2, .ref r3, .ref r4, .ref r5, .ref r6, .ref r7, .ref r8, .ref r9, .ref r10, .ref r11, .ref r12, .int (x 0), .ref r13, .ref r14, .ref r15, .ref r16, .int (x 1)]
def oX11 (a : Nat → Nat) (x : Nat → Int32) : List Value := [.ref (a 0), .ref (a 1), .int (x 0), .ref (a 2), .ref (a 3), .ref (a 4), .ref (a 5), .ref (a 6), .ref (a 7), .ref (a 8), .ref (a 9), .ref (a 10), .ref (a 11), .ref (a 12), .ref (a 13), .int (x 1), .int (x 2), .int (x 3), .int (x 4), .int (x 5), .int (x 6), .int (x 7), .int (x 8), .int (x 9), .int (x 10), .ref (a 14), .int (x 11), .int (x 12), .int (x 13), .int (x 14), .int (x 15), .int (x 16), .ref (a 15), .int (x 17), .ref (a 16), .ref (a 17), .ref (a 18), .ref (a 19), .ref (a 20), .ref (a 21), .int (x 18), .int (x 19), .int (x 20), .int (x 21), .ref (a 22), .ref (a 23), .ref (a 24), .ref (a 25), .ref (a 26), .int (x 22), .ref (a 27), .int (x 23), .int (x 24), .int (x 25), .ref (a 28), .ref (a 29), .ref (a 30), .ref (a 31), .ref (a 32), .ref (a 33), .ref (a 34)]
