/-! the reference's reader: fields 2 at, 3 textSize, 4 token, 5 number, 6 begins, 7 stops, 8 bad, 9 badPlace -/
def RdR (T x : Nat → Int32) : StT → Prop
  | .inl q => x 8 = q.1 ∧ x 9 = q.2 ∧ ¬ q.1 = 0
  | .inr k => x 8 = 0 ∧ x 4 = k.1 ∧ x 6 = k.2.1 ∧ x 7 = k.2.2 ∧ x 2 = k.2.2 ∧ (k.1 = 2 → k.2.2 - k.2.1 ≤ 2 → x 5 = valT T k.2.1 k.2.2)
def RRd (T : Nat → Int32) (n : Int32) (x : Nat → Int32) (s : StT) : Prop := RdR T x s ∧ x 3 = n
theorem rr_r {T x : Nat → Int32} {n : Int32} {s : StT} (h : RRd T n x s) (h0 : x 8 = 0) : s = .inr (x 4, x 6, x 7) ∧ x 2 = x 7 ∧ (x 4 = 2 → x 7 - x 6 ≤ 2 → x 5 = valT T (x 6) (x 7)) := by
  obtain ⟨h, _⟩ := h
  rcases s with q | k
  · obtain ⟨h1, _, h3⟩ := h
    exact absurd (h1.symm.trans h0) h3
  · obtain ⟨_, h4, h6, h7, h2, h5⟩ := h
    rw [h4, h6, h7]
    exact ⟨rfl, h2, h5⟩
theorem rr_l {T x : Nat → Int32} {n : Int32} {s : StT} (h : RRd T n x s) (h0 : ¬ x 8 = 0) : s = .inl (x 8, x 9) := by
  obtain ⟨h, _⟩ := h
  rcases s with q | k
  · obtain ⟨h1, h2, _⟩ := h
    rw [h1, h2]
  · obtain ⟨h1, _⟩ := h
    exact absurd h1 h0
theorem rr_ok {T x : Nat → Int32} {n : Int32} {s : StT} (h : RRd T n x s) (h0 : x 8 = 0) : okT s := by
  rw [(rr_r h h0).1]
  exact ok_r _
theorem rr_no {T x : Nat → Int32} {n : Int32} {s : StT} (h : RRd T n x s) (h0 : ¬ x 8 = 0) : ¬ okT s := by
  rw [rr_l h h0]
  exact ok_l
theorem rr_nf {T x : Nat → Int32} {n c : Int32} {s : StT} (h : RRd T n x (failT c s)) : ¬ x 8 = 0 := fun h0 => ok_fail (rr_ok h h0)
theorem rr_fail {T x : Nat → Int32} {n : Int32} {s : StT} {c : Int32} (h : RRd T n x s) (h0 : x 8 = 0) (hc : ¬ c = 0) : RRd T n (upd (upd x 8 c) 9 (x 6)) (failT c s) := by
  obtain ⟨hs, _⟩ := rr_r h h0
  subst hs
  exact ⟨⟨rfl, rfl, hc⟩, h.2⟩
theorem rr_failN {T x : Nat → Int32} {n : Int32} {s : StT} {c : Int32} (h : RRd T n x s) (h0 : ¬ x 8 = 0) : RRd T n x (failT c s) := by
  have hs := rr_l h h0
  subst hs
  exact h
theorem rr_tri {T x : Nat → Int32} {n : Int32} {k : TkT} (h : RRd T n x (.inr k)) : (x 4, x 6, x 7) = k := by
  obtain ⟨⟨_, h4, h6, h7, _⟩, _⟩ := h
  rw [h4, h6, h7]
theorem rr_stepN {T x : Nat → Int32} {n : Int32} {s : StT} (h : RRd T n x s) (h0 : ¬ x 8 = 0) : RRd T n x (nextT T n s) := by
  have hs := rr_l h h0
  subst hs
  exact h
theorem rr_step {T x y : Nat → Int32} {n : Int32} {s : StT} (h : RRd T n x s) (h8 : y 8 = x 8) (h9 : y 9 = x 9) (h3 : y 3 = x 3) (ht : (y 4, y 6, y 7) = tokT T n (x 2)) (h2 : y 2 = y 7) (h5 : y 4 = 2 → y 7 - y 6 ≤ 2 → y 5 = valT T (y 6) (y 7)) : RRd T n y (nextT T n s) := by
  obtain ⟨h, hn⟩ := h
  refine ⟨?_, h3.trans hn⟩
  rcases s with q | k
  · obtain ⟨k1, k2, k3⟩ := h
    exact ⟨h8.trans k1, h9.trans k2, k3⟩
  · obtain ⟨k8, _, _, _, k2, _⟩ := h
    show RdR T y (.inr (tokT T n k.2.2))
    rw [← k2, ← ht]
    exact ⟨h8.trans k8, rfl, rfl, rfl, h2, h5⟩
/-- whatever keeps these fields and has the next token is in this state -/
def StpT (T : Nat → Int32) (n : Int32) (x : Nat → Int32) (u : StT) : Prop := ∀ y : Nat → Int32, y 8 = x 8 → y 9 = x 9 → y 3 = x 3 → (y 4, y 6, y 7) = tokT T n (x 2) → y 2 = y 7 → (y 4 = 2 → y 7 - y 6 ≤ 2 → y 5 = valT T (y 6) (y 7)) → RRd T n y u
theorem stp_of {T x : Nat → Int32} {n : Int32} {s : StT} (h : RRd T n x s) : StpT T n x (nextT T n s) := fun _ h8 h9 h3 ht h2 h5 => rr_step h h8 h9 h3 ht h2 h5
theorem stp_0 {T x : Nat → Int32} {n : Int32} (h8 : x 8 = 0) (h3 : x 3 = n) (h2 : x 2 = 0) : StpT T n x (.inr (tokT T n 0)) := fun y k8 _ k3 ht k2 k5 => by
  refine ⟨?_, k3.trans h3⟩
  rw [h2] at ht
  rw [← ht]
  exact ⟨k8.trans h8, rfl, rfl, rfl, k2, k5⟩
/-! the reference's step -/
theorem by_t {T : Nat → Int32} {n k c : Int32} (h : byA T n k = c) (hc : ¬ c = -1) : k < n ∧ T k.toNatClampNeg = c := by
  unfold byA at h
  by_cases q : k < n
  · rw [if_pos q] at h
    exact ⟨q, h⟩
  · rw [if_neg q] at h
    exact absurd h.symm hc
theorem by_in {T : Nat → Int32} {n k : Int32} (h : k < n) : byA T n k = T k.toNatClampNeg := if_pos h
theorem by_out {T : Nat → Int32} {n k : Int32} (h : n ≤ k) : byA T n k = -1 := if_neg (Int32.not_lt.mpr h)
theorem by_m1 {T : Nat → Int32} {n k : Int32} (hT : fI (fun _ => 0) (fun _ => 255) T) (h : byA T n k = -1) : n ≤ k := by
  by_cases q : k < n
  · rw [by_in q] at h
    have w := hT k.toNatClampNeg
    rw [h] at w
    exact absurd (show (0 : Int) ≤ (-1 : Int32).toInt from w.1) (by decide)
  · exact Int32.not_lt.mp q
theorem by_n1 {T : Nat → Int32} {n k : Int32} (h : ¬ byA T n k = -1) : k < n := by
  by_cases q : k < n
  · exact q
  · exact absurd (by_out (Int32.not_lt.mp q)) h
def KpR (x y : Nat → Int32) : Prop := y 8 = x 8 ∧ y 9 = x 9 ∧ y 3 = x 3
def R0 (T : Nat → Int32) (n : Int32) (x y : Nat → Int32) : Prop := KpR x y ∧ RunP (blT T) n.toInt (x 2).toInt (y 2).toInt
def R39 (T : Nat → Int32) (n : Int32) (x y : Nat → Int32) (b : Int32) : Prop := KpR x y ∧ RunT (blT T) n.toInt (x 2).toInt b.toInt
def R76 (T : Nat → Int32) (n : Int32) (x y : Nat → Int32) : Prop := R39 T n x y (y 6) ∧ ¬ n ≤ y 6 ∧ ¬ isLt (T (y 6).toNatClampNeg) = 0 ∧ RunP (ltT T) n.toInt (y 6).toInt (y 2).toInt
def NumQ (T : Nat → Int32) (b i v : Int32) : Prop := (i = b → v = 0) ∧ (i = b + 1 → v = T b.toNatClampNeg - 48) ∧ (i = b + 2 → v = (T b.toNatClampNeg - 48) * 10 + (T (b + 1).toNatClampNeg - 48))
def R123 (T : Nat → Int32) (n : Int32) (x y : Nat → Int32) : Prop := R39 T n x y (y 6) ∧ ¬ n ≤ y 6 ∧ isLt (T (y 6).toNatClampNeg) = 0 ∧ ¬ isDg (T (y 6).toNatClampNeg) = 0 ∧ RunP (dgT T) n.toInt (y 6).toInt (y 2).toInt ∧ NumQ T (y 6) (y 2) (y 5)
theorem sr_n {x y : Nat → Int32} {n : Int32} (hR : x 3 = n) (hk : KpR x y) : y 3 = n := hk.2.2.trans hR
theorem rs_0 {T x : Nat → Int32} {n : Int32} : R0 T n x x := ⟨⟨rfl, rfl, rfl⟩, rp_0⟩
theorem rs_bl {T x y : Nat → Int32} {n : Int32} (hR : x 3 = n) (hk : R0 T n x y) (hy : iv 0 700 (y 2)) (hc : byA T (y 3) (y 2) = 32 ∨ byA T (y 3) (y 2) = 10) : R0 T n x (upd y 2 (y 2 + 1)) := by
  rw [sr_n hR hk.1] at hc
  rcases hc with hc | hc
  · obtain ⟨h1, h2⟩ := by_t hc (by decide)
    exact ⟨hk.1, rp_s hy hk.2 (Or.inl h2) h1⟩
  · obtain ⟨h1, h2⟩ := by_t hc (by decide)
    exact ⟨hk.1, rp_s hy hk.2 (Or.inr h2) h1⟩
theorem rs_39 {T x y : Nat → Int32} {n : Int32} (hR : x 3 = n) (hk : R0 T n x y) (hy : iv 0 700 (y 2)) (h1 : ¬ byA T (y 3) (y 2) = 32) (h2 : ¬ byA T (y 3) (y 2) = 10) : R39 T n x y (y 2) := by
  rw [sr_n hR hk.1] at h1 h2
  refine ⟨hk.1, rp_t hy hk.2 ?_⟩
  by_cases q : y 2 < n
  · rw [by_in q] at h1 h2
    exact Or.inr (fun w => w.elim h1 h2)
  · exact Or.inl (Int32.not_lt.mp q)
theorem rs_end {T x y : Nat → Int32} {n : Int32} {s : StT} (hR : x 3 = n) (hu : StpT T n x s) (hT : fI (fun _ => 0) (fun _ => 255) T) (hx : iv 0 700 (x 2)) (hk : R39 T n x y (y 2)) (hc : byA T (y 3) (y 2) = -1) : RRd T n (upd (upd (upd y 6 (y 2)) 4 0) 7 (y 2)) s := by
  rw [sr_n hR hk.1] at hc
  exact hu _ hk.1.1 hk.1.2.1 hk.1.2.2 (tk_end hx.1 hk.2 (by_m1 hT hc)) rfl (fun w => absurd (show (0 : Int32) = 2 from w) (by decide))
theorem rs_76 {T x y : Nat → Int32} {n : Int32} (hR : x 3 = n) (hk : R39 T n x y (y 2)) (hn : ¬ byA T (y 3) (y 2) = -1) (hc : ¬ isLt (byA T (y 3) (y 2)) = 0) : R76 T n x (upd y 6 (y 2)) := by
  rw [sr_n hR hk.1] at hn hc
  have q := by_n1 hn
  rw [by_in q] at hc
  exact ⟨hk, Int32.not_le.mpr q, hc, rp_0⟩
theorem rs_76s {T x y : Nat → Int32} {n : Int32} (hR : x 3 = n) (hk : R76 T n x y) (hy : iv 0 700 (y 2)) (hc : ¬ isLt (byA T (y 3) (y 2)) = 0) : R76 T n x (upd y 2 (y 2 + 1)) := by
  rw [sr_n hR hk.1.1] at hc
  have q : y 2 < n := by
    by_cases q : y 2 < n
    · exact q
    · rw [by_out (Int32.not_lt.mp q)] at hc
      exact absurd (by decide) hc
  rw [by_in q] at hc
  exact ⟨hk.1, hk.2.1, hk.2.2.1, rp_s hy hk.2.2.2 hc q⟩
theorem rs_w {T x y : Nat → Int32} {n : Int32} {s : StT} (hR : x 3 = n) (hu : StpT T n x s) (hx : iv 0 700 (x 2)) (hk : R76 T n x y) (h6 : iv 0 700 (y 6)) (hy : iv 0 700 (y 2)) (hc : isLt (byA T (y 3) (y 2)) = 0) : RRd T n (upd (upd y 4 1) 7 (y 2)) s := by
  rw [sr_n hR hk.1.1] at hc
  have hs : n ≤ y 2 ∨ ¬ ltT T (y 2).toNatClampNeg := by
    by_cases q : y 2 < n
    · rw [by_in q] at hc
      exact Or.inr (not_not_intro hc)
    · exact Or.inl (Int32.not_lt.mp q)
  exact hu _ hk.1.1.1 hk.1.1.2.1 hk.1.1.2.2 (tk_lt hx.1 hk.1.2 hk.2.1 h6.1 hk.2.2.1 (rp_t hy hk.2.2.2 hs)) rfl (fun w => absurd (show (1 : Int32) = 2 from w) (by decide))
theorem nq_0 {T : Nat → Int32} {b : Int32} (hb : iv 0 700 b) : NumQ T b b 0 := by
  have qb1 : (b + 1).toInt = b.toInt + 1 := iv_addc hb (c := 1) (by decide) (by decide) (by decide)
  have qb2 : (b + 2).toInt = b.toInt + 2 := iv_addc hb (c := 2) (by decide) (by decide) (by decide)
  exact ⟨fun _ => rfl, fun w => by have w := congrArg Int32.toInt w; omega, fun w => by have w := congrArg Int32.toInt w; omega⟩
theorem dg_lo : ∀ a : Nat, a < 10 → (if (10 : Int32) * 0 + nI (48 + a) - 48 < 100000 then (10 : Int32) * 0 + nI (48 + a) - 48 else 100000) = nI (48 + a) - 48 := by decide +kernel
theorem dg_hi : ∀ a : Nat, a < 10 → ∀ c : Nat, c < 10 → (if (10 : Int32) * (nI (48 + a) - 48) + nI (48 + c) - 48 < 100000 then (10 : Int32) * (nI (48 + a) - 48) + nI (48 + c) - 48 else 100000) = (nI (48 + a) - 48) * 10 + (nI (48 + c) - 48) := by decide +kernel
theorem dg_ex {c : Int32} (h : ¬ isDg c = 0) : ∃ a : Nat, a < 10 ∧ c = nI (48 + a) := by
  have q := isDg_iv h
  have h1 := q.1
  have h2 := q.2
  refine ⟨(c.toInt - 48).toNat, by omega, ?_⟩
  apply Int32.toInt_inj.mp
  rw [nI_toInt (by omega)]
  omega
theorem nq_s {T : Nat → Int32} {n b i v z : Int32} (hb : iv 0 700 b) (hi : iv 0 700 i) (hr : RunP (dgT T) n.toInt b.toInt i.toInt) (hd : ¬ isDg (T i.toNatClampNeg) = 0) (h : NumQ T b i v) (hz : z = if 10 * v + T i.toNatClampNeg - 48 < 100000 then 10 * v + T i.toNatClampNeg - 48 else 100000) : NumQ T b (i + 1) z := by
  have qb1 : (b + 1).toInt = b.toInt + 1 := iv_addc hb (c := 1) (by decide) (by decide) (by decide)
  have qb2 : (b + 2).toInt = b.toInt + 2 := iv_addc hb (c := 2) (by decide) (by decide) (by decide)
  have qi : (i + 1).toInt = i.toInt + 1 := iv_addc hi (c := 1) (by decide) (by decide) (by decide)
  have hle := hr.1
  obtain ⟨c, hc, ec⟩ := dg_ex hd
  refine ⟨fun w => by have w := congrArg Int32.toInt w; omega, fun w => ?_, fun w => ?_⟩
  · have e : i = b := Int32.toInt_inj.mp (by have w := congrArg Int32.toInt w; omega)
    rw [hz, h.1 e, ec, dg_lo c hc, ← ec, e]
  · have e : i = b + 1 := Int32.toInt_inj.mp (by have w := congrArg Int32.toInt w; omega)
    have q1 := cl_nat hb (by decide)
    have hdb := hr.2.2 b.toNatClampNeg (by omega) (by rw [e, qb1]; omega)
    obtain ⟨a, ha, ea⟩ := dg_ex hdb
    rw [hz, h.2.1 e, ec, ea, dg_hi a ha c hc, ← ec, e]
theorem rs_123 {T x y : Nat → Int32} {n : Int32} (hR : x 3 = n) (hk : R39 T n x y (y 2)) (hy : iv 0 700 (y 2)) (hn : ¬ byA T (y 3) (y 2) = -1) (hl : isLt (byA T (y 3) (y 2)) = 0) (hc : ¬ isDg (byA T (y 3) (y 2)) = 0) : R123 T n x (upd (upd y 6 (y 2)) 5 0) := by
  rw [sr_n hR hk.1] at hn hl hc
  have q := by_n1 hn
  rw [by_in q] at hl hc
  exact ⟨hk, Int32.not_le.mpr q, hl, hc, rp_0, nq_0 hy⟩
theorem rs_123s {T x y : Nat → Int32} {n z : Int32} (hR : x 3 = n) (hk : R123 T n x y) (h6 : iv 0 700 (y 6)) (hy : iv 0 700 (y 2)) (hc : ¬ isDg (byA T (y 3) (y 2)) = 0) (hz : z = if 10 * (y 5) + byA T (y 3) (y 2) - 48 < 100000 then 10 * (y 5) + byA T (y 3) (y 2) - 48 else 100000) : R123 T n x (upd (upd y 5 z) 2 (y 2 + 1)) := by
  rw [sr_n hR hk.1.1] at hc hz
  have q : y 2 < n := by
    by_cases q : y 2 < n
    · exact q
    · rw [by_out (Int32.not_lt.mp q)] at hc
      exact absurd (by decide) hc
  rw [by_in q] at hc hz
  exact ⟨hk.1, hk.2.1, hk.2.2.1, hk.2.2.2.1, rp_s hy hk.2.2.2.2.1 hc q, nq_s h6 hy hk.2.2.2.2.1 hc hk.2.2.2.2.2 hz⟩
theorem nq_e {T : Nat → Int32} {b i v : Int32} (h : NumQ T b i v) (hb : iv 0 700 b) (hi : iv 0 700 i) (hl : b.toInt ≤ i.toInt) (hle : i - b ≤ 2) : v = valT T b i := by
  have qb1 : (b + 1).toInt = b.toInt + 1 := iv_addc hb (c := 1) (by decide) (by decide) (by decide)
  have qb2 : (b + 2).toInt = b.toInt + 2 := iv_addc hb (c := 2) (by decide) (by decide) (by decide)
  have qe : (i - b).toInt = i.toInt - b.toInt := iv_sub0 hi hb (by decide) (by decide)
  have k1 : (1 : Int32).toInt = 1 := by decide
  have k2 : (2 : Int32).toInt = 2 := by decide
  have hle := Int32.le_iff_toInt_le.mp hle
  rw [qe, k2] at hle
  unfold valT
  by_cases c1 : i.toInt = b.toInt
  · rw [if_neg (fun w => by have w := congrArg Int32.toInt w; omega), if_neg (fun w => by have w := congrArg Int32.toInt w; omega)]
    exact h.1 (Int32.toInt_inj.mp c1)
  · by_cases c2 : i.toInt = b.toInt + 1
    · rw [if_pos (Int32.toInt_inj.mp (by omega))]
      exact h.2.1 (Int32.toInt_inj.mp (by omega))
    · rw [if_neg (fun w => by have w := congrArg Int32.toInt w; omega), if_pos (Int32.toInt_inj.mp (by omega))]
      exact h.2.2 (Int32.toInt_inj.mp (by omega))
theorem rs_d {T x y : Nat → Int32} {n : Int32} {s : StT} (hR : x 3 = n) (hu : StpT T n x s) (hx : iv 0 700 (x 2)) (hk : R123 T n x y) (h6 : iv 0 700 (y 6)) (hy : iv 0 700 (y 2)) (hc : isDg (byA T (y 3) (y 2)) = 0) : RRd T n (upd (upd y 4 2) 7 (y 2)) s := by
  rw [sr_n hR hk.1.1] at hc
  have hs : n ≤ y 2 ∨ ¬ dgT T (y 2).toNatClampNeg := by
    by_cases q : y 2 < n
    · rw [by_in q] at hc
      exact Or.inr (not_not_intro hc)
    · exact Or.inl (Int32.not_lt.mp q)
  exact hu _ hk.1.1.1 hk.1.1.2.1 hk.1.1.2.2 (tk_dg hx.1 hk.1.2 hk.2.1 h6.1 hk.2.2.1 hk.2.2.2.1 (rp_t hy hk.2.2.2.2.1 hs)) rfl (fun _ w => nq_e hk.2.2.2.2.2 h6 hy hk.2.2.2.2.1.1 w)
theorem rs_sg {T x y : Nat → Int32} {n t : Int32} {s : StT} (hR : x 3 = n) (hu : StpT T n x s) (hx : iv 0 700 (x 2)) (hk : R39 T n x y (y 2)) (hn : ¬ byA T (y 3) (y 2) = -1) (hl : isLt (byA T (y 3) (y 2)) = 0) (hd : isDg (byA T (y 3) (y 2)) = 0) (ht : (byA T (y 3) (y 2) = 59 ∧ t = 3) ∨ (¬ byA T (y 3) (y 2) = 59 ∧ t = 4)) : RRd T n (upd (upd (upd (upd y 6 (y 2)) 2 (y 2 + 1)) 4 t) 7 (y 2 + 1)) s := by
  rw [sr_n hR hk.1] at hn hl hd ht
  have q := by_n1 hn
  rw [by_in q] at hl hd ht
  have q3 : t = if T (y 2).toNatClampNeg = 59 then 3 else 4 := by
    rcases ht with ⟨h1, h2⟩ | ⟨h1, h2⟩
    · rw [if_pos h1]
      exact h2
    · rw [if_neg h1]
      exact h2
  refine hu _ hk.1.1 hk.1.2.1 hk.1.2.2 (tk_sg hx.1 hk.2 (Int32.not_le.mpr q) hl hd q3) rfl (fun w => ?_)
  have w : t = 2 := w
  rcases ht with ⟨_, h2⟩ | ⟨_, h2⟩
  · rw [h2] at w
    exact absurd w (by decide)
  · rw [h2] at w
    exact absurd w (by decide)
/-! the reference's words and numbers -/
noncomputable def wS (T : Nat → Int32) (i : Nat) : StT → Int32
  | .inl _ => 0
  | .inr k => wB T i k
def WrdK (T : Nat → Int32) (i : Nat) (b k : Int32) : Prop := ∀ j : Nat, (j : Int) < k.toInt → T (b.toNatClampNeg + j) = (bytL.getD i []).getD j 0
def IsR (T : Nat → Int32) (i : Nat) (x : Nat → Int32) (s : StT) (v k : Int32) : Prop := (v = 0 ∧ wS T i s = 0) ∨ (v = 1 ∧ x 8 = 0 ∧ x 4 = 1 ∧ nI (lenL.getD i 0) = x 7 - x 6 ∧ WrdK T i (x 6) k)
theorem wS_in {T x : Nat → Int32} {n : Int32} {s : StT} {i : Nat} (h : RRd T n x s) (h0 : x 8 = 0) : wS T i s = wB T i (x 4, x 6, x 7) := by
  rw [(rr_r h h0).1]
  rfl
theorem wS_01 {T : Nat → Int32} {i : Nat} {s : StT} : iv 0 1 (wS T i s) := by
  rcases s with q | k
  · exact (⟨by decide, by decide⟩ : iv 0 1 0)
  · exact wB_01
theorem is_b {T x : Nat → Int32} {n k : Int32} {s : StT} {i : Nat} (h : RRd T n x s) (h0 : ¬ x 8 = 0) : IsR T i x s 0 k := by
  rw [rr_l h h0]
  exact Or.inl ⟨rfl, rfl⟩
theorem is_t {T x : Nat → Int32} {n k : Int32} {s : StT} {i : Nat} (h : RRd T n x s) (h0 : x 8 = 0) (h4 : ¬ x 4 = 1) : IsR T i x s 0 k := Or.inl ⟨rfl, (wS_in h h0).trans (wB_f fun w => h4 w.1)⟩
theorem is_l {T x : Nat → Int32} {n k : Int32} {s : StT} {i : Nat} (h : RRd T n x s) (h0 : x 8 = 0) (hl : ¬ nI (lenL.getD i 0) = x 7 - x 6) : IsR T i x s 0 k := Or.inl ⟨rfl, (wS_in h h0).trans (wB_f fun w => hl w.2.1.symm)⟩
theorem is_0 {T x : Nat → Int32} {s : StT} {i : Nat} (h0 : x 8 = 0) (h4 : x 4 = 1) (hl : nI (lenL.getD i 0) = x 7 - x 6) : IsR T i x s 1 0 := Or.inr ⟨rfl, h0, h4, hl, fun j hj => by
  rw [show ((0 : Int32)).toInt = 0 from by decide] at hj
  omega⟩
theorem is_in {T x : Nat → Int32} {s : StT} {i : Nat} {v k : Int32} (h : IsR T i x s v k) (hv : ¬ v = 0) : x 8 = 0 ∧ x 4 = 1 ∧ nI (lenL.getD i 0) = x 7 - x 6 ∧ WrdK T i (x 6) k := by
  rcases h with h | h
  · exact absurd h.1 hv
  · exact h.2
theorem is_k {b k : Int32} (hb : iv 0 700 b) (hk : iv 0 699 k) : (b + k).toNatClampNeg = b.toNatClampNeg + k.toNatClampNeg := by
  have q1 := cl_nat hb (by decide)
  have q2 := cl_nat hk (by decide)
  have e := iv_add0 hb hk (by decide) (by decide)
  have h1 := hb.1
  have h2 := hb.2
  have h3 := hk.1
  have h4 := hk.2
  have hs : iv 0 1399 (b + k) := ⟨by omega, by omega⟩
  have q3 := cl_nat hs (by decide)
  omega
theorem is_y {T x : Nat → Int32} {s : StT} {i : Nat} {v k : Int32} (h : IsR T i x s v k) (hv : ¬ v = 0) (hb : iv 0 700 (x 6)) (hk : iv 0 699 k) (hc : (bytL.getD i []).getD k.toNatClampNeg 0 = T (x 6 + k).toNatClampNeg) : IsR T i x s 1 (k + Int32.ofInt 1) := by
  obtain ⟨h0, h4, hl, hw⟩ := is_in h hv
  refine Or.inr ⟨rfl, h0, h4, hl, fun j hj => ?_⟩
  rw [iv_inc 1 hk (by decide) (by decide) (by decide) (by decide)] at hj
  by_cases q : (j : Int) < k.toInt
  · exact hw j q
  · have q2 := cl_nat hk (by decide)
    have e : j = k.toNatClampNeg := by omega
    subst e
    rw [← is_k hb hk]
    exact hc.symm
theorem is_n {T x : Nat → Int32} {n : Int32} {s : StT} {i : Nat} {v k k' : Int32} (hR : RRd T n x s) (h : IsR T i x s v k) (hv : ¬ v = 0) (hb : iv 0 700 (x 6)) (hk : iv 0 699 k) (hlt : k < nI (lenL.getD i 0)) (hc : ¬ (bytL.getD i []).getD k.toNatClampNeg 0 = T (x 6 + k).toNatClampNeg) : IsR T i x s 0 k' := by
  obtain ⟨h0, h4, hl, hw⟩ := is_in h hv
  refine Or.inl ⟨rfl, (wS_in hR h0).trans (wB_f fun w => hc ?_)⟩
  have hlt := Int32.lt_iff_toInt_lt.mp hlt
  rw [nI_toInt (by have := lenL_lt i; omega)] at hlt
  have q2 := cl_nat hk (by decide)
  have w := w.2.2 k.toNatClampNeg (by omega)
  rw [is_k hb hk]
  exact w.symm
theorem is_e0 {T x : Nat → Int32} {s : StT} {i : Nat} {v k : Int32} (h : IsR T i x s v k) (hv : v = 0) : v = wS T i s := by
  rcases h with h | h
  · rw [h.1, h.2]
  · rw [h.1] at hv
    exact absurd hv (by decide)
theorem is_e1 {T x : Nat → Int32} {n : Int32} {s : StT} {i : Nat} {v k : Int32} (hR : RRd T n x s) (h : IsR T i x s v k) (hv : ¬ v = 0) (hk : nI (lenL.getD i 0) ≤ k) : v = wS T i s := by
  rcases h with h | h
  · exact absurd h.1 hv
  · obtain ⟨e, h0, h4, hl, hw⟩ := h
    rw [e, wS_in hR h0]
    have hk := Int32.le_iff_toInt_le.mp hk
    rw [nI_toInt (by have := lenL_lt i; omega)] at hk
    exact (wB_t ⟨h4, hl.symm, fun j hj => hw j (by omega)⟩).symm
noncomputable def whS (T : Nat → Int32) (j : Nat) (s : StT) : Int32 := if ¬ wS T (j + 0) s = 0 then 0 else if ¬ wS T (j + 1) s = 0 then 1 else if ¬ wS T (j + 2) s = 0 then 2 else if ¬ wS T (j + 3) s = 0 then 3 else -1
theorem wh_y {T : Nat → Int32} {j : Nat} {s : StT} {k : Int32} (h : ∀ m : Nat, (m : Int) < k.toInt → wS T (j + m) s = 0) (hk : iv 0 3 k) (hw : ¬ wS T (j + k.toNatClampNeg) s = 0) : k = whS T j s := by
  have q := cl_nat hk (by decide)
  have h1 := hk.2
  obtain ⟨m, rfl, hm, _⟩ := iv_nI hk (by decide)
  have e : (nI m).toNatClampNeg = m := by omega
  rw [e] at hw q
  unfold whS
  have hm3 : m < 4 := by omega
  match m, hm3 with
  | 0, _ => rw [if_pos hw]; rfl
  | 1, _ => rw [if_neg (not_not_intro (h 0 (by omega))), if_pos hw]; rfl
  | 2, _ => rw [if_neg (not_not_intro (h 0 (by omega))), if_neg (not_not_intro (h 1 (by omega))), if_pos hw]; rfl
  | 3, _ => rw [if_neg (not_not_intro (h 0 (by omega))), if_neg (not_not_intro (h 1 (by omega))), if_neg (not_not_intro (h 2 (by omega))), if_pos hw]; rfl
theorem wh_n {T : Nat → Int32} {j : Nat} {s : StT} {k : Int32} (h : ∀ m : Nat, (m : Int) < k.toInt → wS T (j + m) s = 0) (hk : 4 ≤ k) : -1 = whS T j s := by
  have hk := Int32.le_iff_toInt_le.mp hk
  rw [show ((4 : Int32)).toInt = 4 from by decide] at hk
  unfold whS
  rw [if_neg (not_not_intro (h 0 (by omega))), if_neg (not_not_intro (h 1 (by omega))), if_neg (not_not_intro (h 2 (by omega))), if_neg (not_not_intro (h 3 (by omega)))]
theorem wh_l {T : Nat → Int32} {j : Nat} {q : ErT} : whS T j (.inl q) = -1 := by
  have e : ∀ i : Nat, wS T i (.inl q) = 0 := fun _ => rfl
  unfold whS
  rw [e, e, e, e, if_neg (by decide), if_neg (by decide), if_neg (by decide), if_neg (by decide)]
theorem w1_0 {T : Nat → Int32} {i : Nat} {k : TkT} : (¬ wB T i k = 0) ↔ wB T i k = 1 := ⟨wB_1, fun h w => absurd w (by rw [h]; decide)⟩
theorem wh_k {T : Nat → Int32} {k : TkT} : whS T 4 (.inr k) = kndK T k := by
  unfold whS kndK wS
  simp only [w1_0]
theorem wh_c {T : Nat → Int32} {k : TkT} : whS T 0 (.inr k) = clsK T k := by
  unfold whS clsK wS
  simp only [w1_0, Nat.zero_add]
theorem nr_b {T x : Nat → Int32} {n lo hi : Int32} {s : StT} (h : RRd T n x s) (h0 : ¬ x 8 = 0) : s = numT T lo hi s := by
  rw [rr_l h h0]
  rfl
theorem nr_1 {T x : Nat → Int32} {n lo hi : Int32} {s : StT} (h : RRd T n x s) (h4 : ¬ x 4 = 2) : failT 1 s = numT T lo hi s := by
  rcases s with q | k
  · rfl
  · have e := rr_tri h
    show Sum.inl (1, k.2.1) = numK T lo hi k
    unfold numK
    rw [if_pos (by rw [← e]; exact h4)]
theorem nr_2 {T x : Nat → Int32} {n lo hi : Int32} {s : StT} (h : RRd T n x s) (h4 : x 4 = 2) (h5 : 2 < x 7 - x 6) : failT 2 s = numT T lo hi s := by
  rcases s with q | k
  · rfl
  · have e := rr_tri h
    show Sum.inl (2, k.2.1) = numK T lo hi k
    unfold numK
    rw [if_neg (by rw [← e]; exact not_not_intro h4), if_pos (by rw [← e]; exact h5)]
theorem nr_3 {T x : Nat → Int32} {n lo hi : Int32} {s : StT} (h : RRd T n x s) (h4 : x 4 = 2) (h5 : x 7 - x 6 ≤ 2) (hq : x 5 < lo ∨ hi < x 5) : failT 2 s = numT T lo hi s := by
  rcases s with q | k
  · rfl
  · have e := rr_tri h
    have h8 : x 8 = 0 := by
      obtain ⟨⟨h8, _⟩, _⟩ := h
      exact h8
    have hv := (rr_r h h8).2.2 h4 h5
    show Sum.inl (2, k.2.1) = numK T lo hi k
    unfold numK
    rw [if_neg (by rw [← e]; exact not_not_intro h4), if_neg (by rw [← e]; exact Int32.not_lt.mpr h5), if_pos (by rw [← e]; rw [hv] at hq; exact hq)]
theorem nr_ok {T x : Nat → Int32} {n lo hi : Int32} {s : StT} (h : RRd T n x s) (h8 : x 8 = 0) (h4 : x 4 = 2) (h5 : x 7 - x 6 ≤ 2) (h1 : lo ≤ x 5) (h2 : x 5 ≤ hi) : s = numT T lo hi s ∧ x 5 = valS T s := by
  obtain ⟨hs, _, hv⟩ := rr_r h h8
  have hv := hv h4 h5
  subst hs
  refine ⟨?_, hv⟩
  show Sum.inr (x 4, x 6, x 7) = numK T lo hi (x 4, x 6, x 7)
  unfold numK
  rw [if_neg (not_not_intro h4), if_neg (Int32.not_lt.mpr h5), if_neg (by rw [← hv]; exact fun w => w.elim (fun w => absurd h1 (Int32.not_le.mpr w)) (fun w => absurd h2 (Int32.not_le.mpr w)))]
theorem rq_f {T x : Nat → Int32} {n c v : Int32} {s : StT} (h : RRd T n x (numT T 0 11 s)) (h0 : x 8 = 0) (hv : okT (numT T 0 11 s) → v = valS T s) (hc : c ≤ v) : failT 3 (numT T 0 11 s) = rouT T c s := by
  have hk := rr_ok h h0
  have hv := hv hk
  have e := num_id hk
  unfold rouT
  rw [e]
  rw [e] at hk
  obtain ⟨k, rfl⟩ := hk
  show Sum.inl (3, k.2.1) = if c ≤ valT T k.2.1 k.2.2 then Sum.inl (3, k.2.1) else Sum.inr k
  rw [if_pos (by rw [hv] at hc; exact hc)]
theorem rq_n {T x : Nat → Int32} {n c v : Int32} {s : StT} (h : RRd T n x (numT T 0 11 s)) (hv : okT (numT T 0 11 s) → v = valS T s) (hc : ¬ x 8 = 0 ∨ v < c) : numT T 0 11 s = rouT T c s := by
  by_cases h0 : x 8 = 0
  · have hk := rr_ok h h0
    have hv := hv hk
    have e := num_id hk
    unfold rouT
    rw [e]
    rw [e] at hk
    obtain ⟨k, rfl⟩ := hk
    show Sum.inr k = if c ≤ valT T k.2.1 k.2.2 then Sum.inl (3, k.2.1) else Sum.inr k
    rcases hc with hc | hc
    · exact absurd h0 hc
    · rw [if_neg (by rw [hv] at hc; exact Int32.not_le.mpr hc)]
  · have e := rr_l h h0
    unfold rouT
    rw [e]
    rfl
