/-! the class's tables -/
def nF (f : Nat → Int32) : Nat → Nat := fun i => (f i).toNatClampNeg
theorem kl_lt {i x : Int32} {a b : Int} (hi : iv 0 a i) (hx : iv 0 b x) (h : i < x) : i.toNatClampNeg < x.toNatClampNeg := by
  have h := Int32.lt_iff_toInt_lt.mp h
  have q1 := cl_nat hi (by decide)
  have q2 := cl_nat hx (by decide)
  omega
theorem kl_le {i x : Int32} {a b : Int} (hi : iv 0 a i) (hx : iv 0 b x) (h : x ≤ i) : x.toNatClampNeg ≤ i.toNatClampNeg := by
  have h := Int32.le_iff_toInt_le.mp h
  have q1 := cl_nat hi (by decide)
  have q2 := cl_nat hx (by decide)
  omega
theorem kl_eq {i x : Int32} {a b : Int} (hi : iv 0 a i) (hx : iv 0 b x) (h : i.toNatClampNeg = x.toNatClampNeg) : i = x := (iv_nk hi (by decide)).trans ((congrArg nI h).trans (iv_nk hx (by decide)).symm)
theorem kl_s {i : Int32} {b : Int} (hi : iv 0 b i) (hb : b ≤ 1000) : (i + Int32.ofInt 1).toNatClampNeg = i.toNatClampNeg + 1 := by
  have e := iv_inc (a := 0) (b := b) 1 hi (by decide) (by omega) (by decide) (by decide)
  have q := cl_nat hi (by decide)
  have h1 := hi.1
  have h2 := hi.2
  have h3 : iv 0 (b + 1) (i + Int32.ofInt 1) := ⟨by omega, by omega⟩
  have q2 := cl_nat h3 (by decide)
  omega
theorem kl_b {i : Int32} {b : Int} (hi : iv 0 b i) : (i.toNatClampNeg : Int) ≤ b := by
  have q := cl_nat hi (by decide)
  have h2 := hi.2
  omega
def WfC (F T : Nat → Nat) (n m : Nat) : Prop := ∀ i, i < n → F i < T i ∧ T i < m
def RcC (F T : Nat → Nat) (n m : Nat) (R : Nat → Int32) : Prop := ∀ a, a < m → ∀ b, b < 12 → (bt (R a) b ↔ Rch F T n a b)
def FR7 (F T : Nat → Nat) (n m : Nat) (R : Nat → Int32) (r : Int32) : Prop := ∀ a : Nat, r.toInt < (a : Int) → a < m → ∀ b, b < 12 → (bt (R a) b ↔ Rch F T n a b)
def FR22 (F T : Nat → Nat) (n m : Nat) (R : Nat → Int32) (r i : Int32) : Prop := FR7 F T n m R r ∧ i.toNatClampNeg ≤ n ∧ ∀ b, b < 12 → (bt (R r.toNatClampNeg) b ↔ (b = r.toNatClampNeg ∨ ∃ j, j < i.toNatClampNeg ∧ F j = r.toNatClampNeg ∧ Rch F T n (T j) b))
theorem fr_i {F T : Nat → Nat} {n : Nat} {R : Nat → Int32} {x : Int32} (hx : iv 0 12 x) : FR7 F T n x.toNatClampNeg R (x - 1) := by
  intro a h1 h2
  have q := cl_nat hx (by decide)
  have e := iv_subc (c := 1) hx (y := 1) (by decide) (by decide) (by decide)
  exfalso
  omega
theorem fr_0 {F T : Nat → Nat} {n m : Nat} {R : Nat → Int32} {r : Int32} (h : FR7 F T n m R r) (hr : iv 0 11 r) : FR22 F T n m (upd R r.toNatClampNeg (1 <<< (r &&& 31))) r 0 := by
  have q := cl_nat hr (by decide)
  refine ⟨?_, by rw [kz0]; exact Nat.zero_le _, ?_⟩
  · intro a h1 h2 b hb
    rw [upd_ne9 (by omega)]
    exact h a h1 h2 b hb
  · intro b hb
    rw [upd_eq9, bt_1' hr (by decide)]
    constructor
    · exact Or.inl
    · rintro (h | ⟨j, h1, _⟩)
      · exact h
      · rw [kz0] at h1
        exact absurd h1 (Nat.not_lt_zero j)
theorem fr_y {fr to : Nat → Int32} {n m : Nat} {R : Nat → Int32} {r i : Int32} (h : FR22 (nF fr) (nF to) n m R r i) (hw : WfC (nF fr) (nF to) n m) (hi : iv 0 19 i) (hl : i.toNatClampNeg < n) (hr : iv 0 11 r) (hf : fr i.toNatClampNeg = r) : FR22 (nF fr) (nF to) n m (upd R r.toNatClampNeg ((R r.toNatClampNeg) ||| (R (to i.toNatClampNeg).toNatClampNeg))) r (i + Int32.ofInt 1) := by
  obtain ⟨h7, hn, hb⟩ := h
  have q := cl_nat hr (by decide)
  have hF : nF fr i.toNatClampNeg = r.toNatClampNeg := congrArg Int32.toNatClampNeg hf
  obtain ⟨w1, w2⟩ := hw _ hl
  have es := kl_s hi (by decide)
  refine ⟨?_, by omega, ?_⟩
  · intro a h1 h2 b hb
    rw [upd_ne9 (by omega)]
    exact h7 a h1 h2 b hb
  · intro b hb2
    have hT : bt (R (to i.toNatClampNeg).toNatClampNeg) b ↔ Rch (nF fr) (nF to) n (nF to i.toNatClampNeg) b := h7 (nF to i.toNatClampNeg) (by omega) w2 b hb2
    rw [upd_eq9, bt_or, hb b hb2, es, hT]
    constructor
    · rintro ((h | ⟨j, h1, h2, h3⟩) | h)
      · exact Or.inl h
      · exact Or.inr ⟨j, by omega, h2, h3⟩
      · exact Or.inr ⟨i.toNatClampNeg, by omega, hF, h⟩
    · rintro (h | ⟨j, h1, h2, h3⟩)
      · exact Or.inl (Or.inl h)
      · by_cases e : j = i.toNatClampNeg
        · rw [e] at h3
          exact Or.inr h3
        · exact Or.inl (Or.inr ⟨j, by omega, h2, h3⟩)
theorem fr_n {fr to : Nat → Int32} {n m : Nat} {R : Nat → Int32} {r i : Int32} (h : FR22 (nF fr) (nF to) n m R r i) (hi : iv 0 19 i) (hl : i.toNatClampNeg < n) (hr : iv 0 11 r) (hg : iv 0 11 (fr i.toNatClampNeg)) (hf : ¬ fr i.toNatClampNeg = r) : FR22 (nF fr) (nF to) n m R r (i + Int32.ofInt 1) := by
  obtain ⟨h7, hn, hb⟩ := h
  have hF : ¬ nF fr i.toNatClampNeg = r.toNatClampNeg := fun w => hf (kl_eq hg hr w)
  have es := kl_s hi (by decide)
  refine ⟨h7, by omega, ?_⟩
  intro b hb2
  rw [hb b hb2, es]
  constructor
  · rintro (h | ⟨j, h1, h2, h3⟩)
    · exact Or.inl h
    · exact Or.inr ⟨j, by omega, h2, h3⟩
  · rintro (h | ⟨j, h1, h2, h3⟩)
    · exact Or.inl h
    · by_cases e : j = i.toNatClampNeg
      · rw [e] at h2
        exact absurd h2 hF
      · exact Or.inr ⟨j, by omega, h2, h3⟩
theorem fr_e {F T : Nat → Nat} {m : Nat} {R : Nat → Int32} {r i x : Int32} (h : FR22 F T x.toNatClampNeg m R r i) (hr : iv 0 11 r) (hi : iv 0 20 i) (hx : iv 0 20 x) (he : x ≤ i) : FR7 F T x.toNatClampNeg m R (r + Int32.ofInt (-1)) := by
  obtain ⟨h7, hn, hb⟩ := h
  have q := cl_nat hr (by decide)
  have e1 := iv_inc (-1) hr (by decide) (by decide) (by decide) (by decide)
  have hc := kl_le hi hx he
  intro a h1 h2 b hb2
  by_cases ea : a = r.toNatClampNeg
  · rw [ea, hb b hb2]
    constructor
    · rintro (h | ⟨j, h1, h2, h3⟩)
      · rw [h]
        exact rch_r
      · exact rch_m (by omega) h2 h3
    · intro w
      rcases rch_i w with w | ⟨j, h1, h2, h3⟩
      · exact Or.inl w.symm
      · exact Or.inr ⟨j, by omega, h2, h3⟩
  · exact h7 a (by omega) h2 b hb2
theorem fr_x {F T : Nat → Nat} {n m : Nat} {R : Nat → Int32} {r : Int32} (h : FR7 F T n m R r) (hr : r < 0) : RcC F T n m R := by
  have hr := Int32.lt_iff_toInt_lt.mp hr
  rw [show ((0 : Int32)).toInt = 0 from by decide] at hr
  exact fun a ha => h a (by omega) ha
/-- whether one comes to another, as the class asks it -/
theorem cq_1 {R : Nat → Int32} {p q : Int32} (hq : iv 0 11 q) (h : ((R p.toNatClampNeg) >>> ((q : Int32) &&& 31)) &&& 1 = 1) : bt (R p.toNatClampNeg) q.toNatClampNeg := (bt_sr' hq (by decide)).mp h
theorem cq_0 {R : Nat → Int32} {p q : Int32} (hq : iv 0 11 q) (h : ¬ ((R p.toNatClampNeg) >>> ((q : Int32) &&& 31)) &&& 1 = 1) : ¬ bt (R p.toNatClampNeg) q.toNatClampNeg := fun w => h ((bt_sr' hq (by decide)).mpr w)
/-! branches, as the class keeps them: rows of twelve, rows of four -/
def BrR (F T : Nat → Nat) (n gl : Nat) (Bs B : Nat → Int32) (g r m : Nat) : Prop := Bs (12 * g + r) = nI (cnP (bpT F T n gl r) m) ∧ ∀ l, l < m → bpT F T n gl r l → B (4 * (12 * g + r) + cnP (bpT F T n gl r) l) = nI l
def BrA (F T G : Nat → Nat) (n m : Nat) (Bs B : Nat → Int32) (g : Nat) : Prop := ∀ g', g' < g → ∀ r, r < m → BrR F T n (G g') Bs B g' r n
def Lk4 (F : Nat → Nat) (n : Nat) : Prop := ∀ r, cnP (fun l => F l = r) n ≤ 4
theorem bpf_4 {F T : Nat → Nat} {n g r l : Nat} (h4 : Lk4 F n) (hl : l < n) (hb : bpT F T n g r l) : cnP (bpT F T n g r) l < 4 := by
  have h1 := cn_lt hl hb
  have h2 := cn_le (P := bpT F T n g r) (Q := fun l => F l = r) (m := n) (fun i _ h => h.1)
  have h3 := h4 r
  omega
def BF16 (F T G : Nat → Nat) (n m : Nat) (Rr Bs B : Nat → Int32) (g : Nat) (r : Nat) : Prop := RcC F T n m Rr ∧ BrA F T G n m Bs B g ∧ ∀ r', r' < r → Bs (12 * g + r') = 0
def BF44 (F T G : Nat → Nat) (n m : Nat) (Rr Bs B : Nat → Int32) (g : Nat) (i : Nat) : Prop := RcC F T n m Rr ∧ BrA F T G n m Bs B g ∧ i ≤ n ∧ ∀ r, r < m → BrR F T n (G g) Bs B g r i
theorem bf_16s {F T G : Nat → Nat} {n m : Nat} {Rr Bs B : Nat → Int32} {g r : Nat} {k : Nat} (h : BF16 F T G n m Rr Bs B g r) (hm : m ≤ 12) (hr : r < m) (hk : k = 12 * g + r) : BF16 F T G n m Rr (upd Bs k 0) B g (r + 1) := by
  subst hk
  obtain ⟨h1, h2, h3⟩ := h
  refine ⟨h1, ?_, ?_⟩
  · intro g' hg' r' hr'
    obtain ⟨a1, a2⟩ := h2 g' hg' r' hr'
    refine ⟨?_, a2⟩
    rw [upd_ne9 (by omega)]
    exact a1
  · intro r' hr'
    by_cases e : r' = r
    · rw [e, upd_eq9]
    · rw [upd_ne9 (by omega)]
      exact h3 r' (by omega)
theorem bf_44i {F T G : Nat → Nat} {n m : Nat} {Rr Bs B : Nat → Int32} {g r : Nat} (h : BF16 F T G n m Rr Bs B g r) (hr : m ≤ r) : BF44 F T G n m Rr Bs B g 0 := by
  obtain ⟨h1, h2, h3⟩ := h
  exact ⟨h1, h2, Nat.zero_le _, fun r' hr' => ⟨h3 r' (by omega), fun l hl => absurd hl (Nat.not_lt_zero l)⟩⟩
theorem row_eq {g f : Int32} (hg : iv 0 2 g) (hf : iv 0 11 f) : (g * 12) + f = nI (12 * g.toNatClampNeg + f.toNatClampNeg) := by
  have q1 := cl_nat hg (by decide)
  have q2 := cl_nat hf (by decide)
  have a1 := hg.1
  have a2 := hg.2
  have a3 := hf.1
  have a4 := hf.2
  have e1 := iv_mul0 (c := 12) (d := 12) hg (y := 12) ⟨by decide, by decide⟩ (by decide) (by decide) (by decide)
  rw [show ((12 : Int32)).toInt = 12 from by decide] at e1
  have h1 : iv 0 24 (g * 12) := ⟨by omega, by omega⟩
  have e2 := iv_add0 h1 hf (by decide) (by decide)
  apply Int32.toInt_inj.mp
  rw [nI_toInt (by omega), e2, e1]
  omega
theorem ix_eq {R k : Nat} (hR : R < 36) (hk : k < 5) : (nI R * 4) + nI k = nI (4 * R + k) := by
  have hr : iv 0 35 (nI R) := iv_nIv (by omega) (by omega) (by omega)
  have hq : iv 0 4 (nI k) := iv_nIv (by omega) (by omega) (by omega)
  have e1 := iv_mul0 (c := 4) (d := 4) hr (y := 4) ⟨by decide, by decide⟩ (by decide) (by decide) (by decide)
  rw [show ((4 : Int32)).toInt = 4 from by decide, nI_toInt (by omega)] at e1
  have h1 : iv 0 140 (nI R * 4) := ⟨by omega, by omega⟩
  have e2 := iv_add0 h1 hq (by decide) (by decide)
  apply Int32.toInt_inj.mp
  rw [nI_toInt (by omega), e2, e1, nI_toInt (by omega)]
  omega
theorem bf_44y {F T G : Nat → Nat} {n m : Nat} {Rr Bs B Bs' B' : Nat → Int32} {g i : Nat} {row : Int32} (h : BF44 F T G n m Rr Bs B g i) (h4 : Lk4 F n) (hw : WfC F T n m) (hm : m ≤ 12) (hi : i < n) (hg : g < 3) (hr : Rch F T n (T i) (G g)) (hrow : row = nI (12 * g + F i)) (e1 : Bs' = upd Bs row.toNatClampNeg ((Bs row.toNatClampNeg) + 1)) (e2 : B' = upd B ((row * 4) + (Bs row.toNatClampNeg)).toNatClampNeg (nI i)) : BF44 F T G n m Rr Bs' B' g (i + 1) := by
  obtain ⟨h1, h2, h3, h5⟩ := h
  obtain ⟨w1, w2⟩ := hw i hi
  have hb : bpT F T n (G g) (F i) i := ⟨rfl, hr⟩
  have hc4 := bpf_4 h4 hi hb
  obtain ⟨b1, b2⟩ := h5 (F i) (by omega)
  subst hrow
  rw [nI_clamp (by omega), b1] at e1 e2
  rw [ix_eq (by omega) (by omega), nI_clamp (by omega)] at e2
  subst e1 e2
  refine ⟨h1, ?_, by omega, ?_⟩
  · intro g' hg' r' hr'
    obtain ⟨a1, a2⟩ := h2 g' hg' r' hr'
    refine ⟨?_, fun l hl hb' => ?_⟩
    · rw [upd_ne9 (by omega)]
      exact a1
    · have := bpf_4 h4 hl hb'
      rw [upd_ne9 (by omega)]
      exact a2 l hl hb'
  · intro r' hr'
    by_cases er : r' = F i
    · subst er
      refine ⟨?_, fun l hl hb' => ?_⟩
      · rw [upd_eq9, cn_y hb, ← nI_add]
        rfl
      · by_cases el : l = i
        · subst el
          rw [upd_eq9]
        · have hlt := cn_lt (show l < i by omega) hb'
          rw [upd_ne9 (by omega)]
          exact b2 l (by omega) hb'
    · obtain ⟨c1, c2⟩ := h5 r' hr'
      have hnb : ¬ bpT F T n (G g) r' i := fun w => er w.1.symm
      refine ⟨?_, fun l hl hb' => ?_⟩
      · rw [upd_ne9 (by omega), cn_n hnb]
        exact c1
      · have hli : ¬ l = i := fun w => hnb (w ▸ hb')
        have := bpf_4 h4 (show l < n by omega) hb'
        rw [upd_ne9 (by omega)]
        exact c2 l (by omega) hb'
theorem bf_44n {F T G : Nat → Nat} {n m : Nat} {Rr Bs B : Nat → Int32} {g i : Nat} (h : BF44 F T G n m Rr Bs B g i) (hi : i < n) (hr : ¬ Rch F T n (T i) (G g)) : BF44 F T G n m Rr Bs B g (i + 1) := by
  obtain ⟨h1, h2, h3, h5⟩ := h
  refine ⟨h1, h2, by omega, fun r' hr' => ?_⟩
  obtain ⟨c1, c2⟩ := h5 r' hr'
  have hnb : ¬ bpT F T n (G g) r' i := fun w => hr w.2
  refine ⟨by rw [cn_n hnb]; exact c1, fun l hl hb' => ?_⟩
  have hli : ¬ l = i := fun w => hnb (w ▸ hb')
  exact c2 l (by omega) hb'
theorem bf_6 {F T G : Nat → Nat} {n m : Nat} {Rr Bs B : Nat → Int32} {g i : Nat} (h : BF44 F T G n m Rr Bs B g i) (hi : n ≤ i) : BF16 F T G n m Rr Bs B (g + 1) 0 := by
  obtain ⟨h1, h2, h3, h5⟩ := h
  have e : i = n := by omega
  subst e
  refine ⟨h1, fun g' hg' r' hr' => ?_, fun r' hr' => absurd hr' (Nat.not_lt_zero r')⟩
  by_cases eg : g' = g
  · subst eg
    exact h5 r' hr'
  · exact h2 g' (by omega) r' hr'
