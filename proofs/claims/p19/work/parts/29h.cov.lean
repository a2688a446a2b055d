/-! the reference's reach: who comes to each -/
def RrC (F T : Nat → Nat) (n m : Nat) (R : Nat → Int32) : Prop := ∀ a, a < m → ∀ b, b < 12 → (bt (R a) b ↔ Rch F T n b a)
def TR2 (F T : Nat → Nat) (n : Nat) (R : Nat → Int32) (r : Int32) : Prop := ∀ a : Nat, (a : Int) < r.toInt → ∀ b, b < 12 → (bt (R a) b ↔ Rch F T n b a)
def TR21 (F T : Nat → Nat) (n : Nat) (R : Nat → Int32) (r o : Int32) : Prop := TR2 F T n R r ∧ ∀ b, b < 12 → (bt (R r.toNatClampNeg) b ↔ (b = r.toNatClampNeg ∨ (o.toInt < (b : Int) ∧ Rch F T n b r.toNatClampNeg)))
def TR27 (F T : Nat → Nat) (n : Nat) (R : Nat → Int32) (r o l : Int32) : Prop := TR2 F T n R r ∧ l.toNatClampNeg ≤ n ∧ ∀ b, b < 12 → (bt (R r.toNatClampNeg) b ↔ (b = r.toNatClampNeg ∨ (o.toInt < (b : Int) ∧ Rch F T n b r.toNatClampNeg) ∨ (b = o.toNatClampNeg ∧ ∃ j, j < l.toNatClampNeg ∧ F j = o.toNatClampNeg ∧ Rch F T n (T j) r.toNatClampNeg)))
def LtC (F T : Nat → Nat) (n : Nat) : Prop := ∀ i, i < n → F i < T i
theorem tr_0 {F T : Nat → Nat} {n : Nat} {R : Nat → Int32} : TR2 F T n R 0 := fun a h => by
  rw [show ((0 : Int32)).toInt = 0 from by decide] at h
  exfalso
  omega
theorem tr_2 {F T : Nat → Nat} {n : Nat} {R : Nat → Int32} {r : Int32} (h : TR2 F T n R r) (hr : iv 0 11 r) (hw : LtC F T n) : TR21 F T n (upd R r.toNatClampNeg (1 <<< ((r : Int32) &&& 31))) r r := by
  have q := cl_nat hr (by decide)
  refine ⟨?_, ?_⟩
  · intro a h1 b hb
    rw [upd_ne9 (by omega)]
    exact h a h1 b hb
  · intro b hb
    rw [upd_eq9, bt_1' hr (by decide)]
    constructor
    · exact Or.inl
    · rintro (h | ⟨h1, h2⟩)
      · exact h
      · have := rch_le hw h2
        exfalso
        omega
theorem tr_27 {F T : Nat → Nat} {n : Nat} {R : Nat → Int32} {r o : Int32} (h : TR21 F T n R r o) : TR27 F T n R r o 0 := by
  refine ⟨h.1, Nat.zero_le _, fun b hb => ?_⟩
  rw [h.2 b hb]
  constructor
  · rintro (h | h)
    · exact Or.inl h
    · exact Or.inr (Or.inl h)
  · rintro (h | h | ⟨_, j, h1, _⟩)
    · exact Or.inl h
    · exact Or.inr h
    · rw [kz0] at h1
      exact absurd h1 (Nat.not_lt_zero j)
theorem tr_y {fr to : Nat → Int32} {n : Nat} {R : Nat → Int32} {r o l : Int32} (h : TR27 (nF fr) (nF to) n R r o l) (hw : LtC (nF fr) (nF to) n) (hl : iv 0 19 l) (hn : l.toNatClampNeg < n) (ho : iv 0 11 o) (ht : iv 0 11 (to l.toNatClampNeg)) (hf : fr l.toNatClampNeg = o) (hb : ((R r.toNatClampNeg) >>> ((to l.toNatClampNeg : Int32) &&& 31)) &&& 1 = 1) : TR27 (nF fr) (nF to) n (upd R r.toNatClampNeg ((R r.toNatClampNeg) ||| (1 <<< ((o : Int32) &&& 31)))) r o (l + Int32.ofInt 1) := by
  obtain ⟨h2, h3, h4⟩ := h
  have hF : nF fr l.toNatClampNeg = o.toNatClampNeg := congrArg Int32.toNatClampNeg hf
  have w1 := hw _ hn
  have es := kl_s hl (by decide)
  have tb := kl_b ht
  have hT : bt (R r.toNatClampNeg) (nF to l.toNatClampNeg) := (bt_sr' ht (by decide)).mp hb
  have hT2 : nF to l.toNatClampNeg < 12 := by
    show (to l.toNatClampNeg).toNatClampNeg < 12
    omega
  have hR : Rch (nF fr) (nF to) n (nF to l.toNatClampNeg) r.toNatClampNeg := by
    rcases (h4 _ hT2).mp hT with w | w | w
    · rw [w]
      exact rch_r
    · exact w.2
    · have := w.1
      exfalso
      omega
  refine ⟨?_, by omega, ?_⟩
  · intro a h1 b hb
    by_cases ea : a = r.toNatClampNeg
    · have q : r.toInt.toNat = r.toNatClampNeg := rfl
      exfalso
      omega
    · rw [upd_ne9 ea]
      exact h2 a h1 b hb
  · intro b hb2
    rw [upd_eq9, bt_or, h4 b hb2, bt_1' ho (by decide), es]
    constructor
    · rintro ((h | h | ⟨h, j, h1, h2, h3⟩) | h)
      · exact Or.inl h
      · exact Or.inr (Or.inl h)
      · exact Or.inr (Or.inr ⟨h, j, by omega, h2, h3⟩)
      · exact Or.inr (Or.inr ⟨h, l.toNatClampNeg, by omega, hF, hR⟩)
    · rintro (h | h | ⟨h, _⟩)
      · exact Or.inl (Or.inl h)
      · exact Or.inl (Or.inr (Or.inl h))
      · exact Or.inr h
theorem tr_n {fr to : Nat → Int32} {n : Nat} {R : Nat → Int32} {r o l : Int32} (h : TR27 (nF fr) (nF to) n R r o l) (hl : iv 0 19 l) (hn : l.toNatClampNeg < n) (ho : iv 0 11 o) (hg : iv 0 11 (fr l.toNatClampNeg)) (hf : ¬ fr l.toNatClampNeg = o) : TR27 (nF fr) (nF to) n R r o (l + Int32.ofInt 1) := by
  obtain ⟨h2, h3, h4⟩ := h
  have hF : ¬ nF fr l.toNatClampNeg = o.toNatClampNeg := fun w => hf (kl_eq hg ho w)
  have es := kl_s hl (by decide)
  refine ⟨h2, by omega, fun b hb => ?_⟩
  rw [h4 b hb, es]
  constructor
  · rintro (h | h | ⟨h, j, h1, h2, h3⟩)
    · exact Or.inl h
    · exact Or.inr (Or.inl h)
    · exact Or.inr (Or.inr ⟨h, j, by omega, h2, h3⟩)
  · rintro (h | h | ⟨h, j, h1, h2, h3⟩)
    · exact Or.inl h
    · exact Or.inr (Or.inl h)
    · by_cases e : j = l.toNatClampNeg
      · rw [e] at h2
        exact absurd h2 hF
      · exact Or.inr (Or.inr ⟨h, j, by omega, h2, h3⟩)
theorem tr_m {fr to : Nat → Int32} {n : Nat} {R : Nat → Int32} {r o l : Int32} (h : TR27 (nF fr) (nF to) n R r o l) (hw : LtC (nF fr) (nF to) n) (hl : iv 0 19 l) (hn : l.toNatClampNeg < n) (ho : iv 0 11 o) (ht : iv 0 11 (to l.toNatClampNeg)) (hf : fr l.toNatClampNeg = o) (hb : ¬ ((R r.toNatClampNeg) >>> ((to l.toNatClampNeg : Int32) &&& 31)) &&& 1 = 1) : TR27 (nF fr) (nF to) n R r o (l + Int32.ofInt 1) := by
  obtain ⟨h2, h3, h4⟩ := h
  have hF : nF fr l.toNatClampNeg = o.toNatClampNeg := congrArg Int32.toNatClampNeg hf
  have w1 := hw _ hn
  have q := cl_nat ho (by decide)
  have es := kl_s hl (by decide)
  have tb := kl_b ht
  have hT2 : nF to l.toNatClampNeg < 12 := by
    show (to l.toNatClampNeg).toNatClampNeg < 12
    omega
  have hR : ¬ Rch (nF fr) (nF to) n (nF to l.toNatClampNeg) r.toNatClampNeg := fun w => hb ((bt_sr' ht (by decide)).mpr ((h4 _ hT2).mpr (Or.inr (Or.inl ⟨by omega, w⟩))))
  refine ⟨h2, by omega, fun b hb => ?_⟩
  rw [h4 b hb, es]
  constructor
  · rintro (h | h | ⟨h, j, h1, h2, h3⟩)
    · exact Or.inl h
    · exact Or.inr (Or.inl h)
    · exact Or.inr (Or.inr ⟨h, j, by omega, h2, h3⟩)
  · rintro (h | h | ⟨h, j, h1, h2, h3⟩)
    · exact Or.inl h
    · exact Or.inr (Or.inl h)
    · by_cases e : j = l.toNatClampNeg
      · rw [e] at h3
        exact absurd h3 hR
      · exact Or.inr (Or.inr ⟨h, j, by omega, h2, h3⟩)
theorem tr_o {F T : Nat → Nat} {R : Nat → Int32} {r o l x : Int32} (h : TR27 F T x.toNatClampNeg R r o l) (ho : iv 0 11 o) (hl : iv 0 20 l) (hx : iv 0 20 x) (he : x ≤ l) : TR21 F T x.toNatClampNeg R r (o + Int32.ofInt (-1)) := by
  obtain ⟨h2, h3, h4⟩ := h
  have q := cl_nat ho (by decide)
  have e1 := iv_inc (-1) ho (by decide) (by decide) (by decide) (by decide)
  have hc := kl_le hl hx he
  refine ⟨h2, fun b hb => ?_⟩
  rw [h4 b hb, e1]
  constructor
  · rintro (h | ⟨h, w⟩ | ⟨h, j, h1, h2, h3⟩)
    · exact Or.inl h
    · exact Or.inr ⟨by omega, w⟩
    · exact Or.inr ⟨by omega, rch_m (by omega) (h2.trans h.symm) h3⟩
  · rintro (h | ⟨h, w⟩)
    · exact Or.inl h
    · by_cases e : b = o.toNatClampNeg
      · rcases rch_i w with w | ⟨j, h1, h2, h3⟩
        · exact Or.inl w
        · exact Or.inr (Or.inr ⟨e, j, by omega, h2.trans e, h3⟩)
      · exact Or.inr (Or.inl ⟨by omega, w⟩)
theorem tr_r {F T : Nat → Nat} {n : Nat} {R : Nat → Int32} {r o : Int32} (h : TR21 F T n R r o) (hr : iv 0 11 r) (ho : o < 0) : TR2 F T n R (r + Int32.ofInt 1) := by
  have q := cl_nat hr (by decide)
  have e1 := iv_inc 1 hr (by decide) (by decide) (by decide) (by decide)
  have ho := Int32.lt_iff_toInt_lt.mp ho
  rw [show ((0 : Int32)).toInt = 0 from by decide] at ho
  intro a ha b hb
  by_cases ea : a = r.toNatClampNeg
  · rw [ea, h.2 b hb]
    constructor
    · rintro (h | h)
      · rw [h]
        exact rch_r
      · exact h.2
    · exact fun w => Or.inr ⟨by omega, w⟩
  · exact h.1 a (by omega) b hb
theorem tr_e {F T : Nat → Nat} {n : Nat} {R : Nat → Int32} {r x : Int32} (h : TR2 F T n R r) (hx : iv 0 12 x) (he : x ≤ r) : RrC F T n x.toNatClampNeg R := by
  have he := Int32.le_iff_toInt_le.mp he
  have q := cl_nat hx (by decide)
  exact fun a ha => h a (by omega)
/-! the reference's branches -/
theorem ib_1 {fr to R : Nat → Int32} {n m : Nat} {l r e : Int32} (hR : RrC (nF fr) (nF to) n m R) (he : e.toNatClampNeg < m) (ht : iv 0 11 (to l.toNatClampNeg)) (hf : fr l.toNatClampNeg = r) (hb : ((R e.toNatClampNeg) >>> ((to l.toNatClampNeg : Int32) &&& 31)) &&& 1 = 1) : bpT (nF fr) (nF to) n e.toNatClampNeg r.toNatClampNeg l.toNatClampNeg := by
  have tb := kl_b ht
  exact ⟨congrArg Int32.toNatClampNeg hf, (hR _ he (nF to l.toNatClampNeg) (by show (to l.toNatClampNeg).toNatClampNeg < 12; omega)).mp ((bt_sr' ht (by decide)).mp hb)⟩
theorem ib_a {fr to : Nat → Int32} {n : Nat} {l r : Int32} {e : Nat} (hg : iv 0 11 (fr l.toNatClampNeg)) (hr : iv 0 11 r) (hf : ¬ fr l.toNatClampNeg = r) : ¬ bpT (nF fr) (nF to) n e r.toNatClampNeg l.toNatClampNeg := fun w => hf (kl_eq hg hr w.1)
theorem ib_b {fr to R : Nat → Int32} {n m : Nat} {l r e : Int32} (hR : RrC (nF fr) (nF to) n m R) (he : e.toNatClampNeg < m) (ht : iv 0 11 (to l.toNatClampNeg)) (hb : ¬ ((R e.toNatClampNeg) >>> ((to l.toNatClampNeg : Int32) &&& 31)) &&& 1 = 1) : ¬ bpT (nF fr) (nF to) n e.toNatClampNeg r.toNatClampNeg l.toNatClampNeg := fun w => by
  have tb := kl_b ht
  exact hb ((bt_sr' ht (by decide)).mpr ((hR _ he (nF to l.toNatClampNeg) (by show (to l.toNatClampNeg).toNatClampNeg < 12; omega)).mpr w.2))
/-- what isBranch answers -/
def IbR (P : Prop) (v : Int32) : Prop := (v = 0 ∧ ¬ P) ∨ (v = 1 ∧ P)
theorem ib_y {P : Prop} {v : Int32} (h : IbR P v) (hv : ¬ v = 0) : P := by
  rcases h with h | h
  · exact absurd h.1 hv
  · exact h.2
theorem ib_n {P : Prop} {v : Int32} (h : IbR P v) (hv : v = 0) : ¬ P := by
  rcases h with h | h
  · exact h.2
  · rw [hv] at h
    exact absurd h.1 (by decide)
def BcR (P : Nat → Prop) (n : Nat) (v l : Int32) : Prop := v = nI (cnP P l.toNatClampNeg) ∧ l.toNatClampNeg ≤ n
theorem bc_0 {P : Nat → Prop} {n : Nat} : BcR P n 0 0 := by
  unfold BcR
  rw [kz0]
  exact ⟨rfl, Nat.zero_le _⟩
theorem bc_y {P : Nat → Prop} {n : Nat} {v l : Int32} (h : BcR P n v l) (hl : iv 0 19 l) (hn : l.toNatClampNeg < n) (hp : P l.toNatClampNeg) : BcR P n (v + 1) (l + Int32.ofInt 1) := by
  have es := kl_s hl (by decide)
  refine ⟨?_, by omega⟩
  rw [es, cn_y hp, ← nI_add, h.1]
  rfl
theorem bc_x {P : Nat → Prop} {n : Nat} {v l : Int32} (h : BcR P n v l) (hl : iv 0 19 l) (hn : l.toNatClampNeg < n) (hp : ¬ P l.toNatClampNeg) : BcR P n (v + 0) (l + Int32.ofInt 1) := by
  have es := kl_s hl (by decide)
  refine ⟨?_, by omega⟩
  rw [es, cn_n hp, h.1, Int32.add_zero]
theorem bc_e {P : Nat → Prop} {v l x : Int32} (h : BcR P x.toNatClampNeg v l) (hl : iv 0 20 l) (hx : iv 0 20 x) (he : x ≤ l) : v = nI (cnP P x.toNatClampNeg) := by
  have hc := kl_le hl hx he
  have h2 := h.2
  rw [h.1, show l.toNatClampNeg = x.toNatClampNeg from by omega]
theorem cn_20 {P : Nat → Prop} : ∀ n : Nat, cnP P n ≤ n := by
  intro n
  induction n with
  | zero => exact Nat.le_refl _
  | succ n ih =>
    by_cases p : P n
    · rw [cn_y p]
      omega
    · rw [cn_n p]
      omega
theorem bc_iv {P : Nat → Prop} {n : Nat} {v l : Int32} (h : BcR P n v l) (hl : iv 0 20 l) : iv 0 20 v := by
  have q := kl_b hl
  have c := cn_20 (P := P) l.toNatClampNeg
  rw [h.1]
  exact iv_nIv (by omega) (by omega) (by omega)
/-- the i-th branch: so many are left -/
def BaR (P : Nat → Prop) (n : Nat) (i left l : Int32) : Prop := 0 ≤ left.toInt ∧ left.toInt + (cnP P l.toNatClampNeg : Int) = i.toInt ∧ l.toNatClampNeg ≤ n
theorem ba_0 {P : Nat → Prop} {n : Nat} {i : Int32} (hi : iv 0 20 i) : BaR P n i i 0 := by
  unfold BaR
  rw [kz0]
  exact ⟨hi.1, by show i.toInt + ((0 : Nat) : Int) = i.toInt; omega, Nat.zero_le _⟩
theorem ba_y {P : Nat → Prop} {n : Nat} {i left l : Int32} (h : BaR P n i left l) (hi : iv 0 20 i) (hl : iv 0 19 l) (hn : l.toNatClampNeg < n) (hp : P l.toNatClampNeg) (h0 : ¬ left = 0) : BaR P n i (left + Int32.ofInt (-1)) (l + Int32.ofInt 1) := by
  have es := kl_s hl (by decide)
  obtain ⟨a1, a2, a3⟩ := h
  have i2 := hi.2
  have hz : ¬ left.toInt = 0 := fun w => h0 (Int32.toInt_inj.mp (by rw [w]; decide))
  have hv : iv 1 20 left := ⟨by omega, by omega⟩
  have e1 := iv_inc (-1) hv (by decide) (by decide) (by decide) (by decide)
  refine ⟨by omega, ?_, by omega⟩
  rw [es, cn_y hp, e1]
  omega
theorem ba_n {P : Nat → Prop} {n : Nat} {i left l : Int32} (h : BaR P n i left l) (hl : iv 0 19 l) (hn : l.toNatClampNeg < n) (hp : ¬ P l.toNatClampNeg) : BaR P n i left (l + Int32.ofInt 1) := by
  have es := kl_s hl (by decide)
  obtain ⟨a1, a2, a3⟩ := h
  refine ⟨a1, ?_, by omega⟩
  rw [es, cn_n hp]
  exact a2
theorem ba_iv {P : Nat → Prop} {n : Nat} {i left l : Int32} (h : BaR P n i left l) (hi : iv 0 20 i) : iv 0 20 left := by
  obtain ⟨a1, a2, a3⟩ := h
  have i2 := hi.2
  exact ⟨a1, by omega⟩
theorem ba_r {P : Nat → Prop} {n : Nat} {i left l : Int32} (h : BaR P n i left l) (hi : iv 0 20 i) (h0 : left = 0) : cnP P l.toNatClampNeg = i.toNatClampNeg := by
  obtain ⟨a1, a2, a3⟩ := h
  have q := cl_nat hi (by decide)
  rw [h0, show ((0 : Int32)).toInt = 0 from by decide] at a2
  omega
theorem ba_e {P : Nat → Prop} {i left l x : Int32} (h : BaR P x.toNatClampNeg i left l) (hi : iv 0 20 i) (hl : iv 0 20 l) (hx : iv 0 20 x) (he : x ≤ l) (hc : i.toNatClampNeg < cnP P x.toNatClampNeg) : False := by
  have h1 := kl_le hl hx he
  obtain ⟨a1, a2, a3⟩ := h
  have q := cl_nat hi (by decide)
  rw [show l.toNatClampNeg = x.toNatClampNeg from by omega] at a2
  omega
/-- where a probe goes on, as the reference says -/
def GbR (S : Nat → Nat → Prop) (r : Nat) (v : Int32) : Prop := (v = -1 ∧ ∀ k, ¬ S r k) ∨ (iv 0 19 v ∧ S r v.toNatClampNeg)
theorem z_rem {m : Nat} (h0 : 0 < m) (hm : m < 1000) : (0 : Int32) - 0 / nI m * nI m = 0 := by
  have e := pk_rem (a := 0) (d := m) (by omega) h0 (by omega)
  rw [Nat.zero_mod] at e
  exact e
theorem gb_no {F T : Nat → Nat} {n g r : Nat} {ch : Nat → Nat → Nat} {v : Int32} (hv : v = nI (cnP (bpT F T n g r) n)) (hn : n ≤ 20) (h0 : v = 0) : GbR (stT F T n g ch) r (-1) := by
  have c := cn_20 (P := bpT F T n g r) n
  rw [hv] at h0
  have h := congrArg Int32.toInt h0
  rw [nI_toInt (by omega), show ((0 : Int32)).toInt = 0 from by decide] at h
  exact Or.inl ⟨rfl, fun k => st_no (by omega)⟩
theorem gb_ch {kd sa tu p g : Int32} {m : Nat} {i : Int32} (hm : 0 < m) (hm2 : m < 1000) (h : (kd = 0 ∧ i = 0) ∨ (kd = 1 ∧ i = ((7 * p) + (13 * g)) + sa) ∨ (kd = 3 ∧ i = (13 * g) + sa) ∨ (kd = 2 ∧ i = tu)) : i - i / nI m * nI m = chI kd sa tu p g (nI m) := by
  rcases h with ⟨h1, h2⟩ | ⟨h1, h2⟩ | ⟨h1, h2⟩ | ⟨h1, h2⟩
  · subst h1 h2
    rw [z_rem hm hm2]
    unfold chI
    rw [if_neg (by decide), if_neg (by decide), if_neg (by decide)]
  · subst h1 h2
    unfold chI
    rw [if_pos rfl]
  · subst h1 h2
    unfold chI
    rw [if_neg (by decide), if_neg (by decide), if_pos rfl]
  · subst h1 h2
    unfold chI
    rw [if_neg (by decide), if_pos rfl]
/-! the reference's way -/
def WwR (S : Nat → Nat → Prop) (T : Nat → Nat) (gl m : Nat) (w r : Int32) : Prop := r.toNatClampNeg < m ∧ ∃ f : Nat, 12 ≤ f + r.toNatClampNeg ∧ ∀ l, l < 32 → (wayP S T gl 12 0 l ↔ (bt w l ∨ wayP S T gl f r.toNatClampNeg l))
theorem ww_0 {S : Nat → Nat → Prop} {T : Nat → Nat} {gl m : Nat} (hm : 0 < m) : WwR S T gl m 0 0 := by
  unfold WwR
  rw [kz0]
  exact ⟨hm, 12, Nat.le_refl _, fun _ _ => ⟨Or.inr, fun w => w.resolve_left bt_zz⟩⟩
theorem ww_s {fr to : Nat → Int32} {n gl m : Nat} {ch : Nat → Nat → Nat} {w r v gg : Int32} (h : WwR (stT (nF fr) (nF to) n gl ch) (nF to) gl m w r) (hr : iv 0 11 r) (hgg : iv 0 11 gg) (hgl : gl = gg.toNatClampNeg) (hg : ¬ r = gg) (hw : WfC (nF fr) (nF to) n m) (go : GbR (stT (nF fr) (nF to) n gl ch) r.toNatClampNeg v) (hv : ¬ v = -1) : WwR (stT (nF fr) (nF to) n gl ch) (nF to) gl m (w ||| (1 <<< ((v : Int32) &&& 31))) (to v.toNatClampNeg) ∧ r.toInt < (to v.toNatClampNeg).toInt := by
  obtain ⟨hm, f, hf, hl⟩ := h
  have q := cl_nat hr (by decide)
  have r2 := hr.2
  rcases go with ⟨g1, _⟩ | ⟨hv1, hk⟩
  · exact absurd g1 hv
  · have hgn : ¬ r.toNatClampNeg = gl := fun w => hg (kl_eq hr hgg (w.trans hgl))
    obtain ⟨w1, w2⟩ := hw _ hk.1
    have e1 : nF fr v.toNatClampNeg = r.toNatClampNeg := hk.2.1.1
    have hgt : r.toNatClampNeg < nF to v.toNatClampNeg := by omega
    obtain ⟨f', rfl⟩ : ∃ f', f = f' + 1 := ⟨f - 1, by omega⟩
    refine ⟨⟨w2, f', ?_, fun l hl2 => ?_⟩, ?_⟩
    · show 12 ≤ f' + nF to v.toNatClampNeg
      omega
    · rw [hl l hl2, bt_or, bt_1' hv1 (by decide), way_s hgn hk (fun a b ha hb => st_fun ha hb)]
      show _ ↔ ((bt w l ∨ l = v.toNatClampNeg) ∨ wayP _ _ _ f' (nF to v.toNatClampNeg) l)
      constructor
      · rintro (h | h | h)
        · exact Or.inl (Or.inl h)
        · exact Or.inl (Or.inr h)
        · exact Or.inr h
      · rintro ((h | h) | h)
        · exact Or.inl h
        · exact Or.inr (Or.inl h)
        · exact Or.inr (Or.inr h)
    · have hz : (nF to v.toNatClampNeg : Int) ≤ (to v.toNatClampNeg).toInt ∨ nF to v.toNatClampNeg = 0 := by
        show ((to v.toNatClampNeg).toInt.toNat : Int) ≤ (to v.toNatClampNeg).toInt ∨ (to v.toNatClampNeg).toInt.toNat = 0
        omega
      omega
theorem ww_g {S : Nat → Nat → Prop} {T : Nat → Nat} {gl m : Nat} {w r gg : Int32} (h : WwR S T gl m w r) (hgl : gl = gg.toNatClampNeg) (hg : r = gg) : ∀ l, l < 32 → (bt w l ↔ wayP S T gl 12 0 l) := by
  obtain ⟨_, f, _, hl⟩ := h
  intro l hl2
  rw [hl l hl2, hg, ← hgl]
  exact ⟨Or.inl, fun w => w.resolve_right way_g⟩
theorem ww_l {S : Nat → Nat → Prop} {T : Nat → Nat} {gl m : Nat} {w r v : Int32} (h : WwR S T gl m w r) (go : GbR S r.toNatClampNeg v) (hv : v = -1) : ∀ l, l < 32 → (bt w l ↔ wayP S T gl 12 0 l) := by
  obtain ⟨_, f, _, hl⟩ := h
  intro l hl2
  rcases go with ⟨_, g⟩ | ⟨g, _⟩
  · rw [hl l hl2]
    exact ⟨Or.inl, fun w => w.resolve_right (way_n g)⟩
  · rw [hv] at g
    exact absurd g.1 (by decide)
/-! the reference's cover: at the head either no port was tried, or some link is left -/
theorem cw_r {W : Nat → Prop} {O : Nat → Nat → Prop} {w v p : Int32} (h : CvR W O w p.toNatClampNeg) (hp : iv 0 31 p) (hw : ¬ w = 0) (hv : ∀ l, l < 32 → (bt v l ↔ O p.toNatClampNeg l)) (h0 : w &&& (v ^^^ (-1)) = 0) (hW : ∀ l, W l → l < 32) : CovT W O (p + 1) := by
  have h1 := cv_s h hw hv
  rw [h0] at h1
  have q := kl_b hp
  have e : p + 1 = nI (p.toNatClampNeg + 1) := by
    rw [← nI_add, ← iv_nk hp (by decide)]
    rfl
  exact Or.inl ⟨p.toNatClampNeg + 1, by omega, e, cv_z h1 hW, h1.2⟩
theorem cw_s {W : Nat → Prop} {O : Nat → Nat → Prop} {w v p : Int32} (h : CvR W O w p.toNatClampNeg) (hp : iv 0 31 p) (hw : ¬ w = 0) (hv : ∀ l, l < 32 → (bt v l ↔ O p.toNatClampNeg l)) : CvR W O (w &&& (v ^^^ (-1))) (p + Int32.ofInt 1).toNatClampNeg := by
  rw [kl_s hp (by decide)]
  exact cv_s h hw hv
theorem cw_0 {W : Nat → Prop} {O : Nat → Nat → Prop} {w p : Int32} (h : CvR W O w p.toNatClampNeg) (hp : p = 0 ∨ ¬ w = 0) (hw : w = 0) (hW : ∀ l, W l → l < 32) : CovT W O 0 := by
  have e := hp.resolve_right (fun n => n hw)
  subst e
  subst hw
  rw [kz0] at h
  exact Or.inl ⟨0, by omega, rfl, cv_z h hW, fun q hq => absurd hq (Nat.not_lt_zero q)⟩
