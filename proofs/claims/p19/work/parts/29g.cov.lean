/-! the choice is one of them -/
theorem iv_cnt {m : Nat} (hm : m < 1000) : iv m m (nI m) := iv_nIv (by omega) (Int.le_refl _) (Int.le_refl _)
theorem ch_lt {kd sa tu p g : Int32} {m : Nat} (hm : 0 < m) (hm2 : m < 1000) (hs : iv 0 15 sa) (ht : iv 0 59 tu) (hp : iv 0 31 p) (hg : iv 0 2 g) : iv 0 (m - 1) (chI kd sa tu p g (nI m)) := by
  have hc := iv_cnt hm2
  have h7 : iv 0 217 (7 * p) := iv_mul (a := 7) (b := 7) ⟨by decide, by decide⟩ hp (by decide) (by decide) (by decide) (by decide) (by decide)
  have h13 : iv 0 26 (13 * g) := iv_mul (a := 13) (b := 13) ⟨by decide, by decide⟩ hg (by decide) (by decide) (by decide) (by decide) (by decide)
  have a1 : iv 0 243 ((7 * p) + (13 * g)) := iv_add h7 h13 (by decide) (by decide) (by decide) (by decide)
  have a2 : iv 0 258 (((7 * p) + (13 * g)) + sa) := iv_add a1 hs (by decide) (by decide) (by decide) (by decide)
  have a3 : iv 0 41 ((13 * g) + sa) := iv_add h13 hs (by decide) (by decide) (by decide) (by decide)
  unfold chI
  by_cases k1 : kd = 1
  · rw [if_pos k1]
    exact iv_rem a2 hc (by decide) (by omega) (by decide) (by omega)
  · rw [if_neg k1]
    by_cases k2 : kd = 2
    · rw [if_pos k2]
      exact iv_rem ht hc (by decide) (by omega) (by decide) (by omega)
    · rw [if_neg k2]
      by_cases k3 : kd = 3
      · rw [if_pos k3]
        exact iv_rem a3 hc (by decide) (by omega) (by decide) (by omega)
      · rw [if_neg k3]
        exact ⟨by decide, by show ((0 : Int32)).toInt ≤ _; rw [show ((0 : Int32)).toInt = 0 from by decide]; omega⟩
theorem nI_le0 {m : Nat} (hm : m < 1000) (h : nI m ≤ 0) : m = 0 := by
  have h := Int32.le_iff_toInt_le.mp h
  rw [nI_toInt (by omega), show ((0 : Int32)).toInt = 0 from by decide] at h
  omega
theorem nI_gt0 {m : Nat} (hm : m < 1000) (h : 0 < nI m) : 0 < m := by
  have h := Int32.lt_iff_toInt_lt.mp h
  rw [nI_toInt (by omega), show ((0 : Int32)).toInt = 0 from by decide] at h
  omega
theorem bc_n {F T : Nat → Nat} {n g r : Nat} (h4 : Lk4 F n) : cnP (bpT F T n g r) n ≤ 4 := Nat.le_trans (cn_le (fun i _ h => h.1)) (h4 r)
theorem go_l {F T G : Nat → Nat} {n m ng gi r : Nat} {Bs B : Nat → Int32} {ix : Int32} {ch : Nat → Nat → Nat} (hB : BrA F T G n m Bs B ng) (h4 : Lk4 F n) (hg : gi < ng) (hr : r < m) (hix : ix = nI (12 * gi + r)) (hi : 12 * gi + r < 36) (h : Bs ix.toNatClampNeg ≤ 0) : ∀ k, ¬ stT F T n (G gi) ch r k := by
  intro k
  obtain ⟨e, _⟩ := hB gi hg r hr
  rw [hix, nI_clamp (by omega), e] at h
  have := bc_n (T := T) (g := G gi) (r := r) h4
  exact st_no (nI_le0 (by omega) h)
theorem go_s {F T G : Nat → Nat} {n m ng gi r : Nat} {Bs B kd sa tu : Nat → Int32} {ix p g c : Int32} (hB : BrA F T G n m Bs B ng) (h4 : Lk4 F n) (hg : gi < ng) (hr : r < m) (hix : ix = nI (12 * gi + r)) (hi : 12 * gi + r < 36) (h : 0 < Bs ix.toNatClampNeg) (hs : iv 0 15 (sa r)) (ht : iv 0 59 (tu r)) (hp : iv 0 31 p) (hgi : iv 0 2 g) (hc : c = chI (kd r) (sa r) (tu r) p g (Bs ix.toNatClampNeg)) : ∃ k, k < n ∧ stT F T n (G gi) (chN kd sa tu p g) r k ∧ B ((ix * 4) + c).toNatClampNeg = nI k := by
  obtain ⟨e, hb⟩ := hB gi hg r hr
  rw [hix, nI_clamp (by omega), e] at h hc
  have h5 := bc_n (T := T) (g := G gi) (r := r) h4
  have hm := nI_gt0 (by omega) h
  have hv := ch_lt (kd := kd r) hm (by omega) hs ht hp hgi
  rw [← hc] at hv
  have hcv : c.toNatClampNeg = chN kd sa tu p g r (cnP (bpT F T n (G gi) r) n) := congrArg Int32.toNatClampNeg hc
  have q := cl_nat hv (by decide)
  have h2 := hv.2
  obtain ⟨l, l1, l2, l3⟩ := cn_ex (P := bpT F T n (G gi) r) (n := n) (k := c.toNatClampNeg) (by omega)
  refine ⟨l, l1, ⟨l1, l2, l3.trans hcv⟩, ?_⟩
  have ec : c = nI c.toNatClampNeg := iv_nk hv (by decide)
  rw [hix, ec, ix_eq (by omega) (by omega), nI_clamp (by omega), ← l3]
  exact hb l l1 l2
/-- one step of a walk: fields 2 router, 6 links, 7 lost -/
def GoR (S : Nat → Nat → Prop) (to : Nat → Int32) (x x' : Nat → Int32) : Prop := (x' 7 = 1 ∧ x' 6 = x 6 ∧ ∀ k, ¬ S (x 2).toNatClampNeg k) ∨ (x' 7 = x 7 ∧ ∃ k, k < 20 ∧ S (x 2).toNatClampNeg k ∧ x' 6 = (x 6) ||| (1 <<< (nI k &&& 31)) ∧ x' 2 = to k)
def TkR (S : Nat → Nat → Prop) (T : Nat → Nat) (gl m : Nat) (x : Nat → Int32) (h i : Int32) : Prop := h.toInt + i.toInt = 13 ∧ x 7 = 0 ∧ (x 2).toNatClampNeg < m ∧ ∀ l, l < 32 → (wayP S T gl 12 0 l ↔ (bt (x 6) l ∨ wayP S T gl (12 - i.toNatClampNeg) (x 2).toNatClampNeg l))
def TkE (S : Nat → Nat → Prop) (T : Nat → Nat) (gl : Nat) (x : Nat → Int32) : Prop := ∀ l, l < 32 → (bt (x 6) l ↔ wayP S T gl 12 0 l)
theorem tk_0 {S : Nat → Nat → Prop} {T : Nat → Nat} {gl m : Nat} {x : Nat → Int32} (h2 : x 2 = 0) (h6 : x 6 = 0) (h7 : x 7 = 0) (hm : 0 < m) : TkR S T gl m x 13 0 := by
  refine ⟨by decide, h7, by rw [h2, kz0]; exact hm, fun l hl => ?_⟩
  rw [h2, h6, kz0]
  exact ⟨Or.inr, fun w => w.resolve_left bt_zz⟩
theorem tk_hv {S : Nat → Nat → Prop} {T : Nat → Nat} {gl m : Nat} {x : Nat → Int32} {h i : Int32} (hr : TkR S T gl m x h i) (hi : iv 0 11 i) : iv 2 13 h := by
  have e := hr.1
  have h1 := hi.1
  have h2 := hi.2
  exact ⟨by omega, by omega⟩
theorem tk_s {fr to : Nat → Int32} {n gl m : Nat} {ch : Nat → Nat → Nat} {x x' : Nat → Int32} {h i gg : Int32} (hr : TkR (stT (nF fr) (nF to) n gl ch) (nF to) gl m x h i) (hi : iv 0 11 i) (hh : iv 2 13 h) (hx : iv 0 11 (x 2)) (hgg : iv 0 11 gg) (hgl : gl = gg.toNatClampNeg) (hg : ¬ x 2 = gg) (hw : WfC (nF fr) (nF to) n m) (go : GoR (stT (nF fr) (nF to) n gl ch) to x x') (h0 : x' 7 = 0) : TkR (stT (nF fr) (nF to) n gl ch) (nF to) gl m x' (h + Int32.ofInt (-1)) (i + Int32.ofInt 1) := by
  obtain ⟨e, x7, xm, hl⟩ := hr
  have e1 := iv_inc (-1) hh (by decide) (by decide) (by decide) (by decide)
  have e2 := iv_inc 1 hi (by decide) (by decide) (by decide) (by decide)
  have es := kl_s hi (by decide)
  have q := cl_nat hi (by decide)
  have hi2 := hi.2
  rcases go with ⟨g1, _⟩ | ⟨g1, k, k20, hk, g2, g3⟩
  · rw [h0] at g1
    exact absurd g1 (by decide)
  · have hgn : ¬ (x 2).toNatClampNeg = gl := fun w => hg (kl_eq hx hgg (w.trans hgl))
    have e3 : (x' 2).toNatClampNeg = nF to k := congrArg Int32.toNatClampNeg g3
    refine ⟨by rw [e1, e2]; omega, h0, by rw [e3]; exact (hw k hk.1).2, fun l hl2 => ?_⟩
    rw [hl l hl2, es, e3, g2, bt_or, bt_1 (by omega), show 12 - i.toNatClampNeg = (12 - (i.toNatClampNeg + 1)) + 1 from by omega, way_s hgn hk (fun a b ha hb => st_fun ha hb)]
    constructor
    · rintro (h | h | h)
      · exact Or.inl (Or.inl h)
      · exact Or.inl (Or.inr h)
      · exact Or.inr h
    · rintro ((h | h) | h)
      · exact Or.inl h
      · exact Or.inr (Or.inl h)
      · exact Or.inr (Or.inr h)
theorem tk_g {S : Nat → Nat → Prop} {T : Nat → Nat} {gl m : Nat} {x : Nat → Int32} {h i gg : Int32} (hr : TkR S T gl m x h i) (hgl : gl = gg.toNatClampNeg) (hg : x 2 = gg) : TkE S T gl x := by
  intro l hl
  rw [hr.2.2.2 l hl, hg, ← hgl]
  exact ⟨Or.inl, fun w => w.resolve_right way_g⟩
theorem tk_l {S : Nat → Nat → Prop} {T : Nat → Nat} {gl m : Nat} {to x x' : Nat → Int32} {h i : Int32} (hr : TkR S T gl m x h i) (go : GoR S to x x') (h0 : ¬ x' 7 = 0) : TkE S T gl x' := by
  intro l hl
  rcases go with ⟨_, g2, g3⟩ | ⟨g1, _⟩
  · rw [g2, hr.2.2.2 l hl]
    exact ⟨Or.inl, fun w => w.resolve_right (way_n g3)⟩
  · exact absurd (g1.trans hr.2.1) h0
theorem tk_12 {S : Nat → Nat → Prop} {T : Nat → Nat} {gl m : Nat} {x : Nat → Int32} {h i : Int32} (hr : TkR S T gl m x h i) (hi : iv 0 12 i) (h12 : 12 ≤ i) : TkE S T gl x := by
  intro l hl
  have h12 := Int32.le_iff_toInt_le.mp h12
  rw [show ((12 : Int32)).toInt = 12 from by decide] at h12
  have q := cl_nat hi (by decide)
  rw [hr.2.2.2 l hl, show 12 - i.toNatClampNeg = 0 from by omega]
  exact ⟨Or.inl, fun w => w.resolve_right (fun w => w)⟩
/-! the links that are wanted -/
def LwR (W : Nat → Prop) (b : Int32) (i : Nat) : Prop := ∀ l, l < 32 → (bt b l ↔ (l < i ∧ W l))
theorem lw_0 {W : Nat → Prop} : LwR W 0 ((0 : Int32)).toNatClampNeg := by
  rw [kz0]
  exact fun l _ => ⟨fun h => absurd h bt_zz, fun h => absurd h.1 (Nat.not_lt_zero l)⟩
theorem lw_y {W : Nat → Prop} {b i : Int32} (h : LwR W b i.toNatClampNeg) (hi : iv 0 19 i) (hw : W i.toNatClampNeg) : LwR W (b ||| (1 <<< ((i : Int32) &&& 31))) (i + Int32.ofInt 1).toNatClampNeg := by
  intro l hl
  rw [bt_or, h l hl, bt_1' hi (by decide), kl_s hi (by decide)]
  constructor
  · rintro (⟨h1, h2⟩ | h1)
    · exact ⟨by omega, h2⟩
    · exact ⟨by omega, h1 ▸ hw⟩
  · rintro ⟨h1, h2⟩
    by_cases e : l = i.toNatClampNeg
    · exact Or.inr e
    · exact Or.inl ⟨by omega, h2⟩
theorem lw_n {W : Nat → Prop} {b i : Int32} (h : LwR W b i.toNatClampNeg) (hi : iv 0 19 i) (hw : ¬ W i.toNatClampNeg) : LwR W b (i + Int32.ofInt 1).toNatClampNeg := by
  intro l hl
  rw [h l hl, kl_s hi (by decide)]
  constructor
  · rintro ⟨h1, h2⟩
    exact ⟨by omega, h2⟩
  · rintro ⟨h1, h2⟩
    by_cases e : l = i.toNatClampNeg
    · exact absurd (e ▸ h2) hw
    · exact ⟨by omega, h2⟩
theorem or_z (b : Int32) : b ||| 0 = b := by
  apply Int32.toBitVec_inj.mp
  rw [Int32.toBitVec_or]
  exact BitVec.or_zero
theorem lw_e {W : Nat → Prop} {b i x : Int32} (h : LwR W b i.toNatClampNeg) (hi : iv 0 20 i) (hx : iv 0 20 x) (he : x ≤ i) (hW : ∀ l, W l → l < x.toNatClampNeg) : ∀ l, l < 32 → (bt b l ↔ W l) := by
  have hc := kl_le hi hx he
  intro l hl
  rw [h l hl]
  exact ⟨fun w => w.2, fun w => ⟨by have := hW l w; omega, w⟩⟩
/-! the ports, one by one -/
def CvR (W : Nat → Prop) (O : Nat → Nat → Prop) (w : Int32) (p : Nat) : Prop := (∀ l, l < 32 → (bt w l ↔ (W l ∧ ∀ q, q < p → ¬ O q l))) ∧ ∀ q, q < p → ¬ covd W O q
theorem cv_0 {W : Nat → Prop} {O : Nat → Nat → Prop} {w : Int32} (h : ∀ l, l < 32 → (bt w l ↔ W l)) : CvR W O w ((0 : Int32)).toNatClampNeg := by
  rw [kz0]
  refine ⟨fun l hl => ?_, fun q hq => absurd hq (Nat.not_lt_zero q)⟩
  rw [h l hl]
  exact ⟨fun h => ⟨h, fun q hq => absurd hq (Nat.not_lt_zero q)⟩, fun h => h.1⟩
theorem cv_nz {W : Nat → Prop} {O : Nat → Nat → Prop} {w : Int32} {p : Nat} (h : CvR W O w p) (hw : ¬ w = 0) : ¬ covd W O p := by
  intro hc
  apply hw
  apply bt_z
  intro k hk hb
  obtain ⟨h1, h2⟩ := (h.1 k hk).mp hb
  obtain ⟨q, hq, ho⟩ := hc k h1
  exact h2 q hq ho
theorem cv_z {W : Nat → Prop} {O : Nat → Nat → Prop} {p : Nat} (h : CvR W O 0 p) (hW : ∀ l, W l → l < 32) : covd W O p := by
  intro l hl
  rcases Classical.em (∃ q, q < p ∧ O q l) with w | w
  · exact w
  · exact absurd ((h.1 l (hW l hl)).mpr ⟨hl, fun q hq ho => w ⟨q, hq, ho⟩⟩) bt_zz
theorem cv_s {W : Nat → Prop} {O : Nat → Nat → Prop} {w v : Int32} {p : Nat} (h : CvR W O w p) (hw : ¬ w = 0) (hv : ∀ l, l < 32 → (bt v l ↔ O p l)) : CvR W O (w &&& (v ^^^ (-1))) (p + 1) := by
  refine ⟨fun l hl => ?_, fun q hq => ?_⟩
  · rw [bt_an hl, h.1 l hl, hv l hl]
    constructor
    · rintro ⟨⟨h1, h2⟩, h3⟩
      refine ⟨h1, fun q hq => ?_⟩
      by_cases e : q = p
      · rw [e]
        exact h3
      · exact h2 q (by omega)
    · rintro ⟨h1, h2⟩
      exact ⟨⟨h1, fun q hq => h2 q (by omega)⟩, h2 p (by omega)⟩
  · by_cases e : q = p
    · rw [e]
      exact cv_nz h hw
    · exact h.2 q (by omega)
theorem cv_p {W : Nat → Prop} {O : Nat → Nat → Prop} {w p : Int32} (h : CvR W O w p.toNatClampNeg) (hp : iv 0 32 p) (hw : w = 0) (hW : ∀ l, W l → l < 32) : CovT W O p := by
  subst hw
  have q := kl_b hp
  exact Or.inl ⟨p.toNatClampNeg, by omega, iv_nk hp (by decide), cv_z h hW, h.2⟩
theorem cv_32 {p : Int32} (hp : iv 0 32 p) (h : 32 ≤ p) : p.toNatClampNeg = 32 := by
  have h := Int32.le_iff_toInt_le.mp h
  rw [show ((32 : Int32)).toInt = 32 from by decide] at h
  have q := cl_nat hp (by decide)
  have h2 := hp.2
  omega
theorem cv_y {W : Nat → Prop} {O : Nat → Nat → Prop} {w p : Int32} (h : CvR W O w p.toNatClampNeg) (hp : iv 0 32 p) (h32 : 32 ≤ p) (hw : w = 0) (hW : ∀ l, W l → l < 32) : CovT W O 32 := by
  have e := cv_32 hp h32
  rw [e] at h
  subst hw
  exact Or.inl ⟨32, Nat.le_refl _, rfl, cv_z h hW, h.2⟩
theorem cv_x {W : Nat → Prop} {O : Nat → Nat → Prop} {w p : Int32} (h : CvR W O w p.toNatClampNeg) (hp : iv 0 32 p) (h32 : 32 ≤ p) (hw : ¬ w = 0) : CovT W O (-1) := by
  have e := cv_32 hp h32
  rw [e] at h
  exact Or.inr ⟨rfl, cv_nz h hw⟩
