/-! the class's step -/
abbrev bI (B : Nat → Int32) : Prop := fI (fun _ => -128) (fun _ => 127) B
def KpC (x y : Nat → Int32) : Prop := y 0 = x 0 ∧ y 2 = x 2 ∧ y 6 = x 6
def K16 (T : Nat → Int32) (n : Int32) (x y : Nat → Int32) : Prop := KpC x y ∧ RunP (blT T) n.toInt (x 5).toInt (y 4).toInt
def K68 (T : Nat → Int32) (n : Int32) (x y : Nat → Int32) : Prop := KpC x y ∧ RunT (blT T) n.toInt (x 5).toInt (y 4).toInt
def K115 (T : Nat → Int32) (n : Int32) (x y : Nat → Int32) : Prop := K68 T n x y ∧ ¬ n ≤ y 4 ∧ ¬ isLt (T (y 4).toNatClampNeg) = 0 ∧ RunP (ltT T) n.toInt (y 4).toInt (y 5).toInt
def K174 (T : Nat → Int32) (n : Int32) (x y : Nat → Int32) : Prop := K68 T n x y ∧ ¬ n ≤ y 4 ∧ isLt (T (y 4).toNatClampNeg) = 0 ∧ ¬ isDg (T (y 4).toNatClampNeg) = 0 ∧ RunP (dgT T) n.toInt (y 4).toInt (y 5).toInt
theorem st_n {T x y : Nat → Int32} {n lt : Int32} {s : StT} (hR : RC T n lt x s) (hk : KpC x y) : y 2 = n := hk.2.1.trans hR.2.1
theorem st_0 {T x : Nat → Int32} {n : Int32} : K16 T n x (upd x 4 (x 5)) := ⟨⟨rfl, rfl, rfl⟩, rp_0⟩
theorem st_bl {B T x y : Nat → Int32} {n lt : Int32} {s : StT} (hR : RC T n lt x s) (hTB : T = mskT B) (hB : bI B) (hk : K16 T n x y) (hy : iv 0 700 (y 4)) (hl : y 4 < y 2) (hc : B (y 4).toNatClampNeg = 32 ∨ B (y 4).toNatClampNeg = 10) : K16 T n x (upd y 4 (y 4 + 1)) := by
  refine ⟨hk.1, rp_s hy hk.2 ?_ (by rw [← st_n hR hk.1]; exact hl)⟩
  subst hTB
  rcases hc with hc | hc
  · exact Or.inl ((ms_p (hB _)).1.mpr hc)
  · exact Or.inr ((ms_p (hB _)).2.1.mpr hc)
theorem st_68a {T x y : Nat → Int32} {n lt : Int32} {s : StT} (hR : RC T n lt x s) (hk : K16 T n x y) (hy : iv 0 700 (y 4)) (hl : y 2 ≤ y 4) : K68 T n x y :=
  ⟨hk.1, rp_t hy hk.2 (Or.inl (by rw [← st_n hR hk.1]; exact hl))⟩
theorem st_68b {B T x y : Nat → Int32} {n : Int32} (hTB : T = mskT B) (hB : bI B) (hk : K16 T n x y) (hy : iv 0 700 (y 4)) (h1 : ¬ B (y 4).toNatClampNeg = 32) (h2 : ¬ B (y 4).toNatClampNeg = 10) : K68 T n x y := by
  subst hTB
  refine ⟨hk.1, rp_t hy hk.2 (Or.inr fun w => ?_)⟩
  rcases w with w | w
  · exact h1 ((ms_p (hB _)).1.mp w)
  · exact h2 ((ms_p (hB _)).2.1.mp w)
theorem st_end {T x y : Nat → Int32} {n lt : Int32} {s : StT} (hR : RC T n lt x s) (h0 : x 1 = 0) (hx5 : iv 0 700 (x 5)) (hk : K68 T n x y) (hy1 : y 1 = 0) (hl : y 2 ≤ y 4) : RC T n lt (upd (upd y 5 (y 4)) 3 0) (nextT T n s) := by
  refine rdc_step hR h0 hy1 hk.1.1 hk.1.2.1 hk.1.2.2 (tk_end hx5.1 hk.2 (by rw [← st_n hR hk.1]; exact hl)) ?_
  intro w
  exact absurd (show (0 : Int32) = 2 from w) (by decide)
theorem st_115 {B T x y : Nat → Int32} {n lt : Int32} {s : StT} (hR : RC T n lt x s) (hTB : T = mskT B) (hB : bI B) (hk : K68 T n x y) (hl : ¬ y 2 ≤ y 4) (hc : ¬ isLt (B (y 4).toNatClampNeg) = 0) : K115 T n x (upd (upd y 5 (y 4)) 3 1) := by
  refine ⟨hk, by rw [← st_n hR hk.1]; exact hl, ?_, rp_0⟩
  subst hTB
  exact fun w => hc ((ms_p (hB _)).2.2.2.1 ▸ w)
theorem st_115s {B T x y : Nat → Int32} {n lt : Int32} {s : StT} (hR : RC T n lt x s) (hTB : T = mskT B) (hB : bI B) (hk : K115 T n x y) (hy : iv 0 700 (y 5)) (hl : y 5 < y 2) (hc : ¬ isLt (B (y 5).toNatClampNeg) = 0) : K115 T n x (upd y 5 (y 5 + 1)) := by
  refine ⟨hk.1, hk.2.1, hk.2.2.1, rp_s hy hk.2.2.2 ?_ (by rw [← st_n hR hk.1.1]; exact hl)⟩
  subst hTB
  exact fun w => hc ((ms_p (hB _)).2.2.2.1 ▸ w)
theorem st_wt {T x y : Nat → Int32} {n lt : Int32} {s : StT} (hR : RC T n lt x s) (h0 : x 1 = 0) (hx5 : iv 0 700 (x 5)) (hk : K115 T n x y) (hy1 : y 1 = 0) (hy3 : y 3 = 1) (hy4 : iv 0 700 (y 4)) (hy : iv 0 700 (y 5)) (hs : n ≤ y 5 ∨ ¬ ltT T (y 5).toNatClampNeg) : RC T n lt y (nextT T n s) := by
  have q := tk_lt hx5.1 hk.1.2 hk.2.1 hy4.1 hk.2.2.1 (rp_t hy hk.2.2.2 hs)
  refine rdc_step hR h0 hy1 hk.1.1.1 hk.1.1.2.1 hk.1.1.2.2 (by rw [hy3]; exact q) ?_
  intro w
  rw [hy3] at w
  exact absurd (show (1 : Int32) = 2 from w) (by decide)
theorem st_wa {T x y : Nat → Int32} {n lt : Int32} {s : StT} (hR : RC T n lt x s) (h0 : x 1 = 0) (hx5 : iv 0 700 (x 5)) (hk : K115 T n x y) (hy1 : y 1 = 0) (hy3 : y 3 = 1) (hy4 : iv 0 700 (y 4)) (hy : iv 0 700 (y 5)) (hl : y 2 ≤ y 5) : RC T n lt y (nextT T n s) :=
  st_wt hR h0 hx5 hk hy1 hy3 hy4 hy (Or.inl (by rw [← st_n hR hk.1.1]; exact hl))
theorem st_wb {B T x y : Nat → Int32} {n lt : Int32} {s : StT} (hR : RC T n lt x s) (hTB : T = mskT B) (hB : bI B) (h0 : x 1 = 0) (hx5 : iv 0 700 (x 5)) (hk : K115 T n x y) (hy1 : y 1 = 0) (hy3 : y 3 = 1) (hy4 : iv 0 700 (y 4)) (hy : iv 0 700 (y 5)) (hc : isLt (B (y 5).toNatClampNeg) = 0) : RC T n lt y (nextT T n s) :=
  st_wt hR h0 hx5 hk hy1 hy3 hy4 hy (Or.inr (by subst hTB; exact not_not_intro ((ms_p (hB _)).2.2.2.1.trans hc)))
theorem st_174 {B T x y : Nat → Int32} {n lt : Int32} {s : StT} (hR : RC T n lt x s) (hTB : T = mskT B) (hB : bI B) (hk : K68 T n x y) (hl : ¬ y 2 ≤ y 4) (hc : isLt (B (y 4).toNatClampNeg) = 0) (hd : ¬ isDg (B (y 4).toNatClampNeg) = 0) : K174 T n x (upd (upd y 5 (y 4)) 3 2) := by
  refine ⟨hk, by rw [← st_n hR hk.1]; exact hl, ?_, ?_, rp_0⟩
  · subst hTB
    exact (ms_p (hB _)).2.2.2.1.trans hc
  · subst hTB
    exact fun w => hd ((ms_p (hB _)).2.2.2.2.1 ▸ w)
theorem st_174s {B T x y : Nat → Int32} {n lt : Int32} {s : StT} (hR : RC T n lt x s) (hTB : T = mskT B) (hB : bI B) (hk : K174 T n x y) (hy : iv 0 700 (y 5)) (hl : y 5 < y 2) (hc : ¬ isDg (B (y 5).toNatClampNeg) = 0) : K174 T n x (upd y 5 (y 5 + 1)) := by
  refine ⟨hk.1, hk.2.1, hk.2.2.1, hk.2.2.2.1, rp_s hy hk.2.2.2.2 ?_ (by rw [← st_n hR hk.1.1]; exact hl)⟩
  subst hTB
  exact fun w => hc ((ms_p (hB _)).2.2.2.2.1 ▸ w)
theorem st_dt {T x y : Nat → Int32} {n lt : Int32} {s : StT} (hR : RC T n lt x s) (h0 : x 1 = 0) (hx5 : iv 0 700 (x 5)) (hk : K174 T n x y) (hy1 : y 1 = 0) (hy3 : y 3 = 2) (hy4 : iv 0 700 (y 4)) (hy : iv 0 700 (y 5)) (hs : n ≤ y 5 ∨ ¬ dgT T (y 5).toNatClampNeg) : RC T n lt y (nextT T n s) := by
  have q := tk_dg hx5.1 hk.1.2 hk.2.1 hy4.1 hk.2.2.1 hk.2.2.2.1 (rp_t hy hk.2.2.2.2 hs)
  refine rdc_step hR h0 hy1 hk.1.1.1 hk.1.1.2.1 hk.1.1.2.2 (by rw [hy3]; exact q) ?_
  intro _ i h1 h2
  exact hk.2.2.2.2.2.2 i h1 h2
theorem st_da {T x y : Nat → Int32} {n lt : Int32} {s : StT} (hR : RC T n lt x s) (h0 : x 1 = 0) (hx5 : iv 0 700 (x 5)) (hk : K174 T n x y) (hy1 : y 1 = 0) (hy3 : y 3 = 2) (hy4 : iv 0 700 (y 4)) (hy : iv 0 700 (y 5)) (hl : y 2 ≤ y 5) : RC T n lt y (nextT T n s) :=
  st_dt hR h0 hx5 hk hy1 hy3 hy4 hy (Or.inl (by rw [← st_n hR hk.1.1]; exact hl))
theorem st_db {B T x y : Nat → Int32} {n lt : Int32} {s : StT} (hR : RC T n lt x s) (hTB : T = mskT B) (hB : bI B) (h0 : x 1 = 0) (hx5 : iv 0 700 (x 5)) (hk : K174 T n x y) (hy1 : y 1 = 0) (hy3 : y 3 = 2) (hy4 : iv 0 700 (y 4)) (hy : iv 0 700 (y 5)) (hc : isDg (B (y 5).toNatClampNeg) = 0) : RC T n lt y (nextT T n s) :=
  st_dt hR h0 hx5 hk hy1 hy3 hy4 hy (Or.inr (by subst hTB; exact not_not_intro ((ms_p (hB _)).2.2.2.2.1.trans hc)))
theorem st_sg {B T x y : Nat → Int32} {n lt : Int32} {s : StT} {t : Int32} (hR : RC T n lt x s) (hTB : T = mskT B) (hB : bI B) (h0 : x 1 = 0) (hx5 : iv 0 700 (x 5)) (hk : K68 T n x y) (hy1 : y 1 = 0) (hl : ¬ y 2 ≤ y 4) (hc : isLt (B (y 4).toNatClampNeg) = 0) (hd : isDg (B (y 4).toNatClampNeg) = 0) (ht : (B (y 4).toNatClampNeg = 59 ∧ t = 3) ∨ (¬ B (y 4).toNatClampNeg = 59 ∧ t = 4)) : RC T n lt (upd (upd (upd y 5 (y 4)) 3 t) 5 (y 4 + 1)) (nextT T n s) := by
  subst hTB
  have q1 : isLt (mskT B (y 4).toNatClampNeg) = 0 := (ms_p (hB _)).2.2.2.1.trans hc
  have q2 : isDg (mskT B (y 4).toNatClampNeg) = 0 := (ms_p (hB _)).2.2.2.2.1.trans hd
  have q3 : t = if mskT B (y 4).toNatClampNeg = 59 then 3 else 4 := by
    rcases ht with ⟨h1, h2⟩ | ⟨h1, h2⟩
    · rw [if_pos (show mskT B (y 4).toNatClampNeg = 59 from (ms_p (hB _)).2.2.1.mpr h1)]
      exact h2
    · rw [if_neg (show ¬ mskT B (y 4).toNatClampNeg = 59 from fun w => h1 ((ms_p (hB _)).2.2.1.mp w))]
      exact h2
  have q := tk_sg hx5.1 hk.2 (by rw [← st_n hR hk.1]; exact hl) q1 q2 q3
  refine rdc_step hR h0 hy1 hk.1.1 hk.1.2.1 hk.1.2.2 q ?_
  intro w
  have w : t = 2 := w
  rcases ht with ⟨_, h2⟩ | ⟨_, h2⟩
  · rw [h2] at w
    exact absurd w (by decide)
  · rw [h2] at w
    exact absurd w (by decide)
/-! the class's numbers -/
def NumR (T : Nat → Int32) (b e i v : Int32) : Prop := (i = b ∧ v = 0) ∨ (i = b + 1 ∧ v = T b.toNatClampNeg - 48 ∧ b < e) ∨ (i = b + 2 ∧ v = (T b.toNatClampNeg - 48) * 10 + (T (b + 1).toNatClampNeg - 48) ∧ b + 1 < e)
theorem nb_0 {T : Nat → Int32} {b e : Int32} : NumR T b e b 0 := Or.inl ⟨rfl, rfl⟩
theorem dg_B {B T : Nat → Int32} (hTB : T = mskT B) (hB : bI B) {i : Nat} (h : dgT T i) : T i = B i := by
  subst hTB
  have q := ms_p (hB i)
  rcases q.2.2.2.2.2 with w | w
  · exact absurd (q.2.2.2.2.1.trans w) h
  · exact w
theorem nb_s {B T : Nat → Int32} {b e i v : Int32} (hTB : T = mskT B) (hB : bI B) (hd : ∀ j : Nat, b.toInt ≤ (j : Int) → (j : Int) < e.toInt → dgT T j) (hb : iv 0 700 b) (he : iv 0 700 e) (h : NumR T b e i v) (hi : i < e) (hle : e - b ≤ 2) : NumR T b e (i + Int32.ofInt 1) (v * 10 + (B i.toNatClampNeg - 48)) := by
  have hi' := Int32.lt_iff_toInt_lt.mp hi
  have hl := Int32.le_iff_toInt_le.mp hle
  rw [iv_sub0 he hb (by decide) (by decide), show ((2 : Int32)).toInt = 2 from by decide] at hl
  have q1 := cl_nat hb (by decide)
  have qb1 : (b + 1).toInt = b.toInt + 1 := iv_addc hb (c := 1) (by decide) (by decide) (by decide)
  have qb2 : (b + 2).toInt = b.toInt + 2 := iv_addc hb (c := 2) (by decide) (by decide) (by decide)
  have e1 : Int32.ofInt 1 = 1 := by decide
  rcases h with ⟨h1, h2⟩ | ⟨h1, h2, h3⟩ | ⟨h1, _⟩
  · subst h1
    refine Or.inr (Or.inl ⟨by rw [e1], ?_, hi⟩)
    rw [h2, dg_B hTB hB (hd _ (by omega) (by omega))]
    simp
  · subst h1
    refine Or.inr (Or.inr ⟨?_, ?_, hi⟩)
    · rw [e1]
      apply Int32.toInt_inj.mp
      rw [qb2, iv_addc (a := 1) (b := 701) (x := b + 1) ⟨by omega, by have := hb.2; omega⟩ (c := 1) (by decide) (by decide) (by decide), qb1]
      omega
    · rw [h2]
      have hb1 : iv 1 701 (b + 1) := ⟨by have := hb.1; omega, by have := hb.2; omega⟩
      have q2 := cl_nat hb1 (by decide)
      rw [dg_B hTB hB (hd (b + 1).toNatClampNeg (by omega) (by omega))]
  · subst h1
    omega
theorem nb_e {T : Nat → Int32} {b e i v : Int32} (hb : iv 0 700 b) (he : iv 0 700 e) (h : NumR T b e i v) (hi : e ≤ i) : v = valT T b e := by
  have hi' := Int32.le_iff_toInt_le.mp hi
  have qb1 : (b + 1).toInt = b.toInt + 1 := iv_addc hb (c := 1) (by decide) (by decide) (by decide)
  have qb2 : (b + 2).toInt = b.toInt + 2 := iv_addc hb (c := 2) (by decide) (by decide) (by decide)
  have qe : (e - b).toInt = e.toInt - b.toInt := iv_sub0 he hb (by decide) (by decide)
  have k1 : (1 : Int32).toInt = 1 := by decide
  have k2 : (2 : Int32).toInt = 2 := by decide
  unfold valT
  rcases h with ⟨h1, h2⟩ | ⟨h1, h2, h3⟩ | ⟨h1, h2, h3⟩
  · subst h1
    rw [if_neg (fun w => by have w := congrArg Int32.toInt w; omega), if_neg (fun w => by have w := congrArg Int32.toInt w; omega)]
    exact h2
  · subst h1
    have h3 := Int32.lt_iff_toInt_lt.mp h3
    rw [if_pos (Int32.toInt_inj.mp (by omega))]
    exact h2
  · subst h1
    have h3 := Int32.lt_iff_toInt_lt.mp h3
    rw [if_neg (fun w => by have w := congrArg Int32.toInt w; omega), if_pos (Int32.toInt_inj.mp (by omega))]
    exact h2
theorem nb_f1 {T x : Nat → Int32} {n lt lo hi : Int32} {s : StT} (h : RC T n lt x s) (h3 : ¬ x 3 = 2) : failT 1 s = numT T lo hi s := by
  obtain ⟨h, _⟩ := h
  rcases s with q | k
  · rfl
  · obtain ⟨_, _, h4, _⟩ := h
    show Sum.inl (1, k.2.1) = numK T lo hi k
    unfold numK
    rw [if_pos (fun w => h3 (h4.trans w))]
theorem nb_f2 {T x : Nat → Int32} {n lt lo hi : Int32} {s : StT} (h : RC T n lt x s) (h3 : x 3 = 2) (h4 : 2 < x 5 - x 4) : failT 2 s = numT T lo hi s := by
  obtain ⟨h, _⟩ := h
  rcases s with q | k
  · rfl
  · obtain ⟨_, _, h5, h6, h7, _⟩ := h
    show Sum.inl (2, k.2.1) = numK T lo hi k
    unfold numK
    rw [if_neg (not_not_intro (h5.symm.trans h3)), if_pos (by rw [← h6, ← h7]; exact h4)]
theorem nb_f3 {T x : Nat → Int32} {n lt lo hi v : Int32} {s : StT} (h : RC T n lt x s) (h3 : x 3 = 2) (h4 : x 5 - x 4 ≤ 2) (hv : okT s → v = valT T (x 4) (x 5)) (hq : v < lo ∨ hi < v) : failT 2 s = numT T lo hi s := by
  obtain ⟨h, _⟩ := h
  rcases s with q | k
  · rfl
  · obtain ⟨_, _, h5, h6, h7, _⟩ := h
    have hv := hv (ok_r k)
    show Sum.inl (2, k.2.1) = numK T lo hi k
    unfold numK
    rw [if_neg (not_not_intro (h5.symm.trans h3)), if_neg (by rw [← h6, ← h7]; exact Int32.not_lt.mpr h4), if_pos (by rw [← h6, ← h7, ← hv]; exact hq)]
theorem nb_ok {T x : Nat → Int32} {n lt lo hi v : Int32} {s : StT} (h : RC T n lt x s) (h3 : x 3 = 2) (h4 : x 5 - x 4 ≤ 2) (hv : okT s → v = valT T (x 4) (x 5)) (h1 : lo ≤ v) (h2 : v ≤ hi) : s = numT T lo hi s ∧ (okT s → v = valS T s) := by
  obtain ⟨h, _⟩ := h
  rcases s with q | k
  · exact ⟨rfl, fun w => (ok_l w).elim⟩
  · obtain ⟨_, _, h5, h6, h7, _⟩ := h
    have hv := hv (ok_r k)
    refine ⟨?_, fun _ => ?_⟩
    · show Sum.inr k = numK T lo hi k
      unfold numK
      rw [if_neg (not_not_intro (h5.symm.trans h3)), if_neg (by rw [← h6, ← h7]; exact Int32.not_lt.mpr h4), if_neg (by rw [← h6, ← h7, ← hv]; exact fun w => w.elim (fun w => absurd h1 (Int32.not_le.mpr w)) (fun w => absurd h2 (Int32.not_le.mpr w)))]
    · rw [hv, h6, h7]
      rfl
theorem rc_dg {T x : Nat → Int32} {n lt : Int32} {s : StT} (h : RC T n lt x s) (hs : okT s) (h3 : x 3 = 2) : ∀ i : Nat, (x 4).toInt ≤ (i : Int) → (i : Int) < (x 5).toInt → dgT T i := by
  obtain ⟨h, _⟩ := h
  obtain ⟨k, rfl⟩ := hs
  obtain ⟨_, _, h5, h6, h7, hd⟩ := h
  rw [h6, h7]
  exact hd (h5.symm.trans h3)
theorem rou_f {T x : Nat → Int32} {n lt c v : Int32} {s : StT} (h : RC T n lt x (numT T 0 11 s)) (h0 : x 1 = 0) (hv : okT (numT T 0 11 s) → v = valS T s) (hc : c ≤ v) : failT 3 (numT T 0 11 s) = rouT T c s := by
  have hk := rdc_ok h h0
  have hv := hv hk
  have hs := ok_num hk
  obtain ⟨k, rfl⟩ := hs
  obtain ⟨k2, hk2⟩ := hk
  have e : k2 = k := by
    have q : numK T 0 11 k = .inr k2 := hk2
    unfold numK at q
    split at q
    · cases q
    · split at q
      · cases q
      · split at q
        · cases q
        · cases q
          rfl
  subst e
  unfold rouT
  rw [hk2]
  show Sum.inl (3, k2.2.1) = if c ≤ valT T k2.2.1 k2.2.2 then Sum.inl (3, k2.2.1) else Sum.inr k2
  rw [if_pos (by rw [hv] at hc; exact hc)]
theorem num_id {T : Nat → Int32} {lo hi : Int32} {s : StT} (h : okT (numT T lo hi s)) : numT T lo hi s = s := by
  obtain ⟨k2, hk2⟩ := h
  rcases s with q | k
  · rfl
  · have q : numK T lo hi k = .inr k2 := hk2
    show numK T lo hi k = Sum.inr k
    unfold numK at q ⊢
    split at q
    · cases q
    · split at q
      · cases q
      · split at q
        · cases q
        · rename_i h1 h2 h3
          rw [if_neg h1, if_neg h2, if_neg h3]
theorem rou_n {T x : Nat → Int32} {n lt c v : Int32} {s : StT} (h : RC T n lt x (numT T 0 11 s)) (hv : okT (numT T 0 11 s) → v = valS T s) (hc : ¬ x 1 = 0 ∨ v < c) : numT T 0 11 s = rouT T c s := by
  by_cases h0 : x 1 = 0
  · have hk := rdc_ok h h0
    have hv := hv hk
    have e := num_id hk
    unfold rouT
    rw [e]
    rw [e] at hk
    obtain ⟨k, rfl⟩ := hk
    show Sum.inr k = if c ≤ valT T k.2.1 k.2.2 then Sum.inl (3, k.2.1) else Sum.inr k
    rcases hc with hc | hc
    · exact absurd h0 hc
    · rw [if_neg (by rw [hv] at hc; exact Int32.not_le.mpr hc)]
  · have e := rdc_l h h0
    unfold rouT
    rw [e]
    rfl
/-! words -/
def WrdP (T : Nat → Int32) (ix : Nat) (b i : Int32) : Prop := ∀ j : Nat, (j : Int) < i.toInt - b.toInt → T (b.toNatClampNeg + j) = (bytL.getD ix []).getD j 0
theorem wd_0 {T : Nat → Int32} {ix : Nat} {b : Int32} : WrdP T ix b b := fun j hj => by omega
theorem by_lo : ∀ i : Nat, i < 10 → ∀ j : Nat, j < 7 → ∃ c : Nat, c < 128 ∧ (bytL.getD i []).getD j 0 = nI c := by decide +kernel
theorem by_sh : ∀ i : Nat, i < 10 → lenL.getD i 0 < 7 := by decide
theorem wd_at {B : Nat → Int32} {ix k : Nat} {m : Nat} (hB : bI B) (hi : ix < 10) (hj : m < lenL.getD ix 0) : (mskT B k = (bytL.getD ix []).getD m 0) ↔ (B k = (bytL.getD ix []).getD m 0) := by
  obtain ⟨c, hc, e⟩ := by_lo ix hi m (by have := by_sh ix hi; omega)
  rw [e]
  obtain ⟨q, hq, e2⟩ := iv_128 (hB k)
  unfold mskT
  rw [e2]
  exact ms_let c hc q hq
theorem wd_ix {st k : Int32} (hs : iv 0 700 st) (hk : iv 0 700 k) (h1 : st.toInt ≤ k.toInt) : ((k - st).toNatClampNeg : Int) = k.toInt - st.toInt ∧ k.toNatClampNeg = st.toNatClampNeg + (k - st).toNatClampNeg := by
  have e := iv_sub0 hk hs (by decide) (by decide)
  have q1 := cl_nat hs (by decide)
  have q2 := cl_nat hk (by decide)
  have h3 := hs.1
  have h4 := hk.2
  have q3 : iv 0 700 (k - st) := ⟨by omega, by omega⟩
  have q4 := cl_nat q3 (by decide)
  exact ⟨by omega, by omega⟩
theorem wd_s {B T : Nat → Int32} {ix : Nat} {b e i : Int32} (hTB : T = mskT B) (hB : bI B) (hi : ix < 10) (hb : iv 0 700 b) (he : iv 0 700 e) (hk : iv 0 699 i) (h1 : b.toInt ≤ i.toInt) (hl : e - b = nI (lenL.getD ix 0)) (hlt : i < e) (h : WrdP T ix b i) (hc : B i.toNatClampNeg = (bytL.getD ix []).getD (i - b).toNatClampNeg 0) : WrdP T ix b (i + Int32.ofInt 1) := by
  have hk7 : iv 0 700 i := iv_w hk (by decide) (by decide)
  obtain ⟨q1, q2⟩ := wd_ix hb hk7 h1
  have e1 : (i + Int32.ofInt 1).toInt = i.toInt + 1 := iv_inc 1 hk (by decide) (by decide) (by decide) (by decide)
  have hlt := Int32.lt_iff_toInt_lt.mp hlt
  have el := congrArg Int32.toInt hl
  rw [iv_sub0 he hb (by decide) (by decide), nI_toInt (by have := lenL_lt ix; omega)] at el
  intro j hj
  rw [e1] at hj
  by_cases hj2 : (j : Int) < i.toInt - b.toInt
  · exact h j hj2
  · have ej : j = (i - b).toNatClampNeg := by omega
    subst ej
    subst hTB
    rw [← q2]
    exact (wd_at hB hi (by omega)).mpr hc
theorem wd_no {B T : Nat → Int32} {ix : Nat} {t b e i : Int32} (hTB : T = mskT B) (hB : bI B) (hi : ix < 10) (hb : iv 0 700 b) (he : iv 0 700 e) (hk : iv 0 699 i) (h1 : b.toInt ≤ i.toInt) (hl : e - b = nI (lenL.getD ix 0)) (hlt : i < e) (hc : ¬ B i.toNatClampNeg = (bytL.getD ix []).getD (i - b).toNatClampNeg 0) : 0 = wB T ix (t, b, e) := by
  have hk7 : iv 0 700 i := iv_w hk (by decide) (by decide)
  obtain ⟨q1, q2⟩ := wd_ix hb hk7 h1
  have hlt := Int32.lt_iff_toInt_lt.mp hlt
  have el := congrArg Int32.toInt hl
  rw [iv_sub0 he hb (by decide) (by decide), nI_toInt (by have := lenL_lt ix; omega)] at el
  refine (wB_f fun w => hc ?_).symm
  have w := w.2.2 (i - b).toNatClampNeg (by omega)
  subst hTB
  have w : mskT B (b.toNatClampNeg + (i - b).toNatClampNeg) = _ := w
  rw [← q2] at w
  exact (wd_at hB hi (by omega)).mp w
theorem wd_n1 {T : Nat → Int32} {ix : Nat} {t b e : Int32} (h : ¬ t = 1) : 0 = wB T ix (t, b, e) := (wB_f fun w => h w.1).symm
theorem wd_n2 {T : Nat → Int32} {ix : Nat} {t b e : Int32} (h : ¬ e - b = nI (lenL.getD ix 0)) : 0 = wB T ix (t, b, e) := (wB_f fun w => h w.2.1).symm
theorem wd_y {T : Nat → Int32} {ix : Nat} {t b e i : Int32} (ht : t = 1) (hb : iv 0 700 b) (he : iv 0 700 e) (hl : e - b = nI (lenL.getD ix 0)) (hle : e ≤ i) (h : WrdP T ix b i) : 1 = wB T ix (t, b, e) := by
  refine (wB_t ⟨ht, hl, fun j hj => ?_⟩).symm
  have el := congrArg Int32.toInt hl
  rw [iv_sub0 he hb (by decide) (by decide), nI_toInt (by have := lenL_lt ix; omega)] at el
  have hle := Int32.le_iff_toInt_le.mp hle
  exact h j (by omega)
theorem chr_all : ∀ i : Nat, i < 10 → ∀ j : Nat, j < 7 → ((((bytL.getD i []).getD j 0 : Int32) &&& 255).toUInt32 % 65536).toInt32 = (bytL.getD i []).getD j 0 := by decide +kernel
theorem chr_eq {i : Nat} {k : Int32} (hi : i < 10) (hk : iv 0 699 k) (h : k < nI (lenL.getD i 0)) : ((((bytL.getD i []).getD k.toNatClampNeg 0 : Int32) &&& 255).toUInt32 % 65536).toInt32 = (bytL.getD i []).getD k.toNatClampNeg 0 := by
  have h := Int32.lt_iff_toInt_lt.mp h
  rw [nI_toInt (by have := lenL_lt i; omega)] at h
  have q := cl_nat hk (by decide)
  have := by_sh i hi
  exact chr_all i hi _ (by omega)
theorem wB_01 {T : Nat → Int32} {i : Nat} {k : TkT} : iv 0 1 (wB T i k) := by
  by_cases h : wrdT T i k
  · rw [wB_t h]
    exact ⟨by decide, by decide⟩
  · rw [wB_f h]
    exact ⟨by decide, by decide⟩
