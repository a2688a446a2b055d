/-! the reference's rows have their second half for what is read -/
def shT (h : Nat) (f : Nat → Int32) : Nat → Int32 := fun j => f (h + j)
theorem sh_x {h : Nat} {c i : Int32} (hc : c = nI h) (hh : h < 1000) (hi : iv 0 700 i) : (c + i).toNatClampNeg = h + i.toNatClampNeg := by
  subst hc
  have q := cl_nat hi (by decide)
  have hcv : iv 0 1000 (nI h) := iv_nIv (by omega) (by omega) (by omega)
  have e := iv_add0 hcv hi (by decide) (by decide)
  rw [nI_toInt (by omega)] at e
  have h1 := hi.1
  have h2 := hi.2
  have hs : iv 0 1700 (nI h + i) := ⟨by omega, by omega⟩
  have q2 := cl_nat hs (by decide)
  omega
theorem sh20 {f : Nat → Int32} {i : Int32} (hi : iv 0 700 i) : f (20 + i).toNatClampNeg = shT 20 f i.toNatClampNeg := by
  rw [sh_x (h := 20) (by decide) (by decide) hi]
  rfl
theorem sh3 {f : Nat → Int32} {i : Int32} (hi : iv 0 700 i) : f (3 + i).toNatClampNeg = shT 3 f i.toNatClampNeg := by
  rw [sh_x (h := 3) (by decide) (by decide) hi]
  rfl
theorem sh_upd {h : Nat} {f : Nat → Int32} {k : Nat} {v : Int32} : shT h (upd f (h + k) v) = upd (shT h f) k v := by
  funext j
  unfold shT upd
  by_cases q : j = k
  · subst q
    simp
  · have : ¬ h + j = h + k := by omega
    simp [q, this]
theorem ct_0 {f : Nat → Int32} {a n : Int32} (hn : iv 0 20 n) : (0 : Int32) = nI (cntT f a ((0 : Int32)).toNatClampNeg) ∧ ((0 : Int32)).toInt ≤ n.toInt := ⟨rfl, by rw [show ((0 : Int32)).toInt = 0 from by decide]; exact hn.1⟩
theorem ct_y {f : Nat → Int32} {a n b i : Int32} (h : b = nI (cntT (shT 20 f) a i.toNatClampNeg) ∧ i.toInt ≤ n.toInt) (hi : iv 0 19 i) (hl : i < n) (hc : f (20 + i).toNatClampNeg = a) : b + 1 = nI (cntT (shT 20 f) a (i + Int32.ofInt 1).toNatClampNeg) ∧ (i + Int32.ofInt 1).toInt ≤ n.toInt := by
  obtain ⟨q1, q2, q3⟩ := bt_i hi
  have hl := Int32.lt_iff_toInt_lt.mp hl
  rw [sh20 (f := f) (iv_w hi (by decide) (by decide))] at hc
  refine ⟨?_, by omega⟩
  rw [q1, h.1]
  show _ = nI (cntT (shT 20 f) a i.toNatClampNeg + if shT 20 f i.toNatClampNeg = a then 1 else 0)
  rw [if_pos hc, ← nI_add]
  rfl
theorem ct_n {f : Nat → Int32} {a n b i : Int32} (h : b = nI (cntT (shT 20 f) a i.toNatClampNeg) ∧ i.toInt ≤ n.toInt) (hi : iv 0 19 i) (hl : i < n) (hc : ¬ f (20 + i).toNatClampNeg = a) : b + 0 = nI (cntT (shT 20 f) a (i + Int32.ofInt 1).toNatClampNeg) ∧ (i + Int32.ofInt 1).toInt ≤ n.toInt := by
  obtain ⟨q1, q2, q3⟩ := bt_i hi
  have hl := Int32.lt_iff_toInt_lt.mp hl
  rw [sh20 (f := f) (iv_w hi (by decide) (by decide))] at hc
  refine ⟨?_, by omega⟩
  rw [q1, h.1]
  show _ = nI (cntT (shT 20 f) a i.toNatClampNeg + if shT 20 f i.toNatClampNeg = a then 1 else 0)
  rw [if_neg hc, ← nI_add]
  rfl
theorem ct_e {f : Nat → Int32} {a n b i : Int32} (h : b = nI (cntT f a i.toNatClampNeg) ∧ i.toInt ≤ n.toInt) (hl : n ≤ i) : b = nI (cntT f a n.toNatClampNeg) := by
  have hl := Int32.le_iff_toInt_le.mp hl
  have e : i = n := Int32.toInt_inj.mp (by have := h.2; omega)
  rw [h.1, e]
theorem ct_le (f : Nat → Int32) (a : Int32) : ∀ n : Nat, cntT f a n ≤ n := by
  intro n
  induction n with
  | zero => exact Nat.le_refl 0
  | succ n ih =>
    show cntT f a n + (if f n = a then 1 else 0) ≤ n + 1
    by_cases q : f n = a
    · rw [if_pos q]
      omega
    · rw [if_neg q]
      omega
theorem ct_iv {f : Nat → Int32} {a n : Int32} (hn : iv 0 20 n) : iv 0 20 (nI (cntT f a n.toNatClampNeg)) := by
  have q := cl_nat hn (by decide)
  have h2 := hn.2
  have h3 := ct_le f a n.toNatClampNeg
  exact iv_nIv (by omega) (by omega) (by omega)
theorem ct_4 {f : Nat → Int32} {a n : Int32} (hn : iv 0 20 n) (h : nI (cntT f a n.toNatClampNeg) = 4) : cntT f a n.toNatClampNeg = 4 := by
  have q := cl_nat hn (by decide)
  have h2 := hn.2
  have h3 := ct_le f a n.toNatClampNeg
  have h := congrArg Int32.toInt h
  rw [nI_toInt (by omega), show ((4 : Int32)).toInt = 4 from by decide] at h
  omega
theorem ct_4n {f : Nat → Int32} {a n : Int32} (h : ¬ nI (cntT f a n.toNatClampNeg) = 4) : ¬ cntT f a n.toNatClampNeg = 4 := fun w => h (by rw [w]; decide)
def HlR (f g : Nat → Int32) (c a b v i : Int32) : Prop := (v = 0 ∧ ∀ j : Nat, (j : Int) < i.toInt → ¬ (shT 20 f j = a ∧ shT 20 g j = b)) ∨ (v = 1 ∧ hasT (shT 20 f) (shT 20 g) c a b)
theorem hl_0 {f g : Nat → Int32} {c a b : Int32} : HlR f g c a b 0 0 := Or.inl ⟨rfl, al_0⟩
theorem hl_n {f g : Nat → Int32} {c a b v i : Int32} (h : HlR f g c a b v i) (hv : v = 0) (hi : iv 0 19 i) (hc : ¬ (f (20 + i).toNatClampNeg = a ∧ g (20 + i).toNatClampNeg = b)) : HlR f g c a b 0 (i + Int32.ofInt 1) := by
  have hi7 : iv 0 700 i := iv_w hi (by decide) (by decide)
  rw [sh20 (f := f) hi7, sh20 (f := g) hi7] at hc
  rcases h with h | h
  · exact Or.inl ⟨rfl, al_s h.2 (iv_w hi (by decide) (by decide)) hc⟩
  · rw [h.1] at hv
    exact absurd hv (by decide)
theorem hl_y {f g : Nat → Int32} {c a b i i' : Int32} (hi : iv 0 19 i) (hl : i < c) (h1 : f (20 + i).toNatClampNeg = a) (h2 : g (20 + i).toNatClampNeg = b) : HlR f g c a b 1 i' := by
  have hi7 : iv 0 700 i := iv_w hi (by decide) (by decide)
  rw [sh20 (f := f) hi7] at h1
  rw [sh20 (f := g) hi7] at h2
  exact Or.inr ⟨rfl, i.toNatClampNeg, by rw [cl_nat hi (by decide)]; exact Int32.lt_iff_toInt_lt.mp hl, h1, h2⟩
theorem hl_k {f g : Nat → Int32} {c a b v i i' : Int32} (h : HlR f g c a b v i) (hv : ¬ v = 0) : HlR f g c a b 1 i' := by
  rcases h with h | h
  · exact absurd h.1 hv
  · exact Or.inr ⟨rfl, h.2⟩
theorem hl_e {f g : Nat → Int32} {c a b v i : Int32} (h : HlR f g c a b v i) (hl : c ≤ i) : (v = 0 ∧ ¬ hasT (shT 20 f) (shT 20 g) c a b) ∨ (¬ v = 0 ∧ hasT (shT 20 f) (shT 20 g) c a b) := by
  rcases h with h | h
  · exact Or.inl ⟨h.1, fun ⟨j, hj, e⟩ => h.2 j (Int.lt_of_lt_of_le hj (Int32.le_iff_toInt_le.mp hl)) e⟩
  · exact Or.inr ⟨by rw [h.1]; decide, h.2⟩
/-! goals: the loop that looks for a goal that is one already -/
noncomputable def glK (f : Nat → Int32) (c r : Int32) (L : StT) : StT := iteT (gotT f c r) (failT 4 L) L
theorem gl_0 {f : Nat → Int32} {r : Int32} {L : StT} : L = glK f 0 r L := (iteT_f (fun ⟨j, hj, _⟩ => by
  rw [show ((0 : Int32)).toInt = 0 from by decide] at hj
  omega)).symm
theorem got_s {f : Nat → Int32} {k r : Int32} (hk : iv 0 699 k) : gotT f (k + Int32.ofInt 1) r ↔ (gotT f k r ∨ f k.toNatClampNeg = r) := by
  have e := iv_inc 1 hk (by decide) (by decide) (by decide) (by decide)
  have q := cl_nat hk (by decide)
  unfold gotT
  rw [e]
  constructor
  · rintro ⟨j, hj, h⟩
    by_cases w : (j : Int) < k.toInt
    · exact Or.inl ⟨j, w, h⟩
    · have : j = k.toNatClampNeg := by omega
      exact Or.inr (this ▸ h)
  · rintro (⟨j, hj, h⟩ | h)
    · exact ⟨j, by omega, h⟩
    · exact ⟨k.toNatClampNeg, by omega, h⟩
theorem gl_b {T x : Nat → Int32} {n k r : Int32} {f : Nat → Int32} {L : StT} (h : RRd T n x (glK f k r L)) (h0 : ¬ x 8 = 0) (hk : iv 0 699 k) : glK f k r L = glK f (k + Int32.ofInt 1) r L := by
  have e := rr_l h h0
  unfold glK at e ⊢
  by_cases q : gotT f k r
  · rw [iteT_t q, iteT_t ((got_s hk).mpr (Or.inl q))]
  · rw [iteT_f q] at e ⊢
    by_cases q2 : gotT f (k + Int32.ofInt 1) r
    · rw [iteT_t q2, e]
      rfl
    · rw [iteT_f q2]
theorem gl_n {T x : Nat → Int32} {n k r : Int32} {f : Nat → Int32} {L : StT} (h : RRd T n x (glK f k r L)) (h0 : x 8 = 0) (hk : iv 0 699 k) (hc : ¬ f k.toNatClampNeg = r) : glK f k r L = glK f (k + Int32.ofInt 1) r L := by
  have e := rr_ok h h0
  unfold glK at e ⊢
  obtain ⟨_, hn⟩ := ok_ite e
  rw [iteT_f hn, iteT_f (fun w => ((got_s hk).mp w).elim hn hc)]
theorem gl_y {T x : Nat → Int32} {n k r : Int32} {f : Nat → Int32} {L : StT} (h : RRd T n x (glK f k r L)) (h0 : x 8 = 0) (hk : iv 0 699 k) (hc : f k.toNatClampNeg = r) : failT 4 (glK f k r L) = glK f (k + Int32.ofInt 1) r L := by
  have e := rr_ok h h0
  unfold glK at e ⊢
  obtain ⟨_, hn⟩ := ok_ite e
  rw [iteT_f hn, iteT_t ((got_s hk).mpr (Or.inr hc))]
theorem gl_e {f : Nat → Int32} {k c r a : Int32} {L : StT} (hk : k = c) (hv : okT L → r = a) : glK f k r L = iteT (gotT f c a) (failT 4 L) L := by
  subst hk
  unfold glK
  rcases L with q | t
  · by_cases w : gotT f k r <;> by_cases w2 : gotT f k a
    · rw [iteT_t w, iteT_t w2]
    · rw [iteT_t w, iteT_f w2]
      rfl
    · rw [iteT_f w, iteT_t w2]
      rfl
    · rw [iteT_f w, iteT_f w2]
  · rw [hv (ok_r t)]
theorem ite_r {T x : Nat → Int32} {n c : Int32} {s : StT} {P : Prop} (h : RRd T n x s) (h0 : ¬ x 8 = 0) : s = iteT P (failT c s) s := by
  by_cases q : P
  · rw [iteT_t q, rr_l h h0]
    rfl
  · rw [iteT_f q]
theorem sr_a {T x : Nat → Int32} {n : Int32} {s : StT} (h : RRd T n x s) (h0 : ¬ x 8 = 0 ∨ x 4 = 3) : s = sgnT s := by
  rcases s with q | k
  · rfl
  · have e := rr_tri h
    rcases h0 with h0 | h0
    · obtain ⟨⟨h1, _⟩, _⟩ := h
      exact absurd h1 h0
    · show Sum.inr k = if k.1 = 3 then Sum.inr k else Sum.inl (1, k.2.1)
      rw [if_pos (by rw [← e]; exact h0)]
theorem sr_c {T x : Nat → Int32} {n : Int32} {s : StT} (h : RRd T n x s) (h0 : ¬ x 4 = 3) : failT 1 s = sgnT s := by
  rcases s with q | k
  · rfl
  · have e := rr_tri h
    show Sum.inl (1, k.2.1) = if k.1 = 3 then Sum.inr k else Sum.inl (1, k.2.1)
    rw [if_neg (by rw [← e]; exact h0)]
theorem rr_back {T x y : Nat → Int32} {n : Int32} {s : StT} (h : RRd T n x s) (h2 : RRd T n y (nextT T n s)) (h0 : y 8 = 0) : x 8 = 0 := by
  by_cases q : x 8 = 0
  · exact q
  · exact absurd (ok_next (rr_ok h2 h0)) (rr_no h q)
/-! kinds, manners -/
theorem kq_n {T : Nat → Int32} {s : StT} {v : Int32} (hv : v = whS T 4 s) (h : v = -1) : failT 1 s = kndT T s := by
  rcases s with q | k
  · rfl
  · rw [hv, wh_k] at h
    show Sum.inl (1, k.2.1) = if kndK T k = -1 then Sum.inl (1, k.2.1) else Sum.inr k
    rw [if_pos h]
theorem kq_y {T : Nat → Int32} {s : StT} {v : Int32} (hv : v = whS T 4 s) (h : ¬ v = -1) : s = kndT T s ∧ (okT (kndT T s) → v = kndS T s) := by
  rcases s with q | k
  · exact ⟨rfl, fun w => (ok_l w).elim⟩
  · rw [wh_k] at hv
    refine ⟨?_, fun _ => hv⟩
    show Sum.inr k = if kndK T k = -1 then Sum.inl (1, k.2.1) else Sum.inr k
    rw [if_neg (by rw [← hv]; exact h)]
theorem mq_b {T x : Nat → Int32} {n : Int32} {s : StT} (h : RRd T n x s) (h0 : ¬ x 8 = 0) : s = manT T n s := by
  rw [rr_l h h0]
  rfl
theorem mq_s {T x : Nat → Int32} {n : Int32} {s : StT} (h : RRd T n x s) (h0 : x 8 = 0) (hw : ¬ wS T 8 s = 0 ∨ ¬ wS T 9 s = 0) : nextT T n s = manT T n s := by
  obtain ⟨k, rfl⟩ := rr_ok h h0
  show Sum.inr (tokT T n k.2.2) = if manK T k = 0 then Sum.inr k else Sum.inr (tokT T n k.2.2)
  rw [if_neg]
  have hw : ¬ wB T 8 k = 0 ∨ ¬ wB T 9 k = 0 := hw
  by_cases q : wB T 8 k = 0
  · rcases hw with hw | hw
    · exact absurd q hw
    · rw [mk_2 q hw]
      decide
  · rw [mk_1 q]
    decide
theorem mq_0 {T x : Nat → Int32} {n : Int32} {s : StT} (h : RRd T n x s) (h0 : x 8 = 0) (h8 : wS T 8 s = 0) (h9 : wS T 9 s = 0) : s = manT T n s := by
  obtain ⟨k, rfl⟩ := rr_ok h h0
  show Sum.inr k = if manK T k = 0 then Sum.inr k else Sum.inr (tokT T n k.2.2)
  rw [if_pos (mk_0 h8 h9)]
theorem wS_1 {T : Nat → Int32} {i : Nat} {s : StT} (h : ¬ wS T i s = 0) : 1 = wS T i s := by
  rcases s with q | k
  · exact absurd rfl h
  · exact (wB_1 h).symm
theorem rt_in {T x : Nat → Int32} {n c : Int32} {s : StT} (h : RRd T n x s) (h0 : ¬ x 8 = 0) : s = rtrS T n s c := by
  rw [rr_l h h0]
  unfold rtrS
  by_cases q : c = 12
  · rw [iteT_t q]
    rfl
  · rw [iteT_f q]
    rfl
theorem lk_in {T x : Nat → Int32} {n c d : Int32} {f g : Nat → Int32} {s : StT} (h : RRd T n x s) (h0 : ¬ x 8 = 0) : s = lnkS T n s c d f g := by
  rw [rr_l h h0]
  unfold lnkS
  by_cases q : d = 20
  · rw [iteT_t q]
    rfl
  · rw [iteT_f q]
    have e : ∀ (P Q : Prop), (nextT T n (iteT P (failT 5 (rouT T c (nextT T n (iteT Q (failT 2 (rouT T c (nextT T n (.inl (x 8, x 9))))) (rouT T c (nextT T n (.inl (x 8, x 9)))))))) (rouT T c (nextT T n (iteT Q (failT 2 (rouT T c (nextT T n (.inl (x 8, x 9))))) (rouT T c (nextT T n (.inl (x 8, x 9))))))))) = Sum.inl (x 8, x 9) := by
      intro P Q
      by_cases q1 : Q
      · rw [iteT_t q1]
        by_cases q2 : P
        · rw [iteT_t q2]
          rfl
        · rw [iteT_f q2]
          rfl
      · rw [iteT_f q1]
        by_cases q2 : P
        · rw [iteT_t q2]
          rfl
        · rw [iteT_f q2]
          rfl
    exact (e _ _).symm
theorem go_in {T x : Nat → Int32} {n c d : Int32} {f : Nat → Int32} {s : StT} (h : RRd T n x s) (h0 : ¬ x 8 = 0) : s = golS T n s c d f := by
  rw [rr_l h h0]
  unfold golS
  by_cases q : d = 3
  · rw [iteT_t q]
    rfl
  · rw [iteT_f q]
    by_cases q2 : gotT f d (lnkA T n (.inl (x 8, x 9)))
    · rw [iteT_t q2]
      rfl
    · rw [iteT_f q2]
      rfl
/-! what the reference has read, as a net -/
def NR (t kd sa pa mu la fr to gl : Nat → Int32) : NtT := fun r k => if r = 0 then (if k = 0 then t 4 else if k = 1 then t 5 else if k = 2 then t 6 else if k = 3 then t 7 else if k = 4 then (if t 7 = -1 then 0 else 1) else 0) else if r = 1 then shT 12 kd k else if r = 2 then shT 12 sa k else if r = 3 then shT 12 pa k else if r = 4 then (if shT 12 mu k = 1 then 1 else if shT 12 la k = 1 then 2 else 0) else if r = 5 then shT 20 fr k else if r = 6 then shT 20 to k else if r = 7 then shT 3 gl k else 0
theorem upd_eq9 {f : Nat → Int32} {k : Nat} {v : Int32} : upd f k v k = v := by simp [upd]
theorem upd_ne9 {f : Nat → Int32} {k j : Nat} {v : Int32} (h : ¬ j = k) : upd f k v j = f j := by simp [upd, h]
theorem man_w {T : Nat → Int32} {s : StT} (h : okT s) : manS T s = if wS T 8 s = 1 then 1 else if wS T 9 s = 1 then 2 else 0 := by
  obtain ⟨k, rfl⟩ := h
  rfl
theorem nq_r {T t t' kd kd' sa sa' pa pa' mu mu' la la' fr to gl : Nat → Int32} {n : Int32} {k : TkT} (h : clsK T k = 0) (h4 : iv 0 20 (t 4)) (hok : okT (rtr4 T n (.inr k))) (hq : t' = upd t 4 (t 4 + 1) ∧ kd' = upd kd ((12 + (t 4)).toNatClampNeg) (kndS T (rtr1 T n (.inr k))) ∧ sa' = upd sa ((12 + (t 4)).toNatClampNeg) (valS T (rtr2 T n (.inr k))) ∧ pa' = upd pa ((12 + (t 4)).toNatClampNeg) (valS T (rtr3 T n (.inr k))) ∧ mu' = upd mu ((12 + (t 4)).toNatClampNeg) (wS T 8 (rtr4 T n (.inr k))) ∧ la' = upd la ((12 + (t 4)).toNatClampNeg) (wS T 9 (rtr4 T n (.inr k)))) : NR t' kd' sa' pa' mu' la' fr to gl = clsN T n k (NR t kd sa pa mu la fr to gl) := by
  obtain ⟨e1, e2, e3, e4, e5, e6⟩ := hq
  rw [sh_x (h := 12) (by decide) (by decide) (iv_w h4 (by decide) (by decide))] at e2 e3 e4 e5 e6
  subst e1 e2 e3 e4 e5 e6
  unfold clsN
  rw [if_pos h]
  have e00 : NR t kd sa pa mu la fr to gl 0 0 = t 4 := rfl
  unfold rtrN
  rw [e00]
  funext r j
  unfold NR putT
  rw [sh_upd, sh_upd, sh_upd, sh_upd, sh_upd, man_w hok]
  by_cases r0 : r = 0
  · subst r0
    by_cases j0 : j = 0
    · subst j0
      simp [upd]
    · simp [upd, j0]
  · by_cases r1 : r = 1
    · subst r1
      simp [upd]
    · by_cases r2 : r = 2
      · subst r2
        simp [upd]
      · by_cases r3 : r = 3
        · subst r3
          simp [upd]
        · by_cases r4 : r = 4
          · subst r4
            by_cases jj : j = (t 4).toNatClampNeg
            · subst jj
              simp [upd]
            · simp [upd, jj]
          · simp [r0, r1, r2, r3, r4]
theorem nq_l {T t t' kd sa pa mu la fr fr' to to' gl : Nat → Int32} {n : Int32} {k : TkT} (h : clsK T k = 1) (h5 : iv 0 20 (t 5)) (hq : t' = upd t 5 (t 5 + 1) ∧ fr' = upd fr ((20 + (t 5)).toNatClampNeg) (lnkA T n (.inr k)) ∧ to' = upd to ((20 + (t 5)).toNatClampNeg) (lnkB T n (.inr k) (t 4) (t 5) (shT 20 fr))) : NR t' kd sa pa mu la fr' to' gl = clsN T n k (NR t kd sa pa mu la fr to gl) := by
  obtain ⟨e1, e2, e3⟩ := hq
  rw [sh_x (h := 20) (by decide) (by decide) (iv_w h5 (by decide) (by decide))] at e2 e3
  subst e1 e2 e3
  unfold clsN
  rw [if_neg (by rw [h]; decide), if_pos h]
  have e5 : NR t kd sa pa mu la fr to gl 5 = shT 20 fr := rfl
  have e00 : NR t kd sa pa mu la fr to gl 0 0 = t 4 := rfl
  have e01 : NR t kd sa pa mu la fr to gl 0 1 = t 5 := rfl
  unfold lnkN
  rw [e5, e00, e01]
  funext r j
  unfold NR putT
  rw [sh_upd, sh_upd]
  by_cases r0 : r = 0
  · subst r0
    by_cases j0 : j = 1
    · subst j0
      simp [upd]
    · simp [upd, j0]
  · by_cases r1 : r = 5
    · subst r1
      simp [upd]
    · by_cases r2 : r = 6
      · subst r2
        simp [upd]
      · simp [r0, r1, r2]
theorem nq_g {T t t' kd sa pa mu la fr to gl gl' : Nat → Int32} {n : Int32} {k : TkT} (h : clsK T k = 2) (h6 : iv 0 20 (t 6)) (hq : t' = upd t 6 (t 6 + 1) ∧ gl' = upd gl ((3 + (t 6)).toNatClampNeg) (lnkA T n (.inr k))) : NR t' kd sa pa mu la fr to gl' = clsN T n k (NR t kd sa pa mu la fr to gl) := by
  obtain ⟨e1, e2⟩ := hq
  rw [sh_x (h := 3) (by decide) (by decide) (iv_w h6 (by decide) (by decide))] at e2
  subst e1 e2
  unfold clsN
  rw [if_neg (by rw [h]; decide), if_neg (by rw [h]; decide), if_pos h]
  have e02 : NR t kd sa pa mu la fr to gl 0 2 = t 6 := rfl
  unfold golN
  rw [e02]
  funext r j
  unfold NR putT
  rw [sh_upd]
  by_cases r0 : r = 0
  · subst r0
    by_cases j0 : j = 2
    · subst j0
      simp [upd]
    · simp [upd, j0]
  · by_cases r1 : r = 7
    · subst r1
      simp [upd]
    · simp [r0, r1]
theorem nq_o {T t t' kd sa pa mu la fr to gl : Nat → Int32} {n v : Int32} {k : TkT} (h : clsK T k = 3) (hv : iv 1 50 v) (hq : t' = upd t 7 v) (he : v = lnkA T n (.inr k)) : NR t' kd sa pa mu la fr to gl = clsN T n k (NR t kd sa pa mu la fr to gl) := by
  have hn : ¬ v = -1 := iv_ne hv (iv_k (by decide) (by decide) : iv (-1) (-1) (-1)) (by decide)
  subst hq
  unfold clsN
  rw [if_neg (by rw [h]; decide), if_neg (by rw [h]; decide), if_neg (by rw [h]; decide)]
  unfold losN
  rw [← he]
  funext r j
  unfold NR putT
  by_cases r0 : r = 0
  · subst r0
    by_cases j3 : j = 3
    · subst j3
      simp [upd]
    · by_cases j4 : j = 4
      · subst j4
        simp [upd, hn]
      · simp [upd, j3, j4]
  · simp [r0]
/-! the reference's loop over the clauses -/
def RunX (T : Nat → Int32) (n : Int32) (y : Nat → Int32) (s : StT) (N : NtT) (s0 : StT) (N0 : NtT) : Prop := ∃ j : Nat, j ≤ 700 ∧ (y 8 = 0 → ¬ y 4 = 0 → (j : Int) + 1 ≤ (y 2).toInt) ∧ ∀ f : Nat, RunR T n f s N (runN T n (j + f) s0 N0)
def FinR (T : Nat → Int32) (n : Int32) (s : StT) (N : NtT) (s0 : StT) (N0 : NtT) : Prop := (runN T n 700 s0 N0).1 = s ∧ (okT s → (runN T n 700 s0 N0).2 = N)
def stR (x : Nat → Int32) : StT := if x 8 = 0 then .inr (x 4, x 6, x 7) else .inl (x 8, x 9)
theorem str_eq {T x : Nat → Int32} {n : Int32} {s : StT} (h : RRd T n x s) : s = stR x := by
  unfold stR
  by_cases q : x 8 = 0
  · rw [if_pos q]
    exact (rr_r h q).1
  · rw [if_neg q]
    exact rr_l h q
theorem rx_e {T y : Nat → Int32} {n : Int32} {s s0 : StT} {N N0 : NtT} (h : RunX T n y s N s0 N0) (he : ∀ f, runN T n f s N = (s, N)) : FinR T n s N s0 N0 := by
  obtain ⟨j, h7, _, hj⟩ := h
  obtain ⟨q1, q2⟩ := runR_e (hj (700 - j)) (he _)
  rw [show j + (700 - j) = 700 from by omega] at q1 q2
  exact ⟨q1.symm, fun w => (q2 w).symm⟩
theorem rx_a {T y : Nat → Int32} {n : Int32} {k : TkT} {N0 : NtT} (h : RRd T n y (.inr k)) (hp : y 4 = 0 ∨ ((0 : Int32)).toInt + 1 ≤ (y 2).toInt) : RRd T n y (stR y) ∧ RunX T n y (stR y) N0 (.inr k) N0 := by
  rw [← str_eq h]
  refine ⟨h, 0, by omega, fun _ h4 => ?_, fun f => ?_⟩
  · rcases hp with hp | hp
    · exact absurd hp h4
    · rw [show ((0 : Int32)).toInt = 0 from by decide] at hp
      exact hp
  · rw [Nat.zero_add]
    exact ⟨rfl, fun _ => rfl⟩
theorem rx_k {T y : Nat → Int32} {n : Int32} (h : RRd T n y (stR y)) (h1 : y 8 = 0) : RRd T n y (.inr (y 4, y 6, y 7)) := by
  have e : stR y = .inr (y 4, y 6, y 7) := if_pos h1
  rw [← e]
  exact h
theorem rx_b {T y y' : Nat → Int32} {n : Int32} {N N' N0 : NtT} {s0 : StT} (h : RRd T n y (stR y) ∧ RunX T n y (stR y) N s0 N0) (h1 : y 8 = 0) (h3 : ¬ y 4 = 0) (h2 : iv 0 700 (y 2)) (h' : RRd T n y' (clsS T n (y 4, y 6, y 7) N)) (hN : y' 8 = 0 → N' = clsN T n (y 4, y 6, y 7) N) (hp : ¬ y' 8 = 0 ∨ y' 4 = 0 ∨ (y 2).toInt + 1 ≤ (y' 2).toInt) : RRd T n y' (stR y') ∧ RunX T n y' (stR y') N' s0 N0 := by
  have e : stR y = .inr (y 4, y 6, y 7) := if_pos h1
  have e' := str_eq h'
  obtain ⟨hR, j, h7, hj1, hj⟩ := h
  rw [e] at hj
  have hj2 := hj1 h1 h3
  have hb := h2.2
  refine ⟨e' ▸ h', j + 1, by omega, fun w8 w4 => ?_, fun f => ?_⟩
  · rcases hp with hp | hp | hp
    · exact absurd w8 hp
    · exact absurd hp w4
    · have : ((j + 1 : Nat) : Int) = (j : Int) + 1 := by omega
      omega
  · have q := hj (f + 1)
    rw [show j + (f + 1) = j + 1 + f from by omega] at q
    refine runR_s q h3 e'.symm (fun w => hN ?_)
    by_cases q : y' 8 = 0
    · exact q
    · rw [← e'] at w
      exact absurd w (rr_no h' q)
theorem rx_e2 {T y : Nat → Int32} {n : Int32} {N N0 : NtT} {s0 : StT} (h : RRd T n y (stR y) ∧ RunX T n y (stR y) N s0 N0) (h1 : ¬ y 8 = 0) : FinR T n (.inl (y 8, y 9)) N s0 N0 := by
  have e : stR y = .inl (y 8, y 9) := if_neg h1
  have hr := h.2
  rw [e] at hr
  exact rx_e hr (fun _ => runN_l)
theorem rx_e3 {T y : Nat → Int32} {n : Int32} {N N0 : NtT} {s0 : StT} (h : RRd T n y (stR y) ∧ RunX T n y (stR y) N s0 N0) (h1 : y 8 = 0) (h4 : y 4 = 0) : FinR T n (.inr (0, y 6, y 7)) N s0 N0 := by
  have e : stR y = .inr (y 4, y 6, y 7) := if_pos h1
  have hr := h.2
  rw [e, h4] at hr
  exact rx_e hr (fun _ => runN_0 rfl)
theorem nr_told {t kd sa pa mu la fr to gl : Nat → Int32} (h : ¬ t 7 = -1) : ¬ NR t kd sa pa mu la fr to gl 0 4 = 0 := by
  have e : NR t kd sa pa mu la fr to gl 0 4 = if t 7 = -1 then 0 else 1 := rfl
  rw [e, if_neg h]
  decide
theorem nr_untold {t kd sa pa mu la fr to gl : Nat → Int32} (h : t 7 = -1) : NR t kd sa pa mu la fr to gl 0 4 = 0 := if_pos h
theorem rt_ok4 {T : Nat → Int32} {n c : Int32} {s : StT} (h : okT (rtrS T n s c)) : okT (rtr4 T n s) := by
  unfold rtrS at h
  by_cases q : c = 12
  · rw [iteT_t q] at h
    exact (ok_fail h).elim
  · rw [iteT_f q] at h
    exact ok_on h
