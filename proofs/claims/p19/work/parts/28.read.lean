/-! kinds, manners, clauses: what the class has behind them -/
theorem rc_tri {T x : Nat → Int32} {n lt : Int32} {k : TkT} (h : RC T n lt x (.inr k)) : (x 3, x 4, x 5) = k := by
  obtain ⟨⟨_, _, h3, h4, h5, _⟩, _⟩ := h
  rw [h3, h4, h5]
theorem rc_6 {T x : Nat → Int32} {n lt : Int32} {s : StT} (h : RC T n lt x s) : RC T n (x 6) x s := ⟨h.1, h.2.1, rfl⟩
theorem rc_u6 {T x : Nat → Int32} {n lt v : Int32} {s : StT} (h : RC T n lt x s) : RC T n v (upd x 6 v) s := by
  obtain ⟨h1, h2, _⟩ := h
  refine ⟨?_, h2, rfl⟩
  rcases s with q | k
  · exact h1
  · exact h1
theorem rc_back {T x y : Nat → Int32} {n lt lt2 : Int32} {s : StT} (h : RC T n lt x s) (h2 : RC T n lt2 y (nextT T n s)) (h0 : y 1 = 0) : x 1 = 0 := by
  by_cases q : x 1 = 0
  · exact q
  · exact absurd (ok_next (rdc_ok h2 h0)) (rdc_no h q)
theorem wB_1 {T : Nat → Int32} {i : Nat} {k : TkT} (h : ¬ wB T i k = 0) : wB T i k = 1 := by
  by_cases q : wrdT T i k
  · exact wB_t q
  · exact absurd (wB_f q) h
theorem w0_1 {T : Nat → Int32} {i : Nat} {k : TkT} (h : wB T i k = 0) : ¬ wB T i k = 1 := by
  rw [h]
  decide
theorem kd_of {T x : Nat → Int32} {n lt j : Int32} {s : StT} (h : RC T n lt x s) (hk : kndK T (x 3, x 4, x 5) = j) (hj : ¬ j = -1) : s = kndT T s ∧ (okT (kndT T s) → j = kndS T s) := by
  rcases s with q | k
  · exact ⟨rfl, fun w => (ok_l w).elim⟩
  · rw [rc_tri h] at hk
    refine ⟨?_, fun _ => hk.symm⟩
    show Sum.inr k = if kndK T k = -1 then Sum.inl (1, k.2.1) else Sum.inr k
    rw [if_neg (by rw [hk]; exact hj)]
theorem kd_no {T x : Nat → Int32} {n lt : Int32} {s : StT} (h : RC T n lt x s) (hk : kndK T (x 3, x 4, x 5) = -1) : failT 1 s = kndT T s := by
  rcases s with q | k
  · rfl
  · rw [rc_tri h] at hk
    show Sum.inl (1, k.2.1) = if kndK T k = -1 then Sum.inl (1, k.2.1) else Sum.inr k
    rw [if_pos hk]
theorem kk_0 {T : Nat → Int32} {k : TkT} (h4 : ¬ wB T 4 k = 0) : kndK T k = 0 := if_pos (wB_1 h4)
theorem kk_1 {T : Nat → Int32} {k : TkT} (h4 : wB T 4 k = 0) (h5 : ¬ wB T 5 k = 0) : kndK T k = 1 := by unfold kndK; rw [if_neg (w0_1 h4), if_pos (wB_1 h5)]
theorem kk_2 {T : Nat → Int32} {k : TkT} (h4 : wB T 4 k = 0) (h5 : wB T 5 k = 0) (h6 : ¬ wB T 6 k = 0) : kndK T k = 2 := by unfold kndK; rw [if_neg (w0_1 h4), if_neg (w0_1 h5), if_pos (wB_1 h6)]
theorem kk_3 {T : Nat → Int32} {k : TkT} (h4 : wB T 4 k = 0) (h5 : wB T 5 k = 0) (h6 : wB T 6 k = 0) (h7 : ¬ wB T 7 k = 0) : kndK T k = 3 := by unfold kndK; rw [if_neg (w0_1 h4), if_neg (w0_1 h5), if_neg (w0_1 h6), if_pos (wB_1 h7)]
theorem kk_n {T : Nat → Int32} {k : TkT} (h4 : wB T 4 k = 0) (h5 : wB T 5 k = 0) (h6 : wB T 6 k = 0) (h7 : wB T 7 k = 0) : kndK T k = -1 := by unfold kndK; rw [if_neg (w0_1 h4), if_neg (w0_1 h5), if_neg (w0_1 h6), if_neg (w0_1 h7)]
theorem ck_0 {T : Nat → Int32} {k : TkT} (h4 : ¬ wB T 0 k = 0) : clsK T k = 0 := if_pos (wB_1 h4)
theorem ck_1 {T : Nat → Int32} {k : TkT} (h4 : wB T 0 k = 0) (h5 : ¬ wB T 1 k = 0) : clsK T k = 1 := by unfold clsK; rw [if_neg (w0_1 h4), if_pos (wB_1 h5)]
theorem ck_2 {T : Nat → Int32} {k : TkT} (h4 : wB T 0 k = 0) (h5 : wB T 1 k = 0) (h6 : ¬ wB T 2 k = 0) : clsK T k = 2 := by unfold clsK; rw [if_neg (w0_1 h4), if_neg (w0_1 h5), if_pos (wB_1 h6)]
theorem ck_3 {T : Nat → Int32} {k : TkT} (h4 : wB T 0 k = 0) (h5 : wB T 1 k = 0) (h6 : wB T 2 k = 0) (h7 : ¬ wB T 3 k = 0) : clsK T k = 3 := by unfold clsK; rw [if_neg (w0_1 h4), if_neg (w0_1 h5), if_neg (w0_1 h6), if_pos (wB_1 h7)]
theorem ck_n {T : Nat → Int32} {k : TkT} (h4 : wB T 0 k = 0) (h5 : wB T 1 k = 0) (h6 : wB T 2 k = 0) (h7 : wB T 3 k = 0) : clsK T k = -1 := by unfold clsK; rw [if_neg (w0_1 h4), if_neg (w0_1 h5), if_neg (w0_1 h6), if_neg (w0_1 h7)]
theorem mn_s {T x : Nat → Int32} {n lt j : Int32} {s : StT} (h : RC T n lt x s) (hk : manK T (x 3, x 4, x 5) = j) (hj : ¬ j = 0) : nextT T n s = manT T n s ∧ (okT s → j = manS T s) := by
  rcases s with q | k
  · exact ⟨rfl, fun w => (ok_l w).elim⟩
  · rw [rc_tri h] at hk
    refine ⟨?_, fun _ => hk.symm⟩
    show Sum.inr (tokT T n k.2.2) = if manK T k = 0 then Sum.inr k else Sum.inr (tokT T n k.2.2)
    rw [if_neg (by rw [hk]; exact hj)]
theorem mn_0 {T x : Nat → Int32} {n lt : Int32} {s : StT} (h : RC T n lt x s) (hk : manK T (x 3, x 4, x 5) = 0) : s = manT T n s ∧ (okT s → 0 = manS T s) := by
  rcases s with q | k
  · exact ⟨rfl, fun w => (ok_l w).elim⟩
  · rw [rc_tri h] at hk
    refine ⟨?_, fun _ => hk.symm⟩
    show Sum.inr k = if manK T k = 0 then Sum.inr k else Sum.inr (tokT T n k.2.2)
    rw [if_pos hk]
theorem mk_1 {T : Nat → Int32} {k : TkT} (h : ¬ wB T 8 k = 0) : manK T k = 1 := if_pos (wB_1 h)
theorem mk_2 {T : Nat → Int32} {k : TkT} (h : wB T 8 k = 0) (h2 : ¬ wB T 9 k = 0) : manK T k = 2 := by unfold manK; rw [if_neg (w0_1 h), if_pos (wB_1 h2)]
theorem mk_0 {T : Nat → Int32} {k : TkT} (h : wB T 8 k = 0) (h2 : wB T 9 k = 0) : manK T k = 0 := by unfold manK; rw [if_neg (w0_1 h), if_neg (w0_1 h2)]
theorem ite_l {T x : Nat → Int32} {n lt c : Int32} {s : StT} {P : Prop} (h : RC T n lt x s) (h0 : ¬ x 1 = 0) : s = iteT P (failT c s) s := by
  by_cases q : P
  · rw [iteT_t q, rdc_l h h0]
    rfl
  · rw [iteT_f q]
theorem sg_a {T x : Nat → Int32} {n lt : Int32} {s : StT} (h : RC T n lt x s) (h0 : ¬ x 1 = 0 ∨ x 3 = 3) : s = sgnT s := by
  rcases s with q | k
  · rfl
  · have e := rc_tri h
    rcases h0 with h0 | h0
    · obtain ⟨⟨h1, _⟩, _⟩ := h
      exact absurd h1 h0
    · show Sum.inr k = if k.1 = 3 then Sum.inr k else Sum.inl (1, k.2.1)
      rw [if_pos (by rw [← e]; exact h0)]
theorem sg_c {T x : Nat → Int32} {n lt : Int32} {s : StT} (h : RC T n lt x s) (h0 : ¬ x 3 = 3) : failT 1 s = sgnT s := by
  rcases s with q | k
  · rfl
  · have e := rc_tri h
    show Sum.inl (1, k.2.1) = if k.1 = 3 then Sum.inr k else Sum.inl (1, k.2.1)
    rw [if_neg (by rw [← e]; exact h0)]
/-! how many links go out: bits, and how many there are -/
def bitT (f : Nat → Int32) (a : Int32) : Nat → Int32
  | 0 => 0
  | n + 1 => if f n = a then bitT f a n ||| (1 <<< (nI n &&& 31)) else bitT f a n
/-! the draft as a net that is read -/
def NC (x d kd sa pa mn fr to gl : Nat → Int32) : NtT := fun r k => if r = 0 then (if k = 4 then x 6 else d k) else if r = 1 then kd k else if r = 2 then sa k else if r = 3 then pa k else if r = 4 then mn k else if r = 5 then fr k else if r = 6 then to k else if r = 7 then gl k else 0
theorem upd_at {f : Nat → Int32} {k j : Nat} {v : Int32} : upd f k v j = if j = k then v else f j := rfl
theorem ok_ite {P : Prop} {c : Int32} {s : StT} (h : okT (iteT P (failT c s) s)) : okT s ∧ ¬ P := by
  by_cases q : P
  · rw [iteT_t q] at h
    exact (ok_fail h).elim
  · rw [iteT_f q] at h
    exact ⟨h, q⟩
theorem al_0 {P : Nat → Prop} : ∀ j : Nat, (j : Int) < ((0 : Int32)).toInt → P j := fun j hj => by
  rw [show ((0 : Int32)).toInt = 0 from by decide] at hj
  omega
theorem al_s {P : Nat → Prop} {i : Int32} (h : ∀ j : Nat, (j : Int) < i.toInt → P j) (hi : iv 0 699 i) (hp : P i.toNatClampNeg) : ∀ j : Nat, (j : Int) < (i + Int32.ofInt 1).toInt → P j := fun j hj => by
  rw [iv_inc 1 hi (by decide) (by decide) (by decide) (by decide)] at hj
  by_cases q : (j : Int) < i.toInt
  · exact h j q
  · have q2 := cl_nat hi (by decide)
    have e : j = i.toNatClampNeg := by omega
    rw [e]
    exact hp
theorem bt_0 {f : Nat → Int32} {a n : Int32} (hn : iv 0 20 n) : (0 : Int32) = bitT f a ((0 : Int32)).toNatClampNeg ∧ ((0 : Int32)).toInt ≤ n.toInt := ⟨rfl, by rw [show ((0 : Int32)).toInt = 0 from by decide]; exact hn.1⟩
theorem bt_i {i : Int32} (hi : iv 0 19 i) : (i + Int32.ofInt 1).toNatClampNeg = i.toNatClampNeg + 1 ∧ nI i.toNatClampNeg = i ∧ (i + Int32.ofInt 1).toInt = i.toInt + 1 := by
  have e := iv_inc 1 hi (by decide) (by decide) (by decide) (by decide)
  have q := cl_nat hi (by decide)
  have h1 := hi.1
  have h2 := hi.2
  have hi2 : iv 1 20 (i + Int32.ofInt 1) := ⟨by omega, by omega⟩
  have q2 := cl_nat hi2 (by decide)
  refine ⟨by omega, ?_, e⟩
  apply Int32.toInt_inj.mp
  rw [nI_toInt (by omega)]
  exact q
theorem bt_y {f : Nat → Int32} {a n b i : Int32} (h : b = bitT f a i.toNatClampNeg ∧ i.toInt ≤ n.toInt) (hi : iv 0 19 i) (hl : i < n) (hc : f i.toNatClampNeg = a) : b ||| (1 <<< (i &&& 31)) = bitT f a (i + Int32.ofInt 1).toNatClampNeg ∧ (i + Int32.ofInt 1).toInt ≤ n.toInt := by
  obtain ⟨q1, q2, q3⟩ := bt_i hi
  have hl := Int32.lt_iff_toInt_lt.mp hl
  refine ⟨?_, by omega⟩
  rw [q1, h.1]
  show _ = if f i.toNatClampNeg = a then bitT f a i.toNatClampNeg ||| (1 <<< (nI i.toNatClampNeg &&& 31)) else bitT f a i.toNatClampNeg
  rw [if_pos hc, q2]
theorem bt_n {f : Nat → Int32} {a n b i : Int32} (h : b = bitT f a i.toNatClampNeg ∧ i.toInt ≤ n.toInt) (hi : iv 0 19 i) (hl : i < n) (hc : ¬ f i.toNatClampNeg = a) : b = bitT f a (i + Int32.ofInt 1).toNatClampNeg ∧ (i + Int32.ofInt 1).toInt ≤ n.toInt := by
  obtain ⟨q1, q2, q3⟩ := bt_i hi
  have hl := Int32.lt_iff_toInt_lt.mp hl
  refine ⟨?_, by omega⟩
  rw [q1, h.1]
  show _ = if f i.toNatClampNeg = a then bitT f a i.toNatClampNeg ||| (1 <<< (nI i.toNatClampNeg &&& 31)) else bitT f a i.toNatClampNeg
  rw [if_neg hc]
theorem bt_e {f : Nat → Int32} {a n b i : Int32} (h : b = bitT f a i.toNatClampNeg ∧ i.toInt ≤ n.toInt) (hl : n ≤ i) (hi : iv 0 700 i) (hn : iv 0 700 n) : b = bitT f a n.toNatClampNeg := by
  have hl := Int32.le_iff_toInt_le.mp hl
  have e : i = n := Int32.toInt_inj.mp (by have := h.2; omega)
  rw [h.1, e]
theorem cm_0 {T : Nat → Int32} {n : Int32} {k : TkT} {N : NtT} (h : clsK T k = 0) : rtrS T n (.inr k) (N 0 0) = clsM T n k N := by unfold clsM; rw [if_pos h]
theorem cm_1 {T : Nat → Int32} {n : Int32} {k : TkT} {N : NtT} (h : clsK T k = 1) : lnkS T n (.inr k) (N 0 0) (N 0 1) (N 5) (N 6) = clsM T n k N := by unfold clsM; rw [if_neg (by rw [h]; decide), if_pos h]
theorem cm_2 {T : Nat → Int32} {n : Int32} {k : TkT} {N : NtT} (h : clsK T k = 2) : golS T n (.inr k) (N 0 0) (N 0 2) (N 7) = clsM T n k N := by unfold clsM; rw [if_neg (by rw [h]; decide), if_neg (by rw [h]; decide), if_pos h]
theorem cm_3 {T : Nat → Int32} {n lt : Int32} {k : TkT} {N : NtT} (h : clsK T k = 3) (hl : N 0 4 = lt) : losS T n (.inr k) (¬ lt = 0) = clsM T n k N := by unfold clsM; rw [if_neg (by rw [h]; decide), if_neg (by rw [h]; decide), if_neg (by rw [h]; decide), if_pos h, hl]
theorem cm_n {T : Nat → Int32} {n : Int32} {k : TkT} {N : NtT} (h : clsK T k = -1) : failT 1 (.inr k) = clsM T n k N := by unfold clsM; rw [if_neg (by rw [h]; decide), if_neg (by rw [h]; decide), if_neg (by rw [h]; decide), if_neg (by rw [h]; decide)]; rfl
/-! the draft behind a clause -/
theorem nc_0 {T x x' d d' kd kd' sa sa' pa pa' mn mn' fr to gl : Nat → Int32} {n : Int32} {k : TkT} (h : clsK T k = 0) (h6 : x' 6 = x 6) (hq : d' = upd d 0 (d 0 + 1) ∧ kd' = upd kd (d 0).toNatClampNeg (kndS T (rtr1 T n (.inr k))) ∧ sa' = upd sa (d 0).toNatClampNeg (valS T (rtr2 T n (.inr k))) ∧ pa' = upd pa (d 0).toNatClampNeg (valS T (rtr3 T n (.inr k))) ∧ mn' = upd mn (d 0).toNatClampNeg (manS T (rtr4 T n (.inr k)))) : NC x' d' kd' sa' pa' mn' fr to gl = clsN T n k (NC x d kd sa pa mn fr to gl) := by
  obtain ⟨e1, e2, e3, e4, e5⟩ := hq
  subst e1 e2 e3 e4 e5
  unfold clsN
  rw [if_pos h]
  funext r j
  unfold rtrN putT NC
  by_cases r0 : r = 0
  · subst r0
    by_cases j4 : j = 4
    · subst j4
      simp [h6]
    · by_cases j0 : j = 0
      · subst j0
        simp [upd]
      · simp [upd, j0, j4]
  · by_cases r1 : r = 1
    · subst r1
      simp [upd]
    · by_cases r2 : r = 2
      · subst r2
        simp [upd]
      · by_cases r3 : r = 3
        · subst r3
          simp [upd]
        · by_cases r4 : r = 4
          · subst r4
            simp [upd]
          · simp [r0, r1, r2, r3, r4]
theorem nc_1 {T x x' d d' kd sa pa mn fr fr' to to' gl : Nat → Int32} {n : Int32} {k : TkT} (h : clsK T k = 1) (h6 : x' 6 = x 6) (hq : d' = upd d 1 (d 1 + 1) ∧ fr' = upd fr (d 1).toNatClampNeg (lnkA T n (.inr k)) ∧ to' = upd to (d 1).toNatClampNeg (lnkB T n (.inr k) (d 0) (d 1) fr)) : NC x' d' kd sa pa mn fr' to' gl = clsN T n k (NC x d kd sa pa mn fr to gl) := by
  obtain ⟨e1, e2, e3⟩ := hq
  subst e1 e2 e3
  unfold clsN
  rw [if_neg (by rw [h]; decide), if_pos h]
  funext r j
  have e5 : NC x d kd sa pa mn fr to gl 5 = fr := rfl
  have e00 : NC x d kd sa pa mn fr to gl 0 0 = d 0 := rfl
  have e01 : NC x d kd sa pa mn fr to gl 0 1 = d 1 := rfl
  unfold lnkN
  rw [e5, e00, e01]
  unfold putT NC
  by_cases r0 : r = 0
  · subst r0
    by_cases j4 : j = 4
    · subst j4
      simp [h6]
    · by_cases j0 : j = 1
      · subst j0
        simp [upd]
      · simp [upd, j0, j4]
  · by_cases r1 : r = 5
    · subst r1
      simp [upd]
    · by_cases r2 : r = 6
      · subst r2
        simp [upd]
      · simp [r0, r1, r2]
theorem nc_2 {T x x' d d' kd sa pa mn fr to gl gl' : Nat → Int32} {n : Int32} {k : TkT} (h : clsK T k = 2) (h6 : x' 6 = x 6) (hq : d' = upd d 2 (d 2 + 1) ∧ gl' = upd gl (d 2).toNatClampNeg (lnkA T n (.inr k))) : NC x' d' kd sa pa mn fr to gl' = clsN T n k (NC x d kd sa pa mn fr to gl) := by
  obtain ⟨e1, e2⟩ := hq
  subst e1 e2
  unfold clsN
  rw [if_neg (by rw [h]; decide), if_neg (by rw [h]; decide), if_pos h]
  funext r j
  unfold golN putT NC
  by_cases r0 : r = 0
  · subst r0
    by_cases j4 : j = 4
    · subst j4
      simp [h6]
    · by_cases j0 : j = 2
      · subst j0
        simp [upd]
      · simp [upd, j0, j4]
  · by_cases r1 : r = 7
    · subst r1
      simp [upd]
    · simp [r0, r1]
theorem nc_3 {T x x' y d d' kd sa pa mn fr to gl : Nat → Int32} {n : Int32} {k : TkT} (h : clsK T k = 3) (hq : y 6 = 1 ∧ d' = upd d 3 (lnkA T n (.inr k))) (h6 : x' 6 = y 6) : NC x' d' kd sa pa mn fr to gl = clsN T n k (NC x d kd sa pa mn fr to gl) := by
  obtain ⟨e1, e2⟩ := hq
  subst e2
  have h6 := h6.trans e1
  unfold clsN
  rw [if_neg (by rw [h]; decide), if_neg (by rw [h]; decide), if_neg (by rw [h]; decide)]
  funext r j
  unfold losN putT NC
  by_cases r0 : r = 0
  · subst r0
    by_cases j4 : j = 4
    · subst j4
      simp [h6]
    · by_cases j0 : j = 3
      · subst j0
        simp [upd]
      · simp [upd, j0, j4]
  · simp [r0]
/-! the whole text -/
def codT : StT → Int32
  | .inl q => q.1
  | .inr _ => 0
def stC (x : Nat → Int32) : StT := if x 1 = 0 then .inr (x 3, x 4, x 5) else .inl (x 1, x 0)
theorem stc_eq {T x : Nat → Int32} {n lt : Int32} {s : StT} (h : RC T n lt x s) : s = stC x := by
  unfold stC
  by_cases q : x 1 = 0
  · rw [if_pos q]
    exact (rdc_r h q).1
  · rw [if_neg q]
    exact rdc_l h q
theorem stc_cod {T x : Nat → Int32} {n lt : Int32} {s : StT} (h : RC T n lt x s) : x 1 = codT s := by
  obtain ⟨h, _⟩ := h
  rcases s with q | k
  · exact h.1
  · exact h.1
def RunR (T : Nat → Int32) (n : Int32) (f : Nat) (s : StT) (N : NtT) (R : StT × NtT) : Prop := (runN T n f s N).1 = R.1 ∧ (okT R.1 → (runN T n f s N).2 = R.2)
theorem runN_l {T : Nat → Int32} {n : Int32} {f : Nat} {q : ErT} {N : NtT} : runN T n f (.inl q) N = (.inl q, N) := by
  cases f <;> rfl
theorem runN_0 {T : Nat → Int32} {n : Int32} {f : Nat} {k : TkT} {N : NtT} (h : k.1 = 0) : runN T n f (.inr k) N = (.inr k, N) := by
  cases f with
  | zero => rfl
  | succ f => exact if_pos h
theorem runR_s {T : Nat → Int32} {n : Int32} {f : Nat} {k : TkT} {N N' : NtT} {s' : StT} {R : StT × NtT} (h : RunR T n (f + 1) (.inr k) N R) (hk : ¬ k.1 = 0) (hs : s' = clsS T n k N) (hN : okT s' → N' = clsN T n k N) : RunR T n f s' N' R := by
  have e : runN T n (f + 1) (.inr k) N = runN T n f (clsS T n k N) (clsN T n k N) := if_neg hk
  unfold RunR at h ⊢
  rw [e, ← hs] at h
  rcases s' with q | k'
  · rw [runN_l] at h ⊢
    refine ⟨h.1, fun w => ?_⟩
    rw [← h.1] at w
    exact (ok_l w).elim
  · rw [hN (ok_r k')]
    exact h
theorem runR_e {T : Nat → Int32} {n : Int32} {f : Nat} {s : StT} {N : NtT} {R : StT × NtT} (h : RunR T n f s N R) (he : runN T n f s N = (s, N)) : s = R.1 ∧ (okT s → N = R.2) := by
  unfold RunR at h
  rw [he] at h
  exact ⟨h.1, fun w => h.2 (h.1 ▸ w)⟩
theorem rt_0 {T x : Nat → Int32} {n : Int32} (h1 : x 1 = 0) (h0 : x 0 = -1) (h2 : x 2 = n) (h5 : x 5 = 0) (h6 : x 6 = 0) : RC T n 0 x (.inr (x 3, x 4, 0)) := by
  refine ⟨⟨h1, h0, rfl, rfl, h5, ?_⟩, h2, h6⟩
  intro _ i h3 h4
  have h4 : (i : Int) < ((0 : Int32)).toInt := h4
  rw [show ((0 : Int32)).toInt = 0 from by decide] at h4
  omega
theorem rt_n {x y d kd sa pa mn fr to gl : Nat → Int32} (h : x 6 = y 6) : NC x d kd sa pa mn fr to gl = NC y d kd sa pa mn fr to gl := by
  unfold NC
  rw [h]
theorem rt_f {i : Int32} (hi : iv 0 699 i) : (700 - i.toInt).toNat = (700 - (i + Int32.ofInt 1).toInt).toNat + 1 := by
  have e := iv_inc 1 hi (by decide) (by decide) (by decide) (by decide)
  have h1 := hi.1
  have h2 := hi.2
  omega
theorem rt_a {T y d d0 kd sa pa mn fr to gl : Nat → Int32} {n : Int32} {k : TkT} (h : RC T n 0 y (.inr k)) (hd : d = d0) : RC T n (y 6) y (stC y) ∧ RunR T n (700 - ((0 : Int32)).toInt).toNat (stC y) (NC y d kd sa pa mn fr to gl) (runN T n 700 (.inr k) (NC (fun _ => 0) d0 kd sa pa mn fr to gl)) := by
  rw [← stc_eq h, hd, rt_n (x := y) (y := fun _ => 0) h.2.2]
  exact ⟨rc_6 h, rfl, fun _ => rfl⟩
theorem rt_k {T y : Nat → Int32} {n lt : Int32} (h : RC T n lt y (stC y)) (h1 : y 1 = 0) : RC T n lt y (.inr (y 3, y 4, y 5)) := by
  have e : stC y = .inr (y 3, y 4, y 5) := if_pos h1
  rw [← e]
  exact h
theorem rt_b {T y y' : Nat → Int32} {n lt lt' i : Int32} {N N' : NtT} {R : StT × NtT} (h : RC T n lt y (stC y) ∧ RunR T n (700 - i.toInt).toNat (stC y) N R) (h1 : y 1 = 0) (h3 : ¬ y 3 = 0) (hi : iv 0 699 i) (h' : RC T n lt' y' (clsS T n (y 3, y 4, y 5) N)) (hN : y' 1 = 0 → N' = clsN T n (y 3, y 4, y 5) N) : RC T n (y' 6) y' (stC y') ∧ RunR T n (700 - (i + Int32.ofInt 1).toInt).toNat (stC y') N' R := by
  have e : stC y = .inr (y 3, y 4, y 5) := if_pos h1
  have e' := stc_eq h'
  have hr := h.2
  rw [e, rt_f hi] at hr
  refine ⟨e' ▸ rc_6 h', runR_s hr h3 e'.symm (fun w => hN ?_)⟩
  by_cases q : y' 1 = 0
  · exact q
  · rw [← e'] at w
    exact absurd w (rdc_no h' q)
theorem rt_e {T y : Nat → Int32} {n lt : Int32} {f : Nat} {N : NtT} {R : StT × NtT} (h : RC T n lt y (stC y) ∧ RunR T n f (stC y) N R) (he : runN T n f (stC y) N = (stC y, N)) : RC T n (y 6) y R.1 ∧ (y 1 = 0 → N = R.2) ∧ y 1 = codT R.1 := by
  obtain ⟨q1, q2⟩ := runR_e h.2 he
  have hR : RC T n (y 6) y R.1 := q1 ▸ rc_6 h.1
  exact ⟨hR, fun w => q2 (rdc_ok h.1 w), stc_cod hR⟩
theorem rt_e1 {T y : Nat → Int32} {n lt i : Int32} {N : NtT} {R : StT × NtT} (h : RC T n lt y (stC y) ∧ RunR T n (700 - i.toInt).toNat (stC y) N R) (hi : 700 ≤ i) : RC T n (y 6) y R.1 ∧ (y 1 = 0 → N = R.2) ∧ y 1 = codT R.1 := by
  refine rt_e h ?_
  have hi := Int32.le_iff_toInt_le.mp hi
  rw [show ((700 : Int32)).toInt = 700 from by decide] at hi
  have e : (700 - i.toInt).toNat = 0 := by omega
  rw [e]
  rfl
theorem rt_e2 {T y : Nat → Int32} {n lt : Int32} {f : Nat} {N : NtT} {R : StT × NtT} (h : RC T n lt y (stC y) ∧ RunR T n f (stC y) N R) (h1 : ¬ y 1 = 0) : RC T n (y 6) y R.1 ∧ (y 1 = 0 → N = R.2) ∧ y 1 = codT R.1 := by
  refine rt_e h ?_
  have e : stC y = .inl (y 1, y 0) := if_neg h1
  rw [e]
  exact runN_l
theorem rt_e3 {T y : Nat → Int32} {n lt : Int32} {f : Nat} {N : NtT} {R : StT × NtT} (h : RC T n lt y (stC y) ∧ RunR T n f (stC y) N R) (h1 : y 1 = 0) (h3 : y 3 = 0) : RC T n (y 6) y R.1 ∧ (y 1 = 0 → N = R.2) ∧ y 1 = codT R.1 := by
  refine rt_e h ?_
  have e : stC y = .inr (y 3, y 4, y 5) := if_pos h1
  rw [e]
  exact runN_0 h3
def popT (p0 : Int32) : Int32 := (((((((p0 - (((p0.toUInt32 >>> ((1 : Int32).toUInt32 &&& Int32.toUInt32 31)).toInt32) &&& 1431655765)) &&& 858993459) + ((((p0 - (((p0.toUInt32 >>> ((1 : Int32).toUInt32 &&& Int32.toUInt32 31)).toInt32) &&& 1431655765)).toUInt32 >>> ((2 : Int32).toUInt32 &&& Int32.toUInt32 31)).toInt32) &&& 858993459)) + (((((p0 - (((p0.toUInt32 >>> ((1 : Int32).toUInt32 &&& Int32.toUInt32 31)).toInt32) &&& 1431655765)) &&& 858993459) + ((((p0 - (((p0.toUInt32 >>> ((1 : Int32).toUInt32 &&& Int32.toUInt32 31)).toInt32) &&& 1431655765)).toUInt32 >>> ((2 : Int32).toUInt32 &&& Int32.toUInt32 31)).toInt32) &&& 858993459)).toUInt32 >>> ((4 : Int32).toUInt32 &&& Int32.toUInt32 31)).toInt32)) &&& 252645135) + (((((((p0 - (((p0.toUInt32 >>> ((1 : Int32).toUInt32 &&& Int32.toUInt32 31)).toInt32) &&& 1431655765)) &&& 858993459) + ((((p0 - (((p0.toUInt32 >>> ((1 : Int32).toUInt32 &&& Int32.toUInt32 31)).toInt32) &&& 1431655765)).toUInt32 >>> ((2 : Int32).toUInt32 &&& Int32.toUInt32 31)).toInt32) &&& 858993459)) + (((((p0 - (((p0.toUInt32 >>> ((1 : Int32).toUInt32 &&& Int32.toUInt32 31)).toInt32) &&& 1431655765)) &&& 858993459) + ((((p0 - (((p0.toUInt32 >>> ((1 : Int32).toUInt32 &&& Int32.toUInt32 31)).toInt32) &&& 1431655765)).toUInt32 >>> ((2 : Int32).toUInt32 &&& Int32.toUInt32 31)).toInt32) &&& 858993459)).toUInt32 >>> ((4 : Int32).toUInt32 &&& Int32.toUInt32 31)).toInt32)) &&& 252645135).toUInt32 >>> ((8 : Int32).toUInt32 &&& Int32.toUInt32 31)).toInt32)) + ((((((((p0 - (((p0.toUInt32 >>> ((1 : Int32).toUInt32 &&& Int32.toUInt32 31)).toInt32) &&& 1431655765)) &&& 858993459) + ((((p0 - (((p0.toUInt32 >>> ((1 : Int32).toUInt32 &&& Int32.toUInt32 31)).toInt32) &&& 1431655765)).toUInt32 >>> ((2 : Int32).toUInt32 &&& Int32.toUInt32 31)).toInt32) &&& 858993459)) + (((((p0 - (((p0.toUInt32 >>> ((1 : Int32).toUInt32 &&& Int32.toUInt32 31)).toInt32) &&& 1431655765)) &&& 858993459) + ((((p0 - (((p0.toUInt32 >>> ((1 : Int32).toUInt32 &&& Int32.toUInt32 31)).toInt32) &&& 1431655765)).toUInt32 >>> ((2 : Int32).toUInt32 &&& Int32.toUInt32 31)).toInt32) &&& 858993459)).toUInt32 >>> ((4 : Int32).toUInt32 &&& Int32.toUInt32 31)).toInt32)) &&& 252645135) + (((((((p0 - (((p0.toUInt32 >>> ((1 : Int32).toUInt32 &&& Int32.toUInt32 31)).toInt32) &&& 1431655765)) &&& 858993459) + ((((p0 - (((p0.toUInt32 >>> ((1 : Int32).toUInt32 &&& Int32.toUInt32 31)).toInt32) &&& 1431655765)).toUInt32 >>> ((2 : Int32).toUInt32 &&& Int32.toUInt32 31)).toInt32) &&& 858993459)) + (((((p0 - (((p0.toUInt32 >>> ((1 : Int32).toUInt32 &&& Int32.toUInt32 31)).toInt32) &&& 1431655765)) &&& 858993459) + ((((p0 - (((p0.toUInt32 >>> ((1 : Int32).toUInt32 &&& Int32.toUInt32 31)).toInt32) &&& 1431655765)).toUInt32 >>> ((2 : Int32).toUInt32 &&& Int32.toUInt32 31)).toInt32) &&& 858993459)).toUInt32 >>> ((4 : Int32).toUInt32 &&& Int32.toUInt32 31)).toInt32)) &&& 252645135).toUInt32 >>> ((8 : Int32).toUInt32 &&& Int32.toUInt32 31)).toInt32)).toUInt32 >>> ((16 : Int32).toUInt32 &&& Int32.toUInt32 31)).toInt32)) &&& 63
def pcT (n : Nat) : Nat := sw3 (n % 256) + sw3 (n / 256 % 256) + sw3 (n / 65536)
theorem pop_eq {n : Nat} (hh : n < 2097152) : popT (nI n) = nI (pcT n) := by
  obtain ⟨b0, b1, b2, h0, h1, h2, e0⟩ : ∃ b0 b1 b2 : Nat, b0 < 256 ∧ b1 < 256 ∧ b2 < 32 ∧ n = b0 + 256 * (b1 + 256 * b2) := ⟨n % 256, n / 256 % 256, n / 65536, by omega, by omega, by omega, by omega⟩
  have ln : n < 2 ^ 31 := by omega
  have m0 : n % 256 = b0 := by omega
  have m1 : n / 256 % 256 = b1 := by omega
  have m2 : n / 65536 = b2 := by omega
  unfold popT pcT
  rw [m0, m1, m2]
  have c1 : (1431655765 : Int32) = nI 1431655765 := by decide
  have c2 : (858993459 : Int32) = nI 858993459 := by decide
  have c3 : (252645135 : Int32) = nI 252645135 := by decide
  have k0 := sw_b b0 h0; have k1 := sw_b b1 h1; have k2 := sw_b b2 (by omega); have k3 := sw_e b2 h2
  have a1 : n / 2 &&& 1431655765 < 2 ^ 32 := Nat.and_lt_two_pow _ (by decide)
  have s1 := sw_s1 h0 h1 h2
  rw [← e0] at s1
  have a2 : n / 2 &&& 1431655765 ≤ n := by
    by_cases q : n / 2 &&& 1431655765 ≤ n
    · exact q
    · exact Nat.le_trans (Nat.and_le_left) (Nat.div_le_self _ _)
  have s2 := sw_s2 k0.2.1 k1.2.1 k2.2.1
  rw [← s1] at s2
  have s2' : (n - (n / 2 &&& 1431655765) &&& 858993459) + ((n - (n / 2 &&& 1431655765)) / 4 &&& 858993459) = sw2 b0 + 256 * (sw2 b1 + 256 * sw2 b2) := s2
  have s3 := sw_s3 h0 h1 (show b2 < 256 by omega)
  rw [← s2'] at s3
  have r1 : ((nI n).toUInt32 >>> ((1 : Int32).toUInt32 &&& Int32.toUInt32 31)).toInt32 = nI (n / 2 ^ 1) := pk_ushrN (by omega) 1 1 (by decide)
  generalize hT : n - (n / 2 &&& 1431655765) = T at *
  have lT : T < 2 ^ 31 := by omega
  have r2 : ((nI T).toUInt32 >>> ((2 : Int32).toUInt32 &&& Int32.toUInt32 31)).toInt32 = nI (T / 2 ^ 2) := pk_ushrN (by omega) 2 2 (by decide)
  generalize hU : (T &&& 858993459) + (T / 4 &&& 858993459) = U at *
  have lU : U < 2 ^ 31 := by omega
  have r3 : ((nI U).toUInt32 >>> ((4 : Int32).toUInt32 &&& Int32.toUInt32 31)).toInt32 = nI (U / 2 ^ 4) := pk_ushrN (by omega) 4 4 (by decide)
  generalize hVe : (U + U / 16) &&& 252645135 = Ve at *
  have lV : Ve < 2 ^ 31 := by omega
  have r4 : ((nI Ve).toUInt32 >>> ((8 : Int32).toUInt32 &&& Int32.toUInt32 31)).toInt32 = nI (Ve / 2 ^ 8) := pk_ushrN (by omega) 8 8 (by decide)
  have r5 : ((nI (Ve + Ve / 256)).toUInt32 >>> ((16 : Int32).toUInt32 &&& Int32.toUInt32 31)).toInt32 = nI ((Ve + Ve / 256) / 2 ^ 16) := pk_ushrN (by omega) 16 16 (by decide)
  have p1 : (2 : Nat) ^ 1 = 2 := by decide
  have p2 : (2 : Nat) ^ 2 = 4 := by decide
  have p3 : (2 : Nat) ^ 4 = 16 := by decide
  have p4 : (2 : Nat) ^ 8 = 256 := by decide
  rw [r1, p1, c1, nI_and (by omega) (by decide), pk_sub (by omega), hT, r2, p2, c2, nI_and (by omega) (by decide), nI_and (by omega) (by decide), nI_add, hU, r3, p3, nI_add, c3, nI_and (by omega) (by decide), hVe, r4, p4, nI_add, r5, nI_add]
  have hq : (Ve + Ve / 256 + (Ve + Ve / 256) / 2 ^ 16) % 2 ^ 6 = sw3 b0 + sw3 b1 + sw3 b2 := by
    have d1 : Ve / 256 = sw3 b1 + 256 * sw3 b2 := by omega
    have d2 : (Ve + Ve / 256) / 2 ^ 16 = sw3 b2 := by
      rw [show (2 : Nat) ^ 16 = 65536 from rfl, d1]; omega
    rw [d2, d1, show (2 : Nat) ^ 6 = 64 from rfl]
    have d3 : Ve + (sw3 b1 + 256 * sw3 b2) + sw3 b2 = (sw3 b0 + sw3 b1 + sw3 b2) + 64 * (4 * sw3 b1 + 1028 * sw3 b2) := by omega
    rw [d3, Nat.add_mul_mod_self_left, Nat.mod_eq_of_lt (by omega)]
  rw [pk_andN (k := 6) (by omega) (by decide), hq]
theorem pc_s : ∀ r : Nat, r < 8 → ∀ b : Nat, b < 2 ^ r → sw3 (b + 2 ^ r) = sw3 b + 1 := by decide +kernel
theorem pc_0 : sw3 0 = 0 := by decide
theorem pc_up {m n : Nat} (hn : n < 21) (hm : m < 2 ^ n) : pcT (m + 2 ^ n) = pcT m + 1 := by
  unfold pcT
  by_cases h8 : n < 8
  · have hp : (2 : Nat) ^ n ≤ 2 ^ 7 := Nat.pow_le_pow_right (by decide) (by omega)
    have hp : (2 : Nat) ^ n ≤ 128 := hp
    have q := pc_s n h8 m hm
    rw [show (m + 2 ^ n) % 256 = m + 2 ^ n from by omega, show m % 256 = m from by omega, show (m + 2 ^ n) / 256 = 0 from by omega, show m / 256 = 0 from by omega, show (m + 2 ^ n) / 65536 = 0 from by omega, show m / 65536 = 0 from by omega, q]
    omega
  · by_cases h16 : n < 16
    · obtain ⟨r, rfl⟩ : ∃ r, n = r + 8 := ⟨n - 8, by omega⟩
      have e : (2 : Nat) ^ (r + 8) = 2 ^ r * 256 := Nat.pow_add 2 r 8
      have hp : (2 : Nat) ^ r ≤ 2 ^ 7 := Nat.pow_le_pow_right (by decide) (by omega)
      have hp : (2 : Nat) ^ r ≤ 128 := hp
      rw [e] at hm ⊢
      have q := pc_s r (by omega) (m / 256) (by omega)
      rw [show (m + 2 ^ r * 256) % 256 = m % 256 from by omega, show (m + 2 ^ r * 256) / 256 % 256 = m / 256 + 2 ^ r from by omega, show m / 256 % 256 = m / 256 from by omega, show (m + 2 ^ r * 256) / 65536 = 0 from by omega, show m / 65536 = 0 from by omega, q]
      omega
    · obtain ⟨r, rfl⟩ : ∃ r, n = r + 16 := ⟨n - 16, by omega⟩
      have e : (2 : Nat) ^ (r + 16) = 2 ^ r * 65536 := Nat.pow_add 2 r 16
      have hp : (2 : Nat) ^ r ≤ 2 ^ 4 := Nat.pow_le_pow_right (by decide) (by omega)
      have hp : (2 : Nat) ^ r ≤ 16 := hp
      rw [e] at hm ⊢
      have q := pc_s r (by omega) (m / 65536) (by omega)
      rw [show (m + 2 ^ r * 65536) % 256 = m % 256 from by omega, show (m + 2 ^ r * 65536) / 256 % 256 = m / 256 % 256 from by omega, show (m + 2 ^ r * 65536) / 65536 = m / 65536 + 2 ^ r from by omega, q]
      omega
theorem bt_m (f : Nat → Int32) (a : Int32) : ∀ n : Nat, n ≤ 21 → ∃ m : Nat, m < 2 ^ n ∧ bitT f a n = nI m ∧ pcT m = cntT f a n := by
  intro n
  induction n with
  | zero => exact fun _ => ⟨0, by decide, (by show (0 : Int32) = nI 0; decide), (by show pcT 0 = 0; decide)⟩
  | succ n ih =>
    intro hn
    obtain ⟨m, h1, h2, h3⟩ := ih (by omega)
    have hp : (2 : Nat) ^ (n + 1) = 2 ^ n * 2 := Nat.pow_succ 2 n
    by_cases q : f n = a
    · have hb : (1 : Int32) <<< ((nI n : Int32) &&& 31) = nI (2 ^ n) := by
        apply Int32.toInt_inj.mp
        have hle : (2 : Nat) ^ n ≤ 2 ^ 20 := Nat.pow_le_pow_right (by decide) (by omega)
        rw [shl1_all n (by omega), nI_toInt (by omega)]
        norm_cast
      refine ⟨m + 2 ^ n, by omega, ?_, ?_⟩
      · show (if f n = a then bitT f a n ||| (1 <<< (nI n &&& 31)) else bitT f a n) = _
        have hle : (2 : Nat) ^ n ≤ 2 ^ 20 := Nat.pow_le_pow_right (by decide) (by omega)
        have e9 := Nat.two_pow_add_eq_or_of_lt h1 1
        rw [Nat.mul_one] at e9
        rw [if_pos q, h2, hb, nI_or (by omega) (by omega), Nat.or_comm, ← e9, Nat.add_comm]
      · show _ = cntT f a n + if f n = a then 1 else 0
        rw [if_pos q, pc_up (by omega) h1, h3]
    · refine ⟨m, by omega, ?_, ?_⟩
      · show (if f n = a then bitT f a n ||| (1 <<< (nI n &&& 31)) else bitT f a n) = _
        rw [if_neg q]
        exact h2
      · show _ = cntT f a n + if f n = a then 1 else 0
        rw [if_neg q]
        exact h3
theorem bt_iv {f : Nat → Int32} {a n : Int32} (hn : iv 0 20 n) : iv 0 1048575 (bitT f a n.toNatClampNeg) := by
  have q := cl_nat hn (by decide)
  have h2 := hn.2
  obtain ⟨m, h1, e, _⟩ := bt_m f a n.toNatClampNeg (by omega)
  have hle : (2 : Nat) ^ n.toNatClampNeg ≤ 2 ^ 20 := Nat.pow_le_pow_right (by decide) (by omega)
  have hle : (2 : Nat) ^ n.toNatClampNeg ≤ 1048576 := hle
  rw [e]
  exact iv_nIv (by omega) (by omega) (by omega)
theorem pop_c {f : Nat → Int32} {a n : Int32} (hn : iv 0 20 n) : popT (bitT f a n.toNatClampNeg) = nI (cntT f a n.toNatClampNeg) ∧ cntT f a n.toNatClampNeg < 64 := by
  have q := cl_nat hn (by decide)
  have h2 := hn.2
  obtain ⟨m, h1, e, hc⟩ := bt_m f a n.toNatClampNeg (by omega)
  have hle : (2 : Nat) ^ n.toNatClampNeg ≤ 2 ^ 20 := Nat.pow_le_pow_right (by decide) (by omega)
  have hle : (2 : Nat) ^ n.toNatClampNeg ≤ 1048576 := hle
  rw [e, pop_eq (by omega), hc]
  refine ⟨rfl, ?_⟩
  rw [← hc]
  unfold pcT
  have k0 := (sw_b (m % 256) (by omega)).2.2.2
  have k1 := (sw_b (m / 256 % 256) (by omega)).2.2.2
  have k2 := (sw_b (m / 65536) (by omega)).2.2.2
  omega
theorem pop_4 {f : Nat → Int32} {a n : Int32} (hn : iv 0 20 n) (h : popT (bitT f a n.toNatClampNeg) = 4) : cntT f a n.toNatClampNeg = 4 := by
  obtain ⟨e, hl⟩ := pop_c (f := f) (a := a) hn
  rw [e] at h
  have h := congrArg Int32.toInt h
  rw [nI_toInt (by omega), show ((4 : Int32)).toInt = 4 from by decide] at h
  omega
theorem pop_n {f : Nat → Int32} {a n : Int32} (hn : iv 0 20 n) (h : ¬ popT (bitT f a n.toNatClampNeg) = 4) : ¬ cntT f a n.toNatClampNeg = 4 := fun w => by
  obtain ⟨e, _⟩ := pop_c (f := f) (a := a) hn
  exact h (by rw [e, w]; decide)
