/-! the tape: both write the same bytes -/
theorem nar_msk (x : Int32) : x.toInt8.toInt32 &&& 255 = x &&& 255 := by
  apply Int32.toBitVec_inj.mp
  rw [Int32.toBitVec_and, Int32.toBitVec_and, Int8.toBitVec_toInt32, Int32.toBitVec_toInt8]
  apply BitVec.eq_of_getLsbD_eq
  intro i hi
  have e : ((255 : Int32).toBitVec).getLsbD i = decide (i < 8) := by
    have : ∀ i, i < 32 → ((255 : Int32).toBitVec).getLsbD i = decide (i < 8) := by decide
    exact this i hi
  rw [BitVec.getLsbD_and, BitVec.getLsbD_and, e]
  by_cases h : i < 8
  · rw [BitVec.getLsbD_signExtend, if_pos h, BitVec.getLsbD_signExtend, if_pos hi]
    simp [h, hi]
  · simp [h]
theorem vp_nb (x : Int32) : vp_nar .byte x = x.toInt8.toInt32 := rfl
theorem nar_iv (x : Int32) : iv (-128) 127 (vp_nar .byte x) := by
  rw [vp_nb]
  have h1 := Int8.le_toInt x.toInt8
  have h2 := Int8.toInt_lt x.toInt8
  refine ⟨?_, ?_⟩
  · rw [Int8.toInt_toInt32]
    omega
  · rw [Int8.toInt_toInt32]
    omega
theorem msk_upd {f : Nat → Int32} {k : Nat} {v w : Int32} (h : v &&& 255 = w) : mskT (upd f k v) = upd (mskT f) k w := by
  funext j
  unfold mskT upd
  by_cases q : j = k
  · simp [q, h]
  · simp [q]
theorem nar_2 (x : Int32) : vp_nar .byte (x.toInt8.toInt32) &&& 255 = x &&& 255 := by
  rw [vp_nb, nar_msk, nar_msk]
def t4T (t : Int32) : Int32 := (((t + 1) + 1) + 1) + 1
def apC (f : Nat → Int32) (t w : Int32) : Nat → Int32 := upd (upd (upd (upd f t.toNatClampNeg (vp_nar .byte ((w >>> ((24 : Int32) &&& 31)).toInt8.toInt32))) (t + 1).toNatClampNeg (vp_nar .byte ((w >>> ((16 : Int32) &&& 31)).toInt8.toInt32))) ((t + 1) + 1).toNatClampNeg (vp_nar .byte ((w >>> ((8 : Int32) &&& 31)).toInt8.toInt32))) (((t + 1) + 1) + 1).toNatClampNeg (vp_nar .byte ((w >>> ((0 : Int32) &&& 31)).toInt8.toInt32))
def apR (f : Nat → Int32) (t w : Int32) : Nat → Int32 := upd (upd (upd (upd f t.toNatClampNeg ((w >>> ((24 : Int32) &&& 31)) &&& 255)) (t + 1).toNatClampNeg ((w >>> ((16 : Int32) &&& 31)) &&& 255)) ((t + 1) + 1).toNatClampNeg ((w >>> ((8 : Int32) &&& 31)) &&& 255)) (((t + 1) + 1) + 1).toNatClampNeg ((w >>> ((0 : Int32) &&& 31)) &&& 255)
theorem ap_eq {f : Nat → Int32} {t w : Int32} : mskT (apC f t w) = apR (mskT f) t w := by
  unfold apC apR
  rw [msk_upd (nar_2 _), msk_upd (nar_2 _), msk_upd (nar_2 _), msk_upd (nar_2 _)]
def fedC (f : Nat → Int32) (t a b c d e : Int32) : Nat → Int32 := apC (apC (apC (apC (apC f t a) (t4T t) b) (t4T (t4T t)) c) (t4T (t4T (t4T t))) d) (t4T (t4T (t4T (t4T t)))) e
def fedR (f : Nat → Int32) (t a b c d e : Int32) : Nat → Int32 := apR (apR (apR (apR (apR f t a) (t4T t) b) (t4T (t4T t)) c) (t4T (t4T (t4T t))) d) (t4T (t4T (t4T (t4T t)))) e
theorem fed_eq {f q : Nat → Int32} {t u a b c d e : Int32} (hq : q = mskT f) (ht : t = u) : fedR q u a b c d e = mskT (fedC f t a b c d e) := by
  subst hq ht
  unfold fedR fedC
  rw [ap_eq, ap_eq, ap_eq, ap_eq, ap_eq]
/-! places of faults -/
def plaT : StT → Int32
  | .inl q => q.2
  | .inr _ => -1
/-! two nets that are the same as far as they are told: both readers go on alike -/
def SimT (N M : NtT) : Prop := (N 0 0 = M 0 0 ∧ N 0 1 = M 0 1 ∧ N 0 2 = M 0 2 ∧ N 0 4 = M 0 4 ∧ (¬ N 0 4 = 0 → N 0 3 = M 0 3)) ∧ (iv 0 12 (N 0 0) ∧ iv 0 20 (N 0 1) ∧ iv 0 3 (N 0 2)) ∧ (∀ i : Nat, (i : Int) < (N 0 0).toInt → N 1 i = M 1 i ∧ N 2 i = M 2 i ∧ N 3 i = M 3 i ∧ N 4 i = M 4 i) ∧ (∀ i : Nat, (i : Int) < (N 0 1).toInt → N 5 i = M 5 i ∧ N 6 i = M 6 i) ∧ ∀ i : Nat, (i : Int) < (N 0 2).toInt → N 7 i = M 7 i
theorem cnt_cg {f g : Nat → Int32} {a : Int32} : ∀ n : Nat, (∀ i, i < n → f i = g i) → cntT f a n = cntT g a n := by
  intro n
  induction n with
  | zero => exact fun _ => rfl
  | succ n ih =>
    intro h
    show cntT f a n + (if f n = a then 1 else 0) = cntT g a n + (if g n = a then 1 else 0)
    rw [ih (fun i hi => h i (by omega)), h n (by omega)]
theorem lnk2_cg {T : Nat → Int32} {n c d : Int32} {s : StT} {f g : Nat → Int32} (hd : iv 0 20 d) (h : ∀ i : Nat, (i : Int) < d.toInt → f i = g i) : lnk2 T n s c d f = lnk2 T n s c d g := by
  unfold lnk2
  have q := cl_nat hd (by decide)
  rw [cnt_cg d.toNatClampNeg (fun i hi => h i (by omega))]
theorem has_cg {f g u v : Nat → Int32} {d a b : Int32} (h : ∀ i : Nat, (i : Int) < d.toInt → f i = g i ∧ u i = v i) : hasT f u d a b = hasT g v d a b := by
  apply propext
  constructor
  · rintro ⟨i, hi, h1, h2⟩
    exact ⟨i, hi, (h i hi).1 ▸ h1, (h i hi).2 ▸ h2⟩
  · rintro ⟨i, hi, h1, h2⟩
    exact ⟨i, hi, (h i hi).1.symm ▸ h1, (h i hi).2.symm ▸ h2⟩
theorem got_cg {f g : Nat → Int32} {d r : Int32} (h : ∀ i : Nat, (i : Int) < d.toInt → f i = g i) : gotT f d r = gotT g d r := by
  apply propext
  constructor
  · rintro ⟨i, hi, h1⟩
    exact ⟨i, hi, h i hi ▸ h1⟩
  · rintro ⟨i, hi, h1⟩
    exact ⟨i, hi, (h i hi).symm ▸ h1⟩
theorem sim_m {T : Nat → Int32} {n : Int32} {k : TkT} {N M : NtT} (h : SimT N M) : clsM T n k N = clsM T n k M := by
  obtain ⟨⟨e0, e1, e2, e4, _⟩, ⟨_, b1, _⟩, _, hl, hg⟩ := h
  unfold clsM
  have q1 : lnkS T n (.inr k) (N 0 0) (N 0 1) (N 5) (N 6) = lnkS T n (.inr k) (M 0 0) (M 0 1) (M 5) (M 6) := by
    unfold lnkS lnkB lnk3
    rw [lnk2_cg b1 (fun i hi => (hl i hi).1), has_cg hl, e0, e1]
  have q2 : golS T n (.inr k) (N 0 0) (N 0 2) (N 7) = golS T n (.inr k) (M 0 0) (M 0 2) (M 7) := by
    unfold golS
    rw [got_cg hg, e0, e2]
  rw [q1, q2, e0, e4]
theorem sim_s {T : Nat → Int32} {n : Int32} {k : TkT} {N M : NtT} (h : SimT N M) : clsS T n k N = clsS T n k M := by
  unfold clsS
  rw [sim_m h]
theorem ok_sgn {s : StT} (h : okT (sgnT s)) : okT s := ok_on h
theorem put_at {N : NtT} {r k : Nat} {v : Int32} {a b : Nat} : putT N r k v a b = if a = r ∧ b = k then v else N a b := rfl
theorem iv_up {x : Int32} {m : Int} (hx : iv 0 m x) (hm : m ≤ 100) (hn : ¬ x = Int32.ofInt m) : iv 0 m (x + 1) ∧ (x + 1).toInt = x.toInt + 1 := by
  have h1 := hx.1
  have h2 := hx.2
  have e : (x + 1).toInt = x.toInt + 1 := iv_addc (iv_w hx (Int.le_refl 0) hm) (c := 1) (by decide) (by decide) (by decide)
  have hne : ¬ x.toInt = m := fun w => hn (by
    apply Int32.toInt_inj.mp
    rw [Int32.toInt_ofInt_of_le (by omega) (by omega)]
    exact w)
  exact ⟨⟨by omega, by omega⟩, e⟩
theorem lt_nat {x : Int32} {m : Int} (hx : iv 0 m x) {i : Nat} : (i : Int) < x.toInt + 1 → (i : Int) < x.toInt ∨ i = x.toNatClampNeg := fun h => by
  have q := cl_nat hx (by decide)
  omega
theorem sim_n {T : Nat → Int32} {n : Int32} {k : TkT} {N M : NtT} (h : SimT N M) (ho : okT (clsS T n k N)) : SimT (clsN T n k N) (clsN T n k M) := by
  have ho := ok_sgn (ok_next ho)
  have hs := h
  obtain ⟨⟨e0, e1, e2, e4, e3⟩, ⟨b0, b1, b2⟩, hr, hl, hg⟩ := h
  unfold clsM at ho
  unfold clsN
  by_cases k0 : clsK T k = 0
  · rw [if_pos k0] at ho ⊢
    rw [if_pos k0]
    have hne : ¬ N 0 0 = 12 := fun w => by
      unfold rtrS at ho
      rw [iteT_t w] at ho
      exact ok_fail ho
    obtain ⟨c0, c1⟩ := iv_up b0 (by decide) (by rw [show Int32.ofInt 12 = 12 from by decide]; exact hne)
    unfold rtrN
    rw [← e0]
    refine ⟨⟨?_, ?_, ?_, ?_, ?_⟩, ⟨?_, ?_, ?_⟩, ?_, ?_, ?_⟩
    · simp [putT]
    · simpa [putT] using e1
    · simpa [putT] using e2
    · simpa [putT] using e4
    · simpa [putT] using e3
    · simpa [putT] using c0
    · simpa [putT] using b1
    · simpa [putT] using b2
    · intro i hi
      have hi : (i : Int) < (N 0 0 + 1).toInt := by simpa [putT] using hi
      rw [c1] at hi
      rcases lt_nat b0 hi with q | q
      · have hq : ¬ i = (N 0 0).toNatClampNeg := by have := cl_nat b0 (by decide); omega
        simpa [putT, hq] using hr i q
      · subst q
        simp [putT]
    · intro i hi
      simpa [putT] using hl i (by simpa [putT] using hi)
    · intro i hi
      simpa [putT] using hg i (by simpa [putT] using hi)
  · rw [if_neg k0] at ho ⊢
    rw [if_neg k0]
    by_cases k1 : clsK T k = 1
    · rw [if_pos k1] at ho ⊢
      rw [if_pos k1]
      have hne : ¬ N 0 1 = 20 := fun w => by
        unfold lnkS at ho
        rw [iteT_t w] at ho
        exact ok_fail ho
      obtain ⟨c0, c1⟩ := iv_up b1 (by decide) (by rw [show Int32.ofInt 20 = 20 from by decide]; exact hne)
      unfold lnkN lnkB
      rw [lnk2_cg b1 (fun i hi => (hl i hi).1), ← e0, ← e1]
      refine ⟨⟨?_, ?_, ?_, ?_, ?_⟩, ⟨?_, ?_, ?_⟩, ?_, ?_, ?_⟩
      · simpa [putT] using e0
      · simp [putT]
      · simpa [putT] using e2
      · simpa [putT] using e4
      · simpa [putT] using e3
      · simpa [putT] using b0
      · simpa [putT] using c0
      · simpa [putT] using b2
      · intro i hi
        simpa [putT] using hr i (by simpa [putT] using hi)
      · intro i hi
        have hi : (i : Int) < (N 0 1 + 1).toInt := by simpa [putT] using hi
        rw [c1] at hi
        rcases lt_nat b1 hi with q | q
        · have hq : ¬ i = (N 0 1).toNatClampNeg := by have := cl_nat b1 (by decide); omega
          simpa [putT, hq] using hl i q
        · subst q
          simp [putT]
      · intro i hi
        simpa [putT] using hg i (by simpa [putT] using hi)
    · rw [if_neg k1] at ho ⊢
      rw [if_neg k1]
      by_cases k2 : clsK T k = 2
      · rw [if_pos k2] at ho ⊢
        rw [if_pos k2]
        have hne : ¬ N 0 2 = 3 := fun w => by
          unfold golS at ho
          rw [iteT_t w] at ho
          exact ok_fail ho
        obtain ⟨c0, c1⟩ := iv_up b2 (by decide) (by rw [show Int32.ofInt 3 = 3 from by decide]; exact hne)
        unfold golN
        rw [← e2]
        refine ⟨⟨?_, ?_, ?_, ?_, ?_⟩, ⟨?_, ?_, ?_⟩, ?_, ?_, ?_⟩
        · simpa [putT] using e0
        · simpa [putT] using e1
        · simp [putT]
        · simpa [putT] using e4
        · simpa [putT] using e3
        · simpa [putT] using b0
        · simpa [putT] using b1
        · simpa [putT] using c0
        · intro i hi
          simpa [putT] using hr i (by simpa [putT] using hi)
        · intro i hi
          simpa [putT] using hl i (by simpa [putT] using hi)
        · intro i hi
          have hi : (i : Int) < (N 0 2 + 1).toInt := by simpa [putT] using hi
          rw [c1] at hi
          rcases lt_nat b2 hi with q | q
          · have hq : ¬ i = (N 0 2).toNatClampNeg := by have := cl_nat b2 (by decide); omega
            simpa [putT, hq] using hg i q
          · subst q
            simp [putT]
      · rw [if_neg k2, if_neg k2]
        unfold losN
        refine ⟨⟨?_, ?_, ?_, ?_, ?_⟩, ⟨?_, ?_, ?_⟩, ?_, ?_, ?_⟩
        · simpa [putT] using e0
        · simpa [putT] using e1
        · simpa [putT] using e2
        · simp [putT]
        · simp [putT]
        · simpa [putT] using b0
        · simpa [putT] using b1
        · simpa [putT] using b2
        · intro i hi
          simpa [putT] using hr i (by simpa [putT] using hi)
        · intro i hi
          simpa [putT] using hl i (by simpa [putT] using hi)
        · intro i hi
          simpa [putT] using hg i (by simpa [putT] using hi)
theorem run_sim {T : Nat → Int32} {n : Int32} : ∀ (f : Nat) (s : StT) (N M : NtT), SimT N M → (runN T n f s N).1 = (runN T n f s M).1 ∧ (okT (runN T n f s N).1 → SimT (runN T n f s N).2 (runN T n f s M).2) := by
  intro f
  induction f with
  | zero => exact fun s N M h => ⟨rfl, fun _ => h⟩
  | succ f ih =>
    intro s N M h
    rcases s with q | k
    · exact ⟨rfl, fun w => (ok_l w).elim⟩
    · by_cases k0 : k.1 = 0
      · have e1 : runN T n (f + 1) (.inr k) N = (.inr k, N) := if_pos k0
        have e2 : runN T n (f + 1) (.inr k) M = (.inr k, M) := if_pos k0
        rw [e1, e2]
        exact ⟨rfl, fun _ => h⟩
      · have e1 : runN T n (f + 1) (.inr k) N = runN T n f (clsS T n k N) (clsN T n k N) := if_neg k0
        have e2 : runN T n (f + 1) (.inr k) M = runN T n f (clsS T n k M) (clsN T n k M) := if_neg k0
        rw [e1, e2, ← sim_s h]
        cases hc : clsS T n k N with
        | inl q =>
          rw [runN_l, runN_l]
          exact ⟨rfl, fun w => (ok_l w).elim⟩
        | inr k' => exact ih (.inr k') _ _ (sim_n h (by rw [hc]; exact ok_r k'))
