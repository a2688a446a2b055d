/-! a net that was told: kinds, links, goals in their bounds; four links at most from one -/
theorem num_ok {T : Nat → Int32} {lo hi : Int32} {s : StT} (h : okT (numT T lo hi s)) : ∃ k, s = .inr k ∧ ¬ (valT T k.2.1 k.2.2 < lo ∨ hi < valT T k.2.1 k.2.2) := by
  rcases s with q | k
  · exact (ok_l h).elim
  · refine ⟨k, rfl, fun w => ?_⟩
    have h : okT (numK T lo hi k) := h
    unfold numK at h
    by_cases a : ¬ k.1 = 2
    · rw [if_pos a] at h
      exact ok_l h
    · rw [if_neg a] at h
      by_cases b : 2 < k.2.2 - k.2.1
      · rw [if_pos b] at h
        exact ok_l h
      · rw [if_neg b, if_pos w] at h
        exact ok_l h
theorem rou_ok {T : Nat → Int32} {c : Int32} {s : StT} (h : okT (rouT T c s)) : 0 ≤ (valS T s).toInt ∧ (valS T s).toInt < c.toInt := by
  have hn := ok_rou h
  have e := num_id hn
  obtain ⟨k, hk, hv⟩ := num_ok hn
  unfold rouT at h
  rw [e] at h
  subst hk
  have h : okT (if c ≤ valT T k.2.1 k.2.2 then Sum.inl (3, k.2.1) else Sum.inr k) := h
  by_cases q : c ≤ valT T k.2.1 k.2.2
  · rw [if_pos q] at h
    exact (ok_l h).elim
  · have q := Int32.lt_iff_toInt_lt.mp (Int32.not_le.mp q)
    have v0 := Int32.le_iff_toInt_le.mp (Int32.not_lt.mp (fun w => hv (Or.inl w)))
    rw [show ((0 : Int32)).toInt = 0 from by decide] at v0
    exact ⟨v0, q⟩
theorem knd_iv {T : Nat → Int32} {k : TkT} (h : ¬ kndK T k = -1) : iv 0 3 (kndK T k) := by
  unfold kndK at h ⊢
  by_cases a : wB T 4 k = 1
  · rw [if_pos a]
    exact ⟨by decide, by decide⟩
  · rw [if_neg a] at h ⊢
    by_cases b : wB T 5 k = 1
    · rw [if_pos b]
      exact ⟨by decide, by decide⟩
    · rw [if_neg b] at h ⊢
      by_cases c : wB T 6 k = 1
      · rw [if_pos c]
        exact ⟨by decide, by decide⟩
      · rw [if_neg c] at h ⊢
        by_cases d : wB T 7 k = 1
        · rw [if_pos d]
          exact ⟨by decide, by decide⟩
        · rw [if_neg d] at h
          exact absurd rfl h
theorem knd_ok {T : Nat → Int32} {s : StT} (h : okT (kndT T s)) : iv 0 3 (kndS T s) := by
  rcases s with q | k
  · exact (ok_l h).elim
  · have h : okT (if kndK T k = -1 then Sum.inl (1, k.2.1) else Sum.inr k) := h
    by_cases q : kndK T k = -1
    · rw [if_pos q] at h
      exact (ok_l h).elim
    · exact knd_iv q
theorem rt_knd {T : Nat → Int32} {n c : Int32} {s : StT} (h : okT (rtrS T n s c)) : iv 0 3 (kndS T (rtr1 T n s)) := by
  have h4 := rt_ok4 h
  unfold rtr4 at h4
  have h3 := ok_num (ok_next h4)
  unfold rtr3 at h3
  have h2 := ok_num (ok_next h3)
  unfold rtr2 at h2
  exact knd_ok (ok_next h2)
theorem l1_ok {T : Nat → Int32} {n c : Int32} {s : StT} (h : okT (lnk1 T n s c)) : 0 ≤ (lnkA T n s).toInt ∧ (lnkA T n s).toInt < c.toInt := rou_ok h
theorem lk_ok {T : Nat → Int32} {n c d : Int32} {s : StT} {f g : Nat → Int32} (h : okT (lnkS T n s c d f g)) : (0 ≤ (lnkA T n s).toInt ∧ (lnkA T n s).toInt < (lnkB T n s c d f).toInt ∧ (lnkB T n s c d f).toInt < c.toInt) ∧ ¬ cntT f (lnkA T n s) d.toNatClampNeg = 4 := by
  unfold lnkS at h
  by_cases q : d = 20
  · rw [iteT_t q] at h
    exact (ok_fail h).elim
  · rw [iteT_f q] at h
    obtain ⟨h3, hn⟩ := ok_ite (ok_next h)
    have hb : 0 ≤ (lnkB T n s c d f).toInt ∧ (lnkB T n s c d f).toInt < c.toInt := rou_ok h3
    have h2 : okT (lnk2 T n s c d f) := ok_num (ok_rou h3)
    unfold lnk2 at h2
    obtain ⟨h1, hc⟩ := ok_ite (ok_next h2)
    have ha := l1_ok h1
    have hab := Int32.lt_iff_toInt_lt.mp (Int32.not_le.mp (fun w => hn (Or.inl w)))
    exact ⟨⟨ha.1, hab, hb.2⟩, hc⟩
theorem gl_ok {T : Nat → Int32} {n c d : Int32} {s : StT} {f : Nat → Int32} (h : okT (golS T n s c d f)) : 0 ≤ (lnkA T n s).toInt ∧ (lnkA T n s).toInt < c.toInt := by
  unfold golS at h
  by_cases q : d = 3
  · rw [iteT_t q] at h
    exact (ok_fail h).elim
  · rw [iteT_f q] at h
    exact l1_ok (ok_ite (ok_next h)).1
def WfT (N : NtT) : Prop := (iv 0 12 (N 0 0) ∧ iv 0 20 (N 0 1) ∧ iv 0 3 (N 0 2)) ∧ (∀ i : Nat, (i : Int) < (N 0 0).toInt → iv 0 3 (N 1 i)) ∧ (∀ i : Nat, (i : Int) < (N 0 1).toInt → 0 ≤ (N 5 i).toInt ∧ (N 5 i).toInt < (N 6 i).toInt ∧ (N 6 i).toInt < (N 0 0).toInt) ∧ (∀ a : Int32, cntT (N 5) a (N 0 1).toNatClampNeg ≤ 4) ∧ ∀ i : Nat, (i : Int) < (N 0 2).toInt → 0 ≤ (N 7 i).toInt ∧ (N 7 i).toInt < (N 0 0).toInt
theorem rN_00 {T : Nat → Int32} {n : Int32} {s : StT} {N : NtT} : rtrN T n s N 0 0 = N 0 0 + 1 := by simp [rtrN, putT]
theorem rN_01 {T : Nat → Int32} {n : Int32} {s : StT} {N : NtT} : rtrN T n s N 0 1 = N 0 1 := by simp [rtrN, putT]
theorem rN_02 {T : Nat → Int32} {n : Int32} {s : StT} {N : NtT} : rtrN T n s N 0 2 = N 0 2 := by simp [rtrN, putT]
theorem rN_1 {T : Nat → Int32} {n : Int32} {s : StT} {N : NtT} {i : Nat} : rtrN T n s N 1 i = if i = (N 0 0).toNatClampNeg then kndS T (rtr1 T n s) else N 1 i := by simp [rtrN, putT]
theorem rN_5 {T : Nat → Int32} {n : Int32} {s : StT} {N : NtT} : rtrN T n s N 5 = N 5 := by
  funext i
  simp [rtrN, putT]
theorem rN_6 {T : Nat → Int32} {n : Int32} {s : StT} {N : NtT} {i : Nat} : rtrN T n s N 6 i = N 6 i := by simp [rtrN, putT]
theorem rN_7 {T : Nat → Int32} {n : Int32} {s : StT} {N : NtT} {i : Nat} : rtrN T n s N 7 i = N 7 i := by simp [rtrN, putT]
theorem lkN_00 {T : Nat → Int32} {n : Int32} {s : StT} {N : NtT} : lnkN T n s N 0 0 = N 0 0 := by simp [lnkN, putT]
theorem lkN_01 {T : Nat → Int32} {n : Int32} {s : StT} {N : NtT} : lnkN T n s N 0 1 = N 0 1 + 1 := by simp [lnkN, putT]
theorem lkN_02 {T : Nat → Int32} {n : Int32} {s : StT} {N : NtT} : lnkN T n s N 0 2 = N 0 2 := by simp [lnkN, putT]
theorem lkN_1 {T : Nat → Int32} {n : Int32} {s : StT} {N : NtT} {i : Nat} : lnkN T n s N 1 i = N 1 i := by simp [lnkN, putT]
theorem lkN_5 {T : Nat → Int32} {n : Int32} {s : StT} {N : NtT} {i : Nat} : lnkN T n s N 5 i = if i = (N 0 1).toNatClampNeg then lnkA T n s else N 5 i := by simp [lnkN, putT]
theorem lkN_6 {T : Nat → Int32} {n : Int32} {s : StT} {N : NtT} {i : Nat} : lnkN T n s N 6 i = if i = (N 0 1).toNatClampNeg then lnkB T n s (N 0 0) (N 0 1) (N 5) else N 6 i := by simp [lnkN, putT]
theorem lkN_7 {T : Nat → Int32} {n : Int32} {s : StT} {N : NtT} {i : Nat} : lnkN T n s N 7 i = N 7 i := by simp [lnkN, putT]
theorem gN_00 {T : Nat → Int32} {n : Int32} {s : StT} {N : NtT} : golN T n s N 0 0 = N 0 0 := by simp [golN, putT]
theorem gN_01 {T : Nat → Int32} {n : Int32} {s : StT} {N : NtT} : golN T n s N 0 1 = N 0 1 := by simp [golN, putT]
theorem gN_02 {T : Nat → Int32} {n : Int32} {s : StT} {N : NtT} : golN T n s N 0 2 = N 0 2 + 1 := by simp [golN, putT]
theorem gN_r {T : Nat → Int32} {n : Int32} {s : StT} {N : NtT} {r : Nat} (h0 : ¬ r = 0) (h7 : ¬ r = 7) : golN T n s N r = N r := by
  funext i
  simp [golN, putT, h0, h7]
theorem gN_7 {T : Nat → Int32} {n : Int32} {s : StT} {N : NtT} {i : Nat} : golN T n s N 7 i = if i = (N 0 2).toNatClampNeg then lnkA T n s else N 7 i := by simp [golN, putT]
theorem oN_0 {T : Nat → Int32} {n : Int32} {s : StT} {N : NtT} {i : Nat} (h3 : ¬ i = 3) (h4 : ¬ i = 4) : losN T n s N 0 i = N 0 i := by simp [losN, putT, h3, h4]
theorem oN_r {T : Nat → Int32} {n : Int32} {s : StT} {N : NtT} {r : Nat} (h0 : ¬ r = 0) : losN T n s N r = N r := by
  funext i
  simp [losN, putT, h0]
theorem wf_r {T : Nat → Int32} {n : Int32} {s : StT} {N : NtT} (h : WfT N) (ho : okT (rtrS T n s (N 0 0))) : WfT (rtrN T n s N) := by
  obtain ⟨⟨b0, b1, b2⟩, hk, hl, hc, hg⟩ := h
  have hne : ¬ N 0 0 = 12 := fun w => by
    unfold rtrS at ho
    rw [iteT_t w] at ho
    exact ok_fail ho
  obtain ⟨c0, c1⟩ := iv_up b0 (by decide) (by rw [show Int32.ofInt 12 = 12 from by decide]; exact hne)
  have hkd := rt_knd ho
  refine ⟨⟨by rw [rN_00]; exact c0, by rw [rN_01]; exact b1, by rw [rN_02]; exact b2⟩, ?_, ?_, ?_, ?_⟩
  · intro i hi
    rw [rN_00, c1] at hi
    rw [rN_1]
    by_cases q : i = (N 0 0).toNatClampNeg
    · rw [if_pos q]
      exact hkd
    · rw [if_neg q]
      exact hk i ((lt_nat b0 hi).resolve_right q)
  · intro i hi
    rw [rN_01] at hi
    rw [rN_00, rN_5, rN_6, c1]
    obtain ⟨a1, a2, a3⟩ := hl i hi
    exact ⟨a1, a2, by omega⟩
  · intro a
    rw [rN_01, rN_5]
    exact hc a
  · intro i hi
    rw [rN_02] at hi
    rw [rN_00, rN_7, c1]
    obtain ⟨a1, a2⟩ := hg i hi
    exact ⟨a1, by omega⟩
theorem kl_up {x : Int32} {m : Int} (hx : iv 0 m x) (e : (x + 1).toInt = x.toInt + 1) : (x + 1).toNatClampNeg = x.toNatClampNeg + 1 := by
  have q := cl_nat hx (by decide)
  have h1 := hx.1
  have h2 : iv 0 (m + 1) (x + 1) := ⟨by omega, by have := hx.2; omega⟩
  have q2 := cl_nat h2 (by decide)
  omega
theorem wf_l {T : Nat → Int32} {n : Int32} {s : StT} {N : NtT} (h : WfT N) (ho : okT (lnkS T n s (N 0 0) (N 0 1) (N 5) (N 6))) : WfT (lnkN T n s N) := by
  obtain ⟨⟨b0, b1, b2⟩, hk, hl, hc, hg⟩ := h
  have hne : ¬ N 0 1 = 20 := fun w => by
    unfold lnkS at ho
    rw [iteT_t w] at ho
    exact ok_fail ho
  obtain ⟨c0, c1⟩ := iv_up b1 (by decide) (by rw [show Int32.ofInt 20 = 20 from by decide]; exact hne)
  obtain ⟨hab, hc4⟩ := lk_ok ho
  have e1 := kl_up b1 c1
  refine ⟨⟨by rw [lkN_00]; exact b0, by rw [lkN_01]; exact c0, by rw [lkN_02]; exact b2⟩, ?_, ?_, ?_, ?_⟩
  · intro i hi
    rw [lkN_00] at hi
    rw [lkN_1]
    exact hk i hi
  · intro i hi
    rw [lkN_01, c1] at hi
    rw [lkN_00, lkN_5, lkN_6]
    by_cases q : i = (N 0 1).toNatClampNeg
    · rw [if_pos q, if_pos q]
      exact hab
    · rw [if_neg q, if_neg q]
      exact hl i ((lt_nat b1 hi).resolve_right q)
  · intro a
    rw [lkN_01, e1]
    show cntT (lnkN T n s N 5) a (N 0 1).toNatClampNeg + (if lnkN T n s N 5 (N 0 1).toNatClampNeg = a then 1 else 0) ≤ 4
    rw [cnt_cg (g := N 5) _ (fun i hi => by rw [lkN_5, if_neg (by omega)]), lkN_5, if_pos rfl]
    have h4 := hc a
    by_cases q : lnkA T n s = a
    · rw [if_pos q]
      rw [q] at hc4
      omega
    · rw [if_neg q]
      omega
  · intro i hi
    rw [lkN_02] at hi
    rw [lkN_00, lkN_7]
    exact hg i hi
theorem wf_g {T : Nat → Int32} {n : Int32} {s : StT} {N : NtT} (h : WfT N) (ho : okT (golS T n s (N 0 0) (N 0 2) (N 7))) : WfT (golN T n s N) := by
  obtain ⟨⟨b0, b1, b2⟩, hk, hl, hc, hg⟩ := h
  have hne : ¬ N 0 2 = 3 := fun w => by
    unfold golS at ho
    rw [iteT_t w] at ho
    exact ok_fail ho
  obtain ⟨c0, c1⟩ := iv_up b2 (by decide) (by rw [show Int32.ofInt 3 = 3 from by decide]; exact hne)
  have hab := gl_ok ho
  have r1 : golN T n s N 1 = N 1 := gN_r (by decide) (by decide)
  have r5 : golN T n s N 5 = N 5 := gN_r (by decide) (by decide)
  have r6 : golN T n s N 6 = N 6 := gN_r (by decide) (by decide)
  refine ⟨⟨by rw [gN_00]; exact b0, by rw [gN_01]; exact b1, by rw [gN_02]; exact c0⟩, ?_, ?_, ?_, ?_⟩
  · intro i hi
    rw [gN_00] at hi
    rw [r1]
    exact hk i hi
  · intro i hi
    rw [gN_01] at hi
    rw [gN_00, r5, r6]
    exact hl i hi
  · intro a
    rw [gN_01, r5]
    exact hc a
  · intro i hi
    rw [gN_02, c1] at hi
    rw [gN_00, gN_7]
    by_cases q : i = (N 0 2).toNatClampNeg
    · rw [if_pos q]
      exact hab
    · rw [if_neg q]
      exact hg i ((lt_nat b2 hi).resolve_right q)
theorem wf_o {T : Nat → Int32} {n : Int32} {s : StT} {N : NtT} (h : WfT N) : WfT (losN T n s N) := by
  have r1 : losN T n s N 1 = N 1 := oN_r (by decide)
  have r5 : losN T n s N 5 = N 5 := oN_r (by decide)
  have r6 : losN T n s N 6 = N 6 := oN_r (by decide)
  have r7 : losN T n s N 7 = N 7 := oN_r (by decide)
  have q0 : losN T n s N 0 0 = N 0 0 := oN_0 (by decide) (by decide)
  have q1 : losN T n s N 0 1 = N 0 1 := oN_0 (by decide) (by decide)
  have q2 : losN T n s N 0 2 = N 0 2 := oN_0 (by decide) (by decide)
  unfold WfT
  rw [r1, r5, r6, r7, q0, q1, q2]
  exact h
theorem wf_n {T : Nat → Int32} {n : Int32} {k : TkT} {N : NtT} (h : WfT N) (ho : okT (clsS T n k N)) : WfT (clsN T n k N) := by
  have ho := ok_sgn (ok_next ho)
  unfold clsM at ho
  unfold clsN
  by_cases k0 : clsK T k = 0
  · rw [if_pos k0] at ho ⊢
    exact wf_r h ho
  · rw [if_neg k0] at ho ⊢
    by_cases k1 : clsK T k = 1
    · rw [if_pos k1] at ho ⊢
      exact wf_l h ho
    · rw [if_neg k1] at ho ⊢
      by_cases k2 : clsK T k = 2
      · rw [if_pos k2] at ho ⊢
        exact wf_g h ho
      · rw [if_neg k2]
        exact wf_o h
theorem run_wf {T : Nat → Int32} {n : Int32} : ∀ (f : Nat) (s : StT) (N : NtT), WfT N → okT (runN T n f s N).1 → WfT (runN T n f s N).2 := by
  intro f
  induction f with
  | zero => exact fun s N h _ => h
  | succ f ih =>
    intro s N h ho
    rcases s with q | k
    · exact (ok_l ho).elim
    · by_cases k0 : k.1 = 0
      · have e1 : runN T n (f + 1) (.inr k) N = (.inr k, N) := if_pos k0
        rw [e1]
        exact h
      · have e1 : runN T n (f + 1) (.inr k) N = runN T n f (clsS T n k N) (clsN T n k N) := if_neg k0
        rw [e1] at ho ⊢
        cases hc : clsS T n k N with
        | inl q =>
          rw [hc, runN_l] at ho
          exact (ok_l ho).elim
        | inr k' =>
          rw [hc] at ho
          exact ih (.inr k') _ (wf_n h (by rw [hc]; exact ok_r k')) ho
theorem wf_0 {d kd sa pa mn fr to gl : Nat → Int32} : WfT (NC (fun _ => 0) (upd (upd (upd (upd d 0 0) 1 0) 2 0) 3 5) kd sa pa mn fr to gl) := by
  have z : ∀ {P : Prop} (i : Nat), (i : Int) < ((0 : Int32)).toInt → P := fun i hi => by
    rw [show ((0 : Int32)).toInt = 0 from by decide] at hi
    omega
  exact ⟨⟨(⟨by decide, by decide⟩ : iv 0 12 0), (⟨by decide, by decide⟩ : iv 0 20 0), (⟨by decide, by decide⟩ : iv 0 3 0)⟩, fun i hi => z i hi, fun i hi => z i hi, fun a => show cntT _ a ((0 : Int32)).toNatClampNeg ≤ 4 from by rw [show ((0 : Int32)).toNatClampNeg = 0 from by decide]; exact Nat.zero_le 4, fun i hi => z i hi⟩
