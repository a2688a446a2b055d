/-! what both know of the net that was told -/
def WfN (x kd fr to gl : Nat → Int32) : Prop := WfC (nF fr) (nF to) (x 1).toNatClampNeg (x 0).toNatClampNeg ∧ Lk4 (nF fr) (x 1).toNatClampNeg ∧ (∀ g, g < (x 2).toNatClampNeg → nF gl g < (x 0).toNatClampNeg) ∧ ∀ r, r < (x 0).toNatClampNeg → iv 0 3 (kd r)
def TabC (x fr to gl rc bs br : Nat → Int32) : Prop := RcC (nF fr) (nF to) (x 1).toNatClampNeg (x 0).toNatClampNeg rc ∧ BrA (nF fr) (nF to) (nF gl) (x 1).toNatClampNeg (x 0).toNatClampNeg bs br (x 2).toNatClampNeg
def TabR (t fr to rc : Nat → Int32) : Prop := RrC (nF fr) (nF to) (t 1).toNatClampNeg (t 0).toNatClampNeg rc
theorem cnt_cn {f : Nat → Int32} {r m : Nat} (h : ∀ i, i < m → 0 ≤ (f i).toInt) : cnP (fun l => nF f l = r) m ≤ cntT f (nI r) m := by
  induction m with
  | zero => exact Nat.le_refl _
  | succ m ih =>
    have ih := ih (fun i hi => h i (by omega))
    show _ ≤ cntT f (nI r) m + (if f m = nI r then 1 else 0)
    by_cases p : nF f m = r
    · have q := iv_nk (a := 0) (b := 2147483647) (x := f m) ⟨h m (by omega), (iv_t _).2⟩ (by decide)
      have e : f m = nI r := q.trans (congrArg nI p)
      rw [cn_y (P := fun l => nF f l = r) p, if_pos e]
      omega
    · rw [cn_n (P := fun l => nF f l = r) p]
      omega
theorem wf_told {R : NtT} {x kd sa fr to gl : Nat → Int32} (hw : WfT R) (e : x 0 = R 0 0 ∧ x 1 = R 0 1 ∧ x 2 = R 0 2) (hf : ∀ i : Nat, i < 20 → fr i = R 5 i ∧ to i = R 6 i) (hk : ∀ i : Nat, i < 12 → kd i = R 1 i ∧ sa i = R 2 i) (hg : ∀ i : Nat, i < 3 → gl i = R 7 i) : WfN x kd fr to gl := by
  obtain ⟨⟨b0, b1, b2⟩, wk, wl, wc, wg⟩ := hw
  obtain ⟨e0, e1, e2⟩ := e
  have q0 := cl_nat b0 (by decide)
  have q1 := cl_nat b1 (by decide)
  have q2 := cl_nat b2 (by decide)
  have c0 := b0.2
  have c1 := b1.2
  have c2 := b2.2
  unfold WfN
  rw [e0, e1, e2]
  refine ⟨fun i hi => ?_, fun r => ?_, fun g hg' => ?_, fun r hr => ?_⟩
  · obtain ⟨f1, f2⟩ := hf i (by omega)
    obtain ⟨a1, a2, a3⟩ := wl i (by omega)
    have n1 : nF fr i = (R 5 i).toNatClampNeg := congrArg Int32.toNatClampNeg f1
    have n2 : nF to i = (R 6 i).toNatClampNeg := congrArg Int32.toNatClampNeg f2
    have m1 := cl_nat (a := 0) (b := 2147483647) (x := R 5 i) ⟨a1, (iv_t _).2⟩ (by decide)
    have m2 := cl_nat (a := 0) (b := 2147483647) (x := R 6 i) ⟨by omega, (iv_t _).2⟩ (by decide)
    rw [n1, n2]
    exact ⟨by omega, by omega⟩
  · have h1 := cnt_cn (f := fr) (r := r) (m := (R 0 1).toNatClampNeg) (fun i hi => by rw [(hf i (by omega)).1]; exact (wl i (by omega)).1)
    have h2 := wc (nI r)
    rw [← cnt_cg (f := fr) (g := R 5) (a := nI r) (R 0 1).toNatClampNeg (fun i hi => (hf i (by omega)).1)] at h2
    omega
  · obtain ⟨a1, a2⟩ := wg g (by omega)
    have n1 : nF gl g = (R 7 g).toNatClampNeg := congrArg Int32.toNatClampNeg (hg g (by omega))
    have m1 := cl_nat (a := 0) (b := 2147483647) (x := R 7 g) ⟨a1, (iv_t _).2⟩ (by decide)
    rw [n1]
    omega
  · rw [(hk r (by omega)).1]
    exact wk r (by omega)
def ToldC19 (R : StT × NtT) (x kd sa fr to gl rc bs br x' kd' sa' fr' to' gl' rc' bs' br' : Nat → Int32) : Prop := (codT R.1 = 0 → (okT R.1 ∧ (x' 0 = R.2 0 0 ∧ x' 1 = R.2 0 1 ∧ x' 2 = R.2 0 2) ∧ (∀ i : Nat, i < 20 → fr' i = R.2 5 i ∧ to' i = R.2 6 i) ∧ (∀ i : Nat, i < 12 → kd' i = R.2 1 i ∧ sa' i = R.2 2 i) ∧ ∀ i : Nat, i < 3 → gl' i = R.2 7 i) ∧ TabC x' fr' to' gl' rc' bs' br') ∧ (¬ codT R.1 = 0 → x' = x ∧ kd' = kd ∧ sa' = sa ∧ fr' = fr ∧ to' = to ∧ gl' = gl ∧ rc' = rc ∧ bs' = bs ∧ br' = br)
def Low19 (t kd sa fr to gl t' kd' sa' fr' to' gl' : Nat → Int32) : Prop := (t' 0 = t 0 ∧ t' 1 = t 1 ∧ t' 2 = t 2) ∧ (∀ i : Nat, i < 20 → fr' i = fr i ∧ to' i = to i) ∧ (∀ i : Nat, i < 12 → kd' i = kd i ∧ sa' i = sa i) ∧ ∀ i : Nat, i < 3 → gl' i = gl i
def ToldR19 (R : StT × NtT) (t kd sa fr to gl rc t' kd' sa' fr' to' gl' rc' : Nat → Int32) : Prop := (codT R.1 = 0 → ((t' 0 = R.2 0 0 ∧ t' 1 = R.2 0 1 ∧ t' 2 = R.2 0 2) ∧ (∀ i : Nat, i < 20 → fr' i = R.2 5 i ∧ to' i = R.2 6 i) ∧ (∀ i : Nat, i < 12 → kd' i = R.2 1 i ∧ sa' i = R.2 2 i) ∧ ∀ i : Nat, i < 3 → gl' i = R.2 7 i) ∧ TabR t' fr' to' rc') ∧ (¬ codT R.1 = 0 → Low19 t kd sa fr to gl t' kd' sa' fr' to' gl' ∧ rc' = rc)
def Same19 (x kd sa fr to gl t kq sq fq tq gq : Nat → Int32) : Prop := (x 0 = t 0 ∧ x 1 = t 1 ∧ x 2 = t 2) ∧ (∀ i : Nat, i < (x 1).toNatClampNeg → fr i = fq i ∧ to i = tq i) ∧ (∀ i : Nat, i < (x 0).toNatClampNeg → kd i = kq i ∧ sa i = sq i) ∧ (∀ i : Nat, i < (x 2).toNatClampNeg → gl i = gq i) ∧ WfN x kd fr to gl
theorem same19 {f q d kd0 sa0 pa0 mn0 fr0 to0 gl0 kd1 sa1 pa1 mu1 la1 fr1 to1 gl1 x kd sa fr to gl rc bs br x' kd' sa' fr' to' gl' rc' bs' br' t kq sq fq tq gq rq t' kq' sq' fq' tq' gq' rq' : Nat → Int32} {p : Int32} (h : q = mskT f) (hs : Same19 x kd sa fr to gl t kq sq fq tq gq) (h0 : iv 0 12 (x 0)) (h1 : iv 0 20 (x 1)) (h2 : iv 0 3 (x 2)) (hc : ToldC19 (runN (mskT f) p 700 (Sum.inr (tokT (mskT f) p 0)) (NC (fun _ => 0) (upd (upd (upd (upd d 0 0) 1 0) 2 0) 3 5) kd0 sa0 pa0 mn0 fr0 to0 gl0)) x kd sa fr to gl rc bs br x' kd' sa' fr' to' gl' rc' bs' br') (hr : ToldR19 (runN q p 700 (Sum.inr (tokT q p 0)) (NRz kd1 sa1 pa1 mu1 la1 fr1 to1 gl1)) t kq sq fq tq gq rq t' kq' sq' fq' tq' gq' rq') : Same19 x' kd' sa' fr' to' gl' t' kq' sq' fq' tq' gq' := by
  have e := congrArg codT (net_sim (p := p) (d := d) (kd := kd0) (sa := sa0) (pa := pa0) (mn := mn0) (fr := fr0) (to := to0) (gl := gl0) (kd' := kd1) (sa' := sa1) (pa' := pa1) (mu := mu1) (la := la1) (fr' := fr1) (to' := to1) (gl' := gl1) h)
  by_cases q0 : codT (runN (mskT f) p 700 (Sum.inr (tokT (mskT f) p 0)) (NC (fun _ => 0) (upd (upd (upd (upd d 0 0) 1 0) 2 0) 3 5) kd0 sa0 pa0 mn0 fr0 to0 gl0)).1 = 0
  · obtain ⟨⟨ho, ce, cf, ck, cg⟩, _⟩ := hc.1 q0
    obtain ⟨⟨re, rf, rk, rg⟩, _⟩ := hr.1 (e.symm.trans q0)
    have hw := run_wf 700 _ _ (wf_0 (d := d) (kd := kd0) (sa := sa0) (pa := pa0) (mn := mn0) (fr := fr0) (to := to0) (gl := gl0)) ho
    obtain ⟨⟨s0, s1, s2, _⟩, ⟨b0, b1, b2⟩, sk, sl, sg⟩ := run_sim2 (kd' := kd1) (sa' := sa1) (pa' := pa1) (mu := mu1) (la := la1) (fr' := fr1) (to' := to1) (gl' := gl1) h q0 ho
    have hn := wf_told hw ce cf ck cg
    obtain ⟨c0, c1, c2⟩ := ce
    obtain ⟨r0, r1, r2⟩ := re
    have n0 := cl_nat b0 (by decide)
    have n1 := cl_nat b1 (by decide)
    have n2 := cl_nat b2 (by decide)
    have m0 := b0.2
    have m1 := b1.2
    have m2 := b2.2
    refine ⟨⟨c0.trans (s0.trans r0.symm), c1.trans (s1.trans r1.symm), c2.trans (s2.trans r2.symm)⟩, fun i hi => ?_, fun i hi => ?_, fun i hi => ?_, hn⟩
    · rw [c1] at hi
      obtain ⟨a1, a2⟩ := cf i (by omega)
      obtain ⟨d1, d2⟩ := rf i (by omega)
      obtain ⟨u1, u2⟩ := sl i (by omega)
      exact ⟨a1.trans (u1.trans d1.symm), a2.trans (u2.trans d2.symm)⟩
    · rw [c0] at hi
      obtain ⟨a1, a2⟩ := ck i (by omega)
      obtain ⟨d1, d2⟩ := rk i (by omega)
      obtain ⟨u1, u2, _⟩ := sk i (by omega)
      exact ⟨a1.trans (u1.trans d1.symm), a2.trans (u2.trans d2.symm)⟩
    · rw [c2] at hi
      exact (cg i (by omega)).trans ((sg i (by omega)).trans (rg i (by omega)).symm)
  · obtain ⟨c0, c1, c2, c3, c4, c5, _⟩ := hc.2 q0
    obtain ⟨⟨⟨r0, r1, r2⟩, rf, rk, rg⟩, _⟩ := hr.2 (fun w => q0 (e.trans w))
    subst c0 c1 c2 c3 c4 c5
    obtain ⟨⟨s0, s1, s2⟩, sf, sk, sg, hn⟩ := hs
    have n0 := kl_b h0
    have n1 := kl_b h1
    have n2 := kl_b h2
    refine ⟨⟨s0.trans r0.symm, s1.trans r1.symm, s2.trans r2.symm⟩, fun i hi => ?_, fun i hi => ?_, fun i hi => ?_, hn⟩
    · obtain ⟨d1, d2⟩ := rf i (by omega)
      obtain ⟨u1, u2⟩ := sf i hi
      exact ⟨u1.trans d1.symm, u2.trans d2.symm⟩
    · obtain ⟨d1, d2⟩ := rk i (by omega)
      obtain ⟨u1, u2⟩ := sk i hi
      exact ⟨u1.trans d1.symm, u2.trans d2.symm⟩
    · exact (sg i hi).trans (rg i (by omega)).symm
theorem tab_c {R : StT × NtT} {x kd sa fr to gl rc bs br x' kd' sa' fr' to' gl' rc' bs' br' : Nat → Int32} (hc : ToldC19 R x kd sa fr to gl rc bs br x' kd' sa' fr' to' gl' rc' bs' br') (ht : TabC x fr to gl rc bs br) : TabC x' fr' to' gl' rc' bs' br' := by
  by_cases q0 : codT R.1 = 0
  · exact (hc.1 q0).2
  · obtain ⟨c0, c1, c2, c3, c4, c5, c6, c7, c8⟩ := hc.2 q0
    subst c0 c1 c2 c3 c4 c5 c6 c7 c8
    exact ht
theorem tab_r {R : StT × NtT} {t kd sa fr to gl rc t' kd' sa' fr' to' gl' rc' : Nat → Int32} (hr : ToldR19 R t kd sa fr to gl rc t' kd' sa' fr' to' gl' rc') (h1 : iv 0 20 (t 1)) (ht : TabR t fr to rc) : TabR t' fr' to' rc' := by
  by_cases q0 : codT R.1 = 0
  · exact (hr.1 q0).2
  · obtain ⟨⟨⟨r0, r1, r2⟩, rf, _⟩, rr⟩ := hr.2 q0
    subst rr
    unfold TabR at ht ⊢
    rw [r0, r1]
    have n1 := kl_b h1
    intro a ha b hb
    rw [ht a ha b hb]
    have hc : ∀ i, i < (t 1).toNatClampNeg → nF fr i = nF fr' i ∧ nF to i = nF to' i := fun i hi => ⟨congrArg Int32.toNatClampNeg (rf i (by omega)).1.symm, congrArg Int32.toNatClampNeg (rf i (by omega)).2.symm⟩
    exact ⟨rch_c hc, rch_c (fun i hi => ⟨(hc i hi).1.symm, (hc i hi).2.symm⟩)⟩
theorem same_wf {x kd sa fr to gl t kq sq fq tq gq : Nat → Int32} (h : Same19 x kd sa fr to gl t kq sq fq tq gq) : WfN t kq fq tq gq := by
  obtain ⟨⟨e0, e1, e2⟩, hf, hk, hg, w1, w2, w3, w4⟩ := h
  unfold WfN
  rw [← e0, ← e1, ← e2]
  have hc : ∀ i, i < (x 1).toNatClampNeg → nF fr i = nF fq i ∧ nF to i = nF tq i := fun i hi => ⟨congrArg Int32.toNatClampNeg (hf i hi).1, congrArg Int32.toNatClampNeg (hf i hi).2⟩
  refine ⟨fun i hi => ?_, fun r => ?_, fun g hg' => ?_, fun r hr => ?_⟩
  · rw [← (hc i hi).1, ← (hc i hi).2]
    exact w1 i hi
  · rw [cn_c (P := fun l => nF fq l = r) (Q := fun l => nF fr l = r) (fun i hi => by rw [(hc i hi).1])]
    exact w2 r
  · have n1 : nF gl g = nF gq g := congrArg Int32.toNatClampNeg (hg g hg')
    rw [← n1]
    exact w3 g hg'
  · rw [← (hk r hr).1]
    exact w4 r hr
/-! the answer, as one number -/
noncomputable def covV (W : Nat → Prop) (O : Nat → Nat → Prop) : Int32 := Classical.epsilon (CovT W O)
theorem cov_ex (W : Nat → Prop) (O : Nat → Nat → Prop) : ∃ r, CovT W O r := by
  have key : ∀ k : Nat, (∀ q, q < k → ¬ covd W O q) ∨ ∃ m, m < k ∧ covd W O m ∧ ∀ q, q < m → ¬ covd W O q := by
    intro k
    induction k with
    | zero => exact Or.inl (fun q hq => absurd hq (Nat.not_lt_zero q))
    | succ k ih =>
      rcases ih with ih | ⟨m, h1, h2, h3⟩
      · by_cases w : covd W O k
        · exact Or.inr ⟨k, by omega, w, ih⟩
        · refine Or.inl (fun q hq => ?_)
          by_cases e : q = k
          · rw [e]
            exact w
          · exact ih q (by omega)
      · exact Or.inr ⟨m, by omega, h2, h3⟩
  rcases key 33 with h | ⟨m, h1, h2, h3⟩
  · exact ⟨-1, Or.inr ⟨rfl, h 32 (by omega)⟩⟩
  · exact ⟨nI m, Or.inl ⟨m, by omega, rfl, h2, h3⟩⟩
theorem cov_sp (W : Nat → Prop) (O : Nat → Nat → Prop) : CovT W O (covV W O) := Classical.epsilon_spec (cov_ex W O)
theorem cov_v {W : Nat → Prop} {O : Nat → Nat → Prop} {r : Int32} (h : CovT W O r) : r = covV W O := cov_u h (cov_sp W O) (Or.inl (fun _ _ _ => Iff.rfl))
theorem way_cc {S S' : Nat → Nat → Prop} {T T' : Nat → Nat} {g f r l : Nat} (hS : ∀ r k, S r k → S' r k ∧ T k = T' k) (w : wayP S T g f r l) : wayP S' T' g f r l := by
  induction f generalizing r with
  | zero => exact w
  | succ f ih =>
    obtain ⟨hg, k, hk, w⟩ := w
    obtain ⟨hk', e⟩ := hS r k hk
    refine ⟨hg, k, hk', ?_⟩
    rcases w with w | w
    · exact Or.inl w
    · rw [← e]
      exact Or.inr (ih w)
theorem st_cc {F T F' T' : Nat → Nat} {n m g : Nat} {ch ch' : Nat → Nat → Nat} {r k : Nat} (hc : ∀ i, i < n → F i = F' i ∧ T i = T' i) (hw : WfC F T n m) (hch : ∀ r, r < m → ∀ c, ch r c = ch' r c) (h : stT F T n g ch r k) : stT F' T' n g ch' r k ∧ T k = T' k := by
  obtain ⟨hk, hb, he⟩ := h
  have hc' : ∀ i, i < n → F' i = F i ∧ T' i = T i := fun i hi => ⟨(hc i hi).1.symm, (hc i hi).2.symm⟩
  have key : ∀ i, i < n → (bpT F T n g r i ↔ bpT F' T' n g r i) := fun i hi => by
    obtain ⟨e1, e2⟩ := hc i hi
    unfold bpT
    rw [e1, e2]
    exact ⟨fun w => ⟨w.1, rch_c hc w.2⟩, fun w => ⟨w.1, rch_c hc' w.2⟩⟩
  have hr : r < m := by
    have e := hb.1
    obtain ⟨w1, w2⟩ := hw k hk
    omega
  have n1 : cnP (bpT F T n g r) n = cnP (bpT F' T' n g r) n := cn_c key
  have n2 : cnP (bpT F T n g r) k = cnP (bpT F' T' n g r) k := cn_c (fun i hi => key i (by omega))
  refine ⟨⟨hk, (key k hk).mp hb, ?_⟩, (hc k hk).2⟩
  rw [← n1, ← n2, ← hch r hr]
  exact he
theorem wnt_cc {F T F' T' : Nat → Nat} {n g l : Nat} (hc : ∀ i, i < n → F i = F' i ∧ T i = T' i) (h : wnt F T n g l) : wnt F' T' n g l := by
  obtain ⟨h1, h2, h3⟩ := h
  obtain ⟨e1, e2⟩ := hc l h1
  rw [e1] at h2
  rw [e2] at h3
  exact ⟨h1, rch_c hc h2, rch_c hc h3⟩
theorem cov_w {W W' : Nat → Prop} {O O' : Nat → Nat → Prop} {r : Int32} (h : CovT W O r) (hW : ∀ l, W l ↔ W' l) (hO : ∀ p l, O p l ↔ O' p l) : CovT W' O' r := by
  have e1 : W = W' := funext fun l => propext (hW l)
  have e2 : O = O' := funext fun p => funext fun l => propext (hO p l)
  rw [← e1, ← e2]
  exact h
noncomputable def covS (n : Int32) (kd sa fr to gl tu : Nat → Int32) (p : Int32) : Int32 := @covV (wnt (nF fr) (nF to) n.toNatClampNeg (nF gl p.toNatClampNeg)) (fun q l => wayP (stT (nF fr) (nF to) n.toNatClampNeg (nF gl p.toNatClampNeg) (chN kd sa tu (nI q) p)) (nF to) (nF gl p.toNatClampNeg) 12 0 l)
theorem cov_law {x kd sa fr to gl t kq sq fq tq gq tu nw : Nat → Int32} {p : Int32} (h : Same19 x kd sa fr to gl t kq sq fq tq gq) (h0 : iv 0 12 (x 0)) (ht : fI (fun _ => 0) (fun _ => 59) tu) (hn : fI lNow hNow nw) (hp : p.toNatClampNeg < (x 2).toNatClampNeg) : covS (x 1) kd sa fr to gl tu p = covS (t 1) kq sq fq tq gq nw p := by
  obtain ⟨⟨e0, e1, e2⟩, hf, hk, hg, w1, w2, w3, w4⟩ := h
  have n0 := kl_b h0
  have eg : nF gl p.toNatClampNeg = nF gq p.toNatClampNeg := congrArg Int32.toNatClampNeg (hg _ hp)
  have hc : ∀ i, i < (x 1).toNatClampNeg → nF fr i = nF fq i ∧ nF to i = nF tq i := fun i hi => ⟨congrArg Int32.toNatClampNeg (hf i hi).1, congrArg Int32.toNatClampNeg (hf i hi).2⟩
  have hc' : ∀ i, i < (x 1).toNatClampNeg → nF fq i = nF fr i ∧ nF tq i = nF to i := fun i hi => ⟨(hc i hi).1.symm, (hc i hi).2.symm⟩
  have hch : ∀ (q : Int32) (r : Nat), r < (x 0).toNatClampNeg → ∀ c, chN kd sa nw q p r c = chN kq sq nw q p r c := fun q r hr c => by
    obtain ⟨a1, a2⟩ := hk r hr
    unfold chN
    rw [a1, a2]
  have wq : WfC (nF fq) (nF tq) (x 1).toNatClampNeg (x 0).toNatClampNeg := fun i hi => by
    rw [← (hc i hi).1, ← (hc i hi).2]
    exact w1 i hi
  unfold covS
  rw [← e1, ← eg]
  refine cov_turn (kd := kd) (sa := sa) (tu := tu) (tu' := nw) (gi := p) ht (fun k hk => ?_) (fun r hr => ?_) (cov_sp _ _) (cov_w (cov_sp _ _) (fun l => ⟨wnt_cc hc', wnt_cc hc⟩) (fun q l => ⟨way_cc (fun r k hs => ?_), way_cc (fun r k hs => ?_)⟩))
  · have q := hn k
    simp only [lNow, hNow, if_pos hk] at q
    exact q
  · obtain ⟨l, l1, l2, _⟩ := cn_ex (P := bpT (nF fr) (nF to) (x 1).toNatClampNeg (nF gl p.toNatClampNeg) r) (n := (x 1).toNatClampNeg) (k := 0) (by omega)
    have e := l2.1
    obtain ⟨a1, a2⟩ := w1 l l1
    omega
  · exact st_cc hc' wq (fun r hr c => (hch (nI q) r hr c).symm) hs
  · exact st_cc hc w1 (hch (nI q)) hs
