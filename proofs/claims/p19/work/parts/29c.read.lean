/-! net, in both -/
def NRz (kd sa pa mu la fr to gl : Nat → Int32) : NtT := NR (fun k => if k = 7 then -1 else 0) kd sa pa mu la fr to gl
theorem t9_i {k : Int32} (hk : iv 4 7 k) : (k + Int32.ofInt 1).toInt = k.toInt + 1 ∧ (k.toNatClampNeg : Int) = k.toInt := ⟨iv_inc 1 hk (by decide) (by decide) (by decide) (by decide), cl_nat hk (by decide)⟩
theorem t9_0 {g : Nat → Int32} {k : Int32} (h : (k.toInt ≤ 4 ∨ g 4 = 0) ∧ (k.toInt ≤ 5 ∨ g 5 = 0) ∧ (k.toInt ≤ 6 ∨ g 6 = 0) ∧ (k.toInt ≤ 7 ∨ g 7 = -1)) (hk : iv 4 7 k) (hn : ¬ k = 7) : ((k + Int32.ofInt 1).toInt ≤ 4 ∨ upd g k.toNatClampNeg 0 4 = 0) ∧ ((k + Int32.ofInt 1).toInt ≤ 5 ∨ upd g k.toNatClampNeg 0 5 = 0) ∧ ((k + Int32.ofInt 1).toInt ≤ 6 ∨ upd g k.toNatClampNeg 0 6 = 0) ∧ ((k + Int32.ofInt 1).toInt ≤ 7 ∨ upd g k.toNatClampNeg 0 7 = -1) := by
  obtain ⟨e1, e2⟩ := t9_i hk
  have h1 := hk.1
  have h2 := hk.2
  have h7 : ¬ k.toInt = 7 := fun w => hn (Int32.toInt_inj.mp (by rw [w]; decide))
  obtain ⟨a4, a5, a6, a7⟩ := h
  have u : ∀ j : Nat, upd g k.toNatClampNeg 0 j = if j = k.toNatClampNeg then 0 else g j := fun j => rfl
  rw [u, u, u, u, e1]
  refine ⟨?_, ?_, ?_, Or.inl (by omega)⟩
  · by_cases q : 4 = k.toNatClampNeg
    · rw [if_pos q]; exact Or.inr rfl
    · rw [if_neg q]; exact a4.elim (fun w => by omega) Or.inr
  · by_cases q : 5 = k.toNatClampNeg
    · rw [if_pos q]; exact Or.inr rfl
    · rw [if_neg q]; exact a5.elim (fun w => Or.inl (by omega)) Or.inr
  · by_cases q : 6 = k.toNatClampNeg
    · rw [if_pos q]; exact Or.inr rfl
    · rw [if_neg q]; exact a6.elim (fun w => Or.inl (by omega)) Or.inr
theorem t9_7 {g : Nat → Int32} {k : Int32} (h : (k.toInt ≤ 4 ∨ g 4 = 0) ∧ (k.toInt ≤ 5 ∨ g 5 = 0) ∧ (k.toInt ≤ 6 ∨ g 6 = 0) ∧ (k.toInt ≤ 7 ∨ g 7 = -1)) (hk : k = 7) : ((k + Int32.ofInt 1).toInt ≤ 4 ∨ upd g k.toNatClampNeg (-1) 4 = 0) ∧ ((k + Int32.ofInt 1).toInt ≤ 5 ∨ upd g k.toNatClampNeg (-1) 5 = 0) ∧ ((k + Int32.ofInt 1).toInt ≤ 6 ∨ upd g k.toNatClampNeg (-1) 6 = 0) ∧ ((k + Int32.ofInt 1).toInt ≤ 7 ∨ upd g k.toNatClampNeg (-1) 7 = -1) := by
  subst hk
  obtain ⟨a4, a5, a6, _⟩ := h
  have e : ((7 : Int32)).toInt = 7 := by decide
  rw [e] at a4 a5 a6
  refine ⟨Or.inr ?_, Or.inr ?_, Or.inr ?_, Or.inr rfl⟩
  · exact a4.resolve_left (by omega)
  · exact a5.resolve_left (by omega)
  · exact a6.resolve_left (by omega)
theorem nrz_eq {t kd sa pa mu la fr to gl : Nat → Int32} {k : Int32} (h : (k.toInt ≤ 4 ∨ t 4 = 0) ∧ (k.toInt ≤ 5 ∨ t 5 = 0) ∧ (k.toInt ≤ 6 ∨ t 6 = 0) ∧ (k.toInt ≤ 7 ∨ t 7 = -1)) (hk : 8 ≤ k) : NR t kd sa pa mu la fr to gl = NRz kd sa pa mu la fr to gl := by
  have hk := Int32.le_iff_toInt_le.mp hk
  rw [show ((8 : Int32)).toInt = 8 from by decide] at hk
  obtain ⟨a4, a5, a6, a7⟩ := h
  have a4 := a4.resolve_left (by omega)
  have a5 := a5.resolve_left (by omega)
  have a6 := a6.resolve_left (by omega)
  have a7 := a7.resolve_left (by omega)
  unfold NRz NR
  rw [a4, a5, a6, a7]
  rfl
theorem rx_a2 {T y : Nat → Int32} {n : Int32} {k : TkT} {N N0 : NtT} (h : RRd T n y (.inr k)) (hp : y 4 = 0 ∨ ((0 : Int32)).toInt + 1 ≤ (y 2).toInt) (e : N = N0) : RRd T n y (stR y) ∧ RunX T n y (stR y) N (.inr k) N0 := by
  subst e
  exact rx_a h hp
theorem rc_pl1 {T x : Nat → Int32} {n lt : Int32} {s : StT} (h : RC T n lt x s) (hc : ¬ codT s = 0) : x 0 = plaT s := by
  obtain ⟨h, _⟩ := h
  rcases s with q | k
  · obtain ⟨_, h0, _⟩ := h
    exact h0
  · exact absurd rfl hc
theorem rc_pl0 {T x : Nat → Int32} {n lt : Int32} {s : StT} (h : RC T n lt x s) (hc : codT s = 0) : -1 = plaT s := by
  obtain ⟨h, _⟩ := h
  rcases s with q | k
  · obtain ⟨_, _, h3⟩ := h
    exact absurd hc h3
  · rfl
theorem t4_1 {x : Int32} {m : Int} (hx : iv 0 m x) (hm : m ≤ 699) : iv 0 (m + 1) (x + 1) ∧ (x + 1).toInt = x.toInt + 1 := by
  have h1 := hx.1
  have h2 := hx.2
  have e : (x + 1).toInt = x.toInt + 1 := iv_addc (iv_w hx (Int.le_refl 0) hm) (c := 1) (by decide) (by decide) (by decide)
  exact ⟨⟨by omega, by omega⟩, e⟩
theorem t4_m {x : Int32} {m : Int} (hx : iv 0 m x) (hm : m ≤ 696) : iv 0 (m + 4) (t4T x) ∧ (t4T x).toInt = x.toInt + 4 := by
  obtain ⟨a1, e1⟩ := t4_1 hx (by omega)
  obtain ⟨a2, e2⟩ := t4_1 a1 (by omega)
  obtain ⟨a3, e3⟩ := t4_1 a2 (by omega)
  obtain ⟨a4, e4⟩ := t4_1 a3 (by omega)
  exact ⟨iv_w a4 (by omega) (by omega), by show (((x + 1) + 1) + 1 + 1).toInt = _; omega⟩
theorem t4_4 {x : Int32} (hx : iv 0 696 x) : (t4T x).toInt = x.toInt + 4 := (t4_m hx (by decide)).2
theorem t4_20 {x : Int32} (hx : iv 0 680 x) : (t4T (t4T (t4T (t4T (t4T x))))).toInt = x.toInt + 20 := by
  obtain ⟨a1, e1⟩ := t4_m hx (by decide)
  obtain ⟨a2, e2⟩ := t4_m a1 (by decide)
  obtain ⟨a3, e3⟩ := t4_m a2 (by decide)
  obtain ⟨a4, e4⟩ := t4_m a3 (by decide)
  obtain ⟨a5, e5⟩ := t4_m a4 (by decide)
  omega
theorem sim_0 {d kd sa pa mn fr to gl kd' sa' pa' mu la fr' to' gl' : Nat → Int32} : SimT (NC (fun _ => 0) (upd (upd (upd (upd d 0 0) 1 0) 2 0) 3 5) kd sa pa mn fr to gl) (NRz kd' sa' pa' mu la fr' to' gl') := by
  refine ⟨⟨rfl, rfl, rfl, rfl, fun w => absurd rfl w⟩, ⟨(⟨by decide, by decide⟩ : iv 0 12 0), (⟨by decide, by decide⟩ : iv 0 20 0), (⟨by decide, by decide⟩ : iv 0 3 0)⟩, ?_, ?_, ?_⟩
  · intro i hi
    have hi : (i : Int) < ((0 : Int32)).toInt := hi
    rw [show ((0 : Int32)).toInt = 0 from by decide] at hi
    omega
  · intro i hi
    have hi : (i : Int) < ((0 : Int32)).toInt := hi
    rw [show ((0 : Int32)).toInt = 0 from by decide] at hi
    omega
  · intro i hi
    have hi : (i : Int) < ((0 : Int32)).toInt := hi
    rw [show ((0 : Int32)).toInt = 0 from by decide] at hi
    omega
theorem net_sim {f q d kd sa pa mn fr to gl kd' sa' pa' mu la fr' to' gl' : Nat → Int32} {p : Int32} (h : q = mskT f) : (runN (mskT f) p 700 (Sum.inr (tokT (mskT f) p 0)) (NC (fun _ => 0) (upd (upd (upd (upd d 0 0) 1 0) 2 0) 3 5) kd sa pa mn fr to gl)).1 = (runN q p 700 (Sum.inr (tokT q p 0)) (NRz kd' sa' pa' mu la fr' to' gl')).1 := by
  subst h
  exact (run_sim 700 _ _ _ sim_0).1
theorem im_eq {a b a' b' c d : Int32} (h : a = b) (hc : (c = 0 → a' = 0) ∧ (¬ c = 0 → a' = a)) (hd : (d = 0 → b' = 0) ∧ (¬ d = 0 → b' = b)) (e : c = d) : a' = b' := by
  subst e
  by_cases q : c = 0
  · rw [hc.1 q, hd.1 q]
  · rw [hc.2 q, hd.2 q, h]
theorem rs_eq {a b r t : Int32} (h : a = b) (h1 : (r = 0 ∧ a = 0) ∨ (r = 1 ∧ ¬ a = 0)) (h2 : (t = 0 ∧ b = 0) ∨ (t = 1 ∧ ¬ b = 0)) : r = t := by
  subst h
  rcases h1 with ⟨e1, f1⟩ | ⟨e1, f1⟩ <;> rcases h2 with ⟨e2, f2⟩ | ⟨e2, f2⟩
  · rw [e1, e2]
  · exact absurd f1 f2
  · exact absurd f2 f1
  · rw [e1, e2]
/-! the net that is told, in both -/
theorem cpy_eq {f g : Nat → Int32} {n : Nat} : ∀ i : Nat, i < n → va_cpy f g 0 0 n i = f i := fun i hi => by
  unfold va_cpy
  rw [if_pos ⟨Nat.zero_le _, by omega⟩]
  simp
theorem run_sim2 {f q d kd sa pa mn fr to gl kd' sa' pa' mu la fr' to' gl' : Nat → Int32} {p : Int32} (h : q = mskT f) (ho : codT (runN (mskT f) p 700 (Sum.inr (tokT (mskT f) p 0)) (NC (fun _ => 0) (upd (upd (upd (upd d 0 0) 1 0) 2 0) 3 5) kd sa pa mn fr to gl)).1 = 0) (hn : okT (runN (mskT f) p 700 (Sum.inr (tokT (mskT f) p 0)) (NC (fun _ => 0) (upd (upd (upd (upd d 0 0) 1 0) 2 0) 3 5) kd sa pa mn fr to gl)).1) : SimT (runN (mskT f) p 700 (Sum.inr (tokT (mskT f) p 0)) (NC (fun _ => 0) (upd (upd (upd (upd d 0 0) 1 0) 2 0) 3 5) kd sa pa mn fr to gl)).2 (runN q p 700 (Sum.inr (tokT q p 0)) (NRz kd' sa' pa' mu la fr' to' gl')).2 := by
  subst h
  exact (run_sim 700 _ _ _ sim_0).2 hn
def ToldC (R : StT × NtT) (xn fr to xn' fr' to' : Nat → Int32) : Prop := (codT R.1 = 0 → okT R.1 ∧ xn' 0 = R.2 0 0 ∧ xn' 1 = R.2 0 1 ∧ xn' 2 = R.2 0 2 ∧ ∀ i : Nat, i < 20 → fr' i = R.2 5 i ∧ to' i = R.2 6 i) ∧ (¬ codT R.1 = 0 → xn' = xn ∧ fr' = fr ∧ to' = to)
def ToldR (R : StT × NtT) (t fr to t' fr' to' : Nat → Int32) : Prop := (codT R.1 = 0 → t' 0 = R.2 0 0 ∧ t' 1 = R.2 0 1 ∧ t' 2 = R.2 0 2 ∧ ∀ i : Nat, i < 20 → fr' i = R.2 5 i ∧ to' i = R.2 6 i) ∧ (¬ codT R.1 = 0 → (t' 0 = t 0 ∧ t' 1 = t 1 ∧ t' 2 = t 2) ∧ ∀ i : Nat, i < 20 → fr' i = fr i ∧ to' i = to i)
def SameT (xn fr to t fq tq : Nat → Int32) : Prop := (xn 0 = t 0 ∧ xn 1 = t 1 ∧ xn 2 = t 2) ∧ ∀ i : Nat, (i : Int) < (xn 1).toInt → fr i = fq i ∧ to i = tq i
theorem same_net {f q d kd sa pa mn fr to gl kd' sa' pa' mu la fr' to' gl' xn nf nt xn' nf' nt' t tf tt t' tf' tt' : Nat → Int32} {p : Int32} (h : q = mskT f) (hs : SameT xn nf nt t tf tt) (hb : iv 0 20 (xn 1)) (hc : ToldC (runN (mskT f) p 700 (Sum.inr (tokT (mskT f) p 0)) (NC (fun _ => 0) (upd (upd (upd (upd d 0 0) 1 0) 2 0) 3 5) kd sa pa mn fr to gl)) xn nf nt xn' nf' nt') (hr : ToldR (runN q p 700 (Sum.inr (tokT q p 0)) (NRz kd' sa' pa' mu la fr' to' gl')) t tf tt t' tf' tt') : SameT xn' nf' nt' t' tf' tt' := by
  have e := congrArg codT (net_sim (p := p) (d := d) (kd := kd) (sa := sa) (pa := pa) (mn := mn) (fr := fr) (to := to) (gl := gl) (kd' := kd') (sa' := sa') (pa' := pa') (mu := mu) (la := la) (fr' := fr') (to' := to') (gl' := gl') h)
  by_cases q0 : codT (runN (mskT f) p 700 (Sum.inr (tokT (mskT f) p 0)) (NC (fun _ => 0) (upd (upd (upd (upd d 0 0) 1 0) 2 0) 3 5) kd sa pa mn fr to gl)).1 = 0
  · obtain ⟨ho, c0, c1, c2, ca⟩ := hc.1 q0
    obtain ⟨r0, r1, r2, ra⟩ := hr.1 (e.symm.trans q0)
    obtain ⟨⟨s0, s1, s2, _⟩, ⟨_, b1, _⟩, _, sl, _⟩ := run_sim2 (kd' := kd') (sa' := sa') (pa' := pa') (mu := mu) (la := la) (fr' := fr') (to' := to') (gl' := gl') h q0 ho
    refine ⟨⟨c0.trans (s0.trans r0.symm), c1.trans (s1.trans r1.symm), c2.trans (s2.trans r2.symm)⟩, fun i hi => ?_⟩
    rw [c1] at hi
    have h20 : i < 20 := by have := b1.2; omega
    obtain ⟨a1, a2⟩ := ca i h20
    obtain ⟨d1, d2⟩ := ra i h20
    obtain ⟨u1, u2⟩ := sl i hi
    exact ⟨a1.trans (u1.trans d1.symm), a2.trans (u2.trans d2.symm)⟩
  · obtain ⟨c0, c1, c2⟩ := hc.2 q0
    obtain ⟨⟨r0, r1, r2⟩, ra⟩ := hr.2 (fun w => q0 (e.trans w))
    subst c0 c1 c2
    refine ⟨⟨hs.1.1.trans r0.symm, hs.1.2.1.trans r1.symm, hs.1.2.2.trans r2.symm⟩, fun i hi => ?_⟩
    have h20 : i < 20 := by have := hb.2; omega
    obtain ⟨d1, d2⟩ := ra i h20
    obtain ⟨u1, u2⟩ := hs.2 i hi
    exact ⟨u1.trans d1.symm, u2.trans d2.symm⟩
/-- what the reference read before stays while it reads -/
def LowT (t fr to t' fr' to' : Nat → Int32) : Prop := (∀ j : Nat, j < 4 → t' j = t j) ∧ ∀ i : Nat, i < 20 → fr' i = fr i ∧ to' i = to i
theorem low_0 {t fr to : Nat → Int32} : LowT t fr to t fr to := ⟨fun _ _ => rfl, fun _ _ => ⟨rfl, rfl⟩⟩
theorem low_t {t fr to : Nat → Int32} {k : Nat} {v : Int32} (hk : 4 ≤ k) : LowT t fr to (upd t k v) fr to := ⟨fun j hj => upd_ne (by omega), fun _ _ => ⟨rfl, rfl⟩⟩
theorem low_l {t fr to : Nat → Int32} {v a b c : Int32} {k : Nat} (hk : 4 ≤ k) (hc : iv 0 20 c) : LowT t fr to (upd t k v) (upd fr (20 + c).toNatClampNeg a) (upd to (20 + c).toNatClampNeg b) := by
  have e := sh_x (h := 20) (c := 20) (by decide) (by decide) (iv_w hc (by decide) (by decide) : iv 0 700 c)
  exact ⟨fun j hj => upd_ne (by omega), fun i hi => ⟨upd_ne (by omega), upd_ne (by omega)⟩⟩
theorem low_tr {t fr to t' fr' to' t2 fr2 to2 : Nat → Int32} (h : LowT t fr to t' fr' to') (h2 : LowT t' fr' to' t2 fr2 to2) : LowT t fr to t2 fr2 to2 := ⟨fun j hj => (h2.1 j hj).trans (h.1 j hj), fun i hi => ⟨(h2.2 i hi).1.trans (h.2 i hi).1, (h2.2 i hi).2.trans (h.2 i hi).2⟩⟩
theorem nt_c {T x : Nat → Int32} {n lt : Int32} {R : StT × NtT} {N : NtT} (h : RC T n lt x R.1) (hn : x 1 = 0 → N = R.2) (hc : codT R.1 = 0) : okT R.1 ∧ N = R.2 := by
  have e : x 1 = 0 := (stc_cod h).trans hc
  exact ⟨rdc_ok h e, hn e⟩
theorem it_t {P : Prop} {a b : StT} {Q : StT → Prop} (h : P) (q : Q a) : Q (iteT P a b) := by
  rw [iteT_t h]
  exact q
theorem it_f {P : Prop} {a b : StT} {Q : StT → Prop} (h : ¬ P) (q : Q b) : Q (iteT P a b) := by
  rw [iteT_f h]
  exact q
theorem rr_z {T x : Nat → Int32} {n : Int32} {k : TkT} (h : RRd T n x (.inr k)) : x 8 = 0 := by
  obtain ⟨⟨h8, _⟩, _⟩ := h
  exact h8
