/-! the class's loops, at its own numbers -/
theorem rc_b {g r : Int32} (hg : iv 0 2 g) (hr : iv 0 11 r) : 12 * g.toNatClampNeg + r.toNatClampNeg < 36 := by
  have q1 := kl_b hg
  have q2 := kl_b hr
  omega
theorem bf_0 {F T G : Nat → Nat} {n m : Nat} {Rr Bs B : Nat → Int32} (h : RcC F T n m Rr) : BF16 F T G n m Rr Bs B ((0 : Int32)).toNatClampNeg 0 := by
  rw [kz0]
  exact ⟨h, fun g' hg => absurd hg (Nat.not_lt_zero g'), fun r' hr => absurd hr (Nat.not_lt_zero r')⟩
theorem bf_c {F T G : Nat → Nat} {n m g : Nat} {Rr Bs B : Nat → Int32} (h : BF16 F T G n m Rr Bs B g 0) : BF16 F T G n m Rr Bs B g ((0 : Int32)).toNatClampNeg := by
  rw [kz0]
  exact h
theorem bf_6i {F T G : Nat → Nat} {m : Nat} {Rr Bs B : Nat → Int32} {g i x : Int32} (h : BF44 F T G x.toNatClampNeg m Rr Bs B g.toNatClampNeg i.toNatClampNeg) (hg : iv 0 2 g) (hi : iv 0 20 i) (hx : iv 0 20 x) (he : x ≤ i) : BF16 F T G x.toNatClampNeg m Rr Bs B (g + Int32.ofInt 1).toNatClampNeg 0 := by
  rw [kl_s hg (by decide)]
  exact bf_6 h (kl_le hi hx he)
theorem bf_16t {F T G : Nat → Nat} {n : Nat} {Rr Bs B : Nat → Int32} {g r x : Int32} (h : BF16 F T G n x.toNatClampNeg Rr Bs B g.toNatClampNeg r.toNatClampNeg) (hx : iv 0 12 x) (hg : iv 0 2 g) (hr : iv 0 11 r) (hl : r < x) : BF16 F T G n x.toNatClampNeg Rr (upd Bs ((g * 12) + r).toNatClampNeg 0) B g.toNatClampNeg (r + Int32.ofInt 1).toNatClampNeg := by
  have q := rc_b hg hr
  have q2 := kl_b hx
  rw [kl_s hr (by decide)]
  exact bf_16s h (by omega) (kl_lt hr hx hl) (by rw [row_eq hg hr, nI_clamp (by omega)])
theorem bf_44j {F T G : Nat → Nat} {n : Nat} {Rr Bs B : Nat → Int32} {g r x : Int32} (h : BF16 F T G n x.toNatClampNeg Rr Bs B g.toNatClampNeg r.toNatClampNeg) (hr : iv 0 12 r) (hx : iv 0 12 x) (he : x ≤ r) : BF44 F T G n x.toNatClampNeg Rr Bs B g.toNatClampNeg ((0 : Int32)).toNatClampNeg := by
  rw [kz0]
  exact bf_44i h (kl_le hr hx he)
theorem bf_r {x kd fr to gl Rr Bs B : Nat → Int32} {g i : Int32} (h : BF44 (nF fr) (nF to) (nF gl) (x 1).toNatClampNeg (x 0).toNatClampNeg Rr Bs B g.toNatClampNeg i.toNatClampNeg) (hW : WfN x kd fr to gl) (hx1 : iv 0 20 (x 1)) (hi : iv 0 19 i) (hl : i < x 1) (hgl : iv 0 11 (gl g.toNatClampNeg)) : bt (Rr (to i.toNatClampNeg).toNatClampNeg) (gl g.toNatClampNeg).toNatClampNeg ↔ Rch (nF fr) (nF to) (x 1).toNatClampNeg (nF to i.toNatClampNeg) (nF gl g.toNatClampNeg) := by
  have q := kl_b hgl
  exact h.1 _ (hW.1 _ (kl_lt hi hx1 hl)).2 _ (by show (gl g.toNatClampNeg).toNatClampNeg < 12; omega)
theorem bf_b3 {x kd fr to gl Rr Bs B : Nat → Int32} {g i : Int32} (h : BF44 (nF fr) (nF to) (nF gl) (x 1).toNatClampNeg (x 0).toNatClampNeg Rr Bs B g.toNatClampNeg i.toNatClampNeg) (hW : WfN x kd fr to gl) (hx1 : iv 0 20 (x 1)) (hi : iv 0 19 i) (hl : i < x 1) (hg : iv 0 2 g) (hf : iv 0 11 (fr i.toNatClampNeg)) (hgl : iv 0 11 (gl g.toNatClampNeg)) (hb : bt (Rr (to i.toNatClampNeg).toNatClampNeg) (gl g.toNatClampNeg).toNatClampNeg) : iv 0 3 (Bs ((g * 12) + (fr i.toNatClampNeg)).toNatClampNeg) := by
  have hr := (bf_r h hW hx1 hi hl hgl).mp hb
  have hin := kl_lt hi hx1 hl
  have q := rc_b hg hf
  obtain ⟨w1, w2⟩ := hW.1 _ hin
  have h4 := bpf_4 hW.2.1 hin (⟨rfl, hr⟩ : bpT (nF fr) (nF to) (x 1).toNatClampNeg (nF gl g.toNatClampNeg) (nF fr i.toNatClampNeg) i.toNatClampNeg)
  obtain ⟨b1, _⟩ := h.2.2.2 (nF fr i.toNatClampNeg) (by omega)
  rw [row_eq hg hf, nI_clamp (by omega)]
  have b1 : Bs (12 * g.toNatClampNeg + (fr i.toNatClampNeg).toNatClampNeg) = _ := b1
  rw [b1]
  exact iv_nIv (by omega) (by omega) (by omega)
theorem bf_44t {x kd fr to gl Rr Bs B Bs' B' : Nat → Int32} {g i : Int32} (h : BF44 (nF fr) (nF to) (nF gl) (x 1).toNatClampNeg (x 0).toNatClampNeg Rr Bs B g.toNatClampNeg i.toNatClampNeg) (hW : WfN x kd fr to gl) (hx0 : iv 0 12 (x 0)) (hx1 : iv 0 20 (x 1)) (hi : iv 0 19 i) (hl : i < x 1) (hg : iv 0 2 g) (hf : iv 0 11 (fr i.toNatClampNeg)) (hgl : iv 0 11 (gl g.toNatClampNeg)) (hb : bt (Rr (to i.toNatClampNeg).toNatClampNeg) (gl g.toNatClampNeg).toNatClampNeg) (e1 : Bs' = upd Bs ((g * 12) + (fr i.toNatClampNeg)).toNatClampNeg ((Bs ((g * 12) + (fr i.toNatClampNeg)).toNatClampNeg) + 1)) (e2 : B' = upd B ((((g * 12) + (fr i.toNatClampNeg)) * 4) + (Bs ((g * 12) + (fr i.toNatClampNeg)).toNatClampNeg)).toNatClampNeg i) : BF44 (nF fr) (nF to) (nF gl) (x 1).toNatClampNeg (x 0).toNatClampNeg Rr Bs' B' g.toNatClampNeg (i + Int32.ofInt 1).toNatClampNeg := by
  have hr := (bf_r h hW hx1 hi hl hgl).mp hb
  have q0 := kl_b hx0
  have q1 := kl_b hg
  rw [kl_s hi (by decide)]
  have e2 : B' = upd B ((((g * 12) + (fr i.toNatClampNeg)) * 4) + (Bs ((g * 12) + (fr i.toNatClampNeg)).toNatClampNeg)).toNatClampNeg (nI i.toNatClampNeg) := e2.trans (congrArg _ (iv_nk hi (by decide)))
  exact bf_44y h hW.2.1 hW.1 (by omega) (kl_lt hi hx1 hl) (by omega) hr (row_eq hg hf) e1 e2
theorem bf_44u {x kd fr to gl Rr Bs B : Nat → Int32} {g i : Int32} (h : BF44 (nF fr) (nF to) (nF gl) (x 1).toNatClampNeg (x 0).toNatClampNeg Rr Bs B g.toNatClampNeg i.toNatClampNeg) (hW : WfN x kd fr to gl) (hx1 : iv 0 20 (x 1)) (hi : iv 0 19 i) (hl : i < x 1) (hgl : iv 0 11 (gl g.toNatClampNeg)) (hb : ¬ bt (Rr (to i.toNatClampNeg).toNatClampNeg) (gl g.toNatClampNeg).toNatClampNeg) : BF44 (nF fr) (nF to) (nF gl) (x 1).toNatClampNeg (x 0).toNatClampNeg Rr Bs B g.toNatClampNeg (i + Int32.ofInt 1).toNatClampNeg := by
  rw [kl_s hi (by decide)]
  exact bf_44n h (kl_lt hi hx1 hl) (fun w => hb ((bf_r h hW hx1 hi hl hgl).mpr w))
theorem bf_tab {x fr to gl Rr Bs B : Nat → Int32} {g : Int32} (h : BF16 (nF fr) (nF to) (nF gl) (x 1).toNatClampNeg (x 0).toNatClampNeg Rr Bs B g.toNatClampNeg 0) (hg : iv 0 3 g) (hx2 : iv 0 3 (x 2)) (he : x 2 ≤ g) : TabC x fr to gl Rr Bs B := by
  have q := kl_le hg hx2 he
  exact ⟨h.1, fun g' hg' => h.2.1 g' (by omega)⟩
theorem ch_k1 {kd sa tu p g n : Int32} (h : kd = 1) : chI kd sa tu p g n = (((7 * p) + (13 * g)) + sa) - (((7 * p) + (13 * g)) + sa) / n * n := if_pos h
theorem ch_k2 {kd sa tu p g n : Int32} (h : kd = 2) : chI kd sa tu p g n = tu - tu / n * n := by
  subst h
  exact ch_2
theorem ch_k3 {kd sa tu p g n : Int32} (h : kd = 3) : chI kd sa tu p g n = ((13 * g) + sa) - ((13 * g) + sa) / n * n := by
  subst h
  unfold chI
  rw [if_neg (by decide), if_neg (by decide), if_pos rfl]
theorem ch_k0 {kd sa tu p g n : Int32} (h1 : ¬ kd = 1) (h2 : ¬ kd = 2) (h3 : ¬ kd = 3) : chI kd sa tu p g n = 0 := by
  unfold chI
  rw [if_neg h1, if_neg h2, if_neg h3]
theorem lo_12 {f : Nat → Int32} {k : Nat} (h : iv 0 11 (f k)) : nF f k < 12 := by
  have q := kl_b h
  show (f k).toNatClampNeg < 12
  omega
theorem lo_y {x kd fr to gl rc bs br : Nat → Int32} {i p : Int32} (hW : WfN x kd fr to gl) (hT : TabC x fr to gl rc bs br) (hx1 : iv 0 20 (x 1)) (hi : iv 0 19 i) (hl : i < x 1) (hf : iv 0 11 (fr i.toNatClampNeg)) (hg : iv 0 11 (gl p.toNatClampNeg)) (b1 : bt (rc ((0 : Int32)).toNatClampNeg) (fr i.toNatClampNeg).toNatClampNeg) (b2 : bt (rc (to i.toNatClampNeg).toNatClampNeg) (gl p.toNatClampNeg).toNatClampNeg) : wnt (nF fr) (nF to) (x 1).toNatClampNeg (nF gl p.toNatClampNeg) i.toNatClampNeg := by
  have hin := kl_lt hi hx1 hl
  obtain ⟨w1, w2⟩ := hW.1 _ hin
  rw [kz0] at b1
  exact ⟨hin, (hT.1 0 (by omega) _ (lo_12 hf)).mp b1, (hT.1 _ w2 _ (lo_12 hg)).mp b2⟩
theorem lo_n1 {x kd fr to gl rc bs br : Nat → Int32} {i : Int32} {g : Nat} (hW : WfN x kd fr to gl) (hT : TabC x fr to gl rc bs br) (hx1 : iv 0 20 (x 1)) (hi : iv 0 19 i) (hl : i < x 1) (hf : iv 0 11 (fr i.toNatClampNeg)) (b1 : ¬ bt (rc ((0 : Int32)).toNatClampNeg) (fr i.toNatClampNeg).toNatClampNeg) : ¬ wnt (nF fr) (nF to) (x 1).toNatClampNeg g i.toNatClampNeg := fun w => by
  obtain ⟨w1, w2⟩ := hW.1 _ (kl_lt hi hx1 hl)
  rw [kz0] at b1
  exact b1 ((hT.1 0 (by omega) _ (lo_12 hf)).mpr w.2.1)
theorem lo_n2 {x kd fr to gl rc bs br : Nat → Int32} {i p : Int32} (hW : WfN x kd fr to gl) (hT : TabC x fr to gl rc bs br) (hx1 : iv 0 20 (x 1)) (hi : iv 0 19 i) (hl : i < x 1) (hg : iv 0 11 (gl p.toNatClampNeg)) (b2 : ¬ bt (rc (to i.toNatClampNeg).toNatClampNeg) (gl p.toNatClampNeg).toNatClampNeg) : ¬ wnt (nF fr) (nF to) (x 1).toNatClampNeg (nF gl p.toNatClampNeg) i.toNatClampNeg := fun w => by
  obtain ⟨w1, w2⟩ := hW.1 _ (kl_lt hi hx1 hl)
  exact b2 ((hT.1 _ w2 _ (lo_12 hg)).mpr w.2.2)
theorem tke_o {F T : Nat → Nat} {n g : Nat} {kd sa tu x : Nat → Int32} {v gi : Int32} (h : TkE (stT F T n g (chN kd sa tu v gi)) T g x) (hv : iv 0 31 v) : ∀ l, l < 32 → (bt (x 6) l ↔ wayP (stT F T n g (chN kd sa tu (nI v.toNatClampNeg) gi)) T g 12 0 l) := by
  rw [← iv_nk hv (by decide)]
  exact h
theorem wko_o {F T : Nat → Nat} {n g : Nat} {kd sa tu : Nat → Int32} {v gi w : Int32} (h : ∀ l, l < 32 → (bt w l ↔ wayP (stT F T n g (chN kd sa tu v gi)) T g 12 0 l)) (hv : iv 0 31 v) : ∀ l, l < 32 → (bt w l ↔ wayP (stT F T n g (chN kd sa tu (nI v.toNatClampNeg) gi)) T g 12 0 l) := by
  rw [← iv_nk hv (by decide)]
  exact h
theorem wn_32 {F T : Nat → Nat} {x : Int32} {g : Nat} (hx : iv 0 20 x) : ∀ l, wnt F T x.toNatClampNeg g l → l < 32 := fun l h => by
  have q := kl_b hx
  have h1 := h.1
  omega
/-! the reference -/
theorem wf_lt {x kd fr to gl : Nat → Int32} (h : WfN x kd fr to gl) : LtC (nF fr) (nF to) (x 1).toNatClampNeg := fun i hi => (h.1 i hi).1
theorem lt_lt {t fr to : Nat → Int32} (h : ∀ j : Nat, (j : Int) < (t 1).toInt → (fr j).toInt < (to j).toInt) (ht : iv 0 20 (t 1)) (hf : ∀ j, iv 0 11 (fr j)) (ho : ∀ j, iv 0 11 (to j)) : LtC (nF fr) (nF to) (t 1).toNatClampNeg := fun i hi => by
  have q := cl_nat ht (by decide)
  have h1 := h i (by omega)
  have q1 := cl_nat (hf i) (by decide)
  have q2 := cl_nat (ho i) (by decide)
  show (fr i).toNatClampNeg < (to i).toNatClampNeg
  omega
theorem lw_n0 {W : Nat → Prop} {b i : Int32} (h : LwR W b i.toNatClampNeg) (hi : iv 0 19 i) (hw : ¬ W i.toNatClampNeg) : LwR W (b ||| 0) (i + Int32.ofInt 1).toNatClampNeg := by
  rw [or_z]
  exact lw_n h hi hw
theorem rl_r {t kd fr to gl rc : Nat → Int32} {i : Int32} (hW : WfN t kd fr to gl) (hT : TabR t fr to rc) (hx1 : iv 0 20 (t 1)) (hi : iv 0 19 i) (hl : i < t 1) : (rc (fr i.toNatClampNeg).toNatClampNeg) &&& 1 = 1 ↔ Rch (nF fr) (nF to) (t 1).toNatClampNeg 0 (nF fr i.toNatClampNeg) := by
  obtain ⟨w1, w2⟩ := hW.1 _ (kl_lt hi hx1 hl)
  rw [bt_and1]
  exact hT (nF fr i.toNatClampNeg) (by omega) 0 (by decide)
theorem gb_m {P : Nat → Prop} {n : Nat} {c : Int32} (hn : n ≤ 20) (hm : c = nI (cnP P n)) (h0 : ¬ c = 0) : 0 < cnP P n ∧ cnP P n < 1000 := by
  have q := cn_20 (P := P) n
  refine ⟨?_, by omega⟩
  rcases Nat.eq_zero_or_pos (cnP P n) with w | w
  · exact absurd (hm.trans (by rw [w]; rfl)) h0
  · exact w
theorem gb_lt {F T : Nat → Nat} {n g r : Nat} {kd sa nw : Nat → Int32} {p gi i c : Int32} (hn : n ≤ 20) (hm : c = nI (cnP (bpT F T n g r) n)) (h0 : ¬ c = 0) (hd : (kd r = 0 ∧ i = 0) ∨ (kd r = 1 ∧ i = ((7 * p) + (13 * gi)) + sa r) ∨ (kd r = 3 ∧ i = (13 * gi) + sa r) ∨ (kd r = 2 ∧ i = nw r)) (hs : iv 0 15 (sa r)) (ht : iv 0 59 (nw r)) (hp : iv 0 31 p) (hg : iv 0 2 gi) : (i - i / c * c).toNatClampNeg < cnP (bpT F T n g r) n := by
  obtain ⟨m1, m2⟩ := gb_m hn hm h0
  rw [hm, gb_ch m1 m2 hd]
  have hv := ch_lt (kd := kd r) m1 m2 hs ht hp hg
  have q := kl_b hv
  omega
theorem gb_y {F T : Nat → Nat} {n g r : Nat} {kd sa nw : Nat → Int32} {p gi i c v : Int32} (hn : n ≤ 20) (hm : c = nI (cnP (bpT F T n g r) n)) (h0 : ¬ c = 0) (hd : (kd r = 0 ∧ i = 0) ∨ (kd r = 1 ∧ i = ((7 * p) + (13 * gi)) + sa r) ∨ (kd r = 3 ∧ i = (13 * gi) + sa r) ∨ (kd r = 2 ∧ i = nw r)) (hb : iv 0 19 v ∧ bpT F T n g r v.toNatClampNeg ∧ v.toNatClampNeg < n ∧ cnP (bpT F T n g r) v.toNatClampNeg = (i - i / c * c).toNatClampNeg) : GbR (stT F T n g (chN kd sa nw p gi)) r v := by
  obtain ⟨m1, m2⟩ := gb_m hn hm h0
  obtain ⟨b1, b2, b3, b4⟩ := hb
  refine Or.inr ⟨b1, b3, b2, b4.trans ?_⟩
  rw [hm, gb_ch m1 m2 hd]
  rfl
theorem kl_20 {x : Int32} (hx : iv 0 20 x) : x.toNatClampNeg ≤ 20 := by
  have q := kl_b hx
  omega
theorem nw_0 {nw : Nat → Int32} {r : Int32} : nw (0 + r).toNatClampNeg = nw r.toNatClampNeg := by rw [Int32.zero_add]
/-! goals: there, too small, too large -/
theorem nn_in {z x : Int32} (h0 : 0 ≤ z) (h : z < x) (hx : iv 0 3 x) : iv 0 2 z := by
  have h0 := Int32.le_iff_toInt_le.mp h0
  have h := Int32.lt_iff_toInt_lt.mp h
  rw [show ((0 : Int32)).toInt = 0 from by decide] at h0
  have h2 := hx.2
  exact ⟨h0, by omega⟩
theorem nn_s1 {b : Int32} (hb : iv 0 3 b) : (b - 1).toInt = b.toInt - 1 := iv_subc (c := 1) hb (by decide) (by decide) (by decide)
theorem sub3_le {p b : Int32} (h : p < b) (hb : iv 0 3 b) : p ≤ b - 1 := by
  have h := Int32.lt_iff_toInt_lt.mp h
  have e := nn_s1 hb
  exact Int32.le_iff_toInt_le.mpr (by omega)
theorem sub3_lt {p b : Int32} (h : b ≤ p) (hb : iv 0 3 b) : b - 1 < p := by
  have h := Int32.le_iff_toInt_le.mp h
  have e := nn_s1 hb
  exact Int32.lt_iff_toInt_lt.mpr (by omega)
theorem sn_lt {x y z : Int32} (h : x = y) (q : z < x) : z < y := h ▸ q
theorem sn_le {x y z : Int32} (h : x = y) (q : x ≤ z) : y ≤ z := h ▸ q
/-! rows of the reference below what is read -/
def Lw12 (f f' : Nat → Int32) : Prop := ∀ i : Nat, i < 12 → f' i = f i
def Lw3 (f f' : Nat → Int32) : Prop := ∀ i : Nat, i < 3 → f' i = f i
theorem lw12_0 {f : Nat → Int32} : Lw12 f f := fun _ _ => rfl
theorem lw3_0 {f : Nat → Int32} : Lw3 f f := fun _ _ => rfl
theorem lw12_t {f g h : Nat → Int32} (a : Lw12 f g) (b : Lw12 g h) : Lw12 f h := fun i hi => (b i hi).trans (a i hi)
theorem lw3_t {f g h : Nat → Int32} (a : Lw3 f g) (b : Lw3 g h) : Lw3 f h := fun i hi => (b i hi).trans (a i hi)
theorem lw12_u {f : Nat → Int32} {c v : Int32} (hc : iv 0 12 c) : Lw12 f (upd f (12 + c).toNatClampNeg v) := fun i hi => by
  have e := sh_x (h := 12) (c := 12) (by decide) (by decide) (iv_w hc (by decide) (by decide) : iv 0 700 c)
  exact upd_ne9 (by omega)
theorem lw3_u {f : Nat → Int32} {c v : Int32} (hc : iv 0 3 c) : Lw3 f (upd f (3 + c).toNatClampNeg v) := fun i hi => by
  have e := sh_x (h := 3) (c := 3) (by decide) (by decide) (iv_w hc (by decide) (by decide) : iv 0 700 c)
  exact upd_ne9 (by omega)
theorem kz_n {P : Prop} {i : Nat} (h : i < ((0 : Int32)).toNatClampNeg) : P := by
  rw [kz0] at h
  exact absurd h (Nat.not_lt_zero i)
theorem kz_c {P : Nat → Prop} : cnP P ((0 : Int32)).toNatClampNeg ≤ 4 := by
  rw [kz0]
  exact Nat.zero_le 4
