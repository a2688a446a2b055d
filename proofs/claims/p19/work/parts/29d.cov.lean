/-! cover: bits -/
def bt (x : Int32) (k : Nat) : Prop := x.toBitVec.getLsbD k = true
theorem bt_or {x y : Int32} {k : Nat} : bt (x ||| y) k ↔ (bt x k ∨ bt y k) := by
  unfold bt
  rw [Int32.toBitVec_or, BitVec.getLsbD_or, Bool.or_eq_true]
theorem sh1_all : ∀ l : Nat, l < 32 → ((1 : Int32) <<< (nI l &&& 31)).toBitVec = BitVec.twoPow 32 l := by decide +kernel
theorem bt_1 {l k : Nat} (hl : l < 32) : bt (1 <<< (nI l &&& 31)) k ↔ k = l := by
  unfold bt
  rw [sh1_all l hl, BitVec.getLsbD_twoPow]
  constructor
  · intro h
    rw [Bool.and_eq_true] at h
    exact (of_decide_eq_true h.2).symm
  · intro h
    subst h
    simp [hl]
theorem bt_and1 {y : Int32} : y &&& 1 = 1 ↔ bt y 0 := by
  have e := pk_and y (m := 1) 1 (by decide)
  unfold bt
  rw [e, ← BitVec.testBit_toNat, Nat.testBit_zero, decide_eq_true_iff, Nat.pow_one]
  rcases (show y.toBitVec.toNat % 2 = 0 ∨ y.toBitVec.toNat % 2 = 1 by omega) with q | q
  · rw [q]; decide
  · rw [q]; decide
theorem sm_all : ∀ n : Nat, n < 32 → ((nI n &&& 31).toBitVec.smod 32).toNat = n := by decide +kernel
theorem bt_sr {x : Int32} {k : Nat} (hk : k < 32) : (x >>> (nI k &&& 31)) &&& 1 = 1 ↔ bt x k := by
  have e : (x >>> (nI k &&& 31)).toBitVec.getLsbD 0 = x.toBitVec.getLsbD k := by
    rw [Int32.toBitVec_shiftRight, BitVec.getLsbD_sshiftRight', sm_all k hk]
    simp [hk]
  rw [bt_and1]
  unfold bt
  rw [e]
theorem bt_an {x y : Int32} {k : Nat} (hk : k < 32) : bt (x &&& (y ^^^ (-1))) k ↔ (bt x k ∧ ¬ bt y k) := by
  unfold bt
  rw [Int32.toBitVec_and, BitVec.getLsbD_and, Int32.toBitVec_xor, BitVec.getLsbD_xor, show ((-1 : Int32)).toBitVec = BitVec.allOnes 32 from by decide, BitVec.getLsbD_allOnes, decide_eq_true hk]
  cases x.toBitVec.getLsbD k <;> cases y.toBitVec.getLsbD k <;> simp
theorem bt_zz {k : Nat} : ¬ bt 0 k := by
  unfold bt
  rw [show ((0 : Int32)).toBitVec = 0#32 from rfl, BitVec.getLsbD_zero]
  exact Bool.false_ne_true
theorem bt_z {x : Int32} (h : ∀ k : Nat, k < 32 → ¬ bt x k) : x = 0 := by
  apply Int32.toBitVec_inj.mp
  apply BitVec.eq_of_getLsbD_eq
  intro i hi
  rw [show ((0 : Int32)).toBitVec = 0#32 from rfl, BitVec.getLsbD_zero]
  exact Bool.eq_false_iff.mpr (h i hi)
theorem iv_nk {a b : Int} {x : Int32} (h : iv a b x) (ha : 0 ≤ a) : x = nI x.toNatClampNeg := by
  obtain ⟨k, rfl, hk, lk⟩ := iv_nI h ha
  rw [nI_clamp lk]
theorem bt_sr' {x y : Int32} {b : Int} (hy : iv 0 b y) (hb : b < 32) : (x >>> (y &&& 31)) &&& 1 = 1 ↔ bt x y.toNatClampNeg := by
  obtain ⟨k, rfl, hk, lk⟩ := iv_nI hy (by decide)
  have h2 := hy.2
  rw [nI_clamp lk]
  exact bt_sr (by omega)
theorem bt_1' {y : Int32} {b : Int} {k : Nat} (hy : iv 0 b y) (hb : b < 32) : bt (1 <<< (y &&& 31)) k ↔ k = y.toNatClampNeg := by
  obtain ⟨j, rfl, hk, lk⟩ := iv_nI hy (by decide)
  have h2 := hy.2
  rw [nI_clamp lk]
  exact bt_1 (by omega)
theorem kz0 : ((0 : Int32)).toNatClampNeg = 0 := by decide
/-! whom one can come to -/
def Rch (F T : Nat → Nat) (n a b : Nat) : Prop := ∀ P : Nat → Prop, P b → (∀ i, i < n → P (T i) → P (F i)) → P a
theorem rch_r {F T : Nat → Nat} {n a : Nat} : Rch F T n a a := fun _ h _ => h
theorem rch_s {F T : Nat → Nat} {n i b : Nat} (hi : i < n) (h : Rch F T n (T i) b) : Rch F T n (F i) b := fun P hb hs => hs i hi (h P hb hs)
theorem rch_i {F T : Nat → Nat} {n a b : Nat} (h : Rch F T n a b) : a = b ∨ ∃ i, i < n ∧ F i = a ∧ Rch F T n (T i) b := by
  refine h (fun a => a = b ∨ ∃ i, i < n ∧ F i = a ∧ Rch F T n (T i) b) (Or.inl rfl) ?_
  intro i hi hp
  refine Or.inr ⟨i, hi, rfl, ?_⟩
  rcases hp with e | ⟨j, hj, e, hr⟩
  · rw [e]
    exact rch_r
  · rw [← e]
    exact rch_s hj hr
theorem rch_m {F T : Nat → Nat} {n i a b : Nat} (hi : i < n) (e : F i = a) (h : Rch F T n (T i) b) : Rch F T n a b := e ▸ rch_s hi h
theorem rch_t {F T : Nat → Nat} {n a b c : Nat} (h : Rch F T n a b) (h2 : Rch F T n b c) : Rch F T n a c := fun P hc hs => h P (h2 P hc hs) hs
theorem rch_le {F T : Nat → Nat} {n a b : Nat} (hlt : ∀ i, i < n → F i < T i) (h : Rch F T n a b) : a ≤ b := h (fun a => a ≤ b) (Nat.le_refl b) (fun i hi hp => by
  have hp : T i ≤ b := hp
  have := hlt i hi
  show F i ≤ b
  omega)
theorem rch_c {F T F' T' : Nat → Nat} {n a b : Nat} (h : ∀ i, i < n → F i = F' i ∧ T i = T' i) (hr : Rch F T n a b) : Rch F' T' n a b := fun P hb hs => hr P hb (fun i hi hp => by
  obtain ⟨e1, e2⟩ := h i hi
  rw [e1]
  rw [e2] at hp
  exact hs i hi hp)
/-! how many of the first have it -/
noncomputable def cnP (P : Nat → Prop) : Nat → Nat
  | 0 => 0
  | m + 1 => cnP P m + @ite _ (P m) (Classical.propDecidable _) 1 0
theorem cn_y {P : Nat → Prop} {m : Nat} (h : P m) : cnP P (m + 1) = cnP P m + 1 := by
  show cnP P m + @ite _ (P m) (Classical.propDecidable _) 1 0 = _
  rw [if_pos h]
theorem cn_n {P : Nat → Prop} {m : Nat} (h : ¬ P m) : cnP P (m + 1) = cnP P m := by
  show cnP P m + @ite _ (P m) (Classical.propDecidable _) 1 0 = _
  rw [if_neg h, Nat.add_zero]
theorem cn_mono {P : Nat → Prop} {m n : Nat} (h : m ≤ n) : cnP P m ≤ cnP P n := by
  induction n with
  | zero =>
    have e : m = 0 := by omega
    rw [e]
    exact Nat.le_refl _
  | succ n ih =>
    by_cases q : m = n + 1
    · rw [q]
      exact Nat.le_refl _
    · have ih := ih (by omega)
      by_cases p : P n
      · rw [cn_y p]
        omega
      · rw [cn_n p]
        exact ih
theorem cn_lt {P : Nat → Prop} {l n : Nat} (hl : l < n) (h : P l) : cnP P l < cnP P n := by
  have q := cn_mono (P := P) (show l + 1 ≤ n from hl)
  rw [cn_y h] at q
  omega
theorem cn_inj {P : Nat → Prop} {a b : Nat} (ha : P a) (hb : P b) (e : cnP P a = cnP P b) : a = b := by
  rcases Nat.lt_trichotomy a b with q | q | q
  · have := cn_lt q ha
    omega
  · exact q
  · have := cn_lt q hb
    omega
theorem cn_ex {P : Nat → Prop} {n k : Nat} (h : k < cnP P n) : ∃ l, l < n ∧ P l ∧ cnP P l = k := by
  induction n with
  | zero => exact absurd h (Nat.not_lt_zero _)
  | succ n ih =>
    by_cases p : P n
    · rw [cn_y p] at h
      by_cases q : k = cnP P n
      · exact ⟨n, by omega, p, q.symm⟩
      · obtain ⟨l, h1, h2, h3⟩ := ih (by omega)
        exact ⟨l, by omega, h2, h3⟩
    · rw [cn_n p] at h
      obtain ⟨l, h1, h2, h3⟩ := ih h
      exact ⟨l, by omega, h2, h3⟩
theorem cn_c {P Q : Nat → Prop} {m : Nat} (h : ∀ i, i < m → (P i ↔ Q i)) : cnP P m = cnP Q m := by
  induction m with
  | zero => rfl
  | succ m ih =>
    have ih := ih (fun i hi => h i (by omega))
    by_cases p : P m
    · rw [cn_y p, cn_y ((h m (by omega)).mp p), ih]
    · rw [cn_n p, cn_n (fun w => p ((h m (by omega)).mpr w)), ih]
theorem cn_le {P Q : Nat → Prop} {m : Nat} (h : ∀ i, i < m → P i → Q i) : cnP P m ≤ cnP Q m := by
  induction m with
  | zero => exact Nat.le_refl _
  | succ m ih =>
    have ih := ih (fun i hi => h i (by omega))
    by_cases p : P m
    · rw [cn_y p, cn_y (h m (by omega) p)]
      omega
    · rw [cn_n p]
      exact Nat.le_trans ih (cn_mono (by omega))
/-! branches, ways -/
def bpT (F T : Nat → Nat) (n g r l : Nat) : Prop := F l = r ∧ Rch F T n (T l) g
def stT (F T : Nat → Nat) (n g : Nat) (ch : Nat → Nat → Nat) (r k : Nat) : Prop := k < n ∧ bpT F T n g r k ∧ cnP (bpT F T n g r) k = ch r (cnP (bpT F T n g r) n)
theorem st_fun {F T : Nat → Nat} {n g : Nat} {ch : Nat → Nat → Nat} {r k k' : Nat} (h : stT F T n g ch r k) (h' : stT F T n g ch r k') : k = k' := cn_inj h.2.1 h'.2.1 (h.2.2.trans h'.2.2.symm)
theorem st_no {F T : Nat → Nat} {n g : Nat} {ch : Nat → Nat → Nat} {r k : Nat} (h : cnP (bpT F T n g r) n = 0) : ¬ stT F T n g ch r k := fun w => by
  have := cn_lt w.1 w.2.1
  omega
def wayP (S : Nat → Nat → Prop) (T : Nat → Nat) (g : Nat) : Nat → Nat → Nat → Prop
  | 0, _, _ => False
  | f + 1, r, l => ¬ r = g ∧ ∃ k, S r k ∧ (l = k ∨ wayP S T g f (T k) l)
theorem way_g {S : Nat → Nat → Prop} {T : Nat → Nat} {g f l : Nat} : ¬ wayP S T g f g l := by
  cases f with
  | zero => exact fun h => h
  | succ f => exact fun h => h.1 rfl
theorem way_n {S : Nat → Nat → Prop} {T : Nat → Nat} {g f r l : Nat} (h : ∀ k, ¬ S r k) : ¬ wayP S T g f r l := by
  cases f with
  | zero => exact fun w => w
  | succ f =>
    intro w
    obtain ⟨_, k, hk, _⟩ := w
    exact h k hk
theorem way_s {S : Nat → Nat → Prop} {T : Nat → Nat} {g f r k l : Nat} (hg : ¬ r = g) (hk : S r k) (hf : ∀ a b, S r a → S r b → a = b) : wayP S T g (f + 1) r l ↔ (l = k ∨ wayP S T g f (T k) l) := by
  constructor
  · intro w
    obtain ⟨_, k', hk', h⟩ := w
    rw [hf k k' hk hk']
    exact h
  · exact fun h => ⟨hg, k, hk, h⟩
theorem way_at {S : Nat → Nat → Prop} {T : Nat → Nat} {g f r l : Nat} (h : wayP S T g f r l) : ∃ r', S r' l := by
  induction f generalizing r with
  | zero => exact False.elim h
  | succ f ih =>
    obtain ⟨_, k, hk, h⟩ := h
    rcases h with h | h
    · exact ⟨r, h ▸ hk⟩
    · exact ih h
def wnt (F T : Nat → Nat) (n g l : Nat) : Prop := l < n ∧ Rch F T n 0 (F l) ∧ Rch F T n (T l) g
def covd (W : Nat → Prop) (O : Nat → Nat → Prop) (m : Nat) : Prop := ∀ l, W l → ∃ p, p < m ∧ O p l
theorem cov_no {F T : Nat → Nat} {n g r0 : Nat} {ch : Nat → Nat → Nat → Nat} (h0 : Rch F T n 0 r0) (h2 : 2 ≤ cnP (bpT F T n g r0) n) (hp : ∀ p, p < 32 → ch p r0 (cnP (bpT F T n g r0) n) = ch 0 r0 (cnP (bpT F T n g r0) n)) : ¬ covd (wnt F T n g) (fun p l => wayP (stT F T n g (ch p)) T g 12 0 l) 32 := by
  intro hc
  obtain ⟨c1, hc1, hne⟩ : ∃ c1, c1 < cnP (bpT F T n g r0) n ∧ ¬ c1 = ch 0 r0 (cnP (bpT F T n g r0) n) := by
    by_cases q : ch 0 r0 (cnP (bpT F T n g r0) n) = 0
    · exact ⟨1, by omega, by omega⟩
    · exact ⟨0, by omega, fun w => q w.symm⟩
  obtain ⟨l, hl, hb, hk⟩ := cn_ex hc1
  obtain ⟨p, hp1, hw⟩ := hc l ⟨hl, by rw [hb.1]; exact h0, hb.2⟩
  obtain ⟨r', hs⟩ := way_at hw
  have e : r' = r0 := hs.2.1.1.symm.trans hb.1
  rw [e] at hs
  exact hne (hk.symm.trans (hs.2.2.trans (hp p hp1)))
theorem way_c {F T : Nat → Nat} {n g : Nat} {ch ch' : Nat → Nat → Nat} (h : ∀ r, Rch F T n 0 r → 1 ≤ cnP (bpT F T n g r) n → ch r (cnP (bpT F T n g r) n) = ch' r (cnP (bpT F T n g r) n)) {f r l : Nat} (hr : Rch F T n 0 r) (w : wayP (stT F T n g ch) T g f r l) : wayP (stT F T n g ch') T g f r l := by
  induction f generalizing r with
  | zero => exact w
  | succ f ih =>
    obtain ⟨hg, k, ⟨hk, hb, hc⟩, w⟩ := w
    have hm : 1 ≤ cnP (bpT F T n g r) n := by
      have := cn_lt hk hb
      omega
    have hr2 : Rch F T n 0 (T k) := rch_t hr (rch_m hk hb.1 rch_r)
    refine ⟨hg, k, ⟨hk, hb, hc.trans (h r hr hm)⟩, ?_⟩
    rcases w with w | w
    · exact Or.inl w
    · exact Or.inr (ih hr2 w)
theorem covd_mono {W : Nat → Prop} {O : Nat → Nat → Prop} {m n : Nat} (h : covd W O m) (hm : m ≤ n) : covd W O n := fun l hl => by
  obtain ⟨p, hp, ho⟩ := h l hl
  exact ⟨p, by omega, ho⟩
theorem covd_c {W : Nat → Prop} {O O' : Nat → Nat → Prop} {m : Nat} (e : ∀ p l, p < m → O p l → O' p l) (h : covd W O m) : covd W O' m := fun l hl => by
  obtain ⟨p, hp, ho⟩ := h l hl
  exact ⟨p, hp, e p l hp ho⟩
def CovT (W : Nat → Prop) (O : Nat → Nat → Prop) (r : Int32) : Prop := (∃ m : Nat, m ≤ 32 ∧ r = nI m ∧ covd W O m ∧ ∀ q, q < m → ¬ covd W O q) ∨ (r = -1 ∧ ¬ covd W O 32)
theorem cov_u {W : Nat → Prop} {O O' : Nat → Nat → Prop} {r r' : Int32} (h : CovT W O r) (h' : CovT W O' r') (e : (∀ p l, p < 32 → (O p l ↔ O' p l)) ∨ (¬ covd W O 32 ∧ ¬ covd W O' 32)) : r = r' := by
  rcases e with e | ⟨n1, n2⟩
  · have c1 : ∀ m, m ≤ 32 → covd W O m → covd W O' m := fun m hm => covd_c (fun p l hp => (e p l (by omega)).mp)
    have c2 : ∀ m, m ≤ 32 → covd W O' m → covd W O m := fun m hm => covd_c (fun p l hp => (e p l (by omega)).mpr)
    rcases h with ⟨m, hm, e1, hc, hq⟩ | ⟨e1, hc⟩ <;> rcases h' with ⟨m', hm', e2, hc', hq'⟩ | ⟨e2, hc'⟩
    · rcases Nat.lt_trichotomy m m' with q | q | q
      · exact absurd (c1 m hm hc) (hq' m q)
      · rw [e1, e2, q]
      · exact absurd (c2 m' hm' hc') (hq m' q)
    · exact absurd (covd_mono (c1 m hm hc) hm) hc'
    · exact absurd (covd_mono (c2 m' hm' hc') hm') hc
    · rw [e1, e2]
  · rcases h with ⟨m, hm, e1, hc, _⟩ | ⟨e1, _⟩
    · exact absurd (covd_mono hc hm) n1
    · rcases h' with ⟨m', hm', e2, hc', _⟩ | ⟨e2, _⟩
      · exact absurd (covd_mono hc' hm') n2
      · rw [e1, e2]
/-! the choice -/
def chI (kd sa tu p g n : Int32) : Int32 := if kd = 1 then (((7 * p) + (13 * g)) + sa) - (((7 * p) + (13 * g)) + sa) / n * n else if kd = 2 then tu - tu / n * n else if kd = 3 then ((13 * g) + sa) - ((13 * g) + sa) / n * n else 0
def chN (kd sa tu : Nat → Int32) (p g : Int32) (r m : Nat) : Nat := (chI (kd r) (sa r) (tu r) p g (nI m)).toNatClampNeg
theorem ch_2 {sa tu p g n : Int32} : chI 2 sa tu p g n = tu - tu / n * n := by
  unfold chI
  rw [if_neg (by decide), if_pos rfl]
theorem ch_n {kd sa tu tu' p g n : Int32} (h : ¬ kd = 2) : chI kd sa tu p g n = chI kd sa tu' p g n := by
  unfold chI
  rw [if_neg h, if_neg h]
theorem rem_1 {x : Int32} {b : Int} (hx : iv 0 b x) : x - x / nI 1 * nI 1 = 0 := by
  obtain ⟨k, rfl, hk, lk⟩ := iv_nI hx (by decide)
  rw [pk_rem lk (by decide) (by decide), Nat.mod_one]
  rfl
/-- the answer doesn't hang on the turns -/
theorem cov_turn {F T : Nat → Nat} {n g : Nat} {kd sa tu tu' : Nat → Int32} {gi r r' : Int32} (ht : ∀ k, iv 0 59 (tu k)) (ht' : ∀ k, k < 12 → iv 0 59 (tu' k)) (hb : ∀ r, 1 ≤ cnP (bpT F T n g r) n → r < 12) (h : CovT (wnt F T n g) (fun p l => wayP (stT F T n g (chN kd sa tu (nI p) gi)) T g 12 0 l) r) (h' : CovT (wnt F T n g) (fun p l => wayP (stT F T n g (chN kd sa tu' (nI p) gi)) T g 12 0 l) r') : r = r' := by
  refine cov_u h h' ?_
  by_cases q : ∃ r0, Rch F T n 0 r0 ∧ 2 ≤ cnP (bpT F T n g r0) n ∧ kd r0 = 2
  · obtain ⟨r0, h0, h2, hk⟩ := q
    refine Or.inr ⟨?_, ?_⟩
    · refine cov_no (ch := fun p => chN kd sa tu (nI p) gi) h0 h2 (fun p _ => ?_)
      show chN kd sa tu (nI p) gi r0 _ = chN kd sa tu (nI 0) gi r0 _
      unfold chN
      rw [hk, ch_2, ch_2]
    · refine cov_no (ch := fun p => chN kd sa tu' (nI p) gi) h0 h2 (fun p _ => ?_)
      show chN kd sa tu' (nI p) gi r0 _ = chN kd sa tu' (nI 0) gi r0 _
      unfold chN
      rw [hk, ch_2, ch_2]
  · have key : ∀ p r, Rch F T n 0 r → 1 ≤ cnP (bpT F T n g r) n → chN kd sa tu (nI p) gi r (cnP (bpT F T n g r) n) = chN kd sa tu' (nI p) gi r (cnP (bpT F T n g r) n) := by
      intro p r hr hm
      unfold chN
      by_cases k2 : kd r = 2
      · have e : cnP (bpT F T n g r) n = 1 := by
          rcases Nat.lt_or_ge 1 (cnP (bpT F T n g r) n) with w | w
          · exact absurd ⟨r, hr, w, k2⟩ q
          · omega
        rw [e, k2, ch_2, ch_2, rem_1 (ht r), rem_1 (ht' r (hb r hm))]
      · exact congrArg Int32.toNatClampNeg (ch_n k2)
    exact Or.inl (fun p l _ => ⟨way_c (key p) rch_r, way_c (fun r hr hm => (key p r hr hm).symm) rch_r⟩)
