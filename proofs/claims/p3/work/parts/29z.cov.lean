/-! cover: bits -/
def bt (x : Int32) (k : Nat) : Prop := x.toBitVec.getLsbD k = true
theorem bt_or {x y : Int32} {k : Nat} : bt (x ||| y) k ↔ (bt x k ∨ bt y k) := by
  unfold bt
  rw [Int32.toBitVec_or, BitVec.getLsbD_or, Bool.or_eq_true]
theorem sh1_all : ∀ l : Nat, l < 32 → ((1 : Int32) <<< (nI l &&& 31)).toBitVec = BitVec.twoPow 32 l := by decide +kernel
theorem bt_1 {l k : Nat} (hl : l < 32) : bt (1 <<< (nI l &&& 31)) k ↔ k = l := by
  unfold bt
  rw [sh1_all l hl, BitVec.getLsbD_twoPow]
  constructor
  · intro h
    rw [Bool.and_eq_true] at h
    exact (of_decide_eq_true h.2).symm
  · intro h
    subst h
    simp [hl]
theorem bt_and1 {y : Int32} : y &&& 1 = 1 ↔ bt y 0 := by
  have e := pk_and y (m := 1) 1 (by decide)
  unfold bt
  rw [e, ← BitVec.testBit_toNat, Nat.testBit_zero, decide_eq_true_iff, Nat.pow_one]
  rcases (show y.toBitVec.toNat % 2 = 0 ∨ y.toBitVec.toNat % 2 = 1 by omega) with q | q
  · rw [q]; decide
  · rw [q]; decide
theorem sm_all : ∀ n : Nat, n < 32 → ((nI n &&& 31).toBitVec.smod 32).toNat = n := by decide +kernel
theorem bt_sr {x : Int32} {k : Nat} (hk : k < 32) : (x >>> (nI k &&& 31)) &&& 1 = 1 ↔ bt x k := by
  have e : (x >>> (nI k &&& 31)).toBitVec.getLsbD 0 = x.toBitVec.getLsbD k := by
    rw [Int32.toBitVec_shiftRight, BitVec.getLsbD_sshiftRight', sm_all k hk]
    simp [hk]
  rw [bt_and1]
  unfold bt
  rw [e]
theorem bt_an {x y : Int32} {k : Nat} (hk : k < 32) : bt (x &&& (y ^^^ (-1))) k ↔ (bt x k ∧ ¬ bt y k) := by
  unfold bt
  rw [Int32.toBitVec_and, BitVec.getLsbD_and, Int32.toBitVec_xor, BitVec.getLsbD_xor, show ((-1 : Int32)).toBitVec = BitVec.allOnes 32 from by decide, BitVec.getLsbD_allOnes, decide_eq_true hk]
  cases x.toBitVec.getLsbD k <;> cases y.toBitVec.getLsbD k <;> simp
theorem bt_zz {k : Nat} : ¬ bt 0 k := by
  unfold bt
  rw [show ((0 : Int32)).toBitVec = 0#32 from rfl, BitVec.getLsbD_zero]
  exact Bool.false_ne_true
theorem bt_z {x : Int32} (h : ∀ k : Nat, k < 32 → ¬ bt x k) : x = 0 := by
  apply Int32.toBitVec_inj.mp
  apply BitVec.eq_of_getLsbD_eq
  intro i hi
  rw [show ((0 : Int32)).toBitVec = 0#32 from rfl, BitVec.getLsbD_zero]
  exact Bool.eq_false_iff.mpr (h i hi)
theorem iv_nk {a b : Int} {x : Int32} (h : iv a b x) (ha : 0 ≤ a) : x = nI x.toNatClampNeg := by
  obtain ⟨k, rfl, hk, lk⟩ := iv_nI h ha
  rw [nI_clamp lk]
theorem bt_sr' {x y : Int32} {b : Int} (hy : iv 0 b y) (hb : b < 32) : (x >>> (y &&& 31)) &&& 1 = 1 ↔ bt x y.toNatClampNeg := by
  obtain ⟨k, rfl, hk, lk⟩ := iv_nI hy (by decide)
  have h2 := hy.2
  rw [nI_clamp lk]
  exact bt_sr (by omega)
theorem bt_1' {y : Int32} {b : Int} {k : Nat} (hy : iv 0 b y) (hb : b < 32) : bt (1 <<< (y &&& 31)) k ↔ k = y.toNatClampNeg := by
  obtain ⟨j, rfl, hk, lk⟩ := iv_nI hy (by decide)
  have h2 := hy.2
  rw [nI_clamp lk]
  exact bt_1 (by omega)
theorem kz0 : ((0 : Int32)).toNatClampNeg = 0 := by decide
/-! whom one can come to -/
def Rch (F T : Nat → Nat) (n a b : Nat) : Prop := ∀ P : Nat → Prop, P b → (∀ i, i < n → P (T i) → P (F i)) → P a
theorem rch_r {F T : Nat → Nat} {n a : Nat} : Rch F T n a a := fun _ h _ => h
theorem rch_s {F T : Nat → Nat} {n i b : Nat} (hi : i < n) (h : Rch F T n (T i) b) : Rch F T n (F i) b := fun P hb hs => hs i hi (h P hb hs)
theorem rch_i {F T : Nat → Nat} {n a b : Nat} (h : Rch F T n a b) : a = b ∨ ∃ i, i < n ∧ F i = a ∧ Rch F T n (T i) b := by
  refine h (fun a => a = b ∨ ∃ i, i < n ∧ F i = a ∧ Rch F T n (T i) b) (Or.inl rfl) ?_
  intro i hi hp
  refine Or.inr ⟨i, hi, rfl, ?_⟩
  rcases hp with e | ⟨j, hj, e, hr⟩
  · rw [e]
    exact rch_r
  · rw [← e]
    exact rch_s hj hr
theorem rch_m {F T : Nat → Nat} {n i a b : Nat} (hi : i < n) (e : F i = a) (h : Rch F T n (T i) b) : Rch F T n a b := e ▸ rch_s hi h
theorem rch_t {F T : Nat → Nat} {n a b c : Nat} (h : Rch F T n a b) (h2 : Rch F T n b c) : Rch F T n a c := fun P hc hs => h P (h2 P hc hs) hs
theorem rch_le {F T : Nat → Nat} {n a b : Nat} (hlt : ∀ i, i < n → F i < T i) (h : Rch F T n a b) : a ≤ b := h (fun a => a ≤ b) (Nat.le_refl b) (fun i hi hp => by
  have hp : T i ≤ b := hp
  have := hlt i hi
  show F i ≤ b
  omega)
theorem rch_c {F T F' T' : Nat → Nat} {n a b : Nat} (h : ∀ i, i < n → F i = F' i ∧ T i = T' i) (hr : Rch F T n a b) : Rch F' T' n a b := fun P hb hs => hr P hb (fun i hi hp => by
  obtain ⟨e1, e2⟩ := h i hi
  rw [e1]
  rw [e2] at hp
  exact hs i hi hp)
/-! how many of the first have it -/
noncomputable def cnP (P : Nat → Prop) : Nat → Nat
  | 0 => 0
  | m + 1 => cnP P m + @ite _ (P m) (Classical.propDecidable _) 1 0
theorem cn_y {P : Nat → Prop} {m : Nat} (h : P m) : cnP P (m + 1) = cnP P m + 1 := by
  show cnP P m + @ite _ (P m) (Classical.propDecidable _) 1 0 = _
  rw [if_pos h]
theorem cn_n {P : Nat → Prop} {m : Nat} (h : ¬ P m) : cnP P (m + 1) = cnP P m := by
  show cnP P m + @ite _ (P m) (Classical.propDecidable _) 1 0 = _
  rw [if_neg h, Nat.add_zero]
theorem cn_mono {P : Nat → Prop} {m n : Nat} (h : m ≤ n) : cnP P m ≤ cnP P n := by
  induction n with
  | zero =>
    have e : m = 0 := by omega
    rw [e]
    exact Nat.le_refl _
  | succ n ih =>
    by_cases q : m = n + 1
    · rw [q]
      exact Nat.le_refl _
    · have ih := ih (by omega)
      by_cases p : P n
      · rw [cn_y p]
        omega
      · rw [cn_n p]
        exact ih
theorem cn_lt {P : Nat → Prop} {l n : Nat} (hl : l < n) (h : P l) : cnP P l < cnP P n := by
  have q := cn_mono (P := P) (show l + 1 ≤ n from hl)
  rw [cn_y h] at q
  omega
theorem cn_inj {P : Nat → Prop} {a b : Nat} (ha : P a) (hb : P b) (e : cnP P a = cnP P b) : a = b := by
  rcases Nat.lt_trichotomy a b with q | q | q
  · have := cn_lt q ha
    omega
  · exact q
  · have := cn_lt q hb
    omega
theorem cn_ex {P : Nat → Prop} {n k : Nat} (h : k < cnP P n) : ∃ l, l < n ∧ P l ∧ cnP P l = k := by
  induction n with
  | zero => exact absurd h (Nat.not_lt_zero _)
  | succ n ih =>
    by_cases p : P n
    · rw [cn_y p] at h
      by_cases q : k = cnP P n
      · exact ⟨n, by omega, p, q.symm⟩
      · obtain ⟨l, h1, h2, h3⟩ := ih (by omega)
        exact ⟨l, by omega, h2, h3⟩
    · rw [cn_n p] at h
      obtain ⟨l, h1, h2, h3⟩ := ih h
      exact ⟨l, by omega, h2, h3⟩
theorem cn_c {P Q : Nat → Prop} {m : Nat} (h : ∀ i, i < m → (P i ↔ Q i)) : cnP P m = cnP Q m := by
  induction m with
  | zero => rfl
  | succ m ih =>
    have ih := ih (fun i hi => h i (by omega))
    by_cases p : P m
    · rw [cn_y p, cn_y ((h m (by omega)).mp p), ih]
    · rw [cn_n p, cn_n (fun w => p ((h m (by omega)).mpr w)), ih]
theorem cn_le {P Q : Nat → Prop} {m : Nat} (h : ∀ i, i < m → P i → Q i) : cnP P m ≤ cnP Q m := by
  induction m with
  | zero => exact Nat.le_refl _
  | succ m ih =>
    have ih := ih (fun i hi => h i (by omega))
    by_cases p : P m
    · rw [cn_y p, cn_y (h m (by omega) p)]
      omega
    · rw [cn_n p]
      exact Nat.le_trans ih (cn_mono (by omega))
/-! branches, ways -/
def bpT (F T : Nat → Nat) (n g r l : Nat) : Prop := F l = r ∧ Rch F T n (T l) g
def stT (F T : Nat → Nat) (n g : Nat) (ch : Nat → Nat → Nat) (r k : Nat) : Prop := k < n ∧ bpT F T n g r k ∧ cnP (bpT F T n g r) k = ch r (cnP (bpT F T n g r) n)
theorem st_fun {F T : Nat → Nat} {n g : Nat} {ch : Nat → Nat → Nat} {r k k' : Nat} (h : stT F T n g ch r k) (h' : stT F T n g ch r k') : k = k' := cn_inj h.2.1 h'.2.1 (h.2.2.trans h'.2.2.symm)
theorem st_no {F T : Nat → Nat} {n g : Nat} {ch : Nat → Nat → Nat} {r k : Nat} (h : cnP (bpT F T n g r) n = 0) : ¬ stT F T n g ch r k := fun w => by
  have := cn_lt w.1 w.2.1
  omega
def wayP (S : Nat → Nat → Prop) (T : Nat → Nat) (g : Nat) : Nat → Nat → Nat → Prop
  | 0, _, _ => False
  | f + 1, r, l => ¬ r = g ∧ ∃ k, S r k ∧ (l = k ∨ wayP S T g f (T k) l)
theorem way_g {S : Nat → Nat → Prop} {T : Nat → Nat} {g f l : Nat} : ¬ wayP S T g f g l := by
  cases f with
  | zero => exact fun h => h
  | succ f => exact fun h => h.1 rfl
theorem way_n {S : Nat → Nat → Prop} {T : Nat → Nat} {g f r l : Nat} (h : ∀ k, ¬ S r k) : ¬ wayP S T g f r l := by
  cases f with
  | zero => exact fun w => w
  | succ f =>
    intro w
    obtain ⟨_, k, hk, _⟩ := w
    exact h k hk
theorem way_s {S : Nat → Nat → Prop} {T : Nat → Nat} {g f r k l : Nat} (hg : ¬ r = g) (hk : S r k) (hf : ∀ a b, S r a → S r b → a = b) : wayP S T g (f + 1) r l ↔ (l = k ∨ wayP S T g f (T k) l) := by
  constructor
  · intro w
    obtain ⟨_, k', hk', h⟩ := w
    rw [hf k k' hk hk']
    exact h
  · exact fun h => ⟨hg, k, hk, h⟩
theorem way_at {S : Nat → Nat → Prop} {T : Nat → Nat} {g f r l : Nat} (h : wayP S T g f r l) : ∃ r', S r' l := by
  induction f generalizing r with
  | zero => exact False.elim h
  | succ f ih =>
    obtain ⟨_, k, hk, h⟩ := h
    rcases h with h | h
    · exact ⟨r, h ▸ hk⟩
    · exact ih h
def wnt (F T : Nat → Nat) (n g l : Nat) : Prop := l < n ∧ Rch F T n 0 (F l) ∧ Rch F T n (T l) g
def covd (W : Nat → Prop) (O : Nat → Nat → Prop) (m : Nat) : Prop := ∀ l, W l → ∃ p, p < m ∧ O p l
theorem cov_no {F T : Nat → Nat} {n g r0 : Nat} {ch : Nat → Nat → Nat → Nat} (h0 : Rch F T n 0 r0) (h2 : 2 ≤ cnP (bpT F T n g r0) n) (hp : ∀ p, p < 32 → ch p r0 (cnP (bpT F T n g r0) n) = ch 0 r0 (cnP (bpT F T n g r0) n)) : ¬ covd (wnt F T n g) (fun p l => wayP (stT F T n g (ch p)) T g 12 0 l) 32 := by
  intro hc
  obtain ⟨c1, hc1, hne⟩ : ∃ c1, c1 < cnP (bpT F T n g r0) n ∧ ¬ c1 = ch 0 r0 (cnP (bpT F T n g r0) n) := by
    by_cases q : ch 0 r0 (cnP (bpT F T n g r0) n) = 0
    · exact ⟨1, by omega, by omega⟩
    · exact ⟨0, by omega, fun w => q w.symm⟩
  obtain ⟨l, hl, hb, hk⟩ := cn_ex hc1
  obtain ⟨p, hp1, hw⟩ := hc l ⟨hl, by rw [hb.1]; exact h0, hb.2⟩
  obtain ⟨r', hs⟩ := way_at hw
  have e : r' = r0 := hs.2.1.1.symm.trans hb.1
  rw [e] at hs
  exact hne (hk.symm.trans (hs.2.2.trans (hp p hp1)))
theorem way_c {F T : Nat → Nat} {n g : Nat} {ch ch' : Nat → Nat → Nat} (h : ∀ r, Rch F T n 0 r → 1 ≤ cnP (bpT F T n g r) n → ch r (cnP (bpT F T n g r) n) = ch' r (cnP (bpT F T n g r) n)) {f r l : Nat} (hr : Rch F T n 0 r) (w : wayP (stT F T n g ch) T g f r l) : wayP (stT F T n g ch') T g f r l := by
  induction f generalizing r with
  | zero => exact w
  | succ f ih =>
    obtain ⟨hg, k, ⟨hk, hb, hc⟩, w⟩ := w
    have hm : 1 ≤ cnP (bpT F T n g r) n := by
      have := cn_lt hk hb
      omega
    have hr2 : Rch F T n 0 (T k) := rch_t hr (rch_m hk hb.1 rch_r)
    refine ⟨hg, k, ⟨hk, hb, hc.trans (h r hr hm)⟩, ?_⟩
    rcases w with w | w
    · exact Or.inl w
    · exact Or.inr (ih hr2 w)
theorem covd_mono {W : Nat → Prop} {O : Nat → Nat → Prop} {m n : Nat} (h : covd W O m) (hm : m ≤ n) : covd W O n := fun l hl => by
  obtain ⟨p, hp, ho⟩ := h l hl
  exact ⟨p, by omega, ho⟩
theorem covd_c {W : Nat → Prop} {O O' : Nat → Nat → Prop} {m : Nat} (e : ∀ p l, p < m → O p l → O' p l) (h : covd W O m) : covd W O' m := fun l hl => by
  obtain ⟨p, hp, ho⟩ := h l hl
  exact ⟨p, hp, e p l hp ho⟩
def CovT (W : Nat → Prop) (O : Nat → Nat → Prop) (r : Int32) : Prop := (∃ m : Nat, m ≤ 32 ∧ r = nI m ∧ covd W O m ∧ ∀ q, q < m → ¬ covd W O q) ∨ (r = -1 ∧ ¬ covd W O 32)
theorem cov_u {W : Nat → Prop} {O O' : Nat → Nat → Prop} {r r' : Int32} (h : CovT W O r) (h' : CovT W O' r') (e : (∀ p l, p < 32 → (O p l ↔ O' p l)) ∨ (¬ covd W O 32 ∧ ¬ covd W O' 32)) : r = r' := by
  rcases e with e | ⟨n1, n2⟩
  · have c1 : ∀ m, m ≤ 32 → covd W O m → covd W O' m := fun m hm => covd_c (fun p l hp => (e p l (by omega)).mp)
    have c2 : ∀ m, m ≤ 32 → covd W O' m → covd W O m := fun m hm => covd_c (fun p l hp => (e p l (by omega)).mpr)
    rcases h with ⟨m, hm, e1, hc, hq⟩ | ⟨e1, hc⟩ <;> rcases h' with ⟨m', hm', e2, hc', hq'⟩ | ⟨e2, hc'⟩
    · rcases Nat.lt_trichotomy m m' with q | q | q
      · exact absurd (c1 m hm hc) (hq' m q)
      · rw [e1, e2, q]
      · exact absurd (c2 m' hm' hc') (hq m' q)
    · exact absurd (covd_mono (c1 m hm hc) hm) hc'
    · exact absurd (covd_mono (c2 m' hm' hc') hm') hc
    · rw [e1, e2]
  · rcases h with ⟨m, hm, e1, hc, _⟩ | ⟨e1, _⟩
    · exact absurd (covd_mono hc hm) n1
    · rcases h' with ⟨m', hm', e2, hc', _⟩ | ⟨e2, _⟩
      · exact absurd (covd_mono hc' hm') n2
      · rw [e1, e2]
/-! the choice -/
def chI (kd sa tu p g n : Int32) : Int32 := if kd = 1 then (((7 * p) + (13 * g)) + sa) - (((7 * p) + (13 * g)) + sa) / n * n else if kd = 2 then tu - tu / n * n else if kd = 3 then ((13 * g) + sa) - ((13 * g) + sa) / n * n else 0
def chN (kd sa tu : Nat → Int32) (p g : Int32) (r m : Nat) : Nat := (chI (kd r) (sa r) (tu r) p g (nI m)).toNatClampNeg
theorem ch_2 {sa tu p g n : Int32} : chI 2 sa tu p g n = tu - tu / n * n := by
  unfold chI
  rw [if_neg (by decide), if_pos rfl]
theorem ch_n {kd sa tu tu' p g n : Int32} (h : ¬ kd = 2) : chI kd sa tu p g n = chI kd sa tu' p g n := by
  unfold chI
  rw [if_neg h, if_neg h]
theorem rem_1 {x : Int32} {b : Int} (hx : iv 0 b x) : x - x / nI 1 * nI 1 = 0 := by
  obtain ⟨k, rfl, hk, lk⟩ := iv_nI hx (by decide)
  rw [pk_rem lk (by decide) (by decide), Nat.mod_one]
  rfl
/-- the answer doesn't hang on the turns -/
theorem cov_turn {F T : Nat → Nat} {n g : Nat} {kd sa tu tu' : Nat → Int32} {gi r r' : Int32} (ht : ∀ k, iv 0 59 (tu k)) (ht' : ∀ k, k < 12 → iv 0 59 (tu' k)) (hb : ∀ r, 1 ≤ cnP (bpT F T n g r) n → r < 12) (h : CovT (wnt F T n g) (fun p l => wayP (stT F T n g (chN kd sa tu (nI p) gi)) T g 12 0 l) r) (h' : CovT (wnt F T n g) (fun p l => wayP (stT F T n g (chN kd sa tu' (nI p) gi)) T g 12 0 l) r') : r = r' := by
  refine cov_u h h' ?_
  by_cases q : ∃ r0, Rch F T n 0 r0 ∧ 2 ≤ cnP (bpT F T n g r0) n ∧ kd r0 = 2
  · obtain ⟨r0, h0, h2, hk⟩ := q
    refine Or.inr ⟨?_, ?_⟩
    · refine cov_no (ch := fun p => chN kd sa tu (nI p) gi) h0 h2 (fun p _ => ?_)
      show chN kd sa tu (nI p) gi r0 _ = chN kd sa tu (nI 0) gi r0 _
      unfold chN
      rw [hk, ch_2, ch_2]
    · refine cov_no (ch := fun p => chN kd sa tu' (nI p) gi) h0 h2 (fun p _ => ?_)
      show chN kd sa tu' (nI p) gi r0 _ = chN kd sa tu' (nI 0) gi r0 _
      unfold chN
      rw [hk, ch_2, ch_2]
  · have key : ∀ p r, Rch F T n 0 r → 1 ≤ cnP (bpT F T n g r) n → chN kd sa tu (nI p) gi r (cnP (bpT F T n g r) n) = chN kd sa tu' (nI p) gi r (cnP (bpT F T n g r) n) := by
      intro p r hr hm
      unfold chN
      by_cases k2 : kd r = 2
      · have e : cnP (bpT F T n g r) n = 1 := by
          rcases Nat.lt_or_ge 1 (cnP (bpT F T n g r) n) with w | w
          · exact absurd ⟨r, hr, w, k2⟩ q
          · omega
        rw [e, k2, ch_2, ch_2, rem_1 (ht r), rem_1 (ht' r (hb r hm))]
      · exact congrArg Int32.toNatClampNeg (ch_n k2)
    exact Or.inl (fun p l _ => ⟨way_c (key p) rch_r, way_c (fun r hr hm => (key p r hr hm).symm) rch_r⟩)
/-! a net that was told: kinds, links, goals in their bounds; four links at most from one -/
theorem num_ok {T : Nat → Int32} {lo hi : Int32} {s : StT} (h : okT (numT T lo hi s)) : ∃ k, s = .inr k ∧ ¬ (valT T k.2.1 k.2.2 < lo ∨ hi < valT T k.2.1 k.2.2) := by
  rcases s with q | k
  · exact (ok_l h).elim
  · refine ⟨k, rfl, fun w => ?_⟩
    have h : okT (numK T lo hi k) := h
    unfold numK at h
    by_cases a : ¬ k.1 = 2
    · rw [if_pos a] at h
      exact ok_l h
    · rw [if_neg a] at h
      by_cases b : 2 < k.2.2 - k.2.1
      · rw [if_pos b] at h
        exact ok_l h
      · rw [if_neg b, if_pos w] at h
        exact ok_l h
theorem rou_ok {T : Nat → Int32} {c : Int32} {s : StT} (h : okT (rouT T c s)) : 0 ≤ (valS T s).toInt ∧ (valS T s).toInt < c.toInt := by
  have hn := ok_rou h
  have e := num_id hn
  obtain ⟨k, hk, hv⟩ := num_ok hn
  unfold rouT at h
  rw [e] at h
  subst hk
  have h : okT (if c ≤ valT T k.2.1 k.2.2 then Sum.inl (3, k.2.1) else Sum.inr k) := h
  by_cases q : c ≤ valT T k.2.1 k.2.2
  · rw [if_pos q] at h
    exact (ok_l h).elim
  · have q := Int32.lt_iff_toInt_lt.mp (Int32.not_le.mp q)
    have v0 := Int32.le_iff_toInt_le.mp (Int32.not_lt.mp (fun w => hv (Or.inl w)))
    rw [show ((0 : Int32)).toInt = 0 from by decide] at v0
    exact ⟨v0, q⟩
theorem knd_iv {T : Nat → Int32} {k : TkT} (h : ¬ kndK T k = -1) : iv 0 3 (kndK T k) := by
  unfold kndK at h ⊢
  by_cases a : wB T 4 k = 1
  · rw [if_pos a]
    exact ⟨by decide, by decide⟩
  · rw [if_neg a] at h ⊢
    by_cases b : wB T 5 k = 1
    · rw [if_pos b]
      exact ⟨by decide, by decide⟩
    · rw [if_neg b] at h ⊢
      by_cases c : wB T 6 k = 1
      · rw [if_pos c]
        exact ⟨by decide, by decide⟩
      · rw [if_neg c] at h ⊢
        by_cases d : wB T 7 k = 1
        · rw [if_pos d]
          exact ⟨by decide, by decide⟩
        · rw [if_neg d] at h
          exact absurd rfl h
theorem knd_ok {T : Nat → Int32} {s : StT} (h : okT (kndT T s)) : iv 0 3 (kndS T s) := by
  rcases s with q | k
  · exact (ok_l h).elim
  · have h : okT (if kndK T k = -1 then Sum.inl (1, k.2.1) else Sum.inr k) := h
    by_cases q : kndK T k = -1
    · rw [if_pos q] at h
      exact (ok_l h).elim
    · exact knd_iv q
theorem rt_knd {T : Nat → Int32} {n c : Int32} {s : StT} (h : okT (rtrS T n s c)) : iv 0 3 (kndS T (rtr1 T n s)) := by
  have h4 := rt_ok4 h
  unfold rtr4 at h4
  have h3 := ok_num (ok_next h4)
  unfold rtr3 at h3
  have h2 := ok_num (ok_next h3)
  unfold rtr2 at h2
  exact knd_ok (ok_next h2)
theorem l1_ok {T : Nat → Int32} {n c : Int32} {s : StT} (h : okT (lnk1 T n s c)) : 0 ≤ (lnkA T n s).toInt ∧ (lnkA T n s).toInt < c.toInt := rou_ok h
theorem lk_ok {T : Nat → Int32} {n c d : Int32} {s : StT} {f g : Nat → Int32} (h : okT (lnkS T n s c d f g)) : (0 ≤ (lnkA T n s).toInt ∧ (lnkA T n s).toInt < (lnkB T n s c d f).toInt ∧ (lnkB T n s c d f).toInt < c.toInt) ∧ ¬ cntT f (lnkA T n s) d.toNatClampNeg = 4 := by
  unfold lnkS at h
  by_cases q : d = 20
  · rw [iteT_t q] at h
    exact (ok_fail h).elim
  · rw [iteT_f q] at h
    obtain ⟨h3, hn⟩ := ok_ite (ok_next h)
    have hb : 0 ≤ (lnkB T n s c d f).toInt ∧ (lnkB T n s c d f).toInt < c.toInt := rou_ok h3
    have h2 : okT (lnk2 T n s c d f) := ok_num (ok_rou h3)
    unfold lnk2 at h2
    obtain ⟨h1, hc⟩ := ok_ite (ok_next h2)
    have ha := l1_ok h1
    have hab := Int32.lt_iff_toInt_lt.mp (Int32.not_le.mp (fun w => hn (Or.inl w)))
    exact ⟨⟨ha.1, hab, hb.2⟩, hc⟩
theorem gl_ok {T : Nat → Int32} {n c d : Int32} {s : StT} {f : Nat → Int32} (h : okT (golS T n s c d f)) : 0 ≤ (lnkA T n s).toInt ∧ (lnkA T n s).toInt < c.toInt := by
  unfold golS at h
  by_cases q : d = 3
  · rw [iteT_t q] at h
    exact (ok_fail h).elim
  · rw [iteT_f q] at h
    exact l1_ok (ok_ite (ok_next h)).1
def WfT (N : NtT) : Prop := (iv 0 12 (N 0 0) ∧ iv 0 20 (N 0 1) ∧ iv 0 3 (N 0 2)) ∧ (∀ i : Nat, (i : Int) < (N 0 0).toInt → iv 0 3 (N 1 i)) ∧ (∀ i : Nat, (i : Int) < (N 0 1).toInt → 0 ≤ (N 5 i).toInt ∧ (N 5 i).toInt < (N 6 i).toInt ∧ (N 6 i).toInt < (N 0 0).toInt) ∧ (∀ a : Int32, cntT (N 5) a (N 0 1).toNatClampNeg ≤ 4) ∧ ∀ i : Nat, (i : Int) < (N 0 2).toInt → 0 ≤ (N 7 i).toInt ∧ (N 7 i).toInt < (N 0 0).toInt
theorem rN_00 {T : Nat → Int32} {n : Int32} {s : StT} {N : NtT} : rtrN T n s N 0 0 = N 0 0 + 1 := by simp [rtrN, putT]
theorem rN_01 {T : Nat → Int32} {n : Int32} {s : StT} {N : NtT} : rtrN T n s N 0 1 = N 0 1 := by simp [rtrN, putT]
theorem rN_02 {T : Nat → Int32} {n : Int32} {s : StT} {N : NtT} : rtrN T n s N 0 2 = N 0 2 := by simp [rtrN, putT]
theorem rN_1 {T : Nat → Int32} {n : Int32} {s : StT} {N : NtT} {i : Nat} : rtrN T n s N 1 i = if i = (N 0 0).toNatClampNeg then kndS T (rtr1 T n s) else N 1 i := by simp [rtrN, putT]
theorem rN_5 {T : Nat → Int32} {n : Int32} {s : StT} {N : NtT} : rtrN T n s N 5 = N 5 := by
  funext i
  simp [rtrN, putT]
theorem rN_6 {T : Nat → Int32} {n : Int32} {s : StT} {N : NtT} {i : Nat} : rtrN T n s N 6 i = N 6 i := by simp [rtrN, putT]
theorem rN_7 {T : Nat → Int32} {n : Int32} {s : StT} {N : NtT} {i : Nat} : rtrN T n s N 7 i = N 7 i := by simp [rtrN, putT]
theorem lkN_00 {T : Nat → Int32} {n : Int32} {s : StT} {N : NtT} : lnkN T n s N 0 0 = N 0 0 := by simp [lnkN, putT]
theorem lkN_01 {T : Nat → Int32} {n : Int32} {s : StT} {N : NtT} : lnkN T n s N 0 1 = N 0 1 + 1 := by simp [lnkN, putT]
theorem lkN_02 {T : Nat → Int32} {n : Int32} {s : StT} {N : NtT} : lnkN T n s N 0 2 = N 0 2 := by simp [lnkN, putT]
theorem lkN_1 {T : Nat → Int32} {n : Int32} {s : StT} {N : NtT} {i : Nat} : lnkN T n s N 1 i = N 1 i := by simp [lnkN, putT]
theorem lkN_5 {T : Nat → Int32} {n : Int32} {s : StT} {N : NtT} {i : Nat} : lnkN T n s N 5 i = if i = (N 0 1).toNatClampNeg then lnkA T n s else N 5 i := by simp [lnkN, putT]
theorem lkN_6 {T : Nat → Int32} {n : Int32} {s : StT} {N : NtT} {i : Nat} : lnkN T n s N 6 i = if i = (N 0 1).toNatClampNeg then lnkB T n s (N 0 0) (N 0 1) (N 5) else N 6 i := by simp [lnkN, putT]
theorem lkN_7 {T : Nat → Int32} {n : Int32} {s : StT} {N : NtT} {i : Nat} : lnkN T n s N 7 i = N 7 i := by simp [lnkN, putT]
theorem gN_00 {T : Nat → Int32} {n : Int32} {s : StT} {N : NtT} : golN T n s N 0 0 = N 0 0 := by simp [golN, putT]
theorem gN_01 {T : Nat → Int32} {n : Int32} {s : StT} {N : NtT} : golN T n s N 0 1 = N 0 1 := by simp [golN, putT]
theorem gN_02 {T : Nat → Int32} {n : Int32} {s : StT} {N : NtT} : golN T n s N 0 2 = N 0 2 + 1 := by simp [golN, putT]
theorem gN_r {T : Nat → Int32} {n : Int32} {s : StT} {N : NtT} {r : Nat} (h0 : ¬ r = 0) (h7 : ¬ r = 7) : golN T n s N r = N r := by
  funext i
  simp [golN, putT, h0, h7]
theorem gN_7 {T : Nat → Int32} {n : Int32} {s : StT} {N : NtT} {i : Nat} : golN T n s N 7 i = if i = (N 0 2).toNatClampNeg then lnkA T n s else N 7 i := by simp [golN, putT]
theorem oN_0 {T : Nat → Int32} {n : Int32} {s : StT} {N : NtT} {i : Nat} (h3 : ¬ i = 3) (h4 : ¬ i = 4) : losN T n s N 0 i = N 0 i := by simp [losN, putT, h3, h4]
theorem oN_r {T : Nat → Int32} {n : Int32} {s : StT} {N : NtT} {r : Nat} (h0 : ¬ r = 0) : losN T n s N r = N r := by
  funext i
  simp [losN, putT, h0]
theorem wf_r {T : Nat → Int32} {n : Int32} {s : StT} {N : NtT} (h : WfT N) (ho : okT (rtrS T n s (N 0 0))) : WfT (rtrN T n s N) := by
  obtain ⟨⟨b0, b1, b2⟩, hk, hl, hc, hg⟩ := h
  have hne : ¬ N 0 0 = 12 := fun w => by
    unfold rtrS at ho
    rw [iteT_t w] at ho
    exact ok_fail ho
  obtain ⟨c0, c1⟩ := iv_up b0 (by decide) (by rw [show Int32.ofInt 12 = 12 from by decide]; exact hne)
  have hkd := rt_knd ho
  refine ⟨⟨by rw [rN_00]; exact c0, by rw [rN_01]; exact b1, by rw [rN_02]; exact b2⟩, ?_, ?_, ?_, ?_⟩
  · intro i hi
    rw [rN_00, c1] at hi
    rw [rN_1]
    by_cases q : i = (N 0 0).toNatClampNeg
    · rw [if_pos q]
      exact hkd
    · rw [if_neg q]
      exact hk i ((lt_nat b0 hi).resolve_right q)
  · intro i hi
    rw [rN_01] at hi
    rw [rN_00, rN_5, rN_6, c1]
    obtain ⟨a1, a2, a3⟩ := hl i hi
    exact ⟨a1, a2, by omega⟩
  · intro a
    rw [rN_01, rN_5]
    exact hc a
  · intro i hi
    rw [rN_02] at hi
    rw [rN_00, rN_7, c1]
    obtain ⟨a1, a2⟩ := hg i hi
    exact ⟨a1, by omega⟩
theorem kl_up {x : Int32} {m : Int} (hx : iv 0 m x) (e : (x + 1).toInt = x.toInt + 1) : (x + 1).toNatClampNeg = x.toNatClampNeg + 1 := by
  have q := cl_nat hx (by decide)
  have h1 := hx.1
  have h2 : iv 0 (m + 1) (x + 1) := ⟨by omega, by have := hx.2; omega⟩
  have q2 := cl_nat h2 (by decide)
  omega
theorem wf_l {T : Nat → Int32} {n : Int32} {s : StT} {N : NtT} (h : WfT N) (ho : okT (lnkS T n s (N 0 0) (N 0 1) (N 5) (N 6))) : WfT (lnkN T n s N) := by
  obtain ⟨⟨b0, b1, b2⟩, hk, hl, hc, hg⟩ := h
  have hne : ¬ N 0 1 = 20 := fun w => by
    unfold lnkS at ho
    rw [iteT_t w] at ho
    exact ok_fail ho
  obtain ⟨c0, c1⟩ := iv_up b1 (by decide) (by rw [show Int32.ofInt 20 = 20 from by decide]; exact hne)
  obtain ⟨hab, hc4⟩ := lk_ok ho
  have e1 := kl_up b1 c1
  refine ⟨⟨by rw [lkN_00]; exact b0, by rw [lkN_01]; exact c0, by rw [lkN_02]; exact b2⟩, ?_, ?_, ?_, ?_⟩
  · intro i hi
    rw [lkN_00] at hi
    rw [lkN_1]
    exact hk i hi
  · intro i hi
    rw [lkN_01, c1] at hi
    rw [lkN_00, lkN_5, lkN_6]
    by_cases q : i = (N 0 1).toNatClampNeg
    · rw [if_pos q, if_pos q]
      exact hab
    · rw [if_neg q, if_neg q]
      exact hl i ((lt_nat b1 hi).resolve_right q)
  · intro a
    rw [lkN_01, e1]
    show cntT (lnkN T n s N 5) a (N 0 1).toNatClampNeg + (if lnkN T n s N 5 (N 0 1).toNatClampNeg = a then 1 else 0) ≤ 4
    rw [cnt_cg (g := N 5) _ (fun i hi => by rw [lkN_5, if_neg (by omega)]), lkN_5, if_pos rfl]
    have h4 := hc a
    by_cases q : lnkA T n s = a
    · rw [if_pos q]
      rw [q] at hc4
      omega
    · rw [if_neg q]
      omega
  · intro i hi
    rw [lkN_02] at hi
    rw [lkN_00, lkN_7]
    exact hg i hi
theorem wf_g {T : Nat → Int32} {n : Int32} {s : StT} {N : NtT} (h : WfT N) (ho : okT (golS T n s (N 0 0) (N 0 2) (N 7))) : WfT (golN T n s N) := by
  obtain ⟨⟨b0, b1, b2⟩, hk, hl, hc, hg⟩ := h
  have hne : ¬ N 0 2 = 3 := fun w => by
    unfold golS at ho
    rw [iteT_t w] at ho
    exact ok_fail ho
  obtain ⟨c0, c1⟩ := iv_up b2 (by decide) (by rw [show Int32.ofInt 3 = 3 from by decide]; exact hne)
  have hab := gl_ok ho
  have r1 : golN T n s N 1 = N 1 := gN_r (by decide) (by decide)
  have r5 : golN T n s N 5 = N 5 := gN_r (by decide) (by decide)
  have r6 : golN T n s N 6 = N 6 := gN_r (by decide) (by decide)
  refine ⟨⟨by rw [gN_00]; exact b0, by rw [gN_01]; exact b1, by rw [gN_02]; exact c0⟩, ?_, ?_, ?_, ?_⟩
  · intro i hi
    rw [gN_00] at hi
    rw [r1]
    exact hk i hi
  · intro i hi
    rw [gN_01] at hi
    rw [gN_00, r5, r6]
    exact hl i hi
  · intro a
    rw [gN_01, r5]
    exact hc a
  · intro i hi
    rw [gN_02, c1] at hi
    rw [gN_00, gN_7]
    by_cases q : i = (N 0 2).toNatClampNeg
    · rw [if_pos q]
      exact hab
    · rw [if_neg q]
      exact hg i ((lt_nat b2 hi).resolve_right q)
theorem wf_o {T : Nat → Int32} {n : Int32} {s : StT} {N : NtT} (h : WfT N) : WfT (losN T n s N) := by
  have r1 : losN T n s N 1 = N 1 := oN_r (by decide)
  have r5 : losN T n s N 5 = N 5 := oN_r (by decide)
  have r6 : losN T n s N 6 = N 6 := oN_r (by decide)
  have r7 : losN T n s N 7 = N 7 := oN_r (by decide)
  have q0 : losN T n s N 0 0 = N 0 0 := oN_0 (by decide) (by decide)
  have q1 : losN T n s N 0 1 = N 0 1 := oN_0 (by decide) (by decide)
  have q2 : losN T n s N 0 2 = N 0 2 := oN_0 (by decide) (by decide)
  unfold WfT
  rw [r1, r5, r6, r7, q0, q1, q2]
  exact h
theorem wf_n {T : Nat → Int32} {n : Int32} {k : TkT} {N : NtT} (h : WfT N) (ho : okT (clsS T n k N)) : WfT (clsN T n k N) := by
  have ho := ok_sgn (ok_next ho)
  unfold clsM at ho
  unfold clsN
  by_cases k0 : clsK T k = 0
  · rw [if_pos k0] at ho ⊢
    exact wf_r h ho
  · rw [if_neg k0] at ho ⊢
    by_cases k1 : clsK T k = 1
    · rw [if_pos k1] at ho ⊢
      exact wf_l h ho
    · rw [if_neg k1] at ho ⊢
      by_cases k2 : clsK T k = 2
      · rw [if_pos k2] at ho ⊢
        exact wf_g h ho
      · rw [if_neg k2]
        exact wf_o h
theorem run_wf {T : Nat → Int32} {n : Int32} : ∀ (f : Nat) (s : StT) (N : NtT), WfT N → okT (runN T n f s N).1 → WfT (runN T n f s N).2 := by
  intro f
  induction f with
  | zero => exact fun s N h _ => h
  | succ f ih =>
    intro s N h ho
    rcases s with q | k
    · exact (ok_l ho).elim
    · by_cases k0 : k.1 = 0
      · have e1 : runN T n (f + 1) (.inr k) N = (.inr k, N) := if_pos k0
        rw [e1]
        exact h
      · have e1 : runN T n (f + 1) (.inr k) N = runN T n f (clsS T n k N) (clsN T n k N) := if_neg k0
        rw [e1] at ho ⊢
        cases hc : clsS T n k N with
        | inl q =>
          rw [hc, runN_l] at ho
          exact (ok_l ho).elim
        | inr k' =>
          rw [hc] at ho
          exact ih (.inr k') _ (wf_n h (by rw [hc]; exact ok_r k')) ho
theorem wf_0 {d kd sa pa mn fr to gl : Nat → Int32} : WfT (NC (fun _ => 0) (upd (upd (upd (upd d 0 0) 1 0) 2 0) 3 5) kd sa pa mn fr to gl) := by
  have z : ∀ {P : Prop} (i : Nat), (i : Int) < ((0 : Int32)).toInt → P := fun i hi => by
    rw [show ((0 : Int32)).toInt = 0 from by decide] at hi
    omega
  exact ⟨⟨(⟨by decide, by decide⟩ : iv 0 12 0), (⟨by decide, by decide⟩ : iv 0 20 0), (⟨by decide, by decide⟩ : iv 0 3 0)⟩, fun i hi => z i hi, fun i hi => z i hi, fun a => show cntT _ a ((0 : Int32)).toNatClampNeg ≤ 4 from by rw [show ((0 : Int32)).toNatClampNeg = 0 from by decide]; exact Nat.zero_le 4, fun i hi => z i hi⟩
/-! the class's tables -/
def nF (f : Nat → Int32) : Nat → Nat := fun i => (f i).toNatClampNeg
theorem kl_lt {i x : Int32} {a b : Int} (hi : iv 0 a i) (hx : iv 0 b x) (h : i < x) : i.toNatClampNeg < x.toNatClampNeg := by
  have h := Int32.lt_iff_toInt_lt.mp h
  have q1 := cl_nat hi (by decide)
  have q2 := cl_nat hx (by decide)
  omega
theorem kl_le {i x : Int32} {a b : Int} (hi : iv 0 a i) (hx : iv 0 b x) (h : x ≤ i) : x.toNatClampNeg ≤ i.toNatClampNeg := by
  have h := Int32.le_iff_toInt_le.mp h
  have q1 := cl_nat hi (by decide)
  have q2 := cl_nat hx (by decide)
  omega
theorem kl_eq {i x : Int32} {a b : Int} (hi : iv 0 a i) (hx : iv 0 b x) (h : i.toNatClampNeg = x.toNatClampNeg) : i = x := (iv_nk hi (by decide)).trans ((congrArg nI h).trans (iv_nk hx (by decide)).symm)
theorem kl_s {i : Int32} {b : Int} (hi : iv 0 b i) (hb : b ≤ 1000) : (i + Int32.ofInt 1).toNatClampNeg = i.toNatClampNeg + 1 := by
  have e := iv_inc (a := 0) (b := b) 1 hi (by decide) (by omega) (by decide) (by decide)
  have q := cl_nat hi (by decide)
  have h1 := hi.1
  have h2 := hi.2
  have h3 : iv 0 (b + 1) (i + Int32.ofInt 1) := ⟨by omega, by omega⟩
  have q2 := cl_nat h3 (by decide)
  omega
theorem kl_b {i : Int32} {b : Int} (hi : iv 0 b i) : (i.toNatClampNeg : Int) ≤ b := by
  have q := cl_nat hi (by decide)
  have h2 := hi.2
  omega
def WfC (F T : Nat → Nat) (n m : Nat) : Prop := ∀ i, i < n → F i < T i ∧ T i < m
def RcC (F T : Nat → Nat) (n m : Nat) (R : Nat → Int32) : Prop := ∀ a, a < m → ∀ b, b < 12 → (bt (R a) b ↔ Rch F T n a b)
def FR7 (F T : Nat → Nat) (n m : Nat) (R : Nat → Int32) (r : Int32) : Prop := ∀ a : Nat, r.toInt < (a : Int) → a < m → ∀ b, b < 12 → (bt (R a) b ↔ Rch F T n a b)
def FR22 (F T : Nat → Nat) (n m : Nat) (R : Nat → Int32) (r i : Int32) : Prop := FR7 F T n m R r ∧ i.toNatClampNeg ≤ n ∧ ∀ b, b < 12 → (bt (R r.toNatClampNeg) b ↔ (b = r.toNatClampNeg ∨ ∃ j, j < i.toNatClampNeg ∧ F j = r.toNatClampNeg ∧ Rch F T n (T j) b))
theorem fr_i {F T : Nat → Nat} {n : Nat} {R : Nat → Int32} {x : Int32} (hx : iv 0 12 x) : FR7 F T n x.toNatClampNeg R (x - 1) := by
  intro a h1 h2
  have q := cl_nat hx (by decide)
  have e := iv_subc (c := 1) hx (y := 1) (by decide) (by decide) (by decide)
  exfalso
  omega
theorem fr_0 {F T : Nat → Nat} {n m : Nat} {R : Nat → Int32} {r : Int32} (h : FR7 F T n m R r) (hr : iv 0 11 r) : FR22 F T n m (upd R r.toNatClampNeg (1 <<< (r &&& 31))) r 0 := by
  have q := cl_nat hr (by decide)
  refine ⟨?_, by rw [kz0]; exact Nat.zero_le _, ?_⟩
  · intro a h1 h2 b hb
    rw [upd_ne9 (by omega)]
    exact h a h1 h2 b hb
  · intro b hb
    rw [upd_eq9, bt_1' hr (by decide)]
    constructor
    · exact Or.inl
    · rintro (h | ⟨j, h1, _⟩)
      · exact h
      · rw [kz0] at h1
        exact absurd h1 (Nat.not_lt_zero j)
theorem fr_y {fr to : Nat → Int32} {n m : Nat} {R : Nat → Int32} {r i : Int32} (h : FR22 (nF fr) (nF to) n m R r i) (hw : WfC (nF fr) (nF to) n m) (hi : iv 0 19 i) (hl : i.toNatClampNeg < n) (hr : iv 0 11 r) (hf : fr i.toNatClampNeg = r) : FR22 (nF fr) (nF to) n m (upd R r.toNatClampNeg ((R r.toNatClampNeg) ||| (R (to i.toNatClampNeg).toNatClampNeg))) r (i + Int32.ofInt 1) := by
  obtain ⟨h7, hn, hb⟩ := h
  have q := cl_nat hr (by decide)
  have hF : nF fr i.toNatClampNeg = r.toNatClampNeg := congrArg Int32.toNatClampNeg hf
  obtain ⟨w1, w2⟩ := hw _ hl
  have es := kl_s hi (by decide)
  refine ⟨?_, by omega, ?_⟩
  · intro a h1 h2 b hb
    rw [upd_ne9 (by omega)]
    exact h7 a h1 h2 b hb
  · intro b hb2
    have hT : bt (R (to i.toNatClampNeg).toNatClampNeg) b ↔ Rch (nF fr) (nF to) n (nF to i.toNatClampNeg) b := h7 (nF to i.toNatClampNeg) (by omega) w2 b hb2
    rw [upd_eq9, bt_or, hb b hb2, es, hT]
    constructor
    · rintro ((h | ⟨j, h1, h2, h3⟩) | h)
      · exact Or.inl h
      · exact Or.inr ⟨j, by omega, h2, h3⟩
      · exact Or.inr ⟨i.toNatClampNeg, by omega, hF, h⟩
    · rintro (h | ⟨j, h1, h2, h3⟩)
      · exact Or.inl (Or.inl h)
      · by_cases e : j = i.toNatClampNeg
        · rw [e] at h3
          exact Or.inr h3
        · exact Or.inl (Or.inr ⟨j, by omega, h2, h3⟩)
theorem fr_n {fr to : Nat → Int32} {n m : Nat} {R : Nat → Int32} {r i : Int32} (h : FR22 (nF fr) (nF to) n m R r i) (hi : iv 0 19 i) (hl : i.toNatClampNeg < n) (hr : iv 0 11 r) (hg : iv 0 11 (fr i.toNatClampNeg)) (hf : ¬ fr i.toNatClampNeg = r) : FR22 (nF fr) (nF to) n m R r (i + Int32.ofInt 1) := by
  obtain ⟨h7, hn, hb⟩ := h
  have hF : ¬ nF fr i.toNatClampNeg = r.toNatClampNeg := fun w => hf (kl_eq hg hr w)
  have es := kl_s hi (by decide)
  refine ⟨h7, by omega, ?_⟩
  intro b hb2
  rw [hb b hb2, es]
  constructor
  · rintro (h | ⟨j, h1, h2, h3⟩)
    · exact Or.inl h
    · exact Or.inr ⟨j, by omega, h2, h3⟩
  · rintro (h | ⟨j, h1, h2, h3⟩)
    · exact Or.inl h
    · by_cases e : j = i.toNatClampNeg
      · rw [e] at h2
        exact absurd h2 hF
      · exact Or.inr ⟨j, by omega, h2, h3⟩
theorem fr_e {F T : Nat → Nat} {m : Nat} {R : Nat → Int32} {r i x : Int32} (h : FR22 F T x.toNatClampNeg m R r i) (hr : iv 0 11 r) (hi : iv 0 20 i) (hx : iv 0 20 x) (he : x ≤ i) : FR7 F T x.toNatClampNeg m R (r + Int32.ofInt (-1)) := by
  obtain ⟨h7, hn, hb⟩ := h
  have q := cl_nat hr (by decide)
  have e1 := iv_inc (-1) hr (by decide) (by decide) (by decide) (by decide)
  have hc := kl_le hi hx he
  intro a h1 h2 b hb2
  by_cases ea : a = r.toNatClampNeg
  · rw [ea, hb b hb2]
    constructor
    · rintro (h | ⟨j, h1, h2, h3⟩)
      · rw [h]
        exact rch_r
      · exact rch_m (by omega) h2 h3
    · intro w
      rcases rch_i w with w | ⟨j, h1, h2, h3⟩
      · exact Or.inl w.symm
      · exact Or.inr ⟨j, by omega, h2, h3⟩
  · exact h7 a (by omega) h2 b hb2
theorem fr_x {F T : Nat → Nat} {n m : Nat} {R : Nat → Int32} {r : Int32} (h : FR7 F T n m R r) (hr : r < 0) : RcC F T n m R := by
  have hr := Int32.lt_iff_toInt_lt.mp hr
  rw [show ((0 : Int32)).toInt = 0 from by decide] at hr
  exact fun a ha => h a (by omega) ha
/-- whether one comes to another, as the class asks it -/
theorem cq_1 {R : Nat → Int32} {p q : Int32} (hq : iv 0 11 q) (h : ((R p.toNatClampNeg) >>> ((q : Int32) &&& 31)) &&& 1 = 1) : bt (R p.toNatClampNeg) q.toNatClampNeg := (bt_sr' hq (by decide)).mp h
theorem cq_0 {R : Nat → Int32} {p q : Int32} (hq : iv 0 11 q) (h : ¬ ((R p.toNatClampNeg) >>> ((q : Int32) &&& 31)) &&& 1 = 1) : ¬ bt (R p.toNatClampNeg) q.toNatClampNeg := fun w => h ((bt_sr' hq (by decide)).mpr w)
/-! branches, as the class keeps them: rows of twelve, rows of four -/
def BrR (F T : Nat → Nat) (n gl : Nat) (Bs B : Nat → Int32) (g r m : Nat) : Prop := Bs (12 * g + r) = nI (cnP (bpT F T n gl r) m) ∧ ∀ l, l < m → bpT F T n gl r l → B (4 * (12 * g + r) + cnP (bpT F T n gl r) l) = nI l
def BrA (F T G : Nat → Nat) (n m : Nat) (Bs B : Nat → Int32) (g : Nat) : Prop := ∀ g', g' < g → ∀ r, r < m → BrR F T n (G g') Bs B g' r n
def Lk4 (F : Nat → Nat) (n : Nat) : Prop := ∀ r, cnP (fun l => F l = r) n ≤ 4
theorem bp_4 {F T : Nat → Nat} {n g r l : Nat} (h4 : Lk4 F n) (hl : l < n) (hb : bpT F T n g r l) : cnP (bpT F T n g r) l < 4 := by
  have h1 := cn_lt hl hb
  have h2 := cn_le (P := bpT F T n g r) (Q := fun l => F l = r) (m := n) (fun i _ h => h.1)
  have h3 := h4 r
  omega
def BF16 (F T G : Nat → Nat) (n m : Nat) (Rr Bs B : Nat → Int32) (g : Nat) (r : Nat) : Prop := RcC F T n m Rr ∧ BrA F T G n m Bs B g ∧ ∀ r', r' < r → Bs (12 * g + r') = 0
def BF44 (F T G : Nat → Nat) (n m : Nat) (Rr Bs B : Nat → Int32) (g : Nat) (i : Nat) : Prop := RcC F T n m Rr ∧ BrA F T G n m Bs B g ∧ i ≤ n ∧ ∀ r, r < m → BrR F T n (G g) Bs B g r i
theorem bf_16s {F T G : Nat → Nat} {n m : Nat} {Rr Bs B : Nat → Int32} {g r : Nat} {k : Nat} (h : BF16 F T G n m Rr Bs B g r) (hm : m ≤ 12) (hr : r < m) (hk : k = 12 * g + r) : BF16 F T G n m Rr (upd Bs k 0) B g (r + 1) := by
  subst hk
  obtain ⟨h1, h2, h3⟩ := h
  refine ⟨h1, ?_, ?_⟩
  · intro g' hg' r' hr'
    obtain ⟨a1, a2⟩ := h2 g' hg' r' hr'
    refine ⟨?_, a2⟩
    rw [upd_ne9 (by omega)]
    exact a1
  · intro r' hr'
    by_cases e : r' = r
    · rw [e, upd_eq9]
    · rw [upd_ne9 (by omega)]
      exact h3 r' (by omega)
theorem bf_44i {F T G : Nat → Nat} {n m : Nat} {Rr Bs B : Nat → Int32} {g r : Nat} (h : BF16 F T G n m Rr Bs B g r) (hr : m ≤ r) : BF44 F T G n m Rr Bs B g 0 := by
  obtain ⟨h1, h2, h3⟩ := h
  exact ⟨h1, h2, Nat.zero_le _, fun r' hr' => ⟨h3 r' (by omega), fun l hl => absurd hl (Nat.not_lt_zero l)⟩⟩
theorem row_eq {g f : Int32} (hg : iv 0 2 g) (hf : iv 0 11 f) : (g * 12) + f = nI (12 * g.toNatClampNeg + f.toNatClampNeg) := by
  have q1 := cl_nat hg (by decide)
  have q2 := cl_nat hf (by decide)
  have a1 := hg.1
  have a2 := hg.2
  have a3 := hf.1
  have a4 := hf.2
  have e1 := iv_mul0 (c := 12) (d := 12) hg (y := 12) ⟨by decide, by decide⟩ (by decide) (by decide) (by decide)
  rw [show ((12 : Int32)).toInt = 12 from by decide] at e1
  have h1 : iv 0 24 (g * 12) := ⟨by omega, by omega⟩
  have e2 := iv_add0 h1 hf (by decide) (by decide)
  apply Int32.toInt_inj.mp
  rw [nI_toInt (by omega), e2, e1]
  omega
theorem ix_eq {R k : Nat} (hR : R < 36) (hk : k < 5) : (nI R * 4) + nI k = nI (4 * R + k) := by
  have hr : iv 0 35 (nI R) := iv_nIv (by omega) (by omega) (by omega)
  have hq : iv 0 4 (nI k) := iv_nIv (by omega) (by omega) (by omega)
  have e1 := iv_mul0 (c := 4) (d := 4) hr (y := 4) ⟨by decide, by decide⟩ (by decide) (by decide) (by decide)
  rw [show ((4 : Int32)).toInt = 4 from by decide, nI_toInt (by omega)] at e1
  have h1 : iv 0 140 (nI R * 4) := ⟨by omega, by omega⟩
  have e2 := iv_add0 h1 hq (by decide) (by decide)
  apply Int32.toInt_inj.mp
  rw [nI_toInt (by omega), e2, e1, nI_toInt (by omega)]
  omega
theorem bf_44y {F T G : Nat → Nat} {n m : Nat} {Rr Bs B Bs' B' : Nat → Int32} {g i : Nat} {row : Int32} (h : BF44 F T G n m Rr Bs B g i) (h4 : Lk4 F n) (hw : WfC F T n m) (hm : m ≤ 12) (hi : i < n) (hg : g < 3) (hr : Rch F T n (T i) (G g)) (hrow : row = nI (12 * g + F i)) (e1 : Bs' = upd Bs row.toNatClampNeg ((Bs row.toNatClampNeg) + 1)) (e2 : B' = upd B ((row * 4) + (Bs row.toNatClampNeg)).toNatClampNeg (nI i)) : BF44 F T G n m Rr Bs' B' g (i + 1) := by
  obtain ⟨h1, h2, h3, h5⟩ := h
  obtain ⟨w1, w2⟩ := hw i hi
  have hb : bpT F T n (G g) (F i) i := ⟨rfl, hr⟩
  have hc4 := bp_4 h4 hi hb
  obtain ⟨b1, b2⟩ := h5 (F i) (by omega)
  subst hrow
  rw [nI_clamp (by omega), b1] at e1 e2
  rw [ix_eq (by omega) (by omega), nI_clamp (by omega)] at e2
  subst e1 e2
  refine ⟨h1, ?_, by omega, ?_⟩
  · intro g' hg' r' hr'
    obtain ⟨a1, a2⟩ := h2 g' hg' r' hr'
    refine ⟨?_, fun l hl hb' => ?_⟩
    · rw [upd_ne9 (by omega)]
      exact a1
    · have := bp_4 h4 hl hb'
      rw [upd_ne9 (by omega)]
      exact a2 l hl hb'
  · intro r' hr'
    by_cases er : r' = F i
    · subst er
      refine ⟨?_, fun l hl hb' => ?_⟩
      · rw [upd_eq9, cn_y hb, ← nI_add]
        rfl
      · by_cases el : l = i
        · subst el
          rw [upd_eq9]
        · have hlt := cn_lt (show l < i by omega) hb'
          rw [upd_ne9 (by omega)]
          exact b2 l (by omega) hb'
    · obtain ⟨c1, c2⟩ := h5 r' hr'
      have hnb : ¬ bpT F T n (G g) r' i := fun w => er w.1.symm
      refine ⟨?_, fun l hl hb' => ?_⟩
      · rw [upd_ne9 (by omega), cn_n hnb]
        exact c1
      · have hli : ¬ l = i := fun w => hnb (w ▸ hb')
        have := bp_4 h4 (show l < n by omega) hb'
        rw [upd_ne9 (by omega)]
        exact c2 l (by omega) hb'
theorem bf_44n {F T G : Nat → Nat} {n m : Nat} {Rr Bs B : Nat → Int32} {g i : Nat} (h : BF44 F T G n m Rr Bs B g i) (hi : i < n) (hr : ¬ Rch F T n (T i) (G g)) : BF44 F T G n m Rr Bs B g (i + 1) := by
  obtain ⟨h1, h2, h3, h5⟩ := h
  refine ⟨h1, h2, by omega, fun r' hr' => ?_⟩
  obtain ⟨c1, c2⟩ := h5 r' hr'
  have hnb : ¬ bpT F T n (G g) r' i := fun w => hr w.2
  refine ⟨by rw [cn_n hnb]; exact c1, fun l hl hb' => ?_⟩
  have hli : ¬ l = i := fun w => hnb (w ▸ hb')
  exact c2 l (by omega) hb'
theorem bf_6 {F T G : Nat → Nat} {n m : Nat} {Rr Bs B : Nat → Int32} {g i : Nat} (h : BF44 F T G n m Rr Bs B g i) (hi : n ≤ i) : BF16 F T G n m Rr Bs B (g + 1) 0 := by
  obtain ⟨h1, h2, h3, h5⟩ := h
  have e : i = n := by omega
  subst e
  refine ⟨h1, fun g' hg' r' hr' => ?_, fun r' hr' => absurd hr' (Nat.not_lt_zero r')⟩
  by_cases eg : g' = g
  · subst eg
    exact h5 r' hr'
  · exact h2 g' (by omega) r' hr'
/-! the choice is one of them -/
theorem iv_cnt {m : Nat} (hm : m < 1000) : iv m m (nI m) := iv_nIv (by omega) (Int.le_refl _) (Int.le_refl _)
theorem ch_lt {kd sa tu p g : Int32} {m : Nat} (hm : 0 < m) (hm2 : m < 1000) (hs : iv 0 15 sa) (ht : iv 0 59 tu) (hp : iv 0 31 p) (hg : iv 0 2 g) : iv 0 (m - 1) (chI kd sa tu p g (nI m)) := by
  have hc := iv_cnt hm2
  have h7 : iv 0 217 (7 * p) := iv_mul (a := 7) (b := 7) ⟨by decide, by decide⟩ hp (by decide) (by decide) (by decide) (by decide) (by decide)
  have h13 : iv 0 26 (13 * g) := iv_mul (a := 13) (b := 13) ⟨by decide, by decide⟩ hg (by decide) (by decide) (by decide) (by decide) (by decide)
  have a1 : iv 0 243 ((7 * p) + (13 * g)) := iv_add h7 h13 (by decide) (by decide) (by decide) (by decide)
  have a2 : iv 0 258 (((7 * p) + (13 * g)) + sa) := iv_add a1 hs (by decide) (by decide) (by decide) (by decide)
  have a3 : iv 0 41 ((13 * g) + sa) := iv_add h13 hs (by decide) (by decide) (by decide) (by decide)
  unfold chI
  by_cases k1 : kd = 1
  · rw [if_pos k1]
    exact iv_rem a2 hc (by decide) (by omega) (by decide) (by omega)
  · rw [if_neg k1]
    by_cases k2 : kd = 2
    · rw [if_pos k2]
      exact iv_rem ht hc (by decide) (by omega) (by decide) (by omega)
    · rw [if_neg k2]
      by_cases k3 : kd = 3
      · rw [if_pos k3]
        exact iv_rem a3 hc (by decide) (by omega) (by decide) (by omega)
      · rw [if_neg k3]
        exact ⟨by decide, by show ((0 : Int32)).toInt ≤ _; rw [show ((0 : Int32)).toInt = 0 from by decide]; omega⟩
theorem nI_le0 {m : Nat} (hm : m < 1000) (h : nI m ≤ 0) : m = 0 := by
  have h := Int32.le_iff_toInt_le.mp h
  rw [nI_toInt (by omega), show ((0 : Int32)).toInt = 0 from by decide] at h
  omega
theorem nI_gt0 {m : Nat} (hm : m < 1000) (h : 0 < nI m) : 0 < m := by
  have h := Int32.lt_iff_toInt_lt.mp h
  rw [nI_toInt (by omega), show ((0 : Int32)).toInt = 0 from by decide] at h
  omega
theorem bc_n {F T : Nat → Nat} {n g r : Nat} (h4 : Lk4 F n) : cnP (bpT F T n g r) n ≤ 4 := Nat.le_trans (cn_le (fun i _ h => h.1)) (h4 r)
theorem go_l {F T G : Nat → Nat} {n m ng gi r : Nat} {Bs B : Nat → Int32} {ix : Int32} {ch : Nat → Nat → Nat} (hB : BrA F T G n m Bs B ng) (h4 : Lk4 F n) (hg : gi < ng) (hr : r < m) (hix : ix = nI (12 * gi + r)) (hi : 12 * gi + r < 36) (h : Bs ix.toNatClampNeg ≤ 0) : ∀ k, ¬ stT F T n (G gi) ch r k := by
  intro k
  obtain ⟨e, _⟩ := hB gi hg r hr
  rw [hix, nI_clamp (by omega), e] at h
  have := bc_n (T := T) (g := G gi) (r := r) h4
  exact st_no (nI_le0 (by omega) h)
theorem go_s {F T G : Nat → Nat} {n m ng gi r : Nat} {Bs B kd sa tu : Nat → Int32} {ix p g c : Int32} (hB : BrA F T G n m Bs B ng) (h4 : Lk4 F n) (hg : gi < ng) (hr : r < m) (hix : ix = nI (12 * gi + r)) (hi : 12 * gi + r < 36) (h : 0 < Bs ix.toNatClampNeg) (hs : iv 0 15 (sa r)) (ht : iv 0 59 (tu r)) (hp : iv 0 31 p) (hgi : iv 0 2 g) (hc : c = chI (kd r) (sa r) (tu r) p g (Bs ix.toNatClampNeg)) : ∃ k, k < n ∧ stT F T n (G gi) (chN kd sa tu p g) r k ∧ B ((ix * 4) + c).toNatClampNeg = nI k := by
  obtain ⟨e, hb⟩ := hB gi hg r hr
  rw [hix, nI_clamp (by omega), e] at h hc
  have h5 := bc_n (T := T) (g := G gi) (r := r) h4
  have hm := nI_gt0 (by omega) h
  have hv := ch_lt (kd := kd r) hm (by omega) hs ht hp hgi
  rw [← hc] at hv
  have hcv : c.toNatClampNeg = chN kd sa tu p g r (cnP (bpT F T n (G gi) r) n) := congrArg Int32.toNatClampNeg hc
  have q := cl_nat hv (by decide)
  have h2 := hv.2
  obtain ⟨l, l1, l2, l3⟩ := cn_ex (P := bpT F T n (G gi) r) (n := n) (k := c.toNatClampNeg) (by omega)
  refine ⟨l, l1, ⟨l1, l2, l3.trans hcv⟩, ?_⟩
  have ec : c = nI c.toNatClampNeg := iv_nk hv (by decide)
  rw [hix, ec, ix_eq (by omega) (by omega), nI_clamp (by omega), ← l3]
  exact hb l l1 l2
/-- one step of a walk: fields 2 router, 6 links, 7 lost -/
def GoR (S : Nat → Nat → Prop) (to : Nat → Int32) (x x' : Nat → Int32) : Prop := (x' 7 = 1 ∧ x' 6 = x 6 ∧ ∀ k, ¬ S (x 2).toNatClampNeg k) ∨ (x' 7 = x 7 ∧ ∃ k, k < 20 ∧ S (x 2).toNatClampNeg k ∧ x' 6 = (x 6) ||| (1 <<< (nI k &&& 31)) ∧ x' 2 = to k)
def TkR (S : Nat → Nat → Prop) (T : Nat → Nat) (gl m : Nat) (x : Nat → Int32) (h i : Int32) : Prop := h.toInt + i.toInt = 13 ∧ x 7 = 0 ∧ (x 2).toNatClampNeg < m ∧ ∀ l, l < 32 → (wayP S T gl 12 0 l ↔ (bt (x 6) l ∨ wayP S T gl (12 - i.toNatClampNeg) (x 2).toNatClampNeg l))
def TkE (S : Nat → Nat → Prop) (T : Nat → Nat) (gl : Nat) (x : Nat → Int32) : Prop := ∀ l, l < 32 → (bt (x 6) l ↔ wayP S T gl 12 0 l)
theorem tk_0 {S : Nat → Nat → Prop} {T : Nat → Nat} {gl m : Nat} {x : Nat → Int32} (h2 : x 2 = 0) (h6 : x 6 = 0) (h7 : x 7 = 0) (hm : 0 < m) : TkR S T gl m x 13 0 := by
  refine ⟨by decide, h7, by rw [h2, kz0]; exact hm, fun l hl => ?_⟩
  rw [h2, h6, kz0]
  exact ⟨Or.inr, fun w => w.resolve_left bt_zz⟩
theorem tk_hv {S : Nat → Nat → Prop} {T : Nat → Nat} {gl m : Nat} {x : Nat → Int32} {h i : Int32} (hr : TkR S T gl m x h i) (hi : iv 0 11 i) : iv 2 13 h := by
  have e := hr.1
  have h1 := hi.1
  have h2 := hi.2
  exact ⟨by omega, by omega⟩
theorem tk_s {fr to : Nat → Int32} {n gl m : Nat} {ch : Nat → Nat → Nat} {x x' : Nat → Int32} {h i gg : Int32} (hr : TkR (stT (nF fr) (nF to) n gl ch) (nF to) gl m x h i) (hi : iv 0 11 i) (hh : iv 2 13 h) (hx : iv 0 11 (x 2)) (hgg : iv 0 11 gg) (hgl : gl = gg.toNatClampNeg) (hg : ¬ x 2 = gg) (hw : WfC (nF fr) (nF to) n m) (go : GoR (stT (nF fr) (nF to) n gl ch) to x x') (h0 : x' 7 = 0) : TkR (stT (nF fr) (nF to) n gl ch) (nF to) gl m x' (h + Int32.ofInt (-1)) (i + Int32.ofInt 1) := by
  obtain ⟨e, x7, xm, hl⟩ := hr
  have e1 := iv_inc (-1) hh (by decide) (by decide) (by decide) (by decide)
  have e2 := iv_inc 1 hi (by decide) (by decide) (by decide) (by decide)
  have es := kl_s hi (by decide)
  have q := cl_nat hi (by decide)
  have hi2 := hi.2
  rcases go with ⟨g1, _⟩ | ⟨g1, k, k20, hk, g2, g3⟩
  · rw [h0] at g1
    exact absurd g1 (by decide)
  · have hgn : ¬ (x 2).toNatClampNeg = gl := fun w => hg (kl_eq hx hgg (w.trans hgl))
    have e3 : (x' 2).toNatClampNeg = nF to k := congrArg Int32.toNatClampNeg g3
    refine ⟨by rw [e1, e2]; omega, h0, by rw [e3]; exact (hw k hk.1).2, fun l hl2 => ?_⟩
    rw [hl l hl2, es, e3, g2, bt_or, bt_1 (by omega), show 12 - i.toNatClampNeg = (12 - (i.toNatClampNeg + 1)) + 1 from by omega, way_s hgn hk (fun a b ha hb => st_fun ha hb)]
    constructor
    · rintro (h | h | h)
      · exact Or.inl (Or.inl h)
      · exact Or.inl (Or.inr h)
      · exact Or.inr h
    · rintro ((h | h) | h)
      · exact Or.inl h
      · exact Or.inr (Or.inl h)
      · exact Or.inr (Or.inr h)
theorem tk_g {S : Nat → Nat → Prop} {T : Nat → Nat} {gl m : Nat} {x : Nat → Int32} {h i gg : Int32} (hr : TkR S T gl m x h i) (hgl : gl = gg.toNatClampNeg) (hg : x 2 = gg) : TkE S T gl x := by
  intro l hl
  rw [hr.2.2.2 l hl, hg, ← hgl]
  exact ⟨Or.inl, fun w => w.resolve_right way_g⟩
theorem tk_l {S : Nat → Nat → Prop} {T : Nat → Nat} {gl m : Nat} {to x x' : Nat → Int32} {h i : Int32} (hr : TkR S T gl m x h i) (go : GoR S to x x') (h0 : ¬ x' 7 = 0) : TkE S T gl x' := by
  intro l hl
  rcases go with ⟨_, g2, g3⟩ | ⟨g1, _⟩
  · rw [g2, hr.2.2.2 l hl]
    exact ⟨Or.inl, fun w => w.resolve_right (way_n g3)⟩
  · exact absurd (g1.trans hr.2.1) h0
theorem tk_12 {S : Nat → Nat → Prop} {T : Nat → Nat} {gl m : Nat} {x : Nat → Int32} {h i : Int32} (hr : TkR S T gl m x h i) (hi : iv 0 12 i) (h12 : 12 ≤ i) : TkE S T gl x := by
  intro l hl
  have h12 := Int32.le_iff_toInt_le.mp h12
  rw [show ((12 : Int32)).toInt = 12 from by decide] at h12
  have q := cl_nat hi (by decide)
  rw [hr.2.2.2 l hl, show 12 - i.toNatClampNeg = 0 from by omega]
  exact ⟨Or.inl, fun w => w.resolve_right (fun w => w)⟩
/-! the links that are wanted -/
def LwR (W : Nat → Prop) (b : Int32) (i : Nat) : Prop := ∀ l, l < 32 → (bt b l ↔ (l < i ∧ W l))
theorem lw_0 {W : Nat → Prop} : LwR W 0 ((0 : Int32)).toNatClampNeg := by
  rw [kz0]
  exact fun l _ => ⟨fun h => absurd h bt_zz, fun h => absurd h.1 (Nat.not_lt_zero l)⟩
theorem lw_y {W : Nat → Prop} {b i : Int32} (h : LwR W b i.toNatClampNeg) (hi : iv 0 19 i) (hw : W i.toNatClampNeg) : LwR W (b ||| (1 <<< ((i : Int32) &&& 31))) (i + Int32.ofInt 1).toNatClampNeg := by
  intro l hl
  rw [bt_or, h l hl, bt_1' hi (by decide), kl_s hi (by decide)]
  constructor
  · rintro (⟨h1, h2⟩ | h1)
    · exact ⟨by omega, h2⟩
    · exact ⟨by omega, h1 ▸ hw⟩
  · rintro ⟨h1, h2⟩
    by_cases e : l = i.toNatClampNeg
    · exact Or.inr e
    · exact Or.inl ⟨by omega, h2⟩
theorem lw_n {W : Nat → Prop} {b i : Int32} (h : LwR W b i.toNatClampNeg) (hi : iv 0 19 i) (hw : ¬ W i.toNatClampNeg) : LwR W b (i + Int32.ofInt 1).toNatClampNeg := by
  intro l hl
  rw [h l hl, kl_s hi (by decide)]
  constructor
  · rintro ⟨h1, h2⟩
    exact ⟨by omega, h2⟩
  · rintro ⟨h1, h2⟩
    by_cases e : l = i.toNatClampNeg
    · exact absurd (e ▸ h2) hw
    · exact ⟨by omega, h2⟩
theorem or_z (b : Int32) : b ||| 0 = b := by
  apply Int32.toBitVec_inj.mp
  rw [Int32.toBitVec_or]
  exact BitVec.or_zero
theorem lw_e {W : Nat → Prop} {b i x : Int32} (h : LwR W b i.toNatClampNeg) (hi : iv 0 20 i) (hx : iv 0 20 x) (he : x ≤ i) (hW : ∀ l, W l → l < x.toNatClampNeg) : ∀ l, l < 32 → (bt b l ↔ W l) := by
  have hc := kl_le hi hx he
  intro l hl
  rw [h l hl]
  exact ⟨fun w => w.2, fun w => ⟨by have := hW l w; omega, w⟩⟩
/-! the ports, one by one -/
def CvR (W : Nat → Prop) (O : Nat → Nat → Prop) (w : Int32) (p : Nat) : Prop := (∀ l, l < 32 → (bt w l ↔ (W l ∧ ∀ q, q < p → ¬ O q l))) ∧ ∀ q, q < p → ¬ covd W O q
theorem cv_0 {W : Nat → Prop} {O : Nat → Nat → Prop} {w : Int32} (h : ∀ l, l < 32 → (bt w l ↔ W l)) : CvR W O w ((0 : Int32)).toNatClampNeg := by
  rw [kz0]
  refine ⟨fun l hl => ?_, fun q hq => absurd hq (Nat.not_lt_zero q)⟩
  rw [h l hl]
  exact ⟨fun h => ⟨h, fun q hq => absurd hq (Nat.not_lt_zero q)⟩, fun h => h.1⟩
theorem cv_nz {W : Nat → Prop} {O : Nat → Nat → Prop} {w : Int32} {p : Nat} (h : CvR W O w p) (hw : ¬ w = 0) : ¬ covd W O p := by
  intro hc
  apply hw
  apply bt_z
  intro k hk hb
  obtain ⟨h1, h2⟩ := (h.1 k hk).mp hb
  obtain ⟨q, hq, ho⟩ := hc k h1
  exact h2 q hq ho
theorem cv_z {W : Nat → Prop} {O : Nat → Nat → Prop} {p : Nat} (h : CvR W O 0 p) (hW : ∀ l, W l → l < 32) : covd W O p := by
  intro l hl
  rcases Classical.em (∃ q, q < p ∧ O q l) with w | w
  · exact w
  · exact absurd ((h.1 l (hW l hl)).mpr ⟨hl, fun q hq ho => w ⟨q, hq, ho⟩⟩) bt_zz
theorem cv_s {W : Nat → Prop} {O : Nat → Nat → Prop} {w v : Int32} {p : Nat} (h : CvR W O w p) (hw : ¬ w = 0) (hv : ∀ l, l < 32 → (bt v l ↔ O p l)) : CvR W O (w &&& (v ^^^ (-1))) (p + 1) := by
  refine ⟨fun l hl => ?_, fun q hq => ?_⟩
  · rw [bt_an hl, h.1 l hl, hv l hl]
    constructor
    · rintro ⟨⟨h1, h2⟩, h3⟩
      refine ⟨h1, fun q hq => ?_⟩
      by_cases e : q = p
      · rw [e]
        exact h3
      · exact h2 q (by omega)
    · rintro ⟨h1, h2⟩
      exact ⟨⟨h1, fun q hq => h2 q (by omega)⟩, h2 p (by omega)⟩
  · by_cases e : q = p
    · rw [e]
      exact cv_nz h hw
    · exact h.2 q (by omega)
theorem cv_p {W : Nat → Prop} {O : Nat → Nat → Prop} {w p : Int32} (h : CvR W O w p.toNatClampNeg) (hp : iv 0 32 p) (hw : w = 0) (hW : ∀ l, W l → l < 32) : CovT W O p := by
  subst hw
  have q := kl_b hp
  exact Or.inl ⟨p.toNatClampNeg, by omega, iv_nk hp (by decide), cv_z h hW, h.2⟩
theorem cv_32 {p : Int32} (hp : iv 0 32 p) (h : 32 ≤ p) : p.toNatClampNeg = 32 := by
  have h := Int32.le_iff_toInt_le.mp h
  rw [show ((32 : Int32)).toInt = 32 from by decide] at h
  have q := cl_nat hp (by decide)
  have h2 := hp.2
  omega
theorem cv_y {W : Nat → Prop} {O : Nat → Nat → Prop} {w p : Int32} (h : CvR W O w p.toNatClampNeg) (hp : iv 0 32 p) (h32 : 32 ≤ p) (hw : w = 0) (hW : ∀ l, W l → l < 32) : CovT W O 32 := by
  have e := cv_32 hp h32
  rw [e] at h
  subst hw
  exact Or.inl ⟨32, Nat.le_refl _, rfl, cv_z h hW, h.2⟩
theorem cv_x {W : Nat → Prop} {O : Nat → Nat → Prop} {w p : Int32} (h : CvR W O w p.toNatClampNeg) (hp : iv 0 32 p) (h32 : 32 ≤ p) (hw : ¬ w = 0) : CovT W O (-1) := by
  have e := cv_32 hp h32
  rw [e] at h
  exact Or.inr ⟨rfl, cv_nz h hw⟩
/-! the reference's reach: who comes to each -/
def RrC (F T : Nat → Nat) (n m : Nat) (R : Nat → Int32) : Prop := ∀ a, a < m → ∀ b, b < 12 → (bt (R a) b ↔ Rch F T n b a)
def TR2 (F T : Nat → Nat) (n : Nat) (R : Nat → Int32) (r : Int32) : Prop := ∀ a : Nat, (a : Int) < r.toInt → ∀ b, b < 12 → (bt (R a) b ↔ Rch F T n b a)
def TR21 (F T : Nat → Nat) (n : Nat) (R : Nat → Int32) (r o : Int32) : Prop := TR2 F T n R r ∧ ∀ b, b < 12 → (bt (R r.toNatClampNeg) b ↔ (b = r.toNatClampNeg ∨ (o.toInt < (b : Int) ∧ Rch F T n b r.toNatClampNeg)))
def TR27 (F T : Nat → Nat) (n : Nat) (R : Nat → Int32) (r o l : Int32) : Prop := TR2 F T n R r ∧ l.toNatClampNeg ≤ n ∧ ∀ b, b < 12 → (bt (R r.toNatClampNeg) b ↔ (b = r.toNatClampNeg ∨ (o.toInt < (b : Int) ∧ Rch F T n b r.toNatClampNeg) ∨ (b = o.toNatClampNeg ∧ ∃ j, j < l.toNatClampNeg ∧ F j = o.toNatClampNeg ∧ Rch F T n (T j) r.toNatClampNeg)))
def LtC (F T : Nat → Nat) (n : Nat) : Prop := ∀ i, i < n → F i < T i
theorem tr_0 {F T : Nat → Nat} {n : Nat} {R : Nat → Int32} : TR2 F T n R 0 := fun a h => by
  rw [show ((0 : Int32)).toInt = 0 from by decide] at h
  exfalso
  omega
theorem tr_2 {F T : Nat → Nat} {n : Nat} {R : Nat → Int32} {r : Int32} (h : TR2 F T n R r) (hr : iv 0 11 r) (hw : LtC F T n) : TR21 F T n (upd R r.toNatClampNeg (1 <<< ((r : Int32) &&& 31))) r r := by
  have q := cl_nat hr (by decide)
  refine ⟨?_, ?_⟩
  · intro a h1 b hb
    rw [upd_ne9 (by omega)]
    exact h a h1 b hb
  · intro b hb
    rw [upd_eq9, bt_1' hr (by decide)]
    constructor
    · exact Or.inl
    · rintro (h | ⟨h1, h2⟩)
      · exact h
      · have := rch_le hw h2
        exfalso
        omega
theorem tr_27 {F T : Nat → Nat} {n : Nat} {R : Nat → Int32} {r o : Int32} (h : TR21 F T n R r o) : TR27 F T n R r o 0 := by
  refine ⟨h.1, Nat.zero_le _, fun b hb => ?_⟩
  rw [h.2 b hb]
  constructor
  · rintro (h | h)
    · exact Or.inl h
    · exact Or.inr (Or.inl h)
  · rintro (h | h | ⟨_, j, h1, _⟩)
    · exact Or.inl h
    · exact Or.inr h
    · rw [kz0] at h1
      exact absurd h1 (Nat.not_lt_zero j)
theorem tr_y {fr to : Nat → Int32} {n : Nat} {R : Nat → Int32} {r o l : Int32} (h : TR27 (nF fr) (nF to) n R r o l) (hw : LtC (nF fr) (nF to) n) (hl : iv 0 19 l) (hn : l.toNatClampNeg < n) (ho : iv 0 11 o) (ht : iv 0 11 (to l.toNatClampNeg)) (hf : fr l.toNatClampNeg = o) (hb : ((R r.toNatClampNeg) >>> ((to l.toNatClampNeg : Int32) &&& 31)) &&& 1 = 1) : TR27 (nF fr) (nF to) n (upd R r.toNatClampNeg ((R r.toNatClampNeg) ||| (1 <<< ((o : Int32) &&& 31)))) r o (l + Int32.ofInt 1) := by
  obtain ⟨h2, h3, h4⟩ := h
  have hF : nF fr l.toNatClampNeg = o.toNatClampNeg := congrArg Int32.toNatClampNeg hf
  have w1 := hw _ hn
  have es := kl_s hl (by decide)
  have tb := kl_b ht
  have hT : bt (R r.toNatClampNeg) (nF to l.toNatClampNeg) := (bt_sr' ht (by decide)).mp hb
  have hT2 : nF to l.toNatClampNeg < 12 := by
    show (to l.toNatClampNeg).toNatClampNeg < 12
    omega
  have hR : Rch (nF fr) (nF to) n (nF to l.toNatClampNeg) r.toNatClampNeg := by
    rcases (h4 _ hT2).mp hT with w | w | w
    · rw [w]
      exact rch_r
    · exact w.2
    · have := w.1
      exfalso
      omega
  refine ⟨?_, by omega, ?_⟩
  · intro a h1 b hb
    by_cases ea : a = r.toNatClampNeg
    · have q : r.toInt.toNat = r.toNatClampNeg := rfl
      exfalso
      omega
    · rw [upd_ne9 ea]
      exact h2 a h1 b hb
  · intro b hb2
    rw [upd_eq9, bt_or, h4 b hb2, bt_1' ho (by decide), es]
    constructor
    · rintro ((h | h | ⟨h, j, h1, h2, h3⟩) | h)
      · exact Or.inl h
      · exact Or.inr (Or.inl h)
      · exact Or.inr (Or.inr ⟨h, j, by omega, h2, h3⟩)
      · exact Or.inr (Or.inr ⟨h, l.toNatClampNeg, by omega, hF, hR⟩)
    · rintro (h | h | ⟨h, _⟩)
      · exact Or.inl (Or.inl h)
      · exact Or.inl (Or.inr (Or.inl h))
      · exact Or.inr h
theorem tr_n {fr to : Nat → Int32} {n : Nat} {R : Nat → Int32} {r o l : Int32} (h : TR27 (nF fr) (nF to) n R r o l) (hl : iv 0 19 l) (hn : l.toNatClampNeg < n) (ho : iv 0 11 o) (hg : iv 0 11 (fr l.toNatClampNeg)) (hf : ¬ fr l.toNatClampNeg = o) : TR27 (nF fr) (nF to) n R r o (l + Int32.ofInt 1) := by
  obtain ⟨h2, h3, h4⟩ := h
  have hF : ¬ nF fr l.toNatClampNeg = o.toNatClampNeg := fun w => hf (kl_eq hg ho w)
  have es := kl_s hl (by decide)
  refine ⟨h2, by omega, fun b hb => ?_⟩
  rw [h4 b hb, es]
  constructor
  · rintro (h | h | ⟨h, j, h1, h2, h3⟩)
    · exact Or.inl h
    · exact Or.inr (Or.inl h)
    · exact Or.inr (Or.inr ⟨h, j, by omega, h2, h3⟩)
  · rintro (h | h | ⟨h, j, h1, h2, h3⟩)
    · exact Or.inl h
    · exact Or.inr (Or.inl h)
    · by_cases e : j = l.toNatClampNeg
      · rw [e] at h2
        exact absurd h2 hF
      · exact Or.inr (Or.inr ⟨h, j, by omega, h2, h3⟩)
theorem tr_m {fr to : Nat → Int32} {n : Nat} {R : Nat → Int32} {r o l : Int32} (h : TR27 (nF fr) (nF to) n R r o l) (hw : LtC (nF fr) (nF to) n) (hl : iv 0 19 l) (hn : l.toNatClampNeg < n) (ho : iv 0 11 o) (ht : iv 0 11 (to l.toNatClampNeg)) (hf : fr l.toNatClampNeg = o) (hb : ¬ ((R r.toNatClampNeg) >>> ((to l.toNatClampNeg : Int32) &&& 31)) &&& 1 = 1) : TR27 (nF fr) (nF to) n R r o (l + Int32.ofInt 1) := by
  obtain ⟨h2, h3, h4⟩ := h
  have hF : nF fr l.toNatClampNeg = o.toNatClampNeg := congrArg Int32.toNatClampNeg hf
  have w1 := hw _ hn
  have q := cl_nat ho (by decide)
  have es := kl_s hl (by decide)
  have tb := kl_b ht
  have hT2 : nF to l.toNatClampNeg < 12 := by
    show (to l.toNatClampNeg).toNatClampNeg < 12
    omega
  have hR : ¬ Rch (nF fr) (nF to) n (nF to l.toNatClampNeg) r.toNatClampNeg := fun w => hb ((bt_sr' ht (by decide)).mpr ((h4 _ hT2).mpr (Or.inr (Or.inl ⟨by omega, w⟩))))
  refine ⟨h2, by omega, fun b hb => ?_⟩
  rw [h4 b hb, es]
  constructor
  · rintro (h | h | ⟨h, j, h1, h2, h3⟩)
    · exact Or.inl h
    · exact Or.inr (Or.inl h)
    · exact Or.inr (Or.inr ⟨h, j, by omega, h2, h3⟩)
  · rintro (h | h | ⟨h, j, h1, h2, h3⟩)
    · exact Or.inl h
    · exact Or.inr (Or.inl h)
    · by_cases e : j = l.toNatClampNeg
      · rw [e] at h3
        exact absurd h3 hR
      · exact Or.inr (Or.inr ⟨h, j, by omega, h2, h3⟩)
theorem tr_o {F T : Nat → Nat} {R : Nat → Int32} {r o l x : Int32} (h : TR27 F T x.toNatClampNeg R r o l) (ho : iv 0 11 o) (hl : iv 0 20 l) (hx : iv 0 20 x) (he : x ≤ l) : TR21 F T x.toNatClampNeg R r (o + Int32.ofInt (-1)) := by
  obtain ⟨h2, h3, h4⟩ := h
  have q := cl_nat ho (by decide)
  have e1 := iv_inc (-1) ho (by decide) (by decide) (by decide) (by decide)
  have hc := kl_le hl hx he
  refine ⟨h2, fun b hb => ?_⟩
  rw [h4 b hb, e1]
  constructor
  · rintro (h | ⟨h, w⟩ | ⟨h, j, h1, h2, h3⟩)
    · exact Or.inl h
    · exact Or.inr ⟨by omega, w⟩
    · exact Or.inr ⟨by omega, rch_m (by omega) (h2.trans h.symm) h3⟩
  · rintro (h | ⟨h, w⟩)
    · exact Or.inl h
    · by_cases e : b = o.toNatClampNeg
      · rcases rch_i w with w | ⟨j, h1, h2, h3⟩
        · exact Or.inl w
        · exact Or.inr (Or.inr ⟨e, j, by omega, h2.trans e, h3⟩)
      · exact Or.inr (Or.inl ⟨by omega, w⟩)
theorem tr_r {F T : Nat → Nat} {n : Nat} {R : Nat → Int32} {r o : Int32} (h : TR21 F T n R r o) (hr : iv 0 11 r) (ho : o < 0) : TR2 F T n R (r + Int32.ofInt 1) := by
  have q := cl_nat hr (by decide)
  have e1 := iv_inc 1 hr (by decide) (by decide) (by decide) (by decide)
  have ho := Int32.lt_iff_toInt_lt.mp ho
  rw [show ((0 : Int32)).toInt = 0 from by decide] at ho
  intro a ha b hb
  by_cases ea : a = r.toNatClampNeg
  · rw [ea, h.2 b hb]
    constructor
    · rintro (h | h)
      · rw [h]
        exact rch_r
      · exact h.2
    · exact fun w => Or.inr ⟨by omega, w⟩
  · exact h.1 a (by omega) b hb
theorem tr_e {F T : Nat → Nat} {n : Nat} {R : Nat → Int32} {r x : Int32} (h : TR2 F T n R r) (hx : iv 0 12 x) (he : x ≤ r) : RrC F T n x.toNatClampNeg R := by
  have he := Int32.le_iff_toInt_le.mp he
  have q := cl_nat hx (by decide)
  exact fun a ha => h a (by omega)
/-! the reference's branches -/
theorem ib_1 {fr to R : Nat → Int32} {n m : Nat} {l r e : Int32} (hR : RrC (nF fr) (nF to) n m R) (he : e.toNatClampNeg < m) (ht : iv 0 11 (to l.toNatClampNeg)) (hf : fr l.toNatClampNeg = r) (hb : ((R e.toNatClampNeg) >>> ((to l.toNatClampNeg : Int32) &&& 31)) &&& 1 = 1) : bpT (nF fr) (nF to) n e.toNatClampNeg r.toNatClampNeg l.toNatClampNeg := by
  have tb := kl_b ht
  exact ⟨congrArg Int32.toNatClampNeg hf, (hR _ he (nF to l.toNatClampNeg) (by show (to l.toNatClampNeg).toNatClampNeg < 12; omega)).mp ((bt_sr' ht (by decide)).mp hb)⟩
theorem ib_a {fr to : Nat → Int32} {n : Nat} {l r : Int32} {e : Nat} (hg : iv 0 11 (fr l.toNatClampNeg)) (hr : iv 0 11 r) (hf : ¬ fr l.toNatClampNeg = r) : ¬ bpT (nF fr) (nF to) n e r.toNatClampNeg l.toNatClampNeg := fun w => hf (kl_eq hg hr w.1)
theorem ib_b {fr to R : Nat → Int32} {n m : Nat} {l r e : Int32} (hR : RrC (nF fr) (nF to) n m R) (he : e.toNatClampNeg < m) (ht : iv 0 11 (to l.toNatClampNeg)) (hb : ¬ ((R e.toNatClampNeg) >>> ((to l.toNatClampNeg : Int32) &&& 31)) &&& 1 = 1) : ¬ bpT (nF fr) (nF to) n e.toNatClampNeg r.toNatClampNeg l.toNatClampNeg := fun w => by
  have tb := kl_b ht
  exact hb ((bt_sr' ht (by decide)).mpr ((hR _ he (nF to l.toNatClampNeg) (by show (to l.toNatClampNeg).toNatClampNeg < 12; omega)).mpr w.2))
/-- what isBranch answers -/
def IbR (P : Prop) (v : Int32) : Prop := (v = 0 ∧ ¬ P) ∨ (v = 1 ∧ P)
theorem ib_y {P : Prop} {v : Int32} (h : IbR P v) (hv : ¬ v = 0) : P := by
  rcases h with h | h
  · exact absurd h.1 hv
  · exact h.2
theorem ib_n {P : Prop} {v : Int32} (h : IbR P v) (hv : v = 0) : ¬ P := by
  rcases h with h | h
  · exact h.2
  · rw [hv] at h
    exact absurd h.1 (by decide)
def BcR (P : Nat → Prop) (n : Nat) (v l : Int32) : Prop := v = nI (cnP P l.toNatClampNeg) ∧ l.toNatClampNeg ≤ n
theorem bc_0 {P : Nat → Prop} {n : Nat} : BcR P n 0 0 := by
  unfold BcR
  rw [kz0]
  exact ⟨rfl, Nat.zero_le _⟩
theorem bc_y {P : Nat → Prop} {n : Nat} {v l : Int32} (h : BcR P n v l) (hl : iv 0 19 l) (hn : l.toNatClampNeg < n) (hp : P l.toNatClampNeg) : BcR P n (v + 1) (l + Int32.ofInt 1) := by
  have es := kl_s hl (by decide)
  refine ⟨?_, by omega⟩
  rw [es, cn_y hp, ← nI_add, h.1]
  rfl
theorem bc_x {P : Nat → Prop} {n : Nat} {v l : Int32} (h : BcR P n v l) (hl : iv 0 19 l) (hn : l.toNatClampNeg < n) (hp : ¬ P l.toNatClampNeg) : BcR P n (v + 0) (l + Int32.ofInt 1) := by
  have es := kl_s hl (by decide)
  refine ⟨?_, by omega⟩
  rw [es, cn_n hp, h.1, Int32.add_zero]
theorem bc_e {P : Nat → Prop} {v l x : Int32} (h : BcR P x.toNatClampNeg v l) (hl : iv 0 20 l) (hx : iv 0 20 x) (he : x ≤ l) : v = nI (cnP P x.toNatClampNeg) := by
  have hc := kl_le hl hx he
  have h2 := h.2
  rw [h.1, show l.toNatClampNeg = x.toNatClampNeg from by omega]
theorem cn_20 {P : Nat → Prop} : ∀ n : Nat, cnP P n ≤ n := by
  intro n
  induction n with
  | zero => exact Nat.le_refl _
  | succ n ih =>
    by_cases p : P n
    · rw [cn_y p]
      omega
    · rw [cn_n p]
      omega
theorem bc_iv {P : Nat → Prop} {n : Nat} {v l : Int32} (h : BcR P n v l) (hl : iv 0 20 l) : iv 0 20 v := by
  have q := kl_b hl
  have c := cn_20 (P := P) l.toNatClampNeg
  rw [h.1]
  exact iv_nIv (by omega) (by omega) (by omega)
/-- the i-th branch: so many are left -/
def BaR (P : Nat → Prop) (n : Nat) (i left l : Int32) : Prop := 0 ≤ left.toInt ∧ left.toInt + (cnP P l.toNatClampNeg : Int) = i.toInt ∧ l.toNatClampNeg ≤ n
theorem ba_0 {P : Nat → Prop} {n : Nat} {i : Int32} (hi : iv 0 20 i) : BaR P n i i 0 := by
  unfold BaR
  rw [kz0]
  exact ⟨hi.1, by show i.toInt + ((0 : Nat) : Int) = i.toInt; omega, Nat.zero_le _⟩
theorem ba_y {P : Nat → Prop} {n : Nat} {i left l : Int32} (h : BaR P n i left l) (hi : iv 0 20 i) (hl : iv 0 19 l) (hn : l.toNatClampNeg < n) (hp : P l.toNatClampNeg) (h0 : ¬ left = 0) : BaR P n i (left + Int32.ofInt (-1)) (l + Int32.ofInt 1) := by
  have es := kl_s hl (by decide)
  obtain ⟨a1, a2, a3⟩ := h
  have i2 := hi.2
  have hz : ¬ left.toInt = 0 := fun w => h0 (Int32.toInt_inj.mp (by rw [w]; decide))
  have hv : iv 1 20 left := ⟨by omega, by omega⟩
  have e1 := iv_inc (-1) hv (by decide) (by decide) (by decide) (by decide)
  refine ⟨by omega, ?_, by omega⟩
  rw [es, cn_y hp, e1]
  omega
theorem ba_n {P : Nat → Prop} {n : Nat} {i left l : Int32} (h : BaR P n i left l) (hl : iv 0 19 l) (hn : l.toNatClampNeg < n) (hp : ¬ P l.toNatClampNeg) : BaR P n i left (l + Int32.ofInt 1) := by
  have es := kl_s hl (by decide)
  obtain ⟨a1, a2, a3⟩ := h
  refine ⟨a1, ?_, by omega⟩
  rw [es, cn_n hp]
  exact a2
theorem ba_iv {P : Nat → Prop} {n : Nat} {i left l : Int32} (h : BaR P n i left l) (hi : iv 0 20 i) : iv 0 20 left := by
  obtain ⟨a1, a2, a3⟩ := h
  have i2 := hi.2
  exact ⟨a1, by omega⟩
theorem ba_r {P : Nat → Prop} {n : Nat} {i left l : Int32} (h : BaR P n i left l) (hi : iv 0 20 i) (h0 : left = 0) : cnP P l.toNatClampNeg = i.toNatClampNeg := by
  obtain ⟨a1, a2, a3⟩ := h
  have q := cl_nat hi (by decide)
  rw [h0, show ((0 : Int32)).toInt = 0 from by decide] at a2
  omega
theorem ba_e {P : Nat → Prop} {i left l x : Int32} (h : BaR P x.toNatClampNeg i left l) (hi : iv 0 20 i) (hl : iv 0 20 l) (hx : iv 0 20 x) (he : x ≤ l) (hc : i.toNatClampNeg < cnP P x.toNatClampNeg) : False := by
  have h1 := kl_le hl hx he
  obtain ⟨a1, a2, a3⟩ := h
  have q := cl_nat hi (by decide)
  rw [show l.toNatClampNeg = x.toNatClampNeg from by omega] at a2
  omega
/-- where a probe goes on, as the reference says -/
def GbR (S : Nat → Nat → Prop) (r : Nat) (v : Int32) : Prop := (v = -1 ∧ ∀ k, ¬ S r k) ∨ (iv 0 19 v ∧ S r v.toNatClampNeg)
theorem z_rem {m : Nat} (h0 : 0 < m) (hm : m < 1000) : (0 : Int32) - 0 / nI m * nI m = 0 := by
  have e := pk_rem (a := 0) (d := m) (by omega) h0 (by omega)
  rw [Nat.zero_mod] at e
  exact e
theorem gb_no {F T : Nat → Nat} {n g r : Nat} {ch : Nat → Nat → Nat} {v : Int32} (hv : v = nI (cnP (bpT F T n g r) n)) (hn : n ≤ 20) (h0 : v = 0) : GbR (stT F T n g ch) r (-1) := by
  have c := cn_20 (P := bpT F T n g r) n
  rw [hv] at h0
  have h := congrArg Int32.toInt h0
  rw [nI_toInt (by omega), show ((0 : Int32)).toInt = 0 from by decide] at h
  exact Or.inl ⟨rfl, fun k => st_no (by omega)⟩
theorem gb_ch {kd sa tu p g : Int32} {m : Nat} {i : Int32} (hm : 0 < m) (hm2 : m < 1000) (h : (kd = 0 ∧ i = 0) ∨ (kd = 1 ∧ i = ((7 * p) + (13 * g)) + sa) ∨ (kd = 3 ∧ i = (13 * g) + sa) ∨ (kd = 2 ∧ i = tu)) : i - i / nI m * nI m = chI kd sa tu p g (nI m) := by
  rcases h with ⟨h1, h2⟩ | ⟨h1, h2⟩ | ⟨h1, h2⟩ | ⟨h1, h2⟩
  · subst h1 h2
    rw [z_rem hm hm2]
    unfold chI
    rw [if_neg (by decide), if_neg (by decide), if_neg (by decide)]
  · subst h1 h2
    unfold chI
    rw [if_pos rfl]
  · subst h1 h2
    unfold chI
    rw [if_neg (by decide), if_neg (by decide), if_pos rfl]
  · subst h1 h2
    unfold chI
    rw [if_neg (by decide), if_pos rfl]
/-! the reference's way -/
def WwR (S : Nat → Nat → Prop) (T : Nat → Nat) (gl m : Nat) (w r : Int32) : Prop := r.toNatClampNeg < m ∧ ∃ f : Nat, 12 ≤ f + r.toNatClampNeg ∧ ∀ l, l < 32 → (wayP S T gl 12 0 l ↔ (bt w l ∨ wayP S T gl f r.toNatClampNeg l))
theorem ww_0 {S : Nat → Nat → Prop} {T : Nat → Nat} {gl m : Nat} (hm : 0 < m) : WwR S T gl m 0 0 := by
  unfold WwR
  rw [kz0]
  exact ⟨hm, 12, Nat.le_refl _, fun _ _ => ⟨Or.inr, fun w => w.resolve_left bt_zz⟩⟩
theorem ww_s {fr to : Nat → Int32} {n gl m : Nat} {ch : Nat → Nat → Nat} {w r v gg : Int32} (h : WwR (stT (nF fr) (nF to) n gl ch) (nF to) gl m w r) (hr : iv 0 11 r) (hgg : iv 0 11 gg) (hgl : gl = gg.toNatClampNeg) (hg : ¬ r = gg) (hw : WfC (nF fr) (nF to) n m) (go : GbR (stT (nF fr) (nF to) n gl ch) r.toNatClampNeg v) (hv : ¬ v = -1) : WwR (stT (nF fr) (nF to) n gl ch) (nF to) gl m (w ||| (1 <<< ((v : Int32) &&& 31))) (to v.toNatClampNeg) ∧ r.toInt < (to v.toNatClampNeg).toInt := by
  obtain ⟨hm, f, hf, hl⟩ := h
  have q := cl_nat hr (by decide)
  have r2 := hr.2
  rcases go with ⟨g1, _⟩ | ⟨hv1, hk⟩
  · exact absurd g1 hv
  · have hgn : ¬ r.toNatClampNeg = gl := fun w => hg (kl_eq hr hgg (w.trans hgl))
    obtain ⟨w1, w2⟩ := hw _ hk.1
    have e1 : nF fr v.toNatClampNeg = r.toNatClampNeg := hk.2.1.1
    have hgt : r.toNatClampNeg < nF to v.toNatClampNeg := by omega
    obtain ⟨f', rfl⟩ : ∃ f', f = f' + 1 := ⟨f - 1, by omega⟩
    refine ⟨⟨w2, f', ?_, fun l hl2 => ?_⟩, ?_⟩
    · show 12 ≤ f' + nF to v.toNatClampNeg
      omega
    · rw [hl l hl2, bt_or, bt_1' hv1 (by decide), way_s hgn hk (fun a b ha hb => st_fun ha hb)]
      show _ ↔ ((bt w l ∨ l = v.toNatClampNeg) ∨ wayP _ _ _ f' (nF to v.toNatClampNeg) l)
      constructor
      · rintro (h | h | h)
        · exact Or.inl (Or.inl h)
        · exact Or.inl (Or.inr h)
        · exact Or.inr h
      · rintro ((h | h) | h)
        · exact Or.inl h
        · exact Or.inr (Or.inl h)
        · exact Or.inr (Or.inr h)
    · have hz : (nF to v.toNatClampNeg : Int) ≤ (to v.toNatClampNeg).toInt ∨ nF to v.toNatClampNeg = 0 := by
        show ((to v.toNatClampNeg).toInt.toNat : Int) ≤ (to v.toNatClampNeg).toInt ∨ (to v.toNatClampNeg).toInt.toNat = 0
        omega
      omega
theorem ww_g {S : Nat → Nat → Prop} {T : Nat → Nat} {gl m : Nat} {w r gg : Int32} (h : WwR S T gl m w r) (hgl : gl = gg.toNatClampNeg) (hg : r = gg) : ∀ l, l < 32 → (bt w l ↔ wayP S T gl 12 0 l) := by
  obtain ⟨_, f, _, hl⟩ := h
  intro l hl2
  rw [hl l hl2, hg, ← hgl]
  exact ⟨Or.inl, fun w => w.resolve_right way_g⟩
theorem ww_l {S : Nat → Nat → Prop} {T : Nat → Nat} {gl m : Nat} {w r v : Int32} (h : WwR S T gl m w r) (go : GbR S r.toNatClampNeg v) (hv : v = -1) : ∀ l, l < 32 → (bt w l ↔ wayP S T gl 12 0 l) := by
  obtain ⟨_, f, _, hl⟩ := h
  intro l hl2
  rcases go with ⟨_, g⟩ | ⟨g, _⟩
  · rw [hl l hl2]
    exact ⟨Or.inl, fun w => w.resolve_right (way_n g)⟩
  · rw [hv] at g
    exact absurd g.1 (by decide)
/-! the reference's cover: at the head either no port was tried, or some link is left -/
theorem cw_r {W : Nat → Prop} {O : Nat → Nat → Prop} {w v p : Int32} (h : CvR W O w p.toNatClampNeg) (hp : iv 0 31 p) (hw : ¬ w = 0) (hv : ∀ l, l < 32 → (bt v l ↔ O p.toNatClampNeg l)) (h0 : w &&& (v ^^^ (-1)) = 0) (hW : ∀ l, W l → l < 32) : CovT W O (p + 1) := by
  have h1 := cv_s h hw hv
  rw [h0] at h1
  have q := kl_b hp
  have e : p + 1 = nI (p.toNatClampNeg + 1) := by
    rw [← nI_add, ← iv_nk hp (by decide)]
    rfl
  exact Or.inl ⟨p.toNatClampNeg + 1, by omega, e, cv_z h1 hW, h1.2⟩
theorem cw_s {W : Nat → Prop} {O : Nat → Nat → Prop} {w v p : Int32} (h : CvR W O w p.toNatClampNeg) (hp : iv 0 31 p) (hw : ¬ w = 0) (hv : ∀ l, l < 32 → (bt v l ↔ O p.toNatClampNeg l)) : CvR W O (w &&& (v ^^^ (-1))) (p + Int32.ofInt 1).toNatClampNeg := by
  rw [kl_s hp (by decide)]
  exact cv_s h hw hv
theorem cw_0 {W : Nat → Prop} {O : Nat → Nat → Prop} {w p : Int32} (h : CvR W O w p.toNatClampNeg) (hp : p = 0 ∨ ¬ w = 0) (hw : w = 0) (hW : ∀ l, W l → l < 32) : CovT W O 0 := by
  have e := hp.resolve_right (fun n => n hw)
  subst e
  subst hw
  rw [kz0] at h
  exact Or.inl ⟨0, by omega, rfl, cv_z h hW, fun q hq => absurd hq (Nat.not_lt_zero q)⟩
/-! what both know of the net that was told -/
def WfN (x kd fr to gl : Nat → Int32) : Prop := WfC (nF fr) (nF to) (x 1).toNatClampNeg (x 0).toNatClampNeg ∧ Lk4 (nF fr) (x 1).toNatClampNeg ∧ (∀ g, g < (x 2).toNatClampNeg → nF gl g < (x 0).toNatClampNeg) ∧ ∀ r, r < (x 0).toNatClampNeg → iv 0 3 (kd r)
def TabC (x fr to gl rc bs br : Nat → Int32) : Prop := RcC (nF fr) (nF to) (x 1).toNatClampNeg (x 0).toNatClampNeg rc ∧ BrA (nF fr) (nF to) (nF gl) (x 1).toNatClampNeg (x 0).toNatClampNeg bs br (x 2).toNatClampNeg
def TabR (t fr to rc : Nat → Int32) : Prop := RrC (nF fr) (nF to) (t 1).toNatClampNeg (t 0).toNatClampNeg rc
theorem cnt_cn {f : Nat → Int32} {r m : Nat} (h : ∀ i, i < m → 0 ≤ (f i).toInt) : cnP (fun l => nF f l = r) m ≤ cntT f (nI r) m := by
  induction m with
  | zero => exact Nat.le_refl _
  | succ m ih =>
    have ih := ih (fun i hi => h i (by omega))
    show _ ≤ cntT f (nI r) m + (if f m = nI r then 1 else 0)
    by_cases p : nF f m = r
    · have q := iv_nk (a := 0) (b := 2147483647) (x := f m) ⟨h m (by omega), (iv_t _).2⟩ (by decide)
      have e : f m = nI r := q.trans (congrArg nI p)
      rw [cn_y (P := fun l => nF f l = r) p, if_pos e]
      omega
    · rw [cn_n (P := fun l => nF f l = r) p]
      omega
theorem wf_told {R : NtT} {x kd sa fr to gl : Nat → Int32} (hw : WfT R) (e : x 0 = R 0 0 ∧ x 1 = R 0 1 ∧ x 2 = R 0 2) (hf : ∀ i : Nat, i < 20 → fr i = R 5 i ∧ to i = R 6 i) (hk : ∀ i : Nat, i < 12 → kd i = R 1 i ∧ sa i = R 2 i) (hg : ∀ i : Nat, i < 3 → gl i = R 7 i) : WfN x kd fr to gl := by
  obtain ⟨⟨b0, b1, b2⟩, wk, wl, wc, wg⟩ := hw
  obtain ⟨e0, e1, e2⟩ := e
  have q0 := cl_nat b0 (by decide)
  have q1 := cl_nat b1 (by decide)
  have q2 := cl_nat b2 (by decide)
  have c0 := b0.2
  have c1 := b1.2
  have c2 := b2.2
  unfold WfN
  rw [e0, e1, e2]
  refine ⟨fun i hi => ?_, fun r => ?_, fun g hg' => ?_, fun r hr => ?_⟩
  · obtain ⟨f1, f2⟩ := hf i (by omega)
    obtain ⟨a1, a2, a3⟩ := wl i (by omega)
    have n1 : nF fr i = (R 5 i).toNatClampNeg := congrArg Int32.toNatClampNeg f1
    have n2 : nF to i = (R 6 i).toNatClampNeg := congrArg Int32.toNatClampNeg f2
    have m1 := cl_nat (a := 0) (b := 2147483647) (x := R 5 i) ⟨a1, (iv_t _).2⟩ (by decide)
    have m2 := cl_nat (a := 0) (b := 2147483647) (x := R 6 i) ⟨by omega, (iv_t _).2⟩ (by decide)
    rw [n1, n2]
    exact ⟨by omega, by omega⟩
  · have h1 := cnt_cn (f := fr) (r := r) (m := (R 0 1).toNatClampNeg) (fun i hi => by rw [(hf i (by omega)).1]; exact (wl i (by omega)).1)
    have h2 := wc (nI r)
    rw [← cnt_cg (f := fr) (g := R 5) (a := nI r) (R 0 1).toNatClampNeg (fun i hi => (hf i (by omega)).1)] at h2
    omega
  · obtain ⟨a1, a2⟩ := wg g (by omega)
    have n1 : nF gl g = (R 7 g).toNatClampNeg := congrArg Int32.toNatClampNeg (hg g (by omega))
    have m1 := cl_nat (a := 0) (b := 2147483647) (x := R 7 g) ⟨a1, (iv_t _).2⟩ (by decide)
    rw [n1]
    omega
  · rw [(hk r (by omega)).1]
    exact wk r (by omega)
def ToldC19 (R : StT × NtT) (x kd sa fr to gl rc bs br x' kd' sa' fr' to' gl' rc' bs' br' : Nat → Int32) : Prop := (codT R.1 = 0 → (okT R.1 ∧ (x' 0 = R.2 0 0 ∧ x' 1 = R.2 0 1 ∧ x' 2 = R.2 0 2) ∧ (∀ i : Nat, i < 20 → fr' i = R.2 5 i ∧ to' i = R.2 6 i) ∧ (∀ i : Nat, i < 12 → kd' i = R.2 1 i ∧ sa' i = R.2 2 i) ∧ ∀ i : Nat, i < 3 → gl' i = R.2 7 i) ∧ TabC x' fr' to' gl' rc' bs' br') ∧ (¬ codT R.1 = 0 → x' = x ∧ kd' = kd ∧ sa' = sa ∧ fr' = fr ∧ to' = to ∧ gl' = gl ∧ rc' = rc ∧ bs' = bs ∧ br' = br)
def Low19 (t kd sa fr to gl t' kd' sa' fr' to' gl' : Nat → Int32) : Prop := (t' 0 = t 0 ∧ t' 1 = t 1 ∧ t' 2 = t 2) ∧ (∀ i : Nat, i < 20 → fr' i = fr i ∧ to' i = to i) ∧ (∀ i : Nat, i < 12 → kd' i = kd i ∧ sa' i = sa i) ∧ ∀ i : Nat, i < 3 → gl' i = gl i
def ToldR19 (R : StT × NtT) (t kd sa fr to gl rc t' kd' sa' fr' to' gl' rc' : Nat → Int32) : Prop := (codT R.1 = 0 → ((t' 0 = R.2 0 0 ∧ t' 1 = R.2 0 1 ∧ t' 2 = R.2 0 2) ∧ (∀ i : Nat, i < 20 → fr' i = R.2 5 i ∧ to' i = R.2 6 i) ∧ (∀ i : Nat, i < 12 → kd' i = R.2 1 i ∧ sa' i = R.2 2 i) ∧ ∀ i : Nat, i < 3 → gl' i = R.2 7 i) ∧ TabR t' fr' to' rc') ∧ (¬ codT R.1 = 0 → Low19 t kd sa fr to gl t' kd' sa' fr' to' gl' ∧ rc' = rc)
def Same19 (x kd sa fr to gl t kq sq fq tq gq : Nat → Int32) : Prop := (x 0 = t 0 ∧ x 1 = t 1 ∧ x 2 = t 2) ∧ (∀ i : Nat, i < (x 1).toNatClampNeg → fr i = fq i ∧ to i = tq i) ∧ (∀ i : Nat, i < (x 0).toNatClampNeg → kd i = kq i ∧ sa i = sq i) ∧ (∀ i : Nat, i < (x 2).toNatClampNeg → gl i = gq i) ∧ WfN x kd fr to gl
theorem same19 {f q d kd0 sa0 pa0 mn0 fr0 to0 gl0 kd1 sa1 pa1 mu1 la1 fr1 to1 gl1 x kd sa fr to gl rc bs br x' kd' sa' fr' to' gl' rc' bs' br' t kq sq fq tq gq rq t' kq' sq' fq' tq' gq' rq' : Nat → Int32} {p : Int32} (h : q = mskT f) (hs : Same19 x kd sa fr to gl t kq sq fq tq gq) (h0 : iv 0 12 (x 0)) (h1 : iv 0 20 (x 1)) (h2 : iv 0 3 (x 2)) (hc : ToldC19 (runN (mskT f) p 700 (Sum.inr (tokT (mskT f) p 0)) (NC (fun _ => 0) (upd (upd (upd (upd d 0 0) 1 0) 2 0) 3 5) kd0 sa0 pa0 mn0 fr0 to0 gl0)) x kd sa fr to gl rc bs br x' kd' sa' fr' to' gl' rc' bs' br') (hr : ToldR19 (runN q p 700 (Sum.inr (tokT q p 0)) (NRz kd1 sa1 pa1 mu1 la1 fr1 to1 gl1)) t kq sq fq tq gq rq t' kq' sq' fq' tq' gq' rq') : Same19 x' kd' sa' fr' to' gl' t' kq' sq' fq' tq' gq' := by
  have e := congrArg codT (net_sim (p := p) (d := d) (kd := kd0) (sa := sa0) (pa := pa0) (mn := mn0) (fr := fr0) (to := to0) (gl := gl0) (kd' := kd1) (sa' := sa1) (pa' := pa1) (mu := mu1) (la := la1) (fr' := fr1) (to' := to1) (gl' := gl1) h)
  by_cases q0 : codT (runN (mskT f) p 700 (Sum.inr (tokT (mskT f) p 0)) (NC (fun _ => 0) (upd (upd (upd (upd d 0 0) 1 0) 2 0) 3 5) kd0 sa0 pa0 mn0 fr0 to0 gl0)).1 = 0
  · obtain ⟨⟨ho, ce, cf, ck, cg⟩, _⟩ := hc.1 q0
    obtain ⟨⟨re, rf, rk, rg⟩, _⟩ := hr.1 (e.symm.trans q0)
    have hw := run_wf 700 _ _ (wf_0 (d := d) (kd := kd0) (sa := sa0) (pa := pa0) (mn := mn0) (fr := fr0) (to := to0) (gl := gl0)) ho
    obtain ⟨⟨s0, s1, s2, _⟩, ⟨b0, b1, b2⟩, sk, sl, sg⟩ := run_sim2 (kd' := kd1) (sa' := sa1) (pa' := pa1) (mu := mu1) (la := la1) (fr' := fr1) (to' := to1) (gl' := gl1) h q0 ho
    have hn := wf_told hw ce cf ck cg
    obtain ⟨c0, c1, c2⟩ := ce
    obtain ⟨r0, r1, r2⟩ := re
    have n0 := cl_nat b0 (by decide)
    have n1 := cl_nat b1 (by decide)
    have n2 := cl_nat b2 (by decide)
    have m0 := b0.2
    have m1 := b1.2
    have m2 := b2.2
    refine ⟨⟨c0.trans (s0.trans r0.symm), c1.trans (s1.trans r1.symm), c2.trans (s2.trans r2.symm)⟩, fun i hi => ?_, fun i hi => ?_, fun i hi => ?_, hn⟩
    · rw [c1] at hi
      obtain ⟨a1, a2⟩ := cf i (by omega)
      obtain ⟨d1, d2⟩ := rf i (by omega)
      obtain ⟨u1, u2⟩ := sl i (by omega)
      exact ⟨a1.trans (u1.trans d1.symm), a2.trans (u2.trans d2.symm)⟩
    · rw [c0] at hi
      obtain ⟨a1, a2⟩ := ck i (by omega)
      obtain ⟨d1, d2⟩ := rk i (by omega)
      obtain ⟨u1, u2, _⟩ := sk i (by omega)
      exact ⟨a1.trans (u1.trans d1.symm), a2.trans (u2.trans d2.symm)⟩
    · rw [c2] at hi
      exact (cg i (by omega)).trans ((sg i (by omega)).trans (rg i (by omega)).symm)
  · obtain ⟨c0, c1, c2, c3, c4, c5, _⟩ := hc.2 q0
    obtain ⟨⟨⟨r0, r1, r2⟩, rf, rk, rg⟩, _⟩ := hr.2 (fun w => q0 (e.trans w))
    subst c0 c1 c2 c3 c4 c5
    obtain ⟨⟨s0, s1, s2⟩, sf, sk, sg, hn⟩ := hs
    have n0 := kl_b h0
    have n1 := kl_b h1
    have n2 := kl_b h2
    refine ⟨⟨s0.trans r0.symm, s1.trans r1.symm, s2.trans r2.symm⟩, fun i hi => ?_, fun i hi => ?_, fun i hi => ?_, hn⟩
    · obtain ⟨d1, d2⟩ := rf i (by omega)
      obtain ⟨u1, u2⟩ := sf i hi
      exact ⟨u1.trans d1.symm, u2.trans d2.symm⟩
    · obtain ⟨d1, d2⟩ := rk i (by omega)
      obtain ⟨u1, u2⟩ := sk i hi
      exact ⟨u1.trans d1.symm, u2.trans d2.symm⟩
    · exact (sg i hi).trans (rg i (by omega)).symm
theorem tab_c {R : StT × NtT} {x kd sa fr to gl rc bs br x' kd' sa' fr' to' gl' rc' bs' br' : Nat → Int32} (hc : ToldC19 R x kd sa fr to gl rc bs br x' kd' sa' fr' to' gl' rc' bs' br') (ht : TabC x fr to gl rc bs br) : TabC x' fr' to' gl' rc' bs' br' := by
  by_cases q0 : codT R.1 = 0
  · exact (hc.1 q0).2
  · obtain ⟨c0, c1, c2, c3, c4, c5, c6, c7, c8⟩ := hc.2 q0
    subst c0 c1 c2 c3 c4 c5 c6 c7 c8
    exact ht
theorem tab_r {R : StT × NtT} {t kd sa fr to gl rc t' kd' sa' fr' to' gl' rc' : Nat → Int32} (hr : ToldR19 R t kd sa fr to gl rc t' kd' sa' fr' to' gl' rc') (h1 : iv 0 20 (t 1)) (ht : TabR t fr to rc) : TabR t' fr' to' rc' := by
  by_cases q0 : codT R.1 = 0
  · exact (hr.1 q0).2
  · obtain ⟨⟨⟨r0, r1, r2⟩, rf, _⟩, rr⟩ := hr.2 q0
    subst rr
    unfold TabR at ht ⊢
    rw [r0, r1]
    have n1 := kl_b h1
    intro a ha b hb
    rw [ht a ha b hb]
    have hc : ∀ i, i < (t 1).toNatClampNeg → nF fr i = nF fr' i ∧ nF to i = nF to' i := fun i hi => ⟨congrArg Int32.toNatClampNeg (rf i (by omega)).1.symm, congrArg Int32.toNatClampNeg (rf i (by omega)).2.symm⟩
    exact ⟨rch_c hc, rch_c (fun i hi => ⟨(hc i hi).1.symm, (hc i hi).2.symm⟩)⟩
theorem same_wf {x kd sa fr to gl t kq sq fq tq gq : Nat → Int32} (h : Same19 x kd sa fr to gl t kq sq fq tq gq) : WfN t kq fq tq gq := by
  obtain ⟨⟨e0, e1, e2⟩, hf, hk, hg, w1, w2, w3, w4⟩ := h
  unfold WfN
  rw [← e0, ← e1, ← e2]
  have hc : ∀ i, i < (x 1).toNatClampNeg → nF fr i = nF fq i ∧ nF to i = nF tq i := fun i hi => ⟨congrArg Int32.toNatClampNeg (hf i hi).1, congrArg Int32.toNatClampNeg (hf i hi).2⟩
  refine ⟨fun i hi => ?_, fun r => ?_, fun g hg' => ?_, fun r hr => ?_⟩
  · rw [← (hc i hi).1, ← (hc i hi).2]
    exact w1 i hi
  · rw [cn_c (P := fun l => nF fq l = r) (Q := fun l => nF fr l = r) (fun i hi => by rw [(hc i hi).1])]
    exact w2 r
  · have n1 : nF gl g = nF gq g := congrArg Int32.toNatClampNeg (hg g hg')
    rw [← n1]
    exact w3 g hg'
  · rw [← (hk r hr).1]
    exact w4 r hr
/-! the answer, as one number -/
noncomputable def covV (W : Nat → Prop) (O : Nat → Nat → Prop) : Int32 := Classical.epsilon (CovT W O)
theorem cov_ex (W : Nat → Prop) (O : Nat → Nat → Prop) : ∃ r, CovT W O r := by
  have key : ∀ k : Nat, (∀ q, q < k → ¬ covd W O q) ∨ ∃ m, m < k ∧ covd W O m ∧ ∀ q, q < m → ¬ covd W O q := by
    intro k
    induction k with
    | zero => exact Or.inl (fun q hq => absurd hq (Nat.not_lt_zero q))
    | succ k ih =>
      rcases ih with ih | ⟨m, h1, h2, h3⟩
      · by_cases w : covd W O k
        · exact Or.inr ⟨k, by omega, w, ih⟩
        · refine Or.inl (fun q hq => ?_)
          by_cases e : q = k
          · rw [e]
            exact w
          · exact ih q (by omega)
      · exact Or.inr ⟨m, by omega, h2, h3⟩
  rcases key 33 with h | ⟨m, h1, h2, h3⟩
  · exact ⟨-1, Or.inr ⟨rfl, h 32 (by omega)⟩⟩
  · exact ⟨nI m, Or.inl ⟨m, by omega, rfl, h2, h3⟩⟩
theorem cov_sp (W : Nat → Prop) (O : Nat → Nat → Prop) : CovT W O (covV W O) := Classical.epsilon_spec (cov_ex W O)
theorem cov_v {W : Nat → Prop} {O : Nat → Nat → Prop} {r : Int32} (h : CovT W O r) : r = covV W O := cov_u h (cov_sp W O) (Or.inl (fun _ _ _ => Iff.rfl))
theorem way_cc {S S' : Nat → Nat → Prop} {T T' : Nat → Nat} {g f r l : Nat} (hS : ∀ r k, S r k → S' r k ∧ T k = T' k) (w : wayP S T g f r l) : wayP S' T' g f r l := by
  induction f generalizing r with
  | zero => exact w
  | succ f ih =>
    obtain ⟨hg, k, hk, w⟩ := w
    obtain ⟨hk', e⟩ := hS r k hk
    refine ⟨hg, k, hk', ?_⟩
    rcases w with w | w
    · exact Or.inl w
    · rw [← e]
      exact Or.inr (ih w)
theorem st_cc {F T F' T' : Nat → Nat} {n m g : Nat} {ch ch' : Nat → Nat → Nat} {r k : Nat} (hc : ∀ i, i < n → F i = F' i ∧ T i = T' i) (hw : WfC F T n m) (hch : ∀ r, r < m → ∀ c, ch r c = ch' r c) (h : stT F T n g ch r k) : stT F' T' n g ch' r k ∧ T k = T' k := by
  obtain ⟨hk, hb, he⟩ := h
  have hc' : ∀ i, i < n → F' i = F i ∧ T' i = T i := fun i hi => ⟨(hc i hi).1.symm, (hc i hi).2.symm⟩
  have key : ∀ i, i < n → (bpT F T n g r i ↔ bpT F' T' n g r i) := fun i hi => by
    obtain ⟨e1, e2⟩ := hc i hi
    unfold bpT
    rw [e1, e2]
    exact ⟨fun w => ⟨w.1, rch_c hc w.2⟩, fun w => ⟨w.1, rch_c hc' w.2⟩⟩
  have hr : r < m := by
    have e := hb.1
    obtain ⟨w1, w2⟩ := hw k hk
    omega
  have n1 : cnP (bpT F T n g r) n = cnP (bpT F' T' n g r) n := cn_c key
  have n2 : cnP (bpT F T n g r) k = cnP (bpT F' T' n g r) k := cn_c (fun i hi => key i (by omega))
  refine ⟨⟨hk, (key k hk).mp hb, ?_⟩, (hc k hk).2⟩
  rw [← n1, ← n2, ← hch r hr]
  exact he
theorem wnt_cc {F T F' T' : Nat → Nat} {n g l : Nat} (hc : ∀ i, i < n → F i = F' i ∧ T i = T' i) (h : wnt F T n g l) : wnt F' T' n g l := by
  obtain ⟨h1, h2, h3⟩ := h
  obtain ⟨e1, e2⟩ := hc l h1
  rw [e1] at h2
  rw [e2] at h3
  exact ⟨h1, rch_c hc h2, rch_c hc h3⟩
theorem cov_w {W W' : Nat → Prop} {O O' : Nat → Nat → Prop} {r : Int32} (h : CovT W O r) (hW : ∀ l, W l ↔ W' l) (hO : ∀ p l, O p l ↔ O' p l) : CovT W' O' r := by
  have e1 : W = W' := funext fun l => propext (hW l)
  have e2 : O = O' := funext fun p => funext fun l => propext (hO p l)
  rw [← e1, ← e2]
  exact h
noncomputable def covS (n : Int32) (kd sa fr to gl tu : Nat → Int32) (p : Int32) : Int32 := @covV (wnt (nF fr) (nF to) n.toNatClampNeg (nF gl p.toNatClampNeg)) (fun q l => wayP (stT (nF fr) (nF to) n.toNatClampNeg (nF gl p.toNatClampNeg) (chN kd sa tu (nI q) p)) (nF to) (nF gl p.toNatClampNeg) 12 0 l)
theorem cov_law {x kd sa fr to gl t kq sq fq tq gq tu nw : Nat → Int32} {p : Int32} (h : Same19 x kd sa fr to gl t kq sq fq tq gq) (h0 : iv 0 12 (x 0)) (ht : fI (fun _ => 0) (fun _ => 59) tu) (hn : fI lNow hNow nw) (hp : p.toNatClampNeg < (x 2).toNatClampNeg) : covS (x 1) kd sa fr to gl tu p = covS (t 1) kq sq fq tq gq nw p := by
  obtain ⟨⟨e0, e1, e2⟩, hf, hk, hg, w1, w2, w3, w4⟩ := h
  have n0 := kl_b h0
  have eg : nF gl p.toNatClampNeg = nF gq p.toNatClampNeg := congrArg Int32.toNatClampNeg (hg _ hp)
  have hc : ∀ i, i < (x 1).toNatClampNeg → nF fr i = nF fq i ∧ nF to i = nF tq i := fun i hi => ⟨congrArg Int32.toNatClampNeg (hf i hi).1, congrArg Int32.toNatClampNeg (hf i hi).2⟩
  have hc' : ∀ i, i < (x 1).toNatClampNeg → nF fq i = nF fr i ∧ nF tq i = nF to i := fun i hi => ⟨(hc i hi).1.symm, (hc i hi).2.symm⟩
  have hch : ∀ (q : Int32) (r : Nat), r < (x 0).toNatClampNeg → ∀ c, chN kd sa nw q p r c = chN kq sq nw q p r c := fun q r hr c => by
    obtain ⟨a1, a2⟩ := hk r hr
    unfold chN
    rw [a1, a2]
  have wq : WfC (nF fq) (nF tq) (x 1).toNatClampNeg (x 0).toNatClampNeg := fun i hi => by
    rw [← (hc i hi).1, ← (hc i hi).2]
    exact w1 i hi
  unfold covS
  rw [← e1, ← eg]
  refine cov_turn (kd := kd) (sa := sa) (tu := tu) (tu' := nw) (gi := p) ht (fun k hk => ?_) (fun r hr => ?_) (cov_sp _ _) (cov_w (cov_sp _ _) (fun l => ⟨wnt_cc hc', wnt_cc hc⟩) (fun q l => ⟨way_cc (fun r k hs => ?_), way_cc (fun r k hs => ?_)⟩))
  · have q := hn k
    simp only [lNow, hNow, if_pos hk] at q
    exact q
  · obtain ⟨l, l1, l2, _⟩ := cn_ex (P := bpT (nF fr) (nF to) (x 1).toNatClampNeg (nF gl p.toNatClampNeg) r) (n := (x 1).toNatClampNeg) (k := 0) (by omega)
    have e := l2.1
    obtain ⟨a1, a2⟩ := w1 l l1
    omega
  · exact st_cc hc' wq (fun r hr c => (hch (nI q) r hr c).symm) hs
  · exact st_cc hc w1 (hch (nI q)) hs
/-! the class's loops, at its own numbers -/
theorem rc_b {g r : Int32} (hg : iv 0 2 g) (hr : iv 0 11 r) : 12 * g.toNatClampNeg + r.toNatClampNeg < 36 := by
  have q1 := kl_b hg
  have q2 := kl_b hr
  omega
theorem bf_0 {F T G : Nat → Nat} {n m : Nat} {Rr Bs B : Nat → Int32} (h : RcC F T n m Rr) : BF16 F T G n m Rr Bs B ((0 : Int32)).toNatClampNeg 0 := by
  rw [kz0]
  exact ⟨h, fun g' hg => absurd hg (Nat.not_lt_zero g'), fun r' hr => absurd hr (Nat.not_lt_zero r')⟩
theorem bf_c {F T G : Nat → Nat} {n m g : Nat} {Rr Bs B : Nat → Int32} (h : BF16 F T G n m Rr Bs B g 0) : BF16 F T G n m Rr Bs B g ((0 : Int32)).toNatClampNeg := by
  rw [kz0]
  exact h
theorem bf_6i {F T G : Nat → Nat} {m : Nat} {Rr Bs B : Nat → Int32} {g i x : Int32} (h : BF44 F T G x.toNatClampNeg m Rr Bs B g.toNatClampNeg i.toNatClampNeg) (hg : iv 0 2 g) (hi : iv 0 20 i) (hx : iv 0 20 x) (he : x ≤ i) : BF16 F T G x.toNatClampNeg m Rr Bs B (g + Int32.ofInt 1).toNatClampNeg 0 := by
  rw [kl_s hg (by decide)]
  exact bf_6 h (kl_le hi hx he)
theorem bf_16t {F T G : Nat → Nat} {n : Nat} {Rr Bs B : Nat → Int32} {g r x : Int32} (h : BF16 F T G n x.toNatClampNeg Rr Bs B g.toNatClampNeg r.toNatClampNeg) (hx : iv 0 12 x) (hg : iv 0 2 g) (hr : iv 0 11 r) (hl : r < x) : BF16 F T G n x.toNatClampNeg Rr (upd Bs ((g * 12) + r).toNatClampNeg 0) B g.toNatClampNeg (r + Int32.ofInt 1).toNatClampNeg := by
  have q := rc_b hg hr
  have q2 := kl_b hx
  rw [kl_s hr (by decide)]
  exact bf_16s h (by omega) (kl_lt hr hx hl) (by rw [row_eq hg hr, nI_clamp (by omega)])
theorem bf_44j {F T G : Nat → Nat} {n : Nat} {Rr Bs B : Nat → Int32} {g r x : Int32} (h : BF16 F T G n x.toNatClampNeg Rr Bs B g.toNatClampNeg r.toNatClampNeg) (hr : iv 0 12 r) (hx : iv 0 12 x) (he : x ≤ r) : BF44 F T G n x.toNatClampNeg Rr Bs B g.toNatClampNeg ((0 : Int32)).toNatClampNeg := by
  rw [kz0]
  exact bf_44i h (kl_le hr hx he)
theorem bf_r {x kd fr to gl Rr Bs B : Nat → Int32} {g i : Int32} (h : BF44 (nF fr) (nF to) (nF gl) (x 1).toNatClampNeg (x 0).toNatClampNeg Rr Bs B g.toNatClampNeg i.toNatClampNeg) (hW : WfN x kd fr to gl) (hx1 : iv 0 20 (x 1)) (hi : iv 0 19 i) (hl : i < x 1) (hgl : iv 0 11 (gl g.toNatClampNeg)) : bt (Rr (to i.toNatClampNeg).toNatClampNeg) (gl g.toNatClampNeg).toNatClampNeg ↔ Rch (nF fr) (nF to) (x 1).toNatClampNeg (nF to i.toNatClampNeg) (nF gl g.toNatClampNeg) := by
  have q := kl_b hgl
  exact h.1 _ (hW.1 _ (kl_lt hi hx1 hl)).2 _ (by show (gl g.toNatClampNeg).toNatClampNeg < 12; omega)
theorem bf_b3 {x kd fr to gl Rr Bs B : Nat → Int32} {g i : Int32} (h : BF44 (nF fr) (nF to) (nF gl) (x 1).toNatClampNeg (x 0).toNatClampNeg Rr Bs B g.toNatClampNeg i.toNatClampNeg) (hW : WfN x kd fr to gl) (hx1 : iv 0 20 (x 1)) (hi : iv 0 19 i) (hl : i < x 1) (hg : iv 0 2 g) (hf : iv 0 11 (fr i.toNatClampNeg)) (hgl : iv 0 11 (gl g.toNatClampNeg)) (hb : bt (Rr (to i.toNatClampNeg).toNatClampNeg) (gl g.toNatClampNeg).toNatClampNeg) : iv 0 3 (Bs ((g * 12) + (fr i.toNatClampNeg)).toNatClampNeg) := by
  have hr := (bf_r h hW hx1 hi hl hgl).mp hb
  have hin := kl_lt hi hx1 hl
  have q := rc_b hg hf
  obtain ⟨w1, w2⟩ := hW.1 _ hin
  have h4 := bp_4 hW.2.1 hin (⟨rfl, hr⟩ : bpT (nF fr) (nF to) (x 1).toNatClampNeg (nF gl g.toNatClampNeg) (nF fr i.toNatClampNeg) i.toNatClampNeg)
  obtain ⟨b1, _⟩ := h.2.2.2 (nF fr i.toNatClampNeg) (by omega)
  rw [row_eq hg hf, nI_clamp (by omega)]
  have b1 : Bs (12 * g.toNatClampNeg + (fr i.toNatClampNeg).toNatClampNeg) = _ := b1
  rw [b1]
  exact iv_nIv (by omega) (by omega) (by omega)
theorem bf_44t {x kd fr to gl Rr Bs B Bs' B' : Nat → Int32} {g i : Int32} (h : BF44 (nF fr) (nF to) (nF gl) (x 1).toNatClampNeg (x 0).toNatClampNeg Rr Bs B g.toNatClampNeg i.toNatClampNeg) (hW : WfN x kd fr to gl) (hx0 : iv 0 12 (x 0)) (hx1 : iv 0 20 (x 1)) (hi : iv 0 19 i) (hl : i < x 1) (hg : iv 0 2 g) (hf : iv 0 11 (fr i.toNatClampNeg)) (hgl : iv 0 11 (gl g.toNatClampNeg)) (hb : bt (Rr (to i.toNatClampNeg).toNatClampNeg) (gl g.toNatClampNeg).toNatClampNeg) (e1 : Bs' = upd Bs ((g * 12) + (fr i.toNatClampNeg)).toNatClampNeg ((Bs ((g * 12) + (fr i.toNatClampNeg)).toNatClampNeg) + 1)) (e2 : B' = upd B ((((g * 12) + (fr i.toNatClampNeg)) * 4) + (Bs ((g * 12) + (fr i.toNatClampNeg)).toNatClampNeg)).toNatClampNeg i) : BF44 (nF fr) (nF to) (nF gl) (x 1).toNatClampNeg (x 0).toNatClampNeg Rr Bs' B' g.toNatClampNeg (i + Int32.ofInt 1).toNatClampNeg := by
  have hr := (bf_r h hW hx1 hi hl hgl).mp hb
  have q0 := kl_b hx0
  have q1 := kl_b hg
  rw [kl_s hi (by decide)]
  have e2 : B' = upd B ((((g * 12) + (fr i.toNatClampNeg)) * 4) + (Bs ((g * 12) + (fr i.toNatClampNeg)).toNatClampNeg)).toNatClampNeg (nI i.toNatClampNeg) := e2.trans (congrArg _ (iv_nk hi (by decide)))
  exact bf_44y h hW.2.1 hW.1 (by omega) (kl_lt hi hx1 hl) (by omega) hr (row_eq hg hf) e1 e2
theorem bf_44u {x kd fr to gl Rr Bs B : Nat → Int32} {g i : Int32} (h : BF44 (nF fr) (nF to) (nF gl) (x 1).toNatClampNeg (x 0).toNatClampNeg Rr Bs B g.toNatClampNeg i.toNatClampNeg) (hW : WfN x kd fr to gl) (hx1 : iv 0 20 (x 1)) (hi : iv 0 19 i) (hl : i < x 1) (hgl : iv 0 11 (gl g.toNatClampNeg)) (hb : ¬ bt (Rr (to i.toNatClampNeg).toNatClampNeg) (gl g.toNatClampNeg).toNatClampNeg) : BF44 (nF fr) (nF to) (nF gl) (x 1).toNatClampNeg (x 0).toNatClampNeg Rr Bs B g.toNatClampNeg (i + Int32.ofInt 1).toNatClampNeg := by
  rw [kl_s hi (by decide)]
  exact bf_44n h (kl_lt hi hx1 hl) (fun w => hb ((bf_r h hW hx1 hi hl hgl).mpr w))
theorem bf_tab {x fr to gl Rr Bs B : Nat → Int32} {g : Int32} (h : BF16 (nF fr) (nF to) (nF gl) (x 1).toNatClampNeg (x 0).toNatClampNeg Rr Bs B g.toNatClampNeg 0) (hg : iv 0 3 g) (hx2 : iv 0 3 (x 2)) (he : x 2 ≤ g) : TabC x fr to gl Rr Bs B := by
  have q := kl_le hg hx2 he
  exact ⟨h.1, fun g' hg' => h.2.1 g' (by omega)⟩
theorem ch_k1 {kd sa tu p g n : Int32} (h : kd = 1) : chI kd sa tu p g n = (((7 * p) + (13 * g)) + sa) - (((7 * p) + (13 * g)) + sa) / n * n := if_pos h
theorem ch_k2 {kd sa tu p g n : Int32} (h : kd = 2) : chI kd sa tu p g n = tu - tu / n * n := by
  subst h
  exact ch_2
theorem ch_k3 {kd sa tu p g n : Int32} (h : kd = 3) : chI kd sa tu p g n = ((13 * g) + sa) - ((13 * g) + sa) / n * n := by
  subst h
  unfold chI
  rw [if_neg (by decide), if_neg (by decide), if_pos rfl]
theorem ch_k0 {kd sa tu p g n : Int32} (h1 : ¬ kd = 1) (h2 : ¬ kd = 2) (h3 : ¬ kd = 3) : chI kd sa tu p g n = 0 := by
  unfold chI
  rw [if_neg h1, if_neg h2, if_neg h3]
theorem lo_12 {f : Nat → Int32} {k : Nat} (h : iv 0 11 (f k)) : nF f k < 12 := by
  have q := kl_b h
  show (f k).toNatClampNeg < 12
  omega
theorem lo_y {x kd fr to gl rc bs br : Nat → Int32} {i p : Int32} (hW : WfN x kd fr to gl) (hT : TabC x fr to gl rc bs br) (hx1 : iv 0 20 (x 1)) (hi : iv 0 19 i) (hl : i < x 1) (hf : iv 0 11 (fr i.toNatClampNeg)) (hg : iv 0 11 (gl p.toNatClampNeg)) (b1 : bt (rc ((0 : Int32)).toNatClampNeg) (fr i.toNatClampNeg).toNatClampNeg) (b2 : bt (rc (to i.toNatClampNeg).toNatClampNeg) (gl p.toNatClampNeg).toNatClampNeg) : wnt (nF fr) (nF to) (x 1).toNatClampNeg (nF gl p.toNatClampNeg) i.toNatClampNeg := by
  have hin := kl_lt hi hx1 hl
  obtain ⟨w1, w2⟩ := hW.1 _ hin
  rw [kz0] at b1
  exact ⟨hin, (hT.1 0 (by omega) _ (lo_12 hf)).mp b1, (hT.1 _ w2 _ (lo_12 hg)).mp b2⟩
theorem lo_n1 {x kd fr to gl rc bs br : Nat → Int32} {i : Int32} {g : Nat} (hW : WfN x kd fr to gl) (hT : TabC x fr to gl rc bs br) (hx1 : iv 0 20 (x 1)) (hi : iv 0 19 i) (hl : i < x 1) (hf : iv 0 11 (fr i.toNatClampNeg)) (b1 : ¬ bt (rc ((0 : Int32)).toNatClampNeg) (fr i.toNatClampNeg).toNatClampNeg) : ¬ wnt (nF fr) (nF to) (x 1).toNatClampNeg g i.toNatClampNeg := fun w => by
  obtain ⟨w1, w2⟩ := hW.1 _ (kl_lt hi hx1 hl)
  rw [kz0] at b1
  exact b1 ((hT.1 0 (by omega) _ (lo_12 hf)).mpr w.2.1)
theorem lo_n2 {x kd fr to gl rc bs br : Nat → Int32} {i p : Int32} (hW : WfN x kd fr to gl) (hT : TabC x fr to gl rc bs br) (hx1 : iv 0 20 (x 1)) (hi : iv 0 19 i) (hl : i < x 1) (hg : iv 0 11 (gl p.toNatClampNeg)) (b2 : ¬ bt (rc (to i.toNatClampNeg).toNatClampNeg) (gl p.toNatClampNeg).toNatClampNeg) : ¬ wnt (nF fr) (nF to) (x 1).toNatClampNeg (nF gl p.toNatClampNeg) i.toNatClampNeg := fun w => by
  obtain ⟨w1, w2⟩ := hW.1 _ (kl_lt hi hx1 hl)
  exact b2 ((hT.1 _ w2 _ (lo_12 hg)).mpr w.2.2)
theorem tke_o {F T : Nat → Nat} {n g : Nat} {kd sa tu x : Nat → Int32} {v gi : Int32} (h : TkE (stT F T n g (chN kd sa tu v gi)) T g x) (hv : iv 0 31 v) : ∀ l, l < 32 → (bt (x 6) l ↔ wayP (stT F T n g (chN kd sa tu (nI v.toNatClampNeg) gi)) T g 12 0 l) := by
  rw [← iv_nk hv (by decide)]
  exact h
theorem wko_o {F T : Nat → Nat} {n g : Nat} {kd sa tu : Nat → Int32} {v gi w : Int32} (h : ∀ l, l < 32 → (bt w l ↔ wayP (stT F T n g (chN kd sa tu v gi)) T g 12 0 l)) (hv : iv 0 31 v) : ∀ l, l < 32 → (bt w l ↔ wayP (stT F T n g (chN kd sa tu (nI v.toNatClampNeg) gi)) T g 12 0 l) := by
  rw [← iv_nk hv (by decide)]
  exact h
theorem wn_32 {F T : Nat → Nat} {x : Int32} {g : Nat} (hx : iv 0 20 x) : ∀ l, wnt F T x.toNatClampNeg g l → l < 32 := fun l h => by
  have q := kl_b hx
  have h1 := h.1
  omega
/-! the reference -/
theorem wf_lt {x kd fr to gl : Nat → Int32} (h : WfN x kd fr to gl) : LtC (nF fr) (nF to) (x 1).toNatClampNeg := fun i hi => (h.1 i hi).1
theorem lt_lt {t fr to : Nat → Int32} (h : ∀ j : Nat, (j : Int) < (t 1).toInt → (fr j).toInt < (to j).toInt) (ht : iv 0 20 (t 1)) (hf : ∀ j, iv 0 11 (fr j)) (ho : ∀ j, iv 0 11 (to j)) : LtC (nF fr) (nF to) (t 1).toNatClampNeg := fun i hi => by
  have q := cl_nat ht (by decide)
  have h1 := h i (by omega)
  have q1 := cl_nat (hf i) (by decide)
  have q2 := cl_nat (ho i) (by decide)
  show (fr i).toNatClampNeg < (to i).toNatClampNeg
  omega
theorem lw_n0 {W : Nat → Prop} {b i : Int32} (h : LwR W b i.toNatClampNeg) (hi : iv 0 19 i) (hw : ¬ W i.toNatClampNeg) : LwR W (b ||| 0) (i + Int32.ofInt 1).toNatClampNeg := by
  rw [or_z]
  exact lw_n h hi hw
theorem rl_r {t kd fr to gl rc : Nat → Int32} {i : Int32} (hW : WfN t kd fr to gl) (hT : TabR t fr to rc) (hx1 : iv 0 20 (t 1)) (hi : iv 0 19 i) (hl : i < t 1) : (rc (fr i.toNatClampNeg).toNatClampNeg) &&& 1 = 1 ↔ Rch (nF fr) (nF to) (t 1).toNatClampNeg 0 (nF fr i.toNatClampNeg) := by
  obtain ⟨w1, w2⟩ := hW.1 _ (kl_lt hi hx1 hl)
  rw [bt_and1]
  exact hT (nF fr i.toNatClampNeg) (by omega) 0 (by decide)
theorem gb_m {P : Nat → Prop} {n : Nat} {c : Int32} (hn : n ≤ 20) (hm : c = nI (cnP P n)) (h0 : ¬ c = 0) : 0 < cnP P n ∧ cnP P n < 1000 := by
  have q := cn_20 (P := P) n
  refine ⟨?_, by omega⟩
  rcases Nat.eq_zero_or_pos (cnP P n) with w | w
  · exact absurd (hm.trans (by rw [w]; rfl)) h0
  · exact w
theorem gb_lt {F T : Nat → Nat} {n g r : Nat} {kd sa nw : Nat → Int32} {p gi i c : Int32} (hn : n ≤ 20) (hm : c = nI (cnP (bpT F T n g r) n)) (h0 : ¬ c = 0) (hd : (kd r = 0 ∧ i = 0) ∨ (kd r = 1 ∧ i = ((7 * p) + (13 * gi)) + sa r) ∨ (kd r = 3 ∧ i = (13 * gi) + sa r) ∨ (kd r = 2 ∧ i = nw r)) (hs : iv 0 15 (sa r)) (ht : iv 0 59 (nw r)) (hp : iv 0 31 p) (hg : iv 0 2 gi) : (i - i / c * c).toNatClampNeg < cnP (bpT F T n g r) n := by
  obtain ⟨m1, m2⟩ := gb_m hn hm h0
  rw [hm, gb_ch m1 m2 hd]
  have hv := ch_lt (kd := kd r) m1 m2 hs ht hp hg
  have q := kl_b hv
  omega
theorem gb_y {F T : Nat → Nat} {n g r : Nat} {kd sa nw : Nat → Int32} {p gi i c v : Int32} (hn : n ≤ 20) (hm : c = nI (cnP (bpT F T n g r) n)) (h0 : ¬ c = 0) (hd : (kd r = 0 ∧ i = 0) ∨ (kd r = 1 ∧ i = ((7 * p) + (13 * gi)) + sa r) ∨ (kd r = 3 ∧ i = (13 * gi) + sa r) ∨ (kd r = 2 ∧ i = nw r)) (hb : iv 0 19 v ∧ bpT F T n g r v.toNatClampNeg ∧ v.toNatClampNeg < n ∧ cnP (bpT F T n g r) v.toNatClampNeg = (i - i / c * c).toNatClampNeg) : GbR (stT F T n g (chN kd sa nw p gi)) r v := by
  obtain ⟨m1, m2⟩ := gb_m hn hm h0
  obtain ⟨b1, b2, b3, b4⟩ := hb
  refine Or.inr ⟨b1, b3, b2, b4.trans ?_⟩
  rw [hm, gb_ch m1 m2 hd]
  rfl
theorem kl_20 {x : Int32} (hx : iv 0 20 x) : x.toNatClampNeg ≤ 20 := by
  have q := kl_b hx
  omega
theorem nw_0 {nw : Nat → Int32} {r : Int32} : nw (0 + r).toNatClampNeg = nw r.toNatClampNeg := by rw [Int32.zero_add]
/-! goals: there, too small, too large -/
theorem nn_in {z x : Int32} (h0 : 0 ≤ z) (h : z < x) (hx : iv 0 3 x) : iv 0 2 z := by
  have h0 := Int32.le_iff_toInt_le.mp h0
  have h := Int32.lt_iff_toInt_lt.mp h
  rw [show ((0 : Int32)).toInt = 0 from by decide] at h0
  have h2 := hx.2
  exact ⟨h0, by omega⟩
theorem nn_s1 {b : Int32} (hb : iv 0 3 b) : (b - 1).toInt = b.toInt - 1 := iv_subc (c := 1) hb (by decide) (by decide) (by decide)
theorem sub3_le {p b : Int32} (h : p < b) (hb : iv 0 3 b) : p ≤ b - 1 := by
  have h := Int32.lt_iff_toInt_lt.mp h
  have e := nn_s1 hb
  exact Int32.le_iff_toInt_le.mpr (by omega)
theorem sub3_lt {p b : Int32} (h : b ≤ p) (hb : iv 0 3 b) : b - 1 < p := by
  have h := Int32.le_iff_toInt_le.mp h
  have e := nn_s1 hb
  exact Int32.lt_iff_toInt_lt.mpr (by omega)
theorem sn_lt {x y z : Int32} (h : x = y) (q : z < x) : z < y := h ▸ q
theorem sn_le {x y z : Int32} (h : x = y) (q : x ≤ z) : y ≤ z := h ▸ q
/-! rows of the reference below what is read -/
def Lw12 (f f' : Nat → Int32) : Prop := ∀ i : Nat, i < 12 → f' i = f i
def Lw3 (f f' : Nat → Int32) : Prop := ∀ i : Nat, i < 3 → f' i = f i
theorem lw12_0 {f : Nat → Int32} : Lw12 f f := fun _ _ => rfl
theorem lw3_0 {f : Nat → Int32} : Lw3 f f := fun _ _ => rfl
theorem lw12_t {f g h : Nat → Int32} (a : Lw12 f g) (b : Lw12 g h) : Lw12 f h := fun i hi => (b i hi).trans (a i hi)
theorem lw3_t {f g h : Nat → Int32} (a : Lw3 f g) (b : Lw3 g h) : Lw3 f h := fun i hi => (b i hi).trans (a i hi)
theorem lw12_u {f : Nat → Int32} {c v : Int32} (hc : iv 0 12 c) : Lw12 f (upd f (12 + c).toNatClampNeg v) := fun i hi => by
  have e := sh_x (h := 12) (c := 12) (by decide) (by decide) (iv_w hc (by decide) (by decide) : iv 0 700 c)
  exact upd_ne9 (by omega)
theorem lw3_u {f : Nat → Int32} {c v : Int32} (hc : iv 0 3 c) : Lw3 f (upd f (3 + c).toNatClampNeg v) := fun i hi => by
  have e := sh_x (h := 3) (c := 3) (by decide) (by decide) (iv_w hc (by decide) (by decide) : iv 0 700 c)
  exact upd_ne9 (by omega)
theorem kz_n {P : Prop} {i : Nat} (h : i < ((0 : Int32)).toNatClampNeg) : P := by
  rw [kz0] at h
  exact absurd h (Nat.not_lt_zero i)
theorem kz_c {P : Nat → Prop} : cnP P ((0 : Int32)).toNatClampNeg ≤ 4 := by
  rw [kz0]
  exact Nat.zero_le 4
