/-! what a text tells: tokens, as both readers take them -/
abbrev TkT := Int32 × Int32 × Int32
abbrev ErT := Int32 × Int32
abbrev StT := ErT ⊕ TkT
def RunP (P : Nat → Prop) (n a b : Int) : Prop := a ≤ b ∧ (b ≤ n ∨ b = a) ∧ ∀ i : Nat, a ≤ (i : Int) → (i : Int) < b → P i
def RunT (P : Nat → Prop) (n a b : Int) : Prop := RunP P n a b ∧ (b < n → ¬ P b.toNat)
theorem run_uniq {P : Nat → Prop} {n a b c : Int} (ha : 0 ≤ a) (h : RunT P n a b) (h' : RunT P n a c) : b = c := by
  obtain ⟨⟨h1, h2, h3⟩, h4⟩ := h
  obtain ⟨⟨k1, k2, k3⟩, k4⟩ := h'
  rcases Int.lt_trichotomy b c with q | q | q
  · exact absurd (k3 b.toNat (by omega) (by omega)) (h4 (by omega))
  · exact q
  · exact absurd (h3 c.toNat (by omega) (by omega)) (k4 (by omega))
theorem run_congr {P Q : Nat → Prop} {n a b : Int} (ha : 0 ≤ a) (h : ∀ i : Nat, (i : Int) < n → (P i ↔ Q i)) (hr : RunT P n a b) : RunT Q n a b := by
  obtain ⟨⟨h1, h2, h3⟩, h4⟩ := hr
  refine ⟨⟨h1, h2, fun i hi hj => (h i (by omega)).mp (h3 i hi hj)⟩, fun hb w => h4 hb ((h b.toNat (by omega)).mpr w)⟩
noncomputable def endT (P : Nat → Prop) (n a : Int32) : Int32 := Classical.epsilon (fun b : Int32 => RunT P n.toInt a.toInt b.toInt)
theorem endT_eq {P : Nat → Prop} {n a b : Int32} (ha : 0 ≤ a.toInt) (h : RunT P n.toInt a.toInt b.toInt) : b = endT P n a :=
  Int32.toInt_inj.mp (run_uniq ha h (Classical.epsilon_spec (p := fun b : Int32 => RunT P n.toInt a.toInt b.toInt) ⟨b, h⟩))
theorem endT_congr {P Q : Nat → Prop} {n a : Int32} (ha : 0 ≤ a.toInt) (h : ∀ i : Nat, (i : Int) < n.toInt → (P i ↔ Q i)) : endT P n a = endT Q n a := by
  unfold endT
  congr 1
  funext b
  exact propext ⟨run_congr ha h, run_congr ha (fun i hi => (h i hi).symm)⟩
theorem rp_0 {P : Nat → Prop} {n : Int} {a : Int32} : RunP P n a.toInt a.toInt := ⟨Int.le_refl _, Or.inr rfl, fun i h1 h2 => by omega⟩
theorem rp_s {P : Nat → Prop} {n a b : Int32} (hb : iv 0 700 b) (h : RunP P n.toInt a.toInt b.toInt) (hp : P b.toNatClampNeg) (hl : b < n) : RunP P n.toInt a.toInt (b + 1).toInt := by
  obtain ⟨h1, h2, h3⟩ := h
  have hl := Int32.lt_iff_toInt_lt.mp hl
  rw [iv_addc hb (c := 1) (by decide) (by decide) (by decide)]
  refine ⟨by omega, Or.inl (by omega), fun i hi hj => ?_⟩
  by_cases q : (i : Int) < b.toInt
  · exact h3 i hi q
  · have q2 := cl_nat hb (by decide)
    have : i = b.toNatClampNeg := by omega
    rw [this]
    exact hp
theorem rp_t {P : Nat → Prop} {n a b : Int32} (hb : iv 0 700 b) (h : RunP P n.toInt a.toInt b.toInt) (hs : n ≤ b ∨ ¬ P b.toNatClampNeg) : RunT P n.toInt a.toInt b.toInt := by
  refine ⟨h, fun hl w => ?_⟩
  have q2 := cl_nat hb (by decide)
  have q3 : b.toInt.toNat = b.toNatClampNeg := by omega
  rw [q3] at w
  rcases hs with hs | hs
  · have hs := Int32.le_iff_toInt_le.mp hs
    omega
  · exact hs w
def blT (T : Nat → Int32) (i : Nat) : Prop := T i = 32 ∨ T i = 10
def ltT (T : Nat → Int32) (i : Nat) : Prop := ¬ isLt (T i) = 0
def dgT (T : Nat → Int32) (i : Nat) : Prop := ¬ isDg (T i) = 0
noncomputable def tokB (T : Nat → Int32) (n b : Int32) : TkT :=
  if n ≤ b then (0, b, b) else if ¬ isLt (T b.toNatClampNeg) = 0 then (1, b, endT (ltT T) n b) else if ¬ isDg (T b.toNatClampNeg) = 0 then (2, b, endT (dgT T) n b) else (if T b.toNatClampNeg = 59 then 3 else 4, b, b + 1)
noncomputable def tokT (T : Nat → Int32) (n e : Int32) : TkT := tokB T n (endT (blT T) n e)
noncomputable def nextT (T : Nat → Int32) (n : Int32) : StT → StT
  | .inl q => .inl q
  | .inr k => .inr (tokT T n k.2.2)
def failT (c : Int32) : StT → StT
  | .inl q => .inl q
  | .inr k => .inl (c, k.2.1)
/-! words and numbers -/
def wrdT (T : Nat → Int32) (i : Nat) (k : TkT) : Prop := k.1 = 1 ∧ k.2.2 - k.2.1 = nI (lenL.getD i 0) ∧ ∀ j : Nat, j < lenL.getD i 0 → T (k.2.1.toNatClampNeg + j) = (bytL.getD i []).getD j 0
noncomputable def wB (T : Nat → Int32) (i : Nat) (k : TkT) : Int32 := @ite _ (wrdT T i k) (Classical.propDecidable _) 1 0
theorem wB_t {T : Nat → Int32} {i : Nat} {k : TkT} (h : wrdT T i k) : wB T i k = 1 := if_pos h
theorem wB_f {T : Nat → Int32} {i : Nat} {k : TkT} (h : ¬ wrdT T i k) : wB T i k = 0 := if_neg h
def valT (T : Nat → Int32) (b e : Int32) : Int32 := if e - b = 1 then T b.toNatClampNeg - 48 else if e - b = 2 then (T b.toNatClampNeg - 48) * 10 + (T (b + 1).toNatClampNeg - 48) else 0
def numK (T : Nat → Int32) (lo hi : Int32) (k : TkT) : StT :=
  if ¬ k.1 = 2 then .inl (1, k.2.1) else if 2 < k.2.2 - k.2.1 then .inl (2, k.2.1) else if valT T k.2.1 k.2.2 < lo ∨ hi < valT T k.2.1 k.2.2 then .inl (2, k.2.1) else .inr k
def numT (T : Nat → Int32) (lo hi : Int32) : StT → StT
  | .inl q => .inl q
  | .inr k => numK T lo hi k
def valS (T : Nat → Int32) : StT → Int32
  | .inl _ => 0
  | .inr k => valT T k.2.1 k.2.2
def onT (s : StT) (f : TkT → StT) : StT :=
  match s with
  | .inl q => .inl q
  | .inr k => f k
def rouT (T : Nat → Int32) (c : Int32) (s : StT) : StT := onT (numT T 0 11 s) (fun k => if c ≤ valT T k.2.1 k.2.2 then .inl (3, k.2.1) else .inr k)
noncomputable def kndK (T : Nat → Int32) (k : TkT) : Int32 := if wB T 4 k = 1 then 0 else if wB T 5 k = 1 then 1 else if wB T 6 k = 1 then 2 else if wB T 7 k = 1 then 3 else -1
noncomputable def kndT (T : Nat → Int32) (s : StT) : StT := onT s (fun k => if kndK T k = -1 then .inl (1, k.2.1) else .inr k)
noncomputable def kndS (T : Nat → Int32) : StT → Int32
  | .inl _ => 0
  | .inr k => kndK T k
noncomputable def manK (T : Nat → Int32) (k : TkT) : Int32 := if wB T 8 k = 1 then 1 else if wB T 9 k = 1 then 2 else 0
noncomputable def manT (T : Nat → Int32) (n : Int32) (s : StT) : StT := onT s (fun k => if manK T k = 0 then .inr k else .inr (tokT T n k.2.2))
noncomputable def manS (T : Nat → Int32) : StT → Int32
  | .inl _ => 0
  | .inr k => manK T k
/-! the clauses: what they leave of the state -/
noncomputable def iteT (P : Prop) (a b : StT) : StT := @ite _ P (Classical.propDecidable _) a b
theorem iteT_t {P : Prop} {a b : StT} (h : P) : iteT P a b = a := if_pos h
theorem iteT_f {P : Prop} {a b : StT} (h : ¬ P) : iteT P a b = b := if_neg h
def cntT (f : Nat → Int32) (a : Int32) : Nat → Nat
  | 0 => 0
  | n + 1 => cntT f a n + if f n = a then 1 else 0
def hasT (f g : Nat → Int32) (c a b : Int32) : Prop := ∃ i : Nat, (i : Int) < c.toInt ∧ f i = a ∧ g i = b
def gotT (f : Nat → Int32) (c r : Int32) : Prop := ∃ i : Nat, (i : Int) < c.toInt ∧ f i = r
noncomputable def rtr1 (T : Nat → Int32) (n : Int32) (s : StT) : StT := nextT T n s
noncomputable def rtr2 (T : Nat → Int32) (n : Int32) (s : StT) : StT := nextT T n (kndT T (rtr1 T n s))
noncomputable def rtr3 (T : Nat → Int32) (n : Int32) (s : StT) : StT := nextT T n (numT T 0 15 (rtr2 T n s))
noncomputable def rtr4 (T : Nat → Int32) (n : Int32) (s : StT) : StT := nextT T n (numT T 1 60 (rtr3 T n s))
noncomputable def rtrS (T : Nat → Int32) (n : Int32) (s : StT) (c : Int32) : StT := iteT (c = 12) (failT 2 s) (manT T n (rtr4 T n s))
noncomputable def lnkA (T : Nat → Int32) (n : Int32) (s : StT) : Int32 := valS T (nextT T n s)
noncomputable def lnk1 (T : Nat → Int32) (n : Int32) (s : StT) (c : Int32) : StT := rouT T c (nextT T n s)
noncomputable def lnk2 (T : Nat → Int32) (n : Int32) (s : StT) (c d : Int32) (f : Nat → Int32) : StT := nextT T n (iteT (cntT f (lnkA T n s) d.toNatClampNeg = 4) (failT 2 (lnk1 T n s c)) (lnk1 T n s c))
noncomputable def lnkB (T : Nat → Int32) (n : Int32) (s : StT) (c d : Int32) (f : Nat → Int32) : Int32 := valS T (lnk2 T n s c d f)
noncomputable def lnk3 (T : Nat → Int32) (n : Int32) (s : StT) (c d : Int32) (f : Nat → Int32) : StT := rouT T c (lnk2 T n s c d f)
noncomputable def lnkS (T : Nat → Int32) (n : Int32) (s : StT) (c d : Int32) (f g : Nat → Int32) : StT := iteT (d = 20) (failT 2 s) (nextT T n (iteT (lnkB T n s c d f ≤ lnkA T n s ∨ hasT f g d (lnkA T n s) (lnkB T n s c d f)) (failT 5 (lnk3 T n s c d f)) (lnk3 T n s c d f)))
noncomputable def golS (T : Nat → Int32) (n : Int32) (s : StT) (c d : Int32) (f : Nat → Int32) : StT := iteT (d = 3) (failT 2 s) (nextT T n (iteT (gotT f d (lnkA T n s)) (failT 4 (lnk1 T n s c)) (lnk1 T n s c)))
noncomputable def losS (T : Nat → Int32) (n : Int32) (s : StT) (told : Prop) : StT := iteT told (failT 4 s) (nextT T n (numT T 1 50 (nextT T n s)))
/-! a net as it is read: rows 0 how many and the loss, 1 kind, 2 salt, 3 pace, 4 manner, 5 from, 6 to, 7 goal -/
abbrev NtT := Nat → Nat → Int32
def putT (N : NtT) (r k : Nat) (v : Int32) : NtT := fun r' k' => if r' = r ∧ k' = k then v else N r' k'
noncomputable def rtrN (T : Nat → Int32) (n : Int32) (s : StT) (N : NtT) : NtT :=
  putT (putT (putT (putT (putT N 1 (N 0 0).toNatClampNeg (kndS T (rtr1 T n s))) 2 (N 0 0).toNatClampNeg (valS T (rtr2 T n s))) 3 (N 0 0).toNatClampNeg (valS T (rtr3 T n s))) 4 (N 0 0).toNatClampNeg (manS T (rtr4 T n s))) 0 0 (N 0 0 + 1)
noncomputable def lnkN (T : Nat → Int32) (n : Int32) (s : StT) (N : NtT) : NtT :=
  putT (putT (putT N 5 (N 0 1).toNatClampNeg (lnkA T n s)) 6 (N 0 1).toNatClampNeg (lnkB T n s (N 0 0) (N 0 1) (N 5))) 0 1 (N 0 1 + 1)
noncomputable def golN (T : Nat → Int32) (n : Int32) (s : StT) (N : NtT) : NtT := putT (putT N 7 (N 0 2).toNatClampNeg (lnkA T n s)) 0 2 (N 0 2 + 1)
noncomputable def losN (T : Nat → Int32) (n : Int32) (s : StT) (N : NtT) : NtT := putT (putT N 0 3 (lnkA T n s)) 0 4 1
/-! a clause; a text -/
def sgnT (s : StT) : StT := onT s (fun k => if k.1 = 3 then .inr k else .inl (1, k.2.1))
noncomputable def clsK (T : Nat → Int32) (k : TkT) : Int32 := if wB T 0 k = 1 then 0 else if wB T 1 k = 1 then 1 else if wB T 2 k = 1 then 2 else if wB T 3 k = 1 then 3 else -1
noncomputable def clsM (T : Nat → Int32) (n : Int32) (k : TkT) (N : NtT) : StT :=
  if clsK T k = 0 then rtrS T n (.inr k) (N 0 0) else if clsK T k = 1 then lnkS T n (.inr k) (N 0 0) (N 0 1) (N 5) (N 6) else if clsK T k = 2 then golS T n (.inr k) (N 0 0) (N 0 2) (N 7) else if clsK T k = 3 then losS T n (.inr k) (¬ N 0 4 = 0) else .inl (1, k.2.1)
noncomputable def clsS (T : Nat → Int32) (n : Int32) (k : TkT) (N : NtT) : StT := nextT T n (sgnT (clsM T n k N))
noncomputable def clsN (T : Nat → Int32) (n : Int32) (k : TkT) (N : NtT) : NtT :=
  if clsK T k = 0 then rtrN T n (.inr k) N else if clsK T k = 1 then lnkN T n (.inr k) N else if clsK T k = 2 then golN T n (.inr k) N else losN T n (.inr k) N
noncomputable def runN (T : Nat → Int32) (n : Int32) : Nat → StT → NtT → StT × NtT
  | 0, s, N => (s, N)
  | _ + 1, .inl q, N => (.inl q, N)
  | f + 1, .inr k, N => if k.1 = 0 then (.inr k, N) else runN T n f (clsS T n k N) (clsN T n k N)
/-! states that are no fault -/
def okT (s : StT) : Prop := ∃ k, s = .inr k
theorem ok_r (k : TkT) : okT (.inr k) := ⟨k, rfl⟩
theorem ok_l {q : ErT} (h : okT (.inl q)) : False := by
  obtain ⟨k, hk⟩ := h
  cases hk
theorem ok_on {s : StT} {f : TkT → StT} (h : okT (onT s f)) : okT s := by
  rcases s with q | k
  · exact (ok_l h).elim
  · exact ok_r k
theorem ok_next {T : Nat → Int32} {n : Int32} {s : StT} (h : okT (nextT T n s)) : okT s := by
  rcases s with q | k
  · exact (ok_l h).elim
  · exact ok_r k
theorem ok_num {T : Nat → Int32} {lo hi : Int32} {s : StT} (h : okT (numT T lo hi s)) : okT s := by
  rcases s with q | k
  · exact (ok_l h).elim
  · exact ok_r k
theorem ok_rou {T : Nat → Int32} {c : Int32} {s : StT} (h : okT (rouT T c s)) : okT (numT T 0 11 s) := ok_on h
theorem ok_fail {c : Int32} {s : StT} (h : okT (failT c s)) : False := by
  rcases s with q | k
  · exact ok_l h
  · exact ok_l h
theorem next_l {T : Nat → Int32} {n : Int32} {q : ErT} : nextT T n (.inl q) = .inl q := rfl
/-! the class's Reader: fields 0 place, 1 code, 2 length, 3 token, 4 start, 5 end, 6 lossTold -/
def mskT (B : Nat → Int32) : Nat → Int32 := fun i => B i &&& 255
def DgT (T : Nat → Int32) (k : TkT) : Prop := k.1 = 2 → ∀ i : Nat, k.2.1.toInt ≤ (i : Int) → (i : Int) < k.2.2.toInt → dgT T i
def RdC (T : Nat → Int32) (x : Nat → Int32) : StT → Prop
  | .inl q => x 1 = q.1 ∧ x 0 = q.2 ∧ ¬ q.1 = 0
  | .inr k => x 1 = 0 ∧ x 0 = -1 ∧ x 3 = k.1 ∧ x 4 = k.2.1 ∧ x 5 = k.2.2 ∧ DgT T k
def RC (T : Nat → Int32) (n lt : Int32) (x : Nat → Int32) (s : StT) : Prop := RdC T x s ∧ x 2 = n ∧ x 6 = lt
theorem rdc_r {T x : Nat → Int32} {n lt : Int32} {s : StT} (h : RC T n lt x s) (h0 : x 1 = 0) : s = .inr (x 3, x 4, x 5) ∧ x 0 = -1 ∧ DgT T (x 3, x 4, x 5) := by
  obtain ⟨h, _⟩ := h
  rcases s with q | k
  · obtain ⟨h1, _, h3⟩ := h
    exact absurd (h1.symm.trans h0) h3
  · obtain ⟨_, hp, h3, h4, h5, hd⟩ := h
    rw [h3, h4, h5]
    exact ⟨rfl, hp, hd⟩
theorem rdc_l {T x : Nat → Int32} {n lt : Int32} {s : StT} (h : RC T n lt x s) (h0 : ¬ x 1 = 0) : s = .inl (x 1, x 0) := by
  obtain ⟨h, _⟩ := h
  rcases s with q | k
  · obtain ⟨h1, h2, _⟩ := h
    rw [h1, h2]
  · obtain ⟨h1, _⟩ := h
    exact absurd h1 h0
theorem rdc_ok {T x : Nat → Int32} {n lt : Int32} {s : StT} (h : RC T n lt x s) (h0 : x 1 = 0) : okT s := by
  rw [(rdc_r h h0).1]
  exact ok_r _
theorem rdc_no {T x : Nat → Int32} {n lt : Int32} {s : StT} (h : RC T n lt x s) (h0 : ¬ x 1 = 0) : ¬ okT s := by
  rw [rdc_l h h0]
  exact ok_l
theorem rdc_nf {T x : Nat → Int32} {n lt c : Int32} {s : StT} (h : RC T n lt x (failT c s)) : ¬ x 1 = 0 := fun h0 => ok_fail (rdc_ok h h0)
theorem rdc_fail {T x : Nat → Int32} {n lt : Int32} {s : StT} {c : Int32} (h : RC T n lt x s) (h0 : x 1 = 0) (hc : ¬ c = 0) : RC T n lt (upd (upd x 1 c) 0 (x 4)) (failT c s) := by
  obtain ⟨hs, _⟩ := rdc_r h h0
  subst hs
  exact ⟨⟨rfl, rfl, hc⟩, h.2.1, h.2.2⟩
theorem rdc_failN {T x : Nat → Int32} {n lt : Int32} {s : StT} {c : Int32} (h : RC T n lt x s) (h0 : ¬ x 1 = 0) : RC T n lt x (failT c s) := by
  have hs := rdc_l h h0
  subst hs
  exact h
theorem rdc_stepN {T x : Nat → Int32} {n lt : Int32} {s : StT} (h : RC T n lt x s) (h0 : ¬ x 1 = 0) : RC T n lt x (nextT T n s) := by
  have hs := rdc_l h h0
  subst hs
  exact h
theorem rdc_step {T x y : Nat → Int32} {n lt : Int32} {s : StT} (h : RC T n lt x s) (h0 : x 1 = 0) (hy1 : y 1 = 0) (hy0 : y 0 = x 0) (hy2 : y 2 = x 2) (hy6 : y 6 = x 6) (ht : (y 3, y 4, y 5) = tokT T n (x 5)) (hd : DgT T (y 3, y 4, y 5)) : RC T n lt y (nextT T n s) := by
  obtain ⟨hs, hp, _⟩ := rdc_r h h0
  subst hs
  refine ⟨?_, hy2.trans h.2.1, hy6.trans h.2.2⟩
  show RdC T y (.inr (tokT T n (x 5)))
  rw [← ht]
  exact ⟨hy1, hy0.trans hp, rfl, rfl, rfl, hd⟩
/-! bytes and what they are without a sign -/
theorem ms_all : ∀ j : Nat, j < 256 → (let x : Int32 := nI j - 128; ((x &&& 255 = 32 ↔ x = 32) ∧ (x &&& 255 = 10 ↔ x = 10) ∧ (x &&& 255 = 59 ↔ x = 59) ∧ isLt (x &&& 255) = isLt x ∧ isDg (x &&& 255) = isDg x ∧ (isDg x = 0 ∨ x &&& 255 = x))) := by decide +kernel
theorem ms_let : ∀ c : Nat, c < 128 → ∀ j : Nat, j < 256 → (((nI j - 128 : Int32) &&& 255 = nI c) ↔ (nI j - 128 : Int32) = nI c) := by decide +kernel
theorem iv_128 {x : Int32} (h : iv (-128) 127 x) : ∃ j : Nat, j < 256 ∧ x = nI j - 128 := by
  refine ⟨(x.toInt + 128).toNat, by have := h.1; have := h.2; omega, ?_⟩
  apply Int32.toInt_inj.mp
  have h1 := h.1
  have h2 := h.2
  have hj : iv 0 255 (nI (x.toInt + 128).toNat) := iv_nIv (by omega) (by omega) (by omega)
  rw [iv_subc hj (c := 128) (by decide) (by decide) (by decide), nI_toInt (by omega)]
  omega
theorem ms_p {x : Int32} (h : iv (-128) 127 x) : (x &&& 255 = 32 ↔ x = 32) ∧ (x &&& 255 = 10 ↔ x = 10) ∧ (x &&& 255 = 59 ↔ x = 59) ∧ isLt (x &&& 255) = isLt x ∧ isDg (x &&& 255) = isDg x ∧ (isDg x = 0 ∨ x &&& 255 = x) := by
  obtain ⟨j, hj, rfl⟩ := iv_128 h
  exact ms_all j hj
/-! tokens by what was met -/
theorem tk_end {T : Nat → Int32} {n e b : Int32} (he : 0 ≤ e.toInt) (hr : RunT (blT T) n.toInt e.toInt b.toInt) (h : n ≤ b) : (0, b, b) = tokT T n e := by
  unfold tokT
  rw [← endT_eq he hr]
  exact (if_pos h).symm
theorem tk_lt {T : Nat → Int32} {n e b c : Int32} (he : 0 ≤ e.toInt) (hr : RunT (blT T) n.toInt e.toInt b.toInt) (h : ¬ n ≤ b) (hb : 0 ≤ b.toInt) (hl : ¬ isLt (T b.toNatClampNeg) = 0) (hc : RunT (ltT T) n.toInt b.toInt c.toInt) : (1, b, c) = tokT T n e := by
  unfold tokT
  rw [← endT_eq he hr]
  unfold tokB
  rw [if_neg h, if_pos hl, ← endT_eq hb hc]
theorem tk_dg {T : Nat → Int32} {n e b c : Int32} (he : 0 ≤ e.toInt) (hr : RunT (blT T) n.toInt e.toInt b.toInt) (h : ¬ n ≤ b) (hb : 0 ≤ b.toInt) (hl : isLt (T b.toNatClampNeg) = 0) (hd : ¬ isDg (T b.toNatClampNeg) = 0) (hc : RunT (dgT T) n.toInt b.toInt c.toInt) : (2, b, c) = tokT T n e := by
  unfold tokT
  rw [← endT_eq he hr]
  unfold tokB
  rw [if_neg h, if_neg (not_not_intro hl), if_pos hd, ← endT_eq hb hc]
theorem tk_sg {T : Nat → Int32} {n e b : Int32} {t : Int32} (he : 0 ≤ e.toInt) (hr : RunT (blT T) n.toInt e.toInt b.toInt) (h : ¬ n ≤ b) (hl : isLt (T b.toNatClampNeg) = 0) (hd : isDg (T b.toNatClampNeg) = 0) (ht : t = if T b.toNatClampNeg = 59 then 3 else 4) : (t, b, b + 1) = tokT T n e := by
  unfold tokT
  rw [← endT_eq he hr]
  unfold tokB
  rw [if_neg h, if_neg (not_not_intro hl), if_neg (not_not_intro hd), ht]
