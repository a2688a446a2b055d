
/-! a pool of rows: each an object of five cells -/
abbrev RR : Type := (Nat × Nat × Nat × Nat × Nat) × (Nat → Int32) × (Nat → Int64) × (Nat → Int32) × (Nat → Int32) × (Nat → Int32)
def rcs (kI kJ : ClassId) (r : RR) : va_W := [(r.1.1, .inr (0, oX0 r.1.2.1 r.1.2.2.1 r.1.2.2.2.1 r.1.2.2.2.2 r.2.1)), (r.1.2.1, .inl (kJ, 96, .inr (.inl r.2.2.1))), (r.1.2.2.1, .inl (kI, 30, .inl r.2.2.2.1)), (r.1.2.2.2.1, .inl (kI, 12, .inl r.2.2.2.2.1)), (r.1.2.2.2.2, .inl (kI, 12, .inl r.2.2.2.2.2))]
def rfm (kI kJ : ClassId) (rows : List RR) : va_W := rows.flatMap (rcs kI kJ)
def rOK (rows : List RR) : Prop := ∀ r ∈ rows, sI r.2.2.1 ∧ fI (fun _ => 0) (fun _ => 59) r.2.2.2.2.1
def rFam (g : Nat → Option Nat) (rows : List RR) : Prop := ∀ (k q : Nat), g k = some q → ∃ r ∈ rows, r.1.1 = q
theorem va_P_iff {D : va_G} {cl : List vw_C} {ws : va_W} {H : Heap} : va_P D cl ws H ↔ ∀ q ∈ ws, va_at D cl q H := by
  constructor
  · intro h q hq
    obtain ⟨i, hi⟩ := List.getElem?_of_mem hq
    exact h i q hi
  · intro h k q hk
    exact h q (List.mem_of_getElem? hk)
theorem va_D_iff {A : Nat → Prop} {ws : va_W} : va_D A ws ↔ ws.Pairwise (fun p q => p.1 ≠ q.1) ∧ ∀ q ∈ ws, A q.1 := by
  constructor
  · intro h
    refine ⟨List.pairwise_iff_getElem.mpr (fun i j hi hj hij e => ?_), fun q hq => ?_⟩
    · have := h.1 i j _ _ (List.getElem?_eq_getElem hi) (List.getElem?_eq_getElem hj) e
      omega
    · obtain ⟨i, hi⟩ := List.getElem?_of_mem hq
      exact h.2 i q hi
  · intro h
    have hp := List.pairwise_iff_getElem.mp h.1
    refine ⟨fun i j p q hi hj e => ?_, fun k q hk => h.2 q (List.mem_of_getElem? hk)⟩
    obtain ⟨hil, rfl⟩ := List.getElem?_eq_some_iff.mp hi
    obtain ⟨hjl, rfl⟩ := List.getElem?_eq_some_iff.mp hj
    rcases Nat.lt_trichotomy i j with hij | hij | hij
    · exact absurd e (hp i j hil hjl hij)
    · exact hij
    · exact absurd e.symm (hp j i hjl hil hij)
theorem va_P.perm {D : va_G} {cl : List vw_C} {ws ws' : va_W} {H : Heap} (h : va_P D cl ws H) (p : ws.Perm ws') : va_P D cl ws' H := va_P_iff.mpr (fun q hq => va_P_iff.mp h q (p.mem_iff.mpr hq))
theorem va_D.perm {A : Nat → Prop} {ws ws' : va_W} (h : va_D A ws) (p : ws.Perm ws') : va_D A ws' := by
  have h := va_D_iff.mp h
  exact va_D_iff.mpr ⟨(List.Perm.pairwise_iff (R := fun (p q : Nat × va_E) => p.1 ≠ q.1) (fun h e => h e.symm) p).mp h.1, fun q hq => h.2 q (p.mem_iff.mpr hq)⟩
theorem rtake {rows : List RR} {q : Nat} (hk : rOK rows) (h : ∃ r ∈ rows, r.1.1 = q) : ∃ (r : RR) (l : List RR), r.1.1 = q ∧ rows.Perm (r :: l) ∧ (sI r.2.2.1 ∧ fI (fun _ => 0) (fun _ => 59) r.2.2.2.2.1) ∧ rOK l := by
  obtain ⟨r, hr, e⟩ := h
  obtain ⟨l1, l2, e2⟩ := List.append_of_mem hr
  subst e2
  refine ⟨r, l1 ++ l2, e, List.perm_middle, hk r hr, fun x hx => hk x ?_⟩
  rcases List.mem_append.mp hx with h | h
  · exact List.mem_append_left _ h
  · exact List.mem_append_right _ (List.mem_cons_of_mem _ h)
theorem rperm {kI kJ : ClassId} {X : va_W} {rows l : List RR} {r : RR} (h : rows.Perm (r :: l)) : (X ++ rfm kI kJ rows).Perm (X ++ rfm kI kJ (r :: l)) := List.Perm.append_left X (h.flatMap_right _)
theorem rFam_back {g : Nat → Option Nat} {rows l : List RR} {r r' : RR} (hF : rFam g rows) (h : rows.Perm (r :: l)) (e : r'.1.1 = r.1.1) : rFam g (r' :: l) := by
  intro k q hk
  obtain ⟨x, hx, e2⟩ := hF k q hk
  rcases List.mem_cons.mp (h.mem_iff.mp hx) with h1 | h1
  · subst h1; exact ⟨r', List.mem_cons_self, e.trans e2⟩
  · exact ⟨x, List.mem_cons_of_mem _ h1, e2⟩
theorem rOK_cons {r : RR} {l : List RR} (h : sI r.2.2.1 ∧ fI (fun _ => 0) (fun _ => 59) r.2.2.2.2.1) (hl : rOK l) : rOK (r :: l) := by
  intro x hx
  rcases List.mem_cons.mp hx with h1 | h1
  · subst h1; exact h
  · exact hl x h1
theorem rFam_put {g : Nat → Option Nat} {rows : List RR} {r : RR} {k : Nat} (hF : rFam g rows) : rFam (va_up g k (some r.1.1)) (r :: rows) := by
  intro j q hq
  by_cases hj : j = k
  · subst hj
    rw [va_up_self] at hq
    exact ⟨r, List.mem_cons_self, Option.some.inj hq⟩
  · rw [va_up_ne _ _ hj] at hq
    obtain ⟨x, hx, e⟩ := hF j q hq
    exact ⟨x, List.mem_cons_of_mem _ hx, e⟩
theorem sI_0 : sI (fun _ => 0) := fun _ => SB_0
theorem fI_59 : fI (fun _ => 0) (fun _ => 59) (fun _ => 0) := fun _ => (⟨by decide, by decide⟩ : iv 0 59 0)
def xini (k : Nat) : Int32 := if k = 0 then 5 else 0

theorem rfresh {A : Nat → Prop} {kI kJ : ClassId} {X : va_W} {rows : List RR} {q : Nat} {e : va_E} (hD : va_D A ((X ++ rfm kI kJ rows) ++ [(q, e)])) : ∀ x ∈ rows, x.1.1 ≠ q := by
  intro x hx he
  have h := (List.pairwise_append.mp (va_D_iff.mp hD).1).2.2
  have hm : ((x.1.1, .inr (0, oX0 x.1.2.1 x.1.2.2.1 x.1.2.2.2.1 x.1.2.2.2.2 x.2.1)) : Nat × va_E) ∈ rfm kI kJ rows := List.mem_flatMap.mpr ⟨x, hx, by unfold rcs; exact List.mem_cons_self⟩
  exact h _ (List.mem_append_right _ hm) (q, e) (List.mem_singleton.mpr rfl) he
theorem rFam_more {g : Nat → Option Nat} {rows : List RR} {r : RR} (h : rFam g rows) : rFam g (r :: rows) := by
  intro k q hk
  obtain ⟨x, hx, e⟩ := h k q hk
  exact ⟨x, List.mem_cons_of_mem _ hx, e⟩
theorem rput_new {f : Nat → Option Nat} {rows : List RR} {i q : Nat} (hfr : ∀ x ∈ rows, x.1.1 ≠ q) : ∀ k q0 : Nat, va_up f i (some q) k = some q0 → f k = some q0 ∨ ∀ x ∈ rows, x.1.1 ≠ q0 := by
  intro k q0 h
  by_cases hk : k = i
  · subst hk
    rw [va_up_self] at h
    have e := Option.some.inj h
    subst e
    exact Or.inr hfr
  · rw [va_up_ne _ _ hk] at h
    exact Or.inl h

theorem rtake2 {rows : List RR} {q b : Nat} (hk : rOK rows) (h1 : ∃ r ∈ rows, r.1.1 = q) (h2 : ∃ r ∈ rows, r.1.1 = b) (hne : q ≠ b) : ∃ (r r2 : RR) (l : List RR), r.1.1 = q ∧ r2.1.1 = b ∧ rows.Perm (r :: r2 :: l) ∧ (sI r.2.2.1 ∧ fI (fun _ => 0) (fun _ => 59) r.2.2.2.2.1) ∧ (sI r2.2.2.1 ∧ fI (fun _ => 0) (fun _ => 59) r2.2.2.2.2.1) ∧ rOK l := by
  obtain ⟨r, l, e, hp, ho, hl⟩ := rtake hk h1
  obtain ⟨x, hx, ex⟩ := h2
  rcases List.mem_cons.mp (hp.mem_iff.mp hx) with h | h
  · subst h; exact absurd (e.symm.trans ex) hne
  · obtain ⟨r2, l2, e2, hp2, ho2, hl2⟩ := rtake hl ⟨x, h, ex⟩
    exact ⟨r, r2, l2, e, e2, hp.trans (List.Perm.cons r hp2), ho, ho2, hl2⟩
theorem rFam_back2 {g : Nat → Option Nat} {rows l : List RR} {r r2 r' r2' : RR} (hF : rFam g rows) (h : rows.Perm (r :: r2 :: l)) (e : r'.1.1 = r.1.1) (e2 : r2'.1.1 = r2.1.1) : rFam g (r' :: r2' :: l) := by
  intro k q hk
  obtain ⟨x, hx, ex⟩ := hF k q hk
  rcases List.mem_cons.mp (h.mem_iff.mp hx) with h1 | h1
  · subst h1; exact ⟨r', List.mem_cons_self, e.trans ex⟩
  · rcases List.mem_cons.mp h1 with h3 | h3
    · subst h3; exact ⟨r2', List.mem_cons_of_mem _ List.mem_cons_self, e2.trans ex⟩
    · exact ⟨x, List.mem_cons_of_mem _ (List.mem_cons_of_mem _ h3), ex⟩
theorem rmem_of {rows rows' : List RR} {b : Nat} (h : ∃ x ∈ rows, x.1.1 = b) (F : ∀ g2, rFam g2 rows → rFam g2 rows') : ∃ x ∈ rows', x.1.1 = b :=
  F (fun _ => some b) (fun k q hk => by obtain ⟨x, hx, e⟩ := h; exact ⟨x, hx, e.trans (Option.some.inj hk)⟩) 0 b rfl
theorem rne_of {f f' : Nat → Option Nat} {rows : List RR} {q b : Nat} (hb : ∃ x ∈ rows, x.1.1 = b) (hn : ∀ k : Nat, f k ≠ some b) (hq : ∃ k : Nat, f' k = some q) (F : ∀ k q : Nat, f' k = some q → f k = some q ∨ ∀ x ∈ rows, x.1.1 ≠ q) : q ≠ b := by
  intro e
  subst e
  obtain ⟨k, hk⟩ := hq
  rcases F k _ hk with h | h
  · exact hn k h
  · obtain ⟨x, hx, ex⟩ := hb
    exact h x hx ex

def rDJ (f g : Nat → Option Nat) : Prop := ∀ j k q : Nat, f j = some q → g k = some q → False
theorem dj_s {f g : Nat → Option Nat} (h : rDJ f g) : rDJ g f := fun j k q a b => h k j q b a
theorem dj_l {f f' g : Nat → Option Nat} {rows : List RR} (h : rDJ f g) (hg : rFam g rows) (F : ∀ k q : Nat, f' k = some q → f k = some q ∨ ∀ x ∈ rows, x.1.1 ≠ q) : rDJ f' g := by
  intro j k q a b
  rcases F j q a with h1 | h1
  · exact h j k q h1 b
  · obtain ⟨x, hx, e⟩ := hg k q b
    exact h1 x hx e
theorem dj_r {f g g' : Nat → Option Nat} {rows : List RR} (h : rDJ f g) (hf : rFam f rows) (F : ∀ k q : Nat, g' k = some q → g k = some q ∨ ∀ x ∈ rows, x.1.1 ≠ q) : rDJ f g' := dj_s (dj_l (dj_s h) hf F)
theorem dj_nb {f g : Nat → Option Nat} {q : Nat} (hd : rDJ f g) (h : ∃ k : Nat, g k = some q) : ∀ k : Nat, f k ≠ some q := fun k e => h.elim (fun j hj => hd k j q e hj)
theorem cl_le {a b : Int} {v : Int32} (h : iv a b v) (h0 : 0 ≤ b) : v.toNatClampNeg ≤ b.toNat := by
  have h2 := h.2
  have e : v.toNatClampNeg = v.toInt.toNat := rfl
  omega
theorem cl_inc {b : Int} {v : Int32} (h : iv 0 b v) (hb : b < 2147483647) : (v + Int32.ofInt 1).toNatClampNeg = v.toNatClampNeg + 1 := by
  have h1 := h.1
  have h2 := iv_inc 1 h (by decide) (by omega) (by decide) (by decide)
  have e : v.toNatClampNeg = v.toInt.toNat := rfl
  have e2 : (v + Int32.ofInt 1).toNatClampNeg = (v + Int32.ofInt 1).toInt.toNat := rfl
  omega
