/-! the texts of both readers -/
def lenL : List Nat := [6, 4, 2, 4, 3, 4, 6, 4, 4, 4]
def bytL : List (List Int32) := [[114, 111, 117, 116, 101, 114], [108, 105, 110, 107], [116, 111], [108, 111, 115, 115], [111, 110, 101], [102, 108, 111, 119], [112, 97, 99, 107, 101, 116], [103, 111, 97, 108], [109, 117, 116, 101], [108, 97, 116, 101]]
def kLr (adK : Nat → Nat) (U : State) : Prop :=
  vk_R RX5 64 "router" (adK 0) U ∧ vk_R RX5 73 "link" (adK 1) U ∧ vk_R RX5 78 "to" (adK 2) U ∧ vk_R RX5 83 "loss" (adK 3) U ∧ vk_R RX5 118 "one" (adK 4) U ∧ vk_R RX5 120 "flow" (adK 5) U ∧ vk_R RX5 122 "packet" (adK 6) U ∧ vk_R RX5 124 "goal" (adK 7) U ∧ vk_R RX5 126 "mute" (adK 8) U ∧ vk_R RX5 128 "late" (adK 9) U ∧ vk_R RX11 9 "router" (adK 0) U ∧ vk_R RX11 11 "link" (adK 1) U ∧ vk_R RX11 13 "to" (adK 2) U ∧ vk_R RX11 15 "loss" (adK 3) U ∧ vk_R RX11 23 "one" (adK 4) U ∧ vk_R RX11 25 "flow" (adK 5) U ∧ vk_R RX11 27 "packet" (adK 6) U ∧ vk_R RX11 29 "goal" (adK 7) U ∧ vk_R RX11 219 "mute" (adK 8) U ∧ vk_R RX11 220 "late" (adK 9) U
theorem kLr_call {adK : Nat → Nat} {U : State} {g : JFrame} {mk : MethodId} {a : Array Value} (h : kLr adK U) : kLr adK (U.calling g mk a) := by
  obtain ⟨h0, h1, h2, h3, h4, h5, h6, h7, h8, h9, h10, h11, h12, h13, h14, h15, h16, h17, h18, h19⟩ := h
  exact ⟨vk_R.same (u := U) (U := U.calling g mk a) rfl h0, vk_R.same (u := U) (U := U.calling g mk a) rfl h1, vk_R.same (u := U) (U := U.calling g mk a) rfl h2, vk_R.same (u := U) (U := U.calling g mk a) rfl h3, vk_R.same (u := U) (U := U.calling g mk a) rfl h4, vk_R.same (u := U) (U := U.calling g mk a) rfl h5, vk_R.same (u := U) (U := U.calling g mk a) rfl h6, vk_R.same (u := U) (U := U.calling g mk a) rfl h7, vk_R.same (u := U) (U := U.calling g mk a) rfl h8, vk_R.same (u := U) (U := U.calling g mk a) rfl h9, vk_R.same (u := U) (U := U.calling g mk a) rfl h10, vk_R.same (u := U) (U := U.calling g mk a) rfl h11, vk_R.same (u := U) (U := U.calling g mk a) rfl h12, vk_R.same (u := U) (U := U.calling g mk a) rfl h13, vk_R.same (u := U) (U := U.calling g mk a) rfl h14, vk_R.same (u := U) (U := U.calling g mk a) rfl h15, vk_R.same (u := U) (U := U.calling g mk a) rfl h16, vk_R.same (u := U) (U := U.calling g mk a) rfl h17, vk_R.same (u := U) (U := U.calling g mk a) rfl h18, vk_R.same (u := U) (U := U.calling g mk a) rfl h19⟩
theorem kLr_warm {adK : Nat → Nat} {s U : State} (hW : s.WarmedH U.vm) (h : kLr adK s) : kLr adK U := by
  obtain ⟨h0, h1, h2, h3, h4, h5, h6, h7, h8, h9, h10, h11, h12, h13, h14, h15, h16, h17, h18, h19⟩ := h
  exact ⟨vk_R.warm hW h0, vk_R.warm hW h1, vk_R.warm hW h2, vk_R.warm hW h3, vk_R.warm hW h4, vk_R.warm hW h5, vk_R.warm hW h6, vk_R.warm hW h7, vk_R.warm hW h8, vk_R.warm hW h9, vk_R.warm hW h10, vk_R.warm hW h11, vk_R.warm hW h12, vk_R.warm hW h13, vk_R.warm hW h14, vk_R.warm hW h15, vk_R.warm hW h16, vk_R.warm hW h17, vk_R.warm hW h18, vk_R.warm hW h19⟩
def kS (adK adV : Nat → Nat) (A : Nat → Prop) (U : State) (H : Heap) : Prop := (∀ i : Nat, i < 10 → va_O "java/lang/String" (adK i) A U H ∧ va_OF "java/lang/String" "coder" "B" (.int 0) (adK i) A U H ∧ va_OF "java/lang/String" "value" "[B" (.ref (adV i)) (adK i) A U H ∧ va_T .byte (adV i) (lenL.getD i 0) (fun j => .int ((bytL.getD i []).getD j 0)) A U H) ∧ True
theorem kS_moved {adK adV : Nat → Nat} {A : Nat → Prop} {u U : State} {H : Heap} (hvm : u.vm.Alike U.vm) (h : kS adK adV A u H) : kS adK adV A U H :=
  ⟨fun i hi => ⟨va_O.moved hvm (h.1 i hi).1, va_OF.moved hvm (h.1 i hi).2.1, va_OF.moved hvm (h.1 i hi).2.2.1, va_T.moved hvm (h.1 i hi).2.2.2⟩, trivial⟩
theorem kS_kept {adK adV : Nat → Nat} {A B : Nat → Prop} {U : State} {H H1 : Heap} (h : kS adK adV A U H) (hq : ∀ a : Nat, a < H.size → ¬ A a → H1[a]? = H[a]?) (hAB : ∀ q, B q → A q) : kS adK adV B U H1 :=
  ⟨fun i hi => ⟨((h.1 i hi).1.kept hq).narrow hAB, ((h.1 i hi).2.1.kept hq).narrow hAB, ((h.1 i hi).2.2.1.kept hq).narrow hAB, ((h.1 i hi).2.2.2.kept hq).narrow hAB⟩, trivial⟩
theorem kS_recv {adK adV : Nat → Nat} {A : Nat → Prop} {s : State} {H : Heap} {locs : List Loc} {i : Nat} (hE : kS adK adV A s s.heap) (hi : i < 10) (hS : va_S A s.heap H locs) : ∃ cell : Cell, H[adK i]? = some cell ∧ cell.vm.isStatics = false ∧ s.vm.findClass "java/lang/String" = some cell.cls := by
  obtain ⟨cell, h1, h2, h3, -⟩ := (hE.1 i hi).1.kept hS.2.1
  exact ⟨cell, h1, h2, h3⟩
theorem kS_any {adK adV : Nat → Nat} {A : Nat → Prop} {s : State} {H : Heap} {locs : List Loc} {i : Nat} (hE : kS adK adV A s s.heap) (hi : i < 10) (hS : va_S A s.heap H locs) : va_Any "java/lang/String" s H (adK i) := by
  obtain ⟨cell, h1, h2, h3⟩ := kS_recv hE hi hS
  obtain ⟨kC, hkC, -⟩ := Vm.findClass_spec h3
  exact ⟨cell, h1, h2, ⟨kC, hkC⟩, fun comp hc => by rw [h3] at hc; cases hc; exact va_asg _ _⟩
def kL (adK adV : Nat → Nat) (A : Nat → Prop) (U : State) : Prop := kS adK adV A U U.heap ∧ va_Z "java/lang/String" "COMPACT_STRINGS" "Z" (.int 1) A U U.heap ∧ va_Zq "jdk/internal/util/Preconditions" "SIOOBE_FORMATTER" "Ljava/util/function/BiFunction;" A U U.heap ∧ kLr adK U
theorem kL_call {adK adV : Nat → Nat} {A : Nat → Prop} {U : State} {g : JFrame} {mk : MethodId} {a : Array Value} (h : kL adK adV A U) : kL adK adV A (U.calling g mk a) :=
  ⟨kS_moved (u := U) (U := U.calling g mk a) (Vm.Alike.refl U.vm) h.1, va_Z.moved (u := U) (U := U.calling g mk a) (Vm.Alike.refl U.vm) h.2.1, va_Zq.moved (u := U) (U := U.calling g mk a) (Vm.Alike.refl U.vm) h.2.2.1, kLr_call h.2.2.2⟩
theorem kL_at {adK adV : Nat → Nat} {A B : Nat → Prop} {s U : State} {H : Heap} {locs : List Loc} (h : kL adK adV A s) (hS : va_S A s.heap H locs) (hB : ∀ q, B q → A q) (hW : s.WarmedH U.vm) (hU : U.heap = H) : kL adK adV B U := by
  subst hU
  exact ⟨kS_moved hW.alike (kS_kept h.1 hS.2.1 hB), ((h.2.1.kept hS.2.1).narrow hB).moved hW.alike, ((h.2.2.1.kept hS.2.1).narrow hB).moved hW.alike, kLr_warm hW h.2.2.2⟩
theorem kL_fmt {adK adV : Nat → Nat} {A : Nat → Prop} {s : State} (h : kL adK adV A s) : ∃ v, va_Z "jdk/internal/util/Preconditions" "SIOOBE_FORMATTER" "Ljava/util/function/BiFunction;" v A s s.heap := by
  rcases h.2.2.1 with h | ⟨t, h⟩
  · exact ⟨_, h⟩
  · exact ⟨_, h⟩
theorem lenL_lt (i : Nat) : lenL.getD i 0 < 700 := by
  by_cases h : i < 10
  · have : ∀ i, i < 10 → lenL.getD i 0 < 700 := by decide
    exact this i h
  · rw [List.getD_eq_getElem?_getD, List.getElem?_eq_none (by show 10 ≤ i; omega)]
    decide
theorem lenL_in {i : Nat} {k : Int32} (h0 : iv 0 699 k) (h : k < nI (lenL.getD i 0)) : vp_in k (lenL.getD i 0) := by
  have hl := lenL_lt i
  have h := Int32.lt_iff_toInt_lt.mp h
  rw [nI_toInt (by omega)] at h
  exact vp_in_iff.mpr ⟨h0.1, h⟩
theorem lenL_iv (i : Nat) : iv 0 699 (nI (lenL.getD i 0)) := by
  have hl := lenL_lt i
  exact iv_nIv (by omega) (by omega) (by omega)
theorem shr_len (i : Nat) : nI (lenL.getD i 0) >>> ((0 : Int32) &&& 31) = nI (lenL.getD i 0) := sc_shr0 (by have := lenL_lt i; omega)

/-! signs, the text's places, the rows that are read -/
def isLt (c : Int32) : Int32 := if 97 ≤ c ∧ c ≤ 122 then 1 else 0
def isDg (c : Int32) : Int32 := if 48 ≤ c ∧ c ≤ 57 then 1 else 0
theorem isLt_t {p : Int32} (h1 : 97 ≤ p) (h2 : p ≤ 122) : isLt p = 1 := if_pos ⟨h1, h2⟩
theorem isLt_a {p : Int32} (h : p < 97) : isLt p = 0 := if_neg (fun w => absurd w.1 (Int32.not_le.mpr h))
theorem isLt_b {p : Int32} (h : 122 < p) : isLt p = 0 := if_neg (fun w => absurd w.2 (Int32.not_le.mpr h))
theorem isDg_t {p : Int32} (h1 : 48 ≤ p) (h2 : p ≤ 57) : isDg p = 1 := if_pos ⟨h1, h2⟩
theorem isDg_a {p : Int32} (h : p < 48) : isDg p = 0 := if_neg (fun w => absurd w.1 (Int32.not_le.mpr h))
theorem isDg_b {p : Int32} (h : 57 < p) : isDg p = 0 := if_neg (fun w => absurd w.2 (Int32.not_le.mpr h))
theorem isLt_iv {c : Int32} (h : ¬ isLt c = 0) : iv 97 122 c := by
  by_cases q : 97 ≤ c ∧ c ≤ 122
  · have h1 := Int32.le_iff_toInt_le.mp q.1
    have h2 := Int32.le_iff_toInt_le.mp q.2
    rw [show ((97 : Int32)).toInt = 97 from by decide] at h1
    rw [show ((122 : Int32)).toInt = 122 from by decide] at h2
    exact ⟨h1, h2⟩
  · exact absurd (if_neg q) h
theorem isDg_iv {c : Int32} (h : ¬ isDg c = 0) : iv 48 57 c := by
  by_cases q : 48 ≤ c ∧ c ≤ 57
  · have h1 := Int32.le_iff_toInt_le.mp q.1
    have h2 := Int32.le_iff_toInt_le.mp q.2
    rw [show ((48 : Int32)).toInt = 48 from by decide] at h1
    rw [show ((57 : Int32)).toInt = 57 from by decide] at h2
    exact ⟨h1, h2⟩
  · exact absurd (if_neg q) h
def byA (f : Nat → Int32) (n k : Int32) : Int32 := if k < n then f k.toNatClampNeg else -1
theorem byA_t {f : Nat → Int32} {n k : Int32} (h : k < n) : f k.toNatClampNeg = byA f n k := (if_pos h).symm
theorem byA_f {f : Nat → Int32} {n k : Int32} (h : n ≤ k) : -1 = byA f n k := (if_neg (Int32.not_lt.mpr h)).symm
theorem byA_699 {f : Nat → Int32} {n k : Int32} (hn : iv 0 700 n) (hk : iv 0 700 k) : byA f n k = -1 ∨ iv 0 699 k := by
  by_cases h : k < n
  · exact Or.inr (iv_ltL h hk hn (by decide) (by decide))
  · exact Or.inl (if_neg h)
theorem w_lt {i : Nat} {st en k : Int32} (hs : iv 0 700 st) (he : iv 0 700 en) (hk : iv 0 700 k) (h1 : st.toInt ≤ k.toInt) (h2 : en - st = nI (lenL.getD i 0)) (h3 : k < en) : k - st < nI (lenL.getD i 0) := by
  rw [← h2]
  have h3 := Int32.lt_iff_toInt_lt.mp h3
  refine Int32.lt_iff_toInt_lt.mpr ?_
  rw [iv_sub0 hk hs (by decide) (by decide), iv_sub0 he hs (by decide) (by decide)]
  omega
theorem w_sub {st k : Int32} (hs : iv 0 700 st) (hk : iv 0 699 k) (h1 : st.toInt ≤ k.toInt) : iv 0 699 (k - st) := by
  have e := iv_sub0 hk hs (by decide) (by decide)
  obtain ⟨a1, a2⟩ := hs; obtain ⟨b1, b2⟩ := hk
  exact ⟨by rw [e]; omega, by rw [e]; omega⟩
theorem is_ix {i : Nat} {bg sp k : Int32} (hb : iv 0 700 bg) (hs : iv 0 700 sp) (hk : iv 0 699 k) (hl : nI (lenL.getD i 0) = sp - bg) (h : k < nI (lenL.getD i 0)) : iv 0 699 (bg + k) := by
  rw [hl] at h
  have h := Int32.lt_iff_toInt_lt.mp h
  rw [iv_sub0 hs hb (by decide) (by decide)] at h
  have e := iv_add0 hb hk (by decide) (by decide)
  obtain ⟨a1, a2⟩ := hs; obtain ⟨b1, b2⟩ := hk; obtain ⟨c1, c2⟩ := hb
  exact ⟨by rw [e]; omega, by rw [e]; omega⟩
theorem upd_ne {f : Nat → Int32} {k j : Nat} {v : Int32} (h : j ≠ k) : upd f k v j = f j := by simp [upd, h]
theorem upd_eq {f : Nat → Int32} {k : Nat} {v : Int32} : upd f k v k = v := by simp [upd]
theorem ix20 {t : Int32} (h5 : iv 0 20 t) : ((20 + t).toNatClampNeg : Int) = 20 + t.toInt := by
  have g1 : iv 20 20 (20 : Int32) := ⟨by decide, by decide⟩
  have e := iv_add0 g1 h5 (by decide) (by decide)
  have e1 : iv 20 40 (20 + t) := iv_add g1 h5 (by decide) (by decide) (by decide) (by decide)
  rw [cl_nat e1 (by decide), e, show ((20 : Int32)).toInt = 20 from by decide]
theorem lk_lt {t f o : Nat → Int32} {v a b : Int32} (h : ∀ j : Nat, (j : Int) < (t 1).toInt → (f j).toInt < (o j).toInt) (h1 : iv 0 20 (t 1)) (h5 : iv 0 20 (t 5)) : ∀ j : Nat, (j : Int) < (upd t 5 v 1).toInt → (upd f (20 + t 5).toNatClampNeg a j).toInt < (upd o (20 + t 5).toNatClampNeg b j).toInt := by
  intro j hj
  rw [upd_ne (by decide : (1 : Nat) ≠ 5)] at hj
  have e := ix20 h5
  have q1 := h1.2; have q5 := h5.1
  have hne : j ≠ (20 + t 5).toNatClampNeg := by omega
  rw [upd_ne hne, upd_ne hne]
  exact h j hj
theorem lk_ld {t f o : Nat → Int32} {a b : Int32} (h : ∀ j : Nat, (j : Int) < (t 5).toInt → (f (20 + j)).toInt < (o (20 + j)).toInt) (h5 : iv 0 19 (t 5)) (hab : a < b) : ∀ j : Nat, (j : Int) < (upd t 5 (t 5 + 1) 5).toInt → (upd f (20 + t 5).toNatClampNeg a (20 + j)).toInt < (upd o (20 + t 5).toNatClampNeg b (20 + j)).toInt := by
  intro j hj
  rw [upd_eq, iv_addc h5 (c := 1) (by decide) (by decide) (by decide)] at hj
  have e := ix20 (iv_w h5 (by decide) (by decide))
  have q5 := h5.1
  by_cases hjt : (j : Int) = (t 5).toInt
  · have hi : (20 + t 5).toNatClampNeg = 20 + j := by omega
    rw [hi, upd_eq, upd_eq]
    exact Int32.lt_iff_toInt_lt.mp hab
  · have hne : 20 + j ≠ (20 + t 5).toNatClampNeg := by omega
    rw [upd_ne hne, upd_ne hne]
    exact h j (by omega)
theorem ld_0 {t f o : Nat → Int32} (h : t 5 = 0) : ∀ j : Nat, (j : Int) < (t 5).toInt → (f (20 + j)).toInt < (o (20 + j)).toInt := by
  intro j hj
  rw [h, show ((0 : Int32)).toInt = 0 from by decide] at hj
  omega
theorem half_0 {fr : Nat → Int32} {h : Nat} : (∀ j : Nat, (j : Int) < ((0 : Int32)).toInt → fr j = fr (h + j)) ∧ ∀ j : Nat, ((0 : Int32)).toInt ≤ (j : Int) → fr j = fr j :=
  ⟨fun j hj => by rw [show ((0 : Int32)).toInt = 0 from by decide] at hj; omega, fun _ _ => rfl⟩
theorem half_st {g fr : Nat → Int32} {h : Nat} {c : Int} {k q : Int32} (H : (∀ j : Nat, (j : Int) < k.toInt → g j = fr (h + j)) ∧ ∀ j : Nat, k.toInt ≤ (j : Int) → g j = fr j) (hk : iv 0 c k) (hc : c + 1 = (h : Int) ∧ c ≤ 1000) (hq : q.toInt = (h : Int)) : (∀ j : Nat, (j : Int) < (k + Int32.ofInt 1).toInt → upd g k.toNatClampNeg (g (q + k).toNatClampNeg) j = fr (h + j)) ∧ ∀ j : Nat, (k + Int32.ofInt 1).toInt ≤ (j : Int) → upd g k.toNatClampNeg (g (q + k).toNatClampNeg) j = fr j := by
  obtain ⟨hc1, hc2⟩ := hc
  have e1 := iv_inc 1 hk (by decide) (by omega) (by decide) (by decide)
  have ek := cl_nat hk (by decide)
  have a1 := hk.1; have a2 := hk.2
  have gq : iv (h : Int) (h : Int) q := ⟨by omega, by omega⟩
  have e2 := iv_add0 gq hk (by omega) (by omega)
  have g2 : iv 0 2002 (q + k) := ⟨by rw [e2]; omega, by rw [e2]; omega⟩
  have e3 := cl_nat g2 (by decide)
  have e4 : g (q + k).toNatClampNeg = fr (h + k.toNatClampNeg) := by
    rw [H.2 _ (by omega)]
    congr 1
    omega
  refine ⟨fun j hj => ?_, fun j hj => ?_⟩
  · by_cases hjk : j = k.toNatClampNeg
    · subst hjk; rw [upd_eq, e4]
    · rw [upd_ne hjk]; exact H.1 j (by omega)
  · rw [upd_ne (by omega)]; exact H.2 j (by omega)
theorem told_half {g : Nat → Int32} {k : Int32} (hf : fI lTold hTold g) (hk : iv 0 3 k) : iv (lTold k.toNatClampNeg) (hTold k.toNatClampNeg) (g (4 + k).toNatClampNeg) := by
  obtain ⟨n, rfl, hn, ln⟩ := iv_nI hk (by decide)
  have h2 := hk.2
  have e : (4 + nI n).toNatClampNeg = 4 + n := by
    rw [show (4 : Int32) = nI 4 from rfl, nI_add, nI_clamp (by omega)]
  rw [e, nI_clamp ln]
  have q := hf (4 + n)
  rcases (show n = 0 ∨ n = 1 ∨ n = 2 ∨ n = 3 by omega) with rfl | rfl | rfl | rfl <;> exact q
theorem told_p0 (k : Nat) : iv (lTold k) (hTold k) 0 := by
  have e : ((0 : Int32)).toInt = 0 := by decide
  unfold iv
  rw [e]
  by_cases h : k < 8
  · rcases (show k = 0 ∨ k = 1 ∨ k = 2 ∨ k = 3 ∨ k = 4 ∨ k = 5 ∨ k = 6 ∨ k = 7 by omega) with rfl | rfl | rfl | rfl | rfl | rfl | rfl | rfl <;> decide
  · have e1 : lTold k = 0 := by
      unfold lTold
      rw [List.getD_eq_getElem?_getD, List.getElem?_eq_none (by show 8 ≤ k; omega)]; rfl
    have e2 : hTold k = 0 := by
      unfold hTold
      rw [List.getD_eq_getElem?_getD, List.getElem?_eq_none (by show 8 ≤ k; omega)]; rfl
    rw [e1, e2]; exact ⟨Int.le_refl _, Int.le_refl _⟩
theorem told_p7 {i : Int32} (h : i = 7) : iv (lTold i.toNatClampNeg) (hTold i.toNatClampNeg) (-1) := by
  subst h
  exact ⟨by decide, by decide⟩
theorem t5_0 {g : Nat → Int32} {k : Int32} (h : k.toInt ≤ 5 ∨ g 5 = 0) (hk : iv 4 7 k) : (k + Int32.ofInt 1).toInt ≤ 5 ∨ upd g k.toNatClampNeg 0 5 = 0 := by
  have ek := cl_nat hk (by decide)
  have e1 := iv_inc 1 hk (by decide) (by decide) (by decide) (by decide)
  by_cases h5 : k.toNatClampNeg = 5
  · exact Or.inr (by rw [h5, upd_eq])
  · rcases h with h | h
    · exact Or.inl (by omega)
    · exact Or.inr (by rw [upd_ne (by omega)]; exact h)
theorem t5_7 {g : Nat → Int32} {k v : Int32} (h : k.toInt ≤ 5 ∨ g 5 = 0) (hk : k = 7) : (k + Int32.ofInt 1).toInt ≤ 5 ∨ upd g k.toNatClampNeg v 5 = 0 := by
  subst hk
  have e : ((7 : Int32)).toInt = 7 := by decide
  rw [e] at h
  rcases h with h | h
  · omega
  · exact Or.inr (by rw [upd_ne (by decide)]; exact h)
theorem t1_k {g : Nat → Int32} {k v q : Int32} (h : g 1 = q) (hk : iv 4 7 k) : upd g k.toNatClampNeg v 1 = q := by
  have ek := cl_nat hk (by decide)
  have h1 := hk.1
  rw [upd_ne (by omega)]; exact h
def act (b t : Int32) : Int := if b = 0 ∧ ¬ t = 0 then 1 else 0
theorem act_step {n : Nat} {a b t a' b' t' : Int32} (hm : (2 * (700 - a.toInt) + act b t).toNat < n + 1) (hb : b = 0) (ht : ¬ t = 0) (ha : iv 0 700 a) (ha' : iv 0 700 a') (mon : a.toInt ≤ a'.toInt) (prog : ¬ b' = 0 ∨ t' = 0 ∨ a.toInt + 1 ≤ a'.toInt) : (2 * (700 - a'.toInt) + act b' t').toNat < n := by
  have e1 : act b t = 1 := if_pos ⟨hb, ht⟩
  have e2 : act b' t' = 0 ∨ act b' t' = 1 := by
    unfold act
    by_cases q : b' = 0 ∧ ¬ t' = 0
    · exact Or.inr (if_pos q)
    · exact Or.inl (if_neg q)
  have h1 := ha.2; have h2 := ha'.2
  rw [e1] at hm
  rcases prog with p | p | p
  · have e3 : act b' t' = 0 := if_neg (fun w => p w.1)
    rw [e3]; omega
  · have e3 : act b' t' = 0 := if_neg (fun w => w.2 p)
    rw [e3]; omega
  · rcases e2 with e3 | e3 <;> rw [e3] <;> omega
theorem half_lt {t f o t' f' o' : Nat → Int32} (h1 : ∀ j : Nat, j < 4 → t' j = t (4 + j)) (h2 : ∀ j : Nat, j < 20 → f' j = f (20 + j)) (h3 : ∀ j : Nat, j < 20 → o' j = o (20 + j)) (ht : fI lTold hTold t) (h : ∀ j : Nat, (j : Int) < (t 5).toInt → (f (20 + j)).toInt < (o (20 + j)).toInt) : ∀ j : Nat, (j : Int) < (t' 1).toInt → (f' j).toInt < (o' j).toInt := by
  intro j hj
  rw [h1 1 (by decide)] at hj
  have q : iv 0 20 (t 5) := ht 5
  have q2 := q.2
  have e45 : t (4 + 1) = t 5 := rfl
  rw [e45] at hj
  rw [h2 j (by omega), h3 j (by omega)]
  exact h j hj
