theorem told_any {f : Nat → Int32} (h : fI lTold hTold f) (k : Nat) : iv (-1) 50 (f k) := by
  have q := h k
  have e : -1 ≤ lTold k ∧ hTold k ≤ 50 := by
    match k with
    | 0 => exact ⟨by decide, by decide⟩
    | 1 => exact ⟨by decide, by decide⟩
    | 2 => exact ⟨by decide, by decide⟩
    | 3 => exact ⟨by decide, by decide⟩
    | 4 => exact ⟨by decide, by decide⟩
    | 5 => exact ⟨by decide, by decide⟩
    | 6 => exact ⟨by decide, by decide⟩
    | 7 => exact ⟨by decide, by decide⟩
    | k + 8 => exact (⟨by decide, by decide⟩ : (-1 : Int) ≤ 0 ∧ (0 : Int) ≤ 50)
  exact iv_w q e.1 e.2
