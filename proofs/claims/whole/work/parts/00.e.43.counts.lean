/-- kind o is k, or under it -/
abbrev UD0 (o k : Int32) : Prop := k = 0 ∨ o = k ∨ (k = 1 ∧ (o = 4 ∨ o = 5)) ∨ (k = 2 ∧ o = 3)
theorem r_isUnder0 (o k : Int32) : f7_isUnder o k = some (if UD0 o k then 1 else 0) := by
  simp only [f7_isUnder_39, f7_isUnder_38, f7_isUnder_34, f7_isUnder_24, f7_isUnder, q_bz_0, q_bz_1]
  by_cases h0 : k = 0
  · rw [if_pos h0, if_pos (Or.inl h0)]
  · rw [if_neg h0]
    by_cases h1 : o = k
    · rw [if_pos h1, if_pos (Or.inr (Or.inl h1))]
    · rw [if_neg h1]
      by_cases h2 : k = 1
      · subst h2
        by_cases h3 : o = 4
        · rw [if_pos rfl, if_pos h3, if_pos (Or.inr (Or.inr (Or.inl ⟨rfl, Or.inl h3⟩)))]
        · by_cases h4 : o = 5
          · rw [if_pos rfl, if_neg h3, if_pos h4, if_pos (Or.inr (Or.inr (Or.inl ⟨rfl, Or.inr h4⟩)))]
          · rw [if_pos rfl, if_neg h3, if_neg h4, if_neg (by decide), if_neg]
            rintro (h | h | ⟨-, h | h⟩ | ⟨h, -⟩)
            · exact h0 h
            · exact h1 h
            · exact h3 h
            · exact h4 h
            · exact absurd h (by decide)
      · rw [if_neg h2]
        by_cases h3 : k = 2
        · by_cases h4 : o = 3
          · rw [if_pos h3, if_pos h4, if_pos (Or.inr (Or.inr (Or.inr ⟨h3, h4⟩)))]
          · rw [if_pos h3, if_neg h4, if_neg]
            rintro (h | h | ⟨h, -⟩ | ⟨-, h⟩)
            · exact h0 h
            · exact h1 h
            · exact h2 h
            · exact h4 h
        · rw [if_neg h3, if_neg]
          rintro (h | h | ⟨h, -⟩ | ⟨h, -⟩)
          · exact h0 h
          · exact h1 h
          · exact h2 h
          · exact h3 h
def UDb (o k : Int32) : Bool := decide (UD0 o k)
abbrev UD (o k : Int32) : Prop := UDb o k = true
theorem UD_iff {o k : Int32} : UD o k ↔ UD0 o k := decide_eq_true_iff
theorem r_isUnder (o k : Int32) : f7_isUnder o k = some (if UD o k then 1 else 0) := by
  rw [r_isUnder0]
  by_cases h : UD0 o k
  · rw [if_pos h, if_pos (UD_iff.mpr h)]
  · rw [if_neg h, if_neg (fun q => h (UD_iff.mp q))]
