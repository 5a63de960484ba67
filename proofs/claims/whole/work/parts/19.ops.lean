/-! ===== what the reference's methods answer ===== -/
def db_isv (v vl : Int32) : Int32 := if v < 0 ∨ vl ≤ v then 0 else 1
theorem db_isv_cases (v : Int32) {n : Nat} (hn : n < 2 ^ 31) : (db_isv v (nI n) = 0 ∧ (v < 0 ∨ nI n ≤ v)) ∨ ∃ j, j < n ∧ v = nI j ∧ db_isv v (nI n) = 1 := by
  rcases pk_ix v hn with h | h | ⟨j, hj, e⟩
  · exact Or.inl ⟨if_pos (Or.inl h), Or.inl h⟩
  · exact Or.inl ⟨if_pos (Or.inr h), Or.inr h⟩
  · refine Or.inr ⟨j, hj, e, if_neg ?_⟩
    rintro (h | h)
    · rw [e] at h; exact nI_pos (by omega) h
    · rw [e] at h; exact nI_ge hj hn h
