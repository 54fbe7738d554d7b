theorem n_nb {q : Int32} (h : q = 0 ∨ q = 1) : narrow .boolean (.int q) = .int q := by
  rcases h with rfl | rfl
  · rfl
  · rfl
theorem nsm_01 (q : Int32) : nsm q = 0 ∨ nsm q = 1 := by
  unfold nsm
  by_cases h1 : q < 97
  · exact Or.inl (if_pos h1)
  · rw [if_neg h1]
    by_cases h2 : 122 < q
    · exact Or.inl (if_pos h2)
    · exact Or.inr (if_neg h2)
