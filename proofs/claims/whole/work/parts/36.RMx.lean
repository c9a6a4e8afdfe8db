/-- a raw number inside a range is a natural there -/
theorem ig_rng {x : Int32} {c : Nat} (hc : c < 2147483648) (h : ¬ (x < 0 ∨ nI c ≤ x)) : ∃ i, i < c ∧ x = nI i := by
  obtain ⟨j, j1, j2⟩ := nI_of (x := x) (fun q => h (Or.inl q))
  refine ⟨j, ?_, j2⟩
  apply Classical.byContradiction
  intro q
  apply h
  refine Or.inr ?_
  rw [j2]
  exact nI_le (by omega) j1
theorem ig_rngn {c i : Nat} (h : i < c) (hc : c < 2147483648) : ¬ (nI i < 0 ∨ nI c ≤ nI i) := by
  rintro (q | q)
  · exact nI_pos (by omega) q
  · exact nI_ge h (by omega) q
theorem ig_012 {y : Int32} (h : ¬ y < 0) (h2 : y ≤ 2) : y = 0 ∨ y = 1 ∨ y = 2 := by
  obtain ⟨j, j1, j2⟩ := nI_of2 (x := y) (M := 2) (n := 2) (by decide) h h2
  rw [j2]
  have : j = 0 ∨ j = 1 ∨ j = 2 := by omega
  rcases this with e | e | e <;> subst e
  · exact Or.inl rfl
  · exact Or.inr (Or.inl rfl)
  · exact Or.inr (Or.inr rfl)
