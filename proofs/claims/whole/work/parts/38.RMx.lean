/-- byte k of a fed word, as the reference takes it -/
def sp_by (b : Int64) (k : Nat) : Int32 := ((b >>> ((nI (8 * k)).toInt64 &&& 63)) &&& 255).toInt32
theorem ig_18 {x : Int32} (h : ¬ x < 1) (h2 : x ≤ 8) : ∃ n, 1 ≤ n ∧ n ≤ 8 ∧ x = nI n := by
  have h0 : ¬ x < 0 := fun q => h (Int32.lt_trans q (by decide))
  obtain ⟨j, j1, j2⟩ := nI_of2 (x := x) (M := 8) (n := 8) (by decide) h0 h2
  refine ⟨j, ?_, j1, j2⟩
  apply Classical.byContradiction
  intro q
  have e : j = 0 := by omega
  rw [e] at j2
  rw [j2] at h
  exact h (by decide)
theorem ig_18n {n : Nat} (h : 1 ≤ n) (h2 : n ≤ 8) : ¬ (nI n < 1 ∨ 8 < nI n) := by
  rintro (q | q)
  · exact nI_nlt (a := n) (b := 1) h (by omega) q
  · exact nI_nlt (a := 8) (b := n) h2 (by omega) q
