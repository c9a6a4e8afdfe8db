/-! a bound rule's names against a path's first n names: F k q j tells whether the name [k, q) fits name j -/
def sp_deep (t : Nat → Int32) (k q : Nat) : Bool := decide (q = k + 2 ∧ t k = 42 ∧ t (k + 1) = 42)
def sp_H (t : Nat → Int32) (e n : Nat) (F : Nat → Nat → Nat → Bool) (k j : Nat) : Bool :=
  if h : k ≤ e then
    (if sp_deep t k (sp_eon t e k) = true then
      (if hq : sp_eon t e k = e then decide (j < n) else (sp_H t e n F (sp_eon t e k + 1) j || (if hj : j < n then sp_H t e n F k (j + 1) else false)))
    else (if hj : j < n then (F k (sp_eon t e k) j && (if hq : sp_eon t e k = e then decide (j + 1 = n) else sp_H t e n F (sp_eon t e k + 1) (j + 1))) else false))
  else false
termination_by (e + 1 - k, n - j)
decreasing_by
  · have := sp_eon_ge t e k
    apply Prod.Lex.left
    omega
  · apply Prod.Lex.right
    omega
  · have := sp_eon_ge t e k
    apply Prod.Lex.left
    omega
theorem sp_H_dl {t : Nat → Int32} {e n : Nat} {F : Nat → Nat → Nat → Bool} {k j : Nat} (hk : k ≤ e) (hd : sp_deep t k (sp_eon t e k) = true) (hq : sp_eon t e k = e) : sp_H t e n F k j = true ↔ j < n := by
  rw [sp_H, dif_pos hk, if_pos hd, dif_pos hq, decide_eq_true_eq]
theorem sp_H_dn {t : Nat → Int32} {e n : Nat} {F : Nat → Nat → Nat → Bool} {k j : Nat} (hk : k ≤ e) (hd : sp_deep t k (sp_eon t e k) = true) (hq : ¬ sp_eon t e k = e) : sp_H t e n F k j = true ↔ sp_H t e n F (sp_eon t e k + 1) j = true ∨ (j < n ∧ sp_H t e n F k (j + 1) = true) := by
  rw [sp_H, dif_pos hk, if_pos hd, dif_neg hq]
  by_cases hj : j < n
  · rw [dif_pos hj]; simp [hj]
  · rw [dif_neg hj]; simp [hj]
theorem sp_H_pl {t : Nat → Int32} {e n : Nat} {F : Nat → Nat → Nat → Bool} {k j : Nat} (hk : k ≤ e) (hd : ¬ sp_deep t k (sp_eon t e k) = true) (hq : sp_eon t e k = e) : sp_H t e n F k j = true ↔ j < n ∧ F k (sp_eon t e k) j = true ∧ j + 1 = n := by
  rw [sp_H, dif_pos hk, if_neg hd]
  by_cases hj : j < n
  · rw [dif_pos hj, dif_pos hq]; simp [hj]
  · rw [dif_neg hj]; simp [hj]
theorem sp_H_pn {t : Nat → Int32} {e n : Nat} {F : Nat → Nat → Nat → Bool} {k j : Nat} (hk : k ≤ e) (hd : ¬ sp_deep t k (sp_eon t e k) = true) (hq : ¬ sp_eon t e k = e) : sp_H t e n F k j = true ↔ j < n ∧ F k (sp_eon t e k) j = true ∧ sp_H t e n F (sp_eon t e k + 1) (j + 1) = true := by
  rw [sp_H, dif_pos hk, if_neg hd]
  by_cases hj : j < n
  · rw [dif_pos hj, dif_neg hq]; simp [hj]
  · rw [dif_neg hj]; simp [hj]
theorem sp_H_deep {t : Nat → Int32} {e n : Nat} {F : Nat → Nat → Nat → Bool} {k : Nat} (hk : k ≤ e) (hd : sp_deep t k (sp_eon t e k) = true) (hq : ¬ sp_eon t e k = e) : ∀ d i, n - i = d → i ≤ n → (sp_H t e n F k i = true ↔ ∃ j, i ≤ j ∧ j ≤ n ∧ sp_H t e n F (sp_eon t e k + 1) j = true) := by
  intro d
  induction d with
  | zero =>
    intro i hd0 hi
    rw [sp_H_dn hk hd hq]
    constructor
    · rintro (h | ⟨h, -⟩)
      · exact ⟨i, Nat.le_refl _, hi, h⟩
      · omega
    · rintro ⟨j, h1, h2, h3⟩
      have : j = i := by omega
      subst this
      exact Or.inl h3
  | succ d ih =>
    intro i hd0 hi
    rw [sp_H_dn hk hd hq, ih (i + 1) (by omega) (by omega)]
    constructor
    · rintro (h | ⟨h, j, h1, h2, h3⟩)
      · exact ⟨i, Nat.le_refl _, hi, h⟩
      · exact ⟨j, by omega, h2, h3⟩
    · rintro ⟨j, h1, h2, h3⟩
      by_cases hj : j = i
      · subst hj
        exact Or.inl h3
      · exact Or.inr ⟨by omega, j, by omega, h2, h3⟩
/-- some number of names that the row has leads on from the name at k -/
def sp_hx (t : Nat → Int32) (e n : Nat) (F : Nat → Nat → Nat → Bool) (k : Nat) (row : Nat → Bool) : Prop := ∃ j, j ≤ n ∧ row j = true ∧ sp_H t e n F k j = true
theorem sp_hx_dn {t : Nat → Int32} {e n : Nat} {F : Nat → Nat → Nat → Bool} {k : Nat} {row row' : Nat → Bool} (hk : k ≤ e) (hd : sp_deep t k (sp_eon t e k) = true) (hq : ¬ sp_eon t e k = e) (hr : ∀ j, j ≤ n → (row' j = true ↔ ∃ i, i ≤ j ∧ row i = true)) : sp_hx t e n F k row ↔ sp_hx t e n F (sp_eon t e k + 1) row' := by
  constructor
  · rintro ⟨i, h1, h2, h3⟩
    obtain ⟨j, j1, j2, j3⟩ := (sp_H_deep hk hd hq (n - i) i rfl h1).mp h3
    exact ⟨j, j2, (hr j j2).mpr ⟨i, j1, h2⟩, j3⟩
  · rintro ⟨j, h1, h2, h3⟩
    obtain ⟨i, i1, i2⟩ := (hr j h1).mp h2
    exact ⟨i, by omega, i2, (sp_H_deep hk hd hq (n - i) i rfl (by omega)).mpr ⟨j, i1, h1, h3⟩⟩
theorem sp_hx_dl {t : Nat → Int32} {e n : Nat} {F : Nat → Nat → Nat → Bool} {k : Nat} {row row' : Nat → Bool} (hn : 1 ≤ n) (hk : k ≤ e) (hd : sp_deep t k (sp_eon t e k) = true) (hq : sp_eon t e k = e) (hr : ∀ j, j ≤ n → (row' j = true ↔ ∃ i, i ≤ j ∧ row i = true)) : sp_hx t e n F k row ↔ row' (n - 1) = true := by
  constructor
  · rintro ⟨i, h1, h2, h3⟩
    rw [sp_H_dl hk hd hq] at h3
    exact (hr (n - 1) (by omega)).mpr ⟨i, by omega, h2⟩
  · intro h
    obtain ⟨i, i1, i2⟩ := (hr (n - 1) (by omega)).mp h
    exact ⟨i, by omega, i2, (sp_H_dl hk hd hq).mpr (by omega)⟩
theorem sp_hx_pn {t : Nat → Int32} {e n : Nat} {F : Nat → Nat → Nat → Bool} {k : Nat} {row row' : Nat → Bool} (hk : k ≤ e) (hd : ¬ sp_deep t k (sp_eon t e k) = true) (hq : ¬ sp_eon t e k = e) (h0 : row' 0 = false) (hr : ∀ j, j < n → (row' (j + 1) = true ↔ row j = true ∧ F k (sp_eon t e k) j = true)) : sp_hx t e n F k row ↔ sp_hx t e n F (sp_eon t e k + 1) row' := by
  constructor
  · rintro ⟨i, h1, h2, h3⟩
    obtain ⟨i1, i2, i3⟩ := (sp_H_pn hk hd hq).mp h3
    exact ⟨i + 1, i1, (hr i i1).mpr ⟨h2, i2⟩, i3⟩
  · rintro ⟨j, h1, h2, h3⟩
    cases j with
    | zero => rw [h0] at h2; cases h2
    | succ j =>
      obtain ⟨r1, r2⟩ := (hr j h1).mp h2
      exact ⟨j, by omega, r1, (sp_H_pn hk hd hq).mpr ⟨h1, r2, h3⟩⟩
theorem sp_hx_pl {t : Nat → Int32} {e n : Nat} {F : Nat → Nat → Nat → Bool} {k : Nat} {row : Nat → Bool} (hn : 1 ≤ n) (hk : k ≤ e) (hd : ¬ sp_deep t k (sp_eon t e k) = true) (hq : sp_eon t e k = e) : sp_hx t e n F k row ↔ row (n - 1) = true ∧ F k (sp_eon t e k) (n - 1) = true := by
  constructor
  · rintro ⟨i, h1, h2, h3⟩
    obtain ⟨i1, i2, i3⟩ := (sp_H_pl hk hd hq).mp h3
    have : i = n - 1 := by omega
    subst this
    exact ⟨h2, i2⟩
  · rintro ⟨h1, h2⟩
    exact ⟨n - 1, by omega, h1, (sp_H_pl hk hd hq).mpr ⟨by omega, h2, by omega⟩⟩
