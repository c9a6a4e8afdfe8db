theorem sp_cnt_b {t : Nat → Int32} {e : Nat} : ∀ d k, e - k ≤ d → sp_cnt t e k ≤ e - k := by
  intro d
  induction d with
  | zero => intro k h; rw [sp_cnt_e (by omega)]; omega
  | succ d ih =>
    intro k h
    by_cases hk : k < e
    · have z := ih (k + 1) (by omega)
      by_cases h4 : t k = 47
      · rw [sp_cnt_at hk h4]; omega
      · rw [sp_cnt_no hk h4]; omega
    · rw [sp_cnt_e (by omega)]; omega
theorem sp_cnt_eon {t : Nat → Int32} {e : Nat} : ∀ d k, e - k ≤ d → 1 ≤ sp_cnt t e k → sp_eon t e k < e ∧ sp_cnt t e k = 1 + sp_cnt t e (sp_eon t e k + 1) := by
  intro d
  induction d with
  | zero => intro k h h1; rw [sp_cnt_e (by omega)] at h1; omega
  | succ d ih =>
    intro k h h1
    by_cases hk : k < e
    · by_cases h4 : t k = 47
      · rw [sp_eon_at (Or.inr h4)]
        exact ⟨hk, sp_cnt_at hk h4⟩
      · rw [sp_cnt_no hk h4] at h1
        rw [sp_eon_no hk h4, sp_cnt_no hk h4]
        exact ih (k + 1) (by omega) h1
    · rw [sp_cnt_e (by omega)] at h1; omega
theorem sp_nst_le {t : Nat → Int32} {e : Nat} : ∀ n k, k ≤ e → n ≤ sp_cnt t e k → sp_nst t e n k ≤ e := by
  intro n
  induction n with
  | zero => intro k h _; exact h
  | succ n ih =>
    intro k h h1
    obtain ⟨q1, q2⟩ := sp_cnt_eon (t := t) (e := e) (e - k) k (Nat.le_refl _) (by omega)
    exact ih (sp_eon t e k + 1) (by omega) (by omega)
