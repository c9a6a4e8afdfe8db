/-! the tie of the two sides -/
theorem sp_nst_s (t : Nat → Int32) (e : Nat) : ∀ n k, sp_nst t e (n + 1) k = sp_eon t e (sp_nst t e n k) + 1 := by
  intro n
  induction n with
  | zero => intro k; rfl
  | succ n ih => intro k; exact ih (sp_eon t e k + 1)
/-- part p of the reference is name p of the class -/
theorem sp_parts_nst {t : Nat → Int32} {s e c : Nat} {wF wT : Nat → Nat} (h : sp_parts t s e c wF wT) : ∀ p, p < c → wF p = sp_nst t e p s ∧ wT p = sp_eon t e (sp_nst t e p s) := by
  obtain ⟨h1, h2, h3, h4, h5, h6⟩ := h
  intro p
  induction p with
  | zero => intro hp; exact ⟨h2, by rw [(h3 0 hp).2, h2]; rfl⟩
  | succ p ih =>
    intro hp
    obtain ⟨g1, g2⟩ := ih (by omega)
    have e1 : wF (p + 1) = sp_nst t e (p + 1) s := by rw [(h4 p hp).1, g2, sp_nst_s]
    exact ⟨e1, by rw [(h3 (p + 1) hp).2, e1]⟩
theorem sp_nst_c {t u : Nat → Int32} {e : Nat} (h : ∀ j, j < e → t j = u j) : ∀ n k, sp_nst t e n k = sp_nst u e n k := by
  intro n
  induction n with
  | zero => intro k; rfl
  | succ n ih => intro k; rw [sp_nst_s, sp_nst_s, ih k, sp_eon_c h]
