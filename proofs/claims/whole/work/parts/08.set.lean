/-! a set that ends at z, gone through with its end known -/
theorem sp_set1 {t : Nat → Int32} {e b z : Nat} {fl : Bool} (hs : sp_se t e b fl = z + 1) (hz : z + 1 ≤ e) : b ≤ z ∧ (b = z → ∀ c, sp_has t e c b fl = false) ∧ (b < z → (fl = true ∨ ¬ t b = 93) ∧ sp_se t e (sp_nx t e b) false = z + 1 ∧ sp_nx t e b ≤ z) := by
  obtain ⟨hb, hn⟩ := sp_se_in (t := t) (e := e) (a := b) (first := fl) (by omega)
  have hg := sp_se_gt (t := t) (e := e) (a := b) (first := fl) (by omega)
  refine ⟨by omega, fun hbz c => ?_, fun hbz => ?_⟩
  · rw [sp_has, if_pos hb]
    by_cases hc : fl = true ∨ ¬ t b = 93
    · obtain ⟨n1, n2⟩ := hn hc
      have h1 := sp_nx_gt t e b
      have h2 := sp_se_gt (t := t) (e := e) (a := sp_nx t e b) (first := false) (by omega)
      omega
    · rw [if_neg hc]
  · by_cases hc : fl = true ∨ ¬ t b = 93
    · obtain ⟨n1, n2⟩ := hn hc
      have h2 := sp_se_gt (t := t) (e := e) (a := sp_nx t e b) (first := false) (by omega)
      exact ⟨hc, by omega, by omega⟩
    · rw [sp_se, if_pos hb, if_neg hc] at hs
      omega
theorem sp_set2 {t : Nat → Int32} {e b z : Nat} {fl : Bool} (hs : sp_se t e b fl = z + 1) (hz : z + 1 ≤ e) (hb : b < z) : (sp_tok t b + 1 < z ∧ t (sp_tok t b) = 45) ↔ sp_row t e (sp_tok t b) = true := by
  obtain ⟨-, -, h3⟩ := sp_set1 hs hz
  obtain ⟨hc, hs2, hn⟩ := h3 hb
  constructor
  · rintro ⟨h1, h2⟩
    by_cases hr : sp_row t e (sp_tok t b) = true
    · exact hr
    · exfalso
      have e1 : sp_nx t e b = sp_tok t b := by rw [sp_nx, if_neg hr]
      rw [e1] at hs2
      obtain ⟨-, -, g3⟩ := sp_set1 hs2 hz
      obtain ⟨-, gs, -⟩ := g3 (by omega)
      have h93 : t (sp_tok t b + 1) = 93 := by
        by_cases h : t (sp_tok t b + 1) = 93
        · exact h
        · exact absurd (by rw [sp_row, decide_eq_true_eq]; exact ⟨by omega, h2, h⟩) hr
      have e2 : sp_tok t (sp_tok t b) = sp_tok t b + 1 := by rw [sp_tok, if_neg (by rw [h2]; decide)]
      have e3 : ¬ sp_row t e (sp_tok t b + 1) = true := by
        rw [sp_row, decide_eq_true_eq, h93]
        rintro ⟨-, q, -⟩
        exact absurd q (by decide)
      have e4 : sp_nx t e (sp_tok t b) = sp_tok t b + 1 := by rw [sp_nx, e2, if_neg e3]
      rw [e4, sp_se, if_pos (by omega), if_neg (by simp [h93])] at gs
      omega
  · intro hr
    have hr2 := hr
    rw [sp_row, decide_eq_true_eq] at hr2
    have e1 : sp_nx t e b = sp_tok t (sp_tok t b + 1) := by rw [sp_nx, if_pos hr]
    have h1 := sp_tok_gt t (sp_tok t b + 1)
    exact ⟨by omega, hr2.2.1⟩
theorem sp_has1 {t : Nat → Int32} {e b z : Nat} {fl : Bool} (c : Int32) (hs : sp_se t e b fl = z + 1) (hz : z + 1 ≤ e) (hb : b < z) : sp_has t e c b fl = (decide (sp_byte t b ≤ c ∧ c ≤ sp_hi t e b) || sp_has t e c (sp_nx t e b) false) := by
  obtain ⟨-, -, h3⟩ := sp_set1 hs hz
  obtain ⟨hc, -, -⟩ := h3 hb
  rw [sp_has.eq_1 t e c b fl, if_pos (by omega), if_pos hc]
theorem sp_eon_no {t : Nat → Int32} {e k : Nat} (hk : k < e) (h : ¬ t k = 47) : sp_eon t e k = sp_eon t e (k + 1) := by rw [sp_eon.eq_1 t e k, if_pos hk, if_neg h]
theorem sp_eon_at {t : Nat → Int32} {e k : Nat} (h : k = e ∨ t k = 47) : sp_eon t e k = k := by
  rw [sp_eon]
  split
  · rename_i hk
    rw [if_pos (h.resolve_left (by omega))]
  · rfl
theorem sp_cnt_no {t : Nat → Int32} {e k : Nat} (hk : k < e) (h : ¬ t k = 47) : sp_cnt t e k = sp_cnt t e (k + 1) := by rw [sp_cnt.eq_1 t e k, if_pos hk, if_neg h, Nat.zero_add]
theorem sp_cnt_at {t : Nat → Int32} {e k : Nat} (hk : k < e) (h : t k = 47) : sp_cnt t e k = 1 + sp_cnt t e (k + 1) := by rw [sp_cnt.eq_1 t e k, if_pos hk, if_pos h]
theorem sp_cnt_e {t : Nat → Int32} {e k : Nat} (hk : e ≤ k) : sp_cnt t e k = 0 := by rw [sp_cnt, if_neg (by omega)]
