/-! what is computed of a stretch depends on that stretch alone -/
theorem sp_run_c {t u : Nat → Int32} {b : Nat} : ∀ k, (∀ j, j < k → t j = u j) → sp_run t b k = sp_run u b k
  | 0, _ => rfl
  | k + 1, h => by
    rw [sp_run, sp_run, h k (Nat.lt_succ_self k), sp_run_c k (fun j hj => h j (Nat.lt_succ_of_lt hj))]
theorem sp_esc_c {t u : Nat → Int32} {b k : Nat} (h : ∀ j, j < k → t j = u j) : sp_esc t b k = sp_esc u b k := by
  rw [sp_esc, sp_esc, sp_run_c k h]
theorem sp_strip_c {t u : Nat → Int32} {b : Nat} : ∀ k, (∀ j, j < k → t j = u j) → sp_strip t b k = sp_strip u b k
  | 0, _ => rfl
  | k + 1, h => by
    rw [sp_strip, sp_strip, h k (Nat.lt_succ_self k), sp_esc_c (fun j hj => h j (Nat.lt_succ_of_lt hj)), sp_strip_c k (fun j hj => h j (Nat.lt_succ_of_lt hj))]
theorem sp_eon_c {t u : Nat → Int32} {e : Nat} (h : ∀ j, j < e → t j = u j) (k : Nat) : sp_eon t e k = sp_eon u e k := by
  rw [sp_eon.eq_1 t e k, sp_eon.eq_1 u e k]
  by_cases hk : k < e
  · rw [if_pos hk, if_pos hk, h k hk, sp_eon_c h (k + 1)]
  · rw [if_neg hk, if_neg hk]
termination_by e - k
decreasing_by omega
theorem sp_cnt_c {t u : Nat → Int32} {e : Nat} (h : ∀ j, j < e → t j = u j) (k : Nat) : sp_cnt t e k = sp_cnt u e k := by
  rw [sp_cnt.eq_1 t e k, sp_cnt.eq_1 u e k]
  by_cases hk : k < e
  · rw [if_pos hk, if_pos hk, h k hk, sp_cnt_c h (k + 1)]
  · rw [if_neg hk, if_neg hk]
termination_by e - k
decreasing_by omega
theorem sp_tok_c {t u : Nat → Int32} {k : Nat} (h : t k = u k) : sp_tok t k = sp_tok u k := by rw [sp_tok, sp_tok, h]
theorem sp_row_c {t u : Nat → Int32} {e : Nat} (h : ∀ j, j < e → t j = u j) (k : Nat) : sp_row t e k = sp_row u e k := by
  rw [sp_row, sp_row]
  by_cases hk : k + 1 < e
  · rw [h k (by omega), h (k + 1) hk]
  · simp [hk]
theorem sp_row_lt {t : Nat → Int32} {e k : Nat} (h : sp_row t e k = true) : k + 1 < e := by
  rw [sp_row, decide_eq_true_eq] at h
  exact h.1
theorem sp_nx_c {t u : Nat → Int32} {e : Nat} (h : ∀ j, j < e → t j = u j) {a : Nat} (ha : a < e) : sp_nx t e a = sp_nx u e a := by
  rw [sp_nx, sp_nx, sp_tok_c (h a ha), sp_row_c h]
  by_cases hr : sp_row u e (sp_tok u a) = true
  · rw [if_pos hr, if_pos hr, sp_tok_c (h _ (sp_row_lt hr))]
  · rw [if_neg hr, if_neg hr]
theorem sp_se_c {t u : Nat → Int32} {e : Nat} (h : ∀ j, j < e → t j = u j) (a : Nat) (first : Bool) : sp_se t e a first = sp_se u e a first := by
  rw [sp_se.eq_1 t e a first, sp_se.eq_1 u e a first]
  by_cases ha : a < e
  · have := sp_nx_gt u e a
    rw [if_pos ha, if_pos ha, h a ha, sp_nx_c h ha, sp_se_c h (sp_nx u e a) false]
  · rw [if_neg ha, if_neg ha]
termination_by e - a
decreasing_by
  have := sp_nx_gt u e a
  omega
theorem sp_sf_c {t u : Nat → Int32} {e : Nat} (h : ∀ j, j < e → t j = u j) (k : Nat) : sp_sf t e k = sp_sf u e k := by
  rw [sp_sf, sp_sf]
  by_cases hk : k + 1 < e
  · rw [h (k + 1) hk]
  · simp [hk]
theorem sp_end_c {t u : Nat → Int32} {e : Nat} (h : ∀ j, j < e → t j = u j) {k : Nat} (hk : k < e) : sp_end t e k = sp_end u e k := by
  rw [sp_end, sp_end, h k hk, sp_sf_c h, sp_se_c h]
/-- a set that ends has its items within -/
theorem sp_se_in {t : Nat → Int32} {e a : Nat} {first : Bool} (h : sp_se t e a first ≤ e) : a < e ∧ ((first = true ∨ ¬ t a = 93) → sp_nx t e a < e ∧ sp_se t e (sp_nx t e a) false = sp_se t e a first) := by
  have ha : a < e := by
    by_cases ha : a < e
    · exact ha
    · rw [sp_se, if_neg ha] at h
      omega
  refine ⟨ha, fun hc => ?_⟩
  have e1 : sp_se t e (sp_nx t e a) false = sp_se t e a first := by rw [sp_se.eq_1 t e a first, if_pos ha, if_pos hc]
  refine ⟨?_, e1⟩
  by_cases hn : sp_nx t e a < e
  · exact hn
  · rw [sp_se, if_neg hn] at e1
    omega
theorem sp_byte_c {t u : Nat → Int32} {e : Nat} (h : ∀ j, j < e → t j = u j) {k : Nat} (hk : k < e) (h2 : sp_tok t k ≤ e) : sp_byte t k = sp_byte u k := by
  rw [sp_byte, sp_byte, h k hk]
  by_cases hb : u k = 92
  · rw [sp_tok, if_pos (by rw [h k hk]; exact hb)] at h2
    rw [if_pos hb, if_pos hb, h (k + 1) (by omega)]
  · rw [if_neg hb, if_neg hb]
theorem sp_tok_nx {t : Nat → Int32} {e a : Nat} : sp_tok t a ≤ sp_nx t e a := by
  have := sp_tok_gt t (sp_tok t a + 1)
  rw [sp_nx]
  split <;> omega
theorem sp_has_c {t u : Nat → Int32} {e : Nat} (h : ∀ j, j < e → t j = u j) (c : Int32) (a : Nat) (first : Bool) (hs : sp_se t e a first ≤ e) : sp_has t e c a first = sp_has u e c a first := by
  obtain ⟨ha, hn⟩ := sp_se_in hs
  rw [sp_has.eq_1 t e c a first, sp_has.eq_1 u e c a first, if_pos ha, if_pos ha, h a ha]
  by_cases hc : first = true ∨ ¬ u a = 93
  · obtain ⟨n1, n2⟩ := hn (by rw [h a ha]; exact hc)
    have hg := sp_nx_gt t e a
    have ht : sp_tok t a ≤ e := Nat.le_trans sp_tok_nx (Nat.le_of_lt n1)
    have e1 : sp_hi t e a = sp_hi u e a := by
      rw [sp_hi, sp_hi, ← sp_tok_c (h a ha), ← sp_row_c h, ← sp_byte_c h ha ht]
      by_cases hr : sp_row t e (sp_tok t a) = true
      · rw [if_pos hr, if_pos hr]
        refine sp_byte_c h (sp_row_lt hr) ?_
        have : sp_nx t e a = sp_tok t (sp_tok t a + 1) := by rw [sp_nx, if_pos hr]
        omega
      · rw [if_neg hr, if_neg hr]
    rw [if_pos hc, if_pos hc, sp_byte_c h ha ht, e1, ← sp_nx_c h ha, sp_has_c h c (sp_nx t e a) false (by rw [n2]; exact hs)]
  · rw [if_neg hc, if_neg hc]
termination_by e - a
decreasing_by omega
theorem sp_take_c {t u : Nat → Int32} {e : Nat} (h : ∀ j, j < e → t j = u j) {k : Nat} (hk : k < e) (he : sp_end t e k ≤ e) (c : Int32) : sp_take t e k c = sp_take u e k c := by
  rw [sp_take, sp_take, h k hk, ← sp_sf_c h]
  by_cases h1 : u k = 63
  · rw [if_pos h1, if_pos h1]
  · rw [if_neg h1, if_neg h1]
    by_cases h2 : u k = 91
    · rw [if_pos h2, if_pos h2, sp_has_c h]
      rw [sp_end, if_neg (by rw [h k hk, h2]; decide), if_pos (by rw [h k hk]; exact h2)] at he
      exact he
    · rw [if_neg h2, if_neg h2, sp_byte_c h hk]
      rw [sp_end] at he
      rw [sp_tok]
      split at he
      · rename_i h3
        rw [if_pos h3]
        exact he
      · rename_i h3
        rw [if_neg h3]
        omega
theorem sp_void_c {t u : Nat → Int32} {e : Nat} (h : ∀ j, j < e → t j = u j) (k : Nat) : sp_void t e k = sp_void u e k := by
  rw [sp_void.eq_1 t e k, sp_void.eq_1 u e k]
  by_cases hk : k < e
  · have hg := sp_end_gt (t := u) hk
    rw [dif_pos hk, dif_pos hk, sp_end_c h hk, sp_void_c h (sp_end u e k)]
  · rw [dif_neg hk, dif_neg hk]
termination_by e - k
decreasing_by omega
theorem ig_neg {b : Nat} (h : b < 2147483648) : ¬ nI b ≤ (-1 : Int32) := by
  intro h2
  have h3 : (0 : Int32) ≤ nI b := nI_pos' (by omega)
  exact absurd (Int32.le_trans h3 h2) (by decide)
