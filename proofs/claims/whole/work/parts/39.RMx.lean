theorem sp_dd_b {O : Nat → Bool} {c : Nat} : ∀ d n, c - n ≤ d → n ≤ c → n ≤ sp_dd O c n ∧ sp_dd O c n ≤ c := by
  intro d
  induction d with
  | zero =>
    intro n h1 h2
    rw [sp_dd.eq_1 O c n, dif_neg (by omega)]
    omega
  | succ d ih =>
    intro n h1 h2
    rw [sp_dd.eq_1 O c n]
    by_cases h : n < c
    · rw [dif_pos h]
      by_cases h' : O n = true
      · rw [if_pos h']; omega
      · rw [if_neg h']
        have z := ih (n + 1) (by omega) (by omega)
        omega
    · rw [dif_neg h]; omega
