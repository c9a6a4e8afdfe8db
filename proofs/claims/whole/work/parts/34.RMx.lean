theorem sp_ld_len {t : Nat → Int32} {n : Nat} : ∀ k, (sp_ld t n k).2.2.length ≤ k
  | 0 => Nat.le_refl _
  | k + 1 => by
    have h := sp_ld_len (t := t) (n := n) k
    by_cases hs : k = n ∨ t k = 10
    · rw [sp_ld_at hs]
      show ((sp_ld t n k).2.2 ++ _).length ≤ k + 1
      rw [List.length_append, sp_one]
      split
      · simp; omega
      · simp; omega
    · rw [sp_ld_no hs]; omega
theorem sp_dd_is {O : Nat → Bool} {c D : Nat} (hD : D ≤ c) (h2 : D < c → O D = true) : ∀ d m, D - m ≤ d → m ≤ D → (∀ k, m ≤ k → k < D → O k = false) → sp_dd O c m = D := by
  intro d
  induction d with
  | zero =>
    intro m hd hm h1
    have : m = D := by omega
    subst this
    rw [sp_dd]
    split
    · rename_i h; rw [if_pos (h2 h)]
    · omega
  | succ d ih =>
    intro m hd hm h1
    by_cases hmD : m = D
    · subst hmD
      rw [sp_dd]
      split
      · rename_i h; rw [if_pos (h2 h)]
      · omega
    · rw [sp_dd, dif_pos (by omega), if_neg (by rw [h1 m (Nat.le_refl _) (by omega)]; decide)]
      exact ih (m + 1) (by omega) (by omega) (fun k k1 k2 => h1 k (by omega) k2)
