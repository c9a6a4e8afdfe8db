/-! names against names: rows over the bytes (class), rows over the places (reference) -/
theorem sp_end_star {t : Nat → Int32} {e k : Nat} (hs : t k = 42) : sp_end t e k = k + 1 := by
  rw [sp_end, if_neg (by rw [hs]; decide), if_neg (by rw [hs]; decide)]
theorem sp_fit_end {t : Nat → Int32} {e : Nat} {P : Nat → Int32} {n k i : Nat} (hk : ¬ k < e) : sp_fit t e P n k i = decide (i = n) := by
  rw [sp_fit, dif_neg hk]
theorem sp_fit_void {t : Nat → Int32} {e : Nat} {P : Nat → Int32} {n k i : Nat} (hk : k < e) (he : ¬ sp_end t e k ≤ e) : sp_fit t e P n k i = false := by
  rw [sp_fit, dif_pos hk, if_neg he]
theorem sp_fit_one {t : Nat → Int32} {e : Nat} {P : Nat → Int32} {n k i : Nat} (hk : k < e) (he : sp_end t e k ≤ e) (hs : ¬ t k = 42) : sp_fit t e P n k i = true ↔ i < n ∧ sp_take t e k (P i) = true ∧ sp_fit t e P n (sp_end t e k) (i + 1) = true := by
  rw [sp_fit, dif_pos hk, if_pos he, if_neg hs]
  by_cases hi : i < n
  · rw [if_pos hi]; simp [hi]
  · rw [if_neg hi]; simp [hi]
theorem sp_fit_s1 {t : Nat → Int32} {e : Nat} {P : Nat → Int32} {n k i : Nat} (hk : k < e) (hs : t k = 42) : sp_fit t e P n k i = true ↔ sp_fit t e P n (k + 1) i = true ∨ (i < n ∧ sp_fit t e P n k (i + 1) = true) := by
  rw [sp_fit, dif_pos hk, if_pos (by rw [sp_end_star hs]; omega), if_pos hs, sp_end_star hs]
  by_cases hi : i < n
  · rw [if_pos hi]; simp [hi]
  · rw [if_neg hi]; simp [hi]
theorem sp_fit_star {t : Nat → Int32} {e : Nat} {P : Nat → Int32} {n k : Nat} (hk : k < e) (hs : t k = 42) : ∀ d i, n - i = d → i ≤ n → (sp_fit t e P n k i = true ↔ ∃ j, i ≤ j ∧ j ≤ n ∧ sp_fit t e P n (k + 1) j = true) := by
  intro d
  induction d with
  | zero =>
    intro i hd hi
    rw [sp_fit_s1 hk hs]
    constructor
    · rintro (h | ⟨h, -⟩)
      · exact ⟨i, Nat.le_refl _, hi, h⟩
      · omega
    · rintro ⟨j, h1, h2, h3⟩
      have : j = i := by omega
      subst this
      exact Or.inl h3
  | succ d ih =>
    intro i hd hi
    rw [sp_fit_s1 hk hs, ih (i + 1) (by omega) (by omega)]
    constructor
    · rintro (h | ⟨h, j, h1, h2, h3⟩)
      · exact ⟨i, Nat.le_refl _, hi, h⟩
      · exact ⟨j, by omega, h2, h3⟩
    · rintro ⟨j, h1, h2, h3⟩
      by_cases hj : j = i
      · subst hj
        exact Or.inl h3
      · exact Or.inr ⟨by omega, j, by omega, h2, h3⟩
/-- some number of bytes that the row has leads on from k -/
def sp_ex (t : Nat → Int32) (e : Nat) (P : Nat → Int32) (n k : Nat) (row : Nat → Bool) : Prop := ∃ j, j ≤ n ∧ row j = true ∧ sp_fit t e P n k j = true
theorem sp_ex_end {t : Nat → Int32} {e : Nat} {P : Nat → Int32} {n k : Nat} {row : Nat → Bool} (hk : ¬ k < e) : sp_ex t e P n k row ↔ row n = true := by
  constructor
  · rintro ⟨j, h1, h2, h3⟩
    rw [sp_fit_end hk, decide_eq_true_eq] at h3
    rw [← h3]; exact h2
  · intro h
    exact ⟨n, Nat.le_refl _, h, by rw [sp_fit_end hk, decide_eq_true_eq]⟩
theorem sp_ex_void {t : Nat → Int32} {e : Nat} {P : Nat → Int32} {n k : Nat} {row : Nat → Bool} (hk : k < e) (he : ¬ sp_end t e k ≤ e) : ¬ sp_ex t e P n k row := by
  rintro ⟨j, -, -, h3⟩
  rw [sp_fit_void hk he] at h3
  cases h3
theorem sp_ex_star {t : Nat → Int32} {e : Nat} {P : Nat → Int32} {n k : Nat} {row row' : Nat → Bool} (hk : k < e) (hs : t k = 42) (hr : ∀ j, j ≤ n → (row' j = true ↔ ∃ i, i ≤ j ∧ row i = true)) : sp_ex t e P n k row ↔ sp_ex t e P n (k + 1) row' := by
  constructor
  · rintro ⟨i, h1, h2, h3⟩
    obtain ⟨j, j1, j2, j3⟩ := (sp_fit_star hk hs (n - i) i rfl h1).mp h3
    exact ⟨j, j2, (hr j j2).mpr ⟨i, j1, h2⟩, j3⟩
  · rintro ⟨j, h1, h2, h3⟩
    obtain ⟨i, i1, i2⟩ := (hr j h1).mp h2
    exact ⟨i, by omega, i2, (sp_fit_star hk hs (n - i) i rfl (by omega)).mpr ⟨j, i1, h1, h3⟩⟩
theorem sp_ex_one {t : Nat → Int32} {e : Nat} {P : Nat → Int32} {n k : Nat} {row row' : Nat → Bool} (hk : k < e) (he : sp_end t e k ≤ e) (hs : ¬ t k = 42) (h0 : row' 0 = false) (hr : ∀ j, j < n → (row' (j + 1) = true ↔ row j = true ∧ sp_take t e k (P j) = true)) : sp_ex t e P n k row ↔ sp_ex t e P n (sp_end t e k) row' := by
  constructor
  · rintro ⟨i, h1, h2, h3⟩
    obtain ⟨i1, i2, i3⟩ := (sp_fit_one hk he hs).mp h3
    exact ⟨i + 1, i1, (hr i i1).mpr ⟨h2, i2⟩, i3⟩
  · rintro ⟨j, h1, h2, h3⟩
    cases j with
    | zero => rw [h0] at h2; cases h2
    | succ j =>
      obtain ⟨r1, r2⟩ := (hr j h1).mp h2
      exact ⟨j, by omega, r1, (sp_fit_one hk he hs).mpr ⟨h1, r2, h3⟩⟩
theorem sp_ex_no {t : Nat → Int32} {e : Nat} {P : Nat → Int32} {n k : Nat} {row : Nat → Bool} (hr : ∀ j, j ≤ n → row j = false) : ¬ sp_ex t e P n k row := by
  rintro ⟨j, h1, h2, -⟩
  rw [hr j h1] at h2
  cases h2
/-- some place that is reached leads on, with the bytes from i on -/
def sp_rx (t : Nat → Int32) (e : Nat) (P : Nat → Int32) (n i b : Nat) (S : Nat → Bool) : Prop := ∃ k, b ≤ k ∧ k ≤ e ∧ S k = true ∧ sp_fit t e P n k i = true
/-- each star that is reached has the place behind it reached, too -/
def sp_cld (t : Nat → Int32) (e b : Nat) (S : Nat → Bool) : Prop := ∀ k, b ≤ k → k < e → S k = true → t k = 42 → S (k + 1) = true
theorem sp_rx_end {t : Nat → Int32} {e : Nat} {P : Nat → Int32} {n b : Nat} {S : Nat → Bool} (hb : b ≤ e) (hc : sp_cld t e b S) : sp_rx t e P n n b S ↔ S e = true := by
  constructor
  · rintro ⟨k, h1, h2, h3, h4⟩
    have key : ∀ d k, e - k = d → b ≤ k → k ≤ e → S k = true → sp_fit t e P n k n = true → S e = true := by
      intro d
      induction d with
      | zero => intro k hd hb hk hS _; have : k = e := by omega
                rw [← this]; exact hS
      | succ d ih =>
        intro k hd hb hk hS hf
        have hke : k < e := by omega
        by_cases hs : t k = 42
        · rw [sp_fit_s1 hke hs] at hf
          rcases hf with hf | ⟨hf, -⟩
          · exact ih (k + 1) (by omega) (by omega) (by omega) (hc k hb hke hS hs) hf
          · omega
        · by_cases he : sp_end t e k ≤ e
          · rw [sp_fit_one hke he hs] at hf
            omega
          · rw [sp_fit_void hke he] at hf
            cases hf
    exact key (e - k) k rfl h1 h2 h3 h4
  · intro h
    exact ⟨e, hb, Nat.le_refl _, h, by rw [sp_fit_end (Nat.lt_irrefl _), decide_eq_true_eq]⟩
/-- a byte is taken: where one comes from there -/
theorem sp_rx_step {t : Nat → Int32} {e : Nat} {P : Nat → Int32} {n i b : Nat} {S F : Nat → Bool} (hi : i < n) (hc : sp_cld t e b S) (hv : ∀ k, b ≤ k → k < e → S k = true → sp_end t e k ≤ e)
    (hF : ∀ q, b ≤ q → q ≤ e → (F q = true ↔ ∃ k, b ≤ k ∧ k < e ∧ S k = true ∧ (t k = 42 ∨ sp_take t e k (P i) = true) ∧ q = (if t k = 42 then k else sp_end t e k))) : sp_rx t e P n i b S ↔ sp_rx t e P n (i + 1) b F := by
  constructor
  · rintro ⟨k, h1, h2, h3, h4⟩
    have key : ∀ d k, e - k = d → b ≤ k → k ≤ e → S k = true → sp_fit t e P n k i = true → sp_rx t e P n (i + 1) b F := by
      intro d
      induction d with
      | zero =>
        intro k hd hb hk hS hf
        rw [sp_fit_end (by omega), decide_eq_true_eq] at hf
        omega
      | succ d ih =>
        intro k hd hb hk hS hf
        have hke : k < e := by omega
        by_cases hs : t k = 42
        · rw [sp_fit_s1 hke hs] at hf
          rcases hf with hf | ⟨-, hf⟩
          · exact ih (k + 1) (by omega) (by omega) (by omega) (hc k hb hke hS hs) hf
          · exact ⟨k, hb, hk, (hF k hb hk).mpr ⟨k, hb, hke, hS, Or.inl hs, by rw [if_pos hs]⟩, hf⟩
        · have he := hv k hb hke hS
          have hg := sp_end_gt (t := t) hke
          rw [sp_fit_one hke he hs] at hf
          exact ⟨sp_end t e k, by omega, he, (hF _ (by omega) he).mpr ⟨k, hb, hke, hS, Or.inr hf.2.1, by rw [if_neg hs]⟩, hf.2.2⟩
    exact key (e - k) k rfl h1 h2 h3 h4
  · rintro ⟨q, h1, h2, h3, h4⟩
    obtain ⟨k, k1, k2, k3, k4, k5⟩ := (hF q h1 h2).mp h3
    refine ⟨k, k1, Nat.le_of_lt k2, k3, ?_⟩
    by_cases hs : t k = 42
    · rw [if_pos hs] at k5
      rw [sp_fit_s1 k2 hs]
      exact Or.inr ⟨hi, by rw [← k5]; exact h4⟩
    · rw [if_neg hs] at k5
      rw [sp_fit_one k2 (hv k k1 k2 k3) hs]
      exact ⟨hi, k4.resolve_left hs, by rw [← k5]; exact h4⟩
/-- stars are passed: nothing is won or lost -/
theorem sp_rx_pass {t : Nat → Int32} {e : Nat} {P : Nat → Int32} {n i b q : Nat} {S : Nat → Bool} (hq : b ≤ q) (hqe : q < e) (hS : S q = true) (hs : t q = 42) : sp_rx t e P n i b (updB S (q + 1) true) ↔ sp_rx t e P n i b S := by
  constructor
  · rintro ⟨k, h1, h2, h3, h4⟩
    by_cases hk : k = q + 1
    · subst hk
      exact ⟨q, hq, by omega, hS, by rw [sp_fit_s1 hqe hs]; exact Or.inl h4⟩
    · rw [updB_n hk] at h3
      exact ⟨k, h1, h2, h3, h4⟩
  · rintro ⟨k, h1, h2, h3, h4⟩
    refine ⟨k, h1, h2, ?_, h4⟩
    by_cases hk : k = q + 1
    · rw [hk]; exact updB_s
    · rw [updB_n hk]; exact h3
