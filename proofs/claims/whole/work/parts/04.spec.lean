/-! What both sides compute, over a text t (a place k holds t k) -/
/-- how many \ stand right before k, none before b counted -/
def sp_run (t : Nat → Int32) (b : Nat) : Nat → Nat
  | 0 => 0
  | k + 1 => if b ≤ k ∧ t k = 92 then sp_run t b k + 1 else 0
def sp_esc (t : Nat → Int32) (b k : Nat) : Bool := sp_run t b k % 2 == 1
theorem sp_run_le (t : Nat → Int32) (b : Nat) : ∀ k, sp_run t b k ≤ k
  | 0 => Nat.le_refl _
  | k + 1 => by
    rw [sp_run]
    split
    · exact Nat.succ_le_succ (sp_run_le t b k)
    · exact Nat.zero_le _
theorem sp_run_b {t : Nat → Int32} {b k : Nat} (h : b ≤ k) : b ≤ k - sp_run t b k := by
  induction k with
  | zero => simp [sp_run]; omega
  | succ k ih =>
    rw [sp_run]
    split
    · rename_i hc
      have := ih hc.1
      omega
    · omega
/-- the places that are counted hold \ -/
theorem sp_run_in {t : Nat → Int32} {b k : Nat} : ∀ j, j < k → k - sp_run t b k ≤ j → t j = 92 := by
  induction k with
  | zero => intro j h; omega
  | succ k ih =>
    intro j h1 h2
    rw [sp_run] at h2
    split at h2
    · rename_i hc
      by_cases hj : j = k
      · rw [hj]; exact hc.2
      · exact ih j (by omega) (by omega)
    · omega
/-- and the one before them doesn't -/
theorem sp_run_at {t : Nat → Int32} {b k q : Nat} (h1 : b ≤ q) (h2 : q ≤ k) (hin : ∀ j, q ≤ j → j < k → t j = 92) (hend : q ≤ b ∨ ¬ t (q - 1) = 92) : sp_run t b k = k - q := by
  induction k with
  | zero => simp [sp_run]
  | succ k ih =>
    rw [sp_run]
    by_cases hq : q = k + 1
    · rw [if_neg]
      · omega
      · rintro ⟨hb, ht⟩
        rcases hend with h | h
        · omega
        · apply h
          rw [hq]
          exact ht
    · rw [if_pos ⟨by omega, hin k (by omega) (by omega)⟩, ih (by omega) (fun j a b => hin j a (by omega))]
      omega
def sp_strip (t : Nat → Int32) (b : Nat) : Nat → Nat
  | 0 => 0
  | e + 1 => if b ≤ e ∧ t e = 32 ∧ sp_esc t b e = false then sp_strip t b e else e + 1
theorem sp_strip_le (t : Nat → Int32) (b : Nat) : ∀ e, sp_strip t b e ≤ e
  | 0 => Nat.le_refl _
  | e + 1 => by
    rw [sp_strip]
    split
    · exact Nat.le_succ_of_le (sp_strip_le t b e)
    · exact Nat.le_refl _
theorem sp_strip_ge {t : Nat → Int32} {b : Nat} : ∀ e, b ≤ e → b ≤ sp_strip t b e
  | 0, h => by rw [sp_strip]; exact h
  | e + 1, h => by
    rw [sp_strip]
    split
    · rename_i hc
      exact sp_strip_ge e hc.1
    · exact h
/-- the end of the name that begins at k: the next /, or e -/
def sp_eon (t : Nat → Int32) (e k : Nat) : Nat :=
  if k < e then (if t k = 47 then k else sp_eon t e (k + 1)) else k
termination_by e - k
decreasing_by omega
theorem sp_eon_ge (t : Nat → Int32) (e k : Nat) : k ≤ sp_eon t e k := by
  rw [sp_eon]
  split
  · split
    · exact Nat.le_refl _
    · exact Nat.le_trans (Nat.le_succ k) (sp_eon_ge t e (k + 1))
  · exact Nat.le_refl _
termination_by e - k
decreasing_by omega
theorem sp_eon_le {t : Nat → Int32} {e k : Nat} (h : k ≤ e) : sp_eon t e k ≤ e := by
  rw [sp_eon]
  split
  · split
    · exact h
    · rename_i h1 _
      exact sp_eon_le h1
  · exact h
termination_by e - k
decreasing_by omega
/-- how many / stand in [k, e) -/
def sp_cnt (t : Nat → Int32) (e k : Nat) : Nat :=
  if k < e then (if t k = 47 then 1 else 0) + sp_cnt t e (k + 1) else 0
termination_by e - k
decreasing_by omega
/-- a set's items -/
def sp_tok (t : Nat → Int32) (k : Nat) : Nat := if t k = 92 then k + 2 else k + 1
def sp_byte (t : Nat → Int32) (k : Nat) : Int32 := if t k = 92 then t (k + 1) else t k
def sp_sf (t : Nat → Int32) (e k : Nat) : Nat := if k + 1 < e ∧ (t (k + 1) = 33 ∨ t (k + 1) = 94) then k + 2 else k + 1
def sp_row (t : Nat → Int32) (e k : Nat) : Bool := decide (k + 1 < e ∧ t k = 45 ∧ ¬ t (k + 1) = 93)
def sp_nx (t : Nat → Int32) (e a : Nat) : Nat := if sp_row t e (sp_tok t a) = true then sp_tok t (sp_tok t a + 1) else sp_tok t a
theorem sp_tok_gt (t : Nat → Int32) (k : Nat) : k < sp_tok t k := by rw [sp_tok]; split <;> omega
theorem sp_nx_gt (t : Nat → Int32) (e a : Nat) : a < sp_nx t e a := by
  have h1 := sp_tok_gt t a
  have h2 := sp_tok_gt t (sp_tok t a + 1)
  rw [sp_nx]
  split <;> omega
/-- behind the set's ]; e + 1 if there is none -/
def sp_se (t : Nat → Int32) (e a : Nat) (first : Bool) : Nat :=
  if a < e then (if first = true ∨ ¬ t a = 93 then sp_se t e (sp_nx t e a) false else a + 1) else e + 1
termination_by e - a
decreasing_by
  have := sp_nx_gt t e a
  omega
/-- the same, byte by byte -/
def sp_sb (t : Nat → Int32) (e a : Nat) (first : Bool) : Nat :=
  if a < e then (if first = true ∨ ¬ t a = 93 then sp_sb t e (sp_tok t a) false else a + 1) else e + 1
termination_by e - a
decreasing_by
  have := sp_tok_gt t a
  omega
theorem sp_sb_se (t : Nat → Int32) (e a : Nat) (first : Bool) : sp_sb t e a first = sp_se t e a first := by
  rw [sp_sb, sp_se]
  split
  · split
    · rw [sp_nx]
      split
      · rename_i h1 h2 h3
        simp only [sp_row, decide_eq_true_eq] at h3
        obtain ⟨r1, r2, r3⟩ := h3
        rw [sp_sb, if_pos (by omega : sp_tok t a < e), if_pos (Or.inr (by rw [r2]; decide))]
        have e1 : sp_tok t (sp_tok t a) = sp_tok t a + 1 := by
          rw [sp_tok, if_neg (by rw [r2]; decide)]
        rw [e1, sp_sb, if_pos r1, if_pos (Or.inr r3)]
        have := sp_tok_gt t (sp_tok t a + 1)
        have := sp_tok_gt t a
        exact sp_sb_se t e (sp_tok t (sp_tok t a + 1)) false
      · have := sp_tok_gt t a
        exact sp_sb_se t e (sp_tok t a) false
    · rfl
  · rfl
termination_by e - a
decreasing_by all_goals omega
theorem sp_se_gt {t : Nat → Int32} {e a : Nat} {first : Bool} (h : a ≤ e) : a < sp_se t e a first := by
  rw [sp_se]
  split
  · split
    · have h1 := sp_nx_gt t e a
      by_cases h2 : sp_nx t e a ≤ e
      · exact Nat.lt_trans h1 (sp_se_gt h2)
      · rw [sp_se, if_neg (by omega)]
        omega
    · omega
  · omega
termination_by e - a
decreasing_by omega
/-- whether a set holds c, from its item at a on -/
def sp_hi (t : Nat → Int32) (e a : Nat) : Int32 := if sp_row t e (sp_tok t a) = true then sp_byte t (sp_tok t a + 1) else sp_byte t a
def sp_has (t : Nat → Int32) (e : Nat) (c : Int32) (a : Nat) (first : Bool) : Bool :=
  if a < e then (if first = true ∨ ¬ t a = 93 then (decide (sp_byte t a ≤ c ∧ c ≤ sp_hi t e a) || sp_has t e c (sp_nx t e a) false) else false) else false
termination_by e - a
decreasing_by
  have := sp_nx_gt t e a
  omega
/-- behind the item at k; more than e if the name ends within it -/
def sp_end (t : Nat → Int32) (e k : Nat) : Nat := if t k = 92 then k + 2 else if t k = 91 then sp_se t e (sp_sf t e k) true else k + 1
theorem sp_sf_gt (t : Nat → Int32) (e k : Nat) : k < sp_sf t e k := by rw [sp_sf]; split <;> omega
theorem sp_sf_le {t : Nat → Int32} {e k : Nat} (h : k < e) : sp_sf t e k ≤ e := by rw [sp_sf]; split <;> omega
theorem sp_end_gt {t : Nat → Int32} {e k : Nat} (h : k < e) : k < sp_end t e k := by
  rw [sp_end]
  split
  · omega
  · split
    · exact Nat.lt_trans (sp_sf_gt t e k) (sp_se_gt (sp_sf_le h))
    · omega
/-- whether an item that is no star takes c -/
def sp_take (t : Nat → Int32) (e k : Nat) (c : Int32) : Bool :=
  if t k = 63 then true else if t k = 91 then (sp_has t e c (sp_sf t e k) true != decide (sp_sf t e k = k + 2)) else decide (sp_byte t k = c)
/-- whether the name ends within an item, from k on -/
def sp_void (t : Nat → Int32) (e k : Nat) : Bool :=
  if h : k < e then (if sp_end t e k ≤ e then sp_void t e (sp_end t e k) else true) else false
termination_by e - k
decreasing_by
  have := sp_end_gt (t := t) h
  omega
/-- whether the items from k on take the bytes from i on, to the last -/
def sp_fit (t : Nat → Int32) (e : Nat) (P : Nat → Int32) (n k i : Nat) : Bool :=
  if h : k < e then
    (if sp_end t e k ≤ e then
      (if t k = 42 then (sp_fit t e P n (sp_end t e k) i || (if i < n then sp_fit t e P n k (i + 1) else false))
       else (if i < n then (sp_take t e k (P i) && sp_fit t e P n (sp_end t e k) (i + 1)) else false))
     else false)
  else decide (i = n)
termination_by (e - k, n - i)
decreasing_by
  all_goals simp_wf
  · have := sp_end_gt (t := t) h
    omega
  · omega
  · have := sp_end_gt (t := t) h
    omega
/-- where the item at k has its last byte; -1 if the name ends within it -/
def sp_last (t : Nat → Int32) (e k : Nat) : Int32 := if sp_end t e k ≤ e then nI (sp_end t e k - 1) else -1
/-- whether a name in [k, e) is void -/
def sp_hv (t : Nat → Int32) (e k : Nat) : Bool :=
  (decide (k = sp_eon t e k) || sp_void t (sp_eon t e k) k) || (if h : sp_eon t e k < e then sp_hv t e (sp_eon t e k + 1) else false)
termination_by e - k
decreasing_by
  have := sp_eon_ge t e k
  omega
/-- where the name number n from k on begins -/
def sp_nst (t : Nat → Int32) (e : Nat) : Nat → Nat → Nat
  | 0, k => k
  | n + 1, k => sp_nst t e n (sp_eon t e k + 1)
/-- whether the name [f, a) fits name j of the path -/
def sp_nf (t : Nat → Int32) (pB : Nat → Int32) (pS : Nat → Nat) (f a j : Nat) : Bool := sp_fit t a (fun i => pB (pS j + i)) (pS (j + 1) - 1 - pS j) f 0
/-- the kind of the item at k: 0 a byte, 1 ?, 2 *, 3 a set, 4 the name ends within it -/
def sp_sort (t : Nat → Int32) (e k : Nat) : Nat := if t k = 92 then (if k + 1 < e then 0 else 4) else if t k = 91 then (if sp_end t e k > e then 4 else 3) else if t k = 63 then 1 else if t k = 42 then 2 else 0
