/-! a line, the lines of a tape, a path -/
def sp_a1 (t : Nat → Int32) (b : Nat) : Nat := if t b = 33 then b + 1 else b
def sp_dir (t : Nat → Int32) (b e : Nat) : Bool := decide (sp_a1 t b < e ∧ t (e - 1) = 47) && !sp_esc t (sp_a1 t b) (e - 1)
def sp_e1 (t : Nat → Int32) (b e : Nat) : Nat := if sp_dir t b e = true then e - 1 else e
def sp_bnd (t : Nat → Int32) (b e : Nat) : Bool := decide (sp_eon t (sp_e1 t b e) (sp_a1 t b) < sp_e1 t b e)
def sp_fr (t : Nat → Int32) (b e : Nat) : Nat := if sp_bnd t b e = true ∧ t (sp_a1 t b) = 47 then sp_a1 t b + 1 else sp_a1 t b
def sp_bits (t : Nat → Int32) (b e : Nat) : Nat := (if t b = 33 then 1 else 0) + (if sp_dir t b e = true then 2 else 0) + (if sp_bnd t b e = true then 4 else 0) + (if sp_hv t (sp_e1 t b e) (sp_fr t b e) = true then 8 else 0)
abbrev sp_R : Type := Nat × Nat × Nat × Nat
def sp_one (t : Nat → Int32) (b k no : Nat) : List sp_R := if sp_strip t b k = b ∨ t b = 35 then [] else [(sp_fr t b (sp_strip t b k), sp_e1 t b (sp_strip t b k), sp_bits t b (sp_strip t b k), no)]
/-- behind the first k bytes: where the line begins, its number, the rules so far -/
def sp_ld (t : Nat → Int32) (n : Nat) : Nat → Nat × Nat × List sp_R
  | 0 => (0, 0, [])
  | k + 1 => if k = n ∨ t k = 10 then (k + 1, (sp_ld t n k).2.1 + 1, (sp_ld t n k).2.2 ++ sp_one t (sp_ld t n k).1 k (sp_ld t n k).2.1) else sp_ld t n k
def sp_rules (t : Nat → Int32) (n : Nat) : List sp_R := (sp_ld t n (n + 1)).2.2
def sp_hold (xF xT xB xL : Nat → Nat) (l : List sp_R) : Prop := ∀ (i : Nat) (x : sp_R), l[i]? = some x → xF i = x.1 ∧ xT i = x.2.1 ∧ xB i = x.2.2.1 ∧ xL i = x.2.2.2
theorem sp_hold_0 {xF xT xB xL : Nat → Nat} : sp_hold xF xT xB xL [] := fun i x h => by simp at h
theorem sp_hold_add {xF xT xB xL : Nat → Nat} {l : List sp_R} {x : sp_R} {n : Nat} (hn : l.length = n) (h : sp_hold xF xT xB xL l) : sp_hold (updN xF n x.1) (updN xT n x.2.1) (updN xB n x.2.2.1) (updN xL n x.2.2.2) (l ++ [x]) := by
  intro i y hy
  by_cases hi : i < l.length
  · rw [List.getElem?_append_left hi] at hy
    rw [updN_n (by omega), updN_n (by omega), updN_n (by omega), updN_n (by omega)]
    exact h i y hy
  · rw [List.getElem?_append_right (by omega)] at hy
    have hz : i - l.length < 1 := (List.getElem?_eq_some_iff.mp hy).1
    have hin : i = n := by omega
    rw [show i - l.length = 0 by omega] at hy
    cases hy
    subst hin
    exact ⟨updN_s, updN_s, updN_s, updN_s⟩
theorem sp_ld_at {t : Nat → Int32} {n k : Nat} (h : k = n ∨ t k = 10) : sp_ld t n (k + 1) = (k + 1, (sp_ld t n k).2.1 + 1, (sp_ld t n k).2.2 ++ sp_one t (sp_ld t n k).1 k (sp_ld t n k).2.1) := by rw [sp_ld, if_pos h]
theorem sp_ld_no {t : Nat → Int32} {n k : Nat} (h : ¬ (k = n ∨ t k = 10)) : sp_ld t n (k + 1) = sp_ld t n k := by rw [sp_ld, if_neg h]
theorem sp_ld_b (t : Nat → Int32) (n : Nat) : ∀ k, (sp_ld t n k).1 ≤ k ∧ (sp_ld t n k).2.1 ≤ k
  | 0 => ⟨Nat.le_refl _, Nat.le_refl _⟩
  | k + 1 => by
    have := sp_ld_b t n k
    by_cases h : k = n ∨ t k = 10
    · rw [sp_ld_at h]
      exact ⟨Nat.le_refl _, Nat.succ_le_succ this.2⟩
    · rw [sp_ld_no h]
      exact ⟨Nat.le_succ_of_le this.1, Nat.le_succ_of_le this.2⟩
theorem sp_ld_mono {t : Nat → Int32} {n : Nat} : ∀ d k, (sp_ld t n k).2.2.length ≤ (sp_ld t n (k + d)).2.2.length
  | 0, k => Nat.le_refl _
  | d + 1, k => by
    refine Nat.le_trans (sp_ld_mono d k) ?_
    rw [show k + (d + 1) = k + d + 1 by omega]
    by_cases h : k + d = n ∨ t (k + d) = 10
    · rw [sp_ld_at h]
      simp
    · rw [sp_ld_no h]
      exact Nat.le_refl _
theorem sp_a1_le {t : Nat → Int32} {b e : Nat} (h : b < e) : b ≤ sp_a1 t b ∧ sp_a1 t b ≤ e := by rw [sp_a1]; split <;> omega
theorem sp_e1_le {t : Nat → Int32} {b e : Nat} (h : b < e) : sp_a1 t b ≤ sp_e1 t b e ∧ sp_e1 t b e ≤ e := by
  have := sp_a1_le (t := t) h
  rw [sp_e1]
  split
  · rename_i hd
    rw [sp_dir, Bool.and_eq_true, decide_eq_true_eq] at hd
    omega
  · omega
theorem sp_fr_le {t : Nat → Int32} {b e : Nat} (h : b < e) : sp_fr t b e ≤ sp_e1 t b e := by
  have := sp_e1_le (t := t) h
  have h2 := sp_eon_ge t (sp_e1 t b e) (sp_a1 t b)
  rw [sp_fr]
  split
  · rename_i hc
    rw [sp_bnd, decide_eq_true_eq] at hc
    omega
  · omega
/-- a path's bytes from k on, len bytes of a name gone -/
def sp_pk (t : Nat → Int32) (n k len : Nat) : Bool :=
  if h : k < n then (if t k = 10 ∨ (t k = 47 ∧ len = 0) then false else sp_pk t n (k + 1) (if t k = 47 then 0 else len + 1)) else decide (0 < len)
termination_by n - k
decreasing_by omega
def sp_pok (t : Nat → Int32) (n : Nat) : Bool := decide (1 ≤ n ∧ n ≤ 120) && (sp_pk t n 0 0 && decide (1 + sp_cnt t n 0 ≤ 20))
/-- a rule against the first n names of a path -/
def sp_rf (t : Nat → Int32) (s e bits : Nat) (pB : Nat → Int32) (pS : Nat → Nat) (n : Nat) (d : Bool) : Bool :=
  if bits &&& 8 = 8 ∨ (bits &&& 2 = 2 ∧ d = false) then false
  else if bits &&& 4 = 4 then sp_H t e n (fun k q j => sp_nf t pB pS k q j) s 0 else sp_nf t pB pS s e (n - 1)
theorem sp_bit8 : ∀ b, b < 16 → (b &&& 8 = 0 ∨ b &&& 8 = 8) := by decide
theorem sp_bit4 : ∀ b, b < 16 → (b &&& 4 = 0 ∨ b &&& 4 = 4) := by decide
theorem sp_bit2 : ∀ b, b < 16 → (b &&& 2 = 0 ∨ b &&& 2 = 2) := by decide
theorem sp_bit1 : ∀ b, b < 16 → (b &&& 1 = 0 ∨ b &&& 1 = 1) := by decide
/-- the names of a path of n bytes: where they begin; its bytes -/
def sp_path (t : Nat → Int32) (n c : Nat) (pS : Nat → Nat) (pB : Nat → Int32) : Prop := pS 0 = 0 ∧ (∀ j, j < c → pS j < sp_eon t n (pS j) ∧ pS (j + 1) = sp_eon t n (pS j) + 1) ∧ pS c = n + 1 ∧ 1 ≤ c ∧ c ≤ 20 ∧ n ≤ 120 ∧ ∀ k, k < n → ¬ t k = 47 → pB k = t k
theorem sp_or2 : ∀ x, x < 2 → x ||| 2 = x + 2 := by decide
theorem sp_or4 : ∀ x, x < 4 → x ||| 4 = x + 4 := by decide
theorem sp_or8 : ∀ x, x < 8 → x ||| 8 = x + 8 := by decide
