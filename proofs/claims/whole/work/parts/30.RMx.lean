/-- the names of [s, e): c of them, where they begin, where they end -/
def sp_parts (t : Nat → Int32) (s e c : Nat) (wF wT : Nat → Nat) : Prop := c = 1 + sp_cnt t e s ∧ wF 0 = s ∧ (∀ p, p < c → wF p ≤ e ∧ wT p = sp_eon t e (wF p)) ∧ (∀ p, p + 1 < c → wF (p + 1) = wT p + 1 ∧ wT p < e) ∧ wT (c - 1) = e ∧ c ≤ 1001
/-- whether the name [f, a) fits name j of the reference's path -/
def sp_rn (t tP : Nat → Int32) (yF yT : Nat → Nat) (f a j : Nat) : Bool := decide (f < a) && sp_fit t a (fun i => tP (yF j + i)) (yT j - yF j) f 0
theorem sp_void_nx {t : Nat → Int32} {e k : Nat} (hk : k < e) (h : sp_void t e k = false) : sp_end t e k ≤ e ∧ sp_void t e (sp_end t e k) = false := by
  rw [sp_void, dif_pos hk] at h
  by_cases he : sp_end t e k ≤ e
  · rw [if_pos he] at h
    exact ⟨he, h⟩
  · rw [if_neg he] at h
    cases h
theorem sp_fit_vd {t : Nat → Int32} {e : Nat} {P : Nat → Int32} {n : Nat} : ∀ d k, e - k ≤ d → sp_void t e k = true → ∀ m i, n - i ≤ m → sp_fit t e P n k i = false := by
  intro d
  induction d with
  | zero =>
    intro k hd hv
    rw [sp_void, dif_neg (by omega)] at hv
    cases hv
  | succ d ih =>
    intro k hd hv m
    by_cases hk : k < e
    · have hg := sp_end_gt (t := t) hk
      by_cases he : sp_end t e k ≤ e
      · have hv2 : sp_void t e (sp_end t e k) = true := by
          rw [sp_void, dif_pos hk, if_pos he] at hv
          exact hv
        by_cases hs : t k = 42
        · rw [sp_end_star hs] at hv2 hg
          induction m with
          | zero =>
            intro i hi
            refine Bool.eq_false_iff.mpr fun q => ?_
            rcases (sp_fit_s1 hk hs).mp q with q | ⟨q, -⟩
            · rw [ih (k + 1) (by omega) hv2 0 i hi] at q; cases q
            · omega
          | succ m ihm =>
            intro i hi
            refine Bool.eq_false_iff.mpr fun q => ?_
            rcases (sp_fit_s1 hk hs).mp q with q | ⟨q1, q⟩
            · rw [ih (k + 1) (by omega) hv2 (m + 1) i hi] at q; cases q
            · rw [ihm (i + 1) (by omega)] at q; cases q
        · intro i hi
          refine Bool.eq_false_iff.mpr fun q => ?_
          obtain ⟨-, -, q⟩ := (sp_fit_one hk he hs).mp q
          rw [ih _ (by omega) hv2 n (i + 1) (by omega)] at q
          cases q
      · intro i hi
        exact sp_fit_void hk he
    · rw [sp_void, dif_neg hk] at hv
      cases hv
/-- the reference's answer of a rule against the first n names -/
def sp_rg (t tP : Nat → Int32) (yF yT : Nat → Nat) (s e bits n : Nat) (d : Bool) : Bool :=
  if bits &&& 8 = 8 ∨ (bits &&& 2 = 2 ∧ d = false) then false
  else if bits &&& 4 = 4 then sp_H t e n (sp_rn t tP yF yT) s 0 else sp_rn t tP yF yT s e (n - 1)
