/-- the names of [s, e): c of them, where they begin, where they end -/
def sp_parts (t : Nat → Int32) (s e c : Nat) (wF wT : Nat → Nat) : Prop := c = 1 + sp_cnt t e s ∧ wF 0 = s ∧ (∀ p, p < c → wF p ≤ e ∧ wT p = sp_eon t e (wF p)) ∧ (∀ p, p + 1 < c → wF (p + 1) = wT p + 1 ∧ wT p < e) ∧ wT (c - 1) = e ∧ c ≤ 1001
