def sp_cn (f : Nat → Bool) : Nat → Nat
  | 0 => 0
  | n + 1 => sp_cn f n + (cond (f n) 1 0)
theorem sp_cn_le (f : Nat → Bool) : ∀ n, sp_cn f n ≤ n := by
  intro n
  induction n with
  | zero => exact Nat.le_refl 0
  | succ n ih => rw [sp_cn]; cases f n <;> simp only [cond] <;> omega
