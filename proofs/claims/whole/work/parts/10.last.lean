/-! the last rule that fits, whether it leaves out, the first directory that is left out -/
def sp_lastf (G : Nat → Bool) : Nat → Int32
  | 0 => -1
  | k + 1 => if G k = true then nI k else sp_lastf G k
def sp_lfit (t : Nat → Int32) (xF xT xB : Nat → Nat) (pB : Nat → Int32) (pS : Nat → Nat) (c n : Nat) (d : Bool) : Int32 := sp_lastf (fun k => sp_rf t (xF k) (xT k) (xB k) pB pS n d) c
def sp_lo (xB : Nat → Nat) (x : Int32) : Bool := if x = -1 then false else decide (xB x.toNatClampNeg &&& 1 = 0)
def sp_dd (O : Nat → Bool) (c n : Nat) : Nat := if h : n < c then (if O n = true then n else sp_dd O c (n + 1)) else c
termination_by c - n
decreasing_by omega
def sp_rok (t : Nat → Int32) (xF xT xB : Nat → Nat) (c : Nat) : Prop := c ≤ 60 ∧ ∀ i, i < c → xF i ≤ xT i ∧ xT i ≤ 1000 ∧ xB i < 16 ∧ (xB i &&& 4 = 0 → sp_eon t (xT i) (xF i) = xT i)
def sp_pth (pS : Nat → Nat) (c : Nat) : Prop := c ≤ 20 ∧ (∀ j, j < c → pS j + 1 ≤ pS (j + 1)) ∧ pS c ≤ 121
theorem sp_pth_n {pS : Nat → Nat} {c n : Nat} (h : sp_pth pS c) (hn : n ≤ c) : pS n ≤ 121 := by
  obtain ⟨h1, h2, h3⟩ := h
  have : ∀ d n, c - n = d → n ≤ c → pS n ≤ 121 := by
    intro d
    induction d with
    | zero => intro n hd hn; rw [show n = c by omega]; exact h3
    | succ d ih =>
      intro n hd hn
      have g1 := ih (n + 1) (by omega) (by omega)
      have g2 := h2 n (by omega)
      omega
  exact this _ n rfl hn
theorem sp_lastf_in (G : Nat → Bool) : ∀ c, sp_lastf G c = -1 ∨ ∃ k, k < c ∧ sp_lastf G c = nI k
  | 0 => Or.inl rfl
  | c + 1 => by
    rw [sp_lastf]
    split
    · exact Or.inr ⟨c, Nat.lt_succ_self c, rfl⟩
    · rcases sp_lastf_in G c with h | ⟨k, h1, h2⟩
      · exact Or.inl h
      · exact Or.inr ⟨k, Nat.lt_succ_of_lt h1, h2⟩
theorem ig_m1 {k : Nat} (h : k < 2147483648) : ¬ nI k = (-1 : Int32) := fun q => ig_neg h (by rw [q]; exact Int32.le_refl _)
