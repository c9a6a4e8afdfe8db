def r_RL_isEscaped (tT : Nat → Int32) (f : Nat) (a : Nat) : Prop := f ≤ a ∧ a ≤ 1000
def p_RL_isEscaped (tT : Nat → Int32) (f : Nat) (a : Nat) (r : Bool) : Prop := r = (sp_esc tT f a)
def v_RL_isEscaped_26 (tT : Nat → Int32) (f : Nat) (a : Nat) (K2 : Nat → Prop) (Q : Bool → Prop) (b : Nat) : Prop := (b ≤ a) ∧ ((a - b < 2 ^ 31) ∧ (((a - b) % 2 < 2147483648) ∧ ((¬ (a - b) % 2 = 1 → Q false) ∧ ((a - b) % 2 = 1 → Q true))))
def v_RL_isEscaped_2 (tT : Nat → Int32) (f : Nat) (a : Nat) (K2 : Nat → Prop) (Q : Bool → Prop) (b : Nat) : Prop := (b < 2147483648) ∧ ((f < 2147483648) ∧ ((b ≤ f → v_RL_isEscaped_26 tT f a K2 Q b) ∧ (¬ b ≤ f → (1 ≤ b) ∧ ((b - 1 < 1000) ∧ ((¬ (tT (b - 1)) = 92 → v_RL_isEscaped_26 tT f a K2 Q b) ∧ ((tT (b - 1)) = 92 → (1 ≤ b) ∧ (K2 (b - 1))))))))
def v_RL_isEscaped (tT : Nat → Int32) (f : Nat) (a : Nat) (K2 : Nat → Prop) (Q : Bool → Prop) : Prop := K2 a
theorem t_RL_isEscaped (tT : Nat → Int32) (f : Nat) (a : Nat) (hr : r_RL_isEscaped tT f a) (K2 : Nat → Prop) (k2 : ∀ b, v_RL_isEscaped_2 tT f a K2 (p_RL_isEscaped tT f a) b → K2 b) : v_RL_isEscaped tT f a K2 (p_RL_isEscaped tT f a) := by
  obtain ⟨h1, h2⟩ := hr
  have key : ∀ b, f ≤ b → b ≤ a → (∀ j, b ≤ j → j < a → tT j = 92) → K2 b := by
    intro b
    induction b with
    | zero =>
      intro hb ha hin
      refine k2 0 ?_
      unfold v_RL_isEscaped_2
      refine ⟨by omega, by omega, fun _ => ?_, fun h => absurd (Nat.zero_le _) h⟩
      unfold v_RL_isEscaped_26
      have e := sp_run_at (t := tT) (b := f) (k := a) (q := 0) hb ha hin (Or.inl (Nat.zero_le _))
      refine ⟨by omega, by omega, by omega, fun h => ?_, fun h => ?_⟩ <;> simp [p_RL_isEscaped, sp_esc, e] <;> omega
    | succ b ih =>
      intro hb ha hin
      have out : (b + 1 ≤ f ∨ ¬ tT (b + 1 - 1) = 92) → v_RL_isEscaped_26 tT f a K2 (p_RL_isEscaped tT f a) (b + 1) := by
        intro hq
        unfold v_RL_isEscaped_26
        have e := sp_run_at (t := tT) (b := f) (k := a) (q := b + 1) hb ha hin hq
        refine ⟨by omega, by omega, by omega, fun h => ?_, fun h => ?_⟩ <;> simp [p_RL_isEscaped, sp_esc, e] <;> omega
      refine k2 (b + 1) ?_
      unfold v_RL_isEscaped_2
      refine ⟨by omega, by omega, fun h => out (Or.inl h), fun h => ⟨by omega, by omega, fun hn => out (Or.inr hn), fun ht => ⟨by omega, ?_⟩⟩⟩
      refine ih (by omega) (by omega) (fun j j1 j2 => ?_)
      by_cases hj : j = b
      · rw [hj]; exact ht
      · exact hin j (by omega) j2
  exact key a h1 (Nat.le_refl _) (fun j j1 j2 => absurd j2 (by omega))

def r_RL_withoutBlanks (tT : Nat → Int32) (f : Nat) (a : Nat) : Prop := f ≤ a ∧ a ≤ 1000
def p_RL_withoutBlanks (tT : Nat → Int32) (f : Nat) (a : Nat) (r : Nat) : Prop := r = (sp_strip tT f a)
def v_RL_withoutBlanks_2 (tT : Nat → Int32) (f : Nat) (a : Nat) (K2 : Nat → Prop) (Q : Nat → Prop) (b : Nat) : Prop := (b < 2147483648) ∧ ((f < 2147483648) ∧ ((b ≤ f → Q b) ∧ (¬ b ≤ f → (1 ≤ b) ∧ ((b - 1 < 1000) ∧ ((¬ (tT (b - 1)) = 32 → Q b) ∧ ((tT (b - 1)) = 32 → (1 ≤ b) ∧ ((r_RL_isEscaped tT f (b - 1)) ∧ ((sp_esc tT f (b - 1) = true → Q b) ∧ (sp_esc tT f (b - 1) = false → (1 ≤ b) ∧ (K2 (b - 1)))))))))))
def v_RL_withoutBlanks (tT : Nat → Int32) (f : Nat) (a : Nat) (K2 : Nat → Prop) (Q : Nat → Prop) : Prop := K2 a
theorem t_RL_withoutBlanks (tT : Nat → Int32) (f : Nat) (a : Nat) (hr : r_RL_withoutBlanks tT f a) (K2 : Nat → Prop) (k2 : ∀ b, v_RL_withoutBlanks_2 tT f a K2 (p_RL_withoutBlanks tT f a) b → K2 b) : v_RL_withoutBlanks tT f a K2 (p_RL_withoutBlanks tT f a) := by
  obtain ⟨h1, h2⟩ := hr
  have key : ∀ b, f ≤ b → b ≤ a → sp_strip tT f b = sp_strip tT f a → K2 b := by
    intro b
    induction b with
    | zero =>
      intro hb ha he
      refine k2 0 ?_
      unfold v_RL_withoutBlanks_2
      refine ⟨by omega, by omega, fun _ => ?_, fun h => absurd (Nat.zero_le _) h⟩
      simp [p_RL_withoutBlanks, ← he, sp_strip]
    | succ b ih =>
      intro hb ha he
      have stop : ¬ (f ≤ b ∧ tT b = 32 ∧ sp_esc tT f b = false) → p_RL_withoutBlanks tT f a (b + 1) := by
        intro hn
        rw [p_RL_withoutBlanks, ← he, sp_strip, if_neg hn]
      refine k2 (b + 1) ?_
      unfold v_RL_withoutBlanks_2
      simp only [Nat.add_sub_cancel]
      refine ⟨by omega, by omega, fun h => stop (by omega), fun h => ⟨by omega, by omega, fun hn => stop (fun q => hn q.2.1), fun ht => ⟨by omega, ⟨by omega, by omega⟩, fun h3 => stop (fun q => by rw [h3] at q; cases q.2.2), fun h3 => ⟨by omega, ?_⟩⟩⟩⟩
      refine ih (by omega) (by omega) ?_
      rw [← he, sp_strip, if_pos ⟨by omega, ht, h3⟩]
  exact key a h1 (Nat.le_refl _) rfl

def r_RL_endOfName (tT : Nat → Int32) (f : Nat) (a : Nat) : Prop := f ≤ a ∧ a ≤ 1000
def p_RL_endOfName (tT : Nat → Int32) (f : Nat) (a : Nat) (r : Nat) : Prop := r = (sp_eon tT a f)
def v_RL_endOfName_2 (tT : Nat → Int32) (f : Nat) (a : Nat) (K2 : Nat → Prop) (Q : Nat → Prop) (b : Nat) : Prop := (b < 2147483648) ∧ ((a < 2147483648) ∧ ((a ≤ b → Q a) ∧ (¬ a ≤ b → (b < 1000) ∧ ((¬ (tT b) = 47 → K2 (b + 1)) ∧ ((tT b) = 47 → Q b)))))
def v_RL_endOfName (tT : Nat → Int32) (f : Nat) (a : Nat) (K2 : Nat → Prop) (Q : Nat → Prop) : Prop := K2 f
theorem t_RL_endOfName (tT : Nat → Int32) (f : Nat) (a : Nat) (hr : r_RL_endOfName tT f a) (K2 : Nat → Prop) (k2 : ∀ b, v_RL_endOfName_2 tT f a K2 (p_RL_endOfName tT f a) b → K2 b) : v_RL_endOfName tT f a K2 (p_RL_endOfName tT f a) := by
  obtain ⟨h1, h2⟩ := hr
  have key : ∀ d b, a - b = d → f ≤ b → b ≤ a → sp_eon tT a b = sp_eon tT a f → K2 b := by
    intro d
    induction d with
    | zero =>
      intro b hd hb ha he
      refine k2 b ?_
      unfold v_RL_endOfName_2
      refine ⟨by omega, by omega, fun _ => ?_, fun h => by omega⟩
      rw [p_RL_endOfName, ← he, sp_eon, if_neg (by omega)]
      omega
    | succ d ih =>
      intro b hd hb ha he
      refine k2 b ?_
      unfold v_RL_endOfName_2
      refine ⟨by omega, by omega, fun h => by omega, fun h => ⟨by omega, fun hn => ?_, fun ht => ?_⟩⟩
      · refine ih (b + 1) (by omega) (by omega) (by omega) ?_
        rw [← he, sp_eon.eq_1 tT a b, if_pos (by omega), if_neg hn]
      · rw [p_RL_endOfName, ← he, sp_eon, if_pos (by omega), if_pos ht]
  exact key (a - f) f rfl (Nat.le_refl _) h1 rfl

