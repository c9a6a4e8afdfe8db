def r_RL_hasVoidName (tT : Nat → Int32) (f : Nat) (a : Nat) : Prop := f ≤ a ∧ a ≤ 1000
def p_RL_hasVoidName (tT : Nat → Int32) (f : Nat) (a : Nat) (r : Bool) : Prop := r = (sp_hv tT a f)
def v_RL_hasVoidName_29 (tT : Nat → Int32) (f : Nat) (a : Nat) (K5 : Nat → Nat → Prop) (Q : Bool → Prop) (g : Nat) (b : Nat) : Prop := (r_IT_areWhole tT g b) ∧ (((decide (g < b) && !sp_void tT b g) = true → K5 (b + 1) (b + 1)) ∧ ((decide (g < b) && !sp_void tT b g) = false → Q true))
def v_RL_hasVoidName_5 (tT : Nat → Int32) (f : Nat) (a : Nat) (K5 : Nat → Nat → Prop) (Q : Bool → Prop) (g : Nat) (b : Nat) : Prop := (b < 2147483648) ∧ ((a < 2147483648) ∧ ((a < b → Q false) ∧ (¬ a < b → (b < 2147483648) ∧ ((a < 2147483648) ∧ ((b = a → v_RL_hasVoidName_29 tT f a K5 Q g b) ∧ (¬ b = a → (b < 1000) ∧ ((¬ (tT b) = 47 → K5 g (b + 1)) ∧ ((tT b) = 47 → v_RL_hasVoidName_29 tT f a K5 Q g b))))))))
def v_RL_hasVoidName (tT : Nat → Int32) (f : Nat) (a : Nat) (K5 : Nat → Nat → Prop) (Q : Bool → Prop) : Prop := K5 f f
theorem t_RL_hasVoidName (tT : Nat → Int32) (f : Nat) (a : Nat) (hr : r_RL_hasVoidName tT f a) (K5 : Nat → Nat → Prop) (k5 : ∀ g b, v_RL_hasVoidName_5 tT f a K5 (p_RL_hasVoidName tT f a) g b → K5 g b) : v_RL_hasVoidName tT f a K5 (p_RL_hasVoidName tT f a) := by
  obtain ⟨h1, h2⟩ := hr
  have key : ∀ d g b, a + 1 - b ≤ d → ((b ≤ a ∧ g ≤ b ∧ sp_eon tT a b = sp_eon tT a g ∧ sp_hv tT a g = sp_hv tT a f) ∨ (b = a + 1 ∧ sp_hv tT a f = false)) → K5 g b := by
    intro d
    induction d with
    | zero =>
      intro g b hd hI
      rcases hI with ⟨q1, -⟩ | ⟨q1, q2⟩
      · omega
      · refine k5 g b ?_
        unfold v_RL_hasVoidName_5
        exact ⟨by omega, by omega, fun _ => q2.symm, fun h => by omega⟩
    | succ d ih =>
      intro g b hd hI
      rcases hI with ⟨q1, q2, q3, q4⟩ | ⟨q1, q2⟩
      · have at' : (b = a ∨ tT b = 47) → v_RL_hasVoidName_29 tT f a K5 (p_RL_hasVoidName tT f a) g b := by
          intro hs
          have e1 : sp_eon tT a g = b := by rw [← q3]; exact sp_eon_at hs
          have e2 : sp_hv tT a f = ((decide (g = b) || sp_void tT b g) || (if h : b < a then sp_hv tT a (b + 1) else false)) := by
            rw [← q4, sp_hv.eq_1 tT a g]
            simp only [e1]
          unfold v_RL_hasVoidName_29
          refine ⟨⟨q2, by omega⟩, fun h => ?_, fun h => ?_⟩
          · simp only [Bool.and_eq_true, decide_eq_true_eq, Bool.not_eq_true'] at h
            rw [h.2, decide_eq_false (by omega), Bool.false_or, Bool.false_or] at e2
            refine ih (b + 1) (b + 1) (by omega) ?_
            by_cases hb : b < a
            · rw [dif_pos hb] at e2
              exact Or.inl ⟨hb, Nat.le_refl _, rfl, e2.symm⟩
            · rw [dif_neg hb] at e2
              exact Or.inr ⟨by omega, e2⟩
          · rw [p_RL_hasVoidName, e2]
            by_cases hgb : g = b
            · rw [decide_eq_true hgb]; simp
            · rw [decide_eq_true (by omega : g < b), Bool.true_and] at h
              have : sp_void tT b g = true := by simpa using h
              rw [this]; simp
        refine k5 g b ?_
        unfold v_RL_hasVoidName_5
        refine ⟨by omega, by omega, fun h => by omega, fun _ => ⟨by omega, by omega, fun h => at' (Or.inl h), fun h => ⟨by omega, fun h47 => ?_, fun h47 => at' (Or.inr h47)⟩⟩⟩
        exact ih g (b + 1) (by omega) (Or.inl ⟨by omega, by omega, by rw [← sp_eon_no (by omega) h47]; exact q3, q4⟩)
      · refine k5 g b ?_
        unfold v_RL_hasVoidName_5
        exact ⟨by omega, by omega, fun _ => q2.symm, fun h => by omega⟩
  exact key (a + 1) f f (by omega) (Or.inl ⟨h1, Nat.le_refl _, rfl, rfl⟩)

def r_RL_countNames (tT : Nat → Int32) (aS : Nat → Nat) (aE : Nat → Nat) (i : Nat) : Prop := i < 60 ∧ aS i ≤ aE i ∧ aE i ≤ 1000
def p_RL_countNames (tT : Nat → Int32) (aS : Nat → Nat) (aE : Nat → Nat) (i : Nat) (r : Nat) : Prop := r = (1 + sp_cnt tT (aE i) (aS i))
def v_RL_countNames_9 (tT : Nat → Int32) (aS : Nat → Nat) (aE : Nat → Nat) (i : Nat) (K9 : Nat → Nat → Prop) (Q : Nat → Prop) (x : Nat) (b : Nat) : Prop := (i < 60) ∧ ((b < 2147483648) ∧ ((aE i < 2147483648) ∧ ((aE i ≤ b → Q x) ∧ (¬ aE i ≤ b → (b < 1000) ∧ ((¬ (tT b) = 47 → K9 x (b + 1)) ∧ ((tT b) = 47 → K9 (x + 1) (b + 1)))))))
def v_RL_countNames (tT : Nat → Int32) (aS : Nat → Nat) (aE : Nat → Nat) (i : Nat) (K9 : Nat → Nat → Prop) (Q : Nat → Prop) : Prop := (i < 60) ∧ (K9 1 (aS i))
theorem t_RL_countNames (tT : Nat → Int32) (aS : Nat → Nat) (aE : Nat → Nat) (i : Nat) (hr : r_RL_countNames tT aS aE i) (K9 : Nat → Nat → Prop) (k9 : ∀ x b, v_RL_countNames_9 tT aS aE i K9 (p_RL_countNames tT aS aE i) x b → K9 x b) : v_RL_countNames tT aS aE i K9 (p_RL_countNames tT aS aE i) := by
  obtain ⟨h1, h2, h3⟩ := hr
  have key : ∀ d x b, aE i - b ≤ d → b ≤ aE i → x + sp_cnt tT (aE i) b = 1 + sp_cnt tT (aE i) (aS i) → K9 x b := by
    intro d
    induction d with
    | zero =>
      intro x b hd hb hI
      refine k9 x b ?_
      unfold v_RL_countNames_9
      refine ⟨h1, by omega, by omega, fun h => ?_, fun h => by omega⟩
      rw [sp_cnt_e h] at hI
      exact hI
    | succ d ih =>
      intro x b hd hb hI
      refine k9 x b ?_
      unfold v_RL_countNames_9
      refine ⟨h1, by omega, by omega, fun h => ?_, fun h => ⟨by omega, fun h47 => ?_, fun h47 => ?_⟩⟩
      · rw [sp_cnt_e h] at hI
        exact hI
      · exact ih x (b + 1) (by omega) (by omega) (by rw [← sp_cnt_no (by omega) h47]; exact hI)
      · rw [sp_cnt_at (by omega) h47] at hI
        exact ih (x + 1) (b + 1) (by omega) (by omega) (by omega)
  unfold v_RL_countNames
  exact ⟨h1, key _ 1 (aS i) (Nat.le_refl _) h2 rfl⟩

def r_RL_nameStart (tT : Nat → Int32) (aS : Nat → Nat) (aE : Nat → Nat) (i : Nat) (k : Nat) : Prop := i < 60 ∧ aS i ≤ aE i ∧ aE i ≤ 1000 ∧ k ≤ sp_cnt tT (aE i) (aS i)
def p_RL_nameStart (tT : Nat → Int32) (aS : Nat → Nat) (aE : Nat → Nat) (i : Nat) (k : Nat) (r : Nat) : Prop := r = (sp_nst tT (aE i) k (aS i))
def v_RL_nameStart_18 (tT : Nat → Int32) (aS : Nat → Nat) (aE : Nat → Nat) (i : Nat) (k : Nat) (K18 : Nat → Nat → Nat → Prop) (Q : Nat → Prop) (x : Nat) (g : Nat) (b : Nat) : Prop := (i < 60) ∧ ((b < 2147483648) ∧ ((aE i < 2147483648) ∧ ((aE i ≤ b → Q g) ∧ (¬ aE i ≤ b → (x < 2147483648) ∧ ((k < 2147483648) ∧ ((k ≤ x → Q g) ∧ (¬ k ≤ x → (b < 1000) ∧ ((¬ (tT b) = 47 → K18 x g (b + 1)) ∧ ((tT b) = 47 → K18 (x + 1) (b + 1) (b + 1))))))))))
def v_RL_nameStart (tT : Nat → Int32) (aS : Nat → Nat) (aE : Nat → Nat) (i : Nat) (k : Nat) (K18 : Nat → Nat → Nat → Prop) (Q : Nat → Prop) : Prop := (i < 60) ∧ ((i < 60) ∧ (K18 0 (aS i) (aS i)))
theorem t_RL_nameStart (tT : Nat → Int32) (aS : Nat → Nat) (aE : Nat → Nat) (i : Nat) (k : Nat) (hr : r_RL_nameStart tT aS aE i k) (K18 : Nat → Nat → Nat → Prop) (k18 : ∀ x g b, v_RL_nameStart_18 tT aS aE i k K18 (p_RL_nameStart tT aS aE i k) x g b → K18 x g b) : v_RL_nameStart tT aS aE i k K18 (p_RL_nameStart tT aS aE i k) := by
  obtain ⟨h1, h2, h3, h4⟩ := hr
  have hc : ∀ m, sp_cnt tT (aE i) m ≤ aE i - m := by
    intro m
    have : ∀ d m, aE i - m ≤ d → sp_cnt tT (aE i) m ≤ aE i - m := by
      intro d
      induction d with
      | zero => intro m hm; rw [sp_cnt_e (by omega)]; exact Nat.zero_le _
      | succ d ih =>
        intro m hm
        by_cases hme : m < aE i
        · have := ih (m + 1) (by omega)
          by_cases h47 : tT m = 47
          · rw [sp_cnt_at hme h47]; omega
          · rw [sp_cnt_no hme h47]; omega
        · rw [sp_cnt_e (by omega)]; exact Nat.zero_le _
    exact this _ m (Nat.le_refl _)
  have hk := hc (aS i)
  have key : ∀ d x g b, aE i - b ≤ d → b ≤ aE i → g ≤ b → x ≤ k → sp_eon tT (aE i) b = sp_eon tT (aE i) g → k - x ≤ sp_cnt tT (aE i) b → sp_nst tT (aE i) (k - x) g = sp_nst tT (aE i) k (aS i) → K18 x g b := by
    intro d
    induction d with
    | zero =>
      intro x g b hd hb hg hx he hq hI
      refine k18 x g b ?_
      unfold v_RL_nameStart_18
      refine ⟨h1, by omega, by omega, fun h => ?_, fun h => by omega⟩
      rw [sp_cnt_e h] at hq
      rw [show k - x = 0 by omega] at hI
      exact hI
    | succ d ih =>
      intro x g b hd hb hg hx he hq hI
      refine k18 x g b ?_
      unfold v_RL_nameStart_18
      refine ⟨h1, by omega, by omega, fun h => ?_, fun h => ⟨by omega, by omega, fun hkx => ?_, fun hkx => ⟨by omega, fun h47 => ?_, fun h47 => ?_⟩⟩⟩
      · rw [sp_cnt_e h] at hq
        rw [show k - x = 0 by omega] at hI
        exact hI
      · rw [show k - x = 0 by omega] at hI
        exact hI
      · exact ih x g (b + 1) (by omega) (by omega) (by omega) hx (by rw [← sp_eon_no (by omega) h47]; exact he) (by rw [← sp_cnt_no (by omega) h47]; exact hq) hI
      · rw [sp_cnt_at (by omega) h47] at hq
        have e1 : sp_eon tT (aE i) g = b := by rw [← he]; exact sp_eon_at (Or.inr h47)
        rw [show k - x = (k - (x + 1)) + 1 by omega, sp_nst, e1] at hI
        exact ih (x + 1) (b + 1) (b + 1) (by omega) (by omega) (Nat.le_refl _) (by omega) rfl (by omega) hI
  unfold v_RL_nameStart
  exact ⟨h1, h1, key _ 0 (aS i) (aS i) (Nat.le_refl _) h2 (Nat.le_refl _) (Nat.zero_le _) rfl h4 rfl⟩

def r_RL_nameEnd (tT : Nat → Int32) (aE : Nat → Nat) (i : Nat) (f : Nat) : Prop := i < 60 ∧ f ≤ aE i ∧ aE i ≤ 1000
def p_RL_nameEnd (tT : Nat → Int32) (aE : Nat → Nat) (i : Nat) (f : Nat) (r : Nat) : Prop := r = (sp_eon tT (aE i) f)
def v_RL_nameEnd (tT : Nat → Int32) (aE : Nat → Nat) (i : Nat) (f : Nat) (Q : Nat → Prop) : Prop := (i < 60) ∧ ((r_RL_endOfName tT f (aE i)) ∧ (Q (sp_eon tT (aE i) f)))
theorem t_RL_nameEnd (tT : Nat → Int32) (aE : Nat → Nat) (i : Nat) (f : Nat) (hr : r_RL_nameEnd tT aE i f)  : v_RL_nameEnd tT aE i f (p_RL_nameEnd tT aE i f) := by
  obtain ⟨h1, h2, h3⟩ := hr
  unfold v_RL_nameEnd
  exact ⟨h1, ⟨h2, h3⟩, rfl⟩

