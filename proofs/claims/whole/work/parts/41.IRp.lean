def r_IR_many (mN : Nat → Bool) (mB : Nat → Bool) (tT : Nat → Int32) (aS : Nat → Nat) (aE : Nat → Nat) (aB : Nat → Nat) (pB : Nat → Int32) (pS : Nat → Nat) (nC : Nat) (pC : Nat) (d : Bool) : Prop := sp_rok tT aS aE aB nC ∧ sp_pth pS pC ∧ 1 ≤ pC
def p_IR_many (mN : Nat → Bool) (mB : Nat → Bool) (tT : Nat → Int32) (aS : Nat → Nat) (aE : Nat → Nat) (aB : Nat → Nat) (pB : Nat → Int32) (pS : Nat → Nat) (nC : Nat) (pC : Nat) (d : Bool) (r : Nat) (mN' : Nat → Bool) (mB' : Nat → Bool) : Prop := r = (sp_cn (fun i => sp_rf tT (aS i) (aE i) (aB i) pB pS pC d) nC)
def v_IR_many_8 (mN : Nat → Bool) (mB : Nat → Bool) (tT : Nat → Int32) (aS : Nat → Nat) (aE : Nat → Nat) (aB : Nat → Nat) (pB : Nat → Int32) (pS : Nat → Nat) (nC : Nat) (pC : Nat) (d : Bool) (K8 : Nat → Nat → (Nat → Bool) → (Nat → Bool) → Prop) (Q : Nat → (Nat → Bool) → (Nat → Bool) → Prop) (g : Nat) (k : Nat) (mNc : Nat → Bool) (mBc : Nat → Bool) : Prop := (k < 2147483648) ∧ ((nC < 2147483648) ∧ ((nC ≤ k → Q g mNc mBc) ∧ (¬ nC ≤ k → (r_MA_ruleFits mNc mBc tT aS aE aB pB pS k pC d) ∧ ((∀ (mN1 : Nat → Bool) (mB2 : Nat → Bool), (sp_rf tT (aS k) (aE k) (aB k) pB pS pC d = false → K8 g (k + 1) mN1 mB2) ∧ (sp_rf tT (aS k) (aE k) (aB k) pB pS pC d = true → K8 (g + 1) (k + 1) mN1 mB2))))))
def v_IR_many (mN : Nat → Bool) (mB : Nat → Bool) (tT : Nat → Int32) (aS : Nat → Nat) (aE : Nat → Nat) (aB : Nat → Nat) (pB : Nat → Int32) (pS : Nat → Nat) (nC : Nat) (pC : Nat) (d : Bool) (K8 : Nat → Nat → (Nat → Bool) → (Nat → Bool) → Prop) (Q : Nat → (Nat → Bool) → (Nat → Bool) → Prop) : Prop := (r_IR_requirePath pC) ∧ (K8 0 0 mN mB)
theorem t_IR_many (mN : Nat → Bool) (mB : Nat → Bool) (tT : Nat → Int32) (aS : Nat → Nat) (aE : Nat → Nat) (aB : Nat → Nat) (pB : Nat → Int32) (pS : Nat → Nat) (nC : Nat) (pC : Nat) (d : Bool) (hr : r_IR_many mN mB tT aS aE aB pB pS nC pC d) (K8 : Nat → Nat → (Nat → Bool) → (Nat → Bool) → Prop) (k8 : ∀ g k mNc mBc, v_IR_many_8 mN mB tT aS aE aB pB pS nC pC d K8 (p_IR_many mN mB tT aS aE aB pB pS nC pC d) g k mNc mBc → K8 g k mNc mBc) : v_IR_many mN mB tT aS aE aB pB pS nC pC d K8 (p_IR_many mN mB tT aS aE aB pB pS nC pC d) := by
  obtain ⟨h1, h2, h3⟩ := hr
  have hn := h1.1
  obtain ⟨F, hF⟩ : ∃ F : Nat → Bool, F = fun i => sp_rf tT (aS i) (aE i) (aB i) pB pS pC d := ⟨_, rfl⟩
  have eF : ∀ i, sp_rf tT (aS i) (aE i) (aB i) pB pS pC d = F i := by intro i; rw [hF]
  have fin : ∀ c1 c2, p_IR_many mN mB tT aS aE aB pB pS nC pC d (sp_cn F nC) c1 c2 := by
    intro c1 c2
    rw [p_IR_many, hF]
  have key : ∀ m k a1 a2, nC - k ≤ m → k ≤ nC → K8 (sp_cn F k) k a1 a2 := by
    intro m
    induction m with
    | zero =>
      intro k a1 a2 g1 g2
      have e : k = nC := by omega
      rw [e]
      refine k8 _ _ _ _ ?_
      unfold v_IR_many_8
      exact ⟨by omega, by omega, fun _ => fin _ _, fun h => absurd (Nat.le_refl _) h⟩
    | succ m ih =>
      intro k a1 a2 g1 g2
      refine k8 _ _ _ _ ?_
      unfold v_IR_many_8
      refine ⟨by omega, by omega, fun h => ?_, fun h => ⟨?_, fun c1 c2 => ⟨fun hf => ?_, fun hf => ?_⟩⟩⟩
      · have e : k = nC := by omega
        rw [e]
        exact fin _ _
      · obtain ⟨r1, r2, r3, r4⟩ := h1.2 k (by omega)
        exact ⟨by omega, r1, r2, r3, r4, h3, h2.1, h2.2.1, h2.2.2⟩
      · have z := ih (k + 1) c1 c2 (by omega) (by omega)
        rw [eF] at hf
        rw [show sp_cn F (k + 1) = sp_cn F k + (cond (F k) 1 0) from rfl, hf] at z
        exact z
      · have z := ih (k + 1) c1 c2 (by omega) (by omega)
        rw [eF] at hf
        rw [show sp_cn F (k + 1) = sp_cn F k + (cond (F k) 1 0) from rfl, hf] at z
        exact z
  unfold v_IR_many
  exact ⟨⟨h3, h2.1⟩, key nC 0 _ _ (by omega) (by omega)⟩

def r_IR_fits (mN : Nat → Bool) (mB : Nat → Bool) (tT : Nat → Int32) (aS : Nat → Nat) (aE : Nat → Nat) (aB : Nat → Nat) (pB : Nat → Int32) (pS : Nat → Nat) (nC : Nat) (pC : Nat) (x : Int32) (d : Bool) : Prop := sp_rok tT aS aE aB nC ∧ sp_pth pS pC ∧ 1 ≤ pC ∧ ¬ (x < 0 ∨ nI nC ≤ x)
def q_IR_fits (mN : Nat → Bool) (mB : Nat → Bool) (tT : Nat → Int32) (aS : Nat → Nat) (aE : Nat → Nat) (aB : Nat → Nat) (pB : Nat → Int32) (pS : Nat → Nat) (nC : Nat) (pC : Nat) (x : Int32) (d : Bool) (r : Bool) (mN' : Nat → Bool) (mB' : Nat → Bool) : Prop := ∀ i, i < nC → x = nI i → r = sp_rf tT (aS i) (aE i) (aB i) pB pS pC d
def p_IR_fits (mN : Nat → Bool) (mB : Nat → Bool) (tT : Nat → Int32) (aS : Nat → Nat) (aE : Nat → Nat) (aB : Nat → Nat) (pB : Nat → Int32) (pS : Nat → Nat) (nC : Nat) (pC : Nat) (x : Int32) (d : Bool) (r : Bool) (mN' : Nat → Bool) (mB' : Nat → Bool) : Prop := q_IR_fits mN mB tT aS aE aB pB pS nC pC x d r mN' mB'
def v_IR_fits (mN : Nat → Bool) (mB : Nat → Bool) (tT : Nat → Int32) (aS : Nat → Nat) (aE : Nat → Nat) (aB : Nat → Nat) (pB : Nat → Int32) (pS : Nat → Nat) (nC : Nat) (pC : Nat) (x : Int32) (d : Bool) (Q : Bool → (Nat → Bool) → (Nat → Bool) → Prop) : Prop := (r_IR_requireRule nC x) ∧ ((r_IR_requirePath pC) ∧ (∃ i1 : Nat, x = nI i1 ∧ ((r_MA_ruleFits mN mB tT aS aE aB pB pS i1 pC d) ∧ ((∀ (mN2 : Nat → Bool) (mB3 : Nat → Bool), Q (sp_rf tT (aS i1) (aE i1) (aB i1) pB pS pC d) mN2 mB3)))))
theorem t_IR_fits (mN : Nat → Bool) (mB : Nat → Bool) (tT : Nat → Int32) (aS : Nat → Nat) (aE : Nat → Nat) (aB : Nat → Nat) (pB : Nat → Int32) (pS : Nat → Nat) (nC : Nat) (pC : Nat) (x : Int32) (d : Bool) (hr : r_IR_fits mN mB tT aS aE aB pB pS nC pC x d)  : v_IR_fits mN mB tT aS aE aB pB pS nC pC x d (p_IR_fits mN mB tT aS aE aB pB pS nC pC x d) := by
  obtain ⟨h1, h2, h3, hx⟩ := hr
  have hn := h1.1
  obtain ⟨i, hi, ei⟩ := ig_rng (by omega) hx
  obtain ⟨r1, r2, r3, r4⟩ := h1.2 i hi
  unfold v_IR_fits
  refine ⟨⟨hn, hx⟩, ⟨h3, h2.1⟩, i, ei, ⟨by omega, r1, r2, r3, r4, h3, h2.1, h2.2.1, h2.2.2⟩, fun m1 m2 i' g1 g2 => ?_⟩
  rw [(ig_eq (by omega) (by omega)).mp (g2.symm.trans ei)]

