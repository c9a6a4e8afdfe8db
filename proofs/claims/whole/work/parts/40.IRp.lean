def r_IR_requireRule (nC : Nat) (x : Int32) : Prop := nC ≤ 60 ∧ ¬ (x < 0 ∨ nI nC ≤ x)
def p_IR_requireRule (nC : Nat) (x : Int32)  : Prop := True
def v_IR_requireRule_15 (nC : Nat) (x : Int32) (Q : Prop) : Prop := False
def v_IR_requireRule (nC : Nat) (x : Int32) (Q : Prop) : Prop := (x < 0 → v_IR_requireRule_15 nC x Q) ∧ (¬ x < 0 → (x < (nI nC) → Q) ∧ (¬ x < (nI nC) → v_IR_requireRule_15 nC x Q))
theorem t_IR_requireRule (nC : Nat) (x : Int32) (hr : r_IR_requireRule nC x)  : v_IR_requireRule nC x (p_IR_requireRule nC x) := by
  obtain ⟨h1, h2⟩ := hr
  unfold v_IR_requireRule
  exact ⟨fun h => absurd (Or.inl h) h2, fun _ => ⟨fun _ => trivial, fun h => absurd (Or.inr (Int32.not_lt.mp h)) h2⟩⟩

def r_IR_requirePath (pC : Nat) : Prop := 1 ≤ pC ∧ pC ≤ 20
def p_IR_requirePath (pC : Nat)  : Prop := True
def v_IR_requirePath (pC : Nat) (Q : Prop) : Prop := (pC < 2147483648) ∧ ((¬ pC = 0 → Q) ∧ (pC = 0 → False))
theorem t_IR_requirePath (pC : Nat) (hr : r_IR_requirePath pC)  : v_IR_requirePath pC (p_IR_requirePath pC) := by
  obtain ⟨h1, h2⟩ := hr
  unfold v_IR_requirePath
  exact ⟨by omega, fun _ => trivial, fun h => by omega⟩

def r_IR_depth (mN : Nat → Bool) (mB : Nat → Bool) (tT : Nat → Int32) (aS : Nat → Nat) (aE : Nat → Nat) (aB : Nat → Nat) (pB : Nat → Int32) (pS : Nat → Nat) (nC : Nat) (pC : Nat) (d : Bool) : Prop := sp_rok tT aS aE aB nC ∧ sp_pth pS pC ∧ 1 ≤ pC
def p_IR_depth (mN : Nat → Bool) (mB : Nat → Bool) (tT : Nat → Int32) (aS : Nat → Nat) (aE : Nat → Nat) (aB : Nat → Nat) (pB : Nat → Int32) (pS : Nat → Nat) (nC : Nat) (pC : Nat) (d : Bool) (r : Nat) (mN' : Nat → Bool) (mB' : Nat → Bool) : Prop := r = (sp_dd (fun m => sp_lo aB (sp_lfit tT aS aE aB pB pS nC m true)) pC 1)
def v_IR_depth (mN : Nat → Bool) (mB : Nat → Bool) (tT : Nat → Int32) (aS : Nat → Nat) (aE : Nat → Nat) (aB : Nat → Nat) (pB : Nat → Int32) (pS : Nat → Nat) (nC : Nat) (pC : Nat) (d : Bool) (Q : Nat → (Nat → Bool) → (Nat → Bool) → Prop) : Prop := (r_IR_requirePath pC) ∧ ((r_IR_decidingDepth mN mB tT aS aE aB pB pS nC pC) ∧ ((∀ (mN1 : Nat → Bool) (mB2 : Nat → Bool), Q (sp_dd (fun m => sp_lo aB (sp_lfit tT aS aE aB pB pS nC m true)) pC 1) mN1 mB2)))
theorem t_IR_depth (mN : Nat → Bool) (mB : Nat → Bool) (tT : Nat → Int32) (aS : Nat → Nat) (aE : Nat → Nat) (aB : Nat → Nat) (pB : Nat → Int32) (pS : Nat → Nat) (nC : Nat) (pC : Nat) (d : Bool) (hr : r_IR_depth mN mB tT aS aE aB pB pS nC pC d)  : v_IR_depth mN mB tT aS aE aB pB pS nC pC d (p_IR_depth mN mB tT aS aE aB pB pS nC pC d) := by
  obtain ⟨h1, h2, h3⟩ := hr
  unfold v_IR_depth
  exact ⟨⟨h3, h2.1⟩, ⟨h1, h2⟩, fun m1 m2 => rfl⟩

def r_IR_out (mN : Nat → Bool) (mB : Nat → Bool) (tT : Nat → Int32) (aS : Nat → Nat) (aE : Nat → Nat) (aB : Nat → Nat) (pB : Nat → Int32) (pS : Nat → Nat) (nC : Nat) (pC : Nat) (d : Bool) : Prop := sp_rok tT aS aE aB nC ∧ sp_pth pS pC ∧ 1 ≤ pC
def p_IR_out (mN : Nat → Bool) (mB : Nat → Bool) (tT : Nat → Int32) (aS : Nat → Nat) (aE : Nat → Nat) (aB : Nat → Nat) (pB : Nat → Int32) (pS : Nat → Nat) (nC : Nat) (pC : Nat) (d : Bool) (r : Bool) (mN' : Nat → Bool) (mB' : Nat → Bool) : Prop := r = (decide (sp_dd (fun m => sp_lo aB (sp_lfit tT aS aE aB pB pS nC m true)) pC 1 < pC) || sp_lo aB (sp_lfit tT aS aE aB pB pS nC pC d))
def v_IR_out (mN : Nat → Bool) (mB : Nat → Bool) (tT : Nat → Int32) (aS : Nat → Nat) (aE : Nat → Nat) (aB : Nat → Nat) (pB : Nat → Int32) (pS : Nat → Nat) (nC : Nat) (pC : Nat) (d : Bool) (Q : Bool → (Nat → Bool) → (Nat → Bool) → Prop) : Prop := (r_IR_requirePath pC) ∧ ((r_IR_decidingDepth mN mB tT aS aE aB pB pS nC pC) ∧ ((∀ (mN1 : Nat → Bool) (mB2 : Nat → Bool), (sp_dd (fun m => sp_lo aB (sp_lfit tT aS aE aB pB pS nC m true)) pC 1 < 2147483648) ∧ ((pC < 2147483648) ∧ ((sp_dd (fun m => sp_lo aB (sp_lfit tT aS aE aB pB pS nC m true)) pC 1 < pC → Q true mN1 mB2) ∧ (¬ sp_dd (fun m => sp_lo aB (sp_lfit tT aS aE aB pB pS nC m true)) pC 1 < pC → (r_IR_lastFitting mN1 mB2 tT aS aE aB pB pS nC pC d) ∧ ((∀ (mN3 : Nat → Bool) (mB4 : Nat → Bool), (r_IR_leavesOut aB (sp_lfit tT aS aE aB pB pS nC pC d)) ∧ ((sp_lo aB (sp_lfit tT aS aE aB pB pS nC pC d) = false → Q false mN3 mB4) ∧ (sp_lo aB (sp_lfit tT aS aE aB pB pS nC pC d) = true → Q true mN3 mB4))))))))))
theorem t_IR_out (mN : Nat → Bool) (mB : Nat → Bool) (tT : Nat → Int32) (aS : Nat → Nat) (aE : Nat → Nat) (aB : Nat → Nat) (pB : Nat → Int32) (pS : Nat → Nat) (nC : Nat) (pC : Nat) (d : Bool) (hr : r_IR_out mN mB tT aS aE aB pB pS nC pC d)  : v_IR_out mN mB tT aS aE aB pB pS nC pC d (p_IR_out mN mB tT aS aE aB pB pS nC pC d) := by
  obtain ⟨h1, h2, h3⟩ := hr
  have hc := h2.1
  have b := sp_dd_b (O := fun m => sp_lo aB (sp_lfit tT aS aE aB pB pS nC m true)) (c := pC) pC 1 (by omega) h3
  unfold v_IR_out
  refine ⟨⟨h3, hc⟩, ⟨h1, h2⟩, fun m1 m2 => ⟨by omega, by omega, fun h => ?_, fun h => ⟨⟨h1, h3, hc, h2.2.1, h2.2.2⟩, fun m3 m4 => ⟨?_, fun h5 => ?_, fun h5 => ?_⟩⟩⟩⟩
  · rw [p_IR_out, decide_eq_true h]; rfl
  · rcases sp_lastf_in (fun k => sp_rf tT (aS k) (aE k) (aB k) pB pS pC d) nC with q | ⟨k, q1, q2⟩
    · exact Or.inl q
    · have := h1.1
      exact Or.inr ⟨k, by omega, (h1.2 k q1).2.2.1, q2⟩
  · rw [p_IR_out, decide_eq_false h, h5]; rfl
  · rw [p_IR_out, decide_eq_false h, h5]; rfl

def r_IR_by (mN : Nat → Bool) (mB : Nat → Bool) (tT : Nat → Int32) (aS : Nat → Nat) (aE : Nat → Nat) (aB : Nat → Nat) (pB : Nat → Int32) (pS : Nat → Nat) (nC : Nat) (pC : Nat) (d : Bool) : Prop := sp_rok tT aS aE aB nC ∧ sp_pth pS pC ∧ 1 ≤ pC
def p_IR_by (mN : Nat → Bool) (mB : Nat → Bool) (tT : Nat → Int32) (aS : Nat → Nat) (aE : Nat → Nat) (aB : Nat → Nat) (pB : Nat → Int32) (pS : Nat → Nat) (nC : Nat) (pC : Nat) (d : Bool) (r : Int32) (mN' : Nat → Bool) (mB' : Nat → Bool) : Prop := r = (sp_lfit tT aS aE aB pB pS nC (sp_dd (fun m => sp_lo aB (sp_lfit tT aS aE aB pB pS nC m true)) pC 1) (decide (sp_dd (fun m => sp_lo aB (sp_lfit tT aS aE aB pB pS nC m true)) pC 1 < pC) || d))
def v_IR_by_31 (mN : Nat → Bool) (mB : Nat → Bool) (tT : Nat → Int32) (aS : Nat → Nat) (aE : Nat → Nat) (aB : Nat → Nat) (pB : Nat → Int32) (pS : Nat → Nat) (nC : Nat) (pC : Nat) (d : Bool) (Q : Int32 → (Nat → Bool) → (Nat → Bool) → Prop) (zv0 : Bool) (zv1 : Nat) (mNc : Nat → Bool) (mBc : Nat → Bool) : Prop := (r_IR_lastFitting mNc mBc tT aS aE aB pB pS nC zv1 zv0) ∧ ((∀ (mN3 : Nat → Bool) (mB4 : Nat → Bool), Q (sp_lfit tT aS aE aB pB pS nC zv1 zv0) mN3 mB4))
def v_IR_by_26 (mN : Nat → Bool) (mB : Nat → Bool) (tT : Nat → Int32) (aS : Nat → Nat) (aE : Nat → Nat) (aB : Nat → Nat) (pB : Nat → Int32) (pS : Nat → Nat) (nC : Nat) (pC : Nat) (d : Bool) (Q : Int32 → (Nat → Bool) → (Nat → Bool) → Prop) (zv0 : Nat) (mNc : Nat → Bool) (mBc : Nat → Bool) : Prop := v_IR_by_31 mN mB tT aS aE aB pB pS nC pC d Q true zv0 mNc mBc
def v_IR_by (mN : Nat → Bool) (mB : Nat → Bool) (tT : Nat → Int32) (aS : Nat → Nat) (aE : Nat → Nat) (aB : Nat → Nat) (pB : Nat → Int32) (pS : Nat → Nat) (nC : Nat) (pC : Nat) (d : Bool) (Q : Int32 → (Nat → Bool) → (Nat → Bool) → Prop) : Prop := (r_IR_requirePath pC) ∧ ((r_IR_decidingDepth mN mB tT aS aE aB pB pS nC pC) ∧ ((∀ (mN1 : Nat → Bool) (mB2 : Nat → Bool), (sp_dd (fun m => sp_lo aB (sp_lfit tT aS aE aB pB pS nC m true)) pC 1 < 2147483648) ∧ ((pC < 2147483648) ∧ ((sp_dd (fun m => sp_lo aB (sp_lfit tT aS aE aB pB pS nC m true)) pC 1 < pC → v_IR_by_26 mN mB tT aS aE aB pB pS nC pC d Q (sp_dd (fun m => sp_lo aB (sp_lfit tT aS aE aB pB pS nC m true)) pC 1) mN1 mB2) ∧ (¬ sp_dd (fun m => sp_lo aB (sp_lfit tT aS aE aB pB pS nC m true)) pC 1 < pC → (d = false → v_IR_by_31 mN mB tT aS aE aB pB pS nC pC d Q false (sp_dd (fun m => sp_lo aB (sp_lfit tT aS aE aB pB pS nC m true)) pC 1) mN1 mB2) ∧ (d = true → v_IR_by_26 mN mB tT aS aE aB pB pS nC pC d Q (sp_dd (fun m => sp_lo aB (sp_lfit tT aS aE aB pB pS nC m true)) pC 1) mN1 mB2)))))))
theorem t_IR_by (mN : Nat → Bool) (mB : Nat → Bool) (tT : Nat → Int32) (aS : Nat → Nat) (aE : Nat → Nat) (aB : Nat → Nat) (pB : Nat → Int32) (pS : Nat → Nat) (nC : Nat) (pC : Nat) (d : Bool) (hr : r_IR_by mN mB tT aS aE aB pB pS nC pC d)  : v_IR_by mN mB tT aS aE aB pB pS nC pC d (p_IR_by mN mB tT aS aE aB pB pS nC pC d) := by
  obtain ⟨h1, h2, h3⟩ := hr
  have hc := h2.1
  have b := sp_dd_b (O := fun m => sp_lo aB (sp_lfit tT aS aE aB pB pS nC m true)) (c := pC) pC 1 (by omega) h3
  unfold v_IR_by v_IR_by_26
  obtain ⟨D, hD⟩ : ∃ D, D = sp_dd (fun m => sp_lo aB (sp_lfit tT aS aE aB pB pS nC m true)) pC 1 := ⟨_, rfl⟩
  rw [← hD] at b ⊢
  have s31 : ∀ s0 m1 m2, s0 = (decide (D < pC) || d) → v_IR_by_31 mN mB tT aS aE aB pB pS nC pC d (p_IR_by mN mB tT aS aE aB pB pS nC pC d) s0 D m1 m2 := by
    intro s0 m1 m2 hs
    unfold v_IR_by_31
    refine ⟨⟨h1, b.1, by omega, fun j hj => h2.2.1 j (by omega), sp_pth_n h2 b.2⟩, fun m3 m4 => ?_⟩
    rw [p_IR_by, ← hD, ← hs]
  refine ⟨⟨h3, hc⟩, ⟨h1, h2⟩, fun m1 m2 => ⟨by omega, by omega, fun h => s31 _ _ _ ?_, fun h => ⟨fun hd => s31 _ _ _ ?_, fun hd => s31 _ _ _ ?_⟩⟩⟩
  · rw [decide_eq_true h]; rfl
  · rw [decide_eq_false h, hd]; rfl
  · rw [hd]; simp

