def r_IR_rule (tT : Nat → Int32) (aS : Nat → Nat) (aE : Nat → Nat) (aB : Nat → Nat) (aL : Nat → Nat) (nC : Nat) (x : Int32) (y : Int32) : Prop := sp_rok tT aS aE aB nC ∧ ¬ (x < 0 ∨ nI nC ≤ x) ∧ ¬ (y < 0 ∨ 2 < y)
def q_IR_rule (tT : Nat → Int32) (aS : Nat → Nat) (aE : Nat → Nat) (aB : Nat → Nat) (aL : Nat → Nat) (nC : Nat) (x : Int32) (y : Int32) (r : Nat) : Prop := ∀ i, i < nC → x = nI i → (y = 0 → r = aB i) ∧ (y = 1 → r = 1 + sp_cnt tT (aE i) (aS i)) ∧ (y = 2 → r = aL i)
def p_IR_rule (tT : Nat → Int32) (aS : Nat → Nat) (aE : Nat → Nat) (aB : Nat → Nat) (aL : Nat → Nat) (nC : Nat) (x : Int32) (y : Int32) (r : Nat) : Prop := q_IR_rule tT aS aE aB aL nC x y r
def v_IR_rule (tT : Nat → Int32) (aS : Nat → Nat) (aE : Nat → Nat) (aB : Nat → Nat) (aL : Nat → Nat) (nC : Nat) (x : Int32) (y : Int32) (Q : Nat → Prop) : Prop := (r_IR_requireRule nC x) ∧ ((¬ y = 0 → (¬ y = 1 → (¬ y = 2 → False) ∧ (y = 2 → ∃ i1 : Nat, x = nI i1 ∧ ((i1 < 60) ∧ (Q (aL i1))))) ∧ (y = 1 → ∃ i2 : Nat, x = nI i2 ∧ ((r_RL_countNames tT aS aE i2) ∧ (Q (1 + sp_cnt tT (aE i2) (aS i2)))))) ∧ (y = 0 → ∃ i3 : Nat, x = nI i3 ∧ ((i3 < 60) ∧ (Q (aB i3)))))
theorem t_IR_rule (tT : Nat → Int32) (aS : Nat → Nat) (aE : Nat → Nat) (aB : Nat → Nat) (aL : Nat → Nat) (nC : Nat) (x : Int32) (y : Int32) (hr : r_IR_rule tT aS aE aB aL nC x y)  : v_IR_rule tT aS aE aB aL nC x y (p_IR_rule tT aS aE aB aL nC x y) := by
  obtain ⟨h1, hx, hy⟩ := hr
  have hn := h1.1
  obtain ⟨i, hi, ei⟩ := ig_rng (by omega) hx
  obtain ⟨r1, r2, r3, r4⟩ := h1.2 i hi
  have e2 : ∀ i', i' < nC → x = nI i' → i' = i := fun i' g1 g2 => (ig_eq (by omega) (by omega)).mp (g2.symm.trans ei)
  have y3 := ig_012 (y := y) (fun q => hy (Or.inl q)) (Int32.not_lt.mp (fun q => hy (Or.inr q)))
  unfold v_IR_rule
  refine ⟨⟨hn, hx⟩, fun y0 => ⟨fun y1 => ⟨fun y2 => ?_, fun y2 => ⟨i, ei, by omega, fun i' g1 g2 => ?_⟩⟩, fun y1 => ⟨i, ei, ⟨by omega, r1, r2⟩, fun i' g1 g2 => ?_⟩⟩, fun y0 => ⟨i, ei, by omega, fun i' g1 g2 => ?_⟩⟩
  · rcases y3 with q | q | q
    · exact y0 q
    · exact y1 q
    · exact y2 q
  · rw [e2 i' g1 g2]
    exact ⟨fun h => absurd h y0, fun h => absurd h y1, fun _ => rfl⟩
  · rw [e2 i' g1 g2]
    exact ⟨fun h => absurd h y0, fun _ => rfl, fun h => absurd (y1.symm.trans h) (by decide)⟩
  · rw [e2 i' g1 g2]
    exact ⟨fun _ => rfl, fun h => absurd (y0.symm.trans h) (by decide), fun h => absurd (y0.symm.trans h) (by decide)⟩

