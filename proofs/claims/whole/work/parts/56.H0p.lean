def r_LW_feed (tl : Nat) (tA : Nat → Int32) (oL : Nat → Int64) (x : Int32) (b : Int64) : Prop := tl ≤ 1000
def pn_LW_feed (tl : Nat) (tA : Nat → Int32) (oL : Nat → Int64) (x : Int32) (b : Int64) (r : Nat) (tl' : Nat) (tA' : Nat → Int32) (oL' : Nat → Int64) : Prop := r = 0 ∧ ∃ zz : Int32, q_IR_feed tl tA x b zz tl' tA' ∧ oL' 0 = zz.toInt64
def q_LW_feed (tl : Nat) (tA : Nat → Int32) (oL : Nat → Int64) (x : Int32) (b : Int64) (r : Nat) (tl' : Nat) (tA' : Nat → Int32) (oL' : Nat → Int64) : Prop := ((x < 1 ∨ 8 < x) → r = 1 ∧ tl' = tl ∧ tA' = tA) ∧ (¬ (x < 1 ∨ 8 < x) → pn_LW_feed tl tA oL x b r tl' tA' oL')
def v_LW_feed (tl : Nat) (tA : Nat → Int32) (oL : Nat → Int64) (x : Int32) (b : Int64) (Q : Nat → Nat → (Nat → Int32) → (Nat → Int64) → Prop) : Prop := (r_IR_feed tl tA x b) ∧ ((∀ (r3 : Int32) (tl1 : Nat) (tA2 : Nat → Int32), q_IR_feed tl tA x b r3 tl1 tA2 → (0 < 1) ∧ (Q 0 tl1 tA2 (vp_updL oL 0 r3.toInt64))))
theorem t_LW_feed (tl : Nat) (tA : Nat → Int32) (oL : Nat → Int64) (x : Int32) (b : Int64) (hr : r_LW_feed tl tA oL x b) (hT1 : ¬ (x < 1 ∨ 8 < x)) : v_LW_feed tl tA oL x b (pn_LW_feed tl tA oL x b) := by
  exact ⟨⟨hr, hT1⟩, fun r3 tl1 tA2 hq => ⟨by omega, rfl, r3, hq, lw_upd oL _⟩⟩

