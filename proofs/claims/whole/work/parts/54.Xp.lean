def r_X_requireRule (nC : Nat) (x : Int32) : Prop := nC ≤ 60 ∧ (x < 0 ∨ nI nC ≤ x)
def v_X_requireRule_15 (nC : Nat) (x : Int32) (Q : Prop) : Prop := True
def v_X_requireRule (nC : Nat) (x : Int32) (Q : Prop) : Prop := (x < 0 → v_X_requireRule_15 nC x Q) ∧ (¬ x < 0 → (x < (nI nC) → False) ∧ (¬ x < (nI nC) → v_X_requireRule_15 nC x Q))
theorem t_X_requireRule (nC : Nat) (x : Int32) (hr : r_X_requireRule nC x) : v_X_requireRule nC x True := by
  unfold v_X_requireRule v_X_requireRule_15
  obtain ⟨h1, h2⟩ := hr
  refine ⟨fun _ => trivial, fun hn => ⟨fun hlt => ?_, fun _ => trivial⟩⟩
  rcases h2 with q | q
  · exact hn q
  · exact absurd hlt (Int32.not_lt.mpr q)

def r_X_requirePath (pC : Nat) : Prop := pC = 0
def v_X_requirePath (pC : Nat) (Q : Prop) : Prop := (pC < 2147483648) ∧ ((¬ pC = 0 → False) ∧ (pC = 0 → True))
theorem t_X_requirePath (pC : Nat) (hr : r_X_requirePath pC) : v_X_requirePath pC True := by
  have h1 : pC = 0 := hr
  subst h1
  exact ⟨by omega, fun q => q rfl, fun _ => trivial⟩

def r_X_feed (tl : Nat) (tA : Nat → Int32) (x : Int32) (b : Int64) : Prop := (x < 1 ∨ 8 < x)
def v_X_feed_11 (tl : Nat) (tA : Nat → Int32) (x : Int32) (b : Int64) (Q : Prop) : Prop := True
def v_X_feed (tl : Nat) (tA : Nat → Int32) (x : Int32) (b : Int64) (Q : Prop) : Prop := (x < 1 → v_X_feed_11 tl tA x b Q) ∧ (¬ x < 1 → (x ≤ 8 → False) ∧ (¬ x ≤ 8 → v_X_feed_11 tl tA x b Q))
theorem t_X_feed (tl : Nat) (tA : Nat → Int32) (x : Int32) (b : Int64) (hr : r_X_feed tl tA x b) : v_X_feed tl tA x b True := by
  unfold v_X_feed v_X_feed_11
  refine ⟨fun _ => trivial, fun hn => ⟨fun hle => ?_, fun _ => trivial⟩⟩
  rcases hr with q | q
  · exact hn q
  · exact absurd hle (Int32.not_le.mpr q)

def r_X1_rule (tT : Nat → Int32) (aS : Nat → Nat) (aE : Nat → Nat) (aB : Nat → Nat) (aL : Nat → Nat) (nC : Nat) (x : Int32) (y : Int32) : Prop := nC ≤ 60 ∧ (x < 0 ∨ nI nC ≤ x)
def v_X1_rule (tT : Nat → Int32) (aS : Nat → Nat) (aE : Nat → Nat) (aB : Nat → Nat) (aL : Nat → Nat) (nC : Nat) (x : Int32) (y : Int32) (Q : Prop) : Prop := r_X_requireRule nC x
theorem t_X1_rule (tT : Nat → Int32) (aS : Nat → Nat) (aE : Nat → Nat) (aB : Nat → Nat) (aL : Nat → Nat) (nC : Nat) (x : Int32) (y : Int32) (hr : r_X1_rule tT aS aE aB aL nC x y) : v_X1_rule tT aS aE aB aL nC x y True := by
  exact hr

def r_X2_rule (tT : Nat → Int32) (aS : Nat → Nat) (aE : Nat → Nat) (aB : Nat → Nat) (aL : Nat → Nat) (nC : Nat) (x : Int32) (y : Int32) : Prop := nC ≤ 60 ∧ ¬ (x < 0 ∨ nI nC ≤ x) ∧ (y < 0 ∨ 2 < y)
def v_X2_rule (tT : Nat → Int32) (aS : Nat → Nat) (aE : Nat → Nat) (aB : Nat → Nat) (aL : Nat → Nat) (nC : Nat) (x : Int32) (y : Int32) (Q : Prop) : Prop := (r_IR_requireRule nC x) ∧ ((¬ y = 0 → (¬ y = 1 → (¬ y = 2 → True) ∧ (y = 2 → False)) ∧ (y = 1 → False)) ∧ (y = 0 → False))
theorem t_X2_rule (tT : Nat → Int32) (aS : Nat → Nat) (aE : Nat → Nat) (aB : Nat → Nat) (aL : Nat → Nat) (nC : Nat) (x : Int32) (y : Int32) (hr : r_X2_rule tT aS aE aB aL nC x y) : v_X2_rule tT aS aE aB aL nC x y True := by
  obtain ⟨h1, h2, h3⟩ := hr
  have hne : ∀ k : Int32, ¬ (k < 0 ∨ 2 < k) → ¬ y = k := fun k hk q => hk (q ▸ h3)
  exact ⟨⟨h1, h2⟩, fun _ => ⟨fun _ => ⟨fun _ => trivial, hne 2 (by decide)⟩, hne 1 (by decide)⟩, hne 0 (by decide)⟩

def r_X1_fits (mN : Nat → Bool) (mB : Nat → Bool) (tT : Nat → Int32) (aS : Nat → Nat) (aE : Nat → Nat) (aB : Nat → Nat) (pB : Nat → Int32) (pS : Nat → Nat) (nC : Nat) (pC : Nat) (x : Int32) (d : Bool) : Prop := nC ≤ 60 ∧ (x < 0 ∨ nI nC ≤ x)
def v_X1_fits (mN : Nat → Bool) (mB : Nat → Bool) (tT : Nat → Int32) (aS : Nat → Nat) (aE : Nat → Nat) (aB : Nat → Nat) (pB : Nat → Int32) (pS : Nat → Nat) (nC : Nat) (pC : Nat) (x : Int32) (d : Bool) (Q : Prop) : Prop := r_X_requireRule nC x
theorem t_X1_fits (mN : Nat → Bool) (mB : Nat → Bool) (tT : Nat → Int32) (aS : Nat → Nat) (aE : Nat → Nat) (aB : Nat → Nat) (pB : Nat → Int32) (pS : Nat → Nat) (nC : Nat) (pC : Nat) (x : Int32) (d : Bool) (hr : r_X1_fits mN mB tT aS aE aB pB pS nC pC x d) : v_X1_fits mN mB tT aS aE aB pB pS nC pC x d True := by
  exact hr

def r_X2_fits (mN : Nat → Bool) (mB : Nat → Bool) (tT : Nat → Int32) (aS : Nat → Nat) (aE : Nat → Nat) (aB : Nat → Nat) (pB : Nat → Int32) (pS : Nat → Nat) (nC : Nat) (pC : Nat) (x : Int32) (d : Bool) : Prop := nC ≤ 60 ∧ ¬ (x < 0 ∨ nI nC ≤ x) ∧ pC = 0
def v_X2_fits (mN : Nat → Bool) (mB : Nat → Bool) (tT : Nat → Int32) (aS : Nat → Nat) (aE : Nat → Nat) (aB : Nat → Nat) (pB : Nat → Int32) (pS : Nat → Nat) (nC : Nat) (pC : Nat) (x : Int32) (d : Bool) (Q : Prop) : Prop := (r_IR_requireRule nC x) ∧ (r_X_requirePath pC)
theorem t_X2_fits (mN : Nat → Bool) (mB : Nat → Bool) (tT : Nat → Int32) (aS : Nat → Nat) (aE : Nat → Nat) (aB : Nat → Nat) (pB : Nat → Int32) (pS : Nat → Nat) (nC : Nat) (pC : Nat) (x : Int32) (d : Bool) (hr : r_X2_fits mN mB tT aS aE aB pB pS nC pC x d) : v_X2_fits mN mB tT aS aE aB pB pS nC pC x d True := by
  obtain ⟨h1, h2, h3⟩ := hr
  exact ⟨⟨h1, h2⟩, h3⟩

def r_X_out (mN : Nat → Bool) (mB : Nat → Bool) (tT : Nat → Int32) (aS : Nat → Nat) (aE : Nat → Nat) (aB : Nat → Nat) (pB : Nat → Int32) (pS : Nat → Nat) (nC : Nat) (pC : Nat) (d : Bool) : Prop := pC = 0
def v_X_out (mN : Nat → Bool) (mB : Nat → Bool) (tT : Nat → Int32) (aS : Nat → Nat) (aE : Nat → Nat) (aB : Nat → Nat) (pB : Nat → Int32) (pS : Nat → Nat) (nC : Nat) (pC : Nat) (d : Bool) (Q : Prop) : Prop := r_X_requirePath pC
theorem t_X_out (mN : Nat → Bool) (mB : Nat → Bool) (tT : Nat → Int32) (aS : Nat → Nat) (aE : Nat → Nat) (aB : Nat → Nat) (pB : Nat → Int32) (pS : Nat → Nat) (nC : Nat) (pC : Nat) (d : Bool) (hr : r_X_out mN mB tT aS aE aB pB pS nC pC d) : v_X_out mN mB tT aS aE aB pB pS nC pC d True := by
  exact hr

def r_X_by (mN : Nat → Bool) (mB : Nat → Bool) (tT : Nat → Int32) (aS : Nat → Nat) (aE : Nat → Nat) (aB : Nat → Nat) (pB : Nat → Int32) (pS : Nat → Nat) (nC : Nat) (pC : Nat) (d : Bool) : Prop := pC = 0
def v_X_by (mN : Nat → Bool) (mB : Nat → Bool) (tT : Nat → Int32) (aS : Nat → Nat) (aE : Nat → Nat) (aB : Nat → Nat) (pB : Nat → Int32) (pS : Nat → Nat) (nC : Nat) (pC : Nat) (d : Bool) (Q : Prop) : Prop := r_X_requirePath pC
theorem t_X_by (mN : Nat → Bool) (mB : Nat → Bool) (tT : Nat → Int32) (aS : Nat → Nat) (aE : Nat → Nat) (aB : Nat → Nat) (pB : Nat → Int32) (pS : Nat → Nat) (nC : Nat) (pC : Nat) (d : Bool) (hr : r_X_by mN mB tT aS aE aB pB pS nC pC d) : v_X_by mN mB tT aS aE aB pB pS nC pC d True := by
  exact hr

def r_X_depth (mN : Nat → Bool) (mB : Nat → Bool) (tT : Nat → Int32) (aS : Nat → Nat) (aE : Nat → Nat) (aB : Nat → Nat) (pB : Nat → Int32) (pS : Nat → Nat) (nC : Nat) (pC : Nat) (d : Bool) : Prop := pC = 0
def v_X_depth (mN : Nat → Bool) (mB : Nat → Bool) (tT : Nat → Int32) (aS : Nat → Nat) (aE : Nat → Nat) (aB : Nat → Nat) (pB : Nat → Int32) (pS : Nat → Nat) (nC : Nat) (pC : Nat) (d : Bool) (Q : Prop) : Prop := r_X_requirePath pC
theorem t_X_depth (mN : Nat → Bool) (mB : Nat → Bool) (tT : Nat → Int32) (aS : Nat → Nat) (aE : Nat → Nat) (aB : Nat → Nat) (pB : Nat → Int32) (pS : Nat → Nat) (nC : Nat) (pC : Nat) (d : Bool) (hr : r_X_depth mN mB tT aS aE aB pB pS nC pC d) : v_X_depth mN mB tT aS aE aB pB pS nC pC d True := by
  exact hr

def r_X_many (mN : Nat → Bool) (mB : Nat → Bool) (tT : Nat → Int32) (aS : Nat → Nat) (aE : Nat → Nat) (aB : Nat → Nat) (pB : Nat → Int32) (pS : Nat → Nat) (nC : Nat) (pC : Nat) (d : Bool) : Prop := pC = 0
def v_X_many (mN : Nat → Bool) (mB : Nat → Bool) (tT : Nat → Int32) (aS : Nat → Nat) (aE : Nat → Nat) (aB : Nat → Nat) (pB : Nat → Int32) (pS : Nat → Nat) (nC : Nat) (pC : Nat) (d : Bool) (Q : Prop) : Prop := r_X_requirePath pC
theorem t_X_many (mN : Nat → Bool) (mB : Nat → Bool) (tT : Nat → Int32) (aS : Nat → Nat) (aE : Nat → Nat) (aB : Nat → Nat) (pB : Nat → Int32) (pS : Nat → Nat) (nC : Nat) (pC : Nat) (d : Bool) (hr : r_X_many mN mB tT aS aE aB pB pS nC pC d) : v_X_many mN mB tT aS aE aB pB pS nC pC d True := by
  exact hr

def r_X1_name (mN : Nat → Bool) (mB : Nat → Bool) (tT : Nat → Int32) (aS : Nat → Nat) (aE : Nat → Nat) (aB : Nat → Nat) (pB : Nat → Int32) (pS : Nat → Nat) (nC : Nat) (pC : Nat) (x : Int32) (y : Int32) (z : Int32) : Prop := nC ≤ 60 ∧ (x < 0 ∨ nI nC ≤ x)
def v_X1_name (mN : Nat → Bool) (mB : Nat → Bool) (tT : Nat → Int32) (aS : Nat → Nat) (aE : Nat → Nat) (aB : Nat → Nat) (pB : Nat → Int32) (pS : Nat → Nat) (nC : Nat) (pC : Nat) (x : Int32) (y : Int32) (z : Int32) (Q : Prop) : Prop := r_X_requireRule nC x
theorem t_X1_name (mN : Nat → Bool) (mB : Nat → Bool) (tT : Nat → Int32) (aS : Nat → Nat) (aE : Nat → Nat) (aB : Nat → Nat) (pB : Nat → Int32) (pS : Nat → Nat) (nC : Nat) (pC : Nat) (x : Int32) (y : Int32) (z : Int32) (hr : r_X1_name mN mB tT aS aE aB pB pS nC pC x y z) : v_X1_name mN mB tT aS aE aB pB pS nC pC x y z True := by
  exact hr

def r_X2_name (mN : Nat → Bool) (mB : Nat → Bool) (tT : Nat → Int32) (aS : Nat → Nat) (aE : Nat → Nat) (aB : Nat → Nat) (pB : Nat → Int32) (pS : Nat → Nat) (nC : Nat) (pC : Nat) (x : Int32) (y : Int32) (z : Int32) : Prop := sp_rok tT aS aE aB nC ∧ ¬ (x < 0 ∨ nI nC ≤ x) ∧ (∀ i, i < nC → x = nI i → (y < 0 ∨ nI (1 + sp_cnt tT (aE i) (aS i)) ≤ y))
def v_X2_name_21 (mN : Nat → Bool) (mB : Nat → Bool) (tT : Nat → Int32) (aS : Nat → Nat) (aE : Nat → Nat) (aB : Nat → Nat) (pB : Nat → Int32) (pS : Nat → Nat) (nC : Nat) (pC : Nat) (x : Int32) (y : Int32) (z : Int32) (Q : Prop) : Prop := True
def v_X2_name (mN : Nat → Bool) (mB : Nat → Bool) (tT : Nat → Int32) (aS : Nat → Nat) (aE : Nat → Nat) (aB : Nat → Nat) (pB : Nat → Int32) (pS : Nat → Nat) (nC : Nat) (pC : Nat) (x : Int32) (y : Int32) (z : Int32) (Q : Prop) : Prop := (r_IR_requireRule nC x) ∧ ((y < 0 → v_X2_name_21 mN mB tT aS aE aB pB pS nC pC x y z Q) ∧ (¬ y < 0 → ∃ i1 : Nat, x = nI i1 ∧ ((r_RL_countNames tT aS aE i1) ∧ ((y < (nI (1 + sp_cnt tT (aE i1) (aS i1))) → False) ∧ (¬ y < (nI (1 + sp_cnt tT (aE i1) (aS i1))) → v_X2_name_21 mN mB tT aS aE aB pB pS nC pC x y z Q)))))
theorem t_X2_name (mN : Nat → Bool) (mB : Nat → Bool) (tT : Nat → Int32) (aS : Nat → Nat) (aE : Nat → Nat) (aB : Nat → Nat) (pB : Nat → Int32) (pS : Nat → Nat) (nC : Nat) (pC : Nat) (x : Int32) (y : Int32) (z : Int32) (hr : r_X2_name mN mB tT aS aE aB pB pS nC pC x y z) : v_X2_name mN mB tT aS aE aB pB pS nC pC x y z True := by
  unfold v_X2_name v_X2_name_21
  obtain ⟨h1, h2, h3⟩ := hr
  have h60 := h1.1
  obtain ⟨i, i1, i2⟩ := ig_rng (c := nC) (by omega) h2
  obtain ⟨g1, g2, -, -⟩ := h1.2 i i1
  refine ⟨⟨h60, h2⟩, fun _ => trivial, fun hn => ⟨i, i2, ⟨by omega, g1, g2⟩, fun hlt => ?_, fun _ => trivial⟩⟩
  rcases h3 i i1 i2 with q | q
  · exact hn q
  · exact absurd hlt (Int32.not_lt.mpr q)

def r_X3_name (mN : Nat → Bool) (mB : Nat → Bool) (tT : Nat → Int32) (aS : Nat → Nat) (aE : Nat → Nat) (aB : Nat → Nat) (pB : Nat → Int32) (pS : Nat → Nat) (nC : Nat) (pC : Nat) (x : Int32) (y : Int32) (z : Int32) : Prop := sp_rok tT aS aE aB nC ∧ ¬ (x < 0 ∨ nI nC ≤ x) ∧ (∀ i, i < nC → x = nI i → ¬ (y < 0 ∨ nI (1 + sp_cnt tT (aE i) (aS i)) ≤ y)) ∧ pC = 0
def v_X3_name_21 (mN : Nat → Bool) (mB : Nat → Bool) (tT : Nat → Int32) (aS : Nat → Nat) (aE : Nat → Nat) (aB : Nat → Nat) (pB : Nat → Int32) (pS : Nat → Nat) (nC : Nat) (pC : Nat) (x : Int32) (y : Int32) (z : Int32) (Q : Prop) : Prop := False
def v_X3_name (mN : Nat → Bool) (mB : Nat → Bool) (tT : Nat → Int32) (aS : Nat → Nat) (aE : Nat → Nat) (aB : Nat → Nat) (pB : Nat → Int32) (pS : Nat → Nat) (nC : Nat) (pC : Nat) (x : Int32) (y : Int32) (z : Int32) (Q : Prop) : Prop := (r_IR_requireRule nC x) ∧ ((y < 0 → v_X3_name_21 mN mB tT aS aE aB pB pS nC pC x y z Q) ∧ (¬ y < 0 → ∃ i1 : Nat, x = nI i1 ∧ ((r_RL_countNames tT aS aE i1) ∧ ((y < (nI (1 + sp_cnt tT (aE i1) (aS i1))) → r_X_requirePath pC) ∧ (¬ y < (nI (1 + sp_cnt tT (aE i1) (aS i1))) → v_X3_name_21 mN mB tT aS aE aB pB pS nC pC x y z Q)))))
theorem t_X3_name (mN : Nat → Bool) (mB : Nat → Bool) (tT : Nat → Int32) (aS : Nat → Nat) (aE : Nat → Nat) (aB : Nat → Nat) (pB : Nat → Int32) (pS : Nat → Nat) (nC : Nat) (pC : Nat) (x : Int32) (y : Int32) (z : Int32) (hr : r_X3_name mN mB tT aS aE aB pB pS nC pC x y z) : v_X3_name mN mB tT aS aE aB pB pS nC pC x y z True := by
  unfold v_X3_name v_X3_name_21
  obtain ⟨h1, h2, h3, h4⟩ := hr
  have h60 := h1.1
  obtain ⟨i, i1, i2⟩ := ig_rng (c := nC) (by omega) h2
  obtain ⟨g1, g2, -, -⟩ := h1.2 i i1
  have h5 := h3 i i1 i2
  exact ⟨⟨h60, h2⟩, fun q => h5 (Or.inl q), fun _ => ⟨i, i2, ⟨by omega, g1, g2⟩, fun _ => h4, fun q => h5 (Or.inr (Int32.not_lt.mp q))⟩⟩

def r_X4_name (mN : Nat → Bool) (mB : Nat → Bool) (tT : Nat → Int32) (aS : Nat → Nat) (aE : Nat → Nat) (aB : Nat → Nat) (pB : Nat → Int32) (pS : Nat → Nat) (nC : Nat) (pC : Nat) (x : Int32) (y : Int32) (z : Int32) : Prop := sp_rok tT aS aE aB nC ∧ ¬ (x < 0 ∨ nI nC ≤ x) ∧ (∀ i, i < nC → x = nI i → ¬ (y < 0 ∨ nI (1 + sp_cnt tT (aE i) (aS i)) ≤ y)) ∧ 1 ≤ pC ∧ pC ≤ 20 ∧ (z < 0 ∨ nI pC ≤ z)
def v_X4_name_21 (mN : Nat → Bool) (mB : Nat → Bool) (tT : Nat → Int32) (aS : Nat → Nat) (aE : Nat → Nat) (aB : Nat → Nat) (pB : Nat → Int32) (pS : Nat → Nat) (nC : Nat) (pC : Nat) (x : Int32) (y : Int32) (z : Int32) (Q : Prop) : Prop := False
def v_X4_name_50 (mN : Nat → Bool) (mB : Nat → Bool) (tT : Nat → Int32) (aS : Nat → Nat) (aE : Nat → Nat) (aB : Nat → Nat) (pB : Nat → Int32) (pS : Nat → Nat) (nC : Nat) (pC : Nat) (x : Int32) (y : Int32) (z : Int32) (Q : Prop) : Prop := True
def v_X4_name (mN : Nat → Bool) (mB : Nat → Bool) (tT : Nat → Int32) (aS : Nat → Nat) (aE : Nat → Nat) (aB : Nat → Nat) (pB : Nat → Int32) (pS : Nat → Nat) (nC : Nat) (pC : Nat) (x : Int32) (y : Int32) (z : Int32) (Q : Prop) : Prop := (r_IR_requireRule nC x) ∧ ((y < 0 → v_X4_name_21 mN mB tT aS aE aB pB pS nC pC x y z Q) ∧ (¬ y < 0 → ∃ i1 : Nat, x = nI i1 ∧ ((r_RL_countNames tT aS aE i1) ∧ ((y < (nI (1 + sp_cnt tT (aE i1) (aS i1))) → (r_IR_requirePath pC) ∧ ((z < 0 → v_X4_name_50 mN mB tT aS aE aB pB pS nC pC x y z Q) ∧ (¬ z < 0 → (z < (nI pC) → False) ∧ (¬ z < (nI pC) → v_X4_name_50 mN mB tT aS aE aB pB pS nC pC x y z Q)))) ∧ (¬ y < (nI (1 + sp_cnt tT (aE i1) (aS i1))) → v_X4_name_21 mN mB tT aS aE aB pB pS nC pC x y z Q)))))
theorem t_X4_name (mN : Nat → Bool) (mB : Nat → Bool) (tT : Nat → Int32) (aS : Nat → Nat) (aE : Nat → Nat) (aB : Nat → Nat) (pB : Nat → Int32) (pS : Nat → Nat) (nC : Nat) (pC : Nat) (x : Int32) (y : Int32) (z : Int32) (hr : r_X4_name mN mB tT aS aE aB pB pS nC pC x y z) : v_X4_name mN mB tT aS aE aB pB pS nC pC x y z True := by
  unfold v_X4_name v_X4_name_21 v_X4_name_50
  obtain ⟨h1, h2, h3, h4, h5, h6⟩ := hr
  have h60 := h1.1
  obtain ⟨i, i1, i2⟩ := ig_rng (c := nC) (by omega) h2
  obtain ⟨g1, g2, -, -⟩ := h1.2 i i1
  have h7 := h3 i i1 i2
  refine ⟨⟨h60, h2⟩, fun q => h7 (Or.inl q), fun _ => ⟨i, i2, ⟨by omega, g1, g2⟩, fun _ => ⟨⟨h4, h5⟩, fun _ => trivial, fun hn => ⟨fun hlt => ?_, fun _ => trivial⟩⟩, fun q => h7 (Or.inr (Int32.not_lt.mp q))⟩⟩
  rcases h6 with q | q
  · exact hn q
  · exact absurd hlt (Int32.not_lt.mpr q)

