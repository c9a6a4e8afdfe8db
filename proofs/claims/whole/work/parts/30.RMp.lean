def r_RM_isBehindOdd (tX : Nat → Int32) (f : Nat) (a : Nat) : Prop := f ≤ a ∧ a ≤ 1000
def p_RM_isBehindOdd (tX : Nat → Int32) (f : Nat) (a : Nat) (r : Bool) : Prop := r = (sp_esc tX f a)
def v_RM_isBehindOdd_32 (tX : Nat → Int32) (f : Nat) (a : Nat) (K2 : Nat → Prop) (Q : Bool → Prop) (b : Nat) : Prop := (b < 2 ^ 31) ∧ ((b % 2 < 2147483648) ∧ ((¬ b % 2 = 1 → Q false) ∧ (b % 2 = 1 → Q true)))
def v_RM_isBehindOdd_2 (tX : Nat → Int32) (f : Nat) (a : Nat) (K2 : Nat → Prop) (Q : Bool → Prop) (b : Nat) : Prop := ((((nI a) - 1) - (nI b)) < (nI f) → v_RM_isBehindOdd_32 tX f a K2 Q b) ∧ (¬ (((nI a) - 1) - (nI b)) < (nI f) → ∃ j1 : Nat, (((nI a) - 1) - (nI b)) = nI j1 ∧ ((j1 < 1000) ∧ ((¬ (tX j1) = 92 → v_RM_isBehindOdd_32 tX f a K2 Q b) ∧ ((tX j1) = 92 → K2 (b + 1)))))
def v_RM_isBehindOdd (tX : Nat → Int32) (f : Nat) (a : Nat) (K2 : Nat → Prop) (Q : Bool → Prop) : Prop := K2 0
theorem t_RM_isBehindOdd (tX : Nat → Int32) (f : Nat) (a : Nat) (hr : r_RM_isBehindOdd tX f a) (K2 : Nat → Prop) (k2 : ∀ b, v_RM_isBehindOdd_2 tX f a K2 (p_RM_isBehindOdd tX f a) b → K2 b) : v_RM_isBehindOdd tX f a K2 (p_RM_isBehindOdd tX f a) := by
  obtain ⟨h1, h2⟩ := hr
  have key : ∀ d b, a - b ≤ d → f + b ≤ a → (∀ j, a - b ≤ j → j < a → tX j = 92) → K2 b := by
    intro d
    have stop : ∀ b, f + b ≤ a → (∀ j, a - b ≤ j → j < a → tX j = 92) → (a - b ≤ f ∨ ¬ tX (a - b - 1) = 92) → v_RM_isBehindOdd_32 tX f a K2 (p_RM_isBehindOdd tX f a) b := by
      intro b hb hin hq
      unfold v_RM_isBehindOdd_32
      have e := sp_run_at (t := tX) (b := f) (k := a) (q := a - b) (by omega) (by omega) hin hq
      rw [show a - (a - b) = b by omega] at e
      refine ⟨by omega, by omega, fun h => ?_, fun h => ?_⟩ <;> simp [p_RM_isBehindOdd, sp_esc, e] <;> omega
    induction d with
    | zero =>
      intro b hd hb hin
      have hba : b = a := by omega
      refine k2 b ?_
      unfold v_RM_isBehindOdd_2
      refine ⟨fun _ => stop b hb hin (Or.inl (by omega)), fun h => ?_⟩
      rw [hba, ig_am1] at h
      exact absurd (Int32.not_le.mp (ig_neg (b := f) (by omega))) h
    | succ d ih =>
      intro b hd hb hin
      refine k2 b ?_
      unfold v_RM_isBehindOdd_2
      by_cases hba : b = a
      · refine ⟨fun _ => stop b hb hin (Or.inl (by omega)), fun h => ?_⟩
        rw [hba, ig_am1] at h
        exact absurd (Int32.not_le.mp (ig_neg (b := f) (by omega))) h
      · have e1 : nI a - 1 - nI b = nI (a - 1 - b) := by
          rw [show (1 : Int32) = nI 1 from rfl, pk_sub (by omega : 1 ≤ a), pk_sub (by omega : b ≤ a - 1)]
        rw [e1]
        refine ⟨fun h => stop b hb hin (Or.inl ?_), fun h => ⟨a - 1 - b, rfl, by omega, fun hn => stop b hb hin (Or.inr ?_), fun hy => ?_⟩⟩
        · rw [ig_lt (by omega) (by omega)] at h
          omega
        · rw [show a - b - 1 = a - 1 - b by omega]; exact hn
        · rw [ig_lt (by omega) (by omega)] at h
          refine ih (b + 1) (by omega) (by omega) (fun j j1 j2 => ?_)
          by_cases hj : j = a - 1 - b
          · rw [hj]; exact hy
          · exact hin j (by omega) j2
  exact key a 0 (by omega) (by omega) (fun j j1 j2 => by omega)

def r_RM_has (tX : Nat → Int32) (f : Nat) (a : Nat) (x : Int32) : Prop := f ≤ a ∧ a ≤ 1000 ∧ x = 47
def p_RM_has (tX : Nat → Int32) (f : Nat) (a : Nat) (x : Int32) (r : Bool) : Prop := r = (decide (sp_eon tX a f < a))
def v_RM_has_3 (tX : Nat → Int32) (f : Nat) (a : Nat) (x : Int32) (K3 : Nat → Prop) (Q : Bool → Prop) (b : Nat) : Prop := (b < 2147483648) ∧ ((a < 2147483648) ∧ ((a ≤ b → Q false) ∧ (¬ a ≤ b → (b < 1000) ∧ ((¬ (tX b) = x → K3 (b + 1)) ∧ ((tX b) = x → Q true)))))
def v_RM_has (tX : Nat → Int32) (f : Nat) (a : Nat) (x : Int32) (K3 : Nat → Prop) (Q : Bool → Prop) : Prop := K3 f
theorem t_RM_has (tX : Nat → Int32) (f : Nat) (a : Nat) (x : Int32) (hr : r_RM_has tX f a x) (K3 : Nat → Prop) (k3 : ∀ b, v_RM_has_3 tX f a x K3 (p_RM_has tX f a x) b → K3 b) : v_RM_has tX f a x K3 (p_RM_has tX f a x) := by
  obtain ⟨h1, h2, h3⟩ := hr
  have key : ∀ d b, a - b ≤ d → b ≤ a → sp_eon tX a b = sp_eon tX a f → K3 b := by
    intro d
    induction d with
    | zero =>
      intro b hd hb he
      refine k3 b ?_
      unfold v_RM_has_3
      refine ⟨by omega, by omega, fun _ => ?_, fun h => by omega⟩
      rw [p_RM_has, ← he, sp_eon_at (Or.inl (by omega)), decide_eq_false (by omega)]
    | succ d ih =>
      intro b hd hb he
      refine k3 b ?_
      unfold v_RM_has_3
      refine ⟨by omega, by omega, fun _ => ?_, fun h => ⟨by omega, fun hn => ?_, fun hy => ?_⟩⟩
      · rw [p_RM_has, ← he, sp_eon_at (Or.inl (by omega)), decide_eq_false (by omega)]
      · exact ih (b + 1) (by omega) (by omega) (by rw [← sp_eon_no (by omega) (by rw [← h3]; exact hn)]; exact he)
      · rw [p_RM_has, ← he, sp_eon_at (Or.inr (by rw [← h3]; exact hy)), decide_eq_true (by omega)]
  exact key a f (by omega) h1 rfl

def r_RM_itemEnd (tX : Nat → Int32) (k : Nat) : Prop := k < 1000
def p_RM_itemEnd (tX : Nat → Int32) (k : Nat) (r : Nat) : Prop := r = (sp_tok tX k)
def v_RM_itemEnd (tX : Nat → Int32) (k : Nat) (Q : Nat → Prop) : Prop := (k < 1000) ∧ ((¬ (tX k) = 92 → Q (k + 1)) ∧ ((tX k) = 92 → Q (k + 2)))
theorem t_RM_itemEnd (tX : Nat → Int32) (k : Nat) (hr : r_RM_itemEnd tX k)  : v_RM_itemEnd tX k (p_RM_itemEnd tX k) := by
  unfold v_RM_itemEnd
  exact ⟨hr, fun h => by rw [p_RM_itemEnd, sp_tok, if_neg h], fun h => by rw [p_RM_itemEnd, sp_tok, if_pos h]⟩

def r_RM_itemByte (tX : Nat → Int32) (k : Nat) : Prop := k < 1000 ∧ sp_tok tX k ≤ 1000
def p_RM_itemByte (tX : Nat → Int32) (k : Nat) (r : Int32) : Prop := r = (sp_byte tX k)
def v_RM_itemByte (tX : Nat → Int32) (k : Nat) (Q : Int32 → Prop) : Prop := (k < 1000) ∧ ((¬ (tX k) = 92 → (k < 1000) ∧ (Q (tX k))) ∧ ((tX k) = 92 → (k + 1 < 1000) ∧ (Q (tX (k + 1)))))
theorem t_RM_itemByte (tX : Nat → Int32) (k : Nat) (hr : r_RM_itemByte tX k)  : v_RM_itemByte tX k (p_RM_itemByte tX k) := by
  obtain ⟨h1, h2⟩ := hr
  unfold v_RM_itemByte
  refine ⟨h1, fun h => ⟨h1, by rw [p_RM_itemByte, sp_byte, if_neg h]⟩, fun h => ⟨?_, by rw [p_RM_itemByte, sp_byte, if_pos h]⟩⟩
  rw [sp_tok, if_pos h] at h2
  omega

def r_RM_itemsFrom (tX : Nat → Int32) (k : Nat) (a : Nat) : Prop := k < a ∧ a ≤ 1000
def p_RM_itemsFrom (tX : Nat → Int32) (k : Nat) (a : Nat) (r : Nat) : Prop := r = (sp_sf tX a k)
def v_RM_itemsFrom (tX : Nat → Int32) (k : Nat) (a : Nat) (Q : Nat → Prop) : Prop := (k + 1 < 2147483648) ∧ ((a < 2147483648) ∧ ((a ≤ k + 1 → Q (k + 1)) ∧ (¬ a ≤ k + 1 → (k + 1 < 1000) ∧ (((tX (k + 1)) = 33 → Q (k + 2)) ∧ (¬ (tX (k + 1)) = 33 → (k + 1 < 1000) ∧ ((¬ (tX (k + 1)) = 94 → Q (k + 1)) ∧ ((tX (k + 1)) = 94 → Q (k + 2))))))))
theorem t_RM_itemsFrom (tX : Nat → Int32) (k : Nat) (a : Nat) (hr : r_RM_itemsFrom tX k a)  : v_RM_itemsFrom tX k a (p_RM_itemsFrom tX k a) := by
  obtain ⟨h1, h2⟩ := hr
  unfold v_RM_itemsFrom
  refine ⟨by omega, by omega, fun h => ?_, fun h => ⟨by omega, fun h3 => ?_, fun h3 => ⟨by omega, fun h4 => ?_, fun h4 => ?_⟩⟩⟩
  · rw [p_RM_itemsFrom, sp_sf, if_neg (by omega)]
  · rw [p_RM_itemsFrom, sp_sf, if_pos ⟨by omega, Or.inl h3⟩]
  · rw [p_RM_itemsFrom, sp_sf, if_neg (by rintro ⟨-, q | q⟩ <;> contradiction)]
  · rw [p_RM_itemsFrom, sp_sf, if_pos ⟨by omega, Or.inr h4⟩]

def r_RM_isRow (tX : Nat → Int32) (k : Nat) (a : Nat) : Prop := k < 2000 ∧ a ≤ 1000
def p_RM_isRow (tX : Nat → Int32) (k : Nat) (a : Nat) (r : Bool) : Prop := r = (sp_row tX a k)
def v_RM_isRow (tX : Nat → Int32) (k : Nat) (a : Nat) (Q : Bool → Prop) : Prop := (k + 1 < 2147483648) ∧ ((a < 2147483648) ∧ ((a ≤ k + 1 → Q false) ∧ (¬ a ≤ k + 1 → (k < 1000) ∧ ((¬ (tX k) = 45 → Q false) ∧ ((tX k) = 45 → (k + 1 < 1000) ∧ (((tX (k + 1)) = 93 → Q false) ∧ (¬ (tX (k + 1)) = 93 → Q true)))))))
theorem t_RM_isRow (tX : Nat → Int32) (k : Nat) (a : Nat) (hr : r_RM_isRow tX k a)  : v_RM_isRow tX k a (p_RM_isRow tX k a) := by
  obtain ⟨h1, h2⟩ := hr
  unfold v_RM_isRow
  refine ⟨by omega, by omega, fun h => ?_, fun h => ⟨by omega, fun h3 => ?_, fun h3 => ⟨by omega, fun h4 => ?_, fun h4 => ?_⟩⟩⟩
  · rw [p_RM_isRow, sp_row, decide_eq_false]
    rintro ⟨q, -⟩
    omega
  · rw [p_RM_isRow, sp_row, decide_eq_false]
    rintro ⟨-, q, -⟩
    exact h3 q
  · rw [p_RM_isRow, sp_row, decide_eq_false]
    rintro ⟨-, -, q⟩
    exact q h4
  · rw [p_RM_isRow, sp_row, decide_eq_true]
    exact ⟨by omega, h3, h4⟩

def r_RM_setEnd (tX : Nat → Int32) (k : Nat) (a : Nat) : Prop := k < a ∧ a ≤ 1000
def p_RM_setEnd (tX : Nat → Int32) (k : Nat) (a : Nat) (r : Nat) : Prop := r = (sp_se tX a (sp_sf tX a k) true)
def v_RM_setEnd_60 (tX : Nat → Int32) (k : Nat) (a : Nat) (K10 : Nat → Bool → Prop) (Q : Nat → Prop) (b : Nat) : Prop := (b < 2147483648) ∧ ((a < 2147483648) ∧ ((a ≤ b → Q (a + 1)) ∧ (¬ a ≤ b → Q (b + 1))))
def v_RM_setEnd_31 (tX : Nat → Int32) (k : Nat) (a : Nat) (K10 : Nat → Bool → Prop) (Q : Nat → Prop) (b : Nat) : Prop := (r_RM_itemEnd tX b) ∧ ((r_RM_isRow tX (sp_tok tX b) a) ∧ ((sp_row tX a (sp_tok tX b) = false → K10 (sp_tok tX b) false) ∧ (sp_row tX a (sp_tok tX b) = true → (r_RM_itemEnd tX ((sp_tok tX b) + 1)) ∧ (K10 (sp_tok tX ((sp_tok tX b) + 1)) false))))
def v_RM_setEnd_10 (tX : Nat → Int32) (k : Nat) (a : Nat) (K10 : Nat → Bool → Prop) (Q : Nat → Prop) (b : Nat) (fi : Bool) : Prop := (b < 2147483648) ∧ ((a < 2147483648) ∧ ((a ≤ b → v_RM_setEnd_60 tX k a K10 Q b) ∧ (¬ a ≤ b → (fi = true → v_RM_setEnd_31 tX k a K10 Q b) ∧ (fi = false → (b < 1000) ∧ (((tX b) = 93 → v_RM_setEnd_60 tX k a K10 Q b) ∧ (¬ (tX b) = 93 → v_RM_setEnd_31 tX k a K10 Q b))))))
def v_RM_setEnd (tX : Nat → Int32) (k : Nat) (a : Nat) (K10 : Nat → Bool → Prop) (Q : Nat → Prop) : Prop := (r_RM_itemsFrom tX k a) ∧ (K10 (sp_sf tX a k) true)
theorem t_RM_setEnd (tX : Nat → Int32) (k : Nat) (a : Nat) (hr : r_RM_setEnd tX k a) (K10 : Nat → Bool → Prop) (k10 : ∀ b fi, v_RM_setEnd_10 tX k a K10 (p_RM_setEnd tX k a) b fi → K10 b fi) : v_RM_setEnd tX k a K10 (p_RM_setEnd tX k a) := by
  obtain ⟨h1, h2⟩ := hr
  have key : ∀ d b fi, a + 1 - b ≤ d → b ≤ a + 3 → sp_se tX a b fi = sp_se tX a (sp_sf tX a k) true → K10 b fi := by
    intro d
    have over : ∀ b fi, a ≤ b → b ≤ a + 3 → sp_se tX a b fi = sp_se tX a (sp_sf tX a k) true → K10 b fi := by
      intro b fi hab hb hI
      refine k10 b fi ?_
      unfold v_RM_setEnd_10 v_RM_setEnd_60
      refine ⟨by omega, by omega, fun _ => ⟨by omega, by omega, fun _ => ?_, fun h => by omega⟩, fun h => by omega⟩
      rw [p_RM_setEnd, ← hI, sp_se, if_neg (by omega)]
    induction d with
    | zero =>
      intro b fi hd hb hI
      exact over b fi (by omega) hb hI
    | succ d ih =>
      intro b fi hd hb hI
      by_cases hab : a ≤ b
      · exact over b fi hab hb hI
      · have go : (fi = true ∨ ¬ tX b = 93) → v_RM_setEnd_31 tX k a K10 (p_RM_setEnd tX k a) b := by
          intro hc
          have e1 : sp_se tX a (sp_nx tX a b) false = sp_se tX a (sp_sf tX a k) true := by
            rw [← hI, sp_se.eq_1 tX a b fi, if_pos (by omega), if_pos hc]
          have t1 := sp_tok_gt tX b
          have t2 : sp_tok tX b ≤ b + 2 := by rw [sp_tok]; split <;> omega
          unfold v_RM_setEnd_31
          refine ⟨by rw [r_RM_itemEnd]; omega, ⟨by omega, h2⟩, fun hr => ?_, fun hr => ⟨?_, ?_⟩⟩
          · have e2 : sp_nx tX a b = sp_tok tX b := by rw [sp_nx, if_neg (by rw [hr]; decide)]
            rw [e2] at e1
            exact ih _ _ (by omega) (by omega) e1
          · have := sp_row_lt hr
            rw [r_RM_itemEnd]; omega
          · have e2 : sp_nx tX a b = sp_tok tX (sp_tok tX b + 1) := by rw [sp_nx, if_pos hr]
            have t3 := sp_tok_gt tX (sp_tok tX b + 1)
            have t4 : sp_tok tX (sp_tok tX b + 1) ≤ sp_tok tX b + 3 := by
              have : ∀ q, sp_tok tX q ≤ q + 2 := by intro q; rw [sp_tok]; split <;> omega
              exact this _
            have := sp_row_lt hr
            rw [e2] at e1
            exact ih _ _ (by omega) (by omega) e1
        refine k10 b fi ?_
        unfold v_RM_setEnd_10 v_RM_setEnd_60
        refine ⟨by omega, by omega, fun h => absurd h hab, fun _ => ⟨fun h => go (Or.inl h), fun h => ⟨by omega, fun h93 => ⟨by omega, by omega, fun h => absurd h hab, fun _ => ?_⟩, fun h93 => go (Or.inr h93)⟩⟩⟩
        rw [p_RM_setEnd, ← hI, sp_se, if_pos (by omega), if_neg]
        rintro (q | q)
        · rw [h] at q; cases q
        · exact q h93
  have := sp_sf_le (t := tX) h1
  unfold v_RM_setEnd
  exact ⟨⟨h1, h2⟩, key (a + 1) _ _ (by omega) (by omega) rfl⟩

def r_RM_isInSet (tX : Nat → Int32) (k : Nat) (a : Nat) (x : Int32) : Prop := k < a ∧ a ≤ 1000 ∧ sp_se tX a (sp_sf tX a k) true ≤ a
def p_RM_isInSet (tX : Nat → Int32) (k : Nat) (a : Nat) (x : Int32) (r : Bool) : Prop := r = (sp_has tX a x (sp_sf tX a k) true != decide (sp_sf tX a k = k + 2))
def v_RM_isInSet_21 (tX : Nat → Int32) (k : Nat) (a : Nat) (x : Int32) (K29 : Nat → Bool → Bool → Bool → Prop) (Q : Bool → Prop) (b : Nat) (s0 : Bool) : Prop := K29 b s0 true false
def v_RM_isInSet_99 (tX : Nat → Int32) (k : Nat) (a : Nat) (x : Int32) (K29 : Nat → Bool → Bool → Bool → Prop) (Q : Bool → Prop) (b : Nat) (tu : Bool) (fi : Bool) (fo : Bool) (lo : Int32) (hi : Int32) : Prop := (fo = true → K29 b tu fi true) ∧ (fo = false → (x < lo → K29 b tu fi false) ∧ (¬ x < lo → (hi < x → K29 b tu fi false) ∧ (¬ hi < x → K29 b tu fi true)))
def v_RM_isInSet_46 (tX : Nat → Int32) (k : Nat) (a : Nat) (x : Int32) (K29 : Nat → Bool → Bool → Bool → Prop) (Q : Bool → Prop) (b : Nat) (tu : Bool) (fo : Bool) : Prop := (r_RM_itemByte tX b) ∧ ((r_RM_itemEnd tX b) ∧ ((r_RM_isRow tX (sp_tok tX b) a) ∧ ((sp_row tX a (sp_tok tX b) = false → v_RM_isInSet_99 tX k a x K29 Q (sp_tok tX b) tu false fo (sp_byte tX b) (sp_byte tX b)) ∧ (sp_row tX a (sp_tok tX b) = true → (r_RM_itemByte tX ((sp_tok tX b) + 1)) ∧ ((r_RM_itemEnd tX ((sp_tok tX b) + 1)) ∧ (v_RM_isInSet_99 tX k a x K29 Q (sp_tok tX ((sp_tok tX b) + 1)) tu false fo (sp_byte tX b) (sp_byte tX ((sp_tok tX b) + 1))))))))
def v_RM_isInSet_29 (tX : Nat → Int32) (k : Nat) (a : Nat) (x : Int32) (K29 : Nat → Bool → Bool → Bool → Prop) (Q : Bool → Prop) (b : Nat) (tu : Bool) (fi : Bool) (fo : Bool) : Prop := (fi = true → v_RM_isInSet_46 tX k a x K29 Q b tu fo) ∧ (fi = false → (b < 1000) ∧ (((tX b) = 93 → (fo = tu → Q false) ∧ (¬ fo = tu → Q true)) ∧ (¬ (tX b) = 93 → v_RM_isInSet_46 tX k a x K29 Q b tu fo)))
def v_RM_isInSet (tX : Nat → Int32) (k : Nat) (a : Nat) (x : Int32) (K29 : Nat → Bool → Bool → Bool → Prop) (Q : Bool → Prop) : Prop := (r_RM_itemsFrom tX k a) ∧ ((sp_sf tX a k < 2147483648) ∧ ((k + 2 < 2147483648) ∧ ((¬ sp_sf tX a k = k + 2 → v_RM_isInSet_21 tX k a x K29 Q (sp_sf tX a k) false) ∧ (sp_sf tX a k = k + 2 → v_RM_isInSet_21 tX k a x K29 Q (sp_sf tX a k) true))))
theorem t_RM_isInSet (tX : Nat → Int32) (k : Nat) (a : Nat) (x : Int32) (hr : r_RM_isInSet tX k a x) (K29 : Nat → Bool → Bool → Bool → Prop) (k29 : ∀ b tu fi fo, v_RM_isInSet_29 tX k a x K29 (p_RM_isInSet tX k a x) b tu fi fo → K29 b tu fi fo) : v_RM_isInSet tX k a x K29 (p_RM_isInSet tX k a x) := by
  obtain ⟨h1, h2, h3⟩ := hr
  have hsf := sp_sf_le (t := tX) h1
  have hgt := sp_se_gt (t := tX) (e := a) (a := sp_sf tX a k) (first := true) hsf
  obtain ⟨z, hz⟩ : ∃ z, sp_se tX a (sp_sf tX a k) true = z + 1 := ⟨sp_se tX a (sp_sf tX a k) true - 1, by omega⟩
  have hza : z + 1 ≤ a := by omega
  have key : ∀ d b fi fo, z - b ≤ d → sp_se tX a b fi = z + 1 → (fo || sp_has tX a x b fi) = sp_has tX a x (sp_sf tX a k) true → K29 b (decide (sp_sf tX a k = k + 2)) fi fo := by
    intro d
    induction d with
    | zero =>
      intro b fi fo hd hs hH
      obtain ⟨g1, g2, -⟩ := sp_set1 hs hza
      have hbz : b = z := by omega
      obtain ⟨hb, hn⟩ := sp_se_in (t := tX) (e := a) (a := b) (first := fi) (by omega)
      have noc : ¬ (fi = true ∨ ¬ tX b = 93) := by
        intro hc
        obtain ⟨n1, n2⟩ := hn hc
        have q1 := sp_nx_gt tX a b
        have q2 := sp_se_gt (t := tX) (e := a) (a := sp_nx tX a b) (first := false) (by omega)
        omega
      rw [g2 hbz x, Bool.or_false] at hH
      have hp : ∀ r, r = (fo != decide (sp_sf tX a k = k + 2)) → p_RM_isInSet tX k a x r := by
        intro r hr
        rw [p_RM_isInSet, ← hH, hr]
      refine k29 b _ fi fo ?_
      unfold v_RM_isInSet_29
      refine ⟨fun h => absurd (Or.inl h) noc, fun h => ⟨by omega, fun h93 => ⟨fun h' => hp _ ?_, fun h' => hp _ ?_⟩, fun h93 => absurd (Or.inr h93) noc⟩⟩
      · rw [← h']; cases fo <;> rfl
      · cases fo <;> cases hq : decide (sp_sf tX a k = k + 2) <;> first | rfl | (rw [hq] at h'; exact absurd rfl h')
    | succ d ih =>
      intro b fi fo hd hs hH
      obtain ⟨g1, g2, g3⟩ := sp_set1 hs hza
      obtain ⟨hb, hn⟩ := sp_se_in (t := tX) (e := a) (a := b) (first := fi) (by omega)
      have body : (fi = true ∨ ¬ tX b = 93) → v_RM_isInSet_46 tX k a x K29 (p_RM_isInSet tX k a x) b (decide (sp_sf tX a k = k + 2)) fo := by
        intro hc
        have hbz : b < z := by
          by_cases hbz : b = z
          · obtain ⟨n1, n2⟩ := hn hc
            have q1 := sp_nx_gt tX a b
            have q2 := sp_se_gt (t := tX) (e := a) (a := sp_nx tX a b) (first := false) (by omega)
            omega
          · omega
        obtain ⟨-, gs, gn⟩ := g3 hbz
        have hg := sp_nx_gt tX a b
        have ht := sp_tok_nx (t := tX) (e := a) (a := b)
        rw [sp_has1 x hs hza hbz] at hH
        have nx : ∀ lo hi, lo = sp_byte tX b → hi = sp_hi tX a b → v_RM_isInSet_99 tX k a x K29 (p_RM_isInSet tX k a x) (sp_nx tX a b) (decide (sp_sf tX a k = k + 2)) false fo lo hi := by
          intro lo hi hlo hhi
          subst hlo hhi
          unfold v_RM_isInSet_99
          refine ⟨fun h => ?_, fun h => ⟨fun h4 => ?_, fun h4 => ⟨fun h5 => ?_, fun h5 => ?_⟩⟩⟩
          · refine ih _ false true (by omega) gs ?_
            rw [← hH, h]
            simp
          · refine ih _ false false (by omega) gs ?_
            rw [← hH, h, decide_eq_false (fun q => absurd q.1 (Int32.not_le.mpr h4)), Bool.false_or, Bool.false_or]
          · refine ih _ false false (by omega) gs ?_
            rw [← hH, h, decide_eq_false (fun q => absurd q.2 (Int32.not_le.mpr h5)), Bool.false_or, Bool.false_or]
          · refine ih _ false true (by omega) gs ?_
            rw [← hH, decide_eq_true ⟨Int32.not_lt.mp h4, Int32.not_lt.mp h5⟩]
            simp
        unfold v_RM_isInSet_46
        refine ⟨⟨by omega, by omega⟩, by rw [r_RM_itemEnd]; omega, ⟨by omega, h2⟩, fun hr => ?_, fun hr => ⟨⟨?_, ?_⟩, ?_, ?_⟩⟩
        · have e1 : sp_nx tX a b = sp_tok tX b := by rw [sp_nx, if_neg (by rw [hr]; decide)]
          have := nx (sp_byte tX b) (sp_byte tX b) rfl (by rw [sp_hi, if_neg (by rw [hr]; decide)])
          rw [e1] at this
          exact this
        · have := sp_row_lt hr
          omega
        · have e1 : sp_nx tX a b = sp_tok tX (sp_tok tX b + 1) := by rw [sp_nx, if_pos hr]
          omega
        · have := sp_row_lt hr
          rw [r_RM_itemEnd]; omega
        · have e1 : sp_nx tX a b = sp_tok tX (sp_tok tX b + 1) := by rw [sp_nx, if_pos hr]
          have := nx (sp_byte tX b) (sp_byte tX (sp_tok tX b + 1)) rfl (by rw [sp_hi, if_pos hr])
          rw [e1] at this
          exact this
      refine k29 b _ fi fo ?_
      unfold v_RM_isInSet_29
      refine ⟨fun h => body (Or.inl h), fun h => ⟨by omega, fun h93 => ?_, fun h93 => body (Or.inr h93)⟩⟩
      have hbz : b = z := by
        rw [sp_se, if_pos hb, if_neg] at hs
        · omega
        · rintro (q | q)
          · rw [h] at q; cases q
          · exact q h93
      rw [g2 hbz x, Bool.or_false] at hH
      have hp : ∀ r, r = (fo != decide (sp_sf tX a k = k + 2)) → p_RM_isInSet tX k a x r := by
        intro r hr
        rw [p_RM_isInSet, ← hH, hr]
      refine ⟨fun h' => hp _ ?_, fun h' => hp _ ?_⟩
      · rw [← h']; cases fo <;> rfl
      · cases fo <;> cases hq : decide (sp_sf tX a k = k + 2) <;> first | rfl | (rw [hq] at h'; exact absurd rfl h')
  have start := key z _ true false (by omega) hz (by rw [Bool.false_or])
  unfold v_RM_isInSet v_RM_isInSet_21
  refine ⟨⟨h1, h2⟩, by omega, by omega, fun h => ?_, fun h => ?_⟩
  · rw [decide_eq_false h] at start
    exact start
  · rw [decide_eq_true h] at start
    exact start

def r_RM_look (nx : Nat) (so : Nat) (tX : Nat → Int32) (k : Nat) (a : Nat) : Prop := k < a ∧ a ≤ 1000
def p_RM_look (nx : Nat) (so : Nat) (tX : Nat → Int32) (k : Nat) (a : Nat) (nx' : Nat) (so' : Nat) : Prop := nx' = (sp_end tX a k) ∧ so' = (sp_sort tX a k)
def v_RM_look_58 (nx : Nat) (so : Nat) (tX : Nat → Int32) (k : Nat) (a : Nat) (Q : Nat → Nat → Prop) (s0 : Nat) (nxc : Nat) (soc : Nat) : Prop := Q (k + 2) s0
def v_RM_look_101 (nx : Nat) (so : Nat) (tX : Nat → Int32) (k : Nat) (a : Nat) (Q : Nat → Nat → Prop) (s0 : Nat) (nxc : Nat) (soc : Nat) : Prop := Q nxc s0
def v_RM_look_36 (nx : Nat) (so : Nat) (tX : Nat → Int32) (k : Nat) (a : Nat) (Q : Nat → Nat → Prop) (x : Int32) (s0 : Nat) (nxc : Nat) (soc : Nat) : Prop := (¬ x = 92 → (¬ x = 91 → Q nxc s0) ∧ (x = 91 → (r_RM_setEnd tX k a) ∧ ((sp_se tX a (sp_sf tX a k) true < 2147483648) ∧ ((a < 2147483648) ∧ ((sp_se tX a (sp_sf tX a k) true ≤ a → v_RM_look_101 nx so tX k a Q 3 (sp_se tX a (sp_sf tX a k) true) s0) ∧ (¬ sp_se tX a (sp_sf tX a k) true ≤ a → v_RM_look_101 nx so tX k a Q 4 (sp_se tX a (sp_sf tX a k) true) s0)))))) ∧ (x = 92 → (k + 1 < 2147483648) ∧ ((a < 2147483648) ∧ ((a ≤ k + 1 → v_RM_look_58 nx so tX k a Q 4 nxc s0) ∧ (¬ a ≤ k + 1 → v_RM_look_58 nx so tX k a Q 0 nxc s0))))
def v_RM_look (nx : Nat) (so : Nat) (tX : Nat → Int32) (k : Nat) (a : Nat) (Q : Nat → Nat → Prop) : Prop := (k < 1000) ∧ ((¬ (tX k) = 63 → (¬ (tX k) = 42 → v_RM_look_36 nx so tX k a Q (tX k) 0 (k + 1) so) ∧ ((tX k) = 42 → v_RM_look_36 nx so tX k a Q (tX k) 2 (k + 1) so)) ∧ ((tX k) = 63 → v_RM_look_36 nx so tX k a Q (tX k) 1 (k + 1) so))
theorem t_RM_look (nx : Nat) (so : Nat) (tX : Nat → Int32) (k : Nat) (a : Nat) (hr : r_RM_look nx so tX k a)  : v_RM_look nx so tX k a (p_RM_look nx so tX k a) := by
  obtain ⟨h1, h2⟩ := hr
  have main : ∀ s0 soc, s0 = (if tX k = 63 then 1 else if tX k = 42 then 2 else 0) → v_RM_look_36 nx so tX k a (p_RM_look nx so tX k a) (tX k) s0 (k + 1) soc := by
    intro s0 soc hs0
    have hse := sp_se_le (t := tX) (e := a) (a := sp_sf tX a k) (first := true)
    unfold v_RM_look_36 v_RM_look_101 v_RM_look_58
    refine ⟨fun h92 => ⟨fun h91 => ⟨?_, ?_⟩, fun h91 => ⟨⟨h1, h2⟩, by omega, by omega, fun h => ⟨?_, ?_⟩, fun h => ⟨?_, ?_⟩⟩⟩, fun h92 => ⟨by omega, by omega, fun h => ⟨?_, ?_⟩, fun h => ⟨?_, ?_⟩⟩⟩
    · rw [sp_end, if_neg h92, if_neg h91]
    · rw [sp_sort, if_neg h92, if_neg h91, hs0]
    · rw [sp_end, if_neg h92, if_pos h91]
    · rw [sp_sort, if_neg h92, if_pos h91, sp_end, if_neg h92, if_pos h91, if_neg (by omega)]
    · rw [sp_end, if_neg h92, if_pos h91]
    · rw [sp_sort, if_neg h92, if_pos h91, sp_end, if_neg h92, if_pos h91, if_pos (by omega)]
    · rw [sp_end, if_pos h92]
    · rw [sp_sort, if_pos h92, if_neg (by omega)]
    · rw [sp_end, if_pos h92]
    · rw [sp_sort, if_pos h92, if_pos (by omega)]
  unfold v_RM_look
  refine ⟨by omega, fun h => ⟨fun h3 => main _ _ ?_, fun h3 => main _ _ ?_⟩, fun h => main _ _ ?_⟩
  · rw [if_neg h, if_neg h3]
  · rw [if_neg h, if_pos h3]
  · rw [if_pos h]

def r_RM_isVoidName (nx : Nat) (so : Nat) (tX : Nat → Int32) (f : Nat) (a : Nat) : Prop := f ≤ a ∧ a ≤ 1000
def p_RM_isVoidName (nx : Nat) (so : Nat) (tX : Nat → Int32) (f : Nat) (a : Nat) (r : Bool) (nx' : Nat) (so' : Nat) : Prop := r = (decide (f = a) || sp_void tX a f)
def v_RM_isVoidName_2 (nx : Nat) (so : Nat) (tX : Nat → Int32) (f : Nat) (a : Nat) (K2 : Nat → Nat → Nat → Prop) (Q : Bool → Nat → Nat → Prop) (b : Nat) (nxc : Nat) (soc : Nat) : Prop := (b < 2147483648) ∧ ((a < 2147483648) ∧ ((a ≤ b → (f < 2147483648) ∧ ((a < 2147483648) ∧ ((¬ f = a → Q false nxc soc) ∧ (f = a → Q true nxc soc)))) ∧ (¬ a ≤ b → (r_RM_look nxc soc tX b a) ∧ ((sp_sort tX a b < 2147483648) ∧ ((¬ sp_sort tX a b = 4 → K2 (sp_end tX a b) (sp_end tX a b) (sp_sort tX a b)) ∧ (sp_sort tX a b = 4 → Q true (sp_end tX a b) (sp_sort tX a b)))))))
def v_RM_isVoidName (nx : Nat) (so : Nat) (tX : Nat → Int32) (f : Nat) (a : Nat) (K2 : Nat → Nat → Nat → Prop) (Q : Bool → Nat → Nat → Prop) : Prop := K2 f nx so
theorem t_RM_isVoidName (nx : Nat) (so : Nat) (tX : Nat → Int32) (f : Nat) (a : Nat) (hr : r_RM_isVoidName nx so tX f a) (K2 : Nat → Nat → Nat → Prop) (k2 : ∀ b nxc soc, v_RM_isVoidName_2 nx so tX f a K2 (p_RM_isVoidName nx so tX f a) b nxc soc → K2 b nxc soc) : v_RM_isVoidName nx so tX f a K2 (p_RM_isVoidName nx so tX f a) := by
  obtain ⟨h1, h2⟩ := hr
  have key : ∀ d b n s, a - b ≤ d → b ≤ a → f ≤ b → sp_void tX a b = sp_void tX a f → K2 b n s := by
    intro d
    have stop : ∀ b n s, b = a → sp_void tX a b = sp_void tX a f → K2 b n s := by
      intro b n s hb hI
      have e1 : sp_void tX a b = false := by rw [sp_void, dif_neg (by omega)]
      refine k2 b n s ?_
      unfold v_RM_isVoidName_2
      refine ⟨by omega, by omega, fun _ => ⟨by omega, by omega, fun h => ?_, fun h => ?_⟩, fun h => by omega⟩
      · rw [p_RM_isVoidName, ← hI, e1, decide_eq_false h]
        rfl
      · rw [p_RM_isVoidName, decide_eq_true h]
        rfl
    induction d with
    | zero => intro b n s hd hb hf hI; exact stop b n s (by omega) hI
    | succ d ih =>
      intro b n s hd hb hf hI
      by_cases hba : b = a
      · exact stop b n s hba hI
      · have hlt : b < a := by omega
        have hg := sp_end_gt (t := tX) hlt
        have h4 := sp_sort4 (t := tX) hlt
        have hle := sp_sort_le tX a b
        refine k2 b n s ?_
        unfold v_RM_isVoidName_2
        refine ⟨by omega, by omega, fun h => by omega, fun _ => ⟨⟨hlt, h2⟩, by omega, fun h => ?_, fun h => ?_⟩⟩
        · have he : sp_end tX a b ≤ a := by
            by_cases he : sp_end tX a b ≤ a
            · exact he
            · exact absurd (h4.mpr he) h
          refine ih _ _ _ (by omega) he (by omega) ?_
          rw [← hI, sp_void.eq_1 tX a b, dif_pos hlt, if_pos he]
        · have e1 : sp_void tX a b = true := by rw [sp_void, dif_pos hlt, if_neg (h4.mp h)]
          rw [p_RM_isVoidName, ← hI, e1]
          simp
  exact key a f nx so (by omega) h1 (Nat.le_refl _) rfl

