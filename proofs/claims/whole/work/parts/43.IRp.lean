def r_IR_feed (tl : Nat) (tA : Nat → Int32) (x : Int32) (b : Int64) : Prop := tl ≤ 1000 ∧ ¬ (x < 1 ∨ 8 < x)
def q_IR_feed (tl : Nat) (tA : Nat → Int32) (x : Int32) (b : Int64) (r : Int32) (tl' : Nat) (tA' : Nat → Int32) : Prop := ∀ n, 1 ≤ n → n ≤ 8 → x = nI n → (1000 < tl + n → r = -1 ∧ tl' = tl ∧ tA' = tA) ∧ (tl + n ≤ 1000 → r = nI (tl + n) ∧ tl' = tl + n ∧ ∀ k, tA' k = if tl ≤ k ∧ k < tl + n then sp_cy b (k - tl) else tA k)
def p_IR_feed (tl : Nat) (tA : Nat → Int32) (x : Int32) (b : Int64) (r : Int32) (tl' : Nat) (tA' : Nat → Int32) : Prop := q_IR_feed tl tA x b r tl' tA'
def v_IR_feed_11 (tl : Nat) (tA : Nat → Int32) (x : Int32) (b : Int64) (K38 : Nat → Nat → (Nat → Int32) → Prop) (Q : Int32 → Nat → (Nat → Int32) → Prop) (tlc : Nat) (tAc : Nat → Int32) : Prop := False
def v_IR_feed_38 (tl : Nat) (tA : Nat → Int32) (x : Int32) (b : Int64) (K38 : Nat → Nat → (Nat → Int32) → Prop) (Q : Int32 → Nat → (Nat → Int32) → Prop) (k : Nat) (tlc : Nat) (tAc : Nat → Int32) : Prop := ∃ n2 : Nat, x = nI n2 ∧ ((k < 2147483648) ∧ ((n2 < 2147483648) ∧ ((n2 ≤ k → ∃ n3 : Nat, x = nI n3 ∧ (Q (nI (tlc + n3)) (tlc + n3) tAc)) ∧ (¬ n2 ≤ k → (tlc + k < 1000) ∧ ((vp_nar .char ((((((b.toUInt64 >>> ((nI (8 * k)).toInt64.toUInt64 &&& Int64.toUInt64 63)).toInt64) &&& 255).toInt32).toUInt32 % 65536).toInt32) = ((((((b.toUInt64 >>> ((nI (8 * k)).toInt64.toUInt64 &&& Int64.toUInt64 63)).toInt64) &&& 255).toInt32).toUInt32 % 65536).toInt32)) ∧ (K38 (k + 1) tlc (upd tAc (tlc + k) ((((((b.toUInt64 >>> ((nI (8 * k)).toInt64.toUInt64 &&& Int64.toUInt64 63)).toInt64) &&& 255).toInt32).toUInt32 % 65536).toInt32))))))))
def v_IR_feed (tl : Nat) (tA : Nat → Int32) (x : Int32) (b : Int64) (K38 : Nat → Nat → (Nat → Int32) → Prop) (Q : Int32 → Nat → (Nat → Int32) → Prop) : Prop := (x < 1 → v_IR_feed_11 tl tA x b K38 Q tl tA) ∧ (¬ x < 1 → (x ≤ 8 → ∃ n1 : Nat, x = nI n1 ∧ ((tl + n1 < 2147483648) ∧ ((tl + n1 ≤ 1000 → K38 0 tl tA) ∧ (¬ tl + n1 ≤ 1000 → Q (-1) tl tA)))) ∧ (¬ x ≤ 8 → v_IR_feed_11 tl tA x b K38 Q tl tA))
theorem t_IR_feed (tl : Nat) (tA : Nat → Int32) (x : Int32) (b : Int64) (hr : r_IR_feed tl tA x b) (K38 : Nat → Nat → (Nat → Int32) → Prop) (k38 : ∀ k tlc tAc, v_IR_feed_38 tl tA x b K38 (p_IR_feed tl tA x b) k tlc tAc → K38 k tlc tAc) : v_IR_feed tl tA x b K38 (p_IR_feed tl tA x b) := by
  obtain ⟨hs, nx⟩ := hr
  unfold v_IR_feed
  refine ⟨fun h => absurd (Or.inl h) nx, fun h => ⟨fun h2 => ?_, fun h2 => absurd (Or.inr (Int32.not_le.mp h2)) nx⟩⟩
  obtain ⟨n, n1, n8, e⟩ := ig_18 h h2
  have e2 : ∀ n', n' ≤ 8 → x = nI n' → n' = n := fun n' g1 g2 => (ig_eq (by omega) (by omega)).mp (g2.symm.trans e)
  have fin : ∀ t', tl + n ≤ 1000 → (∀ j, t' j = if tl ≤ j ∧ j < tl + n then sp_cy b (j - tl) else tA j) → p_IR_feed tl tA x b (nI (tl + n)) (tl + n) t' := by
    intro t' g hT n' g1 g2 g3
    rw [e2 n' g2 g3]
    exact ⟨fun h => by omega, fun _ => ⟨rfl, rfl, hT⟩⟩
  have key : ∀ m k t', n - k ≤ m → k ≤ n → tl + n ≤ 1000 → (∀ j, t' j = if tl ≤ j ∧ j < tl + k then sp_cy b (j - tl) else tA j) → K38 k tl t' := by
    intro m
    induction m with
    | zero =>
      intro k t' g1 g2 g3 hT
      have ek : k = n := by omega
      rw [ek] at hT ⊢
      refine k38 _ _ _ ?_
      unfold v_IR_feed_38
      exact ⟨n, e, by omega, by omega, fun _ => ⟨n, e, fin t' g3 hT⟩, fun q => absurd (Nat.le_refl _) q⟩
    | succ m ih =>
      intro k t' g1 g2 g3 hT
      refine k38 _ _ _ ?_
      unfold v_IR_feed_38
      refine ⟨n, e, by omega, by omega, fun q => ?_, fun q => ⟨by omega, pk_vc _, ?_⟩⟩
      · have ek : k = n := by omega
        rw [ek] at hT
        exact ⟨n, e, fin t' g3 hT⟩
      · refine ih (k + 1) _ (by omega) (by omega) g3 (fun j => ?_)
        by_cases hj : j = tl + k
        · rw [hj, if_pos ⟨by omega, by omega⟩, Nat.add_sub_cancel_left]
          simp only [upd, if_true]
          rfl
        · have hu : ∀ v : Int32, upd t' (tl + k) v j = t' j := by intro v; simp only [upd, if_neg hj]
          rw [hu, hT j]
          by_cases c : tl ≤ j ∧ j < tl + k
          · rw [if_pos c, if_pos ⟨c.1, by omega⟩]
          · rw [if_neg c, if_neg (by omega)]
  refine ⟨n, e, by omega, fun g => key n 0 tA (by omega) (by omega) g (fun j => ?_), fun g => ?_⟩
  · rw [if_neg (by omega)]
  · intro n' g1 g2 g3
    rw [e2 n' g2 g3]
    exact ⟨fun _ => ⟨rfl, rfl, rfl⟩, fun h => absurd h g⟩

