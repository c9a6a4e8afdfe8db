def r_RM_feed (th : Nat) (si : Nat) (tA : Nat → Int32) (x : Int32) (b : Int64) : Prop := si ≤ 1000
def q_RM_feed (th : Nat) (si : Nat) (tA : Nat → Int32) (x : Int32) (b : Int64) (r : Int32) (th' : Nat) (si' : Nat) (tA' : Nat → Int32) : Prop := ((x < 1 ∨ 8 < x) → th' = 1 ∧ r = 0 ∧ si' = si ∧ tA' = tA) ∧ (∀ n, 1 ≤ n → n ≤ 8 → x = nI n → th' = 0 ∧ (1000 < si + n → r = -1 ∧ si' = si ∧ tA' = tA) ∧ (si + n ≤ 1000 → r = nI (si + n) ∧ si' = si + n ∧ ∀ k, tA' k = if si ≤ k ∧ k < si + n then sp_by b (k - si) else tA k))
def p_RM_feed (th : Nat) (si : Nat) (tA : Nat → Int32) (x : Int32) (b : Int64) (r : Int32) (th' : Nat) (si' : Nat) (tA' : Nat → Int32) : Prop := q_RM_feed th si tA x b r th' si' tA'
def v_RM_feed_17 (th : Nat) (si : Nat) (tA : Nat → Int32) (x : Int32) (b : Int64) (K46 : Nat → Nat → Nat → (Nat → Int32) → Prop) (Q : Int32 → Nat → Nat → (Nat → Int32) → Prop) (s0 : Nat) (thc : Nat) (sic : Nat) (tAc : Nat → Int32) : Prop := (s0 < 2147483648) ∧ ((s0 ≤ 0 → ∃ n1 : Nat, x = nI n1 ∧ ((sic + n1 < 2147483648) ∧ ((sic + n1 ≤ 1000 → K46 0 s0 sic tAc) ∧ (¬ sic + n1 ≤ 1000 → Q (-1) s0 sic tAc)))) ∧ (¬ s0 ≤ 0 → Q 0 s0 sic tAc))
def v_RM_feed_12 (th : Nat) (si : Nat) (tA : Nat → Int32) (x : Int32) (b : Int64) (K46 : Nat → Nat → Nat → (Nat → Int32) → Prop) (Q : Int32 → Nat → Nat → (Nat → Int32) → Prop) (thc : Nat) (sic : Nat) (tAc : Nat → Int32) : Prop := v_RM_feed_17 th si tA x b K46 Q 1 thc sic tAc
def v_RM_feed_46 (th : Nat) (si : Nat) (tA : Nat → Int32) (x : Int32) (b : Int64) (K46 : Nat → Nat → Nat → (Nat → Int32) → Prop) (Q : Int32 → Nat → Nat → (Nat → Int32) → Prop) (k : Nat) (thc : Nat) (sic : Nat) (tAc : Nat → Int32) : Prop := ∃ n2 : Nat, x = nI n2 ∧ ((k < 2147483648) ∧ ((n2 < 2147483648) ∧ ((n2 ≤ k → Q (nI sic) thc sic tAc) ∧ (¬ n2 ≤ k → (sic < 1000) ∧ (K46 (k + 1) thc (sic + 1) (upd tAc sic (((b >>> ((nI (8 * k)).toInt64 &&& 63)) &&& 255).toInt32)))))))
def v_RM_feed (th : Nat) (si : Nat) (tA : Nat → Int32) (x : Int32) (b : Int64) (K46 : Nat → Nat → Nat → (Nat → Int32) → Prop) (Q : Int32 → Nat → Nat → (Nat → Int32) → Prop) : Prop := (x < 1 → v_RM_feed_12 th si tA x b K46 Q th si tA) ∧ (¬ x < 1 → (x ≤ 8 → v_RM_feed_17 th si tA x b K46 Q 0 th si tA) ∧ (¬ x ≤ 8 → v_RM_feed_12 th si tA x b K46 Q th si tA))
theorem t_RM_feed (th : Nat) (si : Nat) (tA : Nat → Int32) (x : Int32) (b : Int64) (hr : r_RM_feed th si tA x b) (K46 : Nat → Nat → Nat → (Nat → Int32) → Prop) (k46 : ∀ k thc sic tAc, v_RM_feed_46 th si tA x b K46 (p_RM_feed th si tA x b) k thc sic tAc → K46 k thc sic tAc) : v_RM_feed th si tA x b K46 (p_RM_feed th si tA x b) := by
  have hs : si ≤ 1000 := hr
  have one : (x < 1 ∨ 8 < x) → v_RM_feed_12 th si tA x b K46 (p_RM_feed th si tA x b) th si tA := by
    intro hx
    unfold v_RM_feed_12 v_RM_feed_17
    refine ⟨by decide, fun h => absurd h (by decide), fun _ => ⟨fun _ => ⟨rfl, rfl, rfl, rfl⟩, fun n n1 n2 e => ?_⟩⟩
    rw [e] at hx
    exact absurd hx (ig_18n n1 n2)
  unfold v_RM_feed
  refine ⟨fun h => one (Or.inl h), fun h => ⟨fun h2 => ?_, fun h2 => one (Or.inr (Int32.not_le.mp h2))⟩⟩
  have nx : ¬ (x < 1 ∨ 8 < x) := by
    rintro (q | q)
    · exact h q
    · exact absurd h2 (Int32.not_le.mpr q)
  obtain ⟨n, n1, n8, e⟩ := ig_18 h h2
  have e2 : ∀ n', n' ≤ 8 → x = nI n' → n' = n := fun n' g1 g2 => (ig_eq (by omega) (by omega)).mp (g2.symm.trans e)
  have fin : ∀ t', si + n ≤ 1000 → (∀ j, t' j = if si ≤ j ∧ j < si + n then sp_by b (j - si) else tA j) → p_RM_feed th si tA x b (nI (si + n)) 0 (si + n) t' := by
    intro t' g hT
    refine ⟨fun h => absurd h nx, fun n' g1 g2 g3 => ?_⟩
    rw [e2 n' g2 g3]
    exact ⟨rfl, fun h => by omega, fun _ => ⟨rfl, rfl, hT⟩⟩
  have key : ∀ m k t', n - k ≤ m → k ≤ n → si + n ≤ 1000 → (∀ j, t' j = if si ≤ j ∧ j < si + k then sp_by b (j - si) else tA j) → K46 k 0 (si + k) t' := by
    intro m
    induction m with
    | zero =>
      intro k t' g1 g2 g3 hT
      have ek : k = n := by omega
      rw [ek] at hT ⊢
      refine k46 _ _ _ _ ?_
      unfold v_RM_feed_46
      exact ⟨n, e, by omega, by omega, fun _ => fin t' g3 hT, fun q => absurd (Nat.le_refl _) q⟩
    | succ m ih =>
      intro k t' g1 g2 g3 hT
      refine k46 _ _ _ _ ?_
      unfold v_RM_feed_46
      refine ⟨n, e, by omega, by omega, fun q => ?_, fun q => ⟨by omega, ?_⟩⟩
      · have ek : k = n := by omega
        rw [ek] at hT ⊢
        exact fin t' g3 hT
      · refine ih (k + 1) _ (by omega) (by omega) g3 (fun j => ?_)
        by_cases hj : j = si + k
        · rw [hj, if_pos ⟨by omega, by omega⟩, Nat.add_sub_cancel_left]
          simp only [upd, if_true]
          rfl
        · have hu : upd t' (si + k) (((b >>> ((nI (8 * k)).toInt64 &&& 63)) &&& 255).toInt32) j = t' j := by simp only [upd, if_neg hj]
          rw [hu, hT j]
          by_cases c : si ≤ j ∧ j < si + k
          · rw [if_pos c, if_pos ⟨c.1, by omega⟩]
          · rw [if_neg c, if_neg (by omega)]
  unfold v_RM_feed_17
  refine ⟨by decide, fun _ => ⟨n, e, by omega, fun g => key n 0 tA (by omega) (by omega) g (fun j => ?_), fun g => ?_⟩, fun q => absurd (Nat.le_refl 0) q⟩
  · rw [if_neg (by omega)]
  · refine ⟨fun h => absurd h nx, fun n' g1 g2 g3 => ?_⟩
    rw [e2 n' g2 g3]
    exact ⟨rfl, fun _ => ⟨rfl, rfl, rfl⟩, fun h => absurd h g⟩

