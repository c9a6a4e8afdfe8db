theorem sp_se_le {t : Nat → Int32} {e a : Nat} {first : Bool} : sp_se t e a first ≤ e + 1 := by
  rw [sp_se]
  split
  · split
    · have := sp_nx_gt t e a
      exact sp_se_le
    · omega
  · omega
termination_by e - a
decreasing_by omega
theorem sp_end_le {t : Nat → Int32} {e k : Nat} (hk : k < e) : sp_end t e k ≤ e + 1 := by
  rw [sp_end]
  split
  · omega
  · split
    · exact sp_se_le
    · omega
theorem sp_sort_le (t : Nat → Int32) (e k : Nat) : sp_sort t e k ≤ 4 := by
  rw [sp_sort]
  split
  · split <;> omega
  · split
    · split <;> omega
    · split
      · omega
      · split <;> omega
theorem sp_sort4 {t : Nat → Int32} {e k : Nat} (hk : k < e) : sp_sort t e k = 4 ↔ ¬ sp_end t e k ≤ e := by
  rw [sp_sort]
  by_cases h92 : t k = 92
  · rw [if_pos h92, sp_end, if_pos h92]
    split <;> omega
  · rw [if_neg h92]
    by_cases h91 : t k = 91
    · rw [if_pos h91]
      split <;> omega
    · rw [if_neg h91, sp_end, if_neg h92, if_neg h91]
      split
      · omega
      · split <;> omega
theorem sp_sort2 {t : Nat → Int32} {e k : Nat} : sp_sort t e k = 2 ↔ t k = 42 := by
  rw [sp_sort]
  by_cases h92 : t k = 92
  · rw [if_pos h92, h92]
    constructor
    · split <;> omega
    · intro h; exact absurd h (by decide)
  · rw [if_neg h92]
    by_cases h91 : t k = 91
    · rw [if_pos h91, h91]
      constructor
      · split <;> omega
      · intro h; exact absurd h (by decide)
    · rw [if_neg h91]
      by_cases h63 : t k = 63
      · rw [if_pos h63, h63]
        exact ⟨fun h => absurd h (by decide), fun h => absurd h (by decide)⟩
      · rw [if_neg h63]
        by_cases h42 : t k = 42
        · rw [if_pos h42]; exact ⟨fun _ => h42, fun _ => rfl⟩
        · rw [if_neg h42]; exact ⟨fun h => absurd h (by decide), fun h => absurd h h42⟩
theorem ig_am1 (x : Int32) : x - 1 - x = -1 := by
  rw [Int32.sub_eq_add_neg, Int32.sub_eq_add_neg, Int32.add_comm x (-1), Int32.add_assoc, ← Int32.sub_eq_add_neg x x, Int32.sub_self, Int32.add_zero]
