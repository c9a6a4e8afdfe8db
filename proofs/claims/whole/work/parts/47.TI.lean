/-! the bytes of a fed word, on both sides; feeding -/
theorem sp_255 : ∀ i, i < 64 → 8 ≤ i → (255#64).getLsbD i = false := by decide
theorem sp_sh (x : BitVec 64) (n : Nat) (hn : n ≤ 56) : x.sshiftRight n &&& 255#64 = x >>> n &&& 255#64 := by
  apply BitVec.eq_of_getLsbD_eq
  intro i hi
  rw [BitVec.getLsbD_and, BitVec.getLsbD_and]
  by_cases h8 : 8 ≤ i
  · rw [sp_255 i hi h8, Bool.and_false, Bool.and_false]
  · rw [BitVec.getLsbD_sshiftRight, BitVec.getLsbD_ushiftRight, if_pos (by omega), decide_eq_false (by omega)]
    simp
theorem sp_sh1 (b : Int64) (n : Nat) (hn : n ≤ 56) (s : Int64) (hs : (s.toBitVec.smod 64).toNat = n) (s2 : UInt64) (hs2 : (s2.toNat % 64) = n) : (b >>> s) &&& 255 = (b.toUInt64 >>> s2).toInt64 &&& 255 := by
  apply Int64.toBitVec_inj.mp
  rw [Int64.toBitVec_and, Int64.toBitVec_and]
  have e1 : (b >>> s).toBitVec = b.toBitVec.sshiftRight n := by
    rw [Int64.toBitVec_shiftRight, ← hs]
    rfl
  have e2 : ((b.toUInt64 >>> s2).toInt64).toBitVec = b.toBitVec >>> n := by
    rw [← hs2]
    show (b.toUInt64 >>> s2).toBitVec = _
    rw [UInt64.toBitVec_shiftRight]
    show b.toBitVec >>> (s2.toBitVec % 64) = _
    rw [BitVec.ushiftRight_eq']
    congr 1
  rw [e1, e2]
  exact sp_sh b.toBitVec n hn
theorem sp_nr (y : Int32) : (((y &&& 255).toUInt32 % 65536).toInt32) = y &&& 255 := by
  apply Int32.toBitVec_inj.mp
  apply BitVec.eq_of_toNat_eq
  show ((y &&& 255).toUInt32 % 65536).toNat = (y.toBitVec &&& 255#32).toNat
  rw [UInt32.toNat_mod]
  show (y.toBitVec &&& 255#32).toNat % 65536 = (y.toBitVec &&& 255#32).toNat
  apply Nat.mod_eq_of_lt
  rw [BitVec.toNat_and]
  exact Nat.lt_of_le_of_lt Nat.and_le_right (by decide)
theorem sp_by_cy (b : Int64) : ∀ k, k < 8 → sp_by b k = sp_cy b k := by
  intro k hk
  rw [sp_by, sp_cy]
  have h3 : ∀ z : Int64, (z &&& 255).toInt32 = z.toInt32 &&& 255 := fun z => Int64.toInt32_and z 255
  rw [h3 ((b.toUInt64 >>> _).toInt64), sp_nr, ← h3]
  congr 1
  have : k = 0 ∨ k = 1 ∨ k = 2 ∨ k = 3 ∨ k = 4 ∨ k = 5 ∨ k = 6 ∨ k = 7 := by omega
  rcases this with e | e | e | e | e | e | e | e <;> subst e
  · exact sp_sh1 b 0 (by decide) _ (by decide) _ (by decide)
  · exact sp_sh1 b 8 (by decide) _ (by decide) _ (by decide)
  · exact sp_sh1 b 16 (by decide) _ (by decide) _ (by decide)
  · exact sp_sh1 b 24 (by decide) _ (by decide) _ (by decide)
  · exact sp_sh1 b 32 (by decide) _ (by decide) _ (by decide)
  · exact sp_sh1 b 40 (by decide) _ (by decide) _ (by decide)
  · exact sp_sh1 b 48 (by decide) _ (by decide) _ (by decide)
  · exact sp_sh1 b 56 (by decide) _ (by decide) _ (by decide)
theorem sp_cy_nar (b : Int64) (k : Nat) : vp_nar .char (sp_cy b k) = sp_cy b k := by
  unfold sp_cy
  exact pk_vc _
/-- bytes are fed, on both sides -/
theorem sp_Ta_fd {tl si tl' si' n : Nat} {cA rA cA' rA' : Nat → Int32} {r r2 : Int32} {b : Int64} (hn : n ≤ 8) (hT : sp_Ta tl cA si rA)
    (h1 : (1000 < tl + n → r = -1 ∧ tl' = tl ∧ cA' = cA) ∧ (tl + n ≤ 1000 → r = nI (tl + n) ∧ tl' = tl + n ∧ ∀ k, cA' k = if tl ≤ k ∧ k < tl + n then sp_cy b (k - tl) else cA k))
    (h2 : (1000 < si + n → r2 = -1 ∧ si' = si ∧ rA' = rA) ∧ (si + n ≤ 1000 → r2 = nI (si + n) ∧ si' = si + n ∧ ∀ k, rA' k = if si ≤ k ∧ k < si + n then sp_by b (k - si) else rA k)) :
    r = r2 ∧ sp_Ta tl' cA' si' rA' := by
  obtain ⟨t1, t2, t3, t4⟩ := hT
  subst t1
  by_cases hl : tl + n ≤ 1000
  · obtain ⟨a1, a2, a3⟩ := h1.2 hl
    obtain ⟨b1, b2, b3⟩ := h2.2 hl
    refine ⟨by rw [a1, b1], by rw [a2, b2], by omega, fun k hk => ?_, fun k hk => ?_⟩
    · rw [a3, b3]
      by_cases hc : tl ≤ k ∧ k < tl + n
      · rw [if_pos hc, if_pos hc, sp_by_cy b _ (by omega)]
      · rw [if_neg hc, if_neg hc]
        exact t3 k (by omega)
    · rw [a3]
      by_cases hc : tl ≤ k ∧ k < tl + n
      · rw [if_pos hc]; exact sp_cy_nar b _
      · rw [if_neg hc]
        exact t4 k (by omega)
  · obtain ⟨a1, a2, a3⟩ := h1.1 (by omega)
    obtain ⟨b1, b2, b3⟩ := h2.1 (by omega)
    exact ⟨by rw [a1, b1], by rw [a2, b2], by omega, fun k hk => by rw [a3, b3]; exact t3 k (by omega), fun k hk => by rw [a3]; exact t4 k (by omega)⟩
theorem sp_Ta_0 {cA rA : Nat → Int32} : sp_Ta 0 cA 0 rA := ⟨rfl, by omega, fun k hk => by omega, fun k hk => by omega⟩
