def r_RM_fits (th : Nat) (ru : Nat) (na : Nat) (nx : Nat) (so : Nat) (pa : Nat) (tX : Nat → Int32) (xF : Nat → Nat) (xT : Nat → Nat) (xB : Nat → Nat) (tP : Nat → Int32) (yF : Nat → Nat) (yT : Nat → Nat) (zR : Nat → Bool) (zF : Nat → Bool) (wF : Nat → Nat) (wT : Nat → Nat) (zT : Nat → Bool) (x : Int32) (d : Bool) : Prop := sp_rok2 tX xF xT xB ru ∧ na ≤ 20 ∧ (∀ j, j < na → yF j ≤ yT j ∧ yT j ≤ 120)
def q_RM_fits (th : Nat) (ru : Nat) (na : Nat) (nx : Nat) (so : Nat) (pa : Nat) (tX : Nat → Int32) (xF : Nat → Nat) (xT : Nat → Nat) (xB : Nat → Nat) (tP : Nat → Int32) (yF : Nat → Nat) (yT : Nat → Nat) (zR : Nat → Bool) (zF : Nat → Bool) (wF : Nat → Nat) (wT : Nat → Nat) (zT : Nat → Bool) (x : Int32) (d : Bool) (r : Bool) (nx' : Nat) (so' : Nat) (zR' : Nat → Bool) (zF' : Nat → Bool) (zT' : Nat → Bool) (pa' : Nat) (wF' : Nat → Nat) (wT' : Nat → Nat) (th' : Nat) : Prop := ((x < 0 ∨ nI ru ≤ x) → th' = 1 ∧ r = false) ∧ (¬ (x < 0 ∨ nI ru ≤ x) → na = 0 → th' = 2 ∧ r = false) ∧ (∀ i, i < ru → x = nI i → 1 ≤ na → th' = 0 ∧ r = sp_rg tX tP yF yT (xF i) (xT i) (xB i) na d)
def p_RM_fits (th : Nat) (ru : Nat) (na : Nat) (nx : Nat) (so : Nat) (pa : Nat) (tX : Nat → Int32) (xF : Nat → Nat) (xT : Nat → Nat) (xB : Nat → Nat) (tP : Nat → Int32) (yF : Nat → Nat) (yT : Nat → Nat) (zR : Nat → Bool) (zF : Nat → Bool) (wF : Nat → Nat) (wT : Nat → Nat) (zT : Nat → Bool) (x : Int32) (d : Bool) (r : Bool) (nx' : Nat) (so' : Nat) (zR' : Nat → Bool) (zF' : Nat → Bool) (zT' : Nat → Bool) (pa' : Nat) (wF' : Nat → Nat) (wT' : Nat → Nat) (th' : Nat) : Prop := q_RM_fits th ru na nx so pa tX xF xT xB tP yF yT zR zF wF wT zT x d r nx' so' zR' zF' zT' pa' wF' wT' th'
def v_RM_fits_25 (th : Nat) (ru : Nat) (na : Nat) (nx : Nat) (so : Nat) (pa : Nat) (tX : Nat → Int32) (xF : Nat → Nat) (xT : Nat → Nat) (xB : Nat → Nat) (tP : Nat → Int32) (yF : Nat → Nat) (yT : Nat → Nat) (zR : Nat → Bool) (zF : Nat → Bool) (wF : Nat → Nat) (wT : Nat → Nat) (zT : Nat → Bool) (x : Int32) (d : Bool) (Q : Bool → Nat → Nat → (Nat → Bool) → (Nat → Bool) → (Nat → Bool) → Nat → (Nat → Nat) → (Nat → Nat) → Nat → Prop) (s0 : Nat) (thc : Nat) (nxc : Nat) (soc : Nat) (pac : Nat) (zRc : Nat → Bool) (zFc : Nat → Bool) (wFc : Nat → Nat) (wTc : Nat → Nat) (zTc : Nat → Bool) : Prop := (s0 < 2147483648) ∧ ((¬ s0 = 0 → Q false nxc soc zRc zFc zTc pac wFc wTc s0) ∧ (s0 = 0 → ∃ i1 : Nat, x = nI i1 ∧ ((r_RM_fitsFirst nxc soc pac tX xF xT xB tP yF yT zRc zFc wFc wTc zTc i1 na d) ∧ ((∀ (nx2 : Nat) (so3 : Nat) (zR4 : Nat → Bool) (zF5 : Nat → Bool) (zT6 : Nat → Bool) (pa7 : Nat) (wF8 : Nat → Nat) (wT9 : Nat → Nat), (sp_rg tX tP yF yT (xF i1) (xT i1) (xB i1) na d = false → Q false nx2 so3 zR4 zF5 zT6 pa7 wF8 wT9 s0) ∧ (sp_rg tX tP yF yT (xF i1) (xT i1) (xB i1) na d = true → Q true nx2 so3 zR4 zF5 zT6 pa7 wF8 wT9 s0))))))
def v_RM_fits (th : Nat) (ru : Nat) (na : Nat) (nx : Nat) (so : Nat) (pa : Nat) (tX : Nat → Int32) (xF : Nat → Nat) (xT : Nat → Nat) (xB : Nat → Nat) (tP : Nat → Int32) (yF : Nat → Nat) (yT : Nat → Nat) (zR : Nat → Bool) (zF : Nat → Bool) (wF : Nat → Nat) (wT : Nat → Nat) (zT : Nat → Bool) (x : Int32) (d : Bool) (Q : Bool → Nat → Nat → (Nat → Bool) → (Nat → Bool) → (Nat → Bool) → Nat → (Nat → Nat) → (Nat → Nat) → Nat → Prop) : Prop := (r_RM_noRule ru x) ∧ ((decide (x < 0 ∨ nI ru ≤ x) = false → (na < 2147483648) ∧ ((¬ na = 0 → v_RM_fits_25 th ru na nx so pa tX xF xT xB tP yF yT zR zF wF wT zT x d Q 0 th nx so pa zR zF wF wT zT) ∧ (na = 0 → v_RM_fits_25 th ru na nx so pa tX xF xT xB tP yF yT zR zF wF wT zT x d Q 2 th nx so pa zR zF wF wT zT))) ∧ (decide (x < 0 ∨ nI ru ≤ x) = true → v_RM_fits_25 th ru na nx so pa tX xF xT xB tP yF yT zR zF wF wT zT x d Q 1 th nx so pa zR zF wF wT zT))
theorem t_RM_fits (th : Nat) (ru : Nat) (na : Nat) (nx : Nat) (so : Nat) (pa : Nat) (tX : Nat → Int32) (xF : Nat → Nat) (xT : Nat → Nat) (xB : Nat → Nat) (tP : Nat → Int32) (yF : Nat → Nat) (yT : Nat → Nat) (zR : Nat → Bool) (zF : Nat → Bool) (wF : Nat → Nat) (wT : Nat → Nat) (zT : Nat → Bool) (x : Int32) (d : Bool) (hr : r_RM_fits th ru na nx so pa tX xF xT xB tP yF yT zR zF wF wT zT x d)  : v_RM_fits th ru na nx so pa tX xF xT xB tP yF yT zR zF wF wT zT x d (p_RM_fits th ru na nx so pa tX xF xT xB tP yF yT zR zF wF wT zT x d) := by
  obtain ⟨h1, h2, h3⟩ := hr
  have hru := h1.1
  unfold v_RM_fits
  refine ⟨hru, fun hx => ?_, fun hx => ?_⟩
  · have hx' := of_decide_eq_false hx
    obtain ⟨i, hi, ei⟩ := ig_rng (by omega) hx'
    have e2 : ∀ i', i' < ru → x = nI i' → i' = i := fun i' g1 g2 => (ig_eq (by omega) (by omega)).mp (g2.symm.trans ei)
    refine ⟨by omega, fun hn => ?_, fun hn => ?_⟩
    · unfold v_RM_fits_25
      refine ⟨by decide, fun h => absurd rfl h, fun _ => ⟨i, ei, ?_, fun c1 c2 c3 c4 c5 c6 c7 c8 => ⟨fun hf => ?_, fun hf => ?_⟩⟩⟩
      · obtain ⟨r1, r2, r3, r4⟩ := h1.2 i hi
        exact ⟨by omega, r1, r2, r3, r4, by omega, h2, h3⟩
      · refine ⟨fun h => absurd h hx', fun _ h => absurd h hn, fun i' g1 g2 _ => ⟨rfl, ?_⟩⟩
        rw [e2 i' g1 g2]; exact hf.symm
      · refine ⟨fun h => absurd h hx', fun _ h => absurd h hn, fun i' g1 g2 _ => ⟨rfl, ?_⟩⟩
        rw [e2 i' g1 g2]; exact hf.symm
    · unfold v_RM_fits_25
      exact ⟨by decide, fun _ => ⟨fun h => absurd h hx', fun _ _ => ⟨rfl, rfl⟩, fun i' g1 g2 g3 => by omega⟩, fun h => absurd h (by decide)⟩
  · have hx' := of_decide_eq_true hx
    unfold v_RM_fits_25
    refine ⟨by decide, fun _ => ⟨fun _ => ⟨rfl, rfl⟩, fun h => absurd hx' h, fun i' g1 g2 g3 => ?_⟩, fun h => absurd h (by decide)⟩
    rw [g2] at hx'
    exact absurd hx' (ig_rngn g1 (by omega))

def r_RM_rule (th : Nat) (ru : Nat) (pa : Nat) (tX : Nat → Int32) (xF : Nat → Nat) (xT : Nat → Nat) (xB : Nat → Nat) (xL : Nat → Nat) (wF : Nat → Nat) (wT : Nat → Nat) (x : Int32) (y : Int32) : Prop := sp_rok2 tX xF xT xB ru ∧ (∀ i, i < ru → xL i < 2147483648)
def q_RM_rule (th : Nat) (ru : Nat) (pa : Nat) (tX : Nat → Int32) (xF : Nat → Nat) (xT : Nat → Nat) (xB : Nat → Nat) (xL : Nat → Nat) (wF : Nat → Nat) (wT : Nat → Nat) (x : Int32) (y : Int32) (r : Nat) (th' : Nat) (pa' : Nat) (wF' : Nat → Nat) (wT' : Nat → Nat) : Prop := ((x < 0 ∨ nI ru ≤ x) → th' = 1 ∧ r = 0) ∧ (¬ (x < 0 ∨ nI ru ≤ x) → (y < 0 ∨ 2 < y) → th' = 2 ∧ r = 0) ∧ (∀ i, i < ru → x = nI i → ¬ (y < 0 ∨ 2 < y) → th' = 0 ∧ (y = 0 → r = xB i) ∧ (y = 1 → r = 1 + sp_cnt tX (xT i) (xF i)) ∧ (y = 2 → r = xL i))
def p_RM_rule (th : Nat) (ru : Nat) (pa : Nat) (tX : Nat → Int32) (xF : Nat → Nat) (xT : Nat → Nat) (xB : Nat → Nat) (xL : Nat → Nat) (wF : Nat → Nat) (wT : Nat → Nat) (x : Int32) (y : Int32) (r : Nat) (th' : Nat) (pa' : Nat) (wF' : Nat → Nat) (wT' : Nat → Nat) : Prop := q_RM_rule th ru pa tX xF xT xB xL wF wT x y r th' pa' wF' wT'
def v_RM_rule_27 (th : Nat) (ru : Nat) (pa : Nat) (tX : Nat → Int32) (xF : Nat → Nat) (xT : Nat → Nat) (xB : Nat → Nat) (xL : Nat → Nat) (wF : Nat → Nat) (wT : Nat → Nat) (x : Int32) (y : Int32) (Q : Nat → Nat → Nat → (Nat → Nat) → (Nat → Nat) → Prop) (s0 : Nat) (thc : Nat) (pac : Nat) (wFc : Nat → Nat) (wTc : Nat → Nat) : Prop := (s0 < 2147483648) ∧ ((s0 ≤ 0 → ∃ i1 : Nat, x = nI i1 ∧ ((i1 < 60) ∧ ((i1 < 60) ∧ ((r_RM_findParts pac tX wFc wTc (xF i1) (xT i1)) ∧ ((∀ (pa3 : Nat) (wF4 : Nat → Nat) (wT5 : Nat → Nat), q_RM_findParts pac tX wFc wTc (xF i1) (xT i1) pa3 wF4 wT5 → (¬ y = 0 → (¬ y = 1 → (i1 < 60) ∧ (Q (xL i1) s0 pa3 wF4 wT5)) ∧ (y = 1 → Q pa3 s0 pa3 wF4 wT5)) ∧ (y = 0 → (i1 < 60) ∧ (Q (xB i1) s0 pa3 wF4 wT5)))))))) ∧ (¬ s0 ≤ 0 → Q 0 s0 pac wFc wTc))
def v_RM_rule_22 (th : Nat) (ru : Nat) (pa : Nat) (tX : Nat → Int32) (xF : Nat → Nat) (xT : Nat → Nat) (xB : Nat → Nat) (xL : Nat → Nat) (wF : Nat → Nat) (wT : Nat → Nat) (x : Int32) (y : Int32) (Q : Nat → Nat → Nat → (Nat → Nat) → (Nat → Nat) → Prop) (thc : Nat) (pac : Nat) (wFc : Nat → Nat) (wTc : Nat → Nat) : Prop := v_RM_rule_27 th ru pa tX xF xT xB xL wF wT x y Q 2 thc pac wFc wTc
def v_RM_rule (th : Nat) (ru : Nat) (pa : Nat) (tX : Nat → Int32) (xF : Nat → Nat) (xT : Nat → Nat) (xB : Nat → Nat) (xL : Nat → Nat) (wF : Nat → Nat) (wT : Nat → Nat) (x : Int32) (y : Int32) (Q : Nat → Nat → Nat → (Nat → Nat) → (Nat → Nat) → Prop) : Prop := (r_RM_noRule ru x) ∧ ((decide (x < 0 ∨ nI ru ≤ x) = false → (y < 0 → v_RM_rule_22 th ru pa tX xF xT xB xL wF wT x y Q th pa wF wT) ∧ (¬ y < 0 → (y ≤ 2 → v_RM_rule_27 th ru pa tX xF xT xB xL wF wT x y Q 0 th pa wF wT) ∧ (¬ y ≤ 2 → v_RM_rule_22 th ru pa tX xF xT xB xL wF wT x y Q th pa wF wT))) ∧ (decide (x < 0 ∨ nI ru ≤ x) = true → v_RM_rule_27 th ru pa tX xF xT xB xL wF wT x y Q 1 th pa wF wT))
theorem t_RM_rule (th : Nat) (ru : Nat) (pa : Nat) (tX : Nat → Int32) (xF : Nat → Nat) (xT : Nat → Nat) (xB : Nat → Nat) (xL : Nat → Nat) (wF : Nat → Nat) (wT : Nat → Nat) (x : Int32) (y : Int32) (hr : r_RM_rule th ru pa tX xF xT xB xL wF wT x y)  : v_RM_rule th ru pa tX xF xT xB xL wF wT x y (p_RM_rule th ru pa tX xF xT xB xL wF wT x y) := by
  obtain ⟨h1, h2⟩ := hr
  have hru := h1.1
  unfold v_RM_rule v_RM_rule_22
  have two : ¬ (x < 0 ∨ nI ru ≤ x) → (y < 0 ∨ 2 < y) → v_RM_rule_27 th ru pa tX xF xT xB xL wF wT x y (p_RM_rule th ru pa tX xF xT xB xL wF wT x y) 2 th pa wF wT := by
    intro hx hy
    unfold v_RM_rule_27
    exact ⟨by decide, fun h => absurd h (by decide), fun _ => ⟨fun h => absurd h hx, fun _ _ => ⟨rfl, rfl⟩, fun i' g1 g2 g3 => absurd hy g3⟩⟩
  refine ⟨hru, fun hx => ?_, fun hx => ?_⟩
  · have hx' := of_decide_eq_false hx
    obtain ⟨i, hi, ei⟩ := ig_rng (by omega) hx'
    have e2 : ∀ i', i' < ru → x = nI i' → i' = i := fun i' g1 g2 => (ig_eq (by omega) (by omega)).mp (g2.symm.trans ei)
    refine ⟨fun hy => two hx' (Or.inl hy), fun hy => ⟨fun hy2 => ?_, fun hy2 => two hx' (Or.inr (Int32.not_le.mp hy2))⟩⟩
    have ny : ¬ (y < 0 ∨ 2 < y) := by
      rintro (q | q)
      · exact hy q
      · exact absurd hy2 (Int32.not_le.mpr q)
    have y3 := ig_012 hy hy2
    obtain ⟨r1, r2, r3, r4⟩ := h1.2 i hi
    unfold v_RM_rule_27
    refine ⟨by decide, fun _ => ⟨i, ei, by omega, by omega, ⟨r1, r2⟩, fun pa3 wF4 wT5 hq => ⟨fun y0 => ⟨fun y1 => ⟨by omega, ?_⟩, fun y1 => ?_⟩, fun y0 => ⟨by omega, ?_⟩⟩⟩, fun h => absurd (Nat.le_refl 0) h⟩
    · have y2 : y = 2 := by
        rcases y3 with e | e | e
        · exact absurd e y0
        · exact absurd e y1
        · exact e
      refine ⟨fun h => absurd h hx', fun _ h => absurd h ny, fun i' g1 g2 _ => ⟨rfl, fun h => absurd h y0, fun h => absurd h y1, fun _ => ?_⟩⟩
      rw [e2 i' g1 g2]
    · refine ⟨fun h => absurd h hx', fun _ h => absurd h ny, fun i' g1 g2 _ => ⟨rfl, fun h => absurd h y0, fun h => ?_, fun h => ?_⟩⟩
      · rw [e2 i' g1 g2]; exact hq.1
      · rw [y1] at h; exact absurd h (by decide)
    · refine ⟨fun h => absurd h hx', fun _ h => absurd h ny, fun i' g1 g2 _ => ⟨rfl, fun h => ?_, fun h => ?_, fun h => ?_⟩⟩
      · rw [e2 i' g1 g2]
      · rw [y0] at h; exact absurd h (by decide)
      · rw [y0] at h; exact absurd h (by decide)
  · have hx' := of_decide_eq_true hx
    unfold v_RM_rule_27
    refine ⟨by decide, fun h => absurd h (by decide), fun _ => ⟨fun _ => ⟨rfl, rfl⟩, fun h => absurd hx' h, fun i' g1 g2 g3 => ?_⟩⟩
    rw [g2] at hx'
    exact absurd hx' (ig_rngn g1 (by omega))

