def r_RM_fitsBound (nx : Nat) (so : Nat) (pa : Nat) (tX : Nat → Int32) (xB : Nat → Nat) (tP : Nat → Int32) (yF : Nat → Nat) (yT : Nat → Nat) (zR : Nat → Bool) (zF : Nat → Bool) (wF : Nat → Nat) (wT : Nat → Nat) (zT : Nat → Bool) (i : Nat) (n : Nat) (s : Nat) (e : Nat) : Prop := sp_parts tX s e pa wF wT ∧ pa ≤ 1000 ∧ e ≤ 1000 ∧ s ≤ e ∧ i < 60 ∧ xB i < 16 ∧ xB i &&& 4 = 4 ∧ n ≤ 20 ∧ (∀ j, j < n → yF j ≤ yT j ∧ yT j ≤ 120)
def p_RM_fitsBound (nx : Nat) (so : Nat) (pa : Nat) (tX : Nat → Int32) (xB : Nat → Nat) (tP : Nat → Int32) (yF : Nat → Nat) (yT : Nat → Nat) (zR : Nat → Bool) (zF : Nat → Bool) (wF : Nat → Nat) (wT : Nat → Nat) (zT : Nat → Bool) (i : Nat) (n : Nat) (s : Nat) (e : Nat) (r : Bool) (nx' : Nat) (so' : Nat) (zR' : Nat → Bool) (zF' : Nat → Bool) (zT' : Nat → Bool) : Prop := r = (sp_H tX e n (sp_rn tX tP yF yT) s 0)
def v_RM_fitsBound_190 (nx : Nat) (so : Nat) (pa : Nat) (tX : Nat → Int32) (xB : Nat → Nat) (tP : Nat → Int32) (yF : Nat → Nat) (yT : Nat → Nat) (zR : Nat → Bool) (zF : Nat → Bool) (wF : Nat → Nat) (wT : Nat → Nat) (zT : Nat → Bool) (i : Nat) (n : Nat) (s : Nat) (e : Nat) (K5 : Nat → Nat → Nat → (Nat → Bool) → (Nat → Bool) → (Nat → Bool) → Prop) (K12 : Nat → Nat → Nat → Nat → (Nat → Bool) → (Nat → Bool) → (Nat → Bool) → Prop) (Q : Bool → Nat → Nat → (Nat → Bool) → (Nat → Bool) → (Nat → Bool) → Prop) (p : Nat) (j : Nat) (b : Bool) (nxc : Nat) (soc : Nat) (zRc : Nat → Bool) (zFc : Nat → Bool) (zTc : Nat → Bool) : Prop := ((21 * p) + j < 21021) ∧ (K12 p j nxc soc zRc zFc (updB zTc ((21 * p) + j) b))
def v_RM_fitsBound_124 (nx : Nat) (so : Nat) (pa : Nat) (tX : Nat → Int32) (xB : Nat → Nat) (tP : Nat → Int32) (yF : Nat → Nat) (yT : Nat → Nat) (zR : Nat → Bool) (zF : Nat → Bool) (wF : Nat → Nat) (wT : Nat → Nat) (zT : Nat → Bool) (i : Nat) (n : Nat) (s : Nat) (e : Nat) (K5 : Nat → Nat → Nat → (Nat → Bool) → (Nat → Bool) → (Nat → Bool) → Prop) (K12 : Nat → Nat → Nat → Nat → (Nat → Bool) → (Nat → Bool) → (Nat → Bool) → Prop) (Q : Bool → Nat → Nat → (Nat → Bool) → (Nat → Bool) → (Nat → Bool) → Prop) (p : Nat) (j : Nat) (s0 : Bool) (nxc : Nat) (soc : Nat) (zRc : Nat → Bool) (zFc : Nat → Bool) (zTc : Nat → Bool) : Prop := v_RM_fitsBound_190 nx so pa tX xB tP yF yT zR zF wF wT zT i n s e K5 K12 Q p j s0 nxc soc zRc zFc zTc
def v_RM_fitsBound_119 (nx : Nat) (so : Nat) (pa : Nat) (tX : Nat → Int32) (xB : Nat → Nat) (tP : Nat → Int32) (yF : Nat → Nat) (yT : Nat → Nat) (zR : Nat → Bool) (zF : Nat → Bool) (wF : Nat → Nat) (wT : Nat → Nat) (zT : Nat → Bool) (i : Nat) (n : Nat) (s : Nat) (e : Nat) (K5 : Nat → Nat → Nat → (Nat → Bool) → (Nat → Bool) → (Nat → Bool) → Prop) (K12 : Nat → Nat → Nat → Nat → (Nat → Bool) → (Nat → Bool) → (Nat → Bool) → Prop) (Q : Bool → Nat → Nat → (Nat → Bool) → (Nat → Bool) → (Nat → Bool) → Prop) (p : Nat) (j : Nat) (nxc : Nat) (soc : Nat) (zRc : Nat → Bool) (zFc : Nat → Bool) (zTc : Nat → Bool) : Prop := v_RM_fitsBound_124 nx so pa tX xB tP yF yT zR zF wF wT zT i n s e K5 K12 Q p j true nxc soc zRc zFc zTc
def v_RM_fitsBound_123 (nx : Nat) (so : Nat) (pa : Nat) (tX : Nat → Int32) (xB : Nat → Nat) (tP : Nat → Int32) (yF : Nat → Nat) (yT : Nat → Nat) (zR : Nat → Bool) (zF : Nat → Bool) (wF : Nat → Nat) (wT : Nat → Nat) (zT : Nat → Bool) (i : Nat) (n : Nat) (s : Nat) (e : Nat) (K5 : Nat → Nat → Nat → (Nat → Bool) → (Nat → Bool) → (Nat → Bool) → Prop) (K12 : Nat → Nat → Nat → Nat → (Nat → Bool) → (Nat → Bool) → (Nat → Bool) → Prop) (Q : Bool → Nat → Nat → (Nat → Bool) → (Nat → Bool) → (Nat → Bool) → Prop) (p : Nat) (j : Nat) (nxc : Nat) (soc : Nat) (zRc : Nat → Bool) (zFc : Nat → Bool) (zTc : Nat → Bool) : Prop := v_RM_fitsBound_124 nx so pa tX xB tP yF yT zR zF wF wT zT i n s e K5 K12 Q p j false nxc soc zRc zFc zTc
def v_RM_fitsBound_188 (nx : Nat) (so : Nat) (pa : Nat) (tX : Nat → Int32) (xB : Nat → Nat) (tP : Nat → Int32) (yF : Nat → Nat) (yT : Nat → Nat) (zR : Nat → Bool) (zF : Nat → Bool) (wF : Nat → Nat) (wT : Nat → Nat) (zT : Nat → Bool) (i : Nat) (n : Nat) (s : Nat) (e : Nat) (K5 : Nat → Nat → Nat → (Nat → Bool) → (Nat → Bool) → (Nat → Bool) → Prop) (K12 : Nat → Nat → Nat → Nat → (Nat → Bool) → (Nat → Bool) → (Nat → Bool) → Prop) (Q : Bool → Nat → Nat → (Nat → Bool) → (Nat → Bool) → (Nat → Bool) → Prop) (p : Nat) (j : Nat) (s0 : Bool) (nxc : Nat) (soc : Nat) (zRc : Nat → Bool) (zFc : Nat → Bool) (zTc : Nat → Bool) : Prop := v_RM_fitsBound_190 nx so pa tX xB tP yF yT zR zF wF wT zT i n s e K5 K12 Q p j s0 nxc soc zRc zFc zTc
def v_RM_fitsBound_187 (nx : Nat) (so : Nat) (pa : Nat) (tX : Nat → Int32) (xB : Nat → Nat) (tP : Nat → Int32) (yF : Nat → Nat) (yT : Nat → Nat) (zR : Nat → Bool) (zF : Nat → Bool) (wF : Nat → Nat) (wT : Nat → Nat) (zT : Nat → Bool) (i : Nat) (n : Nat) (s : Nat) (e : Nat) (K5 : Nat → Nat → Nat → (Nat → Bool) → (Nat → Bool) → (Nat → Bool) → Prop) (K12 : Nat → Nat → Nat → Nat → (Nat → Bool) → (Nat → Bool) → (Nat → Bool) → Prop) (Q : Bool → Nat → Nat → (Nat → Bool) → (Nat → Bool) → (Nat → Bool) → Prop) (p : Nat) (j : Nat) (nxc : Nat) (soc : Nat) (zRc : Nat → Bool) (zFc : Nat → Bool) (zTc : Nat → Bool) : Prop := v_RM_fitsBound_188 nx so pa tX xB tP yF yT zR zF wF wT zT i n s e K5 K12 Q p j false nxc soc zRc zFc zTc
def v_RM_fitsBound_129 (nx : Nat) (so : Nat) (pa : Nat) (tX : Nat → Int32) (xB : Nat → Nat) (tP : Nat → Int32) (yF : Nat → Nat) (yT : Nat → Nat) (zR : Nat → Bool) (zF : Nat → Bool) (wF : Nat → Nat) (wT : Nat → Nat) (zT : Nat → Bool) (i : Nat) (n : Nat) (s : Nat) (e : Nat) (K5 : Nat → Nat → Nat → (Nat → Bool) → (Nat → Bool) → (Nat → Bool) → Prop) (K12 : Nat → Nat → Nat → Nat → (Nat → Bool) → (Nat → Bool) → (Nat → Bool) → Prop) (Q : Bool → Nat → Nat → (Nat → Bool) → (Nat → Bool) → (Nat → Bool) → Prop) (p : Nat) (j : Nat) (b : Bool) (nxc : Nat) (soc : Nat) (zRc : Nat → Bool) (zFc : Nat → Bool) (zTc : Nat → Bool) : Prop := (p < 2147483648) ∧ ((pa < 2147483648) ∧ ((pa ≤ p → v_RM_fitsBound_190 nx so pa tX xB tP yF yT zR zF wF wT zT i n s e K5 K12 Q p j b nxc soc zRc zFc zTc) ∧ (¬ pa ≤ p → (j < 2147483648) ∧ ((n < 2147483648) ∧ ((n ≤ j → v_RM_fitsBound_187 nx so pa tX xB tP yF yT zR zF wF wT zT i n s e K5 K12 Q p j nxc soc zRc zFc zTc) ∧ (¬ n ≤ j → (((21 * (p + 1)) + j) + 1 < 21021) ∧ ((zTc (((21 * (p + 1)) + j) + 1) = false → v_RM_fitsBound_187 nx so pa tX xB tP yF yT zR zF wF wT zT i n s e K5 K12 Q p j nxc soc zRc zFc zTc) ∧ (zTc (((21 * (p + 1)) + j) + 1) = true → (p < 1001) ∧ ((p < 1001) ∧ ((r_RM_fitsName nxc soc tX tP yF yT zRc zFc (wF p) (wT p) j) ∧ ((∀ (nx3 : Nat) (so4 : Nat) (zR5 : Nat → Bool) (zF6 : Nat → Bool), (sp_rn tX tP yF yT (wF p) (wT p) j = false → v_RM_fitsBound_187 nx so pa tX xB tP yF yT zR zF wF wT zT i n s e K5 K12 Q p j nx3 so4 zR5 zF6 zTc) ∧ (sp_rn tX tP yF yT (wF p) (wT p) j = true → v_RM_fitsBound_188 nx so pa tX xB tP yF yT zR zF wF wT zT i n s e K5 K12 Q p j true nx3 so4 zR5 zF6 zTc)))))))))))))
def v_RM_fitsBound_36 (nx : Nat) (so : Nat) (pa : Nat) (tX : Nat → Int32) (xB : Nat → Nat) (tP : Nat → Int32) (yF : Nat → Nat) (yT : Nat → Nat) (zR : Nat → Bool) (zF : Nat → Bool) (wF : Nat → Nat) (wT : Nat → Nat) (zT : Nat → Bool) (i : Nat) (n : Nat) (s : Nat) (e : Nat) (K5 : Nat → Nat → Nat → (Nat → Bool) → (Nat → Bool) → (Nat → Bool) → Prop) (K12 : Nat → Nat → Nat → Nat → (Nat → Bool) → (Nat → Bool) → (Nat → Bool) → Prop) (Q : Bool → Nat → Nat → (Nat → Bool) → (Nat → Bool) → (Nat → Bool) → Prop) (p : Nat) (j : Nat) (s0 : Bool) (nxc : Nat) (soc : Nat) (zRc : Nat → Bool) (zFc : Nat → Bool) (zTc : Nat → Bool) : Prop := (p < 2147483648) ∧ ((pa < 2147483648) ∧ ((pa ≤ p → v_RM_fitsBound_129 nx so pa tX xB tP yF yT zR zF wF wT zT i n s e K5 K12 Q p j s0 nxc soc zRc zFc zTc) ∧ (¬ pa ≤ p → (r_RM_isDeep tX xB wF wT i p) ∧ (((decide (xB i &&& 4 = 4) && sp_deep tX (wF p) (wT p)) = false → v_RM_fitsBound_129 nx so pa tX xB tP yF yT zR zF wF wT zT i n s e K5 K12 Q p j s0 nxc soc zRc zFc zTc) ∧ ((decide (xB i &&& 4 = 4) && sp_deep tX (wF p) (wT p)) = true → (1 ≤ pa) ∧ ((p < 2147483648) ∧ ((pa - 1 < 2147483648) ∧ ((¬ p = pa - 1 → ((21 * (p + 1)) + j < 21021) ∧ ((zTc ((21 * (p + 1)) + j) = true → v_RM_fitsBound_119 nx so pa tX xB tP yF yT zR zF wF wT zT i n s e K5 K12 Q p j nxc soc zRc zFc zTc) ∧ (zTc ((21 * (p + 1)) + j) = false → (j < 2147483648) ∧ ((n < 2147483648) ∧ ((n ≤ j → v_RM_fitsBound_123 nx so pa tX xB tP yF yT zR zF wF wT zT i n s e K5 K12 Q p j nxc soc zRc zFc zTc) ∧ (¬ n ≤ j → (((21 * p) + j) + 1 < 21021) ∧ ((zTc (((21 * p) + j) + 1) = false → v_RM_fitsBound_123 nx so pa tX xB tP yF yT zR zF wF wT zT i n s e K5 K12 Q p j nxc soc zRc zFc zTc) ∧ (zTc (((21 * p) + j) + 1) = true → v_RM_fitsBound_119 nx so pa tX xB tP yF yT zR zF wF wT zT i n s e K5 K12 Q p j nxc soc zRc zFc zTc)))))))) ∧ (p = pa - 1 → (j < 2147483648) ∧ ((n < 2147483648) ∧ ((n ≤ j → v_RM_fitsBound_124 nx so pa tX xB tP yF yT zR zF wF wT zT i n s e K5 K12 Q p j false nxc soc zRc zFc zTc) ∧ (¬ n ≤ j → v_RM_fitsBound_124 nx so pa tX xB tP yF yT zR zF wF wT zT i n s e K5 K12 Q p j true nxc soc zRc zFc zTc))))))))))))
def v_RM_fitsBound_35 (nx : Nat) (so : Nat) (pa : Nat) (tX : Nat → Int32) (xB : Nat → Nat) (tP : Nat → Int32) (yF : Nat → Nat) (yT : Nat → Nat) (zR : Nat → Bool) (zF : Nat → Bool) (wF : Nat → Nat) (wT : Nat → Nat) (zT : Nat → Bool) (i : Nat) (n : Nat) (s : Nat) (e : Nat) (K5 : Nat → Nat → Nat → (Nat → Bool) → (Nat → Bool) → (Nat → Bool) → Prop) (K12 : Nat → Nat → Nat → Nat → (Nat → Bool) → (Nat → Bool) → (Nat → Bool) → Prop) (Q : Bool → Nat → Nat → (Nat → Bool) → (Nat → Bool) → (Nat → Bool) → Prop) (p : Nat) (j : Nat) (nxc : Nat) (soc : Nat) (zRc : Nat → Bool) (zFc : Nat → Bool) (zTc : Nat → Bool) : Prop := v_RM_fitsBound_36 nx so pa tX xB tP yF yT zR zF wF wT zT i n s e K5 K12 Q p j false nxc soc zRc zFc zTc
def v_RM_fitsBound_5 (nx : Nat) (so : Nat) (pa : Nat) (tX : Nat → Int32) (xB : Nat → Nat) (tP : Nat → Int32) (yF : Nat → Nat) (yT : Nat → Nat) (zR : Nat → Bool) (zF : Nat → Bool) (wF : Nat → Nat) (wT : Nat → Nat) (zT : Nat → Bool) (i : Nat) (n : Nat) (s : Nat) (e : Nat) (K5 : Nat → Nat → Nat → (Nat → Bool) → (Nat → Bool) → (Nat → Bool) → Prop) (K12 : Nat → Nat → Nat → Nat → (Nat → Bool) → (Nat → Bool) → (Nat → Bool) → Prop) (Q : Bool → Nat → Nat → (Nat → Bool) → (Nat → Bool) → (Nat → Bool) → Prop) (p : Nat) (nxc : Nat) (soc : Nat) (zRc : Nat → Bool) (zFc : Nat → Bool) (zTc : Nat → Bool) : Prop := (p < 2147483648) ∧ ((p = 0 → (0 < 21021) ∧ (Q (zTc 0) nxc soc zRc zFc zTc)) ∧ (∀ j1 : Nat, p = j1 + 1 → K12 j1 (n + 1) nxc soc zRc zFc zTc))
def v_RM_fitsBound_12 (nx : Nat) (so : Nat) (pa : Nat) (tX : Nat → Int32) (xB : Nat → Nat) (tP : Nat → Int32) (yF : Nat → Nat) (yT : Nat → Nat) (zR : Nat → Bool) (zF : Nat → Bool) (wF : Nat → Nat) (wT : Nat → Nat) (zT : Nat → Bool) (i : Nat) (n : Nat) (s : Nat) (e : Nat) (K5 : Nat → Nat → Nat → (Nat → Bool) → (Nat → Bool) → (Nat → Bool) → Prop) (K12 : Nat → Nat → Nat → Nat → (Nat → Bool) → (Nat → Bool) → (Nat → Bool) → Prop) (Q : Bool → Nat → Nat → (Nat → Bool) → (Nat → Bool) → (Nat → Bool) → Prop) (p : Nat) (j : Nat) (nxc : Nat) (soc : Nat) (zRc : Nat → Bool) (zFc : Nat → Bool) (zTc : Nat → Bool) : Prop := (j < 2147483648) ∧ ((j = 0 → K5 p nxc soc zRc zFc zTc) ∧ (∀ j2 : Nat, j = j2 + 1 → (p < 2147483648) ∧ ((pa < 2147483648) ∧ ((¬ p = pa → v_RM_fitsBound_35 nx so pa tX xB tP yF yT zR zF wF wT zT i n s e K5 K12 Q p j2 nxc soc zRc zFc zTc) ∧ (p = pa → (j2 < 2147483648) ∧ ((n < 2147483648) ∧ ((¬ j2 = n → v_RM_fitsBound_35 nx so pa tX xB tP yF yT zR zF wF wT zT i n s e K5 K12 Q p j2 nxc soc zRc zFc zTc) ∧ (j2 = n → v_RM_fitsBound_36 nx so pa tX xB tP yF yT zR zF wF wT zT i n s e K5 K12 Q p j2 true nxc soc zRc zFc zTc))))))))
def v_RM_fitsBound (nx : Nat) (so : Nat) (pa : Nat) (tX : Nat → Int32) (xB : Nat → Nat) (tP : Nat → Int32) (yF : Nat → Nat) (yT : Nat → Nat) (zR : Nat → Bool) (zF : Nat → Bool) (wF : Nat → Nat) (wT : Nat → Nat) (zT : Nat → Bool) (i : Nat) (n : Nat) (s : Nat) (e : Nat) (K5 : Nat → Nat → Nat → (Nat → Bool) → (Nat → Bool) → (Nat → Bool) → Prop) (K12 : Nat → Nat → Nat → Nat → (Nat → Bool) → (Nat → Bool) → (Nat → Bool) → Prop) (Q : Bool → Nat → Nat → (Nat → Bool) → (Nat → Bool) → (Nat → Bool) → Prop) : Prop := K5 (pa + 1) nx so zR zF zT
theorem t_RM_fitsBound (nx : Nat) (so : Nat) (pa : Nat) (tX : Nat → Int32) (xB : Nat → Nat) (tP : Nat → Int32) (yF : Nat → Nat) (yT : Nat → Nat) (zR : Nat → Bool) (zF : Nat → Bool) (wF : Nat → Nat) (wT : Nat → Nat) (zT : Nat → Bool) (i : Nat) (n : Nat) (s : Nat) (e : Nat) (hr : r_RM_fitsBound nx so pa tX xB tP yF yT zR zF wF wT zT i n s e) (K5 : Nat → Nat → Nat → (Nat → Bool) → (Nat → Bool) → (Nat → Bool) → Prop) (K12 : Nat → Nat → Nat → Nat → (Nat → Bool) → (Nat → Bool) → (Nat → Bool) → Prop) (k5 : ∀ p nxc soc zRc zFc zTc, v_RM_fitsBound_5 nx so pa tX xB tP yF yT zR zF wF wT zT i n s e K5 K12 (p_RM_fitsBound nx so pa tX xB tP yF yT zR zF wF wT zT i n s e) p nxc soc zRc zFc zTc → K5 p nxc soc zRc zFc zTc) (k12 : ∀ p j nxc soc zRc zFc zTc, v_RM_fitsBound_12 nx so pa tX xB tP yF yT zR zF wF wT zT i n s e K5 K12 (p_RM_fitsBound nx so pa tX xB tP yF yT zR zF wF wT zT i n s e) p j nxc soc zRc zFc zTc → K12 p j nxc soc zRc zFc zTc) : v_RM_fitsBound nx so pa tX xB tP yF yT zR zF wF wT zT i n s e K5 K12 (p_RM_fitsBound nx so pa tX xB tP yF yT zR zF wF wT zT i n s e) := by
  obtain ⟨⟨p1, p2, p3, p4, p5, p6⟩, h2, h3, h4, h5, h6, h7, h8, h9⟩ := hr
  obtain ⟨B, hB⟩ : ∃ B : Nat → Nat → Bool, B = fun p j => if p = pa then decide (j = n) else sp_H tX e n (sp_rn tX tP yF yT) (wF p) j := ⟨_, rfl⟩
  have Bn : ∀ j, B pa j = decide (j = n) := by intro j; rw [hB]; simp
  have Bp : ∀ p j, p < pa → B p j = sp_H tX e n (sp_rn tX tP yF yT) (wF p) j := by
    intro p j hp
    rw [hB]
    show (if p = pa then _ else _) = _
    rw [if_neg (by omega)]
  have inner : ∀ p, p ≤ pa → (∀ w v R F T, (∀ p' j', p ≤ p' → p' ≤ pa → j' ≤ n → T (21 * p' + j') = B p' j') → K5 p w v R F T) → ∀ J w v R F T, J ≤ n + 1 → (∀ p' j', p < p' → p' ≤ pa → j' ≤ n → T (21 * p' + j') = B p' j') → (∀ j', J ≤ j' → j' ≤ n → T (21 * p + j') = B p j') → K12 p J w v R F T := by
    intro p hp nxt J
    induction J with
    | zero =>
      intro w v R F T hJ g1 g2
      refine k12 _ _ _ _ _ _ _ ?_
      unfold v_RM_fitsBound_12
      refine ⟨by omega, fun _ => nxt w v R F T (fun p' j' q1 q2 q3 => ?_), fun j hj => by omega⟩
      by_cases hpp : p' = p
      · rw [hpp]; exact g2 j' (Nat.zero_le _) q3
      · exact g1 p' j' (by omega) q2 q3
    | succ j ih =>
      intro w v R F T hJ g1 g2
      have st : ∀ b w v R F, b = B p j → v_RM_fitsBound_190 nx so pa tX xB tP yF yT zR zF wF wT zT i n s e K5 K12 (p_RM_fitsBound nx so pa tX xB tP yF yT zR zF wF wT zT i n s e) p j b w v R F T := by
        intro b w v R F hb
        unfold v_RM_fitsBound_190
        refine ⟨by omega, ih w v R F _ (by omega) (fun p' j' q1 q2 q3 => ?_) (fun j' q1 q2 => ?_)⟩
        · rw [updB_n (by omega)]; exact g1 p' j' q1 q2 q3
        · by_cases hjj : j' = j
          · rw [hjj, updB_s, hb]
          · rw [updB_n (by omega)]; exact g2 j' (by omega) q2
      have s36 : ∀ b, (p = pa → b = decide (j = n)) → v_RM_fitsBound_36 nx so pa tX xB tP yF yT zR zF wF wT zT i n s e K5 K12 (p_RM_fitsBound nx so pa tX xB tP yF yT zR zF wF wT zT i n s e) p j b w v R F T := by
        intro b hb
        by_cases hpp : p = pa
        · unfold v_RM_fitsBound_36 v_RM_fitsBound_129
          refine ⟨by omega, by omega, fun _ => ⟨by omega, by omega, fun _ => st _ _ _ _ _ ?_, fun h => by omega⟩, fun h => by omega⟩
          rw [hb hpp, hpp, Bn]
        · have hlt : p < pa := by omega
          obtain ⟨r1, r2⟩ := p3 p hlt
          have r3 := sp_eon_ge tX e (wF p)
          have r4 := sp_eon_le (t := tX) r1
          have lastq : p = pa - 1 → sp_eon tX e (wF p) = e := by intro h; rw [← r2, h]; exact p5
          have notl : ¬ p = pa - 1 → ¬ sp_eon tX e (wF p) = e := by
            intro h
            have := p4 p (by omega)
            rw [← r2]; omega
          have nxq : ¬ p = pa - 1 → wF (p + 1) = sp_eon tX e (wF p) + 1 := by
            intro h
            rw [← r2]; exact (p4 p (by omega)).1
          have deep : sp_deep tX (wF p) (wT p) = true → v_RM_fitsBound_36 nx so pa tX xB tP yF yT zR zF wF wT zT i n s e K5 K12 (p_RM_fitsBound nx so pa tX xB tP yF yT zR zF wF wT zT i n s e) p j b w v R F T := by
            intro hd
            have hd' : sp_deep tX (wF p) (sp_eon tX e (wF p)) = true := by rw [← r2]; exact hd
            unfold v_RM_fitsBound_36 v_RM_fitsBound_119 v_RM_fitsBound_123 v_RM_fitsBound_124
            refine ⟨by omega, by omega, fun h => by omega, fun _ => ⟨⟨h5, h6, by omega, by omega, by omega⟩, fun h => ?_, fun _ => ⟨by omega, by omega, by omega, fun hn => ⟨by omega, fun h => st _ _ _ _ _ ?_, fun h => ⟨by omega, by omega, fun hj => st _ _ _ _ _ ?_, fun hj => ⟨by omega, fun h' => st _ _ _ _ _ ?_, fun h' => st _ _ _ _ _ ?_⟩⟩⟩, fun hl => ⟨by omega, by omega, fun hj => st _ _ _ _ _ ?_, fun hj => st _ _ _ _ _ ?_⟩⟩⟩⟩
            · rw [decide_eq_true h7, hd] at h; cases h
            · rw [g1 (p + 1) j (by omega) (by omega) (by omega), Bp _ _ (by omega), nxq hn] at h
              rw [Bp _ _ hlt]
              exact ((sp_H_dn r1 hd' (notl hn)).mpr (Or.inl h)).symm
            · rw [g1 (p + 1) j (by omega) (by omega) (by omega), Bp _ _ (by omega), nxq hn] at h
              rw [Bp _ _ hlt]
              refine (Bool.eq_false_iff.mpr fun q => ?_).symm
              rcases (sp_H_dn r1 hd' (notl hn)).mp q with q | ⟨q, -⟩
              · rw [h] at q; cases q
              · omega
            · rw [g1 (p + 1) j (by omega) (by omega) (by omega), Bp _ _ (by omega), nxq hn] at h
              have h'' : T (21 * p + (j + 1)) = false := h'
              rw [g2 (j + 1) (Nat.le_refl _) (by omega), Bp _ _ hlt] at h''
              rw [Bp _ _ hlt]
              refine (Bool.eq_false_iff.mpr fun q => ?_).symm
              rcases (sp_H_dn r1 hd' (notl hn)).mp q with q | ⟨-, q⟩
              · rw [h] at q; cases q
              · rw [h''] at q; cases q
            · have h'' : T (21 * p + (j + 1)) = true := h'
              rw [g2 (j + 1) (Nat.le_refl _) (by omega), Bp _ _ hlt] at h''
              rw [Bp _ _ hlt]
              exact ((sp_H_dn r1 hd' (notl hn)).mpr (Or.inr ⟨by omega, h''⟩)).symm
            · rw [Bp _ _ hlt]
              refine (Bool.eq_false_iff.mpr fun q => ?_).symm
              have := (sp_H_dl r1 hd' (lastq hl)).mp q
              omega
            · rw [Bp _ _ hlt]
              exact ((sp_H_dl r1 hd' (lastq hl)).mpr (by omega)).symm
          have plain : sp_deep tX (wF p) (wT p) = false → v_RM_fitsBound_36 nx so pa tX xB tP yF yT zR zF wF wT zT i n s e K5 K12 (p_RM_fitsBound nx so pa tX xB tP yF yT zR zF wF wT zT i n s e) p j b w v R F T := by
            intro hd
            have hd' : ¬ sp_deep tX (wF p) (sp_eon tX e (wF p)) = true := by rw [← r2, hd]; decide
            have nxv : j < n → (T (21 * (p + 1) + (j + 1)) = true ↔ (p = pa - 1 ∧ j + 1 = n) ∨ (¬ p = pa - 1 ∧ sp_H tX e n (sp_rn tX tP yF yT) (sp_eon tX e (wF p) + 1) (j + 1) = true)) := by
              intro hj
              rw [g1 (p + 1) (j + 1) (by omega) (by omega) (by omega)]
              by_cases hl : p = pa - 1
              · rw [show p + 1 = pa by omega, Bn, decide_eq_true_eq]
                exact ⟨fun q => Or.inl ⟨hl, q⟩, fun q => q.elim (fun q => q.2) (fun q => absurd hl q.1)⟩
              · rw [Bp _ _ (by omega), nxq hl]
                exact ⟨fun q => Or.inr ⟨hl, q⟩, fun q => q.elim (fun q => absurd q.1 hl) (fun q => q.2)⟩
            have whole : B p j = true ↔ j < n ∧ sp_rn tX tP yF yT (wF p) (wT p) j = true ∧ ((p = pa - 1 ∧ j + 1 = n) ∨ (¬ p = pa - 1 ∧ sp_H tX e n (sp_rn tX tP yF yT) (sp_eon tX e (wF p) + 1) (j + 1) = true)) := by
              rw [Bp _ _ hlt, r2]
              by_cases hl : p = pa - 1
              · rw [sp_H_pl r1 hd' (lastq hl)]
                exact ⟨fun ⟨a1, a2, a3⟩ => ⟨a1, a2, Or.inl ⟨hl, a3⟩⟩, fun ⟨a1, a2, a3⟩ => ⟨a1, a2, a3.elim (fun q => q.2) (fun q => absurd hl q.1)⟩⟩
              · rw [sp_H_pn r1 hd' (notl hl)]
                exact ⟨fun ⟨a1, a2, a3⟩ => ⟨a1, a2, Or.inr ⟨hl, a3⟩⟩, fun ⟨a1, a2, a3⟩ => ⟨a1, a2, a3.elim (fun q => absurd q.1 hl) (fun q => q.2)⟩⟩
            unfold v_RM_fitsBound_36 v_RM_fitsBound_129 v_RM_fitsBound_187 v_RM_fitsBound_188
            refine ⟨by omega, by omega, fun h => by omega, fun _ => ⟨⟨h5, h6, by omega, by omega, by omega⟩, fun _ => ⟨by omega, by omega, fun h => by omega, fun _ => ⟨by omega, by omega, fun hj => st _ _ _ _ _ ?_, fun hj => ⟨by omega, fun h => st _ _ _ _ _ ?_, fun h => ⟨by omega, by omega, ⟨by omega, by omega, by omega, h9 j (by omega)⟩, fun w' v' R' F' => ⟨fun h' => st _ _ _ _ _ ?_, fun h' => st _ _ _ _ _ ?_⟩⟩⟩⟩⟩, fun h => ?_⟩⟩
            · refine (Bool.eq_false_iff.mpr fun q => ?_).symm
              have := (whole.mp q).1
              omega
            · refine (Bool.eq_false_iff.mpr fun q => ?_).symm
              have h'' : T (21 * (p + 1) + (j + 1)) = false := h
              have := (nxv (by omega)).mpr (whole.mp q).2.2
              rw [h''] at this; cases this
            · refine (Bool.eq_false_iff.mpr fun q => ?_).symm
              have := (whole.mp q).2.1
              rw [h'] at this; cases this
            · exact (whole.mpr ⟨by omega, h', (nxv (by omega)).mp h⟩).symm
            · rw [hd, Bool.and_false] at h; cases h
          cases hd : sp_deep tX (wF p) (wT p) with
          | true => exact deep hd
          | false => exact plain hd
      refine k12 _ _ _ _ _ _ _ ?_
      unfold v_RM_fitsBound_12 v_RM_fitsBound_35
      refine ⟨by omega, fun h => by omega, fun j2 hj2 => ?_⟩
      obtain rfl : j = j2 := by omega
      refine ⟨by omega, by omega, fun h => s36 false (fun q => absurd q h), fun h => ⟨by omega, by omega, fun h' => s36 false (fun _ => by rw [decide_eq_false h']), fun h' => s36 true (fun _ => by rw [decide_eq_true h'])⟩⟩
  have outer : ∀ P w v R F T, P ≤ pa + 1 → (∀ p' j', P ≤ p' → p' ≤ pa → j' ≤ n → T (21 * p' + j') = B p' j') → K5 P w v R F T := by
    intro P
    induction P with
    | zero =>
      intro w v R F T hP g
      refine k5 _ _ _ _ _ _ ?_
      unfold v_RM_fitsBound_5
      refine ⟨by omega, fun _ => ⟨by omega, ?_⟩, fun j hj => by omega⟩
      have := g 0 0 (Nat.le_refl _) (Nat.zero_le _) (Nat.zero_le _)
      rw [Bp 0 0 (by omega), p2] at this
      exact this
    | succ P ih =>
      intro w v R F T hP g
      refine k5 _ _ _ _ _ _ ?_
      unfold v_RM_fitsBound_5
      refine ⟨by omega, fun h => by omega, fun j hj => ?_⟩
      obtain rfl : P = j := by omega
      exact inner P (by omega) (fun w v R F T g' => ih w v R F T (by omega) g') (n + 1) w v R F T (Nat.le_refl _) (fun p' j' q1 q2 q3 => g p' j' q1 q2 q3) (fun j' q1 q2 => by omega)
  exact outer (pa + 1) nx so zR zF zT (Nat.le_refl _) (fun p' j' q1 q2 q3 => by omega)

def r_RM_fitsFirst (nx : Nat) (so : Nat) (pa : Nat) (tX : Nat → Int32) (xF : Nat → Nat) (xT : Nat → Nat) (xB : Nat → Nat) (tP : Nat → Int32) (yF : Nat → Nat) (yT : Nat → Nat) (zR : Nat → Bool) (zF : Nat → Bool) (wF : Nat → Nat) (wT : Nat → Nat) (zT : Nat → Bool) (i : Nat) (n : Nat) (d : Bool) : Prop := i < 60 ∧ xF i ≤ xT i ∧ xT i ≤ 1000 ∧ 1 + sp_cnt tX (xT i) (xF i) ≤ 1000 ∧ xB i < 16 ∧ 1 ≤ n ∧ n ≤ 20 ∧ (∀ j, j < n → yF j ≤ yT j ∧ yT j ≤ 120)
def p_RM_fitsFirst (nx : Nat) (so : Nat) (pa : Nat) (tX : Nat → Int32) (xF : Nat → Nat) (xT : Nat → Nat) (xB : Nat → Nat) (tP : Nat → Int32) (yF : Nat → Nat) (yT : Nat → Nat) (zR : Nat → Bool) (zF : Nat → Bool) (wF : Nat → Nat) (wT : Nat → Nat) (zT : Nat → Bool) (i : Nat) (n : Nat) (d : Bool) (r : Bool) (nx' : Nat) (so' : Nat) (zR' : Nat → Bool) (zF' : Nat → Bool) (zT' : Nat → Bool) (pa' : Nat) (wF' : Nat → Nat) (wT' : Nat → Nat) : Prop := r = (sp_rg tX tP yF yT (xF i) (xT i) (xB i) n d)
def v_RM_fitsFirst_32 (nx : Nat) (so : Nat) (pa : Nat) (tX : Nat → Int32) (xF : Nat → Nat) (xT : Nat → Nat) (xB : Nat → Nat) (tP : Nat → Int32) (yF : Nat → Nat) (yT : Nat → Nat) (zR : Nat → Bool) (zF : Nat → Bool) (wF : Nat → Nat) (wT : Nat → Nat) (zT : Nat → Bool) (i : Nat) (n : Nat) (d : Bool) (Q : Bool → Nat → Nat → (Nat → Bool) → (Nat → Bool) → (Nat → Bool) → Nat → (Nat → Nat) → (Nat → Nat) → Prop) (nxc : Nat) (soc : Nat) (pac : Nat) (zRc : Nat → Bool) (zFc : Nat → Bool) (wFc : Nat → Nat) (wTc : Nat → Nat) (zTc : Nat → Bool) : Prop := (i < 60) ∧ ((i < 60) ∧ ((r_RM_findParts pac tX wFc wTc (xF i) (xT i)) ∧ ((∀ (pa1 : Nat) (wF2 : Nat → Nat) (wT3 : Nat → Nat), q_RM_findParts pac tX wFc wTc (xF i) (xT i) pa1 wF2 wT3 → (i < 60) ∧ (((xB i) &&& 4 < 2147483648) ∧ ((¬ (xB i) &&& 4 = 4 → (i < 60) ∧ ((i < 60) ∧ ((1 ≤ n) ∧ ((r_RM_fitsName nxc soc tX tP yF yT zRc zFc (xF i) (xT i) (n - 1)) ∧ ((∀ (nx4 : Nat) (so5 : Nat) (zR6 : Nat → Bool) (zF7 : Nat → Bool), Q (sp_rn tX tP yF yT (xF i) (xT i) (n - 1)) nx4 so5 zR6 zF7 zTc pa1 wF2 wT3)))))) ∧ ((xB i) &&& 4 = 4 → (pa1 < 2147483648) ∧ ((1000 < pa1 → Q false nxc soc zRc zFc zTc pa1 wF2 wT3) ∧ (¬ 1000 < pa1 → (r_RM_fitsBound nxc soc pa1 tX xB tP yF yT zRc zFc wF2 wT3 zTc i n (xF i) (xT i)) ∧ ((∀ (nx8 : Nat) (so9 : Nat) (zR10 : Nat → Bool) (zF11 : Nat → Bool) (zT12 : Nat → Bool), (sp_H tX (xT i) n (sp_rn tX tP yF yT) (xF i) 0 = false → Q false nx8 so9 zR10 zF11 zT12 pa1 wF2 wT3) ∧ (sp_H tX (xT i) n (sp_rn tX tP yF yT) (xF i) 0 = true → Q true nx8 so9 zR10 zF11 zT12 pa1 wF2 wT3))))))))))))
def v_RM_fitsFirst (nx : Nat) (so : Nat) (pa : Nat) (tX : Nat → Int32) (xF : Nat → Nat) (xT : Nat → Nat) (xB : Nat → Nat) (tP : Nat → Int32) (yF : Nat → Nat) (yT : Nat → Nat) (zR : Nat → Bool) (zF : Nat → Bool) (wF : Nat → Nat) (wT : Nat → Nat) (zT : Nat → Bool) (i : Nat) (n : Nat) (d : Bool) (Q : Bool → Nat → Nat → (Nat → Bool) → (Nat → Bool) → (Nat → Bool) → Nat → (Nat → Nat) → (Nat → Nat) → Prop) : Prop := (i < 60) ∧ (((xB i) &&& 8 < 2147483648) ∧ (((xB i) &&& 8 = 8 → Q false nx so zR zF zT pa wF wT) ∧ (¬ (xB i) &&& 8 = 8 → (i < 60) ∧ (((xB i) &&& 2 < 2147483648) ∧ ((¬ (xB i) &&& 2 = 2 → v_RM_fitsFirst_32 nx so pa tX xF xT xB tP yF yT zR zF wF wT zT i n d Q nx so pa zR zF wF wT zT) ∧ ((xB i) &&& 2 = 2 → (d = true → v_RM_fitsFirst_32 nx so pa tX xF xT xB tP yF yT zR zF wF wT zT i n d Q nx so pa zR zF wF wT zT) ∧ (d = false → Q false nx so zR zF zT pa wF wT)))))))
theorem t_RM_fitsFirst (nx : Nat) (so : Nat) (pa : Nat) (tX : Nat → Int32) (xF : Nat → Nat) (xT : Nat → Nat) (xB : Nat → Nat) (tP : Nat → Int32) (yF : Nat → Nat) (yT : Nat → Nat) (zR : Nat → Bool) (zF : Nat → Bool) (wF : Nat → Nat) (wT : Nat → Nat) (zT : Nat → Bool) (i : Nat) (n : Nat) (d : Bool) (hr : r_RM_fitsFirst nx so pa tX xF xT xB tP yF yT zR zF wF wT zT i n d)  : v_RM_fitsFirst nx so pa tX xF xT xB tP yF yT zR zF wF wT zT i n d (p_RM_fitsFirst nx so pa tX xF xT xB tP yF yT zR zF wF wT zT i n d) := by
  obtain ⟨h1, h2, h3, h4, h5, h6, h7, h8⟩ := hr
  have b8 := sp_bit8 (xB i) h5
  have b4 := sp_bit4 (xB i) h5
  have b2 := sp_bit2 (xB i) h5
  generalize hans : sp_rg tX tP yF yT (xF i) (xT i) (xB i) n d = ans
  have hp : ∀ r a1 a2 a3 a4 a5 a6 a7 a8, r = ans → p_RM_fitsFirst nx so pa tX xF xT xB tP yF yT zR zF wF wT zT i n d r a1 a2 a3 a4 a5 a6 a7 a8 := by
    intro r a1 a2 a3 a4 a5 a6 a7 a8 hr
    rw [p_RM_fitsFirst, hans]; exact hr
  have go : ¬ (xB i &&& 8 = 8 ∨ (xB i &&& 2 = 2 ∧ d = false)) → v_RM_fitsFirst_32 nx so pa tX xF xT xB tP yF yT zR zF wF wT zT i n d (p_RM_fitsFirst nx so pa tX xF xT xB tP yF yT zR zF wF wT zT i n d) nx so pa zR zF wF wT zT := by
    intro hno
    rw [sp_rg, if_neg hno] at hans
    unfold v_RM_fitsFirst_32
    refine ⟨h1, h1, ⟨h2, h3⟩, fun c F T hq => ⟨h1, by omega, fun h => ⟨h1, h1, h6, ⟨h2, h3, by omega, h8 (n - 1) (by omega)⟩, fun _ _ _ _ => hp _ _ _ _ _ _ _ _ _ ?_⟩, fun h => ⟨?_, fun hc => ?_, fun hc => ⟨⟨hq, by omega, h3, h2, h1, h5, h, h7, h8⟩, fun _ _ _ _ _ => ⟨fun h' => hp _ _ _ _ _ _ _ _ _ ?_, fun h' => hp _ _ _ _ _ _ _ _ _ ?_⟩⟩⟩⟩⟩
    · rw [if_neg h] at hans
      exact hans
    · have := hq.2.2.2.2.2
      omega
    · have := hq.1
      omega
    · rw [if_pos h] at hans
      rw [← hans, h']
    · rw [if_pos h] at hans
      rw [← hans, h']
  unfold v_RM_fitsFirst
  refine ⟨h1, by omega, fun h => hp _ _ _ _ _ _ _ _ _ ?_, fun h => ⟨h1, by omega, fun h' => go ?_, fun h' => ⟨fun hd => go ?_, fun hd => hp _ _ _ _ _ _ _ _ _ ?_⟩⟩⟩
  · rw [← hans, sp_rg, if_pos (Or.inl h)]
  · rintro (q | ⟨q, -⟩)
    · exact h q
    · exact h' q
  · rintro (q | ⟨-, q⟩)
    · exact h q
    · rw [hd] at q; cases q
  · rw [← hans, sp_rg, if_pos (Or.inr ⟨h', hd⟩)]

