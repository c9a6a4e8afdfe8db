def r_RM_name (th : Nat) (ru : Nat) (na : Nat) (nx : Nat) (so : Nat) (pa : Nat) (tX : Nat → Int32) (xF : Nat → Nat) (xT : Nat → Nat) (xB : Nat → Nat) (tP : Nat → Int32) (yF : Nat → Nat) (yT : Nat → Nat) (zR : Nat → Bool) (zF : Nat → Bool) (wF : Nat → Nat) (wT : Nat → Nat) (x : Int32) (y : Int32) (z : Int32) : Prop := sp_rok2 tX xF xT xB ru ∧ na ≤ 20 ∧ (∀ j, j < na → yF j ≤ yT j ∧ yT j ≤ 120)
def q_RM_name (th : Nat) (ru : Nat) (na : Nat) (nx : Nat) (so : Nat) (pa : Nat) (tX : Nat → Int32) (xF : Nat → Nat) (xT : Nat → Nat) (xB : Nat → Nat) (tP : Nat → Int32) (yF : Nat → Nat) (yT : Nat → Nat) (zR : Nat → Bool) (zF : Nat → Bool) (wF : Nat → Nat) (wT : Nat → Nat) (x : Int32) (y : Int32) (z : Int32) (r : Bool) (th' : Nat) (nx' : Nat) (so' : Nat) (zR' : Nat → Bool) (zF' : Nat → Bool) (pa' : Nat) (wF' : Nat → Nat) (wT' : Nat → Nat) : Prop := (((x < 0 ∨ nI ru ≤ x) ∨ y < 0) → th' = 1 ∧ r = false) ∧ (∀ i p, i < ru → x = nI i → p < 2147483648 → y = nI p → (1 + sp_cnt tX (xT i) (xF i) ≤ p → th' = 1 ∧ r = false) ∧ (p < 1 + sp_cnt tX (xT i) (xF i) → (na = 0 → th' = 2 ∧ r = false) ∧ (1 ≤ na → (z < 0 ∨ nI na ≤ z) → th' = 1 ∧ r = false) ∧ (∀ j, j < na → z = nI j → th' = 0 ∧ sp_parts tX (xF i) (xT i) pa' wF' wT' ∧ r = ((decide (xB i &&& 4 = 4) && sp_deep tX (wF' p) (wT' p)) || sp_rn tX tP yF yT (wF' p) (wT' p) j))))
def p_RM_name (th : Nat) (ru : Nat) (na : Nat) (nx : Nat) (so : Nat) (pa : Nat) (tX : Nat → Int32) (xF : Nat → Nat) (xT : Nat → Nat) (xB : Nat → Nat) (tP : Nat → Int32) (yF : Nat → Nat) (yT : Nat → Nat) (zR : Nat → Bool) (zF : Nat → Bool) (wF : Nat → Nat) (wT : Nat → Nat) (x : Int32) (y : Int32) (z : Int32) (r : Bool) (th' : Nat) (nx' : Nat) (so' : Nat) (zR' : Nat → Bool) (zF' : Nat → Bool) (pa' : Nat) (wF' : Nat → Nat) (wT' : Nat → Nat) : Prop := q_RM_name th ru na nx so pa tX xF xT xB tP yF yT zR zF wF wT x y z r th' nx' so' zR' zF' pa' wF' wT'
def v_RM_name_93 (th : Nat) (ru : Nat) (na : Nat) (nx : Nat) (so : Nat) (pa : Nat) (tX : Nat → Int32) (xF : Nat → Nat) (xT : Nat → Nat) (xB : Nat → Nat) (tP : Nat → Int32) (yF : Nat → Nat) (yT : Nat → Nat) (zR : Nat → Bool) (zF : Nat → Bool) (wF : Nat → Nat) (wT : Nat → Nat) (x : Int32) (y : Int32) (z : Int32) (Q : Bool → Nat → Nat → Nat → (Nat → Bool) → (Nat → Bool) → Nat → (Nat → Nat) → (Nat → Nat) → Prop) (s0 : Nat) (thc : Nat) (nxc : Nat) (soc : Nat) (pac : Nat) (zRc : Nat → Bool) (zFc : Nat → Bool) (wFc : Nat → Nat) (wTc : Nat → Nat) : Prop := (s0 < 2147483648) ∧ ((¬ s0 = 0 → Q false s0 nxc soc zRc zFc pac wFc wTc) ∧ (s0 = 0 → ∃ p6 : Nat, y = nI p6 ∧ (∃ i7 : Nat, x = nI i7 ∧ ((r_RM_isDeep tX xB wFc wTc i7 p6) ∧ (((decide (xB i7 &&& 4 = 4) && sp_deep tX (wFc p6) (wTc p6)) = true → Q true s0 nxc soc zRc zFc pac wFc wTc) ∧ ((decide (xB i7 &&& 4 = 4) && sp_deep tX (wFc p6) (wTc p6)) = false → (p6 < 1001) ∧ ((p6 < 1001) ∧ (∃ j10 : Nat, z = nI j10 ∧ ((r_RM_fitsName nxc soc tX tP yF yT zRc zFc (wFc p6) (wTc p6) j10) ∧ ((∀ (nx11 : Nat) (so12 : Nat) (zR13 : Nat → Bool) (zF14 : Nat → Bool), (sp_rn tX tP yF yT (wFc p6) (wTc p6) j10 = false → Q false s0 nx11 so12 zR13 zF14 pac wFc wTc) ∧ (sp_rn tX tP yF yT (wFc p6) (wTc p6) j10 = true → Q true s0 nx11 so12 zR13 zF14 pac wFc wTc))))))))))))
def v_RM_name_88 (th : Nat) (ru : Nat) (na : Nat) (nx : Nat) (so : Nat) (pa : Nat) (tX : Nat → Int32) (xF : Nat → Nat) (xT : Nat → Nat) (xB : Nat → Nat) (tP : Nat → Int32) (yF : Nat → Nat) (yT : Nat → Nat) (zR : Nat → Bool) (zF : Nat → Bool) (wF : Nat → Nat) (wT : Nat → Nat) (x : Int32) (y : Int32) (z : Int32) (Q : Bool → Nat → Nat → Nat → (Nat → Bool) → (Nat → Bool) → Nat → (Nat → Nat) → (Nat → Nat) → Prop) (thc : Nat) (nxc : Nat) (soc : Nat) (pac : Nat) (zRc : Nat → Bool) (zFc : Nat → Bool) (wFc : Nat → Nat) (wTc : Nat → Nat) : Prop := v_RM_name_93 th ru na nx so pa tX xF xT xB tP yF yT zR zF wF wT x y z Q 1 thc nxc soc pac zRc zFc wFc wTc
def v_RM_name_55 (th : Nat) (ru : Nat) (na : Nat) (nx : Nat) (so : Nat) (pa : Nat) (tX : Nat → Int32) (xF : Nat → Nat) (xT : Nat → Nat) (xB : Nat → Nat) (tP : Nat → Int32) (yF : Nat → Nat) (yT : Nat → Nat) (zR : Nat → Bool) (zF : Nat → Bool) (wF : Nat → Nat) (wT : Nat → Nat) (x : Int32) (y : Int32) (z : Int32) (Q : Bool → Nat → Nat → Nat → (Nat → Bool) → (Nat → Bool) → Nat → (Nat → Nat) → (Nat → Nat) → Prop) (b : Nat) (thc : Nat) (nxc : Nat) (soc : Nat) (pac : Nat) (zRc : Nat → Bool) (zFc : Nat → Bool) (wFc : Nat → Nat) (wTc : Nat → Nat) : Prop := (b < 2147483648) ∧ ((b = 0 → (na < 2147483648) ∧ ((¬ na = 0 → (z < 0 → v_RM_name_88 th ru na nx so pa tX xF xT xB tP yF yT zR zF wF wT x y z Q thc nxc soc pac zRc zFc wFc wTc) ∧ (¬ z < 0 → (z < (nI na) → v_RM_name_93 th ru na nx so pa tX xF xT xB tP yF yT zR zF wF wT x y z Q 0 thc nxc soc pac zRc zFc wFc wTc) ∧ (¬ z < (nI na) → v_RM_name_88 th ru na nx so pa tX xF xT xB tP yF yT zR zF wF wT x y z Q thc nxc soc pac zRc zFc wFc wTc))) ∧ (na = 0 → v_RM_name_93 th ru na nx so pa tX xF xT xB tP yF yT zR zF wF wT x y z Q 2 thc nxc soc pac zRc zFc wFc wTc))) ∧ (¬ b = 0 → v_RM_name_93 th ru na nx so pa tX xF xT xB tP yF yT zR zF wF wT x y z Q 1 thc nxc soc pac zRc zFc wFc wTc))
def v_RM_name_53 (th : Nat) (ru : Nat) (na : Nat) (nx : Nat) (so : Nat) (pa : Nat) (tX : Nat → Int32) (xF : Nat → Nat) (xT : Nat → Nat) (xB : Nat → Nat) (tP : Nat → Int32) (yF : Nat → Nat) (yT : Nat → Nat) (zR : Nat → Bool) (zF : Nat → Bool) (wF : Nat → Nat) (wT : Nat → Nat) (x : Int32) (y : Int32) (z : Int32) (Q : Bool → Nat → Nat → Nat → (Nat → Bool) → (Nat → Bool) → Nat → (Nat → Nat) → (Nat → Nat) → Prop) (s0 : Nat) (thc : Nat) (nxc : Nat) (soc : Nat) (pac : Nat) (zRc : Nat → Bool) (zFc : Nat → Bool) (wFc : Nat → Nat) (wTc : Nat → Nat) : Prop := v_RM_name_55 th ru na nx so pa tX xF xT xB tP yF yT zR zF wF wT x y z Q s0 thc nxc soc pac zRc zFc wFc wTc
def v_RM_name_17 (th : Nat) (ru : Nat) (na : Nat) (nx : Nat) (so : Nat) (pa : Nat) (tX : Nat → Int32) (xF : Nat → Nat) (xT : Nat → Nat) (xB : Nat → Nat) (tP : Nat → Int32) (yF : Nat → Nat) (yT : Nat → Nat) (zR : Nat → Bool) (zF : Nat → Bool) (wF : Nat → Nat) (wT : Nat → Nat) (x : Int32) (y : Int32) (z : Int32) (Q : Bool → Nat → Nat → Nat → (Nat → Bool) → (Nat → Bool) → Nat → (Nat → Nat) → (Nat → Nat) → Prop) (s0 : Nat) (thc : Nat) (nxc : Nat) (soc : Nat) (pac : Nat) (zRc : Nat → Bool) (zFc : Nat → Bool) (wFc : Nat → Nat) (wTc : Nat → Nat) : Prop := (s0 < 2147483648) ∧ ((¬ s0 = 0 → v_RM_name_55 th ru na nx so pa tX xF xT xB tP yF yT zR zF wF wT x y z Q s0 thc nxc soc pac zRc zFc wFc wTc) ∧ (s0 = 0 → ∃ i1 : Nat, x = nI i1 ∧ ((i1 < 60) ∧ ((i1 < 60) ∧ ((r_RM_findParts pac tX wFc wTc (xF i1) (xT i1)) ∧ ((∀ (pa3 : Nat) (wF4 : Nat → Nat) (wT5 : Nat → Nat), q_RM_findParts pac tX wFc wTc (xF i1) (xT i1) pa3 wF4 wT5 → (y < (nI pa3) → v_RM_name_53 th ru na nx so pa tX xF xT xB tP yF yT zR zF wF wT x y z Q 0 thc nxc soc pa3 zRc zFc wF4 wT5) ∧ (¬ y < (nI pa3) → v_RM_name_53 th ru na nx so pa tX xF xT xB tP yF yT zR zF wF wT x y z Q 1 thc nxc soc pa3 zRc zFc wF4 wT5))))))))
def v_RM_name_12 (th : Nat) (ru : Nat) (na : Nat) (nx : Nat) (so : Nat) (pa : Nat) (tX : Nat → Int32) (xF : Nat → Nat) (xT : Nat → Nat) (xB : Nat → Nat) (tP : Nat → Int32) (yF : Nat → Nat) (yT : Nat → Nat) (zR : Nat → Bool) (zF : Nat → Bool) (wF : Nat → Nat) (wT : Nat → Nat) (x : Int32) (y : Int32) (z : Int32) (Q : Bool → Nat → Nat → Nat → (Nat → Bool) → (Nat → Bool) → Nat → (Nat → Nat) → (Nat → Nat) → Prop) (thc : Nat) (nxc : Nat) (soc : Nat) (pac : Nat) (zRc : Nat → Bool) (zFc : Nat → Bool) (wFc : Nat → Nat) (wTc : Nat → Nat) : Prop := v_RM_name_17 th ru na nx so pa tX xF xT xB tP yF yT zR zF wF wT x y z Q 1 thc nxc soc pac zRc zFc wFc wTc
def v_RM_name (th : Nat) (ru : Nat) (na : Nat) (nx : Nat) (so : Nat) (pa : Nat) (tX : Nat → Int32) (xF : Nat → Nat) (xT : Nat → Nat) (xB : Nat → Nat) (tP : Nat → Int32) (yF : Nat → Nat) (yT : Nat → Nat) (zR : Nat → Bool) (zF : Nat → Bool) (wF : Nat → Nat) (wT : Nat → Nat) (x : Int32) (y : Int32) (z : Int32) (Q : Bool → Nat → Nat → Nat → (Nat → Bool) → (Nat → Bool) → Nat → (Nat → Nat) → (Nat → Nat) → Prop) : Prop := (r_RM_noRule ru x) ∧ ((decide (x < 0 ∨ nI ru ≤ x) = true → v_RM_name_12 th ru na nx so pa tX xF xT xB tP yF yT zR zF wF wT x y z Q th nx so pa zR zF wF wT) ∧ (decide (x < 0 ∨ nI ru ≤ x) = false → (0 ≤ y → v_RM_name_17 th ru na nx so pa tX xF xT xB tP yF yT zR zF wF wT x y z Q 0 th nx so pa zR zF wF wT) ∧ (¬ 0 ≤ y → v_RM_name_12 th ru na nx so pa tX xF xT xB tP yF yT zR zF wF wT x y z Q th nx so pa zR zF wF wT)))
theorem t_RM_name (th : Nat) (ru : Nat) (na : Nat) (nx : Nat) (so : Nat) (pa : Nat) (tX : Nat → Int32) (xF : Nat → Nat) (xT : Nat → Nat) (xB : Nat → Nat) (tP : Nat → Int32) (yF : Nat → Nat) (yT : Nat → Nat) (zR : Nat → Bool) (zF : Nat → Bool) (wF : Nat → Nat) (wT : Nat → Nat) (x : Int32) (y : Int32) (z : Int32) (hr : r_RM_name th ru na nx so pa tX xF xT xB tP yF yT zR zF wF wT x y z)  : v_RM_name th ru na nx so pa tX xF xT xB tP yF yT zR zF wF wT x y z (p_RM_name th ru na nx so pa tX xF xT xB tP yF yT zR zF wF wT x y z) := by
  obtain ⟨h1, h2, h3⟩ := hr
  have hru := h1.1
  have one : ∀ a0 a1 a2 a3 a4 a5 a6 a7, ((x < 0 ∨ nI ru ≤ x) ∨ y < 0) → v_RM_name_17 th ru na nx so pa tX xF xT xB tP yF yT zR zF wF wT x y z (p_RM_name th ru na nx so pa tX xF xT xB tP yF yT zR zF wF wT x y z) 1 a0 a1 a2 a3 a4 a5 a6 a7 := by
    intro a0 a1 a2 a3 a4 a5 a6 a7 hx
    unfold v_RM_name_17 v_RM_name_55
    refine ⟨by decide, fun _ => ⟨by decide, fun h => absurd h (by decide), fun _ => ?_⟩, fun h => absurd h (by decide)⟩
    unfold v_RM_name_93
    refine ⟨by decide, fun _ => ⟨fun _ => ⟨rfl, rfl⟩, fun i p g1 g2 g3 g4 => ?_⟩, fun h => absurd h (by decide)⟩
    exfalso
    rcases hx with hx | hx
    · rw [g2] at hx; exact ig_rngn g1 (by omega) hx
    · rw [g4] at hx; exact nI_pos (by omega) hx
  unfold v_RM_name v_RM_name_12
  refine ⟨hru, fun hx => one _ _ _ _ _ _ _ _ (Or.inl (of_decide_eq_true hx)), fun hx => ⟨fun hy => ?_, fun hy => one _ _ _ _ _ _ _ _ (Or.inr (Int32.not_le.mp hy))⟩⟩
  have hx' := of_decide_eq_false hx
  have hy' : ¬ y < 0 := fun q => absurd hy (Int32.not_le.mpr q)
  have nxy : ¬ ((x < 0 ∨ nI ru ≤ x) ∨ y < 0) := fun q => q.elim hx' hy'
  obtain ⟨i, hi, ei⟩ := ig_rng (by omega) hx'
  obtain ⟨p, p1, ep⟩ := nI_of hy'
  obtain ⟨r1, r2, r3, r4⟩ := h1.2 i hi
  have e2 : ∀ i', i' < ru → x = nI i' → i' = i := fun i' g1 g2 => (ig_eq (by omega) (by omega)).mp (g2.symm.trans ei)
  have e3 : ∀ p', p' < 2147483648 → y = nI p' → p' = p := fun p' g1 g2 => (ig_eq (by omega) (by omega)).mp (g2.symm.trans ep)
  unfold v_RM_name_17
  refine ⟨by decide, fun h => absurd rfl h, fun _ => ⟨i, ei, by omega, by omega, ⟨r1, r2⟩, fun pa3 wF4 wT5 hq => ?_⟩⟩
  have hq' : sp_parts tX (xF i) (xT i) pa3 wF4 wT5 := hq
  obtain ⟨q1, q2, q3, q4, q5, q6⟩ := hq
  have pa3b : pa3 < 2147483648 := by omega
  refine ⟨fun hp => ?_, fun hp => ?_⟩
  · have hp' : p < pa3 := by
      rw [ep] at hp
      exact (ig_lt (by omega) pa3b).mp hp
    obtain ⟨w1, w2⟩ := q3 p hp'
    have w3 : wF4 p ≤ wT5 p := by rw [w2]; exact sp_eon_ge _ _ _
    have w4 : wT5 p ≤ xT i := by rw [w2]; exact sp_eon_le w1
    have big : (¬ na = 0) → (z < 0 ∨ nI na ≤ z) → ∀ a0 a1 a2 a3 a4, v_RM_name_88 th ru na nx so pa tX xF xT xB tP yF yT zR zF wF wT x y z (p_RM_name th ru na nx so pa tX xF xT xB tP yF yT zR zF wF wT x y z) a0 a1 a2 pa3 a3 a4 wF4 wT5 := by
      intro hn hz a0 a1 a2 a3 a4
      unfold v_RM_name_88 v_RM_name_93
      refine ⟨by decide, fun _ => ⟨fun h => absurd h nxy, fun i' p' g1 g2 g3 g4 => ⟨fun _ => ⟨rfl, rfl⟩, fun _ => ⟨fun h => absurd h hn, fun _ _ => ⟨rfl, rfl⟩, fun j j1 j2 => ?_⟩⟩⟩, fun h => absurd h (by decide)⟩
      rw [j2] at hz
      exact absurd hz (ig_rngn j1 (by omega))
    unfold v_RM_name_53 v_RM_name_55
    refine ⟨by decide, fun _ => ⟨by omega, fun hn => ⟨fun hz => big hn (Or.inl hz) _ _ _ _ _, fun hz => ⟨fun hz2 => ?_, fun hz2 => big hn (Or.inr (Int32.not_lt.mp hz2)) _ _ _ _ _⟩⟩, fun hn => ?_⟩, fun h => absurd rfl h⟩
    · have nz : ¬ (z < 0 ∨ nI na ≤ z) := by
        rintro (q | q)
        · exact hz q
        · exact absurd hz2 (Int32.not_lt.mpr q)
      obtain ⟨j, hj, ez⟩ := ig_rng (by omega) nz
      have e4 : ∀ j', j' < na → z = nI j' → j' = j := fun j' g1 g2 => (ig_eq (by omega) (by omega)).mp (g2.symm.trans ez)
      have fin : ∀ r c1 c2 c3 c4, r = ((decide (xB i &&& 4 = 4) && sp_deep tX (wF4 p) (wT5 p)) || sp_rn tX tP yF yT (wF4 p) (wT5 p) j) → p_RM_name th ru na nx so pa tX xF xT xB tP yF yT zR zF wF wT x y z r 0 c1 c2 c3 c4 pa3 wF4 wT5 := by
        intro r c1 c2 c3 c4 hr
        refine ⟨fun h => absurd h nxy, fun i' p' g1 g2 g3 g4 => ?_⟩
        have f2 := e2 i' g1 g2
        have f3 := e3 p' g3 g4
        rw [f2, f3]
        refine ⟨fun g5 => by omega, fun _ => ⟨fun h => absurd h hn, fun _ h => absurd h nz, fun j' j1 j2 => ?_⟩⟩
        rw [e4 j' j1 j2]
        exact ⟨rfl, hq', hr⟩
      obtain ⟨y1, y2⟩ := h3 j hj
      unfold v_RM_name_93
      refine ⟨by decide, fun h => absurd rfl h, fun _ => ⟨p, ep, i, ei, ⟨by omega, r4, by omega, w3, by omega⟩, fun hd => fin _ _ _ _ _ (by rw [hd]; rfl), fun hd => ⟨by omega, by omega, j, ez, ⟨w3, by omega, by omega, y1, y2⟩, fun c1 c2 c3 c4 => ⟨fun hf => fin _ _ _ _ _ (by rw [hd, hf]; rfl), fun hf => fin _ _ _ _ _ (by rw [hd, hf]; rfl)⟩⟩⟩⟩
    · unfold v_RM_name_93
      refine ⟨by decide, fun _ => ⟨fun h => absurd h nxy, fun i' p' g1 g2 g3 g4 => ⟨fun g5 => ?_, fun _ => ⟨fun _ => ⟨rfl, rfl⟩, fun h => by omega, fun j j1 => by omega⟩⟩⟩, fun h => absurd h (by decide)⟩
      rw [e2 i' g1 g2, e3 p' g3 g4] at g5
      omega
  · unfold v_RM_name_53 v_RM_name_55
    refine ⟨by decide, fun h => absurd h (by decide), fun _ => ?_⟩
    unfold v_RM_name_93
    refine ⟨by decide, fun _ => ⟨fun h => absurd h nxy, fun i' p' g1 g2 g3 g4 => ⟨fun _ => ⟨rfl, rfl⟩, fun g5 => ?_⟩⟩, fun h => absurd h (by decide)⟩
    rw [e2 i' g1 g2, e3 p' g3 g4, ← q1] at g5
    rw [ep] at hp
    exact absurd (nI_lt g5 (by omega)) hp

