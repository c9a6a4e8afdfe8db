def r_RM_findParts (pa : Nat) (tX : Nat → Int32) (wF : Nat → Nat) (wT : Nat → Nat) (f : Nat) (a : Nat) : Prop := f ≤ a ∧ a ≤ 1000
def q_RM_findParts (pa : Nat) (tX : Nat → Int32) (wF : Nat → Nat) (wT : Nat → Nat) (f : Nat) (a : Nat) (pa' : Nat) (wF' : Nat → Nat) (wT' : Nat → Nat) : Prop := sp_parts tX f a pa' wF' wT'
def p_RM_findParts (pa : Nat) (tX : Nat → Int32) (wF : Nat → Nat) (wT : Nat → Nat) (f : Nat) (a : Nat) (pa' : Nat) (wF' : Nat → Nat) (wT' : Nat → Nat) : Prop := q_RM_findParts pa tX wF wT f a pa' wF' wT'
def v_RM_findParts_34 (pa : Nat) (tX : Nat → Int32) (wF : Nat → Nat) (wT : Nat → Nat) (f : Nat) (a : Nat) (K10 : Nat → Nat → Nat → (Nat → Nat) → (Nat → Nat) → Prop) (Q : Nat → (Nat → Nat) → (Nat → Nat) → Prop) (g : Nat) (b : Nat) (pac : Nat) (wFc : Nat → Nat) (wTc : Nat → Nat) : Prop := (pac < 1001) ∧ ((pac < 1001) ∧ (K10 (b + 1) (b + 1) (pac + 1) (updN wFc pac g) (updN wTc pac b)))
def v_RM_findParts_10 (pa : Nat) (tX : Nat → Int32) (wF : Nat → Nat) (wT : Nat → Nat) (f : Nat) (a : Nat) (K10 : Nat → Nat → Nat → (Nat → Nat) → (Nat → Nat) → Prop) (Q : Nat → (Nat → Nat) → (Nat → Nat) → Prop) (g : Nat) (b : Nat) (pac : Nat) (wFc : Nat → Nat) (wTc : Nat → Nat) : Prop := (b < 2147483648) ∧ ((a < 2147483648) ∧ ((a < b → Q pac wFc wTc) ∧ (¬ a < b → (b < 2147483648) ∧ ((a < 2147483648) ∧ ((b = a → v_RM_findParts_34 pa tX wF wT f a K10 Q g b pac wFc wTc) ∧ (¬ b = a → (b < 1000) ∧ ((¬ (tX b) = 47 → K10 g (b + 1) pac wFc wTc) ∧ ((tX b) = 47 → v_RM_findParts_34 pa tX wF wT f a K10 Q g b pac wFc wTc))))))))
def v_RM_findParts (pa : Nat) (tX : Nat → Int32) (wF : Nat → Nat) (wT : Nat → Nat) (f : Nat) (a : Nat) (K10 : Nat → Nat → Nat → (Nat → Nat) → (Nat → Nat) → Prop) (Q : Nat → (Nat → Nat) → (Nat → Nat) → Prop) : Prop := K10 f f 0 wF wT
theorem t_RM_findParts (pa : Nat) (tX : Nat → Int32) (wF : Nat → Nat) (wT : Nat → Nat) (f : Nat) (a : Nat) (hr : r_RM_findParts pa tX wF wT f a) (K10 : Nat → Nat → Nat → (Nat → Nat) → (Nat → Nat) → Prop) (k10 : ∀ g b pac wFc wTc, v_RM_findParts_10 pa tX wF wT f a K10 (p_RM_findParts pa tX wF wT f a) g b pac wFc wTc → K10 g b pac wFc wTc) : v_RM_findParts pa tX wF wT f a K10 (p_RM_findParts pa tX wF wT f a) := by
  obtain ⟨h1, h2⟩ := hr
  have key : ∀ d g b c F T, a + 1 - b ≤ d → ((b ≤ a ∧ f ≤ b ∧ g ≤ b ∧ c + f ≤ b ∧ sp_eon tX a b = sp_eon tX a g ∧ c + sp_cnt tX a b = sp_cnt tX a f ∧ (c = 0 → g = f) ∧ (0 < c → F 0 = f ∧ g = T (c - 1) + 1) ∧ (∀ p, p < c → F p ≤ a ∧ T p = sp_eon tX a (F p) ∧ T p < a) ∧ (∀ p, p + 1 < c → F (p + 1) = T p + 1)) ∨ (b = a + 1 ∧ sp_parts tX f a c F T)) → K10 g b c F T := by
    intro d
    induction d with
    | zero =>
      intro g b c F T hd hI
      rcases hI with ⟨q1, -⟩ | ⟨q1, q2⟩
      · omega
      · refine k10 g b c F T ?_
        unfold v_RM_findParts_10
        exact ⟨by omega, by omega, fun _ => q2, fun h => by omega⟩
    | succ d ih =>
      intro g b c F T hd hI
      rcases hI with ⟨q1, q2, q3, q4, q5, q6, q7, q8, q9, q10⟩ | ⟨q1, q2⟩
      · have at' : (b = a ∨ tX b = 47) → v_RM_findParts_34 pa tX wF wT f a K10 (p_RM_findParts pa tX wF wT f a) g b c F T := by
          intro hs
          have eg : sp_eon tX a g = b := by rw [← q5]; exact sp_eon_at hs
          unfold v_RM_findParts_34
          refine ⟨by omega, by omega, ih _ _ _ _ _ (by omega) ?_⟩
          have u0 : updN F c g 0 = f := by
            by_cases hc : c = 0
            · rw [hc, updN_s]; exact q7 hc
            · rw [updN_n (by omega)]; exact (q8 (by omega)).1
          have u1 : ∀ p, p < c + 1 → updN F c g p ≤ a ∧ updN T c b p = sp_eon tX a (updN F c g p) := by
            intro p hp
            by_cases hpc : p = c
            · subst hpc
              rw [updN_s, updN_s]
              exact ⟨by omega, eg.symm⟩
            · rw [updN_n hpc, updN_n hpc]
              have := q9 p (by omega)
              exact ⟨this.1, this.2.1⟩
          have u2 : ∀ p, p + 1 < c + 1 → updN F c g (p + 1) = updN T c b p + 1 ∧ updN T c b p < a := by
            intro p hp
            rw [updN_n (by omega : p ≠ c)]
            refine ⟨?_, (q9 p (by omega)).2.2⟩
            by_cases hpc : p + 1 = c
            · rw [hpc, updN_s, (q8 (by omega)).2, ← hpc, Nat.add_sub_cancel]
            · rw [updN_n hpc]; exact q10 p (by omega)
          by_cases hba : b < a
          · have h47 := hs.resolve_left (by omega)
            rw [sp_cnt_at hba h47] at q6
            refine Or.inl ⟨by omega, by omega, Nat.le_refl _, by omega, rfl, by omega, fun h => by omega, fun _ => ⟨u0, ?_⟩, fun p hp => ?_, fun p hp => (u2 p hp).1⟩
            · rw [Nat.add_sub_cancel, updN_s]
            · refine ⟨(u1 p hp).1, (u1 p hp).2, ?_⟩
              by_cases hpc : p = c
              · rw [hpc, updN_s]; exact hba
              · rw [updN_n hpc]; exact (q9 p (by omega)).2.2
          · rw [sp_cnt_e (by omega)] at q6
            refine Or.inr ⟨by omega, by omega, u0, u1, u2, ?_, by omega⟩
            rw [Nat.add_sub_cancel, updN_s]
            omega
        refine k10 g b c F T ?_
        unfold v_RM_findParts_10
        refine ⟨by omega, by omega, fun h => by omega, fun _ => ⟨by omega, by omega, fun h => at' (Or.inl h), fun h => ⟨by omega, fun h47 => ?_, fun h47 => at' (Or.inr h47)⟩⟩⟩
        exact ih _ _ _ _ _ (by omega) (Or.inl ⟨by omega, by omega, by omega, by omega, by rw [← sp_eon_no (by omega) h47]; exact q5, by rw [← sp_cnt_no (by omega) h47]; exact q6, q7, q8, q9, q10⟩)
      · refine k10 g b c F T ?_
        unfold v_RM_findParts_10
        exact ⟨by omega, by omega, fun _ => q2, fun h => by omega⟩
  exact key (a + 1) f f 0 wF wT (by omega) (Or.inl ⟨h1, Nat.le_refl _, Nat.le_refl _, by omega, rfl, by omega, fun _ => rfl, fun h => absurd h (Nat.lt_irrefl 0), fun p hp => absurd hp (Nat.not_lt_zero _), fun p hp => absurd hp (Nat.not_lt_zero _)⟩)

def r_RM_what (nx : Nat) (so : Nat) (pa : Nat) (tX : Nat → Int32) (wF : Nat → Nat) (wT : Nat → Nat) (f : Nat) (a : Nat) (b1 : Bool) (b2 : Bool) (b3 : Bool) : Prop := f ≤ a ∧ a ≤ 1000
def p_RM_what (nx : Nat) (so : Nat) (pa : Nat) (tX : Nat → Int32) (wF : Nat → Nat) (wT : Nat → Nat) (f : Nat) (a : Nat) (b1 : Bool) (b2 : Bool) (b3 : Bool) (r : Nat) (nx' : Nat) (so' : Nat) (pa' : Nat) (wF' : Nat → Nat) (wT' : Nat → Nat) : Prop := r = ((cond b1 1 0) + (cond b2 2 0) + (cond b3 4 0) + (cond (sp_hv tX a f) 8 0))
def v_RM_what_90 (nx : Nat) (so : Nat) (pa : Nat) (tX : Nat → Int32) (wF : Nat → Nat) (wT : Nat → Nat) (f : Nat) (a : Nat) (b1 : Bool) (b2 : Bool) (b3 : Bool) (K12 : Bool → Nat → Nat → Nat → Nat → (Nat → Nat) → (Nat → Nat) → Prop) (Q : Nat → Nat → Nat → Nat → (Nat → Nat) → (Nat → Nat) → Prop) (vo : Bool) (s0 : Nat) (s1 : Nat) (nxc : Nat) (soc : Nat) (pac : Nat) (wFc : Nat → Nat) (wTc : Nat → Nat) : Prop := (vo = false → Q ((s1 + s0) + 0) nxc soc pac wFc wTc) ∧ (vo = true → Q ((s1 + s0) + 8) nxc soc pac wFc wTc)
def v_RM_what_79 (nx : Nat) (so : Nat) (pa : Nat) (tX : Nat → Int32) (wF : Nat → Nat) (wT : Nat → Nat) (f : Nat) (a : Nat) (b1 : Bool) (b2 : Bool) (b3 : Bool) (K12 : Bool → Nat → Nat → Nat → Nat → (Nat → Nat) → (Nat → Nat) → Prop) (Q : Nat → Nat → Nat → Nat → (Nat → Nat) → (Nat → Nat) → Prop) (vo : Bool) (s0 : Nat) (s1 : Nat) (nxc : Nat) (soc : Nat) (pac : Nat) (wFc : Nat → Nat) (wTc : Nat → Nat) : Prop := (b3 = false → v_RM_what_90 nx so pa tX wF wT f a b1 b2 b3 K12 Q vo 0 (s1 + s0) nxc soc pac wFc wTc) ∧ (b3 = true → v_RM_what_90 nx so pa tX wF wT f a b1 b2 b3 K12 Q vo 4 (s1 + s0) nxc soc pac wFc wTc)
def v_RM_what_69 (nx : Nat) (so : Nat) (pa : Nat) (tX : Nat → Int32) (wF : Nat → Nat) (wT : Nat → Nat) (f : Nat) (a : Nat) (b1 : Bool) (b2 : Bool) (b3 : Bool) (K12 : Bool → Nat → Nat → Nat → Nat → (Nat → Nat) → (Nat → Nat) → Prop) (Q : Nat → Nat → Nat → Nat → (Nat → Nat) → (Nat → Nat) → Prop) (vo : Bool) (s0 : Nat) (nxc : Nat) (soc : Nat) (pac : Nat) (wFc : Nat → Nat) (wTc : Nat → Nat) : Prop := (b2 = false → v_RM_what_79 nx so pa tX wF wT f a b1 b2 b3 K12 Q vo 0 s0 nxc soc pac wFc wTc) ∧ (b2 = true → v_RM_what_79 nx so pa tX wF wT f a b1 b2 b3 K12 Q vo 2 s0 nxc soc pac wFc wTc)
def v_RM_what_47 (nx : Nat) (so : Nat) (pa : Nat) (tX : Nat → Int32) (wF : Nat → Nat) (wT : Nat → Nat) (f : Nat) (a : Nat) (b1 : Bool) (b2 : Bool) (b3 : Bool) (K12 : Bool → Nat → Nat → Nat → Nat → (Nat → Nat) → (Nat → Nat) → Prop) (Q : Nat → Nat → Nat → Nat → (Nat → Nat) → (Nat → Nat) → Prop) (k : Nat) (nxc : Nat) (soc : Nat) (pac : Nat) (wFc : Nat → Nat) (wTc : Nat → Nat) : Prop := K12 true (k + 1) nxc soc pac wFc wTc
def v_RM_what_12 (nx : Nat) (so : Nat) (pa : Nat) (tX : Nat → Int32) (wF : Nat → Nat) (wT : Nat → Nat) (f : Nat) (a : Nat) (b1 : Bool) (b2 : Bool) (b3 : Bool) (K12 : Bool → Nat → Nat → Nat → Nat → (Nat → Nat) → (Nat → Nat) → Prop) (Q : Nat → Nat → Nat → Nat → (Nat → Nat) → (Nat → Nat) → Prop) (vo : Bool) (k : Nat) (nxc : Nat) (soc : Nat) (pac : Nat) (wFc : Nat → Nat) (wTc : Nat → Nat) : Prop := (k < 2147483648) ∧ ((pac < 2147483648) ∧ ((pac ≤ k → (b1 = false → v_RM_what_69 nx so pa tX wF wT f a b1 b2 b3 K12 Q vo 0 nxc soc pac wFc wTc) ∧ (b1 = true → v_RM_what_69 nx so pa tX wF wT f a b1 b2 b3 K12 Q vo 1 nxc soc pac wFc wTc)) ∧ (¬ pac ≤ k → (vo = true → v_RM_what_47 nx so pa tX wF wT f a b1 b2 b3 K12 Q k nxc soc pac wFc wTc) ∧ (vo = false → (k < 1001) ∧ ((k < 1001) ∧ ((r_RM_isVoidName nxc soc tX (wFc k) (wTc k)) ∧ ((∀ (nx4 : Nat) (so5 : Nat), ((decide ((wFc k) = (wTc k)) || sp_void tX (wTc k) (wFc k)) = false → K12 false (k + 1) nx4 so5 pac wFc wTc) ∧ ((decide ((wFc k) = (wTc k)) || sp_void tX (wTc k) (wFc k)) = true → v_RM_what_47 nx so pa tX wF wT f a b1 b2 b3 K12 Q k nx4 so5 pac wFc wTc)))))))))
def v_RM_what (nx : Nat) (so : Nat) (pa : Nat) (tX : Nat → Int32) (wF : Nat → Nat) (wT : Nat → Nat) (f : Nat) (a : Nat) (b1 : Bool) (b2 : Bool) (b3 : Bool) (K12 : Bool → Nat → Nat → Nat → Nat → (Nat → Nat) → (Nat → Nat) → Prop) (Q : Nat → Nat → Nat → Nat → (Nat → Nat) → (Nat → Nat) → Prop) : Prop := (r_RM_findParts pa tX wF wT f a) ∧ ((∀ (pa1 : Nat) (wF2 : Nat → Nat) (wT3 : Nat → Nat), q_RM_findParts pa tX wF wT f a pa1 wF2 wT3 → K12 false 0 nx so pa1 wF2 wT3))
theorem t_RM_what (nx : Nat) (so : Nat) (pa : Nat) (tX : Nat → Int32) (wF : Nat → Nat) (wT : Nat → Nat) (f : Nat) (a : Nat) (b1 : Bool) (b2 : Bool) (b3 : Bool) (hr : r_RM_what nx so pa tX wF wT f a b1 b2 b3) (K12 : Bool → Nat → Nat → Nat → Nat → (Nat → Nat) → (Nat → Nat) → Prop) (k12 : ∀ vo k nxc soc pac wFc wTc, v_RM_what_12 nx so pa tX wF wT f a b1 b2 b3 K12 (p_RM_what nx so pa tX wF wT f a b1 b2 b3) vo k nxc soc pac wFc wTc → K12 vo k nxc soc pac wFc wTc) : v_RM_what nx so pa tX wF wT f a b1 b2 b3 K12 (p_RM_what nx so pa tX wF wT f a b1 b2 b3) := by
  obtain ⟨h1, h2⟩ := hr
  have fin : ∀ vo n s c F T, vo = sp_hv tX a f → (b1 = false → v_RM_what_69 nx so pa tX wF wT f a b1 b2 b3 K12 (p_RM_what nx so pa tX wF wT f a b1 b2 b3) vo 0 n s c F T) ∧ (b1 = true → v_RM_what_69 nx so pa tX wF wT f a b1 b2 b3 K12 (p_RM_what nx so pa tX wF wT f a b1 b2 b3) vo 1 n s c F T) := by
    intro vo n s c F T hv
    unfold v_RM_what_69 v_RM_what_79 v_RM_what_90
    simp only [p_RM_what, ← hv]
    refine ⟨fun h => ⟨fun h' => ⟨fun h3 => ⟨fun h4 => ?_, fun h4 => ?_⟩, fun h3 => ⟨fun h4 => ?_, fun h4 => ?_⟩⟩, fun h' => ⟨fun h3 => ⟨fun h4 => ?_, fun h4 => ?_⟩, fun h3 => ⟨fun h4 => ?_, fun h4 => ?_⟩⟩⟩, fun h => ⟨fun h' => ⟨fun h3 => ⟨fun h4 => ?_, fun h4 => ?_⟩, fun h3 => ⟨fun h4 => ?_, fun h4 => ?_⟩⟩, fun h' => ⟨fun h3 => ⟨fun h4 => ?_, fun h4 => ?_⟩, fun h3 => ⟨fun h4 => ?_, fun h4 => ?_⟩⟩⟩⟩ <;> rw [h, h', h3, h4] <;> rfl
  unfold v_RM_what
  refine ⟨⟨h1, h2⟩, fun c F T hq => ?_⟩
  obtain ⟨p1, p2, p3, p4, p5, p6⟩ := hq
  have key : ∀ d vo k n s, c - k ≤ d → k ≤ c → ((vo = true ∧ sp_hv tX a f = true) ∨ (vo = false ∧ (k < c → sp_hv tX a (F k) = sp_hv tX a f) ∧ (k = c → sp_hv tX a f = false))) → K12 vo k n s c F T := by
    intro d
    have stop : ∀ vo k n s, k = c → ((vo = true ∧ sp_hv tX a f = true) ∨ (vo = false ∧ (k < c → sp_hv tX a (F k) = sp_hv tX a f) ∧ (k = c → sp_hv tX a f = false))) → K12 vo k n s c F T := by
      intro vo k n s hk hI
      refine k12 _ _ _ _ _ _ _ ?_
      unfold v_RM_what_12
      refine ⟨by omega, by omega, fun _ => fin _ _ _ _ _ _ ?_, fun h => by omega⟩
      rcases hI with ⟨q1, q2⟩ | ⟨q1, -, q3⟩
      · rw [q1, q2]
      · rw [q1, q3 hk]
    induction d with
    | zero => intro vo k n s hd hk hI; exact stop _ _ _ _ (by omega) hI
    | succ d ih =>
      intro vo k n s hd hk hI
      by_cases hkc : k = c
      · exact stop _ _ _ _ hkc hI
      · have hlt : k < c := by omega
        have pk := p3 k hlt
        have hle := sp_eon_le (t := tX) pk.1
        have hge := sp_eon_ge tX a (F k)
        refine k12 _ _ _ _ _ _ _ ?_
        unfold v_RM_what_12 v_RM_what_47
        refine ⟨by omega, by omega, fun h => by omega, fun _ => ⟨fun hv => ?_, fun hv => ⟨by omega, by omega, ⟨by omega, by omega⟩, fun n' s' => ⟨fun h => ?_, fun h => ?_⟩⟩⟩⟩
        · rcases hI with ⟨q1, q2⟩ | ⟨q1, -⟩
          · exact ih _ _ _ _ (by omega) (by omega) (Or.inl ⟨rfl, q2⟩)
          · rw [hv] at q1; cases q1
        · rcases hI with ⟨q1, -⟩ | ⟨-, q2, -⟩
          · rw [hv] at q1; cases q1
          · have e1 := q2 hlt
            rw [sp_hv, ← pk.2, h, Bool.false_or] at e1
            refine ih _ _ _ _ (by omega) (by omega) (Or.inr ⟨rfl, fun h' => ?_, fun h' => ?_⟩)
            · obtain ⟨r1, r2⟩ := p4 k h'
              rw [dif_pos r2] at e1
              rw [r1]; exact e1
            · have : F k ≤ a := pk.1
              rw [dif_neg] at e1
              · exact e1.symm
              · rw [show k = c - 1 by omega, p5]
                omega
        · rcases hI with ⟨q1, -⟩ | ⟨-, q2, -⟩
          · rw [hv] at q1; cases q1
          · have e1 := q2 hlt
            rw [sp_hv, ← pk.2, h, Bool.true_or] at e1
            exact ih _ _ _ _ (by omega) (by omega) (Or.inl ⟨rfl, e1.symm⟩)
  exact key c false 0 nx so (by omega) (by omega) (Or.inr ⟨rfl, fun _ => by rw [p2], fun h => by omega⟩)

def r_RM_line (ru : Nat) (nx : Nat) (so : Nat) (pa : Nat) (tX : Nat → Int32) (xF : Nat → Nat) (xT : Nat → Nat) (xB : Nat → Nat) (xL : Nat → Nat) (wF : Nat → Nat) (wT : Nat → Nat) (f : Nat) (a : Nat) (no : Nat) : Prop := f ≤ a ∧ a ≤ 1000 ∧ ru ≤ 2000
def q_RM_line (ru : Nat) (nx : Nat) (so : Nat) (pa : Nat) (tX : Nat → Int32) (xF : Nat → Nat) (xT : Nat → Nat) (xB : Nat → Nat) (xL : Nat → Nat) (wF : Nat → Nat) (wT : Nat → Nat) (f : Nat) (a : Nat) (no : Nat) (ru' : Nat) (xF' : Nat → Nat) (xT' : Nat → Nat) (xB' : Nat → Nat) (xL' : Nat → Nat) (nx' : Nat) (so' : Nat) (pa' : Nat) (wF' : Nat → Nat) (wT' : Nat → Nat) : Prop := ru' = ru + (sp_one tX f a no).length ∧ ∀ l, l.length = ru → (ru ≤ 60 → sp_hold xF xT xB xL l) → (ru' ≤ 60 → sp_hold xF' xT' xB' xL' (l ++ sp_one tX f a no))
def p_RM_line (ru : Nat) (nx : Nat) (so : Nat) (pa : Nat) (tX : Nat → Int32) (xF : Nat → Nat) (xT : Nat → Nat) (xB : Nat → Nat) (xL : Nat → Nat) (wF : Nat → Nat) (wT : Nat → Nat) (f : Nat) (a : Nat) (no : Nat) (ru' : Nat) (xF' : Nat → Nat) (xT' : Nat → Nat) (xB' : Nat → Nat) (xL' : Nat → Nat) (nx' : Nat) (so' : Nat) (pa' : Nat) (wF' : Nat → Nat) (wT' : Nat → Nat) : Prop := q_RM_line ru nx so pa tX xF xT xB xL wF wT f a no ru' xF' xT' xB' xL' nx' so' pa' wF' wT'
def v_RM_line_258 (ru : Nat) (nx : Nat) (so : Nat) (pa : Nat) (tX : Nat → Int32) (xF : Nat → Nat) (xT : Nat → Nat) (xB : Nat → Nat) (xL : Nat → Nat) (wF : Nat → Nat) (wT : Nat → Nat) (f : Nat) (a : Nat) (no : Nat) (K3 : Nat → Nat → Nat → Nat → Nat → (Nat → Nat) → (Nat → Nat) → (Nat → Nat) → (Nat → Nat) → (Nat → Nat) → (Nat → Nat) → Prop) (Q : Nat → (Nat → Nat) → (Nat → Nat) → (Nat → Nat) → (Nat → Nat) → Nat → Nat → Nat → (Nat → Nat) → (Nat → Nat) → Prop) (ruc : Nat) (nxc : Nat) (soc : Nat) (pac : Nat) (xFc : Nat → Nat) (xTc : Nat → Nat) (xBc : Nat → Nat) (xLc : Nat → Nat) (wFc : Nat → Nat) (wTc : Nat → Nat) : Prop := Q (ruc + 1) xFc xTc xBc xLc nxc soc pac wFc wTc
def v_RM_line_192 (ru : Nat) (nx : Nat) (so : Nat) (pa : Nat) (tX : Nat → Int32) (xF : Nat → Nat) (xT : Nat → Nat) (xB : Nat → Nat) (xL : Nat → Nat) (wF : Nat → Nat) (wT : Nat → Nat) (f : Nat) (a : Nat) (no : Nat) (K3 : Nat → Nat → Nat → Nat → Nat → (Nat → Nat) → (Nat → Nat) → (Nat → Nat) → (Nat → Nat) → (Nat → Nat) → (Nat → Nat) → Prop) (Q : Nat → (Nat → Nat) → (Nat → Nat) → (Nat → Nat) → (Nat → Nat) → Nat → Nat → Nat → (Nat → Nat) → (Nat → Nat) → Prop) (e : Nat) (b1 : Bool) (b2 : Bool) (b3 : Bool) (s0 : Nat) (ruc : Nat) (nxc : Nat) (soc : Nat) (pac : Nat) (xFc : Nat → Nat) (xTc : Nat → Nat) (xBc : Nat → Nat) (xLc : Nat → Nat) (wFc : Nat → Nat) (wTc : Nat → Nat) : Prop := (ruc < 2147483648) ∧ ((60 ≤ ruc → v_RM_line_258 ru nx so pa tX xF xT xB xL wF wT f a no K3 Q ruc nxc soc pac xFc xTc xBc xLc wFc wTc) ∧ (¬ 60 ≤ ruc → (ruc < 60) ∧ ((ruc < 60) ∧ ((ruc < 60) ∧ ((r_RM_what nxc soc pac tX wFc wTc s0 e b1 b2 b3) ∧ ((∀ (nx1 : Nat) (so2 : Nat) (pa3 : Nat) (wF4 : Nat → Nat) (wT5 : Nat → Nat), (ruc < 60) ∧ (v_RM_line_258 ru nx so pa tX xF xT xB xL wF wT f a no K3 Q ruc nx1 so2 pa3 (updN xFc ruc s0) (updN xTc ruc e) (updN xBc ruc ((cond b1 1 0) + (cond b2 2 0) + (cond b3 4 0) + (cond (sp_hv tX e s0) 8 0))) (updN xLc ruc no) wF4 wT5))))))))
def v_RM_line_190 (ru : Nat) (nx : Nat) (so : Nat) (pa : Nat) (tX : Nat → Int32) (xF : Nat → Nat) (xT : Nat → Nat) (xB : Nat → Nat) (xL : Nat → Nat) (wF : Nat → Nat) (wT : Nat → Nat) (f : Nat) (a : Nat) (no : Nat) (K3 : Nat → Nat → Nat → Nat → Nat → (Nat → Nat) → (Nat → Nat) → (Nat → Nat) → (Nat → Nat) → (Nat → Nat) → (Nat → Nat) → Prop) (Q : Nat → (Nat → Nat) → (Nat → Nat) → (Nat → Nat) → (Nat → Nat) → Nat → Nat → Nat → (Nat → Nat) → (Nat → Nat) → Prop) (e : Nat) (g : Nat) (b1 : Bool) (b2 : Bool) (b3 : Bool) (ruc : Nat) (nxc : Nat) (soc : Nat) (pac : Nat) (xFc : Nat → Nat) (xTc : Nat → Nat) (xBc : Nat → Nat) (xLc : Nat → Nat) (wFc : Nat → Nat) (wTc : Nat → Nat) : Prop := v_RM_line_192 ru nx so pa tX xF xT xB xL wF wT f a no K3 Q e b1 b2 b3 g ruc nxc soc pac xFc xTc xBc xLc wFc wTc
def v_RM_line_152 (ru : Nat) (nx : Nat) (so : Nat) (pa : Nat) (tX : Nat → Int32) (xF : Nat → Nat) (xT : Nat → Nat) (xB : Nat → Nat) (xL : Nat → Nat) (wF : Nat → Nat) (wT : Nat → Nat) (f : Nat) (a : Nat) (no : Nat) (K3 : Nat → Nat → Nat → Nat → Nat → (Nat → Nat) → (Nat → Nat) → (Nat → Nat) → (Nat → Nat) → (Nat → Nat) → (Nat → Nat) → Prop) (Q : Nat → (Nat → Nat) → (Nat → Nat) → (Nat → Nat) → (Nat → Nat) → Nat → Nat → Nat → (Nat → Nat) → (Nat → Nat) → Prop) (g : Nat) (b1 : Bool) (b2 : Bool) (s0 : Nat) (ruc : Nat) (nxc : Nat) (soc : Nat) (pac : Nat) (xFc : Nat → Nat) (xTc : Nat → Nat) (xBc : Nat → Nat) (xLc : Nat → Nat) (wFc : Nat → Nat) (wTc : Nat → Nat) : Prop := (r_RM_has tX g s0 47) ∧ ((decide (sp_eon tX s0 g < s0) = false → v_RM_line_190 ru nx so pa tX xF xT xB xL wF wT f a no K3 Q s0 g b1 b2 (decide (sp_eon tX s0 g < s0)) ruc nxc soc pac xFc xTc xBc xLc wFc wTc) ∧ (decide (sp_eon tX s0 g < s0) = true → (g < 1000) ∧ ((¬ (tX g) = 47 → v_RM_line_190 ru nx so pa tX xF xT xB xL wF wT f a no K3 Q s0 g b1 b2 (decide (sp_eon tX s0 g < s0)) ruc nxc soc pac xFc xTc xBc xLc wFc wTc) ∧ ((tX g) = 47 → v_RM_line_192 ru nx so pa tX xF xT xB xL wF wT f a no K3 Q s0 b1 b2 (decide (sp_eon tX s0 g < s0)) (g + 1) ruc nxc soc pac xFc xTc xBc xLc wFc wTc))))
def v_RM_line_136 (ru : Nat) (nx : Nat) (so : Nat) (pa : Nat) (tX : Nat → Int32) (xF : Nat → Nat) (xT : Nat → Nat) (xB : Nat → Nat) (xL : Nat → Nat) (wF : Nat → Nat) (wT : Nat → Nat) (f : Nat) (a : Nat) (no : Nat) (K3 : Nat → Nat → Nat → Nat → Nat → (Nat → Nat) → (Nat → Nat) → (Nat → Nat) → (Nat → Nat) → (Nat → Nat) → (Nat → Nat) → Prop) (Q : Nat → (Nat → Nat) → (Nat → Nat) → (Nat → Nat) → (Nat → Nat) → Nat → Nat → Nat → (Nat → Nat) → (Nat → Nat) → Prop) (e : Nat) (g : Nat) (b1 : Bool) (s0 : Bool) (ruc : Nat) (nxc : Nat) (soc : Nat) (pac : Nat) (xFc : Nat → Nat) (xTc : Nat → Nat) (xBc : Nat → Nat) (xLc : Nat → Nat) (wFc : Nat → Nat) (wTc : Nat → Nat) : Prop := (s0 = false → v_RM_line_152 ru nx so pa tX xF xT xB xL wF wT f a no K3 Q g b1 s0 e ruc nxc soc pac xFc xTc xBc xLc wFc wTc) ∧ (s0 = true → (1 ≤ e) ∧ (v_RM_line_152 ru nx so pa tX xF xT xB xL wF wT f a no K3 Q g b1 s0 (e - 1) ruc nxc soc pac xFc xTc xBc xLc wFc wTc))
def v_RM_line_135 (ru : Nat) (nx : Nat) (so : Nat) (pa : Nat) (tX : Nat → Int32) (xF : Nat → Nat) (xT : Nat → Nat) (xB : Nat → Nat) (xL : Nat → Nat) (wF : Nat → Nat) (wT : Nat → Nat) (f : Nat) (a : Nat) (no : Nat) (K3 : Nat → Nat → Nat → Nat → Nat → (Nat → Nat) → (Nat → Nat) → (Nat → Nat) → (Nat → Nat) → (Nat → Nat) → (Nat → Nat) → Prop) (Q : Nat → (Nat → Nat) → (Nat → Nat) → (Nat → Nat) → (Nat → Nat) → Nat → Nat → Nat → (Nat → Nat) → (Nat → Nat) → Prop) (e : Nat) (g : Nat) (b1 : Bool) (ruc : Nat) (nxc : Nat) (soc : Nat) (pac : Nat) (xFc : Nat → Nat) (xTc : Nat → Nat) (xBc : Nat → Nat) (xLc : Nat → Nat) (wFc : Nat → Nat) (wTc : Nat → Nat) : Prop := v_RM_line_136 ru nx so pa tX xF xT xB xL wF wT f a no K3 Q e g b1 false ruc nxc soc pac xFc xTc xBc xLc wFc wTc
def v_RM_line_95 (ru : Nat) (nx : Nat) (so : Nat) (pa : Nat) (tX : Nat → Int32) (xF : Nat → Nat) (xT : Nat → Nat) (xB : Nat → Nat) (xL : Nat → Nat) (wF : Nat → Nat) (wT : Nat → Nat) (f : Nat) (a : Nat) (no : Nat) (K3 : Nat → Nat → Nat → Nat → Nat → (Nat → Nat) → (Nat → Nat) → (Nat → Nat) → (Nat → Nat) → (Nat → Nat) → (Nat → Nat) → Prop) (Q : Nat → (Nat → Nat) → (Nat → Nat) → (Nat → Nat) → (Nat → Nat) → Nat → Nat → Nat → (Nat → Nat) → (Nat → Nat) → Prop) (e : Nat) (b1 : Bool) (s0 : Nat) (ruc : Nat) (nxc : Nat) (soc : Nat) (pac : Nat) (xFc : Nat → Nat) (xTc : Nat → Nat) (xBc : Nat → Nat) (xLc : Nat → Nat) (wFc : Nat → Nat) (wTc : Nat → Nat) : Prop := (e < 2147483648) ∧ ((s0 < 2147483648) ∧ ((e ≤ s0 → v_RM_line_135 ru nx so pa tX xF xT xB xL wF wT f a no K3 Q e s0 b1 ruc nxc soc pac xFc xTc xBc xLc wFc wTc) ∧ (¬ e ≤ s0 → (1 ≤ e) ∧ ((e - 1 < 1000) ∧ ((¬ (tX (e - 1)) = 47 → v_RM_line_135 ru nx so pa tX xF xT xB xL wF wT f a no K3 Q e s0 b1 ruc nxc soc pac xFc xTc xBc xLc wFc wTc) ∧ ((tX (e - 1)) = 47 → (1 ≤ e) ∧ ((r_RM_isBehindOdd tX s0 (e - 1)) ∧ ((sp_esc tX s0 (e - 1) = true → v_RM_line_135 ru nx so pa tX xF xT xB xL wF wT f a no K3 Q e s0 b1 ruc nxc soc pac xFc xTc xBc xLc wFc wTc) ∧ (sp_esc tX s0 (e - 1) = false → v_RM_line_136 ru nx so pa tX xF xT xB xL wF wT f a no K3 Q e s0 b1 true ruc nxc soc pac xFc xTc xBc xLc wFc wTc)))))))))
def v_RM_line_79 (ru : Nat) (nx : Nat) (so : Nat) (pa : Nat) (tX : Nat → Int32) (xF : Nat → Nat) (xT : Nat → Nat) (xB : Nat → Nat) (xL : Nat → Nat) (wF : Nat → Nat) (wT : Nat → Nat) (f : Nat) (a : Nat) (no : Nat) (K3 : Nat → Nat → Nat → Nat → Nat → (Nat → Nat) → (Nat → Nat) → (Nat → Nat) → (Nat → Nat) → (Nat → Nat) → (Nat → Nat) → Prop) (Q : Nat → (Nat → Nat) → (Nat → Nat) → (Nat → Nat) → (Nat → Nat) → Nat → Nat → Nat → (Nat → Nat) → (Nat → Nat) → Prop) (e : Nat) (g : Nat) (s0 : Bool) (ruc : Nat) (nxc : Nat) (soc : Nat) (pac : Nat) (xFc : Nat → Nat) (xTc : Nat → Nat) (xBc : Nat → Nat) (xLc : Nat → Nat) (wFc : Nat → Nat) (wTc : Nat → Nat) : Prop := (s0 = false → v_RM_line_95 ru nx so pa tX xF xT xB xL wF wT f a no K3 Q e s0 g ruc nxc soc pac xFc xTc xBc xLc wFc wTc) ∧ (s0 = true → v_RM_line_95 ru nx so pa tX xF xT xB xL wF wT f a no K3 Q e s0 (g + 1) ruc nxc soc pac xFc xTc xBc xLc wFc wTc)
def v_RM_line_41 (ru : Nat) (nx : Nat) (so : Nat) (pa : Nat) (tX : Nat → Int32) (xF : Nat → Nat) (xT : Nat → Nat) (xB : Nat → Nat) (xL : Nat → Nat) (wF : Nat → Nat) (wT : Nat → Nat) (f : Nat) (a : Nat) (no : Nat) (K3 : Nat → Nat → Nat → Nat → Nat → (Nat → Nat) → (Nat → Nat) → (Nat → Nat) → (Nat → Nat) → (Nat → Nat) → (Nat → Nat) → Prop) (Q : Nat → (Nat → Nat) → (Nat → Nat) → (Nat → Nat) → (Nat → Nat) → Nat → Nat → Nat → (Nat → Nat) → (Nat → Nat) → Prop) (e : Nat) (ruc : Nat) (nxc : Nat) (soc : Nat) (pac : Nat) (xFc : Nat → Nat) (xTc : Nat → Nat) (xBc : Nat → Nat) (xLc : Nat → Nat) (wFc : Nat → Nat) (wTc : Nat → Nat) : Prop := (e < 2147483648) ∧ ((f < 2147483648) ∧ ((e = f → Q ruc xFc xTc xBc xLc nxc soc pac wFc wTc) ∧ (¬ e = f → (f < 1000) ∧ ((¬ (tX f) = 35 → (f < 1000) ∧ ((¬ (tX f) = 33 → v_RM_line_79 ru nx so pa tX xF xT xB xL wF wT f a no K3 Q e f false ruc nxc soc pac xFc xTc xBc xLc wFc wTc) ∧ ((tX f) = 33 → v_RM_line_79 ru nx so pa tX xF xT xB xL wF wT f a no K3 Q e f true ruc nxc soc pac xFc xTc xBc xLc wFc wTc))) ∧ ((tX f) = 35 → Q ruc xFc xTc xBc xLc nxc soc pac wFc wTc)))))
def v_RM_line_3 (ru : Nat) (nx : Nat) (so : Nat) (pa : Nat) (tX : Nat → Int32) (xF : Nat → Nat) (xT : Nat → Nat) (xB : Nat → Nat) (xL : Nat → Nat) (wF : Nat → Nat) (wT : Nat → Nat) (f : Nat) (a : Nat) (no : Nat) (K3 : Nat → Nat → Nat → Nat → Nat → (Nat → Nat) → (Nat → Nat) → (Nat → Nat) → (Nat → Nat) → (Nat → Nat) → (Nat → Nat) → Prop) (Q : Nat → (Nat → Nat) → (Nat → Nat) → (Nat → Nat) → (Nat → Nat) → Nat → Nat → Nat → (Nat → Nat) → (Nat → Nat) → Prop) (e : Nat) (ruc : Nat) (nxc : Nat) (soc : Nat) (pac : Nat) (xFc : Nat → Nat) (xTc : Nat → Nat) (xBc : Nat → Nat) (xLc : Nat → Nat) (wFc : Nat → Nat) (wTc : Nat → Nat) : Prop := (e < 2147483648) ∧ ((f < 2147483648) ∧ ((e ≤ f → v_RM_line_41 ru nx so pa tX xF xT xB xL wF wT f a no K3 Q e ruc nxc soc pac xFc xTc xBc xLc wFc wTc) ∧ (¬ e ≤ f → (1 ≤ e) ∧ ((e - 1 < 1000) ∧ ((¬ (tX (e - 1)) = 32 → v_RM_line_41 ru nx so pa tX xF xT xB xL wF wT f a no K3 Q e ruc nxc soc pac xFc xTc xBc xLc wFc wTc) ∧ ((tX (e - 1)) = 32 → (1 ≤ e) ∧ ((r_RM_isBehindOdd tX f (e - 1)) ∧ ((sp_esc tX f (e - 1) = true → v_RM_line_41 ru nx so pa tX xF xT xB xL wF wT f a no K3 Q e ruc nxc soc pac xFc xTc xBc xLc wFc wTc) ∧ (sp_esc tX f (e - 1) = false → (1 ≤ e) ∧ (K3 (e - 1) ruc nxc soc pac xFc xTc xBc xLc wFc wTc))))))))))
def v_RM_line (ru : Nat) (nx : Nat) (so : Nat) (pa : Nat) (tX : Nat → Int32) (xF : Nat → Nat) (xT : Nat → Nat) (xB : Nat → Nat) (xL : Nat → Nat) (wF : Nat → Nat) (wT : Nat → Nat) (f : Nat) (a : Nat) (no : Nat) (K3 : Nat → Nat → Nat → Nat → Nat → (Nat → Nat) → (Nat → Nat) → (Nat → Nat) → (Nat → Nat) → (Nat → Nat) → (Nat → Nat) → Prop) (Q : Nat → (Nat → Nat) → (Nat → Nat) → (Nat → Nat) → (Nat → Nat) → Nat → Nat → Nat → (Nat → Nat) → (Nat → Nat) → Prop) : Prop := K3 a ru nx so pa xF xT xB xL wF wT
theorem t_RM_line (ru : Nat) (nx : Nat) (so : Nat) (pa : Nat) (tX : Nat → Int32) (xF : Nat → Nat) (xT : Nat → Nat) (xB : Nat → Nat) (xL : Nat → Nat) (wF : Nat → Nat) (wT : Nat → Nat) (f : Nat) (a : Nat) (no : Nat) (hr : r_RM_line ru nx so pa tX xF xT xB xL wF wT f a no) (K3 : Nat → Nat → Nat → Nat → Nat → (Nat → Nat) → (Nat → Nat) → (Nat → Nat) → (Nat → Nat) → (Nat → Nat) → (Nat → Nat) → Prop) (k3 : ∀ e ruc nxc soc pac xFc xTc xBc xLc wFc wTc, v_RM_line_3 ru nx so pa tX xF xT xB xL wF wT f a no K3 (p_RM_line ru nx so pa tX xF xT xB xL wF wT f a no) e ruc nxc soc pac xFc xTc xBc xLc wFc wTc → K3 e ruc nxc soc pac xFc xTc xBc xLc wFc wTc) : v_RM_line ru nx so pa tX xF xT xB xL wF wT f a no K3 (p_RM_line ru nx so pa tX xF xT xB xL wF wT f a no) := by
  obtain ⟨h1, h2, h2'⟩ := hr
  have none : ∀ n s c F T, sp_one tX f a no = [] → p_RM_line ru nx so pa tX xF xT xB xL wF wT f a no ru xF xT xB xL n s c F T := by
    intro n s c F T h
    refine ⟨by rw [h]; rfl, fun l hl hh hr => ?_⟩
    rw [h, List.append_nil]
    exact hh hr
  have st1 := sp_strip_le tX f a
  have st2 := sp_strip_ge (t := tX) a h1
  have some' : ¬ sp_strip tX f a = f → ¬ tX f = 35 → ∀ (b1 : Bool), (b1 = true ↔ tX f = 33) → v_RM_line_79 ru nx so pa tX xF xT xB xL wF wT f a no K3 (p_RM_line ru nx so pa tX xF xT xB xL wF wT f a no) (sp_strip tX f a) f b1 ru nx so pa xF xT xB xL wF wT := by
    intro hne h35 b1 hb1
    generalize he : sp_strip tX f a = e at *
    have hlt : f < e := by omega
    have l1 := sp_a1_le (t := tX) hlt
    have l2 := sp_e1_le (t := tX) hlt
    have l3 := sp_fr_le (t := tX) hlt
    have one : sp_one tX f a no = [(sp_fr tX f e, sp_e1 tX f e, sp_bits tX f e, no)] := by
      rw [sp_one, he, if_neg]
      rintro (q | q)
      · exact hne q
      · exact h35 q
    have s258 : ∀ n s c F T w1 w2 w3 w4, (ru < 60 → w1 = updN xF ru (sp_fr tX f e) ∧ w2 = updN xT ru (sp_e1 tX f e) ∧ w3 = updN xB ru (sp_bits tX f e) ∧ w4 = updN xL ru no) → v_RM_line_258 ru nx so pa tX xF xT xB xL wF wT f a no K3 (p_RM_line ru nx so pa tX xF xT xB xL wF wT f a no) ru n s c w1 w2 w3 w4 F T := by
      intro n s c F T w1 w2 w3 w4 hw
      unfold v_RM_line_258
      refine ⟨by rw [one]; rfl, fun l hl hh hr => ?_⟩
      obtain ⟨e1, e2, e3, e4⟩ := hw (by omega)
      rw [one, e1, e2, e3, e4]
      exact sp_hold_add hl (hh (by omega))
    have s192 : ∀ b2 b3 s0 e', s0 = sp_fr tX f e → e' = sp_e1 tX f e → b2 = sp_dir tX f e → b3 = sp_bnd tX f e → v_RM_line_192 ru nx so pa tX xF xT xB xL wF wT f a no K3 (p_RM_line ru nx so pa tX xF xT xB xL wF wT f a no) e' b1 b2 b3 s0 ru nx so pa xF xT xB xL wF wT := by
      intro b2 b3 s0 e' hs he' hb2 hb3
      unfold v_RM_line_192
      refine ⟨by omega, fun h => s258 _ _ _ _ _ _ _ _ _ (fun q => by omega), fun h => ⟨by omega, by omega, by omega, ⟨by omega, by omega⟩, fun n s c F T => ⟨by omega, s258 _ _ _ _ _ _ _ _ _ (fun _ => ⟨by rw [hs], by rw [he'], ?_, rfl⟩)⟩⟩⟩
      congr 1
      rw [sp_bits, hs, he', hb2, hb3]
      have e1 : (cond b1 1 0 : Nat) = if tX f = 33 then 1 else 0 := by
        cases hq : b1 with
        | false => rw [if_neg (fun q => by rw [hb1.mpr q] at hq; cases hq)]; rfl
        | true => rw [if_pos (hb1.mp hq)]; rfl
      rw [e1]
      cases sp_dir tX f e <;> cases sp_bnd tX f e <;> cases sp_hv tX (sp_e1 tX f e) (sp_fr tX f e) <;> rfl
    have s152 : ∀ b2 g e', g = sp_a1 tX f → e' = sp_e1 tX f e → b2 = sp_dir tX f e → v_RM_line_152 ru nx so pa tX xF xT xB xL wF wT f a no K3 (p_RM_line ru nx so pa tX xF xT xB xL wF wT f a no) g b1 b2 e' ru nx so pa xF xT xB xL wF wT := by
      intro b2 g e' hg he' hb2
      have hbn : decide (sp_eon tX e' g < e') = sp_bnd tX f e := by rw [sp_bnd, hg, he']
      have hge := sp_eon_ge tX e' g
      unfold v_RM_line_152 v_RM_line_190
      rw [hbn]
      refine ⟨⟨by omega, by omega, rfl⟩, fun h => s192 _ _ _ _ ?_ he' hb2 rfl, fun h => ⟨?_, fun h47 => s192 _ _ _ _ ?_ he' hb2 rfl, fun h47 => s192 _ _ _ _ ?_ he' hb2 rfl⟩⟩
      · rw [sp_fr, if_neg (by rw [h]; rintro ⟨q, -⟩; cases q), hg]
      · rw [← hbn, decide_eq_true_eq] at h
        omega
      · rw [sp_fr, if_neg (by rintro ⟨-, q⟩; rw [← hg] at q; exact h47 q), hg]
      · rw [sp_fr, if_pos ⟨h, by rw [← hg]; exact h47⟩, hg]
    have s136 : ∀ g s0, g = sp_a1 tX f → s0 = sp_dir tX f e → v_RM_line_136 ru nx so pa tX xF xT xB xL wF wT f a no K3 (p_RM_line ru nx so pa tX xF xT xB xL wF wT f a no) e g b1 s0 ru nx so pa xF xT xB xL wF wT := by
      intro g s0 hg hs
      unfold v_RM_line_136
      refine ⟨fun h => s152 _ _ _ hg ?_ hs, fun h => ⟨by omega, s152 _ _ _ hg ?_ hs⟩⟩
      · rw [sp_e1, if_neg (by rw [← hs, h]; decide)]
      · rw [sp_e1, if_pos (by rw [← hs, h])]
    have s95 : ∀ g, g = sp_a1 tX f → v_RM_line_95 ru nx so pa tX xF xT xB xL wF wT f a no K3 (p_RM_line ru nx so pa tX xF xT xB xL wF wT f a no) e b1 g ru nx so pa xF xT xB xL wF wT := by
      intro g hg
      unfold v_RM_line_95 v_RM_line_135
      refine ⟨by omega, by omega, fun h => s136 _ _ hg ?_, fun h => ⟨by omega, by omega, fun h47 => s136 _ _ hg ?_, fun h47 => ⟨by omega, ⟨by omega, by omega⟩, fun he2 => s136 _ _ hg ?_, fun he2 => s136 _ _ hg ?_⟩⟩⟩
      · rw [sp_dir, ← hg, decide_eq_false (fun q => by omega), Bool.false_and]
      · rw [sp_dir, decide_eq_false (fun q => h47 q.2), Bool.false_and]
      · rw [sp_dir, ← hg, he2]
        simp
      · rw [sp_dir, ← hg, he2, decide_eq_true ⟨by omega, h47⟩]
        rfl
    unfold v_RM_line_79
    refine ⟨fun h => s95 _ ?_, fun h => s95 _ ?_⟩
    · rw [sp_a1, if_neg (fun q => by rw [hb1.mpr q] at h; cases h)]
    · rw [sp_a1, if_pos (hb1.mp h)]
  have s41 : v_RM_line_41 ru nx so pa tX xF xT xB xL wF wT f a no K3 (p_RM_line ru nx so pa tX xF xT xB xL wF wT f a no) (sp_strip tX f a) ru nx so pa xF xT xB xL wF wT := by
    unfold v_RM_line_41
    refine ⟨by omega, by omega, fun h => none _ _ _ _ _ ?_, fun h => ⟨by omega, fun h35 => ⟨by omega, fun h33 => some' h h35 false ⟨fun q => (by cases q), fun q => absurd q h33⟩, fun h33 => some' h h35 true ⟨fun _ => h33, fun _ => rfl⟩⟩, fun h35 => none _ _ _ _ _ ?_⟩⟩
    · rw [sp_one, if_pos (Or.inl h)]
    · rw [sp_one, if_pos (Or.inr h35)]
  have key : ∀ e, f ≤ e → e ≤ a → sp_strip tX f e = sp_strip tX f a → K3 e ru nx so pa xF xT xB xL wF wT := by
    intro e
    induction e with
    | zero =>
      intro hb ha he
      have e0 : sp_strip tX f a = 0 := by rw [← he]; rfl
      refine k3 _ _ _ _ _ _ _ _ _ _ _ ?_
      unfold v_RM_line_3
      refine ⟨by omega, by omega, fun _ => ?_, fun h => absurd (Nat.zero_le _) h⟩
      rw [e0] at s41
      exact s41
    | succ e ih =>
      intro hb ha he
      have stop : ¬ (f ≤ e ∧ tX e = 32 ∧ sp_esc tX f e = false) → v_RM_line_41 ru nx so pa tX xF xT xB xL wF wT f a no K3 (p_RM_line ru nx so pa tX xF xT xB xL wF wT f a no) (e + 1) ru nx so pa xF xT xB xL wF wT := by
        intro hn
        have e0 : sp_strip tX f a = e + 1 := by rw [← he, sp_strip, if_neg hn]
        rw [e0] at s41
        exact s41
      refine k3 _ _ _ _ _ _ _ _ _ _ _ ?_
      unfold v_RM_line_3
      simp only [Nat.add_sub_cancel]
      refine ⟨by omega, by omega, fun h => stop (by omega), fun h => ⟨by omega, by omega, fun hn => stop (fun q => hn q.2.1), fun ht => ⟨by omega, ⟨by omega, by omega⟩, fun h3 => stop (fun q => by rw [h3] at q; cases q.2.2), fun h3 => ⟨by omega, ?_⟩⟩⟩⟩
      refine ih (by omega) (by omega) ?_
      rw [← he, sp_strip, if_pos ⟨by omega, ht, h3⟩]
  exact key a h1 (Nat.le_refl _) rfl

def r_RM_tryLines (si : Nat) (ru : Nat) (nx : Nat) (so : Nat) (pa : Nat) (tX : Nat → Int32) (xF : Nat → Nat) (xT : Nat → Nat) (xB : Nat → Nat) (xL : Nat → Nat) (wF : Nat → Nat) (wT : Nat → Nat) : Prop := si ≤ 1000
def q_RM_tryLines (si : Nat) (ru : Nat) (nx : Nat) (so : Nat) (pa : Nat) (tX : Nat → Int32) (xF : Nat → Nat) (xT : Nat → Nat) (xB : Nat → Nat) (xL : Nat → Nat) (wF : Nat → Nat) (wT : Nat → Nat) (r : Nat) (ru' : Nat) (xF' : Nat → Nat) (xT' : Nat → Nat) (xB' : Nat → Nat) (xL' : Nat → Nat) (nx' : Nat) (so' : Nat) (pa' : Nat) (wF' : Nat → Nat) (wT' : Nat → Nat) : Prop := r = ru' ∧ ru' = (sp_rules tX si).length ∧ (ru' ≤ 60 → sp_hold xF' xT' xB' xL' (sp_rules tX si))
def p_RM_tryLines (si : Nat) (ru : Nat) (nx : Nat) (so : Nat) (pa : Nat) (tX : Nat → Int32) (xF : Nat → Nat) (xT : Nat → Nat) (xB : Nat → Nat) (xL : Nat → Nat) (wF : Nat → Nat) (wT : Nat → Nat) (r : Nat) (ru' : Nat) (xF' : Nat → Nat) (xT' : Nat → Nat) (xB' : Nat → Nat) (xL' : Nat → Nat) (nx' : Nat) (so' : Nat) (pa' : Nat) (wF' : Nat → Nat) (wT' : Nat → Nat) : Prop := q_RM_tryLines si ru nx so pa tX xF xT xB xL wF wT r ru' xF' xT' xB' xL' nx' so' pa' wF' wT'
def v_RM_tryLines_38 (si : Nat) (ru : Nat) (nx : Nat) (so : Nat) (pa : Nat) (tX : Nat → Int32) (xF : Nat → Nat) (xT : Nat → Nat) (xB : Nat → Nat) (xL : Nat → Nat) (wF : Nat → Nat) (wT : Nat → Nat) (K11 : Nat → Nat → Nat → Nat → Nat → Nat → Nat → (Nat → Nat) → (Nat → Nat) → (Nat → Nat) → (Nat → Nat) → (Nat → Nat) → (Nat → Nat) → Prop) (Q : Nat → Nat → (Nat → Nat) → (Nat → Nat) → (Nat → Nat) → (Nat → Nat) → Nat → Nat → Nat → (Nat → Nat) → (Nat → Nat) → Prop) (g : Nat) (x : Nat) (b : Nat) (ruc : Nat) (nxc : Nat) (soc : Nat) (pac : Nat) (xFc : Nat → Nat) (xTc : Nat → Nat) (xBc : Nat → Nat) (xLc : Nat → Nat) (wFc : Nat → Nat) (wTc : Nat → Nat) : Prop := (r_RM_line ruc nxc soc pac tX xFc xTc xBc xLc wFc wTc g b x) ∧ ((∀ (ru1 : Nat) (xF2 : Nat → Nat) (xT3 : Nat → Nat) (xB4 : Nat → Nat) (xL5 : Nat → Nat) (nx6 : Nat) (so7 : Nat) (pa8 : Nat) (wF9 : Nat → Nat) (wT10 : Nat → Nat), q_RM_line ruc nxc soc pac tX xFc xTc xBc xLc wFc wTc g b x ru1 xF2 xT3 xB4 xL5 nx6 so7 pa8 wF9 wT10 → K11 (b + 1) (x + 1) (b + 1) ru1 nx6 so7 pa8 xF2 xT3 xB4 xL5 wF9 wT10))
def v_RM_tryLines_11 (si : Nat) (ru : Nat) (nx : Nat) (so : Nat) (pa : Nat) (tX : Nat → Int32) (xF : Nat → Nat) (xT : Nat → Nat) (xB : Nat → Nat) (xL : Nat → Nat) (wF : Nat → Nat) (wT : Nat → Nat) (K11 : Nat → Nat → Nat → Nat → Nat → Nat → Nat → (Nat → Nat) → (Nat → Nat) → (Nat → Nat) → (Nat → Nat) → (Nat → Nat) → (Nat → Nat) → Prop) (Q : Nat → Nat → (Nat → Nat) → (Nat → Nat) → (Nat → Nat) → (Nat → Nat) → Nat → Nat → Nat → (Nat → Nat) → (Nat → Nat) → Prop) (g : Nat) (x : Nat) (b : Nat) (ruc : Nat) (nxc : Nat) (soc : Nat) (pac : Nat) (xFc : Nat → Nat) (xTc : Nat → Nat) (xBc : Nat → Nat) (xLc : Nat → Nat) (wFc : Nat → Nat) (wTc : Nat → Nat) : Prop := (b < 2147483648) ∧ ((si < 2147483648) ∧ ((si < b → Q ruc ruc xFc xTc xBc xLc nxc soc pac wFc wTc) ∧ (¬ si < b → (b < 2147483648) ∧ ((si < 2147483648) ∧ ((b = si → v_RM_tryLines_38 si ru nx so pa tX xF xT xB xL wF wT K11 Q g x b ruc nxc soc pac xFc xTc xBc xLc wFc wTc) ∧ (¬ b = si → (b < 1000) ∧ ((¬ (tX b) = 10 → K11 g x (b + 1) ruc nxc soc pac xFc xTc xBc xLc wFc wTc) ∧ ((tX b) = 10 → v_RM_tryLines_38 si ru nx so pa tX xF xT xB xL wF wT K11 Q g x b ruc nxc soc pac xFc xTc xBc xLc wFc wTc))))))))
def v_RM_tryLines (si : Nat) (ru : Nat) (nx : Nat) (so : Nat) (pa : Nat) (tX : Nat → Int32) (xF : Nat → Nat) (xT : Nat → Nat) (xB : Nat → Nat) (xL : Nat → Nat) (wF : Nat → Nat) (wT : Nat → Nat) (K11 : Nat → Nat → Nat → Nat → Nat → Nat → Nat → (Nat → Nat) → (Nat → Nat) → (Nat → Nat) → (Nat → Nat) → (Nat → Nat) → (Nat → Nat) → Prop) (Q : Nat → Nat → (Nat → Nat) → (Nat → Nat) → (Nat → Nat) → (Nat → Nat) → Nat → Nat → Nat → (Nat → Nat) → (Nat → Nat) → Prop) : Prop := K11 0 0 0 0 nx so pa xF xT xB xL wF wT
theorem t_RM_tryLines (si : Nat) (ru : Nat) (nx : Nat) (so : Nat) (pa : Nat) (tX : Nat → Int32) (xF : Nat → Nat) (xT : Nat → Nat) (xB : Nat → Nat) (xL : Nat → Nat) (wF : Nat → Nat) (wT : Nat → Nat) (hr : r_RM_tryLines si ru nx so pa tX xF xT xB xL wF wT) (K11 : Nat → Nat → Nat → Nat → Nat → Nat → Nat → (Nat → Nat) → (Nat → Nat) → (Nat → Nat) → (Nat → Nat) → (Nat → Nat) → (Nat → Nat) → Prop) (k11 : ∀ g x b ruc nxc soc pac xFc xTc xBc xLc wFc wTc, v_RM_tryLines_11 si ru nx so pa tX xF xT xB xL wF wT K11 (p_RM_tryLines si ru nx so pa tX xF xT xB xL wF wT) g x b ruc nxc soc pac xFc xTc xBc xLc wFc wTc → K11 g x b ruc nxc soc pac xFc xTc xBc xLc wFc wTc) : v_RM_tryLines si ru nx so pa tX xF xT xB xL wF wT K11 (p_RM_tryLines si ru nx so pa tX xF xT xB xL wF wT) := by
  have h1 : si ≤ 1000 := hr
  have main : ∀ d b c x1 x2 x3 x4 n s p w1 w2, si + 1 - b ≤ d → b ≤ si + 1 → c = (sp_ld tX si b).2.2.length → c ≤ b → (c ≤ 60 → sp_hold x1 x2 x3 x4 (sp_ld tX si b).2.2) → K11 (sp_ld tX si b).1 (sp_ld tX si b).2.1 b c n s p x1 x2 x3 x4 w1 w2 := by
    intro d
    have fin : ∀ b c x1 x2 x3 x4 n s p w1 w2, b = si + 1 → c = (sp_ld tX si b).2.2.length → c ≤ b → (c ≤ 60 → sp_hold x1 x2 x3 x4 (sp_ld tX si b).2.2) → K11 (sp_ld tX si b).1 (sp_ld tX si b).2.1 b c n s p x1 x2 x3 x4 w1 w2 := by
      intro b c x1 x2 x3 x4 n s p w1 w2 hb hc hcb hh
      refine k11 _ _ _ _ _ _ _ _ _ _ _ _ _ ?_
      unfold v_RM_tryLines_11
      refine ⟨by omega, by omega, fun _ => ⟨rfl, ?_, ?_⟩, fun h => by omega⟩
      · rw [sp_rules, ← hb]; exact hc
      · rw [sp_rules, ← hb]; exact hh
    induction d with
    | zero =>
      intro b c x1 x2 x3 x4 n s p w1 w2 hd hb hc hcb hh
      exact fin b c x1 x2 x3 x4 n s p w1 w2 (by omega) hc hcb hh
    | succ d ih =>
      intro b c x1 x2 x3 x4 n s p w1 w2 hd hb hc hcb hh
      by_cases hbs : b = si + 1
      · exact fin b c x1 x2 x3 x4 n s p w1 w2 hbs hc hcb hh
      · have bb := sp_ld_b tX si b
        have at' : (b = si ∨ tX b = 10) → v_RM_tryLines_38 si ru nx so pa tX xF xT xB xL wF wT K11 (p_RM_tryLines si ru nx so pa tX xF xT xB xL wF wT) (sp_ld tX si b).1 (sp_ld tX si b).2.1 b c n s p x1 x2 x3 x4 w1 w2 := by
          intro hs
          have e := sp_ld_at hs
          unfold v_RM_tryLines_38
          refine ⟨⟨bb.1, by omega, by omega⟩, fun c' y1 y2 y3 y4 n' s' p' z1 z2 hq => ?_⟩
          obtain ⟨q1, q2⟩ := hq
          have hl1 : (sp_one tX (sp_ld tX si b).1 b (sp_ld tX si b).2.1).length ≤ 1 := by
            rw [sp_one]
            split
            · exact Nat.zero_le _
            · exact Nat.le_refl _
          have := ih (b + 1) c' y1 y2 y3 y4 n' s' p' z1 z2 (by omega) (by omega) (by rw [e, q1, hc]; exact (List.length_append).symm) (by omega) (by rw [e]; exact q2 _ hc.symm hh)
          rw [e] at this
          exact this
        refine k11 _ _ _ _ _ _ _ _ _ _ _ _ _ ?_
        unfold v_RM_tryLines_11
        refine ⟨by omega, by omega, fun h => by omega, fun _ => ⟨by omega, by omega, fun h => at' (Or.inl h), fun h => ⟨by omega, fun h10 => ?_, fun h10 => at' (Or.inr h10)⟩⟩⟩
        have e := sp_ld_no (t := tX) (n := si) (k := b) (by rintro (q | q); exact h q; exact h10 q)
        have := ih (b + 1) c x1 x2 x3 x4 n s p w1 w2 (by omega) (by omega) (by rw [e]; exact hc) (by omega) (by rw [e]; exact hh)
        rw [e] at this
        exact this
  exact main (si + 1) 0 0 xF xT xB xL nx so pa wF wT (by omega) (by omega) rfl (Nat.le_refl _) (fun _ => sp_hold_0)

