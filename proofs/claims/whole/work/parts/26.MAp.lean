def r_MA_ruleFits (mN : Nat → Bool) (mB : Nat → Bool) (tT : Nat → Int32) (aS : Nat → Nat) (aE : Nat → Nat) (aB : Nat → Nat) (pB : Nat → Int32) (pS : Nat → Nat) (i : Nat) (n : Nat) (d : Bool) : Prop := i < 60 ∧ aS i ≤ aE i ∧ aE i ≤ 1000 ∧ aB i < 16 ∧ (aB i &&& 4 = 0 → sp_eon tT (aE i) (aS i) = aE i) ∧ 1 ≤ n ∧ n ≤ 20 ∧ (∀ j, j < n → pS j + 1 ≤ pS (j + 1)) ∧ pS n ≤ 121
def p_MA_ruleFits (mN : Nat → Bool) (mB : Nat → Bool) (tT : Nat → Int32) (aS : Nat → Nat) (aE : Nat → Nat) (aB : Nat → Nat) (pB : Nat → Int32) (pS : Nat → Nat) (i : Nat) (n : Nat) (d : Bool) (r : Bool) (mN' : Nat → Bool) (mB' : Nat → Bool) : Prop := r = (sp_rf tT (aS i) (aE i) (aB i) pB pS n d)
def v_MA_ruleFits_63 (mN : Nat → Bool) (mB : Nat → Bool) (tT : Nat → Int32) (aS : Nat → Nat) (aE : Nat → Nat) (aB : Nat → Nat) (pB : Nat → Int32) (pS : Nat → Nat) (i : Nat) (n : Nat) (d : Bool) (K89 : Bool → Bool → Nat → Nat → Nat → (Nat → Bool) → (Nat → Bool) → Prop) (Q : Bool → (Nat → Bool) → (Nat → Bool) → Prop) (bd : Bool) (s0 : Nat) (s1 : Nat) (mNc : Nat → Bool) (mBc : Nat → Bool) : Prop := (r_MA_startRow mNc 21 s1 s0) ∧ ((∀ (zw1 : Nat → Bool), q_MA_startRow mNc 21 s1 s0 zw1 → (i < 60) ∧ ((i < 60) ∧ (K89 bd false (aS i) (aE i) (aS i) zw1 mBc))))
def v_MA_ruleFits_42 (mN : Nat → Bool) (mB : Nat → Bool) (tT : Nat → Int32) (aS : Nat → Nat) (aE : Nat → Nat) (aB : Nat → Nat) (pB : Nat → Int32) (pS : Nat → Nat) (i : Nat) (n : Nat) (d : Bool) (K89 : Bool → Bool → Nat → Nat → Nat → (Nat → Bool) → (Nat → Bool) → Prop) (Q : Bool → (Nat → Bool) → (Nat → Bool) → Prop) (s0 : Bool) (mNc : Nat → Bool) (mBc : Nat → Bool) : Prop := (s0 = false → (1 ≤ n) ∧ (v_MA_ruleFits_63 mN mB tT aS aE aB pB pS i n d K89 Q s0 (n - 1) n mNc mBc)) ∧ (s0 = true → v_MA_ruleFits_63 mN mB tT aS aE aB pB pS i n d K89 Q s0 0 n mNc mBc)
def v_MA_ruleFits_30 (mN : Nat → Bool) (mB : Nat → Bool) (tT : Nat → Int32) (aS : Nat → Nat) (aE : Nat → Nat) (aB : Nat → Nat) (pB : Nat → Int32) (pS : Nat → Nat) (i : Nat) (n : Nat) (d : Bool) (K89 : Bool → Bool → Nat → Nat → Nat → (Nat → Bool) → (Nat → Bool) → Prop) (Q : Bool → (Nat → Bool) → (Nat → Bool) → Prop) (bi : Nat) (mNc : Nat → Bool) (mBc : Nat → Bool) : Prop := (bi &&& 4 < 2147483648) ∧ ((bi &&& 4 = 0 → v_MA_ruleFits_42 mN mB tT aS aE aB pB pS i n d K89 Q false mNc mBc) ∧ (¬ bi &&& 4 = 0 → v_MA_ruleFits_42 mN mB tT aS aE aB pB pS i n d K89 Q true mNc mBc))
def v_MA_ruleFits_185 (mN : Nat → Bool) (mB : Nat → Bool) (tT : Nat → Int32) (aS : Nat → Nat) (aE : Nat → Nat) (aB : Nat → Nat) (pB : Nat → Int32) (pS : Nat → Nat) (i : Nat) (n : Nat) (d : Bool) (K89 : Bool → Bool → Nat → Nat → Nat → (Nat → Bool) → (Nat → Bool) → Prop) (Q : Bool → (Nat → Bool) → (Nat → Bool) → Prop) (bd : Bool) (de : Bool) (e1 : Nat) (b : Nat) (mNc : Nat → Bool) (mBc : Nat → Bool) : Prop := K89 bd de (b + 1) e1 (b + 1) mNc mBc
def v_MA_ruleFits_182 (mN : Nat → Bool) (mB : Nat → Bool) (tT : Nat → Int32) (aS : Nat → Nat) (aE : Nat → Nat) (aB : Nat → Nat) (pB : Nat → Int32) (pS : Nat → Nat) (i : Nat) (n : Nat) (d : Bool) (K89 : Bool → Bool → Nat → Nat → Nat → (Nat → Bool) → (Nat → Bool) → Prop) (Q : Bool → (Nat → Bool) → (Nat → Bool) → Prop) (bd : Bool) (de : Bool) (e1 : Nat) (b : Nat) (s0 : Bool) (s1 : Nat) (s3 : Nat) (s4 : Nat) (mNc : Nat → Bool) (mBc : Nat → Bool) : Prop := (r_MA_takeName mNc mBc tT pB pS s4 s3 s1 s0) ∧ ((∀ (mN3 : Nat → Bool) (mB4 : Nat → Bool), q_MA_takeName mNc mBc tT pB pS s4 s3 s1 s0 mN3 mB4 → v_MA_ruleFits_185 mN mB tT aS aE aB pB pS i n d K89 Q bd de e1 b mN3 mB4))
def v_MA_ruleFits_139 (mN : Nat → Bool) (mB : Nat → Bool) (tT : Nat → Int32) (aS : Nat → Nat) (aE : Nat → Nat) (aB : Nat → Nat) (pB : Nat → Int32) (pS : Nat → Nat) (i : Nat) (n : Nat) (d : Bool) (K89 : Bool → Bool → Nat → Nat → Nat → (Nat → Bool) → (Nat → Bool) → Prop) (Q : Bool → (Nat → Bool) → (Nat → Bool) → Prop) (bd : Bool) (g : Nat) (e1 : Nat) (b : Nat) (s0 : Bool) (mNc : Nat → Bool) (mBc : Nat → Bool) : Prop := (s0 = false → (b < 2147483648) ∧ ((e1 < 2147483648) ∧ ((¬ b = e1 → v_MA_ruleFits_182 mN mB tT aS aE aB pB pS i n d K89 Q bd s0 e1 b false n b g mNc mBc) ∧ (b = e1 → v_MA_ruleFits_182 mN mB tT aS aE aB pB pS i n d K89 Q bd s0 e1 b true n b g mNc mBc)))) ∧ (s0 = true → (r_MA_spread mNc 21 n) ∧ ((∀ (zw2 : Nat → Bool), q_MA_spread mNc 21 n zw2 → v_MA_ruleFits_185 mN mB tT aS aE aB pB pS i n d K89 Q bd s0 e1 b zw2 mBc)))
def v_MA_ruleFits_138 (mN : Nat → Bool) (mB : Nat → Bool) (tT : Nat → Int32) (aS : Nat → Nat) (aE : Nat → Nat) (aB : Nat → Nat) (pB : Nat → Int32) (pS : Nat → Nat) (i : Nat) (n : Nat) (d : Bool) (K89 : Bool → Bool → Nat → Nat → Nat → (Nat → Bool) → (Nat → Bool) → Prop) (Q : Bool → (Nat → Bool) → (Nat → Bool) → Prop) (bd : Bool) (g : Nat) (e1 : Nat) (b : Nat) (mNc : Nat → Bool) (mBc : Nat → Bool) : Prop := v_MA_ruleFits_139 mN mB tT aS aE aB pB pS i n d K89 Q bd g e1 b false mNc mBc
def v_MA_ruleFits_115 (mN : Nat → Bool) (mB : Nat → Bool) (tT : Nat → Int32) (aS : Nat → Nat) (aE : Nat → Nat) (aB : Nat → Nat) (pB : Nat → Int32) (pS : Nat → Nat) (i : Nat) (n : Nat) (d : Bool) (K89 : Bool → Bool → Nat → Nat → Nat → (Nat → Bool) → (Nat → Bool) → Prop) (Q : Bool → (Nat → Bool) → (Nat → Bool) → Prop) (bd : Bool) (g : Nat) (e1 : Nat) (b : Nat) (mNc : Nat → Bool) (mBc : Nat → Bool) : Prop := (bd = false → v_MA_ruleFits_138 mN mB tT aS aE aB pB pS i n d K89 Q bd g e1 b mNc mBc) ∧ (bd = true → (r_MA_isDeep tT g b) ∧ ((sp_deep tT g b = false → v_MA_ruleFits_138 mN mB tT aS aE aB pB pS i n d K89 Q bd g e1 b mNc mBc) ∧ (sp_deep tT g b = true → v_MA_ruleFits_139 mN mB tT aS aE aB pB pS i n d K89 Q bd g e1 b true mNc mBc)))
def v_MA_ruleFits_89 (mN : Nat → Bool) (mB : Nat → Bool) (tT : Nat → Int32) (aS : Nat → Nat) (aE : Nat → Nat) (aB : Nat → Nat) (pB : Nat → Int32) (pS : Nat → Nat) (i : Nat) (n : Nat) (d : Bool) (K89 : Bool → Bool → Nat → Nat → Nat → (Nat → Bool) → (Nat → Bool) → Prop) (Q : Bool → (Nat → Bool) → (Nat → Bool) → Prop) (bd : Bool) (de : Bool) (g : Nat) (e1 : Nat) (b : Nat) (mNc : Nat → Bool) (mBc : Nat → Bool) : Prop := (b < 2147483648) ∧ ((e1 < 2147483648) ∧ ((e1 < b → (de = false → (n < 21) ∧ (Q (mNc n) mNc mBc)) ∧ (de = true → (1 ≤ n) ∧ ((n - 1 < 21) ∧ (Q (mNc (n - 1)) mNc mBc)))) ∧ (¬ e1 < b → (b < 2147483648) ∧ ((e1 < 2147483648) ∧ ((b = e1 → v_MA_ruleFits_115 mN mB tT aS aE aB pB pS i n d K89 Q bd g e1 b mNc mBc) ∧ (¬ b = e1 → (b < 1000) ∧ ((¬ (tT b) = 47 → K89 bd de g e1 (b + 1) mNc mBc) ∧ ((tT b) = 47 → v_MA_ruleFits_115 mN mB tT aS aE aB pB pS i n d K89 Q bd g e1 b mNc mBc))))))))
def v_MA_ruleFits (mN : Nat → Bool) (mB : Nat → Bool) (tT : Nat → Int32) (aS : Nat → Nat) (aE : Nat → Nat) (aB : Nat → Nat) (pB : Nat → Int32) (pS : Nat → Nat) (i : Nat) (n : Nat) (d : Bool) (K89 : Bool → Bool → Nat → Nat → Nat → (Nat → Bool) → (Nat → Bool) → Prop) (Q : Bool → (Nat → Bool) → (Nat → Bool) → Prop) : Prop := (i < 60) ∧ (((aB i) &&& 8 < 2147483648) ∧ ((¬ (aB i) &&& 8 = 0 → Q false mN mB) ∧ ((aB i) &&& 8 = 0 → ((aB i) &&& 2 < 2147483648) ∧ (((aB i) &&& 2 = 0 → v_MA_ruleFits_30 mN mB tT aS aE aB pB pS i n d K89 Q (aB i) mN mB) ∧ (¬ (aB i) &&& 2 = 0 → (d = true → v_MA_ruleFits_30 mN mB tT aS aE aB pB pS i n d K89 Q (aB i) mN mB) ∧ (d = false → Q false mN mB))))))
theorem t_MA_ruleFits (mN : Nat → Bool) (mB : Nat → Bool) (tT : Nat → Int32) (aS : Nat → Nat) (aE : Nat → Nat) (aB : Nat → Nat) (pB : Nat → Int32) (pS : Nat → Nat) (i : Nat) (n : Nat) (d : Bool) (hr : r_MA_ruleFits mN mB tT aS aE aB pB pS i n d) (K89 : Bool → Bool → Nat → Nat → Nat → (Nat → Bool) → (Nat → Bool) → Prop) (k89 : ∀ bd de g e1 b mNc mBc, v_MA_ruleFits_89 mN mB tT aS aE aB pB pS i n d K89 (p_MA_ruleFits mN mB tT aS aE aB pB pS i n d) bd de g e1 b mNc mBc → K89 bd de g e1 b mNc mBc) : v_MA_ruleFits mN mB tT aS aE aB pB pS i n d K89 (p_MA_ruleFits mN mB tT aS aE aB pB pS i n d) := by
  obtain ⟨h1, h2, h3, h4, h5, h6, h7, h8, h9⟩ := hr
  have b8 := sp_bit8 (aB i) h4
  have b4 := sp_bit4 (aB i) h4
  have b2 := sp_bit2 (aB i) h4
  generalize hans : sp_rf tT (aS i) (aE i) (aB i) pB pS n d = ans
  have hp : ∀ r a1 a2, r = ans → p_MA_ruleFits mN mB tT aS aE aB pB pS i n d r a1 a2 := by
    intro r a1 a2 hr
    rw [p_MA_ruleFits, hans]
    exact hr
  have fin : ∀ bd de g b row rb, b = aE i + 1 → ((de = true ∧ ans = row (n - 1)) ∨ (de = false ∧ ans = row n)) → K89 bd de g (aE i) b row rb := by
    intro bd de g b row rb hb hI
    refine k89 _ _ _ _ _ _ _ ?_
    unfold v_MA_ruleFits_89
    refine ⟨by omega, by omega, fun _ => ⟨fun h => ⟨by omega, hp _ _ _ ?_⟩, fun h => ⟨by omega, by omega, hp _ _ _ ?_⟩⟩, fun h => by omega⟩
    · rcases hI with ⟨q, -⟩ | ⟨-, q⟩
      · rw [h] at q; cases q
      · exact q.symm
    · rcases hI with ⟨-, q⟩ | ⟨q, -⟩
      · exact q.symm
      · rw [h] at q; cases q
  have bound : ∀ dd de g b row rb, aE i + 1 - b ≤ dd → b ≤ aE i → g ≤ b → sp_eon tT (aE i) b = sp_eon tT (aE i) g → (ans = true ↔ sp_hx tT (aE i) n (fun k q j => sp_nf tT pB pS k q j) g row) → K89 true de g (aE i) b row rb := by
    intro dd
    induction dd with
    | zero => intro de g b row rb hd hb; omega
    | succ dd ih =>
      intro de g b row rb hd hb hg he hI
      have at' : (b = aE i ∨ tT b = 47) → v_MA_ruleFits_115 mN mB tT aS aE aB pB pS i n d K89 (p_MA_ruleFits mN mB tT aS aE aB pB pS i n d) true g (aE i) b row rb := by
        intro hs
        have eg : sp_eon tT (aE i) g = b := by rw [← he]; exact sp_eon_at hs
        have hge : g ≤ aE i := Nat.le_trans hg hb
        have plain : sp_deep tT g b = false → v_MA_ruleFits_139 mN mB tT aS aE aB pB pS i n d K89 (p_MA_ruleFits mN mB tT aS aE aB pB pS i n d) true g (aE i) b false row rb := by
          intro hdp
          have hdp' : ¬ sp_deep tT g (sp_eon tT (aE i) g) = true := by rw [eg, hdp]; decide
          unfold v_MA_ruleFits_139 v_MA_ruleFits_182 v_MA_ruleFits_185
          refine ⟨fun _ => ⟨by omega, by omega, fun hbe => ⟨⟨hg, by omega, h6, h7, h8, h9⟩, fun w1 w2 hq => ?_⟩, fun hbe => ⟨⟨hg, by omega, h6, h7, h8, h9⟩, fun w1 w2 hq => ?_⟩⟩, fun h => by cases h⟩
          · obtain ⟨q1, -, q3⟩ := hq
            refine ih _ (b + 1) (b + 1) _ _ (by omega) (by omega) (Nat.le_refl _) rfl ?_
            have := hI.trans (sp_hx_pn hge hdp' (by rw [eg]; exact hbe) (row' := w1) q1 (fun j hj => by rw [eg]; exact q3 rfl j hj))
            rw [eg] at this
            exact this
          · obtain ⟨-, q2, -⟩ := hq
            refine fin _ _ _ _ _ _ (by omega) (Or.inr ⟨rfl, ?_⟩)
            have e1 := hI.trans (sp_hx_pl h6 hge hdp' (by rw [eg]; exact hbe))
            have e2 := q2 (n - 1) (by omega) rfl (by omega)
            rw [show n - 1 + 1 = n by omega] at e2
            rw [eg] at e1
            exact Bool.eq_iff_iff.mpr (e1.trans e2.symm)
        unfold v_MA_ruleFits_115 v_MA_ruleFits_138
        refine ⟨fun h => (by cases h), fun _ => ⟨⟨hg, by omega⟩, fun hdp => plain hdp, fun hdp => ?_⟩⟩
        have hdp' : sp_deep tT g (sp_eon tT (aE i) g) = true := by rw [eg]; exact hdp
        unfold v_MA_ruleFits_139 v_MA_ruleFits_185
        refine ⟨fun h => (by cases h), fun _ => ⟨⟨by omega, by omega⟩, fun w hw => ?_⟩⟩
        by_cases hbe : b = aE i
        · refine fin _ _ _ _ _ _ (by omega) (Or.inl ⟨rfl, ?_⟩)
          exact Bool.eq_iff_iff.mpr (hI.trans (sp_hx_dl h6 hge hdp' (by rw [eg]; exact hbe) hw))
        · refine ih _ (b + 1) (b + 1) _ _ (by omega) (by omega) (Nat.le_refl _) rfl ?_
          have := hI.trans (sp_hx_dn hge hdp' (by rw [eg]; exact hbe) hw)
          rw [eg] at this
          exact this
      refine k89 _ _ _ _ _ _ _ ?_
      unfold v_MA_ruleFits_89
      refine ⟨by omega, by omega, fun h => by omega, fun _ => ⟨by omega, by omega, fun h => at' (Or.inl h), fun h => ⟨by omega, fun h47 => ?_, fun h47 => at' (Or.inr h47)⟩⟩⟩
      exact ih _ g (b + 1) _ _ (by omega) (by omega) (by omega) (by rw [← sp_eon_no (by omega) h47]; exact he) hI
  have free : aB i &&& 4 = 0 → ∀ dd de b row rb, aE i + 1 - b ≤ dd → b ≤ aE i → aS i ≤ b → sp_eon tT (aE i) b = aE i → row (n - 1) = true → ans = sp_nf tT pB pS (aS i) (aE i) (n - 1) → K89 false de (aS i) (aE i) b row rb := by
    intro h40 dd
    induction dd with
    | zero => intro de b row rb hd hb; omega
    | succ dd ih =>
      intro de b row rb hd hb hg he hrow hI
      have at' : b = aE i → v_MA_ruleFits_115 mN mB tT aS aE aB pB pS i n d K89 (p_MA_ruleFits mN mB tT aS aE aB pB pS i n d) false (aS i) (aE i) b row rb := by
        intro hs
        unfold v_MA_ruleFits_115 v_MA_ruleFits_138 v_MA_ruleFits_139 v_MA_ruleFits_182 v_MA_ruleFits_185
        refine ⟨fun _ => ⟨fun _ => ⟨by omega, by omega, fun hbe => absurd hs hbe, fun hbe => ⟨⟨hg, by omega, h6, h7, h8, h9⟩, fun w1 w2 hq => ?_⟩⟩, fun h => by cases h⟩, fun h => by cases h⟩
        obtain ⟨-, q2, -⟩ := hq
        refine fin _ _ _ _ _ _ (by omega) (Or.inr ⟨rfl, ?_⟩)
        have e2 := q2 (n - 1) (by omega) rfl (by omega)
        rw [show n - 1 + 1 = n by omega, hrow, hs] at e2
        rw [hI]
        refine Bool.eq_iff_iff.mpr (Iff.trans ?_ e2.symm)
        exact ⟨fun h => ⟨rfl, h⟩, fun h => h.2⟩
      refine k89 _ _ _ _ _ _ _ ?_
      unfold v_MA_ruleFits_89
      refine ⟨by omega, by omega, fun h => by omega, fun _ => ⟨by omega, by omega, fun h => at' h, fun h => ⟨by omega, fun h47 => ?_, fun h47 => ?_⟩⟩⟩
      · exact ih _ (b + 1) _ _ (by omega) (by omega) (by omega) (by rw [← sp_eon_no (by omega) h47]; exact he) hrow hI
      · rw [sp_eon_at (Or.inr h47)] at he
        exact absurd he h
  have go : ¬ (aB i &&& 8 = 8 ∨ (aB i &&& 2 = 2 ∧ d = false)) → v_MA_ruleFits_30 mN mB tT aS aE aB pB pS i n d K89 (p_MA_ruleFits mN mB tT aS aE aB pB pS i n d) (aB i) mN mB := by
    intro hno
    rw [sp_rf, if_neg hno] at hans
    unfold v_MA_ruleFits_30 v_MA_ruleFits_42 v_MA_ruleFits_63
    refine ⟨by omega, fun h40 => ⟨fun _ => ⟨h6, ⟨by omega, by omega, by omega⟩, fun w hw => ⟨h1, h1, ?_⟩⟩, fun h => by cases h⟩, fun h40 => ⟨fun h => (by cases h), fun _ => ⟨⟨by omega, by omega, by omega⟩, fun w hw => ⟨h1, h1, ?_⟩⟩⟩⟩
    · rw [if_neg (by omega)] at hans
      refine free h40 (aE i + 1) _ (aS i) _ _ (by omega) h2 (Nat.le_refl _) (h5 h40) ?_ hans.symm
      rw [hw (n - 1) (by omega), decide_eq_true rfl]
    · rw [if_pos (by omega)] at hans
      refine bound (aE i + 1) _ (aS i) (aS i) _ _ (by omega) h2 (Nat.le_refl _) rfl ?_
      rw [← hans]
      constructor
      · intro h
        exact ⟨0, Nat.zero_le _, by rw [hw 0 (Nat.zero_le _)]; rfl, h⟩
      · rintro ⟨j, j1, j2, j3⟩
        rw [hw j j1, decide_eq_true_eq] at j2
        rw [← j2]; exact j3
  unfold v_MA_ruleFits
  refine ⟨h1, by omega, fun h8 => hp _ _ _ ?_, fun h8 => ⟨by omega, fun h20 => go ?_, fun h20 => ⟨fun hd => go ?_, fun hd => hp _ _ _ ?_⟩⟩⟩
  · rw [sp_rf, if_pos (Or.inl (by omega))] at hans
    exact hans
  · rintro (q | ⟨q, -⟩) <;> omega
  · rintro (q | ⟨-, q⟩)
    · omega
    · rw [hd] at q; cases q
  · rw [sp_rf, if_pos (Or.inr ⟨by omega, hd⟩)] at hans
    exact hans

