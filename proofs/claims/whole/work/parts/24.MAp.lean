def r_MA_nameFits (mB : Nat → Bool) (tT : Nat → Int32) (pB : Nat → Int32) (pS : Nat → Nat) (f : Nat) (a : Nat) (j : Nat) : Prop := f ≤ a ∧ a ≤ 1000 ∧ j < 20 ∧ pS j + 1 ≤ pS (j + 1) ∧ pS (j + 1) ≤ 121
def p_MA_nameFits (mB : Nat → Bool) (tT : Nat → Int32) (pB : Nat → Int32) (pS : Nat → Nat) (f : Nat) (a : Nat) (j : Nat) (r : Bool) (mB' : Nat → Bool) : Prop := r = (sp_nf tT pB pS f a j)
def v_MA_nameFits_152 (mB : Nat → Bool) (tT : Nat → Int32) (pB : Nat → Int32) (pS : Nat → Nat) (f : Nat) (a : Nat) (j : Nat) (K32 : Nat → Nat → Nat → (Nat → Bool) → Prop) (K84 : Nat → Nat → Nat → Nat → Bool → Nat → (Nat → Bool) → Prop) (Q : Bool → (Nat → Bool) → Prop) (z : Nat) (n : Nat) (b : Nat) (la : Nat) (x : Nat) (mBc : Nat → Bool) : Prop := (1 ≤ x) ∧ (K84 z n b la true (x - 1) mBc)
def v_MA_nameFits_136 (mB : Nat → Bool) (tT : Nat → Int32) (pB : Nat → Int32) (pS : Nat → Nat) (f : Nat) (a : Nat) (j : Nat) (K32 : Nat → Nat → Nat → (Nat → Bool) → Prop) (K84 : Nat → Nat → Nat → Nat → Bool → Nat → (Nat → Bool) → Prop) (Q : Bool → (Nat → Bool) → Prop) (z : Nat) (n : Nat) (b : Nat) (la : Nat) (so : Bool) (x : Nat) (s0 : Bool) (s1 : Nat) (mBc : Nat → Bool) : Prop := (s1 < 121) ∧ ((so = true → v_MA_nameFits_152 mB tT pB pS f a j K32 K84 Q z n b la x (updB mBc s1 s0)) ∧ (so = false → (x < 121) ∧ (((updB mBc s1 s0) x = false → (1 ≤ x) ∧ (K84 z n b la false (x - 1) (updB mBc s1 s0))) ∧ ((updB mBc s1 s0) x = true → v_MA_nameFits_152 mB tT pB pS f a j K32 K84 Q z n b la x (updB mBc s1 s0)))))
def v_MA_nameFits_135 (mB : Nat → Bool) (tT : Nat → Int32) (pB : Nat → Int32) (pS : Nat → Nat) (f : Nat) (a : Nat) (j : Nat) (K32 : Nat → Nat → Nat → (Nat → Bool) → Prop) (K84 : Nat → Nat → Nat → Nat → Bool → Nat → (Nat → Bool) → Prop) (Q : Bool → (Nat → Bool) → Prop) (z : Nat) (n : Nat) (b : Nat) (la : Nat) (so : Bool) (x : Nat) (s0 : Nat) (mBc : Nat → Bool) : Prop := v_MA_nameFits_136 mB tT pB pS f a j K32 K84 Q z n b la so x false s0 mBc
def v_MA_nameFits_32 (mB : Nat → Bool) (tT : Nat → Int32) (pB : Nat → Int32) (pS : Nat → Nat) (f : Nat) (a : Nat) (j : Nat) (K32 : Nat → Nat → Nat → (Nat → Bool) → Prop) (K84 : Nat → Nat → Nat → Nat → Bool → Nat → (Nat → Bool) → Prop) (Q : Bool → (Nat → Bool) → Prop) (z : Nat) (n : Nat) (b : Nat) (mBc : Nat → Bool) : Prop := (b < 2147483648) ∧ ((a < 2147483648) ∧ ((a ≤ b → (n < 121) ∧ (Q (mBc n) mBc)) ∧ (¬ a ≤ b → (r_IT_lastByte tT b a) ∧ (((nI b) ≤ (sp_last tT a b) → ∃ z2 : Nat, (sp_last tT a b) = nI z2 ∧ ((b < 1000) ∧ ((¬ (tT b) = 42 → K84 z n b z2 false n mBc) ∧ ((tT b) = 42 → (r_MA_spread mBc 121 n) ∧ ((∀ (zw3 : Nat → Bool), q_MA_spread mBc 121 n zw3 → K32 z n (z2 + 1) zw3)))))) ∧ (¬ (nI b) ≤ (sp_last tT a b) → Q false mBc)))))
def v_MA_nameFits_84 (mB : Nat → Bool) (tT : Nat → Int32) (pB : Nat → Int32) (pS : Nat → Nat) (f : Nat) (a : Nat) (j : Nat) (K32 : Nat → Nat → Nat → (Nat → Bool) → Prop) (K84 : Nat → Nat → Nat → Nat → Bool → Nat → (Nat → Bool) → Prop) (Q : Bool → (Nat → Bool) → Prop) (z : Nat) (n : Nat) (b : Nat) (la : Nat) (so : Bool) (x : Nat) (mBc : Nat → Bool) : Prop := (x < 2147483648) ∧ ((x ≤ 0 → (0 < 121) ∧ ((so = true → K32 z n (la + 1) (updB mBc 0 false)) ∧ (so = false → Q false (updB mBc 0 false)))) ∧ (¬ x ≤ 0 → (1 ≤ x) ∧ ((x - 1 < 121) ∧ ((mBc (x - 1) = false → v_MA_nameFits_135 mB tT pB pS f a j K32 K84 Q z n b la so x x mBc) ∧ (mBc (x - 1) = true → (1 ≤ z + x) ∧ (((z + x) - 1 < 120) ∧ ((r_IT_take tT b la (pB ((z + x) - 1)) a) ∧ ((sp_take tT a b (pB ((z + x) - 1)) = false → v_MA_nameFits_135 mB tT pB pS f a j K32 K84 Q z n b la so x x mBc) ∧ (sp_take tT a b (pB ((z + x) - 1)) = true → v_MA_nameFits_136 mB tT pB pS f a j K32 K84 Q z n b la so x true x mBc)))))))))
def v_MA_nameFits (mB : Nat → Bool) (tT : Nat → Int32) (pB : Nat → Int32) (pS : Nat → Nat) (f : Nat) (a : Nat) (j : Nat) (K32 : Nat → Nat → Nat → (Nat → Bool) → Prop) (K84 : Nat → Nat → Nat → Nat → Bool → Nat → (Nat → Bool) → Prop) (Q : Bool → (Nat → Bool) → Prop) : Prop := (j < 21) ∧ ((r_PA_lengthOf pS j) ∧ ((r_MA_startRow mB 121 (pS (j + 1) - 1 - pS j) 0) ∧ ((∀ (zw1 : Nat → Bool), q_MA_startRow mB 121 (pS (j + 1) - 1 - pS j) 0 zw1 → K32 (pS j) (pS (j + 1) - 1 - pS j) f zw1))))
theorem t_MA_nameFits (mB : Nat → Bool) (tT : Nat → Int32) (pB : Nat → Int32) (pS : Nat → Nat) (f : Nat) (a : Nat) (j : Nat) (hr : r_MA_nameFits mB tT pB pS f a j) (K32 : Nat → Nat → Nat → (Nat → Bool) → Prop) (K84 : Nat → Nat → Nat → Nat → Bool → Nat → (Nat → Bool) → Prop) (k32 : ∀ z n b mBc, v_MA_nameFits_32 mB tT pB pS f a j K32 K84 (p_MA_nameFits mB tT pB pS f a j) z n b mBc → K32 z n b mBc) (k84 : ∀ z n b la so x mBc, v_MA_nameFits_84 mB tT pB pS f a j K32 K84 (p_MA_nameFits mB tT pB pS f a j) z n b la so x mBc → K84 z n b la so x mBc) : v_MA_nameFits mB tT pB pS f a j K32 K84 (p_MA_nameFits mB tT pB pS f a j) := by
  obtain ⟨h1, h2, h3, h4, h5⟩ := hr
  generalize hn : pS (j + 1) - 1 - pS j = n at k32 k84
  have hnb : pS j + n ≤ 120 := by omega
  have hnf : sp_nf tT pB pS f a j = sp_fit tT a (fun i => pB (pS j + i)) n f 0 := by rw [sp_nf, hn]
  have key : ∀ d b row, a - b ≤ d → f ≤ b → b ≤ a → ((sp_nf tT pB pS f a j = true) ↔ sp_ex tT a (fun i => pB (pS j + i)) n b row) → K32 (pS j) n b row := by
    intro d
    induction d with
    | zero =>
      intro b row hd hf hb hI
      refine k32 _ _ b row ?_
      unfold v_MA_nameFits_32
      refine ⟨by omega, by omega, fun _ => ⟨by omega, ?_⟩, fun h => by omega⟩
      rw [sp_ex_end (by omega)] at hI
      exact (Bool.eq_iff_iff.mpr hI).symm
    | succ d ih =>
      intro b row hd hf hb hI
      by_cases hab : a ≤ b
      · refine k32 _ _ b row ?_
        unfold v_MA_nameFits_32
        refine ⟨by omega, by omega, fun _ => ⟨by omega, ?_⟩, fun h => by omega⟩
        rw [sp_ex_end (by omega)] at hI
        exact (Bool.eq_iff_iff.mpr hI).symm
      · have hlt : b < a := by omega
        have hg := sp_end_gt (t := tT) hlt
        have inner : sp_end tT a b ≤ a → ¬ tT b = 42 → ∀ x so row', x ≤ n → (∀ i, i ≤ x → row' i = row i) → (∀ i, x ≤ i → i < n → (row' (i + 1) = true ↔ row i = true ∧ sp_take tT a b (pB (pS j + i)) = true)) → (so = true ↔ ∃ i, x ≤ i ∧ i < n ∧ row' (i + 1) = true) → K84 (pS j) n b (sp_end tT a b - 1) so x row' := by
          intro he hs x
          have hla : sp_end tT a b - 1 + 1 = sp_end tT a b := by omega
          have hd2 : a - sp_end tT a b ≤ d := by omega
          have hf2 : f ≤ sp_end tT a b := by omega
          induction x with
          | zero =>
            intro so row' hx hlo hhi hso
            refine k84 _ _ b _ so 0 row' ?_
            unfold v_MA_nameFits_84
            have hr : ∀ i, i < n → (updB row' 0 false (i + 1) = true ↔ row i = true ∧ sp_take tT a b (pB (pS j + i)) = true) := by
              intro i hi
              rw [updB_n (Nat.succ_ne_zero i)]
              exact hhi i (Nat.zero_le _) hi
            have hI2 := hI.trans (sp_ex_one (P := fun i => pB (pS j + i)) hlt he hs (row' := updB row' 0 false) updB_s hr)
            refine ⟨by decide, fun _ => ⟨by decide, fun h => ?_, fun h => ?_⟩, fun h => absurd (Nat.le_refl 0) h⟩
            · rw [hla]
              exact ih _ _ hd2 hf2 he hI2
            · have : ¬ sp_nf tT pB pS f a j = true := by
                intro q
                refine sp_ex_no ?_ (hI2.mp q)
                intro i hi
                cases i with
                | zero => exact updB_s
                | succ i =>
                  rw [updB_n (Nat.succ_ne_zero i)]
                  cases hq : row' (i + 1) with
                  | false => rfl
                  | true => rw [hso.mpr ⟨i, Nat.zero_le _, hi, hq⟩] at h; cases h
              exact (Bool.eq_false_iff.mpr this).symm
          | succ x ihx =>
            intro so row' hx hlo hhi hso
            have c1 : x < 2147483648 := by omega
            have c2 : x + 1 < 2147483648 := by omega
            have c3 : x < 121 := by omega
            have c4 : x + 1 < 121 := by omega
            have c5 : pS j + (x + 1) - 1 = pS j + x := by omega
            have c6 : pS j + x < 120 := by omega
            have c7 : 1 ≤ pS j + (x + 1) := by omega
            have c8 : x ≤ n := by omega
            have c9 : x < n := by omega
            have step : ∀ s0, (s0 = true ↔ row x = true ∧ sp_take tT a b (pB (pS j + x)) = true) → v_MA_nameFits_136 mB tT pB pS f a j K32 K84 (p_MA_nameFits mB tT pB pS f a j) (pS j) n b (sp_end tT a b - 1) so (x + 1) s0 (x + 1) row' := by
              intro s0 hs0
              have go : ∀ so', (so' = true ↔ (so = true ∨ s0 = true)) → K84 (pS j) n b (sp_end tT a b - 1) so' x (updB row' (x + 1) s0) := by
                intro so' hso'
                refine ihx so' _ c8 (fun i hi => ?_) (fun i hi hin => ?_) ?_
                · rw [updB_n (Nat.ne_of_lt (Nat.lt_succ_of_le hi))]
                  exact hlo i (Nat.le_succ_of_le hi)
                · by_cases hix : i = x
                  · subst hix
                    rw [updB_s]
                    exact hs0
                  · rw [updB_n (fun q => hix (Nat.succ.inj q))]
                    exact hhi i (Nat.lt_of_le_of_ne hi (Ne.symm hix)) hin
                · rw [hso', hso]
                  constructor
                  · rintro (⟨i, i1, i2, i3⟩ | h)
                    · exact ⟨i, Nat.le_of_succ_le i1, i2, by rw [updB_n (fun q => Nat.ne_of_gt i1 (Nat.succ.inj q))]; exact i3⟩
                    · exact ⟨x, Nat.le_refl _, c9, by rw [updB_s]; exact h⟩
                  · rintro ⟨i, i1, i2, i3⟩
                    by_cases hix : i = x
                    · subst hix
                      rw [updB_s] at i3
                      exact Or.inr i3
                    · rw [updB_n (fun q => hix (Nat.succ.inj q))] at i3
                      exact Or.inl ⟨i, Nat.lt_of_le_of_ne i1 (Ne.symm hix), i2, i3⟩
              unfold v_MA_nameFits_136 v_MA_nameFits_152
              simp only [Nat.add_sub_cancel]
              refine ⟨c4, fun h => ⟨Nat.le_add_left 1 x, go true ⟨fun _ => Or.inl h, fun _ => rfl⟩⟩, fun h => ⟨c4, fun h' => ⟨Nat.le_add_left 1 x, go false ?_⟩, fun h' => ⟨Nat.le_add_left 1 x, go true ?_⟩⟩⟩
              · rw [updB_s] at h'
                rw [h, h']
                simp
              · rw [updB_s] at h'
                exact ⟨fun _ => Or.inr h', fun _ => rfl⟩
            refine k84 _ _ b _ so (x + 1) row' ?_
            unfold v_MA_nameFits_84 v_MA_nameFits_135
            rw [c5]
            simp only [Nat.add_sub_cancel]
            have hx0 := hlo x (Nat.le_succ x)
            refine ⟨c2, fun h => absurd h (Nat.not_succ_le_zero x), fun _ => ⟨Nat.le_add_left 1 x, c3, fun h => step false ?_, fun h => ⟨c7, c6, ⟨hlt, h2, by omega, by omega, hs⟩, fun h' => step false ?_, fun h' => step true ?_⟩⟩⟩
            · rw [hx0] at h
              rw [h]
              simp
            · rw [h']
              simp
            · rw [hx0] at h
              exact ⟨fun _ => ⟨h, h'⟩, fun _ => rfl⟩
        refine k32 _ _ b row ?_
        unfold v_MA_nameFits_32
        refine ⟨by omega, by omega, fun h => absurd h hab, fun _ => ⟨⟨hlt, h2⟩, fun hl => ?_, fun hl => ?_⟩⟩
        · by_cases he : sp_end tT a b ≤ a
          · refine ⟨sp_end tT a b - 1, by rw [sp_last, if_pos he], by omega, fun hs => ?_, fun hs => ⟨⟨by omega, by omega⟩, fun w hw => ?_⟩⟩
            · refine inner he hs n false row (Nat.le_refl _) (fun _ _ => rfl) (fun i i1 i2 => absurd i2 (Nat.not_lt.mpr i1)) ⟨fun h => (by cases h), ?_⟩
              rintro ⟨i, i1, i2, -⟩
              exact absurd i2 (Nat.not_lt.mpr i1)
            · rw [show sp_end tT a b - 1 + 1 = sp_end tT a b by omega, sp_end_star hs]
              refine ih (b + 1) w (by omega) (by omega) (by omega) ?_
              exact hI.trans (sp_ex_star hlt hs hw)
          · rw [sp_last, if_neg he] at hl
            exact absurd hl (ig_neg (by omega))
        · have he : ¬ sp_end tT a b ≤ a := by
            intro he
            rw [sp_last, if_pos he] at hl
            exact hl ((ig_le (by omega) (by omega)).mpr (by omega))
          have : ¬ sp_nf tT pB pS f a j = true := fun q => sp_ex_void hlt he (hI.mp q)
          exact (Bool.eq_false_iff.mpr this).symm
  unfold v_MA_nameFits
  rw [hn]
  refine ⟨by omega, ⟨h3, h4⟩, ⟨by omega, by omega, by omega⟩, fun w hw => ?_⟩
  refine key (a - f) f w (Nat.le_refl _) (Nat.le_refl _) h1 ?_
  rw [hnf]
  constructor
  · intro h
    exact ⟨0, Nat.zero_le _, by rw [hw 0 (Nat.zero_le _)]; rfl, h⟩
  · rintro ⟨i, i1, i2, i3⟩
    rw [hw i i1, decide_eq_true_eq] at i2
    rw [← i2]; exact i3

def r_MA_takeName (mN : Nat → Bool) (mB : Nat → Bool) (tT : Nat → Int32) (pB : Nat → Int32) (pS : Nat → Nat) (f : Nat) (a : Nat) (n : Nat) (la : Bool) : Prop := f ≤ a ∧ a ≤ 1000 ∧ 1 ≤ n ∧ n ≤ 20 ∧ (∀ j, j < n → pS j + 1 ≤ pS (j + 1)) ∧ pS n ≤ 121
def q_MA_takeName (mN : Nat → Bool) (mB : Nat → Bool) (tT : Nat → Int32) (pB : Nat → Int32) (pS : Nat → Nat) (f : Nat) (a : Nat) (n : Nat) (la : Bool) (mN' : Nat → Bool) (mB' : Nat → Bool) : Prop := mN' 0 = false ∧ (∀ j, j < n → la = true → j + 1 = n → (mN' (j + 1) = true ↔ mN j = true ∧ sp_nf tT pB pS f a j = true)) ∧ (la = false → ∀ j, j < n → (mN' (j + 1) = true ↔ mN j = true ∧ sp_nf tT pB pS f a j = true))
def p_MA_takeName (mN : Nat → Bool) (mB : Nat → Bool) (tT : Nat → Int32) (pB : Nat → Int32) (pS : Nat → Nat) (f : Nat) (a : Nat) (n : Nat) (la : Bool) (mN' : Nat → Bool) (mB' : Nat → Bool) : Prop := q_MA_takeName mN mB tT pB pS f a n la mN' mB'
def v_MA_takeName_63 (mN : Nat → Bool) (mB : Nat → Bool) (tT : Nat → Int32) (pB : Nat → Int32) (pS : Nat → Nat) (f : Nat) (a : Nat) (n : Nat) (la : Bool) (K17 : Nat → Nat → (Nat → Bool) → (Nat → Bool) → Prop) (Q : (Nat → Bool) → (Nat → Bool) → Prop) (w : Nat) (x : Nat) (s0 : Bool) (s1 : Nat) (mNc : Nat → Bool) (mBc : Nat → Bool) : Prop := (s1 < 21) ∧ ((1 ≤ x) ∧ (K17 w (x - 1) (updB mNc s1 s0) mBc))
def v_MA_takeName_62 (mN : Nat → Bool) (mB : Nat → Bool) (tT : Nat → Int32) (pB : Nat → Int32) (pS : Nat → Nat) (f : Nat) (a : Nat) (n : Nat) (la : Bool) (K17 : Nat → Nat → (Nat → Bool) → (Nat → Bool) → Prop) (Q : (Nat → Bool) → (Nat → Bool) → Prop) (w : Nat) (x : Nat) (s0 : Nat) (mNc : Nat → Bool) (mBc : Nat → Bool) : Prop := v_MA_takeName_63 mN mB tT pB pS f a n la K17 Q w x false s0 mNc mBc
def v_MA_takeName_17 (mN : Nat → Bool) (mB : Nat → Bool) (tT : Nat → Int32) (pB : Nat → Int32) (pS : Nat → Nat) (f : Nat) (a : Nat) (n : Nat) (la : Bool) (K17 : Nat → Nat → (Nat → Bool) → (Nat → Bool) → Prop) (Q : (Nat → Bool) → (Nat → Bool) → Prop) (w : Nat) (x : Nat) (mNc : Nat → Bool) (mBc : Nat → Bool) : Prop := (x < 2147483648) ∧ ((w < 2147483648) ∧ ((x < w → (0 < 21) ∧ (Q (updB mNc 0 false) mBc)) ∧ (¬ x < w → (1 ≤ x) ∧ ((x - 1 < 21) ∧ ((mNc (x - 1) = false → v_MA_takeName_62 mN mB tT pB pS f a n la K17 Q w x x mNc mBc) ∧ (mNc (x - 1) = true → (1 ≤ x) ∧ ((r_MA_nameFits mBc tT pB pS f a (x - 1)) ∧ ((∀ (mB1 : Nat → Bool), (sp_nf tT pB pS f a (x - 1) = false → v_MA_takeName_62 mN mB tT pB pS f a n la K17 Q w x x mNc mB1) ∧ (sp_nf tT pB pS f a (x - 1) = true → v_MA_takeName_63 mN mB tT pB pS f a n la K17 Q w x true x mNc mB1))))))))))
def v_MA_takeName (mN : Nat → Bool) (mB : Nat → Bool) (tT : Nat → Int32) (pB : Nat → Int32) (pS : Nat → Nat) (f : Nat) (a : Nat) (n : Nat) (la : Bool) (K17 : Nat → Nat → (Nat → Bool) → (Nat → Bool) → Prop) (Q : (Nat → Bool) → (Nat → Bool) → Prop) : Prop := (la = false → K17 1 n mN mB) ∧ (la = true → K17 n n mN mB)
theorem t_MA_takeName (mN : Nat → Bool) (mB : Nat → Bool) (tT : Nat → Int32) (pB : Nat → Int32) (pS : Nat → Nat) (f : Nat) (a : Nat) (n : Nat) (la : Bool) (hr : r_MA_takeName mN mB tT pB pS f a n la) (K17 : Nat → Nat → (Nat → Bool) → (Nat → Bool) → Prop) (k17 : ∀ w x mNc mBc, v_MA_takeName_17 mN mB tT pB pS f a n la K17 (p_MA_takeName mN mB tT pB pS f a n la) w x mNc mBc → K17 w x mNc mBc) : v_MA_takeName mN mB tT pB pS f a n la K17 (p_MA_takeName mN mB tT pB pS f a n la) := by
  obtain ⟨h1, h2, h3, h4, h5, h6⟩ := hr
  have mono : ∀ d i, n - i = d → i ≤ n → pS i ≤ 121 := by
    intro d
    induction d with
    | zero => intro i hd hi; rw [show i = n by omega]; exact h6
    | succ d ih =>
      intro i hd hi
      have := ih (i + 1) (by omega) (by omega)
      have := h5 i (by omega)
      omega
  have key : ∀ w, (la = true ∧ w = n) ∨ (la = false ∧ w = 1) → ∀ x rn rb, x ≤ n → (∀ i, i ≤ x → rn i = mN i) → (∀ i, x ≤ i → i < n → (rn (i + 1) = true ↔ mN i = true ∧ sp_nf tT pB pS f a i = true)) → K17 w x rn rb := by
    intro w hw x
    have hwn : w ≤ n ∧ 1 ≤ w := by rcases hw with ⟨-, h⟩ | ⟨-, h⟩ <;> omega
    induction x with
    | zero =>
      intro rn rb hx hlo hhi
      refine k17 w 0 rn rb ?_
      unfold v_MA_takeName_17
      refine ⟨by decide, by omega, fun h => ⟨by decide, ?_⟩, fun h => absurd hwn.2 h⟩
      refine ⟨updB_s, fun j hj _ hjn => ?_, fun _ j hj => ?_⟩
      · rw [updB_n (Nat.succ_ne_zero j)]; exact hhi j (Nat.zero_le _) hj
      · rw [updB_n (Nat.succ_ne_zero j)]; exact hhi j (Nat.zero_le _) hj
    | succ x ih =>
      intro rn rb hx hlo hhi
      refine k17 w (x + 1) rn rb ?_
      have c1 : x < n := by omega
      have c2 : x + 1 < 21 := by omega
      have c3 : x < 21 := by omega
      have c4 : x ≤ n := by omega
      have hx0 := hlo x (Nat.le_succ x)
      have step : ∀ s0 rb', (s0 = true ↔ mN x = true ∧ sp_nf tT pB pS f a x = true) → v_MA_takeName_63 mN mB tT pB pS f a n la K17 (p_MA_takeName mN mB tT pB pS f a n la) w (x + 1) s0 (x + 1) rn rb' := by
        intro s0 rb' hs0
        unfold v_MA_takeName_63
        refine ⟨c2, Nat.le_add_left 1 x, ?_⟩
        rw [Nat.add_sub_cancel]
        refine ih _ _ c4 (fun i hi => ?_) (fun i hi hin => ?_)
        · rw [updB_n (Nat.ne_of_lt (Nat.lt_succ_of_le hi))]
          exact hlo i (Nat.le_succ_of_le hi)
        · by_cases hix : i = x
          · subst hix
            rw [updB_s]; exact hs0
          · rw [updB_n (fun q => hix (Nat.succ.inj q))]
            exact hhi i (Nat.lt_of_le_of_ne hi (Ne.symm hix)) hin
      unfold v_MA_takeName_17 v_MA_takeName_62
      simp only [Nat.add_sub_cancel]
      have q1 := h5 x c1
      have q2 := mono (n - (x + 1)) (x + 1) rfl hx
      refine ⟨by omega, by omega, fun h => ⟨by decide, ?_⟩, fun h => ⟨Nat.le_add_left 1 x, c3, fun h' => step false rb ?_, fun h' => ⟨Nat.le_add_left 1 x, ⟨h1, h2, by omega, q1, q2⟩, fun rb' => ⟨fun h'' => step false rb' ?_, fun h'' => step true rb' ?_⟩⟩⟩⟩
      · refine ⟨updB_s, fun j hj _ hjn => ?_, fun hl j hj => ?_⟩
        · rw [updB_n (Nat.succ_ne_zero j)]; exact hhi j (by omega) hj
        · rcases hw with ⟨q, -⟩ | ⟨-, q⟩
          · rw [q] at hl; cases hl
          · omega
      · rw [hx0] at h'
        rw [h']
        simp
      · rw [h'']
        simp
      · rw [hx0] at h'
        exact ⟨fun _ => ⟨h', h''⟩, fun _ => rfl⟩
  have start : ∀ w, (la = true ∧ w = n) ∨ (la = false ∧ w = 1) → K17 w n mN mB := fun w hw => key w hw n mN mB (Nat.le_refl _) (fun _ _ => rfl) (fun i i1 i2 => absurd i2 (Nat.not_lt.mpr i1))
  unfold v_MA_takeName
  exact ⟨fun h => start 1 (Or.inr ⟨h, rfl⟩), fun h => start n (Or.inl ⟨h, rfl⟩)⟩

