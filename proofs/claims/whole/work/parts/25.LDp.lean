def r_RL_add (tT : Nat → Int32) (aS : Nat → Nat) (aE : Nat → Nat) (aB : Nat → Nat) (aL : Nat → Nat) (nC : Nat) (f : Nat) (a : Nat) (no : Nat) : Prop := f < a ∧ a ≤ 1000 ∧ nC < 60
def p_RL_add (tT : Nat → Int32) (aS : Nat → Nat) (aE : Nat → Nat) (aB : Nat → Nat) (aL : Nat → Nat) (nC : Nat) (f : Nat) (a : Nat) (no : Nat) (aS' : Nat → Nat) (aE' : Nat → Nat) (aB' : Nat → Nat) (aL' : Nat → Nat) (nC' : Nat) : Prop := aS' = (updN aS nC (sp_fr tT f a)) ∧ aE' = (updN aE nC (sp_e1 tT f a)) ∧ aB' = (updN aB nC (sp_bits tT f a)) ∧ aL' = (updN aL nC no) ∧ nC' = (nC + 1)
def v_RL_add_125 (tT : Nat → Int32) (aS : Nat → Nat) (aE : Nat → Nat) (aB : Nat → Nat) (aL : Nat → Nat) (nC : Nat) (f : Nat) (a : Nat) (no : Nat) (Q : (Nat → Nat) → (Nat → Nat) → (Nat → Nat) → (Nat → Nat) → Nat → Prop) (g : Nat) (b : Nat) (x : Nat) (nCc : Nat) (aSc : Nat → Nat) (aEc : Nat → Nat) (aBc : Nat → Nat) (aLc : Nat → Nat) : Prop := (nCc < 60) ∧ ((nCc < 60) ∧ ((nCc < 60) ∧ ((nCc < 60) ∧ (Q (updN aSc nCc g) (updN aEc nCc b) (updN aBc nCc x) (updN aLc nCc no) (nCc + 1)))))
def v_RL_add_107 (tT : Nat → Int32) (aS : Nat → Nat) (aE : Nat → Nat) (aB : Nat → Nat) (aL : Nat → Nat) (nC : Nat) (f : Nat) (a : Nat) (no : Nat) (Q : (Nat → Nat) → (Nat → Nat) → (Nat → Nat) → (Nat → Nat) → Nat → Prop) (g : Nat) (b : Nat) (x : Nat) (nCc : Nat) (aSc : Nat → Nat) (aEc : Nat → Nat) (aBc : Nat → Nat) (aLc : Nat → Nat) : Prop := (r_RL_hasVoidName tT g b) ∧ ((sp_hv tT b g = false → v_RL_add_125 tT aS aE aB aL nC f a no Q g b x nCc aSc aEc aBc aLc) ∧ (sp_hv tT b g = true → v_RL_add_125 tT aS aE aB aL nC f a no Q g b (x ||| 8) nCc aSc aEc aBc aLc))
def v_RL_add_73 (tT : Nat → Int32) (aS : Nat → Nat) (aE : Nat → Nat) (aB : Nat → Nat) (aL : Nat → Nat) (nC : Nat) (f : Nat) (a : Nat) (no : Nat) (Q : (Nat → Nat) → (Nat → Nat) → (Nat → Nat) → (Nat → Nat) → Nat → Prop) (g : Nat) (b : Nat) (x : Nat) (nCc : Nat) (aSc : Nat → Nat) (aEc : Nat → Nat) (aBc : Nat → Nat) (aLc : Nat → Nat) : Prop := (r_RL_endOfName tT g b) ∧ ((sp_eon tT b g < 2147483648) ∧ ((b < 2147483648) ∧ ((b ≤ sp_eon tT b g → v_RL_add_107 tT aS aE aB aL nC f a no Q g b x nCc aSc aEc aBc aLc) ∧ (¬ b ≤ sp_eon tT b g → (g < 1000) ∧ ((¬ (tT g) = 47 → v_RL_add_107 tT aS aE aB aL nC f a no Q g b (x ||| 4) nCc aSc aEc aBc aLc) ∧ ((tT g) = 47 → v_RL_add_107 tT aS aE aB aL nC f a no Q (g + 1) b (x ||| 4) nCc aSc aEc aBc aLc))))))
def v_RL_add_30 (tT : Nat → Int32) (aS : Nat → Nat) (aE : Nat → Nat) (aB : Nat → Nat) (aL : Nat → Nat) (nC : Nat) (f : Nat) (a : Nat) (no : Nat) (Q : (Nat → Nat) → (Nat → Nat) → (Nat → Nat) → (Nat → Nat) → Nat → Prop) (g : Nat) (b : Nat) (x : Nat) (nCc : Nat) (aSc : Nat → Nat) (aEc : Nat → Nat) (aBc : Nat → Nat) (aLc : Nat → Nat) : Prop := (g < 2147483648) ∧ ((b < 2147483648) ∧ ((b ≤ g → v_RL_add_73 tT aS aE aB aL nC f a no Q g b x nCc aSc aEc aBc aLc) ∧ (¬ b ≤ g → (1 ≤ b) ∧ ((b - 1 < 1000) ∧ ((¬ (tT (b - 1)) = 47 → v_RL_add_73 tT aS aE aB aL nC f a no Q g b x nCc aSc aEc aBc aLc) ∧ ((tT (b - 1)) = 47 → (1 ≤ b) ∧ ((r_RL_isEscaped tT g (b - 1)) ∧ ((sp_esc tT g (b - 1) = true → v_RL_add_73 tT aS aE aB aL nC f a no Q g b x nCc aSc aEc aBc aLc) ∧ (sp_esc tT g (b - 1) = false → (1 ≤ b) ∧ (v_RL_add_73 tT aS aE aB aL nC f a no Q g (b - 1) (x ||| 2) nCc aSc aEc aBc aLc))))))))))
def v_RL_add (tT : Nat → Int32) (aS : Nat → Nat) (aE : Nat → Nat) (aB : Nat → Nat) (aL : Nat → Nat) (nC : Nat) (f : Nat) (a : Nat) (no : Nat) (Q : (Nat → Nat) → (Nat → Nat) → (Nat → Nat) → (Nat → Nat) → Nat → Prop) : Prop := (f < 1000) ∧ ((¬ (tT f) = 33 → v_RL_add_30 tT aS aE aB aL nC f a no Q f a 0 nC aS aE aB aL) ∧ ((tT f) = 33 → v_RL_add_30 tT aS aE aB aL nC f a no Q (f + 1) a (0 ||| 1) nC aS aE aB aL))
theorem t_RL_add (tT : Nat → Int32) (aS : Nat → Nat) (aE : Nat → Nat) (aB : Nat → Nat) (aL : Nat → Nat) (nC : Nat) (f : Nat) (a : Nat) (no : Nat) (hr : r_RL_add tT aS aE aB aL nC f a no)  : v_RL_add tT aS aE aB aL nC f a no (p_RL_add tT aS aE aB aL nC f a no) := by
  obtain ⟨h1, h2, h3⟩ := hr
  have l1 := sp_a1_le (t := tT) h1
  have l2 := sp_e1_le (t := tT) h1
  have l3 := sp_fr_le (t := tT) h1
  have q33 : (if tT f = 33 then 1 else 0 : Nat) < 2 := by split <;> decide
  have qd : (if sp_dir tT f a = true then 2 else 0 : Nat) ≤ 2 := by split <;> decide
  have qb : (if sp_bnd tT f a = true then 4 else 0 : Nat) ≤ 4 := by split <;> decide
  have s125 : ∀ g b x, g = sp_fr tT f a → b = sp_e1 tT f a → x = sp_bits tT f a → v_RL_add_125 tT aS aE aB aL nC f a no (p_RL_add tT aS aE aB aL nC f a no) g b x nC aS aE aB aL := by
    intro g b x hg hb hx
    subst hg hb hx
    unfold v_RL_add_125
    exact ⟨h3, h3, h3, h3, rfl, rfl, rfl, rfl, rfl⟩
  have s107 : ∀ g b x, g = sp_fr tT f a → b = sp_e1 tT f a → x = (if tT f = 33 then 1 else 0) + (if sp_dir tT f a = true then 2 else 0) + (if sp_bnd tT f a = true then 4 else 0) → v_RL_add_107 tT aS aE aB aL nC f a no (p_RL_add tT aS aE aB aL nC f a no) g b x nC aS aE aB aL := by
    intro g b x hg hb hx
    unfold v_RL_add_107
    refine ⟨⟨by omega, by omega⟩, fun h => s125 _ _ _ hg hb ?_, fun h => s125 _ _ _ hg hb ?_⟩
    · rw [hg, hb] at h
      have h' : ¬ sp_hv tT (sp_e1 tT f a) (sp_fr tT f a) = true := by rw [h]; decide
      rw [sp_bits, if_neg h', hx, Nat.add_zero]
    · rw [hg, hb] at h
      rw [sp_bits, if_pos h, sp_or8 x (by omega), hx]
  have s73 : ∀ g b x, g = sp_a1 tT f → b = sp_e1 tT f a → x = (if tT f = 33 then 1 else 0) + (if sp_dir tT f a = true then 2 else 0) → v_RL_add_73 tT aS aE aB aL nC f a no (p_RL_add tT aS aE aB aL nC f a no) g b x nC aS aE aB aL := by
    intro g b x hg hb hx
    have hle := sp_eon_le (t := tT) (e := b) (k := g) (by omega)
    have hge := sp_eon_ge tT b g
    have hF : b ≤ sp_eon tT b g → ¬ sp_bnd tT f a = true := by
      intro h q
      rw [sp_bnd, decide_eq_true_eq, ← hg, ← hb] at q
      omega
    have hT : ¬ b ≤ sp_eon tT b g → sp_bnd tT f a = true := by
      intro h
      rw [sp_bnd, decide_eq_true_eq, ← hg, ← hb]
      omega
    unfold v_RL_add_73
    refine ⟨⟨by omega, by omega⟩, by omega, by omega, fun h => s107 _ _ _ ?_ hb ?_, fun h => ⟨by omega, fun h47 => s107 _ _ _ ?_ hb ?_, fun h47 => s107 _ _ _ ?_ hb ?_⟩⟩
    · rw [sp_fr, if_neg, hg]
      rintro ⟨q, -⟩
      exact hF h q
    · rw [if_neg (hF h), hx, Nat.add_zero]
    · rw [sp_fr, if_neg, hg]
      rintro ⟨-, q⟩
      rw [← hg] at q
      exact h47 q
    · rw [if_pos (hT h), sp_or4 x (by omega), hx]
    · rw [sp_fr, if_pos ⟨hT h, by rw [← hg]; exact h47⟩, hg]
    · rw [if_pos (hT h), sp_or4 x (by omega), hx]
  have s30 : ∀ g x, g = sp_a1 tT f → x = (if tT f = 33 then 1 else 0) → v_RL_add_30 tT aS aE aB aL nC f a no (p_RL_add tT aS aE aB aL nC f a no) g a x nC aS aE aB aL := by
    intro g x hg hx
    have no' : ¬ sp_dir tT f a = true → v_RL_add_73 tT aS aE aB aL nC f a no (p_RL_add tT aS aE aB aL nC f a no) g a x nC aS aE aB aL := by
      intro hd
      refine s73 _ _ _ hg ?_ ?_
      · rw [sp_e1, if_neg hd]
      · rw [if_neg hd, hx, Nat.add_zero]
    unfold v_RL_add_30
    refine ⟨by omega, by omega, fun h => no' ?_, fun h => ⟨by omega, by omega, fun h47 => no' ?_, fun h47 => ⟨by omega, ⟨by omega, by omega⟩, fun he => no' ?_, fun he => ⟨by omega, ?_⟩⟩⟩⟩
    · intro q
      rw [sp_dir, Bool.and_eq_true, decide_eq_true_eq, ← hg] at q
      omega
    · intro q
      rw [sp_dir, Bool.and_eq_true, decide_eq_true_eq] at q
      exact h47 q.1.2
    · intro q
      rw [sp_dir, Bool.and_eq_true, ← hg, he] at q
      exact absurd q.2 (by decide)
    · have hd : sp_dir tT f a = true := by
        rw [sp_dir, Bool.and_eq_true, decide_eq_true_eq, ← hg, he]
        exact ⟨⟨by omega, h47⟩, rfl⟩
      refine s73 _ _ _ hg ?_ ?_
      · rw [sp_e1, if_pos hd]
      · rw [if_pos hd, sp_or2 x (by omega), hx]
  unfold v_RL_add
  refine ⟨by omega, fun h => s30 _ _ ?_ ?_, fun h => s30 _ _ ?_ ?_⟩
  · rw [sp_a1, if_neg h]
  · rw [if_neg h]
  · rw [sp_a1, if_pos h]
  · rw [if_pos h]
    rfl

def r_RL_load (tT : Nat → Int32) (aS : Nat → Nat) (aE : Nat → Nat) (aB : Nat → Nat) (aL : Nat → Nat) (nC : Nat) (sT : Nat → Int32) (n : Nat) : Prop := n ≤ 1000 ∧ ∀ k, k < n → vp_nar .char (sT k) = sT k
def q_RL_load (tT : Nat → Int32) (aS : Nat → Nat) (aE : Nat → Nat) (aB : Nat → Nat) (aL : Nat → Nat) (nC : Nat) (sT : Nat → Int32) (n : Nat) (r : Bool) (tT' : Nat → Int32) (aS' : Nat → Nat) (aE' : Nat → Nat) (aB' : Nat → Nat) (aL' : Nat → Nat) (nC' : Nat) : Prop := r = decide ((sp_rules tT' n).length ≤ 60) ∧ (∀ k, k < n → tT' k = sT k) ∧ (r = true → nC' = (sp_rules tT' n).length ∧ sp_hold aS' aE' aB' aL' (sp_rules tT' n))
def p_RL_load (tT : Nat → Int32) (aS : Nat → Nat) (aE : Nat → Nat) (aB : Nat → Nat) (aL : Nat → Nat) (nC : Nat) (sT : Nat → Int32) (n : Nat) (r : Bool) (tT' : Nat → Int32) (aS' : Nat → Nat) (aE' : Nat → Nat) (aB' : Nat → Nat) (aL' : Nat → Nat) (nC' : Nat) : Prop := q_RL_load tT aS aE aB aL nC sT n r tT' aS' aE' aB' aL' nC'
def v_RL_load_111 (tT : Nat → Int32) (aS : Nat → Nat) (aE : Nat → Nat) (aB : Nat → Nat) (aL : Nat → Nat) (nC : Nat) (sT : Nat → Int32) (n : Nat) (K2 : Nat → Nat → (Nat → Int32) → (Nat → Nat) → (Nat → Nat) → (Nat → Nat) → (Nat → Nat) → Prop) (K35 : Nat → Nat → Nat → Nat → (Nat → Int32) → (Nat → Nat) → (Nat → Nat) → (Nat → Nat) → (Nat → Nat) → Prop) (Q : Bool → (Nat → Int32) → (Nat → Nat) → (Nat → Nat) → (Nat → Nat) → (Nat → Nat) → Nat → Prop) (x : Nat) (b : Nat) (nCc : Nat) (tTc : Nat → Int32) (aSc : Nat → Nat) (aEc : Nat → Nat) (aBc : Nat → Nat) (aLc : Nat → Nat) : Prop := K35 (x + 1) (b + 1) (b + 1) nCc tTc aSc aEc aBc aLc
def v_RL_load_62 (tT : Nat → Int32) (aS : Nat → Nat) (aE : Nat → Nat) (aB : Nat → Nat) (aL : Nat → Nat) (nC : Nat) (sT : Nat → Int32) (n : Nat) (K2 : Nat → Nat → (Nat → Int32) → (Nat → Nat) → (Nat → Nat) → (Nat → Nat) → (Nat → Nat) → Prop) (K35 : Nat → Nat → Nat → Nat → (Nat → Int32) → (Nat → Nat) → (Nat → Nat) → (Nat → Nat) → (Nat → Nat) → Prop) (Q : Bool → (Nat → Int32) → (Nat → Nat) → (Nat → Nat) → (Nat → Nat) → (Nat → Nat) → Nat → Prop) (x : Nat) (g : Nat) (b : Nat) (nCc : Nat) (tTc : Nat → Int32) (aSc : Nat → Nat) (aEc : Nat → Nat) (aBc : Nat → Nat) (aLc : Nat → Nat) : Prop := (r_RL_withoutBlanks tTc g b) ∧ ((g < 2147483648) ∧ ((sp_strip tTc g b < 2147483648) ∧ ((sp_strip tTc g b ≤ g → v_RL_load_111 tT aS aE aB aL nC sT n K2 K35 Q x b nCc tTc aSc aEc aBc aLc) ∧ (¬ sp_strip tTc g b ≤ g → (g < 1000) ∧ (((tTc g) = 35 → v_RL_load_111 tT aS aE aB aL nC sT n K2 K35 Q x b nCc tTc aSc aEc aBc aLc) ∧ (¬ (tTc g) = 35 → (nCc < 2147483648) ∧ ((¬ nCc = 60 → (r_RL_add tTc aSc aEc aBc aLc nCc g (sp_strip tTc g b) x) ∧ (v_RL_load_111 tT aS aE aB aL nC sT n K2 K35 Q x b (nCc + 1) tTc (updN aSc nCc (sp_fr tTc g (sp_strip tTc g b))) (updN aEc nCc (sp_e1 tTc g (sp_strip tTc g b))) (updN aBc nCc (sp_bits tTc g (sp_strip tTc g b))) (updN aLc nCc x))) ∧ (nCc = 60 → Q false tTc aSc aEc aBc aLc nCc))))))))
def v_RL_load_2 (tT : Nat → Int32) (aS : Nat → Nat) (aE : Nat → Nat) (aB : Nat → Nat) (aL : Nat → Nat) (nC : Nat) (sT : Nat → Int32) (n : Nat) (K2 : Nat → Nat → (Nat → Int32) → (Nat → Nat) → (Nat → Nat) → (Nat → Nat) → (Nat → Nat) → Prop) (K35 : Nat → Nat → Nat → Nat → (Nat → Int32) → (Nat → Nat) → (Nat → Nat) → (Nat → Nat) → (Nat → Nat) → Prop) (Q : Bool → (Nat → Int32) → (Nat → Nat) → (Nat → Nat) → (Nat → Nat) → (Nat → Nat) → Nat → Prop) (x : Nat) (nCc : Nat) (tTc : Nat → Int32) (aSc : Nat → Nat) (aEc : Nat → Nat) (aBc : Nat → Nat) (aLc : Nat → Nat) : Prop := (x < 2147483648) ∧ ((n < 2147483648) ∧ ((n ≤ x → K35 0 0 0 0 tTc aSc aEc aBc aLc) ∧ (¬ n ≤ x → (x < 1000) ∧ ((x < 1000) ∧ ((vp_nar .char (sT x) = (sT x)) ∧ (K2 (x + 1) nCc (upd tTc x (sT x)) aSc aEc aBc aLc))))))
def v_RL_load_35 (tT : Nat → Int32) (aS : Nat → Nat) (aE : Nat → Nat) (aB : Nat → Nat) (aL : Nat → Nat) (nC : Nat) (sT : Nat → Int32) (n : Nat) (K2 : Nat → Nat → (Nat → Int32) → (Nat → Nat) → (Nat → Nat) → (Nat → Nat) → (Nat → Nat) → Prop) (K35 : Nat → Nat → Nat → Nat → (Nat → Int32) → (Nat → Nat) → (Nat → Nat) → (Nat → Nat) → (Nat → Nat) → Prop) (Q : Bool → (Nat → Int32) → (Nat → Nat) → (Nat → Nat) → (Nat → Nat) → (Nat → Nat) → Nat → Prop) (x : Nat) (g : Nat) (b : Nat) (nCc : Nat) (tTc : Nat → Int32) (aSc : Nat → Nat) (aEc : Nat → Nat) (aBc : Nat → Nat) (aLc : Nat → Nat) : Prop := (b < 2147483648) ∧ ((n < 2147483648) ∧ ((n < b → Q true tTc aSc aEc aBc aLc nCc) ∧ (¬ n < b → (b < 2147483648) ∧ ((n < 2147483648) ∧ ((n ≤ b → v_RL_load_62 tT aS aE aB aL nC sT n K2 K35 Q x g b nCc tTc aSc aEc aBc aLc) ∧ (¬ n ≤ b → (b < 1000) ∧ (((tTc b) = 10 → v_RL_load_62 tT aS aE aB aL nC sT n K2 K35 Q x g b nCc tTc aSc aEc aBc aLc) ∧ (¬ (tTc b) = 10 → K35 x g (b + 1) nCc tTc aSc aEc aBc aLc))))))))
def v_RL_load (tT : Nat → Int32) (aS : Nat → Nat) (aE : Nat → Nat) (aB : Nat → Nat) (aL : Nat → Nat) (nC : Nat) (sT : Nat → Int32) (n : Nat) (K2 : Nat → Nat → (Nat → Int32) → (Nat → Nat) → (Nat → Nat) → (Nat → Nat) → (Nat → Nat) → Prop) (K35 : Nat → Nat → Nat → Nat → (Nat → Int32) → (Nat → Nat) → (Nat → Nat) → (Nat → Nat) → (Nat → Nat) → Prop) (Q : Bool → (Nat → Int32) → (Nat → Nat) → (Nat → Nat) → (Nat → Nat) → (Nat → Nat) → Nat → Prop) : Prop := K2 0 nC tT aS aE aB aL
theorem t_RL_load (tT : Nat → Int32) (aS : Nat → Nat) (aE : Nat → Nat) (aB : Nat → Nat) (aL : Nat → Nat) (nC : Nat) (sT : Nat → Int32) (n : Nat) (hr : r_RL_load tT aS aE aB aL nC sT n) (K2 : Nat → Nat → (Nat → Int32) → (Nat → Nat) → (Nat → Nat) → (Nat → Nat) → (Nat → Nat) → Prop) (K35 : Nat → Nat → Nat → Nat → (Nat → Int32) → (Nat → Nat) → (Nat → Nat) → (Nat → Nat) → (Nat → Nat) → Prop) (k2 : ∀ x nCc tTc aSc aEc aBc aLc, v_RL_load_2 tT aS aE aB aL nC sT n K2 K35 (p_RL_load tT aS aE aB aL nC sT n) x nCc tTc aSc aEc aBc aLc → K2 x nCc tTc aSc aEc aBc aLc) (k35 : ∀ x g b nCc tTc aSc aEc aBc aLc, v_RL_load_35 tT aS aE aB aL nC sT n K2 K35 (p_RL_load tT aS aE aB aL nC sT n) x g b nCc tTc aSc aEc aBc aLc → K35 x g b nCc tTc aSc aEc aBc aLc) : v_RL_load tT aS aE aB aL nC sT n K2 K35 (p_RL_load tT aS aE aB aL nC sT n) := by
  obtain ⟨h1, h2⟩ := hr
  have fin : ∀ T : Nat → Int32, (∀ k, k < n → T k = sT k) → ∀ b nCc aSc aEc aBc aLc, b = n + 1 → nCc = (sp_ld T n b).2.2.length → nCc ≤ 60 → sp_hold aSc aEc aBc aLc (sp_ld T n b).2.2 → p_RL_load tT aS aE aB aL nC sT n true T aSc aEc aBc aLc nCc := by
    intro T hT b nCc aSc aEc aBc aLc hb hn h60 hh
    subst hb
    refine ⟨?_, hT, fun _ => ⟨hn, hh⟩⟩
    rw [decide_eq_true]
    rw [sp_rules, ← hn]
    exact h60
  have main : ∀ T : Nat → Int32, (∀ k, k < n → T k = sT k) → ∀ d b nCc aSc aEc aBc aLc, n + 1 - b ≤ d → b ≤ n + 1 → nCc = (sp_ld T n b).2.2.length → nCc ≤ 60 → sp_hold aSc aEc aBc aLc (sp_ld T n b).2.2 → K35 (sp_ld T n b).2.1 (sp_ld T n b).1 b nCc T aSc aEc aBc aLc := by
    intro T hT d
    induction d with
    | zero =>
      intro b nCc aSc aEc aBc aLc hd hb hn h60 hh
      refine k35 _ _ b nCc T aSc aEc aBc aLc ?_
      unfold v_RL_load_35
      exact ⟨by omega, by omega, fun _ => fin T hT b nCc aSc aEc aBc aLc (by omega) hn h60 hh, fun h => by omega⟩
    | succ d ih =>
      intro b nCc aSc aEc aBc aLc hd hb hn h60 hh
      have bb := sp_ld_b T n b
      refine k35 _ _ b nCc T aSc aEc aBc aLc ?_
      by_cases hbn : n < b
      · unfold v_RL_load_35
        exact ⟨by omega, by omega, fun _ => fin T hT b nCc aSc aEc aBc aLc (by omega) hn h60 hh, fun h => by omega⟩
      · have at' : (b = n ∨ T b = 10) → v_RL_load_62 tT aS aE aB aL nC sT n K2 K35 (p_RL_load tT aS aE aB aL nC sT n) (sp_ld T n b).2.1 (sp_ld T n b).1 b nCc T aSc aEc aBc aLc := by
          intro hs
          have e := sp_ld_at hs
          have st1 := sp_strip_le T (sp_ld T n b).1 b
          have st2 := sp_strip_ge (t := T) b bb.1
          have nx : ∀ nC2 a1 a2 a3 a4, nC2 = ((sp_ld T n b).2.2 ++ sp_one T (sp_ld T n b).1 b (sp_ld T n b).2.1).length → nC2 ≤ 60 → sp_hold a1 a2 a3 a4 ((sp_ld T n b).2.2 ++ sp_one T (sp_ld T n b).1 b (sp_ld T n b).2.1) → v_RL_load_111 tT aS aE aB aL nC sT n K2 K35 (p_RL_load tT aS aE aB aL nC sT n) (sp_ld T n b).2.1 b nC2 T a1 a2 a3 a4 := by
            intro nC2 a1 a2 a3 a4 g1 g2 g3
            unfold v_RL_load_111
            have := ih (b + 1) nC2 a1 a2 a3 a4 (by omega) (by omega) (by rw [e]; exact g1) g2 (by rw [e]; exact g3)
            rw [e] at this
            exact this
          have nil : sp_one T (sp_ld T n b).1 b (sp_ld T n b).2.1 = [] → v_RL_load_111 tT aS aE aB aL nC sT n K2 K35 (p_RL_load tT aS aE aB aL nC sT n) (sp_ld T n b).2.1 b nCc T aSc aEc aBc aLc := by
            intro hnil
            refine nx _ _ _ _ _ ?_ h60 ?_
            · rw [hnil, List.append_nil]; exact hn
            · rw [hnil, List.append_nil]; exact hh
          unfold v_RL_load_62
          refine ⟨⟨bb.1, by omega⟩, by omega, by omega, fun h => nil ?_, fun h => ⟨by omega, fun h35 => nil ?_, fun h35 => ⟨by omega, fun hn60 => ⟨⟨by omega, by omega, by omega⟩, ?_⟩, fun hn60 => ?_⟩⟩⟩
          · rw [sp_one, if_pos (Or.inl (by omega))]
          · rw [sp_one, if_pos (Or.inr h35)]
          · have e1 : sp_one T (sp_ld T n b).1 b (sp_ld T n b).2.1 = [(sp_fr T (sp_ld T n b).1 (sp_strip T (sp_ld T n b).1 b), sp_e1 T (sp_ld T n b).1 (sp_strip T (sp_ld T n b).1 b), sp_bits T (sp_ld T n b).1 (sp_strip T (sp_ld T n b).1 b), (sp_ld T n b).2.1)] := by
              rw [sp_one, if_neg]
              rintro (q | q)
              · omega
              · exact h35 q
            refine nx _ _ _ _ _ ?_ (by omega) ?_
            · rw [e1, List.length_append, ← hn]
              rfl
            · rw [e1]
              exact sp_hold_add hn.symm hh
          · refine ⟨?_, hT, fun q => by cases q⟩
            have e1 : (sp_one T (sp_ld T n b).1 b (sp_ld T n b).2.1).length = 1 := by
              rw [sp_one, if_neg]
              · rfl
              · rintro (q | q)
                · omega
                · exact h35 q
            have e2 : (sp_ld T n (b + 1)).2.2.length = 61 := by
              rw [e]
              show ((sp_ld T n b).2.2 ++ _).length = 61
              rw [List.length_append, e1]
              omega
            have e3 := sp_ld_mono (t := T) (n := n) (n - b) (b + 1)
            rw [show b + 1 + (n - b) = n + 1 by omega, e2] at e3
            rw [decide_eq_false]
            rw [sp_rules]
            omega
        unfold v_RL_load_35
        refine ⟨by omega, by omega, fun h => absurd h hbn, fun _ => ⟨by omega, by omega, fun h => at' (Or.inl (by omega)), fun h => ⟨by omega, fun h10 => at' (Or.inr h10), fun h10 => ?_⟩⟩⟩
        have e := sp_ld_no (t := T) (n := n) (k := b) (by rintro (q | q); omega; exact h10 q)
        have := ih (b + 1) nCc aSc aEc aBc aLc (by omega) (by omega) (by rw [e]; exact hn) h60 (by rw [e]; exact hh)
        rw [e] at this
        exact this
  have copy : ∀ d x T, n - x ≤ d → x ≤ n → (∀ k, k < x → T k = sT k) → K2 x nC T aS aE aB aL := by
    intro d
    induction d with
    | zero =>
      intro x T hd hx hI
      refine k2 x nC T aS aE aB aL ?_
      unfold v_RL_load_2
      refine ⟨by omega, by omega, fun h => ?_, fun h => by omega⟩
      exact main T (fun k hk => hI k (by omega)) (n + 1) 0 0 aS aE aB aL (by omega) (by omega) rfl (by omega) sp_hold_0
    | succ d ih =>
      intro x T hd hx hI
      refine k2 x nC T aS aE aB aL ?_
      unfold v_RL_load_2
      refine ⟨by omega, by omega, fun h => ?_, fun h => ⟨by omega, by omega, h2 x (by omega), ?_⟩⟩
      · exact main T (fun k hk => hI k (by omega)) (n + 1) 0 0 aS aE aB aL (by omega) (by omega) rfl (by omega) sp_hold_0
      · refine ih (x + 1) _ (by omega) (by omega) (fun k hk => ?_)
        by_cases hkx : k = x
        · rw [hkx]; exact pk_us
        · rw [pk_un hkx]; exact hI k (by omega)
  exact copy n 0 tT (by omega) (Nat.zero_le _) (fun k hk => absurd hk (Nat.not_lt_zero _))

def r_PA_load (pC : Nat) (pB : Nat → Int32) (pS : Nat → Nat) (sT : Nat → Int32) (n : Nat) : Prop := n ≤ 1000 ∧ pS 0 = 0 ∧ ∀ k, k < n → vp_nar .char (sT k) = sT k
def q_PA_load (pC : Nat) (pB : Nat → Int32) (pS : Nat → Nat) (sT : Nat → Int32) (n : Nat) (r : Bool) (pC' : Nat) (pB' : Nat → Int32) (pS' : Nat → Nat) : Prop := r = sp_pok sT n ∧ pS' 0 = 0 ∧ (r = false → pC' = 0) ∧ (r = true → pC' = 1 + sp_cnt sT n 0 ∧ sp_path sT n pC' pS' pB')
def p_PA_load (pC : Nat) (pB : Nat → Int32) (pS : Nat → Nat) (sT : Nat → Int32) (n : Nat) (r : Bool) (pC' : Nat) (pB' : Nat → Int32) (pS' : Nat → Nat) : Prop := q_PA_load pC pB pS sT n r pC' pB' pS'
def v_PA_load_64 (pC : Nat) (pB : Nat → Int32) (pS : Nat → Nat) (sT : Nat → Int32) (n : Nat) (K18 : Nat → Nat → Nat → (Nat → Int32) → (Nat → Nat) → Prop) (Q : Bool → Nat → (Nat → Int32) → (Nat → Nat) → Prop) (m : Nat) (b : Nat) (pCc : Nat) (pBc : Nat → Int32) (pSc : Nat → Nat) : Prop := (m < 21) ∧ ((b < 2147483648) ∧ ((pSc m < 2147483648) ∧ ((b = pSc m → Q false pCc pBc pSc) ∧ (¬ b = pSc m → (m < 2147483648) ∧ ((¬ m = 20 → (m + 1 < 21) ∧ (K18 (m + 1) (b + 1) pCc pBc (updN pSc (m + 1) (b + 1)))) ∧ (m = 20 → Q false pCc pBc pSc))))))
def v_PA_load_18 (pC : Nat) (pB : Nat → Int32) (pS : Nat → Nat) (sT : Nat → Int32) (n : Nat) (K18 : Nat → Nat → Nat → (Nat → Int32) → (Nat → Nat) → Prop) (Q : Bool → Nat → (Nat → Int32) → (Nat → Nat) → Prop) (m : Nat) (b : Nat) (pCc : Nat) (pBc : Nat → Int32) (pSc : Nat → Nat) : Prop := (b < 2147483648) ∧ ((n < 2147483648) ∧ ((n < b → Q true m pBc pSc) ∧ (¬ n < b → (b < 2147483648) ∧ ((n < 2147483648) ∧ ((n ≤ b → v_PA_load_64 pC pB pS sT n K18 Q m b pCc pBc pSc) ∧ (¬ n ≤ b → (b < 1000) ∧ (((sT b) = 47 → v_PA_load_64 pC pB pS sT n K18 Q m b pCc pBc pSc) ∧ (¬ (sT b) = 47 → (b < 1000) ∧ ((¬ (sT b) = 10 → (b < 1000) ∧ ((b < 120) ∧ ((vp_nar .char (sT b) = (sT b)) ∧ (K18 m (b + 1) pCc (upd pBc b (sT b)) pSc)))) ∧ ((sT b) = 10 → Q false pCc pBc pSc))))))))))
def v_PA_load (pC : Nat) (pB : Nat → Int32) (pS : Nat → Nat) (sT : Nat → Int32) (n : Nat) (K18 : Nat → Nat → Nat → (Nat → Int32) → (Nat → Nat) → Prop) (Q : Bool → Nat → (Nat → Int32) → (Nat → Nat) → Prop) : Prop := (n < 2147483648) ∧ ((n ≤ 120 → K18 0 0 0 pB pS) ∧ (¬ n ≤ 120 → Q false 0 pB pS))
theorem t_PA_load (pC : Nat) (pB : Nat → Int32) (pS : Nat → Nat) (sT : Nat → Int32) (n : Nat) (hr : r_PA_load pC pB pS sT n) (K18 : Nat → Nat → Nat → (Nat → Int32) → (Nat → Nat) → Prop) (k18 : ∀ m b pCc pBc pSc, v_PA_load_18 pC pB pS sT n K18 (p_PA_load pC pB pS sT n) m b pCc pBc pSc → K18 m b pCc pBc pSc) : v_PA_load pC pB pS sT n K18 (p_PA_load pC pB pS sT n) := by
  obtain ⟨h1, h2, h3⟩ := hr
  have pk0 : sp_pk sT 0 0 0 = false := by
    rw [sp_pk, dif_neg (by decide)]
    rfl
  have bad : ∀ pBc pSc, pSc 0 = 0 → (sp_pk sT n 0 0 = false ∨ ¬ 1 + sp_cnt sT n 0 ≤ 20 ∨ ¬ n ≤ 120) → p_PA_load pC pB pS sT n false 0 pBc pSc := by
    intro pBc pSc h0 hb
    refine ⟨?_, h0, fun _ => rfl, fun q => by cases q⟩
    rw [sp_pok]
    rcases hb with hb | hb | hb
    · rw [hb]; simp
    · rw [decide_eq_false hb]; simp
    · rw [decide_eq_false (fun q => hb q.2)]; simp
  have key : n ≤ 120 → ∀ d m b pBc pSc, n + 1 - b ≤ d → m ≤ 20 → pSc 0 = 0 → (∀ j, j < m → pSc j < sp_eon sT n (pSc j) ∧ pSc (j + 1) = sp_eon sT n (pSc j) + 1) → (∀ k, k < b → k < n → ¬ sT k = 47 → pBc k = sT k) → ((b ≤ n ∧ pSc m ≤ b ∧ sp_eon sT n b = sp_eon sT n (pSc m) ∧ sp_pk sT n 0 0 = sp_pk sT n b (b - pSc m) ∧ m + sp_cnt sT n b = sp_cnt sT n 0) ∨ (b = n + 1 ∧ pSc m = n + 1 ∧ m = 1 + sp_cnt sT n 0 ∧ sp_pk sT n 0 0 = true)) → K18 m b 0 pBc pSc := by
    intro h120 d
    have fin : ∀ m b pBc pSc, m ≤ 20 → pSc 0 = 0 → (∀ j, j < m → pSc j < sp_eon sT n (pSc j) ∧ pSc (j + 1) = sp_eon sT n (pSc j) + 1) → (∀ k, k < b → k < n → ¬ sT k = 47 → pBc k = sT k) → b = n + 1 → pSc m = n + 1 → m = 1 + sp_cnt sT n 0 → sp_pk sT n 0 0 = true → p_PA_load pC pB pS sT n true m pBc pSc := by
      intro m b pBc pSc hm h0 hs hbytes e1 e2 e3 e4
      have hn1 : 1 ≤ n := by
        by_cases hn : n = 0
        · rw [hn, pk0] at e4; cases e4
        · omega
      refine ⟨?_, h0, fun q => (by cases q), fun _ => ⟨e3, h0, hs, e2, by omega, hm, h120, fun k hk h47 => hbytes k (by omega) hk h47⟩⟩
      rw [sp_pok, e4, decide_eq_true ⟨hn1, h120⟩, decide_eq_true (by omega)]
      rfl
    induction d with
    | zero =>
      intro m b pBc pSc hd hm h0 hs hbytes hI
      rcases hI with ⟨q1, -⟩ | ⟨q1, q2, q3, q4⟩
      · omega
      · refine k18 m b 0 pBc pSc ?_
        unfold v_PA_load_18
        exact ⟨by omega, by omega, fun _ => fin m b pBc pSc hm h0 hs hbytes q1 q2 q3 q4, fun h => by omega⟩
    | succ d ih =>
      intro m b pBc pSc hd hm h0 hs hbytes hI
      rcases hI with ⟨q1, q2, q3, q4, q5⟩ | ⟨q1, q2, q3, q4⟩
      · have at' : (b = n ∨ sT b = 47) → v_PA_load_64 pC pB pS sT n K18 (p_PA_load pC pB pS sT n) m b 0 pBc pSc := by
          intro hb
          have e1 : sp_eon sT n (pSc m) = b := by rw [← q3]; exact sp_eon_at hb
          unfold v_PA_load_64
          refine ⟨by omega, by omega, by omega, fun h => bad _ _ h0 (Or.inl ?_), fun h => ⟨by omega, fun h20 => ⟨by omega, ?_⟩, fun h20 => bad _ _ h0 (Or.inr (Or.inl (by omega)))⟩⟩
          · rw [q4, show b - pSc m = 0 by omega, sp_pk]
            by_cases hbn : b < n
            · rw [dif_pos hbn, if_pos (Or.inr ⟨hb.resolve_left (by omega), rfl⟩)]
            · rw [dif_neg hbn]
              rfl
          · have hs' : ∀ j, j < m + 1 → updN pSc (m + 1) (b + 1) j < sp_eon sT n (updN pSc (m + 1) (b + 1) j) ∧ updN pSc (m + 1) (b + 1) (j + 1) = sp_eon sT n (updN pSc (m + 1) (b + 1) j) + 1 := by
              intro j hj
              rw [updN_n (by omega : j ≠ m + 1)]
              by_cases hjm : j = m
              · subst hjm
                rw [updN_s, e1]
                exact ⟨by omega, rfl⟩
              · rw [updN_n (by omega)]
                exact hs j (by omega)
            refine ih (m + 1) (b + 1) _ _ (by omega) (by omega) (by rw [updN_n (by omega)]; exact h0) hs' (fun k hk hkn h47 => ?_) ?_
            · by_cases hkb : k = b
              · subst hkb
                exact absurd (hb.resolve_left (by omega)) h47
              · exact hbytes k (by omega) hkn h47
            · rw [updN_s]
              by_cases hbn : b < n
              · have h47 := hb.resolve_left (by omega)
                refine Or.inl ⟨by omega, Nat.le_refl _, rfl, ?_, ?_⟩
                · rw [q4, sp_pk.eq_1 sT n b, dif_pos hbn, if_neg, if_pos h47, Nat.sub_self]
                  rintro (q | ⟨-, q⟩)
                  · rw [h47] at q; exact absurd q (by decide)
                  · omega
                · rw [sp_cnt_at hbn h47] at q5
                  omega
              · refine Or.inr ⟨by omega, by omega, ?_, ?_⟩
                · rw [sp_cnt_e (by omega)] at q5
                  omega
                · rw [q4, sp_pk, dif_neg hbn, decide_eq_true_eq]
                  omega
        refine k18 m b 0 pBc pSc ?_
        unfold v_PA_load_18
        refine ⟨by omega, by omega, fun h => by omega, fun _ => ⟨by omega, by omega, fun h => at' (Or.inl (by omega)), fun h => ⟨by omega, fun h47 => at' (Or.inr h47), fun h47 => ⟨by omega, fun h10 => ⟨by omega, by omega, h3 b (by omega), ?_⟩, fun h10 => bad _ _ h0 (Or.inl ?_)⟩⟩⟩⟩
        · refine ih m (b + 1) _ _ (by omega) hm h0 hs (fun k hk hkn hk47 => ?_) (Or.inl ⟨by omega, by omega, by rw [← sp_eon_no (by omega) h47]; exact q3, ?_, by rw [← sp_cnt_no (by omega) h47]; exact q5⟩)
          · by_cases hkb : k = b
            · rw [hkb]; exact pk_us
            · rw [pk_un hkb]; exact hbytes k (by omega) hkn hk47
          · rw [q4, sp_pk.eq_1 sT n b, dif_pos (by omega), if_neg, if_neg h47, show b - pSc m + 1 = b + 1 - pSc m by omega]
            rintro (q | ⟨q, -⟩)
            · exact h10 q
            · exact h47 q
        · rw [q4, sp_pk, dif_pos (by omega), if_pos (Or.inl h10)]
      · refine k18 m b 0 pBc pSc ?_
        unfold v_PA_load_18
        exact ⟨by omega, by omega, fun _ => fin m b pBc pSc hm h0 hs hbytes q1 q2 q3 q4, fun h => by omega⟩
  unfold v_PA_load
  refine ⟨by omega, fun h => ?_, fun h => bad _ _ h2 (Or.inr (Or.inr h))⟩
  refine key h (n + 1) 0 0 pB pS (by omega) (by omega) h2 (fun j hj => absurd hj (Nat.not_lt_zero _)) (fun k hk => absurd hk (Nat.not_lt_zero _)) (Or.inl ⟨Nat.zero_le _, by omega, by rw [h2], by rw [h2], by omega⟩)

