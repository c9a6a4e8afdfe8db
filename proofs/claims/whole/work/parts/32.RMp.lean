def r_RM_pass (nx : Nat) (so : Nat) (tX : Nat → Int32) (zR : Nat → Bool) (f : Nat) (a : Nat) : Prop := f ≤ a ∧ a ≤ 1000
def q_RM_pass (nx : Nat) (so : Nat) (tX : Nat → Int32) (zR : Nat → Bool) (f : Nat) (a : Nat) (nx' : Nat) (so' : Nat) (zR' : Nat → Bool) : Prop := sp_cld tX a f zR' ∧ (∀ P n i, sp_rx tX a P n i f zR' ↔ sp_rx tX a P n i f zR) ∧ ((∀ k, f ≤ k → k ≤ a → zR k = true → sp_void tX a k = false) → ∀ k, f ≤ k → k ≤ a → zR' k = true → sp_void tX a k = false)
def p_RM_pass (nx : Nat) (so : Nat) (tX : Nat → Int32) (zR : Nat → Bool) (f : Nat) (a : Nat) (nx' : Nat) (so' : Nat) (zR' : Nat → Bool) : Prop := q_RM_pass nx so tX zR f a nx' so' zR'
def v_RM_pass_2 (nx : Nat) (so : Nat) (tX : Nat → Int32) (zR : Nat → Bool) (f : Nat) (a : Nat) (K2 : Nat → Nat → Nat → (Nat → Bool) → Prop) (Q : Nat → Nat → (Nat → Bool) → Prop) (b : Nat) (nxc : Nat) (soc : Nat) (zRc : Nat → Bool) : Prop := (b < 2147483648) ∧ ((a < 2147483648) ∧ ((a ≤ b → Q nxc soc zRc) ∧ (¬ a ≤ b → (b < 1001) ∧ ((zRc b = false → K2 (b + 1) nxc soc zRc) ∧ (zRc b = true → (r_RM_look nxc soc tX b a) ∧ ((sp_sort tX a b < 2147483648) ∧ ((¬ sp_sort tX a b = 2 → K2 (b + 1) (sp_end tX a b) (sp_sort tX a b) zRc) ∧ (sp_sort tX a b = 2 → (sp_end tX a b < 1001) ∧ (K2 (b + 1) (sp_end tX a b) (sp_sort tX a b) (updB zRc (sp_end tX a b) true))))))))))
def v_RM_pass (nx : Nat) (so : Nat) (tX : Nat → Int32) (zR : Nat → Bool) (f : Nat) (a : Nat) (K2 : Nat → Nat → Nat → (Nat → Bool) → Prop) (Q : Nat → Nat → (Nat → Bool) → Prop) : Prop := K2 f nx so zR
theorem t_RM_pass (nx : Nat) (so : Nat) (tX : Nat → Int32) (zR : Nat → Bool) (f : Nat) (a : Nat) (hr : r_RM_pass nx so tX zR f a) (K2 : Nat → Nat → Nat → (Nat → Bool) → Prop) (k2 : ∀ b nxc soc zRc, v_RM_pass_2 nx so tX zR f a K2 (p_RM_pass nx so tX zR f a) b nxc soc zRc → K2 b nxc soc zRc) : v_RM_pass nx so tX zR f a K2 (p_RM_pass nx so tX zR f a) := by
  obtain ⟨h1, h2⟩ := hr
  have key : ∀ d b n s R, a - b ≤ d → f ≤ b → b ≤ a → (∀ k, f ≤ k → k < b → R k = true → tX k = 42 → R (k + 1) = true) → (∀ P n i, sp_rx tX a P n i f R ↔ sp_rx tX a P n i f zR) → ((∀ k, f ≤ k → k ≤ a → zR k = true → sp_void tX a k = false) → ∀ k, f ≤ k → k ≤ a → R k = true → sp_void tX a k = false) → K2 b n s R := by
    intro d
    induction d with
    | zero =>
      intro b n s R hd hf hb g1 g2 g3
      refine k2 b n s R ?_
      unfold v_RM_pass_2
      exact ⟨by omega, by omega, fun _ => ⟨fun k k1 k2 => g1 k k1 (by omega), g2, g3⟩, fun h => by omega⟩
    | succ d ih =>
      intro b n s R hd hf hb g1 g2 g3
      have hle := sp_sort_le tX a b
      refine k2 b n s R ?_
      unfold v_RM_pass_2
      have c1 : b < 2147483648 := by omega
      have c2 : a < 2147483648 := by omega
      refine ⟨c1, c2, fun _ => ⟨fun k k1 k2 => g1 k k1 (by omega), g2, g3⟩, fun h => ⟨by omega, fun hR => ?_, fun hR => ⟨⟨by omega, h2⟩, by omega, fun hs => ?_, fun hs => ?_⟩⟩⟩
      · refine ih _ _ _ _ (by omega) (by omega) (by omega) (fun k k1 k2 k3 k4 => ?_) g2 g3
        by_cases hkb : k = b
        · rw [hkb, hR] at k3; cases k3
        · exact g1 k k1 (by omega) k3 k4
      · refine ih _ _ _ _ (by omega) (by omega) (by omega) (fun k k1 k2 k3 k4 => ?_) g2 g3
        by_cases hkb : k = b
        · rw [hkb] at k4
          exact absurd (sp_sort2.mpr k4) hs
        · exact g1 k k1 (by omega) k3 k4
      · have h42 := sp_sort2.mp hs
        rw [sp_end_star h42]
        refine ⟨by omega, ih _ _ _ _ (by omega) (by omega) (by omega) (fun k k1 k2 k3 k4 => ?_) (fun P n i => ?_) (fun hz k k1 k2 k3 => ?_)⟩
        · rw [updB_n (by omega)] at k3
          by_cases hkb : k = b
          · rw [hkb]; exact updB_s
          · rw [updB_n (by omega)]
            exact g1 k k1 (by omega) k3 k4
        · exact (sp_rx_pass hf (by omega) hR h42).trans (g2 P n i)
        · by_cases hkb : k = b + 1
          · have := (sp_void_nx (by omega) (g3 hz b hf hb hR)).2
            rw [sp_end_star h42] at this
            rw [hkb]; exact this
          · rw [updB_n hkb] at k3
            exact g3 hz k k1 k2 k3
  exact key a f nx so zR (by omega) (Nat.le_refl _) h1 (fun k k1 k2 => by omega) (fun _ _ _ => Iff.rfl) (fun hz => hz)

def r_RM_takes (nx : Nat) (so : Nat) (tX : Nat → Int32) (k : Nat) (a : Nat) (x : Int32) : Prop := k < a ∧ a ≤ 1000 ∧ sp_end tX a k ≤ a
def p_RM_takes (nx : Nat) (so : Nat) (tX : Nat → Int32) (k : Nat) (a : Nat) (x : Int32) (r : Bool) (nx' : Nat) (so' : Nat) : Prop := r = (decide (tX k = 42) || sp_take tX a k x) ∧ nx' = (sp_end tX a k) ∧ so' = (sp_sort tX a k)
def v_RM_takes_70 (nx : Nat) (so : Nat) (tX : Nat → Int32) (k : Nat) (a : Nat) (x : Int32) (Q : Bool → Nat → Nat → Prop) (s0 : Nat) (s2 : Int32) (nxc : Nat) (soc : Nat) : Prop := (s0 < 1000) ∧ ((¬ s2 = (tX s0) → Q false nxc soc) ∧ (s2 = (tX s0) → Q true nxc soc))
def v_RM_takes_40 (nx : Nat) (so : Nat) (tX : Nat → Int32) (k : Nat) (a : Nat) (x : Int32) (Q : Bool → Nat → Nat → Prop) (nxc : Nat) (soc : Nat) : Prop := (soc < 2147483648) ∧ ((¬ soc = 0 → Q false nxc soc) ∧ (soc = 0 → (k < 1000) ∧ ((¬ (tX k) = 92 → v_RM_takes_70 nx so tX k a x Q k x nxc soc) ∧ ((tX k) = 92 → v_RM_takes_70 nx so tX k a x Q (k + 1) x nxc soc))))
def v_RM_takes (nx : Nat) (so : Nat) (tX : Nat → Int32) (k : Nat) (a : Nat) (x : Int32) (Q : Bool → Nat → Nat → Prop) : Prop := (r_RM_look nx so tX k a) ∧ ((sp_sort tX a k < 2147483648) ∧ ((sp_sort tX a k = 1 → Q true (sp_end tX a k) (sp_sort tX a k)) ∧ (¬ sp_sort tX a k = 1 → (sp_sort tX a k < 2147483648) ∧ ((sp_sort tX a k = 2 → Q true (sp_end tX a k) (sp_sort tX a k)) ∧ (¬ sp_sort tX a k = 2 → (sp_sort tX a k < 2147483648) ∧ ((¬ sp_sort tX a k = 3 → v_RM_takes_40 nx so tX k a x Q (sp_end tX a k) (sp_sort tX a k)) ∧ (sp_sort tX a k = 3 → (r_RM_isInSet tX k a x) ∧ (((sp_has tX a x (sp_sf tX a k) true != decide (sp_sf tX a k = k + 2)) = true → Q true (sp_end tX a k) (sp_sort tX a k)) ∧ ((sp_has tX a x (sp_sf tX a k) true != decide (sp_sf tX a k = k + 2)) = false → v_RM_takes_40 nx so tX k a x Q (sp_end tX a k) (sp_sort tX a k))))))))))
theorem t_RM_takes (nx : Nat) (so : Nat) (tX : Nat → Int32) (k : Nat) (a : Nat) (x : Int32) (hr : r_RM_takes nx so tX k a x)  : v_RM_takes nx so tX k a x (p_RM_takes nx so tX k a x) := by
  obtain ⟨h1, h2, h3⟩ := hr
  have hle := sp_sort_le tX a k
  have h4 : ¬ sp_sort tX a k = 4 := fun q => (sp_sort4 h1).mp q h3
  have hp : ∀ r, r = (decide (tX k = 42) || sp_take tX a k x) → p_RM_takes nx so tX k a x r (sp_end tX a k) (sp_sort tX a k) := fun r h => ⟨h, rfl, rfl⟩
  have s3 : sp_sort tX a k = 3 → tX k = 91 := by
    intro h
    rw [sp_sort] at h
    split at h
    · split at h <;> omega
    · split at h
      · rename_i q; exact q
      · split at h
        · omega
        · split at h <;> omega
  have s1 : sp_sort tX a k = 1 ↔ tX k = 63 := by
    rw [sp_sort]
    by_cases h92 : tX k = 92
    · rw [if_pos h92, h92]
      constructor
      · split <;> omega
      · intro h; exact absurd h (by decide)
    · rw [if_neg h92]
      by_cases h91 : tX k = 91
      · rw [if_pos h91, h91]
        constructor
        · split <;> omega
        · intro h; exact absurd h (by decide)
      · rw [if_neg h91]
        by_cases h63 : tX k = 63
        · rw [if_pos h63]; exact ⟨fun _ => h63, fun _ => rfl⟩
        · rw [if_neg h63]
          refine ⟨fun h => ?_, fun h => absurd h h63⟩
          split at h <;> omega
  have s40 : ¬ tX k = 63 → ¬ tX k = 42 → (sp_sort tX a k = 0 ∨ sp_take tX a k x = false) → (sp_sort tX a k = 0 → ¬ tX k = 91) → v_RM_takes_40 nx so tX k a x (p_RM_takes nx so tX k a x) (sp_end tX a k) (sp_sort tX a k) := by
    intro n63 n42 hor n91
    have hb : sp_sort tX a k = 0 → ∀ q, tX q = sp_byte tX k → q < 1000 → v_RM_takes_70 nx so tX k a x (p_RM_takes nx so tX k a x) q x (sp_end tX a k) (sp_sort tX a k) := by
      intro h0 q hq hq2
      unfold v_RM_takes_70
      refine ⟨hq2, fun h => hp _ ?_, fun h => hp _ ?_⟩
      · rw [decide_eq_false n42, Bool.false_or, sp_take, if_neg n63, if_neg (n91 h0), decide_eq_false]
        rw [← hq]; exact fun e => h e.symm
      · rw [decide_eq_false n42, Bool.false_or, sp_take, if_neg n63, if_neg (n91 h0), decide_eq_true]
        rw [← hq]; exact h.symm
    unfold v_RM_takes_40
    refine ⟨by omega, fun h => hp _ ?_, fun h => ⟨by omega, fun h92 => hb h k ?_ (by omega), fun h92 => hb h (k + 1) ?_ ?_⟩⟩
    · rw [decide_eq_false n42, Bool.false_or, hor.resolve_left h]
    · rw [sp_byte, if_neg h92]
    · rw [sp_byte, if_pos h92]
    · rw [sp_end, if_pos h92] at h3
      omega
  unfold v_RM_takes
  refine ⟨⟨h1, h2⟩, by omega, fun h => hp _ ?_, fun n1 => ⟨by omega, fun h => hp _ ?_, fun n2 => ⟨by omega, fun n3 => ?_, fun h => ?_⟩⟩⟩
  · rw [sp_take, if_pos (s1.mp h)]; simp
  · rw [decide_eq_true (sp_sort2.mp h)]; rfl
  · refine s40 (fun q => n1 (s1.mpr q)) (fun q => n2 (sp_sort2.mpr q)) (Or.inl (by omega)) (fun _ q => ?_)
    rw [sp_sort, if_neg (by rw [q]; decide), if_pos q] at n3 h4
    split at n3 <;> split at h4 <;> omega
  · have h91 := s3 h
    have n63 : ¬ tX k = 63 := fun q => n1 (s1.mpr q)
    have n42 : ¬ tX k = 42 := fun q => n2 (sp_sort2.mpr q)
    refine ⟨⟨h1, h2, ?_⟩, fun hq => hp _ ?_, fun hq => s40 n63 n42 (Or.inr ?_) (fun q => by omega)⟩
    · rw [sp_end, if_neg (by rw [h91]; decide), if_pos h91] at h3
      exact h3
    · rw [sp_take, if_neg n63, if_pos h91, hq]; simp
    · rw [sp_take, if_neg n63, if_pos h91, hq]

def r_RM_isDeep (tX : Nat → Int32) (xB : Nat → Nat) (wF : Nat → Nat) (wT : Nat → Nat) (i : Nat) (p : Nat) : Prop := i < 60 ∧ xB i < 16 ∧ p < 1001 ∧ wF p ≤ wT p ∧ wT p ≤ 1000
def p_RM_isDeep (tX : Nat → Int32) (xB : Nat → Nat) (wF : Nat → Nat) (wT : Nat → Nat) (i : Nat) (p : Nat) (r : Bool) : Prop := r = (decide (xB i &&& 4 = 4) && sp_deep tX (wF p) (wT p))
def v_RM_isDeep (tX : Nat → Int32) (xB : Nat → Nat) (wF : Nat → Nat) (wT : Nat → Nat) (i : Nat) (p : Nat) (Q : Bool → Prop) : Prop := (i < 60) ∧ (((xB i) &&& 4 < 2147483648) ∧ ((¬ (xB i) &&& 4 = 4 → Q false) ∧ ((xB i) &&& 4 = 4 → (p < 1001) ∧ ((p < 1001) ∧ ((wF p ≤ wT p) ∧ (((wT p) - (wF p) < 2147483648) ∧ ((¬ (wT p) - (wF p) = 2 → Q false) ∧ ((wT p) - (wF p) = 2 → (p < 1001) ∧ ((wF p < 1000) ∧ ((¬ (tX (wF p)) = 42 → Q false) ∧ ((tX (wF p)) = 42 → (p < 1001) ∧ (((wF p) + 1 < 1000) ∧ ((¬ (tX ((wF p) + 1)) = 42 → Q false) ∧ ((tX ((wF p) + 1)) = 42 → Q true))))))))))))))
theorem t_RM_isDeep (tX : Nat → Int32) (xB : Nat → Nat) (wF : Nat → Nat) (wT : Nat → Nat) (i : Nat) (p : Nat) (hr : r_RM_isDeep tX xB wF wT i p)  : v_RM_isDeep tX xB wF wT i p (p_RM_isDeep tX xB wF wT i p) := by
  obtain ⟨h1, h2, h3, h4, h5⟩ := hr
  have b4 := sp_bit4 (xB i) h2
  unfold v_RM_isDeep
  refine ⟨h1, by omega, fun h => ?_, fun h => ⟨h3, h3, h4, by omega, fun g => ?_, fun g => ⟨h3, by omega, fun g2 => ?_, fun g2 => ⟨h3, by omega, fun g3 => ?_, fun g3 => ?_⟩⟩⟩⟩
  · rw [p_RM_isDeep, decide_eq_false h, Bool.false_and]
  · have e : sp_deep tX (wF p) (wT p) = false := by rw [sp_deep, decide_eq_false (fun q => by omega)]
    rw [p_RM_isDeep, e, Bool.and_false]
  · have e : sp_deep tX (wF p) (wT p) = false := by rw [sp_deep, decide_eq_false (fun q => g2 q.2.1)]
    rw [p_RM_isDeep, e, Bool.and_false]
  · have e : sp_deep tX (wF p) (wT p) = false := by rw [sp_deep, decide_eq_false (fun q => g3 q.2.2)]
    rw [p_RM_isDeep, e, Bool.and_false]
  · have e : sp_deep tX (wF p) (wT p) = true := by rw [sp_deep, decide_eq_true ⟨by omega, g2, g3⟩]
    rw [p_RM_isDeep, e, decide_eq_true h]
    rfl

def r_RM_fitsName (nx : Nat) (so : Nat) (tX : Nat → Int32) (tP : Nat → Int32) (yF : Nat → Nat) (yT : Nat → Nat) (zR : Nat → Bool) (zF : Nat → Bool) (f : Nat) (a : Nat) (j : Nat) : Prop := f ≤ a ∧ a ≤ 1000 ∧ j < 20 ∧ yF j ≤ yT j ∧ yT j ≤ 120
def p_RM_fitsName (nx : Nat) (so : Nat) (tX : Nat → Int32) (tP : Nat → Int32) (yF : Nat → Nat) (yT : Nat → Nat) (zR : Nat → Bool) (zF : Nat → Bool) (f : Nat) (a : Nat) (j : Nat) (r : Bool) (nx' : Nat) (so' : Nat) (zR' : Nat → Bool) (zF' : Nat → Bool) : Prop := r = (sp_rn tX tP yF yT f a j)
def v_RM_fitsName_37 (nx : Nat) (so : Nat) (tX : Nat → Int32) (tP : Nat → Int32) (yF : Nat → Nat) (yT : Nat → Nat) (zR : Nat → Bool) (zF : Nat → Bool) (f : Nat) (a : Nat) (j : Nat) (K14 : Nat → Nat → Nat → (Nat → Bool) → (Nat → Bool) → Prop) (K58 : Nat → Nat → Nat → (Nat → Bool) → (Nat → Bool) → Prop) (K72 : Nat → Nat → Nat → Nat → (Nat → Bool) → (Nat → Bool) → Prop) (K95 : Nat → Nat → Nat → Nat → (Nat → Bool) → (Nat → Bool) → Prop) (K160 : Nat → Nat → Nat → Nat → (Nat → Bool) → (Nat → Bool) → Prop) (Q : Bool → Nat → Nat → (Nat → Bool) → (Nat → Bool) → Prop) (k : Nat) (s0 : Bool) (s1 : Nat) (nxc : Nat) (soc : Nat) (zRc : Nat → Bool) (zFc : Nat → Bool) : Prop := (s1 < 1001) ∧ (K14 (k + 1) nxc soc (updB zRc s1 s0) zFc)
def v_RM_fitsName_149 (nx : Nat) (so : Nat) (tX : Nat → Int32) (tP : Nat → Int32) (yF : Nat → Nat) (yT : Nat → Nat) (zR : Nat → Bool) (zF : Nat → Bool) (f : Nat) (a : Nat) (j : Nat) (K14 : Nat → Nat → Nat → (Nat → Bool) → (Nat → Bool) → Prop) (K58 : Nat → Nat → Nat → (Nat → Bool) → (Nat → Bool) → Prop) (K72 : Nat → Nat → Nat → Nat → (Nat → Bool) → (Nat → Bool) → Prop) (K95 : Nat → Nat → Nat → Nat → (Nat → Bool) → (Nat → Bool) → Prop) (K160 : Nat → Nat → Nat → Nat → (Nat → Bool) → (Nat → Bool) → Prop) (Q : Bool → Nat → Nat → (Nat → Bool) → (Nat → Bool) → Prop) (k : Nat) (q : Nat) (s0 : Nat) (nxc : Nat) (soc : Nat) (zRc : Nat → Bool) (zFc : Nat → Bool) : Prop := (s0 < 1001) ∧ (K95 k (q + 1) nxc soc zRc (updB zFc s0 true))
def v_RM_fitsName_14 (nx : Nat) (so : Nat) (tX : Nat → Int32) (tP : Nat → Int32) (yF : Nat → Nat) (yT : Nat → Nat) (zR : Nat → Bool) (zF : Nat → Bool) (f : Nat) (a : Nat) (j : Nat) (K14 : Nat → Nat → Nat → (Nat → Bool) → (Nat → Bool) → Prop) (K58 : Nat → Nat → Nat → (Nat → Bool) → (Nat → Bool) → Prop) (K72 : Nat → Nat → Nat → Nat → (Nat → Bool) → (Nat → Bool) → Prop) (K95 : Nat → Nat → Nat → Nat → (Nat → Bool) → (Nat → Bool) → Prop) (K160 : Nat → Nat → Nat → Nat → (Nat → Bool) → (Nat → Bool) → Prop) (Q : Bool → Nat → Nat → (Nat → Bool) → (Nat → Bool) → Prop) (k : Nat) (nxc : Nat) (soc : Nat) (zRc : Nat → Bool) (zFc : Nat → Bool) : Prop := (k < 2147483648) ∧ ((a < 2147483648) ∧ ((a < k → (r_RM_pass nxc soc tX zRc f a) ∧ ((∀ (nx3 : Nat) (so4 : Nat) (zR5 : Nat → Bool), q_RM_pass nxc soc tX zRc f a nx3 so4 zR5 → (j < 20) ∧ (K58 (yF j) nx3 so4 zR5 zFc)))) ∧ (¬ a < k → (k < 2147483648) ∧ ((f < 2147483648) ∧ ((¬ k = f → v_RM_fitsName_37 nx so tX tP yF yT zR zF f a j K14 K58 K72 K95 K160 Q k false k nxc soc zRc zFc) ∧ (k = f → v_RM_fitsName_37 nx so tX tP yF yT zR zF f a j K14 K58 K72 K95 K160 Q k true k nxc soc zRc zFc))))))
def v_RM_fitsName_58 (nx : Nat) (so : Nat) (tX : Nat → Int32) (tP : Nat → Int32) (yF : Nat → Nat) (yT : Nat → Nat) (zR : Nat → Bool) (zF : Nat → Bool) (f : Nat) (a : Nat) (j : Nat) (K14 : Nat → Nat → Nat → (Nat → Bool) → (Nat → Bool) → Prop) (K58 : Nat → Nat → Nat → (Nat → Bool) → (Nat → Bool) → Prop) (K72 : Nat → Nat → Nat → Nat → (Nat → Bool) → (Nat → Bool) → Prop) (K95 : Nat → Nat → Nat → Nat → (Nat → Bool) → (Nat → Bool) → Prop) (K160 : Nat → Nat → Nat → Nat → (Nat → Bool) → (Nat → Bool) → Prop) (Q : Bool → Nat → Nat → (Nat → Bool) → (Nat → Bool) → Prop) (k : Nat) (nxc : Nat) (soc : Nat) (zRc : Nat → Bool) (zFc : Nat → Bool) : Prop := (j < 20) ∧ ((k < 2147483648) ∧ ((yT j < 2147483648) ∧ ((yT j ≤ k → (a < 1001) ∧ (Q (zRc a) nxc soc zRc zFc)) ∧ (¬ yT j ≤ k → K72 k f nxc soc zRc zFc))))
def v_RM_fitsName_72 (nx : Nat) (so : Nat) (tX : Nat → Int32) (tP : Nat → Int32) (yF : Nat → Nat) (yT : Nat → Nat) (zR : Nat → Bool) (zF : Nat → Bool) (f : Nat) (a : Nat) (j : Nat) (K14 : Nat → Nat → Nat → (Nat → Bool) → (Nat → Bool) → Prop) (K58 : Nat → Nat → Nat → (Nat → Bool) → (Nat → Bool) → Prop) (K72 : Nat → Nat → Nat → Nat → (Nat → Bool) → (Nat → Bool) → Prop) (K95 : Nat → Nat → Nat → Nat → (Nat → Bool) → (Nat → Bool) → Prop) (K160 : Nat → Nat → Nat → Nat → (Nat → Bool) → (Nat → Bool) → Prop) (Q : Bool → Nat → Nat → (Nat → Bool) → (Nat → Bool) → Prop) (k : Nat) (q : Nat) (nxc : Nat) (soc : Nat) (zRc : Nat → Bool) (zFc : Nat → Bool) : Prop := (q < 2147483648) ∧ ((a < 2147483648) ∧ ((a < q → K95 k f nxc soc zRc zFc) ∧ (¬ a < q → (q < 1001) ∧ (K72 k (q + 1) nxc soc zRc (updB zFc q false)))))
def v_RM_fitsName_95 (nx : Nat) (so : Nat) (tX : Nat → Int32) (tP : Nat → Int32) (yF : Nat → Nat) (yT : Nat → Nat) (zR : Nat → Bool) (zF : Nat → Bool) (f : Nat) (a : Nat) (j : Nat) (K14 : Nat → Nat → Nat → (Nat → Bool) → (Nat → Bool) → Prop) (K58 : Nat → Nat → Nat → (Nat → Bool) → (Nat → Bool) → Prop) (K72 : Nat → Nat → Nat → Nat → (Nat → Bool) → (Nat → Bool) → Prop) (K95 : Nat → Nat → Nat → Nat → (Nat → Bool) → (Nat → Bool) → Prop) (K160 : Nat → Nat → Nat → Nat → (Nat → Bool) → (Nat → Bool) → Prop) (Q : Bool → Nat → Nat → (Nat → Bool) → (Nat → Bool) → Prop) (k : Nat) (q : Nat) (nxc : Nat) (soc : Nat) (zRc : Nat → Bool) (zFc : Nat → Bool) : Prop := (q < 2147483648) ∧ ((a < 2147483648) ∧ ((a ≤ q → K160 k f nxc soc zRc zFc) ∧ (¬ a ≤ q → (q < 1001) ∧ ((zRc q = false → K95 k (q + 1) nxc soc zRc zFc) ∧ (zRc q = true → (k < 120) ∧ ((r_RM_takes nxc soc tX q a (tP k)) ∧ (((decide (tX q = 42) || sp_take tX a q (tP k)) = false → K95 k (q + 1) (sp_end tX a q) (sp_sort tX a q) zRc zFc) ∧ ((decide (tX q = 42) || sp_take tX a q (tP k)) = true → (sp_sort tX a q < 2147483648) ∧ ((¬ sp_sort tX a q = 2 → v_RM_fitsName_149 nx so tX tP yF yT zR zF f a j K14 K58 K72 K95 K160 Q k q (sp_end tX a q) (sp_end tX a q) (sp_sort tX a q) zRc zFc) ∧ (sp_sort tX a q = 2 → v_RM_fitsName_149 nx so tX tP yF yT zR zF f a j K14 K58 K72 K95 K160 Q k q q (sp_end tX a q) (sp_sort tX a q) zRc zFc))))))))))
def v_RM_fitsName_160 (nx : Nat) (so : Nat) (tX : Nat → Int32) (tP : Nat → Int32) (yF : Nat → Nat) (yT : Nat → Nat) (zR : Nat → Bool) (zF : Nat → Bool) (f : Nat) (a : Nat) (j : Nat) (K14 : Nat → Nat → Nat → (Nat → Bool) → (Nat → Bool) → Prop) (K58 : Nat → Nat → Nat → (Nat → Bool) → (Nat → Bool) → Prop) (K72 : Nat → Nat → Nat → Nat → (Nat → Bool) → (Nat → Bool) → Prop) (K95 : Nat → Nat → Nat → Nat → (Nat → Bool) → (Nat → Bool) → Prop) (K160 : Nat → Nat → Nat → Nat → (Nat → Bool) → (Nat → Bool) → Prop) (Q : Bool → Nat → Nat → (Nat → Bool) → (Nat → Bool) → Prop) (k : Nat) (q : Nat) (nxc : Nat) (soc : Nat) (zRc : Nat → Bool) (zFc : Nat → Bool) : Prop := (q < 2147483648) ∧ ((a < 2147483648) ∧ ((a < q → (r_RM_pass nxc soc tX zRc f a) ∧ ((∀ (nx8 : Nat) (so9 : Nat) (zR10 : Nat → Bool), q_RM_pass nxc soc tX zRc f a nx8 so9 zR10 → K58 (k + 1) nx8 so9 zR10 zFc))) ∧ (¬ a < q → (q < 1001) ∧ ((q < 1001) ∧ (K160 k (q + 1) nxc soc (updB zRc q (zFc q)) zFc)))))
def v_RM_fitsName (nx : Nat) (so : Nat) (tX : Nat → Int32) (tP : Nat → Int32) (yF : Nat → Nat) (yT : Nat → Nat) (zR : Nat → Bool) (zF : Nat → Bool) (f : Nat) (a : Nat) (j : Nat) (K14 : Nat → Nat → Nat → (Nat → Bool) → (Nat → Bool) → Prop) (K58 : Nat → Nat → Nat → (Nat → Bool) → (Nat → Bool) → Prop) (K72 : Nat → Nat → Nat → Nat → (Nat → Bool) → (Nat → Bool) → Prop) (K95 : Nat → Nat → Nat → Nat → (Nat → Bool) → (Nat → Bool) → Prop) (K160 : Nat → Nat → Nat → Nat → (Nat → Bool) → (Nat → Bool) → Prop) (Q : Bool → Nat → Nat → (Nat → Bool) → (Nat → Bool) → Prop) : Prop := (r_RM_isVoidName nx so tX f a) ∧ ((∀ (nx1 : Nat) (so2 : Nat), ((decide (f = a) || sp_void tX a f) = false → K14 f nx1 so2 zR zF) ∧ ((decide (f = a) || sp_void tX a f) = true → Q false nx1 so2 zR zF)))
theorem t_RM_fitsName (nx : Nat) (so : Nat) (tX : Nat → Int32) (tP : Nat → Int32) (yF : Nat → Nat) (yT : Nat → Nat) (zR : Nat → Bool) (zF : Nat → Bool) (f : Nat) (a : Nat) (j : Nat) (hr : r_RM_fitsName nx so tX tP yF yT zR zF f a j) (K14 : Nat → Nat → Nat → (Nat → Bool) → (Nat → Bool) → Prop) (K58 : Nat → Nat → Nat → (Nat → Bool) → (Nat → Bool) → Prop) (K72 : Nat → Nat → Nat → Nat → (Nat → Bool) → (Nat → Bool) → Prop) (K95 : Nat → Nat → Nat → Nat → (Nat → Bool) → (Nat → Bool) → Prop) (K160 : Nat → Nat → Nat → Nat → (Nat → Bool) → (Nat → Bool) → Prop) (k14 : ∀ k nxc soc zRc zFc, v_RM_fitsName_14 nx so tX tP yF yT zR zF f a j K14 K58 K72 K95 K160 (p_RM_fitsName nx so tX tP yF yT zR zF f a j) k nxc soc zRc zFc → K14 k nxc soc zRc zFc) (k58 : ∀ k nxc soc zRc zFc, v_RM_fitsName_58 nx so tX tP yF yT zR zF f a j K14 K58 K72 K95 K160 (p_RM_fitsName nx so tX tP yF yT zR zF f a j) k nxc soc zRc zFc → K58 k nxc soc zRc zFc) (k72 : ∀ k q nxc soc zRc zFc, v_RM_fitsName_72 nx so tX tP yF yT zR zF f a j K14 K58 K72 K95 K160 (p_RM_fitsName nx so tX tP yF yT zR zF f a j) k q nxc soc zRc zFc → K72 k q nxc soc zRc zFc) (k95 : ∀ k q nxc soc zRc zFc, v_RM_fitsName_95 nx so tX tP yF yT zR zF f a j K14 K58 K72 K95 K160 (p_RM_fitsName nx so tX tP yF yT zR zF f a j) k q nxc soc zRc zFc → K95 k q nxc soc zRc zFc) (k160 : ∀ k q nxc soc zRc zFc, v_RM_fitsName_160 nx so tX tP yF yT zR zF f a j K14 K58 K72 K95 K160 (p_RM_fitsName nx so tX tP yF yT zR zF f a j) k q nxc soc zRc zFc → K160 k q nxc soc zRc zFc) : v_RM_fitsName nx so tX tP yF yT zR zF f a j K14 K58 K72 K95 K160 (p_RM_fitsName nx so tX tP yF yT zR zF f a j) := by
  obtain ⟨h1, h2, h3, h4, h5⟩ := hr
  generalize hans : sp_rn tX tP yF yT f a j = ans
  have hp : ∀ r n s R F, r = ans → p_RM_fitsName nx so tX tP yF yT zR zF f a j r n s R F := by
    intro r n s R F hr
    rw [p_RM_fitsName, hans]; exact hr
  unfold v_RM_fitsName
  refine ⟨⟨h1, h2⟩, fun n0 s0 => ⟨fun hv => ?_, fun hv => hp _ _ _ _ _ ?_⟩⟩
  · simp only [Bool.or_eq_false_iff, decide_eq_false_iff_not] at hv
    obtain ⟨hfa, hvd⟩ := hv
    have hlt : f < a := by omega
    obtain ⟨n, hn⟩ : ∃ n, n = yT j - yF j := ⟨_, rfl⟩
    have hA : ans = sp_fit tX a (fun i => tP (yF j + i)) n f 0 := by
      rw [← hans, sp_rn, decide_eq_true hlt, Bool.true_and, hn]
    have outer : ∀ m i w s R F, n - i ≤ m → i ≤ n → sp_cld tX a f R → (∀ k, f ≤ k → k ≤ a → R k = true → sp_void tX a k = false) → (ans = true ↔ sp_rx tX a (fun i => tP (yF j + i)) n i f R) → K58 (yF j + i) w s R F := by
      intro m
      induction m with
      | zero =>
        intro i w s R F hm hi hc hw hI
        refine k58 _ _ _ _ _ ?_
        unfold v_RM_fitsName_58
        refine ⟨h3, by omega, by omega, fun _ => ⟨by omega, hp _ _ _ _ _ ?_⟩, fun h => by omega⟩
        rw [show i = n by omega, sp_rx_end h1 hc] at hI
        exact (Bool.eq_iff_iff.mpr hI).symm
      | succ m ih =>
        intro i w s R F hm hi hc hw hI
        refine k58 _ _ _ _ _ ?_
        unfold v_RM_fitsName_58
        refine ⟨h3, by omega, by omega, fun _ => ⟨by omega, hp _ _ _ _ _ ?_⟩, fun h => ?_⟩
        · rw [show i = n by omega, sp_rx_end h1 hc] at hI
          exact (Bool.eq_iff_iff.mpr hI).symm
        · have hin : i < n := by omega
          have hmi : n - (i + 1) ≤ m := by omega
          have hk120 : yF j + i < 120 := by omega
          have hend : ∀ k, f ≤ k → k < a → R k = true → sp_end tX a k ≤ a := fun k k1 k2 k3 => (sp_void_nx k2 (hw k k1 (by omega) k3)).1
          -- the row is copied
          have cp : ∀ G : Nat → Bool, (∀ q, f ≤ q → q ≤ a → (G q = true ↔ ∃ k, f ≤ k ∧ k < a ∧ R k = true ∧ (tX k = 42 ∨ sp_take tX a k (tP (yF j + i)) = true) ∧ q = (if tX k = 42 then k else sp_end tX a k))) → ∀ d q w s R', a + 1 - q ≤ d → f ≤ q → q ≤ a + 1 → (∀ k, f ≤ k → k < q → R' k = G k) → K160 (yF j + i) q w s R' G := by
            intro G hG d
            have fin : ∀ q w s R', q = a + 1 → (∀ k, f ≤ k → k < q → R' k = G k) → K160 (yF j + i) q w s R' G := by
              intro q w s R' hq hcp
              refine k160 _ _ _ _ _ _ ?_
              unfold v_RM_fitsName_160
              refine ⟨by omega, by omega, fun _ => ⟨⟨h1, h2⟩, fun w' s' R2 hp2 => ?_⟩, fun h => by omega⟩
              obtain ⟨p1, p2, p3⟩ := hp2
              have hG' : ∀ q, f ≤ q → q ≤ a → (R' q = true ↔ ∃ k, f ≤ k ∧ k < a ∧ R k = true ∧ (tX k = 42 ∨ sp_take tX a k (tP (yF j + i)) = true) ∧ q = (if tX k = 42 then k else sp_end tX a k)) := by
                intro q q1 q2
                rw [hcp q q1 (by omega)]
                exact hG q q1 q2
              rw [Nat.add_assoc]
              refine ih (i + 1) w' s' R2 G hmi hin p1 (p3 fun k k1 k2 k3 => ?_) ?_
              · obtain ⟨k0, e1, e2, e3, e4, e5⟩ := (hG' k k1 k2).mp k3
                by_cases hs : tX k0 = 42
                · rw [if_pos hs] at e5
                  rw [e5]; exact hw k0 e1 (Nat.le_of_lt e2) e3
                · rw [if_neg hs] at e5
                  rw [e5]; exact (sp_void_nx e2 (hw k0 e1 (Nat.le_of_lt e2) e3)).2
              · exact hI.trans ((sp_rx_step (P := fun i => tP (yF j + i)) hin hc hend hG').trans (p2 _ _ _).symm)
            induction d with
            | zero => intro q w s R' hd hf hq hcp; exact fin q w s R' (by omega) hcp
            | succ d ihd =>
              intro q w s R' hd hf hq hcp
              by_cases hqa : q = a + 1
              · exact fin q w s R' hqa hcp
              · refine k160 _ _ _ _ _ _ ?_
                unfold v_RM_fitsName_160
                refine ⟨by omega, by omega, fun h => by omega, fun _ => ⟨by omega, by omega, ihd (q + 1) w s _ (by omega) (by omega) (by omega) (fun k k1 k2 => ?_)⟩⟩
                by_cases hkq : k = q
                · rw [hkq]; exact updB_s
                · rw [updB_n hkq]; exact hcp k k1 (by omega)
          -- the places that a byte leads to
          have st : ∀ d q w s G, a - q ≤ d → f ≤ q → q ≤ a → (∀ r, f ≤ r → r ≤ a → (G r = true ↔ ∃ k, f ≤ k ∧ k < q ∧ R k = true ∧ (tX k = 42 ∨ sp_take tX a k (tP (yF j + i)) = true) ∧ r = (if tX k = 42 then k else sp_end tX a k))) → K95 (yF j + i) q w s R G := by
            intro d
            have fin : ∀ q w s G, q = a → (∀ r, f ≤ r → r ≤ a → (G r = true ↔ ∃ k, f ≤ k ∧ k < q ∧ R k = true ∧ (tX k = 42 ∨ sp_take tX a k (tP (yF j + i)) = true) ∧ r = (if tX k = 42 then k else sp_end tX a k))) → K95 (yF j + i) q w s R G := by
              intro q w s G hq hG
              refine k95 _ _ _ _ _ _ ?_
              unfold v_RM_fitsName_95
              have c1 : q < 2147483648 := by omega
              have c2 : a < 2147483648 := by omega
              refine ⟨c1, c2, fun _ => ?_, fun h => absurd (Nat.le_of_eq hq.symm) h⟩
              subst hq
              exact cp G hG (q + 1) f w s R (by omega) (Nat.le_refl _) (by omega) (fun k k1 k2 => absurd k2 (Nat.not_lt.mpr k1))
            induction d with
            | zero => intro q w s G hd hf hq hG; exact fin q w s G (by omega) hG
            | succ d ihd =>
              intro q w s G hd hf hq hG
              by_cases hqa : q = a
              · exact fin q w s G hqa hG
              · have hqlt : q < a := by omega
                have d1 : a - (q + 1) ≤ d := by omega
                have d2 : f ≤ q + 1 := by omega
                have hle := sp_sort_le tX a q
                have skip : (R q = false ∨ ¬ (tX q = 42 ∨ sp_take tX a q (tP (yF j + i)) = true)) → ∀ w s, K95 (yF j + i) (q + 1) w s R G := by
                  intro hno w s
                  refine ihd (q + 1) w s G d1 d2 hqlt (fun r r1 r2 => (hG r r1 r2).trans ?_)
                  constructor
                  · rintro ⟨k, k1, k2, k3⟩
                    exact ⟨k, k1, Nat.lt_succ_of_lt k2, k3⟩
                  · rintro ⟨k, k1, k2, k3, k4, k5⟩
                    by_cases hkq : k = q
                    · subst hkq
                      rcases hno with hno | hno
                      · rw [hno] at k3; cases k3
                      · exact absurd k4 hno
                    · exact ⟨k, k1, Nat.lt_of_le_of_ne (Nat.le_of_lt_succ k2) hkq, k3, k4, k5⟩
                have hit : R q = true → (tX q = 42 ∨ sp_take tX a q (tP (yF j + i)) = true) → ∀ z w s, z = (if tX q = 42 then q else sp_end tX a q) → v_RM_fitsName_149 nx so tX tP yF yT zR zF f a j K14 K58 K72 K95 K160 (p_RM_fitsName nx so tX tP yF yT zR zF f a j) (yF j + i) q z w s R G := by
                  intro hRq ht z w s hz
                  have hza : z ≤ a := by
                    rw [hz]
                    split
                    · exact Nat.le_of_lt hqlt
                    · exact hend q hf hqlt hRq
                  unfold v_RM_fitsName_149
                  refine ⟨by omega, ihd (q + 1) w s _ d1 d2 hqlt (fun r r1 r2 => ?_)⟩
                  by_cases hrz : r = z
                  · subst hrz
                    rw [updB_s]
                    exact ⟨fun _ => ⟨q, hf, Nat.lt_succ_self q, hRq, ht, hz⟩, fun _ => rfl⟩
                  · rw [updB_n hrz, hG r r1 r2]
                    constructor
                    · rintro ⟨k, k1, k2, k3⟩
                      exact ⟨k, k1, Nat.lt_succ_of_lt k2, k3⟩
                    · rintro ⟨k, k1, k2, k3, k4, k5⟩
                      by_cases hkq : k = q
                      · subst hkq
                        exact absurd (k5.trans hz.symm) hrz
                      · exact ⟨k, k1, Nat.lt_of_le_of_ne (Nat.le_of_lt_succ k2) hkq, k3, k4, k5⟩
                refine k95 _ _ _ _ _ _ ?_
                unfold v_RM_fitsName_95
                have c1 : q < 2147483648 := by omega
                have c2 : a < 2147483648 := by omega
                have c3 : q < 1001 := by omega
                have c4 : sp_sort tX a q < 2147483648 := by omega
                refine ⟨c1, c2, fun h => absurd (Nat.le_antisymm hq h) hqa, fun _ => ⟨c3, fun hR => skip (Or.inl hR) _ _, fun hR => ⟨hk120, ⟨hqlt, h2, hend q hf hqlt hR⟩, fun ht => skip (Or.inr ?_) _ _, fun ht => ⟨c4, fun h2' => hit hR ?_ _ _ _ ?_, fun h2' => hit hR ?_ _ _ _ ?_⟩⟩⟩⟩
                · simp only [Bool.or_eq_false_iff, decide_eq_false_iff_not] at ht
                  rintro (e | e)
                  · exact ht.1 e
                  · rw [ht.2] at e; cases e
                · simpa using ht
                · rw [if_neg (fun e => h2' (sp_sort2.mpr e))]
                · simpa using ht
                · rw [if_pos (sp_sort2.mp h2')]
          -- the row is made empty
          have cl : ∀ d q w s G, a + 1 - q ≤ d → f ≤ q → q ≤ a + 1 → (∀ k, f ≤ k → k < q → G k = false) → K72 (yF j + i) q w s R G := by
            intro d
            have fin : ∀ q w s G, q = a + 1 → (∀ k, f ≤ k → k < q → G k = false) → K72 (yF j + i) q w s R G := by
              intro q w s G hq hG
              refine k72 _ _ _ _ _ _ ?_
              unfold v_RM_fitsName_72
              refine ⟨by omega, by omega, fun _ => ?_, fun h => by omega⟩
              refine st a f w s G (by omega) (Nat.le_refl _) h1 (fun r r1 r2 => ?_)
              rw [hG r r1 (by omega)]
              constructor
              · intro e; cases e
              · rintro ⟨k, k1, k2, -⟩
                exact absurd k2 (Nat.not_lt.mpr k1)
            induction d with
            | zero => intro q w s G hd hf hq hG; exact fin q w s G (by omega) hG
            | succ d ihd =>
              intro q w s G hd hf hq hG
              by_cases hqa : q = a + 1
              · exact fin q w s G hqa hG
              · refine k72 _ _ _ _ _ _ ?_
                unfold v_RM_fitsName_72
                refine ⟨by omega, by omega, fun h => by omega, fun _ => ⟨by omega, ihd (q + 1) w s _ (by omega) (by omega) (by omega) (fun k k1 k2 => ?_)⟩⟩
                by_cases hkq : k = q
                · rw [hkq]; exact updB_s
                · rw [updB_n hkq]; exact hG k k1 (by omega)
          exact cl (a + 1) f w s F (by omega) (Nat.le_refl _) (by omega) (fun k k1 k2 => absurd k2 (Nat.not_lt.mpr k1))
    have first : ∀ d k w s R F, a + 1 - k ≤ d → f ≤ k → k ≤ a + 1 → (∀ q, f ≤ q → q < k → R q = decide (q = f)) → K14 k w s R F := by
      intro d
      have fin : ∀ k w s R F, k = a + 1 → (∀ q, f ≤ q → q < k → R q = decide (q = f)) → K14 k w s R F := by
        intro k w s R F hk hR
        refine k14 _ _ _ _ _ ?_
        unfold v_RM_fitsName_14
        refine ⟨by omega, by omega, fun _ => ⟨⟨h1, h2⟩, fun w' s' R' hq => ⟨h3, ?_⟩⟩, fun h => by omega⟩
        obtain ⟨p1, p2, p3⟩ := hq
        refine outer n 0 w' s' R' F (by omega) (Nat.zero_le _) p1 (p3 fun q q1 q2 q3 => ?_) ?_
        · rw [hR q q1 (by omega), decide_eq_true_eq] at q3
          rw [q3]; exact hvd
        · rw [p2]
          constructor
          · intro h
            exact ⟨f, Nat.le_refl _, h1, by rw [hR f (Nat.le_refl _) (by omega), decide_eq_true rfl], by rw [← hA]; exact h⟩
          · rintro ⟨q, q1, q2, q3, q4⟩
            rw [hR q q1 (by omega), decide_eq_true_eq] at q3
            rw [q3] at q4
            rw [hA]; exact q4
      induction d with
      | zero => intro k w s R F hd hf hk hR; exact fin k w s R F (by omega) hR
      | succ d ihd =>
        intro k w s R F hd hf hk hR
        by_cases hka : k = a + 1
        · exact fin k w s R F hka hR
        · have nx' : ∀ v, v = decide (k = f) → v_RM_fitsName_37 nx so tX tP yF yT zR zF f a j K14 K58 K72 K95 K160 (p_RM_fitsName nx so tX tP yF yT zR zF f a j) k v k w s R F := by
            intro v hv
            unfold v_RM_fitsName_37
            refine ⟨by omega, ihd (k + 1) w s _ F (by omega) (by omega) (by omega) (fun q q1 q2 => ?_)⟩
            by_cases hqk : q = k
            · rw [hqk, updB_s, hv]
            · rw [updB_n hqk]; exact hR q q1 (by omega)
          refine k14 _ _ _ _ _ ?_
          unfold v_RM_fitsName_14
          refine ⟨by omega, by omega, fun h => by omega, fun _ => ⟨by omega, by omega, fun h => nx' false (by rw [decide_eq_false h]), fun h => nx' true (by rw [decide_eq_true h])⟩⟩
    exact first (a + 1) f n0 s0 zR zF (by omega) (Nat.le_refl _) (by omega) (fun q q1 q2 => absurd q2 (Nat.not_lt.mpr q1))
  · rw [← hans, sp_rn]
    simp only [Bool.or_eq_true, decide_eq_true_eq] at hv
    rcases hv with hv | hv
    · rw [decide_eq_false (by omega), Bool.false_and]
    · rw [sp_fit_vd a f (by omega) hv (yT j - yF j) 0 (by omega), Bool.and_false]

