def r_IT_lastByte (tT : Nat → Int32) (k : Nat) (a : Nat) : Prop := k < a ∧ a ≤ 1000
def p_IT_lastByte (tT : Nat → Int32) (k : Nat) (a : Nat) (r : Int32) : Prop := r = (sp_last tT a k)
def v_IT_lastByte_65 (tT : Nat → Int32) (k : Nat) (a : Nat) (K85 : Nat → Nat → Prop) (Q : Int32 → Prop) (s0 : Bool) : Prop := (s0 = false → K85 (k + 1) (k + 1)) ∧ (s0 = true → K85 (k + 2) (k + 2))
def v_IT_lastByte_64 (tT : Nat → Int32) (k : Nat) (a : Nat) (K85 : Nat → Nat → Prop) (Q : Int32 → Prop) : Prop := v_IT_lastByte_65 tT k a K85 Q false
def v_IT_lastByte_60 (tT : Nat → Int32) (k : Nat) (a : Nat) (K85 : Nat → Nat → Prop) (Q : Int32 → Prop) : Prop := v_IT_lastByte_65 tT k a K85 Q true
def v_IT_lastByte_110 (tT : Nat → Int32) (k : Nat) (a : Nat) (K85 : Nat → Nat → Prop) (Q : Int32 → Prop) (fi : Nat) (b : Nat) : Prop := (b < 1000) ∧ ((¬ (tT b) = 92 → K85 fi (b + 1)) ∧ ((tT b) = 92 → K85 fi (b + 1 + 1)))
def v_IT_lastByte_85 (tT : Nat → Int32) (k : Nat) (a : Nat) (K85 : Nat → Nat → Prop) (Q : Int32 → Prop) (fi : Nat) (b : Nat) : Prop := (b < 2147483648) ∧ ((a < 2147483648) ∧ ((a ≤ b → Q (-1)) ∧ (¬ a ≤ b → (b < 1000) ∧ ((¬ (tT b) = 93 → v_IT_lastByte_110 tT k a K85 Q fi b) ∧ ((tT b) = 93 → (b < 2147483648) ∧ ((fi < 2147483648) ∧ ((b ≤ fi → v_IT_lastByte_110 tT k a K85 Q fi b) ∧ (¬ b ≤ fi → Q (nI b)))))))))
def v_IT_lastByte (tT : Nat → Int32) (k : Nat) (a : Nat) (K85 : Nat → Nat → Prop) (Q : Int32 → Prop) : Prop := (k < 1000) ∧ ((¬ (tT k) = 92 → (k < 1000) ∧ (((tT k) = 91 → (k + 1 < 2147483648) ∧ ((a < 2147483648) ∧ ((a ≤ k + 1 → v_IT_lastByte_64 tT k a K85 Q) ∧ (¬ a ≤ k + 1 → (k + 1 < 1000) ∧ (((tT (k + 1)) = 33 → v_IT_lastByte_60 tT k a K85 Q) ∧ (¬ (tT (k + 1)) = 33 → (k + 1 < 1000) ∧ ((¬ (tT (k + 1)) = 94 → v_IT_lastByte_64 tT k a K85 Q) ∧ ((tT (k + 1)) = 94 → v_IT_lastByte_60 tT k a K85 Q)))))))) ∧ (¬ (tT k) = 91 → Q (nI k)))) ∧ ((tT k) = 92 → (k + 1 < 2147483648) ∧ ((a < 2147483648) ∧ ((a ≤ k + 1 → Q (-1)) ∧ (¬ a ≤ k + 1 → Q (nI (k + 1)))))))
theorem t_IT_lastByte (tT : Nat → Int32) (k : Nat) (a : Nat) (hr : r_IT_lastByte tT k a) (K85 : Nat → Nat → Prop) (k85 : ∀ fi b, v_IT_lastByte_85 tT k a K85 (p_IT_lastByte tT k a) fi b → K85 fi b) : v_IT_lastByte tT k a K85 (p_IT_lastByte tT k a) := by
  obtain ⟨h1, h2⟩ := hr
  have key : tT k = 91 → ∀ d fi b, a - b ≤ d → fi ≤ b → b ≤ a + 1 → sp_sb tT a b (decide (b = fi)) = sp_end tT a k → K85 fi b := by
    intro h91 d
    induction d with
    | zero =>
      intro fi b hd hf hb hE
      have e1 : sp_sb tT a b (decide (b = fi)) = a + 1 := by rw [sp_sb, if_neg (by omega)]
      refine k85 fi b ?_
      unfold v_IT_lastByte_85
      refine ⟨by omega, by omega, fun _ => ?_, fun h => by omega⟩
      rw [p_IT_lastByte, sp_last, ← hE, e1, if_neg (by omega)]
    | succ d ih =>
      intro fi b hd hf hb hE
      refine k85 fi b ?_
      by_cases hab : a ≤ b
      · have e1 : sp_sb tT a b (decide (b = fi)) = a + 1 := by rw [sp_sb, if_neg (by omega)]
        unfold v_IT_lastByte_85
        refine ⟨by omega, by omega, fun _ => ?_, fun h => by omega⟩
        rw [p_IT_lastByte, sp_last, ← hE, e1, if_neg (by omega)]
      · have nx : (b = fi ∨ ¬ tT b = 93) → v_IT_lastByte_110 tT k a K85 (p_IT_lastByte tT k a) fi b := by
          intro hc
          have e1 : sp_sb tT a b (decide (b = fi)) = sp_sb tT a (sp_tok tT b) false := by
            rw [sp_sb.eq_1 tT a b, if_pos (by omega), if_pos (by simpa using hc)]
          unfold v_IT_lastByte_110
          refine ⟨by omega, fun hn => ?_, fun hy => ?_⟩
          · have e2 : sp_tok tT b = b + 1 := by rw [sp_tok, if_neg hn]
            refine ih fi (b + 1) (by omega) (by omega) (by omega) ?_
            rw [decide_eq_false (by omega), ← hE, e1, e2]
          · have e2 : sp_tok tT b = b + 1 + 1 := by rw [sp_tok, if_pos hy]
            refine ih fi (b + 1 + 1) (by omega) (by omega) (by omega) ?_
            rw [decide_eq_false (by omega), ← hE, e1, e2]
        unfold v_IT_lastByte_85
        refine ⟨by omega, by omega, fun h => absurd h hab, fun _ => ⟨by omega, fun hn => nx (Or.inr hn), fun hy => ⟨by omega, by omega, fun hle => nx (Or.inl (by omega)), fun hgt => ?_⟩⟩⟩
        have e1 : sp_sb tT a b (decide (b = fi)) = b + 1 := by
          rw [sp_sb, if_pos (by omega), if_neg]
          simp
          exact ⟨by omega, hy⟩
        rw [p_IT_lastByte, sp_last, ← hE, e1, if_pos (by omega), Nat.add_sub_cancel]
  have go : tT k = 91 → K85 (sp_sf tT a k) (sp_sf tT a k) := by
    intro h
    have := sp_sf_le (t := tT) h1
    refine key h a _ _ (by omega) (Nat.le_refl _) (by omega) ?_
    rw [decide_eq_true rfl, sp_sb_se, sp_end, if_neg (by rw [h]; decide), if_pos h]
  unfold v_IT_lastByte v_IT_lastByte_64 v_IT_lastByte_60 v_IT_lastByte_65
  refine ⟨by omega, fun hn => ⟨by omega, fun h91 => ?_, fun hn91 => ?_⟩, fun h92 => ⟨by omega, by omega, fun h => ?_, fun h => ?_⟩⟩
  · have g := go h91
    refine ⟨by omega, by omega, fun h => ?_, fun h => ⟨by omega, fun h33 => ?_, fun hn33 => ⟨by omega, fun hn94 => ?_, fun h94 => ?_⟩⟩⟩
    · rw [sp_sf, if_neg (by omega)] at g
      exact ⟨fun _ => g, fun h => by cases h⟩
    · rw [sp_sf, if_pos ⟨by omega, Or.inl h33⟩] at g
      exact ⟨fun h => (by cases h), fun _ => g⟩
    · rw [sp_sf, if_neg (by rintro ⟨-, q | q⟩ <;> contradiction)] at g
      exact ⟨fun _ => g, fun h => by cases h⟩
    · rw [sp_sf, if_pos ⟨by omega, Or.inr h94⟩] at g
      exact ⟨fun h => (by cases h), fun _ => g⟩
  · rw [p_IT_lastByte, sp_last, sp_end, if_neg hn, if_neg hn91, if_pos (by omega), Nat.add_sub_cancel]
  · rw [p_IT_lastByte, sp_last, sp_end, if_pos h92, if_neg (by omega)]
  · rw [p_IT_lastByte, sp_last, sp_end, if_pos h92, if_pos (by omega)]
    rfl

def r_IT_areWhole (tT : Nat → Int32) (f : Nat) (a : Nat) : Prop := f ≤ a ∧ a ≤ 1000
def p_IT_areWhole (tT : Nat → Int32) (f : Nat) (a : Nat) (r : Bool) : Prop := r = (decide (f < a) && !sp_void tT a f)
def v_IT_areWhole_2 (tT : Nat → Int32) (f : Nat) (a : Nat) (K2 : Nat → Prop) (Q : Bool → Prop) (b : Nat) : Prop := (b < 2147483648) ∧ ((a < 2147483648) ∧ ((a ≤ b → (f < 2147483648) ∧ ((a < 2147483648) ∧ ((a ≤ f → Q false) ∧ (¬ a ≤ f → Q true)))) ∧ (¬ a ≤ b → (r_IT_lastByte tT b a) ∧ (((nI b) ≤ (sp_last tT a b) → ∃ z1 : Nat, (sp_last tT a b) = nI z1 ∧ (K2 (z1 + 1))) ∧ (¬ (nI b) ≤ (sp_last tT a b) → Q false)))))
def v_IT_areWhole (tT : Nat → Int32) (f : Nat) (a : Nat) (K2 : Nat → Prop) (Q : Bool → Prop) : Prop := K2 f
theorem t_IT_areWhole (tT : Nat → Int32) (f : Nat) (a : Nat) (hr : r_IT_areWhole tT f a) (K2 : Nat → Prop) (k2 : ∀ b, v_IT_areWhole_2 tT f a K2 (p_IT_areWhole tT f a) b → K2 b) : v_IT_areWhole tT f a K2 (p_IT_areWhole tT f a) := by
  obtain ⟨h1, h2⟩ := hr
  have key : ∀ d b, a - b ≤ d → f ≤ b → b ≤ a → sp_void tT a b = sp_void tT a f → K2 b := by
    intro d
    induction d with
    | zero =>
      intro b hd hf hb hE
      have e1 : sp_void tT a b = false := by rw [sp_void, dif_neg (by omega)]
      refine k2 b ?_
      unfold v_IT_areWhole_2
      refine ⟨by omega, by omega, fun _ => ⟨by omega, by omega, fun h => ?_, fun h => ?_⟩, fun h => by omega⟩
      · rw [p_IT_areWhole, decide_eq_false (by omega)]
        rfl
      · rw [p_IT_areWhole, decide_eq_true (by omega), ← hE, e1]
        rfl
    | succ d ih =>
      intro b hd hf hb hE
      refine k2 b ?_
      unfold v_IT_areWhole_2
      refine ⟨by omega, by omega, fun hab => ⟨by omega, by omega, fun h => ?_, fun h => ?_⟩, fun hab => ⟨⟨by omega, h2⟩, fun hl => ?_, fun hl => ?_⟩⟩
      · rw [p_IT_areWhole, decide_eq_false (by omega)]
        rfl
      · have e1 : sp_void tT a b = false := by rw [sp_void, dif_neg (by omega)]
        rw [p_IT_areWhole, decide_eq_true (by omega), ← hE, e1]
        rfl
      · have hlt : b < a := by omega
        have hg := sp_end_gt (t := tT) hlt
        by_cases he : sp_end tT a b ≤ a
        · refine ⟨sp_end tT a b - 1, by rw [sp_last, if_pos he], ?_⟩
          rw [show sp_end tT a b - 1 + 1 = sp_end tT a b by omega]
          refine ih _ (by omega) (by omega) he ?_
          rw [← hE, sp_void.eq_1 tT a b, dif_pos hlt, if_pos he]
        · rw [sp_last, if_neg he] at hl
          exact absurd hl (ig_neg (by omega))
      · have hlt : b < a := by omega
        have hg := sp_end_gt (t := tT) hlt
        have he : ¬ sp_end tT a b ≤ a := by
          intro he
          rw [sp_last, if_pos he] at hl
          exact hl ((ig_le (by omega) (by omega)).mpr (by omega))
        have e1 : sp_void tT a b = true := by rw [sp_void, dif_pos hlt, if_neg he]
        rw [p_IT_areWhole, ← hE, e1]
        simp
  exact key (a - f) f (Nat.le_refl _) (Nat.le_refl _) h1 rfl

def r_PA_lengthOf (pS : Nat → Nat) (j : Nat) : Prop := j < 20 ∧ pS j + 1 ≤ pS (j + 1)
def p_PA_lengthOf (pS : Nat → Nat) (j : Nat) (r : Nat) : Prop := r = (pS (j + 1) - 1 - pS j)
def v_PA_lengthOf (pS : Nat → Nat) (j : Nat) (Q : Nat → Prop) : Prop := (j + 1 < 21) ∧ ((1 ≤ pS (j + 1)) ∧ ((j < 21) ∧ ((pS j ≤ (pS (j + 1)) - 1) ∧ (Q (((pS (j + 1)) - 1) - (pS j))))))
theorem t_PA_lengthOf (pS : Nat → Nat) (j : Nat) (hr : r_PA_lengthOf pS j)  : v_PA_lengthOf pS j (p_PA_lengthOf pS j) := by
  obtain ⟨h1, h2⟩ := hr
  unfold v_PA_lengthOf
  refine ⟨by omega, by omega, by omega, by omega, rfl⟩

def r_MA_startRow (zw : Nat → Bool) (zn : Nat) (n : Nat) (f : Nat) : Prop := n < zn ∧ zn ≤ 121 ∧ f < 2147483648
def q_MA_startRow (zw : Nat → Bool) (zn : Nat) (n : Nat) (f : Nat) (zw' : Nat → Bool) : Prop := ∀ j, j ≤ n → zw' j = decide (j = f)
def p_MA_startRow (zw : Nat → Bool) (zn : Nat) (n : Nat) (f : Nat) (zw' : Nat → Bool) : Prop := q_MA_startRow zw zn n f zw'
def v_MA_startRow_19 (zw : Nat → Bool) (zn : Nat) (n : Nat) (f : Nat) (K2 : Nat → (Nat → Bool) → Prop) (Q : (Nat → Bool) → Prop) (b : Nat) (s0 : Bool) (s1 : Nat) (zwc : Nat → Bool) : Prop := (s1 < zn) ∧ ((zn < 2147483648) ∧ (K2 (b + 1) (updB zwc s1 s0)))
def v_MA_startRow_2 (zw : Nat → Bool) (zn : Nat) (n : Nat) (f : Nat) (K2 : Nat → (Nat → Bool) → Prop) (Q : (Nat → Bool) → Prop) (b : Nat) (zwc : Nat → Bool) : Prop := (b < 2147483648) ∧ ((n < 2147483648) ∧ ((n < b → Q zwc) ∧ (¬ n < b → (b < 2147483648) ∧ ((f < 2147483648) ∧ ((¬ b = f → v_MA_startRow_19 zw zn n f K2 Q b false b zwc) ∧ (b = f → v_MA_startRow_19 zw zn n f K2 Q b true b zwc))))))
def v_MA_startRow (zw : Nat → Bool) (zn : Nat) (n : Nat) (f : Nat) (K2 : Nat → (Nat → Bool) → Prop) (Q : (Nat → Bool) → Prop) : Prop := K2 0 zw
theorem t_MA_startRow (zw : Nat → Bool) (zn : Nat) (n : Nat) (f : Nat) (hr : r_MA_startRow zw zn n f) (K2 : Nat → (Nat → Bool) → Prop) (k2 : ∀ b zwc, v_MA_startRow_2 zw zn n f K2 (p_MA_startRow zw zn n f) b zwc → K2 b zwc) : v_MA_startRow zw zn n f K2 (p_MA_startRow zw zn n f) := by
  obtain ⟨h1, h2, h3⟩ := hr
  have key : ∀ d b w, n + 1 - b = d → b ≤ n + 1 → (∀ j, j < b → w j = decide (j = f)) → K2 b w := by
    intro d
    induction d with
    | zero =>
      intro b w hd hb hI
      refine k2 b w ?_
      unfold v_MA_startRow_2
      refine ⟨by omega, by omega, fun _ => ?_, fun h => by omega⟩
      exact fun j hj => hI j (by omega)
    | succ d ih =>
      intro b w hd hb hI
      refine k2 b w ?_
      have nx : ∀ v, v = decide (b = f) → v_MA_startRow_19 zw zn n f K2 (p_MA_startRow zw zn n f) b v b w := by
        intro v hv
        unfold v_MA_startRow_19
        refine ⟨by omega, by omega, ih (b + 1) _ (by omega) (by omega) (fun j hj => ?_)⟩
        by_cases hjb : j = b
        · rw [hjb, updB_s, hv]
        · rw [updB_n hjb]; exact hI j (by omega)
      unfold v_MA_startRow_2
      refine ⟨by omega, by omega, fun h => by omega, fun _ => ⟨by omega, by omega, fun h => nx false (by rw [decide_eq_false h]), fun h => nx true (by rw [decide_eq_true h])⟩⟩
  exact key (n + 1) 0 zw rfl (Nat.zero_le _) (fun j hj => absurd hj (Nat.not_lt_zero _))

def r_MA_spread (zw : Nat → Bool) (zn : Nat) (n : Nat) : Prop := n < zn ∧ zn ≤ 121
def q_MA_spread (zw : Nat → Bool) (zn : Nat) (n : Nat) (zw' : Nat → Bool) : Prop := ∀ j, j ≤ n → (zw' j = true ↔ ∃ i, i ≤ j ∧ zw i = true)
def p_MA_spread (zw : Nat → Bool) (zn : Nat) (n : Nat) (zw' : Nat → Bool) : Prop := q_MA_spread zw zn n zw'
def v_MA_spread_28 (zw : Nat → Bool) (zn : Nat) (n : Nat) (K2 : Nat → (Nat → Bool) → Prop) (Q : (Nat → Bool) → Prop) (b : Nat) (s0 : Bool) (s1 : Nat) (zwc : Nat → Bool) : Prop := (s1 < zn) ∧ ((zn < 2147483648) ∧ (K2 (b + 1) (updB zwc s1 s0)))
def v_MA_spread_23 (zw : Nat → Bool) (zn : Nat) (n : Nat) (K2 : Nat → (Nat → Bool) → Prop) (Q : (Nat → Bool) → Prop) (b : Nat) (s0 : Nat) (zwc : Nat → Bool) : Prop := v_MA_spread_28 zw zn n K2 Q b true s0 zwc
def v_MA_spread_2 (zw : Nat → Bool) (zn : Nat) (n : Nat) (K2 : Nat → (Nat → Bool) → Prop) (Q : (Nat → Bool) → Prop) (b : Nat) (zwc : Nat → Bool) : Prop := (b < 2147483648) ∧ ((n < 2147483648) ∧ ((n < b → Q zwc) ∧ (¬ n < b → (b < zn) ∧ ((zn < 2147483648) ∧ ((zwc b = true → v_MA_spread_23 zw zn n K2 Q b b zwc) ∧ (zwc b = false → (1 ≤ b) ∧ ((b - 1 < zn) ∧ ((zn < 2147483648) ∧ ((zwc (b - 1) = false → v_MA_spread_28 zw zn n K2 Q b false b zwc) ∧ (zwc (b - 1) = true → v_MA_spread_23 zw zn n K2 Q b b zwc))))))))))
def v_MA_spread (zw : Nat → Bool) (zn : Nat) (n : Nat) (K2 : Nat → (Nat → Bool) → Prop) (Q : (Nat → Bool) → Prop) : Prop := K2 1 zw
theorem t_MA_spread (zw : Nat → Bool) (zn : Nat) (n : Nat) (hr : r_MA_spread zw zn n) (K2 : Nat → (Nat → Bool) → Prop) (k2 : ∀ b zwc, v_MA_spread_2 zw zn n K2 (p_MA_spread zw zn n) b zwc → K2 b zwc) : v_MA_spread zw zn n K2 (p_MA_spread zw zn n) := by
  obtain ⟨h1, h2⟩ := hr
  have key : ∀ d b w, n + 1 - b = d → 1 ≤ b → b ≤ n + 1 → (∀ j, j < b → (w j = true ↔ ∃ i, i ≤ j ∧ zw i = true)) → (∀ j, b ≤ j → w j = zw j) → K2 b w := by
    intro d
    induction d with
    | zero =>
      intro b w hd h1 hb hI hJ
      refine k2 b w ?_
      unfold v_MA_spread_2
      refine ⟨by omega, by omega, fun _ => ?_, fun h => by omega⟩
      exact fun j hj => hI j (by omega)
    | succ d ih =>
      intro b w hd hb1 hb hI hJ
      refine k2 b w ?_
      have a1 : n + 1 - (b + 1) = d := by omega
      have a2 : b + 1 ≤ n + 1 := by omega
      have a3 : b < zn := by omega
      have a4 : zn < 2147483648 := by omega
      have nx : ∀ v, (v = true ↔ ∃ i, i ≤ b ∧ zw i = true) → v_MA_spread_28 zw zn n K2 (p_MA_spread zw zn n) b v b w := by
        intro v hv
        unfold v_MA_spread_28
        refine ⟨a3, a4, ih (b + 1) _ a1 (Nat.le_add_left 1 b) a2 (fun j hj => ?_) (fun j hj => ?_)⟩
        · by_cases hjb : j = b
          · rw [hjb, updB_s]; exact hv
          · rw [updB_n hjb]; exact hI j (Nat.lt_of_le_of_ne (Nat.le_of_lt_succ hj) hjb)
        · rw [updB_n (Nat.ne_of_gt hj)]; exact hJ j (Nat.le_of_succ_le hj)
      unfold v_MA_spread_2 v_MA_spread_23
      refine ⟨by omega, by omega, fun h => by omega, fun _ => ⟨by omega, by omega, fun h => nx true ?_, fun h => ⟨by omega, by omega, by omega, fun h3 => nx false ?_, fun h3 => nx true ?_⟩⟩⟩
      · rw [hJ b (Nat.le_refl _)] at h
        exact ⟨fun _ => ⟨b, Nat.le_refl _, h⟩, fun _ => rfl⟩
      · rw [hJ b (Nat.le_refl _)] at h
        refine ⟨fun q => (by cases q), fun ⟨i, i1, i2⟩ => ?_⟩
        by_cases hi : i = b
        · rw [hi, h] at i2; cases i2
        · have := (hI (b - 1) (by omega)).mpr ⟨i, by omega, i2⟩
          rw [h3] at this; cases this
      · obtain ⟨i, i1, i2⟩ := (hI (b - 1) (by omega)).mp h3
        exact ⟨fun _ => ⟨i, by omega, i2⟩, fun _ => rfl⟩
  refine key n 1 zw (by omega) (Nat.le_refl _) (by omega) (fun j hj => ?_) (fun _ _ => rfl)
  have : j = 0 := by omega
  subst this
  exact ⟨fun h => ⟨0, Nat.le_refl _, h⟩, fun ⟨i, i1, i2⟩ => by rw [Nat.le_zero.mp i1] at i2; exact i2⟩

def r_MA_isDeep (tT : Nat → Int32) (f : Nat) (a : Nat) : Prop := f ≤ a ∧ a ≤ 1000
def p_MA_isDeep (tT : Nat → Int32) (f : Nat) (a : Nat) (r : Bool) : Prop := r = (sp_deep tT f a)
def v_MA_isDeep (tT : Nat → Int32) (f : Nat) (a : Nat) (Q : Bool → Prop) : Prop := (f ≤ a) ∧ ((a - f < 2147483648) ∧ ((¬ a - f = 2 → Q false) ∧ (a - f = 2 → (f < 1000) ∧ ((¬ (tT f) = 42 → Q false) ∧ ((tT f) = 42 → (f + 1 < 1000) ∧ ((¬ (tT (f + 1)) = 42 → Q false) ∧ ((tT (f + 1)) = 42 → Q true)))))))
theorem t_MA_isDeep (tT : Nat → Int32) (f : Nat) (a : Nat) (hr : r_MA_isDeep tT f a)  : v_MA_isDeep tT f a (p_MA_isDeep tT f a) := by
  obtain ⟨h1, h2⟩ := hr
  unfold v_MA_isDeep
  refine ⟨h1, by omega, fun h => ?_, fun h => ⟨by omega, fun h3 => ?_, fun h3 => ⟨by omega, fun h4 => ?_, fun h4 => ?_⟩⟩⟩
  · rw [p_MA_isDeep, sp_deep, decide_eq_false]
    rintro ⟨q, -⟩
    omega
  · rw [p_MA_isDeep, sp_deep, decide_eq_false]
    rintro ⟨-, q, -⟩
    exact h3 q
  · rw [p_MA_isDeep, sp_deep, decide_eq_false]
    rintro ⟨-, -, q⟩
    exact h4 q
  · rw [p_MA_isDeep, sp_deep, decide_eq_true]
    exact ⟨by omega, h3, h4⟩

