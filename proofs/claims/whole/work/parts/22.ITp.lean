def r_IT_take (tT : Nat → Int32) (k : Nat) (z : Nat) (x : Int32) (a : Nat) : Prop := k < a ∧ a ≤ 1000 ∧ z + 1 ≤ a ∧ sp_end tT a k = z + 1 ∧ ¬ tT k = 42
def p_IT_take (tT : Nat → Int32) (k : Nat) (z : Nat) (x : Int32) (a : Nat) (r : Bool) : Prop := r = (sp_take tT a k x)
def v_IT_take_56 (tT : Nat → Int32) (k : Nat) (z : Nat) (x : Int32) (a : Nat) (K77 : Bool → Bool → Nat → Prop) (Q : Bool → Prop) (s0 : Bool) : Prop := (s0 = false → K77 s0 false (k + 1)) ∧ (s0 = true → K77 s0 false (k + 2))
def v_IT_take_51 (tT : Nat → Int32) (k : Nat) (z : Nat) (x : Int32) (a : Nat) (K77 : Bool → Bool → Nat → Prop) (Q : Bool → Prop) : Prop := v_IT_take_56 tT k z x a K77 Q true
def v_IT_take_151 (tT : Nat → Int32) (k : Nat) (z : Nat) (x : Int32) (a : Nat) (K77 : Bool → Bool → Nat → Prop) (Q : Bool → Prop) (tu : Bool) (fo : Bool) (b : Nat) (lo : Int32) (hi : Int32) : Prop := (x < lo → K77 tu fo (b + 1)) ∧ (¬ x < lo → (hi < x → K77 tu fo (b + 1)) ∧ (¬ hi < x → K77 tu true (b + 1)))
def v_IT_take_142 (tT : Nat → Int32) (k : Nat) (z : Nat) (x : Int32) (a : Nat) (K77 : Bool → Bool → Nat → Prop) (Q : Bool → Prop) (tu : Bool) (fo : Bool) (lo : Int32) (s0 : Nat) (s1 : Nat) : Prop := (s1 + s0 < 1000) ∧ (v_IT_take_151 tT k z x a K77 Q tu fo (s1 + s0) lo (tT (s1 + s0)))
def v_IT_take_95 (tT : Nat → Int32) (k : Nat) (z : Nat) (x : Int32) (a : Nat) (K77 : Bool → Bool → Nat → Prop) (Q : Bool → Prop) (tu : Bool) (fo : Bool) (b : Nat) : Prop := (b < 1000) ∧ ((b + 2 < 2147483648) ∧ ((z < 2147483648) ∧ ((z ≤ b + 2 → v_IT_take_151 tT k z x a K77 Q tu fo b (tT b) (tT b)) ∧ (¬ z ≤ b + 2 → (b + 1 < 1000) ∧ ((¬ (tT (b + 1)) = 45 → v_IT_take_151 tT k z x a K77 Q tu fo b (tT b) (tT b)) ∧ ((tT (b + 1)) = 45 → (b + 2 < 1000) ∧ ((¬ (tT (b + 2)) = 92 → v_IT_take_142 tT k z x a K77 Q tu fo (tT b) 2 b) ∧ ((tT (b + 2)) = 92 → v_IT_take_142 tT k z x a K77 Q tu fo (tT b) 3 b))))))))
def v_IT_take_77 (tT : Nat → Int32) (k : Nat) (z : Nat) (x : Int32) (a : Nat) (K77 : Bool → Bool → Nat → Prop) (Q : Bool → Prop) (tu : Bool) (fo : Bool) (b : Nat) : Prop := (b < 2147483648) ∧ ((z < 2147483648) ∧ ((z ≤ b → (fo = tu → Q false) ∧ (¬ fo = tu → Q true)) ∧ (¬ z ≤ b → (b < 1000) ∧ ((¬ (tT b) = 92 → v_IT_take_95 tT k z x a K77 Q tu fo b) ∧ ((tT b) = 92 → v_IT_take_95 tT k z x a K77 Q tu fo (b + 1))))))
def v_IT_take (tT : Nat → Int32) (k : Nat) (z : Nat) (x : Int32) (a : Nat) (K77 : Bool → Bool → Nat → Prop) (Q : Bool → Prop) : Prop := (k < 1000) ∧ ((¬ (tT k) = 63 → (k < 1000) ∧ (((tT k) = 91 → (k + 1 < 1000) ∧ (((tT (k + 1)) = 33 → v_IT_take_51 tT k z x a K77 Q) ∧ (¬ (tT (k + 1)) = 33 → (k + 1 < 1000) ∧ ((¬ (tT (k + 1)) = 94 → v_IT_take_56 tT k z x a K77 Q false) ∧ ((tT (k + 1)) = 94 → v_IT_take_51 tT k z x a K77 Q))))) ∧ (¬ (tT k) = 91 → (z < 1000) ∧ ((¬ (tT z) = x → Q false) ∧ ((tT z) = x → Q true))))) ∧ ((tT k) = 63 → Q true))
theorem t_IT_take (tT : Nat → Int32) (k : Nat) (z : Nat) (x : Int32) (a : Nat) (hr : r_IT_take tT k z x a) (K77 : Bool → Bool → Nat → Prop) (k77 : ∀ tu fo b, v_IT_take_77 tT k z x a K77 (p_IT_take tT k z x a) tu fo b → K77 tu fo b) : v_IT_take tT k z x a K77 (p_IT_take tT k z x a) := by
  obtain ⟨h1, h2, h3, h4, h5⟩ := hr
  have key : tT k = 91 → ∀ d b fl fo, z - b ≤ d → sp_se tT a b fl = z + 1 → (fo || sp_has tT a x b fl) = sp_has tT a x (sp_sf tT a k) true → K77 (decide (sp_sf tT a k = k + 2)) fo b := by
    intro h91 d
    induction d with
    | zero =>
      intro b fl fo hd hs hH
      obtain ⟨g1, g2, -⟩ := sp_set1 hs h3
      refine k77 _ fo b ?_
      unfold v_IT_take_77
      have hbz : b = z := by omega
      rw [g2 hbz x, Bool.or_false] at hH
      have hp : ∀ r, r = (fo != decide (sp_sf tT a k = k + 2)) → p_IT_take tT k z x a r := by
        intro r hr
        rw [p_IT_take, sp_take, if_neg (by rw [h91]; decide), if_pos h91, ← hH, hr]
      refine ⟨by omega, by omega, fun _ => ⟨fun h => hp _ ?_, fun h => hp _ ?_⟩, fun h => by omega⟩
      · rw [← h]; cases fo <;> rfl
      · cases fo <;> cases hq : decide (sp_sf tT a k = k + 2) <;> first | rfl | (rw [hq] at h; exact absurd rfl h)
    | succ d ih =>
      intro b fl fo hd hs hH
      obtain ⟨g1, g2, g3⟩ := sp_set1 hs h3
      by_cases hbz : b = z
      · refine k77 _ fo b ?_
        unfold v_IT_take_77
        rw [g2 hbz x, Bool.or_false] at hH
        have hp : ∀ r, r = (fo != decide (sp_sf tT a k = k + 2)) → p_IT_take tT k z x a r := by
          intro r hr
          rw [p_IT_take, sp_take, if_neg (by rw [h91]; decide), if_pos h91, ← hH, hr]
        refine ⟨by omega, by omega, fun _ => ⟨fun h => hp _ ?_, fun h => hp _ ?_⟩, fun h => by omega⟩
        · rw [← h]; cases fo <;> rfl
        · cases fo <;> cases hq : decide (sp_sf tT a k = k + 2) <;> first | rfl | (rw [hq] at h; exact absurd rfl h)
      · have hlt : b < z := by omega
        obtain ⟨-, gs, gn⟩ := g3 hlt
        have hrow := sp_set2 hs h3 hlt
        have hgt := sp_nx_gt tT a b
        rw [sp_has1 x hs h3 hlt] at hH
        have nx : ∀ c, c + 1 = sp_nx tT a b → v_IT_take_151 tT k z x a K77 (p_IT_take tT k z x a) (decide (sp_sf tT a k = k + 2)) fo c (sp_byte tT b) (sp_hi tT a b) := by
          intro c hc
          unfold v_IT_take_151
          rw [hc]
          refine ⟨fun h => ?_, fun h => ⟨fun h' => ?_, fun h' => ?_⟩⟩
          · refine ih _ false fo (by omega) gs ?_
            rw [← hH, decide_eq_false (fun q => absurd q.1 (Int32.not_le.mpr h)), Bool.false_or]
          · refine ih _ false fo (by omega) gs ?_
            rw [← hH, decide_eq_false (fun q => absurd q.2 (Int32.not_le.mpr h')), Bool.false_or]
          · refine ih _ false true (by omega) gs ?_
            rw [← hH, decide_eq_true ⟨Int32.not_lt.mp h, Int32.not_lt.mp h'⟩]
            simp
        have body : ∀ q, q + 1 = sp_tok tT b → tT q = sp_byte tT b → v_IT_take_95 tT k z x a K77 (p_IT_take tT k z x a) (decide (sp_sf tT a k = k + 2)) fo q := by
          intro q hq hby
          have hqz : q + 1 ≤ z := by
            have := sp_tok_nx (t := tT) (e := a) (a := b)
            omega
          have stop : ¬ sp_row tT a (sp_tok tT b) = true → v_IT_take_151 tT k z x a K77 (p_IT_take tT k z x a) (decide (sp_sf tT a k = k + 2)) fo q (tT q) (tT q) := by
            intro hr
            have e1 : sp_hi tT a b = tT q := by rw [sp_hi, if_neg hr, hby]
            have e2 := nx q (by rw [sp_nx, if_neg hr]; exact hq)
            rw [e1, ← hby] at e2
            exact e2
          have go : sp_row tT a (sp_tok tT b) = true → ∀ w, w + q + 1 = sp_tok tT (q + 2) → w ≤ 3 → tT (q + w) = sp_byte tT (q + 2) → v_IT_take_142 tT k z x a K77 (p_IT_take tT k z x a) (decide (sp_sf tT a k = k + 2)) fo (tT q) w q := by
            intro hr w hw hw3 hbw
            have e3 : sp_nx tT a b = sp_tok tT (q + 2) := by rw [sp_nx, if_pos hr, ← hq]
            unfold v_IT_take_142
            refine ⟨by omega, ?_⟩
            have e1 : sp_hi tT a b = tT (q + w) := by rw [sp_hi, if_pos hr, ← hq, hbw]
            have e2 := nx (q + w) (by omega)
            rw [e1, ← hby] at e2
            exact e2
          unfold v_IT_take_95
          refine ⟨by omega, by omega, by omega, fun h => stop (fun hr => ?_), fun h => ⟨by omega, fun h45 => stop (fun hr => ?_), fun h45 => ?_⟩⟩
          · have := (hrow.mpr hr).1
            omega
          · have := (hrow.mpr hr).2
            rw [← hq] at this
            exact h45 this
          · have hr := hrow.mp ⟨by omega, by rw [← hq]; exact h45⟩
            refine ⟨by omega, fun h92 => go hr 2 ?_ (by omega) ?_, fun h92 => go hr 3 ?_ (by omega) ?_⟩
            · rw [sp_tok, if_neg h92]; omega
            · rw [sp_byte, if_neg h92]
            · rw [sp_tok, if_pos h92]; omega
            · rw [sp_byte, if_pos h92]
        refine k77 _ fo b ?_
        unfold v_IT_take_77
        refine ⟨by omega, by omega, fun h => by omega, fun _ => ⟨by omega, fun h92 => body b ?_ ?_, fun h92 => body (b + 1) ?_ ?_⟩⟩
        · rw [sp_tok, if_neg h92]
        · rw [sp_byte, if_neg h92]
        · rw [sp_tok, if_pos h92]
        · rw [sp_byte, if_pos h92]
  have ent : tT k = 91 → k + 1 < a ∧ K77 (decide (sp_sf tT a k = k + 2)) false (sp_sf tT a k) := by
    intro h91
    have hs : sp_se tT a (sp_sf tT a k) true = z + 1 := by
      rw [sp_end, if_neg (by rw [h91]; decide), if_pos h91] at h4
      exact h4
    obtain ⟨g1, -⟩ := sp_set1 hs h3
    have := sp_sf_gt tT a k
    exact ⟨by omega, key h91 z _ true false (by omega) hs (by rw [Bool.false_or])⟩
  have sf : tT k = 91 → ∀ q : Bool, (q = true ↔ (tT (k + 1) = 33 ∨ tT (k + 1) = 94)) → v_IT_take_56 tT k z x a K77 (p_IT_take tT k z x a) q := by
    intro h91 q hq
    obtain ⟨g1, g2⟩ := ent h91
    unfold v_IT_take_56
    refine ⟨fun h => ?_, fun h => ?_⟩
    · have : ¬ (k + 1 < a ∧ (tT (k + 1) = 33 ∨ tT (k + 1) = 94)) := fun w => by rw [hq.mpr w.2] at h; cases h
      rw [sp_sf, if_neg this, decide_eq_false (by omega)] at g2
      rw [h]; exact g2
    · rw [sp_sf, if_pos ⟨g1, hq.mp h⟩, decide_eq_true rfl] at g2
      rw [h]; exact g2
  unfold v_IT_take v_IT_take_51
  refine ⟨by omega, fun hn => ⟨by omega, fun h91 => ?_, fun hn91 => ?_⟩, fun h63 => ?_⟩
  · have g1 := (ent h91).1
    refine ⟨by omega, fun h33 => sf h91 true ⟨fun _ => Or.inl h33, fun _ => rfl⟩, fun hn33 => ⟨by omega, fun hn94 => sf h91 false ⟨fun h => (by cases h), fun h => ?_⟩, fun h94 => sf h91 true ⟨fun _ => Or.inr h94, fun _ => rfl⟩⟩⟩
    rcases h with h | h
    · exact absurd h hn33
    · exact absurd h hn94
  · have hb : tT z = sp_byte tT k := by
      rw [sp_end] at h4
      rw [sp_byte]
      split at h4
      · rename_i h92
        rw [if_pos h92]
        congr 1
        omega
      · rename_i h92
        rw [if_neg h92]
        congr 1
        omega
    refine ⟨by omega, fun h => ?_, fun h => ?_⟩
    · rw [p_IT_take, sp_take, if_neg hn, if_neg hn91, ← hb, decide_eq_false h]
    · rw [p_IT_take, sp_take, if_neg hn, if_neg hn91, ← hb, decide_eq_true h]
  · rw [p_IT_take, sp_take, if_pos h63]

