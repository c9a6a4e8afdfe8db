def r_IR_lastFitting (mN : Nat → Bool) (mB : Nat → Bool) (tT : Nat → Int32) (aS : Nat → Nat) (aE : Nat → Nat) (aB : Nat → Nat) (pB : Nat → Int32) (pS : Nat → Nat) (nC : Nat) (n : Nat) (d : Bool) : Prop := sp_rok tT aS aE aB nC ∧ 1 ≤ n ∧ n ≤ 20 ∧ (∀ j, j < n → pS j + 1 ≤ pS (j + 1)) ∧ pS n ≤ 121
def p_IR_lastFitting (mN : Nat → Bool) (mB : Nat → Bool) (tT : Nat → Int32) (aS : Nat → Nat) (aE : Nat → Nat) (aB : Nat → Nat) (pB : Nat → Int32) (pS : Nat → Nat) (nC : Nat) (n : Nat) (d : Bool) (r : Int32) (mN' : Nat → Bool) (mB' : Nat → Bool) : Prop := r = (sp_lfit tT aS aE aB pB pS nC n d)
def v_IR_lastFitting_10 (mN : Nat → Bool) (mB : Nat → Bool) (tT : Nat → Int32) (aS : Nat → Nat) (aE : Nat → Nat) (aB : Nat → Nat) (pB : Nat → Int32) (pS : Nat → Nat) (nC : Nat) (n : Nat) (d : Bool) (K10 : Nat → (Nat → Bool) → (Nat → Bool) → Prop) (Q : Int32 → (Nat → Bool) → (Nat → Bool) → Prop) (k : Nat) (mNc : Nat → Bool) (mBc : Nat → Bool) : Prop := (k < 2147483648) ∧ ((k = 0 → Q (-1) mNc mBc) ∧ (∀ j1 : Nat, k = j1 + 1 → (r_MA_ruleFits mNc mBc tT aS aE aB pB pS j1 n d) ∧ ((∀ (mN2 : Nat → Bool) (mB3 : Nat → Bool), (sp_rf tT (aS j1) (aE j1) (aB j1) pB pS n d = false → K10 j1 mN2 mB3) ∧ (sp_rf tT (aS j1) (aE j1) (aB j1) pB pS n d = true → Q (nI j1) mN2 mB3)))))
def v_IR_lastFitting (mN : Nat → Bool) (mB : Nat → Bool) (tT : Nat → Int32) (aS : Nat → Nat) (aE : Nat → Nat) (aB : Nat → Nat) (pB : Nat → Int32) (pS : Nat → Nat) (nC : Nat) (n : Nat) (d : Bool) (K10 : Nat → (Nat → Bool) → (Nat → Bool) → Prop) (Q : Int32 → (Nat → Bool) → (Nat → Bool) → Prop) : Prop := K10 nC mN mB
theorem t_IR_lastFitting (mN : Nat → Bool) (mB : Nat → Bool) (tT : Nat → Int32) (aS : Nat → Nat) (aE : Nat → Nat) (aB : Nat → Nat) (pB : Nat → Int32) (pS : Nat → Nat) (nC : Nat) (n : Nat) (d : Bool) (hr : r_IR_lastFitting mN mB tT aS aE aB pB pS nC n d) (K10 : Nat → (Nat → Bool) → (Nat → Bool) → Prop) (k10 : ∀ k mNc mBc, v_IR_lastFitting_10 mN mB tT aS aE aB pB pS nC n d K10 (p_IR_lastFitting mN mB tT aS aE aB pB pS nC n d) k mNc mBc → K10 k mNc mBc) : v_IR_lastFitting mN mB tT aS aE aB pB pS nC n d K10 (p_IR_lastFitting mN mB tT aS aE aB pB pS nC n d) := by
  obtain ⟨⟨h1, h2⟩, h3, h4, h5, h6⟩ := hr
  have key : ∀ k rn rb, k ≤ nC → sp_lastf (fun k => sp_rf tT (aS k) (aE k) (aB k) pB pS n d) k = sp_lfit tT aS aE aB pB pS nC n d → K10 k rn rb := by
    intro k
    induction k with
    | zero =>
      intro rn rb hk hI
      refine k10 0 rn rb ?_
      unfold v_IR_lastFitting_10
      refine ⟨by omega, fun _ => hI, fun j hj => by omega⟩
    | succ k ih =>
      intro rn rb hk hI
      refine k10 (k + 1) rn rb ?_
      unfold v_IR_lastFitting_10
      refine ⟨by omega, fun h => by omega, fun j hj => ?_⟩
      obtain rfl : k = j := by omega
      obtain ⟨g1, g2, g3, g4⟩ := h2 k (by omega)
      rw [sp_lastf] at hI
      refine ⟨⟨by omega, g1, g2, g3, g4, h3, h4, h5, h6⟩, fun rn' rb' => ⟨fun h => ?_, fun h => ?_⟩⟩
      · rw [if_neg (by rw [h]; decide)] at hI
        exact ih rn' rb' (by omega) hI
      · rw [if_pos h] at hI
        exact hI
  exact key nC mN mB (Nat.le_refl _) rfl

def r_IR_leavesOut (aB : Nat → Nat) (x : Int32) : Prop := x = -1 ∨ ∃ k, k < 60 ∧ aB k < 16 ∧ x = nI k
def p_IR_leavesOut (aB : Nat → Nat) (x : Int32) (r : Bool) : Prop := r = (sp_lo aB x)
def v_IR_leavesOut (aB : Nat → Nat) (x : Int32) (Q : Bool → Prop) : Prop := (x = (-1) → Q false) ∧ (¬ x = (-1) → ∃ k1 : Nat, x = nI k1 ∧ ((k1 < 60) ∧ (((aB k1) &&& 1 < 2147483648) ∧ ((¬ (aB k1) &&& 1 = 0 → Q false) ∧ ((aB k1) &&& 1 = 0 → Q true)))))
theorem t_IR_leavesOut (aB : Nat → Nat) (x : Int32) (hr : r_IR_leavesOut aB x)  : v_IR_leavesOut aB x (p_IR_leavesOut aB x) := by
  unfold v_IR_leavesOut
  refine ⟨fun h => ?_, fun h => ?_⟩
  · rw [p_IR_leavesOut, sp_lo, if_pos h]
  · rcases hr with hr | ⟨k, h1, h2, h3⟩
    · exact absurd hr h
    · have b1 := sp_bit1 (aB k) h2
      have e : x.toNatClampNeg = k := by rw [h3]; exact ig_cl (by omega)
      refine ⟨k, h3, h1, by omega, fun h4 => ?_, fun h4 => ?_⟩
      · rw [p_IR_leavesOut, sp_lo, if_neg h, e, decide_eq_false h4]
      · rw [p_IR_leavesOut, sp_lo, if_neg h, e, decide_eq_true h4]

def r_IR_decidingDepth (mN : Nat → Bool) (mB : Nat → Bool) (tT : Nat → Int32) (aS : Nat → Nat) (aE : Nat → Nat) (aB : Nat → Nat) (pB : Nat → Int32) (pS : Nat → Nat) (nC : Nat) (pC : Nat) : Prop := sp_rok tT aS aE aB nC ∧ sp_pth pS pC
def p_IR_decidingDepth (mN : Nat → Bool) (mB : Nat → Bool) (tT : Nat → Int32) (aS : Nat → Nat) (aE : Nat → Nat) (aB : Nat → Nat) (pB : Nat → Int32) (pS : Nat → Nat) (nC : Nat) (pC : Nat) (r : Nat) (mN' : Nat → Bool) (mB' : Nat → Bool) : Prop := r = (sp_dd (fun m => sp_lo aB (sp_lfit tT aS aE aB pB pS nC m true)) pC 1)
def v_IR_decidingDepth_2 (mN : Nat → Bool) (mB : Nat → Bool) (tT : Nat → Int32) (aS : Nat → Nat) (aE : Nat → Nat) (aB : Nat → Nat) (pB : Nat → Int32) (pS : Nat → Nat) (nC : Nat) (pC : Nat) (K2 : Nat → (Nat → Bool) → (Nat → Bool) → Prop) (Q : Nat → (Nat → Bool) → (Nat → Bool) → Prop) (n : Nat) (mNc : Nat → Bool) (mBc : Nat → Bool) : Prop := (n < 2147483648) ∧ ((pC < 2147483648) ∧ ((pC ≤ n → Q pC mNc mBc) ∧ (¬ pC ≤ n → (r_IR_lastFitting mNc mBc tT aS aE aB pB pS nC n true) ∧ ((∀ (mN1 : Nat → Bool) (mB2 : Nat → Bool), (r_IR_leavesOut aB (sp_lfit tT aS aE aB pB pS nC n true)) ∧ ((sp_lo aB (sp_lfit tT aS aE aB pB pS nC n true) = false → K2 (n + 1) mN1 mB2) ∧ (sp_lo aB (sp_lfit tT aS aE aB pB pS nC n true) = true → Q n mN1 mB2)))))))
def v_IR_decidingDepth (mN : Nat → Bool) (mB : Nat → Bool) (tT : Nat → Int32) (aS : Nat → Nat) (aE : Nat → Nat) (aB : Nat → Nat) (pB : Nat → Int32) (pS : Nat → Nat) (nC : Nat) (pC : Nat) (K2 : Nat → (Nat → Bool) → (Nat → Bool) → Prop) (Q : Nat → (Nat → Bool) → (Nat → Bool) → Prop) : Prop := K2 1 mN mB
theorem t_IR_decidingDepth (mN : Nat → Bool) (mB : Nat → Bool) (tT : Nat → Int32) (aS : Nat → Nat) (aE : Nat → Nat) (aB : Nat → Nat) (pB : Nat → Int32) (pS : Nat → Nat) (nC : Nat) (pC : Nat) (hr : r_IR_decidingDepth mN mB tT aS aE aB pB pS nC pC) (K2 : Nat → (Nat → Bool) → (Nat → Bool) → Prop) (k2 : ∀ n mNc mBc, v_IR_decidingDepth_2 mN mB tT aS aE aB pB pS nC pC K2 (p_IR_decidingDepth mN mB tT aS aE aB pB pS nC pC) n mNc mBc → K2 n mNc mBc) : v_IR_decidingDepth mN mB tT aS aE aB pB pS nC pC K2 (p_IR_decidingDepth mN mB tT aS aE aB pB pS nC pC) := by
  obtain ⟨h1, h2⟩ := hr
  have h3 := h2.1
  have h4 := h2.2.1
  have key : ∀ e n rn rb, pC - n ≤ e → 1 ≤ n → sp_dd (fun m => sp_lo aB (sp_lfit tT aS aE aB pB pS nC m true)) pC n = sp_dd (fun m => sp_lo aB (sp_lfit tT aS aE aB pB pS nC m true)) pC 1 → n ≤ 21 → K2 n rn rb := by
    intro e
    induction e with
    | zero =>
      intro n rn rb hd hn hI hb
      refine k2 n rn rb ?_
      unfold v_IR_decidingDepth_2
      refine ⟨by omega, by omega, fun h => ?_, fun h => by omega⟩
      rw [p_IR_decidingDepth, ← hI, sp_dd, dif_neg (by omega)]
    | succ e ih =>
      intro n rn rb hd hn hI hb
      refine k2 n rn rb ?_
      unfold v_IR_decidingDepth_2
      refine ⟨by omega, by omega, fun h => ?_, fun h => ⟨⟨h1, hn, by omega, fun j hj => h4 j (by omega), sp_pth_n h2 (by omega)⟩, fun rn' rb' => ⟨?_, fun h5 => ?_, fun h5 => ?_⟩⟩⟩
      · rw [p_IR_decidingDepth, ← hI, sp_dd, dif_neg (by omega)]
      · rcases sp_lastf_in (fun k => sp_rf tT (aS k) (aE k) (aB k) pB pS n true) nC with q | ⟨k, q1, q2⟩
        · exact Or.inl q
        · have := h1.1
          exact Or.inr ⟨k, by omega, (h1.2 k q1).2.2.1, q2⟩
      · refine ih (n + 1) rn' rb' (by omega) (by omega) ?_ (by omega)
        rw [← hI, sp_dd.eq_1 _ pC n, dif_pos (by omega), if_neg (by rw [h5]; decide)]
      · rw [p_IR_decidingDepth, ← hI, sp_dd, dif_pos (by omega), if_pos h5]
  exact key pC 1 mN mB (by omega) (Nat.le_refl _) rfl (by omega)

def p_IR_wipe (tl : Nat) (r : Nat) (tl' : Nat) : Prop := r = tl ∧ tl' = 0
def v_IR_wipe (tl : Nat) (Q : Nat → Nat → Prop) : Prop := Q tl 0
theorem t_IR_wipe (tl : Nat)  : v_IR_wipe tl (p_IR_wipe tl) := by
  exact ⟨rfl, rfl⟩

def r_IR_path (tl : Nat) (pC : Nat) (pB : Nat → Int32) (pS : Nat → Nat) (tA : Nat → Int32) : Prop := tl ≤ 1000 ∧ pS 0 = 0 ∧ ∀ k, k < tl → vp_nar .char (tA k) = tA k
def q_IR_path (tl : Nat) (pC : Nat) (pB : Nat → Int32) (pS : Nat → Nat) (tA : Nat → Int32) (r : Int32) (tl' : Nat) (pC' : Nat) (pB' : Nat → Int32) (pS' : Nat → Nat) : Prop := pS' 0 = 0 ∧ (sp_pok tA tl = false → r = -1 ∧ tl' = tl ∧ pC' = 0) ∧ (sp_pok tA tl = true → r = nI pC' ∧ tl' = 0 ∧ pC' = 1 + sp_cnt tA tl 0 ∧ sp_path tA tl pC' pS' pB')
def p_IR_path (tl : Nat) (pC : Nat) (pB : Nat → Int32) (pS : Nat → Nat) (tA : Nat → Int32) (r : Int32) (tl' : Nat) (pC' : Nat) (pB' : Nat → Int32) (pS' : Nat → Nat) : Prop := q_IR_path tl pC pB pS tA r tl' pC' pB' pS'
def v_IR_path (tl : Nat) (pC : Nat) (pB : Nat → Int32) (pS : Nat → Nat) (tA : Nat → Int32) (Q : Int32 → Nat → Nat → (Nat → Int32) → (Nat → Nat) → Prop) : Prop := (r_PA_load pC pB pS tA tl) ∧ ((∀ (r4 : Bool) (pC1 : Nat) (pB2 : Nat → Int32) (pS3 : Nat → Nat), q_PA_load pC pB pS tA tl r4 pC1 pB2 pS3 → (r4 = true → Q (nI pC1) 0 pC1 pB2 pS3) ∧ (r4 = false → Q (-1) tl pC1 pB2 pS3)))
theorem t_IR_path (tl : Nat) (pC : Nat) (pB : Nat → Int32) (pS : Nat → Nat) (tA : Nat → Int32) (hr : r_IR_path tl pC pB pS tA)  : v_IR_path tl pC pB pS tA (p_IR_path tl pC pB pS tA) := by
  unfold v_IR_path
  refine ⟨hr, fun r c b s hq => ?_⟩
  obtain ⟨q1, q2, q3, q4⟩ := hq
  refine ⟨fun h => ⟨q2, fun g => ?_, fun _ => ⟨rfl, rfl, q4 h⟩⟩, fun h => ⟨q2, fun _ => ⟨rfl, rfl, q3 h⟩, fun g => ?_⟩⟩
  · rw [← q1, h] at g; cases g
  · rw [← q1, h] at g; cases g

def r_IR_read (tl : Nat) (tA : Nat → Int32) (uT : Nat → Int32) (uS : Nat → Nat) (uE : Nat → Nat) (uB : Nat → Nat) (uL : Nat → Nat) (uN : Nat) : Prop := tl ≤ 1000 ∧ ∀ k, k < tl → vp_nar .char (tA k) = tA k
def q_IR_read (tl : Nat) (tA : Nat → Int32) (uT : Nat → Int32) (uS : Nat → Nat) (uE : Nat → Nat) (uB : Nat → Nat) (uL : Nat → Nat) (uN : Nat) (r : Int32) (sw' : Bool) (tl' : Nat) (uT' : Nat → Int32) (uS' : Nat → Nat) (uE' : Nat → Nat) (uB' : Nat → Nat) (uL' : Nat → Nat) (uN' : Nat) : Prop := (∀ k, k < tl → uT' k = tA k) ∧ ((sp_rules uT' tl).length ≤ 60 → r = nI uN' ∧ sw' = true ∧ tl' = 0 ∧ uN' = (sp_rules uT' tl).length ∧ sp_hold uS' uE' uB' uL' (sp_rules uT' tl)) ∧ (¬ (sp_rules uT' tl).length ≤ 60 → r = -1 ∧ sw' = false ∧ tl' = tl)
def p_IR_read (tl : Nat) (tA : Nat → Int32) (uT : Nat → Int32) (uS : Nat → Nat) (uE : Nat → Nat) (uB : Nat → Nat) (uL : Nat → Nat) (uN : Nat) (r : Int32) (sw' : Bool) (tl' : Nat) (uT' : Nat → Int32) (uS' : Nat → Nat) (uE' : Nat → Nat) (uB' : Nat → Nat) (uL' : Nat → Nat) (uN' : Nat) : Prop := q_IR_read tl tA uT uS uE uB uL uN r sw' tl' uT' uS' uE' uB' uL' uN'
def v_IR_read (tl : Nat) (tA : Nat → Int32) (uT : Nat → Int32) (uS : Nat → Nat) (uE : Nat → Nat) (uB : Nat → Nat) (uL : Nat → Nat) (uN : Nat) (Q : Int32 → Bool → Nat → (Nat → Int32) → (Nat → Nat) → (Nat → Nat) → (Nat → Nat) → (Nat → Nat) → Nat → Prop) : Prop := (r_RL_load uT uS uE uB uL uN tA tl) ∧ ((∀ (r7 : Bool) (tT1 : Nat → Int32) (aS2 : Nat → Nat) (aE3 : Nat → Nat) (aB4 : Nat → Nat) (aL5 : Nat → Nat) (nC6 : Nat), q_RL_load uT uS uE uB uL uN tA tl r7 tT1 aS2 aE3 aB4 aL5 nC6 → (r7 = true → Q (nI nC6) true 0 tT1 aS2 aE3 aB4 aL5 nC6) ∧ (r7 = false → Q (-1) false tl tT1 aS2 aE3 aB4 aL5 nC6)))
theorem t_IR_read (tl : Nat) (tA : Nat → Int32) (uT : Nat → Int32) (uS : Nat → Nat) (uE : Nat → Nat) (uB : Nat → Nat) (uL : Nat → Nat) (uN : Nat) (hr : r_IR_read tl tA uT uS uE uB uL uN)  : v_IR_read tl tA uT uS uE uB uL uN (p_IR_read tl tA uT uS uE uB uL uN) := by
  unfold v_IR_read
  refine ⟨hr, fun r t s e b l n hq => ?_⟩
  obtain ⟨q1, q2, q3⟩ := hq
  refine ⟨fun h => ⟨q2, fun _ => ⟨rfl, rfl, rfl, q3 h⟩, fun g => ?_⟩, fun h => ⟨q2, fun g => ?_, fun _ => ⟨rfl, rfl, rfl⟩⟩⟩
  · rw [q1, decide_eq_true_eq] at h
    exact absurd h g
  · rw [q1, decide_eq_true g] at h
    cases h

