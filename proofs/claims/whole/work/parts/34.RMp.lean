def r_RM_noRule (ru : Nat) (x : Int32) : Prop := ru ≤ 60
def p_RM_noRule (ru : Nat) (x : Int32) (r : Bool) : Prop := r = (decide (x < 0 ∨ nI ru ≤ x))
def v_RM_noRule (ru : Nat) (x : Int32) (Q : Bool → Prop) : Prop := (x < 0 → Q true) ∧ (¬ x < 0 → (x < (nI ru) → Q false) ∧ (¬ x < (nI ru) → Q true))
theorem t_RM_noRule (ru : Nat) (x : Int32) (hr : r_RM_noRule ru x)  : v_RM_noRule ru x (p_RM_noRule ru x) := by
  unfold v_RM_noRule
  refine ⟨fun h => ?_, fun h => ⟨fun h' => ?_, fun h' => ?_⟩⟩
  · rw [p_RM_noRule, decide_eq_true (Or.inl h)]
  · rw [p_RM_noRule, decide_eq_false]
    rintro (q | q)
    · exact h q
    · exact absurd h' (Int32.not_lt.mpr q)
  · rw [p_RM_noRule, decide_eq_true (Or.inr (Int32.not_lt.mp h'))]

def r_RM_last (ru : Nat) (nx : Nat) (so : Nat) (pa : Nat) (tX : Nat → Int32) (xF : Nat → Nat) (xT : Nat → Nat) (xB : Nat → Nat) (tP : Nat → Int32) (yF : Nat → Nat) (yT : Nat → Nat) (zR : Nat → Bool) (zF : Nat → Bool) (wF : Nat → Nat) (wT : Nat → Nat) (zT : Nat → Bool) (n : Nat) (d : Bool) : Prop := sp_rok2 tX xF xT xB ru ∧ 1 ≤ n ∧ n ≤ 20 ∧ (∀ j, j < n → yF j ≤ yT j ∧ yT j ≤ 120)
def p_RM_last (ru : Nat) (nx : Nat) (so : Nat) (pa : Nat) (tX : Nat → Int32) (xF : Nat → Nat) (xT : Nat → Nat) (xB : Nat → Nat) (tP : Nat → Int32) (yF : Nat → Nat) (yT : Nat → Nat) (zR : Nat → Bool) (zF : Nat → Bool) (wF : Nat → Nat) (wT : Nat → Nat) (zT : Nat → Bool) (n : Nat) (d : Bool) (r : Int32) (nx' : Nat) (so' : Nat) (zR' : Nat → Bool) (zF' : Nat → Bool) (zT' : Nat → Bool) (pa' : Nat) (wF' : Nat → Nat) (wT' : Nat → Nat) : Prop := r = (sp_lrg tX xF xT xB tP yF yT ru n d)
def v_RM_last_7 (ru : Nat) (nx : Nat) (so : Nat) (pa : Nat) (tX : Nat → Int32) (xF : Nat → Nat) (xT : Nat → Nat) (xB : Nat → Nat) (tP : Nat → Int32) (yF : Nat → Nat) (yT : Nat → Nat) (zR : Nat → Bool) (zF : Nat → Bool) (wF : Nat → Nat) (wT : Nat → Nat) (zT : Nat → Bool) (n : Nat) (d : Bool) (K7 : Nat → Nat → Nat → Nat → (Nat → Bool) → (Nat → Bool) → (Nat → Nat) → (Nat → Nat) → (Nat → Bool) → Prop) (Q : Int32 → Nat → Nat → (Nat → Bool) → (Nat → Bool) → (Nat → Bool) → Nat → (Nat → Nat) → (Nat → Nat) → Prop) (k : Nat) (nxc : Nat) (soc : Nat) (pac : Nat) (zRc : Nat → Bool) (zFc : Nat → Bool) (wFc : Nat → Nat) (wTc : Nat → Nat) (zTc : Nat → Bool) : Prop := (k < 2147483648) ∧ ((k = 0 → Q (-1) nxc soc zRc zFc zTc pac wFc wTc) ∧ (∀ j1 : Nat, k = j1 + 1 → (r_RM_fitsFirst nxc soc pac tX xF xT xB tP yF yT zRc zFc wFc wTc zTc j1 n d) ∧ ((∀ (nx2 : Nat) (so3 : Nat) (zR4 : Nat → Bool) (zF5 : Nat → Bool) (zT6 : Nat → Bool) (pa7 : Nat) (wF8 : Nat → Nat) (wT9 : Nat → Nat), (sp_rg tX tP yF yT (xF j1) (xT j1) (xB j1) n d = false → K7 j1 nx2 so3 pa7 zR4 zF5 wF8 wT9 zT6) ∧ (sp_rg tX tP yF yT (xF j1) (xT j1) (xB j1) n d = true → Q (nI j1) nx2 so3 zR4 zF5 zT6 pa7 wF8 wT9)))))
def v_RM_last (ru : Nat) (nx : Nat) (so : Nat) (pa : Nat) (tX : Nat → Int32) (xF : Nat → Nat) (xT : Nat → Nat) (xB : Nat → Nat) (tP : Nat → Int32) (yF : Nat → Nat) (yT : Nat → Nat) (zR : Nat → Bool) (zF : Nat → Bool) (wF : Nat → Nat) (wT : Nat → Nat) (zT : Nat → Bool) (n : Nat) (d : Bool) (K7 : Nat → Nat → Nat → Nat → (Nat → Bool) → (Nat → Bool) → (Nat → Nat) → (Nat → Nat) → (Nat → Bool) → Prop) (Q : Int32 → Nat → Nat → (Nat → Bool) → (Nat → Bool) → (Nat → Bool) → Nat → (Nat → Nat) → (Nat → Nat) → Prop) : Prop := K7 ru nx so pa zR zF wF wT zT
theorem t_RM_last (ru : Nat) (nx : Nat) (so : Nat) (pa : Nat) (tX : Nat → Int32) (xF : Nat → Nat) (xT : Nat → Nat) (xB : Nat → Nat) (tP : Nat → Int32) (yF : Nat → Nat) (yT : Nat → Nat) (zR : Nat → Bool) (zF : Nat → Bool) (wF : Nat → Nat) (wT : Nat → Nat) (zT : Nat → Bool) (n : Nat) (d : Bool) (hr : r_RM_last ru nx so pa tX xF xT xB tP yF yT zR zF wF wT zT n d) (K7 : Nat → Nat → Nat → Nat → (Nat → Bool) → (Nat → Bool) → (Nat → Nat) → (Nat → Nat) → (Nat → Bool) → Prop) (k7 : ∀ k nxc soc pac zRc zFc wFc wTc zTc, v_RM_last_7 ru nx so pa tX xF xT xB tP yF yT zR zF wF wT zT n d K7 (p_RM_last ru nx so pa tX xF xT xB tP yF yT zR zF wF wT zT n d) k nxc soc pac zRc zFc wFc wTc zTc → K7 k nxc soc pac zRc zFc wFc wTc zTc) : v_RM_last ru nx so pa tX xF xT xB tP yF yT zR zF wF wT zT n d K7 (p_RM_last ru nx so pa tX xF xT xB tP yF yT zR zF wF wT zT n d) := by
  obtain ⟨⟨h1, h2⟩, h3, h4, h5⟩ := hr
  have key : ∀ k a1 a2 a3 a4 a5 a6 a7 a8, k ≤ ru → sp_lastf (fun k => sp_rg tX tP yF yT (xF k) (xT k) (xB k) n d) k = sp_lrg tX xF xT xB tP yF yT ru n d → K7 k a1 a2 a3 a4 a5 a6 a7 a8 := by
    intro k
    induction k with
    | zero =>
      intro a1 a2 a3 a4 a5 a6 a7 a8 hk hI
      refine k7 _ _ _ _ _ _ _ _ _ ?_
      unfold v_RM_last_7
      exact ⟨by omega, fun _ => hI, fun j hj => by omega⟩
    | succ k ih =>
      intro a1 a2 a3 a4 a5 a6 a7 a8 hk hI
      refine k7 _ _ _ _ _ _ _ _ _ ?_
      unfold v_RM_last_7
      refine ⟨by omega, fun h => by omega, fun j hj => ?_⟩
      obtain rfl : k = j := by omega
      obtain ⟨g1, g2, g3, g4⟩ := h2 k (by omega)
      rw [sp_lastf] at hI
      refine ⟨⟨by omega, g1, g2, g3, g4, h3, h4, h5⟩, fun b1 b2 b3 b4 b5 b6 b7 b8 => ⟨fun h => ?_, fun h => ?_⟩⟩
      · rw [if_neg (by rw [h]; decide)] at hI
        exact ih _ _ _ _ _ _ _ _ (by omega) hI
      · rw [if_pos h] at hI
        exact hI
  exact key ru nx so pa zR zF wF wT zT (Nat.le_refl _) rfl

def p_RM_wipe (th : Nat) (si : Nat) (r : Nat) (th' : Nat) (si' : Nat) : Prop := r = si ∧ th' = 0 ∧ si' = 0
def v_RM_wipe (th : Nat) (si : Nat) (Q : Nat → Nat → Nat → Prop) : Prop := Q si 0 0
theorem t_RM_wipe (th : Nat) (si : Nat)  : v_RM_wipe th si (p_RM_wipe th si) := by
  exact ⟨rfl, rfl, rfl⟩

def p_RM_thrown (th : Nat) (r : Nat) : Prop := r = th
def v_RM_thrown (th : Nat) (Q : Nat → Prop) : Prop := Q th
theorem t_RM_thrown (th : Nat)  : v_RM_thrown th (p_RM_thrown th) := by
  exact rfl

def q_RM_swapText (tA : Nat → Int32) (tX : Nat → Int32) (tB : Nat → Int32) (d : Bool) (tX' : Nat → Int32) (tB' : Nat → Int32) : Prop := (d = true → (∀ k, k < 1000 → tX' k = tB k) ∧ ∀ k, k < 1000 → tB' k = tB k) ∧ (d = false → (∀ k, k < 1000 → tX' k = tA k) ∧ ∀ k, k < 1000 → tB' k = tX k)
def p_RM_swapText (tA : Nat → Int32) (tX : Nat → Int32) (tB : Nat → Int32) (d : Bool) (tX' : Nat → Int32) (tB' : Nat → Int32) : Prop := q_RM_swapText tA tX tB d tX' tB'
def v_RM_swapText_58 (tA : Nat → Int32) (tX : Nat → Int32) (tB : Nat → Int32) (d : Bool) (K2 : Nat → (Nat → Int32) → (Nat → Int32) → Prop) (Q : (Nat → Int32) → (Nat → Int32) → Prop) (b : Nat) (s0 : Int32) (s1 : Nat) (tXc : Nat → Int32) (tBc : Nat → Int32) : Prop := (s1 < 1000) ∧ (K2 (b + 1) (upd tXc s1 s0) tBc)
def v_RM_swapText_33 (tA : Nat → Int32) (tX : Nat → Int32) (tB : Nat → Int32) (d : Bool) (K2 : Nat → (Nat → Int32) → (Nat → Int32) → Prop) (Q : (Nat → Int32) → (Nat → Int32) → Prop) (b : Nat) (s0 : Int32) (s1 : Nat) (tXc : Nat → Int32) (tBc : Nat → Int32) : Prop := (s1 < 1000) ∧ ((d = false → (b < 1000) ∧ (v_RM_swapText_58 tA tX tB d K2 Q b (tA b) b tXc (upd tBc s1 s0))) ∧ (d = true → (b < 1000) ∧ (v_RM_swapText_58 tA tX tB d K2 Q b ((upd tBc s1 s0) b) b tXc (upd tBc s1 s0))))
def v_RM_swapText_2 (tA : Nat → Int32) (tX : Nat → Int32) (tB : Nat → Int32) (d : Bool) (K2 : Nat → (Nat → Int32) → (Nat → Int32) → Prop) (Q : (Nat → Int32) → (Nat → Int32) → Prop) (b : Nat) (tXc : Nat → Int32) (tBc : Nat → Int32) : Prop := (b < 2147483648) ∧ ((1000 ≤ b → Q tXc tBc) ∧ (¬ 1000 ≤ b → (d = false → (b < 1000) ∧ (v_RM_swapText_33 tA tX tB d K2 Q b (tXc b) b tXc tBc)) ∧ (d = true → (b < 1000) ∧ (v_RM_swapText_33 tA tX tB d K2 Q b (tBc b) b tXc tBc))))
def v_RM_swapText (tA : Nat → Int32) (tX : Nat → Int32) (tB : Nat → Int32) (d : Bool) (K2 : Nat → (Nat → Int32) → (Nat → Int32) → Prop) (Q : (Nat → Int32) → (Nat → Int32) → Prop) : Prop := K2 0 tX tB
theorem t_RM_swapText (tA : Nat → Int32) (tX : Nat → Int32) (tB : Nat → Int32) (d : Bool) (K2 : Nat → (Nat → Int32) → (Nat → Int32) → Prop) (k2 : ∀ b tXc tBc, v_RM_swapText_2 tA tX tB d K2 (p_RM_swapText tA tX tB d) b tXc tBc → K2 b tXc tBc) : v_RM_swapText tA tX tB d K2 (p_RM_swapText tA tX tB d) := by
  have key : ∀ m b X T, 1000 - b ≤ m → b ≤ 1000 → (∀ k, k < b → (d = true → X k = tB k ∧ T k = tB k) ∧ (d = false → X k = tA k ∧ T k = tX k)) → (∀ k, b ≤ k → X k = tX k ∧ T k = tB k) → K2 b X T := by
    intro m
    have fin : ∀ b X T, b = 1000 → (∀ k, k < b → (d = true → X k = tB k ∧ T k = tB k) ∧ (d = false → X k = tA k ∧ T k = tX k)) → K2 b X T := by
      intro b X T hb g1
      refine k2 _ _ _ ?_
      unfold v_RM_swapText_2
      refine ⟨by omega, fun _ => ⟨fun h => ⟨fun k hk => ((g1 k (by omega)).1 h).1, fun k hk => ((g1 k (by omega)).1 h).2⟩, fun h => ⟨fun k hk => ((g1 k (by omega)).2 h).1, fun k hk => ((g1 k (by omega)).2 h).2⟩⟩, fun h => by omega⟩
    induction m with
    | zero => intro b X T hm hb g1 g2; exact fin b X T (by omega) g1
    | succ m ih =>
      intro b X T hm hb g1 g2
      by_cases hbb : b = 1000
      · exact fin b X T hbb g1
      · have hlt : b < 1000 := by omega
        have nx : ∀ x y, (d = true → x = tB b ∧ y = tB b) → (d = false → x = tA b ∧ y = tX b) → K2 (b + 1) (upd X b x) (upd T b y) := by
          intro x y hx hy
          refine ih _ _ _ (by omega) (by omega) (fun k hk => ?_) (fun k hk => ?_)
          · by_cases hkb : k = b
            · rw [hkb, pk_us, pk_us]
              exact ⟨hx, hy⟩
            · rw [pk_un hkb, pk_un hkb]
              exact g1 k (by omega)
          · rw [pk_un (by omega), pk_un (by omega)]
            exact g2 k (by omega)
        have gb := g2 b (Nat.le_refl _)
        refine k2 _ _ _ ?_
        unfold v_RM_swapText_2 v_RM_swapText_33 v_RM_swapText_58
        refine ⟨by omega, fun h => by omega, fun _ => ⟨fun hd => ⟨hlt, hlt, fun _ => ⟨hlt, hlt, nx _ _ ?_ ?_⟩, fun h => ?_⟩, fun hd => ⟨hlt, hlt, fun h => ?_, fun _ => ⟨hlt, hlt, nx _ _ ?_ ?_⟩⟩⟩⟩
        · intro h; rw [hd] at h; cases h
        · intro _; exact ⟨rfl, gb.1⟩
        · rw [hd] at h; cases h
        · rw [hd] at h; cases h
        · intro _; rw [pk_us]; exact ⟨gb.2, gb.2⟩
        · intro h; rw [hd] at h; cases h
  exact key 1000 0 tX tB (by omega) (by omega) (fun k hk => absurd hk (Nat.not_lt_zero _)) (fun _ _ => ⟨rfl, rfl⟩)

def r_RM_isPath (si : Nat) (tA : Nat → Int32) : Prop := si ≤ 1000
def p_RM_isPath (si : Nat) (tA : Nat → Int32) (r : Bool) : Prop := r = (sp_pok tA si)
def v_RM_isPath_79 (si : Nat) (tA : Nat → Int32) (K25 : Nat → Nat → Nat → Prop) (Q : Bool → Prop) (le : Nat) (b : Nat) (s0 : Nat) : Prop := (b < 1000) ∧ ((¬ (tA b) = 47 → K25 s0 (le + 1) (b + 1)) ∧ ((tA b) = 47 → K25 s0 0 (b + 1)))
def v_RM_isPath_61 (si : Nat) (tA : Nat → Int32) (K25 : Nat → Nat → Nat → Prop) (Q : Bool → Prop) (m : Nat) (le : Nat) (b : Nat) : Prop := (b < 1000) ∧ ((¬ (tA b) = 47 → v_RM_isPath_79 si tA K25 Q le b m) ∧ ((tA b) = 47 → v_RM_isPath_79 si tA K25 Q le b (m + 1)))
def v_RM_isPath_25 (si : Nat) (tA : Nat → Int32) (K25 : Nat → Nat → Nat → Prop) (Q : Bool → Prop) (m : Nat) (le : Nat) (b : Nat) : Prop := (b < 2147483648) ∧ ((si < 2147483648) ∧ ((si ≤ b → (le < 2147483648) ∧ ((le ≤ 0 → Q false) ∧ (¬ le ≤ 0 → (m < 2147483648) ∧ ((20 < m → Q false) ∧ (¬ 20 < m → Q true))))) ∧ (¬ si ≤ b → (b < 1000) ∧ (((tA b) = 10 → Q false) ∧ (¬ (tA b) = 10 → (b < 1000) ∧ ((¬ (tA b) = 47 → v_RM_isPath_61 si tA K25 Q m le b) ∧ ((tA b) = 47 → (le < 2147483648) ∧ ((¬ le = 0 → v_RM_isPath_61 si tA K25 Q m le b) ∧ (le = 0 → Q false)))))))))
def v_RM_isPath (si : Nat) (tA : Nat → Int32) (K25 : Nat → Nat → Nat → Prop) (Q : Bool → Prop) : Prop := (si < 2147483648) ∧ ((si < 1 → Q false) ∧ (¬ si < 1 → (si < 2147483648) ∧ ((si ≤ 120 → K25 1 0 0) ∧ (¬ si ≤ 120 → Q false))))
theorem t_RM_isPath (si : Nat) (tA : Nat → Int32) (hr : r_RM_isPath si tA) (K25 : Nat → Nat → Nat → Prop) (k25 : ∀ m le b, v_RM_isPath_25 si tA K25 (p_RM_isPath si tA) m le b → K25 m le b) : v_RM_isPath si tA K25 (p_RM_isPath si tA) := by
  have h1 : si ≤ 1000 := hr
  have bad : (sp_pk tA si 0 0 = false ∨ ¬ 1 + sp_cnt tA si 0 ≤ 20 ∨ ¬ (1 ≤ si ∧ si ≤ 120)) → p_RM_isPath si tA false := by
    intro hb
    rw [p_RM_isPath, sp_pok]
    rcases hb with hb | hb | hb
    · rw [hb]; simp
    · rw [decide_eq_false hb]; simp
    · rw [decide_eq_false hb]; simp
  have key : 1 ≤ si ∧ si ≤ 120 → ∀ d m le b, si - b ≤ d → b ≤ si → le ≤ b → m ≤ b + 1 → sp_pk tA si 0 0 = sp_pk tA si b le → m + sp_cnt tA si b = 1 + sp_cnt tA si 0 → K25 m le b := by
    intro hs d
    have fin : ∀ m le b, b = si → le ≤ b → m ≤ b + 1 → sp_pk tA si 0 0 = sp_pk tA si b le → m + sp_cnt tA si b = 1 + sp_cnt tA si 0 → K25 m le b := by
      intro m le b hb hl hm g1 g2
      rw [sp_pk.eq_1 tA si b, dif_neg (by omega)] at g1
      rw [sp_cnt_e (by omega)] at g2
      refine k25 _ _ _ ?_
      unfold v_RM_isPath_25
      refine ⟨by omega, by omega, fun _ => ⟨by omega, fun h => bad (Or.inl ?_), fun h => ⟨by omega, fun h' => bad (Or.inr (Or.inl (by omega))), fun h' => ?_⟩⟩, fun h => by omega⟩
      · rw [g1, decide_eq_false (by omega)]
      · rw [p_RM_isPath, sp_pok, g1, decide_eq_true hs, decide_eq_true (by omega), decide_eq_true (by omega)]
        rfl
    induction d with
    | zero => intro m le b hd hb hl hm g1 g2; exact fin m le b (by omega) hl hm g1 g2
    | succ d ih =>
      intro m le b hd hb hl hm g1 g2
      by_cases hbs : b = si
      · exact fin m le b hbs hl hm g1 g2
      · have hlt : b < si := by omega
        rw [sp_pk.eq_1 tA si b, dif_pos hlt] at g1
        have s61 : ¬ (tA b = 10 ∨ (tA b = 47 ∧ le = 0)) → v_RM_isPath_61 si tA K25 (p_RM_isPath si tA) m le b := by
          intro hno
          rw [if_neg hno] at g1
          unfold v_RM_isPath_61 v_RM_isPath_79
          refine ⟨by omega, fun h => ⟨by omega, fun _ => ?_, fun h' => absurd h' h⟩, fun h => ⟨by omega, fun h' => absurd h h', fun _ => ?_⟩⟩
          · rw [if_neg h] at g1
            exact ih _ _ _ (by omega) (by omega) (by omega) (by omega) g1 (by rw [← sp_cnt_no hlt h]; exact g2)
          · rw [if_pos h] at g1
            rw [sp_cnt_at hlt h] at g2
            exact ih _ _ _ (by omega) (by omega) (by omega) (by omega) g1 (by omega)
        refine k25 _ _ _ ?_
        unfold v_RM_isPath_25
        refine ⟨by omega, by omega, fun h => by omega, fun _ => ⟨by omega, fun h => bad (Or.inl ?_), fun h => ⟨by omega, fun h' => s61 ?_, fun h' => ⟨by omega, fun h'' => s61 ?_, fun h'' => bad (Or.inl ?_)⟩⟩⟩⟩
        · rw [g1, if_pos (Or.inl h)]
        · rintro (q | ⟨q, -⟩)
          · exact h q
          · exact h' q
        · rintro (q | ⟨-, q⟩)
          · exact h q
          · exact h'' q
        · rw [g1, if_pos (Or.inr ⟨h', h''⟩)]
  unfold v_RM_isPath
  refine ⟨by omega, fun h => bad (Or.inr (Or.inr (by omega))), fun h => ⟨by omega, fun h' => ?_, fun h' => bad (Or.inr (Or.inr (by omega)))⟩⟩
  exact key ⟨by omega, h'⟩ si 1 0 0 (by omega) (by omega) (Nat.le_refl _) (by omega) rfl rfl

