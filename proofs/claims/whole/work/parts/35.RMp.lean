def r_RM_read (th : Nat) (si : Nat) (ru : Nat) (nx : Nat) (so : Nat) (pa : Nat) (bz : Nat) (tA : Nat → Int32) (tX : Nat → Int32) (xF : Nat → Nat) (xT : Nat → Nat) (xB : Nat → Nat) (xL : Nat → Nat) (wF : Nat → Nat) (wT : Nat → Nat) (tB : Nat → Int32) : Prop := si ≤ 1000 ∧ bz ≤ 1000
def q_RM_read (th : Nat) (si : Nat) (ru : Nat) (nx : Nat) (so : Nat) (pa : Nat) (bz : Nat) (tA : Nat → Int32) (tX : Nat → Int32) (xF : Nat → Nat) (xT : Nat → Nat) (xB : Nat → Nat) (xL : Nat → Nat) (wF : Nat → Nat) (wT : Nat → Nat) (tB : Nat → Int32) (r : Int32) (ru' : Nat) (xF' : Nat → Nat) (xT' : Nat → Nat) (xB' : Nat → Nat) (xL' : Nat → Nat) (nx' : Nat) (so' : Nat) (pa' : Nat) (wF' : Nat → Nat) (wT' : Nat → Nat) (tX' : Nat → Int32) (tB' : Nat → Int32) (si' : Nat) (bz' : Nat) (th' : Nat) : Prop := th' = 0 ∧ ∃ t, (∀ k, k < 1000 → t k = tA k) ∧ ((sp_rules t si).length ≤ 60 → r = nI ru' ∧ si' = 0 ∧ bz' = si ∧ tX' = t ∧ ru' = (sp_rules t si).length ∧ sp_hold xF' xT' xB' xL' (sp_rules t si)) ∧ (¬ (sp_rules t si).length ≤ 60 → r = -1 ∧ si' = si ∧ bz' = bz ∧ (∀ k, k < 1000 → tX' k = tX k) ∧ ru' = (sp_rules tX' bz).length ∧ (ru' ≤ 60 → sp_hold xF' xT' xB' xL' (sp_rules tX' bz)))
def p_RM_read (th : Nat) (si : Nat) (ru : Nat) (nx : Nat) (so : Nat) (pa : Nat) (bz : Nat) (tA : Nat → Int32) (tX : Nat → Int32) (xF : Nat → Nat) (xT : Nat → Nat) (xB : Nat → Nat) (xL : Nat → Nat) (wF : Nat → Nat) (wT : Nat → Nat) (tB : Nat → Int32) (r : Int32) (ru' : Nat) (xF' : Nat → Nat) (xT' : Nat → Nat) (xB' : Nat → Nat) (xL' : Nat → Nat) (nx' : Nat) (so' : Nat) (pa' : Nat) (wF' : Nat → Nat) (wT' : Nat → Nat) (tX' : Nat → Int32) (tB' : Nat → Int32) (si' : Nat) (bz' : Nat) (th' : Nat) : Prop := q_RM_read th si ru nx so pa bz tA tX xF xT xB xL wF wT tB r ru' xF' xT' xB' xL' nx' so' pa' wF' wT' tX' tB' si' bz' th'
def v_RM_read (th : Nat) (si : Nat) (ru : Nat) (nx : Nat) (so : Nat) (pa : Nat) (bz : Nat) (tA : Nat → Int32) (tX : Nat → Int32) (xF : Nat → Nat) (xT : Nat → Nat) (xB : Nat → Nat) (xL : Nat → Nat) (wF : Nat → Nat) (wT : Nat → Nat) (tB : Nat → Int32) (Q : Int32 → Nat → (Nat → Nat) → (Nat → Nat) → (Nat → Nat) → (Nat → Nat) → Nat → Nat → Nat → (Nat → Nat) → (Nat → Nat) → (Nat → Int32) → (Nat → Int32) → Nat → Nat → Nat → Prop) : Prop := (∀ (tX1 : Nat → Int32) (tB2 : Nat → Int32), q_RM_swapText tA tX tB false tX1 tB2 → (r_RM_tryLines si ru nx so pa tX1 xF xT xB xL wF wT) ∧ ((∀ (r13 : Nat) (ru3 : Nat) (xF4 : Nat → Nat) (xT5 : Nat → Nat) (xB6 : Nat → Nat) (xL7 : Nat → Nat) (nx8 : Nat) (so9 : Nat) (pa10 : Nat) (wF11 : Nat → Nat) (wT12 : Nat → Nat), q_RM_tryLines si ru nx so pa tX1 xF xT xB xL wF wT r13 ru3 xF4 xT5 xB6 xL7 nx8 so9 pa10 wF11 wT12 → (r13 < 2147483648) ∧ ((r13 ≤ 60 → Q (nI ru3) ru3 xF4 xT5 xB6 xL7 nx8 so9 pa10 wF11 wT12 tX1 tB2 0 si 0) ∧ (¬ r13 ≤ 60 → (∀ (tX14 : Nat → Int32) (tB15 : Nat → Int32), q_RM_swapText tA tX1 tB2 true tX14 tB15 → (r_RM_tryLines bz ru3 nx8 so9 pa10 tX14 xF4 xT5 xB6 xL7 wF11 wT12) ∧ ((∀ (r26 : Nat) (ru16 : Nat) (xF17 : Nat → Nat) (xT18 : Nat → Nat) (xB19 : Nat → Nat) (xL20 : Nat → Nat) (nx21 : Nat) (so22 : Nat) (pa23 : Nat) (wF24 : Nat → Nat) (wT25 : Nat → Nat), q_RM_tryLines bz ru3 nx8 so9 pa10 tX14 xF4 xT5 xB6 xL7 wF11 wT12 r26 ru16 xF17 xT18 xB19 xL20 nx21 so22 pa23 wF24 wT25 → Q (-1) ru16 xF17 xT18 xB19 xL20 nx21 so22 pa23 wF24 wT25 tX14 tB15 si bz 0))))))))
theorem t_RM_read (th : Nat) (si : Nat) (ru : Nat) (nx : Nat) (so : Nat) (pa : Nat) (bz : Nat) (tA : Nat → Int32) (tX : Nat → Int32) (xF : Nat → Nat) (xT : Nat → Nat) (xB : Nat → Nat) (xL : Nat → Nat) (wF : Nat → Nat) (wT : Nat → Nat) (tB : Nat → Int32) (hr : r_RM_read th si ru nx so pa bz tA tX xF xT xB xL wF wT tB)  : v_RM_read th si ru nx so pa bz tA tX xF xT xB xL wF wT tB (p_RM_read th si ru nx so pa bz tA tX xF xT xB xL wF wT tB) := by
  obtain ⟨h1, h2⟩ := hr
  unfold v_RM_read
  refine fun t1 t2 hq => ⟨h1, fun r c y1 y2 y3 y4 n s p w1 w2 hq2 => ?_⟩
  obtain ⟨q1, q2, q3⟩ := hq2
  have hl := sp_ld_len (t := t1) (n := si) (si + 1)
  have hb : c ≤ si + 1 := by rw [q2]; exact hl
  have e1 := (hq.2 rfl).1
  have e2 := (hq.2 rfl).2
  refine ⟨by omega, fun h => ⟨rfl, t1, e1, fun _ => ⟨rfl, rfl, rfl, rfl, q2, q3 (by omega)⟩, fun h' => ?_⟩, fun h t3 t4 hq3 => ⟨h2, fun r' c' y1' y2' y3' y4' n' s' p' w1' w2' hq4 => ?_⟩⟩
  · rw [← q2] at h'
    omega
  · obtain ⟨g1, g2, g3⟩ := hq4
    refine ⟨rfl, t1, e1, fun h' => ?_, fun _ => ⟨rfl, rfl, rfl, fun k hk => ?_, g2, g3⟩⟩
    · rw [← q2] at h'
      omega
    · rw [(hq3.1 rfl).1 k hk, e2 k hk]

def r_RM_path (th : Nat) (si : Nat) (na : Nat) (tA : Nat → Int32) (tP : Nat → Int32) (yF : Nat → Nat) (yT : Nat → Nat) : Prop := si ≤ 1000
def q_RM_path (th : Nat) (si : Nat) (na : Nat) (tA : Nat → Int32) (tP : Nat → Int32) (yF : Nat → Nat) (yT : Nat → Nat) (r : Int32) (th' : Nat) (si' : Nat) (na' : Nat) (tP' : Nat → Int32) (yF' : Nat → Nat) (yT' : Nat → Nat) : Prop := th' = 0 ∧ (sp_pok tA si = false → r = -1 ∧ si' = si ∧ na' = 0) ∧ (sp_pok tA si = true → r = nI na' ∧ si' = 0 ∧ sp_parts tA 0 si na' yF' yT' ∧ ∀ k, k < si → tP' k = tA k)
def p_RM_path (th : Nat) (si : Nat) (na : Nat) (tA : Nat → Int32) (tP : Nat → Int32) (yF : Nat → Nat) (yT : Nat → Nat) (r : Int32) (th' : Nat) (si' : Nat) (na' : Nat) (tP' : Nat → Int32) (yF' : Nat → Nat) (yT' : Nat → Nat) : Prop := q_RM_path th si na tA tP yF yT r th' si' na' tP' yF' yT'
def v_RM_path_50 (th : Nat) (si : Nat) (na : Nat) (tA : Nat → Int32) (tP : Nat → Int32) (yF : Nat → Nat) (yT : Nat → Nat) (K23 : Nat → Nat → Nat → Nat → Nat → (Nat → Int32) → (Nat → Nat) → (Nat → Nat) → Prop) (K92 : Nat → Nat → Nat → Nat → (Nat → Int32) → (Nat → Nat) → (Nat → Nat) → Prop) (Q : Int32 → Nat → Nat → Nat → (Nat → Int32) → (Nat → Nat) → (Nat → Nat) → Prop) (g : Nat) (b : Nat) (thc : Nat) (sic : Nat) (nac : Nat) (tPc : Nat → Int32) (yFc : Nat → Nat) (yTc : Nat → Nat) : Prop := (nac < 20) ∧ ((nac < 20) ∧ (K23 (b + 1) (b + 1) thc sic (nac + 1) tPc (updN yFc nac g) (updN yTc nac b)))
def v_RM_path_23 (th : Nat) (si : Nat) (na : Nat) (tA : Nat → Int32) (tP : Nat → Int32) (yF : Nat → Nat) (yT : Nat → Nat) (K23 : Nat → Nat → Nat → Nat → Nat → (Nat → Int32) → (Nat → Nat) → (Nat → Nat) → Prop) (K92 : Nat → Nat → Nat → Nat → (Nat → Int32) → (Nat → Nat) → (Nat → Nat) → Prop) (Q : Int32 → Nat → Nat → Nat → (Nat → Int32) → (Nat → Nat) → (Nat → Nat) → Prop) (g : Nat) (b : Nat) (thc : Nat) (sic : Nat) (nac : Nat) (tPc : Nat → Int32) (yFc : Nat → Nat) (yTc : Nat → Nat) : Prop := (b < 2147483648) ∧ ((sic < 2147483648) ∧ ((sic < b → K92 0 thc sic nac tPc yFc yTc) ∧ (¬ sic < b → (b < 2147483648) ∧ ((sic < 2147483648) ∧ ((b = sic → v_RM_path_50 th si na tA tP yF yT K23 K92 Q g b thc sic nac tPc yFc yTc) ∧ (¬ b = sic → (b < 1000) ∧ ((¬ (tA b) = 47 → K23 g (b + 1) thc sic nac tPc yFc yTc) ∧ ((tA b) = 47 → v_RM_path_50 th si na tA tP yF yT K23 K92 Q g b thc sic nac tPc yFc yTc))))))))
def v_RM_path_92 (th : Nat) (si : Nat) (na : Nat) (tA : Nat → Int32) (tP : Nat → Int32) (yF : Nat → Nat) (yT : Nat → Nat) (K23 : Nat → Nat → Nat → Nat → Nat → (Nat → Int32) → (Nat → Nat) → (Nat → Nat) → Prop) (K92 : Nat → Nat → Nat → Nat → (Nat → Int32) → (Nat → Nat) → (Nat → Nat) → Prop) (Q : Int32 → Nat → Nat → Nat → (Nat → Int32) → (Nat → Nat) → (Nat → Nat) → Prop) (b : Nat) (thc : Nat) (sic : Nat) (nac : Nat) (tPc : Nat → Int32) (yFc : Nat → Nat) (yTc : Nat → Nat) : Prop := (b < 2147483648) ∧ ((sic < 2147483648) ∧ ((sic ≤ b → Q (nI nac) thc 0 nac tPc yFc yTc) ∧ (¬ sic ≤ b → (b < 1000) ∧ ((b < 120) ∧ (K92 (b + 1) thc sic nac (upd tPc b (tA b)) yFc yTc)))))
def v_RM_path (th : Nat) (si : Nat) (na : Nat) (tA : Nat → Int32) (tP : Nat → Int32) (yF : Nat → Nat) (yT : Nat → Nat) (K23 : Nat → Nat → Nat → Nat → Nat → (Nat → Int32) → (Nat → Nat) → (Nat → Nat) → Prop) (K92 : Nat → Nat → Nat → Nat → (Nat → Int32) → (Nat → Nat) → (Nat → Nat) → Prop) (Q : Int32 → Nat → Nat → Nat → (Nat → Int32) → (Nat → Nat) → (Nat → Nat) → Prop) : Prop := (r_RM_isPath si tA) ∧ ((sp_pok tA si = true → K23 0 0 0 si 0 tP yF yT) ∧ (sp_pok tA si = false → Q (-1) 0 si 0 tP yF yT))
theorem t_RM_path (th : Nat) (si : Nat) (na : Nat) (tA : Nat → Int32) (tP : Nat → Int32) (yF : Nat → Nat) (yT : Nat → Nat) (hr : r_RM_path th si na tA tP yF yT) (K23 : Nat → Nat → Nat → Nat → Nat → (Nat → Int32) → (Nat → Nat) → (Nat → Nat) → Prop) (K92 : Nat → Nat → Nat → Nat → (Nat → Int32) → (Nat → Nat) → (Nat → Nat) → Prop) (k23 : ∀ g b thc sic nac tPc yFc yTc, v_RM_path_23 th si na tA tP yF yT K23 K92 (p_RM_path th si na tA tP yF yT) g b thc sic nac tPc yFc yTc → K23 g b thc sic nac tPc yFc yTc) (k92 : ∀ b thc sic nac tPc yFc yTc, v_RM_path_92 th si na tA tP yF yT K23 K92 (p_RM_path th si na tA tP yF yT) b thc sic nac tPc yFc yTc → K92 b thc sic nac tPc yFc yTc) : v_RM_path th si na tA tP yF yT K23 K92 (p_RM_path th si na tA tP yF yT) := by
  have h1 : si ≤ 1000 := hr
  unfold v_RM_path
  refine ⟨h1, fun hp => ?_, fun hp => ⟨rfl, fun _ => ⟨rfl, rfl, rfl⟩, fun q => by rw [hp] at q; cases q⟩⟩
  have hok := hp
  rw [sp_pok, Bool.and_eq_true, Bool.and_eq_true, decide_eq_true_eq, decide_eq_true_eq] at hok
  obtain ⟨⟨a1, a2⟩, -, a3⟩ := hok
  have copy : ∀ c F T, sp_parts tA 0 si c F T → ∀ d b P, si - b ≤ d → b ≤ si → (∀ k, k < b → P k = tA k) → K92 b 0 si c P F T := by
    intro c F T hpt d
    have fin : ∀ b P, b = si → (∀ k, k < b → P k = tA k) → K92 b 0 si c P F T := by
      intro b P hb hP
      refine k92 _ _ _ _ _ _ _ ?_
      unfold v_RM_path_92
      refine ⟨by omega, by omega, fun _ => ⟨rfl, fun q => ?_, fun _ => ⟨rfl, rfl, hpt, fun k hk => hP k (by omega)⟩⟩, fun h => by omega⟩
      rw [hp] at q; cases q
    induction d with
    | zero => intro b P hd hb hP; exact fin b P (by omega) hP
    | succ d ih =>
      intro b P hd hb hP
      by_cases hbs : b = si
      · exact fin b P hbs hP
      · refine k92 _ _ _ _ _ _ _ ?_
        unfold v_RM_path_92
        refine ⟨by omega, by omega, fun h => by omega, fun _ => ⟨by omega, by omega, ih _ _ (by omega) (by omega) (fun k hk => ?_)⟩⟩
        by_cases hkb : k = b
        · rw [hkb]; exact pk_us
        · rw [pk_un hkb]; exact hP k (by omega)
  have key : ∀ d g b c F T, si + 1 - b ≤ d → ((b ≤ si ∧ g ≤ b ∧ sp_eon tA si b = sp_eon tA si g ∧ c + sp_cnt tA si b = sp_cnt tA si 0 ∧ (c = 0 → g = 0) ∧ (0 < c → F 0 = 0 ∧ g = T (c - 1) + 1) ∧ (∀ p, p < c → F p ≤ si ∧ T p = sp_eon tA si (F p) ∧ T p < si) ∧ (∀ p, p + 1 < c → F (p + 1) = T p + 1)) ∨ (b = si + 1 ∧ sp_parts tA 0 si c F T)) → K23 g b 0 si c tP F T := by
    intro d
    have fin : ∀ g b c F T, b = si + 1 → sp_parts tA 0 si c F T → K23 g b 0 si c tP F T := by
      intro g b c F T hb hpt
      refine k23 _ _ _ _ _ _ _ _ ?_
      unfold v_RM_path_23
      exact ⟨by omega, by omega, fun _ => copy c F T hpt si 0 tP (by omega) (Nat.zero_le _) (fun k hk => absurd hk (Nat.not_lt_zero _)), fun h => by omega⟩
    induction d with
    | zero =>
      intro g b c F T hd hI
      rcases hI with ⟨q1, -⟩ | ⟨q1, q2⟩
      · omega
      · exact fin g b c F T q1 q2
    | succ d ih =>
      intro g b c F T hd hI
      rcases hI with ⟨q1, q3, q5, q6, q7, q8, q9, q10⟩ | ⟨q1, q2⟩
      · have at' : (b = si ∨ tA b = 47) → v_RM_path_50 th si na tA tP yF yT K23 K92 (p_RM_path th si na tA tP yF yT) g b 0 si c tP F T := by
          intro hs
          have eg : sp_eon tA si g = b := by rw [← q5]; exact sp_eon_at hs
          unfold v_RM_path_50
          refine ⟨by omega, by omega, ih _ _ _ _ _ (by omega) ?_⟩
          have u0 : updN F c g 0 = 0 := by
            by_cases hc : c = 0
            · rw [hc, updN_s]; exact q7 hc
            · rw [updN_n (by omega)]; exact (q8 (by omega)).1
          have u1 : ∀ p, p < c + 1 → updN F c g p ≤ si ∧ updN T c b p = sp_eon tA si (updN F c g p) := by
            intro p hp
            by_cases hpc : p = c
            · subst hpc
              rw [updN_s, updN_s]
              exact ⟨by omega, eg.symm⟩
            · rw [updN_n hpc, updN_n hpc]
              have := q9 p (by omega)
              exact ⟨this.1, this.2.1⟩
          have u2 : ∀ p, p + 1 < c + 1 → updN F c g (p + 1) = updN T c b p + 1 ∧ updN T c b p < si := by
            intro p hp
            rw [updN_n (by omega : p ≠ c)]
            refine ⟨?_, (q9 p (by omega)).2.2⟩
            by_cases hpc : p + 1 = c
            · rw [hpc, updN_s, (q8 (by omega)).2, ← hpc, Nat.add_sub_cancel]
            · rw [updN_n hpc]; exact q10 p (by omega)
          by_cases hba : b < si
          · have h47 := hs.resolve_left (by omega)
            rw [sp_cnt_at hba h47] at q6
            refine Or.inl ⟨by omega, Nat.le_refl _, rfl, by omega, fun h => by omega, fun _ => ⟨u0, ?_⟩, fun p hp => ?_, fun p hp => (u2 p hp).1⟩
            · rw [Nat.add_sub_cancel, updN_s]
            · refine ⟨(u1 p hp).1, (u1 p hp).2, ?_⟩
              by_cases hpc : p = c
              · rw [hpc, updN_s]; exact hba
              · rw [updN_n hpc]; exact (q9 p (by omega)).2.2
          · rw [sp_cnt_e (by omega)] at q6
            refine Or.inr ⟨by omega, by omega, u0, u1, u2, ?_, by omega⟩
            rw [Nat.add_sub_cancel, updN_s]
            omega
        refine k23 _ _ _ _ _ _ _ _ ?_
        unfold v_RM_path_23
        refine ⟨by omega, by omega, fun h => by omega, fun _ => ⟨by omega, by omega, fun h => at' (Or.inl h), fun h => ⟨by omega, fun h47 => ?_, fun h47 => at' (Or.inr h47)⟩⟩⟩
        exact ih _ _ _ _ _ (by omega) (Or.inl ⟨by omega, by omega, by rw [← sp_eon_no (by omega) h47]; exact q5, by rw [← sp_cnt_no (by omega) h47]; exact q6, q7, q8, q9, q10⟩)
      · exact fin g b c F T q1 q2
  exact key (si + 1) 0 0 0 yF yT (by omega) (Or.inl ⟨Nat.zero_le _, Nat.le_refl _, rfl, by omega, fun _ => rfl, fun h => absurd h (Nat.lt_irrefl 0), fun p hp => absurd hp (Nat.not_lt_zero _), fun p hp => absurd hp (Nat.not_lt_zero _)⟩)

def r_RM_decide (ru : Nat) (na : Nat) (nx : Nat) (so : Nat) (pa : Nat) (de : Int32) (dp : Nat) (io : Bool) (tX : Nat → Int32) (xF : Nat → Nat) (xT : Nat → Nat) (xB : Nat → Nat) (tP : Nat → Int32) (yF : Nat → Nat) (yT : Nat → Nat) (zR : Nat → Bool) (zF : Nat → Bool) (wF : Nat → Nat) (wT : Nat → Nat) (zT : Nat → Bool) (d : Bool) : Prop := sp_rok2 tX xF xT xB ru ∧ 1 ≤ na ∧ na ≤ 20 ∧ (∀ j, j < na → yF j ≤ yT j ∧ yT j ≤ 120)
def q_RM_decide (ru : Nat) (na : Nat) (nx : Nat) (so : Nat) (pa : Nat) (de : Int32) (dp : Nat) (io : Bool) (tX : Nat → Int32) (xF : Nat → Nat) (xT : Nat → Nat) (xB : Nat → Nat) (tP : Nat → Int32) (yF : Nat → Nat) (yT : Nat → Nat) (zR : Nat → Bool) (zF : Nat → Bool) (wF : Nat → Nat) (wT : Nat → Nat) (zT : Nat → Bool) (d : Bool) (nx' : Nat) (so' : Nat) (zR' : Nat → Bool) (zF' : Nat → Bool) (zT' : Nat → Bool) (pa' : Nat) (wF' : Nat → Nat) (wT' : Nat → Nat) (de' : Int32) (dp' : Nat) (io' : Bool) : Prop := dp' = sp_dd (fun m => sp_lo xB (sp_lrg tX xF xT xB tP yF yT ru m true)) na 1 ∧ de' = sp_lrg tX xF xT xB tP yF yT ru dp' (decide (dp' < na) || d) ∧ io' = sp_lo xB de'
def p_RM_decide (ru : Nat) (na : Nat) (nx : Nat) (so : Nat) (pa : Nat) (de : Int32) (dp : Nat) (io : Bool) (tX : Nat → Int32) (xF : Nat → Nat) (xT : Nat → Nat) (xB : Nat → Nat) (tP : Nat → Int32) (yF : Nat → Nat) (yT : Nat → Nat) (zR : Nat → Bool) (zF : Nat → Bool) (wF : Nat → Nat) (wT : Nat → Nat) (zT : Nat → Bool) (d : Bool) (nx' : Nat) (so' : Nat) (zR' : Nat → Bool) (zF' : Nat → Bool) (zT' : Nat → Bool) (pa' : Nat) (wF' : Nat → Nat) (wT' : Nat → Nat) (de' : Int32) (dp' : Nat) (io' : Bool) : Prop := q_RM_decide ru na nx so pa de dp io tX xF xT xB tP yF yT zR zF wF wT zT d nx' so' zR' zF' zT' pa' wF' wT' de' dp' io'
def v_RM_decide_80 (ru : Nat) (na : Nat) (nx : Nat) (so : Nat) (pa : Nat) (de : Int32) (dp : Nat) (io : Bool) (tX : Nat → Int32) (xF : Nat → Nat) (xT : Nat → Nat) (xB : Nat → Nat) (tP : Nat → Int32) (yF : Nat → Nat) (yT : Nat → Nat) (zR : Nat → Bool) (zF : Nat → Bool) (wF : Nat → Nat) (wT : Nat → Nat) (zT : Nat → Bool) (d : Bool) (K7 : Nat → Nat → Nat → Nat → Int32 → Nat → Bool → (Nat → Bool) → (Nat → Bool) → (Nat → Nat) → (Nat → Nat) → (Nat → Bool) → Prop) (Q : Nat → Nat → (Nat → Bool) → (Nat → Bool) → (Nat → Bool) → Nat → (Nat → Nat) → (Nat → Nat) → Int32 → Nat → Bool → Prop) (b : Nat) (s0 : Bool) (nxc : Nat) (soc : Nat) (pac : Nat) (dec : Int32) (dpc : Nat) (ioc : Bool) (zRc : Nat → Bool) (zFc : Nat → Bool) (wFc : Nat → Nat) (wTc : Nat → Nat) (zTc : Nat → Bool) : Prop := K7 (b + 1) nxc soc pac dec dpc s0 zRc zFc wFc wTc zTc
def v_RM_decide_79 (ru : Nat) (na : Nat) (nx : Nat) (so : Nat) (pa : Nat) (de : Int32) (dp : Nat) (io : Bool) (tX : Nat → Int32) (xF : Nat → Nat) (xT : Nat → Nat) (xB : Nat → Nat) (tP : Nat → Int32) (yF : Nat → Nat) (yT : Nat → Nat) (zR : Nat → Bool) (zF : Nat → Bool) (wF : Nat → Nat) (wT : Nat → Nat) (zT : Nat → Bool) (d : Bool) (K7 : Nat → Nat → Nat → Nat → Int32 → Nat → Bool → (Nat → Bool) → (Nat → Bool) → (Nat → Nat) → (Nat → Nat) → (Nat → Bool) → Prop) (Q : Nat → Nat → (Nat → Bool) → (Nat → Bool) → (Nat → Bool) → Nat → (Nat → Nat) → (Nat → Nat) → Int32 → Nat → Bool → Prop) (b : Nat) (nxc : Nat) (soc : Nat) (pac : Nat) (dec : Int32) (dpc : Nat) (ioc : Bool) (zRc : Nat → Bool) (zFc : Nat → Bool) (wFc : Nat → Nat) (wTc : Nat → Nat) (zTc : Nat → Bool) : Prop := v_RM_decide_80 ru na nx so pa de dp io tX xF xT xB tP yF yT zR zF wF wT zT d K7 Q b false nxc soc pac dec dpc ioc zRc zFc wFc wTc zTc
def v_RM_decide_47 (ru : Nat) (na : Nat) (nx : Nat) (so : Nat) (pa : Nat) (de : Int32) (dp : Nat) (io : Bool) (tX : Nat → Int32) (xF : Nat → Nat) (xT : Nat → Nat) (xB : Nat → Nat) (tP : Nat → Int32) (yF : Nat → Nat) (yT : Nat → Nat) (zR : Nat → Bool) (zF : Nat → Bool) (wF : Nat → Nat) (wT : Nat → Nat) (zT : Nat → Bool) (d : Bool) (K7 : Nat → Nat → Nat → Nat → Int32 → Nat → Bool → (Nat → Bool) → (Nat → Bool) → (Nat → Nat) → (Nat → Nat) → (Nat → Bool) → Prop) (Q : Nat → Nat → (Nat → Bool) → (Nat → Bool) → (Nat → Bool) → Nat → (Nat → Nat) → (Nat → Nat) → Int32 → Nat → Bool → Prop) (b : Nat) (s0 : Bool) (s1 : Nat) (nxc : Nat) (soc : Nat) (pac : Nat) (dec : Int32) (dpc : Nat) (ioc : Bool) (zRc : Nat → Bool) (zFc : Nat → Bool) (wFc : Nat → Nat) (wTc : Nat → Nat) (zTc : Nat → Bool) : Prop := (r_RM_last ru nxc soc pac tX xF xT xB tP yF yT zRc zFc wFc wTc zTc s1 s0) ∧ ((∀ (nx1 : Nat) (so2 : Nat) (zR3 : Nat → Bool) (zF4 : Nat → Bool) (zT5 : Nat → Bool) (pa6 : Nat) (wF7 : Nat → Nat) (wT8 : Nat → Nat), ((sp_lrg tX xF xT xB tP yF yT ru s1 s0) < 0 → v_RM_decide_79 ru na nx so pa de dp io tX xF xT xB tP yF yT zR zF wF wT zT d K7 Q b nx1 so2 pa6 (sp_lrg tX xF xT xB tP yF yT ru s1 s0) dpc ioc zR3 zF4 wF7 wT8 zT5) ∧ (¬ (sp_lrg tX xF xT xB tP yF yT ru s1 s0) < 0 → ∃ q9 : Nat, (sp_lrg tX xF xT xB tP yF yT ru s1 s0) = nI q9 ∧ ((q9 < 60) ∧ (((xB q9) &&& 1 < 2147483648) ∧ ((¬ (xB q9) &&& 1 = 0 → v_RM_decide_79 ru na nx so pa de dp io tX xF xT xB tP yF yT zR zF wF wT zT d K7 Q b nx1 so2 pa6 (nI q9) dpc ioc zR3 zF4 wF7 wT8 zT5) ∧ ((xB q9) &&& 1 = 0 → v_RM_decide_80 ru na nx so pa de dp io tX xF xT xB tP yF yT zR zF wF wT zT d K7 Q b true nx1 so2 pa6 (nI q9) dpc ioc zR3 zF4 wF7 wT8 zT5)))))))
def v_RM_decide_42 (ru : Nat) (na : Nat) (nx : Nat) (so : Nat) (pa : Nat) (de : Int32) (dp : Nat) (io : Bool) (tX : Nat → Int32) (xF : Nat → Nat) (xT : Nat → Nat) (xB : Nat → Nat) (tP : Nat → Int32) (yF : Nat → Nat) (yT : Nat → Nat) (zR : Nat → Bool) (zF : Nat → Bool) (wF : Nat → Nat) (wT : Nat → Nat) (zT : Nat → Bool) (d : Bool) (K7 : Nat → Nat → Nat → Nat → Int32 → Nat → Bool → (Nat → Bool) → (Nat → Bool) → (Nat → Nat) → (Nat → Nat) → (Nat → Bool) → Prop) (Q : Nat → Nat → (Nat → Bool) → (Nat → Bool) → (Nat → Bool) → Nat → (Nat → Nat) → (Nat → Nat) → Int32 → Nat → Bool → Prop) (b : Nat) (s0 : Nat) (nxc : Nat) (soc : Nat) (pac : Nat) (dec : Int32) (dpc : Nat) (ioc : Bool) (zRc : Nat → Bool) (zFc : Nat → Bool) (wFc : Nat → Nat) (wTc : Nat → Nat) (zTc : Nat → Bool) : Prop := v_RM_decide_47 ru na nx so pa de dp io tX xF xT xB tP yF yT zR zF wF wT zT d K7 Q b true s0 nxc soc pac dec dpc ioc zRc zFc wFc wTc zTc
def v_RM_decide_7 (ru : Nat) (na : Nat) (nx : Nat) (so : Nat) (pa : Nat) (de : Int32) (dp : Nat) (io : Bool) (tX : Nat → Int32) (xF : Nat → Nat) (xT : Nat → Nat) (xB : Nat → Nat) (tP : Nat → Int32) (yF : Nat → Nat) (yT : Nat → Nat) (zR : Nat → Bool) (zF : Nat → Bool) (wF : Nat → Nat) (wT : Nat → Nat) (zT : Nat → Bool) (d : Bool) (K7 : Nat → Nat → Nat → Nat → Int32 → Nat → Bool → (Nat → Bool) → (Nat → Bool) → (Nat → Nat) → (Nat → Nat) → (Nat → Bool) → Prop) (Q : Nat → Nat → (Nat → Bool) → (Nat → Bool) → (Nat → Bool) → Nat → (Nat → Nat) → (Nat → Nat) → Int32 → Nat → Bool → Prop) (b : Nat) (nxc : Nat) (soc : Nat) (pac : Nat) (dec : Int32) (dpc : Nat) (ioc : Bool) (zRc : Nat → Bool) (zFc : Nat → Bool) (wFc : Nat → Nat) (wTc : Nat → Nat) (zTc : Nat → Bool) : Prop := (b < 2147483648) ∧ ((na < 2147483648) ∧ ((na < b → Q nxc soc zRc zFc zTc pac wFc wTc dec dpc ioc) ∧ (¬ na < b → (ioc = true → Q nxc soc zRc zFc zTc pac wFc wTc dec dpc ioc) ∧ (ioc = false → (b < 2147483648) ∧ ((na < 2147483648) ∧ ((b < na → v_RM_decide_42 ru na nx so pa de dp io tX xF xT xB tP yF yT zR zF wF wT zT d K7 Q b b nxc soc pac dec b ioc zRc zFc wFc wTc zTc) ∧ (¬ b < na → (d = false → v_RM_decide_47 ru na nx so pa de dp io tX xF xT xB tP yF yT zR zF wF wT zT d K7 Q b false b nxc soc pac dec b ioc zRc zFc wFc wTc zTc) ∧ (d = true → v_RM_decide_42 ru na nx so pa de dp io tX xF xT xB tP yF yT zR zF wF wT zT d K7 Q b b nxc soc pac dec b ioc zRc zFc wFc wTc zTc))))))))
def v_RM_decide (ru : Nat) (na : Nat) (nx : Nat) (so : Nat) (pa : Nat) (de : Int32) (dp : Nat) (io : Bool) (tX : Nat → Int32) (xF : Nat → Nat) (xT : Nat → Nat) (xB : Nat → Nat) (tP : Nat → Int32) (yF : Nat → Nat) (yT : Nat → Nat) (zR : Nat → Bool) (zF : Nat → Bool) (wF : Nat → Nat) (wT : Nat → Nat) (zT : Nat → Bool) (d : Bool) (K7 : Nat → Nat → Nat → Nat → Int32 → Nat → Bool → (Nat → Bool) → (Nat → Bool) → (Nat → Nat) → (Nat → Nat) → (Nat → Bool) → Prop) (Q : Nat → Nat → (Nat → Bool) → (Nat → Bool) → (Nat → Bool) → Nat → (Nat → Nat) → (Nat → Nat) → Int32 → Nat → Bool → Prop) : Prop := K7 1 nx so pa de dp false zR zF wF wT zT
theorem t_RM_decide (ru : Nat) (na : Nat) (nx : Nat) (so : Nat) (pa : Nat) (de : Int32) (dp : Nat) (io : Bool) (tX : Nat → Int32) (xF : Nat → Nat) (xT : Nat → Nat) (xB : Nat → Nat) (tP : Nat → Int32) (yF : Nat → Nat) (yT : Nat → Nat) (zR : Nat → Bool) (zF : Nat → Bool) (wF : Nat → Nat) (wT : Nat → Nat) (zT : Nat → Bool) (d : Bool) (hr : r_RM_decide ru na nx so pa de dp io tX xF xT xB tP yF yT zR zF wF wT zT d) (K7 : Nat → Nat → Nat → Nat → Int32 → Nat → Bool → (Nat → Bool) → (Nat → Bool) → (Nat → Nat) → (Nat → Nat) → (Nat → Bool) → Prop) (k7 : ∀ b nxc soc pac dec dpc ioc zRc zFc wFc wTc zTc, v_RM_decide_7 ru na nx so pa de dp io tX xF xT xB tP yF yT zR zF wF wT zT d K7 (p_RM_decide ru na nx so pa de dp io tX xF xT xB tP yF yT zR zF wF wT zT d) b nxc soc pac dec dpc ioc zRc zFc wFc wTc zTc → K7 b nxc soc pac dec dpc ioc zRc zFc wFc wTc zTc) : v_RM_decide ru na nx so pa de dp io tX xF xT xB tP yF yT zR zF wF wT zT d K7 (p_RM_decide ru na nx so pa de dp io tX xF xT xB tP yF yT zR zF wF wT zT d) := by
  obtain ⟨h1, h2, h3, h4⟩ := hr
  obtain ⟨L, hL⟩ : ∃ L : Nat → Bool → Int32, L = fun m d => sp_lrg tX xF xT xB tP yF yT ru m d := ⟨_, rfl⟩
  have eL : ∀ m d, sp_lrg tX xF xT xB tP yF yT ru m d = L m d := by intro m d; rw [hL]
  have fin : ∀ D a1 a2 a3 a4 a5 a6 a7 a8 de' io', 1 ≤ D → D ≤ na → (∀ k, 1 ≤ k → k < D → sp_lo xB (L k true) = false) → (D < na → sp_lo xB (L D true) = true) → de' = L D (decide (D < na) || d) → io' = sp_lo xB de' → p_RM_decide ru na nx so pa de dp io tX xF xT xB tP yF yT zR zF wF wT zT d a1 a2 a3 a4 a5 a6 a7 a8 de' D io' := by
    intro D a1 a2 a3 a4 a5 a6 a7 a8 de' io' g1 g2 g3 g4 g5 g6
    refine ⟨?_, by rw [eL]; exact g5, g6⟩
    refine (sp_dd_is g2 (fun h => by rw [eL]; exact g4 h) D 1 (by omega) g1 (fun k k1 k2 => by rw [eL]; exact g3 k k1 k2)).symm
  have key : ∀ m b a1 a2 a3 dec dpc ioc a4 a5 a6 a7 a8, na + 1 - b ≤ m → 1 ≤ b → b ≤ na + 1 → (∀ k, 1 ≤ k → k + 1 < b → sp_lo xB (L k true) = false) → (b = 1 → ioc = false) → (1 < b → dpc = b - 1 ∧ dec = L (b - 1) (decide (b - 1 < na) || d) ∧ ioc = sp_lo xB dec) → K7 b a1 a2 a3 dec dpc ioc a4 a5 a6 a7 a8 := by
    intro m
    have stop : ∀ b a1 a2 a3 dec dpc ioc a4 a5 a6 a7 a8, 1 < b → b ≤ na + 1 → (ioc = true ∨ b = na + 1) → (∀ k, 1 ≤ k → k + 1 < b → sp_lo xB (L k true) = false) → (1 < b → dpc = b - 1 ∧ dec = L (b - 1) (decide (b - 1 < na) || d) ∧ ioc = sp_lo xB dec) → p_RM_decide ru na nx so pa de dp io tX xF xT xB tP yF yT zR zF wF wT zT d a1 a2 a4 a5 a8 a3 a6 a7 dec dpc ioc := by
      intro b a1 a2 a3 dec dpc ioc a4 a5 a6 a7 a8 g0 g1 g2 g3 g4
      obtain ⟨r1, r2, r3⟩ := g4 g0
      rw [r1]
      refine fin (b - 1) _ _ _ _ _ _ _ _ _ _ (by omega) (by omega) (fun k k1 k2 => g3 k k1 (by omega)) (fun h => ?_) r2 r3
      rcases g2 with g2 | g2
      · rw [decide_eq_true h, Bool.true_or] at r2
        rw [← r2, ← r3]; exact g2
      · omega
    induction m with
    | zero =>
      intro b a1 a2 a3 dec dpc ioc a4 a5 a6 a7 a8 hm hb1 hb g1 g2 g3
      refine k7 _ _ _ _ _ _ _ _ _ _ _ _ ?_
      unfold v_RM_decide_7
      exact ⟨by omega, by omega, fun _ => stop b a1 a2 a3 dec dpc ioc a4 a5 a6 a7 a8 (by omega) hb (Or.inr (by omega)) g1 g3, fun h => by omega⟩
    | succ m ih =>
      intro b a1 a2 a3 dec dpc ioc a4 a5 a6 a7 a8 hm hb1 hb g1 g2 g3
      have s47 : ioc = false → b ≤ na → ∀ s0, s0 = (decide (b < na) || d) → v_RM_decide_47 ru na nx so pa de dp io tX xF xT xB tP yF yT zR zF wF wT zT d K7 (p_RM_decide ru na nx so pa de dp io tX xF xT xB tP yF yT zR zF wF wT zT d) b s0 b a1 a2 a3 dec b ioc a4 a5 a6 a7 a8 := by
        intro hio hbn s0 hs0
        have g1' : ∀ k, 1 ≤ k → k + 1 < b + 1 → sp_lo xB (L k true) = false := by
          intro k k1 k2
          by_cases hkb : k + 1 = b
          · obtain ⟨r1, r2, r3⟩ := g3 (by omega)
            rw [show b - 1 = k by omega, decide_eq_true (by omega), Bool.true_or] at r2
            rw [← r2, ← r3]; exact hio
          · exact g1 k k1 (by omega)
        have nx' : ∀ de2 io2 c1 c2 c3 c4 c5 c6 c7 c8, de2 = L b s0 → io2 = sp_lo xB de2 → K7 (b + 1) c1 c2 c3 de2 b io2 c4 c5 c6 c7 c8 := by
          intro de2 io2 c1 c2 c3 c4 c5 c6 c7 c8 e1 e2
          refine ih _ _ _ _ _ _ _ _ _ _ _ _ (by omega) (by omega) (by omega) g1' (fun h => by omega) (fun _ => ⟨by omega, ?_, e2⟩)
          rw [Nat.add_sub_cancel, ← hs0]; exact e1
        unfold v_RM_decide_47 v_RM_decide_79 v_RM_decide_80
        refine ⟨⟨h1, hb1, by omega, fun j hj => h4 j (by omega)⟩, fun c1 c2 c3 c4 c5 c6 c7 c8 => ?_⟩
        simp only [eL]
        have hin := sp_lastf_in (fun k => sp_rg tX tP yF yT (xF k) (xT k) (xB k) b s0) ru
        have hL2 : sp_lastf (fun k => sp_rg tX tP yF yT (xF k) (xT k) (xB k) b s0) ru = L b s0 := by rw [← eL]; rfl
        rw [hL2] at hin
        rcases hin with hin | ⟨q, q1, q2⟩
        · refine ⟨fun _ => nx' _ _ _ _ _ _ _ _ _ _ rfl ?_, fun h => ?_⟩
          · rw [hin, sp_lo, if_pos rfl]
          · rw [hin] at h
            exact absurd (by decide) h
        · have hru := h1.1
          have b1 := sp_bit1 (xB q) (h1.2 q q1).2.2.2
          have hn : ¬ L b s0 = -1 := by rw [q2]; exact ig_m1 (by omega)
          have hc : (L b s0).toNatClampNeg = q := by rw [q2]; exact ig_cl (by omega)
          refine ⟨fun h => ?_, fun _ => ⟨q, q2, by omega, by omega, fun h => nx' _ _ _ _ _ _ _ _ _ _ q2.symm ?_, fun h => nx' _ _ _ _ _ _ _ _ _ _ q2.symm ?_⟩⟩
          · rw [q2] at h
            exact absurd h (nI_pos (by omega))
          · rw [← q2, sp_lo, if_neg hn, hc, decide_eq_false h]
          · rw [← q2, sp_lo, if_neg hn, hc, decide_eq_true h]
      refine k7 _ _ _ _ _ _ _ _ _ _ _ _ ?_
      unfold v_RM_decide_7 v_RM_decide_42
      refine ⟨by omega, by omega, fun h => stop b a1 a2 a3 dec dpc ioc a4 a5 a6 a7 a8 (by omega) hb (Or.inr (by omega)) g1 g3, fun h => ⟨fun hio => ?_, fun hio => ⟨by omega, by omega, fun hbn => s47 hio (by omega) true ?_, fun hbn => ⟨fun hd => s47 hio (by omega) false ?_, fun hd => s47 hio (by omega) true ?_⟩⟩⟩⟩
      · have hb2 : 1 < b := by
          by_cases hb2 : b = 1
          · rw [g2 hb2] at hio; cases hio
          · omega
        exact stop b a1 a2 a3 dec dpc ioc a4 a5 a6 a7 a8 hb2 hb (Or.inl hio) g1 g3
      · rw [decide_eq_true hbn]; rfl
      · rw [decide_eq_false hbn, hd]; rfl
      · rw [hd]; simp
  exact key na 1 nx so pa de dp false zR zF wF wT zT (by omega) (Nat.le_refl _) (by omega) (fun k k1 k2 => by omega) (fun _ => rfl) (fun h => absurd h (Nat.lt_irrefl 1))

