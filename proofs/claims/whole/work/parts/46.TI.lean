/-! the two sides against each other: what is computed depends on the stretch alone; the rules of a text; the path; between the calls -/
theorem sp_fit_c {t u : Nat → Int32} {e : Nat} {P Q : Nat → Int32} {n : Nat} (h : ∀ j, j < e → t j = u j) (hP : ∀ i, i < n → P i = Q i) (k i : Nat) : sp_fit t e P n k i = sp_fit u e Q n k i := by
  rw [sp_fit.eq_1 t, sp_fit.eq_1 u]
  by_cases hk : k < e
  · have hg := sp_end_gt (t := t) hk
    rw [dif_pos hk, dif_pos hk, ← sp_end_c h hk, ← h k hk]
    by_cases he : sp_end t e k ≤ e
    · rw [if_pos he, if_pos he]
      by_cases hs : t k = 42
      · rw [if_pos hs, if_pos hs, sp_fit_c h hP (sp_end t e k) i]
        by_cases hi : i < n
        · rw [if_pos hi, if_pos hi, sp_fit_c h hP k (i + 1)]
        · rw [if_neg hi, if_neg hi]
      · rw [if_neg hs, if_neg hs]
        by_cases hi : i < n
        · rw [if_pos hi, if_pos hi, hP i hi, sp_take_c h hk he, sp_fit_c h hP (sp_end t e k) (i + 1)]
        · rw [if_neg hi, if_neg hi]
    · rw [if_neg he, if_neg he]
  · rw [dif_neg hk, dif_neg hk]
termination_by (e - k, n - i)
decreasing_by
  all_goals simp_wf
  all_goals omega
theorem sp_deep_c {t u : Nat → Int32} {e k q : Nat} (h : ∀ j, j < e → t j = u j) (hq : q ≤ e) : sp_deep t k q = sp_deep u k q := by
  rw [sp_deep, sp_deep]
  by_cases hk : q = k + 2
  · rw [h k (by omega), h (k + 1) (by omega)]
  · simp [hk]
theorem sp_H_c {t u : Nat → Int32} {e n : Nat} {F G : Nat → Nat → Nat → Bool} (h : ∀ j, j < e → t j = u j) (hF : ∀ k q j, k ≤ q → q ≤ e → j < n → F k q j = G k q j) (k j : Nat) : sp_H t e n F k j = sp_H u e n G k j := by
  rw [sp_H.eq_1 t, sp_H.eq_1 u]
  by_cases hk : k ≤ e
  · have hg := sp_eon_ge t e k
    have hl := sp_eon_le (t := t) hk
    rw [dif_pos hk, dif_pos hk, ← sp_eon_c h k, ← sp_deep_c h hl]
    by_cases hd : sp_deep t k (sp_eon t e k) = true
    · rw [if_pos hd, if_pos hd]
      by_cases hq : sp_eon t e k = e
      · rw [dif_pos hq, dif_pos hq]
      · rw [dif_neg hq, dif_neg hq, sp_H_c h hF (sp_eon t e k + 1) j]
        by_cases hj : j < n
        · rw [dif_pos hj, dif_pos hj, sp_H_c h hF k (j + 1)]
        · rw [dif_neg hj, dif_neg hj]
    · rw [if_neg hd, if_neg hd]
      by_cases hj : j < n
      · rw [dif_pos hj, dif_pos hj, hF k _ j hg hl hj]
        by_cases hq : sp_eon t e k = e
        · rw [dif_pos hq, dif_pos hq]
        · rw [dif_neg hq, dif_neg hq, sp_H_c h hF (sp_eon t e k + 1) (j + 1)]
      · rw [dif_neg hj, dif_neg hj]
  · rw [dif_neg hk, dif_neg hk]
termination_by (e + 1 - k, n - j)
decreasing_by
  all_goals simp_wf
  all_goals omega
theorem sp_hv_c {t u : Nat → Int32} {e : Nat} (h : ∀ j, j < e → t j = u j) (k : Nat) (hk : k ≤ e) : sp_hv t e k = sp_hv u e k := by
  rw [sp_hv.eq_1 t, sp_hv.eq_1 u]
  have hg := sp_eon_ge t e k
  have hl := sp_eon_le (t := t) hk
  rw [← sp_eon_c h k, sp_void_c (t := t) (u := u) (fun j hj => h j (by omega)) k]
  by_cases hq : sp_eon t e k < e
  · rw [dif_pos hq, dif_pos hq, sp_hv_c h (sp_eon t e k + 1) hq]
  · rw [dif_neg hq, dif_neg hq]
termination_by e - k
decreasing_by omega
theorem sp_a1_c {t u : Nat → Int32} {b : Nat} (h : t b = u b) : sp_a1 t b = sp_a1 u b := by rw [sp_a1, sp_a1, h]
theorem sp_dir_c {t u : Nat → Int32} {b e : Nat} (h : ∀ j, j < e → t j = u j) (hb : b < e) : sp_dir t b e = sp_dir u b e := by
  rw [sp_dir, sp_dir, sp_a1_c (h b hb), h (e - 1) (by omega), sp_esc_c (t := t) (u := u) (fun j hj => h j (by omega))]
theorem sp_e1_c {t u : Nat → Int32} {b e : Nat} (h : ∀ j, j < e → t j = u j) (hb : b < e) : sp_e1 t b e = sp_e1 u b e := by
  rw [sp_e1, sp_e1, sp_dir_c h hb]
theorem sp_bnd_c {t u : Nat → Int32} {b e : Nat} (h : ∀ j, j < e → t j = u j) (hb : b < e) : sp_bnd t b e = sp_bnd u b e := by
  have h1 := (sp_e1_le (t := u) hb).2
  rw [sp_bnd, sp_bnd, sp_a1_c (h b hb), sp_e1_c h hb, sp_eon_c (t := t) (u := u) (fun j hj => h j (by omega))]
theorem sp_bnd_lt {t : Nat → Int32} {b e : Nat} (hb : b < e) (h : sp_bnd t b e = true) : sp_a1 t b < sp_e1 t b e := by
  rw [sp_bnd, decide_eq_true_eq] at h
  exact Nat.lt_of_le_of_lt (sp_eon_ge _ _ _) h
theorem sp_fr_c {t u : Nat → Int32} {b e : Nat} (h : ∀ j, j < e → t j = u j) (hb : b < e) : sp_fr t b e = sp_fr u b e := by
  rw [sp_fr, sp_fr, sp_bnd_c h hb, sp_a1_c (h b hb)]
  by_cases hc : sp_bnd u b e = true
  · have h1 := (sp_e1_le (t := u) hb).2
    have h2 := sp_bnd_lt hb hc
    rw [h (sp_a1 u b) (by omega)]
  · simp [hc]
theorem sp_bits_c {t u : Nat → Int32} {b e : Nat} (h : ∀ j, j < e → t j = u j) (hb : b < e) : sp_bits t b e = sp_bits u b e := by
  have h1 := (sp_e1_le (t := u) hb).2
  rw [sp_bits, sp_bits, h b hb, sp_dir_c h hb, sp_bnd_c h hb, sp_e1_c h hb, sp_fr_c h hb, sp_hv_c (t := t) (u := u) (fun j hj => h j (by omega)) _ (sp_fr_le hb)]
theorem sp_one_c {t u : Nat → Int32} {b k : Nat} (h : ∀ j, j < k → t j = u j) (hb : b ≤ k) (no : Nat) : sp_one t b k no = sp_one u b k no := by
  rw [sp_one, sp_one, sp_strip_c k h]
  have h1 := sp_strip_le u b k
  have h2 := sp_strip_ge (t := u) k hb
  by_cases hs : sp_strip u b k = b
  · simp [hs]
  · have hk : b < sp_strip u b k := by omega
    have h' : ∀ j, j < sp_strip u b k → t j = u j := fun j hj => h j (by omega)
    rw [h b (by omega), sp_fr_c h' hk, sp_e1_c h' hk, sp_bits_c h' hk]
theorem sp_ld_c {t u : Nat → Int32} {n : Nat} (h : ∀ j, j < n → t j = u j) : ∀ k, k ≤ n + 1 → sp_ld t n k = sp_ld u n k
  | 0, _ => rfl
  | k + 1, hk => by
    have ih := sp_ld_c h k (by omega)
    have hb := (sp_ld_b u n k).1
    have hc : (k = n ∨ t k = 10) ↔ (k = n ∨ u k = 10) := by
      by_cases hn : k = n
      · simp [hn]
      · rw [h k (by omega)]
    by_cases hs : k = n ∨ u k = 10
    · rw [sp_ld_at hs, sp_ld_at (hc.mpr hs), ih, sp_one_c (t := t) (u := u) (fun j hj => h j (by omega)) hb]
    · rw [sp_ld_no hs, sp_ld_no (fun q => hs (hc.mp q)), ih]
theorem sp_rules_c {t u : Nat → Int32} {n : Nat} (h : ∀ j, j < n → t j = u j) : sp_rules t n = sp_rules u n := by
  rw [sp_rules, sp_rules, sp_ld_c h _ (Nat.le_refl _)]
theorem sp_bits_lt (t : Nat → Int32) (b e : Nat) : sp_bits t b e < 16 := by
  rw [sp_bits]
  split <;> split <;> split <;> split <;> decide
theorem sp_bits_4 {t : Nat → Int32} {b e : Nat} (h : sp_bits t b e &&& 4 = 0) : sp_bnd t b e = false := by
  cases hb : sp_bnd t b e with
  | false => rfl
  | true =>
    exfalso
    rw [sp_bits, hb, if_pos (rfl : true = true)] at h
    revert h
    split <;> split <;> split <;> decide
/-- what holds of each rule of a text of n bytes -/
def sp_good (t : Nat → Int32) (n : Nat) (x : sp_R) : Prop := x.1 ≤ x.2.1 ∧ x.2.1 ≤ n ∧ x.2.2.1 < 16 ∧ (x.2.2.1 &&& 4 = 0 → sp_eon t x.2.1 x.1 = x.2.1) ∧ 1 + sp_cnt t x.2.1 x.1 ≤ n ∧ x.2.2.2 ≤ n + 1
theorem sp_one_g {t : Nat → Int32} {b k n no : Nat} (hb : b ≤ k) (hk : k ≤ n) (hno : no ≤ n + 1) : ∀ x, x ∈ sp_one t b k no → sp_good t n x := by
  intro x hx
  have h1 := sp_strip_le t b k
  have h2 := sp_strip_ge (t := t) k hb
  rw [sp_one] at hx
  by_cases hs : sp_strip t b k = b ∨ t b = 35
  · rw [if_pos hs] at hx
    cases hx
  · rw [if_neg hs] at hx
    have hx := List.mem_singleton.mp hx
    subst hx
    have hbe : b < sp_strip t b k := by
      have : ¬ sp_strip t b k = b := fun q => hs (Or.inl q)
      omega
    generalize sp_strip t b k = e at *
    have g1 := sp_e1_le (t := t) hbe
    have g2 := sp_fr_le (t := t) hbe
    have g3 := sp_eon_le (t := t) g1.1
    refine ⟨g2, ?_, sp_bits_lt t b e, fun q => ?_, ?_, hno⟩
    · show sp_e1 t b e ≤ n
      omega
    · have hn := sp_bits_4 q
      show sp_eon t (sp_e1 t b e) (sp_fr t b e) = sp_e1 t b e
      have e1 : sp_fr t b e = sp_a1 t b := by rw [sp_fr, hn]; simp
      rw [e1]
      rw [sp_bnd, decide_eq_false_iff_not] at hn
      omega
    · show 1 + sp_cnt t (sp_e1 t b e) (sp_fr t b e) ≤ n
      by_cases hn : sp_bnd t b e = true
      · have g4 : sp_a1 t b < sp_e1 t b e := by
          rw [sp_bnd, decide_eq_true_eq] at hn
          exact Nat.lt_of_le_of_lt (sp_eon_ge _ _ _) hn
        by_cases h47 : t (sp_a1 t b) = 47
        · rw [sp_fr, if_pos ⟨hn, h47⟩]
          have := sp_cnt_b (t := t) (e := sp_e1 t b e) _ (sp_a1 t b + 1) (Nat.le_refl _)
          omega
        · rw [sp_fr, if_neg (fun q => h47 q.2), sp_cnt_no g4 h47]
          have := sp_cnt_b (t := t) (e := sp_e1 t b e) _ (sp_a1 t b + 1) (Nat.le_refl _)
          omega
      · have e1 : sp_fr t b e = sp_a1 t b := by rw [sp_fr, if_neg (fun q => hn q.1)]
        rw [e1]
        have : ¬ 1 ≤ sp_cnt t (sp_e1 t b e) (sp_a1 t b) := fun q => by
          have := (sp_cnt_eon _ _ (Nat.le_refl _) q).1
          rw [sp_bnd, decide_eq_true_eq] at hn
          exact hn this
        omega
theorem sp_ld_g {t : Nat → Int32} {n : Nat} : ∀ k, k ≤ n + 1 → ∀ x, x ∈ (sp_ld t n k).2.2 → sp_good t n x
  | 0, _ => fun x hx => by cases hx
  | k + 1, hk => fun x hx => by
    have ih := sp_ld_g (t := t) (n := n) k (by omega)
    have hb := sp_ld_b t n k
    by_cases hs : k = n ∨ t k = 10
    · rw [sp_ld_at hs] at hx
      rcases List.mem_append.mp hx with q | q
      · exact ih x q
      · exact sp_one_g hb.1 (by omega) (by omega) x q
    · rw [sp_ld_no hs] at hx
      exact ih x hx
theorem sp_hold_g {t : Nat → Int32} {n : Nat} {xF xT xB xL : Nat → Nat} (h : sp_hold xF xT xB xL (sp_rules t n)) {i : Nat} (hi : i < (sp_rules t n).length) : sp_good t n (xF i, xT i, xB i, xL i) := by
  have h1 := h i _ (List.getElem?_eq_getElem hi)
  have h2 := sp_ld_g (t := t) (n := n) (n + 1) (Nat.le_refl _) _ (List.getElem_mem hi)
  rw [h1.1, h1.2.1, h1.2.2.1, h1.2.2.2]
  exact h2
theorem sp_hold_rok {t : Nat → Int32} {n c : Nat} {xF xT xB xL : Nat → Nat} (hn : n ≤ 1000) (hc : c = (sp_rules t n).length) (h60 : c ≤ 60) (h : sp_hold xF xT xB xL (sp_rules t n)) : sp_rok t xF xT xB c := by
  refine ⟨h60, fun i hi => ?_⟩
  obtain ⟨g1, g2, g3, g4, -, -⟩ := sp_hold_g h (hc ▸ hi)
  exact ⟨g1, Nat.le_trans g2 hn, g3, g4⟩
theorem sp_hold_rok2 {t : Nat → Int32} {n c : Nat} {xF xT xB xL : Nat → Nat} (hn : n ≤ 1000) (hc : c = (sp_rules t n).length) (h60 : c ≤ 60) (h : sp_hold xF xT xB xL (sp_rules t n)) : sp_rok2 t xF xT xB c := by
  refine ⟨h60, fun i hi => ?_⟩
  obtain ⟨g1, g2, g3, g4, g5, -⟩ := sp_hold_g h (hc ▸ hi)
  exact ⟨g1, Nat.le_trans g2 hn, Nat.le_trans g5 hn, g3⟩
theorem sp_hold_ln {t : Nat → Int32} {n c : Nat} {xF xT xB xL : Nat → Nat} (hn : n ≤ 1000) (hc : c = (sp_rules t n).length) (h : sp_hold xF xT xB xL (sp_rules t n)) : ∀ i, i < c → xL i < 2147483648 := by
  intro i hi
  obtain ⟨-, -, -, -, -, g6⟩ := sp_hold_g h (hc ▸ hi)
  have : xL i ≤ n + 1 := g6
  omega
/-- two holds of one list -/
theorem sp_hold_eq {l : List sp_R} {c : Nat} {xF xT xB xL yF yT yB yL : Nat → Nat} (hc : c = l.length) (h : sp_hold xF xT xB xL l) (h2 : sp_hold yF yT yB yL l) : ∀ i, i < c → xF i = yF i ∧ xT i = yT i ∧ xB i = yB i ∧ xL i = yL i := by
  intro i hi
  have a := h i _ (List.getElem?_eq_getElem (hc ▸ hi))
  have b := h2 i _ (List.getElem?_eq_getElem (hc ▸ hi))
  exact ⟨a.1.trans b.1.symm, a.2.1.trans b.2.1.symm, a.2.2.1.trans b.2.2.1.symm, a.2.2.2.trans b.2.2.2.symm⟩
theorem sp_rules_0 (t : Nat → Int32) : sp_rules t 0 = [] := by
  rw [sp_rules, sp_ld, if_pos (Or.inl rfl)]
  show [] ++ sp_one t 0 0 0 = []
  rw [sp_one, if_pos (Or.inl (show sp_strip t 0 0 = 0 from rfl))]
  rfl
theorem sp_eon_in {t : Nat → Int32} {e : Nat} : ∀ d k, e - k ≤ d → ∀ i, k ≤ i → i < sp_eon t e k → ¬ t i = 47 ∧ i < e := by
  intro d
  induction d with
  | zero =>
    intro k hd i h1 h2
    rw [sp_eon, if_neg (by omega)] at h2
    omega
  | succ d ih =>
    intro k hd i h1 h2
    by_cases hk : k < e
    · by_cases h47 : t k = 47
      · rw [sp_eon, if_pos hk, if_pos h47] at h2
        omega
      · by_cases hi : i = k
        · subst hi
          exact ⟨h47, hk⟩
        · rw [sp_eon_no hk h47] at h2
          exact ih (k + 1) (by omega) i (by omega) h2
    · rw [sp_eon, if_neg hk] at h2
      omega
/-- the class' path and the reference's: the same c names -/
def sp_PP (pS : Nat → Nat) (pB tP : Nat → Int32) (yF yT : Nat → Nat) (c : Nat) : Prop := c ≤ 20 ∧ pS 0 = 0 ∧ ∀ j, j < c → pS j = yF j ∧ pS (j + 1) = yT j + 1 ∧ yF j < yT j ∧ yT j ≤ 120 ∧ ∀ i, yF j ≤ i → i < yT j → pB i = tP i
theorem sp_PP_0 {pS : Nat → Nat} {pB tP : Nat → Int32} {yF yT : Nat → Nat} (h : pS 0 = 0) : sp_PP pS pB tP yF yT 0 := ⟨by omega, h, fun j hj => by omega⟩
theorem sp_PP_of {t u tP pB : Nat → Int32} {n c d : Nat} {pS yF yT : Nat → Nat} (h : ∀ k, k < n → t k = u k) (hd : d = 1 + sp_cnt t n 0) (hp : sp_path t n d pS pB) (hq : sp_parts u 0 n c yF yT) (hP : ∀ k, k < n → tP k = u k) : c = d ∧ sp_PP pS pB tP yF yT c := by
  have hcd : c = d := by rw [hd, hq.1, sp_cnt_c h]
  obtain ⟨p0, p1, p2, p3, p4, p5, p6⟩ := hp
  have hn := sp_parts_nst hq
  have hs : ∀ j, j < c → pS j = sp_nst u n j 0 := by
    intro j
    induction j with
    | zero => intro _; exact p0
    | succ j ih =>
      intro hj
      rw [(p1 j (by omega)).2, ih (by omega), sp_nst_s, sp_eon_c h]
  refine ⟨hcd, by omega, p0, fun j hj => ?_⟩
  obtain ⟨n1, n2⟩ := hn j hj
  obtain ⟨m1, m2⟩ := p1 j (by omega)
  have e1 := hs j hj
  have e2 : sp_eon t n (pS j) = yT j := by rw [n2, ← e1, sp_eon_c h]
  have h4 := hq.2.2.1 j hj
  have h5 : yT j ≤ n := by rw [h4.2]; exact sp_eon_le h4.1
  have e3 : pS j = yF j := by rw [e1, n1]
  refine ⟨e3, by rw [m2, e2], by omega, by omega, fun i i1 i2 => ?_⟩
  obtain ⟨g1, g2⟩ := sp_eon_in (t := t) (e := n) _ (pS j) (Nat.le_refl _) i (by omega) (by omega)
  rw [p6 i g2 g1, hP i g2, h i g2]
theorem sp_PP_pth {pS : Nat → Nat} {pB tP : Nat → Int32} {yF yT : Nat → Nat} {c : Nat} (h : sp_PP pS pB tP yF yT c) : sp_pth pS c := by
  obtain ⟨h1, h0, h2⟩ := h
  refine ⟨h1, fun j hj => ?_, ?_⟩
  · obtain ⟨a, b, d, -, -⟩ := h2 j hj
    omega
  · cases c with
    | zero => omega
    | succ c =>
      obtain ⟨a, b, d, f, -⟩ := h2 c (by omega)
      omega
theorem sp_PP_na {pS : Nat → Nat} {pB tP : Nat → Int32} {yF yT : Nat → Nat} {c : Nat} (h : sp_PP pS pB tP yF yT c) : c ≤ 20 ∧ (∀ j, j < c → yF j ≤ yT j ∧ yT j ≤ 120) := by
  refine ⟨h.1, fun j hj => ?_⟩
  obtain ⟨-, -, a, b, -⟩ := h.2.2 j hj
  omega
/-- a name of a rule against a name of the path -/
theorem sp_nf_rn {t u : Nat → Int32} {f a : Nat} (h : ∀ k, k < a → t k = u k) {pS : Nat → Nat} {pB tP : Nat → Int32} {yF yT : Nat → Nat} {c j : Nat} (hp : sp_PP pS pB tP yF yT c) (hj : j < c) (hf : f ≤ a) : sp_nf t pB pS f a j = sp_rn u tP yF yT f a j := by
  obtain ⟨a1, a2, a3, a4, a5⟩ := hp.2.2 j hj
  rw [sp_nf, sp_rn, a1, a2, Nat.add_sub_cancel]
  by_cases hfa : f < a
  · rw [decide_eq_true hfa, Bool.true_and]
    exact sp_fit_c h (fun i hi => a5 _ (by omega) (by omega)) f 0
  · rw [decide_eq_false hfa, Bool.false_and, sp_fit_end hfa, decide_eq_false]
    omega
theorem sp_rf_rg {t u : Nat → Int32} {s e bits n : Nat} {d : Bool} (h : ∀ k, k < e → t k = u k) {pS : Nat → Nat} {pB tP : Nat → Int32} {yF yT : Nat → Nat} {c : Nat} (hp : sp_PP pS pB tP yF yT c) (hn : 1 ≤ n) (hnc : n ≤ c) (hs : s ≤ e) : sp_rf t s e bits pB pS n d = sp_rg u tP yF yT s e bits n d := by
  rw [sp_rf, sp_rg]
  by_cases h1 : bits &&& 8 = 8 ∨ (bits &&& 2 = 2 ∧ d = false)
  · rw [if_pos h1, if_pos h1]
  · rw [if_neg h1, if_neg h1]
    by_cases h2 : bits &&& 4 = 4
    · rw [if_pos h2, if_pos h2]
      exact sp_H_c h (fun k q j k1 k2 k3 => sp_nf_rn (fun i hi => h i (by omega)) hp (by omega) k1) s 0
    · rw [if_neg h2, if_neg h2]
      exact sp_nf_rn h hp (by omega) hs
theorem sp_lastf_c {F G : Nat → Bool} : ∀ c, (∀ k, k < c → F k = G k) → sp_lastf F c = sp_lastf G c
  | 0, _ => rfl
  | c + 1, h => by rw [sp_lastf, sp_lastf, h c (Nat.lt_succ_self c), sp_lastf_c c (fun k hk => h k (Nat.lt_succ_of_lt hk))]
theorem sp_cn_c {F G : Nat → Bool} : ∀ c, (∀ k, k < c → F k = G k) → sp_cn F c = sp_cn G c
  | 0, _ => rfl
  | c + 1, h => by rw [sp_cn, sp_cn, h c (Nat.lt_succ_self c), sp_cn_c c (fun k hk => h k (Nat.lt_succ_of_lt hk))]
theorem sp_dd_c {F G : Nat → Bool} {c : Nat} : ∀ d m, c - m ≤ d → (∀ k, m ≤ k → k < c → F k = G k) → sp_dd F c m = sp_dd G c m := by
  intro d
  induction d with
  | zero => intro m hd _; rw [sp_dd.eq_1 F, sp_dd.eq_1 G, dif_neg (by omega), dif_neg (by omega)]
  | succ d ih =>
    intro m hd h
    rw [sp_dd.eq_1 F, sp_dd.eq_1 G]
    by_cases hm : m < c
    · rw [dif_pos hm, dif_pos hm, h m (Nat.le_refl _) hm, ih (m + 1) (by omega) (fun k k1 k2 => h k (by omega) k2)]
    · rw [dif_neg hm, dif_neg hm]
theorem sp_dd_at {O : Nat → Bool} {c : Nat} : ∀ d m, c - m ≤ d → sp_dd O c m < c → O (sp_dd O c m) = true := by
  intro d
  induction d with
  | zero => intro m hd h; rw [sp_dd, dif_neg (by omega)] at h; omega
  | succ d ih =>
    intro m hd h
    rw [sp_dd.eq_1 O] at h ⊢
    by_cases hm : m < c
    · rw [dif_pos hm] at h ⊢
      by_cases ho : O m = true
      · rw [if_pos ho]; exact ho
      · rw [if_neg ho] at h ⊢
        exact ih (m + 1) (by omega) h
    · rw [dif_neg hm] at h
      omega
/-- two stars take every name -/
theorem sp_fit_deep {t : Nat → Int32} {f a : Nat} {P : Nat → Int32} {n : Nat} (h : sp_deep t f a = true) : sp_fit t a P n f 0 = true := by
  rw [sp_deep, decide_eq_true_eq] at h
  obtain ⟨h1, h2, h3⟩ := h
  subst h1
  refine (sp_fit_star (by omega) h2 n 0 rfl (Nat.zero_le _)).mpr ⟨0, Nat.le_refl _, Nat.zero_le _, ?_⟩
  refine (sp_fit_star (by omega) h3 n 0 rfl (Nat.zero_le _)).mpr ⟨n, Nat.zero_le _, Nat.le_refl _, ?_⟩
  rw [sp_fit_end (by omega), decide_eq_true_eq]
/-! what holds between the calls: the tapes, the rules, the paths of the two sides -/
def sp_Ta (tl : Nat) (cA : Nat → Int32) (si : Nat) (rA : Nat → Int32) : Prop := tl = si ∧ si ≤ 1000 ∧ (∀ k, k < tl → cA k = rA k) ∧ ∀ k, k < tl → vp_nar .char (cA k) = cA k
def sp_Ru (bz : Nat) (tT : Nat → Int32) (aS aE aB aL : Nat → Nat) (nC : Nat) (tX : Nat → Int32) (xF xT xB xL : Nat → Nat) (ru : Nat) : Prop := bz ≤ 1000 ∧ (∀ k, k < bz → tT k = tX k) ∧ nC = ru ∧ ru = (sp_rules tX bz).length ∧ ru ≤ 60 ∧ sp_hold aS aE aB aL (sp_rules tX bz) ∧ sp_hold xF xT xB xL (sp_rules tX bz)
section SPR
variable {bz : Nat} {tT : Nat → Int32} {aS aE aB aL : Nat → Nat} {nC : Nat} {tX : Nat → Int32} {xF xT xB xL : Nat → Nat} {ru : Nat} {pS : Nat → Nat} {pB tP : Nat → Int32} {yF yT : Nat → Nat} {na : Nat}
theorem sp_Ru_rok2 (h : sp_Ru bz tT aS aE aB aL nC tX xF xT xB xL ru) : sp_rok2 tX xF xT xB ru := sp_hold_rok2 h.1 h.2.2.2.1 h.2.2.2.2.1 h.2.2.2.2.2.2
theorem sp_Ru_rok (h : sp_Ru bz tT aS aE aB aL nC tX xF xT xB xL ru) : sp_rok tT aS aE aB nC := by
  obtain ⟨h1, h2, h3, h4, h5, h6, h7⟩ := h
  rw [← sp_rules_c h2] at h4 h6
  exact sp_hold_rok h1 (h3.trans h4) (h3 ▸ h5) h6
theorem sp_Ru_ln (h : sp_Ru bz tT aS aE aB aL nC tX xF xT xB xL ru) : ∀ i, i < ru → xL i < 2147483648 := sp_hold_ln h.1 h.2.2.2.1 h.2.2.2.2.2.2
theorem sp_Ru_at (h : sp_Ru bz tT aS aE aB aL nC tX xF xT xB xL ru) {i : Nat} (hi : i < ru) : aS i = xF i ∧ aE i = xT i ∧ aB i = xB i ∧ aL i = xL i ∧ xF i ≤ xT i ∧ ∀ k, k < xT i → tT k = tX k := by
  obtain ⟨h1, h2, h3, h4, h5, h6, h7⟩ := h
  obtain ⟨e1, e2, e3, e4⟩ := sp_hold_eq h4 h6 h7 i hi
  obtain ⟨g1, g2, -⟩ := sp_hold_g h7 (h4 ▸ hi)
  have g2 : xT i ≤ bz := g2
  exact ⟨e1, e2, e3, e4, g1, fun k hk => h2 k (by omega)⟩
theorem sp_Ru_rf (h : sp_Ru bz tT aS aE aB aL nC tX xF xT xB xL ru) (hp : sp_PP pS pB tP yF yT na) {i n : Nat} (hi : i < ru) (hn : 1 ≤ n) (hn2 : n ≤ na) (d : Bool) : sp_rf tT (aS i) (aE i) (aB i) pB pS n d = sp_rg tX tP yF yT (xF i) (xT i) (xB i) n d := by
  obtain ⟨e1, e2, e3, -, g1, g2⟩ := sp_Ru_at h hi
  rw [e1, e2, e3]
  exact sp_rf_rg g2 hp hn hn2 g1
theorem sp_Ru_cn (h : sp_Ru bz tT aS aE aB aL nC tX xF xT xB xL ru) (hp : sp_PP pS pB tP yF yT na) (hn : 1 ≤ na) (d : Bool) : sp_cn (fun i => sp_rf tT (aS i) (aE i) (aB i) pB pS na d) nC = sp_cn (fun i => sp_rg tX tP yF yT (xF i) (xT i) (xB i) na d) ru := by
  rw [h.2.2.1]
  exact sp_cn_c ru (fun k hk => sp_Ru_rf h hp hk hn (Nat.le_refl _) d)
theorem sp_Ru_lf (h : sp_Ru bz tT aS aE aB aL nC tX xF xT xB xL ru) (hp : sp_PP pS pB tP yF yT na) {n : Nat} (hn : 1 ≤ n) (hn2 : n ≤ na) (d : Bool) : sp_lfit tT aS aE aB pB pS nC n d = sp_lrg tX xF xT xB tP yF yT ru n d := by
  rw [sp_lfit, sp_lrg, h.2.2.1]
  exact sp_lastf_c ru (fun k hk => sp_Ru_rf h hp hk hn hn2 d)
theorem sp_Ru_lo (h : sp_Ru bz tT aS aE aB aL nC tX xF xT xB xL ru) (n : Nat) (d : Bool) : sp_lo aB (sp_lrg tX xF xT xB tP yF yT ru n d) = sp_lo xB (sp_lrg tX xF xT xB tP yF yT ru n d) := by
  rcases sp_lastf_in (fun k => sp_rg tX tP yF yT (xF k) (xT k) (xB k) n d) ru with q | ⟨k, k1, k2⟩
  · rw [sp_lrg, q, sp_lo, sp_lo, if_pos rfl, if_pos rfl]
  · have h60 := h.2.2.2.2.1
    rw [sp_lrg, k2, sp_lo, sp_lo, if_neg (ig_m1 (by omega)), if_neg (ig_m1 (by omega)), ig_cl (by omega), (sp_Ru_at h k1).2.2.1]
theorem sp_Ru_dd (h : sp_Ru bz tT aS aE aB aL nC tX xF xT xB xL ru) (hp : sp_PP pS pB tP yF yT na) : sp_dd (fun m => sp_lo aB (sp_lfit tT aS aE aB pB pS nC m true)) na 1 = sp_dd (fun m => sp_lo xB (sp_lrg tX xF xT xB tP yF yT ru m true)) na 1 := by
  refine sp_dd_c _ 1 (Nat.le_refl _) (fun k k1 k2 => ?_)
  show sp_lo aB (sp_lfit tT aS aE aB pB pS nC k true) = sp_lo xB (sp_lrg tX xF xT xB tP yF yT ru k true)
  rw [sp_Ru_lf h hp k1 (by omega), sp_Ru_lo h]
/-- what decides, on both sides -/
theorem sp_Ru_de (h : sp_Ru bz tT aS aE aB aL nC tX xF xT xB xL ru) (hp : sp_PP pS pB tP yF yT na) (hn : 1 ≤ na) {d io : Bool} {dp : Nat} {de : Int32} (h1 : dp = sp_dd (fun m => sp_lo xB (sp_lrg tX xF xT xB tP yF yT ru m true)) na 1) (h2 : de = sp_lrg tX xF xT xB tP yF yT ru dp (decide (dp < na) || d)) (h3 : io = sp_lo xB de) :
    sp_dd (fun m => sp_lo aB (sp_lfit tT aS aE aB pB pS nC m true)) na 1 = dp ∧ sp_lfit tT aS aE aB pB pS nC dp (decide (dp < na) || d) = de ∧ (decide (dp < na) || sp_lo aB (sp_lfit tT aS aE aB pB pS nC na d)) = io := by
  have e1 : sp_dd (fun m => sp_lo aB (sp_lfit tT aS aE aB pB pS nC m true)) na 1 = dp := by rw [sp_Ru_dd h hp, h1]
  have hb := sp_dd_b (O := fun m => sp_lo xB (sp_lrg tX xF xT xB tP yF yT ru m true)) (c := na) _ 1 (Nat.le_refl _) hn
  rw [← h1] at hb
  have e2 : sp_lfit tT aS aE aB pB pS nC dp (decide (dp < na) || d) = de := by rw [sp_Ru_lf h hp hb.1 hb.2, h2]
  refine ⟨e1, e2, ?_⟩
  by_cases hd : dp < na
  · have hO := sp_dd_at (O := fun m => sp_lo xB (sp_lrg tX xF xT xB tP yF yT ru m true)) (c := na) _ 1 (Nat.le_refl _) (by rw [← h1]; exact hd)
    rw [← h1] at hO
    have hO : sp_lo xB (sp_lrg tX xF xT xB tP yF yT ru dp true) = true := hO
    rw [h3, h2, decide_eq_true hd, Bool.true_or, Bool.true_or, hO]
  · have e3 : dp = na := by omega
    rw [h3, h2, decide_eq_false hd, Bool.false_or, Bool.false_or, sp_Ru_lf h hp hn (Nat.le_refl _), sp_Ru_lo h, e3]
theorem sp_Ru_ct (h : sp_Ru bz tT aS aE aB aL nC tX xF xT xB xL ru) {i : Nat} (hi : i < ru) : 1 + sp_cnt tT (aE i) (aS i) = 1 + sp_cnt tX (xT i) (xF i) := by
  obtain ⟨e1, e2, -, -, -, g2⟩ := sp_Ru_at h hi
  rw [e1, e2, sp_cnt_c g2]
theorem sp_Ru_nm (h : sp_Ru bz tT aS aE aB aL nC tX xF xT xB xL ru) (hp : sp_PP pS pB tP yF yT na) {i p j pa : Nat} {wF wT : Nat → Nat} (hi : i < ru) (hj : j < na) (hw : sp_parts tX (xF i) (xT i) pa wF wT) (hq : p < 1 + sp_cnt tX (xT i) (xF i)) :
    sp_nf tT pB pS (sp_nst tT (aE i) p (aS i)) (sp_eon tT (aE i) (sp_nst tT (aE i) p (aS i))) j = ((decide (xB i &&& 4 = 4) && sp_deep tX (wF p) (wT p)) || sp_rn tX tP yF yT (wF p) (wT p) j) := by
  obtain ⟨e1, e2, -, -, -, g2⟩ := sp_Ru_at h hi
  have hpc : p < pa := by rw [hw.1]; exact hq
  obtain ⟨f1, f2⟩ := sp_parts_nst hw p hpc
  have k1 : sp_nst tT (aE i) p (aS i) = wF p := by rw [e1, e2, f1, sp_nst_c g2]
  have k2 : sp_eon tT (aE i) (wF p) = wT p := by rw [e2, f2, ← f1, sp_eon_c g2]
  have k3 := (hw.2.2.1 p hpc).1
  have k4 : wF p ≤ wT p := by rw [f2, ← f1]; exact sp_eon_ge _ _ _
  have k5 : wT p ≤ xT i := by rw [f2, ← f1]; exact sp_eon_le k3
  have h' : ∀ k, k < wT p → tT k = tX k := fun k hk => g2 k (by omega)
  rw [k1, k2, sp_nf_rn h' hp hj k4]
  cases hd : sp_deep tX (wF p) (wT p) with
  | false => simp
  | true =>
    have := sp_fit_deep (P := fun i => tP (yF j + i)) (n := yT j - yF j) hd
    have hlt : wF p < wT p := by
      rw [sp_deep, decide_eq_true_eq] at hd
      omega
    have e5 : sp_rn tX tP yF yT (wF p) (wT p) j = true := by rw [sp_rn, this, decide_eq_true hlt]; rfl
    rw [e5]
    simp
end SPR
theorem sp_Ru_0 {tT tX : Nat → Int32} {aS aE aB aL xF xT xB xL : Nat → Nat} : sp_Ru 0 tT aS aE aB aL 0 tX xF xT xB xL 0 := by
  refine ⟨by omega, fun k hk => by omega, rfl, ?_, by omega, ?_, ?_⟩
  · rw [sp_rules_0]; rfl
  · rw [sp_rules_0]; exact sp_hold_0
  · rw [sp_rules_0]; exact sp_hold_0
/-- a reading, on both sides -/
theorem sp_Ru_rd {tl si bz : Nat} {cA rA tX uT : Nat → Int32} {uS uE uB uL xF xT xB xL xF' xT' xB' xL' : Nat → Nat} {uN ru' si' bz' tl' : Nat} {tX' tT : Nat → Int32} {aS aE aB aL : Nat → Nat} {nC ru : Nat} {r r2 : Int32} {sw : Bool}
    (hT : sp_Ta tl cA si rA) (hR : sp_Ru bz tT aS aE aB aL nC tX xF xT xB xL ru)
    (h1 : (∀ k, k < tl → uT k = cA k) ∧ ((sp_rules uT tl).length ≤ 60 → r = nI uN ∧ sw = true ∧ tl' = 0 ∧ uN = (sp_rules uT tl).length ∧ sp_hold uS uE uB uL (sp_rules uT tl)) ∧ (¬ (sp_rules uT tl).length ≤ 60 → r = -1 ∧ sw = false ∧ tl' = tl))
    (h2 : ∃ t, (∀ k, k < 1000 → t k = rA k) ∧ ((sp_rules t si).length ≤ 60 → r2 = nI ru' ∧ si' = 0 ∧ bz' = si ∧ tX' = t ∧ ru' = (sp_rules t si).length ∧ sp_hold xF' xT' xB' xL' (sp_rules t si)) ∧ (¬ (sp_rules t si).length ≤ 60 → r2 = -1 ∧ si' = si ∧ bz' = bz ∧ (∀ k, k < 1000 → tX' k = tX k) ∧ ru' = (sp_rules tX' bz).length ∧ (ru' ≤ 60 → sp_hold xF' xT' xB' xL' (sp_rules tX' bz)))) :
    r = r2 ∧ sp_Ta tl' cA si' rA ∧ (sw = true → sp_Ru bz' uT uS uE uB uL uN tX' xF' xT' xB' xL' ru') ∧ (sw = false → sp_Ru bz' tT aS aE aB aL nC tX' xF' xT' xB' xL' ru') := by
  obtain ⟨t1, t2, t3, t4⟩ := hT
  obtain ⟨a1, a2, a3⟩ := h1
  obtain ⟨t, b1, b2, b3⟩ := h2
  subst t1
  have hc : ∀ k, k < tl → uT k = t k := fun k hk => by rw [a1 k hk, t3 k hk, b1 k (by omega)]
  have he := sp_rules_c hc
  rw [he] at a2 a3
  by_cases hl : (sp_rules t tl).length ≤ 60
  · obtain ⟨c1, c2, c3, c4, c5⟩ := a2 hl
    obtain ⟨d1, d2, d3, d4, d5, d6⟩ := b2 hl
    have en : uN = ru' := by rw [c4, d5]
    refine ⟨by rw [c1, d1, en], ⟨by rw [c3, d2], by omega, fun k hk => by omega, fun k hk => by omega⟩, fun _ => ?_, fun q => by rw [c2] at q; cases q⟩
    subst d4
    rw [d3]
    exact ⟨t2, hc, en, d5, by omega, c5, d6⟩
  · obtain ⟨c1, c2, c3⟩ := a3 hl
    obtain ⟨d1, d2, d3, d4, d5, d6⟩ := b3 hl
    refine ⟨by rw [c1, d1], ⟨by rw [c3, d2], by omega, fun k hk => t3 k (by omega), fun k hk => t4 k (by omega)⟩, fun q => absurd (c2.symm.trans q) (by decide), fun _ => ?_⟩
    obtain ⟨r1, r2, r3, r4, r5, r6, r7⟩ := hR
    have e2 : sp_rules tX' bz = sp_rules tX bz := sp_rules_c (fun k hk => d4 k (by omega))
    rw [e2] at d5 d6
    have e3 : ru' = ru := by rw [d5, r4]
    rw [d3]
    refine ⟨r1, fun k hk => by rw [r2 k hk, d4 k (by omega)], by rw [r3, e3], by rw [d5, e2], by omega, by rw [e2]; exact r6, by rw [e2]; exact d6 (by omega)⟩
/-- a path, on both sides -/
theorem sp_PP_pa {tl si : Nat} {cA rA : Nat → Int32} {pC' na' tl' si' : Nat} {pS' yF' yT' : Nat → Nat} {pB' tP' : Nat → Int32} {r r2 : Int32} (hT : sp_Ta tl cA si rA)
    (h1 : pS' 0 = 0 ∧ (sp_pok cA tl = false → r = -1 ∧ tl' = tl ∧ pC' = 0) ∧ (sp_pok cA tl = true → r = nI pC' ∧ tl' = 0 ∧ pC' = 1 + sp_cnt cA tl 0 ∧ sp_path cA tl pC' pS' pB'))
    (h2 : (sp_pok rA si = false → r2 = -1 ∧ si' = si ∧ na' = 0) ∧ (sp_pok rA si = true → r2 = nI na' ∧ si' = 0 ∧ sp_parts rA 0 si na' yF' yT' ∧ ∀ k, k < si → tP' k = rA k)) (hpok : sp_pok cA tl = sp_pok rA si) :
    r = r2 ∧ sp_Ta tl' cA si' rA ∧ pC' = na' ∧ sp_PP pS' pB' tP' yF' yT' na' := by
  obtain ⟨t1, t2, t3, t4⟩ := hT
  subst t1
  obtain ⟨a0, a1, a2⟩ := h1
  obtain ⟨b1, b2⟩ := h2
  cases hk : sp_pok rA tl with
  | false =>
    obtain ⟨c1, c2, c3⟩ := a1 (hpok.trans hk)
    obtain ⟨d1, d2, d3⟩ := b1 hk
    refine ⟨by rw [c1, d1], ⟨by rw [c2, d2], by omega, fun k hk => t3 k (by omega), fun k hk => t4 k (by omega)⟩, by rw [c3, d3], ?_⟩
    rw [d3]
    exact sp_PP_0 a0
  | true =>
    obtain ⟨c1, c2, c3, c4⟩ := a2 (hpok.trans hk)
    obtain ⟨d1, d2, d3, d4⟩ := b2 hk
    obtain ⟨e1, e2⟩ := sp_PP_of t3 c3 c4 d3 d4
    exact ⟨by rw [c1, d1, e1], ⟨by rw [c2, d2], by omega, fun k hk => by omega, fun k hk => by omega⟩, e1.symm, e2⟩
theorem sp_pk_c {t u : Nat → Int32} {n : Nat} (h : ∀ k, k < n → t k = u k) : ∀ d k len, n - k ≤ d → sp_pk t n k len = sp_pk u n k len := by
  intro d
  induction d with
  | zero => intro k len hd; rw [sp_pk.eq_1 t, sp_pk.eq_1 u, dif_neg (by omega), dif_neg (by omega)]
  | succ d ih =>
    intro k len hd
    rw [sp_pk.eq_1 t, sp_pk.eq_1 u]
    by_cases hk : k < n
    · rw [dif_pos hk, dif_pos hk, h k hk, ih (k + 1) _ (by omega)]
    · rw [dif_neg hk, dif_neg hk]
theorem sp_pok_c {t u : Nat → Int32} {n : Nat} (h : ∀ k, k < n → t k = u k) : sp_pok t n = sp_pok u n := by
  rw [sp_pok, sp_pok, sp_pk_c h _ 0 0 (Nat.le_refl _), sp_cnt_c h]
