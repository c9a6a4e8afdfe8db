theorem kw_0_1 : Cond.initialized "IgnoreRules" ∈ ig_T := ig_T_mem (List.mem_append_left _ (List.mem_of_getElem? (i := 1) rfl)) rfl
theorem kw_0_89 : Cond.fieldLink "IgnoreRules" 9 "IgnoreRules" "tape" "[C" ∈ ig_T := ig_T_mem (List.mem_append_left _ (List.mem_of_getElem? (i := 89) rfl)) rfl
theorem kw_0_90 : Cond.fieldLink "IgnoreRules" 44 "IgnoreRules" "tapeLength" "I" ∈ ig_T := ig_T_mem (List.mem_append_left _ (List.mem_of_getElem? (i := 90) rfl)) rfl
theorem kw_0_91 : Cond.fieldLink "IgnoreRules" 16 "IgnoreRules" "rules" "LIgnoreRules$RuleList;" ∈ ig_T := ig_T_mem (List.mem_append_left _ (List.mem_of_getElem? (i := 91) rfl)) rfl
theorem kw_0_92 : Cond.fieldLink "IgnoreRules" 20 "IgnoreRules" "spare" "LIgnoreRules$RuleList;" ∈ ig_T := ig_T_mem (List.mem_append_left _ (List.mem_of_getElem? (i := 92) rfl)) rfl
theorem kw_0_93 : Cond.fieldLink "IgnoreRules" 26 "IgnoreRules" "current" "LIgnoreRules$Path;" ∈ ig_T := ig_T_mem (List.mem_append_left _ (List.mem_of_getElem? (i := 93) rfl)) rfl
theorem kw_0_94 : Cond.fieldLink "IgnoreRules" 33 "IgnoreRules" "matcher" "LIgnoreRules$Matcher;" ∈ ig_T := ig_T_mem (List.mem_append_left _ (List.mem_of_getElem? (i := 94) rfl)) rfl
theorem kw_0_118 : Cond.instanceMethod y_RL_load ∈ ig_T := ig_T_mem (List.mem_append_left _ (List.mem_of_getElem? (i := 118) rfl)) rfl
theorem kw_0_152 : Cond.instanceMethod y_PA_load ∈ ig_T := ig_T_mem (List.mem_append_left _ (List.mem_of_getElem? (i := 152) rfl)) rfl
theorem kw_1_54 : Cond.instanceMethod y_MA_ruleFits ∈ ig_T := ig_T_mem (List.mem_append_right _ (List.mem_append_left _ (List.mem_of_getElem? (i := 54) rfl))) rfl
theorem kw_1_92 : Cond.methodLink "IgnoreRules" 87 y_IR_lastFitting ∈ ig_T := ig_T_mem (List.mem_append_right _ (List.mem_append_left _ (List.mem_of_getElem? (i := 92) rfl))) rfl
theorem kw_1_94 : Cond.instanceMethod y_IR_lastFitting ∈ ig_T := ig_T_mem (List.mem_append_right _ (List.mem_append_left _ (List.mem_of_getElem? (i := 94) rfl))) rfl
theorem kw_1_96 : Cond.methodLink "IgnoreRules" 91 y_IR_leavesOut ∈ ig_T := ig_T_mem (List.mem_append_right _ (List.mem_append_left _ (List.mem_of_getElem? (i := 96) rfl))) rfl
theorem kw_1_98 : Cond.instanceMethod y_IR_leavesOut ∈ ig_T := ig_T_mem (List.mem_append_right _ (List.mem_append_left _ (List.mem_of_getElem? (i := 98) rfl))) rfl
theorem d_IR_lastFitting_0 : decode b_IR_lastFitting 0 = .ok (.aload_n 0, 1) := by decide +kernel
theorem d_IR_lastFitting_1 : decode b_IR_lastFitting 1 = .ok (.getfield 16, 3) := by decide +kernel
theorem d_IR_lastFitting_4 : decode b_IR_lastFitting 4 = .ok (.getfield 54, 3) := by decide +kernel
theorem d_IR_lastFitting_7 : decode b_IR_lastFitting 7 = .ok (.iconst 1, 1) := by decide +kernel
theorem d_IR_lastFitting_8 : decode b_IR_lastFitting 8 = .ok (.isub, 1) := by decide +kernel
theorem d_IR_lastFitting_9 : decode b_IR_lastFitting 9 = .ok (.istore_n 3, 1) := by decide +kernel
theorem d_IR_lastFitting_10 : decode b_IR_lastFitting 10 = .ok (.iload_n 3, 1) := by decide +kernel
theorem d_IR_lastFitting_11 : decode b_IR_lastFitting 11 = .ok (.ifCond .lt 32, 3) := by decide +kernel
theorem d_IR_lastFitting_14 : decode b_IR_lastFitting 14 = .ok (.aload_n 0, 1) := by decide +kernel
theorem d_IR_lastFitting_15 : decode b_IR_lastFitting 15 = .ok (.getfield 33, 3) := by decide +kernel
theorem d_IR_lastFitting_18 : decode b_IR_lastFitting 18 = .ok (.aload_n 0, 1) := by decide +kernel
theorem d_IR_lastFitting_19 : decode b_IR_lastFitting 19 = .ok (.getfield 16, 3) := by decide +kernel
theorem d_IR_lastFitting_22 : decode b_IR_lastFitting 22 = .ok (.iload_n 3, 1) := by decide +kernel
theorem d_IR_lastFitting_23 : decode b_IR_lastFitting 23 = .ok (.aload_n 0, 1) := by decide +kernel
theorem d_IR_lastFitting_24 : decode b_IR_lastFitting 24 = .ok (.getfield 26, 3) := by decide +kernel
theorem d_IR_lastFitting_27 : decode b_IR_lastFitting 27 = .ok (.iload_n 1, 1) := by decide +kernel
theorem d_IR_lastFitting_28 : decode b_IR_lastFitting 28 = .ok (.iload_n 2, 1) := by decide +kernel
theorem d_IR_lastFitting_29 : decode b_IR_lastFitting 29 = .ok (.invokevirtual 79, 3) := by decide +kernel
theorem d_IR_lastFitting_32 : decode b_IR_lastFitting 32 = .ok (.ifCond .eq 5, 3) := by decide +kernel
theorem d_IR_lastFitting_35 : decode b_IR_lastFitting 35 = .ok (.iload_n 3, 1) := by decide +kernel
theorem d_IR_lastFitting_36 : decode b_IR_lastFitting 36 = .ok (.ireturn, 1) := by decide +kernel
theorem d_IR_lastFitting_37 : decode b_IR_lastFitting 37 = .ok (.iinc 3 (-1), 3) := by decide +kernel
theorem d_IR_lastFitting_40 : decode b_IR_lastFitting 40 = .ok (.goto (-30), 3) := by decide +kernel
theorem d_IR_lastFitting_43 : decode b_IR_lastFitting 43 = .ok (.iconst (-1), 1) := by decide +kernel
theorem d_IR_lastFitting_44 : decode b_IR_lastFitting 44 = .ok (.ireturn, 1) := by decide +kernel
abbrev w_IR_lastFitting : List Cond := Cond.code y_IR_lastFitting b_IR_lastFitting 4 (some .int) :: ig_T
theorem g_IR_lastFitting : GoodIn ig_T w_IR_lastFitting := ig_T_good (ig_T_mem (List.mem_append_right _ (List.mem_append_left _ (List.mem_of_getElem? (i := 95) rfl))) rfl)
set_option maxHeartbeats 4000000 in
set_option maxRecDepth 100000 in
theorem c_IR_lastFitting (l : Launch) (dC : Nat → ClassId) (dI : Nat → Nat → Nat) (cC cI cZ cL : ClassId) (x0 qT q0 s0 p0 m0 mn mb qt qs qe qb ql pb ps : Nat) (tl : Int32) (pC : Int32) (mN : Nat → Bool) (mB : Nat → Bool) (tT : Nat → Int32) (aS : Nat → Nat) (aE : Nat → Nat) (aB : Nat → Nat) (pB : Nat → Int32) (pS : Nat → Nat) (nC : Nat) (n : Nat) (d : Bool) (sz : Nat) (hr : r_IR_lastFitting mN mB tT aS aE aB pB pS nC n d) : Met l y_IR_lastFitting w_IR_lastFitting ({ frames := 4, cells := 0, slots := 0, locals := 118 }) (ig_Pc (dC, dI) ig_cl0 [(cC, .char), (cI, .int), (cZ, .boolean), (cL, .long)] [.ref x0, .int (nI n), .int (bI d)] [(x0, .inr (ciIR, [.ref qT, .int tl, .ref q0, .ref s0, .ref p0, .ref m0])), (m0, .inr (ciMA, [.ref mn, .ref mb])), (mn, .inl (cZ, 21, .inl (fun zj => bI (mN zj)))), (mb, .inl (cZ, 121, .inl (fun zj => bI (mB zj)))), (q0, .inr (ciRL, [.ref qt, .ref qs, .ref qe, .ref qb, .ref ql, .int (nI nC)])), (qt, .inl (cC, 1000, .inl tT)), (qs, .inl (cI, 60, .inl (fun zj => nI (aS zj)))), (qe, .inl (cI, 60, .inl (fun zj => nI (aE zj)))), (qb, .inl (cI, 60, .inl (fun zj => nI (aB zj)))), (p0, .inr (ciPA, [.ref pb, .ref ps, .int pC])), (pb, .inl (cC, 120, .inl pB)), (ps, .inl (cI, 21, .inl (fun zj => nI (pS zj))))] sz) (va_Qi (fun (r : Int32) (u : (Nat → Bool) × (Nat → Bool)) => p_IR_lastFitting mN mB tT aS aE aB pB pS nC n d r u.1 u.2) (fun u t => va_P (dC, dI) ig_cl0 ((fun (u : (Nat → Bool) × (Nat → Bool)) => [(x0, .inr (ciIR, [.ref qT, .int tl, .ref q0, .ref s0, .ref p0, .ref m0])), (m0, .inr (ciMA, [.ref mn, .ref mb])), (mn, .inl (cZ, 21, .inl (fun zj => bI (u.1 zj)))), (mb, .inl (cZ, 121, .inl (fun zj => bI (u.2 zj)))), (q0, .inr (ciRL, [.ref qt, .ref qs, .ref qe, .ref qb, .ref ql, .int (nI nC)])), (qt, .inl (cC, 1000, .inl tT)), (qs, .inl (cI, 60, .inl (fun zj => nI (aS zj)))), (qe, .inl (cI, 60, .inl (fun zj => nI (aE zj)))), (qb, .inl (cI, 60, .inl (fun zj => nI (aB zj)))), (p0, .inr (ciPA, [.ref pb, .ref ps, .int pC])), (pb, .inl (cC, 120, .inl pB)), (ps, .inl (cI, 21, .inl (fun zj => nI (pS zj))))]) u) t.heap ∧ va_D (va_A [(x0, .inr (ciIR, [.ref qT, .int tl, .ref q0, .ref s0, .ref p0, .ref m0])), (m0, .inr (ciMA, [.ref mn, .ref mb])), (mn, .inl (cZ, 21, .inl (fun zj => bI (mN zj)))), (mb, .inl (cZ, 121, .inl (fun zj => bI (mB zj)))), (q0, .inr (ciRL, [.ref qt, .ref qs, .ref qe, .ref qb, .ref ql, .int (nI nC)])), (qt, .inl (cC, 1000, .inl tT)), (qs, .inl (cI, 60, .inl (fun zj => nI (aS zj)))), (qe, .inl (cI, 60, .inl (fun zj => nI (aE zj)))), (qb, .inl (cI, 60, .inl (fun zj => nI (aB zj)))), (p0, .inr (ciPA, [.ref pb, .ref ps, .int pC])), (pb, .inl (cC, 120, .inl pB)), (ps, .inl (cI, 21, .inl (fun zj => nI (pS zj))))] sz) ((fun (u : (Nat → Bool) × (Nat → Bool)) => [(x0, .inr (ciIR, [.ref qT, .int tl, .ref q0, .ref s0, .ref p0, .ref m0])), (m0, .inr (ciMA, [.ref mn, .ref mb])), (mn, .inl (cZ, 21, .inl (fun zj => bI (u.1 zj)))), (mb, .inl (cZ, 121, .inl (fun zj => bI (u.2 zj)))), (q0, .inr (ciRL, [.ref qt, .ref qs, .ref qe, .ref qb, .ref ql, .int (nI nC)])), (qt, .inl (cC, 1000, .inl tT)), (qs, .inl (cI, 60, .inl (fun zj => nI (aS zj)))), (qe, .inl (cI, 60, .inl (fun zj => nI (aE zj)))), (qb, .inl (cI, 60, .inl (fun zj => nI (aB zj)))), (p0, .inr (ciPA, [.ref pb, .ref ps, .int pC])), (pb, .inl (cC, 120, .inl pB)), (ps, .inl (cI, 21, .inl (fun zj => nI (pS zj))))]) u)) (va_A [(x0, .inr (ciIR, [.ref qT, .int tl, .ref q0, .ref s0, .ref p0, .ref m0])), (m0, .inr (ciMA, [.ref mn, .ref mb])), (mn, .inl (cZ, 21, .inl (fun zj => bI (mN zj)))), (mb, .inl (cZ, 121, .inl (fun zj => bI (mB zj)))), (q0, .inr (ciRL, [.ref qt, .ref qs, .ref qe, .ref qb, .ref ql, .int (nI nC)])), (qt, .inl (cC, 1000, .inl tT)), (qs, .inl (cI, 60, .inl (fun zj => nI (aS zj)))), (qe, .inl (cI, 60, .inl (fun zj => nI (aE zj)))), (qb, .inl (cI, 60, .inl (fun zj => nI (aB zj)))), (p0, .inr (ciPA, [.ref pb, .ref ps, .int pC])), (pb, .inl (cC, 120, .inl pB)), (ps, .inl (cI, 21, .inl (fun zj => nI (pS zj))))] sz)) 0 0 (va_A [(x0, .inr (ciIR, [.ref qT, .int tl, .ref q0, .ref s0, .ref p0, .ref m0])), (m0, .inr (ciMA, [.ref mn, .ref mb])), (mn, .inl (cZ, 21, .inl (fun zj => bI (mN zj)))), (mb, .inl (cZ, 121, .inl (fun zj => bI (mB zj)))), (q0, .inr (ciRL, [.ref qt, .ref qs, .ref qe, .ref qb, .ref ql, .int (nI nC)])), (qt, .inl (cC, 1000, .inl tT)), (qs, .inl (cI, 60, .inl (fun zj => nI (aS zj)))), (qe, .inl (cI, 60, .inl (fun zj => nI (aE zj)))), (qb, .inl (cI, 60, .inl (fun zj => nI (aB zj)))), (p0, .inr (ciPA, [.ref pb, .ref ps, .int pC])), (pb, .inl (cC, 120, .inl pB)), (ps, .inl (cI, 21, .inl (fun zj => nI (pS zj))))] sz) := by
  refine ig_metI (fun (r : Int32) (u : (Nat → Bool) × (Nat → Bool)) => p_IR_lastFitting mN mB tT aS aE aB pB pS nC n d r u.1 u.2) (fun (u : (Nat → Bool) × (Nat → Bool)) => [(x0, .inr (ciIR, [.ref qT, .int tl, .ref q0, .ref s0, .ref p0, .ref m0])), (m0, .inr (ciMA, [.ref mn, .ref mb])), (mn, .inl (cZ, 21, .inl (fun zj => bI (u.1 zj)))), (mb, .inl (cZ, 121, .inl (fun zj => bI (u.2 zj)))), (q0, .inr (ciRL, [.ref qt, .ref qs, .ref qe, .ref qb, .ref ql, .int (nI nC)])), (qt, .inl (cC, 1000, .inl tT)), (qs, .inl (cI, 60, .inl (fun zj => nI (aS zj)))), (qe, .inl (cI, 60, .inl (fun zj => nI (aE zj)))), (qb, .inl (cI, 60, .inl (fun zj => nI (aB zj)))), (p0, .inr (ciPA, [.ref pb, .ref ps, .int pC])), (pb, .inl (cC, 120, .inl pB)), (ps, .inl (cI, 21, .inl (fun zj => nI (pS zj))))]) (by decide) rfl (Nat.le_of_ble_eq_true rfl) rfl (fun _ _ _ => rfl) ?_
  intro zp ze zs zm zargs zbelow zmeth zc zA zQ hx hb hml hown hts hK hN hA hret
  obtain ⟨K10, hK10⟩ : ∃ K : Nat → (Nat → Bool) → (Nat → Bool) → Prop, K = fun (k : Nat) (mNc : Nat → Bool) (mBc : Nat → Bool) => ig_W zp l ze ({ frames := 4, cells := 0, slots := 0, locals := 118 }) zs zm zargs zbelow zmeth zc (dC, dI) ig_cl0 zA zs.heap 4 0 0 zQ 10 [(0, .ref x0), (1, .int (nI n)), (2, .int (bI d)), (3, .int (nI k - 1))] [] [(x0, .inr (ciIR, [.ref qT, .int tl, .ref q0, .ref s0, .ref p0, .ref m0])), (m0, .inr (ciMA, [.ref mn, .ref mb])), (mn, .inl (cZ, 21, .inl (fun zj => bI (mNc zj)))), (mb, .inl (cZ, 121, .inl (fun zj => bI (mBc zj)))), (q0, .inr (ciRL, [.ref qt, .ref qs, .ref qe, .ref qb, .ref ql, .int (nI nC)])), (qt, .inl (cC, 1000, .inl tT)), (qs, .inl (cI, 60, .inl (fun zj => nI (aS zj)))), (qe, .inl (cI, 60, .inl (fun zj => nI (aE zj)))), (qb, .inl (cI, 60, .inl (fun zj => nI (aB zj)))), (p0, .inr (ciPA, [.ref pb, .ref ps, .int pC])), (pb, .inl (cC, 120, .inl pB)), (ps, .inl (cI, 21, .inl (fun zj => nI (pS zj))))] := ⟨_, rfl⟩
  have k10 : ∀ (k : Nat) (mNc : Nat → Bool) (mBc : Nat → Bool), v_IR_lastFitting_10 mN mB tT aS aE aB pB pS nC n d K10 (p_IR_lastFitting mN mB tT aS aE aB pB pS nC n d) k mNc mBc → K10 k mNc mBc := by
    intro k mNc mBc hv
    unfold v_IR_lastFitting_10 at hv
    rw [hK10]
    show ig_W zp l ze ({ frames := 4, cells := 0, slots := 0, locals := 118 }) zs zm zargs zbelow zmeth zc (dC, dI) ig_cl0 zA zs.heap 4 0 0 zQ 10 [(0, .ref x0), (1, .int (nI n)), (2, .int (bI d)), (3, .int (nI k - 1))] [] [(x0, .inr (ciIR, [.ref qT, .int tl, .ref q0, .ref s0, .ref p0, .ref m0])), (m0, .inr (ciMA, [.ref mn, .ref mb])), (mn, .inl (cZ, 21, .inl (fun zj => bI (mNc zj)))), (mb, .inl (cZ, 121, .inl (fun zj => bI (mBc zj)))), (q0, .inr (ciRL, [.ref qt, .ref qs, .ref qe, .ref qb, .ref ql, .int (nI nC)])), (qt, .inl (cC, 1000, .inl tT)), (qs, .inl (cI, 60, .inl (fun zj => nI (aS zj)))), (qe, .inl (cI, 60, .inl (fun zj => nI (aE zj)))), (qb, .inl (cI, 60, .inl (fun zj => nI (aB zj)))), (p0, .inr (ciPA, [.ref pb, .ref ps, .int pC])), (pb, .inl (cC, 120, .inl pB)), (ps, .inl (cI, 21, .inl (fun zj => nI (pS zj))))]
    refine ig_iload_n hx hb 3 d_IR_lastFitting_10 rfl rfl ?_
    obtain ⟨h1, hv⟩ := hv
    refine ig_if_ltP (tgt := 43) hx hb k rfl d_IR_lastFitting_11 (by decide) h1 (fun h => ?_) (fun j1 h => ?_)
    · have hv := hv.1 h
      refine ig_iconst (v := (-1)) hx hb d_IR_lastFitting_43 (by decide) ?_
      exact hret 44 _ (-1) (mNc, mBc) d_IR_lastFitting_44 hv
    · subst h
      have hv := hv.2 j1 rfl
      rw [nI_pred]
      refine ig_aload_n hx hb 0 d_IR_lastFitting_14 rfl rfl ?_
      refine ig_get hx hb hts in_IR hown hK 0 rfl rfl 5 (by decide) (hts _ kw_0_94) (fun _ h => h) rfl d_IR_lastFitting_15 ?_
      refine ig_aload_n hx hb 0 d_IR_lastFitting_18 rfl rfl ?_
      refine ig_get hx hb hts in_IR hown hK 0 rfl rfl 2 (by decide) (hts _ kw_0_91) (fun _ h => h) rfl d_IR_lastFitting_19 ?_
      refine ig_iload_n hx hb 3 d_IR_lastFitting_22 rfl rfl ?_
      refine ig_aload_n hx hb 0 d_IR_lastFitting_23 rfl rfl ?_
      refine ig_get hx hb hts in_IR hown hK 0 rfl rfl 4 (by decide) (hts _ kw_0_93) (fun _ h => h) rfl d_IR_lastFitting_24 ?_
      refine ig_iload_n hx hb 1 d_IR_lastFitting_27 rfl rfl ?_
      refine ig_iload_n hx hb 2 d_IR_lastFitting_28 rfl rfl ?_
      obtain ⟨hc, hv⟩ := hv
      refine ig_cVNi (As := [.ref q0, .int (nI j1), .ref p0, .int (nI n), .int (bI d)]) (rest := []) (wr := [(x0, .inr (ciIR, [.ref qT, .int tl, .ref q0, .ref s0, .ref p0, .ref m0]))]) (ws' := fun u => [(x0, .inr (ciIR, [.ref qT, .int tl, .ref q0, .ref s0, .ref p0, .ref m0])), (m0, .inr (ciMA, [.ref mn, .ref mb])), (mn, .inl (cZ, 21, .inl (fun zj => bI (u.1 zj)))), (mb, .inl (cZ, 121, .inl (fun zj => bI (u.2 zj)))), (q0, .inr (ciRL, [.ref qt, .ref qs, .ref qe, .ref qb, .ref ql, .int (nI nC)])), (qt, .inl (cC, 1000, .inl tT)), (qs, .inl (cI, 60, .inl (fun zj => nI (aS zj)))), (qe, .inl (cI, 60, .inl (fun zj => nI (aE zj)))), (qb, .inl (cI, 60, .inl (fun zj => nI (aB zj)))), (p0, .inr (ciPA, [.ref pb, .ref ps, .int pC])), (pb, .inl (cC, 120, .inl pB)), (ps, .inl (cI, 21, .inl (fun zj => nI (pS zj))))]) hx hb hml hown hts hK hN hA (fun sz => c_MA_ruleFits l dC dI cC cI cZ cL m0 mn mb q0 qt qs qe qb ql p0 pb ps (nI nC) pC mNc mBc tT aS aE aB pB pS j1 n d sz hc) ⟨va_cnB 5 hts g_MA_ruleFits rfl rfl rfl (nk_7 hN) (hts _ kw_0_4) (by decide +kernel) (by decide), (hts _ kw_1_54), (hts _ ks_MA_ruleFits)⟩ rfl rfl (Nat.le_of_ble_eq_true rfl) d_IR_lastFitting_29 (by decide) 0 rfl rfl [1, 2, 3, 4, 5, 6, 7, 8, 9, 10, 11] [0] [0, 1, 2, 3, 4, 5, 6, 7, 8, 9, 10, 11] rfl rfl (by decide) (by decide) (by decide) (fun _ => rfl) (fun _ => rfl) (fun r u hr => ?_)
      obtain ⟨mN2, mB3⟩ := u
      obtain ⟨rr, rfl, hr⟩ := hr
      unfold p_MA_ruleFits at hr
      subst hr
      have hv := hv mN2 mB3
      refine ig_if_eqB (tgt := 37) hx hb (sp_rf tT (aS j1) (aE j1) (aB j1) pB pS n d) rfl d_IR_lastFitting_32 (by decide) (fun h => ?_) (fun h => ?_)
      · have hv := hv.1 h
        refine ig_iinc (v := (nI j1 - 1)) (lv' := [(3, .int (nI j1 - 1)), (0, .ref x0), (1, .int (nI n)), (2, .int (bI d))]) hx hb 3 d_IR_lastFitting_37 rfl (ig_toP j1) (by decide) rfl ?_
        refine ig_goto (tgt := 10) hx hb d_IR_lastFitting_40 (by decide) ?_
        refine ig_lv (lv' := [(0, .ref x0), (1, .int (nI n)), (2, .int (bI d)), (3, .int (nI j1 - 1))]) [1, 2, 3, 0] rfl ?_
        rw [hK10] at hv
        exact hv
      · have hv := hv.2 h
        refine ig_iload_n hx hb 3 d_IR_lastFitting_35 rfl rfl ?_
        exact hret 36 _ (nI j1) (mN2, mB3) d_IR_lastFitting_36 hv
  have hv := t_IR_lastFitting mN mB tT aS aE aB pB pS nC n d hr K10 k10
  unfold v_IR_lastFitting at hv
  refine ig_aload_n hx hb 0 d_IR_lastFitting_0 rfl rfl ?_
  refine ig_get hx hb hts in_IR hown hK 0 rfl rfl 2 (by decide) (hts _ kw_0_91) (fun _ h => h) rfl d_IR_lastFitting_1 ?_
  refine ig_getN hx hb hts in_RL hown hK 4 rfl rfl 5 (by decide) (va_Nw.use rfl (fk_7 hN)) (fun _ h => h) rfl d_IR_lastFitting_4 ?_
  refine ig_iconst (v := 1) hx hb d_IR_lastFitting_7 (by decide) ?_
  refine ig_isub hx hb d_IR_lastFitting_8 ?_
  refine ig_istore_n (lv' := [(3, .int (nI nC - 1)), (0, .ref x0), (1, .int (nI n)), (2, .int (bI d))]) hx hb d_IR_lastFitting_9 rfl (by decide) rfl ?_
  refine ig_lv (lv' := [(0, .ref x0), (1, .int (nI n)), (2, .int (bI d)), (3, .int (nI nC - 1))]) [1, 2, 3, 0] rfl ?_
  rw [hK10] at hv
  exact hv
theorem d_IR_leavesOut_0 : decode b_IR_leavesOut 0 = .ok (.iload_n 1, 1) := by decide +kernel
theorem d_IR_leavesOut_1 : decode b_IR_leavesOut 1 = .ok (.iconst (-1), 1) := by decide +kernel
theorem d_IR_leavesOut_2 : decode b_IR_leavesOut 2 = .ok (.if_icmp .eq 21, 3) := by decide +kernel
theorem d_IR_leavesOut_5 : decode b_IR_leavesOut 5 = .ok (.aload_n 0, 1) := by decide +kernel
theorem d_IR_leavesOut_6 : decode b_IR_leavesOut 6 = .ok (.getfield 16, 3) := by decide +kernel
theorem d_IR_leavesOut_9 : decode b_IR_leavesOut 9 = .ok (.getfield 61, 3) := by decide +kernel
theorem d_IR_leavesOut_12 : decode b_IR_leavesOut 12 = .ok (.iload_n 1, 1) := by decide +kernel
theorem d_IR_leavesOut_13 : decode b_IR_leavesOut 13 = .ok (.iaload, 1) := by decide +kernel
theorem d_IR_leavesOut_14 : decode b_IR_leavesOut 14 = .ok (.iconst 1, 1) := by decide +kernel
theorem d_IR_leavesOut_15 : decode b_IR_leavesOut 15 = .ok (.iand, 1) := by decide +kernel
theorem d_IR_leavesOut_16 : decode b_IR_leavesOut 16 = .ok (.ifCond .ne 7, 3) := by decide +kernel
theorem d_IR_leavesOut_19 : decode b_IR_leavesOut 19 = .ok (.iconst 1, 1) := by decide +kernel
theorem d_IR_leavesOut_20 : decode b_IR_leavesOut 20 = .ok (.goto 4, 3) := by decide +kernel
theorem d_IR_leavesOut_23 : decode b_IR_leavesOut 23 = .ok (.iconst 0, 1) := by decide +kernel
theorem d_IR_leavesOut_24 : decode b_IR_leavesOut 24 = .ok (.ireturn, 1) := by decide +kernel
abbrev w_IR_leavesOut : List Cond := Cond.code y_IR_leavesOut b_IR_leavesOut 2 (some .boolean) :: ig_T
theorem g_IR_leavesOut : GoodIn ig_T w_IR_leavesOut := ig_T_good (ig_T_mem (List.mem_append_right _ (List.mem_append_left _ (List.mem_of_getElem? (i := 99) rfl))) rfl)
set_option maxHeartbeats 4000000 in
set_option maxRecDepth 100000 in
theorem c_IR_leavesOut (l : Launch) (dC : Nat → ClassId) (dI : Nat → Nat → Nat) (cC cI cZ cL : ClassId) (x0 qT q0 s0 p0 m0 qt qs qe qb ql : Nat) (tl : Int32) (nC : Int32) (aB : Nat → Nat) (x : Int32) (sz : Nat) (hr : r_IR_leavesOut aB x) : Met l y_IR_leavesOut w_IR_leavesOut ({ frames := 0, cells := 0, slots := 0, locals := 0 }) (ig_Pc (dC, dI) ig_cl0 [(cC, .char), (cI, .int), (cZ, .boolean), (cL, .long)] [.ref x0, .int x] [(x0, .inr (ciIR, [.ref qT, .int tl, .ref q0, .ref s0, .ref p0, .ref m0])), (q0, .inr (ciRL, [.ref qt, .ref qs, .ref qe, .ref qb, .ref ql, .int nC])), (qb, .inl (cI, 60, .inl (fun zj => nI (aB zj))))] sz) (va_Qi (fun (r : Int32) (u : Unit) => ∃ zr : Bool, r = bI zr ∧ p_IR_leavesOut aB x zr ) (fun u t => va_P (dC, dI) ig_cl0 ((fun (u : Unit) => [(x0, .inr (ciIR, [.ref qT, .int tl, .ref q0, .ref s0, .ref p0, .ref m0])), (q0, .inr (ciRL, [.ref qt, .ref qs, .ref qe, .ref qb, .ref ql, .int nC])), (qb, .inl (cI, 60, .inl (fun zj => nI (aB zj))))]) u) t.heap ∧ va_D (va_A [(x0, .inr (ciIR, [.ref qT, .int tl, .ref q0, .ref s0, .ref p0, .ref m0])), (q0, .inr (ciRL, [.ref qt, .ref qs, .ref qe, .ref qb, .ref ql, .int nC])), (qb, .inl (cI, 60, .inl (fun zj => nI (aB zj))))] sz) ((fun (u : Unit) => [(x0, .inr (ciIR, [.ref qT, .int tl, .ref q0, .ref s0, .ref p0, .ref m0])), (q0, .inr (ciRL, [.ref qt, .ref qs, .ref qe, .ref qb, .ref ql, .int nC])), (qb, .inl (cI, 60, .inl (fun zj => nI (aB zj))))]) u)) (va_A [(x0, .inr (ciIR, [.ref qT, .int tl, .ref q0, .ref s0, .ref p0, .ref m0])), (q0, .inr (ciRL, [.ref qt, .ref qs, .ref qe, .ref qb, .ref ql, .int nC])), (qb, .inl (cI, 60, .inl (fun zj => nI (aB zj))))] sz)) 0 0 (va_A [(x0, .inr (ciIR, [.ref qT, .int tl, .ref q0, .ref s0, .ref p0, .ref m0])), (q0, .inr (ciRL, [.ref qt, .ref qs, .ref qe, .ref qb, .ref ql, .int nC])), (qb, .inl (cI, 60, .inl (fun zj => nI (aB zj))))] sz) := by
  refine ig_metI (fun (r : Int32) (u : Unit) => ∃ zr : Bool, r = bI zr ∧ p_IR_leavesOut aB x zr ) (fun (u : Unit) => [(x0, .inr (ciIR, [.ref qT, .int tl, .ref q0, .ref s0, .ref p0, .ref m0])), (q0, .inr (ciRL, [.ref qt, .ref qs, .ref qe, .ref qb, .ref ql, .int nC])), (qb, .inl (cI, 60, .inl (fun zj => nI (aB zj))))]) (by decide) rfl (Nat.le_of_ble_eq_true rfl) rfl (by rintro r u ⟨b, rfl, -⟩; exact bI_ret b) ?_
  intro zp ze zs zm zargs zbelow zmeth zc zA zQ hx hb hml hown hts hK hN hA hret
  have hv := t_IR_leavesOut aB x hr 
  unfold v_IR_leavesOut at hv
  refine ig_iload_n hx hb 1 d_IR_leavesOut_0 rfl rfl ?_
  refine ig_iconst (v := (-1)) hx hb d_IR_leavesOut_1 (by decide) ?_
  refine ig_icmp_eq (tgt := 23) hx hb d_IR_leavesOut_2 (by decide) (fun h => ?_) (fun h => ?_)
  · have hv := hv.1 h
    refine ig_iconst (v := 0) hx hb d_IR_leavesOut_23 (by decide) ?_
    exact hret 24 _ 0 () d_IR_leavesOut_24 ⟨false, rfl, hv⟩
  · have hv := hv.2 h
    obtain ⟨k1, he, hv⟩ := hv
    rw [he]
    refine ig_aload_n hx hb 0 d_IR_leavesOut_5 rfl rfl ?_
    refine ig_get hx hb hts in_IR hown hK 0 rfl rfl 2 (by decide) (hts _ kw_0_91) (fun _ h => h) rfl d_IR_leavesOut_6 ?_
    refine ig_getN hx hb hts in_RL hown hK 1 rfl rfl 3 (by decide) (va_Nw.use rfl (fk_5 hN)) (fun _ h => h) rfl d_IR_leavesOut_9 ?_
    refine ig_iload_n hx hb 1 d_IR_leavesOut_12 rfl rfl ?_
    obtain ⟨hc, hv⟩ := hv
    refine ig_iald (x := (nI (aB k1))) hx hb hK 2 1 rfl rfl k1 rfl hc (by decide) rfl d_IR_leavesOut_13 ?_
    refine ig_iconst (v := 1) hx hb d_IR_leavesOut_14 (by decide) ?_
    refine ig_iandN hx hb (aB k1) 1 rfl rfl d_IR_leavesOut_15 ?_
    obtain ⟨h1, hv⟩ := hv
    refine ig_if_neN (tgt := 23) hx hb ((aB k1) &&& 1) rfl d_IR_leavesOut_16 (by decide) h1 (fun h => ?_) (fun h => ?_)
    · have hv := hv.1 h
      refine ig_iconst (v := 0) hx hb d_IR_leavesOut_23 (by decide) ?_
      exact hret 24 _ 0 () d_IR_leavesOut_24 ⟨false, rfl, hv⟩
    · have hv := hv.2 h
      refine ig_iconst (v := 1) hx hb d_IR_leavesOut_19 (by decide) ?_
      refine ig_goto (tgt := 24) hx hb d_IR_leavesOut_20 (by decide) ?_
      exact hret 24 _ 1 () d_IR_leavesOut_24 ⟨true, rfl, hv⟩
theorem d_IR_decidingDepth_0 : decode b_IR_decidingDepth 0 = .ok (.iconst 1, 1) := by decide +kernel
theorem d_IR_decidingDepth_1 : decode b_IR_decidingDepth 1 = .ok (.istore_n 1, 1) := by decide +kernel
theorem d_IR_decidingDepth_2 : decode b_IR_decidingDepth 2 = .ok (.iload_n 1, 1) := by decide +kernel
theorem d_IR_decidingDepth_3 : decode b_IR_decidingDepth 3 = .ok (.aload_n 0, 1) := by decide +kernel
theorem d_IR_decidingDepth_4 : decode b_IR_decidingDepth 4 = .ok (.getfield 26, 3) := by decide +kernel
theorem d_IR_decidingDepth_7 : decode b_IR_decidingDepth 7 = .ok (.getfield 75, 3) := by decide +kernel
theorem d_IR_decidingDepth_10 : decode b_IR_decidingDepth 10 = .ok (.if_icmp .ge 24, 3) := by decide +kernel
theorem d_IR_decidingDepth_13 : decode b_IR_decidingDepth 13 = .ok (.aload_n 0, 1) := by decide +kernel
theorem d_IR_decidingDepth_14 : decode b_IR_decidingDepth 14 = .ok (.aload_n 0, 1) := by decide +kernel
theorem d_IR_decidingDepth_15 : decode b_IR_decidingDepth 15 = .ok (.iload_n 1, 1) := by decide +kernel
theorem d_IR_decidingDepth_16 : decode b_IR_decidingDepth 16 = .ok (.iconst 1, 1) := by decide +kernel
theorem d_IR_decidingDepth_17 : decode b_IR_decidingDepth 17 = .ok (.invokevirtual 87, 3) := by decide +kernel
theorem d_IR_decidingDepth_20 : decode b_IR_decidingDepth 20 = .ok (.invokevirtual 91, 3) := by decide +kernel
theorem d_IR_decidingDepth_23 : decode b_IR_decidingDepth 23 = .ok (.ifCond .eq 5, 3) := by decide +kernel
theorem d_IR_decidingDepth_26 : decode b_IR_decidingDepth 26 = .ok (.iload_n 1, 1) := by decide +kernel
theorem d_IR_decidingDepth_27 : decode b_IR_decidingDepth 27 = .ok (.ireturn, 1) := by decide +kernel
theorem d_IR_decidingDepth_28 : decode b_IR_decidingDepth 28 = .ok (.iinc 1 1, 3) := by decide +kernel
theorem d_IR_decidingDepth_31 : decode b_IR_decidingDepth 31 = .ok (.goto (-29), 3) := by decide +kernel
theorem d_IR_decidingDepth_34 : decode b_IR_decidingDepth 34 = .ok (.aload_n 0, 1) := by decide +kernel
theorem d_IR_decidingDepth_35 : decode b_IR_decidingDepth 35 = .ok (.getfield 26, 3) := by decide +kernel
theorem d_IR_decidingDepth_38 : decode b_IR_decidingDepth 38 = .ok (.getfield 75, 3) := by decide +kernel
theorem d_IR_decidingDepth_41 : decode b_IR_decidingDepth 41 = .ok (.ireturn, 1) := by decide +kernel
abbrev w_IR_decidingDepth : List Cond := Cond.code y_IR_decidingDepth b_IR_decidingDepth 2 (some .int) :: ig_T
theorem g_IR_decidingDepth : GoodIn ig_T w_IR_decidingDepth := ig_T_good (ig_T_mem (List.mem_append_right _ (List.mem_append_left _ (List.mem_of_getElem? (i := 91) rfl))) rfl)
set_option maxHeartbeats 4000000 in
set_option maxRecDepth 100000 in
theorem c_IR_decidingDepth (l : Launch) (dC : Nat → ClassId) (dI : Nat → Nat → Nat) (cC cI cZ cL : ClassId) (x0 qT q0 s0 p0 m0 mn mb qt qs qe qb ql pb ps : Nat) (tl : Int32) (mN : Nat → Bool) (mB : Nat → Bool) (tT : Nat → Int32) (aS : Nat → Nat) (aE : Nat → Nat) (aB : Nat → Nat) (pB : Nat → Int32) (pS : Nat → Nat) (nC : Nat) (pC : Nat) (sz : Nat) (hr : r_IR_decidingDepth mN mB tT aS aE aB pB pS nC pC) : Met l y_IR_decidingDepth w_IR_decidingDepth ({ frames := 5, cells := 0, slots := 0, locals := 141 }) (ig_Pc (dC, dI) ig_cl0 [(cC, .char), (cI, .int), (cZ, .boolean), (cL, .long)] [.ref x0] [(x0, .inr (ciIR, [.ref qT, .int tl, .ref q0, .ref s0, .ref p0, .ref m0])), (m0, .inr (ciMA, [.ref mn, .ref mb])), (mn, .inl (cZ, 21, .inl (fun zj => bI (mN zj)))), (mb, .inl (cZ, 121, .inl (fun zj => bI (mB zj)))), (q0, .inr (ciRL, [.ref qt, .ref qs, .ref qe, .ref qb, .ref ql, .int (nI nC)])), (qt, .inl (cC, 1000, .inl tT)), (qs, .inl (cI, 60, .inl (fun zj => nI (aS zj)))), (qe, .inl (cI, 60, .inl (fun zj => nI (aE zj)))), (qb, .inl (cI, 60, .inl (fun zj => nI (aB zj)))), (p0, .inr (ciPA, [.ref pb, .ref ps, .int (nI pC)])), (pb, .inl (cC, 120, .inl pB)), (ps, .inl (cI, 21, .inl (fun zj => nI (pS zj))))] sz) (va_Qi (fun (r : Int32) (u : (Nat → Bool) × (Nat → Bool)) => ∃ zr : Nat, r = nI zr ∧ p_IR_decidingDepth mN mB tT aS aE aB pB pS nC pC zr u.1 u.2) (fun u t => va_P (dC, dI) ig_cl0 ((fun (u : (Nat → Bool) × (Nat → Bool)) => [(x0, .inr (ciIR, [.ref qT, .int tl, .ref q0, .ref s0, .ref p0, .ref m0])), (m0, .inr (ciMA, [.ref mn, .ref mb])), (mn, .inl (cZ, 21, .inl (fun zj => bI (u.1 zj)))), (mb, .inl (cZ, 121, .inl (fun zj => bI (u.2 zj)))), (q0, .inr (ciRL, [.ref qt, .ref qs, .ref qe, .ref qb, .ref ql, .int (nI nC)])), (qt, .inl (cC, 1000, .inl tT)), (qs, .inl (cI, 60, .inl (fun zj => nI (aS zj)))), (qe, .inl (cI, 60, .inl (fun zj => nI (aE zj)))), (qb, .inl (cI, 60, .inl (fun zj => nI (aB zj)))), (p0, .inr (ciPA, [.ref pb, .ref ps, .int (nI pC)])), (pb, .inl (cC, 120, .inl pB)), (ps, .inl (cI, 21, .inl (fun zj => nI (pS zj))))]) u) t.heap ∧ va_D (va_A [(x0, .inr (ciIR, [.ref qT, .int tl, .ref q0, .ref s0, .ref p0, .ref m0])), (m0, .inr (ciMA, [.ref mn, .ref mb])), (mn, .inl (cZ, 21, .inl (fun zj => bI (mN zj)))), (mb, .inl (cZ, 121, .inl (fun zj => bI (mB zj)))), (q0, .inr (ciRL, [.ref qt, .ref qs, .ref qe, .ref qb, .ref ql, .int (nI nC)])), (qt, .inl (cC, 1000, .inl tT)), (qs, .inl (cI, 60, .inl (fun zj => nI (aS zj)))), (qe, .inl (cI, 60, .inl (fun zj => nI (aE zj)))), (qb, .inl (cI, 60, .inl (fun zj => nI (aB zj)))), (p0, .inr (ciPA, [.ref pb, .ref ps, .int (nI pC)])), (pb, .inl (cC, 120, .inl pB)), (ps, .inl (cI, 21, .inl (fun zj => nI (pS zj))))] sz) ((fun (u : (Nat → Bool) × (Nat → Bool)) => [(x0, .inr (ciIR, [.ref qT, .int tl, .ref q0, .ref s0, .ref p0, .ref m0])), (m0, .inr (ciMA, [.ref mn, .ref mb])), (mn, .inl (cZ, 21, .inl (fun zj => bI (u.1 zj)))), (mb, .inl (cZ, 121, .inl (fun zj => bI (u.2 zj)))), (q0, .inr (ciRL, [.ref qt, .ref qs, .ref qe, .ref qb, .ref ql, .int (nI nC)])), (qt, .inl (cC, 1000, .inl tT)), (qs, .inl (cI, 60, .inl (fun zj => nI (aS zj)))), (qe, .inl (cI, 60, .inl (fun zj => nI (aE zj)))), (qb, .inl (cI, 60, .inl (fun zj => nI (aB zj)))), (p0, .inr (ciPA, [.ref pb, .ref ps, .int (nI pC)])), (pb, .inl (cC, 120, .inl pB)), (ps, .inl (cI, 21, .inl (fun zj => nI (pS zj))))]) u)) (va_A [(x0, .inr (ciIR, [.ref qT, .int tl, .ref q0, .ref s0, .ref p0, .ref m0])), (m0, .inr (ciMA, [.ref mn, .ref mb])), (mn, .inl (cZ, 21, .inl (fun zj => bI (mN zj)))), (mb, .inl (cZ, 121, .inl (fun zj => bI (mB zj)))), (q0, .inr (ciRL, [.ref qt, .ref qs, .ref qe, .ref qb, .ref ql, .int (nI nC)])), (qt, .inl (cC, 1000, .inl tT)), (qs, .inl (cI, 60, .inl (fun zj => nI (aS zj)))), (qe, .inl (cI, 60, .inl (fun zj => nI (aE zj)))), (qb, .inl (cI, 60, .inl (fun zj => nI (aB zj)))), (p0, .inr (ciPA, [.ref pb, .ref ps, .int (nI pC)])), (pb, .inl (cC, 120, .inl pB)), (ps, .inl (cI, 21, .inl (fun zj => nI (pS zj))))] sz)) 0 0 (va_A [(x0, .inr (ciIR, [.ref qT, .int tl, .ref q0, .ref s0, .ref p0, .ref m0])), (m0, .inr (ciMA, [.ref mn, .ref mb])), (mn, .inl (cZ, 21, .inl (fun zj => bI (mN zj)))), (mb, .inl (cZ, 121, .inl (fun zj => bI (mB zj)))), (q0, .inr (ciRL, [.ref qt, .ref qs, .ref qe, .ref qb, .ref ql, .int (nI nC)])), (qt, .inl (cC, 1000, .inl tT)), (qs, .inl (cI, 60, .inl (fun zj => nI (aS zj)))), (qe, .inl (cI, 60, .inl (fun zj => nI (aE zj)))), (qb, .inl (cI, 60, .inl (fun zj => nI (aB zj)))), (p0, .inr (ciPA, [.ref pb, .ref ps, .int (nI pC)])), (pb, .inl (cC, 120, .inl pB)), (ps, .inl (cI, 21, .inl (fun zj => nI (pS zj))))] sz) := by
  refine ig_metI (fun (r : Int32) (u : (Nat → Bool) × (Nat → Bool)) => ∃ zr : Nat, r = nI zr ∧ p_IR_decidingDepth mN mB tT aS aE aB pB pS nC pC zr u.1 u.2) (fun (u : (Nat → Bool) × (Nat → Bool)) => [(x0, .inr (ciIR, [.ref qT, .int tl, .ref q0, .ref s0, .ref p0, .ref m0])), (m0, .inr (ciMA, [.ref mn, .ref mb])), (mn, .inl (cZ, 21, .inl (fun zj => bI (u.1 zj)))), (mb, .inl (cZ, 121, .inl (fun zj => bI (u.2 zj)))), (q0, .inr (ciRL, [.ref qt, .ref qs, .ref qe, .ref qb, .ref ql, .int (nI nC)])), (qt, .inl (cC, 1000, .inl tT)), (qs, .inl (cI, 60, .inl (fun zj => nI (aS zj)))), (qe, .inl (cI, 60, .inl (fun zj => nI (aE zj)))), (qb, .inl (cI, 60, .inl (fun zj => nI (aB zj)))), (p0, .inr (ciPA, [.ref pb, .ref ps, .int (nI pC)])), (pb, .inl (cC, 120, .inl pB)), (ps, .inl (cI, 21, .inl (fun zj => nI (pS zj))))]) (by decide) rfl (Nat.le_of_ble_eq_true rfl) rfl (fun _ _ _ => rfl) ?_
  intro zp ze zs zm zargs zbelow zmeth zc zA zQ hx hb hml hown hts hK hN hA hret
  obtain ⟨K2, hK2⟩ : ∃ K : Nat → (Nat → Bool) → (Nat → Bool) → Prop, K = fun (n : Nat) (mNc : Nat → Bool) (mBc : Nat → Bool) => ig_W zp l ze ({ frames := 5, cells := 0, slots := 0, locals := 141 }) zs zm zargs zbelow zmeth zc (dC, dI) ig_cl0 zA zs.heap 2 0 0 zQ 2 [(0, .ref x0), (1, .int (nI n))] [] [(x0, .inr (ciIR, [.ref qT, .int tl, .ref q0, .ref s0, .ref p0, .ref m0])), (m0, .inr (ciMA, [.ref mn, .ref mb])), (mn, .inl (cZ, 21, .inl (fun zj => bI (mNc zj)))), (mb, .inl (cZ, 121, .inl (fun zj => bI (mBc zj)))), (q0, .inr (ciRL, [.ref qt, .ref qs, .ref qe, .ref qb, .ref ql, .int (nI nC)])), (qt, .inl (cC, 1000, .inl tT)), (qs, .inl (cI, 60, .inl (fun zj => nI (aS zj)))), (qe, .inl (cI, 60, .inl (fun zj => nI (aE zj)))), (qb, .inl (cI, 60, .inl (fun zj => nI (aB zj)))), (p0, .inr (ciPA, [.ref pb, .ref ps, .int (nI pC)])), (pb, .inl (cC, 120, .inl pB)), (ps, .inl (cI, 21, .inl (fun zj => nI (pS zj))))] := ⟨_, rfl⟩
  have k2 : ∀ (n : Nat) (mNc : Nat → Bool) (mBc : Nat → Bool), v_IR_decidingDepth_2 mN mB tT aS aE aB pB pS nC pC K2 (p_IR_decidingDepth mN mB tT aS aE aB pB pS nC pC) n mNc mBc → K2 n mNc mBc := by
    intro n mNc mBc hv
    unfold v_IR_decidingDepth_2 at hv
    rw [hK2]
    show ig_W zp l ze ({ frames := 5, cells := 0, slots := 0, locals := 141 }) zs zm zargs zbelow zmeth zc (dC, dI) ig_cl0 zA zs.heap 2 0 0 zQ 2 [(0, .ref x0), (1, .int (nI n))] [] [(x0, .inr (ciIR, [.ref qT, .int tl, .ref q0, .ref s0, .ref p0, .ref m0])), (m0, .inr (ciMA, [.ref mn, .ref mb])), (mn, .inl (cZ, 21, .inl (fun zj => bI (mNc zj)))), (mb, .inl (cZ, 121, .inl (fun zj => bI (mBc zj)))), (q0, .inr (ciRL, [.ref qt, .ref qs, .ref qe, .ref qb, .ref ql, .int (nI nC)])), (qt, .inl (cC, 1000, .inl tT)), (qs, .inl (cI, 60, .inl (fun zj => nI (aS zj)))), (qe, .inl (cI, 60, .inl (fun zj => nI (aE zj)))), (qb, .inl (cI, 60, .inl (fun zj => nI (aB zj)))), (p0, .inr (ciPA, [.ref pb, .ref ps, .int (nI pC)])), (pb, .inl (cC, 120, .inl pB)), (ps, .inl (cI, 21, .inl (fun zj => nI (pS zj))))]
    refine ig_iload_n hx hb 1 d_IR_decidingDepth_2 rfl rfl ?_
    refine ig_aload_n hx hb 0 d_IR_decidingDepth_3 rfl rfl ?_
    refine ig_get hx hb hts in_IR hown hK 0 rfl rfl 4 (by decide) (hts _ kw_0_93) (fun _ h => h) rfl d_IR_decidingDepth_4 ?_
    refine ig_getN hx hb hts in_PA hown hK 9 rfl rfl 2 (by decide) (va_Nw.use rfl (fk_10 hN)) (fun _ h => h) rfl d_IR_decidingDepth_7 ?_
    obtain ⟨h1, hv⟩ := hv
    obtain ⟨h2, hv⟩ := hv
    refine ig_icmp_geN (tgt := 34) hx hb n pC rfl rfl d_IR_decidingDepth_10 (by decide) h1 h2 (fun h => ?_) (fun h => ?_)
    · have hv := hv.1 h
      refine ig_aload_n hx hb 0 d_IR_decidingDepth_34 rfl rfl ?_
      refine ig_get hx hb hts in_IR hown hK 0 rfl rfl 4 (by decide) (hts _ kw_0_93) (fun _ h => h) rfl d_IR_decidingDepth_35 ?_
      refine ig_getN hx hb hts in_PA hown hK 9 rfl rfl 2 (by decide) (va_Nw.use rfl (fk_10 hN)) (fun _ h => h) rfl d_IR_decidingDepth_38 ?_
      exact hret 41 _ (nI pC) (mNc, mBc) d_IR_decidingDepth_41 ⟨pC, rfl, hv⟩
    · have hv := hv.2 h
      refine ig_aload_n hx hb 0 d_IR_decidingDepth_13 rfl rfl ?_
      refine ig_aload_n hx hb 0 d_IR_decidingDepth_14 rfl rfl ?_
      refine ig_iload_n hx hb 1 d_IR_decidingDepth_15 rfl rfl ?_
      refine ig_iconst (v := 1) hx hb d_IR_decidingDepth_16 (by decide) ?_
      obtain ⟨hc, hv⟩ := hv
      refine ig_cVi (As := [.int (nI n), .int 1]) (rest := [.ref x0]) (wr := []) (ws' := fun u => [(x0, .inr (ciIR, [.ref qT, .int tl, .ref q0, .ref s0, .ref p0, .ref m0])), (m0, .inr (ciMA, [.ref mn, .ref mb])), (mn, .inl (cZ, 21, .inl (fun zj => bI (u.1 zj)))), (mb, .inl (cZ, 121, .inl (fun zj => bI (u.2 zj)))), (q0, .inr (ciRL, [.ref qt, .ref qs, .ref qe, .ref qb, .ref ql, .int (nI nC)])), (qt, .inl (cC, 1000, .inl tT)), (qs, .inl (cI, 60, .inl (fun zj => nI (aS zj)))), (qe, .inl (cI, 60, .inl (fun zj => nI (aE zj)))), (qb, .inl (cI, 60, .inl (fun zj => nI (aB zj)))), (p0, .inr (ciPA, [.ref pb, .ref ps, .int (nI pC)])), (pb, .inl (cC, 120, .inl pB)), (ps, .inl (cI, 21, .inl (fun zj => nI (pS zj))))]) hx hb hml hown hts hK hN hA (fun sz => c_IR_lastFitting l dC dI cC cI cZ cL x0 qT q0 s0 p0 m0 mn mb qt qs qe qb ql pb ps tl (nI pC) mNc mBc tT aS aE aB pB pS nC n true sz hc) ⟨callB_of 2 hts g_IR_lastFitting rfl rfl rfl (hts _ kw_0_1) (hts _ kw_1_92) (by decide +kernel) (by decide), (hts _ kw_1_94), (hts _ ks_IR_lastFitting)⟩ rfl rfl (Nat.le_of_ble_eq_true rfl) d_IR_decidingDepth_17 (by decide) 0 rfl rfl [0, 1, 2, 3, 4, 5, 6, 7, 8, 9, 10, 11] [] [0, 1, 2, 3, 4, 5, 6, 7, 8, 9, 10, 11] rfl rfl (by decide) (by decide) (by decide) (fun _ => rfl) (fun _ => rfl) (fun r u hr => ?_)
      obtain ⟨mN1, mB2⟩ := u
      unfold p_IR_lastFitting at hr
      subst hr
      have hv := hv mN1 mB2
      obtain ⟨hc, hv⟩ := hv
      refine ig_cVi (As := [.int (sp_lfit tT aS aE aB pB pS nC n true)]) (rest := []) (wr := [(m0, .inr (ciMA, [.ref mn, .ref mb])), (mn, .inl (cZ, 21, .inl (fun zj => bI (mN1 zj)))), (mb, .inl (cZ, 121, .inl (fun zj => bI (mB2 zj)))), (qt, .inl (cC, 1000, .inl tT)), (qs, .inl (cI, 60, .inl (fun zj => nI (aS zj)))), (qe, .inl (cI, 60, .inl (fun zj => nI (aE zj)))), (p0, .inr (ciPA, [.ref pb, .ref ps, .int (nI pC)])), (pb, .inl (cC, 120, .inl pB)), (ps, .inl (cI, 21, .inl (fun zj => nI (pS zj))))]) (ws' := fun u => [(x0, .inr (ciIR, [.ref qT, .int tl, .ref q0, .ref s0, .ref p0, .ref m0])), (m0, .inr (ciMA, [.ref mn, .ref mb])), (mn, .inl (cZ, 21, .inl (fun zj => bI (mN1 zj)))), (mb, .inl (cZ, 121, .inl (fun zj => bI (mB2 zj)))), (q0, .inr (ciRL, [.ref qt, .ref qs, .ref qe, .ref qb, .ref ql, .int (nI nC)])), (qt, .inl (cC, 1000, .inl tT)), (qs, .inl (cI, 60, .inl (fun zj => nI (aS zj)))), (qe, .inl (cI, 60, .inl (fun zj => nI (aE zj)))), (qb, .inl (cI, 60, .inl (fun zj => nI (aB zj)))), (p0, .inr (ciPA, [.ref pb, .ref ps, .int (nI pC)])), (pb, .inl (cC, 120, .inl pB)), (ps, .inl (cI, 21, .inl (fun zj => nI (pS zj))))]) hx hb hml hown hts hK hN hA (fun sz => c_IR_leavesOut l dC dI cC cI cZ cL x0 qT q0 s0 p0 m0 qt qs qe qb ql tl (nI nC) aB (sp_lfit tT aS aE aB pB pS nC n true) sz hc) ⟨callB_of 1 hts g_IR_leavesOut rfl rfl rfl (hts _ kw_0_1) (hts _ kw_1_96) (by decide +kernel) (by decide), (hts _ kw_1_98), (hts _ ks_IR_leavesOut)⟩ rfl rfl (Nat.le_of_ble_eq_true rfl) d_IR_decidingDepth_20 (by decide) 0 rfl rfl [0, 4, 8] [1, 2, 3, 5, 6, 7, 9, 10, 11] [9, 0, 1, 2, 10, 3, 4, 5, 11, 6, 7, 8] rfl rfl (by decide) (by decide) (by decide) (fun _ => rfl) (fun _ => rfl) (fun r u hr => ?_)
      obtain ⟨rr, rfl, hr⟩ := hr
      unfold p_IR_leavesOut at hr
      subst hr
      refine ig_if_eqB (tgt := 28) hx hb (sp_lo aB (sp_lfit tT aS aE aB pB pS nC n true)) rfl d_IR_decidingDepth_23 (by decide) (fun h => ?_) (fun h => ?_)
      · have hv := hv.1 h
        refine ig_iinc (v := (nI (n + 1))) (lv' := [(1, .int (nI (n + 1))), (0, .ref x0)]) hx hb 1 d_IR_decidingDepth_28 rfl (ig_inc n 1 (by decide)) (by decide) rfl ?_
        refine ig_goto (tgt := 2) hx hb d_IR_decidingDepth_31 (by decide) ?_
        refine ig_lv (lv' := [(0, .ref x0), (1, .int (nI (n + 1)))]) [1, 0] rfl ?_
        rw [hK2] at hv
        exact hv
      · have hv := hv.2 h
        refine ig_iload_n hx hb 1 d_IR_decidingDepth_26 rfl rfl ?_
        exact hret 27 _ (nI n) (mN1, mB2) d_IR_decidingDepth_27 ⟨n, rfl, hv⟩
  have hv := t_IR_decidingDepth mN mB tT aS aE aB pB pS nC pC hr K2 k2
  unfold v_IR_decidingDepth at hv
  refine ig_iconst (v := 1) hx hb d_IR_decidingDepth_0 (by decide) ?_
  refine ig_istore_n (lv' := [(1, .int 1), (0, .ref x0)]) hx hb d_IR_decidingDepth_1 rfl (by decide) rfl ?_
  refine ig_lv (lv' := [(0, .ref x0), (1, .int 1)]) [1, 0] rfl ?_
  rw [hK2] at hv
  exact hv
theorem d_IR_wipe_0 : decode b_IR_wipe 0 = .ok (.aload_n 0, 1) := by decide +kernel
theorem d_IR_wipe_1 : decode b_IR_wipe 1 = .ok (.getfield 44, 3) := by decide +kernel
theorem d_IR_wipe_4 : decode b_IR_wipe 4 = .ok (.istore_n 1, 1) := by decide +kernel
theorem d_IR_wipe_5 : decode b_IR_wipe 5 = .ok (.aload_n 0, 1) := by decide +kernel
theorem d_IR_wipe_6 : decode b_IR_wipe 6 = .ok (.iconst 0, 1) := by decide +kernel
theorem d_IR_wipe_7 : decode b_IR_wipe 7 = .ok (.putfield 44, 3) := by decide +kernel
theorem d_IR_wipe_10 : decode b_IR_wipe 10 = .ok (.iload_n 1, 1) := by decide +kernel
theorem d_IR_wipe_11 : decode b_IR_wipe 11 = .ok (.ireturn, 1) := by decide +kernel
abbrev w_IR_wipe : List Cond := Cond.code y_IR_wipe b_IR_wipe 2 (some .int) :: ig_T
theorem g_IR_wipe : GoodIn ig_T w_IR_wipe := ig_T_good (ig_T_mem (List.mem_append_left _ (List.mem_of_getElem? (i := 111) rfl)) rfl)
set_option maxHeartbeats 4000000 in
set_option maxRecDepth 100000 in
theorem c_IR_wipe (l : Launch) (dC : Nat → ClassId) (dI : Nat → Nat → Nat) (cC cI cZ cL : ClassId) (x0 qT q0 s0 p0 m0 : Nat)  (tl : Nat) (sz : Nat) : Met l y_IR_wipe w_IR_wipe ({ frames := 0, cells := 0, slots := 0, locals := 0 }) (ig_Pc (dC, dI) ig_cl0 [(cC, .char), (cI, .int), (cZ, .boolean), (cL, .long)] [.ref x0] [(x0, .inr (ciIR, [.ref qT, .int (nI tl), .ref q0, .ref s0, .ref p0, .ref m0]))] sz) (va_Qi (fun (r : Int32) (u : Nat) => ∃ zr : Nat, r = nI zr ∧ p_IR_wipe tl zr u) (fun u t => va_P (dC, dI) ig_cl0 ((fun (u : Nat) => [(x0, .inr (ciIR, [.ref qT, .int (nI u), .ref q0, .ref s0, .ref p0, .ref m0]))]) u) t.heap ∧ va_D (va_A [(x0, .inr (ciIR, [.ref qT, .int (nI tl), .ref q0, .ref s0, .ref p0, .ref m0]))] sz) ((fun (u : Nat) => [(x0, .inr (ciIR, [.ref qT, .int (nI u), .ref q0, .ref s0, .ref p0, .ref m0]))]) u)) (va_A [(x0, .inr (ciIR, [.ref qT, .int (nI tl), .ref q0, .ref s0, .ref p0, .ref m0]))] sz)) 0 0 (va_A [(x0, .inr (ciIR, [.ref qT, .int (nI tl), .ref q0, .ref s0, .ref p0, .ref m0]))] sz) := by
  refine ig_metI (fun (r : Int32) (u : Nat) => ∃ zr : Nat, r = nI zr ∧ p_IR_wipe tl zr u) (fun (u : Nat) => [(x0, .inr (ciIR, [.ref qT, .int (nI u), .ref q0, .ref s0, .ref p0, .ref m0]))]) (by decide) rfl (Nat.le_of_ble_eq_true rfl) rfl (fun _ _ _ => rfl) ?_
  intro zp ze zs zm zargs zbelow zmeth zc zA zQ hx hb hml hown hts hK hN hA hret
  have hv := t_IR_wipe tl 
  unfold v_IR_wipe at hv
  refine ig_aload_n hx hb 0 d_IR_wipe_0 rfl rfl ?_
  refine ig_get hx hb hts in_IR hown hK 0 rfl rfl 1 (by decide) (hts _ kw_0_90) (fun _ h => h) rfl d_IR_wipe_1 ?_
  refine ig_istore_n (lv' := [(1, .int (nI tl)), (0, .ref x0)]) hx hb d_IR_wipe_4 rfl (by decide) rfl ?_
  refine ig_aload_n hx hb 1 d_IR_wipe_5 rfl rfl ?_
  refine ig_iconst (v := 0) hx hb d_IR_wipe_6 (by decide) ?_
  refine ig_put (ty := .int) (v := .int 0) (ws' := [(x0, .inr (ciIR, [.ref qT, .int (nI 0), .ref q0, .ref s0, .ref p0, .ref m0]))]) hx hb hts in_IR t_IR t_IR_ok n_IR hown hK 0 rfl rfl 1 (by decide) (hts _ kw_0_90) (fun _ h => h) rfl (by decide +kernel) rfl rfl (Nat.le_of_ble_eq_true rfl) d_IR_wipe_7 rfl ?_
  refine ig_iload_n hx hb 0 d_IR_wipe_10 rfl rfl ?_
  exact hret 11 _ (nI tl) 0 d_IR_wipe_11 ⟨tl, rfl, hv⟩
theorem d_IR_path_0 : decode b_IR_path 0 = .ok (.aload_n 0, 1) := by decide +kernel
theorem d_IR_path_1 : decode b_IR_path 1 = .ok (.getfield 26, 3) := by decide +kernel
theorem d_IR_path_4 : decode b_IR_path 4 = .ok (.aload_n 0, 1) := by decide +kernel
theorem d_IR_path_5 : decode b_IR_path 5 = .ok (.getfield 9, 3) := by decide +kernel
theorem d_IR_path_8 : decode b_IR_path 8 = .ok (.aload_n 0, 1) := by decide +kernel
theorem d_IR_path_9 : decode b_IR_path 9 = .ok (.getfield 44, 3) := by decide +kernel
theorem d_IR_path_12 : decode b_IR_path 12 = .ok (.invokevirtual 74, 3) := by decide +kernel
theorem d_IR_path_15 : decode b_IR_path 15 = .ok (.ifCond .ne 5, 3) := by decide +kernel
theorem d_IR_path_18 : decode b_IR_path 18 = .ok (.iconst (-1), 1) := by decide +kernel
theorem d_IR_path_19 : decode b_IR_path 19 = .ok (.ireturn, 1) := by decide +kernel
theorem d_IR_path_20 : decode b_IR_path 20 = .ok (.aload_n 0, 1) := by decide +kernel
theorem d_IR_path_21 : decode b_IR_path 21 = .ok (.iconst 0, 1) := by decide +kernel
theorem d_IR_path_22 : decode b_IR_path 22 = .ok (.putfield 44, 3) := by decide +kernel
theorem d_IR_path_25 : decode b_IR_path 25 = .ok (.aload_n 0, 1) := by decide +kernel
theorem d_IR_path_26 : decode b_IR_path 26 = .ok (.getfield 26, 3) := by decide +kernel
theorem d_IR_path_29 : decode b_IR_path 29 = .ok (.getfield 75, 3) := by decide +kernel
theorem d_IR_path_32 : decode b_IR_path 32 = .ok (.ireturn, 1) := by decide +kernel
abbrev w_IR_path : List Cond := Cond.code y_IR_path b_IR_path 1 (some .int) :: ig_T
theorem g_IR_path : GoodIn ig_T w_IR_path := ig_T_good (ig_T_mem (List.mem_append_left _ (List.mem_of_getElem? (i := 149) rfl)) rfl)
set_option maxHeartbeats 4000000 in
set_option maxRecDepth 100000 in
theorem c_IR_path (l : Launch) (dC : Nat → ClassId) (dI : Nat → Nat → Nat) (cC cI cZ cL : ClassId) (x0 qT q0 s0 p0 m0 pb ps : Nat)  (tl : Nat) (pC : Nat) (pB : Nat → Int32) (pS : Nat → Nat) (tA : Nat → Int32) (sz : Nat) (hr : r_IR_path tl pC pB pS tA) : Met l y_IR_path w_IR_path ({ frames := 1, cells := 0, slots := 0, locals := 24 }) (ig_Pc (dC, dI) ig_cl0 [(cC, .char), (cI, .int), (cZ, .boolean), (cL, .long)] [.ref x0] [(x0, .inr (ciIR, [.ref qT, .int (nI tl), .ref q0, .ref s0, .ref p0, .ref m0])), (p0, .inr (ciPA, [.ref pb, .ref ps, .int (nI pC)])), (pb, .inl (cC, 120, .inl pB)), (ps, .inl (cI, 21, .inl (fun zj => nI (pS zj)))), (qT, .inl (cC, 1000, .inl tA))] sz) (va_Qi (fun (r : Int32) (u : Nat × Nat × (Nat → Int32) × (Nat → Nat)) => p_IR_path tl pC pB pS tA r u.1 u.2.1 u.2.2.1 u.2.2.2) (fun u t => va_P (dC, dI) ig_cl0 ((fun (u : Nat × Nat × (Nat → Int32) × (Nat → Nat)) => [(x0, .inr (ciIR, [.ref qT, .int (nI u.1), .ref q0, .ref s0, .ref p0, .ref m0])), (p0, .inr (ciPA, [.ref pb, .ref ps, .int (nI u.2.1)])), (pb, .inl (cC, 120, .inl u.2.2.1)), (ps, .inl (cI, 21, .inl (fun zj => nI (u.2.2.2 zj)))), (qT, .inl (cC, 1000, .inl tA))]) u) t.heap ∧ va_D (va_A [(x0, .inr (ciIR, [.ref qT, .int (nI tl), .ref q0, .ref s0, .ref p0, .ref m0])), (p0, .inr (ciPA, [.ref pb, .ref ps, .int (nI pC)])), (pb, .inl (cC, 120, .inl pB)), (ps, .inl (cI, 21, .inl (fun zj => nI (pS zj)))), (qT, .inl (cC, 1000, .inl tA))] sz) ((fun (u : Nat × Nat × (Nat → Int32) × (Nat → Nat)) => [(x0, .inr (ciIR, [.ref qT, .int (nI u.1), .ref q0, .ref s0, .ref p0, .ref m0])), (p0, .inr (ciPA, [.ref pb, .ref ps, .int (nI u.2.1)])), (pb, .inl (cC, 120, .inl u.2.2.1)), (ps, .inl (cI, 21, .inl (fun zj => nI (u.2.2.2 zj)))), (qT, .inl (cC, 1000, .inl tA))]) u)) (va_A [(x0, .inr (ciIR, [.ref qT, .int (nI tl), .ref q0, .ref s0, .ref p0, .ref m0])), (p0, .inr (ciPA, [.ref pb, .ref ps, .int (nI pC)])), (pb, .inl (cC, 120, .inl pB)), (ps, .inl (cI, 21, .inl (fun zj => nI (pS zj)))), (qT, .inl (cC, 1000, .inl tA))] sz)) 0 0 (va_A [(x0, .inr (ciIR, [.ref qT, .int (nI tl), .ref q0, .ref s0, .ref p0, .ref m0])), (p0, .inr (ciPA, [.ref pb, .ref ps, .int (nI pC)])), (pb, .inl (cC, 120, .inl pB)), (ps, .inl (cI, 21, .inl (fun zj => nI (pS zj)))), (qT, .inl (cC, 1000, .inl tA))] sz) := by
  refine ig_metI (fun (r : Int32) (u : Nat × Nat × (Nat → Int32) × (Nat → Nat)) => p_IR_path tl pC pB pS tA r u.1 u.2.1 u.2.2.1 u.2.2.2) (fun (u : Nat × Nat × (Nat → Int32) × (Nat → Nat)) => [(x0, .inr (ciIR, [.ref qT, .int (nI u.1), .ref q0, .ref s0, .ref p0, .ref m0])), (p0, .inr (ciPA, [.ref pb, .ref ps, .int (nI u.2.1)])), (pb, .inl (cC, 120, .inl u.2.2.1)), (ps, .inl (cI, 21, .inl (fun zj => nI (u.2.2.2 zj)))), (qT, .inl (cC, 1000, .inl tA))]) (by decide) rfl (Nat.le_of_ble_eq_true rfl) rfl (fun _ _ _ => rfl) ?_
  intro zp ze zs zm zargs zbelow zmeth zc zA zQ hx hb hml hown hts hK hN hA hret
  have hv := t_IR_path tl pC pB pS tA hr 
  unfold v_IR_path at hv
  refine ig_aload_n hx hb 0 d_IR_path_0 rfl rfl ?_
  refine ig_get hx hb hts in_IR hown hK 0 rfl rfl 4 (by decide) (hts _ kw_0_93) (fun _ h => h) rfl d_IR_path_1 ?_
  refine ig_aload_n hx hb 0 d_IR_path_4 rfl rfl ?_
  refine ig_get hx hb hts in_IR hown hK 0 rfl rfl 0 (by decide) (hts _ kw_0_89) (fun _ h => h) rfl d_IR_path_5 ?_
  refine ig_aload_n hx hb 0 d_IR_path_8 rfl rfl ?_
  refine ig_get hx hb hts in_IR hown hK 0 rfl rfl 1 (by decide) (hts _ kw_0_90) (fun _ h => h) rfl d_IR_path_9 ?_
  obtain ⟨hc, hv⟩ := hv
  refine ig_cVNi (As := [.ref qT, .int (nI tl)]) (rest := []) (wr := [(x0, .inr (ciIR, [.ref qT, .int (nI tl), .ref q0, .ref s0, .ref p0, .ref m0]))]) (ws' := fun u => [(x0, .inr (ciIR, [.ref qT, .int (nI tl), .ref q0, .ref s0, .ref p0, .ref m0])), (p0, .inr (ciPA, [.ref pb, .ref ps, .int (nI u.1)])), (pb, .inl (cC, 120, .inl u.2.1)), (ps, .inl (cI, 21, .inl (fun zj => nI (u.2.2 zj)))), (qT, .inl (cC, 1000, .inl tA))]) hx hb hml hown hts hK hN hA (fun sz => c_PA_load l dC dI cC cI cZ cL p0 pb ps qT pC pB pS tA tl sz hc) ⟨va_cnB 2 hts g_PA_load rfl rfl rfl (nk_5 hN) (hts _ kw_0_3) (by decide +kernel) (by decide), (hts _ kw_0_152), (hts _ ks_PA_load)⟩ rfl rfl (Nat.le_of_ble_eq_true rfl) d_IR_path_12 (by decide) 0 rfl rfl [1, 2, 3, 4] [0] [0, 1, 2, 3, 4] rfl rfl (by decide) (by decide) (by decide) (fun _ => rfl) (fun _ => rfl) (fun r u hr => ?_)
  obtain ⟨pC1, pB2, pS3⟩ := u
  obtain ⟨r4, rfl, hr⟩ := hr
  unfold p_PA_load at hr
  have hv := hv r4 pC1 pB2 pS3 hr
  refine ig_if_neB (tgt := 20) hx hb r4 rfl d_IR_path_15 (by decide) (fun h => ?_) (fun h => ?_)
  · have hv := hv.1 h
    refine ig_aload_n hx hb 0 d_IR_path_20 rfl rfl ?_
    refine ig_iconst (v := 0) hx hb d_IR_path_21 (by decide) ?_
    refine ig_put (ty := .int) (v := .int 0) (ws' := [(x0, .inr (ciIR, [.ref qT, .int (nI 0), .ref q0, .ref s0, .ref p0, .ref m0])), (p0, .inr (ciPA, [.ref pb, .ref ps, .int (nI pC1)])), (pb, .inl (cC, 120, .inl pB2)), (ps, .inl (cI, 21, .inl (fun zj => nI (pS3 zj)))), (qT, .inl (cC, 1000, .inl tA))]) hx hb hts in_IR t_IR t_IR_ok n_IR hown hK 0 rfl rfl 1 (by decide) (hts _ kw_0_90) (fun _ h => h) rfl (by decide +kernel) rfl rfl (Nat.le_of_ble_eq_true rfl) d_IR_path_22 rfl ?_
    refine ig_aload_n hx hb 0 d_IR_path_25 rfl rfl ?_
    refine ig_get hx hb hts in_IR hown hK 0 rfl rfl 4 (by decide) (hts _ kw_0_93) (fun _ h => h) rfl d_IR_path_26 ?_
    refine ig_getN hx hb hts in_PA hown hK 1 rfl rfl 2 (by decide) (va_Nw.use rfl (fk_10 hN)) (fun _ h => h) rfl d_IR_path_29 ?_
    exact hret 32 _ (nI pC1) (0, pC1, pB2, pS3) d_IR_path_32 hv
  · have hv := hv.2 h
    refine ig_iconst (v := (-1)) hx hb d_IR_path_18 (by decide) ?_
    exact hret 19 _ (-1) (tl, pC1, pB2, pS3) d_IR_path_19 hv
theorem d_IR_read_0 : decode b_IR_read 0 = .ok (.aload_n 0, 1) := by decide +kernel
theorem d_IR_read_1 : decode b_IR_read 1 = .ok (.getfield 20, 3) := by decide +kernel
theorem d_IR_read_4 : decode b_IR_read 4 = .ok (.aload_n 0, 1) := by decide +kernel
theorem d_IR_read_5 : decode b_IR_read 5 = .ok (.getfield 9, 3) := by decide +kernel
theorem d_IR_read_8 : decode b_IR_read 8 = .ok (.aload_n 0, 1) := by decide +kernel
theorem d_IR_read_9 : decode b_IR_read 9 = .ok (.getfield 44, 3) := by decide +kernel
theorem d_IR_read_12 : decode b_IR_read 12 = .ok (.invokevirtual 50, 3) := by decide +kernel
theorem d_IR_read_15 : decode b_IR_read 15 = .ok (.ifCond .ne 5, 3) := by decide +kernel
theorem d_IR_read_18 : decode b_IR_read 18 = .ok (.iconst (-1), 1) := by decide +kernel
theorem d_IR_read_19 : decode b_IR_read 19 = .ok (.ireturn, 1) := by decide +kernel
theorem d_IR_read_20 : decode b_IR_read 20 = .ok (.aload_n 0, 1) := by decide +kernel
theorem d_IR_read_21 : decode b_IR_read 21 = .ok (.getfield 16, 3) := by decide +kernel
theorem d_IR_read_24 : decode b_IR_read 24 = .ok (.astore_n 1, 1) := by decide +kernel
theorem d_IR_read_25 : decode b_IR_read 25 = .ok (.aload_n 0, 1) := by decide +kernel
theorem d_IR_read_26 : decode b_IR_read 26 = .ok (.aload_n 0, 1) := by decide +kernel
theorem d_IR_read_27 : decode b_IR_read 27 = .ok (.getfield 20, 3) := by decide +kernel
theorem d_IR_read_30 : decode b_IR_read 30 = .ok (.putfield 16, 3) := by decide +kernel
theorem d_IR_read_33 : decode b_IR_read 33 = .ok (.aload_n 0, 1) := by decide +kernel
theorem d_IR_read_34 : decode b_IR_read 34 = .ok (.aload_n 1, 1) := by decide +kernel
theorem d_IR_read_35 : decode b_IR_read 35 = .ok (.putfield 20, 3) := by decide +kernel
theorem d_IR_read_38 : decode b_IR_read 38 = .ok (.aload_n 0, 1) := by decide +kernel
theorem d_IR_read_39 : decode b_IR_read 39 = .ok (.iconst 0, 1) := by decide +kernel
theorem d_IR_read_40 : decode b_IR_read 40 = .ok (.putfield 44, 3) := by decide +kernel
theorem d_IR_read_43 : decode b_IR_read 43 = .ok (.aload_n 0, 1) := by decide +kernel
theorem d_IR_read_44 : decode b_IR_read 44 = .ok (.getfield 16, 3) := by decide +kernel
theorem d_IR_read_47 : decode b_IR_read 47 = .ok (.getfield 54, 3) := by decide +kernel
theorem d_IR_read_50 : decode b_IR_read 50 = .ok (.ireturn, 1) := by decide +kernel
abbrev w_IR_read : List Cond := Cond.code y_IR_read b_IR_read 2 (some .int) :: ig_T
theorem g_IR_read : GoodIn ig_T w_IR_read := ig_T_good (ig_T_mem (List.mem_append_left _ (List.mem_of_getElem? (i := 115) rfl)) rfl)
set_option maxHeartbeats 4000000 in
set_option maxRecDepth 100000 in
theorem c_IR_read (l : Launch) (dC : Nat → ClassId) (dI : Nat → Nat → Nat) (cC cI cZ cL : ClassId) (x0 qT q0 s0 p0 m0 st ss se sb sl : Nat)  (tl : Nat) (tA : Nat → Int32) (uT : Nat → Int32) (uS : Nat → Nat) (uE : Nat → Nat) (uB : Nat → Nat) (uL : Nat → Nat) (uN : Nat) (sz : Nat) (hr : r_IR_read tl tA uT uS uE uB uL uN) : Met l y_IR_read w_IR_read ({ frames := 5, cells := 0, slots := 0, locals := 125 }) (ig_Pc (dC, dI) ig_cl0 [(cC, .char), (cI, .int), (cZ, .boolean), (cL, .long)] [.ref x0] [(x0, .inr (ciIR, [.ref qT, .int (nI tl), .ref q0, .ref s0, .ref p0, .ref m0])), (qT, .inl (cC, 1000, .inl tA)), (s0, .inr (ciRL, [.ref st, .ref ss, .ref se, .ref sb, .ref sl, .int (nI uN)])), (st, .inl (cC, 1000, .inl uT)), (ss, .inl (cI, 60, .inl (fun zj => nI (uS zj)))), (se, .inl (cI, 60, .inl (fun zj => nI (uE zj)))), (sb, .inl (cI, 60, .inl (fun zj => nI (uB zj)))), (sl, .inl (cI, 60, .inl (fun zj => nI (uL zj))))] sz) (va_Qi (fun (r : Int32) (u : Bool × Nat × (Nat → Int32) × (Nat → Nat) × (Nat → Nat) × (Nat → Nat) × (Nat → Nat) × Nat) => p_IR_read tl tA uT uS uE uB uL uN r u.1 u.2.1 u.2.2.1 u.2.2.2.1 u.2.2.2.2.1 u.2.2.2.2.2.1 u.2.2.2.2.2.2.1 u.2.2.2.2.2.2.2) (fun u t => va_P (dC, dI) ig_cl0 ((fun (u : Bool × Nat × (Nat → Int32) × (Nat → Nat) × (Nat → Nat) × (Nat → Nat) × (Nat → Nat) × Nat) => [(x0, .inr (ciIR, [.ref qT, .int (nI u.2.1), .ref (cond u.1 s0 q0), .ref (cond u.1 q0 s0), .ref p0, .ref m0])), (qT, .inl (cC, 1000, .inl tA)), (s0, .inr (ciRL, [.ref st, .ref ss, .ref se, .ref sb, .ref sl, .int (nI u.2.2.2.2.2.2.2)])), (st, .inl (cC, 1000, .inl u.2.2.1)), (ss, .inl (cI, 60, .inl (fun zj => nI (u.2.2.2.1 zj)))), (se, .inl (cI, 60, .inl (fun zj => nI (u.2.2.2.2.1 zj)))), (sb, .inl (cI, 60, .inl (fun zj => nI (u.2.2.2.2.2.1 zj)))), (sl, .inl (cI, 60, .inl (fun zj => nI (u.2.2.2.2.2.2.1 zj))))]) u) t.heap ∧ va_D (va_A [(x0, .inr (ciIR, [.ref qT, .int (nI tl), .ref q0, .ref s0, .ref p0, .ref m0])), (qT, .inl (cC, 1000, .inl tA)), (s0, .inr (ciRL, [.ref st, .ref ss, .ref se, .ref sb, .ref sl, .int (nI uN)])), (st, .inl (cC, 1000, .inl uT)), (ss, .inl (cI, 60, .inl (fun zj => nI (uS zj)))), (se, .inl (cI, 60, .inl (fun zj => nI (uE zj)))), (sb, .inl (cI, 60, .inl (fun zj => nI (uB zj)))), (sl, .inl (cI, 60, .inl (fun zj => nI (uL zj))))] sz) ((fun (u : Bool × Nat × (Nat → Int32) × (Nat → Nat) × (Nat → Nat) × (Nat → Nat) × (Nat → Nat) × Nat) => [(x0, .inr (ciIR, [.ref qT, .int (nI u.2.1), .ref (cond u.1 s0 q0), .ref (cond u.1 q0 s0), .ref p0, .ref m0])), (qT, .inl (cC, 1000, .inl tA)), (s0, .inr (ciRL, [.ref st, .ref ss, .ref se, .ref sb, .ref sl, .int (nI u.2.2.2.2.2.2.2)])), (st, .inl (cC, 1000, .inl u.2.2.1)), (ss, .inl (cI, 60, .inl (fun zj => nI (u.2.2.2.1 zj)))), (se, .inl (cI, 60, .inl (fun zj => nI (u.2.2.2.2.1 zj)))), (sb, .inl (cI, 60, .inl (fun zj => nI (u.2.2.2.2.2.1 zj)))), (sl, .inl (cI, 60, .inl (fun zj => nI (u.2.2.2.2.2.2.1 zj))))]) u)) (va_A [(x0, .inr (ciIR, [.ref qT, .int (nI tl), .ref q0, .ref s0, .ref p0, .ref m0])), (qT, .inl (cC, 1000, .inl tA)), (s0, .inr (ciRL, [.ref st, .ref ss, .ref se, .ref sb, .ref sl, .int (nI uN)])), (st, .inl (cC, 1000, .inl uT)), (ss, .inl (cI, 60, .inl (fun zj => nI (uS zj)))), (se, .inl (cI, 60, .inl (fun zj => nI (uE zj)))), (sb, .inl (cI, 60, .inl (fun zj => nI (uB zj)))), (sl, .inl (cI, 60, .inl (fun zj => nI (uL zj))))] sz)) 0 0 (va_A [(x0, .inr (ciIR, [.ref qT, .int (nI tl), .ref q0, .ref s0, .ref p0, .ref m0])), (qT, .inl (cC, 1000, .inl tA)), (s0, .inr (ciRL, [.ref st, .ref ss, .ref se, .ref sb, .ref sl, .int (nI uN)])), (st, .inl (cC, 1000, .inl uT)), (ss, .inl (cI, 60, .inl (fun zj => nI (uS zj)))), (se, .inl (cI, 60, .inl (fun zj => nI (uE zj)))), (sb, .inl (cI, 60, .inl (fun zj => nI (uB zj)))), (sl, .inl (cI, 60, .inl (fun zj => nI (uL zj))))] sz) := by
  refine ig_metI (fun (r : Int32) (u : Bool × Nat × (Nat → Int32) × (Nat → Nat) × (Nat → Nat) × (Nat → Nat) × (Nat → Nat) × Nat) => p_IR_read tl tA uT uS uE uB uL uN r u.1 u.2.1 u.2.2.1 u.2.2.2.1 u.2.2.2.2.1 u.2.2.2.2.2.1 u.2.2.2.2.2.2.1 u.2.2.2.2.2.2.2) (fun (u : Bool × Nat × (Nat → Int32) × (Nat → Nat) × (Nat → Nat) × (Nat → Nat) × (Nat → Nat) × Nat) => [(x0, .inr (ciIR, [.ref qT, .int (nI u.2.1), .ref (cond u.1 s0 q0), .ref (cond u.1 q0 s0), .ref p0, .ref m0])), (qT, .inl (cC, 1000, .inl tA)), (s0, .inr (ciRL, [.ref st, .ref ss, .ref se, .ref sb, .ref sl, .int (nI u.2.2.2.2.2.2.2)])), (st, .inl (cC, 1000, .inl u.2.2.1)), (ss, .inl (cI, 60, .inl (fun zj => nI (u.2.2.2.1 zj)))), (se, .inl (cI, 60, .inl (fun zj => nI (u.2.2.2.2.1 zj)))), (sb, .inl (cI, 60, .inl (fun zj => nI (u.2.2.2.2.2.1 zj)))), (sl, .inl (cI, 60, .inl (fun zj => nI (u.2.2.2.2.2.2.1 zj))))]) (by decide) rfl (Nat.le_of_ble_eq_true rfl) rfl (fun _ _ _ => rfl) ?_
  intro zp ze zs zm zargs zbelow zmeth zc zA zQ hx hb hml hown hts hK hN hA hret
  have hv := t_IR_read tl tA uT uS uE uB uL uN hr 
  unfold v_IR_read at hv
  refine ig_aload_n hx hb 0 d_IR_read_0 rfl rfl ?_
  refine ig_get hx hb hts in_IR hown hK 0 rfl rfl 3 (by decide) (hts _ kw_0_92) (fun _ h => h) rfl d_IR_read_1 ?_
  refine ig_aload_n hx hb 0 d_IR_read_4 rfl rfl ?_
  refine ig_get hx hb hts in_IR hown hK 0 rfl rfl 0 (by decide) (hts _ kw_0_89) (fun _ h => h) rfl d_IR_read_5 ?_
  refine ig_aload_n hx hb 0 d_IR_read_8 rfl rfl ?_
  refine ig_get hx hb hts in_IR hown hK 0 rfl rfl 1 (by decide) (hts _ kw_0_90) (fun _ h => h) rfl d_IR_read_9 ?_
  obtain ⟨hc, hv⟩ := hv
  refine ig_cVNi (As := [.ref qT, .int (nI tl)]) (rest := []) (wr := [(x0, .inr (ciIR, [.ref qT, .int (nI tl), .ref q0, .ref s0, .ref p0, .ref m0]))]) (ws' := fun u => [(x0, .inr (ciIR, [.ref qT, .int (nI tl), .ref q0, .ref s0, .ref p0, .ref m0])), (qT, .inl (cC, 1000, .inl tA)), (s0, .inr (ciRL, [.ref st, .ref ss, .ref se, .ref sb, .ref sl, .int (nI u.2.2.2.2.2)])), (st, .inl (cC, 1000, .inl u.1)), (ss, .inl (cI, 60, .inl (fun zj => nI (u.2.1 zj)))), (se, .inl (cI, 60, .inl (fun zj => nI (u.2.2.1 zj)))), (sb, .inl (cI, 60, .inl (fun zj => nI (u.2.2.2.1 zj)))), (sl, .inl (cI, 60, .inl (fun zj => nI (u.2.2.2.2.1 zj))))]) hx hb hml hown hts hK hN hA (fun sz => c_RL_load l dC dI cC cI cZ cL s0 st ss se sb sl qT uT uS uE uB uL uN tA tl sz hc) ⟨va_cnB 2 hts g_RL_load rfl rfl rfl (nk_3 hN) (hts _ kw_0_2) (by decide +kernel) (by decide), (hts _ kw_0_118), (hts _ ks_RL_load)⟩ rfl rfl (Nat.le_of_ble_eq_true rfl) d_IR_read_12 (by decide) 0 rfl rfl [2, 3, 4, 5, 6, 7, 1] [0] [0, 7, 1, 2, 3, 4, 5, 6] rfl rfl (by decide) (by decide) (by decide) (fun _ => rfl) (fun _ => rfl) (fun r u hr => ?_)
  obtain ⟨tT1, aS2, aE3, aB4, aL5, nC6⟩ := u
  obtain ⟨r7, rfl, hr⟩ := hr
  unfold p_RL_load at hr
  have hv := hv r7 tT1 aS2 aE3 aB4 aL5 nC6 hr
  refine ig_if_neB (tgt := 20) hx hb r7 rfl d_IR_read_15 (by decide) (fun h => ?_) (fun h => ?_)
  · have hv := hv.1 h
    refine ig_aload_n hx hb 0 d_IR_read_20 rfl rfl ?_
    refine ig_get hx hb hts in_IR hown hK 0 rfl rfl 2 (by decide) (hts _ kw_0_91) (fun _ h => h) rfl d_IR_read_21 ?_
    refine ig_astore_n (lv' := [(1, .ref q0), (0, .ref x0)]) hx hb d_IR_read_24 rfl (by decide) rfl ?_
    refine ig_aload_n hx hb 1 d_IR_read_25 rfl rfl ?_
    refine ig_aload_n hx hb 1 d_IR_read_26 rfl rfl ?_
    refine ig_get hx hb hts in_IR hown hK 0 rfl rfl 3 (by decide) (hts _ kw_0_92) (fun _ h => h) rfl d_IR_read_27 ?_
    refine ig_put (ty := (.object "IgnoreRules$RuleList")) (v := .ref s0) (ws' := [(x0, .inr (ciIR, [.ref qT, .int (nI tl), .ref s0, .ref s0, .ref p0, .ref m0])), (qT, .inl (cC, 1000, .inl tA)), (s0, .inr (ciRL, [.ref st, .ref ss, .ref se, .ref sb, .ref sl, .int (nI nC6)])), (st, .inl (cC, 1000, .inl tT1)), (ss, .inl (cI, 60, .inl (fun zj => nI (aS2 zj)))), (se, .inl (cI, 60, .inl (fun zj => nI (aE3 zj)))), (sb, .inl (cI, 60, .inl (fun zj => nI (aB4 zj)))), (sl, .inl (cI, 60, .inl (fun zj => nI (aL5 zj))))]) hx hb hts in_IR t_IR t_IR_ok n_IR hown hK 0 rfl rfl 2 (by decide) (hts _ kw_0_91) (fun _ h => h) rfl (by decide +kernel) rfl rfl (Nat.le_of_ble_eq_true rfl) d_IR_read_30 rfl ?_
    refine ig_aload_n hx hb 1 d_IR_read_33 rfl rfl ?_
    refine ig_aload_n hx hb 0 d_IR_read_34 rfl rfl ?_
    refine ig_put (ty := (.object "IgnoreRules$RuleList")) (v := .ref q0) (ws' := [(x0, .inr (ciIR, [.ref qT, .int (nI tl), .ref s0, .ref q0, .ref p0, .ref m0])), (qT, .inl (cC, 1000, .inl tA)), (s0, .inr (ciRL, [.ref st, .ref ss, .ref se, .ref sb, .ref sl, .int (nI nC6)])), (st, .inl (cC, 1000, .inl tT1)), (ss, .inl (cI, 60, .inl (fun zj => nI (aS2 zj)))), (se, .inl (cI, 60, .inl (fun zj => nI (aE3 zj)))), (sb, .inl (cI, 60, .inl (fun zj => nI (aB4 zj)))), (sl, .inl (cI, 60, .inl (fun zj => nI (aL5 zj))))]) hx hb hts in_IR t_IR t_IR_ok n_IR hown hK 0 rfl rfl 3 (by decide) (hts _ kw_0_92) (fun _ h => h) rfl (by decide +kernel) rfl rfl (Nat.le_of_ble_eq_true rfl) d_IR_read_35 rfl ?_
    refine ig_aload_n hx hb 1 d_IR_read_38 rfl rfl ?_
    refine ig_iconst (v := 0) hx hb d_IR_read_39 (by decide) ?_
    refine ig_put (ty := .int) (v := .int 0) (ws' := [(x0, .inr (ciIR, [.ref qT, .int (nI 0), .ref s0, .ref q0, .ref p0, .ref m0])), (qT, .inl (cC, 1000, .inl tA)), (s0, .inr (ciRL, [.ref st, .ref ss, .ref se, .ref sb, .ref sl, .int (nI nC6)])), (st, .inl (cC, 1000, .inl tT1)), (ss, .inl (cI, 60, .inl (fun zj => nI (aS2 zj)))), (se, .inl (cI, 60, .inl (fun zj => nI (aE3 zj)))), (sb, .inl (cI, 60, .inl (fun zj => nI (aB4 zj)))), (sl, .inl (cI, 60, .inl (fun zj => nI (aL5 zj))))]) hx hb hts in_IR t_IR t_IR_ok n_IR hown hK 0 rfl rfl 1 (by decide) (hts _ kw_0_90) (fun _ h => h) rfl (by decide +kernel) rfl rfl (Nat.le_of_ble_eq_true rfl) d_IR_read_40 rfl ?_
    refine ig_aload_n hx hb 1 d_IR_read_43 rfl rfl ?_
    refine ig_get hx hb hts in_IR hown hK 0 rfl rfl 2 (by decide) (hts _ kw_0_91) (fun _ h => h) rfl d_IR_read_44 ?_
    refine ig_getN hx hb hts in_RL hown hK 2 rfl rfl 5 (by decide) (va_Nw.use rfl (fk_7 hN)) (fun _ h => h) rfl d_IR_read_47 ?_
    exact hret 50 _ (nI nC6) (true, 0, tT1, aS2, aE3, aB4, aL5, nC6) d_IR_read_50 hv
  · have hv := hv.2 h
    refine ig_iconst (v := (-1)) hx hb d_IR_read_18 (by decide) ?_
    exact hret 19 _ (-1) (false, tl, tT1, aS2, aE3, aB4, aL5, nC6) d_IR_read_19 hv
