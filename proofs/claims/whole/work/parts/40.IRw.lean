theorem kw_1_32 : Cond.methodLink "IgnoreRules" 76 y_IR_requirePath ∈ ig_T := ig_T_mem (List.mem_append_right _ (List.mem_append_left _ (List.mem_of_getElem? (i := 32) rfl))) rfl
theorem kw_1_34 : Cond.instanceMethod y_IR_requirePath ∈ ig_T := ig_T_mem (List.mem_append_right _ (List.mem_append_left _ (List.mem_of_getElem? (i := 34) rfl))) rfl
theorem kw_1_88 : Cond.methodLink "IgnoreRules" 83 y_IR_decidingDepth ∈ ig_T := ig_T_mem (List.mem_append_right _ (List.mem_append_left _ (List.mem_of_getElem? (i := 88) rfl))) rfl
theorem kw_1_90 : Cond.instanceMethod y_IR_decidingDepth ∈ ig_T := ig_T_mem (List.mem_append_right _ (List.mem_append_left _ (List.mem_of_getElem? (i := 90) rfl))) rfl
theorem d_IR_requireRule_0 : decode b_IR_requireRule 0 = .ok (.iload_n 1, 1) := by decide +kernel
theorem d_IR_requireRule_1 : decode b_IR_requireRule 1 = .ok (.ifCond .lt 14, 3) := by decide +kernel
theorem d_IR_requireRule_4 : decode b_IR_requireRule 4 = .ok (.iload_n 1, 1) := by decide +kernel
theorem d_IR_requireRule_5 : decode b_IR_requireRule 5 = .ok (.aload_n 0, 1) := by decide +kernel
theorem d_IR_requireRule_6 : decode b_IR_requireRule 6 = .ok (.getfield 16, 3) := by decide +kernel
theorem d_IR_requireRule_9 : decode b_IR_requireRule 9 = .ok (.getfield 54, 3) := by decide +kernel
theorem d_IR_requireRule_12 : decode b_IR_requireRule 12 = .ok (.if_icmp .lt 13, 3) := by decide +kernel
theorem d_IR_requireRule_15 : decode b_IR_requireRule 15 = .ok (.new 95, 3) := by decide +kernel
theorem d_IR_requireRule_18 : decode b_IR_requireRule 18 = .ok (.dup, 1) := by decide +kernel
theorem d_IR_requireRule_19 : decode b_IR_requireRule 19 = .ok (.ldc 116, 2) := by decide +kernel
theorem d_IR_requireRule_21 : decode b_IR_requireRule 21 = .ok (.invokespecial 99, 3) := by decide +kernel
theorem d_IR_requireRule_24 : decode b_IR_requireRule 24 = .ok (.athrow, 1) := by decide +kernel
theorem d_IR_requireRule_25 : decode b_IR_requireRule 25 = .ok (.return_, 1) := by decide +kernel
abbrev w_IR_requireRule : List Cond := Cond.code y_IR_requireRule b_IR_requireRule 2 none :: ig_T
theorem g_IR_requireRule : GoodIn ig_T w_IR_requireRule := ig_T_good (ig_T_mem (List.mem_append_right _ (List.mem_append_left _ (List.mem_of_getElem? (i := 2) rfl))) rfl)
set_option maxHeartbeats 4000000 in
set_option maxRecDepth 100000 in
theorem c_IR_requireRule (l : Launch) (dC : Nat → ClassId) (dI : Nat → Nat → Nat) (cC cI cZ cL : ClassId) (x0 qT q0 s0 p0 m0 qt qs qe qb ql : Nat) (tl : Int32) (nC : Nat) (x : Int32) (sz : Nat) (hr : r_IR_requireRule nC x) : Met l y_IR_requireRule w_IR_requireRule ({ frames := 0, cells := 0, slots := 0, locals := 0 }) (ig_Pc (dC, dI) ig_cl0 [(cC, .char), (cI, .int), (cZ, .boolean), (cL, .long)] [.ref x0, .int x] [(x0, .inr (ciIR, [.ref qT, .int tl, .ref q0, .ref s0, .ref p0, .ref m0])), (q0, .inr (ciRL, [.ref qt, .ref qs, .ref qe, .ref qb, .ref ql, .int (nI nC)]))] sz) (va_Qv (fun (u : Unit) => p_IR_requireRule nC x ) (fun u t => va_P (dC, dI) ig_cl0 ((fun (u : Unit) => [(x0, .inr (ciIR, [.ref qT, .int tl, .ref q0, .ref s0, .ref p0, .ref m0])), (q0, .inr (ciRL, [.ref qt, .ref qs, .ref qe, .ref qb, .ref ql, .int (nI nC)]))]) u) t.heap ∧ va_D (va_A [(x0, .inr (ciIR, [.ref qT, .int tl, .ref q0, .ref s0, .ref p0, .ref m0])), (q0, .inr (ciRL, [.ref qt, .ref qs, .ref qe, .ref qb, .ref ql, .int (nI nC)]))] sz) ((fun (u : Unit) => [(x0, .inr (ciIR, [.ref qT, .int tl, .ref q0, .ref s0, .ref p0, .ref m0])), (q0, .inr (ciRL, [.ref qt, .ref qs, .ref qe, .ref qb, .ref ql, .int (nI nC)]))]) u)) (va_A [(x0, .inr (ciIR, [.ref qT, .int tl, .ref q0, .ref s0, .ref p0, .ref m0])), (q0, .inr (ciRL, [.ref qt, .ref qs, .ref qe, .ref qb, .ref ql, .int (nI nC)]))] sz)) 0 0 (va_A [(x0, .inr (ciIR, [.ref qT, .int tl, .ref q0, .ref s0, .ref p0, .ref m0])), (q0, .inr (ciRL, [.ref qt, .ref qs, .ref qe, .ref qb, .ref ql, .int (nI nC)]))] sz) := by
  refine ig_metV (fun (u : Unit) => p_IR_requireRule nC x ) (fun (u : Unit) => [(x0, .inr (ciIR, [.ref qT, .int tl, .ref q0, .ref s0, .ref p0, .ref m0])), (q0, .inr (ciRL, [.ref qt, .ref qs, .ref qe, .ref qb, .ref ql, .int (nI nC)]))]) (by decide) rfl (Nat.le_of_ble_eq_true rfl) rfl ?_
  intro zp ze zs zm zargs zbelow zmeth zc zA zQ hx hb hml hown hts hK hN hA hret
  have j15 : v_IR_requireRule_15 nC x (p_IR_requireRule nC x) → ig_W zp l ze ({ frames := 0, cells := 0, slots := 0, locals := 0 }) zs zm zargs zbelow zmeth zc (dC, dI) ig_cl0 zA zs.heap 2 0 0 zQ 15 [] [] [(x0, .inr (ciIR, [.ref qT, .int tl, .ref q0, .ref s0, .ref p0, .ref m0])), (q0, .inr (ciRL, [.ref qt, .ref qs, .ref qe, .ref qb, .ref ql, .int (nI nC)]))] := by
    intro hv
    unfold v_IR_requireRule_15 at hv
    exact False.elim hv
  have hv := t_IR_requireRule nC x hr 
  unfold v_IR_requireRule at hv
  refine ig_iload_n hx hb 1 d_IR_requireRule_0 rfl rfl ?_
  refine ig_if_lt (tgt := 15) hx hb d_IR_requireRule_1 (by decide) (fun h => ?_) (fun h => ?_)
  · have hv := hv.1 h
    refine ig_lv (lv' := []) [] rfl ?_
    exact j15 hv
  · have hv := hv.2 h
    refine ig_iload_n hx hb 1 d_IR_requireRule_4 rfl rfl ?_
    refine ig_aload_n hx hb 0 d_IR_requireRule_5 rfl rfl ?_
    refine ig_get hx hb hts in_IR hown hK 0 rfl rfl 2 (by decide) (hts _ kw_0_91) (fun _ h => h) rfl d_IR_requireRule_6 ?_
    refine ig_getN hx hb hts in_RL hown hK 1 rfl rfl 5 (by decide) (va_Nw.use rfl (fk_7 hN)) (fun _ h => h) rfl d_IR_requireRule_9 ?_
    refine ig_icmp_lt (tgt := 25) hx hb d_IR_requireRule_12 (by decide) (fun h => ?_) (fun h => ?_)
    · have hv := hv.1 h
      exact hret 25 _ () d_IR_requireRule_25 hv
    · have hv := hv.2 h
      refine ig_lv (lv' := []) [] rfl ?_
      exact j15 hv
theorem d_IR_requirePath_0 : decode b_IR_requirePath 0 = .ok (.aload_n 0, 1) := by decide +kernel
theorem d_IR_requirePath_1 : decode b_IR_requirePath 1 = .ok (.getfield 26, 3) := by decide +kernel
theorem d_IR_requirePath_4 : decode b_IR_requirePath 4 = .ok (.getfield 75, 3) := by decide +kernel
theorem d_IR_requirePath_7 : decode b_IR_requirePath 7 = .ok (.ifCond .ne 13, 3) := by decide +kernel
theorem d_IR_requirePath_10 : decode b_IR_requirePath 10 = .ok (.new 118, 3) := by decide +kernel
theorem d_IR_requirePath_13 : decode b_IR_requirePath 13 = .ok (.dup, 1) := by decide +kernel
theorem d_IR_requirePath_14 : decode b_IR_requirePath 14 = .ok (.ldc 120, 2) := by decide +kernel
theorem d_IR_requirePath_16 : decode b_IR_requirePath 16 = .ok (.invokespecial 122, 3) := by decide +kernel
theorem d_IR_requirePath_19 : decode b_IR_requirePath 19 = .ok (.athrow, 1) := by decide +kernel
theorem d_IR_requirePath_20 : decode b_IR_requirePath 20 = .ok (.return_, 1) := by decide +kernel
abbrev w_IR_requirePath : List Cond := Cond.code y_IR_requirePath b_IR_requirePath 1 none :: ig_T
theorem g_IR_requirePath : GoodIn ig_T w_IR_requirePath := ig_T_good (ig_T_mem (List.mem_append_right _ (List.mem_append_left _ (List.mem_of_getElem? (i := 35) rfl))) rfl)
set_option maxHeartbeats 4000000 in
set_option maxRecDepth 100000 in
theorem c_IR_requirePath (l : Launch) (dC : Nat → ClassId) (dI : Nat → Nat → Nat) (cC cI cZ cL : ClassId) (x0 qT q0 s0 p0 m0 pb ps : Nat) (tl : Int32) (pC : Nat) (sz : Nat) (hr : r_IR_requirePath pC) : Met l y_IR_requirePath w_IR_requirePath ({ frames := 0, cells := 0, slots := 0, locals := 0 }) (ig_Pc (dC, dI) ig_cl0 [(cC, .char), (cI, .int), (cZ, .boolean), (cL, .long)] [.ref x0] [(x0, .inr (ciIR, [.ref qT, .int tl, .ref q0, .ref s0, .ref p0, .ref m0])), (p0, .inr (ciPA, [.ref pb, .ref ps, .int (nI pC)]))] sz) (va_Qv (fun (u : Unit) => p_IR_requirePath pC ) (fun u t => va_P (dC, dI) ig_cl0 ((fun (u : Unit) => [(x0, .inr (ciIR, [.ref qT, .int tl, .ref q0, .ref s0, .ref p0, .ref m0])), (p0, .inr (ciPA, [.ref pb, .ref ps, .int (nI pC)]))]) u) t.heap ∧ va_D (va_A [(x0, .inr (ciIR, [.ref qT, .int tl, .ref q0, .ref s0, .ref p0, .ref m0])), (p0, .inr (ciPA, [.ref pb, .ref ps, .int (nI pC)]))] sz) ((fun (u : Unit) => [(x0, .inr (ciIR, [.ref qT, .int tl, .ref q0, .ref s0, .ref p0, .ref m0])), (p0, .inr (ciPA, [.ref pb, .ref ps, .int (nI pC)]))]) u)) (va_A [(x0, .inr (ciIR, [.ref qT, .int tl, .ref q0, .ref s0, .ref p0, .ref m0])), (p0, .inr (ciPA, [.ref pb, .ref ps, .int (nI pC)]))] sz)) 0 0 (va_A [(x0, .inr (ciIR, [.ref qT, .int tl, .ref q0, .ref s0, .ref p0, .ref m0])), (p0, .inr (ciPA, [.ref pb, .ref ps, .int (nI pC)]))] sz) := by
  refine ig_metV (fun (u : Unit) => p_IR_requirePath pC ) (fun (u : Unit) => [(x0, .inr (ciIR, [.ref qT, .int tl, .ref q0, .ref s0, .ref p0, .ref m0])), (p0, .inr (ciPA, [.ref pb, .ref ps, .int (nI pC)]))]) (by decide) rfl (Nat.le_of_ble_eq_true rfl) rfl ?_
  intro zp ze zs zm zargs zbelow zmeth zc zA zQ hx hb hml hown hts hK hN hA hret
  have hv := t_IR_requirePath pC hr 
  unfold v_IR_requirePath at hv
  refine ig_aload_n hx hb 0 d_IR_requirePath_0 rfl rfl ?_
  refine ig_get hx hb hts in_IR hown hK 0 rfl rfl 4 (by decide) (hts _ kw_0_93) (fun _ h => h) rfl d_IR_requirePath_1 ?_
  refine ig_getN hx hb hts in_PA hown hK 1 rfl rfl 2 (by decide) (va_Nw.use rfl (fk_10 hN)) (fun _ h => h) rfl d_IR_requirePath_4 ?_
  obtain ⟨h1, hv⟩ := hv
  refine ig_if_neN (tgt := 20) hx hb pC rfl d_IR_requirePath_7 (by decide) h1 (fun h => ?_) (fun h => ?_)
  · have hv := hv.1 h
    exact hret 20 _ () d_IR_requirePath_20 hv
  · have hv := hv.2 h
    exact False.elim hv
theorem d_IR_depth_0 : decode b_IR_depth 0 = .ok (.aload_n 0, 1) := by decide +kernel
theorem d_IR_depth_1 : decode b_IR_depth 1 = .ok (.invokevirtual 76, 3) := by decide +kernel
theorem d_IR_depth_4 : decode b_IR_depth 4 = .ok (.aload_n 0, 1) := by decide +kernel
theorem d_IR_depth_5 : decode b_IR_depth 5 = .ok (.invokevirtual 83, 3) := by decide +kernel
theorem d_IR_depth_8 : decode b_IR_depth 8 = .ok (.ireturn, 1) := by decide +kernel
abbrev w_IR_depth : List Cond := Cond.code y_IR_depth b_IR_depth 2 (some .int) :: ig_T
theorem g_IR_depth : GoodIn ig_T w_IR_depth := ig_T_good (ig_T_mem (List.mem_append_right _ (List.mem_append_left _ (List.mem_of_getElem? (i := 113) rfl))) rfl)
set_option maxHeartbeats 4000000 in
set_option maxRecDepth 100000 in
theorem c_IR_depth (l : Launch) (dC : Nat → ClassId) (dI : Nat → Nat → Nat) (cC cI cZ cL : ClassId) (x0 qT q0 s0 p0 m0 mn mb qt qs qe qb ql pb ps : Nat) (tl : Int32) (mN : Nat → Bool) (mB : Nat → Bool) (tT : Nat → Int32) (aS : Nat → Nat) (aE : Nat → Nat) (aB : Nat → Nat) (pB : Nat → Int32) (pS : Nat → Nat) (nC : Nat) (pC : Nat) (d : Bool) (sz : Nat) (hr : r_IR_depth mN mB tT aS aE aB pB pS nC pC d) : Met l y_IR_depth w_IR_depth ({ frames := 6, cells := 0, slots := 0, locals := 162 }) (ig_Pc (dC, dI) ig_cl0 [(cC, .char), (cI, .int), (cZ, .boolean), (cL, .long)] [.ref x0, .int (bI d)] [(x0, .inr (ciIR, [.ref qT, .int tl, .ref q0, .ref s0, .ref p0, .ref m0])), (m0, .inr (ciMA, [.ref mn, .ref mb])), (mn, .inl (cZ, 21, .inl (fun zj => bI (mN zj)))), (mb, .inl (cZ, 121, .inl (fun zj => bI (mB zj)))), (q0, .inr (ciRL, [.ref qt, .ref qs, .ref qe, .ref qb, .ref ql, .int (nI nC)])), (qt, .inl (cC, 1000, .inl tT)), (qs, .inl (cI, 60, .inl (fun zj => nI (aS zj)))), (qe, .inl (cI, 60, .inl (fun zj => nI (aE zj)))), (qb, .inl (cI, 60, .inl (fun zj => nI (aB zj)))), (p0, .inr (ciPA, [.ref pb, .ref ps, .int (nI pC)])), (pb, .inl (cC, 120, .inl pB)), (ps, .inl (cI, 21, .inl (fun zj => nI (pS zj))))] sz) (va_Qi (fun (r : Int32) (u : (Nat → Bool) × (Nat → Bool)) => ∃ zr : Nat, r = nI zr ∧ p_IR_depth mN mB tT aS aE aB pB pS nC pC d zr u.1 u.2) (fun u t => va_P (dC, dI) ig_cl0 ((fun (u : (Nat → Bool) × (Nat → Bool)) => [(x0, .inr (ciIR, [.ref qT, .int tl, .ref q0, .ref s0, .ref p0, .ref m0])), (m0, .inr (ciMA, [.ref mn, .ref mb])), (mn, .inl (cZ, 21, .inl (fun zj => bI (u.1 zj)))), (mb, .inl (cZ, 121, .inl (fun zj => bI (u.2 zj)))), (q0, .inr (ciRL, [.ref qt, .ref qs, .ref qe, .ref qb, .ref ql, .int (nI nC)])), (qt, .inl (cC, 1000, .inl tT)), (qs, .inl (cI, 60, .inl (fun zj => nI (aS zj)))), (qe, .inl (cI, 60, .inl (fun zj => nI (aE zj)))), (qb, .inl (cI, 60, .inl (fun zj => nI (aB zj)))), (p0, .inr (ciPA, [.ref pb, .ref ps, .int (nI pC)])), (pb, .inl (cC, 120, .inl pB)), (ps, .inl (cI, 21, .inl (fun zj => nI (pS zj))))]) u) t.heap ∧ va_D (va_A [(x0, .inr (ciIR, [.ref qT, .int tl, .ref q0, .ref s0, .ref p0, .ref m0])), (m0, .inr (ciMA, [.ref mn, .ref mb])), (mn, .inl (cZ, 21, .inl (fun zj => bI (mN zj)))), (mb, .inl (cZ, 121, .inl (fun zj => bI (mB zj)))), (q0, .inr (ciRL, [.ref qt, .ref qs, .ref qe, .ref qb, .ref ql, .int (nI nC)])), (qt, .inl (cC, 1000, .inl tT)), (qs, .inl (cI, 60, .inl (fun zj => nI (aS zj)))), (qe, .inl (cI, 60, .inl (fun zj => nI (aE zj)))), (qb, .inl (cI, 60, .inl (fun zj => nI (aB zj)))), (p0, .inr (ciPA, [.ref pb, .ref ps, .int (nI pC)])), (pb, .inl (cC, 120, .inl pB)), (ps, .inl (cI, 21, .inl (fun zj => nI (pS zj))))] sz) ((fun (u : (Nat → Bool) × (Nat → Bool)) => [(x0, .inr (ciIR, [.ref qT, .int tl, .ref q0, .ref s0, .ref p0, .ref m0])), (m0, .inr (ciMA, [.ref mn, .ref mb])), (mn, .inl (cZ, 21, .inl (fun zj => bI (u.1 zj)))), (mb, .inl (cZ, 121, .inl (fun zj => bI (u.2 zj)))), (q0, .inr (ciRL, [.ref qt, .ref qs, .ref qe, .ref qb, .ref ql, .int (nI nC)])), (qt, .inl (cC, 1000, .inl tT)), (qs, .inl (cI, 60, .inl (fun zj => nI (aS zj)))), (qe, .inl (cI, 60, .inl (fun zj => nI (aE zj)))), (qb, .inl (cI, 60, .inl (fun zj => nI (aB zj)))), (p0, .inr (ciPA, [.ref pb, .ref ps, .int (nI pC)])), (pb, .inl (cC, 120, .inl pB)), (ps, .inl (cI, 21, .inl (fun zj => nI (pS zj))))]) u)) (va_A [(x0, .inr (ciIR, [.ref qT, .int tl, .ref q0, .ref s0, .ref p0, .ref m0])), (m0, .inr (ciMA, [.ref mn, .ref mb])), (mn, .inl (cZ, 21, .inl (fun zj => bI (mN zj)))), (mb, .inl (cZ, 121, .inl (fun zj => bI (mB zj)))), (q0, .inr (ciRL, [.ref qt, .ref qs, .ref qe, .ref qb, .ref ql, .int (nI nC)])), (qt, .inl (cC, 1000, .inl tT)), (qs, .inl (cI, 60, .inl (fun zj => nI (aS zj)))), (qe, .inl (cI, 60, .inl (fun zj => nI (aE zj)))), (qb, .inl (cI, 60, .inl (fun zj => nI (aB zj)))), (p0, .inr (ciPA, [.ref pb, .ref ps, .int (nI pC)])), (pb, .inl (cC, 120, .inl pB)), (ps, .inl (cI, 21, .inl (fun zj => nI (pS zj))))] sz)) 0 0 (va_A [(x0, .inr (ciIR, [.ref qT, .int tl, .ref q0, .ref s0, .ref p0, .ref m0])), (m0, .inr (ciMA, [.ref mn, .ref mb])), (mn, .inl (cZ, 21, .inl (fun zj => bI (mN zj)))), (mb, .inl (cZ, 121, .inl (fun zj => bI (mB zj)))), (q0, .inr (ciRL, [.ref qt, .ref qs, .ref qe, .ref qb, .ref ql, .int (nI nC)])), (qt, .inl (cC, 1000, .inl tT)), (qs, .inl (cI, 60, .inl (fun zj => nI (aS zj)))), (qe, .inl (cI, 60, .inl (fun zj => nI (aE zj)))), (qb, .inl (cI, 60, .inl (fun zj => nI (aB zj)))), (p0, .inr (ciPA, [.ref pb, .ref ps, .int (nI pC)])), (pb, .inl (cC, 120, .inl pB)), (ps, .inl (cI, 21, .inl (fun zj => nI (pS zj))))] sz) := by
  refine ig_metI (fun (r : Int32) (u : (Nat → Bool) × (Nat → Bool)) => ∃ zr : Nat, r = nI zr ∧ p_IR_depth mN mB tT aS aE aB pB pS nC pC d zr u.1 u.2) (fun (u : (Nat → Bool) × (Nat → Bool)) => [(x0, .inr (ciIR, [.ref qT, .int tl, .ref q0, .ref s0, .ref p0, .ref m0])), (m0, .inr (ciMA, [.ref mn, .ref mb])), (mn, .inl (cZ, 21, .inl (fun zj => bI (u.1 zj)))), (mb, .inl (cZ, 121, .inl (fun zj => bI (u.2 zj)))), (q0, .inr (ciRL, [.ref qt, .ref qs, .ref qe, .ref qb, .ref ql, .int (nI nC)])), (qt, .inl (cC, 1000, .inl tT)), (qs, .inl (cI, 60, .inl (fun zj => nI (aS zj)))), (qe, .inl (cI, 60, .inl (fun zj => nI (aE zj)))), (qb, .inl (cI, 60, .inl (fun zj => nI (aB zj)))), (p0, .inr (ciPA, [.ref pb, .ref ps, .int (nI pC)])), (pb, .inl (cC, 120, .inl pB)), (ps, .inl (cI, 21, .inl (fun zj => nI (pS zj))))]) (by decide) rfl (Nat.le_of_ble_eq_true rfl) rfl (fun _ _ _ => rfl) ?_
  intro zp ze zs zm zargs zbelow zmeth zc zA zQ hx hb hml hown hts hK hN hA hret
  have hv := t_IR_depth mN mB tT aS aE aB pB pS nC pC d hr 
  unfold v_IR_depth at hv
  refine ig_aload_n hx hb 0 d_IR_depth_0 rfl rfl ?_
  obtain ⟨hc, hv⟩ := hv
  refine ig_cVv (As := []) (rest := []) (wr := [(m0, .inr (ciMA, [.ref mn, .ref mb])), (mn, .inl (cZ, 21, .inl (fun zj => bI (mN zj)))), (mb, .inl (cZ, 121, .inl (fun zj => bI (mB zj)))), (q0, .inr (ciRL, [.ref qt, .ref qs, .ref qe, .ref qb, .ref ql, .int (nI nC)])), (qt, .inl (cC, 1000, .inl tT)), (qs, .inl (cI, 60, .inl (fun zj => nI (aS zj)))), (qe, .inl (cI, 60, .inl (fun zj => nI (aE zj)))), (qb, .inl (cI, 60, .inl (fun zj => nI (aB zj)))), (pb, .inl (cC, 120, .inl pB)), (ps, .inl (cI, 21, .inl (fun zj => nI (pS zj))))]) (ws' := fun u => [(x0, .inr (ciIR, [.ref qT, .int tl, .ref q0, .ref s0, .ref p0, .ref m0])), (m0, .inr (ciMA, [.ref mn, .ref mb])), (mn, .inl (cZ, 21, .inl (fun zj => bI (mN zj)))), (mb, .inl (cZ, 121, .inl (fun zj => bI (mB zj)))), (q0, .inr (ciRL, [.ref qt, .ref qs, .ref qe, .ref qb, .ref ql, .int (nI nC)])), (qt, .inl (cC, 1000, .inl tT)), (qs, .inl (cI, 60, .inl (fun zj => nI (aS zj)))), (qe, .inl (cI, 60, .inl (fun zj => nI (aE zj)))), (qb, .inl (cI, 60, .inl (fun zj => nI (aB zj)))), (p0, .inr (ciPA, [.ref pb, .ref ps, .int (nI pC)])), (pb, .inl (cC, 120, .inl pB)), (ps, .inl (cI, 21, .inl (fun zj => nI (pS zj))))]) hx hb hml hown hts hK hN hA (fun sz => c_IR_requirePath l dC dI cC cI cZ cL x0 qT q0 s0 p0 m0 pb ps tl pC sz hc) ⟨callB_of 0 hts g_IR_requirePath rfl rfl rfl (hts _ kw_0_1) (hts _ kw_1_32) (by decide +kernel) (by decide), (hts _ kw_1_34), (hts _ ks_IR_requirePath)⟩ rfl rfl (Nat.le_of_ble_eq_true rfl) d_IR_depth_1 (by decide) 0 rfl rfl [0, 9] [1, 2, 3, 4, 5, 6, 7, 8, 10, 11] [10, 0, 1, 2, 3, 4, 5, 6, 7, 11, 8, 9] rfl rfl (by decide) (by decide) (by decide) (fun _ => rfl) (fun _ => rfl) (fun u hr => ?_)
  unfold p_IR_requirePath at hr
  refine ig_aload_n hx hb 0 d_IR_depth_4 rfl rfl ?_
  obtain ⟨hc, hv⟩ := hv
  refine ig_cVi (As := []) (rest := []) (wr := []) (ws' := fun u => [(x0, .inr (ciIR, [.ref qT, .int tl, .ref q0, .ref s0, .ref p0, .ref m0])), (m0, .inr (ciMA, [.ref mn, .ref mb])), (mn, .inl (cZ, 21, .inl (fun zj => bI (u.1 zj)))), (mb, .inl (cZ, 121, .inl (fun zj => bI (u.2 zj)))), (q0, .inr (ciRL, [.ref qt, .ref qs, .ref qe, .ref qb, .ref ql, .int (nI nC)])), (qt, .inl (cC, 1000, .inl tT)), (qs, .inl (cI, 60, .inl (fun zj => nI (aS zj)))), (qe, .inl (cI, 60, .inl (fun zj => nI (aE zj)))), (qb, .inl (cI, 60, .inl (fun zj => nI (aB zj)))), (p0, .inr (ciPA, [.ref pb, .ref ps, .int (nI pC)])), (pb, .inl (cC, 120, .inl pB)), (ps, .inl (cI, 21, .inl (fun zj => nI (pS zj))))]) hx hb hml hown hts hK hN hA (fun sz => c_IR_decidingDepth l dC dI cC cI cZ cL x0 qT q0 s0 p0 m0 mn mb qt qs qe qb ql pb ps tl mN mB tT aS aE aB pB pS nC pC sz hc) ⟨callB_of 0 hts g_IR_decidingDepth rfl rfl rfl (hts _ kw_0_1) (hts _ kw_1_88) (by decide +kernel) (by decide), (hts _ kw_1_90), (hts _ ks_IR_decidingDepth)⟩ rfl rfl (Nat.le_of_ble_eq_true rfl) d_IR_depth_5 (by decide) 0 rfl rfl [0, 1, 2, 3, 4, 5, 6, 7, 8, 9, 10, 11] [] [0, 1, 2, 3, 4, 5, 6, 7, 8, 9, 10, 11] rfl rfl (by decide) (by decide) (by decide) (fun _ => rfl) (fun _ => rfl) (fun r u hr => ?_)
  obtain ⟨mN1, mB2⟩ := u
  obtain ⟨rr, rfl, hr⟩ := hr
  unfold p_IR_decidingDepth at hr
  subst hr
  have hv := hv mN1 mB2
  exact hret 8 _ (nI (sp_dd (fun m => sp_lo aB (sp_lfit tT aS aE aB pB pS nC m true)) pC 1)) (mN1, mB2) d_IR_depth_8 ⟨sp_dd (fun m => sp_lo aB (sp_lfit tT aS aE aB pB pS nC m true)) pC 1, rfl, hv⟩
theorem d_IR_out_0 : decode b_IR_out 0 = .ok (.aload_n 0, 1) := by decide +kernel
theorem d_IR_out_1 : decode b_IR_out 1 = .ok (.invokevirtual 76, 3) := by decide +kernel
theorem d_IR_out_4 : decode b_IR_out 4 = .ok (.aload_n 0, 1) := by decide +kernel
theorem d_IR_out_5 : decode b_IR_out 5 = .ok (.invokevirtual 83, 3) := by decide +kernel
theorem d_IR_out_8 : decode b_IR_out 8 = .ok (.aload_n 0, 1) := by decide +kernel
theorem d_IR_out_9 : decode b_IR_out 9 = .ok (.getfield 26, 3) := by decide +kernel
theorem d_IR_out_12 : decode b_IR_out 12 = .ok (.getfield 75, 3) := by decide +kernel
theorem d_IR_out_15 : decode b_IR_out 15 = .ok (.if_icmp .lt 22, 3) := by decide +kernel
theorem d_IR_out_18 : decode b_IR_out 18 = .ok (.aload_n 0, 1) := by decide +kernel
theorem d_IR_out_19 : decode b_IR_out 19 = .ok (.aload_n 0, 1) := by decide +kernel
theorem d_IR_out_20 : decode b_IR_out 20 = .ok (.aload_n 0, 1) := by decide +kernel
theorem d_IR_out_21 : decode b_IR_out 21 = .ok (.getfield 26, 3) := by decide +kernel
theorem d_IR_out_24 : decode b_IR_out 24 = .ok (.getfield 75, 3) := by decide +kernel
theorem d_IR_out_27 : decode b_IR_out 27 = .ok (.iload_n 1, 1) := by decide +kernel
theorem d_IR_out_28 : decode b_IR_out 28 = .ok (.invokevirtual 87, 3) := by decide +kernel
theorem d_IR_out_31 : decode b_IR_out 31 = .ok (.invokevirtual 91, 3) := by decide +kernel
theorem d_IR_out_34 : decode b_IR_out 34 = .ok (.ifCond .eq 7, 3) := by decide +kernel
theorem d_IR_out_37 : decode b_IR_out 37 = .ok (.iconst 1, 1) := by decide +kernel
theorem d_IR_out_38 : decode b_IR_out 38 = .ok (.goto 4, 3) := by decide +kernel
theorem d_IR_out_41 : decode b_IR_out 41 = .ok (.iconst 0, 1) := by decide +kernel
theorem d_IR_out_42 : decode b_IR_out 42 = .ok (.ireturn, 1) := by decide +kernel
abbrev w_IR_out : List Cond := Cond.code y_IR_out b_IR_out 2 (some .boolean) :: ig_T
theorem g_IR_out : GoodIn ig_T w_IR_out := ig_T_good (ig_T_mem (List.mem_append_right _ (List.mem_append_left _ (List.mem_of_getElem? (i := 87) rfl))) rfl)
set_option maxHeartbeats 4000000 in
set_option maxRecDepth 100000 in
theorem c_IR_out (l : Launch) (dC : Nat → ClassId) (dI : Nat → Nat → Nat) (cC cI cZ cL : ClassId) (x0 qT q0 s0 p0 m0 mn mb qt qs qe qb ql pb ps : Nat) (tl : Int32) (mN : Nat → Bool) (mB : Nat → Bool) (tT : Nat → Int32) (aS : Nat → Nat) (aE : Nat → Nat) (aB : Nat → Nat) (pB : Nat → Int32) (pS : Nat → Nat) (nC : Nat) (pC : Nat) (d : Bool) (sz : Nat) (hr : r_IR_out mN mB tT aS aE aB pB pS nC pC d) : Met l y_IR_out w_IR_out ({ frames := 6, cells := 0, slots := 0, locals := 162 }) (ig_Pc (dC, dI) ig_cl0 [(cC, .char), (cI, .int), (cZ, .boolean), (cL, .long)] [.ref x0, .int (bI d)] [(x0, .inr (ciIR, [.ref qT, .int tl, .ref q0, .ref s0, .ref p0, .ref m0])), (m0, .inr (ciMA, [.ref mn, .ref mb])), (mn, .inl (cZ, 21, .inl (fun zj => bI (mN zj)))), (mb, .inl (cZ, 121, .inl (fun zj => bI (mB zj)))), (q0, .inr (ciRL, [.ref qt, .ref qs, .ref qe, .ref qb, .ref ql, .int (nI nC)])), (qt, .inl (cC, 1000, .inl tT)), (qs, .inl (cI, 60, .inl (fun zj => nI (aS zj)))), (qe, .inl (cI, 60, .inl (fun zj => nI (aE zj)))), (qb, .inl (cI, 60, .inl (fun zj => nI (aB zj)))), (p0, .inr (ciPA, [.ref pb, .ref ps, .int (nI pC)])), (pb, .inl (cC, 120, .inl pB)), (ps, .inl (cI, 21, .inl (fun zj => nI (pS zj))))] sz) (va_Qi (fun (r : Int32) (u : (Nat → Bool) × (Nat → Bool)) => ∃ zr : Bool, r = bI zr ∧ p_IR_out mN mB tT aS aE aB pB pS nC pC d zr u.1 u.2) (fun u t => va_P (dC, dI) ig_cl0 ((fun (u : (Nat → Bool) × (Nat → Bool)) => [(x0, .inr (ciIR, [.ref qT, .int tl, .ref q0, .ref s0, .ref p0, .ref m0])), (m0, .inr (ciMA, [.ref mn, .ref mb])), (mn, .inl (cZ, 21, .inl (fun zj => bI (u.1 zj)))), (mb, .inl (cZ, 121, .inl (fun zj => bI (u.2 zj)))), (q0, .inr (ciRL, [.ref qt, .ref qs, .ref qe, .ref qb, .ref ql, .int (nI nC)])), (qt, .inl (cC, 1000, .inl tT)), (qs, .inl (cI, 60, .inl (fun zj => nI (aS zj)))), (qe, .inl (cI, 60, .inl (fun zj => nI (aE zj)))), (qb, .inl (cI, 60, .inl (fun zj => nI (aB zj)))), (p0, .inr (ciPA, [.ref pb, .ref ps, .int (nI pC)])), (pb, .inl (cC, 120, .inl pB)), (ps, .inl (cI, 21, .inl (fun zj => nI (pS zj))))]) u) t.heap ∧ va_D (va_A [(x0, .inr (ciIR, [.ref qT, .int tl, .ref q0, .ref s0, .ref p0, .ref m0])), (m0, .inr (ciMA, [.ref mn, .ref mb])), (mn, .inl (cZ, 21, .inl (fun zj => bI (mN zj)))), (mb, .inl (cZ, 121, .inl (fun zj => bI (mB zj)))), (q0, .inr (ciRL, [.ref qt, .ref qs, .ref qe, .ref qb, .ref ql, .int (nI nC)])), (qt, .inl (cC, 1000, .inl tT)), (qs, .inl (cI, 60, .inl (fun zj => nI (aS zj)))), (qe, .inl (cI, 60, .inl (fun zj => nI (aE zj)))), (qb, .inl (cI, 60, .inl (fun zj => nI (aB zj)))), (p0, .inr (ciPA, [.ref pb, .ref ps, .int (nI pC)])), (pb, .inl (cC, 120, .inl pB)), (ps, .inl (cI, 21, .inl (fun zj => nI (pS zj))))] sz) ((fun (u : (Nat → Bool) × (Nat → Bool)) => [(x0, .inr (ciIR, [.ref qT, .int tl, .ref q0, .ref s0, .ref p0, .ref m0])), (m0, .inr (ciMA, [.ref mn, .ref mb])), (mn, .inl (cZ, 21, .inl (fun zj => bI (u.1 zj)))), (mb, .inl (cZ, 121, .inl (fun zj => bI (u.2 zj)))), (q0, .inr (ciRL, [.ref qt, .ref qs, .ref qe, .ref qb, .ref ql, .int (nI nC)])), (qt, .inl (cC, 1000, .inl tT)), (qs, .inl (cI, 60, .inl (fun zj => nI (aS zj)))), (qe, .inl (cI, 60, .inl (fun zj => nI (aE zj)))), (qb, .inl (cI, 60, .inl (fun zj => nI (aB zj)))), (p0, .inr (ciPA, [.ref pb, .ref ps, .int (nI pC)])), (pb, .inl (cC, 120, .inl pB)), (ps, .inl (cI, 21, .inl (fun zj => nI (pS zj))))]) u)) (va_A [(x0, .inr (ciIR, [.ref qT, .int tl, .ref q0, .ref s0, .ref p0, .ref m0])), (m0, .inr (ciMA, [.ref mn, .ref mb])), (mn, .inl (cZ, 21, .inl (fun zj => bI (mN zj)))), (mb, .inl (cZ, 121, .inl (fun zj => bI (mB zj)))), (q0, .inr (ciRL, [.ref qt, .ref qs, .ref qe, .ref qb, .ref ql, .int (nI nC)])), (qt, .inl (cC, 1000, .inl tT)), (qs, .inl (cI, 60, .inl (fun zj => nI (aS zj)))), (qe, .inl (cI, 60, .inl (fun zj => nI (aE zj)))), (qb, .inl (cI, 60, .inl (fun zj => nI (aB zj)))), (p0, .inr (ciPA, [.ref pb, .ref ps, .int (nI pC)])), (pb, .inl (cC, 120, .inl pB)), (ps, .inl (cI, 21, .inl (fun zj => nI (pS zj))))] sz)) 0 0 (va_A [(x0, .inr (ciIR, [.ref qT, .int tl, .ref q0, .ref s0, .ref p0, .ref m0])), (m0, .inr (ciMA, [.ref mn, .ref mb])), (mn, .inl (cZ, 21, .inl (fun zj => bI (mN zj)))), (mb, .inl (cZ, 121, .inl (fun zj => bI (mB zj)))), (q0, .inr (ciRL, [.ref qt, .ref qs, .ref qe, .ref qb, .ref ql, .int (nI nC)])), (qt, .inl (cC, 1000, .inl tT)), (qs, .inl (cI, 60, .inl (fun zj => nI (aS zj)))), (qe, .inl (cI, 60, .inl (fun zj => nI (aE zj)))), (qb, .inl (cI, 60, .inl (fun zj => nI (aB zj)))), (p0, .inr (ciPA, [.ref pb, .ref ps, .int (nI pC)])), (pb, .inl (cC, 120, .inl pB)), (ps, .inl (cI, 21, .inl (fun zj => nI (pS zj))))] sz) := by
  refine ig_metI (fun (r : Int32) (u : (Nat → Bool) × (Nat → Bool)) => ∃ zr : Bool, r = bI zr ∧ p_IR_out mN mB tT aS aE aB pB pS nC pC d zr u.1 u.2) (fun (u : (Nat → Bool) × (Nat → Bool)) => [(x0, .inr (ciIR, [.ref qT, .int tl, .ref q0, .ref s0, .ref p0, .ref m0])), (m0, .inr (ciMA, [.ref mn, .ref mb])), (mn, .inl (cZ, 21, .inl (fun zj => bI (u.1 zj)))), (mb, .inl (cZ, 121, .inl (fun zj => bI (u.2 zj)))), (q0, .inr (ciRL, [.ref qt, .ref qs, .ref qe, .ref qb, .ref ql, .int (nI nC)])), (qt, .inl (cC, 1000, .inl tT)), (qs, .inl (cI, 60, .inl (fun zj => nI (aS zj)))), (qe, .inl (cI, 60, .inl (fun zj => nI (aE zj)))), (qb, .inl (cI, 60, .inl (fun zj => nI (aB zj)))), (p0, .inr (ciPA, [.ref pb, .ref ps, .int (nI pC)])), (pb, .inl (cC, 120, .inl pB)), (ps, .inl (cI, 21, .inl (fun zj => nI (pS zj))))]) (by decide) rfl (Nat.le_of_ble_eq_true rfl) rfl (by rintro r u ⟨b, rfl, -⟩; exact bI_ret b) ?_
  intro zp ze zs zm zargs zbelow zmeth zc zA zQ hx hb hml hown hts hK hN hA hret
  have hv := t_IR_out mN mB tT aS aE aB pB pS nC pC d hr 
  unfold v_IR_out at hv
  refine ig_aload_n hx hb 0 d_IR_out_0 rfl rfl ?_
  obtain ⟨hc, hv⟩ := hv
  refine ig_cVv (As := []) (rest := []) (wr := [(m0, .inr (ciMA, [.ref mn, .ref mb])), (mn, .inl (cZ, 21, .inl (fun zj => bI (mN zj)))), (mb, .inl (cZ, 121, .inl (fun zj => bI (mB zj)))), (q0, .inr (ciRL, [.ref qt, .ref qs, .ref qe, .ref qb, .ref ql, .int (nI nC)])), (qt, .inl (cC, 1000, .inl tT)), (qs, .inl (cI, 60, .inl (fun zj => nI (aS zj)))), (qe, .inl (cI, 60, .inl (fun zj => nI (aE zj)))), (qb, .inl (cI, 60, .inl (fun zj => nI (aB zj)))), (pb, .inl (cC, 120, .inl pB)), (ps, .inl (cI, 21, .inl (fun zj => nI (pS zj))))]) (ws' := fun u => [(x0, .inr (ciIR, [.ref qT, .int tl, .ref q0, .ref s0, .ref p0, .ref m0])), (m0, .inr (ciMA, [.ref mn, .ref mb])), (mn, .inl (cZ, 21, .inl (fun zj => bI (mN zj)))), (mb, .inl (cZ, 121, .inl (fun zj => bI (mB zj)))), (q0, .inr (ciRL, [.ref qt, .ref qs, .ref qe, .ref qb, .ref ql, .int (nI nC)])), (qt, .inl (cC, 1000, .inl tT)), (qs, .inl (cI, 60, .inl (fun zj => nI (aS zj)))), (qe, .inl (cI, 60, .inl (fun zj => nI (aE zj)))), (qb, .inl (cI, 60, .inl (fun zj => nI (aB zj)))), (p0, .inr (ciPA, [.ref pb, .ref ps, .int (nI pC)])), (pb, .inl (cC, 120, .inl pB)), (ps, .inl (cI, 21, .inl (fun zj => nI (pS zj))))]) hx hb hml hown hts hK hN hA (fun sz => c_IR_requirePath l dC dI cC cI cZ cL x0 qT q0 s0 p0 m0 pb ps tl pC sz hc) ⟨callB_of 0 hts g_IR_requirePath rfl rfl rfl (hts _ kw_0_1) (hts _ kw_1_32) (by decide +kernel) (by decide), (hts _ kw_1_34), (hts _ ks_IR_requirePath)⟩ rfl rfl (Nat.le_of_ble_eq_true rfl) d_IR_out_1 (by decide) 0 rfl rfl [0, 9] [1, 2, 3, 4, 5, 6, 7, 8, 10, 11] [10, 0, 1, 2, 3, 4, 5, 6, 7, 11, 8, 9] rfl rfl (by decide) (by decide) (by decide) (fun _ => rfl) (fun _ => rfl) (fun u hr => ?_)
  unfold p_IR_requirePath at hr
  refine ig_aload_n hx hb 0 d_IR_out_4 rfl rfl ?_
  obtain ⟨hc, hv⟩ := hv
  refine ig_cVi (As := []) (rest := []) (wr := []) (ws' := fun u => [(x0, .inr (ciIR, [.ref qT, .int tl, .ref q0, .ref s0, .ref p0, .ref m0])), (m0, .inr (ciMA, [.ref mn, .ref mb])), (mn, .inl (cZ, 21, .inl (fun zj => bI (u.1 zj)))), (mb, .inl (cZ, 121, .inl (fun zj => bI (u.2 zj)))), (q0, .inr (ciRL, [.ref qt, .ref qs, .ref qe, .ref qb, .ref ql, .int (nI nC)])), (qt, .inl (cC, 1000, .inl tT)), (qs, .inl (cI, 60, .inl (fun zj => nI (aS zj)))), (qe, .inl (cI, 60, .inl (fun zj => nI (aE zj)))), (qb, .inl (cI, 60, .inl (fun zj => nI (aB zj)))), (p0, .inr (ciPA, [.ref pb, .ref ps, .int (nI pC)])), (pb, .inl (cC, 120, .inl pB)), (ps, .inl (cI, 21, .inl (fun zj => nI (pS zj))))]) hx hb hml hown hts hK hN hA (fun sz => c_IR_decidingDepth l dC dI cC cI cZ cL x0 qT q0 s0 p0 m0 mn mb qt qs qe qb ql pb ps tl mN mB tT aS aE aB pB pS nC pC sz hc) ⟨callB_of 0 hts g_IR_decidingDepth rfl rfl rfl (hts _ kw_0_1) (hts _ kw_1_88) (by decide +kernel) (by decide), (hts _ kw_1_90), (hts _ ks_IR_decidingDepth)⟩ rfl rfl (Nat.le_of_ble_eq_true rfl) d_IR_out_5 (by decide) 0 rfl rfl [0, 1, 2, 3, 4, 5, 6, 7, 8, 9, 10, 11] [] [0, 1, 2, 3, 4, 5, 6, 7, 8, 9, 10, 11] rfl rfl (by decide) (by decide) (by decide) (fun _ => rfl) (fun _ => rfl) (fun r u hr => ?_)
  obtain ⟨mN1, mB2⟩ := u
  obtain ⟨rr, rfl, hr⟩ := hr
  unfold p_IR_decidingDepth at hr
  subst hr
  have hv := hv mN1 mB2
  refine ig_aload_n hx hb 0 d_IR_out_8 rfl rfl ?_
  refine ig_get hx hb hts in_IR hown hK 0 rfl rfl 4 (by decide) (hts _ kw_0_93) (fun _ h => h) rfl d_IR_out_9 ?_
  refine ig_getN hx hb hts in_PA hown hK 9 rfl rfl 2 (by decide) (va_Nw.use rfl (fk_10 hN)) (fun _ h => h) rfl d_IR_out_12 ?_
  obtain ⟨h1, hv⟩ := hv
  obtain ⟨h2, hv⟩ := hv
  refine ig_icmp_ltN (tgt := 37) hx hb (sp_dd (fun m => sp_lo aB (sp_lfit tT aS aE aB pB pS nC m true)) pC 1) pC rfl rfl d_IR_out_15 (by decide) h1 h2 (fun h => ?_) (fun h => ?_)
  · have hv := hv.1 h
    refine ig_iconst (v := 1) hx hb d_IR_out_37 (by decide) ?_
    refine ig_goto (tgt := 42) hx hb d_IR_out_38 (by decide) ?_
    exact hret 42 _ 1 (mN1, mB2) d_IR_out_42 ⟨true, rfl, hv⟩
  · have hv := hv.2 h
    refine ig_aload_n hx hb 0 d_IR_out_18 rfl rfl ?_
    refine ig_aload_n hx hb 0 d_IR_out_19 rfl rfl ?_
    refine ig_aload_n hx hb 0 d_IR_out_20 rfl rfl ?_
    refine ig_get hx hb hts in_IR hown hK 0 rfl rfl 4 (by decide) (hts _ kw_0_93) (fun _ h => h) rfl d_IR_out_21 ?_
    refine ig_getN hx hb hts in_PA hown hK 9 rfl rfl 2 (by decide) (va_Nw.use rfl (fk_10 hN)) (fun _ h => h) rfl d_IR_out_24 ?_
    refine ig_iload_n hx hb 1 d_IR_out_27 rfl rfl ?_
    obtain ⟨hc, hv⟩ := hv
    refine ig_cVi (As := [.int (nI pC), .int (bI d)]) (rest := [.ref x0]) (wr := []) (ws' := fun u => [(x0, .inr (ciIR, [.ref qT, .int tl, .ref q0, .ref s0, .ref p0, .ref m0])), (m0, .inr (ciMA, [.ref mn, .ref mb])), (mn, .inl (cZ, 21, .inl (fun zj => bI (u.1 zj)))), (mb, .inl (cZ, 121, .inl (fun zj => bI (u.2 zj)))), (q0, .inr (ciRL, [.ref qt, .ref qs, .ref qe, .ref qb, .ref ql, .int (nI nC)])), (qt, .inl (cC, 1000, .inl tT)), (qs, .inl (cI, 60, .inl (fun zj => nI (aS zj)))), (qe, .inl (cI, 60, .inl (fun zj => nI (aE zj)))), (qb, .inl (cI, 60, .inl (fun zj => nI (aB zj)))), (p0, .inr (ciPA, [.ref pb, .ref ps, .int (nI pC)])), (pb, .inl (cC, 120, .inl pB)), (ps, .inl (cI, 21, .inl (fun zj => nI (pS zj))))]) hx hb hml hown hts hK hN hA (fun sz => c_IR_lastFitting l dC dI cC cI cZ cL x0 qT q0 s0 p0 m0 mn mb qt qs qe qb ql pb ps tl (nI pC) mN1 mB2 tT aS aE aB pB pS nC pC d sz hc) ⟨callB_of 2 hts g_IR_lastFitting rfl rfl rfl (hts _ kw_0_1) (hts _ kw_1_92) (by decide +kernel) (by decide), (hts _ kw_1_94), (hts _ ks_IR_lastFitting)⟩ rfl rfl (Nat.le_of_ble_eq_true rfl) d_IR_out_28 (by decide) 0 rfl rfl [0, 1, 2, 3, 4, 5, 6, 7, 8, 9, 10, 11] [] [0, 1, 2, 3, 4, 5, 6, 7, 8, 9, 10, 11] rfl rfl (by decide) (by decide) (by decide) (fun _ => rfl) (fun _ => rfl) (fun r u hr => ?_)
    obtain ⟨mN3, mB4⟩ := u
    unfold p_IR_lastFitting at hr
    subst hr
    have hv := hv mN3 mB4
    obtain ⟨hc, hv⟩ := hv
    refine ig_cVi (As := [.int (sp_lfit tT aS aE aB pB pS nC pC d)]) (rest := []) (wr := [(m0, .inr (ciMA, [.ref mn, .ref mb])), (mn, .inl (cZ, 21, .inl (fun zj => bI (mN3 zj)))), (mb, .inl (cZ, 121, .inl (fun zj => bI (mB4 zj)))), (qt, .inl (cC, 1000, .inl tT)), (qs, .inl (cI, 60, .inl (fun zj => nI (aS zj)))), (qe, .inl (cI, 60, .inl (fun zj => nI (aE zj)))), (p0, .inr (ciPA, [.ref pb, .ref ps, .int (nI pC)])), (pb, .inl (cC, 120, .inl pB)), (ps, .inl (cI, 21, .inl (fun zj => nI (pS zj))))]) (ws' := fun u => [(x0, .inr (ciIR, [.ref qT, .int tl, .ref q0, .ref s0, .ref p0, .ref m0])), (m0, .inr (ciMA, [.ref mn, .ref mb])), (mn, .inl (cZ, 21, .inl (fun zj => bI (mN3 zj)))), (mb, .inl (cZ, 121, .inl (fun zj => bI (mB4 zj)))), (q0, .inr (ciRL, [.ref qt, .ref qs, .ref qe, .ref qb, .ref ql, .int (nI nC)])), (qt, .inl (cC, 1000, .inl tT)), (qs, .inl (cI, 60, .inl (fun zj => nI (aS zj)))), (qe, .inl (cI, 60, .inl (fun zj => nI (aE zj)))), (qb, .inl (cI, 60, .inl (fun zj => nI (aB zj)))), (p0, .inr (ciPA, [.ref pb, .ref ps, .int (nI pC)])), (pb, .inl (cC, 120, .inl pB)), (ps, .inl (cI, 21, .inl (fun zj => nI (pS zj))))]) hx hb hml hown hts hK hN hA (fun sz => c_IR_leavesOut l dC dI cC cI cZ cL x0 qT q0 s0 p0 m0 qt qs qe qb ql tl (nI nC) aB (sp_lfit tT aS aE aB pB pS nC pC d) sz hc) ⟨callB_of 1 hts g_IR_leavesOut rfl rfl rfl (hts _ kw_0_1) (hts _ kw_1_96) (by decide +kernel) (by decide), (hts _ kw_1_98), (hts _ ks_IR_leavesOut)⟩ rfl rfl (Nat.le_of_ble_eq_true rfl) d_IR_out_31 (by decide) 0 rfl rfl [0, 4, 8] [1, 2, 3, 5, 6, 7, 9, 10, 11] [9, 0, 1, 2, 10, 3, 4, 5, 11, 6, 7, 8] rfl rfl (by decide) (by decide) (by decide) (fun _ => rfl) (fun _ => rfl) (fun r u hr => ?_)
    obtain ⟨rr, rfl, hr⟩ := hr
    unfold p_IR_leavesOut at hr
    subst hr
    refine ig_if_eqB (tgt := 41) hx hb (sp_lo aB (sp_lfit tT aS aE aB pB pS nC pC d)) rfl d_IR_out_34 (by decide) (fun h => ?_) (fun h => ?_)
    · have hv := hv.1 h
      refine ig_iconst (v := 0) hx hb d_IR_out_41 (by decide) ?_
      exact hret 42 _ 0 (mN3, mB4) d_IR_out_42 ⟨false, rfl, hv⟩
    · have hv := hv.2 h
      refine ig_iconst (v := 1) hx hb d_IR_out_37 (by decide) ?_
      refine ig_goto (tgt := 42) hx hb d_IR_out_38 (by decide) ?_
      exact hret 42 _ 1 (mN3, mB4) d_IR_out_42 ⟨true, rfl, hv⟩
theorem d_IR_by_0 : decode b_IR_by 0 = .ok (.aload_n 0, 1) := by decide +kernel
theorem d_IR_by_1 : decode b_IR_by 1 = .ok (.invokevirtual 76, 3) := by decide +kernel
theorem d_IR_by_4 : decode b_IR_by 4 = .ok (.aload_n 0, 1) := by decide +kernel
theorem d_IR_by_5 : decode b_IR_by 5 = .ok (.invokevirtual 83, 3) := by decide +kernel
theorem d_IR_by_8 : decode b_IR_by 8 = .ok (.istore_n 2, 1) := by decide +kernel
theorem d_IR_by_9 : decode b_IR_by 9 = .ok (.aload_n 0, 1) := by decide +kernel
theorem d_IR_by_10 : decode b_IR_by 10 = .ok (.iload_n 2, 1) := by decide +kernel
theorem d_IR_by_11 : decode b_IR_by 11 = .ok (.iload_n 2, 1) := by decide +kernel
theorem d_IR_by_12 : decode b_IR_by 12 = .ok (.aload_n 0, 1) := by decide +kernel
theorem d_IR_by_13 : decode b_IR_by 13 = .ok (.getfield 26, 3) := by decide +kernel
theorem d_IR_by_16 : decode b_IR_by 16 = .ok (.getfield 75, 3) := by decide +kernel
theorem d_IR_by_19 : decode b_IR_by 19 = .ok (.if_icmp .lt 7, 3) := by decide +kernel
theorem d_IR_by_22 : decode b_IR_by 22 = .ok (.iload_n 1, 1) := by decide +kernel
theorem d_IR_by_23 : decode b_IR_by 23 = .ok (.ifCond .eq 7, 3) := by decide +kernel
theorem d_IR_by_26 : decode b_IR_by 26 = .ok (.iconst 1, 1) := by decide +kernel
theorem d_IR_by_27 : decode b_IR_by 27 = .ok (.goto 4, 3) := by decide +kernel
theorem d_IR_by_30 : decode b_IR_by 30 = .ok (.iconst 0, 1) := by decide +kernel
theorem d_IR_by_31 : decode b_IR_by 31 = .ok (.invokevirtual 87, 3) := by decide +kernel
theorem d_IR_by_34 : decode b_IR_by 34 = .ok (.ireturn, 1) := by decide +kernel
abbrev w_IR_by : List Cond := Cond.code y_IR_by b_IR_by 3 (some .int) :: ig_T
theorem g_IR_by : GoodIn ig_T w_IR_by := ig_T_good (ig_T_mem (List.mem_append_right _ (List.mem_append_left _ (List.mem_of_getElem? (i := 106) rfl))) rfl)
set_option maxHeartbeats 4000000 in
set_option maxRecDepth 100000 in
theorem c_IR_by (l : Launch) (dC : Nat → ClassId) (dI : Nat → Nat → Nat) (cC cI cZ cL : ClassId) (x0 qT q0 s0 p0 m0 mn mb qt qs qe qb ql pb ps : Nat) (tl : Int32) (mN : Nat → Bool) (mB : Nat → Bool) (tT : Nat → Int32) (aS : Nat → Nat) (aE : Nat → Nat) (aB : Nat → Nat) (pB : Nat → Int32) (pS : Nat → Nat) (nC : Nat) (pC : Nat) (d : Bool) (sz : Nat) (hr : r_IR_by mN mB tT aS aE aB pB pS nC pC d) : Met l y_IR_by w_IR_by ({ frames := 6, cells := 0, slots := 0, locals := 162 }) (ig_Pc (dC, dI) ig_cl0 [(cC, .char), (cI, .int), (cZ, .boolean), (cL, .long)] [.ref x0, .int (bI d)] [(x0, .inr (ciIR, [.ref qT, .int tl, .ref q0, .ref s0, .ref p0, .ref m0])), (m0, .inr (ciMA, [.ref mn, .ref mb])), (mn, .inl (cZ, 21, .inl (fun zj => bI (mN zj)))), (mb, .inl (cZ, 121, .inl (fun zj => bI (mB zj)))), (q0, .inr (ciRL, [.ref qt, .ref qs, .ref qe, .ref qb, .ref ql, .int (nI nC)])), (qt, .inl (cC, 1000, .inl tT)), (qs, .inl (cI, 60, .inl (fun zj => nI (aS zj)))), (qe, .inl (cI, 60, .inl (fun zj => nI (aE zj)))), (qb, .inl (cI, 60, .inl (fun zj => nI (aB zj)))), (p0, .inr (ciPA, [.ref pb, .ref ps, .int (nI pC)])), (pb, .inl (cC, 120, .inl pB)), (ps, .inl (cI, 21, .inl (fun zj => nI (pS zj))))] sz) (va_Qi (fun (r : Int32) (u : (Nat → Bool) × (Nat → Bool)) => p_IR_by mN mB tT aS aE aB pB pS nC pC d r u.1 u.2) (fun u t => va_P (dC, dI) ig_cl0 ((fun (u : (Nat → Bool) × (Nat → Bool)) => [(x0, .inr (ciIR, [.ref qT, .int tl, .ref q0, .ref s0, .ref p0, .ref m0])), (m0, .inr (ciMA, [.ref mn, .ref mb])), (mn, .inl (cZ, 21, .inl (fun zj => bI (u.1 zj)))), (mb, .inl (cZ, 121, .inl (fun zj => bI (u.2 zj)))), (q0, .inr (ciRL, [.ref qt, .ref qs, .ref qe, .ref qb, .ref ql, .int (nI nC)])), (qt, .inl (cC, 1000, .inl tT)), (qs, .inl (cI, 60, .inl (fun zj => nI (aS zj)))), (qe, .inl (cI, 60, .inl (fun zj => nI (aE zj)))), (qb, .inl (cI, 60, .inl (fun zj => nI (aB zj)))), (p0, .inr (ciPA, [.ref pb, .ref ps, .int (nI pC)])), (pb, .inl (cC, 120, .inl pB)), (ps, .inl (cI, 21, .inl (fun zj => nI (pS zj))))]) u) t.heap ∧ va_D (va_A [(x0, .inr (ciIR, [.ref qT, .int tl, .ref q0, .ref s0, .ref p0, .ref m0])), (m0, .inr (ciMA, [.ref mn, .ref mb])), (mn, .inl (cZ, 21, .inl (fun zj => bI (mN zj)))), (mb, .inl (cZ, 121, .inl (fun zj => bI (mB zj)))), (q0, .inr (ciRL, [.ref qt, .ref qs, .ref qe, .ref qb, .ref ql, .int (nI nC)])), (qt, .inl (cC, 1000, .inl tT)), (qs, .inl (cI, 60, .inl (fun zj => nI (aS zj)))), (qe, .inl (cI, 60, .inl (fun zj => nI (aE zj)))), (qb, .inl (cI, 60, .inl (fun zj => nI (aB zj)))), (p0, .inr (ciPA, [.ref pb, .ref ps, .int (nI pC)])), (pb, .inl (cC, 120, .inl pB)), (ps, .inl (cI, 21, .inl (fun zj => nI (pS zj))))] sz) ((fun (u : (Nat → Bool) × (Nat → Bool)) => [(x0, .inr (ciIR, [.ref qT, .int tl, .ref q0, .ref s0, .ref p0, .ref m0])), (m0, .inr (ciMA, [.ref mn, .ref mb])), (mn, .inl (cZ, 21, .inl (fun zj => bI (u.1 zj)))), (mb, .inl (cZ, 121, .inl (fun zj => bI (u.2 zj)))), (q0, .inr (ciRL, [.ref qt, .ref qs, .ref qe, .ref qb, .ref ql, .int (nI nC)])), (qt, .inl (cC, 1000, .inl tT)), (qs, .inl (cI, 60, .inl (fun zj => nI (aS zj)))), (qe, .inl (cI, 60, .inl (fun zj => nI (aE zj)))), (qb, .inl (cI, 60, .inl (fun zj => nI (aB zj)))), (p0, .inr (ciPA, [.ref pb, .ref ps, .int (nI pC)])), (pb, .inl (cC, 120, .inl pB)), (ps, .inl (cI, 21, .inl (fun zj => nI (pS zj))))]) u)) (va_A [(x0, .inr (ciIR, [.ref qT, .int tl, .ref q0, .ref s0, .ref p0, .ref m0])), (m0, .inr (ciMA, [.ref mn, .ref mb])), (mn, .inl (cZ, 21, .inl (fun zj => bI (mN zj)))), (mb, .inl (cZ, 121, .inl (fun zj => bI (mB zj)))), (q0, .inr (ciRL, [.ref qt, .ref qs, .ref qe, .ref qb, .ref ql, .int (nI nC)])), (qt, .inl (cC, 1000, .inl tT)), (qs, .inl (cI, 60, .inl (fun zj => nI (aS zj)))), (qe, .inl (cI, 60, .inl (fun zj => nI (aE zj)))), (qb, .inl (cI, 60, .inl (fun zj => nI (aB zj)))), (p0, .inr (ciPA, [.ref pb, .ref ps, .int (nI pC)])), (pb, .inl (cC, 120, .inl pB)), (ps, .inl (cI, 21, .inl (fun zj => nI (pS zj))))] sz)) 0 0 (va_A [(x0, .inr (ciIR, [.ref qT, .int tl, .ref q0, .ref s0, .ref p0, .ref m0])), (m0, .inr (ciMA, [.ref mn, .ref mb])), (mn, .inl (cZ, 21, .inl (fun zj => bI (mN zj)))), (mb, .inl (cZ, 121, .inl (fun zj => bI (mB zj)))), (q0, .inr (ciRL, [.ref qt, .ref qs, .ref qe, .ref qb, .ref ql, .int (nI nC)])), (qt, .inl (cC, 1000, .inl tT)), (qs, .inl (cI, 60, .inl (fun zj => nI (aS zj)))), (qe, .inl (cI, 60, .inl (fun zj => nI (aE zj)))), (qb, .inl (cI, 60, .inl (fun zj => nI (aB zj)))), (p0, .inr (ciPA, [.ref pb, .ref ps, .int (nI pC)])), (pb, .inl (cC, 120, .inl pB)), (ps, .inl (cI, 21, .inl (fun zj => nI (pS zj))))] sz) := by
  refine ig_metI (fun (r : Int32) (u : (Nat → Bool) × (Nat → Bool)) => p_IR_by mN mB tT aS aE aB pB pS nC pC d r u.1 u.2) (fun (u : (Nat → Bool) × (Nat → Bool)) => [(x0, .inr (ciIR, [.ref qT, .int tl, .ref q0, .ref s0, .ref p0, .ref m0])), (m0, .inr (ciMA, [.ref mn, .ref mb])), (mn, .inl (cZ, 21, .inl (fun zj => bI (u.1 zj)))), (mb, .inl (cZ, 121, .inl (fun zj => bI (u.2 zj)))), (q0, .inr (ciRL, [.ref qt, .ref qs, .ref qe, .ref qb, .ref ql, .int (nI nC)])), (qt, .inl (cC, 1000, .inl tT)), (qs, .inl (cI, 60, .inl (fun zj => nI (aS zj)))), (qe, .inl (cI, 60, .inl (fun zj => nI (aE zj)))), (qb, .inl (cI, 60, .inl (fun zj => nI (aB zj)))), (p0, .inr (ciPA, [.ref pb, .ref ps, .int (nI pC)])), (pb, .inl (cC, 120, .inl pB)), (ps, .inl (cI, 21, .inl (fun zj => nI (pS zj))))]) (by decide) rfl (Nat.le_of_ble_eq_true rfl) rfl (fun _ _ _ => rfl) ?_
  intro zp ze zs zm zargs zbelow zmeth zc zA zQ hx hb hml hown hts hK hN hA hret
  have j31 : ∀ (zv0 : Bool) (zv1 : Nat) (mNc : Nat → Bool) (mBc : Nat → Bool), v_IR_by_31 mN mB tT aS aE aB pB pS nC pC d (p_IR_by mN mB tT aS aE aB pB pS nC pC d) zv0 zv1 mNc mBc → ig_W zp l ze ({ frames := 6, cells := 0, slots := 0, locals := 162 }) zs zm zargs zbelow zmeth zc (dC, dI) ig_cl0 zA zs.heap 3 0 0 zQ 31 [] [.int (bI zv0), .int (nI zv1), .ref x0] [(x0, .inr (ciIR, [.ref qT, .int tl, .ref q0, .ref s0, .ref p0, .ref m0])), (m0, .inr (ciMA, [.ref mn, .ref mb])), (mn, .inl (cZ, 21, .inl (fun zj => bI (mNc zj)))), (mb, .inl (cZ, 121, .inl (fun zj => bI (mBc zj)))), (q0, .inr (ciRL, [.ref qt, .ref qs, .ref qe, .ref qb, .ref ql, .int (nI nC)])), (qt, .inl (cC, 1000, .inl tT)), (qs, .inl (cI, 60, .inl (fun zj => nI (aS zj)))), (qe, .inl (cI, 60, .inl (fun zj => nI (aE zj)))), (qb, .inl (cI, 60, .inl (fun zj => nI (aB zj)))), (p0, .inr (ciPA, [.ref pb, .ref ps, .int (nI pC)])), (pb, .inl (cC, 120, .inl pB)), (ps, .inl (cI, 21, .inl (fun zj => nI (pS zj))))] := by
    intro zv0 zv1 mNc mBc hv
    unfold v_IR_by_31 at hv
    obtain ⟨hc, hv⟩ := hv
    refine ig_cVi (As := [.int (nI zv1), .int (bI zv0)]) (rest := []) (wr := []) (ws' := fun u => [(x0, .inr (ciIR, [.ref qT, .int tl, .ref q0, .ref s0, .ref p0, .ref m0])), (m0, .inr (ciMA, [.ref mn, .ref mb])), (mn, .inl (cZ, 21, .inl (fun zj => bI (u.1 zj)))), (mb, .inl (cZ, 121, .inl (fun zj => bI (u.2 zj)))), (q0, .inr (ciRL, [.ref qt, .ref qs, .ref qe, .ref qb, .ref ql, .int (nI nC)])), (qt, .inl (cC, 1000, .inl tT)), (qs, .inl (cI, 60, .inl (fun zj => nI (aS zj)))), (qe, .inl (cI, 60, .inl (fun zj => nI (aE zj)))), (qb, .inl (cI, 60, .inl (fun zj => nI (aB zj)))), (p0, .inr (ciPA, [.ref pb, .ref ps, .int (nI pC)])), (pb, .inl (cC, 120, .inl pB)), (ps, .inl (cI, 21, .inl (fun zj => nI (pS zj))))]) hx hb hml hown hts hK hN hA (fun sz => c_IR_lastFitting l dC dI cC cI cZ cL x0 qT q0 s0 p0 m0 mn mb qt qs qe qb ql pb ps tl (nI pC) mNc mBc tT aS aE aB pB pS nC zv1 zv0 sz hc) ⟨callB_of 2 hts g_IR_lastFitting rfl rfl rfl (hts _ kw_0_1) (hts _ kw_1_92) (by decide +kernel) (by decide), (hts _ kw_1_94), (hts _ ks_IR_lastFitting)⟩ rfl rfl (Nat.le_of_ble_eq_true rfl) d_IR_by_31 (by decide) 0 rfl rfl [0, 1, 2, 3, 4, 5, 6, 7, 8, 9, 10, 11] [] [0, 1, 2, 3, 4, 5, 6, 7, 8, 9, 10, 11] rfl rfl (by decide) (by decide) (by decide) (fun _ => rfl) (fun _ => rfl) (fun r u hr => ?_)
    obtain ⟨mN3, mB4⟩ := u
    unfold p_IR_lastFitting at hr
    subst hr
    have hv := hv mN3 mB4
    exact hret 34 _ (sp_lfit tT aS aE aB pB pS nC zv1 zv0) (mN3, mB4) d_IR_by_34 hv
  have j26 : ∀ (zv0 : Nat) (mNc : Nat → Bool) (mBc : Nat → Bool), v_IR_by_26 mN mB tT aS aE aB pB pS nC pC d (p_IR_by mN mB tT aS aE aB pB pS nC pC d) zv0 mNc mBc → ig_W zp l ze ({ frames := 6, cells := 0, slots := 0, locals := 162 }) zs zm zargs zbelow zmeth zc (dC, dI) ig_cl0 zA zs.heap 3 0 0 zQ 26 [] [.int (nI zv0), .ref x0] [(x0, .inr (ciIR, [.ref qT, .int tl, .ref q0, .ref s0, .ref p0, .ref m0])), (m0, .inr (ciMA, [.ref mn, .ref mb])), (mn, .inl (cZ, 21, .inl (fun zj => bI (mNc zj)))), (mb, .inl (cZ, 121, .inl (fun zj => bI (mBc zj)))), (q0, .inr (ciRL, [.ref qt, .ref qs, .ref qe, .ref qb, .ref ql, .int (nI nC)])), (qt, .inl (cC, 1000, .inl tT)), (qs, .inl (cI, 60, .inl (fun zj => nI (aS zj)))), (qe, .inl (cI, 60, .inl (fun zj => nI (aE zj)))), (qb, .inl (cI, 60, .inl (fun zj => nI (aB zj)))), (p0, .inr (ciPA, [.ref pb, .ref ps, .int (nI pC)])), (pb, .inl (cC, 120, .inl pB)), (ps, .inl (cI, 21, .inl (fun zj => nI (pS zj))))] := by
    intro zv0 mNc mBc hv
    unfold v_IR_by_26 at hv
    refine ig_iconst (v := 1) hx hb d_IR_by_26 (by decide) ?_
    refine ig_goto (tgt := 31) hx hb d_IR_by_27 (by decide) ?_
    refine ig_lv (lv' := []) [] rfl ?_
    exact j31 _ _ _ _ hv
  have hv := t_IR_by mN mB tT aS aE aB pB pS nC pC d hr 
  unfold v_IR_by at hv
  refine ig_aload_n hx hb 0 d_IR_by_0 rfl rfl ?_
  obtain ⟨hc, hv⟩ := hv
  refine ig_cVv (As := []) (rest := []) (wr := [(m0, .inr (ciMA, [.ref mn, .ref mb])), (mn, .inl (cZ, 21, .inl (fun zj => bI (mN zj)))), (mb, .inl (cZ, 121, .inl (fun zj => bI (mB zj)))), (q0, .inr (ciRL, [.ref qt, .ref qs, .ref qe, .ref qb, .ref ql, .int (nI nC)])), (qt, .inl (cC, 1000, .inl tT)), (qs, .inl (cI, 60, .inl (fun zj => nI (aS zj)))), (qe, .inl (cI, 60, .inl (fun zj => nI (aE zj)))), (qb, .inl (cI, 60, .inl (fun zj => nI (aB zj)))), (pb, .inl (cC, 120, .inl pB)), (ps, .inl (cI, 21, .inl (fun zj => nI (pS zj))))]) (ws' := fun u => [(x0, .inr (ciIR, [.ref qT, .int tl, .ref q0, .ref s0, .ref p0, .ref m0])), (m0, .inr (ciMA, [.ref mn, .ref mb])), (mn, .inl (cZ, 21, .inl (fun zj => bI (mN zj)))), (mb, .inl (cZ, 121, .inl (fun zj => bI (mB zj)))), (q0, .inr (ciRL, [.ref qt, .ref qs, .ref qe, .ref qb, .ref ql, .int (nI nC)])), (qt, .inl (cC, 1000, .inl tT)), (qs, .inl (cI, 60, .inl (fun zj => nI (aS zj)))), (qe, .inl (cI, 60, .inl (fun zj => nI (aE zj)))), (qb, .inl (cI, 60, .inl (fun zj => nI (aB zj)))), (p0, .inr (ciPA, [.ref pb, .ref ps, .int (nI pC)])), (pb, .inl (cC, 120, .inl pB)), (ps, .inl (cI, 21, .inl (fun zj => nI (pS zj))))]) hx hb hml hown hts hK hN hA (fun sz => c_IR_requirePath l dC dI cC cI cZ cL x0 qT q0 s0 p0 m0 pb ps tl pC sz hc) ⟨callB_of 0 hts g_IR_requirePath rfl rfl rfl (hts _ kw_0_1) (hts _ kw_1_32) (by decide +kernel) (by decide), (hts _ kw_1_34), (hts _ ks_IR_requirePath)⟩ rfl rfl (Nat.le_of_ble_eq_true rfl) d_IR_by_1 (by decide) 0 rfl rfl [0, 9] [1, 2, 3, 4, 5, 6, 7, 8, 10, 11] [10, 0, 1, 2, 3, 4, 5, 6, 7, 11, 8, 9] rfl rfl (by decide) (by decide) (by decide) (fun _ => rfl) (fun _ => rfl) (fun u hr => ?_)
  unfold p_IR_requirePath at hr
  refine ig_aload_n hx hb 0 d_IR_by_4 rfl rfl ?_
  obtain ⟨hc, hv⟩ := hv
  refine ig_cVi (As := []) (rest := []) (wr := []) (ws' := fun u => [(x0, .inr (ciIR, [.ref qT, .int tl, .ref q0, .ref s0, .ref p0, .ref m0])), (m0, .inr (ciMA, [.ref mn, .ref mb])), (mn, .inl (cZ, 21, .inl (fun zj => bI (u.1 zj)))), (mb, .inl (cZ, 121, .inl (fun zj => bI (u.2 zj)))), (q0, .inr (ciRL, [.ref qt, .ref qs, .ref qe, .ref qb, .ref ql, .int (nI nC)])), (qt, .inl (cC, 1000, .inl tT)), (qs, .inl (cI, 60, .inl (fun zj => nI (aS zj)))), (qe, .inl (cI, 60, .inl (fun zj => nI (aE zj)))), (qb, .inl (cI, 60, .inl (fun zj => nI (aB zj)))), (p0, .inr (ciPA, [.ref pb, .ref ps, .int (nI pC)])), (pb, .inl (cC, 120, .inl pB)), (ps, .inl (cI, 21, .inl (fun zj => nI (pS zj))))]) hx hb hml hown hts hK hN hA (fun sz => c_IR_decidingDepth l dC dI cC cI cZ cL x0 qT q0 s0 p0 m0 mn mb qt qs qe qb ql pb ps tl mN mB tT aS aE aB pB pS nC pC sz hc) ⟨callB_of 0 hts g_IR_decidingDepth rfl rfl rfl (hts _ kw_0_1) (hts _ kw_1_88) (by decide +kernel) (by decide), (hts _ kw_1_90), (hts _ ks_IR_decidingDepth)⟩ rfl rfl (Nat.le_of_ble_eq_true rfl) d_IR_by_5 (by decide) 0 rfl rfl [0, 1, 2, 3, 4, 5, 6, 7, 8, 9, 10, 11] [] [0, 1, 2, 3, 4, 5, 6, 7, 8, 9, 10, 11] rfl rfl (by decide) (by decide) (by decide) (fun _ => rfl) (fun _ => rfl) (fun r u hr => ?_)
  obtain ⟨mN1, mB2⟩ := u
  obtain ⟨rr, rfl, hr⟩ := hr
  unfold p_IR_decidingDepth at hr
  subst hr
  have hv := hv mN1 mB2
  refine ig_istore_n (lv' := [(2, .int (nI (sp_dd (fun m => sp_lo aB (sp_lfit tT aS aE aB pB pS nC m true)) pC 1))), (0, .ref x0), (1, .int (bI d))]) hx hb d_IR_by_8 rfl (by decide) rfl ?_
  refine ig_aload_n hx hb 1 d_IR_by_9 rfl rfl ?_
  refine ig_iload_n hx hb 0 d_IR_by_10 rfl rfl ?_
  refine ig_iload_n hx hb 0 d_IR_by_11 rfl rfl ?_
  refine ig_aload_n hx hb 1 d_IR_by_12 rfl rfl ?_
  refine ig_get hx hb hts in_IR hown hK 0 rfl rfl 4 (by decide) (hts _ kw_0_93) (fun _ h => h) rfl d_IR_by_13 ?_
  refine ig_getN hx hb hts in_PA hown hK 9 rfl rfl 2 (by decide) (va_Nw.use rfl (fk_10 hN)) (fun _ h => h) rfl d_IR_by_16 ?_
  obtain ⟨h1, hv⟩ := hv
  obtain ⟨h2, hv⟩ := hv
  refine ig_icmp_ltN (tgt := 26) hx hb (sp_dd (fun m => sp_lo aB (sp_lfit tT aS aE aB pB pS nC m true)) pC 1) pC rfl rfl d_IR_by_19 (by decide) h1 h2 (fun h => ?_) (fun h => ?_)
  · have hv := hv.1 h
    refine ig_lv (lv' := []) [] rfl ?_
    exact j26 _ _ _ hv
  · have hv := hv.2 h
    refine ig_iload_n hx hb 2 d_IR_by_22 rfl rfl ?_
    refine ig_if_eqB (tgt := 30) hx hb d rfl d_IR_by_23 (by decide) (fun h => ?_) (fun h => ?_)
    · have hv := hv.1 h
      refine ig_iconst (v := 0) hx hb d_IR_by_30 (by decide) ?_
      refine ig_lv (lv' := []) [] rfl ?_
      exact j31 _ _ _ _ hv
    · have hv := hv.2 h
      refine ig_lv (lv' := []) [] rfl ?_
      exact j26 _ _ _ hv
