theorem kw_0_239 : Cond.methodLink "IgnoreRules" 57 y_IR_requireRule ∈ ig_T := ig_T_mem (List.mem_append_left _ (List.mem_of_getElem? (i := 239) rfl)) rfl
theorem kw_1_1 : Cond.instanceMethod y_IR_requireRule ∈ ig_T := ig_T_mem (List.mem_append_right _ (List.mem_append_left _ (List.mem_of_getElem? (i := 1) rfl))) rfl
theorem d_IR_many_0 : decode b_IR_many 0 = .ok (.aload_n 0, 1) := by decide +kernel
theorem d_IR_many_1 : decode b_IR_many 1 = .ok (.invokevirtual 76, 3) := by decide +kernel
theorem d_IR_many_4 : decode b_IR_many 4 = .ok (.iconst 0, 1) := by decide +kernel
theorem d_IR_many_5 : decode b_IR_many 5 = .ok (.istore_n 2, 1) := by decide +kernel
theorem d_IR_many_6 : decode b_IR_many 6 = .ok (.iconst 0, 1) := by decide +kernel
theorem d_IR_many_7 : decode b_IR_many 7 = .ok (.istore_n 3, 1) := by decide +kernel
theorem d_IR_many_8 : decode b_IR_many 8 = .ok (.iload_n 3, 1) := by decide +kernel
theorem d_IR_many_9 : decode b_IR_many 9 = .ok (.aload_n 0, 1) := by decide +kernel
theorem d_IR_many_10 : decode b_IR_many 10 = .ok (.getfield 16, 3) := by decide +kernel
theorem d_IR_many_13 : decode b_IR_many 13 = .ok (.getfield 54, 3) := by decide +kernel
theorem d_IR_many_16 : decode b_IR_many 16 = .ok (.if_icmp .ge 39, 3) := by decide +kernel
theorem d_IR_many_19 : decode b_IR_many 19 = .ok (.aload_n 0, 1) := by decide +kernel
theorem d_IR_many_20 : decode b_IR_many 20 = .ok (.getfield 33, 3) := by decide +kernel
theorem d_IR_many_23 : decode b_IR_many 23 = .ok (.aload_n 0, 1) := by decide +kernel
theorem d_IR_many_24 : decode b_IR_many 24 = .ok (.getfield 16, 3) := by decide +kernel
theorem d_IR_many_27 : decode b_IR_many 27 = .ok (.iload_n 3, 1) := by decide +kernel
theorem d_IR_many_28 : decode b_IR_many 28 = .ok (.aload_n 0, 1) := by decide +kernel
theorem d_IR_many_29 : decode b_IR_many 29 = .ok (.getfield 26, 3) := by decide +kernel
theorem d_IR_many_32 : decode b_IR_many 32 = .ok (.aload_n 0, 1) := by decide +kernel
theorem d_IR_many_33 : decode b_IR_many 33 = .ok (.getfield 26, 3) := by decide +kernel
theorem d_IR_many_36 : decode b_IR_many 36 = .ok (.getfield 75, 3) := by decide +kernel
theorem d_IR_many_39 : decode b_IR_many 39 = .ok (.iload_n 1, 1) := by decide +kernel
theorem d_IR_many_40 : decode b_IR_many 40 = .ok (.invokevirtual 79, 3) := by decide +kernel
theorem d_IR_many_43 : decode b_IR_many 43 = .ok (.ifCond .eq 6, 3) := by decide +kernel
theorem d_IR_many_46 : decode b_IR_many 46 = .ok (.iinc 2 1, 3) := by decide +kernel
theorem d_IR_many_49 : decode b_IR_many 49 = .ok (.iinc 3 1, 3) := by decide +kernel
theorem d_IR_many_52 : decode b_IR_many 52 = .ok (.goto (-44), 3) := by decide +kernel
theorem d_IR_many_55 : decode b_IR_many 55 = .ok (.iload_n 2, 1) := by decide +kernel
theorem d_IR_many_56 : decode b_IR_many 56 = .ok (.ireturn, 1) := by decide +kernel
abbrev w_IR_many : List Cond := Cond.code y_IR_many b_IR_many 4 (some .int) :: ig_T
theorem g_IR_many : GoodIn ig_T w_IR_many := ig_T_good (ig_T_mem (List.mem_append_right _ (List.mem_append_left _ (List.mem_of_getElem? (i := 120) rfl))) rfl)
set_option maxHeartbeats 4000000 in
set_option maxRecDepth 100000 in
theorem c_IR_many (l : Launch) (dC : Nat → ClassId) (dI : Nat → Nat → Nat) (cC cI cZ cL : ClassId) (x0 qT q0 s0 p0 m0 mn mb qt qs qe qb ql pb ps : Nat) (tl : Int32) (mN : Nat → Bool) (mB : Nat → Bool) (tT : Nat → Int32) (aS : Nat → Nat) (aE : Nat → Nat) (aB : Nat → Nat) (pB : Nat → Int32) (pS : Nat → Nat) (nC : Nat) (pC : Nat) (d : Bool) (sz : Nat) (hr : r_IR_many mN mB tT aS aE aB pB pS nC pC d) : Met l y_IR_many w_IR_many ({ frames := 4, cells := 0, slots := 0, locals := 118 }) (ig_Pc (dC, dI) ig_cl0 [(cC, .char), (cI, .int), (cZ, .boolean), (cL, .long)] [.ref x0, .int (bI d)] [(x0, .inr (ciIR, [.ref qT, .int tl, .ref q0, .ref s0, .ref p0, .ref m0])), (m0, .inr (ciMA, [.ref mn, .ref mb])), (mn, .inl (cZ, 21, .inl (fun zj => bI (mN zj)))), (mb, .inl (cZ, 121, .inl (fun zj => bI (mB zj)))), (q0, .inr (ciRL, [.ref qt, .ref qs, .ref qe, .ref qb, .ref ql, .int (nI nC)])), (qt, .inl (cC, 1000, .inl tT)), (qs, .inl (cI, 60, .inl (fun zj => nI (aS zj)))), (qe, .inl (cI, 60, .inl (fun zj => nI (aE zj)))), (qb, .inl (cI, 60, .inl (fun zj => nI (aB zj)))), (p0, .inr (ciPA, [.ref pb, .ref ps, .int (nI pC)])), (pb, .inl (cC, 120, .inl pB)), (ps, .inl (cI, 21, .inl (fun zj => nI (pS zj))))] sz) (va_Qi (fun (r : Int32) (u : (Nat → Bool) × (Nat → Bool)) => ∃ zr : Nat, r = nI zr ∧ p_IR_many mN mB tT aS aE aB pB pS nC pC d zr u.1 u.2) (fun u t => va_P (dC, dI) ig_cl0 ((fun (u : (Nat → Bool) × (Nat → Bool)) => [(x0, .inr (ciIR, [.ref qT, .int tl, .ref q0, .ref s0, .ref p0, .ref m0])), (m0, .inr (ciMA, [.ref mn, .ref mb])), (mn, .inl (cZ, 21, .inl (fun zj => bI (u.1 zj)))), (mb, .inl (cZ, 121, .inl (fun zj => bI (u.2 zj)))), (q0, .inr (ciRL, [.ref qt, .ref qs, .ref qe, .ref qb, .ref ql, .int (nI nC)])), (qt, .inl (cC, 1000, .inl tT)), (qs, .inl (cI, 60, .inl (fun zj => nI (aS zj)))), (qe, .inl (cI, 60, .inl (fun zj => nI (aE zj)))), (qb, .inl (cI, 60, .inl (fun zj => nI (aB zj)))), (p0, .inr (ciPA, [.ref pb, .ref ps, .int (nI pC)])), (pb, .inl (cC, 120, .inl pB)), (ps, .inl (cI, 21, .inl (fun zj => nI (pS zj))))]) u) t.heap ∧ va_D (va_A [(x0, .inr (ciIR, [.ref qT, .int tl, .ref q0, .ref s0, .ref p0, .ref m0])), (m0, .inr (ciMA, [.ref mn, .ref mb])), (mn, .inl (cZ, 21, .inl (fun zj => bI (mN zj)))), (mb, .inl (cZ, 121, .inl (fun zj => bI (mB zj)))), (q0, .inr (ciRL, [.ref qt, .ref qs, .ref qe, .ref qb, .ref ql, .int (nI nC)])), (qt, .inl (cC, 1000, .inl tT)), (qs, .inl (cI, 60, .inl (fun zj => nI (aS zj)))), (qe, .inl (cI, 60, .inl (fun zj => nI (aE zj)))), (qb, .inl (cI, 60, .inl (fun zj => nI (aB zj)))), (p0, .inr (ciPA, [.ref pb, .ref ps, .int (nI pC)])), (pb, .inl (cC, 120, .inl pB)), (ps, .inl (cI, 21, .inl (fun zj => nI (pS zj))))] sz) ((fun (u : (Nat → Bool) × (Nat → Bool)) => [(x0, .inr (ciIR, [.ref qT, .int tl, .ref q0, .ref s0, .ref p0, .ref m0])), (m0, .inr (ciMA, [.ref mn, .ref mb])), (mn, .inl (cZ, 21, .inl (fun zj => bI (u.1 zj)))), (mb, .inl (cZ, 121, .inl (fun zj => bI (u.2 zj)))), (q0, .inr (ciRL, [.ref qt, .ref qs, .ref qe, .ref qb, .ref ql, .int (nI nC)])), (qt, .inl (cC, 1000, .inl tT)), (qs, .inl (cI, 60, .inl (fun zj => nI (aS zj)))), (qe, .inl (cI, 60, .inl (fun zj => nI (aE zj)))), (qb, .inl (cI, 60, .inl (fun zj => nI (aB zj)))), (p0, .inr (ciPA, [.ref pb, .ref ps, .int (nI pC)])), (pb, .inl (cC, 120, .inl pB)), (ps, .inl (cI, 21, .inl (fun zj => nI (pS zj))))]) u)) (va_A [(x0, .inr (ciIR, [.ref qT, .int tl, .ref q0, .ref s0, .ref p0, .ref m0])), (m0, .inr (ciMA, [.ref mn, .ref mb])), (mn, .inl (cZ, 21, .inl (fun zj => bI (mN zj)))), (mb, .inl (cZ, 121, .inl (fun zj => bI (mB zj)))), (q0, .inr (ciRL, [.ref qt, .ref qs, .ref qe, .ref qb, .ref ql, .int (nI nC)])), (qt, .inl (cC, 1000, .inl tT)), (qs, .inl (cI, 60, .inl (fun zj => nI (aS zj)))), (qe, .inl (cI, 60, .inl (fun zj => nI (aE zj)))), (qb, .inl (cI, 60, .inl (fun zj => nI (aB zj)))), (p0, .inr (ciPA, [.ref pb, .ref ps, .int (nI pC)])), (pb, .inl (cC, 120, .inl pB)), (ps, .inl (cI, 21, .inl (fun zj => nI (pS zj))))] sz)) 0 0 (va_A [(x0, .inr (ciIR, [.ref qT, .int tl, .ref q0, .ref s0, .ref p0, .ref m0])), (m0, .inr (ciMA, [.ref mn, .ref mb])), (mn, .inl (cZ, 21, .inl (fun zj => bI (mN zj)))), (mb, .inl (cZ, 121, .inl (fun zj => bI (mB zj)))), (q0, .inr (ciRL, [.ref qt, .ref qs, .ref qe, .ref qb, .ref ql, .int (nI nC)])), (qt, .inl (cC, 1000, .inl tT)), (qs, .inl (cI, 60, .inl (fun zj => nI (aS zj)))), (qe, .inl (cI, 60, .inl (fun zj => nI (aE zj)))), (qb, .inl (cI, 60, .inl (fun zj => nI (aB zj)))), (p0, .inr (ciPA, [.ref pb, .ref ps, .int (nI pC)])), (pb, .inl (cC, 120, .inl pB)), (ps, .inl (cI, 21, .inl (fun zj => nI (pS zj))))] sz) := by
  refine ig_metI (fun (r : Int32) (u : (Nat → Bool) × (Nat → Bool)) => ∃ zr : Nat, r = nI zr ∧ p_IR_many mN mB tT aS aE aB pB pS nC pC d zr u.1 u.2) (fun (u : (Nat → Bool) × (Nat → Bool)) => [(x0, .inr (ciIR, [.ref qT, .int tl, .ref q0, .ref s0, .ref p0, .ref m0])), (m0, .inr (ciMA, [.ref mn, .ref mb])), (mn, .inl (cZ, 21, .inl (fun zj => bI (u.1 zj)))), (mb, .inl (cZ, 121, .inl (fun zj => bI (u.2 zj)))), (q0, .inr (ciRL, [.ref qt, .ref qs, .ref qe, .ref qb, .ref ql, .int (nI nC)])), (qt, .inl (cC, 1000, .inl tT)), (qs, .inl (cI, 60, .inl (fun zj => nI (aS zj)))), (qe, .inl (cI, 60, .inl (fun zj => nI (aE zj)))), (qb, .inl (cI, 60, .inl (fun zj => nI (aB zj)))), (p0, .inr (ciPA, [.ref pb, .ref ps, .int (nI pC)])), (pb, .inl (cC, 120, .inl pB)), (ps, .inl (cI, 21, .inl (fun zj => nI (pS zj))))]) (by decide) rfl (Nat.le_of_ble_eq_true rfl) rfl (fun _ _ _ => rfl) ?_
  intro zp ze zs zm zargs zbelow zmeth zc zA zQ hx hb hml hown hts hK hN hA hret
  obtain ⟨K8, hK8⟩ : ∃ K : Nat → Nat → (Nat → Bool) → (Nat → Bool) → Prop, K = fun (g : Nat) (k : Nat) (mNc : Nat → Bool) (mBc : Nat → Bool) => ig_W zp l ze ({ frames := 4, cells := 0, slots := 0, locals := 118 }) zs zm zargs zbelow zmeth zc (dC, dI) ig_cl0 zA zs.heap 4 0 0 zQ 8 [(0, .ref x0), (1, .int (bI d)), (2, .int (nI g)), (3, .int (nI k))] [] [(x0, .inr (ciIR, [.ref qT, .int tl, .ref q0, .ref s0, .ref p0, .ref m0])), (m0, .inr (ciMA, [.ref mn, .ref mb])), (mn, .inl (cZ, 21, .inl (fun zj => bI (mNc zj)))), (mb, .inl (cZ, 121, .inl (fun zj => bI (mBc zj)))), (q0, .inr (ciRL, [.ref qt, .ref qs, .ref qe, .ref qb, .ref ql, .int (nI nC)])), (qt, .inl (cC, 1000, .inl tT)), (qs, .inl (cI, 60, .inl (fun zj => nI (aS zj)))), (qe, .inl (cI, 60, .inl (fun zj => nI (aE zj)))), (qb, .inl (cI, 60, .inl (fun zj => nI (aB zj)))), (p0, .inr (ciPA, [.ref pb, .ref ps, .int (nI pC)])), (pb, .inl (cC, 120, .inl pB)), (ps, .inl (cI, 21, .inl (fun zj => nI (pS zj))))] := ⟨_, rfl⟩
  have k8 : ∀ (g : Nat) (k : Nat) (mNc : Nat → Bool) (mBc : Nat → Bool), v_IR_many_8 mN mB tT aS aE aB pB pS nC pC d K8 (p_IR_many mN mB tT aS aE aB pB pS nC pC d) g k mNc mBc → K8 g k mNc mBc := by
    intro g k mNc mBc hv
    unfold v_IR_many_8 at hv
    rw [hK8]
    show ig_W zp l ze ({ frames := 4, cells := 0, slots := 0, locals := 118 }) zs zm zargs zbelow zmeth zc (dC, dI) ig_cl0 zA zs.heap 4 0 0 zQ 8 [(0, .ref x0), (1, .int (bI d)), (2, .int (nI g)), (3, .int (nI k))] [] [(x0, .inr (ciIR, [.ref qT, .int tl, .ref q0, .ref s0, .ref p0, .ref m0])), (m0, .inr (ciMA, [.ref mn, .ref mb])), (mn, .inl (cZ, 21, .inl (fun zj => bI (mNc zj)))), (mb, .inl (cZ, 121, .inl (fun zj => bI (mBc zj)))), (q0, .inr (ciRL, [.ref qt, .ref qs, .ref qe, .ref qb, .ref ql, .int (nI nC)])), (qt, .inl (cC, 1000, .inl tT)), (qs, .inl (cI, 60, .inl (fun zj => nI (aS zj)))), (qe, .inl (cI, 60, .inl (fun zj => nI (aE zj)))), (qb, .inl (cI, 60, .inl (fun zj => nI (aB zj)))), (p0, .inr (ciPA, [.ref pb, .ref ps, .int (nI pC)])), (pb, .inl (cC, 120, .inl pB)), (ps, .inl (cI, 21, .inl (fun zj => nI (pS zj))))]
    refine ig_iload_n hx hb 3 d_IR_many_8 rfl rfl ?_
    refine ig_aload_n hx hb 0 d_IR_many_9 rfl rfl ?_
    refine ig_get hx hb hts in_IR hown hK 0 rfl rfl 2 (by decide) (hts _ kw_0_91) (fun _ h => h) rfl d_IR_many_10 ?_
    refine ig_getN hx hb hts in_RL hown hK 4 rfl rfl 5 (by decide) (va_Nw.use rfl (fk_7 hN)) (fun _ h => h) rfl d_IR_many_13 ?_
    obtain ⟨h1, hv⟩ := hv
    obtain ⟨h2, hv⟩ := hv
    refine ig_icmp_geN (tgt := 55) hx hb k nC rfl rfl d_IR_many_16 (by decide) h1 h2 (fun h => ?_) (fun h => ?_)
    · have hv := hv.1 h
      refine ig_iload_n hx hb 2 d_IR_many_55 rfl rfl ?_
      exact hret 56 _ (nI g) (mNc, mBc) d_IR_many_56 ⟨g, rfl, hv⟩
    · have hv := hv.2 h
      refine ig_aload_n hx hb 0 d_IR_many_19 rfl rfl ?_
      refine ig_get hx hb hts in_IR hown hK 0 rfl rfl 5 (by decide) (hts _ kw_0_94) (fun _ h => h) rfl d_IR_many_20 ?_
      refine ig_aload_n hx hb 0 d_IR_many_23 rfl rfl ?_
      refine ig_get hx hb hts in_IR hown hK 0 rfl rfl 2 (by decide) (hts _ kw_0_91) (fun _ h => h) rfl d_IR_many_24 ?_
      refine ig_iload_n hx hb 3 d_IR_many_27 rfl rfl ?_
      refine ig_aload_n hx hb 0 d_IR_many_28 rfl rfl ?_
      refine ig_get hx hb hts in_IR hown hK 0 rfl rfl 4 (by decide) (hts _ kw_0_93) (fun _ h => h) rfl d_IR_many_29 ?_
      refine ig_aload_n hx hb 0 d_IR_many_32 rfl rfl ?_
      refine ig_get hx hb hts in_IR hown hK 0 rfl rfl 4 (by decide) (hts _ kw_0_93) (fun _ h => h) rfl d_IR_many_33 ?_
      refine ig_getN hx hb hts in_PA hown hK 9 rfl rfl 2 (by decide) (va_Nw.use rfl (fk_10 hN)) (fun _ h => h) rfl d_IR_many_36 ?_
      refine ig_iload_n hx hb 1 d_IR_many_39 rfl rfl ?_
      obtain ⟨hc, hv⟩ := hv
      refine ig_cVNi (As := [.ref q0, .int (nI k), .ref p0, .int (nI pC), .int (bI d)]) (rest := []) (wr := [(x0, .inr (ciIR, [.ref qT, .int tl, .ref q0, .ref s0, .ref p0, .ref m0]))]) (ws' := fun u => [(x0, .inr (ciIR, [.ref qT, .int tl, .ref q0, .ref s0, .ref p0, .ref m0])), (m0, .inr (ciMA, [.ref mn, .ref mb])), (mn, .inl (cZ, 21, .inl (fun zj => bI (u.1 zj)))), (mb, .inl (cZ, 121, .inl (fun zj => bI (u.2 zj)))), (q0, .inr (ciRL, [.ref qt, .ref qs, .ref qe, .ref qb, .ref ql, .int (nI nC)])), (qt, .inl (cC, 1000, .inl tT)), (qs, .inl (cI, 60, .inl (fun zj => nI (aS zj)))), (qe, .inl (cI, 60, .inl (fun zj => nI (aE zj)))), (qb, .inl (cI, 60, .inl (fun zj => nI (aB zj)))), (p0, .inr (ciPA, [.ref pb, .ref ps, .int (nI pC)])), (pb, .inl (cC, 120, .inl pB)), (ps, .inl (cI, 21, .inl (fun zj => nI (pS zj))))]) hx hb hml hown hts hK hN hA (fun sz => c_MA_ruleFits l dC dI cC cI cZ cL m0 mn mb q0 qt qs qe qb ql p0 pb ps (nI nC) (nI pC) mNc mBc tT aS aE aB pB pS k pC d sz hc) ⟨va_cnB 5 hts g_MA_ruleFits rfl rfl rfl (nk_7 hN) (hts _ kw_0_4) (by decide +kernel) (by decide), (hts _ kw_1_54), (hts _ ks_MA_ruleFits)⟩ rfl rfl (Nat.le_of_ble_eq_true rfl) d_IR_many_40 (by decide) 0 rfl rfl [1, 2, 3, 4, 5, 6, 7, 8, 9, 10, 11] [0] [0, 1, 2, 3, 4, 5, 6, 7, 8, 9, 10, 11] rfl rfl (by decide) (by decide) (by decide) (fun _ => rfl) (fun _ => rfl) (fun r u hr => ?_)
      obtain ⟨mN1, mB2⟩ := u
      obtain ⟨rr, rfl, hr⟩ := hr
      unfold p_MA_ruleFits at hr
      subst hr
      have hv := hv mN1 mB2
      refine ig_if_eqB (tgt := 49) hx hb (sp_rf tT (aS k) (aE k) (aB k) pB pS pC d) rfl d_IR_many_43 (by decide) (fun h => ?_) (fun h => ?_)
      · have hv := hv.1 h
        refine ig_iinc (v := (nI (k + 1))) (lv' := [(3, .int (nI (k + 1))), (0, .ref x0), (1, .int (bI d)), (2, .int (nI g))]) hx hb 3 d_IR_many_49 rfl (ig_inc k 1 (by decide)) (by decide) rfl ?_
        refine ig_goto (tgt := 8) hx hb d_IR_many_52 (by decide) ?_
        refine ig_lv (lv' := [(0, .ref x0), (1, .int (bI d)), (2, .int (nI g)), (3, .int (nI (k + 1)))]) [1, 2, 3, 0] rfl ?_
        rw [hK8] at hv
        exact hv
      · have hv := hv.2 h
        refine ig_iinc (v := (nI (g + 1))) (lv' := [(2, .int (nI (g + 1))), (0, .ref x0), (1, .int (bI d)), (3, .int (nI k))]) hx hb 2 d_IR_many_46 rfl (ig_inc g 1 (by decide)) (by decide) rfl ?_
        refine ig_iinc (v := (nI (k + 1))) (lv' := [(3, .int (nI (k + 1))), (2, .int (nI (g + 1))), (0, .ref x0), (1, .int (bI d))]) hx hb 3 d_IR_many_49 rfl (ig_inc k 1 (by decide)) (by decide) rfl ?_
        refine ig_goto (tgt := 8) hx hb d_IR_many_52 (by decide) ?_
        refine ig_lv (lv' := [(0, .ref x0), (1, .int (bI d)), (2, .int (nI (g + 1))), (3, .int (nI (k + 1)))]) [2, 3, 1, 0] rfl ?_
        rw [hK8] at hv
        exact hv
  have hv := t_IR_many mN mB tT aS aE aB pB pS nC pC d hr K8 k8
  unfold v_IR_many at hv
  refine ig_aload_n hx hb 0 d_IR_many_0 rfl rfl ?_
  obtain ⟨hc, hv⟩ := hv
  refine ig_cVv (As := []) (rest := []) (wr := [(m0, .inr (ciMA, [.ref mn, .ref mb])), (mn, .inl (cZ, 21, .inl (fun zj => bI (mN zj)))), (mb, .inl (cZ, 121, .inl (fun zj => bI (mB zj)))), (q0, .inr (ciRL, [.ref qt, .ref qs, .ref qe, .ref qb, .ref ql, .int (nI nC)])), (qt, .inl (cC, 1000, .inl tT)), (qs, .inl (cI, 60, .inl (fun zj => nI (aS zj)))), (qe, .inl (cI, 60, .inl (fun zj => nI (aE zj)))), (qb, .inl (cI, 60, .inl (fun zj => nI (aB zj)))), (pb, .inl (cC, 120, .inl pB)), (ps, .inl (cI, 21, .inl (fun zj => nI (pS zj))))]) (ws' := fun u => [(x0, .inr (ciIR, [.ref qT, .int tl, .ref q0, .ref s0, .ref p0, .ref m0])), (m0, .inr (ciMA, [.ref mn, .ref mb])), (mn, .inl (cZ, 21, .inl (fun zj => bI (mN zj)))), (mb, .inl (cZ, 121, .inl (fun zj => bI (mB zj)))), (q0, .inr (ciRL, [.ref qt, .ref qs, .ref qe, .ref qb, .ref ql, .int (nI nC)])), (qt, .inl (cC, 1000, .inl tT)), (qs, .inl (cI, 60, .inl (fun zj => nI (aS zj)))), (qe, .inl (cI, 60, .inl (fun zj => nI (aE zj)))), (qb, .inl (cI, 60, .inl (fun zj => nI (aB zj)))), (p0, .inr (ciPA, [.ref pb, .ref ps, .int (nI pC)])), (pb, .inl (cC, 120, .inl pB)), (ps, .inl (cI, 21, .inl (fun zj => nI (pS zj))))]) hx hb hml hown hts hK hN hA (fun sz => c_IR_requirePath l dC dI cC cI cZ cL x0 qT q0 s0 p0 m0 pb ps tl pC sz hc) ⟨callB_of 0 hts g_IR_requirePath rfl rfl rfl (hts _ kw_0_1) (hts _ kw_1_32) (by decide +kernel) (by decide), (hts _ kw_1_34), (hts _ ks_IR_requirePath)⟩ rfl rfl (Nat.le_of_ble_eq_true rfl) d_IR_many_1 (by decide) 0 rfl rfl [0, 9] [1, 2, 3, 4, 5, 6, 7, 8, 10, 11] [10, 0, 1, 2, 3, 4, 5, 6, 7, 11, 8, 9] rfl rfl (by decide) (by decide) (by decide) (fun _ => rfl) (fun _ => rfl) (fun u hr => ?_)
  unfold p_IR_requirePath at hr
  refine ig_iconst (v := 0) hx hb d_IR_many_4 (by decide) ?_
  refine ig_istore_n (lv' := [(2, .int 0), (0, .ref x0), (1, .int (bI d))]) hx hb d_IR_many_5 rfl (by decide) rfl ?_
  refine ig_iconst (v := 0) hx hb d_IR_many_6 (by decide) ?_
  refine ig_istore_n (lv' := [(3, .int 0), (2, .int 0), (0, .ref x0), (1, .int (bI d))]) hx hb d_IR_many_7 rfl (by decide) rfl ?_
  refine ig_lv (lv' := [(0, .ref x0), (1, .int (bI d)), (2, .int 0), (3, .int 0)]) [2, 3, 1, 0] rfl ?_
  rw [hK8] at hv
  exact hv
theorem d_IR_fits_0 : decode b_IR_fits 0 = .ok (.aload_n 0, 1) := by decide +kernel
theorem d_IR_fits_1 : decode b_IR_fits 1 = .ok (.iload_n 1, 1) := by decide +kernel
theorem d_IR_fits_2 : decode b_IR_fits 2 = .ok (.invokevirtual 57, 3) := by decide +kernel
theorem d_IR_fits_5 : decode b_IR_fits 5 = .ok (.aload_n 0, 1) := by decide +kernel
theorem d_IR_fits_6 : decode b_IR_fits 6 = .ok (.invokevirtual 76, 3) := by decide +kernel
theorem d_IR_fits_9 : decode b_IR_fits 9 = .ok (.aload_n 0, 1) := by decide +kernel
theorem d_IR_fits_10 : decode b_IR_fits 10 = .ok (.getfield 33, 3) := by decide +kernel
theorem d_IR_fits_13 : decode b_IR_fits 13 = .ok (.aload_n 0, 1) := by decide +kernel
theorem d_IR_fits_14 : decode b_IR_fits 14 = .ok (.getfield 16, 3) := by decide +kernel
theorem d_IR_fits_17 : decode b_IR_fits 17 = .ok (.iload_n 1, 1) := by decide +kernel
theorem d_IR_fits_18 : decode b_IR_fits 18 = .ok (.aload_n 0, 1) := by decide +kernel
theorem d_IR_fits_19 : decode b_IR_fits 19 = .ok (.getfield 26, 3) := by decide +kernel
theorem d_IR_fits_22 : decode b_IR_fits 22 = .ok (.aload_n 0, 1) := by decide +kernel
theorem d_IR_fits_23 : decode b_IR_fits 23 = .ok (.getfield 26, 3) := by decide +kernel
theorem d_IR_fits_26 : decode b_IR_fits 26 = .ok (.getfield 75, 3) := by decide +kernel
theorem d_IR_fits_29 : decode b_IR_fits 29 = .ok (.iload_n 2, 1) := by decide +kernel
theorem d_IR_fits_30 : decode b_IR_fits 30 = .ok (.invokevirtual 79, 3) := by decide +kernel
theorem d_IR_fits_33 : decode b_IR_fits 33 = .ok (.ireturn, 1) := by decide +kernel
abbrev w_IR_fits : List Cond := Cond.code y_IR_fits b_IR_fits 3 (some .boolean) :: ig_T
theorem g_IR_fits : GoodIn ig_T w_IR_fits := ig_T_good (ig_T_mem (List.mem_append_right _ (List.mem_append_left _ (List.mem_of_getElem? (i := 31) rfl))) rfl)
set_option maxHeartbeats 4000000 in
set_option maxRecDepth 100000 in
theorem c_IR_fits (l : Launch) (dC : Nat → ClassId) (dI : Nat → Nat → Nat) (cC cI cZ cL : ClassId) (x0 qT q0 s0 p0 m0 mn mb qt qs qe qb ql pb ps : Nat) (tl : Int32) (mN : Nat → Bool) (mB : Nat → Bool) (tT : Nat → Int32) (aS : Nat → Nat) (aE : Nat → Nat) (aB : Nat → Nat) (pB : Nat → Int32) (pS : Nat → Nat) (nC : Nat) (pC : Nat) (x : Int32) (d : Bool) (sz : Nat) (hr : r_IR_fits mN mB tT aS aE aB pB pS nC pC x d) : Met l y_IR_fits w_IR_fits ({ frames := 4, cells := 0, slots := 0, locals := 118 }) (ig_Pc (dC, dI) ig_cl0 [(cC, .char), (cI, .int), (cZ, .boolean), (cL, .long)] [.ref x0, .int x, .int (bI d)] [(x0, .inr (ciIR, [.ref qT, .int tl, .ref q0, .ref s0, .ref p0, .ref m0])), (m0, .inr (ciMA, [.ref mn, .ref mb])), (mn, .inl (cZ, 21, .inl (fun zj => bI (mN zj)))), (mb, .inl (cZ, 121, .inl (fun zj => bI (mB zj)))), (q0, .inr (ciRL, [.ref qt, .ref qs, .ref qe, .ref qb, .ref ql, .int (nI nC)])), (qt, .inl (cC, 1000, .inl tT)), (qs, .inl (cI, 60, .inl (fun zj => nI (aS zj)))), (qe, .inl (cI, 60, .inl (fun zj => nI (aE zj)))), (qb, .inl (cI, 60, .inl (fun zj => nI (aB zj)))), (p0, .inr (ciPA, [.ref pb, .ref ps, .int (nI pC)])), (pb, .inl (cC, 120, .inl pB)), (ps, .inl (cI, 21, .inl (fun zj => nI (pS zj))))] sz) (va_Qi (fun (r : Int32) (u : (Nat → Bool) × (Nat → Bool)) => ∃ zr : Bool, r = bI zr ∧ p_IR_fits mN mB tT aS aE aB pB pS nC pC x d zr u.1 u.2) (fun u t => va_P (dC, dI) ig_cl0 ((fun (u : (Nat → Bool) × (Nat → Bool)) => [(x0, .inr (ciIR, [.ref qT, .int tl, .ref q0, .ref s0, .ref p0, .ref m0])), (m0, .inr (ciMA, [.ref mn, .ref mb])), (mn, .inl (cZ, 21, .inl (fun zj => bI (u.1 zj)))), (mb, .inl (cZ, 121, .inl (fun zj => bI (u.2 zj)))), (q0, .inr (ciRL, [.ref qt, .ref qs, .ref qe, .ref qb, .ref ql, .int (nI nC)])), (qt, .inl (cC, 1000, .inl tT)), (qs, .inl (cI, 60, .inl (fun zj => nI (aS zj)))), (qe, .inl (cI, 60, .inl (fun zj => nI (aE zj)))), (qb, .inl (cI, 60, .inl (fun zj => nI (aB zj)))), (p0, .inr (ciPA, [.ref pb, .ref ps, .int (nI pC)])), (pb, .inl (cC, 120, .inl pB)), (ps, .inl (cI, 21, .inl (fun zj => nI (pS zj))))]) u) t.heap ∧ va_D (va_A [(x0, .inr (ciIR, [.ref qT, .int tl, .ref q0, .ref s0, .ref p0, .ref m0])), (m0, .inr (ciMA, [.ref mn, .ref mb])), (mn, .inl (cZ, 21, .inl (fun zj => bI (mN zj)))), (mb, .inl (cZ, 121, .inl (fun zj => bI (mB zj)))), (q0, .inr (ciRL, [.ref qt, .ref qs, .ref qe, .ref qb, .ref ql, .int (nI nC)])), (qt, .inl (cC, 1000, .inl tT)), (qs, .inl (cI, 60, .inl (fun zj => nI (aS zj)))), (qe, .inl (cI, 60, .inl (fun zj => nI (aE zj)))), (qb, .inl (cI, 60, .inl (fun zj => nI (aB zj)))), (p0, .inr (ciPA, [.ref pb, .ref ps, .int (nI pC)])), (pb, .inl (cC, 120, .inl pB)), (ps, .inl (cI, 21, .inl (fun zj => nI (pS zj))))] sz) ((fun (u : (Nat → Bool) × (Nat → Bool)) => [(x0, .inr (ciIR, [.ref qT, .int tl, .ref q0, .ref s0, .ref p0, .ref m0])), (m0, .inr (ciMA, [.ref mn, .ref mb])), (mn, .inl (cZ, 21, .inl (fun zj => bI (u.1 zj)))), (mb, .inl (cZ, 121, .inl (fun zj => bI (u.2 zj)))), (q0, .inr (ciRL, [.ref qt, .ref qs, .ref qe, .ref qb, .ref ql, .int (nI nC)])), (qt, .inl (cC, 1000, .inl tT)), (qs, .inl (cI, 60, .inl (fun zj => nI (aS zj)))), (qe, .inl (cI, 60, .inl (fun zj => nI (aE zj)))), (qb, .inl (cI, 60, .inl (fun zj => nI (aB zj)))), (p0, .inr (ciPA, [.ref pb, .ref ps, .int (nI pC)])), (pb, .inl (cC, 120, .inl pB)), (ps, .inl (cI, 21, .inl (fun zj => nI (pS zj))))]) u)) (va_A [(x0, .inr (ciIR, [.ref qT, .int tl, .ref q0, .ref s0, .ref p0, .ref m0])), (m0, .inr (ciMA, [.ref mn, .ref mb])), (mn, .inl (cZ, 21, .inl (fun zj => bI (mN zj)))), (mb, .inl (cZ, 121, .inl (fun zj => bI (mB zj)))), (q0, .inr (ciRL, [.ref qt, .ref qs, .ref qe, .ref qb, .ref ql, .int (nI nC)])), (qt, .inl (cC, 1000, .inl tT)), (qs, .inl (cI, 60, .inl (fun zj => nI (aS zj)))), (qe, .inl (cI, 60, .inl (fun zj => nI (aE zj)))), (qb, .inl (cI, 60, .inl (fun zj => nI (aB zj)))), (p0, .inr (ciPA, [.ref pb, .ref ps, .int (nI pC)])), (pb, .inl (cC, 120, .inl pB)), (ps, .inl (cI, 21, .inl (fun zj => nI (pS zj))))] sz)) 0 0 (va_A [(x0, .inr (ciIR, [.ref qT, .int tl, .ref q0, .ref s0, .ref p0, .ref m0])), (m0, .inr (ciMA, [.ref mn, .ref mb])), (mn, .inl (cZ, 21, .inl (fun zj => bI (mN zj)))), (mb, .inl (cZ, 121, .inl (fun zj => bI (mB zj)))), (q0, .inr (ciRL, [.ref qt, .ref qs, .ref qe, .ref qb, .ref ql, .int (nI nC)])), (qt, .inl (cC, 1000, .inl tT)), (qs, .inl (cI, 60, .inl (fun zj => nI (aS zj)))), (qe, .inl (cI, 60, .inl (fun zj => nI (aE zj)))), (qb, .inl (cI, 60, .inl (fun zj => nI (aB zj)))), (p0, .inr (ciPA, [.ref pb, .ref ps, .int (nI pC)])), (pb, .inl (cC, 120, .inl pB)), (ps, .inl (cI, 21, .inl (fun zj => nI (pS zj))))] sz) := by
  refine ig_metI (fun (r : Int32) (u : (Nat → Bool) × (Nat → Bool)) => ∃ zr : Bool, r = bI zr ∧ p_IR_fits mN mB tT aS aE aB pB pS nC pC x d zr u.1 u.2) (fun (u : (Nat → Bool) × (Nat → Bool)) => [(x0, .inr (ciIR, [.ref qT, .int tl, .ref q0, .ref s0, .ref p0, .ref m0])), (m0, .inr (ciMA, [.ref mn, .ref mb])), (mn, .inl (cZ, 21, .inl (fun zj => bI (u.1 zj)))), (mb, .inl (cZ, 121, .inl (fun zj => bI (u.2 zj)))), (q0, .inr (ciRL, [.ref qt, .ref qs, .ref qe, .ref qb, .ref ql, .int (nI nC)])), (qt, .inl (cC, 1000, .inl tT)), (qs, .inl (cI, 60, .inl (fun zj => nI (aS zj)))), (qe, .inl (cI, 60, .inl (fun zj => nI (aE zj)))), (qb, .inl (cI, 60, .inl (fun zj => nI (aB zj)))), (p0, .inr (ciPA, [.ref pb, .ref ps, .int (nI pC)])), (pb, .inl (cC, 120, .inl pB)), (ps, .inl (cI, 21, .inl (fun zj => nI (pS zj))))]) (by decide) rfl (Nat.le_of_ble_eq_true rfl) rfl (by rintro r u ⟨b, rfl, -⟩; exact bI_ret b) ?_
  intro zp ze zs zm zargs zbelow zmeth zc zA zQ hx hb hml hown hts hK hN hA hret
  have hv := t_IR_fits mN mB tT aS aE aB pB pS nC pC x d hr 
  unfold v_IR_fits at hv
  refine ig_aload_n hx hb 0 d_IR_fits_0 rfl rfl ?_
  refine ig_iload_n hx hb 1 d_IR_fits_1 rfl rfl ?_
  obtain ⟨hc, hv⟩ := hv
  refine ig_cVv (As := [.int x]) (rest := []) (wr := [(m0, .inr (ciMA, [.ref mn, .ref mb])), (mn, .inl (cZ, 21, .inl (fun zj => bI (mN zj)))), (mb, .inl (cZ, 121, .inl (fun zj => bI (mB zj)))), (qt, .inl (cC, 1000, .inl tT)), (qs, .inl (cI, 60, .inl (fun zj => nI (aS zj)))), (qe, .inl (cI, 60, .inl (fun zj => nI (aE zj)))), (qb, .inl (cI, 60, .inl (fun zj => nI (aB zj)))), (p0, .inr (ciPA, [.ref pb, .ref ps, .int (nI pC)])), (pb, .inl (cC, 120, .inl pB)), (ps, .inl (cI, 21, .inl (fun zj => nI (pS zj))))]) (ws' := fun u => [(x0, .inr (ciIR, [.ref qT, .int tl, .ref q0, .ref s0, .ref p0, .ref m0])), (m0, .inr (ciMA, [.ref mn, .ref mb])), (mn, .inl (cZ, 21, .inl (fun zj => bI (mN zj)))), (mb, .inl (cZ, 121, .inl (fun zj => bI (mB zj)))), (q0, .inr (ciRL, [.ref qt, .ref qs, .ref qe, .ref qb, .ref ql, .int (nI nC)])), (qt, .inl (cC, 1000, .inl tT)), (qs, .inl (cI, 60, .inl (fun zj => nI (aS zj)))), (qe, .inl (cI, 60, .inl (fun zj => nI (aE zj)))), (qb, .inl (cI, 60, .inl (fun zj => nI (aB zj)))), (p0, .inr (ciPA, [.ref pb, .ref ps, .int (nI pC)])), (pb, .inl (cC, 120, .inl pB)), (ps, .inl (cI, 21, .inl (fun zj => nI (pS zj))))]) hx hb hml hown hts hK hN hA (fun sz => c_IR_requireRule l dC dI cC cI cZ cL x0 qT q0 s0 p0 m0 qt qs qe qb ql tl nC x sz hc) ⟨callB_of 1 hts g_IR_requireRule rfl rfl rfl (hts _ kw_0_1) (hts _ kw_0_239) (by decide +kernel) (by decide), (hts _ kw_1_1), (hts _ ks_IR_requireRule)⟩ rfl rfl (Nat.le_of_ble_eq_true rfl) d_IR_fits_2 (by decide) 0 rfl rfl [0, 4] [1, 2, 3, 5, 6, 7, 8, 9, 10, 11] [10, 0, 1, 2, 11, 3, 4, 5, 6, 7, 8, 9] rfl rfl (by decide) (by decide) (by decide) (fun _ => rfl) (fun _ => rfl) (fun u hr => ?_)
  unfold p_IR_requireRule at hr
  refine ig_aload_n hx hb 0 d_IR_fits_5 rfl rfl ?_
  obtain ⟨hc, hv⟩ := hv
  refine ig_cVv (As := []) (rest := []) (wr := [(m0, .inr (ciMA, [.ref mn, .ref mb])), (mn, .inl (cZ, 21, .inl (fun zj => bI (mN zj)))), (mb, .inl (cZ, 121, .inl (fun zj => bI (mB zj)))), (q0, .inr (ciRL, [.ref qt, .ref qs, .ref qe, .ref qb, .ref ql, .int (nI nC)])), (qt, .inl (cC, 1000, .inl tT)), (qs, .inl (cI, 60, .inl (fun zj => nI (aS zj)))), (qe, .inl (cI, 60, .inl (fun zj => nI (aE zj)))), (qb, .inl (cI, 60, .inl (fun zj => nI (aB zj)))), (pb, .inl (cC, 120, .inl pB)), (ps, .inl (cI, 21, .inl (fun zj => nI (pS zj))))]) (ws' := fun u => [(x0, .inr (ciIR, [.ref qT, .int tl, .ref q0, .ref s0, .ref p0, .ref m0])), (m0, .inr (ciMA, [.ref mn, .ref mb])), (mn, .inl (cZ, 21, .inl (fun zj => bI (mN zj)))), (mb, .inl (cZ, 121, .inl (fun zj => bI (mB zj)))), (q0, .inr (ciRL, [.ref qt, .ref qs, .ref qe, .ref qb, .ref ql, .int (nI nC)])), (qt, .inl (cC, 1000, .inl tT)), (qs, .inl (cI, 60, .inl (fun zj => nI (aS zj)))), (qe, .inl (cI, 60, .inl (fun zj => nI (aE zj)))), (qb, .inl (cI, 60, .inl (fun zj => nI (aB zj)))), (p0, .inr (ciPA, [.ref pb, .ref ps, .int (nI pC)])), (pb, .inl (cC, 120, .inl pB)), (ps, .inl (cI, 21, .inl (fun zj => nI (pS zj))))]) hx hb hml hown hts hK hN hA (fun sz => c_IR_requirePath l dC dI cC cI cZ cL x0 qT q0 s0 p0 m0 pb ps tl pC sz hc) ⟨callB_of 0 hts g_IR_requirePath rfl rfl rfl (hts _ kw_0_1) (hts _ kw_1_32) (by decide +kernel) (by decide), (hts _ kw_1_34), (hts _ ks_IR_requirePath)⟩ rfl rfl (Nat.le_of_ble_eq_true rfl) d_IR_fits_6 (by decide) 0 rfl rfl [0, 9] [1, 2, 3, 4, 5, 6, 7, 8, 10, 11] [10, 0, 1, 2, 3, 4, 5, 6, 7, 11, 8, 9] rfl rfl (by decide) (by decide) (by decide) (fun _ => rfl) (fun _ => rfl) (fun u hr => ?_)
  unfold p_IR_requirePath at hr
  refine ig_aload_n hx hb 0 d_IR_fits_9 rfl rfl ?_
  refine ig_get hx hb hts in_IR hown hK 0 rfl rfl 5 (by decide) (hts _ kw_0_94) (fun _ h => h) rfl d_IR_fits_10 ?_
  refine ig_aload_n hx hb 0 d_IR_fits_13 rfl rfl ?_
  refine ig_get hx hb hts in_IR hown hK 0 rfl rfl 2 (by decide) (hts _ kw_0_91) (fun _ h => h) rfl d_IR_fits_14 ?_
  refine ig_iload_n hx hb 1 d_IR_fits_17 rfl rfl ?_
  obtain ⟨i1, he, hv⟩ := hv
  rw [he]
  refine ig_aload_n hx hb 0 d_IR_fits_18 rfl rfl ?_
  refine ig_get hx hb hts in_IR hown hK 0 rfl rfl 4 (by decide) (hts _ kw_0_93) (fun _ h => h) rfl d_IR_fits_19 ?_
  refine ig_aload_n hx hb 0 d_IR_fits_22 rfl rfl ?_
  refine ig_get hx hb hts in_IR hown hK 0 rfl rfl 4 (by decide) (hts _ kw_0_93) (fun _ h => h) rfl d_IR_fits_23 ?_
  refine ig_getN hx hb hts in_PA hown hK 9 rfl rfl 2 (by decide) (va_Nw.use rfl (fk_10 hN)) (fun _ h => h) rfl d_IR_fits_26 ?_
  refine ig_iload_n hx hb 2 d_IR_fits_29 rfl rfl ?_
  obtain ⟨hc, hv⟩ := hv
  refine ig_cVNi (As := [.ref q0, .int (nI i1), .ref p0, .int (nI pC), .int (bI d)]) (rest := []) (wr := [(x0, .inr (ciIR, [.ref qT, .int tl, .ref q0, .ref s0, .ref p0, .ref m0]))]) (ws' := fun u => [(x0, .inr (ciIR, [.ref qT, .int tl, .ref q0, .ref s0, .ref p0, .ref m0])), (m0, .inr (ciMA, [.ref mn, .ref mb])), (mn, .inl (cZ, 21, .inl (fun zj => bI (u.1 zj)))), (mb, .inl (cZ, 121, .inl (fun zj => bI (u.2 zj)))), (q0, .inr (ciRL, [.ref qt, .ref qs, .ref qe, .ref qb, .ref ql, .int (nI nC)])), (qt, .inl (cC, 1000, .inl tT)), (qs, .inl (cI, 60, .inl (fun zj => nI (aS zj)))), (qe, .inl (cI, 60, .inl (fun zj => nI (aE zj)))), (qb, .inl (cI, 60, .inl (fun zj => nI (aB zj)))), (p0, .inr (ciPA, [.ref pb, .ref ps, .int (nI pC)])), (pb, .inl (cC, 120, .inl pB)), (ps, .inl (cI, 21, .inl (fun zj => nI (pS zj))))]) hx hb hml hown hts hK hN hA (fun sz => c_MA_ruleFits l dC dI cC cI cZ cL m0 mn mb q0 qt qs qe qb ql p0 pb ps (nI nC) (nI pC) mN mB tT aS aE aB pB pS i1 pC d sz hc) ⟨va_cnB 5 hts g_MA_ruleFits rfl rfl rfl (nk_7 hN) (hts _ kw_0_4) (by decide +kernel) (by decide), (hts _ kw_1_54), (hts _ ks_MA_ruleFits)⟩ rfl rfl (Nat.le_of_ble_eq_true rfl) d_IR_fits_30 (by decide) 0 rfl rfl [1, 2, 3, 4, 5, 6, 7, 8, 9, 10, 11] [0] [0, 1, 2, 3, 4, 5, 6, 7, 8, 9, 10, 11] rfl rfl (by decide) (by decide) (by decide) (fun _ => rfl) (fun _ => rfl) (fun r u hr => ?_)
  obtain ⟨mN2, mB3⟩ := u
  obtain ⟨rr, rfl, hr⟩ := hr
  unfold p_MA_ruleFits at hr
  subst hr
  have hv := hv mN2 mB3
  exact hret 33 _ (bI (sp_rf tT (aS i1) (aE i1) (aB i1) pB pS pC d)) (mN2, mB3) d_IR_fits_33 ⟨sp_rf tT (aS i1) (aE i1) (aB i1) pB pS pC d, rfl, hv⟩
