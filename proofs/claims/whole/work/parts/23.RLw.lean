theorem kw_0_30 : Cond.fieldLink "IgnoreRules$RuleList" 15 "IgnoreRules$RuleList" "starts" "[I" ∈ ig_T := ig_T_mem (List.mem_append_left _ (List.mem_of_getElem? (i := 30) rfl)) rfl
theorem kw_0_32 : Cond.fieldLink "IgnoreRules$RuleList" 19 "IgnoreRules$RuleList" "ends" "[I" ∈ ig_T := ig_T_mem (List.mem_append_left _ (List.mem_of_getElem? (i := 32) rfl)) rfl
theorem kw_0_132 : Cond.methodLink "IgnoreRules$RuleList" 44 y_RL_endOfName ∈ ig_T := ig_T_mem (List.mem_append_left _ (List.mem_of_getElem? (i := 132) rfl)) rfl
theorem kw_0_134 : Cond.instanceMethod y_RL_endOfName ∈ ig_T := ig_T_mem (List.mem_append_left _ (List.mem_of_getElem? (i := 134) rfl)) rfl
theorem kw_0_141 : Cond.static y_IT_areWhole ∈ ig_T := ig_T_mem (List.mem_append_left _ (List.mem_of_getElem? (i := 141) rfl)) rfl
theorem d_RL_hasVoidName_0 : decode b_RL_hasVoidName 0 = .ok (.iload_n 1, 1) := by decide +kernel
theorem d_RL_hasVoidName_1 : decode b_RL_hasVoidName 1 = .ok (.istore_n 3, 1) := by decide +kernel
theorem d_RL_hasVoidName_2 : decode b_RL_hasVoidName 2 = .ok (.iload_n 1, 1) := by decide +kernel
theorem d_RL_hasVoidName_3 : decode b_RL_hasVoidName 3 = .ok (.istore 4, 2) := by decide +kernel
theorem d_RL_hasVoidName_5 : decode b_RL_hasVoidName 5 = .ok (.iload 4, 2) := by decide +kernel
theorem d_RL_hasVoidName_7 : decode b_RL_hasVoidName 7 = .ok (.iload_n 2, 1) := by decide +kernel
theorem d_RL_hasVoidName_8 : decode b_RL_hasVoidName 8 = .ok (.if_icmp .gt 47, 3) := by decide +kernel
theorem d_RL_hasVoidName_11 : decode b_RL_hasVoidName 11 = .ok (.iload 4, 2) := by decide +kernel
theorem d_RL_hasVoidName_13 : decode b_RL_hasVoidName 13 = .ok (.iload_n 2, 1) := by decide +kernel
theorem d_RL_hasVoidName_14 : decode b_RL_hasVoidName 14 = .ok (.if_icmp .eq 15, 3) := by decide +kernel
theorem d_RL_hasVoidName_17 : decode b_RL_hasVoidName 17 = .ok (.aload_n 0, 1) := by decide +kernel
theorem d_RL_hasVoidName_18 : decode b_RL_hasVoidName 18 = .ok (.getfield 9, 3) := by decide +kernel
theorem d_RL_hasVoidName_21 : decode b_RL_hasVoidName 21 = .ok (.iload 4, 2) := by decide +kernel
theorem d_RL_hasVoidName_23 : decode b_RL_hasVoidName 23 = .ok (.caload, 1) := by decide +kernel
theorem d_RL_hasVoidName_24 : decode b_RL_hasVoidName 24 = .ok (.bipush 47, 2) := by decide +kernel
theorem d_RL_hasVoidName_26 : decode b_RL_hasVoidName 26 = .ok (.if_icmp .ne 23, 3) := by decide +kernel
theorem d_RL_hasVoidName_29 : decode b_RL_hasVoidName 29 = .ok (.aload_n 0, 1) := by decide +kernel
theorem d_RL_hasVoidName_30 : decode b_RL_hasVoidName 30 = .ok (.getfield 9, 3) := by decide +kernel
theorem d_RL_hasVoidName_33 : decode b_RL_hasVoidName 33 = .ok (.iload_n 3, 1) := by decide +kernel
theorem d_RL_hasVoidName_34 : decode b_RL_hasVoidName 34 = .ok (.iload 4, 2) := by decide +kernel
theorem d_RL_hasVoidName_36 : decode b_RL_hasVoidName 36 = .ok (.invokestatic 50, 3) := by decide +kernel
theorem d_RL_hasVoidName_39 : decode b_RL_hasVoidName 39 = .ok (.ifCond .ne 5, 3) := by decide +kernel
theorem d_RL_hasVoidName_42 : decode b_RL_hasVoidName 42 = .ok (.iconst 1, 1) := by decide +kernel
theorem d_RL_hasVoidName_43 : decode b_RL_hasVoidName 43 = .ok (.ireturn, 1) := by decide +kernel
theorem d_RL_hasVoidName_44 : decode b_RL_hasVoidName 44 = .ok (.iload 4, 2) := by decide +kernel
theorem d_RL_hasVoidName_46 : decode b_RL_hasVoidName 46 = .ok (.iconst 1, 1) := by decide +kernel
theorem d_RL_hasVoidName_47 : decode b_RL_hasVoidName 47 = .ok (.iadd, 1) := by decide +kernel
theorem d_RL_hasVoidName_48 : decode b_RL_hasVoidName 48 = .ok (.istore_n 3, 1) := by decide +kernel
theorem d_RL_hasVoidName_49 : decode b_RL_hasVoidName 49 = .ok (.iinc 4 1, 3) := by decide +kernel
theorem d_RL_hasVoidName_52 : decode b_RL_hasVoidName 52 = .ok (.goto (-47), 3) := by decide +kernel
theorem d_RL_hasVoidName_55 : decode b_RL_hasVoidName 55 = .ok (.iconst 0, 1) := by decide +kernel
theorem d_RL_hasVoidName_56 : decode b_RL_hasVoidName 56 = .ok (.ireturn, 1) := by decide +kernel
abbrev w_RL_hasVoidName : List Cond := Cond.code y_RL_hasVoidName b_RL_hasVoidName 5 (some .boolean) :: ig_T
theorem g_RL_hasVoidName : GoodIn ig_T w_RL_hasVoidName := ig_T_good (ig_T_mem (List.mem_append_left _ (List.mem_of_getElem? (i := 139) rfl)) rfl)
set_option maxHeartbeats 4000000 in
set_option maxRecDepth 100000 in
theorem c_RL_hasVoidName (l : Launch) (dC : Nat → ClassId) (dI : Nat → Nat → Nat) (cC cI cZ cL : ClassId) (q0 qt qs qe qb ql : Nat) (nC : Int32) (tT : Nat → Int32) (f : Nat) (a : Nat) (sz : Nat) (hr : r_RL_hasVoidName tT f a) : Met l y_RL_hasVoidName w_RL_hasVoidName ({ frames := 2, cells := 0, slots := 0, locals := 49 }) (ig_Pc (dC, dI) ig_cl0 [(cC, .char), (cI, .int), (cZ, .boolean), (cL, .long)] [.ref q0, .int (nI f), .int (nI a)] [(q0, .inr (ciRL, [.ref qt, .ref qs, .ref qe, .ref qb, .ref ql, .int nC])), (qt, .inl (cC, 1000, .inl tT))] sz) (va_Qi (fun (r : Int32) (u : Unit) => ∃ zr : Bool, r = bI zr ∧ p_RL_hasVoidName tT f a zr ) (fun u t => va_P (dC, dI) ig_cl0 ((fun (u : Unit) => [(q0, .inr (ciRL, [.ref qt, .ref qs, .ref qe, .ref qb, .ref ql, .int nC])), (qt, .inl (cC, 1000, .inl tT))]) u) t.heap ∧ va_D (va_A [(q0, .inr (ciRL, [.ref qt, .ref qs, .ref qe, .ref qb, .ref ql, .int nC])), (qt, .inl (cC, 1000, .inl tT))] sz) ((fun (u : Unit) => [(q0, .inr (ciRL, [.ref qt, .ref qs, .ref qe, .ref qb, .ref ql, .int nC])), (qt, .inl (cC, 1000, .inl tT))]) u)) (va_A [(q0, .inr (ciRL, [.ref qt, .ref qs, .ref qe, .ref qb, .ref ql, .int nC])), (qt, .inl (cC, 1000, .inl tT))] sz)) 0 0 (va_A [(q0, .inr (ciRL, [.ref qt, .ref qs, .ref qe, .ref qb, .ref ql, .int nC])), (qt, .inl (cC, 1000, .inl tT))] sz) := by
  refine ig_metI (fun (r : Int32) (u : Unit) => ∃ zr : Bool, r = bI zr ∧ p_RL_hasVoidName tT f a zr ) (fun (u : Unit) => [(q0, .inr (ciRL, [.ref qt, .ref qs, .ref qe, .ref qb, .ref ql, .int nC])), (qt, .inl (cC, 1000, .inl tT))]) (by decide) rfl (Nat.le_of_ble_eq_true rfl) rfl (by rintro r u ⟨b, rfl, -⟩; exact bI_ret b) ?_
  intro zp ze zs zm zargs zbelow zmeth zc zA zQ hx hb hml hown hts hK hN hA hret
  obtain ⟨K5, hK5⟩ : ∃ K : Nat → Nat → Prop, K = fun (g : Nat) (b : Nat) => ig_W zp l ze ({ frames := 2, cells := 0, slots := 0, locals := 49 }) zs zm zargs zbelow zmeth zc (dC, dI) ig_cl0 zA zs.heap 5 0 0 zQ 5 [(0, .ref q0), (2, .int (nI a)), (3, .int (nI g)), (4, .int (nI b))] [] [(q0, .inr (ciRL, [.ref qt, .ref qs, .ref qe, .ref qb, .ref ql, .int nC])), (qt, .inl (cC, 1000, .inl tT))] := ⟨_, rfl⟩
  have j29 : ∀ (g : Nat) (b : Nat), v_RL_hasVoidName_29 tT f a K5 (p_RL_hasVoidName tT f a) g b → ig_W zp l ze ({ frames := 2, cells := 0, slots := 0, locals := 49 }) zs zm zargs zbelow zmeth zc (dC, dI) ig_cl0 zA zs.heap 5 0 0 zQ 29 [(0, .ref q0), (2, .int (nI a)), (3, .int (nI g)), (4, .int (nI b))] [] [(q0, .inr (ciRL, [.ref qt, .ref qs, .ref qe, .ref qb, .ref ql, .int nC])), (qt, .inl (cC, 1000, .inl tT))] := by
    intro g b hv
    unfold v_RL_hasVoidName_29 at hv
    refine ig_aload_n hx hb 0 d_RL_hasVoidName_29 rfl rfl ?_
    refine ig_get hx hb hts in_RL hown hK 0 rfl rfl 0 (by decide) (hts _ kw_0_27) (fun _ h => h) rfl d_RL_hasVoidName_30 ?_
    refine ig_iload_n hx hb 2 d_RL_hasVoidName_33 rfl rfl ?_
    refine ig_iload hx hb 3 d_RL_hasVoidName_34 rfl ?_
    obtain ⟨hc, hv⟩ := hv
    refine ig_cSNi (As := [.ref qt, .int (nI g), .int (nI b)]) (rest := []) (wr := [(q0, .inr (ciRL, [.ref qt, .ref qs, .ref qe, .ref qb, .ref ql, .int nC]))]) (ws' := fun u => [(q0, .inr (ciRL, [.ref qt, .ref qs, .ref qe, .ref qb, .ref ql, .int nC])), (qt, .inl (cC, 1000, .inl tT))]) hx hb hml hown hts hK hN hA (fun sz => c_IT_areWhole l dC dI cC cI cZ cL qt tT g b sz hc) ⟨va_cnB 3 hts g_IT_areWhole rfl rfl rfl (nk_4 hN) (hts _ kw_0_10) (by decide +kernel) (by decide), hts _ kw_0_141, trivial⟩ rfl rfl (Nat.le_of_ble_eq_true rfl) d_RL_hasVoidName_36 (by decide) [1] [0] [0, 1] rfl rfl (by decide) (by decide) (by decide) (fun _ => rfl) (fun _ => rfl) (fun r u hr => ?_)
    obtain ⟨rr, rfl, hr⟩ := hr
    unfold p_IT_areWhole at hr
    subst hr
    refine ig_if_neB (tgt := 44) hx hb (decide (g < b) && !sp_void tT b g) rfl d_RL_hasVoidName_39 (by decide) (fun h => ?_) (fun h => ?_)
    · have hv := hv.1 h
      refine ig_iload hx hb 3 d_RL_hasVoidName_44 rfl ?_
      refine ig_iconst (v := 1) hx hb d_RL_hasVoidName_46 (by decide) ?_
      refine ig_iaddN hx hb b 1 rfl rfl d_RL_hasVoidName_47 ?_
      refine ig_istore_n (lv' := [(3, .int (nI (b + 1))), (0, .ref q0), (2, .int (nI a)), (4, .int (nI b))]) hx hb d_RL_hasVoidName_48 rfl (by decide) rfl ?_
      refine ig_iinc (v := (nI (b + 1))) (lv' := [(4, .int (nI (b + 1))), (3, .int (nI (b + 1))), (0, .ref q0), (2, .int (nI a))]) hx hb 3 d_RL_hasVoidName_49 rfl (ig_inc b 1 (by decide)) (by decide) rfl ?_
      refine ig_goto (tgt := 5) hx hb d_RL_hasVoidName_52 (by decide) ?_
      refine ig_lv (lv' := [(0, .ref q0), (2, .int (nI a)), (3, .int (nI (b + 1))), (4, .int (nI (b + 1)))]) [2, 3, 1, 0] rfl ?_
      rw [hK5] at hv
      exact hv
    · have hv := hv.2 h
      refine ig_iconst (v := 1) hx hb d_RL_hasVoidName_42 (by decide) ?_
      exact hret 43 _ 1 () d_RL_hasVoidName_43 ⟨true, rfl, hv⟩
  have k5 : ∀ (g : Nat) (b : Nat), v_RL_hasVoidName_5 tT f a K5 (p_RL_hasVoidName tT f a) g b → K5 g b := by
    intro g b hv
    unfold v_RL_hasVoidName_5 at hv
    rw [hK5]
    show ig_W zp l ze ({ frames := 2, cells := 0, slots := 0, locals := 49 }) zs zm zargs zbelow zmeth zc (dC, dI) ig_cl0 zA zs.heap 5 0 0 zQ 5 [(0, .ref q0), (2, .int (nI a)), (3, .int (nI g)), (4, .int (nI b))] [] [(q0, .inr (ciRL, [.ref qt, .ref qs, .ref qe, .ref qb, .ref ql, .int nC])), (qt, .inl (cC, 1000, .inl tT))]
    refine ig_iload hx hb 3 d_RL_hasVoidName_5 rfl ?_
    refine ig_iload_n hx hb 1 d_RL_hasVoidName_7 rfl rfl ?_
    obtain ⟨h1, hv⟩ := hv
    obtain ⟨h2, hv⟩ := hv
    refine ig_icmp_gtN (tgt := 55) hx hb b a rfl rfl d_RL_hasVoidName_8 (by decide) h1 h2 (fun h => ?_) (fun h => ?_)
    · have hv := hv.1 h
      refine ig_iconst (v := 0) hx hb d_RL_hasVoidName_55 (by decide) ?_
      exact hret 56 _ 0 () d_RL_hasVoidName_56 ⟨false, rfl, hv⟩
    · have hv := hv.2 h
      refine ig_iload hx hb 3 d_RL_hasVoidName_11 rfl ?_
      refine ig_iload_n hx hb 1 d_RL_hasVoidName_13 rfl rfl ?_
      obtain ⟨h1, hv⟩ := hv
      obtain ⟨h2, hv⟩ := hv
      refine ig_icmp_eqN (tgt := 29) hx hb b a rfl rfl d_RL_hasVoidName_14 (by decide) h1 h2 (fun h => ?_) (fun h => ?_)
      · have hv := hv.1 h
        refine ig_lv (lv' := [(0, .ref q0), (2, .int (nI a)), (3, .int (nI g)), (4, .int (nI b))]) [0, 1, 2, 3] rfl ?_
        exact j29 _ _ hv
      · have hv := hv.2 h
        refine ig_aload_n hx hb 0 d_RL_hasVoidName_17 rfl rfl ?_
        refine ig_get hx hb hts in_RL hown hK 0 rfl rfl 0 (by decide) (hts _ kw_0_27) (fun _ h => h) rfl d_RL_hasVoidName_18 ?_
        refine ig_iload hx hb 3 d_RL_hasVoidName_21 rfl ?_
        obtain ⟨hc, hv⟩ := hv
        refine ig_cald (x := (tT b)) hx hb hK 1 0 rfl rfl b rfl hc (by decide) rfl d_RL_hasVoidName_23 ?_
        refine ig_bipush (v := 47) hx hb d_RL_hasVoidName_24 (by decide) ?_
        refine ig_icmp_ne (tgt := 49) hx hb d_RL_hasVoidName_26 (by decide) (fun h => ?_) (fun h => ?_)
        · have hv := hv.1 h
          refine ig_iinc (v := (nI (b + 1))) (lv' := [(4, .int (nI (b + 1))), (0, .ref q0), (2, .int (nI a)), (3, .int (nI g))]) hx hb 3 d_RL_hasVoidName_49 rfl (ig_inc b 1 (by decide)) (by decide) rfl ?_
          refine ig_goto (tgt := 5) hx hb d_RL_hasVoidName_52 (by decide) ?_
          refine ig_lv (lv' := [(0, .ref q0), (2, .int (nI a)), (3, .int (nI g)), (4, .int (nI (b + 1)))]) [1, 2, 3, 0] rfl ?_
          rw [hK5] at hv
          exact hv
        · have hv := hv.2 h
          refine ig_lv (lv' := [(0, .ref q0), (2, .int (nI a)), (3, .int (nI g)), (4, .int (nI b))]) [0, 1, 2, 3] rfl ?_
          exact j29 _ _ hv
  have hv := t_RL_hasVoidName tT f a hr K5 k5
  unfold v_RL_hasVoidName at hv
  refine ig_iload_n hx hb 1 d_RL_hasVoidName_0 rfl rfl ?_
  refine ig_istore_n (lv' := [(3, .int (nI f)), (0, .ref q0), (1, .int (nI f)), (2, .int (nI a))]) hx hb d_RL_hasVoidName_1 rfl (by decide) rfl ?_
  refine ig_iload_n hx hb 2 d_RL_hasVoidName_2 rfl rfl ?_
  refine ig_istore (lv' := [(4, .int (nI f)), (3, .int (nI f)), (0, .ref q0), (1, .int (nI f)), (2, .int (nI a))]) hx hb d_RL_hasVoidName_3 (by decide) rfl ?_
  refine ig_lv (lv' := [(0, .ref q0), (2, .int (nI a)), (3, .int (nI f)), (4, .int (nI f))]) [2, 4, 1, 0] rfl ?_
  rw [hK5] at hv
  exact hv
theorem d_RL_countNames_0 : decode b_RL_countNames 0 = .ok (.iconst 1, 1) := by decide +kernel
theorem d_RL_countNames_1 : decode b_RL_countNames 1 = .ok (.istore_n 2, 1) := by decide +kernel
theorem d_RL_countNames_2 : decode b_RL_countNames 2 = .ok (.aload_n 0, 1) := by decide +kernel
theorem d_RL_countNames_3 : decode b_RL_countNames 3 = .ok (.getfield 15, 3) := by decide +kernel
theorem d_RL_countNames_6 : decode b_RL_countNames 6 = .ok (.iload_n 1, 1) := by decide +kernel
theorem d_RL_countNames_7 : decode b_RL_countNames 7 = .ok (.iaload, 1) := by decide +kernel
theorem d_RL_countNames_8 : decode b_RL_countNames 8 = .ok (.istore_n 3, 1) := by decide +kernel
theorem d_RL_countNames_9 : decode b_RL_countNames 9 = .ok (.iload_n 3, 1) := by decide +kernel
theorem d_RL_countNames_10 : decode b_RL_countNames 10 = .ok (.aload_n 0, 1) := by decide +kernel
theorem d_RL_countNames_11 : decode b_RL_countNames 11 = .ok (.getfield 19, 3) := by decide +kernel
theorem d_RL_countNames_14 : decode b_RL_countNames 14 = .ok (.iload_n 1, 1) := by decide +kernel
theorem d_RL_countNames_15 : decode b_RL_countNames 15 = .ok (.iaload, 1) := by decide +kernel
theorem d_RL_countNames_16 : decode b_RL_countNames 16 = .ok (.if_icmp .ge 23, 3) := by decide +kernel
theorem d_RL_countNames_19 : decode b_RL_countNames 19 = .ok (.aload_n 0, 1) := by decide +kernel
theorem d_RL_countNames_20 : decode b_RL_countNames 20 = .ok (.getfield 9, 3) := by decide +kernel
theorem d_RL_countNames_23 : decode b_RL_countNames 23 = .ok (.iload_n 3, 1) := by decide +kernel
theorem d_RL_countNames_24 : decode b_RL_countNames 24 = .ok (.caload, 1) := by decide +kernel
theorem d_RL_countNames_25 : decode b_RL_countNames 25 = .ok (.bipush 47, 2) := by decide +kernel
theorem d_RL_countNames_27 : decode b_RL_countNames 27 = .ok (.if_icmp .ne 6, 3) := by decide +kernel
theorem d_RL_countNames_30 : decode b_RL_countNames 30 = .ok (.iinc 2 1, 3) := by decide +kernel
theorem d_RL_countNames_33 : decode b_RL_countNames 33 = .ok (.iinc 3 1, 3) := by decide +kernel
theorem d_RL_countNames_36 : decode b_RL_countNames 36 = .ok (.goto (-27), 3) := by decide +kernel
theorem d_RL_countNames_39 : decode b_RL_countNames 39 = .ok (.iload_n 2, 1) := by decide +kernel
theorem d_RL_countNames_40 : decode b_RL_countNames 40 = .ok (.ireturn, 1) := by decide +kernel
abbrev w_RL_countNames : List Cond := Cond.code y_RL_countNames b_RL_countNames 4 (some .int) :: ig_T
theorem g_RL_countNames : GoodIn ig_T w_RL_countNames := ig_T_good (ig_T_mem (List.mem_append_right _ (List.mem_append_left _ (List.mem_of_getElem? (i := 22) rfl))) rfl)
set_option maxHeartbeats 4000000 in
set_option maxRecDepth 100000 in
theorem c_RL_countNames (l : Launch) (dC : Nat → ClassId) (dI : Nat → Nat → Nat) (cC cI cZ cL : ClassId) (q0 qt qs qe qb ql : Nat) (nC : Int32) (tT : Nat → Int32) (aS : Nat → Nat) (aE : Nat → Nat) (i : Nat) (sz : Nat) (hr : r_RL_countNames tT aS aE i) : Met l y_RL_countNames w_RL_countNames ({ frames := 0, cells := 0, slots := 0, locals := 0 }) (ig_Pc (dC, dI) ig_cl0 [(cC, .char), (cI, .int), (cZ, .boolean), (cL, .long)] [.ref q0, .int (nI i)] [(q0, .inr (ciRL, [.ref qt, .ref qs, .ref qe, .ref qb, .ref ql, .int nC])), (qt, .inl (cC, 1000, .inl tT)), (qs, .inl (cI, 60, .inl (fun zj => nI (aS zj)))), (qe, .inl (cI, 60, .inl (fun zj => nI (aE zj))))] sz) (va_Qi (fun (r : Int32) (u : Unit) => ∃ zr : Nat, r = nI zr ∧ p_RL_countNames tT aS aE i zr ) (fun u t => va_P (dC, dI) ig_cl0 ((fun (u : Unit) => [(q0, .inr (ciRL, [.ref qt, .ref qs, .ref qe, .ref qb, .ref ql, .int nC])), (qt, .inl (cC, 1000, .inl tT)), (qs, .inl (cI, 60, .inl (fun zj => nI (aS zj)))), (qe, .inl (cI, 60, .inl (fun zj => nI (aE zj))))]) u) t.heap ∧ va_D (va_A [(q0, .inr (ciRL, [.ref qt, .ref qs, .ref qe, .ref qb, .ref ql, .int nC])), (qt, .inl (cC, 1000, .inl tT)), (qs, .inl (cI, 60, .inl (fun zj => nI (aS zj)))), (qe, .inl (cI, 60, .inl (fun zj => nI (aE zj))))] sz) ((fun (u : Unit) => [(q0, .inr (ciRL, [.ref qt, .ref qs, .ref qe, .ref qb, .ref ql, .int nC])), (qt, .inl (cC, 1000, .inl tT)), (qs, .inl (cI, 60, .inl (fun zj => nI (aS zj)))), (qe, .inl (cI, 60, .inl (fun zj => nI (aE zj))))]) u)) (va_A [(q0, .inr (ciRL, [.ref qt, .ref qs, .ref qe, .ref qb, .ref ql, .int nC])), (qt, .inl (cC, 1000, .inl tT)), (qs, .inl (cI, 60, .inl (fun zj => nI (aS zj)))), (qe, .inl (cI, 60, .inl (fun zj => nI (aE zj))))] sz)) 0 0 (va_A [(q0, .inr (ciRL, [.ref qt, .ref qs, .ref qe, .ref qb, .ref ql, .int nC])), (qt, .inl (cC, 1000, .inl tT)), (qs, .inl (cI, 60, .inl (fun zj => nI (aS zj)))), (qe, .inl (cI, 60, .inl (fun zj => nI (aE zj))))] sz) := by
  refine ig_metI (fun (r : Int32) (u : Unit) => ∃ zr : Nat, r = nI zr ∧ p_RL_countNames tT aS aE i zr ) (fun (u : Unit) => [(q0, .inr (ciRL, [.ref qt, .ref qs, .ref qe, .ref qb, .ref ql, .int nC])), (qt, .inl (cC, 1000, .inl tT)), (qs, .inl (cI, 60, .inl (fun zj => nI (aS zj)))), (qe, .inl (cI, 60, .inl (fun zj => nI (aE zj))))]) (by decide) rfl (Nat.le_of_ble_eq_true rfl) rfl (fun _ _ _ => rfl) ?_
  intro zp ze zs zm zargs zbelow zmeth zc zA zQ hx hb hml hown hts hK hN hA hret
  obtain ⟨K9, hK9⟩ : ∃ K : Nat → Nat → Prop, K = fun (x : Nat) (b : Nat) => ig_W zp l ze ({ frames := 0, cells := 0, slots := 0, locals := 0 }) zs zm zargs zbelow zmeth zc (dC, dI) ig_cl0 zA zs.heap 4 0 0 zQ 9 [(0, .ref q0), (1, .int (nI i)), (2, .int (nI x)), (3, .int (nI b))] [] [(q0, .inr (ciRL, [.ref qt, .ref qs, .ref qe, .ref qb, .ref ql, .int nC])), (qt, .inl (cC, 1000, .inl tT)), (qs, .inl (cI, 60, .inl (fun zj => nI (aS zj)))), (qe, .inl (cI, 60, .inl (fun zj => nI (aE zj))))] := ⟨_, rfl⟩
  have k9 : ∀ (x : Nat) (b : Nat), v_RL_countNames_9 tT aS aE i K9 (p_RL_countNames tT aS aE i) x b → K9 x b := by
    intro x b hv
    unfold v_RL_countNames_9 at hv
    rw [hK9]
    show ig_W zp l ze ({ frames := 0, cells := 0, slots := 0, locals := 0 }) zs zm zargs zbelow zmeth zc (dC, dI) ig_cl0 zA zs.heap 4 0 0 zQ 9 [(0, .ref q0), (1, .int (nI i)), (2, .int (nI x)), (3, .int (nI b))] [] [(q0, .inr (ciRL, [.ref qt, .ref qs, .ref qe, .ref qb, .ref ql, .int nC])), (qt, .inl (cC, 1000, .inl tT)), (qs, .inl (cI, 60, .inl (fun zj => nI (aS zj)))), (qe, .inl (cI, 60, .inl (fun zj => nI (aE zj))))]
    refine ig_iload_n hx hb 3 d_RL_countNames_9 rfl rfl ?_
    refine ig_aload_n hx hb 0 d_RL_countNames_10 rfl rfl ?_
    refine ig_get hx hb hts in_RL hown hK 0 rfl rfl 2 (by decide) (hts _ kw_0_32) (fun _ h => h) rfl d_RL_countNames_11 ?_
    refine ig_iload_n hx hb 1 d_RL_countNames_14 rfl rfl ?_
    obtain ⟨hc, hv⟩ := hv
    refine ig_iald (x := (nI (aE i))) hx hb hK 3 1 rfl rfl i rfl hc (by decide) rfl d_RL_countNames_15 ?_
    obtain ⟨h1, hv⟩ := hv
    obtain ⟨h2, hv⟩ := hv
    refine ig_icmp_geN (tgt := 39) hx hb b (aE i) rfl rfl d_RL_countNames_16 (by decide) h1 h2 (fun h => ?_) (fun h => ?_)
    · have hv := hv.1 h
      refine ig_iload_n hx hb 2 d_RL_countNames_39 rfl rfl ?_
      exact hret 40 _ (nI x) () d_RL_countNames_40 ⟨x, rfl, hv⟩
    · have hv := hv.2 h
      refine ig_aload_n hx hb 0 d_RL_countNames_19 rfl rfl ?_
      refine ig_get hx hb hts in_RL hown hK 0 rfl rfl 0 (by decide) (hts _ kw_0_27) (fun _ h => h) rfl d_RL_countNames_20 ?_
      refine ig_iload_n hx hb 3 d_RL_countNames_23 rfl rfl ?_
      obtain ⟨hc, hv⟩ := hv
      refine ig_cald (x := (tT b)) hx hb hK 1 0 rfl rfl b rfl hc (by decide) rfl d_RL_countNames_24 ?_
      refine ig_bipush (v := 47) hx hb d_RL_countNames_25 (by decide) ?_
      refine ig_icmp_ne (tgt := 33) hx hb d_RL_countNames_27 (by decide) (fun h => ?_) (fun h => ?_)
      · have hv := hv.1 h
        refine ig_iinc (v := (nI (b + 1))) (lv' := [(3, .int (nI (b + 1))), (0, .ref q0), (1, .int (nI i)), (2, .int (nI x))]) hx hb 3 d_RL_countNames_33 rfl (ig_inc b 1 (by decide)) (by decide) rfl ?_
        refine ig_goto (tgt := 9) hx hb d_RL_countNames_36 (by decide) ?_
        refine ig_lv (lv' := [(0, .ref q0), (1, .int (nI i)), (2, .int (nI x)), (3, .int (nI (b + 1)))]) [1, 2, 3, 0] rfl ?_
        rw [hK9] at hv
        exact hv
      · have hv := hv.2 h
        refine ig_iinc (v := (nI (x + 1))) (lv' := [(2, .int (nI (x + 1))), (0, .ref q0), (1, .int (nI i)), (3, .int (nI b))]) hx hb 2 d_RL_countNames_30 rfl (ig_inc x 1 (by decide)) (by decide) rfl ?_
        refine ig_iinc (v := (nI (b + 1))) (lv' := [(3, .int (nI (b + 1))), (2, .int (nI (x + 1))), (0, .ref q0), (1, .int (nI i))]) hx hb 3 d_RL_countNames_33 rfl (ig_inc b 1 (by decide)) (by decide) rfl ?_
        refine ig_goto (tgt := 9) hx hb d_RL_countNames_36 (by decide) ?_
        refine ig_lv (lv' := [(0, .ref q0), (1, .int (nI i)), (2, .int (nI (x + 1))), (3, .int (nI (b + 1)))]) [2, 3, 1, 0] rfl ?_
        rw [hK9] at hv
        exact hv
  have hv := t_RL_countNames tT aS aE i hr K9 k9
  unfold v_RL_countNames at hv
  refine ig_iconst (v := 1) hx hb d_RL_countNames_0 (by decide) ?_
  refine ig_istore_n (lv' := [(2, .int 1), (0, .ref q0), (1, .int (nI i))]) hx hb d_RL_countNames_1 rfl (by decide) rfl ?_
  refine ig_aload_n hx hb 1 d_RL_countNames_2 rfl rfl ?_
  refine ig_get hx hb hts in_RL hown hK 0 rfl rfl 1 (by decide) (hts _ kw_0_30) (fun _ h => h) rfl d_RL_countNames_3 ?_
  refine ig_iload_n hx hb 2 d_RL_countNames_6 rfl rfl ?_
  obtain ⟨hc, hv⟩ := hv
  refine ig_iald (x := (nI (aS i))) hx hb hK 2 1 rfl rfl i rfl hc (by decide) rfl d_RL_countNames_7 ?_
  refine ig_istore_n (lv' := [(3, .int (nI (aS i))), (2, .int 1), (0, .ref q0), (1, .int (nI i))]) hx hb d_RL_countNames_8 rfl (by decide) rfl ?_
  refine ig_lv (lv' := [(0, .ref q0), (1, .int (nI i)), (2, .int 1), (3, .int (nI (aS i)))]) [2, 3, 1, 0] rfl ?_
  rw [hK9] at hv
  exact hv
theorem d_RL_nameStart_0 : decode b_RL_nameStart 0 = .ok (.iconst 0, 1) := by decide +kernel
theorem d_RL_nameStart_1 : decode b_RL_nameStart 1 = .ok (.istore_n 3, 1) := by decide +kernel
theorem d_RL_nameStart_2 : decode b_RL_nameStart 2 = .ok (.aload_n 0, 1) := by decide +kernel
theorem d_RL_nameStart_3 : decode b_RL_nameStart 3 = .ok (.getfield 15, 3) := by decide +kernel
theorem d_RL_nameStart_6 : decode b_RL_nameStart 6 = .ok (.iload_n 1, 1) := by decide +kernel
theorem d_RL_nameStart_7 : decode b_RL_nameStart 7 = .ok (.iaload, 1) := by decide +kernel
theorem d_RL_nameStart_8 : decode b_RL_nameStart 8 = .ok (.istore 4, 2) := by decide +kernel
theorem d_RL_nameStart_10 : decode b_RL_nameStart 10 = .ok (.aload_n 0, 1) := by decide +kernel
theorem d_RL_nameStart_11 : decode b_RL_nameStart 11 = .ok (.getfield 15, 3) := by decide +kernel
theorem d_RL_nameStart_14 : decode b_RL_nameStart 14 = .ok (.iload_n 1, 1) := by decide +kernel
theorem d_RL_nameStart_15 : decode b_RL_nameStart 15 = .ok (.iaload, 1) := by decide +kernel
theorem d_RL_nameStart_16 : decode b_RL_nameStart 16 = .ok (.istore 5, 2) := by decide +kernel
theorem d_RL_nameStart_18 : decode b_RL_nameStart 18 = .ok (.iload 5, 2) := by decide +kernel
theorem d_RL_nameStart_20 : decode b_RL_nameStart 20 = .ok (.aload_n 0, 1) := by decide +kernel
theorem d_RL_nameStart_21 : decode b_RL_nameStart 21 = .ok (.getfield 19, 3) := by decide +kernel
theorem d_RL_nameStart_24 : decode b_RL_nameStart 24 = .ok (.iload_n 1, 1) := by decide +kernel
theorem d_RL_nameStart_25 : decode b_RL_nameStart 25 = .ok (.iaload, 1) := by decide +kernel
theorem d_RL_nameStart_26 : decode b_RL_nameStart 26 = .ok (.if_icmp .ge 35, 3) := by decide +kernel
theorem d_RL_nameStart_29 : decode b_RL_nameStart 29 = .ok (.iload_n 3, 1) := by decide +kernel
theorem d_RL_nameStart_30 : decode b_RL_nameStart 30 = .ok (.iload_n 2, 1) := by decide +kernel
theorem d_RL_nameStart_31 : decode b_RL_nameStart 31 = .ok (.if_icmp .ge 30, 3) := by decide +kernel
theorem d_RL_nameStart_34 : decode b_RL_nameStart 34 = .ok (.aload_n 0, 1) := by decide +kernel
theorem d_RL_nameStart_35 : decode b_RL_nameStart 35 = .ok (.getfield 9, 3) := by decide +kernel
theorem d_RL_nameStart_38 : decode b_RL_nameStart 38 = .ok (.iload 5, 2) := by decide +kernel
theorem d_RL_nameStart_40 : decode b_RL_nameStart 40 = .ok (.caload, 1) := by decide +kernel
theorem d_RL_nameStart_41 : decode b_RL_nameStart 41 = .ok (.bipush 47, 2) := by decide +kernel
theorem d_RL_nameStart_43 : decode b_RL_nameStart 43 = .ok (.if_icmp .ne 12, 3) := by decide +kernel
theorem d_RL_nameStart_46 : decode b_RL_nameStart 46 = .ok (.iinc 3 1, 3) := by decide +kernel
theorem d_RL_nameStart_49 : decode b_RL_nameStart 49 = .ok (.iload 5, 2) := by decide +kernel
theorem d_RL_nameStart_51 : decode b_RL_nameStart 51 = .ok (.iconst 1, 1) := by decide +kernel
theorem d_RL_nameStart_52 : decode b_RL_nameStart 52 = .ok (.iadd, 1) := by decide +kernel
theorem d_RL_nameStart_53 : decode b_RL_nameStart 53 = .ok (.istore 4, 2) := by decide +kernel
theorem d_RL_nameStart_55 : decode b_RL_nameStart 55 = .ok (.iinc 5 1, 3) := by decide +kernel
theorem d_RL_nameStart_58 : decode b_RL_nameStart 58 = .ok (.goto (-40), 3) := by decide +kernel
theorem d_RL_nameStart_61 : decode b_RL_nameStart 61 = .ok (.iload 4, 2) := by decide +kernel
theorem d_RL_nameStart_63 : decode b_RL_nameStart 63 = .ok (.ireturn, 1) := by decide +kernel
abbrev w_RL_nameStart : List Cond := Cond.code y_RL_nameStart b_RL_nameStart 6 (some .int) :: ig_T
theorem g_RL_nameStart : GoodIn ig_T w_RL_nameStart := ig_T_good (ig_T_mem (List.mem_append_right _ (List.mem_append_left _ (List.mem_of_getElem? (i := 133) rfl))) rfl)
set_option maxHeartbeats 4000000 in
set_option maxRecDepth 100000 in
theorem c_RL_nameStart (l : Launch) (dC : Nat → ClassId) (dI : Nat → Nat → Nat) (cC cI cZ cL : ClassId) (q0 qt qs qe qb ql : Nat) (nC : Int32) (tT : Nat → Int32) (aS : Nat → Nat) (aE : Nat → Nat) (i : Nat) (k : Nat) (sz : Nat) (hr : r_RL_nameStart tT aS aE i k) : Met l y_RL_nameStart w_RL_nameStart ({ frames := 0, cells := 0, slots := 0, locals := 0 }) (ig_Pc (dC, dI) ig_cl0 [(cC, .char), (cI, .int), (cZ, .boolean), (cL, .long)] [.ref q0, .int (nI i), .int (nI k)] [(q0, .inr (ciRL, [.ref qt, .ref qs, .ref qe, .ref qb, .ref ql, .int nC])), (qt, .inl (cC, 1000, .inl tT)), (qs, .inl (cI, 60, .inl (fun zj => nI (aS zj)))), (qe, .inl (cI, 60, .inl (fun zj => nI (aE zj))))] sz) (va_Qi (fun (r : Int32) (u : Unit) => ∃ zr : Nat, r = nI zr ∧ p_RL_nameStart tT aS aE i k zr ) (fun u t => va_P (dC, dI) ig_cl0 ((fun (u : Unit) => [(q0, .inr (ciRL, [.ref qt, .ref qs, .ref qe, .ref qb, .ref ql, .int nC])), (qt, .inl (cC, 1000, .inl tT)), (qs, .inl (cI, 60, .inl (fun zj => nI (aS zj)))), (qe, .inl (cI, 60, .inl (fun zj => nI (aE zj))))]) u) t.heap ∧ va_D (va_A [(q0, .inr (ciRL, [.ref qt, .ref qs, .ref qe, .ref qb, .ref ql, .int nC])), (qt, .inl (cC, 1000, .inl tT)), (qs, .inl (cI, 60, .inl (fun zj => nI (aS zj)))), (qe, .inl (cI, 60, .inl (fun zj => nI (aE zj))))] sz) ((fun (u : Unit) => [(q0, .inr (ciRL, [.ref qt, .ref qs, .ref qe, .ref qb, .ref ql, .int nC])), (qt, .inl (cC, 1000, .inl tT)), (qs, .inl (cI, 60, .inl (fun zj => nI (aS zj)))), (qe, .inl (cI, 60, .inl (fun zj => nI (aE zj))))]) u)) (va_A [(q0, .inr (ciRL, [.ref qt, .ref qs, .ref qe, .ref qb, .ref ql, .int nC])), (qt, .inl (cC, 1000, .inl tT)), (qs, .inl (cI, 60, .inl (fun zj => nI (aS zj)))), (qe, .inl (cI, 60, .inl (fun zj => nI (aE zj))))] sz)) 0 0 (va_A [(q0, .inr (ciRL, [.ref qt, .ref qs, .ref qe, .ref qb, .ref ql, .int nC])), (qt, .inl (cC, 1000, .inl tT)), (qs, .inl (cI, 60, .inl (fun zj => nI (aS zj)))), (qe, .inl (cI, 60, .inl (fun zj => nI (aE zj))))] sz) := by
  refine ig_metI (fun (r : Int32) (u : Unit) => ∃ zr : Nat, r = nI zr ∧ p_RL_nameStart tT aS aE i k zr ) (fun (u : Unit) => [(q0, .inr (ciRL, [.ref qt, .ref qs, .ref qe, .ref qb, .ref ql, .int nC])), (qt, .inl (cC, 1000, .inl tT)), (qs, .inl (cI, 60, .inl (fun zj => nI (aS zj)))), (qe, .inl (cI, 60, .inl (fun zj => nI (aE zj))))]) (by decide) rfl (Nat.le_of_ble_eq_true rfl) rfl (fun _ _ _ => rfl) ?_
  intro zp ze zs zm zargs zbelow zmeth zc zA zQ hx hb hml hown hts hK hN hA hret
  obtain ⟨K18, hK18⟩ : ∃ K : Nat → Nat → Nat → Prop, K = fun (x : Nat) (g : Nat) (b : Nat) => ig_W zp l ze ({ frames := 0, cells := 0, slots := 0, locals := 0 }) zs zm zargs zbelow zmeth zc (dC, dI) ig_cl0 zA zs.heap 6 0 0 zQ 18 [(0, .ref q0), (1, .int (nI i)), (2, .int (nI k)), (3, .int (nI x)), (4, .int (nI g)), (5, .int (nI b))] [] [(q0, .inr (ciRL, [.ref qt, .ref qs, .ref qe, .ref qb, .ref ql, .int nC])), (qt, .inl (cC, 1000, .inl tT)), (qs, .inl (cI, 60, .inl (fun zj => nI (aS zj)))), (qe, .inl (cI, 60, .inl (fun zj => nI (aE zj))))] := ⟨_, rfl⟩
  have k18 : ∀ (x : Nat) (g : Nat) (b : Nat), v_RL_nameStart_18 tT aS aE i k K18 (p_RL_nameStart tT aS aE i k) x g b → K18 x g b := by
    intro x g b hv
    unfold v_RL_nameStart_18 at hv
    rw [hK18]
    show ig_W zp l ze ({ frames := 0, cells := 0, slots := 0, locals := 0 }) zs zm zargs zbelow zmeth zc (dC, dI) ig_cl0 zA zs.heap 6 0 0 zQ 18 [(0, .ref q0), (1, .int (nI i)), (2, .int (nI k)), (3, .int (nI x)), (4, .int (nI g)), (5, .int (nI b))] [] [(q0, .inr (ciRL, [.ref qt, .ref qs, .ref qe, .ref qb, .ref ql, .int nC])), (qt, .inl (cC, 1000, .inl tT)), (qs, .inl (cI, 60, .inl (fun zj => nI (aS zj)))), (qe, .inl (cI, 60, .inl (fun zj => nI (aE zj))))]
    refine ig_iload hx hb 5 d_RL_nameStart_18 rfl ?_
    refine ig_aload_n hx hb 0 d_RL_nameStart_20 rfl rfl ?_
    refine ig_get hx hb hts in_RL hown hK 0 rfl rfl 2 (by decide) (hts _ kw_0_32) (fun _ h => h) rfl d_RL_nameStart_21 ?_
    refine ig_iload_n hx hb 1 d_RL_nameStart_24 rfl rfl ?_
    obtain ⟨hc, hv⟩ := hv
    refine ig_iald (x := (nI (aE i))) hx hb hK 3 1 rfl rfl i rfl hc (by decide) rfl d_RL_nameStart_25 ?_
    obtain ⟨h1, hv⟩ := hv
    obtain ⟨h2, hv⟩ := hv
    refine ig_icmp_geN (tgt := 61) hx hb b (aE i) rfl rfl d_RL_nameStart_26 (by decide) h1 h2 (fun h => ?_) (fun h => ?_)
    · have hv := hv.1 h
      refine ig_iload hx hb 4 d_RL_nameStart_61 rfl ?_
      exact hret 63 _ (nI g) () d_RL_nameStart_63 ⟨g, rfl, hv⟩
    · have hv := hv.2 h
      refine ig_iload_n hx hb 3 d_RL_nameStart_29 rfl rfl ?_
      refine ig_iload_n hx hb 2 d_RL_nameStart_30 rfl rfl ?_
      obtain ⟨h1, hv⟩ := hv
      obtain ⟨h2, hv⟩ := hv
      refine ig_icmp_geN (tgt := 61) hx hb x k rfl rfl d_RL_nameStart_31 (by decide) h1 h2 (fun h => ?_) (fun h => ?_)
      · have hv := hv.1 h
        refine ig_iload hx hb 4 d_RL_nameStart_61 rfl ?_
        exact hret 63 _ (nI g) () d_RL_nameStart_63 ⟨g, rfl, hv⟩
      · have hv := hv.2 h
        refine ig_aload_n hx hb 0 d_RL_nameStart_34 rfl rfl ?_
        refine ig_get hx hb hts in_RL hown hK 0 rfl rfl 0 (by decide) (hts _ kw_0_27) (fun _ h => h) rfl d_RL_nameStart_35 ?_
        refine ig_iload hx hb 5 d_RL_nameStart_38 rfl ?_
        obtain ⟨hc, hv⟩ := hv
        refine ig_cald (x := (tT b)) hx hb hK 1 0 rfl rfl b rfl hc (by decide) rfl d_RL_nameStart_40 ?_
        refine ig_bipush (v := 47) hx hb d_RL_nameStart_41 (by decide) ?_
        refine ig_icmp_ne (tgt := 55) hx hb d_RL_nameStart_43 (by decide) (fun h => ?_) (fun h => ?_)
        · have hv := hv.1 h
          refine ig_iinc (v := (nI (b + 1))) (lv' := [(5, .int (nI (b + 1))), (0, .ref q0), (1, .int (nI i)), (2, .int (nI k)), (3, .int (nI x)), (4, .int (nI g))]) hx hb 5 d_RL_nameStart_55 rfl (ig_inc b 1 (by decide)) (by decide) rfl ?_
          refine ig_goto (tgt := 18) hx hb d_RL_nameStart_58 (by decide) ?_
          refine ig_lv (lv' := [(0, .ref q0), (1, .int (nI i)), (2, .int (nI k)), (3, .int (nI x)), (4, .int (nI g)), (5, .int (nI (b + 1)))]) [1, 2, 3, 4, 5, 0] rfl ?_
          rw [hK18] at hv
          exact hv
        · have hv := hv.2 h
          refine ig_iinc (v := (nI (x + 1))) (lv' := [(3, .int (nI (x + 1))), (0, .ref q0), (1, .int (nI i)), (2, .int (nI k)), (4, .int (nI g)), (5, .int (nI b))]) hx hb 3 d_RL_nameStart_46 rfl (ig_inc x 1 (by decide)) (by decide) rfl ?_
          refine ig_iload hx hb 5 d_RL_nameStart_49 rfl ?_
          refine ig_iconst (v := 1) hx hb d_RL_nameStart_51 (by decide) ?_
          refine ig_iaddN hx hb b 1 rfl rfl d_RL_nameStart_52 ?_
          refine ig_istore (lv' := [(4, .int (nI (b + 1))), (3, .int (nI (x + 1))), (0, .ref q0), (1, .int (nI i)), (2, .int (nI k)), (5, .int (nI b))]) hx hb d_RL_nameStart_53 (by decide) rfl ?_
          refine ig_iinc (v := (nI (b + 1))) (lv' := [(5, .int (nI (b + 1))), (4, .int (nI (b + 1))), (3, .int (nI (x + 1))), (0, .ref q0), (1, .int (nI i)), (2, .int (nI k))]) hx hb 5 d_RL_nameStart_55 rfl (ig_inc b 1 (by decide)) (by decide) rfl ?_
          refine ig_goto (tgt := 18) hx hb d_RL_nameStart_58 (by decide) ?_
          refine ig_lv (lv' := [(0, .ref q0), (1, .int (nI i)), (2, .int (nI k)), (3, .int (nI (x + 1))), (4, .int (nI (b + 1))), (5, .int (nI (b + 1)))]) [3, 4, 5, 2, 1, 0] rfl ?_
          rw [hK18] at hv
          exact hv
  have hv := t_RL_nameStart tT aS aE i k hr K18 k18
  unfold v_RL_nameStart at hv
  refine ig_iconst (v := 0) hx hb d_RL_nameStart_0 (by decide) ?_
  refine ig_istore_n (lv' := [(3, .int 0), (0, .ref q0), (1, .int (nI i)), (2, .int (nI k))]) hx hb d_RL_nameStart_1 rfl (by decide) rfl ?_
  refine ig_aload_n hx hb 1 d_RL_nameStart_2 rfl rfl ?_
  refine ig_get hx hb hts in_RL hown hK 0 rfl rfl 1 (by decide) (hts _ kw_0_30) (fun _ h => h) rfl d_RL_nameStart_3 ?_
  refine ig_iload_n hx hb 2 d_RL_nameStart_6 rfl rfl ?_
  obtain ⟨hc, hv⟩ := hv
  refine ig_iald (x := (nI (aS i))) hx hb hK 2 1 rfl rfl i rfl hc (by decide) rfl d_RL_nameStart_7 ?_
  refine ig_istore (lv' := [(4, .int (nI (aS i))), (3, .int 0), (0, .ref q0), (1, .int (nI i)), (2, .int (nI k))]) hx hb d_RL_nameStart_8 (by decide) rfl ?_
  refine ig_aload_n hx hb 2 d_RL_nameStart_10 rfl rfl ?_
  refine ig_get hx hb hts in_RL hown hK 0 rfl rfl 1 (by decide) (hts _ kw_0_30) (fun _ h => h) rfl d_RL_nameStart_11 ?_
  refine ig_iload_n hx hb 3 d_RL_nameStart_14 rfl rfl ?_
  obtain ⟨hc, hv⟩ := hv
  refine ig_iald (x := (nI (aS i))) hx hb hK 2 1 rfl rfl i rfl hc (by decide) rfl d_RL_nameStart_15 ?_
  refine ig_istore (lv' := [(5, .int (nI (aS i))), (4, .int (nI (aS i))), (3, .int 0), (0, .ref q0), (1, .int (nI i)), (2, .int (nI k))]) hx hb d_RL_nameStart_16 (by decide) rfl ?_
  refine ig_lv (lv' := [(0, .ref q0), (1, .int (nI i)), (2, .int (nI k)), (3, .int 0), (4, .int (nI (aS i))), (5, .int (nI (aS i)))]) [3, 4, 5, 2, 1, 0] rfl ?_
  rw [hK18] at hv
  exact hv
theorem d_RL_nameEnd_0 : decode b_RL_nameEnd 0 = .ok (.aload_n 0, 1) := by decide +kernel
theorem d_RL_nameEnd_1 : decode b_RL_nameEnd 1 = .ok (.iload_n 2, 1) := by decide +kernel
theorem d_RL_nameEnd_2 : decode b_RL_nameEnd 2 = .ok (.aload_n 0, 1) := by decide +kernel
theorem d_RL_nameEnd_3 : decode b_RL_nameEnd 3 = .ok (.getfield 19, 3) := by decide +kernel
theorem d_RL_nameEnd_6 : decode b_RL_nameEnd 6 = .ok (.iload_n 1, 1) := by decide +kernel
theorem d_RL_nameEnd_7 : decode b_RL_nameEnd 7 = .ok (.iaload, 1) := by decide +kernel
theorem d_RL_nameEnd_8 : decode b_RL_nameEnd 8 = .ok (.invokevirtual 44, 3) := by decide +kernel
theorem d_RL_nameEnd_11 : decode b_RL_nameEnd 11 = .ok (.ireturn, 1) := by decide +kernel
abbrev w_RL_nameEnd : List Cond := Cond.code y_RL_nameEnd b_RL_nameEnd 3 (some .int) :: ig_T
theorem g_RL_nameEnd : GoodIn ig_T w_RL_nameEnd := ig_T_good (ig_T_mem (List.mem_append_right _ (List.mem_append_left _ (List.mem_of_getElem? (i := 137) rfl))) rfl)
set_option maxHeartbeats 4000000 in
set_option maxRecDepth 100000 in
theorem c_RL_nameEnd (l : Launch) (dC : Nat → ClassId) (dI : Nat → Nat → Nat) (cC cI cZ cL : ClassId) (q0 qt qs qe qb ql : Nat) (nC : Int32) (tT : Nat → Int32) (aE : Nat → Nat) (i : Nat) (f : Nat) (sz : Nat) (hr : r_RL_nameEnd tT aE i f) : Met l y_RL_nameEnd w_RL_nameEnd ({ frames := 1, cells := 0, slots := 0, locals := 23 }) (ig_Pc (dC, dI) ig_cl0 [(cC, .char), (cI, .int), (cZ, .boolean), (cL, .long)] [.ref q0, .int (nI i), .int (nI f)] [(q0, .inr (ciRL, [.ref qt, .ref qs, .ref qe, .ref qb, .ref ql, .int nC])), (qt, .inl (cC, 1000, .inl tT)), (qe, .inl (cI, 60, .inl (fun zj => nI (aE zj))))] sz) (va_Qi (fun (r : Int32) (u : Unit) => ∃ zr : Nat, r = nI zr ∧ p_RL_nameEnd tT aE i f zr ) (fun u t => va_P (dC, dI) ig_cl0 ((fun (u : Unit) => [(q0, .inr (ciRL, [.ref qt, .ref qs, .ref qe, .ref qb, .ref ql, .int nC])), (qt, .inl (cC, 1000, .inl tT)), (qe, .inl (cI, 60, .inl (fun zj => nI (aE zj))))]) u) t.heap ∧ va_D (va_A [(q0, .inr (ciRL, [.ref qt, .ref qs, .ref qe, .ref qb, .ref ql, .int nC])), (qt, .inl (cC, 1000, .inl tT)), (qe, .inl (cI, 60, .inl (fun zj => nI (aE zj))))] sz) ((fun (u : Unit) => [(q0, .inr (ciRL, [.ref qt, .ref qs, .ref qe, .ref qb, .ref ql, .int nC])), (qt, .inl (cC, 1000, .inl tT)), (qe, .inl (cI, 60, .inl (fun zj => nI (aE zj))))]) u)) (va_A [(q0, .inr (ciRL, [.ref qt, .ref qs, .ref qe, .ref qb, .ref ql, .int nC])), (qt, .inl (cC, 1000, .inl tT)), (qe, .inl (cI, 60, .inl (fun zj => nI (aE zj))))] sz)) 0 0 (va_A [(q0, .inr (ciRL, [.ref qt, .ref qs, .ref qe, .ref qb, .ref ql, .int nC])), (qt, .inl (cC, 1000, .inl tT)), (qe, .inl (cI, 60, .inl (fun zj => nI (aE zj))))] sz) := by
  refine ig_metI (fun (r : Int32) (u : Unit) => ∃ zr : Nat, r = nI zr ∧ p_RL_nameEnd tT aE i f zr ) (fun (u : Unit) => [(q0, .inr (ciRL, [.ref qt, .ref qs, .ref qe, .ref qb, .ref ql, .int nC])), (qt, .inl (cC, 1000, .inl tT)), (qe, .inl (cI, 60, .inl (fun zj => nI (aE zj))))]) (by decide) rfl (Nat.le_of_ble_eq_true rfl) rfl (fun _ _ _ => rfl) ?_
  intro zp ze zs zm zargs zbelow zmeth zc zA zQ hx hb hml hown hts hK hN hA hret
  have hv := t_RL_nameEnd tT aE i f hr 
  unfold v_RL_nameEnd at hv
  refine ig_aload_n hx hb 0 d_RL_nameEnd_0 rfl rfl ?_
  refine ig_iload_n hx hb 2 d_RL_nameEnd_1 rfl rfl ?_
  refine ig_aload_n hx hb 0 d_RL_nameEnd_2 rfl rfl ?_
  refine ig_get hx hb hts in_RL hown hK 0 rfl rfl 2 (by decide) (hts _ kw_0_32) (fun _ h => h) rfl d_RL_nameEnd_3 ?_
  refine ig_iload_n hx hb 1 d_RL_nameEnd_6 rfl rfl ?_
  obtain ⟨hc, hv⟩ := hv
  refine ig_iald (x := (nI (aE i))) hx hb hK 2 1 rfl rfl i rfl hc (by decide) rfl d_RL_nameEnd_7 ?_
  obtain ⟨hc, hv⟩ := hv
  refine ig_cVi (As := [.int (nI f), .int (nI (aE i))]) (rest := []) (wr := [(qe, .inl (cI, 60, .inl (fun zj => nI (aE zj))))]) (ws' := fun u => [(q0, .inr (ciRL, [.ref qt, .ref qs, .ref qe, .ref qb, .ref ql, .int nC])), (qt, .inl (cC, 1000, .inl tT)), (qe, .inl (cI, 60, .inl (fun zj => nI (aE zj))))]) hx hb hml hown hts hK hN hA (fun sz => c_RL_endOfName l dC dI cC cI cZ cL q0 qt qs qe qb ql nC tT f (aE i) sz hc) ⟨callB_of 2 hts g_RL_endOfName rfl rfl rfl (hts _ kw_0_2) (hts _ kw_0_132) (by decide +kernel) (by decide), (hts _ kw_0_134), (hts _ ks_RL_endOfName)⟩ rfl rfl (Nat.le_of_ble_eq_true rfl) d_RL_nameEnd_8 (by decide) 0 rfl rfl [0, 1] [2] [1, 2, 0] rfl rfl (by decide) (by decide) (by decide) (fun _ => rfl) (fun _ => rfl) (fun r u hr => ?_)
  obtain ⟨rr, rfl, hr⟩ := hr
  unfold p_RL_endOfName at hr
  subst hr
  exact hret 11 _ (nI (sp_eon tT (aE i) f)) () d_RL_nameEnd_11 ⟨sp_eon tT (aE i) f, rfl, hv⟩
