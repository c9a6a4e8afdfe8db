theorem kw_0_2 : Cond.initialized "IgnoreRules$RuleList" ∈ ig_T := ig_T_mem (List.mem_append_left _ (List.mem_of_getElem? (i := 2) rfl)) rfl
theorem kw_0_27 : Cond.fieldLink "IgnoreRules$RuleList" 9 "IgnoreRules$RuleList" "text" "[C" ∈ ig_T := ig_T_mem (List.mem_append_left _ (List.mem_of_getElem? (i := 27) rfl)) rfl
theorem kw_0_124 : Cond.methodLink "IgnoreRules$RuleList" 40 y_RL_isEscaped ∈ ig_T := ig_T_mem (List.mem_append_left _ (List.mem_of_getElem? (i := 124) rfl)) rfl
theorem kw_0_126 : Cond.instanceMethod y_RL_isEscaped ∈ ig_T := ig_T_mem (List.mem_append_left _ (List.mem_of_getElem? (i := 126) rfl)) rfl
theorem d_RL_isEscaped_0 : decode b_RL_isEscaped 0 = .ok (.iload_n 2, 1) := by decide +kernel
theorem d_RL_isEscaped_1 : decode b_RL_isEscaped 1 = .ok (.istore_n 3, 1) := by decide +kernel
theorem d_RL_isEscaped_2 : decode b_RL_isEscaped 2 = .ok (.iload_n 3, 1) := by decide +kernel
theorem d_RL_isEscaped_3 : decode b_RL_isEscaped 3 = .ok (.iload_n 1, 1) := by decide +kernel
theorem d_RL_isEscaped_4 : decode b_RL_isEscaped 4 = .ok (.if_icmp .le 22, 3) := by decide +kernel
theorem d_RL_isEscaped_7 : decode b_RL_isEscaped 7 = .ok (.aload_n 0, 1) := by decide +kernel
theorem d_RL_isEscaped_8 : decode b_RL_isEscaped 8 = .ok (.getfield 9, 3) := by decide +kernel
theorem d_RL_isEscaped_11 : decode b_RL_isEscaped 11 = .ok (.iload_n 3, 1) := by decide +kernel
theorem d_RL_isEscaped_12 : decode b_RL_isEscaped 12 = .ok (.iconst 1, 1) := by decide +kernel
theorem d_RL_isEscaped_13 : decode b_RL_isEscaped 13 = .ok (.isub, 1) := by decide +kernel
theorem d_RL_isEscaped_14 : decode b_RL_isEscaped 14 = .ok (.caload, 1) := by decide +kernel
theorem d_RL_isEscaped_15 : decode b_RL_isEscaped 15 = .ok (.bipush 92, 2) := by decide +kernel
theorem d_RL_isEscaped_17 : decode b_RL_isEscaped 17 = .ok (.if_icmp .ne 9, 3) := by decide +kernel
theorem d_RL_isEscaped_20 : decode b_RL_isEscaped 20 = .ok (.iinc 3 (-1), 3) := by decide +kernel
theorem d_RL_isEscaped_23 : decode b_RL_isEscaped 23 = .ok (.goto (-21), 3) := by decide +kernel
theorem d_RL_isEscaped_26 : decode b_RL_isEscaped 26 = .ok (.iload_n 2, 1) := by decide +kernel
theorem d_RL_isEscaped_27 : decode b_RL_isEscaped 27 = .ok (.iload_n 3, 1) := by decide +kernel
theorem d_RL_isEscaped_28 : decode b_RL_isEscaped 28 = .ok (.isub, 1) := by decide +kernel
theorem d_RL_isEscaped_29 : decode b_RL_isEscaped 29 = .ok (.iconst 2, 1) := by decide +kernel
theorem d_RL_isEscaped_30 : decode b_RL_isEscaped 30 = .ok (.irem, 1) := by decide +kernel
theorem d_RL_isEscaped_31 : decode b_RL_isEscaped 31 = .ok (.iconst 1, 1) := by decide +kernel
theorem d_RL_isEscaped_32 : decode b_RL_isEscaped 32 = .ok (.if_icmp .ne 7, 3) := by decide +kernel
theorem d_RL_isEscaped_35 : decode b_RL_isEscaped 35 = .ok (.iconst 1, 1) := by decide +kernel
theorem d_RL_isEscaped_36 : decode b_RL_isEscaped 36 = .ok (.goto 4, 3) := by decide +kernel
theorem d_RL_isEscaped_39 : decode b_RL_isEscaped 39 = .ok (.iconst 0, 1) := by decide +kernel
theorem d_RL_isEscaped_40 : decode b_RL_isEscaped 40 = .ok (.ireturn, 1) := by decide +kernel
abbrev w_RL_isEscaped : List Cond := Cond.code y_RL_isEscaped b_RL_isEscaped 4 (some .boolean) :: ig_T
theorem g_RL_isEscaped : GoodIn ig_T w_RL_isEscaped := ig_T_good (ig_T_mem (List.mem_append_left _ (List.mem_of_getElem? (i := 127) rfl)) rfl)
set_option maxHeartbeats 4000000 in
set_option maxRecDepth 100000 in
theorem c_RL_isEscaped (l : Launch) (dC : Nat → ClassId) (dI : Nat → Nat → Nat) (cC cI cZ cL : ClassId) (q0 qt qs qe qb ql : Nat) (nC : Int32) (tT : Nat → Int32) (f : Nat) (a : Nat) (sz : Nat) (hr : r_RL_isEscaped tT f a) : Met l y_RL_isEscaped w_RL_isEscaped ({ frames := 0, cells := 0, slots := 0, locals := 0 }) (ig_Pc (dC, dI) ig_cl0 [(cC, .char), (cI, .int), (cZ, .boolean), (cL, .long)] [.ref q0, .int (nI f), .int (nI a)] [(q0, .inr (ciRL, [.ref qt, .ref qs, .ref qe, .ref qb, .ref ql, .int nC])), (qt, .inl (cC, 1000, .inl tT))] sz) (va_Qi (fun (r : Int32) (u : Unit) => ∃ zr : Bool, r = bI zr ∧ p_RL_isEscaped tT f a zr ) (fun u t => va_P (dC, dI) ig_cl0 ((fun (u : Unit) => [(q0, .inr (ciRL, [.ref qt, .ref qs, .ref qe, .ref qb, .ref ql, .int nC])), (qt, .inl (cC, 1000, .inl tT))]) u) t.heap ∧ va_D (va_A [(q0, .inr (ciRL, [.ref qt, .ref qs, .ref qe, .ref qb, .ref ql, .int nC])), (qt, .inl (cC, 1000, .inl tT))] sz) ((fun (u : Unit) => [(q0, .inr (ciRL, [.ref qt, .ref qs, .ref qe, .ref qb, .ref ql, .int nC])), (qt, .inl (cC, 1000, .inl tT))]) u)) (va_A [(q0, .inr (ciRL, [.ref qt, .ref qs, .ref qe, .ref qb, .ref ql, .int nC])), (qt, .inl (cC, 1000, .inl tT))] sz)) 0 0 (va_A [(q0, .inr (ciRL, [.ref qt, .ref qs, .ref qe, .ref qb, .ref ql, .int nC])), (qt, .inl (cC, 1000, .inl tT))] sz) := by
  refine ig_metI (fun (r : Int32) (u : Unit) => ∃ zr : Bool, r = bI zr ∧ p_RL_isEscaped tT f a zr ) (fun (u : Unit) => [(q0, .inr (ciRL, [.ref qt, .ref qs, .ref qe, .ref qb, .ref ql, .int nC])), (qt, .inl (cC, 1000, .inl tT))]) (by decide) rfl (Nat.le_of_ble_eq_true rfl) rfl (by rintro r u ⟨b, rfl, -⟩; exact bI_ret b) ?_
  intro zp ze zs zm zargs zbelow zmeth zc zA zQ hx hb hml hown hts hK hN hA hret
  obtain ⟨K2, hK2⟩ : ∃ K : Nat → Prop, K = fun (b : Nat) => ig_W zp l ze ({ frames := 0, cells := 0, slots := 0, locals := 0 }) zs zm zargs zbelow zmeth zc (dC, dI) ig_cl0 zA zs.heap 4 0 0 zQ 2 [(0, .ref q0), (1, .int (nI f)), (2, .int (nI a)), (3, .int (nI b))] [] [(q0, .inr (ciRL, [.ref qt, .ref qs, .ref qe, .ref qb, .ref ql, .int nC])), (qt, .inl (cC, 1000, .inl tT))] := ⟨_, rfl⟩
  have j26 : ∀ (b : Nat), v_RL_isEscaped_26 tT f a K2 (p_RL_isEscaped tT f a) b → ig_W zp l ze ({ frames := 0, cells := 0, slots := 0, locals := 0 }) zs zm zargs zbelow zmeth zc (dC, dI) ig_cl0 zA zs.heap 4 0 0 zQ 26 [(2, .int (nI a)), (3, .int (nI b))] [] [(q0, .inr (ciRL, [.ref qt, .ref qs, .ref qe, .ref qb, .ref ql, .int nC])), (qt, .inl (cC, 1000, .inl tT))] := by
    intro b hv
    unfold v_RL_isEscaped_26 at hv
    refine ig_iload_n hx hb 0 d_RL_isEscaped_26 rfl rfl ?_
    refine ig_iload_n hx hb 1 d_RL_isEscaped_27 rfl rfl ?_
    obtain ⟨hc, hv⟩ := hv
    refine ig_isubN hx hb a b rfl rfl hc d_RL_isEscaped_28 ?_
    refine ig_iconst (v := 2) hx hb d_RL_isEscaped_29 (by decide) ?_
    obtain ⟨hc, hv⟩ := hv
    refine ig_iremN hx hb (a - b) 2 rfl rfl hc (by decide) (by decide) d_RL_isEscaped_30 ?_
    refine ig_iconst (v := 1) hx hb d_RL_isEscaped_31 (by decide) ?_
    obtain ⟨h1, hv⟩ := hv
    refine ig_icmp_neN (tgt := 39) hx hb ((a - b) % 2) 1 rfl rfl d_RL_isEscaped_32 (by decide) h1 (by decide) (fun h => ?_) (fun h => ?_)
    · have hv := hv.1 h
      refine ig_iconst (v := 0) hx hb d_RL_isEscaped_39 (by decide) ?_
      exact hret 40 _ 0 () d_RL_isEscaped_40 ⟨false, rfl, hv⟩
    · have hv := hv.2 h
      refine ig_iconst (v := 1) hx hb d_RL_isEscaped_35 (by decide) ?_
      refine ig_goto (tgt := 40) hx hb d_RL_isEscaped_36 (by decide) ?_
      exact hret 40 _ 1 () d_RL_isEscaped_40 ⟨true, rfl, hv⟩
  have k2 : ∀ (b : Nat), v_RL_isEscaped_2 tT f a K2 (p_RL_isEscaped tT f a) b → K2 b := by
    intro b hv
    unfold v_RL_isEscaped_2 at hv
    rw [hK2]
    show ig_W zp l ze ({ frames := 0, cells := 0, slots := 0, locals := 0 }) zs zm zargs zbelow zmeth zc (dC, dI) ig_cl0 zA zs.heap 4 0 0 zQ 2 [(0, .ref q0), (1, .int (nI f)), (2, .int (nI a)), (3, .int (nI b))] [] [(q0, .inr (ciRL, [.ref qt, .ref qs, .ref qe, .ref qb, .ref ql, .int nC])), (qt, .inl (cC, 1000, .inl tT))]
    refine ig_iload_n hx hb 3 d_RL_isEscaped_2 rfl rfl ?_
    refine ig_iload_n hx hb 1 d_RL_isEscaped_3 rfl rfl ?_
    obtain ⟨h1, hv⟩ := hv
    obtain ⟨h2, hv⟩ := hv
    refine ig_icmp_leN (tgt := 26) hx hb b f rfl rfl d_RL_isEscaped_4 (by decide) h1 h2 (fun h => ?_) (fun h => ?_)
    · have hv := hv.1 h
      refine ig_lv (lv' := [(2, .int (nI a)), (3, .int (nI b))]) [2, 3] rfl ?_
      exact j26 _ hv
    · have hv := hv.2 h
      refine ig_aload_n hx hb 0 d_RL_isEscaped_7 rfl rfl ?_
      refine ig_get hx hb hts in_RL hown hK 0 rfl rfl 0 (by decide) (hts _ kw_0_27) (fun _ h => h) rfl d_RL_isEscaped_8 ?_
      refine ig_iload_n hx hb 3 d_RL_isEscaped_11 rfl rfl ?_
      refine ig_iconst (v := 1) hx hb d_RL_isEscaped_12 (by decide) ?_
      obtain ⟨hc, hv⟩ := hv
      refine ig_isubN hx hb b 1 rfl rfl hc d_RL_isEscaped_13 ?_
      obtain ⟨hc, hv⟩ := hv
      refine ig_cald (x := (tT (b - 1))) hx hb hK 1 0 rfl rfl (b - 1) rfl hc (by decide) rfl d_RL_isEscaped_14 ?_
      refine ig_bipush (v := 92) hx hb d_RL_isEscaped_15 (by decide) ?_
      refine ig_icmp_ne (tgt := 26) hx hb d_RL_isEscaped_17 (by decide) (fun h => ?_) (fun h => ?_)
      · have hv := hv.1 h
        refine ig_lv (lv' := [(2, .int (nI a)), (3, .int (nI b))]) [2, 3] rfl ?_
        exact j26 _ hv
      · have hv := hv.2 h
        obtain ⟨hc, hv⟩ := hv
        refine ig_iinc (v := (nI (b - 1))) (lv' := [(3, .int (nI (b - 1))), (0, .ref q0), (1, .int (nI f)), (2, .int (nI a))]) hx hb 3 d_RL_isEscaped_20 rfl (ig_dec 1 hc (by decide)) (by decide) rfl ?_
        refine ig_goto (tgt := 2) hx hb d_RL_isEscaped_23 (by decide) ?_
        refine ig_lv (lv' := [(0, .ref q0), (1, .int (nI f)), (2, .int (nI a)), (3, .int (nI (b - 1)))]) [1, 2, 3, 0] rfl ?_
        rw [hK2] at hv
        exact hv
  have hv := t_RL_isEscaped tT f a hr K2 k2
  unfold v_RL_isEscaped at hv
  refine ig_iload_n hx hb 2 d_RL_isEscaped_0 rfl rfl ?_
  refine ig_istore_n (lv' := [(3, .int (nI a)), (0, .ref q0), (1, .int (nI f)), (2, .int (nI a))]) hx hb d_RL_isEscaped_1 rfl (by decide) rfl ?_
  refine ig_lv (lv' := [(0, .ref q0), (1, .int (nI f)), (2, .int (nI a)), (3, .int (nI a))]) [1, 2, 3, 0] rfl ?_
  rw [hK2] at hv
  exact hv
theorem d_RL_withoutBlanks_0 : decode b_RL_withoutBlanks 0 = .ok (.iload_n 2, 1) := by decide +kernel
theorem d_RL_withoutBlanks_1 : decode b_RL_withoutBlanks 1 = .ok (.istore_n 3, 1) := by decide +kernel
theorem d_RL_withoutBlanks_2 : decode b_RL_withoutBlanks 2 = .ok (.iload_n 3, 1) := by decide +kernel
theorem d_RL_withoutBlanks_3 : decode b_RL_withoutBlanks 3 = .ok (.iload_n 1, 1) := by decide +kernel
theorem d_RL_withoutBlanks_4 : decode b_RL_withoutBlanks 4 = .ok (.if_icmp .le 33, 3) := by decide +kernel
theorem d_RL_withoutBlanks_7 : decode b_RL_withoutBlanks 7 = .ok (.aload_n 0, 1) := by decide +kernel
theorem d_RL_withoutBlanks_8 : decode b_RL_withoutBlanks 8 = .ok (.getfield 9, 3) := by decide +kernel
theorem d_RL_withoutBlanks_11 : decode b_RL_withoutBlanks 11 = .ok (.iload_n 3, 1) := by decide +kernel
theorem d_RL_withoutBlanks_12 : decode b_RL_withoutBlanks 12 = .ok (.iconst 1, 1) := by decide +kernel
theorem d_RL_withoutBlanks_13 : decode b_RL_withoutBlanks 13 = .ok (.isub, 1) := by decide +kernel
theorem d_RL_withoutBlanks_14 : decode b_RL_withoutBlanks 14 = .ok (.caload, 1) := by decide +kernel
theorem d_RL_withoutBlanks_15 : decode b_RL_withoutBlanks 15 = .ok (.bipush 32, 2) := by decide +kernel
theorem d_RL_withoutBlanks_17 : decode b_RL_withoutBlanks 17 = .ok (.if_icmp .ne 20, 3) := by decide +kernel
theorem d_RL_withoutBlanks_20 : decode b_RL_withoutBlanks 20 = .ok (.aload_n 0, 1) := by decide +kernel
theorem d_RL_withoutBlanks_21 : decode b_RL_withoutBlanks 21 = .ok (.iload_n 1, 1) := by decide +kernel
theorem d_RL_withoutBlanks_22 : decode b_RL_withoutBlanks 22 = .ok (.iload_n 3, 1) := by decide +kernel
theorem d_RL_withoutBlanks_23 : decode b_RL_withoutBlanks 23 = .ok (.iconst 1, 1) := by decide +kernel
theorem d_RL_withoutBlanks_24 : decode b_RL_withoutBlanks 24 = .ok (.isub, 1) := by decide +kernel
theorem d_RL_withoutBlanks_25 : decode b_RL_withoutBlanks 25 = .ok (.invokevirtual 40, 3) := by decide +kernel
theorem d_RL_withoutBlanks_28 : decode b_RL_withoutBlanks 28 = .ok (.ifCond .ne 9, 3) := by decide +kernel
theorem d_RL_withoutBlanks_31 : decode b_RL_withoutBlanks 31 = .ok (.iinc 3 (-1), 3) := by decide +kernel
theorem d_RL_withoutBlanks_34 : decode b_RL_withoutBlanks 34 = .ok (.goto (-32), 3) := by decide +kernel
theorem d_RL_withoutBlanks_37 : decode b_RL_withoutBlanks 37 = .ok (.iload_n 3, 1) := by decide +kernel
theorem d_RL_withoutBlanks_38 : decode b_RL_withoutBlanks 38 = .ok (.ireturn, 1) := by decide +kernel
abbrev w_RL_withoutBlanks : List Cond := Cond.code y_RL_withoutBlanks b_RL_withoutBlanks 4 (some .int) :: ig_T
theorem g_RL_withoutBlanks : GoodIn ig_T w_RL_withoutBlanks := ig_T_good (ig_T_mem (List.mem_append_left _ (List.mem_of_getElem? (i := 123) rfl)) rfl)
set_option maxHeartbeats 4000000 in
set_option maxRecDepth 100000 in
theorem c_RL_withoutBlanks (l : Launch) (dC : Nat → ClassId) (dI : Nat → Nat → Nat) (cC cI cZ cL : ClassId) (q0 qt qs qe qb ql : Nat) (nC : Int32) (tT : Nat → Int32) (f : Nat) (a : Nat) (sz : Nat) (hr : r_RL_withoutBlanks tT f a) : Met l y_RL_withoutBlanks w_RL_withoutBlanks ({ frames := 1, cells := 0, slots := 0, locals := 23 }) (ig_Pc (dC, dI) ig_cl0 [(cC, .char), (cI, .int), (cZ, .boolean), (cL, .long)] [.ref q0, .int (nI f), .int (nI a)] [(q0, .inr (ciRL, [.ref qt, .ref qs, .ref qe, .ref qb, .ref ql, .int nC])), (qt, .inl (cC, 1000, .inl tT))] sz) (va_Qi (fun (r : Int32) (u : Unit) => ∃ zr : Nat, r = nI zr ∧ p_RL_withoutBlanks tT f a zr ) (fun u t => va_P (dC, dI) ig_cl0 ((fun (u : Unit) => [(q0, .inr (ciRL, [.ref qt, .ref qs, .ref qe, .ref qb, .ref ql, .int nC])), (qt, .inl (cC, 1000, .inl tT))]) u) t.heap ∧ va_D (va_A [(q0, .inr (ciRL, [.ref qt, .ref qs, .ref qe, .ref qb, .ref ql, .int nC])), (qt, .inl (cC, 1000, .inl tT))] sz) ((fun (u : Unit) => [(q0, .inr (ciRL, [.ref qt, .ref qs, .ref qe, .ref qb, .ref ql, .int nC])), (qt, .inl (cC, 1000, .inl tT))]) u)) (va_A [(q0, .inr (ciRL, [.ref qt, .ref qs, .ref qe, .ref qb, .ref ql, .int nC])), (qt, .inl (cC, 1000, .inl tT))] sz)) 0 0 (va_A [(q0, .inr (ciRL, [.ref qt, .ref qs, .ref qe, .ref qb, .ref ql, .int nC])), (qt, .inl (cC, 1000, .inl tT))] sz) := by
  refine ig_metI (fun (r : Int32) (u : Unit) => ∃ zr : Nat, r = nI zr ∧ p_RL_withoutBlanks tT f a zr ) (fun (u : Unit) => [(q0, .inr (ciRL, [.ref qt, .ref qs, .ref qe, .ref qb, .ref ql, .int nC])), (qt, .inl (cC, 1000, .inl tT))]) (by decide) rfl (Nat.le_of_ble_eq_true rfl) rfl (fun _ _ _ => rfl) ?_
  intro zp ze zs zm zargs zbelow zmeth zc zA zQ hx hb hml hown hts hK hN hA hret
  obtain ⟨K2, hK2⟩ : ∃ K : Nat → Prop, K = fun (b : Nat) => ig_W zp l ze ({ frames := 1, cells := 0, slots := 0, locals := 23 }) zs zm zargs zbelow zmeth zc (dC, dI) ig_cl0 zA zs.heap 4 0 0 zQ 2 [(0, .ref q0), (1, .int (nI f)), (3, .int (nI b))] [] [(q0, .inr (ciRL, [.ref qt, .ref qs, .ref qe, .ref qb, .ref ql, .int nC])), (qt, .inl (cC, 1000, .inl tT))] := ⟨_, rfl⟩
  have k2 : ∀ (b : Nat), v_RL_withoutBlanks_2 tT f a K2 (p_RL_withoutBlanks tT f a) b → K2 b := by
    intro b hv
    unfold v_RL_withoutBlanks_2 at hv
    rw [hK2]
    show ig_W zp l ze ({ frames := 1, cells := 0, slots := 0, locals := 23 }) zs zm zargs zbelow zmeth zc (dC, dI) ig_cl0 zA zs.heap 4 0 0 zQ 2 [(0, .ref q0), (1, .int (nI f)), (3, .int (nI b))] [] [(q0, .inr (ciRL, [.ref qt, .ref qs, .ref qe, .ref qb, .ref ql, .int nC])), (qt, .inl (cC, 1000, .inl tT))]
    refine ig_iload_n hx hb 2 d_RL_withoutBlanks_2 rfl rfl ?_
    refine ig_iload_n hx hb 1 d_RL_withoutBlanks_3 rfl rfl ?_
    obtain ⟨h1, hv⟩ := hv
    obtain ⟨h2, hv⟩ := hv
    refine ig_icmp_leN (tgt := 37) hx hb b f rfl rfl d_RL_withoutBlanks_4 (by decide) h1 h2 (fun h => ?_) (fun h => ?_)
    · have hv := hv.1 h
      refine ig_iload_n hx hb 2 d_RL_withoutBlanks_37 rfl rfl ?_
      exact hret 38 _ (nI b) () d_RL_withoutBlanks_38 ⟨b, rfl, hv⟩
    · have hv := hv.2 h
      refine ig_aload_n hx hb 0 d_RL_withoutBlanks_7 rfl rfl ?_
      refine ig_get hx hb hts in_RL hown hK 0 rfl rfl 0 (by decide) (hts _ kw_0_27) (fun _ h => h) rfl d_RL_withoutBlanks_8 ?_
      refine ig_iload_n hx hb 2 d_RL_withoutBlanks_11 rfl rfl ?_
      refine ig_iconst (v := 1) hx hb d_RL_withoutBlanks_12 (by decide) ?_
      obtain ⟨hc, hv⟩ := hv
      refine ig_isubN hx hb b 1 rfl rfl hc d_RL_withoutBlanks_13 ?_
      obtain ⟨hc, hv⟩ := hv
      refine ig_cald (x := (tT (b - 1))) hx hb hK 1 0 rfl rfl (b - 1) rfl hc (by decide) rfl d_RL_withoutBlanks_14 ?_
      refine ig_bipush (v := 32) hx hb d_RL_withoutBlanks_15 (by decide) ?_
      refine ig_icmp_ne (tgt := 37) hx hb d_RL_withoutBlanks_17 (by decide) (fun h => ?_) (fun h => ?_)
      · have hv := hv.1 h
        refine ig_iload_n hx hb 2 d_RL_withoutBlanks_37 rfl rfl ?_
        exact hret 38 _ (nI b) () d_RL_withoutBlanks_38 ⟨b, rfl, hv⟩
      · have hv := hv.2 h
        refine ig_aload_n hx hb 0 d_RL_withoutBlanks_20 rfl rfl ?_
        refine ig_iload_n hx hb 1 d_RL_withoutBlanks_21 rfl rfl ?_
        refine ig_iload_n hx hb 2 d_RL_withoutBlanks_22 rfl rfl ?_
        refine ig_iconst (v := 1) hx hb d_RL_withoutBlanks_23 (by decide) ?_
        obtain ⟨hc, hv⟩ := hv
        refine ig_isubN hx hb b 1 rfl rfl hc d_RL_withoutBlanks_24 ?_
        obtain ⟨hc, hv⟩ := hv
        refine ig_cVi (As := [.int (nI f), .int (nI (b - 1))]) (rest := []) (wr := []) (ws' := fun u => [(q0, .inr (ciRL, [.ref qt, .ref qs, .ref qe, .ref qb, .ref ql, .int nC])), (qt, .inl (cC, 1000, .inl tT))]) hx hb hml hown hts hK hN hA (fun sz => c_RL_isEscaped l dC dI cC cI cZ cL q0 qt qs qe qb ql nC tT f (b - 1) sz hc) ⟨callB_of 2 hts g_RL_isEscaped rfl rfl rfl (hts _ kw_0_2) (hts _ kw_0_124) (by decide +kernel) (by decide), (hts _ kw_0_126), (hts _ ks_RL_isEscaped)⟩ rfl rfl (Nat.le_of_ble_eq_true rfl) d_RL_withoutBlanks_25 (by decide) 0 rfl rfl [0, 1] [] [0, 1] rfl rfl (by decide) (by decide) (by decide) (fun _ => rfl) (fun _ => rfl) (fun r u hr => ?_)
        obtain ⟨rr, rfl, hr⟩ := hr
        unfold p_RL_isEscaped at hr
        subst hr
        refine ig_if_neB (tgt := 37) hx hb (sp_esc tT f (b - 1)) rfl d_RL_withoutBlanks_28 (by decide) (fun h => ?_) (fun h => ?_)
        · have hv := hv.1 h
          refine ig_iload_n hx hb 2 d_RL_withoutBlanks_37 rfl rfl ?_
          exact hret 38 _ (nI b) () d_RL_withoutBlanks_38 ⟨b, rfl, hv⟩
        · have hv := hv.2 h
          obtain ⟨hc, hv⟩ := hv
          refine ig_iinc (v := (nI (b - 1))) (lv' := [(3, .int (nI (b - 1))), (0, .ref q0), (1, .int (nI f))]) hx hb 2 d_RL_withoutBlanks_31 rfl (ig_dec 1 hc (by decide)) (by decide) rfl ?_
          refine ig_goto (tgt := 2) hx hb d_RL_withoutBlanks_34 (by decide) ?_
          refine ig_lv (lv' := [(0, .ref q0), (1, .int (nI f)), (3, .int (nI (b - 1)))]) [1, 2, 0] rfl ?_
          rw [hK2] at hv
          exact hv
  have hv := t_RL_withoutBlanks tT f a hr K2 k2
  unfold v_RL_withoutBlanks at hv
  refine ig_iload_n hx hb 2 d_RL_withoutBlanks_0 rfl rfl ?_
  refine ig_istore_n (lv' := [(3, .int (nI a)), (0, .ref q0), (1, .int (nI f)), (2, .int (nI a))]) hx hb d_RL_withoutBlanks_1 rfl (by decide) rfl ?_
  refine ig_lv (lv' := [(0, .ref q0), (1, .int (nI f)), (3, .int (nI a))]) [1, 2, 0] rfl ?_
  rw [hK2] at hv
  exact hv
theorem d_RL_endOfName_0 : decode b_RL_endOfName 0 = .ok (.iload_n 1, 1) := by decide +kernel
theorem d_RL_endOfName_1 : decode b_RL_endOfName 1 = .ok (.istore_n 3, 1) := by decide +kernel
theorem d_RL_endOfName_2 : decode b_RL_endOfName 2 = .ok (.iload_n 3, 1) := by decide +kernel
theorem d_RL_endOfName_3 : decode b_RL_endOfName 3 = .ok (.iload_n 2, 1) := by decide +kernel
theorem d_RL_endOfName_4 : decode b_RL_endOfName 4 = .ok (.if_icmp .ge 22, 3) := by decide +kernel
theorem d_RL_endOfName_7 : decode b_RL_endOfName 7 = .ok (.aload_n 0, 1) := by decide +kernel
theorem d_RL_endOfName_8 : decode b_RL_endOfName 8 = .ok (.getfield 9, 3) := by decide +kernel
theorem d_RL_endOfName_11 : decode b_RL_endOfName 11 = .ok (.iload_n 3, 1) := by decide +kernel
theorem d_RL_endOfName_12 : decode b_RL_endOfName 12 = .ok (.caload, 1) := by decide +kernel
theorem d_RL_endOfName_13 : decode b_RL_endOfName 13 = .ok (.bipush 47, 2) := by decide +kernel
theorem d_RL_endOfName_15 : decode b_RL_endOfName 15 = .ok (.if_icmp .ne 5, 3) := by decide +kernel
theorem d_RL_endOfName_18 : decode b_RL_endOfName 18 = .ok (.iload_n 3, 1) := by decide +kernel
theorem d_RL_endOfName_19 : decode b_RL_endOfName 19 = .ok (.ireturn, 1) := by decide +kernel
theorem d_RL_endOfName_20 : decode b_RL_endOfName 20 = .ok (.iinc 3 1, 3) := by decide +kernel
theorem d_RL_endOfName_23 : decode b_RL_endOfName 23 = .ok (.goto (-21), 3) := by decide +kernel
theorem d_RL_endOfName_26 : decode b_RL_endOfName 26 = .ok (.iload_n 2, 1) := by decide +kernel
theorem d_RL_endOfName_27 : decode b_RL_endOfName 27 = .ok (.ireturn, 1) := by decide +kernel
abbrev w_RL_endOfName : List Cond := Cond.code y_RL_endOfName b_RL_endOfName 4 (some .int) :: ig_T
theorem g_RL_endOfName : GoodIn ig_T w_RL_endOfName := ig_T_good (ig_T_mem (List.mem_append_left _ (List.mem_of_getElem? (i := 135) rfl)) rfl)
set_option maxHeartbeats 4000000 in
set_option maxRecDepth 100000 in
theorem c_RL_endOfName (l : Launch) (dC : Nat → ClassId) (dI : Nat → Nat → Nat) (cC cI cZ cL : ClassId) (q0 qt qs qe qb ql : Nat) (nC : Int32) (tT : Nat → Int32) (f : Nat) (a : Nat) (sz : Nat) (hr : r_RL_endOfName tT f a) : Met l y_RL_endOfName w_RL_endOfName ({ frames := 0, cells := 0, slots := 0, locals := 0 }) (ig_Pc (dC, dI) ig_cl0 [(cC, .char), (cI, .int), (cZ, .boolean), (cL, .long)] [.ref q0, .int (nI f), .int (nI a)] [(q0, .inr (ciRL, [.ref qt, .ref qs, .ref qe, .ref qb, .ref ql, .int nC])), (qt, .inl (cC, 1000, .inl tT))] sz) (va_Qi (fun (r : Int32) (u : Unit) => ∃ zr : Nat, r = nI zr ∧ p_RL_endOfName tT f a zr ) (fun u t => va_P (dC, dI) ig_cl0 ((fun (u : Unit) => [(q0, .inr (ciRL, [.ref qt, .ref qs, .ref qe, .ref qb, .ref ql, .int nC])), (qt, .inl (cC, 1000, .inl tT))]) u) t.heap ∧ va_D (va_A [(q0, .inr (ciRL, [.ref qt, .ref qs, .ref qe, .ref qb, .ref ql, .int nC])), (qt, .inl (cC, 1000, .inl tT))] sz) ((fun (u : Unit) => [(q0, .inr (ciRL, [.ref qt, .ref qs, .ref qe, .ref qb, .ref ql, .int nC])), (qt, .inl (cC, 1000, .inl tT))]) u)) (va_A [(q0, .inr (ciRL, [.ref qt, .ref qs, .ref qe, .ref qb, .ref ql, .int nC])), (qt, .inl (cC, 1000, .inl tT))] sz)) 0 0 (va_A [(q0, .inr (ciRL, [.ref qt, .ref qs, .ref qe, .ref qb, .ref ql, .int nC])), (qt, .inl (cC, 1000, .inl tT))] sz) := by
  refine ig_metI (fun (r : Int32) (u : Unit) => ∃ zr : Nat, r = nI zr ∧ p_RL_endOfName tT f a zr ) (fun (u : Unit) => [(q0, .inr (ciRL, [.ref qt, .ref qs, .ref qe, .ref qb, .ref ql, .int nC])), (qt, .inl (cC, 1000, .inl tT))]) (by decide) rfl (Nat.le_of_ble_eq_true rfl) rfl (fun _ _ _ => rfl) ?_
  intro zp ze zs zm zargs zbelow zmeth zc zA zQ hx hb hml hown hts hK hN hA hret
  obtain ⟨K2, hK2⟩ : ∃ K : Nat → Prop, K = fun (b : Nat) => ig_W zp l ze ({ frames := 0, cells := 0, slots := 0, locals := 0 }) zs zm zargs zbelow zmeth zc (dC, dI) ig_cl0 zA zs.heap 4 0 0 zQ 2 [(0, .ref q0), (2, .int (nI a)), (3, .int (nI b))] [] [(q0, .inr (ciRL, [.ref qt, .ref qs, .ref qe, .ref qb, .ref ql, .int nC])), (qt, .inl (cC, 1000, .inl tT))] := ⟨_, rfl⟩
  have k2 : ∀ (b : Nat), v_RL_endOfName_2 tT f a K2 (p_RL_endOfName tT f a) b → K2 b := by
    intro b hv
    unfold v_RL_endOfName_2 at hv
    rw [hK2]
    show ig_W zp l ze ({ frames := 0, cells := 0, slots := 0, locals := 0 }) zs zm zargs zbelow zmeth zc (dC, dI) ig_cl0 zA zs.heap 4 0 0 zQ 2 [(0, .ref q0), (2, .int (nI a)), (3, .int (nI b))] [] [(q0, .inr (ciRL, [.ref qt, .ref qs, .ref qe, .ref qb, .ref ql, .int nC])), (qt, .inl (cC, 1000, .inl tT))]
    refine ig_iload_n hx hb 2 d_RL_endOfName_2 rfl rfl ?_
    refine ig_iload_n hx hb 1 d_RL_endOfName_3 rfl rfl ?_
    obtain ⟨h1, hv⟩ := hv
    obtain ⟨h2, hv⟩ := hv
    refine ig_icmp_geN (tgt := 26) hx hb b a rfl rfl d_RL_endOfName_4 (by decide) h1 h2 (fun h => ?_) (fun h => ?_)
    · have hv := hv.1 h
      refine ig_iload_n hx hb 1 d_RL_endOfName_26 rfl rfl ?_
      exact hret 27 _ (nI a) () d_RL_endOfName_27 ⟨a, rfl, hv⟩
    · have hv := hv.2 h
      refine ig_aload_n hx hb 0 d_RL_endOfName_7 rfl rfl ?_
      refine ig_get hx hb hts in_RL hown hK 0 rfl rfl 0 (by decide) (hts _ kw_0_27) (fun _ h => h) rfl d_RL_endOfName_8 ?_
      refine ig_iload_n hx hb 2 d_RL_endOfName_11 rfl rfl ?_
      obtain ⟨hc, hv⟩ := hv
      refine ig_cald (x := (tT b)) hx hb hK 1 0 rfl rfl b rfl hc (by decide) rfl d_RL_endOfName_12 ?_
      refine ig_bipush (v := 47) hx hb d_RL_endOfName_13 (by decide) ?_
      refine ig_icmp_ne (tgt := 20) hx hb d_RL_endOfName_15 (by decide) (fun h => ?_) (fun h => ?_)
      · have hv := hv.1 h
        refine ig_iinc (v := (nI (b + 1))) (lv' := [(3, .int (nI (b + 1))), (0, .ref q0), (2, .int (nI a))]) hx hb 2 d_RL_endOfName_20 rfl (ig_inc b 1 (by decide)) (by decide) rfl ?_
        refine ig_goto (tgt := 2) hx hb d_RL_endOfName_23 (by decide) ?_
        refine ig_lv (lv' := [(0, .ref q0), (2, .int (nI a)), (3, .int (nI (b + 1)))]) [1, 2, 0] rfl ?_
        rw [hK2] at hv
        exact hv
      · have hv := hv.2 h
        refine ig_iload_n hx hb 2 d_RL_endOfName_18 rfl rfl ?_
        exact hret 19 _ (nI b) () d_RL_endOfName_19 ⟨b, rfl, hv⟩
  have hv := t_RL_endOfName tT f a hr K2 k2
  unfold v_RL_endOfName at hv
  refine ig_iload_n hx hb 1 d_RL_endOfName_0 rfl rfl ?_
  refine ig_istore_n (lv' := [(3, .int (nI f)), (0, .ref q0), (1, .int (nI f)), (2, .int (nI a))]) hx hb d_RL_endOfName_1 rfl (by decide) rfl ?_
  refine ig_lv (lv' := [(0, .ref q0), (2, .int (nI a)), (3, .int (nI f))]) [1, 3, 0] rfl ?_
  rw [hK2] at hv
  exact hv
