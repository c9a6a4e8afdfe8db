theorem kw_1_21 : Cond.instanceMethod y_RL_countNames ∈ ig_T := ig_T_mem (List.mem_append_right _ (List.mem_append_left _ (List.mem_of_getElem? (i := 21) rfl))) rfl
theorem d_IR_rule_0 : decode b_IR_rule 0 = .ok (.aload_n 0, 1) := by decide +kernel
theorem d_IR_rule_1 : decode b_IR_rule 1 = .ok (.iload_n 1, 1) := by decide +kernel
theorem d_IR_rule_2 : decode b_IR_rule 2 = .ok (.invokevirtual 57, 3) := by decide +kernel
theorem d_IR_rule_5 : decode b_IR_rule 5 = .ok (.iload_n 2, 1) := by decide +kernel
theorem d_IR_rule_6 : decode b_IR_rule 6 = .ok (.ifCond .ne 13, 3) := by decide +kernel
theorem d_IR_rule_9 : decode b_IR_rule 9 = .ok (.aload_n 0, 1) := by decide +kernel
theorem d_IR_rule_10 : decode b_IR_rule 10 = .ok (.getfield 16, 3) := by decide +kernel
theorem d_IR_rule_13 : decode b_IR_rule 13 = .ok (.getfield 61, 3) := by decide +kernel
theorem d_IR_rule_16 : decode b_IR_rule 16 = .ok (.iload_n 1, 1) := by decide +kernel
theorem d_IR_rule_17 : decode b_IR_rule 17 = .ok (.iaload, 1) := by decide +kernel
theorem d_IR_rule_18 : decode b_IR_rule 18 = .ok (.ireturn, 1) := by decide +kernel
theorem d_IR_rule_19 : decode b_IR_rule 19 = .ok (.iload_n 2, 1) := by decide +kernel
theorem d_IR_rule_20 : decode b_IR_rule 20 = .ok (.iconst 1, 1) := by decide +kernel
theorem d_IR_rule_21 : decode b_IR_rule 21 = .ok (.if_icmp .ne 12, 3) := by decide +kernel
theorem d_IR_rule_24 : decode b_IR_rule 24 = .ok (.aload_n 0, 1) := by decide +kernel
theorem d_IR_rule_25 : decode b_IR_rule 25 = .ok (.getfield 16, 3) := by decide +kernel
theorem d_IR_rule_28 : decode b_IR_rule 28 = .ok (.iload_n 1, 1) := by decide +kernel
theorem d_IR_rule_29 : decode b_IR_rule 29 = .ok (.invokevirtual 65, 3) := by decide +kernel
theorem d_IR_rule_32 : decode b_IR_rule 32 = .ok (.ireturn, 1) := by decide +kernel
theorem d_IR_rule_33 : decode b_IR_rule 33 = .ok (.iload_n 2, 1) := by decide +kernel
theorem d_IR_rule_34 : decode b_IR_rule 34 = .ok (.iconst 2, 1) := by decide +kernel
theorem d_IR_rule_35 : decode b_IR_rule 35 = .ok (.if_icmp .ne 13, 3) := by decide +kernel
theorem d_IR_rule_38 : decode b_IR_rule 38 = .ok (.aload_n 0, 1) := by decide +kernel
theorem d_IR_rule_39 : decode b_IR_rule 39 = .ok (.getfield 16, 3) := by decide +kernel
theorem d_IR_rule_42 : decode b_IR_rule 42 = .ok (.getfield 69, 3) := by decide +kernel
theorem d_IR_rule_45 : decode b_IR_rule 45 = .ok (.iload_n 1, 1) := by decide +kernel
theorem d_IR_rule_46 : decode b_IR_rule 46 = .ok (.iaload, 1) := by decide +kernel
theorem d_IR_rule_47 : decode b_IR_rule 47 = .ok (.ireturn, 1) := by decide +kernel
theorem d_IR_rule_48 : decode b_IR_rule 48 = .ok (.new 37, 3) := by decide +kernel
theorem d_IR_rule_51 : decode b_IR_rule 51 = .ok (.dup, 1) := by decide +kernel
theorem d_IR_rule_52 : decode b_IR_rule 52 = .ok (.ldc 72, 2) := by decide +kernel
theorem d_IR_rule_54 : decode b_IR_rule 54 = .ok (.invokespecial 41, 3) := by decide +kernel
theorem d_IR_rule_57 : decode b_IR_rule 57 = .ok (.athrow, 1) := by decide +kernel
abbrev w_IR_rule : List Cond := Cond.code y_IR_rule b_IR_rule 3 (some .int) :: ig_T
theorem g_IR_rule : GoodIn ig_T w_IR_rule := ig_T_good (ig_T_mem (List.mem_append_left _ (List.mem_of_getElem? (i := 238) rfl)) rfl)
set_option maxHeartbeats 4000000 in
set_option maxRecDepth 100000 in
theorem c_IR_rule (l : Launch) (dC : Nat → ClassId) (dI : Nat → Nat → Nat) (cC cI cZ cL : ClassId) (x0 qT q0 s0 p0 m0 qt qs qe qb ql : Nat) (tl : Int32) (tT : Nat → Int32) (aS : Nat → Nat) (aE : Nat → Nat) (aB : Nat → Nat) (aL : Nat → Nat) (nC : Nat) (x : Int32) (y : Int32) (sz : Nat) (hr : r_IR_rule tT aS aE aB aL nC x y) : Met l y_IR_rule w_IR_rule ({ frames := 1, cells := 0, slots := 0, locals := 23 }) (ig_Pc (dC, dI) ig_cl0 [(cC, .char), (cI, .int), (cZ, .boolean), (cL, .long)] [.ref x0, .int x, .int y] [(x0, .inr (ciIR, [.ref qT, .int tl, .ref q0, .ref s0, .ref p0, .ref m0])), (q0, .inr (ciRL, [.ref qt, .ref qs, .ref qe, .ref qb, .ref ql, .int (nI nC)])), (qt, .inl (cC, 1000, .inl tT)), (qs, .inl (cI, 60, .inl (fun zj => nI (aS zj)))), (qe, .inl (cI, 60, .inl (fun zj => nI (aE zj)))), (qb, .inl (cI, 60, .inl (fun zj => nI (aB zj)))), (ql, .inl (cI, 60, .inl (fun zj => nI (aL zj))))] sz) (va_Qi (fun (r : Int32) (u : Unit) => ∃ zr : Nat, r = nI zr ∧ p_IR_rule tT aS aE aB aL nC x y zr ) (fun u t => va_P (dC, dI) ig_cl0 ((fun (u : Unit) => [(x0, .inr (ciIR, [.ref qT, .int tl, .ref q0, .ref s0, .ref p0, .ref m0])), (q0, .inr (ciRL, [.ref qt, .ref qs, .ref qe, .ref qb, .ref ql, .int (nI nC)])), (qt, .inl (cC, 1000, .inl tT)), (qs, .inl (cI, 60, .inl (fun zj => nI (aS zj)))), (qe, .inl (cI, 60, .inl (fun zj => nI (aE zj)))), (qb, .inl (cI, 60, .inl (fun zj => nI (aB zj)))), (ql, .inl (cI, 60, .inl (fun zj => nI (aL zj))))]) u) t.heap ∧ va_D (va_A [(x0, .inr (ciIR, [.ref qT, .int tl, .ref q0, .ref s0, .ref p0, .ref m0])), (q0, .inr (ciRL, [.ref qt, .ref qs, .ref qe, .ref qb, .ref ql, .int (nI nC)])), (qt, .inl (cC, 1000, .inl tT)), (qs, .inl (cI, 60, .inl (fun zj => nI (aS zj)))), (qe, .inl (cI, 60, .inl (fun zj => nI (aE zj)))), (qb, .inl (cI, 60, .inl (fun zj => nI (aB zj)))), (ql, .inl (cI, 60, .inl (fun zj => nI (aL zj))))] sz) ((fun (u : Unit) => [(x0, .inr (ciIR, [.ref qT, .int tl, .ref q0, .ref s0, .ref p0, .ref m0])), (q0, .inr (ciRL, [.ref qt, .ref qs, .ref qe, .ref qb, .ref ql, .int (nI nC)])), (qt, .inl (cC, 1000, .inl tT)), (qs, .inl (cI, 60, .inl (fun zj => nI (aS zj)))), (qe, .inl (cI, 60, .inl (fun zj => nI (aE zj)))), (qb, .inl (cI, 60, .inl (fun zj => nI (aB zj)))), (ql, .inl (cI, 60, .inl (fun zj => nI (aL zj))))]) u)) (va_A [(x0, .inr (ciIR, [.ref qT, .int tl, .ref q0, .ref s0, .ref p0, .ref m0])), (q0, .inr (ciRL, [.ref qt, .ref qs, .ref qe, .ref qb, .ref ql, .int (nI nC)])), (qt, .inl (cC, 1000, .inl tT)), (qs, .inl (cI, 60, .inl (fun zj => nI (aS zj)))), (qe, .inl (cI, 60, .inl (fun zj => nI (aE zj)))), (qb, .inl (cI, 60, .inl (fun zj => nI (aB zj)))), (ql, .inl (cI, 60, .inl (fun zj => nI (aL zj))))] sz)) 0 0 (va_A [(x0, .inr (ciIR, [.ref qT, .int tl, .ref q0, .ref s0, .ref p0, .ref m0])), (q0, .inr (ciRL, [.ref qt, .ref qs, .ref qe, .ref qb, .ref ql, .int (nI nC)])), (qt, .inl (cC, 1000, .inl tT)), (qs, .inl (cI, 60, .inl (fun zj => nI (aS zj)))), (qe, .inl (cI, 60, .inl (fun zj => nI (aE zj)))), (qb, .inl (cI, 60, .inl (fun zj => nI (aB zj)))), (ql, .inl (cI, 60, .inl (fun zj => nI (aL zj))))] sz) := by
  refine ig_metI (fun (r : Int32) (u : Unit) => ∃ zr : Nat, r = nI zr ∧ p_IR_rule tT aS aE aB aL nC x y zr ) (fun (u : Unit) => [(x0, .inr (ciIR, [.ref qT, .int tl, .ref q0, .ref s0, .ref p0, .ref m0])), (q0, .inr (ciRL, [.ref qt, .ref qs, .ref qe, .ref qb, .ref ql, .int (nI nC)])), (qt, .inl (cC, 1000, .inl tT)), (qs, .inl (cI, 60, .inl (fun zj => nI (aS zj)))), (qe, .inl (cI, 60, .inl (fun zj => nI (aE zj)))), (qb, .inl (cI, 60, .inl (fun zj => nI (aB zj)))), (ql, .inl (cI, 60, .inl (fun zj => nI (aL zj))))]) (by decide) rfl (Nat.le_of_ble_eq_true rfl) rfl (fun _ _ _ => rfl) ?_
  intro zp ze zs zm zargs zbelow zmeth zc zA zQ hx hb hml hown hts hK hN hA hret
  have hv := t_IR_rule tT aS aE aB aL nC x y hr 
  unfold v_IR_rule at hv
  refine ig_aload_n hx hb 0 d_IR_rule_0 rfl rfl ?_
  refine ig_iload_n hx hb 1 d_IR_rule_1 rfl rfl ?_
  obtain ⟨hc, hv⟩ := hv
  refine ig_cVv (As := [.int x]) (rest := []) (wr := [(qt, .inl (cC, 1000, .inl tT)), (qs, .inl (cI, 60, .inl (fun zj => nI (aS zj)))), (qe, .inl (cI, 60, .inl (fun zj => nI (aE zj)))), (qb, .inl (cI, 60, .inl (fun zj => nI (aB zj)))), (ql, .inl (cI, 60, .inl (fun zj => nI (aL zj))))]) (ws' := fun u => [(x0, .inr (ciIR, [.ref qT, .int tl, .ref q0, .ref s0, .ref p0, .ref m0])), (q0, .inr (ciRL, [.ref qt, .ref qs, .ref qe, .ref qb, .ref ql, .int (nI nC)])), (qt, .inl (cC, 1000, .inl tT)), (qs, .inl (cI, 60, .inl (fun zj => nI (aS zj)))), (qe, .inl (cI, 60, .inl (fun zj => nI (aE zj)))), (qb, .inl (cI, 60, .inl (fun zj => nI (aB zj)))), (ql, .inl (cI, 60, .inl (fun zj => nI (aL zj))))]) hx hb hml hown hts hK hN hA (fun sz => c_IR_requireRule l dC dI cC cI cZ cL x0 qT q0 s0 p0 m0 qt qs qe qb ql tl nC x sz hc) ⟨callB_of 1 hts g_IR_requireRule rfl rfl rfl (hts _ kw_0_1) (hts _ kw_0_239) (by decide +kernel) (by decide), (hts _ kw_1_1), (hts _ ks_IR_requireRule)⟩ rfl rfl (Nat.le_of_ble_eq_true rfl) d_IR_rule_2 (by decide) 0 rfl rfl [0, 1] [2, 3, 4, 5, 6] [5, 6, 0, 1, 2, 3, 4] rfl rfl (by decide) (by decide) (by decide) (fun _ => rfl) (fun _ => rfl) (fun u hr => ?_)
  unfold p_IR_requireRule at hr
  refine ig_iload_n hx hb 2 d_IR_rule_5 rfl rfl ?_
  refine ig_if_ne (tgt := 19) hx hb d_IR_rule_6 (by decide) (fun h => ?_) (fun h => ?_)
  · have hv := hv.1 h
    refine ig_iload_n hx hb 2 d_IR_rule_19 rfl rfl ?_
    refine ig_iconst (v := 1) hx hb d_IR_rule_20 (by decide) ?_
    refine ig_icmp_ne (tgt := 33) hx hb d_IR_rule_21 (by decide) (fun h => ?_) (fun h => ?_)
    · have hv := hv.1 h
      refine ig_iload_n hx hb 2 d_IR_rule_33 rfl rfl ?_
      refine ig_iconst (v := 2) hx hb d_IR_rule_34 (by decide) ?_
      refine ig_icmp_ne (tgt := 48) hx hb d_IR_rule_35 (by decide) (fun h => ?_) (fun h => ?_)
      · have hv := hv.1 h
        exact False.elim hv
      · have hv := hv.2 h
        refine ig_aload_n hx hb 0 d_IR_rule_38 rfl rfl ?_
        refine ig_get hx hb hts in_IR hown hK 0 rfl rfl 2 (by decide) (hts _ kw_0_91) (fun _ h => h) rfl d_IR_rule_39 ?_
        refine ig_getN hx hb hts in_RL hown hK 1 rfl rfl 4 (by decide) (va_Nw.use rfl (fk_6 hN)) (fun _ h => h) rfl d_IR_rule_42 ?_
        refine ig_iload_n hx hb 1 d_IR_rule_45 rfl rfl ?_
        obtain ⟨i1, he, hv⟩ := hv
        rw [he]
        obtain ⟨hc, hv⟩ := hv
        refine ig_iald (x := (nI (aL i1))) hx hb hK 6 1 rfl rfl i1 rfl hc (by decide) rfl d_IR_rule_46 ?_
        exact hret 47 _ (nI (aL i1)) () d_IR_rule_47 ⟨aL i1, rfl, hv⟩
    · have hv := hv.2 h
      refine ig_aload_n hx hb 0 d_IR_rule_24 rfl rfl ?_
      refine ig_get hx hb hts in_IR hown hK 0 rfl rfl 2 (by decide) (hts _ kw_0_91) (fun _ h => h) rfl d_IR_rule_25 ?_
      refine ig_iload_n hx hb 1 d_IR_rule_28 rfl rfl ?_
      obtain ⟨i2, he, hv⟩ := hv
      rw [he]
      obtain ⟨hc, hv⟩ := hv
      refine ig_cVNi (As := [.int (nI i2)]) (rest := []) (wr := [(x0, .inr (ciIR, [.ref qT, .int tl, .ref q0, .ref s0, .ref p0, .ref m0])), (qb, .inl (cI, 60, .inl (fun zj => nI (aB zj)))), (ql, .inl (cI, 60, .inl (fun zj => nI (aL zj))))]) (ws' := fun u => [(x0, .inr (ciIR, [.ref qT, .int tl, .ref q0, .ref s0, .ref p0, .ref m0])), (q0, .inr (ciRL, [.ref qt, .ref qs, .ref qe, .ref qb, .ref ql, .int (nI nC)])), (qt, .inl (cC, 1000, .inl tT)), (qs, .inl (cI, 60, .inl (fun zj => nI (aS zj)))), (qe, .inl (cI, 60, .inl (fun zj => nI (aE zj)))), (qb, .inl (cI, 60, .inl (fun zj => nI (aB zj)))), (ql, .inl (cI, 60, .inl (fun zj => nI (aL zj))))]) hx hb hml hown hts hK hN hA (fun sz => c_RL_countNames l dC dI cC cI cZ cL q0 qt qs qe qb ql (nI nC) tT aS aE i2 sz hc) ⟨va_cnB 1 hts g_RL_countNames rfl rfl rfl (nk_6 hN) (hts _ kw_0_2) (by decide +kernel) (by decide), (hts _ kw_1_21), (hts _ ks_RL_countNames)⟩ rfl rfl (Nat.le_of_ble_eq_true rfl) d_IR_rule_29 (by decide) 0 rfl rfl [1, 2, 3, 4] [0, 5, 6] [0, 3, 4, 5, 6, 1, 2] rfl rfl (by decide) (by decide) (by decide) (fun _ => rfl) (fun _ => rfl) (fun r u hr => ?_)
      obtain ⟨rr, rfl, hr⟩ := hr
      unfold p_RL_countNames at hr
      subst hr
      exact hret 32 _ (nI (1 + sp_cnt tT (aE i2) (aS i2))) () d_IR_rule_32 ⟨1 + sp_cnt tT (aE i2) (aS i2), rfl, hv⟩
  · have hv := hv.2 h
    refine ig_aload_n hx hb 0 d_IR_rule_9 rfl rfl ?_
    refine ig_get hx hb hts in_IR hown hK 0 rfl rfl 2 (by decide) (hts _ kw_0_91) (fun _ h => h) rfl d_IR_rule_10 ?_
    refine ig_getN hx hb hts in_RL hown hK 1 rfl rfl 3 (by decide) (va_Nw.use rfl (fk_5 hN)) (fun _ h => h) rfl d_IR_rule_13 ?_
    refine ig_iload_n hx hb 1 d_IR_rule_16 rfl rfl ?_
    obtain ⟨i3, he, hv⟩ := hv
    rw [he]
    obtain ⟨hc, hv⟩ := hv
    refine ig_iald (x := (nI (aB i3))) hx hb hK 5 1 rfl rfl i3 rfl hc (by decide) rfl d_IR_rule_17 ?_
    exact hret 18 _ (nI (aB i3)) () d_IR_rule_18 ⟨aB i3, rfl, hv⟩
