theorem kw_1_132 : Cond.instanceMethod y_RL_nameStart ∈ ig_T := ig_T_mem (List.mem_append_right _ (List.mem_append_left _ (List.mem_of_getElem? (i := 132) rfl))) rfl
theorem kw_1_136 : Cond.instanceMethod y_RL_nameEnd ∈ ig_T := ig_T_mem (List.mem_append_right _ (List.mem_append_left _ (List.mem_of_getElem? (i := 136) rfl))) rfl
theorem d_IR_name_0 : decode b_IR_name 0 = .ok (.aload_n 0, 1) := by decide +kernel
theorem d_IR_name_1 : decode b_IR_name 1 = .ok (.iload_n 1, 1) := by decide +kernel
theorem d_IR_name_2 : decode b_IR_name 2 = .ok (.invokevirtual 57, 3) := by decide +kernel
theorem d_IR_name_5 : decode b_IR_name 5 = .ok (.iload_n 2, 1) := by decide +kernel
theorem d_IR_name_6 : decode b_IR_name 6 = .ok (.ifCond .lt 15, 3) := by decide +kernel
theorem d_IR_name_9 : decode b_IR_name 9 = .ok (.iload_n 2, 1) := by decide +kernel
theorem d_IR_name_10 : decode b_IR_name 10 = .ok (.aload_n 0, 1) := by decide +kernel
theorem d_IR_name_11 : decode b_IR_name 11 = .ok (.getfield 16, 3) := by decide +kernel
theorem d_IR_name_14 : decode b_IR_name 14 = .ok (.iload_n 1, 1) := by decide +kernel
theorem d_IR_name_15 : decode b_IR_name 15 = .ok (.invokevirtual 65, 3) := by decide +kernel
theorem d_IR_name_18 : decode b_IR_name 18 = .ok (.if_icmp .lt 13, 3) := by decide +kernel
theorem d_IR_name_21 : decode b_IR_name 21 = .ok (.new 95, 3) := by decide +kernel
theorem d_IR_name_24 : decode b_IR_name 24 = .ok (.dup, 1) := by decide +kernel
theorem d_IR_name_25 : decode b_IR_name 25 = .ok (.ldc 97, 2) := by decide +kernel
theorem d_IR_name_27 : decode b_IR_name 27 = .ok (.invokespecial 99, 3) := by decide +kernel
theorem d_IR_name_30 : decode b_IR_name 30 = .ok (.athrow, 1) := by decide +kernel
theorem d_IR_name_31 : decode b_IR_name 31 = .ok (.aload_n 0, 1) := by decide +kernel
theorem d_IR_name_32 : decode b_IR_name 32 = .ok (.invokevirtual 76, 3) := by decide +kernel
theorem d_IR_name_35 : decode b_IR_name 35 = .ok (.iload_n 3, 1) := by decide +kernel
theorem d_IR_name_36 : decode b_IR_name 36 = .ok (.ifCond .lt 14, 3) := by decide +kernel
theorem d_IR_name_39 : decode b_IR_name 39 = .ok (.iload_n 3, 1) := by decide +kernel
theorem d_IR_name_40 : decode b_IR_name 40 = .ok (.aload_n 0, 1) := by decide +kernel
theorem d_IR_name_41 : decode b_IR_name 41 = .ok (.getfield 26, 3) := by decide +kernel
theorem d_IR_name_44 : decode b_IR_name 44 = .ok (.getfield 75, 3) := by decide +kernel
theorem d_IR_name_47 : decode b_IR_name 47 = .ok (.if_icmp .lt 13, 3) := by decide +kernel
theorem d_IR_name_50 : decode b_IR_name 50 = .ok (.new 95, 3) := by decide +kernel
theorem d_IR_name_53 : decode b_IR_name 53 = .ok (.dup, 1) := by decide +kernel
theorem d_IR_name_54 : decode b_IR_name 54 = .ok (.ldc 100, 2) := by decide +kernel
theorem d_IR_name_56 : decode b_IR_name 56 = .ok (.invokespecial 99, 3) := by decide +kernel
theorem d_IR_name_59 : decode b_IR_name 59 = .ok (.athrow, 1) := by decide +kernel
theorem d_IR_name_60 : decode b_IR_name 60 = .ok (.aload_n 0, 1) := by decide +kernel
theorem d_IR_name_61 : decode b_IR_name 61 = .ok (.getfield 16, 3) := by decide +kernel
theorem d_IR_name_64 : decode b_IR_name 64 = .ok (.iload_n 1, 1) := by decide +kernel
theorem d_IR_name_65 : decode b_IR_name 65 = .ok (.iload_n 2, 1) := by decide +kernel
theorem d_IR_name_66 : decode b_IR_name 66 = .ok (.invokevirtual 102, 3) := by decide +kernel
theorem d_IR_name_69 : decode b_IR_name 69 = .ok (.istore 4, 2) := by decide +kernel
theorem d_IR_name_71 : decode b_IR_name 71 = .ok (.aload_n 0, 1) := by decide +kernel
theorem d_IR_name_72 : decode b_IR_name 72 = .ok (.getfield 33, 3) := by decide +kernel
theorem d_IR_name_75 : decode b_IR_name 75 = .ok (.aload_n 0, 1) := by decide +kernel
theorem d_IR_name_76 : decode b_IR_name 76 = .ok (.getfield 16, 3) := by decide +kernel
theorem d_IR_name_79 : decode b_IR_name 79 = .ok (.getfield 106, 3) := by decide +kernel
theorem d_IR_name_82 : decode b_IR_name 82 = .ok (.iload 4, 2) := by decide +kernel
theorem d_IR_name_84 : decode b_IR_name 84 = .ok (.aload_n 0, 1) := by decide +kernel
theorem d_IR_name_85 : decode b_IR_name 85 = .ok (.getfield 16, 3) := by decide +kernel
theorem d_IR_name_88 : decode b_IR_name 88 = .ok (.iload_n 1, 1) := by decide +kernel
theorem d_IR_name_89 : decode b_IR_name 89 = .ok (.iload 4, 2) := by decide +kernel
theorem d_IR_name_91 : decode b_IR_name 91 = .ok (.invokevirtual 109, 3) := by decide +kernel
theorem d_IR_name_94 : decode b_IR_name 94 = .ok (.aload_n 0, 1) := by decide +kernel
theorem d_IR_name_95 : decode b_IR_name 95 = .ok (.getfield 26, 3) := by decide +kernel
theorem d_IR_name_98 : decode b_IR_name 98 = .ok (.iload_n 3, 1) := by decide +kernel
theorem d_IR_name_99 : decode b_IR_name 99 = .ok (.invokevirtual 112, 3) := by decide +kernel
theorem d_IR_name_102 : decode b_IR_name 102 = .ok (.ireturn, 1) := by decide +kernel
abbrev w_IR_name : List Cond := Cond.code y_IR_name b_IR_name 5 (some .boolean) :: ig_T
theorem g_IR_name : GoodIn ig_T w_IR_name := ig_T_good (ig_T_mem (List.mem_append_right _ (List.mem_append_left _ (List.mem_of_getElem? (i := 127) rfl))) rfl)
set_option maxHeartbeats 4000000 in
set_option maxRecDepth 100000 in
theorem c_IR_name (l : Launch) (dC : Nat → ClassId) (dI : Nat → Nat → Nat) (cC cI cZ cL : ClassId) (x0 qT q0 s0 p0 m0 mn mb qt qs qe qb ql pb ps : Nat) (tl : Int32) (mN : Nat → Bool) (mB : Nat → Bool) (tT : Nat → Int32) (aS : Nat → Nat) (aE : Nat → Nat) (aB : Nat → Nat) (pB : Nat → Int32) (pS : Nat → Nat) (nC : Nat) (pC : Nat) (x : Int32) (y : Int32) (z : Int32) (sz : Nat) (hr : r_IR_name mN mB tT aS aE aB pB pS nC pC x y z) : Met l y_IR_name w_IR_name ({ frames := 2, cells := 0, slots := 0, locals := 59 }) (ig_Pc (dC, dI) ig_cl0 [(cC, .char), (cI, .int), (cZ, .boolean), (cL, .long)] [.ref x0, .int x, .int y, .int z] [(x0, .inr (ciIR, [.ref qT, .int tl, .ref q0, .ref s0, .ref p0, .ref m0])), (m0, .inr (ciMA, [.ref mn, .ref mb])), (mn, .inl (cZ, 21, .inl (fun zj => bI (mN zj)))), (mb, .inl (cZ, 121, .inl (fun zj => bI (mB zj)))), (q0, .inr (ciRL, [.ref qt, .ref qs, .ref qe, .ref qb, .ref ql, .int (nI nC)])), (qt, .inl (cC, 1000, .inl tT)), (qs, .inl (cI, 60, .inl (fun zj => nI (aS zj)))), (qe, .inl (cI, 60, .inl (fun zj => nI (aE zj)))), (qb, .inl (cI, 60, .inl (fun zj => nI (aB zj)))), (p0, .inr (ciPA, [.ref pb, .ref ps, .int (nI pC)])), (pb, .inl (cC, 120, .inl pB)), (ps, .inl (cI, 21, .inl (fun zj => nI (pS zj))))] sz) (va_Qi (fun (r : Int32) (u : (Nat → Bool)) => ∃ zr : Bool, r = bI zr ∧ p_IR_name mN mB tT aS aE aB pB pS nC pC x y z zr u) (fun u t => va_P (dC, dI) ig_cl0 ((fun (u : (Nat → Bool)) => [(x0, .inr (ciIR, [.ref qT, .int tl, .ref q0, .ref s0, .ref p0, .ref m0])), (m0, .inr (ciMA, [.ref mn, .ref mb])), (mn, .inl (cZ, 21, .inl (fun zj => bI (mN zj)))), (mb, .inl (cZ, 121, .inl (fun zj => bI (u zj)))), (q0, .inr (ciRL, [.ref qt, .ref qs, .ref qe, .ref qb, .ref ql, .int (nI nC)])), (qt, .inl (cC, 1000, .inl tT)), (qs, .inl (cI, 60, .inl (fun zj => nI (aS zj)))), (qe, .inl (cI, 60, .inl (fun zj => nI (aE zj)))), (qb, .inl (cI, 60, .inl (fun zj => nI (aB zj)))), (p0, .inr (ciPA, [.ref pb, .ref ps, .int (nI pC)])), (pb, .inl (cC, 120, .inl pB)), (ps, .inl (cI, 21, .inl (fun zj => nI (pS zj))))]) u) t.heap ∧ va_D (va_A [(x0, .inr (ciIR, [.ref qT, .int tl, .ref q0, .ref s0, .ref p0, .ref m0])), (m0, .inr (ciMA, [.ref mn, .ref mb])), (mn, .inl (cZ, 21, .inl (fun zj => bI (mN zj)))), (mb, .inl (cZ, 121, .inl (fun zj => bI (mB zj)))), (q0, .inr (ciRL, [.ref qt, .ref qs, .ref qe, .ref qb, .ref ql, .int (nI nC)])), (qt, .inl (cC, 1000, .inl tT)), (qs, .inl (cI, 60, .inl (fun zj => nI (aS zj)))), (qe, .inl (cI, 60, .inl (fun zj => nI (aE zj)))), (qb, .inl (cI, 60, .inl (fun zj => nI (aB zj)))), (p0, .inr (ciPA, [.ref pb, .ref ps, .int (nI pC)])), (pb, .inl (cC, 120, .inl pB)), (ps, .inl (cI, 21, .inl (fun zj => nI (pS zj))))] sz) ((fun (u : (Nat → Bool)) => [(x0, .inr (ciIR, [.ref qT, .int tl, .ref q0, .ref s0, .ref p0, .ref m0])), (m0, .inr (ciMA, [.ref mn, .ref mb])), (mn, .inl (cZ, 21, .inl (fun zj => bI (mN zj)))), (mb, .inl (cZ, 121, .inl (fun zj => bI (u zj)))), (q0, .inr (ciRL, [.ref qt, .ref qs, .ref qe, .ref qb, .ref ql, .int (nI nC)])), (qt, .inl (cC, 1000, .inl tT)), (qs, .inl (cI, 60, .inl (fun zj => nI (aS zj)))), (qe, .inl (cI, 60, .inl (fun zj => nI (aE zj)))), (qb, .inl (cI, 60, .inl (fun zj => nI (aB zj)))), (p0, .inr (ciPA, [.ref pb, .ref ps, .int (nI pC)])), (pb, .inl (cC, 120, .inl pB)), (ps, .inl (cI, 21, .inl (fun zj => nI (pS zj))))]) u)) (va_A [(x0, .inr (ciIR, [.ref qT, .int tl, .ref q0, .ref s0, .ref p0, .ref m0])), (m0, .inr (ciMA, [.ref mn, .ref mb])), (mn, .inl (cZ, 21, .inl (fun zj => bI (mN zj)))), (mb, .inl (cZ, 121, .inl (fun zj => bI (mB zj)))), (q0, .inr (ciRL, [.ref qt, .ref qs, .ref qe, .ref qb, .ref ql, .int (nI nC)])), (qt, .inl (cC, 1000, .inl tT)), (qs, .inl (cI, 60, .inl (fun zj => nI (aS zj)))), (qe, .inl (cI, 60, .inl (fun zj => nI (aE zj)))), (qb, .inl (cI, 60, .inl (fun zj => nI (aB zj)))), (p0, .inr (ciPA, [.ref pb, .ref ps, .int (nI pC)])), (pb, .inl (cC, 120, .inl pB)), (ps, .inl (cI, 21, .inl (fun zj => nI (pS zj))))] sz)) 0 0 (va_A [(x0, .inr (ciIR, [.ref qT, .int tl, .ref q0, .ref s0, .ref p0, .ref m0])), (m0, .inr (ciMA, [.ref mn, .ref mb])), (mn, .inl (cZ, 21, .inl (fun zj => bI (mN zj)))), (mb, .inl (cZ, 121, .inl (fun zj => bI (mB zj)))), (q0, .inr (ciRL, [.ref qt, .ref qs, .ref qe, .ref qb, .ref ql, .int (nI nC)])), (qt, .inl (cC, 1000, .inl tT)), (qs, .inl (cI, 60, .inl (fun zj => nI (aS zj)))), (qe, .inl (cI, 60, .inl (fun zj => nI (aE zj)))), (qb, .inl (cI, 60, .inl (fun zj => nI (aB zj)))), (p0, .inr (ciPA, [.ref pb, .ref ps, .int (nI pC)])), (pb, .inl (cC, 120, .inl pB)), (ps, .inl (cI, 21, .inl (fun zj => nI (pS zj))))] sz) := by
  refine ig_metI (fun (r : Int32) (u : (Nat → Bool)) => ∃ zr : Bool, r = bI zr ∧ p_IR_name mN mB tT aS aE aB pB pS nC pC x y z zr u) (fun (u : (Nat → Bool)) => [(x0, .inr (ciIR, [.ref qT, .int tl, .ref q0, .ref s0, .ref p0, .ref m0])), (m0, .inr (ciMA, [.ref mn, .ref mb])), (mn, .inl (cZ, 21, .inl (fun zj => bI (mN zj)))), (mb, .inl (cZ, 121, .inl (fun zj => bI (u zj)))), (q0, .inr (ciRL, [.ref qt, .ref qs, .ref qe, .ref qb, .ref ql, .int (nI nC)])), (qt, .inl (cC, 1000, .inl tT)), (qs, .inl (cI, 60, .inl (fun zj => nI (aS zj)))), (qe, .inl (cI, 60, .inl (fun zj => nI (aE zj)))), (qb, .inl (cI, 60, .inl (fun zj => nI (aB zj)))), (p0, .inr (ciPA, [.ref pb, .ref ps, .int (nI pC)])), (pb, .inl (cC, 120, .inl pB)), (ps, .inl (cI, 21, .inl (fun zj => nI (pS zj))))]) (by decide) rfl (Nat.le_of_ble_eq_true rfl) rfl (by rintro r u ⟨b, rfl, -⟩; exact bI_ret b) ?_
  intro zp ze zs zm zargs zbelow zmeth zc zA zQ hx hb hml hown hts hK hN hA hret
  have j21 : ∀ (mBc : Nat → Bool), v_IR_name_21 mN mB tT aS aE aB pB pS nC pC x y z (p_IR_name mN mB tT aS aE aB pB pS nC pC x y z) mBc → ig_W zp l ze ({ frames := 2, cells := 0, slots := 0, locals := 59 }) zs zm zargs zbelow zmeth zc (dC, dI) ig_cl0 zA zs.heap 5 0 0 zQ 21 [] [] [(x0, .inr (ciIR, [.ref qT, .int tl, .ref q0, .ref s0, .ref p0, .ref m0])), (m0, .inr (ciMA, [.ref mn, .ref mb])), (mn, .inl (cZ, 21, .inl (fun zj => bI (mN zj)))), (mb, .inl (cZ, 121, .inl (fun zj => bI (mBc zj)))), (q0, .inr (ciRL, [.ref qt, .ref qs, .ref qe, .ref qb, .ref ql, .int (nI nC)])), (qt, .inl (cC, 1000, .inl tT)), (qs, .inl (cI, 60, .inl (fun zj => nI (aS zj)))), (qe, .inl (cI, 60, .inl (fun zj => nI (aE zj)))), (qb, .inl (cI, 60, .inl (fun zj => nI (aB zj)))), (p0, .inr (ciPA, [.ref pb, .ref ps, .int (nI pC)])), (pb, .inl (cC, 120, .inl pB)), (ps, .inl (cI, 21, .inl (fun zj => nI (pS zj))))] := by
    intro mBc hv
    unfold v_IR_name_21 at hv
    exact False.elim hv
  have j50 : ∀ (mBc : Nat → Bool), v_IR_name_50 mN mB tT aS aE aB pB pS nC pC x y z (p_IR_name mN mB tT aS aE aB pB pS nC pC x y z) mBc → ig_W zp l ze ({ frames := 2, cells := 0, slots := 0, locals := 59 }) zs zm zargs zbelow zmeth zc (dC, dI) ig_cl0 zA zs.heap 5 0 0 zQ 50 [] [] [(x0, .inr (ciIR, [.ref qT, .int tl, .ref q0, .ref s0, .ref p0, .ref m0])), (m0, .inr (ciMA, [.ref mn, .ref mb])), (mn, .inl (cZ, 21, .inl (fun zj => bI (mN zj)))), (mb, .inl (cZ, 121, .inl (fun zj => bI (mBc zj)))), (q0, .inr (ciRL, [.ref qt, .ref qs, .ref qe, .ref qb, .ref ql, .int (nI nC)])), (qt, .inl (cC, 1000, .inl tT)), (qs, .inl (cI, 60, .inl (fun zj => nI (aS zj)))), (qe, .inl (cI, 60, .inl (fun zj => nI (aE zj)))), (qb, .inl (cI, 60, .inl (fun zj => nI (aB zj)))), (p0, .inr (ciPA, [.ref pb, .ref ps, .int (nI pC)])), (pb, .inl (cC, 120, .inl pB)), (ps, .inl (cI, 21, .inl (fun zj => nI (pS zj))))] := by
    intro mBc hv
    unfold v_IR_name_50 at hv
    exact False.elim hv
  have hv := t_IR_name mN mB tT aS aE aB pB pS nC pC x y z hr 
  unfold v_IR_name at hv
  refine ig_aload_n hx hb 0 d_IR_name_0 rfl rfl ?_
  refine ig_iload_n hx hb 1 d_IR_name_1 rfl rfl ?_
  obtain ⟨hc, hv⟩ := hv
  refine ig_cVv (As := [.int x]) (rest := []) (wr := [(m0, .inr (ciMA, [.ref mn, .ref mb])), (mn, .inl (cZ, 21, .inl (fun zj => bI (mN zj)))), (mb, .inl (cZ, 121, .inl (fun zj => bI (mB zj)))), (qt, .inl (cC, 1000, .inl tT)), (qs, .inl (cI, 60, .inl (fun zj => nI (aS zj)))), (qe, .inl (cI, 60, .inl (fun zj => nI (aE zj)))), (qb, .inl (cI, 60, .inl (fun zj => nI (aB zj)))), (p0, .inr (ciPA, [.ref pb, .ref ps, .int (nI pC)])), (pb, .inl (cC, 120, .inl pB)), (ps, .inl (cI, 21, .inl (fun zj => nI (pS zj))))]) (ws' := fun u => [(x0, .inr (ciIR, [.ref qT, .int tl, .ref q0, .ref s0, .ref p0, .ref m0])), (m0, .inr (ciMA, [.ref mn, .ref mb])), (mn, .inl (cZ, 21, .inl (fun zj => bI (mN zj)))), (mb, .inl (cZ, 121, .inl (fun zj => bI (mB zj)))), (q0, .inr (ciRL, [.ref qt, .ref qs, .ref qe, .ref qb, .ref ql, .int (nI nC)])), (qt, .inl (cC, 1000, .inl tT)), (qs, .inl (cI, 60, .inl (fun zj => nI (aS zj)))), (qe, .inl (cI, 60, .inl (fun zj => nI (aE zj)))), (qb, .inl (cI, 60, .inl (fun zj => nI (aB zj)))), (p0, .inr (ciPA, [.ref pb, .ref ps, .int (nI pC)])), (pb, .inl (cC, 120, .inl pB)), (ps, .inl (cI, 21, .inl (fun zj => nI (pS zj))))]) hx hb hml hown hts hK hN hA (fun sz => c_IR_requireRule l dC dI cC cI cZ cL x0 qT q0 s0 p0 m0 qt qs qe qb ql tl nC x sz hc) ⟨callB_of 1 hts g_IR_requireRule rfl rfl rfl (hts _ kw_0_1) (hts _ kw_0_239) (by decide +kernel) (by decide), (hts _ kw_1_1), (hts _ ks_IR_requireRule)⟩ rfl rfl (Nat.le_of_ble_eq_true rfl) d_IR_name_2 (by decide) 0 rfl rfl [0, 4] [1, 2, 3, 5, 6, 7, 8, 9, 10, 11] [10, 0, 1, 2, 11, 3, 4, 5, 6, 7, 8, 9] rfl rfl (by decide) (by decide) (by decide) (fun _ => rfl) (fun _ => rfl) (fun u hr => ?_)
  unfold p_IR_requireRule at hr
  refine ig_iload_n hx hb 2 d_IR_name_5 rfl rfl ?_
  refine ig_if_lt (tgt := 21) hx hb d_IR_name_6 (by decide) (fun h => ?_) (fun h => ?_)
  · have hv := hv.1 h
    refine ig_lv (lv' := []) [] rfl ?_
    exact j21 _ hv
  · have hv := hv.2 h
    refine ig_iload_n hx hb 2 d_IR_name_9 rfl rfl ?_
    refine ig_aload_n hx hb 0 d_IR_name_10 rfl rfl ?_
    refine ig_get hx hb hts in_IR hown hK 0 rfl rfl 2 (by decide) (hts _ kw_0_91) (fun _ h => h) rfl d_IR_name_11 ?_
    refine ig_iload_n hx hb 1 d_IR_name_14 rfl rfl ?_
    obtain ⟨i1, he_i1, hv⟩ := hv
    rw [he_i1]
    obtain ⟨hc, hv⟩ := hv
    refine ig_cVNi (As := [.int (nI i1)]) (rest := [.int y]) (wr := [(x0, .inr (ciIR, [.ref qT, .int tl, .ref q0, .ref s0, .ref p0, .ref m0])), (m0, .inr (ciMA, [.ref mn, .ref mb])), (mn, .inl (cZ, 21, .inl (fun zj => bI (mN zj)))), (mb, .inl (cZ, 121, .inl (fun zj => bI (mB zj)))), (qb, .inl (cI, 60, .inl (fun zj => nI (aB zj)))), (p0, .inr (ciPA, [.ref pb, .ref ps, .int (nI pC)])), (pb, .inl (cC, 120, .inl pB)), (ps, .inl (cI, 21, .inl (fun zj => nI (pS zj))))]) (ws' := fun u => [(x0, .inr (ciIR, [.ref qT, .int tl, .ref q0, .ref s0, .ref p0, .ref m0])), (m0, .inr (ciMA, [.ref mn, .ref mb])), (mn, .inl (cZ, 21, .inl (fun zj => bI (mN zj)))), (mb, .inl (cZ, 121, .inl (fun zj => bI (mB zj)))), (q0, .inr (ciRL, [.ref qt, .ref qs, .ref qe, .ref qb, .ref ql, .int (nI nC)])), (qt, .inl (cC, 1000, .inl tT)), (qs, .inl (cI, 60, .inl (fun zj => nI (aS zj)))), (qe, .inl (cI, 60, .inl (fun zj => nI (aE zj)))), (qb, .inl (cI, 60, .inl (fun zj => nI (aB zj)))), (p0, .inr (ciPA, [.ref pb, .ref ps, .int (nI pC)])), (pb, .inl (cC, 120, .inl pB)), (ps, .inl (cI, 21, .inl (fun zj => nI (pS zj))))]) hx hb hml hown hts hK hN hA (fun sz => c_RL_countNames l dC dI cC cI cZ cL q0 qt qs qe qb ql (nI nC) tT aS aE i1 sz hc) ⟨va_cnB 1 hts g_RL_countNames rfl rfl rfl (nk_6 hN) (hts _ kw_0_2) (by decide +kernel) (by decide), (hts _ kw_1_21), (hts _ ks_RL_countNames)⟩ rfl rfl (Nat.le_of_ble_eq_true rfl) d_IR_name_15 (by decide) 0 rfl rfl [4, 5, 6, 7] [0, 1, 2, 3, 8, 9, 10, 11] [0, 1, 2, 3, 8, 9, 10, 11, 4, 5, 6, 7] rfl rfl (by decide) (by decide) (by decide) (fun _ => rfl) (fun _ => rfl) (fun r u hr => ?_)
    obtain ⟨rr, rfl, hr⟩ := hr
    unfold p_RL_countNames at hr
    subst hr
    rw [← he_i1]
    refine ig_icmp_lt (tgt := 31) hx hb d_IR_name_18 (by decide) (fun h => ?_) (fun h => ?_)
    · have hv := hv.1 h
      refine ig_aload_n hx hb 0 d_IR_name_31 rfl rfl ?_
      obtain ⟨hc, hv⟩ := hv
      refine ig_cVv (As := []) (rest := []) (wr := [(m0, .inr (ciMA, [.ref mn, .ref mb])), (mn, .inl (cZ, 21, .inl (fun zj => bI (mN zj)))), (mb, .inl (cZ, 121, .inl (fun zj => bI (mB zj)))), (q0, .inr (ciRL, [.ref qt, .ref qs, .ref qe, .ref qb, .ref ql, .int (nI nC)])), (qt, .inl (cC, 1000, .inl tT)), (qs, .inl (cI, 60, .inl (fun zj => nI (aS zj)))), (qe, .inl (cI, 60, .inl (fun zj => nI (aE zj)))), (qb, .inl (cI, 60, .inl (fun zj => nI (aB zj)))), (pb, .inl (cC, 120, .inl pB)), (ps, .inl (cI, 21, .inl (fun zj => nI (pS zj))))]) (ws' := fun u => [(x0, .inr (ciIR, [.ref qT, .int tl, .ref q0, .ref s0, .ref p0, .ref m0])), (m0, .inr (ciMA, [.ref mn, .ref mb])), (mn, .inl (cZ, 21, .inl (fun zj => bI (mN zj)))), (mb, .inl (cZ, 121, .inl (fun zj => bI (mB zj)))), (q0, .inr (ciRL, [.ref qt, .ref qs, .ref qe, .ref qb, .ref ql, .int (nI nC)])), (qt, .inl (cC, 1000, .inl tT)), (qs, .inl (cI, 60, .inl (fun zj => nI (aS zj)))), (qe, .inl (cI, 60, .inl (fun zj => nI (aE zj)))), (qb, .inl (cI, 60, .inl (fun zj => nI (aB zj)))), (p0, .inr (ciPA, [.ref pb, .ref ps, .int (nI pC)])), (pb, .inl (cC, 120, .inl pB)), (ps, .inl (cI, 21, .inl (fun zj => nI (pS zj))))]) hx hb hml hown hts hK hN hA (fun sz => c_IR_requirePath l dC dI cC cI cZ cL x0 qT q0 s0 p0 m0 pb ps tl pC sz hc) ⟨callB_of 0 hts g_IR_requirePath rfl rfl rfl (hts _ kw_0_1) (hts _ kw_1_32) (by decide +kernel) (by decide), (hts _ kw_1_34), (hts _ ks_IR_requirePath)⟩ rfl rfl (Nat.le_of_ble_eq_true rfl) d_IR_name_32 (by decide) 0 rfl rfl [0, 9] [1, 2, 3, 4, 5, 6, 7, 8, 10, 11] [10, 0, 1, 2, 3, 4, 5, 6, 7, 11, 8, 9] rfl rfl (by decide) (by decide) (by decide) (fun _ => rfl) (fun _ => rfl) (fun u hr => ?_)
      unfold p_IR_requirePath at hr
      refine ig_iload_n hx hb 3 d_IR_name_35 rfl rfl ?_
      refine ig_if_lt (tgt := 50) hx hb d_IR_name_36 (by decide) (fun h => ?_) (fun h => ?_)
      · have hv := hv.1 h
        refine ig_lv (lv' := []) [] rfl ?_
        exact j50 _ hv
      · have hv := hv.2 h
        refine ig_iload_n hx hb 3 d_IR_name_39 rfl rfl ?_
        refine ig_aload_n hx hb 0 d_IR_name_40 rfl rfl ?_
        refine ig_get hx hb hts in_IR hown hK 0 rfl rfl 4 (by decide) (hts _ kw_0_93) (fun _ h => h) rfl d_IR_name_41 ?_
        refine ig_getN hx hb hts in_PA hown hK 9 rfl rfl 2 (by decide) (va_Nw.use rfl (fk_10 hN)) (fun _ h => h) rfl d_IR_name_44 ?_
        refine ig_icmp_lt (tgt := 60) hx hb d_IR_name_47 (by decide) (fun h => ?_) (fun h => ?_)
        · have hv := hv.1 h
          refine ig_aload_n hx hb 0 d_IR_name_60 rfl rfl ?_
          refine ig_get hx hb hts in_IR hown hK 0 rfl rfl 2 (by decide) (hts _ kw_0_91) (fun _ h => h) rfl d_IR_name_61 ?_
          refine ig_iload_n hx hb 1 d_IR_name_64 rfl rfl ?_
          refine ig_iload_n hx hb 2 d_IR_name_65 rfl rfl ?_
          obtain ⟨p2, he_p2, hv⟩ := hv
          rw [he_p2]
          obtain ⟨i3, he_i3, hv⟩ := hv
          rw [he_i3]
          obtain ⟨hc, hv⟩ := hv
          refine ig_cVNi (As := [.int (nI i3), .int (nI p2)]) (rest := []) (wr := [(x0, .inr (ciIR, [.ref qT, .int tl, .ref q0, .ref s0, .ref p0, .ref m0])), (m0, .inr (ciMA, [.ref mn, .ref mb])), (mn, .inl (cZ, 21, .inl (fun zj => bI (mN zj)))), (mb, .inl (cZ, 121, .inl (fun zj => bI (mB zj)))), (qb, .inl (cI, 60, .inl (fun zj => nI (aB zj)))), (p0, .inr (ciPA, [.ref pb, .ref ps, .int (nI pC)])), (pb, .inl (cC, 120, .inl pB)), (ps, .inl (cI, 21, .inl (fun zj => nI (pS zj))))]) (ws' := fun u => [(x0, .inr (ciIR, [.ref qT, .int tl, .ref q0, .ref s0, .ref p0, .ref m0])), (m0, .inr (ciMA, [.ref mn, .ref mb])), (mn, .inl (cZ, 21, .inl (fun zj => bI (mN zj)))), (mb, .inl (cZ, 121, .inl (fun zj => bI (mB zj)))), (q0, .inr (ciRL, [.ref qt, .ref qs, .ref qe, .ref qb, .ref ql, .int (nI nC)])), (qt, .inl (cC, 1000, .inl tT)), (qs, .inl (cI, 60, .inl (fun zj => nI (aS zj)))), (qe, .inl (cI, 60, .inl (fun zj => nI (aE zj)))), (qb, .inl (cI, 60, .inl (fun zj => nI (aB zj)))), (p0, .inr (ciPA, [.ref pb, .ref ps, .int (nI pC)])), (pb, .inl (cC, 120, .inl pB)), (ps, .inl (cI, 21, .inl (fun zj => nI (pS zj))))]) hx hb hml hown hts hK hN hA (fun sz => c_RL_nameStart l dC dI cC cI cZ cL q0 qt qs qe qb ql (nI nC) tT aS aE i3 p2 sz hc) ⟨va_cnB 2 hts g_RL_nameStart rfl rfl rfl (nk_11 hN) (hts _ kw_0_2) (by decide +kernel) (by decide), (hts _ kw_1_132), (hts _ ks_RL_nameStart)⟩ rfl rfl (Nat.le_of_ble_eq_true rfl) d_IR_name_66 (by decide) 0 rfl rfl [4, 5, 6, 7] [0, 1, 2, 3, 8, 9, 10, 11] [0, 1, 2, 3, 8, 9, 10, 11, 4, 5, 6, 7] rfl rfl (by decide) (by decide) (by decide) (fun _ => rfl) (fun _ => rfl) (fun r u hr => ?_)
          obtain ⟨rr, rfl, hr⟩ := hr
          unfold p_RL_nameStart at hr
          subst hr
          refine ig_istore (lv' := [(4, .int (nI (sp_nst tT (aE i3) p2 (aS i3)))), (0, .ref x0), (1, .int (nI i3)), (2, .int (nI p2)), (3, .int z)]) hx hb d_IR_name_69 (by decide) rfl ?_
          refine ig_aload_n hx hb 1 d_IR_name_71 rfl rfl ?_
          refine ig_get hx hb hts in_IR hown hK 0 rfl rfl 5 (by decide) (hts _ kw_0_94) (fun _ h => h) rfl d_IR_name_72 ?_
          refine ig_aload_n hx hb 1 d_IR_name_75 rfl rfl ?_
          refine ig_get hx hb hts in_IR hown hK 0 rfl rfl 2 (by decide) (hts _ kw_0_91) (fun _ h => h) rfl d_IR_name_76 ?_
          refine ig_getN hx hb hts in_RL hown hK 4 rfl rfl 0 (by decide) (va_Nw.use rfl (fk_1 hN)) (fun _ h => h) rfl d_IR_name_79 ?_
          refine ig_iload hx hb 0 d_IR_name_82 rfl ?_
          refine ig_aload_n hx hb 1 d_IR_name_84 rfl rfl ?_
          refine ig_get hx hb hts in_IR hown hK 0 rfl rfl 2 (by decide) (hts _ kw_0_91) (fun _ h => h) rfl d_IR_name_85 ?_
          refine ig_iload_n hx hb 2 d_IR_name_88 rfl rfl ?_
          refine ig_iload hx hb 0 d_IR_name_89 rfl ?_
          obtain ⟨hc, hv⟩ := hv
          refine ig_cVNi (As := [.int (nI i3), .int (nI (sp_nst tT (aE i3) p2 (aS i3)))]) (rest := [.int (nI (sp_nst tT (aE i3) p2 (aS i3))), .ref qt, .ref m0]) (wr := [(x0, .inr (ciIR, [.ref qT, .int tl, .ref q0, .ref s0, .ref p0, .ref m0])), (m0, .inr (ciMA, [.ref mn, .ref mb])), (mn, .inl (cZ, 21, .inl (fun zj => bI (mN zj)))), (mb, .inl (cZ, 121, .inl (fun zj => bI (mB zj)))), (qs, .inl (cI, 60, .inl (fun zj => nI (aS zj)))), (qb, .inl (cI, 60, .inl (fun zj => nI (aB zj)))), (p0, .inr (ciPA, [.ref pb, .ref ps, .int (nI pC)])), (pb, .inl (cC, 120, .inl pB)), (ps, .inl (cI, 21, .inl (fun zj => nI (pS zj))))]) (ws' := fun u => [(x0, .inr (ciIR, [.ref qT, .int tl, .ref q0, .ref s0, .ref p0, .ref m0])), (m0, .inr (ciMA, [.ref mn, .ref mb])), (mn, .inl (cZ, 21, .inl (fun zj => bI (mN zj)))), (mb, .inl (cZ, 121, .inl (fun zj => bI (mB zj)))), (q0, .inr (ciRL, [.ref qt, .ref qs, .ref qe, .ref qb, .ref ql, .int (nI nC)])), (qt, .inl (cC, 1000, .inl tT)), (qs, .inl (cI, 60, .inl (fun zj => nI (aS zj)))), (qe, .inl (cI, 60, .inl (fun zj => nI (aE zj)))), (qb, .inl (cI, 60, .inl (fun zj => nI (aB zj)))), (p0, .inr (ciPA, [.ref pb, .ref ps, .int (nI pC)])), (pb, .inl (cC, 120, .inl pB)), (ps, .inl (cI, 21, .inl (fun zj => nI (pS zj))))]) hx hb hml hown hts hK hN hA (fun sz => c_RL_nameEnd l dC dI cC cI cZ cL q0 qt qs qe qb ql (nI nC) tT aE i3 (sp_nst tT (aE i3) p2 (aS i3)) sz hc) ⟨va_cnB 2 hts g_RL_nameEnd rfl rfl rfl (nk_12 hN) (hts _ kw_0_2) (by decide +kernel) (by decide), (hts _ kw_1_136), (hts _ ks_RL_nameEnd)⟩ rfl rfl (Nat.le_of_ble_eq_true rfl) d_IR_name_91 (by decide) 0 rfl rfl [4, 5, 7] [0, 1, 2, 3, 6, 8, 9, 10, 11] [0, 1, 2, 3, 9, 10, 4, 11, 5, 6, 7, 8] rfl rfl (by decide) (by decide) (by decide) (fun _ => rfl) (fun _ => rfl) (fun r u hr => ?_)
          obtain ⟨rr, rfl, hr⟩ := hr
          unfold p_RL_nameEnd at hr
          subst hr
          refine ig_aload_n hx hb 1 d_IR_name_94 rfl rfl ?_
          refine ig_get hx hb hts in_IR hown hK 0 rfl rfl 4 (by decide) (hts _ kw_0_93) (fun _ h => h) rfl d_IR_name_95 ?_
          refine ig_iload_n hx hb 4 d_IR_name_98 rfl rfl ?_
          obtain ⟨j4, he_j4, hv⟩ := hv
          rw [he_j4]
          obtain ⟨hc, hv⟩ := hv
          refine ig_cVNi (As := [.ref qt, .int (nI (sp_nst tT (aE i3) p2 (aS i3))), .int (nI (sp_eon tT (aE i3) (sp_nst tT (aE i3) p2 (aS i3)))), .ref p0, .int (nI j4)]) (rest := []) (wr := [(x0, .inr (ciIR, [.ref qT, .int tl, .ref q0, .ref s0, .ref p0, .ref m0])), (mn, .inl (cZ, 21, .inl (fun zj => bI (mN zj)))), (q0, .inr (ciRL, [.ref qt, .ref qs, .ref qe, .ref qb, .ref ql, .int (nI nC)])), (qs, .inl (cI, 60, .inl (fun zj => nI (aS zj)))), (qe, .inl (cI, 60, .inl (fun zj => nI (aE zj)))), (qb, .inl (cI, 60, .inl (fun zj => nI (aB zj))))]) (ws' := fun u => [(x0, .inr (ciIR, [.ref qT, .int tl, .ref q0, .ref s0, .ref p0, .ref m0])), (m0, .inr (ciMA, [.ref mn, .ref mb])), (mn, .inl (cZ, 21, .inl (fun zj => bI (mN zj)))), (mb, .inl (cZ, 121, .inl (fun zj => bI (u zj)))), (q0, .inr (ciRL, [.ref qt, .ref qs, .ref qe, .ref qb, .ref ql, .int (nI nC)])), (qt, .inl (cC, 1000, .inl tT)), (qs, .inl (cI, 60, .inl (fun zj => nI (aS zj)))), (qe, .inl (cI, 60, .inl (fun zj => nI (aE zj)))), (qb, .inl (cI, 60, .inl (fun zj => nI (aB zj)))), (p0, .inr (ciPA, [.ref pb, .ref ps, .int (nI pC)])), (pb, .inl (cC, 120, .inl pB)), (ps, .inl (cI, 21, .inl (fun zj => nI (pS zj))))]) hx hb hml hown hts hK hN hA (fun sz => c_MA_nameFits l dC dI cC cI cZ cL m0 mn mb qt p0 pb ps (nI pC) mB tT pB pS (sp_nst tT (aE i3) p2 (aS i3)) (sp_eon tT (aE i3) (sp_nst tT (aE i3) p2 (aS i3))) j4 sz hc) ⟨va_cnB 5 hts g_MA_nameFits rfl rfl rfl (nk_13 hN) (hts _ kw_0_4) (by decide +kernel) (by decide), (hts _ kw_1_71), (hts _ ks_MA_nameFits)⟩ rfl rfl (Nat.le_of_ble_eq_true rfl) d_IR_name_99 (by decide) 0 rfl rfl [1, 3, 5, 9, 10, 11] [0, 2, 4, 6, 7, 8] [0, 6, 1, 7, 2, 8, 3, 4, 5, 9, 10, 11] rfl rfl (by decide) (by decide) (by decide) (fun _ => rfl) (fun _ => rfl) (fun r u hr => ?_)
          obtain ⟨mB5, hu⟩ : ∃ z, z = u := ⟨_, rfl⟩
          subst hu
          obtain ⟨rr, rfl, hr⟩ := hr
          unfold p_MA_nameFits at hr
          subst hr
          have hv := hv mB5
          exact hret 102 _ (bI (sp_nf tT pB pS (sp_nst tT (aE i3) p2 (aS i3)) (sp_eon tT (aE i3) (sp_nst tT (aE i3) p2 (aS i3))) j4)) mB5 d_IR_name_102 ⟨sp_nf tT pB pS (sp_nst tT (aE i3) p2 (aS i3)) (sp_eon tT (aE i3) (sp_nst tT (aE i3) p2 (aS i3))) j4, rfl, hv⟩
        · have hv := hv.2 h
          refine ig_lv (lv' := []) [] rfl ?_
          exact j50 _ hv
    · have hv := hv.2 h
      refine ig_lv (lv' := []) [] rfl ?_
      exact j21 _ hv
