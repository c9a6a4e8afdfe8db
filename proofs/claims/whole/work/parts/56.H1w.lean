theorem kw_0_234 : Cond.classLink "IgnoreRulesLaw" 19 "java/lang/IndexOutOfBoundsException" ∈ ig_T := ig_T_mem (List.mem_append_left _ (List.mem_of_getElem? (i := 234) rfl)) rfl
theorem kw_0_235 : Cond.methodLink "IgnoreRulesLaw" 15 y_IR_rule ∈ ig_T := ig_T_mem (List.mem_append_left _ (List.mem_of_getElem? (i := 235) rfl)) rfl
theorem kw_0_236 : Cond.instanceMethod y_IR_rule ∈ ig_T := ig_T_mem (List.mem_append_left _ (List.mem_of_getElem? (i := 236) rfl)) rfl
theorem kw_0_237 : Cond.selects "IgnoreRules" y_IR_rule y_IR_rule ∈ ig_T := ig_T_mem (List.mem_append_left _ (List.mem_of_getElem? (i := 237) rfl)) rfl
theorem d_LW_rule_0 : decode b_LW_rule 0 = .ok (.aload_n 3, 1) := by decide +kernel
theorem d_LW_rule_1 : decode b_LW_rule 1 = .ok (.iconst 0, 1) := by decide +kernel
theorem d_LW_rule_2 : decode b_LW_rule 2 = .ok (.aload_n 0, 1) := by decide +kernel
theorem d_LW_rule_3 : decode b_LW_rule 3 = .ok (.iload_n 1, 1) := by decide +kernel
theorem d_LW_rule_4 : decode b_LW_rule 4 = .ok (.iload_n 2, 1) := by decide +kernel
theorem d_LW_rule_5 : decode b_LW_rule 5 = .ok (.invokevirtual 15, 3) := by decide +kernel
theorem d_LW_rule_8 : decode b_LW_rule 8 = .ok (.i2l, 1) := by decide +kernel
theorem d_LW_rule_9 : decode b_LW_rule 9 = .ok (.lastore, 1) := by decide +kernel
theorem d_LW_rule_10 : decode b_LW_rule 10 = .ok (.goto 11, 3) := by decide +kernel
theorem d_LW_rule_13 : decode b_LW_rule 13 = .ok (.astore 4, 2) := by decide +kernel
theorem d_LW_rule_15 : decode b_LW_rule 15 = .ok (.iconst 1, 1) := by decide +kernel
theorem d_LW_rule_16 : decode b_LW_rule 16 = .ok (.ireturn, 1) := by decide +kernel
theorem d_LW_rule_17 : decode b_LW_rule 17 = .ok (.astore 4, 2) := by decide +kernel
theorem d_LW_rule_19 : decode b_LW_rule 19 = .ok (.iconst 2, 1) := by decide +kernel
theorem d_LW_rule_20 : decode b_LW_rule 20 = .ok (.ireturn, 1) := by decide +kernel
theorem d_LW_rule_21 : decode b_LW_rule 21 = .ok (.iconst 0, 1) := by decide +kernel
theorem d_LW_rule_22 : decode b_LW_rule 22 = .ok (.ireturn, 1) := by decide +kernel
abbrev w_LW_rule : List Cond := Cond.codeWith y_LW_rule b_LW_rule 5 (some .int) [(0, 10, 13, 19), (0, 10, 17, 13)] :: ig_T
theorem kc_LW_rule : ∀ w ∈ w_LW_rule, w ∈ ig_T := fun w h => (List.mem_cons.mp h).elim (fun e => by rw [e]; exact ig_T_mem (List.mem_append_left _ (List.mem_of_getElem? (i := 233) rfl)) rfl) id
set_option maxHeartbeats 4000000 in
set_option maxRecDepth 100000 in
theorem c_LW_rule (l : Launch) (hl0 : l.stackTraces = false) (dC : Nat → ClassId) (dI : Nat → Nat → Nat) (cC cI cZ cL : ClassId) (x0 qT q0 s0 p0 m0 qt qs qe qb ql w0 : Nat) (tl : Int32) (tT : Nat → Int32) (aS : Nat → Nat) (aE : Nat → Nat) (aB : Nat → Nat) (aL : Nat → Nat) (nC : Nat) (oL : Nat → Int64) (x : Int32) (y : Int32) (sz : Nat) (hr : r_LW_rule tT aS aE aB aL nC oL x y) : Met l y_LW_rule w_LW_rule ({ frames := 8, cells := 1, slots := 6, locals := 125 }) (ig_PcX (dC, dI) ig_cl0 [(cC, .char), (cI, .int), (cZ, .boolean), (cL, .long)] [.ref x0, .int x, .int y, .ref w0] [(x0, .inr (ciIR, [.ref qT, .int tl, .ref q0, .ref s0, .ref p0, .ref m0])), (q0, .inr (ciRL, [.ref qt, .ref qs, .ref qe, .ref qb, .ref ql, .int (nI nC)])), (qt, .inl (cC, 1000, .inl tT)), (qs, .inl (cI, 60, .inl (fun zj => nI (aS zj)))), (qe, .inl (cI, 60, .inl (fun zj => nI (aE zj)))), (qb, .inl (cI, 60, .inl (fun zj => nI (aB zj)))), (ql, .inl (cI, 60, .inl (fun zj => nI (aL zj)))), (w0, .inl (cL, 1, .inr (.inl oL)))] sz) (va_Qi (fun (r : Int32) (u : (Nat → Int64)) => ∃ zr : Nat, r = nI zr ∧ q_LW_rule tT aS aE aB aL nC oL x y zr u) (fun u t => va_P (dC, dI) ig_cl0 ((fun (u : (Nat → Int64)) => [(x0, .inr (ciIR, [.ref qT, .int tl, .ref q0, .ref s0, .ref p0, .ref m0])), (q0, .inr (ciRL, [.ref qt, .ref qs, .ref qe, .ref qb, .ref ql, .int (nI nC)])), (qt, .inl (cC, 1000, .inl tT)), (qs, .inl (cI, 60, .inl (fun zj => nI (aS zj)))), (qe, .inl (cI, 60, .inl (fun zj => nI (aE zj)))), (qb, .inl (cI, 60, .inl (fun zj => nI (aB zj)))), (ql, .inl (cI, 60, .inl (fun zj => nI (aL zj)))), (w0, .inl (cL, 1, .inr (.inl u)))]) u) t.heap ∧ va_D (va_A [(x0, .inr (ciIR, [.ref qT, .int tl, .ref q0, .ref s0, .ref p0, .ref m0])), (q0, .inr (ciRL, [.ref qt, .ref qs, .ref qe, .ref qb, .ref ql, .int (nI nC)])), (qt, .inl (cC, 1000, .inl tT)), (qs, .inl (cI, 60, .inl (fun zj => nI (aS zj)))), (qe, .inl (cI, 60, .inl (fun zj => nI (aE zj)))), (qb, .inl (cI, 60, .inl (fun zj => nI (aB zj)))), (ql, .inl (cI, 60, .inl (fun zj => nI (aL zj)))), (w0, .inl (cL, 1, .inr (.inl oL)))] sz) ((fun (u : (Nat → Int64)) => [(x0, .inr (ciIR, [.ref qT, .int tl, .ref q0, .ref s0, .ref p0, .ref m0])), (q0, .inr (ciRL, [.ref qt, .ref qs, .ref qe, .ref qb, .ref ql, .int (nI nC)])), (qt, .inl (cC, 1000, .inl tT)), (qs, .inl (cI, 60, .inl (fun zj => nI (aS zj)))), (qe, .inl (cI, 60, .inl (fun zj => nI (aE zj)))), (qb, .inl (cI, 60, .inl (fun zj => nI (aB zj)))), (ql, .inl (cI, 60, .inl (fun zj => nI (aL zj)))), (w0, .inl (cL, 1, .inr (.inl u)))]) u)) (va_A [(x0, .inr (ciIR, [.ref qT, .int tl, .ref q0, .ref s0, .ref p0, .ref m0])), (q0, .inr (ciRL, [.ref qt, .ref qs, .ref qe, .ref qb, .ref ql, .int (nI nC)])), (qt, .inl (cC, 1000, .inl tT)), (qs, .inl (cI, 60, .inl (fun zj => nI (aS zj)))), (qe, .inl (cI, 60, .inl (fun zj => nI (aE zj)))), (qb, .inl (cI, 60, .inl (fun zj => nI (aB zj)))), (ql, .inl (cI, 60, .inl (fun zj => nI (aL zj)))), (w0, .inl (cL, 1, .inr (.inl oL)))] sz)) 1 6 (va_A [(x0, .inr (ciIR, [.ref qT, .int tl, .ref q0, .ref s0, .ref p0, .ref m0])), (q0, .inr (ciRL, [.ref qt, .ref qs, .ref qe, .ref qb, .ref ql, .int (nI nC)])), (qt, .inl (cC, 1000, .inl tT)), (qs, .inl (cI, 60, .inl (fun zj => nI (aS zj)))), (qe, .inl (cI, 60, .inl (fun zj => nI (aE zj)))), (qb, .inl (cI, 60, .inl (fun zj => nI (aB zj)))), (ql, .inl (cI, 60, .inl (fun zj => nI (aL zj)))), (w0, .inl (cL, 1, .inr (.inl oL)))] sz) := by
  refine ig_metH (fun (r : Int32) (u : (Nat → Int64)) => ∃ zr : Nat, r = nI zr ∧ q_LW_rule tT aS aE aB aL nC oL x y zr u) (fun (u : (Nat → Int64)) => [(x0, .inr (ciIR, [.ref qT, .int tl, .ref q0, .ref s0, .ref p0, .ref m0])), (q0, .inr (ciRL, [.ref qt, .ref qs, .ref qe, .ref qb, .ref ql, .int (nI nC)])), (qt, .inl (cC, 1000, .inl tT)), (qs, .inl (cI, 60, .inl (fun zj => nI (aS zj)))), (qe, .inl (cI, 60, .inl (fun zj => nI (aE zj)))), (qb, .inl (cI, 60, .inl (fun zj => nI (aB zj)))), (ql, .inl (cI, 60, .inl (fun zj => nI (aL zj)))), (w0, .inl (cL, 1, .inr (.inl u)))]) (by decide) rfl (Nat.le_of_ble_eq_true rfl) rfl ?_
  intro zp ze zs zm zargs zbelow zmeth zc zA zQ hx hb hml hown hts hK hN hA hXf htab hret
  have hr9 := hr
  unfold r_LW_rule at hr9
  by_cases hT1 : (x < 0 ∨ nI nC ≤ x)
  · refine ig_aload_n hx hb 3 d_LW_rule_0 rfl rfl ?_
    refine ig_iconst (v := 0) hx hb d_LW_rule_1 (by decide) ?_
    refine ig_aload_n hx hb 0 d_LW_rule_2 rfl rfl ?_
    refine ig_iload_n hx hb 1 d_LW_rule_3 rfl rfl ?_
    refine ig_iload_n hx hb 2 d_LW_rule_4 rfl rfl ?_
    refine ig_cVxi (As := [.int x, .int y]) (rest := [.int 0, .ref w0]) (wr := [(w0, .inl (cL, 1, .inr (.inl oL)))]) hx hb hml hown hts hK hN hA hXf (fun sz => x_X1_rule l hl0 dC dI cC cI cZ cL x0 qT q0 s0 p0 m0 qt qs qe qb ql tl tT aS aE aB aL nC x y sz ⟨hr9.1, hT1⟩) ⟨callB_of 2 hts g_IR_rule rfl rfl rfl (hts _ kw_0_1) (hts _ kw_0_235) (by decide +kernel) (by decide), (hts _ kw_0_236), (hts _ kw_0_237)⟩ rfl rfl (Nat.le_of_ble_eq_true rfl) d_LW_rule_5 (by decide) 0 rfl rfl [0, 1, 2, 3, 4, 5, 6] [7] [1, 2, 3, 4, 5, 6, 7, 0] rfl rfl (by decide) (by decide) (by decide) rfl rfl (ig_ca hown hts [] ⟨0, 10, 13, 19⟩ [⟨0, 10, 17, 13⟩] (by rw [htab]; rfl) (fun z hz => nomatch hz) (by decide) (by decide) kw_0_234 (va_tabs rfl rfl (hXf.2.2.2.2.2.2 ig_IOO (List.mem_of_getElem? (i := 2) rfl))) (fun q9 => ?_))
    refine ig_astore (lv' := [(4, .ref q9), (0, .ref x0), (1, .int x), (2, .int y), (3, .ref w0)]) hx hb d_LW_rule_13 (by decide) rfl ?_
    refine ig_iconst (v := 1) hx hb d_LW_rule_15 (by decide) ?_
    exact hret (0 + 1) (0 + 6) (by decide) (by decide) 16 _ _ oL d_LW_rule_16 ⟨1, rfl, ⟨fun _ => rfl, fun q => absurd hT1 q, fun q => absurd hT1 q⟩⟩
  by_cases hT2 : (y < 0 ∨ 2 < y)
  · refine ig_aload_n hx hb 3 d_LW_rule_0 rfl rfl ?_
    refine ig_iconst (v := 0) hx hb d_LW_rule_1 (by decide) ?_
    refine ig_aload_n hx hb 0 d_LW_rule_2 rfl rfl ?_
    refine ig_iload_n hx hb 1 d_LW_rule_3 rfl rfl ?_
    refine ig_iload_n hx hb 2 d_LW_rule_4 rfl rfl ?_
    refine ig_cVxi (As := [.int x, .int y]) (rest := [.int 0, .ref w0]) (wr := [(w0, .inl (cL, 1, .inr (.inl oL)))]) hx hb hml hown hts hK hN hA hXf (fun sz => x_X2_rule l hl0 dC dI cC cI cZ cL x0 qT q0 s0 p0 m0 qt qs qe qb ql tl tT aS aE aB aL nC x y sz ⟨hr9.1, hT1, hT2⟩) ⟨callB_of 2 hts g_IR_rule rfl rfl rfl (hts _ kw_0_1) (hts _ kw_0_235) (by decide +kernel) (by decide), (hts _ kw_0_236), (hts _ kw_0_237)⟩ rfl rfl (Nat.le_of_ble_eq_true rfl) d_LW_rule_5 (by decide) 0 rfl rfl [0, 1, 2, 3, 4, 5, 6] [7] [1, 2, 3, 4, 5, 6, 7, 0] rfl rfl (by decide) (by decide) (by decide) rfl rfl (ig_ca hown hts [⟨0, 10, 13, 19⟩] ⟨0, 10, 17, 13⟩ [] (by rw [htab]; rfl) (fun z hz => by rw [List.mem_singleton.mp hz]; exact Or.inr ⟨by decide, ig_IOO, hts _ kw_0_234, hXf.2.2.2.1⟩) (by decide) (by decide) kw_0_157 (va_tabs rfl rfl (hXf.2.2.2.2.2.2 ig_IAE (List.mem_of_getElem? (i := 0) rfl))) (fun q9 => ?_))
    refine ig_astore (lv' := [(4, .ref q9), (0, .ref x0), (1, .int x), (2, .int y), (3, .ref w0)]) hx hb d_LW_rule_17 (by decide) rfl ?_
    refine ig_iconst (v := 2) hx hb d_LW_rule_19 (by decide) ?_
    exact hret (0 + 1) (0 + 6) (by decide) (by decide) 20 _ _ oL d_LW_rule_20 ⟨2, rfl, ⟨fun q => absurd q hT1, fun _ _ => rfl, fun _ q => absurd hT2 q⟩⟩
  have hret0 : ∀ (pc : Nat) (lv : List (Nat × Value)) (r : Int32) (u : (Nat → Int64)), decode b_LW_rule pc = .ok (.ireturn, 1) → (∃ zr : Nat, r = nI zr ∧ pn_LW_rule tT aS aE aB aL nC oL x y zr u) → ig_W zp l ze ({ frames := 8, cells := 1, slots := 6, locals := 125 }) zs zm zargs zbelow zmeth zc (dC, dI) ig_cl0 zA zs.heap 5 0 0 zQ pc lv [.int r] ((fun (u : (Nat → Int64)) => [(x0, .inr (ciIR, [.ref qT, .int tl, .ref q0, .ref s0, .ref p0, .ref m0])), (q0, .inr (ciRL, [.ref qt, .ref qs, .ref qe, .ref qb, .ref ql, .int (nI nC)])), (qt, .inl (cC, 1000, .inl tT)), (qs, .inl (cI, 60, .inl (fun zj => nI (aS zj)))), (qe, .inl (cI, 60, .inl (fun zj => nI (aE zj)))), (qb, .inl (cI, 60, .inl (fun zj => nI (aB zj)))), (ql, .inl (cI, 60, .inl (fun zj => nI (aL zj)))), (w0, .inl (cL, 1, .inr (.inl u)))]) u) := fun pc lv r u hd h => hret 0 0 (by decide) (by decide) pc lv r u hd (by obtain ⟨zr, h2, h3⟩ := h; exact ⟨zr, h2, ⟨fun q => absurd q hT1, fun _ q => absurd q hT2, fun _ _ => h3⟩⟩)
  have hv := t_LW_rule tT aS aE aB aL nC oL x y hr hT1 hT2
  unfold v_LW_rule at hv
  refine ig_aload_n hx hb 3 d_LW_rule_0 rfl rfl ?_
  refine ig_iconst (v := 0) hx hb d_LW_rule_1 (by decide) ?_
  refine ig_aload_n hx hb 0 d_LW_rule_2 rfl rfl ?_
  refine ig_iload_n hx hb 1 d_LW_rule_3 rfl rfl ?_
  refine ig_iload_n hx hb 2 d_LW_rule_4 rfl rfl ?_
  obtain ⟨hc, hv⟩ := hv
  refine ig_cVi (As := [.int x, .int y]) (rest := [.int 0, .ref w0]) (wr := [(w0, .inl (cL, 1, .inr (.inl oL)))]) (ws' := fun u => [(x0, .inr (ciIR, [.ref qT, .int tl, .ref q0, .ref s0, .ref p0, .ref m0])), (q0, .inr (ciRL, [.ref qt, .ref qs, .ref qe, .ref qb, .ref ql, .int (nI nC)])), (qt, .inl (cC, 1000, .inl tT)), (qs, .inl (cI, 60, .inl (fun zj => nI (aS zj)))), (qe, .inl (cI, 60, .inl (fun zj => nI (aE zj)))), (qb, .inl (cI, 60, .inl (fun zj => nI (aB zj)))), (ql, .inl (cI, 60, .inl (fun zj => nI (aL zj)))), (w0, .inl (cL, 1, .inr (.inl oL)))]) hx hb hml hown hts hK hN hA (fun sz => c_IR_rule l dC dI cC cI cZ cL x0 qT q0 s0 p0 m0 qt qs qe qb ql tl tT aS aE aB aL nC x y sz hc) ⟨callB_of 2 hts g_IR_rule rfl rfl rfl (hts _ kw_0_1) (hts _ kw_0_235) (by decide +kernel) (by decide), (hts _ kw_0_236), (hts _ kw_0_237)⟩ rfl rfl (Nat.le_of_ble_eq_true rfl) d_LW_rule_5 (by decide) 0 rfl rfl [0, 1, 2, 3, 4, 5, 6] [7] [1, 2, 3, 4, 5, 6, 7, 0] rfl rfl (by decide) (by decide) (by decide) (fun _ => rfl) (fun _ => rfl) (fun r u hr => ?_)
  obtain ⟨r1, rfl, hr⟩ := hr
  unfold p_IR_rule at hr
  have hv := hv r1 hr
  refine ig_i2l (v := (nI r1).toInt64) hx hb d_LW_rule_8 rfl ?_
  obtain ⟨hc, hv⟩ := hv
  refine ig_last (ws' := [(x0, .inr (ciIR, [.ref qT, .int tl, .ref q0, .ref s0, .ref p0, .ref m0])), (q0, .inr (ciRL, [.ref qt, .ref qs, .ref qe, .ref qb, .ref ql, .int (nI nC)])), (qt, .inl (cC, 1000, .inl tT)), (qs, .inl (cI, 60, .inl (fun zj => nI (aS zj)))), (qe, .inl (cI, 60, .inl (fun zj => nI (aE zj)))), (qb, .inl (cI, 60, .inl (fun zj => nI (aB zj)))), (ql, .inl (cI, 60, .inl (fun zj => nI (aL zj)))), (w0, .inl (cL, 1, .inr (.inl (vp_updL oL 0 ((nI r1).toInt64)))))]) hx hb hK 7 3 rfl rfl 0 rfl hc (by decide) d_LW_rule_9 rfl ?_
  refine ig_goto (tgt := 21) hx hb d_LW_rule_10 (by decide) ?_
  refine ig_iconst (v := 0) hx hb d_LW_rule_21 (by decide) ?_
  exact hret0 22 _ 0 (vp_updL oL 0 ((nI r1).toInt64)) d_LW_rule_22 ⟨0, rfl, hv⟩
