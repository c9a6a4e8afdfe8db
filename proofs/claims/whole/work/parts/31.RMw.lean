theorem kw_1_147 : Cond.fieldLink "IgnoreRulesModel" 60 "IgnoreRulesModel" "size" "I" ∈ ig_T := ig_T_mem (List.mem_append_right _ (List.mem_append_left _ (List.mem_of_getElem? (i := 147) rfl))) rfl
theorem kw_1_149 : Cond.fieldLink "IgnoreRulesModel" 16 "IgnoreRulesModel" "from" "[I" ∈ ig_T := ig_T_mem (List.mem_append_right _ (List.mem_append_left _ (List.mem_of_getElem? (i := 149) rfl))) rfl
theorem kw_1_150 : Cond.fieldLink "IgnoreRulesModel" 19 "IgnoreRulesModel" "to" "[I" ∈ ig_T := ig_T_mem (List.mem_append_right _ (List.mem_append_left _ (List.mem_of_getElem? (i := 150) rfl))) rfl
theorem kw_1_151 : Cond.fieldLink "IgnoreRulesModel" 22 "IgnoreRulesModel" "bits" "[I" ∈ ig_T := ig_T_mem (List.mem_append_right _ (List.mem_append_left _ (List.mem_of_getElem? (i := 151) rfl))) rfl
theorem kw_1_152 : Cond.fieldLink "IgnoreRulesModel" 25 "IgnoreRulesModel" "lines" "[I" ∈ ig_T := ig_T_mem (List.mem_append_right _ (List.mem_append_left _ (List.mem_of_getElem? (i := 152) rfl))) rfl
theorem kw_1_153 : Cond.fieldLink "IgnoreRulesModel" 109 "IgnoreRulesModel" "rules" "I" ∈ ig_T := ig_T_mem (List.mem_append_right _ (List.mem_append_left _ (List.mem_of_getElem? (i := 153) rfl))) rfl
theorem kw_1_162 : Cond.fieldLink "IgnoreRulesModel" 44 "IgnoreRulesModel" "partFrom" "[I" ∈ ig_T := ig_T_mem (List.mem_append_right _ (List.mem_append_left _ (List.mem_of_getElem? (i := 162) rfl))) rfl
theorem kw_1_163 : Cond.fieldLink "IgnoreRulesModel" 47 "IgnoreRulesModel" "partTo" "[I" ∈ ig_T := ig_T_mem (List.mem_append_right _ (List.mem_append_left _ (List.mem_of_getElem? (i := 163) rfl))) rfl
theorem kw_1_164 : Cond.fieldLink "IgnoreRulesModel" 93 "IgnoreRulesModel" "parts" "I" ∈ ig_T := ig_T_mem (List.mem_append_right _ (List.mem_append_left _ (List.mem_of_getElem? (i := 164) rfl))) rfl
theorem kw_2_9 : Cond.methodLink "IgnoreRulesModel" 116 y_RM_line ∈ ig_T := ig_T_mem (List.mem_append_right _ (List.mem_append_right _ (List.mem_of_getElem? (i := 9) rfl))) rfl
theorem kw_2_11 : Cond.instanceMethod y_RM_line ∈ ig_T := ig_T_mem (List.mem_append_right _ (List.mem_append_right _ (List.mem_of_getElem? (i := 11) rfl))) rfl
theorem kw_2_13 : Cond.methodLink "IgnoreRulesModel" 102 y_RM_isBehindOdd ∈ ig_T := ig_T_mem (List.mem_append_right _ (List.mem_append_right _ (List.mem_of_getElem? (i := 13) rfl))) rfl
theorem kw_2_15 : Cond.instanceMethod y_RM_isBehindOdd ∈ ig_T := ig_T_mem (List.mem_append_right _ (List.mem_append_right _ (List.mem_of_getElem? (i := 15) rfl))) rfl
theorem kw_2_17 : Cond.methodLink "IgnoreRulesModel" 105 y_RM_has ∈ ig_T := ig_T_mem (List.mem_append_right _ (List.mem_append_right _ (List.mem_of_getElem? (i := 17) rfl))) rfl
theorem kw_2_19 : Cond.instanceMethod y_RM_has ∈ ig_T := ig_T_mem (List.mem_append_right _ (List.mem_append_right _ (List.mem_of_getElem? (i := 19) rfl))) rfl
theorem kw_2_21 : Cond.methodLink "IgnoreRulesModel" 112 y_RM_what ∈ ig_T := ig_T_mem (List.mem_append_right _ (List.mem_append_right _ (List.mem_of_getElem? (i := 21) rfl))) rfl
theorem kw_2_23 : Cond.instanceMethod y_RM_what ∈ ig_T := ig_T_mem (List.mem_append_right _ (List.mem_append_right _ (List.mem_of_getElem? (i := 23) rfl))) rfl
theorem kw_2_25 : Cond.methodLink "IgnoreRulesModel" 96 y_RM_findParts ∈ ig_T := ig_T_mem (List.mem_append_right _ (List.mem_append_right _ (List.mem_of_getElem? (i := 25) rfl))) rfl
theorem kw_2_27 : Cond.instanceMethod y_RM_findParts ∈ ig_T := ig_T_mem (List.mem_append_right _ (List.mem_append_right _ (List.mem_of_getElem? (i := 27) rfl))) rfl
theorem kw_2_29 : Cond.methodLink "IgnoreRulesModel" 99 y_RM_isVoidName ∈ ig_T := ig_T_mem (List.mem_append_right _ (List.mem_append_right _ (List.mem_of_getElem? (i := 29) rfl))) rfl
theorem kw_2_31 : Cond.instanceMethod y_RM_isVoidName ∈ ig_T := ig_T_mem (List.mem_append_right _ (List.mem_append_right _ (List.mem_of_getElem? (i := 31) rfl))) rfl
theorem d_RM_findParts_0 : decode b_RM_findParts 0 = .ok (.aload_n 0, 1) := by decide +kernel
theorem d_RM_findParts_1 : decode b_RM_findParts 1 = .ok (.iconst 0, 1) := by decide +kernel
theorem d_RM_findParts_2 : decode b_RM_findParts 2 = .ok (.putfield 93, 3) := by decide +kernel
theorem d_RM_findParts_5 : decode b_RM_findParts 5 = .ok (.iload_n 1, 1) := by decide +kernel
theorem d_RM_findParts_6 : decode b_RM_findParts 6 = .ok (.istore_n 3, 1) := by decide +kernel
theorem d_RM_findParts_7 : decode b_RM_findParts 7 = .ok (.iload_n 1, 1) := by decide +kernel
theorem d_RM_findParts_8 : decode b_RM_findParts 8 = .ok (.istore 4, 2) := by decide +kernel
theorem d_RM_findParts_10 : decode b_RM_findParts 10 = .ok (.iload 4, 2) := by decide +kernel
theorem d_RM_findParts_12 : decode b_RM_findParts 12 = .ok (.iload_n 2, 1) := by decide +kernel
theorem d_RM_findParts_13 : decode b_RM_findParts 13 = .ok (.if_icmp .gt 63, 3) := by decide +kernel
theorem d_RM_findParts_16 : decode b_RM_findParts 16 = .ok (.iload 4, 2) := by decide +kernel
theorem d_RM_findParts_18 : decode b_RM_findParts 18 = .ok (.iload_n 2, 1) := by decide +kernel
theorem d_RM_findParts_19 : decode b_RM_findParts 19 = .ok (.if_icmp .eq 15, 3) := by decide +kernel
theorem d_RM_findParts_22 : decode b_RM_findParts 22 = .ok (.aload_n 0, 1) := by decide +kernel
theorem d_RM_findParts_23 : decode b_RM_findParts 23 = .ok (.getfield 13, 3) := by decide +kernel
theorem d_RM_findParts_26 : decode b_RM_findParts 26 = .ok (.iload 4, 2) := by decide +kernel
theorem d_RM_findParts_28 : decode b_RM_findParts 28 = .ok (.iaload, 1) := by decide +kernel
theorem d_RM_findParts_29 : decode b_RM_findParts 29 = .ok (.bipush 47, 2) := by decide +kernel
theorem d_RM_findParts_31 : decode b_RM_findParts 31 = .ok (.if_icmp .ne 39, 3) := by decide +kernel
theorem d_RM_findParts_34 : decode b_RM_findParts 34 = .ok (.aload_n 0, 1) := by decide +kernel
theorem d_RM_findParts_35 : decode b_RM_findParts 35 = .ok (.getfield 44, 3) := by decide +kernel
theorem d_RM_findParts_38 : decode b_RM_findParts 38 = .ok (.aload_n 0, 1) := by decide +kernel
theorem d_RM_findParts_39 : decode b_RM_findParts 39 = .ok (.getfield 93, 3) := by decide +kernel
theorem d_RM_findParts_42 : decode b_RM_findParts 42 = .ok (.iload_n 3, 1) := by decide +kernel
theorem d_RM_findParts_43 : decode b_RM_findParts 43 = .ok (.iastore, 1) := by decide +kernel
theorem d_RM_findParts_44 : decode b_RM_findParts 44 = .ok (.aload_n 0, 1) := by decide +kernel
theorem d_RM_findParts_45 : decode b_RM_findParts 45 = .ok (.getfield 47, 3) := by decide +kernel
theorem d_RM_findParts_48 : decode b_RM_findParts 48 = .ok (.aload_n 0, 1) := by decide +kernel
theorem d_RM_findParts_49 : decode b_RM_findParts 49 = .ok (.getfield 93, 3) := by decide +kernel
theorem d_RM_findParts_52 : decode b_RM_findParts 52 = .ok (.iload 4, 2) := by decide +kernel
theorem d_RM_findParts_54 : decode b_RM_findParts 54 = .ok (.iastore, 1) := by decide +kernel
theorem d_RM_findParts_55 : decode b_RM_findParts 55 = .ok (.aload_n 0, 1) := by decide +kernel
theorem d_RM_findParts_56 : decode b_RM_findParts 56 = .ok (.dup, 1) := by decide +kernel
theorem d_RM_findParts_57 : decode b_RM_findParts 57 = .ok (.getfield 93, 3) := by decide +kernel
theorem d_RM_findParts_60 : decode b_RM_findParts 60 = .ok (.iconst 1, 1) := by decide +kernel
theorem d_RM_findParts_61 : decode b_RM_findParts 61 = .ok (.iadd, 1) := by decide +kernel
theorem d_RM_findParts_62 : decode b_RM_findParts 62 = .ok (.putfield 93, 3) := by decide +kernel
theorem d_RM_findParts_65 : decode b_RM_findParts 65 = .ok (.iload 4, 2) := by decide +kernel
theorem d_RM_findParts_67 : decode b_RM_findParts 67 = .ok (.iconst 1, 1) := by decide +kernel
theorem d_RM_findParts_68 : decode b_RM_findParts 68 = .ok (.iadd, 1) := by decide +kernel
theorem d_RM_findParts_69 : decode b_RM_findParts 69 = .ok (.istore_n 3, 1) := by decide +kernel
theorem d_RM_findParts_70 : decode b_RM_findParts 70 = .ok (.iinc 4 1, 3) := by decide +kernel
theorem d_RM_findParts_73 : decode b_RM_findParts 73 = .ok (.goto (-63), 3) := by decide +kernel
theorem d_RM_findParts_76 : decode b_RM_findParts 76 = .ok (.return_, 1) := by decide +kernel
abbrev w_RM_findParts : List Cond := Cond.code y_RM_findParts b_RM_findParts 5 none :: ig_T
theorem g_RM_findParts : GoodIn ig_T w_RM_findParts := ig_T_good (ig_T_mem (List.mem_append_right _ (List.mem_append_right _ (List.mem_of_getElem? (i := 28) rfl))) rfl)
set_option maxHeartbeats 4000000 in
set_option maxRecDepth 100000 in
theorem c_RM_findParts (l : Launch) (dC : Nat → ClassId) (dI : Nat → Nat → Nat) (cC cI cZ cL : ClassId) (o0 ra rx rf rt rb rl rp ru_ rv rr rs rg rh rz ry : Nat) (th : Int32) (si : Int32) (ru : Int32) (na : Int32) (nx : Int32) (so : Int32) (bz : Int32) (de : Int32) (dp : Int32) (io : Int32) (pa : Nat) (tX : Nat → Int32) (wF : Nat → Nat) (wT : Nat → Nat) (f : Nat) (a : Nat) (sz : Nat) (hr : r_RM_findParts pa tX wF wT f a) : Met l y_RM_findParts w_RM_findParts ({ frames := 0, cells := 0, slots := 0, locals := 0 }) (ig_Pc (dC, dI) ig_cl0 [(cC, .char), (cI, .int), (cZ, .boolean), (cL, .long)] [.ref o0, .int (nI f), .int (nI a)] [(o0, .inr (ciRM, [.int th, .ref ra, .int si, .ref rx, .ref rf, .ref rt, .ref rb, .ref rl, .int ru, .ref rp, .ref ru_, .ref rv, .int na, .int nx, .int so, .ref rr, .ref rs, .ref rg, .ref rh, .int (nI pa), .ref rz, .ref ry, .int bz, .int de, .int dp, .int io])), (rx, .inl (cI, 1000, .inl tX)), (rg, .inl (cI, 1001, .inl (fun zj => nI (wF zj)))), (rh, .inl (cI, 1001, .inl (fun zj => nI (wT zj))))] sz) (va_Qv (fun (u : Nat × (Nat → Nat) × (Nat → Nat)) => p_RM_findParts pa tX wF wT f a u.1 u.2.1 u.2.2) (fun u t => va_P (dC, dI) ig_cl0 ((fun (u : Nat × (Nat → Nat) × (Nat → Nat)) => [(o0, .inr (ciRM, [.int th, .ref ra, .int si, .ref rx, .ref rf, .ref rt, .ref rb, .ref rl, .int ru, .ref rp, .ref ru_, .ref rv, .int na, .int nx, .int so, .ref rr, .ref rs, .ref rg, .ref rh, .int (nI u.1), .ref rz, .ref ry, .int bz, .int de, .int dp, .int io])), (rx, .inl (cI, 1000, .inl tX)), (rg, .inl (cI, 1001, .inl (fun zj => nI (u.2.1 zj)))), (rh, .inl (cI, 1001, .inl (fun zj => nI (u.2.2 zj))))]) u) t.heap ∧ va_D (va_A [(o0, .inr (ciRM, [.int th, .ref ra, .int si, .ref rx, .ref rf, .ref rt, .ref rb, .ref rl, .int ru, .ref rp, .ref ru_, .ref rv, .int na, .int nx, .int so, .ref rr, .ref rs, .ref rg, .ref rh, .int (nI pa), .ref rz, .ref ry, .int bz, .int de, .int dp, .int io])), (rx, .inl (cI, 1000, .inl tX)), (rg, .inl (cI, 1001, .inl (fun zj => nI (wF zj)))), (rh, .inl (cI, 1001, .inl (fun zj => nI (wT zj))))] sz) ((fun (u : Nat × (Nat → Nat) × (Nat → Nat)) => [(o0, .inr (ciRM, [.int th, .ref ra, .int si, .ref rx, .ref rf, .ref rt, .ref rb, .ref rl, .int ru, .ref rp, .ref ru_, .ref rv, .int na, .int nx, .int so, .ref rr, .ref rs, .ref rg, .ref rh, .int (nI u.1), .ref rz, .ref ry, .int bz, .int de, .int dp, .int io])), (rx, .inl (cI, 1000, .inl tX)), (rg, .inl (cI, 1001, .inl (fun zj => nI (u.2.1 zj)))), (rh, .inl (cI, 1001, .inl (fun zj => nI (u.2.2 zj))))]) u)) (va_A [(o0, .inr (ciRM, [.int th, .ref ra, .int si, .ref rx, .ref rf, .ref rt, .ref rb, .ref rl, .int ru, .ref rp, .ref ru_, .ref rv, .int na, .int nx, .int so, .ref rr, .ref rs, .ref rg, .ref rh, .int (nI pa), .ref rz, .ref ry, .int bz, .int de, .int dp, .int io])), (rx, .inl (cI, 1000, .inl tX)), (rg, .inl (cI, 1001, .inl (fun zj => nI (wF zj)))), (rh, .inl (cI, 1001, .inl (fun zj => nI (wT zj))))] sz)) 0 0 (va_A [(o0, .inr (ciRM, [.int th, .ref ra, .int si, .ref rx, .ref rf, .ref rt, .ref rb, .ref rl, .int ru, .ref rp, .ref ru_, .ref rv, .int na, .int nx, .int so, .ref rr, .ref rs, .ref rg, .ref rh, .int (nI pa), .ref rz, .ref ry, .int bz, .int de, .int dp, .int io])), (rx, .inl (cI, 1000, .inl tX)), (rg, .inl (cI, 1001, .inl (fun zj => nI (wF zj)))), (rh, .inl (cI, 1001, .inl (fun zj => nI (wT zj))))] sz) := by
  refine ig_metV (fun (u : Nat × (Nat → Nat) × (Nat → Nat)) => p_RM_findParts pa tX wF wT f a u.1 u.2.1 u.2.2) (fun (u : Nat × (Nat → Nat) × (Nat → Nat)) => [(o0, .inr (ciRM, [.int th, .ref ra, .int si, .ref rx, .ref rf, .ref rt, .ref rb, .ref rl, .int ru, .ref rp, .ref ru_, .ref rv, .int na, .int nx, .int so, .ref rr, .ref rs, .ref rg, .ref rh, .int (nI u.1), .ref rz, .ref ry, .int bz, .int de, .int dp, .int io])), (rx, .inl (cI, 1000, .inl tX)), (rg, .inl (cI, 1001, .inl (fun zj => nI (u.2.1 zj)))), (rh, .inl (cI, 1001, .inl (fun zj => nI (u.2.2 zj))))]) (by decide) rfl (Nat.le_of_ble_eq_true rfl) rfl ?_
  intro zp ze zs zm zargs zbelow zmeth zc zA zQ hx hb hml hown hts hK hN hA hret
  obtain ⟨K10, hK10⟩ : ∃ K : Nat → Nat → Nat → (Nat → Nat) → (Nat → Nat) → Prop, K = fun (g : Nat) (b : Nat) (pac : Nat) (wFc : Nat → Nat) (wTc : Nat → Nat) => ig_W zp l ze ({ frames := 0, cells := 0, slots := 0, locals := 0 }) zs zm zargs zbelow zmeth zc (dC, dI) ig_cl0 zA zs.heap 5 0 0 zQ 10 [(0, .ref o0), (2, .int (nI a)), (3, .int (nI g)), (4, .int (nI b))] [] [(o0, .inr (ciRM, [.int th, .ref ra, .int si, .ref rx, .ref rf, .ref rt, .ref rb, .ref rl, .int ru, .ref rp, .ref ru_, .ref rv, .int na, .int nx, .int so, .ref rr, .ref rs, .ref rg, .ref rh, .int (nI pac), .ref rz, .ref ry, .int bz, .int de, .int dp, .int io])), (rx, .inl (cI, 1000, .inl tX)), (rg, .inl (cI, 1001, .inl (fun zj => nI (wFc zj)))), (rh, .inl (cI, 1001, .inl (fun zj => nI (wTc zj))))] := ⟨_, rfl⟩
  have j34 : ∀ (g : Nat) (b : Nat) (pac : Nat) (wFc : Nat → Nat) (wTc : Nat → Nat), v_RM_findParts_34 pa tX wF wT f a K10 (p_RM_findParts pa tX wF wT f a) g b pac wFc wTc → ig_W zp l ze ({ frames := 0, cells := 0, slots := 0, locals := 0 }) zs zm zargs zbelow zmeth zc (dC, dI) ig_cl0 zA zs.heap 5 0 0 zQ 34 [(0, .ref o0), (2, .int (nI a)), (3, .int (nI g)), (4, .int (nI b))] [] [(o0, .inr (ciRM, [.int th, .ref ra, .int si, .ref rx, .ref rf, .ref rt, .ref rb, .ref rl, .int ru, .ref rp, .ref ru_, .ref rv, .int na, .int nx, .int so, .ref rr, .ref rs, .ref rg, .ref rh, .int (nI pac), .ref rz, .ref ry, .int bz, .int de, .int dp, .int io])), (rx, .inl (cI, 1000, .inl tX)), (rg, .inl (cI, 1001, .inl (fun zj => nI (wFc zj)))), (rh, .inl (cI, 1001, .inl (fun zj => nI (wTc zj))))] := by
    intro g b pac wFc wTc hv
    unfold v_RM_findParts_34 at hv
    refine ig_aload_n hx hb 0 d_RM_findParts_34 rfl rfl ?_
    refine ig_get hx hb hts in_RM hown hK 0 rfl rfl 17 (by decide) (hts _ kw_1_162) (fun _ h => h) rfl d_RM_findParts_35 ?_
    refine ig_aload_n hx hb 0 d_RM_findParts_38 rfl rfl ?_
    refine ig_get hx hb hts in_RM hown hK 0 rfl rfl 19 (by decide) (hts _ kw_1_164) (fun _ h => h) rfl d_RM_findParts_39 ?_
    refine ig_iload_n hx hb 2 d_RM_findParts_42 rfl rfl ?_
    obtain ⟨hc, hv⟩ := hv
    refine ig_iast (f' := fun zj => nI ((updN wFc pac g) zj)) (ws' := [(o0, .inr (ciRM, [.int th, .ref ra, .int si, .ref rx, .ref rf, .ref rt, .ref rb, .ref rl, .int ru, .ref rp, .ref ru_, .ref rv, .int na, .int nx, .int so, .ref rr, .ref rs, .ref rg, .ref rh, .int (nI pac), .ref rz, .ref ry, .int bz, .int de, .int dp, .int io])), (rx, .inl (cI, 1000, .inl tX)), (rg, .inl (cI, 1001, .inl (fun zj => nI ((updN wFc pac g) zj)))), (rh, .inl (cI, 1001, .inl (fun zj => nI (wTc zj))))]) hx hb hK 2 1 rfl rfl pac rfl hc (by decide) (upd_N wFc pac g) d_RM_findParts_43 rfl ?_
    refine ig_aload_n hx hb 0 d_RM_findParts_44 rfl rfl ?_
    refine ig_get hx hb hts in_RM hown hK 0 rfl rfl 18 (by decide) (hts _ kw_1_163) (fun _ h => h) rfl d_RM_findParts_45 ?_
    refine ig_aload_n hx hb 0 d_RM_findParts_48 rfl rfl ?_
    refine ig_get hx hb hts in_RM hown hK 0 rfl rfl 19 (by decide) (hts _ kw_1_164) (fun _ h => h) rfl d_RM_findParts_49 ?_
    refine ig_iload hx hb 3 d_RM_findParts_52 rfl ?_
    obtain ⟨hc, hv⟩ := hv
    refine ig_iast (f' := fun zj => nI ((updN wTc pac b) zj)) (ws' := [(o0, .inr (ciRM, [.int th, .ref ra, .int si, .ref rx, .ref rf, .ref rt, .ref rb, .ref rl, .int ru, .ref rp, .ref ru_, .ref rv, .int na, .int nx, .int so, .ref rr, .ref rs, .ref rg, .ref rh, .int (nI pac), .ref rz, .ref ry, .int bz, .int de, .int dp, .int io])), (rx, .inl (cI, 1000, .inl tX)), (rg, .inl (cI, 1001, .inl (fun zj => nI ((updN wFc pac g) zj)))), (rh, .inl (cI, 1001, .inl (fun zj => nI ((updN wTc pac b) zj))))]) hx hb hK 3 1 rfl rfl pac rfl hc (by decide) (upd_N wTc pac b) d_RM_findParts_54 rfl ?_
    refine ig_aload_n hx hb 0 d_RM_findParts_55 rfl rfl ?_
    refine ig_dup hx hb d_RM_findParts_56 rfl ?_
    refine ig_get hx hb hts in_RM hown hK 0 rfl rfl 19 (by decide) (hts _ kw_1_164) (fun _ h => h) rfl d_RM_findParts_57 ?_
    refine ig_iconst (v := 1) hx hb d_RM_findParts_60 (by decide) ?_
    refine ig_iaddN hx hb pac 1 rfl rfl d_RM_findParts_61 ?_
    refine ig_put (ty := .int) (v := .int (nI (pac + 1))) (ws' := [(o0, .inr (ciRM, [.int th, .ref ra, .int si, .ref rx, .ref rf, .ref rt, .ref rb, .ref rl, .int ru, .ref rp, .ref ru_, .ref rv, .int na, .int nx, .int so, .ref rr, .ref rs, .ref rg, .ref rh, .int (nI (pac + 1)), .ref rz, .ref ry, .int bz, .int de, .int dp, .int io])), (rx, .inl (cI, 1000, .inl tX)), (rg, .inl (cI, 1001, .inl (fun zj => nI ((updN wFc pac g) zj)))), (rh, .inl (cI, 1001, .inl (fun zj => nI ((updN wTc pac b) zj))))]) hx hb hts in_RM t_RM t_RM_ok n_RM hown hK 0 rfl rfl 19 (by decide) (hts _ kw_1_164) (fun _ h => h) rfl (by decide +kernel) rfl rfl (Nat.le_of_ble_eq_true rfl) d_RM_findParts_62 rfl ?_
    refine ig_iload hx hb 3 d_RM_findParts_65 rfl ?_
    refine ig_iconst (v := 1) hx hb d_RM_findParts_67 (by decide) ?_
    refine ig_iaddN hx hb b 1 rfl rfl d_RM_findParts_68 ?_
    refine ig_istore_n (lv' := [(3, .int (nI (b + 1))), (0, .ref o0), (2, .int (nI a)), (4, .int (nI b))]) hx hb d_RM_findParts_69 rfl (by decide) rfl ?_
    refine ig_iinc (v := (nI (b + 1))) (lv' := [(4, .int (nI (b + 1))), (3, .int (nI (b + 1))), (0, .ref o0), (2, .int (nI a))]) hx hb 3 d_RM_findParts_70 rfl (ig_inc b 1 (by decide)) (by decide) rfl ?_
    refine ig_goto (tgt := 10) hx hb d_RM_findParts_73 (by decide) ?_
    refine ig_lv (lv' := [(0, .ref o0), (2, .int (nI a)), (3, .int (nI (b + 1))), (4, .int (nI (b + 1)))]) [2, 3, 1, 0] rfl ?_
    rw [hK10] at hv
    exact hv
  have k10 : ∀ (g : Nat) (b : Nat) (pac : Nat) (wFc : Nat → Nat) (wTc : Nat → Nat), v_RM_findParts_10 pa tX wF wT f a K10 (p_RM_findParts pa tX wF wT f a) g b pac wFc wTc → K10 g b pac wFc wTc := by
    intro g b pac wFc wTc hv
    unfold v_RM_findParts_10 at hv
    rw [hK10]
    show ig_W zp l ze ({ frames := 0, cells := 0, slots := 0, locals := 0 }) zs zm zargs zbelow zmeth zc (dC, dI) ig_cl0 zA zs.heap 5 0 0 zQ 10 [(0, .ref o0), (2, .int (nI a)), (3, .int (nI g)), (4, .int (nI b))] [] [(o0, .inr (ciRM, [.int th, .ref ra, .int si, .ref rx, .ref rf, .ref rt, .ref rb, .ref rl, .int ru, .ref rp, .ref ru_, .ref rv, .int na, .int nx, .int so, .ref rr, .ref rs, .ref rg, .ref rh, .int (nI pac), .ref rz, .ref ry, .int bz, .int de, .int dp, .int io])), (rx, .inl (cI, 1000, .inl tX)), (rg, .inl (cI, 1001, .inl (fun zj => nI (wFc zj)))), (rh, .inl (cI, 1001, .inl (fun zj => nI (wTc zj))))]
    refine ig_iload hx hb 3 d_RM_findParts_10 rfl ?_
    refine ig_iload_n hx hb 1 d_RM_findParts_12 rfl rfl ?_
    obtain ⟨h1, hv⟩ := hv
    obtain ⟨h2, hv⟩ := hv
    refine ig_icmp_gtN (tgt := 76) hx hb b a rfl rfl d_RM_findParts_13 (by decide) h1 h2 (fun h => ?_) (fun h => ?_)
    · have hv := hv.1 h
      exact hret 76 _ (pac, wFc, wTc) d_RM_findParts_76 hv
    · have hv := hv.2 h
      refine ig_iload hx hb 3 d_RM_findParts_16 rfl ?_
      refine ig_iload_n hx hb 1 d_RM_findParts_18 rfl rfl ?_
      obtain ⟨h1, hv⟩ := hv
      obtain ⟨h2, hv⟩ := hv
      refine ig_icmp_eqN (tgt := 34) hx hb b a rfl rfl d_RM_findParts_19 (by decide) h1 h2 (fun h => ?_) (fun h => ?_)
      · have hv := hv.1 h
        refine ig_lv (lv' := [(0, .ref o0), (2, .int (nI a)), (3, .int (nI g)), (4, .int (nI b))]) [0, 1, 2, 3] rfl ?_
        exact j34 _ _ _ _ _ hv
      · have hv := hv.2 h
        refine ig_aload_n hx hb 0 d_RM_findParts_22 rfl rfl ?_
        refine ig_get hx hb hts in_RM hown hK 0 rfl rfl 3 (by decide) (hts _ kw_1_148) (fun _ h => h) rfl d_RM_findParts_23 ?_
        refine ig_iload hx hb 3 d_RM_findParts_26 rfl ?_
        obtain ⟨hc, hv⟩ := hv
        refine ig_iald (x := (tX b)) hx hb hK 1 1 rfl rfl b rfl hc (by decide) rfl d_RM_findParts_28 ?_
        refine ig_bipush (v := 47) hx hb d_RM_findParts_29 (by decide) ?_
        refine ig_icmp_ne (tgt := 70) hx hb d_RM_findParts_31 (by decide) (fun h => ?_) (fun h => ?_)
        · have hv := hv.1 h
          refine ig_iinc (v := (nI (b + 1))) (lv' := [(4, .int (nI (b + 1))), (0, .ref o0), (2, .int (nI a)), (3, .int (nI g))]) hx hb 3 d_RM_findParts_70 rfl (ig_inc b 1 (by decide)) (by decide) rfl ?_
          refine ig_goto (tgt := 10) hx hb d_RM_findParts_73 (by decide) ?_
          refine ig_lv (lv' := [(0, .ref o0), (2, .int (nI a)), (3, .int (nI g)), (4, .int (nI (b + 1)))]) [1, 2, 3, 0] rfl ?_
          rw [hK10] at hv
          exact hv
        · have hv := hv.2 h
          refine ig_lv (lv' := [(0, .ref o0), (2, .int (nI a)), (3, .int (nI g)), (4, .int (nI b))]) [0, 1, 2, 3] rfl ?_
          exact j34 _ _ _ _ _ hv
  have hv := t_RM_findParts pa tX wF wT f a hr K10 k10
  unfold v_RM_findParts at hv
  refine ig_aload_n hx hb 0 d_RM_findParts_0 rfl rfl ?_
  refine ig_iconst (v := 0) hx hb d_RM_findParts_1 (by decide) ?_
  refine ig_put (ty := .int) (v := .int 0) (ws' := [(o0, .inr (ciRM, [.int th, .ref ra, .int si, .ref rx, .ref rf, .ref rt, .ref rb, .ref rl, .int ru, .ref rp, .ref ru_, .ref rv, .int na, .int nx, .int so, .ref rr, .ref rs, .ref rg, .ref rh, .int (nI 0), .ref rz, .ref ry, .int bz, .int de, .int dp, .int io])), (rx, .inl (cI, 1000, .inl tX)), (rg, .inl (cI, 1001, .inl (fun zj => nI (wF zj)))), (rh, .inl (cI, 1001, .inl (fun zj => nI (wT zj))))]) hx hb hts in_RM t_RM t_RM_ok n_RM hown hK 0 rfl rfl 19 (by decide) (hts _ kw_1_164) (fun _ h => h) rfl (by decide +kernel) rfl rfl (Nat.le_of_ble_eq_true rfl) d_RM_findParts_2 rfl ?_
  refine ig_iload_n hx hb 1 d_RM_findParts_5 rfl rfl ?_
  refine ig_istore_n (lv' := [(3, .int (nI f)), (0, .ref o0), (1, .int (nI f)), (2, .int (nI a))]) hx hb d_RM_findParts_6 rfl (by decide) rfl ?_
  refine ig_iload_n hx hb 2 d_RM_findParts_7 rfl rfl ?_
  refine ig_istore (lv' := [(4, .int (nI f)), (3, .int (nI f)), (0, .ref o0), (1, .int (nI f)), (2, .int (nI a))]) hx hb d_RM_findParts_8 (by decide) rfl ?_
  refine ig_lv (lv' := [(0, .ref o0), (2, .int (nI a)), (3, .int (nI f)), (4, .int (nI f))]) [2, 4, 1, 0] rfl ?_
  rw [hK10] at hv
  exact hv
theorem d_RM_what_0 : decode b_RM_what 0 = .ok (.iconst 0, 1) := by decide +kernel
theorem d_RM_what_1 : decode b_RM_what 1 = .ok (.istore 6, 2) := by decide +kernel
theorem d_RM_what_3 : decode b_RM_what 3 = .ok (.aload_n 0, 1) := by decide +kernel
theorem d_RM_what_4 : decode b_RM_what 4 = .ok (.iload_n 1, 1) := by decide +kernel
theorem d_RM_what_5 : decode b_RM_what 5 = .ok (.iload_n 2, 1) := by decide +kernel
theorem d_RM_what_6 : decode b_RM_what 6 = .ok (.invokevirtual 96, 3) := by decide +kernel
theorem d_RM_what_9 : decode b_RM_what 9 = .ok (.iconst 0, 1) := by decide +kernel
theorem d_RM_what_10 : decode b_RM_what 10 = .ok (.istore 7, 2) := by decide +kernel
theorem d_RM_what_12 : decode b_RM_what 12 = .ok (.iload 7, 2) := by decide +kernel
theorem d_RM_what_14 : decode b_RM_what 14 = .ok (.aload_n 0, 1) := by decide +kernel
theorem d_RM_what_15 : decode b_RM_what 15 = .ok (.getfield 93, 3) := by decide +kernel
theorem d_RM_what_18 : decode b_RM_what 18 = .ok (.if_icmp .ge 42, 3) := by decide +kernel
theorem d_RM_what_21 : decode b_RM_what 21 = .ok (.iload 6, 2) := by decide +kernel
theorem d_RM_what_23 : decode b_RM_what 23 = .ok (.ifCond .ne 24, 3) := by decide +kernel
theorem d_RM_what_26 : decode b_RM_what 26 = .ok (.aload_n 0, 1) := by decide +kernel
theorem d_RM_what_27 : decode b_RM_what 27 = .ok (.aload_n 0, 1) := by decide +kernel
theorem d_RM_what_28 : decode b_RM_what 28 = .ok (.getfield 44, 3) := by decide +kernel
theorem d_RM_what_31 : decode b_RM_what 31 = .ok (.iload 7, 2) := by decide +kernel
theorem d_RM_what_33 : decode b_RM_what 33 = .ok (.iaload, 1) := by decide +kernel
theorem d_RM_what_34 : decode b_RM_what 34 = .ok (.aload_n 0, 1) := by decide +kernel
theorem d_RM_what_35 : decode b_RM_what 35 = .ok (.getfield 47, 3) := by decide +kernel
theorem d_RM_what_38 : decode b_RM_what 38 = .ok (.iload 7, 2) := by decide +kernel
theorem d_RM_what_40 : decode b_RM_what 40 = .ok (.iaload, 1) := by decide +kernel
theorem d_RM_what_41 : decode b_RM_what 41 = .ok (.invokevirtual 99, 3) := by decide +kernel
theorem d_RM_what_44 : decode b_RM_what 44 = .ok (.ifCond .eq 7, 3) := by decide +kernel
theorem d_RM_what_47 : decode b_RM_what 47 = .ok (.iconst 1, 1) := by decide +kernel
theorem d_RM_what_48 : decode b_RM_what 48 = .ok (.goto 4, 3) := by decide +kernel
theorem d_RM_what_51 : decode b_RM_what 51 = .ok (.iconst 0, 1) := by decide +kernel
theorem d_RM_what_52 : decode b_RM_what 52 = .ok (.istore 6, 2) := by decide +kernel
theorem d_RM_what_54 : decode b_RM_what 54 = .ok (.iinc 7 1, 3) := by decide +kernel
theorem d_RM_what_57 : decode b_RM_what 57 = .ok (.goto (-45), 3) := by decide +kernel
theorem d_RM_what_60 : decode b_RM_what 60 = .ok (.iload_n 3, 1) := by decide +kernel
theorem d_RM_what_61 : decode b_RM_what 61 = .ok (.ifCond .eq 7, 3) := by decide +kernel
theorem d_RM_what_64 : decode b_RM_what 64 = .ok (.iconst 1, 1) := by decide +kernel
theorem d_RM_what_65 : decode b_RM_what 65 = .ok (.goto 4, 3) := by decide +kernel
theorem d_RM_what_68 : decode b_RM_what 68 = .ok (.iconst 0, 1) := by decide +kernel
theorem d_RM_what_69 : decode b_RM_what 69 = .ok (.iload 4, 2) := by decide +kernel
theorem d_RM_what_71 : decode b_RM_what 71 = .ok (.ifCond .eq 7, 3) := by decide +kernel
theorem d_RM_what_74 : decode b_RM_what 74 = .ok (.iconst 2, 1) := by decide +kernel
theorem d_RM_what_75 : decode b_RM_what 75 = .ok (.goto 4, 3) := by decide +kernel
theorem d_RM_what_78 : decode b_RM_what 78 = .ok (.iconst 0, 1) := by decide +kernel
theorem d_RM_what_79 : decode b_RM_what 79 = .ok (.iadd, 1) := by decide +kernel
theorem d_RM_what_80 : decode b_RM_what 80 = .ok (.iload 5, 2) := by decide +kernel
theorem d_RM_what_82 : decode b_RM_what 82 = .ok (.ifCond .eq 7, 3) := by decide +kernel
theorem d_RM_what_85 : decode b_RM_what 85 = .ok (.iconst 4, 1) := by decide +kernel
theorem d_RM_what_86 : decode b_RM_what 86 = .ok (.goto 4, 3) := by decide +kernel
theorem d_RM_what_89 : decode b_RM_what 89 = .ok (.iconst 0, 1) := by decide +kernel
theorem d_RM_what_90 : decode b_RM_what 90 = .ok (.iadd, 1) := by decide +kernel
theorem d_RM_what_91 : decode b_RM_what 91 = .ok (.iload 6, 2) := by decide +kernel
theorem d_RM_what_93 : decode b_RM_what 93 = .ok (.ifCond .eq 8, 3) := by decide +kernel
theorem d_RM_what_96 : decode b_RM_what 96 = .ok (.bipush 8, 2) := by decide +kernel
theorem d_RM_what_98 : decode b_RM_what 98 = .ok (.goto 4, 3) := by decide +kernel
theorem d_RM_what_101 : decode b_RM_what 101 = .ok (.iconst 0, 1) := by decide +kernel
theorem d_RM_what_102 : decode b_RM_what 102 = .ok (.iadd, 1) := by decide +kernel
theorem d_RM_what_103 : decode b_RM_what 103 = .ok (.ireturn, 1) := by decide +kernel
abbrev w_RM_what : List Cond := Cond.code y_RM_what b_RM_what 8 (some .int) :: ig_T
theorem g_RM_what : GoodIn ig_T w_RM_what := ig_T_good (ig_T_mem (List.mem_append_right _ (List.mem_append_right _ (List.mem_of_getElem? (i := 24) rfl))) rfl)
set_option maxHeartbeats 4000000 in
set_option maxRecDepth 100000 in
theorem c_RM_what (l : Launch) (dC : Nat → ClassId) (dI : Nat → Nat → Nat) (cC cI cZ cL : ClassId) (o0 ra rx rf rt rb rl rp ru_ rv rr rs rg rh rz ry : Nat) (th : Int32) (si : Int32) (ru : Int32) (na : Int32) (bz : Int32) (de : Int32) (dp : Int32) (io : Int32) (nx : Nat) (so : Nat) (pa : Nat) (tX : Nat → Int32) (wF : Nat → Nat) (wT : Nat → Nat) (f : Nat) (a : Nat) (b1 : Bool) (b2 : Bool) (b3 : Bool) (sz : Nat) (hr : r_RM_what nx so pa tX wF wT f a b1 b2 b3) : Met l y_RM_what w_RM_what ({ frames := 4, cells := 0, slots := 0, locals := 92 }) (ig_Pc (dC, dI) ig_cl0 [(cC, .char), (cI, .int), (cZ, .boolean), (cL, .long)] [.ref o0, .int (nI f), .int (nI a), .int (bI b1), .int (bI b2), .int (bI b3)] [(o0, .inr (ciRM, [.int th, .ref ra, .int si, .ref rx, .ref rf, .ref rt, .ref rb, .ref rl, .int ru, .ref rp, .ref ru_, .ref rv, .int na, .int (nI nx), .int (nI so), .ref rr, .ref rs, .ref rg, .ref rh, .int (nI pa), .ref rz, .ref ry, .int bz, .int de, .int dp, .int io])), (rx, .inl (cI, 1000, .inl tX)), (rg, .inl (cI, 1001, .inl (fun zj => nI (wF zj)))), (rh, .inl (cI, 1001, .inl (fun zj => nI (wT zj))))] sz) (va_Qi (fun (r : Int32) (u : Nat × Nat × Nat × (Nat → Nat) × (Nat → Nat)) => ∃ zr : Nat, r = nI zr ∧ p_RM_what nx so pa tX wF wT f a b1 b2 b3 zr u.1 u.2.1 u.2.2.1 u.2.2.2.1 u.2.2.2.2) (fun u t => va_P (dC, dI) ig_cl0 ((fun (u : Nat × Nat × Nat × (Nat → Nat) × (Nat → Nat)) => [(o0, .inr (ciRM, [.int th, .ref ra, .int si, .ref rx, .ref rf, .ref rt, .ref rb, .ref rl, .int ru, .ref rp, .ref ru_, .ref rv, .int na, .int (nI u.1), .int (nI u.2.1), .ref rr, .ref rs, .ref rg, .ref rh, .int (nI u.2.2.1), .ref rz, .ref ry, .int bz, .int de, .int dp, .int io])), (rx, .inl (cI, 1000, .inl tX)), (rg, .inl (cI, 1001, .inl (fun zj => nI (u.2.2.2.1 zj)))), (rh, .inl (cI, 1001, .inl (fun zj => nI (u.2.2.2.2 zj))))]) u) t.heap ∧ va_D (va_A [(o0, .inr (ciRM, [.int th, .ref ra, .int si, .ref rx, .ref rf, .ref rt, .ref rb, .ref rl, .int ru, .ref rp, .ref ru_, .ref rv, .int na, .int (nI nx), .int (nI so), .ref rr, .ref rs, .ref rg, .ref rh, .int (nI pa), .ref rz, .ref ry, .int bz, .int de, .int dp, .int io])), (rx, .inl (cI, 1000, .inl tX)), (rg, .inl (cI, 1001, .inl (fun zj => nI (wF zj)))), (rh, .inl (cI, 1001, .inl (fun zj => nI (wT zj))))] sz) ((fun (u : Nat × Nat × Nat × (Nat → Nat) × (Nat → Nat)) => [(o0, .inr (ciRM, [.int th, .ref ra, .int si, .ref rx, .ref rf, .ref rt, .ref rb, .ref rl, .int ru, .ref rp, .ref ru_, .ref rv, .int na, .int (nI u.1), .int (nI u.2.1), .ref rr, .ref rs, .ref rg, .ref rh, .int (nI u.2.2.1), .ref rz, .ref ry, .int bz, .int de, .int dp, .int io])), (rx, .inl (cI, 1000, .inl tX)), (rg, .inl (cI, 1001, .inl (fun zj => nI (u.2.2.2.1 zj)))), (rh, .inl (cI, 1001, .inl (fun zj => nI (u.2.2.2.2 zj))))]) u)) (va_A [(o0, .inr (ciRM, [.int th, .ref ra, .int si, .ref rx, .ref rf, .ref rt, .ref rb, .ref rl, .int ru, .ref rp, .ref ru_, .ref rv, .int na, .int (nI nx), .int (nI so), .ref rr, .ref rs, .ref rg, .ref rh, .int (nI pa), .ref rz, .ref ry, .int bz, .int de, .int dp, .int io])), (rx, .inl (cI, 1000, .inl tX)), (rg, .inl (cI, 1001, .inl (fun zj => nI (wF zj)))), (rh, .inl (cI, 1001, .inl (fun zj => nI (wT zj))))] sz)) 0 0 (va_A [(o0, .inr (ciRM, [.int th, .ref ra, .int si, .ref rx, .ref rf, .ref rt, .ref rb, .ref rl, .int ru, .ref rp, .ref ru_, .ref rv, .int na, .int (nI nx), .int (nI so), .ref rr, .ref rs, .ref rg, .ref rh, .int (nI pa), .ref rz, .ref ry, .int bz, .int de, .int dp, .int io])), (rx, .inl (cI, 1000, .inl tX)), (rg, .inl (cI, 1001, .inl (fun zj => nI (wF zj)))), (rh, .inl (cI, 1001, .inl (fun zj => nI (wT zj))))] sz) := by
  refine ig_metI (fun (r : Int32) (u : Nat × Nat × Nat × (Nat → Nat) × (Nat → Nat)) => ∃ zr : Nat, r = nI zr ∧ p_RM_what nx so pa tX wF wT f a b1 b2 b3 zr u.1 u.2.1 u.2.2.1 u.2.2.2.1 u.2.2.2.2) (fun (u : Nat × Nat × Nat × (Nat → Nat) × (Nat → Nat)) => [(o0, .inr (ciRM, [.int th, .ref ra, .int si, .ref rx, .ref rf, .ref rt, .ref rb, .ref rl, .int ru, .ref rp, .ref ru_, .ref rv, .int na, .int (nI u.1), .int (nI u.2.1), .ref rr, .ref rs, .ref rg, .ref rh, .int (nI u.2.2.1), .ref rz, .ref ry, .int bz, .int de, .int dp, .int io])), (rx, .inl (cI, 1000, .inl tX)), (rg, .inl (cI, 1001, .inl (fun zj => nI (u.2.2.2.1 zj)))), (rh, .inl (cI, 1001, .inl (fun zj => nI (u.2.2.2.2 zj))))]) (by decide) rfl (Nat.le_of_ble_eq_true rfl) rfl (fun _ _ _ => rfl) ?_
  intro zp ze zs zm zargs zbelow zmeth zc zA zQ hx hb hml hown hts hK hN hA hret
  obtain ⟨K12, hK12⟩ : ∃ K : Bool → Nat → Nat → Nat → Nat → (Nat → Nat) → (Nat → Nat) → Prop, K = fun (vo : Bool) (k : Nat) (nxc : Nat) (soc : Nat) (pac : Nat) (wFc : Nat → Nat) (wTc : Nat → Nat) => ig_W zp l ze ({ frames := 4, cells := 0, slots := 0, locals := 92 }) zs zm zargs zbelow zmeth zc (dC, dI) ig_cl0 zA zs.heap 8 0 0 zQ 12 [(0, .ref o0), (3, .int (bI b1)), (4, .int (bI b2)), (5, .int (bI b3)), (6, .int (bI vo)), (7, .int (nI k))] [] [(o0, .inr (ciRM, [.int th, .ref ra, .int si, .ref rx, .ref rf, .ref rt, .ref rb, .ref rl, .int ru, .ref rp, .ref ru_, .ref rv, .int na, .int (nI nxc), .int (nI soc), .ref rr, .ref rs, .ref rg, .ref rh, .int (nI pac), .ref rz, .ref ry, .int bz, .int de, .int dp, .int io])), (rx, .inl (cI, 1000, .inl tX)), (rg, .inl (cI, 1001, .inl (fun zj => nI (wFc zj)))), (rh, .inl (cI, 1001, .inl (fun zj => nI (wTc zj))))] := ⟨_, rfl⟩
  have j90 : ∀ (vo : Bool) (s0 : Nat) (s1 : Nat) (nxc : Nat) (soc : Nat) (pac : Nat) (wFc : Nat → Nat) (wTc : Nat → Nat), v_RM_what_90 nx so pa tX wF wT f a b1 b2 b3 K12 (p_RM_what nx so pa tX wF wT f a b1 b2 b3) vo s0 s1 nxc soc pac wFc wTc → ig_W zp l ze ({ frames := 4, cells := 0, slots := 0, locals := 92 }) zs zm zargs zbelow zmeth zc (dC, dI) ig_cl0 zA zs.heap 8 0 0 zQ 90 [(6, .int (bI vo))] [.int (nI s0), .int (nI s1)] [(o0, .inr (ciRM, [.int th, .ref ra, .int si, .ref rx, .ref rf, .ref rt, .ref rb, .ref rl, .int ru, .ref rp, .ref ru_, .ref rv, .int na, .int (nI nxc), .int (nI soc), .ref rr, .ref rs, .ref rg, .ref rh, .int (nI pac), .ref rz, .ref ry, .int bz, .int de, .int dp, .int io])), (rx, .inl (cI, 1000, .inl tX)), (rg, .inl (cI, 1001, .inl (fun zj => nI (wFc zj)))), (rh, .inl (cI, 1001, .inl (fun zj => nI (wTc zj))))] := by
    intro vo s0 s1 nxc soc pac wFc wTc hv
    unfold v_RM_what_90 at hv
    refine ig_iaddN hx hb s1 s0 rfl rfl d_RM_what_90 ?_
    refine ig_iload hx hb 0 d_RM_what_91 rfl ?_
    refine ig_if_eqB (tgt := 101) hx hb vo rfl d_RM_what_93 (by decide) (fun h => ?_) (fun h => ?_)
    · have hv := hv.1 h
      refine ig_iconst (v := 0) hx hb d_RM_what_101 (by decide) ?_
      refine ig_iaddN hx hb (s1 + s0) 0 rfl rfl d_RM_what_102 ?_
      exact hret 103 _ (nI ((s1 + s0) + 0)) (nxc, soc, pac, wFc, wTc) d_RM_what_103 ⟨(s1 + s0) + 0, rfl, hv⟩
    · have hv := hv.2 h
      refine ig_bipush (v := 8) hx hb d_RM_what_96 (by decide) ?_
      refine ig_goto (tgt := 102) hx hb d_RM_what_98 (by decide) ?_
      refine ig_iaddN hx hb (s1 + s0) 8 rfl rfl d_RM_what_102 ?_
      exact hret 103 _ (nI ((s1 + s0) + 8)) (nxc, soc, pac, wFc, wTc) d_RM_what_103 ⟨(s1 + s0) + 8, rfl, hv⟩
  have j79 : ∀ (vo : Bool) (s0 : Nat) (s1 : Nat) (nxc : Nat) (soc : Nat) (pac : Nat) (wFc : Nat → Nat) (wTc : Nat → Nat), v_RM_what_79 nx so pa tX wF wT f a b1 b2 b3 K12 (p_RM_what nx so pa tX wF wT f a b1 b2 b3) vo s0 s1 nxc soc pac wFc wTc → ig_W zp l ze ({ frames := 4, cells := 0, slots := 0, locals := 92 }) zs zm zargs zbelow zmeth zc (dC, dI) ig_cl0 zA zs.heap 8 0 0 zQ 79 [(5, .int (bI b3)), (6, .int (bI vo))] [.int (nI s0), .int (nI s1)] [(o0, .inr (ciRM, [.int th, .ref ra, .int si, .ref rx, .ref rf, .ref rt, .ref rb, .ref rl, .int ru, .ref rp, .ref ru_, .ref rv, .int na, .int (nI nxc), .int (nI soc), .ref rr, .ref rs, .ref rg, .ref rh, .int (nI pac), .ref rz, .ref ry, .int bz, .int de, .int dp, .int io])), (rx, .inl (cI, 1000, .inl tX)), (rg, .inl (cI, 1001, .inl (fun zj => nI (wFc zj)))), (rh, .inl (cI, 1001, .inl (fun zj => nI (wTc zj))))] := by
    intro vo s0 s1 nxc soc pac wFc wTc hv
    unfold v_RM_what_79 at hv
    refine ig_iaddN hx hb s1 s0 rfl rfl d_RM_what_79 ?_
    refine ig_iload hx hb 0 d_RM_what_80 rfl ?_
    refine ig_if_eqB (tgt := 89) hx hb b3 rfl d_RM_what_82 (by decide) (fun h => ?_) (fun h => ?_)
    · have hv := hv.1 h
      refine ig_iconst (v := 0) hx hb d_RM_what_89 (by decide) ?_
      refine ig_lv (lv' := [(6, .int (bI vo))]) [1] rfl ?_
      exact j90 _ _ _ _ _ _ _ _ hv
    · have hv := hv.2 h
      refine ig_iconst (v := 4) hx hb d_RM_what_85 (by decide) ?_
      refine ig_goto (tgt := 90) hx hb d_RM_what_86 (by decide) ?_
      refine ig_lv (lv' := [(6, .int (bI vo))]) [1] rfl ?_
      exact j90 _ _ _ _ _ _ _ _ hv
  have j69 : ∀ (vo : Bool) (s0 : Nat) (nxc : Nat) (soc : Nat) (pac : Nat) (wFc : Nat → Nat) (wTc : Nat → Nat), v_RM_what_69 nx so pa tX wF wT f a b1 b2 b3 K12 (p_RM_what nx so pa tX wF wT f a b1 b2 b3) vo s0 nxc soc pac wFc wTc → ig_W zp l ze ({ frames := 4, cells := 0, slots := 0, locals := 92 }) zs zm zargs zbelow zmeth zc (dC, dI) ig_cl0 zA zs.heap 8 0 0 zQ 69 [(4, .int (bI b2)), (5, .int (bI b3)), (6, .int (bI vo))] [.int (nI s0)] [(o0, .inr (ciRM, [.int th, .ref ra, .int si, .ref rx, .ref rf, .ref rt, .ref rb, .ref rl, .int ru, .ref rp, .ref ru_, .ref rv, .int na, .int (nI nxc), .int (nI soc), .ref rr, .ref rs, .ref rg, .ref rh, .int (nI pac), .ref rz, .ref ry, .int bz, .int de, .int dp, .int io])), (rx, .inl (cI, 1000, .inl tX)), (rg, .inl (cI, 1001, .inl (fun zj => nI (wFc zj)))), (rh, .inl (cI, 1001, .inl (fun zj => nI (wTc zj))))] := by
    intro vo s0 nxc soc pac wFc wTc hv
    unfold v_RM_what_69 at hv
    refine ig_iload hx hb 0 d_RM_what_69 rfl ?_
    refine ig_if_eqB (tgt := 78) hx hb b2 rfl d_RM_what_71 (by decide) (fun h => ?_) (fun h => ?_)
    · have hv := hv.1 h
      refine ig_iconst (v := 0) hx hb d_RM_what_78 (by decide) ?_
      refine ig_lv (lv' := [(5, .int (bI b3)), (6, .int (bI vo))]) [1, 2] rfl ?_
      exact j79 _ _ _ _ _ _ _ _ hv
    · have hv := hv.2 h
      refine ig_iconst (v := 2) hx hb d_RM_what_74 (by decide) ?_
      refine ig_goto (tgt := 79) hx hb d_RM_what_75 (by decide) ?_
      refine ig_lv (lv' := [(5, .int (bI b3)), (6, .int (bI vo))]) [1, 2] rfl ?_
      exact j79 _ _ _ _ _ _ _ _ hv
  have j47 : ∀ (k : Nat) (nxc : Nat) (soc : Nat) (pac : Nat) (wFc : Nat → Nat) (wTc : Nat → Nat), v_RM_what_47 nx so pa tX wF wT f a b1 b2 b3 K12 (p_RM_what nx so pa tX wF wT f a b1 b2 b3) k nxc soc pac wFc wTc → ig_W zp l ze ({ frames := 4, cells := 0, slots := 0, locals := 92 }) zs zm zargs zbelow zmeth zc (dC, dI) ig_cl0 zA zs.heap 8 0 0 zQ 47 [(0, .ref o0), (3, .int (bI b1)), (4, .int (bI b2)), (5, .int (bI b3)), (7, .int (nI k))] [] [(o0, .inr (ciRM, [.int th, .ref ra, .int si, .ref rx, .ref rf, .ref rt, .ref rb, .ref rl, .int ru, .ref rp, .ref ru_, .ref rv, .int na, .int (nI nxc), .int (nI soc), .ref rr, .ref rs, .ref rg, .ref rh, .int (nI pac), .ref rz, .ref ry, .int bz, .int de, .int dp, .int io])), (rx, .inl (cI, 1000, .inl tX)), (rg, .inl (cI, 1001, .inl (fun zj => nI (wFc zj)))), (rh, .inl (cI, 1001, .inl (fun zj => nI (wTc zj))))] := by
    intro k nxc soc pac wFc wTc hv
    unfold v_RM_what_47 at hv
    refine ig_iconst (v := 1) hx hb d_RM_what_47 (by decide) ?_
    refine ig_goto (tgt := 52) hx hb d_RM_what_48 (by decide) ?_
    refine ig_istore (lv' := [(6, .int 1), (0, .ref o0), (3, .int (bI b1)), (4, .int (bI b2)), (5, .int (bI b3)), (7, .int (nI k))]) hx hb d_RM_what_52 (by decide) rfl ?_
    refine ig_iinc (v := (nI (k + 1))) (lv' := [(7, .int (nI (k + 1))), (6, .int 1), (0, .ref o0), (3, .int (bI b1)), (4, .int (bI b2)), (5, .int (bI b3))]) hx hb 5 d_RM_what_54 rfl (ig_inc k 1 (by decide)) (by decide) rfl ?_
    refine ig_goto (tgt := 12) hx hb d_RM_what_57 (by decide) ?_
    refine ig_lv (lv' := [(0, .ref o0), (3, .int (bI b1)), (4, .int (bI b2)), (5, .int (bI b3)), (6, .int 1), (7, .int (nI (k + 1)))]) [2, 3, 4, 5, 1, 0] rfl ?_
    rw [hK12] at hv
    exact hv
  have k12 : ∀ (vo : Bool) (k : Nat) (nxc : Nat) (soc : Nat) (pac : Nat) (wFc : Nat → Nat) (wTc : Nat → Nat), v_RM_what_12 nx so pa tX wF wT f a b1 b2 b3 K12 (p_RM_what nx so pa tX wF wT f a b1 b2 b3) vo k nxc soc pac wFc wTc → K12 vo k nxc soc pac wFc wTc := by
    intro vo k nxc soc pac wFc wTc hv
    unfold v_RM_what_12 at hv
    rw [hK12]
    show ig_W zp l ze ({ frames := 4, cells := 0, slots := 0, locals := 92 }) zs zm zargs zbelow zmeth zc (dC, dI) ig_cl0 zA zs.heap 8 0 0 zQ 12 [(0, .ref o0), (3, .int (bI b1)), (4, .int (bI b2)), (5, .int (bI b3)), (6, .int (bI vo)), (7, .int (nI k))] [] [(o0, .inr (ciRM, [.int th, .ref ra, .int si, .ref rx, .ref rf, .ref rt, .ref rb, .ref rl, .int ru, .ref rp, .ref ru_, .ref rv, .int na, .int (nI nxc), .int (nI soc), .ref rr, .ref rs, .ref rg, .ref rh, .int (nI pac), .ref rz, .ref ry, .int bz, .int de, .int dp, .int io])), (rx, .inl (cI, 1000, .inl tX)), (rg, .inl (cI, 1001, .inl (fun zj => nI (wFc zj)))), (rh, .inl (cI, 1001, .inl (fun zj => nI (wTc zj))))]
    refine ig_iload hx hb 5 d_RM_what_12 rfl ?_
    refine ig_aload_n hx hb 0 d_RM_what_14 rfl rfl ?_
    refine ig_get hx hb hts in_RM hown hK 0 rfl rfl 19 (by decide) (hts _ kw_1_164) (fun _ h => h) rfl d_RM_what_15 ?_
    obtain ⟨h1, hv⟩ := hv
    obtain ⟨h2, hv⟩ := hv
    refine ig_icmp_geN (tgt := 60) hx hb k pac rfl rfl d_RM_what_18 (by decide) h1 h2 (fun h => ?_) (fun h => ?_)
    · have hv := hv.1 h
      refine ig_iload_n hx hb 1 d_RM_what_60 rfl rfl ?_
      refine ig_if_eqB (tgt := 68) hx hb b1 rfl d_RM_what_61 (by decide) (fun h => ?_) (fun h => ?_)
      · have hv := hv.1 h
        refine ig_iconst (v := 0) hx hb d_RM_what_68 (by decide) ?_
        refine ig_lv (lv' := [(4, .int (bI b2)), (5, .int (bI b3)), (6, .int (bI vo))]) [2, 3, 4] rfl ?_
        exact j69 _ _ _ _ _ _ _ hv
      · have hv := hv.2 h
        refine ig_iconst (v := 1) hx hb d_RM_what_64 (by decide) ?_
        refine ig_goto (tgt := 69) hx hb d_RM_what_65 (by decide) ?_
        refine ig_lv (lv' := [(4, .int (bI b2)), (5, .int (bI b3)), (6, .int (bI vo))]) [2, 3, 4] rfl ?_
        exact j69 _ _ _ _ _ _ _ hv
    · have hv := hv.2 h
      refine ig_iload hx hb 4 d_RM_what_21 rfl ?_
      refine ig_if_neB (tgt := 47) hx hb vo rfl d_RM_what_23 (by decide) (fun h => ?_) (fun h => ?_)
      · have hv := hv.1 h
        refine ig_lv (lv' := [(0, .ref o0), (3, .int (bI b1)), (4, .int (bI b2)), (5, .int (bI b3)), (7, .int (nI k))]) [0, 1, 2, 3, 5] rfl ?_
        exact j47 _ _ _ _ _ _ hv
      · have hv := hv.2 h
        refine ig_aload_n hx hb 0 d_RM_what_26 rfl rfl ?_
        refine ig_aload_n hx hb 0 d_RM_what_27 rfl rfl ?_
        refine ig_get hx hb hts in_RM hown hK 0 rfl rfl 17 (by decide) (hts _ kw_1_162) (fun _ h => h) rfl d_RM_what_28 ?_
        refine ig_iload hx hb 5 d_RM_what_31 rfl ?_
        obtain ⟨hc, hv⟩ := hv
        refine ig_iald (x := (nI (wFc k))) hx hb hK 2 1 rfl rfl k rfl hc (by decide) rfl d_RM_what_33 ?_
        refine ig_aload_n hx hb 0 d_RM_what_34 rfl rfl ?_
        refine ig_get hx hb hts in_RM hown hK 0 rfl rfl 18 (by decide) (hts _ kw_1_163) (fun _ h => h) rfl d_RM_what_35 ?_
        refine ig_iload hx hb 5 d_RM_what_38 rfl ?_
        obtain ⟨hc, hv⟩ := hv
        refine ig_iald (x := (nI (wTc k))) hx hb hK 3 1 rfl rfl k rfl hc (by decide) rfl d_RM_what_40 ?_
        obtain ⟨hc, hv⟩ := hv
        refine ig_cVi (As := [.int (nI (wFc k)), .int (nI (wTc k))]) (rest := []) (wr := [(rg, .inl (cI, 1001, .inl (fun zj => nI (wFc zj)))), (rh, .inl (cI, 1001, .inl (fun zj => nI (wTc zj))))]) (ws' := fun u => [(o0, .inr (ciRM, [.int th, .ref ra, .int si, .ref rx, .ref rf, .ref rt, .ref rb, .ref rl, .int ru, .ref rp, .ref ru_, .ref rv, .int na, .int (nI u.1), .int (nI u.2), .ref rr, .ref rs, .ref rg, .ref rh, .int (nI pac), .ref rz, .ref ry, .int bz, .int de, .int dp, .int io])), (rx, .inl (cI, 1000, .inl tX)), (rg, .inl (cI, 1001, .inl (fun zj => nI (wFc zj)))), (rh, .inl (cI, 1001, .inl (fun zj => nI (wTc zj))))]) hx hb hml hown hts hK hN hA (fun sz => c_RM_isVoidName l dC dI cC cI cZ cL o0 ra rx rf rt rb rl rp ru_ rv rr rs rg rh rz ry th si ru na (nI pac) bz de dp io nxc soc tX (wFc k) (wTc k) sz hc) ⟨callB_of 2 hts g_RM_isVoidName rfl rfl rfl (hts _ kw_0_5) (hts _ kw_2_29) (by decide +kernel) (by decide), (hts _ kw_2_31), (hts _ ks_RM_isVoidName)⟩ rfl rfl (Nat.le_of_ble_eq_true rfl) d_RM_what_41 (by decide) 0 rfl rfl [0, 1] [2, 3] [2, 3, 0, 1] rfl rfl (by decide) (by decide) (by decide) (fun _ => rfl) (fun _ => rfl) (fun r u hr => ?_)
        obtain ⟨nx4, so5⟩ := u
        obtain ⟨rr, rfl, hr⟩ := hr
        unfold p_RM_isVoidName at hr
        subst hr
        have hv := hv nx4 so5
        refine ig_if_eqB (tgt := 51) hx hb (decide ((wFc k) = (wTc k)) || sp_void tX (wTc k) (wFc k)) rfl d_RM_what_44 (by decide) (fun h => ?_) (fun h => ?_)
        · have hv := hv.1 h
          refine ig_iconst (v := 0) hx hb d_RM_what_51 (by decide) ?_
          refine ig_istore (lv' := [(6, .int 0), (0, .ref o0), (3, .int (bI b1)), (4, .int (bI b2)), (5, .int (bI b3)), (7, .int (nI k))]) hx hb d_RM_what_52 (by decide) rfl ?_
          refine ig_iinc (v := (nI (k + 1))) (lv' := [(7, .int (nI (k + 1))), (6, .int 0), (0, .ref o0), (3, .int (bI b1)), (4, .int (bI b2)), (5, .int (bI b3))]) hx hb 5 d_RM_what_54 rfl (ig_inc k 1 (by decide)) (by decide) rfl ?_
          refine ig_goto (tgt := 12) hx hb d_RM_what_57 (by decide) ?_
          refine ig_lv (lv' := [(0, .ref o0), (3, .int (bI b1)), (4, .int (bI b2)), (5, .int (bI b3)), (6, .int 0), (7, .int (nI (k + 1)))]) [2, 3, 4, 5, 1, 0] rfl ?_
          rw [hK12] at hv
          exact hv
        · have hv := hv.2 h
          refine ig_lv (lv' := [(0, .ref o0), (3, .int (bI b1)), (4, .int (bI b2)), (5, .int (bI b3)), (7, .int (nI k))]) [0, 1, 2, 3, 5] rfl ?_
          exact j47 _ _ _ _ _ _ hv
  have hv := t_RM_what nx so pa tX wF wT f a b1 b2 b3 hr K12 k12
  unfold v_RM_what at hv
  refine ig_iconst (v := 0) hx hb d_RM_what_0 (by decide) ?_
  refine ig_istore (lv' := [(6, .int 0), (0, .ref o0), (1, .int (nI f)), (2, .int (nI a)), (3, .int (bI b1)), (4, .int (bI b2)), (5, .int (bI b3))]) hx hb d_RM_what_1 (by decide) rfl ?_
  refine ig_aload_n hx hb 1 d_RM_what_3 rfl rfl ?_
  refine ig_iload_n hx hb 2 d_RM_what_4 rfl rfl ?_
  refine ig_iload_n hx hb 3 d_RM_what_5 rfl rfl ?_
  obtain ⟨hc, hv⟩ := hv
  refine ig_cVv (As := [.int (nI f), .int (nI a)]) (rest := []) (wr := []) (ws' := fun u => [(o0, .inr (ciRM, [.int th, .ref ra, .int si, .ref rx, .ref rf, .ref rt, .ref rb, .ref rl, .int ru, .ref rp, .ref ru_, .ref rv, .int na, .int (nI nx), .int (nI so), .ref rr, .ref rs, .ref rg, .ref rh, .int (nI u.1), .ref rz, .ref ry, .int bz, .int de, .int dp, .int io])), (rx, .inl (cI, 1000, .inl tX)), (rg, .inl (cI, 1001, .inl (fun zj => nI (u.2.1 zj)))), (rh, .inl (cI, 1001, .inl (fun zj => nI (u.2.2 zj))))]) hx hb hml hown hts hK hN hA (fun sz => c_RM_findParts l dC dI cC cI cZ cL o0 ra rx rf rt rb rl rp ru_ rv rr rs rg rh rz ry th si ru na (nI nx) (nI so) bz de dp io pa tX wF wT f a sz hc) ⟨callB_of 2 hts g_RM_findParts rfl rfl rfl (hts _ kw_0_5) (hts _ kw_2_25) (by decide +kernel) (by decide), (hts _ kw_2_27), (hts _ ks_RM_findParts)⟩ rfl rfl (Nat.le_of_ble_eq_true rfl) d_RM_what_6 (by decide) 0 rfl rfl [0, 1, 2, 3] [] [0, 1, 2, 3] rfl rfl (by decide) (by decide) (by decide) (fun _ => rfl) (fun _ => rfl) (fun u hr => ?_)
  obtain ⟨pa1, wF2, wT3⟩ := u
  unfold p_RM_findParts at hr
  have hv := hv pa1 wF2 wT3 hr
  refine ig_iconst (v := 0) hx hb d_RM_what_9 (by decide) ?_
  refine ig_istore (lv' := [(7, .int 0), (6, .int 0), (0, .ref o0), (1, .int (nI f)), (2, .int (nI a)), (3, .int (bI b1)), (4, .int (bI b2)), (5, .int (bI b3))]) hx hb d_RM_what_10 (by decide) rfl ?_
  refine ig_lv (lv' := [(0, .ref o0), (3, .int (bI b1)), (4, .int (bI b2)), (5, .int (bI b3)), (6, .int 0), (7, .int 0)]) [2, 5, 6, 7, 1, 0] rfl ?_
  rw [hK12] at hv
  exact hv
theorem d_RM_line_0 : decode b_RM_line 0 = .ok (.iload_n 2, 1) := by decide +kernel
theorem d_RM_line_1 : decode b_RM_line 1 = .ok (.istore 4, 2) := by decide +kernel
theorem d_RM_line_3 : decode b_RM_line 3 = .ok (.iload 4, 2) := by decide +kernel
theorem d_RM_line_5 : decode b_RM_line 5 = .ok (.iload_n 1, 1) := by decide +kernel
theorem d_RM_line_6 : decode b_RM_line 6 = .ok (.if_icmp .le 35, 3) := by decide +kernel
theorem d_RM_line_9 : decode b_RM_line 9 = .ok (.aload_n 0, 1) := by decide +kernel
theorem d_RM_line_10 : decode b_RM_line 10 = .ok (.getfield 13, 3) := by decide +kernel
theorem d_RM_line_13 : decode b_RM_line 13 = .ok (.iload 4, 2) := by decide +kernel
theorem d_RM_line_15 : decode b_RM_line 15 = .ok (.iconst 1, 1) := by decide +kernel
theorem d_RM_line_16 : decode b_RM_line 16 = .ok (.isub, 1) := by decide +kernel
theorem d_RM_line_17 : decode b_RM_line 17 = .ok (.iaload, 1) := by decide +kernel
theorem d_RM_line_18 : decode b_RM_line 18 = .ok (.bipush 32, 2) := by decide +kernel
theorem d_RM_line_20 : decode b_RM_line 20 = .ok (.if_icmp .ne 21, 3) := by decide +kernel
theorem d_RM_line_23 : decode b_RM_line 23 = .ok (.aload_n 0, 1) := by decide +kernel
theorem d_RM_line_24 : decode b_RM_line 24 = .ok (.iload_n 1, 1) := by decide +kernel
theorem d_RM_line_25 : decode b_RM_line 25 = .ok (.iload 4, 2) := by decide +kernel
theorem d_RM_line_27 : decode b_RM_line 27 = .ok (.iconst 1, 1) := by decide +kernel
theorem d_RM_line_28 : decode b_RM_line 28 = .ok (.isub, 1) := by decide +kernel
theorem d_RM_line_29 : decode b_RM_line 29 = .ok (.invokevirtual 102, 3) := by decide +kernel
theorem d_RM_line_32 : decode b_RM_line 32 = .ok (.ifCond .ne 9, 3) := by decide +kernel
theorem d_RM_line_35 : decode b_RM_line 35 = .ok (.iinc 4 (-1), 3) := by decide +kernel
theorem d_RM_line_38 : decode b_RM_line 38 = .ok (.goto (-35), 3) := by decide +kernel
theorem d_RM_line_41 : decode b_RM_line 41 = .ok (.iload 4, 2) := by decide +kernel
theorem d_RM_line_43 : decode b_RM_line 43 = .ok (.iload_n 1, 1) := by decide +kernel
theorem d_RM_line_44 : decode b_RM_line 44 = .ok (.if_icmp .eq 14, 3) := by decide +kernel
theorem d_RM_line_47 : decode b_RM_line 47 = .ok (.aload_n 0, 1) := by decide +kernel
theorem d_RM_line_48 : decode b_RM_line 48 = .ok (.getfield 13, 3) := by decide +kernel
theorem d_RM_line_51 : decode b_RM_line 51 = .ok (.iload_n 1, 1) := by decide +kernel
theorem d_RM_line_52 : decode b_RM_line 52 = .ok (.iaload, 1) := by decide +kernel
theorem d_RM_line_53 : decode b_RM_line 53 = .ok (.bipush 35, 2) := by decide +kernel
theorem d_RM_line_55 : decode b_RM_line 55 = .ok (.if_icmp .ne 4, 3) := by decide +kernel
theorem d_RM_line_58 : decode b_RM_line 58 = .ok (.return_, 1) := by decide +kernel
theorem d_RM_line_59 : decode b_RM_line 59 = .ok (.iload_n 1, 1) := by decide +kernel
theorem d_RM_line_60 : decode b_RM_line 60 = .ok (.istore 5, 2) := by decide +kernel
theorem d_RM_line_62 : decode b_RM_line 62 = .ok (.aload_n 0, 1) := by decide +kernel
theorem d_RM_line_63 : decode b_RM_line 63 = .ok (.getfield 13, 3) := by decide +kernel
theorem d_RM_line_66 : decode b_RM_line 66 = .ok (.iload 5, 2) := by decide +kernel
theorem d_RM_line_68 : decode b_RM_line 68 = .ok (.iaload, 1) := by decide +kernel
theorem d_RM_line_69 : decode b_RM_line 69 = .ok (.bipush 33, 2) := by decide +kernel
theorem d_RM_line_71 : decode b_RM_line 71 = .ok (.if_icmp .ne 7, 3) := by decide +kernel
theorem d_RM_line_74 : decode b_RM_line 74 = .ok (.iconst 1, 1) := by decide +kernel
theorem d_RM_line_75 : decode b_RM_line 75 = .ok (.goto 4, 3) := by decide +kernel
theorem d_RM_line_78 : decode b_RM_line 78 = .ok (.iconst 0, 1) := by decide +kernel
theorem d_RM_line_79 : decode b_RM_line 79 = .ok (.istore 6, 2) := by decide +kernel
theorem d_RM_line_81 : decode b_RM_line 81 = .ok (.iload 6, 2) := by decide +kernel
theorem d_RM_line_83 : decode b_RM_line 83 = .ok (.ifCond .eq 10, 3) := by decide +kernel
theorem d_RM_line_86 : decode b_RM_line 86 = .ok (.iload 5, 2) := by decide +kernel
theorem d_RM_line_88 : decode b_RM_line 88 = .ok (.iconst 1, 1) := by decide +kernel
theorem d_RM_line_89 : decode b_RM_line 89 = .ok (.iadd, 1) := by decide +kernel
theorem d_RM_line_90 : decode b_RM_line 90 = .ok (.goto 5, 3) := by decide +kernel
theorem d_RM_line_93 : decode b_RM_line 93 = .ok (.iload 5, 2) := by decide +kernel
theorem d_RM_line_95 : decode b_RM_line 95 = .ok (.istore 5, 2) := by decide +kernel
theorem d_RM_line_97 : decode b_RM_line 97 = .ok (.iload 4, 2) := by decide +kernel
theorem d_RM_line_99 : decode b_RM_line 99 = .ok (.iload 5, 2) := by decide +kernel
theorem d_RM_line_101 : decode b_RM_line 101 = .ok (.if_icmp .le 34, 3) := by decide +kernel
theorem d_RM_line_104 : decode b_RM_line 104 = .ok (.aload_n 0, 1) := by decide +kernel
theorem d_RM_line_105 : decode b_RM_line 105 = .ok (.getfield 13, 3) := by decide +kernel
theorem d_RM_line_108 : decode b_RM_line 108 = .ok (.iload 4, 2) := by decide +kernel
theorem d_RM_line_110 : decode b_RM_line 110 = .ok (.iconst 1, 1) := by decide +kernel
theorem d_RM_line_111 : decode b_RM_line 111 = .ok (.isub, 1) := by decide +kernel
theorem d_RM_line_112 : decode b_RM_line 112 = .ok (.iaload, 1) := by decide +kernel
theorem d_RM_line_113 : decode b_RM_line 113 = .ok (.bipush 47, 2) := by decide +kernel
theorem d_RM_line_115 : decode b_RM_line 115 = .ok (.if_icmp .ne 20, 3) := by decide +kernel
theorem d_RM_line_118 : decode b_RM_line 118 = .ok (.aload_n 0, 1) := by decide +kernel
theorem d_RM_line_119 : decode b_RM_line 119 = .ok (.iload 5, 2) := by decide +kernel
theorem d_RM_line_121 : decode b_RM_line 121 = .ok (.iload 4, 2) := by decide +kernel
theorem d_RM_line_123 : decode b_RM_line 123 = .ok (.iconst 1, 1) := by decide +kernel
theorem d_RM_line_124 : decode b_RM_line 124 = .ok (.isub, 1) := by decide +kernel
theorem d_RM_line_125 : decode b_RM_line 125 = .ok (.invokevirtual 102, 3) := by decide +kernel
theorem d_RM_line_128 : decode b_RM_line 128 = .ok (.ifCond .ne 7, 3) := by decide +kernel
theorem d_RM_line_131 : decode b_RM_line 131 = .ok (.iconst 1, 1) := by decide +kernel
theorem d_RM_line_132 : decode b_RM_line 132 = .ok (.goto 4, 3) := by decide +kernel
theorem d_RM_line_135 : decode b_RM_line 135 = .ok (.iconst 0, 1) := by decide +kernel
theorem d_RM_line_136 : decode b_RM_line 136 = .ok (.istore 7, 2) := by decide +kernel
theorem d_RM_line_138 : decode b_RM_line 138 = .ok (.iload 7, 2) := by decide +kernel
theorem d_RM_line_140 : decode b_RM_line 140 = .ok (.ifCond .eq 10, 3) := by decide +kernel
theorem d_RM_line_143 : decode b_RM_line 143 = .ok (.iload 4, 2) := by decide +kernel
theorem d_RM_line_145 : decode b_RM_line 145 = .ok (.iconst 1, 1) := by decide +kernel
theorem d_RM_line_146 : decode b_RM_line 146 = .ok (.isub, 1) := by decide +kernel
theorem d_RM_line_147 : decode b_RM_line 147 = .ok (.goto 5, 3) := by decide +kernel
theorem d_RM_line_150 : decode b_RM_line 150 = .ok (.iload 4, 2) := by decide +kernel
theorem d_RM_line_152 : decode b_RM_line 152 = .ok (.istore 4, 2) := by decide +kernel
theorem d_RM_line_154 : decode b_RM_line 154 = .ok (.aload_n 0, 1) := by decide +kernel
theorem d_RM_line_155 : decode b_RM_line 155 = .ok (.iload 5, 2) := by decide +kernel
theorem d_RM_line_157 : decode b_RM_line 157 = .ok (.iload 4, 2) := by decide +kernel
theorem d_RM_line_159 : decode b_RM_line 159 = .ok (.bipush 47, 2) := by decide +kernel
theorem d_RM_line_161 : decode b_RM_line 161 = .ok (.invokevirtual 105, 3) := by decide +kernel
theorem d_RM_line_164 : decode b_RM_line 164 = .ok (.istore 8, 2) := by decide +kernel
theorem d_RM_line_166 : decode b_RM_line 166 = .ok (.iload 8, 2) := by decide +kernel
theorem d_RM_line_168 : decode b_RM_line 168 = .ok (.ifCond .eq 22, 3) := by decide +kernel
theorem d_RM_line_171 : decode b_RM_line 171 = .ok (.aload_n 0, 1) := by decide +kernel
theorem d_RM_line_172 : decode b_RM_line 172 = .ok (.getfield 13, 3) := by decide +kernel
theorem d_RM_line_175 : decode b_RM_line 175 = .ok (.iload 5, 2) := by decide +kernel
theorem d_RM_line_177 : decode b_RM_line 177 = .ok (.iaload, 1) := by decide +kernel
theorem d_RM_line_178 : decode b_RM_line 178 = .ok (.bipush 47, 2) := by decide +kernel
theorem d_RM_line_180 : decode b_RM_line 180 = .ok (.if_icmp .ne 10, 3) := by decide +kernel
theorem d_RM_line_183 : decode b_RM_line 183 = .ok (.iload 5, 2) := by decide +kernel
theorem d_RM_line_185 : decode b_RM_line 185 = .ok (.iconst 1, 1) := by decide +kernel
theorem d_RM_line_186 : decode b_RM_line 186 = .ok (.iadd, 1) := by decide +kernel
theorem d_RM_line_187 : decode b_RM_line 187 = .ok (.goto 5, 3) := by decide +kernel
theorem d_RM_line_190 : decode b_RM_line 190 = .ok (.iload 5, 2) := by decide +kernel
theorem d_RM_line_192 : decode b_RM_line 192 = .ok (.istore 5, 2) := by decide +kernel
theorem d_RM_line_194 : decode b_RM_line 194 = .ok (.aload_n 0, 1) := by decide +kernel
theorem d_RM_line_195 : decode b_RM_line 195 = .ok (.getfield 109, 3) := by decide +kernel
theorem d_RM_line_198 : decode b_RM_line 198 = .ok (.bipush 60, 2) := by decide +kernel
theorem d_RM_line_200 : decode b_RM_line 200 = .ok (.if_icmp .ge 58, 3) := by decide +kernel
theorem d_RM_line_203 : decode b_RM_line 203 = .ok (.aload_n 0, 1) := by decide +kernel
theorem d_RM_line_204 : decode b_RM_line 204 = .ok (.getfield 16, 3) := by decide +kernel
theorem d_RM_line_207 : decode b_RM_line 207 = .ok (.aload_n 0, 1) := by decide +kernel
theorem d_RM_line_208 : decode b_RM_line 208 = .ok (.getfield 109, 3) := by decide +kernel
theorem d_RM_line_211 : decode b_RM_line 211 = .ok (.iload 5, 2) := by decide +kernel
theorem d_RM_line_213 : decode b_RM_line 213 = .ok (.iastore, 1) := by decide +kernel
theorem d_RM_line_214 : decode b_RM_line 214 = .ok (.aload_n 0, 1) := by decide +kernel
theorem d_RM_line_215 : decode b_RM_line 215 = .ok (.getfield 19, 3) := by decide +kernel
theorem d_RM_line_218 : decode b_RM_line 218 = .ok (.aload_n 0, 1) := by decide +kernel
theorem d_RM_line_219 : decode b_RM_line 219 = .ok (.getfield 109, 3) := by decide +kernel
theorem d_RM_line_222 : decode b_RM_line 222 = .ok (.iload 4, 2) := by decide +kernel
theorem d_RM_line_224 : decode b_RM_line 224 = .ok (.iastore, 1) := by decide +kernel
theorem d_RM_line_225 : decode b_RM_line 225 = .ok (.aload_n 0, 1) := by decide +kernel
theorem d_RM_line_226 : decode b_RM_line 226 = .ok (.getfield 25, 3) := by decide +kernel
theorem d_RM_line_229 : decode b_RM_line 229 = .ok (.aload_n 0, 1) := by decide +kernel
theorem d_RM_line_230 : decode b_RM_line 230 = .ok (.getfield 109, 3) := by decide +kernel
theorem d_RM_line_233 : decode b_RM_line 233 = .ok (.iload_n 3, 1) := by decide +kernel
theorem d_RM_line_234 : decode b_RM_line 234 = .ok (.iastore, 1) := by decide +kernel
theorem d_RM_line_235 : decode b_RM_line 235 = .ok (.aload_n 0, 1) := by decide +kernel
theorem d_RM_line_236 : decode b_RM_line 236 = .ok (.getfield 22, 3) := by decide +kernel
theorem d_RM_line_239 : decode b_RM_line 239 = .ok (.aload_n 0, 1) := by decide +kernel
theorem d_RM_line_240 : decode b_RM_line 240 = .ok (.getfield 109, 3) := by decide +kernel
theorem d_RM_line_243 : decode b_RM_line 243 = .ok (.aload_n 0, 1) := by decide +kernel
theorem d_RM_line_244 : decode b_RM_line 244 = .ok (.iload 5, 2) := by decide +kernel
theorem d_RM_line_246 : decode b_RM_line 246 = .ok (.iload 4, 2) := by decide +kernel
theorem d_RM_line_248 : decode b_RM_line 248 = .ok (.iload 6, 2) := by decide +kernel
theorem d_RM_line_250 : decode b_RM_line 250 = .ok (.iload 7, 2) := by decide +kernel
theorem d_RM_line_252 : decode b_RM_line 252 = .ok (.iload 8, 2) := by decide +kernel
theorem d_RM_line_254 : decode b_RM_line 254 = .ok (.invokevirtual 112, 3) := by decide +kernel
theorem d_RM_line_257 : decode b_RM_line 257 = .ok (.iastore, 1) := by decide +kernel
theorem d_RM_line_258 : decode b_RM_line 258 = .ok (.aload_n 0, 1) := by decide +kernel
theorem d_RM_line_259 : decode b_RM_line 259 = .ok (.dup, 1) := by decide +kernel
theorem d_RM_line_260 : decode b_RM_line 260 = .ok (.getfield 109, 3) := by decide +kernel
theorem d_RM_line_263 : decode b_RM_line 263 = .ok (.iconst 1, 1) := by decide +kernel
theorem d_RM_line_264 : decode b_RM_line 264 = .ok (.iadd, 1) := by decide +kernel
theorem d_RM_line_265 : decode b_RM_line 265 = .ok (.putfield 109, 3) := by decide +kernel
theorem d_RM_line_268 : decode b_RM_line 268 = .ok (.return_, 1) := by decide +kernel
abbrev w_RM_line : List Cond := Cond.code y_RM_line b_RM_line 9 none :: ig_T
theorem g_RM_line : GoodIn ig_T w_RM_line := ig_T_good (ig_T_mem (List.mem_append_right _ (List.mem_append_right _ (List.mem_of_getElem? (i := 12) rfl))) rfl)
set_option maxHeartbeats 4000000 in
set_option maxRecDepth 100000 in
theorem c_RM_line (l : Launch) (dC : Nat → ClassId) (dI : Nat → Nat → Nat) (cC cI cZ cL : ClassId) (o0 ra rx rf rt rb rl rp ru_ rv rr rs rg rh rz ry : Nat) (th : Int32) (si : Int32) (na : Int32) (bz : Int32) (de : Int32) (dp : Int32) (io : Int32) (ru : Nat) (nx : Nat) (so : Nat) (pa : Nat) (tX : Nat → Int32) (xF : Nat → Nat) (xT : Nat → Nat) (xB : Nat → Nat) (xL : Nat → Nat) (wF : Nat → Nat) (wT : Nat → Nat) (f : Nat) (a : Nat) (no : Nat) (sz : Nat) (hr : r_RM_line ru nx so pa tX xF xT xB xL wF wT f a no) : Met l y_RM_line w_RM_line ({ frames := 5, cells := 0, slots := 0, locals := 119 }) (ig_Pc (dC, dI) ig_cl0 [(cC, .char), (cI, .int), (cZ, .boolean), (cL, .long)] [.ref o0, .int (nI f), .int (nI a), .int (nI no)] [(o0, .inr (ciRM, [.int th, .ref ra, .int si, .ref rx, .ref rf, .ref rt, .ref rb, .ref rl, .int (nI ru), .ref rp, .ref ru_, .ref rv, .int na, .int (nI nx), .int (nI so), .ref rr, .ref rs, .ref rg, .ref rh, .int (nI pa), .ref rz, .ref ry, .int bz, .int de, .int dp, .int io])), (rx, .inl (cI, 1000, .inl tX)), (rf, .inl (cI, 60, .inl (fun zj => nI (xF zj)))), (rt, .inl (cI, 60, .inl (fun zj => nI (xT zj)))), (rb, .inl (cI, 60, .inl (fun zj => nI (xB zj)))), (rl, .inl (cI, 60, .inl (fun zj => nI (xL zj)))), (rg, .inl (cI, 1001, .inl (fun zj => nI (wF zj)))), (rh, .inl (cI, 1001, .inl (fun zj => nI (wT zj))))] sz) (va_Qv (fun (u : Nat × (Nat → Nat) × (Nat → Nat) × (Nat → Nat) × (Nat → Nat) × Nat × Nat × Nat × (Nat → Nat) × (Nat → Nat)) => p_RM_line ru nx so pa tX xF xT xB xL wF wT f a no u.1 u.2.1 u.2.2.1 u.2.2.2.1 u.2.2.2.2.1 u.2.2.2.2.2.1 u.2.2.2.2.2.2.1 u.2.2.2.2.2.2.2.1 u.2.2.2.2.2.2.2.2.1 u.2.2.2.2.2.2.2.2.2) (fun u t => va_P (dC, dI) ig_cl0 ((fun (u : Nat × (Nat → Nat) × (Nat → Nat) × (Nat → Nat) × (Nat → Nat) × Nat × Nat × Nat × (Nat → Nat) × (Nat → Nat)) => [(o0, .inr (ciRM, [.int th, .ref ra, .int si, .ref rx, .ref rf, .ref rt, .ref rb, .ref rl, .int (nI u.1), .ref rp, .ref ru_, .ref rv, .int na, .int (nI u.2.2.2.2.2.1), .int (nI u.2.2.2.2.2.2.1), .ref rr, .ref rs, .ref rg, .ref rh, .int (nI u.2.2.2.2.2.2.2.1), .ref rz, .ref ry, .int bz, .int de, .int dp, .int io])), (rx, .inl (cI, 1000, .inl tX)), (rf, .inl (cI, 60, .inl (fun zj => nI (u.2.1 zj)))), (rt, .inl (cI, 60, .inl (fun zj => nI (u.2.2.1 zj)))), (rb, .inl (cI, 60, .inl (fun zj => nI (u.2.2.2.1 zj)))), (rl, .inl (cI, 60, .inl (fun zj => nI (u.2.2.2.2.1 zj)))), (rg, .inl (cI, 1001, .inl (fun zj => nI (u.2.2.2.2.2.2.2.2.1 zj)))), (rh, .inl (cI, 1001, .inl (fun zj => nI (u.2.2.2.2.2.2.2.2.2 zj))))]) u) t.heap ∧ va_D (va_A [(o0, .inr (ciRM, [.int th, .ref ra, .int si, .ref rx, .ref rf, .ref rt, .ref rb, .ref rl, .int (nI ru), .ref rp, .ref ru_, .ref rv, .int na, .int (nI nx), .int (nI so), .ref rr, .ref rs, .ref rg, .ref rh, .int (nI pa), .ref rz, .ref ry, .int bz, .int de, .int dp, .int io])), (rx, .inl (cI, 1000, .inl tX)), (rf, .inl (cI, 60, .inl (fun zj => nI (xF zj)))), (rt, .inl (cI, 60, .inl (fun zj => nI (xT zj)))), (rb, .inl (cI, 60, .inl (fun zj => nI (xB zj)))), (rl, .inl (cI, 60, .inl (fun zj => nI (xL zj)))), (rg, .inl (cI, 1001, .inl (fun zj => nI (wF zj)))), (rh, .inl (cI, 1001, .inl (fun zj => nI (wT zj))))] sz) ((fun (u : Nat × (Nat → Nat) × (Nat → Nat) × (Nat → Nat) × (Nat → Nat) × Nat × Nat × Nat × (Nat → Nat) × (Nat → Nat)) => [(o0, .inr (ciRM, [.int th, .ref ra, .int si, .ref rx, .ref rf, .ref rt, .ref rb, .ref rl, .int (nI u.1), .ref rp, .ref ru_, .ref rv, .int na, .int (nI u.2.2.2.2.2.1), .int (nI u.2.2.2.2.2.2.1), .ref rr, .ref rs, .ref rg, .ref rh, .int (nI u.2.2.2.2.2.2.2.1), .ref rz, .ref ry, .int bz, .int de, .int dp, .int io])), (rx, .inl (cI, 1000, .inl tX)), (rf, .inl (cI, 60, .inl (fun zj => nI (u.2.1 zj)))), (rt, .inl (cI, 60, .inl (fun zj => nI (u.2.2.1 zj)))), (rb, .inl (cI, 60, .inl (fun zj => nI (u.2.2.2.1 zj)))), (rl, .inl (cI, 60, .inl (fun zj => nI (u.2.2.2.2.1 zj)))), (rg, .inl (cI, 1001, .inl (fun zj => nI (u.2.2.2.2.2.2.2.2.1 zj)))), (rh, .inl (cI, 1001, .inl (fun zj => nI (u.2.2.2.2.2.2.2.2.2 zj))))]) u)) (va_A [(o0, .inr (ciRM, [.int th, .ref ra, .int si, .ref rx, .ref rf, .ref rt, .ref rb, .ref rl, .int (nI ru), .ref rp, .ref ru_, .ref rv, .int na, .int (nI nx), .int (nI so), .ref rr, .ref rs, .ref rg, .ref rh, .int (nI pa), .ref rz, .ref ry, .int bz, .int de, .int dp, .int io])), (rx, .inl (cI, 1000, .inl tX)), (rf, .inl (cI, 60, .inl (fun zj => nI (xF zj)))), (rt, .inl (cI, 60, .inl (fun zj => nI (xT zj)))), (rb, .inl (cI, 60, .inl (fun zj => nI (xB zj)))), (rl, .inl (cI, 60, .inl (fun zj => nI (xL zj)))), (rg, .inl (cI, 1001, .inl (fun zj => nI (wF zj)))), (rh, .inl (cI, 1001, .inl (fun zj => nI (wT zj))))] sz)) 0 0 (va_A [(o0, .inr (ciRM, [.int th, .ref ra, .int si, .ref rx, .ref rf, .ref rt, .ref rb, .ref rl, .int (nI ru), .ref rp, .ref ru_, .ref rv, .int na, .int (nI nx), .int (nI so), .ref rr, .ref rs, .ref rg, .ref rh, .int (nI pa), .ref rz, .ref ry, .int bz, .int de, .int dp, .int io])), (rx, .inl (cI, 1000, .inl tX)), (rf, .inl (cI, 60, .inl (fun zj => nI (xF zj)))), (rt, .inl (cI, 60, .inl (fun zj => nI (xT zj)))), (rb, .inl (cI, 60, .inl (fun zj => nI (xB zj)))), (rl, .inl (cI, 60, .inl (fun zj => nI (xL zj)))), (rg, .inl (cI, 1001, .inl (fun zj => nI (wF zj)))), (rh, .inl (cI, 1001, .inl (fun zj => nI (wT zj))))] sz) := by
  refine ig_metV (fun (u : Nat × (Nat → Nat) × (Nat → Nat) × (Nat → Nat) × (Nat → Nat) × Nat × Nat × Nat × (Nat → Nat) × (Nat → Nat)) => p_RM_line ru nx so pa tX xF xT xB xL wF wT f a no u.1 u.2.1 u.2.2.1 u.2.2.2.1 u.2.2.2.2.1 u.2.2.2.2.2.1 u.2.2.2.2.2.2.1 u.2.2.2.2.2.2.2.1 u.2.2.2.2.2.2.2.2.1 u.2.2.2.2.2.2.2.2.2) (fun (u : Nat × (Nat → Nat) × (Nat → Nat) × (Nat → Nat) × (Nat → Nat) × Nat × Nat × Nat × (Nat → Nat) × (Nat → Nat)) => [(o0, .inr (ciRM, [.int th, .ref ra, .int si, .ref rx, .ref rf, .ref rt, .ref rb, .ref rl, .int (nI u.1), .ref rp, .ref ru_, .ref rv, .int na, .int (nI u.2.2.2.2.2.1), .int (nI u.2.2.2.2.2.2.1), .ref rr, .ref rs, .ref rg, .ref rh, .int (nI u.2.2.2.2.2.2.2.1), .ref rz, .ref ry, .int bz, .int de, .int dp, .int io])), (rx, .inl (cI, 1000, .inl tX)), (rf, .inl (cI, 60, .inl (fun zj => nI (u.2.1 zj)))), (rt, .inl (cI, 60, .inl (fun zj => nI (u.2.2.1 zj)))), (rb, .inl (cI, 60, .inl (fun zj => nI (u.2.2.2.1 zj)))), (rl, .inl (cI, 60, .inl (fun zj => nI (u.2.2.2.2.1 zj)))), (rg, .inl (cI, 1001, .inl (fun zj => nI (u.2.2.2.2.2.2.2.2.1 zj)))), (rh, .inl (cI, 1001, .inl (fun zj => nI (u.2.2.2.2.2.2.2.2.2 zj))))]) (by decide) rfl (Nat.le_of_ble_eq_true rfl) rfl ?_
  intro zp ze zs zm zargs zbelow zmeth zc zA zQ hx hb hml hown hts hK hN hA hret
  obtain ⟨K3, hK3⟩ : ∃ K : Nat → Nat → Nat → Nat → Nat → (Nat → Nat) → (Nat → Nat) → (Nat → Nat) → (Nat → Nat) → (Nat → Nat) → (Nat → Nat) → Prop, K = fun (e : Nat) (ruc : Nat) (nxc : Nat) (soc : Nat) (pac : Nat) (xFc : Nat → Nat) (xTc : Nat → Nat) (xBc : Nat → Nat) (xLc : Nat → Nat) (wFc : Nat → Nat) (wTc : Nat → Nat) => ig_W zp l ze ({ frames := 5, cells := 0, slots := 0, locals := 119 }) zs zm zargs zbelow zmeth zc (dC, dI) ig_cl0 zA zs.heap 9 0 0 zQ 3 [(0, .ref o0), (1, .int (nI f)), (3, .int (nI no)), (4, .int (nI e))] [] [(o0, .inr (ciRM, [.int th, .ref ra, .int si, .ref rx, .ref rf, .ref rt, .ref rb, .ref rl, .int (nI ruc), .ref rp, .ref ru_, .ref rv, .int na, .int (nI nxc), .int (nI soc), .ref rr, .ref rs, .ref rg, .ref rh, .int (nI pac), .ref rz, .ref ry, .int bz, .int de, .int dp, .int io])), (rx, .inl (cI, 1000, .inl tX)), (rf, .inl (cI, 60, .inl (fun zj => nI (xFc zj)))), (rt, .inl (cI, 60, .inl (fun zj => nI (xTc zj)))), (rb, .inl (cI, 60, .inl (fun zj => nI (xBc zj)))), (rl, .inl (cI, 60, .inl (fun zj => nI (xLc zj)))), (rg, .inl (cI, 1001, .inl (fun zj => nI (wFc zj)))), (rh, .inl (cI, 1001, .inl (fun zj => nI (wTc zj))))] := ⟨_, rfl⟩
  have j258 : ∀ (ruc : Nat) (nxc : Nat) (soc : Nat) (pac : Nat) (xFc : Nat → Nat) (xTc : Nat → Nat) (xBc : Nat → Nat) (xLc : Nat → Nat) (wFc : Nat → Nat) (wTc : Nat → Nat), v_RM_line_258 ru nx so pa tX xF xT xB xL wF wT f a no K3 (p_RM_line ru nx so pa tX xF xT xB xL wF wT f a no) ruc nxc soc pac xFc xTc xBc xLc wFc wTc → ig_W zp l ze ({ frames := 5, cells := 0, slots := 0, locals := 119 }) zs zm zargs zbelow zmeth zc (dC, dI) ig_cl0 zA zs.heap 9 0 0 zQ 258 [(0, .ref o0)] [] [(o0, .inr (ciRM, [.int th, .ref ra, .int si, .ref rx, .ref rf, .ref rt, .ref rb, .ref rl, .int (nI ruc), .ref rp, .ref ru_, .ref rv, .int na, .int (nI nxc), .int (nI soc), .ref rr, .ref rs, .ref rg, .ref rh, .int (nI pac), .ref rz, .ref ry, .int bz, .int de, .int dp, .int io])), (rx, .inl (cI, 1000, .inl tX)), (rf, .inl (cI, 60, .inl (fun zj => nI (xFc zj)))), (rt, .inl (cI, 60, .inl (fun zj => nI (xTc zj)))), (rb, .inl (cI, 60, .inl (fun zj => nI (xBc zj)))), (rl, .inl (cI, 60, .inl (fun zj => nI (xLc zj)))), (rg, .inl (cI, 1001, .inl (fun zj => nI (wFc zj)))), (rh, .inl (cI, 1001, .inl (fun zj => nI (wTc zj))))] := by
    intro ruc nxc soc pac xFc xTc xBc xLc wFc wTc hv
    unfold v_RM_line_258 at hv
    refine ig_aload_n hx hb 0 d_RM_line_258 rfl rfl ?_
    refine ig_dup hx hb d_RM_line_259 rfl ?_
    refine ig_get hx hb hts in_RM hown hK 0 rfl rfl 8 (by decide) (hts _ kw_1_153) (fun _ h => h) rfl d_RM_line_260 ?_
    refine ig_iconst (v := 1) hx hb d_RM_line_263 (by decide) ?_
    refine ig_iaddN hx hb ruc 1 rfl rfl d_RM_line_264 ?_
    refine ig_put (ty := .int) (v := .int (nI (ruc + 1))) (ws' := [(o0, .inr (ciRM, [.int th, .ref ra, .int si, .ref rx, .ref rf, .ref rt, .ref rb, .ref rl, .int (nI (ruc + 1)), .ref rp, .ref ru_, .ref rv, .int na, .int (nI nxc), .int (nI soc), .ref rr, .ref rs, .ref rg, .ref rh, .int (nI pac), .ref rz, .ref ry, .int bz, .int de, .int dp, .int io])), (rx, .inl (cI, 1000, .inl tX)), (rf, .inl (cI, 60, .inl (fun zj => nI (xFc zj)))), (rt, .inl (cI, 60, .inl (fun zj => nI (xTc zj)))), (rb, .inl (cI, 60, .inl (fun zj => nI (xBc zj)))), (rl, .inl (cI, 60, .inl (fun zj => nI (xLc zj)))), (rg, .inl (cI, 1001, .inl (fun zj => nI (wFc zj)))), (rh, .inl (cI, 1001, .inl (fun zj => nI (wTc zj))))]) hx hb hts in_RM t_RM t_RM_ok n_RM hown hK 0 rfl rfl 8 (by decide) (hts _ kw_1_153) (fun _ h => h) rfl (by decide +kernel) rfl rfl (Nat.le_of_ble_eq_true rfl) d_RM_line_265 rfl ?_
    exact hret 268 _ (ruc + 1, xFc, xTc, xBc, xLc, nxc, soc, pac, wFc, wTc) d_RM_line_268 hv
  have j192 : ∀ (e : Nat) (b1 : Bool) (b2 : Bool) (b3 : Bool) (s0 : Nat) (ruc : Nat) (nxc : Nat) (soc : Nat) (pac : Nat) (xFc : Nat → Nat) (xTc : Nat → Nat) (xBc : Nat → Nat) (xLc : Nat → Nat) (wFc : Nat → Nat) (wTc : Nat → Nat), v_RM_line_192 ru nx so pa tX xF xT xB xL wF wT f a no K3 (p_RM_line ru nx so pa tX xF xT xB xL wF wT f a no) e b1 b2 b3 s0 ruc nxc soc pac xFc xTc xBc xLc wFc wTc → ig_W zp l ze ({ frames := 5, cells := 0, slots := 0, locals := 119 }) zs zm zargs zbelow zmeth zc (dC, dI) ig_cl0 zA zs.heap 9 0 0 zQ 192 [(0, .ref o0), (3, .int (nI no)), (4, .int (nI e)), (6, .int (bI b1)), (7, .int (bI b2)), (8, .int (bI b3))] [.int (nI s0)] [(o0, .inr (ciRM, [.int th, .ref ra, .int si, .ref rx, .ref rf, .ref rt, .ref rb, .ref rl, .int (nI ruc), .ref rp, .ref ru_, .ref rv, .int na, .int (nI nxc), .int (nI soc), .ref rr, .ref rs, .ref rg, .ref rh, .int (nI pac), .ref rz, .ref ry, .int bz, .int de, .int dp, .int io])), (rx, .inl (cI, 1000, .inl tX)), (rf, .inl (cI, 60, .inl (fun zj => nI (xFc zj)))), (rt, .inl (cI, 60, .inl (fun zj => nI (xTc zj)))), (rb, .inl (cI, 60, .inl (fun zj => nI (xBc zj)))), (rl, .inl (cI, 60, .inl (fun zj => nI (xLc zj)))), (rg, .inl (cI, 1001, .inl (fun zj => nI (wFc zj)))), (rh, .inl (cI, 1001, .inl (fun zj => nI (wTc zj))))] := by
    intro e b1 b2 b3 s0 ruc nxc soc pac xFc xTc xBc xLc wFc wTc hv
    unfold v_RM_line_192 at hv
    refine ig_istore (lv' := [(5, .int (nI s0)), (0, .ref o0), (3, .int (nI no)), (4, .int (nI e)), (6, .int (bI b1)), (7, .int (bI b2)), (8, .int (bI b3))]) hx hb d_RM_line_192 (by decide) rfl ?_
    refine ig_aload_n hx hb 1 d_RM_line_194 rfl rfl ?_
    refine ig_get hx hb hts in_RM hown hK 0 rfl rfl 8 (by decide) (hts _ kw_1_153) (fun _ h => h) rfl d_RM_line_195 ?_
    refine ig_bipush (v := 60) hx hb d_RM_line_198 (by decide) ?_
    obtain ⟨h1, hv⟩ := hv
    refine ig_icmp_geN (tgt := 258) hx hb ruc 60 rfl rfl d_RM_line_200 (by decide) h1 (by decide) (fun h => ?_) (fun h => ?_)
    · have hv := hv.1 h
      refine ig_lv (lv' := [(0, .ref o0)]) [1] rfl ?_
      exact j258 _ _ _ _ _ _ _ _ _ _ hv
    · have hv := hv.2 h
      refine ig_aload_n hx hb 1 d_RM_line_203 rfl rfl ?_
      refine ig_get hx hb hts in_RM hown hK 0 rfl rfl 4 (by decide) (hts _ kw_1_149) (fun _ h => h) rfl d_RM_line_204 ?_
      refine ig_aload_n hx hb 1 d_RM_line_207 rfl rfl ?_
      refine ig_get hx hb hts in_RM hown hK 0 rfl rfl 8 (by decide) (hts _ kw_1_153) (fun _ h => h) rfl d_RM_line_208 ?_
      refine ig_iload hx hb 0 d_RM_line_211 rfl ?_
      obtain ⟨hc, hv⟩ := hv
      refine ig_iast (f' := fun zj => nI ((updN xFc ruc s0) zj)) (ws' := [(o0, .inr (ciRM, [.int th, .ref ra, .int si, .ref rx, .ref rf, .ref rt, .ref rb, .ref rl, .int (nI ruc), .ref rp, .ref ru_, .ref rv, .int na, .int (nI nxc), .int (nI soc), .ref rr, .ref rs, .ref rg, .ref rh, .int (nI pac), .ref rz, .ref ry, .int bz, .int de, .int dp, .int io])), (rx, .inl (cI, 1000, .inl tX)), (rf, .inl (cI, 60, .inl (fun zj => nI ((updN xFc ruc s0) zj)))), (rt, .inl (cI, 60, .inl (fun zj => nI (xTc zj)))), (rb, .inl (cI, 60, .inl (fun zj => nI (xBc zj)))), (rl, .inl (cI, 60, .inl (fun zj => nI (xLc zj)))), (rg, .inl (cI, 1001, .inl (fun zj => nI (wFc zj)))), (rh, .inl (cI, 1001, .inl (fun zj => nI (wTc zj))))]) hx hb hK 2 1 rfl rfl ruc rfl hc (by decide) (upd_N xFc ruc s0) d_RM_line_213 rfl ?_
      refine ig_aload_n hx hb 1 d_RM_line_214 rfl rfl ?_
      refine ig_get hx hb hts in_RM hown hK 0 rfl rfl 5 (by decide) (hts _ kw_1_150) (fun _ h => h) rfl d_RM_line_215 ?_
      refine ig_aload_n hx hb 1 d_RM_line_218 rfl rfl ?_
      refine ig_get hx hb hts in_RM hown hK 0 rfl rfl 8 (by decide) (hts _ kw_1_153) (fun _ h => h) rfl d_RM_line_219 ?_
      refine ig_iload hx hb 3 d_RM_line_222 rfl ?_
      obtain ⟨hc, hv⟩ := hv
      refine ig_iast (f' := fun zj => nI ((updN xTc ruc e) zj)) (ws' := [(o0, .inr (ciRM, [.int th, .ref ra, .int si, .ref rx, .ref rf, .ref rt, .ref rb, .ref rl, .int (nI ruc), .ref rp, .ref ru_, .ref rv, .int na, .int (nI nxc), .int (nI soc), .ref rr, .ref rs, .ref rg, .ref rh, .int (nI pac), .ref rz, .ref ry, .int bz, .int de, .int dp, .int io])), (rx, .inl (cI, 1000, .inl tX)), (rf, .inl (cI, 60, .inl (fun zj => nI ((updN xFc ruc s0) zj)))), (rt, .inl (cI, 60, .inl (fun zj => nI ((updN xTc ruc e) zj)))), (rb, .inl (cI, 60, .inl (fun zj => nI (xBc zj)))), (rl, .inl (cI, 60, .inl (fun zj => nI (xLc zj)))), (rg, .inl (cI, 1001, .inl (fun zj => nI (wFc zj)))), (rh, .inl (cI, 1001, .inl (fun zj => nI (wTc zj))))]) hx hb hK 3 1 rfl rfl ruc rfl hc (by decide) (upd_N xTc ruc e) d_RM_line_224 rfl ?_
      refine ig_aload_n hx hb 1 d_RM_line_225 rfl rfl ?_
      refine ig_get hx hb hts in_RM hown hK 0 rfl rfl 7 (by decide) (hts _ kw_1_152) (fun _ h => h) rfl d_RM_line_226 ?_
      refine ig_aload_n hx hb 1 d_RM_line_229 rfl rfl ?_
      refine ig_get hx hb hts in_RM hown hK 0 rfl rfl 8 (by decide) (hts _ kw_1_153) (fun _ h => h) rfl d_RM_line_230 ?_
      refine ig_iload_n hx hb 2 d_RM_line_233 rfl rfl ?_
      obtain ⟨hc, hv⟩ := hv
      refine ig_iast (f' := fun zj => nI ((updN xLc ruc no) zj)) (ws' := [(o0, .inr (ciRM, [.int th, .ref ra, .int si, .ref rx, .ref rf, .ref rt, .ref rb, .ref rl, .int (nI ruc), .ref rp, .ref ru_, .ref rv, .int na, .int (nI nxc), .int (nI soc), .ref rr, .ref rs, .ref rg, .ref rh, .int (nI pac), .ref rz, .ref ry, .int bz, .int de, .int dp, .int io])), (rx, .inl (cI, 1000, .inl tX)), (rf, .inl (cI, 60, .inl (fun zj => nI ((updN xFc ruc s0) zj)))), (rt, .inl (cI, 60, .inl (fun zj => nI ((updN xTc ruc e) zj)))), (rb, .inl (cI, 60, .inl (fun zj => nI (xBc zj)))), (rl, .inl (cI, 60, .inl (fun zj => nI ((updN xLc ruc no) zj)))), (rg, .inl (cI, 1001, .inl (fun zj => nI (wFc zj)))), (rh, .inl (cI, 1001, .inl (fun zj => nI (wTc zj))))]) hx hb hK 5 1 rfl rfl ruc rfl hc (by decide) (upd_N xLc ruc no) d_RM_line_234 rfl ?_
      refine ig_aload_n hx hb 1 d_RM_line_235 rfl rfl ?_
      refine ig_get hx hb hts in_RM hown hK 0 rfl rfl 6 (by decide) (hts _ kw_1_151) (fun _ h => h) rfl d_RM_line_236 ?_
      refine ig_aload_n hx hb 1 d_RM_line_239 rfl rfl ?_
      refine ig_get hx hb hts in_RM hown hK 0 rfl rfl 8 (by decide) (hts _ kw_1_153) (fun _ h => h) rfl d_RM_line_240 ?_
      refine ig_aload_n hx hb 1 d_RM_line_243 rfl rfl ?_
      refine ig_iload hx hb 0 d_RM_line_244 rfl ?_
      refine ig_iload hx hb 3 d_RM_line_246 rfl ?_
      refine ig_iload hx hb 4 d_RM_line_248 rfl ?_
      refine ig_iload hx hb 5 d_RM_line_250 rfl ?_
      refine ig_iload hx hb 6 d_RM_line_252 rfl ?_
      obtain ⟨hc, hv⟩ := hv
      refine ig_cVi (As := [.int (nI s0), .int (nI e), .int (bI b1), .int (bI b2), .int (bI b3)]) (rest := [.int (nI ruc), .ref rb]) (wr := [(rf, .inl (cI, 60, .inl (fun zj => nI ((updN xFc ruc s0) zj)))), (rt, .inl (cI, 60, .inl (fun zj => nI ((updN xTc ruc e) zj)))), (rb, .inl (cI, 60, .inl (fun zj => nI (xBc zj)))), (rl, .inl (cI, 60, .inl (fun zj => nI ((updN xLc ruc no) zj))))]) (ws' := fun u => [(o0, .inr (ciRM, [.int th, .ref ra, .int si, .ref rx, .ref rf, .ref rt, .ref rb, .ref rl, .int (nI ruc), .ref rp, .ref ru_, .ref rv, .int na, .int (nI u.1), .int (nI u.2.1), .ref rr, .ref rs, .ref rg, .ref rh, .int (nI u.2.2.1), .ref rz, .ref ry, .int bz, .int de, .int dp, .int io])), (rx, .inl (cI, 1000, .inl tX)), (rf, .inl (cI, 60, .inl (fun zj => nI ((updN xFc ruc s0) zj)))), (rt, .inl (cI, 60, .inl (fun zj => nI ((updN xTc ruc e) zj)))), (rb, .inl (cI, 60, .inl (fun zj => nI (xBc zj)))), (rl, .inl (cI, 60, .inl (fun zj => nI ((updN xLc ruc no) zj)))), (rg, .inl (cI, 1001, .inl (fun zj => nI (u.2.2.2.1 zj)))), (rh, .inl (cI, 1001, .inl (fun zj => nI (u.2.2.2.2 zj))))]) hx hb hml hown hts hK hN hA (fun sz => c_RM_what l dC dI cC cI cZ cL o0 ra rx rf rt rb rl rp ru_ rv rr rs rg rh rz ry th si (nI ruc) na bz de dp io nxc soc pac tX wFc wTc s0 e b1 b2 b3 sz hc) ⟨callB_of 5 hts g_RM_what rfl rfl rfl (hts _ kw_0_5) (hts _ kw_2_21) (by decide +kernel) (by decide), (hts _ kw_2_23), (hts _ ks_RM_what)⟩ rfl rfl (Nat.le_of_ble_eq_true rfl) d_RM_line_254 (by decide) 0 rfl rfl [0, 1, 6, 7] [2, 3, 4, 5] [4, 5, 0, 1, 2, 3, 6, 7] rfl rfl (by decide) (by decide) (by decide) (fun _ => rfl) (fun _ => rfl) (fun r u hr => ?_)
      obtain ⟨nx1, so2, pa3, wF4, wT5⟩ := u
      obtain ⟨rr, rfl, hr⟩ := hr
      unfold p_RM_what at hr
      subst hr
      have hv := hv nx1 so2 pa3 wF4 wT5
      obtain ⟨hc, hv⟩ := hv
      refine ig_iast (f' := fun zj => nI ((updN xBc ruc ((cond b1 1 0) + (cond b2 2 0) + (cond b3 4 0) + (cond (sp_hv tX e s0) 8 0))) zj)) (ws' := [(o0, .inr (ciRM, [.int th, .ref ra, .int si, .ref rx, .ref rf, .ref rt, .ref rb, .ref rl, .int (nI ruc), .ref rp, .ref ru_, .ref rv, .int na, .int (nI nx1), .int (nI so2), .ref rr, .ref rs, .ref rg, .ref rh, .int (nI pa3), .ref rz, .ref ry, .int bz, .int de, .int dp, .int io])), (rx, .inl (cI, 1000, .inl tX)), (rf, .inl (cI, 60, .inl (fun zj => nI ((updN xFc ruc s0) zj)))), (rt, .inl (cI, 60, .inl (fun zj => nI ((updN xTc ruc e) zj)))), (rb, .inl (cI, 60, .inl (fun zj => nI ((updN xBc ruc ((cond b1 1 0) + (cond b2 2 0) + (cond b3 4 0) + (cond (sp_hv tX e s0) 8 0))) zj)))), (rl, .inl (cI, 60, .inl (fun zj => nI ((updN xLc ruc no) zj)))), (rg, .inl (cI, 1001, .inl (fun zj => nI (wF4 zj)))), (rh, .inl (cI, 1001, .inl (fun zj => nI (wT5 zj))))]) hx hb hK 4 1 rfl rfl ruc rfl hc (by decide) (upd_N xBc ruc ((cond b1 1 0) + (cond b2 2 0) + (cond b3 4 0) + (cond (sp_hv tX e s0) 8 0))) d_RM_line_257 rfl ?_
      refine ig_lv (lv' := [(0, .ref o0)]) [1] rfl ?_
      exact j258 _ _ _ _ _ _ _ _ _ _ hv
  have j190 : ∀ (e : Nat) (g : Nat) (b1 : Bool) (b2 : Bool) (b3 : Bool) (ruc : Nat) (nxc : Nat) (soc : Nat) (pac : Nat) (xFc : Nat → Nat) (xTc : Nat → Nat) (xBc : Nat → Nat) (xLc : Nat → Nat) (wFc : Nat → Nat) (wTc : Nat → Nat), v_RM_line_190 ru nx so pa tX xF xT xB xL wF wT f a no K3 (p_RM_line ru nx so pa tX xF xT xB xL wF wT f a no) e g b1 b2 b3 ruc nxc soc pac xFc xTc xBc xLc wFc wTc → ig_W zp l ze ({ frames := 5, cells := 0, slots := 0, locals := 119 }) zs zm zargs zbelow zmeth zc (dC, dI) ig_cl0 zA zs.heap 9 0 0 zQ 190 [(0, .ref o0), (3, .int (nI no)), (4, .int (nI e)), (5, .int (nI g)), (6, .int (bI b1)), (7, .int (bI b2)), (8, .int (bI b3))] [] [(o0, .inr (ciRM, [.int th, .ref ra, .int si, .ref rx, .ref rf, .ref rt, .ref rb, .ref rl, .int (nI ruc), .ref rp, .ref ru_, .ref rv, .int na, .int (nI nxc), .int (nI soc), .ref rr, .ref rs, .ref rg, .ref rh, .int (nI pac), .ref rz, .ref ry, .int bz, .int de, .int dp, .int io])), (rx, .inl (cI, 1000, .inl tX)), (rf, .inl (cI, 60, .inl (fun zj => nI (xFc zj)))), (rt, .inl (cI, 60, .inl (fun zj => nI (xTc zj)))), (rb, .inl (cI, 60, .inl (fun zj => nI (xBc zj)))), (rl, .inl (cI, 60, .inl (fun zj => nI (xLc zj)))), (rg, .inl (cI, 1001, .inl (fun zj => nI (wFc zj)))), (rh, .inl (cI, 1001, .inl (fun zj => nI (wTc zj))))] := by
    intro e g b1 b2 b3 ruc nxc soc pac xFc xTc xBc xLc wFc wTc hv
    unfold v_RM_line_190 at hv
    refine ig_iload hx hb 3 d_RM_line_190 rfl ?_
    refine ig_lv (lv' := [(0, .ref o0), (3, .int (nI no)), (4, .int (nI e)), (6, .int (bI b1)), (7, .int (bI b2)), (8, .int (bI b3))]) [0, 1, 2, 4, 5, 6] rfl ?_
    exact j192 _ _ _ _ _ _ _ _ _ _ _ _ _ _ _ hv
  have j152 : ∀ (g : Nat) (b1 : Bool) (b2 : Bool) (s0 : Nat) (ruc : Nat) (nxc : Nat) (soc : Nat) (pac : Nat) (xFc : Nat → Nat) (xTc : Nat → Nat) (xBc : Nat → Nat) (xLc : Nat → Nat) (wFc : Nat → Nat) (wTc : Nat → Nat), v_RM_line_152 ru nx so pa tX xF xT xB xL wF wT f a no K3 (p_RM_line ru nx so pa tX xF xT xB xL wF wT f a no) g b1 b2 s0 ruc nxc soc pac xFc xTc xBc xLc wFc wTc → ig_W zp l ze ({ frames := 5, cells := 0, slots := 0, locals := 119 }) zs zm zargs zbelow zmeth zc (dC, dI) ig_cl0 zA zs.heap 9 0 0 zQ 152 [(0, .ref o0), (3, .int (nI no)), (5, .int (nI g)), (6, .int (bI b1)), (7, .int (bI b2))] [.int (nI s0)] [(o0, .inr (ciRM, [.int th, .ref ra, .int si, .ref rx, .ref rf, .ref rt, .ref rb, .ref rl, .int (nI ruc), .ref rp, .ref ru_, .ref rv, .int na, .int (nI nxc), .int (nI soc), .ref rr, .ref rs, .ref rg, .ref rh, .int (nI pac), .ref rz, .ref ry, .int bz, .int de, .int dp, .int io])), (rx, .inl (cI, 1000, .inl tX)), (rf, .inl (cI, 60, .inl (fun zj => nI (xFc zj)))), (rt, .inl (cI, 60, .inl (fun zj => nI (xTc zj)))), (rb, .inl (cI, 60, .inl (fun zj => nI (xBc zj)))), (rl, .inl (cI, 60, .inl (fun zj => nI (xLc zj)))), (rg, .inl (cI, 1001, .inl (fun zj => nI (wFc zj)))), (rh, .inl (cI, 1001, .inl (fun zj => nI (wTc zj))))] := by
    intro g b1 b2 s0 ruc nxc soc pac xFc xTc xBc xLc wFc wTc hv
    unfold v_RM_line_152 at hv
    refine ig_istore (lv' := [(4, .int (nI s0)), (0, .ref o0), (3, .int (nI no)), (5, .int (nI g)), (6, .int (bI b1)), (7, .int (bI b2))]) hx hb d_RM_line_152 (by decide) rfl ?_
    refine ig_aload_n hx hb 1 d_RM_line_154 rfl rfl ?_
    refine ig_iload hx hb 3 d_RM_line_155 rfl ?_
    refine ig_iload hx hb 0 d_RM_line_157 rfl ?_
    refine ig_bipush (v := 47) hx hb d_RM_line_159 (by decide) ?_
    obtain ⟨hc, hv⟩ := hv
    refine ig_cVi (As := [.int (nI g), .int (nI s0), .int 47]) (rest := []) (wr := [(rf, .inl (cI, 60, .inl (fun zj => nI (xFc zj)))), (rt, .inl (cI, 60, .inl (fun zj => nI (xTc zj)))), (rb, .inl (cI, 60, .inl (fun zj => nI (xBc zj)))), (rl, .inl (cI, 60, .inl (fun zj => nI (xLc zj)))), (rg, .inl (cI, 1001, .inl (fun zj => nI (wFc zj)))), (rh, .inl (cI, 1001, .inl (fun zj => nI (wTc zj))))]) (ws' := fun u => [(o0, .inr (ciRM, [.int th, .ref ra, .int si, .ref rx, .ref rf, .ref rt, .ref rb, .ref rl, .int (nI ruc), .ref rp, .ref ru_, .ref rv, .int na, .int (nI nxc), .int (nI soc), .ref rr, .ref rs, .ref rg, .ref rh, .int (nI pac), .ref rz, .ref ry, .int bz, .int de, .int dp, .int io])), (rx, .inl (cI, 1000, .inl tX)), (rf, .inl (cI, 60, .inl (fun zj => nI (xFc zj)))), (rt, .inl (cI, 60, .inl (fun zj => nI (xTc zj)))), (rb, .inl (cI, 60, .inl (fun zj => nI (xBc zj)))), (rl, .inl (cI, 60, .inl (fun zj => nI (xLc zj)))), (rg, .inl (cI, 1001, .inl (fun zj => nI (wFc zj)))), (rh, .inl (cI, 1001, .inl (fun zj => nI (wTc zj))))]) hx hb hml hown hts hK hN hA (fun sz => c_RM_has l dC dI cC cI cZ cL o0 ra rx rf rt rb rl rp ru_ rv rr rs rg rh rz ry th si (nI ruc) na (nI nxc) (nI soc) (nI pac) bz de dp io tX g s0 47 sz hc) ⟨callB_of 3 hts g_RM_has rfl rfl rfl (hts _ kw_0_5) (hts _ kw_2_17) (by decide +kernel) (by decide), (hts _ kw_2_19), (hts _ ks_RM_has)⟩ rfl rfl (Nat.le_of_ble_eq_true rfl) d_RM_line_161 (by decide) 0 rfl rfl [0, 1] [2, 3, 4, 5, 6, 7] [6, 7, 0, 1, 2, 3, 4, 5] rfl rfl (by decide) (by decide) (by decide) (fun _ => rfl) (fun _ => rfl) (fun r u hr => ?_)
    obtain ⟨rr, rfl, hr⟩ := hr
    unfold p_RM_has at hr
    subst hr
    refine ig_istore (lv' := [(8, .int (bI (decide (sp_eon tX s0 g < s0)))), (4, .int (nI s0)), (0, .ref o0), (3, .int (nI no)), (5, .int (nI g)), (6, .int (bI b1)), (7, .int (bI b2))]) hx hb d_RM_line_164 (by decide) rfl ?_
    refine ig_iload hx hb 0 d_RM_line_166 rfl ?_
    refine ig_if_eqB (tgt := 190) hx hb (decide (sp_eon tX s0 g < s0)) rfl d_RM_line_168 (by decide) (fun h => ?_) (fun h => ?_)
    · have hv := hv.1 h
      refine ig_lv (lv' := [(0, .ref o0), (3, .int (nI no)), (4, .int (nI s0)), (5, .int (nI g)), (6, .int (bI b1)), (7, .int (bI b2)), (8, .int (bI (decide (sp_eon tX s0 g < s0))))]) [2, 3, 1, 4, 5, 6, 0] rfl ?_
      exact j190 _ _ _ _ _ _ _ _ _ _ _ _ _ _ _ hv
    · have hv := hv.2 h
      refine ig_aload_n hx hb 2 d_RM_line_171 rfl rfl ?_
      refine ig_get hx hb hts in_RM hown hK 0 rfl rfl 3 (by decide) (hts _ kw_1_148) (fun _ h => h) rfl d_RM_line_172 ?_
      refine ig_iload hx hb 4 d_RM_line_175 rfl ?_
      obtain ⟨hc, hv⟩ := hv
      refine ig_iald (x := (tX g)) hx hb hK 1 1 rfl rfl g rfl hc (by decide) rfl d_RM_line_177 ?_
      refine ig_bipush (v := 47) hx hb d_RM_line_178 (by decide) ?_
      refine ig_icmp_ne (tgt := 190) hx hb d_RM_line_180 (by decide) (fun h => ?_) (fun h => ?_)
      · have hv := hv.1 h
        refine ig_lv (lv' := [(0, .ref o0), (3, .int (nI no)), (4, .int (nI s0)), (5, .int (nI g)), (6, .int (bI b1)), (7, .int (bI b2)), (8, .int (bI (decide (sp_eon tX s0 g < s0))))]) [2, 3, 1, 4, 5, 6, 0] rfl ?_
        exact j190 _ _ _ _ _ _ _ _ _ _ _ _ _ _ _ hv
      · have hv := hv.2 h
        refine ig_iload hx hb 4 d_RM_line_183 rfl ?_
        refine ig_iconst (v := 1) hx hb d_RM_line_185 (by decide) ?_
        refine ig_iaddN hx hb g 1 rfl rfl d_RM_line_186 ?_
        refine ig_goto (tgt := 192) hx hb d_RM_line_187 (by decide) ?_
        refine ig_lv (lv' := [(0, .ref o0), (3, .int (nI no)), (4, .int (nI s0)), (6, .int (bI b1)), (7, .int (bI b2)), (8, .int (bI (decide (sp_eon tX s0 g < s0))))]) [2, 3, 1, 5, 6, 0] rfl ?_
        exact j192 _ _ _ _ _ _ _ _ _ _ _ _ _ _ _ hv
  have j136 : ∀ (e : Nat) (g : Nat) (b1 : Bool) (s0 : Bool) (ruc : Nat) (nxc : Nat) (soc : Nat) (pac : Nat) (xFc : Nat → Nat) (xTc : Nat → Nat) (xBc : Nat → Nat) (xLc : Nat → Nat) (wFc : Nat → Nat) (wTc : Nat → Nat), v_RM_line_136 ru nx so pa tX xF xT xB xL wF wT f a no K3 (p_RM_line ru nx so pa tX xF xT xB xL wF wT f a no) e g b1 s0 ruc nxc soc pac xFc xTc xBc xLc wFc wTc → ig_W zp l ze ({ frames := 5, cells := 0, slots := 0, locals := 119 }) zs zm zargs zbelow zmeth zc (dC, dI) ig_cl0 zA zs.heap 9 0 0 zQ 136 [(0, .ref o0), (3, .int (nI no)), (4, .int (nI e)), (5, .int (nI g)), (6, .int (bI b1))] [.int (bI s0)] [(o0, .inr (ciRM, [.int th, .ref ra, .int si, .ref rx, .ref rf, .ref rt, .ref rb, .ref rl, .int (nI ruc), .ref rp, .ref ru_, .ref rv, .int na, .int (nI nxc), .int (nI soc), .ref rr, .ref rs, .ref rg, .ref rh, .int (nI pac), .ref rz, .ref ry, .int bz, .int de, .int dp, .int io])), (rx, .inl (cI, 1000, .inl tX)), (rf, .inl (cI, 60, .inl (fun zj => nI (xFc zj)))), (rt, .inl (cI, 60, .inl (fun zj => nI (xTc zj)))), (rb, .inl (cI, 60, .inl (fun zj => nI (xBc zj)))), (rl, .inl (cI, 60, .inl (fun zj => nI (xLc zj)))), (rg, .inl (cI, 1001, .inl (fun zj => nI (wFc zj)))), (rh, .inl (cI, 1001, .inl (fun zj => nI (wTc zj))))] := by
    intro e g b1 s0 ruc nxc soc pac xFc xTc xBc xLc wFc wTc hv
    unfold v_RM_line_136 at hv
    refine ig_istore (lv' := [(7, .int (bI s0)), (0, .ref o0), (3, .int (nI no)), (4, .int (nI e)), (5, .int (nI g)), (6, .int (bI b1))]) hx hb d_RM_line_136 (by decide) rfl ?_
    refine ig_iload hx hb 0 d_RM_line_138 rfl ?_
    refine ig_if_eqB (tgt := 150) hx hb s0 rfl d_RM_line_140 (by decide) (fun h => ?_) (fun h => ?_)
    · have hv := hv.1 h
      refine ig_iload hx hb 3 d_RM_line_150 rfl ?_
      refine ig_lv (lv' := [(0, .ref o0), (3, .int (nI no)), (5, .int (nI g)), (6, .int (bI b1)), (7, .int (bI s0))]) [1, 2, 4, 5, 0] rfl ?_
      exact j152 _ _ _ _ _ _ _ _ _ _ _ _ _ _ hv
    · have hv := hv.2 h
      refine ig_iload hx hb 3 d_RM_line_143 rfl ?_
      refine ig_iconst (v := 1) hx hb d_RM_line_145 (by decide) ?_
      obtain ⟨hc, hv⟩ := hv
      refine ig_isubN hx hb e 1 rfl rfl hc d_RM_line_146 ?_
      refine ig_goto (tgt := 152) hx hb d_RM_line_147 (by decide) ?_
      refine ig_lv (lv' := [(0, .ref o0), (3, .int (nI no)), (5, .int (nI g)), (6, .int (bI b1)), (7, .int (bI s0))]) [1, 2, 4, 5, 0] rfl ?_
      exact j152 _ _ _ _ _ _ _ _ _ _ _ _ _ _ hv
  have j135 : ∀ (e : Nat) (g : Nat) (b1 : Bool) (ruc : Nat) (nxc : Nat) (soc : Nat) (pac : Nat) (xFc : Nat → Nat) (xTc : Nat → Nat) (xBc : Nat → Nat) (xLc : Nat → Nat) (wFc : Nat → Nat) (wTc : Nat → Nat), v_RM_line_135 ru nx so pa tX xF xT xB xL wF wT f a no K3 (p_RM_line ru nx so pa tX xF xT xB xL wF wT f a no) e g b1 ruc nxc soc pac xFc xTc xBc xLc wFc wTc → ig_W zp l ze ({ frames := 5, cells := 0, slots := 0, locals := 119 }) zs zm zargs zbelow zmeth zc (dC, dI) ig_cl0 zA zs.heap 9 0 0 zQ 135 [(0, .ref o0), (3, .int (nI no)), (4, .int (nI e)), (5, .int (nI g)), (6, .int (bI b1))] [] [(o0, .inr (ciRM, [.int th, .ref ra, .int si, .ref rx, .ref rf, .ref rt, .ref rb, .ref rl, .int (nI ruc), .ref rp, .ref ru_, .ref rv, .int na, .int (nI nxc), .int (nI soc), .ref rr, .ref rs, .ref rg, .ref rh, .int (nI pac), .ref rz, .ref ry, .int bz, .int de, .int dp, .int io])), (rx, .inl (cI, 1000, .inl tX)), (rf, .inl (cI, 60, .inl (fun zj => nI (xFc zj)))), (rt, .inl (cI, 60, .inl (fun zj => nI (xTc zj)))), (rb, .inl (cI, 60, .inl (fun zj => nI (xBc zj)))), (rl, .inl (cI, 60, .inl (fun zj => nI (xLc zj)))), (rg, .inl (cI, 1001, .inl (fun zj => nI (wFc zj)))), (rh, .inl (cI, 1001, .inl (fun zj => nI (wTc zj))))] := by
    intro e g b1 ruc nxc soc pac xFc xTc xBc xLc wFc wTc hv
    unfold v_RM_line_135 at hv
    refine ig_iconst (v := 0) hx hb d_RM_line_135 (by decide) ?_
    refine ig_lv (lv' := [(0, .ref o0), (3, .int (nI no)), (4, .int (nI e)), (5, .int (nI g)), (6, .int (bI b1))]) [0, 1, 2, 3, 4] rfl ?_
    exact j136 _ _ _ _ _ _ _ _ _ _ _ _ _ _ hv
  have j95 : ∀ (e : Nat) (b1 : Bool) (s0 : Nat) (ruc : Nat) (nxc : Nat) (soc : Nat) (pac : Nat) (xFc : Nat → Nat) (xTc : Nat → Nat) (xBc : Nat → Nat) (xLc : Nat → Nat) (wFc : Nat → Nat) (wTc : Nat → Nat), v_RM_line_95 ru nx so pa tX xF xT xB xL wF wT f a no K3 (p_RM_line ru nx so pa tX xF xT xB xL wF wT f a no) e b1 s0 ruc nxc soc pac xFc xTc xBc xLc wFc wTc → ig_W zp l ze ({ frames := 5, cells := 0, slots := 0, locals := 119 }) zs zm zargs zbelow zmeth zc (dC, dI) ig_cl0 zA zs.heap 9 0 0 zQ 95 [(0, .ref o0), (3, .int (nI no)), (4, .int (nI e)), (6, .int (bI b1))] [.int (nI s0)] [(o0, .inr (ciRM, [.int th, .ref ra, .int si, .ref rx, .ref rf, .ref rt, .ref rb, .ref rl, .int (nI ruc), .ref rp, .ref ru_, .ref rv, .int na, .int (nI nxc), .int (nI soc), .ref rr, .ref rs, .ref rg, .ref rh, .int (nI pac), .ref rz, .ref ry, .int bz, .int de, .int dp, .int io])), (rx, .inl (cI, 1000, .inl tX)), (rf, .inl (cI, 60, .inl (fun zj => nI (xFc zj)))), (rt, .inl (cI, 60, .inl (fun zj => nI (xTc zj)))), (rb, .inl (cI, 60, .inl (fun zj => nI (xBc zj)))), (rl, .inl (cI, 60, .inl (fun zj => nI (xLc zj)))), (rg, .inl (cI, 1001, .inl (fun zj => nI (wFc zj)))), (rh, .inl (cI, 1001, .inl (fun zj => nI (wTc zj))))] := by
    intro e b1 s0 ruc nxc soc pac xFc xTc xBc xLc wFc wTc hv
    unfold v_RM_line_95 at hv
    refine ig_istore (lv' := [(5, .int (nI s0)), (0, .ref o0), (3, .int (nI no)), (4, .int (nI e)), (6, .int (bI b1))]) hx hb d_RM_line_95 (by decide) rfl ?_
    refine ig_iload hx hb 3 d_RM_line_97 rfl ?_
    refine ig_iload hx hb 0 d_RM_line_99 rfl ?_
    obtain ⟨h1, hv⟩ := hv
    obtain ⟨h2, hv⟩ := hv
    refine ig_icmp_leN (tgt := 135) hx hb e s0 rfl rfl d_RM_line_101 (by decide) h1 h2 (fun h => ?_) (fun h => ?_)
    · have hv := hv.1 h
      refine ig_lv (lv' := [(0, .ref o0), (3, .int (nI no)), (4, .int (nI e)), (5, .int (nI s0)), (6, .int (bI b1))]) [1, 2, 3, 0, 4] rfl ?_
      exact j135 _ _ _ _ _ _ _ _ _ _ _ _ _ hv
    · have hv := hv.2 h
      refine ig_aload_n hx hb 1 d_RM_line_104 rfl rfl ?_
      refine ig_get hx hb hts in_RM hown hK 0 rfl rfl 3 (by decide) (hts _ kw_1_148) (fun _ h => h) rfl d_RM_line_105 ?_
      refine ig_iload hx hb 3 d_RM_line_108 rfl ?_
      refine ig_iconst (v := 1) hx hb d_RM_line_110 (by decide) ?_
      obtain ⟨hc, hv⟩ := hv
      refine ig_isubN hx hb e 1 rfl rfl hc d_RM_line_111 ?_
      obtain ⟨hc, hv⟩ := hv
      refine ig_iald (x := (tX (e - 1))) hx hb hK 1 1 rfl rfl (e - 1) rfl hc (by decide) rfl d_RM_line_112 ?_
      refine ig_bipush (v := 47) hx hb d_RM_line_113 (by decide) ?_
      refine ig_icmp_ne (tgt := 135) hx hb d_RM_line_115 (by decide) (fun h => ?_) (fun h => ?_)
      · have hv := hv.1 h
        refine ig_lv (lv' := [(0, .ref o0), (3, .int (nI no)), (4, .int (nI e)), (5, .int (nI s0)), (6, .int (bI b1))]) [1, 2, 3, 0, 4] rfl ?_
        exact j135 _ _ _ _ _ _ _ _ _ _ _ _ _ hv
      · have hv := hv.2 h
        refine ig_aload_n hx hb 1 d_RM_line_118 rfl rfl ?_
        refine ig_iload hx hb 0 d_RM_line_119 rfl ?_
        refine ig_iload hx hb 3 d_RM_line_121 rfl ?_
        refine ig_iconst (v := 1) hx hb d_RM_line_123 (by decide) ?_
        obtain ⟨hc, hv⟩ := hv
        refine ig_isubN hx hb e 1 rfl rfl hc d_RM_line_124 ?_
        obtain ⟨hc, hv⟩ := hv
        refine ig_cVi (As := [.int (nI s0), .int (nI (e - 1))]) (rest := []) (wr := [(rf, .inl (cI, 60, .inl (fun zj => nI (xFc zj)))), (rt, .inl (cI, 60, .inl (fun zj => nI (xTc zj)))), (rb, .inl (cI, 60, .inl (fun zj => nI (xBc zj)))), (rl, .inl (cI, 60, .inl (fun zj => nI (xLc zj)))), (rg, .inl (cI, 1001, .inl (fun zj => nI (wFc zj)))), (rh, .inl (cI, 1001, .inl (fun zj => nI (wTc zj))))]) (ws' := fun u => [(o0, .inr (ciRM, [.int th, .ref ra, .int si, .ref rx, .ref rf, .ref rt, .ref rb, .ref rl, .int (nI ruc), .ref rp, .ref ru_, .ref rv, .int na, .int (nI nxc), .int (nI soc), .ref rr, .ref rs, .ref rg, .ref rh, .int (nI pac), .ref rz, .ref ry, .int bz, .int de, .int dp, .int io])), (rx, .inl (cI, 1000, .inl tX)), (rf, .inl (cI, 60, .inl (fun zj => nI (xFc zj)))), (rt, .inl (cI, 60, .inl (fun zj => nI (xTc zj)))), (rb, .inl (cI, 60, .inl (fun zj => nI (xBc zj)))), (rl, .inl (cI, 60, .inl (fun zj => nI (xLc zj)))), (rg, .inl (cI, 1001, .inl (fun zj => nI (wFc zj)))), (rh, .inl (cI, 1001, .inl (fun zj => nI (wTc zj))))]) hx hb hml hown hts hK hN hA (fun sz => c_RM_isBehindOdd l dC dI cC cI cZ cL o0 ra rx rf rt rb rl rp ru_ rv rr rs rg rh rz ry th si (nI ruc) na (nI nxc) (nI soc) (nI pac) bz de dp io tX s0 (e - 1) sz hc) ⟨callB_of 2 hts g_RM_isBehindOdd rfl rfl rfl (hts _ kw_0_5) (hts _ kw_2_13) (by decide +kernel) (by decide), (hts _ kw_2_15), (hts _ ks_RM_isBehindOdd)⟩ rfl rfl (Nat.le_of_ble_eq_true rfl) d_RM_line_125 (by decide) 0 rfl rfl [0, 1] [2, 3, 4, 5, 6, 7] [6, 7, 0, 1, 2, 3, 4, 5] rfl rfl (by decide) (by decide) (by decide) (fun _ => rfl) (fun _ => rfl) (fun r u hr => ?_)
        obtain ⟨rr, rfl, hr⟩ := hr
        unfold p_RM_isBehindOdd at hr
        subst hr
        refine ig_if_neB (tgt := 135) hx hb (sp_esc tX s0 (e - 1)) rfl d_RM_line_128 (by decide) (fun h => ?_) (fun h => ?_)
        · have hv := hv.1 h
          refine ig_lv (lv' := [(0, .ref o0), (3, .int (nI no)), (4, .int (nI e)), (5, .int (nI s0)), (6, .int (bI b1))]) [1, 2, 3, 0, 4] rfl ?_
          exact j135 _ _ _ _ _ _ _ _ _ _ _ _ _ hv
        · have hv := hv.2 h
          refine ig_iconst (v := 1) hx hb d_RM_line_131 (by decide) ?_
          refine ig_goto (tgt := 136) hx hb d_RM_line_132 (by decide) ?_
          refine ig_lv (lv' := [(0, .ref o0), (3, .int (nI no)), (4, .int (nI e)), (5, .int (nI s0)), (6, .int (bI b1))]) [1, 2, 3, 0, 4] rfl ?_
          exact j136 _ _ _ _ _ _ _ _ _ _ _ _ _ _ hv
  have j79 : ∀ (e : Nat) (g : Nat) (s0 : Bool) (ruc : Nat) (nxc : Nat) (soc : Nat) (pac : Nat) (xFc : Nat → Nat) (xTc : Nat → Nat) (xBc : Nat → Nat) (xLc : Nat → Nat) (wFc : Nat → Nat) (wTc : Nat → Nat), v_RM_line_79 ru nx so pa tX xF xT xB xL wF wT f a no K3 (p_RM_line ru nx so pa tX xF xT xB xL wF wT f a no) e g s0 ruc nxc soc pac xFc xTc xBc xLc wFc wTc → ig_W zp l ze ({ frames := 5, cells := 0, slots := 0, locals := 119 }) zs zm zargs zbelow zmeth zc (dC, dI) ig_cl0 zA zs.heap 9 0 0 zQ 79 [(0, .ref o0), (3, .int (nI no)), (4, .int (nI e)), (5, .int (nI g))] [.int (bI s0)] [(o0, .inr (ciRM, [.int th, .ref ra, .int si, .ref rx, .ref rf, .ref rt, .ref rb, .ref rl, .int (nI ruc), .ref rp, .ref ru_, .ref rv, .int na, .int (nI nxc), .int (nI soc), .ref rr, .ref rs, .ref rg, .ref rh, .int (nI pac), .ref rz, .ref ry, .int bz, .int de, .int dp, .int io])), (rx, .inl (cI, 1000, .inl tX)), (rf, .inl (cI, 60, .inl (fun zj => nI (xFc zj)))), (rt, .inl (cI, 60, .inl (fun zj => nI (xTc zj)))), (rb, .inl (cI, 60, .inl (fun zj => nI (xBc zj)))), (rl, .inl (cI, 60, .inl (fun zj => nI (xLc zj)))), (rg, .inl (cI, 1001, .inl (fun zj => nI (wFc zj)))), (rh, .inl (cI, 1001, .inl (fun zj => nI (wTc zj))))] := by
    intro e g s0 ruc nxc soc pac xFc xTc xBc xLc wFc wTc hv
    unfold v_RM_line_79 at hv
    refine ig_istore (lv' := [(6, .int (bI s0)), (0, .ref o0), (3, .int (nI no)), (4, .int (nI e)), (5, .int (nI g))]) hx hb d_RM_line_79 (by decide) rfl ?_
    refine ig_iload hx hb 0 d_RM_line_81 rfl ?_
    refine ig_if_eqB (tgt := 93) hx hb s0 rfl d_RM_line_83 (by decide) (fun h => ?_) (fun h => ?_)
    · have hv := hv.1 h
      refine ig_iload hx hb 4 d_RM_line_93 rfl ?_
      refine ig_lv (lv' := [(0, .ref o0), (3, .int (nI no)), (4, .int (nI e)), (6, .int (bI s0))]) [1, 2, 3, 0] rfl ?_
      exact j95 _ _ _ _ _ _ _ _ _ _ _ _ _ hv
    · have hv := hv.2 h
      refine ig_iload hx hb 4 d_RM_line_86 rfl ?_
      refine ig_iconst (v := 1) hx hb d_RM_line_88 (by decide) ?_
      refine ig_iaddN hx hb g 1 rfl rfl d_RM_line_89 ?_
      refine ig_goto (tgt := 95) hx hb d_RM_line_90 (by decide) ?_
      refine ig_lv (lv' := [(0, .ref o0), (3, .int (nI no)), (4, .int (nI e)), (6, .int (bI s0))]) [1, 2, 3, 0] rfl ?_
      exact j95 _ _ _ _ _ _ _ _ _ _ _ _ _ hv
  have j41 : ∀ (e : Nat) (ruc : Nat) (nxc : Nat) (soc : Nat) (pac : Nat) (xFc : Nat → Nat) (xTc : Nat → Nat) (xBc : Nat → Nat) (xLc : Nat → Nat) (wFc : Nat → Nat) (wTc : Nat → Nat), v_RM_line_41 ru nx so pa tX xF xT xB xL wF wT f a no K3 (p_RM_line ru nx so pa tX xF xT xB xL wF wT f a no) e ruc nxc soc pac xFc xTc xBc xLc wFc wTc → ig_W zp l ze ({ frames := 5, cells := 0, slots := 0, locals := 119 }) zs zm zargs zbelow zmeth zc (dC, dI) ig_cl0 zA zs.heap 9 0 0 zQ 41 [(0, .ref o0), (1, .int (nI f)), (3, .int (nI no)), (4, .int (nI e))] [] [(o0, .inr (ciRM, [.int th, .ref ra, .int si, .ref rx, .ref rf, .ref rt, .ref rb, .ref rl, .int (nI ruc), .ref rp, .ref ru_, .ref rv, .int na, .int (nI nxc), .int (nI soc), .ref rr, .ref rs, .ref rg, .ref rh, .int (nI pac), .ref rz, .ref ry, .int bz, .int de, .int dp, .int io])), (rx, .inl (cI, 1000, .inl tX)), (rf, .inl (cI, 60, .inl (fun zj => nI (xFc zj)))), (rt, .inl (cI, 60, .inl (fun zj => nI (xTc zj)))), (rb, .inl (cI, 60, .inl (fun zj => nI (xBc zj)))), (rl, .inl (cI, 60, .inl (fun zj => nI (xLc zj)))), (rg, .inl (cI, 1001, .inl (fun zj => nI (wFc zj)))), (rh, .inl (cI, 1001, .inl (fun zj => nI (wTc zj))))] := by
    intro e ruc nxc soc pac xFc xTc xBc xLc wFc wTc hv
    unfold v_RM_line_41 at hv
    refine ig_iload hx hb 3 d_RM_line_41 rfl ?_
    refine ig_iload_n hx hb 1 d_RM_line_43 rfl rfl ?_
    obtain ⟨h1, hv⟩ := hv
    obtain ⟨h2, hv⟩ := hv
    refine ig_icmp_eqN (tgt := 58) hx hb e f rfl rfl d_RM_line_44 (by decide) h1 h2 (fun h => ?_) (fun h => ?_)
    · have hv := hv.1 h
      exact hret 58 _ (ruc, xFc, xTc, xBc, xLc, nxc, soc, pac, wFc, wTc) d_RM_line_58 hv
    · have hv := hv.2 h
      refine ig_aload_n hx hb 0 d_RM_line_47 rfl rfl ?_
      refine ig_get hx hb hts in_RM hown hK 0 rfl rfl 3 (by decide) (hts _ kw_1_148) (fun _ h => h) rfl d_RM_line_48 ?_
      refine ig_iload_n hx hb 1 d_RM_line_51 rfl rfl ?_
      obtain ⟨hc, hv⟩ := hv
      refine ig_iald (x := (tX f)) hx hb hK 1 1 rfl rfl f rfl hc (by decide) rfl d_RM_line_52 ?_
      refine ig_bipush (v := 35) hx hb d_RM_line_53 (by decide) ?_
      refine ig_icmp_ne (tgt := 59) hx hb d_RM_line_55 (by decide) (fun h => ?_) (fun h => ?_)
      · have hv := hv.1 h
        refine ig_iload_n hx hb 1 d_RM_line_59 rfl rfl ?_
        refine ig_istore (lv' := [(5, .int (nI f)), (0, .ref o0), (1, .int (nI f)), (3, .int (nI no)), (4, .int (nI e))]) hx hb d_RM_line_60 (by decide) rfl ?_
        refine ig_aload_n hx hb 1 d_RM_line_62 rfl rfl ?_
        refine ig_get hx hb hts in_RM hown hK 0 rfl rfl 3 (by decide) (hts _ kw_1_148) (fun _ h => h) rfl d_RM_line_63 ?_
        refine ig_iload hx hb 0 d_RM_line_66 rfl ?_
        obtain ⟨hc, hv⟩ := hv
        refine ig_iald (x := (tX f)) hx hb hK 1 1 rfl rfl f rfl hc (by decide) rfl d_RM_line_68 ?_
        refine ig_bipush (v := 33) hx hb d_RM_line_69 (by decide) ?_
        refine ig_icmp_ne (tgt := 78) hx hb d_RM_line_71 (by decide) (fun h => ?_) (fun h => ?_)
        · have hv := hv.1 h
          refine ig_iconst (v := 0) hx hb d_RM_line_78 (by decide) ?_
          refine ig_lv (lv' := [(0, .ref o0), (3, .int (nI no)), (4, .int (nI e)), (5, .int (nI f))]) [1, 3, 4, 0] rfl ?_
          exact j79 _ _ _ _ _ _ _ _ _ _ _ _ _ hv
        · have hv := hv.2 h
          refine ig_iconst (v := 1) hx hb d_RM_line_74 (by decide) ?_
          refine ig_goto (tgt := 79) hx hb d_RM_line_75 (by decide) ?_
          refine ig_lv (lv' := [(0, .ref o0), (3, .int (nI no)), (4, .int (nI e)), (5, .int (nI f))]) [1, 3, 4, 0] rfl ?_
          exact j79 _ _ _ _ _ _ _ _ _ _ _ _ _ hv
      · have hv := hv.2 h
        exact hret 58 _ (ruc, xFc, xTc, xBc, xLc, nxc, soc, pac, wFc, wTc) d_RM_line_58 hv
  have k3 : ∀ (e : Nat) (ruc : Nat) (nxc : Nat) (soc : Nat) (pac : Nat) (xFc : Nat → Nat) (xTc : Nat → Nat) (xBc : Nat → Nat) (xLc : Nat → Nat) (wFc : Nat → Nat) (wTc : Nat → Nat), v_RM_line_3 ru nx so pa tX xF xT xB xL wF wT f a no K3 (p_RM_line ru nx so pa tX xF xT xB xL wF wT f a no) e ruc nxc soc pac xFc xTc xBc xLc wFc wTc → K3 e ruc nxc soc pac xFc xTc xBc xLc wFc wTc := by
    intro e ruc nxc soc pac xFc xTc xBc xLc wFc wTc hv
    unfold v_RM_line_3 at hv
    rw [hK3]
    show ig_W zp l ze ({ frames := 5, cells := 0, slots := 0, locals := 119 }) zs zm zargs zbelow zmeth zc (dC, dI) ig_cl0 zA zs.heap 9 0 0 zQ 3 [(0, .ref o0), (1, .int (nI f)), (3, .int (nI no)), (4, .int (nI e))] [] [(o0, .inr (ciRM, [.int th, .ref ra, .int si, .ref rx, .ref rf, .ref rt, .ref rb, .ref rl, .int (nI ruc), .ref rp, .ref ru_, .ref rv, .int na, .int (nI nxc), .int (nI soc), .ref rr, .ref rs, .ref rg, .ref rh, .int (nI pac), .ref rz, .ref ry, .int bz, .int de, .int dp, .int io])), (rx, .inl (cI, 1000, .inl tX)), (rf, .inl (cI, 60, .inl (fun zj => nI (xFc zj)))), (rt, .inl (cI, 60, .inl (fun zj => nI (xTc zj)))), (rb, .inl (cI, 60, .inl (fun zj => nI (xBc zj)))), (rl, .inl (cI, 60, .inl (fun zj => nI (xLc zj)))), (rg, .inl (cI, 1001, .inl (fun zj => nI (wFc zj)))), (rh, .inl (cI, 1001, .inl (fun zj => nI (wTc zj))))]
    refine ig_iload hx hb 3 d_RM_line_3 rfl ?_
    refine ig_iload_n hx hb 1 d_RM_line_5 rfl rfl ?_
    obtain ⟨h1, hv⟩ := hv
    obtain ⟨h2, hv⟩ := hv
    refine ig_icmp_leN (tgt := 41) hx hb e f rfl rfl d_RM_line_6 (by decide) h1 h2 (fun h => ?_) (fun h => ?_)
    · have hv := hv.1 h
      refine ig_lv (lv' := [(0, .ref o0), (1, .int (nI f)), (3, .int (nI no)), (4, .int (nI e))]) [0, 1, 2, 3] rfl ?_
      exact j41 _ _ _ _ _ _ _ _ _ _ _ hv
    · have hv := hv.2 h
      refine ig_aload_n hx hb 0 d_RM_line_9 rfl rfl ?_
      refine ig_get hx hb hts in_RM hown hK 0 rfl rfl 3 (by decide) (hts _ kw_1_148) (fun _ h => h) rfl d_RM_line_10 ?_
      refine ig_iload hx hb 3 d_RM_line_13 rfl ?_
      refine ig_iconst (v := 1) hx hb d_RM_line_15 (by decide) ?_
      obtain ⟨hc, hv⟩ := hv
      refine ig_isubN hx hb e 1 rfl rfl hc d_RM_line_16 ?_
      obtain ⟨hc, hv⟩ := hv
      refine ig_iald (x := (tX (e - 1))) hx hb hK 1 1 rfl rfl (e - 1) rfl hc (by decide) rfl d_RM_line_17 ?_
      refine ig_bipush (v := 32) hx hb d_RM_line_18 (by decide) ?_
      refine ig_icmp_ne (tgt := 41) hx hb d_RM_line_20 (by decide) (fun h => ?_) (fun h => ?_)
      · have hv := hv.1 h
        refine ig_lv (lv' := [(0, .ref o0), (1, .int (nI f)), (3, .int (nI no)), (4, .int (nI e))]) [0, 1, 2, 3] rfl ?_
        exact j41 _ _ _ _ _ _ _ _ _ _ _ hv
      · have hv := hv.2 h
        refine ig_aload_n hx hb 0 d_RM_line_23 rfl rfl ?_
        refine ig_iload_n hx hb 1 d_RM_line_24 rfl rfl ?_
        refine ig_iload hx hb 3 d_RM_line_25 rfl ?_
        refine ig_iconst (v := 1) hx hb d_RM_line_27 (by decide) ?_
        obtain ⟨hc, hv⟩ := hv
        refine ig_isubN hx hb e 1 rfl rfl hc d_RM_line_28 ?_
        obtain ⟨hc, hv⟩ := hv
        refine ig_cVi (As := [.int (nI f), .int (nI (e - 1))]) (rest := []) (wr := [(rf, .inl (cI, 60, .inl (fun zj => nI (xFc zj)))), (rt, .inl (cI, 60, .inl (fun zj => nI (xTc zj)))), (rb, .inl (cI, 60, .inl (fun zj => nI (xBc zj)))), (rl, .inl (cI, 60, .inl (fun zj => nI (xLc zj)))), (rg, .inl (cI, 1001, .inl (fun zj => nI (wFc zj)))), (rh, .inl (cI, 1001, .inl (fun zj => nI (wTc zj))))]) (ws' := fun u => [(o0, .inr (ciRM, [.int th, .ref ra, .int si, .ref rx, .ref rf, .ref rt, .ref rb, .ref rl, .int (nI ruc), .ref rp, .ref ru_, .ref rv, .int na, .int (nI nxc), .int (nI soc), .ref rr, .ref rs, .ref rg, .ref rh, .int (nI pac), .ref rz, .ref ry, .int bz, .int de, .int dp, .int io])), (rx, .inl (cI, 1000, .inl tX)), (rf, .inl (cI, 60, .inl (fun zj => nI (xFc zj)))), (rt, .inl (cI, 60, .inl (fun zj => nI (xTc zj)))), (rb, .inl (cI, 60, .inl (fun zj => nI (xBc zj)))), (rl, .inl (cI, 60, .inl (fun zj => nI (xLc zj)))), (rg, .inl (cI, 1001, .inl (fun zj => nI (wFc zj)))), (rh, .inl (cI, 1001, .inl (fun zj => nI (wTc zj))))]) hx hb hml hown hts hK hN hA (fun sz => c_RM_isBehindOdd l dC dI cC cI cZ cL o0 ra rx rf rt rb rl rp ru_ rv rr rs rg rh rz ry th si (nI ruc) na (nI nxc) (nI soc) (nI pac) bz de dp io tX f (e - 1) sz hc) ⟨callB_of 2 hts g_RM_isBehindOdd rfl rfl rfl (hts _ kw_0_5) (hts _ kw_2_13) (by decide +kernel) (by decide), (hts _ kw_2_15), (hts _ ks_RM_isBehindOdd)⟩ rfl rfl (Nat.le_of_ble_eq_true rfl) d_RM_line_29 (by decide) 0 rfl rfl [0, 1] [2, 3, 4, 5, 6, 7] [6, 7, 0, 1, 2, 3, 4, 5] rfl rfl (by decide) (by decide) (by decide) (fun _ => rfl) (fun _ => rfl) (fun r u hr => ?_)
        obtain ⟨rr, rfl, hr⟩ := hr
        unfold p_RM_isBehindOdd at hr
        subst hr
        refine ig_if_neB (tgt := 41) hx hb (sp_esc tX f (e - 1)) rfl d_RM_line_32 (by decide) (fun h => ?_) (fun h => ?_)
        · have hv := hv.1 h
          refine ig_lv (lv' := [(0, .ref o0), (1, .int (nI f)), (3, .int (nI no)), (4, .int (nI e))]) [0, 1, 2, 3] rfl ?_
          exact j41 _ _ _ _ _ _ _ _ _ _ _ hv
        · have hv := hv.2 h
          obtain ⟨hc, hv⟩ := hv
          refine ig_iinc (v := (nI (e - 1))) (lv' := [(4, .int (nI (e - 1))), (0, .ref o0), (1, .int (nI f)), (3, .int (nI no))]) hx hb 3 d_RM_line_35 rfl (ig_dec 1 hc (by decide)) (by decide) rfl ?_
          refine ig_goto (tgt := 3) hx hb d_RM_line_38 (by decide) ?_
          refine ig_lv (lv' := [(0, .ref o0), (1, .int (nI f)), (3, .int (nI no)), (4, .int (nI (e - 1)))]) [1, 2, 3, 0] rfl ?_
          rw [hK3] at hv
          exact hv
  have hv := t_RM_line ru nx so pa tX xF xT xB xL wF wT f a no hr K3 k3
  unfold v_RM_line at hv
  refine ig_iload_n hx hb 2 d_RM_line_0 rfl rfl ?_
  refine ig_istore (lv' := [(4, .int (nI a)), (0, .ref o0), (1, .int (nI f)), (2, .int (nI a)), (3, .int (nI no))]) hx hb d_RM_line_1 (by decide) rfl ?_
  refine ig_lv (lv' := [(0, .ref o0), (1, .int (nI f)), (3, .int (nI no)), (4, .int (nI a))]) [1, 2, 4, 0] rfl ?_
  rw [hK3] at hv
  exact hv
theorem d_RM_tryLines_0 : decode b_RM_tryLines 0 = .ok (.iconst 0, 1) := by decide +kernel
theorem d_RM_tryLines_1 : decode b_RM_tryLines 1 = .ok (.istore_n 1, 1) := by decide +kernel
theorem d_RM_tryLines_2 : decode b_RM_tryLines 2 = .ok (.iconst 0, 1) := by decide +kernel
theorem d_RM_tryLines_3 : decode b_RM_tryLines 3 = .ok (.istore_n 2, 1) := by decide +kernel
theorem d_RM_tryLines_4 : decode b_RM_tryLines 4 = .ok (.aload_n 0, 1) := by decide +kernel
theorem d_RM_tryLines_5 : decode b_RM_tryLines 5 = .ok (.iconst 0, 1) := by decide +kernel
theorem d_RM_tryLines_6 : decode b_RM_tryLines 6 = .ok (.putfield 109, 3) := by decide +kernel
theorem d_RM_tryLines_9 : decode b_RM_tryLines 9 = .ok (.iconst 0, 1) := by decide +kernel
theorem d_RM_tryLines_10 : decode b_RM_tryLines 10 = .ok (.istore_n 3, 1) := by decide +kernel
theorem d_RM_tryLines_11 : decode b_RM_tryLines 11 = .ok (.iload_n 3, 1) := by decide +kernel
theorem d_RM_tryLines_12 : decode b_RM_tryLines 12 = .ok (.aload_n 0, 1) := by decide +kernel
theorem d_RM_tryLines_13 : decode b_RM_tryLines 13 = .ok (.getfield 60, 3) := by decide +kernel
theorem d_RM_tryLines_16 : decode b_RM_tryLines 16 = .ok (.if_icmp .gt 42, 3) := by decide +kernel
theorem d_RM_tryLines_19 : decode b_RM_tryLines 19 = .ok (.iload_n 3, 1) := by decide +kernel
theorem d_RM_tryLines_20 : decode b_RM_tryLines 20 = .ok (.aload_n 0, 1) := by decide +kernel
theorem d_RM_tryLines_21 : decode b_RM_tryLines 21 = .ok (.getfield 60, 3) := by decide +kernel
theorem d_RM_tryLines_24 : decode b_RM_tryLines 24 = .ok (.if_icmp .eq 14, 3) := by decide +kernel
theorem d_RM_tryLines_27 : decode b_RM_tryLines 27 = .ok (.aload_n 0, 1) := by decide +kernel
theorem d_RM_tryLines_28 : decode b_RM_tryLines 28 = .ok (.getfield 13, 3) := by decide +kernel
theorem d_RM_tryLines_31 : decode b_RM_tryLines 31 = .ok (.iload_n 3, 1) := by decide +kernel
theorem d_RM_tryLines_32 : decode b_RM_tryLines 32 = .ok (.iaload, 1) := by decide +kernel
theorem d_RM_tryLines_33 : decode b_RM_tryLines 33 = .ok (.bipush 10, 2) := by decide +kernel
theorem d_RM_tryLines_35 : decode b_RM_tryLines 35 = .ok (.if_icmp .ne 17, 3) := by decide +kernel
theorem d_RM_tryLines_38 : decode b_RM_tryLines 38 = .ok (.aload_n 0, 1) := by decide +kernel
theorem d_RM_tryLines_39 : decode b_RM_tryLines 39 = .ok (.iload_n 1, 1) := by decide +kernel
theorem d_RM_tryLines_40 : decode b_RM_tryLines 40 = .ok (.iload_n 3, 1) := by decide +kernel
theorem d_RM_tryLines_41 : decode b_RM_tryLines 41 = .ok (.iload_n 2, 1) := by decide +kernel
theorem d_RM_tryLines_42 : decode b_RM_tryLines 42 = .ok (.invokevirtual 116, 3) := by decide +kernel
theorem d_RM_tryLines_45 : decode b_RM_tryLines 45 = .ok (.iload_n 3, 1) := by decide +kernel
theorem d_RM_tryLines_46 : decode b_RM_tryLines 46 = .ok (.iconst 1, 1) := by decide +kernel
theorem d_RM_tryLines_47 : decode b_RM_tryLines 47 = .ok (.iadd, 1) := by decide +kernel
theorem d_RM_tryLines_48 : decode b_RM_tryLines 48 = .ok (.istore_n 1, 1) := by decide +kernel
theorem d_RM_tryLines_49 : decode b_RM_tryLines 49 = .ok (.iinc 2 1, 3) := by decide +kernel
theorem d_RM_tryLines_52 : decode b_RM_tryLines 52 = .ok (.iinc 3 1, 3) := by decide +kernel
theorem d_RM_tryLines_55 : decode b_RM_tryLines 55 = .ok (.goto (-44), 3) := by decide +kernel
theorem d_RM_tryLines_58 : decode b_RM_tryLines 58 = .ok (.aload_n 0, 1) := by decide +kernel
theorem d_RM_tryLines_59 : decode b_RM_tryLines 59 = .ok (.getfield 109, 3) := by decide +kernel
theorem d_RM_tryLines_62 : decode b_RM_tryLines 62 = .ok (.ireturn, 1) := by decide +kernel
abbrev w_RM_tryLines : List Cond := Cond.code y_RM_tryLines b_RM_tryLines 4 (some .int) :: ig_T
theorem g_RM_tryLines : GoodIn ig_T w_RM_tryLines := ig_T_good (ig_T_mem (List.mem_append_right _ (List.mem_append_right _ (List.mem_of_getElem? (i := 8) rfl))) rfl)
set_option maxHeartbeats 4000000 in
set_option maxRecDepth 100000 in
theorem c_RM_tryLines (l : Launch) (dC : Nat → ClassId) (dI : Nat → Nat → Nat) (cC cI cZ cL : ClassId) (o0 ra rx rf rt rb rl rp ru_ rv rr rs rg rh rz ry : Nat) (th : Int32) (na : Int32) (bz : Int32) (de : Int32) (dp : Int32) (io : Int32) (si : Nat) (ru : Nat) (nx : Nat) (so : Nat) (pa : Nat) (tX : Nat → Int32) (xF : Nat → Nat) (xT : Nat → Nat) (xB : Nat → Nat) (xL : Nat → Nat) (wF : Nat → Nat) (wT : Nat → Nat) (sz : Nat) (hr : r_RM_tryLines si ru nx so pa tX xF xT xB xL wF wT) : Met l y_RM_tryLines w_RM_tryLines ({ frames := 6, cells := 0, slots := 0, locals := 147 }) (ig_Pc (dC, dI) ig_cl0 [(cC, .char), (cI, .int), (cZ, .boolean), (cL, .long)] [.ref o0] [(o0, .inr (ciRM, [.int th, .ref ra, .int (nI si), .ref rx, .ref rf, .ref rt, .ref rb, .ref rl, .int (nI ru), .ref rp, .ref ru_, .ref rv, .int na, .int (nI nx), .int (nI so), .ref rr, .ref rs, .ref rg, .ref rh, .int (nI pa), .ref rz, .ref ry, .int bz, .int de, .int dp, .int io])), (rx, .inl (cI, 1000, .inl tX)), (rf, .inl (cI, 60, .inl (fun zj => nI (xF zj)))), (rt, .inl (cI, 60, .inl (fun zj => nI (xT zj)))), (rb, .inl (cI, 60, .inl (fun zj => nI (xB zj)))), (rl, .inl (cI, 60, .inl (fun zj => nI (xL zj)))), (rg, .inl (cI, 1001, .inl (fun zj => nI (wF zj)))), (rh, .inl (cI, 1001, .inl (fun zj => nI (wT zj))))] sz) (va_Qi (fun (r : Int32) (u : Nat × (Nat → Nat) × (Nat → Nat) × (Nat → Nat) × (Nat → Nat) × Nat × Nat × Nat × (Nat → Nat) × (Nat → Nat)) => ∃ zr : Nat, r = nI zr ∧ p_RM_tryLines si ru nx so pa tX xF xT xB xL wF wT zr u.1 u.2.1 u.2.2.1 u.2.2.2.1 u.2.2.2.2.1 u.2.2.2.2.2.1 u.2.2.2.2.2.2.1 u.2.2.2.2.2.2.2.1 u.2.2.2.2.2.2.2.2.1 u.2.2.2.2.2.2.2.2.2) (fun u t => va_P (dC, dI) ig_cl0 ((fun (u : Nat × (Nat → Nat) × (Nat → Nat) × (Nat → Nat) × (Nat → Nat) × Nat × Nat × Nat × (Nat → Nat) × (Nat → Nat)) => [(o0, .inr (ciRM, [.int th, .ref ra, .int (nI si), .ref rx, .ref rf, .ref rt, .ref rb, .ref rl, .int (nI u.1), .ref rp, .ref ru_, .ref rv, .int na, .int (nI u.2.2.2.2.2.1), .int (nI u.2.2.2.2.2.2.1), .ref rr, .ref rs, .ref rg, .ref rh, .int (nI u.2.2.2.2.2.2.2.1), .ref rz, .ref ry, .int bz, .int de, .int dp, .int io])), (rx, .inl (cI, 1000, .inl tX)), (rf, .inl (cI, 60, .inl (fun zj => nI (u.2.1 zj)))), (rt, .inl (cI, 60, .inl (fun zj => nI (u.2.2.1 zj)))), (rb, .inl (cI, 60, .inl (fun zj => nI (u.2.2.2.1 zj)))), (rl, .inl (cI, 60, .inl (fun zj => nI (u.2.2.2.2.1 zj)))), (rg, .inl (cI, 1001, .inl (fun zj => nI (u.2.2.2.2.2.2.2.2.1 zj)))), (rh, .inl (cI, 1001, .inl (fun zj => nI (u.2.2.2.2.2.2.2.2.2 zj))))]) u) t.heap ∧ va_D (va_A [(o0, .inr (ciRM, [.int th, .ref ra, .int (nI si), .ref rx, .ref rf, .ref rt, .ref rb, .ref rl, .int (nI ru), .ref rp, .ref ru_, .ref rv, .int na, .int (nI nx), .int (nI so), .ref rr, .ref rs, .ref rg, .ref rh, .int (nI pa), .ref rz, .ref ry, .int bz, .int de, .int dp, .int io])), (rx, .inl (cI, 1000, .inl tX)), (rf, .inl (cI, 60, .inl (fun zj => nI (xF zj)))), (rt, .inl (cI, 60, .inl (fun zj => nI (xT zj)))), (rb, .inl (cI, 60, .inl (fun zj => nI (xB zj)))), (rl, .inl (cI, 60, .inl (fun zj => nI (xL zj)))), (rg, .inl (cI, 1001, .inl (fun zj => nI (wF zj)))), (rh, .inl (cI, 1001, .inl (fun zj => nI (wT zj))))] sz) ((fun (u : Nat × (Nat → Nat) × (Nat → Nat) × (Nat → Nat) × (Nat → Nat) × Nat × Nat × Nat × (Nat → Nat) × (Nat → Nat)) => [(o0, .inr (ciRM, [.int th, .ref ra, .int (nI si), .ref rx, .ref rf, .ref rt, .ref rb, .ref rl, .int (nI u.1), .ref rp, .ref ru_, .ref rv, .int na, .int (nI u.2.2.2.2.2.1), .int (nI u.2.2.2.2.2.2.1), .ref rr, .ref rs, .ref rg, .ref rh, .int (nI u.2.2.2.2.2.2.2.1), .ref rz, .ref ry, .int bz, .int de, .int dp, .int io])), (rx, .inl (cI, 1000, .inl tX)), (rf, .inl (cI, 60, .inl (fun zj => nI (u.2.1 zj)))), (rt, .inl (cI, 60, .inl (fun zj => nI (u.2.2.1 zj)))), (rb, .inl (cI, 60, .inl (fun zj => nI (u.2.2.2.1 zj)))), (rl, .inl (cI, 60, .inl (fun zj => nI (u.2.2.2.2.1 zj)))), (rg, .inl (cI, 1001, .inl (fun zj => nI (u.2.2.2.2.2.2.2.2.1 zj)))), (rh, .inl (cI, 1001, .inl (fun zj => nI (u.2.2.2.2.2.2.2.2.2 zj))))]) u)) (va_A [(o0, .inr (ciRM, [.int th, .ref ra, .int (nI si), .ref rx, .ref rf, .ref rt, .ref rb, .ref rl, .int (nI ru), .ref rp, .ref ru_, .ref rv, .int na, .int (nI nx), .int (nI so), .ref rr, .ref rs, .ref rg, .ref rh, .int (nI pa), .ref rz, .ref ry, .int bz, .int de, .int dp, .int io])), (rx, .inl (cI, 1000, .inl tX)), (rf, .inl (cI, 60, .inl (fun zj => nI (xF zj)))), (rt, .inl (cI, 60, .inl (fun zj => nI (xT zj)))), (rb, .inl (cI, 60, .inl (fun zj => nI (xB zj)))), (rl, .inl (cI, 60, .inl (fun zj => nI (xL zj)))), (rg, .inl (cI, 1001, .inl (fun zj => nI (wF zj)))), (rh, .inl (cI, 1001, .inl (fun zj => nI (wT zj))))] sz)) 0 0 (va_A [(o0, .inr (ciRM, [.int th, .ref ra, .int (nI si), .ref rx, .ref rf, .ref rt, .ref rb, .ref rl, .int (nI ru), .ref rp, .ref ru_, .ref rv, .int na, .int (nI nx), .int (nI so), .ref rr, .ref rs, .ref rg, .ref rh, .int (nI pa), .ref rz, .ref ry, .int bz, .int de, .int dp, .int io])), (rx, .inl (cI, 1000, .inl tX)), (rf, .inl (cI, 60, .inl (fun zj => nI (xF zj)))), (rt, .inl (cI, 60, .inl (fun zj => nI (xT zj)))), (rb, .inl (cI, 60, .inl (fun zj => nI (xB zj)))), (rl, .inl (cI, 60, .inl (fun zj => nI (xL zj)))), (rg, .inl (cI, 1001, .inl (fun zj => nI (wF zj)))), (rh, .inl (cI, 1001, .inl (fun zj => nI (wT zj))))] sz) := by
  refine ig_metI (fun (r : Int32) (u : Nat × (Nat → Nat) × (Nat → Nat) × (Nat → Nat) × (Nat → Nat) × Nat × Nat × Nat × (Nat → Nat) × (Nat → Nat)) => ∃ zr : Nat, r = nI zr ∧ p_RM_tryLines si ru nx so pa tX xF xT xB xL wF wT zr u.1 u.2.1 u.2.2.1 u.2.2.2.1 u.2.2.2.2.1 u.2.2.2.2.2.1 u.2.2.2.2.2.2.1 u.2.2.2.2.2.2.2.1 u.2.2.2.2.2.2.2.2.1 u.2.2.2.2.2.2.2.2.2) (fun (u : Nat × (Nat → Nat) × (Nat → Nat) × (Nat → Nat) × (Nat → Nat) × Nat × Nat × Nat × (Nat → Nat) × (Nat → Nat)) => [(o0, .inr (ciRM, [.int th, .ref ra, .int (nI si), .ref rx, .ref rf, .ref rt, .ref rb, .ref rl, .int (nI u.1), .ref rp, .ref ru_, .ref rv, .int na, .int (nI u.2.2.2.2.2.1), .int (nI u.2.2.2.2.2.2.1), .ref rr, .ref rs, .ref rg, .ref rh, .int (nI u.2.2.2.2.2.2.2.1), .ref rz, .ref ry, .int bz, .int de, .int dp, .int io])), (rx, .inl (cI, 1000, .inl tX)), (rf, .inl (cI, 60, .inl (fun zj => nI (u.2.1 zj)))), (rt, .inl (cI, 60, .inl (fun zj => nI (u.2.2.1 zj)))), (rb, .inl (cI, 60, .inl (fun zj => nI (u.2.2.2.1 zj)))), (rl, .inl (cI, 60, .inl (fun zj => nI (u.2.2.2.2.1 zj)))), (rg, .inl (cI, 1001, .inl (fun zj => nI (u.2.2.2.2.2.2.2.2.1 zj)))), (rh, .inl (cI, 1001, .inl (fun zj => nI (u.2.2.2.2.2.2.2.2.2 zj))))]) (by decide) rfl (Nat.le_of_ble_eq_true rfl) rfl (fun _ _ _ => rfl) ?_
  intro zp ze zs zm zargs zbelow zmeth zc zA zQ hx hb hml hown hts hK hN hA hret
  obtain ⟨K11, hK11⟩ : ∃ K : Nat → Nat → Nat → Nat → Nat → Nat → Nat → (Nat → Nat) → (Nat → Nat) → (Nat → Nat) → (Nat → Nat) → (Nat → Nat) → (Nat → Nat) → Prop, K = fun (g : Nat) (x : Nat) (b : Nat) (ruc : Nat) (nxc : Nat) (soc : Nat) (pac : Nat) (xFc : Nat → Nat) (xTc : Nat → Nat) (xBc : Nat → Nat) (xLc : Nat → Nat) (wFc : Nat → Nat) (wTc : Nat → Nat) => ig_W zp l ze ({ frames := 6, cells := 0, slots := 0, locals := 147 }) zs zm zargs zbelow zmeth zc (dC, dI) ig_cl0 zA zs.heap 4 0 0 zQ 11 [(0, .ref o0), (1, .int (nI g)), (2, .int (nI x)), (3, .int (nI b))] [] [(o0, .inr (ciRM, [.int th, .ref ra, .int (nI si), .ref rx, .ref rf, .ref rt, .ref rb, .ref rl, .int (nI ruc), .ref rp, .ref ru_, .ref rv, .int na, .int (nI nxc), .int (nI soc), .ref rr, .ref rs, .ref rg, .ref rh, .int (nI pac), .ref rz, .ref ry, .int bz, .int de, .int dp, .int io])), (rx, .inl (cI, 1000, .inl tX)), (rf, .inl (cI, 60, .inl (fun zj => nI (xFc zj)))), (rt, .inl (cI, 60, .inl (fun zj => nI (xTc zj)))), (rb, .inl (cI, 60, .inl (fun zj => nI (xBc zj)))), (rl, .inl (cI, 60, .inl (fun zj => nI (xLc zj)))), (rg, .inl (cI, 1001, .inl (fun zj => nI (wFc zj)))), (rh, .inl (cI, 1001, .inl (fun zj => nI (wTc zj))))] := ⟨_, rfl⟩
  have j38 : ∀ (g : Nat) (x : Nat) (b : Nat) (ruc : Nat) (nxc : Nat) (soc : Nat) (pac : Nat) (xFc : Nat → Nat) (xTc : Nat → Nat) (xBc : Nat → Nat) (xLc : Nat → Nat) (wFc : Nat → Nat) (wTc : Nat → Nat), v_RM_tryLines_38 si ru nx so pa tX xF xT xB xL wF wT K11 (p_RM_tryLines si ru nx so pa tX xF xT xB xL wF wT) g x b ruc nxc soc pac xFc xTc xBc xLc wFc wTc → ig_W zp l ze ({ frames := 6, cells := 0, slots := 0, locals := 147 }) zs zm zargs zbelow zmeth zc (dC, dI) ig_cl0 zA zs.heap 4 0 0 zQ 38 [(0, .ref o0), (1, .int (nI g)), (2, .int (nI x)), (3, .int (nI b))] [] [(o0, .inr (ciRM, [.int th, .ref ra, .int (nI si), .ref rx, .ref rf, .ref rt, .ref rb, .ref rl, .int (nI ruc), .ref rp, .ref ru_, .ref rv, .int na, .int (nI nxc), .int (nI soc), .ref rr, .ref rs, .ref rg, .ref rh, .int (nI pac), .ref rz, .ref ry, .int bz, .int de, .int dp, .int io])), (rx, .inl (cI, 1000, .inl tX)), (rf, .inl (cI, 60, .inl (fun zj => nI (xFc zj)))), (rt, .inl (cI, 60, .inl (fun zj => nI (xTc zj)))), (rb, .inl (cI, 60, .inl (fun zj => nI (xBc zj)))), (rl, .inl (cI, 60, .inl (fun zj => nI (xLc zj)))), (rg, .inl (cI, 1001, .inl (fun zj => nI (wFc zj)))), (rh, .inl (cI, 1001, .inl (fun zj => nI (wTc zj))))] := by
    intro g x b ruc nxc soc pac xFc xTc xBc xLc wFc wTc hv
    unfold v_RM_tryLines_38 at hv
    refine ig_aload_n hx hb 0 d_RM_tryLines_38 rfl rfl ?_
    refine ig_iload_n hx hb 1 d_RM_tryLines_39 rfl rfl ?_
    refine ig_iload_n hx hb 3 d_RM_tryLines_40 rfl rfl ?_
    refine ig_iload_n hx hb 2 d_RM_tryLines_41 rfl rfl ?_
    obtain ⟨hc, hv⟩ := hv
    refine ig_cVv (As := [.int (nI g), .int (nI b), .int (nI x)]) (rest := []) (wr := []) (ws' := fun u => [(o0, .inr (ciRM, [.int th, .ref ra, .int (nI si), .ref rx, .ref rf, .ref rt, .ref rb, .ref rl, .int (nI u.1), .ref rp, .ref ru_, .ref rv, .int na, .int (nI u.2.2.2.2.2.1), .int (nI u.2.2.2.2.2.2.1), .ref rr, .ref rs, .ref rg, .ref rh, .int (nI u.2.2.2.2.2.2.2.1), .ref rz, .ref ry, .int bz, .int de, .int dp, .int io])), (rx, .inl (cI, 1000, .inl tX)), (rf, .inl (cI, 60, .inl (fun zj => nI (u.2.1 zj)))), (rt, .inl (cI, 60, .inl (fun zj => nI (u.2.2.1 zj)))), (rb, .inl (cI, 60, .inl (fun zj => nI (u.2.2.2.1 zj)))), (rl, .inl (cI, 60, .inl (fun zj => nI (u.2.2.2.2.1 zj)))), (rg, .inl (cI, 1001, .inl (fun zj => nI (u.2.2.2.2.2.2.2.2.1 zj)))), (rh, .inl (cI, 1001, .inl (fun zj => nI (u.2.2.2.2.2.2.2.2.2 zj))))]) hx hb hml hown hts hK hN hA (fun sz => c_RM_line l dC dI cC cI cZ cL o0 ra rx rf rt rb rl rp ru_ rv rr rs rg rh rz ry th (nI si) na bz de dp io ruc nxc soc pac tX xFc xTc xBc xLc wFc wTc g b x sz hc) ⟨callB_of 3 hts g_RM_line rfl rfl rfl (hts _ kw_0_5) (hts _ kw_2_9) (by decide +kernel) (by decide), (hts _ kw_2_11), (hts _ ks_RM_line)⟩ rfl rfl (Nat.le_of_ble_eq_true rfl) d_RM_tryLines_42 (by decide) 0 rfl rfl [0, 1, 2, 3, 4, 5, 6, 7] [] [0, 1, 2, 3, 4, 5, 6, 7] rfl rfl (by decide) (by decide) (by decide) (fun _ => rfl) (fun _ => rfl) (fun u hr => ?_)
    obtain ⟨ru1, xF2, xT3, xB4, xL5, nx6, so7, pa8, wF9, wT10⟩ := u
    unfold p_RM_line at hr
    have hv := hv ru1 xF2 xT3 xB4 xL5 nx6 so7 pa8 wF9 wT10 hr
    refine ig_iload_n hx hb 3 d_RM_tryLines_45 rfl rfl ?_
    refine ig_iconst (v := 1) hx hb d_RM_tryLines_46 (by decide) ?_
    refine ig_iaddN hx hb b 1 rfl rfl d_RM_tryLines_47 ?_
    refine ig_istore_n (lv' := [(1, .int (nI (b + 1))), (0, .ref o0), (2, .int (nI x)), (3, .int (nI b))]) hx hb d_RM_tryLines_48 rfl (by decide) rfl ?_
    refine ig_iinc (v := (nI (x + 1))) (lv' := [(2, .int (nI (x + 1))), (1, .int (nI (b + 1))), (0, .ref o0), (3, .int (nI b))]) hx hb 2 d_RM_tryLines_49 rfl (ig_inc x 1 (by decide)) (by decide) rfl ?_
    refine ig_iinc (v := (nI (b + 1))) (lv' := [(3, .int (nI (b + 1))), (2, .int (nI (x + 1))), (1, .int (nI (b + 1))), (0, .ref o0)]) hx hb 3 d_RM_tryLines_52 rfl (ig_inc b 1 (by decide)) (by decide) rfl ?_
    refine ig_goto (tgt := 11) hx hb d_RM_tryLines_55 (by decide) ?_
    refine ig_lv (lv' := [(0, .ref o0), (1, .int (nI (b + 1))), (2, .int (nI (x + 1))), (3, .int (nI (b + 1)))]) [3, 2, 1, 0] rfl ?_
    rw [hK11] at hv
    exact hv
  have k11 : ∀ (g : Nat) (x : Nat) (b : Nat) (ruc : Nat) (nxc : Nat) (soc : Nat) (pac : Nat) (xFc : Nat → Nat) (xTc : Nat → Nat) (xBc : Nat → Nat) (xLc : Nat → Nat) (wFc : Nat → Nat) (wTc : Nat → Nat), v_RM_tryLines_11 si ru nx so pa tX xF xT xB xL wF wT K11 (p_RM_tryLines si ru nx so pa tX xF xT xB xL wF wT) g x b ruc nxc soc pac xFc xTc xBc xLc wFc wTc → K11 g x b ruc nxc soc pac xFc xTc xBc xLc wFc wTc := by
    intro g x b ruc nxc soc pac xFc xTc xBc xLc wFc wTc hv
    unfold v_RM_tryLines_11 at hv
    rw [hK11]
    show ig_W zp l ze ({ frames := 6, cells := 0, slots := 0, locals := 147 }) zs zm zargs zbelow zmeth zc (dC, dI) ig_cl0 zA zs.heap 4 0 0 zQ 11 [(0, .ref o0), (1, .int (nI g)), (2, .int (nI x)), (3, .int (nI b))] [] [(o0, .inr (ciRM, [.int th, .ref ra, .int (nI si), .ref rx, .ref rf, .ref rt, .ref rb, .ref rl, .int (nI ruc), .ref rp, .ref ru_, .ref rv, .int na, .int (nI nxc), .int (nI soc), .ref rr, .ref rs, .ref rg, .ref rh, .int (nI pac), .ref rz, .ref ry, .int bz, .int de, .int dp, .int io])), (rx, .inl (cI, 1000, .inl tX)), (rf, .inl (cI, 60, .inl (fun zj => nI (xFc zj)))), (rt, .inl (cI, 60, .inl (fun zj => nI (xTc zj)))), (rb, .inl (cI, 60, .inl (fun zj => nI (xBc zj)))), (rl, .inl (cI, 60, .inl (fun zj => nI (xLc zj)))), (rg, .inl (cI, 1001, .inl (fun zj => nI (wFc zj)))), (rh, .inl (cI, 1001, .inl (fun zj => nI (wTc zj))))]
    refine ig_iload_n hx hb 3 d_RM_tryLines_11 rfl rfl ?_
    refine ig_aload_n hx hb 0 d_RM_tryLines_12 rfl rfl ?_
    refine ig_get hx hb hts in_RM hown hK 0 rfl rfl 2 (by decide) (hts _ kw_1_147) (fun _ h => h) rfl d_RM_tryLines_13 ?_
    obtain ⟨h1, hv⟩ := hv
    obtain ⟨h2, hv⟩ := hv
    refine ig_icmp_gtN (tgt := 58) hx hb b si rfl rfl d_RM_tryLines_16 (by decide) h1 h2 (fun h => ?_) (fun h => ?_)
    · have hv := hv.1 h
      refine ig_aload_n hx hb 0 d_RM_tryLines_58 rfl rfl ?_
      refine ig_get hx hb hts in_RM hown hK 0 rfl rfl 8 (by decide) (hts _ kw_1_153) (fun _ h => h) rfl d_RM_tryLines_59 ?_
      exact hret 62 _ (nI ruc) (ruc, xFc, xTc, xBc, xLc, nxc, soc, pac, wFc, wTc) d_RM_tryLines_62 ⟨ruc, rfl, hv⟩
    · have hv := hv.2 h
      refine ig_iload_n hx hb 3 d_RM_tryLines_19 rfl rfl ?_
      refine ig_aload_n hx hb 0 d_RM_tryLines_20 rfl rfl ?_
      refine ig_get hx hb hts in_RM hown hK 0 rfl rfl 2 (by decide) (hts _ kw_1_147) (fun _ h => h) rfl d_RM_tryLines_21 ?_
      obtain ⟨h1, hv⟩ := hv
      obtain ⟨h2, hv⟩ := hv
      refine ig_icmp_eqN (tgt := 38) hx hb b si rfl rfl d_RM_tryLines_24 (by decide) h1 h2 (fun h => ?_) (fun h => ?_)
      · have hv := hv.1 h
        refine ig_lv (lv' := [(0, .ref o0), (1, .int (nI g)), (2, .int (nI x)), (3, .int (nI b))]) [0, 1, 2, 3] rfl ?_
        exact j38 _ _ _ _ _ _ _ _ _ _ _ _ _ hv
      · have hv := hv.2 h
        refine ig_aload_n hx hb 0 d_RM_tryLines_27 rfl rfl ?_
        refine ig_get hx hb hts in_RM hown hK 0 rfl rfl 3 (by decide) (hts _ kw_1_148) (fun _ h => h) rfl d_RM_tryLines_28 ?_
        refine ig_iload_n hx hb 3 d_RM_tryLines_31 rfl rfl ?_
        obtain ⟨hc, hv⟩ := hv
        refine ig_iald (x := (tX b)) hx hb hK 1 1 rfl rfl b rfl hc (by decide) rfl d_RM_tryLines_32 ?_
        refine ig_bipush (v := 10) hx hb d_RM_tryLines_33 (by decide) ?_
        refine ig_icmp_ne (tgt := 52) hx hb d_RM_tryLines_35 (by decide) (fun h => ?_) (fun h => ?_)
        · have hv := hv.1 h
          refine ig_iinc (v := (nI (b + 1))) (lv' := [(3, .int (nI (b + 1))), (0, .ref o0), (1, .int (nI g)), (2, .int (nI x))]) hx hb 3 d_RM_tryLines_52 rfl (ig_inc b 1 (by decide)) (by decide) rfl ?_
          refine ig_goto (tgt := 11) hx hb d_RM_tryLines_55 (by decide) ?_
          refine ig_lv (lv' := [(0, .ref o0), (1, .int (nI g)), (2, .int (nI x)), (3, .int (nI (b + 1)))]) [1, 2, 3, 0] rfl ?_
          rw [hK11] at hv
          exact hv
        · have hv := hv.2 h
          refine ig_lv (lv' := [(0, .ref o0), (1, .int (nI g)), (2, .int (nI x)), (3, .int (nI b))]) [0, 1, 2, 3] rfl ?_
          exact j38 _ _ _ _ _ _ _ _ _ _ _ _ _ hv
  have hv := t_RM_tryLines si ru nx so pa tX xF xT xB xL wF wT hr K11 k11
  unfold v_RM_tryLines at hv
  refine ig_iconst (v := 0) hx hb d_RM_tryLines_0 (by decide) ?_
  refine ig_istore_n (lv' := [(1, .int 0), (0, .ref o0)]) hx hb d_RM_tryLines_1 rfl (by decide) rfl ?_
  refine ig_iconst (v := 0) hx hb d_RM_tryLines_2 (by decide) ?_
  refine ig_istore_n (lv' := [(2, .int 0), (1, .int 0), (0, .ref o0)]) hx hb d_RM_tryLines_3 rfl (by decide) rfl ?_
  refine ig_aload_n hx hb 2 d_RM_tryLines_4 rfl rfl ?_
  refine ig_iconst (v := 0) hx hb d_RM_tryLines_5 (by decide) ?_
  refine ig_put (ty := .int) (v := .int 0) (ws' := [(o0, .inr (ciRM, [.int th, .ref ra, .int (nI si), .ref rx, .ref rf, .ref rt, .ref rb, .ref rl, .int (nI 0), .ref rp, .ref ru_, .ref rv, .int na, .int (nI nx), .int (nI so), .ref rr, .ref rs, .ref rg, .ref rh, .int (nI pa), .ref rz, .ref ry, .int bz, .int de, .int dp, .int io])), (rx, .inl (cI, 1000, .inl tX)), (rf, .inl (cI, 60, .inl (fun zj => nI (xF zj)))), (rt, .inl (cI, 60, .inl (fun zj => nI (xT zj)))), (rb, .inl (cI, 60, .inl (fun zj => nI (xB zj)))), (rl, .inl (cI, 60, .inl (fun zj => nI (xL zj)))), (rg, .inl (cI, 1001, .inl (fun zj => nI (wF zj)))), (rh, .inl (cI, 1001, .inl (fun zj => nI (wT zj))))]) hx hb hts in_RM t_RM t_RM_ok n_RM hown hK 0 rfl rfl 8 (by decide) (hts _ kw_1_153) (fun _ h => h) rfl (by decide +kernel) rfl rfl (Nat.le_of_ble_eq_true rfl) d_RM_tryLines_6 rfl ?_
  refine ig_iconst (v := 0) hx hb d_RM_tryLines_9 (by decide) ?_
  refine ig_istore_n (lv' := [(3, .int 0), (2, .int 0), (1, .int 0), (0, .ref o0)]) hx hb d_RM_tryLines_10 rfl (by decide) rfl ?_
  refine ig_lv (lv' := [(0, .ref o0), (1, .int 0), (2, .int 0), (3, .int 0)]) [3, 2, 1, 0] rfl ?_
  rw [hK11] at hv
  exact hv
