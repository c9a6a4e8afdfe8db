theorem kw_1_145 : Cond.fieldLink "IgnoreRulesModel" 56 "IgnoreRulesModel" "thrown" "I" ∈ ig_T := ig_T_mem (List.mem_append_right _ (List.mem_append_left _ (List.mem_of_getElem? (i := 145) rfl))) rfl
theorem kw_1_146 : Cond.fieldLink "IgnoreRulesModel" 7 "IgnoreRulesModel" "tape" "[I" ∈ ig_T := ig_T_mem (List.mem_append_right _ (List.mem_append_left _ (List.mem_of_getElem? (i := 146) rfl))) rfl
theorem kw_1_166 : Cond.fieldLink "IgnoreRulesModel" 53 "IgnoreRulesModel" "before" "[I" ∈ ig_T := ig_T_mem (List.mem_append_right _ (List.mem_append_left _ (List.mem_of_getElem? (i := 166) rfl))) rfl
theorem kw_2_73 : Cond.methodLink "IgnoreRulesModel" 160 y_RM_fitsFirst ∈ ig_T := ig_T_mem (List.mem_append_right _ (List.mem_append_right _ (List.mem_of_getElem? (i := 73) rfl))) rfl
theorem kw_2_75 : Cond.instanceMethod y_RM_fitsFirst ∈ ig_T := ig_T_mem (List.mem_append_right _ (List.mem_append_right _ (List.mem_of_getElem? (i := 75) rfl))) rfl
theorem d_RM_noRule_0 : decode b_RM_noRule 0 = .ok (.iload_n 1, 1) := by decide +kernel
theorem d_RM_noRule_1 : decode b_RM_noRule 1 = .ok (.ifCond .lt 11, 3) := by decide +kernel
theorem d_RM_noRule_4 : decode b_RM_noRule 4 = .ok (.iload_n 1, 1) := by decide +kernel
theorem d_RM_noRule_5 : decode b_RM_noRule 5 = .ok (.aload_n 0, 1) := by decide +kernel
theorem d_RM_noRule_6 : decode b_RM_noRule 6 = .ok (.getfield 109, 3) := by decide +kernel
theorem d_RM_noRule_9 : decode b_RM_noRule 9 = .ok (.if_icmp .lt 7, 3) := by decide +kernel
theorem d_RM_noRule_12 : decode b_RM_noRule 12 = .ok (.iconst 1, 1) := by decide +kernel
theorem d_RM_noRule_13 : decode b_RM_noRule 13 = .ok (.goto 4, 3) := by decide +kernel
theorem d_RM_noRule_16 : decode b_RM_noRule 16 = .ok (.iconst 0, 1) := by decide +kernel
theorem d_RM_noRule_17 : decode b_RM_noRule 17 = .ok (.ireturn, 1) := by decide +kernel
abbrev w_RM_noRule : List Cond := Cond.code y_RM_noRule b_RM_noRule 2 (some .boolean) :: ig_T
theorem g_RM_noRule : GoodIn ig_T w_RM_noRule := ig_T_good (ig_T_mem (List.mem_append_right _ (List.mem_append_right _ (List.mem_of_getElem? (i := 60) rfl))) rfl)
set_option maxHeartbeats 4000000 in
set_option maxRecDepth 100000 in
theorem c_RM_noRule (l : Launch) (dC : Nat → ClassId) (dI : Nat → Nat → Nat) (cC cI cZ cL : ClassId) (o0 ra rx rf rt rb rl rp ru_ rv rr rs rg rh rz ry : Nat) (th : Int32) (si : Int32) (na : Int32) (nx : Int32) (so : Int32) (pa : Int32) (bz : Int32) (de : Int32) (dp : Int32) (io : Int32) (ru : Nat) (x : Int32) (sz : Nat) (hr : r_RM_noRule ru x) : Met l y_RM_noRule w_RM_noRule ({ frames := 0, cells := 0, slots := 0, locals := 0 }) (ig_Pc (dC, dI) ig_cl0 [(cC, .char), (cI, .int), (cZ, .boolean), (cL, .long)] [.ref o0, .int x] [(o0, .inr (ciRM, [.int th, .ref ra, .int si, .ref rx, .ref rf, .ref rt, .ref rb, .ref rl, .int (nI ru), .ref rp, .ref ru_, .ref rv, .int na, .int nx, .int so, .ref rr, .ref rs, .ref rg, .ref rh, .int pa, .ref rz, .ref ry, .int bz, .int de, .int dp, .int io]))] sz) (va_Qi (fun (r : Int32) (u : Unit) => ∃ zr : Bool, r = bI zr ∧ p_RM_noRule ru x zr ) (fun u t => va_P (dC, dI) ig_cl0 ((fun (u : Unit) => [(o0, .inr (ciRM, [.int th, .ref ra, .int si, .ref rx, .ref rf, .ref rt, .ref rb, .ref rl, .int (nI ru), .ref rp, .ref ru_, .ref rv, .int na, .int nx, .int so, .ref rr, .ref rs, .ref rg, .ref rh, .int pa, .ref rz, .ref ry, .int bz, .int de, .int dp, .int io]))]) u) t.heap ∧ va_D (va_A [(o0, .inr (ciRM, [.int th, .ref ra, .int si, .ref rx, .ref rf, .ref rt, .ref rb, .ref rl, .int (nI ru), .ref rp, .ref ru_, .ref rv, .int na, .int nx, .int so, .ref rr, .ref rs, .ref rg, .ref rh, .int pa, .ref rz, .ref ry, .int bz, .int de, .int dp, .int io]))] sz) ((fun (u : Unit) => [(o0, .inr (ciRM, [.int th, .ref ra, .int si, .ref rx, .ref rf, .ref rt, .ref rb, .ref rl, .int (nI ru), .ref rp, .ref ru_, .ref rv, .int na, .int nx, .int so, .ref rr, .ref rs, .ref rg, .ref rh, .int pa, .ref rz, .ref ry, .int bz, .int de, .int dp, .int io]))]) u)) (va_A [(o0, .inr (ciRM, [.int th, .ref ra, .int si, .ref rx, .ref rf, .ref rt, .ref rb, .ref rl, .int (nI ru), .ref rp, .ref ru_, .ref rv, .int na, .int nx, .int so, .ref rr, .ref rs, .ref rg, .ref rh, .int pa, .ref rz, .ref ry, .int bz, .int de, .int dp, .int io]))] sz)) 0 0 (va_A [(o0, .inr (ciRM, [.int th, .ref ra, .int si, .ref rx, .ref rf, .ref rt, .ref rb, .ref rl, .int (nI ru), .ref rp, .ref ru_, .ref rv, .int na, .int nx, .int so, .ref rr, .ref rs, .ref rg, .ref rh, .int pa, .ref rz, .ref ry, .int bz, .int de, .int dp, .int io]))] sz) := by
  refine ig_metI (fun (r : Int32) (u : Unit) => ∃ zr : Bool, r = bI zr ∧ p_RM_noRule ru x zr ) (fun (u : Unit) => [(o0, .inr (ciRM, [.int th, .ref ra, .int si, .ref rx, .ref rf, .ref rt, .ref rb, .ref rl, .int (nI ru), .ref rp, .ref ru_, .ref rv, .int na, .int nx, .int so, .ref rr, .ref rs, .ref rg, .ref rh, .int pa, .ref rz, .ref ry, .int bz, .int de, .int dp, .int io]))]) (by decide) rfl (Nat.le_of_ble_eq_true rfl) rfl (by rintro r u ⟨b, rfl, -⟩; exact bI_ret b) ?_
  intro zp ze zs zm zargs zbelow zmeth zc zA zQ hx hb hml hown hts hK hN hA hret
  have hv := t_RM_noRule ru x hr 
  unfold v_RM_noRule at hv
  refine ig_iload_n hx hb 1 d_RM_noRule_0 rfl rfl ?_
  refine ig_if_lt (tgt := 12) hx hb d_RM_noRule_1 (by decide) (fun h => ?_) (fun h => ?_)
  · have hv := hv.1 h
    refine ig_iconst (v := 1) hx hb d_RM_noRule_12 (by decide) ?_
    refine ig_goto (tgt := 17) hx hb d_RM_noRule_13 (by decide) ?_
    exact hret 17 _ 1 () d_RM_noRule_17 ⟨true, rfl, hv⟩
  · have hv := hv.2 h
    refine ig_iload_n hx hb 1 d_RM_noRule_4 rfl rfl ?_
    refine ig_aload_n hx hb 0 d_RM_noRule_5 rfl rfl ?_
    refine ig_get hx hb hts in_RM hown hK 0 rfl rfl 8 (by decide) (hts _ kw_1_153) (fun _ h => h) rfl d_RM_noRule_6 ?_
    refine ig_icmp_lt (tgt := 16) hx hb d_RM_noRule_9 (by decide) (fun h => ?_) (fun h => ?_)
    · have hv := hv.1 h
      refine ig_iconst (v := 0) hx hb d_RM_noRule_16 (by decide) ?_
      exact hret 17 _ 0 () d_RM_noRule_17 ⟨false, rfl, hv⟩
    · have hv := hv.2 h
      refine ig_iconst (v := 1) hx hb d_RM_noRule_12 (by decide) ?_
      refine ig_goto (tgt := 17) hx hb d_RM_noRule_13 (by decide) ?_
      exact hret 17 _ 1 () d_RM_noRule_17 ⟨true, rfl, hv⟩
theorem d_RM_last_0 : decode b_RM_last 0 = .ok (.aload_n 0, 1) := by decide +kernel
theorem d_RM_last_1 : decode b_RM_last 1 = .ok (.getfield 109, 3) := by decide +kernel
theorem d_RM_last_4 : decode b_RM_last 4 = .ok (.iconst 1, 1) := by decide +kernel
theorem d_RM_last_5 : decode b_RM_last 5 = .ok (.isub, 1) := by decide +kernel
theorem d_RM_last_6 : decode b_RM_last 6 = .ok (.istore_n 3, 1) := by decide +kernel
theorem d_RM_last_7 : decode b_RM_last 7 = .ok (.iload_n 3, 1) := by decide +kernel
theorem d_RM_last_8 : decode b_RM_last 8 = .ok (.ifCond .lt 21, 3) := by decide +kernel
theorem d_RM_last_11 : decode b_RM_last 11 = .ok (.aload_n 0, 1) := by decide +kernel
theorem d_RM_last_12 : decode b_RM_last 12 = .ok (.iload_n 3, 1) := by decide +kernel
theorem d_RM_last_13 : decode b_RM_last 13 = .ok (.iload_n 1, 1) := by decide +kernel
theorem d_RM_last_14 : decode b_RM_last 14 = .ok (.iload_n 2, 1) := by decide +kernel
theorem d_RM_last_15 : decode b_RM_last 15 = .ok (.invokevirtual 160, 3) := by decide +kernel
theorem d_RM_last_18 : decode b_RM_last 18 = .ok (.ifCond .eq 5, 3) := by decide +kernel
theorem d_RM_last_21 : decode b_RM_last 21 = .ok (.iload_n 3, 1) := by decide +kernel
theorem d_RM_last_22 : decode b_RM_last 22 = .ok (.ireturn, 1) := by decide +kernel
theorem d_RM_last_23 : decode b_RM_last 23 = .ok (.iinc 3 (-1), 3) := by decide +kernel
theorem d_RM_last_26 : decode b_RM_last 26 = .ok (.goto (-19), 3) := by decide +kernel
theorem d_RM_last_29 : decode b_RM_last 29 = .ok (.iconst (-1), 1) := by decide +kernel
theorem d_RM_last_30 : decode b_RM_last 30 = .ok (.ireturn, 1) := by decide +kernel
abbrev w_RM_last : List Cond := Cond.code y_RM_last b_RM_last 4 (some .int) :: ig_T
theorem g_RM_last : GoodIn ig_T w_RM_last := ig_T_good (ig_T_mem (List.mem_append_right _ (List.mem_append_right _ (List.mem_of_getElem? (i := 116) rfl))) rfl)
set_option maxHeartbeats 4000000 in
set_option maxRecDepth 100000 in
theorem c_RM_last (l : Launch) (dC : Nat → ClassId) (dI : Nat → Nat → Nat) (cC cI cZ cL : ClassId) (o0 ra rx rf rt rb rl rp ru_ rv rr rs rg rh rz ry : Nat) (th : Int32) (si : Int32) (na : Int32) (bz : Int32) (de : Int32) (dp : Int32) (io : Int32) (ru : Nat) (nx : Nat) (so : Nat) (pa : Nat) (tX : Nat → Int32) (xF : Nat → Nat) (xT : Nat → Nat) (xB : Nat → Nat) (tP : Nat → Int32) (yF : Nat → Nat) (yT : Nat → Nat) (zR : Nat → Bool) (zF : Nat → Bool) (wF : Nat → Nat) (wT : Nat → Nat) (zT : Nat → Bool) (n : Nat) (d : Bool) (sz : Nat) (hr : r_RM_last ru nx so pa tX xF xT xB tP yF yT zR zF wF wT zT n d) : Met l y_RM_last w_RM_last ({ frames := 7, cells := 0, slots := 0, locals := 165 }) (ig_Pc (dC, dI) ig_cl0 [(cC, .char), (cI, .int), (cZ, .boolean), (cL, .long)] [.ref o0, .int (nI n), .int (bI d)] [(o0, .inr (ciRM, [.int th, .ref ra, .int si, .ref rx, .ref rf, .ref rt, .ref rb, .ref rl, .int (nI ru), .ref rp, .ref ru_, .ref rv, .int na, .int (nI nx), .int (nI so), .ref rr, .ref rs, .ref rg, .ref rh, .int (nI pa), .ref rz, .ref ry, .int bz, .int de, .int dp, .int io])), (rx, .inl (cI, 1000, .inl tX)), (rf, .inl (cI, 60, .inl (fun zj => nI (xF zj)))), (rt, .inl (cI, 60, .inl (fun zj => nI (xT zj)))), (rb, .inl (cI, 60, .inl (fun zj => nI (xB zj)))), (rp, .inl (cI, 120, .inl tP)), (ru_, .inl (cI, 20, .inl (fun zj => nI (yF zj)))), (rv, .inl (cI, 20, .inl (fun zj => nI (yT zj)))), (rr, .inl (cZ, 1001, .inl (fun zj => bI (zR zj)))), (rs, .inl (cZ, 1001, .inl (fun zj => bI (zF zj)))), (rg, .inl (cI, 1001, .inl (fun zj => nI (wF zj)))), (rh, .inl (cI, 1001, .inl (fun zj => nI (wT zj)))), (rz, .inl (cZ, 21021, .inl (fun zj => bI (zT zj))))] sz) (va_Qi (fun (r : Int32) (u : Nat × Nat × (Nat → Bool) × (Nat → Bool) × (Nat → Bool) × Nat × (Nat → Nat) × (Nat → Nat)) => p_RM_last ru nx so pa tX xF xT xB tP yF yT zR zF wF wT zT n d r u.1 u.2.1 u.2.2.1 u.2.2.2.1 u.2.2.2.2.1 u.2.2.2.2.2.1 u.2.2.2.2.2.2.1 u.2.2.2.2.2.2.2) (fun u t => va_P (dC, dI) ig_cl0 ((fun (u : Nat × Nat × (Nat → Bool) × (Nat → Bool) × (Nat → Bool) × Nat × (Nat → Nat) × (Nat → Nat)) => [(o0, .inr (ciRM, [.int th, .ref ra, .int si, .ref rx, .ref rf, .ref rt, .ref rb, .ref rl, .int (nI ru), .ref rp, .ref ru_, .ref rv, .int na, .int (nI u.1), .int (nI u.2.1), .ref rr, .ref rs, .ref rg, .ref rh, .int (nI u.2.2.2.2.2.1), .ref rz, .ref ry, .int bz, .int de, .int dp, .int io])), (rx, .inl (cI, 1000, .inl tX)), (rf, .inl (cI, 60, .inl (fun zj => nI (xF zj)))), (rt, .inl (cI, 60, .inl (fun zj => nI (xT zj)))), (rb, .inl (cI, 60, .inl (fun zj => nI (xB zj)))), (rp, .inl (cI, 120, .inl tP)), (ru_, .inl (cI, 20, .inl (fun zj => nI (yF zj)))), (rv, .inl (cI, 20, .inl (fun zj => nI (yT zj)))), (rr, .inl (cZ, 1001, .inl (fun zj => bI (u.2.2.1 zj)))), (rs, .inl (cZ, 1001, .inl (fun zj => bI (u.2.2.2.1 zj)))), (rg, .inl (cI, 1001, .inl (fun zj => nI (u.2.2.2.2.2.2.1 zj)))), (rh, .inl (cI, 1001, .inl (fun zj => nI (u.2.2.2.2.2.2.2 zj)))), (rz, .inl (cZ, 21021, .inl (fun zj => bI (u.2.2.2.2.1 zj))))]) u) t.heap ∧ va_D (va_A [(o0, .inr (ciRM, [.int th, .ref ra, .int si, .ref rx, .ref rf, .ref rt, .ref rb, .ref rl, .int (nI ru), .ref rp, .ref ru_, .ref rv, .int na, .int (nI nx), .int (nI so), .ref rr, .ref rs, .ref rg, .ref rh, .int (nI pa), .ref rz, .ref ry, .int bz, .int de, .int dp, .int io])), (rx, .inl (cI, 1000, .inl tX)), (rf, .inl (cI, 60, .inl (fun zj => nI (xF zj)))), (rt, .inl (cI, 60, .inl (fun zj => nI (xT zj)))), (rb, .inl (cI, 60, .inl (fun zj => nI (xB zj)))), (rp, .inl (cI, 120, .inl tP)), (ru_, .inl (cI, 20, .inl (fun zj => nI (yF zj)))), (rv, .inl (cI, 20, .inl (fun zj => nI (yT zj)))), (rr, .inl (cZ, 1001, .inl (fun zj => bI (zR zj)))), (rs, .inl (cZ, 1001, .inl (fun zj => bI (zF zj)))), (rg, .inl (cI, 1001, .inl (fun zj => nI (wF zj)))), (rh, .inl (cI, 1001, .inl (fun zj => nI (wT zj)))), (rz, .inl (cZ, 21021, .inl (fun zj => bI (zT zj))))] sz) ((fun (u : Nat × Nat × (Nat → Bool) × (Nat → Bool) × (Nat → Bool) × Nat × (Nat → Nat) × (Nat → Nat)) => [(o0, .inr (ciRM, [.int th, .ref ra, .int si, .ref rx, .ref rf, .ref rt, .ref rb, .ref rl, .int (nI ru), .ref rp, .ref ru_, .ref rv, .int na, .int (nI u.1), .int (nI u.2.1), .ref rr, .ref rs, .ref rg, .ref rh, .int (nI u.2.2.2.2.2.1), .ref rz, .ref ry, .int bz, .int de, .int dp, .int io])), (rx, .inl (cI, 1000, .inl tX)), (rf, .inl (cI, 60, .inl (fun zj => nI (xF zj)))), (rt, .inl (cI, 60, .inl (fun zj => nI (xT zj)))), (rb, .inl (cI, 60, .inl (fun zj => nI (xB zj)))), (rp, .inl (cI, 120, .inl tP)), (ru_, .inl (cI, 20, .inl (fun zj => nI (yF zj)))), (rv, .inl (cI, 20, .inl (fun zj => nI (yT zj)))), (rr, .inl (cZ, 1001, .inl (fun zj => bI (u.2.2.1 zj)))), (rs, .inl (cZ, 1001, .inl (fun zj => bI (u.2.2.2.1 zj)))), (rg, .inl (cI, 1001, .inl (fun zj => nI (u.2.2.2.2.2.2.1 zj)))), (rh, .inl (cI, 1001, .inl (fun zj => nI (u.2.2.2.2.2.2.2 zj)))), (rz, .inl (cZ, 21021, .inl (fun zj => bI (u.2.2.2.2.1 zj))))]) u)) (va_A [(o0, .inr (ciRM, [.int th, .ref ra, .int si, .ref rx, .ref rf, .ref rt, .ref rb, .ref rl, .int (nI ru), .ref rp, .ref ru_, .ref rv, .int na, .int (nI nx), .int (nI so), .ref rr, .ref rs, .ref rg, .ref rh, .int (nI pa), .ref rz, .ref ry, .int bz, .int de, .int dp, .int io])), (rx, .inl (cI, 1000, .inl tX)), (rf, .inl (cI, 60, .inl (fun zj => nI (xF zj)))), (rt, .inl (cI, 60, .inl (fun zj => nI (xT zj)))), (rb, .inl (cI, 60, .inl (fun zj => nI (xB zj)))), (rp, .inl (cI, 120, .inl tP)), (ru_, .inl (cI, 20, .inl (fun zj => nI (yF zj)))), (rv, .inl (cI, 20, .inl (fun zj => nI (yT zj)))), (rr, .inl (cZ, 1001, .inl (fun zj => bI (zR zj)))), (rs, .inl (cZ, 1001, .inl (fun zj => bI (zF zj)))), (rg, .inl (cI, 1001, .inl (fun zj => nI (wF zj)))), (rh, .inl (cI, 1001, .inl (fun zj => nI (wT zj)))), (rz, .inl (cZ, 21021, .inl (fun zj => bI (zT zj))))] sz)) 0 0 (va_A [(o0, .inr (ciRM, [.int th, .ref ra, .int si, .ref rx, .ref rf, .ref rt, .ref rb, .ref rl, .int (nI ru), .ref rp, .ref ru_, .ref rv, .int na, .int (nI nx), .int (nI so), .ref rr, .ref rs, .ref rg, .ref rh, .int (nI pa), .ref rz, .ref ry, .int bz, .int de, .int dp, .int io])), (rx, .inl (cI, 1000, .inl tX)), (rf, .inl (cI, 60, .inl (fun zj => nI (xF zj)))), (rt, .inl (cI, 60, .inl (fun zj => nI (xT zj)))), (rb, .inl (cI, 60, .inl (fun zj => nI (xB zj)))), (rp, .inl (cI, 120, .inl tP)), (ru_, .inl (cI, 20, .inl (fun zj => nI (yF zj)))), (rv, .inl (cI, 20, .inl (fun zj => nI (yT zj)))), (rr, .inl (cZ, 1001, .inl (fun zj => bI (zR zj)))), (rs, .inl (cZ, 1001, .inl (fun zj => bI (zF zj)))), (rg, .inl (cI, 1001, .inl (fun zj => nI (wF zj)))), (rh, .inl (cI, 1001, .inl (fun zj => nI (wT zj)))), (rz, .inl (cZ, 21021, .inl (fun zj => bI (zT zj))))] sz) := by
  refine ig_metI (fun (r : Int32) (u : Nat × Nat × (Nat → Bool) × (Nat → Bool) × (Nat → Bool) × Nat × (Nat → Nat) × (Nat → Nat)) => p_RM_last ru nx so pa tX xF xT xB tP yF yT zR zF wF wT zT n d r u.1 u.2.1 u.2.2.1 u.2.2.2.1 u.2.2.2.2.1 u.2.2.2.2.2.1 u.2.2.2.2.2.2.1 u.2.2.2.2.2.2.2) (fun (u : Nat × Nat × (Nat → Bool) × (Nat → Bool) × (Nat → Bool) × Nat × (Nat → Nat) × (Nat → Nat)) => [(o0, .inr (ciRM, [.int th, .ref ra, .int si, .ref rx, .ref rf, .ref rt, .ref rb, .ref rl, .int (nI ru), .ref rp, .ref ru_, .ref rv, .int na, .int (nI u.1), .int (nI u.2.1), .ref rr, .ref rs, .ref rg, .ref rh, .int (nI u.2.2.2.2.2.1), .ref rz, .ref ry, .int bz, .int de, .int dp, .int io])), (rx, .inl (cI, 1000, .inl tX)), (rf, .inl (cI, 60, .inl (fun zj => nI (xF zj)))), (rt, .inl (cI, 60, .inl (fun zj => nI (xT zj)))), (rb, .inl (cI, 60, .inl (fun zj => nI (xB zj)))), (rp, .inl (cI, 120, .inl tP)), (ru_, .inl (cI, 20, .inl (fun zj => nI (yF zj)))), (rv, .inl (cI, 20, .inl (fun zj => nI (yT zj)))), (rr, .inl (cZ, 1001, .inl (fun zj => bI (u.2.2.1 zj)))), (rs, .inl (cZ, 1001, .inl (fun zj => bI (u.2.2.2.1 zj)))), (rg, .inl (cI, 1001, .inl (fun zj => nI (u.2.2.2.2.2.2.1 zj)))), (rh, .inl (cI, 1001, .inl (fun zj => nI (u.2.2.2.2.2.2.2 zj)))), (rz, .inl (cZ, 21021, .inl (fun zj => bI (u.2.2.2.2.1 zj))))]) (by decide) rfl (Nat.le_of_ble_eq_true rfl) rfl (fun _ _ _ => rfl) ?_
  intro zp ze zs zm zargs zbelow zmeth zc zA zQ hx hb hml hown hts hK hN hA hret
  obtain ⟨K7, hK7⟩ : ∃ K : Nat → Nat → Nat → Nat → (Nat → Bool) → (Nat → Bool) → (Nat → Nat) → (Nat → Nat) → (Nat → Bool) → Prop, K = fun (k : Nat) (nxc : Nat) (soc : Nat) (pac : Nat) (zRc : Nat → Bool) (zFc : Nat → Bool) (wFc : Nat → Nat) (wTc : Nat → Nat) (zTc : Nat → Bool) => ig_W zp l ze ({ frames := 7, cells := 0, slots := 0, locals := 165 }) zs zm zargs zbelow zmeth zc (dC, dI) ig_cl0 zA zs.heap 4 0 0 zQ 7 [(0, .ref o0), (1, .int (nI n)), (2, .int (bI d)), (3, .int (nI k - 1))] [] [(o0, .inr (ciRM, [.int th, .ref ra, .int si, .ref rx, .ref rf, .ref rt, .ref rb, .ref rl, .int (nI ru), .ref rp, .ref ru_, .ref rv, .int na, .int (nI nxc), .int (nI soc), .ref rr, .ref rs, .ref rg, .ref rh, .int (nI pac), .ref rz, .ref ry, .int bz, .int de, .int dp, .int io])), (rx, .inl (cI, 1000, .inl tX)), (rf, .inl (cI, 60, .inl (fun zj => nI (xF zj)))), (rt, .inl (cI, 60, .inl (fun zj => nI (xT zj)))), (rb, .inl (cI, 60, .inl (fun zj => nI (xB zj)))), (rp, .inl (cI, 120, .inl tP)), (ru_, .inl (cI, 20, .inl (fun zj => nI (yF zj)))), (rv, .inl (cI, 20, .inl (fun zj => nI (yT zj)))), (rr, .inl (cZ, 1001, .inl (fun zj => bI (zRc zj)))), (rs, .inl (cZ, 1001, .inl (fun zj => bI (zFc zj)))), (rg, .inl (cI, 1001, .inl (fun zj => nI (wFc zj)))), (rh, .inl (cI, 1001, .inl (fun zj => nI (wTc zj)))), (rz, .inl (cZ, 21021, .inl (fun zj => bI (zTc zj))))] := ⟨_, rfl⟩
  have k7 : ∀ (k : Nat) (nxc : Nat) (soc : Nat) (pac : Nat) (zRc : Nat → Bool) (zFc : Nat → Bool) (wFc : Nat → Nat) (wTc : Nat → Nat) (zTc : Nat → Bool), v_RM_last_7 ru nx so pa tX xF xT xB tP yF yT zR zF wF wT zT n d K7 (p_RM_last ru nx so pa tX xF xT xB tP yF yT zR zF wF wT zT n d) k nxc soc pac zRc zFc wFc wTc zTc → K7 k nxc soc pac zRc zFc wFc wTc zTc := by
    intro k nxc soc pac zRc zFc wFc wTc zTc hv
    unfold v_RM_last_7 at hv
    rw [hK7]
    show ig_W zp l ze ({ frames := 7, cells := 0, slots := 0, locals := 165 }) zs zm zargs zbelow zmeth zc (dC, dI) ig_cl0 zA zs.heap 4 0 0 zQ 7 [(0, .ref o0), (1, .int (nI n)), (2, .int (bI d)), (3, .int (nI k - 1))] [] [(o0, .inr (ciRM, [.int th, .ref ra, .int si, .ref rx, .ref rf, .ref rt, .ref rb, .ref rl, .int (nI ru), .ref rp, .ref ru_, .ref rv, .int na, .int (nI nxc), .int (nI soc), .ref rr, .ref rs, .ref rg, .ref rh, .int (nI pac), .ref rz, .ref ry, .int bz, .int de, .int dp, .int io])), (rx, .inl (cI, 1000, .inl tX)), (rf, .inl (cI, 60, .inl (fun zj => nI (xF zj)))), (rt, .inl (cI, 60, .inl (fun zj => nI (xT zj)))), (rb, .inl (cI, 60, .inl (fun zj => nI (xB zj)))), (rp, .inl (cI, 120, .inl tP)), (ru_, .inl (cI, 20, .inl (fun zj => nI (yF zj)))), (rv, .inl (cI, 20, .inl (fun zj => nI (yT zj)))), (rr, .inl (cZ, 1001, .inl (fun zj => bI (zRc zj)))), (rs, .inl (cZ, 1001, .inl (fun zj => bI (zFc zj)))), (rg, .inl (cI, 1001, .inl (fun zj => nI (wFc zj)))), (rh, .inl (cI, 1001, .inl (fun zj => nI (wTc zj)))), (rz, .inl (cZ, 21021, .inl (fun zj => bI (zTc zj))))]
    refine ig_iload_n hx hb 3 d_RM_last_7 rfl rfl ?_
    obtain ⟨h1, hv⟩ := hv
    refine ig_if_ltP (tgt := 29) hx hb k rfl d_RM_last_8 (by decide) h1 (fun h => ?_) (fun j1 h => ?_)
    · have hv := hv.1 h
      refine ig_iconst (v := (-1)) hx hb d_RM_last_29 (by decide) ?_
      exact hret 30 _ (-1) (nxc, soc, zRc, zFc, zTc, pac, wFc, wTc) d_RM_last_30 hv
    · subst h
      have hv := hv.2 j1 rfl
      rw [nI_pred]
      refine ig_aload_n hx hb 0 d_RM_last_11 rfl rfl ?_
      refine ig_iload_n hx hb 3 d_RM_last_12 rfl rfl ?_
      refine ig_iload_n hx hb 1 d_RM_last_13 rfl rfl ?_
      refine ig_iload_n hx hb 2 d_RM_last_14 rfl rfl ?_
      obtain ⟨hc, hv⟩ := hv
      refine ig_cVi (As := [.int (nI j1), .int (nI n), .int (bI d)]) (rest := []) (wr := []) (ws' := fun u => [(o0, .inr (ciRM, [.int th, .ref ra, .int si, .ref rx, .ref rf, .ref rt, .ref rb, .ref rl, .int (nI ru), .ref rp, .ref ru_, .ref rv, .int na, .int (nI u.1), .int (nI u.2.1), .ref rr, .ref rs, .ref rg, .ref rh, .int (nI u.2.2.2.2.2.1), .ref rz, .ref ry, .int bz, .int de, .int dp, .int io])), (rx, .inl (cI, 1000, .inl tX)), (rf, .inl (cI, 60, .inl (fun zj => nI (xF zj)))), (rt, .inl (cI, 60, .inl (fun zj => nI (xT zj)))), (rb, .inl (cI, 60, .inl (fun zj => nI (xB zj)))), (rp, .inl (cI, 120, .inl tP)), (ru_, .inl (cI, 20, .inl (fun zj => nI (yF zj)))), (rv, .inl (cI, 20, .inl (fun zj => nI (yT zj)))), (rr, .inl (cZ, 1001, .inl (fun zj => bI (u.2.2.1 zj)))), (rs, .inl (cZ, 1001, .inl (fun zj => bI (u.2.2.2.1 zj)))), (rg, .inl (cI, 1001, .inl (fun zj => nI (u.2.2.2.2.2.2.1 zj)))), (rh, .inl (cI, 1001, .inl (fun zj => nI (u.2.2.2.2.2.2.2 zj)))), (rz, .inl (cZ, 21021, .inl (fun zj => bI (u.2.2.2.2.1 zj))))]) hx hb hml hown hts hK hN hA (fun sz => c_RM_fitsFirst l dC dI cC cI cZ cL o0 ra rx rf rt rb rl rp ru_ rv rr rs rg rh rz ry th si (nI ru) na bz de dp io nxc soc pac tX xF xT xB tP yF yT zRc zFc wFc wTc zTc j1 n d sz hc) ⟨callB_of 3 hts g_RM_fitsFirst rfl rfl rfl (hts _ kw_0_5) (hts _ kw_2_73) (by decide +kernel) (by decide), (hts _ kw_2_75), (hts _ ks_RM_fitsFirst)⟩ rfl rfl (Nat.le_of_ble_eq_true rfl) d_RM_last_15 (by decide) 0 rfl rfl [0, 1, 2, 3, 4, 5, 6, 7, 8, 9, 10, 11, 12] [] [0, 1, 2, 3, 4, 5, 6, 7, 8, 9, 10, 11, 12] rfl rfl (by decide) (by decide) (by decide) (fun _ => rfl) (fun _ => rfl) (fun r u hr => ?_)
      obtain ⟨nx2, so3, zR4, zF5, zT6, pa7, wF8, wT9⟩ := u
      obtain ⟨rr, rfl, hr⟩ := hr
      unfold p_RM_fitsFirst at hr
      subst hr
      have hv := hv nx2 so3 zR4 zF5 zT6 pa7 wF8 wT9
      refine ig_if_eqB (tgt := 23) hx hb (sp_rg tX tP yF yT (xF j1) (xT j1) (xB j1) n d) rfl d_RM_last_18 (by decide) (fun h => ?_) (fun h => ?_)
      · have hv := hv.1 h
        refine ig_iinc (v := (nI j1 - 1)) (lv' := [(3, .int (nI j1 - 1)), (0, .ref o0), (1, .int (nI n)), (2, .int (bI d))]) hx hb 3 d_RM_last_23 rfl (ig_toP j1) (by decide) rfl ?_
        refine ig_goto (tgt := 7) hx hb d_RM_last_26 (by decide) ?_
        refine ig_lv (lv' := [(0, .ref o0), (1, .int (nI n)), (2, .int (bI d)), (3, .int (nI j1 - 1))]) [1, 2, 3, 0] rfl ?_
        rw [hK7] at hv
        exact hv
      · have hv := hv.2 h
        refine ig_iload_n hx hb 3 d_RM_last_21 rfl rfl ?_
        exact hret 22 _ (nI j1) (nx2, so3, zR4, zF5, zT6, pa7, wF8, wT9) d_RM_last_22 hv
  have hv := t_RM_last ru nx so pa tX xF xT xB tP yF yT zR zF wF wT zT n d hr K7 k7
  unfold v_RM_last at hv
  refine ig_aload_n hx hb 0 d_RM_last_0 rfl rfl ?_
  refine ig_get hx hb hts in_RM hown hK 0 rfl rfl 8 (by decide) (hts _ kw_1_153) (fun _ h => h) rfl d_RM_last_1 ?_
  refine ig_iconst (v := 1) hx hb d_RM_last_4 (by decide) ?_
  refine ig_isub hx hb d_RM_last_5 ?_
  refine ig_istore_n (lv' := [(3, .int (nI ru - 1)), (0, .ref o0), (1, .int (nI n)), (2, .int (bI d))]) hx hb d_RM_last_6 rfl (by decide) rfl ?_
  refine ig_lv (lv' := [(0, .ref o0), (1, .int (nI n)), (2, .int (bI d)), (3, .int (nI ru - 1))]) [1, 2, 3, 0] rfl ?_
  rw [hK7] at hv
  exact hv
theorem d_RM_wipe_0 : decode b_RM_wipe 0 = .ok (.aload_n 0, 1) := by decide +kernel
theorem d_RM_wipe_1 : decode b_RM_wipe 1 = .ok (.iconst 0, 1) := by decide +kernel
theorem d_RM_wipe_2 : decode b_RM_wipe 2 = .ok (.putfield 56, 3) := by decide +kernel
theorem d_RM_wipe_5 : decode b_RM_wipe 5 = .ok (.aload_n 0, 1) := by decide +kernel
theorem d_RM_wipe_6 : decode b_RM_wipe 6 = .ok (.getfield 60, 3) := by decide +kernel
theorem d_RM_wipe_9 : decode b_RM_wipe 9 = .ok (.istore_n 1, 1) := by decide +kernel
theorem d_RM_wipe_10 : decode b_RM_wipe 10 = .ok (.aload_n 0, 1) := by decide +kernel
theorem d_RM_wipe_11 : decode b_RM_wipe 11 = .ok (.iconst 0, 1) := by decide +kernel
theorem d_RM_wipe_12 : decode b_RM_wipe 12 = .ok (.putfield 60, 3) := by decide +kernel
theorem d_RM_wipe_15 : decode b_RM_wipe 15 = .ok (.iload_n 1, 1) := by decide +kernel
theorem d_RM_wipe_16 : decode b_RM_wipe 16 = .ok (.ireturn, 1) := by decide +kernel
abbrev w_RM_wipe : List Cond := Cond.code y_RM_wipe b_RM_wipe 2 (some .int) :: ig_T
theorem g_RM_wipe : GoodIn ig_T w_RM_wipe := ig_T_good (ig_T_mem (List.mem_append_right _ (List.mem_append_left _ (List.mem_of_getElem? (i := 236) rfl))) rfl)
set_option maxHeartbeats 4000000 in
set_option maxRecDepth 100000 in
theorem c_RM_wipe (l : Launch) (dC : Nat → ClassId) (dI : Nat → Nat → Nat) (cC cI cZ cL : ClassId) (o0 ra rx rf rt rb rl rp ru_ rv rr rs rg rh rz ry : Nat) (ru : Int32) (na : Int32) (nx : Int32) (so : Int32) (pa : Int32) (bz : Int32) (de : Int32) (dp : Int32) (io : Int32) (th : Nat) (si : Nat) (sz : Nat) : Met l y_RM_wipe w_RM_wipe ({ frames := 0, cells := 0, slots := 0, locals := 0 }) (ig_Pc (dC, dI) ig_cl0 [(cC, .char), (cI, .int), (cZ, .boolean), (cL, .long)] [.ref o0] [(o0, .inr (ciRM, [.int (nI th), .ref ra, .int (nI si), .ref rx, .ref rf, .ref rt, .ref rb, .ref rl, .int ru, .ref rp, .ref ru_, .ref rv, .int na, .int nx, .int so, .ref rr, .ref rs, .ref rg, .ref rh, .int pa, .ref rz, .ref ry, .int bz, .int de, .int dp, .int io]))] sz) (va_Qi (fun (r : Int32) (u : Nat × Nat) => ∃ zr : Nat, r = nI zr ∧ p_RM_wipe th si zr u.1 u.2) (fun u t => va_P (dC, dI) ig_cl0 ((fun (u : Nat × Nat) => [(o0, .inr (ciRM, [.int (nI u.1), .ref ra, .int (nI u.2), .ref rx, .ref rf, .ref rt, .ref rb, .ref rl, .int ru, .ref rp, .ref ru_, .ref rv, .int na, .int nx, .int so, .ref rr, .ref rs, .ref rg, .ref rh, .int pa, .ref rz, .ref ry, .int bz, .int de, .int dp, .int io]))]) u) t.heap ∧ va_D (va_A [(o0, .inr (ciRM, [.int (nI th), .ref ra, .int (nI si), .ref rx, .ref rf, .ref rt, .ref rb, .ref rl, .int ru, .ref rp, .ref ru_, .ref rv, .int na, .int nx, .int so, .ref rr, .ref rs, .ref rg, .ref rh, .int pa, .ref rz, .ref ry, .int bz, .int de, .int dp, .int io]))] sz) ((fun (u : Nat × Nat) => [(o0, .inr (ciRM, [.int (nI u.1), .ref ra, .int (nI u.2), .ref rx, .ref rf, .ref rt, .ref rb, .ref rl, .int ru, .ref rp, .ref ru_, .ref rv, .int na, .int nx, .int so, .ref rr, .ref rs, .ref rg, .ref rh, .int pa, .ref rz, .ref ry, .int bz, .int de, .int dp, .int io]))]) u)) (va_A [(o0, .inr (ciRM, [.int (nI th), .ref ra, .int (nI si), .ref rx, .ref rf, .ref rt, .ref rb, .ref rl, .int ru, .ref rp, .ref ru_, .ref rv, .int na, .int nx, .int so, .ref rr, .ref rs, .ref rg, .ref rh, .int pa, .ref rz, .ref ry, .int bz, .int de, .int dp, .int io]))] sz)) 0 0 (va_A [(o0, .inr (ciRM, [.int (nI th), .ref ra, .int (nI si), .ref rx, .ref rf, .ref rt, .ref rb, .ref rl, .int ru, .ref rp, .ref ru_, .ref rv, .int na, .int nx, .int so, .ref rr, .ref rs, .ref rg, .ref rh, .int pa, .ref rz, .ref ry, .int bz, .int de, .int dp, .int io]))] sz) := by
  refine ig_metI (fun (r : Int32) (u : Nat × Nat) => ∃ zr : Nat, r = nI zr ∧ p_RM_wipe th si zr u.1 u.2) (fun (u : Nat × Nat) => [(o0, .inr (ciRM, [.int (nI u.1), .ref ra, .int (nI u.2), .ref rx, .ref rf, .ref rt, .ref rb, .ref rl, .int ru, .ref rp, .ref ru_, .ref rv, .int na, .int nx, .int so, .ref rr, .ref rs, .ref rg, .ref rh, .int pa, .ref rz, .ref ry, .int bz, .int de, .int dp, .int io]))]) (by decide) rfl (Nat.le_of_ble_eq_true rfl) rfl (fun _ _ _ => rfl) ?_
  intro zp ze zs zm zargs zbelow zmeth zc zA zQ hx hb hml hown hts hK hN hA hret
  have hv := t_RM_wipe th si 
  unfold v_RM_wipe at hv
  refine ig_aload_n hx hb 0 d_RM_wipe_0 rfl rfl ?_
  refine ig_iconst (v := 0) hx hb d_RM_wipe_1 (by decide) ?_
  refine ig_put (ty := .int) (v := .int 0) (ws' := [(o0, .inr (ciRM, [.int (nI 0), .ref ra, .int (nI si), .ref rx, .ref rf, .ref rt, .ref rb, .ref rl, .int ru, .ref rp, .ref ru_, .ref rv, .int na, .int nx, .int so, .ref rr, .ref rs, .ref rg, .ref rh, .int pa, .ref rz, .ref ry, .int bz, .int de, .int dp, .int io]))]) hx hb hts in_RM t_RM t_RM_ok n_RM hown hK 0 rfl rfl 0 (by decide) (hts _ kw_1_145) (fun _ h => h) rfl (by decide +kernel) rfl rfl (Nat.le_of_ble_eq_true rfl) d_RM_wipe_2 rfl ?_
  refine ig_aload_n hx hb 0 d_RM_wipe_5 rfl rfl ?_
  refine ig_get hx hb hts in_RM hown hK 0 rfl rfl 2 (by decide) (hts _ kw_1_147) (fun _ h => h) rfl d_RM_wipe_6 ?_
  refine ig_istore_n (lv' := [(1, .int (nI si)), (0, .ref o0)]) hx hb d_RM_wipe_9 rfl (by decide) rfl ?_
  refine ig_aload_n hx hb 1 d_RM_wipe_10 rfl rfl ?_
  refine ig_iconst (v := 0) hx hb d_RM_wipe_11 (by decide) ?_
  refine ig_put (ty := .int) (v := .int 0) (ws' := [(o0, .inr (ciRM, [.int (nI 0), .ref ra, .int (nI 0), .ref rx, .ref rf, .ref rt, .ref rb, .ref rl, .int ru, .ref rp, .ref ru_, .ref rv, .int na, .int nx, .int so, .ref rr, .ref rs, .ref rg, .ref rh, .int pa, .ref rz, .ref ry, .int bz, .int de, .int dp, .int io]))]) hx hb hts in_RM t_RM t_RM_ok n_RM hown hK 0 rfl rfl 2 (by decide) (hts _ kw_1_147) (fun _ h => h) rfl (by decide +kernel) rfl rfl (Nat.le_of_ble_eq_true rfl) d_RM_wipe_12 rfl ?_
  refine ig_iload_n hx hb 0 d_RM_wipe_15 rfl rfl ?_
  exact hret 16 _ (nI si) (0, 0) d_RM_wipe_16 ⟨si, rfl, hv⟩
theorem d_RM_thrown_0 : decode b_RM_thrown 0 = .ok (.aload_n 0, 1) := by decide +kernel
theorem d_RM_thrown_1 : decode b_RM_thrown 1 = .ok (.getfield 56, 3) := by decide +kernel
theorem d_RM_thrown_4 : decode b_RM_thrown 4 = .ok (.ireturn, 1) := by decide +kernel
abbrev w_RM_thrown : List Cond := Cond.code y_RM_thrown b_RM_thrown 1 (some .int) :: ig_T
theorem g_RM_thrown : GoodIn ig_T w_RM_thrown := ig_T_good (ig_T_mem (List.mem_append_right _ (List.mem_append_left _ (List.mem_of_getElem? (i := 227) rfl))) rfl)
set_option maxHeartbeats 4000000 in
set_option maxRecDepth 100000 in
theorem c_RM_thrown (l : Launch) (dC : Nat → ClassId) (dI : Nat → Nat → Nat) (cC cI cZ cL : ClassId) (o0 ra rx rf rt rb rl rp ru_ rv rr rs rg rh rz ry : Nat) (si : Int32) (ru : Int32) (na : Int32) (nx : Int32) (so : Int32) (pa : Int32) (bz : Int32) (de : Int32) (dp : Int32) (io : Int32) (th : Nat) (sz : Nat) : Met l y_RM_thrown w_RM_thrown ({ frames := 0, cells := 0, slots := 0, locals := 0 }) (ig_Pc (dC, dI) ig_cl0 [(cC, .char), (cI, .int), (cZ, .boolean), (cL, .long)] [.ref o0] [(o0, .inr (ciRM, [.int (nI th), .ref ra, .int si, .ref rx, .ref rf, .ref rt, .ref rb, .ref rl, .int ru, .ref rp, .ref ru_, .ref rv, .int na, .int nx, .int so, .ref rr, .ref rs, .ref rg, .ref rh, .int pa, .ref rz, .ref ry, .int bz, .int de, .int dp, .int io]))] sz) (va_Qi (fun (r : Int32) (u : Unit) => ∃ zr : Nat, r = nI zr ∧ p_RM_thrown th zr ) (fun u t => va_P (dC, dI) ig_cl0 ((fun (u : Unit) => [(o0, .inr (ciRM, [.int (nI th), .ref ra, .int si, .ref rx, .ref rf, .ref rt, .ref rb, .ref rl, .int ru, .ref rp, .ref ru_, .ref rv, .int na, .int nx, .int so, .ref rr, .ref rs, .ref rg, .ref rh, .int pa, .ref rz, .ref ry, .int bz, .int de, .int dp, .int io]))]) u) t.heap ∧ va_D (va_A [(o0, .inr (ciRM, [.int (nI th), .ref ra, .int si, .ref rx, .ref rf, .ref rt, .ref rb, .ref rl, .int ru, .ref rp, .ref ru_, .ref rv, .int na, .int nx, .int so, .ref rr, .ref rs, .ref rg, .ref rh, .int pa, .ref rz, .ref ry, .int bz, .int de, .int dp, .int io]))] sz) ((fun (u : Unit) => [(o0, .inr (ciRM, [.int (nI th), .ref ra, .int si, .ref rx, .ref rf, .ref rt, .ref rb, .ref rl, .int ru, .ref rp, .ref ru_, .ref rv, .int na, .int nx, .int so, .ref rr, .ref rs, .ref rg, .ref rh, .int pa, .ref rz, .ref ry, .int bz, .int de, .int dp, .int io]))]) u)) (va_A [(o0, .inr (ciRM, [.int (nI th), .ref ra, .int si, .ref rx, .ref rf, .ref rt, .ref rb, .ref rl, .int ru, .ref rp, .ref ru_, .ref rv, .int na, .int nx, .int so, .ref rr, .ref rs, .ref rg, .ref rh, .int pa, .ref rz, .ref ry, .int bz, .int de, .int dp, .int io]))] sz)) 0 0 (va_A [(o0, .inr (ciRM, [.int (nI th), .ref ra, .int si, .ref rx, .ref rf, .ref rt, .ref rb, .ref rl, .int ru, .ref rp, .ref ru_, .ref rv, .int na, .int nx, .int so, .ref rr, .ref rs, .ref rg, .ref rh, .int pa, .ref rz, .ref ry, .int bz, .int de, .int dp, .int io]))] sz) := by
  refine ig_metI (fun (r : Int32) (u : Unit) => ∃ zr : Nat, r = nI zr ∧ p_RM_thrown th zr ) (fun (u : Unit) => [(o0, .inr (ciRM, [.int (nI th), .ref ra, .int si, .ref rx, .ref rf, .ref rt, .ref rb, .ref rl, .int ru, .ref rp, .ref ru_, .ref rv, .int na, .int nx, .int so, .ref rr, .ref rs, .ref rg, .ref rh, .int pa, .ref rz, .ref ry, .int bz, .int de, .int dp, .int io]))]) (by decide) rfl (Nat.le_of_ble_eq_true rfl) rfl (fun _ _ _ => rfl) ?_
  intro zp ze zs zm zargs zbelow zmeth zc zA zQ hx hb hml hown hts hK hN hA hret
  have hv := t_RM_thrown th 
  unfold v_RM_thrown at hv
  refine ig_aload_n hx hb 0 d_RM_thrown_0 rfl rfl ?_
  refine ig_get hx hb hts in_RM hown hK 0 rfl rfl 0 (by decide) (hts _ kw_1_145) (fun _ h => h) rfl d_RM_thrown_1 ?_
  exact hret 4 _ (nI th) () d_RM_thrown_4 ⟨th, rfl, hv⟩
theorem d_RM_swapText_0 : decode b_RM_swapText 0 = .ok (.iconst 0, 1) := by decide +kernel
theorem d_RM_swapText_1 : decode b_RM_swapText 1 = .ok (.istore_n 2, 1) := by decide +kernel
theorem d_RM_swapText_2 : decode b_RM_swapText 2 = .ok (.iload_n 2, 1) := by decide +kernel
theorem d_RM_swapText_3 : decode b_RM_swapText 3 = .ok (.sipush 1000, 3) := by decide +kernel
theorem d_RM_swapText_6 : decode b_RM_swapText 6 = .ok (.if_icmp .ge 59, 3) := by decide +kernel
theorem d_RM_swapText_9 : decode b_RM_swapText 9 = .ok (.aload_n 0, 1) := by decide +kernel
theorem d_RM_swapText_10 : decode b_RM_swapText 10 = .ok (.getfield 53, 3) := by decide +kernel
theorem d_RM_swapText_13 : decode b_RM_swapText 13 = .ok (.iload_n 2, 1) := by decide +kernel
theorem d_RM_swapText_14 : decode b_RM_swapText 14 = .ok (.iload_n 1, 1) := by decide +kernel
theorem d_RM_swapText_15 : decode b_RM_swapText 15 = .ok (.ifCond .eq 12, 3) := by decide +kernel
theorem d_RM_swapText_18 : decode b_RM_swapText 18 = .ok (.aload_n 0, 1) := by decide +kernel
theorem d_RM_swapText_19 : decode b_RM_swapText 19 = .ok (.getfield 53, 3) := by decide +kernel
theorem d_RM_swapText_22 : decode b_RM_swapText 22 = .ok (.iload_n 2, 1) := by decide +kernel
theorem d_RM_swapText_23 : decode b_RM_swapText 23 = .ok (.iaload, 1) := by decide +kernel
theorem d_RM_swapText_24 : decode b_RM_swapText 24 = .ok (.goto 9, 3) := by decide +kernel
theorem d_RM_swapText_27 : decode b_RM_swapText 27 = .ok (.aload_n 0, 1) := by decide +kernel
theorem d_RM_swapText_28 : decode b_RM_swapText 28 = .ok (.getfield 13, 3) := by decide +kernel
theorem d_RM_swapText_31 : decode b_RM_swapText 31 = .ok (.iload_n 2, 1) := by decide +kernel
theorem d_RM_swapText_32 : decode b_RM_swapText 32 = .ok (.iaload, 1) := by decide +kernel
theorem d_RM_swapText_33 : decode b_RM_swapText 33 = .ok (.iastore, 1) := by decide +kernel
theorem d_RM_swapText_34 : decode b_RM_swapText 34 = .ok (.aload_n 0, 1) := by decide +kernel
theorem d_RM_swapText_35 : decode b_RM_swapText 35 = .ok (.getfield 13, 3) := by decide +kernel
theorem d_RM_swapText_38 : decode b_RM_swapText 38 = .ok (.iload_n 2, 1) := by decide +kernel
theorem d_RM_swapText_39 : decode b_RM_swapText 39 = .ok (.iload_n 1, 1) := by decide +kernel
theorem d_RM_swapText_40 : decode b_RM_swapText 40 = .ok (.ifCond .eq 12, 3) := by decide +kernel
theorem d_RM_swapText_43 : decode b_RM_swapText 43 = .ok (.aload_n 0, 1) := by decide +kernel
theorem d_RM_swapText_44 : decode b_RM_swapText 44 = .ok (.getfield 53, 3) := by decide +kernel
theorem d_RM_swapText_47 : decode b_RM_swapText 47 = .ok (.iload_n 2, 1) := by decide +kernel
theorem d_RM_swapText_48 : decode b_RM_swapText 48 = .ok (.iaload, 1) := by decide +kernel
theorem d_RM_swapText_49 : decode b_RM_swapText 49 = .ok (.goto 9, 3) := by decide +kernel
theorem d_RM_swapText_52 : decode b_RM_swapText 52 = .ok (.aload_n 0, 1) := by decide +kernel
theorem d_RM_swapText_53 : decode b_RM_swapText 53 = .ok (.getfield 7, 3) := by decide +kernel
theorem d_RM_swapText_56 : decode b_RM_swapText 56 = .ok (.iload_n 2, 1) := by decide +kernel
theorem d_RM_swapText_57 : decode b_RM_swapText 57 = .ok (.iaload, 1) := by decide +kernel
theorem d_RM_swapText_58 : decode b_RM_swapText 58 = .ok (.iastore, 1) := by decide +kernel
theorem d_RM_swapText_59 : decode b_RM_swapText 59 = .ok (.iinc 2 1, 3) := by decide +kernel
theorem d_RM_swapText_62 : decode b_RM_swapText 62 = .ok (.goto (-60), 3) := by decide +kernel
theorem d_RM_swapText_65 : decode b_RM_swapText 65 = .ok (.return_, 1) := by decide +kernel
abbrev w_RM_swapText : List Cond := Cond.code y_RM_swapText b_RM_swapText 3 none :: ig_T
theorem g_RM_swapText : GoodIn ig_T w_RM_swapText := ig_T_good (ig_T_mem (List.mem_append_right _ (List.mem_append_right _ (List.mem_of_getElem? (i := 4) rfl))) rfl)
set_option maxHeartbeats 4000000 in
set_option maxRecDepth 100000 in
theorem c_RM_swapText (l : Launch) (dC : Nat → ClassId) (dI : Nat → Nat → Nat) (cC cI cZ cL : ClassId) (o0 ra rx rf rt rb rl rp ru_ rv rr rs rg rh rz ry : Nat) (th : Int32) (si : Int32) (ru : Int32) (na : Int32) (nx : Int32) (so : Int32) (pa : Int32) (bz : Int32) (de : Int32) (dp : Int32) (io : Int32) (tA : Nat → Int32) (tX : Nat → Int32) (tB : Nat → Int32) (d : Bool) (sz : Nat) : Met l y_RM_swapText w_RM_swapText ({ frames := 0, cells := 0, slots := 0, locals := 0 }) (ig_Pc (dC, dI) ig_cl0 [(cC, .char), (cI, .int), (cZ, .boolean), (cL, .long)] [.ref o0, .int (bI d)] [(o0, .inr (ciRM, [.int th, .ref ra, .int si, .ref rx, .ref rf, .ref rt, .ref rb, .ref rl, .int ru, .ref rp, .ref ru_, .ref rv, .int na, .int nx, .int so, .ref rr, .ref rs, .ref rg, .ref rh, .int pa, .ref rz, .ref ry, .int bz, .int de, .int dp, .int io])), (ra, .inl (cI, 1000, .inl tA)), (rx, .inl (cI, 1000, .inl tX)), (ry, .inl (cI, 1000, .inl tB))] sz) (va_Qv (fun (u : (Nat → Int32) × (Nat → Int32)) => p_RM_swapText tA tX tB d u.1 u.2) (fun u t => va_P (dC, dI) ig_cl0 ((fun (u : (Nat → Int32) × (Nat → Int32)) => [(o0, .inr (ciRM, [.int th, .ref ra, .int si, .ref rx, .ref rf, .ref rt, .ref rb, .ref rl, .int ru, .ref rp, .ref ru_, .ref rv, .int na, .int nx, .int so, .ref rr, .ref rs, .ref rg, .ref rh, .int pa, .ref rz, .ref ry, .int bz, .int de, .int dp, .int io])), (ra, .inl (cI, 1000, .inl tA)), (rx, .inl (cI, 1000, .inl u.1)), (ry, .inl (cI, 1000, .inl u.2))]) u) t.heap ∧ va_D (va_A [(o0, .inr (ciRM, [.int th, .ref ra, .int si, .ref rx, .ref rf, .ref rt, .ref rb, .ref rl, .int ru, .ref rp, .ref ru_, .ref rv, .int na, .int nx, .int so, .ref rr, .ref rs, .ref rg, .ref rh, .int pa, .ref rz, .ref ry, .int bz, .int de, .int dp, .int io])), (ra, .inl (cI, 1000, .inl tA)), (rx, .inl (cI, 1000, .inl tX)), (ry, .inl (cI, 1000, .inl tB))] sz) ((fun (u : (Nat → Int32) × (Nat → Int32)) => [(o0, .inr (ciRM, [.int th, .ref ra, .int si, .ref rx, .ref rf, .ref rt, .ref rb, .ref rl, .int ru, .ref rp, .ref ru_, .ref rv, .int na, .int nx, .int so, .ref rr, .ref rs, .ref rg, .ref rh, .int pa, .ref rz, .ref ry, .int bz, .int de, .int dp, .int io])), (ra, .inl (cI, 1000, .inl tA)), (rx, .inl (cI, 1000, .inl u.1)), (ry, .inl (cI, 1000, .inl u.2))]) u)) (va_A [(o0, .inr (ciRM, [.int th, .ref ra, .int si, .ref rx, .ref rf, .ref rt, .ref rb, .ref rl, .int ru, .ref rp, .ref ru_, .ref rv, .int na, .int nx, .int so, .ref rr, .ref rs, .ref rg, .ref rh, .int pa, .ref rz, .ref ry, .int bz, .int de, .int dp, .int io])), (ra, .inl (cI, 1000, .inl tA)), (rx, .inl (cI, 1000, .inl tX)), (ry, .inl (cI, 1000, .inl tB))] sz)) 0 0 (va_A [(o0, .inr (ciRM, [.int th, .ref ra, .int si, .ref rx, .ref rf, .ref rt, .ref rb, .ref rl, .int ru, .ref rp, .ref ru_, .ref rv, .int na, .int nx, .int so, .ref rr, .ref rs, .ref rg, .ref rh, .int pa, .ref rz, .ref ry, .int bz, .int de, .int dp, .int io])), (ra, .inl (cI, 1000, .inl tA)), (rx, .inl (cI, 1000, .inl tX)), (ry, .inl (cI, 1000, .inl tB))] sz) := by
  refine ig_metV (fun (u : (Nat → Int32) × (Nat → Int32)) => p_RM_swapText tA tX tB d u.1 u.2) (fun (u : (Nat → Int32) × (Nat → Int32)) => [(o0, .inr (ciRM, [.int th, .ref ra, .int si, .ref rx, .ref rf, .ref rt, .ref rb, .ref rl, .int ru, .ref rp, .ref ru_, .ref rv, .int na, .int nx, .int so, .ref rr, .ref rs, .ref rg, .ref rh, .int pa, .ref rz, .ref ry, .int bz, .int de, .int dp, .int io])), (ra, .inl (cI, 1000, .inl tA)), (rx, .inl (cI, 1000, .inl u.1)), (ry, .inl (cI, 1000, .inl u.2))]) (by decide) rfl (Nat.le_of_ble_eq_true rfl) rfl ?_
  intro zp ze zs zm zargs zbelow zmeth zc zA zQ hx hb hml hown hts hK hN hA hret
  obtain ⟨K2, hK2⟩ : ∃ K : Nat → (Nat → Int32) → (Nat → Int32) → Prop, K = fun (b : Nat) (tXc : Nat → Int32) (tBc : Nat → Int32) => ig_W zp l ze ({ frames := 0, cells := 0, slots := 0, locals := 0 }) zs zm zargs zbelow zmeth zc (dC, dI) ig_cl0 zA zs.heap 3 0 0 zQ 2 [(0, .ref o0), (1, .int (bI d)), (2, .int (nI b))] [] [(o0, .inr (ciRM, [.int th, .ref ra, .int si, .ref rx, .ref rf, .ref rt, .ref rb, .ref rl, .int ru, .ref rp, .ref ru_, .ref rv, .int na, .int nx, .int so, .ref rr, .ref rs, .ref rg, .ref rh, .int pa, .ref rz, .ref ry, .int bz, .int de, .int dp, .int io])), (ra, .inl (cI, 1000, .inl tA)), (rx, .inl (cI, 1000, .inl tXc)), (ry, .inl (cI, 1000, .inl tBc))] := ⟨_, rfl⟩
  have j58 : ∀ (b : Nat) (s0 : Int32) (s1 : Nat) (tXc : Nat → Int32) (tBc : Nat → Int32), v_RM_swapText_58 tA tX tB d K2 (p_RM_swapText tA tX tB d) b s0 s1 tXc tBc → ig_W zp l ze ({ frames := 0, cells := 0, slots := 0, locals := 0 }) zs zm zargs zbelow zmeth zc (dC, dI) ig_cl0 zA zs.heap 3 0 0 zQ 58 [(0, .ref o0), (1, .int (bI d)), (2, .int (nI b))] [.int s0, .int (nI s1), .ref rx] [(o0, .inr (ciRM, [.int th, .ref ra, .int si, .ref rx, .ref rf, .ref rt, .ref rb, .ref rl, .int ru, .ref rp, .ref ru_, .ref rv, .int na, .int nx, .int so, .ref rr, .ref rs, .ref rg, .ref rh, .int pa, .ref rz, .ref ry, .int bz, .int de, .int dp, .int io])), (ra, .inl (cI, 1000, .inl tA)), (rx, .inl (cI, 1000, .inl tXc)), (ry, .inl (cI, 1000, .inl tBc))] := by
    intro b s0 s1 tXc tBc hv
    unfold v_RM_swapText_58 at hv
    obtain ⟨hc, hv⟩ := hv
    refine ig_iast (f' := upd tXc s1 s0) (ws' := [(o0, .inr (ciRM, [.int th, .ref ra, .int si, .ref rx, .ref rf, .ref rt, .ref rb, .ref rl, .int ru, .ref rp, .ref ru_, .ref rv, .int na, .int nx, .int so, .ref rr, .ref rs, .ref rg, .ref rh, .int pa, .ref rz, .ref ry, .int bz, .int de, .int dp, .int io])), (ra, .inl (cI, 1000, .inl tA)), (rx, .inl (cI, 1000, .inl (upd tXc s1 s0))), (ry, .inl (cI, 1000, .inl tBc))]) hx hb hK 2 1 rfl rfl s1 rfl hc (by decide) rfl d_RM_swapText_58 rfl ?_
    refine ig_iinc (v := (nI (b + 1))) (lv' := [(2, .int (nI (b + 1))), (0, .ref o0), (1, .int (bI d))]) hx hb 2 d_RM_swapText_59 rfl (ig_inc b 1 (by decide)) (by decide) rfl ?_
    refine ig_goto (tgt := 2) hx hb d_RM_swapText_62 (by decide) ?_
    refine ig_lv (lv' := [(0, .ref o0), (1, .int (bI d)), (2, .int (nI (b + 1)))]) [1, 2, 0] rfl ?_
    rw [hK2] at hv
    exact hv
  have j33 : ∀ (b : Nat) (s0 : Int32) (s1 : Nat) (tXc : Nat → Int32) (tBc : Nat → Int32), v_RM_swapText_33 tA tX tB d K2 (p_RM_swapText tA tX tB d) b s0 s1 tXc tBc → ig_W zp l ze ({ frames := 0, cells := 0, slots := 0, locals := 0 }) zs zm zargs zbelow zmeth zc (dC, dI) ig_cl0 zA zs.heap 3 0 0 zQ 33 [(0, .ref o0), (1, .int (bI d)), (2, .int (nI b))] [.int s0, .int (nI s1), .ref ry] [(o0, .inr (ciRM, [.int th, .ref ra, .int si, .ref rx, .ref rf, .ref rt, .ref rb, .ref rl, .int ru, .ref rp, .ref ru_, .ref rv, .int na, .int nx, .int so, .ref rr, .ref rs, .ref rg, .ref rh, .int pa, .ref rz, .ref ry, .int bz, .int de, .int dp, .int io])), (ra, .inl (cI, 1000, .inl tA)), (rx, .inl (cI, 1000, .inl tXc)), (ry, .inl (cI, 1000, .inl tBc))] := by
    intro b s0 s1 tXc tBc hv
    unfold v_RM_swapText_33 at hv
    obtain ⟨hc, hv⟩ := hv
    refine ig_iast (f' := upd tBc s1 s0) (ws' := [(o0, .inr (ciRM, [.int th, .ref ra, .int si, .ref rx, .ref rf, .ref rt, .ref rb, .ref rl, .int ru, .ref rp, .ref ru_, .ref rv, .int na, .int nx, .int so, .ref rr, .ref rs, .ref rg, .ref rh, .int pa, .ref rz, .ref ry, .int bz, .int de, .int dp, .int io])), (ra, .inl (cI, 1000, .inl tA)), (rx, .inl (cI, 1000, .inl tXc)), (ry, .inl (cI, 1000, .inl (upd tBc s1 s0)))]) hx hb hK 3 1 rfl rfl s1 rfl hc (by decide) rfl d_RM_swapText_33 rfl ?_
    refine ig_aload_n hx hb 0 d_RM_swapText_34 rfl rfl ?_
    refine ig_get hx hb hts in_RM hown hK 0 rfl rfl 3 (by decide) (hts _ kw_1_148) (fun _ h => h) rfl d_RM_swapText_35 ?_
    refine ig_iload_n hx hb 2 d_RM_swapText_38 rfl rfl ?_
    refine ig_iload_n hx hb 1 d_RM_swapText_39 rfl rfl ?_
    refine ig_if_eqB (tgt := 52) hx hb d rfl d_RM_swapText_40 (by decide) (fun h => ?_) (fun h => ?_)
    · have hv := hv.1 h
      refine ig_aload_n hx hb 0 d_RM_swapText_52 rfl rfl ?_
      refine ig_get hx hb hts in_RM hown hK 0 rfl rfl 1 (by decide) (hts _ kw_1_146) (fun _ h => h) rfl d_RM_swapText_53 ?_
      refine ig_iload_n hx hb 2 d_RM_swapText_56 rfl rfl ?_
      obtain ⟨hc, hv⟩ := hv
      refine ig_iald (x := (tA b)) hx hb hK 1 1 rfl rfl b rfl hc (by decide) rfl d_RM_swapText_57 ?_
      refine ig_lv (lv' := [(0, .ref o0), (1, .int (bI d)), (2, .int (nI b))]) [0, 1, 2] rfl ?_
      exact j58 _ _ _ _ _ hv
    · have hv := hv.2 h
      refine ig_aload_n hx hb 0 d_RM_swapText_43 rfl rfl ?_
      refine ig_get hx hb hts in_RM hown hK 0 rfl rfl 21 (by decide) (hts _ kw_1_166) (fun _ h => h) rfl d_RM_swapText_44 ?_
      refine ig_iload_n hx hb 2 d_RM_swapText_47 rfl rfl ?_
      obtain ⟨hc, hv⟩ := hv
      refine ig_iald (x := ((upd tBc s1 s0) b)) hx hb hK 3 1 rfl rfl b rfl hc (by decide) rfl d_RM_swapText_48 ?_
      refine ig_goto (tgt := 58) hx hb d_RM_swapText_49 (by decide) ?_
      refine ig_lv (lv' := [(0, .ref o0), (1, .int (bI d)), (2, .int (nI b))]) [0, 1, 2] rfl ?_
      exact j58 _ _ _ _ _ hv
  have k2 : ∀ (b : Nat) (tXc : Nat → Int32) (tBc : Nat → Int32), v_RM_swapText_2 tA tX tB d K2 (p_RM_swapText tA tX tB d) b tXc tBc → K2 b tXc tBc := by
    intro b tXc tBc hv
    unfold v_RM_swapText_2 at hv
    rw [hK2]
    show ig_W zp l ze ({ frames := 0, cells := 0, slots := 0, locals := 0 }) zs zm zargs zbelow zmeth zc (dC, dI) ig_cl0 zA zs.heap 3 0 0 zQ 2 [(0, .ref o0), (1, .int (bI d)), (2, .int (nI b))] [] [(o0, .inr (ciRM, [.int th, .ref ra, .int si, .ref rx, .ref rf, .ref rt, .ref rb, .ref rl, .int ru, .ref rp, .ref ru_, .ref rv, .int na, .int nx, .int so, .ref rr, .ref rs, .ref rg, .ref rh, .int pa, .ref rz, .ref ry, .int bz, .int de, .int dp, .int io])), (ra, .inl (cI, 1000, .inl tA)), (rx, .inl (cI, 1000, .inl tXc)), (ry, .inl (cI, 1000, .inl tBc))]
    refine ig_iload_n hx hb 2 d_RM_swapText_2 rfl rfl ?_
    refine ig_sipush (v := 1000) hx hb d_RM_swapText_3 (by decide) ?_
    obtain ⟨h1, hv⟩ := hv
    refine ig_icmp_geN (tgt := 65) hx hb b 1000 rfl rfl d_RM_swapText_6 (by decide) h1 (by decide) (fun h => ?_) (fun h => ?_)
    · have hv := hv.1 h
      exact hret 65 _ (tXc, tBc) d_RM_swapText_65 hv
    · have hv := hv.2 h
      refine ig_aload_n hx hb 0 d_RM_swapText_9 rfl rfl ?_
      refine ig_get hx hb hts in_RM hown hK 0 rfl rfl 21 (by decide) (hts _ kw_1_166) (fun _ h => h) rfl d_RM_swapText_10 ?_
      refine ig_iload_n hx hb 2 d_RM_swapText_13 rfl rfl ?_
      refine ig_iload_n hx hb 1 d_RM_swapText_14 rfl rfl ?_
      refine ig_if_eqB (tgt := 27) hx hb d rfl d_RM_swapText_15 (by decide) (fun h => ?_) (fun h => ?_)
      · have hv := hv.1 h
        refine ig_aload_n hx hb 0 d_RM_swapText_27 rfl rfl ?_
        refine ig_get hx hb hts in_RM hown hK 0 rfl rfl 3 (by decide) (hts _ kw_1_148) (fun _ h => h) rfl d_RM_swapText_28 ?_
        refine ig_iload_n hx hb 2 d_RM_swapText_31 rfl rfl ?_
        obtain ⟨hc, hv⟩ := hv
        refine ig_iald (x := (tXc b)) hx hb hK 2 1 rfl rfl b rfl hc (by decide) rfl d_RM_swapText_32 ?_
        refine ig_lv (lv' := [(0, .ref o0), (1, .int (bI d)), (2, .int (nI b))]) [0, 1, 2] rfl ?_
        exact j33 _ _ _ _ _ hv
      · have hv := hv.2 h
        refine ig_aload_n hx hb 0 d_RM_swapText_18 rfl rfl ?_
        refine ig_get hx hb hts in_RM hown hK 0 rfl rfl 21 (by decide) (hts _ kw_1_166) (fun _ h => h) rfl d_RM_swapText_19 ?_
        refine ig_iload_n hx hb 2 d_RM_swapText_22 rfl rfl ?_
        obtain ⟨hc, hv⟩ := hv
        refine ig_iald (x := (tBc b)) hx hb hK 3 1 rfl rfl b rfl hc (by decide) rfl d_RM_swapText_23 ?_
        refine ig_goto (tgt := 33) hx hb d_RM_swapText_24 (by decide) ?_
        refine ig_lv (lv' := [(0, .ref o0), (1, .int (bI d)), (2, .int (nI b))]) [0, 1, 2] rfl ?_
        exact j33 _ _ _ _ _ hv
  have hv := t_RM_swapText tA tX tB d K2 k2
  unfold v_RM_swapText at hv
  refine ig_iconst (v := 0) hx hb d_RM_swapText_0 (by decide) ?_
  refine ig_istore_n (lv' := [(2, .int 0), (0, .ref o0), (1, .int (bI d))]) hx hb d_RM_swapText_1 rfl (by decide) rfl ?_
  refine ig_lv (lv' := [(0, .ref o0), (1, .int (bI d)), (2, .int 0)]) [1, 2, 0] rfl ?_
  rw [hK2] at hv
  exact hv
theorem d_RM_isPath_0 : decode b_RM_isPath 0 = .ok (.aload_n 0, 1) := by decide +kernel
theorem d_RM_isPath_1 : decode b_RM_isPath 1 = .ok (.getfield 60, 3) := by decide +kernel
theorem d_RM_isPath_4 : decode b_RM_isPath 4 = .ok (.iconst 1, 1) := by decide +kernel
theorem d_RM_isPath_5 : decode b_RM_isPath 5 = .ok (.if_icmp .lt 12, 3) := by decide +kernel
theorem d_RM_isPath_8 : decode b_RM_isPath 8 = .ok (.aload_n 0, 1) := by decide +kernel
theorem d_RM_isPath_9 : decode b_RM_isPath 9 = .ok (.getfield 60, 3) := by decide +kernel
theorem d_RM_isPath_12 : decode b_RM_isPath 12 = .ok (.bipush 120, 2) := by decide +kernel
theorem d_RM_isPath_14 : decode b_RM_isPath 14 = .ok (.if_icmp .le 5, 3) := by decide +kernel
theorem d_RM_isPath_17 : decode b_RM_isPath 17 = .ok (.iconst 0, 1) := by decide +kernel
theorem d_RM_isPath_18 : decode b_RM_isPath 18 = .ok (.ireturn, 1) := by decide +kernel
theorem d_RM_isPath_19 : decode b_RM_isPath 19 = .ok (.iconst 1, 1) := by decide +kernel
theorem d_RM_isPath_20 : decode b_RM_isPath 20 = .ok (.istore_n 1, 1) := by decide +kernel
theorem d_RM_isPath_21 : decode b_RM_isPath 21 = .ok (.iconst 0, 1) := by decide +kernel
theorem d_RM_isPath_22 : decode b_RM_isPath 22 = .ok (.istore_n 2, 1) := by decide +kernel
theorem d_RM_isPath_23 : decode b_RM_isPath 23 = .ok (.iconst 0, 1) := by decide +kernel
theorem d_RM_isPath_24 : decode b_RM_isPath 24 = .ok (.istore_n 3, 1) := by decide +kernel
theorem d_RM_isPath_25 : decode b_RM_isPath 25 = .ok (.iload_n 3, 1) := by decide +kernel
theorem d_RM_isPath_26 : decode b_RM_isPath 26 = .ok (.aload_n 0, 1) := by decide +kernel
theorem d_RM_isPath_27 : decode b_RM_isPath 27 = .ok (.getfield 60, 3) := by decide +kernel
theorem d_RM_isPath_30 : decode b_RM_isPath 30 = .ok (.if_icmp .ge 75, 3) := by decide +kernel
theorem d_RM_isPath_33 : decode b_RM_isPath 33 = .ok (.aload_n 0, 1) := by decide +kernel
theorem d_RM_isPath_34 : decode b_RM_isPath 34 = .ok (.getfield 7, 3) := by decide +kernel
theorem d_RM_isPath_37 : decode b_RM_isPath 37 = .ok (.iload_n 3, 1) := by decide +kernel
theorem d_RM_isPath_38 : decode b_RM_isPath 38 = .ok (.iaload, 1) := by decide +kernel
theorem d_RM_isPath_39 : decode b_RM_isPath 39 = .ok (.bipush 10, 2) := by decide +kernel
theorem d_RM_isPath_41 : decode b_RM_isPath 41 = .ok (.if_icmp .eq 18, 3) := by decide +kernel
theorem d_RM_isPath_44 : decode b_RM_isPath 44 = .ok (.aload_n 0, 1) := by decide +kernel
theorem d_RM_isPath_45 : decode b_RM_isPath 45 = .ok (.getfield 7, 3) := by decide +kernel
theorem d_RM_isPath_48 : decode b_RM_isPath 48 = .ok (.iload_n 3, 1) := by decide +kernel
theorem d_RM_isPath_49 : decode b_RM_isPath 49 = .ok (.iaload, 1) := by decide +kernel
theorem d_RM_isPath_50 : decode b_RM_isPath 50 = .ok (.bipush 47, 2) := by decide +kernel
theorem d_RM_isPath_52 : decode b_RM_isPath 52 = .ok (.if_icmp .ne 9, 3) := by decide +kernel
theorem d_RM_isPath_55 : decode b_RM_isPath 55 = .ok (.iload_n 2, 1) := by decide +kernel
theorem d_RM_isPath_56 : decode b_RM_isPath 56 = .ok (.ifCond .ne 5, 3) := by decide +kernel
theorem d_RM_isPath_59 : decode b_RM_isPath 59 = .ok (.iconst 0, 1) := by decide +kernel
theorem d_RM_isPath_60 : decode b_RM_isPath 60 = .ok (.ireturn, 1) := by decide +kernel
theorem d_RM_isPath_61 : decode b_RM_isPath 61 = .ok (.aload_n 0, 1) := by decide +kernel
theorem d_RM_isPath_62 : decode b_RM_isPath 62 = .ok (.getfield 7, 3) := by decide +kernel
theorem d_RM_isPath_65 : decode b_RM_isPath 65 = .ok (.iload_n 3, 1) := by decide +kernel
theorem d_RM_isPath_66 : decode b_RM_isPath 66 = .ok (.iaload, 1) := by decide +kernel
theorem d_RM_isPath_67 : decode b_RM_isPath 67 = .ok (.bipush 47, 2) := by decide +kernel
theorem d_RM_isPath_69 : decode b_RM_isPath 69 = .ok (.if_icmp .ne 9, 3) := by decide +kernel
theorem d_RM_isPath_72 : decode b_RM_isPath 72 = .ok (.iload_n 1, 1) := by decide +kernel
theorem d_RM_isPath_73 : decode b_RM_isPath 73 = .ok (.iconst 1, 1) := by decide +kernel
theorem d_RM_isPath_74 : decode b_RM_isPath 74 = .ok (.iadd, 1) := by decide +kernel
theorem d_RM_isPath_75 : decode b_RM_isPath 75 = .ok (.goto 4, 3) := by decide +kernel
theorem d_RM_isPath_78 : decode b_RM_isPath 78 = .ok (.iload_n 1, 1) := by decide +kernel
theorem d_RM_isPath_79 : decode b_RM_isPath 79 = .ok (.istore_n 1, 1) := by decide +kernel
theorem d_RM_isPath_80 : decode b_RM_isPath 80 = .ok (.aload_n 0, 1) := by decide +kernel
theorem d_RM_isPath_81 : decode b_RM_isPath 81 = .ok (.getfield 7, 3) := by decide +kernel
theorem d_RM_isPath_84 : decode b_RM_isPath 84 = .ok (.iload_n 3, 1) := by decide +kernel
theorem d_RM_isPath_85 : decode b_RM_isPath 85 = .ok (.iaload, 1) := by decide +kernel
theorem d_RM_isPath_86 : decode b_RM_isPath 86 = .ok (.bipush 47, 2) := by decide +kernel
theorem d_RM_isPath_88 : decode b_RM_isPath 88 = .ok (.if_icmp .ne 7, 3) := by decide +kernel
theorem d_RM_isPath_91 : decode b_RM_isPath 91 = .ok (.iconst 0, 1) := by decide +kernel
theorem d_RM_isPath_92 : decode b_RM_isPath 92 = .ok (.goto 6, 3) := by decide +kernel
theorem d_RM_isPath_95 : decode b_RM_isPath 95 = .ok (.iload_n 2, 1) := by decide +kernel
theorem d_RM_isPath_96 : decode b_RM_isPath 96 = .ok (.iconst 1, 1) := by decide +kernel
theorem d_RM_isPath_97 : decode b_RM_isPath 97 = .ok (.iadd, 1) := by decide +kernel
theorem d_RM_isPath_98 : decode b_RM_isPath 98 = .ok (.istore_n 2, 1) := by decide +kernel
theorem d_RM_isPath_99 : decode b_RM_isPath 99 = .ok (.iinc 3 1, 3) := by decide +kernel
theorem d_RM_isPath_102 : decode b_RM_isPath 102 = .ok (.goto (-77), 3) := by decide +kernel
theorem d_RM_isPath_105 : decode b_RM_isPath 105 = .ok (.iload_n 2, 1) := by decide +kernel
theorem d_RM_isPath_106 : decode b_RM_isPath 106 = .ok (.ifCond .le 13, 3) := by decide +kernel
theorem d_RM_isPath_109 : decode b_RM_isPath 109 = .ok (.iload_n 1, 1) := by decide +kernel
theorem d_RM_isPath_110 : decode b_RM_isPath 110 = .ok (.bipush 20, 2) := by decide +kernel
theorem d_RM_isPath_112 : decode b_RM_isPath 112 = .ok (.if_icmp .gt 7, 3) := by decide +kernel
theorem d_RM_isPath_115 : decode b_RM_isPath 115 = .ok (.iconst 1, 1) := by decide +kernel
theorem d_RM_isPath_116 : decode b_RM_isPath 116 = .ok (.goto 4, 3) := by decide +kernel
theorem d_RM_isPath_119 : decode b_RM_isPath 119 = .ok (.iconst 0, 1) := by decide +kernel
theorem d_RM_isPath_120 : decode b_RM_isPath 120 = .ok (.ireturn, 1) := by decide +kernel
abbrev w_RM_isPath : List Cond := Cond.code y_RM_isPath b_RM_isPath 4 (some .boolean) :: ig_T
theorem g_RM_isPath : GoodIn ig_T w_RM_isPath := ig_T_good (ig_T_mem (List.mem_append_right _ (List.mem_append_right _ (List.mem_of_getElem? (i := 68) rfl))) rfl)
set_option maxHeartbeats 4000000 in
set_option maxRecDepth 100000 in
theorem c_RM_isPath (l : Launch) (dC : Nat → ClassId) (dI : Nat → Nat → Nat) (cC cI cZ cL : ClassId) (o0 ra rx rf rt rb rl rp ru_ rv rr rs rg rh rz ry : Nat) (th : Int32) (ru : Int32) (na : Int32) (nx : Int32) (so : Int32) (pa : Int32) (bz : Int32) (de : Int32) (dp : Int32) (io : Int32) (si : Nat) (tA : Nat → Int32) (sz : Nat) (hr : r_RM_isPath si tA) : Met l y_RM_isPath w_RM_isPath ({ frames := 0, cells := 0, slots := 0, locals := 0 }) (ig_Pc (dC, dI) ig_cl0 [(cC, .char), (cI, .int), (cZ, .boolean), (cL, .long)] [.ref o0] [(o0, .inr (ciRM, [.int th, .ref ra, .int (nI si), .ref rx, .ref rf, .ref rt, .ref rb, .ref rl, .int ru, .ref rp, .ref ru_, .ref rv, .int na, .int nx, .int so, .ref rr, .ref rs, .ref rg, .ref rh, .int pa, .ref rz, .ref ry, .int bz, .int de, .int dp, .int io])), (ra, .inl (cI, 1000, .inl tA))] sz) (va_Qi (fun (r : Int32) (u : Unit) => ∃ zr : Bool, r = bI zr ∧ p_RM_isPath si tA zr ) (fun u t => va_P (dC, dI) ig_cl0 ((fun (u : Unit) => [(o0, .inr (ciRM, [.int th, .ref ra, .int (nI si), .ref rx, .ref rf, .ref rt, .ref rb, .ref rl, .int ru, .ref rp, .ref ru_, .ref rv, .int na, .int nx, .int so, .ref rr, .ref rs, .ref rg, .ref rh, .int pa, .ref rz, .ref ry, .int bz, .int de, .int dp, .int io])), (ra, .inl (cI, 1000, .inl tA))]) u) t.heap ∧ va_D (va_A [(o0, .inr (ciRM, [.int th, .ref ra, .int (nI si), .ref rx, .ref rf, .ref rt, .ref rb, .ref rl, .int ru, .ref rp, .ref ru_, .ref rv, .int na, .int nx, .int so, .ref rr, .ref rs, .ref rg, .ref rh, .int pa, .ref rz, .ref ry, .int bz, .int de, .int dp, .int io])), (ra, .inl (cI, 1000, .inl tA))] sz) ((fun (u : Unit) => [(o0, .inr (ciRM, [.int th, .ref ra, .int (nI si), .ref rx, .ref rf, .ref rt, .ref rb, .ref rl, .int ru, .ref rp, .ref ru_, .ref rv, .int na, .int nx, .int so, .ref rr, .ref rs, .ref rg, .ref rh, .int pa, .ref rz, .ref ry, .int bz, .int de, .int dp, .int io])), (ra, .inl (cI, 1000, .inl tA))]) u)) (va_A [(o0, .inr (ciRM, [.int th, .ref ra, .int (nI si), .ref rx, .ref rf, .ref rt, .ref rb, .ref rl, .int ru, .ref rp, .ref ru_, .ref rv, .int na, .int nx, .int so, .ref rr, .ref rs, .ref rg, .ref rh, .int pa, .ref rz, .ref ry, .int bz, .int de, .int dp, .int io])), (ra, .inl (cI, 1000, .inl tA))] sz)) 0 0 (va_A [(o0, .inr (ciRM, [.int th, .ref ra, .int (nI si), .ref rx, .ref rf, .ref rt, .ref rb, .ref rl, .int ru, .ref rp, .ref ru_, .ref rv, .int na, .int nx, .int so, .ref rr, .ref rs, .ref rg, .ref rh, .int pa, .ref rz, .ref ry, .int bz, .int de, .int dp, .int io])), (ra, .inl (cI, 1000, .inl tA))] sz) := by
  refine ig_metI (fun (r : Int32) (u : Unit) => ∃ zr : Bool, r = bI zr ∧ p_RM_isPath si tA zr ) (fun (u : Unit) => [(o0, .inr (ciRM, [.int th, .ref ra, .int (nI si), .ref rx, .ref rf, .ref rt, .ref rb, .ref rl, .int ru, .ref rp, .ref ru_, .ref rv, .int na, .int nx, .int so, .ref rr, .ref rs, .ref rg, .ref rh, .int pa, .ref rz, .ref ry, .int bz, .int de, .int dp, .int io])), (ra, .inl (cI, 1000, .inl tA))]) (by decide) rfl (Nat.le_of_ble_eq_true rfl) rfl (by rintro r u ⟨b, rfl, -⟩; exact bI_ret b) ?_
  intro zp ze zs zm zargs zbelow zmeth zc zA zQ hx hb hml hown hts hK hN hA hret
  obtain ⟨K25, hK25⟩ : ∃ K : Nat → Nat → Nat → Prop, K = fun (m : Nat) (le : Nat) (b : Nat) => ig_W zp l ze ({ frames := 0, cells := 0, slots := 0, locals := 0 }) zs zm zargs zbelow zmeth zc (dC, dI) ig_cl0 zA zs.heap 4 0 0 zQ 25 [(0, .ref o0), (1, .int (nI m)), (2, .int (nI le)), (3, .int (nI b))] [] [(o0, .inr (ciRM, [.int th, .ref ra, .int (nI si), .ref rx, .ref rf, .ref rt, .ref rb, .ref rl, .int ru, .ref rp, .ref ru_, .ref rv, .int na, .int nx, .int so, .ref rr, .ref rs, .ref rg, .ref rh, .int pa, .ref rz, .ref ry, .int bz, .int de, .int dp, .int io])), (ra, .inl (cI, 1000, .inl tA))] := ⟨_, rfl⟩
  have j79 : ∀ (le : Nat) (b : Nat) (s0 : Nat), v_RM_isPath_79 si tA K25 (p_RM_isPath si tA) le b s0 → ig_W zp l ze ({ frames := 0, cells := 0, slots := 0, locals := 0 }) zs zm zargs zbelow zmeth zc (dC, dI) ig_cl0 zA zs.heap 4 0 0 zQ 79 [(0, .ref o0), (2, .int (nI le)), (3, .int (nI b))] [.int (nI s0)] [(o0, .inr (ciRM, [.int th, .ref ra, .int (nI si), .ref rx, .ref rf, .ref rt, .ref rb, .ref rl, .int ru, .ref rp, .ref ru_, .ref rv, .int na, .int nx, .int so, .ref rr, .ref rs, .ref rg, .ref rh, .int pa, .ref rz, .ref ry, .int bz, .int de, .int dp, .int io])), (ra, .inl (cI, 1000, .inl tA))] := by
    intro le b s0 hv
    unfold v_RM_isPath_79 at hv
    refine ig_istore_n (lv' := [(1, .int (nI s0)), (0, .ref o0), (2, .int (nI le)), (3, .int (nI b))]) hx hb d_RM_isPath_79 rfl (by decide) rfl ?_
    refine ig_aload_n hx hb 1 d_RM_isPath_80 rfl rfl ?_
    refine ig_get hx hb hts in_RM hown hK 0 rfl rfl 1 (by decide) (hts _ kw_1_146) (fun _ h => h) rfl d_RM_isPath_81 ?_
    refine ig_iload_n hx hb 3 d_RM_isPath_84 rfl rfl ?_
    obtain ⟨hc, hv⟩ := hv
    refine ig_iald (x := (tA b)) hx hb hK 1 1 rfl rfl b rfl hc (by decide) rfl d_RM_isPath_85 ?_
    refine ig_bipush (v := 47) hx hb d_RM_isPath_86 (by decide) ?_
    refine ig_icmp_ne (tgt := 95) hx hb d_RM_isPath_88 (by decide) (fun h => ?_) (fun h => ?_)
    · have hv := hv.1 h
      refine ig_iload_n hx hb 2 d_RM_isPath_95 rfl rfl ?_
      refine ig_iconst (v := 1) hx hb d_RM_isPath_96 (by decide) ?_
      refine ig_iaddN hx hb le 1 rfl rfl d_RM_isPath_97 ?_
      refine ig_istore_n (lv' := [(2, .int (nI (le + 1))), (1, .int (nI s0)), (0, .ref o0), (3, .int (nI b))]) hx hb d_RM_isPath_98 rfl (by decide) rfl ?_
      refine ig_iinc (v := (nI (b + 1))) (lv' := [(3, .int (nI (b + 1))), (2, .int (nI (le + 1))), (1, .int (nI s0)), (0, .ref o0)]) hx hb 3 d_RM_isPath_99 rfl (ig_inc b 1 (by decide)) (by decide) rfl ?_
      refine ig_goto (tgt := 25) hx hb d_RM_isPath_102 (by decide) ?_
      refine ig_lv (lv' := [(0, .ref o0), (1, .int (nI s0)), (2, .int (nI (le + 1))), (3, .int (nI (b + 1)))]) [3, 2, 1, 0] rfl ?_
      rw [hK25] at hv
      exact hv
    · have hv := hv.2 h
      refine ig_iconst (v := 0) hx hb d_RM_isPath_91 (by decide) ?_
      refine ig_goto (tgt := 98) hx hb d_RM_isPath_92 (by decide) ?_
      refine ig_istore_n (lv' := [(2, .int 0), (1, .int (nI s0)), (0, .ref o0), (3, .int (nI b))]) hx hb d_RM_isPath_98 rfl (by decide) rfl ?_
      refine ig_iinc (v := (nI (b + 1))) (lv' := [(3, .int (nI (b + 1))), (2, .int 0), (1, .int (nI s0)), (0, .ref o0)]) hx hb 3 d_RM_isPath_99 rfl (ig_inc b 1 (by decide)) (by decide) rfl ?_
      refine ig_goto (tgt := 25) hx hb d_RM_isPath_102 (by decide) ?_
      refine ig_lv (lv' := [(0, .ref o0), (1, .int (nI s0)), (2, .int 0), (3, .int (nI (b + 1)))]) [3, 2, 1, 0] rfl ?_
      rw [hK25] at hv
      exact hv
  have j61 : ∀ (m : Nat) (le : Nat) (b : Nat), v_RM_isPath_61 si tA K25 (p_RM_isPath si tA) m le b → ig_W zp l ze ({ frames := 0, cells := 0, slots := 0, locals := 0 }) zs zm zargs zbelow zmeth zc (dC, dI) ig_cl0 zA zs.heap 4 0 0 zQ 61 [(0, .ref o0), (1, .int (nI m)), (2, .int (nI le)), (3, .int (nI b))] [] [(o0, .inr (ciRM, [.int th, .ref ra, .int (nI si), .ref rx, .ref rf, .ref rt, .ref rb, .ref rl, .int ru, .ref rp, .ref ru_, .ref rv, .int na, .int nx, .int so, .ref rr, .ref rs, .ref rg, .ref rh, .int pa, .ref rz, .ref ry, .int bz, .int de, .int dp, .int io])), (ra, .inl (cI, 1000, .inl tA))] := by
    intro m le b hv
    unfold v_RM_isPath_61 at hv
    refine ig_aload_n hx hb 0 d_RM_isPath_61 rfl rfl ?_
    refine ig_get hx hb hts in_RM hown hK 0 rfl rfl 1 (by decide) (hts _ kw_1_146) (fun _ h => h) rfl d_RM_isPath_62 ?_
    refine ig_iload_n hx hb 3 d_RM_isPath_65 rfl rfl ?_
    obtain ⟨hc, hv⟩ := hv
    refine ig_iald (x := (tA b)) hx hb hK 1 1 rfl rfl b rfl hc (by decide) rfl d_RM_isPath_66 ?_
    refine ig_bipush (v := 47) hx hb d_RM_isPath_67 (by decide) ?_
    refine ig_icmp_ne (tgt := 78) hx hb d_RM_isPath_69 (by decide) (fun h => ?_) (fun h => ?_)
    · have hv := hv.1 h
      refine ig_iload_n hx hb 1 d_RM_isPath_78 rfl rfl ?_
      refine ig_lv (lv' := [(0, .ref o0), (2, .int (nI le)), (3, .int (nI b))]) [0, 2, 3] rfl ?_
      exact j79 _ _ _ hv
    · have hv := hv.2 h
      refine ig_iload_n hx hb 1 d_RM_isPath_72 rfl rfl ?_
      refine ig_iconst (v := 1) hx hb d_RM_isPath_73 (by decide) ?_
      refine ig_iaddN hx hb m 1 rfl rfl d_RM_isPath_74 ?_
      refine ig_goto (tgt := 79) hx hb d_RM_isPath_75 (by decide) ?_
      refine ig_lv (lv' := [(0, .ref o0), (2, .int (nI le)), (3, .int (nI b))]) [0, 2, 3] rfl ?_
      exact j79 _ _ _ hv
  have k25 : ∀ (m : Nat) (le : Nat) (b : Nat), v_RM_isPath_25 si tA K25 (p_RM_isPath si tA) m le b → K25 m le b := by
    intro m le b hv
    unfold v_RM_isPath_25 at hv
    rw [hK25]
    show ig_W zp l ze ({ frames := 0, cells := 0, slots := 0, locals := 0 }) zs zm zargs zbelow zmeth zc (dC, dI) ig_cl0 zA zs.heap 4 0 0 zQ 25 [(0, .ref o0), (1, .int (nI m)), (2, .int (nI le)), (3, .int (nI b))] [] [(o0, .inr (ciRM, [.int th, .ref ra, .int (nI si), .ref rx, .ref rf, .ref rt, .ref rb, .ref rl, .int ru, .ref rp, .ref ru_, .ref rv, .int na, .int nx, .int so, .ref rr, .ref rs, .ref rg, .ref rh, .int pa, .ref rz, .ref ry, .int bz, .int de, .int dp, .int io])), (ra, .inl (cI, 1000, .inl tA))]
    refine ig_iload_n hx hb 3 d_RM_isPath_25 rfl rfl ?_
    refine ig_aload_n hx hb 0 d_RM_isPath_26 rfl rfl ?_
    refine ig_get hx hb hts in_RM hown hK 0 rfl rfl 2 (by decide) (hts _ kw_1_147) (fun _ h => h) rfl d_RM_isPath_27 ?_
    obtain ⟨h1, hv⟩ := hv
    obtain ⟨h2, hv⟩ := hv
    refine ig_icmp_geN (tgt := 105) hx hb b si rfl rfl d_RM_isPath_30 (by decide) h1 h2 (fun h => ?_) (fun h => ?_)
    · have hv := hv.1 h
      refine ig_iload_n hx hb 2 d_RM_isPath_105 rfl rfl ?_
      obtain ⟨h1, hv⟩ := hv
      refine ig_if_leN (tgt := 119) hx hb le rfl d_RM_isPath_106 (by decide) h1 (fun h => ?_) (fun h => ?_)
      · have hv := hv.1 h
        refine ig_iconst (v := 0) hx hb d_RM_isPath_119 (by decide) ?_
        exact hret 120 _ 0 () d_RM_isPath_120 ⟨false, rfl, hv⟩
      · have hv := hv.2 h
        refine ig_iload_n hx hb 1 d_RM_isPath_109 rfl rfl ?_
        refine ig_bipush (v := 20) hx hb d_RM_isPath_110 (by decide) ?_
        obtain ⟨h1, hv⟩ := hv
        refine ig_icmp_gtN (tgt := 119) hx hb m 20 rfl rfl d_RM_isPath_112 (by decide) h1 (by decide) (fun h => ?_) (fun h => ?_)
        · have hv := hv.1 h
          refine ig_iconst (v := 0) hx hb d_RM_isPath_119 (by decide) ?_
          exact hret 120 _ 0 () d_RM_isPath_120 ⟨false, rfl, hv⟩
        · have hv := hv.2 h
          refine ig_iconst (v := 1) hx hb d_RM_isPath_115 (by decide) ?_
          refine ig_goto (tgt := 120) hx hb d_RM_isPath_116 (by decide) ?_
          exact hret 120 _ 1 () d_RM_isPath_120 ⟨true, rfl, hv⟩
    · have hv := hv.2 h
      refine ig_aload_n hx hb 0 d_RM_isPath_33 rfl rfl ?_
      refine ig_get hx hb hts in_RM hown hK 0 rfl rfl 1 (by decide) (hts _ kw_1_146) (fun _ h => h) rfl d_RM_isPath_34 ?_
      refine ig_iload_n hx hb 3 d_RM_isPath_37 rfl rfl ?_
      obtain ⟨hc, hv⟩ := hv
      refine ig_iald (x := (tA b)) hx hb hK 1 1 rfl rfl b rfl hc (by decide) rfl d_RM_isPath_38 ?_
      refine ig_bipush (v := 10) hx hb d_RM_isPath_39 (by decide) ?_
      refine ig_icmp_eq (tgt := 59) hx hb d_RM_isPath_41 (by decide) (fun h => ?_) (fun h => ?_)
      · have hv := hv.1 h
        refine ig_iconst (v := 0) hx hb d_RM_isPath_59 (by decide) ?_
        exact hret 60 _ 0 () d_RM_isPath_60 ⟨false, rfl, hv⟩
      · have hv := hv.2 h
        refine ig_aload_n hx hb 0 d_RM_isPath_44 rfl rfl ?_
        refine ig_get hx hb hts in_RM hown hK 0 rfl rfl 1 (by decide) (hts _ kw_1_146) (fun _ h => h) rfl d_RM_isPath_45 ?_
        refine ig_iload_n hx hb 3 d_RM_isPath_48 rfl rfl ?_
        obtain ⟨hc, hv⟩ := hv
        refine ig_iald (x := (tA b)) hx hb hK 1 1 rfl rfl b rfl hc (by decide) rfl d_RM_isPath_49 ?_
        refine ig_bipush (v := 47) hx hb d_RM_isPath_50 (by decide) ?_
        refine ig_icmp_ne (tgt := 61) hx hb d_RM_isPath_52 (by decide) (fun h => ?_) (fun h => ?_)
        · have hv := hv.1 h
          refine ig_lv (lv' := [(0, .ref o0), (1, .int (nI m)), (2, .int (nI le)), (3, .int (nI b))]) [0, 1, 2, 3] rfl ?_
          exact j61 _ _ _ hv
        · have hv := hv.2 h
          refine ig_iload_n hx hb 2 d_RM_isPath_55 rfl rfl ?_
          obtain ⟨h1, hv⟩ := hv
          refine ig_if_neN (tgt := 61) hx hb le rfl d_RM_isPath_56 (by decide) h1 (fun h => ?_) (fun h => ?_)
          · have hv := hv.1 h
            refine ig_lv (lv' := [(0, .ref o0), (1, .int (nI m)), (2, .int (nI le)), (3, .int (nI b))]) [0, 1, 2, 3] rfl ?_
            exact j61 _ _ _ hv
          · have hv := hv.2 h
            refine ig_iconst (v := 0) hx hb d_RM_isPath_59 (by decide) ?_
            exact hret 60 _ 0 () d_RM_isPath_60 ⟨false, rfl, hv⟩
  have hv := t_RM_isPath si tA hr K25 k25
  unfold v_RM_isPath at hv
  refine ig_aload_n hx hb 0 d_RM_isPath_0 rfl rfl ?_
  refine ig_get hx hb hts in_RM hown hK 0 rfl rfl 2 (by decide) (hts _ kw_1_147) (fun _ h => h) rfl d_RM_isPath_1 ?_
  refine ig_iconst (v := 1) hx hb d_RM_isPath_4 (by decide) ?_
  obtain ⟨h1, hv⟩ := hv
  refine ig_icmp_ltN (tgt := 17) hx hb si 1 rfl rfl d_RM_isPath_5 (by decide) h1 (by decide) (fun h => ?_) (fun h => ?_)
  · have hv := hv.1 h
    refine ig_iconst (v := 0) hx hb d_RM_isPath_17 (by decide) ?_
    exact hret 18 _ 0 () d_RM_isPath_18 ⟨false, rfl, hv⟩
  · have hv := hv.2 h
    refine ig_aload_n hx hb 0 d_RM_isPath_8 rfl rfl ?_
    refine ig_get hx hb hts in_RM hown hK 0 rfl rfl 2 (by decide) (hts _ kw_1_147) (fun _ h => h) rfl d_RM_isPath_9 ?_
    refine ig_bipush (v := 120) hx hb d_RM_isPath_12 (by decide) ?_
    obtain ⟨h1, hv⟩ := hv
    refine ig_icmp_leN (tgt := 19) hx hb si 120 rfl rfl d_RM_isPath_14 (by decide) h1 (by decide) (fun h => ?_) (fun h => ?_)
    · have hv := hv.1 h
      refine ig_iconst (v := 1) hx hb d_RM_isPath_19 (by decide) ?_
      refine ig_istore_n (lv' := [(1, .int 1), (0, .ref o0)]) hx hb d_RM_isPath_20 rfl (by decide) rfl ?_
      refine ig_iconst (v := 0) hx hb d_RM_isPath_21 (by decide) ?_
      refine ig_istore_n (lv' := [(2, .int 0), (1, .int 1), (0, .ref o0)]) hx hb d_RM_isPath_22 rfl (by decide) rfl ?_
      refine ig_iconst (v := 0) hx hb d_RM_isPath_23 (by decide) ?_
      refine ig_istore_n (lv' := [(3, .int 0), (2, .int 0), (1, .int 1), (0, .ref o0)]) hx hb d_RM_isPath_24 rfl (by decide) rfl ?_
      refine ig_lv (lv' := [(0, .ref o0), (1, .int 1), (2, .int 0), (3, .int 0)]) [3, 2, 1, 0] rfl ?_
      rw [hK25] at hv
      exact hv
    · have hv := hv.2 h
      refine ig_iconst (v := 0) hx hb d_RM_isPath_17 (by decide) ?_
      exact hret 18 _ 0 () d_RM_isPath_18 ⟨false, rfl, hv⟩
