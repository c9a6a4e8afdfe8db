theorem kw_1_157 : Cond.fieldLink "IgnoreRulesModel" 135 "IgnoreRulesModel" "names" "I" ∈ ig_T := ig_T_mem (List.mem_append_right _ (List.mem_append_left _ (List.mem_of_getElem? (i := 157) rfl))) rfl
theorem kw_1_167 : Cond.fieldLink "IgnoreRulesModel" 128 "IgnoreRulesModel" "beforeSize" "I" ∈ ig_T := ig_T_mem (List.mem_append_right _ (List.mem_append_left _ (List.mem_of_getElem? (i := 167) rfl))) rfl
theorem kw_1_168 : Cond.fieldLink "IgnoreRulesModel" 175 "IgnoreRulesModel" "deciding" "I" ∈ ig_T := ig_T_mem (List.mem_append_right _ (List.mem_append_left _ (List.mem_of_getElem? (i := 168) rfl))) rfl
theorem kw_1_169 : Cond.fieldLink "IgnoreRulesModel" 168 "IgnoreRulesModel" "depth" "I" ∈ ig_T := ig_T_mem (List.mem_append_right _ (List.mem_append_left _ (List.mem_of_getElem? (i := 169) rfl))) rfl
theorem kw_1_170 : Cond.fieldLink "IgnoreRulesModel" 164 "IgnoreRulesModel" "isOut" "Z" ∈ ig_T := ig_T_mem (List.mem_append_right _ (List.mem_append_left _ (List.mem_of_getElem? (i := 170) rfl))) rfl
theorem kw_2_1 : Cond.methodLink "IgnoreRulesModel" 120 y_RM_swapText ∈ ig_T := ig_T_mem (List.mem_append_right _ (List.mem_append_right _ (List.mem_of_getElem? (i := 1) rfl))) rfl
theorem kw_2_3 : Cond.instanceMethod y_RM_swapText ∈ ig_T := ig_T_mem (List.mem_append_right _ (List.mem_append_right _ (List.mem_of_getElem? (i := 3) rfl))) rfl
theorem kw_2_5 : Cond.methodLink "IgnoreRulesModel" 124 y_RM_tryLines ∈ ig_T := ig_T_mem (List.mem_append_right _ (List.mem_append_right _ (List.mem_of_getElem? (i := 5) rfl))) rfl
theorem kw_2_7 : Cond.instanceMethod y_RM_tryLines ∈ ig_T := ig_T_mem (List.mem_append_right _ (List.mem_append_right _ (List.mem_of_getElem? (i := 7) rfl))) rfl
theorem kw_2_65 : Cond.methodLink "IgnoreRulesModel" 138 y_RM_isPath ∈ ig_T := ig_T_mem (List.mem_append_right _ (List.mem_append_right _ (List.mem_of_getElem? (i := 65) rfl))) rfl
theorem kw_2_67 : Cond.instanceMethod y_RM_isPath ∈ ig_T := ig_T_mem (List.mem_append_right _ (List.mem_append_right _ (List.mem_of_getElem? (i := 67) rfl))) rfl
theorem kw_2_113 : Cond.methodLink "IgnoreRulesModel" 171 y_RM_last ∈ ig_T := ig_T_mem (List.mem_append_right _ (List.mem_append_right _ (List.mem_of_getElem? (i := 113) rfl))) rfl
theorem kw_2_115 : Cond.instanceMethod y_RM_last ∈ ig_T := ig_T_mem (List.mem_append_right _ (List.mem_append_right _ (List.mem_of_getElem? (i := 115) rfl))) rfl
theorem d_RM_read_0 : decode b_RM_read 0 = .ok (.aload_n 0, 1) := by decide +kernel
theorem d_RM_read_1 : decode b_RM_read 1 = .ok (.iconst 0, 1) := by decide +kernel
theorem d_RM_read_2 : decode b_RM_read 2 = .ok (.putfield 56, 3) := by decide +kernel
theorem d_RM_read_5 : decode b_RM_read 5 = .ok (.aload_n 0, 1) := by decide +kernel
theorem d_RM_read_6 : decode b_RM_read 6 = .ok (.iconst 0, 1) := by decide +kernel
theorem d_RM_read_7 : decode b_RM_read 7 = .ok (.invokevirtual 120, 3) := by decide +kernel
theorem d_RM_read_10 : decode b_RM_read 10 = .ok (.aload_n 0, 1) := by decide +kernel
theorem d_RM_read_11 : decode b_RM_read 11 = .ok (.invokevirtual 124, 3) := by decide +kernel
theorem d_RM_read_14 : decode b_RM_read 14 = .ok (.bipush 60, 2) := by decide +kernel
theorem d_RM_read_16 : decode b_RM_read 16 = .ok (.if_icmp .le 33, 3) := by decide +kernel
theorem d_RM_read_19 : decode b_RM_read 19 = .ok (.aload_n 0, 1) := by decide +kernel
theorem d_RM_read_20 : decode b_RM_read 20 = .ok (.iconst 1, 1) := by decide +kernel
theorem d_RM_read_21 : decode b_RM_read 21 = .ok (.invokevirtual 120, 3) := by decide +kernel
theorem d_RM_read_24 : decode b_RM_read 24 = .ok (.aload_n 0, 1) := by decide +kernel
theorem d_RM_read_25 : decode b_RM_read 25 = .ok (.getfield 60, 3) := by decide +kernel
theorem d_RM_read_28 : decode b_RM_read 28 = .ok (.istore_n 1, 1) := by decide +kernel
theorem d_RM_read_29 : decode b_RM_read 29 = .ok (.aload_n 0, 1) := by decide +kernel
theorem d_RM_read_30 : decode b_RM_read 30 = .ok (.aload_n 0, 1) := by decide +kernel
theorem d_RM_read_31 : decode b_RM_read 31 = .ok (.getfield 128, 3) := by decide +kernel
theorem d_RM_read_34 : decode b_RM_read 34 = .ok (.putfield 60, 3) := by decide +kernel
theorem d_RM_read_37 : decode b_RM_read 37 = .ok (.aload_n 0, 1) := by decide +kernel
theorem d_RM_read_38 : decode b_RM_read 38 = .ok (.invokevirtual 124, 3) := by decide +kernel
theorem d_RM_read_41 : decode b_RM_read 41 = .ok (.istore_n 2, 1) := by decide +kernel
theorem d_RM_read_42 : decode b_RM_read 42 = .ok (.aload_n 0, 1) := by decide +kernel
theorem d_RM_read_43 : decode b_RM_read 43 = .ok (.iload_n 1, 1) := by decide +kernel
theorem d_RM_read_44 : decode b_RM_read 44 = .ok (.putfield 60, 3) := by decide +kernel
theorem d_RM_read_47 : decode b_RM_read 47 = .ok (.iconst (-1), 1) := by decide +kernel
theorem d_RM_read_48 : decode b_RM_read 48 = .ok (.ireturn, 1) := by decide +kernel
theorem d_RM_read_49 : decode b_RM_read 49 = .ok (.aload_n 0, 1) := by decide +kernel
theorem d_RM_read_50 : decode b_RM_read 50 = .ok (.aload_n 0, 1) := by decide +kernel
theorem d_RM_read_51 : decode b_RM_read 51 = .ok (.getfield 60, 3) := by decide +kernel
theorem d_RM_read_54 : decode b_RM_read 54 = .ok (.putfield 128, 3) := by decide +kernel
theorem d_RM_read_57 : decode b_RM_read 57 = .ok (.aload_n 0, 1) := by decide +kernel
theorem d_RM_read_58 : decode b_RM_read 58 = .ok (.iconst 0, 1) := by decide +kernel
theorem d_RM_read_59 : decode b_RM_read 59 = .ok (.putfield 60, 3) := by decide +kernel
theorem d_RM_read_62 : decode b_RM_read 62 = .ok (.aload_n 0, 1) := by decide +kernel
theorem d_RM_read_63 : decode b_RM_read 63 = .ok (.getfield 109, 3) := by decide +kernel
theorem d_RM_read_66 : decode b_RM_read 66 = .ok (.ireturn, 1) := by decide +kernel
abbrev w_RM_read : List Cond := Cond.code y_RM_read b_RM_read 3 (some .int) :: ig_T
theorem g_RM_read : GoodIn ig_T w_RM_read := ig_T_good (ig_T_mem (List.mem_append_right _ (List.mem_append_right _ (List.mem_of_getElem? (i := 0) rfl))) rfl)
set_option maxHeartbeats 4000000 in
set_option maxRecDepth 100000 in
theorem c_RM_read (l : Launch) (dC : Nat → ClassId) (dI : Nat → Nat → Nat) (cC cI cZ cL : ClassId) (o0 ra rx rf rt rb rl rp ru_ rv rr rs rg rh rz ry : Nat) (na : Int32) (de : Int32) (dp : Int32) (io : Int32) (th : Nat) (si : Nat) (ru : Nat) (nx : Nat) (so : Nat) (pa : Nat) (bz : Nat) (tA : Nat → Int32) (tX : Nat → Int32) (xF : Nat → Nat) (xT : Nat → Nat) (xB : Nat → Nat) (xL : Nat → Nat) (wF : Nat → Nat) (wT : Nat → Nat) (tB : Nat → Int32) (sz : Nat) (hr : r_RM_read th si ru nx so pa bz tA tX xF xT xB xL wF wT tB) : Met l y_RM_read w_RM_read ({ frames := 7, cells := 0, slots := 0, locals := 170 }) (ig_Pc (dC, dI) ig_cl0 [(cC, .char), (cI, .int), (cZ, .boolean), (cL, .long)] [.ref o0] [(o0, .inr (ciRM, [.int (nI th), .ref ra, .int (nI si), .ref rx, .ref rf, .ref rt, .ref rb, .ref rl, .int (nI ru), .ref rp, .ref ru_, .ref rv, .int na, .int (nI nx), .int (nI so), .ref rr, .ref rs, .ref rg, .ref rh, .int (nI pa), .ref rz, .ref ry, .int (nI bz), .int de, .int dp, .int io])), (ra, .inl (cI, 1000, .inl tA)), (rx, .inl (cI, 1000, .inl tX)), (rf, .inl (cI, 60, .inl (fun zj => nI (xF zj)))), (rt, .inl (cI, 60, .inl (fun zj => nI (xT zj)))), (rb, .inl (cI, 60, .inl (fun zj => nI (xB zj)))), (rl, .inl (cI, 60, .inl (fun zj => nI (xL zj)))), (rg, .inl (cI, 1001, .inl (fun zj => nI (wF zj)))), (rh, .inl (cI, 1001, .inl (fun zj => nI (wT zj)))), (ry, .inl (cI, 1000, .inl tB))] sz) (va_Qi (fun (r : Int32) (u : Nat × (Nat → Nat) × (Nat → Nat) × (Nat → Nat) × (Nat → Nat) × Nat × Nat × Nat × (Nat → Nat) × (Nat → Nat) × (Nat → Int32) × (Nat → Int32) × Nat × Nat × Nat) => p_RM_read th si ru nx so pa bz tA tX xF xT xB xL wF wT tB r u.1 u.2.1 u.2.2.1 u.2.2.2.1 u.2.2.2.2.1 u.2.2.2.2.2.1 u.2.2.2.2.2.2.1 u.2.2.2.2.2.2.2.1 u.2.2.2.2.2.2.2.2.1 u.2.2.2.2.2.2.2.2.2.1 u.2.2.2.2.2.2.2.2.2.2.1 u.2.2.2.2.2.2.2.2.2.2.2.1 u.2.2.2.2.2.2.2.2.2.2.2.2.1 u.2.2.2.2.2.2.2.2.2.2.2.2.2.1 u.2.2.2.2.2.2.2.2.2.2.2.2.2.2) (fun u t => va_P (dC, dI) ig_cl0 ((fun (u : Nat × (Nat → Nat) × (Nat → Nat) × (Nat → Nat) × (Nat → Nat) × Nat × Nat × Nat × (Nat → Nat) × (Nat → Nat) × (Nat → Int32) × (Nat → Int32) × Nat × Nat × Nat) => [(o0, .inr (ciRM, [.int (nI u.2.2.2.2.2.2.2.2.2.2.2.2.2.2), .ref ra, .int (nI u.2.2.2.2.2.2.2.2.2.2.2.2.1), .ref rx, .ref rf, .ref rt, .ref rb, .ref rl, .int (nI u.1), .ref rp, .ref ru_, .ref rv, .int na, .int (nI u.2.2.2.2.2.1), .int (nI u.2.2.2.2.2.2.1), .ref rr, .ref rs, .ref rg, .ref rh, .int (nI u.2.2.2.2.2.2.2.1), .ref rz, .ref ry, .int (nI u.2.2.2.2.2.2.2.2.2.2.2.2.2.1), .int de, .int dp, .int io])), (ra, .inl (cI, 1000, .inl tA)), (rx, .inl (cI, 1000, .inl u.2.2.2.2.2.2.2.2.2.2.1)), (rf, .inl (cI, 60, .inl (fun zj => nI (u.2.1 zj)))), (rt, .inl (cI, 60, .inl (fun zj => nI (u.2.2.1 zj)))), (rb, .inl (cI, 60, .inl (fun zj => nI (u.2.2.2.1 zj)))), (rl, .inl (cI, 60, .inl (fun zj => nI (u.2.2.2.2.1 zj)))), (rg, .inl (cI, 1001, .inl (fun zj => nI (u.2.2.2.2.2.2.2.2.1 zj)))), (rh, .inl (cI, 1001, .inl (fun zj => nI (u.2.2.2.2.2.2.2.2.2.1 zj)))), (ry, .inl (cI, 1000, .inl u.2.2.2.2.2.2.2.2.2.2.2.1))]) u) t.heap ∧ va_D (va_A [(o0, .inr (ciRM, [.int (nI th), .ref ra, .int (nI si), .ref rx, .ref rf, .ref rt, .ref rb, .ref rl, .int (nI ru), .ref rp, .ref ru_, .ref rv, .int na, .int (nI nx), .int (nI so), .ref rr, .ref rs, .ref rg, .ref rh, .int (nI pa), .ref rz, .ref ry, .int (nI bz), .int de, .int dp, .int io])), (ra, .inl (cI, 1000, .inl tA)), (rx, .inl (cI, 1000, .inl tX)), (rf, .inl (cI, 60, .inl (fun zj => nI (xF zj)))), (rt, .inl (cI, 60, .inl (fun zj => nI (xT zj)))), (rb, .inl (cI, 60, .inl (fun zj => nI (xB zj)))), (rl, .inl (cI, 60, .inl (fun zj => nI (xL zj)))), (rg, .inl (cI, 1001, .inl (fun zj => nI (wF zj)))), (rh, .inl (cI, 1001, .inl (fun zj => nI (wT zj)))), (ry, .inl (cI, 1000, .inl tB))] sz) ((fun (u : Nat × (Nat → Nat) × (Nat → Nat) × (Nat → Nat) × (Nat → Nat) × Nat × Nat × Nat × (Nat → Nat) × (Nat → Nat) × (Nat → Int32) × (Nat → Int32) × Nat × Nat × Nat) => [(o0, .inr (ciRM, [.int (nI u.2.2.2.2.2.2.2.2.2.2.2.2.2.2), .ref ra, .int (nI u.2.2.2.2.2.2.2.2.2.2.2.2.1), .ref rx, .ref rf, .ref rt, .ref rb, .ref rl, .int (nI u.1), .ref rp, .ref ru_, .ref rv, .int na, .int (nI u.2.2.2.2.2.1), .int (nI u.2.2.2.2.2.2.1), .ref rr, .ref rs, .ref rg, .ref rh, .int (nI u.2.2.2.2.2.2.2.1), .ref rz, .ref ry, .int (nI u.2.2.2.2.2.2.2.2.2.2.2.2.2.1), .int de, .int dp, .int io])), (ra, .inl (cI, 1000, .inl tA)), (rx, .inl (cI, 1000, .inl u.2.2.2.2.2.2.2.2.2.2.1)), (rf, .inl (cI, 60, .inl (fun zj => nI (u.2.1 zj)))), (rt, .inl (cI, 60, .inl (fun zj => nI (u.2.2.1 zj)))), (rb, .inl (cI, 60, .inl (fun zj => nI (u.2.2.2.1 zj)))), (rl, .inl (cI, 60, .inl (fun zj => nI (u.2.2.2.2.1 zj)))), (rg, .inl (cI, 1001, .inl (fun zj => nI (u.2.2.2.2.2.2.2.2.1 zj)))), (rh, .inl (cI, 1001, .inl (fun zj => nI (u.2.2.2.2.2.2.2.2.2.1 zj)))), (ry, .inl (cI, 1000, .inl u.2.2.2.2.2.2.2.2.2.2.2.1))]) u)) (va_A [(o0, .inr (ciRM, [.int (nI th), .ref ra, .int (nI si), .ref rx, .ref rf, .ref rt, .ref rb, .ref rl, .int (nI ru), .ref rp, .ref ru_, .ref rv, .int na, .int (nI nx), .int (nI so), .ref rr, .ref rs, .ref rg, .ref rh, .int (nI pa), .ref rz, .ref ry, .int (nI bz), .int de, .int dp, .int io])), (ra, .inl (cI, 1000, .inl tA)), (rx, .inl (cI, 1000, .inl tX)), (rf, .inl (cI, 60, .inl (fun zj => nI (xF zj)))), (rt, .inl (cI, 60, .inl (fun zj => nI (xT zj)))), (rb, .inl (cI, 60, .inl (fun zj => nI (xB zj)))), (rl, .inl (cI, 60, .inl (fun zj => nI (xL zj)))), (rg, .inl (cI, 1001, .inl (fun zj => nI (wF zj)))), (rh, .inl (cI, 1001, .inl (fun zj => nI (wT zj)))), (ry, .inl (cI, 1000, .inl tB))] sz)) 0 0 (va_A [(o0, .inr (ciRM, [.int (nI th), .ref ra, .int (nI si), .ref rx, .ref rf, .ref rt, .ref rb, .ref rl, .int (nI ru), .ref rp, .ref ru_, .ref rv, .int na, .int (nI nx), .int (nI so), .ref rr, .ref rs, .ref rg, .ref rh, .int (nI pa), .ref rz, .ref ry, .int (nI bz), .int de, .int dp, .int io])), (ra, .inl (cI, 1000, .inl tA)), (rx, .inl (cI, 1000, .inl tX)), (rf, .inl (cI, 60, .inl (fun zj => nI (xF zj)))), (rt, .inl (cI, 60, .inl (fun zj => nI (xT zj)))), (rb, .inl (cI, 60, .inl (fun zj => nI (xB zj)))), (rl, .inl (cI, 60, .inl (fun zj => nI (xL zj)))), (rg, .inl (cI, 1001, .inl (fun zj => nI (wF zj)))), (rh, .inl (cI, 1001, .inl (fun zj => nI (wT zj)))), (ry, .inl (cI, 1000, .inl tB))] sz) := by
  refine ig_metI (fun (r : Int32) (u : Nat × (Nat → Nat) × (Nat → Nat) × (Nat → Nat) × (Nat → Nat) × Nat × Nat × Nat × (Nat → Nat) × (Nat → Nat) × (Nat → Int32) × (Nat → Int32) × Nat × Nat × Nat) => p_RM_read th si ru nx so pa bz tA tX xF xT xB xL wF wT tB r u.1 u.2.1 u.2.2.1 u.2.2.2.1 u.2.2.2.2.1 u.2.2.2.2.2.1 u.2.2.2.2.2.2.1 u.2.2.2.2.2.2.2.1 u.2.2.2.2.2.2.2.2.1 u.2.2.2.2.2.2.2.2.2.1 u.2.2.2.2.2.2.2.2.2.2.1 u.2.2.2.2.2.2.2.2.2.2.2.1 u.2.2.2.2.2.2.2.2.2.2.2.2.1 u.2.2.2.2.2.2.2.2.2.2.2.2.2.1 u.2.2.2.2.2.2.2.2.2.2.2.2.2.2) (fun (u : Nat × (Nat → Nat) × (Nat → Nat) × (Nat → Nat) × (Nat → Nat) × Nat × Nat × Nat × (Nat → Nat) × (Nat → Nat) × (Nat → Int32) × (Nat → Int32) × Nat × Nat × Nat) => [(o0, .inr (ciRM, [.int (nI u.2.2.2.2.2.2.2.2.2.2.2.2.2.2), .ref ra, .int (nI u.2.2.2.2.2.2.2.2.2.2.2.2.1), .ref rx, .ref rf, .ref rt, .ref rb, .ref rl, .int (nI u.1), .ref rp, .ref ru_, .ref rv, .int na, .int (nI u.2.2.2.2.2.1), .int (nI u.2.2.2.2.2.2.1), .ref rr, .ref rs, .ref rg, .ref rh, .int (nI u.2.2.2.2.2.2.2.1), .ref rz, .ref ry, .int (nI u.2.2.2.2.2.2.2.2.2.2.2.2.2.1), .int de, .int dp, .int io])), (ra, .inl (cI, 1000, .inl tA)), (rx, .inl (cI, 1000, .inl u.2.2.2.2.2.2.2.2.2.2.1)), (rf, .inl (cI, 60, .inl (fun zj => nI (u.2.1 zj)))), (rt, .inl (cI, 60, .inl (fun zj => nI (u.2.2.1 zj)))), (rb, .inl (cI, 60, .inl (fun zj => nI (u.2.2.2.1 zj)))), (rl, .inl (cI, 60, .inl (fun zj => nI (u.2.2.2.2.1 zj)))), (rg, .inl (cI, 1001, .inl (fun zj => nI (u.2.2.2.2.2.2.2.2.1 zj)))), (rh, .inl (cI, 1001, .inl (fun zj => nI (u.2.2.2.2.2.2.2.2.2.1 zj)))), (ry, .inl (cI, 1000, .inl u.2.2.2.2.2.2.2.2.2.2.2.1))]) (by decide) rfl (Nat.le_of_ble_eq_true rfl) rfl (fun _ _ _ => rfl) ?_
  intro zp ze zs zm zargs zbelow zmeth zc zA zQ hx hb hml hown hts hK hN hA hret
  have hv := t_RM_read th si ru nx so pa bz tA tX xF xT xB xL wF wT tB hr 
  unfold v_RM_read at hv
  refine ig_aload_n hx hb 0 d_RM_read_0 rfl rfl ?_
  refine ig_iconst (v := 0) hx hb d_RM_read_1 (by decide) ?_
  refine ig_put (ty := .int) (v := .int 0) (ws' := [(o0, .inr (ciRM, [.int (nI 0), .ref ra, .int (nI si), .ref rx, .ref rf, .ref rt, .ref rb, .ref rl, .int (nI ru), .ref rp, .ref ru_, .ref rv, .int na, .int (nI nx), .int (nI so), .ref rr, .ref rs, .ref rg, .ref rh, .int (nI pa), .ref rz, .ref ry, .int (nI bz), .int de, .int dp, .int io])), (ra, .inl (cI, 1000, .inl tA)), (rx, .inl (cI, 1000, .inl tX)), (rf, .inl (cI, 60, .inl (fun zj => nI (xF zj)))), (rt, .inl (cI, 60, .inl (fun zj => nI (xT zj)))), (rb, .inl (cI, 60, .inl (fun zj => nI (xB zj)))), (rl, .inl (cI, 60, .inl (fun zj => nI (xL zj)))), (rg, .inl (cI, 1001, .inl (fun zj => nI (wF zj)))), (rh, .inl (cI, 1001, .inl (fun zj => nI (wT zj)))), (ry, .inl (cI, 1000, .inl tB))]) hx hb hts in_RM t_RM t_RM_ok n_RM hown hK 0 rfl rfl 0 (by decide) (hts _ kw_1_145) (fun _ h => h) rfl (by decide +kernel) rfl rfl (Nat.le_of_ble_eq_true rfl) d_RM_read_2 rfl ?_
  refine ig_aload_n hx hb 0 d_RM_read_5 rfl rfl ?_
  refine ig_iconst (v := 0) hx hb d_RM_read_6 (by decide) ?_
  refine ig_cVv (As := [.int 0]) (rest := []) (wr := [(rf, .inl (cI, 60, .inl (fun zj => nI (xF zj)))), (rt, .inl (cI, 60, .inl (fun zj => nI (xT zj)))), (rb, .inl (cI, 60, .inl (fun zj => nI (xB zj)))), (rl, .inl (cI, 60, .inl (fun zj => nI (xL zj)))), (rg, .inl (cI, 1001, .inl (fun zj => nI (wF zj)))), (rh, .inl (cI, 1001, .inl (fun zj => nI (wT zj))))]) (ws' := fun u => [(o0, .inr (ciRM, [.int (nI 0), .ref ra, .int (nI si), .ref rx, .ref rf, .ref rt, .ref rb, .ref rl, .int (nI ru), .ref rp, .ref ru_, .ref rv, .int na, .int (nI nx), .int (nI so), .ref rr, .ref rs, .ref rg, .ref rh, .int (nI pa), .ref rz, .ref ry, .int (nI bz), .int de, .int dp, .int io])), (ra, .inl (cI, 1000, .inl tA)), (rx, .inl (cI, 1000, .inl u.1)), (rf, .inl (cI, 60, .inl (fun zj => nI (xF zj)))), (rt, .inl (cI, 60, .inl (fun zj => nI (xT zj)))), (rb, .inl (cI, 60, .inl (fun zj => nI (xB zj)))), (rl, .inl (cI, 60, .inl (fun zj => nI (xL zj)))), (rg, .inl (cI, 1001, .inl (fun zj => nI (wF zj)))), (rh, .inl (cI, 1001, .inl (fun zj => nI (wT zj)))), (ry, .inl (cI, 1000, .inl u.2))]) hx hb hml hown hts hK hN hA (fun sz => c_RM_swapText l dC dI cC cI cZ cL o0 ra rx rf rt rb rl rp ru_ rv rr rs rg rh rz ry (nI 0) (nI si) (nI ru) na (nI nx) (nI so) (nI pa) (nI bz) de dp io tA tX tB false sz) ⟨callB_of 1 hts g_RM_swapText rfl rfl rfl (hts _ kw_0_5) (hts _ kw_2_1) (by decide +kernel) (by decide), (hts _ kw_2_3), (hts _ ks_RM_swapText)⟩ rfl rfl (Nat.le_of_ble_eq_true rfl) d_RM_read_7 (by decide) 0 rfl rfl [0, 1, 2, 9] [3, 4, 5, 6, 7, 8] [6, 7, 8, 0, 1, 2, 3, 4, 5, 9] rfl rfl (by decide) (by decide) (by decide) (fun _ => rfl) (fun _ => rfl) (fun u hr => ?_)
  obtain ⟨tX1, tB2⟩ := u
  unfold p_RM_swapText at hr
  have hv := hv tX1 tB2 hr
  refine ig_aload_n hx hb 0 d_RM_read_10 rfl rfl ?_
  obtain ⟨hc, hv⟩ := hv
  refine ig_cVi (As := []) (rest := []) (wr := [(ra, .inl (cI, 1000, .inl tA)), (ry, .inl (cI, 1000, .inl tB2))]) (ws' := fun u => [(o0, .inr (ciRM, [.int (nI 0), .ref ra, .int (nI si), .ref rx, .ref rf, .ref rt, .ref rb, .ref rl, .int (nI u.1), .ref rp, .ref ru_, .ref rv, .int na, .int (nI u.2.2.2.2.2.1), .int (nI u.2.2.2.2.2.2.1), .ref rr, .ref rs, .ref rg, .ref rh, .int (nI u.2.2.2.2.2.2.2.1), .ref rz, .ref ry, .int (nI bz), .int de, .int dp, .int io])), (ra, .inl (cI, 1000, .inl tA)), (rx, .inl (cI, 1000, .inl tX1)), (rf, .inl (cI, 60, .inl (fun zj => nI (u.2.1 zj)))), (rt, .inl (cI, 60, .inl (fun zj => nI (u.2.2.1 zj)))), (rb, .inl (cI, 60, .inl (fun zj => nI (u.2.2.2.1 zj)))), (rl, .inl (cI, 60, .inl (fun zj => nI (u.2.2.2.2.1 zj)))), (rg, .inl (cI, 1001, .inl (fun zj => nI (u.2.2.2.2.2.2.2.2.1 zj)))), (rh, .inl (cI, 1001, .inl (fun zj => nI (u.2.2.2.2.2.2.2.2.2 zj)))), (ry, .inl (cI, 1000, .inl tB2))]) hx hb hml hown hts hK hN hA (fun sz => c_RM_tryLines l dC dI cC cI cZ cL o0 ra rx rf rt rb rl rp ru_ rv rr rs rg rh rz ry (nI 0) na (nI bz) de dp io si ru nx so pa tX1 xF xT xB xL wF wT sz hc) ⟨callB_of 0 hts g_RM_tryLines rfl rfl rfl (hts _ kw_0_5) (hts _ kw_2_5) (by decide +kernel) (by decide), (hts _ kw_2_7), (hts _ ks_RM_tryLines)⟩ rfl rfl (Nat.le_of_ble_eq_true rfl) d_RM_read_11 (by decide) 0 rfl rfl [0, 2, 3, 4, 5, 6, 7, 8] [1, 9] [2, 0, 3, 4, 5, 6, 7, 8, 9, 1] rfl rfl (by decide) (by decide) (by decide) (fun _ => rfl) (fun _ => rfl) (fun r u hr => ?_)
  obtain ⟨ru3, xF4, xT5, xB6, xL7, nx8, so9, pa10, wF11, wT12⟩ := u
  obtain ⟨r13, rfl, hr⟩ := hr
  unfold p_RM_tryLines at hr
  have hv := hv r13 ru3 xF4 xT5 xB6 xL7 nx8 so9 pa10 wF11 wT12 hr
  refine ig_bipush (v := 60) hx hb d_RM_read_14 (by decide) ?_
  obtain ⟨h1, hv⟩ := hv
  refine ig_icmp_leN (tgt := 49) hx hb r13 60 rfl rfl d_RM_read_16 (by decide) h1 (by decide) (fun h => ?_) (fun h => ?_)
  · have hv := hv.1 h
    refine ig_aload_n hx hb 0 d_RM_read_49 rfl rfl ?_
    refine ig_aload_n hx hb 0 d_RM_read_50 rfl rfl ?_
    refine ig_get hx hb hts in_RM hown hK 0 rfl rfl 2 (by decide) (hts _ kw_1_147) (fun _ h => h) rfl d_RM_read_51 ?_
    refine ig_put (ty := .int) (v := .int (nI si)) (ws' := [(o0, .inr (ciRM, [.int (nI 0), .ref ra, .int (nI si), .ref rx, .ref rf, .ref rt, .ref rb, .ref rl, .int (nI ru3), .ref rp, .ref ru_, .ref rv, .int na, .int (nI nx8), .int (nI so9), .ref rr, .ref rs, .ref rg, .ref rh, .int (nI pa10), .ref rz, .ref ry, .int (nI si), .int de, .int dp, .int io])), (ra, .inl (cI, 1000, .inl tA)), (rx, .inl (cI, 1000, .inl tX1)), (rf, .inl (cI, 60, .inl (fun zj => nI (xF4 zj)))), (rt, .inl (cI, 60, .inl (fun zj => nI (xT5 zj)))), (rb, .inl (cI, 60, .inl (fun zj => nI (xB6 zj)))), (rl, .inl (cI, 60, .inl (fun zj => nI (xL7 zj)))), (rg, .inl (cI, 1001, .inl (fun zj => nI (wF11 zj)))), (rh, .inl (cI, 1001, .inl (fun zj => nI (wT12 zj)))), (ry, .inl (cI, 1000, .inl tB2))]) hx hb hts in_RM t_RM t_RM_ok n_RM hown hK 0 rfl rfl 22 (by decide) (hts _ kw_1_167) (fun _ h => h) rfl (by decide +kernel) rfl rfl (Nat.le_of_ble_eq_true rfl) d_RM_read_54 rfl ?_
    refine ig_aload_n hx hb 0 d_RM_read_57 rfl rfl ?_
    refine ig_iconst (v := 0) hx hb d_RM_read_58 (by decide) ?_
    refine ig_put (ty := .int) (v := .int 0) (ws' := [(o0, .inr (ciRM, [.int (nI 0), .ref ra, .int (nI 0), .ref rx, .ref rf, .ref rt, .ref rb, .ref rl, .int (nI ru3), .ref rp, .ref ru_, .ref rv, .int na, .int (nI nx8), .int (nI so9), .ref rr, .ref rs, .ref rg, .ref rh, .int (nI pa10), .ref rz, .ref ry, .int (nI si), .int de, .int dp, .int io])), (ra, .inl (cI, 1000, .inl tA)), (rx, .inl (cI, 1000, .inl tX1)), (rf, .inl (cI, 60, .inl (fun zj => nI (xF4 zj)))), (rt, .inl (cI, 60, .inl (fun zj => nI (xT5 zj)))), (rb, .inl (cI, 60, .inl (fun zj => nI (xB6 zj)))), (rl, .inl (cI, 60, .inl (fun zj => nI (xL7 zj)))), (rg, .inl (cI, 1001, .inl (fun zj => nI (wF11 zj)))), (rh, .inl (cI, 1001, .inl (fun zj => nI (wT12 zj)))), (ry, .inl (cI, 1000, .inl tB2))]) hx hb hts in_RM t_RM t_RM_ok n_RM hown hK 0 rfl rfl 2 (by decide) (hts _ kw_1_147) (fun _ h => h) rfl (by decide +kernel) rfl rfl (Nat.le_of_ble_eq_true rfl) d_RM_read_59 rfl ?_
    refine ig_aload_n hx hb 0 d_RM_read_62 rfl rfl ?_
    refine ig_get hx hb hts in_RM hown hK 0 rfl rfl 8 (by decide) (hts _ kw_1_153) (fun _ h => h) rfl d_RM_read_63 ?_
    exact hret 66 _ (nI ru3) (ru3, xF4, xT5, xB6, xL7, nx8, so9, pa10, wF11, wT12, tX1, tB2, 0, si, 0) d_RM_read_66 hv
  · have hv := hv.2 h
    refine ig_aload_n hx hb 0 d_RM_read_19 rfl rfl ?_
    refine ig_iconst (v := 1) hx hb d_RM_read_20 (by decide) ?_
    refine ig_cVv (As := [.int 1]) (rest := []) (wr := [(rf, .inl (cI, 60, .inl (fun zj => nI (xF4 zj)))), (rt, .inl (cI, 60, .inl (fun zj => nI (xT5 zj)))), (rb, .inl (cI, 60, .inl (fun zj => nI (xB6 zj)))), (rl, .inl (cI, 60, .inl (fun zj => nI (xL7 zj)))), (rg, .inl (cI, 1001, .inl (fun zj => nI (wF11 zj)))), (rh, .inl (cI, 1001, .inl (fun zj => nI (wT12 zj))))]) (ws' := fun u => [(o0, .inr (ciRM, [.int (nI 0), .ref ra, .int (nI si), .ref rx, .ref rf, .ref rt, .ref rb, .ref rl, .int (nI ru3), .ref rp, .ref ru_, .ref rv, .int na, .int (nI nx8), .int (nI so9), .ref rr, .ref rs, .ref rg, .ref rh, .int (nI pa10), .ref rz, .ref ry, .int (nI bz), .int de, .int dp, .int io])), (ra, .inl (cI, 1000, .inl tA)), (rx, .inl (cI, 1000, .inl u.1)), (rf, .inl (cI, 60, .inl (fun zj => nI (xF4 zj)))), (rt, .inl (cI, 60, .inl (fun zj => nI (xT5 zj)))), (rb, .inl (cI, 60, .inl (fun zj => nI (xB6 zj)))), (rl, .inl (cI, 60, .inl (fun zj => nI (xL7 zj)))), (rg, .inl (cI, 1001, .inl (fun zj => nI (wF11 zj)))), (rh, .inl (cI, 1001, .inl (fun zj => nI (wT12 zj)))), (ry, .inl (cI, 1000, .inl u.2))]) hx hb hml hown hts hK hN hA (fun sz => c_RM_swapText l dC dI cC cI cZ cL o0 ra rx rf rt rb rl rp ru_ rv rr rs rg rh rz ry (nI 0) (nI si) (nI ru3) na (nI nx8) (nI so9) (nI pa10) (nI bz) de dp io tA tX1 tB2 true sz) ⟨callB_of 1 hts g_RM_swapText rfl rfl rfl (hts _ kw_0_5) (hts _ kw_2_1) (by decide +kernel) (by decide), (hts _ kw_2_3), (hts _ ks_RM_swapText)⟩ rfl rfl (Nat.le_of_ble_eq_true rfl) d_RM_read_21 (by decide) 0 rfl rfl [0, 1, 2, 9] [3, 4, 5, 6, 7, 8] [6, 7, 8, 0, 1, 2, 3, 4, 5, 9] rfl rfl (by decide) (by decide) (by decide) (fun _ => rfl) (fun _ => rfl) (fun u hr => ?_)
    obtain ⟨tX14, tB15⟩ := u
    unfold p_RM_swapText at hr
    have hv := hv tX14 tB15 hr
    refine ig_aload_n hx hb 0 d_RM_read_24 rfl rfl ?_
    refine ig_get hx hb hts in_RM hown hK 0 rfl rfl 2 (by decide) (hts _ kw_1_147) (fun _ h => h) rfl d_RM_read_25 ?_
    refine ig_istore_n (lv' := [(1, .int (nI si)), (0, .ref o0)]) hx hb d_RM_read_28 rfl (by decide) rfl ?_
    refine ig_aload_n hx hb 1 d_RM_read_29 rfl rfl ?_
    refine ig_aload_n hx hb 1 d_RM_read_30 rfl rfl ?_
    refine ig_get hx hb hts in_RM hown hK 0 rfl rfl 22 (by decide) (hts _ kw_1_167) (fun _ h => h) rfl d_RM_read_31 ?_
    refine ig_put (ty := .int) (v := .int (nI bz)) (ws' := [(o0, .inr (ciRM, [.int (nI 0), .ref ra, .int (nI bz), .ref rx, .ref rf, .ref rt, .ref rb, .ref rl, .int (nI ru3), .ref rp, .ref ru_, .ref rv, .int na, .int (nI nx8), .int (nI so9), .ref rr, .ref rs, .ref rg, .ref rh, .int (nI pa10), .ref rz, .ref ry, .int (nI bz), .int de, .int dp, .int io])), (ra, .inl (cI, 1000, .inl tA)), (rx, .inl (cI, 1000, .inl tX14)), (rf, .inl (cI, 60, .inl (fun zj => nI (xF4 zj)))), (rt, .inl (cI, 60, .inl (fun zj => nI (xT5 zj)))), (rb, .inl (cI, 60, .inl (fun zj => nI (xB6 zj)))), (rl, .inl (cI, 60, .inl (fun zj => nI (xL7 zj)))), (rg, .inl (cI, 1001, .inl (fun zj => nI (wF11 zj)))), (rh, .inl (cI, 1001, .inl (fun zj => nI (wT12 zj)))), (ry, .inl (cI, 1000, .inl tB15))]) hx hb hts in_RM t_RM t_RM_ok n_RM hown hK 0 rfl rfl 2 (by decide) (hts _ kw_1_147) (fun _ h => h) rfl (by decide +kernel) rfl rfl (Nat.le_of_ble_eq_true rfl) d_RM_read_34 rfl ?_
    refine ig_aload_n hx hb 1 d_RM_read_37 rfl rfl ?_
    obtain ⟨hc, hv⟩ := hv
    refine ig_cVi (As := []) (rest := []) (wr := [(ra, .inl (cI, 1000, .inl tA)), (ry, .inl (cI, 1000, .inl tB15))]) (ws' := fun u => [(o0, .inr (ciRM, [.int (nI 0), .ref ra, .int (nI bz), .ref rx, .ref rf, .ref rt, .ref rb, .ref rl, .int (nI u.1), .ref rp, .ref ru_, .ref rv, .int na, .int (nI u.2.2.2.2.2.1), .int (nI u.2.2.2.2.2.2.1), .ref rr, .ref rs, .ref rg, .ref rh, .int (nI u.2.2.2.2.2.2.2.1), .ref rz, .ref ry, .int (nI bz), .int de, .int dp, .int io])), (ra, .inl (cI, 1000, .inl tA)), (rx, .inl (cI, 1000, .inl tX14)), (rf, .inl (cI, 60, .inl (fun zj => nI (u.2.1 zj)))), (rt, .inl (cI, 60, .inl (fun zj => nI (u.2.2.1 zj)))), (rb, .inl (cI, 60, .inl (fun zj => nI (u.2.2.2.1 zj)))), (rl, .inl (cI, 60, .inl (fun zj => nI (u.2.2.2.2.1 zj)))), (rg, .inl (cI, 1001, .inl (fun zj => nI (u.2.2.2.2.2.2.2.2.1 zj)))), (rh, .inl (cI, 1001, .inl (fun zj => nI (u.2.2.2.2.2.2.2.2.2 zj)))), (ry, .inl (cI, 1000, .inl tB15))]) hx hb hml hown hts hK hN hA (fun sz => c_RM_tryLines l dC dI cC cI cZ cL o0 ra rx rf rt rb rl rp ru_ rv rr rs rg rh rz ry (nI 0) na (nI bz) de dp io bz ru3 nx8 so9 pa10 tX14 xF4 xT5 xB6 xL7 wF11 wT12 sz hc) ⟨callB_of 0 hts g_RM_tryLines rfl rfl rfl (hts _ kw_0_5) (hts _ kw_2_5) (by decide +kernel) (by decide), (hts _ kw_2_7), (hts _ ks_RM_tryLines)⟩ rfl rfl (Nat.le_of_ble_eq_true rfl) d_RM_read_38 (by decide) 0 rfl rfl [0, 2, 3, 4, 5, 6, 7, 8] [1, 9] [2, 0, 3, 4, 5, 6, 7, 8, 9, 1] rfl rfl (by decide) (by decide) (by decide) (fun _ => rfl) (fun _ => rfl) (fun r u hr => ?_)
    obtain ⟨ru16, xF17, xT18, xB19, xL20, nx21, so22, pa23, wF24, wT25⟩ := u
    obtain ⟨r26, rfl, hr⟩ := hr
    unfold p_RM_tryLines at hr
    have hv := hv r26 ru16 xF17 xT18 xB19 xL20 nx21 so22 pa23 wF24 wT25 hr
    refine ig_istore_n (lv' := [(2, .int (nI r26)), (1, .int (nI si)), (0, .ref o0)]) hx hb d_RM_read_41 rfl (by decide) rfl ?_
    refine ig_aload_n hx hb 2 d_RM_read_42 rfl rfl ?_
    refine ig_iload_n hx hb 1 d_RM_read_43 rfl rfl ?_
    refine ig_put (ty := .int) (v := .int (nI si)) (ws' := [(o0, .inr (ciRM, [.int (nI 0), .ref ra, .int (nI si), .ref rx, .ref rf, .ref rt, .ref rb, .ref rl, .int (nI ru16), .ref rp, .ref ru_, .ref rv, .int na, .int (nI nx21), .int (nI so22), .ref rr, .ref rs, .ref rg, .ref rh, .int (nI pa23), .ref rz, .ref ry, .int (nI bz), .int de, .int dp, .int io])), (ra, .inl (cI, 1000, .inl tA)), (rx, .inl (cI, 1000, .inl tX14)), (rf, .inl (cI, 60, .inl (fun zj => nI (xF17 zj)))), (rt, .inl (cI, 60, .inl (fun zj => nI (xT18 zj)))), (rb, .inl (cI, 60, .inl (fun zj => nI (xB19 zj)))), (rl, .inl (cI, 60, .inl (fun zj => nI (xL20 zj)))), (rg, .inl (cI, 1001, .inl (fun zj => nI (wF24 zj)))), (rh, .inl (cI, 1001, .inl (fun zj => nI (wT25 zj)))), (ry, .inl (cI, 1000, .inl tB15))]) hx hb hts in_RM t_RM t_RM_ok n_RM hown hK 0 rfl rfl 2 (by decide) (hts _ kw_1_147) (fun _ h => h) rfl (by decide +kernel) rfl rfl (Nat.le_of_ble_eq_true rfl) d_RM_read_44 rfl ?_
    refine ig_iconst (v := (-1)) hx hb d_RM_read_47 (by decide) ?_
    exact hret 48 _ (-1) (ru16, xF17, xT18, xB19, xL20, nx21, so22, pa23, wF24, wT25, tX14, tB15, si, bz, 0) d_RM_read_48 hv
theorem d_RM_path_0 : decode b_RM_path 0 = .ok (.aload_n 0, 1) := by decide +kernel
theorem d_RM_path_1 : decode b_RM_path 1 = .ok (.iconst 0, 1) := by decide +kernel
theorem d_RM_path_2 : decode b_RM_path 2 = .ok (.putfield 56, 3) := by decide +kernel
theorem d_RM_path_5 : decode b_RM_path 5 = .ok (.aload_n 0, 1) := by decide +kernel
theorem d_RM_path_6 : decode b_RM_path 6 = .ok (.iconst 0, 1) := by decide +kernel
theorem d_RM_path_7 : decode b_RM_path 7 = .ok (.putfield 135, 3) := by decide +kernel
theorem d_RM_path_10 : decode b_RM_path 10 = .ok (.aload_n 0, 1) := by decide +kernel
theorem d_RM_path_11 : decode b_RM_path 11 = .ok (.invokevirtual 138, 3) := by decide +kernel
theorem d_RM_path_14 : decode b_RM_path 14 = .ok (.ifCond .ne 5, 3) := by decide +kernel
theorem d_RM_path_17 : decode b_RM_path 17 = .ok (.iconst (-1), 1) := by decide +kernel
theorem d_RM_path_18 : decode b_RM_path 18 = .ok (.ireturn, 1) := by decide +kernel
theorem d_RM_path_19 : decode b_RM_path 19 = .ok (.iconst 0, 1) := by decide +kernel
theorem d_RM_path_20 : decode b_RM_path 20 = .ok (.istore_n 1, 1) := by decide +kernel
theorem d_RM_path_21 : decode b_RM_path 21 = .ok (.iconst 0, 1) := by decide +kernel
theorem d_RM_path_22 : decode b_RM_path 22 = .ok (.istore_n 2, 1) := by decide +kernel
theorem d_RM_path_23 : decode b_RM_path 23 = .ok (.iload_n 2, 1) := by decide +kernel
theorem d_RM_path_24 : decode b_RM_path 24 = .ok (.aload_n 0, 1) := by decide +kernel
theorem d_RM_path_25 : decode b_RM_path 25 = .ok (.getfield 60, 3) := by decide +kernel
theorem d_RM_path_28 : decode b_RM_path 28 = .ok (.if_icmp .gt 62, 3) := by decide +kernel
theorem d_RM_path_31 : decode b_RM_path 31 = .ok (.iload_n 2, 1) := by decide +kernel
theorem d_RM_path_32 : decode b_RM_path 32 = .ok (.aload_n 0, 1) := by decide +kernel
theorem d_RM_path_33 : decode b_RM_path 33 = .ok (.getfield 60, 3) := by decide +kernel
theorem d_RM_path_36 : decode b_RM_path 36 = .ok (.if_icmp .eq 14, 3) := by decide +kernel
theorem d_RM_path_39 : decode b_RM_path 39 = .ok (.aload_n 0, 1) := by decide +kernel
theorem d_RM_path_40 : decode b_RM_path 40 = .ok (.getfield 7, 3) := by decide +kernel
theorem d_RM_path_43 : decode b_RM_path 43 = .ok (.iload_n 2, 1) := by decide +kernel
theorem d_RM_path_44 : decode b_RM_path 44 = .ok (.iaload, 1) := by decide +kernel
theorem d_RM_path_45 : decode b_RM_path 45 = .ok (.bipush 47, 2) := by decide +kernel
theorem d_RM_path_47 : decode b_RM_path 47 = .ok (.if_icmp .ne 37, 3) := by decide +kernel
theorem d_RM_path_50 : decode b_RM_path 50 = .ok (.aload_n 0, 1) := by decide +kernel
theorem d_RM_path_51 : decode b_RM_path 51 = .ok (.getfield 31, 3) := by decide +kernel
theorem d_RM_path_54 : decode b_RM_path 54 = .ok (.aload_n 0, 1) := by decide +kernel
theorem d_RM_path_55 : decode b_RM_path 55 = .ok (.getfield 135, 3) := by decide +kernel
theorem d_RM_path_58 : decode b_RM_path 58 = .ok (.iload_n 1, 1) := by decide +kernel
theorem d_RM_path_59 : decode b_RM_path 59 = .ok (.iastore, 1) := by decide +kernel
theorem d_RM_path_60 : decode b_RM_path 60 = .ok (.aload_n 0, 1) := by decide +kernel
theorem d_RM_path_61 : decode b_RM_path 61 = .ok (.getfield 34, 3) := by decide +kernel
theorem d_RM_path_64 : decode b_RM_path 64 = .ok (.aload_n 0, 1) := by decide +kernel
theorem d_RM_path_65 : decode b_RM_path 65 = .ok (.getfield 135, 3) := by decide +kernel
theorem d_RM_path_68 : decode b_RM_path 68 = .ok (.iload_n 2, 1) := by decide +kernel
theorem d_RM_path_69 : decode b_RM_path 69 = .ok (.iastore, 1) := by decide +kernel
theorem d_RM_path_70 : decode b_RM_path 70 = .ok (.aload_n 0, 1) := by decide +kernel
theorem d_RM_path_71 : decode b_RM_path 71 = .ok (.dup, 1) := by decide +kernel
theorem d_RM_path_72 : decode b_RM_path 72 = .ok (.getfield 135, 3) := by decide +kernel
theorem d_RM_path_75 : decode b_RM_path 75 = .ok (.iconst 1, 1) := by decide +kernel
theorem d_RM_path_76 : decode b_RM_path 76 = .ok (.iadd, 1) := by decide +kernel
theorem d_RM_path_77 : decode b_RM_path 77 = .ok (.putfield 135, 3) := by decide +kernel
theorem d_RM_path_80 : decode b_RM_path 80 = .ok (.iload_n 2, 1) := by decide +kernel
theorem d_RM_path_81 : decode b_RM_path 81 = .ok (.iconst 1, 1) := by decide +kernel
theorem d_RM_path_82 : decode b_RM_path 82 = .ok (.iadd, 1) := by decide +kernel
theorem d_RM_path_83 : decode b_RM_path 83 = .ok (.istore_n 1, 1) := by decide +kernel
theorem d_RM_path_84 : decode b_RM_path 84 = .ok (.iinc 2 1, 3) := by decide +kernel
theorem d_RM_path_87 : decode b_RM_path 87 = .ok (.goto (-64), 3) := by decide +kernel
theorem d_RM_path_90 : decode b_RM_path 90 = .ok (.iconst 0, 1) := by decide +kernel
theorem d_RM_path_91 : decode b_RM_path 91 = .ok (.istore_n 2, 1) := by decide +kernel
theorem d_RM_path_92 : decode b_RM_path 92 = .ok (.iload_n 2, 1) := by decide +kernel
theorem d_RM_path_93 : decode b_RM_path 93 = .ok (.aload_n 0, 1) := by decide +kernel
theorem d_RM_path_94 : decode b_RM_path 94 = .ok (.getfield 60, 3) := by decide +kernel
theorem d_RM_path_97 : decode b_RM_path 97 = .ok (.if_icmp .ge 21, 3) := by decide +kernel
theorem d_RM_path_100 : decode b_RM_path 100 = .ok (.aload_n 0, 1) := by decide +kernel
theorem d_RM_path_101 : decode b_RM_path 101 = .ok (.getfield 28, 3) := by decide +kernel
theorem d_RM_path_104 : decode b_RM_path 104 = .ok (.iload_n 2, 1) := by decide +kernel
theorem d_RM_path_105 : decode b_RM_path 105 = .ok (.aload_n 0, 1) := by decide +kernel
theorem d_RM_path_106 : decode b_RM_path 106 = .ok (.getfield 7, 3) := by decide +kernel
theorem d_RM_path_109 : decode b_RM_path 109 = .ok (.iload_n 2, 1) := by decide +kernel
theorem d_RM_path_110 : decode b_RM_path 110 = .ok (.iaload, 1) := by decide +kernel
theorem d_RM_path_111 : decode b_RM_path 111 = .ok (.iastore, 1) := by decide +kernel
theorem d_RM_path_112 : decode b_RM_path 112 = .ok (.iinc 2 1, 3) := by decide +kernel
theorem d_RM_path_115 : decode b_RM_path 115 = .ok (.goto (-23), 3) := by decide +kernel
theorem d_RM_path_118 : decode b_RM_path 118 = .ok (.aload_n 0, 1) := by decide +kernel
theorem d_RM_path_119 : decode b_RM_path 119 = .ok (.iconst 0, 1) := by decide +kernel
theorem d_RM_path_120 : decode b_RM_path 120 = .ok (.putfield 60, 3) := by decide +kernel
theorem d_RM_path_123 : decode b_RM_path 123 = .ok (.aload_n 0, 1) := by decide +kernel
theorem d_RM_path_124 : decode b_RM_path 124 = .ok (.getfield 135, 3) := by decide +kernel
theorem d_RM_path_127 : decode b_RM_path 127 = .ok (.ireturn, 1) := by decide +kernel
abbrev w_RM_path : List Cond := Cond.code y_RM_path b_RM_path 3 (some .int) :: ig_T
theorem g_RM_path : GoodIn ig_T w_RM_path := ig_T_good (ig_T_mem (List.mem_append_right _ (List.mem_append_right _ (List.mem_of_getElem? (i := 64) rfl))) rfl)
set_option maxHeartbeats 4000000 in
set_option maxRecDepth 100000 in
theorem c_RM_path (l : Launch) (dC : Nat → ClassId) (dI : Nat → Nat → Nat) (cC cI cZ cL : ClassId) (o0 ra rx rf rt rb rl rp ru_ rv rr rs rg rh rz ry : Nat) (ru : Int32) (nx : Int32) (so : Int32) (pa : Int32) (bz : Int32) (de : Int32) (dp : Int32) (io : Int32) (th : Nat) (si : Nat) (na : Nat) (tA : Nat → Int32) (tP : Nat → Int32) (yF : Nat → Nat) (yT : Nat → Nat) (sz : Nat) (hr : r_RM_path th si na tA tP yF yT) : Met l y_RM_path w_RM_path ({ frames := 1, cells := 0, slots := 0, locals := 23 }) (ig_Pc (dC, dI) ig_cl0 [(cC, .char), (cI, .int), (cZ, .boolean), (cL, .long)] [.ref o0] [(o0, .inr (ciRM, [.int (nI th), .ref ra, .int (nI si), .ref rx, .ref rf, .ref rt, .ref rb, .ref rl, .int ru, .ref rp, .ref ru_, .ref rv, .int (nI na), .int nx, .int so, .ref rr, .ref rs, .ref rg, .ref rh, .int pa, .ref rz, .ref ry, .int bz, .int de, .int dp, .int io])), (ra, .inl (cI, 1000, .inl tA)), (rp, .inl (cI, 120, .inl tP)), (ru_, .inl (cI, 20, .inl (fun zj => nI (yF zj)))), (rv, .inl (cI, 20, .inl (fun zj => nI (yT zj))))] sz) (va_Qi (fun (r : Int32) (u : Nat × Nat × Nat × (Nat → Int32) × (Nat → Nat) × (Nat → Nat)) => p_RM_path th si na tA tP yF yT r u.1 u.2.1 u.2.2.1 u.2.2.2.1 u.2.2.2.2.1 u.2.2.2.2.2) (fun u t => va_P (dC, dI) ig_cl0 ((fun (u : Nat × Nat × Nat × (Nat → Int32) × (Nat → Nat) × (Nat → Nat)) => [(o0, .inr (ciRM, [.int (nI u.1), .ref ra, .int (nI u.2.1), .ref rx, .ref rf, .ref rt, .ref rb, .ref rl, .int ru, .ref rp, .ref ru_, .ref rv, .int (nI u.2.2.1), .int nx, .int so, .ref rr, .ref rs, .ref rg, .ref rh, .int pa, .ref rz, .ref ry, .int bz, .int de, .int dp, .int io])), (ra, .inl (cI, 1000, .inl tA)), (rp, .inl (cI, 120, .inl u.2.2.2.1)), (ru_, .inl (cI, 20, .inl (fun zj => nI (u.2.2.2.2.1 zj)))), (rv, .inl (cI, 20, .inl (fun zj => nI (u.2.2.2.2.2 zj))))]) u) t.heap ∧ va_D (va_A [(o0, .inr (ciRM, [.int (nI th), .ref ra, .int (nI si), .ref rx, .ref rf, .ref rt, .ref rb, .ref rl, .int ru, .ref rp, .ref ru_, .ref rv, .int (nI na), .int nx, .int so, .ref rr, .ref rs, .ref rg, .ref rh, .int pa, .ref rz, .ref ry, .int bz, .int de, .int dp, .int io])), (ra, .inl (cI, 1000, .inl tA)), (rp, .inl (cI, 120, .inl tP)), (ru_, .inl (cI, 20, .inl (fun zj => nI (yF zj)))), (rv, .inl (cI, 20, .inl (fun zj => nI (yT zj))))] sz) ((fun (u : Nat × Nat × Nat × (Nat → Int32) × (Nat → Nat) × (Nat → Nat)) => [(o0, .inr (ciRM, [.int (nI u.1), .ref ra, .int (nI u.2.1), .ref rx, .ref rf, .ref rt, .ref rb, .ref rl, .int ru, .ref rp, .ref ru_, .ref rv, .int (nI u.2.2.1), .int nx, .int so, .ref rr, .ref rs, .ref rg, .ref rh, .int pa, .ref rz, .ref ry, .int bz, .int de, .int dp, .int io])), (ra, .inl (cI, 1000, .inl tA)), (rp, .inl (cI, 120, .inl u.2.2.2.1)), (ru_, .inl (cI, 20, .inl (fun zj => nI (u.2.2.2.2.1 zj)))), (rv, .inl (cI, 20, .inl (fun zj => nI (u.2.2.2.2.2 zj))))]) u)) (va_A [(o0, .inr (ciRM, [.int (nI th), .ref ra, .int (nI si), .ref rx, .ref rf, .ref rt, .ref rb, .ref rl, .int ru, .ref rp, .ref ru_, .ref rv, .int (nI na), .int nx, .int so, .ref rr, .ref rs, .ref rg, .ref rh, .int pa, .ref rz, .ref ry, .int bz, .int de, .int dp, .int io])), (ra, .inl (cI, 1000, .inl tA)), (rp, .inl (cI, 120, .inl tP)), (ru_, .inl (cI, 20, .inl (fun zj => nI (yF zj)))), (rv, .inl (cI, 20, .inl (fun zj => nI (yT zj))))] sz)) 0 0 (va_A [(o0, .inr (ciRM, [.int (nI th), .ref ra, .int (nI si), .ref rx, .ref rf, .ref rt, .ref rb, .ref rl, .int ru, .ref rp, .ref ru_, .ref rv, .int (nI na), .int nx, .int so, .ref rr, .ref rs, .ref rg, .ref rh, .int pa, .ref rz, .ref ry, .int bz, .int de, .int dp, .int io])), (ra, .inl (cI, 1000, .inl tA)), (rp, .inl (cI, 120, .inl tP)), (ru_, .inl (cI, 20, .inl (fun zj => nI (yF zj)))), (rv, .inl (cI, 20, .inl (fun zj => nI (yT zj))))] sz) := by
  refine ig_metI (fun (r : Int32) (u : Nat × Nat × Nat × (Nat → Int32) × (Nat → Nat) × (Nat → Nat)) => p_RM_path th si na tA tP yF yT r u.1 u.2.1 u.2.2.1 u.2.2.2.1 u.2.2.2.2.1 u.2.2.2.2.2) (fun (u : Nat × Nat × Nat × (Nat → Int32) × (Nat → Nat) × (Nat → Nat)) => [(o0, .inr (ciRM, [.int (nI u.1), .ref ra, .int (nI u.2.1), .ref rx, .ref rf, .ref rt, .ref rb, .ref rl, .int ru, .ref rp, .ref ru_, .ref rv, .int (nI u.2.2.1), .int nx, .int so, .ref rr, .ref rs, .ref rg, .ref rh, .int pa, .ref rz, .ref ry, .int bz, .int de, .int dp, .int io])), (ra, .inl (cI, 1000, .inl tA)), (rp, .inl (cI, 120, .inl u.2.2.2.1)), (ru_, .inl (cI, 20, .inl (fun zj => nI (u.2.2.2.2.1 zj)))), (rv, .inl (cI, 20, .inl (fun zj => nI (u.2.2.2.2.2 zj))))]) (by decide) rfl (Nat.le_of_ble_eq_true rfl) rfl (fun _ _ _ => rfl) ?_
  intro zp ze zs zm zargs zbelow zmeth zc zA zQ hx hb hml hown hts hK hN hA hret
  obtain ⟨K23, hK23⟩ : ∃ K : Nat → Nat → Nat → Nat → Nat → (Nat → Int32) → (Nat → Nat) → (Nat → Nat) → Prop, K = fun (g : Nat) (b : Nat) (thc : Nat) (sic : Nat) (nac : Nat) (tPc : Nat → Int32) (yFc : Nat → Nat) (yTc : Nat → Nat) => ig_W zp l ze ({ frames := 1, cells := 0, slots := 0, locals := 23 }) zs zm zargs zbelow zmeth zc (dC, dI) ig_cl0 zA zs.heap 3 0 0 zQ 23 [(0, .ref o0), (1, .int (nI g)), (2, .int (nI b))] [] [(o0, .inr (ciRM, [.int (nI thc), .ref ra, .int (nI sic), .ref rx, .ref rf, .ref rt, .ref rb, .ref rl, .int ru, .ref rp, .ref ru_, .ref rv, .int (nI nac), .int nx, .int so, .ref rr, .ref rs, .ref rg, .ref rh, .int pa, .ref rz, .ref ry, .int bz, .int de, .int dp, .int io])), (ra, .inl (cI, 1000, .inl tA)), (rp, .inl (cI, 120, .inl tPc)), (ru_, .inl (cI, 20, .inl (fun zj => nI (yFc zj)))), (rv, .inl (cI, 20, .inl (fun zj => nI (yTc zj))))] := ⟨_, rfl⟩
  obtain ⟨K92, hK92⟩ : ∃ K : Nat → Nat → Nat → Nat → (Nat → Int32) → (Nat → Nat) → (Nat → Nat) → Prop, K = fun (b : Nat) (thc : Nat) (sic : Nat) (nac : Nat) (tPc : Nat → Int32) (yFc : Nat → Nat) (yTc : Nat → Nat) => ig_W zp l ze ({ frames := 1, cells := 0, slots := 0, locals := 23 }) zs zm zargs zbelow zmeth zc (dC, dI) ig_cl0 zA zs.heap 3 0 0 zQ 92 [(0, .ref o0), (2, .int (nI b))] [] [(o0, .inr (ciRM, [.int (nI thc), .ref ra, .int (nI sic), .ref rx, .ref rf, .ref rt, .ref rb, .ref rl, .int ru, .ref rp, .ref ru_, .ref rv, .int (nI nac), .int nx, .int so, .ref rr, .ref rs, .ref rg, .ref rh, .int pa, .ref rz, .ref ry, .int bz, .int de, .int dp, .int io])), (ra, .inl (cI, 1000, .inl tA)), (rp, .inl (cI, 120, .inl tPc)), (ru_, .inl (cI, 20, .inl (fun zj => nI (yFc zj)))), (rv, .inl (cI, 20, .inl (fun zj => nI (yTc zj))))] := ⟨_, rfl⟩
  have j50 : ∀ (g : Nat) (b : Nat) (thc : Nat) (sic : Nat) (nac : Nat) (tPc : Nat → Int32) (yFc : Nat → Nat) (yTc : Nat → Nat), v_RM_path_50 th si na tA tP yF yT K23 K92 (p_RM_path th si na tA tP yF yT) g b thc sic nac tPc yFc yTc → ig_W zp l ze ({ frames := 1, cells := 0, slots := 0, locals := 23 }) zs zm zargs zbelow zmeth zc (dC, dI) ig_cl0 zA zs.heap 3 0 0 zQ 50 [(0, .ref o0), (1, .int (nI g)), (2, .int (nI b))] [] [(o0, .inr (ciRM, [.int (nI thc), .ref ra, .int (nI sic), .ref rx, .ref rf, .ref rt, .ref rb, .ref rl, .int ru, .ref rp, .ref ru_, .ref rv, .int (nI nac), .int nx, .int so, .ref rr, .ref rs, .ref rg, .ref rh, .int pa, .ref rz, .ref ry, .int bz, .int de, .int dp, .int io])), (ra, .inl (cI, 1000, .inl tA)), (rp, .inl (cI, 120, .inl tPc)), (ru_, .inl (cI, 20, .inl (fun zj => nI (yFc zj)))), (rv, .inl (cI, 20, .inl (fun zj => nI (yTc zj))))] := by
    intro g b thc sic nac tPc yFc yTc hv
    unfold v_RM_path_50 at hv
    refine ig_aload_n hx hb 0 d_RM_path_50 rfl rfl ?_
    refine ig_get hx hb hts in_RM hown hK 0 rfl rfl 10 (by decide) (hts _ kw_1_155) (fun _ h => h) rfl d_RM_path_51 ?_
    refine ig_aload_n hx hb 0 d_RM_path_54 rfl rfl ?_
    refine ig_get hx hb hts in_RM hown hK 0 rfl rfl 12 (by decide) (hts _ kw_1_157) (fun _ h => h) rfl d_RM_path_55 ?_
    refine ig_iload_n hx hb 1 d_RM_path_58 rfl rfl ?_
    obtain ⟨hc, hv⟩ := hv
    refine ig_iast (f' := fun zj => nI ((updN yFc nac g) zj)) (ws' := [(o0, .inr (ciRM, [.int (nI thc), .ref ra, .int (nI sic), .ref rx, .ref rf, .ref rt, .ref rb, .ref rl, .int ru, .ref rp, .ref ru_, .ref rv, .int (nI nac), .int nx, .int so, .ref rr, .ref rs, .ref rg, .ref rh, .int pa, .ref rz, .ref ry, .int bz, .int de, .int dp, .int io])), (ra, .inl (cI, 1000, .inl tA)), (rp, .inl (cI, 120, .inl tPc)), (ru_, .inl (cI, 20, .inl (fun zj => nI ((updN yFc nac g) zj)))), (rv, .inl (cI, 20, .inl (fun zj => nI (yTc zj))))]) hx hb hK 3 1 rfl rfl nac rfl hc (by decide) (upd_N yFc nac g) d_RM_path_59 rfl ?_
    refine ig_aload_n hx hb 0 d_RM_path_60 rfl rfl ?_
    refine ig_get hx hb hts in_RM hown hK 0 rfl rfl 11 (by decide) (hts _ kw_1_156) (fun _ h => h) rfl d_RM_path_61 ?_
    refine ig_aload_n hx hb 0 d_RM_path_64 rfl rfl ?_
    refine ig_get hx hb hts in_RM hown hK 0 rfl rfl 12 (by decide) (hts _ kw_1_157) (fun _ h => h) rfl d_RM_path_65 ?_
    refine ig_iload_n hx hb 2 d_RM_path_68 rfl rfl ?_
    obtain ⟨hc, hv⟩ := hv
    refine ig_iast (f' := fun zj => nI ((updN yTc nac b) zj)) (ws' := [(o0, .inr (ciRM, [.int (nI thc), .ref ra, .int (nI sic), .ref rx, .ref rf, .ref rt, .ref rb, .ref rl, .int ru, .ref rp, .ref ru_, .ref rv, .int (nI nac), .int nx, .int so, .ref rr, .ref rs, .ref rg, .ref rh, .int pa, .ref rz, .ref ry, .int bz, .int de, .int dp, .int io])), (ra, .inl (cI, 1000, .inl tA)), (rp, .inl (cI, 120, .inl tPc)), (ru_, .inl (cI, 20, .inl (fun zj => nI ((updN yFc nac g) zj)))), (rv, .inl (cI, 20, .inl (fun zj => nI ((updN yTc nac b) zj))))]) hx hb hK 4 1 rfl rfl nac rfl hc (by decide) (upd_N yTc nac b) d_RM_path_69 rfl ?_
    refine ig_aload_n hx hb 0 d_RM_path_70 rfl rfl ?_
    refine ig_dup hx hb d_RM_path_71 rfl ?_
    refine ig_get hx hb hts in_RM hown hK 0 rfl rfl 12 (by decide) (hts _ kw_1_157) (fun _ h => h) rfl d_RM_path_72 ?_
    refine ig_iconst (v := 1) hx hb d_RM_path_75 (by decide) ?_
    refine ig_iaddN hx hb nac 1 rfl rfl d_RM_path_76 ?_
    refine ig_put (ty := .int) (v := .int (nI (nac + 1))) (ws' := [(o0, .inr (ciRM, [.int (nI thc), .ref ra, .int (nI sic), .ref rx, .ref rf, .ref rt, .ref rb, .ref rl, .int ru, .ref rp, .ref ru_, .ref rv, .int (nI (nac + 1)), .int nx, .int so, .ref rr, .ref rs, .ref rg, .ref rh, .int pa, .ref rz, .ref ry, .int bz, .int de, .int dp, .int io])), (ra, .inl (cI, 1000, .inl tA)), (rp, .inl (cI, 120, .inl tPc)), (ru_, .inl (cI, 20, .inl (fun zj => nI ((updN yFc nac g) zj)))), (rv, .inl (cI, 20, .inl (fun zj => nI ((updN yTc nac b) zj))))]) hx hb hts in_RM t_RM t_RM_ok n_RM hown hK 0 rfl rfl 12 (by decide) (hts _ kw_1_157) (fun _ h => h) rfl (by decide +kernel) rfl rfl (Nat.le_of_ble_eq_true rfl) d_RM_path_77 rfl ?_
    refine ig_iload_n hx hb 2 d_RM_path_80 rfl rfl ?_
    refine ig_iconst (v := 1) hx hb d_RM_path_81 (by decide) ?_
    refine ig_iaddN hx hb b 1 rfl rfl d_RM_path_82 ?_
    refine ig_istore_n (lv' := [(1, .int (nI (b + 1))), (0, .ref o0), (2, .int (nI b))]) hx hb d_RM_path_83 rfl (by decide) rfl ?_
    refine ig_iinc (v := (nI (b + 1))) (lv' := [(2, .int (nI (b + 1))), (1, .int (nI (b + 1))), (0, .ref o0)]) hx hb 2 d_RM_path_84 rfl (ig_inc b 1 (by decide)) (by decide) rfl ?_
    refine ig_goto (tgt := 23) hx hb d_RM_path_87 (by decide) ?_
    refine ig_lv (lv' := [(0, .ref o0), (1, .int (nI (b + 1))), (2, .int (nI (b + 1)))]) [2, 1, 0] rfl ?_
    rw [hK23] at hv
    exact hv
  have k23 : ∀ (g : Nat) (b : Nat) (thc : Nat) (sic : Nat) (nac : Nat) (tPc : Nat → Int32) (yFc : Nat → Nat) (yTc : Nat → Nat), v_RM_path_23 th si na tA tP yF yT K23 K92 (p_RM_path th si na tA tP yF yT) g b thc sic nac tPc yFc yTc → K23 g b thc sic nac tPc yFc yTc := by
    intro g b thc sic nac tPc yFc yTc hv
    unfold v_RM_path_23 at hv
    rw [hK23]
    show ig_W zp l ze ({ frames := 1, cells := 0, slots := 0, locals := 23 }) zs zm zargs zbelow zmeth zc (dC, dI) ig_cl0 zA zs.heap 3 0 0 zQ 23 [(0, .ref o0), (1, .int (nI g)), (2, .int (nI b))] [] [(o0, .inr (ciRM, [.int (nI thc), .ref ra, .int (nI sic), .ref rx, .ref rf, .ref rt, .ref rb, .ref rl, .int ru, .ref rp, .ref ru_, .ref rv, .int (nI nac), .int nx, .int so, .ref rr, .ref rs, .ref rg, .ref rh, .int pa, .ref rz, .ref ry, .int bz, .int de, .int dp, .int io])), (ra, .inl (cI, 1000, .inl tA)), (rp, .inl (cI, 120, .inl tPc)), (ru_, .inl (cI, 20, .inl (fun zj => nI (yFc zj)))), (rv, .inl (cI, 20, .inl (fun zj => nI (yTc zj))))]
    refine ig_iload_n hx hb 2 d_RM_path_23 rfl rfl ?_
    refine ig_aload_n hx hb 0 d_RM_path_24 rfl rfl ?_
    refine ig_get hx hb hts in_RM hown hK 0 rfl rfl 2 (by decide) (hts _ kw_1_147) (fun _ h => h) rfl d_RM_path_25 ?_
    obtain ⟨h1, hv⟩ := hv
    obtain ⟨h2, hv⟩ := hv
    refine ig_icmp_gtN (tgt := 90) hx hb b sic rfl rfl d_RM_path_28 (by decide) h1 h2 (fun h => ?_) (fun h => ?_)
    · have hv := hv.1 h
      refine ig_iconst (v := 0) hx hb d_RM_path_90 (by decide) ?_
      refine ig_istore_n (lv' := [(2, .int 0), (0, .ref o0), (1, .int (nI g))]) hx hb d_RM_path_91 rfl (by decide) rfl ?_
      refine ig_lv (lv' := [(0, .ref o0), (2, .int 0)]) [1, 0] rfl ?_
      rw [hK92] at hv
      exact hv
    · have hv := hv.2 h
      refine ig_iload_n hx hb 2 d_RM_path_31 rfl rfl ?_
      refine ig_aload_n hx hb 0 d_RM_path_32 rfl rfl ?_
      refine ig_get hx hb hts in_RM hown hK 0 rfl rfl 2 (by decide) (hts _ kw_1_147) (fun _ h => h) rfl d_RM_path_33 ?_
      obtain ⟨h1, hv⟩ := hv
      obtain ⟨h2, hv⟩ := hv
      refine ig_icmp_eqN (tgt := 50) hx hb b sic rfl rfl d_RM_path_36 (by decide) h1 h2 (fun h => ?_) (fun h => ?_)
      · have hv := hv.1 h
        refine ig_lv (lv' := [(0, .ref o0), (1, .int (nI g)), (2, .int (nI b))]) [0, 1, 2] rfl ?_
        exact j50 _ _ _ _ _ _ _ _ hv
      · have hv := hv.2 h
        refine ig_aload_n hx hb 0 d_RM_path_39 rfl rfl ?_
        refine ig_get hx hb hts in_RM hown hK 0 rfl rfl 1 (by decide) (hts _ kw_1_146) (fun _ h => h) rfl d_RM_path_40 ?_
        refine ig_iload_n hx hb 2 d_RM_path_43 rfl rfl ?_
        obtain ⟨hc, hv⟩ := hv
        refine ig_iald (x := (tA b)) hx hb hK 1 1 rfl rfl b rfl hc (by decide) rfl d_RM_path_44 ?_
        refine ig_bipush (v := 47) hx hb d_RM_path_45 (by decide) ?_
        refine ig_icmp_ne (tgt := 84) hx hb d_RM_path_47 (by decide) (fun h => ?_) (fun h => ?_)
        · have hv := hv.1 h
          refine ig_iinc (v := (nI (b + 1))) (lv' := [(2, .int (nI (b + 1))), (0, .ref o0), (1, .int (nI g))]) hx hb 2 d_RM_path_84 rfl (ig_inc b 1 (by decide)) (by decide) rfl ?_
          refine ig_goto (tgt := 23) hx hb d_RM_path_87 (by decide) ?_
          refine ig_lv (lv' := [(0, .ref o0), (1, .int (nI g)), (2, .int (nI (b + 1)))]) [1, 2, 0] rfl ?_
          rw [hK23] at hv
          exact hv
        · have hv := hv.2 h
          refine ig_lv (lv' := [(0, .ref o0), (1, .int (nI g)), (2, .int (nI b))]) [0, 1, 2] rfl ?_
          exact j50 _ _ _ _ _ _ _ _ hv
  have k92 : ∀ (b : Nat) (thc : Nat) (sic : Nat) (nac : Nat) (tPc : Nat → Int32) (yFc : Nat → Nat) (yTc : Nat → Nat), v_RM_path_92 th si na tA tP yF yT K23 K92 (p_RM_path th si na tA tP yF yT) b thc sic nac tPc yFc yTc → K92 b thc sic nac tPc yFc yTc := by
    intro b thc sic nac tPc yFc yTc hv
    unfold v_RM_path_92 at hv
    rw [hK92]
    show ig_W zp l ze ({ frames := 1, cells := 0, slots := 0, locals := 23 }) zs zm zargs zbelow zmeth zc (dC, dI) ig_cl0 zA zs.heap 3 0 0 zQ 92 [(0, .ref o0), (2, .int (nI b))] [] [(o0, .inr (ciRM, [.int (nI thc), .ref ra, .int (nI sic), .ref rx, .ref rf, .ref rt, .ref rb, .ref rl, .int ru, .ref rp, .ref ru_, .ref rv, .int (nI nac), .int nx, .int so, .ref rr, .ref rs, .ref rg, .ref rh, .int pa, .ref rz, .ref ry, .int bz, .int de, .int dp, .int io])), (ra, .inl (cI, 1000, .inl tA)), (rp, .inl (cI, 120, .inl tPc)), (ru_, .inl (cI, 20, .inl (fun zj => nI (yFc zj)))), (rv, .inl (cI, 20, .inl (fun zj => nI (yTc zj))))]
    refine ig_iload_n hx hb 1 d_RM_path_92 rfl rfl ?_
    refine ig_aload_n hx hb 0 d_RM_path_93 rfl rfl ?_
    refine ig_get hx hb hts in_RM hown hK 0 rfl rfl 2 (by decide) (hts _ kw_1_147) (fun _ h => h) rfl d_RM_path_94 ?_
    obtain ⟨h1, hv⟩ := hv
    obtain ⟨h2, hv⟩ := hv
    refine ig_icmp_geN (tgt := 118) hx hb b sic rfl rfl d_RM_path_97 (by decide) h1 h2 (fun h => ?_) (fun h => ?_)
    · have hv := hv.1 h
      refine ig_aload_n hx hb 0 d_RM_path_118 rfl rfl ?_
      refine ig_iconst (v := 0) hx hb d_RM_path_119 (by decide) ?_
      refine ig_put (ty := .int) (v := .int 0) (ws' := [(o0, .inr (ciRM, [.int (nI thc), .ref ra, .int (nI 0), .ref rx, .ref rf, .ref rt, .ref rb, .ref rl, .int ru, .ref rp, .ref ru_, .ref rv, .int (nI nac), .int nx, .int so, .ref rr, .ref rs, .ref rg, .ref rh, .int pa, .ref rz, .ref ry, .int bz, .int de, .int dp, .int io])), (ra, .inl (cI, 1000, .inl tA)), (rp, .inl (cI, 120, .inl tPc)), (ru_, .inl (cI, 20, .inl (fun zj => nI (yFc zj)))), (rv, .inl (cI, 20, .inl (fun zj => nI (yTc zj))))]) hx hb hts in_RM t_RM t_RM_ok n_RM hown hK 0 rfl rfl 2 (by decide) (hts _ kw_1_147) (fun _ h => h) rfl (by decide +kernel) rfl rfl (Nat.le_of_ble_eq_true rfl) d_RM_path_120 rfl ?_
      refine ig_aload_n hx hb 0 d_RM_path_123 rfl rfl ?_
      refine ig_get hx hb hts in_RM hown hK 0 rfl rfl 12 (by decide) (hts _ kw_1_157) (fun _ h => h) rfl d_RM_path_124 ?_
      exact hret 127 _ (nI nac) (thc, 0, nac, tPc, yFc, yTc) d_RM_path_127 hv
    · have hv := hv.2 h
      refine ig_aload_n hx hb 0 d_RM_path_100 rfl rfl ?_
      refine ig_get hx hb hts in_RM hown hK 0 rfl rfl 9 (by decide) (hts _ kw_1_154) (fun _ h => h) rfl d_RM_path_101 ?_
      refine ig_iload_n hx hb 1 d_RM_path_104 rfl rfl ?_
      refine ig_aload_n hx hb 0 d_RM_path_105 rfl rfl ?_
      refine ig_get hx hb hts in_RM hown hK 0 rfl rfl 1 (by decide) (hts _ kw_1_146) (fun _ h => h) rfl d_RM_path_106 ?_
      refine ig_iload_n hx hb 1 d_RM_path_109 rfl rfl ?_
      obtain ⟨hc, hv⟩ := hv
      refine ig_iald (x := (tA b)) hx hb hK 1 1 rfl rfl b rfl hc (by decide) rfl d_RM_path_110 ?_
      obtain ⟨hc, hv⟩ := hv
      refine ig_iast (f' := upd tPc b (tA b)) (ws' := [(o0, .inr (ciRM, [.int (nI thc), .ref ra, .int (nI sic), .ref rx, .ref rf, .ref rt, .ref rb, .ref rl, .int ru, .ref rp, .ref ru_, .ref rv, .int (nI nac), .int nx, .int so, .ref rr, .ref rs, .ref rg, .ref rh, .int pa, .ref rz, .ref ry, .int bz, .int de, .int dp, .int io])), (ra, .inl (cI, 1000, .inl tA)), (rp, .inl (cI, 120, .inl (upd tPc b (tA b)))), (ru_, .inl (cI, 20, .inl (fun zj => nI (yFc zj)))), (rv, .inl (cI, 20, .inl (fun zj => nI (yTc zj))))]) hx hb hK 2 1 rfl rfl b rfl hc (by decide) rfl d_RM_path_111 rfl ?_
      refine ig_iinc (v := (nI (b + 1))) (lv' := [(2, .int (nI (b + 1))), (0, .ref o0)]) hx hb 1 d_RM_path_112 rfl (ig_inc b 1 (by decide)) (by decide) rfl ?_
      refine ig_goto (tgt := 92) hx hb d_RM_path_115 (by decide) ?_
      refine ig_lv (lv' := [(0, .ref o0), (2, .int (nI (b + 1)))]) [1, 0] rfl ?_
      rw [hK92] at hv
      exact hv
  have hv := t_RM_path th si na tA tP yF yT hr K23 K92 k23 k92
  unfold v_RM_path at hv
  refine ig_aload_n hx hb 0 d_RM_path_0 rfl rfl ?_
  refine ig_iconst (v := 0) hx hb d_RM_path_1 (by decide) ?_
  refine ig_put (ty := .int) (v := .int 0) (ws' := [(o0, .inr (ciRM, [.int (nI 0), .ref ra, .int (nI si), .ref rx, .ref rf, .ref rt, .ref rb, .ref rl, .int ru, .ref rp, .ref ru_, .ref rv, .int (nI na), .int nx, .int so, .ref rr, .ref rs, .ref rg, .ref rh, .int pa, .ref rz, .ref ry, .int bz, .int de, .int dp, .int io])), (ra, .inl (cI, 1000, .inl tA)), (rp, .inl (cI, 120, .inl tP)), (ru_, .inl (cI, 20, .inl (fun zj => nI (yF zj)))), (rv, .inl (cI, 20, .inl (fun zj => nI (yT zj))))]) hx hb hts in_RM t_RM t_RM_ok n_RM hown hK 0 rfl rfl 0 (by decide) (hts _ kw_1_145) (fun _ h => h) rfl (by decide +kernel) rfl rfl (Nat.le_of_ble_eq_true rfl) d_RM_path_2 rfl ?_
  refine ig_aload_n hx hb 0 d_RM_path_5 rfl rfl ?_
  refine ig_iconst (v := 0) hx hb d_RM_path_6 (by decide) ?_
  refine ig_put (ty := .int) (v := .int 0) (ws' := [(o0, .inr (ciRM, [.int (nI 0), .ref ra, .int (nI si), .ref rx, .ref rf, .ref rt, .ref rb, .ref rl, .int ru, .ref rp, .ref ru_, .ref rv, .int (nI 0), .int nx, .int so, .ref rr, .ref rs, .ref rg, .ref rh, .int pa, .ref rz, .ref ry, .int bz, .int de, .int dp, .int io])), (ra, .inl (cI, 1000, .inl tA)), (rp, .inl (cI, 120, .inl tP)), (ru_, .inl (cI, 20, .inl (fun zj => nI (yF zj)))), (rv, .inl (cI, 20, .inl (fun zj => nI (yT zj))))]) hx hb hts in_RM t_RM t_RM_ok n_RM hown hK 0 rfl rfl 12 (by decide) (hts _ kw_1_157) (fun _ h => h) rfl (by decide +kernel) rfl rfl (Nat.le_of_ble_eq_true rfl) d_RM_path_7 rfl ?_
  refine ig_aload_n hx hb 0 d_RM_path_10 rfl rfl ?_
  obtain ⟨hc, hv⟩ := hv
  refine ig_cVi (As := []) (rest := []) (wr := [(rp, .inl (cI, 120, .inl tP)), (ru_, .inl (cI, 20, .inl (fun zj => nI (yF zj)))), (rv, .inl (cI, 20, .inl (fun zj => nI (yT zj))))]) (ws' := fun u => [(o0, .inr (ciRM, [.int (nI 0), .ref ra, .int (nI si), .ref rx, .ref rf, .ref rt, .ref rb, .ref rl, .int ru, .ref rp, .ref ru_, .ref rv, .int (nI 0), .int nx, .int so, .ref rr, .ref rs, .ref rg, .ref rh, .int pa, .ref rz, .ref ry, .int bz, .int de, .int dp, .int io])), (ra, .inl (cI, 1000, .inl tA)), (rp, .inl (cI, 120, .inl tP)), (ru_, .inl (cI, 20, .inl (fun zj => nI (yF zj)))), (rv, .inl (cI, 20, .inl (fun zj => nI (yT zj))))]) hx hb hml hown hts hK hN hA (fun sz => c_RM_isPath l dC dI cC cI cZ cL o0 ra rx rf rt rb rl rp ru_ rv rr rs rg rh rz ry (nI 0) ru (nI 0) nx so pa bz de dp io si tA sz hc) ⟨callB_of 0 hts g_RM_isPath rfl rfl rfl (hts _ kw_0_5) (hts _ kw_2_65) (by decide +kernel) (by decide), (hts _ kw_2_67), (hts _ ks_RM_isPath)⟩ rfl rfl (Nat.le_of_ble_eq_true rfl) d_RM_path_11 (by decide) 0 rfl rfl [0, 1] [2, 3, 4] [3, 4, 0, 1, 2] rfl rfl (by decide) (by decide) (by decide) (fun _ => rfl) (fun _ => rfl) (fun r u hr => ?_)
  obtain ⟨rr, rfl, hr⟩ := hr
  unfold p_RM_isPath at hr
  subst hr
  refine ig_if_neB (tgt := 19) hx hb (sp_pok tA si) rfl d_RM_path_14 (by decide) (fun h => ?_) (fun h => ?_)
  · have hv := hv.1 h
    refine ig_iconst (v := 0) hx hb d_RM_path_19 (by decide) ?_
    refine ig_istore_n (lv' := [(1, .int 0), (0, .ref o0)]) hx hb d_RM_path_20 rfl (by decide) rfl ?_
    refine ig_iconst (v := 0) hx hb d_RM_path_21 (by decide) ?_
    refine ig_istore_n (lv' := [(2, .int 0), (1, .int 0), (0, .ref o0)]) hx hb d_RM_path_22 rfl (by decide) rfl ?_
    refine ig_lv (lv' := [(0, .ref o0), (1, .int 0), (2, .int 0)]) [2, 1, 0] rfl ?_
    rw [hK23] at hv
    exact hv
  · have hv := hv.2 h
    refine ig_iconst (v := (-1)) hx hb d_RM_path_17 (by decide) ?_
    exact hret 18 _ (-1) (0, si, 0, tP, yF, yT) d_RM_path_18 hv
theorem d_RM_decide_0 : decode b_RM_decide 0 = .ok (.aload_n 0, 1) := by decide +kernel
theorem d_RM_decide_1 : decode b_RM_decide 1 = .ok (.iconst 0, 1) := by decide +kernel
theorem d_RM_decide_2 : decode b_RM_decide 2 = .ok (.putfield 164, 3) := by decide +kernel
theorem d_RM_decide_5 : decode b_RM_decide 5 = .ok (.iconst 1, 1) := by decide +kernel
theorem d_RM_decide_6 : decode b_RM_decide 6 = .ok (.istore_n 2, 1) := by decide +kernel
theorem d_RM_decide_7 : decode b_RM_decide 7 = .ok (.iload_n 2, 1) := by decide +kernel
theorem d_RM_decide_8 : decode b_RM_decide 8 = .ok (.aload_n 0, 1) := by decide +kernel
theorem d_RM_decide_9 : decode b_RM_decide 9 = .ok (.getfield 135, 3) := by decide +kernel
theorem d_RM_decide_12 : decode b_RM_decide 12 = .ok (.if_icmp .gt 77, 3) := by decide +kernel
theorem d_RM_decide_15 : decode b_RM_decide 15 = .ok (.aload_n 0, 1) := by decide +kernel
theorem d_RM_decide_16 : decode b_RM_decide 16 = .ok (.getfield 164, 3) := by decide +kernel
theorem d_RM_decide_19 : decode b_RM_decide 19 = .ok (.ifCond .ne 70, 3) := by decide +kernel
theorem d_RM_decide_22 : decode b_RM_decide 22 = .ok (.aload_n 0, 1) := by decide +kernel
theorem d_RM_decide_23 : decode b_RM_decide 23 = .ok (.iload_n 2, 1) := by decide +kernel
theorem d_RM_decide_24 : decode b_RM_decide 24 = .ok (.putfield 168, 3) := by decide +kernel
theorem d_RM_decide_27 : decode b_RM_decide 27 = .ok (.aload_n 0, 1) := by decide +kernel
theorem d_RM_decide_28 : decode b_RM_decide 28 = .ok (.aload_n 0, 1) := by decide +kernel
theorem d_RM_decide_29 : decode b_RM_decide 29 = .ok (.iload_n 2, 1) := by decide +kernel
theorem d_RM_decide_30 : decode b_RM_decide 30 = .ok (.iload_n 2, 1) := by decide +kernel
theorem d_RM_decide_31 : decode b_RM_decide 31 = .ok (.aload_n 0, 1) := by decide +kernel
theorem d_RM_decide_32 : decode b_RM_decide 32 = .ok (.getfield 135, 3) := by decide +kernel
theorem d_RM_decide_35 : decode b_RM_decide 35 = .ok (.if_icmp .lt 7, 3) := by decide +kernel
theorem d_RM_decide_38 : decode b_RM_decide 38 = .ok (.iload_n 1, 1) := by decide +kernel
theorem d_RM_decide_39 : decode b_RM_decide 39 = .ok (.ifCond .eq 7, 3) := by decide +kernel
theorem d_RM_decide_42 : decode b_RM_decide 42 = .ok (.iconst 1, 1) := by decide +kernel
theorem d_RM_decide_43 : decode b_RM_decide 43 = .ok (.goto 4, 3) := by decide +kernel
theorem d_RM_decide_46 : decode b_RM_decide 46 = .ok (.iconst 0, 1) := by decide +kernel
theorem d_RM_decide_47 : decode b_RM_decide 47 = .ok (.invokevirtual 171, 3) := by decide +kernel
theorem d_RM_decide_50 : decode b_RM_decide 50 = .ok (.putfield 175, 3) := by decide +kernel
theorem d_RM_decide_53 : decode b_RM_decide 53 = .ok (.aload_n 0, 1) := by decide +kernel
theorem d_RM_decide_54 : decode b_RM_decide 54 = .ok (.aload_n 0, 1) := by decide +kernel
theorem d_RM_decide_55 : decode b_RM_decide 55 = .ok (.getfield 175, 3) := by decide +kernel
theorem d_RM_decide_58 : decode b_RM_decide 58 = .ok (.ifCond .lt 21, 3) := by decide +kernel
theorem d_RM_decide_61 : decode b_RM_decide 61 = .ok (.aload_n 0, 1) := by decide +kernel
theorem d_RM_decide_62 : decode b_RM_decide 62 = .ok (.getfield 22, 3) := by decide +kernel
theorem d_RM_decide_65 : decode b_RM_decide 65 = .ok (.aload_n 0, 1) := by decide +kernel
theorem d_RM_decide_66 : decode b_RM_decide 66 = .ok (.getfield 175, 3) := by decide +kernel
theorem d_RM_decide_69 : decode b_RM_decide 69 = .ok (.iaload, 1) := by decide +kernel
theorem d_RM_decide_70 : decode b_RM_decide 70 = .ok (.iconst 1, 1) := by decide +kernel
theorem d_RM_decide_71 : decode b_RM_decide 71 = .ok (.iand, 1) := by decide +kernel
theorem d_RM_decide_72 : decode b_RM_decide 72 = .ok (.ifCond .ne 7, 3) := by decide +kernel
theorem d_RM_decide_75 : decode b_RM_decide 75 = .ok (.iconst 1, 1) := by decide +kernel
theorem d_RM_decide_76 : decode b_RM_decide 76 = .ok (.goto 4, 3) := by decide +kernel
theorem d_RM_decide_79 : decode b_RM_decide 79 = .ok (.iconst 0, 1) := by decide +kernel
theorem d_RM_decide_80 : decode b_RM_decide 80 = .ok (.putfield 164, 3) := by decide +kernel
theorem d_RM_decide_83 : decode b_RM_decide 83 = .ok (.iinc 2 1, 3) := by decide +kernel
theorem d_RM_decide_86 : decode b_RM_decide 86 = .ok (.goto (-79), 3) := by decide +kernel
theorem d_RM_decide_89 : decode b_RM_decide 89 = .ok (.return_, 1) := by decide +kernel
abbrev w_RM_decide : List Cond := Cond.code y_RM_decide b_RM_decide 3 none :: ig_T
theorem g_RM_decide : GoodIn ig_T w_RM_decide := ig_T_good (ig_T_mem (List.mem_append_right _ (List.mem_append_right _ (List.mem_of_getElem? (i := 112) rfl))) rfl)
set_option maxHeartbeats 4000000 in
set_option maxRecDepth 100000 in
theorem c_RM_decide (l : Launch) (dC : Nat → ClassId) (dI : Nat → Nat → Nat) (cC cI cZ cL : ClassId) (o0 ra rx rf rt rb rl rp ru_ rv rr rs rg rh rz ry : Nat) (th : Int32) (si : Int32) (bz : Int32) (ru : Nat) (na : Nat) (nx : Nat) (so : Nat) (pa : Nat) (de : Int32) (dp : Nat) (io : Bool) (tX : Nat → Int32) (xF : Nat → Nat) (xT : Nat → Nat) (xB : Nat → Nat) (tP : Nat → Int32) (yF : Nat → Nat) (yT : Nat → Nat) (zR : Nat → Bool) (zF : Nat → Bool) (wF : Nat → Nat) (wT : Nat → Nat) (zT : Nat → Bool) (d : Bool) (sz : Nat) (hr : r_RM_decide ru na nx so pa de dp io tX xF xT xB tP yF yT zR zF wF wT zT d) : Met l y_RM_decide w_RM_decide ({ frames := 8, cells := 0, slots := 0, locals := 188 }) (ig_Pc (dC, dI) ig_cl0 [(cC, .char), (cI, .int), (cZ, .boolean), (cL, .long)] [.ref o0, .int (bI d)] [(o0, .inr (ciRM, [.int th, .ref ra, .int si, .ref rx, .ref rf, .ref rt, .ref rb, .ref rl, .int (nI ru), .ref rp, .ref ru_, .ref rv, .int (nI na), .int (nI nx), .int (nI so), .ref rr, .ref rs, .ref rg, .ref rh, .int (nI pa), .ref rz, .ref ry, .int bz, .int de, .int (nI dp), .int (bI io)])), (rx, .inl (cI, 1000, .inl tX)), (rf, .inl (cI, 60, .inl (fun zj => nI (xF zj)))), (rt, .inl (cI, 60, .inl (fun zj => nI (xT zj)))), (rb, .inl (cI, 60, .inl (fun zj => nI (xB zj)))), (rp, .inl (cI, 120, .inl tP)), (ru_, .inl (cI, 20, .inl (fun zj => nI (yF zj)))), (rv, .inl (cI, 20, .inl (fun zj => nI (yT zj)))), (rr, .inl (cZ, 1001, .inl (fun zj => bI (zR zj)))), (rs, .inl (cZ, 1001, .inl (fun zj => bI (zF zj)))), (rg, .inl (cI, 1001, .inl (fun zj => nI (wF zj)))), (rh, .inl (cI, 1001, .inl (fun zj => nI (wT zj)))), (rz, .inl (cZ, 21021, .inl (fun zj => bI (zT zj))))] sz) (va_Qv (fun (u : Nat × Nat × (Nat → Bool) × (Nat → Bool) × (Nat → Bool) × Nat × (Nat → Nat) × (Nat → Nat) × Int32 × Nat × Bool) => p_RM_decide ru na nx so pa de dp io tX xF xT xB tP yF yT zR zF wF wT zT d u.1 u.2.1 u.2.2.1 u.2.2.2.1 u.2.2.2.2.1 u.2.2.2.2.2.1 u.2.2.2.2.2.2.1 u.2.2.2.2.2.2.2.1 u.2.2.2.2.2.2.2.2.1 u.2.2.2.2.2.2.2.2.2.1 u.2.2.2.2.2.2.2.2.2.2) (fun u t => va_P (dC, dI) ig_cl0 ((fun (u : Nat × Nat × (Nat → Bool) × (Nat → Bool) × (Nat → Bool) × Nat × (Nat → Nat) × (Nat → Nat) × Int32 × Nat × Bool) => [(o0, .inr (ciRM, [.int th, .ref ra, .int si, .ref rx, .ref rf, .ref rt, .ref rb, .ref rl, .int (nI ru), .ref rp, .ref ru_, .ref rv, .int (nI na), .int (nI u.1), .int (nI u.2.1), .ref rr, .ref rs, .ref rg, .ref rh, .int (nI u.2.2.2.2.2.1), .ref rz, .ref ry, .int bz, .int u.2.2.2.2.2.2.2.2.1, .int (nI u.2.2.2.2.2.2.2.2.2.1), .int (bI u.2.2.2.2.2.2.2.2.2.2)])), (rx, .inl (cI, 1000, .inl tX)), (rf, .inl (cI, 60, .inl (fun zj => nI (xF zj)))), (rt, .inl (cI, 60, .inl (fun zj => nI (xT zj)))), (rb, .inl (cI, 60, .inl (fun zj => nI (xB zj)))), (rp, .inl (cI, 120, .inl tP)), (ru_, .inl (cI, 20, .inl (fun zj => nI (yF zj)))), (rv, .inl (cI, 20, .inl (fun zj => nI (yT zj)))), (rr, .inl (cZ, 1001, .inl (fun zj => bI (u.2.2.1 zj)))), (rs, .inl (cZ, 1001, .inl (fun zj => bI (u.2.2.2.1 zj)))), (rg, .inl (cI, 1001, .inl (fun zj => nI (u.2.2.2.2.2.2.1 zj)))), (rh, .inl (cI, 1001, .inl (fun zj => nI (u.2.2.2.2.2.2.2.1 zj)))), (rz, .inl (cZ, 21021, .inl (fun zj => bI (u.2.2.2.2.1 zj))))]) u) t.heap ∧ va_D (va_A [(o0, .inr (ciRM, [.int th, .ref ra, .int si, .ref rx, .ref rf, .ref rt, .ref rb, .ref rl, .int (nI ru), .ref rp, .ref ru_, .ref rv, .int (nI na), .int (nI nx), .int (nI so), .ref rr, .ref rs, .ref rg, .ref rh, .int (nI pa), .ref rz, .ref ry, .int bz, .int de, .int (nI dp), .int (bI io)])), (rx, .inl (cI, 1000, .inl tX)), (rf, .inl (cI, 60, .inl (fun zj => nI (xF zj)))), (rt, .inl (cI, 60, .inl (fun zj => nI (xT zj)))), (rb, .inl (cI, 60, .inl (fun zj => nI (xB zj)))), (rp, .inl (cI, 120, .inl tP)), (ru_, .inl (cI, 20, .inl (fun zj => nI (yF zj)))), (rv, .inl (cI, 20, .inl (fun zj => nI (yT zj)))), (rr, .inl (cZ, 1001, .inl (fun zj => bI (zR zj)))), (rs, .inl (cZ, 1001, .inl (fun zj => bI (zF zj)))), (rg, .inl (cI, 1001, .inl (fun zj => nI (wF zj)))), (rh, .inl (cI, 1001, .inl (fun zj => nI (wT zj)))), (rz, .inl (cZ, 21021, .inl (fun zj => bI (zT zj))))] sz) ((fun (u : Nat × Nat × (Nat → Bool) × (Nat → Bool) × (Nat → Bool) × Nat × (Nat → Nat) × (Nat → Nat) × Int32 × Nat × Bool) => [(o0, .inr (ciRM, [.int th, .ref ra, .int si, .ref rx, .ref rf, .ref rt, .ref rb, .ref rl, .int (nI ru), .ref rp, .ref ru_, .ref rv, .int (nI na), .int (nI u.1), .int (nI u.2.1), .ref rr, .ref rs, .ref rg, .ref rh, .int (nI u.2.2.2.2.2.1), .ref rz, .ref ry, .int bz, .int u.2.2.2.2.2.2.2.2.1, .int (nI u.2.2.2.2.2.2.2.2.2.1), .int (bI u.2.2.2.2.2.2.2.2.2.2)])), (rx, .inl (cI, 1000, .inl tX)), (rf, .inl (cI, 60, .inl (fun zj => nI (xF zj)))), (rt, .inl (cI, 60, .inl (fun zj => nI (xT zj)))), (rb, .inl (cI, 60, .inl (fun zj => nI (xB zj)))), (rp, .inl (cI, 120, .inl tP)), (ru_, .inl (cI, 20, .inl (fun zj => nI (yF zj)))), (rv, .inl (cI, 20, .inl (fun zj => nI (yT zj)))), (rr, .inl (cZ, 1001, .inl (fun zj => bI (u.2.2.1 zj)))), (rs, .inl (cZ, 1001, .inl (fun zj => bI (u.2.2.2.1 zj)))), (rg, .inl (cI, 1001, .inl (fun zj => nI (u.2.2.2.2.2.2.1 zj)))), (rh, .inl (cI, 1001, .inl (fun zj => nI (u.2.2.2.2.2.2.2.1 zj)))), (rz, .inl (cZ, 21021, .inl (fun zj => bI (u.2.2.2.2.1 zj))))]) u)) (va_A [(o0, .inr (ciRM, [.int th, .ref ra, .int si, .ref rx, .ref rf, .ref rt, .ref rb, .ref rl, .int (nI ru), .ref rp, .ref ru_, .ref rv, .int (nI na), .int (nI nx), .int (nI so), .ref rr, .ref rs, .ref rg, .ref rh, .int (nI pa), .ref rz, .ref ry, .int bz, .int de, .int (nI dp), .int (bI io)])), (rx, .inl (cI, 1000, .inl tX)), (rf, .inl (cI, 60, .inl (fun zj => nI (xF zj)))), (rt, .inl (cI, 60, .inl (fun zj => nI (xT zj)))), (rb, .inl (cI, 60, .inl (fun zj => nI (xB zj)))), (rp, .inl (cI, 120, .inl tP)), (ru_, .inl (cI, 20, .inl (fun zj => nI (yF zj)))), (rv, .inl (cI, 20, .inl (fun zj => nI (yT zj)))), (rr, .inl (cZ, 1001, .inl (fun zj => bI (zR zj)))), (rs, .inl (cZ, 1001, .inl (fun zj => bI (zF zj)))), (rg, .inl (cI, 1001, .inl (fun zj => nI (wF zj)))), (rh, .inl (cI, 1001, .inl (fun zj => nI (wT zj)))), (rz, .inl (cZ, 21021, .inl (fun zj => bI (zT zj))))] sz)) 0 0 (va_A [(o0, .inr (ciRM, [.int th, .ref ra, .int si, .ref rx, .ref rf, .ref rt, .ref rb, .ref rl, .int (nI ru), .ref rp, .ref ru_, .ref rv, .int (nI na), .int (nI nx), .int (nI so), .ref rr, .ref rs, .ref rg, .ref rh, .int (nI pa), .ref rz, .ref ry, .int bz, .int de, .int (nI dp), .int (bI io)])), (rx, .inl (cI, 1000, .inl tX)), (rf, .inl (cI, 60, .inl (fun zj => nI (xF zj)))), (rt, .inl (cI, 60, .inl (fun zj => nI (xT zj)))), (rb, .inl (cI, 60, .inl (fun zj => nI (xB zj)))), (rp, .inl (cI, 120, .inl tP)), (ru_, .inl (cI, 20, .inl (fun zj => nI (yF zj)))), (rv, .inl (cI, 20, .inl (fun zj => nI (yT zj)))), (rr, .inl (cZ, 1001, .inl (fun zj => bI (zR zj)))), (rs, .inl (cZ, 1001, .inl (fun zj => bI (zF zj)))), (rg, .inl (cI, 1001, .inl (fun zj => nI (wF zj)))), (rh, .inl (cI, 1001, .inl (fun zj => nI (wT zj)))), (rz, .inl (cZ, 21021, .inl (fun zj => bI (zT zj))))] sz) := by
  refine ig_metV (fun (u : Nat × Nat × (Nat → Bool) × (Nat → Bool) × (Nat → Bool) × Nat × (Nat → Nat) × (Nat → Nat) × Int32 × Nat × Bool) => p_RM_decide ru na nx so pa de dp io tX xF xT xB tP yF yT zR zF wF wT zT d u.1 u.2.1 u.2.2.1 u.2.2.2.1 u.2.2.2.2.1 u.2.2.2.2.2.1 u.2.2.2.2.2.2.1 u.2.2.2.2.2.2.2.1 u.2.2.2.2.2.2.2.2.1 u.2.2.2.2.2.2.2.2.2.1 u.2.2.2.2.2.2.2.2.2.2) (fun (u : Nat × Nat × (Nat → Bool) × (Nat → Bool) × (Nat → Bool) × Nat × (Nat → Nat) × (Nat → Nat) × Int32 × Nat × Bool) => [(o0, .inr (ciRM, [.int th, .ref ra, .int si, .ref rx, .ref rf, .ref rt, .ref rb, .ref rl, .int (nI ru), .ref rp, .ref ru_, .ref rv, .int (nI na), .int (nI u.1), .int (nI u.2.1), .ref rr, .ref rs, .ref rg, .ref rh, .int (nI u.2.2.2.2.2.1), .ref rz, .ref ry, .int bz, .int u.2.2.2.2.2.2.2.2.1, .int (nI u.2.2.2.2.2.2.2.2.2.1), .int (bI u.2.2.2.2.2.2.2.2.2.2)])), (rx, .inl (cI, 1000, .inl tX)), (rf, .inl (cI, 60, .inl (fun zj => nI (xF zj)))), (rt, .inl (cI, 60, .inl (fun zj => nI (xT zj)))), (rb, .inl (cI, 60, .inl (fun zj => nI (xB zj)))), (rp, .inl (cI, 120, .inl tP)), (ru_, .inl (cI, 20, .inl (fun zj => nI (yF zj)))), (rv, .inl (cI, 20, .inl (fun zj => nI (yT zj)))), (rr, .inl (cZ, 1001, .inl (fun zj => bI (u.2.2.1 zj)))), (rs, .inl (cZ, 1001, .inl (fun zj => bI (u.2.2.2.1 zj)))), (rg, .inl (cI, 1001, .inl (fun zj => nI (u.2.2.2.2.2.2.1 zj)))), (rh, .inl (cI, 1001, .inl (fun zj => nI (u.2.2.2.2.2.2.2.1 zj)))), (rz, .inl (cZ, 21021, .inl (fun zj => bI (u.2.2.2.2.1 zj))))]) (by decide) rfl (Nat.le_of_ble_eq_true rfl) rfl ?_
  intro zp ze zs zm zargs zbelow zmeth zc zA zQ hx hb hml hown hts hK hN hA hret
  obtain ⟨K7, hK7⟩ : ∃ K : Nat → Nat → Nat → Nat → Int32 → Nat → Bool → (Nat → Bool) → (Nat → Bool) → (Nat → Nat) → (Nat → Nat) → (Nat → Bool) → Prop, K = fun (b : Nat) (nxc : Nat) (soc : Nat) (pac : Nat) (dec : Int32) (dpc : Nat) (ioc : Bool) (zRc : Nat → Bool) (zFc : Nat → Bool) (wFc : Nat → Nat) (wTc : Nat → Nat) (zTc : Nat → Bool) => ig_W zp l ze ({ frames := 8, cells := 0, slots := 0, locals := 188 }) zs zm zargs zbelow zmeth zc (dC, dI) ig_cl0 zA zs.heap 3 0 0 zQ 7 [(0, .ref o0), (1, .int (bI d)), (2, .int (nI b))] [] [(o0, .inr (ciRM, [.int th, .ref ra, .int si, .ref rx, .ref rf, .ref rt, .ref rb, .ref rl, .int (nI ru), .ref rp, .ref ru_, .ref rv, .int (nI na), .int (nI nxc), .int (nI soc), .ref rr, .ref rs, .ref rg, .ref rh, .int (nI pac), .ref rz, .ref ry, .int bz, .int dec, .int (nI dpc), .int (bI ioc)])), (rx, .inl (cI, 1000, .inl tX)), (rf, .inl (cI, 60, .inl (fun zj => nI (xF zj)))), (rt, .inl (cI, 60, .inl (fun zj => nI (xT zj)))), (rb, .inl (cI, 60, .inl (fun zj => nI (xB zj)))), (rp, .inl (cI, 120, .inl tP)), (ru_, .inl (cI, 20, .inl (fun zj => nI (yF zj)))), (rv, .inl (cI, 20, .inl (fun zj => nI (yT zj)))), (rr, .inl (cZ, 1001, .inl (fun zj => bI (zRc zj)))), (rs, .inl (cZ, 1001, .inl (fun zj => bI (zFc zj)))), (rg, .inl (cI, 1001, .inl (fun zj => nI (wFc zj)))), (rh, .inl (cI, 1001, .inl (fun zj => nI (wTc zj)))), (rz, .inl (cZ, 21021, .inl (fun zj => bI (zTc zj))))] := ⟨_, rfl⟩
  have j80 : ∀ (b : Nat) (s0 : Bool) (nxc : Nat) (soc : Nat) (pac : Nat) (dec : Int32) (dpc : Nat) (ioc : Bool) (zRc : Nat → Bool) (zFc : Nat → Bool) (wFc : Nat → Nat) (wTc : Nat → Nat) (zTc : Nat → Bool), v_RM_decide_80 ru na nx so pa de dp io tX xF xT xB tP yF yT zR zF wF wT zT d K7 (p_RM_decide ru na nx so pa de dp io tX xF xT xB tP yF yT zR zF wF wT zT d) b s0 nxc soc pac dec dpc ioc zRc zFc wFc wTc zTc → ig_W zp l ze ({ frames := 8, cells := 0, slots := 0, locals := 188 }) zs zm zargs zbelow zmeth zc (dC, dI) ig_cl0 zA zs.heap 3 0 0 zQ 80 [(0, .ref o0), (1, .int (bI d)), (2, .int (nI b))] [.int (bI s0), .ref o0] [(o0, .inr (ciRM, [.int th, .ref ra, .int si, .ref rx, .ref rf, .ref rt, .ref rb, .ref rl, .int (nI ru), .ref rp, .ref ru_, .ref rv, .int (nI na), .int (nI nxc), .int (nI soc), .ref rr, .ref rs, .ref rg, .ref rh, .int (nI pac), .ref rz, .ref ry, .int bz, .int dec, .int (nI dpc), .int (bI ioc)])), (rx, .inl (cI, 1000, .inl tX)), (rf, .inl (cI, 60, .inl (fun zj => nI (xF zj)))), (rt, .inl (cI, 60, .inl (fun zj => nI (xT zj)))), (rb, .inl (cI, 60, .inl (fun zj => nI (xB zj)))), (rp, .inl (cI, 120, .inl tP)), (ru_, .inl (cI, 20, .inl (fun zj => nI (yF zj)))), (rv, .inl (cI, 20, .inl (fun zj => nI (yT zj)))), (rr, .inl (cZ, 1001, .inl (fun zj => bI (zRc zj)))), (rs, .inl (cZ, 1001, .inl (fun zj => bI (zFc zj)))), (rg, .inl (cI, 1001, .inl (fun zj => nI (wFc zj)))), (rh, .inl (cI, 1001, .inl (fun zj => nI (wTc zj)))), (rz, .inl (cZ, 21021, .inl (fun zj => bI (zTc zj))))] := by
    intro b s0 nxc soc pac dec dpc ioc zRc zFc wFc wTc zTc hv
    unfold v_RM_decide_80 at hv
    refine ig_put (ty := .boolean) (v := .int (bI s0)) (ws' := [(o0, .inr (ciRM, [.int th, .ref ra, .int si, .ref rx, .ref rf, .ref rt, .ref rb, .ref rl, .int (nI ru), .ref rp, .ref ru_, .ref rv, .int (nI na), .int (nI nxc), .int (nI soc), .ref rr, .ref rs, .ref rg, .ref rh, .int (nI pac), .ref rz, .ref ry, .int bz, .int dec, .int (nI dpc), .int (bI s0)])), (rx, .inl (cI, 1000, .inl tX)), (rf, .inl (cI, 60, .inl (fun zj => nI (xF zj)))), (rt, .inl (cI, 60, .inl (fun zj => nI (xT zj)))), (rb, .inl (cI, 60, .inl (fun zj => nI (xB zj)))), (rp, .inl (cI, 120, .inl tP)), (ru_, .inl (cI, 20, .inl (fun zj => nI (yF zj)))), (rv, .inl (cI, 20, .inl (fun zj => nI (yT zj)))), (rr, .inl (cZ, 1001, .inl (fun zj => bI (zRc zj)))), (rs, .inl (cZ, 1001, .inl (fun zj => bI (zFc zj)))), (rg, .inl (cI, 1001, .inl (fun zj => nI (wFc zj)))), (rh, .inl (cI, 1001, .inl (fun zj => nI (wTc zj)))), (rz, .inl (cZ, 21021, .inl (fun zj => bI (zTc zj))))]) hx hb hts in_RM t_RM t_RM_ok n_RM hown hK 0 rfl rfl 25 (by decide) (hts _ kw_1_170) (fun _ h => h) rfl (by decide +kernel) (bI_ret s0) (bI_fit s0) (Nat.le_of_ble_eq_true rfl) d_RM_decide_80 rfl ?_
    refine ig_iinc (v := (nI (b + 1))) (lv' := [(2, .int (nI (b + 1))), (0, .ref o0), (1, .int (bI d))]) hx hb 2 d_RM_decide_83 rfl (ig_inc b 1 (by decide)) (by decide) rfl ?_
    refine ig_goto (tgt := 7) hx hb d_RM_decide_86 (by decide) ?_
    refine ig_lv (lv' := [(0, .ref o0), (1, .int (bI d)), (2, .int (nI (b + 1)))]) [1, 2, 0] rfl ?_
    rw [hK7] at hv
    exact hv
  have j79 : ∀ (b : Nat) (nxc : Nat) (soc : Nat) (pac : Nat) (dec : Int32) (dpc : Nat) (ioc : Bool) (zRc : Nat → Bool) (zFc : Nat → Bool) (wFc : Nat → Nat) (wTc : Nat → Nat) (zTc : Nat → Bool), v_RM_decide_79 ru na nx so pa de dp io tX xF xT xB tP yF yT zR zF wF wT zT d K7 (p_RM_decide ru na nx so pa de dp io tX xF xT xB tP yF yT zR zF wF wT zT d) b nxc soc pac dec dpc ioc zRc zFc wFc wTc zTc → ig_W zp l ze ({ frames := 8, cells := 0, slots := 0, locals := 188 }) zs zm zargs zbelow zmeth zc (dC, dI) ig_cl0 zA zs.heap 3 0 0 zQ 79 [(0, .ref o0), (1, .int (bI d)), (2, .int (nI b))] [.ref o0] [(o0, .inr (ciRM, [.int th, .ref ra, .int si, .ref rx, .ref rf, .ref rt, .ref rb, .ref rl, .int (nI ru), .ref rp, .ref ru_, .ref rv, .int (nI na), .int (nI nxc), .int (nI soc), .ref rr, .ref rs, .ref rg, .ref rh, .int (nI pac), .ref rz, .ref ry, .int bz, .int dec, .int (nI dpc), .int (bI ioc)])), (rx, .inl (cI, 1000, .inl tX)), (rf, .inl (cI, 60, .inl (fun zj => nI (xF zj)))), (rt, .inl (cI, 60, .inl (fun zj => nI (xT zj)))), (rb, .inl (cI, 60, .inl (fun zj => nI (xB zj)))), (rp, .inl (cI, 120, .inl tP)), (ru_, .inl (cI, 20, .inl (fun zj => nI (yF zj)))), (rv, .inl (cI, 20, .inl (fun zj => nI (yT zj)))), (rr, .inl (cZ, 1001, .inl (fun zj => bI (zRc zj)))), (rs, .inl (cZ, 1001, .inl (fun zj => bI (zFc zj)))), (rg, .inl (cI, 1001, .inl (fun zj => nI (wFc zj)))), (rh, .inl (cI, 1001, .inl (fun zj => nI (wTc zj)))), (rz, .inl (cZ, 21021, .inl (fun zj => bI (zTc zj))))] := by
    intro b nxc soc pac dec dpc ioc zRc zFc wFc wTc zTc hv
    unfold v_RM_decide_79 at hv
    refine ig_iconst (v := 0) hx hb d_RM_decide_79 (by decide) ?_
    refine ig_lv (lv' := [(0, .ref o0), (1, .int (bI d)), (2, .int (nI b))]) [0, 1, 2] rfl ?_
    exact j80 _ _ _ _ _ _ _ _ _ _ _ _ _ hv
  have j47 : ∀ (b : Nat) (s0 : Bool) (s1 : Nat) (nxc : Nat) (soc : Nat) (pac : Nat) (dec : Int32) (dpc : Nat) (ioc : Bool) (zRc : Nat → Bool) (zFc : Nat → Bool) (wFc : Nat → Nat) (wTc : Nat → Nat) (zTc : Nat → Bool), v_RM_decide_47 ru na nx so pa de dp io tX xF xT xB tP yF yT zR zF wF wT zT d K7 (p_RM_decide ru na nx so pa de dp io tX xF xT xB tP yF yT zR zF wF wT zT d) b s0 s1 nxc soc pac dec dpc ioc zRc zFc wFc wTc zTc → ig_W zp l ze ({ frames := 8, cells := 0, slots := 0, locals := 188 }) zs zm zargs zbelow zmeth zc (dC, dI) ig_cl0 zA zs.heap 3 0 0 zQ 47 [(0, .ref o0), (1, .int (bI d)), (2, .int (nI b))] [.int (bI s0), .int (nI s1), .ref o0, .ref o0] [(o0, .inr (ciRM, [.int th, .ref ra, .int si, .ref rx, .ref rf, .ref rt, .ref rb, .ref rl, .int (nI ru), .ref rp, .ref ru_, .ref rv, .int (nI na), .int (nI nxc), .int (nI soc), .ref rr, .ref rs, .ref rg, .ref rh, .int (nI pac), .ref rz, .ref ry, .int bz, .int dec, .int (nI dpc), .int (bI ioc)])), (rx, .inl (cI, 1000, .inl tX)), (rf, .inl (cI, 60, .inl (fun zj => nI (xF zj)))), (rt, .inl (cI, 60, .inl (fun zj => nI (xT zj)))), (rb, .inl (cI, 60, .inl (fun zj => nI (xB zj)))), (rp, .inl (cI, 120, .inl tP)), (ru_, .inl (cI, 20, .inl (fun zj => nI (yF zj)))), (rv, .inl (cI, 20, .inl (fun zj => nI (yT zj)))), (rr, .inl (cZ, 1001, .inl (fun zj => bI (zRc zj)))), (rs, .inl (cZ, 1001, .inl (fun zj => bI (zFc zj)))), (rg, .inl (cI, 1001, .inl (fun zj => nI (wFc zj)))), (rh, .inl (cI, 1001, .inl (fun zj => nI (wTc zj)))), (rz, .inl (cZ, 21021, .inl (fun zj => bI (zTc zj))))] := by
    intro b s0 s1 nxc soc pac dec dpc ioc zRc zFc wFc wTc zTc hv
    unfold v_RM_decide_47 at hv
    obtain ⟨hc, hv⟩ := hv
    refine ig_cVi (As := [.int (nI s1), .int (bI s0)]) (rest := [.ref o0]) (wr := []) (ws' := fun u => [(o0, .inr (ciRM, [.int th, .ref ra, .int si, .ref rx, .ref rf, .ref rt, .ref rb, .ref rl, .int (nI ru), .ref rp, .ref ru_, .ref rv, .int (nI na), .int (nI u.1), .int (nI u.2.1), .ref rr, .ref rs, .ref rg, .ref rh, .int (nI u.2.2.2.2.2.1), .ref rz, .ref ry, .int bz, .int dec, .int (nI dpc), .int (bI ioc)])), (rx, .inl (cI, 1000, .inl tX)), (rf, .inl (cI, 60, .inl (fun zj => nI (xF zj)))), (rt, .inl (cI, 60, .inl (fun zj => nI (xT zj)))), (rb, .inl (cI, 60, .inl (fun zj => nI (xB zj)))), (rp, .inl (cI, 120, .inl tP)), (ru_, .inl (cI, 20, .inl (fun zj => nI (yF zj)))), (rv, .inl (cI, 20, .inl (fun zj => nI (yT zj)))), (rr, .inl (cZ, 1001, .inl (fun zj => bI (u.2.2.1 zj)))), (rs, .inl (cZ, 1001, .inl (fun zj => bI (u.2.2.2.1 zj)))), (rg, .inl (cI, 1001, .inl (fun zj => nI (u.2.2.2.2.2.2.1 zj)))), (rh, .inl (cI, 1001, .inl (fun zj => nI (u.2.2.2.2.2.2.2 zj)))), (rz, .inl (cZ, 21021, .inl (fun zj => bI (u.2.2.2.2.1 zj))))]) hx hb hml hown hts hK hN hA (fun sz => c_RM_last l dC dI cC cI cZ cL o0 ra rx rf rt rb rl rp ru_ rv rr rs rg rh rz ry th si (nI na) bz dec (nI dpc) (bI ioc) ru nxc soc pac tX xF xT xB tP yF yT zRc zFc wFc wTc zTc s1 s0 sz hc) ⟨callB_of 2 hts g_RM_last rfl rfl rfl (hts _ kw_0_5) (hts _ kw_2_113) (by decide +kernel) (by decide), (hts _ kw_2_115), (hts _ ks_RM_last)⟩ rfl rfl (Nat.le_of_ble_eq_true rfl) d_RM_decide_47 (by decide) 0 rfl rfl [0, 1, 2, 3, 4, 5, 6, 7, 8, 9, 10, 11, 12] [] [0, 1, 2, 3, 4, 5, 6, 7, 8, 9, 10, 11, 12] rfl rfl (by decide) (by decide) (by decide) (fun _ => rfl) (fun _ => rfl) (fun r u hr => ?_)
    obtain ⟨nx1, so2, zR3, zF4, zT5, pa6, wF7, wT8⟩ := u
    unfold p_RM_last at hr
    subst hr
    have hv := hv nx1 so2 zR3 zF4 zT5 pa6 wF7 wT8
    refine ig_put (ty := .int) (v := .int (sp_lrg tX xF xT xB tP yF yT ru s1 s0)) (ws' := [(o0, .inr (ciRM, [.int th, .ref ra, .int si, .ref rx, .ref rf, .ref rt, .ref rb, .ref rl, .int (nI ru), .ref rp, .ref ru_, .ref rv, .int (nI na), .int (nI nx1), .int (nI so2), .ref rr, .ref rs, .ref rg, .ref rh, .int (nI pa6), .ref rz, .ref ry, .int bz, .int (sp_lrg tX xF xT xB tP yF yT ru s1 s0), .int (nI dpc), .int (bI ioc)])), (rx, .inl (cI, 1000, .inl tX)), (rf, .inl (cI, 60, .inl (fun zj => nI (xF zj)))), (rt, .inl (cI, 60, .inl (fun zj => nI (xT zj)))), (rb, .inl (cI, 60, .inl (fun zj => nI (xB zj)))), (rp, .inl (cI, 120, .inl tP)), (ru_, .inl (cI, 20, .inl (fun zj => nI (yF zj)))), (rv, .inl (cI, 20, .inl (fun zj => nI (yT zj)))), (rr, .inl (cZ, 1001, .inl (fun zj => bI (zR3 zj)))), (rs, .inl (cZ, 1001, .inl (fun zj => bI (zF4 zj)))), (rg, .inl (cI, 1001, .inl (fun zj => nI (wF7 zj)))), (rh, .inl (cI, 1001, .inl (fun zj => nI (wT8 zj)))), (rz, .inl (cZ, 21021, .inl (fun zj => bI (zT5 zj))))]) hx hb hts in_RM t_RM t_RM_ok n_RM hown hK 0 rfl rfl 23 (by decide) (hts _ kw_1_168) (fun _ h => h) rfl (by decide +kernel) rfl rfl (Nat.le_of_ble_eq_true rfl) d_RM_decide_50 rfl ?_
    refine ig_aload_n hx hb 0 d_RM_decide_53 rfl rfl ?_
    refine ig_aload_n hx hb 0 d_RM_decide_54 rfl rfl ?_
    refine ig_get hx hb hts in_RM hown hK 0 rfl rfl 23 (by decide) (hts _ kw_1_168) (fun _ h => h) rfl d_RM_decide_55 ?_
    refine ig_if_lt (tgt := 79) hx hb d_RM_decide_58 (by decide) (fun h => ?_) (fun h => ?_)
    · have hv := hv.1 h
      refine ig_lv (lv' := [(0, .ref o0), (1, .int (bI d)), (2, .int (nI b))]) [0, 1, 2] rfl ?_
      exact j79 _ _ _ _ _ _ _ _ _ _ _ _ hv
    · have hv := hv.2 h
      refine ig_aload_n hx hb 0 d_RM_decide_61 rfl rfl ?_
      refine ig_get hx hb hts in_RM hown hK 0 rfl rfl 6 (by decide) (hts _ kw_1_151) (fun _ h => h) rfl d_RM_decide_62 ?_
      refine ig_aload_n hx hb 0 d_RM_decide_65 rfl rfl ?_
      refine ig_get hx hb hts in_RM hown hK 0 rfl rfl 23 (by decide) (hts _ kw_1_168) (fun _ h => h) rfl d_RM_decide_66 ?_
      obtain ⟨q9, he, hv⟩ := hv
      rw [he]
      obtain ⟨hc, hv⟩ := hv
      refine ig_iald (x := (nI (xB q9))) hx hb hK 4 1 rfl rfl q9 rfl hc (by decide) rfl d_RM_decide_69 ?_
      refine ig_iconst (v := 1) hx hb d_RM_decide_70 (by decide) ?_
      refine ig_iandN hx hb (xB q9) 1 rfl rfl d_RM_decide_71 ?_
      obtain ⟨h1, hv⟩ := hv
      refine ig_if_neN (tgt := 79) hx hb ((xB q9) &&& 1) rfl d_RM_decide_72 (by decide) h1 (fun h => ?_) (fun h => ?_)
      · have hv := hv.1 h
        refine ig_lv (lv' := [(0, .ref o0), (1, .int (bI d)), (2, .int (nI b))]) [0, 1, 2] rfl ?_
        exact j79 _ _ _ _ _ _ _ _ _ _ _ _ hv
      · have hv := hv.2 h
        refine ig_iconst (v := 1) hx hb d_RM_decide_75 (by decide) ?_
        refine ig_goto (tgt := 80) hx hb d_RM_decide_76 (by decide) ?_
        refine ig_lv (lv' := [(0, .ref o0), (1, .int (bI d)), (2, .int (nI b))]) [0, 1, 2] rfl ?_
        exact j80 _ _ _ _ _ _ _ _ _ _ _ _ _ hv
  have j42 : ∀ (b : Nat) (s0 : Nat) (nxc : Nat) (soc : Nat) (pac : Nat) (dec : Int32) (dpc : Nat) (ioc : Bool) (zRc : Nat → Bool) (zFc : Nat → Bool) (wFc : Nat → Nat) (wTc : Nat → Nat) (zTc : Nat → Bool), v_RM_decide_42 ru na nx so pa de dp io tX xF xT xB tP yF yT zR zF wF wT zT d K7 (p_RM_decide ru na nx so pa de dp io tX xF xT xB tP yF yT zR zF wF wT zT d) b s0 nxc soc pac dec dpc ioc zRc zFc wFc wTc zTc → ig_W zp l ze ({ frames := 8, cells := 0, slots := 0, locals := 188 }) zs zm zargs zbelow zmeth zc (dC, dI) ig_cl0 zA zs.heap 3 0 0 zQ 42 [(0, .ref o0), (1, .int (bI d)), (2, .int (nI b))] [.int (nI s0), .ref o0, .ref o0] [(o0, .inr (ciRM, [.int th, .ref ra, .int si, .ref rx, .ref rf, .ref rt, .ref rb, .ref rl, .int (nI ru), .ref rp, .ref ru_, .ref rv, .int (nI na), .int (nI nxc), .int (nI soc), .ref rr, .ref rs, .ref rg, .ref rh, .int (nI pac), .ref rz, .ref ry, .int bz, .int dec, .int (nI dpc), .int (bI ioc)])), (rx, .inl (cI, 1000, .inl tX)), (rf, .inl (cI, 60, .inl (fun zj => nI (xF zj)))), (rt, .inl (cI, 60, .inl (fun zj => nI (xT zj)))), (rb, .inl (cI, 60, .inl (fun zj => nI (xB zj)))), (rp, .inl (cI, 120, .inl tP)), (ru_, .inl (cI, 20, .inl (fun zj => nI (yF zj)))), (rv, .inl (cI, 20, .inl (fun zj => nI (yT zj)))), (rr, .inl (cZ, 1001, .inl (fun zj => bI (zRc zj)))), (rs, .inl (cZ, 1001, .inl (fun zj => bI (zFc zj)))), (rg, .inl (cI, 1001, .inl (fun zj => nI (wFc zj)))), (rh, .inl (cI, 1001, .inl (fun zj => nI (wTc zj)))), (rz, .inl (cZ, 21021, .inl (fun zj => bI (zTc zj))))] := by
    intro b s0 nxc soc pac dec dpc ioc zRc zFc wFc wTc zTc hv
    unfold v_RM_decide_42 at hv
    refine ig_iconst (v := 1) hx hb d_RM_decide_42 (by decide) ?_
    refine ig_goto (tgt := 47) hx hb d_RM_decide_43 (by decide) ?_
    refine ig_lv (lv' := [(0, .ref o0), (1, .int (bI d)), (2, .int (nI b))]) [0, 1, 2] rfl ?_
    exact j47 _ _ _ _ _ _ _ _ _ _ _ _ _ _ hv
  have k7 : ∀ (b : Nat) (nxc : Nat) (soc : Nat) (pac : Nat) (dec : Int32) (dpc : Nat) (ioc : Bool) (zRc : Nat → Bool) (zFc : Nat → Bool) (wFc : Nat → Nat) (wTc : Nat → Nat) (zTc : Nat → Bool), v_RM_decide_7 ru na nx so pa de dp io tX xF xT xB tP yF yT zR zF wF wT zT d K7 (p_RM_decide ru na nx so pa de dp io tX xF xT xB tP yF yT zR zF wF wT zT d) b nxc soc pac dec dpc ioc zRc zFc wFc wTc zTc → K7 b nxc soc pac dec dpc ioc zRc zFc wFc wTc zTc := by
    intro b nxc soc pac dec dpc ioc zRc zFc wFc wTc zTc hv
    unfold v_RM_decide_7 at hv
    rw [hK7]
    show ig_W zp l ze ({ frames := 8, cells := 0, slots := 0, locals := 188 }) zs zm zargs zbelow zmeth zc (dC, dI) ig_cl0 zA zs.heap 3 0 0 zQ 7 [(0, .ref o0), (1, .int (bI d)), (2, .int (nI b))] [] [(o0, .inr (ciRM, [.int th, .ref ra, .int si, .ref rx, .ref rf, .ref rt, .ref rb, .ref rl, .int (nI ru), .ref rp, .ref ru_, .ref rv, .int (nI na), .int (nI nxc), .int (nI soc), .ref rr, .ref rs, .ref rg, .ref rh, .int (nI pac), .ref rz, .ref ry, .int bz, .int dec, .int (nI dpc), .int (bI ioc)])), (rx, .inl (cI, 1000, .inl tX)), (rf, .inl (cI, 60, .inl (fun zj => nI (xF zj)))), (rt, .inl (cI, 60, .inl (fun zj => nI (xT zj)))), (rb, .inl (cI, 60, .inl (fun zj => nI (xB zj)))), (rp, .inl (cI, 120, .inl tP)), (ru_, .inl (cI, 20, .inl (fun zj => nI (yF zj)))), (rv, .inl (cI, 20, .inl (fun zj => nI (yT zj)))), (rr, .inl (cZ, 1001, .inl (fun zj => bI (zRc zj)))), (rs, .inl (cZ, 1001, .inl (fun zj => bI (zFc zj)))), (rg, .inl (cI, 1001, .inl (fun zj => nI (wFc zj)))), (rh, .inl (cI, 1001, .inl (fun zj => nI (wTc zj)))), (rz, .inl (cZ, 21021, .inl (fun zj => bI (zTc zj))))]
    refine ig_iload_n hx hb 2 d_RM_decide_7 rfl rfl ?_
    refine ig_aload_n hx hb 0 d_RM_decide_8 rfl rfl ?_
    refine ig_get hx hb hts in_RM hown hK 0 rfl rfl 12 (by decide) (hts _ kw_1_157) (fun _ h => h) rfl d_RM_decide_9 ?_
    obtain ⟨h1, hv⟩ := hv
    obtain ⟨h2, hv⟩ := hv
    refine ig_icmp_gtN (tgt := 89) hx hb b na rfl rfl d_RM_decide_12 (by decide) h1 h2 (fun h => ?_) (fun h => ?_)
    · have hv := hv.1 h
      exact hret 89 _ (nxc, soc, zRc, zFc, zTc, pac, wFc, wTc, dec, dpc, ioc) d_RM_decide_89 hv
    · have hv := hv.2 h
      refine ig_aload_n hx hb 0 d_RM_decide_15 rfl rfl ?_
      refine ig_get hx hb hts in_RM hown hK 0 rfl rfl 25 (by decide) (hts _ kw_1_170) (fun _ h => h) rfl d_RM_decide_16 ?_
      refine ig_if_neB (tgt := 89) hx hb ioc rfl d_RM_decide_19 (by decide) (fun h => ?_) (fun h => ?_)
      · have hv := hv.1 h
        exact hret 89 _ (nxc, soc, zRc, zFc, zTc, pac, wFc, wTc, dec, dpc, ioc) d_RM_decide_89 hv
      · have hv := hv.2 h
        refine ig_aload_n hx hb 0 d_RM_decide_22 rfl rfl ?_
        refine ig_iload_n hx hb 2 d_RM_decide_23 rfl rfl ?_
        refine ig_put (ty := .int) (v := .int (nI b)) (ws' := [(o0, .inr (ciRM, [.int th, .ref ra, .int si, .ref rx, .ref rf, .ref rt, .ref rb, .ref rl, .int (nI ru), .ref rp, .ref ru_, .ref rv, .int (nI na), .int (nI nxc), .int (nI soc), .ref rr, .ref rs, .ref rg, .ref rh, .int (nI pac), .ref rz, .ref ry, .int bz, .int dec, .int (nI b), .int (bI ioc)])), (rx, .inl (cI, 1000, .inl tX)), (rf, .inl (cI, 60, .inl (fun zj => nI (xF zj)))), (rt, .inl (cI, 60, .inl (fun zj => nI (xT zj)))), (rb, .inl (cI, 60, .inl (fun zj => nI (xB zj)))), (rp, .inl (cI, 120, .inl tP)), (ru_, .inl (cI, 20, .inl (fun zj => nI (yF zj)))), (rv, .inl (cI, 20, .inl (fun zj => nI (yT zj)))), (rr, .inl (cZ, 1001, .inl (fun zj => bI (zRc zj)))), (rs, .inl (cZ, 1001, .inl (fun zj => bI (zFc zj)))), (rg, .inl (cI, 1001, .inl (fun zj => nI (wFc zj)))), (rh, .inl (cI, 1001, .inl (fun zj => nI (wTc zj)))), (rz, .inl (cZ, 21021, .inl (fun zj => bI (zTc zj))))]) hx hb hts in_RM t_RM t_RM_ok n_RM hown hK 0 rfl rfl 24 (by decide) (hts _ kw_1_169) (fun _ h => h) rfl (by decide +kernel) rfl rfl (Nat.le_of_ble_eq_true rfl) d_RM_decide_24 rfl ?_
        refine ig_aload_n hx hb 0 d_RM_decide_27 rfl rfl ?_
        refine ig_aload_n hx hb 0 d_RM_decide_28 rfl rfl ?_
        refine ig_iload_n hx hb 2 d_RM_decide_29 rfl rfl ?_
        refine ig_iload_n hx hb 2 d_RM_decide_30 rfl rfl ?_
        refine ig_aload_n hx hb 0 d_RM_decide_31 rfl rfl ?_
        refine ig_get hx hb hts in_RM hown hK 0 rfl rfl 12 (by decide) (hts _ kw_1_157) (fun _ h => h) rfl d_RM_decide_32 ?_
        obtain ⟨h1, hv⟩ := hv
        obtain ⟨h2, hv⟩ := hv
        refine ig_icmp_ltN (tgt := 42) hx hb b na rfl rfl d_RM_decide_35 (by decide) h1 h2 (fun h => ?_) (fun h => ?_)
        · have hv := hv.1 h
          refine ig_lv (lv' := [(0, .ref o0), (1, .int (bI d)), (2, .int (nI b))]) [0, 1, 2] rfl ?_
          exact j42 _ _ _ _ _ _ _ _ _ _ _ _ _ hv
        · have hv := hv.2 h
          refine ig_iload_n hx hb 1 d_RM_decide_38 rfl rfl ?_
          refine ig_if_eqB (tgt := 46) hx hb d rfl d_RM_decide_39 (by decide) (fun h => ?_) (fun h => ?_)
          · have hv := hv.1 h
            refine ig_iconst (v := 0) hx hb d_RM_decide_46 (by decide) ?_
            refine ig_lv (lv' := [(0, .ref o0), (1, .int (bI d)), (2, .int (nI b))]) [0, 1, 2] rfl ?_
            exact j47 _ _ _ _ _ _ _ _ _ _ _ _ _ _ hv
          · have hv := hv.2 h
            refine ig_lv (lv' := [(0, .ref o0), (1, .int (bI d)), (2, .int (nI b))]) [0, 1, 2] rfl ?_
            exact j42 _ _ _ _ _ _ _ _ _ _ _ _ _ hv
  have hv := t_RM_decide ru na nx so pa de dp io tX xF xT xB tP yF yT zR zF wF wT zT d hr K7 k7
  unfold v_RM_decide at hv
  refine ig_aload_n hx hb 0 d_RM_decide_0 rfl rfl ?_
  refine ig_iconst (v := 0) hx hb d_RM_decide_1 (by decide) ?_
  refine ig_put (ty := .boolean) (v := .int 0) (ws' := [(o0, .inr (ciRM, [.int th, .ref ra, .int si, .ref rx, .ref rf, .ref rt, .ref rb, .ref rl, .int (nI ru), .ref rp, .ref ru_, .ref rv, .int (nI na), .int (nI nx), .int (nI so), .ref rr, .ref rs, .ref rg, .ref rh, .int (nI pa), .ref rz, .ref ry, .int bz, .int de, .int (nI dp), .int (bI false)])), (rx, .inl (cI, 1000, .inl tX)), (rf, .inl (cI, 60, .inl (fun zj => nI (xF zj)))), (rt, .inl (cI, 60, .inl (fun zj => nI (xT zj)))), (rb, .inl (cI, 60, .inl (fun zj => nI (xB zj)))), (rp, .inl (cI, 120, .inl tP)), (ru_, .inl (cI, 20, .inl (fun zj => nI (yF zj)))), (rv, .inl (cI, 20, .inl (fun zj => nI (yT zj)))), (rr, .inl (cZ, 1001, .inl (fun zj => bI (zR zj)))), (rs, .inl (cZ, 1001, .inl (fun zj => bI (zF zj)))), (rg, .inl (cI, 1001, .inl (fun zj => nI (wF zj)))), (rh, .inl (cI, 1001, .inl (fun zj => nI (wT zj)))), (rz, .inl (cZ, 21021, .inl (fun zj => bI (zT zj))))]) hx hb hts in_RM t_RM t_RM_ok n_RM hown hK 0 rfl rfl 25 (by decide) (hts _ kw_1_170) (fun _ h => h) rfl (by decide +kernel) rfl rfl (Nat.le_of_ble_eq_true rfl) d_RM_decide_2 rfl ?_
  refine ig_iconst (v := 1) hx hb d_RM_decide_5 (by decide) ?_
  refine ig_istore_n (lv' := [(2, .int 1), (0, .ref o0), (1, .int (bI d))]) hx hb d_RM_decide_6 rfl (by decide) rfl ?_
  refine ig_lv (lv' := [(0, .ref o0), (1, .int (bI d)), (2, .int 1)]) [1, 2, 0] rfl ?_
  rw [hK7] at hv
  exact hv
