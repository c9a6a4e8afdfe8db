theorem kw_2_57 : Cond.methodLink "IgnoreRulesModel" 131 y_RM_noRule ∈ ig_T := ig_T_mem (List.mem_append_right _ (List.mem_append_right _ (List.mem_of_getElem? (i := 57) rfl))) rfl
theorem kw_2_59 : Cond.instanceMethod y_RM_noRule ∈ ig_T := ig_T_mem (List.mem_append_right _ (List.mem_append_right _ (List.mem_of_getElem? (i := 59) rfl))) rfl
theorem d_RM_fits_0 : decode b_RM_fits 0 = .ok (.aload_n 0, 1) := by decide +kernel
theorem d_RM_fits_1 : decode b_RM_fits 1 = .ok (.aload_n 0, 1) := by decide +kernel
theorem d_RM_fits_2 : decode b_RM_fits 2 = .ok (.iload_n 1, 1) := by decide +kernel
theorem d_RM_fits_3 : decode b_RM_fits 3 = .ok (.invokevirtual 131, 3) := by decide +kernel
theorem d_RM_fits_6 : decode b_RM_fits 6 = .ok (.ifCond .eq 7, 3) := by decide +kernel
theorem d_RM_fits_9 : decode b_RM_fits 9 = .ok (.iconst 1, 1) := by decide +kernel
theorem d_RM_fits_10 : decode b_RM_fits 10 = .ok (.goto 15, 3) := by decide +kernel
theorem d_RM_fits_13 : decode b_RM_fits 13 = .ok (.aload_n 0, 1) := by decide +kernel
theorem d_RM_fits_14 : decode b_RM_fits 14 = .ok (.getfield 135, 3) := by decide +kernel
theorem d_RM_fits_17 : decode b_RM_fits 17 = .ok (.ifCond .ne 7, 3) := by decide +kernel
theorem d_RM_fits_20 : decode b_RM_fits 20 = .ok (.iconst 2, 1) := by decide +kernel
theorem d_RM_fits_21 : decode b_RM_fits 21 = .ok (.goto 4, 3) := by decide +kernel
theorem d_RM_fits_24 : decode b_RM_fits 24 = .ok (.iconst 0, 1) := by decide +kernel
theorem d_RM_fits_25 : decode b_RM_fits 25 = .ok (.putfield 56, 3) := by decide +kernel
theorem d_RM_fits_28 : decode b_RM_fits 28 = .ok (.aload_n 0, 1) := by decide +kernel
theorem d_RM_fits_29 : decode b_RM_fits 29 = .ok (.getfield 56, 3) := by decide +kernel
theorem d_RM_fits_32 : decode b_RM_fits 32 = .ok (.ifCond .ne 20, 3) := by decide +kernel
theorem d_RM_fits_35 : decode b_RM_fits 35 = .ok (.aload_n 0, 1) := by decide +kernel
theorem d_RM_fits_36 : decode b_RM_fits 36 = .ok (.iload_n 1, 1) := by decide +kernel
theorem d_RM_fits_37 : decode b_RM_fits 37 = .ok (.aload_n 0, 1) := by decide +kernel
theorem d_RM_fits_38 : decode b_RM_fits 38 = .ok (.getfield 135, 3) := by decide +kernel
theorem d_RM_fits_41 : decode b_RM_fits 41 = .ok (.iload_n 2, 1) := by decide +kernel
theorem d_RM_fits_42 : decode b_RM_fits 42 = .ok (.invokevirtual 160, 3) := by decide +kernel
theorem d_RM_fits_45 : decode b_RM_fits 45 = .ok (.ifCond .eq 7, 3) := by decide +kernel
theorem d_RM_fits_48 : decode b_RM_fits 48 = .ok (.iconst 1, 1) := by decide +kernel
theorem d_RM_fits_49 : decode b_RM_fits 49 = .ok (.goto 4, 3) := by decide +kernel
theorem d_RM_fits_52 : decode b_RM_fits 52 = .ok (.iconst 0, 1) := by decide +kernel
theorem d_RM_fits_53 : decode b_RM_fits 53 = .ok (.ireturn, 1) := by decide +kernel
abbrev w_RM_fits : List Cond := Cond.code y_RM_fits b_RM_fits 3 (some .boolean) :: ig_T
theorem g_RM_fits : GoodIn ig_T w_RM_fits := ig_T_good (ig_T_mem (List.mem_append_right _ (List.mem_append_right _ (List.mem_of_getElem? (i := 72) rfl))) rfl)
set_option maxHeartbeats 4000000 in
set_option maxRecDepth 100000 in
theorem c_RM_fits (l : Launch) (dC : Nat → ClassId) (dI : Nat → Nat → Nat) (cC cI cZ cL : ClassId) (o0 ra rx rf rt rb rl rp ru_ rv rr rs rg rh rz ry : Nat) (si : Int32) (bz : Int32) (de : Int32) (dp : Int32) (io : Int32) (th : Nat) (ru : Nat) (na : Nat) (nx : Nat) (so : Nat) (pa : Nat) (tX : Nat → Int32) (xF : Nat → Nat) (xT : Nat → Nat) (xB : Nat → Nat) (tP : Nat → Int32) (yF : Nat → Nat) (yT : Nat → Nat) (zR : Nat → Bool) (zF : Nat → Bool) (wF : Nat → Nat) (wT : Nat → Nat) (zT : Nat → Bool) (x : Int32) (d : Bool) (sz : Nat) (hr : r_RM_fits th ru na nx so pa tX xF xT xB tP yF yT zR zF wF wT zT x d) : Met l y_RM_fits w_RM_fits ({ frames := 7, cells := 0, slots := 0, locals := 165 }) (ig_Pc (dC, dI) ig_cl0 [(cC, .char), (cI, .int), (cZ, .boolean), (cL, .long)] [.ref o0, .int x, .int (bI d)] [(o0, .inr (ciRM, [.int (nI th), .ref ra, .int si, .ref rx, .ref rf, .ref rt, .ref rb, .ref rl, .int (nI ru), .ref rp, .ref ru_, .ref rv, .int (nI na), .int (nI nx), .int (nI so), .ref rr, .ref rs, .ref rg, .ref rh, .int (nI pa), .ref rz, .ref ry, .int bz, .int de, .int dp, .int io])), (rx, .inl (cI, 1000, .inl tX)), (rf, .inl (cI, 60, .inl (fun zj => nI (xF zj)))), (rt, .inl (cI, 60, .inl (fun zj => nI (xT zj)))), (rb, .inl (cI, 60, .inl (fun zj => nI (xB zj)))), (rp, .inl (cI, 120, .inl tP)), (ru_, .inl (cI, 20, .inl (fun zj => nI (yF zj)))), (rv, .inl (cI, 20, .inl (fun zj => nI (yT zj)))), (rr, .inl (cZ, 1001, .inl (fun zj => bI (zR zj)))), (rs, .inl (cZ, 1001, .inl (fun zj => bI (zF zj)))), (rg, .inl (cI, 1001, .inl (fun zj => nI (wF zj)))), (rh, .inl (cI, 1001, .inl (fun zj => nI (wT zj)))), (rz, .inl (cZ, 21021, .inl (fun zj => bI (zT zj))))] sz) (va_Qi (fun (r : Int32) (u : Nat × Nat × (Nat → Bool) × (Nat → Bool) × (Nat → Bool) × Nat × (Nat → Nat) × (Nat → Nat) × Nat) => ∃ zr : Bool, r = bI zr ∧ p_RM_fits th ru na nx so pa tX xF xT xB tP yF yT zR zF wF wT zT x d zr u.1 u.2.1 u.2.2.1 u.2.2.2.1 u.2.2.2.2.1 u.2.2.2.2.2.1 u.2.2.2.2.2.2.1 u.2.2.2.2.2.2.2.1 u.2.2.2.2.2.2.2.2) (fun u t => va_P (dC, dI) ig_cl0 ((fun (u : Nat × Nat × (Nat → Bool) × (Nat → Bool) × (Nat → Bool) × Nat × (Nat → Nat) × (Nat → Nat) × Nat) => [(o0, .inr (ciRM, [.int (nI u.2.2.2.2.2.2.2.2), .ref ra, .int si, .ref rx, .ref rf, .ref rt, .ref rb, .ref rl, .int (nI ru), .ref rp, .ref ru_, .ref rv, .int (nI na), .int (nI u.1), .int (nI u.2.1), .ref rr, .ref rs, .ref rg, .ref rh, .int (nI u.2.2.2.2.2.1), .ref rz, .ref ry, .int bz, .int de, .int dp, .int io])), (rx, .inl (cI, 1000, .inl tX)), (rf, .inl (cI, 60, .inl (fun zj => nI (xF zj)))), (rt, .inl (cI, 60, .inl (fun zj => nI (xT zj)))), (rb, .inl (cI, 60, .inl (fun zj => nI (xB zj)))), (rp, .inl (cI, 120, .inl tP)), (ru_, .inl (cI, 20, .inl (fun zj => nI (yF zj)))), (rv, .inl (cI, 20, .inl (fun zj => nI (yT zj)))), (rr, .inl (cZ, 1001, .inl (fun zj => bI (u.2.2.1 zj)))), (rs, .inl (cZ, 1001, .inl (fun zj => bI (u.2.2.2.1 zj)))), (rg, .inl (cI, 1001, .inl (fun zj => nI (u.2.2.2.2.2.2.1 zj)))), (rh, .inl (cI, 1001, .inl (fun zj => nI (u.2.2.2.2.2.2.2.1 zj)))), (rz, .inl (cZ, 21021, .inl (fun zj => bI (u.2.2.2.2.1 zj))))]) u) t.heap ∧ va_D (va_A [(o0, .inr (ciRM, [.int (nI th), .ref ra, .int si, .ref rx, .ref rf, .ref rt, .ref rb, .ref rl, .int (nI ru), .ref rp, .ref ru_, .ref rv, .int (nI na), .int (nI nx), .int (nI so), .ref rr, .ref rs, .ref rg, .ref rh, .int (nI pa), .ref rz, .ref ry, .int bz, .int de, .int dp, .int io])), (rx, .inl (cI, 1000, .inl tX)), (rf, .inl (cI, 60, .inl (fun zj => nI (xF zj)))), (rt, .inl (cI, 60, .inl (fun zj => nI (xT zj)))), (rb, .inl (cI, 60, .inl (fun zj => nI (xB zj)))), (rp, .inl (cI, 120, .inl tP)), (ru_, .inl (cI, 20, .inl (fun zj => nI (yF zj)))), (rv, .inl (cI, 20, .inl (fun zj => nI (yT zj)))), (rr, .inl (cZ, 1001, .inl (fun zj => bI (zR zj)))), (rs, .inl (cZ, 1001, .inl (fun zj => bI (zF zj)))), (rg, .inl (cI, 1001, .inl (fun zj => nI (wF zj)))), (rh, .inl (cI, 1001, .inl (fun zj => nI (wT zj)))), (rz, .inl (cZ, 21021, .inl (fun zj => bI (zT zj))))] sz) ((fun (u : Nat × Nat × (Nat → Bool) × (Nat → Bool) × (Nat → Bool) × Nat × (Nat → Nat) × (Nat → Nat) × Nat) => [(o0, .inr (ciRM, [.int (nI u.2.2.2.2.2.2.2.2), .ref ra, .int si, .ref rx, .ref rf, .ref rt, .ref rb, .ref rl, .int (nI ru), .ref rp, .ref ru_, .ref rv, .int (nI na), .int (nI u.1), .int (nI u.2.1), .ref rr, .ref rs, .ref rg, .ref rh, .int (nI u.2.2.2.2.2.1), .ref rz, .ref ry, .int bz, .int de, .int dp, .int io])), (rx, .inl (cI, 1000, .inl tX)), (rf, .inl (cI, 60, .inl (fun zj => nI (xF zj)))), (rt, .inl (cI, 60, .inl (fun zj => nI (xT zj)))), (rb, .inl (cI, 60, .inl (fun zj => nI (xB zj)))), (rp, .inl (cI, 120, .inl tP)), (ru_, .inl (cI, 20, .inl (fun zj => nI (yF zj)))), (rv, .inl (cI, 20, .inl (fun zj => nI (yT zj)))), (rr, .inl (cZ, 1001, .inl (fun zj => bI (u.2.2.1 zj)))), (rs, .inl (cZ, 1001, .inl (fun zj => bI (u.2.2.2.1 zj)))), (rg, .inl (cI, 1001, .inl (fun zj => nI (u.2.2.2.2.2.2.1 zj)))), (rh, .inl (cI, 1001, .inl (fun zj => nI (u.2.2.2.2.2.2.2.1 zj)))), (rz, .inl (cZ, 21021, .inl (fun zj => bI (u.2.2.2.2.1 zj))))]) u)) (va_A [(o0, .inr (ciRM, [.int (nI th), .ref ra, .int si, .ref rx, .ref rf, .ref rt, .ref rb, .ref rl, .int (nI ru), .ref rp, .ref ru_, .ref rv, .int (nI na), .int (nI nx), .int (nI so), .ref rr, .ref rs, .ref rg, .ref rh, .int (nI pa), .ref rz, .ref ry, .int bz, .int de, .int dp, .int io])), (rx, .inl (cI, 1000, .inl tX)), (rf, .inl (cI, 60, .inl (fun zj => nI (xF zj)))), (rt, .inl (cI, 60, .inl (fun zj => nI (xT zj)))), (rb, .inl (cI, 60, .inl (fun zj => nI (xB zj)))), (rp, .inl (cI, 120, .inl tP)), (ru_, .inl (cI, 20, .inl (fun zj => nI (yF zj)))), (rv, .inl (cI, 20, .inl (fun zj => nI (yT zj)))), (rr, .inl (cZ, 1001, .inl (fun zj => bI (zR zj)))), (rs, .inl (cZ, 1001, .inl (fun zj => bI (zF zj)))), (rg, .inl (cI, 1001, .inl (fun zj => nI (wF zj)))), (rh, .inl (cI, 1001, .inl (fun zj => nI (wT zj)))), (rz, .inl (cZ, 21021, .inl (fun zj => bI (zT zj))))] sz)) 0 0 (va_A [(o0, .inr (ciRM, [.int (nI th), .ref ra, .int si, .ref rx, .ref rf, .ref rt, .ref rb, .ref rl, .int (nI ru), .ref rp, .ref ru_, .ref rv, .int (nI na), .int (nI nx), .int (nI so), .ref rr, .ref rs, .ref rg, .ref rh, .int (nI pa), .ref rz, .ref ry, .int bz, .int de, .int dp, .int io])), (rx, .inl (cI, 1000, .inl tX)), (rf, .inl (cI, 60, .inl (fun zj => nI (xF zj)))), (rt, .inl (cI, 60, .inl (fun zj => nI (xT zj)))), (rb, .inl (cI, 60, .inl (fun zj => nI (xB zj)))), (rp, .inl (cI, 120, .inl tP)), (ru_, .inl (cI, 20, .inl (fun zj => nI (yF zj)))), (rv, .inl (cI, 20, .inl (fun zj => nI (yT zj)))), (rr, .inl (cZ, 1001, .inl (fun zj => bI (zR zj)))), (rs, .inl (cZ, 1001, .inl (fun zj => bI (zF zj)))), (rg, .inl (cI, 1001, .inl (fun zj => nI (wF zj)))), (rh, .inl (cI, 1001, .inl (fun zj => nI (wT zj)))), (rz, .inl (cZ, 21021, .inl (fun zj => bI (zT zj))))] sz) := by
  refine ig_metI (fun (r : Int32) (u : Nat × Nat × (Nat → Bool) × (Nat → Bool) × (Nat → Bool) × Nat × (Nat → Nat) × (Nat → Nat) × Nat) => ∃ zr : Bool, r = bI zr ∧ p_RM_fits th ru na nx so pa tX xF xT xB tP yF yT zR zF wF wT zT x d zr u.1 u.2.1 u.2.2.1 u.2.2.2.1 u.2.2.2.2.1 u.2.2.2.2.2.1 u.2.2.2.2.2.2.1 u.2.2.2.2.2.2.2.1 u.2.2.2.2.2.2.2.2) (fun (u : Nat × Nat × (Nat → Bool) × (Nat → Bool) × (Nat → Bool) × Nat × (Nat → Nat) × (Nat → Nat) × Nat) => [(o0, .inr (ciRM, [.int (nI u.2.2.2.2.2.2.2.2), .ref ra, .int si, .ref rx, .ref rf, .ref rt, .ref rb, .ref rl, .int (nI ru), .ref rp, .ref ru_, .ref rv, .int (nI na), .int (nI u.1), .int (nI u.2.1), .ref rr, .ref rs, .ref rg, .ref rh, .int (nI u.2.2.2.2.2.1), .ref rz, .ref ry, .int bz, .int de, .int dp, .int io])), (rx, .inl (cI, 1000, .inl tX)), (rf, .inl (cI, 60, .inl (fun zj => nI (xF zj)))), (rt, .inl (cI, 60, .inl (fun zj => nI (xT zj)))), (rb, .inl (cI, 60, .inl (fun zj => nI (xB zj)))), (rp, .inl (cI, 120, .inl tP)), (ru_, .inl (cI, 20, .inl (fun zj => nI (yF zj)))), (rv, .inl (cI, 20, .inl (fun zj => nI (yT zj)))), (rr, .inl (cZ, 1001, .inl (fun zj => bI (u.2.2.1 zj)))), (rs, .inl (cZ, 1001, .inl (fun zj => bI (u.2.2.2.1 zj)))), (rg, .inl (cI, 1001, .inl (fun zj => nI (u.2.2.2.2.2.2.1 zj)))), (rh, .inl (cI, 1001, .inl (fun zj => nI (u.2.2.2.2.2.2.2.1 zj)))), (rz, .inl (cZ, 21021, .inl (fun zj => bI (u.2.2.2.2.1 zj))))]) (by decide) rfl (Nat.le_of_ble_eq_true rfl) rfl (by rintro r u ⟨b, rfl, -⟩; exact bI_ret b) ?_
  intro zp ze zs zm zargs zbelow zmeth zc zA zQ hx hb hml hown hts hK hN hA hret
  have j25 : ∀ (s0 : Nat) (thc : Nat) (nxc : Nat) (soc : Nat) (pac : Nat) (zRc : Nat → Bool) (zFc : Nat → Bool) (wFc : Nat → Nat) (wTc : Nat → Nat) (zTc : Nat → Bool), v_RM_fits_25 th ru na nx so pa tX xF xT xB tP yF yT zR zF wF wT zT x d (p_RM_fits th ru na nx so pa tX xF xT xB tP yF yT zR zF wF wT zT x d) s0 thc nxc soc pac zRc zFc wFc wTc zTc → ig_W zp l ze ({ frames := 7, cells := 0, slots := 0, locals := 165 }) zs zm zargs zbelow zmeth zc (dC, dI) ig_cl0 zA zs.heap 3 0 0 zQ 25 [(0, .ref o0), (1, .int x), (2, .int (bI d))] [.int (nI s0), .ref o0] [(o0, .inr (ciRM, [.int (nI thc), .ref ra, .int si, .ref rx, .ref rf, .ref rt, .ref rb, .ref rl, .int (nI ru), .ref rp, .ref ru_, .ref rv, .int (nI na), .int (nI nxc), .int (nI soc), .ref rr, .ref rs, .ref rg, .ref rh, .int (nI pac), .ref rz, .ref ry, .int bz, .int de, .int dp, .int io])), (rx, .inl (cI, 1000, .inl tX)), (rf, .inl (cI, 60, .inl (fun zj => nI (xF zj)))), (rt, .inl (cI, 60, .inl (fun zj => nI (xT zj)))), (rb, .inl (cI, 60, .inl (fun zj => nI (xB zj)))), (rp, .inl (cI, 120, .inl tP)), (ru_, .inl (cI, 20, .inl (fun zj => nI (yF zj)))), (rv, .inl (cI, 20, .inl (fun zj => nI (yT zj)))), (rr, .inl (cZ, 1001, .inl (fun zj => bI (zRc zj)))), (rs, .inl (cZ, 1001, .inl (fun zj => bI (zFc zj)))), (rg, .inl (cI, 1001, .inl (fun zj => nI (wFc zj)))), (rh, .inl (cI, 1001, .inl (fun zj => nI (wTc zj)))), (rz, .inl (cZ, 21021, .inl (fun zj => bI (zTc zj))))] := by
    intro s0 thc nxc soc pac zRc zFc wFc wTc zTc hv
    unfold v_RM_fits_25 at hv
    refine ig_put (ty := .int) (v := .int (nI s0)) (ws' := [(o0, .inr (ciRM, [.int (nI s0), .ref ra, .int si, .ref rx, .ref rf, .ref rt, .ref rb, .ref rl, .int (nI ru), .ref rp, .ref ru_, .ref rv, .int (nI na), .int (nI nxc), .int (nI soc), .ref rr, .ref rs, .ref rg, .ref rh, .int (nI pac), .ref rz, .ref ry, .int bz, .int de, .int dp, .int io])), (rx, .inl (cI, 1000, .inl tX)), (rf, .inl (cI, 60, .inl (fun zj => nI (xF zj)))), (rt, .inl (cI, 60, .inl (fun zj => nI (xT zj)))), (rb, .inl (cI, 60, .inl (fun zj => nI (xB zj)))), (rp, .inl (cI, 120, .inl tP)), (ru_, .inl (cI, 20, .inl (fun zj => nI (yF zj)))), (rv, .inl (cI, 20, .inl (fun zj => nI (yT zj)))), (rr, .inl (cZ, 1001, .inl (fun zj => bI (zRc zj)))), (rs, .inl (cZ, 1001, .inl (fun zj => bI (zFc zj)))), (rg, .inl (cI, 1001, .inl (fun zj => nI (wFc zj)))), (rh, .inl (cI, 1001, .inl (fun zj => nI (wTc zj)))), (rz, .inl (cZ, 21021, .inl (fun zj => bI (zTc zj))))]) hx hb hts in_RM t_RM t_RM_ok n_RM hown hK 0 rfl rfl 0 (by decide) (hts _ kw_1_145) (fun _ h => h) rfl (by decide +kernel) rfl rfl (Nat.le_of_ble_eq_true rfl) d_RM_fits_25 rfl ?_
    refine ig_aload_n hx hb 0 d_RM_fits_28 rfl rfl ?_
    refine ig_get hx hb hts in_RM hown hK 0 rfl rfl 0 (by decide) (hts _ kw_1_145) (fun _ h => h) rfl d_RM_fits_29 ?_
    obtain ⟨h1, hv⟩ := hv
    refine ig_if_neN (tgt := 52) hx hb s0 rfl d_RM_fits_32 (by decide) h1 (fun h => ?_) (fun h => ?_)
    · have hv := hv.1 h
      refine ig_iconst (v := 0) hx hb d_RM_fits_52 (by decide) ?_
      exact hret 53 _ 0 (nxc, soc, zRc, zFc, zTc, pac, wFc, wTc, s0) d_RM_fits_53 ⟨false, rfl, hv⟩
    · have hv := hv.2 h
      refine ig_aload_n hx hb 0 d_RM_fits_35 rfl rfl ?_
      refine ig_iload_n hx hb 1 d_RM_fits_36 rfl rfl ?_
      obtain ⟨i1, he, hv⟩ := hv
      rw [he]
      refine ig_aload_n hx hb 0 d_RM_fits_37 rfl rfl ?_
      refine ig_get hx hb hts in_RM hown hK 0 rfl rfl 12 (by decide) (hts _ kw_1_157) (fun _ h => h) rfl d_RM_fits_38 ?_
      refine ig_iload_n hx hb 2 d_RM_fits_41 rfl rfl ?_
      obtain ⟨hc, hv⟩ := hv
      refine ig_cVi (As := [.int (nI i1), .int (nI na), .int (bI d)]) (rest := []) (wr := []) (ws' := fun u => [(o0, .inr (ciRM, [.int (nI s0), .ref ra, .int si, .ref rx, .ref rf, .ref rt, .ref rb, .ref rl, .int (nI ru), .ref rp, .ref ru_, .ref rv, .int (nI na), .int (nI u.1), .int (nI u.2.1), .ref rr, .ref rs, .ref rg, .ref rh, .int (nI u.2.2.2.2.2.1), .ref rz, .ref ry, .int bz, .int de, .int dp, .int io])), (rx, .inl (cI, 1000, .inl tX)), (rf, .inl (cI, 60, .inl (fun zj => nI (xF zj)))), (rt, .inl (cI, 60, .inl (fun zj => nI (xT zj)))), (rb, .inl (cI, 60, .inl (fun zj => nI (xB zj)))), (rp, .inl (cI, 120, .inl tP)), (ru_, .inl (cI, 20, .inl (fun zj => nI (yF zj)))), (rv, .inl (cI, 20, .inl (fun zj => nI (yT zj)))), (rr, .inl (cZ, 1001, .inl (fun zj => bI (u.2.2.1 zj)))), (rs, .inl (cZ, 1001, .inl (fun zj => bI (u.2.2.2.1 zj)))), (rg, .inl (cI, 1001, .inl (fun zj => nI (u.2.2.2.2.2.2.1 zj)))), (rh, .inl (cI, 1001, .inl (fun zj => nI (u.2.2.2.2.2.2.2 zj)))), (rz, .inl (cZ, 21021, .inl (fun zj => bI (u.2.2.2.2.1 zj))))]) hx hb hml hown hts hK hN hA (fun sz => c_RM_fitsFirst l dC dI cC cI cZ cL o0 ra rx rf rt rb rl rp ru_ rv rr rs rg rh rz ry (nI s0) si (nI ru) (nI na) bz de dp io nxc soc pac tX xF xT xB tP yF yT zRc zFc wFc wTc zTc i1 na d sz hc) ⟨callB_of 3 hts g_RM_fitsFirst rfl rfl rfl (hts _ kw_0_5) (hts _ kw_2_73) (by decide +kernel) (by decide), (hts _ kw_2_75), (hts _ ks_RM_fitsFirst)⟩ rfl rfl (Nat.le_of_ble_eq_true rfl) d_RM_fits_42 (by decide) 0 rfl rfl [0, 1, 2, 3, 4, 5, 6, 7, 8, 9, 10, 11, 12] [] [0, 1, 2, 3, 4, 5, 6, 7, 8, 9, 10, 11, 12] rfl rfl (by decide) (by decide) (by decide) (fun _ => rfl) (fun _ => rfl) (fun r u hr => ?_)
      obtain ⟨nx2, so3, zR4, zF5, zT6, pa7, wF8, wT9⟩ := u
      obtain ⟨rr, rfl, hr⟩ := hr
      unfold p_RM_fitsFirst at hr
      subst hr
      have hv := hv nx2 so3 zR4 zF5 zT6 pa7 wF8 wT9
      refine ig_if_eqB (tgt := 52) hx hb (sp_rg tX tP yF yT (xF i1) (xT i1) (xB i1) na d) rfl d_RM_fits_45 (by decide) (fun h => ?_) (fun h => ?_)
      · have hv := hv.1 h
        refine ig_iconst (v := 0) hx hb d_RM_fits_52 (by decide) ?_
        exact hret 53 _ 0 (nx2, so3, zR4, zF5, zT6, pa7, wF8, wT9, s0) d_RM_fits_53 ⟨false, rfl, hv⟩
      · have hv := hv.2 h
        refine ig_iconst (v := 1) hx hb d_RM_fits_48 (by decide) ?_
        refine ig_goto (tgt := 53) hx hb d_RM_fits_49 (by decide) ?_
        exact hret 53 _ 1 (nx2, so3, zR4, zF5, zT6, pa7, wF8, wT9, s0) d_RM_fits_53 ⟨true, rfl, hv⟩
  have hv := t_RM_fits th ru na nx so pa tX xF xT xB tP yF yT zR zF wF wT zT x d hr 
  unfold v_RM_fits at hv
  refine ig_aload_n hx hb 0 d_RM_fits_0 rfl rfl ?_
  refine ig_aload_n hx hb 0 d_RM_fits_1 rfl rfl ?_
  refine ig_iload_n hx hb 1 d_RM_fits_2 rfl rfl ?_
  obtain ⟨hc, hv⟩ := hv
  refine ig_cVi (As := [.int x]) (rest := [.ref o0]) (wr := [(rx, .inl (cI, 1000, .inl tX)), (rf, .inl (cI, 60, .inl (fun zj => nI (xF zj)))), (rt, .inl (cI, 60, .inl (fun zj => nI (xT zj)))), (rb, .inl (cI, 60, .inl (fun zj => nI (xB zj)))), (rp, .inl (cI, 120, .inl tP)), (ru_, .inl (cI, 20, .inl (fun zj => nI (yF zj)))), (rv, .inl (cI, 20, .inl (fun zj => nI (yT zj)))), (rr, .inl (cZ, 1001, .inl (fun zj => bI (zR zj)))), (rs, .inl (cZ, 1001, .inl (fun zj => bI (zF zj)))), (rg, .inl (cI, 1001, .inl (fun zj => nI (wF zj)))), (rh, .inl (cI, 1001, .inl (fun zj => nI (wT zj)))), (rz, .inl (cZ, 21021, .inl (fun zj => bI (zT zj))))]) (ws' := fun u => [(o0, .inr (ciRM, [.int (nI th), .ref ra, .int si, .ref rx, .ref rf, .ref rt, .ref rb, .ref rl, .int (nI ru), .ref rp, .ref ru_, .ref rv, .int (nI na), .int (nI nx), .int (nI so), .ref rr, .ref rs, .ref rg, .ref rh, .int (nI pa), .ref rz, .ref ry, .int bz, .int de, .int dp, .int io])), (rx, .inl (cI, 1000, .inl tX)), (rf, .inl (cI, 60, .inl (fun zj => nI (xF zj)))), (rt, .inl (cI, 60, .inl (fun zj => nI (xT zj)))), (rb, .inl (cI, 60, .inl (fun zj => nI (xB zj)))), (rp, .inl (cI, 120, .inl tP)), (ru_, .inl (cI, 20, .inl (fun zj => nI (yF zj)))), (rv, .inl (cI, 20, .inl (fun zj => nI (yT zj)))), (rr, .inl (cZ, 1001, .inl (fun zj => bI (zR zj)))), (rs, .inl (cZ, 1001, .inl (fun zj => bI (zF zj)))), (rg, .inl (cI, 1001, .inl (fun zj => nI (wF zj)))), (rh, .inl (cI, 1001, .inl (fun zj => nI (wT zj)))), (rz, .inl (cZ, 21021, .inl (fun zj => bI (zT zj))))]) hx hb hml hown hts hK hN hA (fun sz => c_RM_noRule l dC dI cC cI cZ cL o0 ra rx rf rt rb rl rp ru_ rv rr rs rg rh rz ry (nI th) si (nI na) (nI nx) (nI so) (nI pa) bz de dp io ru x sz hc) ⟨callB_of 1 hts g_RM_noRule rfl rfl rfl (hts _ kw_0_5) (hts _ kw_2_57) (by decide +kernel) (by decide), (hts _ kw_2_59), (hts _ ks_RM_noRule)⟩ rfl rfl (Nat.le_of_ble_eq_true rfl) d_RM_fits_3 (by decide) 0 rfl rfl [0] [1, 2, 3, 4, 5, 6, 7, 8, 9, 10, 11, 12] [12, 0, 1, 2, 3, 4, 5, 6, 7, 8, 9, 10, 11] rfl rfl (by decide) (by decide) (by decide) (fun _ => rfl) (fun _ => rfl) (fun r u hr => ?_)
  obtain ⟨rr, rfl, hr⟩ := hr
  unfold p_RM_noRule at hr
  subst hr
  refine ig_if_eqB (tgt := 13) hx hb (decide (x < 0 ∨ nI ru ≤ x)) rfl d_RM_fits_6 (by decide) (fun h => ?_) (fun h => ?_)
  · have hv := hv.1 h
    refine ig_aload_n hx hb 0 d_RM_fits_13 rfl rfl ?_
    refine ig_get hx hb hts in_RM hown hK 0 rfl rfl 12 (by decide) (hts _ kw_1_157) (fun _ h => h) rfl d_RM_fits_14 ?_
    obtain ⟨h1, hv⟩ := hv
    refine ig_if_neN (tgt := 24) hx hb na rfl d_RM_fits_17 (by decide) h1 (fun h => ?_) (fun h => ?_)
    · have hv := hv.1 h
      refine ig_iconst (v := 0) hx hb d_RM_fits_24 (by decide) ?_
      refine ig_lv (lv' := [(0, .ref o0), (1, .int x), (2, .int (bI d))]) [0, 1, 2] rfl ?_
      exact j25 _ _ _ _ _ _ _ _ _ _ hv
    · have hv := hv.2 h
      refine ig_iconst (v := 2) hx hb d_RM_fits_20 (by decide) ?_
      refine ig_goto (tgt := 25) hx hb d_RM_fits_21 (by decide) ?_
      refine ig_lv (lv' := [(0, .ref o0), (1, .int x), (2, .int (bI d))]) [0, 1, 2] rfl ?_
      exact j25 _ _ _ _ _ _ _ _ _ _ hv
  · have hv := hv.2 h
    refine ig_iconst (v := 1) hx hb d_RM_fits_9 (by decide) ?_
    refine ig_goto (tgt := 25) hx hb d_RM_fits_10 (by decide) ?_
    refine ig_lv (lv' := [(0, .ref o0), (1, .int x), (2, .int (bI d))]) [0, 1, 2] rfl ?_
    exact j25 _ _ _ _ _ _ _ _ _ _ hv
theorem d_RM_rule_0 : decode b_RM_rule 0 = .ok (.aload_n 0, 1) := by decide +kernel
theorem d_RM_rule_1 : decode b_RM_rule 1 = .ok (.aload_n 0, 1) := by decide +kernel
theorem d_RM_rule_2 : decode b_RM_rule 2 = .ok (.iload_n 1, 1) := by decide +kernel
theorem d_RM_rule_3 : decode b_RM_rule 3 = .ok (.invokevirtual 131, 3) := by decide +kernel
theorem d_RM_rule_6 : decode b_RM_rule 6 = .ok (.ifCond .eq 7, 3) := by decide +kernel
theorem d_RM_rule_9 : decode b_RM_rule 9 = .ok (.iconst 1, 1) := by decide +kernel
theorem d_RM_rule_10 : decode b_RM_rule 10 = .ok (.goto 17, 3) := by decide +kernel
theorem d_RM_rule_13 : decode b_RM_rule 13 = .ok (.iload_n 2, 1) := by decide +kernel
theorem d_RM_rule_14 : decode b_RM_rule 14 = .ok (.ifCond .lt 8, 3) := by decide +kernel
theorem d_RM_rule_17 : decode b_RM_rule 17 = .ok (.iload_n 2, 1) := by decide +kernel
theorem d_RM_rule_18 : decode b_RM_rule 18 = .ok (.iconst 2, 1) := by decide +kernel
theorem d_RM_rule_19 : decode b_RM_rule 19 = .ok (.if_icmp .le 7, 3) := by decide +kernel
theorem d_RM_rule_22 : decode b_RM_rule 22 = .ok (.iconst 2, 1) := by decide +kernel
theorem d_RM_rule_23 : decode b_RM_rule 23 = .ok (.goto 4, 3) := by decide +kernel
theorem d_RM_rule_26 : decode b_RM_rule 26 = .ok (.iconst 0, 1) := by decide +kernel
theorem d_RM_rule_27 : decode b_RM_rule 27 = .ok (.putfield 56, 3) := by decide +kernel
theorem d_RM_rule_30 : decode b_RM_rule 30 = .ok (.aload_n 0, 1) := by decide +kernel
theorem d_RM_rule_31 : decode b_RM_rule 31 = .ok (.getfield 56, 3) := by decide +kernel
theorem d_RM_rule_34 : decode b_RM_rule 34 = .ok (.ifCond .le 5, 3) := by decide +kernel
theorem d_RM_rule_37 : decode b_RM_rule 37 = .ok (.iconst 0, 1) := by decide +kernel
theorem d_RM_rule_38 : decode b_RM_rule 38 = .ok (.ireturn, 1) := by decide +kernel
theorem d_RM_rule_39 : decode b_RM_rule 39 = .ok (.aload_n 0, 1) := by decide +kernel
theorem d_RM_rule_40 : decode b_RM_rule 40 = .ok (.aload_n 0, 1) := by decide +kernel
theorem d_RM_rule_41 : decode b_RM_rule 41 = .ok (.getfield 16, 3) := by decide +kernel
theorem d_RM_rule_44 : decode b_RM_rule 44 = .ok (.iload_n 1, 1) := by decide +kernel
theorem d_RM_rule_45 : decode b_RM_rule 45 = .ok (.iaload, 1) := by decide +kernel
theorem d_RM_rule_46 : decode b_RM_rule 46 = .ok (.aload_n 0, 1) := by decide +kernel
theorem d_RM_rule_47 : decode b_RM_rule 47 = .ok (.getfield 19, 3) := by decide +kernel
theorem d_RM_rule_50 : decode b_RM_rule 50 = .ok (.iload_n 1, 1) := by decide +kernel
theorem d_RM_rule_51 : decode b_RM_rule 51 = .ok (.iaload, 1) := by decide +kernel
theorem d_RM_rule_52 : decode b_RM_rule 52 = .ok (.invokevirtual 96, 3) := by decide +kernel
theorem d_RM_rule_55 : decode b_RM_rule 55 = .ok (.iload_n 2, 1) := by decide +kernel
theorem d_RM_rule_56 : decode b_RM_rule 56 = .ok (.ifCond .ne 12, 3) := by decide +kernel
theorem d_RM_rule_59 : decode b_RM_rule 59 = .ok (.aload_n 0, 1) := by decide +kernel
theorem d_RM_rule_60 : decode b_RM_rule 60 = .ok (.getfield 22, 3) := by decide +kernel
theorem d_RM_rule_63 : decode b_RM_rule 63 = .ok (.iload_n 1, 1) := by decide +kernel
theorem d_RM_rule_64 : decode b_RM_rule 64 = .ok (.iaload, 1) := by decide +kernel
theorem d_RM_rule_65 : decode b_RM_rule 65 = .ok (.goto 21, 3) := by decide +kernel
theorem d_RM_rule_68 : decode b_RM_rule 68 = .ok (.iload_n 2, 1) := by decide +kernel
theorem d_RM_rule_69 : decode b_RM_rule 69 = .ok (.iconst 1, 1) := by decide +kernel
theorem d_RM_rule_70 : decode b_RM_rule 70 = .ok (.if_icmp .ne 10, 3) := by decide +kernel
theorem d_RM_rule_73 : decode b_RM_rule 73 = .ok (.aload_n 0, 1) := by decide +kernel
theorem d_RM_rule_74 : decode b_RM_rule 74 = .ok (.getfield 93, 3) := by decide +kernel
theorem d_RM_rule_77 : decode b_RM_rule 77 = .ok (.goto 9, 3) := by decide +kernel
theorem d_RM_rule_80 : decode b_RM_rule 80 = .ok (.aload_n 0, 1) := by decide +kernel
theorem d_RM_rule_81 : decode b_RM_rule 81 = .ok (.getfield 25, 3) := by decide +kernel
theorem d_RM_rule_84 : decode b_RM_rule 84 = .ok (.iload_n 1, 1) := by decide +kernel
theorem d_RM_rule_85 : decode b_RM_rule 85 = .ok (.iaload, 1) := by decide +kernel
theorem d_RM_rule_86 : decode b_RM_rule 86 = .ok (.ireturn, 1) := by decide +kernel
abbrev w_RM_rule : List Cond := Cond.code y_RM_rule b_RM_rule 3 (some .int) :: ig_T
theorem g_RM_rule : GoodIn ig_T w_RM_rule := ig_T_good (ig_T_mem (List.mem_append_right _ (List.mem_append_right _ (List.mem_of_getElem? (i := 56) rfl))) rfl)
set_option maxHeartbeats 4000000 in
set_option maxRecDepth 100000 in
theorem c_RM_rule (l : Launch) (dC : Nat → ClassId) (dI : Nat → Nat → Nat) (cC cI cZ cL : ClassId) (o0 ra rx rf rt rb rl rp ru_ rv rr rs rg rh rz ry : Nat) (si : Int32) (na : Int32) (nx : Int32) (so : Int32) (bz : Int32) (de : Int32) (dp : Int32) (io : Int32) (th : Nat) (ru : Nat) (pa : Nat) (tX : Nat → Int32) (xF : Nat → Nat) (xT : Nat → Nat) (xB : Nat → Nat) (xL : Nat → Nat) (wF : Nat → Nat) (wT : Nat → Nat) (x : Int32) (y : Int32) (sz : Nat) (hr : r_RM_rule th ru pa tX xF xT xB xL wF wT x y) : Met l y_RM_rule w_RM_rule ({ frames := 1, cells := 0, slots := 0, locals := 24 }) (ig_Pc (dC, dI) ig_cl0 [(cC, .char), (cI, .int), (cZ, .boolean), (cL, .long)] [.ref o0, .int x, .int y] [(o0, .inr (ciRM, [.int (nI th), .ref ra, .int si, .ref rx, .ref rf, .ref rt, .ref rb, .ref rl, .int (nI ru), .ref rp, .ref ru_, .ref rv, .int na, .int nx, .int so, .ref rr, .ref rs, .ref rg, .ref rh, .int (nI pa), .ref rz, .ref ry, .int bz, .int de, .int dp, .int io])), (rx, .inl (cI, 1000, .inl tX)), (rf, .inl (cI, 60, .inl (fun zj => nI (xF zj)))), (rt, .inl (cI, 60, .inl (fun zj => nI (xT zj)))), (rb, .inl (cI, 60, .inl (fun zj => nI (xB zj)))), (rl, .inl (cI, 60, .inl (fun zj => nI (xL zj)))), (rg, .inl (cI, 1001, .inl (fun zj => nI (wF zj)))), (rh, .inl (cI, 1001, .inl (fun zj => nI (wT zj))))] sz) (va_Qi (fun (r : Int32) (u : Nat × Nat × (Nat → Nat) × (Nat → Nat)) => ∃ zr : Nat, r = nI zr ∧ p_RM_rule th ru pa tX xF xT xB xL wF wT x y zr u.1 u.2.1 u.2.2.1 u.2.2.2) (fun u t => va_P (dC, dI) ig_cl0 ((fun (u : Nat × Nat × (Nat → Nat) × (Nat → Nat)) => [(o0, .inr (ciRM, [.int (nI u.1), .ref ra, .int si, .ref rx, .ref rf, .ref rt, .ref rb, .ref rl, .int (nI ru), .ref rp, .ref ru_, .ref rv, .int na, .int nx, .int so, .ref rr, .ref rs, .ref rg, .ref rh, .int (nI u.2.1), .ref rz, .ref ry, .int bz, .int de, .int dp, .int io])), (rx, .inl (cI, 1000, .inl tX)), (rf, .inl (cI, 60, .inl (fun zj => nI (xF zj)))), (rt, .inl (cI, 60, .inl (fun zj => nI (xT zj)))), (rb, .inl (cI, 60, .inl (fun zj => nI (xB zj)))), (rl, .inl (cI, 60, .inl (fun zj => nI (xL zj)))), (rg, .inl (cI, 1001, .inl (fun zj => nI (u.2.2.1 zj)))), (rh, .inl (cI, 1001, .inl (fun zj => nI (u.2.2.2 zj))))]) u) t.heap ∧ va_D (va_A [(o0, .inr (ciRM, [.int (nI th), .ref ra, .int si, .ref rx, .ref rf, .ref rt, .ref rb, .ref rl, .int (nI ru), .ref rp, .ref ru_, .ref rv, .int na, .int nx, .int so, .ref rr, .ref rs, .ref rg, .ref rh, .int (nI pa), .ref rz, .ref ry, .int bz, .int de, .int dp, .int io])), (rx, .inl (cI, 1000, .inl tX)), (rf, .inl (cI, 60, .inl (fun zj => nI (xF zj)))), (rt, .inl (cI, 60, .inl (fun zj => nI (xT zj)))), (rb, .inl (cI, 60, .inl (fun zj => nI (xB zj)))), (rl, .inl (cI, 60, .inl (fun zj => nI (xL zj)))), (rg, .inl (cI, 1001, .inl (fun zj => nI (wF zj)))), (rh, .inl (cI, 1001, .inl (fun zj => nI (wT zj))))] sz) ((fun (u : Nat × Nat × (Nat → Nat) × (Nat → Nat)) => [(o0, .inr (ciRM, [.int (nI u.1), .ref ra, .int si, .ref rx, .ref rf, .ref rt, .ref rb, .ref rl, .int (nI ru), .ref rp, .ref ru_, .ref rv, .int na, .int nx, .int so, .ref rr, .ref rs, .ref rg, .ref rh, .int (nI u.2.1), .ref rz, .ref ry, .int bz, .int de, .int dp, .int io])), (rx, .inl (cI, 1000, .inl tX)), (rf, .inl (cI, 60, .inl (fun zj => nI (xF zj)))), (rt, .inl (cI, 60, .inl (fun zj => nI (xT zj)))), (rb, .inl (cI, 60, .inl (fun zj => nI (xB zj)))), (rl, .inl (cI, 60, .inl (fun zj => nI (xL zj)))), (rg, .inl (cI, 1001, .inl (fun zj => nI (u.2.2.1 zj)))), (rh, .inl (cI, 1001, .inl (fun zj => nI (u.2.2.2 zj))))]) u)) (va_A [(o0, .inr (ciRM, [.int (nI th), .ref ra, .int si, .ref rx, .ref rf, .ref rt, .ref rb, .ref rl, .int (nI ru), .ref rp, .ref ru_, .ref rv, .int na, .int nx, .int so, .ref rr, .ref rs, .ref rg, .ref rh, .int (nI pa), .ref rz, .ref ry, .int bz, .int de, .int dp, .int io])), (rx, .inl (cI, 1000, .inl tX)), (rf, .inl (cI, 60, .inl (fun zj => nI (xF zj)))), (rt, .inl (cI, 60, .inl (fun zj => nI (xT zj)))), (rb, .inl (cI, 60, .inl (fun zj => nI (xB zj)))), (rl, .inl (cI, 60, .inl (fun zj => nI (xL zj)))), (rg, .inl (cI, 1001, .inl (fun zj => nI (wF zj)))), (rh, .inl (cI, 1001, .inl (fun zj => nI (wT zj))))] sz)) 0 0 (va_A [(o0, .inr (ciRM, [.int (nI th), .ref ra, .int si, .ref rx, .ref rf, .ref rt, .ref rb, .ref rl, .int (nI ru), .ref rp, .ref ru_, .ref rv, .int na, .int nx, .int so, .ref rr, .ref rs, .ref rg, .ref rh, .int (nI pa), .ref rz, .ref ry, .int bz, .int de, .int dp, .int io])), (rx, .inl (cI, 1000, .inl tX)), (rf, .inl (cI, 60, .inl (fun zj => nI (xF zj)))), (rt, .inl (cI, 60, .inl (fun zj => nI (xT zj)))), (rb, .inl (cI, 60, .inl (fun zj => nI (xB zj)))), (rl, .inl (cI, 60, .inl (fun zj => nI (xL zj)))), (rg, .inl (cI, 1001, .inl (fun zj => nI (wF zj)))), (rh, .inl (cI, 1001, .inl (fun zj => nI (wT zj))))] sz) := by
  refine ig_metI (fun (r : Int32) (u : Nat × Nat × (Nat → Nat) × (Nat → Nat)) => ∃ zr : Nat, r = nI zr ∧ p_RM_rule th ru pa tX xF xT xB xL wF wT x y zr u.1 u.2.1 u.2.2.1 u.2.2.2) (fun (u : Nat × Nat × (Nat → Nat) × (Nat → Nat)) => [(o0, .inr (ciRM, [.int (nI u.1), .ref ra, .int si, .ref rx, .ref rf, .ref rt, .ref rb, .ref rl, .int (nI ru), .ref rp, .ref ru_, .ref rv, .int na, .int nx, .int so, .ref rr, .ref rs, .ref rg, .ref rh, .int (nI u.2.1), .ref rz, .ref ry, .int bz, .int de, .int dp, .int io])), (rx, .inl (cI, 1000, .inl tX)), (rf, .inl (cI, 60, .inl (fun zj => nI (xF zj)))), (rt, .inl (cI, 60, .inl (fun zj => nI (xT zj)))), (rb, .inl (cI, 60, .inl (fun zj => nI (xB zj)))), (rl, .inl (cI, 60, .inl (fun zj => nI (xL zj)))), (rg, .inl (cI, 1001, .inl (fun zj => nI (u.2.2.1 zj)))), (rh, .inl (cI, 1001, .inl (fun zj => nI (u.2.2.2 zj))))]) (by decide) rfl (Nat.le_of_ble_eq_true rfl) rfl (fun _ _ _ => rfl) ?_
  intro zp ze zs zm zargs zbelow zmeth zc zA zQ hx hb hml hown hts hK hN hA hret
  have j27 : ∀ (s0 : Nat) (thc : Nat) (pac : Nat) (wFc : Nat → Nat) (wTc : Nat → Nat), v_RM_rule_27 th ru pa tX xF xT xB xL wF wT x y (p_RM_rule th ru pa tX xF xT xB xL wF wT x y) s0 thc pac wFc wTc → ig_W zp l ze ({ frames := 1, cells := 0, slots := 0, locals := 24 }) zs zm zargs zbelow zmeth zc (dC, dI) ig_cl0 zA zs.heap 3 0 0 zQ 27 [(0, .ref o0), (1, .int x), (2, .int y)] [.int (nI s0), .ref o0] [(o0, .inr (ciRM, [.int (nI thc), .ref ra, .int si, .ref rx, .ref rf, .ref rt, .ref rb, .ref rl, .int (nI ru), .ref rp, .ref ru_, .ref rv, .int na, .int nx, .int so, .ref rr, .ref rs, .ref rg, .ref rh, .int (nI pac), .ref rz, .ref ry, .int bz, .int de, .int dp, .int io])), (rx, .inl (cI, 1000, .inl tX)), (rf, .inl (cI, 60, .inl (fun zj => nI (xF zj)))), (rt, .inl (cI, 60, .inl (fun zj => nI (xT zj)))), (rb, .inl (cI, 60, .inl (fun zj => nI (xB zj)))), (rl, .inl (cI, 60, .inl (fun zj => nI (xL zj)))), (rg, .inl (cI, 1001, .inl (fun zj => nI (wFc zj)))), (rh, .inl (cI, 1001, .inl (fun zj => nI (wTc zj))))] := by
    intro s0 thc pac wFc wTc hv
    unfold v_RM_rule_27 at hv
    refine ig_put (ty := .int) (v := .int (nI s0)) (ws' := [(o0, .inr (ciRM, [.int (nI s0), .ref ra, .int si, .ref rx, .ref rf, .ref rt, .ref rb, .ref rl, .int (nI ru), .ref rp, .ref ru_, .ref rv, .int na, .int nx, .int so, .ref rr, .ref rs, .ref rg, .ref rh, .int (nI pac), .ref rz, .ref ry, .int bz, .int de, .int dp, .int io])), (rx, .inl (cI, 1000, .inl tX)), (rf, .inl (cI, 60, .inl (fun zj => nI (xF zj)))), (rt, .inl (cI, 60, .inl (fun zj => nI (xT zj)))), (rb, .inl (cI, 60, .inl (fun zj => nI (xB zj)))), (rl, .inl (cI, 60, .inl (fun zj => nI (xL zj)))), (rg, .inl (cI, 1001, .inl (fun zj => nI (wFc zj)))), (rh, .inl (cI, 1001, .inl (fun zj => nI (wTc zj))))]) hx hb hts in_RM t_RM t_RM_ok n_RM hown hK 0 rfl rfl 0 (by decide) (hts _ kw_1_145) (fun _ h => h) rfl (by decide +kernel) rfl rfl (Nat.le_of_ble_eq_true rfl) d_RM_rule_27 rfl ?_
    refine ig_aload_n hx hb 0 d_RM_rule_30 rfl rfl ?_
    refine ig_get hx hb hts in_RM hown hK 0 rfl rfl 0 (by decide) (hts _ kw_1_145) (fun _ h => h) rfl d_RM_rule_31 ?_
    obtain ⟨h1, hv⟩ := hv
    refine ig_if_leN (tgt := 39) hx hb s0 rfl d_RM_rule_34 (by decide) h1 (fun h => ?_) (fun h => ?_)
    · have hv := hv.1 h
      refine ig_aload_n hx hb 0 d_RM_rule_39 rfl rfl ?_
      refine ig_aload_n hx hb 0 d_RM_rule_40 rfl rfl ?_
      refine ig_get hx hb hts in_RM hown hK 0 rfl rfl 4 (by decide) (hts _ kw_1_149) (fun _ h => h) rfl d_RM_rule_41 ?_
      refine ig_iload_n hx hb 1 d_RM_rule_44 rfl rfl ?_
      obtain ⟨i1, he, hv⟩ := hv
      rw [he]
      obtain ⟨hc, hv⟩ := hv
      refine ig_iald (x := (nI (xF i1))) hx hb hK 2 1 rfl rfl i1 rfl hc (by decide) rfl d_RM_rule_45 ?_
      refine ig_aload_n hx hb 0 d_RM_rule_46 rfl rfl ?_
      refine ig_get hx hb hts in_RM hown hK 0 rfl rfl 5 (by decide) (hts _ kw_1_150) (fun _ h => h) rfl d_RM_rule_47 ?_
      refine ig_iload_n hx hb 1 d_RM_rule_50 rfl rfl ?_
      obtain ⟨hc, hv⟩ := hv
      refine ig_iald (x := (nI (xT i1))) hx hb hK 3 1 rfl rfl i1 rfl hc (by decide) rfl d_RM_rule_51 ?_
      obtain ⟨hc, hv⟩ := hv
      refine ig_cVv (As := [.int (nI (xF i1)), .int (nI (xT i1))]) (rest := []) (wr := [(rf, .inl (cI, 60, .inl (fun zj => nI (xF zj)))), (rt, .inl (cI, 60, .inl (fun zj => nI (xT zj)))), (rb, .inl (cI, 60, .inl (fun zj => nI (xB zj)))), (rl, .inl (cI, 60, .inl (fun zj => nI (xL zj))))]) (ws' := fun u => [(o0, .inr (ciRM, [.int (nI s0), .ref ra, .int si, .ref rx, .ref rf, .ref rt, .ref rb, .ref rl, .int (nI ru), .ref rp, .ref ru_, .ref rv, .int na, .int nx, .int so, .ref rr, .ref rs, .ref rg, .ref rh, .int (nI u.1), .ref rz, .ref ry, .int bz, .int de, .int dp, .int io])), (rx, .inl (cI, 1000, .inl tX)), (rf, .inl (cI, 60, .inl (fun zj => nI (xF zj)))), (rt, .inl (cI, 60, .inl (fun zj => nI (xT zj)))), (rb, .inl (cI, 60, .inl (fun zj => nI (xB zj)))), (rl, .inl (cI, 60, .inl (fun zj => nI (xL zj)))), (rg, .inl (cI, 1001, .inl (fun zj => nI (u.2.1 zj)))), (rh, .inl (cI, 1001, .inl (fun zj => nI (u.2.2 zj))))]) hx hb hml hown hts hK hN hA (fun sz => c_RM_findParts l dC dI cC cI cZ cL o0 ra rx rf rt rb rl rp ru_ rv rr rs rg rh rz ry (nI s0) si (nI ru) na nx so bz de dp io pac tX wFc wTc (xF i1) (xT i1) sz hc) ⟨callB_of 2 hts g_RM_findParts rfl rfl rfl (hts _ kw_0_5) (hts _ kw_2_25) (by decide +kernel) (by decide), (hts _ kw_2_27), (hts _ ks_RM_findParts)⟩ rfl rfl (Nat.le_of_ble_eq_true rfl) d_RM_rule_52 (by decide) 0 rfl rfl [0, 1, 6, 7] [2, 3, 4, 5] [4, 5, 0, 1, 2, 3, 6, 7] rfl rfl (by decide) (by decide) (by decide) (fun _ => rfl) (fun _ => rfl) (fun u hr => ?_)
      obtain ⟨pa3, wF4, wT5⟩ := u
      unfold p_RM_findParts at hr
      have hv := hv pa3 wF4 wT5 hr
      refine ig_iload_n hx hb 2 d_RM_rule_55 rfl rfl ?_
      refine ig_if_ne (tgt := 68) hx hb d_RM_rule_56 (by decide) (fun h => ?_) (fun h => ?_)
      · have hv := hv.1 h
        refine ig_iload_n hx hb 2 d_RM_rule_68 rfl rfl ?_
        refine ig_iconst (v := 1) hx hb d_RM_rule_69 (by decide) ?_
        refine ig_icmp_ne (tgt := 80) hx hb d_RM_rule_70 (by decide) (fun h => ?_) (fun h => ?_)
        · have hv := hv.1 h
          refine ig_aload_n hx hb 0 d_RM_rule_80 rfl rfl ?_
          refine ig_get hx hb hts in_RM hown hK 0 rfl rfl 7 (by decide) (hts _ kw_1_152) (fun _ h => h) rfl d_RM_rule_81 ?_
          refine ig_iload_n hx hb 1 d_RM_rule_84 rfl rfl ?_
          obtain ⟨hc, hv⟩ := hv
          refine ig_iald (x := (nI (xL i1))) hx hb hK 5 1 rfl rfl i1 rfl hc (by decide) rfl d_RM_rule_85 ?_
          exact hret 86 _ (nI (xL i1)) (s0, pa3, wF4, wT5) d_RM_rule_86 ⟨xL i1, rfl, hv⟩
        · have hv := hv.2 h
          refine ig_aload_n hx hb 0 d_RM_rule_73 rfl rfl ?_
          refine ig_get hx hb hts in_RM hown hK 0 rfl rfl 19 (by decide) (hts _ kw_1_164) (fun _ h => h) rfl d_RM_rule_74 ?_
          refine ig_goto (tgt := 86) hx hb d_RM_rule_77 (by decide) ?_
          exact hret 86 _ (nI pa3) (s0, pa3, wF4, wT5) d_RM_rule_86 ⟨pa3, rfl, hv⟩
      · have hv := hv.2 h
        refine ig_aload_n hx hb 0 d_RM_rule_59 rfl rfl ?_
        refine ig_get hx hb hts in_RM hown hK 0 rfl rfl 6 (by decide) (hts _ kw_1_151) (fun _ h => h) rfl d_RM_rule_60 ?_
        refine ig_iload_n hx hb 1 d_RM_rule_63 rfl rfl ?_
        obtain ⟨hc, hv⟩ := hv
        refine ig_iald (x := (nI (xB i1))) hx hb hK 4 1 rfl rfl i1 rfl hc (by decide) rfl d_RM_rule_64 ?_
        refine ig_goto (tgt := 86) hx hb d_RM_rule_65 (by decide) ?_
        exact hret 86 _ (nI (xB i1)) (s0, pa3, wF4, wT5) d_RM_rule_86 ⟨xB i1, rfl, hv⟩
    · have hv := hv.2 h
      refine ig_iconst (v := 0) hx hb d_RM_rule_37 (by decide) ?_
      exact hret 38 _ 0 (s0, pac, wFc, wTc) d_RM_rule_38 ⟨0, rfl, hv⟩
  have j22 : ∀ (thc : Nat) (pac : Nat) (wFc : Nat → Nat) (wTc : Nat → Nat), v_RM_rule_22 th ru pa tX xF xT xB xL wF wT x y (p_RM_rule th ru pa tX xF xT xB xL wF wT x y) thc pac wFc wTc → ig_W zp l ze ({ frames := 1, cells := 0, slots := 0, locals := 24 }) zs zm zargs zbelow zmeth zc (dC, dI) ig_cl0 zA zs.heap 3 0 0 zQ 22 [(0, .ref o0), (1, .int x), (2, .int y)] [.ref o0] [(o0, .inr (ciRM, [.int (nI thc), .ref ra, .int si, .ref rx, .ref rf, .ref rt, .ref rb, .ref rl, .int (nI ru), .ref rp, .ref ru_, .ref rv, .int na, .int nx, .int so, .ref rr, .ref rs, .ref rg, .ref rh, .int (nI pac), .ref rz, .ref ry, .int bz, .int de, .int dp, .int io])), (rx, .inl (cI, 1000, .inl tX)), (rf, .inl (cI, 60, .inl (fun zj => nI (xF zj)))), (rt, .inl (cI, 60, .inl (fun zj => nI (xT zj)))), (rb, .inl (cI, 60, .inl (fun zj => nI (xB zj)))), (rl, .inl (cI, 60, .inl (fun zj => nI (xL zj)))), (rg, .inl (cI, 1001, .inl (fun zj => nI (wFc zj)))), (rh, .inl (cI, 1001, .inl (fun zj => nI (wTc zj))))] := by
    intro thc pac wFc wTc hv
    unfold v_RM_rule_22 at hv
    refine ig_iconst (v := 2) hx hb d_RM_rule_22 (by decide) ?_
    refine ig_goto (tgt := 27) hx hb d_RM_rule_23 (by decide) ?_
    refine ig_lv (lv' := [(0, .ref o0), (1, .int x), (2, .int y)]) [0, 1, 2] rfl ?_
    exact j27 _ _ _ _ _ hv
  have hv := t_RM_rule th ru pa tX xF xT xB xL wF wT x y hr 
  unfold v_RM_rule at hv
  refine ig_aload_n hx hb 0 d_RM_rule_0 rfl rfl ?_
  refine ig_aload_n hx hb 0 d_RM_rule_1 rfl rfl ?_
  refine ig_iload_n hx hb 1 d_RM_rule_2 rfl rfl ?_
  obtain ⟨hc, hv⟩ := hv
  refine ig_cVi (As := [.int x]) (rest := [.ref o0]) (wr := [(rx, .inl (cI, 1000, .inl tX)), (rf, .inl (cI, 60, .inl (fun zj => nI (xF zj)))), (rt, .inl (cI, 60, .inl (fun zj => nI (xT zj)))), (rb, .inl (cI, 60, .inl (fun zj => nI (xB zj)))), (rl, .inl (cI, 60, .inl (fun zj => nI (xL zj)))), (rg, .inl (cI, 1001, .inl (fun zj => nI (wF zj)))), (rh, .inl (cI, 1001, .inl (fun zj => nI (wT zj))))]) (ws' := fun u => [(o0, .inr (ciRM, [.int (nI th), .ref ra, .int si, .ref rx, .ref rf, .ref rt, .ref rb, .ref rl, .int (nI ru), .ref rp, .ref ru_, .ref rv, .int na, .int nx, .int so, .ref rr, .ref rs, .ref rg, .ref rh, .int (nI pa), .ref rz, .ref ry, .int bz, .int de, .int dp, .int io])), (rx, .inl (cI, 1000, .inl tX)), (rf, .inl (cI, 60, .inl (fun zj => nI (xF zj)))), (rt, .inl (cI, 60, .inl (fun zj => nI (xT zj)))), (rb, .inl (cI, 60, .inl (fun zj => nI (xB zj)))), (rl, .inl (cI, 60, .inl (fun zj => nI (xL zj)))), (rg, .inl (cI, 1001, .inl (fun zj => nI (wF zj)))), (rh, .inl (cI, 1001, .inl (fun zj => nI (wT zj))))]) hx hb hml hown hts hK hN hA (fun sz => c_RM_noRule l dC dI cC cI cZ cL o0 ra rx rf rt rb rl rp ru_ rv rr rs rg rh rz ry (nI th) si na nx so (nI pa) bz de dp io ru x sz hc) ⟨callB_of 1 hts g_RM_noRule rfl rfl rfl (hts _ kw_0_5) (hts _ kw_2_57) (by decide +kernel) (by decide), (hts _ kw_2_59), (hts _ ks_RM_noRule)⟩ rfl rfl (Nat.le_of_ble_eq_true rfl) d_RM_rule_3 (by decide) 0 rfl rfl [0] [1, 2, 3, 4, 5, 6, 7] [7, 0, 1, 2, 3, 4, 5, 6] rfl rfl (by decide) (by decide) (by decide) (fun _ => rfl) (fun _ => rfl) (fun r u hr => ?_)
  obtain ⟨rr, rfl, hr⟩ := hr
  unfold p_RM_noRule at hr
  subst hr
  refine ig_if_eqB (tgt := 13) hx hb (decide (x < 0 ∨ nI ru ≤ x)) rfl d_RM_rule_6 (by decide) (fun h => ?_) (fun h => ?_)
  · have hv := hv.1 h
    refine ig_iload_n hx hb 2 d_RM_rule_13 rfl rfl ?_
    refine ig_if_lt (tgt := 22) hx hb d_RM_rule_14 (by decide) (fun h => ?_) (fun h => ?_)
    · have hv := hv.1 h
      refine ig_lv (lv' := [(0, .ref o0), (1, .int x), (2, .int y)]) [0, 1, 2] rfl ?_
      exact j22 _ _ _ _ hv
    · have hv := hv.2 h
      refine ig_iload_n hx hb 2 d_RM_rule_17 rfl rfl ?_
      refine ig_iconst (v := 2) hx hb d_RM_rule_18 (by decide) ?_
      refine ig_icmp_le (tgt := 26) hx hb d_RM_rule_19 (by decide) (fun h => ?_) (fun h => ?_)
      · have hv := hv.1 h
        refine ig_iconst (v := 0) hx hb d_RM_rule_26 (by decide) ?_
        refine ig_lv (lv' := [(0, .ref o0), (1, .int x), (2, .int y)]) [0, 1, 2] rfl ?_
        exact j27 _ _ _ _ _ hv
      · have hv := hv.2 h
        refine ig_lv (lv' := [(0, .ref o0), (1, .int x), (2, .int y)]) [0, 1, 2] rfl ?_
        exact j22 _ _ _ _ hv
  · have hv := hv.2 h
    refine ig_iconst (v := 1) hx hb d_RM_rule_9 (by decide) ?_
    refine ig_goto (tgt := 27) hx hb d_RM_rule_10 (by decide) ?_
    refine ig_lv (lv' := [(0, .ref o0), (1, .int x), (2, .int y)]) [0, 1, 2] rfl ?_
    exact j27 _ _ _ _ _ hv
