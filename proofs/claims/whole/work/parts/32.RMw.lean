theorem kw_1_154 : Cond.fieldLink "IgnoreRulesModel" 28 "IgnoreRulesModel" "path" "[I" ∈ ig_T := ig_T_mem (List.mem_append_right _ (List.mem_append_left _ (List.mem_of_getElem? (i := 154) rfl))) rfl
theorem kw_1_155 : Cond.fieldLink "IgnoreRulesModel" 31 "IgnoreRulesModel" "nameFrom" "[I" ∈ ig_T := ig_T_mem (List.mem_append_right _ (List.mem_append_left _ (List.mem_of_getElem? (i := 155) rfl))) rfl
theorem kw_1_156 : Cond.fieldLink "IgnoreRulesModel" 34 "IgnoreRulesModel" "nameTo" "[I" ∈ ig_T := ig_T_mem (List.mem_append_right _ (List.mem_append_left _ (List.mem_of_getElem? (i := 156) rfl))) rfl
theorem kw_1_160 : Cond.fieldLink "IgnoreRulesModel" 37 "IgnoreRulesModel" "reached" "[Z" ∈ ig_T := ig_T_mem (List.mem_append_right _ (List.mem_append_left _ (List.mem_of_getElem? (i := 160) rfl))) rfl
theorem kw_1_161 : Cond.fieldLink "IgnoreRulesModel" 41 "IgnoreRulesModel" "further" "[Z" ∈ ig_T := ig_T_mem (List.mem_append_right _ (List.mem_append_left _ (List.mem_of_getElem? (i := 161) rfl))) rfl
theorem kw_2_89 : Cond.methodLink "IgnoreRulesModel" 145 y_RM_pass ∈ ig_T := ig_T_mem (List.mem_append_right _ (List.mem_append_right _ (List.mem_of_getElem? (i := 89) rfl))) rfl
theorem kw_2_91 : Cond.instanceMethod y_RM_pass ∈ ig_T := ig_T_mem (List.mem_append_right _ (List.mem_append_right _ (List.mem_of_getElem? (i := 91) rfl))) rfl
theorem kw_2_93 : Cond.methodLink "IgnoreRulesModel" 148 y_RM_takes ∈ ig_T := ig_T_mem (List.mem_append_right _ (List.mem_append_right _ (List.mem_of_getElem? (i := 93) rfl))) rfl
theorem kw_2_95 : Cond.instanceMethod y_RM_takes ∈ ig_T := ig_T_mem (List.mem_append_right _ (List.mem_append_right _ (List.mem_of_getElem? (i := 95) rfl))) rfl
theorem kw_2_97 : Cond.methodLink "IgnoreRulesModel" 142 y_RM_isInSet ∈ ig_T := ig_T_mem (List.mem_append_right _ (List.mem_append_right _ (List.mem_of_getElem? (i := 97) rfl))) rfl
theorem kw_2_99 : Cond.instanceMethod y_RM_isInSet ∈ ig_T := ig_T_mem (List.mem_append_right _ (List.mem_append_right _ (List.mem_of_getElem? (i := 99) rfl))) rfl
theorem d_RM_pass_0 : decode b_RM_pass 0 = .ok (.iload_n 1, 1) := by decide +kernel
theorem d_RM_pass_1 : decode b_RM_pass 1 = .ok (.istore_n 3, 1) := by decide +kernel
theorem d_RM_pass_2 : decode b_RM_pass 2 = .ok (.iload_n 3, 1) := by decide +kernel
theorem d_RM_pass_3 : decode b_RM_pass 3 = .ok (.iload_n 2, 1) := by decide +kernel
theorem d_RM_pass_4 : decode b_RM_pass 4 = .ok (.if_icmp .ge 42, 3) := by decide +kernel
theorem d_RM_pass_7 : decode b_RM_pass 7 = .ok (.aload_n 0, 1) := by decide +kernel
theorem d_RM_pass_8 : decode b_RM_pass 8 = .ok (.getfield 37, 3) := by decide +kernel
theorem d_RM_pass_11 : decode b_RM_pass 11 = .ok (.iload_n 3, 1) := by decide +kernel
theorem d_RM_pass_12 : decode b_RM_pass 12 = .ok (.baload, 1) := by decide +kernel
theorem d_RM_pass_13 : decode b_RM_pass 13 = .ok (.ifCond .eq 27, 3) := by decide +kernel
theorem d_RM_pass_16 : decode b_RM_pass 16 = .ok (.aload_n 0, 1) := by decide +kernel
theorem d_RM_pass_17 : decode b_RM_pass 17 = .ok (.iload_n 3, 1) := by decide +kernel
theorem d_RM_pass_18 : decode b_RM_pass 18 = .ok (.iload_n 2, 1) := by decide +kernel
theorem d_RM_pass_19 : decode b_RM_pass 19 = .ok (.invokevirtual 89, 3) := by decide +kernel
theorem d_RM_pass_22 : decode b_RM_pass 22 = .ok (.aload_n 0, 1) := by decide +kernel
theorem d_RM_pass_23 : decode b_RM_pass 23 = .ok (.getfield 68, 3) := by decide +kernel
theorem d_RM_pass_26 : decode b_RM_pass 26 = .ok (.iconst 2, 1) := by decide +kernel
theorem d_RM_pass_27 : decode b_RM_pass 27 = .ok (.if_icmp .ne 13, 3) := by decide +kernel
theorem d_RM_pass_30 : decode b_RM_pass 30 = .ok (.aload_n 0, 1) := by decide +kernel
theorem d_RM_pass_31 : decode b_RM_pass 31 = .ok (.getfield 37, 3) := by decide +kernel
theorem d_RM_pass_34 : decode b_RM_pass 34 = .ok (.aload_n 0, 1) := by decide +kernel
theorem d_RM_pass_35 : decode b_RM_pass 35 = .ok (.getfield 65, 3) := by decide +kernel
theorem d_RM_pass_38 : decode b_RM_pass 38 = .ok (.iconst 1, 1) := by decide +kernel
theorem d_RM_pass_39 : decode b_RM_pass 39 = .ok (.bastore, 1) := by decide +kernel
theorem d_RM_pass_40 : decode b_RM_pass 40 = .ok (.iinc 3 1, 3) := by decide +kernel
theorem d_RM_pass_43 : decode b_RM_pass 43 = .ok (.goto (-41), 3) := by decide +kernel
theorem d_RM_pass_46 : decode b_RM_pass 46 = .ok (.return_, 1) := by decide +kernel
abbrev w_RM_pass : List Cond := Cond.code y_RM_pass b_RM_pass 4 none :: ig_T
theorem g_RM_pass : GoodIn ig_T w_RM_pass := ig_T_good (ig_T_mem (List.mem_append_right _ (List.mem_append_right _ (List.mem_of_getElem? (i := 92) rfl))) rfl)
set_option maxHeartbeats 4000000 in
set_option maxRecDepth 100000 in
theorem c_RM_pass (l : Launch) (dC : Nat → ClassId) (dI : Nat → Nat → Nat) (cC cI cZ cL : ClassId) (o0 ra rx rf rt rb rl rp ru_ rv rr rs rg rh rz ry : Nat) (th : Int32) (si : Int32) (ru : Int32) (na : Int32) (pa : Int32) (bz : Int32) (de : Int32) (dp : Int32) (io : Int32) (nx : Nat) (so : Nat) (tX : Nat → Int32) (zR : Nat → Bool) (f : Nat) (a : Nat) (sz : Nat) (hr : r_RM_pass nx so tX zR f a) : Met l y_RM_pass w_RM_pass ({ frames := 3, cells := 0, slots := 0, locals := 69 }) (ig_Pc (dC, dI) ig_cl0 [(cC, .char), (cI, .int), (cZ, .boolean), (cL, .long)] [.ref o0, .int (nI f), .int (nI a)] [(o0, .inr (ciRM, [.int th, .ref ra, .int si, .ref rx, .ref rf, .ref rt, .ref rb, .ref rl, .int ru, .ref rp, .ref ru_, .ref rv, .int na, .int (nI nx), .int (nI so), .ref rr, .ref rs, .ref rg, .ref rh, .int pa, .ref rz, .ref ry, .int bz, .int de, .int dp, .int io])), (rx, .inl (cI, 1000, .inl tX)), (rr, .inl (cZ, 1001, .inl (fun zj => bI (zR zj))))] sz) (va_Qv (fun (u : Nat × Nat × (Nat → Bool)) => p_RM_pass nx so tX zR f a u.1 u.2.1 u.2.2) (fun u t => va_P (dC, dI) ig_cl0 ((fun (u : Nat × Nat × (Nat → Bool)) => [(o0, .inr (ciRM, [.int th, .ref ra, .int si, .ref rx, .ref rf, .ref rt, .ref rb, .ref rl, .int ru, .ref rp, .ref ru_, .ref rv, .int na, .int (nI u.1), .int (nI u.2.1), .ref rr, .ref rs, .ref rg, .ref rh, .int pa, .ref rz, .ref ry, .int bz, .int de, .int dp, .int io])), (rx, .inl (cI, 1000, .inl tX)), (rr, .inl (cZ, 1001, .inl (fun zj => bI (u.2.2 zj))))]) u) t.heap ∧ va_D (va_A [(o0, .inr (ciRM, [.int th, .ref ra, .int si, .ref rx, .ref rf, .ref rt, .ref rb, .ref rl, .int ru, .ref rp, .ref ru_, .ref rv, .int na, .int (nI nx), .int (nI so), .ref rr, .ref rs, .ref rg, .ref rh, .int pa, .ref rz, .ref ry, .int bz, .int de, .int dp, .int io])), (rx, .inl (cI, 1000, .inl tX)), (rr, .inl (cZ, 1001, .inl (fun zj => bI (zR zj))))] sz) ((fun (u : Nat × Nat × (Nat → Bool)) => [(o0, .inr (ciRM, [.int th, .ref ra, .int si, .ref rx, .ref rf, .ref rt, .ref rb, .ref rl, .int ru, .ref rp, .ref ru_, .ref rv, .int na, .int (nI u.1), .int (nI u.2.1), .ref rr, .ref rs, .ref rg, .ref rh, .int pa, .ref rz, .ref ry, .int bz, .int de, .int dp, .int io])), (rx, .inl (cI, 1000, .inl tX)), (rr, .inl (cZ, 1001, .inl (fun zj => bI (u.2.2 zj))))]) u)) (va_A [(o0, .inr (ciRM, [.int th, .ref ra, .int si, .ref rx, .ref rf, .ref rt, .ref rb, .ref rl, .int ru, .ref rp, .ref ru_, .ref rv, .int na, .int (nI nx), .int (nI so), .ref rr, .ref rs, .ref rg, .ref rh, .int pa, .ref rz, .ref ry, .int bz, .int de, .int dp, .int io])), (rx, .inl (cI, 1000, .inl tX)), (rr, .inl (cZ, 1001, .inl (fun zj => bI (zR zj))))] sz)) 0 0 (va_A [(o0, .inr (ciRM, [.int th, .ref ra, .int si, .ref rx, .ref rf, .ref rt, .ref rb, .ref rl, .int ru, .ref rp, .ref ru_, .ref rv, .int na, .int (nI nx), .int (nI so), .ref rr, .ref rs, .ref rg, .ref rh, .int pa, .ref rz, .ref ry, .int bz, .int de, .int dp, .int io])), (rx, .inl (cI, 1000, .inl tX)), (rr, .inl (cZ, 1001, .inl (fun zj => bI (zR zj))))] sz) := by
  refine ig_metV (fun (u : Nat × Nat × (Nat → Bool)) => p_RM_pass nx so tX zR f a u.1 u.2.1 u.2.2) (fun (u : Nat × Nat × (Nat → Bool)) => [(o0, .inr (ciRM, [.int th, .ref ra, .int si, .ref rx, .ref rf, .ref rt, .ref rb, .ref rl, .int ru, .ref rp, .ref ru_, .ref rv, .int na, .int (nI u.1), .int (nI u.2.1), .ref rr, .ref rs, .ref rg, .ref rh, .int pa, .ref rz, .ref ry, .int bz, .int de, .int dp, .int io])), (rx, .inl (cI, 1000, .inl tX)), (rr, .inl (cZ, 1001, .inl (fun zj => bI (u.2.2 zj))))]) (by decide) rfl (Nat.le_of_ble_eq_true rfl) rfl ?_
  intro zp ze zs zm zargs zbelow zmeth zc zA zQ hx hb hml hown hts hK hN hA hret
  obtain ⟨K2, hK2⟩ : ∃ K : Nat → Nat → Nat → (Nat → Bool) → Prop, K = fun (b : Nat) (nxc : Nat) (soc : Nat) (zRc : Nat → Bool) => ig_W zp l ze ({ frames := 3, cells := 0, slots := 0, locals := 69 }) zs zm zargs zbelow zmeth zc (dC, dI) ig_cl0 zA zs.heap 4 0 0 zQ 2 [(0, .ref o0), (2, .int (nI a)), (3, .int (nI b))] [] [(o0, .inr (ciRM, [.int th, .ref ra, .int si, .ref rx, .ref rf, .ref rt, .ref rb, .ref rl, .int ru, .ref rp, .ref ru_, .ref rv, .int na, .int (nI nxc), .int (nI soc), .ref rr, .ref rs, .ref rg, .ref rh, .int pa, .ref rz, .ref ry, .int bz, .int de, .int dp, .int io])), (rx, .inl (cI, 1000, .inl tX)), (rr, .inl (cZ, 1001, .inl (fun zj => bI (zRc zj))))] := ⟨_, rfl⟩
  have k2 : ∀ (b : Nat) (nxc : Nat) (soc : Nat) (zRc : Nat → Bool), v_RM_pass_2 nx so tX zR f a K2 (p_RM_pass nx so tX zR f a) b nxc soc zRc → K2 b nxc soc zRc := by
    intro b nxc soc zRc hv
    unfold v_RM_pass_2 at hv
    rw [hK2]
    show ig_W zp l ze ({ frames := 3, cells := 0, slots := 0, locals := 69 }) zs zm zargs zbelow zmeth zc (dC, dI) ig_cl0 zA zs.heap 4 0 0 zQ 2 [(0, .ref o0), (2, .int (nI a)), (3, .int (nI b))] [] [(o0, .inr (ciRM, [.int th, .ref ra, .int si, .ref rx, .ref rf, .ref rt, .ref rb, .ref rl, .int ru, .ref rp, .ref ru_, .ref rv, .int na, .int (nI nxc), .int (nI soc), .ref rr, .ref rs, .ref rg, .ref rh, .int pa, .ref rz, .ref ry, .int bz, .int de, .int dp, .int io])), (rx, .inl (cI, 1000, .inl tX)), (rr, .inl (cZ, 1001, .inl (fun zj => bI (zRc zj))))]
    refine ig_iload_n hx hb 2 d_RM_pass_2 rfl rfl ?_
    refine ig_iload_n hx hb 1 d_RM_pass_3 rfl rfl ?_
    obtain ⟨h1, hv⟩ := hv
    obtain ⟨h2, hv⟩ := hv
    refine ig_icmp_geN (tgt := 46) hx hb b a rfl rfl d_RM_pass_4 (by decide) h1 h2 (fun h => ?_) (fun h => ?_)
    · have hv := hv.1 h
      exact hret 46 _ (nxc, soc, zRc) d_RM_pass_46 hv
    · have hv := hv.2 h
      refine ig_aload_n hx hb 0 d_RM_pass_7 rfl rfl ?_
      refine ig_get hx hb hts in_RM hown hK 0 rfl rfl 15 (by decide) (hts _ kw_1_160) (fun _ h => h) rfl d_RM_pass_8 ?_
      refine ig_iload_n hx hb 2 d_RM_pass_11 rfl rfl ?_
      obtain ⟨hc, hv⟩ := hv
      refine ig_zald (x := (bI (zRc b))) hx hb hK 2 2 rfl rfl b rfl hc (by decide) rfl d_RM_pass_12 ?_
      refine ig_if_eqB (tgt := 40) hx hb (zRc b) rfl d_RM_pass_13 (by decide) (fun h => ?_) (fun h => ?_)
      · have hv := hv.1 h
        refine ig_iinc (v := (nI (b + 1))) (lv' := [(3, .int (nI (b + 1))), (0, .ref o0), (2, .int (nI a))]) hx hb 2 d_RM_pass_40 rfl (ig_inc b 1 (by decide)) (by decide) rfl ?_
        refine ig_goto (tgt := 2) hx hb d_RM_pass_43 (by decide) ?_
        refine ig_lv (lv' := [(0, .ref o0), (2, .int (nI a)), (3, .int (nI (b + 1)))]) [1, 2, 0] rfl ?_
        rw [hK2] at hv
        exact hv
      · have hv := hv.2 h
        refine ig_aload_n hx hb 0 d_RM_pass_16 rfl rfl ?_
        refine ig_iload_n hx hb 2 d_RM_pass_17 rfl rfl ?_
        refine ig_iload_n hx hb 1 d_RM_pass_18 rfl rfl ?_
        obtain ⟨hc, hv⟩ := hv
        refine ig_cVv (As := [.int (nI b), .int (nI a)]) (rest := []) (wr := [(rr, .inl (cZ, 1001, .inl (fun zj => bI (zRc zj))))]) (ws' := fun u => [(o0, .inr (ciRM, [.int th, .ref ra, .int si, .ref rx, .ref rf, .ref rt, .ref rb, .ref rl, .int ru, .ref rp, .ref ru_, .ref rv, .int na, .int (nI u.1), .int (nI u.2), .ref rr, .ref rs, .ref rg, .ref rh, .int pa, .ref rz, .ref ry, .int bz, .int de, .int dp, .int io])), (rx, .inl (cI, 1000, .inl tX)), (rr, .inl (cZ, 1001, .inl (fun zj => bI (zRc zj))))]) hx hb hml hown hts hK hN hA (fun sz => c_RM_look l dC dI cC cI cZ cL o0 ra rx rf rt rb rl rp ru_ rv rr rs rg rh rz ry th si ru na pa bz de dp io nxc soc tX b a sz hc) ⟨callB_of 2 hts g_RM_look rfl rfl rfl (hts _ kw_0_5) (hts _ kw_2_33) (by decide +kernel) (by decide), (hts _ kw_2_35), (hts _ ks_RM_look)⟩ rfl rfl (Nat.le_of_ble_eq_true rfl) d_RM_pass_19 (by decide) 0 rfl rfl [0, 1] [2] [1, 2, 0] rfl rfl (by decide) (by decide) (by decide) (fun _ => rfl) (fun _ => rfl) (fun u hr => ?_)
        obtain ⟨w1, w2⟩ := u
        unfold p_RM_look at hr
        obtain ⟨rfl, rfl⟩ := hr
        refine ig_aload_n hx hb 0 d_RM_pass_22 rfl rfl ?_
        refine ig_get hx hb hts in_RM hown hK 0 rfl rfl 14 (by decide) (hts _ kw_1_159) (fun _ h => h) rfl d_RM_pass_23 ?_
        refine ig_iconst (v := 2) hx hb d_RM_pass_26 (by decide) ?_
        obtain ⟨h1, hv⟩ := hv
        refine ig_icmp_neN (tgt := 40) hx hb (sp_sort tX a b) 2 rfl rfl d_RM_pass_27 (by decide) h1 (by decide) (fun h => ?_) (fun h => ?_)
        · have hv := hv.1 h
          refine ig_iinc (v := (nI (b + 1))) (lv' := [(3, .int (nI (b + 1))), (0, .ref o0), (2, .int (nI a))]) hx hb 2 d_RM_pass_40 rfl (ig_inc b 1 (by decide)) (by decide) rfl ?_
          refine ig_goto (tgt := 2) hx hb d_RM_pass_43 (by decide) ?_
          refine ig_lv (lv' := [(0, .ref o0), (2, .int (nI a)), (3, .int (nI (b + 1)))]) [1, 2, 0] rfl ?_
          rw [hK2] at hv
          exact hv
        · have hv := hv.2 h
          refine ig_aload_n hx hb 0 d_RM_pass_30 rfl rfl ?_
          refine ig_get hx hb hts in_RM hown hK 0 rfl rfl 15 (by decide) (hts _ kw_1_160) (fun _ h => h) rfl d_RM_pass_31 ?_
          refine ig_aload_n hx hb 0 d_RM_pass_34 rfl rfl ?_
          refine ig_get hx hb hts in_RM hown hK 0 rfl rfl 13 (by decide) (hts _ kw_1_158) (fun _ h => h) rfl d_RM_pass_35 ?_
          refine ig_iconst (v := 1) hx hb d_RM_pass_38 (by decide) ?_
          obtain ⟨hc, hv⟩ := hv
          refine ig_zast (f' := fun zj => bI ((updB zRc (sp_end tX a b) true) zj)) (ws' := [(o0, .inr (ciRM, [.int th, .ref ra, .int si, .ref rx, .ref rf, .ref rt, .ref rb, .ref rl, .int ru, .ref rp, .ref ru_, .ref rv, .int na, .int (nI (sp_end tX a b)), .int (nI (sp_sort tX a b)), .ref rr, .ref rs, .ref rg, .ref rh, .int pa, .ref rz, .ref ry, .int bz, .int de, .int dp, .int io])), (rx, .inl (cI, 1000, .inl tX)), (rr, .inl (cZ, 1001, .inl (fun zj => bI ((updB zRc (sp_end tX a b) true) zj))))]) hx hb hK 2 2 rfl rfl (sp_end tX a b) rfl hc (by decide) (bI_nar true) (upd_B zRc (sp_end tX a b) true) d_RM_pass_39 rfl ?_
          refine ig_iinc (v := (nI (b + 1))) (lv' := [(3, .int (nI (b + 1))), (0, .ref o0), (2, .int (nI a))]) hx hb 2 d_RM_pass_40 rfl (ig_inc b 1 (by decide)) (by decide) rfl ?_
          refine ig_goto (tgt := 2) hx hb d_RM_pass_43 (by decide) ?_
          refine ig_lv (lv' := [(0, .ref o0), (2, .int (nI a)), (3, .int (nI (b + 1)))]) [1, 2, 0] rfl ?_
          rw [hK2] at hv
          exact hv
  have hv := t_RM_pass nx so tX zR f a hr K2 k2
  unfold v_RM_pass at hv
  refine ig_iload_n hx hb 1 d_RM_pass_0 rfl rfl ?_
  refine ig_istore_n (lv' := [(3, .int (nI f)), (0, .ref o0), (1, .int (nI f)), (2, .int (nI a))]) hx hb d_RM_pass_1 rfl (by decide) rfl ?_
  refine ig_lv (lv' := [(0, .ref o0), (2, .int (nI a)), (3, .int (nI f))]) [1, 3, 0] rfl ?_
  rw [hK2] at hv
  exact hv
theorem d_RM_takes_0 : decode b_RM_takes 0 = .ok (.aload_n 0, 1) := by decide +kernel
theorem d_RM_takes_1 : decode b_RM_takes 1 = .ok (.iload_n 1, 1) := by decide +kernel
theorem d_RM_takes_2 : decode b_RM_takes 2 = .ok (.iload_n 2, 1) := by decide +kernel
theorem d_RM_takes_3 : decode b_RM_takes 3 = .ok (.invokevirtual 89, 3) := by decide +kernel
theorem d_RM_takes_6 : decode b_RM_takes 6 = .ok (.aload_n 0, 1) := by decide +kernel
theorem d_RM_takes_7 : decode b_RM_takes 7 = .ok (.getfield 68, 3) := by decide +kernel
theorem d_RM_takes_10 : decode b_RM_takes 10 = .ok (.iconst 1, 1) := by decide +kernel
theorem d_RM_takes_11 : decode b_RM_takes 11 = .ok (.if_icmp .eq 63, 3) := by decide +kernel
theorem d_RM_takes_14 : decode b_RM_takes 14 = .ok (.aload_n 0, 1) := by decide +kernel
theorem d_RM_takes_15 : decode b_RM_takes 15 = .ok (.getfield 68, 3) := by decide +kernel
theorem d_RM_takes_18 : decode b_RM_takes 18 = .ok (.iconst 2, 1) := by decide +kernel
theorem d_RM_takes_19 : decode b_RM_takes 19 = .ok (.if_icmp .eq 55, 3) := by decide +kernel
theorem d_RM_takes_22 : decode b_RM_takes 22 = .ok (.aload_n 0, 1) := by decide +kernel
theorem d_RM_takes_23 : decode b_RM_takes 23 = .ok (.getfield 68, 3) := by decide +kernel
theorem d_RM_takes_26 : decode b_RM_takes 26 = .ok (.iconst 3, 1) := by decide +kernel
theorem d_RM_takes_27 : decode b_RM_takes 27 = .ok (.if_icmp .ne 13, 3) := by decide +kernel
theorem d_RM_takes_30 : decode b_RM_takes 30 = .ok (.aload_n 0, 1) := by decide +kernel
theorem d_RM_takes_31 : decode b_RM_takes 31 = .ok (.iload_n 1, 1) := by decide +kernel
theorem d_RM_takes_32 : decode b_RM_takes 32 = .ok (.iload_n 2, 1) := by decide +kernel
theorem d_RM_takes_33 : decode b_RM_takes 33 = .ok (.iload_n 3, 1) := by decide +kernel
theorem d_RM_takes_34 : decode b_RM_takes 34 = .ok (.invokevirtual 142, 3) := by decide +kernel
theorem d_RM_takes_37 : decode b_RM_takes 37 = .ok (.ifCond .ne 37, 3) := by decide +kernel
theorem d_RM_takes_40 : decode b_RM_takes 40 = .ok (.aload_n 0, 1) := by decide +kernel
theorem d_RM_takes_41 : decode b_RM_takes 41 = .ok (.getfield 68, 3) := by decide +kernel
theorem d_RM_takes_44 : decode b_RM_takes 44 = .ok (.ifCond .ne 34, 3) := by decide +kernel
theorem d_RM_takes_47 : decode b_RM_takes 47 = .ok (.iload_n 3, 1) := by decide +kernel
theorem d_RM_takes_48 : decode b_RM_takes 48 = .ok (.aload_n 0, 1) := by decide +kernel
theorem d_RM_takes_49 : decode b_RM_takes 49 = .ok (.getfield 13, 3) := by decide +kernel
theorem d_RM_takes_52 : decode b_RM_takes 52 = .ok (.aload_n 0, 1) := by decide +kernel
theorem d_RM_takes_53 : decode b_RM_takes 53 = .ok (.getfield 13, 3) := by decide +kernel
theorem d_RM_takes_56 : decode b_RM_takes 56 = .ok (.iload_n 1, 1) := by decide +kernel
theorem d_RM_takes_57 : decode b_RM_takes 57 = .ok (.iaload, 1) := by decide +kernel
theorem d_RM_takes_58 : decode b_RM_takes 58 = .ok (.bipush 92, 2) := by decide +kernel
theorem d_RM_takes_60 : decode b_RM_takes 60 = .ok (.if_icmp .ne 9, 3) := by decide +kernel
theorem d_RM_takes_63 : decode b_RM_takes 63 = .ok (.iload_n 1, 1) := by decide +kernel
theorem d_RM_takes_64 : decode b_RM_takes 64 = .ok (.iconst 1, 1) := by decide +kernel
theorem d_RM_takes_65 : decode b_RM_takes 65 = .ok (.iadd, 1) := by decide +kernel
theorem d_RM_takes_66 : decode b_RM_takes 66 = .ok (.goto 4, 3) := by decide +kernel
theorem d_RM_takes_69 : decode b_RM_takes 69 = .ok (.iload_n 1, 1) := by decide +kernel
theorem d_RM_takes_70 : decode b_RM_takes 70 = .ok (.iaload, 1) := by decide +kernel
theorem d_RM_takes_71 : decode b_RM_takes 71 = .ok (.if_icmp .ne 7, 3) := by decide +kernel
theorem d_RM_takes_74 : decode b_RM_takes 74 = .ok (.iconst 1, 1) := by decide +kernel
theorem d_RM_takes_75 : decode b_RM_takes 75 = .ok (.goto 4, 3) := by decide +kernel
theorem d_RM_takes_78 : decode b_RM_takes 78 = .ok (.iconst 0, 1) := by decide +kernel
theorem d_RM_takes_79 : decode b_RM_takes 79 = .ok (.ireturn, 1) := by decide +kernel
abbrev w_RM_takes : List Cond := Cond.code y_RM_takes b_RM_takes 4 (some .boolean) :: ig_T
theorem g_RM_takes : GoodIn ig_T w_RM_takes := ig_T_good (ig_T_mem (List.mem_append_right _ (List.mem_append_right _ (List.mem_of_getElem? (i := 96) rfl))) rfl)
set_option maxHeartbeats 4000000 in
set_option maxRecDepth 100000 in
theorem c_RM_takes (l : Launch) (dC : Nat → ClassId) (dI : Nat → Nat → Nat) (cC cI cZ cL : ClassId) (o0 ra rx rf rt rb rl rp ru_ rv rr rs rg rh rz ry : Nat) (th : Int32) (si : Int32) (ru : Int32) (na : Int32) (pa : Int32) (bz : Int32) (de : Int32) (dp : Int32) (io : Int32) (nx : Nat) (so : Nat) (tX : Nat → Int32) (k : Nat) (a : Nat) (x : Int32) (sz : Nat) (hr : r_RM_takes nx so tX k a x) : Met l y_RM_takes w_RM_takes ({ frames := 3, cells := 0, slots := 0, locals := 69 }) (ig_Pc (dC, dI) ig_cl0 [(cC, .char), (cI, .int), (cZ, .boolean), (cL, .long)] [.ref o0, .int (nI k), .int (nI a), .int x] [(o0, .inr (ciRM, [.int th, .ref ra, .int si, .ref rx, .ref rf, .ref rt, .ref rb, .ref rl, .int ru, .ref rp, .ref ru_, .ref rv, .int na, .int (nI nx), .int (nI so), .ref rr, .ref rs, .ref rg, .ref rh, .int pa, .ref rz, .ref ry, .int bz, .int de, .int dp, .int io])), (rx, .inl (cI, 1000, .inl tX))] sz) (va_Qi (fun (r : Int32) (u : Nat × Nat) => ∃ zr : Bool, r = bI zr ∧ p_RM_takes nx so tX k a x zr u.1 u.2) (fun u t => va_P (dC, dI) ig_cl0 ((fun (u : Nat × Nat) => [(o0, .inr (ciRM, [.int th, .ref ra, .int si, .ref rx, .ref rf, .ref rt, .ref rb, .ref rl, .int ru, .ref rp, .ref ru_, .ref rv, .int na, .int (nI u.1), .int (nI u.2), .ref rr, .ref rs, .ref rg, .ref rh, .int pa, .ref rz, .ref ry, .int bz, .int de, .int dp, .int io])), (rx, .inl (cI, 1000, .inl tX))]) u) t.heap ∧ va_D (va_A [(o0, .inr (ciRM, [.int th, .ref ra, .int si, .ref rx, .ref rf, .ref rt, .ref rb, .ref rl, .int ru, .ref rp, .ref ru_, .ref rv, .int na, .int (nI nx), .int (nI so), .ref rr, .ref rs, .ref rg, .ref rh, .int pa, .ref rz, .ref ry, .int bz, .int de, .int dp, .int io])), (rx, .inl (cI, 1000, .inl tX))] sz) ((fun (u : Nat × Nat) => [(o0, .inr (ciRM, [.int th, .ref ra, .int si, .ref rx, .ref rf, .ref rt, .ref rb, .ref rl, .int ru, .ref rp, .ref ru_, .ref rv, .int na, .int (nI u.1), .int (nI u.2), .ref rr, .ref rs, .ref rg, .ref rh, .int pa, .ref rz, .ref ry, .int bz, .int de, .int dp, .int io])), (rx, .inl (cI, 1000, .inl tX))]) u)) (va_A [(o0, .inr (ciRM, [.int th, .ref ra, .int si, .ref rx, .ref rf, .ref rt, .ref rb, .ref rl, .int ru, .ref rp, .ref ru_, .ref rv, .int na, .int (nI nx), .int (nI so), .ref rr, .ref rs, .ref rg, .ref rh, .int pa, .ref rz, .ref ry, .int bz, .int de, .int dp, .int io])), (rx, .inl (cI, 1000, .inl tX))] sz)) 0 0 (va_A [(o0, .inr (ciRM, [.int th, .ref ra, .int si, .ref rx, .ref rf, .ref rt, .ref rb, .ref rl, .int ru, .ref rp, .ref ru_, .ref rv, .int na, .int (nI nx), .int (nI so), .ref rr, .ref rs, .ref rg, .ref rh, .int pa, .ref rz, .ref ry, .int bz, .int de, .int dp, .int io])), (rx, .inl (cI, 1000, .inl tX))] sz) := by
  refine ig_metI (fun (r : Int32) (u : Nat × Nat) => ∃ zr : Bool, r = bI zr ∧ p_RM_takes nx so tX k a x zr u.1 u.2) (fun (u : Nat × Nat) => [(o0, .inr (ciRM, [.int th, .ref ra, .int si, .ref rx, .ref rf, .ref rt, .ref rb, .ref rl, .int ru, .ref rp, .ref ru_, .ref rv, .int na, .int (nI u.1), .int (nI u.2), .ref rr, .ref rs, .ref rg, .ref rh, .int pa, .ref rz, .ref ry, .int bz, .int de, .int dp, .int io])), (rx, .inl (cI, 1000, .inl tX))]) (by decide) rfl (Nat.le_of_ble_eq_true rfl) rfl (by rintro r u ⟨b, rfl, -⟩; exact bI_ret b) ?_
  intro zp ze zs zm zargs zbelow zmeth zc zA zQ hx hb hml hown hts hK hN hA hret
  have j70 : ∀ (s0 : Nat) (s2 : Int32) (nxc : Nat) (soc : Nat), v_RM_takes_70 nx so tX k a x (p_RM_takes nx so tX k a x) s0 s2 nxc soc → ig_W zp l ze ({ frames := 3, cells := 0, slots := 0, locals := 69 }) zs zm zargs zbelow zmeth zc (dC, dI) ig_cl0 zA zs.heap 4 0 0 zQ 70 [] [.int (nI s0), .ref rx, .int s2] [(o0, .inr (ciRM, [.int th, .ref ra, .int si, .ref rx, .ref rf, .ref rt, .ref rb, .ref rl, .int ru, .ref rp, .ref ru_, .ref rv, .int na, .int (nI nxc), .int (nI soc), .ref rr, .ref rs, .ref rg, .ref rh, .int pa, .ref rz, .ref ry, .int bz, .int de, .int dp, .int io])), (rx, .inl (cI, 1000, .inl tX))] := by
    intro s0 s2 nxc soc hv
    unfold v_RM_takes_70 at hv
    obtain ⟨hc, hv⟩ := hv
    refine ig_iald (x := (tX s0)) hx hb hK 1 1 rfl rfl s0 rfl hc (by decide) rfl d_RM_takes_70 ?_
    refine ig_icmp_ne (tgt := 78) hx hb d_RM_takes_71 (by decide) (fun h => ?_) (fun h => ?_)
    · have hv := hv.1 h
      refine ig_iconst (v := 0) hx hb d_RM_takes_78 (by decide) ?_
      exact hret 79 _ 0 (nxc, soc) d_RM_takes_79 ⟨false, rfl, hv⟩
    · have hv := hv.2 h
      refine ig_iconst (v := 1) hx hb d_RM_takes_74 (by decide) ?_
      refine ig_goto (tgt := 79) hx hb d_RM_takes_75 (by decide) ?_
      exact hret 79 _ 1 (nxc, soc) d_RM_takes_79 ⟨true, rfl, hv⟩
  have j40 : ∀ (nxc : Nat) (soc : Nat), v_RM_takes_40 nx so tX k a x (p_RM_takes nx so tX k a x) nxc soc → ig_W zp l ze ({ frames := 3, cells := 0, slots := 0, locals := 69 }) zs zm zargs zbelow zmeth zc (dC, dI) ig_cl0 zA zs.heap 4 0 0 zQ 40 [(0, .ref o0), (1, .int (nI k)), (3, .int x)] [] [(o0, .inr (ciRM, [.int th, .ref ra, .int si, .ref rx, .ref rf, .ref rt, .ref rb, .ref rl, .int ru, .ref rp, .ref ru_, .ref rv, .int na, .int (nI nxc), .int (nI soc), .ref rr, .ref rs, .ref rg, .ref rh, .int pa, .ref rz, .ref ry, .int bz, .int de, .int dp, .int io])), (rx, .inl (cI, 1000, .inl tX))] := by
    intro nxc soc hv
    unfold v_RM_takes_40 at hv
    refine ig_aload_n hx hb 0 d_RM_takes_40 rfl rfl ?_
    refine ig_get hx hb hts in_RM hown hK 0 rfl rfl 14 (by decide) (hts _ kw_1_159) (fun _ h => h) rfl d_RM_takes_41 ?_
    obtain ⟨h1, hv⟩ := hv
    refine ig_if_neN (tgt := 78) hx hb soc rfl d_RM_takes_44 (by decide) h1 (fun h => ?_) (fun h => ?_)
    · have hv := hv.1 h
      refine ig_iconst (v := 0) hx hb d_RM_takes_78 (by decide) ?_
      exact hret 79 _ 0 (nxc, soc) d_RM_takes_79 ⟨false, rfl, hv⟩
    · have hv := hv.2 h
      refine ig_iload_n hx hb 2 d_RM_takes_47 rfl rfl ?_
      refine ig_aload_n hx hb 0 d_RM_takes_48 rfl rfl ?_
      refine ig_get hx hb hts in_RM hown hK 0 rfl rfl 3 (by decide) (hts _ kw_1_148) (fun _ h => h) rfl d_RM_takes_49 ?_
      refine ig_aload_n hx hb 0 d_RM_takes_52 rfl rfl ?_
      refine ig_get hx hb hts in_RM hown hK 0 rfl rfl 3 (by decide) (hts _ kw_1_148) (fun _ h => h) rfl d_RM_takes_53 ?_
      refine ig_iload_n hx hb 1 d_RM_takes_56 rfl rfl ?_
      obtain ⟨hc, hv⟩ := hv
      refine ig_iald (x := (tX k)) hx hb hK 1 1 rfl rfl k rfl hc (by decide) rfl d_RM_takes_57 ?_
      refine ig_bipush (v := 92) hx hb d_RM_takes_58 (by decide) ?_
      refine ig_icmp_ne (tgt := 69) hx hb d_RM_takes_60 (by decide) (fun h => ?_) (fun h => ?_)
      · have hv := hv.1 h
        refine ig_iload_n hx hb 1 d_RM_takes_69 rfl rfl ?_
        refine ig_lv (lv' := []) [] rfl ?_
        exact j70 _ _ _ _ hv
      · have hv := hv.2 h
        refine ig_iload_n hx hb 1 d_RM_takes_63 rfl rfl ?_
        refine ig_iconst (v := 1) hx hb d_RM_takes_64 (by decide) ?_
        refine ig_iaddN hx hb k 1 rfl rfl d_RM_takes_65 ?_
        refine ig_goto (tgt := 70) hx hb d_RM_takes_66 (by decide) ?_
        refine ig_lv (lv' := []) [] rfl ?_
        exact j70 _ _ _ _ hv
  have hv := t_RM_takes nx so tX k a x hr 
  unfold v_RM_takes at hv
  refine ig_aload_n hx hb 0 d_RM_takes_0 rfl rfl ?_
  refine ig_iload_n hx hb 1 d_RM_takes_1 rfl rfl ?_
  refine ig_iload_n hx hb 2 d_RM_takes_2 rfl rfl ?_
  obtain ⟨hc, hv⟩ := hv
  refine ig_cVv (As := [.int (nI k), .int (nI a)]) (rest := []) (wr := []) (ws' := fun u => [(o0, .inr (ciRM, [.int th, .ref ra, .int si, .ref rx, .ref rf, .ref rt, .ref rb, .ref rl, .int ru, .ref rp, .ref ru_, .ref rv, .int na, .int (nI u.1), .int (nI u.2), .ref rr, .ref rs, .ref rg, .ref rh, .int pa, .ref rz, .ref ry, .int bz, .int de, .int dp, .int io])), (rx, .inl (cI, 1000, .inl tX))]) hx hb hml hown hts hK hN hA (fun sz => c_RM_look l dC dI cC cI cZ cL o0 ra rx rf rt rb rl rp ru_ rv rr rs rg rh rz ry th si ru na pa bz de dp io nx so tX k a sz hc) ⟨callB_of 2 hts g_RM_look rfl rfl rfl (hts _ kw_0_5) (hts _ kw_2_33) (by decide +kernel) (by decide), (hts _ kw_2_35), (hts _ ks_RM_look)⟩ rfl rfl (Nat.le_of_ble_eq_true rfl) d_RM_takes_3 (by decide) 0 rfl rfl [0, 1] [] [0, 1] rfl rfl (by decide) (by decide) (by decide) (fun _ => rfl) (fun _ => rfl) (fun u hr => ?_)
  obtain ⟨w1, w2⟩ := u
  unfold p_RM_look at hr
  obtain ⟨rfl, rfl⟩ := hr
  refine ig_aload_n hx hb 0 d_RM_takes_6 rfl rfl ?_
  refine ig_get hx hb hts in_RM hown hK 0 rfl rfl 14 (by decide) (hts _ kw_1_159) (fun _ h => h) rfl d_RM_takes_7 ?_
  refine ig_iconst (v := 1) hx hb d_RM_takes_10 (by decide) ?_
  obtain ⟨h1, hv⟩ := hv
  refine ig_icmp_eqN (tgt := 74) hx hb (sp_sort tX a k) 1 rfl rfl d_RM_takes_11 (by decide) h1 (by decide) (fun h => ?_) (fun h => ?_)
  · have hv := hv.1 h
    refine ig_iconst (v := 1) hx hb d_RM_takes_74 (by decide) ?_
    refine ig_goto (tgt := 79) hx hb d_RM_takes_75 (by decide) ?_
    exact hret 79 _ 1 (sp_end tX a k, sp_sort tX a k) d_RM_takes_79 ⟨true, rfl, hv⟩
  · have hv := hv.2 h
    refine ig_aload_n hx hb 0 d_RM_takes_14 rfl rfl ?_
    refine ig_get hx hb hts in_RM hown hK 0 rfl rfl 14 (by decide) (hts _ kw_1_159) (fun _ h => h) rfl d_RM_takes_15 ?_
    refine ig_iconst (v := 2) hx hb d_RM_takes_18 (by decide) ?_
    obtain ⟨h1, hv⟩ := hv
    refine ig_icmp_eqN (tgt := 74) hx hb (sp_sort tX a k) 2 rfl rfl d_RM_takes_19 (by decide) h1 (by decide) (fun h => ?_) (fun h => ?_)
    · have hv := hv.1 h
      refine ig_iconst (v := 1) hx hb d_RM_takes_74 (by decide) ?_
      refine ig_goto (tgt := 79) hx hb d_RM_takes_75 (by decide) ?_
      exact hret 79 _ 1 (sp_end tX a k, sp_sort tX a k) d_RM_takes_79 ⟨true, rfl, hv⟩
    · have hv := hv.2 h
      refine ig_aload_n hx hb 0 d_RM_takes_22 rfl rfl ?_
      refine ig_get hx hb hts in_RM hown hK 0 rfl rfl 14 (by decide) (hts _ kw_1_159) (fun _ h => h) rfl d_RM_takes_23 ?_
      refine ig_iconst (v := 3) hx hb d_RM_takes_26 (by decide) ?_
      obtain ⟨h1, hv⟩ := hv
      refine ig_icmp_neN (tgt := 40) hx hb (sp_sort tX a k) 3 rfl rfl d_RM_takes_27 (by decide) h1 (by decide) (fun h => ?_) (fun h => ?_)
      · have hv := hv.1 h
        refine ig_lv (lv' := [(0, .ref o0), (1, .int (nI k)), (3, .int x)]) [0, 1, 3] rfl ?_
        exact j40 _ _ hv
      · have hv := hv.2 h
        refine ig_aload_n hx hb 0 d_RM_takes_30 rfl rfl ?_
        refine ig_iload_n hx hb 1 d_RM_takes_31 rfl rfl ?_
        refine ig_iload_n hx hb 2 d_RM_takes_32 rfl rfl ?_
        refine ig_iload_n hx hb 3 d_RM_takes_33 rfl rfl ?_
        obtain ⟨hc, hv⟩ := hv
        refine ig_cVi (As := [.int (nI k), .int (nI a), .int x]) (rest := []) (wr := []) (ws' := fun u => [(o0, .inr (ciRM, [.int th, .ref ra, .int si, .ref rx, .ref rf, .ref rt, .ref rb, .ref rl, .int ru, .ref rp, .ref ru_, .ref rv, .int na, .int (nI (sp_end tX a k)), .int (nI (sp_sort tX a k)), .ref rr, .ref rs, .ref rg, .ref rh, .int pa, .ref rz, .ref ry, .int bz, .int de, .int dp, .int io])), (rx, .inl (cI, 1000, .inl tX))]) hx hb hml hown hts hK hN hA (fun sz => c_RM_isInSet l dC dI cC cI cZ cL o0 ra rx rf rt rb rl rp ru_ rv rr rs rg rh rz ry th si ru na (nI (sp_end tX a k)) (nI (sp_sort tX a k)) pa bz de dp io tX k a x sz hc) ⟨callB_of 3 hts g_RM_isInSet rfl rfl rfl (hts _ kw_0_5) (hts _ kw_2_97) (by decide +kernel) (by decide), (hts _ kw_2_99), (hts _ ks_RM_isInSet)⟩ rfl rfl (Nat.le_of_ble_eq_true rfl) d_RM_takes_34 (by decide) 0 rfl rfl [0, 1] [] [0, 1] rfl rfl (by decide) (by decide) (by decide) (fun _ => rfl) (fun _ => rfl) (fun r u hr => ?_)
        obtain ⟨rr, rfl, hr⟩ := hr
        unfold p_RM_isInSet at hr
        subst hr
        refine ig_if_neB (tgt := 74) hx hb (sp_has tX a x (sp_sf tX a k) true != decide (sp_sf tX a k = k + 2)) rfl d_RM_takes_37 (by decide) (fun h => ?_) (fun h => ?_)
        · have hv := hv.1 h
          refine ig_iconst (v := 1) hx hb d_RM_takes_74 (by decide) ?_
          refine ig_goto (tgt := 79) hx hb d_RM_takes_75 (by decide) ?_
          exact hret 79 _ 1 (sp_end tX a k, sp_sort tX a k) d_RM_takes_79 ⟨true, rfl, hv⟩
        · have hv := hv.2 h
          refine ig_lv (lv' := [(0, .ref o0), (1, .int (nI k)), (3, .int x)]) [0, 1, 3] rfl ?_
          exact j40 _ _ hv
theorem d_RM_isDeep_0 : decode b_RM_isDeep 0 = .ok (.aload_n 0, 1) := by decide +kernel
theorem d_RM_isDeep_1 : decode b_RM_isDeep 1 = .ok (.getfield 22, 3) := by decide +kernel
theorem d_RM_isDeep_4 : decode b_RM_isDeep 4 = .ok (.iload_n 1, 1) := by decide +kernel
theorem d_RM_isDeep_5 : decode b_RM_isDeep 5 = .ok (.iaload, 1) := by decide +kernel
theorem d_RM_isDeep_6 : decode b_RM_isDeep 6 = .ok (.iconst 4, 1) := by decide +kernel
theorem d_RM_isDeep_7 : decode b_RM_isDeep 7 = .ok (.iand, 1) := by decide +kernel
theorem d_RM_isDeep_8 : decode b_RM_isDeep 8 = .ok (.iconst 4, 1) := by decide +kernel
theorem d_RM_isDeep_9 : decode b_RM_isDeep 9 = .ok (.if_icmp .ne 58, 3) := by decide +kernel
theorem d_RM_isDeep_12 : decode b_RM_isDeep 12 = .ok (.aload_n 0, 1) := by decide +kernel
theorem d_RM_isDeep_13 : decode b_RM_isDeep 13 = .ok (.getfield 47, 3) := by decide +kernel
theorem d_RM_isDeep_16 : decode b_RM_isDeep 16 = .ok (.iload_n 2, 1) := by decide +kernel
theorem d_RM_isDeep_17 : decode b_RM_isDeep 17 = .ok (.iaload, 1) := by decide +kernel
theorem d_RM_isDeep_18 : decode b_RM_isDeep 18 = .ok (.aload_n 0, 1) := by decide +kernel
theorem d_RM_isDeep_19 : decode b_RM_isDeep 19 = .ok (.getfield 44, 3) := by decide +kernel
theorem d_RM_isDeep_22 : decode b_RM_isDeep 22 = .ok (.iload_n 2, 1) := by decide +kernel
theorem d_RM_isDeep_23 : decode b_RM_isDeep 23 = .ok (.iaload, 1) := by decide +kernel
theorem d_RM_isDeep_24 : decode b_RM_isDeep 24 = .ok (.isub, 1) := by decide +kernel
theorem d_RM_isDeep_25 : decode b_RM_isDeep 25 = .ok (.iconst 2, 1) := by decide +kernel
theorem d_RM_isDeep_26 : decode b_RM_isDeep 26 = .ok (.if_icmp .ne 41, 3) := by decide +kernel
theorem d_RM_isDeep_29 : decode b_RM_isDeep 29 = .ok (.aload_n 0, 1) := by decide +kernel
theorem d_RM_isDeep_30 : decode b_RM_isDeep 30 = .ok (.getfield 13, 3) := by decide +kernel
theorem d_RM_isDeep_33 : decode b_RM_isDeep 33 = .ok (.aload_n 0, 1) := by decide +kernel
theorem d_RM_isDeep_34 : decode b_RM_isDeep 34 = .ok (.getfield 44, 3) := by decide +kernel
theorem d_RM_isDeep_37 : decode b_RM_isDeep 37 = .ok (.iload_n 2, 1) := by decide +kernel
theorem d_RM_isDeep_38 : decode b_RM_isDeep 38 = .ok (.iaload, 1) := by decide +kernel
theorem d_RM_isDeep_39 : decode b_RM_isDeep 39 = .ok (.iaload, 1) := by decide +kernel
theorem d_RM_isDeep_40 : decode b_RM_isDeep 40 = .ok (.bipush 42, 2) := by decide +kernel
theorem d_RM_isDeep_42 : decode b_RM_isDeep 42 = .ok (.if_icmp .ne 25, 3) := by decide +kernel
theorem d_RM_isDeep_45 : decode b_RM_isDeep 45 = .ok (.aload_n 0, 1) := by decide +kernel
theorem d_RM_isDeep_46 : decode b_RM_isDeep 46 = .ok (.getfield 13, 3) := by decide +kernel
theorem d_RM_isDeep_49 : decode b_RM_isDeep 49 = .ok (.aload_n 0, 1) := by decide +kernel
theorem d_RM_isDeep_50 : decode b_RM_isDeep 50 = .ok (.getfield 44, 3) := by decide +kernel
theorem d_RM_isDeep_53 : decode b_RM_isDeep 53 = .ok (.iload_n 2, 1) := by decide +kernel
theorem d_RM_isDeep_54 : decode b_RM_isDeep 54 = .ok (.iaload, 1) := by decide +kernel
theorem d_RM_isDeep_55 : decode b_RM_isDeep 55 = .ok (.iconst 1, 1) := by decide +kernel
theorem d_RM_isDeep_56 : decode b_RM_isDeep 56 = .ok (.iadd, 1) := by decide +kernel
theorem d_RM_isDeep_57 : decode b_RM_isDeep 57 = .ok (.iaload, 1) := by decide +kernel
theorem d_RM_isDeep_58 : decode b_RM_isDeep 58 = .ok (.bipush 42, 2) := by decide +kernel
theorem d_RM_isDeep_60 : decode b_RM_isDeep 60 = .ok (.if_icmp .ne 7, 3) := by decide +kernel
theorem d_RM_isDeep_63 : decode b_RM_isDeep 63 = .ok (.iconst 1, 1) := by decide +kernel
theorem d_RM_isDeep_64 : decode b_RM_isDeep 64 = .ok (.goto 4, 3) := by decide +kernel
theorem d_RM_isDeep_67 : decode b_RM_isDeep 67 = .ok (.iconst 0, 1) := by decide +kernel
theorem d_RM_isDeep_68 : decode b_RM_isDeep 68 = .ok (.ireturn, 1) := by decide +kernel
abbrev w_RM_isDeep : List Cond := Cond.code y_RM_isDeep b_RM_isDeep 3 (some .boolean) :: ig_T
theorem g_RM_isDeep : GoodIn ig_T w_RM_isDeep := ig_T_good (ig_T_mem (List.mem_append_right _ (List.mem_append_right _ (List.mem_of_getElem? (i := 84) rfl))) rfl)
set_option maxHeartbeats 4000000 in
set_option maxRecDepth 100000 in
theorem c_RM_isDeep (l : Launch) (dC : Nat → ClassId) (dI : Nat → Nat → Nat) (cC cI cZ cL : ClassId) (o0 ra rx rf rt rb rl rp ru_ rv rr rs rg rh rz ry : Nat) (th : Int32) (si : Int32) (ru : Int32) (na : Int32) (nx : Int32) (so : Int32) (pa : Int32) (bz : Int32) (de : Int32) (dp : Int32) (io : Int32) (tX : Nat → Int32) (xB : Nat → Nat) (wF : Nat → Nat) (wT : Nat → Nat) (i : Nat) (p : Nat) (sz : Nat) (hr : r_RM_isDeep tX xB wF wT i p) : Met l y_RM_isDeep w_RM_isDeep ({ frames := 0, cells := 0, slots := 0, locals := 0 }) (ig_Pc (dC, dI) ig_cl0 [(cC, .char), (cI, .int), (cZ, .boolean), (cL, .long)] [.ref o0, .int (nI i), .int (nI p)] [(o0, .inr (ciRM, [.int th, .ref ra, .int si, .ref rx, .ref rf, .ref rt, .ref rb, .ref rl, .int ru, .ref rp, .ref ru_, .ref rv, .int na, .int nx, .int so, .ref rr, .ref rs, .ref rg, .ref rh, .int pa, .ref rz, .ref ry, .int bz, .int de, .int dp, .int io])), (rx, .inl (cI, 1000, .inl tX)), (rb, .inl (cI, 60, .inl (fun zj => nI (xB zj)))), (rg, .inl (cI, 1001, .inl (fun zj => nI (wF zj)))), (rh, .inl (cI, 1001, .inl (fun zj => nI (wT zj))))] sz) (va_Qi (fun (r : Int32) (u : Unit) => ∃ zr : Bool, r = bI zr ∧ p_RM_isDeep tX xB wF wT i p zr ) (fun u t => va_P (dC, dI) ig_cl0 ((fun (u : Unit) => [(o0, .inr (ciRM, [.int th, .ref ra, .int si, .ref rx, .ref rf, .ref rt, .ref rb, .ref rl, .int ru, .ref rp, .ref ru_, .ref rv, .int na, .int nx, .int so, .ref rr, .ref rs, .ref rg, .ref rh, .int pa, .ref rz, .ref ry, .int bz, .int de, .int dp, .int io])), (rx, .inl (cI, 1000, .inl tX)), (rb, .inl (cI, 60, .inl (fun zj => nI (xB zj)))), (rg, .inl (cI, 1001, .inl (fun zj => nI (wF zj)))), (rh, .inl (cI, 1001, .inl (fun zj => nI (wT zj))))]) u) t.heap ∧ va_D (va_A [(o0, .inr (ciRM, [.int th, .ref ra, .int si, .ref rx, .ref rf, .ref rt, .ref rb, .ref rl, .int ru, .ref rp, .ref ru_, .ref rv, .int na, .int nx, .int so, .ref rr, .ref rs, .ref rg, .ref rh, .int pa, .ref rz, .ref ry, .int bz, .int de, .int dp, .int io])), (rx, .inl (cI, 1000, .inl tX)), (rb, .inl (cI, 60, .inl (fun zj => nI (xB zj)))), (rg, .inl (cI, 1001, .inl (fun zj => nI (wF zj)))), (rh, .inl (cI, 1001, .inl (fun zj => nI (wT zj))))] sz) ((fun (u : Unit) => [(o0, .inr (ciRM, [.int th, .ref ra, .int si, .ref rx, .ref rf, .ref rt, .ref rb, .ref rl, .int ru, .ref rp, .ref ru_, .ref rv, .int na, .int nx, .int so, .ref rr, .ref rs, .ref rg, .ref rh, .int pa, .ref rz, .ref ry, .int bz, .int de, .int dp, .int io])), (rx, .inl (cI, 1000, .inl tX)), (rb, .inl (cI, 60, .inl (fun zj => nI (xB zj)))), (rg, .inl (cI, 1001, .inl (fun zj => nI (wF zj)))), (rh, .inl (cI, 1001, .inl (fun zj => nI (wT zj))))]) u)) (va_A [(o0, .inr (ciRM, [.int th, .ref ra, .int si, .ref rx, .ref rf, .ref rt, .ref rb, .ref rl, .int ru, .ref rp, .ref ru_, .ref rv, .int na, .int nx, .int so, .ref rr, .ref rs, .ref rg, .ref rh, .int pa, .ref rz, .ref ry, .int bz, .int de, .int dp, .int io])), (rx, .inl (cI, 1000, .inl tX)), (rb, .inl (cI, 60, .inl (fun zj => nI (xB zj)))), (rg, .inl (cI, 1001, .inl (fun zj => nI (wF zj)))), (rh, .inl (cI, 1001, .inl (fun zj => nI (wT zj))))] sz)) 0 0 (va_A [(o0, .inr (ciRM, [.int th, .ref ra, .int si, .ref rx, .ref rf, .ref rt, .ref rb, .ref rl, .int ru, .ref rp, .ref ru_, .ref rv, .int na, .int nx, .int so, .ref rr, .ref rs, .ref rg, .ref rh, .int pa, .ref rz, .ref ry, .int bz, .int de, .int dp, .int io])), (rx, .inl (cI, 1000, .inl tX)), (rb, .inl (cI, 60, .inl (fun zj => nI (xB zj)))), (rg, .inl (cI, 1001, .inl (fun zj => nI (wF zj)))), (rh, .inl (cI, 1001, .inl (fun zj => nI (wT zj))))] sz) := by
  refine ig_metI (fun (r : Int32) (u : Unit) => ∃ zr : Bool, r = bI zr ∧ p_RM_isDeep tX xB wF wT i p zr ) (fun (u : Unit) => [(o0, .inr (ciRM, [.int th, .ref ra, .int si, .ref rx, .ref rf, .ref rt, .ref rb, .ref rl, .int ru, .ref rp, .ref ru_, .ref rv, .int na, .int nx, .int so, .ref rr, .ref rs, .ref rg, .ref rh, .int pa, .ref rz, .ref ry, .int bz, .int de, .int dp, .int io])), (rx, .inl (cI, 1000, .inl tX)), (rb, .inl (cI, 60, .inl (fun zj => nI (xB zj)))), (rg, .inl (cI, 1001, .inl (fun zj => nI (wF zj)))), (rh, .inl (cI, 1001, .inl (fun zj => nI (wT zj))))]) (by decide) rfl (Nat.le_of_ble_eq_true rfl) rfl (by rintro r u ⟨b, rfl, -⟩; exact bI_ret b) ?_
  intro zp ze zs zm zargs zbelow zmeth zc zA zQ hx hb hml hown hts hK hN hA hret
  have hv := t_RM_isDeep tX xB wF wT i p hr 
  unfold v_RM_isDeep at hv
  refine ig_aload_n hx hb 0 d_RM_isDeep_0 rfl rfl ?_
  refine ig_get hx hb hts in_RM hown hK 0 rfl rfl 6 (by decide) (hts _ kw_1_151) (fun _ h => h) rfl d_RM_isDeep_1 ?_
  refine ig_iload_n hx hb 1 d_RM_isDeep_4 rfl rfl ?_
  obtain ⟨hc, hv⟩ := hv
  refine ig_iald (x := (nI (xB i))) hx hb hK 2 1 rfl rfl i rfl hc (by decide) rfl d_RM_isDeep_5 ?_
  refine ig_iconst (v := 4) hx hb d_RM_isDeep_6 (by decide) ?_
  refine ig_iandN hx hb (xB i) 4 rfl rfl d_RM_isDeep_7 ?_
  refine ig_iconst (v := 4) hx hb d_RM_isDeep_8 (by decide) ?_
  obtain ⟨h1, hv⟩ := hv
  refine ig_icmp_neN (tgt := 67) hx hb ((xB i) &&& 4) 4 rfl rfl d_RM_isDeep_9 (by decide) h1 (by decide) (fun h => ?_) (fun h => ?_)
  · have hv := hv.1 h
    refine ig_iconst (v := 0) hx hb d_RM_isDeep_67 (by decide) ?_
    exact hret 68 _ 0 () d_RM_isDeep_68 ⟨false, rfl, hv⟩
  · have hv := hv.2 h
    refine ig_aload_n hx hb 0 d_RM_isDeep_12 rfl rfl ?_
    refine ig_get hx hb hts in_RM hown hK 0 rfl rfl 18 (by decide) (hts _ kw_1_163) (fun _ h => h) rfl d_RM_isDeep_13 ?_
    refine ig_iload_n hx hb 2 d_RM_isDeep_16 rfl rfl ?_
    obtain ⟨hc, hv⟩ := hv
    refine ig_iald (x := (nI (wT p))) hx hb hK 4 1 rfl rfl p rfl hc (by decide) rfl d_RM_isDeep_17 ?_
    refine ig_aload_n hx hb 0 d_RM_isDeep_18 rfl rfl ?_
    refine ig_get hx hb hts in_RM hown hK 0 rfl rfl 17 (by decide) (hts _ kw_1_162) (fun _ h => h) rfl d_RM_isDeep_19 ?_
    refine ig_iload_n hx hb 2 d_RM_isDeep_22 rfl rfl ?_
    obtain ⟨hc, hv⟩ := hv
    refine ig_iald (x := (nI (wF p))) hx hb hK 3 1 rfl rfl p rfl hc (by decide) rfl d_RM_isDeep_23 ?_
    obtain ⟨hc, hv⟩ := hv
    refine ig_isubN hx hb (wT p) (wF p) rfl rfl hc d_RM_isDeep_24 ?_
    refine ig_iconst (v := 2) hx hb d_RM_isDeep_25 (by decide) ?_
    obtain ⟨h1, hv⟩ := hv
    refine ig_icmp_neN (tgt := 67) hx hb ((wT p) - (wF p)) 2 rfl rfl d_RM_isDeep_26 (by decide) h1 (by decide) (fun h => ?_) (fun h => ?_)
    · have hv := hv.1 h
      refine ig_iconst (v := 0) hx hb d_RM_isDeep_67 (by decide) ?_
      exact hret 68 _ 0 () d_RM_isDeep_68 ⟨false, rfl, hv⟩
    · have hv := hv.2 h
      refine ig_aload_n hx hb 0 d_RM_isDeep_29 rfl rfl ?_
      refine ig_get hx hb hts in_RM hown hK 0 rfl rfl 3 (by decide) (hts _ kw_1_148) (fun _ h => h) rfl d_RM_isDeep_30 ?_
      refine ig_aload_n hx hb 0 d_RM_isDeep_33 rfl rfl ?_
      refine ig_get hx hb hts in_RM hown hK 0 rfl rfl 17 (by decide) (hts _ kw_1_162) (fun _ h => h) rfl d_RM_isDeep_34 ?_
      refine ig_iload_n hx hb 2 d_RM_isDeep_37 rfl rfl ?_
      obtain ⟨hc, hv⟩ := hv
      refine ig_iald (x := (nI (wF p))) hx hb hK 3 1 rfl rfl p rfl hc (by decide) rfl d_RM_isDeep_38 ?_
      obtain ⟨hc, hv⟩ := hv
      refine ig_iald (x := (tX (wF p))) hx hb hK 1 1 rfl rfl (wF p) rfl hc (by decide) rfl d_RM_isDeep_39 ?_
      refine ig_bipush (v := 42) hx hb d_RM_isDeep_40 (by decide) ?_
      refine ig_icmp_ne (tgt := 67) hx hb d_RM_isDeep_42 (by decide) (fun h => ?_) (fun h => ?_)
      · have hv := hv.1 h
        refine ig_iconst (v := 0) hx hb d_RM_isDeep_67 (by decide) ?_
        exact hret 68 _ 0 () d_RM_isDeep_68 ⟨false, rfl, hv⟩
      · have hv := hv.2 h
        refine ig_aload_n hx hb 0 d_RM_isDeep_45 rfl rfl ?_
        refine ig_get hx hb hts in_RM hown hK 0 rfl rfl 3 (by decide) (hts _ kw_1_148) (fun _ h => h) rfl d_RM_isDeep_46 ?_
        refine ig_aload_n hx hb 0 d_RM_isDeep_49 rfl rfl ?_
        refine ig_get hx hb hts in_RM hown hK 0 rfl rfl 17 (by decide) (hts _ kw_1_162) (fun _ h => h) rfl d_RM_isDeep_50 ?_
        refine ig_iload_n hx hb 2 d_RM_isDeep_53 rfl rfl ?_
        obtain ⟨hc, hv⟩ := hv
        refine ig_iald (x := (nI (wF p))) hx hb hK 3 1 rfl rfl p rfl hc (by decide) rfl d_RM_isDeep_54 ?_
        refine ig_iconst (v := 1) hx hb d_RM_isDeep_55 (by decide) ?_
        refine ig_iaddN hx hb (wF p) 1 rfl rfl d_RM_isDeep_56 ?_
        obtain ⟨hc, hv⟩ := hv
        refine ig_iald (x := (tX ((wF p) + 1))) hx hb hK 1 1 rfl rfl ((wF p) + 1) rfl hc (by decide) rfl d_RM_isDeep_57 ?_
        refine ig_bipush (v := 42) hx hb d_RM_isDeep_58 (by decide) ?_
        refine ig_icmp_ne (tgt := 67) hx hb d_RM_isDeep_60 (by decide) (fun h => ?_) (fun h => ?_)
        · have hv := hv.1 h
          refine ig_iconst (v := 0) hx hb d_RM_isDeep_67 (by decide) ?_
          exact hret 68 _ 0 () d_RM_isDeep_68 ⟨false, rfl, hv⟩
        · have hv := hv.2 h
          refine ig_iconst (v := 1) hx hb d_RM_isDeep_63 (by decide) ?_
          refine ig_goto (tgt := 68) hx hb d_RM_isDeep_64 (by decide) ?_
          exact hret 68 _ 1 () d_RM_isDeep_68 ⟨true, rfl, hv⟩
theorem d_RM_fitsName_0 : decode b_RM_fitsName 0 = .ok (.aload_n 0, 1) := by decide +kernel
theorem d_RM_fitsName_1 : decode b_RM_fitsName 1 = .ok (.iload_n 1, 1) := by decide +kernel
theorem d_RM_fitsName_2 : decode b_RM_fitsName 2 = .ok (.iload_n 2, 1) := by decide +kernel
theorem d_RM_fitsName_3 : decode b_RM_fitsName 3 = .ok (.invokevirtual 99, 3) := by decide +kernel
theorem d_RM_fitsName_6 : decode b_RM_fitsName 6 = .ok (.ifCond .eq 5, 3) := by decide +kernel
theorem d_RM_fitsName_9 : decode b_RM_fitsName 9 = .ok (.iconst 0, 1) := by decide +kernel
theorem d_RM_fitsName_10 : decode b_RM_fitsName 10 = .ok (.ireturn, 1) := by decide +kernel
theorem d_RM_fitsName_11 : decode b_RM_fitsName 11 = .ok (.iload_n 1, 1) := by decide +kernel
theorem d_RM_fitsName_12 : decode b_RM_fitsName 12 = .ok (.istore 4, 2) := by decide +kernel
theorem d_RM_fitsName_14 : decode b_RM_fitsName 14 = .ok (.iload 4, 2) := by decide +kernel
theorem d_RM_fitsName_16 : decode b_RM_fitsName 16 = .ok (.iload_n 2, 1) := by decide +kernel
theorem d_RM_fitsName_17 : decode b_RM_fitsName 17 = .ok (.if_icmp .gt 27, 3) := by decide +kernel
theorem d_RM_fitsName_20 : decode b_RM_fitsName 20 = .ok (.aload_n 0, 1) := by decide +kernel
theorem d_RM_fitsName_21 : decode b_RM_fitsName 21 = .ok (.getfield 37, 3) := by decide +kernel
theorem d_RM_fitsName_24 : decode b_RM_fitsName 24 = .ok (.iload 4, 2) := by decide +kernel
theorem d_RM_fitsName_26 : decode b_RM_fitsName 26 = .ok (.iload 4, 2) := by decide +kernel
theorem d_RM_fitsName_28 : decode b_RM_fitsName 28 = .ok (.iload_n 1, 1) := by decide +kernel
theorem d_RM_fitsName_29 : decode b_RM_fitsName 29 = .ok (.if_icmp .ne 7, 3) := by decide +kernel
theorem d_RM_fitsName_32 : decode b_RM_fitsName 32 = .ok (.iconst 1, 1) := by decide +kernel
theorem d_RM_fitsName_33 : decode b_RM_fitsName 33 = .ok (.goto 4, 3) := by decide +kernel
theorem d_RM_fitsName_36 : decode b_RM_fitsName 36 = .ok (.iconst 0, 1) := by decide +kernel
theorem d_RM_fitsName_37 : decode b_RM_fitsName 37 = .ok (.bastore, 1) := by decide +kernel
theorem d_RM_fitsName_38 : decode b_RM_fitsName 38 = .ok (.iinc 4 1, 3) := by decide +kernel
theorem d_RM_fitsName_41 : decode b_RM_fitsName 41 = .ok (.goto (-27), 3) := by decide +kernel
theorem d_RM_fitsName_44 : decode b_RM_fitsName 44 = .ok (.aload_n 0, 1) := by decide +kernel
theorem d_RM_fitsName_45 : decode b_RM_fitsName 45 = .ok (.iload_n 1, 1) := by decide +kernel
theorem d_RM_fitsName_46 : decode b_RM_fitsName 46 = .ok (.iload_n 2, 1) := by decide +kernel
theorem d_RM_fitsName_47 : decode b_RM_fitsName 47 = .ok (.invokevirtual 145, 3) := by decide +kernel
theorem d_RM_fitsName_50 : decode b_RM_fitsName 50 = .ok (.aload_n 0, 1) := by decide +kernel
theorem d_RM_fitsName_51 : decode b_RM_fitsName 51 = .ok (.getfield 31, 3) := by decide +kernel
theorem d_RM_fitsName_54 : decode b_RM_fitsName 54 = .ok (.iload_n 3, 1) := by decide +kernel
theorem d_RM_fitsName_55 : decode b_RM_fitsName 55 = .ok (.iaload, 1) := by decide +kernel
theorem d_RM_fitsName_56 : decode b_RM_fitsName 56 = .ok (.istore 4, 2) := by decide +kernel
theorem d_RM_fitsName_58 : decode b_RM_fitsName 58 = .ok (.iload 4, 2) := by decide +kernel
theorem d_RM_fitsName_60 : decode b_RM_fitsName 60 = .ok (.aload_n 0, 1) := by decide +kernel
theorem d_RM_fitsName_61 : decode b_RM_fitsName 61 = .ok (.getfield 34, 3) := by decide +kernel
theorem d_RM_fitsName_64 : decode b_RM_fitsName 64 = .ok (.iload_n 3, 1) := by decide +kernel
theorem d_RM_fitsName_65 : decode b_RM_fitsName 65 = .ok (.iaload, 1) := by decide +kernel
theorem d_RM_fitsName_66 : decode b_RM_fitsName 66 = .ok (.if_icmp .ge 132, 3) := by decide +kernel
theorem d_RM_fitsName_69 : decode b_RM_fitsName 69 = .ok (.iload_n 1, 1) := by decide +kernel
theorem d_RM_fitsName_70 : decode b_RM_fitsName 70 = .ok (.istore 5, 2) := by decide +kernel
theorem d_RM_fitsName_72 : decode b_RM_fitsName 72 = .ok (.iload 5, 2) := by decide +kernel
theorem d_RM_fitsName_74 : decode b_RM_fitsName 74 = .ok (.iload_n 2, 1) := by decide +kernel
theorem d_RM_fitsName_75 : decode b_RM_fitsName 75 = .ok (.if_icmp .gt 17, 3) := by decide +kernel
theorem d_RM_fitsName_78 : decode b_RM_fitsName 78 = .ok (.aload_n 0, 1) := by decide +kernel
theorem d_RM_fitsName_79 : decode b_RM_fitsName 79 = .ok (.getfield 41, 3) := by decide +kernel
theorem d_RM_fitsName_82 : decode b_RM_fitsName 82 = .ok (.iload 5, 2) := by decide +kernel
theorem d_RM_fitsName_84 : decode b_RM_fitsName 84 = .ok (.iconst 0, 1) := by decide +kernel
theorem d_RM_fitsName_85 : decode b_RM_fitsName 85 = .ok (.bastore, 1) := by decide +kernel
theorem d_RM_fitsName_86 : decode b_RM_fitsName 86 = .ok (.iinc 5 1, 3) := by decide +kernel
theorem d_RM_fitsName_89 : decode b_RM_fitsName 89 = .ok (.goto (-17), 3) := by decide +kernel
theorem d_RM_fitsName_92 : decode b_RM_fitsName 92 = .ok (.iload_n 1, 1) := by decide +kernel
theorem d_RM_fitsName_93 : decode b_RM_fitsName 93 = .ok (.istore 5, 2) := by decide +kernel
theorem d_RM_fitsName_95 : decode b_RM_fitsName 95 = .ok (.iload 5, 2) := by decide +kernel
theorem d_RM_fitsName_97 : decode b_RM_fitsName 97 = .ok (.iload_n 2, 1) := by decide +kernel
theorem d_RM_fitsName_98 : decode b_RM_fitsName 98 = .ok (.if_icmp .ge 59, 3) := by decide +kernel
theorem d_RM_fitsName_101 : decode b_RM_fitsName 101 = .ok (.aload_n 0, 1) := by decide +kernel
theorem d_RM_fitsName_102 : decode b_RM_fitsName 102 = .ok (.getfield 37, 3) := by decide +kernel
theorem d_RM_fitsName_105 : decode b_RM_fitsName 105 = .ok (.iload 5, 2) := by decide +kernel
theorem d_RM_fitsName_107 : decode b_RM_fitsName 107 = .ok (.baload, 1) := by decide +kernel
theorem d_RM_fitsName_108 : decode b_RM_fitsName 108 = .ok (.ifCond .eq 43, 3) := by decide +kernel
theorem d_RM_fitsName_111 : decode b_RM_fitsName 111 = .ok (.aload_n 0, 1) := by decide +kernel
theorem d_RM_fitsName_112 : decode b_RM_fitsName 112 = .ok (.iload 5, 2) := by decide +kernel
theorem d_RM_fitsName_114 : decode b_RM_fitsName 114 = .ok (.iload_n 2, 1) := by decide +kernel
theorem d_RM_fitsName_115 : decode b_RM_fitsName 115 = .ok (.aload_n 0, 1) := by decide +kernel
theorem d_RM_fitsName_116 : decode b_RM_fitsName 116 = .ok (.getfield 28, 3) := by decide +kernel
theorem d_RM_fitsName_119 : decode b_RM_fitsName 119 = .ok (.iload 4, 2) := by decide +kernel
theorem d_RM_fitsName_121 : decode b_RM_fitsName 121 = .ok (.iaload, 1) := by decide +kernel
theorem d_RM_fitsName_122 : decode b_RM_fitsName 122 = .ok (.invokevirtual 148, 3) := by decide +kernel
theorem d_RM_fitsName_125 : decode b_RM_fitsName 125 = .ok (.ifCond .eq 26, 3) := by decide +kernel
theorem d_RM_fitsName_128 : decode b_RM_fitsName 128 = .ok (.aload_n 0, 1) := by decide +kernel
theorem d_RM_fitsName_129 : decode b_RM_fitsName 129 = .ok (.getfield 41, 3) := by decide +kernel
theorem d_RM_fitsName_132 : decode b_RM_fitsName 132 = .ok (.aload_n 0, 1) := by decide +kernel
theorem d_RM_fitsName_133 : decode b_RM_fitsName 133 = .ok (.getfield 68, 3) := by decide +kernel
theorem d_RM_fitsName_136 : decode b_RM_fitsName 136 = .ok (.iconst 2, 1) := by decide +kernel
theorem d_RM_fitsName_137 : decode b_RM_fitsName 137 = .ok (.if_icmp .ne 8, 3) := by decide +kernel
theorem d_RM_fitsName_140 : decode b_RM_fitsName 140 = .ok (.iload 5, 2) := by decide +kernel
theorem d_RM_fitsName_142 : decode b_RM_fitsName 142 = .ok (.goto 7, 3) := by decide +kernel
theorem d_RM_fitsName_145 : decode b_RM_fitsName 145 = .ok (.aload_n 0, 1) := by decide +kernel
theorem d_RM_fitsName_146 : decode b_RM_fitsName 146 = .ok (.getfield 65, 3) := by decide +kernel
theorem d_RM_fitsName_149 : decode b_RM_fitsName 149 = .ok (.iconst 1, 1) := by decide +kernel
theorem d_RM_fitsName_150 : decode b_RM_fitsName 150 = .ok (.bastore, 1) := by decide +kernel
theorem d_RM_fitsName_151 : decode b_RM_fitsName 151 = .ok (.iinc 5 1, 3) := by decide +kernel
theorem d_RM_fitsName_154 : decode b_RM_fitsName 154 = .ok (.goto (-59), 3) := by decide +kernel
theorem d_RM_fitsName_157 : decode b_RM_fitsName 157 = .ok (.iload_n 1, 1) := by decide +kernel
theorem d_RM_fitsName_158 : decode b_RM_fitsName 158 = .ok (.istore 5, 2) := by decide +kernel
theorem d_RM_fitsName_160 : decode b_RM_fitsName 160 = .ok (.iload 5, 2) := by decide +kernel
theorem d_RM_fitsName_162 : decode b_RM_fitsName 162 = .ok (.iload_n 2, 1) := by decide +kernel
theorem d_RM_fitsName_163 : decode b_RM_fitsName 163 = .ok (.if_icmp .gt 23, 3) := by decide +kernel
theorem d_RM_fitsName_166 : decode b_RM_fitsName 166 = .ok (.aload_n 0, 1) := by decide +kernel
theorem d_RM_fitsName_167 : decode b_RM_fitsName 167 = .ok (.getfield 37, 3) := by decide +kernel
theorem d_RM_fitsName_170 : decode b_RM_fitsName 170 = .ok (.iload 5, 2) := by decide +kernel
theorem d_RM_fitsName_172 : decode b_RM_fitsName 172 = .ok (.aload_n 0, 1) := by decide +kernel
theorem d_RM_fitsName_173 : decode b_RM_fitsName 173 = .ok (.getfield 41, 3) := by decide +kernel
theorem d_RM_fitsName_176 : decode b_RM_fitsName 176 = .ok (.iload 5, 2) := by decide +kernel
theorem d_RM_fitsName_178 : decode b_RM_fitsName 178 = .ok (.baload, 1) := by decide +kernel
theorem d_RM_fitsName_179 : decode b_RM_fitsName 179 = .ok (.bastore, 1) := by decide +kernel
theorem d_RM_fitsName_180 : decode b_RM_fitsName 180 = .ok (.iinc 5 1, 3) := by decide +kernel
theorem d_RM_fitsName_183 : decode b_RM_fitsName 183 = .ok (.goto (-23), 3) := by decide +kernel
theorem d_RM_fitsName_186 : decode b_RM_fitsName 186 = .ok (.aload_n 0, 1) := by decide +kernel
theorem d_RM_fitsName_187 : decode b_RM_fitsName 187 = .ok (.iload_n 1, 1) := by decide +kernel
theorem d_RM_fitsName_188 : decode b_RM_fitsName 188 = .ok (.iload_n 2, 1) := by decide +kernel
theorem d_RM_fitsName_189 : decode b_RM_fitsName 189 = .ok (.invokevirtual 145, 3) := by decide +kernel
theorem d_RM_fitsName_192 : decode b_RM_fitsName 192 = .ok (.iinc 4 1, 3) := by decide +kernel
theorem d_RM_fitsName_195 : decode b_RM_fitsName 195 = .ok (.goto (-137), 3) := by decide +kernel
theorem d_RM_fitsName_198 : decode b_RM_fitsName 198 = .ok (.aload_n 0, 1) := by decide +kernel
theorem d_RM_fitsName_199 : decode b_RM_fitsName 199 = .ok (.getfield 37, 3) := by decide +kernel
theorem d_RM_fitsName_202 : decode b_RM_fitsName 202 = .ok (.iload_n 2, 1) := by decide +kernel
theorem d_RM_fitsName_203 : decode b_RM_fitsName 203 = .ok (.baload, 1) := by decide +kernel
theorem d_RM_fitsName_204 : decode b_RM_fitsName 204 = .ok (.ireturn, 1) := by decide +kernel
abbrev w_RM_fitsName : List Cond := Cond.code y_RM_fitsName b_RM_fitsName 6 (some .boolean) :: ig_T
theorem g_RM_fitsName : GoodIn ig_T w_RM_fitsName := ig_T_good (ig_T_mem (List.mem_append_right _ (List.mem_append_right _ (List.mem_of_getElem? (i := 88) rfl))) rfl)
set_option maxHeartbeats 4000000 in
set_option maxRecDepth 100000 in
theorem c_RM_fitsName (l : Launch) (dC : Nat → ClassId) (dI : Nat → Nat → Nat) (cC cI cZ cL : ClassId) (o0 ra rx rf rt rb rl rp ru_ rv rr rs rg rh rz ry : Nat) (th : Int32) (si : Int32) (ru : Int32) (na : Int32) (pa : Int32) (bz : Int32) (de : Int32) (dp : Int32) (io : Int32) (nx : Nat) (so : Nat) (tX : Nat → Int32) (tP : Nat → Int32) (yF : Nat → Nat) (yT : Nat → Nat) (zR : Nat → Bool) (zF : Nat → Bool) (f : Nat) (a : Nat) (j : Nat) (sz : Nat) (hr : r_RM_fitsName nx so tX tP yF yT zR zF f a j) : Met l y_RM_fitsName w_RM_fitsName ({ frames := 4, cells := 0, slots := 0, locals := 92 }) (ig_Pc (dC, dI) ig_cl0 [(cC, .char), (cI, .int), (cZ, .boolean), (cL, .long)] [.ref o0, .int (nI f), .int (nI a), .int (nI j)] [(o0, .inr (ciRM, [.int th, .ref ra, .int si, .ref rx, .ref rf, .ref rt, .ref rb, .ref rl, .int ru, .ref rp, .ref ru_, .ref rv, .int na, .int (nI nx), .int (nI so), .ref rr, .ref rs, .ref rg, .ref rh, .int pa, .ref rz, .ref ry, .int bz, .int de, .int dp, .int io])), (rx, .inl (cI, 1000, .inl tX)), (rp, .inl (cI, 120, .inl tP)), (ru_, .inl (cI, 20, .inl (fun zj => nI (yF zj)))), (rv, .inl (cI, 20, .inl (fun zj => nI (yT zj)))), (rr, .inl (cZ, 1001, .inl (fun zj => bI (zR zj)))), (rs, .inl (cZ, 1001, .inl (fun zj => bI (zF zj))))] sz) (va_Qi (fun (r : Int32) (u : Nat × Nat × (Nat → Bool) × (Nat → Bool)) => ∃ zr : Bool, r = bI zr ∧ p_RM_fitsName nx so tX tP yF yT zR zF f a j zr u.1 u.2.1 u.2.2.1 u.2.2.2) (fun u t => va_P (dC, dI) ig_cl0 ((fun (u : Nat × Nat × (Nat → Bool) × (Nat → Bool)) => [(o0, .inr (ciRM, [.int th, .ref ra, .int si, .ref rx, .ref rf, .ref rt, .ref rb, .ref rl, .int ru, .ref rp, .ref ru_, .ref rv, .int na, .int (nI u.1), .int (nI u.2.1), .ref rr, .ref rs, .ref rg, .ref rh, .int pa, .ref rz, .ref ry, .int bz, .int de, .int dp, .int io])), (rx, .inl (cI, 1000, .inl tX)), (rp, .inl (cI, 120, .inl tP)), (ru_, .inl (cI, 20, .inl (fun zj => nI (yF zj)))), (rv, .inl (cI, 20, .inl (fun zj => nI (yT zj)))), (rr, .inl (cZ, 1001, .inl (fun zj => bI (u.2.2.1 zj)))), (rs, .inl (cZ, 1001, .inl (fun zj => bI (u.2.2.2 zj))))]) u) t.heap ∧ va_D (va_A [(o0, .inr (ciRM, [.int th, .ref ra, .int si, .ref rx, .ref rf, .ref rt, .ref rb, .ref rl, .int ru, .ref rp, .ref ru_, .ref rv, .int na, .int (nI nx), .int (nI so), .ref rr, .ref rs, .ref rg, .ref rh, .int pa, .ref rz, .ref ry, .int bz, .int de, .int dp, .int io])), (rx, .inl (cI, 1000, .inl tX)), (rp, .inl (cI, 120, .inl tP)), (ru_, .inl (cI, 20, .inl (fun zj => nI (yF zj)))), (rv, .inl (cI, 20, .inl (fun zj => nI (yT zj)))), (rr, .inl (cZ, 1001, .inl (fun zj => bI (zR zj)))), (rs, .inl (cZ, 1001, .inl (fun zj => bI (zF zj))))] sz) ((fun (u : Nat × Nat × (Nat → Bool) × (Nat → Bool)) => [(o0, .inr (ciRM, [.int th, .ref ra, .int si, .ref rx, .ref rf, .ref rt, .ref rb, .ref rl, .int ru, .ref rp, .ref ru_, .ref rv, .int na, .int (nI u.1), .int (nI u.2.1), .ref rr, .ref rs, .ref rg, .ref rh, .int pa, .ref rz, .ref ry, .int bz, .int de, .int dp, .int io])), (rx, .inl (cI, 1000, .inl tX)), (rp, .inl (cI, 120, .inl tP)), (ru_, .inl (cI, 20, .inl (fun zj => nI (yF zj)))), (rv, .inl (cI, 20, .inl (fun zj => nI (yT zj)))), (rr, .inl (cZ, 1001, .inl (fun zj => bI (u.2.2.1 zj)))), (rs, .inl (cZ, 1001, .inl (fun zj => bI (u.2.2.2 zj))))]) u)) (va_A [(o0, .inr (ciRM, [.int th, .ref ra, .int si, .ref rx, .ref rf, .ref rt, .ref rb, .ref rl, .int ru, .ref rp, .ref ru_, .ref rv, .int na, .int (nI nx), .int (nI so), .ref rr, .ref rs, .ref rg, .ref rh, .int pa, .ref rz, .ref ry, .int bz, .int de, .int dp, .int io])), (rx, .inl (cI, 1000, .inl tX)), (rp, .inl (cI, 120, .inl tP)), (ru_, .inl (cI, 20, .inl (fun zj => nI (yF zj)))), (rv, .inl (cI, 20, .inl (fun zj => nI (yT zj)))), (rr, .inl (cZ, 1001, .inl (fun zj => bI (zR zj)))), (rs, .inl (cZ, 1001, .inl (fun zj => bI (zF zj))))] sz)) 0 0 (va_A [(o0, .inr (ciRM, [.int th, .ref ra, .int si, .ref rx, .ref rf, .ref rt, .ref rb, .ref rl, .int ru, .ref rp, .ref ru_, .ref rv, .int na, .int (nI nx), .int (nI so), .ref rr, .ref rs, .ref rg, .ref rh, .int pa, .ref rz, .ref ry, .int bz, .int de, .int dp, .int io])), (rx, .inl (cI, 1000, .inl tX)), (rp, .inl (cI, 120, .inl tP)), (ru_, .inl (cI, 20, .inl (fun zj => nI (yF zj)))), (rv, .inl (cI, 20, .inl (fun zj => nI (yT zj)))), (rr, .inl (cZ, 1001, .inl (fun zj => bI (zR zj)))), (rs, .inl (cZ, 1001, .inl (fun zj => bI (zF zj))))] sz) := by
  refine ig_metI (fun (r : Int32) (u : Nat × Nat × (Nat → Bool) × (Nat → Bool)) => ∃ zr : Bool, r = bI zr ∧ p_RM_fitsName nx so tX tP yF yT zR zF f a j zr u.1 u.2.1 u.2.2.1 u.2.2.2) (fun (u : Nat × Nat × (Nat → Bool) × (Nat → Bool)) => [(o0, .inr (ciRM, [.int th, .ref ra, .int si, .ref rx, .ref rf, .ref rt, .ref rb, .ref rl, .int ru, .ref rp, .ref ru_, .ref rv, .int na, .int (nI u.1), .int (nI u.2.1), .ref rr, .ref rs, .ref rg, .ref rh, .int pa, .ref rz, .ref ry, .int bz, .int de, .int dp, .int io])), (rx, .inl (cI, 1000, .inl tX)), (rp, .inl (cI, 120, .inl tP)), (ru_, .inl (cI, 20, .inl (fun zj => nI (yF zj)))), (rv, .inl (cI, 20, .inl (fun zj => nI (yT zj)))), (rr, .inl (cZ, 1001, .inl (fun zj => bI (u.2.2.1 zj)))), (rs, .inl (cZ, 1001, .inl (fun zj => bI (u.2.2.2 zj))))]) (by decide) rfl (Nat.le_of_ble_eq_true rfl) rfl (by rintro r u ⟨b, rfl, -⟩; exact bI_ret b) ?_
  intro zp ze zs zm zargs zbelow zmeth zc zA zQ hx hb hml hown hts hK hN hA hret
  obtain ⟨K14, hK14⟩ : ∃ K : Nat → Nat → Nat → (Nat → Bool) → (Nat → Bool) → Prop, K = fun (k : Nat) (nxc : Nat) (soc : Nat) (zRc : Nat → Bool) (zFc : Nat → Bool) => ig_W zp l ze ({ frames := 4, cells := 0, slots := 0, locals := 92 }) zs zm zargs zbelow zmeth zc (dC, dI) ig_cl0 zA zs.heap 6 0 0 zQ 14 [(0, .ref o0), (1, .int (nI f)), (2, .int (nI a)), (3, .int (nI j)), (4, .int (nI k))] [] [(o0, .inr (ciRM, [.int th, .ref ra, .int si, .ref rx, .ref rf, .ref rt, .ref rb, .ref rl, .int ru, .ref rp, .ref ru_, .ref rv, .int na, .int (nI nxc), .int (nI soc), .ref rr, .ref rs, .ref rg, .ref rh, .int pa, .ref rz, .ref ry, .int bz, .int de, .int dp, .int io])), (rx, .inl (cI, 1000, .inl tX)), (rp, .inl (cI, 120, .inl tP)), (ru_, .inl (cI, 20, .inl (fun zj => nI (yF zj)))), (rv, .inl (cI, 20, .inl (fun zj => nI (yT zj)))), (rr, .inl (cZ, 1001, .inl (fun zj => bI (zRc zj)))), (rs, .inl (cZ, 1001, .inl (fun zj => bI (zFc zj))))] := ⟨_, rfl⟩
  obtain ⟨K58, hK58⟩ : ∃ K : Nat → Nat → Nat → (Nat → Bool) → (Nat → Bool) → Prop, K = fun (k : Nat) (nxc : Nat) (soc : Nat) (zRc : Nat → Bool) (zFc : Nat → Bool) => ig_W zp l ze ({ frames := 4, cells := 0, slots := 0, locals := 92 }) zs zm zargs zbelow zmeth zc (dC, dI) ig_cl0 zA zs.heap 6 0 0 zQ 58 [(0, .ref o0), (1, .int (nI f)), (2, .int (nI a)), (3, .int (nI j)), (4, .int (nI k))] [] [(o0, .inr (ciRM, [.int th, .ref ra, .int si, .ref rx, .ref rf, .ref rt, .ref rb, .ref rl, .int ru, .ref rp, .ref ru_, .ref rv, .int na, .int (nI nxc), .int (nI soc), .ref rr, .ref rs, .ref rg, .ref rh, .int pa, .ref rz, .ref ry, .int bz, .int de, .int dp, .int io])), (rx, .inl (cI, 1000, .inl tX)), (rp, .inl (cI, 120, .inl tP)), (ru_, .inl (cI, 20, .inl (fun zj => nI (yF zj)))), (rv, .inl (cI, 20, .inl (fun zj => nI (yT zj)))), (rr, .inl (cZ, 1001, .inl (fun zj => bI (zRc zj)))), (rs, .inl (cZ, 1001, .inl (fun zj => bI (zFc zj))))] := ⟨_, rfl⟩
  obtain ⟨K72, hK72⟩ : ∃ K : Nat → Nat → Nat → Nat → (Nat → Bool) → (Nat → Bool) → Prop, K = fun (k : Nat) (q : Nat) (nxc : Nat) (soc : Nat) (zRc : Nat → Bool) (zFc : Nat → Bool) => ig_W zp l ze ({ frames := 4, cells := 0, slots := 0, locals := 92 }) zs zm zargs zbelow zmeth zc (dC, dI) ig_cl0 zA zs.heap 6 0 0 zQ 72 [(0, .ref o0), (1, .int (nI f)), (2, .int (nI a)), (3, .int (nI j)), (4, .int (nI k)), (5, .int (nI q))] [] [(o0, .inr (ciRM, [.int th, .ref ra, .int si, .ref rx, .ref rf, .ref rt, .ref rb, .ref rl, .int ru, .ref rp, .ref ru_, .ref rv, .int na, .int (nI nxc), .int (nI soc), .ref rr, .ref rs, .ref rg, .ref rh, .int pa, .ref rz, .ref ry, .int bz, .int de, .int dp, .int io])), (rx, .inl (cI, 1000, .inl tX)), (rp, .inl (cI, 120, .inl tP)), (ru_, .inl (cI, 20, .inl (fun zj => nI (yF zj)))), (rv, .inl (cI, 20, .inl (fun zj => nI (yT zj)))), (rr, .inl (cZ, 1001, .inl (fun zj => bI (zRc zj)))), (rs, .inl (cZ, 1001, .inl (fun zj => bI (zFc zj))))] := ⟨_, rfl⟩
  obtain ⟨K95, hK95⟩ : ∃ K : Nat → Nat → Nat → Nat → (Nat → Bool) → (Nat → Bool) → Prop, K = fun (k : Nat) (q : Nat) (nxc : Nat) (soc : Nat) (zRc : Nat → Bool) (zFc : Nat → Bool) => ig_W zp l ze ({ frames := 4, cells := 0, slots := 0, locals := 92 }) zs zm zargs zbelow zmeth zc (dC, dI) ig_cl0 zA zs.heap 6 0 0 zQ 95 [(0, .ref o0), (1, .int (nI f)), (2, .int (nI a)), (3, .int (nI j)), (4, .int (nI k)), (5, .int (nI q))] [] [(o0, .inr (ciRM, [.int th, .ref ra, .int si, .ref rx, .ref rf, .ref rt, .ref rb, .ref rl, .int ru, .ref rp, .ref ru_, .ref rv, .int na, .int (nI nxc), .int (nI soc), .ref rr, .ref rs, .ref rg, .ref rh, .int pa, .ref rz, .ref ry, .int bz, .int de, .int dp, .int io])), (rx, .inl (cI, 1000, .inl tX)), (rp, .inl (cI, 120, .inl tP)), (ru_, .inl (cI, 20, .inl (fun zj => nI (yF zj)))), (rv, .inl (cI, 20, .inl (fun zj => nI (yT zj)))), (rr, .inl (cZ, 1001, .inl (fun zj => bI (zRc zj)))), (rs, .inl (cZ, 1001, .inl (fun zj => bI (zFc zj))))] := ⟨_, rfl⟩
  obtain ⟨K160, hK160⟩ : ∃ K : Nat → Nat → Nat → Nat → (Nat → Bool) → (Nat → Bool) → Prop, K = fun (k : Nat) (q : Nat) (nxc : Nat) (soc : Nat) (zRc : Nat → Bool) (zFc : Nat → Bool) => ig_W zp l ze ({ frames := 4, cells := 0, slots := 0, locals := 92 }) zs zm zargs zbelow zmeth zc (dC, dI) ig_cl0 zA zs.heap 6 0 0 zQ 160 [(0, .ref o0), (1, .int (nI f)), (2, .int (nI a)), (3, .int (nI j)), (4, .int (nI k)), (5, .int (nI q))] [] [(o0, .inr (ciRM, [.int th, .ref ra, .int si, .ref rx, .ref rf, .ref rt, .ref rb, .ref rl, .int ru, .ref rp, .ref ru_, .ref rv, .int na, .int (nI nxc), .int (nI soc), .ref rr, .ref rs, .ref rg, .ref rh, .int pa, .ref rz, .ref ry, .int bz, .int de, .int dp, .int io])), (rx, .inl (cI, 1000, .inl tX)), (rp, .inl (cI, 120, .inl tP)), (ru_, .inl (cI, 20, .inl (fun zj => nI (yF zj)))), (rv, .inl (cI, 20, .inl (fun zj => nI (yT zj)))), (rr, .inl (cZ, 1001, .inl (fun zj => bI (zRc zj)))), (rs, .inl (cZ, 1001, .inl (fun zj => bI (zFc zj))))] := ⟨_, rfl⟩
  have j37 : ∀ (k : Nat) (s0 : Bool) (s1 : Nat) (nxc : Nat) (soc : Nat) (zRc : Nat → Bool) (zFc : Nat → Bool), v_RM_fitsName_37 nx so tX tP yF yT zR zF f a j K14 K58 K72 K95 K160 (p_RM_fitsName nx so tX tP yF yT zR zF f a j) k s0 s1 nxc soc zRc zFc → ig_W zp l ze ({ frames := 4, cells := 0, slots := 0, locals := 92 }) zs zm zargs zbelow zmeth zc (dC, dI) ig_cl0 zA zs.heap 6 0 0 zQ 37 [(0, .ref o0), (1, .int (nI f)), (2, .int (nI a)), (3, .int (nI j)), (4, .int (nI k))] [.int (bI s0), .int (nI s1), .ref rr] [(o0, .inr (ciRM, [.int th, .ref ra, .int si, .ref rx, .ref rf, .ref rt, .ref rb, .ref rl, .int ru, .ref rp, .ref ru_, .ref rv, .int na, .int (nI nxc), .int (nI soc), .ref rr, .ref rs, .ref rg, .ref rh, .int pa, .ref rz, .ref ry, .int bz, .int de, .int dp, .int io])), (rx, .inl (cI, 1000, .inl tX)), (rp, .inl (cI, 120, .inl tP)), (ru_, .inl (cI, 20, .inl (fun zj => nI (yF zj)))), (rv, .inl (cI, 20, .inl (fun zj => nI (yT zj)))), (rr, .inl (cZ, 1001, .inl (fun zj => bI (zRc zj)))), (rs, .inl (cZ, 1001, .inl (fun zj => bI (zFc zj))))] := by
    intro k s0 s1 nxc soc zRc zFc hv
    unfold v_RM_fitsName_37 at hv
    obtain ⟨hc, hv⟩ := hv
    refine ig_zast (f' := fun zj => bI ((updB zRc s1 s0) zj)) (ws' := [(o0, .inr (ciRM, [.int th, .ref ra, .int si, .ref rx, .ref rf, .ref rt, .ref rb, .ref rl, .int ru, .ref rp, .ref ru_, .ref rv, .int na, .int (nI nxc), .int (nI soc), .ref rr, .ref rs, .ref rg, .ref rh, .int pa, .ref rz, .ref ry, .int bz, .int de, .int dp, .int io])), (rx, .inl (cI, 1000, .inl tX)), (rp, .inl (cI, 120, .inl tP)), (ru_, .inl (cI, 20, .inl (fun zj => nI (yF zj)))), (rv, .inl (cI, 20, .inl (fun zj => nI (yT zj)))), (rr, .inl (cZ, 1001, .inl (fun zj => bI ((updB zRc s1 s0) zj)))), (rs, .inl (cZ, 1001, .inl (fun zj => bI (zFc zj))))]) hx hb hK 5 2 rfl rfl s1 rfl hc (by decide) (bI_nar s0) (upd_B zRc s1 s0) d_RM_fitsName_37 rfl ?_
    refine ig_iinc (v := (nI (k + 1))) (lv' := [(4, .int (nI (k + 1))), (0, .ref o0), (1, .int (nI f)), (2, .int (nI a)), (3, .int (nI j))]) hx hb 4 d_RM_fitsName_38 rfl (ig_inc k 1 (by decide)) (by decide) rfl ?_
    refine ig_goto (tgt := 14) hx hb d_RM_fitsName_41 (by decide) ?_
    refine ig_lv (lv' := [(0, .ref o0), (1, .int (nI f)), (2, .int (nI a)), (3, .int (nI j)), (4, .int (nI (k + 1)))]) [1, 2, 3, 4, 0] rfl ?_
    rw [hK14] at hv
    exact hv
  have j149 : ∀ (k : Nat) (q : Nat) (s0 : Nat) (nxc : Nat) (soc : Nat) (zRc : Nat → Bool) (zFc : Nat → Bool), v_RM_fitsName_149 nx so tX tP yF yT zR zF f a j K14 K58 K72 K95 K160 (p_RM_fitsName nx so tX tP yF yT zR zF f a j) k q s0 nxc soc zRc zFc → ig_W zp l ze ({ frames := 4, cells := 0, slots := 0, locals := 92 }) zs zm zargs zbelow zmeth zc (dC, dI) ig_cl0 zA zs.heap 6 0 0 zQ 149 [(0, .ref o0), (1, .int (nI f)), (2, .int (nI a)), (3, .int (nI j)), (4, .int (nI k)), (5, .int (nI q))] [.int (nI s0), .ref rs] [(o0, .inr (ciRM, [.int th, .ref ra, .int si, .ref rx, .ref rf, .ref rt, .ref rb, .ref rl, .int ru, .ref rp, .ref ru_, .ref rv, .int na, .int (nI nxc), .int (nI soc), .ref rr, .ref rs, .ref rg, .ref rh, .int pa, .ref rz, .ref ry, .int bz, .int de, .int dp, .int io])), (rx, .inl (cI, 1000, .inl tX)), (rp, .inl (cI, 120, .inl tP)), (ru_, .inl (cI, 20, .inl (fun zj => nI (yF zj)))), (rv, .inl (cI, 20, .inl (fun zj => nI (yT zj)))), (rr, .inl (cZ, 1001, .inl (fun zj => bI (zRc zj)))), (rs, .inl (cZ, 1001, .inl (fun zj => bI (zFc zj))))] := by
    intro k q s0 nxc soc zRc zFc hv
    unfold v_RM_fitsName_149 at hv
    refine ig_iconst (v := 1) hx hb d_RM_fitsName_149 (by decide) ?_
    obtain ⟨hc, hv⟩ := hv
    refine ig_zast (f' := fun zj => bI ((updB zFc s0 true) zj)) (ws' := [(o0, .inr (ciRM, [.int th, .ref ra, .int si, .ref rx, .ref rf, .ref rt, .ref rb, .ref rl, .int ru, .ref rp, .ref ru_, .ref rv, .int na, .int (nI nxc), .int (nI soc), .ref rr, .ref rs, .ref rg, .ref rh, .int pa, .ref rz, .ref ry, .int bz, .int de, .int dp, .int io])), (rx, .inl (cI, 1000, .inl tX)), (rp, .inl (cI, 120, .inl tP)), (ru_, .inl (cI, 20, .inl (fun zj => nI (yF zj)))), (rv, .inl (cI, 20, .inl (fun zj => nI (yT zj)))), (rr, .inl (cZ, 1001, .inl (fun zj => bI (zRc zj)))), (rs, .inl (cZ, 1001, .inl (fun zj => bI ((updB zFc s0 true) zj))))]) hx hb hK 6 2 rfl rfl s0 rfl hc (by decide) (bI_nar true) (upd_B zFc s0 true) d_RM_fitsName_150 rfl ?_
    refine ig_iinc (v := (nI (q + 1))) (lv' := [(5, .int (nI (q + 1))), (0, .ref o0), (1, .int (nI f)), (2, .int (nI a)), (3, .int (nI j)), (4, .int (nI k))]) hx hb 5 d_RM_fitsName_151 rfl (ig_inc q 1 (by decide)) (by decide) rfl ?_
    refine ig_goto (tgt := 95) hx hb d_RM_fitsName_154 (by decide) ?_
    refine ig_lv (lv' := [(0, .ref o0), (1, .int (nI f)), (2, .int (nI a)), (3, .int (nI j)), (4, .int (nI k)), (5, .int (nI (q + 1)))]) [1, 2, 3, 4, 5, 0] rfl ?_
    rw [hK95] at hv
    exact hv
  have k14 : ∀ (k : Nat) (nxc : Nat) (soc : Nat) (zRc : Nat → Bool) (zFc : Nat → Bool), v_RM_fitsName_14 nx so tX tP yF yT zR zF f a j K14 K58 K72 K95 K160 (p_RM_fitsName nx so tX tP yF yT zR zF f a j) k nxc soc zRc zFc → K14 k nxc soc zRc zFc := by
    intro k nxc soc zRc zFc hv
    unfold v_RM_fitsName_14 at hv
    rw [hK14]
    show ig_W zp l ze ({ frames := 4, cells := 0, slots := 0, locals := 92 }) zs zm zargs zbelow zmeth zc (dC, dI) ig_cl0 zA zs.heap 6 0 0 zQ 14 [(0, .ref o0), (1, .int (nI f)), (2, .int (nI a)), (3, .int (nI j)), (4, .int (nI k))] [] [(o0, .inr (ciRM, [.int th, .ref ra, .int si, .ref rx, .ref rf, .ref rt, .ref rb, .ref rl, .int ru, .ref rp, .ref ru_, .ref rv, .int na, .int (nI nxc), .int (nI soc), .ref rr, .ref rs, .ref rg, .ref rh, .int pa, .ref rz, .ref ry, .int bz, .int de, .int dp, .int io])), (rx, .inl (cI, 1000, .inl tX)), (rp, .inl (cI, 120, .inl tP)), (ru_, .inl (cI, 20, .inl (fun zj => nI (yF zj)))), (rv, .inl (cI, 20, .inl (fun zj => nI (yT zj)))), (rr, .inl (cZ, 1001, .inl (fun zj => bI (zRc zj)))), (rs, .inl (cZ, 1001, .inl (fun zj => bI (zFc zj))))]
    refine ig_iload hx hb 4 d_RM_fitsName_14 rfl ?_
    refine ig_iload_n hx hb 2 d_RM_fitsName_16 rfl rfl ?_
    obtain ⟨h1, hv⟩ := hv
    obtain ⟨h2, hv⟩ := hv
    refine ig_icmp_gtN (tgt := 44) hx hb k a rfl rfl d_RM_fitsName_17 (by decide) h1 h2 (fun h => ?_) (fun h => ?_)
    · have hv := hv.1 h
      refine ig_aload_n hx hb 0 d_RM_fitsName_44 rfl rfl ?_
      refine ig_iload_n hx hb 1 d_RM_fitsName_45 rfl rfl ?_
      refine ig_iload_n hx hb 2 d_RM_fitsName_46 rfl rfl ?_
      obtain ⟨hc, hv⟩ := hv
      refine ig_cVv (As := [.int (nI f), .int (nI a)]) (rest := []) (wr := [(rp, .inl (cI, 120, .inl tP)), (ru_, .inl (cI, 20, .inl (fun zj => nI (yF zj)))), (rv, .inl (cI, 20, .inl (fun zj => nI (yT zj)))), (rs, .inl (cZ, 1001, .inl (fun zj => bI (zFc zj))))]) (ws' := fun u => [(o0, .inr (ciRM, [.int th, .ref ra, .int si, .ref rx, .ref rf, .ref rt, .ref rb, .ref rl, .int ru, .ref rp, .ref ru_, .ref rv, .int na, .int (nI u.1), .int (nI u.2.1), .ref rr, .ref rs, .ref rg, .ref rh, .int pa, .ref rz, .ref ry, .int bz, .int de, .int dp, .int io])), (rx, .inl (cI, 1000, .inl tX)), (rp, .inl (cI, 120, .inl tP)), (ru_, .inl (cI, 20, .inl (fun zj => nI (yF zj)))), (rv, .inl (cI, 20, .inl (fun zj => nI (yT zj)))), (rr, .inl (cZ, 1001, .inl (fun zj => bI (u.2.2 zj)))), (rs, .inl (cZ, 1001, .inl (fun zj => bI (zFc zj))))]) hx hb hml hown hts hK hN hA (fun sz => c_RM_pass l dC dI cC cI cZ cL o0 ra rx rf rt rb rl rp ru_ rv rr rs rg rh rz ry th si ru na pa bz de dp io nxc soc tX zRc f a sz hc) ⟨callB_of 2 hts g_RM_pass rfl rfl rfl (hts _ kw_0_5) (hts _ kw_2_89) (by decide +kernel) (by decide), (hts _ kw_2_91), (hts _ ks_RM_pass)⟩ rfl rfl (Nat.le_of_ble_eq_true rfl) d_RM_fitsName_47 (by decide) 0 rfl rfl [0, 1, 5] [2, 3, 4, 6] [4, 5, 0, 1, 2, 6, 3] rfl rfl (by decide) (by decide) (by decide) (fun _ => rfl) (fun _ => rfl) (fun u hr => ?_)
      obtain ⟨nx3, so4, zR5⟩ := u
      unfold p_RM_pass at hr
      have hv := hv nx3 so4 zR5 hr
      refine ig_aload_n hx hb 0 d_RM_fitsName_50 rfl rfl ?_
      refine ig_get hx hb hts in_RM hown hK 0 rfl rfl 10 (by decide) (hts _ kw_1_155) (fun _ h => h) rfl d_RM_fitsName_51 ?_
      refine ig_iload_n hx hb 3 d_RM_fitsName_54 rfl rfl ?_
      obtain ⟨hc, hv⟩ := hv
      refine ig_iald (x := (nI (yF j))) hx hb hK 3 1 rfl rfl j rfl hc (by decide) rfl d_RM_fitsName_55 ?_
      refine ig_istore (lv' := [(4, .int (nI (yF j))), (0, .ref o0), (1, .int (nI f)), (2, .int (nI a)), (3, .int (nI j))]) hx hb d_RM_fitsName_56 (by decide) rfl ?_
      refine ig_lv (lv' := [(0, .ref o0), (1, .int (nI f)), (2, .int (nI a)), (3, .int (nI j)), (4, .int (nI (yF j)))]) [1, 2, 3, 4, 0] rfl ?_
      rw [hK58] at hv
      exact hv
    · have hv := hv.2 h
      refine ig_aload_n hx hb 0 d_RM_fitsName_20 rfl rfl ?_
      refine ig_get hx hb hts in_RM hown hK 0 rfl rfl 15 (by decide) (hts _ kw_1_160) (fun _ h => h) rfl d_RM_fitsName_21 ?_
      refine ig_iload hx hb 4 d_RM_fitsName_24 rfl ?_
      refine ig_iload hx hb 4 d_RM_fitsName_26 rfl ?_
      refine ig_iload_n hx hb 1 d_RM_fitsName_28 rfl rfl ?_
      obtain ⟨h1, hv⟩ := hv
      obtain ⟨h2, hv⟩ := hv
      refine ig_icmp_neN (tgt := 36) hx hb k f rfl rfl d_RM_fitsName_29 (by decide) h1 h2 (fun h => ?_) (fun h => ?_)
      · have hv := hv.1 h
        refine ig_iconst (v := 0) hx hb d_RM_fitsName_36 (by decide) ?_
        refine ig_lv (lv' := [(0, .ref o0), (1, .int (nI f)), (2, .int (nI a)), (3, .int (nI j)), (4, .int (nI k))]) [0, 1, 2, 3, 4] rfl ?_
        exact j37 _ _ _ _ _ _ _ hv
      · have hv := hv.2 h
        refine ig_iconst (v := 1) hx hb d_RM_fitsName_32 (by decide) ?_
        refine ig_goto (tgt := 37) hx hb d_RM_fitsName_33 (by decide) ?_
        refine ig_lv (lv' := [(0, .ref o0), (1, .int (nI f)), (2, .int (nI a)), (3, .int (nI j)), (4, .int (nI k))]) [0, 1, 2, 3, 4] rfl ?_
        exact j37 _ _ _ _ _ _ _ hv
  have k58 : ∀ (k : Nat) (nxc : Nat) (soc : Nat) (zRc : Nat → Bool) (zFc : Nat → Bool), v_RM_fitsName_58 nx so tX tP yF yT zR zF f a j K14 K58 K72 K95 K160 (p_RM_fitsName nx so tX tP yF yT zR zF f a j) k nxc soc zRc zFc → K58 k nxc soc zRc zFc := by
    intro k nxc soc zRc zFc hv
    unfold v_RM_fitsName_58 at hv
    rw [hK58]
    show ig_W zp l ze ({ frames := 4, cells := 0, slots := 0, locals := 92 }) zs zm zargs zbelow zmeth zc (dC, dI) ig_cl0 zA zs.heap 6 0 0 zQ 58 [(0, .ref o0), (1, .int (nI f)), (2, .int (nI a)), (3, .int (nI j)), (4, .int (nI k))] [] [(o0, .inr (ciRM, [.int th, .ref ra, .int si, .ref rx, .ref rf, .ref rt, .ref rb, .ref rl, .int ru, .ref rp, .ref ru_, .ref rv, .int na, .int (nI nxc), .int (nI soc), .ref rr, .ref rs, .ref rg, .ref rh, .int pa, .ref rz, .ref ry, .int bz, .int de, .int dp, .int io])), (rx, .inl (cI, 1000, .inl tX)), (rp, .inl (cI, 120, .inl tP)), (ru_, .inl (cI, 20, .inl (fun zj => nI (yF zj)))), (rv, .inl (cI, 20, .inl (fun zj => nI (yT zj)))), (rr, .inl (cZ, 1001, .inl (fun zj => bI (zRc zj)))), (rs, .inl (cZ, 1001, .inl (fun zj => bI (zFc zj))))]
    refine ig_iload hx hb 4 d_RM_fitsName_58 rfl ?_
    refine ig_aload_n hx hb 0 d_RM_fitsName_60 rfl rfl ?_
    refine ig_get hx hb hts in_RM hown hK 0 rfl rfl 11 (by decide) (hts _ kw_1_156) (fun _ h => h) rfl d_RM_fitsName_61 ?_
    refine ig_iload_n hx hb 3 d_RM_fitsName_64 rfl rfl ?_
    obtain ⟨hc, hv⟩ := hv
    refine ig_iald (x := (nI (yT j))) hx hb hK 4 1 rfl rfl j rfl hc (by decide) rfl d_RM_fitsName_65 ?_
    obtain ⟨h1, hv⟩ := hv
    obtain ⟨h2, hv⟩ := hv
    refine ig_icmp_geN (tgt := 198) hx hb k (yT j) rfl rfl d_RM_fitsName_66 (by decide) h1 h2 (fun h => ?_) (fun h => ?_)
    · have hv := hv.1 h
      refine ig_aload_n hx hb 0 d_RM_fitsName_198 rfl rfl ?_
      refine ig_get hx hb hts in_RM hown hK 0 rfl rfl 15 (by decide) (hts _ kw_1_160) (fun _ h => h) rfl d_RM_fitsName_199 ?_
      refine ig_iload_n hx hb 2 d_RM_fitsName_202 rfl rfl ?_
      obtain ⟨hc, hv⟩ := hv
      refine ig_zald (x := (bI (zRc a))) hx hb hK 5 2 rfl rfl a rfl hc (by decide) rfl d_RM_fitsName_203 ?_
      exact hret 204 _ (bI (zRc a)) (nxc, soc, zRc, zFc) d_RM_fitsName_204 ⟨zRc a, rfl, hv⟩
    · have hv := hv.2 h
      refine ig_iload_n hx hb 1 d_RM_fitsName_69 rfl rfl ?_
      refine ig_istore (lv' := [(5, .int (nI f)), (0, .ref o0), (1, .int (nI f)), (2, .int (nI a)), (3, .int (nI j)), (4, .int (nI k))]) hx hb d_RM_fitsName_70 (by decide) rfl ?_
      refine ig_lv (lv' := [(0, .ref o0), (1, .int (nI f)), (2, .int (nI a)), (3, .int (nI j)), (4, .int (nI k)), (5, .int (nI f))]) [1, 2, 3, 4, 5, 0] rfl ?_
      rw [hK72] at hv
      exact hv
  have k72 : ∀ (k : Nat) (q : Nat) (nxc : Nat) (soc : Nat) (zRc : Nat → Bool) (zFc : Nat → Bool), v_RM_fitsName_72 nx so tX tP yF yT zR zF f a j K14 K58 K72 K95 K160 (p_RM_fitsName nx so tX tP yF yT zR zF f a j) k q nxc soc zRc zFc → K72 k q nxc soc zRc zFc := by
    intro k q nxc soc zRc zFc hv
    unfold v_RM_fitsName_72 at hv
    rw [hK72]
    show ig_W zp l ze ({ frames := 4, cells := 0, slots := 0, locals := 92 }) zs zm zargs zbelow zmeth zc (dC, dI) ig_cl0 zA zs.heap 6 0 0 zQ 72 [(0, .ref o0), (1, .int (nI f)), (2, .int (nI a)), (3, .int (nI j)), (4, .int (nI k)), (5, .int (nI q))] [] [(o0, .inr (ciRM, [.int th, .ref ra, .int si, .ref rx, .ref rf, .ref rt, .ref rb, .ref rl, .int ru, .ref rp, .ref ru_, .ref rv, .int na, .int (nI nxc), .int (nI soc), .ref rr, .ref rs, .ref rg, .ref rh, .int pa, .ref rz, .ref ry, .int bz, .int de, .int dp, .int io])), (rx, .inl (cI, 1000, .inl tX)), (rp, .inl (cI, 120, .inl tP)), (ru_, .inl (cI, 20, .inl (fun zj => nI (yF zj)))), (rv, .inl (cI, 20, .inl (fun zj => nI (yT zj)))), (rr, .inl (cZ, 1001, .inl (fun zj => bI (zRc zj)))), (rs, .inl (cZ, 1001, .inl (fun zj => bI (zFc zj))))]
    refine ig_iload hx hb 5 d_RM_fitsName_72 rfl ?_
    refine ig_iload_n hx hb 2 d_RM_fitsName_74 rfl rfl ?_
    obtain ⟨h1, hv⟩ := hv
    obtain ⟨h2, hv⟩ := hv
    refine ig_icmp_gtN (tgt := 92) hx hb q a rfl rfl d_RM_fitsName_75 (by decide) h1 h2 (fun h => ?_) (fun h => ?_)
    · have hv := hv.1 h
      refine ig_iload_n hx hb 1 d_RM_fitsName_92 rfl rfl ?_
      refine ig_istore (lv' := [(5, .int (nI f)), (0, .ref o0), (1, .int (nI f)), (2, .int (nI a)), (3, .int (nI j)), (4, .int (nI k))]) hx hb d_RM_fitsName_93 (by decide) rfl ?_
      refine ig_lv (lv' := [(0, .ref o0), (1, .int (nI f)), (2, .int (nI a)), (3, .int (nI j)), (4, .int (nI k)), (5, .int (nI f))]) [1, 2, 3, 4, 5, 0] rfl ?_
      rw [hK95] at hv
      exact hv
    · have hv := hv.2 h
      refine ig_aload_n hx hb 0 d_RM_fitsName_78 rfl rfl ?_
      refine ig_get hx hb hts in_RM hown hK 0 rfl rfl 16 (by decide) (hts _ kw_1_161) (fun _ h => h) rfl d_RM_fitsName_79 ?_
      refine ig_iload hx hb 5 d_RM_fitsName_82 rfl ?_
      refine ig_iconst (v := 0) hx hb d_RM_fitsName_84 (by decide) ?_
      obtain ⟨hc, hv⟩ := hv
      refine ig_zast (f' := fun zj => bI ((updB zFc q false) zj)) (ws' := [(o0, .inr (ciRM, [.int th, .ref ra, .int si, .ref rx, .ref rf, .ref rt, .ref rb, .ref rl, .int ru, .ref rp, .ref ru_, .ref rv, .int na, .int (nI nxc), .int (nI soc), .ref rr, .ref rs, .ref rg, .ref rh, .int pa, .ref rz, .ref ry, .int bz, .int de, .int dp, .int io])), (rx, .inl (cI, 1000, .inl tX)), (rp, .inl (cI, 120, .inl tP)), (ru_, .inl (cI, 20, .inl (fun zj => nI (yF zj)))), (rv, .inl (cI, 20, .inl (fun zj => nI (yT zj)))), (rr, .inl (cZ, 1001, .inl (fun zj => bI (zRc zj)))), (rs, .inl (cZ, 1001, .inl (fun zj => bI ((updB zFc q false) zj))))]) hx hb hK 6 2 rfl rfl q rfl hc (by decide) (bI_nar false) (upd_B zFc q false) d_RM_fitsName_85 rfl ?_
      refine ig_iinc (v := (nI (q + 1))) (lv' := [(5, .int (nI (q + 1))), (0, .ref o0), (1, .int (nI f)), (2, .int (nI a)), (3, .int (nI j)), (4, .int (nI k))]) hx hb 5 d_RM_fitsName_86 rfl (ig_inc q 1 (by decide)) (by decide) rfl ?_
      refine ig_goto (tgt := 72) hx hb d_RM_fitsName_89 (by decide) ?_
      refine ig_lv (lv' := [(0, .ref o0), (1, .int (nI f)), (2, .int (nI a)), (3, .int (nI j)), (4, .int (nI k)), (5, .int (nI (q + 1)))]) [1, 2, 3, 4, 5, 0] rfl ?_
      rw [hK72] at hv
      exact hv
  have k95 : ∀ (k : Nat) (q : Nat) (nxc : Nat) (soc : Nat) (zRc : Nat → Bool) (zFc : Nat → Bool), v_RM_fitsName_95 nx so tX tP yF yT zR zF f a j K14 K58 K72 K95 K160 (p_RM_fitsName nx so tX tP yF yT zR zF f a j) k q nxc soc zRc zFc → K95 k q nxc soc zRc zFc := by
    intro k q nxc soc zRc zFc hv
    unfold v_RM_fitsName_95 at hv
    rw [hK95]
    show ig_W zp l ze ({ frames := 4, cells := 0, slots := 0, locals := 92 }) zs zm zargs zbelow zmeth zc (dC, dI) ig_cl0 zA zs.heap 6 0 0 zQ 95 [(0, .ref o0), (1, .int (nI f)), (2, .int (nI a)), (3, .int (nI j)), (4, .int (nI k)), (5, .int (nI q))] [] [(o0, .inr (ciRM, [.int th, .ref ra, .int si, .ref rx, .ref rf, .ref rt, .ref rb, .ref rl, .int ru, .ref rp, .ref ru_, .ref rv, .int na, .int (nI nxc), .int (nI soc), .ref rr, .ref rs, .ref rg, .ref rh, .int pa, .ref rz, .ref ry, .int bz, .int de, .int dp, .int io])), (rx, .inl (cI, 1000, .inl tX)), (rp, .inl (cI, 120, .inl tP)), (ru_, .inl (cI, 20, .inl (fun zj => nI (yF zj)))), (rv, .inl (cI, 20, .inl (fun zj => nI (yT zj)))), (rr, .inl (cZ, 1001, .inl (fun zj => bI (zRc zj)))), (rs, .inl (cZ, 1001, .inl (fun zj => bI (zFc zj))))]
    refine ig_iload hx hb 5 d_RM_fitsName_95 rfl ?_
    refine ig_iload_n hx hb 2 d_RM_fitsName_97 rfl rfl ?_
    obtain ⟨h1, hv⟩ := hv
    obtain ⟨h2, hv⟩ := hv
    refine ig_icmp_geN (tgt := 157) hx hb q a rfl rfl d_RM_fitsName_98 (by decide) h1 h2 (fun h => ?_) (fun h => ?_)
    · have hv := hv.1 h
      refine ig_iload_n hx hb 1 d_RM_fitsName_157 rfl rfl ?_
      refine ig_istore (lv' := [(5, .int (nI f)), (0, .ref o0), (1, .int (nI f)), (2, .int (nI a)), (3, .int (nI j)), (4, .int (nI k))]) hx hb d_RM_fitsName_158 (by decide) rfl ?_
      refine ig_lv (lv' := [(0, .ref o0), (1, .int (nI f)), (2, .int (nI a)), (3, .int (nI j)), (4, .int (nI k)), (5, .int (nI f))]) [1, 2, 3, 4, 5, 0] rfl ?_
      rw [hK160] at hv
      exact hv
    · have hv := hv.2 h
      refine ig_aload_n hx hb 0 d_RM_fitsName_101 rfl rfl ?_
      refine ig_get hx hb hts in_RM hown hK 0 rfl rfl 15 (by decide) (hts _ kw_1_160) (fun _ h => h) rfl d_RM_fitsName_102 ?_
      refine ig_iload hx hb 5 d_RM_fitsName_105 rfl ?_
      obtain ⟨hc, hv⟩ := hv
      refine ig_zald (x := (bI (zRc q))) hx hb hK 5 2 rfl rfl q rfl hc (by decide) rfl d_RM_fitsName_107 ?_
      refine ig_if_eqB (tgt := 151) hx hb (zRc q) rfl d_RM_fitsName_108 (by decide) (fun h => ?_) (fun h => ?_)
      · have hv := hv.1 h
        refine ig_iinc (v := (nI (q + 1))) (lv' := [(5, .int (nI (q + 1))), (0, .ref o0), (1, .int (nI f)), (2, .int (nI a)), (3, .int (nI j)), (4, .int (nI k))]) hx hb 5 d_RM_fitsName_151 rfl (ig_inc q 1 (by decide)) (by decide) rfl ?_
        refine ig_goto (tgt := 95) hx hb d_RM_fitsName_154 (by decide) ?_
        refine ig_lv (lv' := [(0, .ref o0), (1, .int (nI f)), (2, .int (nI a)), (3, .int (nI j)), (4, .int (nI k)), (5, .int (nI (q + 1)))]) [1, 2, 3, 4, 5, 0] rfl ?_
        rw [hK95] at hv
        exact hv
      · have hv := hv.2 h
        refine ig_aload_n hx hb 0 d_RM_fitsName_111 rfl rfl ?_
        refine ig_iload hx hb 5 d_RM_fitsName_112 rfl ?_
        refine ig_iload_n hx hb 2 d_RM_fitsName_114 rfl rfl ?_
        refine ig_aload_n hx hb 0 d_RM_fitsName_115 rfl rfl ?_
        refine ig_get hx hb hts in_RM hown hK 0 rfl rfl 9 (by decide) (hts _ kw_1_154) (fun _ h => h) rfl d_RM_fitsName_116 ?_
        refine ig_iload hx hb 4 d_RM_fitsName_119 rfl ?_
        obtain ⟨hc, hv⟩ := hv
        refine ig_iald (x := (tP k)) hx hb hK 2 1 rfl rfl k rfl hc (by decide) rfl d_RM_fitsName_121 ?_
        obtain ⟨hc, hv⟩ := hv
        refine ig_cVi (As := [.int (nI q), .int (nI a), .int (tP k)]) (rest := []) (wr := [(rp, .inl (cI, 120, .inl tP)), (ru_, .inl (cI, 20, .inl (fun zj => nI (yF zj)))), (rv, .inl (cI, 20, .inl (fun zj => nI (yT zj)))), (rr, .inl (cZ, 1001, .inl (fun zj => bI (zRc zj)))), (rs, .inl (cZ, 1001, .inl (fun zj => bI (zFc zj))))]) (ws' := fun u => [(o0, .inr (ciRM, [.int th, .ref ra, .int si, .ref rx, .ref rf, .ref rt, .ref rb, .ref rl, .int ru, .ref rp, .ref ru_, .ref rv, .int na, .int (nI u.1), .int (nI u.2), .ref rr, .ref rs, .ref rg, .ref rh, .int pa, .ref rz, .ref ry, .int bz, .int de, .int dp, .int io])), (rx, .inl (cI, 1000, .inl tX)), (rp, .inl (cI, 120, .inl tP)), (ru_, .inl (cI, 20, .inl (fun zj => nI (yF zj)))), (rv, .inl (cI, 20, .inl (fun zj => nI (yT zj)))), (rr, .inl (cZ, 1001, .inl (fun zj => bI (zRc zj)))), (rs, .inl (cZ, 1001, .inl (fun zj => bI (zFc zj))))]) hx hb hml hown hts hK hN hA (fun sz => c_RM_takes l dC dI cC cI cZ cL o0 ra rx rf rt rb rl rp ru_ rv rr rs rg rh rz ry th si ru na pa bz de dp io nxc soc tX q a (tP k) sz hc) ⟨callB_of 3 hts g_RM_takes rfl rfl rfl (hts _ kw_0_5) (hts _ kw_2_93) (by decide +kernel) (by decide), (hts _ kw_2_95), (hts _ ks_RM_takes)⟩ rfl rfl (Nat.le_of_ble_eq_true rfl) d_RM_fitsName_122 (by decide) 0 rfl rfl [0, 1] [2, 3, 4, 5, 6] [5, 6, 0, 1, 2, 3, 4] rfl rfl (by decide) (by decide) (by decide) (fun _ => rfl) (fun _ => rfl) (fun r u hr => ?_)
        obtain ⟨w6, w7⟩ := u
        obtain ⟨rr, rfl, hr⟩ := hr
        unfold p_RM_takes at hr
        obtain ⟨rfl, rfl, rfl⟩ := hr
        refine ig_if_eqB (tgt := 151) hx hb (decide (tX q = 42) || sp_take tX a q (tP k)) rfl d_RM_fitsName_125 (by decide) (fun h => ?_) (fun h => ?_)
        · have hv := hv.1 h
          refine ig_iinc (v := (nI (q + 1))) (lv' := [(5, .int (nI (q + 1))), (0, .ref o0), (1, .int (nI f)), (2, .int (nI a)), (3, .int (nI j)), (4, .int (nI k))]) hx hb 5 d_RM_fitsName_151 rfl (ig_inc q 1 (by decide)) (by decide) rfl ?_
          refine ig_goto (tgt := 95) hx hb d_RM_fitsName_154 (by decide) ?_
          refine ig_lv (lv' := [(0, .ref o0), (1, .int (nI f)), (2, .int (nI a)), (3, .int (nI j)), (4, .int (nI k)), (5, .int (nI (q + 1)))]) [1, 2, 3, 4, 5, 0] rfl ?_
          rw [hK95] at hv
          exact hv
        · have hv := hv.2 h
          refine ig_aload_n hx hb 0 d_RM_fitsName_128 rfl rfl ?_
          refine ig_get hx hb hts in_RM hown hK 0 rfl rfl 16 (by decide) (hts _ kw_1_161) (fun _ h => h) rfl d_RM_fitsName_129 ?_
          refine ig_aload_n hx hb 0 d_RM_fitsName_132 rfl rfl ?_
          refine ig_get hx hb hts in_RM hown hK 0 rfl rfl 14 (by decide) (hts _ kw_1_159) (fun _ h => h) rfl d_RM_fitsName_133 ?_
          refine ig_iconst (v := 2) hx hb d_RM_fitsName_136 (by decide) ?_
          obtain ⟨h1, hv⟩ := hv
          refine ig_icmp_neN (tgt := 145) hx hb (sp_sort tX a q) 2 rfl rfl d_RM_fitsName_137 (by decide) h1 (by decide) (fun h => ?_) (fun h => ?_)
          · have hv := hv.1 h
            refine ig_aload_n hx hb 0 d_RM_fitsName_145 rfl rfl ?_
            refine ig_get hx hb hts in_RM hown hK 0 rfl rfl 13 (by decide) (hts _ kw_1_158) (fun _ h => h) rfl d_RM_fitsName_146 ?_
            refine ig_lv (lv' := [(0, .ref o0), (1, .int (nI f)), (2, .int (nI a)), (3, .int (nI j)), (4, .int (nI k)), (5, .int (nI q))]) [0, 1, 2, 3, 4, 5] rfl ?_
            exact j149 _ _ _ _ _ _ _ hv
          · have hv := hv.2 h
            refine ig_iload hx hb 5 d_RM_fitsName_140 rfl ?_
            refine ig_goto (tgt := 149) hx hb d_RM_fitsName_142 (by decide) ?_
            refine ig_lv (lv' := [(0, .ref o0), (1, .int (nI f)), (2, .int (nI a)), (3, .int (nI j)), (4, .int (nI k)), (5, .int (nI q))]) [0, 1, 2, 3, 4, 5] rfl ?_
            exact j149 _ _ _ _ _ _ _ hv
  have k160 : ∀ (k : Nat) (q : Nat) (nxc : Nat) (soc : Nat) (zRc : Nat → Bool) (zFc : Nat → Bool), v_RM_fitsName_160 nx so tX tP yF yT zR zF f a j K14 K58 K72 K95 K160 (p_RM_fitsName nx so tX tP yF yT zR zF f a j) k q nxc soc zRc zFc → K160 k q nxc soc zRc zFc := by
    intro k q nxc soc zRc zFc hv
    unfold v_RM_fitsName_160 at hv
    rw [hK160]
    show ig_W zp l ze ({ frames := 4, cells := 0, slots := 0, locals := 92 }) zs zm zargs zbelow zmeth zc (dC, dI) ig_cl0 zA zs.heap 6 0 0 zQ 160 [(0, .ref o0), (1, .int (nI f)), (2, .int (nI a)), (3, .int (nI j)), (4, .int (nI k)), (5, .int (nI q))] [] [(o0, .inr (ciRM, [.int th, .ref ra, .int si, .ref rx, .ref rf, .ref rt, .ref rb, .ref rl, .int ru, .ref rp, .ref ru_, .ref rv, .int na, .int (nI nxc), .int (nI soc), .ref rr, .ref rs, .ref rg, .ref rh, .int pa, .ref rz, .ref ry, .int bz, .int de, .int dp, .int io])), (rx, .inl (cI, 1000, .inl tX)), (rp, .inl (cI, 120, .inl tP)), (ru_, .inl (cI, 20, .inl (fun zj => nI (yF zj)))), (rv, .inl (cI, 20, .inl (fun zj => nI (yT zj)))), (rr, .inl (cZ, 1001, .inl (fun zj => bI (zRc zj)))), (rs, .inl (cZ, 1001, .inl (fun zj => bI (zFc zj))))]
    refine ig_iload hx hb 5 d_RM_fitsName_160 rfl ?_
    refine ig_iload_n hx hb 2 d_RM_fitsName_162 rfl rfl ?_
    obtain ⟨h1, hv⟩ := hv
    obtain ⟨h2, hv⟩ := hv
    refine ig_icmp_gtN (tgt := 186) hx hb q a rfl rfl d_RM_fitsName_163 (by decide) h1 h2 (fun h => ?_) (fun h => ?_)
    · have hv := hv.1 h
      refine ig_aload_n hx hb 0 d_RM_fitsName_186 rfl rfl ?_
      refine ig_iload_n hx hb 1 d_RM_fitsName_187 rfl rfl ?_
      refine ig_iload_n hx hb 2 d_RM_fitsName_188 rfl rfl ?_
      obtain ⟨hc, hv⟩ := hv
      refine ig_cVv (As := [.int (nI f), .int (nI a)]) (rest := []) (wr := [(rp, .inl (cI, 120, .inl tP)), (ru_, .inl (cI, 20, .inl (fun zj => nI (yF zj)))), (rv, .inl (cI, 20, .inl (fun zj => nI (yT zj)))), (rs, .inl (cZ, 1001, .inl (fun zj => bI (zFc zj))))]) (ws' := fun u => [(o0, .inr (ciRM, [.int th, .ref ra, .int si, .ref rx, .ref rf, .ref rt, .ref rb, .ref rl, .int ru, .ref rp, .ref ru_, .ref rv, .int na, .int (nI u.1), .int (nI u.2.1), .ref rr, .ref rs, .ref rg, .ref rh, .int pa, .ref rz, .ref ry, .int bz, .int de, .int dp, .int io])), (rx, .inl (cI, 1000, .inl tX)), (rp, .inl (cI, 120, .inl tP)), (ru_, .inl (cI, 20, .inl (fun zj => nI (yF zj)))), (rv, .inl (cI, 20, .inl (fun zj => nI (yT zj)))), (rr, .inl (cZ, 1001, .inl (fun zj => bI (u.2.2 zj)))), (rs, .inl (cZ, 1001, .inl (fun zj => bI (zFc zj))))]) hx hb hml hown hts hK hN hA (fun sz => c_RM_pass l dC dI cC cI cZ cL o0 ra rx rf rt rb rl rp ru_ rv rr rs rg rh rz ry th si ru na pa bz de dp io nxc soc tX zRc f a sz hc) ⟨callB_of 2 hts g_RM_pass rfl rfl rfl (hts _ kw_0_5) (hts _ kw_2_89) (by decide +kernel) (by decide), (hts _ kw_2_91), (hts _ ks_RM_pass)⟩ rfl rfl (Nat.le_of_ble_eq_true rfl) d_RM_fitsName_189 (by decide) 0 rfl rfl [0, 1, 5] [2, 3, 4, 6] [4, 5, 0, 1, 2, 6, 3] rfl rfl (by decide) (by decide) (by decide) (fun _ => rfl) (fun _ => rfl) (fun u hr => ?_)
      obtain ⟨nx8, so9, zR10⟩ := u
      unfold p_RM_pass at hr
      have hv := hv nx8 so9 zR10 hr
      refine ig_iinc (v := (nI (k + 1))) (lv' := [(4, .int (nI (k + 1))), (0, .ref o0), (1, .int (nI f)), (2, .int (nI a)), (3, .int (nI j)), (5, .int (nI q))]) hx hb 4 d_RM_fitsName_192 rfl (ig_inc k 1 (by decide)) (by decide) rfl ?_
      refine ig_goto (tgt := 58) hx hb d_RM_fitsName_195 (by decide) ?_
      refine ig_lv (lv' := [(0, .ref o0), (1, .int (nI f)), (2, .int (nI a)), (3, .int (nI j)), (4, .int (nI (k + 1)))]) [1, 2, 3, 4, 0] rfl ?_
      rw [hK58] at hv
      exact hv
    · have hv := hv.2 h
      refine ig_aload_n hx hb 0 d_RM_fitsName_166 rfl rfl ?_
      refine ig_get hx hb hts in_RM hown hK 0 rfl rfl 15 (by decide) (hts _ kw_1_160) (fun _ h => h) rfl d_RM_fitsName_167 ?_
      refine ig_iload hx hb 5 d_RM_fitsName_170 rfl ?_
      refine ig_aload_n hx hb 0 d_RM_fitsName_172 rfl rfl ?_
      refine ig_get hx hb hts in_RM hown hK 0 rfl rfl 16 (by decide) (hts _ kw_1_161) (fun _ h => h) rfl d_RM_fitsName_173 ?_
      refine ig_iload hx hb 5 d_RM_fitsName_176 rfl ?_
      obtain ⟨hc, hv⟩ := hv
      refine ig_zald (x := (bI (zFc q))) hx hb hK 6 2 rfl rfl q rfl hc (by decide) rfl d_RM_fitsName_178 ?_
      obtain ⟨hc, hv⟩ := hv
      refine ig_zast (f' := fun zj => bI ((updB zRc q (zFc q)) zj)) (ws' := [(o0, .inr (ciRM, [.int th, .ref ra, .int si, .ref rx, .ref rf, .ref rt, .ref rb, .ref rl, .int ru, .ref rp, .ref ru_, .ref rv, .int na, .int (nI nxc), .int (nI soc), .ref rr, .ref rs, .ref rg, .ref rh, .int pa, .ref rz, .ref ry, .int bz, .int de, .int dp, .int io])), (rx, .inl (cI, 1000, .inl tX)), (rp, .inl (cI, 120, .inl tP)), (ru_, .inl (cI, 20, .inl (fun zj => nI (yF zj)))), (rv, .inl (cI, 20, .inl (fun zj => nI (yT zj)))), (rr, .inl (cZ, 1001, .inl (fun zj => bI ((updB zRc q (zFc q)) zj)))), (rs, .inl (cZ, 1001, .inl (fun zj => bI (zFc zj))))]) hx hb hK 5 2 rfl rfl q rfl hc (by decide) (bI_nar (zFc q)) (upd_B zRc q (zFc q)) d_RM_fitsName_179 rfl ?_
      refine ig_iinc (v := (nI (q + 1))) (lv' := [(5, .int (nI (q + 1))), (0, .ref o0), (1, .int (nI f)), (2, .int (nI a)), (3, .int (nI j)), (4, .int (nI k))]) hx hb 5 d_RM_fitsName_180 rfl (ig_inc q 1 (by decide)) (by decide) rfl ?_
      refine ig_goto (tgt := 160) hx hb d_RM_fitsName_183 (by decide) ?_
      refine ig_lv (lv' := [(0, .ref o0), (1, .int (nI f)), (2, .int (nI a)), (3, .int (nI j)), (4, .int (nI k)), (5, .int (nI (q + 1)))]) [1, 2, 3, 4, 5, 0] rfl ?_
      rw [hK160] at hv
      exact hv
  have hv := t_RM_fitsName nx so tX tP yF yT zR zF f a j hr K14 K58 K72 K95 K160 k14 k58 k72 k95 k160
  unfold v_RM_fitsName at hv
  refine ig_aload_n hx hb 0 d_RM_fitsName_0 rfl rfl ?_
  refine ig_iload_n hx hb 1 d_RM_fitsName_1 rfl rfl ?_
  refine ig_iload_n hx hb 2 d_RM_fitsName_2 rfl rfl ?_
  obtain ⟨hc, hv⟩ := hv
  refine ig_cVi (As := [.int (nI f), .int (nI a)]) (rest := []) (wr := [(rp, .inl (cI, 120, .inl tP)), (ru_, .inl (cI, 20, .inl (fun zj => nI (yF zj)))), (rv, .inl (cI, 20, .inl (fun zj => nI (yT zj)))), (rr, .inl (cZ, 1001, .inl (fun zj => bI (zR zj)))), (rs, .inl (cZ, 1001, .inl (fun zj => bI (zF zj))))]) (ws' := fun u => [(o0, .inr (ciRM, [.int th, .ref ra, .int si, .ref rx, .ref rf, .ref rt, .ref rb, .ref rl, .int ru, .ref rp, .ref ru_, .ref rv, .int na, .int (nI u.1), .int (nI u.2), .ref rr, .ref rs, .ref rg, .ref rh, .int pa, .ref rz, .ref ry, .int bz, .int de, .int dp, .int io])), (rx, .inl (cI, 1000, .inl tX)), (rp, .inl (cI, 120, .inl tP)), (ru_, .inl (cI, 20, .inl (fun zj => nI (yF zj)))), (rv, .inl (cI, 20, .inl (fun zj => nI (yT zj)))), (rr, .inl (cZ, 1001, .inl (fun zj => bI (zR zj)))), (rs, .inl (cZ, 1001, .inl (fun zj => bI (zF zj))))]) hx hb hml hown hts hK hN hA (fun sz => c_RM_isVoidName l dC dI cC cI cZ cL o0 ra rx rf rt rb rl rp ru_ rv rr rs rg rh rz ry th si ru na pa bz de dp io nx so tX f a sz hc) ⟨callB_of 2 hts g_RM_isVoidName rfl rfl rfl (hts _ kw_0_5) (hts _ kw_2_29) (by decide +kernel) (by decide), (hts _ kw_2_31), (hts _ ks_RM_isVoidName)⟩ rfl rfl (Nat.le_of_ble_eq_true rfl) d_RM_fitsName_3 (by decide) 0 rfl rfl [0, 1] [2, 3, 4, 5, 6] [5, 6, 0, 1, 2, 3, 4] rfl rfl (by decide) (by decide) (by decide) (fun _ => rfl) (fun _ => rfl) (fun r u hr => ?_)
  obtain ⟨nx1, so2⟩ := u
  obtain ⟨rr, rfl, hr⟩ := hr
  unfold p_RM_isVoidName at hr
  subst hr
  have hv := hv nx1 so2
  refine ig_if_eqB (tgt := 11) hx hb (decide (f = a) || sp_void tX a f) rfl d_RM_fitsName_6 (by decide) (fun h => ?_) (fun h => ?_)
  · have hv := hv.1 h
    refine ig_iload_n hx hb 1 d_RM_fitsName_11 rfl rfl ?_
    refine ig_istore (lv' := [(4, .int (nI f)), (0, .ref o0), (1, .int (nI f)), (2, .int (nI a)), (3, .int (nI j))]) hx hb d_RM_fitsName_12 (by decide) rfl ?_
    refine ig_lv (lv' := [(0, .ref o0), (1, .int (nI f)), (2, .int (nI a)), (3, .int (nI j)), (4, .int (nI f))]) [1, 2, 3, 4, 0] rfl ?_
    rw [hK14] at hv
    exact hv
  · have hv := hv.2 h
    refine ig_iconst (v := 0) hx hb d_RM_fitsName_9 (by decide) ?_
    exact hret 10 _ 0 (nx1, so2, zR, zF) d_RM_fitsName_10 ⟨false, rfl, hv⟩
