theorem kw_0_5 : Cond.initialized "IgnoreRulesModel" ∈ ig_T := ig_T_mem (List.mem_append_left _ (List.mem_of_getElem? (i := 5) rfl)) rfl
theorem kw_1_148 : Cond.fieldLink "IgnoreRulesModel" 13 "IgnoreRulesModel" "text" "[I" ∈ ig_T := ig_T_mem (List.mem_append_right _ (List.mem_append_left _ (List.mem_of_getElem? (i := 148) rfl))) rfl
theorem kw_1_158 : Cond.fieldLink "IgnoreRulesModel" 65 "IgnoreRulesModel" "next" "I" ∈ ig_T := ig_T_mem (List.mem_append_right _ (List.mem_append_left _ (List.mem_of_getElem? (i := 158) rfl))) rfl
theorem kw_1_159 : Cond.fieldLink "IgnoreRulesModel" 68 "IgnoreRulesModel" "sort" "I" ∈ ig_T := ig_T_mem (List.mem_append_right _ (List.mem_append_left _ (List.mem_of_getElem? (i := 159) rfl))) rfl
theorem kw_2_33 : Cond.methodLink "IgnoreRulesModel" 89 y_RM_look ∈ ig_T := ig_T_mem (List.mem_append_right _ (List.mem_append_right _ (List.mem_of_getElem? (i := 33) rfl))) rfl
theorem kw_2_35 : Cond.instanceMethod y_RM_look ∈ ig_T := ig_T_mem (List.mem_append_right _ (List.mem_append_right _ (List.mem_of_getElem? (i := 35) rfl))) rfl
theorem kw_2_37 : Cond.methodLink "IgnoreRulesModel" 71 y_RM_setEnd ∈ ig_T := ig_T_mem (List.mem_append_right _ (List.mem_append_right _ (List.mem_of_getElem? (i := 37) rfl))) rfl
theorem kw_2_39 : Cond.instanceMethod y_RM_setEnd ∈ ig_T := ig_T_mem (List.mem_append_right _ (List.mem_append_right _ (List.mem_of_getElem? (i := 39) rfl))) rfl
theorem kw_2_41 : Cond.methodLink "IgnoreRulesModel" 75 y_RM_itemsFrom ∈ ig_T := ig_T_mem (List.mem_append_right _ (List.mem_append_right _ (List.mem_of_getElem? (i := 41) rfl))) rfl
theorem kw_2_43 : Cond.instanceMethod y_RM_itemsFrom ∈ ig_T := ig_T_mem (List.mem_append_right _ (List.mem_append_right _ (List.mem_of_getElem? (i := 43) rfl))) rfl
theorem kw_2_45 : Cond.methodLink "IgnoreRulesModel" 78 y_RM_itemEnd ∈ ig_T := ig_T_mem (List.mem_append_right _ (List.mem_append_right _ (List.mem_of_getElem? (i := 45) rfl))) rfl
theorem kw_2_47 : Cond.instanceMethod y_RM_itemEnd ∈ ig_T := ig_T_mem (List.mem_append_right _ (List.mem_append_right _ (List.mem_of_getElem? (i := 47) rfl))) rfl
theorem kw_2_49 : Cond.methodLink "IgnoreRulesModel" 82 y_RM_isRow ∈ ig_T := ig_T_mem (List.mem_append_right _ (List.mem_append_right _ (List.mem_of_getElem? (i := 49) rfl))) rfl
theorem kw_2_51 : Cond.instanceMethod y_RM_isRow ∈ ig_T := ig_T_mem (List.mem_append_right _ (List.mem_append_right _ (List.mem_of_getElem? (i := 51) rfl))) rfl
theorem kw_2_101 : Cond.methodLink "IgnoreRulesModel" 86 y_RM_itemByte ∈ ig_T := ig_T_mem (List.mem_append_right _ (List.mem_append_right _ (List.mem_of_getElem? (i := 101) rfl))) rfl
theorem kw_2_103 : Cond.instanceMethod y_RM_itemByte ∈ ig_T := ig_T_mem (List.mem_append_right _ (List.mem_append_right _ (List.mem_of_getElem? (i := 103) rfl))) rfl
theorem d_RM_isBehindOdd_0 : decode b_RM_isBehindOdd 0 = .ok (.iconst 0, 1) := by decide +kernel
theorem d_RM_isBehindOdd_1 : decode b_RM_isBehindOdd 1 = .ok (.istore_n 3, 1) := by decide +kernel
theorem d_RM_isBehindOdd_2 : decode b_RM_isBehindOdd 2 = .ok (.iload_n 2, 1) := by decide +kernel
theorem d_RM_isBehindOdd_3 : decode b_RM_isBehindOdd 3 = .ok (.iconst 1, 1) := by decide +kernel
theorem d_RM_isBehindOdd_4 : decode b_RM_isBehindOdd 4 = .ok (.isub, 1) := by decide +kernel
theorem d_RM_isBehindOdd_5 : decode b_RM_isBehindOdd 5 = .ok (.iload_n 3, 1) := by decide +kernel
theorem d_RM_isBehindOdd_6 : decode b_RM_isBehindOdd 6 = .ok (.isub, 1) := by decide +kernel
theorem d_RM_isBehindOdd_7 : decode b_RM_isBehindOdd 7 = .ok (.iload_n 1, 1) := by decide +kernel
theorem d_RM_isBehindOdd_8 : decode b_RM_isBehindOdd 8 = .ok (.if_icmp .lt 24, 3) := by decide +kernel
theorem d_RM_isBehindOdd_11 : decode b_RM_isBehindOdd 11 = .ok (.aload_n 0, 1) := by decide +kernel
theorem d_RM_isBehindOdd_12 : decode b_RM_isBehindOdd 12 = .ok (.getfield 13, 3) := by decide +kernel
theorem d_RM_isBehindOdd_15 : decode b_RM_isBehindOdd 15 = .ok (.iload_n 2, 1) := by decide +kernel
theorem d_RM_isBehindOdd_16 : decode b_RM_isBehindOdd 16 = .ok (.iconst 1, 1) := by decide +kernel
theorem d_RM_isBehindOdd_17 : decode b_RM_isBehindOdd 17 = .ok (.isub, 1) := by decide +kernel
theorem d_RM_isBehindOdd_18 : decode b_RM_isBehindOdd 18 = .ok (.iload_n 3, 1) := by decide +kernel
theorem d_RM_isBehindOdd_19 : decode b_RM_isBehindOdd 19 = .ok (.isub, 1) := by decide +kernel
theorem d_RM_isBehindOdd_20 : decode b_RM_isBehindOdd 20 = .ok (.iaload, 1) := by decide +kernel
theorem d_RM_isBehindOdd_21 : decode b_RM_isBehindOdd 21 = .ok (.bipush 92, 2) := by decide +kernel
theorem d_RM_isBehindOdd_23 : decode b_RM_isBehindOdd 23 = .ok (.if_icmp .ne 9, 3) := by decide +kernel
theorem d_RM_isBehindOdd_26 : decode b_RM_isBehindOdd 26 = .ok (.iinc 3 1, 3) := by decide +kernel
theorem d_RM_isBehindOdd_29 : decode b_RM_isBehindOdd 29 = .ok (.goto (-27), 3) := by decide +kernel
theorem d_RM_isBehindOdd_32 : decode b_RM_isBehindOdd 32 = .ok (.iload_n 3, 1) := by decide +kernel
theorem d_RM_isBehindOdd_33 : decode b_RM_isBehindOdd 33 = .ok (.iconst 2, 1) := by decide +kernel
theorem d_RM_isBehindOdd_34 : decode b_RM_isBehindOdd 34 = .ok (.irem, 1) := by decide +kernel
theorem d_RM_isBehindOdd_35 : decode b_RM_isBehindOdd 35 = .ok (.iconst 1, 1) := by decide +kernel
theorem d_RM_isBehindOdd_36 : decode b_RM_isBehindOdd 36 = .ok (.if_icmp .ne 7, 3) := by decide +kernel
theorem d_RM_isBehindOdd_39 : decode b_RM_isBehindOdd 39 = .ok (.iconst 1, 1) := by decide +kernel
theorem d_RM_isBehindOdd_40 : decode b_RM_isBehindOdd 40 = .ok (.goto 4, 3) := by decide +kernel
theorem d_RM_isBehindOdd_43 : decode b_RM_isBehindOdd 43 = .ok (.iconst 0, 1) := by decide +kernel
theorem d_RM_isBehindOdd_44 : decode b_RM_isBehindOdd 44 = .ok (.ireturn, 1) := by decide +kernel
abbrev w_RM_isBehindOdd : List Cond := Cond.code y_RM_isBehindOdd b_RM_isBehindOdd 4 (some .boolean) :: ig_T
theorem g_RM_isBehindOdd : GoodIn ig_T w_RM_isBehindOdd := ig_T_good (ig_T_mem (List.mem_append_right _ (List.mem_append_right _ (List.mem_of_getElem? (i := 16) rfl))) rfl)
set_option maxHeartbeats 4000000 in
set_option maxRecDepth 100000 in
theorem c_RM_isBehindOdd (l : Launch) (dC : Nat → ClassId) (dI : Nat → Nat → Nat) (cC cI cZ cL : ClassId) (o0 ra rx rf rt rb rl rp ru_ rv rr rs rg rh rz ry : Nat) (th : Int32) (si : Int32) (ru : Int32) (na : Int32) (nx : Int32) (so : Int32) (pa : Int32) (bz : Int32) (de : Int32) (dp : Int32) (io : Int32) (tX : Nat → Int32) (f : Nat) (a : Nat) (sz : Nat) (hr : r_RM_isBehindOdd tX f a) : Met l y_RM_isBehindOdd w_RM_isBehindOdd ({ frames := 0, cells := 0, slots := 0, locals := 0 }) (ig_Pc (dC, dI) ig_cl0 [(cC, .char), (cI, .int), (cZ, .boolean), (cL, .long)] [.ref o0, .int (nI f), .int (nI a)] [(o0, .inr (ciRM, [.int th, .ref ra, .int si, .ref rx, .ref rf, .ref rt, .ref rb, .ref rl, .int ru, .ref rp, .ref ru_, .ref rv, .int na, .int nx, .int so, .ref rr, .ref rs, .ref rg, .ref rh, .int pa, .ref rz, .ref ry, .int bz, .int de, .int dp, .int io])), (rx, .inl (cI, 1000, .inl tX))] sz) (va_Qi (fun (r : Int32) (u : Unit) => ∃ zr : Bool, r = bI zr ∧ p_RM_isBehindOdd tX f a zr ) (fun u t => va_P (dC, dI) ig_cl0 ((fun (u : Unit) => [(o0, .inr (ciRM, [.int th, .ref ra, .int si, .ref rx, .ref rf, .ref rt, .ref rb, .ref rl, .int ru, .ref rp, .ref ru_, .ref rv, .int na, .int nx, .int so, .ref rr, .ref rs, .ref rg, .ref rh, .int pa, .ref rz, .ref ry, .int bz, .int de, .int dp, .int io])), (rx, .inl (cI, 1000, .inl tX))]) u) t.heap ∧ va_D (va_A [(o0, .inr (ciRM, [.int th, .ref ra, .int si, .ref rx, .ref rf, .ref rt, .ref rb, .ref rl, .int ru, .ref rp, .ref ru_, .ref rv, .int na, .int nx, .int so, .ref rr, .ref rs, .ref rg, .ref rh, .int pa, .ref rz, .ref ry, .int bz, .int de, .int dp, .int io])), (rx, .inl (cI, 1000, .inl tX))] sz) ((fun (u : Unit) => [(o0, .inr (ciRM, [.int th, .ref ra, .int si, .ref rx, .ref rf, .ref rt, .ref rb, .ref rl, .int ru, .ref rp, .ref ru_, .ref rv, .int na, .int nx, .int so, .ref rr, .ref rs, .ref rg, .ref rh, .int pa, .ref rz, .ref ry, .int bz, .int de, .int dp, .int io])), (rx, .inl (cI, 1000, .inl tX))]) u)) (va_A [(o0, .inr (ciRM, [.int th, .ref ra, .int si, .ref rx, .ref rf, .ref rt, .ref rb, .ref rl, .int ru, .ref rp, .ref ru_, .ref rv, .int na, .int nx, .int so, .ref rr, .ref rs, .ref rg, .ref rh, .int pa, .ref rz, .ref ry, .int bz, .int de, .int dp, .int io])), (rx, .inl (cI, 1000, .inl tX))] sz)) 0 0 (va_A [(o0, .inr (ciRM, [.int th, .ref ra, .int si, .ref rx, .ref rf, .ref rt, .ref rb, .ref rl, .int ru, .ref rp, .ref ru_, .ref rv, .int na, .int nx, .int so, .ref rr, .ref rs, .ref rg, .ref rh, .int pa, .ref rz, .ref ry, .int bz, .int de, .int dp, .int io])), (rx, .inl (cI, 1000, .inl tX))] sz) := by
  refine ig_metI (fun (r : Int32) (u : Unit) => ∃ zr : Bool, r = bI zr ∧ p_RM_isBehindOdd tX f a zr ) (fun (u : Unit) => [(o0, .inr (ciRM, [.int th, .ref ra, .int si, .ref rx, .ref rf, .ref rt, .ref rb, .ref rl, .int ru, .ref rp, .ref ru_, .ref rv, .int na, .int nx, .int so, .ref rr, .ref rs, .ref rg, .ref rh, .int pa, .ref rz, .ref ry, .int bz, .int de, .int dp, .int io])), (rx, .inl (cI, 1000, .inl tX))]) (by decide) rfl (Nat.le_of_ble_eq_true rfl) rfl (by rintro r u ⟨b, rfl, -⟩; exact bI_ret b) ?_
  intro zp ze zs zm zargs zbelow zmeth zc zA zQ hx hb hml hown hts hK hN hA hret
  obtain ⟨K2, hK2⟩ : ∃ K : Nat → Prop, K = fun (b : Nat) => ig_W zp l ze ({ frames := 0, cells := 0, slots := 0, locals := 0 }) zs zm zargs zbelow zmeth zc (dC, dI) ig_cl0 zA zs.heap 4 0 0 zQ 2 [(0, .ref o0), (1, .int (nI f)), (2, .int (nI a)), (3, .int (nI b))] [] [(o0, .inr (ciRM, [.int th, .ref ra, .int si, .ref rx, .ref rf, .ref rt, .ref rb, .ref rl, .int ru, .ref rp, .ref ru_, .ref rv, .int na, .int nx, .int so, .ref rr, .ref rs, .ref rg, .ref rh, .int pa, .ref rz, .ref ry, .int bz, .int de, .int dp, .int io])), (rx, .inl (cI, 1000, .inl tX))] := ⟨_, rfl⟩
  have j32 : ∀ (b : Nat), v_RM_isBehindOdd_32 tX f a K2 (p_RM_isBehindOdd tX f a) b → ig_W zp l ze ({ frames := 0, cells := 0, slots := 0, locals := 0 }) zs zm zargs zbelow zmeth zc (dC, dI) ig_cl0 zA zs.heap 4 0 0 zQ 32 [(3, .int (nI b))] [] [(o0, .inr (ciRM, [.int th, .ref ra, .int si, .ref rx, .ref rf, .ref rt, .ref rb, .ref rl, .int ru, .ref rp, .ref ru_, .ref rv, .int na, .int nx, .int so, .ref rr, .ref rs, .ref rg, .ref rh, .int pa, .ref rz, .ref ry, .int bz, .int de, .int dp, .int io])), (rx, .inl (cI, 1000, .inl tX))] := by
    intro b hv
    unfold v_RM_isBehindOdd_32 at hv
    refine ig_iload_n hx hb 0 d_RM_isBehindOdd_32 rfl rfl ?_
    refine ig_iconst (v := 2) hx hb d_RM_isBehindOdd_33 (by decide) ?_
    obtain ⟨hc, hv⟩ := hv
    refine ig_iremN hx hb b 2 rfl rfl hc (by decide) (by decide) d_RM_isBehindOdd_34 ?_
    refine ig_iconst (v := 1) hx hb d_RM_isBehindOdd_35 (by decide) ?_
    obtain ⟨h1, hv⟩ := hv
    refine ig_icmp_neN (tgt := 43) hx hb (b % 2) 1 rfl rfl d_RM_isBehindOdd_36 (by decide) h1 (by decide) (fun h => ?_) (fun h => ?_)
    · have hv := hv.1 h
      refine ig_iconst (v := 0) hx hb d_RM_isBehindOdd_43 (by decide) ?_
      exact hret 44 _ 0 () d_RM_isBehindOdd_44 ⟨false, rfl, hv⟩
    · have hv := hv.2 h
      refine ig_iconst (v := 1) hx hb d_RM_isBehindOdd_39 (by decide) ?_
      refine ig_goto (tgt := 44) hx hb d_RM_isBehindOdd_40 (by decide) ?_
      exact hret 44 _ 1 () d_RM_isBehindOdd_44 ⟨true, rfl, hv⟩
  have k2 : ∀ (b : Nat), v_RM_isBehindOdd_2 tX f a K2 (p_RM_isBehindOdd tX f a) b → K2 b := by
    intro b hv
    unfold v_RM_isBehindOdd_2 at hv
    rw [hK2]
    show ig_W zp l ze ({ frames := 0, cells := 0, slots := 0, locals := 0 }) zs zm zargs zbelow zmeth zc (dC, dI) ig_cl0 zA zs.heap 4 0 0 zQ 2 [(0, .ref o0), (1, .int (nI f)), (2, .int (nI a)), (3, .int (nI b))] [] [(o0, .inr (ciRM, [.int th, .ref ra, .int si, .ref rx, .ref rf, .ref rt, .ref rb, .ref rl, .int ru, .ref rp, .ref ru_, .ref rv, .int na, .int nx, .int so, .ref rr, .ref rs, .ref rg, .ref rh, .int pa, .ref rz, .ref ry, .int bz, .int de, .int dp, .int io])), (rx, .inl (cI, 1000, .inl tX))]
    refine ig_iload_n hx hb 2 d_RM_isBehindOdd_2 rfl rfl ?_
    refine ig_iconst (v := 1) hx hb d_RM_isBehindOdd_3 (by decide) ?_
    refine ig_isub hx hb d_RM_isBehindOdd_4 ?_
    refine ig_iload_n hx hb 3 d_RM_isBehindOdd_5 rfl rfl ?_
    refine ig_isub hx hb d_RM_isBehindOdd_6 ?_
    refine ig_iload_n hx hb 1 d_RM_isBehindOdd_7 rfl rfl ?_
    refine ig_icmp_lt (tgt := 32) hx hb d_RM_isBehindOdd_8 (by decide) (fun h => ?_) (fun h => ?_)
    · have hv := hv.1 h
      refine ig_lv (lv' := [(3, .int (nI b))]) [3] rfl ?_
      exact j32 _ hv
    · have hv := hv.2 h
      refine ig_aload_n hx hb 0 d_RM_isBehindOdd_11 rfl rfl ?_
      refine ig_get hx hb hts in_RM hown hK 0 rfl rfl 3 (by decide) (hts _ kw_1_148) (fun _ h => h) rfl d_RM_isBehindOdd_12 ?_
      refine ig_iload_n hx hb 2 d_RM_isBehindOdd_15 rfl rfl ?_
      refine ig_iconst (v := 1) hx hb d_RM_isBehindOdd_16 (by decide) ?_
      refine ig_isub hx hb d_RM_isBehindOdd_17 ?_
      refine ig_iload_n hx hb 3 d_RM_isBehindOdd_18 rfl rfl ?_
      refine ig_isub hx hb d_RM_isBehindOdd_19 ?_
      obtain ⟨j1, he, hv⟩ := hv
      rw [he]
      obtain ⟨hc, hv⟩ := hv
      refine ig_iald (x := (tX j1)) hx hb hK 1 1 rfl rfl j1 rfl hc (by decide) rfl d_RM_isBehindOdd_20 ?_
      refine ig_bipush (v := 92) hx hb d_RM_isBehindOdd_21 (by decide) ?_
      refine ig_icmp_ne (tgt := 32) hx hb d_RM_isBehindOdd_23 (by decide) (fun h => ?_) (fun h => ?_)
      · have hv := hv.1 h
        refine ig_lv (lv' := [(3, .int (nI b))]) [3] rfl ?_
        exact j32 _ hv
      · have hv := hv.2 h
        refine ig_iinc (v := (nI (b + 1))) (lv' := [(3, .int (nI (b + 1))), (0, .ref o0), (1, .int (nI f)), (2, .int (nI a))]) hx hb 3 d_RM_isBehindOdd_26 rfl (ig_inc b 1 (by decide)) (by decide) rfl ?_
        refine ig_goto (tgt := 2) hx hb d_RM_isBehindOdd_29 (by decide) ?_
        refine ig_lv (lv' := [(0, .ref o0), (1, .int (nI f)), (2, .int (nI a)), (3, .int (nI (b + 1)))]) [1, 2, 3, 0] rfl ?_
        rw [hK2] at hv
        exact hv
  have hv := t_RM_isBehindOdd tX f a hr K2 k2
  unfold v_RM_isBehindOdd at hv
  refine ig_iconst (v := 0) hx hb d_RM_isBehindOdd_0 (by decide) ?_
  refine ig_istore_n (lv' := [(3, .int 0), (0, .ref o0), (1, .int (nI f)), (2, .int (nI a))]) hx hb d_RM_isBehindOdd_1 rfl (by decide) rfl ?_
  refine ig_lv (lv' := [(0, .ref o0), (1, .int (nI f)), (2, .int (nI a)), (3, .int 0)]) [1, 2, 3, 0] rfl ?_
  rw [hK2] at hv
  exact hv
theorem d_RM_has_0 : decode b_RM_has 0 = .ok (.iload_n 1, 1) := by decide +kernel
theorem d_RM_has_1 : decode b_RM_has 1 = .ok (.istore 4, 2) := by decide +kernel
theorem d_RM_has_3 : decode b_RM_has 3 = .ok (.iload 4, 2) := by decide +kernel
theorem d_RM_has_5 : decode b_RM_has 5 = .ok (.iload_n 2, 1) := by decide +kernel
theorem d_RM_has_6 : decode b_RM_has 6 = .ok (.if_icmp .ge 22, 3) := by decide +kernel
theorem d_RM_has_9 : decode b_RM_has 9 = .ok (.aload_n 0, 1) := by decide +kernel
theorem d_RM_has_10 : decode b_RM_has 10 = .ok (.getfield 13, 3) := by decide +kernel
theorem d_RM_has_13 : decode b_RM_has 13 = .ok (.iload 4, 2) := by decide +kernel
theorem d_RM_has_15 : decode b_RM_has 15 = .ok (.iaload, 1) := by decide +kernel
theorem d_RM_has_16 : decode b_RM_has 16 = .ok (.iload_n 3, 1) := by decide +kernel
theorem d_RM_has_17 : decode b_RM_has 17 = .ok (.if_icmp .ne 5, 3) := by decide +kernel
theorem d_RM_has_20 : decode b_RM_has 20 = .ok (.iconst 1, 1) := by decide +kernel
theorem d_RM_has_21 : decode b_RM_has 21 = .ok (.ireturn, 1) := by decide +kernel
theorem d_RM_has_22 : decode b_RM_has 22 = .ok (.iinc 4 1, 3) := by decide +kernel
theorem d_RM_has_25 : decode b_RM_has 25 = .ok (.goto (-22), 3) := by decide +kernel
theorem d_RM_has_28 : decode b_RM_has 28 = .ok (.iconst 0, 1) := by decide +kernel
theorem d_RM_has_29 : decode b_RM_has 29 = .ok (.ireturn, 1) := by decide +kernel
abbrev w_RM_has : List Cond := Cond.code y_RM_has b_RM_has 5 (some .boolean) :: ig_T
theorem g_RM_has : GoodIn ig_T w_RM_has := ig_T_good (ig_T_mem (List.mem_append_right _ (List.mem_append_right _ (List.mem_of_getElem? (i := 20) rfl))) rfl)
set_option maxHeartbeats 4000000 in
set_option maxRecDepth 100000 in
theorem c_RM_has (l : Launch) (dC : Nat → ClassId) (dI : Nat → Nat → Nat) (cC cI cZ cL : ClassId) (o0 ra rx rf rt rb rl rp ru_ rv rr rs rg rh rz ry : Nat) (th : Int32) (si : Int32) (ru : Int32) (na : Int32) (nx : Int32) (so : Int32) (pa : Int32) (bz : Int32) (de : Int32) (dp : Int32) (io : Int32) (tX : Nat → Int32) (f : Nat) (a : Nat) (x : Int32) (sz : Nat) (hr : r_RM_has tX f a x) : Met l y_RM_has w_RM_has ({ frames := 0, cells := 0, slots := 0, locals := 0 }) (ig_Pc (dC, dI) ig_cl0 [(cC, .char), (cI, .int), (cZ, .boolean), (cL, .long)] [.ref o0, .int (nI f), .int (nI a), .int x] [(o0, .inr (ciRM, [.int th, .ref ra, .int si, .ref rx, .ref rf, .ref rt, .ref rb, .ref rl, .int ru, .ref rp, .ref ru_, .ref rv, .int na, .int nx, .int so, .ref rr, .ref rs, .ref rg, .ref rh, .int pa, .ref rz, .ref ry, .int bz, .int de, .int dp, .int io])), (rx, .inl (cI, 1000, .inl tX))] sz) (va_Qi (fun (r : Int32) (u : Unit) => ∃ zr : Bool, r = bI zr ∧ p_RM_has tX f a x zr ) (fun u t => va_P (dC, dI) ig_cl0 ((fun (u : Unit) => [(o0, .inr (ciRM, [.int th, .ref ra, .int si, .ref rx, .ref rf, .ref rt, .ref rb, .ref rl, .int ru, .ref rp, .ref ru_, .ref rv, .int na, .int nx, .int so, .ref rr, .ref rs, .ref rg, .ref rh, .int pa, .ref rz, .ref ry, .int bz, .int de, .int dp, .int io])), (rx, .inl (cI, 1000, .inl tX))]) u) t.heap ∧ va_D (va_A [(o0, .inr (ciRM, [.int th, .ref ra, .int si, .ref rx, .ref rf, .ref rt, .ref rb, .ref rl, .int ru, .ref rp, .ref ru_, .ref rv, .int na, .int nx, .int so, .ref rr, .ref rs, .ref rg, .ref rh, .int pa, .ref rz, .ref ry, .int bz, .int de, .int dp, .int io])), (rx, .inl (cI, 1000, .inl tX))] sz) ((fun (u : Unit) => [(o0, .inr (ciRM, [.int th, .ref ra, .int si, .ref rx, .ref rf, .ref rt, .ref rb, .ref rl, .int ru, .ref rp, .ref ru_, .ref rv, .int na, .int nx, .int so, .ref rr, .ref rs, .ref rg, .ref rh, .int pa, .ref rz, .ref ry, .int bz, .int de, .int dp, .int io])), (rx, .inl (cI, 1000, .inl tX))]) u)) (va_A [(o0, .inr (ciRM, [.int th, .ref ra, .int si, .ref rx, .ref rf, .ref rt, .ref rb, .ref rl, .int ru, .ref rp, .ref ru_, .ref rv, .int na, .int nx, .int so, .ref rr, .ref rs, .ref rg, .ref rh, .int pa, .ref rz, .ref ry, .int bz, .int de, .int dp, .int io])), (rx, .inl (cI, 1000, .inl tX))] sz)) 0 0 (va_A [(o0, .inr (ciRM, [.int th, .ref ra, .int si, .ref rx, .ref rf, .ref rt, .ref rb, .ref rl, .int ru, .ref rp, .ref ru_, .ref rv, .int na, .int nx, .int so, .ref rr, .ref rs, .ref rg, .ref rh, .int pa, .ref rz, .ref ry, .int bz, .int de, .int dp, .int io])), (rx, .inl (cI, 1000, .inl tX))] sz) := by
  refine ig_metI (fun (r : Int32) (u : Unit) => ∃ zr : Bool, r = bI zr ∧ p_RM_has tX f a x zr ) (fun (u : Unit) => [(o0, .inr (ciRM, [.int th, .ref ra, .int si, .ref rx, .ref rf, .ref rt, .ref rb, .ref rl, .int ru, .ref rp, .ref ru_, .ref rv, .int na, .int nx, .int so, .ref rr, .ref rs, .ref rg, .ref rh, .int pa, .ref rz, .ref ry, .int bz, .int de, .int dp, .int io])), (rx, .inl (cI, 1000, .inl tX))]) (by decide) rfl (Nat.le_of_ble_eq_true rfl) rfl (by rintro r u ⟨b, rfl, -⟩; exact bI_ret b) ?_
  intro zp ze zs zm zargs zbelow zmeth zc zA zQ hx hb hml hown hts hK hN hA hret
  obtain ⟨K3, hK3⟩ : ∃ K : Nat → Prop, K = fun (b : Nat) => ig_W zp l ze ({ frames := 0, cells := 0, slots := 0, locals := 0 }) zs zm zargs zbelow zmeth zc (dC, dI) ig_cl0 zA zs.heap 5 0 0 zQ 3 [(0, .ref o0), (2, .int (nI a)), (3, .int x), (4, .int (nI b))] [] [(o0, .inr (ciRM, [.int th, .ref ra, .int si, .ref rx, .ref rf, .ref rt, .ref rb, .ref rl, .int ru, .ref rp, .ref ru_, .ref rv, .int na, .int nx, .int so, .ref rr, .ref rs, .ref rg, .ref rh, .int pa, .ref rz, .ref ry, .int bz, .int de, .int dp, .int io])), (rx, .inl (cI, 1000, .inl tX))] := ⟨_, rfl⟩
  have k3 : ∀ (b : Nat), v_RM_has_3 tX f a x K3 (p_RM_has tX f a x) b → K3 b := by
    intro b hv
    unfold v_RM_has_3 at hv
    rw [hK3]
    show ig_W zp l ze ({ frames := 0, cells := 0, slots := 0, locals := 0 }) zs zm zargs zbelow zmeth zc (dC, dI) ig_cl0 zA zs.heap 5 0 0 zQ 3 [(0, .ref o0), (2, .int (nI a)), (3, .int x), (4, .int (nI b))] [] [(o0, .inr (ciRM, [.int th, .ref ra, .int si, .ref rx, .ref rf, .ref rt, .ref rb, .ref rl, .int ru, .ref rp, .ref ru_, .ref rv, .int na, .int nx, .int so, .ref rr, .ref rs, .ref rg, .ref rh, .int pa, .ref rz, .ref ry, .int bz, .int de, .int dp, .int io])), (rx, .inl (cI, 1000, .inl tX))]
    refine ig_iload hx hb 3 d_RM_has_3 rfl ?_
    refine ig_iload_n hx hb 1 d_RM_has_5 rfl rfl ?_
    obtain ⟨h1, hv⟩ := hv
    obtain ⟨h2, hv⟩ := hv
    refine ig_icmp_geN (tgt := 28) hx hb b a rfl rfl d_RM_has_6 (by decide) h1 h2 (fun h => ?_) (fun h => ?_)
    · have hv := hv.1 h
      refine ig_iconst (v := 0) hx hb d_RM_has_28 (by decide) ?_
      exact hret 29 _ 0 () d_RM_has_29 ⟨false, rfl, hv⟩
    · have hv := hv.2 h
      refine ig_aload_n hx hb 0 d_RM_has_9 rfl rfl ?_
      refine ig_get hx hb hts in_RM hown hK 0 rfl rfl 3 (by decide) (hts _ kw_1_148) (fun _ h => h) rfl d_RM_has_10 ?_
      refine ig_iload hx hb 3 d_RM_has_13 rfl ?_
      obtain ⟨hc, hv⟩ := hv
      refine ig_iald (x := (tX b)) hx hb hK 1 1 rfl rfl b rfl hc (by decide) rfl d_RM_has_15 ?_
      refine ig_iload_n hx hb 2 d_RM_has_16 rfl rfl ?_
      refine ig_icmp_ne (tgt := 22) hx hb d_RM_has_17 (by decide) (fun h => ?_) (fun h => ?_)
      · have hv := hv.1 h
        refine ig_iinc (v := (nI (b + 1))) (lv' := [(4, .int (nI (b + 1))), (0, .ref o0), (2, .int (nI a)), (3, .int x)]) hx hb 3 d_RM_has_22 rfl (ig_inc b 1 (by decide)) (by decide) rfl ?_
        refine ig_goto (tgt := 3) hx hb d_RM_has_25 (by decide) ?_
        refine ig_lv (lv' := [(0, .ref o0), (2, .int (nI a)), (3, .int x), (4, .int (nI (b + 1)))]) [1, 2, 3, 0] rfl ?_
        rw [hK3] at hv
        exact hv
      · have hv := hv.2 h
        refine ig_iconst (v := 1) hx hb d_RM_has_20 (by decide) ?_
        exact hret 21 _ 1 () d_RM_has_21 ⟨true, rfl, hv⟩
  have hv := t_RM_has tX f a x hr K3 k3
  unfold v_RM_has at hv
  refine ig_iload_n hx hb 1 d_RM_has_0 rfl rfl ?_
  refine ig_istore (lv' := [(4, .int (nI f)), (0, .ref o0), (1, .int (nI f)), (2, .int (nI a)), (3, .int x)]) hx hb d_RM_has_1 (by decide) rfl ?_
  refine ig_lv (lv' := [(0, .ref o0), (2, .int (nI a)), (3, .int x), (4, .int (nI f))]) [1, 3, 4, 0] rfl ?_
  rw [hK3] at hv
  exact hv
theorem d_RM_itemEnd_0 : decode b_RM_itemEnd 0 = .ok (.aload_n 0, 1) := by decide +kernel
theorem d_RM_itemEnd_1 : decode b_RM_itemEnd 1 = .ok (.getfield 13, 3) := by decide +kernel
theorem d_RM_itemEnd_4 : decode b_RM_itemEnd 4 = .ok (.iload_n 1, 1) := by decide +kernel
theorem d_RM_itemEnd_5 : decode b_RM_itemEnd 5 = .ok (.iaload, 1) := by decide +kernel
theorem d_RM_itemEnd_6 : decode b_RM_itemEnd 6 = .ok (.bipush 92, 2) := by decide +kernel
theorem d_RM_itemEnd_8 : decode b_RM_itemEnd 8 = .ok (.if_icmp .ne 9, 3) := by decide +kernel
theorem d_RM_itemEnd_11 : decode b_RM_itemEnd 11 = .ok (.iload_n 1, 1) := by decide +kernel
theorem d_RM_itemEnd_12 : decode b_RM_itemEnd 12 = .ok (.iconst 2, 1) := by decide +kernel
theorem d_RM_itemEnd_13 : decode b_RM_itemEnd 13 = .ok (.iadd, 1) := by decide +kernel
theorem d_RM_itemEnd_14 : decode b_RM_itemEnd 14 = .ok (.goto 6, 3) := by decide +kernel
theorem d_RM_itemEnd_17 : decode b_RM_itemEnd 17 = .ok (.iload_n 1, 1) := by decide +kernel
theorem d_RM_itemEnd_18 : decode b_RM_itemEnd 18 = .ok (.iconst 1, 1) := by decide +kernel
theorem d_RM_itemEnd_19 : decode b_RM_itemEnd 19 = .ok (.iadd, 1) := by decide +kernel
theorem d_RM_itemEnd_20 : decode b_RM_itemEnd 20 = .ok (.ireturn, 1) := by decide +kernel
abbrev w_RM_itemEnd : List Cond := Cond.code y_RM_itemEnd b_RM_itemEnd 2 (some .int) :: ig_T
theorem g_RM_itemEnd : GoodIn ig_T w_RM_itemEnd := ig_T_good (ig_T_mem (List.mem_append_right _ (List.mem_append_right _ (List.mem_of_getElem? (i := 48) rfl))) rfl)
set_option maxHeartbeats 4000000 in
set_option maxRecDepth 100000 in
theorem c_RM_itemEnd (l : Launch) (dC : Nat → ClassId) (dI : Nat → Nat → Nat) (cC cI cZ cL : ClassId) (o0 ra rx rf rt rb rl rp ru_ rv rr rs rg rh rz ry : Nat) (th : Int32) (si : Int32) (ru : Int32) (na : Int32) (nx : Int32) (so : Int32) (pa : Int32) (bz : Int32) (de : Int32) (dp : Int32) (io : Int32) (tX : Nat → Int32) (k : Nat) (sz : Nat) (hr : r_RM_itemEnd tX k) : Met l y_RM_itemEnd w_RM_itemEnd ({ frames := 0, cells := 0, slots := 0, locals := 0 }) (ig_Pc (dC, dI) ig_cl0 [(cC, .char), (cI, .int), (cZ, .boolean), (cL, .long)] [.ref o0, .int (nI k)] [(o0, .inr (ciRM, [.int th, .ref ra, .int si, .ref rx, .ref rf, .ref rt, .ref rb, .ref rl, .int ru, .ref rp, .ref ru_, .ref rv, .int na, .int nx, .int so, .ref rr, .ref rs, .ref rg, .ref rh, .int pa, .ref rz, .ref ry, .int bz, .int de, .int dp, .int io])), (rx, .inl (cI, 1000, .inl tX))] sz) (va_Qi (fun (r : Int32) (u : Unit) => ∃ zr : Nat, r = nI zr ∧ p_RM_itemEnd tX k zr ) (fun u t => va_P (dC, dI) ig_cl0 ((fun (u : Unit) => [(o0, .inr (ciRM, [.int th, .ref ra, .int si, .ref rx, .ref rf, .ref rt, .ref rb, .ref rl, .int ru, .ref rp, .ref ru_, .ref rv, .int na, .int nx, .int so, .ref rr, .ref rs, .ref rg, .ref rh, .int pa, .ref rz, .ref ry, .int bz, .int de, .int dp, .int io])), (rx, .inl (cI, 1000, .inl tX))]) u) t.heap ∧ va_D (va_A [(o0, .inr (ciRM, [.int th, .ref ra, .int si, .ref rx, .ref rf, .ref rt, .ref rb, .ref rl, .int ru, .ref rp, .ref ru_, .ref rv, .int na, .int nx, .int so, .ref rr, .ref rs, .ref rg, .ref rh, .int pa, .ref rz, .ref ry, .int bz, .int de, .int dp, .int io])), (rx, .inl (cI, 1000, .inl tX))] sz) ((fun (u : Unit) => [(o0, .inr (ciRM, [.int th, .ref ra, .int si, .ref rx, .ref rf, .ref rt, .ref rb, .ref rl, .int ru, .ref rp, .ref ru_, .ref rv, .int na, .int nx, .int so, .ref rr, .ref rs, .ref rg, .ref rh, .int pa, .ref rz, .ref ry, .int bz, .int de, .int dp, .int io])), (rx, .inl (cI, 1000, .inl tX))]) u)) (va_A [(o0, .inr (ciRM, [.int th, .ref ra, .int si, .ref rx, .ref rf, .ref rt, .ref rb, .ref rl, .int ru, .ref rp, .ref ru_, .ref rv, .int na, .int nx, .int so, .ref rr, .ref rs, .ref rg, .ref rh, .int pa, .ref rz, .ref ry, .int bz, .int de, .int dp, .int io])), (rx, .inl (cI, 1000, .inl tX))] sz)) 0 0 (va_A [(o0, .inr (ciRM, [.int th, .ref ra, .int si, .ref rx, .ref rf, .ref rt, .ref rb, .ref rl, .int ru, .ref rp, .ref ru_, .ref rv, .int na, .int nx, .int so, .ref rr, .ref rs, .ref rg, .ref rh, .int pa, .ref rz, .ref ry, .int bz, .int de, .int dp, .int io])), (rx, .inl (cI, 1000, .inl tX))] sz) := by
  refine ig_metI (fun (r : Int32) (u : Unit) => ∃ zr : Nat, r = nI zr ∧ p_RM_itemEnd tX k zr ) (fun (u : Unit) => [(o0, .inr (ciRM, [.int th, .ref ra, .int si, .ref rx, .ref rf, .ref rt, .ref rb, .ref rl, .int ru, .ref rp, .ref ru_, .ref rv, .int na, .int nx, .int so, .ref rr, .ref rs, .ref rg, .ref rh, .int pa, .ref rz, .ref ry, .int bz, .int de, .int dp, .int io])), (rx, .inl (cI, 1000, .inl tX))]) (by decide) rfl (Nat.le_of_ble_eq_true rfl) rfl (fun _ _ _ => rfl) ?_
  intro zp ze zs zm zargs zbelow zmeth zc zA zQ hx hb hml hown hts hK hN hA hret
  have hv := t_RM_itemEnd tX k hr 
  unfold v_RM_itemEnd at hv
  refine ig_aload_n hx hb 0 d_RM_itemEnd_0 rfl rfl ?_
  refine ig_get hx hb hts in_RM hown hK 0 rfl rfl 3 (by decide) (hts _ kw_1_148) (fun _ h => h) rfl d_RM_itemEnd_1 ?_
  refine ig_iload_n hx hb 1 d_RM_itemEnd_4 rfl rfl ?_
  obtain ⟨hc, hv⟩ := hv
  refine ig_iald (x := (tX k)) hx hb hK 1 1 rfl rfl k rfl hc (by decide) rfl d_RM_itemEnd_5 ?_
  refine ig_bipush (v := 92) hx hb d_RM_itemEnd_6 (by decide) ?_
  refine ig_icmp_ne (tgt := 17) hx hb d_RM_itemEnd_8 (by decide) (fun h => ?_) (fun h => ?_)
  · have hv := hv.1 h
    refine ig_iload_n hx hb 1 d_RM_itemEnd_17 rfl rfl ?_
    refine ig_iconst (v := 1) hx hb d_RM_itemEnd_18 (by decide) ?_
    refine ig_iaddN hx hb k 1 rfl rfl d_RM_itemEnd_19 ?_
    exact hret 20 _ (nI (k + 1)) () d_RM_itemEnd_20 ⟨k + 1, rfl, hv⟩
  · have hv := hv.2 h
    refine ig_iload_n hx hb 1 d_RM_itemEnd_11 rfl rfl ?_
    refine ig_iconst (v := 2) hx hb d_RM_itemEnd_12 (by decide) ?_
    refine ig_iaddN hx hb k 2 rfl rfl d_RM_itemEnd_13 ?_
    refine ig_goto (tgt := 20) hx hb d_RM_itemEnd_14 (by decide) ?_
    exact hret 20 _ (nI (k + 2)) () d_RM_itemEnd_20 ⟨k + 2, rfl, hv⟩
theorem d_RM_itemByte_0 : decode b_RM_itemByte 0 = .ok (.aload_n 0, 1) := by decide +kernel
theorem d_RM_itemByte_1 : decode b_RM_itemByte 1 = .ok (.getfield 13, 3) := by decide +kernel
theorem d_RM_itemByte_4 : decode b_RM_itemByte 4 = .ok (.iload_n 1, 1) := by decide +kernel
theorem d_RM_itemByte_5 : decode b_RM_itemByte 5 = .ok (.iaload, 1) := by decide +kernel
theorem d_RM_itemByte_6 : decode b_RM_itemByte 6 = .ok (.bipush 92, 2) := by decide +kernel
theorem d_RM_itemByte_8 : decode b_RM_itemByte 8 = .ok (.if_icmp .ne 14, 3) := by decide +kernel
theorem d_RM_itemByte_11 : decode b_RM_itemByte 11 = .ok (.aload_n 0, 1) := by decide +kernel
theorem d_RM_itemByte_12 : decode b_RM_itemByte 12 = .ok (.getfield 13, 3) := by decide +kernel
theorem d_RM_itemByte_15 : decode b_RM_itemByte 15 = .ok (.iload_n 1, 1) := by decide +kernel
theorem d_RM_itemByte_16 : decode b_RM_itemByte 16 = .ok (.iconst 1, 1) := by decide +kernel
theorem d_RM_itemByte_17 : decode b_RM_itemByte 17 = .ok (.iadd, 1) := by decide +kernel
theorem d_RM_itemByte_18 : decode b_RM_itemByte 18 = .ok (.iaload, 1) := by decide +kernel
theorem d_RM_itemByte_19 : decode b_RM_itemByte 19 = .ok (.goto 9, 3) := by decide +kernel
theorem d_RM_itemByte_22 : decode b_RM_itemByte 22 = .ok (.aload_n 0, 1) := by decide +kernel
theorem d_RM_itemByte_23 : decode b_RM_itemByte 23 = .ok (.getfield 13, 3) := by decide +kernel
theorem d_RM_itemByte_26 : decode b_RM_itemByte 26 = .ok (.iload_n 1, 1) := by decide +kernel
theorem d_RM_itemByte_27 : decode b_RM_itemByte 27 = .ok (.iaload, 1) := by decide +kernel
theorem d_RM_itemByte_28 : decode b_RM_itemByte 28 = .ok (.ireturn, 1) := by decide +kernel
abbrev w_RM_itemByte : List Cond := Cond.code y_RM_itemByte b_RM_itemByte 2 (some .int) :: ig_T
theorem g_RM_itemByte : GoodIn ig_T w_RM_itemByte := ig_T_good (ig_T_mem (List.mem_append_right _ (List.mem_append_right _ (List.mem_of_getElem? (i := 104) rfl))) rfl)
set_option maxHeartbeats 4000000 in
set_option maxRecDepth 100000 in
theorem c_RM_itemByte (l : Launch) (dC : Nat → ClassId) (dI : Nat → Nat → Nat) (cC cI cZ cL : ClassId) (o0 ra rx rf rt rb rl rp ru_ rv rr rs rg rh rz ry : Nat) (th : Int32) (si : Int32) (ru : Int32) (na : Int32) (nx : Int32) (so : Int32) (pa : Int32) (bz : Int32) (de : Int32) (dp : Int32) (io : Int32) (tX : Nat → Int32) (k : Nat) (sz : Nat) (hr : r_RM_itemByte tX k) : Met l y_RM_itemByte w_RM_itemByte ({ frames := 0, cells := 0, slots := 0, locals := 0 }) (ig_Pc (dC, dI) ig_cl0 [(cC, .char), (cI, .int), (cZ, .boolean), (cL, .long)] [.ref o0, .int (nI k)] [(o0, .inr (ciRM, [.int th, .ref ra, .int si, .ref rx, .ref rf, .ref rt, .ref rb, .ref rl, .int ru, .ref rp, .ref ru_, .ref rv, .int na, .int nx, .int so, .ref rr, .ref rs, .ref rg, .ref rh, .int pa, .ref rz, .ref ry, .int bz, .int de, .int dp, .int io])), (rx, .inl (cI, 1000, .inl tX))] sz) (va_Qi (fun (r : Int32) (u : Unit) => p_RM_itemByte tX k r ) (fun u t => va_P (dC, dI) ig_cl0 ((fun (u : Unit) => [(o0, .inr (ciRM, [.int th, .ref ra, .int si, .ref rx, .ref rf, .ref rt, .ref rb, .ref rl, .int ru, .ref rp, .ref ru_, .ref rv, .int na, .int nx, .int so, .ref rr, .ref rs, .ref rg, .ref rh, .int pa, .ref rz, .ref ry, .int bz, .int de, .int dp, .int io])), (rx, .inl (cI, 1000, .inl tX))]) u) t.heap ∧ va_D (va_A [(o0, .inr (ciRM, [.int th, .ref ra, .int si, .ref rx, .ref rf, .ref rt, .ref rb, .ref rl, .int ru, .ref rp, .ref ru_, .ref rv, .int na, .int nx, .int so, .ref rr, .ref rs, .ref rg, .ref rh, .int pa, .ref rz, .ref ry, .int bz, .int de, .int dp, .int io])), (rx, .inl (cI, 1000, .inl tX))] sz) ((fun (u : Unit) => [(o0, .inr (ciRM, [.int th, .ref ra, .int si, .ref rx, .ref rf, .ref rt, .ref rb, .ref rl, .int ru, .ref rp, .ref ru_, .ref rv, .int na, .int nx, .int so, .ref rr, .ref rs, .ref rg, .ref rh, .int pa, .ref rz, .ref ry, .int bz, .int de, .int dp, .int io])), (rx, .inl (cI, 1000, .inl tX))]) u)) (va_A [(o0, .inr (ciRM, [.int th, .ref ra, .int si, .ref rx, .ref rf, .ref rt, .ref rb, .ref rl, .int ru, .ref rp, .ref ru_, .ref rv, .int na, .int nx, .int so, .ref rr, .ref rs, .ref rg, .ref rh, .int pa, .ref rz, .ref ry, .int bz, .int de, .int dp, .int io])), (rx, .inl (cI, 1000, .inl tX))] sz)) 0 0 (va_A [(o0, .inr (ciRM, [.int th, .ref ra, .int si, .ref rx, .ref rf, .ref rt, .ref rb, .ref rl, .int ru, .ref rp, .ref ru_, .ref rv, .int na, .int nx, .int so, .ref rr, .ref rs, .ref rg, .ref rh, .int pa, .ref rz, .ref ry, .int bz, .int de, .int dp, .int io])), (rx, .inl (cI, 1000, .inl tX))] sz) := by
  refine ig_metI (fun (r : Int32) (u : Unit) => p_RM_itemByte tX k r ) (fun (u : Unit) => [(o0, .inr (ciRM, [.int th, .ref ra, .int si, .ref rx, .ref rf, .ref rt, .ref rb, .ref rl, .int ru, .ref rp, .ref ru_, .ref rv, .int na, .int nx, .int so, .ref rr, .ref rs, .ref rg, .ref rh, .int pa, .ref rz, .ref ry, .int bz, .int de, .int dp, .int io])), (rx, .inl (cI, 1000, .inl tX))]) (by decide) rfl (Nat.le_of_ble_eq_true rfl) rfl (fun _ _ _ => rfl) ?_
  intro zp ze zs zm zargs zbelow zmeth zc zA zQ hx hb hml hown hts hK hN hA hret
  have hv := t_RM_itemByte tX k hr 
  unfold v_RM_itemByte at hv
  refine ig_aload_n hx hb 0 d_RM_itemByte_0 rfl rfl ?_
  refine ig_get hx hb hts in_RM hown hK 0 rfl rfl 3 (by decide) (hts _ kw_1_148) (fun _ h => h) rfl d_RM_itemByte_1 ?_
  refine ig_iload_n hx hb 1 d_RM_itemByte_4 rfl rfl ?_
  obtain ⟨hc, hv⟩ := hv
  refine ig_iald (x := (tX k)) hx hb hK 1 1 rfl rfl k rfl hc (by decide) rfl d_RM_itemByte_5 ?_
  refine ig_bipush (v := 92) hx hb d_RM_itemByte_6 (by decide) ?_
  refine ig_icmp_ne (tgt := 22) hx hb d_RM_itemByte_8 (by decide) (fun h => ?_) (fun h => ?_)
  · have hv := hv.1 h
    refine ig_aload_n hx hb 0 d_RM_itemByte_22 rfl rfl ?_
    refine ig_get hx hb hts in_RM hown hK 0 rfl rfl 3 (by decide) (hts _ kw_1_148) (fun _ h => h) rfl d_RM_itemByte_23 ?_
    refine ig_iload_n hx hb 1 d_RM_itemByte_26 rfl rfl ?_
    obtain ⟨hc, hv⟩ := hv
    refine ig_iald (x := (tX k)) hx hb hK 1 1 rfl rfl k rfl hc (by decide) rfl d_RM_itemByte_27 ?_
    exact hret 28 _ (tX k) () d_RM_itemByte_28 hv
  · have hv := hv.2 h
    refine ig_aload_n hx hb 0 d_RM_itemByte_11 rfl rfl ?_
    refine ig_get hx hb hts in_RM hown hK 0 rfl rfl 3 (by decide) (hts _ kw_1_148) (fun _ h => h) rfl d_RM_itemByte_12 ?_
    refine ig_iload_n hx hb 1 d_RM_itemByte_15 rfl rfl ?_
    refine ig_iconst (v := 1) hx hb d_RM_itemByte_16 (by decide) ?_
    refine ig_iaddN hx hb k 1 rfl rfl d_RM_itemByte_17 ?_
    obtain ⟨hc, hv⟩ := hv
    refine ig_iald (x := (tX (k + 1))) hx hb hK 1 1 rfl rfl (k + 1) rfl hc (by decide) rfl d_RM_itemByte_18 ?_
    refine ig_goto (tgt := 28) hx hb d_RM_itemByte_19 (by decide) ?_
    exact hret 28 _ (tX (k + 1)) () d_RM_itemByte_28 hv
theorem d_RM_itemsFrom_0 : decode b_RM_itemsFrom 0 = .ok (.iload_n 1, 1) := by decide +kernel
theorem d_RM_itemsFrom_1 : decode b_RM_itemsFrom 1 = .ok (.iconst 1, 1) := by decide +kernel
theorem d_RM_itemsFrom_2 : decode b_RM_itemsFrom 2 = .ok (.iadd, 1) := by decide +kernel
theorem d_RM_itemsFrom_3 : decode b_RM_itemsFrom 3 = .ok (.iload_n 2, 1) := by decide +kernel
theorem d_RM_itemsFrom_4 : decode b_RM_itemsFrom 4 = .ok (.if_icmp .ge 35, 3) := by decide +kernel
theorem d_RM_itemsFrom_7 : decode b_RM_itemsFrom 7 = .ok (.aload_n 0, 1) := by decide +kernel
theorem d_RM_itemsFrom_8 : decode b_RM_itemsFrom 8 = .ok (.getfield 13, 3) := by decide +kernel
theorem d_RM_itemsFrom_11 : decode b_RM_itemsFrom 11 = .ok (.iload_n 1, 1) := by decide +kernel
theorem d_RM_itemsFrom_12 : decode b_RM_itemsFrom 12 = .ok (.iconst 1, 1) := by decide +kernel
theorem d_RM_itemsFrom_13 : decode b_RM_itemsFrom 13 = .ok (.iadd, 1) := by decide +kernel
theorem d_RM_itemsFrom_14 : decode b_RM_itemsFrom 14 = .ok (.iaload, 1) := by decide +kernel
theorem d_RM_itemsFrom_15 : decode b_RM_itemsFrom 15 = .ok (.bipush 33, 2) := by decide +kernel
theorem d_RM_itemsFrom_17 : decode b_RM_itemsFrom 17 = .ok (.if_icmp .eq 16, 3) := by decide +kernel
theorem d_RM_itemsFrom_20 : decode b_RM_itemsFrom 20 = .ok (.aload_n 0, 1) := by decide +kernel
theorem d_RM_itemsFrom_21 : decode b_RM_itemsFrom 21 = .ok (.getfield 13, 3) := by decide +kernel
theorem d_RM_itemsFrom_24 : decode b_RM_itemsFrom 24 = .ok (.iload_n 1, 1) := by decide +kernel
theorem d_RM_itemsFrom_25 : decode b_RM_itemsFrom 25 = .ok (.iconst 1, 1) := by decide +kernel
theorem d_RM_itemsFrom_26 : decode b_RM_itemsFrom 26 = .ok (.iadd, 1) := by decide +kernel
theorem d_RM_itemsFrom_27 : decode b_RM_itemsFrom 27 = .ok (.iaload, 1) := by decide +kernel
theorem d_RM_itemsFrom_28 : decode b_RM_itemsFrom 28 = .ok (.bipush 94, 2) := by decide +kernel
theorem d_RM_itemsFrom_30 : decode b_RM_itemsFrom 30 = .ok (.if_icmp .ne 9, 3) := by decide +kernel
theorem d_RM_itemsFrom_33 : decode b_RM_itemsFrom 33 = .ok (.iload_n 1, 1) := by decide +kernel
theorem d_RM_itemsFrom_34 : decode b_RM_itemsFrom 34 = .ok (.iconst 2, 1) := by decide +kernel
theorem d_RM_itemsFrom_35 : decode b_RM_itemsFrom 35 = .ok (.iadd, 1) := by decide +kernel
theorem d_RM_itemsFrom_36 : decode b_RM_itemsFrom 36 = .ok (.goto 6, 3) := by decide +kernel
theorem d_RM_itemsFrom_39 : decode b_RM_itemsFrom 39 = .ok (.iload_n 1, 1) := by decide +kernel
theorem d_RM_itemsFrom_40 : decode b_RM_itemsFrom 40 = .ok (.iconst 1, 1) := by decide +kernel
theorem d_RM_itemsFrom_41 : decode b_RM_itemsFrom 41 = .ok (.iadd, 1) := by decide +kernel
theorem d_RM_itemsFrom_42 : decode b_RM_itemsFrom 42 = .ok (.ireturn, 1) := by decide +kernel
abbrev w_RM_itemsFrom : List Cond := Cond.code y_RM_itemsFrom b_RM_itemsFrom 3 (some .int) :: ig_T
theorem g_RM_itemsFrom : GoodIn ig_T w_RM_itemsFrom := ig_T_good (ig_T_mem (List.mem_append_right _ (List.mem_append_right _ (List.mem_of_getElem? (i := 44) rfl))) rfl)
set_option maxHeartbeats 4000000 in
set_option maxRecDepth 100000 in
theorem c_RM_itemsFrom (l : Launch) (dC : Nat → ClassId) (dI : Nat → Nat → Nat) (cC cI cZ cL : ClassId) (o0 ra rx rf rt rb rl rp ru_ rv rr rs rg rh rz ry : Nat) (th : Int32) (si : Int32) (ru : Int32) (na : Int32) (nx : Int32) (so : Int32) (pa : Int32) (bz : Int32) (de : Int32) (dp : Int32) (io : Int32) (tX : Nat → Int32) (k : Nat) (a : Nat) (sz : Nat) (hr : r_RM_itemsFrom tX k a) : Met l y_RM_itemsFrom w_RM_itemsFrom ({ frames := 0, cells := 0, slots := 0, locals := 0 }) (ig_Pc (dC, dI) ig_cl0 [(cC, .char), (cI, .int), (cZ, .boolean), (cL, .long)] [.ref o0, .int (nI k), .int (nI a)] [(o0, .inr (ciRM, [.int th, .ref ra, .int si, .ref rx, .ref rf, .ref rt, .ref rb, .ref rl, .int ru, .ref rp, .ref ru_, .ref rv, .int na, .int nx, .int so, .ref rr, .ref rs, .ref rg, .ref rh, .int pa, .ref rz, .ref ry, .int bz, .int de, .int dp, .int io])), (rx, .inl (cI, 1000, .inl tX))] sz) (va_Qi (fun (r : Int32) (u : Unit) => ∃ zr : Nat, r = nI zr ∧ p_RM_itemsFrom tX k a zr ) (fun u t => va_P (dC, dI) ig_cl0 ((fun (u : Unit) => [(o0, .inr (ciRM, [.int th, .ref ra, .int si, .ref rx, .ref rf, .ref rt, .ref rb, .ref rl, .int ru, .ref rp, .ref ru_, .ref rv, .int na, .int nx, .int so, .ref rr, .ref rs, .ref rg, .ref rh, .int pa, .ref rz, .ref ry, .int bz, .int de, .int dp, .int io])), (rx, .inl (cI, 1000, .inl tX))]) u) t.heap ∧ va_D (va_A [(o0, .inr (ciRM, [.int th, .ref ra, .int si, .ref rx, .ref rf, .ref rt, .ref rb, .ref rl, .int ru, .ref rp, .ref ru_, .ref rv, .int na, .int nx, .int so, .ref rr, .ref rs, .ref rg, .ref rh, .int pa, .ref rz, .ref ry, .int bz, .int de, .int dp, .int io])), (rx, .inl (cI, 1000, .inl tX))] sz) ((fun (u : Unit) => [(o0, .inr (ciRM, [.int th, .ref ra, .int si, .ref rx, .ref rf, .ref rt, .ref rb, .ref rl, .int ru, .ref rp, .ref ru_, .ref rv, .int na, .int nx, .int so, .ref rr, .ref rs, .ref rg, .ref rh, .int pa, .ref rz, .ref ry, .int bz, .int de, .int dp, .int io])), (rx, .inl (cI, 1000, .inl tX))]) u)) (va_A [(o0, .inr (ciRM, [.int th, .ref ra, .int si, .ref rx, .ref rf, .ref rt, .ref rb, .ref rl, .int ru, .ref rp, .ref ru_, .ref rv, .int na, .int nx, .int so, .ref rr, .ref rs, .ref rg, .ref rh, .int pa, .ref rz, .ref ry, .int bz, .int de, .int dp, .int io])), (rx, .inl (cI, 1000, .inl tX))] sz)) 0 0 (va_A [(o0, .inr (ciRM, [.int th, .ref ra, .int si, .ref rx, .ref rf, .ref rt, .ref rb, .ref rl, .int ru, .ref rp, .ref ru_, .ref rv, .int na, .int nx, .int so, .ref rr, .ref rs, .ref rg, .ref rh, .int pa, .ref rz, .ref ry, .int bz, .int de, .int dp, .int io])), (rx, .inl (cI, 1000, .inl tX))] sz) := by
  refine ig_metI (fun (r : Int32) (u : Unit) => ∃ zr : Nat, r = nI zr ∧ p_RM_itemsFrom tX k a zr ) (fun (u : Unit) => [(o0, .inr (ciRM, [.int th, .ref ra, .int si, .ref rx, .ref rf, .ref rt, .ref rb, .ref rl, .int ru, .ref rp, .ref ru_, .ref rv, .int na, .int nx, .int so, .ref rr, .ref rs, .ref rg, .ref rh, .int pa, .ref rz, .ref ry, .int bz, .int de, .int dp, .int io])), (rx, .inl (cI, 1000, .inl tX))]) (by decide) rfl (Nat.le_of_ble_eq_true rfl) rfl (fun _ _ _ => rfl) ?_
  intro zp ze zs zm zargs zbelow zmeth zc zA zQ hx hb hml hown hts hK hN hA hret
  have hv := t_RM_itemsFrom tX k a hr 
  unfold v_RM_itemsFrom at hv
  refine ig_iload_n hx hb 1 d_RM_itemsFrom_0 rfl rfl ?_
  refine ig_iconst (v := 1) hx hb d_RM_itemsFrom_1 (by decide) ?_
  refine ig_iaddN hx hb k 1 rfl rfl d_RM_itemsFrom_2 ?_
  refine ig_iload_n hx hb 2 d_RM_itemsFrom_3 rfl rfl ?_
  obtain ⟨h1, hv⟩ := hv
  obtain ⟨h2, hv⟩ := hv
  refine ig_icmp_geN (tgt := 39) hx hb (k + 1) a rfl rfl d_RM_itemsFrom_4 (by decide) h1 h2 (fun h => ?_) (fun h => ?_)
  · have hv := hv.1 h
    refine ig_iload_n hx hb 1 d_RM_itemsFrom_39 rfl rfl ?_
    refine ig_iconst (v := 1) hx hb d_RM_itemsFrom_40 (by decide) ?_
    refine ig_iaddN hx hb k 1 rfl rfl d_RM_itemsFrom_41 ?_
    exact hret 42 _ (nI (k + 1)) () d_RM_itemsFrom_42 ⟨k + 1, rfl, hv⟩
  · have hv := hv.2 h
    refine ig_aload_n hx hb 0 d_RM_itemsFrom_7 rfl rfl ?_
    refine ig_get hx hb hts in_RM hown hK 0 rfl rfl 3 (by decide) (hts _ kw_1_148) (fun _ h => h) rfl d_RM_itemsFrom_8 ?_
    refine ig_iload_n hx hb 1 d_RM_itemsFrom_11 rfl rfl ?_
    refine ig_iconst (v := 1) hx hb d_RM_itemsFrom_12 (by decide) ?_
    refine ig_iaddN hx hb k 1 rfl rfl d_RM_itemsFrom_13 ?_
    obtain ⟨hc, hv⟩ := hv
    refine ig_iald (x := (tX (k + 1))) hx hb hK 1 1 rfl rfl (k + 1) rfl hc (by decide) rfl d_RM_itemsFrom_14 ?_
    refine ig_bipush (v := 33) hx hb d_RM_itemsFrom_15 (by decide) ?_
    refine ig_icmp_eq (tgt := 33) hx hb d_RM_itemsFrom_17 (by decide) (fun h => ?_) (fun h => ?_)
    · have hv := hv.1 h
      refine ig_iload_n hx hb 1 d_RM_itemsFrom_33 rfl rfl ?_
      refine ig_iconst (v := 2) hx hb d_RM_itemsFrom_34 (by decide) ?_
      refine ig_iaddN hx hb k 2 rfl rfl d_RM_itemsFrom_35 ?_
      refine ig_goto (tgt := 42) hx hb d_RM_itemsFrom_36 (by decide) ?_
      exact hret 42 _ (nI (k + 2)) () d_RM_itemsFrom_42 ⟨k + 2, rfl, hv⟩
    · have hv := hv.2 h
      refine ig_aload_n hx hb 0 d_RM_itemsFrom_20 rfl rfl ?_
      refine ig_get hx hb hts in_RM hown hK 0 rfl rfl 3 (by decide) (hts _ kw_1_148) (fun _ h => h) rfl d_RM_itemsFrom_21 ?_
      refine ig_iload_n hx hb 1 d_RM_itemsFrom_24 rfl rfl ?_
      refine ig_iconst (v := 1) hx hb d_RM_itemsFrom_25 (by decide) ?_
      refine ig_iaddN hx hb k 1 rfl rfl d_RM_itemsFrom_26 ?_
      obtain ⟨hc, hv⟩ := hv
      refine ig_iald (x := (tX (k + 1))) hx hb hK 1 1 rfl rfl (k + 1) rfl hc (by decide) rfl d_RM_itemsFrom_27 ?_
      refine ig_bipush (v := 94) hx hb d_RM_itemsFrom_28 (by decide) ?_
      refine ig_icmp_ne (tgt := 39) hx hb d_RM_itemsFrom_30 (by decide) (fun h => ?_) (fun h => ?_)
      · have hv := hv.1 h
        refine ig_iload_n hx hb 1 d_RM_itemsFrom_39 rfl rfl ?_
        refine ig_iconst (v := 1) hx hb d_RM_itemsFrom_40 (by decide) ?_
        refine ig_iaddN hx hb k 1 rfl rfl d_RM_itemsFrom_41 ?_
        exact hret 42 _ (nI (k + 1)) () d_RM_itemsFrom_42 ⟨k + 1, rfl, hv⟩
      · have hv := hv.2 h
        refine ig_iload_n hx hb 1 d_RM_itemsFrom_33 rfl rfl ?_
        refine ig_iconst (v := 2) hx hb d_RM_itemsFrom_34 (by decide) ?_
        refine ig_iaddN hx hb k 2 rfl rfl d_RM_itemsFrom_35 ?_
        refine ig_goto (tgt := 42) hx hb d_RM_itemsFrom_36 (by decide) ?_
        exact hret 42 _ (nI (k + 2)) () d_RM_itemsFrom_42 ⟨k + 2, rfl, hv⟩
theorem d_RM_isRow_0 : decode b_RM_isRow 0 = .ok (.iload_n 1, 1) := by decide +kernel
theorem d_RM_isRow_1 : decode b_RM_isRow 1 = .ok (.iconst 1, 1) := by decide +kernel
theorem d_RM_isRow_2 : decode b_RM_isRow 2 = .ok (.iadd, 1) := by decide +kernel
theorem d_RM_isRow_3 : decode b_RM_isRow 3 = .ok (.iload_n 2, 1) := by decide +kernel
theorem d_RM_isRow_4 : decode b_RM_isRow 4 = .ok (.if_icmp .ge 31, 3) := by decide +kernel
theorem d_RM_isRow_7 : decode b_RM_isRow 7 = .ok (.aload_n 0, 1) := by decide +kernel
theorem d_RM_isRow_8 : decode b_RM_isRow 8 = .ok (.getfield 13, 3) := by decide +kernel
theorem d_RM_isRow_11 : decode b_RM_isRow 11 = .ok (.iload_n 1, 1) := by decide +kernel
theorem d_RM_isRow_12 : decode b_RM_isRow 12 = .ok (.iaload, 1) := by decide +kernel
theorem d_RM_isRow_13 : decode b_RM_isRow 13 = .ok (.bipush 45, 2) := by decide +kernel
theorem d_RM_isRow_15 : decode b_RM_isRow 15 = .ok (.if_icmp .ne 20, 3) := by decide +kernel
theorem d_RM_isRow_18 : decode b_RM_isRow 18 = .ok (.aload_n 0, 1) := by decide +kernel
theorem d_RM_isRow_19 : decode b_RM_isRow 19 = .ok (.getfield 13, 3) := by decide +kernel
theorem d_RM_isRow_22 : decode b_RM_isRow 22 = .ok (.iload_n 1, 1) := by decide +kernel
theorem d_RM_isRow_23 : decode b_RM_isRow 23 = .ok (.iconst 1, 1) := by decide +kernel
theorem d_RM_isRow_24 : decode b_RM_isRow 24 = .ok (.iadd, 1) := by decide +kernel
theorem d_RM_isRow_25 : decode b_RM_isRow 25 = .ok (.iaload, 1) := by decide +kernel
theorem d_RM_isRow_26 : decode b_RM_isRow 26 = .ok (.bipush 93, 2) := by decide +kernel
theorem d_RM_isRow_28 : decode b_RM_isRow 28 = .ok (.if_icmp .eq 7, 3) := by decide +kernel
theorem d_RM_isRow_31 : decode b_RM_isRow 31 = .ok (.iconst 1, 1) := by decide +kernel
theorem d_RM_isRow_32 : decode b_RM_isRow 32 = .ok (.goto 4, 3) := by decide +kernel
theorem d_RM_isRow_35 : decode b_RM_isRow 35 = .ok (.iconst 0, 1) := by decide +kernel
theorem d_RM_isRow_36 : decode b_RM_isRow 36 = .ok (.ireturn, 1) := by decide +kernel
abbrev w_RM_isRow : List Cond := Cond.code y_RM_isRow b_RM_isRow 3 (some .boolean) :: ig_T
theorem g_RM_isRow : GoodIn ig_T w_RM_isRow := ig_T_good (ig_T_mem (List.mem_append_right _ (List.mem_append_right _ (List.mem_of_getElem? (i := 52) rfl))) rfl)
set_option maxHeartbeats 4000000 in
set_option maxRecDepth 100000 in
theorem c_RM_isRow (l : Launch) (dC : Nat → ClassId) (dI : Nat → Nat → Nat) (cC cI cZ cL : ClassId) (o0 ra rx rf rt rb rl rp ru_ rv rr rs rg rh rz ry : Nat) (th : Int32) (si : Int32) (ru : Int32) (na : Int32) (nx : Int32) (so : Int32) (pa : Int32) (bz : Int32) (de : Int32) (dp : Int32) (io : Int32) (tX : Nat → Int32) (k : Nat) (a : Nat) (sz : Nat) (hr : r_RM_isRow tX k a) : Met l y_RM_isRow w_RM_isRow ({ frames := 0, cells := 0, slots := 0, locals := 0 }) (ig_Pc (dC, dI) ig_cl0 [(cC, .char), (cI, .int), (cZ, .boolean), (cL, .long)] [.ref o0, .int (nI k), .int (nI a)] [(o0, .inr (ciRM, [.int th, .ref ra, .int si, .ref rx, .ref rf, .ref rt, .ref rb, .ref rl, .int ru, .ref rp, .ref ru_, .ref rv, .int na, .int nx, .int so, .ref rr, .ref rs, .ref rg, .ref rh, .int pa, .ref rz, .ref ry, .int bz, .int de, .int dp, .int io])), (rx, .inl (cI, 1000, .inl tX))] sz) (va_Qi (fun (r : Int32) (u : Unit) => ∃ zr : Bool, r = bI zr ∧ p_RM_isRow tX k a zr ) (fun u t => va_P (dC, dI) ig_cl0 ((fun (u : Unit) => [(o0, .inr (ciRM, [.int th, .ref ra, .int si, .ref rx, .ref rf, .ref rt, .ref rb, .ref rl, .int ru, .ref rp, .ref ru_, .ref rv, .int na, .int nx, .int so, .ref rr, .ref rs, .ref rg, .ref rh, .int pa, .ref rz, .ref ry, .int bz, .int de, .int dp, .int io])), (rx, .inl (cI, 1000, .inl tX))]) u) t.heap ∧ va_D (va_A [(o0, .inr (ciRM, [.int th, .ref ra, .int si, .ref rx, .ref rf, .ref rt, .ref rb, .ref rl, .int ru, .ref rp, .ref ru_, .ref rv, .int na, .int nx, .int so, .ref rr, .ref rs, .ref rg, .ref rh, .int pa, .ref rz, .ref ry, .int bz, .int de, .int dp, .int io])), (rx, .inl (cI, 1000, .inl tX))] sz) ((fun (u : Unit) => [(o0, .inr (ciRM, [.int th, .ref ra, .int si, .ref rx, .ref rf, .ref rt, .ref rb, .ref rl, .int ru, .ref rp, .ref ru_, .ref rv, .int na, .int nx, .int so, .ref rr, .ref rs, .ref rg, .ref rh, .int pa, .ref rz, .ref ry, .int bz, .int de, .int dp, .int io])), (rx, .inl (cI, 1000, .inl tX))]) u)) (va_A [(o0, .inr (ciRM, [.int th, .ref ra, .int si, .ref rx, .ref rf, .ref rt, .ref rb, .ref rl, .int ru, .ref rp, .ref ru_, .ref rv, .int na, .int nx, .int so, .ref rr, .ref rs, .ref rg, .ref rh, .int pa, .ref rz, .ref ry, .int bz, .int de, .int dp, .int io])), (rx, .inl (cI, 1000, .inl tX))] sz)) 0 0 (va_A [(o0, .inr (ciRM, [.int th, .ref ra, .int si, .ref rx, .ref rf, .ref rt, .ref rb, .ref rl, .int ru, .ref rp, .ref ru_, .ref rv, .int na, .int nx, .int so, .ref rr, .ref rs, .ref rg, .ref rh, .int pa, .ref rz, .ref ry, .int bz, .int de, .int dp, .int io])), (rx, .inl (cI, 1000, .inl tX))] sz) := by
  refine ig_metI (fun (r : Int32) (u : Unit) => ∃ zr : Bool, r = bI zr ∧ p_RM_isRow tX k a zr ) (fun (u : Unit) => [(o0, .inr (ciRM, [.int th, .ref ra, .int si, .ref rx, .ref rf, .ref rt, .ref rb, .ref rl, .int ru, .ref rp, .ref ru_, .ref rv, .int na, .int nx, .int so, .ref rr, .ref rs, .ref rg, .ref rh, .int pa, .ref rz, .ref ry, .int bz, .int de, .int dp, .int io])), (rx, .inl (cI, 1000, .inl tX))]) (by decide) rfl (Nat.le_of_ble_eq_true rfl) rfl (by rintro r u ⟨b, rfl, -⟩; exact bI_ret b) ?_
  intro zp ze zs zm zargs zbelow zmeth zc zA zQ hx hb hml hown hts hK hN hA hret
  have hv := t_RM_isRow tX k a hr 
  unfold v_RM_isRow at hv
  refine ig_iload_n hx hb 1 d_RM_isRow_0 rfl rfl ?_
  refine ig_iconst (v := 1) hx hb d_RM_isRow_1 (by decide) ?_
  refine ig_iaddN hx hb k 1 rfl rfl d_RM_isRow_2 ?_
  refine ig_iload_n hx hb 2 d_RM_isRow_3 rfl rfl ?_
  obtain ⟨h1, hv⟩ := hv
  obtain ⟨h2, hv⟩ := hv
  refine ig_icmp_geN (tgt := 35) hx hb (k + 1) a rfl rfl d_RM_isRow_4 (by decide) h1 h2 (fun h => ?_) (fun h => ?_)
  · have hv := hv.1 h
    refine ig_iconst (v := 0) hx hb d_RM_isRow_35 (by decide) ?_
    exact hret 36 _ 0 () d_RM_isRow_36 ⟨false, rfl, hv⟩
  · have hv := hv.2 h
    refine ig_aload_n hx hb 0 d_RM_isRow_7 rfl rfl ?_
    refine ig_get hx hb hts in_RM hown hK 0 rfl rfl 3 (by decide) (hts _ kw_1_148) (fun _ h => h) rfl d_RM_isRow_8 ?_
    refine ig_iload_n hx hb 1 d_RM_isRow_11 rfl rfl ?_
    obtain ⟨hc, hv⟩ := hv
    refine ig_iald (x := (tX k)) hx hb hK 1 1 rfl rfl k rfl hc (by decide) rfl d_RM_isRow_12 ?_
    refine ig_bipush (v := 45) hx hb d_RM_isRow_13 (by decide) ?_
    refine ig_icmp_ne (tgt := 35) hx hb d_RM_isRow_15 (by decide) (fun h => ?_) (fun h => ?_)
    · have hv := hv.1 h
      refine ig_iconst (v := 0) hx hb d_RM_isRow_35 (by decide) ?_
      exact hret 36 _ 0 () d_RM_isRow_36 ⟨false, rfl, hv⟩
    · have hv := hv.2 h
      refine ig_aload_n hx hb 0 d_RM_isRow_18 rfl rfl ?_
      refine ig_get hx hb hts in_RM hown hK 0 rfl rfl 3 (by decide) (hts _ kw_1_148) (fun _ h => h) rfl d_RM_isRow_19 ?_
      refine ig_iload_n hx hb 1 d_RM_isRow_22 rfl rfl ?_
      refine ig_iconst (v := 1) hx hb d_RM_isRow_23 (by decide) ?_
      refine ig_iaddN hx hb k 1 rfl rfl d_RM_isRow_24 ?_
      obtain ⟨hc, hv⟩ := hv
      refine ig_iald (x := (tX (k + 1))) hx hb hK 1 1 rfl rfl (k + 1) rfl hc (by decide) rfl d_RM_isRow_25 ?_
      refine ig_bipush (v := 93) hx hb d_RM_isRow_26 (by decide) ?_
      refine ig_icmp_eq (tgt := 35) hx hb d_RM_isRow_28 (by decide) (fun h => ?_) (fun h => ?_)
      · have hv := hv.1 h
        refine ig_iconst (v := 0) hx hb d_RM_isRow_35 (by decide) ?_
        exact hret 36 _ 0 () d_RM_isRow_36 ⟨false, rfl, hv⟩
      · have hv := hv.2 h
        refine ig_iconst (v := 1) hx hb d_RM_isRow_31 (by decide) ?_
        refine ig_goto (tgt := 36) hx hb d_RM_isRow_32 (by decide) ?_
        exact hret 36 _ 1 () d_RM_isRow_36 ⟨true, rfl, hv⟩
theorem d_RM_setEnd_0 : decode b_RM_setEnd 0 = .ok (.aload_n 0, 1) := by decide +kernel
theorem d_RM_setEnd_1 : decode b_RM_setEnd 1 = .ok (.iload_n 1, 1) := by decide +kernel
theorem d_RM_setEnd_2 : decode b_RM_setEnd 2 = .ok (.iload_n 2, 1) := by decide +kernel
theorem d_RM_setEnd_3 : decode b_RM_setEnd 3 = .ok (.invokevirtual 75, 3) := by decide +kernel
theorem d_RM_setEnd_6 : decode b_RM_setEnd 6 = .ok (.istore_n 3, 1) := by decide +kernel
theorem d_RM_setEnd_7 : decode b_RM_setEnd 7 = .ok (.iconst 1, 1) := by decide +kernel
theorem d_RM_setEnd_8 : decode b_RM_setEnd 8 = .ok (.istore 4, 2) := by decide +kernel
theorem d_RM_setEnd_10 : decode b_RM_setEnd 10 = .ok (.iload_n 3, 1) := by decide +kernel
theorem d_RM_setEnd_11 : decode b_RM_setEnd 11 = .ok (.iload_n 2, 1) := by decide +kernel
theorem d_RM_setEnd_12 : decode b_RM_setEnd 12 = .ok (.if_icmp .ge 48, 3) := by decide +kernel
theorem d_RM_setEnd_15 : decode b_RM_setEnd 15 = .ok (.iload 4, 2) := by decide +kernel
theorem d_RM_setEnd_17 : decode b_RM_setEnd 17 = .ok (.ifCond .ne 14, 3) := by decide +kernel
theorem d_RM_setEnd_20 : decode b_RM_setEnd 20 = .ok (.aload_n 0, 1) := by decide +kernel
theorem d_RM_setEnd_21 : decode b_RM_setEnd 21 = .ok (.getfield 13, 3) := by decide +kernel
theorem d_RM_setEnd_24 : decode b_RM_setEnd 24 = .ok (.iload_n 3, 1) := by decide +kernel
theorem d_RM_setEnd_25 : decode b_RM_setEnd 25 = .ok (.iaload, 1) := by decide +kernel
theorem d_RM_setEnd_26 : decode b_RM_setEnd 26 = .ok (.bipush 93, 2) := by decide +kernel
theorem d_RM_setEnd_28 : decode b_RM_setEnd 28 = .ok (.if_icmp .eq 32, 3) := by decide +kernel
theorem d_RM_setEnd_31 : decode b_RM_setEnd 31 = .ok (.aload_n 0, 1) := by decide +kernel
theorem d_RM_setEnd_32 : decode b_RM_setEnd 32 = .ok (.iload_n 3, 1) := by decide +kernel
theorem d_RM_setEnd_33 : decode b_RM_setEnd 33 = .ok (.invokevirtual 78, 3) := by decide +kernel
theorem d_RM_setEnd_36 : decode b_RM_setEnd 36 = .ok (.istore_n 3, 1) := by decide +kernel
theorem d_RM_setEnd_37 : decode b_RM_setEnd 37 = .ok (.iconst 0, 1) := by decide +kernel
theorem d_RM_setEnd_38 : decode b_RM_setEnd 38 = .ok (.istore 4, 2) := by decide +kernel
theorem d_RM_setEnd_40 : decode b_RM_setEnd 40 = .ok (.aload_n 0, 1) := by decide +kernel
theorem d_RM_setEnd_41 : decode b_RM_setEnd 41 = .ok (.iload_n 3, 1) := by decide +kernel
theorem d_RM_setEnd_42 : decode b_RM_setEnd 42 = .ok (.iload_n 2, 1) := by decide +kernel
theorem d_RM_setEnd_43 : decode b_RM_setEnd 43 = .ok (.invokevirtual 82, 3) := by decide +kernel
theorem d_RM_setEnd_46 : decode b_RM_setEnd 46 = .ok (.ifCond .eq (-36), 3) := by decide +kernel
theorem d_RM_setEnd_49 : decode b_RM_setEnd 49 = .ok (.aload_n 0, 1) := by decide +kernel
theorem d_RM_setEnd_50 : decode b_RM_setEnd 50 = .ok (.iload_n 3, 1) := by decide +kernel
theorem d_RM_setEnd_51 : decode b_RM_setEnd 51 = .ok (.iconst 1, 1) := by decide +kernel
theorem d_RM_setEnd_52 : decode b_RM_setEnd 52 = .ok (.iadd, 1) := by decide +kernel
theorem d_RM_setEnd_53 : decode b_RM_setEnd 53 = .ok (.invokevirtual 78, 3) := by decide +kernel
theorem d_RM_setEnd_56 : decode b_RM_setEnd 56 = .ok (.istore_n 3, 1) := by decide +kernel
theorem d_RM_setEnd_57 : decode b_RM_setEnd 57 = .ok (.goto (-47), 3) := by decide +kernel
theorem d_RM_setEnd_60 : decode b_RM_setEnd 60 = .ok (.iload_n 3, 1) := by decide +kernel
theorem d_RM_setEnd_61 : decode b_RM_setEnd 61 = .ok (.iload_n 2, 1) := by decide +kernel
theorem d_RM_setEnd_62 : decode b_RM_setEnd 62 = .ok (.if_icmp .ge 9, 3) := by decide +kernel
theorem d_RM_setEnd_65 : decode b_RM_setEnd 65 = .ok (.iload_n 3, 1) := by decide +kernel
theorem d_RM_setEnd_66 : decode b_RM_setEnd 66 = .ok (.iconst 1, 1) := by decide +kernel
theorem d_RM_setEnd_67 : decode b_RM_setEnd 67 = .ok (.iadd, 1) := by decide +kernel
theorem d_RM_setEnd_68 : decode b_RM_setEnd 68 = .ok (.goto 6, 3) := by decide +kernel
theorem d_RM_setEnd_71 : decode b_RM_setEnd 71 = .ok (.iload_n 2, 1) := by decide +kernel
theorem d_RM_setEnd_72 : decode b_RM_setEnd 72 = .ok (.iconst 1, 1) := by decide +kernel
theorem d_RM_setEnd_73 : decode b_RM_setEnd 73 = .ok (.iadd, 1) := by decide +kernel
theorem d_RM_setEnd_74 : decode b_RM_setEnd 74 = .ok (.ireturn, 1) := by decide +kernel
abbrev w_RM_setEnd : List Cond := Cond.code y_RM_setEnd b_RM_setEnd 5 (some .int) :: ig_T
theorem g_RM_setEnd : GoodIn ig_T w_RM_setEnd := ig_T_good (ig_T_mem (List.mem_append_right _ (List.mem_append_right _ (List.mem_of_getElem? (i := 40) rfl))) rfl)
set_option maxHeartbeats 4000000 in
set_option maxRecDepth 100000 in
theorem c_RM_setEnd (l : Launch) (dC : Nat → ClassId) (dI : Nat → Nat → Nat) (cC cI cZ cL : ClassId) (o0 ra rx rf rt rb rl rp ru_ rv rr rs rg rh rz ry : Nat) (th : Int32) (si : Int32) (ru : Int32) (na : Int32) (nx : Int32) (so : Int32) (pa : Int32) (bz : Int32) (de : Int32) (dp : Int32) (io : Int32) (tX : Nat → Int32) (k : Nat) (a : Nat) (sz : Nat) (hr : r_RM_setEnd tX k a) : Met l y_RM_setEnd w_RM_setEnd ({ frames := 1, cells := 0, slots := 0, locals := 22 }) (ig_Pc (dC, dI) ig_cl0 [(cC, .char), (cI, .int), (cZ, .boolean), (cL, .long)] [.ref o0, .int (nI k), .int (nI a)] [(o0, .inr (ciRM, [.int th, .ref ra, .int si, .ref rx, .ref rf, .ref rt, .ref rb, .ref rl, .int ru, .ref rp, .ref ru_, .ref rv, .int na, .int nx, .int so, .ref rr, .ref rs, .ref rg, .ref rh, .int pa, .ref rz, .ref ry, .int bz, .int de, .int dp, .int io])), (rx, .inl (cI, 1000, .inl tX))] sz) (va_Qi (fun (r : Int32) (u : Unit) => ∃ zr : Nat, r = nI zr ∧ p_RM_setEnd tX k a zr ) (fun u t => va_P (dC, dI) ig_cl0 ((fun (u : Unit) => [(o0, .inr (ciRM, [.int th, .ref ra, .int si, .ref rx, .ref rf, .ref rt, .ref rb, .ref rl, .int ru, .ref rp, .ref ru_, .ref rv, .int na, .int nx, .int so, .ref rr, .ref rs, .ref rg, .ref rh, .int pa, .ref rz, .ref ry, .int bz, .int de, .int dp, .int io])), (rx, .inl (cI, 1000, .inl tX))]) u) t.heap ∧ va_D (va_A [(o0, .inr (ciRM, [.int th, .ref ra, .int si, .ref rx, .ref rf, .ref rt, .ref rb, .ref rl, .int ru, .ref rp, .ref ru_, .ref rv, .int na, .int nx, .int so, .ref rr, .ref rs, .ref rg, .ref rh, .int pa, .ref rz, .ref ry, .int bz, .int de, .int dp, .int io])), (rx, .inl (cI, 1000, .inl tX))] sz) ((fun (u : Unit) => [(o0, .inr (ciRM, [.int th, .ref ra, .int si, .ref rx, .ref rf, .ref rt, .ref rb, .ref rl, .int ru, .ref rp, .ref ru_, .ref rv, .int na, .int nx, .int so, .ref rr, .ref rs, .ref rg, .ref rh, .int pa, .ref rz, .ref ry, .int bz, .int de, .int dp, .int io])), (rx, .inl (cI, 1000, .inl tX))]) u)) (va_A [(o0, .inr (ciRM, [.int th, .ref ra, .int si, .ref rx, .ref rf, .ref rt, .ref rb, .ref rl, .int ru, .ref rp, .ref ru_, .ref rv, .int na, .int nx, .int so, .ref rr, .ref rs, .ref rg, .ref rh, .int pa, .ref rz, .ref ry, .int bz, .int de, .int dp, .int io])), (rx, .inl (cI, 1000, .inl tX))] sz)) 0 0 (va_A [(o0, .inr (ciRM, [.int th, .ref ra, .int si, .ref rx, .ref rf, .ref rt, .ref rb, .ref rl, .int ru, .ref rp, .ref ru_, .ref rv, .int na, .int nx, .int so, .ref rr, .ref rs, .ref rg, .ref rh, .int pa, .ref rz, .ref ry, .int bz, .int de, .int dp, .int io])), (rx, .inl (cI, 1000, .inl tX))] sz) := by
  refine ig_metI (fun (r : Int32) (u : Unit) => ∃ zr : Nat, r = nI zr ∧ p_RM_setEnd tX k a zr ) (fun (u : Unit) => [(o0, .inr (ciRM, [.int th, .ref ra, .int si, .ref rx, .ref rf, .ref rt, .ref rb, .ref rl, .int ru, .ref rp, .ref ru_, .ref rv, .int na, .int nx, .int so, .ref rr, .ref rs, .ref rg, .ref rh, .int pa, .ref rz, .ref ry, .int bz, .int de, .int dp, .int io])), (rx, .inl (cI, 1000, .inl tX))]) (by decide) rfl (Nat.le_of_ble_eq_true rfl) rfl (fun _ _ _ => rfl) ?_
  intro zp ze zs zm zargs zbelow zmeth zc zA zQ hx hb hml hown hts hK hN hA hret
  obtain ⟨K10, hK10⟩ : ∃ K : Nat → Bool → Prop, K = fun (b : Nat) (fi : Bool) => ig_W zp l ze ({ frames := 1, cells := 0, slots := 0, locals := 22 }) zs zm zargs zbelow zmeth zc (dC, dI) ig_cl0 zA zs.heap 5 0 0 zQ 10 [(0, .ref o0), (2, .int (nI a)), (3, .int (nI b)), (4, .int (bI fi))] [] [(o0, .inr (ciRM, [.int th, .ref ra, .int si, .ref rx, .ref rf, .ref rt, .ref rb, .ref rl, .int ru, .ref rp, .ref ru_, .ref rv, .int na, .int nx, .int so, .ref rr, .ref rs, .ref rg, .ref rh, .int pa, .ref rz, .ref ry, .int bz, .int de, .int dp, .int io])), (rx, .inl (cI, 1000, .inl tX))] := ⟨_, rfl⟩
  have j60 : ∀ (b : Nat), v_RM_setEnd_60 tX k a K10 (p_RM_setEnd tX k a) b → ig_W zp l ze ({ frames := 1, cells := 0, slots := 0, locals := 22 }) zs zm zargs zbelow zmeth zc (dC, dI) ig_cl0 zA zs.heap 5 0 0 zQ 60 [(2, .int (nI a)), (3, .int (nI b))] [] [(o0, .inr (ciRM, [.int th, .ref ra, .int si, .ref rx, .ref rf, .ref rt, .ref rb, .ref rl, .int ru, .ref rp, .ref ru_, .ref rv, .int na, .int nx, .int so, .ref rr, .ref rs, .ref rg, .ref rh, .int pa, .ref rz, .ref ry, .int bz, .int de, .int dp, .int io])), (rx, .inl (cI, 1000, .inl tX))] := by
    intro b hv
    unfold v_RM_setEnd_60 at hv
    refine ig_iload_n hx hb 1 d_RM_setEnd_60 rfl rfl ?_
    refine ig_iload_n hx hb 0 d_RM_setEnd_61 rfl rfl ?_
    obtain ⟨h1, hv⟩ := hv
    obtain ⟨h2, hv⟩ := hv
    refine ig_icmp_geN (tgt := 71) hx hb b a rfl rfl d_RM_setEnd_62 (by decide) h1 h2 (fun h => ?_) (fun h => ?_)
    · have hv := hv.1 h
      refine ig_iload_n hx hb 0 d_RM_setEnd_71 rfl rfl ?_
      refine ig_iconst (v := 1) hx hb d_RM_setEnd_72 (by decide) ?_
      refine ig_iaddN hx hb a 1 rfl rfl d_RM_setEnd_73 ?_
      exact hret 74 _ (nI (a + 1)) () d_RM_setEnd_74 ⟨a + 1, rfl, hv⟩
    · have hv := hv.2 h
      refine ig_iload_n hx hb 1 d_RM_setEnd_65 rfl rfl ?_
      refine ig_iconst (v := 1) hx hb d_RM_setEnd_66 (by decide) ?_
      refine ig_iaddN hx hb b 1 rfl rfl d_RM_setEnd_67 ?_
      refine ig_goto (tgt := 74) hx hb d_RM_setEnd_68 (by decide) ?_
      exact hret 74 _ (nI (b + 1)) () d_RM_setEnd_74 ⟨b + 1, rfl, hv⟩
  have j31 : ∀ (b : Nat), v_RM_setEnd_31 tX k a K10 (p_RM_setEnd tX k a) b → ig_W zp l ze ({ frames := 1, cells := 0, slots := 0, locals := 22 }) zs zm zargs zbelow zmeth zc (dC, dI) ig_cl0 zA zs.heap 5 0 0 zQ 31 [(0, .ref o0), (2, .int (nI a)), (3, .int (nI b))] [] [(o0, .inr (ciRM, [.int th, .ref ra, .int si, .ref rx, .ref rf, .ref rt, .ref rb, .ref rl, .int ru, .ref rp, .ref ru_, .ref rv, .int na, .int nx, .int so, .ref rr, .ref rs, .ref rg, .ref rh, .int pa, .ref rz, .ref ry, .int bz, .int de, .int dp, .int io])), (rx, .inl (cI, 1000, .inl tX))] := by
    intro b hv
    unfold v_RM_setEnd_31 at hv
    refine ig_aload_n hx hb 0 d_RM_setEnd_31 rfl rfl ?_
    refine ig_iload_n hx hb 2 d_RM_setEnd_32 rfl rfl ?_
    obtain ⟨hc, hv⟩ := hv
    refine ig_cVi (As := [.int (nI b)]) (rest := []) (wr := []) (ws' := fun u => [(o0, .inr (ciRM, [.int th, .ref ra, .int si, .ref rx, .ref rf, .ref rt, .ref rb, .ref rl, .int ru, .ref rp, .ref ru_, .ref rv, .int na, .int nx, .int so, .ref rr, .ref rs, .ref rg, .ref rh, .int pa, .ref rz, .ref ry, .int bz, .int de, .int dp, .int io])), (rx, .inl (cI, 1000, .inl tX))]) hx hb hml hown hts hK hN hA (fun sz => c_RM_itemEnd l dC dI cC cI cZ cL o0 ra rx rf rt rb rl rp ru_ rv rr rs rg rh rz ry th si ru na nx so pa bz de dp io tX b sz hc) ⟨callB_of 1 hts g_RM_itemEnd rfl rfl rfl (hts _ kw_0_5) (hts _ kw_2_45) (by decide +kernel) (by decide), (hts _ kw_2_47), (hts _ ks_RM_itemEnd)⟩ rfl rfl (Nat.le_of_ble_eq_true rfl) d_RM_setEnd_33 (by decide) 0 rfl rfl [0, 1] [] [0, 1] rfl rfl (by decide) (by decide) (by decide) (fun _ => rfl) (fun _ => rfl) (fun r u hr => ?_)
    obtain ⟨rr, rfl, hr⟩ := hr
    unfold p_RM_itemEnd at hr
    subst hr
    refine ig_istore_n (lv' := [(3, .int (nI (sp_tok tX b))), (0, .ref o0), (2, .int (nI a))]) hx hb d_RM_setEnd_36 rfl (by decide) rfl ?_
    refine ig_iconst (v := 0) hx hb d_RM_setEnd_37 (by decide) ?_
    refine ig_istore (lv' := [(4, .int 0), (3, .int (nI (sp_tok tX b))), (0, .ref o0), (2, .int (nI a))]) hx hb d_RM_setEnd_38 (by decide) rfl ?_
    refine ig_aload_n hx hb 2 d_RM_setEnd_40 rfl rfl ?_
    refine ig_iload_n hx hb 1 d_RM_setEnd_41 rfl rfl ?_
    refine ig_iload_n hx hb 3 d_RM_setEnd_42 rfl rfl ?_
    obtain ⟨hc, hv⟩ := hv
    refine ig_cVi (As := [.int (nI (sp_tok tX b)), .int (nI a)]) (rest := []) (wr := []) (ws' := fun u => [(o0, .inr (ciRM, [.int th, .ref ra, .int si, .ref rx, .ref rf, .ref rt, .ref rb, .ref rl, .int ru, .ref rp, .ref ru_, .ref rv, .int na, .int nx, .int so, .ref rr, .ref rs, .ref rg, .ref rh, .int pa, .ref rz, .ref ry, .int bz, .int de, .int dp, .int io])), (rx, .inl (cI, 1000, .inl tX))]) hx hb hml hown hts hK hN hA (fun sz => c_RM_isRow l dC dI cC cI cZ cL o0 ra rx rf rt rb rl rp ru_ rv rr rs rg rh rz ry th si ru na nx so pa bz de dp io tX (sp_tok tX b) a sz hc) ⟨callB_of 2 hts g_RM_isRow rfl rfl rfl (hts _ kw_0_5) (hts _ kw_2_49) (by decide +kernel) (by decide), (hts _ kw_2_51), (hts _ ks_RM_isRow)⟩ rfl rfl (Nat.le_of_ble_eq_true rfl) d_RM_setEnd_43 (by decide) 0 rfl rfl [0, 1] [] [0, 1] rfl rfl (by decide) (by decide) (by decide) (fun _ => rfl) (fun _ => rfl) (fun r u hr => ?_)
    obtain ⟨rr, rfl, hr⟩ := hr
    unfold p_RM_isRow at hr
    subst hr
    refine ig_if_eqB (tgt := 10) hx hb (sp_row tX a (sp_tok tX b)) rfl d_RM_setEnd_46 (by decide) (fun h => ?_) (fun h => ?_)
    · have hv := hv.1 h
      refine ig_lv (lv' := [(0, .ref o0), (2, .int (nI a)), (3, .int (nI (sp_tok tX b))), (4, .int 0)]) [2, 3, 1, 0] rfl ?_
      rw [hK10] at hv
      exact hv
    · have hv := hv.2 h
      refine ig_aload_n hx hb 2 d_RM_setEnd_49 rfl rfl ?_
      refine ig_iload_n hx hb 1 d_RM_setEnd_50 rfl rfl ?_
      refine ig_iconst (v := 1) hx hb d_RM_setEnd_51 (by decide) ?_
      refine ig_iaddN hx hb (sp_tok tX b) 1 rfl rfl d_RM_setEnd_52 ?_
      obtain ⟨hc, hv⟩ := hv
      refine ig_cVi (As := [.int (nI ((sp_tok tX b) + 1))]) (rest := []) (wr := []) (ws' := fun u => [(o0, .inr (ciRM, [.int th, .ref ra, .int si, .ref rx, .ref rf, .ref rt, .ref rb, .ref rl, .int ru, .ref rp, .ref ru_, .ref rv, .int na, .int nx, .int so, .ref rr, .ref rs, .ref rg, .ref rh, .int pa, .ref rz, .ref ry, .int bz, .int de, .int dp, .int io])), (rx, .inl (cI, 1000, .inl tX))]) hx hb hml hown hts hK hN hA (fun sz => c_RM_itemEnd l dC dI cC cI cZ cL o0 ra rx rf rt rb rl rp ru_ rv rr rs rg rh rz ry th si ru na nx so pa bz de dp io tX ((sp_tok tX b) + 1) sz hc) ⟨callB_of 1 hts g_RM_itemEnd rfl rfl rfl (hts _ kw_0_5) (hts _ kw_2_45) (by decide +kernel) (by decide), (hts _ kw_2_47), (hts _ ks_RM_itemEnd)⟩ rfl rfl (Nat.le_of_ble_eq_true rfl) d_RM_setEnd_53 (by decide) 0 rfl rfl [0, 1] [] [0, 1] rfl rfl (by decide) (by decide) (by decide) (fun _ => rfl) (fun _ => rfl) (fun r u hr => ?_)
      obtain ⟨rr, rfl, hr⟩ := hr
      unfold p_RM_itemEnd at hr
      subst hr
      refine ig_istore_n (lv' := [(3, .int (nI (sp_tok tX ((sp_tok tX b) + 1)))), (4, .int 0), (0, .ref o0), (2, .int (nI a))]) hx hb d_RM_setEnd_56 rfl (by decide) rfl ?_
      refine ig_goto (tgt := 10) hx hb d_RM_setEnd_57 (by decide) ?_
      refine ig_lv (lv' := [(0, .ref o0), (2, .int (nI a)), (3, .int (nI (sp_tok tX ((sp_tok tX b) + 1)))), (4, .int 0)]) [2, 3, 0, 1] rfl ?_
      rw [hK10] at hv
      exact hv
  have k10 : ∀ (b : Nat) (fi : Bool), v_RM_setEnd_10 tX k a K10 (p_RM_setEnd tX k a) b fi → K10 b fi := by
    intro b fi hv
    unfold v_RM_setEnd_10 at hv
    rw [hK10]
    show ig_W zp l ze ({ frames := 1, cells := 0, slots := 0, locals := 22 }) zs zm zargs zbelow zmeth zc (dC, dI) ig_cl0 zA zs.heap 5 0 0 zQ 10 [(0, .ref o0), (2, .int (nI a)), (3, .int (nI b)), (4, .int (bI fi))] [] [(o0, .inr (ciRM, [.int th, .ref ra, .int si, .ref rx, .ref rf, .ref rt, .ref rb, .ref rl, .int ru, .ref rp, .ref ru_, .ref rv, .int na, .int nx, .int so, .ref rr, .ref rs, .ref rg, .ref rh, .int pa, .ref rz, .ref ry, .int bz, .int de, .int dp, .int io])), (rx, .inl (cI, 1000, .inl tX))]
    refine ig_iload_n hx hb 2 d_RM_setEnd_10 rfl rfl ?_
    refine ig_iload_n hx hb 1 d_RM_setEnd_11 rfl rfl ?_
    obtain ⟨h1, hv⟩ := hv
    obtain ⟨h2, hv⟩ := hv
    refine ig_icmp_geN (tgt := 60) hx hb b a rfl rfl d_RM_setEnd_12 (by decide) h1 h2 (fun h => ?_) (fun h => ?_)
    · have hv := hv.1 h
      refine ig_lv (lv' := [(2, .int (nI a)), (3, .int (nI b))]) [1, 2] rfl ?_
      exact j60 _ hv
    · have hv := hv.2 h
      refine ig_iload hx hb 3 d_RM_setEnd_15 rfl ?_
      refine ig_if_neB (tgt := 31) hx hb fi rfl d_RM_setEnd_17 (by decide) (fun h => ?_) (fun h => ?_)
      · have hv := hv.1 h
        refine ig_lv (lv' := [(0, .ref o0), (2, .int (nI a)), (3, .int (nI b))]) [0, 1, 2] rfl ?_
        exact j31 _ hv
      · have hv := hv.2 h
        refine ig_aload_n hx hb 0 d_RM_setEnd_20 rfl rfl ?_
        refine ig_get hx hb hts in_RM hown hK 0 rfl rfl 3 (by decide) (hts _ kw_1_148) (fun _ h => h) rfl d_RM_setEnd_21 ?_
        refine ig_iload_n hx hb 2 d_RM_setEnd_24 rfl rfl ?_
        obtain ⟨hc, hv⟩ := hv
        refine ig_iald (x := (tX b)) hx hb hK 1 1 rfl rfl b rfl hc (by decide) rfl d_RM_setEnd_25 ?_
        refine ig_bipush (v := 93) hx hb d_RM_setEnd_26 (by decide) ?_
        refine ig_icmp_eq (tgt := 60) hx hb d_RM_setEnd_28 (by decide) (fun h => ?_) (fun h => ?_)
        · have hv := hv.1 h
          refine ig_lv (lv' := [(2, .int (nI a)), (3, .int (nI b))]) [1, 2] rfl ?_
          exact j60 _ hv
        · have hv := hv.2 h
          refine ig_lv (lv' := [(0, .ref o0), (2, .int (nI a)), (3, .int (nI b))]) [0, 1, 2] rfl ?_
          exact j31 _ hv
  have hv := t_RM_setEnd tX k a hr K10 k10
  unfold v_RM_setEnd at hv
  refine ig_aload_n hx hb 0 d_RM_setEnd_0 rfl rfl ?_
  refine ig_iload_n hx hb 1 d_RM_setEnd_1 rfl rfl ?_
  refine ig_iload_n hx hb 2 d_RM_setEnd_2 rfl rfl ?_
  obtain ⟨hc, hv⟩ := hv
  refine ig_cVi (As := [.int (nI k), .int (nI a)]) (rest := []) (wr := []) (ws' := fun u => [(o0, .inr (ciRM, [.int th, .ref ra, .int si, .ref rx, .ref rf, .ref rt, .ref rb, .ref rl, .int ru, .ref rp, .ref ru_, .ref rv, .int na, .int nx, .int so, .ref rr, .ref rs, .ref rg, .ref rh, .int pa, .ref rz, .ref ry, .int bz, .int de, .int dp, .int io])), (rx, .inl (cI, 1000, .inl tX))]) hx hb hml hown hts hK hN hA (fun sz => c_RM_itemsFrom l dC dI cC cI cZ cL o0 ra rx rf rt rb rl rp ru_ rv rr rs rg rh rz ry th si ru na nx so pa bz de dp io tX k a sz hc) ⟨callB_of 2 hts g_RM_itemsFrom rfl rfl rfl (hts _ kw_0_5) (hts _ kw_2_41) (by decide +kernel) (by decide), (hts _ kw_2_43), (hts _ ks_RM_itemsFrom)⟩ rfl rfl (Nat.le_of_ble_eq_true rfl) d_RM_setEnd_3 (by decide) 0 rfl rfl [0, 1] [] [0, 1] rfl rfl (by decide) (by decide) (by decide) (fun _ => rfl) (fun _ => rfl) (fun r u hr => ?_)
  obtain ⟨rr, rfl, hr⟩ := hr
  unfold p_RM_itemsFrom at hr
  subst hr
  refine ig_istore_n (lv' := [(3, .int (nI (sp_sf tX a k))), (0, .ref o0), (1, .int (nI k)), (2, .int (nI a))]) hx hb d_RM_setEnd_6 rfl (by decide) rfl ?_
  refine ig_iconst (v := 1) hx hb d_RM_setEnd_7 (by decide) ?_
  refine ig_istore (lv' := [(4, .int 1), (3, .int (nI (sp_sf tX a k))), (0, .ref o0), (1, .int (nI k)), (2, .int (nI a))]) hx hb d_RM_setEnd_8 (by decide) rfl ?_
  refine ig_lv (lv' := [(0, .ref o0), (2, .int (nI a)), (3, .int (nI (sp_sf tX a k))), (4, .int 1)]) [2, 4, 1, 0] rfl ?_
  rw [hK10] at hv
  exact hv
theorem d_RM_isInSet_0 : decode b_RM_isInSet 0 = .ok (.aload_n 0, 1) := by decide +kernel
theorem d_RM_isInSet_1 : decode b_RM_isInSet 1 = .ok (.iload_n 1, 1) := by decide +kernel
theorem d_RM_isInSet_2 : decode b_RM_isInSet 2 = .ok (.iload_n 2, 1) := by decide +kernel
theorem d_RM_isInSet_3 : decode b_RM_isInSet 3 = .ok (.invokevirtual 75, 3) := by decide +kernel
theorem d_RM_isInSet_6 : decode b_RM_isInSet 6 = .ok (.istore 4, 2) := by decide +kernel
theorem d_RM_isInSet_8 : decode b_RM_isInSet 8 = .ok (.iload 4, 2) := by decide +kernel
theorem d_RM_isInSet_10 : decode b_RM_isInSet 10 = .ok (.iload_n 1, 1) := by decide +kernel
theorem d_RM_isInSet_11 : decode b_RM_isInSet 11 = .ok (.iconst 2, 1) := by decide +kernel
theorem d_RM_isInSet_12 : decode b_RM_isInSet 12 = .ok (.iadd, 1) := by decide +kernel
theorem d_RM_isInSet_13 : decode b_RM_isInSet 13 = .ok (.if_icmp .ne 7, 3) := by decide +kernel
theorem d_RM_isInSet_16 : decode b_RM_isInSet 16 = .ok (.iconst 1, 1) := by decide +kernel
theorem d_RM_isInSet_17 : decode b_RM_isInSet 17 = .ok (.goto 4, 3) := by decide +kernel
theorem d_RM_isInSet_20 : decode b_RM_isInSet 20 = .ok (.iconst 0, 1) := by decide +kernel
theorem d_RM_isInSet_21 : decode b_RM_isInSet 21 = .ok (.istore 5, 2) := by decide +kernel
theorem d_RM_isInSet_23 : decode b_RM_isInSet 23 = .ok (.iconst 1, 1) := by decide +kernel
theorem d_RM_isInSet_24 : decode b_RM_isInSet 24 = .ok (.istore 6, 2) := by decide +kernel
theorem d_RM_isInSet_26 : decode b_RM_isInSet 26 = .ok (.iconst 0, 1) := by decide +kernel
theorem d_RM_isInSet_27 : decode b_RM_isInSet 27 = .ok (.istore 7, 2) := by decide +kernel
theorem d_RM_isInSet_29 : decode b_RM_isInSet 29 = .ok (.iload 6, 2) := by decide +kernel
theorem d_RM_isInSet_31 : decode b_RM_isInSet 31 = .ok (.ifCond .ne 15, 3) := by decide +kernel
theorem d_RM_isInSet_34 : decode b_RM_isInSet 34 = .ok (.aload_n 0, 1) := by decide +kernel
theorem d_RM_isInSet_35 : decode b_RM_isInSet 35 = .ok (.getfield 13, 3) := by decide +kernel
theorem d_RM_isInSet_38 : decode b_RM_isInSet 38 = .ok (.iload 4, 2) := by decide +kernel
theorem d_RM_isInSet_40 : decode b_RM_isInSet 40 = .ok (.iaload, 1) := by decide +kernel
theorem d_RM_isInSet_41 : decode b_RM_isInSet 41 = .ok (.bipush 93, 2) := by decide +kernel
theorem d_RM_isInSet_43 : decode b_RM_isInSet 43 = .ok (.if_icmp .eq 83, 3) := by decide +kernel
theorem d_RM_isInSet_46 : decode b_RM_isInSet 46 = .ok (.aload_n 0, 1) := by decide +kernel
theorem d_RM_isInSet_47 : decode b_RM_isInSet 47 = .ok (.iload 4, 2) := by decide +kernel
theorem d_RM_isInSet_49 : decode b_RM_isInSet 49 = .ok (.invokevirtual 86, 3) := by decide +kernel
theorem d_RM_isInSet_52 : decode b_RM_isInSet 52 = .ok (.istore 8, 2) := by decide +kernel
theorem d_RM_isInSet_54 : decode b_RM_isInSet 54 = .ok (.iload 8, 2) := by decide +kernel
theorem d_RM_isInSet_56 : decode b_RM_isInSet 56 = .ok (.istore 9, 2) := by decide +kernel
theorem d_RM_isInSet_58 : decode b_RM_isInSet 58 = .ok (.aload_n 0, 1) := by decide +kernel
theorem d_RM_isInSet_59 : decode b_RM_isInSet 59 = .ok (.iload 4, 2) := by decide +kernel
theorem d_RM_isInSet_61 : decode b_RM_isInSet 61 = .ok (.invokevirtual 78, 3) := by decide +kernel
theorem d_RM_isInSet_64 : decode b_RM_isInSet 64 = .ok (.istore 4, 2) := by decide +kernel
theorem d_RM_isInSet_66 : decode b_RM_isInSet 66 = .ok (.iconst 0, 1) := by decide +kernel
theorem d_RM_isInSet_67 : decode b_RM_isInSet 67 = .ok (.istore 6, 2) := by decide +kernel
theorem d_RM_isInSet_69 : decode b_RM_isInSet 69 = .ok (.aload_n 0, 1) := by decide +kernel
theorem d_RM_isInSet_70 : decode b_RM_isInSet 70 = .ok (.iload 4, 2) := by decide +kernel
theorem d_RM_isInSet_72 : decode b_RM_isInSet 72 = .ok (.iload_n 2, 1) := by decide +kernel
theorem d_RM_isInSet_73 : decode b_RM_isInSet 73 = .ok (.invokevirtual 82, 3) := by decide +kernel
theorem d_RM_isInSet_76 : decode b_RM_isInSet 76 = .ok (.ifCond .eq 23, 3) := by decide +kernel
theorem d_RM_isInSet_79 : decode b_RM_isInSet 79 = .ok (.aload_n 0, 1) := by decide +kernel
theorem d_RM_isInSet_80 : decode b_RM_isInSet 80 = .ok (.iload 4, 2) := by decide +kernel
theorem d_RM_isInSet_82 : decode b_RM_isInSet 82 = .ok (.iconst 1, 1) := by decide +kernel
theorem d_RM_isInSet_83 : decode b_RM_isInSet 83 = .ok (.iadd, 1) := by decide +kernel
theorem d_RM_isInSet_84 : decode b_RM_isInSet 84 = .ok (.invokevirtual 86, 3) := by decide +kernel
theorem d_RM_isInSet_87 : decode b_RM_isInSet 87 = .ok (.istore 9, 2) := by decide +kernel
theorem d_RM_isInSet_89 : decode b_RM_isInSet 89 = .ok (.aload_n 0, 1) := by decide +kernel
theorem d_RM_isInSet_90 : decode b_RM_isInSet 90 = .ok (.iload 4, 2) := by decide +kernel
theorem d_RM_isInSet_92 : decode b_RM_isInSet 92 = .ok (.iconst 1, 1) := by decide +kernel
theorem d_RM_isInSet_93 : decode b_RM_isInSet 93 = .ok (.iadd, 1) := by decide +kernel
theorem d_RM_isInSet_94 : decode b_RM_isInSet 94 = .ok (.invokevirtual 78, 3) := by decide +kernel
theorem d_RM_isInSet_97 : decode b_RM_isInSet 97 = .ok (.istore 4, 2) := by decide +kernel
theorem d_RM_isInSet_99 : decode b_RM_isInSet 99 = .ok (.iload 7, 2) := by decide +kernel
theorem d_RM_isInSet_101 : decode b_RM_isInSet 101 = .ok (.ifCond .ne 15, 3) := by decide +kernel
theorem d_RM_isInSet_104 : decode b_RM_isInSet 104 = .ok (.iload_n 3, 1) := by decide +kernel
theorem d_RM_isInSet_105 : decode b_RM_isInSet 105 = .ok (.iload 8, 2) := by decide +kernel
theorem d_RM_isInSet_107 : decode b_RM_isInSet 107 = .ok (.if_icmp .lt 13, 3) := by decide +kernel
theorem d_RM_isInSet_110 : decode b_RM_isInSet 110 = .ok (.iload_n 3, 1) := by decide +kernel
theorem d_RM_isInSet_111 : decode b_RM_isInSet 111 = .ok (.iload 9, 2) := by decide +kernel
theorem d_RM_isInSet_113 : decode b_RM_isInSet 113 = .ok (.if_icmp .gt 7, 3) := by decide +kernel
theorem d_RM_isInSet_116 : decode b_RM_isInSet 116 = .ok (.iconst 1, 1) := by decide +kernel
theorem d_RM_isInSet_117 : decode b_RM_isInSet 117 = .ok (.goto 4, 3) := by decide +kernel
theorem d_RM_isInSet_120 : decode b_RM_isInSet 120 = .ok (.iconst 0, 1) := by decide +kernel
theorem d_RM_isInSet_121 : decode b_RM_isInSet 121 = .ok (.istore 7, 2) := by decide +kernel
theorem d_RM_isInSet_123 : decode b_RM_isInSet 123 = .ok (.goto (-94), 3) := by decide +kernel
theorem d_RM_isInSet_126 : decode b_RM_isInSet 126 = .ok (.iload 7, 2) := by decide +kernel
theorem d_RM_isInSet_128 : decode b_RM_isInSet 128 = .ok (.iload 5, 2) := by decide +kernel
theorem d_RM_isInSet_130 : decode b_RM_isInSet 130 = .ok (.if_icmp .eq 7, 3) := by decide +kernel
theorem d_RM_isInSet_133 : decode b_RM_isInSet 133 = .ok (.iconst 1, 1) := by decide +kernel
theorem d_RM_isInSet_134 : decode b_RM_isInSet 134 = .ok (.goto 4, 3) := by decide +kernel
theorem d_RM_isInSet_137 : decode b_RM_isInSet 137 = .ok (.iconst 0, 1) := by decide +kernel
theorem d_RM_isInSet_138 : decode b_RM_isInSet 138 = .ok (.ireturn, 1) := by decide +kernel
abbrev w_RM_isInSet : List Cond := Cond.code y_RM_isInSet b_RM_isInSet 10 (some .boolean) :: ig_T
theorem g_RM_isInSet : GoodIn ig_T w_RM_isInSet := ig_T_good (ig_T_mem (List.mem_append_right _ (List.mem_append_right _ (List.mem_of_getElem? (i := 100) rfl))) rfl)
set_option maxHeartbeats 4000000 in
set_option maxRecDepth 100000 in
theorem c_RM_isInSet (l : Launch) (dC : Nat → ClassId) (dI : Nat → Nat → Nat) (cC cI cZ cL : ClassId) (o0 ra rx rf rt rb rl rp ru_ rv rr rs rg rh rz ry : Nat) (th : Int32) (si : Int32) (ru : Int32) (na : Int32) (nx : Int32) (so : Int32) (pa : Int32) (bz : Int32) (de : Int32) (dp : Int32) (io : Int32) (tX : Nat → Int32) (k : Nat) (a : Nat) (x : Int32) (sz : Nat) (hr : r_RM_isInSet tX k a x) : Met l y_RM_isInSet w_RM_isInSet ({ frames := 1, cells := 0, slots := 0, locals := 22 }) (ig_Pc (dC, dI) ig_cl0 [(cC, .char), (cI, .int), (cZ, .boolean), (cL, .long)] [.ref o0, .int (nI k), .int (nI a), .int x] [(o0, .inr (ciRM, [.int th, .ref ra, .int si, .ref rx, .ref rf, .ref rt, .ref rb, .ref rl, .int ru, .ref rp, .ref ru_, .ref rv, .int na, .int nx, .int so, .ref rr, .ref rs, .ref rg, .ref rh, .int pa, .ref rz, .ref ry, .int bz, .int de, .int dp, .int io])), (rx, .inl (cI, 1000, .inl tX))] sz) (va_Qi (fun (r : Int32) (u : Unit) => ∃ zr : Bool, r = bI zr ∧ p_RM_isInSet tX k a x zr ) (fun u t => va_P (dC, dI) ig_cl0 ((fun (u : Unit) => [(o0, .inr (ciRM, [.int th, .ref ra, .int si, .ref rx, .ref rf, .ref rt, .ref rb, .ref rl, .int ru, .ref rp, .ref ru_, .ref rv, .int na, .int nx, .int so, .ref rr, .ref rs, .ref rg, .ref rh, .int pa, .ref rz, .ref ry, .int bz, .int de, .int dp, .int io])), (rx, .inl (cI, 1000, .inl tX))]) u) t.heap ∧ va_D (va_A [(o0, .inr (ciRM, [.int th, .ref ra, .int si, .ref rx, .ref rf, .ref rt, .ref rb, .ref rl, .int ru, .ref rp, .ref ru_, .ref rv, .int na, .int nx, .int so, .ref rr, .ref rs, .ref rg, .ref rh, .int pa, .ref rz, .ref ry, .int bz, .int de, .int dp, .int io])), (rx, .inl (cI, 1000, .inl tX))] sz) ((fun (u : Unit) => [(o0, .inr (ciRM, [.int th, .ref ra, .int si, .ref rx, .ref rf, .ref rt, .ref rb, .ref rl, .int ru, .ref rp, .ref ru_, .ref rv, .int na, .int nx, .int so, .ref rr, .ref rs, .ref rg, .ref rh, .int pa, .ref rz, .ref ry, .int bz, .int de, .int dp, .int io])), (rx, .inl (cI, 1000, .inl tX))]) u)) (va_A [(o0, .inr (ciRM, [.int th, .ref ra, .int si, .ref rx, .ref rf, .ref rt, .ref rb, .ref rl, .int ru, .ref rp, .ref ru_, .ref rv, .int na, .int nx, .int so, .ref rr, .ref rs, .ref rg, .ref rh, .int pa, .ref rz, .ref ry, .int bz, .int de, .int dp, .int io])), (rx, .inl (cI, 1000, .inl tX))] sz)) 0 0 (va_A [(o0, .inr (ciRM, [.int th, .ref ra, .int si, .ref rx, .ref rf, .ref rt, .ref rb, .ref rl, .int ru, .ref rp, .ref ru_, .ref rv, .int na, .int nx, .int so, .ref rr, .ref rs, .ref rg, .ref rh, .int pa, .ref rz, .ref ry, .int bz, .int de, .int dp, .int io])), (rx, .inl (cI, 1000, .inl tX))] sz) := by
  refine ig_metI (fun (r : Int32) (u : Unit) => ∃ zr : Bool, r = bI zr ∧ p_RM_isInSet tX k a x zr ) (fun (u : Unit) => [(o0, .inr (ciRM, [.int th, .ref ra, .int si, .ref rx, .ref rf, .ref rt, .ref rb, .ref rl, .int ru, .ref rp, .ref ru_, .ref rv, .int na, .int nx, .int so, .ref rr, .ref rs, .ref rg, .ref rh, .int pa, .ref rz, .ref ry, .int bz, .int de, .int dp, .int io])), (rx, .inl (cI, 1000, .inl tX))]) (by decide) rfl (Nat.le_of_ble_eq_true rfl) rfl (by rintro r u ⟨b, rfl, -⟩; exact bI_ret b) ?_
  intro zp ze zs zm zargs zbelow zmeth zc zA zQ hx hb hml hown hts hK hN hA hret
  obtain ⟨K29, hK29⟩ : ∃ K : Nat → Bool → Bool → Bool → Prop, K = fun (b : Nat) (tu : Bool) (fi : Bool) (fo : Bool) => ig_W zp l ze ({ frames := 1, cells := 0, slots := 0, locals := 22 }) zs zm zargs zbelow zmeth zc (dC, dI) ig_cl0 zA zs.heap 10 0 0 zQ 29 [(0, .ref o0), (2, .int (nI a)), (3, .int x), (4, .int (nI b)), (5, .int (bI tu)), (6, .int (bI fi)), (7, .int (bI fo))] [] [(o0, .inr (ciRM, [.int th, .ref ra, .int si, .ref rx, .ref rf, .ref rt, .ref rb, .ref rl, .int ru, .ref rp, .ref ru_, .ref rv, .int na, .int nx, .int so, .ref rr, .ref rs, .ref rg, .ref rh, .int pa, .ref rz, .ref ry, .int bz, .int de, .int dp, .int io])), (rx, .inl (cI, 1000, .inl tX))] := ⟨_, rfl⟩
  have j21 : ∀ (b : Nat) (s0 : Bool), v_RM_isInSet_21 tX k a x K29 (p_RM_isInSet tX k a x) b s0 → ig_W zp l ze ({ frames := 1, cells := 0, slots := 0, locals := 22 }) zs zm zargs zbelow zmeth zc (dC, dI) ig_cl0 zA zs.heap 10 0 0 zQ 21 [(0, .ref o0), (2, .int (nI a)), (3, .int x), (4, .int (nI b))] [.int (bI s0)] [(o0, .inr (ciRM, [.int th, .ref ra, .int si, .ref rx, .ref rf, .ref rt, .ref rb, .ref rl, .int ru, .ref rp, .ref ru_, .ref rv, .int na, .int nx, .int so, .ref rr, .ref rs, .ref rg, .ref rh, .int pa, .ref rz, .ref ry, .int bz, .int de, .int dp, .int io])), (rx, .inl (cI, 1000, .inl tX))] := by
    intro b s0 hv
    unfold v_RM_isInSet_21 at hv
    refine ig_istore (lv' := [(5, .int (bI s0)), (0, .ref o0), (2, .int (nI a)), (3, .int x), (4, .int (nI b))]) hx hb d_RM_isInSet_21 (by decide) rfl ?_
    refine ig_iconst (v := 1) hx hb d_RM_isInSet_23 (by decide) ?_
    refine ig_istore (lv' := [(6, .int 1), (5, .int (bI s0)), (0, .ref o0), (2, .int (nI a)), (3, .int x), (4, .int (nI b))]) hx hb d_RM_isInSet_24 (by decide) rfl ?_
    refine ig_iconst (v := 0) hx hb d_RM_isInSet_26 (by decide) ?_
    refine ig_istore (lv' := [(7, .int 0), (6, .int 1), (5, .int (bI s0)), (0, .ref o0), (2, .int (nI a)), (3, .int x), (4, .int (nI b))]) hx hb d_RM_isInSet_27 (by decide) rfl ?_
    refine ig_lv (lv' := [(0, .ref o0), (2, .int (nI a)), (3, .int x), (4, .int (nI b)), (5, .int (bI s0)), (6, .int 1), (7, .int 0)]) [3, 4, 5, 6, 2, 1, 0] rfl ?_
    rw [hK29] at hv
    exact hv
  have j99 : ∀ (b : Nat) (tu : Bool) (fi : Bool) (fo : Bool) (lo : Int32) (hi : Int32), v_RM_isInSet_99 tX k a x K29 (p_RM_isInSet tX k a x) b tu fi fo lo hi → ig_W zp l ze ({ frames := 1, cells := 0, slots := 0, locals := 22 }) zs zm zargs zbelow zmeth zc (dC, dI) ig_cl0 zA zs.heap 10 0 0 zQ 99 [(0, .ref o0), (2, .int (nI a)), (3, .int x), (4, .int (nI b)), (5, .int (bI tu)), (6, .int (bI fi)), (7, .int (bI fo)), (8, .int lo), (9, .int hi)] [] [(o0, .inr (ciRM, [.int th, .ref ra, .int si, .ref rx, .ref rf, .ref rt, .ref rb, .ref rl, .int ru, .ref rp, .ref ru_, .ref rv, .int na, .int nx, .int so, .ref rr, .ref rs, .ref rg, .ref rh, .int pa, .ref rz, .ref ry, .int bz, .int de, .int dp, .int io])), (rx, .inl (cI, 1000, .inl tX))] := by
    intro b tu fi fo lo hi hv
    unfold v_RM_isInSet_99 at hv
    refine ig_iload hx hb 6 d_RM_isInSet_99 rfl ?_
    refine ig_if_neB (tgt := 116) hx hb fo rfl d_RM_isInSet_101 (by decide) (fun h => ?_) (fun h => ?_)
    · have hv := hv.1 h
      refine ig_iconst (v := 1) hx hb d_RM_isInSet_116 (by decide) ?_
      refine ig_goto (tgt := 121) hx hb d_RM_isInSet_117 (by decide) ?_
      refine ig_istore (lv' := [(7, .int 1), (0, .ref o0), (2, .int (nI a)), (3, .int x), (4, .int (nI b)), (5, .int (bI tu)), (6, .int (bI fi)), (8, .int lo), (9, .int hi)]) hx hb d_RM_isInSet_121 (by decide) rfl ?_
      refine ig_goto (tgt := 29) hx hb d_RM_isInSet_123 (by decide) ?_
      refine ig_lv (lv' := [(0, .ref o0), (2, .int (nI a)), (3, .int x), (4, .int (nI b)), (5, .int (bI tu)), (6, .int (bI fi)), (7, .int 1)]) [1, 2, 3, 4, 5, 6, 0] rfl ?_
      rw [hK29] at hv
      exact hv
    · have hv := hv.2 h
      refine ig_iload_n hx hb 2 d_RM_isInSet_104 rfl rfl ?_
      refine ig_iload hx hb 7 d_RM_isInSet_105 rfl ?_
      refine ig_icmp_lt (tgt := 120) hx hb d_RM_isInSet_107 (by decide) (fun h => ?_) (fun h => ?_)
      · have hv := hv.1 h
        refine ig_iconst (v := 0) hx hb d_RM_isInSet_120 (by decide) ?_
        refine ig_istore (lv' := [(7, .int 0), (0, .ref o0), (2, .int (nI a)), (3, .int x), (4, .int (nI b)), (5, .int (bI tu)), (6, .int (bI fi)), (8, .int lo), (9, .int hi)]) hx hb d_RM_isInSet_121 (by decide) rfl ?_
        refine ig_goto (tgt := 29) hx hb d_RM_isInSet_123 (by decide) ?_
        refine ig_lv (lv' := [(0, .ref o0), (2, .int (nI a)), (3, .int x), (4, .int (nI b)), (5, .int (bI tu)), (6, .int (bI fi)), (7, .int 0)]) [1, 2, 3, 4, 5, 6, 0] rfl ?_
        rw [hK29] at hv
        exact hv
      · have hv := hv.2 h
        refine ig_iload_n hx hb 2 d_RM_isInSet_110 rfl rfl ?_
        refine ig_iload hx hb 8 d_RM_isInSet_111 rfl ?_
        refine ig_icmp_gt (tgt := 120) hx hb d_RM_isInSet_113 (by decide) (fun h => ?_) (fun h => ?_)
        · have hv := hv.1 h
          refine ig_iconst (v := 0) hx hb d_RM_isInSet_120 (by decide) ?_
          refine ig_istore (lv' := [(7, .int 0), (0, .ref o0), (2, .int (nI a)), (3, .int x), (4, .int (nI b)), (5, .int (bI tu)), (6, .int (bI fi)), (8, .int lo), (9, .int hi)]) hx hb d_RM_isInSet_121 (by decide) rfl ?_
          refine ig_goto (tgt := 29) hx hb d_RM_isInSet_123 (by decide) ?_
          refine ig_lv (lv' := [(0, .ref o0), (2, .int (nI a)), (3, .int x), (4, .int (nI b)), (5, .int (bI tu)), (6, .int (bI fi)), (7, .int 0)]) [1, 2, 3, 4, 5, 6, 0] rfl ?_
          rw [hK29] at hv
          exact hv
        · have hv := hv.2 h
          refine ig_iconst (v := 1) hx hb d_RM_isInSet_116 (by decide) ?_
          refine ig_goto (tgt := 121) hx hb d_RM_isInSet_117 (by decide) ?_
          refine ig_istore (lv' := [(7, .int 1), (0, .ref o0), (2, .int (nI a)), (3, .int x), (4, .int (nI b)), (5, .int (bI tu)), (6, .int (bI fi)), (8, .int lo), (9, .int hi)]) hx hb d_RM_isInSet_121 (by decide) rfl ?_
          refine ig_goto (tgt := 29) hx hb d_RM_isInSet_123 (by decide) ?_
          refine ig_lv (lv' := [(0, .ref o0), (2, .int (nI a)), (3, .int x), (4, .int (nI b)), (5, .int (bI tu)), (6, .int (bI fi)), (7, .int 1)]) [1, 2, 3, 4, 5, 6, 0] rfl ?_
          rw [hK29] at hv
          exact hv
  have j46 : ∀ (b : Nat) (tu : Bool) (fo : Bool), v_RM_isInSet_46 tX k a x K29 (p_RM_isInSet tX k a x) b tu fo → ig_W zp l ze ({ frames := 1, cells := 0, slots := 0, locals := 22 }) zs zm zargs zbelow zmeth zc (dC, dI) ig_cl0 zA zs.heap 10 0 0 zQ 46 [(0, .ref o0), (2, .int (nI a)), (3, .int x), (4, .int (nI b)), (5, .int (bI tu)), (7, .int (bI fo))] [] [(o0, .inr (ciRM, [.int th, .ref ra, .int si, .ref rx, .ref rf, .ref rt, .ref rb, .ref rl, .int ru, .ref rp, .ref ru_, .ref rv, .int na, .int nx, .int so, .ref rr, .ref rs, .ref rg, .ref rh, .int pa, .ref rz, .ref ry, .int bz, .int de, .int dp, .int io])), (rx, .inl (cI, 1000, .inl tX))] := by
    intro b tu fo hv
    unfold v_RM_isInSet_46 at hv
    refine ig_aload_n hx hb 0 d_RM_isInSet_46 rfl rfl ?_
    refine ig_iload hx hb 3 d_RM_isInSet_47 rfl ?_
    obtain ⟨hc, hv⟩ := hv
    refine ig_cVi (As := [.int (nI b)]) (rest := []) (wr := []) (ws' := fun u => [(o0, .inr (ciRM, [.int th, .ref ra, .int si, .ref rx, .ref rf, .ref rt, .ref rb, .ref rl, .int ru, .ref rp, .ref ru_, .ref rv, .int na, .int nx, .int so, .ref rr, .ref rs, .ref rg, .ref rh, .int pa, .ref rz, .ref ry, .int bz, .int de, .int dp, .int io])), (rx, .inl (cI, 1000, .inl tX))]) hx hb hml hown hts hK hN hA (fun sz => c_RM_itemByte l dC dI cC cI cZ cL o0 ra rx rf rt rb rl rp ru_ rv rr rs rg rh rz ry th si ru na nx so pa bz de dp io tX b sz hc) ⟨callB_of 1 hts g_RM_itemByte rfl rfl rfl (hts _ kw_0_5) (hts _ kw_2_101) (by decide +kernel) (by decide), (hts _ kw_2_103), (hts _ ks_RM_itemByte)⟩ rfl rfl (Nat.le_of_ble_eq_true rfl) d_RM_isInSet_49 (by decide) 0 rfl rfl [0, 1] [] [0, 1] rfl rfl (by decide) (by decide) (by decide) (fun _ => rfl) (fun _ => rfl) (fun r u hr => ?_)
    unfold p_RM_itemByte at hr
    subst hr
    refine ig_istore (lv' := [(8, .int (sp_byte tX b)), (0, .ref o0), (2, .int (nI a)), (3, .int x), (4, .int (nI b)), (5, .int (bI tu)), (7, .int (bI fo))]) hx hb d_RM_isInSet_52 (by decide) rfl ?_
    refine ig_iload hx hb 0 d_RM_isInSet_54 rfl ?_
    refine ig_istore (lv' := [(9, .int (sp_byte tX b)), (8, .int (sp_byte tX b)), (0, .ref o0), (2, .int (nI a)), (3, .int x), (4, .int (nI b)), (5, .int (bI tu)), (7, .int (bI fo))]) hx hb d_RM_isInSet_56 (by decide) rfl ?_
    refine ig_aload_n hx hb 2 d_RM_isInSet_58 rfl rfl ?_
    refine ig_iload hx hb 5 d_RM_isInSet_59 rfl ?_
    obtain ⟨hc, hv⟩ := hv
    refine ig_cVi (As := [.int (nI b)]) (rest := []) (wr := []) (ws' := fun u => [(o0, .inr (ciRM, [.int th, .ref ra, .int si, .ref rx, .ref rf, .ref rt, .ref rb, .ref rl, .int ru, .ref rp, .ref ru_, .ref rv, .int na, .int nx, .int so, .ref rr, .ref rs, .ref rg, .ref rh, .int pa, .ref rz, .ref ry, .int bz, .int de, .int dp, .int io])), (rx, .inl (cI, 1000, .inl tX))]) hx hb hml hown hts hK hN hA (fun sz => c_RM_itemEnd l dC dI cC cI cZ cL o0 ra rx rf rt rb rl rp ru_ rv rr rs rg rh rz ry th si ru na nx so pa bz de dp io tX b sz hc) ⟨callB_of 1 hts g_RM_itemEnd rfl rfl rfl (hts _ kw_0_5) (hts _ kw_2_45) (by decide +kernel) (by decide), (hts _ kw_2_47), (hts _ ks_RM_itemEnd)⟩ rfl rfl (Nat.le_of_ble_eq_true rfl) d_RM_isInSet_61 (by decide) 0 rfl rfl [0, 1] [] [0, 1] rfl rfl (by decide) (by decide) (by decide) (fun _ => rfl) (fun _ => rfl) (fun r u hr => ?_)
    obtain ⟨rr, rfl, hr⟩ := hr
    unfold p_RM_itemEnd at hr
    subst hr
    refine ig_istore (lv' := [(4, .int (nI (sp_tok tX b))), (9, .int (sp_byte tX b)), (8, .int (sp_byte tX b)), (0, .ref o0), (2, .int (nI a)), (3, .int x), (5, .int (bI tu)), (7, .int (bI fo))]) hx hb d_RM_isInSet_64 (by decide) rfl ?_
    refine ig_iconst (v := 0) hx hb d_RM_isInSet_66 (by decide) ?_
    refine ig_istore (lv' := [(6, .int 0), (4, .int (nI (sp_tok tX b))), (9, .int (sp_byte tX b)), (8, .int (sp_byte tX b)), (0, .ref o0), (2, .int (nI a)), (3, .int x), (5, .int (bI tu)), (7, .int (bI fo))]) hx hb d_RM_isInSet_67 (by decide) rfl ?_
    refine ig_aload_n hx hb 4 d_RM_isInSet_69 rfl rfl ?_
    refine ig_iload hx hb 1 d_RM_isInSet_70 rfl ?_
    refine ig_iload_n hx hb 5 d_RM_isInSet_72 rfl rfl ?_
    obtain ⟨hc, hv⟩ := hv
    refine ig_cVi (As := [.int (nI (sp_tok tX b)), .int (nI a)]) (rest := []) (wr := []) (ws' := fun u => [(o0, .inr (ciRM, [.int th, .ref ra, .int si, .ref rx, .ref rf, .ref rt, .ref rb, .ref rl, .int ru, .ref rp, .ref ru_, .ref rv, .int na, .int nx, .int so, .ref rr, .ref rs, .ref rg, .ref rh, .int pa, .ref rz, .ref ry, .int bz, .int de, .int dp, .int io])), (rx, .inl (cI, 1000, .inl tX))]) hx hb hml hown hts hK hN hA (fun sz => c_RM_isRow l dC dI cC cI cZ cL o0 ra rx rf rt rb rl rp ru_ rv rr rs rg rh rz ry th si ru na nx so pa bz de dp io tX (sp_tok tX b) a sz hc) ⟨callB_of 2 hts g_RM_isRow rfl rfl rfl (hts _ kw_0_5) (hts _ kw_2_49) (by decide +kernel) (by decide), (hts _ kw_2_51), (hts _ ks_RM_isRow)⟩ rfl rfl (Nat.le_of_ble_eq_true rfl) d_RM_isInSet_73 (by decide) 0 rfl rfl [0, 1] [] [0, 1] rfl rfl (by decide) (by decide) (by decide) (fun _ => rfl) (fun _ => rfl) (fun r u hr => ?_)
    obtain ⟨rr, rfl, hr⟩ := hr
    unfold p_RM_isRow at hr
    subst hr
    refine ig_if_eqB (tgt := 99) hx hb (sp_row tX a (sp_tok tX b)) rfl d_RM_isInSet_76 (by decide) (fun h => ?_) (fun h => ?_)
    · have hv := hv.1 h
      refine ig_lv (lv' := [(0, .ref o0), (2, .int (nI a)), (3, .int x), (4, .int (nI (sp_tok tX b))), (5, .int (bI tu)), (6, .int 0), (7, .int (bI fo)), (8, .int (sp_byte tX b)), (9, .int (sp_byte tX b))]) [4, 5, 6, 1, 7, 0, 8, 3, 2] rfl ?_
      exact j99 _ _ _ _ _ _ hv
    · have hv := hv.2 h
      refine ig_aload_n hx hb 4 d_RM_isInSet_79 rfl rfl ?_
      refine ig_iload hx hb 1 d_RM_isInSet_80 rfl ?_
      refine ig_iconst (v := 1) hx hb d_RM_isInSet_82 (by decide) ?_
      refine ig_iaddN hx hb (sp_tok tX b) 1 rfl rfl d_RM_isInSet_83 ?_
      obtain ⟨hc, hv⟩ := hv
      refine ig_cVi (As := [.int (nI ((sp_tok tX b) + 1))]) (rest := []) (wr := []) (ws' := fun u => [(o0, .inr (ciRM, [.int th, .ref ra, .int si, .ref rx, .ref rf, .ref rt, .ref rb, .ref rl, .int ru, .ref rp, .ref ru_, .ref rv, .int na, .int nx, .int so, .ref rr, .ref rs, .ref rg, .ref rh, .int pa, .ref rz, .ref ry, .int bz, .int de, .int dp, .int io])), (rx, .inl (cI, 1000, .inl tX))]) hx hb hml hown hts hK hN hA (fun sz => c_RM_itemByte l dC dI cC cI cZ cL o0 ra rx rf rt rb rl rp ru_ rv rr rs rg rh rz ry th si ru na nx so pa bz de dp io tX ((sp_tok tX b) + 1) sz hc) ⟨callB_of 1 hts g_RM_itemByte rfl rfl rfl (hts _ kw_0_5) (hts _ kw_2_101) (by decide +kernel) (by decide), (hts _ kw_2_103), (hts _ ks_RM_itemByte)⟩ rfl rfl (Nat.le_of_ble_eq_true rfl) d_RM_isInSet_84 (by decide) 0 rfl rfl [0, 1] [] [0, 1] rfl rfl (by decide) (by decide) (by decide) (fun _ => rfl) (fun _ => rfl) (fun r u hr => ?_)
      unfold p_RM_itemByte at hr
      subst hr
      refine ig_istore (lv' := [(9, .int (sp_byte tX ((sp_tok tX b) + 1))), (6, .int 0), (4, .int (nI (sp_tok tX b))), (8, .int (sp_byte tX b)), (0, .ref o0), (2, .int (nI a)), (3, .int x), (5, .int (bI tu)), (7, .int (bI fo))]) hx hb d_RM_isInSet_87 (by decide) rfl ?_
      refine ig_aload_n hx hb 4 d_RM_isInSet_89 rfl rfl ?_
      refine ig_iload hx hb 2 d_RM_isInSet_90 rfl ?_
      refine ig_iconst (v := 1) hx hb d_RM_isInSet_92 (by decide) ?_
      refine ig_iaddN hx hb (sp_tok tX b) 1 rfl rfl d_RM_isInSet_93 ?_
      obtain ⟨hc, hv⟩ := hv
      refine ig_cVi (As := [.int (nI ((sp_tok tX b) + 1))]) (rest := []) (wr := []) (ws' := fun u => [(o0, .inr (ciRM, [.int th, .ref ra, .int si, .ref rx, .ref rf, .ref rt, .ref rb, .ref rl, .int ru, .ref rp, .ref ru_, .ref rv, .int na, .int nx, .int so, .ref rr, .ref rs, .ref rg, .ref rh, .int pa, .ref rz, .ref ry, .int bz, .int de, .int dp, .int io])), (rx, .inl (cI, 1000, .inl tX))]) hx hb hml hown hts hK hN hA (fun sz => c_RM_itemEnd l dC dI cC cI cZ cL o0 ra rx rf rt rb rl rp ru_ rv rr rs rg rh rz ry th si ru na nx so pa bz de dp io tX ((sp_tok tX b) + 1) sz hc) ⟨callB_of 1 hts g_RM_itemEnd rfl rfl rfl (hts _ kw_0_5) (hts _ kw_2_45) (by decide +kernel) (by decide), (hts _ kw_2_47), (hts _ ks_RM_itemEnd)⟩ rfl rfl (Nat.le_of_ble_eq_true rfl) d_RM_isInSet_94 (by decide) 0 rfl rfl [0, 1] [] [0, 1] rfl rfl (by decide) (by decide) (by decide) (fun _ => rfl) (fun _ => rfl) (fun r u hr => ?_)
      obtain ⟨rr, rfl, hr⟩ := hr
      unfold p_RM_itemEnd at hr
      subst hr
      refine ig_istore (lv' := [(4, .int (nI (sp_tok tX ((sp_tok tX b) + 1)))), (9, .int (sp_byte tX ((sp_tok tX b) + 1))), (6, .int 0), (8, .int (sp_byte tX b)), (0, .ref o0), (2, .int (nI a)), (3, .int x), (5, .int (bI tu)), (7, .int (bI fo))]) hx hb d_RM_isInSet_97 (by decide) rfl ?_
      refine ig_lv (lv' := [(0, .ref o0), (2, .int (nI a)), (3, .int x), (4, .int (nI (sp_tok tX ((sp_tok tX b) + 1)))), (5, .int (bI tu)), (6, .int 0), (7, .int (bI fo)), (8, .int (sp_byte tX b)), (9, .int (sp_byte tX ((sp_tok tX b) + 1)))]) [4, 5, 6, 0, 7, 2, 8, 3, 1] rfl ?_
      exact j99 _ _ _ _ _ _ hv
  have k29 : ∀ (b : Nat) (tu : Bool) (fi : Bool) (fo : Bool), v_RM_isInSet_29 tX k a x K29 (p_RM_isInSet tX k a x) b tu fi fo → K29 b tu fi fo := by
    intro b tu fi fo hv
    unfold v_RM_isInSet_29 at hv
    rw [hK29]
    show ig_W zp l ze ({ frames := 1, cells := 0, slots := 0, locals := 22 }) zs zm zargs zbelow zmeth zc (dC, dI) ig_cl0 zA zs.heap 10 0 0 zQ 29 [(0, .ref o0), (2, .int (nI a)), (3, .int x), (4, .int (nI b)), (5, .int (bI tu)), (6, .int (bI fi)), (7, .int (bI fo))] [] [(o0, .inr (ciRM, [.int th, .ref ra, .int si, .ref rx, .ref rf, .ref rt, .ref rb, .ref rl, .int ru, .ref rp, .ref ru_, .ref rv, .int na, .int nx, .int so, .ref rr, .ref rs, .ref rg, .ref rh, .int pa, .ref rz, .ref ry, .int bz, .int de, .int dp, .int io])), (rx, .inl (cI, 1000, .inl tX))]
    refine ig_iload hx hb 5 d_RM_isInSet_29 rfl ?_
    refine ig_if_neB (tgt := 46) hx hb fi rfl d_RM_isInSet_31 (by decide) (fun h => ?_) (fun h => ?_)
    · have hv := hv.1 h
      refine ig_lv (lv' := [(0, .ref o0), (2, .int (nI a)), (3, .int x), (4, .int (nI b)), (5, .int (bI tu)), (7, .int (bI fo))]) [0, 1, 2, 3, 4, 6] rfl ?_
      exact j46 _ _ _ hv
    · have hv := hv.2 h
      refine ig_aload_n hx hb 0 d_RM_isInSet_34 rfl rfl ?_
      refine ig_get hx hb hts in_RM hown hK 0 rfl rfl 3 (by decide) (hts _ kw_1_148) (fun _ h => h) rfl d_RM_isInSet_35 ?_
      refine ig_iload hx hb 3 d_RM_isInSet_38 rfl ?_
      obtain ⟨hc, hv⟩ := hv
      refine ig_iald (x := (tX b)) hx hb hK 1 1 rfl rfl b rfl hc (by decide) rfl d_RM_isInSet_40 ?_
      refine ig_bipush (v := 93) hx hb d_RM_isInSet_41 (by decide) ?_
      refine ig_icmp_eq (tgt := 126) hx hb d_RM_isInSet_43 (by decide) (fun h => ?_) (fun h => ?_)
      · have hv := hv.1 h
        refine ig_iload hx hb 6 d_RM_isInSet_126 rfl ?_
        refine ig_iload hx hb 4 d_RM_isInSet_128 rfl ?_
        refine ig_icmp_eqB (tgt := 137) hx hb fo tu rfl rfl d_RM_isInSet_130 (by decide) (fun h => ?_) (fun h => ?_)
        · have hv := hv.1 h
          refine ig_iconst (v := 0) hx hb d_RM_isInSet_137 (by decide) ?_
          exact hret 138 _ 0 () d_RM_isInSet_138 ⟨false, rfl, hv⟩
        · have hv := hv.2 h
          refine ig_iconst (v := 1) hx hb d_RM_isInSet_133 (by decide) ?_
          refine ig_goto (tgt := 138) hx hb d_RM_isInSet_134 (by decide) ?_
          exact hret 138 _ 1 () d_RM_isInSet_138 ⟨true, rfl, hv⟩
      · have hv := hv.2 h
        refine ig_lv (lv' := [(0, .ref o0), (2, .int (nI a)), (3, .int x), (4, .int (nI b)), (5, .int (bI tu)), (7, .int (bI fo))]) [0, 1, 2, 3, 4, 6] rfl ?_
        exact j46 _ _ _ hv
  have hv := t_RM_isInSet tX k a x hr K29 k29
  unfold v_RM_isInSet at hv
  refine ig_aload_n hx hb 0 d_RM_isInSet_0 rfl rfl ?_
  refine ig_iload_n hx hb 1 d_RM_isInSet_1 rfl rfl ?_
  refine ig_iload_n hx hb 2 d_RM_isInSet_2 rfl rfl ?_
  obtain ⟨hc, hv⟩ := hv
  refine ig_cVi (As := [.int (nI k), .int (nI a)]) (rest := []) (wr := []) (ws' := fun u => [(o0, .inr (ciRM, [.int th, .ref ra, .int si, .ref rx, .ref rf, .ref rt, .ref rb, .ref rl, .int ru, .ref rp, .ref ru_, .ref rv, .int na, .int nx, .int so, .ref rr, .ref rs, .ref rg, .ref rh, .int pa, .ref rz, .ref ry, .int bz, .int de, .int dp, .int io])), (rx, .inl (cI, 1000, .inl tX))]) hx hb hml hown hts hK hN hA (fun sz => c_RM_itemsFrom l dC dI cC cI cZ cL o0 ra rx rf rt rb rl rp ru_ rv rr rs rg rh rz ry th si ru na nx so pa bz de dp io tX k a sz hc) ⟨callB_of 2 hts g_RM_itemsFrom rfl rfl rfl (hts _ kw_0_5) (hts _ kw_2_41) (by decide +kernel) (by decide), (hts _ kw_2_43), (hts _ ks_RM_itemsFrom)⟩ rfl rfl (Nat.le_of_ble_eq_true rfl) d_RM_isInSet_3 (by decide) 0 rfl rfl [0, 1] [] [0, 1] rfl rfl (by decide) (by decide) (by decide) (fun _ => rfl) (fun _ => rfl) (fun r u hr => ?_)
  obtain ⟨rr, rfl, hr⟩ := hr
  unfold p_RM_itemsFrom at hr
  subst hr
  refine ig_istore (lv' := [(4, .int (nI (sp_sf tX a k))), (0, .ref o0), (1, .int (nI k)), (2, .int (nI a)), (3, .int x)]) hx hb d_RM_isInSet_6 (by decide) rfl ?_
  refine ig_iload hx hb 0 d_RM_isInSet_8 rfl ?_
  refine ig_iload_n hx hb 2 d_RM_isInSet_10 rfl rfl ?_
  refine ig_iconst (v := 2) hx hb d_RM_isInSet_11 (by decide) ?_
  refine ig_iaddN hx hb k 2 rfl rfl d_RM_isInSet_12 ?_
  obtain ⟨h1, hv⟩ := hv
  obtain ⟨h2, hv⟩ := hv
  refine ig_icmp_neN (tgt := 20) hx hb (sp_sf tX a k) (k + 2) rfl rfl d_RM_isInSet_13 (by decide) h1 h2 (fun h => ?_) (fun h => ?_)
  · have hv := hv.1 h
    refine ig_iconst (v := 0) hx hb d_RM_isInSet_20 (by decide) ?_
    refine ig_lv (lv' := [(0, .ref o0), (2, .int (nI a)), (3, .int x), (4, .int (nI (sp_sf tX a k)))]) [1, 3, 4, 0] rfl ?_
    exact j21 _ _ hv
  · have hv := hv.2 h
    refine ig_iconst (v := 1) hx hb d_RM_isInSet_16 (by decide) ?_
    refine ig_goto (tgt := 21) hx hb d_RM_isInSet_17 (by decide) ?_
    refine ig_lv (lv' := [(0, .ref o0), (2, .int (nI a)), (3, .int x), (4, .int (nI (sp_sf tX a k)))]) [1, 3, 4, 0] rfl ?_
    exact j21 _ _ hv
theorem d_RM_look_0 : decode b_RM_look 0 = .ok (.aload_n 0, 1) := by decide +kernel
theorem d_RM_look_1 : decode b_RM_look 1 = .ok (.getfield 13, 3) := by decide +kernel
theorem d_RM_look_4 : decode b_RM_look 4 = .ok (.iload_n 1, 1) := by decide +kernel
theorem d_RM_look_5 : decode b_RM_look 5 = .ok (.iaload, 1) := by decide +kernel
theorem d_RM_look_6 : decode b_RM_look 6 = .ok (.istore_n 3, 1) := by decide +kernel
theorem d_RM_look_7 : decode b_RM_look 7 = .ok (.aload_n 0, 1) := by decide +kernel
theorem d_RM_look_8 : decode b_RM_look 8 = .ok (.iload_n 1, 1) := by decide +kernel
theorem d_RM_look_9 : decode b_RM_look 9 = .ok (.iconst 1, 1) := by decide +kernel
theorem d_RM_look_10 : decode b_RM_look 10 = .ok (.iadd, 1) := by decide +kernel
theorem d_RM_look_11 : decode b_RM_look 11 = .ok (.putfield 65, 3) := by decide +kernel
theorem d_RM_look_14 : decode b_RM_look 14 = .ok (.aload_n 0, 1) := by decide +kernel
theorem d_RM_look_15 : decode b_RM_look 15 = .ok (.iload_n 3, 1) := by decide +kernel
theorem d_RM_look_16 : decode b_RM_look 16 = .ok (.bipush 63, 2) := by decide +kernel
theorem d_RM_look_18 : decode b_RM_look 18 = .ok (.if_icmp .ne 7, 3) := by decide +kernel
theorem d_RM_look_21 : decode b_RM_look 21 = .ok (.iconst 1, 1) := by decide +kernel
theorem d_RM_look_22 : decode b_RM_look 22 = .ok (.goto 14, 3) := by decide +kernel
theorem d_RM_look_25 : decode b_RM_look 25 = .ok (.iload_n 3, 1) := by decide +kernel
theorem d_RM_look_26 : decode b_RM_look 26 = .ok (.bipush 42, 2) := by decide +kernel
theorem d_RM_look_28 : decode b_RM_look 28 = .ok (.if_icmp .ne 7, 3) := by decide +kernel
theorem d_RM_look_31 : decode b_RM_look 31 = .ok (.iconst 2, 1) := by decide +kernel
theorem d_RM_look_32 : decode b_RM_look 32 = .ok (.goto 4, 3) := by decide +kernel
theorem d_RM_look_35 : decode b_RM_look 35 = .ok (.iconst 0, 1) := by decide +kernel
theorem d_RM_look_36 : decode b_RM_look 36 = .ok (.putfield 68, 3) := by decide +kernel
theorem d_RM_look_39 : decode b_RM_look 39 = .ok (.iload_n 3, 1) := by decide +kernel
theorem d_RM_look_40 : decode b_RM_look 40 = .ok (.bipush 92, 2) := by decide +kernel
theorem d_RM_look_42 : decode b_RM_look 42 = .ok (.if_icmp .ne 29, 3) := by decide +kernel
theorem d_RM_look_45 : decode b_RM_look 45 = .ok (.aload_n 0, 1) := by decide +kernel
theorem d_RM_look_46 : decode b_RM_look 46 = .ok (.iload_n 1, 1) := by decide +kernel
theorem d_RM_look_47 : decode b_RM_look 47 = .ok (.iconst 1, 1) := by decide +kernel
theorem d_RM_look_48 : decode b_RM_look 48 = .ok (.iadd, 1) := by decide +kernel
theorem d_RM_look_49 : decode b_RM_look 49 = .ok (.iload_n 2, 1) := by decide +kernel
theorem d_RM_look_50 : decode b_RM_look 50 = .ok (.if_icmp .ge 7, 3) := by decide +kernel
theorem d_RM_look_53 : decode b_RM_look 53 = .ok (.iconst 0, 1) := by decide +kernel
theorem d_RM_look_54 : decode b_RM_look 54 = .ok (.goto 4, 3) := by decide +kernel
theorem d_RM_look_57 : decode b_RM_look 57 = .ok (.iconst 4, 1) := by decide +kernel
theorem d_RM_look_58 : decode b_RM_look 58 = .ok (.putfield 68, 3) := by decide +kernel
theorem d_RM_look_61 : decode b_RM_look 61 = .ok (.aload_n 0, 1) := by decide +kernel
theorem d_RM_look_62 : decode b_RM_look 62 = .ok (.iload_n 1, 1) := by decide +kernel
theorem d_RM_look_63 : decode b_RM_look 63 = .ok (.iconst 2, 1) := by decide +kernel
theorem d_RM_look_64 : decode b_RM_look 64 = .ok (.iadd, 1) := by decide +kernel
theorem d_RM_look_65 : decode b_RM_look 65 = .ok (.putfield 65, 3) := by decide +kernel
theorem d_RM_look_68 : decode b_RM_look 68 = .ok (.goto 36, 3) := by decide +kernel
theorem d_RM_look_71 : decode b_RM_look 71 = .ok (.iload_n 3, 1) := by decide +kernel
theorem d_RM_look_72 : decode b_RM_look 72 = .ok (.bipush 91, 2) := by decide +kernel
theorem d_RM_look_74 : decode b_RM_look 74 = .ok (.if_icmp .ne 30, 3) := by decide +kernel
theorem d_RM_look_77 : decode b_RM_look 77 = .ok (.aload_n 0, 1) := by decide +kernel
theorem d_RM_look_78 : decode b_RM_look 78 = .ok (.aload_n 0, 1) := by decide +kernel
theorem d_RM_look_79 : decode b_RM_look 79 = .ok (.iload_n 1, 1) := by decide +kernel
theorem d_RM_look_80 : decode b_RM_look 80 = .ok (.iload_n 2, 1) := by decide +kernel
theorem d_RM_look_81 : decode b_RM_look 81 = .ok (.invokevirtual 71, 3) := by decide +kernel
theorem d_RM_look_84 : decode b_RM_look 84 = .ok (.putfield 65, 3) := by decide +kernel
theorem d_RM_look_87 : decode b_RM_look 87 = .ok (.aload_n 0, 1) := by decide +kernel
theorem d_RM_look_88 : decode b_RM_look 88 = .ok (.aload_n 0, 1) := by decide +kernel
theorem d_RM_look_89 : decode b_RM_look 89 = .ok (.getfield 65, 3) := by decide +kernel
theorem d_RM_look_92 : decode b_RM_look 92 = .ok (.iload_n 2, 1) := by decide +kernel
theorem d_RM_look_93 : decode b_RM_look 93 = .ok (.if_icmp .le 7, 3) := by decide +kernel
theorem d_RM_look_96 : decode b_RM_look 96 = .ok (.iconst 4, 1) := by decide +kernel
theorem d_RM_look_97 : decode b_RM_look 97 = .ok (.goto 4, 3) := by decide +kernel
theorem d_RM_look_100 : decode b_RM_look 100 = .ok (.iconst 3, 1) := by decide +kernel
theorem d_RM_look_101 : decode b_RM_look 101 = .ok (.putfield 68, 3) := by decide +kernel
theorem d_RM_look_104 : decode b_RM_look 104 = .ok (.return_, 1) := by decide +kernel
abbrev w_RM_look : List Cond := Cond.code y_RM_look b_RM_look 4 none :: ig_T
theorem g_RM_look : GoodIn ig_T w_RM_look := ig_T_good (ig_T_mem (List.mem_append_right _ (List.mem_append_right _ (List.mem_of_getElem? (i := 36) rfl))) rfl)
set_option maxHeartbeats 4000000 in
set_option maxRecDepth 100000 in
theorem c_RM_look (l : Launch) (dC : Nat → ClassId) (dI : Nat → Nat → Nat) (cC cI cZ cL : ClassId) (o0 ra rx rf rt rb rl rp ru_ rv rr rs rg rh rz ry : Nat) (th : Int32) (si : Int32) (ru : Int32) (na : Int32) (pa : Int32) (bz : Int32) (de : Int32) (dp : Int32) (io : Int32) (nx : Nat) (so : Nat) (tX : Nat → Int32) (k : Nat) (a : Nat) (sz : Nat) (hr : r_RM_look nx so tX k a) : Met l y_RM_look w_RM_look ({ frames := 2, cells := 0, slots := 0, locals := 46 }) (ig_Pc (dC, dI) ig_cl0 [(cC, .char), (cI, .int), (cZ, .boolean), (cL, .long)] [.ref o0, .int (nI k), .int (nI a)] [(o0, .inr (ciRM, [.int th, .ref ra, .int si, .ref rx, .ref rf, .ref rt, .ref rb, .ref rl, .int ru, .ref rp, .ref ru_, .ref rv, .int na, .int (nI nx), .int (nI so), .ref rr, .ref rs, .ref rg, .ref rh, .int pa, .ref rz, .ref ry, .int bz, .int de, .int dp, .int io])), (rx, .inl (cI, 1000, .inl tX))] sz) (va_Qv (fun (u : Nat × Nat) => p_RM_look nx so tX k a u.1 u.2) (fun u t => va_P (dC, dI) ig_cl0 ((fun (u : Nat × Nat) => [(o0, .inr (ciRM, [.int th, .ref ra, .int si, .ref rx, .ref rf, .ref rt, .ref rb, .ref rl, .int ru, .ref rp, .ref ru_, .ref rv, .int na, .int (nI u.1), .int (nI u.2), .ref rr, .ref rs, .ref rg, .ref rh, .int pa, .ref rz, .ref ry, .int bz, .int de, .int dp, .int io])), (rx, .inl (cI, 1000, .inl tX))]) u) t.heap ∧ va_D (va_A [(o0, .inr (ciRM, [.int th, .ref ra, .int si, .ref rx, .ref rf, .ref rt, .ref rb, .ref rl, .int ru, .ref rp, .ref ru_, .ref rv, .int na, .int (nI nx), .int (nI so), .ref rr, .ref rs, .ref rg, .ref rh, .int pa, .ref rz, .ref ry, .int bz, .int de, .int dp, .int io])), (rx, .inl (cI, 1000, .inl tX))] sz) ((fun (u : Nat × Nat) => [(o0, .inr (ciRM, [.int th, .ref ra, .int si, .ref rx, .ref rf, .ref rt, .ref rb, .ref rl, .int ru, .ref rp, .ref ru_, .ref rv, .int na, .int (nI u.1), .int (nI u.2), .ref rr, .ref rs, .ref rg, .ref rh, .int pa, .ref rz, .ref ry, .int bz, .int de, .int dp, .int io])), (rx, .inl (cI, 1000, .inl tX))]) u)) (va_A [(o0, .inr (ciRM, [.int th, .ref ra, .int si, .ref rx, .ref rf, .ref rt, .ref rb, .ref rl, .int ru, .ref rp, .ref ru_, .ref rv, .int na, .int (nI nx), .int (nI so), .ref rr, .ref rs, .ref rg, .ref rh, .int pa, .ref rz, .ref ry, .int bz, .int de, .int dp, .int io])), (rx, .inl (cI, 1000, .inl tX))] sz)) 0 0 (va_A [(o0, .inr (ciRM, [.int th, .ref ra, .int si, .ref rx, .ref rf, .ref rt, .ref rb, .ref rl, .int ru, .ref rp, .ref ru_, .ref rv, .int na, .int (nI nx), .int (nI so), .ref rr, .ref rs, .ref rg, .ref rh, .int pa, .ref rz, .ref ry, .int bz, .int de, .int dp, .int io])), (rx, .inl (cI, 1000, .inl tX))] sz) := by
  refine ig_metV (fun (u : Nat × Nat) => p_RM_look nx so tX k a u.1 u.2) (fun (u : Nat × Nat) => [(o0, .inr (ciRM, [.int th, .ref ra, .int si, .ref rx, .ref rf, .ref rt, .ref rb, .ref rl, .int ru, .ref rp, .ref ru_, .ref rv, .int na, .int (nI u.1), .int (nI u.2), .ref rr, .ref rs, .ref rg, .ref rh, .int pa, .ref rz, .ref ry, .int bz, .int de, .int dp, .int io])), (rx, .inl (cI, 1000, .inl tX))]) (by decide) rfl (Nat.le_of_ble_eq_true rfl) rfl ?_
  intro zp ze zs zm zargs zbelow zmeth zc zA zQ hx hb hml hown hts hK hN hA hret
  have j58 : ∀ (s0 : Nat) (nxc : Nat) (soc : Nat), v_RM_look_58 nx so tX k a (p_RM_look nx so tX k a) s0 nxc soc → ig_W zp l ze ({ frames := 2, cells := 0, slots := 0, locals := 46 }) zs zm zargs zbelow zmeth zc (dC, dI) ig_cl0 zA zs.heap 4 0 0 zQ 58 [(0, .ref o0), (1, .int (nI k))] [.int (nI s0), .ref o0] [(o0, .inr (ciRM, [.int th, .ref ra, .int si, .ref rx, .ref rf, .ref rt, .ref rb, .ref rl, .int ru, .ref rp, .ref ru_, .ref rv, .int na, .int (nI nxc), .int (nI soc), .ref rr, .ref rs, .ref rg, .ref rh, .int pa, .ref rz, .ref ry, .int bz, .int de, .int dp, .int io])), (rx, .inl (cI, 1000, .inl tX))] := by
    intro s0 nxc soc hv
    unfold v_RM_look_58 at hv
    refine ig_put (ty := .int) (v := .int (nI s0)) (ws' := [(o0, .inr (ciRM, [.int th, .ref ra, .int si, .ref rx, .ref rf, .ref rt, .ref rb, .ref rl, .int ru, .ref rp, .ref ru_, .ref rv, .int na, .int (nI nxc), .int (nI s0), .ref rr, .ref rs, .ref rg, .ref rh, .int pa, .ref rz, .ref ry, .int bz, .int de, .int dp, .int io])), (rx, .inl (cI, 1000, .inl tX))]) hx hb hts in_RM t_RM t_RM_ok n_RM hown hK 0 rfl rfl 14 (by decide) (hts _ kw_1_159) (fun _ h => h) rfl (by decide +kernel) rfl rfl (Nat.le_of_ble_eq_true rfl) d_RM_look_58 rfl ?_
    refine ig_aload_n hx hb 0 d_RM_look_61 rfl rfl ?_
    refine ig_iload_n hx hb 1 d_RM_look_62 rfl rfl ?_
    refine ig_iconst (v := 2) hx hb d_RM_look_63 (by decide) ?_
    refine ig_iaddN hx hb k 2 rfl rfl d_RM_look_64 ?_
    refine ig_put (ty := .int) (v := .int (nI (k + 2))) (ws' := [(o0, .inr (ciRM, [.int th, .ref ra, .int si, .ref rx, .ref rf, .ref rt, .ref rb, .ref rl, .int ru, .ref rp, .ref ru_, .ref rv, .int na, .int (nI (k + 2)), .int (nI s0), .ref rr, .ref rs, .ref rg, .ref rh, .int pa, .ref rz, .ref ry, .int bz, .int de, .int dp, .int io])), (rx, .inl (cI, 1000, .inl tX))]) hx hb hts in_RM t_RM t_RM_ok n_RM hown hK 0 rfl rfl 13 (by decide) (hts _ kw_1_158) (fun _ h => h) rfl (by decide +kernel) rfl rfl (Nat.le_of_ble_eq_true rfl) d_RM_look_65 rfl ?_
    refine ig_goto (tgt := 104) hx hb d_RM_look_68 (by decide) ?_
    exact hret 104 _ (k + 2, s0) d_RM_look_104 hv
  have j101 : ∀ (s0 : Nat) (nxc : Nat) (soc : Nat), v_RM_look_101 nx so tX k a (p_RM_look nx so tX k a) s0 nxc soc → ig_W zp l ze ({ frames := 2, cells := 0, slots := 0, locals := 46 }) zs zm zargs zbelow zmeth zc (dC, dI) ig_cl0 zA zs.heap 4 0 0 zQ 101 [] [.int (nI s0), .ref o0] [(o0, .inr (ciRM, [.int th, .ref ra, .int si, .ref rx, .ref rf, .ref rt, .ref rb, .ref rl, .int ru, .ref rp, .ref ru_, .ref rv, .int na, .int (nI nxc), .int (nI soc), .ref rr, .ref rs, .ref rg, .ref rh, .int pa, .ref rz, .ref ry, .int bz, .int de, .int dp, .int io])), (rx, .inl (cI, 1000, .inl tX))] := by
    intro s0 nxc soc hv
    unfold v_RM_look_101 at hv
    refine ig_put (ty := .int) (v := .int (nI s0)) (ws' := [(o0, .inr (ciRM, [.int th, .ref ra, .int si, .ref rx, .ref rf, .ref rt, .ref rb, .ref rl, .int ru, .ref rp, .ref ru_, .ref rv, .int na, .int (nI nxc), .int (nI s0), .ref rr, .ref rs, .ref rg, .ref rh, .int pa, .ref rz, .ref ry, .int bz, .int de, .int dp, .int io])), (rx, .inl (cI, 1000, .inl tX))]) hx hb hts in_RM t_RM t_RM_ok n_RM hown hK 0 rfl rfl 14 (by decide) (hts _ kw_1_159) (fun _ h => h) rfl (by decide +kernel) rfl rfl (Nat.le_of_ble_eq_true rfl) d_RM_look_101 rfl ?_
    exact hret 104 _ (nxc, s0) d_RM_look_104 hv
  have j36 : ∀ (x : Int32) (s0 : Nat) (nxc : Nat) (soc : Nat), v_RM_look_36 nx so tX k a (p_RM_look nx so tX k a) x s0 nxc soc → ig_W zp l ze ({ frames := 2, cells := 0, slots := 0, locals := 46 }) zs zm zargs zbelow zmeth zc (dC, dI) ig_cl0 zA zs.heap 4 0 0 zQ 36 [(0, .ref o0), (1, .int (nI k)), (2, .int (nI a)), (3, .int x)] [.int (nI s0), .ref o0] [(o0, .inr (ciRM, [.int th, .ref ra, .int si, .ref rx, .ref rf, .ref rt, .ref rb, .ref rl, .int ru, .ref rp, .ref ru_, .ref rv, .int na, .int (nI nxc), .int (nI soc), .ref rr, .ref rs, .ref rg, .ref rh, .int pa, .ref rz, .ref ry, .int bz, .int de, .int dp, .int io])), (rx, .inl (cI, 1000, .inl tX))] := by
    intro x s0 nxc soc hv
    unfold v_RM_look_36 at hv
    refine ig_put (ty := .int) (v := .int (nI s0)) (ws' := [(o0, .inr (ciRM, [.int th, .ref ra, .int si, .ref rx, .ref rf, .ref rt, .ref rb, .ref rl, .int ru, .ref rp, .ref ru_, .ref rv, .int na, .int (nI nxc), .int (nI s0), .ref rr, .ref rs, .ref rg, .ref rh, .int pa, .ref rz, .ref ry, .int bz, .int de, .int dp, .int io])), (rx, .inl (cI, 1000, .inl tX))]) hx hb hts in_RM t_RM t_RM_ok n_RM hown hK 0 rfl rfl 14 (by decide) (hts _ kw_1_159) (fun _ h => h) rfl (by decide +kernel) rfl rfl (Nat.le_of_ble_eq_true rfl) d_RM_look_36 rfl ?_
    refine ig_iload_n hx hb 3 d_RM_look_39 rfl rfl ?_
    refine ig_bipush (v := 92) hx hb d_RM_look_40 (by decide) ?_
    refine ig_icmp_ne (tgt := 71) hx hb d_RM_look_42 (by decide) (fun h => ?_) (fun h => ?_)
    · have hv := hv.1 h
      refine ig_iload_n hx hb 3 d_RM_look_71 rfl rfl ?_
      refine ig_bipush (v := 91) hx hb d_RM_look_72 (by decide) ?_
      refine ig_icmp_ne (tgt := 104) hx hb d_RM_look_74 (by decide) (fun h => ?_) (fun h => ?_)
      · have hv := hv.1 h
        exact hret 104 _ (nxc, s0) d_RM_look_104 hv
      · have hv := hv.2 h
        refine ig_aload_n hx hb 0 d_RM_look_77 rfl rfl ?_
        refine ig_aload_n hx hb 0 d_RM_look_78 rfl rfl ?_
        refine ig_iload_n hx hb 1 d_RM_look_79 rfl rfl ?_
        refine ig_iload_n hx hb 2 d_RM_look_80 rfl rfl ?_
        obtain ⟨hc, hv⟩ := hv
        refine ig_cVi (As := [.int (nI k), .int (nI a)]) (rest := [.ref o0]) (wr := []) (ws' := fun u => [(o0, .inr (ciRM, [.int th, .ref ra, .int si, .ref rx, .ref rf, .ref rt, .ref rb, .ref rl, .int ru, .ref rp, .ref ru_, .ref rv, .int na, .int (nI nxc), .int (nI s0), .ref rr, .ref rs, .ref rg, .ref rh, .int pa, .ref rz, .ref ry, .int bz, .int de, .int dp, .int io])), (rx, .inl (cI, 1000, .inl tX))]) hx hb hml hown hts hK hN hA (fun sz => c_RM_setEnd l dC dI cC cI cZ cL o0 ra rx rf rt rb rl rp ru_ rv rr rs rg rh rz ry th si ru na (nI nxc) (nI s0) pa bz de dp io tX k a sz hc) ⟨callB_of 2 hts g_RM_setEnd rfl rfl rfl (hts _ kw_0_5) (hts _ kw_2_37) (by decide +kernel) (by decide), (hts _ kw_2_39), (hts _ ks_RM_setEnd)⟩ rfl rfl (Nat.le_of_ble_eq_true rfl) d_RM_look_81 (by decide) 0 rfl rfl [0, 1] [] [0, 1] rfl rfl (by decide) (by decide) (by decide) (fun _ => rfl) (fun _ => rfl) (fun r u hr => ?_)
        obtain ⟨rr, rfl, hr⟩ := hr
        unfold p_RM_setEnd at hr
        subst hr
        refine ig_put (ty := .int) (v := .int (nI (sp_se tX a (sp_sf tX a k) true))) (ws' := [(o0, .inr (ciRM, [.int th, .ref ra, .int si, .ref rx, .ref rf, .ref rt, .ref rb, .ref rl, .int ru, .ref rp, .ref ru_, .ref rv, .int na, .int (nI (sp_se tX a (sp_sf tX a k) true)), .int (nI s0), .ref rr, .ref rs, .ref rg, .ref rh, .int pa, .ref rz, .ref ry, .int bz, .int de, .int dp, .int io])), (rx, .inl (cI, 1000, .inl tX))]) hx hb hts in_RM t_RM t_RM_ok n_RM hown hK 0 rfl rfl 13 (by decide) (hts _ kw_1_158) (fun _ h => h) rfl (by decide +kernel) rfl rfl (Nat.le_of_ble_eq_true rfl) d_RM_look_84 rfl ?_
        refine ig_aload_n hx hb 0 d_RM_look_87 rfl rfl ?_
        refine ig_aload_n hx hb 0 d_RM_look_88 rfl rfl ?_
        refine ig_get hx hb hts in_RM hown hK 0 rfl rfl 13 (by decide) (hts _ kw_1_158) (fun _ h => h) rfl d_RM_look_89 ?_
        refine ig_iload_n hx hb 2 d_RM_look_92 rfl rfl ?_
        obtain ⟨h1, hv⟩ := hv
        obtain ⟨h2, hv⟩ := hv
        refine ig_icmp_leN (tgt := 100) hx hb (sp_se tX a (sp_sf tX a k) true) a rfl rfl d_RM_look_93 (by decide) h1 h2 (fun h => ?_) (fun h => ?_)
        · have hv := hv.1 h
          refine ig_iconst (v := 3) hx hb d_RM_look_100 (by decide) ?_
          refine ig_lv (lv' := []) [] rfl ?_
          exact j101 _ _ _ hv
        · have hv := hv.2 h
          refine ig_iconst (v := 4) hx hb d_RM_look_96 (by decide) ?_
          refine ig_goto (tgt := 101) hx hb d_RM_look_97 (by decide) ?_
          refine ig_lv (lv' := []) [] rfl ?_
          exact j101 _ _ _ hv
    · have hv := hv.2 h
      refine ig_aload_n hx hb 0 d_RM_look_45 rfl rfl ?_
      refine ig_iload_n hx hb 1 d_RM_look_46 rfl rfl ?_
      refine ig_iconst (v := 1) hx hb d_RM_look_47 (by decide) ?_
      refine ig_iaddN hx hb k 1 rfl rfl d_RM_look_48 ?_
      refine ig_iload_n hx hb 2 d_RM_look_49 rfl rfl ?_
      obtain ⟨h1, hv⟩ := hv
      obtain ⟨h2, hv⟩ := hv
      refine ig_icmp_geN (tgt := 57) hx hb (k + 1) a rfl rfl d_RM_look_50 (by decide) h1 h2 (fun h => ?_) (fun h => ?_)
      · have hv := hv.1 h
        refine ig_iconst (v := 4) hx hb d_RM_look_57 (by decide) ?_
        refine ig_lv (lv' := [(0, .ref o0), (1, .int (nI k))]) [0, 1] rfl ?_
        exact j58 _ _ _ hv
      · have hv := hv.2 h
        refine ig_iconst (v := 0) hx hb d_RM_look_53 (by decide) ?_
        refine ig_goto (tgt := 58) hx hb d_RM_look_54 (by decide) ?_
        refine ig_lv (lv' := [(0, .ref o0), (1, .int (nI k))]) [0, 1] rfl ?_
        exact j58 _ _ _ hv
  have hv := t_RM_look nx so tX k a hr 
  unfold v_RM_look at hv
  refine ig_aload_n hx hb 0 d_RM_look_0 rfl rfl ?_
  refine ig_get hx hb hts in_RM hown hK 0 rfl rfl 3 (by decide) (hts _ kw_1_148) (fun _ h => h) rfl d_RM_look_1 ?_
  refine ig_iload_n hx hb 1 d_RM_look_4 rfl rfl ?_
  obtain ⟨hc, hv⟩ := hv
  refine ig_iald (x := (tX k)) hx hb hK 1 1 rfl rfl k rfl hc (by decide) rfl d_RM_look_5 ?_
  refine ig_istore_n (lv' := [(3, .int (tX k)), (0, .ref o0), (1, .int (nI k)), (2, .int (nI a))]) hx hb d_RM_look_6 rfl (by decide) rfl ?_
  refine ig_aload_n hx hb 1 d_RM_look_7 rfl rfl ?_
  refine ig_iload_n hx hb 2 d_RM_look_8 rfl rfl ?_
  refine ig_iconst (v := 1) hx hb d_RM_look_9 (by decide) ?_
  refine ig_iaddN hx hb k 1 rfl rfl d_RM_look_10 ?_
  refine ig_put (ty := .int) (v := .int (nI (k + 1))) (ws' := [(o0, .inr (ciRM, [.int th, .ref ra, .int si, .ref rx, .ref rf, .ref rt, .ref rb, .ref rl, .int ru, .ref rp, .ref ru_, .ref rv, .int na, .int (nI (k + 1)), .int (nI so), .ref rr, .ref rs, .ref rg, .ref rh, .int pa, .ref rz, .ref ry, .int bz, .int de, .int dp, .int io])), (rx, .inl (cI, 1000, .inl tX))]) hx hb hts in_RM t_RM t_RM_ok n_RM hown hK 0 rfl rfl 13 (by decide) (hts _ kw_1_158) (fun _ h => h) rfl (by decide +kernel) rfl rfl (Nat.le_of_ble_eq_true rfl) d_RM_look_11 rfl ?_
  refine ig_aload_n hx hb 1 d_RM_look_14 rfl rfl ?_
  refine ig_iload_n hx hb 0 d_RM_look_15 rfl rfl ?_
  refine ig_bipush (v := 63) hx hb d_RM_look_16 (by decide) ?_
  refine ig_icmp_ne (tgt := 25) hx hb d_RM_look_18 (by decide) (fun h => ?_) (fun h => ?_)
  · have hv := hv.1 h
    refine ig_iload_n hx hb 0 d_RM_look_25 rfl rfl ?_
    refine ig_bipush (v := 42) hx hb d_RM_look_26 (by decide) ?_
    refine ig_icmp_ne (tgt := 35) hx hb d_RM_look_28 (by decide) (fun h => ?_) (fun h => ?_)
    · have hv := hv.1 h
      refine ig_iconst (v := 0) hx hb d_RM_look_35 (by decide) ?_
      refine ig_lv (lv' := [(0, .ref o0), (1, .int (nI k)), (2, .int (nI a)), (3, .int (tX k))]) [1, 2, 3, 0] rfl ?_
      exact j36 _ _ _ _ hv
    · have hv := hv.2 h
      refine ig_iconst (v := 2) hx hb d_RM_look_31 (by decide) ?_
      refine ig_goto (tgt := 36) hx hb d_RM_look_32 (by decide) ?_
      refine ig_lv (lv' := [(0, .ref o0), (1, .int (nI k)), (2, .int (nI a)), (3, .int (tX k))]) [1, 2, 3, 0] rfl ?_
      exact j36 _ _ _ _ hv
  · have hv := hv.2 h
    refine ig_iconst (v := 1) hx hb d_RM_look_21 (by decide) ?_
    refine ig_goto (tgt := 36) hx hb d_RM_look_22 (by decide) ?_
    refine ig_lv (lv' := [(0, .ref o0), (1, .int (nI k)), (2, .int (nI a)), (3, .int (tX k))]) [1, 2, 3, 0] rfl ?_
    exact j36 _ _ _ _ hv
theorem d_RM_isVoidName_0 : decode b_RM_isVoidName 0 = .ok (.iload_n 1, 1) := by decide +kernel
theorem d_RM_isVoidName_1 : decode b_RM_isVoidName 1 = .ok (.istore_n 3, 1) := by decide +kernel
theorem d_RM_isVoidName_2 : decode b_RM_isVoidName 2 = .ok (.iload_n 3, 1) := by decide +kernel
theorem d_RM_isVoidName_3 : decode b_RM_isVoidName 3 = .ok (.iload_n 2, 1) := by decide +kernel
theorem d_RM_isVoidName_4 : decode b_RM_isVoidName 4 = .ok (.if_icmp .ge 27, 3) := by decide +kernel
theorem d_RM_isVoidName_7 : decode b_RM_isVoidName 7 = .ok (.aload_n 0, 1) := by decide +kernel
theorem d_RM_isVoidName_8 : decode b_RM_isVoidName 8 = .ok (.iload_n 3, 1) := by decide +kernel
theorem d_RM_isVoidName_9 : decode b_RM_isVoidName 9 = .ok (.iload_n 2, 1) := by decide +kernel
theorem d_RM_isVoidName_10 : decode b_RM_isVoidName 10 = .ok (.invokevirtual 89, 3) := by decide +kernel
theorem d_RM_isVoidName_13 : decode b_RM_isVoidName 13 = .ok (.aload_n 0, 1) := by decide +kernel
theorem d_RM_isVoidName_14 : decode b_RM_isVoidName 14 = .ok (.getfield 68, 3) := by decide +kernel
theorem d_RM_isVoidName_17 : decode b_RM_isVoidName 17 = .ok (.iconst 4, 1) := by decide +kernel
theorem d_RM_isVoidName_18 : decode b_RM_isVoidName 18 = .ok (.if_icmp .ne 5, 3) := by decide +kernel
theorem d_RM_isVoidName_21 : decode b_RM_isVoidName 21 = .ok (.iconst 1, 1) := by decide +kernel
theorem d_RM_isVoidName_22 : decode b_RM_isVoidName 22 = .ok (.ireturn, 1) := by decide +kernel
theorem d_RM_isVoidName_23 : decode b_RM_isVoidName 23 = .ok (.aload_n 0, 1) := by decide +kernel
theorem d_RM_isVoidName_24 : decode b_RM_isVoidName 24 = .ok (.getfield 65, 3) := by decide +kernel
theorem d_RM_isVoidName_27 : decode b_RM_isVoidName 27 = .ok (.istore_n 3, 1) := by decide +kernel
theorem d_RM_isVoidName_28 : decode b_RM_isVoidName 28 = .ok (.goto (-26), 3) := by decide +kernel
theorem d_RM_isVoidName_31 : decode b_RM_isVoidName 31 = .ok (.iload_n 1, 1) := by decide +kernel
theorem d_RM_isVoidName_32 : decode b_RM_isVoidName 32 = .ok (.iload_n 2, 1) := by decide +kernel
theorem d_RM_isVoidName_33 : decode b_RM_isVoidName 33 = .ok (.if_icmp .ne 7, 3) := by decide +kernel
theorem d_RM_isVoidName_36 : decode b_RM_isVoidName 36 = .ok (.iconst 1, 1) := by decide +kernel
theorem d_RM_isVoidName_37 : decode b_RM_isVoidName 37 = .ok (.goto 4, 3) := by decide +kernel
theorem d_RM_isVoidName_40 : decode b_RM_isVoidName 40 = .ok (.iconst 0, 1) := by decide +kernel
theorem d_RM_isVoidName_41 : decode b_RM_isVoidName 41 = .ok (.ireturn, 1) := by decide +kernel
abbrev w_RM_isVoidName : List Cond := Cond.code y_RM_isVoidName b_RM_isVoidName 4 (some .boolean) :: ig_T
theorem g_RM_isVoidName : GoodIn ig_T w_RM_isVoidName := ig_T_good (ig_T_mem (List.mem_append_right _ (List.mem_append_right _ (List.mem_of_getElem? (i := 32) rfl))) rfl)
set_option maxHeartbeats 4000000 in
set_option maxRecDepth 100000 in
theorem c_RM_isVoidName (l : Launch) (dC : Nat → ClassId) (dI : Nat → Nat → Nat) (cC cI cZ cL : ClassId) (o0 ra rx rf rt rb rl rp ru_ rv rr rs rg rh rz ry : Nat) (th : Int32) (si : Int32) (ru : Int32) (na : Int32) (pa : Int32) (bz : Int32) (de : Int32) (dp : Int32) (io : Int32) (nx : Nat) (so : Nat) (tX : Nat → Int32) (f : Nat) (a : Nat) (sz : Nat) (hr : r_RM_isVoidName nx so tX f a) : Met l y_RM_isVoidName w_RM_isVoidName ({ frames := 3, cells := 0, slots := 0, locals := 69 }) (ig_Pc (dC, dI) ig_cl0 [(cC, .char), (cI, .int), (cZ, .boolean), (cL, .long)] [.ref o0, .int (nI f), .int (nI a)] [(o0, .inr (ciRM, [.int th, .ref ra, .int si, .ref rx, .ref rf, .ref rt, .ref rb, .ref rl, .int ru, .ref rp, .ref ru_, .ref rv, .int na, .int (nI nx), .int (nI so), .ref rr, .ref rs, .ref rg, .ref rh, .int pa, .ref rz, .ref ry, .int bz, .int de, .int dp, .int io])), (rx, .inl (cI, 1000, .inl tX))] sz) (va_Qi (fun (r : Int32) (u : Nat × Nat) => ∃ zr : Bool, r = bI zr ∧ p_RM_isVoidName nx so tX f a zr u.1 u.2) (fun u t => va_P (dC, dI) ig_cl0 ((fun (u : Nat × Nat) => [(o0, .inr (ciRM, [.int th, .ref ra, .int si, .ref rx, .ref rf, .ref rt, .ref rb, .ref rl, .int ru, .ref rp, .ref ru_, .ref rv, .int na, .int (nI u.1), .int (nI u.2), .ref rr, .ref rs, .ref rg, .ref rh, .int pa, .ref rz, .ref ry, .int bz, .int de, .int dp, .int io])), (rx, .inl (cI, 1000, .inl tX))]) u) t.heap ∧ va_D (va_A [(o0, .inr (ciRM, [.int th, .ref ra, .int si, .ref rx, .ref rf, .ref rt, .ref rb, .ref rl, .int ru, .ref rp, .ref ru_, .ref rv, .int na, .int (nI nx), .int (nI so), .ref rr, .ref rs, .ref rg, .ref rh, .int pa, .ref rz, .ref ry, .int bz, .int de, .int dp, .int io])), (rx, .inl (cI, 1000, .inl tX))] sz) ((fun (u : Nat × Nat) => [(o0, .inr (ciRM, [.int th, .ref ra, .int si, .ref rx, .ref rf, .ref rt, .ref rb, .ref rl, .int ru, .ref rp, .ref ru_, .ref rv, .int na, .int (nI u.1), .int (nI u.2), .ref rr, .ref rs, .ref rg, .ref rh, .int pa, .ref rz, .ref ry, .int bz, .int de, .int dp, .int io])), (rx, .inl (cI, 1000, .inl tX))]) u)) (va_A [(o0, .inr (ciRM, [.int th, .ref ra, .int si, .ref rx, .ref rf, .ref rt, .ref rb, .ref rl, .int ru, .ref rp, .ref ru_, .ref rv, .int na, .int (nI nx), .int (nI so), .ref rr, .ref rs, .ref rg, .ref rh, .int pa, .ref rz, .ref ry, .int bz, .int de, .int dp, .int io])), (rx, .inl (cI, 1000, .inl tX))] sz)) 0 0 (va_A [(o0, .inr (ciRM, [.int th, .ref ra, .int si, .ref rx, .ref rf, .ref rt, .ref rb, .ref rl, .int ru, .ref rp, .ref ru_, .ref rv, .int na, .int (nI nx), .int (nI so), .ref rr, .ref rs, .ref rg, .ref rh, .int pa, .ref rz, .ref ry, .int bz, .int de, .int dp, .int io])), (rx, .inl (cI, 1000, .inl tX))] sz) := by
  refine ig_metI (fun (r : Int32) (u : Nat × Nat) => ∃ zr : Bool, r = bI zr ∧ p_RM_isVoidName nx so tX f a zr u.1 u.2) (fun (u : Nat × Nat) => [(o0, .inr (ciRM, [.int th, .ref ra, .int si, .ref rx, .ref rf, .ref rt, .ref rb, .ref rl, .int ru, .ref rp, .ref ru_, .ref rv, .int na, .int (nI u.1), .int (nI u.2), .ref rr, .ref rs, .ref rg, .ref rh, .int pa, .ref rz, .ref ry, .int bz, .int de, .int dp, .int io])), (rx, .inl (cI, 1000, .inl tX))]) (by decide) rfl (Nat.le_of_ble_eq_true rfl) rfl (by rintro r u ⟨b, rfl, -⟩; exact bI_ret b) ?_
  intro zp ze zs zm zargs zbelow zmeth zc zA zQ hx hb hml hown hts hK hN hA hret
  obtain ⟨K2, hK2⟩ : ∃ K : Nat → Nat → Nat → Prop, K = fun (b : Nat) (nxc : Nat) (soc : Nat) => ig_W zp l ze ({ frames := 3, cells := 0, slots := 0, locals := 69 }) zs zm zargs zbelow zmeth zc (dC, dI) ig_cl0 zA zs.heap 4 0 0 zQ 2 [(0, .ref o0), (1, .int (nI f)), (2, .int (nI a)), (3, .int (nI b))] [] [(o0, .inr (ciRM, [.int th, .ref ra, .int si, .ref rx, .ref rf, .ref rt, .ref rb, .ref rl, .int ru, .ref rp, .ref ru_, .ref rv, .int na, .int (nI nxc), .int (nI soc), .ref rr, .ref rs, .ref rg, .ref rh, .int pa, .ref rz, .ref ry, .int bz, .int de, .int dp, .int io])), (rx, .inl (cI, 1000, .inl tX))] := ⟨_, rfl⟩
  have k2 : ∀ (b : Nat) (nxc : Nat) (soc : Nat), v_RM_isVoidName_2 nx so tX f a K2 (p_RM_isVoidName nx so tX f a) b nxc soc → K2 b nxc soc := by
    intro b nxc soc hv
    unfold v_RM_isVoidName_2 at hv
    rw [hK2]
    show ig_W zp l ze ({ frames := 3, cells := 0, slots := 0, locals := 69 }) zs zm zargs zbelow zmeth zc (dC, dI) ig_cl0 zA zs.heap 4 0 0 zQ 2 [(0, .ref o0), (1, .int (nI f)), (2, .int (nI a)), (3, .int (nI b))] [] [(o0, .inr (ciRM, [.int th, .ref ra, .int si, .ref rx, .ref rf, .ref rt, .ref rb, .ref rl, .int ru, .ref rp, .ref ru_, .ref rv, .int na, .int (nI nxc), .int (nI soc), .ref rr, .ref rs, .ref rg, .ref rh, .int pa, .ref rz, .ref ry, .int bz, .int de, .int dp, .int io])), (rx, .inl (cI, 1000, .inl tX))]
    refine ig_iload_n hx hb 3 d_RM_isVoidName_2 rfl rfl ?_
    refine ig_iload_n hx hb 2 d_RM_isVoidName_3 rfl rfl ?_
    obtain ⟨h1, hv⟩ := hv
    obtain ⟨h2, hv⟩ := hv
    refine ig_icmp_geN (tgt := 31) hx hb b a rfl rfl d_RM_isVoidName_4 (by decide) h1 h2 (fun h => ?_) (fun h => ?_)
    · have hv := hv.1 h
      refine ig_iload_n hx hb 1 d_RM_isVoidName_31 rfl rfl ?_
      refine ig_iload_n hx hb 2 d_RM_isVoidName_32 rfl rfl ?_
      obtain ⟨h1, hv⟩ := hv
      obtain ⟨h2, hv⟩ := hv
      refine ig_icmp_neN (tgt := 40) hx hb f a rfl rfl d_RM_isVoidName_33 (by decide) h1 h2 (fun h => ?_) (fun h => ?_)
      · have hv := hv.1 h
        refine ig_iconst (v := 0) hx hb d_RM_isVoidName_40 (by decide) ?_
        exact hret 41 _ 0 (nxc, soc) d_RM_isVoidName_41 ⟨false, rfl, hv⟩
      · have hv := hv.2 h
        refine ig_iconst (v := 1) hx hb d_RM_isVoidName_36 (by decide) ?_
        refine ig_goto (tgt := 41) hx hb d_RM_isVoidName_37 (by decide) ?_
        exact hret 41 _ 1 (nxc, soc) d_RM_isVoidName_41 ⟨true, rfl, hv⟩
    · have hv := hv.2 h
      refine ig_aload_n hx hb 0 d_RM_isVoidName_7 rfl rfl ?_
      refine ig_iload_n hx hb 3 d_RM_isVoidName_8 rfl rfl ?_
      refine ig_iload_n hx hb 2 d_RM_isVoidName_9 rfl rfl ?_
      obtain ⟨hc, hv⟩ := hv
      refine ig_cVv (As := [.int (nI b), .int (nI a)]) (rest := []) (wr := []) (ws' := fun u => [(o0, .inr (ciRM, [.int th, .ref ra, .int si, .ref rx, .ref rf, .ref rt, .ref rb, .ref rl, .int ru, .ref rp, .ref ru_, .ref rv, .int na, .int (nI u.1), .int (nI u.2), .ref rr, .ref rs, .ref rg, .ref rh, .int pa, .ref rz, .ref ry, .int bz, .int de, .int dp, .int io])), (rx, .inl (cI, 1000, .inl tX))]) hx hb hml hown hts hK hN hA (fun sz => c_RM_look l dC dI cC cI cZ cL o0 ra rx rf rt rb rl rp ru_ rv rr rs rg rh rz ry th si ru na pa bz de dp io nxc soc tX b a sz hc) ⟨callB_of 2 hts g_RM_look rfl rfl rfl (hts _ kw_0_5) (hts _ kw_2_33) (by decide +kernel) (by decide), (hts _ kw_2_35), (hts _ ks_RM_look)⟩ rfl rfl (Nat.le_of_ble_eq_true rfl) d_RM_isVoidName_10 (by decide) 0 rfl rfl [0, 1] [] [0, 1] rfl rfl (by decide) (by decide) (by decide) (fun _ => rfl) (fun _ => rfl) (fun u hr => ?_)
      obtain ⟨w1, w2⟩ := u
      unfold p_RM_look at hr
      obtain ⟨rfl, rfl⟩ := hr
      refine ig_aload_n hx hb 0 d_RM_isVoidName_13 rfl rfl ?_
      refine ig_get hx hb hts in_RM hown hK 0 rfl rfl 14 (by decide) (hts _ kw_1_159) (fun _ h => h) rfl d_RM_isVoidName_14 ?_
      refine ig_iconst (v := 4) hx hb d_RM_isVoidName_17 (by decide) ?_
      obtain ⟨h1, hv⟩ := hv
      refine ig_icmp_neN (tgt := 23) hx hb (sp_sort tX a b) 4 rfl rfl d_RM_isVoidName_18 (by decide) h1 (by decide) (fun h => ?_) (fun h => ?_)
      · have hv := hv.1 h
        refine ig_aload_n hx hb 0 d_RM_isVoidName_23 rfl rfl ?_
        refine ig_get hx hb hts in_RM hown hK 0 rfl rfl 13 (by decide) (hts _ kw_1_158) (fun _ h => h) rfl d_RM_isVoidName_24 ?_
        refine ig_istore_n (lv' := [(3, .int (nI (sp_end tX a b))), (0, .ref o0), (1, .int (nI f)), (2, .int (nI a))]) hx hb d_RM_isVoidName_27 rfl (by decide) rfl ?_
        refine ig_goto (tgt := 2) hx hb d_RM_isVoidName_28 (by decide) ?_
        refine ig_lv (lv' := [(0, .ref o0), (1, .int (nI f)), (2, .int (nI a)), (3, .int (nI (sp_end tX a b)))]) [1, 2, 3, 0] rfl ?_
        rw [hK2] at hv
        exact hv
      · have hv := hv.2 h
        refine ig_iconst (v := 1) hx hb d_RM_isVoidName_21 (by decide) ?_
        exact hret 22 _ 1 (sp_end tX a b, sp_sort tX a b) d_RM_isVoidName_22 ⟨true, rfl, hv⟩
  have hv := t_RM_isVoidName nx so tX f a hr K2 k2
  unfold v_RM_isVoidName at hv
  refine ig_iload_n hx hb 1 d_RM_isVoidName_0 rfl rfl ?_
  refine ig_istore_n (lv' := [(3, .int (nI f)), (0, .ref o0), (1, .int (nI f)), (2, .int (nI a))]) hx hb d_RM_isVoidName_1 rfl (by decide) rfl ?_
  refine ig_lv (lv' := [(0, .ref o0), (1, .int (nI f)), (2, .int (nI a)), (3, .int (nI f))]) [1, 2, 3, 0] rfl ?_
  rw [hK2] at hv
  exact hv
