theorem kw_1_232 : Cond.constantLong "IgnoreRulesModel" 63 (255 : Int64) ∈ ig_T := ig_T_mem (List.mem_append_right _ (List.mem_append_left _ (List.mem_of_getElem? (i := 232) rfl))) rfl
theorem d_RM_feed_0 : decode b_RM_feed 0 = .ok (.aload_n 0, 1) := by decide +kernel
theorem d_RM_feed_1 : decode b_RM_feed 1 = .ok (.iload_n 1, 1) := by decide +kernel
theorem d_RM_feed_2 : decode b_RM_feed 2 = .ok (.iconst 1, 1) := by decide +kernel
theorem d_RM_feed_3 : decode b_RM_feed 3 = .ok (.if_icmp .lt 9, 3) := by decide +kernel
theorem d_RM_feed_6 : decode b_RM_feed 6 = .ok (.iload_n 1, 1) := by decide +kernel
theorem d_RM_feed_7 : decode b_RM_feed 7 = .ok (.bipush 8, 2) := by decide +kernel
theorem d_RM_feed_9 : decode b_RM_feed 9 = .ok (.if_icmp .le 7, 3) := by decide +kernel
theorem d_RM_feed_12 : decode b_RM_feed 12 = .ok (.iconst 1, 1) := by decide +kernel
theorem d_RM_feed_13 : decode b_RM_feed 13 = .ok (.goto 4, 3) := by decide +kernel
theorem d_RM_feed_16 : decode b_RM_feed 16 = .ok (.iconst 0, 1) := by decide +kernel
theorem d_RM_feed_17 : decode b_RM_feed 17 = .ok (.putfield 56, 3) := by decide +kernel
theorem d_RM_feed_20 : decode b_RM_feed 20 = .ok (.aload_n 0, 1) := by decide +kernel
theorem d_RM_feed_21 : decode b_RM_feed 21 = .ok (.getfield 56, 3) := by decide +kernel
theorem d_RM_feed_24 : decode b_RM_feed 24 = .ok (.ifCond .le 5, 3) := by decide +kernel
theorem d_RM_feed_27 : decode b_RM_feed 27 = .ok (.iconst 0, 1) := by decide +kernel
theorem d_RM_feed_28 : decode b_RM_feed 28 = .ok (.ireturn, 1) := by decide +kernel
theorem d_RM_feed_29 : decode b_RM_feed 29 = .ok (.aload_n 0, 1) := by decide +kernel
theorem d_RM_feed_30 : decode b_RM_feed 30 = .ok (.getfield 60, 3) := by decide +kernel
theorem d_RM_feed_33 : decode b_RM_feed 33 = .ok (.iload_n 1, 1) := by decide +kernel
theorem d_RM_feed_34 : decode b_RM_feed 34 = .ok (.iadd, 1) := by decide +kernel
theorem d_RM_feed_35 : decode b_RM_feed 35 = .ok (.sipush 1000, 3) := by decide +kernel
theorem d_RM_feed_38 : decode b_RM_feed 38 = .ok (.if_icmp .le 5, 3) := by decide +kernel
theorem d_RM_feed_41 : decode b_RM_feed 41 = .ok (.iconst (-1), 1) := by decide +kernel
theorem d_RM_feed_42 : decode b_RM_feed 42 = .ok (.ireturn, 1) := by decide +kernel
theorem d_RM_feed_43 : decode b_RM_feed 43 = .ok (.iconst 0, 1) := by decide +kernel
theorem d_RM_feed_44 : decode b_RM_feed 44 = .ok (.istore 4, 2) := by decide +kernel
theorem d_RM_feed_46 : decode b_RM_feed 46 = .ok (.iload 4, 2) := by decide +kernel
theorem d_RM_feed_48 : decode b_RM_feed 48 = .ok (.iload_n 1, 1) := by decide +kernel
theorem d_RM_feed_49 : decode b_RM_feed 49 = .ok (.if_icmp .ge 40, 3) := by decide +kernel
theorem d_RM_feed_52 : decode b_RM_feed 52 = .ok (.aload_n 0, 1) := by decide +kernel
theorem d_RM_feed_53 : decode b_RM_feed 53 = .ok (.getfield 7, 3) := by decide +kernel
theorem d_RM_feed_56 : decode b_RM_feed 56 = .ok (.aload_n 0, 1) := by decide +kernel
theorem d_RM_feed_57 : decode b_RM_feed 57 = .ok (.getfield 60, 3) := by decide +kernel
theorem d_RM_feed_60 : decode b_RM_feed 60 = .ok (.lload_n 2, 1) := by decide +kernel
theorem d_RM_feed_61 : decode b_RM_feed 61 = .ok (.bipush 8, 2) := by decide +kernel
theorem d_RM_feed_63 : decode b_RM_feed 63 = .ok (.iload 4, 2) := by decide +kernel
theorem d_RM_feed_65 : decode b_RM_feed 65 = .ok (.imul, 1) := by decide +kernel
theorem d_RM_feed_66 : decode b_RM_feed 66 = .ok (.lshr, 1) := by decide +kernel
theorem d_RM_feed_67 : decode b_RM_feed 67 = .ok (.ldc2_w 63, 3) := by decide +kernel
theorem d_RM_feed_70 : decode b_RM_feed 70 = .ok (.land, 1) := by decide +kernel
theorem d_RM_feed_71 : decode b_RM_feed 71 = .ok (.l2i, 1) := by decide +kernel
theorem d_RM_feed_72 : decode b_RM_feed 72 = .ok (.iastore, 1) := by decide +kernel
theorem d_RM_feed_73 : decode b_RM_feed 73 = .ok (.aload_n 0, 1) := by decide +kernel
theorem d_RM_feed_74 : decode b_RM_feed 74 = .ok (.dup, 1) := by decide +kernel
theorem d_RM_feed_75 : decode b_RM_feed 75 = .ok (.getfield 60, 3) := by decide +kernel
theorem d_RM_feed_78 : decode b_RM_feed 78 = .ok (.iconst 1, 1) := by decide +kernel
theorem d_RM_feed_79 : decode b_RM_feed 79 = .ok (.iadd, 1) := by decide +kernel
theorem d_RM_feed_80 : decode b_RM_feed 80 = .ok (.putfield 60, 3) := by decide +kernel
theorem d_RM_feed_83 : decode b_RM_feed 83 = .ok (.iinc 4 1, 3) := by decide +kernel
theorem d_RM_feed_86 : decode b_RM_feed 86 = .ok (.goto (-40), 3) := by decide +kernel
theorem d_RM_feed_89 : decode b_RM_feed 89 = .ok (.aload_n 0, 1) := by decide +kernel
theorem d_RM_feed_90 : decode b_RM_feed 90 = .ok (.getfield 60, 3) := by decide +kernel
theorem d_RM_feed_93 : decode b_RM_feed 93 = .ok (.ireturn, 1) := by decide +kernel
abbrev w_RM_feed : List Cond := Cond.code y_RM_feed b_RM_feed 5 (some .int) :: ig_T
theorem g_RM_feed : GoodIn ig_T w_RM_feed := ig_T_good (ig_T_mem (List.mem_append_right _ (List.mem_append_left _ (List.mem_of_getElem? (i := 231) rfl))) rfl)
set_option maxHeartbeats 4000000 in
set_option maxRecDepth 100000 in
theorem c_RM_feed (l : Launch) (dC : Nat → ClassId) (dI : Nat → Nat → Nat) (cC cI cZ cL : ClassId) (o0 ra rx rf rt rb rl rp ru_ rv rr rs rg rh rz ry : Nat) (ru : Int32) (na : Int32) (nx : Int32) (so : Int32) (pa : Int32) (bz : Int32) (de : Int32) (dp : Int32) (io : Int32) (th : Nat) (si : Nat) (tA : Nat → Int32) (x : Int32) (b : Int64) (sz : Nat) (hr : r_RM_feed th si tA x b) : Met l y_RM_feed w_RM_feed ({ frames := 0, cells := 0, slots := 0, locals := 0 }) (ig_Pc (dC, dI) ig_cl0 [(cC, .char), (cI, .int), (cZ, .boolean), (cL, .long)] [.ref o0, .int x, .long b] [(o0, .inr (ciRM, [.int (nI th), .ref ra, .int (nI si), .ref rx, .ref rf, .ref rt, .ref rb, .ref rl, .int ru, .ref rp, .ref ru_, .ref rv, .int na, .int nx, .int so, .ref rr, .ref rs, .ref rg, .ref rh, .int pa, .ref rz, .ref ry, .int bz, .int de, .int dp, .int io])), (ra, .inl (cI, 1000, .inl tA))] sz) (va_Qi (fun (r : Int32) (u : Nat × Nat × (Nat → Int32)) => p_RM_feed th si tA x b r u.1 u.2.1 u.2.2) (fun u t => va_P (dC, dI) ig_cl0 ((fun (u : Nat × Nat × (Nat → Int32)) => [(o0, .inr (ciRM, [.int (nI u.1), .ref ra, .int (nI u.2.1), .ref rx, .ref rf, .ref rt, .ref rb, .ref rl, .int ru, .ref rp, .ref ru_, .ref rv, .int na, .int nx, .int so, .ref rr, .ref rs, .ref rg, .ref rh, .int pa, .ref rz, .ref ry, .int bz, .int de, .int dp, .int io])), (ra, .inl (cI, 1000, .inl u.2.2))]) u) t.heap ∧ va_D (va_A [(o0, .inr (ciRM, [.int (nI th), .ref ra, .int (nI si), .ref rx, .ref rf, .ref rt, .ref rb, .ref rl, .int ru, .ref rp, .ref ru_, .ref rv, .int na, .int nx, .int so, .ref rr, .ref rs, .ref rg, .ref rh, .int pa, .ref rz, .ref ry, .int bz, .int de, .int dp, .int io])), (ra, .inl (cI, 1000, .inl tA))] sz) ((fun (u : Nat × Nat × (Nat → Int32)) => [(o0, .inr (ciRM, [.int (nI u.1), .ref ra, .int (nI u.2.1), .ref rx, .ref rf, .ref rt, .ref rb, .ref rl, .int ru, .ref rp, .ref ru_, .ref rv, .int na, .int nx, .int so, .ref rr, .ref rs, .ref rg, .ref rh, .int pa, .ref rz, .ref ry, .int bz, .int de, .int dp, .int io])), (ra, .inl (cI, 1000, .inl u.2.2))]) u)) (va_A [(o0, .inr (ciRM, [.int (nI th), .ref ra, .int (nI si), .ref rx, .ref rf, .ref rt, .ref rb, .ref rl, .int ru, .ref rp, .ref ru_, .ref rv, .int na, .int nx, .int so, .ref rr, .ref rs, .ref rg, .ref rh, .int pa, .ref rz, .ref ry, .int bz, .int de, .int dp, .int io])), (ra, .inl (cI, 1000, .inl tA))] sz)) 0 0 (va_A [(o0, .inr (ciRM, [.int (nI th), .ref ra, .int (nI si), .ref rx, .ref rf, .ref rt, .ref rb, .ref rl, .int ru, .ref rp, .ref ru_, .ref rv, .int na, .int nx, .int so, .ref rr, .ref rs, .ref rg, .ref rh, .int pa, .ref rz, .ref ry, .int bz, .int de, .int dp, .int io])), (ra, .inl (cI, 1000, .inl tA))] sz) := by
  refine ig_metI (fun (r : Int32) (u : Nat × Nat × (Nat → Int32)) => p_RM_feed th si tA x b r u.1 u.2.1 u.2.2) (fun (u : Nat × Nat × (Nat → Int32)) => [(o0, .inr (ciRM, [.int (nI u.1), .ref ra, .int (nI u.2.1), .ref rx, .ref rf, .ref rt, .ref rb, .ref rl, .int ru, .ref rp, .ref ru_, .ref rv, .int na, .int nx, .int so, .ref rr, .ref rs, .ref rg, .ref rh, .int pa, .ref rz, .ref ry, .int bz, .int de, .int dp, .int io])), (ra, .inl (cI, 1000, .inl u.2.2))]) (by decide) rfl (Nat.le_of_ble_eq_true rfl) rfl (fun _ _ _ => rfl) ?_
  intro zp ze zs zm zargs zbelow zmeth zc zA zQ hx hb hml hown hts hK hN hA hret
  obtain ⟨K46, hK46⟩ : ∃ K : Nat → Nat → Nat → (Nat → Int32) → Prop, K = fun (k : Nat) (thc : Nat) (sic : Nat) (tAc : Nat → Int32) => ig_W zp l ze ({ frames := 0, cells := 0, slots := 0, locals := 0 }) zs zm zargs zbelow zmeth zc (dC, dI) ig_cl0 zA zs.heap 5 0 0 zQ 46 [(0, .ref o0), (1, .int x), (2, .long b), (4, .int (nI k))] [] [(o0, .inr (ciRM, [.int (nI thc), .ref ra, .int (nI sic), .ref rx, .ref rf, .ref rt, .ref rb, .ref rl, .int ru, .ref rp, .ref ru_, .ref rv, .int na, .int nx, .int so, .ref rr, .ref rs, .ref rg, .ref rh, .int pa, .ref rz, .ref ry, .int bz, .int de, .int dp, .int io])), (ra, .inl (cI, 1000, .inl tAc))] := ⟨_, rfl⟩
  have j17 : ∀ (s0 : Nat) (thc : Nat) (sic : Nat) (tAc : Nat → Int32), v_RM_feed_17 th si tA x b K46 (p_RM_feed th si tA x b) s0 thc sic tAc → ig_W zp l ze ({ frames := 0, cells := 0, slots := 0, locals := 0 }) zs zm zargs zbelow zmeth zc (dC, dI) ig_cl0 zA zs.heap 5 0 0 zQ 17 [(0, .ref o0), (1, .int x), (2, .long b)] [.int (nI s0), .ref o0] [(o0, .inr (ciRM, [.int (nI thc), .ref ra, .int (nI sic), .ref rx, .ref rf, .ref rt, .ref rb, .ref rl, .int ru, .ref rp, .ref ru_, .ref rv, .int na, .int nx, .int so, .ref rr, .ref rs, .ref rg, .ref rh, .int pa, .ref rz, .ref ry, .int bz, .int de, .int dp, .int io])), (ra, .inl (cI, 1000, .inl tAc))] := by
    intro s0 thc sic tAc hv
    unfold v_RM_feed_17 at hv
    refine ig_put (ty := .int) (v := .int (nI s0)) (ws' := [(o0, .inr (ciRM, [.int (nI s0), .ref ra, .int (nI sic), .ref rx, .ref rf, .ref rt, .ref rb, .ref rl, .int ru, .ref rp, .ref ru_, .ref rv, .int na, .int nx, .int so, .ref rr, .ref rs, .ref rg, .ref rh, .int pa, .ref rz, .ref ry, .int bz, .int de, .int dp, .int io])), (ra, .inl (cI, 1000, .inl tAc))]) hx hb hts in_RM t_RM t_RM_ok n_RM hown hK 0 rfl rfl 0 (by decide) (hts _ kw_1_145) (fun _ h => h) rfl (by decide +kernel) rfl rfl (Nat.le_of_ble_eq_true rfl) d_RM_feed_17 rfl ?_
    refine ig_aload_n hx hb 0 d_RM_feed_20 rfl rfl ?_
    refine ig_get hx hb hts in_RM hown hK 0 rfl rfl 0 (by decide) (hts _ kw_1_145) (fun _ h => h) rfl d_RM_feed_21 ?_
    obtain ⟨h1, hv⟩ := hv
    refine ig_if_leN (tgt := 29) hx hb s0 rfl d_RM_feed_24 (by decide) h1 (fun h => ?_) (fun h => ?_)
    · have hv := hv.1 h
      refine ig_aload_n hx hb 0 d_RM_feed_29 rfl rfl ?_
      refine ig_get hx hb hts in_RM hown hK 0 rfl rfl 2 (by decide) (hts _ kw_1_147) (fun _ h => h) rfl d_RM_feed_30 ?_
      refine ig_iload_n hx hb 1 d_RM_feed_33 rfl rfl ?_
      obtain ⟨n1, he_n1, hv⟩ := hv
      rw [he_n1]
      refine ig_iaddN hx hb sic n1 rfl rfl d_RM_feed_34 ?_
      refine ig_sipush (v := 1000) hx hb d_RM_feed_35 (by decide) ?_
      obtain ⟨h1, hv⟩ := hv
      refine ig_icmp_leN (tgt := 43) hx hb (sic + n1) 1000 rfl rfl d_RM_feed_38 (by decide) h1 (by decide) (fun h => ?_) (fun h => ?_)
      · have hv := hv.1 h
        rw [← he_n1]
        refine ig_iconst (v := 0) hx hb d_RM_feed_43 (by decide) ?_
        refine ig_istore (lv' := [(4, .int 0), (0, .ref o0), (1, .int x), (2, .long b)]) hx hb d_RM_feed_44 (by decide) rfl ?_
        refine ig_lv (lv' := [(0, .ref o0), (1, .int x), (2, .long b), (4, .int 0)]) [1, 2, 3, 0] rfl ?_
        rw [hK46] at hv
        exact hv
      · have hv := hv.2 h
        refine ig_iconst (v := (-1)) hx hb d_RM_feed_41 (by decide) ?_
        exact hret 42 _ (-1) (s0, sic, tAc) d_RM_feed_42 hv
    · have hv := hv.2 h
      refine ig_iconst (v := 0) hx hb d_RM_feed_27 (by decide) ?_
      exact hret 28 _ 0 (s0, sic, tAc) d_RM_feed_28 hv
  have j12 : ∀ (thc : Nat) (sic : Nat) (tAc : Nat → Int32), v_RM_feed_12 th si tA x b K46 (p_RM_feed th si tA x b) thc sic tAc → ig_W zp l ze ({ frames := 0, cells := 0, slots := 0, locals := 0 }) zs zm zargs zbelow zmeth zc (dC, dI) ig_cl0 zA zs.heap 5 0 0 zQ 12 [(0, .ref o0), (1, .int x), (2, .long b)] [.ref o0] [(o0, .inr (ciRM, [.int (nI thc), .ref ra, .int (nI sic), .ref rx, .ref rf, .ref rt, .ref rb, .ref rl, .int ru, .ref rp, .ref ru_, .ref rv, .int na, .int nx, .int so, .ref rr, .ref rs, .ref rg, .ref rh, .int pa, .ref rz, .ref ry, .int bz, .int de, .int dp, .int io])), (ra, .inl (cI, 1000, .inl tAc))] := by
    intro thc sic tAc hv
    unfold v_RM_feed_12 at hv
    refine ig_iconst (v := 1) hx hb d_RM_feed_12 (by decide) ?_
    refine ig_goto (tgt := 17) hx hb d_RM_feed_13 (by decide) ?_
    refine ig_lv (lv' := [(0, .ref o0), (1, .int x), (2, .long b)]) [0, 1, 2] rfl ?_
    exact j17 _ _ _ _ hv
  have k46 : ∀ (k : Nat) (thc : Nat) (sic : Nat) (tAc : Nat → Int32), v_RM_feed_46 th si tA x b K46 (p_RM_feed th si tA x b) k thc sic tAc → K46 k thc sic tAc := by
    intro k thc sic tAc hv
    unfold v_RM_feed_46 at hv
    rw [hK46]
    show ig_W zp l ze ({ frames := 0, cells := 0, slots := 0, locals := 0 }) zs zm zargs zbelow zmeth zc (dC, dI) ig_cl0 zA zs.heap 5 0 0 zQ 46 [(0, .ref o0), (1, .int x), (2, .long b), (4, .int (nI k))] [] [(o0, .inr (ciRM, [.int (nI thc), .ref ra, .int (nI sic), .ref rx, .ref rf, .ref rt, .ref rb, .ref rl, .int ru, .ref rp, .ref ru_, .ref rv, .int na, .int nx, .int so, .ref rr, .ref rs, .ref rg, .ref rh, .int pa, .ref rz, .ref ry, .int bz, .int de, .int dp, .int io])), (ra, .inl (cI, 1000, .inl tAc))]
    refine ig_iload hx hb 3 d_RM_feed_46 rfl ?_
    refine ig_iload_n hx hb 1 d_RM_feed_48 rfl rfl ?_
    obtain ⟨n2, he_n2, hv⟩ := hv
    rw [he_n2]
    obtain ⟨h1, hv⟩ := hv
    obtain ⟨h2, hv⟩ := hv
    refine ig_icmp_geN (tgt := 89) hx hb k n2 rfl rfl d_RM_feed_49 (by decide) h1 h2 (fun h => ?_) (fun h => ?_)
    · have hv := hv.1 h
      refine ig_aload_n hx hb 0 d_RM_feed_89 rfl rfl ?_
      refine ig_get hx hb hts in_RM hown hK 0 rfl rfl 2 (by decide) (hts _ kw_1_147) (fun _ h => h) rfl d_RM_feed_90 ?_
      exact hret 93 _ (nI sic) (thc, sic, tAc) d_RM_feed_93 hv
    · have hv := hv.2 h
      rw [← he_n2]
      refine ig_aload_n hx hb 0 d_RM_feed_52 rfl rfl ?_
      refine ig_get hx hb hts in_RM hown hK 0 rfl rfl 1 (by decide) (hts _ kw_1_146) (fun _ h => h) rfl d_RM_feed_53 ?_
      refine ig_aload_n hx hb 0 d_RM_feed_56 rfl rfl ?_
      refine ig_get hx hb hts in_RM hown hK 0 rfl rfl 2 (by decide) (hts _ kw_1_147) (fun _ h => h) rfl d_RM_feed_57 ?_
      refine ig_lload_n hx hb 2 d_RM_feed_60 rfl rfl ?_
      refine ig_bipush (v := 8) hx hb d_RM_feed_61 (by decide) ?_
      refine ig_iload hx hb 3 d_RM_feed_63 rfl ?_
      refine ig_imulN hx hb 8 k rfl rfl d_RM_feed_65 ?_
      refine ig_lshr (v := b >>> ((nI (8 * k)).toInt64 &&& 63)) hx hb d_RM_feed_66 rfl ?_
      refine ig_ldc2 (v := 255) hx hb d_RM_feed_67 hown (hts _ kw_1_232) ?_
      refine ig_land hx hb d_RM_feed_70 ?_
      refine ig_l2i (v := ((b >>> ((nI (8 * k)).toInt64 &&& 63)) &&& 255).toInt32) hx hb d_RM_feed_71 rfl ?_
      obtain ⟨hc, hv⟩ := hv
      refine ig_iast (f' := upd tAc sic (((b >>> ((nI (8 * k)).toInt64 &&& 63)) &&& 255).toInt32)) (ws' := [(o0, .inr (ciRM, [.int (nI thc), .ref ra, .int (nI sic), .ref rx, .ref rf, .ref rt, .ref rb, .ref rl, .int ru, .ref rp, .ref ru_, .ref rv, .int na, .int nx, .int so, .ref rr, .ref rs, .ref rg, .ref rh, .int pa, .ref rz, .ref ry, .int bz, .int de, .int dp, .int io])), (ra, .inl (cI, 1000, .inl (upd tAc sic (((b >>> ((nI (8 * k)).toInt64 &&& 63)) &&& 255).toInt32))))]) hx hb hK 1 1 rfl rfl sic rfl hc (by decide) rfl d_RM_feed_72 rfl ?_
      refine ig_aload_n hx hb 0 d_RM_feed_73 rfl rfl ?_
      refine ig_dup hx hb d_RM_feed_74 rfl ?_
      refine ig_get hx hb hts in_RM hown hK 0 rfl rfl 2 (by decide) (hts _ kw_1_147) (fun _ h => h) rfl d_RM_feed_75 ?_
      refine ig_iconst (v := 1) hx hb d_RM_feed_78 (by decide) ?_
      refine ig_iaddN hx hb sic 1 rfl rfl d_RM_feed_79 ?_
      refine ig_put (ty := .int) (v := .int (nI (sic + 1))) (ws' := [(o0, .inr (ciRM, [.int (nI thc), .ref ra, .int (nI (sic + 1)), .ref rx, .ref rf, .ref rt, .ref rb, .ref rl, .int ru, .ref rp, .ref ru_, .ref rv, .int na, .int nx, .int so, .ref rr, .ref rs, .ref rg, .ref rh, .int pa, .ref rz, .ref ry, .int bz, .int de, .int dp, .int io])), (ra, .inl (cI, 1000, .inl (upd tAc sic (((b >>> ((nI (8 * k)).toInt64 &&& 63)) &&& 255).toInt32))))]) hx hb hts in_RM t_RM t_RM_ok n_RM hown hK 0 rfl rfl 2 (by decide) (hts _ kw_1_147) (fun _ h => h) rfl (by decide +kernel) rfl rfl (Nat.le_of_ble_eq_true rfl) d_RM_feed_80 rfl ?_
      refine ig_iinc (v := (nI (k + 1))) (lv' := [(4, .int (nI (k + 1))), (0, .ref o0), (1, .int x), (2, .long b)]) hx hb 3 d_RM_feed_83 rfl (ig_inc k 1 (by decide)) (by decide) rfl ?_
      refine ig_goto (tgt := 46) hx hb d_RM_feed_86 (by decide) ?_
      refine ig_lv (lv' := [(0, .ref o0), (1, .int x), (2, .long b), (4, .int (nI (k + 1)))]) [1, 2, 3, 0] rfl ?_
      rw [hK46] at hv
      exact hv
  have hv := t_RM_feed th si tA x b hr K46 k46
  unfold v_RM_feed at hv
  refine ig_aload_n hx hb 0 d_RM_feed_0 rfl rfl ?_
  refine ig_iload_n hx hb 1 d_RM_feed_1 rfl rfl ?_
  refine ig_iconst (v := 1) hx hb d_RM_feed_2 (by decide) ?_
  refine ig_icmp_lt (tgt := 12) hx hb d_RM_feed_3 (by decide) (fun h => ?_) (fun h => ?_)
  · have hv := hv.1 h
    refine ig_lv (lv' := [(0, .ref o0), (1, .int x), (2, .long b)]) [0, 1, 2] rfl ?_
    exact j12 _ _ _ hv
  · have hv := hv.2 h
    refine ig_iload_n hx hb 1 d_RM_feed_6 rfl rfl ?_
    refine ig_bipush (v := 8) hx hb d_RM_feed_7 (by decide) ?_
    refine ig_icmp_le (tgt := 16) hx hb d_RM_feed_9 (by decide) (fun h => ?_) (fun h => ?_)
    · have hv := hv.1 h
      refine ig_iconst (v := 0) hx hb d_RM_feed_16 (by decide) ?_
      refine ig_lv (lv' := [(0, .ref o0), (1, .int x), (2, .long b)]) [0, 1, 2] rfl ?_
      exact j17 _ _ _ _ hv
    · have hv := hv.2 h
      refine ig_lv (lv' := [(0, .ref o0), (1, .int x), (2, .long b)]) [0, 1, 2] rfl ?_
      exact j12 _ _ _ hv
