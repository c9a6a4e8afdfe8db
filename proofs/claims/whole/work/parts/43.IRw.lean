theorem kw_0_230 : Cond.constantLong "IgnoreRules" 48 (255 : Int64) ∈ ig_T := ig_T_mem (List.mem_append_left _ (List.mem_of_getElem? (i := 230) rfl)) rfl
theorem d_IR_feed_0 : decode b_IR_feed 0 = .ok (.iload_n 1, 1) := by decide +kernel
theorem d_IR_feed_1 : decode b_IR_feed 1 = .ok (.iconst 1, 1) := by decide +kernel
theorem d_IR_feed_2 : decode b_IR_feed 2 = .ok (.if_icmp .lt 9, 3) := by decide +kernel
theorem d_IR_feed_5 : decode b_IR_feed 5 = .ok (.iload_n 1, 1) := by decide +kernel
theorem d_IR_feed_6 : decode b_IR_feed 6 = .ok (.bipush 8, 2) := by decide +kernel
theorem d_IR_feed_8 : decode b_IR_feed 8 = .ok (.if_icmp .le 13, 3) := by decide +kernel
theorem d_IR_feed_11 : decode b_IR_feed 11 = .ok (.new 37, 3) := by decide +kernel
theorem d_IR_feed_14 : decode b_IR_feed 14 = .ok (.dup, 1) := by decide +kernel
theorem d_IR_feed_15 : decode b_IR_feed 15 = .ok (.ldc 39, 2) := by decide +kernel
theorem d_IR_feed_17 : decode b_IR_feed 17 = .ok (.invokespecial 41, 3) := by decide +kernel
theorem d_IR_feed_20 : decode b_IR_feed 20 = .ok (.athrow, 1) := by decide +kernel
theorem d_IR_feed_21 : decode b_IR_feed 21 = .ok (.aload_n 0, 1) := by decide +kernel
theorem d_IR_feed_22 : decode b_IR_feed 22 = .ok (.getfield 44, 3) := by decide +kernel
theorem d_IR_feed_25 : decode b_IR_feed 25 = .ok (.iload_n 1, 1) := by decide +kernel
theorem d_IR_feed_26 : decode b_IR_feed 26 = .ok (.iadd, 1) := by decide +kernel
theorem d_IR_feed_27 : decode b_IR_feed 27 = .ok (.sipush 1000, 3) := by decide +kernel
theorem d_IR_feed_30 : decode b_IR_feed 30 = .ok (.if_icmp .le 5, 3) := by decide +kernel
theorem d_IR_feed_33 : decode b_IR_feed 33 = .ok (.iconst (-1), 1) := by decide +kernel
theorem d_IR_feed_34 : decode b_IR_feed 34 = .ok (.ireturn, 1) := by decide +kernel
theorem d_IR_feed_35 : decode b_IR_feed 35 = .ok (.iconst 0, 1) := by decide +kernel
theorem d_IR_feed_36 : decode b_IR_feed 36 = .ok (.istore 4, 2) := by decide +kernel
theorem d_IR_feed_38 : decode b_IR_feed 38 = .ok (.iload 4, 2) := by decide +kernel
theorem d_IR_feed_40 : decode b_IR_feed 40 = .ok (.iload_n 1, 1) := by decide +kernel
theorem d_IR_feed_41 : decode b_IR_feed 41 = .ok (.if_icmp .ge 34, 3) := by decide +kernel
theorem d_IR_feed_44 : decode b_IR_feed 44 = .ok (.aload_n 0, 1) := by decide +kernel
theorem d_IR_feed_45 : decode b_IR_feed 45 = .ok (.getfield 9, 3) := by decide +kernel
theorem d_IR_feed_48 : decode b_IR_feed 48 = .ok (.aload_n 0, 1) := by decide +kernel
theorem d_IR_feed_49 : decode b_IR_feed 49 = .ok (.getfield 44, 3) := by decide +kernel
theorem d_IR_feed_52 : decode b_IR_feed 52 = .ok (.iload 4, 2) := by decide +kernel
theorem d_IR_feed_54 : decode b_IR_feed 54 = .ok (.iadd, 1) := by decide +kernel
theorem d_IR_feed_55 : decode b_IR_feed 55 = .ok (.lload_n 2, 1) := by decide +kernel
theorem d_IR_feed_56 : decode b_IR_feed 56 = .ok (.bipush 8, 2) := by decide +kernel
theorem d_IR_feed_58 : decode b_IR_feed 58 = .ok (.iload 4, 2) := by decide +kernel
theorem d_IR_feed_60 : decode b_IR_feed 60 = .ok (.imul, 1) := by decide +kernel
theorem d_IR_feed_61 : decode b_IR_feed 61 = .ok (.lushr, 1) := by decide +kernel
theorem d_IR_feed_62 : decode b_IR_feed 62 = .ok (.ldc2_w 48, 3) := by decide +kernel
theorem d_IR_feed_65 : decode b_IR_feed 65 = .ok (.land, 1) := by decide +kernel
theorem d_IR_feed_66 : decode b_IR_feed 66 = .ok (.l2i, 1) := by decide +kernel
theorem d_IR_feed_67 : decode b_IR_feed 67 = .ok (.i2c, 1) := by decide +kernel
theorem d_IR_feed_68 : decode b_IR_feed 68 = .ok (.castore, 1) := by decide +kernel
theorem d_IR_feed_69 : decode b_IR_feed 69 = .ok (.iinc 4 1, 3) := by decide +kernel
theorem d_IR_feed_72 : decode b_IR_feed 72 = .ok (.goto (-34), 3) := by decide +kernel
theorem d_IR_feed_75 : decode b_IR_feed 75 = .ok (.aload_n 0, 1) := by decide +kernel
theorem d_IR_feed_76 : decode b_IR_feed 76 = .ok (.dup, 1) := by decide +kernel
theorem d_IR_feed_77 : decode b_IR_feed 77 = .ok (.getfield 44, 3) := by decide +kernel
theorem d_IR_feed_80 : decode b_IR_feed 80 = .ok (.iload_n 1, 1) := by decide +kernel
theorem d_IR_feed_81 : decode b_IR_feed 81 = .ok (.iadd, 1) := by decide +kernel
theorem d_IR_feed_82 : decode b_IR_feed 82 = .ok (.putfield 44, 3) := by decide +kernel
theorem d_IR_feed_85 : decode b_IR_feed 85 = .ok (.aload_n 0, 1) := by decide +kernel
theorem d_IR_feed_86 : decode b_IR_feed 86 = .ok (.getfield 44, 3) := by decide +kernel
theorem d_IR_feed_89 : decode b_IR_feed 89 = .ok (.ireturn, 1) := by decide +kernel
abbrev w_IR_feed : List Cond := Cond.code y_IR_feed b_IR_feed 5 (some .int) :: ig_T
theorem g_IR_feed : GoodIn ig_T w_IR_feed := ig_T_good (ig_T_mem (List.mem_append_left _ (List.mem_of_getElem? (i := 161) rfl)) rfl)
set_option maxHeartbeats 4000000 in
set_option maxRecDepth 100000 in
theorem c_IR_feed (l : Launch) (dC : Nat → ClassId) (dI : Nat → Nat → Nat) (cC cI cZ cL : ClassId) (x0 qT q0 s0 p0 m0 : Nat)  (tl : Nat) (tA : Nat → Int32) (x : Int32) (b : Int64) (sz : Nat) (hr : r_IR_feed tl tA x b) : Met l y_IR_feed w_IR_feed ({ frames := 0, cells := 0, slots := 0, locals := 0 }) (ig_Pc (dC, dI) ig_cl0 [(cC, .char), (cI, .int), (cZ, .boolean), (cL, .long)] [.ref x0, .int x, .long b] [(x0, .inr (ciIR, [.ref qT, .int (nI tl), .ref q0, .ref s0, .ref p0, .ref m0])), (qT, .inl (cC, 1000, .inl tA))] sz) (va_Qi (fun (r : Int32) (u : Nat × (Nat → Int32)) => p_IR_feed tl tA x b r u.1 u.2) (fun u t => va_P (dC, dI) ig_cl0 ((fun (u : Nat × (Nat → Int32)) => [(x0, .inr (ciIR, [.ref qT, .int (nI u.1), .ref q0, .ref s0, .ref p0, .ref m0])), (qT, .inl (cC, 1000, .inl u.2))]) u) t.heap ∧ va_D (va_A [(x0, .inr (ciIR, [.ref qT, .int (nI tl), .ref q0, .ref s0, .ref p0, .ref m0])), (qT, .inl (cC, 1000, .inl tA))] sz) ((fun (u : Nat × (Nat → Int32)) => [(x0, .inr (ciIR, [.ref qT, .int (nI u.1), .ref q0, .ref s0, .ref p0, .ref m0])), (qT, .inl (cC, 1000, .inl u.2))]) u)) (va_A [(x0, .inr (ciIR, [.ref qT, .int (nI tl), .ref q0, .ref s0, .ref p0, .ref m0])), (qT, .inl (cC, 1000, .inl tA))] sz)) 0 0 (va_A [(x0, .inr (ciIR, [.ref qT, .int (nI tl), .ref q0, .ref s0, .ref p0, .ref m0])), (qT, .inl (cC, 1000, .inl tA))] sz) := by
  refine ig_metI (fun (r : Int32) (u : Nat × (Nat → Int32)) => p_IR_feed tl tA x b r u.1 u.2) (fun (u : Nat × (Nat → Int32)) => [(x0, .inr (ciIR, [.ref qT, .int (nI u.1), .ref q0, .ref s0, .ref p0, .ref m0])), (qT, .inl (cC, 1000, .inl u.2))]) (by decide) rfl (Nat.le_of_ble_eq_true rfl) rfl (fun _ _ _ => rfl) ?_
  intro zp ze zs zm zargs zbelow zmeth zc zA zQ hx hb hml hown hts hK hN hA hret
  obtain ⟨K38, hK38⟩ : ∃ K : Nat → Nat → (Nat → Int32) → Prop, K = fun (k : Nat) (tlc : Nat) (tAc : Nat → Int32) => ig_W zp l ze ({ frames := 0, cells := 0, slots := 0, locals := 0 }) zs zm zargs zbelow zmeth zc (dC, dI) ig_cl0 zA zs.heap 5 0 0 zQ 38 [(0, .ref x0), (1, .int x), (2, .long b), (4, .int (nI k))] [] [(x0, .inr (ciIR, [.ref qT, .int (nI tlc), .ref q0, .ref s0, .ref p0, .ref m0])), (qT, .inl (cC, 1000, .inl tAc))] := ⟨_, rfl⟩
  have j11 : ∀ (tlc : Nat) (tAc : Nat → Int32), v_IR_feed_11 tl tA x b K38 (p_IR_feed tl tA x b) tlc tAc → ig_W zp l ze ({ frames := 0, cells := 0, slots := 0, locals := 0 }) zs zm zargs zbelow zmeth zc (dC, dI) ig_cl0 zA zs.heap 5 0 0 zQ 11 [] [] [(x0, .inr (ciIR, [.ref qT, .int (nI tlc), .ref q0, .ref s0, .ref p0, .ref m0])), (qT, .inl (cC, 1000, .inl tAc))] := by
    intro tlc tAc hv
    unfold v_IR_feed_11 at hv
    exact False.elim hv
  have k38 : ∀ (k : Nat) (tlc : Nat) (tAc : Nat → Int32), v_IR_feed_38 tl tA x b K38 (p_IR_feed tl tA x b) k tlc tAc → K38 k tlc tAc := by
    intro k tlc tAc hv
    unfold v_IR_feed_38 at hv
    rw [hK38]
    show ig_W zp l ze ({ frames := 0, cells := 0, slots := 0, locals := 0 }) zs zm zargs zbelow zmeth zc (dC, dI) ig_cl0 zA zs.heap 5 0 0 zQ 38 [(0, .ref x0), (1, .int x), (2, .long b), (4, .int (nI k))] [] [(x0, .inr (ciIR, [.ref qT, .int (nI tlc), .ref q0, .ref s0, .ref p0, .ref m0])), (qT, .inl (cC, 1000, .inl tAc))]
    refine ig_iload hx hb 3 d_IR_feed_38 rfl ?_
    refine ig_iload_n hx hb 1 d_IR_feed_40 rfl rfl ?_
    obtain ⟨n2, he_n2, hv⟩ := hv
    rw [he_n2]
    obtain ⟨h1, hv⟩ := hv
    obtain ⟨h2, hv⟩ := hv
    refine ig_icmp_geN (tgt := 75) hx hb k n2 rfl rfl d_IR_feed_41 (by decide) h1 h2 (fun h => ?_) (fun h => ?_)
    · have hv := hv.1 h
      rw [← he_n2]
      refine ig_aload_n hx hb 0 d_IR_feed_75 rfl rfl ?_
      refine ig_dup hx hb d_IR_feed_76 rfl ?_
      refine ig_get hx hb hts in_IR hown hK 0 rfl rfl 1 (by decide) (hts _ kw_0_90) (fun _ h => h) rfl d_IR_feed_77 ?_
      refine ig_iload_n hx hb 1 d_IR_feed_80 rfl rfl ?_
      obtain ⟨n3, he_n3, hv⟩ := hv
      rw [he_n3]
      refine ig_iaddN hx hb tlc n3 rfl rfl d_IR_feed_81 ?_
      refine ig_put (ty := .int) (v := .int (nI (tlc + n3))) (ws' := [(x0, .inr (ciIR, [.ref qT, .int (nI (tlc + n3)), .ref q0, .ref s0, .ref p0, .ref m0])), (qT, .inl (cC, 1000, .inl tAc))]) hx hb hts in_IR t_IR t_IR_ok n_IR hown hK 0 rfl rfl 1 (by decide) (hts _ kw_0_90) (fun _ h => h) rfl (by decide +kernel) rfl rfl (Nat.le_of_ble_eq_true rfl) d_IR_feed_82 rfl ?_
      refine ig_aload_n hx hb 0 d_IR_feed_85 rfl rfl ?_
      refine ig_get hx hb hts in_IR hown hK 0 rfl rfl 1 (by decide) (hts _ kw_0_90) (fun _ h => h) rfl d_IR_feed_86 ?_
      exact hret 89 _ (nI (tlc + n3)) (tlc + n3, tAc) d_IR_feed_89 hv
    · have hv := hv.2 h
      rw [← he_n2]
      refine ig_aload_n hx hb 0 d_IR_feed_44 rfl rfl ?_
      refine ig_get hx hb hts in_IR hown hK 0 rfl rfl 0 (by decide) (hts _ kw_0_89) (fun _ h => h) rfl d_IR_feed_45 ?_
      refine ig_aload_n hx hb 0 d_IR_feed_48 rfl rfl ?_
      refine ig_get hx hb hts in_IR hown hK 0 rfl rfl 1 (by decide) (hts _ kw_0_90) (fun _ h => h) rfl d_IR_feed_49 ?_
      refine ig_iload hx hb 3 d_IR_feed_52 rfl ?_
      refine ig_iaddN hx hb tlc k rfl rfl d_IR_feed_54 ?_
      refine ig_lload_n hx hb 2 d_IR_feed_55 rfl rfl ?_
      refine ig_bipush (v := 8) hx hb d_IR_feed_56 (by decide) ?_
      refine ig_iload hx hb 3 d_IR_feed_58 rfl ?_
      refine ig_imulN hx hb 8 k rfl rfl d_IR_feed_60 ?_
      refine ig_lushr (v := (b.toUInt64 >>> ((nI (8 * k)).toInt64.toUInt64 &&& Int64.toUInt64 63)).toInt64) hx hb d_IR_feed_61 rfl ?_
      refine ig_ldc2 (v := 255) hx hb d_IR_feed_62 hown (hts _ kw_0_230) ?_
      refine ig_land hx hb d_IR_feed_65 ?_
      refine ig_l2i (v := (((b.toUInt64 >>> ((nI (8 * k)).toInt64.toUInt64 &&& Int64.toUInt64 63)).toInt64) &&& 255).toInt32) hx hb d_IR_feed_66 rfl ?_
      refine ig_i2c (v := (((((b.toUInt64 >>> ((nI (8 * k)).toInt64.toUInt64 &&& Int64.toUInt64 63)).toInt64) &&& 255).toInt32).toUInt32 % 65536).toInt32) hx hb d_IR_feed_67 rfl ?_
      obtain ⟨hc, hv⟩ := hv
      obtain ⟨hn, hv⟩ := hv
      refine ig_cast (f' := upd tAc (tlc + k) ((((((b.toUInt64 >>> ((nI (8 * k)).toInt64.toUInt64 &&& Int64.toUInt64 63)).toInt64) &&& 255).toInt32).toUInt32 % 65536).toInt32)) (ws' := [(x0, .inr (ciIR, [.ref qT, .int (nI tlc), .ref q0, .ref s0, .ref p0, .ref m0])), (qT, .inl (cC, 1000, .inl (upd tAc (tlc + k) ((((((b.toUInt64 >>> ((nI (8 * k)).toInt64.toUInt64 &&& Int64.toUInt64 63)).toInt64) &&& 255).toInt32).toUInt32 % 65536).toInt32))))]) hx hb hK 1 0 rfl rfl (tlc + k) rfl hc (by decide) hn rfl d_IR_feed_68 rfl ?_
      refine ig_iinc (v := (nI (k + 1))) (lv' := [(4, .int (nI (k + 1))), (0, .ref x0), (1, .int x), (2, .long b)]) hx hb 3 d_IR_feed_69 rfl (ig_inc k 1 (by decide)) (by decide) rfl ?_
      refine ig_goto (tgt := 38) hx hb d_IR_feed_72 (by decide) ?_
      refine ig_lv (lv' := [(0, .ref x0), (1, .int x), (2, .long b), (4, .int (nI (k + 1)))]) [1, 2, 3, 0] rfl ?_
      rw [hK38] at hv
      exact hv
  have hv := t_IR_feed tl tA x b hr K38 k38
  unfold v_IR_feed at hv
  refine ig_iload_n hx hb 1 d_IR_feed_0 rfl rfl ?_
  refine ig_iconst (v := 1) hx hb d_IR_feed_1 (by decide) ?_
  refine ig_icmp_lt (tgt := 11) hx hb d_IR_feed_2 (by decide) (fun h => ?_) (fun h => ?_)
  · have hv := hv.1 h
    refine ig_lv (lv' := []) [] rfl ?_
    exact j11 _ _ hv
  · have hv := hv.2 h
    refine ig_iload_n hx hb 1 d_IR_feed_5 rfl rfl ?_
    refine ig_bipush (v := 8) hx hb d_IR_feed_6 (by decide) ?_
    refine ig_icmp_le (tgt := 21) hx hb d_IR_feed_8 (by decide) (fun h => ?_) (fun h => ?_)
    · have hv := hv.1 h
      refine ig_aload_n hx hb 0 d_IR_feed_21 rfl rfl ?_
      refine ig_get hx hb hts in_IR hown hK 0 rfl rfl 1 (by decide) (hts _ kw_0_90) (fun _ h => h) rfl d_IR_feed_22 ?_
      refine ig_iload_n hx hb 1 d_IR_feed_25 rfl rfl ?_
      obtain ⟨n1, he_n1, hv⟩ := hv
      rw [he_n1]
      refine ig_iaddN hx hb tl n1 rfl rfl d_IR_feed_26 ?_
      refine ig_sipush (v := 1000) hx hb d_IR_feed_27 (by decide) ?_
      obtain ⟨h1, hv⟩ := hv
      refine ig_icmp_leN (tgt := 35) hx hb (tl + n1) 1000 rfl rfl d_IR_feed_30 (by decide) h1 (by decide) (fun h => ?_) (fun h => ?_)
      · have hv := hv.1 h
        rw [← he_n1]
        refine ig_iconst (v := 0) hx hb d_IR_feed_35 (by decide) ?_
        refine ig_istore (lv' := [(4, .int 0), (0, .ref x0), (1, .int x), (2, .long b)]) hx hb d_IR_feed_36 (by decide) rfl ?_
        refine ig_lv (lv' := [(0, .ref x0), (1, .int x), (2, .long b), (4, .int 0)]) [1, 2, 3, 0] rfl ?_
        rw [hK38] at hv
        exact hv
      · have hv := hv.2 h
        refine ig_iconst (v := (-1)) hx hb d_IR_feed_33 (by decide) ?_
        exact hret 34 _ (-1) (tl, tA) d_IR_feed_34 hv
    · have hv := hv.2 h
      refine ig_lv (lv' := []) [] rfl ?_
      exact j11 _ _ hv
