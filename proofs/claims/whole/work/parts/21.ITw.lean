theorem kw_0_10 : Cond.initialized "IgnoreRules$Items" ∈ ig_T := ig_T_mem (List.mem_append_left _ (List.mem_of_getElem? (i := 10) rfl)) rfl
theorem kw_0_64 : Cond.fieldLink "IgnoreRules$Path" 15 "IgnoreRules$Path" "starts" "[I" ∈ ig_T := ig_T_mem (List.mem_append_left _ (List.mem_of_getElem? (i := 64) rfl)) rfl
theorem kw_0_143 : Cond.methodLink "IgnoreRules$Items" 9 y_IT_lastByte ∈ ig_T := ig_T_mem (List.mem_append_left _ (List.mem_of_getElem? (i := 143) rfl)) rfl
theorem kw_0_144 : Cond.static y_IT_lastByte ∈ ig_T := ig_T_mem (List.mem_append_left _ (List.mem_of_getElem? (i := 144) rfl)) rfl
theorem d_IT_lastByte_0 : decode b_IT_lastByte 0 = .ok (.aload_n 0, 1) := by decide +kernel
theorem d_IT_lastByte_1 : decode b_IT_lastByte 1 = .ok (.iload_n 1, 1) := by decide +kernel
theorem d_IT_lastByte_2 : decode b_IT_lastByte 2 = .ok (.caload, 1) := by decide +kernel
theorem d_IT_lastByte_3 : decode b_IT_lastByte 3 = .ok (.bipush 92, 2) := by decide +kernel
theorem d_IT_lastByte_5 : decode b_IT_lastByte 5 = .ok (.if_icmp .ne 18, 3) := by decide +kernel
theorem d_IT_lastByte_8 : decode b_IT_lastByte 8 = .ok (.iload_n 1, 1) := by decide +kernel
theorem d_IT_lastByte_9 : decode b_IT_lastByte 9 = .ok (.iconst 1, 1) := by decide +kernel
theorem d_IT_lastByte_10 : decode b_IT_lastByte 10 = .ok (.iadd, 1) := by decide +kernel
theorem d_IT_lastByte_11 : decode b_IT_lastByte 11 = .ok (.iload_n 2, 1) := by decide +kernel
theorem d_IT_lastByte_12 : decode b_IT_lastByte 12 = .ok (.if_icmp .ge 9, 3) := by decide +kernel
theorem d_IT_lastByte_15 : decode b_IT_lastByte 15 = .ok (.iload_n 1, 1) := by decide +kernel
theorem d_IT_lastByte_16 : decode b_IT_lastByte 16 = .ok (.iconst 1, 1) := by decide +kernel
theorem d_IT_lastByte_17 : decode b_IT_lastByte 17 = .ok (.iadd, 1) := by decide +kernel
theorem d_IT_lastByte_18 : decode b_IT_lastByte 18 = .ok (.goto 4, 3) := by decide +kernel
theorem d_IT_lastByte_21 : decode b_IT_lastByte 21 = .ok (.iconst (-1), 1) := by decide +kernel
theorem d_IT_lastByte_22 : decode b_IT_lastByte 22 = .ok (.ireturn, 1) := by decide +kernel
theorem d_IT_lastByte_23 : decode b_IT_lastByte 23 = .ok (.aload_n 0, 1) := by decide +kernel
theorem d_IT_lastByte_24 : decode b_IT_lastByte 24 = .ok (.iload_n 1, 1) := by decide +kernel
theorem d_IT_lastByte_25 : decode b_IT_lastByte 25 = .ok (.caload, 1) := by decide +kernel
theorem d_IT_lastByte_26 : decode b_IT_lastByte 26 = .ok (.bipush 91, 2) := by decide +kernel
theorem d_IT_lastByte_28 : decode b_IT_lastByte 28 = .ok (.if_icmp .eq 5, 3) := by decide +kernel
theorem d_IT_lastByte_31 : decode b_IT_lastByte 31 = .ok (.iload_n 1, 1) := by decide +kernel
theorem d_IT_lastByte_32 : decode b_IT_lastByte 32 = .ok (.ireturn, 1) := by decide +kernel
theorem d_IT_lastByte_33 : decode b_IT_lastByte 33 = .ok (.iload_n 1, 1) := by decide +kernel
theorem d_IT_lastByte_34 : decode b_IT_lastByte 34 = .ok (.iconst 1, 1) := by decide +kernel
theorem d_IT_lastByte_35 : decode b_IT_lastByte 35 = .ok (.iadd, 1) := by decide +kernel
theorem d_IT_lastByte_36 : decode b_IT_lastByte 36 = .ok (.iload_n 2, 1) := by decide +kernel
theorem d_IT_lastByte_37 : decode b_IT_lastByte 37 = .ok (.if_icmp .ge 27, 3) := by decide +kernel
theorem d_IT_lastByte_40 : decode b_IT_lastByte 40 = .ok (.aload_n 0, 1) := by decide +kernel
theorem d_IT_lastByte_41 : decode b_IT_lastByte 41 = .ok (.iload_n 1, 1) := by decide +kernel
theorem d_IT_lastByte_42 : decode b_IT_lastByte 42 = .ok (.iconst 1, 1) := by decide +kernel
theorem d_IT_lastByte_43 : decode b_IT_lastByte 43 = .ok (.iadd, 1) := by decide +kernel
theorem d_IT_lastByte_44 : decode b_IT_lastByte 44 = .ok (.caload, 1) := by decide +kernel
theorem d_IT_lastByte_45 : decode b_IT_lastByte 45 = .ok (.bipush 33, 2) := by decide +kernel
theorem d_IT_lastByte_47 : decode b_IT_lastByte 47 = .ok (.if_icmp .eq 13, 3) := by decide +kernel
theorem d_IT_lastByte_50 : decode b_IT_lastByte 50 = .ok (.aload_n 0, 1) := by decide +kernel
theorem d_IT_lastByte_51 : decode b_IT_lastByte 51 = .ok (.iload_n 1, 1) := by decide +kernel
theorem d_IT_lastByte_52 : decode b_IT_lastByte 52 = .ok (.iconst 1, 1) := by decide +kernel
theorem d_IT_lastByte_53 : decode b_IT_lastByte 53 = .ok (.iadd, 1) := by decide +kernel
theorem d_IT_lastByte_54 : decode b_IT_lastByte 54 = .ok (.caload, 1) := by decide +kernel
theorem d_IT_lastByte_55 : decode b_IT_lastByte 55 = .ok (.bipush 94, 2) := by decide +kernel
theorem d_IT_lastByte_57 : decode b_IT_lastByte 57 = .ok (.if_icmp .ne 7, 3) := by decide +kernel
theorem d_IT_lastByte_60 : decode b_IT_lastByte 60 = .ok (.iconst 1, 1) := by decide +kernel
theorem d_IT_lastByte_61 : decode b_IT_lastByte 61 = .ok (.goto 4, 3) := by decide +kernel
theorem d_IT_lastByte_64 : decode b_IT_lastByte 64 = .ok (.iconst 0, 1) := by decide +kernel
theorem d_IT_lastByte_65 : decode b_IT_lastByte 65 = .ok (.istore_n 3, 1) := by decide +kernel
theorem d_IT_lastByte_66 : decode b_IT_lastByte 66 = .ok (.iload_n 3, 1) := by decide +kernel
theorem d_IT_lastByte_67 : decode b_IT_lastByte 67 = .ok (.ifCond .eq 9, 3) := by decide +kernel
theorem d_IT_lastByte_70 : decode b_IT_lastByte 70 = .ok (.iload_n 1, 1) := by decide +kernel
theorem d_IT_lastByte_71 : decode b_IT_lastByte 71 = .ok (.iconst 2, 1) := by decide +kernel
theorem d_IT_lastByte_72 : decode b_IT_lastByte 72 = .ok (.iadd, 1) := by decide +kernel
theorem d_IT_lastByte_73 : decode b_IT_lastByte 73 = .ok (.goto 6, 3) := by decide +kernel
theorem d_IT_lastByte_76 : decode b_IT_lastByte 76 = .ok (.iload_n 1, 1) := by decide +kernel
theorem d_IT_lastByte_77 : decode b_IT_lastByte 77 = .ok (.iconst 1, 1) := by decide +kernel
theorem d_IT_lastByte_78 : decode b_IT_lastByte 78 = .ok (.iadd, 1) := by decide +kernel
theorem d_IT_lastByte_79 : decode b_IT_lastByte 79 = .ok (.istore 4, 2) := by decide +kernel
theorem d_IT_lastByte_81 : decode b_IT_lastByte 81 = .ok (.iload 4, 2) := by decide +kernel
theorem d_IT_lastByte_83 : decode b_IT_lastByte 83 = .ok (.istore 5, 2) := by decide +kernel
theorem d_IT_lastByte_85 : decode b_IT_lastByte 85 = .ok (.iload 5, 2) := by decide +kernel
theorem d_IT_lastByte_87 : decode b_IT_lastByte 87 = .ok (.iload_n 2, 1) := by decide +kernel
theorem d_IT_lastByte_88 : decode b_IT_lastByte 88 = .ok (.if_icmp .ge 40, 3) := by decide +kernel
theorem d_IT_lastByte_91 : decode b_IT_lastByte 91 = .ok (.aload_n 0, 1) := by decide +kernel
theorem d_IT_lastByte_92 : decode b_IT_lastByte 92 = .ok (.iload 5, 2) := by decide +kernel
theorem d_IT_lastByte_94 : decode b_IT_lastByte 94 = .ok (.caload, 1) := by decide +kernel
theorem d_IT_lastByte_95 : decode b_IT_lastByte 95 = .ok (.bipush 93, 2) := by decide +kernel
theorem d_IT_lastByte_97 : decode b_IT_lastByte 97 = .ok (.if_icmp .ne 13, 3) := by decide +kernel
theorem d_IT_lastByte_100 : decode b_IT_lastByte 100 = .ok (.iload 5, 2) := by decide +kernel
theorem d_IT_lastByte_102 : decode b_IT_lastByte 102 = .ok (.iload 4, 2) := by decide +kernel
theorem d_IT_lastByte_104 : decode b_IT_lastByte 104 = .ok (.if_icmp .le 6, 3) := by decide +kernel
theorem d_IT_lastByte_107 : decode b_IT_lastByte 107 = .ok (.iload 5, 2) := by decide +kernel
theorem d_IT_lastByte_109 : decode b_IT_lastByte 109 = .ok (.ireturn, 1) := by decide +kernel
theorem d_IT_lastByte_110 : decode b_IT_lastByte 110 = .ok (.aload_n 0, 1) := by decide +kernel
theorem d_IT_lastByte_111 : decode b_IT_lastByte 111 = .ok (.iload 5, 2) := by decide +kernel
theorem d_IT_lastByte_113 : decode b_IT_lastByte 113 = .ok (.caload, 1) := by decide +kernel
theorem d_IT_lastByte_114 : decode b_IT_lastByte 114 = .ok (.bipush 92, 2) := by decide +kernel
theorem d_IT_lastByte_116 : decode b_IT_lastByte 116 = .ok (.if_icmp .ne 6, 3) := by decide +kernel
theorem d_IT_lastByte_119 : decode b_IT_lastByte 119 = .ok (.iinc 5 1, 3) := by decide +kernel
theorem d_IT_lastByte_122 : decode b_IT_lastByte 122 = .ok (.iinc 5 1, 3) := by decide +kernel
theorem d_IT_lastByte_125 : decode b_IT_lastByte 125 = .ok (.goto (-40), 3) := by decide +kernel
theorem d_IT_lastByte_128 : decode b_IT_lastByte 128 = .ok (.iconst (-1), 1) := by decide +kernel
theorem d_IT_lastByte_129 : decode b_IT_lastByte 129 = .ok (.ireturn, 1) := by decide +kernel
abbrev w_IT_lastByte : List Cond := Cond.code y_IT_lastByte b_IT_lastByte 6 (some .int) :: ig_T
theorem g_IT_lastByte : GoodIn ig_T w_IT_lastByte := ig_T_good (ig_T_mem (List.mem_append_left _ (List.mem_of_getElem? (i := 145) rfl)) rfl)
set_option maxHeartbeats 4000000 in
set_option maxRecDepth 100000 in
theorem c_IT_lastByte (l : Launch) (dC : Nat → ClassId) (dI : Nat → Nat → Nat) (cC cI cZ cL : ClassId) (qt : Nat)  (tT : Nat → Int32) (k : Nat) (a : Nat) (sz : Nat) (hr : r_IT_lastByte tT k a) : Met l y_IT_lastByte w_IT_lastByte ({ frames := 0, cells := 0, slots := 0, locals := 0 }) (ig_Pc (dC, dI) ig_cl0 [(cC, .char), (cI, .int), (cZ, .boolean), (cL, .long)] [.ref qt, .int (nI k), .int (nI a)] [(qt, .inl (cC, 1000, .inl tT))] sz) (va_Qi (fun (r : Int32) (u : Unit) => p_IT_lastByte tT k a r ) (fun u t => va_P (dC, dI) ig_cl0 ((fun (u : Unit) => [(qt, .inl (cC, 1000, .inl tT))]) u) t.heap ∧ va_D (va_A [(qt, .inl (cC, 1000, .inl tT))] sz) ((fun (u : Unit) => [(qt, .inl (cC, 1000, .inl tT))]) u)) (va_A [(qt, .inl (cC, 1000, .inl tT))] sz)) 0 0 (va_A [(qt, .inl (cC, 1000, .inl tT))] sz) := by
  refine ig_metI (fun (r : Int32) (u : Unit) => p_IT_lastByte tT k a r ) (fun (u : Unit) => [(qt, .inl (cC, 1000, .inl tT))]) (by decide) rfl (Nat.le_of_ble_eq_true rfl) rfl (fun _ _ _ => rfl) ?_
  intro zp ze zs zm zargs zbelow zmeth zc zA zQ hx hb hml hown hts hK hN hA hret
  obtain ⟨K85, hK85⟩ : ∃ K : Nat → Nat → Prop, K = fun (fi : Nat) (b : Nat) => ig_W zp l ze ({ frames := 0, cells := 0, slots := 0, locals := 0 }) zs zm zargs zbelow zmeth zc (dC, dI) ig_cl0 zA zs.heap 6 0 0 zQ 85 [(0, .ref qt), (2, .int (nI a)), (4, .int (nI fi)), (5, .int (nI b))] [] [(qt, .inl (cC, 1000, .inl tT))] := ⟨_, rfl⟩
  have j65 : ∀ (s0 : Bool), v_IT_lastByte_65 tT k a K85 (p_IT_lastByte tT k a) s0 → ig_W zp l ze ({ frames := 0, cells := 0, slots := 0, locals := 0 }) zs zm zargs zbelow zmeth zc (dC, dI) ig_cl0 zA zs.heap 6 0 0 zQ 65 [(0, .ref qt), (1, .int (nI k)), (2, .int (nI a))] [.int (bI s0)] [(qt, .inl (cC, 1000, .inl tT))] := by
    intro s0 hv
    unfold v_IT_lastByte_65 at hv
    refine ig_istore_n (lv' := [(3, .int (bI s0)), (0, .ref qt), (1, .int (nI k)), (2, .int (nI a))]) hx hb d_IT_lastByte_65 rfl (by decide) rfl ?_
    refine ig_iload_n hx hb 0 d_IT_lastByte_66 rfl rfl ?_
    refine ig_if_eqB (tgt := 76) hx hb s0 rfl d_IT_lastByte_67 (by decide) (fun h => ?_) (fun h => ?_)
    · have hv := hv.1 h
      refine ig_iload_n hx hb 2 d_IT_lastByte_76 rfl rfl ?_
      refine ig_iconst (v := 1) hx hb d_IT_lastByte_77 (by decide) ?_
      refine ig_iaddN hx hb k 1 rfl rfl d_IT_lastByte_78 ?_
      refine ig_istore (lv' := [(4, .int (nI (k + 1))), (3, .int (bI s0)), (0, .ref qt), (1, .int (nI k)), (2, .int (nI a))]) hx hb d_IT_lastByte_79 (by decide) rfl ?_
      refine ig_iload hx hb 0 d_IT_lastByte_81 rfl ?_
      refine ig_istore (lv' := [(5, .int (nI (k + 1))), (4, .int (nI (k + 1))), (3, .int (bI s0)), (0, .ref qt), (1, .int (nI k)), (2, .int (nI a))]) hx hb d_IT_lastByte_83 (by decide) rfl ?_
      refine ig_lv (lv' := [(0, .ref qt), (2, .int (nI a)), (4, .int (nI (k + 1))), (5, .int (nI (k + 1)))]) [3, 5, 1, 0] rfl ?_
      rw [hK85] at hv
      exact hv
    · have hv := hv.2 h
      refine ig_iload_n hx hb 2 d_IT_lastByte_70 rfl rfl ?_
      refine ig_iconst (v := 2) hx hb d_IT_lastByte_71 (by decide) ?_
      refine ig_iaddN hx hb k 2 rfl rfl d_IT_lastByte_72 ?_
      refine ig_goto (tgt := 79) hx hb d_IT_lastByte_73 (by decide) ?_
      refine ig_istore (lv' := [(4, .int (nI (k + 2))), (3, .int (bI s0)), (0, .ref qt), (1, .int (nI k)), (2, .int (nI a))]) hx hb d_IT_lastByte_79 (by decide) rfl ?_
      refine ig_iload hx hb 0 d_IT_lastByte_81 rfl ?_
      refine ig_istore (lv' := [(5, .int (nI (k + 2))), (4, .int (nI (k + 2))), (3, .int (bI s0)), (0, .ref qt), (1, .int (nI k)), (2, .int (nI a))]) hx hb d_IT_lastByte_83 (by decide) rfl ?_
      refine ig_lv (lv' := [(0, .ref qt), (2, .int (nI a)), (4, .int (nI (k + 2))), (5, .int (nI (k + 2)))]) [3, 5, 1, 0] rfl ?_
      rw [hK85] at hv
      exact hv
  have j64 : v_IT_lastByte_64 tT k a K85 (p_IT_lastByte tT k a) → ig_W zp l ze ({ frames := 0, cells := 0, slots := 0, locals := 0 }) zs zm zargs zbelow zmeth zc (dC, dI) ig_cl0 zA zs.heap 6 0 0 zQ 64 [(0, .ref qt), (1, .int (nI k)), (2, .int (nI a))] [] [(qt, .inl (cC, 1000, .inl tT))] := by
    intro hv
    unfold v_IT_lastByte_64 at hv
    refine ig_iconst (v := 0) hx hb d_IT_lastByte_64 (by decide) ?_
    refine ig_lv (lv' := [(0, .ref qt), (1, .int (nI k)), (2, .int (nI a))]) [0, 1, 2] rfl ?_
    exact j65 _ hv
  have j60 : v_IT_lastByte_60 tT k a K85 (p_IT_lastByte tT k a) → ig_W zp l ze ({ frames := 0, cells := 0, slots := 0, locals := 0 }) zs zm zargs zbelow zmeth zc (dC, dI) ig_cl0 zA zs.heap 6 0 0 zQ 60 [(0, .ref qt), (1, .int (nI k)), (2, .int (nI a))] [] [(qt, .inl (cC, 1000, .inl tT))] := by
    intro hv
    unfold v_IT_lastByte_60 at hv
    refine ig_iconst (v := 1) hx hb d_IT_lastByte_60 (by decide) ?_
    refine ig_goto (tgt := 65) hx hb d_IT_lastByte_61 (by decide) ?_
    refine ig_lv (lv' := [(0, .ref qt), (1, .int (nI k)), (2, .int (nI a))]) [0, 1, 2] rfl ?_
    exact j65 _ hv
  have j110 : ∀ (fi : Nat) (b : Nat), v_IT_lastByte_110 tT k a K85 (p_IT_lastByte tT k a) fi b → ig_W zp l ze ({ frames := 0, cells := 0, slots := 0, locals := 0 }) zs zm zargs zbelow zmeth zc (dC, dI) ig_cl0 zA zs.heap 6 0 0 zQ 110 [(0, .ref qt), (2, .int (nI a)), (4, .int (nI fi)), (5, .int (nI b))] [] [(qt, .inl (cC, 1000, .inl tT))] := by
    intro fi b hv
    unfold v_IT_lastByte_110 at hv
    refine ig_aload_n hx hb 0 d_IT_lastByte_110 rfl rfl ?_
    refine ig_iload hx hb 3 d_IT_lastByte_111 rfl ?_
    obtain ⟨hc, hv⟩ := hv
    refine ig_cald (x := (tT b)) hx hb hK 0 0 rfl rfl b rfl hc (by decide) rfl d_IT_lastByte_113 ?_
    refine ig_bipush (v := 92) hx hb d_IT_lastByte_114 (by decide) ?_
    refine ig_icmp_ne (tgt := 122) hx hb d_IT_lastByte_116 (by decide) (fun h => ?_) (fun h => ?_)
    · have hv := hv.1 h
      refine ig_iinc (v := (nI (b + 1))) (lv' := [(5, .int (nI (b + 1))), (0, .ref qt), (2, .int (nI a)), (4, .int (nI fi))]) hx hb 3 d_IT_lastByte_122 rfl (ig_inc b 1 (by decide)) (by decide) rfl ?_
      refine ig_goto (tgt := 85) hx hb d_IT_lastByte_125 (by decide) ?_
      refine ig_lv (lv' := [(0, .ref qt), (2, .int (nI a)), (4, .int (nI fi)), (5, .int (nI (b + 1)))]) [1, 2, 3, 0] rfl ?_
      rw [hK85] at hv
      exact hv
    · have hv := hv.2 h
      refine ig_iinc (v := (nI (b + 1))) (lv' := [(5, .int (nI (b + 1))), (0, .ref qt), (2, .int (nI a)), (4, .int (nI fi))]) hx hb 3 d_IT_lastByte_119 rfl (ig_inc b 1 (by decide)) (by decide) rfl ?_
      refine ig_iinc (v := (nI (b + 1 + 1))) (lv' := [(5, .int (nI (b + 1 + 1))), (0, .ref qt), (2, .int (nI a)), (4, .int (nI fi))]) hx hb 0 d_IT_lastByte_122 rfl (ig_inc (b + 1) 1 (by decide)) (by decide) rfl ?_
      refine ig_goto (tgt := 85) hx hb d_IT_lastByte_125 (by decide) ?_
      refine ig_lv (lv' := [(0, .ref qt), (2, .int (nI a)), (4, .int (nI fi)), (5, .int (nI (b + 1 + 1)))]) [1, 2, 3, 0] rfl ?_
      rw [hK85] at hv
      exact hv
  have k85 : ∀ (fi : Nat) (b : Nat), v_IT_lastByte_85 tT k a K85 (p_IT_lastByte tT k a) fi b → K85 fi b := by
    intro fi b hv
    unfold v_IT_lastByte_85 at hv
    rw [hK85]
    show ig_W zp l ze ({ frames := 0, cells := 0, slots := 0, locals := 0 }) zs zm zargs zbelow zmeth zc (dC, dI) ig_cl0 zA zs.heap 6 0 0 zQ 85 [(0, .ref qt), (2, .int (nI a)), (4, .int (nI fi)), (5, .int (nI b))] [] [(qt, .inl (cC, 1000, .inl tT))]
    refine ig_iload hx hb 3 d_IT_lastByte_85 rfl ?_
    refine ig_iload_n hx hb 1 d_IT_lastByte_87 rfl rfl ?_
    obtain ⟨h1, hv⟩ := hv
    obtain ⟨h2, hv⟩ := hv
    refine ig_icmp_geN (tgt := 128) hx hb b a rfl rfl d_IT_lastByte_88 (by decide) h1 h2 (fun h => ?_) (fun h => ?_)
    · have hv := hv.1 h
      refine ig_iconst (v := (-1)) hx hb d_IT_lastByte_128 (by decide) ?_
      exact hret 129 _ (-1) () d_IT_lastByte_129 hv
    · have hv := hv.2 h
      refine ig_aload_n hx hb 0 d_IT_lastByte_91 rfl rfl ?_
      refine ig_iload hx hb 3 d_IT_lastByte_92 rfl ?_
      obtain ⟨hc, hv⟩ := hv
      refine ig_cald (x := (tT b)) hx hb hK 0 0 rfl rfl b rfl hc (by decide) rfl d_IT_lastByte_94 ?_
      refine ig_bipush (v := 93) hx hb d_IT_lastByte_95 (by decide) ?_
      refine ig_icmp_ne (tgt := 110) hx hb d_IT_lastByte_97 (by decide) (fun h => ?_) (fun h => ?_)
      · have hv := hv.1 h
        refine ig_lv (lv' := [(0, .ref qt), (2, .int (nI a)), (4, .int (nI fi)), (5, .int (nI b))]) [0, 1, 2, 3] rfl ?_
        exact j110 _ _ hv
      · have hv := hv.2 h
        refine ig_iload hx hb 3 d_IT_lastByte_100 rfl ?_
        refine ig_iload hx hb 2 d_IT_lastByte_102 rfl ?_
        obtain ⟨h1, hv⟩ := hv
        obtain ⟨h2, hv⟩ := hv
        refine ig_icmp_leN (tgt := 110) hx hb b fi rfl rfl d_IT_lastByte_104 (by decide) h1 h2 (fun h => ?_) (fun h => ?_)
        · have hv := hv.1 h
          refine ig_lv (lv' := [(0, .ref qt), (2, .int (nI a)), (4, .int (nI fi)), (5, .int (nI b))]) [0, 1, 2, 3] rfl ?_
          exact j110 _ _ hv
        · have hv := hv.2 h
          refine ig_iload hx hb 3 d_IT_lastByte_107 rfl ?_
          exact hret 109 _ (nI b) () d_IT_lastByte_109 hv
  have hv := t_IT_lastByte tT k a hr K85 k85
  unfold v_IT_lastByte at hv
  refine ig_aload_n hx hb 0 d_IT_lastByte_0 rfl rfl ?_
  refine ig_iload_n hx hb 1 d_IT_lastByte_1 rfl rfl ?_
  obtain ⟨hc, hv⟩ := hv
  refine ig_cald (x := (tT k)) hx hb hK 0 0 rfl rfl k rfl hc (by decide) rfl d_IT_lastByte_2 ?_
  refine ig_bipush (v := 92) hx hb d_IT_lastByte_3 (by decide) ?_
  refine ig_icmp_ne (tgt := 23) hx hb d_IT_lastByte_5 (by decide) (fun h => ?_) (fun h => ?_)
  · have hv := hv.1 h
    refine ig_aload_n hx hb 0 d_IT_lastByte_23 rfl rfl ?_
    refine ig_iload_n hx hb 1 d_IT_lastByte_24 rfl rfl ?_
    obtain ⟨hc, hv⟩ := hv
    refine ig_cald (x := (tT k)) hx hb hK 0 0 rfl rfl k rfl hc (by decide) rfl d_IT_lastByte_25 ?_
    refine ig_bipush (v := 91) hx hb d_IT_lastByte_26 (by decide) ?_
    refine ig_icmp_eq (tgt := 33) hx hb d_IT_lastByte_28 (by decide) (fun h => ?_) (fun h => ?_)
    · have hv := hv.1 h
      refine ig_iload_n hx hb 1 d_IT_lastByte_33 rfl rfl ?_
      refine ig_iconst (v := 1) hx hb d_IT_lastByte_34 (by decide) ?_
      refine ig_iaddN hx hb k 1 rfl rfl d_IT_lastByte_35 ?_
      refine ig_iload_n hx hb 2 d_IT_lastByte_36 rfl rfl ?_
      obtain ⟨h1, hv⟩ := hv
      obtain ⟨h2, hv⟩ := hv
      refine ig_icmp_geN (tgt := 64) hx hb (k + 1) a rfl rfl d_IT_lastByte_37 (by decide) h1 h2 (fun h => ?_) (fun h => ?_)
      · have hv := hv.1 h
        refine ig_lv (lv' := [(0, .ref qt), (1, .int (nI k)), (2, .int (nI a))]) [0, 1, 2] rfl ?_
        exact j64 hv
      · have hv := hv.2 h
        refine ig_aload_n hx hb 0 d_IT_lastByte_40 rfl rfl ?_
        refine ig_iload_n hx hb 1 d_IT_lastByte_41 rfl rfl ?_
        refine ig_iconst (v := 1) hx hb d_IT_lastByte_42 (by decide) ?_
        refine ig_iaddN hx hb k 1 rfl rfl d_IT_lastByte_43 ?_
        obtain ⟨hc, hv⟩ := hv
        refine ig_cald (x := (tT (k + 1))) hx hb hK 0 0 rfl rfl (k + 1) rfl hc (by decide) rfl d_IT_lastByte_44 ?_
        refine ig_bipush (v := 33) hx hb d_IT_lastByte_45 (by decide) ?_
        refine ig_icmp_eq (tgt := 60) hx hb d_IT_lastByte_47 (by decide) (fun h => ?_) (fun h => ?_)
        · have hv := hv.1 h
          refine ig_lv (lv' := [(0, .ref qt), (1, .int (nI k)), (2, .int (nI a))]) [0, 1, 2] rfl ?_
          exact j60 hv
        · have hv := hv.2 h
          refine ig_aload_n hx hb 0 d_IT_lastByte_50 rfl rfl ?_
          refine ig_iload_n hx hb 1 d_IT_lastByte_51 rfl rfl ?_
          refine ig_iconst (v := 1) hx hb d_IT_lastByte_52 (by decide) ?_
          refine ig_iaddN hx hb k 1 rfl rfl d_IT_lastByte_53 ?_
          obtain ⟨hc, hv⟩ := hv
          refine ig_cald (x := (tT (k + 1))) hx hb hK 0 0 rfl rfl (k + 1) rfl hc (by decide) rfl d_IT_lastByte_54 ?_
          refine ig_bipush (v := 94) hx hb d_IT_lastByte_55 (by decide) ?_
          refine ig_icmp_ne (tgt := 64) hx hb d_IT_lastByte_57 (by decide) (fun h => ?_) (fun h => ?_)
          · have hv := hv.1 h
            refine ig_lv (lv' := [(0, .ref qt), (1, .int (nI k)), (2, .int (nI a))]) [0, 1, 2] rfl ?_
            exact j64 hv
          · have hv := hv.2 h
            refine ig_lv (lv' := [(0, .ref qt), (1, .int (nI k)), (2, .int (nI a))]) [0, 1, 2] rfl ?_
            exact j60 hv
    · have hv := hv.2 h
      refine ig_iload_n hx hb 1 d_IT_lastByte_31 rfl rfl ?_
      exact hret 32 _ (nI k) () d_IT_lastByte_32 hv
  · have hv := hv.2 h
    refine ig_iload_n hx hb 1 d_IT_lastByte_8 rfl rfl ?_
    refine ig_iconst (v := 1) hx hb d_IT_lastByte_9 (by decide) ?_
    refine ig_iaddN hx hb k 1 rfl rfl d_IT_lastByte_10 ?_
    refine ig_iload_n hx hb 2 d_IT_lastByte_11 rfl rfl ?_
    obtain ⟨h1, hv⟩ := hv
    obtain ⟨h2, hv⟩ := hv
    refine ig_icmp_geN (tgt := 21) hx hb (k + 1) a rfl rfl d_IT_lastByte_12 (by decide) h1 h2 (fun h => ?_) (fun h => ?_)
    · have hv := hv.1 h
      refine ig_iconst (v := (-1)) hx hb d_IT_lastByte_21 (by decide) ?_
      exact hret 22 _ (-1) () d_IT_lastByte_22 hv
    · have hv := hv.2 h
      refine ig_iload_n hx hb 1 d_IT_lastByte_15 rfl rfl ?_
      refine ig_iconst (v := 1) hx hb d_IT_lastByte_16 (by decide) ?_
      refine ig_iaddN hx hb k 1 rfl rfl d_IT_lastByte_17 ?_
      refine ig_goto (tgt := 22) hx hb d_IT_lastByte_18 (by decide) ?_
      exact hret 22 _ (nI (k + 1)) () d_IT_lastByte_22 hv
theorem d_IT_areWhole_0 : decode b_IT_areWhole 0 = .ok (.iload_n 1, 1) := by decide +kernel
theorem d_IT_areWhole_1 : decode b_IT_areWhole 1 = .ok (.istore_n 3, 1) := by decide +kernel
theorem d_IT_areWhole_2 : decode b_IT_areWhole 2 = .ok (.iload_n 3, 1) := by decide +kernel
theorem d_IT_areWhole_3 : decode b_IT_areWhole 3 = .ok (.iload_n 2, 1) := by decide +kernel
theorem d_IT_areWhole_4 : decode b_IT_areWhole 4 = .ok (.if_icmp .ge 28, 3) := by decide +kernel
theorem d_IT_areWhole_7 : decode b_IT_areWhole 7 = .ok (.aload_n 0, 1) := by decide +kernel
theorem d_IT_areWhole_8 : decode b_IT_areWhole 8 = .ok (.iload_n 3, 1) := by decide +kernel
theorem d_IT_areWhole_9 : decode b_IT_areWhole 9 = .ok (.iload_n 2, 1) := by decide +kernel
theorem d_IT_areWhole_10 : decode b_IT_areWhole 10 = .ok (.invokestatic 9, 3) := by decide +kernel
theorem d_IT_areWhole_13 : decode b_IT_areWhole 13 = .ok (.istore 4, 2) := by decide +kernel
theorem d_IT_areWhole_15 : decode b_IT_areWhole 15 = .ok (.iload 4, 2) := by decide +kernel
theorem d_IT_areWhole_17 : decode b_IT_areWhole 17 = .ok (.iload_n 3, 1) := by decide +kernel
theorem d_IT_areWhole_18 : decode b_IT_areWhole 18 = .ok (.if_icmp .ge 5, 3) := by decide +kernel
theorem d_IT_areWhole_21 : decode b_IT_areWhole 21 = .ok (.iconst 0, 1) := by decide +kernel
theorem d_IT_areWhole_22 : decode b_IT_areWhole 22 = .ok (.ireturn, 1) := by decide +kernel
theorem d_IT_areWhole_23 : decode b_IT_areWhole 23 = .ok (.iload 4, 2) := by decide +kernel
theorem d_IT_areWhole_25 : decode b_IT_areWhole 25 = .ok (.istore_n 3, 1) := by decide +kernel
theorem d_IT_areWhole_26 : decode b_IT_areWhole 26 = .ok (.iinc 3 1, 3) := by decide +kernel
theorem d_IT_areWhole_29 : decode b_IT_areWhole 29 = .ok (.goto (-27), 3) := by decide +kernel
theorem d_IT_areWhole_32 : decode b_IT_areWhole 32 = .ok (.iload_n 1, 1) := by decide +kernel
theorem d_IT_areWhole_33 : decode b_IT_areWhole 33 = .ok (.iload_n 2, 1) := by decide +kernel
theorem d_IT_areWhole_34 : decode b_IT_areWhole 34 = .ok (.if_icmp .ge 7, 3) := by decide +kernel
theorem d_IT_areWhole_37 : decode b_IT_areWhole 37 = .ok (.iconst 1, 1) := by decide +kernel
theorem d_IT_areWhole_38 : decode b_IT_areWhole 38 = .ok (.goto 4, 3) := by decide +kernel
theorem d_IT_areWhole_41 : decode b_IT_areWhole 41 = .ok (.iconst 0, 1) := by decide +kernel
theorem d_IT_areWhole_42 : decode b_IT_areWhole 42 = .ok (.ireturn, 1) := by decide +kernel
abbrev w_IT_areWhole : List Cond := Cond.code y_IT_areWhole b_IT_areWhole 5 (some .boolean) :: ig_T
theorem g_IT_areWhole : GoodIn ig_T w_IT_areWhole := ig_T_good (ig_T_mem (List.mem_append_left _ (List.mem_of_getElem? (i := 142) rfl)) rfl)
set_option maxHeartbeats 4000000 in
set_option maxRecDepth 100000 in
theorem c_IT_areWhole (l : Launch) (dC : Nat → ClassId) (dI : Nat → Nat → Nat) (cC cI cZ cL : ClassId) (qt : Nat)  (tT : Nat → Int32) (f : Nat) (a : Nat) (sz : Nat) (hr : r_IT_areWhole tT f a) : Met l y_IT_areWhole w_IT_areWhole ({ frames := 1, cells := 0, slots := 0, locals := 25 }) (ig_Pc (dC, dI) ig_cl0 [(cC, .char), (cI, .int), (cZ, .boolean), (cL, .long)] [.ref qt, .int (nI f), .int (nI a)] [(qt, .inl (cC, 1000, .inl tT))] sz) (va_Qi (fun (r : Int32) (u : Unit) => ∃ zr : Bool, r = bI zr ∧ p_IT_areWhole tT f a zr ) (fun u t => va_P (dC, dI) ig_cl0 ((fun (u : Unit) => [(qt, .inl (cC, 1000, .inl tT))]) u) t.heap ∧ va_D (va_A [(qt, .inl (cC, 1000, .inl tT))] sz) ((fun (u : Unit) => [(qt, .inl (cC, 1000, .inl tT))]) u)) (va_A [(qt, .inl (cC, 1000, .inl tT))] sz)) 0 0 (va_A [(qt, .inl (cC, 1000, .inl tT))] sz) := by
  refine ig_metI (fun (r : Int32) (u : Unit) => ∃ zr : Bool, r = bI zr ∧ p_IT_areWhole tT f a zr ) (fun (u : Unit) => [(qt, .inl (cC, 1000, .inl tT))]) (by decide) rfl (Nat.le_of_ble_eq_true rfl) rfl (by rintro r u ⟨b, rfl, -⟩; exact bI_ret b) ?_
  intro zp ze zs zm zargs zbelow zmeth zc zA zQ hx hb hml hown hts hK hN hA hret
  obtain ⟨K2, hK2⟩ : ∃ K : Nat → Prop, K = fun (b : Nat) => ig_W zp l ze ({ frames := 1, cells := 0, slots := 0, locals := 25 }) zs zm zargs zbelow zmeth zc (dC, dI) ig_cl0 zA zs.heap 5 0 0 zQ 2 [(0, .ref qt), (1, .int (nI f)), (2, .int (nI a)), (3, .int (nI b))] [] [(qt, .inl (cC, 1000, .inl tT))] := ⟨_, rfl⟩
  have k2 : ∀ (b : Nat), v_IT_areWhole_2 tT f a K2 (p_IT_areWhole tT f a) b → K2 b := by
    intro b hv
    unfold v_IT_areWhole_2 at hv
    rw [hK2]
    show ig_W zp l ze ({ frames := 1, cells := 0, slots := 0, locals := 25 }) zs zm zargs zbelow zmeth zc (dC, dI) ig_cl0 zA zs.heap 5 0 0 zQ 2 [(0, .ref qt), (1, .int (nI f)), (2, .int (nI a)), (3, .int (nI b))] [] [(qt, .inl (cC, 1000, .inl tT))]
    refine ig_iload_n hx hb 3 d_IT_areWhole_2 rfl rfl ?_
    refine ig_iload_n hx hb 2 d_IT_areWhole_3 rfl rfl ?_
    obtain ⟨h1, hv⟩ := hv
    obtain ⟨h2, hv⟩ := hv
    refine ig_icmp_geN (tgt := 32) hx hb b a rfl rfl d_IT_areWhole_4 (by decide) h1 h2 (fun h => ?_) (fun h => ?_)
    · have hv := hv.1 h
      refine ig_iload_n hx hb 1 d_IT_areWhole_32 rfl rfl ?_
      refine ig_iload_n hx hb 2 d_IT_areWhole_33 rfl rfl ?_
      obtain ⟨h1, hv⟩ := hv
      obtain ⟨h2, hv⟩ := hv
      refine ig_icmp_geN (tgt := 41) hx hb f a rfl rfl d_IT_areWhole_34 (by decide) h1 h2 (fun h => ?_) (fun h => ?_)
      · have hv := hv.1 h
        refine ig_iconst (v := 0) hx hb d_IT_areWhole_41 (by decide) ?_
        exact hret 42 _ 0 () d_IT_areWhole_42 ⟨false, rfl, hv⟩
      · have hv := hv.2 h
        refine ig_iconst (v := 1) hx hb d_IT_areWhole_37 (by decide) ?_
        refine ig_goto (tgt := 42) hx hb d_IT_areWhole_38 (by decide) ?_
        exact hret 42 _ 1 () d_IT_areWhole_42 ⟨true, rfl, hv⟩
    · have hv := hv.2 h
      refine ig_aload_n hx hb 0 d_IT_areWhole_7 rfl rfl ?_
      refine ig_iload_n hx hb 3 d_IT_areWhole_8 rfl rfl ?_
      refine ig_iload_n hx hb 2 d_IT_areWhole_9 rfl rfl ?_
      obtain ⟨hc, hv⟩ := hv
      refine ig_cSi (As := [.ref qt, .int (nI b), .int (nI a)]) (rest := []) (wr := []) (ws' := fun u => [(qt, .inl (cC, 1000, .inl tT))]) hx hb hml hown hts hK hN hA (fun sz => c_IT_lastByte l dC dI cC cI cZ cL qt tT b a sz hc) ⟨callB_of 3 hts g_IT_lastByte rfl rfl rfl (hts _ kw_0_10) (hts _ kw_0_143) (by decide +kernel) (by decide), hts _ kw_0_144⟩ rfl rfl (Nat.le_of_ble_eq_true rfl) d_IT_areWhole_10 (by decide) [0] [] [0] rfl rfl (by decide) (by decide) (by decide) (fun _ => rfl) (fun _ => rfl) (fun r u hr => ?_)
      unfold p_IT_lastByte at hr
      subst hr
      refine ig_istore (lv' := [(4, .int (sp_last tT a b)), (0, .ref qt), (1, .int (nI f)), (2, .int (nI a)), (3, .int (nI b))]) hx hb d_IT_areWhole_13 (by decide) rfl ?_
      refine ig_iload hx hb 0 d_IT_areWhole_15 rfl ?_
      refine ig_iload_n hx hb 4 d_IT_areWhole_17 rfl rfl ?_
      refine ig_icmp_ge (tgt := 23) hx hb d_IT_areWhole_18 (by decide) (fun h => ?_) (fun h => ?_)
      · have hv := hv.1 h
        obtain ⟨z1, he, hv⟩ := hv
        rw [he]
        refine ig_iload hx hb 0 d_IT_areWhole_23 rfl ?_
        refine ig_istore_n (lv' := [(3, .int (nI z1)), (4, .int (nI z1)), (0, .ref qt), (1, .int (nI f)), (2, .int (nI a))]) hx hb d_IT_areWhole_25 rfl (by decide) rfl ?_
        refine ig_iinc (v := (nI (z1 + 1))) (lv' := [(3, .int (nI (z1 + 1))), (4, .int (nI z1)), (0, .ref qt), (1, .int (nI f)), (2, .int (nI a))]) hx hb 0 d_IT_areWhole_26 rfl (ig_inc z1 1 (by decide)) (by decide) rfl ?_
        refine ig_goto (tgt := 2) hx hb d_IT_areWhole_29 (by decide) ?_
        refine ig_lv (lv' := [(0, .ref qt), (1, .int (nI f)), (2, .int (nI a)), (3, .int (nI (z1 + 1)))]) [2, 3, 4, 0] rfl ?_
        rw [hK2] at hv
        exact hv
      · have hv := hv.2 h
        refine ig_iconst (v := 0) hx hb d_IT_areWhole_21 (by decide) ?_
        exact hret 22 _ 0 () d_IT_areWhole_22 ⟨false, rfl, hv⟩
  have hv := t_IT_areWhole tT f a hr K2 k2
  unfold v_IT_areWhole at hv
  refine ig_iload_n hx hb 1 d_IT_areWhole_0 rfl rfl ?_
  refine ig_istore_n (lv' := [(3, .int (nI f)), (0, .ref qt), (1, .int (nI f)), (2, .int (nI a))]) hx hb d_IT_areWhole_1 rfl (by decide) rfl ?_
  refine ig_lv (lv' := [(0, .ref qt), (1, .int (nI f)), (2, .int (nI a)), (3, .int (nI f))]) [1, 2, 3, 0] rfl ?_
  rw [hK2] at hv
  exact hv
theorem d_PA_lengthOf_0 : decode b_PA_lengthOf 0 = .ok (.aload_n 0, 1) := by decide +kernel
theorem d_PA_lengthOf_1 : decode b_PA_lengthOf 1 = .ok (.getfield 15, 3) := by decide +kernel
theorem d_PA_lengthOf_4 : decode b_PA_lengthOf 4 = .ok (.iload_n 1, 1) := by decide +kernel
theorem d_PA_lengthOf_5 : decode b_PA_lengthOf 5 = .ok (.iconst 1, 1) := by decide +kernel
theorem d_PA_lengthOf_6 : decode b_PA_lengthOf 6 = .ok (.iadd, 1) := by decide +kernel
theorem d_PA_lengthOf_7 : decode b_PA_lengthOf 7 = .ok (.iaload, 1) := by decide +kernel
theorem d_PA_lengthOf_8 : decode b_PA_lengthOf 8 = .ok (.iconst 1, 1) := by decide +kernel
theorem d_PA_lengthOf_9 : decode b_PA_lengthOf 9 = .ok (.isub, 1) := by decide +kernel
theorem d_PA_lengthOf_10 : decode b_PA_lengthOf 10 = .ok (.aload_n 0, 1) := by decide +kernel
theorem d_PA_lengthOf_11 : decode b_PA_lengthOf 11 = .ok (.getfield 15, 3) := by decide +kernel
theorem d_PA_lengthOf_14 : decode b_PA_lengthOf 14 = .ok (.iload_n 1, 1) := by decide +kernel
theorem d_PA_lengthOf_15 : decode b_PA_lengthOf 15 = .ok (.iaload, 1) := by decide +kernel
theorem d_PA_lengthOf_16 : decode b_PA_lengthOf 16 = .ok (.isub, 1) := by decide +kernel
theorem d_PA_lengthOf_17 : decode b_PA_lengthOf 17 = .ok (.ireturn, 1) := by decide +kernel
abbrev w_PA_lengthOf : List Cond := Cond.code y_PA_lengthOf b_PA_lengthOf 2 (some .int) :: ig_T
theorem g_PA_lengthOf : GoodIn ig_T w_PA_lengthOf := ig_T_good (ig_T_mem (List.mem_append_right _ (List.mem_append_left _ (List.mem_of_getElem? (i := 76) rfl))) rfl)
set_option maxHeartbeats 4000000 in
set_option maxRecDepth 100000 in
theorem c_PA_lengthOf (l : Launch) (dC : Nat → ClassId) (dI : Nat → Nat → Nat) (cC cI cZ cL : ClassId) (p0 pb ps : Nat) (pC : Int32) (pS : Nat → Nat) (j : Nat) (sz : Nat) (hr : r_PA_lengthOf pS j) : Met l y_PA_lengthOf w_PA_lengthOf ({ frames := 0, cells := 0, slots := 0, locals := 0 }) (ig_Pc (dC, dI) ig_cl0 [(cC, .char), (cI, .int), (cZ, .boolean), (cL, .long)] [.ref p0, .int (nI j)] [(p0, .inr (ciPA, [.ref pb, .ref ps, .int pC])), (ps, .inl (cI, 21, .inl (fun zj => nI (pS zj))))] sz) (va_Qi (fun (r : Int32) (u : Unit) => ∃ zr : Nat, r = nI zr ∧ p_PA_lengthOf pS j zr ) (fun u t => va_P (dC, dI) ig_cl0 ((fun (u : Unit) => [(p0, .inr (ciPA, [.ref pb, .ref ps, .int pC])), (ps, .inl (cI, 21, .inl (fun zj => nI (pS zj))))]) u) t.heap ∧ va_D (va_A [(p0, .inr (ciPA, [.ref pb, .ref ps, .int pC])), (ps, .inl (cI, 21, .inl (fun zj => nI (pS zj))))] sz) ((fun (u : Unit) => [(p0, .inr (ciPA, [.ref pb, .ref ps, .int pC])), (ps, .inl (cI, 21, .inl (fun zj => nI (pS zj))))]) u)) (va_A [(p0, .inr (ciPA, [.ref pb, .ref ps, .int pC])), (ps, .inl (cI, 21, .inl (fun zj => nI (pS zj))))] sz)) 0 0 (va_A [(p0, .inr (ciPA, [.ref pb, .ref ps, .int pC])), (ps, .inl (cI, 21, .inl (fun zj => nI (pS zj))))] sz) := by
  refine ig_metI (fun (r : Int32) (u : Unit) => ∃ zr : Nat, r = nI zr ∧ p_PA_lengthOf pS j zr ) (fun (u : Unit) => [(p0, .inr (ciPA, [.ref pb, .ref ps, .int pC])), (ps, .inl (cI, 21, .inl (fun zj => nI (pS zj))))]) (by decide) rfl (Nat.le_of_ble_eq_true rfl) rfl (fun _ _ _ => rfl) ?_
  intro zp ze zs zm zargs zbelow zmeth zc zA zQ hx hb hml hown hts hK hN hA hret
  have hv := t_PA_lengthOf pS j hr 
  unfold v_PA_lengthOf at hv
  refine ig_aload_n hx hb 0 d_PA_lengthOf_0 rfl rfl ?_
  refine ig_get hx hb hts in_PA hown hK 0 rfl rfl 1 (by decide) (hts _ kw_0_64) (fun _ h => h) rfl d_PA_lengthOf_1 ?_
  refine ig_iload_n hx hb 1 d_PA_lengthOf_4 rfl rfl ?_
  refine ig_iconst (v := 1) hx hb d_PA_lengthOf_5 (by decide) ?_
  refine ig_iaddN hx hb j 1 rfl rfl d_PA_lengthOf_6 ?_
  obtain ⟨hc, hv⟩ := hv
  refine ig_iald (x := (nI (pS (j + 1)))) hx hb hK 1 1 rfl rfl (j + 1) rfl hc (by decide) rfl d_PA_lengthOf_7 ?_
  refine ig_iconst (v := 1) hx hb d_PA_lengthOf_8 (by decide) ?_
  obtain ⟨hc, hv⟩ := hv
  refine ig_isubN hx hb (pS (j + 1)) 1 rfl rfl hc d_PA_lengthOf_9 ?_
  refine ig_aload_n hx hb 0 d_PA_lengthOf_10 rfl rfl ?_
  refine ig_get hx hb hts in_PA hown hK 0 rfl rfl 1 (by decide) (hts _ kw_0_64) (fun _ h => h) rfl d_PA_lengthOf_11 ?_
  refine ig_iload_n hx hb 1 d_PA_lengthOf_14 rfl rfl ?_
  obtain ⟨hc, hv⟩ := hv
  refine ig_iald (x := (nI (pS j))) hx hb hK 1 1 rfl rfl j rfl hc (by decide) rfl d_PA_lengthOf_15 ?_
  obtain ⟨hc, hv⟩ := hv
  refine ig_isubN hx hb ((pS (j + 1)) - 1) (pS j) rfl rfl hc d_PA_lengthOf_16 ?_
  exact hret 17 _ (nI (((pS (j + 1)) - 1) - (pS j))) () d_PA_lengthOf_17 ⟨((pS (j + 1)) - 1) - (pS j), rfl, hv⟩
theorem d_MA_startRow_0 : decode b_MA_startRow 0 = .ok (.iconst 0, 1) := by decide +kernel
theorem d_MA_startRow_1 : decode b_MA_startRow 1 = .ok (.istore_n 3, 1) := by decide +kernel
theorem d_MA_startRow_2 : decode b_MA_startRow 2 = .ok (.iload_n 3, 1) := by decide +kernel
theorem d_MA_startRow_3 : decode b_MA_startRow 3 = .ok (.iload_n 1, 1) := by decide +kernel
theorem d_MA_startRow_4 : decode b_MA_startRow 4 = .ok (.if_icmp .gt 22, 3) := by decide +kernel
theorem d_MA_startRow_7 : decode b_MA_startRow 7 = .ok (.aload_n 0, 1) := by decide +kernel
theorem d_MA_startRow_8 : decode b_MA_startRow 8 = .ok (.iload_n 3, 1) := by decide +kernel
theorem d_MA_startRow_9 : decode b_MA_startRow 9 = .ok (.iload_n 3, 1) := by decide +kernel
theorem d_MA_startRow_10 : decode b_MA_startRow 10 = .ok (.iload_n 2, 1) := by decide +kernel
theorem d_MA_startRow_11 : decode b_MA_startRow 11 = .ok (.if_icmp .ne 7, 3) := by decide +kernel
theorem d_MA_startRow_14 : decode b_MA_startRow 14 = .ok (.iconst 1, 1) := by decide +kernel
theorem d_MA_startRow_15 : decode b_MA_startRow 15 = .ok (.goto 4, 3) := by decide +kernel
theorem d_MA_startRow_18 : decode b_MA_startRow 18 = .ok (.iconst 0, 1) := by decide +kernel
theorem d_MA_startRow_19 : decode b_MA_startRow 19 = .ok (.bastore, 1) := by decide +kernel
theorem d_MA_startRow_20 : decode b_MA_startRow 20 = .ok (.iinc 3 1, 3) := by decide +kernel
theorem d_MA_startRow_23 : decode b_MA_startRow 23 = .ok (.goto (-21), 3) := by decide +kernel
theorem d_MA_startRow_26 : decode b_MA_startRow 26 = .ok (.return_, 1) := by decide +kernel
abbrev w_MA_startRow : List Cond := Cond.code y_MA_startRow b_MA_startRow 4 none :: ig_T
theorem g_MA_startRow : GoodIn ig_T w_MA_startRow := ig_T_good (ig_T_mem (List.mem_append_right _ (List.mem_append_left _ (List.mem_of_getElem? (i := 58) rfl))) rfl)
set_option maxHeartbeats 4000000 in
set_option maxRecDepth 100000 in
theorem c_MA_startRow (l : Launch) (dC : Nat → ClassId) (dI : Nat → Nat → Nat) (cC cI cZ cL : ClassId) (qr : Nat)  (zw : Nat → Bool) (zn : Nat) (n : Nat) (f : Nat) (sz : Nat) (hr : r_MA_startRow zw zn n f) : Met l y_MA_startRow w_MA_startRow ({ frames := 0, cells := 0, slots := 0, locals := 0 }) (ig_Pc (dC, dI) ig_cl0 [(cC, .char), (cI, .int), (cZ, .boolean), (cL, .long)] [.ref qr, .int (nI n), .int (nI f)] [(qr, .inl (cZ, zn, .inl (fun zj => bI (zw zj))))] sz) (va_Qv (fun (u : (Nat → Bool)) => p_MA_startRow zw zn n f u) (fun u t => va_P (dC, dI) ig_cl0 ((fun (u : (Nat → Bool)) => [(qr, .inl (cZ, zn, .inl (fun zj => bI (u zj))))]) u) t.heap ∧ va_D (va_A [(qr, .inl (cZ, zn, .inl (fun zj => bI (zw zj))))] sz) ((fun (u : (Nat → Bool)) => [(qr, .inl (cZ, zn, .inl (fun zj => bI (u zj))))]) u)) (va_A [(qr, .inl (cZ, zn, .inl (fun zj => bI (zw zj))))] sz)) 0 0 (va_A [(qr, .inl (cZ, zn, .inl (fun zj => bI (zw zj))))] sz) := by
  refine ig_metV (fun (u : (Nat → Bool)) => p_MA_startRow zw zn n f u) (fun (u : (Nat → Bool)) => [(qr, .inl (cZ, zn, .inl (fun zj => bI (u zj))))]) (by decide) rfl (Nat.le_of_ble_eq_true rfl) rfl ?_
  intro zp ze zs zm zargs zbelow zmeth zc zA zQ hx hb hml hown hts hK hN hA hret
  obtain ⟨K2, hK2⟩ : ∃ K : Nat → (Nat → Bool) → Prop, K = fun (b : Nat) (zwc : Nat → Bool) => ig_W zp l ze ({ frames := 0, cells := 0, slots := 0, locals := 0 }) zs zm zargs zbelow zmeth zc (dC, dI) ig_cl0 zA zs.heap 4 0 0 zQ 2 [(0, .ref qr), (1, .int (nI n)), (2, .int (nI f)), (3, .int (nI b))] [] [(qr, .inl (cZ, zn, .inl (fun zj => bI (zwc zj))))] := ⟨_, rfl⟩
  have j19 : ∀ (b : Nat) (s0 : Bool) (s1 : Nat) (zwc : Nat → Bool), v_MA_startRow_19 zw zn n f K2 (p_MA_startRow zw zn n f) b s0 s1 zwc → ig_W zp l ze ({ frames := 0, cells := 0, slots := 0, locals := 0 }) zs zm zargs zbelow zmeth zc (dC, dI) ig_cl0 zA zs.heap 4 0 0 zQ 19 [(0, .ref qr), (1, .int (nI n)), (2, .int (nI f)), (3, .int (nI b))] [.int (bI s0), .int (nI s1), .ref qr] [(qr, .inl (cZ, zn, .inl (fun zj => bI (zwc zj))))] := by
    intro b s0 s1 zwc hv
    unfold v_MA_startRow_19 at hv
    obtain ⟨hc, hv⟩ := hv
    obtain ⟨hz, hv⟩ := hv
    refine ig_zast (f' := fun zj => bI ((updB zwc s1 s0) zj)) (ws' := [(qr, .inl (cZ, zn, .inl (fun zj => bI ((updB zwc s1 s0) zj))))]) hx hb hK 0 2 rfl rfl s1 rfl hc hz (bI_nar s0) (upd_B zwc s1 s0) d_MA_startRow_19 rfl ?_
    refine ig_iinc (v := (nI (b + 1))) (lv' := [(3, .int (nI (b + 1))), (0, .ref qr), (1, .int (nI n)), (2, .int (nI f))]) hx hb 3 d_MA_startRow_20 rfl (ig_inc b 1 (by decide)) (by decide) rfl ?_
    refine ig_goto (tgt := 2) hx hb d_MA_startRow_23 (by decide) ?_
    refine ig_lv (lv' := [(0, .ref qr), (1, .int (nI n)), (2, .int (nI f)), (3, .int (nI (b + 1)))]) [1, 2, 3, 0] rfl ?_
    rw [hK2] at hv
    exact hv
  have k2 : ∀ (b : Nat) (zwc : Nat → Bool), v_MA_startRow_2 zw zn n f K2 (p_MA_startRow zw zn n f) b zwc → K2 b zwc := by
    intro b zwc hv
    unfold v_MA_startRow_2 at hv
    rw [hK2]
    show ig_W zp l ze ({ frames := 0, cells := 0, slots := 0, locals := 0 }) zs zm zargs zbelow zmeth zc (dC, dI) ig_cl0 zA zs.heap 4 0 0 zQ 2 [(0, .ref qr), (1, .int (nI n)), (2, .int (nI f)), (3, .int (nI b))] [] [(qr, .inl (cZ, zn, .inl (fun zj => bI (zwc zj))))]
    refine ig_iload_n hx hb 3 d_MA_startRow_2 rfl rfl ?_
    refine ig_iload_n hx hb 1 d_MA_startRow_3 rfl rfl ?_
    obtain ⟨h1, hv⟩ := hv
    obtain ⟨h2, hv⟩ := hv
    refine ig_icmp_gtN (tgt := 26) hx hb b n rfl rfl d_MA_startRow_4 (by decide) h1 h2 (fun h => ?_) (fun h => ?_)
    · have hv := hv.1 h
      exact hret 26 _ zwc d_MA_startRow_26 hv
    · have hv := hv.2 h
      refine ig_aload_n hx hb 0 d_MA_startRow_7 rfl rfl ?_
      refine ig_iload_n hx hb 3 d_MA_startRow_8 rfl rfl ?_
      refine ig_iload_n hx hb 3 d_MA_startRow_9 rfl rfl ?_
      refine ig_iload_n hx hb 2 d_MA_startRow_10 rfl rfl ?_
      obtain ⟨h1, hv⟩ := hv
      obtain ⟨h2, hv⟩ := hv
      refine ig_icmp_neN (tgt := 18) hx hb b f rfl rfl d_MA_startRow_11 (by decide) h1 h2 (fun h => ?_) (fun h => ?_)
      · have hv := hv.1 h
        refine ig_iconst (v := 0) hx hb d_MA_startRow_18 (by decide) ?_
        refine ig_lv (lv' := [(0, .ref qr), (1, .int (nI n)), (2, .int (nI f)), (3, .int (nI b))]) [0, 1, 2, 3] rfl ?_
        exact j19 _ _ _ _ hv
      · have hv := hv.2 h
        refine ig_iconst (v := 1) hx hb d_MA_startRow_14 (by decide) ?_
        refine ig_goto (tgt := 19) hx hb d_MA_startRow_15 (by decide) ?_
        refine ig_lv (lv' := [(0, .ref qr), (1, .int (nI n)), (2, .int (nI f)), (3, .int (nI b))]) [0, 1, 2, 3] rfl ?_
        exact j19 _ _ _ _ hv
  have hv := t_MA_startRow zw zn n f hr K2 k2
  unfold v_MA_startRow at hv
  refine ig_iconst (v := 0) hx hb d_MA_startRow_0 (by decide) ?_
  refine ig_istore_n (lv' := [(3, .int 0), (0, .ref qr), (1, .int (nI n)), (2, .int (nI f))]) hx hb d_MA_startRow_1 rfl (by decide) rfl ?_
  refine ig_lv (lv' := [(0, .ref qr), (1, .int (nI n)), (2, .int (nI f)), (3, .int 0)]) [1, 2, 3, 0] rfl ?_
  rw [hK2] at hv
  exact hv
theorem d_MA_spread_0 : decode b_MA_spread 0 = .ok (.iconst 1, 1) := by decide +kernel
theorem d_MA_spread_1 : decode b_MA_spread 1 = .ok (.istore_n 2, 1) := by decide +kernel
theorem d_MA_spread_2 : decode b_MA_spread 2 = .ok (.iload_n 2, 1) := by decide +kernel
theorem d_MA_spread_3 : decode b_MA_spread 3 = .ok (.iload_n 1, 1) := by decide +kernel
theorem d_MA_spread_4 : decode b_MA_spread 4 = .ok (.if_icmp .gt 31, 3) := by decide +kernel
theorem d_MA_spread_7 : decode b_MA_spread 7 = .ok (.aload_n 0, 1) := by decide +kernel
theorem d_MA_spread_8 : decode b_MA_spread 8 = .ok (.iload_n 2, 1) := by decide +kernel
theorem d_MA_spread_9 : decode b_MA_spread 9 = .ok (.aload_n 0, 1) := by decide +kernel
theorem d_MA_spread_10 : decode b_MA_spread 10 = .ok (.iload_n 2, 1) := by decide +kernel
theorem d_MA_spread_11 : decode b_MA_spread 11 = .ok (.baload, 1) := by decide +kernel
theorem d_MA_spread_12 : decode b_MA_spread 12 = .ok (.ifCond .ne 11, 3) := by decide +kernel
theorem d_MA_spread_15 : decode b_MA_spread 15 = .ok (.aload_n 0, 1) := by decide +kernel
theorem d_MA_spread_16 : decode b_MA_spread 16 = .ok (.iload_n 2, 1) := by decide +kernel
theorem d_MA_spread_17 : decode b_MA_spread 17 = .ok (.iconst 1, 1) := by decide +kernel
theorem d_MA_spread_18 : decode b_MA_spread 18 = .ok (.isub, 1) := by decide +kernel
theorem d_MA_spread_19 : decode b_MA_spread 19 = .ok (.baload, 1) := by decide +kernel
theorem d_MA_spread_20 : decode b_MA_spread 20 = .ok (.ifCond .eq 7, 3) := by decide +kernel
theorem d_MA_spread_23 : decode b_MA_spread 23 = .ok (.iconst 1, 1) := by decide +kernel
theorem d_MA_spread_24 : decode b_MA_spread 24 = .ok (.goto 4, 3) := by decide +kernel
theorem d_MA_spread_27 : decode b_MA_spread 27 = .ok (.iconst 0, 1) := by decide +kernel
theorem d_MA_spread_28 : decode b_MA_spread 28 = .ok (.bastore, 1) := by decide +kernel
theorem d_MA_spread_29 : decode b_MA_spread 29 = .ok (.iinc 2 1, 3) := by decide +kernel
theorem d_MA_spread_32 : decode b_MA_spread 32 = .ok (.goto (-30), 3) := by decide +kernel
theorem d_MA_spread_35 : decode b_MA_spread 35 = .ok (.return_, 1) := by decide +kernel
abbrev w_MA_spread : List Cond := Cond.code y_MA_spread b_MA_spread 3 none :: ig_T
theorem g_MA_spread : GoodIn ig_T w_MA_spread := ig_T_good (ig_T_mem (List.mem_append_right _ (List.mem_append_left _ (List.mem_of_getElem? (i := 64) rfl))) rfl)
set_option maxHeartbeats 4000000 in
set_option maxRecDepth 100000 in
theorem c_MA_spread (l : Launch) (dC : Nat → ClassId) (dI : Nat → Nat → Nat) (cC cI cZ cL : ClassId) (qr : Nat)  (zw : Nat → Bool) (zn : Nat) (n : Nat) (sz : Nat) (hr : r_MA_spread zw zn n) : Met l y_MA_spread w_MA_spread ({ frames := 0, cells := 0, slots := 0, locals := 0 }) (ig_Pc (dC, dI) ig_cl0 [(cC, .char), (cI, .int), (cZ, .boolean), (cL, .long)] [.ref qr, .int (nI n)] [(qr, .inl (cZ, zn, .inl (fun zj => bI (zw zj))))] sz) (va_Qv (fun (u : (Nat → Bool)) => p_MA_spread zw zn n u) (fun u t => va_P (dC, dI) ig_cl0 ((fun (u : (Nat → Bool)) => [(qr, .inl (cZ, zn, .inl (fun zj => bI (u zj))))]) u) t.heap ∧ va_D (va_A [(qr, .inl (cZ, zn, .inl (fun zj => bI (zw zj))))] sz) ((fun (u : (Nat → Bool)) => [(qr, .inl (cZ, zn, .inl (fun zj => bI (u zj))))]) u)) (va_A [(qr, .inl (cZ, zn, .inl (fun zj => bI (zw zj))))] sz)) 0 0 (va_A [(qr, .inl (cZ, zn, .inl (fun zj => bI (zw zj))))] sz) := by
  refine ig_metV (fun (u : (Nat → Bool)) => p_MA_spread zw zn n u) (fun (u : (Nat → Bool)) => [(qr, .inl (cZ, zn, .inl (fun zj => bI (u zj))))]) (by decide) rfl (Nat.le_of_ble_eq_true rfl) rfl ?_
  intro zp ze zs zm zargs zbelow zmeth zc zA zQ hx hb hml hown hts hK hN hA hret
  obtain ⟨K2, hK2⟩ : ∃ K : Nat → (Nat → Bool) → Prop, K = fun (b : Nat) (zwc : Nat → Bool) => ig_W zp l ze ({ frames := 0, cells := 0, slots := 0, locals := 0 }) zs zm zargs zbelow zmeth zc (dC, dI) ig_cl0 zA zs.heap 3 0 0 zQ 2 [(0, .ref qr), (1, .int (nI n)), (2, .int (nI b))] [] [(qr, .inl (cZ, zn, .inl (fun zj => bI (zwc zj))))] := ⟨_, rfl⟩
  have j28 : ∀ (b : Nat) (s0 : Bool) (s1 : Nat) (zwc : Nat → Bool), v_MA_spread_28 zw zn n K2 (p_MA_spread zw zn n) b s0 s1 zwc → ig_W zp l ze ({ frames := 0, cells := 0, slots := 0, locals := 0 }) zs zm zargs zbelow zmeth zc (dC, dI) ig_cl0 zA zs.heap 3 0 0 zQ 28 [(0, .ref qr), (1, .int (nI n)), (2, .int (nI b))] [.int (bI s0), .int (nI s1), .ref qr] [(qr, .inl (cZ, zn, .inl (fun zj => bI (zwc zj))))] := by
    intro b s0 s1 zwc hv
    unfold v_MA_spread_28 at hv
    obtain ⟨hc, hv⟩ := hv
    obtain ⟨hz, hv⟩ := hv
    refine ig_zast (f' := fun zj => bI ((updB zwc s1 s0) zj)) (ws' := [(qr, .inl (cZ, zn, .inl (fun zj => bI ((updB zwc s1 s0) zj))))]) hx hb hK 0 2 rfl rfl s1 rfl hc hz (bI_nar s0) (upd_B zwc s1 s0) d_MA_spread_28 rfl ?_
    refine ig_iinc (v := (nI (b + 1))) (lv' := [(2, .int (nI (b + 1))), (0, .ref qr), (1, .int (nI n))]) hx hb 2 d_MA_spread_29 rfl (ig_inc b 1 (by decide)) (by decide) rfl ?_
    refine ig_goto (tgt := 2) hx hb d_MA_spread_32 (by decide) ?_
    refine ig_lv (lv' := [(0, .ref qr), (1, .int (nI n)), (2, .int (nI (b + 1)))]) [1, 2, 0] rfl ?_
    rw [hK2] at hv
    exact hv
  have j23 : ∀ (b : Nat) (s0 : Nat) (zwc : Nat → Bool), v_MA_spread_23 zw zn n K2 (p_MA_spread zw zn n) b s0 zwc → ig_W zp l ze ({ frames := 0, cells := 0, slots := 0, locals := 0 }) zs zm zargs zbelow zmeth zc (dC, dI) ig_cl0 zA zs.heap 3 0 0 zQ 23 [(0, .ref qr), (1, .int (nI n)), (2, .int (nI b))] [.int (nI s0), .ref qr] [(qr, .inl (cZ, zn, .inl (fun zj => bI (zwc zj))))] := by
    intro b s0 zwc hv
    unfold v_MA_spread_23 at hv
    refine ig_iconst (v := 1) hx hb d_MA_spread_23 (by decide) ?_
    refine ig_goto (tgt := 28) hx hb d_MA_spread_24 (by decide) ?_
    refine ig_lv (lv' := [(0, .ref qr), (1, .int (nI n)), (2, .int (nI b))]) [0, 1, 2] rfl ?_
    exact j28 _ _ _ _ hv
  have k2 : ∀ (b : Nat) (zwc : Nat → Bool), v_MA_spread_2 zw zn n K2 (p_MA_spread zw zn n) b zwc → K2 b zwc := by
    intro b zwc hv
    unfold v_MA_spread_2 at hv
    rw [hK2]
    show ig_W zp l ze ({ frames := 0, cells := 0, slots := 0, locals := 0 }) zs zm zargs zbelow zmeth zc (dC, dI) ig_cl0 zA zs.heap 3 0 0 zQ 2 [(0, .ref qr), (1, .int (nI n)), (2, .int (nI b))] [] [(qr, .inl (cZ, zn, .inl (fun zj => bI (zwc zj))))]
    refine ig_iload_n hx hb 2 d_MA_spread_2 rfl rfl ?_
    refine ig_iload_n hx hb 1 d_MA_spread_3 rfl rfl ?_
    obtain ⟨h1, hv⟩ := hv
    obtain ⟨h2, hv⟩ := hv
    refine ig_icmp_gtN (tgt := 35) hx hb b n rfl rfl d_MA_spread_4 (by decide) h1 h2 (fun h => ?_) (fun h => ?_)
    · have hv := hv.1 h
      exact hret 35 _ zwc d_MA_spread_35 hv
    · have hv := hv.2 h
      refine ig_aload_n hx hb 0 d_MA_spread_7 rfl rfl ?_
      refine ig_iload_n hx hb 2 d_MA_spread_8 rfl rfl ?_
      refine ig_aload_n hx hb 0 d_MA_spread_9 rfl rfl ?_
      refine ig_iload_n hx hb 2 d_MA_spread_10 rfl rfl ?_
      obtain ⟨hc, hv⟩ := hv
      obtain ⟨hz, hv⟩ := hv
      refine ig_zald (x := (bI (zwc b))) hx hb hK 0 2 rfl rfl b rfl hc hz rfl d_MA_spread_11 ?_
      refine ig_if_neB (tgt := 23) hx hb (zwc b) rfl d_MA_spread_12 (by decide) (fun h => ?_) (fun h => ?_)
      · have hv := hv.1 h
        refine ig_lv (lv' := [(0, .ref qr), (1, .int (nI n)), (2, .int (nI b))]) [0, 1, 2] rfl ?_
        exact j23 _ _ _ hv
      · have hv := hv.2 h
        refine ig_aload_n hx hb 0 d_MA_spread_15 rfl rfl ?_
        refine ig_iload_n hx hb 2 d_MA_spread_16 rfl rfl ?_
        refine ig_iconst (v := 1) hx hb d_MA_spread_17 (by decide) ?_
        obtain ⟨hc, hv⟩ := hv
        refine ig_isubN hx hb b 1 rfl rfl hc d_MA_spread_18 ?_
        obtain ⟨hc, hv⟩ := hv
        obtain ⟨hz, hv⟩ := hv
        refine ig_zald (x := (bI (zwc (b - 1)))) hx hb hK 0 2 rfl rfl (b - 1) rfl hc hz rfl d_MA_spread_19 ?_
        refine ig_if_eqB (tgt := 27) hx hb (zwc (b - 1)) rfl d_MA_spread_20 (by decide) (fun h => ?_) (fun h => ?_)
        · have hv := hv.1 h
          refine ig_iconst (v := 0) hx hb d_MA_spread_27 (by decide) ?_
          refine ig_lv (lv' := [(0, .ref qr), (1, .int (nI n)), (2, .int (nI b))]) [0, 1, 2] rfl ?_
          exact j28 _ _ _ _ hv
        · have hv := hv.2 h
          refine ig_lv (lv' := [(0, .ref qr), (1, .int (nI n)), (2, .int (nI b))]) [0, 1, 2] rfl ?_
          exact j23 _ _ _ hv
  have hv := t_MA_spread zw zn n hr K2 k2
  unfold v_MA_spread at hv
  refine ig_iconst (v := 1) hx hb d_MA_spread_0 (by decide) ?_
  refine ig_istore_n (lv' := [(2, .int 1), (0, .ref qr), (1, .int (nI n))]) hx hb d_MA_spread_1 rfl (by decide) rfl ?_
  refine ig_lv (lv' := [(0, .ref qr), (1, .int (nI n)), (2, .int 1)]) [1, 2, 0] rfl ?_
  rw [hK2] at hv
  exact hv
theorem d_MA_isDeep_0 : decode b_MA_isDeep 0 = .ok (.iload_n 2, 1) := by decide +kernel
theorem d_MA_isDeep_1 : decode b_MA_isDeep 1 = .ok (.iload_n 1, 1) := by decide +kernel
theorem d_MA_isDeep_2 : decode b_MA_isDeep 2 = .ok (.isub, 1) := by decide +kernel
theorem d_MA_isDeep_3 : decode b_MA_isDeep 3 = .ok (.iconst 2, 1) := by decide +kernel
theorem d_MA_isDeep_4 : decode b_MA_isDeep 4 = .ok (.if_icmp .ne 25, 3) := by decide +kernel
theorem d_MA_isDeep_7 : decode b_MA_isDeep 7 = .ok (.aload_n 0, 1) := by decide +kernel
theorem d_MA_isDeep_8 : decode b_MA_isDeep 8 = .ok (.iload_n 1, 1) := by decide +kernel
theorem d_MA_isDeep_9 : decode b_MA_isDeep 9 = .ok (.caload, 1) := by decide +kernel
theorem d_MA_isDeep_10 : decode b_MA_isDeep 10 = .ok (.bipush 42, 2) := by decide +kernel
theorem d_MA_isDeep_12 : decode b_MA_isDeep 12 = .ok (.if_icmp .ne 17, 3) := by decide +kernel
theorem d_MA_isDeep_15 : decode b_MA_isDeep 15 = .ok (.aload_n 0, 1) := by decide +kernel
theorem d_MA_isDeep_16 : decode b_MA_isDeep 16 = .ok (.iload_n 1, 1) := by decide +kernel
theorem d_MA_isDeep_17 : decode b_MA_isDeep 17 = .ok (.iconst 1, 1) := by decide +kernel
theorem d_MA_isDeep_18 : decode b_MA_isDeep 18 = .ok (.iadd, 1) := by decide +kernel
theorem d_MA_isDeep_19 : decode b_MA_isDeep 19 = .ok (.caload, 1) := by decide +kernel
theorem d_MA_isDeep_20 : decode b_MA_isDeep 20 = .ok (.bipush 42, 2) := by decide +kernel
theorem d_MA_isDeep_22 : decode b_MA_isDeep 22 = .ok (.if_icmp .ne 7, 3) := by decide +kernel
theorem d_MA_isDeep_25 : decode b_MA_isDeep 25 = .ok (.iconst 1, 1) := by decide +kernel
theorem d_MA_isDeep_26 : decode b_MA_isDeep 26 = .ok (.goto 4, 3) := by decide +kernel
theorem d_MA_isDeep_29 : decode b_MA_isDeep 29 = .ok (.iconst 0, 1) := by decide +kernel
theorem d_MA_isDeep_30 : decode b_MA_isDeep 30 = .ok (.ireturn, 1) := by decide +kernel
abbrev w_MA_isDeep : List Cond := Cond.code y_MA_isDeep b_MA_isDeep 3 (some .boolean) :: ig_T
theorem g_MA_isDeep : GoodIn ig_T w_MA_isDeep := ig_T_good (ig_T_mem (List.mem_append_right _ (List.mem_append_left _ (List.mem_of_getElem? (i := 61) rfl))) rfl)
set_option maxHeartbeats 4000000 in
set_option maxRecDepth 100000 in
theorem c_MA_isDeep (l : Launch) (dC : Nat → ClassId) (dI : Nat → Nat → Nat) (cC cI cZ cL : ClassId) (qt : Nat)  (tT : Nat → Int32) (f : Nat) (a : Nat) (sz : Nat) (hr : r_MA_isDeep tT f a) : Met l y_MA_isDeep w_MA_isDeep ({ frames := 0, cells := 0, slots := 0, locals := 0 }) (ig_Pc (dC, dI) ig_cl0 [(cC, .char), (cI, .int), (cZ, .boolean), (cL, .long)] [.ref qt, .int (nI f), .int (nI a)] [(qt, .inl (cC, 1000, .inl tT))] sz) (va_Qi (fun (r : Int32) (u : Unit) => ∃ zr : Bool, r = bI zr ∧ p_MA_isDeep tT f a zr ) (fun u t => va_P (dC, dI) ig_cl0 ((fun (u : Unit) => [(qt, .inl (cC, 1000, .inl tT))]) u) t.heap ∧ va_D (va_A [(qt, .inl (cC, 1000, .inl tT))] sz) ((fun (u : Unit) => [(qt, .inl (cC, 1000, .inl tT))]) u)) (va_A [(qt, .inl (cC, 1000, .inl tT))] sz)) 0 0 (va_A [(qt, .inl (cC, 1000, .inl tT))] sz) := by
  refine ig_metI (fun (r : Int32) (u : Unit) => ∃ zr : Bool, r = bI zr ∧ p_MA_isDeep tT f a zr ) (fun (u : Unit) => [(qt, .inl (cC, 1000, .inl tT))]) (by decide) rfl (Nat.le_of_ble_eq_true rfl) rfl (by rintro r u ⟨b, rfl, -⟩; exact bI_ret b) ?_
  intro zp ze zs zm zargs zbelow zmeth zc zA zQ hx hb hml hown hts hK hN hA hret
  have hv := t_MA_isDeep tT f a hr 
  unfold v_MA_isDeep at hv
  refine ig_iload_n hx hb 2 d_MA_isDeep_0 rfl rfl ?_
  refine ig_iload_n hx hb 1 d_MA_isDeep_1 rfl rfl ?_
  obtain ⟨hc, hv⟩ := hv
  refine ig_isubN hx hb a f rfl rfl hc d_MA_isDeep_2 ?_
  refine ig_iconst (v := 2) hx hb d_MA_isDeep_3 (by decide) ?_
  obtain ⟨h1, hv⟩ := hv
  refine ig_icmp_neN (tgt := 29) hx hb (a - f) 2 rfl rfl d_MA_isDeep_4 (by decide) h1 (by decide) (fun h => ?_) (fun h => ?_)
  · have hv := hv.1 h
    refine ig_iconst (v := 0) hx hb d_MA_isDeep_29 (by decide) ?_
    exact hret 30 _ 0 () d_MA_isDeep_30 ⟨false, rfl, hv⟩
  · have hv := hv.2 h
    refine ig_aload_n hx hb 0 d_MA_isDeep_7 rfl rfl ?_
    refine ig_iload_n hx hb 1 d_MA_isDeep_8 rfl rfl ?_
    obtain ⟨hc, hv⟩ := hv
    refine ig_cald (x := (tT f)) hx hb hK 0 0 rfl rfl f rfl hc (by decide) rfl d_MA_isDeep_9 ?_
    refine ig_bipush (v := 42) hx hb d_MA_isDeep_10 (by decide) ?_
    refine ig_icmp_ne (tgt := 29) hx hb d_MA_isDeep_12 (by decide) (fun h => ?_) (fun h => ?_)
    · have hv := hv.1 h
      refine ig_iconst (v := 0) hx hb d_MA_isDeep_29 (by decide) ?_
      exact hret 30 _ 0 () d_MA_isDeep_30 ⟨false, rfl, hv⟩
    · have hv := hv.2 h
      refine ig_aload_n hx hb 0 d_MA_isDeep_15 rfl rfl ?_
      refine ig_iload_n hx hb 1 d_MA_isDeep_16 rfl rfl ?_
      refine ig_iconst (v := 1) hx hb d_MA_isDeep_17 (by decide) ?_
      refine ig_iaddN hx hb f 1 rfl rfl d_MA_isDeep_18 ?_
      obtain ⟨hc, hv⟩ := hv
      refine ig_cald (x := (tT (f + 1))) hx hb hK 0 0 rfl rfl (f + 1) rfl hc (by decide) rfl d_MA_isDeep_19 ?_
      refine ig_bipush (v := 42) hx hb d_MA_isDeep_20 (by decide) ?_
      refine ig_icmp_ne (tgt := 29) hx hb d_MA_isDeep_22 (by decide) (fun h => ?_) (fun h => ?_)
      · have hv := hv.1 h
        refine ig_iconst (v := 0) hx hb d_MA_isDeep_29 (by decide) ?_
        exact hret 30 _ 0 () d_MA_isDeep_30 ⟨false, rfl, hv⟩
      · have hv := hv.2 h
        refine ig_iconst (v := 1) hx hb d_MA_isDeep_25 (by decide) ?_
        refine ig_goto (tgt := 30) hx hb d_MA_isDeep_26 (by decide) ?_
        exact hret 30 _ 1 () d_MA_isDeep_30 ⟨true, rfl, hv⟩
