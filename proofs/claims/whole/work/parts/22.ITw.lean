
theorem d_IT_take_0 : decode b_IT_take 0 = .ok (.aload_n 0, 1) := by decide +kernel
theorem d_IT_take_1 : decode b_IT_take 1 = .ok (.iload_n 1, 1) := by decide +kernel
theorem d_IT_take_2 : decode b_IT_take 2 = .ok (.caload, 1) := by decide +kernel
theorem d_IT_take_3 : decode b_IT_take 3 = .ok (.bipush 63, 2) := by decide +kernel
theorem d_IT_take_5 : decode b_IT_take 5 = .ok (.if_icmp .ne 5, 3) := by decide +kernel
theorem d_IT_take_8 : decode b_IT_take 8 = .ok (.iconst 1, 1) := by decide +kernel
theorem d_IT_take_9 : decode b_IT_take 9 = .ok (.ireturn, 1) := by decide +kernel
theorem d_IT_take_10 : decode b_IT_take 10 = .ok (.aload_n 0, 1) := by decide +kernel
theorem d_IT_take_11 : decode b_IT_take 11 = .ok (.iload_n 1, 1) := by decide +kernel
theorem d_IT_take_12 : decode b_IT_take 12 = .ok (.caload, 1) := by decide +kernel
theorem d_IT_take_13 : decode b_IT_take 13 = .ok (.bipush 91, 2) := by decide +kernel
theorem d_IT_take_15 : decode b_IT_take 15 = .ok (.if_icmp .eq 16, 3) := by decide +kernel
theorem d_IT_take_18 : decode b_IT_take 18 = .ok (.aload_n 0, 1) := by decide +kernel
theorem d_IT_take_19 : decode b_IT_take 19 = .ok (.iload_n 2, 1) := by decide +kernel
theorem d_IT_take_20 : decode b_IT_take 20 = .ok (.caload, 1) := by decide +kernel
theorem d_IT_take_21 : decode b_IT_take 21 = .ok (.iload_n 3, 1) := by decide +kernel
theorem d_IT_take_22 : decode b_IT_take 22 = .ok (.if_icmp .ne 7, 3) := by decide +kernel
theorem d_IT_take_25 : decode b_IT_take 25 = .ok (.iconst 1, 1) := by decide +kernel
theorem d_IT_take_26 : decode b_IT_take 26 = .ok (.goto 4, 3) := by decide +kernel
theorem d_IT_take_29 : decode b_IT_take 29 = .ok (.iconst 0, 1) := by decide +kernel
theorem d_IT_take_30 : decode b_IT_take 30 = .ok (.ireturn, 1) := by decide +kernel
theorem d_IT_take_31 : decode b_IT_take 31 = .ok (.aload_n 0, 1) := by decide +kernel
theorem d_IT_take_32 : decode b_IT_take 32 = .ok (.iload_n 1, 1) := by decide +kernel
theorem d_IT_take_33 : decode b_IT_take 33 = .ok (.iconst 1, 1) := by decide +kernel
theorem d_IT_take_34 : decode b_IT_take 34 = .ok (.iadd, 1) := by decide +kernel
theorem d_IT_take_35 : decode b_IT_take 35 = .ok (.caload, 1) := by decide +kernel
theorem d_IT_take_36 : decode b_IT_take 36 = .ok (.bipush 33, 2) := by decide +kernel
theorem d_IT_take_38 : decode b_IT_take 38 = .ok (.if_icmp .eq 13, 3) := by decide +kernel
theorem d_IT_take_41 : decode b_IT_take 41 = .ok (.aload_n 0, 1) := by decide +kernel
theorem d_IT_take_42 : decode b_IT_take 42 = .ok (.iload_n 1, 1) := by decide +kernel
theorem d_IT_take_43 : decode b_IT_take 43 = .ok (.iconst 1, 1) := by decide +kernel
theorem d_IT_take_44 : decode b_IT_take 44 = .ok (.iadd, 1) := by decide +kernel
theorem d_IT_take_45 : decode b_IT_take 45 = .ok (.caload, 1) := by decide +kernel
theorem d_IT_take_46 : decode b_IT_take 46 = .ok (.bipush 94, 2) := by decide +kernel
theorem d_IT_take_48 : decode b_IT_take 48 = .ok (.if_icmp .ne 7, 3) := by decide +kernel
theorem d_IT_take_51 : decode b_IT_take 51 = .ok (.iconst 1, 1) := by decide +kernel
theorem d_IT_take_52 : decode b_IT_take 52 = .ok (.goto 4, 3) := by decide +kernel
theorem d_IT_take_55 : decode b_IT_take 55 = .ok (.iconst 0, 1) := by decide +kernel
theorem d_IT_take_56 : decode b_IT_take 56 = .ok (.istore 4, 2) := by decide +kernel
theorem d_IT_take_58 : decode b_IT_take 58 = .ok (.iconst 0, 1) := by decide +kernel
theorem d_IT_take_59 : decode b_IT_take 59 = .ok (.istore 5, 2) := by decide +kernel
theorem d_IT_take_61 : decode b_IT_take 61 = .ok (.iload 4, 2) := by decide +kernel
theorem d_IT_take_63 : decode b_IT_take 63 = .ok (.ifCond .eq 9, 3) := by decide +kernel
theorem d_IT_take_66 : decode b_IT_take 66 = .ok (.iload_n 1, 1) := by decide +kernel
theorem d_IT_take_67 : decode b_IT_take 67 = .ok (.iconst 2, 1) := by decide +kernel
theorem d_IT_take_68 : decode b_IT_take 68 = .ok (.iadd, 1) := by decide +kernel
theorem d_IT_take_69 : decode b_IT_take 69 = .ok (.goto 6, 3) := by decide +kernel
theorem d_IT_take_72 : decode b_IT_take 72 = .ok (.iload_n 1, 1) := by decide +kernel
theorem d_IT_take_73 : decode b_IT_take 73 = .ok (.iconst 1, 1) := by decide +kernel
theorem d_IT_take_74 : decode b_IT_take 74 = .ok (.iadd, 1) := by decide +kernel
theorem d_IT_take_75 : decode b_IT_take 75 = .ok (.istore 6, 2) := by decide +kernel
theorem d_IT_take_77 : decode b_IT_take 77 = .ok (.iload 6, 2) := by decide +kernel
theorem d_IT_take_79 : decode b_IT_take 79 = .ok (.iload_n 2, 1) := by decide +kernel
theorem d_IT_take_80 : decode b_IT_take 80 = .ok (.if_icmp .ge 92, 3) := by decide +kernel
theorem d_IT_take_83 : decode b_IT_take 83 = .ok (.aload_n 0, 1) := by decide +kernel
theorem d_IT_take_84 : decode b_IT_take 84 = .ok (.iload 6, 2) := by decide +kernel
theorem d_IT_take_86 : decode b_IT_take 86 = .ok (.caload, 1) := by decide +kernel
theorem d_IT_take_87 : decode b_IT_take 87 = .ok (.bipush 92, 2) := by decide +kernel
theorem d_IT_take_89 : decode b_IT_take 89 = .ok (.if_icmp .ne 6, 3) := by decide +kernel
theorem d_IT_take_92 : decode b_IT_take 92 = .ok (.iinc 6 1, 3) := by decide +kernel
theorem d_IT_take_95 : decode b_IT_take 95 = .ok (.aload_n 0, 1) := by decide +kernel
theorem d_IT_take_96 : decode b_IT_take 96 = .ok (.iload 6, 2) := by decide +kernel
theorem d_IT_take_98 : decode b_IT_take 98 = .ok (.caload, 1) := by decide +kernel
theorem d_IT_take_99 : decode b_IT_take 99 = .ok (.istore 7, 2) := by decide +kernel
theorem d_IT_take_101 : decode b_IT_take 101 = .ok (.iload 7, 2) := by decide +kernel
theorem d_IT_take_103 : decode b_IT_take 103 = .ok (.istore 8, 2) := by decide +kernel
theorem d_IT_take_105 : decode b_IT_take 105 = .ok (.iload 6, 2) := by decide +kernel
theorem d_IT_take_107 : decode b_IT_take 107 = .ok (.iconst 2, 1) := by decide +kernel
theorem d_IT_take_108 : decode b_IT_take 108 = .ok (.iadd, 1) := by decide +kernel
theorem d_IT_take_109 : decode b_IT_take 109 = .ok (.iload_n 2, 1) := by decide +kernel
theorem d_IT_take_110 : decode b_IT_take 110 = .ok (.if_icmp .ge 41, 3) := by decide +kernel
theorem d_IT_take_113 : decode b_IT_take 113 = .ok (.aload_n 0, 1) := by decide +kernel
theorem d_IT_take_114 : decode b_IT_take 114 = .ok (.iload 6, 2) := by decide +kernel
theorem d_IT_take_116 : decode b_IT_take 116 = .ok (.iconst 1, 1) := by decide +kernel
theorem d_IT_take_117 : decode b_IT_take 117 = .ok (.iadd, 1) := by decide +kernel
theorem d_IT_take_118 : decode b_IT_take 118 = .ok (.caload, 1) := by decide +kernel
theorem d_IT_take_119 : decode b_IT_take 119 = .ok (.bipush 45, 2) := by decide +kernel
theorem d_IT_take_121 : decode b_IT_take 121 = .ok (.if_icmp .ne 30, 3) := by decide +kernel
theorem d_IT_take_124 : decode b_IT_take 124 = .ok (.iload 6, 2) := by decide +kernel
theorem d_IT_take_126 : decode b_IT_take 126 = .ok (.aload_n 0, 1) := by decide +kernel
theorem d_IT_take_127 : decode b_IT_take 127 = .ok (.iload 6, 2) := by decide +kernel
theorem d_IT_take_129 : decode b_IT_take 129 = .ok (.iconst 2, 1) := by decide +kernel
theorem d_IT_take_130 : decode b_IT_take 130 = .ok (.iadd, 1) := by decide +kernel
theorem d_IT_take_131 : decode b_IT_take 131 = .ok (.caload, 1) := by decide +kernel
theorem d_IT_take_132 : decode b_IT_take 132 = .ok (.bipush 92, 2) := by decide +kernel
theorem d_IT_take_134 : decode b_IT_take 134 = .ok (.if_icmp .ne 7, 3) := by decide +kernel
theorem d_IT_take_137 : decode b_IT_take 137 = .ok (.iconst 3, 1) := by decide +kernel
theorem d_IT_take_138 : decode b_IT_take 138 = .ok (.goto 4, 3) := by decide +kernel
theorem d_IT_take_141 : decode b_IT_take 141 = .ok (.iconst 2, 1) := by decide +kernel
theorem d_IT_take_142 : decode b_IT_take 142 = .ok (.iadd, 1) := by decide +kernel
theorem d_IT_take_143 : decode b_IT_take 143 = .ok (.istore 6, 2) := by decide +kernel
theorem d_IT_take_145 : decode b_IT_take 145 = .ok (.aload_n 0, 1) := by decide +kernel
theorem d_IT_take_146 : decode b_IT_take 146 = .ok (.iload 6, 2) := by decide +kernel
theorem d_IT_take_148 : decode b_IT_take 148 = .ok (.caload, 1) := by decide +kernel
theorem d_IT_take_149 : decode b_IT_take 149 = .ok (.istore 8, 2) := by decide +kernel
theorem d_IT_take_151 : decode b_IT_take 151 = .ok (.iload 7, 2) := by decide +kernel
theorem d_IT_take_153 : decode b_IT_take 153 = .ok (.iload_n 3, 1) := by decide +kernel
theorem d_IT_take_154 : decode b_IT_take 154 = .ok (.if_icmp .gt 12, 3) := by decide +kernel
theorem d_IT_take_157 : decode b_IT_take 157 = .ok (.iload_n 3, 1) := by decide +kernel
theorem d_IT_take_158 : decode b_IT_take 158 = .ok (.iload 8, 2) := by decide +kernel
theorem d_IT_take_160 : decode b_IT_take 160 = .ok (.if_icmp .gt 6, 3) := by decide +kernel
theorem d_IT_take_163 : decode b_IT_take 163 = .ok (.iconst 1, 1) := by decide +kernel
theorem d_IT_take_164 : decode b_IT_take 164 = .ok (.istore 5, 2) := by decide +kernel
theorem d_IT_take_166 : decode b_IT_take 166 = .ok (.iinc 6 1, 3) := by decide +kernel
theorem d_IT_take_169 : decode b_IT_take 169 = .ok (.goto (-92), 3) := by decide +kernel
theorem d_IT_take_172 : decode b_IT_take 172 = .ok (.iload 5, 2) := by decide +kernel
theorem d_IT_take_174 : decode b_IT_take 174 = .ok (.iload 4, 2) := by decide +kernel
theorem d_IT_take_176 : decode b_IT_take 176 = .ok (.if_icmp .eq 7, 3) := by decide +kernel
theorem d_IT_take_179 : decode b_IT_take 179 = .ok (.iconst 1, 1) := by decide +kernel
theorem d_IT_take_180 : decode b_IT_take 180 = .ok (.goto 4, 3) := by decide +kernel
theorem d_IT_take_183 : decode b_IT_take 183 = .ok (.iconst 0, 1) := by decide +kernel
theorem d_IT_take_184 : decode b_IT_take 184 = .ok (.ireturn, 1) := by decide +kernel
abbrev w_IT_take : List Cond := Cond.code y_IT_take b_IT_take 9 (some .boolean) :: ig_T
theorem g_IT_take : GoodIn ig_T w_IT_take := ig_T_good (ig_T_mem (List.mem_append_right _ (List.mem_append_left _ (List.mem_of_getElem? (i := 80) rfl))) rfl)
set_option maxHeartbeats 4000000 in
set_option maxRecDepth 100000 in
theorem c_IT_take (l : Launch) (dC : Nat → ClassId) (dI : Nat → Nat → Nat) (cC cI cZ cL : ClassId) (qt : Nat)  (tT : Nat → Int32) (k : Nat) (z : Nat) (x : Int32) (a : Nat) (sz : Nat) (hr : r_IT_take tT k z x a) : Met l y_IT_take w_IT_take ({ frames := 0, cells := 0, slots := 0, locals := 0 }) (ig_Pc (dC, dI) ig_cl0 [(cC, .char), (cI, .int), (cZ, .boolean), (cL, .long)] [.ref qt, .int (nI k), .int (nI z), .int x] [(qt, .inl (cC, 1000, .inl tT))] sz) (va_Qi (fun (r : Int32) (u : Unit) => ∃ zr : Bool, r = bI zr ∧ p_IT_take tT k z x a zr ) (fun u t => va_P (dC, dI) ig_cl0 ((fun (u : Unit) => [(qt, .inl (cC, 1000, .inl tT))]) u) t.heap ∧ va_D (va_A [(qt, .inl (cC, 1000, .inl tT))] sz) ((fun (u : Unit) => [(qt, .inl (cC, 1000, .inl tT))]) u)) (va_A [(qt, .inl (cC, 1000, .inl tT))] sz)) 0 0 (va_A [(qt, .inl (cC, 1000, .inl tT))] sz) := by
  refine ig_metI (fun (r : Int32) (u : Unit) => ∃ zr : Bool, r = bI zr ∧ p_IT_take tT k z x a zr ) (fun (u : Unit) => [(qt, .inl (cC, 1000, .inl tT))]) (by decide) rfl (Nat.le_of_ble_eq_true rfl) rfl (by rintro r u ⟨b, rfl, -⟩; exact bI_ret b) ?_
  intro zp ze zs zm zargs zbelow zmeth zc zA zQ hx hb hml hown hts hK hN hA hret
  obtain ⟨K77, hK77⟩ : ∃ K : Bool → Bool → Nat → Prop, K = fun (tu : Bool) (fo : Bool) (b : Nat) => ig_W zp l ze ({ frames := 0, cells := 0, slots := 0, locals := 0 }) zs zm zargs zbelow zmeth zc (dC, dI) ig_cl0 zA zs.heap 9 0 0 zQ 77 [(0, .ref qt), (2, .int (nI z)), (3, .int x), (4, .int (bI tu)), (5, .int (bI fo)), (6, .int (nI b))] [] [(qt, .inl (cC, 1000, .inl tT))] := ⟨_, rfl⟩
  have j56 : ∀ (s0 : Bool), v_IT_take_56 tT k z x a K77 (p_IT_take tT k z x a) s0 → ig_W zp l ze ({ frames := 0, cells := 0, slots := 0, locals := 0 }) zs zm zargs zbelow zmeth zc (dC, dI) ig_cl0 zA zs.heap 9 0 0 zQ 56 [(0, .ref qt), (1, .int (nI k)), (2, .int (nI z)), (3, .int x)] [.int (bI s0)] [(qt, .inl (cC, 1000, .inl tT))] := by
    intro s0 hv
    unfold v_IT_take_56 at hv
    refine ig_istore (lv' := [(4, .int (bI s0)), (0, .ref qt), (1, .int (nI k)), (2, .int (nI z)), (3, .int x)]) hx hb d_IT_take_56 (by decide) rfl ?_
    refine ig_iconst (v := 0) hx hb d_IT_take_58 (by decide) ?_
    refine ig_istore (lv' := [(5, .int 0), (4, .int (bI s0)), (0, .ref qt), (1, .int (nI k)), (2, .int (nI z)), (3, .int x)]) hx hb d_IT_take_59 (by decide) rfl ?_
    refine ig_iload hx hb 1 d_IT_take_61 rfl ?_
    refine ig_if_eqB (tgt := 72) hx hb s0 rfl d_IT_take_63 (by decide) (fun h => ?_) (fun h => ?_)
    · have hv := hv.1 h
      refine ig_iload_n hx hb 3 d_IT_take_72 rfl rfl ?_
      refine ig_iconst (v := 1) hx hb d_IT_take_73 (by decide) ?_
      refine ig_iaddN hx hb k 1 rfl rfl d_IT_take_74 ?_
      refine ig_istore (lv' := [(6, .int (nI (k + 1))), (5, .int 0), (4, .int (bI s0)), (0, .ref qt), (1, .int (nI k)), (2, .int (nI z)), (3, .int x)]) hx hb d_IT_take_75 (by decide) rfl ?_
      refine ig_lv (lv' := [(0, .ref qt), (2, .int (nI z)), (3, .int x), (4, .int (bI s0)), (5, .int 0), (6, .int (nI (k + 1)))]) [3, 5, 6, 2, 1, 0] rfl ?_
      rw [hK77] at hv
      exact hv
    · have hv := hv.2 h
      refine ig_iload_n hx hb 3 d_IT_take_66 rfl rfl ?_
      refine ig_iconst (v := 2) hx hb d_IT_take_67 (by decide) ?_
      refine ig_iaddN hx hb k 2 rfl rfl d_IT_take_68 ?_
      refine ig_goto (tgt := 75) hx hb d_IT_take_69 (by decide) ?_
      refine ig_istore (lv' := [(6, .int (nI (k + 2))), (5, .int 0), (4, .int (bI s0)), (0, .ref qt), (1, .int (nI k)), (2, .int (nI z)), (3, .int x)]) hx hb d_IT_take_75 (by decide) rfl ?_
      refine ig_lv (lv' := [(0, .ref qt), (2, .int (nI z)), (3, .int x), (4, .int (bI s0)), (5, .int 0), (6, .int (nI (k + 2)))]) [3, 5, 6, 2, 1, 0] rfl ?_
      rw [hK77] at hv
      exact hv
  have j51 : v_IT_take_51 tT k z x a K77 (p_IT_take tT k z x a) → ig_W zp l ze ({ frames := 0, cells := 0, slots := 0, locals := 0 }) zs zm zargs zbelow zmeth zc (dC, dI) ig_cl0 zA zs.heap 9 0 0 zQ 51 [(0, .ref qt), (1, .int (nI k)), (2, .int (nI z)), (3, .int x)] [] [(qt, .inl (cC, 1000, .inl tT))] := by
    intro hv
    unfold v_IT_take_51 at hv
    refine ig_iconst (v := 1) hx hb d_IT_take_51 (by decide) ?_
    refine ig_goto (tgt := 56) hx hb d_IT_take_52 (by decide) ?_
    refine ig_lv (lv' := [(0, .ref qt), (1, .int (nI k)), (2, .int (nI z)), (3, .int x)]) [0, 1, 2, 3] rfl ?_
    exact j56 _ hv
  have j151 : ∀ (tu : Bool) (fo : Bool) (b : Nat) (lo : Int32) (hi : Int32), v_IT_take_151 tT k z x a K77 (p_IT_take tT k z x a) tu fo b lo hi → ig_W zp l ze ({ frames := 0, cells := 0, slots := 0, locals := 0 }) zs zm zargs zbelow zmeth zc (dC, dI) ig_cl0 zA zs.heap 9 0 0 zQ 151 [(0, .ref qt), (2, .int (nI z)), (3, .int x), (4, .int (bI tu)), (5, .int (bI fo)), (6, .int (nI b)), (7, .int lo), (8, .int hi)] [] [(qt, .inl (cC, 1000, .inl tT))] := by
    intro tu fo b lo hi hv
    unfold v_IT_take_151 at hv
    refine ig_iload hx hb 6 d_IT_take_151 rfl ?_
    refine ig_iload_n hx hb 2 d_IT_take_153 rfl rfl ?_
    refine ig_icmp_gt (tgt := 166) hx hb d_IT_take_154 (by decide) (fun h => ?_) (fun h => ?_)
    · have hv := hv.1 h
      refine ig_iinc (v := (nI (b + 1))) (lv' := [(6, .int (nI (b + 1))), (0, .ref qt), (2, .int (nI z)), (3, .int x), (4, .int (bI tu)), (5, .int (bI fo)), (7, .int lo), (8, .int hi)]) hx hb 5 d_IT_take_166 rfl (ig_inc b 1 (by decide)) (by decide) rfl ?_
      refine ig_goto (tgt := 77) hx hb d_IT_take_169 (by decide) ?_
      refine ig_lv (lv' := [(0, .ref qt), (2, .int (nI z)), (3, .int x), (4, .int (bI tu)), (5, .int (bI fo)), (6, .int (nI (b + 1)))]) [1, 2, 3, 4, 5, 0] rfl ?_
      rw [hK77] at hv
      exact hv
    · have hv := hv.2 h
      refine ig_iload_n hx hb 2 d_IT_take_157 rfl rfl ?_
      refine ig_iload hx hb 7 d_IT_take_158 rfl ?_
      refine ig_icmp_gt (tgt := 166) hx hb d_IT_take_160 (by decide) (fun h => ?_) (fun h => ?_)
      · have hv := hv.1 h
        refine ig_iinc (v := (nI (b + 1))) (lv' := [(6, .int (nI (b + 1))), (0, .ref qt), (2, .int (nI z)), (3, .int x), (4, .int (bI tu)), (5, .int (bI fo)), (7, .int lo), (8, .int hi)]) hx hb 5 d_IT_take_166 rfl (ig_inc b 1 (by decide)) (by decide) rfl ?_
        refine ig_goto (tgt := 77) hx hb d_IT_take_169 (by decide) ?_
        refine ig_lv (lv' := [(0, .ref qt), (2, .int (nI z)), (3, .int x), (4, .int (bI tu)), (5, .int (bI fo)), (6, .int (nI (b + 1)))]) [1, 2, 3, 4, 5, 0] rfl ?_
        rw [hK77] at hv
        exact hv
      · have hv := hv.2 h
        refine ig_iconst (v := 1) hx hb d_IT_take_163 (by decide) ?_
        refine ig_istore (lv' := [(5, .int 1), (0, .ref qt), (2, .int (nI z)), (3, .int x), (4, .int (bI tu)), (6, .int (nI b)), (7, .int lo), (8, .int hi)]) hx hb d_IT_take_164 (by decide) rfl ?_
        refine ig_iinc (v := (nI (b + 1))) (lv' := [(6, .int (nI (b + 1))), (5, .int 1), (0, .ref qt), (2, .int (nI z)), (3, .int x), (4, .int (bI tu)), (7, .int lo), (8, .int hi)]) hx hb 5 d_IT_take_166 rfl (ig_inc b 1 (by decide)) (by decide) rfl ?_
        refine ig_goto (tgt := 77) hx hb d_IT_take_169 (by decide) ?_
        refine ig_lv (lv' := [(0, .ref qt), (2, .int (nI z)), (3, .int x), (4, .int (bI tu)), (5, .int 1), (6, .int (nI (b + 1)))]) [2, 3, 4, 5, 1, 0] rfl ?_
        rw [hK77] at hv
        exact hv
  have j142 : ∀ (tu : Bool) (fo : Bool) (lo : Int32) (s0 : Nat) (s1 : Nat), v_IT_take_142 tT k z x a K77 (p_IT_take tT k z x a) tu fo lo s0 s1 → ig_W zp l ze ({ frames := 0, cells := 0, slots := 0, locals := 0 }) zs zm zargs zbelow zmeth zc (dC, dI) ig_cl0 zA zs.heap 9 0 0 zQ 142 [(0, .ref qt), (2, .int (nI z)), (3, .int x), (4, .int (bI tu)), (5, .int (bI fo)), (7, .int lo)] [.int (nI s0), .int (nI s1)] [(qt, .inl (cC, 1000, .inl tT))] := by
    intro tu fo lo s0 s1 hv
    unfold v_IT_take_142 at hv
    refine ig_iaddN hx hb s1 s0 rfl rfl d_IT_take_142 ?_
    refine ig_istore (lv' := [(6, .int (nI (s1 + s0))), (0, .ref qt), (2, .int (nI z)), (3, .int x), (4, .int (bI tu)), (5, .int (bI fo)), (7, .int lo)]) hx hb d_IT_take_143 (by decide) rfl ?_
    refine ig_aload_n hx hb 1 d_IT_take_145 rfl rfl ?_
    refine ig_iload hx hb 0 d_IT_take_146 rfl ?_
    obtain ⟨hc, hv⟩ := hv
    refine ig_cald (x := (tT (s1 + s0))) hx hb hK 0 0 rfl rfl (s1 + s0) rfl hc (by decide) rfl d_IT_take_148 ?_
    refine ig_istore (lv' := [(8, .int (tT (s1 + s0))), (6, .int (nI (s1 + s0))), (0, .ref qt), (2, .int (nI z)), (3, .int x), (4, .int (bI tu)), (5, .int (bI fo)), (7, .int lo)]) hx hb d_IT_take_149 (by decide) rfl ?_
    refine ig_lv (lv' := [(0, .ref qt), (2, .int (nI z)), (3, .int x), (4, .int (bI tu)), (5, .int (bI fo)), (6, .int (nI (s1 + s0))), (7, .int lo), (8, .int (tT (s1 + s0)))]) [2, 3, 4, 5, 6, 1, 7, 0] rfl ?_
    exact j151 _ _ _ _ _ hv
  have j95 : ∀ (tu : Bool) (fo : Bool) (b : Nat), v_IT_take_95 tT k z x a K77 (p_IT_take tT k z x a) tu fo b → ig_W zp l ze ({ frames := 0, cells := 0, slots := 0, locals := 0 }) zs zm zargs zbelow zmeth zc (dC, dI) ig_cl0 zA zs.heap 9 0 0 zQ 95 [(0, .ref qt), (2, .int (nI z)), (3, .int x), (4, .int (bI tu)), (5, .int (bI fo)), (6, .int (nI b))] [] [(qt, .inl (cC, 1000, .inl tT))] := by
    intro tu fo b hv
    unfold v_IT_take_95 at hv
    refine ig_aload_n hx hb 0 d_IT_take_95 rfl rfl ?_
    refine ig_iload hx hb 5 d_IT_take_96 rfl ?_
    obtain ⟨hc, hv⟩ := hv
    refine ig_cald (x := (tT b)) hx hb hK 0 0 rfl rfl b rfl hc (by decide) rfl d_IT_take_98 ?_
    refine ig_istore (lv' := [(7, .int (tT b)), (0, .ref qt), (2, .int (nI z)), (3, .int x), (4, .int (bI tu)), (5, .int (bI fo)), (6, .int (nI b))]) hx hb d_IT_take_99 (by decide) rfl ?_
    refine ig_iload hx hb 0 d_IT_take_101 rfl ?_
    refine ig_istore (lv' := [(8, .int (tT b)), (7, .int (tT b)), (0, .ref qt), (2, .int (nI z)), (3, .int x), (4, .int (bI tu)), (5, .int (bI fo)), (6, .int (nI b))]) hx hb d_IT_take_103 (by decide) rfl ?_
    refine ig_iload hx hb 7 d_IT_take_105 rfl ?_
    refine ig_iconst (v := 2) hx hb d_IT_take_107 (by decide) ?_
    refine ig_iaddN hx hb b 2 rfl rfl d_IT_take_108 ?_
    refine ig_iload_n hx hb 3 d_IT_take_109 rfl rfl ?_
    obtain ⟨h1, hv⟩ := hv
    obtain ⟨h2, hv⟩ := hv
    refine ig_icmp_geN (tgt := 151) hx hb (b + 2) z rfl rfl d_IT_take_110 (by decide) h1 h2 (fun h => ?_) (fun h => ?_)
    · have hv := hv.1 h
      refine ig_lv (lv' := [(0, .ref qt), (2, .int (nI z)), (3, .int x), (4, .int (bI tu)), (5, .int (bI fo)), (6, .int (nI b)), (7, .int (tT b)), (8, .int (tT b))]) [2, 3, 4, 5, 6, 7, 1, 0] rfl ?_
      exact j151 _ _ _ _ _ hv
    · have hv := hv.2 h
      refine ig_aload_n hx hb 2 d_IT_take_113 rfl rfl ?_
      refine ig_iload hx hb 7 d_IT_take_114 rfl ?_
      refine ig_iconst (v := 1) hx hb d_IT_take_116 (by decide) ?_
      refine ig_iaddN hx hb b 1 rfl rfl d_IT_take_117 ?_
      obtain ⟨hc, hv⟩ := hv
      refine ig_cald (x := (tT (b + 1))) hx hb hK 0 0 rfl rfl (b + 1) rfl hc (by decide) rfl d_IT_take_118 ?_
      refine ig_bipush (v := 45) hx hb d_IT_take_119 (by decide) ?_
      refine ig_icmp_ne (tgt := 151) hx hb d_IT_take_121 (by decide) (fun h => ?_) (fun h => ?_)
      · have hv := hv.1 h
        refine ig_lv (lv' := [(0, .ref qt), (2, .int (nI z)), (3, .int x), (4, .int (bI tu)), (5, .int (bI fo)), (6, .int (nI b)), (7, .int (tT b)), (8, .int (tT b))]) [2, 3, 4, 5, 6, 7, 1, 0] rfl ?_
        exact j151 _ _ _ _ _ hv
      · have hv := hv.2 h
        refine ig_iload hx hb 7 d_IT_take_124 rfl ?_
        refine ig_aload_n hx hb 2 d_IT_take_126 rfl rfl ?_
        refine ig_iload hx hb 7 d_IT_take_127 rfl ?_
        refine ig_iconst (v := 2) hx hb d_IT_take_129 (by decide) ?_
        refine ig_iaddN hx hb b 2 rfl rfl d_IT_take_130 ?_
        obtain ⟨hc, hv⟩ := hv
        refine ig_cald (x := (tT (b + 2))) hx hb hK 0 0 rfl rfl (b + 2) rfl hc (by decide) rfl d_IT_take_131 ?_
        refine ig_bipush (v := 92) hx hb d_IT_take_132 (by decide) ?_
        refine ig_icmp_ne (tgt := 141) hx hb d_IT_take_134 (by decide) (fun h => ?_) (fun h => ?_)
        · have hv := hv.1 h
          refine ig_iconst (v := 2) hx hb d_IT_take_141 (by decide) ?_
          refine ig_lv (lv' := [(0, .ref qt), (2, .int (nI z)), (3, .int x), (4, .int (bI tu)), (5, .int (bI fo)), (7, .int (tT b))]) [2, 3, 4, 5, 6, 1] rfl ?_
          exact j142 _ _ _ _ _ hv
        · have hv := hv.2 h
          refine ig_iconst (v := 3) hx hb d_IT_take_137 (by decide) ?_
          refine ig_goto (tgt := 142) hx hb d_IT_take_138 (by decide) ?_
          refine ig_lv (lv' := [(0, .ref qt), (2, .int (nI z)), (3, .int x), (4, .int (bI tu)), (5, .int (bI fo)), (7, .int (tT b))]) [2, 3, 4, 5, 6, 1] rfl ?_
          exact j142 _ _ _ _ _ hv
  have k77 : ∀ (tu : Bool) (fo : Bool) (b : Nat), v_IT_take_77 tT k z x a K77 (p_IT_take tT k z x a) tu fo b → K77 tu fo b := by
    intro tu fo b hv
    unfold v_IT_take_77 at hv
    rw [hK77]
    show ig_W zp l ze ({ frames := 0, cells := 0, slots := 0, locals := 0 }) zs zm zargs zbelow zmeth zc (dC, dI) ig_cl0 zA zs.heap 9 0 0 zQ 77 [(0, .ref qt), (2, .int (nI z)), (3, .int x), (4, .int (bI tu)), (5, .int (bI fo)), (6, .int (nI b))] [] [(qt, .inl (cC, 1000, .inl tT))]
    refine ig_iload hx hb 5 d_IT_take_77 rfl ?_
    refine ig_iload_n hx hb 1 d_IT_take_79 rfl rfl ?_
    obtain ⟨h1, hv⟩ := hv
    obtain ⟨h2, hv⟩ := hv
    refine ig_icmp_geN (tgt := 172) hx hb b z rfl rfl d_IT_take_80 (by decide) h1 h2 (fun h => ?_) (fun h => ?_)
    · have hv := hv.1 h
      refine ig_iload hx hb 4 d_IT_take_172 rfl ?_
      refine ig_iload hx hb 3 d_IT_take_174 rfl ?_
      refine ig_icmp_eqB (tgt := 183) hx hb fo tu rfl rfl d_IT_take_176 (by decide) (fun h => ?_) (fun h => ?_)
      · have hv := hv.1 h
        refine ig_iconst (v := 0) hx hb d_IT_take_183 (by decide) ?_
        exact hret 184 _ 0 () d_IT_take_184 ⟨false, rfl, hv⟩
      · have hv := hv.2 h
        refine ig_iconst (v := 1) hx hb d_IT_take_179 (by decide) ?_
        refine ig_goto (tgt := 184) hx hb d_IT_take_180 (by decide) ?_
        exact hret 184 _ 1 () d_IT_take_184 ⟨true, rfl, hv⟩
    · have hv := hv.2 h
      refine ig_aload_n hx hb 0 d_IT_take_83 rfl rfl ?_
      refine ig_iload hx hb 5 d_IT_take_84 rfl ?_
      obtain ⟨hc, hv⟩ := hv
      refine ig_cald (x := (tT b)) hx hb hK 0 0 rfl rfl b rfl hc (by decide) rfl d_IT_take_86 ?_
      refine ig_bipush (v := 92) hx hb d_IT_take_87 (by decide) ?_
      refine ig_icmp_ne (tgt := 95) hx hb d_IT_take_89 (by decide) (fun h => ?_) (fun h => ?_)
      · have hv := hv.1 h
        refine ig_lv (lv' := [(0, .ref qt), (2, .int (nI z)), (3, .int x), (4, .int (bI tu)), (5, .int (bI fo)), (6, .int (nI b))]) [0, 1, 2, 3, 4, 5] rfl ?_
        exact j95 _ _ _ hv
      · have hv := hv.2 h
        refine ig_iinc (v := (nI (b + 1))) (lv' := [(6, .int (nI (b + 1))), (0, .ref qt), (2, .int (nI z)), (3, .int x), (4, .int (bI tu)), (5, .int (bI fo))]) hx hb 5 d_IT_take_92 rfl (ig_inc b 1 (by decide)) (by decide) rfl ?_
        refine ig_lv (lv' := [(0, .ref qt), (2, .int (nI z)), (3, .int x), (4, .int (bI tu)), (5, .int (bI fo)), (6, .int (nI (b + 1)))]) [1, 2, 3, 4, 5, 0] rfl ?_
        exact j95 _ _ _ hv
  have hv := t_IT_take tT k z x a hr K77 k77
  unfold v_IT_take at hv
  refine ig_aload_n hx hb 0 d_IT_take_0 rfl rfl ?_
  refine ig_iload_n hx hb 1 d_IT_take_1 rfl rfl ?_
  obtain ⟨hc, hv⟩ := hv
  refine ig_cald (x := (tT k)) hx hb hK 0 0 rfl rfl k rfl hc (by decide) rfl d_IT_take_2 ?_
  refine ig_bipush (v := 63) hx hb d_IT_take_3 (by decide) ?_
  refine ig_icmp_ne (tgt := 10) hx hb d_IT_take_5 (by decide) (fun h => ?_) (fun h => ?_)
  · have hv := hv.1 h
    refine ig_aload_n hx hb 0 d_IT_take_10 rfl rfl ?_
    refine ig_iload_n hx hb 1 d_IT_take_11 rfl rfl ?_
    obtain ⟨hc, hv⟩ := hv
    refine ig_cald (x := (tT k)) hx hb hK 0 0 rfl rfl k rfl hc (by decide) rfl d_IT_take_12 ?_
    refine ig_bipush (v := 91) hx hb d_IT_take_13 (by decide) ?_
    refine ig_icmp_eq (tgt := 31) hx hb d_IT_take_15 (by decide) (fun h => ?_) (fun h => ?_)
    · have hv := hv.1 h
      refine ig_aload_n hx hb 0 d_IT_take_31 rfl rfl ?_
      refine ig_iload_n hx hb 1 d_IT_take_32 rfl rfl ?_
      refine ig_iconst (v := 1) hx hb d_IT_take_33 (by decide) ?_
      refine ig_iaddN hx hb k 1 rfl rfl d_IT_take_34 ?_
      obtain ⟨hc, hv⟩ := hv
      refine ig_cald (x := (tT (k + 1))) hx hb hK 0 0 rfl rfl (k + 1) rfl hc (by decide) rfl d_IT_take_35 ?_
      refine ig_bipush (v := 33) hx hb d_IT_take_36 (by decide) ?_
      refine ig_icmp_eq (tgt := 51) hx hb d_IT_take_38 (by decide) (fun h => ?_) (fun h => ?_)
      · have hv := hv.1 h
        refine ig_lv (lv' := [(0, .ref qt), (1, .int (nI k)), (2, .int (nI z)), (3, .int x)]) [0, 1, 2, 3] rfl ?_
        exact j51 hv
      · have hv := hv.2 h
        refine ig_aload_n hx hb 0 d_IT_take_41 rfl rfl ?_
        refine ig_iload_n hx hb 1 d_IT_take_42 rfl rfl ?_
        refine ig_iconst (v := 1) hx hb d_IT_take_43 (by decide) ?_
        refine ig_iaddN hx hb k 1 rfl rfl d_IT_take_44 ?_
        obtain ⟨hc, hv⟩ := hv
        refine ig_cald (x := (tT (k + 1))) hx hb hK 0 0 rfl rfl (k + 1) rfl hc (by decide) rfl d_IT_take_45 ?_
        refine ig_bipush (v := 94) hx hb d_IT_take_46 (by decide) ?_
        refine ig_icmp_ne (tgt := 55) hx hb d_IT_take_48 (by decide) (fun h => ?_) (fun h => ?_)
        · have hv := hv.1 h
          refine ig_iconst (v := 0) hx hb d_IT_take_55 (by decide) ?_
          refine ig_lv (lv' := [(0, .ref qt), (1, .int (nI k)), (2, .int (nI z)), (3, .int x)]) [0, 1, 2, 3] rfl ?_
          exact j56 _ hv
        · have hv := hv.2 h
          refine ig_lv (lv' := [(0, .ref qt), (1, .int (nI k)), (2, .int (nI z)), (3, .int x)]) [0, 1, 2, 3] rfl ?_
          exact j51 hv
    · have hv := hv.2 h
      refine ig_aload_n hx hb 0 d_IT_take_18 rfl rfl ?_
      refine ig_iload_n hx hb 2 d_IT_take_19 rfl rfl ?_
      obtain ⟨hc, hv⟩ := hv
      refine ig_cald (x := (tT z)) hx hb hK 0 0 rfl rfl z rfl hc (by decide) rfl d_IT_take_20 ?_
      refine ig_iload_n hx hb 3 d_IT_take_21 rfl rfl ?_
      refine ig_icmp_ne (tgt := 29) hx hb d_IT_take_22 (by decide) (fun h => ?_) (fun h => ?_)
      · have hv := hv.1 h
        refine ig_iconst (v := 0) hx hb d_IT_take_29 (by decide) ?_
        exact hret 30 _ 0 () d_IT_take_30 ⟨false, rfl, hv⟩
      · have hv := hv.2 h
        refine ig_iconst (v := 1) hx hb d_IT_take_25 (by decide) ?_
        refine ig_goto (tgt := 30) hx hb d_IT_take_26 (by decide) ?_
        exact hret 30 _ 1 () d_IT_take_30 ⟨true, rfl, hv⟩
  · have hv := hv.2 h
    refine ig_iconst (v := 1) hx hb d_IT_take_8 (by decide) ?_
    exact hret 9 _ 1 () d_IT_take_9 ⟨true, rfl, hv⟩
