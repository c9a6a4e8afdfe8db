theorem kw_0_3 : Cond.initialized "IgnoreRules$Path" ∈ ig_T := ig_T_mem (List.mem_append_left _ (List.mem_of_getElem? (i := 3) rfl)) rfl
theorem kw_0_4 : Cond.initialized "IgnoreRules$Matcher" ∈ ig_T := ig_T_mem (List.mem_append_left _ (List.mem_of_getElem? (i := 4) rfl)) rfl
theorem kw_0_81 : Cond.fieldLink "IgnoreRules$Matcher" 9 "IgnoreRules$Matcher" "namesTaken" "[Z" ∈ ig_T := ig_T_mem (List.mem_append_left _ (List.mem_of_getElem? (i := 81) rfl)) rfl
theorem kw_0_82 : Cond.fieldLink "IgnoreRules$Matcher" 15 "IgnoreRules$Matcher" "bytesTaken" "[Z" ∈ ig_T := ig_T_mem (List.mem_append_left _ (List.mem_of_getElem? (i := 82) rfl)) rfl
theorem kw_1_56 : Cond.methodLink "IgnoreRules$Matcher" 24 y_MA_startRow ∈ ig_T := ig_T_mem (List.mem_append_right _ (List.mem_append_left _ (List.mem_of_getElem? (i := 56) rfl))) rfl
theorem kw_1_57 : Cond.static y_MA_startRow ∈ ig_T := ig_T_mem (List.mem_append_right _ (List.mem_append_left _ (List.mem_of_getElem? (i := 57) rfl))) rfl
theorem kw_1_62 : Cond.methodLink "IgnoreRules$Matcher" 42 y_MA_spread ∈ ig_T := ig_T_mem (List.mem_append_right _ (List.mem_append_left _ (List.mem_of_getElem? (i := 62) rfl))) rfl
theorem kw_1_63 : Cond.static y_MA_spread ∈ ig_T := ig_T_mem (List.mem_append_right _ (List.mem_append_left _ (List.mem_of_getElem? (i := 63) rfl))) rfl
theorem kw_1_69 : Cond.methodLink "IgnoreRules$Matcher" 50 y_MA_nameFits ∈ ig_T := ig_T_mem (List.mem_append_right _ (List.mem_append_left _ (List.mem_of_getElem? (i := 69) rfl))) rfl
theorem kw_1_71 : Cond.instanceMethod y_MA_nameFits ∈ ig_T := ig_T_mem (List.mem_append_right _ (List.mem_append_left _ (List.mem_of_getElem? (i := 71) rfl))) rfl
theorem kw_1_75 : Cond.instanceMethod y_PA_lengthOf ∈ ig_T := ig_T_mem (List.mem_append_right _ (List.mem_append_left _ (List.mem_of_getElem? (i := 75) rfl))) rfl
theorem kw_1_79 : Cond.static y_IT_take ∈ ig_T := ig_T_mem (List.mem_append_right _ (List.mem_append_left _ (List.mem_of_getElem? (i := 79) rfl))) rfl
theorem d_MA_nameFits_0 : decode b_MA_nameFits 0 = .ok (.aload 4, 2) := by decide +kernel
theorem d_MA_nameFits_2 : decode b_MA_nameFits 2 = .ok (.getfield 54, 3) := by decide +kernel
theorem d_MA_nameFits_5 : decode b_MA_nameFits 5 = .ok (.iload 5, 2) := by decide +kernel
theorem d_MA_nameFits_7 : decode b_MA_nameFits 7 = .ok (.iaload, 1) := by decide +kernel
theorem d_MA_nameFits_8 : decode b_MA_nameFits 8 = .ok (.istore 6, 2) := by decide +kernel
theorem d_MA_nameFits_10 : decode b_MA_nameFits 10 = .ok (.aload 4, 2) := by decide +kernel
theorem d_MA_nameFits_12 : decode b_MA_nameFits 12 = .ok (.iload 5, 2) := by decide +kernel
theorem d_MA_nameFits_14 : decode b_MA_nameFits 14 = .ok (.invokevirtual 57, 3) := by decide +kernel
theorem d_MA_nameFits_17 : decode b_MA_nameFits 17 = .ok (.istore 7, 2) := by decide +kernel
theorem d_MA_nameFits_19 : decode b_MA_nameFits 19 = .ok (.aload_n 0, 1) := by decide +kernel
theorem d_MA_nameFits_20 : decode b_MA_nameFits 20 = .ok (.getfield 15, 3) := by decide +kernel
theorem d_MA_nameFits_23 : decode b_MA_nameFits 23 = .ok (.iload 7, 2) := by decide +kernel
theorem d_MA_nameFits_25 : decode b_MA_nameFits 25 = .ok (.iconst 0, 1) := by decide +kernel
theorem d_MA_nameFits_26 : decode b_MA_nameFits 26 = .ok (.invokestatic 24, 3) := by decide +kernel
theorem d_MA_nameFits_29 : decode b_MA_nameFits 29 = .ok (.iload_n 2, 1) := by decide +kernel
theorem d_MA_nameFits_30 : decode b_MA_nameFits 30 = .ok (.istore 8, 2) := by decide +kernel
theorem d_MA_nameFits_32 : decode b_MA_nameFits 32 = .ok (.iload 8, 2) := by decide +kernel
theorem d_MA_nameFits_34 : decode b_MA_nameFits 34 = .ok (.iload_n 3, 1) := by decide +kernel
theorem d_MA_nameFits_35 : decode b_MA_nameFits 35 = .ok (.if_icmp .ge 154, 3) := by decide +kernel
theorem d_MA_nameFits_38 : decode b_MA_nameFits 38 = .ok (.aload_n 1, 1) := by decide +kernel
theorem d_MA_nameFits_39 : decode b_MA_nameFits 39 = .ok (.iload 8, 2) := by decide +kernel
theorem d_MA_nameFits_41 : decode b_MA_nameFits 41 = .ok (.iload_n 3, 1) := by decide +kernel
theorem d_MA_nameFits_42 : decode b_MA_nameFits 42 = .ok (.invokestatic 61, 3) := by decide +kernel
theorem d_MA_nameFits_45 : decode b_MA_nameFits 45 = .ok (.istore 9, 2) := by decide +kernel
theorem d_MA_nameFits_47 : decode b_MA_nameFits 47 = .ok (.iload 9, 2) := by decide +kernel
theorem d_MA_nameFits_49 : decode b_MA_nameFits 49 = .ok (.iload 8, 2) := by decide +kernel
theorem d_MA_nameFits_51 : decode b_MA_nameFits 51 = .ok (.if_icmp .ge 5, 3) := by decide +kernel
theorem d_MA_nameFits_54 : decode b_MA_nameFits 54 = .ok (.iconst 0, 1) := by decide +kernel
theorem d_MA_nameFits_55 : decode b_MA_nameFits 55 = .ok (.ireturn, 1) := by decide +kernel
theorem d_MA_nameFits_56 : decode b_MA_nameFits 56 = .ok (.aload_n 1, 1) := by decide +kernel
theorem d_MA_nameFits_57 : decode b_MA_nameFits 57 = .ok (.iload 8, 2) := by decide +kernel
theorem d_MA_nameFits_59 : decode b_MA_nameFits 59 = .ok (.caload, 1) := by decide +kernel
theorem d_MA_nameFits_60 : decode b_MA_nameFits 60 = .ok (.bipush 42, 2) := by decide +kernel
theorem d_MA_nameFits_62 : decode b_MA_nameFits 62 = .ok (.if_icmp .ne 15, 3) := by decide +kernel
theorem d_MA_nameFits_65 : decode b_MA_nameFits 65 = .ok (.aload_n 0, 1) := by decide +kernel
theorem d_MA_nameFits_66 : decode b_MA_nameFits 66 = .ok (.getfield 15, 3) := by decide +kernel
theorem d_MA_nameFits_69 : decode b_MA_nameFits 69 = .ok (.iload 7, 2) := by decide +kernel
theorem d_MA_nameFits_71 : decode b_MA_nameFits 71 = .ok (.invokestatic 42, 3) := by decide +kernel
theorem d_MA_nameFits_74 : decode b_MA_nameFits 74 = .ok (.goto 105, 3) := by decide +kernel
theorem d_MA_nameFits_77 : decode b_MA_nameFits 77 = .ok (.iconst 0, 1) := by decide +kernel
theorem d_MA_nameFits_78 : decode b_MA_nameFits 78 = .ok (.istore 10, 2) := by decide +kernel
theorem d_MA_nameFits_80 : decode b_MA_nameFits 80 = .ok (.iload 7, 2) := by decide +kernel
theorem d_MA_nameFits_82 : decode b_MA_nameFits 82 = .ok (.istore 11, 2) := by decide +kernel
theorem d_MA_nameFits_84 : decode b_MA_nameFits 84 = .ok (.iload 11, 2) := by decide +kernel
theorem d_MA_nameFits_86 : decode b_MA_nameFits 86 = .ok (.ifCond .le 79, 3) := by decide +kernel
theorem d_MA_nameFits_89 : decode b_MA_nameFits 89 = .ok (.aload_n 0, 1) := by decide +kernel
theorem d_MA_nameFits_90 : decode b_MA_nameFits 90 = .ok (.getfield 15, 3) := by decide +kernel
theorem d_MA_nameFits_93 : decode b_MA_nameFits 93 = .ok (.iload 11, 2) := by decide +kernel
theorem d_MA_nameFits_95 : decode b_MA_nameFits 95 = .ok (.aload_n 0, 1) := by decide +kernel
theorem d_MA_nameFits_96 : decode b_MA_nameFits 96 = .ok (.getfield 15, 3) := by decide +kernel
theorem d_MA_nameFits_99 : decode b_MA_nameFits 99 = .ok (.iload 11, 2) := by decide +kernel
theorem d_MA_nameFits_101 : decode b_MA_nameFits 101 = .ok (.iconst 1, 1) := by decide +kernel
theorem d_MA_nameFits_102 : decode b_MA_nameFits 102 = .ok (.isub, 1) := by decide +kernel
theorem d_MA_nameFits_103 : decode b_MA_nameFits 103 = .ok (.baload, 1) := by decide +kernel
theorem d_MA_nameFits_104 : decode b_MA_nameFits 104 = .ok (.ifCond .eq 31, 3) := by decide +kernel
theorem d_MA_nameFits_107 : decode b_MA_nameFits 107 = .ok (.aload_n 1, 1) := by decide +kernel
theorem d_MA_nameFits_108 : decode b_MA_nameFits 108 = .ok (.iload 8, 2) := by decide +kernel
theorem d_MA_nameFits_110 : decode b_MA_nameFits 110 = .ok (.iload 9, 2) := by decide +kernel
theorem d_MA_nameFits_112 : decode b_MA_nameFits 112 = .ok (.aload 4, 2) := by decide +kernel
theorem d_MA_nameFits_114 : decode b_MA_nameFits 114 = .ok (.getfield 67, 3) := by decide +kernel
theorem d_MA_nameFits_117 : decode b_MA_nameFits 117 = .ok (.iload 6, 2) := by decide +kernel
theorem d_MA_nameFits_119 : decode b_MA_nameFits 119 = .ok (.iload 11, 2) := by decide +kernel
theorem d_MA_nameFits_121 : decode b_MA_nameFits 121 = .ok (.iadd, 1) := by decide +kernel
theorem d_MA_nameFits_122 : decode b_MA_nameFits 122 = .ok (.iconst 1, 1) := by decide +kernel
theorem d_MA_nameFits_123 : decode b_MA_nameFits 123 = .ok (.isub, 1) := by decide +kernel
theorem d_MA_nameFits_124 : decode b_MA_nameFits 124 = .ok (.caload, 1) := by decide +kernel
theorem d_MA_nameFits_125 : decode b_MA_nameFits 125 = .ok (.invokestatic 70, 3) := by decide +kernel
theorem d_MA_nameFits_128 : decode b_MA_nameFits 128 = .ok (.ifCond .eq 7, 3) := by decide +kernel
theorem d_MA_nameFits_131 : decode b_MA_nameFits 131 = .ok (.iconst 1, 1) := by decide +kernel
theorem d_MA_nameFits_132 : decode b_MA_nameFits 132 = .ok (.goto 4, 3) := by decide +kernel
theorem d_MA_nameFits_135 : decode b_MA_nameFits 135 = .ok (.iconst 0, 1) := by decide +kernel
theorem d_MA_nameFits_136 : decode b_MA_nameFits 136 = .ok (.bastore, 1) := by decide +kernel
theorem d_MA_nameFits_137 : decode b_MA_nameFits 137 = .ok (.iload 10, 2) := by decide +kernel
theorem d_MA_nameFits_139 : decode b_MA_nameFits 139 = .ok (.ifCond .ne 13, 3) := by decide +kernel
theorem d_MA_nameFits_142 : decode b_MA_nameFits 142 = .ok (.aload_n 0, 1) := by decide +kernel
theorem d_MA_nameFits_143 : decode b_MA_nameFits 143 = .ok (.getfield 15, 3) := by decide +kernel
theorem d_MA_nameFits_146 : decode b_MA_nameFits 146 = .ok (.iload 11, 2) := by decide +kernel
theorem d_MA_nameFits_148 : decode b_MA_nameFits 148 = .ok (.baload, 1) := by decide +kernel
theorem d_MA_nameFits_149 : decode b_MA_nameFits 149 = .ok (.ifCond .eq 7, 3) := by decide +kernel
theorem d_MA_nameFits_152 : decode b_MA_nameFits 152 = .ok (.iconst 1, 1) := by decide +kernel
theorem d_MA_nameFits_153 : decode b_MA_nameFits 153 = .ok (.goto 4, 3) := by decide +kernel
theorem d_MA_nameFits_156 : decode b_MA_nameFits 156 = .ok (.iconst 0, 1) := by decide +kernel
theorem d_MA_nameFits_157 : decode b_MA_nameFits 157 = .ok (.istore 10, 2) := by decide +kernel
theorem d_MA_nameFits_159 : decode b_MA_nameFits 159 = .ok (.iinc 11 (-1), 3) := by decide +kernel
theorem d_MA_nameFits_162 : decode b_MA_nameFits 162 = .ok (.goto (-78), 3) := by decide +kernel
theorem d_MA_nameFits_165 : decode b_MA_nameFits 165 = .ok (.aload_n 0, 1) := by decide +kernel
theorem d_MA_nameFits_166 : decode b_MA_nameFits 166 = .ok (.getfield 15, 3) := by decide +kernel
theorem d_MA_nameFits_169 : decode b_MA_nameFits 169 = .ok (.iconst 0, 1) := by decide +kernel
theorem d_MA_nameFits_170 : decode b_MA_nameFits 170 = .ok (.iconst 0, 1) := by decide +kernel
theorem d_MA_nameFits_171 : decode b_MA_nameFits 171 = .ok (.bastore, 1) := by decide +kernel
theorem d_MA_nameFits_172 : decode b_MA_nameFits 172 = .ok (.iload 10, 2) := by decide +kernel
theorem d_MA_nameFits_174 : decode b_MA_nameFits 174 = .ok (.ifCond .ne 5, 3) := by decide +kernel
theorem d_MA_nameFits_177 : decode b_MA_nameFits 177 = .ok (.iconst 0, 1) := by decide +kernel
theorem d_MA_nameFits_178 : decode b_MA_nameFits 178 = .ok (.ireturn, 1) := by decide +kernel
theorem d_MA_nameFits_179 : decode b_MA_nameFits 179 = .ok (.iload 9, 2) := by decide +kernel
theorem d_MA_nameFits_181 : decode b_MA_nameFits 181 = .ok (.istore 8, 2) := by decide +kernel
theorem d_MA_nameFits_183 : decode b_MA_nameFits 183 = .ok (.iinc 8 1, 3) := by decide +kernel
theorem d_MA_nameFits_186 : decode b_MA_nameFits 186 = .ok (.goto (-154), 3) := by decide +kernel
theorem d_MA_nameFits_189 : decode b_MA_nameFits 189 = .ok (.aload_n 0, 1) := by decide +kernel
theorem d_MA_nameFits_190 : decode b_MA_nameFits 190 = .ok (.getfield 15, 3) := by decide +kernel
theorem d_MA_nameFits_193 : decode b_MA_nameFits 193 = .ok (.iload 7, 2) := by decide +kernel
theorem d_MA_nameFits_195 : decode b_MA_nameFits 195 = .ok (.baload, 1) := by decide +kernel
theorem d_MA_nameFits_196 : decode b_MA_nameFits 196 = .ok (.ireturn, 1) := by decide +kernel
abbrev w_MA_nameFits : List Cond := Cond.code y_MA_nameFits b_MA_nameFits 12 (some .boolean) :: ig_T
theorem g_MA_nameFits : GoodIn ig_T w_MA_nameFits := ig_T_good (ig_T_mem (List.mem_append_right _ (List.mem_append_left _ (List.mem_of_getElem? (i := 72) rfl))) rfl)
set_option maxHeartbeats 4000000 in
set_option maxRecDepth 100000 in
theorem c_MA_nameFits (l : Launch) (dC : Nat → ClassId) (dI : Nat → Nat → Nat) (cC cI cZ cL : ClassId) (m0 mn mb qt p0 pb ps : Nat) (pC : Int32) (mB : Nat → Bool) (tT : Nat → Int32) (pB : Nat → Int32) (pS : Nat → Nat) (f : Nat) (a : Nat) (j : Nat) (sz : Nat) (hr : r_MA_nameFits mB tT pB pS f a j) : Met l y_MA_nameFits w_MA_nameFits ({ frames := 1, cells := 0, slots := 0, locals := 28 }) (ig_Pc (dC, dI) ig_cl0 [(cC, .char), (cI, .int), (cZ, .boolean), (cL, .long)] [.ref m0, .ref qt, .int (nI f), .int (nI a), .ref p0, .int (nI j)] [(m0, .inr (ciMA, [.ref mn, .ref mb])), (mb, .inl (cZ, 121, .inl (fun zj => bI (mB zj)))), (qt, .inl (cC, 1000, .inl tT)), (p0, .inr (ciPA, [.ref pb, .ref ps, .int pC])), (pb, .inl (cC, 120, .inl pB)), (ps, .inl (cI, 21, .inl (fun zj => nI (pS zj))))] sz) (va_Qi (fun (r : Int32) (u : (Nat → Bool)) => ∃ zr : Bool, r = bI zr ∧ p_MA_nameFits mB tT pB pS f a j zr u) (fun u t => va_P (dC, dI) ig_cl0 ((fun (u : (Nat → Bool)) => [(m0, .inr (ciMA, [.ref mn, .ref mb])), (mb, .inl (cZ, 121, .inl (fun zj => bI (u zj)))), (qt, .inl (cC, 1000, .inl tT)), (p0, .inr (ciPA, [.ref pb, .ref ps, .int pC])), (pb, .inl (cC, 120, .inl pB)), (ps, .inl (cI, 21, .inl (fun zj => nI (pS zj))))]) u) t.heap ∧ va_D (va_A [(m0, .inr (ciMA, [.ref mn, .ref mb])), (mb, .inl (cZ, 121, .inl (fun zj => bI (mB zj)))), (qt, .inl (cC, 1000, .inl tT)), (p0, .inr (ciPA, [.ref pb, .ref ps, .int pC])), (pb, .inl (cC, 120, .inl pB)), (ps, .inl (cI, 21, .inl (fun zj => nI (pS zj))))] sz) ((fun (u : (Nat → Bool)) => [(m0, .inr (ciMA, [.ref mn, .ref mb])), (mb, .inl (cZ, 121, .inl (fun zj => bI (u zj)))), (qt, .inl (cC, 1000, .inl tT)), (p0, .inr (ciPA, [.ref pb, .ref ps, .int pC])), (pb, .inl (cC, 120, .inl pB)), (ps, .inl (cI, 21, .inl (fun zj => nI (pS zj))))]) u)) (va_A [(m0, .inr (ciMA, [.ref mn, .ref mb])), (mb, .inl (cZ, 121, .inl (fun zj => bI (mB zj)))), (qt, .inl (cC, 1000, .inl tT)), (p0, .inr (ciPA, [.ref pb, .ref ps, .int pC])), (pb, .inl (cC, 120, .inl pB)), (ps, .inl (cI, 21, .inl (fun zj => nI (pS zj))))] sz)) 0 0 (va_A [(m0, .inr (ciMA, [.ref mn, .ref mb])), (mb, .inl (cZ, 121, .inl (fun zj => bI (mB zj)))), (qt, .inl (cC, 1000, .inl tT)), (p0, .inr (ciPA, [.ref pb, .ref ps, .int pC])), (pb, .inl (cC, 120, .inl pB)), (ps, .inl (cI, 21, .inl (fun zj => nI (pS zj))))] sz) := by
  refine ig_metI (fun (r : Int32) (u : (Nat → Bool)) => ∃ zr : Bool, r = bI zr ∧ p_MA_nameFits mB tT pB pS f a j zr u) (fun (u : (Nat → Bool)) => [(m0, .inr (ciMA, [.ref mn, .ref mb])), (mb, .inl (cZ, 121, .inl (fun zj => bI (u zj)))), (qt, .inl (cC, 1000, .inl tT)), (p0, .inr (ciPA, [.ref pb, .ref ps, .int pC])), (pb, .inl (cC, 120, .inl pB)), (ps, .inl (cI, 21, .inl (fun zj => nI (pS zj))))]) (by decide) rfl (Nat.le_of_ble_eq_true rfl) rfl (by rintro r u ⟨b, rfl, -⟩; exact bI_ret b) ?_
  intro zp ze zs zm zargs zbelow zmeth zc zA zQ hx hb hml hown hts hK hN hA hret
  obtain ⟨K32, hK32⟩ : ∃ K : Nat → Nat → Nat → (Nat → Bool) → Prop, K = fun (z : Nat) (n : Nat) (b : Nat) (mBc : Nat → Bool) => ig_W zp l ze ({ frames := 1, cells := 0, slots := 0, locals := 28 }) zs zm zargs zbelow zmeth zc (dC, dI) ig_cl0 zA zs.heap 12 0 0 zQ 32 [(0, .ref m0), (1, .ref qt), (3, .int (nI a)), (4, .ref p0), (6, .int (nI z)), (7, .int (nI n)), (8, .int (nI b))] [] [(m0, .inr (ciMA, [.ref mn, .ref mb])), (mb, .inl (cZ, 121, .inl (fun zj => bI (mBc zj)))), (qt, .inl (cC, 1000, .inl tT)), (p0, .inr (ciPA, [.ref pb, .ref ps, .int pC])), (pb, .inl (cC, 120, .inl pB)), (ps, .inl (cI, 21, .inl (fun zj => nI (pS zj))))] := ⟨_, rfl⟩
  obtain ⟨K84, hK84⟩ : ∃ K : Nat → Nat → Nat → Nat → Bool → Nat → (Nat → Bool) → Prop, K = fun (z : Nat) (n : Nat) (b : Nat) (la : Nat) (so : Bool) (x : Nat) (mBc : Nat → Bool) => ig_W zp l ze ({ frames := 1, cells := 0, slots := 0, locals := 28 }) zs zm zargs zbelow zmeth zc (dC, dI) ig_cl0 zA zs.heap 12 0 0 zQ 84 [(0, .ref m0), (1, .ref qt), (3, .int (nI a)), (4, .ref p0), (6, .int (nI z)), (7, .int (nI n)), (8, .int (nI b)), (9, .int (nI la)), (10, .int (bI so)), (11, .int (nI x))] [] [(m0, .inr (ciMA, [.ref mn, .ref mb])), (mb, .inl (cZ, 121, .inl (fun zj => bI (mBc zj)))), (qt, .inl (cC, 1000, .inl tT)), (p0, .inr (ciPA, [.ref pb, .ref ps, .int pC])), (pb, .inl (cC, 120, .inl pB)), (ps, .inl (cI, 21, .inl (fun zj => nI (pS zj))))] := ⟨_, rfl⟩
  have j152 : ∀ (z : Nat) (n : Nat) (b : Nat) (la : Nat) (x : Nat) (mBc : Nat → Bool), v_MA_nameFits_152 mB tT pB pS f a j K32 K84 (p_MA_nameFits mB tT pB pS f a j) z n b la x mBc → ig_W zp l ze ({ frames := 1, cells := 0, slots := 0, locals := 28 }) zs zm zargs zbelow zmeth zc (dC, dI) ig_cl0 zA zs.heap 12 0 0 zQ 152 [(0, .ref m0), (1, .ref qt), (3, .int (nI a)), (4, .ref p0), (6, .int (nI z)), (7, .int (nI n)), (8, .int (nI b)), (9, .int (nI la)), (11, .int (nI x))] [] [(m0, .inr (ciMA, [.ref mn, .ref mb])), (mb, .inl (cZ, 121, .inl (fun zj => bI (mBc zj)))), (qt, .inl (cC, 1000, .inl tT)), (p0, .inr (ciPA, [.ref pb, .ref ps, .int pC])), (pb, .inl (cC, 120, .inl pB)), (ps, .inl (cI, 21, .inl (fun zj => nI (pS zj))))] := by
    intro z n b la x mBc hv
    unfold v_MA_nameFits_152 at hv
    refine ig_iconst (v := 1) hx hb d_MA_nameFits_152 (by decide) ?_
    refine ig_goto (tgt := 157) hx hb d_MA_nameFits_153 (by decide) ?_
    refine ig_istore (lv' := [(10, .int 1), (0, .ref m0), (1, .ref qt), (3, .int (nI a)), (4, .ref p0), (6, .int (nI z)), (7, .int (nI n)), (8, .int (nI b)), (9, .int (nI la)), (11, .int (nI x))]) hx hb d_MA_nameFits_157 (by decide) rfl ?_
    obtain ⟨hc, hv⟩ := hv
    refine ig_iinc (v := (nI (x - 1))) (lv' := [(11, .int (nI (x - 1))), (10, .int 1), (0, .ref m0), (1, .ref qt), (3, .int (nI a)), (4, .ref p0), (6, .int (nI z)), (7, .int (nI n)), (8, .int (nI b)), (9, .int (nI la))]) hx hb 9 d_MA_nameFits_159 rfl (ig_dec 1 hc (by decide)) (by decide) rfl ?_
    refine ig_goto (tgt := 84) hx hb d_MA_nameFits_162 (by decide) ?_
    refine ig_lv (lv' := [(0, .ref m0), (1, .ref qt), (3, .int (nI a)), (4, .ref p0), (6, .int (nI z)), (7, .int (nI n)), (8, .int (nI b)), (9, .int (nI la)), (10, .int 1), (11, .int (nI (x - 1)))]) [2, 3, 4, 5, 6, 7, 8, 9, 1, 0] rfl ?_
    rw [hK84] at hv
    exact hv
  have j136 : ∀ (z : Nat) (n : Nat) (b : Nat) (la : Nat) (so : Bool) (x : Nat) (s0 : Bool) (s1 : Nat) (mBc : Nat → Bool), v_MA_nameFits_136 mB tT pB pS f a j K32 K84 (p_MA_nameFits mB tT pB pS f a j) z n b la so x s0 s1 mBc → ig_W zp l ze ({ frames := 1, cells := 0, slots := 0, locals := 28 }) zs zm zargs zbelow zmeth zc (dC, dI) ig_cl0 zA zs.heap 12 0 0 zQ 136 [(0, .ref m0), (1, .ref qt), (3, .int (nI a)), (4, .ref p0), (6, .int (nI z)), (7, .int (nI n)), (8, .int (nI b)), (9, .int (nI la)), (10, .int (bI so)), (11, .int (nI x))] [.int (bI s0), .int (nI s1), .ref mb] [(m0, .inr (ciMA, [.ref mn, .ref mb])), (mb, .inl (cZ, 121, .inl (fun zj => bI (mBc zj)))), (qt, .inl (cC, 1000, .inl tT)), (p0, .inr (ciPA, [.ref pb, .ref ps, .int pC])), (pb, .inl (cC, 120, .inl pB)), (ps, .inl (cI, 21, .inl (fun zj => nI (pS zj))))] := by
    intro z n b la so x s0 s1 mBc hv
    unfold v_MA_nameFits_136 at hv
    obtain ⟨hc, hv⟩ := hv
    refine ig_zast (f' := fun zj => bI ((updB mBc s1 s0) zj)) (ws' := [(m0, .inr (ciMA, [.ref mn, .ref mb])), (mb, .inl (cZ, 121, .inl (fun zj => bI ((updB mBc s1 s0) zj)))), (qt, .inl (cC, 1000, .inl tT)), (p0, .inr (ciPA, [.ref pb, .ref ps, .int pC])), (pb, .inl (cC, 120, .inl pB)), (ps, .inl (cI, 21, .inl (fun zj => nI (pS zj))))]) hx hb hK 1 2 rfl rfl s1 rfl hc (by decide) (bI_nar s0) (upd_B mBc s1 s0) d_MA_nameFits_136 rfl ?_
    refine ig_iload hx hb 8 d_MA_nameFits_137 rfl ?_
    refine ig_if_neB (tgt := 152) hx hb so rfl d_MA_nameFits_139 (by decide) (fun h => ?_) (fun h => ?_)
    · have hv := hv.1 h
      refine ig_lv (lv' := [(0, .ref m0), (1, .ref qt), (3, .int (nI a)), (4, .ref p0), (6, .int (nI z)), (7, .int (nI n)), (8, .int (nI b)), (9, .int (nI la)), (11, .int (nI x))]) [0, 1, 2, 3, 4, 5, 6, 7, 9] rfl ?_
      exact j152 _ _ _ _ _ _ hv
    · have hv := hv.2 h
      refine ig_aload_n hx hb 0 d_MA_nameFits_142 rfl rfl ?_
      refine ig_get hx hb hts in_MA hown hK 0 rfl rfl 1 (by decide) (hts _ kw_0_82) (fun _ h => h) rfl d_MA_nameFits_143 ?_
      refine ig_iload hx hb 9 d_MA_nameFits_146 rfl ?_
      obtain ⟨hc, hv⟩ := hv
      refine ig_zald (x := (bI ((updB mBc s1 s0) x))) hx hb hK 1 2 rfl rfl x rfl hc (by decide) rfl d_MA_nameFits_148 ?_
      refine ig_if_eqB (tgt := 156) hx hb ((updB mBc s1 s0) x) rfl d_MA_nameFits_149 (by decide) (fun h => ?_) (fun h => ?_)
      · have hv := hv.1 h
        refine ig_iconst (v := 0) hx hb d_MA_nameFits_156 (by decide) ?_
        refine ig_istore (lv' := [(10, .int 0), (0, .ref m0), (1, .ref qt), (3, .int (nI a)), (4, .ref p0), (6, .int (nI z)), (7, .int (nI n)), (8, .int (nI b)), (9, .int (nI la)), (11, .int (nI x))]) hx hb d_MA_nameFits_157 (by decide) rfl ?_
        obtain ⟨hc, hv⟩ := hv
        refine ig_iinc (v := (nI (x - 1))) (lv' := [(11, .int (nI (x - 1))), (10, .int 0), (0, .ref m0), (1, .ref qt), (3, .int (nI a)), (4, .ref p0), (6, .int (nI z)), (7, .int (nI n)), (8, .int (nI b)), (9, .int (nI la))]) hx hb 9 d_MA_nameFits_159 rfl (ig_dec 1 hc (by decide)) (by decide) rfl ?_
        refine ig_goto (tgt := 84) hx hb d_MA_nameFits_162 (by decide) ?_
        refine ig_lv (lv' := [(0, .ref m0), (1, .ref qt), (3, .int (nI a)), (4, .ref p0), (6, .int (nI z)), (7, .int (nI n)), (8, .int (nI b)), (9, .int (nI la)), (10, .int 0), (11, .int (nI (x - 1)))]) [2, 3, 4, 5, 6, 7, 8, 9, 1, 0] rfl ?_
        rw [hK84] at hv
        exact hv
      · have hv := hv.2 h
        refine ig_lv (lv' := [(0, .ref m0), (1, .ref qt), (3, .int (nI a)), (4, .ref p0), (6, .int (nI z)), (7, .int (nI n)), (8, .int (nI b)), (9, .int (nI la)), (11, .int (nI x))]) [0, 1, 2, 3, 4, 5, 6, 7, 9] rfl ?_
        exact j152 _ _ _ _ _ _ hv
  have j135 : ∀ (z : Nat) (n : Nat) (b : Nat) (la : Nat) (so : Bool) (x : Nat) (s0 : Nat) (mBc : Nat → Bool), v_MA_nameFits_135 mB tT pB pS f a j K32 K84 (p_MA_nameFits mB tT pB pS f a j) z n b la so x s0 mBc → ig_W zp l ze ({ frames := 1, cells := 0, slots := 0, locals := 28 }) zs zm zargs zbelow zmeth zc (dC, dI) ig_cl0 zA zs.heap 12 0 0 zQ 135 [(0, .ref m0), (1, .ref qt), (3, .int (nI a)), (4, .ref p0), (6, .int (nI z)), (7, .int (nI n)), (8, .int (nI b)), (9, .int (nI la)), (10, .int (bI so)), (11, .int (nI x))] [.int (nI s0), .ref mb] [(m0, .inr (ciMA, [.ref mn, .ref mb])), (mb, .inl (cZ, 121, .inl (fun zj => bI (mBc zj)))), (qt, .inl (cC, 1000, .inl tT)), (p0, .inr (ciPA, [.ref pb, .ref ps, .int pC])), (pb, .inl (cC, 120, .inl pB)), (ps, .inl (cI, 21, .inl (fun zj => nI (pS zj))))] := by
    intro z n b la so x s0 mBc hv
    unfold v_MA_nameFits_135 at hv
    refine ig_iconst (v := 0) hx hb d_MA_nameFits_135 (by decide) ?_
    refine ig_lv (lv' := [(0, .ref m0), (1, .ref qt), (3, .int (nI a)), (4, .ref p0), (6, .int (nI z)), (7, .int (nI n)), (8, .int (nI b)), (9, .int (nI la)), (10, .int (bI so)), (11, .int (nI x))]) [0, 1, 2, 3, 4, 5, 6, 7, 8, 9] rfl ?_
    exact j136 _ _ _ _ _ _ _ _ _ hv
  have k32 : ∀ (z : Nat) (n : Nat) (b : Nat) (mBc : Nat → Bool), v_MA_nameFits_32 mB tT pB pS f a j K32 K84 (p_MA_nameFits mB tT pB pS f a j) z n b mBc → K32 z n b mBc := by
    intro z n b mBc hv
    unfold v_MA_nameFits_32 at hv
    rw [hK32]
    show ig_W zp l ze ({ frames := 1, cells := 0, slots := 0, locals := 28 }) zs zm zargs zbelow zmeth zc (dC, dI) ig_cl0 zA zs.heap 12 0 0 zQ 32 [(0, .ref m0), (1, .ref qt), (3, .int (nI a)), (4, .ref p0), (6, .int (nI z)), (7, .int (nI n)), (8, .int (nI b))] [] [(m0, .inr (ciMA, [.ref mn, .ref mb])), (mb, .inl (cZ, 121, .inl (fun zj => bI (mBc zj)))), (qt, .inl (cC, 1000, .inl tT)), (p0, .inr (ciPA, [.ref pb, .ref ps, .int pC])), (pb, .inl (cC, 120, .inl pB)), (ps, .inl (cI, 21, .inl (fun zj => nI (pS zj))))]
    refine ig_iload hx hb 6 d_MA_nameFits_32 rfl ?_
    refine ig_iload_n hx hb 2 d_MA_nameFits_34 rfl rfl ?_
    obtain ⟨h1, hv⟩ := hv
    obtain ⟨h2, hv⟩ := hv
    refine ig_icmp_geN (tgt := 189) hx hb b a rfl rfl d_MA_nameFits_35 (by decide) h1 h2 (fun h => ?_) (fun h => ?_)
    · have hv := hv.1 h
      refine ig_aload_n hx hb 0 d_MA_nameFits_189 rfl rfl ?_
      refine ig_get hx hb hts in_MA hown hK 0 rfl rfl 1 (by decide) (hts _ kw_0_82) (fun _ h => h) rfl d_MA_nameFits_190 ?_
      refine ig_iload hx hb 5 d_MA_nameFits_193 rfl ?_
      obtain ⟨hc, hv⟩ := hv
      refine ig_zald (x := (bI (mBc n))) hx hb hK 1 2 rfl rfl n rfl hc (by decide) rfl d_MA_nameFits_195 ?_
      exact hret 196 _ (bI (mBc n)) mBc d_MA_nameFits_196 ⟨mBc n, rfl, hv⟩
    · have hv := hv.2 h
      refine ig_aload_n hx hb 1 d_MA_nameFits_38 rfl rfl ?_
      refine ig_iload hx hb 6 d_MA_nameFits_39 rfl ?_
      refine ig_iload_n hx hb 2 d_MA_nameFits_41 rfl rfl ?_
      obtain ⟨hc, hv⟩ := hv
      refine ig_cSNi (As := [.ref qt, .int (nI b), .int (nI a)]) (rest := []) (wr := [(m0, .inr (ciMA, [.ref mn, .ref mb])), (mb, .inl (cZ, 121, .inl (fun zj => bI (mBc zj)))), (p0, .inr (ciPA, [.ref pb, .ref ps, .int pC])), (pb, .inl (cC, 120, .inl pB)), (ps, .inl (cI, 21, .inl (fun zj => nI (pS zj))))]) (ws' := fun u => [(m0, .inr (ciMA, [.ref mn, .ref mb])), (mb, .inl (cZ, 121, .inl (fun zj => bI (mBc zj)))), (qt, .inl (cC, 1000, .inl tT)), (p0, .inr (ciPA, [.ref pb, .ref ps, .int pC])), (pb, .inl (cC, 120, .inl pB)), (ps, .inl (cI, 21, .inl (fun zj => nI (pS zj))))]) hx hb hml hown hts hK hN hA (fun sz => c_IT_lastByte l dC dI cC cI cZ cL qt tT b a sz hc) ⟨va_cnB 3 hts g_IT_lastByte rfl rfl rfl (nk_9 hN) (hts _ kw_0_10) (by decide +kernel) (by decide), hts _ kw_0_144, trivial⟩ rfl rfl (Nat.le_of_ble_eq_true rfl) d_MA_nameFits_42 (by decide) [2] [0, 1, 3, 4, 5] [0, 1, 5, 2, 3, 4] rfl rfl (by decide) (by decide) (by decide) (fun _ => rfl) (fun _ => rfl) (fun r u hr => ?_)
      unfold p_IT_lastByte at hr
      subst hr
      refine ig_istore (lv' := [(9, .int (sp_last tT a b)), (0, .ref m0), (1, .ref qt), (3, .int (nI a)), (4, .ref p0), (6, .int (nI z)), (7, .int (nI n)), (8, .int (nI b))]) hx hb d_MA_nameFits_45 (by decide) rfl ?_
      refine ig_iload hx hb 0 d_MA_nameFits_47 rfl ?_
      refine ig_iload hx hb 7 d_MA_nameFits_49 rfl ?_
      refine ig_icmp_ge (tgt := 56) hx hb d_MA_nameFits_51 (by decide) (fun h => ?_) (fun h => ?_)
      · have hv := hv.1 h
        obtain ⟨z2, he, hv⟩ := hv
        rw [he]
        refine ig_aload_n hx hb 2 d_MA_nameFits_56 rfl rfl ?_
        refine ig_iload hx hb 7 d_MA_nameFits_57 rfl ?_
        obtain ⟨hc, hv⟩ := hv
        refine ig_cald (x := (tT b)) hx hb hK 2 0 rfl rfl b rfl hc (by decide) rfl d_MA_nameFits_59 ?_
        refine ig_bipush (v := 42) hx hb d_MA_nameFits_60 (by decide) ?_
        refine ig_icmp_ne (tgt := 77) hx hb d_MA_nameFits_62 (by decide) (fun h => ?_) (fun h => ?_)
        · have hv := hv.1 h
          refine ig_iconst (v := 0) hx hb d_MA_nameFits_77 (by decide) ?_
          refine ig_istore (lv' := [(10, .int 0), (9, .int (nI z2)), (0, .ref m0), (1, .ref qt), (3, .int (nI a)), (4, .ref p0), (6, .int (nI z)), (7, .int (nI n)), (8, .int (nI b))]) hx hb d_MA_nameFits_78 (by decide) rfl ?_
          refine ig_iload hx hb 7 d_MA_nameFits_80 rfl ?_
          refine ig_istore (lv' := [(11, .int (nI n)), (10, .int 0), (9, .int (nI z2)), (0, .ref m0), (1, .ref qt), (3, .int (nI a)), (4, .ref p0), (6, .int (nI z)), (7, .int (nI n)), (8, .int (nI b))]) hx hb d_MA_nameFits_82 (by decide) rfl ?_
          refine ig_lv (lv' := [(0, .ref m0), (1, .ref qt), (3, .int (nI a)), (4, .ref p0), (6, .int (nI z)), (7, .int (nI n)), (8, .int (nI b)), (9, .int (nI z2)), (10, .int 0), (11, .int (nI n))]) [3, 4, 5, 6, 7, 8, 9, 2, 1, 0] rfl ?_
          rw [hK84] at hv
          exact hv
        · have hv := hv.2 h
          refine ig_aload_n hx hb 1 d_MA_nameFits_65 rfl rfl ?_
          refine ig_get hx hb hts in_MA hown hK 0 rfl rfl 1 (by decide) (hts _ kw_0_82) (fun _ h => h) rfl d_MA_nameFits_66 ?_
          refine ig_iload hx hb 6 d_MA_nameFits_69 rfl ?_
          obtain ⟨hc, hv⟩ := hv
          refine ig_cSv (As := [.ref mb, .int (nI n)]) (rest := []) (wr := [(m0, .inr (ciMA, [.ref mn, .ref mb])), (qt, .inl (cC, 1000, .inl tT)), (p0, .inr (ciPA, [.ref pb, .ref ps, .int pC])), (pb, .inl (cC, 120, .inl pB)), (ps, .inl (cI, 21, .inl (fun zj => nI (pS zj))))]) (ws' := fun u => [(m0, .inr (ciMA, [.ref mn, .ref mb])), (mb, .inl (cZ, 121, .inl (fun zj => bI (u zj)))), (qt, .inl (cC, 1000, .inl tT)), (p0, .inr (ciPA, [.ref pb, .ref ps, .int pC])), (pb, .inl (cC, 120, .inl pB)), (ps, .inl (cI, 21, .inl (fun zj => nI (pS zj))))]) hx hb hml hown hts hK hN hA (fun sz => c_MA_spread l dC dI cC cI cZ cL mb mBc 121 n sz hc) ⟨callB_of 2 hts g_MA_spread rfl rfl rfl (hts _ kw_0_4) (hts _ kw_1_62) (by decide +kernel) (by decide), hts _ kw_1_63⟩ rfl rfl (Nat.le_of_ble_eq_true rfl) d_MA_nameFits_71 (by decide) [1] [0, 2, 3, 4, 5] [0, 5, 1, 2, 3, 4] rfl rfl (by decide) (by decide) (by decide) (fun _ => rfl) (fun _ => rfl) (fun u hr => ?_)
          obtain ⟨zw3, hu⟩ : ∃ z, z = u := ⟨_, rfl⟩
          subst hu
          unfold p_MA_spread at hr
          have hv := hv zw3 hr
          refine ig_goto (tgt := 179) hx hb d_MA_nameFits_74 (by decide) ?_
          refine ig_iload hx hb 0 d_MA_nameFits_179 rfl ?_
          refine ig_istore (lv' := [(8, .int (nI z2)), (9, .int (nI z2)), (0, .ref m0), (1, .ref qt), (3, .int (nI a)), (4, .ref p0), (6, .int (nI z)), (7, .int (nI n))]) hx hb d_MA_nameFits_181 (by decide) rfl ?_
          refine ig_iinc (v := (nI (z2 + 1))) (lv' := [(8, .int (nI (z2 + 1))), (9, .int (nI z2)), (0, .ref m0), (1, .ref qt), (3, .int (nI a)), (4, .ref p0), (6, .int (nI z)), (7, .int (nI n))]) hx hb 0 d_MA_nameFits_183 rfl (ig_inc z2 1 (by decide)) (by decide) rfl ?_
          refine ig_goto (tgt := 32) hx hb d_MA_nameFits_186 (by decide) ?_
          refine ig_lv (lv' := [(0, .ref m0), (1, .ref qt), (3, .int (nI a)), (4, .ref p0), (6, .int (nI z)), (7, .int (nI n)), (8, .int (nI (z2 + 1)))]) [2, 3, 4, 5, 6, 7, 0] rfl ?_
          rw [hK32] at hv
          exact hv
      · have hv := hv.2 h
        refine ig_iconst (v := 0) hx hb d_MA_nameFits_54 (by decide) ?_
        exact hret 55 _ 0 mBc d_MA_nameFits_55 ⟨false, rfl, hv⟩
  have k84 : ∀ (z : Nat) (n : Nat) (b : Nat) (la : Nat) (so : Bool) (x : Nat) (mBc : Nat → Bool), v_MA_nameFits_84 mB tT pB pS f a j K32 K84 (p_MA_nameFits mB tT pB pS f a j) z n b la so x mBc → K84 z n b la so x mBc := by
    intro z n b la so x mBc hv
    unfold v_MA_nameFits_84 at hv
    rw [hK84]
    show ig_W zp l ze ({ frames := 1, cells := 0, slots := 0, locals := 28 }) zs zm zargs zbelow zmeth zc (dC, dI) ig_cl0 zA zs.heap 12 0 0 zQ 84 [(0, .ref m0), (1, .ref qt), (3, .int (nI a)), (4, .ref p0), (6, .int (nI z)), (7, .int (nI n)), (8, .int (nI b)), (9, .int (nI la)), (10, .int (bI so)), (11, .int (nI x))] [] [(m0, .inr (ciMA, [.ref mn, .ref mb])), (mb, .inl (cZ, 121, .inl (fun zj => bI (mBc zj)))), (qt, .inl (cC, 1000, .inl tT)), (p0, .inr (ciPA, [.ref pb, .ref ps, .int pC])), (pb, .inl (cC, 120, .inl pB)), (ps, .inl (cI, 21, .inl (fun zj => nI (pS zj))))]
    refine ig_iload hx hb 9 d_MA_nameFits_84 rfl ?_
    obtain ⟨h1, hv⟩ := hv
    refine ig_if_leN (tgt := 165) hx hb x rfl d_MA_nameFits_86 (by decide) h1 (fun h => ?_) (fun h => ?_)
    · have hv := hv.1 h
      refine ig_aload_n hx hb 0 d_MA_nameFits_165 rfl rfl ?_
      refine ig_get hx hb hts in_MA hown hK 0 rfl rfl 1 (by decide) (hts _ kw_0_82) (fun _ h => h) rfl d_MA_nameFits_166 ?_
      refine ig_iconst (v := 0) hx hb d_MA_nameFits_169 (by decide) ?_
      refine ig_iconst (v := 0) hx hb d_MA_nameFits_170 (by decide) ?_
      obtain ⟨hc, hv⟩ := hv
      refine ig_zast (f' := fun zj => bI ((updB mBc 0 false) zj)) (ws' := [(m0, .inr (ciMA, [.ref mn, .ref mb])), (mb, .inl (cZ, 121, .inl (fun zj => bI ((updB mBc 0 false) zj)))), (qt, .inl (cC, 1000, .inl tT)), (p0, .inr (ciPA, [.ref pb, .ref ps, .int pC])), (pb, .inl (cC, 120, .inl pB)), (ps, .inl (cI, 21, .inl (fun zj => nI (pS zj))))]) hx hb hK 1 2 rfl rfl 0 rfl hc (by decide) (bI_nar false) (upd_B mBc 0 false) d_MA_nameFits_171 rfl ?_
      refine ig_iload hx hb 8 d_MA_nameFits_172 rfl ?_
      refine ig_if_neB (tgt := 179) hx hb so rfl d_MA_nameFits_174 (by decide) (fun h => ?_) (fun h => ?_)
      · have hv := hv.1 h
        refine ig_iload hx hb 7 d_MA_nameFits_179 rfl ?_
        refine ig_istore (lv' := [(8, .int (nI la)), (0, .ref m0), (1, .ref qt), (3, .int (nI a)), (4, .ref p0), (6, .int (nI z)), (7, .int (nI n)), (9, .int (nI la)), (10, .int (bI so)), (11, .int (nI x))]) hx hb d_MA_nameFits_181 (by decide) rfl ?_
        refine ig_iinc (v := (nI (la + 1))) (lv' := [(8, .int (nI (la + 1))), (0, .ref m0), (1, .ref qt), (3, .int (nI a)), (4, .ref p0), (6, .int (nI z)), (7, .int (nI n)), (9, .int (nI la)), (10, .int (bI so)), (11, .int (nI x))]) hx hb 0 d_MA_nameFits_183 rfl (ig_inc la 1 (by decide)) (by decide) rfl ?_
        refine ig_goto (tgt := 32) hx hb d_MA_nameFits_186 (by decide) ?_
        refine ig_lv (lv' := [(0, .ref m0), (1, .ref qt), (3, .int (nI a)), (4, .ref p0), (6, .int (nI z)), (7, .int (nI n)), (8, .int (nI (la + 1)))]) [1, 2, 3, 4, 5, 6, 0] rfl ?_
        rw [hK32] at hv
        exact hv
      · have hv := hv.2 h
        refine ig_iconst (v := 0) hx hb d_MA_nameFits_177 (by decide) ?_
        exact hret 178 _ 0 (updB mBc 0 false) d_MA_nameFits_178 ⟨false, rfl, hv⟩
    · have hv := hv.2 h
      refine ig_aload_n hx hb 0 d_MA_nameFits_89 rfl rfl ?_
      refine ig_get hx hb hts in_MA hown hK 0 rfl rfl 1 (by decide) (hts _ kw_0_82) (fun _ h => h) rfl d_MA_nameFits_90 ?_
      refine ig_iload hx hb 9 d_MA_nameFits_93 rfl ?_
      refine ig_aload_n hx hb 0 d_MA_nameFits_95 rfl rfl ?_
      refine ig_get hx hb hts in_MA hown hK 0 rfl rfl 1 (by decide) (hts _ kw_0_82) (fun _ h => h) rfl d_MA_nameFits_96 ?_
      refine ig_iload hx hb 9 d_MA_nameFits_99 rfl ?_
      refine ig_iconst (v := 1) hx hb d_MA_nameFits_101 (by decide) ?_
      obtain ⟨hc, hv⟩ := hv
      refine ig_isubN hx hb x 1 rfl rfl hc d_MA_nameFits_102 ?_
      obtain ⟨hc, hv⟩ := hv
      refine ig_zald (x := (bI (mBc (x - 1)))) hx hb hK 1 2 rfl rfl (x - 1) rfl hc (by decide) rfl d_MA_nameFits_103 ?_
      refine ig_if_eqB (tgt := 135) hx hb (mBc (x - 1)) rfl d_MA_nameFits_104 (by decide) (fun h => ?_) (fun h => ?_)
      · have hv := hv.1 h
        refine ig_lv (lv' := [(0, .ref m0), (1, .ref qt), (3, .int (nI a)), (4, .ref p0), (6, .int (nI z)), (7, .int (nI n)), (8, .int (nI b)), (9, .int (nI la)), (10, .int (bI so)), (11, .int (nI x))]) [0, 1, 2, 3, 4, 5, 6, 7, 8, 9] rfl ?_
        exact j135 _ _ _ _ _ _ _ _ hv
      · have hv := hv.2 h
        refine ig_aload_n hx hb 1 d_MA_nameFits_107 rfl rfl ?_
        refine ig_iload hx hb 6 d_MA_nameFits_108 rfl ?_
        refine ig_iload hx hb 7 d_MA_nameFits_110 rfl ?_
        refine ig_aload hx hb 3 d_MA_nameFits_112 rfl ?_
        refine ig_getN hx hb hts in_PA hown hK 3 rfl rfl 0 (by decide) (va_Nw.use rfl (fk_8 hN)) (fun _ h => h) rfl d_MA_nameFits_114 ?_
        refine ig_iload hx hb 4 d_MA_nameFits_117 rfl ?_
        refine ig_iload hx hb 9 d_MA_nameFits_119 rfl ?_
        refine ig_iaddN hx hb z x rfl rfl d_MA_nameFits_121 ?_
        refine ig_iconst (v := 1) hx hb d_MA_nameFits_122 (by decide) ?_
        obtain ⟨hc, hv⟩ := hv
        refine ig_isubN hx hb (z + x) 1 rfl rfl hc d_MA_nameFits_123 ?_
        obtain ⟨hc, hv⟩ := hv
        refine ig_cald (x := (pB ((z + x) - 1))) hx hb hK 4 0 rfl rfl ((z + x) - 1) rfl hc (by decide) rfl d_MA_nameFits_124 ?_
        obtain ⟨hc, hv⟩ := hv
        refine ig_cSNi (As := [.ref qt, .int (nI b), .int (nI la), .int (pB ((z + x) - 1))]) (rest := [.int (nI x), .ref mb]) (wr := [(m0, .inr (ciMA, [.ref mn, .ref mb])), (mb, .inl (cZ, 121, .inl (fun zj => bI (mBc zj)))), (p0, .inr (ciPA, [.ref pb, .ref ps, .int pC])), (pb, .inl (cC, 120, .inl pB)), (ps, .inl (cI, 21, .inl (fun zj => nI (pS zj))))]) (ws' := fun u => [(m0, .inr (ciMA, [.ref mn, .ref mb])), (mb, .inl (cZ, 121, .inl (fun zj => bI (mBc zj)))), (qt, .inl (cC, 1000, .inl tT)), (p0, .inr (ciPA, [.ref pb, .ref ps, .int pC])), (pb, .inl (cC, 120, .inl pB)), (ps, .inl (cI, 21, .inl (fun zj => nI (pS zj))))]) hx hb hml hown hts hK hN hA (fun sz => c_IT_take l dC dI cC cI cZ cL qt tT b la (pB ((z + x) - 1)) a sz hc) ⟨va_cnB 4 hts g_IT_take rfl rfl rfl (nk_10 hN) (hts _ kw_0_10) (by decide +kernel) (by decide), hts _ kw_1_79, trivial⟩ rfl rfl (Nat.le_of_ble_eq_true rfl) d_MA_nameFits_125 (by decide) [2] [0, 1, 3, 4, 5] [0, 1, 5, 2, 3, 4] rfl rfl (by decide) (by decide) (by decide) (fun _ => rfl) (fun _ => rfl) (fun r u hr => ?_)
        obtain ⟨rr, rfl, hr⟩ := hr
        unfold p_IT_take at hr
        subst hr
        refine ig_if_eqB (tgt := 135) hx hb (sp_take tT a b (pB ((z + x) - 1))) rfl d_MA_nameFits_128 (by decide) (fun h => ?_) (fun h => ?_)
        · have hv := hv.1 h
          refine ig_lv (lv' := [(0, .ref m0), (1, .ref qt), (3, .int (nI a)), (4, .ref p0), (6, .int (nI z)), (7, .int (nI n)), (8, .int (nI b)), (9, .int (nI la)), (10, .int (bI so)), (11, .int (nI x))]) [0, 1, 2, 3, 4, 5, 6, 7, 8, 9] rfl ?_
          exact j135 _ _ _ _ _ _ _ _ hv
        · have hv := hv.2 h
          refine ig_iconst (v := 1) hx hb d_MA_nameFits_131 (by decide) ?_
          refine ig_goto (tgt := 136) hx hb d_MA_nameFits_132 (by decide) ?_
          refine ig_lv (lv' := [(0, .ref m0), (1, .ref qt), (3, .int (nI a)), (4, .ref p0), (6, .int (nI z)), (7, .int (nI n)), (8, .int (nI b)), (9, .int (nI la)), (10, .int (bI so)), (11, .int (nI x))]) [0, 1, 2, 3, 4, 5, 6, 7, 8, 9] rfl ?_
          exact j136 _ _ _ _ _ _ _ _ _ hv
  have hv := t_MA_nameFits mB tT pB pS f a j hr K32 K84 k32 k84
  unfold v_MA_nameFits at hv
  refine ig_aload hx hb 4 d_MA_nameFits_0 rfl ?_
  refine ig_getN hx hb hts in_PA hown hK 3 rfl rfl 1 (by decide) (va_Nw.use rfl (fk_9 hN)) (fun _ h => h) rfl d_MA_nameFits_2 ?_
  refine ig_iload hx hb 5 d_MA_nameFits_5 rfl ?_
  obtain ⟨hc, hv⟩ := hv
  refine ig_iald (x := (nI (pS j))) hx hb hK 5 1 rfl rfl j rfl hc (by decide) rfl d_MA_nameFits_7 ?_
  refine ig_istore (lv' := [(6, .int (nI (pS j))), (0, .ref m0), (1, .ref qt), (2, .int (nI f)), (3, .int (nI a)), (4, .ref p0), (5, .int (nI j))]) hx hb d_MA_nameFits_8 (by decide) rfl ?_
  refine ig_aload hx hb 5 d_MA_nameFits_10 rfl ?_
  refine ig_iload hx hb 6 d_MA_nameFits_12 rfl ?_
  obtain ⟨hc, hv⟩ := hv
  refine ig_cVNi (As := [.int (nI j)]) (rest := []) (wr := [(m0, .inr (ciMA, [.ref mn, .ref mb])), (mb, .inl (cZ, 121, .inl (fun zj => bI (mB zj)))), (qt, .inl (cC, 1000, .inl tT)), (pb, .inl (cC, 120, .inl pB))]) (ws' := fun u => [(m0, .inr (ciMA, [.ref mn, .ref mb])), (mb, .inl (cZ, 121, .inl (fun zj => bI (mB zj)))), (qt, .inl (cC, 1000, .inl tT)), (p0, .inr (ciPA, [.ref pb, .ref ps, .int pC])), (pb, .inl (cC, 120, .inl pB)), (ps, .inl (cI, 21, .inl (fun zj => nI (pS zj))))]) hx hb hml hown hts hK hN hA (fun sz => c_PA_lengthOf l dC dI cC cI cZ cL p0 pb ps pC pS j sz hc) ⟨va_cnB 1 hts g_PA_lengthOf rfl rfl rfl (nk_8 hN) (hts _ kw_0_3) (by decide +kernel) (by decide), (hts _ kw_1_75), (hts _ ks_PA_lengthOf)⟩ rfl rfl (Nat.le_of_ble_eq_true rfl) d_MA_nameFits_14 (by decide) 0 rfl rfl [3, 5] [0, 1, 2, 4] [0, 1, 2, 4, 3, 5] rfl rfl (by decide) (by decide) (by decide) (fun _ => rfl) (fun _ => rfl) (fun r u hr => ?_)
  obtain ⟨rr, rfl, hr⟩ := hr
  unfold p_PA_lengthOf at hr
  subst hr
  refine ig_istore (lv' := [(7, .int (nI (pS (j + 1) - 1 - pS j))), (6, .int (nI (pS j))), (0, .ref m0), (1, .ref qt), (2, .int (nI f)), (3, .int (nI a)), (4, .ref p0), (5, .int (nI j))]) hx hb d_MA_nameFits_17 (by decide) rfl ?_
  refine ig_aload_n hx hb 2 d_MA_nameFits_19 rfl rfl ?_
  refine ig_get hx hb hts in_MA hown hK 0 rfl rfl 1 (by decide) (hts _ kw_0_82) (fun _ h => h) rfl d_MA_nameFits_20 ?_
  refine ig_iload hx hb 0 d_MA_nameFits_23 rfl ?_
  refine ig_iconst (v := 0) hx hb d_MA_nameFits_25 (by decide) ?_
  obtain ⟨hc, hv⟩ := hv
  refine ig_cSv (As := [.ref mb, .int (nI (pS (j + 1) - 1 - pS j)), .int 0]) (rest := []) (wr := [(m0, .inr (ciMA, [.ref mn, .ref mb])), (qt, .inl (cC, 1000, .inl tT)), (p0, .inr (ciPA, [.ref pb, .ref ps, .int pC])), (pb, .inl (cC, 120, .inl pB)), (ps, .inl (cI, 21, .inl (fun zj => nI (pS zj))))]) (ws' := fun u => [(m0, .inr (ciMA, [.ref mn, .ref mb])), (mb, .inl (cZ, 121, .inl (fun zj => bI (u zj)))), (qt, .inl (cC, 1000, .inl tT)), (p0, .inr (ciPA, [.ref pb, .ref ps, .int pC])), (pb, .inl (cC, 120, .inl pB)), (ps, .inl (cI, 21, .inl (fun zj => nI (pS zj))))]) hx hb hml hown hts hK hN hA (fun sz => c_MA_startRow l dC dI cC cI cZ cL mb mB 121 (pS (j + 1) - 1 - pS j) 0 sz hc) ⟨callB_of 3 hts g_MA_startRow rfl rfl rfl (hts _ kw_0_4) (hts _ kw_1_56) (by decide +kernel) (by decide), hts _ kw_1_57⟩ rfl rfl (Nat.le_of_ble_eq_true rfl) d_MA_nameFits_26 (by decide) [1] [0, 2, 3, 4, 5] [0, 5, 1, 2, 3, 4] rfl rfl (by decide) (by decide) (by decide) (fun _ => rfl) (fun _ => rfl) (fun u hr => ?_)
  obtain ⟨zw1, hu⟩ : ∃ z, z = u := ⟨_, rfl⟩
  subst hu
  unfold p_MA_startRow at hr
  have hv := hv zw1 hr
  refine ig_iload_n hx hb 4 d_MA_nameFits_29 rfl rfl ?_
  refine ig_istore (lv' := [(8, .int (nI f)), (7, .int (nI (pS (j + 1) - 1 - pS j))), (6, .int (nI (pS j))), (0, .ref m0), (1, .ref qt), (2, .int (nI f)), (3, .int (nI a)), (4, .ref p0), (5, .int (nI j))]) hx hb d_MA_nameFits_30 (by decide) rfl ?_
  refine ig_lv (lv' := [(0, .ref m0), (1, .ref qt), (3, .int (nI a)), (4, .ref p0), (6, .int (nI (pS j))), (7, .int (nI (pS (j + 1) - 1 - pS j))), (8, .int (nI f))]) [3, 4, 6, 7, 2, 1, 0] rfl ?_
  rw [hK32] at hv
  exact hv
theorem d_MA_takeName_0 : decode b_MA_takeName 0 = .ok (.iload 6, 2) := by decide +kernel
theorem d_MA_takeName_2 : decode b_MA_takeName 2 = .ok (.ifCond .eq 8, 3) := by decide +kernel
theorem d_MA_takeName_5 : decode b_MA_takeName 5 = .ok (.iload 5, 2) := by decide +kernel
theorem d_MA_takeName_7 : decode b_MA_takeName 7 = .ok (.goto 4, 3) := by decide +kernel
theorem d_MA_takeName_10 : decode b_MA_takeName 10 = .ok (.iconst 1, 1) := by decide +kernel
theorem d_MA_takeName_11 : decode b_MA_takeName 11 = .ok (.istore 7, 2) := by decide +kernel
theorem d_MA_takeName_13 : decode b_MA_takeName 13 = .ok (.iload 5, 2) := by decide +kernel
theorem d_MA_takeName_15 : decode b_MA_takeName 15 = .ok (.istore 8, 2) := by decide +kernel
theorem d_MA_takeName_17 : decode b_MA_takeName 17 = .ok (.iload 8, 2) := by decide +kernel
theorem d_MA_takeName_19 : decode b_MA_takeName 19 = .ok (.iload 7, 2) := by decide +kernel
theorem d_MA_takeName_21 : decode b_MA_takeName 21 = .ok (.if_icmp .lt 49, 3) := by decide +kernel
theorem d_MA_takeName_24 : decode b_MA_takeName 24 = .ok (.aload_n 0, 1) := by decide +kernel
theorem d_MA_takeName_25 : decode b_MA_takeName 25 = .ok (.getfield 9, 3) := by decide +kernel
theorem d_MA_takeName_28 : decode b_MA_takeName 28 = .ok (.iload 8, 2) := by decide +kernel
theorem d_MA_takeName_30 : decode b_MA_takeName 30 = .ok (.aload_n 0, 1) := by decide +kernel
theorem d_MA_takeName_31 : decode b_MA_takeName 31 = .ok (.getfield 9, 3) := by decide +kernel
theorem d_MA_takeName_34 : decode b_MA_takeName 34 = .ok (.iload 8, 2) := by decide +kernel
theorem d_MA_takeName_36 : decode b_MA_takeName 36 = .ok (.iconst 1, 1) := by decide +kernel
theorem d_MA_takeName_37 : decode b_MA_takeName 37 = .ok (.isub, 1) := by decide +kernel
theorem d_MA_takeName_38 : decode b_MA_takeName 38 = .ok (.baload, 1) := by decide +kernel
theorem d_MA_takeName_39 : decode b_MA_takeName 39 = .ok (.ifCond .eq 23, 3) := by decide +kernel
theorem d_MA_takeName_42 : decode b_MA_takeName 42 = .ok (.aload_n 0, 1) := by decide +kernel
theorem d_MA_takeName_43 : decode b_MA_takeName 43 = .ok (.aload_n 1, 1) := by decide +kernel
theorem d_MA_takeName_44 : decode b_MA_takeName 44 = .ok (.iload_n 2, 1) := by decide +kernel
theorem d_MA_takeName_45 : decode b_MA_takeName 45 = .ok (.iload_n 3, 1) := by decide +kernel
theorem d_MA_takeName_46 : decode b_MA_takeName 46 = .ok (.aload 4, 2) := by decide +kernel
theorem d_MA_takeName_48 : decode b_MA_takeName 48 = .ok (.iload 8, 2) := by decide +kernel
theorem d_MA_takeName_50 : decode b_MA_takeName 50 = .ok (.iconst 1, 1) := by decide +kernel
theorem d_MA_takeName_51 : decode b_MA_takeName 51 = .ok (.isub, 1) := by decide +kernel
theorem d_MA_takeName_52 : decode b_MA_takeName 52 = .ok (.invokevirtual 50, 3) := by decide +kernel
theorem d_MA_takeName_55 : decode b_MA_takeName 55 = .ok (.ifCond .eq 7, 3) := by decide +kernel
theorem d_MA_takeName_58 : decode b_MA_takeName 58 = .ok (.iconst 1, 1) := by decide +kernel
theorem d_MA_takeName_59 : decode b_MA_takeName 59 = .ok (.goto 4, 3) := by decide +kernel
theorem d_MA_takeName_62 : decode b_MA_takeName 62 = .ok (.iconst 0, 1) := by decide +kernel
theorem d_MA_takeName_63 : decode b_MA_takeName 63 = .ok (.bastore, 1) := by decide +kernel
theorem d_MA_takeName_64 : decode b_MA_takeName 64 = .ok (.iinc 8 (-1), 3) := by decide +kernel
theorem d_MA_takeName_67 : decode b_MA_takeName 67 = .ok (.goto (-50), 3) := by decide +kernel
theorem d_MA_takeName_70 : decode b_MA_takeName 70 = .ok (.aload_n 0, 1) := by decide +kernel
theorem d_MA_takeName_71 : decode b_MA_takeName 71 = .ok (.getfield 9, 3) := by decide +kernel
theorem d_MA_takeName_74 : decode b_MA_takeName 74 = .ok (.iconst 0, 1) := by decide +kernel
theorem d_MA_takeName_75 : decode b_MA_takeName 75 = .ok (.iconst 0, 1) := by decide +kernel
theorem d_MA_takeName_76 : decode b_MA_takeName 76 = .ok (.bastore, 1) := by decide +kernel
theorem d_MA_takeName_77 : decode b_MA_takeName 77 = .ok (.return_, 1) := by decide +kernel
abbrev w_MA_takeName : List Cond := Cond.code y_MA_takeName b_MA_takeName 9 none :: ig_T
theorem g_MA_takeName : GoodIn ig_T w_MA_takeName := ig_T_good (ig_T_mem (List.mem_append_right _ (List.mem_append_left _ (List.mem_of_getElem? (i := 68) rfl))) rfl)
set_option maxHeartbeats 4000000 in
set_option maxRecDepth 100000 in
theorem c_MA_takeName (l : Launch) (dC : Nat → ClassId) (dI : Nat → Nat → Nat) (cC cI cZ cL : ClassId) (m0 mn mb qt p0 pb ps : Nat) (pC : Int32) (mN : Nat → Bool) (mB : Nat → Bool) (tT : Nat → Int32) (pB : Nat → Int32) (pS : Nat → Nat) (f : Nat) (a : Nat) (n : Nat) (la : Bool) (sz : Nat) (hr : r_MA_takeName mN mB tT pB pS f a n la) : Met l y_MA_takeName w_MA_takeName ({ frames := 2, cells := 0, slots := 0, locals := 59 }) (ig_Pc (dC, dI) ig_cl0 [(cC, .char), (cI, .int), (cZ, .boolean), (cL, .long)] [.ref m0, .ref qt, .int (nI f), .int (nI a), .ref p0, .int (nI n), .int (bI la)] [(m0, .inr (ciMA, [.ref mn, .ref mb])), (mn, .inl (cZ, 21, .inl (fun zj => bI (mN zj)))), (mb, .inl (cZ, 121, .inl (fun zj => bI (mB zj)))), (qt, .inl (cC, 1000, .inl tT)), (p0, .inr (ciPA, [.ref pb, .ref ps, .int pC])), (pb, .inl (cC, 120, .inl pB)), (ps, .inl (cI, 21, .inl (fun zj => nI (pS zj))))] sz) (va_Qv (fun (u : (Nat → Bool) × (Nat → Bool)) => p_MA_takeName mN mB tT pB pS f a n la u.1 u.2) (fun u t => va_P (dC, dI) ig_cl0 ((fun (u : (Nat → Bool) × (Nat → Bool)) => [(m0, .inr (ciMA, [.ref mn, .ref mb])), (mn, .inl (cZ, 21, .inl (fun zj => bI (u.1 zj)))), (mb, .inl (cZ, 121, .inl (fun zj => bI (u.2 zj)))), (qt, .inl (cC, 1000, .inl tT)), (p0, .inr (ciPA, [.ref pb, .ref ps, .int pC])), (pb, .inl (cC, 120, .inl pB)), (ps, .inl (cI, 21, .inl (fun zj => nI (pS zj))))]) u) t.heap ∧ va_D (va_A [(m0, .inr (ciMA, [.ref mn, .ref mb])), (mn, .inl (cZ, 21, .inl (fun zj => bI (mN zj)))), (mb, .inl (cZ, 121, .inl (fun zj => bI (mB zj)))), (qt, .inl (cC, 1000, .inl tT)), (p0, .inr (ciPA, [.ref pb, .ref ps, .int pC])), (pb, .inl (cC, 120, .inl pB)), (ps, .inl (cI, 21, .inl (fun zj => nI (pS zj))))] sz) ((fun (u : (Nat → Bool) × (Nat → Bool)) => [(m0, .inr (ciMA, [.ref mn, .ref mb])), (mn, .inl (cZ, 21, .inl (fun zj => bI (u.1 zj)))), (mb, .inl (cZ, 121, .inl (fun zj => bI (u.2 zj)))), (qt, .inl (cC, 1000, .inl tT)), (p0, .inr (ciPA, [.ref pb, .ref ps, .int pC])), (pb, .inl (cC, 120, .inl pB)), (ps, .inl (cI, 21, .inl (fun zj => nI (pS zj))))]) u)) (va_A [(m0, .inr (ciMA, [.ref mn, .ref mb])), (mn, .inl (cZ, 21, .inl (fun zj => bI (mN zj)))), (mb, .inl (cZ, 121, .inl (fun zj => bI (mB zj)))), (qt, .inl (cC, 1000, .inl tT)), (p0, .inr (ciPA, [.ref pb, .ref ps, .int pC])), (pb, .inl (cC, 120, .inl pB)), (ps, .inl (cI, 21, .inl (fun zj => nI (pS zj))))] sz)) 0 0 (va_A [(m0, .inr (ciMA, [.ref mn, .ref mb])), (mn, .inl (cZ, 21, .inl (fun zj => bI (mN zj)))), (mb, .inl (cZ, 121, .inl (fun zj => bI (mB zj)))), (qt, .inl (cC, 1000, .inl tT)), (p0, .inr (ciPA, [.ref pb, .ref ps, .int pC])), (pb, .inl (cC, 120, .inl pB)), (ps, .inl (cI, 21, .inl (fun zj => nI (pS zj))))] sz) := by
  refine ig_metV (fun (u : (Nat → Bool) × (Nat → Bool)) => p_MA_takeName mN mB tT pB pS f a n la u.1 u.2) (fun (u : (Nat → Bool) × (Nat → Bool)) => [(m0, .inr (ciMA, [.ref mn, .ref mb])), (mn, .inl (cZ, 21, .inl (fun zj => bI (u.1 zj)))), (mb, .inl (cZ, 121, .inl (fun zj => bI (u.2 zj)))), (qt, .inl (cC, 1000, .inl tT)), (p0, .inr (ciPA, [.ref pb, .ref ps, .int pC])), (pb, .inl (cC, 120, .inl pB)), (ps, .inl (cI, 21, .inl (fun zj => nI (pS zj))))]) (by decide) rfl (Nat.le_of_ble_eq_true rfl) rfl ?_
  intro zp ze zs zm zargs zbelow zmeth zc zA zQ hx hb hml hown hts hK hN hA hret
  obtain ⟨K17, hK17⟩ : ∃ K : Nat → Nat → (Nat → Bool) → (Nat → Bool) → Prop, K = fun (w : Nat) (x : Nat) (mNc : Nat → Bool) (mBc : Nat → Bool) => ig_W zp l ze ({ frames := 2, cells := 0, slots := 0, locals := 59 }) zs zm zargs zbelow zmeth zc (dC, dI) ig_cl0 zA zs.heap 9 0 0 zQ 17 [(0, .ref m0), (1, .ref qt), (2, .int (nI f)), (3, .int (nI a)), (4, .ref p0), (7, .int (nI w)), (8, .int (nI x))] [] [(m0, .inr (ciMA, [.ref mn, .ref mb])), (mn, .inl (cZ, 21, .inl (fun zj => bI (mNc zj)))), (mb, .inl (cZ, 121, .inl (fun zj => bI (mBc zj)))), (qt, .inl (cC, 1000, .inl tT)), (p0, .inr (ciPA, [.ref pb, .ref ps, .int pC])), (pb, .inl (cC, 120, .inl pB)), (ps, .inl (cI, 21, .inl (fun zj => nI (pS zj))))] := ⟨_, rfl⟩
  have j63 : ∀ (w : Nat) (x : Nat) (s0 : Bool) (s1 : Nat) (mNc : Nat → Bool) (mBc : Nat → Bool), v_MA_takeName_63 mN mB tT pB pS f a n la K17 (p_MA_takeName mN mB tT pB pS f a n la) w x s0 s1 mNc mBc → ig_W zp l ze ({ frames := 2, cells := 0, slots := 0, locals := 59 }) zs zm zargs zbelow zmeth zc (dC, dI) ig_cl0 zA zs.heap 9 0 0 zQ 63 [(0, .ref m0), (1, .ref qt), (2, .int (nI f)), (3, .int (nI a)), (4, .ref p0), (7, .int (nI w)), (8, .int (nI x))] [.int (bI s0), .int (nI s1), .ref mn] [(m0, .inr (ciMA, [.ref mn, .ref mb])), (mn, .inl (cZ, 21, .inl (fun zj => bI (mNc zj)))), (mb, .inl (cZ, 121, .inl (fun zj => bI (mBc zj)))), (qt, .inl (cC, 1000, .inl tT)), (p0, .inr (ciPA, [.ref pb, .ref ps, .int pC])), (pb, .inl (cC, 120, .inl pB)), (ps, .inl (cI, 21, .inl (fun zj => nI (pS zj))))] := by
    intro w x s0 s1 mNc mBc hv
    unfold v_MA_takeName_63 at hv
    obtain ⟨hc, hv⟩ := hv
    refine ig_zast (f' := fun zj => bI ((updB mNc s1 s0) zj)) (ws' := [(m0, .inr (ciMA, [.ref mn, .ref mb])), (mn, .inl (cZ, 21, .inl (fun zj => bI ((updB mNc s1 s0) zj)))), (mb, .inl (cZ, 121, .inl (fun zj => bI (mBc zj)))), (qt, .inl (cC, 1000, .inl tT)), (p0, .inr (ciPA, [.ref pb, .ref ps, .int pC])), (pb, .inl (cC, 120, .inl pB)), (ps, .inl (cI, 21, .inl (fun zj => nI (pS zj))))]) hx hb hK 1 2 rfl rfl s1 rfl hc (by decide) (bI_nar s0) (upd_B mNc s1 s0) d_MA_takeName_63 rfl ?_
    obtain ⟨hc, hv⟩ := hv
    refine ig_iinc (v := (nI (x - 1))) (lv' := [(8, .int (nI (x - 1))), (0, .ref m0), (1, .ref qt), (2, .int (nI f)), (3, .int (nI a)), (4, .ref p0), (7, .int (nI w))]) hx hb 6 d_MA_takeName_64 rfl (ig_dec 1 hc (by decide)) (by decide) rfl ?_
    refine ig_goto (tgt := 17) hx hb d_MA_takeName_67 (by decide) ?_
    refine ig_lv (lv' := [(0, .ref m0), (1, .ref qt), (2, .int (nI f)), (3, .int (nI a)), (4, .ref p0), (7, .int (nI w)), (8, .int (nI (x - 1)))]) [1, 2, 3, 4, 5, 6, 0] rfl ?_
    rw [hK17] at hv
    exact hv
  have j62 : ∀ (w : Nat) (x : Nat) (s0 : Nat) (mNc : Nat → Bool) (mBc : Nat → Bool), v_MA_takeName_62 mN mB tT pB pS f a n la K17 (p_MA_takeName mN mB tT pB pS f a n la) w x s0 mNc mBc → ig_W zp l ze ({ frames := 2, cells := 0, slots := 0, locals := 59 }) zs zm zargs zbelow zmeth zc (dC, dI) ig_cl0 zA zs.heap 9 0 0 zQ 62 [(0, .ref m0), (1, .ref qt), (2, .int (nI f)), (3, .int (nI a)), (4, .ref p0), (7, .int (nI w)), (8, .int (nI x))] [.int (nI s0), .ref mn] [(m0, .inr (ciMA, [.ref mn, .ref mb])), (mn, .inl (cZ, 21, .inl (fun zj => bI (mNc zj)))), (mb, .inl (cZ, 121, .inl (fun zj => bI (mBc zj)))), (qt, .inl (cC, 1000, .inl tT)), (p0, .inr (ciPA, [.ref pb, .ref ps, .int pC])), (pb, .inl (cC, 120, .inl pB)), (ps, .inl (cI, 21, .inl (fun zj => nI (pS zj))))] := by
    intro w x s0 mNc mBc hv
    unfold v_MA_takeName_62 at hv
    refine ig_iconst (v := 0) hx hb d_MA_takeName_62 (by decide) ?_
    refine ig_lv (lv' := [(0, .ref m0), (1, .ref qt), (2, .int (nI f)), (3, .int (nI a)), (4, .ref p0), (7, .int (nI w)), (8, .int (nI x))]) [0, 1, 2, 3, 4, 5, 6] rfl ?_
    exact j63 _ _ _ _ _ _ hv
  have k17 : ∀ (w : Nat) (x : Nat) (mNc : Nat → Bool) (mBc : Nat → Bool), v_MA_takeName_17 mN mB tT pB pS f a n la K17 (p_MA_takeName mN mB tT pB pS f a n la) w x mNc mBc → K17 w x mNc mBc := by
    intro w x mNc mBc hv
    unfold v_MA_takeName_17 at hv
    rw [hK17]
    show ig_W zp l ze ({ frames := 2, cells := 0, slots := 0, locals := 59 }) zs zm zargs zbelow zmeth zc (dC, dI) ig_cl0 zA zs.heap 9 0 0 zQ 17 [(0, .ref m0), (1, .ref qt), (2, .int (nI f)), (3, .int (nI a)), (4, .ref p0), (7, .int (nI w)), (8, .int (nI x))] [] [(m0, .inr (ciMA, [.ref mn, .ref mb])), (mn, .inl (cZ, 21, .inl (fun zj => bI (mNc zj)))), (mb, .inl (cZ, 121, .inl (fun zj => bI (mBc zj)))), (qt, .inl (cC, 1000, .inl tT)), (p0, .inr (ciPA, [.ref pb, .ref ps, .int pC])), (pb, .inl (cC, 120, .inl pB)), (ps, .inl (cI, 21, .inl (fun zj => nI (pS zj))))]
    refine ig_iload hx hb 6 d_MA_takeName_17 rfl ?_
    refine ig_iload hx hb 5 d_MA_takeName_19 rfl ?_
    obtain ⟨h1, hv⟩ := hv
    obtain ⟨h2, hv⟩ := hv
    refine ig_icmp_ltN (tgt := 70) hx hb x w rfl rfl d_MA_takeName_21 (by decide) h1 h2 (fun h => ?_) (fun h => ?_)
    · have hv := hv.1 h
      refine ig_aload_n hx hb 0 d_MA_takeName_70 rfl rfl ?_
      refine ig_get hx hb hts in_MA hown hK 0 rfl rfl 0 (by decide) (hts _ kw_0_81) (fun _ h => h) rfl d_MA_takeName_71 ?_
      refine ig_iconst (v := 0) hx hb d_MA_takeName_74 (by decide) ?_
      refine ig_iconst (v := 0) hx hb d_MA_takeName_75 (by decide) ?_
      obtain ⟨hc, hv⟩ := hv
      refine ig_zast (f' := fun zj => bI ((updB mNc 0 false) zj)) (ws' := [(m0, .inr (ciMA, [.ref mn, .ref mb])), (mn, .inl (cZ, 21, .inl (fun zj => bI ((updB mNc 0 false) zj)))), (mb, .inl (cZ, 121, .inl (fun zj => bI (mBc zj)))), (qt, .inl (cC, 1000, .inl tT)), (p0, .inr (ciPA, [.ref pb, .ref ps, .int pC])), (pb, .inl (cC, 120, .inl pB)), (ps, .inl (cI, 21, .inl (fun zj => nI (pS zj))))]) hx hb hK 1 2 rfl rfl 0 rfl hc (by decide) (bI_nar false) (upd_B mNc 0 false) d_MA_takeName_76 rfl ?_
      exact hret 77 _ (updB mNc 0 false, mBc) d_MA_takeName_77 hv
    · have hv := hv.2 h
      refine ig_aload_n hx hb 0 d_MA_takeName_24 rfl rfl ?_
      refine ig_get hx hb hts in_MA hown hK 0 rfl rfl 0 (by decide) (hts _ kw_0_81) (fun _ h => h) rfl d_MA_takeName_25 ?_
      refine ig_iload hx hb 6 d_MA_takeName_28 rfl ?_
      refine ig_aload_n hx hb 0 d_MA_takeName_30 rfl rfl ?_
      refine ig_get hx hb hts in_MA hown hK 0 rfl rfl 0 (by decide) (hts _ kw_0_81) (fun _ h => h) rfl d_MA_takeName_31 ?_
      refine ig_iload hx hb 6 d_MA_takeName_34 rfl ?_
      refine ig_iconst (v := 1) hx hb d_MA_takeName_36 (by decide) ?_
      obtain ⟨hc, hv⟩ := hv
      refine ig_isubN hx hb x 1 rfl rfl hc d_MA_takeName_37 ?_
      obtain ⟨hc, hv⟩ := hv
      refine ig_zald (x := (bI (mNc (x - 1)))) hx hb hK 1 2 rfl rfl (x - 1) rfl hc (by decide) rfl d_MA_takeName_38 ?_
      refine ig_if_eqB (tgt := 62) hx hb (mNc (x - 1)) rfl d_MA_takeName_39 (by decide) (fun h => ?_) (fun h => ?_)
      · have hv := hv.1 h
        refine ig_lv (lv' := [(0, .ref m0), (1, .ref qt), (2, .int (nI f)), (3, .int (nI a)), (4, .ref p0), (7, .int (nI w)), (8, .int (nI x))]) [0, 1, 2, 3, 4, 5, 6] rfl ?_
        exact j62 _ _ _ _ _ hv
      · have hv := hv.2 h
        refine ig_aload_n hx hb 0 d_MA_takeName_42 rfl rfl ?_
        refine ig_aload_n hx hb 1 d_MA_takeName_43 rfl rfl ?_
        refine ig_iload_n hx hb 2 d_MA_takeName_44 rfl rfl ?_
        refine ig_iload_n hx hb 3 d_MA_takeName_45 rfl rfl ?_
        refine ig_aload hx hb 4 d_MA_takeName_46 rfl ?_
        refine ig_iload hx hb 6 d_MA_takeName_48 rfl ?_
        refine ig_iconst (v := 1) hx hb d_MA_takeName_50 (by decide) ?_
        obtain ⟨hc, hv⟩ := hv
        refine ig_isubN hx hb x 1 rfl rfl hc d_MA_takeName_51 ?_
        obtain ⟨hc, hv⟩ := hv
        refine ig_cVi (As := [.ref qt, .int (nI f), .int (nI a), .ref p0, .int (nI (x - 1))]) (rest := [.int (nI x), .ref mn]) (wr := [(mn, .inl (cZ, 21, .inl (fun zj => bI (mNc zj))))]) (ws' := fun u => [(m0, .inr (ciMA, [.ref mn, .ref mb])), (mn, .inl (cZ, 21, .inl (fun zj => bI (mNc zj)))), (mb, .inl (cZ, 121, .inl (fun zj => bI (u zj)))), (qt, .inl (cC, 1000, .inl tT)), (p0, .inr (ciPA, [.ref pb, .ref ps, .int pC])), (pb, .inl (cC, 120, .inl pB)), (ps, .inl (cI, 21, .inl (fun zj => nI (pS zj))))]) hx hb hml hown hts hK hN hA (fun sz => c_MA_nameFits l dC dI cC cI cZ cL m0 mn mb qt p0 pb ps pC mBc tT pB pS f a (x - 1) sz hc) ⟨callB_of 5 hts g_MA_nameFits rfl rfl rfl (hts _ kw_0_4) (hts _ kw_1_69) (by decide +kernel) (by decide), (hts _ kw_1_71), (hts _ ks_MA_nameFits)⟩ rfl rfl (Nat.le_of_ble_eq_true rfl) d_MA_takeName_52 (by decide) 0 rfl rfl [0, 2, 3, 4, 5, 6] [1] [1, 0, 2, 3, 4, 5, 6] rfl rfl (by decide) (by decide) (by decide) (fun _ => rfl) (fun _ => rfl) (fun r u hr => ?_)
        obtain ⟨mB1, hu⟩ : ∃ z, z = u := ⟨_, rfl⟩
        subst hu
        obtain ⟨rr, rfl, hr⟩ := hr
        unfold p_MA_nameFits at hr
        subst hr
        have hv := hv mB1
        refine ig_if_eqB (tgt := 62) hx hb (sp_nf tT pB pS f a (x - 1)) rfl d_MA_takeName_55 (by decide) (fun h => ?_) (fun h => ?_)
        · have hv := hv.1 h
          refine ig_lv (lv' := [(0, .ref m0), (1, .ref qt), (2, .int (nI f)), (3, .int (nI a)), (4, .ref p0), (7, .int (nI w)), (8, .int (nI x))]) [0, 1, 2, 3, 4, 5, 6] rfl ?_
          exact j62 _ _ _ _ _ hv
        · have hv := hv.2 h
          refine ig_iconst (v := 1) hx hb d_MA_takeName_58 (by decide) ?_
          refine ig_goto (tgt := 63) hx hb d_MA_takeName_59 (by decide) ?_
          refine ig_lv (lv' := [(0, .ref m0), (1, .ref qt), (2, .int (nI f)), (3, .int (nI a)), (4, .ref p0), (7, .int (nI w)), (8, .int (nI x))]) [0, 1, 2, 3, 4, 5, 6] rfl ?_
          exact j63 _ _ _ _ _ _ hv
  have hv := t_MA_takeName mN mB tT pB pS f a n la hr K17 k17
  unfold v_MA_takeName at hv
  refine ig_iload hx hb 6 d_MA_takeName_0 rfl ?_
  refine ig_if_eqB (tgt := 10) hx hb la rfl d_MA_takeName_2 (by decide) (fun h => ?_) (fun h => ?_)
  · have hv := hv.1 h
    refine ig_iconst (v := 1) hx hb d_MA_takeName_10 (by decide) ?_
    refine ig_istore (lv' := [(7, .int 1), (0, .ref m0), (1, .ref qt), (2, .int (nI f)), (3, .int (nI a)), (4, .ref p0), (5, .int (nI n)), (6, .int (bI la))]) hx hb d_MA_takeName_11 (by decide) rfl ?_
    refine ig_iload hx hb 6 d_MA_takeName_13 rfl ?_
    refine ig_istore (lv' := [(8, .int (nI n)), (7, .int 1), (0, .ref m0), (1, .ref qt), (2, .int (nI f)), (3, .int (nI a)), (4, .ref p0), (5, .int (nI n)), (6, .int (bI la))]) hx hb d_MA_takeName_15 (by decide) rfl ?_
    refine ig_lv (lv' := [(0, .ref m0), (1, .ref qt), (2, .int (nI f)), (3, .int (nI a)), (4, .ref p0), (7, .int 1), (8, .int (nI n))]) [2, 3, 4, 5, 6, 1, 0] rfl ?_
    rw [hK17] at hv
    exact hv
  · have hv := hv.2 h
    refine ig_iload hx hb 5 d_MA_takeName_5 rfl ?_
    refine ig_goto (tgt := 11) hx hb d_MA_takeName_7 (by decide) ?_
    refine ig_istore (lv' := [(7, .int (nI n)), (0, .ref m0), (1, .ref qt), (2, .int (nI f)), (3, .int (nI a)), (4, .ref p0), (5, .int (nI n)), (6, .int (bI la))]) hx hb d_MA_takeName_11 (by decide) rfl ?_
    refine ig_iload hx hb 6 d_MA_takeName_13 rfl ?_
    refine ig_istore (lv' := [(8, .int (nI n)), (7, .int (nI n)), (0, .ref m0), (1, .ref qt), (2, .int (nI f)), (3, .int (nI a)), (4, .ref p0), (5, .int (nI n)), (6, .int (bI la))]) hx hb d_MA_takeName_15 (by decide) rfl ?_
    refine ig_lv (lv' := [(0, .ref m0), (1, .ref qt), (2, .int (nI f)), (3, .int (nI a)), (4, .ref p0), (7, .int (nI n)), (8, .int (nI n))]) [2, 3, 4, 5, 6, 1, 0] rfl ?_
    rw [hK17] at hv
    exact hv
