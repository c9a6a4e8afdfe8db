theorem kw_1_59 : Cond.methodLink "IgnoreRules$Matcher" 38 y_MA_isDeep ∈ ig_T := ig_T_mem (List.mem_append_right _ (List.mem_append_left _ (List.mem_of_getElem? (i := 59) rfl))) rfl
theorem kw_1_60 : Cond.static y_MA_isDeep ∈ ig_T := ig_T_mem (List.mem_append_right _ (List.mem_append_left _ (List.mem_of_getElem? (i := 60) rfl))) rfl
theorem kw_1_65 : Cond.methodLink "IgnoreRules$Matcher" 46 y_MA_takeName ∈ ig_T := ig_T_mem (List.mem_append_right _ (List.mem_append_left _ (List.mem_of_getElem? (i := 65) rfl))) rfl
theorem kw_1_67 : Cond.instanceMethod y_MA_takeName ∈ ig_T := ig_T_mem (List.mem_append_right _ (List.mem_append_left _ (List.mem_of_getElem? (i := 67) rfl))) rfl
theorem d_MA_ruleFits_0 : decode b_MA_ruleFits 0 = .ok (.aload_n 1, 1) := by decide +kernel
theorem d_MA_ruleFits_1 : decode b_MA_ruleFits 1 = .ok (.getfield 18, 3) := by decide +kernel
theorem d_MA_ruleFits_4 : decode b_MA_ruleFits 4 = .ok (.iload_n 2, 1) := by decide +kernel
theorem d_MA_ruleFits_5 : decode b_MA_ruleFits 5 = .ok (.iaload, 1) := by decide +kernel
theorem d_MA_ruleFits_6 : decode b_MA_ruleFits 6 = .ok (.istore 6, 2) := by decide +kernel
theorem d_MA_ruleFits_8 : decode b_MA_ruleFits 8 = .ok (.iload 6, 2) := by decide +kernel
theorem d_MA_ruleFits_10 : decode b_MA_ruleFits 10 = .ok (.bipush 8, 2) := by decide +kernel
theorem d_MA_ruleFits_12 : decode b_MA_ruleFits 12 = .ok (.iand, 1) := by decide +kernel
theorem d_MA_ruleFits_13 : decode b_MA_ruleFits 13 = .ok (.ifCond .ne 15, 3) := by decide +kernel
theorem d_MA_ruleFits_16 : decode b_MA_ruleFits 16 = .ok (.iload 6, 2) := by decide +kernel
theorem d_MA_ruleFits_18 : decode b_MA_ruleFits 18 = .ok (.iconst 2, 1) := by decide +kernel
theorem d_MA_ruleFits_19 : decode b_MA_ruleFits 19 = .ok (.iand, 1) := by decide +kernel
theorem d_MA_ruleFits_20 : decode b_MA_ruleFits 20 = .ok (.ifCond .eq 10, 3) := by decide +kernel
theorem d_MA_ruleFits_23 : decode b_MA_ruleFits 23 = .ok (.iload 5, 2) := by decide +kernel
theorem d_MA_ruleFits_25 : decode b_MA_ruleFits 25 = .ok (.ifCond .ne 5, 3) := by decide +kernel
theorem d_MA_ruleFits_28 : decode b_MA_ruleFits 28 = .ok (.iconst 0, 1) := by decide +kernel
theorem d_MA_ruleFits_29 : decode b_MA_ruleFits 29 = .ok (.ireturn, 1) := by decide +kernel
theorem d_MA_ruleFits_30 : decode b_MA_ruleFits 30 = .ok (.iload 6, 2) := by decide +kernel
theorem d_MA_ruleFits_32 : decode b_MA_ruleFits 32 = .ok (.iconst 4, 1) := by decide +kernel
theorem d_MA_ruleFits_33 : decode b_MA_ruleFits 33 = .ok (.iand, 1) := by decide +kernel
theorem d_MA_ruleFits_34 : decode b_MA_ruleFits 34 = .ok (.ifCond .eq 7, 3) := by decide +kernel
theorem d_MA_ruleFits_37 : decode b_MA_ruleFits 37 = .ok (.iconst 1, 1) := by decide +kernel
theorem d_MA_ruleFits_38 : decode b_MA_ruleFits 38 = .ok (.goto 4, 3) := by decide +kernel
theorem d_MA_ruleFits_41 : decode b_MA_ruleFits 41 = .ok (.iconst 0, 1) := by decide +kernel
theorem d_MA_ruleFits_42 : decode b_MA_ruleFits 42 = .ok (.istore 7, 2) := by decide +kernel
theorem d_MA_ruleFits_44 : decode b_MA_ruleFits 44 = .ok (.aload_n 0, 1) := by decide +kernel
theorem d_MA_ruleFits_45 : decode b_MA_ruleFits 45 = .ok (.getfield 9, 3) := by decide +kernel
theorem d_MA_ruleFits_48 : decode b_MA_ruleFits 48 = .ok (.iload 4, 2) := by decide +kernel
theorem d_MA_ruleFits_50 : decode b_MA_ruleFits 50 = .ok (.iload 7, 2) := by decide +kernel
theorem d_MA_ruleFits_52 : decode b_MA_ruleFits 52 = .ok (.ifCond .eq 7, 3) := by decide +kernel
theorem d_MA_ruleFits_55 : decode b_MA_ruleFits 55 = .ok (.iconst 0, 1) := by decide +kernel
theorem d_MA_ruleFits_56 : decode b_MA_ruleFits 56 = .ok (.goto 7, 3) := by decide +kernel
theorem d_MA_ruleFits_59 : decode b_MA_ruleFits 59 = .ok (.iload 4, 2) := by decide +kernel
theorem d_MA_ruleFits_61 : decode b_MA_ruleFits 61 = .ok (.iconst 1, 1) := by decide +kernel
theorem d_MA_ruleFits_62 : decode b_MA_ruleFits 62 = .ok (.isub, 1) := by decide +kernel
theorem d_MA_ruleFits_63 : decode b_MA_ruleFits 63 = .ok (.invokestatic 24, 3) := by decide +kernel
theorem d_MA_ruleFits_66 : decode b_MA_ruleFits 66 = .ok (.iconst 0, 1) := by decide +kernel
theorem d_MA_ruleFits_67 : decode b_MA_ruleFits 67 = .ok (.istore 8, 2) := by decide +kernel
theorem d_MA_ruleFits_69 : decode b_MA_ruleFits 69 = .ok (.aload_n 1, 1) := by decide +kernel
theorem d_MA_ruleFits_70 : decode b_MA_ruleFits 70 = .ok (.getfield 28, 3) := by decide +kernel
theorem d_MA_ruleFits_73 : decode b_MA_ruleFits 73 = .ok (.iload_n 2, 1) := by decide +kernel
theorem d_MA_ruleFits_74 : decode b_MA_ruleFits 74 = .ok (.iaload, 1) := by decide +kernel
theorem d_MA_ruleFits_75 : decode b_MA_ruleFits 75 = .ok (.istore 9, 2) := by decide +kernel
theorem d_MA_ruleFits_77 : decode b_MA_ruleFits 77 = .ok (.aload_n 1, 1) := by decide +kernel
theorem d_MA_ruleFits_78 : decode b_MA_ruleFits 78 = .ok (.getfield 31, 3) := by decide +kernel
theorem d_MA_ruleFits_81 : decode b_MA_ruleFits 81 = .ok (.iload_n 2, 1) := by decide +kernel
theorem d_MA_ruleFits_82 : decode b_MA_ruleFits 82 = .ok (.iaload, 1) := by decide +kernel
theorem d_MA_ruleFits_83 : decode b_MA_ruleFits 83 = .ok (.istore 10, 2) := by decide +kernel
theorem d_MA_ruleFits_85 : decode b_MA_ruleFits 85 = .ok (.iload 9, 2) := by decide +kernel
theorem d_MA_ruleFits_87 : decode b_MA_ruleFits 87 = .ok (.istore 11, 2) := by decide +kernel
theorem d_MA_ruleFits_89 : decode b_MA_ruleFits 89 = .ok (.iload 11, 2) := by decide +kernel
theorem d_MA_ruleFits_91 : decode b_MA_ruleFits 91 = .ok (.iload 10, 2) := by decide +kernel
theorem d_MA_ruleFits_93 : decode b_MA_ruleFits 93 = .ok (.if_icmp .gt 104, 3) := by decide +kernel
theorem d_MA_ruleFits_96 : decode b_MA_ruleFits 96 = .ok (.iload 11, 2) := by decide +kernel
theorem d_MA_ruleFits_98 : decode b_MA_ruleFits 98 = .ok (.iload 10, 2) := by decide +kernel
theorem d_MA_ruleFits_100 : decode b_MA_ruleFits 100 = .ok (.if_icmp .eq 15, 3) := by decide +kernel
theorem d_MA_ruleFits_103 : decode b_MA_ruleFits 103 = .ok (.aload_n 1, 1) := by decide +kernel
theorem d_MA_ruleFits_104 : decode b_MA_ruleFits 104 = .ok (.getfield 34, 3) := by decide +kernel
theorem d_MA_ruleFits_107 : decode b_MA_ruleFits 107 = .ok (.iload 11, 2) := by decide +kernel
theorem d_MA_ruleFits_109 : decode b_MA_ruleFits 109 = .ok (.caload, 1) := by decide +kernel
theorem d_MA_ruleFits_110 : decode b_MA_ruleFits 110 = .ok (.bipush 47, 2) := by decide +kernel
theorem d_MA_ruleFits_112 : decode b_MA_ruleFits 112 = .ok (.if_icmp .ne 79, 3) := by decide +kernel
theorem d_MA_ruleFits_115 : decode b_MA_ruleFits 115 = .ok (.iload 7, 2) := by decide +kernel
theorem d_MA_ruleFits_117 : decode b_MA_ruleFits 117 = .ok (.ifCond .eq 21, 3) := by decide +kernel
theorem d_MA_ruleFits_120 : decode b_MA_ruleFits 120 = .ok (.aload_n 1, 1) := by decide +kernel
theorem d_MA_ruleFits_121 : decode b_MA_ruleFits 121 = .ok (.getfield 34, 3) := by decide +kernel
theorem d_MA_ruleFits_124 : decode b_MA_ruleFits 124 = .ok (.iload 9, 2) := by decide +kernel
theorem d_MA_ruleFits_126 : decode b_MA_ruleFits 126 = .ok (.iload 11, 2) := by decide +kernel
theorem d_MA_ruleFits_128 : decode b_MA_ruleFits 128 = .ok (.invokestatic 38, 3) := by decide +kernel
theorem d_MA_ruleFits_131 : decode b_MA_ruleFits 131 = .ok (.ifCond .eq 7, 3) := by decide +kernel
theorem d_MA_ruleFits_134 : decode b_MA_ruleFits 134 = .ok (.iconst 1, 1) := by decide +kernel
theorem d_MA_ruleFits_135 : decode b_MA_ruleFits 135 = .ok (.goto 4, 3) := by decide +kernel
theorem d_MA_ruleFits_138 : decode b_MA_ruleFits 138 = .ok (.iconst 0, 1) := by decide +kernel
theorem d_MA_ruleFits_139 : decode b_MA_ruleFits 139 = .ok (.istore 8, 2) := by decide +kernel
theorem d_MA_ruleFits_141 : decode b_MA_ruleFits 141 = .ok (.iload 8, 2) := by decide +kernel
theorem d_MA_ruleFits_143 : decode b_MA_ruleFits 143 = .ok (.ifCond .eq 15, 3) := by decide +kernel
theorem d_MA_ruleFits_146 : decode b_MA_ruleFits 146 = .ok (.aload_n 0, 1) := by decide +kernel
theorem d_MA_ruleFits_147 : decode b_MA_ruleFits 147 = .ok (.getfield 9, 3) := by decide +kernel
theorem d_MA_ruleFits_150 : decode b_MA_ruleFits 150 = .ok (.iload 4, 2) := by decide +kernel
theorem d_MA_ruleFits_152 : decode b_MA_ruleFits 152 = .ok (.invokestatic 42, 3) := by decide +kernel
theorem d_MA_ruleFits_155 : decode b_MA_ruleFits 155 = .ok (.goto 30, 3) := by decide +kernel
theorem d_MA_ruleFits_158 : decode b_MA_ruleFits 158 = .ok (.aload_n 0, 1) := by decide +kernel
theorem d_MA_ruleFits_159 : decode b_MA_ruleFits 159 = .ok (.aload_n 1, 1) := by decide +kernel
theorem d_MA_ruleFits_160 : decode b_MA_ruleFits 160 = .ok (.getfield 34, 3) := by decide +kernel
theorem d_MA_ruleFits_163 : decode b_MA_ruleFits 163 = .ok (.iload 9, 2) := by decide +kernel
theorem d_MA_ruleFits_165 : decode b_MA_ruleFits 165 = .ok (.iload 11, 2) := by decide +kernel
theorem d_MA_ruleFits_167 : decode b_MA_ruleFits 167 = .ok (.aload_n 3, 1) := by decide +kernel
theorem d_MA_ruleFits_168 : decode b_MA_ruleFits 168 = .ok (.iload 4, 2) := by decide +kernel
theorem d_MA_ruleFits_170 : decode b_MA_ruleFits 170 = .ok (.iload 11, 2) := by decide +kernel
theorem d_MA_ruleFits_172 : decode b_MA_ruleFits 172 = .ok (.iload 10, 2) := by decide +kernel
theorem d_MA_ruleFits_174 : decode b_MA_ruleFits 174 = .ok (.if_icmp .ne 7, 3) := by decide +kernel
theorem d_MA_ruleFits_177 : decode b_MA_ruleFits 177 = .ok (.iconst 1, 1) := by decide +kernel
theorem d_MA_ruleFits_178 : decode b_MA_ruleFits 178 = .ok (.goto 4, 3) := by decide +kernel
theorem d_MA_ruleFits_181 : decode b_MA_ruleFits 181 = .ok (.iconst 0, 1) := by decide +kernel
theorem d_MA_ruleFits_182 : decode b_MA_ruleFits 182 = .ok (.invokevirtual 46, 3) := by decide +kernel
theorem d_MA_ruleFits_185 : decode b_MA_ruleFits 185 = .ok (.iload 11, 2) := by decide +kernel
theorem d_MA_ruleFits_187 : decode b_MA_ruleFits 187 = .ok (.iconst 1, 1) := by decide +kernel
theorem d_MA_ruleFits_188 : decode b_MA_ruleFits 188 = .ok (.iadd, 1) := by decide +kernel
theorem d_MA_ruleFits_189 : decode b_MA_ruleFits 189 = .ok (.istore 9, 2) := by decide +kernel
theorem d_MA_ruleFits_191 : decode b_MA_ruleFits 191 = .ok (.iinc 11 1, 3) := by decide +kernel
theorem d_MA_ruleFits_194 : decode b_MA_ruleFits 194 = .ok (.goto (-105), 3) := by decide +kernel
theorem d_MA_ruleFits_197 : decode b_MA_ruleFits 197 = .ok (.aload_n 0, 1) := by decide +kernel
theorem d_MA_ruleFits_198 : decode b_MA_ruleFits 198 = .ok (.getfield 9, 3) := by decide +kernel
theorem d_MA_ruleFits_201 : decode b_MA_ruleFits 201 = .ok (.iload 8, 2) := by decide +kernel
theorem d_MA_ruleFits_203 : decode b_MA_ruleFits 203 = .ok (.ifCond .eq 10, 3) := by decide +kernel
theorem d_MA_ruleFits_206 : decode b_MA_ruleFits 206 = .ok (.iload 4, 2) := by decide +kernel
theorem d_MA_ruleFits_208 : decode b_MA_ruleFits 208 = .ok (.iconst 1, 1) := by decide +kernel
theorem d_MA_ruleFits_209 : decode b_MA_ruleFits 209 = .ok (.isub, 1) := by decide +kernel
theorem d_MA_ruleFits_210 : decode b_MA_ruleFits 210 = .ok (.goto 5, 3) := by decide +kernel
theorem d_MA_ruleFits_213 : decode b_MA_ruleFits 213 = .ok (.iload 4, 2) := by decide +kernel
theorem d_MA_ruleFits_215 : decode b_MA_ruleFits 215 = .ok (.baload, 1) := by decide +kernel
theorem d_MA_ruleFits_216 : decode b_MA_ruleFits 216 = .ok (.ireturn, 1) := by decide +kernel
abbrev w_MA_ruleFits : List Cond := Cond.code y_MA_ruleFits b_MA_ruleFits 12 (some .boolean) :: ig_T
theorem g_MA_ruleFits : GoodIn ig_T w_MA_ruleFits := ig_T_good (ig_T_mem (List.mem_append_right _ (List.mem_append_left _ (List.mem_of_getElem? (i := 55) rfl))) rfl)
set_option maxHeartbeats 4000000 in
set_option maxRecDepth 100000 in
theorem c_MA_ruleFits (l : Launch) (dC : Nat → ClassId) (dI : Nat → Nat → Nat) (cC cI cZ cL : ClassId) (m0 mn mb q0 qt qs qe qb ql p0 pb ps : Nat) (nC : Int32) (pC : Int32) (mN : Nat → Bool) (mB : Nat → Bool) (tT : Nat → Int32) (aS : Nat → Nat) (aE : Nat → Nat) (aB : Nat → Nat) (pB : Nat → Int32) (pS : Nat → Nat) (i : Nat) (n : Nat) (d : Bool) (sz : Nat) (hr : r_MA_ruleFits mN mB tT aS aE aB pB pS i n d) : Met l y_MA_ruleFits w_MA_ruleFits ({ frames := 3, cells := 0, slots := 0, locals := 87 }) (ig_Pc (dC, dI) ig_cl0 [(cC, .char), (cI, .int), (cZ, .boolean), (cL, .long)] [.ref m0, .ref q0, .int (nI i), .ref p0, .int (nI n), .int (bI d)] [(m0, .inr (ciMA, [.ref mn, .ref mb])), (mn, .inl (cZ, 21, .inl (fun zj => bI (mN zj)))), (mb, .inl (cZ, 121, .inl (fun zj => bI (mB zj)))), (q0, .inr (ciRL, [.ref qt, .ref qs, .ref qe, .ref qb, .ref ql, .int nC])), (qt, .inl (cC, 1000, .inl tT)), (qs, .inl (cI, 60, .inl (fun zj => nI (aS zj)))), (qe, .inl (cI, 60, .inl (fun zj => nI (aE zj)))), (qb, .inl (cI, 60, .inl (fun zj => nI (aB zj)))), (p0, .inr (ciPA, [.ref pb, .ref ps, .int pC])), (pb, .inl (cC, 120, .inl pB)), (ps, .inl (cI, 21, .inl (fun zj => nI (pS zj))))] sz) (va_Qi (fun (r : Int32) (u : (Nat → Bool) × (Nat → Bool)) => ∃ zr : Bool, r = bI zr ∧ p_MA_ruleFits mN mB tT aS aE aB pB pS i n d zr u.1 u.2) (fun u t => va_P (dC, dI) ig_cl0 ((fun (u : (Nat → Bool) × (Nat → Bool)) => [(m0, .inr (ciMA, [.ref mn, .ref mb])), (mn, .inl (cZ, 21, .inl (fun zj => bI (u.1 zj)))), (mb, .inl (cZ, 121, .inl (fun zj => bI (u.2 zj)))), (q0, .inr (ciRL, [.ref qt, .ref qs, .ref qe, .ref qb, .ref ql, .int nC])), (qt, .inl (cC, 1000, .inl tT)), (qs, .inl (cI, 60, .inl (fun zj => nI (aS zj)))), (qe, .inl (cI, 60, .inl (fun zj => nI (aE zj)))), (qb, .inl (cI, 60, .inl (fun zj => nI (aB zj)))), (p0, .inr (ciPA, [.ref pb, .ref ps, .int pC])), (pb, .inl (cC, 120, .inl pB)), (ps, .inl (cI, 21, .inl (fun zj => nI (pS zj))))]) u) t.heap ∧ va_D (va_A [(m0, .inr (ciMA, [.ref mn, .ref mb])), (mn, .inl (cZ, 21, .inl (fun zj => bI (mN zj)))), (mb, .inl (cZ, 121, .inl (fun zj => bI (mB zj)))), (q0, .inr (ciRL, [.ref qt, .ref qs, .ref qe, .ref qb, .ref ql, .int nC])), (qt, .inl (cC, 1000, .inl tT)), (qs, .inl (cI, 60, .inl (fun zj => nI (aS zj)))), (qe, .inl (cI, 60, .inl (fun zj => nI (aE zj)))), (qb, .inl (cI, 60, .inl (fun zj => nI (aB zj)))), (p0, .inr (ciPA, [.ref pb, .ref ps, .int pC])), (pb, .inl (cC, 120, .inl pB)), (ps, .inl (cI, 21, .inl (fun zj => nI (pS zj))))] sz) ((fun (u : (Nat → Bool) × (Nat → Bool)) => [(m0, .inr (ciMA, [.ref mn, .ref mb])), (mn, .inl (cZ, 21, .inl (fun zj => bI (u.1 zj)))), (mb, .inl (cZ, 121, .inl (fun zj => bI (u.2 zj)))), (q0, .inr (ciRL, [.ref qt, .ref qs, .ref qe, .ref qb, .ref ql, .int nC])), (qt, .inl (cC, 1000, .inl tT)), (qs, .inl (cI, 60, .inl (fun zj => nI (aS zj)))), (qe, .inl (cI, 60, .inl (fun zj => nI (aE zj)))), (qb, .inl (cI, 60, .inl (fun zj => nI (aB zj)))), (p0, .inr (ciPA, [.ref pb, .ref ps, .int pC])), (pb, .inl (cC, 120, .inl pB)), (ps, .inl (cI, 21, .inl (fun zj => nI (pS zj))))]) u)) (va_A [(m0, .inr (ciMA, [.ref mn, .ref mb])), (mn, .inl (cZ, 21, .inl (fun zj => bI (mN zj)))), (mb, .inl (cZ, 121, .inl (fun zj => bI (mB zj)))), (q0, .inr (ciRL, [.ref qt, .ref qs, .ref qe, .ref qb, .ref ql, .int nC])), (qt, .inl (cC, 1000, .inl tT)), (qs, .inl (cI, 60, .inl (fun zj => nI (aS zj)))), (qe, .inl (cI, 60, .inl (fun zj => nI (aE zj)))), (qb, .inl (cI, 60, .inl (fun zj => nI (aB zj)))), (p0, .inr (ciPA, [.ref pb, .ref ps, .int pC])), (pb, .inl (cC, 120, .inl pB)), (ps, .inl (cI, 21, .inl (fun zj => nI (pS zj))))] sz)) 0 0 (va_A [(m0, .inr (ciMA, [.ref mn, .ref mb])), (mn, .inl (cZ, 21, .inl (fun zj => bI (mN zj)))), (mb, .inl (cZ, 121, .inl (fun zj => bI (mB zj)))), (q0, .inr (ciRL, [.ref qt, .ref qs, .ref qe, .ref qb, .ref ql, .int nC])), (qt, .inl (cC, 1000, .inl tT)), (qs, .inl (cI, 60, .inl (fun zj => nI (aS zj)))), (qe, .inl (cI, 60, .inl (fun zj => nI (aE zj)))), (qb, .inl (cI, 60, .inl (fun zj => nI (aB zj)))), (p0, .inr (ciPA, [.ref pb, .ref ps, .int pC])), (pb, .inl (cC, 120, .inl pB)), (ps, .inl (cI, 21, .inl (fun zj => nI (pS zj))))] sz) := by
  refine ig_metI (fun (r : Int32) (u : (Nat → Bool) × (Nat → Bool)) => ∃ zr : Bool, r = bI zr ∧ p_MA_ruleFits mN mB tT aS aE aB pB pS i n d zr u.1 u.2) (fun (u : (Nat → Bool) × (Nat → Bool)) => [(m0, .inr (ciMA, [.ref mn, .ref mb])), (mn, .inl (cZ, 21, .inl (fun zj => bI (u.1 zj)))), (mb, .inl (cZ, 121, .inl (fun zj => bI (u.2 zj)))), (q0, .inr (ciRL, [.ref qt, .ref qs, .ref qe, .ref qb, .ref ql, .int nC])), (qt, .inl (cC, 1000, .inl tT)), (qs, .inl (cI, 60, .inl (fun zj => nI (aS zj)))), (qe, .inl (cI, 60, .inl (fun zj => nI (aE zj)))), (qb, .inl (cI, 60, .inl (fun zj => nI (aB zj)))), (p0, .inr (ciPA, [.ref pb, .ref ps, .int pC])), (pb, .inl (cC, 120, .inl pB)), (ps, .inl (cI, 21, .inl (fun zj => nI (pS zj))))]) (by decide) rfl (Nat.le_of_ble_eq_true rfl) rfl (by rintro r u ⟨b, rfl, -⟩; exact bI_ret b) ?_
  intro zp ze zs zm zargs zbelow zmeth zc zA zQ hx hb hml hown hts hK hN hA hret
  obtain ⟨K89, hK89⟩ : ∃ K : Bool → Bool → Nat → Nat → Nat → (Nat → Bool) → (Nat → Bool) → Prop, K = fun (bd : Bool) (de : Bool) (g : Nat) (e1 : Nat) (b : Nat) (mNc : Nat → Bool) (mBc : Nat → Bool) => ig_W zp l ze ({ frames := 3, cells := 0, slots := 0, locals := 87 }) zs zm zargs zbelow zmeth zc (dC, dI) ig_cl0 zA zs.heap 12 0 0 zQ 89 [(0, .ref m0), (1, .ref q0), (3, .ref p0), (4, .int (nI n)), (7, .int (bI bd)), (8, .int (bI de)), (9, .int (nI g)), (10, .int (nI e1)), (11, .int (nI b))] [] [(m0, .inr (ciMA, [.ref mn, .ref mb])), (mn, .inl (cZ, 21, .inl (fun zj => bI (mNc zj)))), (mb, .inl (cZ, 121, .inl (fun zj => bI (mBc zj)))), (q0, .inr (ciRL, [.ref qt, .ref qs, .ref qe, .ref qb, .ref ql, .int nC])), (qt, .inl (cC, 1000, .inl tT)), (qs, .inl (cI, 60, .inl (fun zj => nI (aS zj)))), (qe, .inl (cI, 60, .inl (fun zj => nI (aE zj)))), (qb, .inl (cI, 60, .inl (fun zj => nI (aB zj)))), (p0, .inr (ciPA, [.ref pb, .ref ps, .int pC])), (pb, .inl (cC, 120, .inl pB)), (ps, .inl (cI, 21, .inl (fun zj => nI (pS zj))))] := ⟨_, rfl⟩
  have j63 : ∀ (bd : Bool) (s0 : Nat) (s1 : Nat) (mNc : Nat → Bool) (mBc : Nat → Bool), v_MA_ruleFits_63 mN mB tT aS aE aB pB pS i n d K89 (p_MA_ruleFits mN mB tT aS aE aB pB pS i n d) bd s0 s1 mNc mBc → ig_W zp l ze ({ frames := 3, cells := 0, slots := 0, locals := 87 }) zs zm zargs zbelow zmeth zc (dC, dI) ig_cl0 zA zs.heap 12 0 0 zQ 63 [(0, .ref m0), (1, .ref q0), (2, .int (nI i)), (3, .ref p0), (4, .int (nI n)), (7, .int (bI bd))] [.int (nI s0), .int (nI s1), .ref mn] [(m0, .inr (ciMA, [.ref mn, .ref mb])), (mn, .inl (cZ, 21, .inl (fun zj => bI (mNc zj)))), (mb, .inl (cZ, 121, .inl (fun zj => bI (mBc zj)))), (q0, .inr (ciRL, [.ref qt, .ref qs, .ref qe, .ref qb, .ref ql, .int nC])), (qt, .inl (cC, 1000, .inl tT)), (qs, .inl (cI, 60, .inl (fun zj => nI (aS zj)))), (qe, .inl (cI, 60, .inl (fun zj => nI (aE zj)))), (qb, .inl (cI, 60, .inl (fun zj => nI (aB zj)))), (p0, .inr (ciPA, [.ref pb, .ref ps, .int pC])), (pb, .inl (cC, 120, .inl pB)), (ps, .inl (cI, 21, .inl (fun zj => nI (pS zj))))] := by
    intro bd s0 s1 mNc mBc hv
    unfold v_MA_ruleFits_63 at hv
    obtain ⟨hc, hv⟩ := hv
    refine ig_cSv (As := [.ref mn, .int (nI s1), .int (nI s0)]) (rest := []) (wr := [(m0, .inr (ciMA, [.ref mn, .ref mb])), (mb, .inl (cZ, 121, .inl (fun zj => bI (mBc zj)))), (q0, .inr (ciRL, [.ref qt, .ref qs, .ref qe, .ref qb, .ref ql, .int nC])), (qt, .inl (cC, 1000, .inl tT)), (qs, .inl (cI, 60, .inl (fun zj => nI (aS zj)))), (qe, .inl (cI, 60, .inl (fun zj => nI (aE zj)))), (qb, .inl (cI, 60, .inl (fun zj => nI (aB zj)))), (p0, .inr (ciPA, [.ref pb, .ref ps, .int pC])), (pb, .inl (cC, 120, .inl pB)), (ps, .inl (cI, 21, .inl (fun zj => nI (pS zj))))]) (ws' := fun u => [(m0, .inr (ciMA, [.ref mn, .ref mb])), (mn, .inl (cZ, 21, .inl (fun zj => bI (u zj)))), (mb, .inl (cZ, 121, .inl (fun zj => bI (mBc zj)))), (q0, .inr (ciRL, [.ref qt, .ref qs, .ref qe, .ref qb, .ref ql, .int nC])), (qt, .inl (cC, 1000, .inl tT)), (qs, .inl (cI, 60, .inl (fun zj => nI (aS zj)))), (qe, .inl (cI, 60, .inl (fun zj => nI (aE zj)))), (qb, .inl (cI, 60, .inl (fun zj => nI (aB zj)))), (p0, .inr (ciPA, [.ref pb, .ref ps, .int pC])), (pb, .inl (cC, 120, .inl pB)), (ps, .inl (cI, 21, .inl (fun zj => nI (pS zj))))]) hx hb hml hown hts hK hN hA (fun sz => c_MA_startRow l dC dI cC cI cZ cL mn mNc 21 s1 s0 sz hc) ⟨callB_of 3 hts g_MA_startRow rfl rfl rfl (hts _ kw_0_4) (hts _ kw_1_56) (by decide +kernel) (by decide), hts _ kw_1_57⟩ rfl rfl (Nat.le_of_ble_eq_true rfl) d_MA_ruleFits_63 (by decide) [1] [0, 2, 3, 4, 5, 6, 7, 8, 9, 10] [0, 10, 1, 2, 3, 4, 5, 6, 7, 8, 9] rfl rfl (by decide) (by decide) (by decide) (fun _ => rfl) (fun _ => rfl) (fun u hr => ?_)
    obtain ⟨zw1, hu⟩ : ∃ z, z = u := ⟨_, rfl⟩
    subst hu
    unfold p_MA_startRow at hr
    have hv := hv zw1 hr
    refine ig_iconst (v := 0) hx hb d_MA_ruleFits_66 (by decide) ?_
    refine ig_istore (lv' := [(8, .int 0), (0, .ref m0), (1, .ref q0), (2, .int (nI i)), (3, .ref p0), (4, .int (nI n)), (7, .int (bI bd))]) hx hb d_MA_ruleFits_67 (by decide) rfl ?_
    refine ig_aload_n hx hb 2 d_MA_ruleFits_69 rfl rfl ?_
    refine ig_getN hx hb hts in_RL hown hK 3 rfl rfl 1 (by decide) (va_Nw.use rfl (fk_2 hN)) (fun _ h => h) rfl d_MA_ruleFits_70 ?_
    refine ig_iload_n hx hb 3 d_MA_ruleFits_73 rfl rfl ?_
    obtain ⟨hc, hv⟩ := hv
    refine ig_iald (x := (nI (aS i))) hx hb hK 5 1 rfl rfl i rfl hc (by decide) rfl d_MA_ruleFits_74 ?_
    refine ig_istore (lv' := [(9, .int (nI (aS i))), (8, .int 0), (0, .ref m0), (1, .ref q0), (2, .int (nI i)), (3, .ref p0), (4, .int (nI n)), (7, .int (bI bd))]) hx hb d_MA_ruleFits_75 (by decide) rfl ?_
    refine ig_aload_n hx hb 3 d_MA_ruleFits_77 rfl rfl ?_
    refine ig_getN hx hb hts in_RL hown hK 3 rfl rfl 2 (by decide) (va_Nw.use rfl (fk_3 hN)) (fun _ h => h) rfl d_MA_ruleFits_78 ?_
    refine ig_iload_n hx hb 4 d_MA_ruleFits_81 rfl rfl ?_
    obtain ⟨hc, hv⟩ := hv
    refine ig_iald (x := (nI (aE i))) hx hb hK 6 1 rfl rfl i rfl hc (by decide) rfl d_MA_ruleFits_82 ?_
    refine ig_istore (lv' := [(10, .int (nI (aE i))), (9, .int (nI (aS i))), (8, .int 0), (0, .ref m0), (1, .ref q0), (2, .int (nI i)), (3, .ref p0), (4, .int (nI n)), (7, .int (bI bd))]) hx hb d_MA_ruleFits_83 (by decide) rfl ?_
    refine ig_iload hx hb 1 d_MA_ruleFits_85 rfl ?_
    refine ig_istore (lv' := [(11, .int (nI (aS i))), (10, .int (nI (aE i))), (9, .int (nI (aS i))), (8, .int 0), (0, .ref m0), (1, .ref q0), (2, .int (nI i)), (3, .ref p0), (4, .int (nI n)), (7, .int (bI bd))]) hx hb d_MA_ruleFits_87 (by decide) rfl ?_
    refine ig_lv (lv' := [(0, .ref m0), (1, .ref q0), (3, .ref p0), (4, .int (nI n)), (7, .int (bI bd)), (8, .int 0), (9, .int (nI (aS i))), (10, .int (nI (aE i))), (11, .int (nI (aS i)))]) [4, 5, 7, 8, 9, 3, 2, 1, 0] rfl ?_
    rw [hK89] at hv
    exact hv
  have j42 : ∀ (s0 : Bool) (mNc : Nat → Bool) (mBc : Nat → Bool), v_MA_ruleFits_42 mN mB tT aS aE aB pB pS i n d K89 (p_MA_ruleFits mN mB tT aS aE aB pB pS i n d) s0 mNc mBc → ig_W zp l ze ({ frames := 3, cells := 0, slots := 0, locals := 87 }) zs zm zargs zbelow zmeth zc (dC, dI) ig_cl0 zA zs.heap 12 0 0 zQ 42 [(0, .ref m0), (1, .ref q0), (2, .int (nI i)), (3, .ref p0), (4, .int (nI n))] [.int (bI s0)] [(m0, .inr (ciMA, [.ref mn, .ref mb])), (mn, .inl (cZ, 21, .inl (fun zj => bI (mNc zj)))), (mb, .inl (cZ, 121, .inl (fun zj => bI (mBc zj)))), (q0, .inr (ciRL, [.ref qt, .ref qs, .ref qe, .ref qb, .ref ql, .int nC])), (qt, .inl (cC, 1000, .inl tT)), (qs, .inl (cI, 60, .inl (fun zj => nI (aS zj)))), (qe, .inl (cI, 60, .inl (fun zj => nI (aE zj)))), (qb, .inl (cI, 60, .inl (fun zj => nI (aB zj)))), (p0, .inr (ciPA, [.ref pb, .ref ps, .int pC])), (pb, .inl (cC, 120, .inl pB)), (ps, .inl (cI, 21, .inl (fun zj => nI (pS zj))))] := by
    intro s0 mNc mBc hv
    unfold v_MA_ruleFits_42 at hv
    refine ig_istore (lv' := [(7, .int (bI s0)), (0, .ref m0), (1, .ref q0), (2, .int (nI i)), (3, .ref p0), (4, .int (nI n))]) hx hb d_MA_ruleFits_42 (by decide) rfl ?_
    refine ig_aload_n hx hb 1 d_MA_ruleFits_44 rfl rfl ?_
    refine ig_get hx hb hts in_MA hown hK 0 rfl rfl 0 (by decide) (hts _ kw_0_81) (fun _ h => h) rfl d_MA_ruleFits_45 ?_
    refine ig_iload hx hb 5 d_MA_ruleFits_48 rfl ?_
    refine ig_iload hx hb 0 d_MA_ruleFits_50 rfl ?_
    refine ig_if_eqB (tgt := 59) hx hb s0 rfl d_MA_ruleFits_52 (by decide) (fun h => ?_) (fun h => ?_)
    · have hv := hv.1 h
      refine ig_iload hx hb 5 d_MA_ruleFits_59 rfl ?_
      refine ig_iconst (v := 1) hx hb d_MA_ruleFits_61 (by decide) ?_
      obtain ⟨hc, hv⟩ := hv
      refine ig_isubN hx hb n 1 rfl rfl hc d_MA_ruleFits_62 ?_
      refine ig_lv (lv' := [(0, .ref m0), (1, .ref q0), (2, .int (nI i)), (3, .ref p0), (4, .int (nI n)), (7, .int (bI s0))]) [1, 2, 3, 4, 5, 0] rfl ?_
      exact j63 _ _ _ _ _ hv
    · have hv := hv.2 h
      refine ig_iconst (v := 0) hx hb d_MA_ruleFits_55 (by decide) ?_
      refine ig_goto (tgt := 63) hx hb d_MA_ruleFits_56 (by decide) ?_
      refine ig_lv (lv' := [(0, .ref m0), (1, .ref q0), (2, .int (nI i)), (3, .ref p0), (4, .int (nI n)), (7, .int (bI s0))]) [1, 2, 3, 4, 5, 0] rfl ?_
      exact j63 _ _ _ _ _ hv
  have j30 : ∀ (bi : Nat) (mNc : Nat → Bool) (mBc : Nat → Bool), v_MA_ruleFits_30 mN mB tT aS aE aB pB pS i n d K89 (p_MA_ruleFits mN mB tT aS aE aB pB pS i n d) bi mNc mBc → ig_W zp l ze ({ frames := 3, cells := 0, slots := 0, locals := 87 }) zs zm zargs zbelow zmeth zc (dC, dI) ig_cl0 zA zs.heap 12 0 0 zQ 30 [(0, .ref m0), (1, .ref q0), (2, .int (nI i)), (3, .ref p0), (4, .int (nI n)), (6, .int (nI bi))] [] [(m0, .inr (ciMA, [.ref mn, .ref mb])), (mn, .inl (cZ, 21, .inl (fun zj => bI (mNc zj)))), (mb, .inl (cZ, 121, .inl (fun zj => bI (mBc zj)))), (q0, .inr (ciRL, [.ref qt, .ref qs, .ref qe, .ref qb, .ref ql, .int nC])), (qt, .inl (cC, 1000, .inl tT)), (qs, .inl (cI, 60, .inl (fun zj => nI (aS zj)))), (qe, .inl (cI, 60, .inl (fun zj => nI (aE zj)))), (qb, .inl (cI, 60, .inl (fun zj => nI (aB zj)))), (p0, .inr (ciPA, [.ref pb, .ref ps, .int pC])), (pb, .inl (cC, 120, .inl pB)), (ps, .inl (cI, 21, .inl (fun zj => nI (pS zj))))] := by
    intro bi mNc mBc hv
    unfold v_MA_ruleFits_30 at hv
    refine ig_iload hx hb 5 d_MA_ruleFits_30 rfl ?_
    refine ig_iconst (v := 4) hx hb d_MA_ruleFits_32 (by decide) ?_
    refine ig_iandN hx hb bi 4 rfl rfl d_MA_ruleFits_33 ?_
    obtain ⟨h1, hv⟩ := hv
    refine ig_if_eqN (tgt := 41) hx hb (bi &&& 4) rfl d_MA_ruleFits_34 (by decide) h1 (fun h => ?_) (fun h => ?_)
    · have hv := hv.1 h
      refine ig_iconst (v := 0) hx hb d_MA_ruleFits_41 (by decide) ?_
      refine ig_lv (lv' := [(0, .ref m0), (1, .ref q0), (2, .int (nI i)), (3, .ref p0), (4, .int (nI n))]) [0, 1, 2, 3, 4] rfl ?_
      exact j42 _ _ _ hv
    · have hv := hv.2 h
      refine ig_iconst (v := 1) hx hb d_MA_ruleFits_37 (by decide) ?_
      refine ig_goto (tgt := 42) hx hb d_MA_ruleFits_38 (by decide) ?_
      refine ig_lv (lv' := [(0, .ref m0), (1, .ref q0), (2, .int (nI i)), (3, .ref p0), (4, .int (nI n))]) [0, 1, 2, 3, 4] rfl ?_
      exact j42 _ _ _ hv
  have j185 : ∀ (bd : Bool) (de : Bool) (e1 : Nat) (b : Nat) (mNc : Nat → Bool) (mBc : Nat → Bool), v_MA_ruleFits_185 mN mB tT aS aE aB pB pS i n d K89 (p_MA_ruleFits mN mB tT aS aE aB pB pS i n d) bd de e1 b mNc mBc → ig_W zp l ze ({ frames := 3, cells := 0, slots := 0, locals := 87 }) zs zm zargs zbelow zmeth zc (dC, dI) ig_cl0 zA zs.heap 12 0 0 zQ 185 [(0, .ref m0), (1, .ref q0), (3, .ref p0), (4, .int (nI n)), (7, .int (bI bd)), (8, .int (bI de)), (10, .int (nI e1)), (11, .int (nI b))] [] [(m0, .inr (ciMA, [.ref mn, .ref mb])), (mn, .inl (cZ, 21, .inl (fun zj => bI (mNc zj)))), (mb, .inl (cZ, 121, .inl (fun zj => bI (mBc zj)))), (q0, .inr (ciRL, [.ref qt, .ref qs, .ref qe, .ref qb, .ref ql, .int nC])), (qt, .inl (cC, 1000, .inl tT)), (qs, .inl (cI, 60, .inl (fun zj => nI (aS zj)))), (qe, .inl (cI, 60, .inl (fun zj => nI (aE zj)))), (qb, .inl (cI, 60, .inl (fun zj => nI (aB zj)))), (p0, .inr (ciPA, [.ref pb, .ref ps, .int pC])), (pb, .inl (cC, 120, .inl pB)), (ps, .inl (cI, 21, .inl (fun zj => nI (pS zj))))] := by
    intro bd de e1 b mNc mBc hv
    unfold v_MA_ruleFits_185 at hv
    refine ig_iload hx hb 7 d_MA_ruleFits_185 rfl ?_
    refine ig_iconst (v := 1) hx hb d_MA_ruleFits_187 (by decide) ?_
    refine ig_iaddN hx hb b 1 rfl rfl d_MA_ruleFits_188 ?_
    refine ig_istore (lv' := [(9, .int (nI (b + 1))), (0, .ref m0), (1, .ref q0), (3, .ref p0), (4, .int (nI n)), (7, .int (bI bd)), (8, .int (bI de)), (10, .int (nI e1)), (11, .int (nI b))]) hx hb d_MA_ruleFits_189 (by decide) rfl ?_
    refine ig_iinc (v := (nI (b + 1))) (lv' := [(11, .int (nI (b + 1))), (9, .int (nI (b + 1))), (0, .ref m0), (1, .ref q0), (3, .ref p0), (4, .int (nI n)), (7, .int (bI bd)), (8, .int (bI de)), (10, .int (nI e1))]) hx hb 8 d_MA_ruleFits_191 rfl (ig_inc b 1 (by decide)) (by decide) rfl ?_
    refine ig_goto (tgt := 89) hx hb d_MA_ruleFits_194 (by decide) ?_
    refine ig_lv (lv' := [(0, .ref m0), (1, .ref q0), (3, .ref p0), (4, .int (nI n)), (7, .int (bI bd)), (8, .int (bI de)), (9, .int (nI (b + 1))), (10, .int (nI e1)), (11, .int (nI (b + 1)))]) [2, 3, 4, 5, 6, 7, 1, 8, 0] rfl ?_
    rw [hK89] at hv
    exact hv
  have j182 : ∀ (bd : Bool) (de : Bool) (e1 : Nat) (b : Nat) (s0 : Bool) (s1 : Nat) (s3 : Nat) (s4 : Nat) (mNc : Nat → Bool) (mBc : Nat → Bool), v_MA_ruleFits_182 mN mB tT aS aE aB pB pS i n d K89 (p_MA_ruleFits mN mB tT aS aE aB pB pS i n d) bd de e1 b s0 s1 s3 s4 mNc mBc → ig_W zp l ze ({ frames := 3, cells := 0, slots := 0, locals := 87 }) zs zm zargs zbelow zmeth zc (dC, dI) ig_cl0 zA zs.heap 12 0 0 zQ 182 [(0, .ref m0), (1, .ref q0), (3, .ref p0), (4, .int (nI n)), (7, .int (bI bd)), (8, .int (bI de)), (10, .int (nI e1)), (11, .int (nI b))] [.int (bI s0), .int (nI s1), .ref p0, .int (nI s3), .int (nI s4), .ref qt, .ref m0] [(m0, .inr (ciMA, [.ref mn, .ref mb])), (mn, .inl (cZ, 21, .inl (fun zj => bI (mNc zj)))), (mb, .inl (cZ, 121, .inl (fun zj => bI (mBc zj)))), (q0, .inr (ciRL, [.ref qt, .ref qs, .ref qe, .ref qb, .ref ql, .int nC])), (qt, .inl (cC, 1000, .inl tT)), (qs, .inl (cI, 60, .inl (fun zj => nI (aS zj)))), (qe, .inl (cI, 60, .inl (fun zj => nI (aE zj)))), (qb, .inl (cI, 60, .inl (fun zj => nI (aB zj)))), (p0, .inr (ciPA, [.ref pb, .ref ps, .int pC])), (pb, .inl (cC, 120, .inl pB)), (ps, .inl (cI, 21, .inl (fun zj => nI (pS zj))))] := by
    intro bd de e1 b s0 s1 s3 s4 mNc mBc hv
    unfold v_MA_ruleFits_182 at hv
    obtain ⟨hc, hv⟩ := hv
    refine ig_cVv (As := [.ref qt, .int (nI s4), .int (nI s3), .ref p0, .int (nI s1), .int (bI s0)]) (rest := []) (wr := [(q0, .inr (ciRL, [.ref qt, .ref qs, .ref qe, .ref qb, .ref ql, .int nC])), (qs, .inl (cI, 60, .inl (fun zj => nI (aS zj)))), (qe, .inl (cI, 60, .inl (fun zj => nI (aE zj)))), (qb, .inl (cI, 60, .inl (fun zj => nI (aB zj))))]) (ws' := fun u => [(m0, .inr (ciMA, [.ref mn, .ref mb])), (mn, .inl (cZ, 21, .inl (fun zj => bI (u.1 zj)))), (mb, .inl (cZ, 121, .inl (fun zj => bI (u.2 zj)))), (q0, .inr (ciRL, [.ref qt, .ref qs, .ref qe, .ref qb, .ref ql, .int nC])), (qt, .inl (cC, 1000, .inl tT)), (qs, .inl (cI, 60, .inl (fun zj => nI (aS zj)))), (qe, .inl (cI, 60, .inl (fun zj => nI (aE zj)))), (qb, .inl (cI, 60, .inl (fun zj => nI (aB zj)))), (p0, .inr (ciPA, [.ref pb, .ref ps, .int pC])), (pb, .inl (cC, 120, .inl pB)), (ps, .inl (cI, 21, .inl (fun zj => nI (pS zj))))]) hx hb hml hown hts hK hN hA (fun sz => c_MA_takeName l dC dI cC cI cZ cL m0 mn mb qt p0 pb ps pC mNc mBc tT pB pS s4 s3 s1 s0 sz hc) ⟨callB_of 6 hts g_MA_takeName rfl rfl rfl (hts _ kw_0_4) (hts _ kw_1_65) (by decide +kernel) (by decide), (hts _ kw_1_67), (hts _ ks_MA_takeName)⟩ rfl rfl (Nat.le_of_ble_eq_true rfl) d_MA_ruleFits_182 (by decide) 0 rfl rfl [0, 1, 2, 4, 8, 9, 10] [3, 5, 6, 7] [4, 5, 6, 0, 7, 1, 2, 3, 8, 9, 10] rfl rfl (by decide) (by decide) (by decide) (fun _ => rfl) (fun _ => rfl) (fun u hr => ?_)
    obtain ⟨mN3, mB4⟩ := u
    unfold p_MA_takeName at hr
    have hv := hv mN3 mB4 hr
    refine ig_lv (lv' := [(0, .ref m0), (1, .ref q0), (3, .ref p0), (4, .int (nI n)), (7, .int (bI bd)), (8, .int (bI de)), (10, .int (nI e1)), (11, .int (nI b))]) [0, 1, 2, 3, 4, 5, 6, 7] rfl ?_
    exact j185 _ _ _ _ _ _ hv
  have j139 : ∀ (bd : Bool) (g : Nat) (e1 : Nat) (b : Nat) (s0 : Bool) (mNc : Nat → Bool) (mBc : Nat → Bool), v_MA_ruleFits_139 mN mB tT aS aE aB pB pS i n d K89 (p_MA_ruleFits mN mB tT aS aE aB pB pS i n d) bd g e1 b s0 mNc mBc → ig_W zp l ze ({ frames := 3, cells := 0, slots := 0, locals := 87 }) zs zm zargs zbelow zmeth zc (dC, dI) ig_cl0 zA zs.heap 12 0 0 zQ 139 [(0, .ref m0), (1, .ref q0), (3, .ref p0), (4, .int (nI n)), (7, .int (bI bd)), (9, .int (nI g)), (10, .int (nI e1)), (11, .int (nI b))] [.int (bI s0)] [(m0, .inr (ciMA, [.ref mn, .ref mb])), (mn, .inl (cZ, 21, .inl (fun zj => bI (mNc zj)))), (mb, .inl (cZ, 121, .inl (fun zj => bI (mBc zj)))), (q0, .inr (ciRL, [.ref qt, .ref qs, .ref qe, .ref qb, .ref ql, .int nC])), (qt, .inl (cC, 1000, .inl tT)), (qs, .inl (cI, 60, .inl (fun zj => nI (aS zj)))), (qe, .inl (cI, 60, .inl (fun zj => nI (aE zj)))), (qb, .inl (cI, 60, .inl (fun zj => nI (aB zj)))), (p0, .inr (ciPA, [.ref pb, .ref ps, .int pC])), (pb, .inl (cC, 120, .inl pB)), (ps, .inl (cI, 21, .inl (fun zj => nI (pS zj))))] := by
    intro bd g e1 b s0 mNc mBc hv
    unfold v_MA_ruleFits_139 at hv
    refine ig_istore (lv' := [(8, .int (bI s0)), (0, .ref m0), (1, .ref q0), (3, .ref p0), (4, .int (nI n)), (7, .int (bI bd)), (9, .int (nI g)), (10, .int (nI e1)), (11, .int (nI b))]) hx hb d_MA_ruleFits_139 (by decide) rfl ?_
    refine ig_iload hx hb 0 d_MA_ruleFits_141 rfl ?_
    refine ig_if_eqB (tgt := 158) hx hb s0 rfl d_MA_ruleFits_143 (by decide) (fun h => ?_) (fun h => ?_)
    · have hv := hv.1 h
      refine ig_aload_n hx hb 1 d_MA_ruleFits_158 rfl rfl ?_
      refine ig_aload_n hx hb 2 d_MA_ruleFits_159 rfl rfl ?_
      refine ig_getN hx hb hts in_RL hown hK 3 rfl rfl 0 (by decide) (va_Nw.use rfl (fk_0 hN)) (fun _ h => h) rfl d_MA_ruleFits_160 ?_
      refine ig_iload hx hb 6 d_MA_ruleFits_163 rfl ?_
      refine ig_iload hx hb 8 d_MA_ruleFits_165 rfl ?_
      refine ig_aload_n hx hb 3 d_MA_ruleFits_167 rfl rfl ?_
      refine ig_iload hx hb 4 d_MA_ruleFits_168 rfl ?_
      refine ig_iload hx hb 8 d_MA_ruleFits_170 rfl ?_
      refine ig_iload hx hb 7 d_MA_ruleFits_172 rfl ?_
      obtain ⟨h1, hv⟩ := hv
      obtain ⟨h2, hv⟩ := hv
      refine ig_icmp_neN (tgt := 181) hx hb b e1 rfl rfl d_MA_ruleFits_174 (by decide) h1 h2 (fun h => ?_) (fun h => ?_)
      · have hv := hv.1 h
        refine ig_iconst (v := 0) hx hb d_MA_ruleFits_181 (by decide) ?_
        refine ig_lv (lv' := [(0, .ref m0), (1, .ref q0), (3, .ref p0), (4, .int (nI n)), (7, .int (bI bd)), (8, .int (bI s0)), (10, .int (nI e1)), (11, .int (nI b))]) [1, 2, 3, 4, 5, 0, 7, 8] rfl ?_
        exact j182 _ _ _ _ _ _ _ _ _ _ hv
      · have hv := hv.2 h
        refine ig_iconst (v := 1) hx hb d_MA_ruleFits_177 (by decide) ?_
        refine ig_goto (tgt := 182) hx hb d_MA_ruleFits_178 (by decide) ?_
        refine ig_lv (lv' := [(0, .ref m0), (1, .ref q0), (3, .ref p0), (4, .int (nI n)), (7, .int (bI bd)), (8, .int (bI s0)), (10, .int (nI e1)), (11, .int (nI b))]) [1, 2, 3, 4, 5, 0, 7, 8] rfl ?_
        exact j182 _ _ _ _ _ _ _ _ _ _ hv
    · have hv := hv.2 h
      refine ig_aload_n hx hb 1 d_MA_ruleFits_146 rfl rfl ?_
      refine ig_get hx hb hts in_MA hown hK 0 rfl rfl 0 (by decide) (hts _ kw_0_81) (fun _ h => h) rfl d_MA_ruleFits_147 ?_
      refine ig_iload hx hb 4 d_MA_ruleFits_150 rfl ?_
      obtain ⟨hc, hv⟩ := hv
      refine ig_cSv (As := [.ref mn, .int (nI n)]) (rest := []) (wr := [(m0, .inr (ciMA, [.ref mn, .ref mb])), (mb, .inl (cZ, 121, .inl (fun zj => bI (mBc zj)))), (q0, .inr (ciRL, [.ref qt, .ref qs, .ref qe, .ref qb, .ref ql, .int nC])), (qt, .inl (cC, 1000, .inl tT)), (qs, .inl (cI, 60, .inl (fun zj => nI (aS zj)))), (qe, .inl (cI, 60, .inl (fun zj => nI (aE zj)))), (qb, .inl (cI, 60, .inl (fun zj => nI (aB zj)))), (p0, .inr (ciPA, [.ref pb, .ref ps, .int pC])), (pb, .inl (cC, 120, .inl pB)), (ps, .inl (cI, 21, .inl (fun zj => nI (pS zj))))]) (ws' := fun u => [(m0, .inr (ciMA, [.ref mn, .ref mb])), (mn, .inl (cZ, 21, .inl (fun zj => bI (u zj)))), (mb, .inl (cZ, 121, .inl (fun zj => bI (mBc zj)))), (q0, .inr (ciRL, [.ref qt, .ref qs, .ref qe, .ref qb, .ref ql, .int nC])), (qt, .inl (cC, 1000, .inl tT)), (qs, .inl (cI, 60, .inl (fun zj => nI (aS zj)))), (qe, .inl (cI, 60, .inl (fun zj => nI (aE zj)))), (qb, .inl (cI, 60, .inl (fun zj => nI (aB zj)))), (p0, .inr (ciPA, [.ref pb, .ref ps, .int pC])), (pb, .inl (cC, 120, .inl pB)), (ps, .inl (cI, 21, .inl (fun zj => nI (pS zj))))]) hx hb hml hown hts hK hN hA (fun sz => c_MA_spread l dC dI cC cI cZ cL mn mNc 21 n sz hc) ⟨callB_of 2 hts g_MA_spread rfl rfl rfl (hts _ kw_0_4) (hts _ kw_1_62) (by decide +kernel) (by decide), hts _ kw_1_63⟩ rfl rfl (Nat.le_of_ble_eq_true rfl) d_MA_ruleFits_152 (by decide) [1] [0, 2, 3, 4, 5, 6, 7, 8, 9, 10] [0, 10, 1, 2, 3, 4, 5, 6, 7, 8, 9] rfl rfl (by decide) (by decide) (by decide) (fun _ => rfl) (fun _ => rfl) (fun u hr => ?_)
      obtain ⟨zw2, hu⟩ : ∃ z, z = u := ⟨_, rfl⟩
      subst hu
      unfold p_MA_spread at hr
      have hv := hv zw2 hr
      refine ig_goto (tgt := 185) hx hb d_MA_ruleFits_155 (by decide) ?_
      refine ig_lv (lv' := [(0, .ref m0), (1, .ref q0), (3, .ref p0), (4, .int (nI n)), (7, .int (bI bd)), (8, .int (bI s0)), (10, .int (nI e1)), (11, .int (nI b))]) [1, 2, 3, 4, 5, 0, 7, 8] rfl ?_
      exact j185 _ _ _ _ _ _ hv
  have j138 : ∀ (bd : Bool) (g : Nat) (e1 : Nat) (b : Nat) (mNc : Nat → Bool) (mBc : Nat → Bool), v_MA_ruleFits_138 mN mB tT aS aE aB pB pS i n d K89 (p_MA_ruleFits mN mB tT aS aE aB pB pS i n d) bd g e1 b mNc mBc → ig_W zp l ze ({ frames := 3, cells := 0, slots := 0, locals := 87 }) zs zm zargs zbelow zmeth zc (dC, dI) ig_cl0 zA zs.heap 12 0 0 zQ 138 [(0, .ref m0), (1, .ref q0), (3, .ref p0), (4, .int (nI n)), (7, .int (bI bd)), (9, .int (nI g)), (10, .int (nI e1)), (11, .int (nI b))] [] [(m0, .inr (ciMA, [.ref mn, .ref mb])), (mn, .inl (cZ, 21, .inl (fun zj => bI (mNc zj)))), (mb, .inl (cZ, 121, .inl (fun zj => bI (mBc zj)))), (q0, .inr (ciRL, [.ref qt, .ref qs, .ref qe, .ref qb, .ref ql, .int nC])), (qt, .inl (cC, 1000, .inl tT)), (qs, .inl (cI, 60, .inl (fun zj => nI (aS zj)))), (qe, .inl (cI, 60, .inl (fun zj => nI (aE zj)))), (qb, .inl (cI, 60, .inl (fun zj => nI (aB zj)))), (p0, .inr (ciPA, [.ref pb, .ref ps, .int pC])), (pb, .inl (cC, 120, .inl pB)), (ps, .inl (cI, 21, .inl (fun zj => nI (pS zj))))] := by
    intro bd g e1 b mNc mBc hv
    unfold v_MA_ruleFits_138 at hv
    refine ig_iconst (v := 0) hx hb d_MA_ruleFits_138 (by decide) ?_
    refine ig_lv (lv' := [(0, .ref m0), (1, .ref q0), (3, .ref p0), (4, .int (nI n)), (7, .int (bI bd)), (9, .int (nI g)), (10, .int (nI e1)), (11, .int (nI b))]) [0, 1, 2, 3, 4, 5, 6, 7] rfl ?_
    exact j139 _ _ _ _ _ _ _ hv
  have j115 : ∀ (bd : Bool) (g : Nat) (e1 : Nat) (b : Nat) (mNc : Nat → Bool) (mBc : Nat → Bool), v_MA_ruleFits_115 mN mB tT aS aE aB pB pS i n d K89 (p_MA_ruleFits mN mB tT aS aE aB pB pS i n d) bd g e1 b mNc mBc → ig_W zp l ze ({ frames := 3, cells := 0, slots := 0, locals := 87 }) zs zm zargs zbelow zmeth zc (dC, dI) ig_cl0 zA zs.heap 12 0 0 zQ 115 [(0, .ref m0), (1, .ref q0), (3, .ref p0), (4, .int (nI n)), (7, .int (bI bd)), (9, .int (nI g)), (10, .int (nI e1)), (11, .int (nI b))] [] [(m0, .inr (ciMA, [.ref mn, .ref mb])), (mn, .inl (cZ, 21, .inl (fun zj => bI (mNc zj)))), (mb, .inl (cZ, 121, .inl (fun zj => bI (mBc zj)))), (q0, .inr (ciRL, [.ref qt, .ref qs, .ref qe, .ref qb, .ref ql, .int nC])), (qt, .inl (cC, 1000, .inl tT)), (qs, .inl (cI, 60, .inl (fun zj => nI (aS zj)))), (qe, .inl (cI, 60, .inl (fun zj => nI (aE zj)))), (qb, .inl (cI, 60, .inl (fun zj => nI (aB zj)))), (p0, .inr (ciPA, [.ref pb, .ref ps, .int pC])), (pb, .inl (cC, 120, .inl pB)), (ps, .inl (cI, 21, .inl (fun zj => nI (pS zj))))] := by
    intro bd g e1 b mNc mBc hv
    unfold v_MA_ruleFits_115 at hv
    refine ig_iload hx hb 4 d_MA_ruleFits_115 rfl ?_
    refine ig_if_eqB (tgt := 138) hx hb bd rfl d_MA_ruleFits_117 (by decide) (fun h => ?_) (fun h => ?_)
    · have hv := hv.1 h
      refine ig_lv (lv' := [(0, .ref m0), (1, .ref q0), (3, .ref p0), (4, .int (nI n)), (7, .int (bI bd)), (9, .int (nI g)), (10, .int (nI e1)), (11, .int (nI b))]) [0, 1, 2, 3, 4, 5, 6, 7] rfl ?_
      exact j138 _ _ _ _ _ _ hv
    · have hv := hv.2 h
      refine ig_aload_n hx hb 1 d_MA_ruleFits_120 rfl rfl ?_
      refine ig_getN hx hb hts in_RL hown hK 3 rfl rfl 0 (by decide) (va_Nw.use rfl (fk_0 hN)) (fun _ h => h) rfl d_MA_ruleFits_121 ?_
      refine ig_iload hx hb 5 d_MA_ruleFits_124 rfl ?_
      refine ig_iload hx hb 7 d_MA_ruleFits_126 rfl ?_
      obtain ⟨hc, hv⟩ := hv
      refine ig_cSi (As := [.ref qt, .int (nI g), .int (nI b)]) (rest := []) (wr := [(m0, .inr (ciMA, [.ref mn, .ref mb])), (mn, .inl (cZ, 21, .inl (fun zj => bI (mNc zj)))), (mb, .inl (cZ, 121, .inl (fun zj => bI (mBc zj)))), (q0, .inr (ciRL, [.ref qt, .ref qs, .ref qe, .ref qb, .ref ql, .int nC])), (qs, .inl (cI, 60, .inl (fun zj => nI (aS zj)))), (qe, .inl (cI, 60, .inl (fun zj => nI (aE zj)))), (qb, .inl (cI, 60, .inl (fun zj => nI (aB zj)))), (p0, .inr (ciPA, [.ref pb, .ref ps, .int pC])), (pb, .inl (cC, 120, .inl pB)), (ps, .inl (cI, 21, .inl (fun zj => nI (pS zj))))]) (ws' := fun u => [(m0, .inr (ciMA, [.ref mn, .ref mb])), (mn, .inl (cZ, 21, .inl (fun zj => bI (mNc zj)))), (mb, .inl (cZ, 121, .inl (fun zj => bI (mBc zj)))), (q0, .inr (ciRL, [.ref qt, .ref qs, .ref qe, .ref qb, .ref ql, .int nC])), (qt, .inl (cC, 1000, .inl tT)), (qs, .inl (cI, 60, .inl (fun zj => nI (aS zj)))), (qe, .inl (cI, 60, .inl (fun zj => nI (aE zj)))), (qb, .inl (cI, 60, .inl (fun zj => nI (aB zj)))), (p0, .inr (ciPA, [.ref pb, .ref ps, .int pC])), (pb, .inl (cC, 120, .inl pB)), (ps, .inl (cI, 21, .inl (fun zj => nI (pS zj))))]) hx hb hml hown hts hK hN hA (fun sz => c_MA_isDeep l dC dI cC cI cZ cL qt tT g b sz hc) ⟨callB_of 3 hts g_MA_isDeep rfl rfl rfl (hts _ kw_0_4) (hts _ kw_1_59) (by decide +kernel) (by decide), hts _ kw_1_60⟩ rfl rfl (Nat.le_of_ble_eq_true rfl) d_MA_ruleFits_128 (by decide) [4] [0, 1, 2, 3, 5, 6, 7, 8, 9, 10] [0, 1, 2, 3, 10, 4, 5, 6, 7, 8, 9] rfl rfl (by decide) (by decide) (by decide) (fun _ => rfl) (fun _ => rfl) (fun r u hr => ?_)
      obtain ⟨rr, rfl, hr⟩ := hr
      unfold p_MA_isDeep at hr
      subst hr
      refine ig_if_eqB (tgt := 138) hx hb (sp_deep tT g b) rfl d_MA_ruleFits_131 (by decide) (fun h => ?_) (fun h => ?_)
      · have hv := hv.1 h
        refine ig_lv (lv' := [(0, .ref m0), (1, .ref q0), (3, .ref p0), (4, .int (nI n)), (7, .int (bI bd)), (9, .int (nI g)), (10, .int (nI e1)), (11, .int (nI b))]) [0, 1, 2, 3, 4, 5, 6, 7] rfl ?_
        exact j138 _ _ _ _ _ _ hv
      · have hv := hv.2 h
        refine ig_iconst (v := 1) hx hb d_MA_ruleFits_134 (by decide) ?_
        refine ig_goto (tgt := 139) hx hb d_MA_ruleFits_135 (by decide) ?_
        refine ig_lv (lv' := [(0, .ref m0), (1, .ref q0), (3, .ref p0), (4, .int (nI n)), (7, .int (bI bd)), (9, .int (nI g)), (10, .int (nI e1)), (11, .int (nI b))]) [0, 1, 2, 3, 4, 5, 6, 7] rfl ?_
        exact j139 _ _ _ _ _ _ _ hv
  have k89 : ∀ (bd : Bool) (de : Bool) (g : Nat) (e1 : Nat) (b : Nat) (mNc : Nat → Bool) (mBc : Nat → Bool), v_MA_ruleFits_89 mN mB tT aS aE aB pB pS i n d K89 (p_MA_ruleFits mN mB tT aS aE aB pB pS i n d) bd de g e1 b mNc mBc → K89 bd de g e1 b mNc mBc := by
    intro bd de g e1 b mNc mBc hv
    unfold v_MA_ruleFits_89 at hv
    rw [hK89]
    show ig_W zp l ze ({ frames := 3, cells := 0, slots := 0, locals := 87 }) zs zm zargs zbelow zmeth zc (dC, dI) ig_cl0 zA zs.heap 12 0 0 zQ 89 [(0, .ref m0), (1, .ref q0), (3, .ref p0), (4, .int (nI n)), (7, .int (bI bd)), (8, .int (bI de)), (9, .int (nI g)), (10, .int (nI e1)), (11, .int (nI b))] [] [(m0, .inr (ciMA, [.ref mn, .ref mb])), (mn, .inl (cZ, 21, .inl (fun zj => bI (mNc zj)))), (mb, .inl (cZ, 121, .inl (fun zj => bI (mBc zj)))), (q0, .inr (ciRL, [.ref qt, .ref qs, .ref qe, .ref qb, .ref ql, .int nC])), (qt, .inl (cC, 1000, .inl tT)), (qs, .inl (cI, 60, .inl (fun zj => nI (aS zj)))), (qe, .inl (cI, 60, .inl (fun zj => nI (aE zj)))), (qb, .inl (cI, 60, .inl (fun zj => nI (aB zj)))), (p0, .inr (ciPA, [.ref pb, .ref ps, .int pC])), (pb, .inl (cC, 120, .inl pB)), (ps, .inl (cI, 21, .inl (fun zj => nI (pS zj))))]
    refine ig_iload hx hb 8 d_MA_ruleFits_89 rfl ?_
    refine ig_iload hx hb 7 d_MA_ruleFits_91 rfl ?_
    obtain ⟨h1, hv⟩ := hv
    obtain ⟨h2, hv⟩ := hv
    refine ig_icmp_gtN (tgt := 197) hx hb b e1 rfl rfl d_MA_ruleFits_93 (by decide) h1 h2 (fun h => ?_) (fun h => ?_)
    · have hv := hv.1 h
      refine ig_aload_n hx hb 0 d_MA_ruleFits_197 rfl rfl ?_
      refine ig_get hx hb hts in_MA hown hK 0 rfl rfl 0 (by decide) (hts _ kw_0_81) (fun _ h => h) rfl d_MA_ruleFits_198 ?_
      refine ig_iload hx hb 5 d_MA_ruleFits_201 rfl ?_
      refine ig_if_eqB (tgt := 213) hx hb de rfl d_MA_ruleFits_203 (by decide) (fun h => ?_) (fun h => ?_)
      · have hv := hv.1 h
        refine ig_iload hx hb 3 d_MA_ruleFits_213 rfl ?_
        obtain ⟨hc, hv⟩ := hv
        refine ig_zald (x := (bI (mNc n))) hx hb hK 1 2 rfl rfl n rfl hc (by decide) rfl d_MA_ruleFits_215 ?_
        exact hret 216 _ (bI (mNc n)) (mNc, mBc) d_MA_ruleFits_216 ⟨mNc n, rfl, hv⟩
      · have hv := hv.2 h
        refine ig_iload hx hb 3 d_MA_ruleFits_206 rfl ?_
        refine ig_iconst (v := 1) hx hb d_MA_ruleFits_208 (by decide) ?_
        obtain ⟨hc, hv⟩ := hv
        refine ig_isubN hx hb n 1 rfl rfl hc d_MA_ruleFits_209 ?_
        refine ig_goto (tgt := 215) hx hb d_MA_ruleFits_210 (by decide) ?_
        obtain ⟨hc, hv⟩ := hv
        refine ig_zald (x := (bI (mNc (n - 1)))) hx hb hK 1 2 rfl rfl (n - 1) rfl hc (by decide) rfl d_MA_ruleFits_215 ?_
        exact hret 216 _ (bI (mNc (n - 1))) (mNc, mBc) d_MA_ruleFits_216 ⟨mNc (n - 1), rfl, hv⟩
    · have hv := hv.2 h
      refine ig_iload hx hb 8 d_MA_ruleFits_96 rfl ?_
      refine ig_iload hx hb 7 d_MA_ruleFits_98 rfl ?_
      obtain ⟨h1, hv⟩ := hv
      obtain ⟨h2, hv⟩ := hv
      refine ig_icmp_eqN (tgt := 115) hx hb b e1 rfl rfl d_MA_ruleFits_100 (by decide) h1 h2 (fun h => ?_) (fun h => ?_)
      · have hv := hv.1 h
        refine ig_lv (lv' := [(0, .ref m0), (1, .ref q0), (3, .ref p0), (4, .int (nI n)), (7, .int (bI bd)), (9, .int (nI g)), (10, .int (nI e1)), (11, .int (nI b))]) [0, 1, 2, 3, 4, 6, 7, 8] rfl ?_
        exact j115 _ _ _ _ _ _ hv
      · have hv := hv.2 h
        refine ig_aload_n hx hb 1 d_MA_ruleFits_103 rfl rfl ?_
        refine ig_getN hx hb hts in_RL hown hK 3 rfl rfl 0 (by decide) (va_Nw.use rfl (fk_0 hN)) (fun _ h => h) rfl d_MA_ruleFits_104 ?_
        refine ig_iload hx hb 8 d_MA_ruleFits_107 rfl ?_
        obtain ⟨hc, hv⟩ := hv
        refine ig_cald (x := (tT b)) hx hb hK 4 0 rfl rfl b rfl hc (by decide) rfl d_MA_ruleFits_109 ?_
        refine ig_bipush (v := 47) hx hb d_MA_ruleFits_110 (by decide) ?_
        refine ig_icmp_ne (tgt := 191) hx hb d_MA_ruleFits_112 (by decide) (fun h => ?_) (fun h => ?_)
        · have hv := hv.1 h
          refine ig_iinc (v := (nI (b + 1))) (lv' := [(11, .int (nI (b + 1))), (0, .ref m0), (1, .ref q0), (3, .ref p0), (4, .int (nI n)), (7, .int (bI bd)), (8, .int (bI de)), (9, .int (nI g)), (10, .int (nI e1))]) hx hb 8 d_MA_ruleFits_191 rfl (ig_inc b 1 (by decide)) (by decide) rfl ?_
          refine ig_goto (tgt := 89) hx hb d_MA_ruleFits_194 (by decide) ?_
          refine ig_lv (lv' := [(0, .ref m0), (1, .ref q0), (3, .ref p0), (4, .int (nI n)), (7, .int (bI bd)), (8, .int (bI de)), (9, .int (nI g)), (10, .int (nI e1)), (11, .int (nI (b + 1)))]) [1, 2, 3, 4, 5, 6, 7, 8, 0] rfl ?_
          rw [hK89] at hv
          exact hv
        · have hv := hv.2 h
          refine ig_lv (lv' := [(0, .ref m0), (1, .ref q0), (3, .ref p0), (4, .int (nI n)), (7, .int (bI bd)), (9, .int (nI g)), (10, .int (nI e1)), (11, .int (nI b))]) [0, 1, 2, 3, 4, 6, 7, 8] rfl ?_
          exact j115 _ _ _ _ _ _ hv
  have hv := t_MA_ruleFits mN mB tT aS aE aB pB pS i n d hr K89 k89
  unfold v_MA_ruleFits at hv
  refine ig_aload_n hx hb 1 d_MA_ruleFits_0 rfl rfl ?_
  refine ig_getN hx hb hts in_RL hown hK 3 rfl rfl 3 (by decide) (va_Nw.use rfl (fk_4 hN)) (fun _ h => h) rfl d_MA_ruleFits_1 ?_
  refine ig_iload_n hx hb 2 d_MA_ruleFits_4 rfl rfl ?_
  obtain ⟨hc, hv⟩ := hv
  refine ig_iald (x := (nI (aB i))) hx hb hK 7 1 rfl rfl i rfl hc (by decide) rfl d_MA_ruleFits_5 ?_
  refine ig_istore (lv' := [(6, .int (nI (aB i))), (0, .ref m0), (1, .ref q0), (2, .int (nI i)), (3, .ref p0), (4, .int (nI n)), (5, .int (bI d))]) hx hb d_MA_ruleFits_6 (by decide) rfl ?_
  refine ig_iload hx hb 0 d_MA_ruleFits_8 rfl ?_
  refine ig_bipush (v := 8) hx hb d_MA_ruleFits_10 (by decide) ?_
  refine ig_iandN hx hb (aB i) 8 rfl rfl d_MA_ruleFits_12 ?_
  obtain ⟨h1, hv⟩ := hv
  refine ig_if_neN (tgt := 28) hx hb ((aB i) &&& 8) rfl d_MA_ruleFits_13 (by decide) h1 (fun h => ?_) (fun h => ?_)
  · have hv := hv.1 h
    refine ig_iconst (v := 0) hx hb d_MA_ruleFits_28 (by decide) ?_
    exact hret 29 _ 0 (mN, mB) d_MA_ruleFits_29 ⟨false, rfl, hv⟩
  · have hv := hv.2 h
    refine ig_iload hx hb 0 d_MA_ruleFits_16 rfl ?_
    refine ig_iconst (v := 2) hx hb d_MA_ruleFits_18 (by decide) ?_
    refine ig_iandN hx hb (aB i) 2 rfl rfl d_MA_ruleFits_19 ?_
    obtain ⟨h1, hv⟩ := hv
    refine ig_if_eqN (tgt := 30) hx hb ((aB i) &&& 2) rfl d_MA_ruleFits_20 (by decide) h1 (fun h => ?_) (fun h => ?_)
    · have hv := hv.1 h
      refine ig_lv (lv' := [(0, .ref m0), (1, .ref q0), (2, .int (nI i)), (3, .ref p0), (4, .int (nI n)), (6, .int (nI (aB i)))]) [1, 2, 3, 4, 5, 0] rfl ?_
      exact j30 _ _ _ hv
    · have hv := hv.2 h
      refine ig_iload hx hb 6 d_MA_ruleFits_23 rfl ?_
      refine ig_if_neB (tgt := 30) hx hb d rfl d_MA_ruleFits_25 (by decide) (fun h => ?_) (fun h => ?_)
      · have hv := hv.1 h
        refine ig_lv (lv' := [(0, .ref m0), (1, .ref q0), (2, .int (nI i)), (3, .ref p0), (4, .int (nI n)), (6, .int (nI (aB i)))]) [1, 2, 3, 4, 5, 0] rfl ?_
        exact j30 _ _ _ hv
      · have hv := hv.2 h
        refine ig_iconst (v := 0) hx hb d_MA_ruleFits_28 (by decide) ?_
        exact hret 29 _ 0 (mN, mB) d_MA_ruleFits_29 ⟨false, rfl, hv⟩
