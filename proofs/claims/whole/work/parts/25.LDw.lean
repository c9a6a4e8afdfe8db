theorem kw_0_34 : Cond.fieldLink "IgnoreRules$RuleList" 22 "IgnoreRules$RuleList" "bits" "[I" ∈ ig_T := ig_T_mem (List.mem_append_left _ (List.mem_of_getElem? (i := 34) rfl)) rfl
theorem kw_0_37 : Cond.fieldLink "IgnoreRules$RuleList" 25 "IgnoreRules$RuleList" "lines" "[I" ∈ ig_T := ig_T_mem (List.mem_append_left _ (List.mem_of_getElem? (i := 37) rfl)) rfl
theorem kw_0_39 : Cond.fieldLink "IgnoreRules$RuleList" 28 "IgnoreRules$RuleList" "count" "I" ∈ ig_T := ig_T_mem (List.mem_append_left _ (List.mem_of_getElem? (i := 39) rfl)) rfl
theorem kw_0_62 : Cond.fieldLink "IgnoreRules$Path" 9 "IgnoreRules$Path" "bytes" "[C" ∈ ig_T := ig_T_mem (List.mem_append_left _ (List.mem_of_getElem? (i := 62) rfl)) rfl
theorem kw_0_66 : Cond.fieldLink "IgnoreRules$Path" 19 "IgnoreRules$Path" "count" "I" ∈ ig_T := ig_T_mem (List.mem_append_left _ (List.mem_of_getElem? (i := 66) rfl)) rfl
theorem kw_0_120 : Cond.methodLink "IgnoreRules$RuleList" 32 y_RL_withoutBlanks ∈ ig_T := ig_T_mem (List.mem_append_left _ (List.mem_of_getElem? (i := 120) rfl)) rfl
theorem kw_0_122 : Cond.instanceMethod y_RL_withoutBlanks ∈ ig_T := ig_T_mem (List.mem_append_left _ (List.mem_of_getElem? (i := 122) rfl)) rfl
theorem kw_0_128 : Cond.methodLink "IgnoreRules$RuleList" 36 y_RL_add ∈ ig_T := ig_T_mem (List.mem_append_left _ (List.mem_of_getElem? (i := 128) rfl)) rfl
theorem kw_0_130 : Cond.instanceMethod y_RL_add ∈ ig_T := ig_T_mem (List.mem_append_left _ (List.mem_of_getElem? (i := 130) rfl)) rfl
theorem kw_0_136 : Cond.methodLink "IgnoreRules$RuleList" 47 y_RL_hasVoidName ∈ ig_T := ig_T_mem (List.mem_append_left _ (List.mem_of_getElem? (i := 136) rfl)) rfl
theorem kw_0_138 : Cond.instanceMethod y_RL_hasVoidName ∈ ig_T := ig_T_mem (List.mem_append_left _ (List.mem_of_getElem? (i := 138) rfl)) rfl
theorem d_RL_add_0 : decode b_RL_add 0 = .ok (.iload_n 1, 1) := by decide +kernel
theorem d_RL_add_1 : decode b_RL_add 1 = .ok (.istore 4, 2) := by decide +kernel
theorem d_RL_add_3 : decode b_RL_add 3 = .ok (.iload_n 2, 1) := by decide +kernel
theorem d_RL_add_4 : decode b_RL_add 4 = .ok (.istore 5, 2) := by decide +kernel
theorem d_RL_add_6 : decode b_RL_add 6 = .ok (.iconst 0, 1) := by decide +kernel
theorem d_RL_add_7 : decode b_RL_add 7 = .ok (.istore 6, 2) := by decide +kernel
theorem d_RL_add_9 : decode b_RL_add 9 = .ok (.aload_n 0, 1) := by decide +kernel
theorem d_RL_add_10 : decode b_RL_add 10 = .ok (.getfield 9, 3) := by decide +kernel
theorem d_RL_add_13 : decode b_RL_add 13 = .ok (.iload 4, 2) := by decide +kernel
theorem d_RL_add_15 : decode b_RL_add 15 = .ok (.caload, 1) := by decide +kernel
theorem d_RL_add_16 : decode b_RL_add 16 = .ok (.bipush 33, 2) := by decide +kernel
theorem d_RL_add_18 : decode b_RL_add 18 = .ok (.if_icmp .ne 12, 3) := by decide +kernel
theorem d_RL_add_21 : decode b_RL_add 21 = .ok (.iload 6, 2) := by decide +kernel
theorem d_RL_add_23 : decode b_RL_add 23 = .ok (.iconst 1, 1) := by decide +kernel
theorem d_RL_add_24 : decode b_RL_add 24 = .ok (.ior, 1) := by decide +kernel
theorem d_RL_add_25 : decode b_RL_add 25 = .ok (.istore 6, 2) := by decide +kernel
theorem d_RL_add_27 : decode b_RL_add 27 = .ok (.iinc 4 1, 3) := by decide +kernel
theorem d_RL_add_30 : decode b_RL_add 30 = .ok (.iload 4, 2) := by decide +kernel
theorem d_RL_add_32 : decode b_RL_add 32 = .ok (.iload 5, 2) := by decide +kernel
theorem d_RL_add_34 : decode b_RL_add 34 = .ok (.if_icmp .ge 39, 3) := by decide +kernel
theorem d_RL_add_37 : decode b_RL_add 37 = .ok (.aload_n 0, 1) := by decide +kernel
theorem d_RL_add_38 : decode b_RL_add 38 = .ok (.getfield 9, 3) := by decide +kernel
theorem d_RL_add_41 : decode b_RL_add 41 = .ok (.iload 5, 2) := by decide +kernel
theorem d_RL_add_43 : decode b_RL_add 43 = .ok (.iconst 1, 1) := by decide +kernel
theorem d_RL_add_44 : decode b_RL_add 44 = .ok (.isub, 1) := by decide +kernel
theorem d_RL_add_45 : decode b_RL_add 45 = .ok (.caload, 1) := by decide +kernel
theorem d_RL_add_46 : decode b_RL_add 46 = .ok (.bipush 47, 2) := by decide +kernel
theorem d_RL_add_48 : decode b_RL_add 48 = .ok (.if_icmp .ne 25, 3) := by decide +kernel
theorem d_RL_add_51 : decode b_RL_add 51 = .ok (.aload_n 0, 1) := by decide +kernel
theorem d_RL_add_52 : decode b_RL_add 52 = .ok (.iload 4, 2) := by decide +kernel
theorem d_RL_add_54 : decode b_RL_add 54 = .ok (.iload 5, 2) := by decide +kernel
theorem d_RL_add_56 : decode b_RL_add 56 = .ok (.iconst 1, 1) := by decide +kernel
theorem d_RL_add_57 : decode b_RL_add 57 = .ok (.isub, 1) := by decide +kernel
theorem d_RL_add_58 : decode b_RL_add 58 = .ok (.invokevirtual 40, 3) := by decide +kernel
theorem d_RL_add_61 : decode b_RL_add 61 = .ok (.ifCond .ne 12, 3) := by decide +kernel
theorem d_RL_add_64 : decode b_RL_add 64 = .ok (.iload 6, 2) := by decide +kernel
theorem d_RL_add_66 : decode b_RL_add 66 = .ok (.iconst 2, 1) := by decide +kernel
theorem d_RL_add_67 : decode b_RL_add 67 = .ok (.ior, 1) := by decide +kernel
theorem d_RL_add_68 : decode b_RL_add 68 = .ok (.istore 6, 2) := by decide +kernel
theorem d_RL_add_70 : decode b_RL_add 70 = .ok (.iinc 5 (-1), 3) := by decide +kernel
theorem d_RL_add_73 : decode b_RL_add 73 = .ok (.aload_n 0, 1) := by decide +kernel
theorem d_RL_add_74 : decode b_RL_add 74 = .ok (.iload 4, 2) := by decide +kernel
theorem d_RL_add_76 : decode b_RL_add 76 = .ok (.iload 5, 2) := by decide +kernel
theorem d_RL_add_78 : decode b_RL_add 78 = .ok (.invokevirtual 44, 3) := by decide +kernel
theorem d_RL_add_81 : decode b_RL_add 81 = .ok (.iload 5, 2) := by decide +kernel
theorem d_RL_add_83 : decode b_RL_add 83 = .ok (.if_icmp .ge 24, 3) := by decide +kernel
theorem d_RL_add_86 : decode b_RL_add 86 = .ok (.iload 6, 2) := by decide +kernel
theorem d_RL_add_88 : decode b_RL_add 88 = .ok (.iconst 4, 1) := by decide +kernel
theorem d_RL_add_89 : decode b_RL_add 89 = .ok (.ior, 1) := by decide +kernel
theorem d_RL_add_90 : decode b_RL_add 90 = .ok (.istore 6, 2) := by decide +kernel
theorem d_RL_add_92 : decode b_RL_add 92 = .ok (.aload_n 0, 1) := by decide +kernel
theorem d_RL_add_93 : decode b_RL_add 93 = .ok (.getfield 9, 3) := by decide +kernel
theorem d_RL_add_96 : decode b_RL_add 96 = .ok (.iload 4, 2) := by decide +kernel
theorem d_RL_add_98 : decode b_RL_add 98 = .ok (.caload, 1) := by decide +kernel
theorem d_RL_add_99 : decode b_RL_add 99 = .ok (.bipush 47, 2) := by decide +kernel
theorem d_RL_add_101 : decode b_RL_add 101 = .ok (.if_icmp .ne 6, 3) := by decide +kernel
theorem d_RL_add_104 : decode b_RL_add 104 = .ok (.iinc 4 1, 3) := by decide +kernel
theorem d_RL_add_107 : decode b_RL_add 107 = .ok (.aload_n 0, 1) := by decide +kernel
theorem d_RL_add_108 : decode b_RL_add 108 = .ok (.iload 4, 2) := by decide +kernel
theorem d_RL_add_110 : decode b_RL_add 110 = .ok (.iload 5, 2) := by decide +kernel
theorem d_RL_add_112 : decode b_RL_add 112 = .ok (.invokevirtual 47, 3) := by decide +kernel
theorem d_RL_add_115 : decode b_RL_add 115 = .ok (.ifCond .eq 10, 3) := by decide +kernel
theorem d_RL_add_118 : decode b_RL_add 118 = .ok (.iload 6, 2) := by decide +kernel
theorem d_RL_add_120 : decode b_RL_add 120 = .ok (.bipush 8, 2) := by decide +kernel
theorem d_RL_add_122 : decode b_RL_add 122 = .ok (.ior, 1) := by decide +kernel
theorem d_RL_add_123 : decode b_RL_add 123 = .ok (.istore 6, 2) := by decide +kernel
theorem d_RL_add_125 : decode b_RL_add 125 = .ok (.aload_n 0, 1) := by decide +kernel
theorem d_RL_add_126 : decode b_RL_add 126 = .ok (.getfield 15, 3) := by decide +kernel
theorem d_RL_add_129 : decode b_RL_add 129 = .ok (.aload_n 0, 1) := by decide +kernel
theorem d_RL_add_130 : decode b_RL_add 130 = .ok (.getfield 28, 3) := by decide +kernel
theorem d_RL_add_133 : decode b_RL_add 133 = .ok (.iload 4, 2) := by decide +kernel
theorem d_RL_add_135 : decode b_RL_add 135 = .ok (.iastore, 1) := by decide +kernel
theorem d_RL_add_136 : decode b_RL_add 136 = .ok (.aload_n 0, 1) := by decide +kernel
theorem d_RL_add_137 : decode b_RL_add 137 = .ok (.getfield 19, 3) := by decide +kernel
theorem d_RL_add_140 : decode b_RL_add 140 = .ok (.aload_n 0, 1) := by decide +kernel
theorem d_RL_add_141 : decode b_RL_add 141 = .ok (.getfield 28, 3) := by decide +kernel
theorem d_RL_add_144 : decode b_RL_add 144 = .ok (.iload 5, 2) := by decide +kernel
theorem d_RL_add_146 : decode b_RL_add 146 = .ok (.iastore, 1) := by decide +kernel
theorem d_RL_add_147 : decode b_RL_add 147 = .ok (.aload_n 0, 1) := by decide +kernel
theorem d_RL_add_148 : decode b_RL_add 148 = .ok (.getfield 22, 3) := by decide +kernel
theorem d_RL_add_151 : decode b_RL_add 151 = .ok (.aload_n 0, 1) := by decide +kernel
theorem d_RL_add_152 : decode b_RL_add 152 = .ok (.getfield 28, 3) := by decide +kernel
theorem d_RL_add_155 : decode b_RL_add 155 = .ok (.iload 6, 2) := by decide +kernel
theorem d_RL_add_157 : decode b_RL_add 157 = .ok (.iastore, 1) := by decide +kernel
theorem d_RL_add_158 : decode b_RL_add 158 = .ok (.aload_n 0, 1) := by decide +kernel
theorem d_RL_add_159 : decode b_RL_add 159 = .ok (.getfield 25, 3) := by decide +kernel
theorem d_RL_add_162 : decode b_RL_add 162 = .ok (.aload_n 0, 1) := by decide +kernel
theorem d_RL_add_163 : decode b_RL_add 163 = .ok (.getfield 28, 3) := by decide +kernel
theorem d_RL_add_166 : decode b_RL_add 166 = .ok (.iload_n 3, 1) := by decide +kernel
theorem d_RL_add_167 : decode b_RL_add 167 = .ok (.iastore, 1) := by decide +kernel
theorem d_RL_add_168 : decode b_RL_add 168 = .ok (.aload_n 0, 1) := by decide +kernel
theorem d_RL_add_169 : decode b_RL_add 169 = .ok (.dup, 1) := by decide +kernel
theorem d_RL_add_170 : decode b_RL_add 170 = .ok (.getfield 28, 3) := by decide +kernel
theorem d_RL_add_173 : decode b_RL_add 173 = .ok (.iconst 1, 1) := by decide +kernel
theorem d_RL_add_174 : decode b_RL_add 174 = .ok (.iadd, 1) := by decide +kernel
theorem d_RL_add_175 : decode b_RL_add 175 = .ok (.putfield 28, 3) := by decide +kernel
theorem d_RL_add_178 : decode b_RL_add 178 = .ok (.return_, 1) := by decide +kernel
abbrev w_RL_add : List Cond := Cond.code y_RL_add b_RL_add 7 none :: ig_T
theorem g_RL_add : GoodIn ig_T w_RL_add := ig_T_good (ig_T_mem (List.mem_append_left _ (List.mem_of_getElem? (i := 131) rfl)) rfl)
set_option maxHeartbeats 4000000 in
set_option maxRecDepth 100000 in
theorem c_RL_add (l : Launch) (dC : Nat → ClassId) (dI : Nat → Nat → Nat) (cC cI cZ cL : ClassId) (q0 qt qs qe qb ql : Nat)  (tT : Nat → Int32) (aS : Nat → Nat) (aE : Nat → Nat) (aB : Nat → Nat) (aL : Nat → Nat) (nC : Nat) (f : Nat) (a : Nat) (no : Nat) (sz : Nat) (hr : r_RL_add tT aS aE aB aL nC f a no) : Met l y_RL_add w_RL_add ({ frames := 3, cells := 0, slots := 0, locals := 73 }) (ig_Pc (dC, dI) ig_cl0 [(cC, .char), (cI, .int), (cZ, .boolean), (cL, .long)] [.ref q0, .int (nI f), .int (nI a), .int (nI no)] [(q0, .inr (ciRL, [.ref qt, .ref qs, .ref qe, .ref qb, .ref ql, .int (nI nC)])), (qt, .inl (cC, 1000, .inl tT)), (qs, .inl (cI, 60, .inl (fun zj => nI (aS zj)))), (qe, .inl (cI, 60, .inl (fun zj => nI (aE zj)))), (qb, .inl (cI, 60, .inl (fun zj => nI (aB zj)))), (ql, .inl (cI, 60, .inl (fun zj => nI (aL zj))))] sz) (va_Qv (fun (u : (Nat → Nat) × (Nat → Nat) × (Nat → Nat) × (Nat → Nat) × Nat) => p_RL_add tT aS aE aB aL nC f a no u.1 u.2.1 u.2.2.1 u.2.2.2.1 u.2.2.2.2) (fun u t => va_P (dC, dI) ig_cl0 ((fun (u : (Nat → Nat) × (Nat → Nat) × (Nat → Nat) × (Nat → Nat) × Nat) => [(q0, .inr (ciRL, [.ref qt, .ref qs, .ref qe, .ref qb, .ref ql, .int (nI u.2.2.2.2)])), (qt, .inl (cC, 1000, .inl tT)), (qs, .inl (cI, 60, .inl (fun zj => nI (u.1 zj)))), (qe, .inl (cI, 60, .inl (fun zj => nI (u.2.1 zj)))), (qb, .inl (cI, 60, .inl (fun zj => nI (u.2.2.1 zj)))), (ql, .inl (cI, 60, .inl (fun zj => nI (u.2.2.2.1 zj))))]) u) t.heap ∧ va_D (va_A [(q0, .inr (ciRL, [.ref qt, .ref qs, .ref qe, .ref qb, .ref ql, .int (nI nC)])), (qt, .inl (cC, 1000, .inl tT)), (qs, .inl (cI, 60, .inl (fun zj => nI (aS zj)))), (qe, .inl (cI, 60, .inl (fun zj => nI (aE zj)))), (qb, .inl (cI, 60, .inl (fun zj => nI (aB zj)))), (ql, .inl (cI, 60, .inl (fun zj => nI (aL zj))))] sz) ((fun (u : (Nat → Nat) × (Nat → Nat) × (Nat → Nat) × (Nat → Nat) × Nat) => [(q0, .inr (ciRL, [.ref qt, .ref qs, .ref qe, .ref qb, .ref ql, .int (nI u.2.2.2.2)])), (qt, .inl (cC, 1000, .inl tT)), (qs, .inl (cI, 60, .inl (fun zj => nI (u.1 zj)))), (qe, .inl (cI, 60, .inl (fun zj => nI (u.2.1 zj)))), (qb, .inl (cI, 60, .inl (fun zj => nI (u.2.2.1 zj)))), (ql, .inl (cI, 60, .inl (fun zj => nI (u.2.2.2.1 zj))))]) u)) (va_A [(q0, .inr (ciRL, [.ref qt, .ref qs, .ref qe, .ref qb, .ref ql, .int (nI nC)])), (qt, .inl (cC, 1000, .inl tT)), (qs, .inl (cI, 60, .inl (fun zj => nI (aS zj)))), (qe, .inl (cI, 60, .inl (fun zj => nI (aE zj)))), (qb, .inl (cI, 60, .inl (fun zj => nI (aB zj)))), (ql, .inl (cI, 60, .inl (fun zj => nI (aL zj))))] sz)) 0 0 (va_A [(q0, .inr (ciRL, [.ref qt, .ref qs, .ref qe, .ref qb, .ref ql, .int (nI nC)])), (qt, .inl (cC, 1000, .inl tT)), (qs, .inl (cI, 60, .inl (fun zj => nI (aS zj)))), (qe, .inl (cI, 60, .inl (fun zj => nI (aE zj)))), (qb, .inl (cI, 60, .inl (fun zj => nI (aB zj)))), (ql, .inl (cI, 60, .inl (fun zj => nI (aL zj))))] sz) := by
  refine ig_metV (fun (u : (Nat → Nat) × (Nat → Nat) × (Nat → Nat) × (Nat → Nat) × Nat) => p_RL_add tT aS aE aB aL nC f a no u.1 u.2.1 u.2.2.1 u.2.2.2.1 u.2.2.2.2) (fun (u : (Nat → Nat) × (Nat → Nat) × (Nat → Nat) × (Nat → Nat) × Nat) => [(q0, .inr (ciRL, [.ref qt, .ref qs, .ref qe, .ref qb, .ref ql, .int (nI u.2.2.2.2)])), (qt, .inl (cC, 1000, .inl tT)), (qs, .inl (cI, 60, .inl (fun zj => nI (u.1 zj)))), (qe, .inl (cI, 60, .inl (fun zj => nI (u.2.1 zj)))), (qb, .inl (cI, 60, .inl (fun zj => nI (u.2.2.1 zj)))), (ql, .inl (cI, 60, .inl (fun zj => nI (u.2.2.2.1 zj))))]) (by decide) rfl (Nat.le_of_ble_eq_true rfl) rfl ?_
  intro zp ze zs zm zargs zbelow zmeth zc zA zQ hx hb hml hown hts hK hN hA hret
  have j125 : ∀ (g : Nat) (b : Nat) (x : Nat) (nCc : Nat) (aSc : Nat → Nat) (aEc : Nat → Nat) (aBc : Nat → Nat) (aLc : Nat → Nat), v_RL_add_125 tT aS aE aB aL nC f a no (p_RL_add tT aS aE aB aL nC f a no) g b x nCc aSc aEc aBc aLc → ig_W zp l ze ({ frames := 3, cells := 0, slots := 0, locals := 73 }) zs zm zargs zbelow zmeth zc (dC, dI) ig_cl0 zA zs.heap 7 0 0 zQ 125 [(0, .ref q0), (3, .int (nI no)), (4, .int (nI g)), (5, .int (nI b)), (6, .int (nI x))] [] [(q0, .inr (ciRL, [.ref qt, .ref qs, .ref qe, .ref qb, .ref ql, .int (nI nCc)])), (qt, .inl (cC, 1000, .inl tT)), (qs, .inl (cI, 60, .inl (fun zj => nI (aSc zj)))), (qe, .inl (cI, 60, .inl (fun zj => nI (aEc zj)))), (qb, .inl (cI, 60, .inl (fun zj => nI (aBc zj)))), (ql, .inl (cI, 60, .inl (fun zj => nI (aLc zj))))] := by
    intro g b x nCc aSc aEc aBc aLc hv
    unfold v_RL_add_125 at hv
    refine ig_aload_n hx hb 0 d_RL_add_125 rfl rfl ?_
    refine ig_get hx hb hts in_RL hown hK 0 rfl rfl 1 (by decide) (hts _ kw_0_30) (fun _ h => h) rfl d_RL_add_126 ?_
    refine ig_aload_n hx hb 0 d_RL_add_129 rfl rfl ?_
    refine ig_get hx hb hts in_RL hown hK 0 rfl rfl 5 (by decide) (hts _ kw_0_39) (fun _ h => h) rfl d_RL_add_130 ?_
    refine ig_iload hx hb 2 d_RL_add_133 rfl ?_
    obtain ⟨hc, hv⟩ := hv
    refine ig_iast (f' := fun zj => nI ((updN aSc nCc g) zj)) (ws' := [(q0, .inr (ciRL, [.ref qt, .ref qs, .ref qe, .ref qb, .ref ql, .int (nI nCc)])), (qt, .inl (cC, 1000, .inl tT)), (qs, .inl (cI, 60, .inl (fun zj => nI ((updN aSc nCc g) zj)))), (qe, .inl (cI, 60, .inl (fun zj => nI (aEc zj)))), (qb, .inl (cI, 60, .inl (fun zj => nI (aBc zj)))), (ql, .inl (cI, 60, .inl (fun zj => nI (aLc zj))))]) hx hb hK 2 1 rfl rfl nCc rfl hc (by decide) (upd_N aSc nCc g) d_RL_add_135 rfl ?_
    refine ig_aload_n hx hb 0 d_RL_add_136 rfl rfl ?_
    refine ig_get hx hb hts in_RL hown hK 0 rfl rfl 2 (by decide) (hts _ kw_0_32) (fun _ h => h) rfl d_RL_add_137 ?_
    refine ig_aload_n hx hb 0 d_RL_add_140 rfl rfl ?_
    refine ig_get hx hb hts in_RL hown hK 0 rfl rfl 5 (by decide) (hts _ kw_0_39) (fun _ h => h) rfl d_RL_add_141 ?_
    refine ig_iload hx hb 3 d_RL_add_144 rfl ?_
    obtain ⟨hc, hv⟩ := hv
    refine ig_iast (f' := fun zj => nI ((updN aEc nCc b) zj)) (ws' := [(q0, .inr (ciRL, [.ref qt, .ref qs, .ref qe, .ref qb, .ref ql, .int (nI nCc)])), (qt, .inl (cC, 1000, .inl tT)), (qs, .inl (cI, 60, .inl (fun zj => nI ((updN aSc nCc g) zj)))), (qe, .inl (cI, 60, .inl (fun zj => nI ((updN aEc nCc b) zj)))), (qb, .inl (cI, 60, .inl (fun zj => nI (aBc zj)))), (ql, .inl (cI, 60, .inl (fun zj => nI (aLc zj))))]) hx hb hK 3 1 rfl rfl nCc rfl hc (by decide) (upd_N aEc nCc b) d_RL_add_146 rfl ?_
    refine ig_aload_n hx hb 0 d_RL_add_147 rfl rfl ?_
    refine ig_get hx hb hts in_RL hown hK 0 rfl rfl 3 (by decide) (hts _ kw_0_34) (fun _ h => h) rfl d_RL_add_148 ?_
    refine ig_aload_n hx hb 0 d_RL_add_151 rfl rfl ?_
    refine ig_get hx hb hts in_RL hown hK 0 rfl rfl 5 (by decide) (hts _ kw_0_39) (fun _ h => h) rfl d_RL_add_152 ?_
    refine ig_iload hx hb 4 d_RL_add_155 rfl ?_
    obtain ⟨hc, hv⟩ := hv
    refine ig_iast (f' := fun zj => nI ((updN aBc nCc x) zj)) (ws' := [(q0, .inr (ciRL, [.ref qt, .ref qs, .ref qe, .ref qb, .ref ql, .int (nI nCc)])), (qt, .inl (cC, 1000, .inl tT)), (qs, .inl (cI, 60, .inl (fun zj => nI ((updN aSc nCc g) zj)))), (qe, .inl (cI, 60, .inl (fun zj => nI ((updN aEc nCc b) zj)))), (qb, .inl (cI, 60, .inl (fun zj => nI ((updN aBc nCc x) zj)))), (ql, .inl (cI, 60, .inl (fun zj => nI (aLc zj))))]) hx hb hK 4 1 rfl rfl nCc rfl hc (by decide) (upd_N aBc nCc x) d_RL_add_157 rfl ?_
    refine ig_aload_n hx hb 0 d_RL_add_158 rfl rfl ?_
    refine ig_get hx hb hts in_RL hown hK 0 rfl rfl 4 (by decide) (hts _ kw_0_37) (fun _ h => h) rfl d_RL_add_159 ?_
    refine ig_aload_n hx hb 0 d_RL_add_162 rfl rfl ?_
    refine ig_get hx hb hts in_RL hown hK 0 rfl rfl 5 (by decide) (hts _ kw_0_39) (fun _ h => h) rfl d_RL_add_163 ?_
    refine ig_iload_n hx hb 1 d_RL_add_166 rfl rfl ?_
    obtain ⟨hc, hv⟩ := hv
    refine ig_iast (f' := fun zj => nI ((updN aLc nCc no) zj)) (ws' := [(q0, .inr (ciRL, [.ref qt, .ref qs, .ref qe, .ref qb, .ref ql, .int (nI nCc)])), (qt, .inl (cC, 1000, .inl tT)), (qs, .inl (cI, 60, .inl (fun zj => nI ((updN aSc nCc g) zj)))), (qe, .inl (cI, 60, .inl (fun zj => nI ((updN aEc nCc b) zj)))), (qb, .inl (cI, 60, .inl (fun zj => nI ((updN aBc nCc x) zj)))), (ql, .inl (cI, 60, .inl (fun zj => nI ((updN aLc nCc no) zj))))]) hx hb hK 5 1 rfl rfl nCc rfl hc (by decide) (upd_N aLc nCc no) d_RL_add_167 rfl ?_
    refine ig_aload_n hx hb 0 d_RL_add_168 rfl rfl ?_
    refine ig_dup hx hb d_RL_add_169 rfl ?_
    refine ig_get hx hb hts in_RL hown hK 0 rfl rfl 5 (by decide) (hts _ kw_0_39) (fun _ h => h) rfl d_RL_add_170 ?_
    refine ig_iconst (v := 1) hx hb d_RL_add_173 (by decide) ?_
    refine ig_iaddN hx hb nCc 1 rfl rfl d_RL_add_174 ?_
    refine ig_put (ty := .int) (v := .int (nI (nCc + 1))) (ws' := [(q0, .inr (ciRL, [.ref qt, .ref qs, .ref qe, .ref qb, .ref ql, .int (nI (nCc + 1))])), (qt, .inl (cC, 1000, .inl tT)), (qs, .inl (cI, 60, .inl (fun zj => nI ((updN aSc nCc g) zj)))), (qe, .inl (cI, 60, .inl (fun zj => nI ((updN aEc nCc b) zj)))), (qb, .inl (cI, 60, .inl (fun zj => nI ((updN aBc nCc x) zj)))), (ql, .inl (cI, 60, .inl (fun zj => nI ((updN aLc nCc no) zj))))]) hx hb hts in_RL t_RL t_RL_ok n_RL hown hK 0 rfl rfl 5 (by decide) (hts _ kw_0_39) (fun _ h => h) rfl (by decide +kernel) rfl rfl (Nat.le_of_ble_eq_true rfl) d_RL_add_175 rfl ?_
    exact hret 178 _ (updN aSc nCc g, updN aEc nCc b, updN aBc nCc x, updN aLc nCc no, nCc + 1) d_RL_add_178 hv
  have j107 : ∀ (g : Nat) (b : Nat) (x : Nat) (nCc : Nat) (aSc : Nat → Nat) (aEc : Nat → Nat) (aBc : Nat → Nat) (aLc : Nat → Nat), v_RL_add_107 tT aS aE aB aL nC f a no (p_RL_add tT aS aE aB aL nC f a no) g b x nCc aSc aEc aBc aLc → ig_W zp l ze ({ frames := 3, cells := 0, slots := 0, locals := 73 }) zs zm zargs zbelow zmeth zc (dC, dI) ig_cl0 zA zs.heap 7 0 0 zQ 107 [(0, .ref q0), (3, .int (nI no)), (4, .int (nI g)), (5, .int (nI b)), (6, .int (nI x))] [] [(q0, .inr (ciRL, [.ref qt, .ref qs, .ref qe, .ref qb, .ref ql, .int (nI nCc)])), (qt, .inl (cC, 1000, .inl tT)), (qs, .inl (cI, 60, .inl (fun zj => nI (aSc zj)))), (qe, .inl (cI, 60, .inl (fun zj => nI (aEc zj)))), (qb, .inl (cI, 60, .inl (fun zj => nI (aBc zj)))), (ql, .inl (cI, 60, .inl (fun zj => nI (aLc zj))))] := by
    intro g b x nCc aSc aEc aBc aLc hv
    unfold v_RL_add_107 at hv
    refine ig_aload_n hx hb 0 d_RL_add_107 rfl rfl ?_
    refine ig_iload hx hb 2 d_RL_add_108 rfl ?_
    refine ig_iload hx hb 3 d_RL_add_110 rfl ?_
    obtain ⟨hc, hv⟩ := hv
    refine ig_cVi (As := [.int (nI g), .int (nI b)]) (rest := []) (wr := [(qs, .inl (cI, 60, .inl (fun zj => nI (aSc zj)))), (qe, .inl (cI, 60, .inl (fun zj => nI (aEc zj)))), (qb, .inl (cI, 60, .inl (fun zj => nI (aBc zj)))), (ql, .inl (cI, 60, .inl (fun zj => nI (aLc zj))))]) (ws' := fun u => [(q0, .inr (ciRL, [.ref qt, .ref qs, .ref qe, .ref qb, .ref ql, .int (nI nCc)])), (qt, .inl (cC, 1000, .inl tT)), (qs, .inl (cI, 60, .inl (fun zj => nI (aSc zj)))), (qe, .inl (cI, 60, .inl (fun zj => nI (aEc zj)))), (qb, .inl (cI, 60, .inl (fun zj => nI (aBc zj)))), (ql, .inl (cI, 60, .inl (fun zj => nI (aLc zj))))]) hx hb hml hown hts hK hN hA (fun sz => c_RL_hasVoidName l dC dI cC cI cZ cL q0 qt qs qe qb ql (nI nCc) tT g b sz hc) ⟨callB_of 2 hts g_RL_hasVoidName rfl rfl rfl (hts _ kw_0_2) (hts _ kw_0_136) (by decide +kernel) (by decide), (hts _ kw_0_138), (hts _ ks_RL_hasVoidName)⟩ rfl rfl (Nat.le_of_ble_eq_true rfl) d_RL_add_112 (by decide) 0 rfl rfl [0, 1] [2, 3, 4, 5] [4, 5, 0, 1, 2, 3] rfl rfl (by decide) (by decide) (by decide) (fun _ => rfl) (fun _ => rfl) (fun r u hr => ?_)
    obtain ⟨rr, rfl, hr⟩ := hr
    unfold p_RL_hasVoidName at hr
    subst hr
    refine ig_if_eqB (tgt := 125) hx hb (sp_hv tT b g) rfl d_RL_add_115 (by decide) (fun h => ?_) (fun h => ?_)
    · have hv := hv.1 h
      refine ig_lv (lv' := [(0, .ref q0), (3, .int (nI no)), (4, .int (nI g)), (5, .int (nI b)), (6, .int (nI x))]) [0, 1, 2, 3, 4] rfl ?_
      exact j125 _ _ _ _ _ _ _ _ hv
    · have hv := hv.2 h
      refine ig_iload hx hb 4 d_RL_add_118 rfl ?_
      refine ig_bipush (v := 8) hx hb d_RL_add_120 (by decide) ?_
      refine ig_iorN hx hb x 8 rfl rfl d_RL_add_122 ?_
      refine ig_istore (lv' := [(6, .int (nI (x ||| 8))), (0, .ref q0), (3, .int (nI no)), (4, .int (nI g)), (5, .int (nI b))]) hx hb d_RL_add_123 (by decide) rfl ?_
      refine ig_lv (lv' := [(0, .ref q0), (3, .int (nI no)), (4, .int (nI g)), (5, .int (nI b)), (6, .int (nI (x ||| 8)))]) [1, 2, 3, 4, 0] rfl ?_
      exact j125 _ _ _ _ _ _ _ _ hv
  have j73 : ∀ (g : Nat) (b : Nat) (x : Nat) (nCc : Nat) (aSc : Nat → Nat) (aEc : Nat → Nat) (aBc : Nat → Nat) (aLc : Nat → Nat), v_RL_add_73 tT aS aE aB aL nC f a no (p_RL_add tT aS aE aB aL nC f a no) g b x nCc aSc aEc aBc aLc → ig_W zp l ze ({ frames := 3, cells := 0, slots := 0, locals := 73 }) zs zm zargs zbelow zmeth zc (dC, dI) ig_cl0 zA zs.heap 7 0 0 zQ 73 [(0, .ref q0), (3, .int (nI no)), (4, .int (nI g)), (5, .int (nI b)), (6, .int (nI x))] [] [(q0, .inr (ciRL, [.ref qt, .ref qs, .ref qe, .ref qb, .ref ql, .int (nI nCc)])), (qt, .inl (cC, 1000, .inl tT)), (qs, .inl (cI, 60, .inl (fun zj => nI (aSc zj)))), (qe, .inl (cI, 60, .inl (fun zj => nI (aEc zj)))), (qb, .inl (cI, 60, .inl (fun zj => nI (aBc zj)))), (ql, .inl (cI, 60, .inl (fun zj => nI (aLc zj))))] := by
    intro g b x nCc aSc aEc aBc aLc hv
    unfold v_RL_add_73 at hv
    refine ig_aload_n hx hb 0 d_RL_add_73 rfl rfl ?_
    refine ig_iload hx hb 2 d_RL_add_74 rfl ?_
    refine ig_iload hx hb 3 d_RL_add_76 rfl ?_
    obtain ⟨hc, hv⟩ := hv
    refine ig_cVi (As := [.int (nI g), .int (nI b)]) (rest := []) (wr := [(qs, .inl (cI, 60, .inl (fun zj => nI (aSc zj)))), (qe, .inl (cI, 60, .inl (fun zj => nI (aEc zj)))), (qb, .inl (cI, 60, .inl (fun zj => nI (aBc zj)))), (ql, .inl (cI, 60, .inl (fun zj => nI (aLc zj))))]) (ws' := fun u => [(q0, .inr (ciRL, [.ref qt, .ref qs, .ref qe, .ref qb, .ref ql, .int (nI nCc)])), (qt, .inl (cC, 1000, .inl tT)), (qs, .inl (cI, 60, .inl (fun zj => nI (aSc zj)))), (qe, .inl (cI, 60, .inl (fun zj => nI (aEc zj)))), (qb, .inl (cI, 60, .inl (fun zj => nI (aBc zj)))), (ql, .inl (cI, 60, .inl (fun zj => nI (aLc zj))))]) hx hb hml hown hts hK hN hA (fun sz => c_RL_endOfName l dC dI cC cI cZ cL q0 qt qs qe qb ql (nI nCc) tT g b sz hc) ⟨callB_of 2 hts g_RL_endOfName rfl rfl rfl (hts _ kw_0_2) (hts _ kw_0_132) (by decide +kernel) (by decide), (hts _ kw_0_134), (hts _ ks_RL_endOfName)⟩ rfl rfl (Nat.le_of_ble_eq_true rfl) d_RL_add_78 (by decide) 0 rfl rfl [0, 1] [2, 3, 4, 5] [4, 5, 0, 1, 2, 3] rfl rfl (by decide) (by decide) (by decide) (fun _ => rfl) (fun _ => rfl) (fun r u hr => ?_)
    obtain ⟨rr, rfl, hr⟩ := hr
    unfold p_RL_endOfName at hr
    subst hr
    refine ig_iload hx hb 3 d_RL_add_81 rfl ?_
    obtain ⟨h1, hv⟩ := hv
    obtain ⟨h2, hv⟩ := hv
    refine ig_icmp_geN (tgt := 107) hx hb (sp_eon tT b g) b rfl rfl d_RL_add_83 (by decide) h1 h2 (fun h => ?_) (fun h => ?_)
    · have hv := hv.1 h
      refine ig_lv (lv' := [(0, .ref q0), (3, .int (nI no)), (4, .int (nI g)), (5, .int (nI b)), (6, .int (nI x))]) [0, 1, 2, 3, 4] rfl ?_
      exact j107 _ _ _ _ _ _ _ _ hv
    · have hv := hv.2 h
      refine ig_iload hx hb 4 d_RL_add_86 rfl ?_
      refine ig_iconst (v := 4) hx hb d_RL_add_88 (by decide) ?_
      refine ig_iorN hx hb x 4 rfl rfl d_RL_add_89 ?_
      refine ig_istore (lv' := [(6, .int (nI (x ||| 4))), (0, .ref q0), (3, .int (nI no)), (4, .int (nI g)), (5, .int (nI b))]) hx hb d_RL_add_90 (by decide) rfl ?_
      refine ig_aload_n hx hb 1 d_RL_add_92 rfl rfl ?_
      refine ig_get hx hb hts in_RL hown hK 0 rfl rfl 0 (by decide) (hts _ kw_0_27) (fun _ h => h) rfl d_RL_add_93 ?_
      refine ig_iload hx hb 3 d_RL_add_96 rfl ?_
      obtain ⟨hc, hv⟩ := hv
      refine ig_cald (x := (tT g)) hx hb hK 1 0 rfl rfl g rfl hc (by decide) rfl d_RL_add_98 ?_
      refine ig_bipush (v := 47) hx hb d_RL_add_99 (by decide) ?_
      refine ig_icmp_ne (tgt := 107) hx hb d_RL_add_101 (by decide) (fun h => ?_) (fun h => ?_)
      · have hv := hv.1 h
        refine ig_lv (lv' := [(0, .ref q0), (3, .int (nI no)), (4, .int (nI g)), (5, .int (nI b)), (6, .int (nI (x ||| 4)))]) [1, 2, 3, 4, 0] rfl ?_
        exact j107 _ _ _ _ _ _ _ _ hv
      · have hv := hv.2 h
        refine ig_iinc (v := (nI (g + 1))) (lv' := [(4, .int (nI (g + 1))), (6, .int (nI (x ||| 4))), (0, .ref q0), (3, .int (nI no)), (5, .int (nI b))]) hx hb 3 d_RL_add_104 rfl (ig_inc g 1 (by decide)) (by decide) rfl ?_
        refine ig_lv (lv' := [(0, .ref q0), (3, .int (nI no)), (4, .int (nI (g + 1))), (5, .int (nI b)), (6, .int (nI (x ||| 4)))]) [2, 3, 0, 4, 1] rfl ?_
        exact j107 _ _ _ _ _ _ _ _ hv
  have j30 : ∀ (g : Nat) (b : Nat) (x : Nat) (nCc : Nat) (aSc : Nat → Nat) (aEc : Nat → Nat) (aBc : Nat → Nat) (aLc : Nat → Nat), v_RL_add_30 tT aS aE aB aL nC f a no (p_RL_add tT aS aE aB aL nC f a no) g b x nCc aSc aEc aBc aLc → ig_W zp l ze ({ frames := 3, cells := 0, slots := 0, locals := 73 }) zs zm zargs zbelow zmeth zc (dC, dI) ig_cl0 zA zs.heap 7 0 0 zQ 30 [(0, .ref q0), (3, .int (nI no)), (4, .int (nI g)), (5, .int (nI b)), (6, .int (nI x))] [] [(q0, .inr (ciRL, [.ref qt, .ref qs, .ref qe, .ref qb, .ref ql, .int (nI nCc)])), (qt, .inl (cC, 1000, .inl tT)), (qs, .inl (cI, 60, .inl (fun zj => nI (aSc zj)))), (qe, .inl (cI, 60, .inl (fun zj => nI (aEc zj)))), (qb, .inl (cI, 60, .inl (fun zj => nI (aBc zj)))), (ql, .inl (cI, 60, .inl (fun zj => nI (aLc zj))))] := by
    intro g b x nCc aSc aEc aBc aLc hv
    unfold v_RL_add_30 at hv
    refine ig_iload hx hb 2 d_RL_add_30 rfl ?_
    refine ig_iload hx hb 3 d_RL_add_32 rfl ?_
    obtain ⟨h1, hv⟩ := hv
    obtain ⟨h2, hv⟩ := hv
    refine ig_icmp_geN (tgt := 73) hx hb g b rfl rfl d_RL_add_34 (by decide) h1 h2 (fun h => ?_) (fun h => ?_)
    · have hv := hv.1 h
      refine ig_lv (lv' := [(0, .ref q0), (3, .int (nI no)), (4, .int (nI g)), (5, .int (nI b)), (6, .int (nI x))]) [0, 1, 2, 3, 4] rfl ?_
      exact j73 _ _ _ _ _ _ _ _ hv
    · have hv := hv.2 h
      refine ig_aload_n hx hb 0 d_RL_add_37 rfl rfl ?_
      refine ig_get hx hb hts in_RL hown hK 0 rfl rfl 0 (by decide) (hts _ kw_0_27) (fun _ h => h) rfl d_RL_add_38 ?_
      refine ig_iload hx hb 3 d_RL_add_41 rfl ?_
      refine ig_iconst (v := 1) hx hb d_RL_add_43 (by decide) ?_
      obtain ⟨hc, hv⟩ := hv
      refine ig_isubN hx hb b 1 rfl rfl hc d_RL_add_44 ?_
      obtain ⟨hc, hv⟩ := hv
      refine ig_cald (x := (tT (b - 1))) hx hb hK 1 0 rfl rfl (b - 1) rfl hc (by decide) rfl d_RL_add_45 ?_
      refine ig_bipush (v := 47) hx hb d_RL_add_46 (by decide) ?_
      refine ig_icmp_ne (tgt := 73) hx hb d_RL_add_48 (by decide) (fun h => ?_) (fun h => ?_)
      · have hv := hv.1 h
        refine ig_lv (lv' := [(0, .ref q0), (3, .int (nI no)), (4, .int (nI g)), (5, .int (nI b)), (6, .int (nI x))]) [0, 1, 2, 3, 4] rfl ?_
        exact j73 _ _ _ _ _ _ _ _ hv
      · have hv := hv.2 h
        refine ig_aload_n hx hb 0 d_RL_add_51 rfl rfl ?_
        refine ig_iload hx hb 2 d_RL_add_52 rfl ?_
        refine ig_iload hx hb 3 d_RL_add_54 rfl ?_
        refine ig_iconst (v := 1) hx hb d_RL_add_56 (by decide) ?_
        obtain ⟨hc, hv⟩ := hv
        refine ig_isubN hx hb b 1 rfl rfl hc d_RL_add_57 ?_
        obtain ⟨hc, hv⟩ := hv
        refine ig_cVi (As := [.int (nI g), .int (nI (b - 1))]) (rest := []) (wr := [(qs, .inl (cI, 60, .inl (fun zj => nI (aSc zj)))), (qe, .inl (cI, 60, .inl (fun zj => nI (aEc zj)))), (qb, .inl (cI, 60, .inl (fun zj => nI (aBc zj)))), (ql, .inl (cI, 60, .inl (fun zj => nI (aLc zj))))]) (ws' := fun u => [(q0, .inr (ciRL, [.ref qt, .ref qs, .ref qe, .ref qb, .ref ql, .int (nI nCc)])), (qt, .inl (cC, 1000, .inl tT)), (qs, .inl (cI, 60, .inl (fun zj => nI (aSc zj)))), (qe, .inl (cI, 60, .inl (fun zj => nI (aEc zj)))), (qb, .inl (cI, 60, .inl (fun zj => nI (aBc zj)))), (ql, .inl (cI, 60, .inl (fun zj => nI (aLc zj))))]) hx hb hml hown hts hK hN hA (fun sz => c_RL_isEscaped l dC dI cC cI cZ cL q0 qt qs qe qb ql (nI nCc) tT g (b - 1) sz hc) ⟨callB_of 2 hts g_RL_isEscaped rfl rfl rfl (hts _ kw_0_2) (hts _ kw_0_124) (by decide +kernel) (by decide), (hts _ kw_0_126), (hts _ ks_RL_isEscaped)⟩ rfl rfl (Nat.le_of_ble_eq_true rfl) d_RL_add_58 (by decide) 0 rfl rfl [0, 1] [2, 3, 4, 5] [4, 5, 0, 1, 2, 3] rfl rfl (by decide) (by decide) (by decide) (fun _ => rfl) (fun _ => rfl) (fun r u hr => ?_)
        obtain ⟨rr, rfl, hr⟩ := hr
        unfold p_RL_isEscaped at hr
        subst hr
        refine ig_if_neB (tgt := 73) hx hb (sp_esc tT g (b - 1)) rfl d_RL_add_61 (by decide) (fun h => ?_) (fun h => ?_)
        · have hv := hv.1 h
          refine ig_lv (lv' := [(0, .ref q0), (3, .int (nI no)), (4, .int (nI g)), (5, .int (nI b)), (6, .int (nI x))]) [0, 1, 2, 3, 4] rfl ?_
          exact j73 _ _ _ _ _ _ _ _ hv
        · have hv := hv.2 h
          refine ig_iload hx hb 4 d_RL_add_64 rfl ?_
          refine ig_iconst (v := 2) hx hb d_RL_add_66 (by decide) ?_
          refine ig_iorN hx hb x 2 rfl rfl d_RL_add_67 ?_
          refine ig_istore (lv' := [(6, .int (nI (x ||| 2))), (0, .ref q0), (3, .int (nI no)), (4, .int (nI g)), (5, .int (nI b))]) hx hb d_RL_add_68 (by decide) rfl ?_
          obtain ⟨hc, hv⟩ := hv
          refine ig_iinc (v := (nI (b - 1))) (lv' := [(5, .int (nI (b - 1))), (6, .int (nI (x ||| 2))), (0, .ref q0), (3, .int (nI no)), (4, .int (nI g))]) hx hb 4 d_RL_add_70 rfl (ig_dec 1 hc (by decide)) (by decide) rfl ?_
          refine ig_lv (lv' := [(0, .ref q0), (3, .int (nI no)), (4, .int (nI g)), (5, .int (nI (b - 1))), (6, .int (nI (x ||| 2)))]) [2, 3, 4, 0, 1] rfl ?_
          exact j73 _ _ _ _ _ _ _ _ hv
  have hv := t_RL_add tT aS aE aB aL nC f a no hr 
  unfold v_RL_add at hv
  refine ig_iload_n hx hb 1 d_RL_add_0 rfl rfl ?_
  refine ig_istore (lv' := [(4, .int (nI f)), (0, .ref q0), (1, .int (nI f)), (2, .int (nI a)), (3, .int (nI no))]) hx hb d_RL_add_1 (by decide) rfl ?_
  refine ig_iload_n hx hb 3 d_RL_add_3 rfl rfl ?_
  refine ig_istore (lv' := [(5, .int (nI a)), (4, .int (nI f)), (0, .ref q0), (1, .int (nI f)), (2, .int (nI a)), (3, .int (nI no))]) hx hb d_RL_add_4 (by decide) rfl ?_
  refine ig_iconst (v := 0) hx hb d_RL_add_6 (by decide) ?_
  refine ig_istore (lv' := [(6, .int 0), (5, .int (nI a)), (4, .int (nI f)), (0, .ref q0), (1, .int (nI f)), (2, .int (nI a)), (3, .int (nI no))]) hx hb d_RL_add_7 (by decide) rfl ?_
  refine ig_aload_n hx hb 3 d_RL_add_9 rfl rfl ?_
  refine ig_get hx hb hts in_RL hown hK 0 rfl rfl 0 (by decide) (hts _ kw_0_27) (fun _ h => h) rfl d_RL_add_10 ?_
  refine ig_iload hx hb 2 d_RL_add_13 rfl ?_
  obtain ⟨hc, hv⟩ := hv
  refine ig_cald (x := (tT f)) hx hb hK 1 0 rfl rfl f rfl hc (by decide) rfl d_RL_add_15 ?_
  refine ig_bipush (v := 33) hx hb d_RL_add_16 (by decide) ?_
  refine ig_icmp_ne (tgt := 30) hx hb d_RL_add_18 (by decide) (fun h => ?_) (fun h => ?_)
  · have hv := hv.1 h
    refine ig_lv (lv' := [(0, .ref q0), (3, .int (nI no)), (4, .int (nI f)), (5, .int (nI a)), (6, .int 0)]) [3, 6, 2, 1, 0] rfl ?_
    exact j30 _ _ _ _ _ _ _ _ hv
  · have hv := hv.2 h
    refine ig_iload hx hb 0 d_RL_add_21 rfl ?_
    refine ig_iconst (v := 1) hx hb d_RL_add_23 (by decide) ?_
    refine ig_iorN hx hb 0 1 rfl rfl d_RL_add_24 ?_
    refine ig_istore (lv' := [(6, .int (nI (0 ||| 1))), (5, .int (nI a)), (4, .int (nI f)), (0, .ref q0), (1, .int (nI f)), (2, .int (nI a)), (3, .int (nI no))]) hx hb d_RL_add_25 (by decide) rfl ?_
    refine ig_iinc (v := (nI (f + 1))) (lv' := [(4, .int (nI (f + 1))), (6, .int (nI (0 ||| 1))), (5, .int (nI a)), (0, .ref q0), (1, .int (nI f)), (2, .int (nI a)), (3, .int (nI no))]) hx hb 2 d_RL_add_27 rfl (ig_inc f 1 (by decide)) (by decide) rfl ?_
    refine ig_lv (lv' := [(0, .ref q0), (3, .int (nI no)), (4, .int (nI (f + 1))), (5, .int (nI a)), (6, .int (nI (0 ||| 1)))]) [3, 6, 0, 2, 1] rfl ?_
    exact j30 _ _ _ _ _ _ _ _ hv
theorem d_RL_load_0 : decode b_RL_load 0 = .ok (.iconst 0, 1) := by decide +kernel
theorem d_RL_load_1 : decode b_RL_load 1 = .ok (.istore_n 3, 1) := by decide +kernel
theorem d_RL_load_2 : decode b_RL_load 2 = .ok (.iload_n 3, 1) := by decide +kernel
theorem d_RL_load_3 : decode b_RL_load 3 = .ok (.iload_n 2, 1) := by decide +kernel
theorem d_RL_load_4 : decode b_RL_load 4 = .ok (.if_icmp .ge 18, 3) := by decide +kernel
theorem d_RL_load_7 : decode b_RL_load 7 = .ok (.aload_n 0, 1) := by decide +kernel
theorem d_RL_load_8 : decode b_RL_load 8 = .ok (.getfield 9, 3) := by decide +kernel
theorem d_RL_load_11 : decode b_RL_load 11 = .ok (.iload_n 3, 1) := by decide +kernel
theorem d_RL_load_12 : decode b_RL_load 12 = .ok (.aload_n 1, 1) := by decide +kernel
theorem d_RL_load_13 : decode b_RL_load 13 = .ok (.iload_n 3, 1) := by decide +kernel
theorem d_RL_load_14 : decode b_RL_load 14 = .ok (.caload, 1) := by decide +kernel
theorem d_RL_load_15 : decode b_RL_load 15 = .ok (.castore, 1) := by decide +kernel
theorem d_RL_load_16 : decode b_RL_load 16 = .ok (.iinc 3 1, 3) := by decide +kernel
theorem d_RL_load_19 : decode b_RL_load 19 = .ok (.goto (-17), 3) := by decide +kernel
theorem d_RL_load_22 : decode b_RL_load 22 = .ok (.aload_n 0, 1) := by decide +kernel
theorem d_RL_load_23 : decode b_RL_load 23 = .ok (.iconst 0, 1) := by decide +kernel
theorem d_RL_load_24 : decode b_RL_load 24 = .ok (.putfield 28, 3) := by decide +kernel
theorem d_RL_load_27 : decode b_RL_load 27 = .ok (.iconst 0, 1) := by decide +kernel
theorem d_RL_load_28 : decode b_RL_load 28 = .ok (.istore_n 3, 1) := by decide +kernel
theorem d_RL_load_29 : decode b_RL_load 29 = .ok (.iconst 0, 1) := by decide +kernel
theorem d_RL_load_30 : decode b_RL_load 30 = .ok (.istore 4, 2) := by decide +kernel
theorem d_RL_load_32 : decode b_RL_load 32 = .ok (.iconst 0, 1) := by decide +kernel
theorem d_RL_load_33 : decode b_RL_load 33 = .ok (.istore 5, 2) := by decide +kernel
theorem d_RL_load_35 : decode b_RL_load 35 = .ok (.iload 5, 2) := by decide +kernel
theorem d_RL_load_37 : decode b_RL_load 37 = .ok (.iload_n 2, 1) := by decide +kernel
theorem d_RL_load_38 : decode b_RL_load 38 = .ok (.if_icmp .gt 88, 3) := by decide +kernel
theorem d_RL_load_41 : decode b_RL_load 41 = .ok (.iload 5, 2) := by decide +kernel
theorem d_RL_load_43 : decode b_RL_load 43 = .ok (.iload_n 2, 1) := by decide +kernel
theorem d_RL_load_44 : decode b_RL_load 44 = .ok (.if_icmp .ge 18, 3) := by decide +kernel
theorem d_RL_load_47 : decode b_RL_load 47 = .ok (.aload_n 0, 1) := by decide +kernel
theorem d_RL_load_48 : decode b_RL_load 48 = .ok (.getfield 9, 3) := by decide +kernel
theorem d_RL_load_51 : decode b_RL_load 51 = .ok (.iload 5, 2) := by decide +kernel
theorem d_RL_load_53 : decode b_RL_load 53 = .ok (.caload, 1) := by decide +kernel
theorem d_RL_load_54 : decode b_RL_load 54 = .ok (.bipush 10, 2) := by decide +kernel
theorem d_RL_load_56 : decode b_RL_load 56 = .ok (.if_icmp .eq 6, 3) := by decide +kernel
theorem d_RL_load_59 : decode b_RL_load 59 = .ok (.goto 61, 3) := by decide +kernel
theorem d_RL_load_62 : decode b_RL_load 62 = .ok (.aload_n 0, 1) := by decide +kernel
theorem d_RL_load_63 : decode b_RL_load 63 = .ok (.iload 4, 2) := by decide +kernel
theorem d_RL_load_65 : decode b_RL_load 65 = .ok (.iload 5, 2) := by decide +kernel
theorem d_RL_load_67 : decode b_RL_load 67 = .ok (.invokevirtual 32, 3) := by decide +kernel
theorem d_RL_load_70 : decode b_RL_load 70 = .ok (.istore 6, 2) := by decide +kernel
theorem d_RL_load_72 : decode b_RL_load 72 = .ok (.iload 4, 2) := by decide +kernel
theorem d_RL_load_74 : decode b_RL_load 74 = .ok (.iload 6, 2) := by decide +kernel
theorem d_RL_load_76 : decode b_RL_load 76 = .ok (.if_icmp .ge 35, 3) := by decide +kernel
theorem d_RL_load_79 : decode b_RL_load 79 = .ok (.aload_n 0, 1) := by decide +kernel
theorem d_RL_load_80 : decode b_RL_load 80 = .ok (.getfield 9, 3) := by decide +kernel
theorem d_RL_load_83 : decode b_RL_load 83 = .ok (.iload 4, 2) := by decide +kernel
theorem d_RL_load_85 : decode b_RL_load 85 = .ok (.caload, 1) := by decide +kernel
theorem d_RL_load_86 : decode b_RL_load 86 = .ok (.bipush 35, 2) := by decide +kernel
theorem d_RL_load_88 : decode b_RL_load 88 = .ok (.if_icmp .eq 23, 3) := by decide +kernel
theorem d_RL_load_91 : decode b_RL_load 91 = .ok (.aload_n 0, 1) := by decide +kernel
theorem d_RL_load_92 : decode b_RL_load 92 = .ok (.getfield 28, 3) := by decide +kernel
theorem d_RL_load_95 : decode b_RL_load 95 = .ok (.bipush 60, 2) := by decide +kernel
theorem d_RL_load_97 : decode b_RL_load 97 = .ok (.if_icmp .ne 5, 3) := by decide +kernel
theorem d_RL_load_100 : decode b_RL_load 100 = .ok (.iconst 0, 1) := by decide +kernel
theorem d_RL_load_101 : decode b_RL_load 101 = .ok (.ireturn, 1) := by decide +kernel
theorem d_RL_load_102 : decode b_RL_load 102 = .ok (.aload_n 0, 1) := by decide +kernel
theorem d_RL_load_103 : decode b_RL_load 103 = .ok (.iload 4, 2) := by decide +kernel
theorem d_RL_load_105 : decode b_RL_load 105 = .ok (.iload 6, 2) := by decide +kernel
theorem d_RL_load_107 : decode b_RL_load 107 = .ok (.iload_n 3, 1) := by decide +kernel
theorem d_RL_load_108 : decode b_RL_load 108 = .ok (.invokevirtual 36, 3) := by decide +kernel
theorem d_RL_load_111 : decode b_RL_load 111 = .ok (.iinc 3 1, 3) := by decide +kernel
theorem d_RL_load_114 : decode b_RL_load 114 = .ok (.iload 5, 2) := by decide +kernel
theorem d_RL_load_116 : decode b_RL_load 116 = .ok (.iconst 1, 1) := by decide +kernel
theorem d_RL_load_117 : decode b_RL_load 117 = .ok (.iadd, 1) := by decide +kernel
theorem d_RL_load_118 : decode b_RL_load 118 = .ok (.istore 4, 2) := by decide +kernel
theorem d_RL_load_120 : decode b_RL_load 120 = .ok (.iinc 5 1, 3) := by decide +kernel
theorem d_RL_load_123 : decode b_RL_load 123 = .ok (.goto (-88), 3) := by decide +kernel
theorem d_RL_load_126 : decode b_RL_load 126 = .ok (.iconst 1, 1) := by decide +kernel
theorem d_RL_load_127 : decode b_RL_load 127 = .ok (.ireturn, 1) := by decide +kernel
abbrev w_RL_load : List Cond := Cond.code y_RL_load b_RL_load 7 (some .boolean) :: ig_T
theorem g_RL_load : GoodIn ig_T w_RL_load := ig_T_good (ig_T_mem (List.mem_append_left _ (List.mem_of_getElem? (i := 119) rfl)) rfl)
set_option maxHeartbeats 4000000 in
set_option maxRecDepth 100000 in
theorem c_RL_load (l : Launch) (dC : Nat → ClassId) (dI : Nat → Nat → Nat) (cC cI cZ cL : ClassId) (q0 qt qs qe qb ql qS : Nat)  (tT : Nat → Int32) (aS : Nat → Nat) (aE : Nat → Nat) (aB : Nat → Nat) (aL : Nat → Nat) (nC : Nat) (sT : Nat → Int32) (n : Nat) (sz : Nat) (hr : r_RL_load tT aS aE aB aL nC sT n) : Met l y_RL_load w_RL_load ({ frames := 4, cells := 0, slots := 0, locals := 99 }) (ig_Pc (dC, dI) ig_cl0 [(cC, .char), (cI, .int), (cZ, .boolean), (cL, .long)] [.ref q0, .ref qS, .int (nI n)] [(q0, .inr (ciRL, [.ref qt, .ref qs, .ref qe, .ref qb, .ref ql, .int (nI nC)])), (qt, .inl (cC, 1000, .inl tT)), (qs, .inl (cI, 60, .inl (fun zj => nI (aS zj)))), (qe, .inl (cI, 60, .inl (fun zj => nI (aE zj)))), (qb, .inl (cI, 60, .inl (fun zj => nI (aB zj)))), (ql, .inl (cI, 60, .inl (fun zj => nI (aL zj)))), (qS, .inl (cC, 1000, .inl sT))] sz) (va_Qi (fun (r : Int32) (u : (Nat → Int32) × (Nat → Nat) × (Nat → Nat) × (Nat → Nat) × (Nat → Nat) × Nat) => ∃ zr : Bool, r = bI zr ∧ p_RL_load tT aS aE aB aL nC sT n zr u.1 u.2.1 u.2.2.1 u.2.2.2.1 u.2.2.2.2.1 u.2.2.2.2.2) (fun u t => va_P (dC, dI) ig_cl0 ((fun (u : (Nat → Int32) × (Nat → Nat) × (Nat → Nat) × (Nat → Nat) × (Nat → Nat) × Nat) => [(q0, .inr (ciRL, [.ref qt, .ref qs, .ref qe, .ref qb, .ref ql, .int (nI u.2.2.2.2.2)])), (qt, .inl (cC, 1000, .inl u.1)), (qs, .inl (cI, 60, .inl (fun zj => nI (u.2.1 zj)))), (qe, .inl (cI, 60, .inl (fun zj => nI (u.2.2.1 zj)))), (qb, .inl (cI, 60, .inl (fun zj => nI (u.2.2.2.1 zj)))), (ql, .inl (cI, 60, .inl (fun zj => nI (u.2.2.2.2.1 zj)))), (qS, .inl (cC, 1000, .inl sT))]) u) t.heap ∧ va_D (va_A [(q0, .inr (ciRL, [.ref qt, .ref qs, .ref qe, .ref qb, .ref ql, .int (nI nC)])), (qt, .inl (cC, 1000, .inl tT)), (qs, .inl (cI, 60, .inl (fun zj => nI (aS zj)))), (qe, .inl (cI, 60, .inl (fun zj => nI (aE zj)))), (qb, .inl (cI, 60, .inl (fun zj => nI (aB zj)))), (ql, .inl (cI, 60, .inl (fun zj => nI (aL zj)))), (qS, .inl (cC, 1000, .inl sT))] sz) ((fun (u : (Nat → Int32) × (Nat → Nat) × (Nat → Nat) × (Nat → Nat) × (Nat → Nat) × Nat) => [(q0, .inr (ciRL, [.ref qt, .ref qs, .ref qe, .ref qb, .ref ql, .int (nI u.2.2.2.2.2)])), (qt, .inl (cC, 1000, .inl u.1)), (qs, .inl (cI, 60, .inl (fun zj => nI (u.2.1 zj)))), (qe, .inl (cI, 60, .inl (fun zj => nI (u.2.2.1 zj)))), (qb, .inl (cI, 60, .inl (fun zj => nI (u.2.2.2.1 zj)))), (ql, .inl (cI, 60, .inl (fun zj => nI (u.2.2.2.2.1 zj)))), (qS, .inl (cC, 1000, .inl sT))]) u)) (va_A [(q0, .inr (ciRL, [.ref qt, .ref qs, .ref qe, .ref qb, .ref ql, .int (nI nC)])), (qt, .inl (cC, 1000, .inl tT)), (qs, .inl (cI, 60, .inl (fun zj => nI (aS zj)))), (qe, .inl (cI, 60, .inl (fun zj => nI (aE zj)))), (qb, .inl (cI, 60, .inl (fun zj => nI (aB zj)))), (ql, .inl (cI, 60, .inl (fun zj => nI (aL zj)))), (qS, .inl (cC, 1000, .inl sT))] sz)) 0 0 (va_A [(q0, .inr (ciRL, [.ref qt, .ref qs, .ref qe, .ref qb, .ref ql, .int (nI nC)])), (qt, .inl (cC, 1000, .inl tT)), (qs, .inl (cI, 60, .inl (fun zj => nI (aS zj)))), (qe, .inl (cI, 60, .inl (fun zj => nI (aE zj)))), (qb, .inl (cI, 60, .inl (fun zj => nI (aB zj)))), (ql, .inl (cI, 60, .inl (fun zj => nI (aL zj)))), (qS, .inl (cC, 1000, .inl sT))] sz) := by
  refine ig_metI (fun (r : Int32) (u : (Nat → Int32) × (Nat → Nat) × (Nat → Nat) × (Nat → Nat) × (Nat → Nat) × Nat) => ∃ zr : Bool, r = bI zr ∧ p_RL_load tT aS aE aB aL nC sT n zr u.1 u.2.1 u.2.2.1 u.2.2.2.1 u.2.2.2.2.1 u.2.2.2.2.2) (fun (u : (Nat → Int32) × (Nat → Nat) × (Nat → Nat) × (Nat → Nat) × (Nat → Nat) × Nat) => [(q0, .inr (ciRL, [.ref qt, .ref qs, .ref qe, .ref qb, .ref ql, .int (nI u.2.2.2.2.2)])), (qt, .inl (cC, 1000, .inl u.1)), (qs, .inl (cI, 60, .inl (fun zj => nI (u.2.1 zj)))), (qe, .inl (cI, 60, .inl (fun zj => nI (u.2.2.1 zj)))), (qb, .inl (cI, 60, .inl (fun zj => nI (u.2.2.2.1 zj)))), (ql, .inl (cI, 60, .inl (fun zj => nI (u.2.2.2.2.1 zj)))), (qS, .inl (cC, 1000, .inl sT))]) (by decide) rfl (Nat.le_of_ble_eq_true rfl) rfl (by rintro r u ⟨b, rfl, -⟩; exact bI_ret b) ?_
  intro zp ze zs zm zargs zbelow zmeth zc zA zQ hx hb hml hown hts hK hN hA hret
  obtain ⟨K2, hK2⟩ : ∃ K : Nat → Nat → (Nat → Int32) → (Nat → Nat) → (Nat → Nat) → (Nat → Nat) → (Nat → Nat) → Prop, K = fun (x : Nat) (nCc : Nat) (tTc : Nat → Int32) (aSc : Nat → Nat) (aEc : Nat → Nat) (aBc : Nat → Nat) (aLc : Nat → Nat) => ig_W zp l ze ({ frames := 4, cells := 0, slots := 0, locals := 99 }) zs zm zargs zbelow zmeth zc (dC, dI) ig_cl0 zA zs.heap 7 0 0 zQ 2 [(0, .ref q0), (1, .ref qS), (2, .int (nI n)), (3, .int (nI x))] [] [(q0, .inr (ciRL, [.ref qt, .ref qs, .ref qe, .ref qb, .ref ql, .int (nI nCc)])), (qt, .inl (cC, 1000, .inl tTc)), (qs, .inl (cI, 60, .inl (fun zj => nI (aSc zj)))), (qe, .inl (cI, 60, .inl (fun zj => nI (aEc zj)))), (qb, .inl (cI, 60, .inl (fun zj => nI (aBc zj)))), (ql, .inl (cI, 60, .inl (fun zj => nI (aLc zj)))), (qS, .inl (cC, 1000, .inl sT))] := ⟨_, rfl⟩
  obtain ⟨K35, hK35⟩ : ∃ K : Nat → Nat → Nat → Nat → (Nat → Int32) → (Nat → Nat) → (Nat → Nat) → (Nat → Nat) → (Nat → Nat) → Prop, K = fun (x : Nat) (g : Nat) (b : Nat) (nCc : Nat) (tTc : Nat → Int32) (aSc : Nat → Nat) (aEc : Nat → Nat) (aBc : Nat → Nat) (aLc : Nat → Nat) => ig_W zp l ze ({ frames := 4, cells := 0, slots := 0, locals := 99 }) zs zm zargs zbelow zmeth zc (dC, dI) ig_cl0 zA zs.heap 7 0 0 zQ 35 [(0, .ref q0), (2, .int (nI n)), (3, .int (nI x)), (4, .int (nI g)), (5, .int (nI b))] [] [(q0, .inr (ciRL, [.ref qt, .ref qs, .ref qe, .ref qb, .ref ql, .int (nI nCc)])), (qt, .inl (cC, 1000, .inl tTc)), (qs, .inl (cI, 60, .inl (fun zj => nI (aSc zj)))), (qe, .inl (cI, 60, .inl (fun zj => nI (aEc zj)))), (qb, .inl (cI, 60, .inl (fun zj => nI (aBc zj)))), (ql, .inl (cI, 60, .inl (fun zj => nI (aLc zj)))), (qS, .inl (cC, 1000, .inl sT))] := ⟨_, rfl⟩
  have j111 : ∀ (x : Nat) (b : Nat) (nCc : Nat) (tTc : Nat → Int32) (aSc : Nat → Nat) (aEc : Nat → Nat) (aBc : Nat → Nat) (aLc : Nat → Nat), v_RL_load_111 tT aS aE aB aL nC sT n K2 K35 (p_RL_load tT aS aE aB aL nC sT n) x b nCc tTc aSc aEc aBc aLc → ig_W zp l ze ({ frames := 4, cells := 0, slots := 0, locals := 99 }) zs zm zargs zbelow zmeth zc (dC, dI) ig_cl0 zA zs.heap 7 0 0 zQ 111 [(0, .ref q0), (2, .int (nI n)), (3, .int (nI x)), (5, .int (nI b))] [] [(q0, .inr (ciRL, [.ref qt, .ref qs, .ref qe, .ref qb, .ref ql, .int (nI nCc)])), (qt, .inl (cC, 1000, .inl tTc)), (qs, .inl (cI, 60, .inl (fun zj => nI (aSc zj)))), (qe, .inl (cI, 60, .inl (fun zj => nI (aEc zj)))), (qb, .inl (cI, 60, .inl (fun zj => nI (aBc zj)))), (ql, .inl (cI, 60, .inl (fun zj => nI (aLc zj)))), (qS, .inl (cC, 1000, .inl sT))] := by
    intro x b nCc tTc aSc aEc aBc aLc hv
    unfold v_RL_load_111 at hv
    refine ig_iinc (v := (nI (x + 1))) (lv' := [(3, .int (nI (x + 1))), (0, .ref q0), (2, .int (nI n)), (5, .int (nI b))]) hx hb 2 d_RL_load_111 rfl (ig_inc x 1 (by decide)) (by decide) rfl ?_
    refine ig_iload hx hb 3 d_RL_load_114 rfl ?_
    refine ig_iconst (v := 1) hx hb d_RL_load_116 (by decide) ?_
    refine ig_iaddN hx hb b 1 rfl rfl d_RL_load_117 ?_
    refine ig_istore (lv' := [(4, .int (nI (b + 1))), (3, .int (nI (x + 1))), (0, .ref q0), (2, .int (nI n)), (5, .int (nI b))]) hx hb d_RL_load_118 (by decide) rfl ?_
    refine ig_iinc (v := (nI (b + 1))) (lv' := [(5, .int (nI (b + 1))), (4, .int (nI (b + 1))), (3, .int (nI (x + 1))), (0, .ref q0), (2, .int (nI n))]) hx hb 4 d_RL_load_120 rfl (ig_inc b 1 (by decide)) (by decide) rfl ?_
    refine ig_goto (tgt := 35) hx hb d_RL_load_123 (by decide) ?_
    refine ig_lv (lv' := [(0, .ref q0), (2, .int (nI n)), (3, .int (nI (x + 1))), (4, .int (nI (b + 1))), (5, .int (nI (b + 1)))]) [3, 4, 2, 1, 0] rfl ?_
    rw [hK35] at hv
    exact hv
  have j62 : ∀ (x : Nat) (g : Nat) (b : Nat) (nCc : Nat) (tTc : Nat → Int32) (aSc : Nat → Nat) (aEc : Nat → Nat) (aBc : Nat → Nat) (aLc : Nat → Nat), v_RL_load_62 tT aS aE aB aL nC sT n K2 K35 (p_RL_load tT aS aE aB aL nC sT n) x g b nCc tTc aSc aEc aBc aLc → ig_W zp l ze ({ frames := 4, cells := 0, slots := 0, locals := 99 }) zs zm zargs zbelow zmeth zc (dC, dI) ig_cl0 zA zs.heap 7 0 0 zQ 62 [(0, .ref q0), (2, .int (nI n)), (3, .int (nI x)), (4, .int (nI g)), (5, .int (nI b))] [] [(q0, .inr (ciRL, [.ref qt, .ref qs, .ref qe, .ref qb, .ref ql, .int (nI nCc)])), (qt, .inl (cC, 1000, .inl tTc)), (qs, .inl (cI, 60, .inl (fun zj => nI (aSc zj)))), (qe, .inl (cI, 60, .inl (fun zj => nI (aEc zj)))), (qb, .inl (cI, 60, .inl (fun zj => nI (aBc zj)))), (ql, .inl (cI, 60, .inl (fun zj => nI (aLc zj)))), (qS, .inl (cC, 1000, .inl sT))] := by
    intro x g b nCc tTc aSc aEc aBc aLc hv
    unfold v_RL_load_62 at hv
    refine ig_aload_n hx hb 0 d_RL_load_62 rfl rfl ?_
    refine ig_iload hx hb 3 d_RL_load_63 rfl ?_
    refine ig_iload hx hb 4 d_RL_load_65 rfl ?_
    obtain ⟨hc, hv⟩ := hv
    refine ig_cVi (As := [.int (nI g), .int (nI b)]) (rest := []) (wr := [(qs, .inl (cI, 60, .inl (fun zj => nI (aSc zj)))), (qe, .inl (cI, 60, .inl (fun zj => nI (aEc zj)))), (qb, .inl (cI, 60, .inl (fun zj => nI (aBc zj)))), (ql, .inl (cI, 60, .inl (fun zj => nI (aLc zj)))), (qS, .inl (cC, 1000, .inl sT))]) (ws' := fun u => [(q0, .inr (ciRL, [.ref qt, .ref qs, .ref qe, .ref qb, .ref ql, .int (nI nCc)])), (qt, .inl (cC, 1000, .inl tTc)), (qs, .inl (cI, 60, .inl (fun zj => nI (aSc zj)))), (qe, .inl (cI, 60, .inl (fun zj => nI (aEc zj)))), (qb, .inl (cI, 60, .inl (fun zj => nI (aBc zj)))), (ql, .inl (cI, 60, .inl (fun zj => nI (aLc zj)))), (qS, .inl (cC, 1000, .inl sT))]) hx hb hml hown hts hK hN hA (fun sz => c_RL_withoutBlanks l dC dI cC cI cZ cL q0 qt qs qe qb ql (nI nCc) tTc g b sz hc) ⟨callB_of 2 hts g_RL_withoutBlanks rfl rfl rfl (hts _ kw_0_2) (hts _ kw_0_120) (by decide +kernel) (by decide), (hts _ kw_0_122), (hts _ ks_RL_withoutBlanks)⟩ rfl rfl (Nat.le_of_ble_eq_true rfl) d_RL_load_67 (by decide) 0 rfl rfl [0, 1] [2, 3, 4, 5, 6] [5, 6, 0, 1, 2, 3, 4] rfl rfl (by decide) (by decide) (by decide) (fun _ => rfl) (fun _ => rfl) (fun r u hr => ?_)
    obtain ⟨rr, rfl, hr⟩ := hr
    unfold p_RL_withoutBlanks at hr
    subst hr
    refine ig_istore (lv' := [(6, .int (nI (sp_strip tTc g b))), (0, .ref q0), (2, .int (nI n)), (3, .int (nI x)), (4, .int (nI g)), (5, .int (nI b))]) hx hb d_RL_load_70 (by decide) rfl ?_
    refine ig_iload hx hb 4 d_RL_load_72 rfl ?_
    refine ig_iload hx hb 0 d_RL_load_74 rfl ?_
    obtain ⟨h1, hv⟩ := hv
    obtain ⟨h2, hv⟩ := hv
    refine ig_icmp_geN (tgt := 111) hx hb g (sp_strip tTc g b) rfl rfl d_RL_load_76 (by decide) h1 h2 (fun h => ?_) (fun h => ?_)
    · have hv := hv.1 h
      refine ig_lv (lv' := [(0, .ref q0), (2, .int (nI n)), (3, .int (nI x)), (5, .int (nI b))]) [1, 2, 3, 5] rfl ?_
      exact j111 _ _ _ _ _ _ _ _ hv
    · have hv := hv.2 h
      refine ig_aload_n hx hb 1 d_RL_load_79 rfl rfl ?_
      refine ig_get hx hb hts in_RL hown hK 0 rfl rfl 0 (by decide) (hts _ kw_0_27) (fun _ h => h) rfl d_RL_load_80 ?_
      refine ig_iload hx hb 4 d_RL_load_83 rfl ?_
      obtain ⟨hc, hv⟩ := hv
      refine ig_cald (x := (tTc g)) hx hb hK 1 0 rfl rfl g rfl hc (by decide) rfl d_RL_load_85 ?_
      refine ig_bipush (v := 35) hx hb d_RL_load_86 (by decide) ?_
      refine ig_icmp_eq (tgt := 111) hx hb d_RL_load_88 (by decide) (fun h => ?_) (fun h => ?_)
      · have hv := hv.1 h
        refine ig_lv (lv' := [(0, .ref q0), (2, .int (nI n)), (3, .int (nI x)), (5, .int (nI b))]) [1, 2, 3, 5] rfl ?_
        exact j111 _ _ _ _ _ _ _ _ hv
      · have hv := hv.2 h
        refine ig_aload_n hx hb 1 d_RL_load_91 rfl rfl ?_
        refine ig_get hx hb hts in_RL hown hK 0 rfl rfl 5 (by decide) (hts _ kw_0_39) (fun _ h => h) rfl d_RL_load_92 ?_
        refine ig_bipush (v := 60) hx hb d_RL_load_95 (by decide) ?_
        obtain ⟨h1, hv⟩ := hv
        refine ig_icmp_neN (tgt := 102) hx hb nCc 60 rfl rfl d_RL_load_97 (by decide) h1 (by decide) (fun h => ?_) (fun h => ?_)
        · have hv := hv.1 h
          refine ig_aload_n hx hb 1 d_RL_load_102 rfl rfl ?_
          refine ig_iload hx hb 4 d_RL_load_103 rfl ?_
          refine ig_iload hx hb 0 d_RL_load_105 rfl ?_
          refine ig_iload_n hx hb 3 d_RL_load_107 rfl rfl ?_
          obtain ⟨hc, hv⟩ := hv
          refine ig_cVv (As := [.int (nI g), .int (nI (sp_strip tTc g b)), .int (nI x)]) (rest := []) (wr := [(qS, .inl (cC, 1000, .inl sT))]) (ws' := fun u => [(q0, .inr (ciRL, [.ref qt, .ref qs, .ref qe, .ref qb, .ref ql, .int (nI u.2.2.2.2)])), (qt, .inl (cC, 1000, .inl tTc)), (qs, .inl (cI, 60, .inl (fun zj => nI (u.1 zj)))), (qe, .inl (cI, 60, .inl (fun zj => nI (u.2.1 zj)))), (qb, .inl (cI, 60, .inl (fun zj => nI (u.2.2.1 zj)))), (ql, .inl (cI, 60, .inl (fun zj => nI (u.2.2.2.1 zj)))), (qS, .inl (cC, 1000, .inl sT))]) hx hb hml hown hts hK hN hA (fun sz => c_RL_add l dC dI cC cI cZ cL q0 qt qs qe qb ql tTc aSc aEc aBc aLc nCc g (sp_strip tTc g b) x sz hc) ⟨callB_of 3 hts g_RL_add rfl rfl rfl (hts _ kw_0_2) (hts _ kw_0_128) (by decide +kernel) (by decide), (hts _ kw_0_130), (hts _ ks_RL_add)⟩ rfl rfl (Nat.le_of_ble_eq_true rfl) d_RL_load_108 (by decide) 0 rfl rfl [0, 1, 2, 3, 4, 5] [6] [1, 2, 3, 4, 5, 6, 0] rfl rfl (by decide) (by decide) (by decide) (fun _ => rfl) (fun _ => rfl) (fun u hr => ?_)
          obtain ⟨w1, w2, w3, w4, w5⟩ := u
          unfold p_RL_add at hr
          obtain ⟨rfl, rfl, rfl, rfl, rfl⟩ := hr
          refine ig_lv (lv' := [(0, .ref q0), (2, .int (nI n)), (3, .int (nI x)), (5, .int (nI b))]) [1, 2, 3, 5] rfl ?_
          exact j111 _ _ _ _ _ _ _ _ hv
        · have hv := hv.2 h
          refine ig_iconst (v := 0) hx hb d_RL_load_100 (by decide) ?_
          exact hret 101 _ 0 (tTc, aSc, aEc, aBc, aLc, nCc) d_RL_load_101 ⟨false, rfl, hv⟩
  have k2 : ∀ (x : Nat) (nCc : Nat) (tTc : Nat → Int32) (aSc : Nat → Nat) (aEc : Nat → Nat) (aBc : Nat → Nat) (aLc : Nat → Nat), v_RL_load_2 tT aS aE aB aL nC sT n K2 K35 (p_RL_load tT aS aE aB aL nC sT n) x nCc tTc aSc aEc aBc aLc → K2 x nCc tTc aSc aEc aBc aLc := by
    intro x nCc tTc aSc aEc aBc aLc hv
    unfold v_RL_load_2 at hv
    rw [hK2]
    show ig_W zp l ze ({ frames := 4, cells := 0, slots := 0, locals := 99 }) zs zm zargs zbelow zmeth zc (dC, dI) ig_cl0 zA zs.heap 7 0 0 zQ 2 [(0, .ref q0), (1, .ref qS), (2, .int (nI n)), (3, .int (nI x))] [] [(q0, .inr (ciRL, [.ref qt, .ref qs, .ref qe, .ref qb, .ref ql, .int (nI nCc)])), (qt, .inl (cC, 1000, .inl tTc)), (qs, .inl (cI, 60, .inl (fun zj => nI (aSc zj)))), (qe, .inl (cI, 60, .inl (fun zj => nI (aEc zj)))), (qb, .inl (cI, 60, .inl (fun zj => nI (aBc zj)))), (ql, .inl (cI, 60, .inl (fun zj => nI (aLc zj)))), (qS, .inl (cC, 1000, .inl sT))]
    refine ig_iload_n hx hb 3 d_RL_load_2 rfl rfl ?_
    refine ig_iload_n hx hb 2 d_RL_load_3 rfl rfl ?_
    obtain ⟨h1, hv⟩ := hv
    obtain ⟨h2, hv⟩ := hv
    refine ig_icmp_geN (tgt := 22) hx hb x n rfl rfl d_RL_load_4 (by decide) h1 h2 (fun h => ?_) (fun h => ?_)
    · have hv := hv.1 h
      refine ig_aload_n hx hb 0 d_RL_load_22 rfl rfl ?_
      refine ig_iconst (v := 0) hx hb d_RL_load_23 (by decide) ?_
      refine ig_put (ty := .int) (v := .int 0) (ws' := [(q0, .inr (ciRL, [.ref qt, .ref qs, .ref qe, .ref qb, .ref ql, .int (nI 0)])), (qt, .inl (cC, 1000, .inl tTc)), (qs, .inl (cI, 60, .inl (fun zj => nI (aSc zj)))), (qe, .inl (cI, 60, .inl (fun zj => nI (aEc zj)))), (qb, .inl (cI, 60, .inl (fun zj => nI (aBc zj)))), (ql, .inl (cI, 60, .inl (fun zj => nI (aLc zj)))), (qS, .inl (cC, 1000, .inl sT))]) hx hb hts in_RL t_RL t_RL_ok n_RL hown hK 0 rfl rfl 5 (by decide) (hts _ kw_0_39) (fun _ h => h) rfl (by decide +kernel) rfl rfl (Nat.le_of_ble_eq_true rfl) d_RL_load_24 rfl ?_
      refine ig_iconst (v := 0) hx hb d_RL_load_27 (by decide) ?_
      refine ig_istore_n (lv' := [(3, .int 0), (0, .ref q0), (1, .ref qS), (2, .int (nI n))]) hx hb d_RL_load_28 rfl (by decide) rfl ?_
      refine ig_iconst (v := 0) hx hb d_RL_load_29 (by decide) ?_
      refine ig_istore (lv' := [(4, .int 0), (3, .int 0), (0, .ref q0), (1, .ref qS), (2, .int (nI n))]) hx hb d_RL_load_30 (by decide) rfl ?_
      refine ig_iconst (v := 0) hx hb d_RL_load_32 (by decide) ?_
      refine ig_istore (lv' := [(5, .int 0), (4, .int 0), (3, .int 0), (0, .ref q0), (1, .ref qS), (2, .int (nI n))]) hx hb d_RL_load_33 (by decide) rfl ?_
      refine ig_lv (lv' := [(0, .ref q0), (2, .int (nI n)), (3, .int 0), (4, .int 0), (5, .int 0)]) [3, 5, 2, 1, 0] rfl ?_
      rw [hK35] at hv
      exact hv
    · have hv := hv.2 h
      refine ig_aload_n hx hb 0 d_RL_load_7 rfl rfl ?_
      refine ig_get hx hb hts in_RL hown hK 0 rfl rfl 0 (by decide) (hts _ kw_0_27) (fun _ h => h) rfl d_RL_load_8 ?_
      refine ig_iload_n hx hb 3 d_RL_load_11 rfl rfl ?_
      refine ig_aload_n hx hb 1 d_RL_load_12 rfl rfl ?_
      refine ig_iload_n hx hb 3 d_RL_load_13 rfl rfl ?_
      obtain ⟨hc, hv⟩ := hv
      refine ig_cald (x := (sT x)) hx hb hK 6 0 rfl rfl x rfl hc (by decide) rfl d_RL_load_14 ?_
      obtain ⟨hc, hv⟩ := hv
      obtain ⟨hn, hv⟩ := hv
      refine ig_cast (f' := upd tTc x (sT x)) (ws' := [(q0, .inr (ciRL, [.ref qt, .ref qs, .ref qe, .ref qb, .ref ql, .int (nI nCc)])), (qt, .inl (cC, 1000, .inl (upd tTc x (sT x)))), (qs, .inl (cI, 60, .inl (fun zj => nI (aSc zj)))), (qe, .inl (cI, 60, .inl (fun zj => nI (aEc zj)))), (qb, .inl (cI, 60, .inl (fun zj => nI (aBc zj)))), (ql, .inl (cI, 60, .inl (fun zj => nI (aLc zj)))), (qS, .inl (cC, 1000, .inl sT))]) hx hb hK 1 0 rfl rfl x rfl hc (by decide) hn rfl d_RL_load_15 rfl ?_
      refine ig_iinc (v := (nI (x + 1))) (lv' := [(3, .int (nI (x + 1))), (0, .ref q0), (1, .ref qS), (2, .int (nI n))]) hx hb 3 d_RL_load_16 rfl (ig_inc x 1 (by decide)) (by decide) rfl ?_
      refine ig_goto (tgt := 2) hx hb d_RL_load_19 (by decide) ?_
      refine ig_lv (lv' := [(0, .ref q0), (1, .ref qS), (2, .int (nI n)), (3, .int (nI (x + 1)))]) [1, 2, 3, 0] rfl ?_
      rw [hK2] at hv
      exact hv
  have k35 : ∀ (x : Nat) (g : Nat) (b : Nat) (nCc : Nat) (tTc : Nat → Int32) (aSc : Nat → Nat) (aEc : Nat → Nat) (aBc : Nat → Nat) (aLc : Nat → Nat), v_RL_load_35 tT aS aE aB aL nC sT n K2 K35 (p_RL_load tT aS aE aB aL nC sT n) x g b nCc tTc aSc aEc aBc aLc → K35 x g b nCc tTc aSc aEc aBc aLc := by
    intro x g b nCc tTc aSc aEc aBc aLc hv
    unfold v_RL_load_35 at hv
    rw [hK35]
    show ig_W zp l ze ({ frames := 4, cells := 0, slots := 0, locals := 99 }) zs zm zargs zbelow zmeth zc (dC, dI) ig_cl0 zA zs.heap 7 0 0 zQ 35 [(0, .ref q0), (2, .int (nI n)), (3, .int (nI x)), (4, .int (nI g)), (5, .int (nI b))] [] [(q0, .inr (ciRL, [.ref qt, .ref qs, .ref qe, .ref qb, .ref ql, .int (nI nCc)])), (qt, .inl (cC, 1000, .inl tTc)), (qs, .inl (cI, 60, .inl (fun zj => nI (aSc zj)))), (qe, .inl (cI, 60, .inl (fun zj => nI (aEc zj)))), (qb, .inl (cI, 60, .inl (fun zj => nI (aBc zj)))), (ql, .inl (cI, 60, .inl (fun zj => nI (aLc zj)))), (qS, .inl (cC, 1000, .inl sT))]
    refine ig_iload hx hb 4 d_RL_load_35 rfl ?_
    refine ig_iload_n hx hb 1 d_RL_load_37 rfl rfl ?_
    obtain ⟨h1, hv⟩ := hv
    obtain ⟨h2, hv⟩ := hv
    refine ig_icmp_gtN (tgt := 126) hx hb b n rfl rfl d_RL_load_38 (by decide) h1 h2 (fun h => ?_) (fun h => ?_)
    · have hv := hv.1 h
      refine ig_iconst (v := 1) hx hb d_RL_load_126 (by decide) ?_
      exact hret 127 _ 1 (tTc, aSc, aEc, aBc, aLc, nCc) d_RL_load_127 ⟨true, rfl, hv⟩
    · have hv := hv.2 h
      refine ig_iload hx hb 4 d_RL_load_41 rfl ?_
      refine ig_iload_n hx hb 1 d_RL_load_43 rfl rfl ?_
      obtain ⟨h1, hv⟩ := hv
      obtain ⟨h2, hv⟩ := hv
      refine ig_icmp_geN (tgt := 62) hx hb b n rfl rfl d_RL_load_44 (by decide) h1 h2 (fun h => ?_) (fun h => ?_)
      · have hv := hv.1 h
        refine ig_lv (lv' := [(0, .ref q0), (2, .int (nI n)), (3, .int (nI x)), (4, .int (nI g)), (5, .int (nI b))]) [0, 1, 2, 3, 4] rfl ?_
        exact j62 _ _ _ _ _ _ _ _ _ hv
      · have hv := hv.2 h
        refine ig_aload_n hx hb 0 d_RL_load_47 rfl rfl ?_
        refine ig_get hx hb hts in_RL hown hK 0 rfl rfl 0 (by decide) (hts _ kw_0_27) (fun _ h => h) rfl d_RL_load_48 ?_
        refine ig_iload hx hb 4 d_RL_load_51 rfl ?_
        obtain ⟨hc, hv⟩ := hv
        refine ig_cald (x := (tTc b)) hx hb hK 1 0 rfl rfl b rfl hc (by decide) rfl d_RL_load_53 ?_
        refine ig_bipush (v := 10) hx hb d_RL_load_54 (by decide) ?_
        refine ig_icmp_eq (tgt := 62) hx hb d_RL_load_56 (by decide) (fun h => ?_) (fun h => ?_)
        · have hv := hv.1 h
          refine ig_lv (lv' := [(0, .ref q0), (2, .int (nI n)), (3, .int (nI x)), (4, .int (nI g)), (5, .int (nI b))]) [0, 1, 2, 3, 4] rfl ?_
          exact j62 _ _ _ _ _ _ _ _ _ hv
        · have hv := hv.2 h
          refine ig_goto (tgt := 120) hx hb d_RL_load_59 (by decide) ?_
          refine ig_iinc (v := (nI (b + 1))) (lv' := [(5, .int (nI (b + 1))), (0, .ref q0), (2, .int (nI n)), (3, .int (nI x)), (4, .int (nI g))]) hx hb 4 d_RL_load_120 rfl (ig_inc b 1 (by decide)) (by decide) rfl ?_
          refine ig_goto (tgt := 35) hx hb d_RL_load_123 (by decide) ?_
          refine ig_lv (lv' := [(0, .ref q0), (2, .int (nI n)), (3, .int (nI x)), (4, .int (nI g)), (5, .int (nI (b + 1)))]) [1, 2, 3, 4, 0] rfl ?_
          rw [hK35] at hv
          exact hv
  have hv := t_RL_load tT aS aE aB aL nC sT n hr K2 K35 k2 k35
  unfold v_RL_load at hv
  refine ig_iconst (v := 0) hx hb d_RL_load_0 (by decide) ?_
  refine ig_istore_n (lv' := [(3, .int 0), (0, .ref q0), (1, .ref qS), (2, .int (nI n))]) hx hb d_RL_load_1 rfl (by decide) rfl ?_
  refine ig_lv (lv' := [(0, .ref q0), (1, .ref qS), (2, .int (nI n)), (3, .int 0)]) [1, 2, 3, 0] rfl ?_
  rw [hK2] at hv
  exact hv
theorem d_PA_load_0 : decode b_PA_load 0 = .ok (.aload_n 0, 1) := by decide +kernel
theorem d_PA_load_1 : decode b_PA_load 1 = .ok (.iconst 0, 1) := by decide +kernel
theorem d_PA_load_2 : decode b_PA_load 2 = .ok (.putfield 19, 3) := by decide +kernel
theorem d_PA_load_5 : decode b_PA_load 5 = .ok (.iload_n 2, 1) := by decide +kernel
theorem d_PA_load_6 : decode b_PA_load 6 = .ok (.bipush 120, 2) := by decide +kernel
theorem d_PA_load_8 : decode b_PA_load 8 = .ok (.if_icmp .le 5, 3) := by decide +kernel
theorem d_PA_load_11 : decode b_PA_load 11 = .ok (.iconst 0, 1) := by decide +kernel
theorem d_PA_load_12 : decode b_PA_load 12 = .ok (.ireturn, 1) := by decide +kernel
theorem d_PA_load_13 : decode b_PA_load 13 = .ok (.iconst 0, 1) := by decide +kernel
theorem d_PA_load_14 : decode b_PA_load 14 = .ok (.istore_n 3, 1) := by decide +kernel
theorem d_PA_load_15 : decode b_PA_load 15 = .ok (.iconst 0, 1) := by decide +kernel
theorem d_PA_load_16 : decode b_PA_load 16 = .ok (.istore 4, 2) := by decide +kernel
theorem d_PA_load_18 : decode b_PA_load 18 = .ok (.iload 4, 2) := by decide +kernel
theorem d_PA_load_20 : decode b_PA_load 20 = .ok (.iload_n 2, 1) := by decide +kernel
theorem d_PA_load_21 : decode b_PA_load 21 = .ok (.if_icmp .gt 81, 3) := by decide +kernel
theorem d_PA_load_24 : decode b_PA_load 24 = .ok (.iload 4, 2) := by decide +kernel
theorem d_PA_load_26 : decode b_PA_load 26 = .ok (.iload_n 2, 1) := by decide +kernel
theorem d_PA_load_27 : decode b_PA_load 27 = .ok (.if_icmp .ge 37, 3) := by decide +kernel
theorem d_PA_load_30 : decode b_PA_load 30 = .ok (.aload_n 1, 1) := by decide +kernel
theorem d_PA_load_31 : decode b_PA_load 31 = .ok (.iload 4, 2) := by decide +kernel
theorem d_PA_load_33 : decode b_PA_load 33 = .ok (.caload, 1) := by decide +kernel
theorem d_PA_load_34 : decode b_PA_load 34 = .ok (.bipush 47, 2) := by decide +kernel
theorem d_PA_load_36 : decode b_PA_load 36 = .ok (.if_icmp .eq 28, 3) := by decide +kernel
theorem d_PA_load_39 : decode b_PA_load 39 = .ok (.aload_n 1, 1) := by decide +kernel
theorem d_PA_load_40 : decode b_PA_load 40 = .ok (.iload 4, 2) := by decide +kernel
theorem d_PA_load_42 : decode b_PA_load 42 = .ok (.caload, 1) := by decide +kernel
theorem d_PA_load_43 : decode b_PA_load 43 = .ok (.bipush 10, 2) := by decide +kernel
theorem d_PA_load_45 : decode b_PA_load 45 = .ok (.if_icmp .ne 5, 3) := by decide +kernel
theorem d_PA_load_48 : decode b_PA_load 48 = .ok (.iconst 0, 1) := by decide +kernel
theorem d_PA_load_49 : decode b_PA_load 49 = .ok (.ireturn, 1) := by decide +kernel
theorem d_PA_load_50 : decode b_PA_load 50 = .ok (.aload_n 0, 1) := by decide +kernel
theorem d_PA_load_51 : decode b_PA_load 51 = .ok (.getfield 9, 3) := by decide +kernel
theorem d_PA_load_54 : decode b_PA_load 54 = .ok (.iload 4, 2) := by decide +kernel
theorem d_PA_load_56 : decode b_PA_load 56 = .ok (.aload_n 1, 1) := by decide +kernel
theorem d_PA_load_57 : decode b_PA_load 57 = .ok (.iload 4, 2) := by decide +kernel
theorem d_PA_load_59 : decode b_PA_load 59 = .ok (.caload, 1) := by decide +kernel
theorem d_PA_load_60 : decode b_PA_load 60 = .ok (.castore, 1) := by decide +kernel
theorem d_PA_load_61 : decode b_PA_load 61 = .ok (.goto 35, 3) := by decide +kernel
theorem d_PA_load_64 : decode b_PA_load 64 = .ok (.iload 4, 2) := by decide +kernel
theorem d_PA_load_66 : decode b_PA_load 66 = .ok (.aload_n 0, 1) := by decide +kernel
theorem d_PA_load_67 : decode b_PA_load 67 = .ok (.getfield 15, 3) := by decide +kernel
theorem d_PA_load_70 : decode b_PA_load 70 = .ok (.iload_n 3, 1) := by decide +kernel
theorem d_PA_load_71 : decode b_PA_load 71 = .ok (.iaload, 1) := by decide +kernel
theorem d_PA_load_72 : decode b_PA_load 72 = .ok (.if_icmp .eq 9, 3) := by decide +kernel
theorem d_PA_load_75 : decode b_PA_load 75 = .ok (.iload_n 3, 1) := by decide +kernel
theorem d_PA_load_76 : decode b_PA_load 76 = .ok (.bipush 20, 2) := by decide +kernel
theorem d_PA_load_78 : decode b_PA_load 78 = .ok (.if_icmp .ne 5, 3) := by decide +kernel
theorem d_PA_load_81 : decode b_PA_load 81 = .ok (.iconst 0, 1) := by decide +kernel
theorem d_PA_load_82 : decode b_PA_load 82 = .ok (.ireturn, 1) := by decide +kernel
theorem d_PA_load_83 : decode b_PA_load 83 = .ok (.iinc 3 1, 3) := by decide +kernel
theorem d_PA_load_86 : decode b_PA_load 86 = .ok (.aload_n 0, 1) := by decide +kernel
theorem d_PA_load_87 : decode b_PA_load 87 = .ok (.getfield 15, 3) := by decide +kernel
theorem d_PA_load_90 : decode b_PA_load 90 = .ok (.iload_n 3, 1) := by decide +kernel
theorem d_PA_load_91 : decode b_PA_load 91 = .ok (.iload 4, 2) := by decide +kernel
theorem d_PA_load_93 : decode b_PA_load 93 = .ok (.iconst 1, 1) := by decide +kernel
theorem d_PA_load_94 : decode b_PA_load 94 = .ok (.iadd, 1) := by decide +kernel
theorem d_PA_load_95 : decode b_PA_load 95 = .ok (.iastore, 1) := by decide +kernel
theorem d_PA_load_96 : decode b_PA_load 96 = .ok (.iinc 4 1, 3) := by decide +kernel
theorem d_PA_load_99 : decode b_PA_load 99 = .ok (.goto (-81), 3) := by decide +kernel
theorem d_PA_load_102 : decode b_PA_load 102 = .ok (.aload_n 0, 1) := by decide +kernel
theorem d_PA_load_103 : decode b_PA_load 103 = .ok (.iload_n 3, 1) := by decide +kernel
theorem d_PA_load_104 : decode b_PA_load 104 = .ok (.putfield 19, 3) := by decide +kernel
theorem d_PA_load_107 : decode b_PA_load 107 = .ok (.iconst 1, 1) := by decide +kernel
theorem d_PA_load_108 : decode b_PA_load 108 = .ok (.ireturn, 1) := by decide +kernel
abbrev w_PA_load : List Cond := Cond.code y_PA_load b_PA_load 5 (some .boolean) :: ig_T
theorem g_PA_load : GoodIn ig_T w_PA_load := ig_T_good (ig_T_mem (List.mem_append_left _ (List.mem_of_getElem? (i := 153) rfl)) rfl)
set_option maxHeartbeats 4000000 in
set_option maxRecDepth 100000 in
theorem c_PA_load (l : Launch) (dC : Nat → ClassId) (dI : Nat → Nat → Nat) (cC cI cZ cL : ClassId) (p0 pb ps qS : Nat)  (pC : Nat) (pB : Nat → Int32) (pS : Nat → Nat) (sT : Nat → Int32) (n : Nat) (sz : Nat) (hr : r_PA_load pC pB pS sT n) : Met l y_PA_load w_PA_load ({ frames := 0, cells := 0, slots := 0, locals := 0 }) (ig_Pc (dC, dI) ig_cl0 [(cC, .char), (cI, .int), (cZ, .boolean), (cL, .long)] [.ref p0, .ref qS, .int (nI n)] [(p0, .inr (ciPA, [.ref pb, .ref ps, .int (nI pC)])), (pb, .inl (cC, 120, .inl pB)), (ps, .inl (cI, 21, .inl (fun zj => nI (pS zj)))), (qS, .inl (cC, 1000, .inl sT))] sz) (va_Qi (fun (r : Int32) (u : Nat × (Nat → Int32) × (Nat → Nat)) => ∃ zr : Bool, r = bI zr ∧ p_PA_load pC pB pS sT n zr u.1 u.2.1 u.2.2) (fun u t => va_P (dC, dI) ig_cl0 ((fun (u : Nat × (Nat → Int32) × (Nat → Nat)) => [(p0, .inr (ciPA, [.ref pb, .ref ps, .int (nI u.1)])), (pb, .inl (cC, 120, .inl u.2.1)), (ps, .inl (cI, 21, .inl (fun zj => nI (u.2.2 zj)))), (qS, .inl (cC, 1000, .inl sT))]) u) t.heap ∧ va_D (va_A [(p0, .inr (ciPA, [.ref pb, .ref ps, .int (nI pC)])), (pb, .inl (cC, 120, .inl pB)), (ps, .inl (cI, 21, .inl (fun zj => nI (pS zj)))), (qS, .inl (cC, 1000, .inl sT))] sz) ((fun (u : Nat × (Nat → Int32) × (Nat → Nat)) => [(p0, .inr (ciPA, [.ref pb, .ref ps, .int (nI u.1)])), (pb, .inl (cC, 120, .inl u.2.1)), (ps, .inl (cI, 21, .inl (fun zj => nI (u.2.2 zj)))), (qS, .inl (cC, 1000, .inl sT))]) u)) (va_A [(p0, .inr (ciPA, [.ref pb, .ref ps, .int (nI pC)])), (pb, .inl (cC, 120, .inl pB)), (ps, .inl (cI, 21, .inl (fun zj => nI (pS zj)))), (qS, .inl (cC, 1000, .inl sT))] sz)) 0 0 (va_A [(p0, .inr (ciPA, [.ref pb, .ref ps, .int (nI pC)])), (pb, .inl (cC, 120, .inl pB)), (ps, .inl (cI, 21, .inl (fun zj => nI (pS zj)))), (qS, .inl (cC, 1000, .inl sT))] sz) := by
  refine ig_metI (fun (r : Int32) (u : Nat × (Nat → Int32) × (Nat → Nat)) => ∃ zr : Bool, r = bI zr ∧ p_PA_load pC pB pS sT n zr u.1 u.2.1 u.2.2) (fun (u : Nat × (Nat → Int32) × (Nat → Nat)) => [(p0, .inr (ciPA, [.ref pb, .ref ps, .int (nI u.1)])), (pb, .inl (cC, 120, .inl u.2.1)), (ps, .inl (cI, 21, .inl (fun zj => nI (u.2.2 zj)))), (qS, .inl (cC, 1000, .inl sT))]) (by decide) rfl (Nat.le_of_ble_eq_true rfl) rfl (by rintro r u ⟨b, rfl, -⟩; exact bI_ret b) ?_
  intro zp ze zs zm zargs zbelow zmeth zc zA zQ hx hb hml hown hts hK hN hA hret
  obtain ⟨K18, hK18⟩ : ∃ K : Nat → Nat → Nat → (Nat → Int32) → (Nat → Nat) → Prop, K = fun (m : Nat) (b : Nat) (pCc : Nat) (pBc : Nat → Int32) (pSc : Nat → Nat) => ig_W zp l ze ({ frames := 0, cells := 0, slots := 0, locals := 0 }) zs zm zargs zbelow zmeth zc (dC, dI) ig_cl0 zA zs.heap 5 0 0 zQ 18 [(0, .ref p0), (1, .ref qS), (2, .int (nI n)), (3, .int (nI m)), (4, .int (nI b))] [] [(p0, .inr (ciPA, [.ref pb, .ref ps, .int (nI pCc)])), (pb, .inl (cC, 120, .inl pBc)), (ps, .inl (cI, 21, .inl (fun zj => nI (pSc zj)))), (qS, .inl (cC, 1000, .inl sT))] := ⟨_, rfl⟩
  have j64 : ∀ (m : Nat) (b : Nat) (pCc : Nat) (pBc : Nat → Int32) (pSc : Nat → Nat), v_PA_load_64 pC pB pS sT n K18 (p_PA_load pC pB pS sT n) m b pCc pBc pSc → ig_W zp l ze ({ frames := 0, cells := 0, slots := 0, locals := 0 }) zs zm zargs zbelow zmeth zc (dC, dI) ig_cl0 zA zs.heap 5 0 0 zQ 64 [(0, .ref p0), (1, .ref qS), (2, .int (nI n)), (3, .int (nI m)), (4, .int (nI b))] [] [(p0, .inr (ciPA, [.ref pb, .ref ps, .int (nI pCc)])), (pb, .inl (cC, 120, .inl pBc)), (ps, .inl (cI, 21, .inl (fun zj => nI (pSc zj)))), (qS, .inl (cC, 1000, .inl sT))] := by
    intro m b pCc pBc pSc hv
    unfold v_PA_load_64 at hv
    refine ig_iload hx hb 4 d_PA_load_64 rfl ?_
    refine ig_aload_n hx hb 0 d_PA_load_66 rfl rfl ?_
    refine ig_get hx hb hts in_PA hown hK 0 rfl rfl 1 (by decide) (hts _ kw_0_64) (fun _ h => h) rfl d_PA_load_67 ?_
    refine ig_iload_n hx hb 3 d_PA_load_70 rfl rfl ?_
    obtain ⟨hc, hv⟩ := hv
    refine ig_iald (x := (nI (pSc m))) hx hb hK 2 1 rfl rfl m rfl hc (by decide) rfl d_PA_load_71 ?_
    obtain ⟨h1, hv⟩ := hv
    obtain ⟨h2, hv⟩ := hv
    refine ig_icmp_eqN (tgt := 81) hx hb b (pSc m) rfl rfl d_PA_load_72 (by decide) h1 h2 (fun h => ?_) (fun h => ?_)
    · have hv := hv.1 h
      refine ig_iconst (v := 0) hx hb d_PA_load_81 (by decide) ?_
      exact hret 82 _ 0 (pCc, pBc, pSc) d_PA_load_82 ⟨false, rfl, hv⟩
    · have hv := hv.2 h
      refine ig_iload_n hx hb 3 d_PA_load_75 rfl rfl ?_
      refine ig_bipush (v := 20) hx hb d_PA_load_76 (by decide) ?_
      obtain ⟨h1, hv⟩ := hv
      refine ig_icmp_neN (tgt := 83) hx hb m 20 rfl rfl d_PA_load_78 (by decide) h1 (by decide) (fun h => ?_) (fun h => ?_)
      · have hv := hv.1 h
        refine ig_iinc (v := (nI (m + 1))) (lv' := [(3, .int (nI (m + 1))), (0, .ref p0), (1, .ref qS), (2, .int (nI n)), (4, .int (nI b))]) hx hb 3 d_PA_load_83 rfl (ig_inc m 1 (by decide)) (by decide) rfl ?_
        refine ig_aload_n hx hb 1 d_PA_load_86 rfl rfl ?_
        refine ig_get hx hb hts in_PA hown hK 0 rfl rfl 1 (by decide) (hts _ kw_0_64) (fun _ h => h) rfl d_PA_load_87 ?_
        refine ig_iload_n hx hb 0 d_PA_load_90 rfl rfl ?_
        refine ig_iload hx hb 4 d_PA_load_91 rfl ?_
        refine ig_iconst (v := 1) hx hb d_PA_load_93 (by decide) ?_
        refine ig_iaddN hx hb b 1 rfl rfl d_PA_load_94 ?_
        obtain ⟨hc, hv⟩ := hv
        refine ig_iast (f' := fun zj => nI ((updN pSc (m + 1) (b + 1)) zj)) (ws' := [(p0, .inr (ciPA, [.ref pb, .ref ps, .int (nI pCc)])), (pb, .inl (cC, 120, .inl pBc)), (ps, .inl (cI, 21, .inl (fun zj => nI ((updN pSc (m + 1) (b + 1)) zj)))), (qS, .inl (cC, 1000, .inl sT))]) hx hb hK 2 1 rfl rfl (m + 1) rfl hc (by decide) (upd_N pSc (m + 1) (b + 1)) d_PA_load_95 rfl ?_
        refine ig_iinc (v := (nI (b + 1))) (lv' := [(4, .int (nI (b + 1))), (3, .int (nI (m + 1))), (0, .ref p0), (1, .ref qS), (2, .int (nI n))]) hx hb 4 d_PA_load_96 rfl (ig_inc b 1 (by decide)) (by decide) rfl ?_
        refine ig_goto (tgt := 18) hx hb d_PA_load_99 (by decide) ?_
        refine ig_lv (lv' := [(0, .ref p0), (1, .ref qS), (2, .int (nI n)), (3, .int (nI (m + 1))), (4, .int (nI (b + 1)))]) [2, 3, 4, 1, 0] rfl ?_
        rw [hK18] at hv
        exact hv
      · have hv := hv.2 h
        refine ig_iconst (v := 0) hx hb d_PA_load_81 (by decide) ?_
        exact hret 82 _ 0 (pCc, pBc, pSc) d_PA_load_82 ⟨false, rfl, hv⟩
  have k18 : ∀ (m : Nat) (b : Nat) (pCc : Nat) (pBc : Nat → Int32) (pSc : Nat → Nat), v_PA_load_18 pC pB pS sT n K18 (p_PA_load pC pB pS sT n) m b pCc pBc pSc → K18 m b pCc pBc pSc := by
    intro m b pCc pBc pSc hv
    unfold v_PA_load_18 at hv
    rw [hK18]
    show ig_W zp l ze ({ frames := 0, cells := 0, slots := 0, locals := 0 }) zs zm zargs zbelow zmeth zc (dC, dI) ig_cl0 zA zs.heap 5 0 0 zQ 18 [(0, .ref p0), (1, .ref qS), (2, .int (nI n)), (3, .int (nI m)), (4, .int (nI b))] [] [(p0, .inr (ciPA, [.ref pb, .ref ps, .int (nI pCc)])), (pb, .inl (cC, 120, .inl pBc)), (ps, .inl (cI, 21, .inl (fun zj => nI (pSc zj)))), (qS, .inl (cC, 1000, .inl sT))]
    refine ig_iload hx hb 4 d_PA_load_18 rfl ?_
    refine ig_iload_n hx hb 2 d_PA_load_20 rfl rfl ?_
    obtain ⟨h1, hv⟩ := hv
    obtain ⟨h2, hv⟩ := hv
    refine ig_icmp_gtN (tgt := 102) hx hb b n rfl rfl d_PA_load_21 (by decide) h1 h2 (fun h => ?_) (fun h => ?_)
    · have hv := hv.1 h
      refine ig_aload_n hx hb 0 d_PA_load_102 rfl rfl ?_
      refine ig_iload_n hx hb 3 d_PA_load_103 rfl rfl ?_
      refine ig_put (ty := .int) (v := .int (nI m)) (ws' := [(p0, .inr (ciPA, [.ref pb, .ref ps, .int (nI m)])), (pb, .inl (cC, 120, .inl pBc)), (ps, .inl (cI, 21, .inl (fun zj => nI (pSc zj)))), (qS, .inl (cC, 1000, .inl sT))]) hx hb hts in_PA t_PA t_PA_ok n_PA hown hK 0 rfl rfl 2 (by decide) (hts _ kw_0_66) (fun _ h => h) rfl (by decide +kernel) rfl rfl (Nat.le_of_ble_eq_true rfl) d_PA_load_104 rfl ?_
      refine ig_iconst (v := 1) hx hb d_PA_load_107 (by decide) ?_
      exact hret 108 _ 1 (m, pBc, pSc) d_PA_load_108 ⟨true, rfl, hv⟩
    · have hv := hv.2 h
      refine ig_iload hx hb 4 d_PA_load_24 rfl ?_
      refine ig_iload_n hx hb 2 d_PA_load_26 rfl rfl ?_
      obtain ⟨h1, hv⟩ := hv
      obtain ⟨h2, hv⟩ := hv
      refine ig_icmp_geN (tgt := 64) hx hb b n rfl rfl d_PA_load_27 (by decide) h1 h2 (fun h => ?_) (fun h => ?_)
      · have hv := hv.1 h
        refine ig_lv (lv' := [(0, .ref p0), (1, .ref qS), (2, .int (nI n)), (3, .int (nI m)), (4, .int (nI b))]) [0, 1, 2, 3, 4] rfl ?_
        exact j64 _ _ _ _ _ hv
      · have hv := hv.2 h
        refine ig_aload_n hx hb 1 d_PA_load_30 rfl rfl ?_
        refine ig_iload hx hb 4 d_PA_load_31 rfl ?_
        obtain ⟨hc, hv⟩ := hv
        refine ig_cald (x := (sT b)) hx hb hK 3 0 rfl rfl b rfl hc (by decide) rfl d_PA_load_33 ?_
        refine ig_bipush (v := 47) hx hb d_PA_load_34 (by decide) ?_
        refine ig_icmp_eq (tgt := 64) hx hb d_PA_load_36 (by decide) (fun h => ?_) (fun h => ?_)
        · have hv := hv.1 h
          refine ig_lv (lv' := [(0, .ref p0), (1, .ref qS), (2, .int (nI n)), (3, .int (nI m)), (4, .int (nI b))]) [0, 1, 2, 3, 4] rfl ?_
          exact j64 _ _ _ _ _ hv
        · have hv := hv.2 h
          refine ig_aload_n hx hb 1 d_PA_load_39 rfl rfl ?_
          refine ig_iload hx hb 4 d_PA_load_40 rfl ?_
          obtain ⟨hc, hv⟩ := hv
          refine ig_cald (x := (sT b)) hx hb hK 3 0 rfl rfl b rfl hc (by decide) rfl d_PA_load_42 ?_
          refine ig_bipush (v := 10) hx hb d_PA_load_43 (by decide) ?_
          refine ig_icmp_ne (tgt := 50) hx hb d_PA_load_45 (by decide) (fun h => ?_) (fun h => ?_)
          · have hv := hv.1 h
            refine ig_aload_n hx hb 0 d_PA_load_50 rfl rfl ?_
            refine ig_get hx hb hts in_PA hown hK 0 rfl rfl 0 (by decide) (hts _ kw_0_62) (fun _ h => h) rfl d_PA_load_51 ?_
            refine ig_iload hx hb 4 d_PA_load_54 rfl ?_
            refine ig_aload_n hx hb 1 d_PA_load_56 rfl rfl ?_
            refine ig_iload hx hb 4 d_PA_load_57 rfl ?_
            obtain ⟨hc, hv⟩ := hv
            refine ig_cald (x := (sT b)) hx hb hK 3 0 rfl rfl b rfl hc (by decide) rfl d_PA_load_59 ?_
            obtain ⟨hc, hv⟩ := hv
            obtain ⟨hn, hv⟩ := hv
            refine ig_cast (f' := upd pBc b (sT b)) (ws' := [(p0, .inr (ciPA, [.ref pb, .ref ps, .int (nI pCc)])), (pb, .inl (cC, 120, .inl (upd pBc b (sT b)))), (ps, .inl (cI, 21, .inl (fun zj => nI (pSc zj)))), (qS, .inl (cC, 1000, .inl sT))]) hx hb hK 1 0 rfl rfl b rfl hc (by decide) hn rfl d_PA_load_60 rfl ?_
            refine ig_goto (tgt := 96) hx hb d_PA_load_61 (by decide) ?_
            refine ig_iinc (v := (nI (b + 1))) (lv' := [(4, .int (nI (b + 1))), (0, .ref p0), (1, .ref qS), (2, .int (nI n)), (3, .int (nI m))]) hx hb 4 d_PA_load_96 rfl (ig_inc b 1 (by decide)) (by decide) rfl ?_
            refine ig_goto (tgt := 18) hx hb d_PA_load_99 (by decide) ?_
            refine ig_lv (lv' := [(0, .ref p0), (1, .ref qS), (2, .int (nI n)), (3, .int (nI m)), (4, .int (nI (b + 1)))]) [1, 2, 3, 4, 0] rfl ?_
            rw [hK18] at hv
            exact hv
          · have hv := hv.2 h
            refine ig_iconst (v := 0) hx hb d_PA_load_48 (by decide) ?_
            exact hret 49 _ 0 (pCc, pBc, pSc) d_PA_load_49 ⟨false, rfl, hv⟩
  have hv := t_PA_load pC pB pS sT n hr K18 k18
  unfold v_PA_load at hv
  refine ig_aload_n hx hb 0 d_PA_load_0 rfl rfl ?_
  refine ig_iconst (v := 0) hx hb d_PA_load_1 (by decide) ?_
  refine ig_put (ty := .int) (v := .int 0) (ws' := [(p0, .inr (ciPA, [.ref pb, .ref ps, .int (nI 0)])), (pb, .inl (cC, 120, .inl pB)), (ps, .inl (cI, 21, .inl (fun zj => nI (pS zj)))), (qS, .inl (cC, 1000, .inl sT))]) hx hb hts in_PA t_PA t_PA_ok n_PA hown hK 0 rfl rfl 2 (by decide) (hts _ kw_0_66) (fun _ h => h) rfl (by decide +kernel) rfl rfl (Nat.le_of_ble_eq_true rfl) d_PA_load_2 rfl ?_
  refine ig_iload_n hx hb 2 d_PA_load_5 rfl rfl ?_
  refine ig_bipush (v := 120) hx hb d_PA_load_6 (by decide) ?_
  obtain ⟨h1, hv⟩ := hv
  refine ig_icmp_leN (tgt := 13) hx hb n 120 rfl rfl d_PA_load_8 (by decide) h1 (by decide) (fun h => ?_) (fun h => ?_)
  · have hv := hv.1 h
    refine ig_iconst (v := 0) hx hb d_PA_load_13 (by decide) ?_
    refine ig_istore_n (lv' := [(3, .int 0), (0, .ref p0), (1, .ref qS), (2, .int (nI n))]) hx hb d_PA_load_14 rfl (by decide) rfl ?_
    refine ig_iconst (v := 0) hx hb d_PA_load_15 (by decide) ?_
    refine ig_istore (lv' := [(4, .int 0), (3, .int 0), (0, .ref p0), (1, .ref qS), (2, .int (nI n))]) hx hb d_PA_load_16 (by decide) rfl ?_
    refine ig_lv (lv' := [(0, .ref p0), (1, .ref qS), (2, .int (nI n)), (3, .int 0), (4, .int 0)]) [2, 3, 4, 1, 0] rfl ?_
    rw [hK18] at hv
    exact hv
  · have hv := hv.2 h
    refine ig_iconst (v := 0) hx hb d_PA_load_11 (by decide) ?_
    exact hret 12 _ 0 (0, pB, pS) d_PA_load_12 ⟨false, rfl, hv⟩
