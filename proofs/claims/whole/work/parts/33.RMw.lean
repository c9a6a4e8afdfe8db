theorem kw_1_165 : Cond.fieldLink "IgnoreRulesModel" 50 "IgnoreRulesModel" "rest" "[Z" ∈ ig_T := ig_T_mem (List.mem_append_right _ (List.mem_append_left _ (List.mem_of_getElem? (i := 165) rfl))) rfl
theorem kw_2_77 : Cond.methodLink "IgnoreRulesModel" 157 y_RM_fitsBound ∈ ig_T := ig_T_mem (List.mem_append_right _ (List.mem_append_right _ (List.mem_of_getElem? (i := 77) rfl))) rfl
theorem kw_2_79 : Cond.instanceMethod y_RM_fitsBound ∈ ig_T := ig_T_mem (List.mem_append_right _ (List.mem_append_right _ (List.mem_of_getElem? (i := 79) rfl))) rfl
theorem kw_2_81 : Cond.methodLink "IgnoreRulesModel" 151 y_RM_isDeep ∈ ig_T := ig_T_mem (List.mem_append_right _ (List.mem_append_right _ (List.mem_of_getElem? (i := 81) rfl))) rfl
theorem kw_2_83 : Cond.instanceMethod y_RM_isDeep ∈ ig_T := ig_T_mem (List.mem_append_right _ (List.mem_append_right _ (List.mem_of_getElem? (i := 83) rfl))) rfl
theorem kw_2_85 : Cond.methodLink "IgnoreRulesModel" 154 y_RM_fitsName ∈ ig_T := ig_T_mem (List.mem_append_right _ (List.mem_append_right _ (List.mem_of_getElem? (i := 85) rfl))) rfl
theorem kw_2_87 : Cond.instanceMethod y_RM_fitsName ∈ ig_T := ig_T_mem (List.mem_append_right _ (List.mem_append_right _ (List.mem_of_getElem? (i := 87) rfl))) rfl
theorem d_RM_fitsBound_0 : decode b_RM_fitsBound 0 = .ok (.aload_n 0, 1) := by decide +kernel
theorem d_RM_fitsBound_1 : decode b_RM_fitsBound 1 = .ok (.getfield 93, 3) := by decide +kernel
theorem d_RM_fitsBound_4 : decode b_RM_fitsBound 4 = .ok (.istore_n 3, 1) := by decide +kernel
theorem d_RM_fitsBound_5 : decode b_RM_fitsBound 5 = .ok (.iload_n 3, 1) := by decide +kernel
theorem d_RM_fitsBound_6 : decode b_RM_fitsBound 6 = .ok (.ifCond .lt 210, 3) := by decide +kernel
theorem d_RM_fitsBound_9 : decode b_RM_fitsBound 9 = .ok (.iload_n 2, 1) := by decide +kernel
theorem d_RM_fitsBound_10 : decode b_RM_fitsBound 10 = .ok (.istore 4, 2) := by decide +kernel
theorem d_RM_fitsBound_12 : decode b_RM_fitsBound 12 = .ok (.iload 4, 2) := by decide +kernel
theorem d_RM_fitsBound_14 : decode b_RM_fitsBound 14 = .ok (.ifCond .lt 196, 3) := by decide +kernel
theorem d_RM_fitsBound_17 : decode b_RM_fitsBound 17 = .ok (.iload_n 3, 1) := by decide +kernel
theorem d_RM_fitsBound_18 : decode b_RM_fitsBound 18 = .ok (.aload_n 0, 1) := by decide +kernel
theorem d_RM_fitsBound_19 : decode b_RM_fitsBound 19 = .ok (.getfield 93, 3) := by decide +kernel
theorem d_RM_fitsBound_22 : decode b_RM_fitsBound 22 = .ok (.if_icmp .ne 13, 3) := by decide +kernel
theorem d_RM_fitsBound_25 : decode b_RM_fitsBound 25 = .ok (.iload 4, 2) := by decide +kernel
theorem d_RM_fitsBound_27 : decode b_RM_fitsBound 27 = .ok (.iload_n 2, 1) := by decide +kernel
theorem d_RM_fitsBound_28 : decode b_RM_fitsBound 28 = .ok (.if_icmp .ne 7, 3) := by decide +kernel
theorem d_RM_fitsBound_31 : decode b_RM_fitsBound 31 = .ok (.iconst 1, 1) := by decide +kernel
theorem d_RM_fitsBound_32 : decode b_RM_fitsBound 32 = .ok (.goto 4, 3) := by decide +kernel
theorem d_RM_fitsBound_35 : decode b_RM_fitsBound 35 = .ok (.iconst 0, 1) := by decide +kernel
theorem d_RM_fitsBound_36 : decode b_RM_fitsBound 36 = .ok (.istore 5, 2) := by decide +kernel
theorem d_RM_fitsBound_38 : decode b_RM_fitsBound 38 = .ok (.iload_n 3, 1) := by decide +kernel
theorem d_RM_fitsBound_39 : decode b_RM_fitsBound 39 = .ok (.aload_n 0, 1) := by decide +kernel
theorem d_RM_fitsBound_40 : decode b_RM_fitsBound 40 = .ok (.getfield 93, 3) := by decide +kernel
theorem d_RM_fitsBound_43 : decode b_RM_fitsBound 43 = .ok (.if_icmp .ge 86, 3) := by decide +kernel
theorem d_RM_fitsBound_46 : decode b_RM_fitsBound 46 = .ok (.aload_n 0, 1) := by decide +kernel
theorem d_RM_fitsBound_47 : decode b_RM_fitsBound 47 = .ok (.iload_n 1, 1) := by decide +kernel
theorem d_RM_fitsBound_48 : decode b_RM_fitsBound 48 = .ok (.iload_n 3, 1) := by decide +kernel
theorem d_RM_fitsBound_49 : decode b_RM_fitsBound 49 = .ok (.invokevirtual 151, 3) := by decide +kernel
theorem d_RM_fitsBound_52 : decode b_RM_fitsBound 52 = .ok (.ifCond .eq 77, 3) := by decide +kernel
theorem d_RM_fitsBound_55 : decode b_RM_fitsBound 55 = .ok (.iload_n 3, 1) := by decide +kernel
theorem d_RM_fitsBound_56 : decode b_RM_fitsBound 56 = .ok (.aload_n 0, 1) := by decide +kernel
theorem d_RM_fitsBound_57 : decode b_RM_fitsBound 57 = .ok (.getfield 93, 3) := by decide +kernel
theorem d_RM_fitsBound_60 : decode b_RM_fitsBound 60 = .ok (.iconst 1, 1) := by decide +kernel
theorem d_RM_fitsBound_61 : decode b_RM_fitsBound 61 = .ok (.isub, 1) := by decide +kernel
theorem d_RM_fitsBound_62 : decode b_RM_fitsBound 62 = .ok (.if_icmp .ne 17, 3) := by decide +kernel
theorem d_RM_fitsBound_65 : decode b_RM_fitsBound 65 = .ok (.iload 4, 2) := by decide +kernel
theorem d_RM_fitsBound_67 : decode b_RM_fitsBound 67 = .ok (.iload_n 2, 1) := by decide +kernel
theorem d_RM_fitsBound_68 : decode b_RM_fitsBound 68 = .ok (.if_icmp .ge 7, 3) := by decide +kernel
theorem d_RM_fitsBound_71 : decode b_RM_fitsBound 71 = .ok (.iconst 1, 1) := by decide +kernel
theorem d_RM_fitsBound_72 : decode b_RM_fitsBound 72 = .ok (.goto 52, 3) := by decide +kernel
theorem d_RM_fitsBound_75 : decode b_RM_fitsBound 75 = .ok (.iconst 0, 1) := by decide +kernel
theorem d_RM_fitsBound_76 : decode b_RM_fitsBound 76 = .ok (.goto 48, 3) := by decide +kernel
theorem d_RM_fitsBound_79 : decode b_RM_fitsBound 79 = .ok (.aload_n 0, 1) := by decide +kernel
theorem d_RM_fitsBound_80 : decode b_RM_fitsBound 80 = .ok (.getfield 50, 3) := by decide +kernel
theorem d_RM_fitsBound_83 : decode b_RM_fitsBound 83 = .ok (.bipush 21, 2) := by decide +kernel
theorem d_RM_fitsBound_85 : decode b_RM_fitsBound 85 = .ok (.iload_n 3, 1) := by decide +kernel
theorem d_RM_fitsBound_86 : decode b_RM_fitsBound 86 = .ok (.iconst 1, 1) := by decide +kernel
theorem d_RM_fitsBound_87 : decode b_RM_fitsBound 87 = .ok (.iadd, 1) := by decide +kernel
theorem d_RM_fitsBound_88 : decode b_RM_fitsBound 88 = .ok (.imul, 1) := by decide +kernel
theorem d_RM_fitsBound_89 : decode b_RM_fitsBound 89 = .ok (.iload 4, 2) := by decide +kernel
theorem d_RM_fitsBound_91 : decode b_RM_fitsBound 91 = .ok (.iadd, 1) := by decide +kernel
theorem d_RM_fitsBound_92 : decode b_RM_fitsBound 92 = .ok (.baload, 1) := by decide +kernel
theorem d_RM_fitsBound_93 : decode b_RM_fitsBound 93 = .ok (.ifCond .ne 26, 3) := by decide +kernel
theorem d_RM_fitsBound_96 : decode b_RM_fitsBound 96 = .ok (.iload 4, 2) := by decide +kernel
theorem d_RM_fitsBound_98 : decode b_RM_fitsBound 98 = .ok (.iload_n 2, 1) := by decide +kernel
theorem d_RM_fitsBound_99 : decode b_RM_fitsBound 99 = .ok (.if_icmp .ge 24, 3) := by decide +kernel
theorem d_RM_fitsBound_102 : decode b_RM_fitsBound 102 = .ok (.aload_n 0, 1) := by decide +kernel
theorem d_RM_fitsBound_103 : decode b_RM_fitsBound 103 = .ok (.getfield 50, 3) := by decide +kernel
theorem d_RM_fitsBound_106 : decode b_RM_fitsBound 106 = .ok (.bipush 21, 2) := by decide +kernel
theorem d_RM_fitsBound_108 : decode b_RM_fitsBound 108 = .ok (.iload_n 3, 1) := by decide +kernel
theorem d_RM_fitsBound_109 : decode b_RM_fitsBound 109 = .ok (.imul, 1) := by decide +kernel
theorem d_RM_fitsBound_110 : decode b_RM_fitsBound 110 = .ok (.iload 4, 2) := by decide +kernel
theorem d_RM_fitsBound_112 : decode b_RM_fitsBound 112 = .ok (.iadd, 1) := by decide +kernel
theorem d_RM_fitsBound_113 : decode b_RM_fitsBound 113 = .ok (.iconst 1, 1) := by decide +kernel
theorem d_RM_fitsBound_114 : decode b_RM_fitsBound 114 = .ok (.iadd, 1) := by decide +kernel
theorem d_RM_fitsBound_115 : decode b_RM_fitsBound 115 = .ok (.baload, 1) := by decide +kernel
theorem d_RM_fitsBound_116 : decode b_RM_fitsBound 116 = .ok (.ifCond .eq 7, 3) := by decide +kernel
theorem d_RM_fitsBound_119 : decode b_RM_fitsBound 119 = .ok (.iconst 1, 1) := by decide +kernel
theorem d_RM_fitsBound_120 : decode b_RM_fitsBound 120 = .ok (.goto 4, 3) := by decide +kernel
theorem d_RM_fitsBound_123 : decode b_RM_fitsBound 123 = .ok (.iconst 0, 1) := by decide +kernel
theorem d_RM_fitsBound_124 : decode b_RM_fitsBound 124 = .ok (.istore 5, 2) := by decide +kernel
theorem d_RM_fitsBound_126 : decode b_RM_fitsBound 126 = .ok (.goto 64, 3) := by decide +kernel
theorem d_RM_fitsBound_129 : decode b_RM_fitsBound 129 = .ok (.iload_n 3, 1) := by decide +kernel
theorem d_RM_fitsBound_130 : decode b_RM_fitsBound 130 = .ok (.aload_n 0, 1) := by decide +kernel
theorem d_RM_fitsBound_131 : decode b_RM_fitsBound 131 = .ok (.getfield 93, 3) := by decide +kernel
theorem d_RM_fitsBound_134 : decode b_RM_fitsBound 134 = .ok (.if_icmp .ge 56, 3) := by decide +kernel
theorem d_RM_fitsBound_137 : decode b_RM_fitsBound 137 = .ok (.iload 4, 2) := by decide +kernel
theorem d_RM_fitsBound_139 : decode b_RM_fitsBound 139 = .ok (.iload_n 2, 1) := by decide +kernel
theorem d_RM_fitsBound_140 : decode b_RM_fitsBound 140 = .ok (.if_icmp .ge 47, 3) := by decide +kernel
theorem d_RM_fitsBound_143 : decode b_RM_fitsBound 143 = .ok (.aload_n 0, 1) := by decide +kernel
theorem d_RM_fitsBound_144 : decode b_RM_fitsBound 144 = .ok (.getfield 50, 3) := by decide +kernel
theorem d_RM_fitsBound_147 : decode b_RM_fitsBound 147 = .ok (.bipush 21, 2) := by decide +kernel
theorem d_RM_fitsBound_149 : decode b_RM_fitsBound 149 = .ok (.iload_n 3, 1) := by decide +kernel
theorem d_RM_fitsBound_150 : decode b_RM_fitsBound 150 = .ok (.iconst 1, 1) := by decide +kernel
theorem d_RM_fitsBound_151 : decode b_RM_fitsBound 151 = .ok (.iadd, 1) := by decide +kernel
theorem d_RM_fitsBound_152 : decode b_RM_fitsBound 152 = .ok (.imul, 1) := by decide +kernel
theorem d_RM_fitsBound_153 : decode b_RM_fitsBound 153 = .ok (.iload 4, 2) := by decide +kernel
theorem d_RM_fitsBound_155 : decode b_RM_fitsBound 155 = .ok (.iadd, 1) := by decide +kernel
theorem d_RM_fitsBound_156 : decode b_RM_fitsBound 156 = .ok (.iconst 1, 1) := by decide +kernel
theorem d_RM_fitsBound_157 : decode b_RM_fitsBound 157 = .ok (.iadd, 1) := by decide +kernel
theorem d_RM_fitsBound_158 : decode b_RM_fitsBound 158 = .ok (.baload, 1) := by decide +kernel
theorem d_RM_fitsBound_159 : decode b_RM_fitsBound 159 = .ok (.ifCond .eq 28, 3) := by decide +kernel
theorem d_RM_fitsBound_162 : decode b_RM_fitsBound 162 = .ok (.aload_n 0, 1) := by decide +kernel
theorem d_RM_fitsBound_163 : decode b_RM_fitsBound 163 = .ok (.aload_n 0, 1) := by decide +kernel
theorem d_RM_fitsBound_164 : decode b_RM_fitsBound 164 = .ok (.getfield 44, 3) := by decide +kernel
theorem d_RM_fitsBound_167 : decode b_RM_fitsBound 167 = .ok (.iload_n 3, 1) := by decide +kernel
theorem d_RM_fitsBound_168 : decode b_RM_fitsBound 168 = .ok (.iaload, 1) := by decide +kernel
theorem d_RM_fitsBound_169 : decode b_RM_fitsBound 169 = .ok (.aload_n 0, 1) := by decide +kernel
theorem d_RM_fitsBound_170 : decode b_RM_fitsBound 170 = .ok (.getfield 47, 3) := by decide +kernel
theorem d_RM_fitsBound_173 : decode b_RM_fitsBound 173 = .ok (.iload_n 3, 1) := by decide +kernel
theorem d_RM_fitsBound_174 : decode b_RM_fitsBound 174 = .ok (.iaload, 1) := by decide +kernel
theorem d_RM_fitsBound_175 : decode b_RM_fitsBound 175 = .ok (.iload 4, 2) := by decide +kernel
theorem d_RM_fitsBound_177 : decode b_RM_fitsBound 177 = .ok (.invokevirtual 154, 3) := by decide +kernel
theorem d_RM_fitsBound_180 : decode b_RM_fitsBound 180 = .ok (.ifCond .eq 7, 3) := by decide +kernel
theorem d_RM_fitsBound_183 : decode b_RM_fitsBound 183 = .ok (.iconst 1, 1) := by decide +kernel
theorem d_RM_fitsBound_184 : decode b_RM_fitsBound 184 = .ok (.goto 4, 3) := by decide +kernel
theorem d_RM_fitsBound_187 : decode b_RM_fitsBound 187 = .ok (.iconst 0, 1) := by decide +kernel
theorem d_RM_fitsBound_188 : decode b_RM_fitsBound 188 = .ok (.istore 5, 2) := by decide +kernel
theorem d_RM_fitsBound_190 : decode b_RM_fitsBound 190 = .ok (.aload_n 0, 1) := by decide +kernel
theorem d_RM_fitsBound_191 : decode b_RM_fitsBound 191 = .ok (.getfield 50, 3) := by decide +kernel
theorem d_RM_fitsBound_194 : decode b_RM_fitsBound 194 = .ok (.bipush 21, 2) := by decide +kernel
theorem d_RM_fitsBound_196 : decode b_RM_fitsBound 196 = .ok (.iload_n 3, 1) := by decide +kernel
theorem d_RM_fitsBound_197 : decode b_RM_fitsBound 197 = .ok (.imul, 1) := by decide +kernel
theorem d_RM_fitsBound_198 : decode b_RM_fitsBound 198 = .ok (.iload 4, 2) := by decide +kernel
theorem d_RM_fitsBound_200 : decode b_RM_fitsBound 200 = .ok (.iadd, 1) := by decide +kernel
theorem d_RM_fitsBound_201 : decode b_RM_fitsBound 201 = .ok (.iload 5, 2) := by decide +kernel
theorem d_RM_fitsBound_203 : decode b_RM_fitsBound 203 = .ok (.bastore, 1) := by decide +kernel
theorem d_RM_fitsBound_204 : decode b_RM_fitsBound 204 = .ok (.iinc 4 (-1), 3) := by decide +kernel
theorem d_RM_fitsBound_207 : decode b_RM_fitsBound 207 = .ok (.goto (-195), 3) := by decide +kernel
theorem d_RM_fitsBound_210 : decode b_RM_fitsBound 210 = .ok (.iinc 3 (-1), 3) := by decide +kernel
theorem d_RM_fitsBound_213 : decode b_RM_fitsBound 213 = .ok (.goto (-208), 3) := by decide +kernel
theorem d_RM_fitsBound_216 : decode b_RM_fitsBound 216 = .ok (.aload_n 0, 1) := by decide +kernel
theorem d_RM_fitsBound_217 : decode b_RM_fitsBound 217 = .ok (.getfield 50, 3) := by decide +kernel
theorem d_RM_fitsBound_220 : decode b_RM_fitsBound 220 = .ok (.iconst 0, 1) := by decide +kernel
theorem d_RM_fitsBound_221 : decode b_RM_fitsBound 221 = .ok (.baload, 1) := by decide +kernel
theorem d_RM_fitsBound_222 : decode b_RM_fitsBound 222 = .ok (.ireturn, 1) := by decide +kernel
abbrev w_RM_fitsBound : List Cond := Cond.code y_RM_fitsBound b_RM_fitsBound 6 (some .boolean) :: ig_T
theorem g_RM_fitsBound : GoodIn ig_T w_RM_fitsBound := ig_T_good (ig_T_mem (List.mem_append_right _ (List.mem_append_right _ (List.mem_of_getElem? (i := 80) rfl))) rfl)
set_option maxHeartbeats 4000000 in
set_option maxRecDepth 100000 in
theorem c_RM_fitsBound (l : Launch) (dC : Nat → ClassId) (dI : Nat → Nat → Nat) (cC cI cZ cL : ClassId) (o0 ra rx rf rt rb rl rp ru_ rv rr rs rg rh rz ry : Nat) (th : Int32) (si : Int32) (ru : Int32) (na : Int32) (bz : Int32) (de : Int32) (dp : Int32) (io : Int32) (nx : Nat) (so : Nat) (pa : Nat) (tX : Nat → Int32) (xB : Nat → Nat) (tP : Nat → Int32) (yF : Nat → Nat) (yT : Nat → Nat) (zR : Nat → Bool) (zF : Nat → Bool) (wF : Nat → Nat) (wT : Nat → Nat) (zT : Nat → Bool) (i : Nat) (n : Nat) (s : Nat) (e : Nat) (sz : Nat) (hr : r_RM_fitsBound nx so pa tX xB tP yF yT zR zF wF wT zT i n s e) : Met l y_RM_fitsBound w_RM_fitsBound ({ frames := 5, cells := 0, slots := 0, locals := 117 }) (ig_Pc (dC, dI) ig_cl0 [(cC, .char), (cI, .int), (cZ, .boolean), (cL, .long)] [.ref o0, .int (nI i), .int (nI n)] [(o0, .inr (ciRM, [.int th, .ref ra, .int si, .ref rx, .ref rf, .ref rt, .ref rb, .ref rl, .int ru, .ref rp, .ref ru_, .ref rv, .int na, .int (nI nx), .int (nI so), .ref rr, .ref rs, .ref rg, .ref rh, .int (nI pa), .ref rz, .ref ry, .int bz, .int de, .int dp, .int io])), (rx, .inl (cI, 1000, .inl tX)), (rb, .inl (cI, 60, .inl (fun zj => nI (xB zj)))), (rp, .inl (cI, 120, .inl tP)), (ru_, .inl (cI, 20, .inl (fun zj => nI (yF zj)))), (rv, .inl (cI, 20, .inl (fun zj => nI (yT zj)))), (rr, .inl (cZ, 1001, .inl (fun zj => bI (zR zj)))), (rs, .inl (cZ, 1001, .inl (fun zj => bI (zF zj)))), (rg, .inl (cI, 1001, .inl (fun zj => nI (wF zj)))), (rh, .inl (cI, 1001, .inl (fun zj => nI (wT zj)))), (rz, .inl (cZ, 21021, .inl (fun zj => bI (zT zj))))] sz) (va_Qi (fun (r : Int32) (u : Nat × Nat × (Nat → Bool) × (Nat → Bool) × (Nat → Bool)) => ∃ zr : Bool, r = bI zr ∧ p_RM_fitsBound nx so pa tX xB tP yF yT zR zF wF wT zT i n s e zr u.1 u.2.1 u.2.2.1 u.2.2.2.1 u.2.2.2.2) (fun u t => va_P (dC, dI) ig_cl0 ((fun (u : Nat × Nat × (Nat → Bool) × (Nat → Bool) × (Nat → Bool)) => [(o0, .inr (ciRM, [.int th, .ref ra, .int si, .ref rx, .ref rf, .ref rt, .ref rb, .ref rl, .int ru, .ref rp, .ref ru_, .ref rv, .int na, .int (nI u.1), .int (nI u.2.1), .ref rr, .ref rs, .ref rg, .ref rh, .int (nI pa), .ref rz, .ref ry, .int bz, .int de, .int dp, .int io])), (rx, .inl (cI, 1000, .inl tX)), (rb, .inl (cI, 60, .inl (fun zj => nI (xB zj)))), (rp, .inl (cI, 120, .inl tP)), (ru_, .inl (cI, 20, .inl (fun zj => nI (yF zj)))), (rv, .inl (cI, 20, .inl (fun zj => nI (yT zj)))), (rr, .inl (cZ, 1001, .inl (fun zj => bI (u.2.2.1 zj)))), (rs, .inl (cZ, 1001, .inl (fun zj => bI (u.2.2.2.1 zj)))), (rg, .inl (cI, 1001, .inl (fun zj => nI (wF zj)))), (rh, .inl (cI, 1001, .inl (fun zj => nI (wT zj)))), (rz, .inl (cZ, 21021, .inl (fun zj => bI (u.2.2.2.2 zj))))]) u) t.heap ∧ va_D (va_A [(o0, .inr (ciRM, [.int th, .ref ra, .int si, .ref rx, .ref rf, .ref rt, .ref rb, .ref rl, .int ru, .ref rp, .ref ru_, .ref rv, .int na, .int (nI nx), .int (nI so), .ref rr, .ref rs, .ref rg, .ref rh, .int (nI pa), .ref rz, .ref ry, .int bz, .int de, .int dp, .int io])), (rx, .inl (cI, 1000, .inl tX)), (rb, .inl (cI, 60, .inl (fun zj => nI (xB zj)))), (rp, .inl (cI, 120, .inl tP)), (ru_, .inl (cI, 20, .inl (fun zj => nI (yF zj)))), (rv, .inl (cI, 20, .inl (fun zj => nI (yT zj)))), (rr, .inl (cZ, 1001, .inl (fun zj => bI (zR zj)))), (rs, .inl (cZ, 1001, .inl (fun zj => bI (zF zj)))), (rg, .inl (cI, 1001, .inl (fun zj => nI (wF zj)))), (rh, .inl (cI, 1001, .inl (fun zj => nI (wT zj)))), (rz, .inl (cZ, 21021, .inl (fun zj => bI (zT zj))))] sz) ((fun (u : Nat × Nat × (Nat → Bool) × (Nat → Bool) × (Nat → Bool)) => [(o0, .inr (ciRM, [.int th, .ref ra, .int si, .ref rx, .ref rf, .ref rt, .ref rb, .ref rl, .int ru, .ref rp, .ref ru_, .ref rv, .int na, .int (nI u.1), .int (nI u.2.1), .ref rr, .ref rs, .ref rg, .ref rh, .int (nI pa), .ref rz, .ref ry, .int bz, .int de, .int dp, .int io])), (rx, .inl (cI, 1000, .inl tX)), (rb, .inl (cI, 60, .inl (fun zj => nI (xB zj)))), (rp, .inl (cI, 120, .inl tP)), (ru_, .inl (cI, 20, .inl (fun zj => nI (yF zj)))), (rv, .inl (cI, 20, .inl (fun zj => nI (yT zj)))), (rr, .inl (cZ, 1001, .inl (fun zj => bI (u.2.2.1 zj)))), (rs, .inl (cZ, 1001, .inl (fun zj => bI (u.2.2.2.1 zj)))), (rg, .inl (cI, 1001, .inl (fun zj => nI (wF zj)))), (rh, .inl (cI, 1001, .inl (fun zj => nI (wT zj)))), (rz, .inl (cZ, 21021, .inl (fun zj => bI (u.2.2.2.2 zj))))]) u)) (va_A [(o0, .inr (ciRM, [.int th, .ref ra, .int si, .ref rx, .ref rf, .ref rt, .ref rb, .ref rl, .int ru, .ref rp, .ref ru_, .ref rv, .int na, .int (nI nx), .int (nI so), .ref rr, .ref rs, .ref rg, .ref rh, .int (nI pa), .ref rz, .ref ry, .int bz, .int de, .int dp, .int io])), (rx, .inl (cI, 1000, .inl tX)), (rb, .inl (cI, 60, .inl (fun zj => nI (xB zj)))), (rp, .inl (cI, 120, .inl tP)), (ru_, .inl (cI, 20, .inl (fun zj => nI (yF zj)))), (rv, .inl (cI, 20, .inl (fun zj => nI (yT zj)))), (rr, .inl (cZ, 1001, .inl (fun zj => bI (zR zj)))), (rs, .inl (cZ, 1001, .inl (fun zj => bI (zF zj)))), (rg, .inl (cI, 1001, .inl (fun zj => nI (wF zj)))), (rh, .inl (cI, 1001, .inl (fun zj => nI (wT zj)))), (rz, .inl (cZ, 21021, .inl (fun zj => bI (zT zj))))] sz)) 0 0 (va_A [(o0, .inr (ciRM, [.int th, .ref ra, .int si, .ref rx, .ref rf, .ref rt, .ref rb, .ref rl, .int ru, .ref rp, .ref ru_, .ref rv, .int na, .int (nI nx), .int (nI so), .ref rr, .ref rs, .ref rg, .ref rh, .int (nI pa), .ref rz, .ref ry, .int bz, .int de, .int dp, .int io])), (rx, .inl (cI, 1000, .inl tX)), (rb, .inl (cI, 60, .inl (fun zj => nI (xB zj)))), (rp, .inl (cI, 120, .inl tP)), (ru_, .inl (cI, 20, .inl (fun zj => nI (yF zj)))), (rv, .inl (cI, 20, .inl (fun zj => nI (yT zj)))), (rr, .inl (cZ, 1001, .inl (fun zj => bI (zR zj)))), (rs, .inl (cZ, 1001, .inl (fun zj => bI (zF zj)))), (rg, .inl (cI, 1001, .inl (fun zj => nI (wF zj)))), (rh, .inl (cI, 1001, .inl (fun zj => nI (wT zj)))), (rz, .inl (cZ, 21021, .inl (fun zj => bI (zT zj))))] sz) := by
  refine ig_metI (fun (r : Int32) (u : Nat × Nat × (Nat → Bool) × (Nat → Bool) × (Nat → Bool)) => ∃ zr : Bool, r = bI zr ∧ p_RM_fitsBound nx so pa tX xB tP yF yT zR zF wF wT zT i n s e zr u.1 u.2.1 u.2.2.1 u.2.2.2.1 u.2.2.2.2) (fun (u : Nat × Nat × (Nat → Bool) × (Nat → Bool) × (Nat → Bool)) => [(o0, .inr (ciRM, [.int th, .ref ra, .int si, .ref rx, .ref rf, .ref rt, .ref rb, .ref rl, .int ru, .ref rp, .ref ru_, .ref rv, .int na, .int (nI u.1), .int (nI u.2.1), .ref rr, .ref rs, .ref rg, .ref rh, .int (nI pa), .ref rz, .ref ry, .int bz, .int de, .int dp, .int io])), (rx, .inl (cI, 1000, .inl tX)), (rb, .inl (cI, 60, .inl (fun zj => nI (xB zj)))), (rp, .inl (cI, 120, .inl tP)), (ru_, .inl (cI, 20, .inl (fun zj => nI (yF zj)))), (rv, .inl (cI, 20, .inl (fun zj => nI (yT zj)))), (rr, .inl (cZ, 1001, .inl (fun zj => bI (u.2.2.1 zj)))), (rs, .inl (cZ, 1001, .inl (fun zj => bI (u.2.2.2.1 zj)))), (rg, .inl (cI, 1001, .inl (fun zj => nI (wF zj)))), (rh, .inl (cI, 1001, .inl (fun zj => nI (wT zj)))), (rz, .inl (cZ, 21021, .inl (fun zj => bI (u.2.2.2.2 zj))))]) (by decide) rfl (Nat.le_of_ble_eq_true rfl) rfl (by rintro r u ⟨b, rfl, -⟩; exact bI_ret b) ?_
  intro zp ze zs zm zargs zbelow zmeth zc zA zQ hx hb hml hown hts hK hN hA hret
  obtain ⟨K5, hK5⟩ : ∃ K : Nat → Nat → Nat → (Nat → Bool) → (Nat → Bool) → (Nat → Bool) → Prop, K = fun (p : Nat) (nxc : Nat) (soc : Nat) (zRc : Nat → Bool) (zFc : Nat → Bool) (zTc : Nat → Bool) => ig_W zp l ze ({ frames := 5, cells := 0, slots := 0, locals := 117 }) zs zm zargs zbelow zmeth zc (dC, dI) ig_cl0 zA zs.heap 6 0 0 zQ 5 [(0, .ref o0), (1, .int (nI i)), (2, .int (nI n)), (3, .int (nI p - 1))] [] [(o0, .inr (ciRM, [.int th, .ref ra, .int si, .ref rx, .ref rf, .ref rt, .ref rb, .ref rl, .int ru, .ref rp, .ref ru_, .ref rv, .int na, .int (nI nxc), .int (nI soc), .ref rr, .ref rs, .ref rg, .ref rh, .int (nI pa), .ref rz, .ref ry, .int bz, .int de, .int dp, .int io])), (rx, .inl (cI, 1000, .inl tX)), (rb, .inl (cI, 60, .inl (fun zj => nI (xB zj)))), (rp, .inl (cI, 120, .inl tP)), (ru_, .inl (cI, 20, .inl (fun zj => nI (yF zj)))), (rv, .inl (cI, 20, .inl (fun zj => nI (yT zj)))), (rr, .inl (cZ, 1001, .inl (fun zj => bI (zRc zj)))), (rs, .inl (cZ, 1001, .inl (fun zj => bI (zFc zj)))), (rg, .inl (cI, 1001, .inl (fun zj => nI (wF zj)))), (rh, .inl (cI, 1001, .inl (fun zj => nI (wT zj)))), (rz, .inl (cZ, 21021, .inl (fun zj => bI (zTc zj))))] := ⟨_, rfl⟩
  obtain ⟨K12, hK12⟩ : ∃ K : Nat → Nat → Nat → Nat → (Nat → Bool) → (Nat → Bool) → (Nat → Bool) → Prop, K = fun (p : Nat) (j : Nat) (nxc : Nat) (soc : Nat) (zRc : Nat → Bool) (zFc : Nat → Bool) (zTc : Nat → Bool) => ig_W zp l ze ({ frames := 5, cells := 0, slots := 0, locals := 117 }) zs zm zargs zbelow zmeth zc (dC, dI) ig_cl0 zA zs.heap 6 0 0 zQ 12 [(0, .ref o0), (1, .int (nI i)), (2, .int (nI n)), (3, .int (nI p)), (4, .int (nI j - 1))] [] [(o0, .inr (ciRM, [.int th, .ref ra, .int si, .ref rx, .ref rf, .ref rt, .ref rb, .ref rl, .int ru, .ref rp, .ref ru_, .ref rv, .int na, .int (nI nxc), .int (nI soc), .ref rr, .ref rs, .ref rg, .ref rh, .int (nI pa), .ref rz, .ref ry, .int bz, .int de, .int dp, .int io])), (rx, .inl (cI, 1000, .inl tX)), (rb, .inl (cI, 60, .inl (fun zj => nI (xB zj)))), (rp, .inl (cI, 120, .inl tP)), (ru_, .inl (cI, 20, .inl (fun zj => nI (yF zj)))), (rv, .inl (cI, 20, .inl (fun zj => nI (yT zj)))), (rr, .inl (cZ, 1001, .inl (fun zj => bI (zRc zj)))), (rs, .inl (cZ, 1001, .inl (fun zj => bI (zFc zj)))), (rg, .inl (cI, 1001, .inl (fun zj => nI (wF zj)))), (rh, .inl (cI, 1001, .inl (fun zj => nI (wT zj)))), (rz, .inl (cZ, 21021, .inl (fun zj => bI (zTc zj))))] := ⟨_, rfl⟩
  have j190 : ∀ (p : Nat) (j : Nat) (b : Bool) (nxc : Nat) (soc : Nat) (zRc : Nat → Bool) (zFc : Nat → Bool) (zTc : Nat → Bool), v_RM_fitsBound_190 nx so pa tX xB tP yF yT zR zF wF wT zT i n s e K5 K12 (p_RM_fitsBound nx so pa tX xB tP yF yT zR zF wF wT zT i n s e) p j b nxc soc zRc zFc zTc → ig_W zp l ze ({ frames := 5, cells := 0, slots := 0, locals := 117 }) zs zm zargs zbelow zmeth zc (dC, dI) ig_cl0 zA zs.heap 6 0 0 zQ 190 [(0, .ref o0), (1, .int (nI i)), (2, .int (nI n)), (3, .int (nI p)), (4, .int (nI j)), (5, .int (bI b))] [] [(o0, .inr (ciRM, [.int th, .ref ra, .int si, .ref rx, .ref rf, .ref rt, .ref rb, .ref rl, .int ru, .ref rp, .ref ru_, .ref rv, .int na, .int (nI nxc), .int (nI soc), .ref rr, .ref rs, .ref rg, .ref rh, .int (nI pa), .ref rz, .ref ry, .int bz, .int de, .int dp, .int io])), (rx, .inl (cI, 1000, .inl tX)), (rb, .inl (cI, 60, .inl (fun zj => nI (xB zj)))), (rp, .inl (cI, 120, .inl tP)), (ru_, .inl (cI, 20, .inl (fun zj => nI (yF zj)))), (rv, .inl (cI, 20, .inl (fun zj => nI (yT zj)))), (rr, .inl (cZ, 1001, .inl (fun zj => bI (zRc zj)))), (rs, .inl (cZ, 1001, .inl (fun zj => bI (zFc zj)))), (rg, .inl (cI, 1001, .inl (fun zj => nI (wF zj)))), (rh, .inl (cI, 1001, .inl (fun zj => nI (wT zj)))), (rz, .inl (cZ, 21021, .inl (fun zj => bI (zTc zj))))] := by
    intro p j b nxc soc zRc zFc zTc hv
    unfold v_RM_fitsBound_190 at hv
    refine ig_aload_n hx hb 0 d_RM_fitsBound_190 rfl rfl ?_
    refine ig_get hx hb hts in_RM hown hK 0 rfl rfl 20 (by decide) (hts _ kw_1_165) (fun _ h => h) rfl d_RM_fitsBound_191 ?_
    refine ig_bipush (v := 21) hx hb d_RM_fitsBound_194 (by decide) ?_
    refine ig_iload_n hx hb 3 d_RM_fitsBound_196 rfl rfl ?_
    refine ig_imulN hx hb 21 p rfl rfl d_RM_fitsBound_197 ?_
    refine ig_iload hx hb 4 d_RM_fitsBound_198 rfl ?_
    refine ig_iaddN hx hb (21 * p) j rfl rfl d_RM_fitsBound_200 ?_
    refine ig_iload hx hb 5 d_RM_fitsBound_201 rfl ?_
    obtain ⟨hc, hv⟩ := hv
    refine ig_zast (f' := fun zj => bI ((updB zTc ((21 * p) + j) b) zj)) (ws' := [(o0, .inr (ciRM, [.int th, .ref ra, .int si, .ref rx, .ref rf, .ref rt, .ref rb, .ref rl, .int ru, .ref rp, .ref ru_, .ref rv, .int na, .int (nI nxc), .int (nI soc), .ref rr, .ref rs, .ref rg, .ref rh, .int (nI pa), .ref rz, .ref ry, .int bz, .int de, .int dp, .int io])), (rx, .inl (cI, 1000, .inl tX)), (rb, .inl (cI, 60, .inl (fun zj => nI (xB zj)))), (rp, .inl (cI, 120, .inl tP)), (ru_, .inl (cI, 20, .inl (fun zj => nI (yF zj)))), (rv, .inl (cI, 20, .inl (fun zj => nI (yT zj)))), (rr, .inl (cZ, 1001, .inl (fun zj => bI (zRc zj)))), (rs, .inl (cZ, 1001, .inl (fun zj => bI (zFc zj)))), (rg, .inl (cI, 1001, .inl (fun zj => nI (wF zj)))), (rh, .inl (cI, 1001, .inl (fun zj => nI (wT zj)))), (rz, .inl (cZ, 21021, .inl (fun zj => bI ((updB zTc ((21 * p) + j) b) zj))))]) hx hb hK 10 2 rfl rfl ((21 * p) + j) rfl hc (by decide) (bI_nar b) (upd_B zTc ((21 * p) + j) b) d_RM_fitsBound_203 rfl ?_
    refine ig_iinc (v := (nI j - 1)) (lv' := [(4, .int (nI j - 1)), (0, .ref o0), (1, .int (nI i)), (2, .int (nI n)), (3, .int (nI p)), (5, .int (bI b))]) hx hb 4 d_RM_fitsBound_204 rfl (ig_toP j) (by decide) rfl ?_
    refine ig_goto (tgt := 12) hx hb d_RM_fitsBound_207 (by decide) ?_
    refine ig_lv (lv' := [(0, .ref o0), (1, .int (nI i)), (2, .int (nI n)), (3, .int (nI p)), (4, .int (nI j - 1))]) [1, 2, 3, 4, 0] rfl ?_
    rw [hK12] at hv
    exact hv
  have j124 : ∀ (p : Nat) (j : Nat) (s0 : Bool) (nxc : Nat) (soc : Nat) (zRc : Nat → Bool) (zFc : Nat → Bool) (zTc : Nat → Bool), v_RM_fitsBound_124 nx so pa tX xB tP yF yT zR zF wF wT zT i n s e K5 K12 (p_RM_fitsBound nx so pa tX xB tP yF yT zR zF wF wT zT i n s e) p j s0 nxc soc zRc zFc zTc → ig_W zp l ze ({ frames := 5, cells := 0, slots := 0, locals := 117 }) zs zm zargs zbelow zmeth zc (dC, dI) ig_cl0 zA zs.heap 6 0 0 zQ 124 [(0, .ref o0), (1, .int (nI i)), (2, .int (nI n)), (3, .int (nI p)), (4, .int (nI j))] [.int (bI s0)] [(o0, .inr (ciRM, [.int th, .ref ra, .int si, .ref rx, .ref rf, .ref rt, .ref rb, .ref rl, .int ru, .ref rp, .ref ru_, .ref rv, .int na, .int (nI nxc), .int (nI soc), .ref rr, .ref rs, .ref rg, .ref rh, .int (nI pa), .ref rz, .ref ry, .int bz, .int de, .int dp, .int io])), (rx, .inl (cI, 1000, .inl tX)), (rb, .inl (cI, 60, .inl (fun zj => nI (xB zj)))), (rp, .inl (cI, 120, .inl tP)), (ru_, .inl (cI, 20, .inl (fun zj => nI (yF zj)))), (rv, .inl (cI, 20, .inl (fun zj => nI (yT zj)))), (rr, .inl (cZ, 1001, .inl (fun zj => bI (zRc zj)))), (rs, .inl (cZ, 1001, .inl (fun zj => bI (zFc zj)))), (rg, .inl (cI, 1001, .inl (fun zj => nI (wF zj)))), (rh, .inl (cI, 1001, .inl (fun zj => nI (wT zj)))), (rz, .inl (cZ, 21021, .inl (fun zj => bI (zTc zj))))] := by
    intro p j s0 nxc soc zRc zFc zTc hv
    unfold v_RM_fitsBound_124 at hv
    refine ig_istore (lv' := [(5, .int (bI s0)), (0, .ref o0), (1, .int (nI i)), (2, .int (nI n)), (3, .int (nI p)), (4, .int (nI j))]) hx hb d_RM_fitsBound_124 (by decide) rfl ?_
    refine ig_goto (tgt := 190) hx hb d_RM_fitsBound_126 (by decide) ?_
    refine ig_lv (lv' := [(0, .ref o0), (1, .int (nI i)), (2, .int (nI n)), (3, .int (nI p)), (4, .int (nI j)), (5, .int (bI s0))]) [1, 2, 3, 4, 5, 0] rfl ?_
    exact j190 _ _ _ _ _ _ _ _ hv
  have j119 : ∀ (p : Nat) (j : Nat) (nxc : Nat) (soc : Nat) (zRc : Nat → Bool) (zFc : Nat → Bool) (zTc : Nat → Bool), v_RM_fitsBound_119 nx so pa tX xB tP yF yT zR zF wF wT zT i n s e K5 K12 (p_RM_fitsBound nx so pa tX xB tP yF yT zR zF wF wT zT i n s e) p j nxc soc zRc zFc zTc → ig_W zp l ze ({ frames := 5, cells := 0, slots := 0, locals := 117 }) zs zm zargs zbelow zmeth zc (dC, dI) ig_cl0 zA zs.heap 6 0 0 zQ 119 [(0, .ref o0), (1, .int (nI i)), (2, .int (nI n)), (3, .int (nI p)), (4, .int (nI j))] [] [(o0, .inr (ciRM, [.int th, .ref ra, .int si, .ref rx, .ref rf, .ref rt, .ref rb, .ref rl, .int ru, .ref rp, .ref ru_, .ref rv, .int na, .int (nI nxc), .int (nI soc), .ref rr, .ref rs, .ref rg, .ref rh, .int (nI pa), .ref rz, .ref ry, .int bz, .int de, .int dp, .int io])), (rx, .inl (cI, 1000, .inl tX)), (rb, .inl (cI, 60, .inl (fun zj => nI (xB zj)))), (rp, .inl (cI, 120, .inl tP)), (ru_, .inl (cI, 20, .inl (fun zj => nI (yF zj)))), (rv, .inl (cI, 20, .inl (fun zj => nI (yT zj)))), (rr, .inl (cZ, 1001, .inl (fun zj => bI (zRc zj)))), (rs, .inl (cZ, 1001, .inl (fun zj => bI (zFc zj)))), (rg, .inl (cI, 1001, .inl (fun zj => nI (wF zj)))), (rh, .inl (cI, 1001, .inl (fun zj => nI (wT zj)))), (rz, .inl (cZ, 21021, .inl (fun zj => bI (zTc zj))))] := by
    intro p j nxc soc zRc zFc zTc hv
    unfold v_RM_fitsBound_119 at hv
    refine ig_iconst (v := 1) hx hb d_RM_fitsBound_119 (by decide) ?_
    refine ig_goto (tgt := 124) hx hb d_RM_fitsBound_120 (by decide) ?_
    refine ig_lv (lv' := [(0, .ref o0), (1, .int (nI i)), (2, .int (nI n)), (3, .int (nI p)), (4, .int (nI j))]) [0, 1, 2, 3, 4] rfl ?_
    exact j124 _ _ _ _ _ _ _ _ hv
  have j123 : ∀ (p : Nat) (j : Nat) (nxc : Nat) (soc : Nat) (zRc : Nat → Bool) (zFc : Nat → Bool) (zTc : Nat → Bool), v_RM_fitsBound_123 nx so pa tX xB tP yF yT zR zF wF wT zT i n s e K5 K12 (p_RM_fitsBound nx so pa tX xB tP yF yT zR zF wF wT zT i n s e) p j nxc soc zRc zFc zTc → ig_W zp l ze ({ frames := 5, cells := 0, slots := 0, locals := 117 }) zs zm zargs zbelow zmeth zc (dC, dI) ig_cl0 zA zs.heap 6 0 0 zQ 123 [(0, .ref o0), (1, .int (nI i)), (2, .int (nI n)), (3, .int (nI p)), (4, .int (nI j))] [] [(o0, .inr (ciRM, [.int th, .ref ra, .int si, .ref rx, .ref rf, .ref rt, .ref rb, .ref rl, .int ru, .ref rp, .ref ru_, .ref rv, .int na, .int (nI nxc), .int (nI soc), .ref rr, .ref rs, .ref rg, .ref rh, .int (nI pa), .ref rz, .ref ry, .int bz, .int de, .int dp, .int io])), (rx, .inl (cI, 1000, .inl tX)), (rb, .inl (cI, 60, .inl (fun zj => nI (xB zj)))), (rp, .inl (cI, 120, .inl tP)), (ru_, .inl (cI, 20, .inl (fun zj => nI (yF zj)))), (rv, .inl (cI, 20, .inl (fun zj => nI (yT zj)))), (rr, .inl (cZ, 1001, .inl (fun zj => bI (zRc zj)))), (rs, .inl (cZ, 1001, .inl (fun zj => bI (zFc zj)))), (rg, .inl (cI, 1001, .inl (fun zj => nI (wF zj)))), (rh, .inl (cI, 1001, .inl (fun zj => nI (wT zj)))), (rz, .inl (cZ, 21021, .inl (fun zj => bI (zTc zj))))] := by
    intro p j nxc soc zRc zFc zTc hv
    unfold v_RM_fitsBound_123 at hv
    refine ig_iconst (v := 0) hx hb d_RM_fitsBound_123 (by decide) ?_
    refine ig_lv (lv' := [(0, .ref o0), (1, .int (nI i)), (2, .int (nI n)), (3, .int (nI p)), (4, .int (nI j))]) [0, 1, 2, 3, 4] rfl ?_
    exact j124 _ _ _ _ _ _ _ _ hv
  have j188 : ∀ (p : Nat) (j : Nat) (s0 : Bool) (nxc : Nat) (soc : Nat) (zRc : Nat → Bool) (zFc : Nat → Bool) (zTc : Nat → Bool), v_RM_fitsBound_188 nx so pa tX xB tP yF yT zR zF wF wT zT i n s e K5 K12 (p_RM_fitsBound nx so pa tX xB tP yF yT zR zF wF wT zT i n s e) p j s0 nxc soc zRc zFc zTc → ig_W zp l ze ({ frames := 5, cells := 0, slots := 0, locals := 117 }) zs zm zargs zbelow zmeth zc (dC, dI) ig_cl0 zA zs.heap 6 0 0 zQ 188 [(0, .ref o0), (1, .int (nI i)), (2, .int (nI n)), (3, .int (nI p)), (4, .int (nI j))] [.int (bI s0)] [(o0, .inr (ciRM, [.int th, .ref ra, .int si, .ref rx, .ref rf, .ref rt, .ref rb, .ref rl, .int ru, .ref rp, .ref ru_, .ref rv, .int na, .int (nI nxc), .int (nI soc), .ref rr, .ref rs, .ref rg, .ref rh, .int (nI pa), .ref rz, .ref ry, .int bz, .int de, .int dp, .int io])), (rx, .inl (cI, 1000, .inl tX)), (rb, .inl (cI, 60, .inl (fun zj => nI (xB zj)))), (rp, .inl (cI, 120, .inl tP)), (ru_, .inl (cI, 20, .inl (fun zj => nI (yF zj)))), (rv, .inl (cI, 20, .inl (fun zj => nI (yT zj)))), (rr, .inl (cZ, 1001, .inl (fun zj => bI (zRc zj)))), (rs, .inl (cZ, 1001, .inl (fun zj => bI (zFc zj)))), (rg, .inl (cI, 1001, .inl (fun zj => nI (wF zj)))), (rh, .inl (cI, 1001, .inl (fun zj => nI (wT zj)))), (rz, .inl (cZ, 21021, .inl (fun zj => bI (zTc zj))))] := by
    intro p j s0 nxc soc zRc zFc zTc hv
    unfold v_RM_fitsBound_188 at hv
    refine ig_istore (lv' := [(5, .int (bI s0)), (0, .ref o0), (1, .int (nI i)), (2, .int (nI n)), (3, .int (nI p)), (4, .int (nI j))]) hx hb d_RM_fitsBound_188 (by decide) rfl ?_
    refine ig_lv (lv' := [(0, .ref o0), (1, .int (nI i)), (2, .int (nI n)), (3, .int (nI p)), (4, .int (nI j)), (5, .int (bI s0))]) [1, 2, 3, 4, 5, 0] rfl ?_
    exact j190 _ _ _ _ _ _ _ _ hv
  have j187 : ∀ (p : Nat) (j : Nat) (nxc : Nat) (soc : Nat) (zRc : Nat → Bool) (zFc : Nat → Bool) (zTc : Nat → Bool), v_RM_fitsBound_187 nx so pa tX xB tP yF yT zR zF wF wT zT i n s e K5 K12 (p_RM_fitsBound nx so pa tX xB tP yF yT zR zF wF wT zT i n s e) p j nxc soc zRc zFc zTc → ig_W zp l ze ({ frames := 5, cells := 0, slots := 0, locals := 117 }) zs zm zargs zbelow zmeth zc (dC, dI) ig_cl0 zA zs.heap 6 0 0 zQ 187 [(0, .ref o0), (1, .int (nI i)), (2, .int (nI n)), (3, .int (nI p)), (4, .int (nI j))] [] [(o0, .inr (ciRM, [.int th, .ref ra, .int si, .ref rx, .ref rf, .ref rt, .ref rb, .ref rl, .int ru, .ref rp, .ref ru_, .ref rv, .int na, .int (nI nxc), .int (nI soc), .ref rr, .ref rs, .ref rg, .ref rh, .int (nI pa), .ref rz, .ref ry, .int bz, .int de, .int dp, .int io])), (rx, .inl (cI, 1000, .inl tX)), (rb, .inl (cI, 60, .inl (fun zj => nI (xB zj)))), (rp, .inl (cI, 120, .inl tP)), (ru_, .inl (cI, 20, .inl (fun zj => nI (yF zj)))), (rv, .inl (cI, 20, .inl (fun zj => nI (yT zj)))), (rr, .inl (cZ, 1001, .inl (fun zj => bI (zRc zj)))), (rs, .inl (cZ, 1001, .inl (fun zj => bI (zFc zj)))), (rg, .inl (cI, 1001, .inl (fun zj => nI (wF zj)))), (rh, .inl (cI, 1001, .inl (fun zj => nI (wT zj)))), (rz, .inl (cZ, 21021, .inl (fun zj => bI (zTc zj))))] := by
    intro p j nxc soc zRc zFc zTc hv
    unfold v_RM_fitsBound_187 at hv
    refine ig_iconst (v := 0) hx hb d_RM_fitsBound_187 (by decide) ?_
    refine ig_lv (lv' := [(0, .ref o0), (1, .int (nI i)), (2, .int (nI n)), (3, .int (nI p)), (4, .int (nI j))]) [0, 1, 2, 3, 4] rfl ?_
    exact j188 _ _ _ _ _ _ _ _ hv
  have j129 : ∀ (p : Nat) (j : Nat) (b : Bool) (nxc : Nat) (soc : Nat) (zRc : Nat → Bool) (zFc : Nat → Bool) (zTc : Nat → Bool), v_RM_fitsBound_129 nx so pa tX xB tP yF yT zR zF wF wT zT i n s e K5 K12 (p_RM_fitsBound nx so pa tX xB tP yF yT zR zF wF wT zT i n s e) p j b nxc soc zRc zFc zTc → ig_W zp l ze ({ frames := 5, cells := 0, slots := 0, locals := 117 }) zs zm zargs zbelow zmeth zc (dC, dI) ig_cl0 zA zs.heap 6 0 0 zQ 129 [(0, .ref o0), (1, .int (nI i)), (2, .int (nI n)), (3, .int (nI p)), (4, .int (nI j)), (5, .int (bI b))] [] [(o0, .inr (ciRM, [.int th, .ref ra, .int si, .ref rx, .ref rf, .ref rt, .ref rb, .ref rl, .int ru, .ref rp, .ref ru_, .ref rv, .int na, .int (nI nxc), .int (nI soc), .ref rr, .ref rs, .ref rg, .ref rh, .int (nI pa), .ref rz, .ref ry, .int bz, .int de, .int dp, .int io])), (rx, .inl (cI, 1000, .inl tX)), (rb, .inl (cI, 60, .inl (fun zj => nI (xB zj)))), (rp, .inl (cI, 120, .inl tP)), (ru_, .inl (cI, 20, .inl (fun zj => nI (yF zj)))), (rv, .inl (cI, 20, .inl (fun zj => nI (yT zj)))), (rr, .inl (cZ, 1001, .inl (fun zj => bI (zRc zj)))), (rs, .inl (cZ, 1001, .inl (fun zj => bI (zFc zj)))), (rg, .inl (cI, 1001, .inl (fun zj => nI (wF zj)))), (rh, .inl (cI, 1001, .inl (fun zj => nI (wT zj)))), (rz, .inl (cZ, 21021, .inl (fun zj => bI (zTc zj))))] := by
    intro p j b nxc soc zRc zFc zTc hv
    unfold v_RM_fitsBound_129 at hv
    refine ig_iload_n hx hb 3 d_RM_fitsBound_129 rfl rfl ?_
    refine ig_aload_n hx hb 0 d_RM_fitsBound_130 rfl rfl ?_
    refine ig_get hx hb hts in_RM hown hK 0 rfl rfl 19 (by decide) (hts _ kw_1_164) (fun _ h => h) rfl d_RM_fitsBound_131 ?_
    obtain ⟨h1, hv⟩ := hv
    obtain ⟨h2, hv⟩ := hv
    refine ig_icmp_geN (tgt := 190) hx hb p pa rfl rfl d_RM_fitsBound_134 (by decide) h1 h2 (fun h => ?_) (fun h => ?_)
    · have hv := hv.1 h
      refine ig_lv (lv' := [(0, .ref o0), (1, .int (nI i)), (2, .int (nI n)), (3, .int (nI p)), (4, .int (nI j)), (5, .int (bI b))]) [0, 1, 2, 3, 4, 5] rfl ?_
      exact j190 _ _ _ _ _ _ _ _ hv
    · have hv := hv.2 h
      refine ig_iload hx hb 4 d_RM_fitsBound_137 rfl ?_
      refine ig_iload_n hx hb 2 d_RM_fitsBound_139 rfl rfl ?_
      obtain ⟨h1, hv⟩ := hv
      obtain ⟨h2, hv⟩ := hv
      refine ig_icmp_geN (tgt := 187) hx hb j n rfl rfl d_RM_fitsBound_140 (by decide) h1 h2 (fun h => ?_) (fun h => ?_)
      · have hv := hv.1 h
        refine ig_lv (lv' := [(0, .ref o0), (1, .int (nI i)), (2, .int (nI n)), (3, .int (nI p)), (4, .int (nI j))]) [0, 1, 2, 3, 4] rfl ?_
        exact j187 _ _ _ _ _ _ _ hv
      · have hv := hv.2 h
        refine ig_aload_n hx hb 0 d_RM_fitsBound_143 rfl rfl ?_
        refine ig_get hx hb hts in_RM hown hK 0 rfl rfl 20 (by decide) (hts _ kw_1_165) (fun _ h => h) rfl d_RM_fitsBound_144 ?_
        refine ig_bipush (v := 21) hx hb d_RM_fitsBound_147 (by decide) ?_
        refine ig_iload_n hx hb 3 d_RM_fitsBound_149 rfl rfl ?_
        refine ig_iconst (v := 1) hx hb d_RM_fitsBound_150 (by decide) ?_
        refine ig_iaddN hx hb p 1 rfl rfl d_RM_fitsBound_151 ?_
        refine ig_imulN hx hb 21 (p + 1) rfl rfl d_RM_fitsBound_152 ?_
        refine ig_iload hx hb 4 d_RM_fitsBound_153 rfl ?_
        refine ig_iaddN hx hb (21 * (p + 1)) j rfl rfl d_RM_fitsBound_155 ?_
        refine ig_iconst (v := 1) hx hb d_RM_fitsBound_156 (by decide) ?_
        refine ig_iaddN hx hb ((21 * (p + 1)) + j) 1 rfl rfl d_RM_fitsBound_157 ?_
        obtain ⟨hc, hv⟩ := hv
        refine ig_zald (x := (bI (zTc (((21 * (p + 1)) + j) + 1)))) hx hb hK 10 2 rfl rfl (((21 * (p + 1)) + j) + 1) rfl hc (by decide) rfl d_RM_fitsBound_158 ?_
        refine ig_if_eqB (tgt := 187) hx hb (zTc (((21 * (p + 1)) + j) + 1)) rfl d_RM_fitsBound_159 (by decide) (fun h => ?_) (fun h => ?_)
        · have hv := hv.1 h
          refine ig_lv (lv' := [(0, .ref o0), (1, .int (nI i)), (2, .int (nI n)), (3, .int (nI p)), (4, .int (nI j))]) [0, 1, 2, 3, 4] rfl ?_
          exact j187 _ _ _ _ _ _ _ hv
        · have hv := hv.2 h
          refine ig_aload_n hx hb 0 d_RM_fitsBound_162 rfl rfl ?_
          refine ig_aload_n hx hb 0 d_RM_fitsBound_163 rfl rfl ?_
          refine ig_get hx hb hts in_RM hown hK 0 rfl rfl 17 (by decide) (hts _ kw_1_162) (fun _ h => h) rfl d_RM_fitsBound_164 ?_
          refine ig_iload_n hx hb 3 d_RM_fitsBound_167 rfl rfl ?_
          obtain ⟨hc, hv⟩ := hv
          refine ig_iald (x := (nI (wF p))) hx hb hK 8 1 rfl rfl p rfl hc (by decide) rfl d_RM_fitsBound_168 ?_
          refine ig_aload_n hx hb 0 d_RM_fitsBound_169 rfl rfl ?_
          refine ig_get hx hb hts in_RM hown hK 0 rfl rfl 18 (by decide) (hts _ kw_1_163) (fun _ h => h) rfl d_RM_fitsBound_170 ?_
          refine ig_iload_n hx hb 3 d_RM_fitsBound_173 rfl rfl ?_
          obtain ⟨hc, hv⟩ := hv
          refine ig_iald (x := (nI (wT p))) hx hb hK 9 1 rfl rfl p rfl hc (by decide) rfl d_RM_fitsBound_174 ?_
          refine ig_iload hx hb 4 d_RM_fitsBound_175 rfl ?_
          obtain ⟨hc, hv⟩ := hv
          refine ig_cVi (As := [.int (nI (wF p)), .int (nI (wT p)), .int (nI j)]) (rest := []) (wr := [(rb, .inl (cI, 60, .inl (fun zj => nI (xB zj)))), (rg, .inl (cI, 1001, .inl (fun zj => nI (wF zj)))), (rh, .inl (cI, 1001, .inl (fun zj => nI (wT zj)))), (rz, .inl (cZ, 21021, .inl (fun zj => bI (zTc zj))))]) (ws' := fun u => [(o0, .inr (ciRM, [.int th, .ref ra, .int si, .ref rx, .ref rf, .ref rt, .ref rb, .ref rl, .int ru, .ref rp, .ref ru_, .ref rv, .int na, .int (nI u.1), .int (nI u.2.1), .ref rr, .ref rs, .ref rg, .ref rh, .int (nI pa), .ref rz, .ref ry, .int bz, .int de, .int dp, .int io])), (rx, .inl (cI, 1000, .inl tX)), (rb, .inl (cI, 60, .inl (fun zj => nI (xB zj)))), (rp, .inl (cI, 120, .inl tP)), (ru_, .inl (cI, 20, .inl (fun zj => nI (yF zj)))), (rv, .inl (cI, 20, .inl (fun zj => nI (yT zj)))), (rr, .inl (cZ, 1001, .inl (fun zj => bI (u.2.2.1 zj)))), (rs, .inl (cZ, 1001, .inl (fun zj => bI (u.2.2.2 zj)))), (rg, .inl (cI, 1001, .inl (fun zj => nI (wF zj)))), (rh, .inl (cI, 1001, .inl (fun zj => nI (wT zj)))), (rz, .inl (cZ, 21021, .inl (fun zj => bI (zTc zj))))]) hx hb hml hown hts hK hN hA (fun sz => c_RM_fitsName l dC dI cC cI cZ cL o0 ra rx rf rt rb rl rp ru_ rv rr rs rg rh rz ry th si ru na (nI pa) bz de dp io nxc soc tX tP yF yT zRc zFc (wF p) (wT p) j sz hc) ⟨callB_of 3 hts g_RM_fitsName rfl rfl rfl (hts _ kw_0_5) (hts _ kw_2_85) (by decide +kernel) (by decide), (hts _ kw_2_87), (hts _ ks_RM_fitsName)⟩ rfl rfl (Nat.le_of_ble_eq_true rfl) d_RM_fitsBound_177 (by decide) 0 rfl rfl [0, 1, 3, 4, 5, 6, 7] [2, 8, 9, 10] [4, 5, 0, 6, 7, 8, 9, 10, 1, 2, 3] rfl rfl (by decide) (by decide) (by decide) (fun _ => rfl) (fun _ => rfl) (fun r u hr => ?_)
          obtain ⟨nx3, so4, zR5, zF6⟩ := u
          obtain ⟨rr, rfl, hr⟩ := hr
          unfold p_RM_fitsName at hr
          subst hr
          have hv := hv nx3 so4 zR5 zF6
          refine ig_if_eqB (tgt := 187) hx hb (sp_rn tX tP yF yT (wF p) (wT p) j) rfl d_RM_fitsBound_180 (by decide) (fun h => ?_) (fun h => ?_)
          · have hv := hv.1 h
            refine ig_lv (lv' := [(0, .ref o0), (1, .int (nI i)), (2, .int (nI n)), (3, .int (nI p)), (4, .int (nI j))]) [0, 1, 2, 3, 4] rfl ?_
            exact j187 _ _ _ _ _ _ _ hv
          · have hv := hv.2 h
            refine ig_iconst (v := 1) hx hb d_RM_fitsBound_183 (by decide) ?_
            refine ig_goto (tgt := 188) hx hb d_RM_fitsBound_184 (by decide) ?_
            refine ig_lv (lv' := [(0, .ref o0), (1, .int (nI i)), (2, .int (nI n)), (3, .int (nI p)), (4, .int (nI j))]) [0, 1, 2, 3, 4] rfl ?_
            exact j188 _ _ _ _ _ _ _ _ hv
  have j36 : ∀ (p : Nat) (j : Nat) (s0 : Bool) (nxc : Nat) (soc : Nat) (zRc : Nat → Bool) (zFc : Nat → Bool) (zTc : Nat → Bool), v_RM_fitsBound_36 nx so pa tX xB tP yF yT zR zF wF wT zT i n s e K5 K12 (p_RM_fitsBound nx so pa tX xB tP yF yT zR zF wF wT zT i n s e) p j s0 nxc soc zRc zFc zTc → ig_W zp l ze ({ frames := 5, cells := 0, slots := 0, locals := 117 }) zs zm zargs zbelow zmeth zc (dC, dI) ig_cl0 zA zs.heap 6 0 0 zQ 36 [(0, .ref o0), (1, .int (nI i)), (2, .int (nI n)), (3, .int (nI p)), (4, .int (nI j))] [.int (bI s0)] [(o0, .inr (ciRM, [.int th, .ref ra, .int si, .ref rx, .ref rf, .ref rt, .ref rb, .ref rl, .int ru, .ref rp, .ref ru_, .ref rv, .int na, .int (nI nxc), .int (nI soc), .ref rr, .ref rs, .ref rg, .ref rh, .int (nI pa), .ref rz, .ref ry, .int bz, .int de, .int dp, .int io])), (rx, .inl (cI, 1000, .inl tX)), (rb, .inl (cI, 60, .inl (fun zj => nI (xB zj)))), (rp, .inl (cI, 120, .inl tP)), (ru_, .inl (cI, 20, .inl (fun zj => nI (yF zj)))), (rv, .inl (cI, 20, .inl (fun zj => nI (yT zj)))), (rr, .inl (cZ, 1001, .inl (fun zj => bI (zRc zj)))), (rs, .inl (cZ, 1001, .inl (fun zj => bI (zFc zj)))), (rg, .inl (cI, 1001, .inl (fun zj => nI (wF zj)))), (rh, .inl (cI, 1001, .inl (fun zj => nI (wT zj)))), (rz, .inl (cZ, 21021, .inl (fun zj => bI (zTc zj))))] := by
    intro p j s0 nxc soc zRc zFc zTc hv
    unfold v_RM_fitsBound_36 at hv
    refine ig_istore (lv' := [(5, .int (bI s0)), (0, .ref o0), (1, .int (nI i)), (2, .int (nI n)), (3, .int (nI p)), (4, .int (nI j))]) hx hb d_RM_fitsBound_36 (by decide) rfl ?_
    refine ig_iload_n hx hb 4 d_RM_fitsBound_38 rfl rfl ?_
    refine ig_aload_n hx hb 1 d_RM_fitsBound_39 rfl rfl ?_
    refine ig_get hx hb hts in_RM hown hK 0 rfl rfl 19 (by decide) (hts _ kw_1_164) (fun _ h => h) rfl d_RM_fitsBound_40 ?_
    obtain ⟨h1, hv⟩ := hv
    obtain ⟨h2, hv⟩ := hv
    refine ig_icmp_geN (tgt := 129) hx hb p pa rfl rfl d_RM_fitsBound_43 (by decide) h1 h2 (fun h => ?_) (fun h => ?_)
    · have hv := hv.1 h
      refine ig_lv (lv' := [(0, .ref o0), (1, .int (nI i)), (2, .int (nI n)), (3, .int (nI p)), (4, .int (nI j)), (5, .int (bI s0))]) [1, 2, 3, 4, 5, 0] rfl ?_
      exact j129 _ _ _ _ _ _ _ _ hv
    · have hv := hv.2 h
      refine ig_aload_n hx hb 1 d_RM_fitsBound_46 rfl rfl ?_
      refine ig_iload_n hx hb 2 d_RM_fitsBound_47 rfl rfl ?_
      refine ig_iload_n hx hb 4 d_RM_fitsBound_48 rfl rfl ?_
      obtain ⟨hc, hv⟩ := hv
      refine ig_cVi (As := [.int (nI i), .int (nI p)]) (rest := []) (wr := [(rp, .inl (cI, 120, .inl tP)), (ru_, .inl (cI, 20, .inl (fun zj => nI (yF zj)))), (rv, .inl (cI, 20, .inl (fun zj => nI (yT zj)))), (rr, .inl (cZ, 1001, .inl (fun zj => bI (zRc zj)))), (rs, .inl (cZ, 1001, .inl (fun zj => bI (zFc zj)))), (rz, .inl (cZ, 21021, .inl (fun zj => bI (zTc zj))))]) (ws' := fun u => [(o0, .inr (ciRM, [.int th, .ref ra, .int si, .ref rx, .ref rf, .ref rt, .ref rb, .ref rl, .int ru, .ref rp, .ref ru_, .ref rv, .int na, .int (nI nxc), .int (nI soc), .ref rr, .ref rs, .ref rg, .ref rh, .int (nI pa), .ref rz, .ref ry, .int bz, .int de, .int dp, .int io])), (rx, .inl (cI, 1000, .inl tX)), (rb, .inl (cI, 60, .inl (fun zj => nI (xB zj)))), (rp, .inl (cI, 120, .inl tP)), (ru_, .inl (cI, 20, .inl (fun zj => nI (yF zj)))), (rv, .inl (cI, 20, .inl (fun zj => nI (yT zj)))), (rr, .inl (cZ, 1001, .inl (fun zj => bI (zRc zj)))), (rs, .inl (cZ, 1001, .inl (fun zj => bI (zFc zj)))), (rg, .inl (cI, 1001, .inl (fun zj => nI (wF zj)))), (rh, .inl (cI, 1001, .inl (fun zj => nI (wT zj)))), (rz, .inl (cZ, 21021, .inl (fun zj => bI (zTc zj))))]) hx hb hml hown hts hK hN hA (fun sz => c_RM_isDeep l dC dI cC cI cZ cL o0 ra rx rf rt rb rl rp ru_ rv rr rs rg rh rz ry th si ru na (nI nxc) (nI soc) (nI pa) bz de dp io tX xB wF wT i p sz hc) ⟨callB_of 2 hts g_RM_isDeep rfl rfl rfl (hts _ kw_0_5) (hts _ kw_2_81) (by decide +kernel) (by decide), (hts _ kw_2_83), (hts _ ks_RM_isDeep)⟩ rfl rfl (Nat.le_of_ble_eq_true rfl) d_RM_fitsBound_49 (by decide) 0 rfl rfl [0, 1, 2, 8, 9] [3, 4, 5, 6, 7, 10] [6, 7, 8, 0, 1, 2, 3, 4, 9, 10, 5] rfl rfl (by decide) (by decide) (by decide) (fun _ => rfl) (fun _ => rfl) (fun r u hr => ?_)
      obtain ⟨rr, rfl, hr⟩ := hr
      unfold p_RM_isDeep at hr
      subst hr
      refine ig_if_eqB (tgt := 129) hx hb (decide (xB i &&& 4 = 4) && sp_deep tX (wF p) (wT p)) rfl d_RM_fitsBound_52 (by decide) (fun h => ?_) (fun h => ?_)
      · have hv := hv.1 h
        refine ig_lv (lv' := [(0, .ref o0), (1, .int (nI i)), (2, .int (nI n)), (3, .int (nI p)), (4, .int (nI j)), (5, .int (bI s0))]) [1, 2, 3, 4, 5, 0] rfl ?_
        exact j129 _ _ _ _ _ _ _ _ hv
      · have hv := hv.2 h
        refine ig_iload_n hx hb 4 d_RM_fitsBound_55 rfl rfl ?_
        refine ig_aload_n hx hb 1 d_RM_fitsBound_56 rfl rfl ?_
        refine ig_get hx hb hts in_RM hown hK 0 rfl rfl 19 (by decide) (hts _ kw_1_164) (fun _ h => h) rfl d_RM_fitsBound_57 ?_
        refine ig_iconst (v := 1) hx hb d_RM_fitsBound_60 (by decide) ?_
        obtain ⟨hc, hv⟩ := hv
        refine ig_isubN hx hb pa 1 rfl rfl hc d_RM_fitsBound_61 ?_
        obtain ⟨h1, hv⟩ := hv
        obtain ⟨h2, hv⟩ := hv
        refine ig_icmp_neN (tgt := 79) hx hb p (pa - 1) rfl rfl d_RM_fitsBound_62 (by decide) h1 h2 (fun h => ?_) (fun h => ?_)
        · have hv := hv.1 h
          refine ig_aload_n hx hb 1 d_RM_fitsBound_79 rfl rfl ?_
          refine ig_get hx hb hts in_RM hown hK 0 rfl rfl 20 (by decide) (hts _ kw_1_165) (fun _ h => h) rfl d_RM_fitsBound_80 ?_
          refine ig_bipush (v := 21) hx hb d_RM_fitsBound_83 (by decide) ?_
          refine ig_iload_n hx hb 4 d_RM_fitsBound_85 rfl rfl ?_
          refine ig_iconst (v := 1) hx hb d_RM_fitsBound_86 (by decide) ?_
          refine ig_iaddN hx hb p 1 rfl rfl d_RM_fitsBound_87 ?_
          refine ig_imulN hx hb 21 (p + 1) rfl rfl d_RM_fitsBound_88 ?_
          refine ig_iload hx hb 5 d_RM_fitsBound_89 rfl ?_
          refine ig_iaddN hx hb (21 * (p + 1)) j rfl rfl d_RM_fitsBound_91 ?_
          obtain ⟨hc, hv⟩ := hv
          refine ig_zald (x := (bI (zTc ((21 * (p + 1)) + j)))) hx hb hK 10 2 rfl rfl ((21 * (p + 1)) + j) rfl hc (by decide) rfl d_RM_fitsBound_92 ?_
          refine ig_if_neB (tgt := 119) hx hb (zTc ((21 * (p + 1)) + j)) rfl d_RM_fitsBound_93 (by decide) (fun h => ?_) (fun h => ?_)
          · have hv := hv.1 h
            refine ig_lv (lv' := [(0, .ref o0), (1, .int (nI i)), (2, .int (nI n)), (3, .int (nI p)), (4, .int (nI j))]) [1, 2, 3, 4, 5] rfl ?_
            exact j119 _ _ _ _ _ _ _ hv
          · have hv := hv.2 h
            refine ig_iload hx hb 5 d_RM_fitsBound_96 rfl ?_
            refine ig_iload_n hx hb 3 d_RM_fitsBound_98 rfl rfl ?_
            obtain ⟨h1, hv⟩ := hv
            obtain ⟨h2, hv⟩ := hv
            refine ig_icmp_geN (tgt := 123) hx hb j n rfl rfl d_RM_fitsBound_99 (by decide) h1 h2 (fun h => ?_) (fun h => ?_)
            · have hv := hv.1 h
              refine ig_lv (lv' := [(0, .ref o0), (1, .int (nI i)), (2, .int (nI n)), (3, .int (nI p)), (4, .int (nI j))]) [1, 2, 3, 4, 5] rfl ?_
              exact j123 _ _ _ _ _ _ _ hv
            · have hv := hv.2 h
              refine ig_aload_n hx hb 1 d_RM_fitsBound_102 rfl rfl ?_
              refine ig_get hx hb hts in_RM hown hK 0 rfl rfl 20 (by decide) (hts _ kw_1_165) (fun _ h => h) rfl d_RM_fitsBound_103 ?_
              refine ig_bipush (v := 21) hx hb d_RM_fitsBound_106 (by decide) ?_
              refine ig_iload_n hx hb 4 d_RM_fitsBound_108 rfl rfl ?_
              refine ig_imulN hx hb 21 p rfl rfl d_RM_fitsBound_109 ?_
              refine ig_iload hx hb 5 d_RM_fitsBound_110 rfl ?_
              refine ig_iaddN hx hb (21 * p) j rfl rfl d_RM_fitsBound_112 ?_
              refine ig_iconst (v := 1) hx hb d_RM_fitsBound_113 (by decide) ?_
              refine ig_iaddN hx hb ((21 * p) + j) 1 rfl rfl d_RM_fitsBound_114 ?_
              obtain ⟨hc, hv⟩ := hv
              refine ig_zald (x := (bI (zTc (((21 * p) + j) + 1)))) hx hb hK 10 2 rfl rfl (((21 * p) + j) + 1) rfl hc (by decide) rfl d_RM_fitsBound_115 ?_
              refine ig_if_eqB (tgt := 123) hx hb (zTc (((21 * p) + j) + 1)) rfl d_RM_fitsBound_116 (by decide) (fun h => ?_) (fun h => ?_)
              · have hv := hv.1 h
                refine ig_lv (lv' := [(0, .ref o0), (1, .int (nI i)), (2, .int (nI n)), (3, .int (nI p)), (4, .int (nI j))]) [1, 2, 3, 4, 5] rfl ?_
                exact j123 _ _ _ _ _ _ _ hv
              · have hv := hv.2 h
                refine ig_lv (lv' := [(0, .ref o0), (1, .int (nI i)), (2, .int (nI n)), (3, .int (nI p)), (4, .int (nI j))]) [1, 2, 3, 4, 5] rfl ?_
                exact j119 _ _ _ _ _ _ _ hv
        · have hv := hv.2 h
          refine ig_iload hx hb 5 d_RM_fitsBound_65 rfl ?_
          refine ig_iload_n hx hb 3 d_RM_fitsBound_67 rfl rfl ?_
          obtain ⟨h1, hv⟩ := hv
          obtain ⟨h2, hv⟩ := hv
          refine ig_icmp_geN (tgt := 75) hx hb j n rfl rfl d_RM_fitsBound_68 (by decide) h1 h2 (fun h => ?_) (fun h => ?_)
          · have hv := hv.1 h
            refine ig_iconst (v := 0) hx hb d_RM_fitsBound_75 (by decide) ?_
            refine ig_goto (tgt := 124) hx hb d_RM_fitsBound_76 (by decide) ?_
            refine ig_lv (lv' := [(0, .ref o0), (1, .int (nI i)), (2, .int (nI n)), (3, .int (nI p)), (4, .int (nI j))]) [1, 2, 3, 4, 5] rfl ?_
            exact j124 _ _ _ _ _ _ _ _ hv
          · have hv := hv.2 h
            refine ig_iconst (v := 1) hx hb d_RM_fitsBound_71 (by decide) ?_
            refine ig_goto (tgt := 124) hx hb d_RM_fitsBound_72 (by decide) ?_
            refine ig_lv (lv' := [(0, .ref o0), (1, .int (nI i)), (2, .int (nI n)), (3, .int (nI p)), (4, .int (nI j))]) [1, 2, 3, 4, 5] rfl ?_
            exact j124 _ _ _ _ _ _ _ _ hv
  have j35 : ∀ (p : Nat) (j : Nat) (nxc : Nat) (soc : Nat) (zRc : Nat → Bool) (zFc : Nat → Bool) (zTc : Nat → Bool), v_RM_fitsBound_35 nx so pa tX xB tP yF yT zR zF wF wT zT i n s e K5 K12 (p_RM_fitsBound nx so pa tX xB tP yF yT zR zF wF wT zT i n s e) p j nxc soc zRc zFc zTc → ig_W zp l ze ({ frames := 5, cells := 0, slots := 0, locals := 117 }) zs zm zargs zbelow zmeth zc (dC, dI) ig_cl0 zA zs.heap 6 0 0 zQ 35 [(0, .ref o0), (1, .int (nI i)), (2, .int (nI n)), (3, .int (nI p)), (4, .int (nI j))] [] [(o0, .inr (ciRM, [.int th, .ref ra, .int si, .ref rx, .ref rf, .ref rt, .ref rb, .ref rl, .int ru, .ref rp, .ref ru_, .ref rv, .int na, .int (nI nxc), .int (nI soc), .ref rr, .ref rs, .ref rg, .ref rh, .int (nI pa), .ref rz, .ref ry, .int bz, .int de, .int dp, .int io])), (rx, .inl (cI, 1000, .inl tX)), (rb, .inl (cI, 60, .inl (fun zj => nI (xB zj)))), (rp, .inl (cI, 120, .inl tP)), (ru_, .inl (cI, 20, .inl (fun zj => nI (yF zj)))), (rv, .inl (cI, 20, .inl (fun zj => nI (yT zj)))), (rr, .inl (cZ, 1001, .inl (fun zj => bI (zRc zj)))), (rs, .inl (cZ, 1001, .inl (fun zj => bI (zFc zj)))), (rg, .inl (cI, 1001, .inl (fun zj => nI (wF zj)))), (rh, .inl (cI, 1001, .inl (fun zj => nI (wT zj)))), (rz, .inl (cZ, 21021, .inl (fun zj => bI (zTc zj))))] := by
    intro p j nxc soc zRc zFc zTc hv
    unfold v_RM_fitsBound_35 at hv
    refine ig_iconst (v := 0) hx hb d_RM_fitsBound_35 (by decide) ?_
    refine ig_lv (lv' := [(0, .ref o0), (1, .int (nI i)), (2, .int (nI n)), (3, .int (nI p)), (4, .int (nI j))]) [0, 1, 2, 3, 4] rfl ?_
    exact j36 _ _ _ _ _ _ _ _ hv
  have k5 : ∀ (p : Nat) (nxc : Nat) (soc : Nat) (zRc : Nat → Bool) (zFc : Nat → Bool) (zTc : Nat → Bool), v_RM_fitsBound_5 nx so pa tX xB tP yF yT zR zF wF wT zT i n s e K5 K12 (p_RM_fitsBound nx so pa tX xB tP yF yT zR zF wF wT zT i n s e) p nxc soc zRc zFc zTc → K5 p nxc soc zRc zFc zTc := by
    intro p nxc soc zRc zFc zTc hv
    unfold v_RM_fitsBound_5 at hv
    rw [hK5]
    show ig_W zp l ze ({ frames := 5, cells := 0, slots := 0, locals := 117 }) zs zm zargs zbelow zmeth zc (dC, dI) ig_cl0 zA zs.heap 6 0 0 zQ 5 [(0, .ref o0), (1, .int (nI i)), (2, .int (nI n)), (3, .int (nI p - 1))] [] [(o0, .inr (ciRM, [.int th, .ref ra, .int si, .ref rx, .ref rf, .ref rt, .ref rb, .ref rl, .int ru, .ref rp, .ref ru_, .ref rv, .int na, .int (nI nxc), .int (nI soc), .ref rr, .ref rs, .ref rg, .ref rh, .int (nI pa), .ref rz, .ref ry, .int bz, .int de, .int dp, .int io])), (rx, .inl (cI, 1000, .inl tX)), (rb, .inl (cI, 60, .inl (fun zj => nI (xB zj)))), (rp, .inl (cI, 120, .inl tP)), (ru_, .inl (cI, 20, .inl (fun zj => nI (yF zj)))), (rv, .inl (cI, 20, .inl (fun zj => nI (yT zj)))), (rr, .inl (cZ, 1001, .inl (fun zj => bI (zRc zj)))), (rs, .inl (cZ, 1001, .inl (fun zj => bI (zFc zj)))), (rg, .inl (cI, 1001, .inl (fun zj => nI (wF zj)))), (rh, .inl (cI, 1001, .inl (fun zj => nI (wT zj)))), (rz, .inl (cZ, 21021, .inl (fun zj => bI (zTc zj))))]
    refine ig_iload_n hx hb 3 d_RM_fitsBound_5 rfl rfl ?_
    obtain ⟨h1, hv⟩ := hv
    refine ig_if_ltP (tgt := 216) hx hb p rfl d_RM_fitsBound_6 (by decide) h1 (fun h => ?_) (fun j1 h => ?_)
    · have hv := hv.1 h
      refine ig_aload_n hx hb 0 d_RM_fitsBound_216 rfl rfl ?_
      refine ig_get hx hb hts in_RM hown hK 0 rfl rfl 20 (by decide) (hts _ kw_1_165) (fun _ h => h) rfl d_RM_fitsBound_217 ?_
      refine ig_iconst (v := 0) hx hb d_RM_fitsBound_220 (by decide) ?_
      obtain ⟨hc, hv⟩ := hv
      refine ig_zald (x := (bI (zTc 0))) hx hb hK 10 2 rfl rfl 0 rfl hc (by decide) rfl d_RM_fitsBound_221 ?_
      exact hret 222 _ (bI (zTc 0)) (nxc, soc, zRc, zFc, zTc) d_RM_fitsBound_222 ⟨zTc 0, rfl, hv⟩
    · subst h
      have hv := hv.2 j1 rfl
      rw [nI_pred]
      refine ig_iload_n hx hb 2 d_RM_fitsBound_9 rfl rfl ?_
      refine ig_istore (lv' := [(4, .int (nI n)), (0, .ref o0), (1, .int (nI i)), (2, .int (nI n)), (3, .int (nI j1))]) hx hb d_RM_fitsBound_10 (by decide) rfl ?_
      refine ig_lv (lv' := [(0, .ref o0), (1, .int (nI i)), (2, .int (nI n)), (3, .int (nI j1)), (4, .int (nI n))]) [1, 2, 3, 4, 0] rfl ?_
      rw [hK12] at hv
      rw [nI_pred] at hv
      exact hv
  have k12 : ∀ (p : Nat) (j : Nat) (nxc : Nat) (soc : Nat) (zRc : Nat → Bool) (zFc : Nat → Bool) (zTc : Nat → Bool), v_RM_fitsBound_12 nx so pa tX xB tP yF yT zR zF wF wT zT i n s e K5 K12 (p_RM_fitsBound nx so pa tX xB tP yF yT zR zF wF wT zT i n s e) p j nxc soc zRc zFc zTc → K12 p j nxc soc zRc zFc zTc := by
    intro p j nxc soc zRc zFc zTc hv
    unfold v_RM_fitsBound_12 at hv
    rw [hK12]
    show ig_W zp l ze ({ frames := 5, cells := 0, slots := 0, locals := 117 }) zs zm zargs zbelow zmeth zc (dC, dI) ig_cl0 zA zs.heap 6 0 0 zQ 12 [(0, .ref o0), (1, .int (nI i)), (2, .int (nI n)), (3, .int (nI p)), (4, .int (nI j - 1))] [] [(o0, .inr (ciRM, [.int th, .ref ra, .int si, .ref rx, .ref rf, .ref rt, .ref rb, .ref rl, .int ru, .ref rp, .ref ru_, .ref rv, .int na, .int (nI nxc), .int (nI soc), .ref rr, .ref rs, .ref rg, .ref rh, .int (nI pa), .ref rz, .ref ry, .int bz, .int de, .int dp, .int io])), (rx, .inl (cI, 1000, .inl tX)), (rb, .inl (cI, 60, .inl (fun zj => nI (xB zj)))), (rp, .inl (cI, 120, .inl tP)), (ru_, .inl (cI, 20, .inl (fun zj => nI (yF zj)))), (rv, .inl (cI, 20, .inl (fun zj => nI (yT zj)))), (rr, .inl (cZ, 1001, .inl (fun zj => bI (zRc zj)))), (rs, .inl (cZ, 1001, .inl (fun zj => bI (zFc zj)))), (rg, .inl (cI, 1001, .inl (fun zj => nI (wF zj)))), (rh, .inl (cI, 1001, .inl (fun zj => nI (wT zj)))), (rz, .inl (cZ, 21021, .inl (fun zj => bI (zTc zj))))]
    refine ig_iload hx hb 4 d_RM_fitsBound_12 rfl ?_
    obtain ⟨h1, hv⟩ := hv
    refine ig_if_ltP (tgt := 210) hx hb j rfl d_RM_fitsBound_14 (by decide) h1 (fun h => ?_) (fun j2 h => ?_)
    · have hv := hv.1 h
      refine ig_iinc (v := (nI p - 1)) (lv' := [(3, .int (nI p - 1)), (0, .ref o0), (1, .int (nI i)), (2, .int (nI n)), (4, .int (nI j - 1))]) hx hb 3 d_RM_fitsBound_210 rfl (ig_toP p) (by decide) rfl ?_
      refine ig_goto (tgt := 5) hx hb d_RM_fitsBound_213 (by decide) ?_
      refine ig_lv (lv' := [(0, .ref o0), (1, .int (nI i)), (2, .int (nI n)), (3, .int (nI p - 1))]) [1, 2, 3, 0] rfl ?_
      rw [hK5] at hv
      exact hv
    · subst h
      have hv := hv.2 j2 rfl
      rw [nI_pred]
      refine ig_iload_n hx hb 3 d_RM_fitsBound_17 rfl rfl ?_
      refine ig_aload_n hx hb 0 d_RM_fitsBound_18 rfl rfl ?_
      refine ig_get hx hb hts in_RM hown hK 0 rfl rfl 19 (by decide) (hts _ kw_1_164) (fun _ h => h) rfl d_RM_fitsBound_19 ?_
      obtain ⟨h1, hv⟩ := hv
      obtain ⟨h2, hv⟩ := hv
      refine ig_icmp_neN (tgt := 35) hx hb p pa rfl rfl d_RM_fitsBound_22 (by decide) h1 h2 (fun h => ?_) (fun h => ?_)
      · have hv := hv.1 h
        refine ig_lv (lv' := [(0, .ref o0), (1, .int (nI i)), (2, .int (nI n)), (3, .int (nI p)), (4, .int (nI j2))]) [0, 1, 2, 3, 4] rfl ?_
        exact j35 _ _ _ _ _ _ _ hv
      · have hv := hv.2 h
        refine ig_iload hx hb 4 d_RM_fitsBound_25 rfl ?_
        refine ig_iload_n hx hb 2 d_RM_fitsBound_27 rfl rfl ?_
        obtain ⟨h1, hv⟩ := hv
        obtain ⟨h2, hv⟩ := hv
        refine ig_icmp_neN (tgt := 35) hx hb j2 n rfl rfl d_RM_fitsBound_28 (by decide) h1 h2 (fun h => ?_) (fun h => ?_)
        · have hv := hv.1 h
          refine ig_lv (lv' := [(0, .ref o0), (1, .int (nI i)), (2, .int (nI n)), (3, .int (nI p)), (4, .int (nI j2))]) [0, 1, 2, 3, 4] rfl ?_
          exact j35 _ _ _ _ _ _ _ hv
        · have hv := hv.2 h
          refine ig_iconst (v := 1) hx hb d_RM_fitsBound_31 (by decide) ?_
          refine ig_goto (tgt := 36) hx hb d_RM_fitsBound_32 (by decide) ?_
          refine ig_lv (lv' := [(0, .ref o0), (1, .int (nI i)), (2, .int (nI n)), (3, .int (nI p)), (4, .int (nI j2))]) [0, 1, 2, 3, 4] rfl ?_
          exact j36 _ _ _ _ _ _ _ _ hv
  have hv := t_RM_fitsBound nx so pa tX xB tP yF yT zR zF wF wT zT i n s e hr K5 K12 k5 k12
  unfold v_RM_fitsBound at hv
  refine ig_aload_n hx hb 0 d_RM_fitsBound_0 rfl rfl ?_
  refine ig_get hx hb hts in_RM hown hK 0 rfl rfl 19 (by decide) (hts _ kw_1_164) (fun _ h => h) rfl d_RM_fitsBound_1 ?_
  refine ig_istore_n (lv' := [(3, .int (nI pa)), (0, .ref o0), (1, .int (nI i)), (2, .int (nI n))]) hx hb d_RM_fitsBound_4 rfl (by decide) rfl ?_
  refine ig_lv (lv' := [(0, .ref o0), (1, .int (nI i)), (2, .int (nI n)), (3, .int (nI pa))]) [1, 2, 3, 0] rfl ?_
  rw [hK5] at hv
  rw [nI_pred] at hv
  exact hv
theorem d_RM_fitsFirst_0 : decode b_RM_fitsFirst 0 = .ok (.aload_n 0, 1) := by decide +kernel
theorem d_RM_fitsFirst_1 : decode b_RM_fitsFirst 1 = .ok (.getfield 22, 3) := by decide +kernel
theorem d_RM_fitsFirst_4 : decode b_RM_fitsFirst 4 = .ok (.iload_n 1, 1) := by decide +kernel
theorem d_RM_fitsFirst_5 : decode b_RM_fitsFirst 5 = .ok (.iaload, 1) := by decide +kernel
theorem d_RM_fitsFirst_6 : decode b_RM_fitsFirst 6 = .ok (.bipush 8, 2) := by decide +kernel
theorem d_RM_fitsFirst_8 : decode b_RM_fitsFirst 8 = .ok (.iand, 1) := by decide +kernel
theorem d_RM_fitsFirst_9 : decode b_RM_fitsFirst 9 = .ok (.bipush 8, 2) := by decide +kernel
theorem d_RM_fitsFirst_11 : decode b_RM_fitsFirst 11 = .ok (.if_icmp .eq 19, 3) := by decide +kernel
theorem d_RM_fitsFirst_14 : decode b_RM_fitsFirst 14 = .ok (.aload_n 0, 1) := by decide +kernel
theorem d_RM_fitsFirst_15 : decode b_RM_fitsFirst 15 = .ok (.getfield 22, 3) := by decide +kernel
theorem d_RM_fitsFirst_18 : decode b_RM_fitsFirst 18 = .ok (.iload_n 1, 1) := by decide +kernel
theorem d_RM_fitsFirst_19 : decode b_RM_fitsFirst 19 = .ok (.iaload, 1) := by decide +kernel
theorem d_RM_fitsFirst_20 : decode b_RM_fitsFirst 20 = .ok (.iconst 2, 1) := by decide +kernel
theorem d_RM_fitsFirst_21 : decode b_RM_fitsFirst 21 = .ok (.iand, 1) := by decide +kernel
theorem d_RM_fitsFirst_22 : decode b_RM_fitsFirst 22 = .ok (.iconst 2, 1) := by decide +kernel
theorem d_RM_fitsFirst_23 : decode b_RM_fitsFirst 23 = .ok (.if_icmp .ne 9, 3) := by decide +kernel
theorem d_RM_fitsFirst_26 : decode b_RM_fitsFirst 26 = .ok (.iload_n 3, 1) := by decide +kernel
theorem d_RM_fitsFirst_27 : decode b_RM_fitsFirst 27 = .ok (.ifCond .ne 5, 3) := by decide +kernel
theorem d_RM_fitsFirst_30 : decode b_RM_fitsFirst 30 = .ok (.iconst 0, 1) := by decide +kernel
theorem d_RM_fitsFirst_31 : decode b_RM_fitsFirst 31 = .ok (.ireturn, 1) := by decide +kernel
theorem d_RM_fitsFirst_32 : decode b_RM_fitsFirst 32 = .ok (.aload_n 0, 1) := by decide +kernel
theorem d_RM_fitsFirst_33 : decode b_RM_fitsFirst 33 = .ok (.aload_n 0, 1) := by decide +kernel
theorem d_RM_fitsFirst_34 : decode b_RM_fitsFirst 34 = .ok (.getfield 16, 3) := by decide +kernel
theorem d_RM_fitsFirst_37 : decode b_RM_fitsFirst 37 = .ok (.iload_n 1, 1) := by decide +kernel
theorem d_RM_fitsFirst_38 : decode b_RM_fitsFirst 38 = .ok (.iaload, 1) := by decide +kernel
theorem d_RM_fitsFirst_39 : decode b_RM_fitsFirst 39 = .ok (.aload_n 0, 1) := by decide +kernel
theorem d_RM_fitsFirst_40 : decode b_RM_fitsFirst 40 = .ok (.getfield 19, 3) := by decide +kernel
theorem d_RM_fitsFirst_43 : decode b_RM_fitsFirst 43 = .ok (.iload_n 1, 1) := by decide +kernel
theorem d_RM_fitsFirst_44 : decode b_RM_fitsFirst 44 = .ok (.iaload, 1) := by decide +kernel
theorem d_RM_fitsFirst_45 : decode b_RM_fitsFirst 45 = .ok (.invokevirtual 96, 3) := by decide +kernel
theorem d_RM_fitsFirst_48 : decode b_RM_fitsFirst 48 = .ok (.aload_n 0, 1) := by decide +kernel
theorem d_RM_fitsFirst_49 : decode b_RM_fitsFirst 49 = .ok (.getfield 22, 3) := by decide +kernel
theorem d_RM_fitsFirst_52 : decode b_RM_fitsFirst 52 = .ok (.iload_n 1, 1) := by decide +kernel
theorem d_RM_fitsFirst_53 : decode b_RM_fitsFirst 53 = .ok (.iaload, 1) := by decide +kernel
theorem d_RM_fitsFirst_54 : decode b_RM_fitsFirst 54 = .ok (.iconst 4, 1) := by decide +kernel
theorem d_RM_fitsFirst_55 : decode b_RM_fitsFirst 55 = .ok (.iand, 1) := by decide +kernel
theorem d_RM_fitsFirst_56 : decode b_RM_fitsFirst 56 = .ok (.iconst 4, 1) := by decide +kernel
theorem d_RM_fitsFirst_57 : decode b_RM_fitsFirst 57 = .ok (.if_icmp .ne 30, 3) := by decide +kernel
theorem d_RM_fitsFirst_60 : decode b_RM_fitsFirst 60 = .ok (.aload_n 0, 1) := by decide +kernel
theorem d_RM_fitsFirst_61 : decode b_RM_fitsFirst 61 = .ok (.getfield 93, 3) := by decide +kernel
theorem d_RM_fitsFirst_64 : decode b_RM_fitsFirst 64 = .ok (.sipush 1000, 3) := by decide +kernel
theorem d_RM_fitsFirst_67 : decode b_RM_fitsFirst 67 = .ok (.if_icmp .gt 16, 3) := by decide +kernel
theorem d_RM_fitsFirst_70 : decode b_RM_fitsFirst 70 = .ok (.aload_n 0, 1) := by decide +kernel
theorem d_RM_fitsFirst_71 : decode b_RM_fitsFirst 71 = .ok (.iload_n 1, 1) := by decide +kernel
theorem d_RM_fitsFirst_72 : decode b_RM_fitsFirst 72 = .ok (.iload_n 2, 1) := by decide +kernel
theorem d_RM_fitsFirst_73 : decode b_RM_fitsFirst 73 = .ok (.invokevirtual 157, 3) := by decide +kernel
theorem d_RM_fitsFirst_76 : decode b_RM_fitsFirst 76 = .ok (.ifCond .eq 7, 3) := by decide +kernel
theorem d_RM_fitsFirst_79 : decode b_RM_fitsFirst 79 = .ok (.iconst 1, 1) := by decide +kernel
theorem d_RM_fitsFirst_80 : decode b_RM_fitsFirst 80 = .ok (.goto 26, 3) := by decide +kernel
theorem d_RM_fitsFirst_83 : decode b_RM_fitsFirst 83 = .ok (.iconst 0, 1) := by decide +kernel
theorem d_RM_fitsFirst_84 : decode b_RM_fitsFirst 84 = .ok (.goto 22, 3) := by decide +kernel
theorem d_RM_fitsFirst_87 : decode b_RM_fitsFirst 87 = .ok (.aload_n 0, 1) := by decide +kernel
theorem d_RM_fitsFirst_88 : decode b_RM_fitsFirst 88 = .ok (.aload_n 0, 1) := by decide +kernel
theorem d_RM_fitsFirst_89 : decode b_RM_fitsFirst 89 = .ok (.getfield 16, 3) := by decide +kernel
theorem d_RM_fitsFirst_92 : decode b_RM_fitsFirst 92 = .ok (.iload_n 1, 1) := by decide +kernel
theorem d_RM_fitsFirst_93 : decode b_RM_fitsFirst 93 = .ok (.iaload, 1) := by decide +kernel
theorem d_RM_fitsFirst_94 : decode b_RM_fitsFirst 94 = .ok (.aload_n 0, 1) := by decide +kernel
theorem d_RM_fitsFirst_95 : decode b_RM_fitsFirst 95 = .ok (.getfield 19, 3) := by decide +kernel
theorem d_RM_fitsFirst_98 : decode b_RM_fitsFirst 98 = .ok (.iload_n 1, 1) := by decide +kernel
theorem d_RM_fitsFirst_99 : decode b_RM_fitsFirst 99 = .ok (.iaload, 1) := by decide +kernel
theorem d_RM_fitsFirst_100 : decode b_RM_fitsFirst 100 = .ok (.iload_n 2, 1) := by decide +kernel
theorem d_RM_fitsFirst_101 : decode b_RM_fitsFirst 101 = .ok (.iconst 1, 1) := by decide +kernel
theorem d_RM_fitsFirst_102 : decode b_RM_fitsFirst 102 = .ok (.isub, 1) := by decide +kernel
theorem d_RM_fitsFirst_103 : decode b_RM_fitsFirst 103 = .ok (.invokevirtual 154, 3) := by decide +kernel
theorem d_RM_fitsFirst_106 : decode b_RM_fitsFirst 106 = .ok (.ireturn, 1) := by decide +kernel
abbrev w_RM_fitsFirst : List Cond := Cond.code y_RM_fitsFirst b_RM_fitsFirst 4 (some .boolean) :: ig_T
theorem g_RM_fitsFirst : GoodIn ig_T w_RM_fitsFirst := ig_T_good (ig_T_mem (List.mem_append_right _ (List.mem_append_right _ (List.mem_of_getElem? (i := 76) rfl))) rfl)
set_option maxHeartbeats 4000000 in
set_option maxRecDepth 100000 in
theorem c_RM_fitsFirst (l : Launch) (dC : Nat → ClassId) (dI : Nat → Nat → Nat) (cC cI cZ cL : ClassId) (o0 ra rx rf rt rb rl rp ru_ rv rr rs rg rh rz ry : Nat) (th : Int32) (si : Int32) (ru : Int32) (na : Int32) (bz : Int32) (de : Int32) (dp : Int32) (io : Int32) (nx : Nat) (so : Nat) (pa : Nat) (tX : Nat → Int32) (xF : Nat → Nat) (xT : Nat → Nat) (xB : Nat → Nat) (tP : Nat → Int32) (yF : Nat → Nat) (yT : Nat → Nat) (zR : Nat → Bool) (zF : Nat → Bool) (wF : Nat → Nat) (wT : Nat → Nat) (zT : Nat → Bool) (i : Nat) (n : Nat) (d : Bool) (sz : Nat) (hr : r_RM_fitsFirst nx so pa tX xF xT xB tP yF yT zR zF wF wT zT i n d) : Met l y_RM_fitsFirst w_RM_fitsFirst ({ frames := 6, cells := 0, slots := 0, locals := 142 }) (ig_Pc (dC, dI) ig_cl0 [(cC, .char), (cI, .int), (cZ, .boolean), (cL, .long)] [.ref o0, .int (nI i), .int (nI n), .int (bI d)] [(o0, .inr (ciRM, [.int th, .ref ra, .int si, .ref rx, .ref rf, .ref rt, .ref rb, .ref rl, .int ru, .ref rp, .ref ru_, .ref rv, .int na, .int (nI nx), .int (nI so), .ref rr, .ref rs, .ref rg, .ref rh, .int (nI pa), .ref rz, .ref ry, .int bz, .int de, .int dp, .int io])), (rx, .inl (cI, 1000, .inl tX)), (rf, .inl (cI, 60, .inl (fun zj => nI (xF zj)))), (rt, .inl (cI, 60, .inl (fun zj => nI (xT zj)))), (rb, .inl (cI, 60, .inl (fun zj => nI (xB zj)))), (rp, .inl (cI, 120, .inl tP)), (ru_, .inl (cI, 20, .inl (fun zj => nI (yF zj)))), (rv, .inl (cI, 20, .inl (fun zj => nI (yT zj)))), (rr, .inl (cZ, 1001, .inl (fun zj => bI (zR zj)))), (rs, .inl (cZ, 1001, .inl (fun zj => bI (zF zj)))), (rg, .inl (cI, 1001, .inl (fun zj => nI (wF zj)))), (rh, .inl (cI, 1001, .inl (fun zj => nI (wT zj)))), (rz, .inl (cZ, 21021, .inl (fun zj => bI (zT zj))))] sz) (va_Qi (fun (r : Int32) (u : Nat × Nat × (Nat → Bool) × (Nat → Bool) × (Nat → Bool) × Nat × (Nat → Nat) × (Nat → Nat)) => ∃ zr : Bool, r = bI zr ∧ p_RM_fitsFirst nx so pa tX xF xT xB tP yF yT zR zF wF wT zT i n d zr u.1 u.2.1 u.2.2.1 u.2.2.2.1 u.2.2.2.2.1 u.2.2.2.2.2.1 u.2.2.2.2.2.2.1 u.2.2.2.2.2.2.2) (fun u t => va_P (dC, dI) ig_cl0 ((fun (u : Nat × Nat × (Nat → Bool) × (Nat → Bool) × (Nat → Bool) × Nat × (Nat → Nat) × (Nat → Nat)) => [(o0, .inr (ciRM, [.int th, .ref ra, .int si, .ref rx, .ref rf, .ref rt, .ref rb, .ref rl, .int ru, .ref rp, .ref ru_, .ref rv, .int na, .int (nI u.1), .int (nI u.2.1), .ref rr, .ref rs, .ref rg, .ref rh, .int (nI u.2.2.2.2.2.1), .ref rz, .ref ry, .int bz, .int de, .int dp, .int io])), (rx, .inl (cI, 1000, .inl tX)), (rf, .inl (cI, 60, .inl (fun zj => nI (xF zj)))), (rt, .inl (cI, 60, .inl (fun zj => nI (xT zj)))), (rb, .inl (cI, 60, .inl (fun zj => nI (xB zj)))), (rp, .inl (cI, 120, .inl tP)), (ru_, .inl (cI, 20, .inl (fun zj => nI (yF zj)))), (rv, .inl (cI, 20, .inl (fun zj => nI (yT zj)))), (rr, .inl (cZ, 1001, .inl (fun zj => bI (u.2.2.1 zj)))), (rs, .inl (cZ, 1001, .inl (fun zj => bI (u.2.2.2.1 zj)))), (rg, .inl (cI, 1001, .inl (fun zj => nI (u.2.2.2.2.2.2.1 zj)))), (rh, .inl (cI, 1001, .inl (fun zj => nI (u.2.2.2.2.2.2.2 zj)))), (rz, .inl (cZ, 21021, .inl (fun zj => bI (u.2.2.2.2.1 zj))))]) u) t.heap ∧ va_D (va_A [(o0, .inr (ciRM, [.int th, .ref ra, .int si, .ref rx, .ref rf, .ref rt, .ref rb, .ref rl, .int ru, .ref rp, .ref ru_, .ref rv, .int na, .int (nI nx), .int (nI so), .ref rr, .ref rs, .ref rg, .ref rh, .int (nI pa), .ref rz, .ref ry, .int bz, .int de, .int dp, .int io])), (rx, .inl (cI, 1000, .inl tX)), (rf, .inl (cI, 60, .inl (fun zj => nI (xF zj)))), (rt, .inl (cI, 60, .inl (fun zj => nI (xT zj)))), (rb, .inl (cI, 60, .inl (fun zj => nI (xB zj)))), (rp, .inl (cI, 120, .inl tP)), (ru_, .inl (cI, 20, .inl (fun zj => nI (yF zj)))), (rv, .inl (cI, 20, .inl (fun zj => nI (yT zj)))), (rr, .inl (cZ, 1001, .inl (fun zj => bI (zR zj)))), (rs, .inl (cZ, 1001, .inl (fun zj => bI (zF zj)))), (rg, .inl (cI, 1001, .inl (fun zj => nI (wF zj)))), (rh, .inl (cI, 1001, .inl (fun zj => nI (wT zj)))), (rz, .inl (cZ, 21021, .inl (fun zj => bI (zT zj))))] sz) ((fun (u : Nat × Nat × (Nat → Bool) × (Nat → Bool) × (Nat → Bool) × Nat × (Nat → Nat) × (Nat → Nat)) => [(o0, .inr (ciRM, [.int th, .ref ra, .int si, .ref rx, .ref rf, .ref rt, .ref rb, .ref rl, .int ru, .ref rp, .ref ru_, .ref rv, .int na, .int (nI u.1), .int (nI u.2.1), .ref rr, .ref rs, .ref rg, .ref rh, .int (nI u.2.2.2.2.2.1), .ref rz, .ref ry, .int bz, .int de, .int dp, .int io])), (rx, .inl (cI, 1000, .inl tX)), (rf, .inl (cI, 60, .inl (fun zj => nI (xF zj)))), (rt, .inl (cI, 60, .inl (fun zj => nI (xT zj)))), (rb, .inl (cI, 60, .inl (fun zj => nI (xB zj)))), (rp, .inl (cI, 120, .inl tP)), (ru_, .inl (cI, 20, .inl (fun zj => nI (yF zj)))), (rv, .inl (cI, 20, .inl (fun zj => nI (yT zj)))), (rr, .inl (cZ, 1001, .inl (fun zj => bI (u.2.2.1 zj)))), (rs, .inl (cZ, 1001, .inl (fun zj => bI (u.2.2.2.1 zj)))), (rg, .inl (cI, 1001, .inl (fun zj => nI (u.2.2.2.2.2.2.1 zj)))), (rh, .inl (cI, 1001, .inl (fun zj => nI (u.2.2.2.2.2.2.2 zj)))), (rz, .inl (cZ, 21021, .inl (fun zj => bI (u.2.2.2.2.1 zj))))]) u)) (va_A [(o0, .inr (ciRM, [.int th, .ref ra, .int si, .ref rx, .ref rf, .ref rt, .ref rb, .ref rl, .int ru, .ref rp, .ref ru_, .ref rv, .int na, .int (nI nx), .int (nI so), .ref rr, .ref rs, .ref rg, .ref rh, .int (nI pa), .ref rz, .ref ry, .int bz, .int de, .int dp, .int io])), (rx, .inl (cI, 1000, .inl tX)), (rf, .inl (cI, 60, .inl (fun zj => nI (xF zj)))), (rt, .inl (cI, 60, .inl (fun zj => nI (xT zj)))), (rb, .inl (cI, 60, .inl (fun zj => nI (xB zj)))), (rp, .inl (cI, 120, .inl tP)), (ru_, .inl (cI, 20, .inl (fun zj => nI (yF zj)))), (rv, .inl (cI, 20, .inl (fun zj => nI (yT zj)))), (rr, .inl (cZ, 1001, .inl (fun zj => bI (zR zj)))), (rs, .inl (cZ, 1001, .inl (fun zj => bI (zF zj)))), (rg, .inl (cI, 1001, .inl (fun zj => nI (wF zj)))), (rh, .inl (cI, 1001, .inl (fun zj => nI (wT zj)))), (rz, .inl (cZ, 21021, .inl (fun zj => bI (zT zj))))] sz)) 0 0 (va_A [(o0, .inr (ciRM, [.int th, .ref ra, .int si, .ref rx, .ref rf, .ref rt, .ref rb, .ref rl, .int ru, .ref rp, .ref ru_, .ref rv, .int na, .int (nI nx), .int (nI so), .ref rr, .ref rs, .ref rg, .ref rh, .int (nI pa), .ref rz, .ref ry, .int bz, .int de, .int dp, .int io])), (rx, .inl (cI, 1000, .inl tX)), (rf, .inl (cI, 60, .inl (fun zj => nI (xF zj)))), (rt, .inl (cI, 60, .inl (fun zj => nI (xT zj)))), (rb, .inl (cI, 60, .inl (fun zj => nI (xB zj)))), (rp, .inl (cI, 120, .inl tP)), (ru_, .inl (cI, 20, .inl (fun zj => nI (yF zj)))), (rv, .inl (cI, 20, .inl (fun zj => nI (yT zj)))), (rr, .inl (cZ, 1001, .inl (fun zj => bI (zR zj)))), (rs, .inl (cZ, 1001, .inl (fun zj => bI (zF zj)))), (rg, .inl (cI, 1001, .inl (fun zj => nI (wF zj)))), (rh, .inl (cI, 1001, .inl (fun zj => nI (wT zj)))), (rz, .inl (cZ, 21021, .inl (fun zj => bI (zT zj))))] sz) := by
  refine ig_metI (fun (r : Int32) (u : Nat × Nat × (Nat → Bool) × (Nat → Bool) × (Nat → Bool) × Nat × (Nat → Nat) × (Nat → Nat)) => ∃ zr : Bool, r = bI zr ∧ p_RM_fitsFirst nx so pa tX xF xT xB tP yF yT zR zF wF wT zT i n d zr u.1 u.2.1 u.2.2.1 u.2.2.2.1 u.2.2.2.2.1 u.2.2.2.2.2.1 u.2.2.2.2.2.2.1 u.2.2.2.2.2.2.2) (fun (u : Nat × Nat × (Nat → Bool) × (Nat → Bool) × (Nat → Bool) × Nat × (Nat → Nat) × (Nat → Nat)) => [(o0, .inr (ciRM, [.int th, .ref ra, .int si, .ref rx, .ref rf, .ref rt, .ref rb, .ref rl, .int ru, .ref rp, .ref ru_, .ref rv, .int na, .int (nI u.1), .int (nI u.2.1), .ref rr, .ref rs, .ref rg, .ref rh, .int (nI u.2.2.2.2.2.1), .ref rz, .ref ry, .int bz, .int de, .int dp, .int io])), (rx, .inl (cI, 1000, .inl tX)), (rf, .inl (cI, 60, .inl (fun zj => nI (xF zj)))), (rt, .inl (cI, 60, .inl (fun zj => nI (xT zj)))), (rb, .inl (cI, 60, .inl (fun zj => nI (xB zj)))), (rp, .inl (cI, 120, .inl tP)), (ru_, .inl (cI, 20, .inl (fun zj => nI (yF zj)))), (rv, .inl (cI, 20, .inl (fun zj => nI (yT zj)))), (rr, .inl (cZ, 1001, .inl (fun zj => bI (u.2.2.1 zj)))), (rs, .inl (cZ, 1001, .inl (fun zj => bI (u.2.2.2.1 zj)))), (rg, .inl (cI, 1001, .inl (fun zj => nI (u.2.2.2.2.2.2.1 zj)))), (rh, .inl (cI, 1001, .inl (fun zj => nI (u.2.2.2.2.2.2.2 zj)))), (rz, .inl (cZ, 21021, .inl (fun zj => bI (u.2.2.2.2.1 zj))))]) (by decide) rfl (Nat.le_of_ble_eq_true rfl) rfl (by rintro r u ⟨b, rfl, -⟩; exact bI_ret b) ?_
  intro zp ze zs zm zargs zbelow zmeth zc zA zQ hx hb hml hown hts hK hN hA hret
  have j32 : ∀ (nxc : Nat) (soc : Nat) (pac : Nat) (zRc : Nat → Bool) (zFc : Nat → Bool) (wFc : Nat → Nat) (wTc : Nat → Nat) (zTc : Nat → Bool), v_RM_fitsFirst_32 nx so pa tX xF xT xB tP yF yT zR zF wF wT zT i n d (p_RM_fitsFirst nx so pa tX xF xT xB tP yF yT zR zF wF wT zT i n d) nxc soc pac zRc zFc wFc wTc zTc → ig_W zp l ze ({ frames := 6, cells := 0, slots := 0, locals := 142 }) zs zm zargs zbelow zmeth zc (dC, dI) ig_cl0 zA zs.heap 4 0 0 zQ 32 [(0, .ref o0), (1, .int (nI i)), (2, .int (nI n))] [] [(o0, .inr (ciRM, [.int th, .ref ra, .int si, .ref rx, .ref rf, .ref rt, .ref rb, .ref rl, .int ru, .ref rp, .ref ru_, .ref rv, .int na, .int (nI nxc), .int (nI soc), .ref rr, .ref rs, .ref rg, .ref rh, .int (nI pac), .ref rz, .ref ry, .int bz, .int de, .int dp, .int io])), (rx, .inl (cI, 1000, .inl tX)), (rf, .inl (cI, 60, .inl (fun zj => nI (xF zj)))), (rt, .inl (cI, 60, .inl (fun zj => nI (xT zj)))), (rb, .inl (cI, 60, .inl (fun zj => nI (xB zj)))), (rp, .inl (cI, 120, .inl tP)), (ru_, .inl (cI, 20, .inl (fun zj => nI (yF zj)))), (rv, .inl (cI, 20, .inl (fun zj => nI (yT zj)))), (rr, .inl (cZ, 1001, .inl (fun zj => bI (zRc zj)))), (rs, .inl (cZ, 1001, .inl (fun zj => bI (zFc zj)))), (rg, .inl (cI, 1001, .inl (fun zj => nI (wFc zj)))), (rh, .inl (cI, 1001, .inl (fun zj => nI (wTc zj)))), (rz, .inl (cZ, 21021, .inl (fun zj => bI (zTc zj))))] := by
    intro nxc soc pac zRc zFc wFc wTc zTc hv
    unfold v_RM_fitsFirst_32 at hv
    refine ig_aload_n hx hb 0 d_RM_fitsFirst_32 rfl rfl ?_
    refine ig_aload_n hx hb 0 d_RM_fitsFirst_33 rfl rfl ?_
    refine ig_get hx hb hts in_RM hown hK 0 rfl rfl 4 (by decide) (hts _ kw_1_149) (fun _ h => h) rfl d_RM_fitsFirst_34 ?_
    refine ig_iload_n hx hb 1 d_RM_fitsFirst_37 rfl rfl ?_
    obtain ⟨hc, hv⟩ := hv
    refine ig_iald (x := (nI (xF i))) hx hb hK 2 1 rfl rfl i rfl hc (by decide) rfl d_RM_fitsFirst_38 ?_
    refine ig_aload_n hx hb 0 d_RM_fitsFirst_39 rfl rfl ?_
    refine ig_get hx hb hts in_RM hown hK 0 rfl rfl 5 (by decide) (hts _ kw_1_150) (fun _ h => h) rfl d_RM_fitsFirst_40 ?_
    refine ig_iload_n hx hb 1 d_RM_fitsFirst_43 rfl rfl ?_
    obtain ⟨hc, hv⟩ := hv
    refine ig_iald (x := (nI (xT i))) hx hb hK 3 1 rfl rfl i rfl hc (by decide) rfl d_RM_fitsFirst_44 ?_
    obtain ⟨hc, hv⟩ := hv
    refine ig_cVv (As := [.int (nI (xF i)), .int (nI (xT i))]) (rest := []) (wr := [(rf, .inl (cI, 60, .inl (fun zj => nI (xF zj)))), (rt, .inl (cI, 60, .inl (fun zj => nI (xT zj)))), (rb, .inl (cI, 60, .inl (fun zj => nI (xB zj)))), (rp, .inl (cI, 120, .inl tP)), (ru_, .inl (cI, 20, .inl (fun zj => nI (yF zj)))), (rv, .inl (cI, 20, .inl (fun zj => nI (yT zj)))), (rr, .inl (cZ, 1001, .inl (fun zj => bI (zRc zj)))), (rs, .inl (cZ, 1001, .inl (fun zj => bI (zFc zj)))), (rz, .inl (cZ, 21021, .inl (fun zj => bI (zTc zj))))]) (ws' := fun u => [(o0, .inr (ciRM, [.int th, .ref ra, .int si, .ref rx, .ref rf, .ref rt, .ref rb, .ref rl, .int ru, .ref rp, .ref ru_, .ref rv, .int na, .int (nI nxc), .int (nI soc), .ref rr, .ref rs, .ref rg, .ref rh, .int (nI u.1), .ref rz, .ref ry, .int bz, .int de, .int dp, .int io])), (rx, .inl (cI, 1000, .inl tX)), (rf, .inl (cI, 60, .inl (fun zj => nI (xF zj)))), (rt, .inl (cI, 60, .inl (fun zj => nI (xT zj)))), (rb, .inl (cI, 60, .inl (fun zj => nI (xB zj)))), (rp, .inl (cI, 120, .inl tP)), (ru_, .inl (cI, 20, .inl (fun zj => nI (yF zj)))), (rv, .inl (cI, 20, .inl (fun zj => nI (yT zj)))), (rr, .inl (cZ, 1001, .inl (fun zj => bI (zRc zj)))), (rs, .inl (cZ, 1001, .inl (fun zj => bI (zFc zj)))), (rg, .inl (cI, 1001, .inl (fun zj => nI (u.2.1 zj)))), (rh, .inl (cI, 1001, .inl (fun zj => nI (u.2.2 zj)))), (rz, .inl (cZ, 21021, .inl (fun zj => bI (zTc zj))))]) hx hb hml hown hts hK hN hA (fun sz => c_RM_findParts l dC dI cC cI cZ cL o0 ra rx rf rt rb rl rp ru_ rv rr rs rg rh rz ry th si ru na (nI nxc) (nI soc) bz de dp io pac tX wFc wTc (xF i) (xT i) sz hc) ⟨callB_of 2 hts g_RM_findParts rfl rfl rfl (hts _ kw_0_5) (hts _ kw_2_25) (by decide +kernel) (by decide), (hts _ kw_2_27), (hts _ ks_RM_findParts)⟩ rfl rfl (Nat.le_of_ble_eq_true rfl) d_RM_fitsFirst_45 (by decide) 0 rfl rfl [0, 1, 10, 11] [2, 3, 4, 5, 6, 7, 8, 9, 12] [9, 10, 0, 1, 2, 3, 4, 5, 6, 7, 11, 12, 8] rfl rfl (by decide) (by decide) (by decide) (fun _ => rfl) (fun _ => rfl) (fun u hr => ?_)
    obtain ⟨pa1, wF2, wT3⟩ := u
    unfold p_RM_findParts at hr
    have hv := hv pa1 wF2 wT3 hr
    refine ig_aload_n hx hb 0 d_RM_fitsFirst_48 rfl rfl ?_
    refine ig_get hx hb hts in_RM hown hK 0 rfl rfl 6 (by decide) (hts _ kw_1_151) (fun _ h => h) rfl d_RM_fitsFirst_49 ?_
    refine ig_iload_n hx hb 1 d_RM_fitsFirst_52 rfl rfl ?_
    obtain ⟨hc, hv⟩ := hv
    refine ig_iald (x := (nI (xB i))) hx hb hK 4 1 rfl rfl i rfl hc (by decide) rfl d_RM_fitsFirst_53 ?_
    refine ig_iconst (v := 4) hx hb d_RM_fitsFirst_54 (by decide) ?_
    refine ig_iandN hx hb (xB i) 4 rfl rfl d_RM_fitsFirst_55 ?_
    refine ig_iconst (v := 4) hx hb d_RM_fitsFirst_56 (by decide) ?_
    obtain ⟨h1, hv⟩ := hv
    refine ig_icmp_neN (tgt := 87) hx hb ((xB i) &&& 4) 4 rfl rfl d_RM_fitsFirst_57 (by decide) h1 (by decide) (fun h => ?_) (fun h => ?_)
    · have hv := hv.1 h
      refine ig_aload_n hx hb 0 d_RM_fitsFirst_87 rfl rfl ?_
      refine ig_aload_n hx hb 0 d_RM_fitsFirst_88 rfl rfl ?_
      refine ig_get hx hb hts in_RM hown hK 0 rfl rfl 4 (by decide) (hts _ kw_1_149) (fun _ h => h) rfl d_RM_fitsFirst_89 ?_
      refine ig_iload_n hx hb 1 d_RM_fitsFirst_92 rfl rfl ?_
      obtain ⟨hc, hv⟩ := hv
      refine ig_iald (x := (nI (xF i))) hx hb hK 2 1 rfl rfl i rfl hc (by decide) rfl d_RM_fitsFirst_93 ?_
      refine ig_aload_n hx hb 0 d_RM_fitsFirst_94 rfl rfl ?_
      refine ig_get hx hb hts in_RM hown hK 0 rfl rfl 5 (by decide) (hts _ kw_1_150) (fun _ h => h) rfl d_RM_fitsFirst_95 ?_
      refine ig_iload_n hx hb 1 d_RM_fitsFirst_98 rfl rfl ?_
      obtain ⟨hc, hv⟩ := hv
      refine ig_iald (x := (nI (xT i))) hx hb hK 3 1 rfl rfl i rfl hc (by decide) rfl d_RM_fitsFirst_99 ?_
      refine ig_iload_n hx hb 2 d_RM_fitsFirst_100 rfl rfl ?_
      refine ig_iconst (v := 1) hx hb d_RM_fitsFirst_101 (by decide) ?_
      obtain ⟨hc, hv⟩ := hv
      refine ig_isubN hx hb n 1 rfl rfl hc d_RM_fitsFirst_102 ?_
      obtain ⟨hc, hv⟩ := hv
      refine ig_cVi (As := [.int (nI (xF i)), .int (nI (xT i)), .int (nI (n - 1))]) (rest := []) (wr := [(rf, .inl (cI, 60, .inl (fun zj => nI (xF zj)))), (rt, .inl (cI, 60, .inl (fun zj => nI (xT zj)))), (rb, .inl (cI, 60, .inl (fun zj => nI (xB zj)))), (rg, .inl (cI, 1001, .inl (fun zj => nI (wF2 zj)))), (rh, .inl (cI, 1001, .inl (fun zj => nI (wT3 zj)))), (rz, .inl (cZ, 21021, .inl (fun zj => bI (zTc zj))))]) (ws' := fun u => [(o0, .inr (ciRM, [.int th, .ref ra, .int si, .ref rx, .ref rf, .ref rt, .ref rb, .ref rl, .int ru, .ref rp, .ref ru_, .ref rv, .int na, .int (nI u.1), .int (nI u.2.1), .ref rr, .ref rs, .ref rg, .ref rh, .int (nI pa1), .ref rz, .ref ry, .int bz, .int de, .int dp, .int io])), (rx, .inl (cI, 1000, .inl tX)), (rf, .inl (cI, 60, .inl (fun zj => nI (xF zj)))), (rt, .inl (cI, 60, .inl (fun zj => nI (xT zj)))), (rb, .inl (cI, 60, .inl (fun zj => nI (xB zj)))), (rp, .inl (cI, 120, .inl tP)), (ru_, .inl (cI, 20, .inl (fun zj => nI (yF zj)))), (rv, .inl (cI, 20, .inl (fun zj => nI (yT zj)))), (rr, .inl (cZ, 1001, .inl (fun zj => bI (u.2.2.1 zj)))), (rs, .inl (cZ, 1001, .inl (fun zj => bI (u.2.2.2 zj)))), (rg, .inl (cI, 1001, .inl (fun zj => nI (wF2 zj)))), (rh, .inl (cI, 1001, .inl (fun zj => nI (wT3 zj)))), (rz, .inl (cZ, 21021, .inl (fun zj => bI (zTc zj))))]) hx hb hml hown hts hK hN hA (fun sz => c_RM_fitsName l dC dI cC cI cZ cL o0 ra rx rf rt rb rl rp ru_ rv rr rs rg rh rz ry th si ru na (nI pa1) bz de dp io nxc soc tX tP yF yT zRc zFc (xF i) (xT i) (n - 1) sz hc) ⟨callB_of 3 hts g_RM_fitsName rfl rfl rfl (hts _ kw_0_5) (hts _ kw_2_85) (by decide +kernel) (by decide), (hts _ kw_2_87), (hts _ ks_RM_fitsName)⟩ rfl rfl (Nat.le_of_ble_eq_true rfl) d_RM_fitsFirst_103 (by decide) 0 rfl rfl [0, 1, 5, 6, 7, 8, 9] [2, 3, 4, 10, 11, 12] [6, 7, 0, 1, 2, 8, 9, 10, 11, 12, 3, 4, 5] rfl rfl (by decide) (by decide) (by decide) (fun _ => rfl) (fun _ => rfl) (fun r u hr => ?_)
      obtain ⟨nx4, so5, zR6, zF7⟩ := u
      obtain ⟨rr, rfl, hr⟩ := hr
      unfold p_RM_fitsName at hr
      subst hr
      have hv := hv nx4 so5 zR6 zF7
      exact hret 106 _ (bI (sp_rn tX tP yF yT (xF i) (xT i) (n - 1))) (nx4, so5, zR6, zF7, zTc, pa1, wF2, wT3) d_RM_fitsFirst_106 ⟨sp_rn tX tP yF yT (xF i) (xT i) (n - 1), rfl, hv⟩
    · have hv := hv.2 h
      refine ig_aload_n hx hb 0 d_RM_fitsFirst_60 rfl rfl ?_
      refine ig_get hx hb hts in_RM hown hK 0 rfl rfl 19 (by decide) (hts _ kw_1_164) (fun _ h => h) rfl d_RM_fitsFirst_61 ?_
      refine ig_sipush (v := 1000) hx hb d_RM_fitsFirst_64 (by decide) ?_
      obtain ⟨h1, hv⟩ := hv
      refine ig_icmp_gtN (tgt := 83) hx hb pa1 1000 rfl rfl d_RM_fitsFirst_67 (by decide) h1 (by decide) (fun h => ?_) (fun h => ?_)
      · have hv := hv.1 h
        refine ig_iconst (v := 0) hx hb d_RM_fitsFirst_83 (by decide) ?_
        refine ig_goto (tgt := 106) hx hb d_RM_fitsFirst_84 (by decide) ?_
        exact hret 106 _ 0 (nxc, soc, zRc, zFc, zTc, pa1, wF2, wT3) d_RM_fitsFirst_106 ⟨false, rfl, hv⟩
      · have hv := hv.2 h
        refine ig_aload_n hx hb 0 d_RM_fitsFirst_70 rfl rfl ?_
        refine ig_iload_n hx hb 1 d_RM_fitsFirst_71 rfl rfl ?_
        refine ig_iload_n hx hb 2 d_RM_fitsFirst_72 rfl rfl ?_
        obtain ⟨hc, hv⟩ := hv
        refine ig_cVi (As := [.int (nI i), .int (nI n)]) (rest := []) (wr := [(rf, .inl (cI, 60, .inl (fun zj => nI (xF zj)))), (rt, .inl (cI, 60, .inl (fun zj => nI (xT zj))))]) (ws' := fun u => [(o0, .inr (ciRM, [.int th, .ref ra, .int si, .ref rx, .ref rf, .ref rt, .ref rb, .ref rl, .int ru, .ref rp, .ref ru_, .ref rv, .int na, .int (nI u.1), .int (nI u.2.1), .ref rr, .ref rs, .ref rg, .ref rh, .int (nI pa1), .ref rz, .ref ry, .int bz, .int de, .int dp, .int io])), (rx, .inl (cI, 1000, .inl tX)), (rf, .inl (cI, 60, .inl (fun zj => nI (xF zj)))), (rt, .inl (cI, 60, .inl (fun zj => nI (xT zj)))), (rb, .inl (cI, 60, .inl (fun zj => nI (xB zj)))), (rp, .inl (cI, 120, .inl tP)), (ru_, .inl (cI, 20, .inl (fun zj => nI (yF zj)))), (rv, .inl (cI, 20, .inl (fun zj => nI (yT zj)))), (rr, .inl (cZ, 1001, .inl (fun zj => bI (u.2.2.1 zj)))), (rs, .inl (cZ, 1001, .inl (fun zj => bI (u.2.2.2.1 zj)))), (rg, .inl (cI, 1001, .inl (fun zj => nI (wF2 zj)))), (rh, .inl (cI, 1001, .inl (fun zj => nI (wT3 zj)))), (rz, .inl (cZ, 21021, .inl (fun zj => bI (u.2.2.2.2 zj))))]) hx hb hml hown hts hK hN hA (fun sz => c_RM_fitsBound l dC dI cC cI cZ cL o0 ra rx rf rt rb rl rp ru_ rv rr rs rg rh rz ry th si ru na bz de dp io nxc soc pa1 tX xB tP yF yT zRc zFc wF2 wT3 zTc i n (xF i) (xT i) sz hc) ⟨callB_of 2 hts g_RM_fitsBound rfl rfl rfl (hts _ kw_0_5) (hts _ kw_2_77) (by decide +kernel) (by decide), (hts _ kw_2_79), (hts _ ks_RM_fitsBound)⟩ rfl rfl (Nat.le_of_ble_eq_true rfl) d_RM_fitsFirst_73 (by decide) 0 rfl rfl [0, 1, 4, 5, 6, 7, 8, 9, 10, 11, 12] [2, 3] [2, 3, 0, 1, 4, 5, 6, 7, 8, 9, 10, 11, 12] rfl rfl (by decide) (by decide) (by decide) (fun _ => rfl) (fun _ => rfl) (fun r u hr => ?_)
        obtain ⟨nx8, so9, zR10, zF11, zT12⟩ := u
        obtain ⟨rr, rfl, hr⟩ := hr
        unfold p_RM_fitsBound at hr
        subst hr
        have hv := hv nx8 so9 zR10 zF11 zT12
        refine ig_if_eqB (tgt := 83) hx hb (sp_H tX (xT i) n (sp_rn tX tP yF yT) (xF i) 0) rfl d_RM_fitsFirst_76 (by decide) (fun h => ?_) (fun h => ?_)
        · have hv := hv.1 h
          refine ig_iconst (v := 0) hx hb d_RM_fitsFirst_83 (by decide) ?_
          refine ig_goto (tgt := 106) hx hb d_RM_fitsFirst_84 (by decide) ?_
          exact hret 106 _ 0 (nx8, so9, zR10, zF11, zT12, pa1, wF2, wT3) d_RM_fitsFirst_106 ⟨false, rfl, hv⟩
        · have hv := hv.2 h
          refine ig_iconst (v := 1) hx hb d_RM_fitsFirst_79 (by decide) ?_
          refine ig_goto (tgt := 106) hx hb d_RM_fitsFirst_80 (by decide) ?_
          exact hret 106 _ 1 (nx8, so9, zR10, zF11, zT12, pa1, wF2, wT3) d_RM_fitsFirst_106 ⟨true, rfl, hv⟩
  have hv := t_RM_fitsFirst nx so pa tX xF xT xB tP yF yT zR zF wF wT zT i n d hr 
  unfold v_RM_fitsFirst at hv
  refine ig_aload_n hx hb 0 d_RM_fitsFirst_0 rfl rfl ?_
  refine ig_get hx hb hts in_RM hown hK 0 rfl rfl 6 (by decide) (hts _ kw_1_151) (fun _ h => h) rfl d_RM_fitsFirst_1 ?_
  refine ig_iload_n hx hb 1 d_RM_fitsFirst_4 rfl rfl ?_
  obtain ⟨hc, hv⟩ := hv
  refine ig_iald (x := (nI (xB i))) hx hb hK 4 1 rfl rfl i rfl hc (by decide) rfl d_RM_fitsFirst_5 ?_
  refine ig_bipush (v := 8) hx hb d_RM_fitsFirst_6 (by decide) ?_
  refine ig_iandN hx hb (xB i) 8 rfl rfl d_RM_fitsFirst_8 ?_
  refine ig_bipush (v := 8) hx hb d_RM_fitsFirst_9 (by decide) ?_
  obtain ⟨h1, hv⟩ := hv
  refine ig_icmp_eqN (tgt := 30) hx hb ((xB i) &&& 8) 8 rfl rfl d_RM_fitsFirst_11 (by decide) h1 (by decide) (fun h => ?_) (fun h => ?_)
  · have hv := hv.1 h
    refine ig_iconst (v := 0) hx hb d_RM_fitsFirst_30 (by decide) ?_
    exact hret 31 _ 0 (nx, so, zR, zF, zT, pa, wF, wT) d_RM_fitsFirst_31 ⟨false, rfl, hv⟩
  · have hv := hv.2 h
    refine ig_aload_n hx hb 0 d_RM_fitsFirst_14 rfl rfl ?_
    refine ig_get hx hb hts in_RM hown hK 0 rfl rfl 6 (by decide) (hts _ kw_1_151) (fun _ h => h) rfl d_RM_fitsFirst_15 ?_
    refine ig_iload_n hx hb 1 d_RM_fitsFirst_18 rfl rfl ?_
    obtain ⟨hc, hv⟩ := hv
    refine ig_iald (x := (nI (xB i))) hx hb hK 4 1 rfl rfl i rfl hc (by decide) rfl d_RM_fitsFirst_19 ?_
    refine ig_iconst (v := 2) hx hb d_RM_fitsFirst_20 (by decide) ?_
    refine ig_iandN hx hb (xB i) 2 rfl rfl d_RM_fitsFirst_21 ?_
    refine ig_iconst (v := 2) hx hb d_RM_fitsFirst_22 (by decide) ?_
    obtain ⟨h1, hv⟩ := hv
    refine ig_icmp_neN (tgt := 32) hx hb ((xB i) &&& 2) 2 rfl rfl d_RM_fitsFirst_23 (by decide) h1 (by decide) (fun h => ?_) (fun h => ?_)
    · have hv := hv.1 h
      refine ig_lv (lv' := [(0, .ref o0), (1, .int (nI i)), (2, .int (nI n))]) [0, 1, 2] rfl ?_
      exact j32 _ _ _ _ _ _ _ _ hv
    · have hv := hv.2 h
      refine ig_iload_n hx hb 3 d_RM_fitsFirst_26 rfl rfl ?_
      refine ig_if_neB (tgt := 32) hx hb d rfl d_RM_fitsFirst_27 (by decide) (fun h => ?_) (fun h => ?_)
      · have hv := hv.1 h
        refine ig_lv (lv' := [(0, .ref o0), (1, .int (nI i)), (2, .int (nI n))]) [0, 1, 2] rfl ?_
        exact j32 _ _ _ _ _ _ _ _ hv
      · have hv := hv.2 h
        refine ig_iconst (v := 0) hx hb d_RM_fitsFirst_30 (by decide) ?_
        exact hret 31 _ 0 (nx, so, zR, zF, zT, pa, wF, wT) d_RM_fitsFirst_31 ⟨false, rfl, hv⟩
