
theorem d_RM_name_0 : decode b_RM_name 0 = .ok (.aload_n 0, 1) := by decide +kernel
theorem d_RM_name_1 : decode b_RM_name 1 = .ok (.iload_n 1, 1) := by decide +kernel
theorem d_RM_name_2 : decode b_RM_name 2 = .ok (.invokevirtual 131, 3) := by decide +kernel
theorem d_RM_name_5 : decode b_RM_name 5 = .ok (.ifCond .ne 7, 3) := by decide +kernel
theorem d_RM_name_8 : decode b_RM_name 8 = .ok (.iload_n 2, 1) := by decide +kernel
theorem d_RM_name_9 : decode b_RM_name 9 = .ok (.ifCond .ge 7, 3) := by decide +kernel
theorem d_RM_name_12 : decode b_RM_name 12 = .ok (.iconst 1, 1) := by decide +kernel
theorem d_RM_name_13 : decode b_RM_name 13 = .ok (.goto 4, 3) := by decide +kernel
theorem d_RM_name_16 : decode b_RM_name 16 = .ok (.iconst 0, 1) := by decide +kernel
theorem d_RM_name_17 : decode b_RM_name 17 = .ok (.istore 4, 2) := by decide +kernel
theorem d_RM_name_19 : decode b_RM_name 19 = .ok (.iload 4, 2) := by decide +kernel
theorem d_RM_name_21 : decode b_RM_name 21 = .ok (.ifCond .ne 34, 3) := by decide +kernel
theorem d_RM_name_24 : decode b_RM_name 24 = .ok (.aload_n 0, 1) := by decide +kernel
theorem d_RM_name_25 : decode b_RM_name 25 = .ok (.aload_n 0, 1) := by decide +kernel
theorem d_RM_name_26 : decode b_RM_name 26 = .ok (.getfield 16, 3) := by decide +kernel
theorem d_RM_name_29 : decode b_RM_name 29 = .ok (.iload_n 1, 1) := by decide +kernel
theorem d_RM_name_30 : decode b_RM_name 30 = .ok (.iaload, 1) := by decide +kernel
theorem d_RM_name_31 : decode b_RM_name 31 = .ok (.aload_n 0, 1) := by decide +kernel
theorem d_RM_name_32 : decode b_RM_name 32 = .ok (.getfield 19, 3) := by decide +kernel
theorem d_RM_name_35 : decode b_RM_name 35 = .ok (.iload_n 1, 1) := by decide +kernel
theorem d_RM_name_36 : decode b_RM_name 36 = .ok (.iaload, 1) := by decide +kernel
theorem d_RM_name_37 : decode b_RM_name 37 = .ok (.invokevirtual 96, 3) := by decide +kernel
theorem d_RM_name_40 : decode b_RM_name 40 = .ok (.iload_n 2, 1) := by decide +kernel
theorem d_RM_name_41 : decode b_RM_name 41 = .ok (.aload_n 0, 1) := by decide +kernel
theorem d_RM_name_42 : decode b_RM_name 42 = .ok (.getfield 93, 3) := by decide +kernel
theorem d_RM_name_45 : decode b_RM_name 45 = .ok (.if_icmp .lt 7, 3) := by decide +kernel
theorem d_RM_name_48 : decode b_RM_name 48 = .ok (.iconst 1, 1) := by decide +kernel
theorem d_RM_name_49 : decode b_RM_name 49 = .ok (.goto 4, 3) := by decide +kernel
theorem d_RM_name_52 : decode b_RM_name 52 = .ok (.iconst 0, 1) := by decide +kernel
theorem d_RM_name_53 : decode b_RM_name 53 = .ok (.istore 4, 2) := by decide +kernel
theorem d_RM_name_55 : decode b_RM_name 55 = .ok (.aload_n 0, 1) := by decide +kernel
theorem d_RM_name_56 : decode b_RM_name 56 = .ok (.iload 4, 2) := by decide +kernel
theorem d_RM_name_58 : decode b_RM_name 58 = .ok (.ifCond .eq 7, 3) := by decide +kernel
theorem d_RM_name_61 : decode b_RM_name 61 = .ok (.iconst 1, 1) := by decide +kernel
theorem d_RM_name_62 : decode b_RM_name 62 = .ok (.goto 31, 3) := by decide +kernel
theorem d_RM_name_65 : decode b_RM_name 65 = .ok (.aload_n 0, 1) := by decide +kernel
theorem d_RM_name_66 : decode b_RM_name 66 = .ok (.getfield 135, 3) := by decide +kernel
theorem d_RM_name_69 : decode b_RM_name 69 = .ok (.ifCond .ne 7, 3) := by decide +kernel
theorem d_RM_name_72 : decode b_RM_name 72 = .ok (.iconst 2, 1) := by decide +kernel
theorem d_RM_name_73 : decode b_RM_name 73 = .ok (.goto 20, 3) := by decide +kernel
theorem d_RM_name_76 : decode b_RM_name 76 = .ok (.iload_n 3, 1) := by decide +kernel
theorem d_RM_name_77 : decode b_RM_name 77 = .ok (.ifCond .lt 11, 3) := by decide +kernel
theorem d_RM_name_80 : decode b_RM_name 80 = .ok (.iload_n 3, 1) := by decide +kernel
theorem d_RM_name_81 : decode b_RM_name 81 = .ok (.aload_n 0, 1) := by decide +kernel
theorem d_RM_name_82 : decode b_RM_name 82 = .ok (.getfield 135, 3) := by decide +kernel
theorem d_RM_name_85 : decode b_RM_name 85 = .ok (.if_icmp .lt 7, 3) := by decide +kernel
theorem d_RM_name_88 : decode b_RM_name 88 = .ok (.iconst 1, 1) := by decide +kernel
theorem d_RM_name_89 : decode b_RM_name 89 = .ok (.goto 4, 3) := by decide +kernel
theorem d_RM_name_92 : decode b_RM_name 92 = .ok (.iconst 0, 1) := by decide +kernel
theorem d_RM_name_93 : decode b_RM_name 93 = .ok (.putfield 56, 3) := by decide +kernel
theorem d_RM_name_96 : decode b_RM_name 96 = .ok (.aload_n 0, 1) := by decide +kernel
theorem d_RM_name_97 : decode b_RM_name 97 = .ok (.getfield 56, 3) := by decide +kernel
theorem d_RM_name_100 : decode b_RM_name 100 = .ok (.ifCond .ne 36, 3) := by decide +kernel
theorem d_RM_name_103 : decode b_RM_name 103 = .ok (.aload_n 0, 1) := by decide +kernel
theorem d_RM_name_104 : decode b_RM_name 104 = .ok (.iload_n 1, 1) := by decide +kernel
theorem d_RM_name_105 : decode b_RM_name 105 = .ok (.iload_n 2, 1) := by decide +kernel
theorem d_RM_name_106 : decode b_RM_name 106 = .ok (.invokevirtual 151, 3) := by decide +kernel
theorem d_RM_name_109 : decode b_RM_name 109 = .ok (.ifCond .ne 23, 3) := by decide +kernel
theorem d_RM_name_112 : decode b_RM_name 112 = .ok (.aload_n 0, 1) := by decide +kernel
theorem d_RM_name_113 : decode b_RM_name 113 = .ok (.aload_n 0, 1) := by decide +kernel
theorem d_RM_name_114 : decode b_RM_name 114 = .ok (.getfield 44, 3) := by decide +kernel
theorem d_RM_name_117 : decode b_RM_name 117 = .ok (.iload_n 2, 1) := by decide +kernel
theorem d_RM_name_118 : decode b_RM_name 118 = .ok (.iaload, 1) := by decide +kernel
theorem d_RM_name_119 : decode b_RM_name 119 = .ok (.aload_n 0, 1) := by decide +kernel
theorem d_RM_name_120 : decode b_RM_name 120 = .ok (.getfield 47, 3) := by decide +kernel
theorem d_RM_name_123 : decode b_RM_name 123 = .ok (.iload_n 2, 1) := by decide +kernel
theorem d_RM_name_124 : decode b_RM_name 124 = .ok (.iaload, 1) := by decide +kernel
theorem d_RM_name_125 : decode b_RM_name 125 = .ok (.iload_n 3, 1) := by decide +kernel
theorem d_RM_name_126 : decode b_RM_name 126 = .ok (.invokevirtual 154, 3) := by decide +kernel
theorem d_RM_name_129 : decode b_RM_name 129 = .ok (.ifCond .eq 7, 3) := by decide +kernel
theorem d_RM_name_132 : decode b_RM_name 132 = .ok (.iconst 1, 1) := by decide +kernel
theorem d_RM_name_133 : decode b_RM_name 133 = .ok (.goto 4, 3) := by decide +kernel
theorem d_RM_name_136 : decode b_RM_name 136 = .ok (.iconst 0, 1) := by decide +kernel
theorem d_RM_name_137 : decode b_RM_name 137 = .ok (.ireturn, 1) := by decide +kernel
abbrev w_RM_name : List Cond := Cond.code y_RM_name b_RM_name 5 (some .boolean) :: ig_T
theorem g_RM_name : GoodIn ig_T w_RM_name := ig_T_good (ig_T_mem (List.mem_append_right _ (List.mem_append_right _ (List.mem_of_getElem? (i := 132) rfl))) rfl)
set_option maxHeartbeats 4000000 in
set_option maxRecDepth 100000 in
theorem c_RM_name (l : Launch) (dC : Nat → ClassId) (dI : Nat → Nat → Nat) (cC cI cZ cL : ClassId) (o0 ra rx rf rt rb rl rp ru_ rv rr rs rg rh rz ry : Nat) (si : Int32) (bz : Int32) (de : Int32) (dp : Int32) (io : Int32) (th : Nat) (ru : Nat) (na : Nat) (nx : Nat) (so : Nat) (pa : Nat) (tX : Nat → Int32) (xF : Nat → Nat) (xT : Nat → Nat) (xB : Nat → Nat) (tP : Nat → Int32) (yF : Nat → Nat) (yT : Nat → Nat) (zR : Nat → Bool) (zF : Nat → Bool) (wF : Nat → Nat) (wT : Nat → Nat) (x : Int32) (y : Int32) (z : Int32) (sz : Nat) (hr : r_RM_name th ru na nx so pa tX xF xT xB tP yF yT zR zF wF wT x y z) : Met l y_RM_name w_RM_name ({ frames := 5, cells := 0, slots := 0, locals := 117 }) (ig_Pc (dC, dI) ig_cl0 [(cC, .char), (cI, .int), (cZ, .boolean), (cL, .long)] [.ref o0, .int x, .int y, .int z] [(o0, .inr (ciRM, [.int (nI th), .ref ra, .int si, .ref rx, .ref rf, .ref rt, .ref rb, .ref rl, .int (nI ru), .ref rp, .ref ru_, .ref rv, .int (nI na), .int (nI nx), .int (nI so), .ref rr, .ref rs, .ref rg, .ref rh, .int (nI pa), .ref rz, .ref ry, .int bz, .int de, .int dp, .int io])), (rx, .inl (cI, 1000, .inl tX)), (rf, .inl (cI, 60, .inl (fun zj => nI (xF zj)))), (rt, .inl (cI, 60, .inl (fun zj => nI (xT zj)))), (rb, .inl (cI, 60, .inl (fun zj => nI (xB zj)))), (rp, .inl (cI, 120, .inl tP)), (ru_, .inl (cI, 20, .inl (fun zj => nI (yF zj)))), (rv, .inl (cI, 20, .inl (fun zj => nI (yT zj)))), (rr, .inl (cZ, 1001, .inl (fun zj => bI (zR zj)))), (rs, .inl (cZ, 1001, .inl (fun zj => bI (zF zj)))), (rg, .inl (cI, 1001, .inl (fun zj => nI (wF zj)))), (rh, .inl (cI, 1001, .inl (fun zj => nI (wT zj))))] sz) (va_Qi (fun (r : Int32) (u : Nat × Nat × Nat × (Nat → Bool) × (Nat → Bool) × Nat × (Nat → Nat) × (Nat → Nat)) => ∃ zr : Bool, r = bI zr ∧ p_RM_name th ru na nx so pa tX xF xT xB tP yF yT zR zF wF wT x y z zr u.1 u.2.1 u.2.2.1 u.2.2.2.1 u.2.2.2.2.1 u.2.2.2.2.2.1 u.2.2.2.2.2.2.1 u.2.2.2.2.2.2.2) (fun u t => va_P (dC, dI) ig_cl0 ((fun (u : Nat × Nat × Nat × (Nat → Bool) × (Nat → Bool) × Nat × (Nat → Nat) × (Nat → Nat)) => [(o0, .inr (ciRM, [.int (nI u.1), .ref ra, .int si, .ref rx, .ref rf, .ref rt, .ref rb, .ref rl, .int (nI ru), .ref rp, .ref ru_, .ref rv, .int (nI na), .int (nI u.2.1), .int (nI u.2.2.1), .ref rr, .ref rs, .ref rg, .ref rh, .int (nI u.2.2.2.2.2.1), .ref rz, .ref ry, .int bz, .int de, .int dp, .int io])), (rx, .inl (cI, 1000, .inl tX)), (rf, .inl (cI, 60, .inl (fun zj => nI (xF zj)))), (rt, .inl (cI, 60, .inl (fun zj => nI (xT zj)))), (rb, .inl (cI, 60, .inl (fun zj => nI (xB zj)))), (rp, .inl (cI, 120, .inl tP)), (ru_, .inl (cI, 20, .inl (fun zj => nI (yF zj)))), (rv, .inl (cI, 20, .inl (fun zj => nI (yT zj)))), (rr, .inl (cZ, 1001, .inl (fun zj => bI (u.2.2.2.1 zj)))), (rs, .inl (cZ, 1001, .inl (fun zj => bI (u.2.2.2.2.1 zj)))), (rg, .inl (cI, 1001, .inl (fun zj => nI (u.2.2.2.2.2.2.1 zj)))), (rh, .inl (cI, 1001, .inl (fun zj => nI (u.2.2.2.2.2.2.2 zj))))]) u) t.heap ∧ va_D (va_A [(o0, .inr (ciRM, [.int (nI th), .ref ra, .int si, .ref rx, .ref rf, .ref rt, .ref rb, .ref rl, .int (nI ru), .ref rp, .ref ru_, .ref rv, .int (nI na), .int (nI nx), .int (nI so), .ref rr, .ref rs, .ref rg, .ref rh, .int (nI pa), .ref rz, .ref ry, .int bz, .int de, .int dp, .int io])), (rx, .inl (cI, 1000, .inl tX)), (rf, .inl (cI, 60, .inl (fun zj => nI (xF zj)))), (rt, .inl (cI, 60, .inl (fun zj => nI (xT zj)))), (rb, .inl (cI, 60, .inl (fun zj => nI (xB zj)))), (rp, .inl (cI, 120, .inl tP)), (ru_, .inl (cI, 20, .inl (fun zj => nI (yF zj)))), (rv, .inl (cI, 20, .inl (fun zj => nI (yT zj)))), (rr, .inl (cZ, 1001, .inl (fun zj => bI (zR zj)))), (rs, .inl (cZ, 1001, .inl (fun zj => bI (zF zj)))), (rg, .inl (cI, 1001, .inl (fun zj => nI (wF zj)))), (rh, .inl (cI, 1001, .inl (fun zj => nI (wT zj))))] sz) ((fun (u : Nat × Nat × Nat × (Nat → Bool) × (Nat → Bool) × Nat × (Nat → Nat) × (Nat → Nat)) => [(o0, .inr (ciRM, [.int (nI u.1), .ref ra, .int si, .ref rx, .ref rf, .ref rt, .ref rb, .ref rl, .int (nI ru), .ref rp, .ref ru_, .ref rv, .int (nI na), .int (nI u.2.1), .int (nI u.2.2.1), .ref rr, .ref rs, .ref rg, .ref rh, .int (nI u.2.2.2.2.2.1), .ref rz, .ref ry, .int bz, .int de, .int dp, .int io])), (rx, .inl (cI, 1000, .inl tX)), (rf, .inl (cI, 60, .inl (fun zj => nI (xF zj)))), (rt, .inl (cI, 60, .inl (fun zj => nI (xT zj)))), (rb, .inl (cI, 60, .inl (fun zj => nI (xB zj)))), (rp, .inl (cI, 120, .inl tP)), (ru_, .inl (cI, 20, .inl (fun zj => nI (yF zj)))), (rv, .inl (cI, 20, .inl (fun zj => nI (yT zj)))), (rr, .inl (cZ, 1001, .inl (fun zj => bI (u.2.2.2.1 zj)))), (rs, .inl (cZ, 1001, .inl (fun zj => bI (u.2.2.2.2.1 zj)))), (rg, .inl (cI, 1001, .inl (fun zj => nI (u.2.2.2.2.2.2.1 zj)))), (rh, .inl (cI, 1001, .inl (fun zj => nI (u.2.2.2.2.2.2.2 zj))))]) u)) (va_A [(o0, .inr (ciRM, [.int (nI th), .ref ra, .int si, .ref rx, .ref rf, .ref rt, .ref rb, .ref rl, .int (nI ru), .ref rp, .ref ru_, .ref rv, .int (nI na), .int (nI nx), .int (nI so), .ref rr, .ref rs, .ref rg, .ref rh, .int (nI pa), .ref rz, .ref ry, .int bz, .int de, .int dp, .int io])), (rx, .inl (cI, 1000, .inl tX)), (rf, .inl (cI, 60, .inl (fun zj => nI (xF zj)))), (rt, .inl (cI, 60, .inl (fun zj => nI (xT zj)))), (rb, .inl (cI, 60, .inl (fun zj => nI (xB zj)))), (rp, .inl (cI, 120, .inl tP)), (ru_, .inl (cI, 20, .inl (fun zj => nI (yF zj)))), (rv, .inl (cI, 20, .inl (fun zj => nI (yT zj)))), (rr, .inl (cZ, 1001, .inl (fun zj => bI (zR zj)))), (rs, .inl (cZ, 1001, .inl (fun zj => bI (zF zj)))), (rg, .inl (cI, 1001, .inl (fun zj => nI (wF zj)))), (rh, .inl (cI, 1001, .inl (fun zj => nI (wT zj))))] sz)) 0 0 (va_A [(o0, .inr (ciRM, [.int (nI th), .ref ra, .int si, .ref rx, .ref rf, .ref rt, .ref rb, .ref rl, .int (nI ru), .ref rp, .ref ru_, .ref rv, .int (nI na), .int (nI nx), .int (nI so), .ref rr, .ref rs, .ref rg, .ref rh, .int (nI pa), .ref rz, .ref ry, .int bz, .int de, .int dp, .int io])), (rx, .inl (cI, 1000, .inl tX)), (rf, .inl (cI, 60, .inl (fun zj => nI (xF zj)))), (rt, .inl (cI, 60, .inl (fun zj => nI (xT zj)))), (rb, .inl (cI, 60, .inl (fun zj => nI (xB zj)))), (rp, .inl (cI, 120, .inl tP)), (ru_, .inl (cI, 20, .inl (fun zj => nI (yF zj)))), (rv, .inl (cI, 20, .inl (fun zj => nI (yT zj)))), (rr, .inl (cZ, 1001, .inl (fun zj => bI (zR zj)))), (rs, .inl (cZ, 1001, .inl (fun zj => bI (zF zj)))), (rg, .inl (cI, 1001, .inl (fun zj => nI (wF zj)))), (rh, .inl (cI, 1001, .inl (fun zj => nI (wT zj))))] sz) := by
  refine ig_metI (fun (r : Int32) (u : Nat × Nat × Nat × (Nat → Bool) × (Nat → Bool) × Nat × (Nat → Nat) × (Nat → Nat)) => ∃ zr : Bool, r = bI zr ∧ p_RM_name th ru na nx so pa tX xF xT xB tP yF yT zR zF wF wT x y z zr u.1 u.2.1 u.2.2.1 u.2.2.2.1 u.2.2.2.2.1 u.2.2.2.2.2.1 u.2.2.2.2.2.2.1 u.2.2.2.2.2.2.2) (fun (u : Nat × Nat × Nat × (Nat → Bool) × (Nat → Bool) × Nat × (Nat → Nat) × (Nat → Nat)) => [(o0, .inr (ciRM, [.int (nI u.1), .ref ra, .int si, .ref rx, .ref rf, .ref rt, .ref rb, .ref rl, .int (nI ru), .ref rp, .ref ru_, .ref rv, .int (nI na), .int (nI u.2.1), .int (nI u.2.2.1), .ref rr, .ref rs, .ref rg, .ref rh, .int (nI u.2.2.2.2.2.1), .ref rz, .ref ry, .int bz, .int de, .int dp, .int io])), (rx, .inl (cI, 1000, .inl tX)), (rf, .inl (cI, 60, .inl (fun zj => nI (xF zj)))), (rt, .inl (cI, 60, .inl (fun zj => nI (xT zj)))), (rb, .inl (cI, 60, .inl (fun zj => nI (xB zj)))), (rp, .inl (cI, 120, .inl tP)), (ru_, .inl (cI, 20, .inl (fun zj => nI (yF zj)))), (rv, .inl (cI, 20, .inl (fun zj => nI (yT zj)))), (rr, .inl (cZ, 1001, .inl (fun zj => bI (u.2.2.2.1 zj)))), (rs, .inl (cZ, 1001, .inl (fun zj => bI (u.2.2.2.2.1 zj)))), (rg, .inl (cI, 1001, .inl (fun zj => nI (u.2.2.2.2.2.2.1 zj)))), (rh, .inl (cI, 1001, .inl (fun zj => nI (u.2.2.2.2.2.2.2 zj))))]) (by decide) rfl (Nat.le_of_ble_eq_true rfl) rfl (by rintro r u ⟨b, rfl, -⟩; exact bI_ret b) ?_
  intro zp ze zs zm zargs zbelow zmeth zc zA zQ hx hb hml hown hts hK hN hA hret
  have j93 : ∀ (s0 : Nat) (thc : Nat) (nxc : Nat) (soc : Nat) (pac : Nat) (zRc : Nat → Bool) (zFc : Nat → Bool) (wFc : Nat → Nat) (wTc : Nat → Nat), v_RM_name_93 th ru na nx so pa tX xF xT xB tP yF yT zR zF wF wT x y z (p_RM_name th ru na nx so pa tX xF xT xB tP yF yT zR zF wF wT x y z) s0 thc nxc soc pac zRc zFc wFc wTc → ig_W zp l ze ({ frames := 5, cells := 0, slots := 0, locals := 117 }) zs zm zargs zbelow zmeth zc (dC, dI) ig_cl0 zA zs.heap 5 0 0 zQ 93 [(0, .ref o0), (1, .int x), (2, .int y), (3, .int z)] [.int (nI s0), .ref o0] [(o0, .inr (ciRM, [.int (nI thc), .ref ra, .int si, .ref rx, .ref rf, .ref rt, .ref rb, .ref rl, .int (nI ru), .ref rp, .ref ru_, .ref rv, .int (nI na), .int (nI nxc), .int (nI soc), .ref rr, .ref rs, .ref rg, .ref rh, .int (nI pac), .ref rz, .ref ry, .int bz, .int de, .int dp, .int io])), (rx, .inl (cI, 1000, .inl tX)), (rf, .inl (cI, 60, .inl (fun zj => nI (xF zj)))), (rt, .inl (cI, 60, .inl (fun zj => nI (xT zj)))), (rb, .inl (cI, 60, .inl (fun zj => nI (xB zj)))), (rp, .inl (cI, 120, .inl tP)), (ru_, .inl (cI, 20, .inl (fun zj => nI (yF zj)))), (rv, .inl (cI, 20, .inl (fun zj => nI (yT zj)))), (rr, .inl (cZ, 1001, .inl (fun zj => bI (zRc zj)))), (rs, .inl (cZ, 1001, .inl (fun zj => bI (zFc zj)))), (rg, .inl (cI, 1001, .inl (fun zj => nI (wFc zj)))), (rh, .inl (cI, 1001, .inl (fun zj => nI (wTc zj))))] := by
    intro s0 thc nxc soc pac zRc zFc wFc wTc hv
    unfold v_RM_name_93 at hv
    refine ig_put (ty := .int) (v := .int (nI s0)) (ws' := [(o0, .inr (ciRM, [.int (nI s0), .ref ra, .int si, .ref rx, .ref rf, .ref rt, .ref rb, .ref rl, .int (nI ru), .ref rp, .ref ru_, .ref rv, .int (nI na), .int (nI nxc), .int (nI soc), .ref rr, .ref rs, .ref rg, .ref rh, .int (nI pac), .ref rz, .ref ry, .int bz, .int de, .int dp, .int io])), (rx, .inl (cI, 1000, .inl tX)), (rf, .inl (cI, 60, .inl (fun zj => nI (xF zj)))), (rt, .inl (cI, 60, .inl (fun zj => nI (xT zj)))), (rb, .inl (cI, 60, .inl (fun zj => nI (xB zj)))), (rp, .inl (cI, 120, .inl tP)), (ru_, .inl (cI, 20, .inl (fun zj => nI (yF zj)))), (rv, .inl (cI, 20, .inl (fun zj => nI (yT zj)))), (rr, .inl (cZ, 1001, .inl (fun zj => bI (zRc zj)))), (rs, .inl (cZ, 1001, .inl (fun zj => bI (zFc zj)))), (rg, .inl (cI, 1001, .inl (fun zj => nI (wFc zj)))), (rh, .inl (cI, 1001, .inl (fun zj => nI (wTc zj))))]) hx hb hts in_RM t_RM t_RM_ok n_RM hown hK 0 rfl rfl 0 (by decide) (hts _ kw_1_145) (fun _ h => h) rfl (by decide +kernel) rfl rfl (Nat.le_of_ble_eq_true rfl) d_RM_name_93 rfl ?_
    refine ig_aload_n hx hb 0 d_RM_name_96 rfl rfl ?_
    refine ig_get hx hb hts in_RM hown hK 0 rfl rfl 0 (by decide) (hts _ kw_1_145) (fun _ h => h) rfl d_RM_name_97 ?_
    obtain ⟨h1, hv⟩ := hv
    refine ig_if_neN (tgt := 136) hx hb s0 rfl d_RM_name_100 (by decide) h1 (fun h => ?_) (fun h => ?_)
    · have hv := hv.1 h
      refine ig_iconst (v := 0) hx hb d_RM_name_136 (by decide) ?_
      exact hret 137 _ 0 (s0, nxc, soc, zRc, zFc, pac, wFc, wTc) d_RM_name_137 ⟨false, rfl, hv⟩
    · have hv := hv.2 h
      refine ig_aload_n hx hb 0 d_RM_name_103 rfl rfl ?_
      refine ig_iload_n hx hb 1 d_RM_name_104 rfl rfl ?_
      refine ig_iload_n hx hb 2 d_RM_name_105 rfl rfl ?_
      obtain ⟨p6, he_p6, hv⟩ := hv
      rw [he_p6]
      obtain ⟨i7, he_i7, hv⟩ := hv
      rw [he_i7]
      obtain ⟨hc, hv⟩ := hv
      refine ig_cVi (As := [.int (nI i7), .int (nI p6)]) (rest := []) (wr := [(rf, .inl (cI, 60, .inl (fun zj => nI (xF zj)))), (rt, .inl (cI, 60, .inl (fun zj => nI (xT zj)))), (rp, .inl (cI, 120, .inl tP)), (ru_, .inl (cI, 20, .inl (fun zj => nI (yF zj)))), (rv, .inl (cI, 20, .inl (fun zj => nI (yT zj)))), (rr, .inl (cZ, 1001, .inl (fun zj => bI (zRc zj)))), (rs, .inl (cZ, 1001, .inl (fun zj => bI (zFc zj))))]) (ws' := fun u => [(o0, .inr (ciRM, [.int (nI s0), .ref ra, .int si, .ref rx, .ref rf, .ref rt, .ref rb, .ref rl, .int (nI ru), .ref rp, .ref ru_, .ref rv, .int (nI na), .int (nI nxc), .int (nI soc), .ref rr, .ref rs, .ref rg, .ref rh, .int (nI pac), .ref rz, .ref ry, .int bz, .int de, .int dp, .int io])), (rx, .inl (cI, 1000, .inl tX)), (rf, .inl (cI, 60, .inl (fun zj => nI (xF zj)))), (rt, .inl (cI, 60, .inl (fun zj => nI (xT zj)))), (rb, .inl (cI, 60, .inl (fun zj => nI (xB zj)))), (rp, .inl (cI, 120, .inl tP)), (ru_, .inl (cI, 20, .inl (fun zj => nI (yF zj)))), (rv, .inl (cI, 20, .inl (fun zj => nI (yT zj)))), (rr, .inl (cZ, 1001, .inl (fun zj => bI (zRc zj)))), (rs, .inl (cZ, 1001, .inl (fun zj => bI (zFc zj)))), (rg, .inl (cI, 1001, .inl (fun zj => nI (wFc zj)))), (rh, .inl (cI, 1001, .inl (fun zj => nI (wTc zj))))]) hx hb hml hown hts hK hN hA (fun sz => c_RM_isDeep l dC dI cC cI cZ cL o0 ra rx rf rt rb rl rp ru_ rv rr rs rg rh rz ry (nI s0) si (nI ru) (nI na) (nI nxc) (nI soc) (nI pac) bz de dp io tX xB wFc wTc i7 p6 sz hc) ⟨callB_of 2 hts g_RM_isDeep rfl rfl rfl (hts _ kw_0_5) (hts _ kw_2_81) (by decide +kernel) (by decide), (hts _ kw_2_83), (hts _ ks_RM_isDeep)⟩ rfl rfl (Nat.le_of_ble_eq_true rfl) d_RM_name_106 (by decide) 0 rfl rfl [0, 1, 4, 10, 11] [2, 3, 5, 6, 7, 8, 9] [7, 8, 0, 1, 9, 2, 3, 4, 5, 6, 10, 11] rfl rfl (by decide) (by decide) (by decide) (fun _ => rfl) (fun _ => rfl) (fun r u hr => ?_)
      obtain ⟨rr, rfl, hr⟩ := hr
      unfold p_RM_isDeep at hr
      subst hr
      refine ig_if_neB (tgt := 132) hx hb (decide (xB i7 &&& 4 = 4) && sp_deep tX (wFc p6) (wTc p6)) rfl d_RM_name_109 (by decide) (fun h => ?_) (fun h => ?_)
      · have hv := hv.1 h
        refine ig_iconst (v := 1) hx hb d_RM_name_132 (by decide) ?_
        refine ig_goto (tgt := 137) hx hb d_RM_name_133 (by decide) ?_
        exact hret 137 _ 1 (s0, nxc, soc, zRc, zFc, pac, wFc, wTc) d_RM_name_137 ⟨true, rfl, hv⟩
      · have hv := hv.2 h
        refine ig_aload_n hx hb 0 d_RM_name_112 rfl rfl ?_
        refine ig_aload_n hx hb 0 d_RM_name_113 rfl rfl ?_
        refine ig_get hx hb hts in_RM hown hK 0 rfl rfl 17 (by decide) (hts _ kw_1_162) (fun _ h => h) rfl d_RM_name_114 ?_
        refine ig_iload_n hx hb 2 d_RM_name_117 rfl rfl ?_
        obtain ⟨hc, hv⟩ := hv
        refine ig_iald (x := (nI (wFc p6))) hx hb hK 10 1 rfl rfl p6 rfl hc (by decide) rfl d_RM_name_118 ?_
        refine ig_aload_n hx hb 0 d_RM_name_119 rfl rfl ?_
        refine ig_get hx hb hts in_RM hown hK 0 rfl rfl 18 (by decide) (hts _ kw_1_163) (fun _ h => h) rfl d_RM_name_120 ?_
        refine ig_iload_n hx hb 2 d_RM_name_123 rfl rfl ?_
        obtain ⟨hc, hv⟩ := hv
        refine ig_iald (x := (nI (wTc p6))) hx hb hK 11 1 rfl rfl p6 rfl hc (by decide) rfl d_RM_name_124 ?_
        refine ig_iload_n hx hb 3 d_RM_name_125 rfl rfl ?_
        obtain ⟨j10, he_j10, hv⟩ := hv
        rw [he_j10]
        obtain ⟨hc, hv⟩ := hv
        refine ig_cVi (As := [.int (nI (wFc p6)), .int (nI (wTc p6)), .int (nI j10)]) (rest := []) (wr := [(rf, .inl (cI, 60, .inl (fun zj => nI (xF zj)))), (rt, .inl (cI, 60, .inl (fun zj => nI (xT zj)))), (rb, .inl (cI, 60, .inl (fun zj => nI (xB zj)))), (rg, .inl (cI, 1001, .inl (fun zj => nI (wFc zj)))), (rh, .inl (cI, 1001, .inl (fun zj => nI (wTc zj))))]) (ws' := fun u => [(o0, .inr (ciRM, [.int (nI s0), .ref ra, .int si, .ref rx, .ref rf, .ref rt, .ref rb, .ref rl, .int (nI ru), .ref rp, .ref ru_, .ref rv, .int (nI na), .int (nI u.1), .int (nI u.2.1), .ref rr, .ref rs, .ref rg, .ref rh, .int (nI pac), .ref rz, .ref ry, .int bz, .int de, .int dp, .int io])), (rx, .inl (cI, 1000, .inl tX)), (rf, .inl (cI, 60, .inl (fun zj => nI (xF zj)))), (rt, .inl (cI, 60, .inl (fun zj => nI (xT zj)))), (rb, .inl (cI, 60, .inl (fun zj => nI (xB zj)))), (rp, .inl (cI, 120, .inl tP)), (ru_, .inl (cI, 20, .inl (fun zj => nI (yF zj)))), (rv, .inl (cI, 20, .inl (fun zj => nI (yT zj)))), (rr, .inl (cZ, 1001, .inl (fun zj => bI (u.2.2.1 zj)))), (rs, .inl (cZ, 1001, .inl (fun zj => bI (u.2.2.2 zj)))), (rg, .inl (cI, 1001, .inl (fun zj => nI (wFc zj)))), (rh, .inl (cI, 1001, .inl (fun zj => nI (wTc zj))))]) hx hb hml hown hts hK hN hA (fun sz => c_RM_fitsName l dC dI cC cI cZ cL o0 ra rx rf rt rb rl rp ru_ rv rr rs rg rh rz ry (nI s0) si (nI ru) (nI na) (nI pac) bz de dp io nxc soc tX tP yF yT zRc zFc (wFc p6) (wTc p6) j10 sz hc) ⟨callB_of 3 hts g_RM_fitsName rfl rfl rfl (hts _ kw_0_5) (hts _ kw_2_85) (by decide +kernel) (by decide), (hts _ kw_2_87), (hts _ ks_RM_fitsName)⟩ rfl rfl (Nat.le_of_ble_eq_true rfl) d_RM_name_126 (by decide) 0 rfl rfl [0, 1, 5, 6, 7, 8, 9] [2, 3, 4, 10, 11] [5, 6, 0, 1, 2, 7, 8, 9, 10, 11, 3, 4] rfl rfl (by decide) (by decide) (by decide) (fun _ => rfl) (fun _ => rfl) (fun r u hr => ?_)
        obtain ⟨nx11, so12, zR13, zF14⟩ := u
        obtain ⟨rr, rfl, hr⟩ := hr
        unfold p_RM_fitsName at hr
        subst hr
        have hv := hv nx11 so12 zR13 zF14
        refine ig_if_eqB (tgt := 136) hx hb (sp_rn tX tP yF yT (wFc p6) (wTc p6) j10) rfl d_RM_name_129 (by decide) (fun h => ?_) (fun h => ?_)
        · have hv := hv.1 h
          refine ig_iconst (v := 0) hx hb d_RM_name_136 (by decide) ?_
          exact hret 137 _ 0 (s0, nx11, so12, zR13, zF14, pac, wFc, wTc) d_RM_name_137 ⟨false, rfl, hv⟩
        · have hv := hv.2 h
          refine ig_iconst (v := 1) hx hb d_RM_name_132 (by decide) ?_
          refine ig_goto (tgt := 137) hx hb d_RM_name_133 (by decide) ?_
          exact hret 137 _ 1 (s0, nx11, so12, zR13, zF14, pac, wFc, wTc) d_RM_name_137 ⟨true, rfl, hv⟩
  have j88 : ∀ (thc : Nat) (nxc : Nat) (soc : Nat) (pac : Nat) (zRc : Nat → Bool) (zFc : Nat → Bool) (wFc : Nat → Nat) (wTc : Nat → Nat), v_RM_name_88 th ru na nx so pa tX xF xT xB tP yF yT zR zF wF wT x y z (p_RM_name th ru na nx so pa tX xF xT xB tP yF yT zR zF wF wT x y z) thc nxc soc pac zRc zFc wFc wTc → ig_W zp l ze ({ frames := 5, cells := 0, slots := 0, locals := 117 }) zs zm zargs zbelow zmeth zc (dC, dI) ig_cl0 zA zs.heap 5 0 0 zQ 88 [(0, .ref o0), (1, .int x), (2, .int y), (3, .int z)] [.ref o0] [(o0, .inr (ciRM, [.int (nI thc), .ref ra, .int si, .ref rx, .ref rf, .ref rt, .ref rb, .ref rl, .int (nI ru), .ref rp, .ref ru_, .ref rv, .int (nI na), .int (nI nxc), .int (nI soc), .ref rr, .ref rs, .ref rg, .ref rh, .int (nI pac), .ref rz, .ref ry, .int bz, .int de, .int dp, .int io])), (rx, .inl (cI, 1000, .inl tX)), (rf, .inl (cI, 60, .inl (fun zj => nI (xF zj)))), (rt, .inl (cI, 60, .inl (fun zj => nI (xT zj)))), (rb, .inl (cI, 60, .inl (fun zj => nI (xB zj)))), (rp, .inl (cI, 120, .inl tP)), (ru_, .inl (cI, 20, .inl (fun zj => nI (yF zj)))), (rv, .inl (cI, 20, .inl (fun zj => nI (yT zj)))), (rr, .inl (cZ, 1001, .inl (fun zj => bI (zRc zj)))), (rs, .inl (cZ, 1001, .inl (fun zj => bI (zFc zj)))), (rg, .inl (cI, 1001, .inl (fun zj => nI (wFc zj)))), (rh, .inl (cI, 1001, .inl (fun zj => nI (wTc zj))))] := by
    intro thc nxc soc pac zRc zFc wFc wTc hv
    unfold v_RM_name_88 at hv
    refine ig_iconst (v := 1) hx hb d_RM_name_88 (by decide) ?_
    refine ig_goto (tgt := 93) hx hb d_RM_name_89 (by decide) ?_
    refine ig_lv (lv' := [(0, .ref o0), (1, .int x), (2, .int y), (3, .int z)]) [0, 1, 2, 3] rfl ?_
    exact j93 _ _ _ _ _ _ _ _ _ hv
  have j55 : ∀ (b : Nat) (thc : Nat) (nxc : Nat) (soc : Nat) (pac : Nat) (zRc : Nat → Bool) (zFc : Nat → Bool) (wFc : Nat → Nat) (wTc : Nat → Nat), v_RM_name_55 th ru na nx so pa tX xF xT xB tP yF yT zR zF wF wT x y z (p_RM_name th ru na nx so pa tX xF xT xB tP yF yT zR zF wF wT x y z) b thc nxc soc pac zRc zFc wFc wTc → ig_W zp l ze ({ frames := 5, cells := 0, slots := 0, locals := 117 }) zs zm zargs zbelow zmeth zc (dC, dI) ig_cl0 zA zs.heap 5 0 0 zQ 55 [(0, .ref o0), (1, .int x), (2, .int y), (3, .int z), (4, .int (nI b))] [] [(o0, .inr (ciRM, [.int (nI thc), .ref ra, .int si, .ref rx, .ref rf, .ref rt, .ref rb, .ref rl, .int (nI ru), .ref rp, .ref ru_, .ref rv, .int (nI na), .int (nI nxc), .int (nI soc), .ref rr, .ref rs, .ref rg, .ref rh, .int (nI pac), .ref rz, .ref ry, .int bz, .int de, .int dp, .int io])), (rx, .inl (cI, 1000, .inl tX)), (rf, .inl (cI, 60, .inl (fun zj => nI (xF zj)))), (rt, .inl (cI, 60, .inl (fun zj => nI (xT zj)))), (rb, .inl (cI, 60, .inl (fun zj => nI (xB zj)))), (rp, .inl (cI, 120, .inl tP)), (ru_, .inl (cI, 20, .inl (fun zj => nI (yF zj)))), (rv, .inl (cI, 20, .inl (fun zj => nI (yT zj)))), (rr, .inl (cZ, 1001, .inl (fun zj => bI (zRc zj)))), (rs, .inl (cZ, 1001, .inl (fun zj => bI (zFc zj)))), (rg, .inl (cI, 1001, .inl (fun zj => nI (wFc zj)))), (rh, .inl (cI, 1001, .inl (fun zj => nI (wTc zj))))] := by
    intro b thc nxc soc pac zRc zFc wFc wTc hv
    unfold v_RM_name_55 at hv
    refine ig_aload_n hx hb 0 d_RM_name_55 rfl rfl ?_
    refine ig_iload hx hb 4 d_RM_name_56 rfl ?_
    obtain ⟨h1, hv⟩ := hv
    refine ig_if_eqN (tgt := 65) hx hb b rfl d_RM_name_58 (by decide) h1 (fun h => ?_) (fun h => ?_)
    · have hv := hv.1 h
      refine ig_aload_n hx hb 0 d_RM_name_65 rfl rfl ?_
      refine ig_get hx hb hts in_RM hown hK 0 rfl rfl 12 (by decide) (hts _ kw_1_157) (fun _ h => h) rfl d_RM_name_66 ?_
      obtain ⟨h1, hv⟩ := hv
      refine ig_if_neN (tgt := 76) hx hb na rfl d_RM_name_69 (by decide) h1 (fun h => ?_) (fun h => ?_)
      · have hv := hv.1 h
        refine ig_iload_n hx hb 3 d_RM_name_76 rfl rfl ?_
        refine ig_if_lt (tgt := 88) hx hb d_RM_name_77 (by decide) (fun h => ?_) (fun h => ?_)
        · have hv := hv.1 h
          refine ig_lv (lv' := [(0, .ref o0), (1, .int x), (2, .int y), (3, .int z)]) [0, 1, 2, 3] rfl ?_
          exact j88 _ _ _ _ _ _ _ _ hv
        · have hv := hv.2 h
          refine ig_iload_n hx hb 3 d_RM_name_80 rfl rfl ?_
          refine ig_aload_n hx hb 0 d_RM_name_81 rfl rfl ?_
          refine ig_get hx hb hts in_RM hown hK 0 rfl rfl 12 (by decide) (hts _ kw_1_157) (fun _ h => h) rfl d_RM_name_82 ?_
          refine ig_icmp_lt (tgt := 92) hx hb d_RM_name_85 (by decide) (fun h => ?_) (fun h => ?_)
          · have hv := hv.1 h
            refine ig_iconst (v := 0) hx hb d_RM_name_92 (by decide) ?_
            refine ig_lv (lv' := [(0, .ref o0), (1, .int x), (2, .int y), (3, .int z)]) [0, 1, 2, 3] rfl ?_
            exact j93 _ _ _ _ _ _ _ _ _ hv
          · have hv := hv.2 h
            refine ig_lv (lv' := [(0, .ref o0), (1, .int x), (2, .int y), (3, .int z)]) [0, 1, 2, 3] rfl ?_
            exact j88 _ _ _ _ _ _ _ _ hv
      · have hv := hv.2 h
        refine ig_iconst (v := 2) hx hb d_RM_name_72 (by decide) ?_
        refine ig_goto (tgt := 93) hx hb d_RM_name_73 (by decide) ?_
        refine ig_lv (lv' := [(0, .ref o0), (1, .int x), (2, .int y), (3, .int z)]) [0, 1, 2, 3] rfl ?_
        exact j93 _ _ _ _ _ _ _ _ _ hv
    · have hv := hv.2 h
      refine ig_iconst (v := 1) hx hb d_RM_name_61 (by decide) ?_
      refine ig_goto (tgt := 93) hx hb d_RM_name_62 (by decide) ?_
      refine ig_lv (lv' := [(0, .ref o0), (1, .int x), (2, .int y), (3, .int z)]) [0, 1, 2, 3] rfl ?_
      exact j93 _ _ _ _ _ _ _ _ _ hv
  have j53 : ∀ (s0 : Nat) (thc : Nat) (nxc : Nat) (soc : Nat) (pac : Nat) (zRc : Nat → Bool) (zFc : Nat → Bool) (wFc : Nat → Nat) (wTc : Nat → Nat), v_RM_name_53 th ru na nx so pa tX xF xT xB tP yF yT zR zF wF wT x y z (p_RM_name th ru na nx so pa tX xF xT xB tP yF yT zR zF wF wT x y z) s0 thc nxc soc pac zRc zFc wFc wTc → ig_W zp l ze ({ frames := 5, cells := 0, slots := 0, locals := 117 }) zs zm zargs zbelow zmeth zc (dC, dI) ig_cl0 zA zs.heap 5 0 0 zQ 53 [(0, .ref o0), (1, .int x), (2, .int y), (3, .int z)] [.int (nI s0)] [(o0, .inr (ciRM, [.int (nI thc), .ref ra, .int si, .ref rx, .ref rf, .ref rt, .ref rb, .ref rl, .int (nI ru), .ref rp, .ref ru_, .ref rv, .int (nI na), .int (nI nxc), .int (nI soc), .ref rr, .ref rs, .ref rg, .ref rh, .int (nI pac), .ref rz, .ref ry, .int bz, .int de, .int dp, .int io])), (rx, .inl (cI, 1000, .inl tX)), (rf, .inl (cI, 60, .inl (fun zj => nI (xF zj)))), (rt, .inl (cI, 60, .inl (fun zj => nI (xT zj)))), (rb, .inl (cI, 60, .inl (fun zj => nI (xB zj)))), (rp, .inl (cI, 120, .inl tP)), (ru_, .inl (cI, 20, .inl (fun zj => nI (yF zj)))), (rv, .inl (cI, 20, .inl (fun zj => nI (yT zj)))), (rr, .inl (cZ, 1001, .inl (fun zj => bI (zRc zj)))), (rs, .inl (cZ, 1001, .inl (fun zj => bI (zFc zj)))), (rg, .inl (cI, 1001, .inl (fun zj => nI (wFc zj)))), (rh, .inl (cI, 1001, .inl (fun zj => nI (wTc zj))))] := by
    intro s0 thc nxc soc pac zRc zFc wFc wTc hv
    unfold v_RM_name_53 at hv
    refine ig_istore (lv' := [(4, .int (nI s0)), (0, .ref o0), (1, .int x), (2, .int y), (3, .int z)]) hx hb d_RM_name_53 (by decide) rfl ?_
    refine ig_lv (lv' := [(0, .ref o0), (1, .int x), (2, .int y), (3, .int z), (4, .int (nI s0))]) [1, 2, 3, 4, 0] rfl ?_
    exact j55 _ _ _ _ _ _ _ _ _ hv
  have j17 : ∀ (s0 : Nat) (thc : Nat) (nxc : Nat) (soc : Nat) (pac : Nat) (zRc : Nat → Bool) (zFc : Nat → Bool) (wFc : Nat → Nat) (wTc : Nat → Nat), v_RM_name_17 th ru na nx so pa tX xF xT xB tP yF yT zR zF wF wT x y z (p_RM_name th ru na nx so pa tX xF xT xB tP yF yT zR zF wF wT x y z) s0 thc nxc soc pac zRc zFc wFc wTc → ig_W zp l ze ({ frames := 5, cells := 0, slots := 0, locals := 117 }) zs zm zargs zbelow zmeth zc (dC, dI) ig_cl0 zA zs.heap 5 0 0 zQ 17 [(0, .ref o0), (1, .int x), (2, .int y), (3, .int z)] [.int (nI s0)] [(o0, .inr (ciRM, [.int (nI thc), .ref ra, .int si, .ref rx, .ref rf, .ref rt, .ref rb, .ref rl, .int (nI ru), .ref rp, .ref ru_, .ref rv, .int (nI na), .int (nI nxc), .int (nI soc), .ref rr, .ref rs, .ref rg, .ref rh, .int (nI pac), .ref rz, .ref ry, .int bz, .int de, .int dp, .int io])), (rx, .inl (cI, 1000, .inl tX)), (rf, .inl (cI, 60, .inl (fun zj => nI (xF zj)))), (rt, .inl (cI, 60, .inl (fun zj => nI (xT zj)))), (rb, .inl (cI, 60, .inl (fun zj => nI (xB zj)))), (rp, .inl (cI, 120, .inl tP)), (ru_, .inl (cI, 20, .inl (fun zj => nI (yF zj)))), (rv, .inl (cI, 20, .inl (fun zj => nI (yT zj)))), (rr, .inl (cZ, 1001, .inl (fun zj => bI (zRc zj)))), (rs, .inl (cZ, 1001, .inl (fun zj => bI (zFc zj)))), (rg, .inl (cI, 1001, .inl (fun zj => nI (wFc zj)))), (rh, .inl (cI, 1001, .inl (fun zj => nI (wTc zj))))] := by
    intro s0 thc nxc soc pac zRc zFc wFc wTc hv
    unfold v_RM_name_17 at hv
    refine ig_istore (lv' := [(4, .int (nI s0)), (0, .ref o0), (1, .int x), (2, .int y), (3, .int z)]) hx hb d_RM_name_17 (by decide) rfl ?_
    refine ig_iload hx hb 0 d_RM_name_19 rfl ?_
    obtain ⟨h1, hv⟩ := hv
    refine ig_if_neN (tgt := 55) hx hb s0 rfl d_RM_name_21 (by decide) h1 (fun h => ?_) (fun h => ?_)
    · have hv := hv.1 h
      refine ig_lv (lv' := [(0, .ref o0), (1, .int x), (2, .int y), (3, .int z), (4, .int (nI s0))]) [1, 2, 3, 4, 0] rfl ?_
      exact j55 _ _ _ _ _ _ _ _ _ hv
    · have hv := hv.2 h
      refine ig_aload_n hx hb 1 d_RM_name_24 rfl rfl ?_
      refine ig_aload_n hx hb 1 d_RM_name_25 rfl rfl ?_
      refine ig_get hx hb hts in_RM hown hK 0 rfl rfl 4 (by decide) (hts _ kw_1_149) (fun _ h => h) rfl d_RM_name_26 ?_
      refine ig_iload_n hx hb 2 d_RM_name_29 rfl rfl ?_
      obtain ⟨i1, he_i1, hv⟩ := hv
      rw [he_i1]
      obtain ⟨hc, hv⟩ := hv
      refine ig_iald (x := (nI (xF i1))) hx hb hK 2 1 rfl rfl i1 rfl hc (by decide) rfl d_RM_name_30 ?_
      refine ig_aload_n hx hb 1 d_RM_name_31 rfl rfl ?_
      refine ig_get hx hb hts in_RM hown hK 0 rfl rfl 5 (by decide) (hts _ kw_1_150) (fun _ h => h) rfl d_RM_name_32 ?_
      refine ig_iload_n hx hb 2 d_RM_name_35 rfl rfl ?_
      obtain ⟨hc, hv⟩ := hv
      refine ig_iald (x := (nI (xT i1))) hx hb hK 3 1 rfl rfl i1 rfl hc (by decide) rfl d_RM_name_36 ?_
      obtain ⟨hc, hv⟩ := hv
      refine ig_cVv (As := [.int (nI (xF i1)), .int (nI (xT i1))]) (rest := []) (wr := [(rf, .inl (cI, 60, .inl (fun zj => nI (xF zj)))), (rt, .inl (cI, 60, .inl (fun zj => nI (xT zj)))), (rb, .inl (cI, 60, .inl (fun zj => nI (xB zj)))), (rp, .inl (cI, 120, .inl tP)), (ru_, .inl (cI, 20, .inl (fun zj => nI (yF zj)))), (rv, .inl (cI, 20, .inl (fun zj => nI (yT zj)))), (rr, .inl (cZ, 1001, .inl (fun zj => bI (zRc zj)))), (rs, .inl (cZ, 1001, .inl (fun zj => bI (zFc zj))))]) (ws' := fun u => [(o0, .inr (ciRM, [.int (nI thc), .ref ra, .int si, .ref rx, .ref rf, .ref rt, .ref rb, .ref rl, .int (nI ru), .ref rp, .ref ru_, .ref rv, .int (nI na), .int (nI nxc), .int (nI soc), .ref rr, .ref rs, .ref rg, .ref rh, .int (nI u.1), .ref rz, .ref ry, .int bz, .int de, .int dp, .int io])), (rx, .inl (cI, 1000, .inl tX)), (rf, .inl (cI, 60, .inl (fun zj => nI (xF zj)))), (rt, .inl (cI, 60, .inl (fun zj => nI (xT zj)))), (rb, .inl (cI, 60, .inl (fun zj => nI (xB zj)))), (rp, .inl (cI, 120, .inl tP)), (ru_, .inl (cI, 20, .inl (fun zj => nI (yF zj)))), (rv, .inl (cI, 20, .inl (fun zj => nI (yT zj)))), (rr, .inl (cZ, 1001, .inl (fun zj => bI (zRc zj)))), (rs, .inl (cZ, 1001, .inl (fun zj => bI (zFc zj)))), (rg, .inl (cI, 1001, .inl (fun zj => nI (u.2.1 zj)))), (rh, .inl (cI, 1001, .inl (fun zj => nI (u.2.2 zj))))]) hx hb hml hown hts hK hN hA (fun sz => c_RM_findParts l dC dI cC cI cZ cL o0 ra rx rf rt rb rl rp ru_ rv rr rs rg rh rz ry (nI thc) si (nI ru) (nI na) (nI nxc) (nI soc) bz de dp io pac tX wFc wTc (xF i1) (xT i1) sz hc) ⟨callB_of 2 hts g_RM_findParts rfl rfl rfl (hts _ kw_0_5) (hts _ kw_2_25) (by decide +kernel) (by decide), (hts _ kw_2_27), (hts _ ks_RM_findParts)⟩ rfl rfl (Nat.le_of_ble_eq_true rfl) d_RM_name_37 (by decide) 0 rfl rfl [0, 1, 10, 11] [2, 3, 4, 5, 6, 7, 8, 9] [8, 9, 0, 1, 2, 3, 4, 5, 6, 7, 10, 11] rfl rfl (by decide) (by decide) (by decide) (fun _ => rfl) (fun _ => rfl) (fun u hr => ?_)
      obtain ⟨pa3, wF4, wT5⟩ := u
      unfold p_RM_findParts at hr
      have hv := hv pa3 wF4 wT5 hr
      rw [← he_i1]
      refine ig_iload_n hx hb 3 d_RM_name_40 rfl rfl ?_
      refine ig_aload_n hx hb 1 d_RM_name_41 rfl rfl ?_
      refine ig_get hx hb hts in_RM hown hK 0 rfl rfl 19 (by decide) (hts _ kw_1_164) (fun _ h => h) rfl d_RM_name_42 ?_
      refine ig_icmp_lt (tgt := 52) hx hb d_RM_name_45 (by decide) (fun h => ?_) (fun h => ?_)
      · have hv := hv.1 h
        refine ig_iconst (v := 0) hx hb d_RM_name_52 (by decide) ?_
        refine ig_lv (lv' := [(0, .ref o0), (1, .int x), (2, .int y), (3, .int z)]) [1, 2, 3, 4] rfl ?_
        exact j53 _ _ _ _ _ _ _ _ _ hv
      · have hv := hv.2 h
        refine ig_iconst (v := 1) hx hb d_RM_name_48 (by decide) ?_
        refine ig_goto (tgt := 53) hx hb d_RM_name_49 (by decide) ?_
        refine ig_lv (lv' := [(0, .ref o0), (1, .int x), (2, .int y), (3, .int z)]) [1, 2, 3, 4] rfl ?_
        exact j53 _ _ _ _ _ _ _ _ _ hv
  have j12 : ∀ (thc : Nat) (nxc : Nat) (soc : Nat) (pac : Nat) (zRc : Nat → Bool) (zFc : Nat → Bool) (wFc : Nat → Nat) (wTc : Nat → Nat), v_RM_name_12 th ru na nx so pa tX xF xT xB tP yF yT zR zF wF wT x y z (p_RM_name th ru na nx so pa tX xF xT xB tP yF yT zR zF wF wT x y z) thc nxc soc pac zRc zFc wFc wTc → ig_W zp l ze ({ frames := 5, cells := 0, slots := 0, locals := 117 }) zs zm zargs zbelow zmeth zc (dC, dI) ig_cl0 zA zs.heap 5 0 0 zQ 12 [(0, .ref o0), (1, .int x), (2, .int y), (3, .int z)] [] [(o0, .inr (ciRM, [.int (nI thc), .ref ra, .int si, .ref rx, .ref rf, .ref rt, .ref rb, .ref rl, .int (nI ru), .ref rp, .ref ru_, .ref rv, .int (nI na), .int (nI nxc), .int (nI soc), .ref rr, .ref rs, .ref rg, .ref rh, .int (nI pac), .ref rz, .ref ry, .int bz, .int de, .int dp, .int io])), (rx, .inl (cI, 1000, .inl tX)), (rf, .inl (cI, 60, .inl (fun zj => nI (xF zj)))), (rt, .inl (cI, 60, .inl (fun zj => nI (xT zj)))), (rb, .inl (cI, 60, .inl (fun zj => nI (xB zj)))), (rp, .inl (cI, 120, .inl tP)), (ru_, .inl (cI, 20, .inl (fun zj => nI (yF zj)))), (rv, .inl (cI, 20, .inl (fun zj => nI (yT zj)))), (rr, .inl (cZ, 1001, .inl (fun zj => bI (zRc zj)))), (rs, .inl (cZ, 1001, .inl (fun zj => bI (zFc zj)))), (rg, .inl (cI, 1001, .inl (fun zj => nI (wFc zj)))), (rh, .inl (cI, 1001, .inl (fun zj => nI (wTc zj))))] := by
    intro thc nxc soc pac zRc zFc wFc wTc hv
    unfold v_RM_name_12 at hv
    refine ig_iconst (v := 1) hx hb d_RM_name_12 (by decide) ?_
    refine ig_goto (tgt := 17) hx hb d_RM_name_13 (by decide) ?_
    refine ig_lv (lv' := [(0, .ref o0), (1, .int x), (2, .int y), (3, .int z)]) [0, 1, 2, 3] rfl ?_
    exact j17 _ _ _ _ _ _ _ _ _ hv
  have hv := t_RM_name th ru na nx so pa tX xF xT xB tP yF yT zR zF wF wT x y z hr 
  unfold v_RM_name at hv
  refine ig_aload_n hx hb 0 d_RM_name_0 rfl rfl ?_
  refine ig_iload_n hx hb 1 d_RM_name_1 rfl rfl ?_
  obtain ⟨hc, hv⟩ := hv
  refine ig_cVi (As := [.int x]) (rest := []) (wr := [(rx, .inl (cI, 1000, .inl tX)), (rf, .inl (cI, 60, .inl (fun zj => nI (xF zj)))), (rt, .inl (cI, 60, .inl (fun zj => nI (xT zj)))), (rb, .inl (cI, 60, .inl (fun zj => nI (xB zj)))), (rp, .inl (cI, 120, .inl tP)), (ru_, .inl (cI, 20, .inl (fun zj => nI (yF zj)))), (rv, .inl (cI, 20, .inl (fun zj => nI (yT zj)))), (rr, .inl (cZ, 1001, .inl (fun zj => bI (zR zj)))), (rs, .inl (cZ, 1001, .inl (fun zj => bI (zF zj)))), (rg, .inl (cI, 1001, .inl (fun zj => nI (wF zj)))), (rh, .inl (cI, 1001, .inl (fun zj => nI (wT zj))))]) (ws' := fun u => [(o0, .inr (ciRM, [.int (nI th), .ref ra, .int si, .ref rx, .ref rf, .ref rt, .ref rb, .ref rl, .int (nI ru), .ref rp, .ref ru_, .ref rv, .int (nI na), .int (nI nx), .int (nI so), .ref rr, .ref rs, .ref rg, .ref rh, .int (nI pa), .ref rz, .ref ry, .int bz, .int de, .int dp, .int io])), (rx, .inl (cI, 1000, .inl tX)), (rf, .inl (cI, 60, .inl (fun zj => nI (xF zj)))), (rt, .inl (cI, 60, .inl (fun zj => nI (xT zj)))), (rb, .inl (cI, 60, .inl (fun zj => nI (xB zj)))), (rp, .inl (cI, 120, .inl tP)), (ru_, .inl (cI, 20, .inl (fun zj => nI (yF zj)))), (rv, .inl (cI, 20, .inl (fun zj => nI (yT zj)))), (rr, .inl (cZ, 1001, .inl (fun zj => bI (zR zj)))), (rs, .inl (cZ, 1001, .inl (fun zj => bI (zF zj)))), (rg, .inl (cI, 1001, .inl (fun zj => nI (wF zj)))), (rh, .inl (cI, 1001, .inl (fun zj => nI (wT zj))))]) hx hb hml hown hts hK hN hA (fun sz => c_RM_noRule l dC dI cC cI cZ cL o0 ra rx rf rt rb rl rp ru_ rv rr rs rg rh rz ry (nI th) si (nI na) (nI nx) (nI so) (nI pa) bz de dp io ru x sz hc) ⟨callB_of 1 hts g_RM_noRule rfl rfl rfl (hts _ kw_0_5) (hts _ kw_2_57) (by decide +kernel) (by decide), (hts _ kw_2_59), (hts _ ks_RM_noRule)⟩ rfl rfl (Nat.le_of_ble_eq_true rfl) d_RM_name_2 (by decide) 0 rfl rfl [0] [1, 2, 3, 4, 5, 6, 7, 8, 9, 10, 11] [11, 0, 1, 2, 3, 4, 5, 6, 7, 8, 9, 10] rfl rfl (by decide) (by decide) (by decide) (fun _ => rfl) (fun _ => rfl) (fun r u hr => ?_)
  obtain ⟨rr, rfl, hr⟩ := hr
  unfold p_RM_noRule at hr
  subst hr
  refine ig_if_neB (tgt := 12) hx hb (decide (x < 0 ∨ nI ru ≤ x)) rfl d_RM_name_5 (by decide) (fun h => ?_) (fun h => ?_)
  · have hv := hv.1 h
    refine ig_lv (lv' := [(0, .ref o0), (1, .int x), (2, .int y), (3, .int z)]) [0, 1, 2, 3] rfl ?_
    exact j12 _ _ _ _ _ _ _ _ hv
  · have hv := hv.2 h
    refine ig_iload_n hx hb 2 d_RM_name_8 rfl rfl ?_
    refine ig_if_ge (tgt := 16) hx hb d_RM_name_9 (by decide) (fun h => ?_) (fun h => ?_)
    · have hv := hv.1 h
      refine ig_iconst (v := 0) hx hb d_RM_name_16 (by decide) ?_
      refine ig_lv (lv' := [(0, .ref o0), (1, .int x), (2, .int y), (3, .int z)]) [0, 1, 2, 3] rfl ?_
      exact j17 _ _ _ _ _ _ _ _ _ hv
    · have hv := hv.2 h
      refine ig_lv (lv' := [(0, .ref o0), (1, .int x), (2, .int y), (3, .int z)]) [0, 1, 2, 3] rfl ?_
      exact j12 _ _ _ _ _ _ _ _ hv
