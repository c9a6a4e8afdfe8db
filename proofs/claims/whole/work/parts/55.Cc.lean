theorem kw_0_80 : Cond.methodLink "IgnoreRules$Matcher" 3 ⟨"java/lang/Object", "<init>", "()V"⟩ ∈ ig_T := ig_T_mem (List.mem_append_left _ (List.mem_of_getElem? (i := 80) rfl)) rfl
theorem kw_0_88 : Cond.arrayClass Jvm.ClassFile.FieldType.boolean ∈ ig_T := ig_T_mem (List.mem_append_left _ (List.mem_of_getElem? (i := 88) rfl)) rfl
theorem d_MA_init_0 : decode b_MA_init 0 = .ok (.aload_n 0, 1) := by decide +kernel
theorem d_MA_init_1 : decode b_MA_init 1 = .ok (.invokespecial 3, 3) := by decide +kernel
theorem d_MA_init_4 : decode b_MA_init 4 = .ok (.aload_n 0, 1) := by decide +kernel
theorem d_MA_init_5 : decode b_MA_init 5 = .ok (.bipush 21, 2) := by decide +kernel
theorem d_MA_init_7 : decode b_MA_init 7 = .ok (.newarray .boolean, 2) := by decide +kernel
theorem d_MA_init_9 : decode b_MA_init 9 = .ok (.putfield 9, 3) := by decide +kernel
theorem d_MA_init_12 : decode b_MA_init 12 = .ok (.aload_n 0, 1) := by decide +kernel
theorem d_MA_init_13 : decode b_MA_init 13 = .ok (.bipush 121, 2) := by decide +kernel
theorem d_MA_init_15 : decode b_MA_init 15 = .ok (.newarray .boolean, 2) := by decide +kernel
theorem d_MA_init_17 : decode b_MA_init 17 = .ok (.putfield 15, 3) := by decide +kernel
theorem d_MA_init_20 : decode b_MA_init 20 = .ok (.return_, 1) := by decide +kernel
abbrev w_MA_init : List Cond := Cond.code y_MA_init b_MA_init 1 none :: ig_T
theorem g_MA_init : GoodIn ig_T w_MA_init := ig_T_good (ig_T_mem (List.mem_append_left _ (List.mem_of_getElem? (i := 79) rfl)) rfl)
set_option maxHeartbeats 400000 in
set_option maxRecDepth 100000 in
theorem c_MA_init (l : Launch) (dC : Nat → ClassId) (dI : Nat → Nat → Nat) (cC cI cZ cL : ClassId) (m0 sz : Nat) : Met l y_MA_init w_MA_init ({ frames := 1, cells := 2, slots := 142, locals := 12 }) (ig_Pc (dC, dI) ig_cl0 [(cC, .char), (cI, .int), (cZ, .boolean), (cL, .long)] [.ref m0] [(m0, .inr (ciMA, [.null, .null]))] sz) (va_Qv (fun (_ : Nat × Nat) => True) (fun u t => va_P (dC, dI) ig_cl0 ((fun (u : Nat × Nat) => [(m0, .inr (ciMA, [.ref u.1, .ref u.2])), (u.1, .inl (cZ, 21, .inl (fun zj => bI ((fun _ => false) zj)))), (u.2, .inl (cZ, 121, .inl (fun zj => bI ((fun _ => false) zj))))]) u) t.heap ∧ va_D (va_A [(m0, .inr (ciMA, [.null, .null]))] sz) ((fun (u : Nat × Nat) => [(m0, .inr (ciMA, [.ref u.1, .ref u.2])), (u.1, .inl (cZ, 21, .inl (fun zj => bI ((fun _ => false) zj)))), (u.2, .inl (cZ, 121, .inl (fun zj => bI ((fun _ => false) zj))))]) u)) (va_A [(m0, .inr (ciMA, [.null, .null]))] sz)) 2 142 (va_A [(m0, .inr (ciMA, [.null, .null]))] sz) := by
  refine ig_metVn (fun (_ : Nat × Nat) => True) (fun (u : Nat × Nat) => [(m0, .inr (ciMA, [.ref u.1, .ref u.2])), (u.1, .inl (cZ, 21, .inl (fun zj => bI ((fun _ => false) zj)))), (u.2, .inl (cZ, 121, .inl (fun zj => bI ((fun _ => false) zj))))]) (by decide) rfl (Nat.le_of_ble_eq_true rfl) rfl ?_
  intro zp ze zs zm zargs zbelow zmeth zc zA zQ hx hb hml hown hts hK hN hA hmn hret
  refine ig_aload_n hx hb 0 d_MA_init_0 rfl rfl ?_
  refine ig_obj hx hb hml hown hts kw_0_80 kw_0_19 kw_0_20 d_MA_init_1 (Nat.le_of_ble_eq_true rfl) (Nat.le_of_ble_eq_true rfl) ?_
  refine ig_aload_n hx hb 0 d_MA_init_4 rfl rfl ?_
  refine ig_bipush (v := 21) hx hb d_MA_init_5 (by decide) ?_
  refine ig_newa (atype := .boolean) (ty := .boolean) (a0 := (21, .inl (fun zj => bI ((fun _ => false) zj)))) (ws' := fun mn => [(m0, .inr (ciMA, [.null, .null])), (mn, .inl (cZ, 21, .inl (fun zj => bI ((fun _ => false) zj))))]) hx hb hts kw_0_88 rfl hK hA 2 rfl ig_nmZ (fun _ => rfl) rfl (by decide) (by decide) (by decide) (by decide) d_MA_init_7 (fun _ => rfl) (fun mn => ?_)
  refine ig_putF (ty := (.array .boolean)) (v := .ref mn) (ws' := [(m0, .inr (ciMA, [.ref mn, .null])), (mn, .inl (cZ, 21, .inl (fun zj => bI ((fun _ => false) zj))))]) hx hb hts in_MA t_MA t_MA_ok n_MA hown hK 0 rfl rfl 0 (by decide) kw_0_81 (fun _ h => h) rfl hmn rfl (by decide +kernel) rfl rfl (Nat.le_of_ble_eq_true rfl) d_MA_init_9 rfl ?_
  refine ig_aload_n hx hb 0 d_MA_init_12 rfl rfl ?_
  refine ig_bipush (v := 121) hx hb d_MA_init_13 (by decide) ?_
  refine ig_newa (atype := .boolean) (ty := .boolean) (a0 := (121, .inl (fun zj => bI ((fun _ => false) zj)))) (ws' := fun mb => [(m0, .inr (ciMA, [.ref mn, .null])), (mn, .inl (cZ, 21, .inl (fun zj => bI ((fun _ => false) zj)))), (mb, .inl (cZ, 121, .inl (fun zj => bI ((fun _ => false) zj))))]) hx hb hts kw_0_88 rfl hK hA 2 rfl ig_nmZ (fun _ => rfl) rfl (by decide) (by decide) (by decide) (by decide) d_MA_init_15 (fun _ => rfl) (fun mb => ?_)
  refine ig_putF (ty := (.array .boolean)) (v := .ref mb) (ws' := [(m0, .inr (ciMA, [.ref mn, .ref mb])), (mn, .inl (cZ, 21, .inl (fun zj => bI ((fun _ => false) zj)))), (mb, .inl (cZ, 121, .inl (fun zj => bI ((fun _ => false) zj))))]) hx hb hts in_MA t_MA t_MA_ok n_MA hown hK 0 rfl rfl 1 (by decide) kw_0_82 (fun _ h => h) rfl hmn rfl (by decide +kernel) rfl rfl (Nat.le_of_ble_eq_true rfl) d_MA_init_17 rfl ?_
  exact hret 20 _ (mn, mb) d_MA_init_20 trivial
