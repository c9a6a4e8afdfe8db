theorem kw_0_61 : Cond.methodLink "IgnoreRules$Path" 3 ⟨"java/lang/Object", "<init>", "()V"⟩ ∈ ig_T := ig_T_mem (List.mem_append_left _ (List.mem_of_getElem? (i := 61) rfl)) rfl
theorem d_PA_init_0 : decode b_PA_init 0 = .ok (.aload_n 0, 1) := by decide +kernel
theorem d_PA_init_1 : decode b_PA_init 1 = .ok (.invokespecial 3, 3) := by decide +kernel
theorem d_PA_init_4 : decode b_PA_init 4 = .ok (.aload_n 0, 1) := by decide +kernel
theorem d_PA_init_5 : decode b_PA_init 5 = .ok (.bipush 120, 2) := by decide +kernel
theorem d_PA_init_7 : decode b_PA_init 7 = .ok (.newarray .char, 2) := by decide +kernel
theorem d_PA_init_9 : decode b_PA_init 9 = .ok (.putfield 9, 3) := by decide +kernel
theorem d_PA_init_12 : decode b_PA_init 12 = .ok (.aload_n 0, 1) := by decide +kernel
theorem d_PA_init_13 : decode b_PA_init 13 = .ok (.bipush 21, 2) := by decide +kernel
theorem d_PA_init_15 : decode b_PA_init 15 = .ok (.newarray .int, 2) := by decide +kernel
theorem d_PA_init_17 : decode b_PA_init 17 = .ok (.putfield 15, 3) := by decide +kernel
theorem d_PA_init_20 : decode b_PA_init 20 = .ok (.return_, 1) := by decide +kernel
abbrev w_PA_init : List Cond := Cond.code y_PA_init b_PA_init 1 none :: ig_T
theorem g_PA_init : GoodIn ig_T w_PA_init := ig_T_good (ig_T_mem (List.mem_append_left _ (List.mem_of_getElem? (i := 60) rfl)) rfl)
set_option maxHeartbeats 400000 in
set_option maxRecDepth 100000 in
theorem c_PA_init (l : Launch) (dC : Nat → ClassId) (dI : Nat → Nat → Nat) (cC cI cZ cL : ClassId) (p0 sz : Nat) : Met l y_PA_init w_PA_init ({ frames := 1, cells := 2, slots := 141, locals := 12 }) (ig_Pc (dC, dI) ig_cl0 [(cC, .char), (cI, .int), (cZ, .boolean), (cL, .long)] [.ref p0] [(p0, .inr (ciPA, [.null, .null, .int 0]))] sz) (va_Qv (fun (_ : Nat × Nat) => True) (fun u t => va_P (dC, dI) ig_cl0 ((fun (u : Nat × Nat) => [(p0, .inr (ciPA, [.ref u.1, .ref u.2, .int 0])), (u.1, .inl (cC, 120, .inl (fun _ => 0))), (u.2, .inl (cI, 21, .inl (fun zj => nI ((fun _ => 0) zj))))]) u) t.heap ∧ va_D (va_A [(p0, .inr (ciPA, [.null, .null, .int 0]))] sz) ((fun (u : Nat × Nat) => [(p0, .inr (ciPA, [.ref u.1, .ref u.2, .int 0])), (u.1, .inl (cC, 120, .inl (fun _ => 0))), (u.2, .inl (cI, 21, .inl (fun zj => nI ((fun _ => 0) zj))))]) u)) (va_A [(p0, .inr (ciPA, [.null, .null, .int 0]))] sz)) 2 141 (va_A [(p0, .inr (ciPA, [.null, .null, .int 0]))] sz) := by
  refine ig_metVn (fun (_ : Nat × Nat) => True) (fun (u : Nat × Nat) => [(p0, .inr (ciPA, [.ref u.1, .ref u.2, .int 0])), (u.1, .inl (cC, 120, .inl (fun _ => 0))), (u.2, .inl (cI, 21, .inl (fun zj => nI ((fun _ => 0) zj))))]) (by decide) rfl (Nat.le_of_ble_eq_true rfl) rfl ?_
  intro zp ze zs zm zargs zbelow zmeth zc zA zQ hx hb hml hown hts hK hN hA hmn hret
  refine ig_aload_n hx hb 0 d_PA_init_0 rfl rfl ?_
  refine ig_obj hx hb hml hown hts kw_0_61 kw_0_19 kw_0_20 d_PA_init_1 (Nat.le_of_ble_eq_true rfl) (Nat.le_of_ble_eq_true rfl) ?_
  refine ig_aload_n hx hb 0 d_PA_init_4 rfl rfl ?_
  refine ig_bipush (v := 120) hx hb d_PA_init_5 (by decide) ?_
  refine ig_newa (atype := .char) (ty := .char) (a0 := (120, .inl (fun _ => 0))) (ws' := fun pb => [(p0, .inr (ciPA, [.null, .null, .int 0])), (pb, .inl (cC, 120, .inl (fun _ => 0)))]) hx hb hts kw_0_54 rfl hK hA 0 rfl ig_nmC (fun _ => rfl) rfl (by decide) (by decide) (by decide) (by decide) d_PA_init_7 (fun _ => rfl) (fun pb => ?_)
  refine ig_putF (ty := (.array .char)) (v := .ref pb) (ws' := [(p0, .inr (ciPA, [.ref pb, .null, .int 0])), (pb, .inl (cC, 120, .inl (fun _ => 0)))]) hx hb hts in_PA t_PA t_PA_ok n_PA hown hK 0 rfl rfl 0 (by decide) kw_0_62 (fun _ h => h) rfl hmn rfl (by decide +kernel) rfl rfl (Nat.le_of_ble_eq_true rfl) d_PA_init_9 rfl ?_
  refine ig_aload_n hx hb 0 d_PA_init_12 rfl rfl ?_
  refine ig_bipush (v := 21) hx hb d_PA_init_13 (by decide) ?_
  refine ig_newa (atype := .int) (ty := .int) (a0 := (21, .inl (fun zj => nI ((fun _ => 0) zj)))) (ws' := fun ps => [(p0, .inr (ciPA, [.ref pb, .null, .int 0])), (pb, .inl (cC, 120, .inl (fun _ => 0))), (ps, .inl (cI, 21, .inl (fun zj => nI ((fun _ => 0) zj))))]) hx hb hts kw_0_55 rfl hK hA 1 rfl ig_nmI (fun _ => rfl) rfl (by decide) (by decide) (by decide) (by decide) d_PA_init_15 (fun _ => rfl) (fun ps => ?_)
  refine ig_putF (ty := (.array .int)) (v := .ref ps) (ws' := [(p0, .inr (ciPA, [.ref pb, .ref ps, .int 0])), (pb, .inl (cC, 120, .inl (fun _ => 0))), (ps, .inl (cI, 21, .inl (fun zj => nI ((fun _ => 0) zj))))]) hx hb hts in_PA t_PA t_PA_ok n_PA hown hK 0 rfl rfl 1 (by decide) kw_0_64 (fun _ h => h) rfl hmn rfl (by decide +kernel) rfl rfl (Nat.le_of_ble_eq_true rfl) d_PA_init_17 rfl ?_
  exact hret 20 _ (pb, ps) d_PA_init_20 trivial
