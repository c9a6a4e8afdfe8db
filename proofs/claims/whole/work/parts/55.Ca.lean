theorem kw_0_19 : Cond.instanceMethod ⟨"java/lang/Object", "<init>", "()V"⟩ ∈ ig_T := ig_T_mem (List.mem_append_left _ (List.mem_of_getElem? (i := 19) rfl)) rfl
theorem kw_0_20 : Cond.code ⟨"java/lang/Object", "<init>", "()V"⟩ object_method_1_code 1 none ∈ ig_T := ig_T_mem (List.mem_append_left _ (List.mem_of_getElem? (i := 20) rfl)) rfl
theorem kw_0_26 : Cond.methodLink "IgnoreRules$RuleList" 3 ⟨"java/lang/Object", "<init>", "()V"⟩ ∈ ig_T := ig_T_mem (List.mem_append_left _ (List.mem_of_getElem? (i := 26) rfl)) rfl
theorem kw_0_54 : Cond.arrayClass Jvm.ClassFile.FieldType.char ∈ ig_T := ig_T_mem (List.mem_append_left _ (List.mem_of_getElem? (i := 54) rfl)) rfl
theorem kw_0_55 : Cond.arrayClass Jvm.ClassFile.FieldType.int ∈ ig_T := ig_T_mem (List.mem_append_left _ (List.mem_of_getElem? (i := 55) rfl)) rfl
theorem d_RL_init_0 : decode b_RL_init 0 = .ok (.aload_n 0, 1) := by decide +kernel
theorem d_RL_init_1 : decode b_RL_init 1 = .ok (.invokespecial 3, 3) := by decide +kernel
theorem d_RL_init_4 : decode b_RL_init 4 = .ok (.aload_n 0, 1) := by decide +kernel
theorem d_RL_init_5 : decode b_RL_init 5 = .ok (.sipush 1000, 3) := by decide +kernel
theorem d_RL_init_8 : decode b_RL_init 8 = .ok (.newarray .char, 2) := by decide +kernel
theorem d_RL_init_10 : decode b_RL_init 10 = .ok (.putfield 9, 3) := by decide +kernel
theorem d_RL_init_13 : decode b_RL_init 13 = .ok (.aload_n 0, 1) := by decide +kernel
theorem d_RL_init_14 : decode b_RL_init 14 = .ok (.bipush 60, 2) := by decide +kernel
theorem d_RL_init_16 : decode b_RL_init 16 = .ok (.newarray .int, 2) := by decide +kernel
theorem d_RL_init_18 : decode b_RL_init 18 = .ok (.putfield 15, 3) := by decide +kernel
theorem d_RL_init_21 : decode b_RL_init 21 = .ok (.aload_n 0, 1) := by decide +kernel
theorem d_RL_init_22 : decode b_RL_init 22 = .ok (.bipush 60, 2) := by decide +kernel
theorem d_RL_init_24 : decode b_RL_init 24 = .ok (.newarray .int, 2) := by decide +kernel
theorem d_RL_init_26 : decode b_RL_init 26 = .ok (.putfield 19, 3) := by decide +kernel
theorem d_RL_init_29 : decode b_RL_init 29 = .ok (.aload_n 0, 1) := by decide +kernel
theorem d_RL_init_30 : decode b_RL_init 30 = .ok (.bipush 60, 2) := by decide +kernel
theorem d_RL_init_32 : decode b_RL_init 32 = .ok (.newarray .int, 2) := by decide +kernel
theorem d_RL_init_34 : decode b_RL_init 34 = .ok (.putfield 22, 3) := by decide +kernel
theorem d_RL_init_37 : decode b_RL_init 37 = .ok (.aload_n 0, 1) := by decide +kernel
theorem d_RL_init_38 : decode b_RL_init 38 = .ok (.bipush 60, 2) := by decide +kernel
theorem d_RL_init_40 : decode b_RL_init 40 = .ok (.newarray .int, 2) := by decide +kernel
theorem d_RL_init_42 : decode b_RL_init 42 = .ok (.putfield 25, 3) := by decide +kernel
theorem d_RL_init_45 : decode b_RL_init 45 = .ok (.return_, 1) := by decide +kernel
abbrev w_RL_init : List Cond := Cond.code y_RL_init b_RL_init 1 none :: ig_T
theorem g_RL_init : GoodIn ig_T w_RL_init := ig_T_good (ig_T_mem (List.mem_append_left _ (List.mem_of_getElem? (i := 25) rfl)) rfl)
set_option maxHeartbeats 400000 in
set_option maxRecDepth 100000 in
theorem c_RL_init (l : Launch) (dC : Nat → ClassId) (dI : Nat → Nat → Nat) (cC cI cZ cL : ClassId) (q0 sz : Nat) : Met l y_RL_init w_RL_init ({ frames := 1, cells := 5, slots := 1240, locals := 12 }) (ig_Pc (dC, dI) ig_cl0 [(cC, .char), (cI, .int), (cZ, .boolean), (cL, .long)] [.ref q0] [(q0, .inr (ciRL, [.null, .null, .null, .null, .null, .int 0]))] sz) (va_Qv (fun (_ : Nat × Nat × Nat × Nat × Nat) => True) (fun u t => va_P (dC, dI) ig_cl0 ((fun (u : Nat × Nat × Nat × Nat × Nat) => [(q0, .inr (ciRL, [.ref u.1, .ref u.2.1, .ref u.2.2.1, .ref u.2.2.2.1, .ref u.2.2.2.2, .int 0])), (u.1, .inl (cC, 1000, .inl (fun _ => 0))), (u.2.1, .inl (cI, 60, .inl (fun zj => nI ((fun _ => 0) zj)))), (u.2.2.1, .inl (cI, 60, .inl (fun zj => nI ((fun _ => 0) zj)))), (u.2.2.2.1, .inl (cI, 60, .inl (fun zj => nI ((fun _ => 0) zj)))), (u.2.2.2.2, .inl (cI, 60, .inl (fun zj => nI ((fun _ => 0) zj))))]) u) t.heap ∧ va_D (va_A [(q0, .inr (ciRL, [.null, .null, .null, .null, .null, .int 0]))] sz) ((fun (u : Nat × Nat × Nat × Nat × Nat) => [(q0, .inr (ciRL, [.ref u.1, .ref u.2.1, .ref u.2.2.1, .ref u.2.2.2.1, .ref u.2.2.2.2, .int 0])), (u.1, .inl (cC, 1000, .inl (fun _ => 0))), (u.2.1, .inl (cI, 60, .inl (fun zj => nI ((fun _ => 0) zj)))), (u.2.2.1, .inl (cI, 60, .inl (fun zj => nI ((fun _ => 0) zj)))), (u.2.2.2.1, .inl (cI, 60, .inl (fun zj => nI ((fun _ => 0) zj)))), (u.2.2.2.2, .inl (cI, 60, .inl (fun zj => nI ((fun _ => 0) zj))))]) u)) (va_A [(q0, .inr (ciRL, [.null, .null, .null, .null, .null, .int 0]))] sz)) 5 1240 (va_A [(q0, .inr (ciRL, [.null, .null, .null, .null, .null, .int 0]))] sz) := by
  refine ig_metVn (fun (_ : Nat × Nat × Nat × Nat × Nat) => True) (fun (u : Nat × Nat × Nat × Nat × Nat) => [(q0, .inr (ciRL, [.ref u.1, .ref u.2.1, .ref u.2.2.1, .ref u.2.2.2.1, .ref u.2.2.2.2, .int 0])), (u.1, .inl (cC, 1000, .inl (fun _ => 0))), (u.2.1, .inl (cI, 60, .inl (fun zj => nI ((fun _ => 0) zj)))), (u.2.2.1, .inl (cI, 60, .inl (fun zj => nI ((fun _ => 0) zj)))), (u.2.2.2.1, .inl (cI, 60, .inl (fun zj => nI ((fun _ => 0) zj)))), (u.2.2.2.2, .inl (cI, 60, .inl (fun zj => nI ((fun _ => 0) zj))))]) (by decide) rfl (Nat.le_of_ble_eq_true rfl) rfl ?_
  intro zp ze zs zm zargs zbelow zmeth zc zA zQ hx hb hml hown hts hK hN hA hmn hret
  refine ig_aload_n hx hb 0 d_RL_init_0 rfl rfl ?_
  refine ig_obj hx hb hml hown hts kw_0_26 kw_0_19 kw_0_20 d_RL_init_1 (Nat.le_of_ble_eq_true rfl) (Nat.le_of_ble_eq_true rfl) ?_
  refine ig_aload_n hx hb 0 d_RL_init_4 rfl rfl ?_
  refine ig_sipush (v := 1000) hx hb d_RL_init_5 (by decide) ?_
  refine ig_newa (atype := .char) (ty := .char) (a0 := (1000, .inl (fun _ => 0))) (ws' := fun qt => [(q0, .inr (ciRL, [.null, .null, .null, .null, .null, .int 0])), (qt, .inl (cC, 1000, .inl (fun _ => 0)))]) hx hb hts kw_0_54 rfl hK hA 0 rfl ig_nmC (fun _ => rfl) rfl (by decide) (by decide) (by decide) (by decide) d_RL_init_8 (fun _ => rfl) (fun qt => ?_)
  refine ig_putF (ty := (.array .char)) (v := .ref qt) (ws' := [(q0, .inr (ciRL, [.ref qt, .null, .null, .null, .null, .int 0])), (qt, .inl (cC, 1000, .inl (fun _ => 0)))]) hx hb hts in_RL t_RL t_RL_ok n_RL hown hK 0 rfl rfl 0 (by decide) kw_0_27 (fun _ h => h) rfl hmn rfl (by decide +kernel) rfl rfl (Nat.le_of_ble_eq_true rfl) d_RL_init_10 rfl ?_
  refine ig_aload_n hx hb 0 d_RL_init_13 rfl rfl ?_
  refine ig_bipush (v := 60) hx hb d_RL_init_14 (by decide) ?_
  refine ig_newa (atype := .int) (ty := .int) (a0 := (60, .inl (fun zj => nI ((fun _ => 0) zj)))) (ws' := fun qs => [(q0, .inr (ciRL, [.ref qt, .null, .null, .null, .null, .int 0])), (qt, .inl (cC, 1000, .inl (fun _ => 0))), (qs, .inl (cI, 60, .inl (fun zj => nI ((fun _ => 0) zj))))]) hx hb hts kw_0_55 rfl hK hA 1 rfl ig_nmI (fun _ => rfl) rfl (by decide) (by decide) (by decide) (by decide) d_RL_init_16 (fun _ => rfl) (fun qs => ?_)
  refine ig_putF (ty := (.array .int)) (v := .ref qs) (ws' := [(q0, .inr (ciRL, [.ref qt, .ref qs, .null, .null, .null, .int 0])), (qt, .inl (cC, 1000, .inl (fun _ => 0))), (qs, .inl (cI, 60, .inl (fun zj => nI ((fun _ => 0) zj))))]) hx hb hts in_RL t_RL t_RL_ok n_RL hown hK 0 rfl rfl 1 (by decide) kw_0_30 (fun _ h => h) rfl hmn rfl (by decide +kernel) rfl rfl (Nat.le_of_ble_eq_true rfl) d_RL_init_18 rfl ?_
  refine ig_aload_n hx hb 0 d_RL_init_21 rfl rfl ?_
  refine ig_bipush (v := 60) hx hb d_RL_init_22 (by decide) ?_
  refine ig_newa (atype := .int) (ty := .int) (a0 := (60, .inl (fun zj => nI ((fun _ => 0) zj)))) (ws' := fun qe => [(q0, .inr (ciRL, [.ref qt, .ref qs, .null, .null, .null, .int 0])), (qt, .inl (cC, 1000, .inl (fun _ => 0))), (qs, .inl (cI, 60, .inl (fun zj => nI ((fun _ => 0) zj)))), (qe, .inl (cI, 60, .inl (fun zj => nI ((fun _ => 0) zj))))]) hx hb hts kw_0_55 rfl hK hA 1 rfl ig_nmI (fun _ => rfl) rfl (by decide) (by decide) (by decide) (by decide) d_RL_init_24 (fun _ => rfl) (fun qe => ?_)
  refine ig_putF (ty := (.array .int)) (v := .ref qe) (ws' := [(q0, .inr (ciRL, [.ref qt, .ref qs, .ref qe, .null, .null, .int 0])), (qt, .inl (cC, 1000, .inl (fun _ => 0))), (qs, .inl (cI, 60, .inl (fun zj => nI ((fun _ => 0) zj)))), (qe, .inl (cI, 60, .inl (fun zj => nI ((fun _ => 0) zj))))]) hx hb hts in_RL t_RL t_RL_ok n_RL hown hK 0 rfl rfl 2 (by decide) kw_0_32 (fun _ h => h) rfl hmn rfl (by decide +kernel) rfl rfl (Nat.le_of_ble_eq_true rfl) d_RL_init_26 rfl ?_
  refine ig_aload_n hx hb 0 d_RL_init_29 rfl rfl ?_
  refine ig_bipush (v := 60) hx hb d_RL_init_30 (by decide) ?_
  refine ig_newa (atype := .int) (ty := .int) (a0 := (60, .inl (fun zj => nI ((fun _ => 0) zj)))) (ws' := fun qb => [(q0, .inr (ciRL, [.ref qt, .ref qs, .ref qe, .null, .null, .int 0])), (qt, .inl (cC, 1000, .inl (fun _ => 0))), (qs, .inl (cI, 60, .inl (fun zj => nI ((fun _ => 0) zj)))), (qe, .inl (cI, 60, .inl (fun zj => nI ((fun _ => 0) zj)))), (qb, .inl (cI, 60, .inl (fun zj => nI ((fun _ => 0) zj))))]) hx hb hts kw_0_55 rfl hK hA 1 rfl ig_nmI (fun _ => rfl) rfl (by decide) (by decide) (by decide) (by decide) d_RL_init_32 (fun _ => rfl) (fun qb => ?_)
  refine ig_putF (ty := (.array .int)) (v := .ref qb) (ws' := [(q0, .inr (ciRL, [.ref qt, .ref qs, .ref qe, .ref qb, .null, .int 0])), (qt, .inl (cC, 1000, .inl (fun _ => 0))), (qs, .inl (cI, 60, .inl (fun zj => nI ((fun _ => 0) zj)))), (qe, .inl (cI, 60, .inl (fun zj => nI ((fun _ => 0) zj)))), (qb, .inl (cI, 60, .inl (fun zj => nI ((fun _ => 0) zj))))]) hx hb hts in_RL t_RL t_RL_ok n_RL hown hK 0 rfl rfl 3 (by decide) kw_0_34 (fun _ h => h) rfl hmn rfl (by decide +kernel) rfl rfl (Nat.le_of_ble_eq_true rfl) d_RL_init_34 rfl ?_
  refine ig_aload_n hx hb 0 d_RL_init_37 rfl rfl ?_
  refine ig_bipush (v := 60) hx hb d_RL_init_38 (by decide) ?_
  refine ig_newa (atype := .int) (ty := .int) (a0 := (60, .inl (fun zj => nI ((fun _ => 0) zj)))) (ws' := fun ql => [(q0, .inr (ciRL, [.ref qt, .ref qs, .ref qe, .ref qb, .null, .int 0])), (qt, .inl (cC, 1000, .inl (fun _ => 0))), (qs, .inl (cI, 60, .inl (fun zj => nI ((fun _ => 0) zj)))), (qe, .inl (cI, 60, .inl (fun zj => nI ((fun _ => 0) zj)))), (qb, .inl (cI, 60, .inl (fun zj => nI ((fun _ => 0) zj)))), (ql, .inl (cI, 60, .inl (fun zj => nI ((fun _ => 0) zj))))]) hx hb hts kw_0_55 rfl hK hA 1 rfl ig_nmI (fun _ => rfl) rfl (by decide) (by decide) (by decide) (by decide) d_RL_init_40 (fun _ => rfl) (fun ql => ?_)
  refine ig_putF (ty := (.array .int)) (v := .ref ql) (ws' := [(q0, .inr (ciRL, [.ref qt, .ref qs, .ref qe, .ref qb, .ref ql, .int 0])), (qt, .inl (cC, 1000, .inl (fun _ => 0))), (qs, .inl (cI, 60, .inl (fun zj => nI ((fun _ => 0) zj)))), (qe, .inl (cI, 60, .inl (fun zj => nI ((fun _ => 0) zj)))), (qb, .inl (cI, 60, .inl (fun zj => nI ((fun _ => 0) zj)))), (ql, .inl (cI, 60, .inl (fun zj => nI ((fun _ => 0) zj))))]) hx hb hts in_RL t_RL t_RL_ok n_RL hown hK 0 rfl rfl 4 (by decide) kw_0_37 (fun _ h => h) rfl hmn rfl (by decide +kernel) rfl rfl (Nat.le_of_ble_eq_true rfl) d_RL_init_42 rfl ?_
  exact hret 45 _ (qt, qs, qe, qb, ql) d_RL_init_45 trivial
