theorem kw_0_157 : Cond.classLink "IgnoreRulesLaw" 13 "java/lang/IllegalArgumentException" ∈ ig_T := ig_T_mem (List.mem_append_left _ (List.mem_of_getElem? (i := 157) rfl)) rfl
theorem kw_0_158 : Cond.methodLink "IgnoreRulesLaw" 7 y_IR_feed ∈ ig_T := ig_T_mem (List.mem_append_left _ (List.mem_of_getElem? (i := 158) rfl)) rfl
theorem kw_0_159 : Cond.instanceMethod y_IR_feed ∈ ig_T := ig_T_mem (List.mem_append_left _ (List.mem_of_getElem? (i := 159) rfl)) rfl
theorem kw_0_160 : Cond.selects "IgnoreRules" y_IR_feed y_IR_feed ∈ ig_T := ig_T_mem (List.mem_append_left _ (List.mem_of_getElem? (i := 160) rfl)) rfl
theorem d_LW_feed_0 : decode b_LW_feed 0 = .ok (.aload 4, 2) := by decide +kernel
theorem d_LW_feed_2 : decode b_LW_feed 2 = .ok (.iconst 0, 1) := by decide +kernel
theorem d_LW_feed_3 : decode b_LW_feed 3 = .ok (.aload_n 0, 1) := by decide +kernel
theorem d_LW_feed_4 : decode b_LW_feed 4 = .ok (.iload_n 1, 1) := by decide +kernel
theorem d_LW_feed_5 : decode b_LW_feed 5 = .ok (.lload_n 2, 1) := by decide +kernel
theorem d_LW_feed_6 : decode b_LW_feed 6 = .ok (.invokevirtual 7, 3) := by decide +kernel
theorem d_LW_feed_9 : decode b_LW_feed 9 = .ok (.i2l, 1) := by decide +kernel
theorem d_LW_feed_10 : decode b_LW_feed 10 = .ok (.lastore, 1) := by decide +kernel
theorem d_LW_feed_11 : decode b_LW_feed 11 = .ok (.goto 7, 3) := by decide +kernel
theorem d_LW_feed_14 : decode b_LW_feed 14 = .ok (.astore 5, 2) := by decide +kernel
theorem d_LW_feed_16 : decode b_LW_feed 16 = .ok (.iconst 1, 1) := by decide +kernel
theorem d_LW_feed_17 : decode b_LW_feed 17 = .ok (.ireturn, 1) := by decide +kernel
theorem d_LW_feed_18 : decode b_LW_feed 18 = .ok (.iconst 0, 1) := by decide +kernel
theorem d_LW_feed_19 : decode b_LW_feed 19 = .ok (.ireturn, 1) := by decide +kernel
abbrev w_LW_feed : List Cond := Cond.codeWith y_LW_feed b_LW_feed 6 (some .int) [(0, 11, 14, 13)] :: ig_T
theorem kc_LW_feed : ∀ w ∈ w_LW_feed, w ∈ ig_T := fun w h => (List.mem_cons.mp h).elim (fun e => by rw [e]; exact ig_T_mem (List.mem_append_left _ (List.mem_of_getElem? (i := 156) rfl)) rfl) id
set_option maxHeartbeats 4000000 in
set_option maxRecDepth 100000 in
theorem c_LW_feed (l : Launch) (hl0 : l.stackTraces = false) (dC : Nat → ClassId) (dI : Nat → Nat → Nat) (cC cI cZ cL : ClassId) (x0 qT q0 s0 p0 m0 w0 : Nat)  (tl : Nat) (tA : Nat → Int32) (oL : Nat → Int64) (x : Int32) (b : Int64) (sz : Nat) (hr : r_LW_feed tl tA oL x b) : Met l y_LW_feed w_LW_feed ({ frames := 7, cells := 1, slots := 6, locals := 106 }) (ig_PcX (dC, dI) ig_cl0 [(cC, .char), (cI, .int), (cZ, .boolean), (cL, .long)] [.ref x0, .int x, .long b, .ref w0] [(x0, .inr (ciIR, [.ref qT, .int (nI tl), .ref q0, .ref s0, .ref p0, .ref m0])), (qT, .inl (cC, 1000, .inl tA)), (w0, .inl (cL, 1, .inr (.inl oL)))] sz) (va_Qi (fun (r : Int32) (u : Nat × (Nat → Int32) × (Nat → Int64)) => ∃ zr : Nat, r = nI zr ∧ q_LW_feed tl tA oL x b zr u.1 u.2.1 u.2.2) (fun u t => va_P (dC, dI) ig_cl0 ((fun (u : Nat × (Nat → Int32) × (Nat → Int64)) => [(x0, .inr (ciIR, [.ref qT, .int (nI u.1), .ref q0, .ref s0, .ref p0, .ref m0])), (qT, .inl (cC, 1000, .inl u.2.1)), (w0, .inl (cL, 1, .inr (.inl u.2.2)))]) u) t.heap ∧ va_D (va_A [(x0, .inr (ciIR, [.ref qT, .int (nI tl), .ref q0, .ref s0, .ref p0, .ref m0])), (qT, .inl (cC, 1000, .inl tA)), (w0, .inl (cL, 1, .inr (.inl oL)))] sz) ((fun (u : Nat × (Nat → Int32) × (Nat → Int64)) => [(x0, .inr (ciIR, [.ref qT, .int (nI u.1), .ref q0, .ref s0, .ref p0, .ref m0])), (qT, .inl (cC, 1000, .inl u.2.1)), (w0, .inl (cL, 1, .inr (.inl u.2.2)))]) u)) (va_A [(x0, .inr (ciIR, [.ref qT, .int (nI tl), .ref q0, .ref s0, .ref p0, .ref m0])), (qT, .inl (cC, 1000, .inl tA)), (w0, .inl (cL, 1, .inr (.inl oL)))] sz)) 1 6 (va_A [(x0, .inr (ciIR, [.ref qT, .int (nI tl), .ref q0, .ref s0, .ref p0, .ref m0])), (qT, .inl (cC, 1000, .inl tA)), (w0, .inl (cL, 1, .inr (.inl oL)))] sz) := by
  refine ig_metH (fun (r : Int32) (u : Nat × (Nat → Int32) × (Nat → Int64)) => ∃ zr : Nat, r = nI zr ∧ q_LW_feed tl tA oL x b zr u.1 u.2.1 u.2.2) (fun (u : Nat × (Nat → Int32) × (Nat → Int64)) => [(x0, .inr (ciIR, [.ref qT, .int (nI u.1), .ref q0, .ref s0, .ref p0, .ref m0])), (qT, .inl (cC, 1000, .inl u.2.1)), (w0, .inl (cL, 1, .inr (.inl u.2.2)))]) (by decide) rfl (Nat.le_of_ble_eq_true rfl) rfl ?_
  intro zp ze zs zm zargs zbelow zmeth zc zA zQ hx hb hml hown hts hK hN hA hXf htab hret
  have hr9 := hr
  unfold r_LW_feed at hr9
  by_cases hT1 : (x < 1 ∨ 8 < x)
  · refine ig_aload hx hb 3 d_LW_feed_0 rfl ?_
    refine ig_iconst (v := 0) hx hb d_LW_feed_2 (by decide) ?_
    refine ig_aload_n hx hb 0 d_LW_feed_3 rfl rfl ?_
    refine ig_iload_n hx hb 1 d_LW_feed_4 rfl rfl ?_
    refine ig_lload_n hx hb 2 d_LW_feed_5 rfl rfl ?_
    refine ig_cVxi (As := [.int x, .long b]) (rest := [.int 0, .ref w0]) (wr := [(w0, .inl (cL, 1, .inr (.inl oL)))]) hx hb hml hown hts hK hN hA hXf (fun sz => x_X_feed l hl0 dC dI cC cI cZ cL x0 qT q0 s0 p0 m0 tl tA x b sz hT1) ⟨callB_of 2 hts g_IR_feed rfl rfl rfl (hts _ kw_0_1) (hts _ kw_0_158) (by decide +kernel) (by decide), (hts _ kw_0_159), (hts _ kw_0_160)⟩ rfl rfl (Nat.le_of_ble_eq_true rfl) d_LW_feed_6 (by decide) 0 rfl rfl [0, 1] [2] [1, 2, 0] rfl rfl (by decide) (by decide) (by decide) rfl rfl (ig_ca hown hts [] ⟨0, 11, 14, 13⟩ [] (by rw [htab]; rfl) (fun z hz => nomatch hz) (by decide) (by decide) kw_0_157 (va_tabs rfl rfl (hXf.2.2.2.2.2.2 ig_IAE (List.mem_of_getElem? (i := 0) rfl))) (fun q9 => ?_))
    refine ig_astore (lv' := [(5, .ref q9), (0, .ref x0), (1, .int x), (2, .long b), (4, .ref w0)]) hx hb d_LW_feed_14 (by decide) rfl ?_
    refine ig_iconst (v := 1) hx hb d_LW_feed_16 (by decide) ?_
    exact hret (0 + 1) (0 + 6) (by decide) (by decide) 17 _ _ (tl, tA, oL) d_LW_feed_17 ⟨1, rfl, ⟨fun _ => ⟨rfl, rfl, rfl⟩, fun q => absurd hT1 q⟩⟩
  have hret0 : ∀ (pc : Nat) (lv : List (Nat × Value)) (r : Int32) (u : Nat × (Nat → Int32) × (Nat → Int64)), decode b_LW_feed pc = .ok (.ireturn, 1) → (∃ zr : Nat, r = nI zr ∧ pn_LW_feed tl tA oL x b zr u.1 u.2.1 u.2.2) → ig_W zp l ze ({ frames := 7, cells := 1, slots := 6, locals := 106 }) zs zm zargs zbelow zmeth zc (dC, dI) ig_cl0 zA zs.heap 6 0 0 zQ pc lv [.int r] ((fun (u : Nat × (Nat → Int32) × (Nat → Int64)) => [(x0, .inr (ciIR, [.ref qT, .int (nI u.1), .ref q0, .ref s0, .ref p0, .ref m0])), (qT, .inl (cC, 1000, .inl u.2.1)), (w0, .inl (cL, 1, .inr (.inl u.2.2)))]) u) := fun pc lv r u hd h => hret 0 0 (by decide) (by decide) pc lv r u hd (by obtain ⟨zr, h2, h3⟩ := h; exact ⟨zr, h2, ⟨fun q => absurd q hT1, fun _ => h3⟩⟩)
  have hv := t_LW_feed tl tA oL x b hr hT1
  unfold v_LW_feed at hv
  refine ig_aload hx hb 3 d_LW_feed_0 rfl ?_
  refine ig_iconst (v := 0) hx hb d_LW_feed_2 (by decide) ?_
  refine ig_aload_n hx hb 0 d_LW_feed_3 rfl rfl ?_
  refine ig_iload_n hx hb 1 d_LW_feed_4 rfl rfl ?_
  refine ig_lload_n hx hb 2 d_LW_feed_5 rfl rfl ?_
  obtain ⟨hc, hv⟩ := hv
  refine ig_cVi (As := [.int x, .long b]) (rest := [.int 0, .ref w0]) (wr := [(w0, .inl (cL, 1, .inr (.inl oL)))]) (ws' := fun u => [(x0, .inr (ciIR, [.ref qT, .int (nI u.1), .ref q0, .ref s0, .ref p0, .ref m0])), (qT, .inl (cC, 1000, .inl u.2)), (w0, .inl (cL, 1, .inr (.inl oL)))]) hx hb hml hown hts hK hN hA (fun sz => c_IR_feed l dC dI cC cI cZ cL x0 qT q0 s0 p0 m0 tl tA x b sz hc) ⟨callB_of 2 hts g_IR_feed rfl rfl rfl (hts _ kw_0_1) (hts _ kw_0_158) (by decide +kernel) (by decide), (hts _ kw_0_159), (hts _ kw_0_160)⟩ rfl rfl (Nat.le_of_ble_eq_true rfl) d_LW_feed_6 (by decide) 0 rfl rfl [0, 1] [2] [1, 2, 0] rfl rfl (by decide) (by decide) (by decide) (fun _ => rfl) (fun _ => rfl) (fun r u hr => ?_)
  obtain ⟨tl1, tA2⟩ := u
  obtain ⟨r3, hu⟩ : ∃ z, z = r := ⟨_, rfl⟩
  subst hu
  unfold p_IR_feed at hr
  have hv := hv r3 tl1 tA2 hr
  refine ig_i2l (v := r3.toInt64) hx hb d_LW_feed_9 rfl ?_
  obtain ⟨hc, hv⟩ := hv
  refine ig_last (ws' := [(x0, .inr (ciIR, [.ref qT, .int (nI tl1), .ref q0, .ref s0, .ref p0, .ref m0])), (qT, .inl (cC, 1000, .inl tA2)), (w0, .inl (cL, 1, .inr (.inl (vp_updL oL 0 r3.toInt64))))]) hx hb hK 2 3 rfl rfl 0 rfl hc (by decide) d_LW_feed_10 rfl ?_
  refine ig_goto (tgt := 18) hx hb d_LW_feed_11 (by decide) ?_
  refine ig_iconst (v := 0) hx hb d_LW_feed_18 (by decide) ?_
  exact hret0 19 _ 0 (tl1, tA2, vp_updL oL 0 r3.toInt64) d_LW_feed_19 ⟨0, rfl, hv⟩
