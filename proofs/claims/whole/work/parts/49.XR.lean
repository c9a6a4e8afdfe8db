/-! methods that throw, methods that make cells: my rows over the kit's -/
def ig_IAE : String := "java/lang/IllegalArgumentException"
def ig_ISE : String := "java/lang/IllegalStateException"
def ig_IOO : String := "java/lang/IndexOutOfBoundsException"
abbrev ig_up : List String := ["java/lang/RuntimeException", "java/lang/Exception"]
def ig_dcl : List MethodName := [⟨"java/lang/RuntimeException", "<init>", "(Ljava/lang/String;)V"⟩, ⟨"java/lang/Exception", "<init>", "(Ljava/lang/String;)V"⟩, ⟨"java/lang/Throwable", "<init>", "(Ljava/lang/String;)V"⟩]
def ig_exs : List String := [ig_IAE, ig_ISE, ig_IOO]
def ig_B : List Cond := ig_dcl.map Cond.declares ++ ig_exs.map (fun C => Cond.castable C C)
/-- what a throw wants beside the tables' words -/
def ig_Xf (A : Nat → Prop) (U : State) (H : Heap) : Prop := vx_Zq Bundle.tN "UNASSIGNED_STACK" Bundle.steD A U H ∧ vx_Zq Bundle.tN "SUPPRESSED_SENTINEL" Bundle.listD A U H ∧ (∀ q ∈ ig_strs, ∃ sa : Nat, vk_R "IgnoreRules" q.1 q.2 sa U) ∧ va_Nc ig_IAE ig_IOO U ∧ va_Nc ig_ISE ig_IOO U ∧ (∀ x ∈ ig_dcl, va_Nw (.declares x) U) ∧ ∀ C ∈ ig_exs, va_Nw (.castable C C) U
theorem ig_Xf.warm {A : Nat → Prop} {u U : State} {H : Heap} (hW : u.WarmedH U.vm) (h : ig_Xf A u H) : ig_Xf A U H := by
  obtain ⟨h1, h2, h3, h4, h5, h6, h7⟩ := h
  refine ⟨vx_Zq.moved hW.alike h1, vx_Zq.moved hW.alike h2, fun q hq => ?_, va_Nc.moved hW.alike h4, va_Nc.moved hW.alike h5, fun x hx => va_Nw.warmD hW (h6 x hx), fun x hx => va_Nw.warmC hW (h7 x hx)⟩
  obtain ⟨sa, hs⟩ := h3 q hq
  exact ⟨sa, vk_R.warm hW hs⟩
theorem ig_Xf.same {A : Nat → Prop} {u U : State} {H : Heap} (hv : u.vm = U.vm) (h : ig_Xf A u H) : ig_Xf A U H := by
  obtain ⟨h1, h2, h3, h4, h5, h6, h7⟩ := h
  have hal : u.vm.Alike U.vm := by rw [← hv]; exact Vm.Alike.refl u.vm
  refine ⟨vx_Zq.moved hal h1, vx_Zq.moved hal h2, fun q hq => ?_, va_Nc.moved hal h4, va_Nc.moved hal h5, fun x hx => va_Nw.same rfl hv (h6 x hx), fun x hx => va_Nw.same rfl hv (h7 x hx)⟩
  obtain ⟨sa, hs⟩ := h3 q hq
  exact ⟨sa, vk_R.same hv.symm hs⟩
theorem ig_Xf.kept {A : Nat → Prop} {U : State} {H H1 : Heap} (h : ig_Xf A U H) (hq : ∀ a : Nat, a < H.size → ¬ A a → H1[a]? = H[a]?) : ig_Xf A U H1 := ⟨vx_Zq.kept h.1 hq, vx_Zq.kept h.2.1 hq, h.2.2⟩
theorem ig_Xf.narrow {A B : Nat → Prop} {U : State} {H : Heap} (h : ig_Xf A U H) (hAB : ∀ q, B q → A q) : ig_Xf B U H := ⟨vx_Zq.narrow h.1 hAB, vx_Zq.narrow h.2.1 hAB, h.2.2⟩
abbrev ig_PcX (D : va_G) (cl : List vw_C) (tys : List (ClassId × FieldType)) (av : List Value) (w0 : va_W) (sz : Nat) : Array Value → State → Prop := va_Pc av (fun U => U.heap.size = sz ∧ va_P D cl w0 U.heap ∧ va_K D cl tys U ∧ va_D (fun _ => True) w0 ∧ ig_N U ∧ ig_Xf (va_A w0 sz) U U.heap)
theorem ig_blindX {D : va_G} {cl : List vw_C} {tys : List (ClassId × FieldType)} {av : List Value} {w0 : va_W} {sz : Nat} : FrameBlind (ig_PcX D cl tys av w0 sz) := by
  intro a U g mk q
  obtain ⟨q0, q1, qP, qK, qD, qN, qX⟩ := q
  exact ⟨q0, q1, qP, va_K.moved (u := U) (U := U.calling g mk a) (Vm.Alike.refl U.vm) qK, qD, ig_N.same (s := U) (U := U.calling g mk a) rfl qN, ig_Xf.same (u := U) (U := U.calling g mk a) rfl qX⟩
theorem ig_preX {D : va_G} {cl : List vw_C} {tys : List (ClassId × FieldType)} {av : List Value} {w0 : va_W} {s : State} {H : Heap} (hK : va_K D cl tys s) (hN : ig_N s) (hP : va_P D cl w0 H) (hD : va_D (fun _ => True) w0) (hX : ig_Xf (va_A w0 H.size) s H) : ∀ U : State, U.heap = H → s.WarmedH U.vm → ig_PcX D cl tys av w0 H.size av.toArray U := fun U hU hW => ⟨rfl, by rw [hU], by rw [hU]; exact hP, va_K.moved hW.alike hK, hD, hN.warm hW, by rw [hU]; exact ig_Xf.warm hW hX⟩
/-- thrown: the class, and the cells as they were -/
abbrev ig_XC (D : va_G) (cl : List vw_C) (A : Nat → Prop) (w0 : va_W) (E : String) : String → State → State → Prop := vx_X (S := Unit) (fun _ => True) (fun E' _ t => E' = E ∧ va_P D cl w0 t.heap ∧ va_D A w0) A
theorem ig_metX {Qc : Array Value → State → Outcome → State → Prop} {l : Launch} {D : va_G} {cl : List vw_C} {tys : List (ClassId × FieldType)} {y : MethodName} {rm : Room} {cc : ByteArray} {maxL : Nat} {ret : Option FieldType} {av : List Value} {lv0 : List (Nat × Value)} {w0 : va_W} {sz : Nat} {ws : List Cond} {E : String}
    (hy : plainName y.cls = true) (hw : ws = Cond.code y cc maxL ret :: ig_T) (hlen : (lg_sl av).length ≤ maxL) (hlv : lv_args 0 av = lv0)
    (body : ∀ (p : Program) (e : Env) (s : State) (m : MethodId) (args : Array Value) (below : List Frame) (meth : Method) (c : Code) (A : Nat → Prop), p.tables.exec = Jvm.exec → c.code = cc → c.maxLocals = maxL → s.vm.findClass y.cls = some m.cls → (∀ w ∈ ig_T, w.before args s = true) → va_K D cl tys s → ig_N s → (∀ q : Nat, s.heap.size ≤ q → A q) → ig_Xf A s s.heap → (∀ x ∈ c.exceptionTable.toList, False) → meth.locks = false →
      ig_W p l e rm s m args below meth c D cl A s.heap maxL 0 0 (vx_MQ below Qc (ig_XC D cl A w0 E) args s 1 6 A) 0 lv0 [] w0) :
    vx_Met l y ws rm (ig_PcX D cl tys av w0 sz) Qc (ig_XC D cl (va_A w0 sz) w0 E) 1 6 (va_A w0 sz) := by
  refine vx_ofW (cc := cc) (maxL := maxL) (ret := ret) hy hw ?_
  intro p e s m args below meth c s₁ B hml hno hv
  obtain ⟨rfl, hsz, hP, hK, hD0, hN, hX⟩ := hv
  subst hsz
  have hD := hD0.self (sz := s.heap.size)
  have hl := lv_entry av (n := maxL) hlen
  rw [lg_entry_eq]
  rw [hlv] at hl
  exact body p e s m _ below meth c (va_A w0 s.heap.size) B.exec B.bytes hml (findClass_of_methodNamed B.named) (fun w h => atoms_spec (ws := ws) B.pre w (by rw [hw]; exact List.mem_cons_of_mem _ h)) hK hN (fun q h => Or.inr h) hX hno B.notSynchronized s.heap [] _ hl hP hD va_S.rf
section IGX
variable {p : Program} {l : Launch} {e : Env} {R : Room} {s : State} {m : MethodId} {args : Array Value} {below : List Frame} {meth : Method} {c : Code} {D : va_G} {cl : List vw_C} {A : Nat → Prop} {H0 : Heap} {nL cells slots : Nat} {Q : State → Prop}
variable {cc : ByteArray} {pc : Nat} {lv : List (Nat × Value)} {st : List Value} {ws : va_W} {tys : List (ClassId × FieldType)}
theorem ig_thr {Qc : Array Value → State → Outcome → State → Prop} (hx : p.tables.exec = Jvm.exec) (hb : c.code = cc) (hl0 : l.stackTraces = false) (hml : c.maxLocals = nL) (hown : s.vm.findClass "IgnoreRules" = some m.cls) (hts : ∀ w ∈ ig_T, w.before args s = true) (hXf : ig_Xf A s s.heap) (hno : ∀ x ∈ c.exceptionTable.toList, False) (hlk : meth.locks = false) (ik is ic : Nat) (text : String) {E : String}
    (hE : Bundle.fit E = true) (hstr : (is, text) ∈ ig_strs) (hat : ((∀ w ∈ Cond.classLink "IgnoreRules" ik E :: Cond.initialized E :: (vx_atS "IgnoreRules" ic E ig_up).filter goodWord, w ∈ ig_T) ∧ ∀ w ∈ (vx_atS "IgnoreRules" ic E ig_up).filter (fun w => !goodWord w), w ∈ ig_B) ∧ ∀ w ∈ Cond.classLink "IgnoreRules" ik E :: Cond.initialized E :: vx_atS "IgnoreRules" ic E ig_up, vx_ot w = true)
    (d0 : decode cc pc = .ok (.new ik, 3)) (d3 : decode cc (pc + 3) = .ok (.dup, 1)) (d4 : decode cc (pc + 4) = .ok (.ldc is, 2)) (d6 : decode cc (pc + 6) = .ok (.invokespecial ic, 3)) (d9 : decode cc (pc + 9) = .ok (.athrow, 1))
    (hRf : 5 < R.frames) (hRl : (st.map fun v => v.category).sum + 82 ≤ R.locals) (hRc : 1 ≤ R.cells) (hRs : 6 ≤ R.slots) : ig_W p l e R s m args below meth c D cl A s.heap nL 0 0 (vx_MQ below Qc (ig_XC D cl A ws E) args s 1 6 A) pc lv st ws := by
  intro H locs ls hl hP hD hS
  obtain ⟨sa, hsa⟩ := hXf.2.2.1 _ hstr
  refine vx_throwS (own := "IgnoreRules") (names := ig_up) (ik := ik) (is := is) (ic := ic) (sa := sa) (text := text) (A := A) hx hb hl0 hown hE (by decide) (hts _ (hat.1.1 _ List.mem_cons_self)) (hts _ (hat.1.1 _ (List.mem_cons_of_mem _ List.mem_cons_self))) hsa (vx_hat (B := ig_B) (fun w h => hts w (hat.1.1 w (List.mem_cons_of_mem _ (List.mem_cons_of_mem _ h)))) hat.1.2 (fun w h => by
    rcases List.mem_append.mp h with h | h
    · obtain ⟨x, h1, h2⟩ := List.mem_map.mp h
      rw [← h2]
      exact va_tabs rfl rfl (hXf.2.2.2.2.2.1 x h1)
    · obtain ⟨x, h1, h2⟩ := List.mem_map.mp h
      rw [← h2]
      exact va_tabs rfl rfl (hXf.2.2.2.2.2.2 x h1))) hat.2 hXf.1 hXf.2.1 hS (hl.1.trans hml.symm) d0 d3 d4 d6 d9 (fun x hx => (hno x hx).elim) (by rw [show ig_up.length + 3 = 5 from rfl]; exact hRf) (by rw [show 13 * (ig_up.length + 1) + 43 = 82 from rfl]; exact hRl) (by omega) (by omega) hlk (fun t _ hz hk => ⟨(), trivial, ⟨rfl, hP.kept (fun k x hx => hk _ ((hP k x hx).lt)), hD⟩, Nat.le_trans hS.1 hz, fun q h1 h2 => (hk q (Nat.lt_of_lt_of_le h1 hS.1)).trans (hS.2.1 q h1 h2)⟩) (fun z hz => hS.2.2 z hz) (by omega) (by omega)
theorem ig_goxi {wc wr : va_W} {rest : List Value} {a : Array Value} {E : String} (hA : ∀ q : Nat, H0.size ≤ q → A q) (hXf : ig_Xf A s H0) (isC isR isB : List Nat) (hC : isC.map (fun i => ws[i]?) = wc.map some) (hR : isR.map (fun i => ws[i]?) = wr.map some) (hCn : va_nd isC = true) (hRn : va_nd isR = true ∧ ∀ i ∈ isR, i ∉ isC) (hBn : va_nd isB = true) (hB1 : isB.filterMap (fun i => (wr ++ wc)[i]?) = ws) (hB2 : isB.map (fun i => (wr ++ wc)[i]?) = ws.map some)
    (run : ∀ (H : Heap) (locs : List Loc) (ls : Array Slot), lv_has ls nL lv → va_P D cl wc H → va_D (fun _ => True) wc → ig_Xf (va_A wc H.size) s H → vx_Run p l e R s m args below meth c H locs cells slots 1 6 (F0 m pc ls st) rest (va_Qi (fun _ (_ : Unit) => False) (fun _ _ => True) (va_A wc H.size) a) (ig_XC D cl (va_A wc H.size) wc E) (va_A wc H.size))
    (kx : ∀ (H1 : Heap) (locs1 : List Loc) (ls : Array Slot) (q9 : Nat) (ce : Cell), lv_has ls nL lv → va_P D cl ws H1 → va_D A ws → va_S A H0 H1 locs1 → H1[q9]? = some ce → ce.vm = .none → s.vm.findClass E = some ce.cls → vx_W p l e R s m args below meth c H1 locs1 (cells + 1) (slots + 6) Q (F0 m pc ls rest) q9) : ig_W p l e R s m args below meth c D cl A H0 nL cells slots Q pc lv st ws := by
  intro H locs ls hl hP hD hS
  have hPc : va_P D cl wc H := by
    intro k q hk
    have h1 : (isC.map (fun i => ws[i]?))[k]? = some (some q) := by rw [hC, List.getElem?_map, hk]; rfl
    rw [List.getElem?_map] at h1
    cases hi : isC[k]? with
    | none => rw [hi] at h1; cases h1
    | some i => rw [hi] at h1; exact hP i q (Option.some.inj h1)
  have hDc := hD.sub isC hCn hC
  have hFc := va_free (wc := wc) hD hS hA isC hC
  have hXc : ig_Xf (va_A wc H.size) s H := (hXf.kept hS.2.1).narrow hFc
  refine vx_calli (run H locs ls hl hPc (hDc.weaken (fun _ _ _ _ => trivial)) hXc) hS (fun q _ h => hFc q h) hFc (fun q _ h => hFc q h) (fun E' ce q9 u t H1 locs1 ht hvm hp hB hz1 hk1 hS1 hce hcv hcl => ?_) (fun r u t H1 locs1 ht hvm hp hB hz1 hk1 hS1 => hp.elim)
  obtain ⟨rfl, hP1, hD1⟩ := hB
  rw [ht] at hP1
  obtain ⟨hP2, hD2⟩ := va_join (wr := wr) (w1 := wc) hP hD isC isR hC hR hRn.1 hRn.2 hk1 hFc hP1 hD1
  exact kx H1 locs1 ls q9 ce hl (hP2.sub isB hB1) (hD2.sub isB hBn hB2) hS1 hce hcv hcl
theorem ig_goxv {wc wr : va_W} {rest : List Value} {a : Array Value} {E : String} (hA : ∀ q : Nat, H0.size ≤ q → A q) (hXf : ig_Xf A s H0) (isC isR isB : List Nat) (hC : isC.map (fun i => ws[i]?) = wc.map some) (hR : isR.map (fun i => ws[i]?) = wr.map some) (hCn : va_nd isC = true) (hRn : va_nd isR = true ∧ ∀ i ∈ isR, i ∉ isC) (hBn : va_nd isB = true) (hB1 : isB.filterMap (fun i => (wr ++ wc)[i]?) = ws) (hB2 : isB.map (fun i => (wr ++ wc)[i]?) = ws.map some)
    (run : ∀ (H : Heap) (locs : List Loc) (ls : Array Slot), lv_has ls nL lv → va_P D cl wc H → va_D (fun _ => True) wc → ig_Xf (va_A wc H.size) s H → vx_Run p l e R s m args below meth c H locs cells slots 1 6 (F0 m pc ls st) rest (va_Qv (fun (_ : Unit) => False) (fun _ _ => True) (va_A wc H.size) a) (ig_XC D cl (va_A wc H.size) wc E) (va_A wc H.size))
    (kx : ∀ (H1 : Heap) (locs1 : List Loc) (ls : Array Slot) (q9 : Nat) (ce : Cell), lv_has ls nL lv → va_P D cl ws H1 → va_D A ws → va_S A H0 H1 locs1 → H1[q9]? = some ce → ce.vm = .none → s.vm.findClass E = some ce.cls → vx_W p l e R s m args below meth c H1 locs1 (cells + 1) (slots + 6) Q (F0 m pc ls rest) q9) : ig_W p l e R s m args below meth c D cl A H0 nL cells slots Q pc lv st ws := by
  intro H locs ls hl hP hD hS
  have hPc : va_P D cl wc H := by
    intro k q hk
    have h1 : (isC.map (fun i => ws[i]?))[k]? = some (some q) := by rw [hC, List.getElem?_map, hk]; rfl
    rw [List.getElem?_map] at h1
    cases hi : isC[k]? with
    | none => rw [hi] at h1; cases h1
    | some i => rw [hi] at h1; exact hP i q (Option.some.inj h1)
  have hDc := hD.sub isC hCn hC
  have hFc := va_free (wc := wc) hD hS hA isC hC
  have hXc : ig_Xf (va_A wc H.size) s H := (hXf.kept hS.2.1).narrow hFc
  refine vx_callv (run H locs ls hl hPc (hDc.weaken (fun _ _ _ _ => trivial)) hXc) hS (fun q _ h => hFc q h) hFc (fun q _ h => hFc q h) (fun E' ce q9 u t H1 locs1 ht hvm hp hB hz1 hk1 hS1 hce hcv hcl => ?_) (fun u t H1 locs1 ht hvm hp hB hz1 hk1 hS1 => hp.elim)
  obtain ⟨rfl, hP1, hD1⟩ := hB
  rw [ht] at hP1
  obtain ⟨hP2, hD2⟩ := va_join (wr := wr) (w1 := wc) hP hD isC isR hC hR hRn.1 hRn.2 hk1 hFc hP1 hD1
  exact kx H1 locs1 ls q9 ce hl (hP2.sub isB hB1) (hD2.sub isB hBn hB2) hS1 hce hcv hcl
theorem ig_cVxi {wc wr : va_W} {As rest : List Value} {E : String} (hx : p.tables.exec = Jvm.exec) (hb : c.code = cc) (hml : c.maxLocals = nL) {own : String} (hown : s.vm.findClass own = some m.cls) (hts : ∀ w ∈ ig_T, w.before args s = true) (hK : va_K D cl tys s) (hN : ig_N s) (hA : ∀ q : Nat, H0.size ≤ q → A q) (hXf : ig_Xf A s H0) {y : MethodName} {wy : List Cond} {rm : Room} {bytes : ByteArray} {maxL index n : Nat} {ret : Option FieldType} {b ci N : Nat} {fs : List Value} {T : u_T} (hM : ∀ sz : Nat, vx_Met l y wy rm (ig_PcX D cl tys (.ref b :: As) wc sz) (va_Qi (fun _ (_ : Unit) => False) (fun _ _ => True) (va_A wc sz)) (ig_XC D cl (va_A wc sz) wc E) 1 6 (va_A wc sz)) (cw : CallW R s args own y.cls index y bytes maxL ret wy rm 1 6 n) (hn : As.length = n) (hst : st = As.reverse ++ .ref b :: rest) (hroom : (rest.map fun v => v.category).sum ≤ 8) (hd : decode cc pc = .ok (.invokevirtual index, 3)) (hf : cells + 1 ≤ R.cells ∧ slots + 6 ≤ R.slots) (qb : Nat) (hq : wc[qb]? = some (b, .inr (ci, fs))) (hci : cl[ci]? = some (y.cls, T, N)) (isC isR isB : List Nat) (hC : isC.map (fun i => ws[i]?) = wc.map some) (hR : isR.map (fun i => ws[i]?) = wr.map some) (hCn : va_nd isC = true) (hRn : va_nd isR = true ∧ ∀ i ∈ isR, i ∉ isC) (hBn : va_nd isB = true) (hB1 : isB.filterMap (fun i => (wr ++ wc)[i]?) = ws) (hB2 : isB.map (fun i => (wr ++ wc)[i]?) = ws.map some)
    (kx : ∀ (H1 : Heap) (locs1 : List Loc) (ls : Array Slot) (q9 : Nat) (ce : Cell), lv_has ls nL lv → va_P D cl ws H1 → va_D A ws → va_S A H0 H1 locs1 → H1[q9]? = some ce → ce.vm = .none → s.vm.findClass E = some ce.cls → vx_W p l e R s m args below meth c H1 locs1 (cells + 1) (slots + 6) Q (F0 m pc ls rest) q9) : ig_W p l e R s m args below meth c D cl A H0 nL cells slots Q pc lv st ws :=
  ig_goxi hA hXf isC isR isB hC hR hCn hRn hBn hB1 hB2 (fun H locs ls hl hPc hDc hXc => vx_runV (As := As) (rest := rest) ⟨hx, hb, hml, hown, hts⟩ (hM H.size) cw ⟨ig_blindX, va_recv hK hPc hci hq, ig_preX hK hN hPc hDc hXc⟩ rfl hn hl.1 hst (lv_room hroom) hd hf) kx
theorem ig_cVxv {wc wr : va_W} {As rest : List Value} {E : String} (hx : p.tables.exec = Jvm.exec) (hb : c.code = cc) (hml : c.maxLocals = nL) {own : String} (hown : s.vm.findClass own = some m.cls) (hts : ∀ w ∈ ig_T, w.before args s = true) (hK : va_K D cl tys s) (hN : ig_N s) (hA : ∀ q : Nat, H0.size ≤ q → A q) (hXf : ig_Xf A s H0) {y : MethodName} {wy : List Cond} {rm : Room} {bytes : ByteArray} {maxL index n : Nat} {ret : Option FieldType} {b ci N : Nat} {fs : List Value} {T : u_T} (hM : ∀ sz : Nat, vx_Met l y wy rm (ig_PcX D cl tys (.ref b :: As) wc sz) (va_Qv (fun (_ : Unit) => False) (fun _ _ => True) (va_A wc sz)) (ig_XC D cl (va_A wc sz) wc E) 1 6 (va_A wc sz)) (cw : CallW R s args own y.cls index y bytes maxL ret wy rm 1 6 n) (hn : As.length = n) (hst : st = As.reverse ++ .ref b :: rest) (hroom : (rest.map fun v => v.category).sum ≤ 8) (hd : decode cc pc = .ok (.invokevirtual index, 3)) (hf : cells + 1 ≤ R.cells ∧ slots + 6 ≤ R.slots) (qb : Nat) (hq : wc[qb]? = some (b, .inr (ci, fs))) (hci : cl[ci]? = some (y.cls, T, N)) (isC isR isB : List Nat) (hC : isC.map (fun i => ws[i]?) = wc.map some) (hR : isR.map (fun i => ws[i]?) = wr.map some) (hCn : va_nd isC = true) (hRn : va_nd isR = true ∧ ∀ i ∈ isR, i ∉ isC) (hBn : va_nd isB = true) (hB1 : isB.filterMap (fun i => (wr ++ wc)[i]?) = ws) (hB2 : isB.map (fun i => (wr ++ wc)[i]?) = ws.map some)
    (kx : ∀ (H1 : Heap) (locs1 : List Loc) (ls : Array Slot) (q9 : Nat) (ce : Cell), lv_has ls nL lv → va_P D cl ws H1 → va_D A ws → va_S A H0 H1 locs1 → H1[q9]? = some ce → ce.vm = .none → s.vm.findClass E = some ce.cls → vx_W p l e R s m args below meth c H1 locs1 (cells + 1) (slots + 6) Q (F0 m pc ls rest) q9) : ig_W p l e R s m args below meth c D cl A H0 nL cells slots Q pc lv st ws :=
  ig_goxv hA hXf isC isR isB hC hR hCn hRn hBn hB1 hB2 (fun H locs ls hl hPc hDc hXc => vx_runV (As := As) (rest := rest) ⟨hx, hb, hml, hown, hts⟩ (hM H.size) cw ⟨ig_blindX, va_recv hK hPc hci hq, ig_preX hK hN hPc hDc hXc⟩ rfl hn hl.1 hst (lv_room hroom) hd hf) kx
/-- not caught: it leaves the method -/
theorem ig_xo {Qc : Array Value → State → Outcome → State → Prop} {E : String} {rest : List Value} (hno : ∀ x ∈ c.exceptionTable.toList, False) (hlk : meth.locks = false) : ∀ (H1 : Heap) (locs1 : List Loc) (ls : Array Slot) (q9 : Nat) (ce : Cell), lv_has ls nL lv → va_P D cl ws H1 → va_D A ws → va_S A s.heap H1 locs1 → H1[q9]? = some ce → ce.vm = .none → s.vm.findClass E = some ce.cls → vx_W p l e R s m args below meth c H1 locs1 (0 + 1) (0 + 6) (vx_MQ below Qc (ig_XC D cl A ws E) args s 1 6 A) (F0 m pc ls rest) q9 :=
  fun _ _ _ _ _ _ hP hD hS hce hcv hcl => vx_out (fun x hx => (hno x hx).elim) hlk hce hcv hcl (fun _ ht _ => ⟨(), trivial, ⟨rfl, by rw [ht]; exact hP, hD⟩, hS.F ht⟩) (fun z hz => hS.2.2 z hz) (by omega) (by omega)
/-- cells are made -/
theorem ig_new (hx : p.tables.exec = Jvm.exec) (hb : c.code = cc) {own C : String} {T : u_T} {N ci index : Nat} {fs : List Value} (hts : ∀ w ∈ ig_T, w.before args s = true) (hin : ∀ w ∈ u_ws C T N, w ∈ ig_T) (ty : Nat → FieldType) (hty : ∀ k, k < N → parseFieldDescriptor (T k).2.2.1 = some (ty k)) (hown : s.vm.findClass own = some m.cls) (hcl : Cond.classLink own index C ∈ ig_T) (hinst : Cond.instantiable C N ∈ ig_T) (hini : Cond.initialized C ∈ ig_T) (hK : va_K D cl tys s) (hA : ∀ q : Nat, H0.size ≤ q → A q) (hc : cl[ci]? = some (C, T, N)) (hfs : ∀ j, j < N → defaultValue (ty j) = vp_V fs j) (hcells : cells + 1 ≤ R.cells) (hslots : slots + N ≤ R.slots) (hd : decode cc pc = .ok (.new index, 3)) {ws' : Nat → va_W} (hw : ∀ q, ws ++ [(q, .inr (ci, fs))] = ws' q)
    (k : ∀ q : Nat, ig_W p l e R s m args below meth c D cl A H0 nL (cells + 1) (slots + N) Q (pc + 3) lv (.ref q :: st) (ws' q)) : ig_W p l e R s m args below meth c D cl A H0 nL cells slots Q pc lv st ws :=
  fun H locs ls hl hP hD hS => va_new hx hb hts hin ty hty hown (hts _ hcl) (hts _ hinst) (hts _ hini) hK hP hD hS hA hc hfs hcells hslots hd (fun q H1 hP1 hD1 hS1 => k q H1 locs ls hl (hw q ▸ hP1) (hw q ▸ hD1) hS1)
theorem ig_newa (hx : p.tables.exec = Jvm.exec) (hb : c.code = cc) {atype : ArrayType} {ty : FieldType} (hts : ∀ w ∈ ig_T, w.before args s = true) (harr : Cond.arrayClass (newarray.typeOf atype) ∈ ig_T) (hty : newarray.typeOf atype = ty) (hK : va_K D cl tys s) (hA : ∀ q : Nat, H0.size ≤ q → A q) (t0 : Nat) {cA : ClassId} (ht : tys[t0]? = some (cA, ty)) (hnm : ∀ c1 c2 : ClassId, va_RA s c1 ty → va_RA s c2 ty → c1 = c2)
    {n : Int32} {N' : Nat} {a0 : vp_A} (ha : ∀ cA : ClassId, vp_cell cA a0 = arrV cA N' (fun _ => defaultValue ty)) (hn : n = nI N') (hN : N' < 2147483648) (hbytes : N' * componentBytes ty ≤ 536870912) (hcells : cells + 1 ≤ R.cells) (hslots : slots + N' ≤ R.slots) (hd : decode cc pc = .ok (.newarray atype, 2)) {ws' : Nat → va_W} (hw : ∀ q, ws ++ [(q, .inl (cA, a0))] = ws' q)
    (k : ∀ q : Nat, ig_W p l e R s m args below meth c D cl A H0 nL (cells + 1) (slots + N') Q (pc + 2) lv (.ref q :: st) (ws' q)) : ig_W p l e R s m args below meth c D cl A H0 nL cells slots Q pc lv (.int n :: st) ws := by
  intro H locs ls hl hP hD hS
  subst hn
  refine va_newa hx hb (hts _ harr) hty hK hP hD hS hA ha (nI_pos hN) (ig_cl hN) hbytes hcells hslots hd (fun q cA2 H1 hK1 hP1 hD1 hS1 => ?_)
  have h1 := (hK.2 t0 _ ht).2
  have h2 := (hK1.2 tys.length (cA2, ty) (by rw [List.getElem?_append_right (Nat.le_refl _), Nat.sub_self]; rfl)).2
  have e : cA2 = cA := hnm _ _ h2 h1
  subst e
  exact k q H1 locs ls hl (hw q ▸ hP1) (hw q ▸ hD1) hS1
theorem ig_obj (hx : p.tables.exec = Jvm.exec) (hb : c.code = cc) (hml : c.maxLocals = nL) {own : String} (hown : s.vm.findClass own = some m.cls) {idx : Nat} (hts : ∀ w ∈ ig_T, w.before args s = true) (hlink : Cond.methodLink own idx Lib.objectInit ∈ ig_T) (hinst : Cond.instanceMethod Lib.objectInit ∈ ig_T) (hcode : Cond.code Lib.objectInit ⟨#[0xb1]⟩ 1 none ∈ ig_T) {a : Addr} (hd : decode cc pc = .ok (.invokespecial idx, 3)) (hframes : 1 ≤ R.frames) (hlocals : (st.map fun v => v.category).sum + 12 ≤ R.locals)
    (k : ig_W p l e R s m args below meth c D cl A H0 nL cells slots Q (pc + 3) lv st ws) : ig_W p l e R s m args below meth c D cl A H0 nL cells slots Q pc lv (.ref a :: st) ws :=
  fun H locs ls hl hP hD hS => W.objInit hx hb hown (hts _ hlink) (hts _ hinst) (hts _ hcode) rfl (hl.1.trans hml.symm) rfl hd hframes (show 2 * 0 + (st.map fun v => v.category).sum + 12 ≤ R.locals by omega) (k H locs ls hl hP hD hS)
theorem ig_putF (hx : p.tables.exec = Jvm.exec) (hb : c.code = cc) {own ref C : String} {T : u_T} {N ci index : Nat} (hts : ∀ w ∈ ig_T, w.before args s = true) (hin : ∀ w ∈ u_ws C T N, w ∈ ig_T) (ty0 : Nat → FieldType) (hty : ∀ k, k < N → parseFieldDescriptor (T k).2.2.1 = some (ty0 k)) (hnm : ∀ a, a < N → ∀ b, b < N → a ≠ b → (T a).2.1 ≠ (T b).2.1) (hown : s.vm.findClass own = some m.cls) (hK : va_K D cl tys s) (q0 : Nat) {a : Nat} {fs : List Value} (he : ws[q0]? = some (a, .inr (ci, fs))) (hc : cl[ci]? = some (C, T, N)) (k : Nat) (hk : k < N) (hlink : Cond.fieldLink own index ref (T k).2.1 (T k).2.2.1 ∈ ig_T) (hsame : ∀ x, s.fieldFound? (T k).1 (T k).2.1 (T k).2.2.1 = some x → s.fieldFound? ref (T k).2.1 (T k).2.2.1 = some x) (hfin : (T k).2.2.2 = true) (hin2 : meth.name = "<init>") (hdecl : (T k).1 = own) {ty : FieldType} {v : Value} (hpd : parseFieldDescriptor (T k).2.2.1 = some ty) (hn : narrow ty v = v) (hfit : fits ty v = true) (hl0 : k < fs.length) (hd : decode cc pc = .ok (.putfield index, 3)) {ws' : va_W} (hw : ws.set q0 (a, .inr (ci, fs.set k v)) = ws')
    (kk : ig_W p l e R s m args below meth c D cl A H0 nL cells slots Q (pc + 3) lv st ws') : ig_W p l e R s m args below meth c D cl A H0 nL cells slots Q pc lv (v :: .ref a :: st) ws := by
  subst hw
  exact fun H locs ls hl hP hD hS => va_putF hx hb hts hin ty0 hty hnm hown hK hP hD hS q0 he hc k hk (hts _ hlink) hsame hfin hin2 hdecl hpd hn hfit hl0 hd (fun H1 locs1 hP1 hD1 hS1 => kk H1 locs1 ls hl hP1 hD1 hS1)
end IGX
theorem xb_IAE : (∀ w ∈ Cond.classLink "IgnoreRules" 37 ig_IAE :: Cond.initialized ig_IAE :: (vx_atS "IgnoreRules" 41 ig_IAE ig_up).filter goodWord, w ∈ ig_T) ∧ ∀ w ∈ (vx_atS "IgnoreRules" 41 ig_IAE ig_up).filter (fun w => !goodWord w), w ∈ ig_B := ⟨by decide +kernel, by decide +kernel⟩
theorem xa_IAE : ((∀ w ∈ Cond.classLink "IgnoreRules" 37 ig_IAE :: Cond.initialized ig_IAE :: (vx_atS "IgnoreRules" 41 ig_IAE ig_up).filter goodWord, w ∈ ig_T) ∧ ∀ w ∈ (vx_atS "IgnoreRules" 41 ig_IAE ig_up).filter (fun w => !goodWord w), w ∈ ig_B) ∧ ∀ w ∈ Cond.classLink "IgnoreRules" 37 ig_IAE :: Cond.initialized ig_IAE :: vx_atS "IgnoreRules" 41 ig_IAE ig_up, vx_ot w = true := ⟨xb_IAE, by decide +kernel⟩
theorem xb_ISE : (∀ w ∈ Cond.classLink "IgnoreRules" 118 ig_ISE :: Cond.initialized ig_ISE :: (vx_atS "IgnoreRules" 122 ig_ISE ig_up).filter goodWord, w ∈ ig_T) ∧ ∀ w ∈ (vx_atS "IgnoreRules" 122 ig_ISE ig_up).filter (fun w => !goodWord w), w ∈ ig_B := ⟨by decide +kernel, by decide +kernel⟩
theorem xa_ISE : ((∀ w ∈ Cond.classLink "IgnoreRules" 118 ig_ISE :: Cond.initialized ig_ISE :: (vx_atS "IgnoreRules" 122 ig_ISE ig_up).filter goodWord, w ∈ ig_T) ∧ ∀ w ∈ (vx_atS "IgnoreRules" 122 ig_ISE ig_up).filter (fun w => !goodWord w), w ∈ ig_B) ∧ ∀ w ∈ Cond.classLink "IgnoreRules" 118 ig_ISE :: Cond.initialized ig_ISE :: vx_atS "IgnoreRules" 122 ig_ISE ig_up, vx_ot w = true := ⟨xb_ISE, by decide +kernel⟩
theorem xb_IOO : (∀ w ∈ Cond.classLink "IgnoreRules" 95 ig_IOO :: Cond.initialized ig_IOO :: (vx_atS "IgnoreRules" 99 ig_IOO ig_up).filter goodWord, w ∈ ig_T) ∧ ∀ w ∈ (vx_atS "IgnoreRules" 99 ig_IOO ig_up).filter (fun w => !goodWord w), w ∈ ig_B := ⟨by decide +kernel, by decide +kernel⟩
theorem xa_IOO : ((∀ w ∈ Cond.classLink "IgnoreRules" 95 ig_IOO :: Cond.initialized ig_IOO :: (vx_atS "IgnoreRules" 99 ig_IOO ig_up).filter goodWord, w ∈ ig_T) ∧ ∀ w ∈ (vx_atS "IgnoreRules" 99 ig_IOO ig_up).filter (fun w => !goodWord w), w ∈ ig_B) ∧ ∀ w ∈ Cond.classLink "IgnoreRules" 95 ig_IOO :: Cond.initialized ig_IOO :: vx_atS "IgnoreRules" 99 ig_IOO ig_up, vx_ot w = true := ⟨xb_IOO, by decide +kernel⟩
