/-! contracts and calls of methods that make cells; of methods with handlers; the law's own rows -/
theorem ig_metVn {S : Type} {l : Launch} {D : va_G} {cl : List vw_C} {tys : List (ClassId × FieldType)} {y : MethodName} {rm : Room} {cc : ByteArray} {maxL mc ms : Nat} {av : List Value} {lv0 : List (Nat × Value)} {w0 : va_W} {sz : Nat} {ws : List Cond} (post : S → Prop) (w : S → va_W)
    (hy : plainName y.cls = true) (hw : ws = Cond.code y cc maxL none :: ig_T) (hlen : (lg_sl av).length ≤ maxL) (hlv : lv_args 0 av = lv0)
    (body : ∀ (p : Program) (e : Env) (s : State) (m : MethodId) (args : Array Value) (below : List Frame) (meth : Method) (c : Code) (A : Nat → Prop) (Q : State → Prop), p.tables.exec = Jvm.exec → c.code = cc → c.maxLocals = maxL → s.vm.findClass y.cls = some m.cls → (∀ w ∈ ig_T, w.before args s = true) → va_K D cl tys s → ig_N s → (∀ q : Nat, s.heap.size ≤ q → A q) → meth.name = y.name →
      (∀ (pc : Nat) (lv : List (Nat × Value)) (u : S), decode cc pc = .ok (.return_, 1) → post u → ig_W p l e rm s m args below meth c D cl A s.heap maxL mc ms Q pc lv [] (w u)) → ig_W p l e rm s m args below meth c D cl A s.heap maxL 0 0 Q 0 lv0 [] w0) :
    Met l y ws rm (ig_Pc D cl tys av w0 sz) (va_Qv post (fun u t => va_P D cl (w u) t.heap ∧ va_D (va_A w0 sz) (w u)) (va_A w0 sz)) mc ms (va_A w0 sz) := by
  refine Met.ofW (cc := cc) (maxL := maxL) (ret := none) hy hw ?_
  intro p e s m args below meth c s₁ B hml hv
  obtain ⟨rfl, hsz, hP, hK, hD0, hN⟩ := hv
  subst hsz
  have hD := hD0.self (sz := s.heap.size)
  have hl := lv_entry av (n := maxL) hlen
  rw [lg_entry_eq]
  rw [hlv] at hl
  refine body p e s m _ below meth c (va_A w0 s.heap.size) _ B.exec B.bytes hml (findClass_of_methodNamed B.named) (fun w h => atoms_spec (ws := ws) B.pre w (by rw [hw]; exact List.mem_cons_of_mem _ h)) hK hN (fun q h => Or.inr h) (name_of_methodNamed B.named B.method).1 ?_ s.heap [] _ hl hP hD va_S.rf
  intro pc lv u hd hp H locs ls hl2 hP2 hD2 hS2
  exact W.vret B.exec B.bytes B.returns (fun t ht hW => ⟨⟨u, rfl, hp, by rw [ht]; exact hP2, hD2⟩, hS2.F ht⟩) hS2.2.2 hd
theorem ig_metH {S : Type} {l : Launch} {D : va_G} {cl : List vw_C} {tys : List (ClassId × FieldType)} {y : MethodName} {rm : Room} {cc : ByteArray} {maxL : Nat} {hh : List (Nat × Nat × Nat × Nat)} {av : List Value} {lv0 : List (Nat × Value)} {w0 : va_W} {sz : Nat} {ws : List Cond} (post : Int32 → S → Prop) (w : S → va_W)
    (hy : plainName y.cls = true) (hw : ws = Cond.codeWith y cc maxL (some .int) hh :: ig_T) (hlen : (lg_sl av).length ≤ maxL) (hlv : lv_args 0 av = lv0)
    (body : ∀ (p : Program) (e : Env) (s : State) (m : MethodId) (args : Array Value) (below : List Frame) (meth : Method) (c : Code) (A : Nat → Prop) (Q : State → Prop), p.tables.exec = Jvm.exec → c.code = cc → c.maxLocals = maxL → s.vm.findClass y.cls = some m.cls → (∀ w ∈ ig_T, w.before args s = true) → va_K D cl tys s → ig_N s → (∀ q : Nat, s.heap.size ≤ q → A q) → ig_Xf A s s.heap → c.exceptionTable.toList = tableOf hh →
      (∀ (nc ns : Nat), nc ≤ 1 → ns ≤ 6 → ∀ (pc : Nat) (lv : List (Nat × Value)) (r : Int32) (u : S), decode cc pc = .ok (.ireturn, 1) → post r u → ig_W p l e rm s m args below meth c D cl A s.heap maxL nc ns Q pc lv [.int r] (w u)) → ig_W p l e rm s m args below meth c D cl A s.heap maxL 0 0 Q 0 lv0 [] w0) :
    Met l y ws rm (ig_PcX D cl tys av w0 sz) (va_Qi post (fun u t => va_P D cl (w u) t.heap ∧ va_D (va_A w0 sz) (w u)) (va_A w0 sz)) 1 6 (va_A w0 sz) := by
  refine va_MetW (cc := cc) (maxL := maxL) (ret := some .int) (hh := hh) hy hw ?_
  intro p e s m args below meth c s₁ B hml hv
  obtain ⟨rfl, hsz, hP, hK, hD0, hN, hX⟩ := hv
  subst hsz
  have hD := hD0.self (sz := s.heap.size)
  have hl := lv_entry av (n := maxL) hlen
  rw [lg_entry_eq]
  rw [hlv] at hl
  have ht := vx_table (x := y) B (atoms_spec (ws := ws) B.pre _ (by rw [hw]; exact List.mem_cons_self))
  refine body p e s m _ below meth c (va_A w0 s.heap.size) _ B.exec B.bytes hml (findClass_of_methodNamed B.named) (fun w h => atoms_spec (ws := ws) B.pre w (by rw [hw]; exact List.mem_cons_of_mem _ h)) hK hN (fun q h => Or.inr h) hX ht ?_ s.heap [] _ hl hP hD va_S.rf
  intro nc ns h1 h2 pc lv r u hd hp H locs ls hl2 hP2 hD2 hS2
  exact W.widen h1 h2 (W.zret B.exec B.bytes B.returns rfl (fun t ht hW => ⟨⟨r, u, rfl, hp, by rw [ht]; exact hP2, hD2⟩, hS2.F ht⟩) hS2.2.2 hd)
section IGN
variable {p : Program} {l : Launch} {e : Env} {R : Room} {s : State} {m : MethodId} {args : Array Value} {below : List Frame} {meth : Method} {c : Code} {D : va_G} {cl : List vw_C} {A : Nat → Prop} {H0 : Heap} {nL cells slots : Nat} {Q : State → Prop}
variable {cc : ByteArray} {pc : Nat} {lv : List (Nat × Value)} {st : List Value} {ws : va_W} {tys : List (ClassId × FieldType)}
theorem ig_gonv {S : Type} {post : S → Prop} {w ws' : S → va_W} {wc wr : va_W} {rest : List Value} {a : Array Value} {mc ms : Nat} (hA : ∀ q : Nat, H0.size ≤ q → A q) (isC isR isB : List Nat) (hC : isC.map (fun i => ws[i]?) = wc.map some) (hR : isR.map (fun i => ws[i]?) = wr.map some) (hCn : va_nd isC = true) (hRn : va_nd isR = true ∧ ∀ i ∈ isR, i ∉ isC) (hBn : va_nd isB = true) (hB1 : ∀ u : S, isB.filterMap (fun i => (wr ++ w u)[i]?) = ws' u) (hB2 : ∀ u : S, isB.map (fun i => (wr ++ w u)[i]?) = (ws' u).map some)
    (run : ∀ (H : Heap) (locs : List Loc) (ls : Array Slot), lv_has ls nL lv → va_P D cl wc H → va_D (fun _ => True) wc → va_Run p l e R s m args below meth c H locs cells slots mc ms (F0 m pc ls st) rest (va_Qv post (fun u t => va_P D cl (w u) t.heap ∧ va_D (va_A wc H.size) (w u)) (va_A wc H.size) a) (va_A wc H.size))
    (kk : ∀ u : S, post u → ig_W p l e R s m args below meth c D cl A H0 nL (cells + mc) (slots + ms) Q (pc + 3) lv rest (ws' u)) : ig_W p l e R s m args below meth c D cl A H0 nL cells slots Q pc lv st ws := by
  intro H locs ls hl hP hD hS
  have hPc : va_P D cl wc H := by
    intro k q hk
    have h1 : (isC.map (fun i => ws[i]?))[k]? = some (some q) := by rw [hC, List.getElem?_map, hk]; rfl
    rw [List.getElem?_map] at h1
    cases hi : isC[k]? with
    | none => rw [hi] at h1; cases h1
    | some i => rw [hi] at h1; exact hP i q (Option.some.inj h1)
  have hDc := hD.sub isC hCn hC
  have hFc := va_free (wc := wc) hD hS hA isC hC
  refine va_callv (run H locs ls hl hPc (hDc.weaken (fun _ _ _ _ => trivial))) hS (fun q _ h => hFc q h) hFc (fun u t H1 locs1 ht hvm hp hB hz1 hk1 hS1 => ?_)
  obtain ⟨hP1, hD1⟩ := hB
  rw [ht] at hP1
  obtain ⟨hP2, hD2⟩ := va_join (wr := wr) (w1 := w u) hP hD isC isR hC hR hRn.1 hRn.2 hk1 hFc hP1 hD1
  exact kk u hp H1 locs1 ls hl (hP2.sub isB (hB1 u)) (hD2.sub isB hBn (hB2 u)) hS1
theorem ig_goni {S : Type} {post : Int32 → S → Prop} {w ws' : S → va_W} {wc wr : va_W} {rest : List Value} {a : Array Value} {mc ms : Nat} (hA : ∀ q : Nat, H0.size ≤ q → A q) (hXf : ig_Xf A s H0) (isC isR isB : List Nat) (hC : isC.map (fun i => ws[i]?) = wc.map some) (hR : isR.map (fun i => ws[i]?) = wr.map some) (hCn : va_nd isC = true) (hRn : va_nd isR = true ∧ ∀ i ∈ isR, i ∉ isC) (hBn : va_nd isB = true) (hB1 : ∀ u : S, isB.filterMap (fun i => (wr ++ w u)[i]?) = ws' u) (hB2 : ∀ u : S, isB.map (fun i => (wr ++ w u)[i]?) = (ws' u).map some)
    (run : ∀ (H : Heap) (locs : List Loc) (ls : Array Slot), lv_has ls nL lv → va_P D cl wc H → va_D (fun _ => True) wc → ig_Xf (va_A wc H.size) s H → va_Run p l e R s m args below meth c H locs cells slots mc ms (F0 m pc ls st) rest (va_Qi post (fun u t => va_P D cl (w u) t.heap ∧ va_D (va_A wc H.size) (w u)) (va_A wc H.size) a) (va_A wc H.size))
    (kk : ∀ (r : Int32) (u : S), post r u → ig_W p l e R s m args below meth c D cl A H0 nL (cells + mc) (slots + ms) Q (pc + 3) lv (.int r :: rest) (ws' u)) : ig_W p l e R s m args below meth c D cl A H0 nL cells slots Q pc lv st ws := by
  intro H locs ls hl hP hD hS
  have hPc : va_P D cl wc H := by
    intro k q hk
    have h1 : (isC.map (fun i => ws[i]?))[k]? = some (some q) := by rw [hC, List.getElem?_map, hk]; rfl
    rw [List.getElem?_map] at h1
    cases hi : isC[k]? with
    | none => rw [hi] at h1; cases h1
    | some i => rw [hi] at h1; exact hP i q (Option.some.inj h1)
  have hDc := hD.sub isC hCn hC
  have hFc := va_free (wc := wc) hD hS hA isC hC
  have hXc : ig_Xf (va_A wc H.size) s H := (hXf.kept hS.2.1).narrow hFc
  refine va_calli (run H locs ls hl hPc (hDc.weaken (fun _ _ _ _ => trivial)) hXc) hS (fun q _ h => hFc q h) hFc (fun r u t H1 locs1 ht hvm hp hB hz1 hk1 hS1 => ?_)
  obtain ⟨hP1, hD1⟩ := hB
  rw [ht] at hP1
  obtain ⟨hP2, hD2⟩ := va_join (wr := wr) (w1 := w u) hP hD isC isR hC hR hRn.1 hRn.2 hk1 hFc hP1 hD1
  exact kk r u hp H1 locs1 ls hl (hP2.sub isB (hB1 u)) (hD2.sub isB hBn (hB2 u)) hS1
theorem ig_cIv {S : Type} {post : S → Prop} {w ws' : S → va_W} {wc wr : va_W} {As rest : List Value} {b mc ms : Nat} (hx : p.tables.exec = Jvm.exec) (hb : c.code = cc) (hml : c.maxLocals = nL) {own : String} (hown : s.vm.findClass own = some m.cls) (hts : ∀ w ∈ ig_T, w.before args s = true) (hK : va_K D cl tys s) (hN : ig_N s) (hA : ∀ q : Nat, H0.size ≤ q → A q) {y : MethodName} {wy : List Cond} {rm : Room} {bytes : ByteArray} {maxL index n : Nat} (hM : ∀ sz : Nat, Met l y wy rm (ig_Pc D cl tys (.ref b :: As) wc sz) (va_Qv post (fun u t => va_P D cl (w u) t.heap ∧ va_D (va_A wc sz) (w u)) (va_A wc sz)) mc ms (va_A wc sz)) (cw : CallB R s args own index y bytes maxL none wy rm mc ms n ∧ y.name = "<init>" ∧ (Cond.instanceMethod y).before args s = true) (hn : As.length = n) (hst : st = As.reverse ++ .ref b :: rest) (hroom : (rest.map fun v => v.category).sum ≤ 8) (hd : decode cc pc = .ok (.invokespecial index, 3)) (hf : cells + mc ≤ R.cells ∧ slots + ms ≤ R.slots) (isC isR isB : List Nat) (hC : isC.map (fun i => ws[i]?) = wc.map some) (hR : isR.map (fun i => ws[i]?) = wr.map some) (hCn : va_nd isC = true) (hRn : va_nd isR = true ∧ ∀ i ∈ isR, i ∉ isC) (hBn : va_nd isB = true) (hB1 : ∀ u : S, isB.filterMap (fun i => (wr ++ w u)[i]?) = ws' u) (hB2 : ∀ u : S, isB.map (fun i => (wr ++ w u)[i]?) = (ws' u).map some)
    (kk : ∀ u : S, post u → ig_W p l e R s m args below meth c D cl A H0 nL (cells + mc) (slots + ms) Q (pc + 3) lv rest (ws' u)) : ig_W p l e R s m args below meth c D cl A H0 nL cells slots Q pc lv st ws :=
  ig_gonv hA isC isR isB hC hR hCn hRn hBn hB1 hB2 (fun H locs ls hl hPc hDc => va_runI (As := As) (rest := rest) ⟨hx, hb, hml, hown, hts⟩ (hM H.size) cw ⟨ig_blind, ig_pre hK hN hPc hDc⟩ rfl hn hl.1 hst (lv_room hroom) hd hf) kk
theorem ig_cINv {S : Type} {post : S → Prop} {w ws' : S → va_W} {wc wr : va_W} {As rest : List Value} {b mc ms : Nat} (hx : p.tables.exec = Jvm.exec) (hb : c.code = cc) (hml : c.maxLocals = nL) {own : String} (hown : s.vm.findClass own = some m.cls) (hts : ∀ w ∈ ig_T, w.before args s = true) (hK : va_K D cl tys s) (hN : ig_N s) (hA : ∀ q : Nat, H0.size ≤ q → A q) {y : MethodName} {wy : List Cond} {rm : Room} {bytes : ByteArray} {maxL index n : Nat} {host : String} (hM : ∀ sz : Nat, Met l y wy rm (ig_Pc D cl tys (.ref b :: As) wc sz) (va_Qv post (fun u t => va_P D cl (w u) t.heap ∧ va_D (va_A wc sz) (w u)) (va_A wc sz)) mc ms (va_A wc sz)) (cw : va_CN R s args own index y host bytes maxL none wy rm mc ms n ∧ y.name = "<init>" ∧ (Cond.instanceMethod y).before args s = true) (hn : As.length = n) (hst : st = As.reverse ++ .ref b :: rest) (hroom : (rest.map fun v => v.category).sum ≤ 8) (hd : decode cc pc = .ok (.invokespecial index, 3)) (hf : cells + mc ≤ R.cells ∧ slots + ms ≤ R.slots) (isC isR isB : List Nat) (hC : isC.map (fun i => ws[i]?) = wc.map some) (hR : isR.map (fun i => ws[i]?) = wr.map some) (hCn : va_nd isC = true) (hRn : va_nd isR = true ∧ ∀ i ∈ isR, i ∉ isC) (hBn : va_nd isB = true) (hB1 : ∀ u : S, isB.filterMap (fun i => (wr ++ w u)[i]?) = ws' u) (hB2 : ∀ u : S, isB.map (fun i => (wr ++ w u)[i]?) = (ws' u).map some)
    (kk : ∀ u : S, post u → ig_W p l e R s m args below meth c D cl A H0 nL (cells + mc) (slots + ms) Q (pc + 3) lv rest (ws' u)) : ig_W p l e R s m args below meth c D cl A H0 nL cells slots Q pc lv st ws :=
  ig_gonv hA isC isR isB hC hR hCn hRn hBn hB1 hB2 (fun H locs ls hl hPc hDc => va_runIN (As := As) (rest := rest) ⟨hx, hb, hml, hown, hts⟩ (hM H.size) cw ⟨ig_blind, ig_pre hK hN hPc hDc⟩ rfl hn hl.1 hst (lv_room hroom) hd hf) kk
theorem ig_cSWi {S : Type} {post : Int32 → S → Prop} {w ws' : S → va_W} {wc wr : va_W} {As rest : List Value} (hx : p.tables.exec = Jvm.exec) (hb : c.code = cc) (hml : c.maxLocals = nL) {own : String} (hown : s.vm.findClass own = some m.cls) (hts : ∀ w ∈ ig_T, w.before args s = true) (hK : va_K D cl tys s) (hN : ig_N s) (hA : ∀ q : Nat, H0.size ≤ q → A q) (hXf : ig_Xf A s H0) {y : MethodName} {wy : List Cond} {rm : Room} {bytes : ByteArray} {maxL index n : Nat} {ret : Option FieldType} {hh : List (Nat × Nat × Nat × Nat)} (hM : ∀ sz : Nat, Met l y wy rm (ig_PcX D cl tys As wc sz) (va_Qi post (fun u t => va_P D cl (w u) t.heap ∧ va_D (va_A wc sz) (w u)) (va_A wc sz)) 1 6 (va_A wc sz)) (cw : vx_CSW R s args own index y bytes maxL ret hh wy rm 1 6 n) (hn : As.length = n) (hst : st = As.reverse ++ rest) (hroom : (rest.map fun v => v.category).sum ≤ 8) (hd : decode cc pc = .ok (.invokestatic index, 3)) (hf : cells + 1 ≤ R.cells ∧ slots + 6 ≤ R.slots) (isC isR isB : List Nat) (hC : isC.map (fun i => ws[i]?) = wc.map some) (hR : isR.map (fun i => ws[i]?) = wr.map some) (hCn : va_nd isC = true) (hRn : va_nd isR = true ∧ ∀ i ∈ isR, i ∉ isC) (hBn : va_nd isB = true) (hB1 : ∀ u : S, isB.filterMap (fun i => (wr ++ w u)[i]?) = ws' u) (hB2 : ∀ u : S, isB.map (fun i => (wr ++ w u)[i]?) = (ws' u).map some)
    (kk : ∀ (r : Int32) (u : S), post r u → ig_W p l e R s m args below meth c D cl A H0 nL (cells + 1) (slots + 6) Q (pc + 3) lv (.int r :: rest) (ws' u)) : ig_W p l e R s m args below meth c D cl A H0 nL cells slots Q pc lv st ws :=
  ig_goni hA hXf isC isR isB hC hR hCn hRn hBn hB1 hB2 (fun H locs ls hl hPc hDc hXc => vx_runSW (As := As) (rest := rest) ⟨hx, hb, hml, hown, hts⟩ (hM H.size) cw ⟨ig_blindX, ig_preX hK hN hPc hDc hXc⟩ rfl hn hl.1 hst (lv_room hroom) hd hf) kk
/-- caught: the handler goes on -/
theorem ig_ca {E : String} {rest : List Value} (hown : s.vm.findClass "IgnoreRulesLaw" = some m.cls) (hts : ∀ w ∈ ig_T, w.before args s = true) (pre : List ExceptionTableEntry) (x : ExceptionTableEntry) (suf : List ExceptionTableEntry) (hsplit : c.exceptionTable.toList = pre ++ x :: suf) (hpass : ∀ z ∈ pre, covers z pc = false ∨ (z.catchType ≠ 0 ∧ ∃ nm : String, (Cond.classLink "IgnoreRulesLaw" z.catchType nm).before args s = true ∧ va_Nc E nm s)) (hx : covers x pc = true) (h0 : x.catchType ≠ 0) (hlink : Cond.classLink "IgnoreRulesLaw" x.catchType E ∈ ig_T) (hcast : (Cond.castable E E).before args s = true)
    (k : ∀ q9 : Nat, ig_W p l e R s m args below meth c D cl A H0 nL cells slots Q x.handlerPc lv [.ref q9] ws) : ∀ (H1 : Heap) (locs1 : List Loc) (ls : Array Slot) (q9 : Nat) (ce : Cell), lv_has ls nL lv → va_P D cl ws H1 → va_D A ws → va_S A H0 H1 locs1 → H1[q9]? = some ce → ce.vm = .none → s.vm.findClass E = some ce.cls → vx_W p l e R s m args below meth c H1 locs1 cells slots Q (F0 m pc ls rest) q9 :=
  fun H1 locs1 ls q9 _ hl hP hD hS hce hcv hcl => vx_catch hown pre x suf hsplit hpass hx h0 (hts _ hlink) hcast hce hcv hcl (k q9 H1 locs1 ls hl hP hD hS)
/-- the script -/
theorem ig_sld (hx : p.tables.exec = Jvm.exec) (hb : c.code = cc) {b L : Nat} {xs : Nat → Int32} (hX : va_X b L xs s H0) (hbl : b < H0.size) (hbA : ¬ A b) (hL : L < 2147483648) {i : Int32} (j : Nat) (hj : i = nI j) (hin : j < L) (hd : decode cc pc = .ok (.iaload, 1)) (k : ig_W p l e R s m args below meth c D cl A H0 nL cells slots Q (pc + 1) lv (.int (xs j) :: st) ws) : ig_W p l e R s m args below meth c D cl A H0 nL cells slots Q pc lv (.int i :: .ref b :: st) ws := by
  subst hj
  intro H locs ls hl hP hD hS
  refine va_sld hx hb hX hbl hbA hS (ig_in hin hL) hd ?_
  rw [ig_cl (by omega)]
  exact k H locs ls hl hP hD hS
theorem ig_slen (hx : p.tables.exec = Jvm.exec) (hb : c.code = cc) {b L : Nat} {xs : Nat → Int32} (hX : va_X b L xs s H0) (hbl : b < H0.size) (hbA : ¬ A b) (hd : decode cc pc = .ok (.arraylength, 1)) (k : ig_W p l e R s m args below meth c D cl A H0 nL cells slots Q (pc + 1) lv (.int (nI L) :: st) ws) : ig_W p l e R s m args below meth c D cl A H0 nL cells slots Q pc lv (.ref b :: st) ws :=
  fun H locs ls hl hP hD hS => va_slen hx hb hX hbl hbA hS hd (k H locs ls hl hP hD hS)
def ig_nz (x : Int32) : Bool := !decide (x = 0)
/-- x != 0 ? 1 : 0 -/
theorem ig_bool (hx : p.tables.exec = Jvm.exec) (hb : c.code = cc) {x : Int32} (o1 o2 : Int) (a b : Nat) (d0 : decode cc pc = .ok (.ifCond .eq o1, 3)) (h0 : (pc : Int) + o1 = (a : Int)) (d1 : decode cc (pc + 3) = .ok (.iconst 1, 1)) (d2 : decode cc (pc + 4) = .ok (.goto o2, 3)) (h2 : ((pc + 4 : Nat) : Int) + o2 = (b : Int)) (d3 : decode cc a = .ok (.iconst 0, 1)) (h3 : a + 1 = b)
    (k : ig_W p l e R s m args below meth c D cl A H0 nL cells slots Q b lv (.int (bI (ig_nz x)) :: st) ws) : ig_W p l e R s m args below meth c D cl A H0 nL cells slots Q pc lv (.int x :: st) ws := by
  refine ig_if_eq hx hb d0 h0 (fun h => ?_) (fun h => ?_)
  · refine ig_iconst (v := 0) hx hb d3 (by decide) ?_
    rw [h3]
    have e : bI (ig_nz x) = 0 := by rw [ig_nz, decide_eq_true h]; rfl
    rw [e] at k
    exact k
  · refine ig_iconst (v := 1) hx hb d1 (by decide) ?_
    refine ig_goto hx hb d2 h2 ?_
    have e : bI (ig_nz x) = 1 := by rw [ig_nz, decide_eq_false h]; rfl
    rw [e] at k
    exact k
/-- b ? 1L : 0L -/
theorem ig_boolL (hx : p.tables.exec = Jvm.exec) (hb : c.code = cc) (z : Bool) (o1 o2 : Int) (a b : Nat) (d0 : decode cc pc = .ok (.ifCond .eq o1, 3)) (h0 : (pc : Int) + o1 = (a : Int)) (d1 : decode cc (pc + 3) = .ok (.lconst 1, 1)) (d2 : decode cc (pc + 4) = .ok (.goto o2, 3)) (h2 : ((pc + 4 : Nat) : Int) + o2 = (b : Int)) (d3 : decode cc a = .ok (.lconst 0, 1)) (h3 : a + 1 = b)
    (k : ig_W p l e R s m args below meth c D cl A H0 nL cells slots Q b lv (.long (cond z 1 0) :: st) ws) : ig_W p l e R s m args below meth c D cl A H0 nL cells slots Q pc lv (.int (bI z) :: st) ws := by
  refine ig_if_eqB hx hb z rfl d0 h0 (fun h => ?_) (fun h => ?_)
  · refine ig_lconst (v := 0) hx hb d3 (by decide) ?_
    rw [h3]
    subst h
    exact k
  · refine ig_lconst (v := 1) hx hb d1 (by decide) ?_
    refine ig_goto hx hb d2 h2 ?_
    subst h
    exact k
end IGN
theorem ig_nmC {s : State} (c1 c2 : ClassId) (h1 : va_RA s c1 .char) (h2 : va_RA s c2 .char) : c1 = c2 := Option.some.inj ((va_nm_char h1).symm.trans (va_nm_char h2))
theorem ig_nmI {s : State} (c1 c2 : ClassId) (h1 : va_RA s c1 .int) (h2 : va_RA s c2 .int) : c1 = c2 := Option.some.inj ((va_nm_int h1).symm.trans (va_nm_int h2))
theorem ig_nmZ {s : State} (c1 c2 : ClassId) (h1 : va_RA s c1 .boolean) (h2 : va_RA s c2 .boolean) : c1 = c2 := Option.some.inj ((va_nm_boolean h1).symm.trans (va_nm_boolean h2))
theorem ig_nmL {s : State} (c1 c2 : ClassId) (h1 : va_RA s c1 .long) (h2 : va_RA s c2 .long) : c1 = c2 := Option.some.inj ((va_nm_long h1).symm.trans (va_nm_long h2))
theorem ig_mem_good {ws : List Cond} (h : ∀ w ∈ ws, w ∈ ig_T) : GoodIn ig_T ws := fun w hw => ⟨h w hw, good_of_word (List.mem_filter.mp (h w hw)).2⟩
