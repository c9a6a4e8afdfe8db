/-! contracts in one form, and calls -/
/-- private members of nest mates: the links -/
def ig_N (U : State) : Prop := (∀ q ∈ ig_nf, va_Nw (.fieldLinkNest q.1 q.2.1 q.2.2.1 q.2.2.2.1 q.2.2.2.2.1 q.2.2.2.2.2) U) ∧ ∀ q ∈ ig_nm, va_Nw (.methodLinkNest q.1 q.2.1 q.2.2.1 q.2.2.2) U
theorem ig_N.warm {s U : State} (hW : s.WarmedH U.vm) (h : ig_N s) : ig_N U := ⟨fun q hq => va_Nw.warmF hW (h.1 q hq), fun q hq => va_Nw.warmM hW (h.2 q hq)⟩
theorem ig_N.same {s U : State} (hv : s.vm = U.vm) (h : ig_N s) : ig_N U := ⟨fun q hq => va_Nw.same rfl hv (h.1 q hq), fun q hq => va_Nw.same rfl hv (h.2 q hq)⟩
/-- a method's start: arguments, cells -/
abbrev ig_Pc (D : va_G) (cl : List vw_C) (tys : List (ClassId × FieldType)) (av : List Value) (w0 : va_W) (sz : Nat) : Array Value → State → Prop := va_Pc av (fun U => U.heap.size = sz ∧ va_P D cl w0 U.heap ∧ va_K D cl tys U ∧ va_D (fun _ => True) w0 ∧ ig_N U)
theorem ig_blind {D : va_G} {cl : List vw_C} {tys : List (ClassId × FieldType)} {av : List Value} {w0 : va_W} {sz : Nat} : FrameBlind (ig_Pc D cl tys av w0 sz) := by
  intro a U g mk q
  obtain ⟨q0, q1, qP, qK, qD, qN⟩ := q
  exact ⟨q0, q1, qP, va_K.moved (u := U) (U := U.calling g mk a) (Vm.Alike.refl U.vm) qK, qD, ig_N.same (s := U) (U := U.calling g mk a) rfl qN⟩
theorem ig_pre {D : va_G} {cl : List vw_C} {tys : List (ClassId × FieldType)} {av : List Value} {w0 : va_W} {s : State} {H : Heap} (hK : va_K D cl tys s) (hN : ig_N s) (hP : va_P D cl w0 H) (hD : va_D (fun _ => True) w0) : ∀ U : State, U.heap = H → s.WarmedH U.vm → ig_Pc D cl tys av w0 H.size av.toArray U := fun U hU hW => ⟨rfl, by rw [hU], by rw [hU]; exact hP, va_K.moved hW.alike hK, hD, hN.warm hW⟩
theorem ig_metI {S : Type} {l : Launch} {D : va_G} {cl : List vw_C} {tys : List (ClassId × FieldType)} {y : MethodName} {rm : Room} {cc : ByteArray} {maxL : Nat} {ty : FieldType} {av : List Value} {lv0 : List (Nat × Value)} {w0 : va_W} {sz : Nat} {ws : List Cond} (post : Int32 → S → Prop) (w : S → va_W)
    (hy : plainName y.cls = true) (hw : ws = Cond.code y cc maxL (some ty) :: ig_T) (hlen : (lg_sl av).length ≤ maxL) (hlv : lv_args 0 av = lv0) (hnar : ∀ (r : Int32) (u : S), post r u → narrow ty (.int r) = .int r) 
    (body : ∀ (p : Program) (e : Env) (s : State) (m : MethodId) (args : Array Value) (below : List Frame) (meth : Method) (c : Code) (A : Nat → Prop) (Q : State → Prop), p.tables.exec = Jvm.exec → c.code = cc → c.maxLocals = maxL → s.vm.findClass y.cls = some m.cls → (∀ w ∈ ig_T, w.before args s = true) → va_K D cl tys s → ig_N s → (∀ q : Nat, s.heap.size ≤ q → A q) →
      (∀ (pc : Nat) (lv : List (Nat × Value)) (r : Int32) (u : S), decode cc pc = .ok (.ireturn, 1) → post r u → ig_W p l e rm s m args below meth c D cl A s.heap maxL 0 0 Q pc lv [.int r] (w u)) → ig_W p l e rm s m args below meth c D cl A s.heap maxL 0 0 Q 0 lv0 [] w0) :
    Met l y ws rm (ig_Pc D cl tys av w0 sz) (va_Qi post (fun u t => va_P D cl (w u) t.heap ∧ va_D (va_A w0 sz) (w u)) (va_A w0 sz)) 0 0 (va_A w0 sz) := by
  refine Met.ofW (cc := cc) (maxL := maxL) (ret := (some ty)) hy hw ?_
  intro p e s m args below meth c s₁ B hml hv
  obtain ⟨rfl, hsz, hP, hK, hD0, hN⟩ := hv
  subst hsz
  have hD := hD0.self (sz := s.heap.size)
  have hl := lv_entry av (n := maxL) hlen
  rw [lg_entry_eq]
  rw [hlv] at hl
  refine body p e s m _ below meth c (va_A w0 s.heap.size) _ B.exec B.bytes hml (findClass_of_methodNamed B.named) (fun w h => atoms_spec (ws := ws) B.pre w (by rw [hw]; exact List.mem_cons_of_mem _ h)) hK hN (fun q h => Or.inr h) ?_ s.heap [] _ hl hP hD va_S.rf
  intro pc lv r u hd hp H locs ls hl2 hP2 hD2 hS2
  exact W.zret B.exec B.bytes B.returns (hnar r u hp) (fun t ht hW => ⟨⟨r, u, rfl, hp, by rw [ht]; exact hP2, hD2⟩, hS2.F ht⟩) hS2.2.2 hd
theorem ig_metV {S : Type} {l : Launch} {D : va_G} {cl : List vw_C} {tys : List (ClassId × FieldType)} {y : MethodName} {rm : Room} {cc : ByteArray} {maxL : Nat} {av : List Value} {lv0 : List (Nat × Value)} {w0 : va_W} {sz : Nat} {ws : List Cond} (post : S → Prop) (w : S → va_W)
    (hy : plainName y.cls = true) (hw : ws = Cond.code y cc maxL none :: ig_T) (hlen : (lg_sl av).length ≤ maxL) (hlv : lv_args 0 av = lv0) 
    (body : ∀ (p : Program) (e : Env) (s : State) (m : MethodId) (args : Array Value) (below : List Frame) (meth : Method) (c : Code) (A : Nat → Prop) (Q : State → Prop), p.tables.exec = Jvm.exec → c.code = cc → c.maxLocals = maxL → s.vm.findClass y.cls = some m.cls → (∀ w ∈ ig_T, w.before args s = true) → va_K D cl tys s → ig_N s → (∀ q : Nat, s.heap.size ≤ q → A q) →
      (∀ (pc : Nat) (lv : List (Nat × Value)) (u : S), decode cc pc = .ok (.return_, 1) → post u → ig_W p l e rm s m args below meth c D cl A s.heap maxL 0 0 Q pc lv [] (w u)) → ig_W p l e rm s m args below meth c D cl A s.heap maxL 0 0 Q 0 lv0 [] w0) :
    Met l y ws rm (ig_Pc D cl tys av w0 sz) (va_Qv post (fun u t => va_P D cl (w u) t.heap ∧ va_D (va_A w0 sz) (w u)) (va_A w0 sz)) 0 0 (va_A w0 sz) := by
  refine Met.ofW (cc := cc) (maxL := maxL) (ret := none) hy hw ?_
  intro p e s m args below meth c s₁ B hml hv
  obtain ⟨rfl, hsz, hP, hK, hD0, hN⟩ := hv
  subst hsz
  have hD := hD0.self (sz := s.heap.size)
  have hl := lv_entry av (n := maxL) hlen
  rw [lg_entry_eq]
  rw [hlv] at hl
  refine body p e s m _ below meth c (va_A w0 s.heap.size) _ B.exec B.bytes hml (findClass_of_methodNamed B.named) (fun w h => atoms_spec (ws := ws) B.pre w (by rw [hw]; exact List.mem_cons_of_mem _ h)) hK hN (fun q h => Or.inr h) ?_ s.heap [] _ hl hP hD va_S.rf
  intro pc lv u hd hp H locs ls hl2 hP2 hD2 hS2
  exact W.vret B.exec B.bytes B.returns (fun t ht hW => ⟨⟨u, rfl, hp, by rw [ht]; exact hP2, hD2⟩, hS2.F ht⟩) hS2.2.2 hd
section IGC
variable {p : Program} {l : Launch} {e : Env} {R : Room} {s : State} {m : MethodId} {args : Array Value} {below : List Frame} {meth : Method} {c : Code} {D : va_G} {cl : List vw_C} {A : Nat → Prop} {H0 : Heap} {nL cells slots : Nat} {Q : State → Prop}
variable {cc : ByteArray} {pc : Nat} {lv : List (Nat × Value)} {st : List Value} {ws : va_W} {tys : List (ClassId × FieldType)}
theorem ig_goi {S : Type} {post : Int32 → S → Prop} {w ws' : S → va_W} {wc wr : va_W} {rest : List Value} {a : Array Value} (hA : ∀ q : Nat, H0.size ≤ q → A q) (isC isR isB : List Nat) (hC : isC.map (fun i => ws[i]?) = wc.map some) (hR : isR.map (fun i => ws[i]?) = wr.map some) (hCn : va_nd isC = true) (hRn : va_nd isR = true ∧ ∀ i ∈ isR, i ∉ isC) (hBn : va_nd isB = true) (hB1 : ∀ u : S, isB.filterMap (fun i => (wr ++ w u)[i]?) = ws' u) (hB2 : ∀ u : S, isB.map (fun i => (wr ++ w u)[i]?) = (ws' u).map some)
    (run : ∀ (H : Heap) (locs : List Loc) (ls : Array Slot), lv_has ls nL lv → va_P D cl wc H → va_D (fun _ => True) wc → va_Run p l e R s m args below meth c H locs cells slots 0 0 (F0 m pc ls st) rest (va_Qi post (fun u t => va_P D cl (w u) t.heap ∧ va_D (va_A wc H.size) (w u)) (va_A wc H.size) a) (va_A wc H.size))
    (kk : ∀ (r : Int32) (u : S), post r u → ig_W p l e R s m args below meth c D cl A H0 nL cells slots Q (pc + 3) lv (.int r :: rest) (ws' u)) : ig_W p l e R s m args below meth c D cl A H0 nL cells slots Q pc lv st ws := by
  intro H locs ls hl hP hD hS
  have hPc : va_P D cl wc H := by
    intro k q hk
    have h1 : (isC.map (fun i => ws[i]?))[k]? = some (some q) := by rw [hC, List.getElem?_map, hk]; rfl
    rw [List.getElem?_map] at h1
    cases hi : isC[k]? with
    | none => rw [hi] at h1; cases h1
    | some i => rw [hi] at h1; exact hP i q (Option.some.inj h1)
  have hDc := hD.sub isC hCn hC
  have hFc := va_free (wc := wc) hD hS hA isC hC
  refine va_calli (run H locs ls hl hPc (hDc.weaken (fun _ _ _ _ => trivial))) hS (fun q _ h => hFc q h) hFc (fun r u t H1 locs1 ht hvm hp hB hz1 hk1 hS1 => ?_)
  obtain ⟨hP1, hD1⟩ := hB
  rw [ht] at hP1
  obtain ⟨hP2, hD2⟩ := va_join (wr := wr) (w1 := w u) hP hD isC isR hC hR hRn.1 hRn.2 hk1 hFc hP1 hD1
  exact kk r u hp H1 locs1 ls hl (hP2.sub isB (hB1 u)) (hD2.sub isB hBn (hB2 u)) hS1
theorem ig_cVi {S : Type} {post : Int32 → S → Prop} {w ws' : S → va_W} {wc wr : va_W} {As rest : List Value} (hx : p.tables.exec = Jvm.exec) (hb : c.code = cc) (hml : c.maxLocals = nL) {own : String} (hown : s.vm.findClass own = some m.cls) (hts : ∀ w ∈ ig_T, w.before args s = true) (hK : va_K D cl tys s) (hN : ig_N s) (hA : ∀ q : Nat, H0.size ≤ q → A q) {y : MethodName} {wy : List Cond} {rm : Room} {bytes : ByteArray} {maxL index n : Nat} {ret : Option FieldType} {b ci N : Nat} {fs : List Value} {T : u_T} (hM : ∀ sz : Nat, Met l y wy rm (ig_Pc D cl tys (.ref b :: As) wc sz) (va_Qi post (fun u t => va_P D cl (w u) t.heap ∧ va_D (va_A wc sz) (w u)) (va_A wc sz)) 0 0 (va_A wc sz)) (cw : CallW R s args own y.cls index y bytes maxL ret wy rm 0 0 n) (hn : As.length = n) (hst : st = As.reverse ++ .ref b :: rest) (hroom : (rest.map fun v => v.category).sum ≤ 8) (hd : decode cc pc = .ok (.invokevirtual index, 3)) (hf : cells + 0 ≤ R.cells ∧ slots + 0 ≤ R.slots) (qb : Nat) (hq : wc[qb]? = some (b, .inr (ci, fs))) (hci : cl[ci]? = some (y.cls, T, N)) (isC isR isB : List Nat) (hC : isC.map (fun i => ws[i]?) = wc.map some) (hR : isR.map (fun i => ws[i]?) = wr.map some) (hCn : va_nd isC = true) (hRn : va_nd isR = true ∧ ∀ i ∈ isR, i ∉ isC) (hBn : va_nd isB = true) (hB1 : ∀ u : S, isB.filterMap (fun i => (wr ++ w u)[i]?) = ws' u) (hB2 : ∀ u : S, isB.map (fun i => (wr ++ w u)[i]?) = (ws' u).map some)
    (kk : ∀ (r : Int32) (u : S), post r u → ig_W p l e R s m args below meth c D cl A H0 nL cells slots Q (pc + 3) lv (.int r :: rest) (ws' u)) : ig_W p l e R s m args below meth c D cl A H0 nL cells slots Q pc lv st ws :=
  ig_goi hA isC isR isB hC hR hCn hRn hBn hB1 hB2 (fun H locs ls hl hPc hDc => va_runV (As := As) (rest := rest) ⟨hx, hb, hml, hown, hts⟩ (hM H.size) cw ⟨ig_blind, va_recv hK hPc hci hq, ig_pre hK hN hPc hDc⟩ rfl hn hl.1 hst (lv_room hroom) hd hf) kk
theorem ig_cVNi {S : Type} {post : Int32 → S → Prop} {w ws' : S → va_W} {wc wr : va_W} {As rest : List Value} (hx : p.tables.exec = Jvm.exec) (hb : c.code = cc) (hml : c.maxLocals = nL) {own : String} (hown : s.vm.findClass own = some m.cls) (hts : ∀ w ∈ ig_T, w.before args s = true) (hK : va_K D cl tys s) (hN : ig_N s) (hA : ∀ q : Nat, H0.size ≤ q → A q) {y : MethodName} {wy : List Cond} {rm : Room} {bytes : ByteArray} {maxL index n : Nat} {ret : Option FieldType} {host : String} {b ci N : Nat} {fs : List Value} {T : u_T} (hM : ∀ sz : Nat, Met l y wy rm (ig_Pc D cl tys (.ref b :: As) wc sz) (va_Qi post (fun u t => va_P D cl (w u) t.heap ∧ va_D (va_A wc sz) (w u)) (va_A wc sz)) 0 0 (va_A wc sz)) (cw : va_CN R s args own index y host bytes maxL ret wy rm 0 0 n ∧ (Cond.instanceMethod y).before args s = true ∧ (Cond.selects y.cls y y).before args s = true) (hn : As.length = n) (hst : st = As.reverse ++ .ref b :: rest) (hroom : (rest.map fun v => v.category).sum ≤ 8) (hd : decode cc pc = .ok (.invokevirtual index, 3)) (hf : cells + 0 ≤ R.cells ∧ slots + 0 ≤ R.slots) (qb : Nat) (hq : wc[qb]? = some (b, .inr (ci, fs))) (hci : cl[ci]? = some (y.cls, T, N)) (isC isR isB : List Nat) (hC : isC.map (fun i => ws[i]?) = wc.map some) (hR : isR.map (fun i => ws[i]?) = wr.map some) (hCn : va_nd isC = true) (hRn : va_nd isR = true ∧ ∀ i ∈ isR, i ∉ isC) (hBn : va_nd isB = true) (hB1 : ∀ u : S, isB.filterMap (fun i => (wr ++ w u)[i]?) = ws' u) (hB2 : ∀ u : S, isB.map (fun i => (wr ++ w u)[i]?) = (ws' u).map some)
    (kk : ∀ (r : Int32) (u : S), post r u → ig_W p l e R s m args below meth c D cl A H0 nL cells slots Q (pc + 3) lv (.int r :: rest) (ws' u)) : ig_W p l e R s m args below meth c D cl A H0 nL cells slots Q pc lv st ws :=
  ig_goi hA isC isR isB hC hR hCn hRn hBn hB1 hB2 (fun H locs ls hl hPc hDc => va_runVN (As := As) (rest := rest) ⟨hx, hb, hml, hown, hts⟩ (hM H.size) cw ⟨ig_blind, va_recv hK hPc hci hq, ig_pre hK hN hPc hDc⟩ rfl hn hl.1 hst (lv_room hroom) hd hf) kk
theorem ig_cSi {S : Type} {post : Int32 → S → Prop} {w ws' : S → va_W} {wc wr : va_W} {As rest : List Value} (hx : p.tables.exec = Jvm.exec) (hb : c.code = cc) (hml : c.maxLocals = nL) {own : String} (hown : s.vm.findClass own = some m.cls) (hts : ∀ w ∈ ig_T, w.before args s = true) (hK : va_K D cl tys s) (hN : ig_N s) (hA : ∀ q : Nat, H0.size ≤ q → A q) {y : MethodName} {wy : List Cond} {rm : Room} {bytes : ByteArray} {maxL index n : Nat} {ret : Option FieldType} (hM : ∀ sz : Nat, Met l y wy rm (ig_Pc D cl tys As wc sz) (va_Qi post (fun u t => va_P D cl (w u) t.heap ∧ va_D (va_A wc sz) (w u)) (va_A wc sz)) 0 0 (va_A wc sz)) (cw : CallB R s args own index y bytes maxL ret wy rm 0 0 n ∧ (Cond.static y).before args s = true) (hn : As.length = n) (hst : st = As.reverse ++ rest) (hroom : (rest.map fun v => v.category).sum ≤ 8) (hd : decode cc pc = .ok (.invokestatic index, 3)) (hf : cells + 0 ≤ R.cells ∧ slots + 0 ≤ R.slots) (isC isR isB : List Nat) (hC : isC.map (fun i => ws[i]?) = wc.map some) (hR : isR.map (fun i => ws[i]?) = wr.map some) (hCn : va_nd isC = true) (hRn : va_nd isR = true ∧ ∀ i ∈ isR, i ∉ isC) (hBn : va_nd isB = true) (hB1 : ∀ u : S, isB.filterMap (fun i => (wr ++ w u)[i]?) = ws' u) (hB2 : ∀ u : S, isB.map (fun i => (wr ++ w u)[i]?) = (ws' u).map some)
    (kk : ∀ (r : Int32) (u : S), post r u → ig_W p l e R s m args below meth c D cl A H0 nL cells slots Q (pc + 3) lv (.int r :: rest) (ws' u)) : ig_W p l e R s m args below meth c D cl A H0 nL cells slots Q pc lv st ws :=
  ig_goi hA isC isR isB hC hR hCn hRn hBn hB1 hB2 (fun H locs ls hl hPc hDc => va_runS (As := As) (rest := rest) ⟨hx, hb, hml, hown, hts⟩ (hM H.size) cw ⟨ig_blind, ig_pre hK hN hPc hDc⟩ rfl hn hl.1 hst (lv_room hroom) hd hf) kk
theorem ig_cSNi {S : Type} {post : Int32 → S → Prop} {w ws' : S → va_W} {wc wr : va_W} {As rest : List Value} (hx : p.tables.exec = Jvm.exec) (hb : c.code = cc) (hml : c.maxLocals = nL) {own : String} (hown : s.vm.findClass own = some m.cls) (hts : ∀ w ∈ ig_T, w.before args s = true) (hK : va_K D cl tys s) (hN : ig_N s) (hA : ∀ q : Nat, H0.size ≤ q → A q) {y : MethodName} {wy : List Cond} {rm : Room} {bytes : ByteArray} {maxL index n : Nat} {ret : Option FieldType} {host : String} (hM : ∀ sz : Nat, Met l y wy rm (ig_Pc D cl tys As wc sz) (va_Qi post (fun u t => va_P D cl (w u) t.heap ∧ va_D (va_A wc sz) (w u)) (va_A wc sz)) 0 0 (va_A wc sz)) (cw : va_CN R s args own index y host bytes maxL ret wy rm 0 0 n ∧ (Cond.static y).before args s = true ∧ True) (hn : As.length = n) (hst : st = As.reverse ++ rest) (hroom : (rest.map fun v => v.category).sum ≤ 8) (hd : decode cc pc = .ok (.invokestatic index, 3)) (hf : cells + 0 ≤ R.cells ∧ slots + 0 ≤ R.slots) (isC isR isB : List Nat) (hC : isC.map (fun i => ws[i]?) = wc.map some) (hR : isR.map (fun i => ws[i]?) = wr.map some) (hCn : va_nd isC = true) (hRn : va_nd isR = true ∧ ∀ i ∈ isR, i ∉ isC) (hBn : va_nd isB = true) (hB1 : ∀ u : S, isB.filterMap (fun i => (wr ++ w u)[i]?) = ws' u) (hB2 : ∀ u : S, isB.map (fun i => (wr ++ w u)[i]?) = (ws' u).map some)
    (kk : ∀ (r : Int32) (u : S), post r u → ig_W p l e R s m args below meth c D cl A H0 nL cells slots Q (pc + 3) lv (.int r :: rest) (ws' u)) : ig_W p l e R s m args below meth c D cl A H0 nL cells slots Q pc lv st ws :=
  ig_goi hA isC isR isB hC hR hCn hRn hBn hB1 hB2 (fun H locs ls hl hPc hDc => va_runSN (As := As) (rest := rest) ⟨hx, hb, hml, hown, hts⟩ (hM H.size) cw ⟨ig_blind, ig_pre hK hN hPc hDc⟩ rfl hn hl.1 hst (lv_room hroom) hd hf) kk
theorem ig_gov {S : Type} {post : S → Prop} {w ws' : S → va_W} {wc wr : va_W} {rest : List Value} {a : Array Value} (hA : ∀ q : Nat, H0.size ≤ q → A q) (isC isR isB : List Nat) (hC : isC.map (fun i => ws[i]?) = wc.map some) (hR : isR.map (fun i => ws[i]?) = wr.map some) (hCn : va_nd isC = true) (hRn : va_nd isR = true ∧ ∀ i ∈ isR, i ∉ isC) (hBn : va_nd isB = true) (hB1 : ∀ u : S, isB.filterMap (fun i => (wr ++ w u)[i]?) = ws' u) (hB2 : ∀ u : S, isB.map (fun i => (wr ++ w u)[i]?) = (ws' u).map some)
    (run : ∀ (H : Heap) (locs : List Loc) (ls : Array Slot), lv_has ls nL lv → va_P D cl wc H → va_D (fun _ => True) wc → va_Run p l e R s m args below meth c H locs cells slots 0 0 (F0 m pc ls st) rest (va_Qv post (fun u t => va_P D cl (w u) t.heap ∧ va_D (va_A wc H.size) (w u)) (va_A wc H.size) a) (va_A wc H.size))
    (kk : ∀ u : S, post u → ig_W p l e R s m args below meth c D cl A H0 nL cells slots Q (pc + 3) lv rest (ws' u)) : ig_W p l e R s m args below meth c D cl A H0 nL cells slots Q pc lv st ws := by
  intro H locs ls hl hP hD hS
  have hPc : va_P D cl wc H := by
    intro k q hk
    have h1 : (isC.map (fun i => ws[i]?))[k]? = some (some q) := by rw [hC, List.getElem?_map, hk]; rfl
    rw [List.getElem?_map] at h1
    cases hi : isC[k]? with
    | none => rw [hi] at h1; cases h1
    | some i => rw [hi] at h1; exact hP i q (Option.some.inj h1)
  have hDc := hD.sub isC hCn hC
  have hFc := va_free (wc := wc) hD hS hA isC hC
  refine va_callv (run H locs ls hl hPc (hDc.weaken (fun _ _ _ _ => trivial))) hS (fun q _ h => hFc q h) hFc (fun u t H1 locs1 ht hvm hp hB hz1 hk1 hS1 => ?_)
  obtain ⟨hP1, hD1⟩ := hB
  rw [ht] at hP1
  obtain ⟨hP2, hD2⟩ := va_join (wr := wr) (w1 := w u) hP hD isC isR hC hR hRn.1 hRn.2 hk1 hFc hP1 hD1
  exact kk u hp H1 locs1 ls hl (hP2.sub isB (hB1 u)) (hD2.sub isB hBn (hB2 u)) hS1
theorem ig_cVv {S : Type} {post : S → Prop} {w ws' : S → va_W} {wc wr : va_W} {As rest : List Value} (hx : p.tables.exec = Jvm.exec) (hb : c.code = cc) (hml : c.maxLocals = nL) {own : String} (hown : s.vm.findClass own = some m.cls) (hts : ∀ w ∈ ig_T, w.before args s = true) (hK : va_K D cl tys s) (hN : ig_N s) (hA : ∀ q : Nat, H0.size ≤ q → A q) {y : MethodName} {wy : List Cond} {rm : Room} {bytes : ByteArray} {maxL index n : Nat} {ret : Option FieldType} {b ci N : Nat} {fs : List Value} {T : u_T} (hM : ∀ sz : Nat, Met l y wy rm (ig_Pc D cl tys (.ref b :: As) wc sz) (va_Qv post (fun u t => va_P D cl (w u) t.heap ∧ va_D (va_A wc sz) (w u)) (va_A wc sz)) 0 0 (va_A wc sz)) (cw : CallW R s args own y.cls index y bytes maxL ret wy rm 0 0 n) (hn : As.length = n) (hst : st = As.reverse ++ .ref b :: rest) (hroom : (rest.map fun v => v.category).sum ≤ 8) (hd : decode cc pc = .ok (.invokevirtual index, 3)) (hf : cells + 0 ≤ R.cells ∧ slots + 0 ≤ R.slots) (qb : Nat) (hq : wc[qb]? = some (b, .inr (ci, fs))) (hci : cl[ci]? = some (y.cls, T, N)) (isC isR isB : List Nat) (hC : isC.map (fun i => ws[i]?) = wc.map some) (hR : isR.map (fun i => ws[i]?) = wr.map some) (hCn : va_nd isC = true) (hRn : va_nd isR = true ∧ ∀ i ∈ isR, i ∉ isC) (hBn : va_nd isB = true) (hB1 : ∀ u : S, isB.filterMap (fun i => (wr ++ w u)[i]?) = ws' u) (hB2 : ∀ u : S, isB.map (fun i => (wr ++ w u)[i]?) = (ws' u).map some)
    (kk : ∀ u : S, post u → ig_W p l e R s m args below meth c D cl A H0 nL cells slots Q (pc + 3) lv rest (ws' u)) : ig_W p l e R s m args below meth c D cl A H0 nL cells slots Q pc lv st ws :=
  ig_gov hA isC isR isB hC hR hCn hRn hBn hB1 hB2 (fun H locs ls hl hPc hDc => va_runV (As := As) (rest := rest) ⟨hx, hb, hml, hown, hts⟩ (hM H.size) cw ⟨ig_blind, va_recv hK hPc hci hq, ig_pre hK hN hPc hDc⟩ rfl hn hl.1 hst (lv_room hroom) hd hf) kk
theorem ig_cVNv {S : Type} {post : S → Prop} {w ws' : S → va_W} {wc wr : va_W} {As rest : List Value} (hx : p.tables.exec = Jvm.exec) (hb : c.code = cc) (hml : c.maxLocals = nL) {own : String} (hown : s.vm.findClass own = some m.cls) (hts : ∀ w ∈ ig_T, w.before args s = true) (hK : va_K D cl tys s) (hN : ig_N s) (hA : ∀ q : Nat, H0.size ≤ q → A q) {y : MethodName} {wy : List Cond} {rm : Room} {bytes : ByteArray} {maxL index n : Nat} {ret : Option FieldType} {host : String} {b ci N : Nat} {fs : List Value} {T : u_T} (hM : ∀ sz : Nat, Met l y wy rm (ig_Pc D cl tys (.ref b :: As) wc sz) (va_Qv post (fun u t => va_P D cl (w u) t.heap ∧ va_D (va_A wc sz) (w u)) (va_A wc sz)) 0 0 (va_A wc sz)) (cw : va_CN R s args own index y host bytes maxL ret wy rm 0 0 n ∧ (Cond.instanceMethod y).before args s = true ∧ (Cond.selects y.cls y y).before args s = true) (hn : As.length = n) (hst : st = As.reverse ++ .ref b :: rest) (hroom : (rest.map fun v => v.category).sum ≤ 8) (hd : decode cc pc = .ok (.invokevirtual index, 3)) (hf : cells + 0 ≤ R.cells ∧ slots + 0 ≤ R.slots) (qb : Nat) (hq : wc[qb]? = some (b, .inr (ci, fs))) (hci : cl[ci]? = some (y.cls, T, N)) (isC isR isB : List Nat) (hC : isC.map (fun i => ws[i]?) = wc.map some) (hR : isR.map (fun i => ws[i]?) = wr.map some) (hCn : va_nd isC = true) (hRn : va_nd isR = true ∧ ∀ i ∈ isR, i ∉ isC) (hBn : va_nd isB = true) (hB1 : ∀ u : S, isB.filterMap (fun i => (wr ++ w u)[i]?) = ws' u) (hB2 : ∀ u : S, isB.map (fun i => (wr ++ w u)[i]?) = (ws' u).map some)
    (kk : ∀ u : S, post u → ig_W p l e R s m args below meth c D cl A H0 nL cells slots Q (pc + 3) lv rest (ws' u)) : ig_W p l e R s m args below meth c D cl A H0 nL cells slots Q pc lv st ws :=
  ig_gov hA isC isR isB hC hR hCn hRn hBn hB1 hB2 (fun H locs ls hl hPc hDc => va_runVN (As := As) (rest := rest) ⟨hx, hb, hml, hown, hts⟩ (hM H.size) cw ⟨ig_blind, va_recv hK hPc hci hq, ig_pre hK hN hPc hDc⟩ rfl hn hl.1 hst (lv_room hroom) hd hf) kk
theorem ig_cSv {S : Type} {post : S → Prop} {w ws' : S → va_W} {wc wr : va_W} {As rest : List Value} (hx : p.tables.exec = Jvm.exec) (hb : c.code = cc) (hml : c.maxLocals = nL) {own : String} (hown : s.vm.findClass own = some m.cls) (hts : ∀ w ∈ ig_T, w.before args s = true) (hK : va_K D cl tys s) (hN : ig_N s) (hA : ∀ q : Nat, H0.size ≤ q → A q) {y : MethodName} {wy : List Cond} {rm : Room} {bytes : ByteArray} {maxL index n : Nat} {ret : Option FieldType} (hM : ∀ sz : Nat, Met l y wy rm (ig_Pc D cl tys As wc sz) (va_Qv post (fun u t => va_P D cl (w u) t.heap ∧ va_D (va_A wc sz) (w u)) (va_A wc sz)) 0 0 (va_A wc sz)) (cw : CallB R s args own index y bytes maxL ret wy rm 0 0 n ∧ (Cond.static y).before args s = true) (hn : As.length = n) (hst : st = As.reverse ++ rest) (hroom : (rest.map fun v => v.category).sum ≤ 8) (hd : decode cc pc = .ok (.invokestatic index, 3)) (hf : cells + 0 ≤ R.cells ∧ slots + 0 ≤ R.slots) (isC isR isB : List Nat) (hC : isC.map (fun i => ws[i]?) = wc.map some) (hR : isR.map (fun i => ws[i]?) = wr.map some) (hCn : va_nd isC = true) (hRn : va_nd isR = true ∧ ∀ i ∈ isR, i ∉ isC) (hBn : va_nd isB = true) (hB1 : ∀ u : S, isB.filterMap (fun i => (wr ++ w u)[i]?) = ws' u) (hB2 : ∀ u : S, isB.map (fun i => (wr ++ w u)[i]?) = (ws' u).map some)
    (kk : ∀ u : S, post u → ig_W p l e R s m args below meth c D cl A H0 nL cells slots Q (pc + 3) lv rest (ws' u)) : ig_W p l e R s m args below meth c D cl A H0 nL cells slots Q pc lv st ws :=
  ig_gov hA isC isR isB hC hR hCn hRn hBn hB1 hB2 (fun H locs ls hl hPc hDc => va_runS (As := As) (rest := rest) ⟨hx, hb, hml, hown, hts⟩ (hM H.size) cw ⟨ig_blind, ig_pre hK hN hPc hDc⟩ rfl hn hl.1 hst (lv_room hroom) hd hf) kk
theorem ig_cSNv {S : Type} {post : S → Prop} {w ws' : S → va_W} {wc wr : va_W} {As rest : List Value} (hx : p.tables.exec = Jvm.exec) (hb : c.code = cc) (hml : c.maxLocals = nL) {own : String} (hown : s.vm.findClass own = some m.cls) (hts : ∀ w ∈ ig_T, w.before args s = true) (hK : va_K D cl tys s) (hN : ig_N s) (hA : ∀ q : Nat, H0.size ≤ q → A q) {y : MethodName} {wy : List Cond} {rm : Room} {bytes : ByteArray} {maxL index n : Nat} {ret : Option FieldType} {host : String} (hM : ∀ sz : Nat, Met l y wy rm (ig_Pc D cl tys As wc sz) (va_Qv post (fun u t => va_P D cl (w u) t.heap ∧ va_D (va_A wc sz) (w u)) (va_A wc sz)) 0 0 (va_A wc sz)) (cw : va_CN R s args own index y host bytes maxL ret wy rm 0 0 n ∧ (Cond.static y).before args s = true ∧ True) (hn : As.length = n) (hst : st = As.reverse ++ rest) (hroom : (rest.map fun v => v.category).sum ≤ 8) (hd : decode cc pc = .ok (.invokestatic index, 3)) (hf : cells + 0 ≤ R.cells ∧ slots + 0 ≤ R.slots) (isC isR isB : List Nat) (hC : isC.map (fun i => ws[i]?) = wc.map some) (hR : isR.map (fun i => ws[i]?) = wr.map some) (hCn : va_nd isC = true) (hRn : va_nd isR = true ∧ ∀ i ∈ isR, i ∉ isC) (hBn : va_nd isB = true) (hB1 : ∀ u : S, isB.filterMap (fun i => (wr ++ w u)[i]?) = ws' u) (hB2 : ∀ u : S, isB.map (fun i => (wr ++ w u)[i]?) = (ws' u).map some)
    (kk : ∀ u : S, post u → ig_W p l e R s m args below meth c D cl A H0 nL cells slots Q (pc + 3) lv rest (ws' u)) : ig_W p l e R s m args below meth c D cl A H0 nL cells slots Q pc lv st ws :=
  ig_gov hA isC isR isB hC hR hCn hRn hBn hB1 hB2 (fun H locs ls hl hPc hDc => va_runSN (As := As) (rest := rest) ⟨hx, hb, hml, hown, hts⟩ (hM H.size) cw ⟨ig_blind, ig_pre hK hN hPc hDc⟩ rfl hn hl.1 hst (lv_room hroom) hd hf) kk
end IGC
theorem ig_inc (a k : Nat) (h : Int32.ofInt (k : Int) = nI k) : nI a + Int32.ofInt (k : Int) = nI (a + k) := by rw [h, nI_add]
theorem ig_dec {a : Nat} (k : Nat) (hk : k ≤ a) (h : Int32.ofInt (-(k : Int)) = -nI k) : nI a + Int32.ofInt (-(k : Int)) = nI (a - k) := by
  rw [h, ← Int32.sub_eq_add_neg, pk_sub hk]
theorem ig_decP {a : Nat} (hk : 1 ≤ a) : nI a - 1 + Int32.ofInt (-1) = nI (a - 1) - 1 := by
  have h : Int32.ofInt (-1) = -1 := by decide
  cases a with
  | zero => omega
  | succ j =>
    rw [nI_pred, h, ← Int32.sub_eq_add_neg]
    rfl
theorem ig_toP (a : Nat) : nI a + Int32.ofInt (-1) = nI a - 1 := by
  have h : Int32.ofInt (-1) = -1 := by decide
  rw [h, ← Int32.sub_eq_add_neg]
theorem bI_fit (b : Bool) : fits .boolean (.int (bI b)) = true := by cases b <;> rfl
theorem ig_T_good {y : MethodName} {cc : ByteArray} {maxL : Nat} {ret : Option FieldType} (h : Cond.code y cc maxL ret ∈ ig_T) : GoodIn ig_T (Cond.code y cc maxL ret :: ig_T) := by
  intro w hw
  have hm : w ∈ ig_T := by
    rcases List.mem_cons.mp hw with rfl | h1
    · exact h
    · exact h1
  exact ⟨hm, good_of_word (List.mem_filter.mp hm).2⟩
