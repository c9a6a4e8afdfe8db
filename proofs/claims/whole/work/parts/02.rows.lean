/-! My own rows: one judgement over lists (locals, stack, cells), a row an instruction, numbers as naturals. -/
def bI (b : Bool) : Int32 := cond b 1 0
theorem bI_0 {b : Bool} : bI b = 0 ↔ b = false := by cases b <;> decide
theorem bI_1 {b : Bool} : ¬ bI b = 0 ↔ b = true := by cases b <;> decide
theorem bI_nar (b : Bool) : vp_nar .boolean (bI b) = bI b := by cases b <;> rfl
theorem bI_ret (b : Bool) : narrow .boolean (.int (bI b)) = .int (bI b) := by cases b <;> rfl
theorem bI_inj {a b : Bool} (h : bI a = bI b) : a = b := by cases a <;> cases b <;> first | rfl | exact absurd h (by decide)
theorem bI_N (b : Bool) : bI b = nI (cond b 1 0) := by cases b <;> rfl
def updN (g : Nat → Nat) (k x : Nat) : Nat → Nat := fun j => if j = k then x else g j
def updB (g : Nat → Bool) (k : Nat) (x : Bool) : Nat → Bool := fun j => if j = k then x else g j
theorem upd_N (g : Nat → Nat) (k x : Nat) : upd (fun j => nI (g j)) k (nI x) = fun j => nI (updN g k x j) := by
  funext j
  simp only [upd, updN]
  split <;> rfl
theorem upd_B (g : Nat → Bool) (k : Nat) (x : Bool) : upd (fun j => bI (g j)) k (bI x) = fun j => bI (updB g k x j) := by
  funext j
  simp only [upd, updB]
  split <;> rfl
theorem updN_s {g : Nat → Nat} {k x : Nat} : updN g k x k = x := by simp [updN]
theorem updN_n {g : Nat → Nat} {k x j : Nat} (h : j ≠ k) : updN g k x j = g j := by simp [updN, h]
theorem updB_s {g : Nat → Bool} {k : Nat} {x : Bool} : updB g k x k = x := by simp [updB]
theorem updB_n {g : Nat → Bool} {k j : Nat} {x : Bool} (h : j ≠ k) : updB g k x j = g j := by simp [updB, h]
theorem ig_cl {j : Nat} (h : j < 2147483648) : (nI j).toNatClampNeg = j := nI_clamp (by omega)
theorem ig_in {j n : Nat} (h : j < n) (hn : n < 2147483648) : vp_in (nI j) n := vp_in_nI h (by omega)
theorem ig_eq {a b : Nat} (ha : a < 2147483648) (hb : b < 2147483648) : nI a = nI b ↔ a = b := nI_eq (by omega) (by omega)
theorem ig_le {a b : Nat} (ha : a < 2147483648) (hb : b < 2147483648) : nI a ≤ nI b ↔ a ≤ b := nI_leI (by omega) (by omega)
theorem ig_lt {a b : Nat} (ha : a < 2147483648) (hb : b < 2147483648) : nI a < nI b ↔ a < b := nI_ltI (by omega) (by omega)
theorem ig_and (a b : Nat) : nI a &&& nI b = nI (a &&& b) := by
  apply Int32.toBitVec_inj.mp
  show BitVec.ofNat 32 a &&& BitVec.ofNat 32 b = BitVec.ofNat 32 (a &&& b)
  apply BitVec.eq_of_toNat_eq
  simp [BitVec.toNat_ofNat, Nat.and_mod_two_pow]
theorem ig_or (a b : Nat) : nI a ||| nI b = nI (a ||| b) := by
  apply Int32.toBitVec_inj.mp
  show BitVec.ofNat 32 a ||| BitVec.ofNat 32 b = BitVec.ofNat 32 (a ||| b)
  apply BitVec.eq_of_toNat_eq
  simp [BitVec.toNat_ofNat, Nat.or_mod_two_pow]
theorem ig_ne0 {b : Nat} (h2 : 0 < b) (h3 : b < 2 ^ 31) : ¬ nI b = 0 := nI_ne0 h2 h3
theorem ig_Pge {a : Nat} (h : 0 < a) (h1 : a < 2147483648) : (0 : Int32) ≤ nI a - 1 := by
  cases a with
  | zero => omega
  | succ j => rw [nI_pred]; exact nI_pos' (by omega)
theorem ig_P0 {a : Nat} (h1 : a < 2147483648) : nI a - 1 < 0 ↔ a = 0 := by
  cases a with
  | zero => exact ⟨fun _ => rfl, fun _ => by decide⟩
  | succ j =>
    rw [nI_pred]
    exact ⟨fun h => absurd h (nI_pos (by omega)), fun h => by omega⟩
/-- the machine, from pc on, with these locals, this stack, these cells -/
def ig_W (p : Program) (l : Launch) (e : Env) (R : Room) (s : State) (m : MethodId) (args : Array Value) (below : List Frame) (meth : Method) (c : Code) (D : va_G) (cl : List vw_C) (A : Nat → Prop) (H0 : Heap) (nL cells slots : Nat) (Q : State → Prop) (pc : Nat) (lv : List (Nat × Value)) (st : List Value) (ws : va_W) : Prop :=
  ∀ (H : Heap) (locs : List Loc) (ls : Array Slot), lv_has ls nL lv → va_P D cl ws H → va_D A ws → va_S A H0 H locs → W p l e R s m args below meth c H locs cells slots Q (F0 m pc ls st)
section IG
variable {p : Program} {l : Launch} {e : Env} {R : Room} {s : State} {m : MethodId} {args : Array Value} {below : List Frame} {meth : Method} {c : Code} {D : va_G} {cl : List vw_C} {A : Nat → Prop} {H0 : Heap} {nL cells slots : Nat} {Q : State → Prop}
variable {cc : ByteArray} {pc : Nat} {lv : List (Nat × Value)} {st : List Value} {ws : va_W} {tys : List (ClassId × FieldType)}
theorem ig_lv (ks : List Nat) {lv' : List (Nat × Value)} (h : lv_pick lv ks = lv') (k : ig_W p l e R s m args below meth c D cl A H0 nL cells slots Q pc lv' st ws) : ig_W p l e R s m args below meth c D cl A H0 nL cells slots Q pc lv st ws := fun H locs ls hl hP hD hS => k H locs ls (lv_sub hl ks h) hP hD hS
theorem ig_ws (is : List Nat) {ws' : va_W} (hn : va_nd is = true) (h1 : is.filterMap (fun i => ws[i]?) = ws') (h2 : is.map (fun i => ws[i]?) = ws'.map some) (k : ig_W p l e R s m args below meth c D cl A H0 nL cells slots Q pc lv st ws') : ig_W p l e R s m args below meth c D cl A H0 nL cells slots Q pc lv st ws := fun H locs ls hl hP hD hS => k H locs ls hl (hP.sub is h1) (hD.sub is hn h2) hS
theorem ig_iconst (hx : p.tables.exec = Jvm.exec) (hb : c.code = cc) {n : Int} {v : Int32} (hd : decode cc pc = .ok (.iconst n, 1)) (hv : Int32.ofInt n = v) (k : ig_W p l e R s m args below meth c D cl A H0 nL cells slots Q (pc + 1) lv (.int v :: st) ws) : ig_W p l e R s m args below meth c D cl A H0 nL cells slots Q pc lv st ws := fun H locs ls hl hP hD hS => lv_iconst hx hb hd hv (k H locs ls hl hP hD hS)
theorem ig_bipush (hx : p.tables.exec = Jvm.exec) (hb : c.code = cc) {n : Int} {v : Int32} (hd : decode cc pc = .ok (.bipush n, 2)) (hv : (Int8.ofInt n).toInt32 = v) (k : ig_W p l e R s m args below meth c D cl A H0 nL cells slots Q (pc + 2) lv (.int v :: st) ws) : ig_W p l e R s m args below meth c D cl A H0 nL cells slots Q pc lv st ws := fun H locs ls hl hP hD hS => lv_bipush hx hb hd hv (k H locs ls hl hP hD hS)
theorem ig_sipush (hx : p.tables.exec = Jvm.exec) (hb : c.code = cc) {n : Int} {v : Int32} (hd : decode cc pc = .ok (.sipush n, 3)) (hv : (Int16.ofInt n).toInt32 = v) (k : ig_W p l e R s m args below meth c D cl A H0 nL cells slots Q (pc + 3) lv (.int v :: st) ws) : ig_W p l e R s m args below meth c D cl A H0 nL cells slots Q pc lv st ws := fun H locs ls hl hP hD hS => lv_sipush hx hb hd hv (k H locs ls hl hP hD hS)
theorem ig_lconst (hx : p.tables.exec = Jvm.exec) (hb : c.code = cc) {n : Fin 2} {v : Int64} (hd : decode cc pc = .ok (.lconst n, 1)) (hv : Int64.ofNat (n : Nat) = v) (k : ig_W p l e R s m args below meth c D cl A H0 nL cells slots Q (pc + 1) lv (.long v :: st) ws) : ig_W p l e R s m args below meth c D cl A H0 nL cells slots Q pc lv st ws := fun H locs ls hl hP hD hS => lv_lconst hx hb hd hv (k H locs ls hl hP hD hS)
theorem ig_iload_n (hx : p.tables.exec = Jvm.exec) (hb : c.code = cc) {n : Fin 4} {i : Nat} {x : Int32} (q : Nat) (hd : decode cc pc = .ok (.iload_n n, 1)) (hi : (n : Nat) = i) (hq : lv[q]? = some (i, .int x)) (k : ig_W p l e R s m args below meth c D cl A H0 nL cells slots Q (pc + 1) lv (.int x :: st) ws) : ig_W p l e R s m args below meth c D cl A H0 nL cells slots Q pc lv st ws := fun H locs ls hl hP hD hS => lv_iload_n hx hb hd hi (lv_at hl q hq) (k H locs ls hl hP hD hS)
theorem ig_iload (hx : p.tables.exec = Jvm.exec) (hb : c.code = cc) {i : Nat} {x : Int32} (q : Nat) (hd : decode cc pc = .ok (.iload i, 2)) (hq : lv[q]? = some (i, .int x)) (k : ig_W p l e R s m args below meth c D cl A H0 nL cells slots Q (pc + 2) lv (.int x :: st) ws) : ig_W p l e R s m args below meth c D cl A H0 nL cells slots Q pc lv st ws := fun H locs ls hl hP hD hS => lv_iload hx hb hd (lv_at hl q hq) (k H locs ls hl hP hD hS)
theorem ig_istore_n (hx : p.tables.exec = Jvm.exec) (hb : c.code = cc) {n : Fin 4} {i : Nat} {x : Int32} {lv' : List (Nat × Value)} (hd : decode cc pc = .ok (.istore_n n, 1)) (hi : (n : Nat) = i) (hn : i < nL) (hl' : (i, Value.int x) :: lv.filter (fun q => !(q.1 == i) && !(q.1 + 1 == i && q.2.category == 2)) = lv') (k : ig_W p l e R s m args below meth c D cl A H0 nL cells slots Q (pc + 1) lv' st ws) : ig_W p l e R s m args below meth c D cl A H0 nL cells slots Q pc lv (.int x :: st) ws := fun H locs ls hl hP hD hS => lv_istore_n hx hb hd hi hl hn hl' (fun ls' h' => k H locs ls' h' hP hD hS)
theorem ig_istore (hx : p.tables.exec = Jvm.exec) (hb : c.code = cc) {i : Nat} {x : Int32} {lv' : List (Nat × Value)} (hd : decode cc pc = .ok (.istore i, 2)) (hn : i < nL) (hl' : (i, Value.int x) :: lv.filter (fun q => !(q.1 == i) && !(q.1 + 1 == i && q.2.category == 2)) = lv') (k : ig_W p l e R s m args below meth c D cl A H0 nL cells slots Q (pc + 2) lv' st ws) : ig_W p l e R s m args below meth c D cl A H0 nL cells slots Q pc lv (.int x :: st) ws := fun H locs ls hl hP hD hS => lv_istore hx hb hd hl hn hl' (fun ls' h' => k H locs ls' h' hP hD hS)
theorem ig_lload_n (hx : p.tables.exec = Jvm.exec) (hb : c.code = cc) {n : Fin 4} {i : Nat} {x : Int64} (q : Nat) (hd : decode cc pc = .ok (.lload_n n, 1)) (hi : (n : Nat) = i) (hq : lv[q]? = some (i, .long x)) (k : ig_W p l e R s m args below meth c D cl A H0 nL cells slots Q (pc + 1) lv (.long x :: st) ws) : ig_W p l e R s m args below meth c D cl A H0 nL cells slots Q pc lv st ws := fun H locs ls hl hP hD hS => lv_lload_n hx hb hd hi (lv_at hl q hq) (k H locs ls hl hP hD hS)
theorem ig_lload (hx : p.tables.exec = Jvm.exec) (hb : c.code = cc) {i : Nat} {x : Int64} (q : Nat) (hd : decode cc pc = .ok (.lload i, 2)) (hq : lv[q]? = some (i, .long x)) (k : ig_W p l e R s m args below meth c D cl A H0 nL cells slots Q (pc + 2) lv (.long x :: st) ws) : ig_W p l e R s m args below meth c D cl A H0 nL cells slots Q pc lv st ws := fun H locs ls hl hP hD hS => lv_lload hx hb hd (lv_at hl q hq) (k H locs ls hl hP hD hS)
theorem ig_lstore_n (hx : p.tables.exec = Jvm.exec) (hb : c.code = cc) {n : Fin 4} {i : Nat} {x : Int64} {lv' : List (Nat × Value)} (hd : decode cc pc = .ok (.lstore_n n, 1)) (hi : (n : Nat) = i) (hn : i + 1 < nL) (hl' : (i, Value.long x) :: lv.filter (fun q => !(q.1 == i) && (!(q.1 == i + 1) && !(q.1 + 1 == i && q.2.category == 2))) = lv') (k : ig_W p l e R s m args below meth c D cl A H0 nL cells slots Q (pc + 1) lv' st ws) : ig_W p l e R s m args below meth c D cl A H0 nL cells slots Q pc lv (.long x :: st) ws := fun H locs ls hl hP hD hS => lv_lstore_n hx hb hd hi hl hn hl' (fun ls' h' => k H locs ls' h' hP hD hS)
theorem ig_lstore (hx : p.tables.exec = Jvm.exec) (hb : c.code = cc) {i : Nat} {x : Int64} {lv' : List (Nat × Value)} (hd : decode cc pc = .ok (.lstore i, 2)) (hn : i + 1 < nL) (hl' : (i, Value.long x) :: lv.filter (fun q => !(q.1 == i) && (!(q.1 == i + 1) && !(q.1 + 1 == i && q.2.category == 2))) = lv') (k : ig_W p l e R s m args below meth c D cl A H0 nL cells slots Q (pc + 2) lv' st ws) : ig_W p l e R s m args below meth c D cl A H0 nL cells slots Q pc lv (.long x :: st) ws := fun H locs ls hl hP hD hS => lv_lstore hx hb hd hl hn hl' (fun ls' h' => k H locs ls' h' hP hD hS)
theorem ig_aload_n (hx : p.tables.exec = Jvm.exec) (hb : c.code = cc) {n : Fin 4} {i : Nat} {x : Nat} (q : Nat) (hd : decode cc pc = .ok (.aload_n n, 1)) (hi : (n : Nat) = i) (hq : lv[q]? = some (i, .ref x)) (k : ig_W p l e R s m args below meth c D cl A H0 nL cells slots Q (pc + 1) lv (.ref x :: st) ws) : ig_W p l e R s m args below meth c D cl A H0 nL cells slots Q pc lv st ws := fun H locs ls hl hP hD hS => lv_aload_n hx hb hd hi (lv_at hl q hq) (k H locs ls hl hP hD hS)
theorem ig_aload (hx : p.tables.exec = Jvm.exec) (hb : c.code = cc) {i : Nat} {x : Nat} (q : Nat) (hd : decode cc pc = .ok (.aload i, 2)) (hq : lv[q]? = some (i, .ref x)) (k : ig_W p l e R s m args below meth c D cl A H0 nL cells slots Q (pc + 2) lv (.ref x :: st) ws) : ig_W p l e R s m args below meth c D cl A H0 nL cells slots Q pc lv st ws := fun H locs ls hl hP hD hS => lv_aload hx hb hd (lv_at hl q hq) (k H locs ls hl hP hD hS)
theorem ig_astore_n (hx : p.tables.exec = Jvm.exec) (hb : c.code = cc) {n : Fin 4} {i : Nat} {x : Nat} {lv' : List (Nat × Value)} (hd : decode cc pc = .ok (.astore_n n, 1)) (hi : (n : Nat) = i) (hn : i < nL) (hl' : (i, Value.ref x) :: lv.filter (fun q => !(q.1 == i) && !(q.1 + 1 == i && q.2.category == 2)) = lv') (k : ig_W p l e R s m args below meth c D cl A H0 nL cells slots Q (pc + 1) lv' st ws) : ig_W p l e R s m args below meth c D cl A H0 nL cells slots Q pc lv (.ref x :: st) ws := fun H locs ls hl hP hD hS => lv_astore_n hx hb hd hi hl hn hl' (fun ls' h' => k H locs ls' h' hP hD hS)
theorem ig_astore (hx : p.tables.exec = Jvm.exec) (hb : c.code = cc) {i : Nat} {x : Nat} {lv' : List (Nat × Value)} (hd : decode cc pc = .ok (.astore i, 2)) (hn : i < nL) (hl' : (i, Value.ref x) :: lv.filter (fun q => !(q.1 == i) && !(q.1 + 1 == i && q.2.category == 2)) = lv') (k : ig_W p l e R s m args below meth c D cl A H0 nL cells slots Q (pc + 2) lv' st ws) : ig_W p l e R s m args below meth c D cl A H0 nL cells slots Q pc lv (.ref x :: st) ws := fun H locs ls hl hP hD hS => lv_astore hx hb hd hl hn hl' (fun ls' h' => k H locs ls' h' hP hD hS)
theorem ig_iinc (hx : p.tables.exec = Jvm.exec) (hb : c.code = cc) {i : Nat} {n : Int} {x v : Int32} {lv' : List (Nat × Value)} (q : Nat) (hd : decode cc pc = .ok (.iinc i n, 3)) (hq : lv[q]? = some (i, .int x)) (hv : x + Int32.ofInt n = v) (hn : i < nL) (hl' : (i, Value.int v) :: lv.filter (fun q => !(q.1 == i) && !(q.1 + 1 == i && q.2.category == 2)) = lv') (k : ig_W p l e R s m args below meth c D cl A H0 nL cells slots Q (pc + 3) lv' st ws) : ig_W p l e R s m args below meth c D cl A H0 nL cells slots Q pc lv st ws := fun H locs ls hl hP hD hS => lv_iinc hx hb hd hl hq hv hn hl' (fun ls' h' => k H locs ls' h' hP hD hS)
theorem ig_iadd (hx : p.tables.exec = Jvm.exec) (hb : c.code = cc) {x y : Int32} (hd : decode cc pc = .ok (.iadd, 1)) (k : ig_W p l e R s m args below meth c D cl A H0 nL cells slots Q (pc + 1) lv (.int (x + y) :: st) ws) : ig_W p l e R s m args below meth c D cl A H0 nL cells slots Q pc lv (.int y :: .int x :: st) ws := fun H locs ls hl hP hD hS => lv_iadd hx hb hd (k H locs ls hl hP hD hS)
theorem ig_isub (hx : p.tables.exec = Jvm.exec) (hb : c.code = cc) {x y : Int32} (hd : decode cc pc = .ok (.isub, 1)) (k : ig_W p l e R s m args below meth c D cl A H0 nL cells slots Q (pc + 1) lv (.int (x - y) :: st) ws) : ig_W p l e R s m args below meth c D cl A H0 nL cells slots Q pc lv (.int y :: .int x :: st) ws := fun H locs ls hl hP hD hS => lv_isub hx hb hd (k H locs ls hl hP hD hS)
theorem ig_imul (hx : p.tables.exec = Jvm.exec) (hb : c.code = cc) {x y : Int32} (hd : decode cc pc = .ok (.imul, 1)) (k : ig_W p l e R s m args below meth c D cl A H0 nL cells slots Q (pc + 1) lv (.int (x * y) :: st) ws) : ig_W p l e R s m args below meth c D cl A H0 nL cells slots Q pc lv (.int y :: .int x :: st) ws := fun H locs ls hl hP hD hS => lv_imul hx hb hd (k H locs ls hl hP hD hS)
theorem ig_iand (hx : p.tables.exec = Jvm.exec) (hb : c.code = cc) {x y : Int32} (hd : decode cc pc = .ok (.iand, 1)) (k : ig_W p l e R s m args below meth c D cl A H0 nL cells slots Q (pc + 1) lv (.int (x &&& y) :: st) ws) : ig_W p l e R s m args below meth c D cl A H0 nL cells slots Q pc lv (.int y :: .int x :: st) ws := fun H locs ls hl hP hD hS => lv_iand hx hb hd (k H locs ls hl hP hD hS)
theorem ig_ior (hx : p.tables.exec = Jvm.exec) (hb : c.code = cc) {x y : Int32} (hd : decode cc pc = .ok (.ior, 1)) (k : ig_W p l e R s m args below meth c D cl A H0 nL cells slots Q (pc + 1) lv (.int (x ||| y) :: st) ws) : ig_W p l e R s m args below meth c D cl A H0 nL cells slots Q pc lv (.int y :: .int x :: st) ws := fun H locs ls hl hP hD hS => lv_ior hx hb hd (k H locs ls hl hP hD hS)
theorem ig_land (hx : p.tables.exec = Jvm.exec) (hb : c.code = cc) {x y : Int64} (hd : decode cc pc = .ok (.land, 1)) (k : ig_W p l e R s m args below meth c D cl A H0 nL cells slots Q (pc + 1) lv (.long (x &&& y) :: st) ws) : ig_W p l e R s m args below meth c D cl A H0 nL cells slots Q pc lv (.long y :: .long x :: st) ws := fun H locs ls hl hP hD hS => lv_land hx hb hd (k H locs ls hl hP hD hS)
theorem ig_lor (hx : p.tables.exec = Jvm.exec) (hb : c.code = cc) {x y : Int64} (hd : decode cc pc = .ok (.lor, 1)) (k : ig_W p l e R s m args below meth c D cl A H0 nL cells slots Q (pc + 1) lv (.long (x ||| y) :: st) ws) : ig_W p l e R s m args below meth c D cl A H0 nL cells slots Q pc lv (.long y :: .long x :: st) ws := fun H locs ls hl hP hD hS => lv_lor hx hb hd (k H locs ls hl hP hD hS)
theorem ig_iaddN (hx : p.tables.exec = Jvm.exec) (hb : c.code = cc) {x y : Int32} (a b : Nat) (ha : x = nI a) (hy : y = nI b) (hd : decode cc pc = .ok (.iadd, 1)) (k : ig_W p l e R s m args below meth c D cl A H0 nL cells slots Q (pc + 1) lv (.int (nI (a + b)) :: st) ws) : ig_W p l e R s m args below meth c D cl A H0 nL cells slots Q pc lv (.int y :: .int x :: st) ws := by
  subst ha
  subst hy
  intro H locs ls hl hP hD hS
  have k := k H locs ls hl hP hD hS
  rw [← nI_add] at k
  exact lv_iadd hx hb hd k
theorem ig_isubN (hx : p.tables.exec = Jvm.exec) (hb : c.code = cc) {x y : Int32} (a b : Nat) (ha : x = nI a) (hy : y = nI b) (h : b ≤ a) (hd : decode cc pc = .ok (.isub, 1)) (k : ig_W p l e R s m args below meth c D cl A H0 nL cells slots Q (pc + 1) lv (.int (nI (a - b)) :: st) ws) : ig_W p l e R s m args below meth c D cl A H0 nL cells slots Q pc lv (.int y :: .int x :: st) ws := by
  subst ha
  subst hy
  intro H locs ls hl hP hD hS
  have k := k H locs ls hl hP hD hS
  rw [← pk_sub h] at k
  exact lv_isub hx hb hd k
theorem ig_imulN (hx : p.tables.exec = Jvm.exec) (hb : c.code = cc) {x y : Int32} (a b : Nat) (ha : x = nI a) (hy : y = nI b) (hd : decode cc pc = .ok (.imul, 1)) (k : ig_W p l e R s m args below meth c D cl A H0 nL cells slots Q (pc + 1) lv (.int (nI (a * b)) :: st) ws) : ig_W p l e R s m args below meth c D cl A H0 nL cells slots Q pc lv (.int y :: .int x :: st) ws := by
  subst ha
  subst hy
  intro H locs ls hl hP hD hS
  have k := k H locs ls hl hP hD hS
  rw [← pk_mul] at k
  exact lv_imul hx hb hd k
theorem ig_iandN (hx : p.tables.exec = Jvm.exec) (hb : c.code = cc) {x y : Int32} (a b : Nat) (ha : x = nI a) (hy : y = nI b) (hd : decode cc pc = .ok (.iand, 1)) (k : ig_W p l e R s m args below meth c D cl A H0 nL cells slots Q (pc + 1) lv (.int (nI (a &&& b)) :: st) ws) : ig_W p l e R s m args below meth c D cl A H0 nL cells slots Q pc lv (.int y :: .int x :: st) ws := by
  subst ha
  subst hy
  intro H locs ls hl hP hD hS
  have k := k H locs ls hl hP hD hS
  rw [← ig_and] at k
  exact lv_iand hx hb hd k
theorem ig_iorN (hx : p.tables.exec = Jvm.exec) (hb : c.code = cc) {x y : Int32} (a b : Nat) (ha : x = nI a) (hy : y = nI b) (hd : decode cc pc = .ok (.ior, 1)) (k : ig_W p l e R s m args below meth c D cl A H0 nL cells slots Q (pc + 1) lv (.int (nI (a ||| b)) :: st) ws) : ig_W p l e R s m args below meth c D cl A H0 nL cells slots Q pc lv (.int y :: .int x :: st) ws := by
  subst ha
  subst hy
  intro H locs ls hl hP hD hS
  have k := k H locs ls hl hP hD hS
  rw [← ig_or] at k
  exact lv_ior hx hb hd k
theorem ig_iremN (hx : p.tables.exec = Jvm.exec) (hb : c.code = cc) {x y : Int32} (a b : Nat) (ha : x = nI a) (hy : y = nI b) (h1 : a < 2 ^ 31) (h2 : 0 < b) (h3 : b < 2 ^ 31) (hd : decode cc pc = .ok (.irem, 1)) (k : ig_W p l e R s m args below meth c D cl A H0 nL cells slots Q (pc + 1) lv (.int (nI (a % b)) :: st) ws) : ig_W p l e R s m args below meth c D cl A H0 nL cells slots Q pc lv (.int y :: .int x :: st) ws := by
  subst ha
  subst hy
  intro H locs ls hl hP hD hS
  have k := k H locs ls hl hP hD hS
  rw [← pk_rem h1 h2 h3] at k
  exact lv_irem hx hb hd (ig_ne0 h2 h3) k
theorem ig_i2c (hx : p.tables.exec = Jvm.exec) (hb : c.code = cc) {x v : Int32} (hd : decode cc pc = .ok (.i2c, 1)) (hv : (x.toUInt32 % 65536).toInt32 = v) (k : ig_W p l e R s m args below meth c D cl A H0 nL cells slots Q (pc + 1) lv (.int v :: st) ws) : ig_W p l e R s m args below meth c D cl A H0 nL cells slots Q pc lv (.int x :: st) ws := fun H locs ls hl hP hD hS => lv_i2c hx hb hd hv (k H locs ls hl hP hD hS)
theorem ig_i2l (hx : p.tables.exec = Jvm.exec) (hb : c.code = cc) {x : Int32} {v : Int64} (hd : decode cc pc = .ok (.i2l, 1)) (hv : x.toInt64 = v) (k : ig_W p l e R s m args below meth c D cl A H0 nL cells slots Q (pc + 1) lv (.long v :: st) ws) : ig_W p l e R s m args below meth c D cl A H0 nL cells slots Q pc lv (.int x :: st) ws := fun H locs ls hl hP hD hS => lv_i2l hx hb hd hv (k H locs ls hl hP hD hS)
theorem ig_l2i (hx : p.tables.exec = Jvm.exec) (hb : c.code = cc) {x : Int64} {v : Int32} (hd : decode cc pc = .ok (.l2i, 1)) (hv : x.toInt32 = v) (k : ig_W p l e R s m args below meth c D cl A H0 nL cells slots Q (pc + 1) lv (.int v :: st) ws) : ig_W p l e R s m args below meth c D cl A H0 nL cells slots Q pc lv (.long x :: st) ws := fun H locs ls hl hP hD hS => lv_l2i hx hb hd hv (k H locs ls hl hP hD hS)
theorem ig_lushr (hx : p.tables.exec = Jvm.exec) (hb : c.code = cc) {x v : Int64} {y : Int32} (hd : decode cc pc = .ok (.lushr, 1)) (hv : (x.toUInt64 >>> (y.toInt64.toUInt64 &&& Int64.toUInt64 63)).toInt64 = v) (k : ig_W p l e R s m args below meth c D cl A H0 nL cells slots Q (pc + 1) lv (.long v :: st) ws) : ig_W p l e R s m args below meth c D cl A H0 nL cells slots Q pc lv (.int y :: .long x :: st) ws := fun H locs ls hl hP hD hS => lv_lushr hx hb hd hv (k H locs ls hl hP hD hS)
theorem ig_lshl (hx : p.tables.exec = Jvm.exec) (hb : c.code = cc) {x v : Int64} {y : Int32} (hd : decode cc pc = .ok (.lshl, 1)) (hv : x <<< (y.toInt64 &&& 63) = v) (k : ig_W p l e R s m args below meth c D cl A H0 nL cells slots Q (pc + 1) lv (.long v :: st) ws) : ig_W p l e R s m args below meth c D cl A H0 nL cells slots Q pc lv (.int y :: .long x :: st) ws := fun H locs ls hl hP hD hS => lv_lshl hx hb hd hv (k H locs ls hl hP hD hS)
theorem ig_lshr (hx : p.tables.exec = Jvm.exec) (hb : c.code = cc) {x v : Int64} {y : Int32} (hd : decode cc pc = .ok (.lshr, 1)) (hv : x >>> (y.toInt64 &&& 63) = v) (k : ig_W p l e R s m args below meth c D cl A H0 nL cells slots Q (pc + 1) lv (.long v :: st) ws) : ig_W p l e R s m args below meth c D cl A H0 nL cells slots Q pc lv (.int y :: .long x :: st) ws := fun H locs ls hl hP hD hS => lv_lshr hx hb hd hv (k H locs ls hl hP hD hS)
theorem ig_ldc2 (hx : p.tables.exec = Jvm.exec) (hb : c.code = cc) {own : String} {index : Nat} {v : Int64} (hd : decode cc pc = .ok (.ldc2_w index, 3)) (hown : s.vm.findClass own = some m.cls) (hc : (Jvm.Cond.constantLong own index v).before args s = true) (k : ig_W p l e R s m args below meth c D cl A H0 nL cells slots Q (pc + 3) lv (.long v :: st) ws) : ig_W p l e R s m args below meth c D cl A H0 nL cells slots Q pc lv st ws := fun H locs ls hl hP hD hS => lv_ldc2 hx hb hown hc hd (k H locs ls hl hP hD hS)
theorem ig_ldc (hx : p.tables.exec = Jvm.exec) (hb : c.code = cc) {own : String} {index : Nat} {v : Int32} (hd : decode cc pc = .ok (.ldc index, 2)) (hown : s.vm.findClass own = some m.cls) (hc : (Jvm.Cond.constant own index v).before args s = true) (k : ig_W p l e R s m args below meth c D cl A H0 nL cells slots Q (pc + 2) lv (.int v :: st) ws) : ig_W p l e R s m args below meth c D cl A H0 nL cells slots Q pc lv st ws := fun H locs ls hl hP hD hS => lv_ldc hx hb hown hc hd (k H locs ls hl hP hD hS)
theorem ig_dup (hx : p.tables.exec = Jvm.exec) (hb : c.code = cc) {v : Value} (hd : decode cc pc = .ok (.dup, 1)) (hv : v.category = 1) (k : ig_W p l e R s m args below meth c D cl A H0 nL cells slots Q (pc + 1) lv (v :: v :: st) ws) : ig_W p l e R s m args below meth c D cl A H0 nL cells slots Q pc lv (v :: st) ws := fun H locs ls hl hP hD hS => lv_dup hx hb hd hv (k H locs ls hl hP hD hS)
theorem ig_pop (hx : p.tables.exec = Jvm.exec) (hb : c.code = cc) {v : Value} (hd : decode cc pc = .ok (.pop, 1)) (hv : v.category = 1) (k : ig_W p l e R s m args below meth c D cl A H0 nL cells slots Q (pc + 1) lv st ws) : ig_W p l e R s m args below meth c D cl A H0 nL cells slots Q pc lv (v :: st) ws := fun H locs ls hl hP hD hS => lv_pop hx hb hd hv (k H locs ls hl hP hD hS)
theorem ig_dup_x1 (hx : p.tables.exec = Jvm.exec) (hb : c.code = cc) {v w : Value} (hd : decode cc pc = .ok (.dup_x1, 1)) (hv : v.category = 1) (hw : w.category = 1) (k : ig_W p l e R s m args below meth c D cl A H0 nL cells slots Q (pc + 1) lv (v :: w :: v :: st) ws) : ig_W p l e R s m args below meth c D cl A H0 nL cells slots Q pc lv (v :: w :: st) ws := fun H locs ls hl hP hD hS => lv_dup_x1 hx hb hd hv hw (k H locs ls hl hP hD hS)
theorem ig_dup2 (hx : p.tables.exec = Jvm.exec) (hb : c.code = cc) {v w : Value} (hd : decode cc pc = .ok (.dup2, 1)) (hv : v.category = 1) (hw : w.category = 1) (k : ig_W p l e R s m args below meth c D cl A H0 nL cells slots Q (pc + 1) lv (v :: w :: v :: w :: st) ws) : ig_W p l e R s m args below meth c D cl A H0 nL cells slots Q pc lv (v :: w :: st) ws := fun H locs ls hl hP hD hS => lv_dup2_11 hx hb hd hv hw (k H locs ls hl hP hD hS)
theorem ig_lcmp (hx : p.tables.exec = Jvm.exec) (hb : c.code = cc) {x y : Int64} (hd : decode cc pc = .ok (.lcmp, 1)) (k : ig_W p l e R s m args below meth c D cl A H0 nL cells slots Q (pc + 1) lv (.int (lg_cmp x y) :: st) ws) : ig_W p l e R s m args below meth c D cl A H0 nL cells slots Q pc lv (.long y :: .long x :: st) ws := fun H locs ls hl hP hD hS => W.lcmp hx hb hd (k H locs ls hl hP hD hS)
theorem ig_goto (hx : p.tables.exec = Jvm.exec) (hb : c.code = cc) {off : Int} {tgt : Nat} (hd : decode cc pc = .ok (.goto off, 3)) (ht : (pc : Int) + off = (tgt : Int)) (k : ig_W p l e R s m args below meth c D cl A H0 nL cells slots Q tgt lv st ws) : ig_W p l e R s m args below meth c D cl A H0 nL cells slots Q pc lv st ws := fun H locs ls hl hP hD hS => lv_goto hx hb hd ht (k H locs ls hl hP hD hS)
theorem ig_icmp_eq (hx : p.tables.exec = Jvm.exec) (hb : c.code = cc) {x y : Int32} {off : Int} {tgt : Nat} (hd : decode cc pc = .ok (.if_icmp .eq off, 3)) (ht : (pc : Int) + off = (tgt : Int)) (kt : x = y → ig_W p l e R s m args below meth c D cl A H0 nL cells slots Q tgt lv st ws) (kf : ¬ x = y → ig_W p l e R s m args below meth c D cl A H0 nL cells slots Q (pc + 3) lv st ws) : ig_W p l e R s m args below meth c D cl A H0 nL cells slots Q pc lv (.int y :: .int x :: st) ws := fun H locs ls hl hP hD hS => lv_icmp_eq hx hb hd ht (fun h => kt h H locs ls hl hP hD hS) (fun h => kf h H locs ls hl hP hD hS)
theorem ig_if_eq (hx : p.tables.exec = Jvm.exec) (hb : c.code = cc) {x : Int32} {off : Int} {tgt : Nat} (hd : decode cc pc = .ok (.ifCond .eq off, 3)) (ht : (pc : Int) + off = (tgt : Int)) (kt : x = 0 → ig_W p l e R s m args below meth c D cl A H0 nL cells slots Q tgt lv st ws) (kf : ¬ x = 0 → ig_W p l e R s m args below meth c D cl A H0 nL cells slots Q (pc + 3) lv st ws) : ig_W p l e R s m args below meth c D cl A H0 nL cells slots Q pc lv (.int x :: st) ws := fun H locs ls hl hP hD hS => lv_if_eq hx hb hd ht (fun h => kt h H locs ls hl hP hD hS) (fun h => kf h H locs ls hl hP hD hS)
theorem ig_icmp_eqN (hx : p.tables.exec = Jvm.exec) (hb : c.code = cc) {x y : Int32} (a b : Nat) (ha : x = nI a) (hy : y = nI b) {off : Int} {tgt : Nat} (hd : decode cc pc = .ok (.if_icmp .eq off, 3)) (ht : (pc : Int) + off = (tgt : Int)) (h1 : a < 2147483648) (h2 : b < 2147483648) (kt : a = b → ig_W p l e R s m args below meth c D cl A H0 nL cells slots Q tgt lv st ws) (kf : ¬ a = b → ig_W p l e R s m args below meth c D cl A H0 nL cells slots Q (pc + 3) lv st ws) : ig_W p l e R s m args below meth c D cl A H0 nL cells slots Q pc lv (.int y :: .int x :: st) ws := by
  subst ha
  subst hy
  exact ig_icmp_eq hx hb hd ht (fun h => kt ((ig_eq h1 h2).mp h)) (fun h => kf (fun q => h ((ig_eq h1 h2).mpr q)))
theorem ig_icmp_ne (hx : p.tables.exec = Jvm.exec) (hb : c.code = cc) {x y : Int32} {off : Int} {tgt : Nat} (hd : decode cc pc = .ok (.if_icmp .ne off, 3)) (ht : (pc : Int) + off = (tgt : Int)) (kt : ¬ x = y → ig_W p l e R s m args below meth c D cl A H0 nL cells slots Q tgt lv st ws) (kf : x = y → ig_W p l e R s m args below meth c D cl A H0 nL cells slots Q (pc + 3) lv st ws) : ig_W p l e R s m args below meth c D cl A H0 nL cells slots Q pc lv (.int y :: .int x :: st) ws := fun H locs ls hl hP hD hS => lv_icmp_ne hx hb hd ht (fun h => kt h H locs ls hl hP hD hS) (fun h => kf h H locs ls hl hP hD hS)
theorem ig_if_ne (hx : p.tables.exec = Jvm.exec) (hb : c.code = cc) {x : Int32} {off : Int} {tgt : Nat} (hd : decode cc pc = .ok (.ifCond .ne off, 3)) (ht : (pc : Int) + off = (tgt : Int)) (kt : ¬ x = 0 → ig_W p l e R s m args below meth c D cl A H0 nL cells slots Q tgt lv st ws) (kf : x = 0 → ig_W p l e R s m args below meth c D cl A H0 nL cells slots Q (pc + 3) lv st ws) : ig_W p l e R s m args below meth c D cl A H0 nL cells slots Q pc lv (.int x :: st) ws := fun H locs ls hl hP hD hS => lv_if_ne hx hb hd ht (fun h => kt h H locs ls hl hP hD hS) (fun h => kf h H locs ls hl hP hD hS)
theorem ig_icmp_neN (hx : p.tables.exec = Jvm.exec) (hb : c.code = cc) {x y : Int32} (a b : Nat) (ha : x = nI a) (hy : y = nI b) {off : Int} {tgt : Nat} (hd : decode cc pc = .ok (.if_icmp .ne off, 3)) (ht : (pc : Int) + off = (tgt : Int)) (h1 : a < 2147483648) (h2 : b < 2147483648) (kt : ¬ a = b → ig_W p l e R s m args below meth c D cl A H0 nL cells slots Q tgt lv st ws) (kf : a = b → ig_W p l e R s m args below meth c D cl A H0 nL cells slots Q (pc + 3) lv st ws) : ig_W p l e R s m args below meth c D cl A H0 nL cells slots Q pc lv (.int y :: .int x :: st) ws := by
  subst ha
  subst hy
  exact ig_icmp_ne hx hb hd ht (fun h => kt (fun q => h ((ig_eq h1 h2).mpr q))) (fun h => kf ((ig_eq h1 h2).mp h))
theorem ig_icmp_lt (hx : p.tables.exec = Jvm.exec) (hb : c.code = cc) {x y : Int32} {off : Int} {tgt : Nat} (hd : decode cc pc = .ok (.if_icmp .lt off, 3)) (ht : (pc : Int) + off = (tgt : Int)) (kt : x < y → ig_W p l e R s m args below meth c D cl A H0 nL cells slots Q tgt lv st ws) (kf : ¬ x < y → ig_W p l e R s m args below meth c D cl A H0 nL cells slots Q (pc + 3) lv st ws) : ig_W p l e R s m args below meth c D cl A H0 nL cells slots Q pc lv (.int y :: .int x :: st) ws := fun H locs ls hl hP hD hS => lv_icmp_lt hx hb hd ht (fun h => kt h H locs ls hl hP hD hS) (fun h => kf h H locs ls hl hP hD hS)
theorem ig_if_lt (hx : p.tables.exec = Jvm.exec) (hb : c.code = cc) {x : Int32} {off : Int} {tgt : Nat} (hd : decode cc pc = .ok (.ifCond .lt off, 3)) (ht : (pc : Int) + off = (tgt : Int)) (kt : x < 0 → ig_W p l e R s m args below meth c D cl A H0 nL cells slots Q tgt lv st ws) (kf : ¬ x < 0 → ig_W p l e R s m args below meth c D cl A H0 nL cells slots Q (pc + 3) lv st ws) : ig_W p l e R s m args below meth c D cl A H0 nL cells slots Q pc lv (.int x :: st) ws := fun H locs ls hl hP hD hS => lv_if_lt hx hb hd ht (fun h => kt h H locs ls hl hP hD hS) (fun h => kf h H locs ls hl hP hD hS)
theorem ig_icmp_ltN (hx : p.tables.exec = Jvm.exec) (hb : c.code = cc) {x y : Int32} (a b : Nat) (ha : x = nI a) (hy : y = nI b) {off : Int} {tgt : Nat} (hd : decode cc pc = .ok (.if_icmp .lt off, 3)) (ht : (pc : Int) + off = (tgt : Int)) (h1 : a < 2147483648) (h2 : b < 2147483648) (kt : a < b → ig_W p l e R s m args below meth c D cl A H0 nL cells slots Q tgt lv st ws) (kf : ¬ a < b → ig_W p l e R s m args below meth c D cl A H0 nL cells slots Q (pc + 3) lv st ws) : ig_W p l e R s m args below meth c D cl A H0 nL cells slots Q pc lv (.int y :: .int x :: st) ws := by
  subst ha
  subst hy
  exact ig_icmp_lt hx hb hd ht (fun h => kt ((ig_lt h1 h2).mp h)) (fun h => kf (fun q => h ((ig_lt h1 h2).mpr q)))
theorem ig_icmp_ge (hx : p.tables.exec = Jvm.exec) (hb : c.code = cc) {x y : Int32} {off : Int} {tgt : Nat} (hd : decode cc pc = .ok (.if_icmp .ge off, 3)) (ht : (pc : Int) + off = (tgt : Int)) (kt : y ≤ x → ig_W p l e R s m args below meth c D cl A H0 nL cells slots Q tgt lv st ws) (kf : ¬ y ≤ x → ig_W p l e R s m args below meth c D cl A H0 nL cells slots Q (pc + 3) lv st ws) : ig_W p l e R s m args below meth c D cl A H0 nL cells slots Q pc lv (.int y :: .int x :: st) ws := fun H locs ls hl hP hD hS => lv_icmp_ge hx hb hd ht (fun h => kt h H locs ls hl hP hD hS) (fun h => kf h H locs ls hl hP hD hS)
theorem ig_if_ge (hx : p.tables.exec = Jvm.exec) (hb : c.code = cc) {x : Int32} {off : Int} {tgt : Nat} (hd : decode cc pc = .ok (.ifCond .ge off, 3)) (ht : (pc : Int) + off = (tgt : Int)) (kt : 0 ≤ x → ig_W p l e R s m args below meth c D cl A H0 nL cells slots Q tgt lv st ws) (kf : ¬ 0 ≤ x → ig_W p l e R s m args below meth c D cl A H0 nL cells slots Q (pc + 3) lv st ws) : ig_W p l e R s m args below meth c D cl A H0 nL cells slots Q pc lv (.int x :: st) ws := fun H locs ls hl hP hD hS => lv_if_ge hx hb hd ht (fun h => kt h H locs ls hl hP hD hS) (fun h => kf h H locs ls hl hP hD hS)
theorem ig_icmp_geN (hx : p.tables.exec = Jvm.exec) (hb : c.code = cc) {x y : Int32} (a b : Nat) (ha : x = nI a) (hy : y = nI b) {off : Int} {tgt : Nat} (hd : decode cc pc = .ok (.if_icmp .ge off, 3)) (ht : (pc : Int) + off = (tgt : Int)) (h1 : a < 2147483648) (h2 : b < 2147483648) (kt : b ≤ a → ig_W p l e R s m args below meth c D cl A H0 nL cells slots Q tgt lv st ws) (kf : ¬ b ≤ a → ig_W p l e R s m args below meth c D cl A H0 nL cells slots Q (pc + 3) lv st ws) : ig_W p l e R s m args below meth c D cl A H0 nL cells slots Q pc lv (.int y :: .int x :: st) ws := by
  subst ha
  subst hy
  exact ig_icmp_ge hx hb hd ht (fun h => kt ((ig_le h2 h1).mp h)) (fun h => kf (fun q => h ((ig_le h2 h1).mpr q)))
theorem ig_icmp_gt (hx : p.tables.exec = Jvm.exec) (hb : c.code = cc) {x y : Int32} {off : Int} {tgt : Nat} (hd : decode cc pc = .ok (.if_icmp .gt off, 3)) (ht : (pc : Int) + off = (tgt : Int)) (kt : y < x → ig_W p l e R s m args below meth c D cl A H0 nL cells slots Q tgt lv st ws) (kf : ¬ y < x → ig_W p l e R s m args below meth c D cl A H0 nL cells slots Q (pc + 3) lv st ws) : ig_W p l e R s m args below meth c D cl A H0 nL cells slots Q pc lv (.int y :: .int x :: st) ws := fun H locs ls hl hP hD hS => lv_icmp_gt hx hb hd ht (fun h => kt h H locs ls hl hP hD hS) (fun h => kf h H locs ls hl hP hD hS)
theorem ig_if_gt (hx : p.tables.exec = Jvm.exec) (hb : c.code = cc) {x : Int32} {off : Int} {tgt : Nat} (hd : decode cc pc = .ok (.ifCond .gt off, 3)) (ht : (pc : Int) + off = (tgt : Int)) (kt : 0 < x → ig_W p l e R s m args below meth c D cl A H0 nL cells slots Q tgt lv st ws) (kf : ¬ 0 < x → ig_W p l e R s m args below meth c D cl A H0 nL cells slots Q (pc + 3) lv st ws) : ig_W p l e R s m args below meth c D cl A H0 nL cells slots Q pc lv (.int x :: st) ws := fun H locs ls hl hP hD hS => lv_if_gt hx hb hd ht (fun h => kt h H locs ls hl hP hD hS) (fun h => kf h H locs ls hl hP hD hS)
theorem ig_icmp_gtN (hx : p.tables.exec = Jvm.exec) (hb : c.code = cc) {x y : Int32} (a b : Nat) (ha : x = nI a) (hy : y = nI b) {off : Int} {tgt : Nat} (hd : decode cc pc = .ok (.if_icmp .gt off, 3)) (ht : (pc : Int) + off = (tgt : Int)) (h1 : a < 2147483648) (h2 : b < 2147483648) (kt : b < a → ig_W p l e R s m args below meth c D cl A H0 nL cells slots Q tgt lv st ws) (kf : ¬ b < a → ig_W p l e R s m args below meth c D cl A H0 nL cells slots Q (pc + 3) lv st ws) : ig_W p l e R s m args below meth c D cl A H0 nL cells slots Q pc lv (.int y :: .int x :: st) ws := by
  subst ha
  subst hy
  exact ig_icmp_gt hx hb hd ht (fun h => kt ((ig_lt h2 h1).mp h)) (fun h => kf (fun q => h ((ig_lt h2 h1).mpr q)))
theorem ig_icmp_le (hx : p.tables.exec = Jvm.exec) (hb : c.code = cc) {x y : Int32} {off : Int} {tgt : Nat} (hd : decode cc pc = .ok (.if_icmp .le off, 3)) (ht : (pc : Int) + off = (tgt : Int)) (kt : x ≤ y → ig_W p l e R s m args below meth c D cl A H0 nL cells slots Q tgt lv st ws) (kf : ¬ x ≤ y → ig_W p l e R s m args below meth c D cl A H0 nL cells slots Q (pc + 3) lv st ws) : ig_W p l e R s m args below meth c D cl A H0 nL cells slots Q pc lv (.int y :: .int x :: st) ws := fun H locs ls hl hP hD hS => lv_icmp_le hx hb hd ht (fun h => kt h H locs ls hl hP hD hS) (fun h => kf h H locs ls hl hP hD hS)
theorem ig_if_le (hx : p.tables.exec = Jvm.exec) (hb : c.code = cc) {x : Int32} {off : Int} {tgt : Nat} (hd : decode cc pc = .ok (.ifCond .le off, 3)) (ht : (pc : Int) + off = (tgt : Int)) (kt : x ≤ 0 → ig_W p l e R s m args below meth c D cl A H0 nL cells slots Q tgt lv st ws) (kf : ¬ x ≤ 0 → ig_W p l e R s m args below meth c D cl A H0 nL cells slots Q (pc + 3) lv st ws) : ig_W p l e R s m args below meth c D cl A H0 nL cells slots Q pc lv (.int x :: st) ws := fun H locs ls hl hP hD hS => lv_if_le hx hb hd ht (fun h => kt h H locs ls hl hP hD hS) (fun h => kf h H locs ls hl hP hD hS)
theorem ig_icmp_leN (hx : p.tables.exec = Jvm.exec) (hb : c.code = cc) {x y : Int32} (a b : Nat) (ha : x = nI a) (hy : y = nI b) {off : Int} {tgt : Nat} (hd : decode cc pc = .ok (.if_icmp .le off, 3)) (ht : (pc : Int) + off = (tgt : Int)) (h1 : a < 2147483648) (h2 : b < 2147483648) (kt : a ≤ b → ig_W p l e R s m args below meth c D cl A H0 nL cells slots Q tgt lv st ws) (kf : ¬ a ≤ b → ig_W p l e R s m args below meth c D cl A H0 nL cells slots Q (pc + 3) lv st ws) : ig_W p l e R s m args below meth c D cl A H0 nL cells slots Q pc lv (.int y :: .int x :: st) ws := by
  subst ha
  subst hy
  exact ig_icmp_le hx hb hd ht (fun h => kt ((ig_le h1 h2).mp h)) (fun h => kf (fun q => h ((ig_le h1 h2).mpr q)))
theorem ig_if_eqN (hx : p.tables.exec = Jvm.exec) (hb : c.code = cc) {x : Int32} (a : Nat) (ha : x = nI a) {off : Int} {tgt : Nat} (hd : decode cc pc = .ok (.ifCond .eq off, 3)) (ht : (pc : Int) + off = (tgt : Int)) (h1 : a < 2147483648) (kt : a = 0 → ig_W p l e R s m args below meth c D cl A H0 nL cells slots Q tgt lv st ws) (kf : ¬ a = 0 → ig_W p l e R s m args below meth c D cl A H0 nL cells slots Q (pc + 3) lv st ws) : ig_W p l e R s m args below meth c D cl A H0 nL cells slots Q pc lv (.int x :: st) ws := by
  subst ha
  exact ig_if_eq hx hb hd ht (fun h => kt ((ig_eq (b := 0) h1 (by decide)).mp h)) (fun h => kf (fun q => h ((ig_eq (b := 0) h1 (by decide)).mpr q)))
theorem ig_if_neN (hx : p.tables.exec = Jvm.exec) (hb : c.code = cc) {x : Int32} (a : Nat) (ha : x = nI a) {off : Int} {tgt : Nat} (hd : decode cc pc = .ok (.ifCond .ne off, 3)) (ht : (pc : Int) + off = (tgt : Int)) (h1 : a < 2147483648) (kt : ¬ a = 0 → ig_W p l e R s m args below meth c D cl A H0 nL cells slots Q tgt lv st ws) (kf : a = 0 → ig_W p l e R s m args below meth c D cl A H0 nL cells slots Q (pc + 3) lv st ws) : ig_W p l e R s m args below meth c D cl A H0 nL cells slots Q pc lv (.int x :: st) ws := by
  subst ha
  exact ig_if_ne hx hb hd ht (fun h => kt (fun q => h ((ig_eq (b := 0) h1 (by decide)).mpr q))) (fun h => kf ((ig_eq (b := 0) h1 (by decide)).mp h))
theorem ig_if_gtN (hx : p.tables.exec = Jvm.exec) (hb : c.code = cc) {x : Int32} (a : Nat) (ha : x = nI a) {off : Int} {tgt : Nat} (hd : decode cc pc = .ok (.ifCond .gt off, 3)) (ht : (pc : Int) + off = (tgt : Int)) (h1 : a < 2147483648) (kt : 0 < a → ig_W p l e R s m args below meth c D cl A H0 nL cells slots Q tgt lv st ws) (kf : ¬ 0 < a → ig_W p l e R s m args below meth c D cl A H0 nL cells slots Q (pc + 3) lv st ws) : ig_W p l e R s m args below meth c D cl A H0 nL cells slots Q pc lv (.int x :: st) ws := by
  subst ha
  exact ig_if_gt hx hb hd ht (fun h => kt ((ig_lt (a := 0) (by decide) h1).mp h)) (fun h => kf (fun q => h ((ig_lt (a := 0) (by decide) h1).mpr q)))
theorem ig_if_leN (hx : p.tables.exec = Jvm.exec) (hb : c.code = cc) {x : Int32} (a : Nat) (ha : x = nI a) {off : Int} {tgt : Nat} (hd : decode cc pc = .ok (.ifCond .le off, 3)) (ht : (pc : Int) + off = (tgt : Int)) (h1 : a < 2147483648) (kt : a ≤ 0 → ig_W p l e R s m args below meth c D cl A H0 nL cells slots Q tgt lv st ws) (kf : ¬ a ≤ 0 → ig_W p l e R s m args below meth c D cl A H0 nL cells slots Q (pc + 3) lv st ws) : ig_W p l e R s m args below meth c D cl A H0 nL cells slots Q pc lv (.int x :: st) ws := by
  subst ha
  exact ig_if_le hx hb hd ht (fun h => kt ((ig_le (b := 0) h1 (by decide)).mp h)) (fun h => kf (fun q => h ((ig_le (b := 0) h1 (by decide)).mpr q)))
theorem ig_if_eqB (hx : p.tables.exec = Jvm.exec) (hb : c.code = cc) {x : Int32} (b : Bool) (ha : x = bI b) {off : Int} {tgt : Nat} (hd : decode cc pc = .ok (.ifCond .eq off, 3)) (ht : (pc : Int) + off = (tgt : Int)) (kt : b = false → ig_W p l e R s m args below meth c D cl A H0 nL cells slots Q tgt lv st ws) (kf : b = true → ig_W p l e R s m args below meth c D cl A H0 nL cells slots Q (pc + 3) lv st ws) : ig_W p l e R s m args below meth c D cl A H0 nL cells slots Q pc lv (.int x :: st) ws := by
  subst ha
  exact ig_if_eq hx hb hd ht (fun h => kt (bI_0.mp h)) (fun h => kf (bI_1.mp h))
theorem ig_if_neB (hx : p.tables.exec = Jvm.exec) (hb : c.code = cc) {x : Int32} (b : Bool) (ha : x = bI b) {off : Int} {tgt : Nat} (hd : decode cc pc = .ok (.ifCond .ne off, 3)) (ht : (pc : Int) + off = (tgt : Int)) (kt : b = true → ig_W p l e R s m args below meth c D cl A H0 nL cells slots Q tgt lv st ws) (kf : b = false → ig_W p l e R s m args below meth c D cl A H0 nL cells slots Q (pc + 3) lv st ws) : ig_W p l e R s m args below meth c D cl A H0 nL cells slots Q pc lv (.int x :: st) ws := by
  subst ha
  exact ig_if_ne hx hb hd ht (fun h => kt (bI_1.mp h)) (fun h => kf (bI_0.mp h))
theorem ig_icmp_eqB (hx : p.tables.exec = Jvm.exec) (hb : c.code = cc) {x y : Int32} (a b : Bool) (ha : x = bI a) (hy : y = bI b) {off : Int} {tgt : Nat} (hd : decode cc pc = .ok (.if_icmp .eq off, 3)) (ht : (pc : Int) + off = (tgt : Int)) (kt : a = b → ig_W p l e R s m args below meth c D cl A H0 nL cells slots Q tgt lv st ws) (kf : ¬ a = b → ig_W p l e R s m args below meth c D cl A H0 nL cells slots Q (pc + 3) lv st ws) : ig_W p l e R s m args below meth c D cl A H0 nL cells slots Q pc lv (.int y :: .int x :: st) ws := by
  subst ha
  subst hy
  exact ig_icmp_eq hx hb hd ht (fun h => kt (bI_inj h)) (fun h => kf (fun q => h (congrArg bI q)))
theorem ig_icmp_neB (hx : p.tables.exec = Jvm.exec) (hb : c.code = cc) {x y : Int32} (a b : Bool) (ha : x = bI a) (hy : y = bI b) {off : Int} {tgt : Nat} (hd : decode cc pc = .ok (.if_icmp .ne off, 3)) (ht : (pc : Int) + off = (tgt : Int)) (kt : ¬ a = b → ig_W p l e R s m args below meth c D cl A H0 nL cells slots Q tgt lv st ws) (kf : a = b → ig_W p l e R s m args below meth c D cl A H0 nL cells slots Q (pc + 3) lv st ws) : ig_W p l e R s m args below meth c D cl A H0 nL cells slots Q pc lv (.int y :: .int x :: st) ws := by
  subst ha
  subst hy
  exact ig_icmp_ne hx hb hd ht (fun h => kt (fun q => h (congrArg bI q))) (fun h => kf (bI_inj h))
theorem ig_if_ltP (hx : p.tables.exec = Jvm.exec) (hb : c.code = cc) {x : Int32} (a : Nat) (ha : x = nI a - 1) {off : Int} {tgt : Nat} (hd : decode cc pc = .ok (.ifCond .lt off, 3)) (ht : (pc : Int) + off = (tgt : Int)) (h1 : a < 2147483648) (kt : a = 0 → ig_W p l e R s m args below meth c D cl A H0 nL cells slots Q tgt lv st ws) (kf : ∀ j, a = j + 1 → ig_W p l e R s m args below meth c D cl A H0 nL cells slots Q (pc + 3) lv st ws) : ig_W p l e R s m args below meth c D cl A H0 nL cells slots Q pc lv (.int x :: st) ws := by
  subst ha
  exact ig_if_lt hx hb hd ht (fun h => kt ((ig_P0 h1).mp h)) (fun h => by
    cases a with
    | zero => exact absurd ((ig_P0 h1).mpr rfl) h
    | succ j => exact kf j rfl)
theorem ig_if_geP (hx : p.tables.exec = Jvm.exec) (hb : c.code = cc) {x : Int32} (a : Nat) (ha : x = nI a - 1) {off : Int} {tgt : Nat} (hd : decode cc pc = .ok (.ifCond .ge off, 3)) (ht : (pc : Int) + off = (tgt : Int)) (h1 : a < 2147483648) (kt : ∀ j, a = j + 1 → ig_W p l e R s m args below meth c D cl A H0 nL cells slots Q tgt lv st ws) (kf : a = 0 → ig_W p l e R s m args below meth c D cl A H0 nL cells slots Q (pc + 3) lv st ws) : ig_W p l e R s m args below meth c D cl A H0 nL cells slots Q pc lv (.int x :: st) ws := by
  subst ha
  exact ig_if_ge hx hb hd ht (fun h => by
    cases a with
    | zero => exact absurd h (by decide)
    | succ j => exact kt j rfl) (fun h => kf (Nat.eq_zero_of_not_pos fun q => h (ig_Pge q h1)))
theorem ig_iald (hx : p.tables.exec = Jvm.exec) (hb : c.code = cc) (hK : va_K D cl tys s) (q0 t0 : Nat) {a : Nat} {cA : ClassId} {n : Nat} {f : Nat → Int32} (ha : ws[q0]? = some (a, .inl (cA, n, .inl f))) (ht : tys[t0]? = some (cA, .int)) {i x : Int32} (j : Nat) (hj : i = nI j) (hin : j < n) (hn : n < 2147483648) (hv : f j = x) (hd : decode cc pc = .ok (.iaload, 1)) (k : ig_W p l e R s m args below meth c D cl A H0 nL cells slots Q (pc + 1) lv (.int x :: st) ws) : ig_W p l e R s m args below meth c D cl A H0 nL cells slots Q pc lv (.int i :: .ref a :: st) ws := by
  subst hj
  subst hv
  intro H locs ls hl hP hD hS
  have k := k H locs ls hl hP hD hS
  refine va_iald hx hb hK hP q0 t0 ha ht (ig_in hin hn) hd ?_
  rw [ig_cl (Nat.lt_trans hin hn)]
  exact k
theorem ig_iast (hx : p.tables.exec = Jvm.exec) (hb : c.code = cc) (hK : va_K D cl tys s) (q0 t0 : Nat) {a : Nat} {cA : ClassId} {n : Nat} {f f' : Nat → Int32} (ha : ws[q0]? = some (a, .inl (cA, n, .inl f))) (ht : tys[t0]? = some (cA, .int)) {i x : Int32} (j : Nat) (hj : i = nI j) (hin : j < n) (hn : n < 2147483648) (hv : upd f j x = f') (hd : decode cc pc = .ok (.iastore, 1)) {ws' : va_W} (hw : (ws.set q0 (a, .inl (cA, n, .inl f'))) = ws') (k : ig_W p l e R s m args below meth c D cl A H0 nL cells slots Q (pc + 1) lv st ws') : ig_W p l e R s m args below meth c D cl A H0 nL cells slots Q pc lv (.int x :: .int i :: .ref a :: st) ws := by
  subst hj
  subst hv
  subst hw
  intro H locs ls hl hP hD hS
  refine va_iast hx hb hK hP hD hS q0 t0 ha ht (ig_in hin hn) hd (fun H1 locs1 h1 h2 h3 => ?_)
  rw [ig_cl (Nat.lt_trans hin hn)] at h1 h2
  exact k H1 locs1 ls hl h1 h2 h3
theorem ig_cald (hx : p.tables.exec = Jvm.exec) (hb : c.code = cc) (hK : va_K D cl tys s) (q0 t0 : Nat) {a : Nat} {cA : ClassId} {n : Nat} {f : Nat → Int32} (ha : ws[q0]? = some (a, .inl (cA, n, .inl f))) (ht : tys[t0]? = some (cA, .char)) {i x : Int32} (j : Nat) (hj : i = nI j) (hin : j < n) (hn : n < 2147483648) (hv : f j = x) (hd : decode cc pc = .ok (.caload, 1)) (k : ig_W p l e R s m args below meth c D cl A H0 nL cells slots Q (pc + 1) lv (.int x :: st) ws) : ig_W p l e R s m args below meth c D cl A H0 nL cells slots Q pc lv (.int i :: .ref a :: st) ws := by
  subst hj
  subst hv
  intro H locs ls hl hP hD hS
  have k := k H locs ls hl hP hD hS
  refine va_cald hx hb hK hP q0 t0 ha ht (ig_in hin hn) hd ?_
  rw [ig_cl (Nat.lt_trans hin hn)]
  exact k
theorem ig_cast (hx : p.tables.exec = Jvm.exec) (hb : c.code = cc) (hK : va_K D cl tys s) (q0 t0 : Nat) {a : Nat} {cA : ClassId} {n : Nat} {f f' : Nat → Int32} (ha : ws[q0]? = some (a, .inl (cA, n, .inl f))) (ht : tys[t0]? = some (cA, .char)) {i x : Int32} (j : Nat) (hj : i = nI j) (hin : j < n) (hn : n < 2147483648) (hnar : vp_nar .char x = x) (hv : upd f j x = f') (hd : decode cc pc = .ok (.castore, 1)) {ws' : va_W} (hw : (ws.set q0 (a, .inl (cA, n, .inl f'))) = ws') (k : ig_W p l e R s m args below meth c D cl A H0 nL cells slots Q (pc + 1) lv st ws') : ig_W p l e R s m args below meth c D cl A H0 nL cells slots Q pc lv (.int x :: .int i :: .ref a :: st) ws := by
  subst hj
  subst hv
  subst hw
  intro H locs ls hl hP hD hS
  refine va_cast hx hb hK hP hD hS q0 t0 ha ht (ig_in hin hn) hd (fun H1 locs1 h1 h2 h3 => ?_)
  rw [ig_cl (Nat.lt_trans hin hn), hnar] at h1 h2
  exact k H1 locs1 ls hl h1 h2 h3
theorem ig_zald (hx : p.tables.exec = Jvm.exec) (hb : c.code = cc) (hK : va_K D cl tys s) (q0 t0 : Nat) {a : Nat} {cA : ClassId} {n : Nat} {f : Nat → Int32} (ha : ws[q0]? = some (a, .inl (cA, n, .inl f))) (ht : tys[t0]? = some (cA, .boolean)) {i x : Int32} (j : Nat) (hj : i = nI j) (hin : j < n) (hn : n < 2147483648) (hv : f j = x) (hd : decode cc pc = .ok (.baload, 1)) (k : ig_W p l e R s m args below meth c D cl A H0 nL cells slots Q (pc + 1) lv (.int x :: st) ws) : ig_W p l e R s m args below meth c D cl A H0 nL cells slots Q pc lv (.int i :: .ref a :: st) ws := by
  subst hj
  subst hv
  intro H locs ls hl hP hD hS
  have k := k H locs ls hl hP hD hS
  refine va_zald hx hb hK hP q0 t0 ha ht (ig_in hin hn) hd ?_
  rw [ig_cl (Nat.lt_trans hin hn)]
  exact k
theorem ig_zast (hx : p.tables.exec = Jvm.exec) (hb : c.code = cc) (hK : va_K D cl tys s) (q0 t0 : Nat) {a : Nat} {cA : ClassId} {n : Nat} {f f' : Nat → Int32} (ha : ws[q0]? = some (a, .inl (cA, n, .inl f))) (ht : tys[t0]? = some (cA, .boolean)) {i x : Int32} (j : Nat) (hj : i = nI j) (hin : j < n) (hn : n < 2147483648) (hnar : vp_nar .boolean x = x) (hv : upd f j x = f') (hd : decode cc pc = .ok (.bastore, 1)) {ws' : va_W} (hw : (ws.set q0 (a, .inl (cA, n, .inl f'))) = ws') (k : ig_W p l e R s m args below meth c D cl A H0 nL cells slots Q (pc + 1) lv st ws') : ig_W p l e R s m args below meth c D cl A H0 nL cells slots Q pc lv (.int x :: .int i :: .ref a :: st) ws := by
  subst hj
  subst hv
  subst hw
  intro H locs ls hl hP hD hS
  refine va_zast hx hb hK hP hD hS q0 t0 ha ht (ig_in hin hn) hd (fun H1 locs1 h1 h2 h3 => ?_)
  rw [ig_cl (Nat.lt_trans hin hn), hnar] at h1 h2
  exact k H1 locs1 ls hl h1 h2 h3
theorem ig_last (hx : p.tables.exec = Jvm.exec) (hb : c.code = cc) (hK : va_K D cl tys s) (q0 t0 : Nat) {a : Nat} {cA : ClassId} {n : Nat} {f : Nat → Int64} (ha : ws[q0]? = some (a, .inl (cA, n, .inr (.inl f)))) (ht : tys[t0]? = some (cA, .long)) {i : Int32} {x : Int64} (j : Nat) (hj : i = nI j) (hin : j < n) (hn : n < 2147483648) (hd : decode cc pc = .ok (.lastore, 1)) {ws' : va_W} (hw : ws.set q0 (a, .inl (cA, n, .inr (.inl (vp_updL f j x)))) = ws') (k : ig_W p l e R s m args below meth c D cl A H0 nL cells slots Q (pc + 1) lv st ws') : ig_W p l e R s m args below meth c D cl A H0 nL cells slots Q pc lv (.long x :: .int i :: .ref a :: st) ws := by
  subst hj
  subst hw
  intro H locs ls hl hP hD hS
  refine va_last hx hb hK hP hD hS q0 t0 ha ht (ig_in hin hn) hd (fun H1 locs1 h1 h2 h3 => ?_)
  rw [ig_cl (Nat.lt_trans hin hn)] at h1 h2
  exact k H1 locs1 ls hl h1 h2 h3
theorem ig_lald (hx : p.tables.exec = Jvm.exec) (hb : c.code = cc) (hK : va_K D cl tys s) (q0 t0 : Nat) {a : Nat} {cA : ClassId} {n : Nat} {f : Nat → Int64} (ha : ws[q0]? = some (a, .inl (cA, n, .inr (.inl f)))) (ht : tys[t0]? = some (cA, .long)) {i : Int32} {x : Int64} (j : Nat) (hj : i = nI j) (hin : j < n) (hn : n < 2147483648) (hv : f j = x) (hd : decode cc pc = .ok (.laload, 1)) (k : ig_W p l e R s m args below meth c D cl A H0 nL cells slots Q (pc + 1) lv (.long x :: st) ws) : ig_W p l e R s m args below meth c D cl A H0 nL cells slots Q pc lv (.int i :: .ref a :: st) ws := by
  subst hj
  subst hv
  intro H locs ls hl hP hD hS
  have k := k H locs ls hl hP hD hS
  refine va_lald hx hb hK hP q0 t0 ha ht (ig_in hin hn) hd ?_
  rw [ig_cl (Nat.lt_trans hin hn)]
  exact k
theorem ig_get (hx : p.tables.exec = Jvm.exec) (hb : c.code = cc) {own ref C : String} {T : u_T} {N ci index : Nat} {Ts : List Cond} (hts : ∀ w ∈ Ts, w.before args s = true) (hin : ∀ w ∈ u_ws C T N, w ∈ Ts) (hown : s.vm.findClass own = some m.cls) (hK : va_K D cl tys s) (q0 : Nat) {a : Nat} {fs : List Value} (he : ws[q0]? = some (a, .inr (ci, fs))) (hc : cl[ci]? = some (C, T, N)) (k : Nat) (hk : k < N) (hlink : (Cond.fieldLink own index ref (T k).2.1 (T k).2.2.1).before args s = true) (hsame : ∀ x, s.fieldFound? (T k).1 (T k).2.1 (T k).2.2.1 = some x → s.fieldFound? ref (T k).2.1 (T k).2.2.1 = some x) {v : Value} (hv : fs[k]? = some v) (hd : decode cc pc = .ok (.getfield index, 3)) (kk : ig_W p l e R s m args below meth c D cl A H0 nL cells slots Q (pc + 3) lv (v :: st) ws) : ig_W p l e R s m args below meth c D cl A H0 nL cells slots Q pc lv (.ref a :: st) ws := fun H locs ls hl hP hD hS => va_get hx hb hts hin hown hK hP q0 he hc k hk hlink hsame hv hd (kk H locs ls hl hP hD hS)
theorem ig_put (hx : p.tables.exec = Jvm.exec) (hb : c.code = cc) {own ref C : String} {T : u_T} {N ci index : Nat} {Ts : List Cond} (hts : ∀ w ∈ Ts, w.before args s = true) (hin : ∀ w ∈ u_ws C T N, w ∈ Ts) (ty0 : Nat → FieldType) (hty : ∀ k, k < N → parseFieldDescriptor (T k).2.2.1 = some (ty0 k)) (hnm : ∀ a, a < N → ∀ b, b < N → a ≠ b → (T a).2.1 ≠ (T b).2.1) (hown : s.vm.findClass own = some m.cls) (hK : va_K D cl tys s) (q0 : Nat) {a : Nat} {fs : List Value} (he : ws[q0]? = some (a, .inr (ci, fs))) (hc : cl[ci]? = some (C, T, N)) (k : Nat) (hk : k < N) (hlink : (Cond.fieldLink own index ref (T k).2.1 (T k).2.2.1).before args s = true) (hsame : ∀ x, s.fieldFound? (T k).1 (T k).2.1 (T k).2.2.1 = some x → s.fieldFound? ref (T k).2.1 (T k).2.2.1 = some x) (hfin : (T k).2.2.2 = false) {ty : FieldType} {v : Value} (hdt : parseFieldDescriptor (T k).2.2.1 = some ty) (hn : narrow ty v = v) (hfit : fits ty v = true) (hlen : k < fs.length) (hd : decode cc pc = .ok (.putfield index, 3)) {ws' : va_W} (hw : ws.set q0 (a, .inr (ci, fs.set k v)) = ws') (kk : ig_W p l e R s m args below meth c D cl A H0 nL cells slots Q (pc + 3) lv st ws') : ig_W p l e R s m args below meth c D cl A H0 nL cells slots Q pc lv (v :: .ref a :: st) ws := by
  subst hw
  exact fun H locs ls hl hP hD hS => va_put hx hb hts hin ty0 hty hnm hown hK hP hD hS q0 he hc k hk hlink hsame hfin hdt hn hfit hlen hd (fun H1 locs1 h1 h2 h3 => kk H1 locs1 ls hl h1 h2 h3)
theorem ig_getN (hx : p.tables.exec = Jvm.exec) (hb : c.code = cc) {own ref C : String} {T : u_T} {N ci index : Nat} {Ts : List Cond} (hts : ∀ w ∈ Ts, w.before args s = true) (hin : ∀ w ∈ u_ws C T N, w ∈ Ts) {host : String} (hown : s.vm.findClass own = some m.cls) (hK : va_K D cl tys s) (q0 : Nat) {a : Nat} {fs : List Value} (he : ws[q0]? = some (a, .inr (ci, fs))) (hc : cl[ci]? = some (C, T, N)) (k : Nat) (hk : k < N) (hlink : (Cond.fieldLinkNest own index ref (T k).2.1 (T k).2.2.1 host).before args s = true) (hsame : ∀ x, s.fieldFound? (T k).1 (T k).2.1 (T k).2.2.1 = some x → s.fieldFound? ref (T k).2.1 (T k).2.2.1 = some x) {v : Value} (hv : fs[k]? = some v) (hd : decode cc pc = .ok (.getfield index, 3)) (kk : ig_W p l e R s m args below meth c D cl A H0 nL cells slots Q (pc + 3) lv (v :: st) ws) : ig_W p l e R s m args below meth c D cl A H0 nL cells slots Q pc lv (.ref a :: st) ws := fun H locs ls hl hP hD hS => va_getN hx hb hts hin hown hK hP q0 he hc k hk hlink hsame hv hd (kk H locs ls hl hP hD hS)
theorem ig_putN (hx : p.tables.exec = Jvm.exec) (hb : c.code = cc) {own ref C : String} {T : u_T} {N ci index : Nat} {Ts : List Cond} (hts : ∀ w ∈ Ts, w.before args s = true) (hin : ∀ w ∈ u_ws C T N, w ∈ Ts) {host : String} (ty0 : Nat → FieldType) (hty : ∀ k, k < N → parseFieldDescriptor (T k).2.2.1 = some (ty0 k)) (hnm : ∀ a, a < N → ∀ b, b < N → a ≠ b → (T a).2.1 ≠ (T b).2.1) (hown : s.vm.findClass own = some m.cls) (hK : va_K D cl tys s) (q0 : Nat) {a : Nat} {fs : List Value} (he : ws[q0]? = some (a, .inr (ci, fs))) (hc : cl[ci]? = some (C, T, N)) (k : Nat) (hk : k < N) (hlink : (Cond.fieldLinkNest own index ref (T k).2.1 (T k).2.2.1 host).before args s = true) (hsame : ∀ x, s.fieldFound? (T k).1 (T k).2.1 (T k).2.2.1 = some x → s.fieldFound? ref (T k).2.1 (T k).2.2.1 = some x) (hfin : (T k).2.2.2 = false) {ty : FieldType} {v : Value} (hdt : parseFieldDescriptor (T k).2.2.1 = some ty) (hn : narrow ty v = v) (hfit : fits ty v = true) (hlen : k < fs.length) (hd : decode cc pc = .ok (.putfield index, 3)) {ws' : va_W} (hw : ws.set q0 (a, .inr (ci, fs.set k v)) = ws') (kk : ig_W p l e R s m args below meth c D cl A H0 nL cells slots Q (pc + 3) lv st ws') : ig_W p l e R s m args below meth c D cl A H0 nL cells slots Q pc lv (v :: .ref a :: st) ws := by
  subst hw
  exact fun H locs ls hl hP hD hS => va_putN hx hb hts hin ty0 hty hnm hown hK hP hD hS q0 he hc k hk hlink hsame hfin hdt hn hfit hlen hd (fun H1 locs1 h1 h2 h3 => kk H1 locs1 ls hl h1 h2 h3)
end IG
