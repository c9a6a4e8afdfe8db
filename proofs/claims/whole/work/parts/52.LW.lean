/-! between two calls of the law -/
def lw_I (tl : Nat) (cA : Nat → Int32) (tT : Nat → Int32) (aS aE aB aL : Nat → Nat) (nC pC : Nat) (pB : Nat → Int32) (pS : Nat → Nat) (si : Nat) (rA : Nat → Int32) (tX : Nat → Int32) (xF xT xB xL : Nat → Nat) (ru na : Nat) (tP : Nat → Int32) (yF yT : Nat → Nat) (bz : Nat) : Prop := sp_Ta tl cA si rA ∧ sp_Ru bz tT aS aE aB aL nC tX xF xT xB xL ru ∧ pC = na ∧ sp_PP pS pB tP yF yT na
theorem lw_cmp (a : Int64) : lg_cmp a a = 0 := by
  unfold lg_cmp
  rw [if_neg (fun h => Int64.lt_irrefl h), if_pos rfl]
theorem lw_end {th r : Nat} {a b : Int64} {I : Prop} (h1 : th = r) (h2 : r < 3) (h3 : r = 0 → a = b) (hI : I) : (th < 2147483648) ∧ ((r < 2147483648) ∧ ((th = r → (r < 2147483648) ∧ ((¬ r = 0 → I) ∧ (r = 0 → (0 < 1) ∧ ((lg_cmp a b = 0 → I) ∧ (¬ lg_cmp a b = 0 → False))))) ∧ (¬ th = r → False))) := by
  refine ⟨by omega, by omega, fun _ => ⟨by omega, fun _ => hI, fun q => ⟨by omega, fun _ => hI, fun z => z ?_⟩⟩, fun z => z h1⟩
  rw [h3 q, lw_cmp]
/-! rows for the law's loop -/
section IGT
variable {p : Program} {l : Launch} {e : Env} {R : Room} {s : State} {m : MethodId} {args : Array Value} {below : List Frame} {meth : Method} {c : Code} {D : va_G} {cl : List vw_C} {A : Nat → Prop} {H0 : Heap} {nL cells slots : Nat} {Q : State → Prop}
variable {cc : ByteArray} {pc : Nat} {lv : List (Nat × Value)} {st : List Value} {ws : va_W}
theorem ig_tswI (hx : p.tables.exec = Jvm.exec) (hb : c.code = cc) {dflt lo hi : Int} {offs : Array Int} {len : Nat} {x : Int32} {off : Int} {tgt : Nat} (hd : decode cc pc = .ok (.tableswitch dflt lo hi offs, len)) (h1 : ¬ x.toInt < lo) (h2 : ¬ hi < x.toInt) (ho : offs[(x.toInt - lo).toNat]? = some off) (ht : (pc : Int) + off = (tgt : Int)) (k : ig_W p l e R s m args below meth c D cl A H0 nL cells slots Q tgt lv st ws) : ig_W p l e R s m args below meth c D cl A H0 nL cells slots Q pc lv (.int x :: st) ws := fun H locs ls hl hP hD hS => lv_tableIn hx hb hd h1 h2 ho ht (k H locs ls hl hP hD hS)
theorem ig_tswO (hx : p.tables.exec = Jvm.exec) (hb : c.code = cc) {dflt lo hi : Int} {offs : Array Int} {len : Nat} {x : Int32} {tgt : Nat} (hd : decode cc pc = .ok (.tableswitch dflt lo hi offs, len)) (h : x.toInt < lo ∨ hi < x.toInt) (ht : (pc : Int) + dflt = (tgt : Int)) (k : ig_W p l e R s m args below meth c D cl A H0 nL cells slots Q tgt lv st ws) : ig_W p l e R s m args below meth c D cl A H0 nL cells slots Q pc lv (.int x :: st) ws := fun H locs ls hl hP hD hS => lv_tableOut hx hb hd h ht (k H locs ls hl hP hD hS)
end IGT
theorem lw_15 (x : Int32) : ∃ k, k < 16 ∧ x &&& 15 = nI k := by
  refine ⟨(x.toBitVec &&& 15#32).toNat, ?_, ?_⟩
  · rw [BitVec.toNat_and]
    exact Nat.lt_of_le_of_lt Nat.and_le_right (by decide)
  · apply Int32.toBitVec_inj.mp
    show x.toBitVec &&& 15#32 = BitVec.ofNat 32 _
    rw [BitVec.ofNat_toNat, BitVec.setWidth_eq]
theorem lw_gt {L i : Nat} (hL : L ≤ 2048) (hi : i ≤ 4096) (h : ¬ nI L - 4 < nI i) : i + 4 ≤ L := by
  apply Classical.byContradiction
  intro q
  apply h
  by_cases h4 : 4 ≤ L
  · have e : nI L - 4 = nI (L - 4) := pk_sub h4
    rw [e]
    exact (ig_lt (by omega) (by omega)).mpr (by omega)
  · have h0 : (0 : Int32) ≤ nI i := nI_pos' (by omega)
    have : L = 0 ∨ L = 1 ∨ L = 2 ∨ L = 3 := by omega
    rcases this with z | z | z | z <;> subst z
    · exact Int32.lt_of_lt_of_le (by decide) h0
    · exact Int32.lt_of_lt_of_le (by decide) h0
    · exact Int32.lt_of_lt_of_le (by decide) h0
    · exact Int32.lt_of_lt_of_le (by decide) h0
