theorem lw_upd (f : Nat → Int64) (v : Int64) : vp_updL f 0 v 0 = v := by simp [vp_updL]
theorem lw_nn {nC : Nat} {x : Int32} {P : Nat → Prop} (h60 : nC ≤ 60) (h : ¬ (∀ i, i < nC → x = nI i → P i)) : ∀ i, i < nC → x = nI i → ¬ P i := by
  intro i hi hx hp
  apply h
  intro j hj hx2
  have e : nI i = nI j := hx.symm.trans hx2
  rw [ig_eq (by omega) (by omega)] at e
  subst e
  exact hp
theorem ig_wsS {own : String} {idx : Nat} {y : MethodName} {ws : List Cond} (h1 : Cond.methodLink own idx y ∈ ig_T) (h2 : Cond.static y ∈ ig_T) (h3 : Cond.initialized y.cls ∈ ig_T) (h4 : ∀ w ∈ ws, w ∈ ig_T) : GoodIn ig_T (va_wsS own idx y ws) := ig_mem_good (fun w hw => by
  unfold va_wsS at hw
  rcases List.mem_append.mp hw with h | h
  · rcases List.mem_cons.mp h with rfl | h
    · exact h1
    · rcases List.mem_cons.mp h with rfl | h
      · exact h2
      · rw [List.mem_singleton.mp h]; exact h3
  · exact h4 w h)
