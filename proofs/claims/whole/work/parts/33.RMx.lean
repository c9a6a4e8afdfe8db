def sp_rok2 (t : Nat → Int32) (xF xT xB : Nat → Nat) (c : Nat) : Prop := c ≤ 60 ∧ ∀ i, i < c → xF i ≤ xT i ∧ xT i ≤ 1000 ∧ 1 + sp_cnt t (xT i) (xF i) ≤ 1000 ∧ xB i < 16
def sp_lrg (t : Nat → Int32) (xF xT xB : Nat → Nat) (tP : Nat → Int32) (yF yT : Nat → Nat) (c n : Nat) (d : Bool) : Int32 := sp_lastf (fun k => sp_rg t tP yF yT (xF k) (xT k) (xB k) n d) c
