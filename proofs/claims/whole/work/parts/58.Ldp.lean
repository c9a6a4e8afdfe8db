def v_LC3 (tl : Nat) (cA : Nat → Int32) (nC : Nat) (tT : Nat → Int32) (aS : Nat → Nat) (aE : Nat → Nat) (aB : Nat → Nat) (aL : Nat → Nat) (uN : Nat) (uT : Nat → Int32) (uS : Nat → Nat) (uE : Nat → Nat) (uB : Nat → Nat) (uL : Nat → Nat) (pC : Nat) (pB : Nat → Int32) (pS : Nat → Nat) (mN : Nat → Bool) (mB : Nat → Bool) (th : Nat) (si : Nat) (ru : Nat) (na : Nat) (nx : Nat) (so : Nat) (pa : Nat) (bz : Nat) (de : Int32) (dp : Nat) (io : Bool) (rA : Nat → Int32) (tX : Nat → Int32) (xF : Nat → Nat) (xT : Nat → Nat) (xB : Nat → Nat) (xL : Nat → Nat) (tP : Nat → Int32) (yF : Nat → Nat) (yT : Nat → Nat) (zR : Nat → Bool) (zF : Nat → Bool) (wF : Nat → Nat) (wT : Nat → Nat) (zT : Nat → Bool) (tB : Nat → Int32) (oL : Nat → Int64) (i : Nat) (L : Nat) (xs : Nat → Int32) : Prop := (i + 1 < L) ∧ ((i + 2 < L) ∧ ((r_LW_rule tT aS aE aB aL nC oL (xs (i + 1)) (xs (i + 2))) ∧ ((∀ (r2 : Nat) (oL1 : Nat → Int64), q_LW_rule tT aS aE aB aL nC oL (xs (i + 1)) (xs (i + 2)) r2 oL1 → (i + 1 < L) ∧ ((i + 2 < L) ∧ ((r_RM_rule th ru pa tX xF xT xB xL wF wT (xs (i + 1)) (xs (i + 2))) ∧ ((∀ (r7 : Nat) (th3 : Nat) (pa4 : Nat) (wF5 : Nat → Nat) (wT6 : Nat → Nat), q_RM_rule th ru pa tX xF xT xB xL wF wT (xs (i + 1)) (xs (i + 2)) r7 th3 pa4 wF5 wT6 → (th3 < 2147483648) ∧ ((r2 < 2147483648) ∧ ((th3 = r2 → (r2 < 2147483648) ∧ ((¬ r2 = 0 → lw_I tl cA tT aS aE aB aL nC pC pB pS si rA tX xF xT xB xL ru na tP yF yT bz) ∧ (r2 = 0 → (0 < 1) ∧ (((lg_cmp (oL1 0) ((nI r7).toInt64)) = 0 → lw_I tl cA tT aS aE aB aL nC pC pB pS si rA tX xF xT xB xL ru na tP yF yT bz) ∧ (¬ (lg_cmp (oL1 0) ((nI r7).toInt64)) = 0 → False))))) ∧ (¬ th3 = r2 → False)))))))))))
theorem t_LC3 (tl : Nat) (cA : Nat → Int32) (nC : Nat) (tT : Nat → Int32) (aS : Nat → Nat) (aE : Nat → Nat) (aB : Nat → Nat) (aL : Nat → Nat) (uN : Nat) (uT : Nat → Int32) (uS : Nat → Nat) (uE : Nat → Nat) (uB : Nat → Nat) (uL : Nat → Nat) (pC : Nat) (pB : Nat → Int32) (pS : Nat → Nat) (mN : Nat → Bool) (mB : Nat → Bool) (th : Nat) (si : Nat) (ru : Nat) (na : Nat) (nx : Nat) (so : Nat) (pa : Nat) (bz : Nat) (de : Int32) (dp : Nat) (io : Bool) (rA : Nat → Int32) (tX : Nat → Int32) (xF : Nat → Nat) (xT : Nat → Nat) (xB : Nat → Nat) (xL : Nat → Nat) (tP : Nat → Int32) (yF : Nat → Nat) (yT : Nat → Nat) (zR : Nat → Bool) (zF : Nat → Bool) (wF : Nat → Nat) (wT : Nat → Nat) (zT : Nat → Bool) (tB : Nat → Int32) (oL : Nat → Int64) (i : Nat) (L : Nat) (xs : Nat → Int32) (hL : L ≤ 2048) (hi : i + 4 ≤ L) (hI : lw_I tl cA tT aS aE aB aL nC pC pB pS si rA tX xF xT xB xL ru na tP yF yT bz) : v_LC3 tl cA nC tT aS aE aB aL uN uT uS uE uB uL pC pB pS mN mB th si ru na nx so pa bz de dp io rA tX xF xT xB xL tP yF yT zR zF wF wT zT tB oL i L xs := by
  have hI9 := hI
  obtain ⟨hT, hR, hC, hP⟩ := hI
  refine ⟨by omega, by omega, sp_Ru_rok hR, fun r2 oL1 hq => ⟨by omega, by omega, ⟨sp_Ru_rok2 hR, sp_Ru_ln hR⟩, fun r7 th3 pa4 wF5 wT6 hq2 => ?_⟩⟩
  have eN := hR.2.2.1
  have h60 := hR.2.2.2.2.1
  by_cases h1 : (xs (i + 1) < 0 ∨ nI nC ≤ xs (i + 1))
  · have a1 := hq.1 h1
    have b1 := hq2.1 (by rw [← eN]; exact h1)
    exact lw_end (by rw [a1, b1.1]) (by omega) (fun q => by omega) hI9
  · have h1' : ¬ (xs (i + 1) < 0 ∨ nI ru ≤ xs (i + 1)) := by rw [← eN]; exact h1
    by_cases h2 : (xs (i + 2) < 0 ∨ 2 < xs (i + 2))
    · have a1 := hq.2.1 h1 h2
      have b1 := hq2.2.1 h1' h2
      exact lw_end (by rw [a1, b1.1]) (by omega) (fun q => by omega) hI9
    · obtain ⟨a0, zz, hz, ho⟩ := hq.2.2 h1 h2
      obtain ⟨j, j1, j2⟩ := ig_rng (c := ru) (by omega) h1'
      obtain ⟨z0, z1, z2⟩ := hz j (by omega) j2
      obtain ⟨b0, y0, y1, y2⟩ := hq2.2.2 j j1 j2 h2
      obtain ⟨e1, e2, e3, e4, -, -⟩ := sp_Ru_at hR j1
      refine lw_end (by rw [a0, b0]) (by omega) (fun _ => ?_) hI9
      rw [ho]
      rcases ig_012 (fun q => h2 (Or.inl q)) (Int32.not_lt.mp fun q => h2 (Or.inr q)) with q | q | q
      · rw [z0 q, y0 q, e3]
      · rw [z1 q, y1 q, sp_Ru_ct hR j1]
      · rw [z2 q, y2 q, e4]
