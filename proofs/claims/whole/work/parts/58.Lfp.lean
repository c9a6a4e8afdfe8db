def v_LC5 (tl : Nat) (cA : Nat → Int32) (nC : Nat) (tT : Nat → Int32) (aS : Nat → Nat) (aE : Nat → Nat) (aB : Nat → Nat) (aL : Nat → Nat) (uN : Nat) (uT : Nat → Int32) (uS : Nat → Nat) (uE : Nat → Nat) (uB : Nat → Nat) (uL : Nat → Nat) (pC : Nat) (pB : Nat → Int32) (pS : Nat → Nat) (mN : Nat → Bool) (mB : Nat → Bool) (th : Nat) (si : Nat) (ru : Nat) (na : Nat) (nx : Nat) (so : Nat) (pa : Nat) (bz : Nat) (de : Int32) (dp : Nat) (io : Bool) (rA : Nat → Int32) (tX : Nat → Int32) (xF : Nat → Nat) (xT : Nat → Nat) (xB : Nat → Nat) (xL : Nat → Nat) (tP : Nat → Int32) (yF : Nat → Nat) (yT : Nat → Nat) (zR : Nat → Bool) (zF : Nat → Bool) (wF : Nat → Nat) (wT : Nat → Nat) (zT : Nat → Bool) (tB : Nat → Int32) (oL : Nat → Int64) (i : Nat) (L : Nat) (xs : Nat → Int32) : Prop := (i + 1 < L) ∧ ((i + 2 < L) ∧ ((r_LW_fits mN mB tT aS aE aB pB pS nC pC oL (xs (i + 1)) (ig_nz (xs (i + 2)))) ∧ ((∀ (r4 : Nat) (mN1 : Nat → Bool) (mB2 : Nat → Bool) (oL3 : Nat → Int64), q_LW_fits mN mB tT aS aE aB pB pS nC pC oL (xs (i + 1)) (ig_nz (xs (i + 2))) r4 mN1 mB2 oL3 → (i + 1 < L) ∧ ((i + 2 < L) ∧ ((r_RM_fits th ru na nx so pa tX xF xT xB tP yF yT zR zF wF wT zT (xs (i + 1)) (ig_nz (xs (i + 2)))) ∧ ((∀ (r14 : Bool) (nx5 : Nat) (so6 : Nat) (zR7 : Nat → Bool) (zF8 : Nat → Bool) (zT9 : Nat → Bool) (pa10 : Nat) (wF11 : Nat → Nat) (wT12 : Nat → Nat) (th13 : Nat), q_RM_fits th ru na nx so pa tX xF xT xB tP yF yT zR zF wF wT zT (xs (i + 1)) (ig_nz (xs (i + 2))) r14 nx5 so6 zR7 zF8 zT9 pa10 wF11 wT12 th13 → (th13 < 2147483648) ∧ ((r4 < 2147483648) ∧ ((th13 = r4 → (r4 < 2147483648) ∧ ((¬ r4 = 0 → lw_I tl cA tT aS aE aB aL nC pC pB pS si rA tX xF xT xB xL ru na tP yF yT bz) ∧ (r4 = 0 → (0 < 1) ∧ (((lg_cmp (oL3 0) (cond r14 1 0)) = 0 → lw_I tl cA tT aS aE aB aL nC pC pB pS si rA tX xF xT xB xL ru na tP yF yT bz) ∧ (¬ (lg_cmp (oL3 0) (cond r14 1 0)) = 0 → False))))) ∧ (¬ th13 = r4 → False)))))))))))
theorem t_LC5 (tl : Nat) (cA : Nat → Int32) (nC : Nat) (tT : Nat → Int32) (aS : Nat → Nat) (aE : Nat → Nat) (aB : Nat → Nat) (aL : Nat → Nat) (uN : Nat) (uT : Nat → Int32) (uS : Nat → Nat) (uE : Nat → Nat) (uB : Nat → Nat) (uL : Nat → Nat) (pC : Nat) (pB : Nat → Int32) (pS : Nat → Nat) (mN : Nat → Bool) (mB : Nat → Bool) (th : Nat) (si : Nat) (ru : Nat) (na : Nat) (nx : Nat) (so : Nat) (pa : Nat) (bz : Nat) (de : Int32) (dp : Nat) (io : Bool) (rA : Nat → Int32) (tX : Nat → Int32) (xF : Nat → Nat) (xT : Nat → Nat) (xB : Nat → Nat) (xL : Nat → Nat) (tP : Nat → Int32) (yF : Nat → Nat) (yT : Nat → Nat) (zR : Nat → Bool) (zF : Nat → Bool) (wF : Nat → Nat) (wT : Nat → Nat) (zT : Nat → Bool) (tB : Nat → Int32) (oL : Nat → Int64) (i : Nat) (L : Nat) (xs : Nat → Int32) (hL : L ≤ 2048) (hi : i + 4 ≤ L) (hI : lw_I tl cA tT aS aE aB aL nC pC pB pS si rA tX xF xT xB xL ru na tP yF yT bz) : v_LC5 tl cA nC tT aS aE aB aL uN uT uS uE uB uL pC pB pS mN mB th si ru na nx so pa bz de dp io rA tX xF xT xB xL tP yF yT zR zF wF wT zT tB oL i L xs := by
  have hI9 := hI
  obtain ⟨hT, hR, hC, hP⟩ := hI
  have eN := hR.2.2.1
  have h60 := hR.2.2.2.2.1
  refine ⟨by omega, by omega, ⟨sp_Ru_rok hR, by rw [hC]; exact sp_PP_pth hP⟩, fun r4 mN1 mB2 oL3 hq => ⟨by omega, by omega, ⟨sp_Ru_rok2 hR, sp_PP_na hP⟩, fun r14 nx5 so6 zR7 zF8 zT9 pa10 wF11 wT12 th13 hq2 => ?_⟩⟩
  by_cases h1 : (xs (i + 1) < 0 ∨ nI nC ≤ xs (i + 1))
  · have a1 := hq.1 h1
    have b1 := hq2.1 (by rw [← eN]; exact h1)
    exact lw_end (by rw [a1, b1.1]) (by omega) (fun q => by omega) hI9
  · have h1' : ¬ (xs (i + 1) < 0 ∨ nI ru ≤ xs (i + 1)) := by rw [← eN]; exact h1
    by_cases h2 : pC = 0
    · have a1 := hq.2.1 h1 h2
      have b1 := hq2.2.1 h1' (by omega)
      exact lw_end (by rw [a1, b1.1]) (by omega) (fun q => by omega) hI9
    · obtain ⟨a0, zz, hz, ho⟩ := hq.2.2 h1 h2
      obtain ⟨j, j1, j2⟩ := ig_rng (c := ru) (by omega) h1'
      have z0 := hz j (by omega) j2
      obtain ⟨b0, y0⟩ := hq2.2.2 j j1 j2 (by omega)
      refine lw_end (by rw [a0, b0]) (by omega) (fun _ => ?_) hI9
      rw [ho, z0, y0, hC, sp_Ru_rf hR hP j1 (by omega) (Nat.le_refl _)]
