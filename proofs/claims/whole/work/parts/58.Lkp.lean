def v_LC10 (tl : Nat) (cA : Nat → Int32) (nC : Nat) (tT : Nat → Int32) (aS : Nat → Nat) (aE : Nat → Nat) (aB : Nat → Nat) (aL : Nat → Nat) (uN : Nat) (uT : Nat → Int32) (uS : Nat → Nat) (uE : Nat → Nat) (uB : Nat → Nat) (uL : Nat → Nat) (pC : Nat) (pB : Nat → Int32) (pS : Nat → Nat) (mN : Nat → Bool) (mB : Nat → Bool) (th : Nat) (si : Nat) (ru : Nat) (na : Nat) (nx : Nat) (so : Nat) (pa : Nat) (bz : Nat) (de : Int32) (dp : Nat) (io : Bool) (rA : Nat → Int32) (tX : Nat → Int32) (xF : Nat → Nat) (xT : Nat → Nat) (xB : Nat → Nat) (xL : Nat → Nat) (tP : Nat → Int32) (yF : Nat → Nat) (yT : Nat → Nat) (zR : Nat → Bool) (zF : Nat → Bool) (wF : Nat → Nat) (wT : Nat → Nat) (zT : Nat → Bool) (tB : Nat → Int32) (oL : Nat → Int64) (i : Nat) (L : Nat) (xs : Nat → Int32) : Prop := (i + 1 < L) ∧ ((i + 2 < L) ∧ ((i + 3 < L) ∧ ((r_LW_name mN mB tT aS aE aB pB pS nC pC oL (xs (i + 1)) (xs (i + 2)) (xs (i + 3))) ∧ ((∀ (r3 : Nat) (mB1 : Nat → Bool) (oL2 : Nat → Int64), q_LW_name mN mB tT aS aE aB pB pS nC pC oL (xs (i + 1)) (xs (i + 2)) (xs (i + 3)) r3 mB1 oL2 → (i + 1 < L) ∧ ((i + 2 < L) ∧ ((i + 3 < L) ∧ ((r_RM_name th ru na nx so pa tX xF xT xB tP yF yT zR zF wF wT (xs (i + 1)) (xs (i + 2)) (xs (i + 3))) ∧ ((∀ (r12 : Bool) (th4 : Nat) (nx5 : Nat) (so6 : Nat) (zR7 : Nat → Bool) (zF8 : Nat → Bool) (pa9 : Nat) (wF10 : Nat → Nat) (wT11 : Nat → Nat), q_RM_name th ru na nx so pa tX xF xT xB tP yF yT zR zF wF wT (xs (i + 1)) (xs (i + 2)) (xs (i + 3)) r12 th4 nx5 so6 zR7 zF8 pa9 wF10 wT11 → (th4 < 2147483648) ∧ ((r3 < 2147483648) ∧ ((th4 = r3 → (r3 < 2147483648) ∧ ((¬ r3 = 0 → lw_I tl cA tT aS aE aB aL nC pC pB pS si rA tX xF xT xB xL ru na tP yF yT bz) ∧ (r3 = 0 → (0 < 1) ∧ (((lg_cmp (oL2 0) (cond r12 1 0)) = 0 → lw_I tl cA tT aS aE aB aL nC pC pB pS si rA tX xF xT xB xL ru na tP yF yT bz) ∧ (¬ (lg_cmp (oL2 0) (cond r12 1 0)) = 0 → False))))) ∧ (¬ th4 = r3 → False)))))))))))))
theorem t_LC10 (tl : Nat) (cA : Nat → Int32) (nC : Nat) (tT : Nat → Int32) (aS : Nat → Nat) (aE : Nat → Nat) (aB : Nat → Nat) (aL : Nat → Nat) (uN : Nat) (uT : Nat → Int32) (uS : Nat → Nat) (uE : Nat → Nat) (uB : Nat → Nat) (uL : Nat → Nat) (pC : Nat) (pB : Nat → Int32) (pS : Nat → Nat) (mN : Nat → Bool) (mB : Nat → Bool) (th : Nat) (si : Nat) (ru : Nat) (na : Nat) (nx : Nat) (so : Nat) (pa : Nat) (bz : Nat) (de : Int32) (dp : Nat) (io : Bool) (rA : Nat → Int32) (tX : Nat → Int32) (xF : Nat → Nat) (xT : Nat → Nat) (xB : Nat → Nat) (xL : Nat → Nat) (tP : Nat → Int32) (yF : Nat → Nat) (yT : Nat → Nat) (zR : Nat → Bool) (zF : Nat → Bool) (wF : Nat → Nat) (wT : Nat → Nat) (zT : Nat → Bool) (tB : Nat → Int32) (oL : Nat → Int64) (i : Nat) (L : Nat) (xs : Nat → Int32) (hL : L ≤ 2048) (hi : i + 4 ≤ L) (hI : lw_I tl cA tT aS aE aB aL nC pC pB pS si rA tX xF xT xB xL ru na tP yF yT bz) : v_LC10 tl cA nC tT aS aE aB aL uN uT uS uE uB uL pC pB pS mN mB th si ru na nx so pa bz de dp io rA tX xF xT xB xL tP yF yT zR zF wF wT zT tB oL i L xs := by
  have hI9 := hI
  obtain ⟨hT, hR, hC, hP⟩ := hI
  have eN := hR.2.2.1
  have h60 := hR.2.2.2.2.1
  have h20 := hP.1
  refine ⟨by omega, by omega, by omega, ⟨sp_Ru_rok hR, by rw [hC]; exact sp_PP_pth hP⟩, fun r3 mB1 oL2 hq => ⟨by omega, by omega, by omega, ⟨sp_Ru_rok2 hR, sp_PP_na hP⟩, fun r12 th4 nx5 so6 zR7 zF8 pa9 wF10 wT11 hq2 => ?_⟩⟩
  by_cases h1 : (xs (i + 1) < 0 ∨ nI nC ≤ xs (i + 1))
  · have a1 := hq.1 h1
    have b1 := hq2.1 (by rw [← eN]; exact Or.inl h1)
    exact lw_end (by rw [a1, b1.1]) (by omega) (fun q => by omega) hI9
  · have h1' : ¬ (xs (i + 1) < 0 ∨ nI ru ≤ xs (i + 1)) := by rw [← eN]; exact h1
    obtain ⟨j, j1, j2⟩ := ig_rng (c := ru) (by omega) h1'
    have ec := sp_Ru_ct hR j1
    by_cases h2 : (∀ i_1, i_1 < nC → xs (i + 1) = nI i_1 → (xs (i + 2) < 0 ∨ nI (1 + sp_cnt tT (aE i_1) (aS i_1)) ≤ xs (i + 2)))
    · have a1 := hq.2.1 h1 h2
      by_cases h3 : xs (i + 2) < 0
      · have b1 := hq2.1 (Or.inr h3)
        exact lw_end (by rw [a1, b1.1]) (by omega) (fun q => by omega) hI9
      · obtain ⟨k, k1, k2⟩ := nI_of h3
        have h4 := (h2 j (by omega) j2).resolve_left h3
        have hcl := ((sp_Ru_rok2 hR).2 j j1).2.2.1
        rw [ec, k2, ig_le (by omega) k1] at h4
        have b1 := (hq2.2 j k j1 j2 k1 k2).1 h4
        exact lw_end (by rw [a1, b1.1]) (by omega) (fun q => by omega) hI9
    · have h2' := lw_nn (by omega) h2 j (by omega) j2
      have h3 : ¬ xs (i + 2) < 0 := fun q => h2' (Or.inl q)
      obtain ⟨k, k1, k2⟩ := nI_of h3
      have hcl := ((sp_Ru_rok2 hR).2 j j1).2.2.1
      have h4 : k < 1 + sp_cnt tX (xT j) (xF j) := by
        apply Classical.byContradiction
        intro q
        apply h2'
        refine Or.inr ?_
        rw [ec, k2]
        exact (ig_le (by omega) k1).mpr (by omega)
      obtain ⟨-, hB⟩ := hq2.2 j k j1 j2 k1 k2
      obtain ⟨hB0, hB1, hB2⟩ := hB h4
      by_cases h5 : pC = 0
      · have a1 := hq.2.2.1 h1 h2 h5
        have b1 := hB0 (by omega)
        exact lw_end (by rw [a1, b1.1]) (by omega) (fun q => by omega) hI9
      · by_cases h6 : (xs (i + 3) < 0 ∨ nI pC ≤ xs (i + 3))
        · have a1 := hq.2.2.2.1 h1 h2 h5 h6
          have b1 := hB1 (by omega) (by rw [← hC]; exact h6)
          exact lw_end (by rw [a1, b1.1]) (by omega) (fun q => by omega) hI9
        · obtain ⟨a0, zz, hz, ho⟩ := hq.2.2.2.2 h1 h2 h5 h6
          obtain ⟨q, q1, q2⟩ := ig_rng (c := pC) (by omega) h6
          have z0 := hz j k q (by omega) j2 k1 k2 q1 q2
          obtain ⟨b0, b1, b2⟩ := hB2 q (by omega) q2
          refine lw_end (by rw [a0, b0]) (by omega) (fun _ => ?_) hI9
          rw [ho, z0, b2, sp_Ru_nm hR hP j1 (by omega) b1 h4]
