theorem zcost_0 (R : Int → Int) (a : Int) : zcost R a 0 = 0 := rfl
theorem zsp_c (R : Int → Int) (m : Nat) : ∀ j : Nat, j ≤ m → ∃ k : Nat, k ≤ m ∧ (zsp R m j).1 = k ∧ (zsp R m j).2 = zcost R 0 k + zcost R k (m - k)
  | 0, _ => ⟨0, by omega, rfl, by rw [zcost_0, Int.zero_add]; rfl⟩
  | j + 1, hj => by
    rw [zsp_s]
    split
    · exact ⟨j + 1, hj, rfl, rfl⟩
    · exact zsp_c R m j (by omega)

set_option maxHeartbeats 4000000 in
set_option maxRecDepth 20000 in
theorem c_X11_splitCost (E : fnE) (σ : fnMem) (hW : zWF (mv σ))  : fnOk E mX11_splitCost [.ref 51] σ (fnQI (zMP (S_splitCost (mv σ)) (mv σ) σ)) := by
  refine fnOk.of [.ref 51, .null, .null] rfl (by decide +kernel) rfl (fun V hV hR => ?_)
  replace hV : fnCx E RX11 cX11_splitCost 3 8 176 V := hV
  replace hR : fnRt cX11_splitCost (some .int) _ V := hR
  refine fn_aload_0 hV dX11_splitCost_0 ?_
  refine fn_iconst hV dX11_splitCost_1 ?_
  refine fn_putIz hV 0 dX11_splitCost_2 fp_X11_96 fi_51_0 rfl ?_
  generalize hσ1 : fnUp σ 51 0 0 = σ1
  have e : ∀ k, k ≠ 51 → σ1 k = σ k := fun k hk => by rw [← hσ1, fnUp_ne _ _ _ hk]
  have e0 : ∀ j, j ≠ 0 → σ1 51 j = mv σ 0 j := fun j hj => by rw [← hσ1, fnUp_off _ _ _ hj]; rfl
  refine fn_aload_0 hV dX11_splitCost_5 ?_
  refine fn_cV0I hV (c_X11_suns E _ (mv σ) (zsc0 hσ1) hW) mv_X11_suns lk_X11_307 dX11_splitCost_6 sh_51 rfl ⟨rfl, rfl⟩ rfl (fun z σ2 hp => ?_)
  obtain ⟨rfl, sF, sv⟩ := hp
  have x1 := hW.2.2.2.2.2.1
  have n1 := znS_le (mv σ) (zLn (mv σ))
  have hmm := zm_eq (mv σ)
  have h3 : (zLn (mv σ) : Int) = mv σ 0 18 := by unfold zLn; omega
  have hB : ∀ j : Int, 0 ≤ j → j < zm (mv σ) → -2000000 ≤ σ2 76 j ∧ σ2 76 j ≤ 2000000 := fun j j0 j1 => by rw [sv j j0 j1]; exact zRS_in hW (zLn (mv σ)) (by omega) j j0 (by omega)
  have hin := zspl_in hW
  refine fn_istore_1 hV dX11_splitCost_9 rfl rfl ?_
  refine fn_iload_1 hV dX11_splitCost_10 ?_
  refine fn_if_ne hV (by omega) dX11_splitCost_11 (fun q11 => ?_) (fun q11 => ?_)
  · refine fn_aload_0 hV dX11_splitCost_18 ?_
    refine fn_iload_1 hV dX11_splitCost_19 ?_
    refine fn_cV1I hV (c_X11_splitOf E _ (zm (mv σ)) (by omega) hB) mv_X11_splitOf lk_X11_310 dX11_splitCost_20 sh_51 rfl ⟨rfl, rfl⟩ rfl (fun z σ3 hp => ?_)
    obtain ⟨hz, pF⟩ := hp
    have hz1 : z = (zspl (mv σ)).1 := by rw [hz]; unfold zspl; rw [zsp_congr sv _ (Nat.le_refl _)]
    refine fn_istore_2 hV dX11_splitCost_23 rfl rfl ?_
    obtain ⟨kk, hk1, hk2, hk3⟩ := zsp_c (σ2 76) (zm (mv σ)) (zm (mv σ)) (Nat.le_refl _)
    rw [← hz] at hk2
    have hs2 : (zspl (mv σ)).2 = (zsp (σ2 76) (zm (mv σ)) (zm (mv σ))).2 := by unfold zspl; rw [zsp_congr sv _ (Nat.le_refl _)]
    refine fn_aload_0 hV dX11_splitCost_24 ?_
    refine fn_iconst hV dX11_splitCost_25 ?_
    refine fn_iload_2 hV dX11_splitCost_26 ?_
    refine fn_cV2I hV (c_X11_costOf E _ _ _ kk (by omega) (by omega) (by omega) (fun j j0 j1 => by rw [pF 76 (by decide)]; exact hB j j0 (by omega))) mv_X11_costOf lk_X11_304 dX11_splitCost_27 sh_51 rfl ⟨rfl, rfl⟩ rfl (fun z4 σ4 hp => ?_)
    obtain ⟨hz4, cF⟩ := hp
    refine fn_aload_0 hV dX11_splitCost_30 ?_
    refine fn_iload_2 hV dX11_splitCost_31 ?_
    refine fn_iload_1 hV dX11_splitCost_32 ?_
    refine fn_cV2I hV (c_X11_costOf E _ _ _ (zm (mv σ) - kk) (by omega) (by omega) (by omega) (fun j j0 j1 => by rw [cF 76 (by decide), pF 76 (by decide)]; exact hB j (by omega) (by omega))) mv_X11_costOf lk_X11_304 dX11_splitCost_33 sh_51 rfl ⟨rfl, rfl⟩ rfl (fun z5 σ5 hp => ?_)
    obtain ⟨hz5, dF⟩ := hp
    refine fn_iadd hV dX11_splitCost_36 ?_
    exact fn_iret hR dX11_splitCost_37 (zMP.fr hσ1 (((sF.mono (by decide)).tr (pF.mono (by decide))).tr ((cF.mono (by decide)).tr (dF.mono (by decide)))) (by unfold S_splitCost; rw [if_neg (by omega), hs2, hk3, hz4, hz5, hk2, cF 76 (by decide), pF 76 (by decide)]))
  · refine fn_sipush hV dX11_splitCost_14 rfl ?_
    exact fn_iret hR dX11_splitCost_17 (zMP.fr hσ1 (sF.mono (by decide)) (by unfold S_splitCost; rw [if_pos (by omega)]))

set_option maxHeartbeats 4000000 in
set_option maxRecDepth 20000 in
theorem c_X11_sunDay (E : fnE) (σ : fnMem) (μ : fnMem) (hM : fnSc μ (mv σ)) (hW : zWF μ) (q : Int) (hq : 0 ≤ q ∧ q < zm μ) : fnOk E mX11_sunDay [.ref 51, zI q] σ (fnIs (some (zI (μ 16 (zNL μ (zLn μ) q)))) σ) := by
  refine fnOk.of [.ref 51, zI q, .null, .null, .null] rfl (by decide +kernel) rfl (fun V hV hR => ?_)
  replace hV : fnCx E RX11 cX11_sunDay 5 0 0 V := hV
  replace hR : fnRt cX11_sunDay (some .int) _ V := hR
  have f16 : σ 67 = μ 16 := hM.c (k := 16) (by decide) (by decide)
  have f21 : σ 72 = μ 21 := hM.c (k := 21) (by decide) (by decide)
  obtain ⟨x1, x2, x3, x4, x5, x6, x7, x8⟩ := hW.2.2.2.2.2
  have g18 : σ 51 18 = μ 0 18 := hM.f (by decide) (by decide)
  obtain ⟨L, hL, hL4⟩ := hW.L
  have hLn := zLn_eq hL
  have hmm := zm_eq μ
  have n0 := znS_le μ (zLn μ)
  refine fn_iconst hV dX11_sunDay_0 ?_
  refine fn_istore_2 hV dX11_sunDay_1 rfl rfl ?_
  refine fn_iconst hV dX11_sunDay_2 ?_
  refine fn_istore_3 hV dX11_sunDay_3 rfl rfl ?_
  refine fn_iconst hV dX11_sunDay_4 ?_
  refine fn_istore_4 hV dX11_sunDay_5 rfl rfl ?_
  have L : ∀ k : Nat, k ≤ L → ∀ (n d i : Int), True → (i = k) → (n = znS μ k) → (d = if q < znS μ k then μ 16 (zNL μ k q) else 0) → V 7 [.ref 51, zI q, zI n, zI d, zI i] [] σ := by
    refine fn_rec (fun k hk ihL => ?_)
    intro n d i _ hi hn hd
    refine fn_iload_4 hV dX11_sunDay_7 ?_
    refine fn_aload_0 hV dX11_sunDay_9 ?_
    refine fn_getIz hV 18 dX11_sunDay_10 fl_X11_272 fi_51_18 rfl ?_
    rw [g18, hL]
    refine fn_icmp_ge hV (by omega) (by omega) dX11_sunDay_13 (fun q13 => ?_) (fun q13 => ?_)
    · refine fn_iload_3 hV dX11_sunDay_55 ?_
      exact fn_iret hR dX11_sunDay_56 (fnIs.i (by rw [hd, show k = L by omega, ← hLn, if_pos (by omega)]))
    · have y2 := x2 i (by omega) (by omega)
      have y7 := x7 i (by omega) (by omega)
      have e72 : σ 72 i = μ 21 i := by rw [f21]
      have e67 : σ 67 i = μ 16 i := by rw [f16]
      have n1 := znS_le μ k
      refine fn_aload_0 hV dX11_sunDay_16 ?_
      refine fn_getR hV dX11_sunDay_17 fl_X11_75 fr_51_24 ?_
      refine fn_iload_4 hV dX11_sunDay_20 ?_
      refine fn_iald hV dX11_sunDay_22 ar_72 (by omega) (by omega) ?_
      refine fn_sipush hV dX11_sunDay_23 rfl ?_
      refine fn_icmp_eq hV (by omega) (by omega) dX11_sunDay_26 (fun q26 => ?_) (fun q26 => ?_)
      · refine fn_iinc_4 hV dX11_sunDay_49 rfl rfl ?_
        refine fn_goto hV dX11_sunDay_52 ?_
        exact ihL (k + 1) (by omega) (by omega) _ _ _ trivial (by omega) (by rw [znS_s, ← hi, if_neg (by omega), hn]; omega) (by rw [znS_s, zNL_s, ← hi, if_neg (show ¬ μ 21 i ≠ -2009 by omega), if_neg (show ¬ μ 21 i ≠ -2009 by omega), Int.add_zero]; exact hd)
      · refine fn_iload_2 hV dX11_sunDay_29 ?_
        refine fn_iload_1 hV dX11_sunDay_30 ?_
        refine fn_icmp_ne hV (by omega) (by omega) dX11_sunDay_31 (fun q31 => ?_) (fun q31 => ?_)
        · refine fn_iload_3 hV dX11_sunDay_44 ?_
          refine fn_istore_3 hV dX11_sunDay_45 rfl rfl ?_
          refine fn_iinc_2 hV dX11_sunDay_46 rfl rfl ?_
          refine fn_iinc_4 hV dX11_sunDay_49 rfl rfl ?_
          refine fn_goto hV dX11_sunDay_52 ?_
          exact ihL (k + 1) (by omega) (by omega) _ _ _ trivial (by omega) (by rw [znS_s, ← hi, if_pos (by omega), hn]) (by
        rw [znS_s, zNL_s, ← hi, if_pos (show μ 21 i ≠ -2009 by omega), if_pos (show μ 21 i ≠ -2009 by omega), hd]
        unfold zset
        by_cases hq1 : q < znS μ k
        · rw [if_pos hq1, if_pos (by omega), if_neg (by omega)]
        · rw [if_neg hq1, if_neg (by omega)])
        · refine fn_aload_0 hV dX11_sunDay_34 ?_
          refine fn_getR hV dX11_sunDay_35 fl_X11_60 fr_51_19 ?_
          refine fn_iload_4 hV dX11_sunDay_38 ?_
          refine fn_iald hV dX11_sunDay_40 ar_67 (by omega) (by omega) ?_
          refine fn_goto hV dX11_sunDay_41 ?_
          refine fn_istore_3 hV dX11_sunDay_45 rfl rfl ?_
          refine fn_iinc_2 hV dX11_sunDay_46 rfl rfl ?_
          refine fn_iinc_4 hV dX11_sunDay_49 rfl rfl ?_
          refine fn_goto hV dX11_sunDay_52 ?_
          exact ihL (k + 1) (by omega) (by omega) _ _ _ trivial (by omega) (by rw [znS_s, ← hi, if_pos (by omega), hn]) (by
        rw [znS_s, zNL_s, ← hi, if_pos (show μ 21 i ≠ -2009 by omega), if_pos (show μ 21 i ≠ -2009 by omega), if_pos (by omega), e67]
        unfold zset
        rw [if_pos (by omega)])
  exact L 0 (by omega) _ _ _ trivial (by omega) rfl (by rw [if_neg (by have := (znS_le μ 0).2; omega)])
