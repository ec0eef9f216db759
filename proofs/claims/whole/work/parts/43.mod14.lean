set_option maxHeartbeats 4000000 in
set_option maxRecDepth 20000 in
theorem c_X11_suns (E : fnE) (σ : fnMem) (μ : fnMem) (hM : fnSc μ (mv σ)) (hW : zWF μ)  : fnOk E mX11_suns [.ref 51] σ (fnQI (fun z s => z = zm μ ∧ fnFr [73, 74, 76] σ s ∧ ∀ j : Int, 0 ≤ j → j < zm μ → s 76 j = zRS μ (zLn μ) j)) := by
  refine fnOk.of [.ref 51, .null, .null] rfl (by decide +kernel) rfl (fun V hV hR => ?_)
  replace hV : fnCx E RX11 cX11_suns 3 7 154 V := hV
  replace hR : fnRt cX11_suns (some .int) _ V := hR
  have f16 : σ 67 = μ 16 := hM.c (k := 16) (by decide) (by decide)
  have f21 : σ 72 = μ 21 := hM.c (k := 21) (by decide) (by decide)
  obtain ⟨x1, x2, x3, x4, x5, x6, x7, x8⟩ := hW.2.2.2.2.2
  have g18 : σ 51 18 = μ 0 18 := hM.f (by decide) (by decide)
  obtain ⟨L, hL, hL4⟩ := hW.L
  have hLn := zLn_eq hL
  refine fn_iconst hV dX11_suns_0 ?_
  refine fn_istore_1 hV dX11_suns_1 rfl rfl ?_
  refine fn_iconst hV dX11_suns_2 ?_
  refine fn_istore_2 hV dX11_suns_3 rfl rfl ?_
  have L : ∀ k : Nat, k ≤ L → ∀ (i m : Int) (σ1 : fnMem), True → (i = k) → (m = znS μ k) → (fnFr [73, 74, 76] σ σ1) → (∀ j : Int, 0 ≤ j → j < znS μ k → σ1 76 j = zRS μ k j) → V 4 [.ref 51, zI m, zI i] [] σ1 := by
    refine fn_rec (fun k hk ihL => ?_)
    intro i m σ1 _ hi hm gF gv
    refine fn_iload_2 hV dX11_suns_4 ?_
    refine fn_aload_0 hV dX11_suns_5 ?_
    refine fn_getIz hV 18 dX11_suns_6 fl_X11_272 fi_51_18 rfl ?_
    have e18 : σ1 51 18 = L := by rw [gF 51 (by decide), g18, hL]
    have hM1 : fnSc μ (mv σ1) := hM.fr (gF.mono (by decide))
    refine fn_icmp_ge hV (by omega) (by omega) dX11_suns_9 (fun q9 => ?_) (fun q9 => ?_)
    · have hmm := zm_eq μ
      refine fn_iload_1 hV dX11_suns_44 ?_
      exact fn_iret hR dX11_suns_45 (fnQI.mk ⟨by rw [hm, hmm, hLn, show k = L by omega], gF, fun j j0 j1 => by rw [hLn, ← show k = L by omega]; exact gv j j0 (by rw [show k = L by omega, ← hLn]; omega)⟩)
    · have y7 := x7 i (by omega) (by omega)
      have e72 : σ1 72 i = μ 21 i := by rw [gF 72 (by decide), f21]
      have n1 := znS_le μ k
      refine fn_aload_0 hV dX11_suns_12 ?_
      refine fn_getR hV dX11_suns_13 fl_X11_75 fr_51_24 ?_
      refine fn_iload_2 hV dX11_suns_16 ?_
      refine fn_iald hV dX11_suns_17 ar_72 (by omega) (by omega) ?_
      refine fn_sipush hV dX11_suns_18 rfl ?_
      refine fn_icmp_eq hV (by omega) (by omega) dX11_suns_21 (fun q21 => ?_) (fun q21 => ?_)
      · refine fn_iinc_2 hV dX11_suns_38 rfl rfl ?_
        refine fn_goto hV dX11_suns_41 ?_
        exact ihL (k + 1) (by omega) (by omega) _ _ _ trivial (by omega) (by rw [znS_s, ← hi, if_neg (by omega), hm]; omega) gF (fun j j0 j1 => by rw [znS_s, ← hi, if_neg (by omega)] at j1; rw [zRS_s, ← hi, if_neg (by omega)]; exact gv j j0 (by omega))
      · refine fn_aload_0 hV dX11_suns_24 ?_
        refine fn_getR hV dX11_suns_25 fl_X11_87 fr_51_29 ?_
        refine fn_iload_1 hV dX11_suns_28 ?_
        refine fn_aload_0 hV dX11_suns_29 ?_
        refine fn_iload_2 hV dX11_suns_30 ?_
        refine fn_cV1I hV (c_X11_restOf E _ μ hM1 hW _ (by omega)) mv_X11_restOf lk_X11_284 dX11_suns_31 sh_51 rfl ⟨rfl, rfl⟩ rfl (fun z σ2 hp => ?_)
        obtain ⟨rfl, cF⟩ := hp
        rw [if_neg (show ¬ μ 21 i = -2009 by omega)]
        refine fn_iast hV dX11_suns_34 ar_76 (by omega) (by omega) ?_
        refine fn_iinc_1 hV dX11_suns_35 rfl rfl ?_
        refine fn_iinc_2 hV dX11_suns_38 rfl rfl ?_
        refine fn_goto hV dX11_suns_41 ?_
        exact ihL (k + 1) (by omega) (by omega) _ _ _ trivial (by omega) (by rw [znS_s, ← hi, if_pos (by omega), hm]) ((gF.tr (cF.mono (by decide))).up (by decide)) (fun j j0 j1 => by
        rw [znS_s, ← hi, if_pos (by omega)] at j1
        rw [zRS_s, ← hi, if_pos (by omega), fnUp_ap, cF 76 (by decide), hm]
        unfold zset
        split
        · rfl
        · exact gv j j0 (by omega))
  exact L 0 (by omega) _ _ _ trivial (by omega) rfl fnFr.rf (fun j j0 j1 => by have := (znS_le μ 0).2; omega)

set_option maxHeartbeats 4000000 in
set_option maxRecDepth 20000 in
theorem c_X11_splitOf (E : fnE) (σ : fnMem) (m : Nat) (h40 : m ≤ 40) (hB : ∀ j : Int, 0 ≤ j → j < m → -2000000 ≤ σ 76 j ∧ σ 76 j ≤ 2000000) : fnOk E mX11_splitOf [.ref 51, zI m] σ (fnQI (fun z s => z = (zsp (σ 76) m m).1 ∧ fnFr [77] σ s)) := by
  refine fnOk.of [.ref 51, zI m, .null, .null, .null, .null] rfl (by decide +kernel) rfl (fun V hV hR => ?_)
  replace hV : fnCx E RX11 cX11_splitOf 6 2 50 V := hV
  replace hR : fnRt cX11_splitOf (some .int) _ V := hR
  refine fn_iconst hV dX11_splitOf_0 ?_
  refine fn_istore_2 hV dX11_splitOf_1 rfl rfl ?_
  refine fn_aload_0 hV dX11_splitOf_2 ?_
  refine fn_iconst hV dX11_splitOf_3 ?_
  refine fn_iload_1 hV dX11_splitOf_4 ?_
  refine fn_cV2I hV (c_X11_costOf E _ _ _ m (by omega) (by omega) (by omega) (fun j j0 j1 => hB j j0 (by omega))) mv_X11_costOf lk_X11_304 dX11_splitOf_5 sh_51 rfl ⟨rfl, rfl⟩ rfl (fun z0 σ0 hp => ?_)
  obtain ⟨hz0, gF0⟩ := hp
  refine fn_istore_3 hV dX11_splitOf_8 rfl rfl ?_
  refine fn_iconst hV dX11_splitOf_9 ?_
  refine fn_istore_4 hV dX11_splitOf_10 rfl rfl ?_
  have L : ∀ k : Nat, k ≤ m → ∀ (b c i : Int) (σ1 : fnMem), True → (i = k + 1) → (fnFr [77] σ σ1) → (b = (zsp (σ 76) m k).1) → (c = (zsp (σ 76) m k).2) → V 12 [.ref 51, zI m, zI b, zI c, zI i, .null] [] σ1 := by
    refine fn_rec (fun k hk ihL => ?_)
    intro b c i σ1 _ hi hF h4 h5
    refine fn_iload_4 hV dX11_splitOf_12 ?_
    have e45 : σ1 76 = σ 76 := hF 76 (by decide)
    refine fn_iload_1 hV dX11_splitOf_14 ?_
    refine fn_icmp_gt hV (by omega) (by omega) dX11_splitOf_15 (fun q15 => ?_) (fun q15 => ?_)
    · refine fn_iload_2 hV dX11_splitOf_53 ?_
      exact fn_iret hR dX11_splitOf_54 (fnQI.mk ⟨by rw [h4, show k = m by omega], hF⟩)
    · refine fn_aload_0 hV dX11_splitOf_18 ?_
      refine fn_iconst hV dX11_splitOf_19 ?_
      refine fn_iload_4 hV dX11_splitOf_20 ?_
      refine fn_cV2I hV (c_X11_costOf E _ _ _ (k + 1) (by omega) (by omega) (by omega) (fun j j0 j1 => by rw [e45]; exact hB j j0 (by omega))) mv_X11_costOf lk_X11_304 dX11_splitOf_22 sh_51 rfl ⟨rfl, rfl⟩ rfl (fun z1 σ2 hp => ?_)
      obtain ⟨hz1, gF1⟩ := hp
      refine fn_aload_0 hV dX11_splitOf_25 ?_
      refine fn_iload_4 hV dX11_splitOf_26 ?_
      refine fn_iload_1 hV dX11_splitOf_28 ?_
      refine fn_cV2I hV (c_X11_costOf E _ _ _ (m - (k + 1)) (by omega) (by omega) (by omega) (fun j j0 j1 => by rw [gF1 76 (by decide), e45]; exact hB j (by omega) (by omega))) mv_X11_costOf lk_X11_304 dX11_splitOf_29 sh_51 rfl ⟨rfl, rfl⟩ rfl (fun z2 σ3 hp => ?_)
      obtain ⟨hz2, gF2⟩ := hp
      rw [show σ2 76 = σ 76 from (gF1 76 (by decide)).trans e45] at hz2
      rw [e45] at hz1
      have ob := zsp_le h40 hB k (by omega)
      rw [← h4, ← h5] at ob
      have c1 := zcost_le (R := σ 76) (a := 0) (n := k + 1) (by omega) (fun j j0 j1 => hB j j0 (by omega))
      have c2 := zcost_le (R := σ 76) (a := i) (n := m - (k + 1)) (by omega) (fun j j0 j1 => hB j (by omega) (by omega))
      rw [← hz1] at c1
      rw [← hz2] at c2
      have hF3 : fnFr [77] σ σ3 := hF.tr (gF1.tr gF2)
      refine fn_iadd hV dX11_splitOf_32 ?_
      refine fn_istore_5 hV dX11_splitOf_33 rfl rfl ?_
      refine fn_iload_5 hV dX11_splitOf_35 ?_
      refine fn_iload_3 hV dX11_splitOf_37 ?_
      refine fn_icmp_ge hV (by omega) (by omega) dX11_splitOf_38 (fun q38 => ?_) (fun q38 => ?_)
      · refine fn_iinc_4 hV dX11_splitOf_47 rfl rfl ?_
        refine fn_goto hV dX11_splitOf_50 ?_
        have hst : zsp (σ 76) m (k + 1) = zsp (σ 76) m k := by
          rw [zsp_s, if_neg (by rw [← h5, show ((k + 1 : Nat) : Int) = i by omega, ← hz1, ← hz2]; omega)]
        refine fn_nul_5 hV ?_
        exact ihL (k + 1) (by omega) (by omega) _ _ _ _ trivial (by omega) hF3 (by rw [hst, h4]) (by rw [hst, h5])
      · refine fn_iload_5 hV dX11_splitOf_41 ?_
        refine fn_istore_3 hV dX11_splitOf_43 rfl rfl ?_
        refine fn_iload_4 hV dX11_splitOf_44 ?_
        refine fn_istore_2 hV dX11_splitOf_46 rfl rfl ?_
        refine fn_iinc_4 hV dX11_splitOf_47 rfl rfl ?_
        refine fn_goto hV dX11_splitOf_50 ?_
        have hst : zsp (σ 76) m (k + 1) = (i, z1 + z2) := by
          rw [zsp_s, if_pos (by rw [← h5, show ((k + 1 : Nat) : Int) = i by omega, ← hz1, ← hz2]; omega), show ((k + 1 : Nat) : Int) = i by omega, ← hz1, ← hz2]
        refine fn_nul_5 hV ?_
        exact ihL (k + 1) (by omega) (by omega) _ _ _ _ trivial (by omega) hF3 (by rw [hst]) (by rw [hst])
  exact L 0 (by omega) _ _ _ _ trivial (by omega) gF0 rfl (by rw [hz0]; rfl)

set_option maxHeartbeats 4000000 in
set_option maxRecDepth 20000 in
theorem c_X11_split (E : fnE) (σ : fnMem) (hW : zWF (mv σ))  : fnOk E mX11_split [.ref 51] σ (fnQI (zMP (S_split (mv σ)) (mv σ) σ)) := by
  refine fnOk.of [.ref 51, .null] rfl (by decide +kernel) rfl (fun V hV hR => ?_)
  replace hV : fnCx E RX11 cX11_split 2 8 176 V := hV
  replace hR : fnRt cX11_split (some .int) _ V := hR
  refine fn_aload_0 hV dX11_split_0 ?_
  refine fn_iconst hV dX11_split_1 ?_
  refine fn_putIz hV 0 dX11_split_2 fp_X11_96 fi_51_0 rfl ?_
  generalize hσ1 : fnUp σ 51 0 0 = σ1
  have e : ∀ k, k ≠ 51 → σ1 k = σ k := fun k hk => by rw [← hσ1, fnUp_ne _ _ _ hk]
  have e0 : ∀ j, j ≠ 0 → σ1 51 j = mv σ 0 j := fun j hj => by rw [← hσ1, fnUp_off _ _ _ hj]; rfl
  refine fn_aload_0 hV dX11_split_5 ?_
  refine fn_cV0I hV (c_X11_suns E _ (mv σ) (zsc0 hσ1) hW) mv_X11_suns lk_X11_307 dX11_split_6 sh_51 rfl ⟨rfl, rfl⟩ rfl (fun z σ2 hp => ?_)
  obtain ⟨rfl, sF, sv⟩ := hp
  have x1 := hW.2.2.2.2.2.1
  have n1 := znS_le (mv σ) (zLn (mv σ))
  have hmm := zm_eq (mv σ)
  have h3 : (zLn (mv σ) : Int) = mv σ 0 18 := by unfold zLn; omega
  have hB : ∀ j : Int, 0 ≤ j → j < zm (mv σ) → -2000000 ≤ σ2 76 j ∧ σ2 76 j ≤ 2000000 := fun j j0 j1 => by rw [sv j j0 j1]; exact zRS_in hW (zLn (mv σ)) (by omega) j j0 (by omega)
  have hin := zspl_in hW
  refine fn_istore_1 hV dX11_split_9 rfl rfl ?_
  refine fn_iload_1 hV dX11_split_10 ?_
  refine fn_if_ne hV (by omega) dX11_split_11 (fun q11 => ?_) (fun q11 => ?_)
  · refine fn_aload_0 hV dX11_split_20 ?_
    refine fn_iload_1 hV dX11_split_21 ?_
    refine fn_cV1I hV (c_X11_splitOf E _ (zm (mv σ)) (by omega) hB) mv_X11_splitOf lk_X11_310 dX11_split_22 sh_51 rfl ⟨rfl, rfl⟩ rfl (fun z σ3 hp => ?_)
    obtain ⟨hz, pF⟩ := hp
    have hz1 : z = (zspl (mv σ)).1 := by rw [hz]; unfold zspl; rw [zsp_congr sv _ (Nat.le_refl _)]
    exact fn_iret hR dX11_split_25 (by first | exact zMP.fr hσ1 (sF.mono (by decide)) (by unfold S_split; rw [if_pos (by omega)]) | exact zMP.fr hσ1 ((sF.mono (by decide)).tr (pF.mono (by decide))) (by unfold S_split; rw [if_neg (by omega)]; exact hz1))
  · refine fn_sipush hV dX11_split_14 rfl ?_
    refine fn_goto hV dX11_split_17 ?_
    exact fn_iret hR dX11_split_25 (by first | exact zMP.fr hσ1 (sF.mono (by decide)) (by unfold S_split; rw [if_pos (by omega)]) | exact zMP.fr hσ1 ((sF.mono (by decide)).tr (pF.mono (by decide))) (by unfold S_split; rw [if_neg (by omega)]; exact hz1))
