theorem znS_le (μ : fnMem) (n : Nat) : 0 ≤ znS μ n ∧ znS μ n ≤ n := zsum01 (G := fun l => if μ 21 l ≠ -2009 then 1 else 0) (fun l => by (try dsimp only); split <;> omega) n
theorem zRS_in {μ : fnMem} (hW : zWF μ) : ∀ n : Nat, (n : Int) ≤ μ 0 18 → ∀ j : Int, 0 ≤ j → j < znS μ n → -2000000 ≤ zRS μ n j ∧ zRS μ n j ≤ 2000000
  | 0, _ => fun j j0 j1 => by
    have := (znS_le μ 0).2
    omega
  | n + 1, hn => fun j j0 j1 => by
    rw [znS_s] at j1
    rw [zRS_s]
    by_cases h : μ 21 n ≠ -2009
    · rw [if_pos h] at j1
      rw [if_pos h]
      unfold zset
      by_cases hj : j = znS μ n
      · rw [if_pos hj]; exact zsrs_in hW (by omega)
      · rw [if_neg hj]; exact zRS_in hW n (by omega) j j0 (by omega)
    · rw [if_neg h] at j1
      rw [if_neg h]
      exact zRS_in hW n (by omega) j j0 (by omega)
theorem zNL_in (μ : fnMem) : ∀ n : Nat, ∀ j : Int, 0 ≤ j → j < znS μ n → 0 ≤ zNL μ n j ∧ zNL μ n j < n
  | 0 => fun j j0 j1 => by
    have := (znS_le μ 0).2
    omega
  | n + 1 => fun j j0 j1 => by
    rw [znS_s] at j1
    rw [zNL_s]
    by_cases h : μ 21 n ≠ -2009
    · rw [if_pos h] at j1
      rw [if_pos h]
      unfold zset
      by_cases hj : j = znS μ n
      · rw [if_pos hj]; omega
      · rw [if_neg hj]; have := zNL_in μ n j j0 (by omega); omega
    · rw [if_neg h] at j1
      rw [if_neg h]
      have := zNL_in μ n j j0 (by omega)
      omega
theorem zfa_s (μ : fnMem) (lim : Int) (n : Nat) : zfa μ lim (n + 1) = if zfa μ lim n ≠ -2009 then zfa μ lim n else if μ 20 n ≠ -2009 ∧ lim < zabs (zapw μ n) then n else -2009 := rfl
theorem zfa_stay {μ : fnMem} {lim : Int} {n : Nat} (h : zfa μ lim n ≠ -2009) : ∀ m : Nat, n ≤ m → zfa μ lim m = zfa μ lim n
  | 0, hm => by rw [show n = 0 by omega]
  | m + 1, hm => by
    by_cases hn : n = m + 1
    · rw [hn]
    · have := zfa_stay h m (by omega)
      rw [zfa_s, if_pos (by rw [this]; exact h), this]
theorem zCR_47 {σ σ1 μ : fnMem} (h : zCR σ μ) (hF : fnFr [47] σ σ1) (hr : fnR (σ1 47 1)) : zCR σ1 μ := by
  have e : ∀ k, k ≠ 47 → σ1 k = σ k := fun k hk => hF k (by simpa using hk)
  exact ⟨zCRp_eq h.1 (fun k _ _ => e k (by omega)) rfl, zCRs_eq h.2.1 (fun k _ _ => e k (by omega)) rfl, zCRm_eq h.2.2.1 (fun k _ _ => e k (by omega)) (fun _ _ _ => rfl) rfl rfl, zCRl_eq h.2.2.2.1 (fun k _ _ => e k (by omega)) (fun _ _ _ => rfl), zCRe_eq h.2.2.2.2.1 (fun k _ _ => e k (by omega)) (fun _ _ _ => rfl), zCRv_eq h.2.2.2.2.2 (fun k _ _ => e k (by omega)) hr (fun _ _ _ => rfl) rfl⟩
theorem zwk_congr {C C1 D D1 M M1 f : Int → Int} {d s : Int} {n : Nat} (hC : ∀ l : Int, 0 ≤ l → l < n → C l = C1 l) (hD : ∀ l : Int, 0 ≤ l → l < n → D l = D1 l) (hM : ∀ l : Int, 0 ≤ l → l < n → M l = M1 l) : zwk C D M f d s n = zwk C1 D1 M1 f d s n :=
  zsum_congr n (fun l l0 l1 => by rw [hC l l0 l1, hD l l0 l1, hM l l0 l1])
theorem zbI_congr {Q Q1 : Int → Int → Int} {D D1 : Int → Int} {pr : Int → Int → Prop} {a b c : Int} (h : zbI Q D pr a b c) (hQ : ∀ l s, pr l s → Q l s = Q1 l s) (hD : ∀ l s, pr l s → D l = D1 l) : zbI Q1 D1 pr a b c := by
  obtain ⟨⟨l, s, hp, h1, h2, h3⟩, hm⟩ := h
  refine ⟨⟨l, s, hp, by rw [h1, hQ l s hp], by rw [h2, hD l s hp], h3⟩, fun l s hp => ?_⟩
  rw [← hQ l s hp, ← hD l s hp]
  exact hm l s hp
theorem zbI0_zwr {σ σ1 μ : fnMem} {N Ea : Int} {L : Nat} (hL : μ 0 18 = L) (h0 : 0 < L) (hC : ∀ l : Int, 0 ≤ l → l < L → σ 48 l = zcrs μ l) (hD : ∀ l : Int, 0 ≤ l → l < L → σ 37 l = μ 16 l) (hM : ∀ l : Int, 0 ≤ l → l < L → σ 40 l = μ 19 l) (h : zbI0 (zq (σ 48) (σ 37) (σ 40) L N Ea) (σ 37) (zpr L 320) σ1) : zwr μ N Ea = (σ1 47 3, σ1 47 1, σ1 47 2) := by
  have hn : zLn μ = L := by unfold zLn; omega
  rcases h with ⟨-, h⟩ | h
  · exact absurd (show zpr L 320 0 0 by unfold zpr; omega) (h 0 0)
  · refine zwr_eq ?_
    rw [hn]
    refine zbI_congr h (fun l s hp => ?_) (fun l s hp => hD l hp.1 hp.2.1)
    unfold zwQ zq
    rw [hn, zwk_congr hC hD hM, zwk_congr hC hD hM, hD l hp.1 hp.2.1]
theorem zLn_eq {μ : fnMem} {L : Nat} (hL : μ 0 18 = L) : zLn μ = L := by unfold zLn; omega
theorem zm_eq (μ : fnMem) : (zm μ : Int) = znS μ (zLn μ) := by
  have := znS_le μ (zLn μ)
  unfold zm
  omega
theorem zspl_in {μ : fnMem} (hW : zWF μ) : 0 ≤ (zspl μ).1 ∧ (zspl μ).1 ≤ zm μ ∧ 0 ≤ (zspl μ).2 ∧ (zspl μ).2 ≤ 320000000 := by
  have x1 := hW.2.2.2.2.2.1
  have h1 := znS_le μ (zLn μ)
  have h2 := zm_eq μ
  have h3 : (zLn μ : Int) = μ 0 18 := by unfold zLn; omega
  exact zsp_le (by omega) (fun j j0 j1 => zRS_in hW (zLn μ) (by omega) j j0 (by omega)) (zm μ) (Nat.le_refl _)

set_option maxHeartbeats 4000000 in
set_option maxRecDepth 20000 in
theorem c_X10_findSplit (E : fnE) (σ μ : fnMem) (hC : zCR σ μ) (hW : zWF μ)  : fnOk E mX10_findSplit [.ref 0] σ (fnQv (fun s => fnFr [10, 43, 44, 45, 46] σ s ∧ s 43 3 = zm μ ∧ (∀ j : Int, 0 ≤ j → j < zm μ → s 45 j = zRS μ (zLn μ) j) ∧ (∀ j : Int, 0 ≤ j → j < zm μ → s 44 j = zNL μ (zLn μ) j) ∧ s 43 4 = (zspl μ).1 ∧ s 43 5 = (zspl μ).2)) := by
  refine fnOk.of [.ref 0, .null] rfl (by decide +kernel) rfl (fun V hV hR => ?_)
  replace hV : fnCx E RX10 cX10_findSplit 2 5 118 V := hV
  replace hR : fnRt cX10_findSplit none _ V := hR
  obtain ⟨v1, v2, v3, v4, v5, v6, v7, v8⟩ := hC.2.2.2.2.2
  obtain ⟨x1, x2, x3, x4, x5, x6, x7, x8⟩ := hW.2.2.2.2.2
  obtain ⟨L, hL, hL4⟩ := hW.L
  have hLn := zLn_eq hL
  refine fn_aload_0 hV dX10_findSplit_0 ?_
  refine fn_getR hV dX10_findSplit_1 fl_X10_59 fr_0_7 ?_
  refine fn_iconst hV dX10_findSplit_4 ?_
  refine fn_putIz hV 3 dX10_findSplit_5 fp_X10_324 fi_43_3 rfl ?_
  refine fn_iconst hV dX10_findSplit_8 ?_
  refine fn_istore_1 hV dX10_findSplit_9 rfl rfl ?_
  have L : ∀ k : Nat, k ≤ L → ∀ (i : Int) (σ1 : fnMem), True → (i = k) → (fnFr [10, 43, 44, 45, 46] σ σ1) → (σ1 43 3 = znS μ k) → (∀ j : Int, 0 ≤ j → j < znS μ k → σ1 45 j = zRS μ k j) → (∀ j : Int, 0 ≤ j → j < znS μ k → σ1 44 j = zNL μ k j) → V 10 [.ref 0, zI i] [] σ1 := by
    refine fn_rec (fun k hk ihL => ?_)
    intro i σ1 _ hi gF g3 g45 g44
    refine fn_iload_1 hV dX10_findSplit_10 ?_
    refine fn_aload_0 hV dX10_findSplit_11 ?_
    refine fn_getR hV dX10_findSplit_12 fl_X10_52 fr_0_6 ?_
    refine fn_getIz hV 6 dX10_findSplit_15 fl_X10_283 fi_36_6 rfl ?_
    have e36 : σ1 36 6 = L := by rw [gF 36 (by decide), v1, hL]
    have hC1 : zCR σ1 μ := zCR_fr hC (gF.mono (by decide))
    refine fn_icmp_ge hV (by omega) (by omega) dX10_findSplit_18 (fun q18 => ?_) (fun q18 => ?_)
    · have hk : k = zLn μ := by omega
      have n2 := znS_le μ (zLn μ)
      have hmm := zm_eq μ
      have n1 := znS_le μ k
      have hR1 : ∀ j : Int, 0 ≤ j → j < zm μ → σ1 45 j = zRS μ (zLn μ) j := fun j j0 j1 => by rw [← hk]; exact g45 j j0 (by rw [hk]; omega)
      refine fn_aload_0 hV dX10_findSplit_55 ?_
      refine fn_getR hV dX10_findSplit_56 fl_X10_59 fr_0_7 ?_
      refine fn_cV0Q hV (c_X5_find E _ (zm μ) (by rw [g3, hk]; exact hmm.symm) (by omega) (fun j j0 j1 => by rw [hR1 j j0 j1]; exact zRS_in hW (zLn μ) (by omega) j j0 (by omega))) mv_X5_find lk_X10_389 dX10_findSplit_59 sh_43 rfl ⟨rfl, rfl⟩ rfl (fun σ3 hp => ?_)
      obtain ⟨fF, fk, f4, f5⟩ := hp
      exact fn_vret hR dX10_findSplit_62 (fnQv.mk ⟨gF.tr (fF.mono (by decide)), by rw [fk 3 (by decide) (by decide), g3, hk]; exact hmm.symm, fun j j0 j1 => by rw [fF 45 (by decide)]; exact hR1 j j0 j1, fun j j0 j1 => by rw [fF 44 (by decide), ← hk]; exact g44 j j0 (by rw [hk]; omega), by rw [f4]; unfold zspl; rw [zsp_congr hR1 _ (Nat.le_refl _)], by rw [f5]; unfold zspl; rw [zsp_congr hR1 _ (Nat.le_refl _)]⟩)
    · have y2 := v2 i (by omega) (by omega)
      have y3 := v3 i (by omega) (by omega)
      have y4 := v4 i (by omega) (by omega)
      have y5 := v5 i (by omega) (by omega)
      have y6 := v6 i (by omega) (by omega)
      have y7 := v7 i (by omega) (by omega)
      have z2 := x2 i (by omega) (by omega)
      have z3 := x3 i (by omega) (by omega)
      have z4 := x4 i (by omega) (by omega)
      have z5 := x5 i (by omega) (by omega)
      have z6 := x6 i (by omega) (by omega)
      have z7 := x7 i (by omega) (by omega)
      have e42 : σ1 42 i = μ 21 i := by rw [gF 42 (by decide)]; exact y7
      have n1 := znS_le μ k
      refine fn_aload_0 hV dX10_findSplit_21 ?_
      refine fn_getR hV dX10_findSplit_22 fl_X10_52 fr_0_6 ?_
      refine fn_getR hV dX10_findSplit_25 fl_X10_306 fr_36_5 ?_
      refine fn_iload_1 hV dX10_findSplit_28 ?_
      refine fn_iald hV dX10_findSplit_29 ar_42 (by omega) (by omega) ?_
      refine fn_sipush hV dX10_findSplit_30 rfl ?_
      refine fn_icmp_eq hV (by omega) (by omega) dX10_findSplit_33 (fun q33 => ?_) (fun q33 => ?_)
      · refine fn_iinc_1 hV dX10_findSplit_49 rfl rfl ?_
        refine fn_goto hV dX10_findSplit_52 ?_
        exact ihL (k + 1) (by omega) (by omega) _ _ trivial (by omega) gF (by rw [znS_s, ← hi, if_neg (by omega), g3]; omega) (fun j j0 j1 => by rw [znS_s, ← hi, if_neg (by omega)] at j1; rw [zRS_s, ← hi, if_neg (by omega)]; exact g45 j j0 (by omega)) (fun j j0 j1 => by rw [znS_s, ← hi, if_neg (by omega)] at j1; rw [zNL_s, ← hi, if_neg (by omega)]; exact g44 j j0 (by omega))
      · refine fn_aload_0 hV dX10_findSplit_36 ?_
        refine fn_getR hV dX10_findSplit_37 fl_X10_59 fr_0_7 ?_
        refine fn_iload_1 hV dX10_findSplit_40 ?_
        refine fn_aload_0 hV dX10_findSplit_41 ?_
        refine fn_iload_1 hV dX10_findSplit_42 ?_
        refine fn_cV1I hV (c_X10_sunRestOf E _ μ hC1 hW _ (by omega)) mv_X10_sunRestOf lk_X10_312 dX10_findSplit_43 sh_0 rfl ⟨rfl, rfl⟩ rfl (fun z σ2 hp => ?_)
        obtain ⟨rfl, cF⟩ := hp
        have m2 : σ2 43 3 = znS μ k := by rw [cF 43 (by decide)]; exact g3
        have e45 : σ2 45 = σ1 45 := cF 45 (by decide)
        have e44 : σ2 44 = σ1 44 := cF 44 (by decide)
        refine fn_cV2v hV (c_X5_add E _ _ _ _ m2 (by omega)) mv_X5_add lk_X10_387 dX10_findSplit_46 sh_43 rfl ⟨rfl, rfl⟩ rfl ?_
        refine fn_iinc_1 hV dX10_findSplit_49 rfl rfl ?_
        refine fn_goto hV dX10_findSplit_52 ?_
        exact ihL (k + 1) (by omega) (by omega) _ _ trivial (by omega) ((((gF.tr (cF.mono (by decide))).up (by decide)).up (by decide)).up (by decide)) (by rw [fnUp_at, znS_s, ← hi, if_pos (by omega)]) (fun j j0 j1 => by
        rw [znS_s, ← hi, if_pos (by omega)] at j1
        rw [zRS_s, ← hi, if_pos (by omega), fnUp_ne _ _ _ (by decide), fnUp_ap, fnUp_ne _ _ _ (by decide), e45]
        unfold zset
        split
        · rfl
        · exact g45 j j0 (by omega)) (fun j j0 j1 => by
        rw [znS_s, ← hi, if_pos (by omega)] at j1
        rw [zNL_s, ← hi, if_pos (by omega), fnUp_ne _ _ _ (by decide), fnUp_ne _ _ _ (by decide), fnUp_ap, e44]
        unfold zset
        split
        · rfl
        · exact g44 j j0 (by omega))
  exact L 0 (by omega) _ _ trivial (by omega) (fnFr.rf.up (by decide)) (fnUp_at _ _ _ _) (fun j j0 j1 => by have := (znS_le μ 0).2; omega) (fun j j0 j1 => by have := (znS_le μ 0).2; omega)

set_option maxHeartbeats 4000000 in
set_option maxRecDepth 20000 in
theorem c_X10_split (E : fnE) (σ μ : fnMem) (hC : zCR σ μ) (hW : zWF μ)  : fnOk E mX10_split [.ref 0] σ (fnQI (zXP (S_split μ) (μ) σ)) := by
  refine fnOk.of [.ref 0] rfl (by decide +kernel) rfl (fun V hV hR => ?_)
  replace hV : fnCx E RX10 cX10_split 1 6 139 V := hV
  replace hR : fnRt cX10_split (some .int) _ V := hR
  refine fn_aload_0 hV dX10_split_0 ?_
  refine fn_cV0Q hV (c_X10_findSplit E _ μ hC hW) mv_X10_findSplit lk_X10_321 dX10_split_1 sh_0 rfl ⟨rfl, rfl⟩ rfl (fun σ1 hp => ?_)
  obtain ⟨sF, s3, s45, s44, s4, s5⟩ := hp
  have hin := zspl_in hW
  have x1 := hW.2.2.2.2.2.1
  have n1 := znS_le μ (zLn μ)
  have hmm := zm_eq μ
  have h3 : (zLn μ : Int) = μ 0 18 := by unfold zLn; omega
  refine fn_aload_0 hV dX10_split_4 ?_
  refine fn_getR hV dX10_split_5 fl_X10_59 fr_0_7 ?_
  refine fn_getIz hV 3 dX10_split_8 fl_X10_324 fi_43_3 rfl ?_
  refine fn_if_ne hV (by omega) dX10_split_11 (fun q11 => ?_) (fun q11 => ?_)
  · refine fn_aload_0 hV dX10_split_20 ?_
    refine fn_getR hV dX10_split_21 fl_X10_59 fr_0_7 ?_
    refine fn_getIz hV 4 dX10_split_24 fl_X10_325 fi_43_4 rfl ?_
    exact fn_iret hR dX10_split_27 (zXP.fr hC (sF.mono (by decide)) (by unfold S_split; first | (rw [if_pos (by omega)]; done) | (rw [if_neg (by omega)]; exact s4)))
  · refine fn_sipush hV dX10_split_14 rfl ?_
    refine fn_goto hV dX10_split_17 ?_
    exact fn_iret hR dX10_split_27 (zXP.fr hC (sF.mono (by decide)) (by unfold S_split; first | (rw [if_pos (by omega)]; done) | (rw [if_neg (by omega)]; exact s4)))

set_option maxHeartbeats 4000000 in
set_option maxRecDepth 20000 in
theorem c_X10_splitCost (E : fnE) (σ μ : fnMem) (hC : zCR σ μ) (hW : zWF μ)  : fnOk E mX10_splitCost [.ref 0] σ (fnQI (zXP (S_splitCost μ) (μ) σ)) := by
  refine fnOk.of [.ref 0] rfl (by decide +kernel) rfl (fun V hV hR => ?_)
  replace hV : fnCx E RX10 cX10_splitCost 1 6 139 V := hV
  replace hR : fnRt cX10_splitCost (some .int) _ V := hR
  refine fn_aload_0 hV dX10_splitCost_0 ?_
  refine fn_cV0Q hV (c_X10_findSplit E _ μ hC hW) mv_X10_findSplit lk_X10_321 dX10_splitCost_1 sh_0 rfl ⟨rfl, rfl⟩ rfl (fun σ1 hp => ?_)
  obtain ⟨sF, s3, s45, s44, s4, s5⟩ := hp
  have hin := zspl_in hW
  have x1 := hW.2.2.2.2.2.1
  have n1 := znS_le μ (zLn μ)
  have hmm := zm_eq μ
  have h3 : (zLn μ : Int) = μ 0 18 := by unfold zLn; omega
  refine fn_aload_0 hV dX10_splitCost_4 ?_
  refine fn_getR hV dX10_splitCost_5 fl_X10_59 fr_0_7 ?_
  refine fn_getIz hV 3 dX10_splitCost_8 fl_X10_324 fi_43_3 rfl ?_
  refine fn_if_ne hV (by omega) dX10_splitCost_11 (fun q11 => ?_) (fun q11 => ?_)
  · refine fn_aload_0 hV dX10_splitCost_20 ?_
    refine fn_getR hV dX10_splitCost_21 fl_X10_59 fr_0_7 ?_
    refine fn_getIz hV 5 dX10_splitCost_24 fl_X10_328 fi_43_5 rfl ?_
    exact fn_iret hR dX10_splitCost_27 (zXP.fr hC (sF.mono (by decide)) (by unfold S_splitCost; first | (rw [if_pos (by omega)]; done) | (rw [if_neg (by omega)]; exact s5)))
  · refine fn_sipush hV dX10_splitCost_14 rfl ?_
    refine fn_goto hV dX10_splitCost_17 ?_
    exact fn_iret hR dX10_splitCost_27 (zXP.fr hC (sF.mono (by decide)) (by unfold S_splitCost; first | (rw [if_pos (by omega)]; done) | (rw [if_neg (by omega)]; exact s5)))

set_option maxHeartbeats 4000000 in
set_option maxRecDepth 20000 in
theorem c_X10_jump (E : fnE) (σ μ : fnMem) (hC : zCR σ μ) (hW : zWF μ) (w : Int) (h_w : fnR w) : fnOk E mX10_jump [.ref 0, zI w] σ (fnQI (zXP (S_jump μ w) (μ) σ)) := by
  refine fnOk.of [.ref 0, zI w] rfl (by decide +kernel) rfl (fun V hV hR => ?_)
  replace hV : fnCx E RX10 cX10_jump 2 6 139 V := hV
  replace hR : fnRt cX10_jump (some .int) _ V := hR
  refine fn_iload_1 hV dX10_jump_0 ?_
  refine fn_iconst hV dX10_jump_1 ?_
  refine fn_iconst hV dX10_jump_2 ?_
  refine fn_cS3 hV (c_X10_within E _ _ _ _ (by omega) (by omega) (by omega)) ms_X10_within lk_X10_106 dX10_jump_3 ⟨rfl, rfl⟩ rfl ?_
  refine fn_ifneb hV dX10_jump_6 (fun q6 => ?_) (fun q6 => ?_)
  · refine fn_aload_0 hV dX10_jump_13 ?_
    refine fn_cV0Q hV (c_X10_findSplit E _ μ hC hW) mv_X10_findSplit lk_X10_321 dX10_jump_14 sh_0 rfl ⟨rfl, rfl⟩ rfl (fun σ1 hp => ?_)
    obtain ⟨sF, s3, s45, s44, s4, s5⟩ := hp
    have hin := zspl_in hW
    have x1 := hW.2.2.2.2.2.1
    have n1 := znS_le μ (zLn μ)
    have hmm := zm_eq μ
    have h3 : (zLn μ : Int) = μ 0 18 := by unfold zLn; omega
    refine fn_aload_0 hV dX10_jump_17 ?_
    refine fn_getR hV dX10_jump_18 fl_X10_59 fr_0_7 ?_
    refine fn_cV0 hV (c_X5_isOnBothSides E _ (by omega) (by omega)) mv_X5_isOnBothSides lk_X10_331 dX10_jump_21 sh_43 rfl ⟨rfl, rfl⟩ rfl ?_
    refine fn_ifneb hV dX10_jump_24 (fun q24 => ?_) (fun q24 => ?_)
    · obtain ⟨f, hf⟩ : ∃ f : Nat, (zspl μ).1 = f := ⟨(zspl μ).1.toNat, by omega⟩
      refine fn_iload_1 hV dX10_jump_31 ?_
      by_cases w32_0 : w = 0
      · refine fn_lsw (tgt := 60) (off := 28) hV dX10_jump_32 (by omega) rfl (by rw [w32_0]; rfl) (by decide) ?_
        have hB : ∀ j : Int, 0 ≤ j → j < zm μ → -2000000 ≤ σ1 45 j ∧ σ1 45 j ≤ 2000000 := fun j j0 j1 => by rw [s45 j j0 j1]; exact zRS_in hW (zLn μ) (by omega) j j0 (by omega)
        refine fn_aload_0 hV dX10_jump_60 ?_
        refine fn_getR hV dX10_jump_61 fl_X10_59 fr_0_7 ?_
        refine fn_cV0I hV (c_X5_jumpBetween E _ (zm μ) f s3 (by omega) (by omega) (by omega) hB) mv_X5_jumpBetween lk_X10_335 dX10_jump_64 sh_43 rfl ⟨rfl, rfl⟩ rfl (fun z σ2 hp => ?_)
        obtain ⟨rfl, jF⟩ := hp
        exact fn_iret hR dX10_jump_67 (zXP.fr hC ((sF.mono (by decide)).tr (jF.mono (by decide))) (by unfold S_jump; rw [if_neg (by omega), if_neg (by omega), if_pos (by omega), hf, Int.toNat_natCast, zmid_congr (R := σ1 45) (S := zRS μ (zLn μ)) (fun j j0 j1 => s45 j (by omega) (by omega)), zmid_congr (R := σ1 45) (S := zRS μ (zLn μ)) (a := 0) (fun j j0 j1 => s45 j (by omega) (by omega))]))
      by_cases w32_1 : w = 1
      · refine fn_lsw (tgt := 68) (off := 36) hV dX10_jump_32 (by omega) rfl (by rw [w32_1]; rfl) (by decide) ?_
        have e37 : ∀ l : Int, 0 ≤ l → l < μ 0 18 → σ1 37 l = μ 16 l := fun l l0 l1 => by rw [sF 37 (by decide)]; exact hC.2.2.2.2.2.2.1 l l0 l1
        have i1 := zNL_in μ (zLn μ) (f - 1) (by omega) (by omega)
        have i2 := s44 (f - 1) (by omega) (by omega)
        rw [← hf, ← s4] at i1 i2
        refine fn_aload_0 hV dX10_jump_68 ?_
        refine fn_getR hV dX10_jump_69 fl_X10_52 fr_0_6 ?_
        refine fn_getR hV dX10_jump_72 fl_X10_291 fr_36_0 ?_
        refine fn_aload_0 hV dX10_jump_75 ?_
        refine fn_getR hV dX10_jump_76 fl_X10_59 fr_0_7 ?_
        refine fn_getR hV dX10_jump_79 fl_X10_338 fr_43_0 ?_
        refine fn_aload_0 hV dX10_jump_82 ?_
        refine fn_getR hV dX10_jump_83 fl_X10_59 fr_0_7 ?_
        refine fn_getIz hV 4 dX10_jump_86 fl_X10_325 fi_43_4 rfl ?_
        refine fn_iconst hV dX10_jump_89 ?_
        refine fn_isub hV dX10_jump_90 ?_
        refine fn_iald hV dX10_jump_91 ar_44 (by omega) (by omega) ?_
        refine fn_iald hV dX10_jump_92 ar_37 (by omega) (by omega) ?_
        exact fn_iret hR dX10_jump_93 (zXP.fr hC (sF.mono (by decide)) (by unfold S_jump; rw [if_neg (by omega), if_neg (by omega), if_neg (by omega), if_pos (by omega), ← s4, ← i2]; exact e37 _ (by omega) (by omega)))
      refine fn_lsw (tgt := 94) (off := 62) hV dX10_jump_32 (by omega) rfl (by rw [show w = 2 by omega]; rfl) (by decide) ?_
      have e37 : ∀ l : Int, 0 ≤ l → l < μ 0 18 → σ1 37 l = μ 16 l := fun l l0 l1 => by rw [sF 37 (by decide)]; exact hC.2.2.2.2.2.2.1 l l0 l1
      have i1 := zNL_in μ (zLn μ) f (by omega) (by omega)
      have i2 := s44 f (by omega) (by omega)
      rw [← hf, ← s4] at i1 i2
      refine fn_aload_0 hV dX10_jump_94 ?_
      refine fn_getR hV dX10_jump_95 fl_X10_52 fr_0_6 ?_
      refine fn_getR hV dX10_jump_98 fl_X10_291 fr_36_0 ?_
      refine fn_aload_0 hV dX10_jump_101 ?_
      refine fn_getR hV dX10_jump_102 fl_X10_59 fr_0_7 ?_
      refine fn_getR hV dX10_jump_105 fl_X10_338 fr_43_0 ?_
      refine fn_aload_0 hV dX10_jump_108 ?_
      refine fn_getR hV dX10_jump_109 fl_X10_59 fr_0_7 ?_
      refine fn_getIz hV 4 dX10_jump_112 fl_X10_325 fi_43_4 rfl ?_
      refine fn_iald hV dX10_jump_115 ar_44 (by omega) (by omega) ?_
      refine fn_iald hV dX10_jump_116 ar_37 (by omega) (by omega) ?_
      exact fn_iret hR dX10_jump_117 (zXP.fr hC (sF.mono (by decide)) (by unfold S_jump; rw [if_neg (by omega), if_neg (by omega), if_neg (by omega), if_neg (by omega), ← s4, ← i2]; exact e37 _ (by omega) (by omega)))
    · refine fn_sipush hV dX10_jump_27 rfl ?_
      exact fn_iret hR dX10_jump_30 (zXP.fr hC (sF.mono (by decide)) (by unfold S_jump; rw [if_neg (by omega), if_pos (by omega)]))
  · refine fn_sipush hV dX10_jump_9 rfl ?_
    exact fn_iret hR dX10_jump_12 (zXP.rf hC (by unfold S_jump; rw [if_pos (by omega)]))

set_option maxHeartbeats 4000000 in
set_option maxRecDepth 20000 in
theorem c_X10_firstApart (E : fnE) (σ μ : fnMem) (hC : zCR σ μ) (hW : zWF μ) (lim : Int) (h_lim : fnR lim) : fnOk E mX10_firstApart [.ref 0, zI lim] σ (fnQI (zXP (S_firstApart μ lim) (μ) σ)) := by
  refine fnOk.of [.ref 0, zI lim, .null] rfl (by decide +kernel) rfl (fun V hV hR => ?_)
  replace hV : fnCx E RX10 cX10_firstApart 3 7 160 V := hV
  replace hR : fnRt cX10_firstApart (some .int) _ V := hR
  obtain ⟨v1, v2, v3, v4, v5, v6, v7, v8⟩ := hC.2.2.2.2.2
  obtain ⟨x1, x2, x3, x4, x5, x6, x7, x8⟩ := hW.2.2.2.2.2
  obtain ⟨L, hL, hL4⟩ := hW.L
  have hLn := zLn_eq hL
  refine fn_iload_1 hV dX10_firstApart_0 ?_
  refine fn_iconst hV dX10_firstApart_1 ?_
  refine fn_sipush hV dX10_firstApart_2 rfl ?_
  refine fn_cS3 hV (c_X10_within E _ _ _ _ (by omega) (by omega) (by omega)) ms_X10_within lk_X10_106 dX10_firstApart_5 ⟨rfl, rfl⟩ rfl ?_
  refine fn_ifneb hV dX10_firstApart_8 (fun q8 => ?_) (fun q8 => ?_)
  · refine fn_iconst hV dX10_firstApart_15 ?_
    refine fn_istore_2 hV dX10_firstApart_16 rfl rfl ?_
    have L : ∀ k : Nat, k ≤ L → ∀ (i : Int) (σ1 : fnMem), True → (i = k) → (fnFr [10] σ σ1) → (zfa μ lim k = -2009) → V 17 [.ref 0, zI lim, zI i] [] σ1 := by
      refine fn_rec (fun k hk ihL => ?_)
      intro i σ1 _ hi gF gn
      refine fn_iload_2 hV dX10_firstApart_17 ?_
      refine fn_aload_0 hV dX10_firstApart_18 ?_
      refine fn_getR hV dX10_firstApart_19 fl_X10_52 fr_0_6 ?_
      refine fn_getIz hV 6 dX10_firstApart_22 fl_X10_283 fi_36_6 rfl ?_
      have e36 : σ1 36 6 = L := by rw [gF 36 (by decide), v1, hL]
      have hC1 : zCR σ1 μ := zCR_fr hC (gF.mono (by decide))
      refine fn_icmp_ge hV (by omega) (by omega) dX10_firstApart_25 (fun q25 => ?_) (fun q25 => ?_)
      · refine fn_sipush hV dX10_firstApart_63 rfl ?_
        exact fn_iret hR dX10_firstApart_66 (zXP.fr hC (gF.mono (by decide)) (by unfold S_firstApart; rw [if_neg (by omega), hLn, ← show k = L by omega, gn]))
      · have y2 := v2 i (by omega) (by omega)
        have y3 := v3 i (by omega) (by omega)
        have y4 := v4 i (by omega) (by omega)
        have y5 := v5 i (by omega) (by omega)
        have y6 := v6 i (by omega) (by omega)
        have y7 := v7 i (by omega) (by omega)
        have z2 := x2 i (by omega) (by omega)
        have z3 := x3 i (by omega) (by omega)
        have z4 := x4 i (by omega) (by omega)
        have z5 := x5 i (by omega) (by omega)
        have z6 := x6 i (by omega) (by omega)
        have z7 := x7 i (by omega) (by omega)
        have e41 : σ1 41 i = μ 20 i := by rw [gF 41 (by decide)]; exact y6
        have w1 : -1600 ≤ zapw μ i ∧ zapw μ i ≤ 1599 := zway_in _ _
        have w2 : 0 ≤ zabs (zapw μ i) ∧ zabs (zapw μ i) ≤ 1600 := zwa_in _ _
        refine fn_aload_0 hV dX10_firstApart_28 ?_
        refine fn_getR hV dX10_firstApart_29 fl_X10_52 fr_0_6 ?_
        refine fn_getR hV dX10_firstApart_32 fl_X10_303 fr_36_4 ?_
        refine fn_iload_2 hV dX10_firstApart_35 ?_
        refine fn_iald hV dX10_firstApart_36 ar_41 (by omega) (by omega) ?_
        refine fn_sipush hV dX10_firstApart_37 rfl ?_
        refine fn_icmp_eq hV (by omega) (by omega) dX10_firstApart_40 (fun q40 => ?_) (fun q40 => ?_)
        · refine fn_iinc_2 hV dX10_firstApart_57 rfl rfl ?_
          refine fn_goto hV dX10_firstApart_60 ?_
          exact ihL (k + 1) (by omega) (by omega) _ _ trivial (by omega) gF (by rw [zfa_s, if_neg (by omega), ← hi, if_neg (by omega)])
        · refine fn_aload_0 hV dX10_firstApart_43 ?_
          refine fn_iload_2 hV dX10_firstApart_44 ?_
          refine fn_cV1I hV (c_X10_waysApart E _ μ hC1 hW _ (by omega) (by omega)) mv_X10_waysApart lk_X10_315 dX10_firstApart_45 sh_0 rfl ⟨rfl, rfl⟩ rfl (fun z σ2 hp => ?_)
          obtain ⟨rfl, cF⟩ := hp
          refine fn_cS1 hV (c_J9_abs_0f7a4 E _ _ (by omega)) ms_J9_abs_0f7a4 lk_X10_135 dX10_firstApart_48 ⟨rfl, rfl⟩ rfl ?_
          refine fn_iload_1 hV dX10_firstApart_51 ?_
          refine fn_icmp_le hV (by omega) (by omega) dX10_firstApart_52 (fun q52 => ?_) (fun q52 => ?_)
          · refine fn_iinc_2 hV dX10_firstApart_57 rfl rfl ?_
            refine fn_goto hV dX10_firstApart_60 ?_
            exact ihL (k + 1) (by omega) (by omega) _ _ trivial (by omega) (gF.tr cF) (by rw [zfa_s, if_neg (by omega), ← hi, if_neg (by omega)])
          · refine fn_iload_2 hV dX10_firstApart_55 ?_
            exact fn_iret hR dX10_firstApart_56 (zXP.fr hC ((gF.tr cF).mono (by decide)) (by
        have h1 : zfa μ lim (k + 1) = i := by rw [zfa_s, if_neg (by omega), ← hi, if_pos (by omega)]
        unfold S_firstApart
        rw [if_neg (by omega), zfa_stay (n := k + 1) (by omega) (zLn μ) (by omega), h1]))
    exact L 0 (by omega) _ _ trivial (by omega) fnFr.rf rfl
  · refine fn_sipush hV dX10_firstApart_11 rfl ?_
    exact fn_iret hR dX10_firstApart_14 (zXP.rf hC (by unfold S_firstApart; rw [if_pos (by omega)]))

set_option maxHeartbeats 4000000 in
set_option maxRecDepth 20000 in
theorem c_X10_nearer (E : fnE) (σ μ : fnMem) (hC : zCR σ μ) (hW : zWF μ) (l : Int) (h_l : fnR l) : fnOk E mX10_nearer [.ref 0, zI l] σ (fnQI (zXP (S_nearer μ l) (μ) σ)) := by
  refine fnOk.of [.ref 0, zI l, .null, .null, .null] rfl (by decide +kernel) rfl (fun V hV hR => ?_)
  replace hV : fnCx E RX10 cX10_nearer 5 6 139 V := hV
  replace hR : fnRt cX10_nearer (some .int) _ V := hR
  obtain ⟨v1, v2, v3, v4, v5, v6, v7, v8⟩ := hC.2.2.2.2.2
  obtain ⟨x1, x2, x3, x4, x5, x6, x7, x8⟩ := hW.2.2.2.2.2
  refine fn_aload_0 hV dX10_nearer_0 ?_
  refine fn_iload_1 hV dX10_nearer_1 ?_
  refine fn_cV1 hV (c_X10_isLeg E _ _ (by omega) (by omega)) mv_X10_isLeg lk_X10_288 dX10_nearer_2 sh_0 rfl ⟨rfl, rfl⟩ rfl ?_
  refine fn_ifneb hV dX10_nearer_5 (fun q5 => ?_) (fun q5 => ?_)
  · have y2 := v2 l (by omega) (by omega)
    have y3 := v3 l (by omega) (by omega)
    have y4 := v4 l (by omega) (by omega)
    have y5 := v5 l (by omega) (by omega)
    have y6 := v6 l (by omega) (by omega)
    have y7 := v7 l (by omega) (by omega)
    have z2 := x2 l (by omega) (by omega)
    have z3 := x3 l (by omega) (by omega)
    have z4 := x4 l (by omega) (by omega)
    have z5 := x5 l (by omega) (by omega)
    have z6 := x6 l (by omega) (by omega)
    have z7 := x7 l (by omega) (by omega)
    have w1 := zcrs_in μ l
    have w2 := zoth_in μ l
    have w3 := zway_in ((μ 17 l + μ 21 l) % 3200) (zcrs μ l)
    have w4 := zway_in ((μ 17 l + μ 21 l) % 3200) (zoth μ l)
    have w5 := zwa_in ((μ 17 l + μ 21 l) % 3200) (zcrs μ l)
    have w6 := zwa_in ((μ 17 l + μ 21 l) % 3200) (zoth μ l)
    refine fn_aload_0 hV dX10_nearer_12 ?_
    refine fn_getR hV dX10_nearer_13 fl_X10_52 fr_0_6 ?_
    refine fn_getR hV dX10_nearer_16 fl_X10_306 fr_36_5 ?_
    refine fn_iload_1 hV dX10_nearer_19 ?_
    refine fn_iald hV dX10_nearer_20 ar_42 (by omega) (by omega) ?_
    refine fn_sipush hV dX10_nearer_21 rfl ?_
    refine fn_icmp_eq hV (by omega) (by omega) dX10_nearer_24 (fun q24 => ?_) (fun q24 => ?_)
    · refine fn_sipush hV dX10_nearer_42 rfl ?_
      exact fn_iret hR dX10_nearer_45 (zXP.rf hC (by unfold S_nearer; rw [if_neg (by omega), if_pos (by omega)]))
    · refine fn_aload_0 hV dX10_nearer_27 ?_
      refine fn_getR hV dX10_nearer_28 fl_X10_52 fr_0_6 ?_
      refine fn_getR hV dX10_nearer_31 fl_X10_303 fr_36_4 ?_
      refine fn_iload_1 hV dX10_nearer_34 ?_
      refine fn_iald hV dX10_nearer_35 ar_41 (by omega) (by omega) ?_
      refine fn_sipush hV dX10_nearer_36 rfl ?_
      refine fn_icmp_ne hV (by omega) (by omega) dX10_nearer_39 (fun q39 => ?_) (fun q39 => ?_)
      · refine fn_aload_0 hV dX10_nearer_46 ?_
        refine fn_getR hV dX10_nearer_47 fl_X10_52 fr_0_6 ?_
        refine fn_getR hV dX10_nearer_50 fl_X10_294 fr_36_1 ?_
        refine fn_iload_1 hV dX10_nearer_53 ?_
        refine fn_iald hV dX10_nearer_54 ar_38 (by omega) (by omega) ?_
        refine fn_aload_0 hV dX10_nearer_55 ?_
        refine fn_getR hV dX10_nearer_56 fl_X10_52 fr_0_6 ?_
        refine fn_getR hV dX10_nearer_59 fl_X10_306 fr_36_5 ?_
        refine fn_iload_1 hV dX10_nearer_62 ?_
        refine fn_iald hV dX10_nearer_63 ar_42 (by omega) (by omega) ?_
        refine fn_iadd hV dX10_nearer_64 ?_
        refine fn_sipush hV dX10_nearer_65 rfl ?_
        refine fn_cS2 hV (c_J9_floorMod_7cf53 E _ _ _ (by omega) (by omega) (by omega)) ms_J9_floorMod_7cf53 lk_X10_318 dX10_nearer_68 ⟨rfl, rfl⟩ rfl ?_
        rw [y3, y7]
        refine fn_istore_2 hV dX10_nearer_71 rfl rfl ?_
        refine fn_iload_2 hV dX10_nearer_72 ?_
        refine fn_aload_0 hV dX10_nearer_73 ?_
        refine fn_iload_1 hV dX10_nearer_74 ?_
        refine fn_cV1I hV (c_X10_courseOf E _ μ hC hW _ (by omega)) mv_X10_courseOf lk_X10_309 dX10_nearer_75 sh_0 rfl ⟨rfl, rfl⟩ rfl (fun z σ1 hp => ?_)
        obtain ⟨rfl, cF⟩ := hp
        have hC1 : zCR σ1 μ := zCR_fr hC (cF.mono (by decide))
        refine fn_cS2 hV (c_X8_wayFrom E _ _ _ (by omega) (by omega)) ms_X8_wayFrom lk_X10_96 dX10_nearer_78 ⟨rfl, rfl⟩ rfl ?_
        refine fn_cS1 hV (c_J9_abs_0f7a4 E _ _ (by omega)) ms_J9_abs_0f7a4 lk_X10_135 dX10_nearer_81 ⟨rfl, rfl⟩ rfl ?_
        refine fn_istore_3 hV dX10_nearer_84 rfl rfl ?_
        refine fn_iload_2 hV dX10_nearer_85 ?_
        refine fn_aload_0 hV dX10_nearer_86 ?_
        refine fn_iload_1 hV dX10_nearer_87 ?_
        refine fn_cV1 hV (c_X10_trueByOther E _ μ hC1 hW _ (by omega) (by omega)) mv_X10_trueByOther lk_X10_341 dX10_nearer_88 sh_0 rfl ⟨rfl, rfl⟩ rfl ?_
        refine fn_cS2 hV (c_X8_wayFrom E _ _ _ (by omega) (by omega)) ms_X8_wayFrom lk_X10_96 dX10_nearer_91 ⟨rfl, rfl⟩ rfl ?_
        refine fn_cS1 hV (c_J9_abs_0f7a4 E _ _ (by omega)) ms_J9_abs_0f7a4 lk_X10_135 dX10_nearer_94 ⟨rfl, rfl⟩ rfl ?_
        refine fn_istore_4 hV dX10_nearer_97 rfl rfl ?_
        refine fn_iload_3 hV dX10_nearer_99 ?_
        refine fn_iload_4 hV dX10_nearer_100 ?_
        refine fn_icmp_ne hV (by omega) (by omega) dX10_nearer_102 (fun q102 => ?_) (fun q102 => ?_)
        · refine fn_iload_3 hV dX10_nearer_107 ?_
          refine fn_iload_4 hV dX10_nearer_108 ?_
          refine fn_icmp_ge hV (by omega) (by omega) dX10_nearer_110 (fun q110 => ?_) (fun q110 => ?_)
          · refine fn_iconst hV dX10_nearer_117 ?_
            exact fn_iret hR dX10_nearer_118 (zXP.fr hC (cF.mono (by decide)) (by unfold S_nearer znr; rw [if_neg (by omega), if_neg (by omega), if_neg (by omega)]; first | (rw [if_pos (by omega)]; done) | (rw [if_neg (by omega)]; done)))
          · refine fn_iconst hV dX10_nearer_113 ?_
            refine fn_goto hV dX10_nearer_114 ?_
            exact fn_iret hR dX10_nearer_118 (zXP.fr hC (cF.mono (by decide)) (by unfold S_nearer znr; rw [if_neg (by omega), if_neg (by omega), if_neg (by omega)]; first | (rw [if_pos (by omega)]; done) | (rw [if_neg (by omega)]; done)))
        · refine fn_iconst hV dX10_nearer_105 ?_
          exact fn_iret hR dX10_nearer_106 (zXP.fr hC (cF.mono (by decide)) (by unfold S_nearer znr; rw [if_neg (by omega), if_neg (by omega), if_pos (by omega)]))
      · refine fn_sipush hV dX10_nearer_42 rfl ?_
        exact fn_iret hR dX10_nearer_45 (zXP.rf hC (by unfold S_nearer; rw [if_neg (by omega), if_pos (by omega)]))
  · refine fn_sipush hV dX10_nearer_8 rfl ?_
    exact fn_iret hR dX10_nearer_11 (zXP.rf hC (by unfold S_nearer; rw [if_pos (by omega)]))

set_option maxHeartbeats 4000000 in
set_option maxRecDepth 20000 in
theorem c_X10_wreck (E : fnE) (σ μ : fnMem) (hC : zCR σ μ) (hW : zWF μ) (N : Int) (h_N : fnR N) (Ea : Int) (h_Ea : fnR Ea) (w : Int) (h_w : fnR w) : fnOk E mX10_wreck [.ref 0, zI N, zI Ea, zI w] σ (fnQI (zXP (S_wreck μ N Ea w) (μ) σ)) := by
  refine fnOk.of [.ref 0, zI N, zI Ea, zI w, .null] rfl (by decide +kernel) rfl (fun V hV hR => ?_)
  replace hV : fnCx E RX10 cX10_wreck 5 6 144 V := hV
  replace hR : fnRt cX10_wreck (some .int) _ V := hR
  obtain ⟨v1, v2, v3, v4, v5, v6, v7, v8⟩ := hC.2.2.2.2.2
  obtain ⟨x1, x2, x3, x4, x5, x6, x7, x8⟩ := hW.2.2.2.2.2
  obtain ⟨L, hL, hL4⟩ := hW.L
  have hLn := zLn_eq hL
  refine fn_iload_1 hV dX10_wreck_0 ?_
  refine fn_sipush hV dX10_wreck_1 rfl ?_
  refine fn_sipush hV dX10_wreck_4 rfl ?_
  refine fn_cS3 hV (c_X10_within E _ _ _ _ (by omega) (by omega) (by omega)) ms_X10_within lk_X10_106 dX10_wreck_7 ⟨rfl, rfl⟩ rfl ?_
  refine fn_ifeqb hV dX10_wreck_10 (fun q10 => ?_) (fun q10 => ?_)
  · refine fn_sipush hV dX10_wreck_26 rfl ?_
    exact fn_iret hR dX10_wreck_29 (zXP.rf hC (by unfold S_wreck; rw [if_pos (by omega)]))
  · refine fn_iload_2 hV dX10_wreck_13 ?_
    refine fn_sipush hV dX10_wreck_14 rfl ?_
    refine fn_sipush hV dX10_wreck_17 rfl ?_
    refine fn_cS3 hV (c_X10_within E _ _ _ _ (by omega) (by omega) (by omega)) ms_X10_within lk_X10_106 dX10_wreck_20 ⟨rfl, rfl⟩ rfl ?_
    refine fn_ifneb hV dX10_wreck_23 (fun q23 => ?_) (fun q23 => ?_)
    · refine fn_iload_3 hV dX10_wreck_30 ?_
      refine fn_iconst hV dX10_wreck_31 ?_
      refine fn_iconst hV dX10_wreck_32 ?_
      refine fn_cS3 hV (c_X10_within E _ _ _ _ (by omega) (by omega) (by omega)) ms_X10_within lk_X10_106 dX10_wreck_33 ⟨rfl, rfl⟩ rfl ?_
      refine fn_ifneb hV dX10_wreck_36 (fun q36 => ?_) (fun q36 => ?_)
      · refine fn_aload_0 hV dX10_wreck_43 ?_
        refine fn_getR hV dX10_wreck_44 fl_X10_52 fr_0_6 ?_
        refine fn_getIz hV 6 dX10_wreck_47 fl_X10_283 fi_36_6 rfl ?_
        refine fn_if_ne hV (by omega) dX10_wreck_50 (fun q50 => ?_) (fun q50 => ?_)
        · refine fn_iconst hV dX10_wreck_57 ?_
          refine fn_istore_4 hV dX10_wreck_58 rfl rfl ?_
          have L : ∀ k : Nat, k ≤ L → ∀ (i : Int) (σ1 : fnMem), True → (i = k) → (fnFr [10, 48] σ σ1) → (∀ l : Int, 0 ≤ l → l < k → σ1 48 l = zcrs μ l) → V 60 [.ref 0, zI N, zI Ea, zI w, zI i] [] σ1 := by
            refine fn_rec (fun k hk ihL => ?_)
            intro i σ1 _ hi gF gv
            refine fn_iload_4 hV dX10_wreck_60 ?_
            refine fn_aload_0 hV dX10_wreck_62 ?_
            refine fn_getR hV dX10_wreck_63 fl_X10_52 fr_0_6 ?_
            refine fn_getIz hV 6 dX10_wreck_66 fl_X10_283 fi_36_6 rfl ?_
            have e36 : σ1 36 6 = L := by rw [gF 36 (by decide), v1, hL]
            have hC1 : zCR σ1 μ := zCR_fr hC (gF.mono (by decide))
            refine fn_icmp_ge hV (by omega) (by omega) dX10_wreck_69 (fun q69 => ?_) (fun q69 => ?_)
            · have hcc : ∀ l : Int, 0 ≤ l → l < L → σ1 48 l = zcrs μ l := fun l l0 l1 => gv l l0 (by omega)
              have e37 : ∀ l : Int, 0 ≤ l → l < L → σ1 37 l = μ 16 l := fun l l0 l1 => by rw [gF 37 (by decide)]; exact v2 l l0 (by omega)
              have e40 : ∀ l : Int, 0 ≤ l → l < L → σ1 40 l = μ 19 l := fun l l0 l1 => by rw [gF 40 (by decide)]; exact v5 l l0 (by omega)
              refine fn_aload_0 hV dX10_wreck_94 ?_
              refine fn_getR hV dX10_wreck_95 fl_X10_66 fr_0_8 ?_
              refine fn_aload_0 hV dX10_wreck_98 ?_
              refine fn_getR hV dX10_wreck_99 fl_X10_52 fr_0_6 ?_
              refine fn_iload_1 hV dX10_wreck_102 ?_
              refine fn_iload_2 hV dX10_wreck_103 ?_
              refine fn_cV3Q hV (c_X9_find E _ L (hC1.kLg hW hL) (fun i j i0 ij jL => by rw [e37 i (by omega) (by omega), e37 j (by omega) (by omega)]; exact x8 i j i0 ij (by omega)) (fun l l0 l1 => by rw [hcc l l0 l1]; exact zcrs_in μ l) _ _ (by omega) (by omega) hC1.2.2.2.2.2.2.2.2.2.2.2.2) mv_X9_find lk_X10_347 dX10_wreck_104 sh_47 rfl ⟨rfl, rfl⟩ rfl (fun σ3 hp => ?_)
              obtain ⟨wF, wr, wI⟩ := hp
              have hz := zbI0_zwr hL (by omega) hcc e37 e40 wI
              have hC3 := zCR_47 hC1 wF wr
              have hfr : ∀ k, 51 ≤ k → σ3 k = σ k := fun k hk => by rw [wF k (by simp; omega), gF k (by simp; omega)]
              refine fn_iload_3 hV dX10_wreck_107 ?_
              by_cases w108_0 : w = 0
              · refine fn_lsw (tgt := 136) (off := 28) hV dX10_wreck_108 (by omega) rfl (by rw [w108_0]; rfl) (by decide) ?_
                refine fn_aload_0 hV dX10_wreck_136 ?_
                refine fn_getR hV dX10_wreck_137 fl_X10_66 fr_0_8 ?_
                refine fn_getIz hV 1 dX10_wreck_140 fl_X10_350 fi_47_1 rfl ?_
                exact fn_iret hR dX10_wreck_143 (fnQI.mk ⟨by unfold S_wreck; rw [if_neg (by omega), if_neg (by omega), if_pos (by omega), hz], hC3, hfr⟩)
              by_cases w108_1 : w = 1
              · refine fn_lsw (tgt := 144) (off := 36) hV dX10_wreck_108 (by omega) rfl (by rw [w108_1]; rfl) (by decide) ?_
                refine fn_aload_0 hV dX10_wreck_144 ?_
                refine fn_getR hV dX10_wreck_145 fl_X10_66 fr_0_8 ?_
                refine fn_getIz hV 2 dX10_wreck_148 fl_X10_353 fi_47_2 rfl ?_
                exact fn_iret hR dX10_wreck_151 (fnQI.mk ⟨by unfold S_wreck; rw [if_neg (by omega), if_neg (by omega), if_neg (by omega), if_pos (by omega), hz], hC3, hfr⟩)
              refine fn_lsw (tgt := 152) (off := 44) hV dX10_wreck_108 (by omega) rfl (by rw [show w = 2 by omega]; rfl) (by decide) ?_
              refine fn_aload_0 hV dX10_wreck_152 ?_
              refine fn_getR hV dX10_wreck_153 fl_X10_66 fr_0_8 ?_
              refine fn_getIz hV 3 dX10_wreck_156 fl_X10_356 fi_47_3 rfl ?_
              exact fn_iret hR dX10_wreck_159 (fnQI.mk ⟨by unfold S_wreck; rw [if_neg (by omega), if_neg (by omega), if_neg (by omega), if_neg (by omega), hz], hC3, hfr⟩)
            · refine fn_aload_0 hV dX10_wreck_72 ?_
              refine fn_getR hV dX10_wreck_73 fl_X10_66 fr_0_8 ?_
              refine fn_getR hV dX10_wreck_76 fl_X10_344 fr_47_0 ?_
              refine fn_iload_4 hV dX10_wreck_79 ?_
              refine fn_aload_0 hV dX10_wreck_81 ?_
              refine fn_iload_4 hV dX10_wreck_82 ?_
              refine fn_cV1I hV (c_X10_courseOf E _ μ hC1 hW _ (by omega)) mv_X10_courseOf lk_X10_309 dX10_wreck_84 sh_0 rfl ⟨rfl, rfl⟩ rfl (fun z σ2 hp => ?_)
              obtain ⟨rfl, cF⟩ := hp
              refine fn_iast hV dX10_wreck_87 ar_48 (by omega) (by omega) ?_
              refine fn_iinc_4 hV dX10_wreck_88 rfl rfl ?_
              refine fn_goto hV dX10_wreck_91 ?_
              exact ihL (k + 1) (by omega) (by omega) _ _ trivial (by omega) ((gF.tr (cF.mono (by decide))).up (by decide)) (fun l l0 l1 => by
      rw [fnUp_ap]
      split
      · rename_i hl; rw [hl]
      · rw [cF 48 (by decide)]; exact gv l l0 (by omega))
          exact L 0 (by omega) _ _ trivial (by omega) fnFr.rf (fun l l0 l1 => by omega)
        · refine fn_sipush hV dX10_wreck_53 rfl ?_
          exact fn_iret hR dX10_wreck_56 (zXP.rf hC (by unfold S_wreck; rw [if_neg (by omega), if_pos (by omega)]))
      · refine fn_sipush hV dX10_wreck_39 rfl ?_
        exact fn_iret hR dX10_wreck_42 (zXP.rf hC (by unfold S_wreck; rw [if_pos (by omega)]))
    · refine fn_sipush hV dX10_wreck_26 rfl ?_
      exact fn_iret hR dX10_wreck_29 (zXP.rf hC (by unfold S_wreck; rw [if_pos (by omega)]))

set_option maxHeartbeats 4000000 in
set_option maxRecDepth 20000 in
theorem c_X10_count (E : fnE) (σ μ : fnMem) (hC : zCR σ μ) (hW : zWF μ) (w : Int) (h_w : fnR w) : fnOk E mX10_count [.ref 0, zI w] σ (fnQI (zXP (S_count μ w) (μ) σ)) := by
  refine fnOk.of [.ref 0, zI w] rfl (by decide +kernel) rfl (fun V hV hR => ?_)
  replace hV : fnCx E RX10 cX10_count 2 2 43 V := hV
  replace hR : fnRt cX10_count (some .int) _ V := hR
  obtain ⟨v1, v2, v3, v4, v5, v6, v7, v8⟩ := hC.2.2.2.2.2
  obtain ⟨x1, x2, x3, x4, x5, x6, x7, x8⟩ := hW.2.2.2.2.2
  obtain ⟨L, hL, hL4⟩ := hW.L
  have hLn := zLn_eq hL
  obtain ⟨c1, c2, c3, c4, c5, c6, c7⟩ := hC.2.2.1
  obtain ⟨w1, w2, w3, w4, w5⟩ := hW.2.2.1
  refine fn_iload_1 hV dX10_count_0 ?_
  by_cases w1_0 : w = 0
  · refine fn_tswIn (tgt := 40) hV 0 dX10_count_1 (by omega) (by omega) (by omega) rfl (by decide) ?_
    refine fn_aload_0 hV dX10_count_40 ?_
    refine fn_getR hV dX10_count_41 fl_X10_52 fr_0_6 ?_
    refine fn_getIz hV 6 dX10_count_44 fl_X10_283 fi_36_6 rfl ?_
    exact fn_iret hR dX10_count_47 (zXP.rf hC (by unfold S_count; simp only [if_pos (show w = 0 by omega)]; exact v1))
  by_cases w1_1 : w = 1
  · refine fn_tswIn (tgt := 48) hV 1 dX10_count_1 (by omega) (by omega) (by omega) rfl (by decide) ?_
    refine fn_aload_0 hV dX10_count_48 ?_
    refine fn_getR hV dX10_count_49 fl_X10_24 fr_0_2 ?_
    refine fn_cV0 hV (c_X6_howManyLaid E _ (hC.kSt hW)) mv_X6_howManyLaid lk_X10_206 dX10_count_52 sh_17 rfl ⟨rfl, rfl⟩ rfl ?_
    exact fn_iret hR dX10_count_55 (zXP.rf hC (by unfold S_count; simp only [if_neg (show ¬ w = 0 by omega), if_pos (show w = 1 by omega)]; unfold zlaid; rw [c6, zsum_congr 6 (F := fun k => if σ 20 k ≠ 0 then 1 else 0) (G := fun k => if μ 4 k ≠ -2009 then 1 else 0) (fun k k0 k1 => by have := c3 k k0 (by omega); have := w2 k k0 (by omega); (try dsimp only); (repeat' split) <;> omega)]))
  by_cases w1_2 : w = 2
  · refine fn_tswIn (tgt := 56) hV 2 dX10_count_1 (by omega) (by omega) (by omega) rfl (by decide) ?_
    refine fn_aload_0 hV dX10_count_56 ?_
    refine fn_getR hV dX10_count_57 fl_X10_24 fr_0_2 ?_
    refine fn_cV0 hV (c_X6_howManyStored E _ (hC.kSt hW)) mv_X6_howManyStored lk_X10_359 dX10_count_60 sh_17 rfl ⟨rfl, rfl⟩ rfl ?_
    exact fn_iret hR dX10_count_63 (zXP.rf hC (by unfold S_count; simp only [if_neg (show ¬ w = 0 by omega), if_neg (show ¬ w = 1 by omega), if_pos (show w = 2 by omega)]; rw [zsum_congr 6 (F := fun k => if σ 18 k ≠ 0 then 1 else 0) (G := fun k => if μ 3 k ≠ 0 then 1 else 0) (fun k k0 k1 => by rw [c1 k k0 (by omega)]), zsum_congr 4 (F := fun k => if σ 19 k ≠ 0 then 1 else 0) (G := fun k => if μ 7 k ≠ 0 then 1 else 0) (fun k k0 k1 => by rw [c2 k k0 (by omega)])]))
  by_cases w1_3 : w = 3
  · refine fn_tswIn (tgt := 64) hV 3 dX10_count_1 (by omega) (by omega) (by omega) rfl (by decide) ?_
    refine fn_aload_0 hV dX10_count_64 ?_
    refine fn_getR hV dX10_count_65 fl_X10_45 fr_0_5 ?_
    refine fn_cV0 hV (c_X1_howMany E _ (hC.kEv hW)) mv_X1_howMany lk_X10_362 dX10_count_68 sh_32 rfl ⟨rfl, rfl⟩ rfl ?_
    exact fn_iret hR dX10_count_71 (zXP.rf hC (by unfold S_count; simp only [if_neg (show ¬ w = 0 by omega), if_neg (show ¬ w = 1 by omega), if_neg (show ¬ w = 2 by omega), if_pos (show w = 3 by omega)]; exact zsum_congr 20 (fun k k0 k1 => by rw [hC.2.2.2.2.1.2.2 k k0 (by omega)])))
  by_cases w1_4 : w = 4
  · refine fn_tswIn (tgt := 72) hV 4 dX10_count_1 (by omega) (by omega) (by omega) rfl (by decide) ?_
    refine fn_aload_0 hV dX10_count_72 ?_
    refine fn_getR hV dX10_count_73 fl_X10_38 fr_0_4 ?_
    refine fn_cV0 hV (c_X4_howManyNotes E _ (hC.kPl hW)) mv_X4_howManyNotes lk_X10_364 dX10_count_76 sh_26 rfl ⟨rfl, rfl⟩ rfl ?_
    exact fn_iret hR dX10_count_79 (zXP.rf hC (by unfold S_count; simp only [if_neg (show ¬ w = 0 by omega), if_neg (show ¬ w = 1 by omega), if_neg (show ¬ w = 2 by omega), if_neg (show ¬ w = 3 by omega), if_pos (show w = 4 by omega)]; exact zsum_congr 24 (fun k k0 k1 => by rw [hC.2.2.2.1.2.2.1 k k0 (by omega)])))
  by_cases w1_5 : w = 5
  · refine fn_tswIn (tgt := 80) hV 5 dX10_count_1 (by omega) (by omega) (by omega) rfl (by decide) ?_
    refine fn_aload_0 hV dX10_count_80 ?_
    refine fn_getR hV dX10_count_81 fl_X10_52 fr_0_6 ?_
    refine fn_cV0 hV (c_X3_milesRun E _ L (hC.kLg hW hL)) mv_X3_milesRun lk_X10_367 dX10_count_84 sh_36 rfl ⟨rfl, rfl⟩ rfl ?_
    exact fn_iret hR dX10_count_87 (zXP.rf hC (by unfold S_count; simp only [if_neg (show ¬ w = 0 by omega), if_neg (show ¬ w = 1 by omega), if_neg (show ¬ w = 2 by omega), if_neg (show ¬ w = 3 by omega), if_neg (show ¬ w = 4 by omega), if_pos (show w = 5 by omega)]; rw [hLn]; exact zsum_congr L (fun k k0 k1 => v5 k k0 (by omega))))
  refine fn_tswOut (tgt := 88) hV dX10_count_1 (by omega) (by omega) (by decide) ?_
  refine fn_sipush hV dX10_count_88 rfl ?_
  exact fn_iret hR dX10_count_91 (zXP.rf hC (by unfold S_count; rw [if_neg (by omega), if_neg (by omega), if_neg (by omega), if_neg (by omega), if_neg (by omega), if_neg (by omega)]))
