set_option maxHeartbeats 4000000 in
set_option maxRecDepth 20000 in
theorem c_X11_leave (E : fnE) (σ : fnMem) (μ : fnMem) (hM : fnSc μ (mv σ)) (hW : zWF μ)  : fnOk E mX11_leave [.ref 51] σ (fnQv (fun s => fnFr [73] σ s ∧ ∀ j, 0 ≤ j → j < 6 → s 73 j = zlft μ j)) := by
  refine fnOk.of [.ref 51, .null, .null] rfl (by decide +kernel) rfl (fun V hV hR => ?_)
  replace hV : fnCx E RX11 cX11_leave 3 1 22 V := hV
  replace hR : fnRt cX11_leave none _ V := hR
  obtain ⟨w1, w2, w3, w4, w5⟩ := hW.2.2.1
  have f3 : σ 54 = μ 3 := hM.c (k := 3) (by decide) (by decide)
  have f4 : σ 55 = μ 4 := hM.c (k := 4) (by decide) (by decide)
  have f5 : σ 56 = μ 5 := hM.c (k := 5) (by decide) (by decide)
  have f6 : σ 57 = μ 6 := hM.c (k := 6) (by decide) (by decide)
  have f7 : σ 58 = μ 7 := hM.c (k := 7) (by decide) (by decide)
  have f1 : σ 52 = μ 1 := hM.c (k := 1) (by decide) (by decide)
  have g8 : σ 51 8 = μ 0 8 := hM.f (by decide) (by decide)
  have g9 : σ 51 9 = μ 0 9 := hM.f (by decide) (by decide)
  refine fn_aload_0 hV dX11_leave_0 ?_
  refine fn_iconst hV dX11_leave_1 ?_
  refine fn_cV1Q hV (c_X11_take E _ _ (by decide)) mv_X11_take lk_X11_168 dX11_leave_2 sh_51 rfl ⟨rfl, rfl⟩ rfl (fun σ1 hp => ?_)
  obtain ⟨tF, tv⟩ := hp
  refine fn_iconst hV dX11_leave_5 ?_
  refine fn_istore_1 hV dX11_leave_6 rfl rfl ?_
  have L : ∀ k : Nat, k ≤ 6 → ∀ (i : Int) (σ2 : fnMem), True → (i = k) → (fnFr [73] σ σ2) → (σ2 73 1 = μ 1 1 - zsum (zpx μ 0) k) → (σ2 73 2 = μ 1 2 - zsum (zpx μ 1) k) → (∀ j, 0 ≤ j → j < 6 → j ≠ 1 → j ≠ 2 → σ2 73 j = μ 1 j) → V 7 [.ref 51, zI i, .null] [] σ2 := by
    refine fn_rec (fun k hk ihL => ?_)
    intro i σ2 _ hi hF hv1 hv2 hvo
    refine fn_iload_1 hV dX11_leave_7 ?_
    have e54 : σ2 54 = μ 3 := by rw [hF 54 (by decide)]; exact f3
    have e55 : σ2 55 = μ 4 := by rw [hF 55 (by decide)]; exact f4
    have e56 : σ2 56 = μ 5 := by rw [hF 56 (by decide)]; exact f5
    have e57 : σ2 57 = μ 6 := by rw [hF 57 (by decide)]; exact f6
    have e58 : σ2 58 = μ 7 := by rw [hF 58 (by decide)]; exact f7
    have e8 : σ2 51 8 = μ 0 8 := by rw [hF 51 (by decide)]; exact g8
    have e9 : σ2 51 9 = μ 0 9 := by rw [hF 51 (by decide)]; exact g9
    refine fn_bipush hV dX11_leave_8 rfl ?_
    refine fn_icmp_ge hV (by omega) (by omega) dX11_leave_10 (fun q10 => ?_) (fun q10 => ?_)
    · refine fn_aload_0 hV dX11_leave_74 ?_
      refine fn_getR hV dX11_leave_75 fl_X11_78 fr_51_25 ?_
      refine fn_iconst hV dX11_leave_78 ?_
      refine fn_dup2 hV dX11_leave_79 rfl rfl ?_
      refine fn_iald hV dX11_leave_80 ar_73 (by omega) (by omega) ?_
      refine fn_aload_0 hV dX11_leave_81 ?_
      refine fn_getIz hV 8 dX11_leave_82 fl_X11_32 fi_51_8 rfl ?_
      refine fn_sipush hV dX11_leave_85 rfl ?_
      refine fn_icmp_ne hV (by omega) (by omega) dX11_leave_88 (fun q88 => ?_) (fun q88 => ?_)
      · have w58 := w4 (μ 0 8) (by omega) (by omega)
        have i58 : σ2 58 (σ2 51 8) = μ 7 (μ 0 8) := by rw [e8, e58]
        refine fn_aload_0 hV dX11_leave_95 ?_
        refine fn_aload_0 hV dX11_leave_96 ?_
        refine fn_getIz hV 8 dX11_leave_97 fl_X11_32 fi_51_8 rfl ?_
        refine fn_aload_0 hV dX11_leave_100 ?_
        refine fn_getIz hV 9 dX11_leave_101 fl_X11_210 fi_51_9 rfl ?_
        refine fn_cV2 hV (c_X11_ballPull E _ _ _ (by omega) (by omega) (by omega)) mv_X11_ballPull lk_X11_213 dX11_leave_104 sh_51 rfl ⟨rfl, rfl⟩ rfl ?_
        refine fn_isub hV dX11_leave_107 ?_
        refine fn_iast hV dX11_leave_108 ar_73 (by omega) (by omega) ?_
        exact fn_vret hR dX11_leave_109 (fnQv.mk ⟨hF.up (by decide), fun j j0 j1 => by
      rw [zlft_eq, fnUp_ap]
      by_cases h3 : j = 3
      · rw [if_pos h3, if_neg (by omega), if_neg (by omega), if_pos h3, hvo 3 (by decide) (by decide) (by decide) (by decide)]
        unfold zlb
        first
          | rw [if_neg (by omega)]
          | rw [if_pos (by omega), e8, e9, e58]
      · rw [if_neg h3, if_neg h3]
        by_cases h1 : j = 1
        · rw [if_pos h1, h1, hv1, show k = 6 by omega]
        · rw [if_neg h1]
          by_cases h2 : j = 2
          · rw [if_pos h2, h2, hv2, show k = 6 by omega]
          · rw [if_neg h2]; exact hvo j j0 j1 h1 h2⟩)
      · refine fn_iconst hV dX11_leave_91 ?_
        refine fn_goto hV dX11_leave_92 ?_
        refine fn_isub hV dX11_leave_107 ?_
        refine fn_iast hV dX11_leave_108 ar_73 (by omega) (by omega) ?_
        exact fn_vret hR dX11_leave_109 (fnQv.mk ⟨hF.up (by decide), fun j j0 j1 => by
      rw [zlft_eq, fnUp_ap]
      by_cases h3 : j = 3
      · rw [if_pos h3, if_neg (by omega), if_neg (by omega), if_pos h3, hvo 3 (by decide) (by decide) (by decide) (by decide)]
        unfold zlb
        first
          | rw [if_neg (by omega)]
          | rw [if_pos (by omega), e8, e9, e58]
      · rw [if_neg h3, if_neg h3]
        by_cases h1 : j = 1
        · rw [if_pos h1, h1, hv1, show k = 6 by omega]
        · rw [if_neg h1]
          by_cases h2 : j = 2
          · rw [if_pos h2, h2, hv2, show k = 6 by omega]
          · rw [if_neg h2]; exact hvo j j0 j1 h1 h2⟩)
    · have q1 := w1 i (by omega) (by omega)
      have q2 := w2 i (by omega) (by omega)
      have q3 := w3 i (by omega) (by omega)
      have i54 : σ2 54 i = μ 3 i := by rw [e54]
      have i55 : σ2 55 i = μ 4 i := by rw [e55]
      have i56 : σ2 56 i = μ 5 i := by rw [e56]
      have i57 : σ2 57 i = μ 6 i := by rw [e57]
      refine fn_aload_0 hV dX11_leave_13 ?_
      refine fn_getR hV dX11_leave_14 fl_X11_19 fr_51_4 ?_
      refine fn_iload_1 hV dX11_leave_17 ?_
      refine fn_iald hV dX11_leave_18 ar_55 (by omega) (by omega) ?_
      refine fn_sipush hV dX11_leave_19 rfl ?_
      refine fn_icmp_eq hV (by omega) (by omega) dX11_leave_22 (fun q22 => ?_) (fun q22 => ?_)
      · refine fn_iinc_1 hV dX11_leave_68 rfl rfl ?_
        refine fn_goto hV dX11_leave_71 ?_
        exact ihL (k + 1) (by omega) (by omega) _ _ trivial (by omega) hF (by rw [zsum_s, ← hi, show zpx μ 0 i = 0 from by unfold zpx; exact if_neg (by omega), hv1]; omega) (by rw [zsum_s, ← hi, show zpx μ 1 i = 0 from by unfold zpx; exact if_neg (by omega), hv2]; omega) hvo
      · have ax : μ 4 i = 0 ∨ μ 4 i = 1 := by omega
        refine fn_aload_0 hV dX11_leave_25 ?_
        refine fn_iload_1 hV dX11_leave_26 ?_
        refine fn_aload_0 hV dX11_leave_27 ?_
        refine fn_getR hV dX11_leave_28 fl_X11_22 fr_51_5 ?_
        refine fn_iload_1 hV dX11_leave_31 ?_
        refine fn_iald hV dX11_leave_32 ar_56 (by omega) (by omega) ?_
        refine fn_cV2 hV (c_X11_pullOf E _ _ _ (by omega) (by omega) (by omega)) mv_X11_pullOf lk_X11_207 dX11_leave_33 sh_51 rfl ⟨rfl, rfl⟩ rfl ?_
        refine fn_istore_2 hV dX11_leave_36 rfl rfl ?_
        refine fn_aload_0 hV dX11_leave_37 ?_
        refine fn_getR hV dX11_leave_38 fl_X11_78 fr_51_25 ?_
        refine fn_iconst hV dX11_leave_41 ?_
        refine fn_aload_0 hV dX11_leave_42 ?_
        refine fn_getR hV dX11_leave_43 fl_X11_19 fr_51_4 ?_
        refine fn_iload_1 hV dX11_leave_46 ?_
        refine fn_iald hV dX11_leave_47 ar_55 (by omega) (by omega) ?_
        refine fn_iadd hV dX11_leave_48 ?_
        refine fn_dup2 hV dX11_leave_49 rfl rfl ?_
        refine fn_iald hV dX11_leave_50 ar_73 (by omega) (by omega) ?_
        refine fn_aload_0 hV dX11_leave_51 ?_
        refine fn_getR hV dX11_leave_52 fl_X11_25 fr_51_6 ?_
        refine fn_iload_1 hV dX11_leave_55 ?_
        refine fn_bald hV dX11_leave_56 ar_57 (by omega) (by omega) ?_
        refine fn_if_eq hV (by omega) dX11_leave_57 (fun q57 => ?_) (fun q57 => ?_)
        · refine fn_iload_2 hV dX11_leave_64 ?_
          refine fn_ineg hV dX11_leave_65 ?_
          refine fn_iadd hV dX11_leave_66 ?_
          refine fn_iast hV dX11_leave_67 ar_73 (by omega) (by omega) ?_
          refine fn_iinc_1 hV dX11_leave_68 rfl rfl ?_
          refine fn_goto hV dX11_leave_71 ?_
          have p0 : zpx μ 0 i = if μ 4 i = 0 then zpb (μ 3 i) (μ 5 i) else 0 := by unfold zpx; simp only [if_neg (show ¬ μ 6 i ≠ 0 by omega)]
          have p1 : zpx μ 1 i = if μ 4 i = 1 then zpb (μ 3 i) (μ 5 i) else 0 := by unfold zpx; simp only [if_neg (show ¬ μ 6 i ≠ 0 by omega)]
          refine fn_nul_2 hV ?_
          exact ihL (k + 1) (by omega) (by omega) _ _ trivial (by omega) (hF.up (by decide)) (by
        rw [e54, e55, e56, fnUp_ap, zsum_s, ← hi, p0]
        rcases ax with ax | ax <;> rw [ax]
        · rw [show (1 : Int) + 0 = 1 from rfl, if_pos rfl, if_pos rfl]; omega
        · rw [if_neg (by decide), if_neg (by decide)]; omega) (by
        rw [e54, e55, e56, fnUp_ap, zsum_s, ← hi, p1]
        rcases ax with ax | ax <;> rw [ax]
        · rw [if_neg (by decide), if_neg (by decide)]; omega
        · rw [show (1 : Int) + 1 = 2 from rfl, if_pos rfl, if_pos rfl]; omega) (fun j j0 j1 n1 n2 => by
        rw [e54, e55, e56, fnUp_ap, if_neg (by omega)]
        exact hvo j j0 j1 n1 n2)
        · refine fn_iload_2 hV dX11_leave_60 ?_
          refine fn_goto hV dX11_leave_61 ?_
          refine fn_iadd hV dX11_leave_66 ?_
          refine fn_iast hV dX11_leave_67 ar_73 (by omega) (by omega) ?_
          refine fn_iinc_1 hV dX11_leave_68 rfl rfl ?_
          refine fn_goto hV dX11_leave_71 ?_
          have p0 : zpx μ 0 i = if μ 4 i = 0 then -(zpb (μ 3 i) (μ 5 i)) else 0 := by unfold zpx; simp only [if_pos (show μ 6 i ≠ 0 by omega)]
          have p1 : zpx μ 1 i = if μ 4 i = 1 then -(zpb (μ 3 i) (μ 5 i)) else 0 := by unfold zpx; simp only [if_pos (show μ 6 i ≠ 0 by omega)]
          refine fn_nul_2 hV ?_
          exact ihL (k + 1) (by omega) (by omega) _ _ trivial (by omega) (hF.up (by decide)) (by
        rw [e54, e55, e56, fnUp_ap, zsum_s, ← hi, p0]
        rcases ax with ax | ax <;> rw [ax]
        · rw [show (1 : Int) + 0 = 1 from rfl, if_pos rfl, if_pos rfl]; omega
        · rw [if_neg (by decide), if_neg (by decide)]; omega) (by
        rw [e54, e55, e56, fnUp_ap, zsum_s, ← hi, p1]
        rcases ax with ax | ax <;> rw [ax]
        · rw [if_neg (by decide), if_neg (by decide)]; omega
        · rw [show (1 : Int) + 1 = 2 from rfl, if_pos rfl, if_pos rfl]; omega) (fun j j0 j1 n1 n2 => by
        rw [e54, e55, e56, fnUp_ap, if_neg (by omega)]
        exact hvo j j0 j1 n1 n2)
  exact L 0 (by omega) _ _ trivial (by omega) tF (by rw [tv 1 (by decide) (by decide), f1]; simp [zsum]) (by rw [tv 2 (by decide) (by decide), f1]; simp [zsum]) (fun j j0 j1 n1 n2 => by rw [tv j j0 j1, f1]; simp)

set_option maxHeartbeats 4000000 in
set_option maxRecDepth 20000 in
theorem c_X11_leftOf (E : fnE) (σ : fnMem) (hW : zWF (mv σ)) (p : Int) (h_p : fnR p) : fnOk E mX11_leftOf [.ref 51, zI p] σ (fnQI (zMP (S_leftOf (mv σ) p) (mv σ) σ)) := by
  refine fnOk.of [.ref 51, zI p] rfl (by decide +kernel) rfl (fun V hV hR => ?_)
  replace hV : fnCx E RX11 cX11_leftOf 2 2 45 V := hV
  replace hR : fnRt cX11_leftOf (some .int) _ V := hR
  refine fn_aload_0 hV dX11_leftOf_0 ?_
  refine fn_iconst hV dX11_leftOf_1 ?_
  refine fn_putIz hV 0 dX11_leftOf_2 fp_X11_96 fi_51_0 rfl ?_
  generalize hσ1 : fnUp σ 51 0 0 = σ1
  have e : ∀ k, k ≠ 51 → σ1 k = σ k := fun k hk => by rw [← hσ1, fnUp_ne _ _ _ hk]
  have e0 : ∀ j, j ≠ 0 → σ1 51 j = mv σ 0 j := fun j hj => by rw [← hσ1, fnUp_off _ _ _ hj]; rfl
  refine fn_iload_1 hV dX11_leftOf_5 ?_
  refine fn_cS1 hV (c_X11_noPart E _ _ (by omega)) ms_X11_noPart lk_X11_157 dX11_leftOf_6 ⟨rfl, rfl⟩ rfl ?_
  refine fn_ifeqn hV dX11_leftOf_9 (fun q9 => ?_) (fun q9 => ?_)
  · refine fn_aload_0 hV dX11_leftOf_16 ?_
    refine fn_cV0Q hV (c_X11_leave E _ (mv σ) (zsc0 hσ1) hW) mv_X11_leave lk_X11_223 dX11_leftOf_17 sh_51 rfl ⟨rfl, rfl⟩ rfl (fun σ2 hp => ?_)
    obtain ⟨tF, tv⟩ := hp
    refine fn_aload_0 hV dX11_leftOf_20 ?_
    refine fn_getR hV dX11_leftOf_21 fl_X11_78 fr_51_25 ?_
    refine fn_iload_1 hV dX11_leftOf_24 ?_
    refine fn_iald hV dX11_leftOf_25 ar_73 (by omega) (by omega) ?_
    exact fn_iret hR dX11_leftOf_26 (zMP.fr hσ1 (tF.mono (by decide)) (by unfold S_leftOf; rw [if_neg (by omega)]; exact tv p (by omega) (by omega)))
  · refine fn_sipush hV dX11_leftOf_12 rfl ?_
    exact fn_iret hR dX11_leftOf_15 (zMP.rf hσ1 (by unfold S_leftOf; rw [if_pos (by omega)]))

set_option maxHeartbeats 4000000 in
set_option maxRecDepth 20000 in
theorem c_X11_left (E : fnE) (σ : fnMem) (hW : zWF (mv σ)) (h : Int) (h_h : fnR h) : fnOk E mX11_left [.ref 51, zI h] σ (fnQI (zMP (S_left (mv σ) h) (mv σ) σ)) := by
  refine fnOk.of [.ref 51, zI h] rfl (by decide +kernel) rfl (fun V hV hR => ?_)
  replace hV : fnCx E RX11 cX11_left 2 4 90 V := hV
  replace hR : fnRt cX11_left (some .int) _ V := hR
  refine fn_aload_0 hV dX11_left_0 ?_
  refine fn_iconst hV dX11_left_1 ?_
  refine fn_putIz hV 0 dX11_left_2 fp_X11_96 fi_51_0 rfl ?_
  generalize hσ1 : fnUp σ 51 0 0 = σ1
  have e : ∀ k, k ≠ 51 → σ1 k = σ k := fun k hk => by rw [← hσ1, fnUp_ne _ _ _ hk]
  have e0 : ∀ j, j ≠ 0 → σ1 51 j = mv σ 0 j := fun j hj => by rw [← hσ1, fnUp_off _ _ _ hj]; rfl
  refine fn_iload_1 hV dX11_left_5 ?_
  refine fn_cS1 hV (c_X11_noHeading E _ _ (by omega)) ms_X11_noHeading lk_X11_162 dX11_left_6 ⟨rfl, rfl⟩ rfl ?_
  refine fn_ifeqn hV dX11_left_9 (fun q9 => ?_) (fun q9 => ?_)
  · refine fn_aload_0 hV dX11_left_16 ?_
    refine fn_cV0Q hV (c_X11_leave E _ (mv σ) (zsc0 hσ1) hW) mv_X11_leave lk_X11_223 dX11_left_17 sh_51 rfl ⟨rfl, rfl⟩ rfl (fun σ2 hp => ?_)
    obtain ⟨tF, tv⟩ := hp
    refine fn_aload_0 hV dX11_left_20 ?_
    refine fn_iload_1 hV dX11_left_21 ?_
    refine fn_iconst hV dX11_left_22 ?_
    refine fn_cV2 hV (c_X11_errorOf E _ (fun j j0 j1 => by rw [tv j j0 j1]; exact zlft_le hW j0 j1) _ _ (by omega) (by decide)) mv_X11_errorOf lk_X11_138 dX11_left_23 sh_51 rfl ⟨rfl, rfl⟩ rfl ?_
    exact fn_iret hR dX11_left_26 (zMP.fr hσ1 (tF.mono (by decide)) (by unfold S_left; rw [if_neg (by omega)]; exact zer_congr tv h 0))
  · refine fn_sipush hV dX11_left_12 rfl ?_
    exact fn_iret hR dX11_left_15 (zMP.rf hσ1 (by unfold S_left; rw [if_pos (by omega)]))

set_option maxHeartbeats 4000000 in
set_option maxRecDepth 20000 in
theorem c_X11_byBar (E : fnE) (σ : fnMem) (hs : ∀ k, 0 ≤ k → k < 6 → 0 ≤ σ 54 k ∧ σ 54 k ≤ 30000) (x v : Int) (hx : 0 ≤ x ∧ x ≤ 96) (hv : -999 ≤ v ∧ v ≤ 999) : fnOk E mX11_byBar [.ref 51, zI x, zI v] σ (fnIs (some (zI (zbb (σ 54) x v))) σ) := by
  refine fnOk.of [.ref 51, zI x, zI v, .null, .null] rfl (by decide +kernel) rfl (fun V hV hR => ?_)
  replace hV : fnCx E RX11 cX11_byBar 5 1 22 V := hV
  replace hR : fnRt cX11_byBar (some .int) _ V := hR
  refine fn_iload_1 hV dX11_byBar_0 ?_
  refine fn_if_ne hV (by omega) dX11_byBar_1 (fun q1 => ?_) (fun q1 => ?_)
  · have q1 := hs ((x - 1) / 16) (by omega) (by omega)
    have q2 := zpb_le q1 (k := (x - 1) % 16 / 2 + 2) (by omega)
    refine fn_iload_1 hV dX11_byBar_9 ?_
    refine fn_iconst hV dX11_byBar_10 ?_
    refine fn_isub hV dX11_byBar_11 ?_
    refine fn_bipush hV dX11_byBar_12 rfl ?_
    refine fn_idivp hV dX11_byBar_14 (by omega) (by omega) ?_
    refine fn_istore_3 hV dX11_byBar_15 rfl rfl ?_
    refine fn_aload_0 hV dX11_byBar_16 ?_
    refine fn_iload_3 hV dX11_byBar_17 ?_
    refine fn_iload_1 hV dX11_byBar_18 ?_
    refine fn_iconst hV dX11_byBar_19 ?_
    refine fn_isub hV dX11_byBar_20 ?_
    refine fn_bipush hV dX11_byBar_21 rfl ?_
    refine fn_iremp hV dX11_byBar_23 (by omega) (by omega) ?_
    refine fn_iconst hV dX11_byBar_24 ?_
    refine fn_idivp hV dX11_byBar_25 (by omega) (by omega) ?_
    refine fn_iconst hV dX11_byBar_26 ?_
    refine fn_iadd hV dX11_byBar_27 ?_
    refine fn_cV2 hV (c_X11_pullOf E _ _ _ (by omega) (by omega) (by omega)) mv_X11_pullOf lk_X11_207 dX11_byBar_28 sh_51 rfl ⟨rfl, rfl⟩ rfl ?_
    refine fn_istore_4 hV dX11_byBar_31 rfl rfl ?_
    refine fn_aload_0 hV dX11_byBar_33 ?_
    refine fn_getR hV dX11_byBar_34 fl_X11_16 fr_51_3 ?_
    refine fn_iload_3 hV dX11_byBar_37 ?_
    refine fn_iald hV dX11_byBar_38 ar_54 (by omega) (by omega) ?_
    refine fn_if_ne hV (by omega) dX11_byBar_39 (fun q39 => ?_) (fun q39 => ?_)
    · refine fn_iload_1 hV dX11_byBar_47 ?_
      refine fn_iconst hV dX11_byBar_48 ?_
      refine fn_isub hV dX11_byBar_49 ?_
      refine fn_iconst hV dX11_byBar_50 ?_
      refine fn_iremp hV dX11_byBar_51 (by omega) (by omega) ?_
      refine fn_iconst hV dX11_byBar_52 ?_
      refine fn_icmp_ne hV (by omega) (by omega) dX11_byBar_53 (fun q53 => ?_) (fun q53 => ?_)
      · refine fn_iload_2 hV dX11_byBar_63 ?_
        refine fn_iload_4 hV dX11_byBar_64 ?_
        refine fn_isub hV dX11_byBar_66 ?_
        refine fn_cS1 hV (c_X11_size E _ _ (by omega)) ms_X11_size lk_X11_178 dX11_byBar_67 ⟨rfl, rfl⟩ rfl ?_
        exact fn_iret hR dX11_byBar_70 (fnIs.i (by unfold zbb; first | (rw [if_pos (by omega)]; done) | (rw [if_neg (by omega), if_pos (by omega)]; done) | (rw [if_neg (by omega), if_neg (by omega), if_pos (by omega)]; done) | (rw [if_neg (by omega), if_neg (by omega), if_neg (by omega)]; done)))
      · refine fn_iload_2 hV dX11_byBar_56 ?_
        refine fn_iload_4 hV dX11_byBar_57 ?_
        refine fn_iadd hV dX11_byBar_59 ?_
        refine fn_goto hV dX11_byBar_60 ?_
        refine fn_cS1 hV (c_X11_size E _ _ (by omega)) ms_X11_size lk_X11_178 dX11_byBar_67 ⟨rfl, rfl⟩ rfl ?_
        exact fn_iret hR dX11_byBar_70 (fnIs.i (by unfold zbb; first | (rw [if_pos (by omega)]; done) | (rw [if_neg (by omega), if_pos (by omega)]; done) | (rw [if_neg (by omega), if_neg (by omega), if_pos (by omega)]; done) | (rw [if_neg (by omega), if_neg (by omega), if_neg (by omega)]; done)))
    · refine fn_ldc hV dX11_byBar_42 co_X11_226 ?_
      refine fn_goto hV dX11_byBar_44 ?_
      exact fn_iret hR dX11_byBar_70 (fnIs.i (by unfold zbb; first | (rw [if_pos (by omega)]; done) | (rw [if_neg (by omega), if_pos (by omega)]; done) | (rw [if_neg (by omega), if_neg (by omega), if_pos (by omega)]; done) | (rw [if_neg (by omega), if_neg (by omega), if_neg (by omega)]; done)))
  · refine fn_iload_2 hV dX11_byBar_4 ?_
    refine fn_cS1 hV (c_X11_size E _ _ (by omega)) ms_X11_size lk_X11_178 dX11_byBar_5 ⟨rfl, rfl⟩ rfl ?_
    exact fn_iret hR dX11_byBar_8 (fnIs.i (by unfold zbb; first | (rw [if_pos (by omega)]; done) | (rw [if_neg (by omega), if_pos (by omega)]; done) | (rw [if_neg (by omega), if_neg (by omega), if_pos (by omega)]; done) | (rw [if_neg (by omega), if_neg (by omega), if_neg (by omega)]; done)))

set_option maxHeartbeats 4000000 in
set_option maxRecDepth 20000 in
theorem c_X11_byBall (E : fnE) (σ : fnMem) (hs : ∀ k, 0 ≤ k → k < 4 → 0 ≤ σ 58 k ∧ σ 58 k ≤ 20) (x v : Int) (hx : 0 ≤ x ∧ x ≤ 76) (hv : -999 ≤ v ∧ v ≤ 999) : fnOk E mX11_byBall [.ref 51, zI x, zI v] σ (fnIs (some (zI (zbyb (σ 58) x v))) σ) := by
  refine fnOk.of [.ref 51, zI x, zI v, .null, .null] rfl (by decide +kernel) rfl (fun V hV hR => ?_)
  replace hV : fnCx E RX11 cX11_byBall 5 1 22 V := hV
  replace hR : fnRt cX11_byBall (some .int) _ V := hR
  refine fn_iload_1 hV dX11_byBall_0 ?_
  refine fn_if_ne hV (by omega) dX11_byBall_1 (fun q1 => ?_) (fun q1 => ?_)
  · have q1 := hs ((x - 1) / 19) (by omega) (by omega)
    have q2 := zpl_le q1 (k := (x - 1) % 19 + 2) (by omega)
    refine fn_iload_1 hV dX11_byBall_9 ?_
    refine fn_iconst hV dX11_byBall_10 ?_
    refine fn_isub hV dX11_byBall_11 ?_
    refine fn_bipush hV dX11_byBall_12 rfl ?_
    refine fn_idivp hV dX11_byBall_14 (by omega) (by omega) ?_
    refine fn_istore_3 hV dX11_byBall_15 rfl rfl ?_
    refine fn_iload_1 hV dX11_byBall_16 ?_
    refine fn_iconst hV dX11_byBall_17 ?_
    refine fn_isub hV dX11_byBall_18 ?_
    refine fn_bipush hV dX11_byBall_19 rfl ?_
    refine fn_iremp hV dX11_byBall_21 (by omega) (by omega) ?_
    refine fn_iconst hV dX11_byBall_22 ?_
    refine fn_iadd hV dX11_byBall_23 ?_
    refine fn_istore_4 hV dX11_byBall_24 rfl rfl ?_
    refine fn_aload_0 hV dX11_byBall_26 ?_
    refine fn_getR hV dX11_byBall_27 fl_X11_29 fr_51_7 ?_
    refine fn_iload_3 hV dX11_byBall_30 ?_
    refine fn_iald hV dX11_byBall_31 ar_58 (by omega) (by omega) ?_
    refine fn_if_eq hV (by omega) dX11_byBall_32 (fun q32 => ?_) (fun q32 => ?_)
    · refine fn_ldc hV dX11_byBall_46 co_X11_226 ?_
      refine fn_goto hV dX11_byBall_48 ?_
      exact fn_iret hR dX11_byBall_63 (fnIs.i (by unfold zbyb; first | (rw [if_pos (by omega)]; done) | (rw [if_neg (by omega), if_pos (by omega)]; done) | (rw [if_neg (by omega), if_neg (by omega)]; done)))
    · refine fn_aload_0 hV dX11_byBall_35 ?_
      refine fn_getR hV dX11_byBall_36 fl_X11_29 fr_51_7 ?_
      refine fn_iload_3 hV dX11_byBall_39 ?_
      refine fn_iald hV dX11_byBall_40 ar_58 (by omega) (by omega) ?_
      refine fn_iload_4 hV dX11_byBall_41 ?_
      refine fn_icmp_le hV (by omega) (by omega) dX11_byBall_43 (fun q43 => ?_) (fun q43 => ?_)
      · refine fn_iload_2 hV dX11_byBall_51 ?_
        refine fn_aload_0 hV dX11_byBall_52 ?_
        refine fn_iload_3 hV dX11_byBall_53 ?_
        refine fn_iload_4 hV dX11_byBall_54 ?_
        refine fn_cV2 hV (c_X11_ballPull E _ _ _ (by omega) (by omega) (by omega)) mv_X11_ballPull lk_X11_213 dX11_byBall_56 sh_51 rfl ⟨rfl, rfl⟩ rfl ?_
        refine fn_isub hV dX11_byBall_59 ?_
        refine fn_cS1 hV (c_X11_size E _ _ (by omega)) ms_X11_size lk_X11_178 dX11_byBall_60 ⟨rfl, rfl⟩ rfl ?_
        exact fn_iret hR dX11_byBall_63 (fnIs.i (by unfold zbyb; first | (rw [if_pos (by omega)]; done) | (rw [if_neg (by omega), if_pos (by omega)]; done) | (rw [if_neg (by omega), if_neg (by omega)]; done)))
      · refine fn_ldc hV dX11_byBall_46 co_X11_226 ?_
        refine fn_goto hV dX11_byBall_48 ?_
        exact fn_iret hR dX11_byBall_63 (fnIs.i (by unfold zbyb; first | (rw [if_pos (by omega)]; done) | (rw [if_neg (by omega), if_pos (by omega)]; done) | (rw [if_neg (by omega), if_neg (by omega)]; done)))
  · refine fn_iload_2 hV dX11_byBall_4 ?_
    refine fn_cS1 hV (c_X11_size E _ _ (by omega)) ms_X11_size lk_X11_178 dX11_byBall_5 ⟨rfl, rfl⟩ rfl ?_
    exact fn_iret hR dX11_byBall_8 (fnIs.i (by unfold zbyb; first | (rw [if_pos (by omega)]; done) | (rw [if_neg (by omega), if_pos (by omega)]; done) | (rw [if_neg (by omega), if_neg (by omega)]; done)))

set_option maxHeartbeats 4000000 in
set_option maxRecDepth 20000 in
theorem c_X11_one (E : fnE) (σ : fnMem) (x : Int) (hx : fnR x) : fnOk E mX11_one [zI x] σ (fnIs (some (zI (zone x))) σ) := by
  refine fnOk.of [zI x] rfl (by decide +kernel) rfl (fun V hV hR => ?_)
  replace hV : fnCx E RX11 cX11_one 1 0 0 V := hV
  replace hR : fnRt cX11_one (some .int) _ V := hR
  refine fn_iload_0 hV dX11_one_0 ?_
  refine fn_t_if_ne hV (by omega) dX11_one_1 dX11_one_4 dX11_one_5 dX11_one_8 ?_
  exact fn_iret hR dX11_one_9 (fnIs.i (by unfold zone; rfl))
