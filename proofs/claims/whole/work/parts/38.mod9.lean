set_option maxHeartbeats 4000000 in
set_option maxRecDepth 20000 in
theorem c_X11_foretold (E : fnE) (σ : fnMem) (hW : zWF (mv σ)) (c0 : Int) (h_c0 : fnR c0) (x : Int) (h_x : fnR x) (p : Int) (h_p : fnR p) (q : Int) (h_q : fnR q) (oc : Int) (h_oc : oc = 0 ∨ oc = 1) : fnOk E mX11_foretold [.ref 51, zI c0, zI x, zI p, zI q, zI oc] σ (fnQI (zMP (S_foretold (mv σ) c0 x p q oc) (mv σ) σ)) := by
  refine fnOk.of [.ref 51, zI c0, zI x, zI p, zI q, zI oc, .null] rfl (by decide +kernel) rfl (fun V hV hR => ?_)
  replace hV : fnCx E RX11 cX11_foretold 7 2 60 V := hV
  replace hR : fnRt cX11_foretold (some .int) _ V := hR
  refine fn_aload_0 hV dX11_foretold_0 ?_
  refine fn_iconst hV dX11_foretold_1 ?_
  refine fn_putIz hV 0 dX11_foretold_2 fp_X11_96 fi_51_0 rfl ?_
  generalize hσ1 : fnUp σ 51 0 0 = σ1
  have e : ∀ k, k ≠ 51 → σ1 k = σ k := fun k hk => by rw [← hσ1, fnUp_ne _ _ _ hk]
  have e0 : ∀ j, j ≠ 0 → σ1 51 j = mv σ 0 j := fun j hj => by rw [← hσ1, fnUp_off _ _ _ hj]; rfl
  have f8 : mv σ 8 = σ1 59 := (e 59 (by decide)).symm
  have f9 : mv σ 9 = σ1 60 := (e 60 (by decide)).symm
  have f10 : mv σ 10 = σ1 61 := (e 61 (by decide)).symm
  have f11 : mv σ 11 = σ1 62 := (e 62 (by decide)).symm
  have f12 : mv σ 12 = σ1 63 := (e 63 (by decide)).symm
  obtain ⟨w1, w2, w3, w4, w5⟩ := hW.2.2.2.1
  rw [f8] at w1
  rw [f9] at w2
  rw [f11] at w4
  rw [f12] at w5
  refine fn_iload_1 hV dX11_foretold_5 ?_
  refine fn_cS1 hV (c_X11_noCompass E _ _ (by omega)) ms_X11_noCompass lk_X11_154 dX11_foretold_6 ⟨rfl, rfl⟩ rfl ?_
  refine fn_ifnen hV dX11_foretold_9 (fun q9 => ?_) (fun q9 => ?_)
  · refine fn_sipush hV dX11_foretold_34 rfl ?_
    exact fn_iret hR dX11_foretold_37 (zMP.rf hσ1 (by unfold S_foretold; rw [if_pos (by omega)]))
  · refine fn_iload_2 hV dX11_foretold_12 ?_
    refine fn_cS1 hV (c_X11_noPlace E _ _ (by omega)) ms_X11_noPlace lk_X11_245 dX11_foretold_13 ⟨rfl, rfl⟩ rfl ?_
    refine fn_ifnen hV dX11_foretold_16 (fun q16 => ?_) (fun q16 => ?_)
    · refine fn_sipush hV dX11_foretold_34 rfl ?_
      exact fn_iret hR dX11_foretold_37 (zMP.rf hσ1 (by unfold S_foretold; rw [if_pos (by omega)]))
    · refine fn_iload_3 hV dX11_foretold_19 ?_
      refine fn_cS1 hV (c_X11_noPlace E _ _ (by omega)) ms_X11_noPlace lk_X11_245 dX11_foretold_20 ⟨rfl, rfl⟩ rfl ?_
      refine fn_ifnen hV dX11_foretold_23 (fun q23 => ?_) (fun q23 => ?_)
      · refine fn_sipush hV dX11_foretold_34 rfl ?_
        exact fn_iret hR dX11_foretold_37 (zMP.rf hσ1 (by unfold S_foretold; rw [if_pos (by omega)]))
      · refine fn_iload_4 hV dX11_foretold_26 ?_
        refine fn_cS1 hV (c_X11_noPlace E _ _ (by omega)) ms_X11_noPlace lk_X11_245 dX11_foretold_28 ⟨rfl, rfl⟩ rfl ?_
        refine fn_ifeqn hV dX11_foretold_31 (fun q31 => ?_) (fun q31 => ?_)
        · refine fn_aload_0 hV dX11_foretold_38 ?_
          refine fn_iload_1 hV dX11_foretold_39 ?_
          refine fn_iload_3 hV dX11_foretold_40 ?_
          refine fn_iload_4 hV dX11_foretold_41 ?_
          refine fn_cV3 hV (c_X11_isDark E _ (mv σ) (zsc0 hσ1) hW _ _ _ (by omega) (by omega) (by omega)) mv_X11_isDark lk_X11_252 dX11_foretold_43 sh_51 rfl ⟨rfl, rfl⟩ rfl ?_
          refine fn_ifeqn hV dX11_foretold_46 (fun q46 => ?_) (fun q46 => ?_)
          · have hne : σ1 60 p ≠ σ1 60 q := by rw [← f9]; exact q46.2.2
            have a1 := w4 (8 * c0 + p) (by omega) (by omega)
            have a2 := w4 (8 * c0 + q) (by omega) (by omega)
            have a3 := w5 (8 * c0 + p) (by omega) (by omega)
            have a4 := w5 (8 * c0 + q) (by omega) (by omega)
            refine fn_iload_5 hV dX11_foretold_53 ?_
            refine fn_if_eq hV (by omega) dX11_foretold_55 (fun q55 => ?_) (fun q55 => ?_)
            · refine fn_aload_0 hV dX11_foretold_65 ?_
              refine fn_getR hV dX11_foretold_66 fl_X11_45 fr_51_13 ?_
              refine fn_astore_6 hV dX11_foretold_69 rfl rfl ?_
              refine fn_aload_0 hV dX11_foretold_71 ?_
              refine fn_iload_2 hV dX11_foretold_72 ?_
              refine fn_iload_3 hV dX11_foretold_73 ?_
              refine fn_iload_4 hV dX11_foretold_74 ?_
              refine fn_aload_6 hV dX11_foretold_76 ?_
              refine fn_bipush hV dX11_foretold_78 rfl ?_
              refine fn_iload_1 hV dX11_foretold_80 ?_
              refine fn_imul hV dX11_foretold_81 ?_
              refine fn_iload_3 hV dX11_foretold_82 ?_
              refine fn_iadd hV dX11_foretold_83 ?_
              refine fn_iald hV dX11_foretold_84 ar_62 (by omega) (by omega) ?_
              refine fn_aload_6 hV dX11_foretold_85 ?_
              refine fn_bipush hV dX11_foretold_87 rfl ?_
              refine fn_iload_1 hV dX11_foretold_89 ?_
              refine fn_imul hV dX11_foretold_90 ?_
              refine fn_iload_4 hV dX11_foretold_91 ?_
              refine fn_iadd hV dX11_foretold_93 ?_
              refine fn_iald hV dX11_foretold_94 ar_62 (by omega) (by omega) ?_
              refine fn_cV5 hV (c_X11_foretoldOf E _ w1 w2 _ _ _ _ _ (by omega) (by omega) (by omega) (by omega) (by omega) hne) mv_X11_foretoldOf lk_X11_256 dX11_foretold_95 sh_51 rfl ⟨rfl, rfl⟩ rfl ?_
              exact fn_iret hR dX11_foretold_98 (zMP.rf hσ1 (by unfold S_foretold zfo; rw [if_neg (by omega), if_neg (by intro h; exact h q46)]; first | (rw [if_pos (by omega), f8, f9, f12]; done) | (rw [if_neg (by omega), f8, f9, f11]; done)))
            · refine fn_aload_0 hV dX11_foretold_58 ?_
              refine fn_getR hV dX11_foretold_59 fl_X11_48 fr_51_14 ?_
              refine fn_goto hV dX11_foretold_62 ?_
              refine fn_astore_6 hV dX11_foretold_69 rfl rfl ?_
              refine fn_aload_0 hV dX11_foretold_71 ?_
              refine fn_iload_2 hV dX11_foretold_72 ?_
              refine fn_iload_3 hV dX11_foretold_73 ?_
              refine fn_iload_4 hV dX11_foretold_74 ?_
              refine fn_aload_6 hV dX11_foretold_76 ?_
              refine fn_bipush hV dX11_foretold_78 rfl ?_
              refine fn_iload_1 hV dX11_foretold_80 ?_
              refine fn_imul hV dX11_foretold_81 ?_
              refine fn_iload_3 hV dX11_foretold_82 ?_
              refine fn_iadd hV dX11_foretold_83 ?_
              refine fn_iald hV dX11_foretold_84 ar_63 (by omega) (by omega) ?_
              refine fn_aload_6 hV dX11_foretold_85 ?_
              refine fn_bipush hV dX11_foretold_87 rfl ?_
              refine fn_iload_1 hV dX11_foretold_89 ?_
              refine fn_imul hV dX11_foretold_90 ?_
              refine fn_iload_4 hV dX11_foretold_91 ?_
              refine fn_iadd hV dX11_foretold_93 ?_
              refine fn_iald hV dX11_foretold_94 ar_63 (by omega) (by omega) ?_
              refine fn_cV5 hV (c_X11_foretoldOf E _ w1 w2 _ _ _ _ _ (by omega) (by omega) (by omega) (by omega) (by omega) hne) mv_X11_foretoldOf lk_X11_256 dX11_foretold_95 sh_51 rfl ⟨rfl, rfl⟩ rfl ?_
              exact fn_iret hR dX11_foretold_98 (zMP.rf hσ1 (by unfold S_foretold zfo; rw [if_neg (by omega), if_neg (by intro h; exact h q46)]; first | (rw [if_pos (by omega), f8, f9, f12]; done) | (rw [if_neg (by omega), f8, f9, f11]; done)))
          · refine fn_sipush hV dX11_foretold_49 rfl ?_
            exact fn_iret hR dX11_foretold_52 (zMP.rf hσ1 (by unfold S_foretold; rw [if_neg (by omega), if_pos q46]))
        · refine fn_sipush hV dX11_foretold_34 rfl ?_
          exact fn_iret hR dX11_foretold_37 (zMP.rf hσ1 (by unfold S_foretold; rw [if_pos (by omega)]))

set_option maxHeartbeats 4000000 in
set_option maxRecDepth 20000 in
theorem c_X11_layLeg (E : fnE) (σ : fnMem) (μ : fnMem) (hM : fnSc μ (mv σ)) (hW : zWF μ) (l : Int) (hl : 0 ≤ l ∧ l < μ 0 18) : fnOk E mX11_layLeg [.ref 51, zI l] σ (fnQv (fun s => fnFr [73, 74] σ s ∧ (∀ h, 0 ≤ h → h < 32 → s 74 h = zer (zasof μ (μ 16 l)) h (μ 18 l)) ∧ ∀ h, 0 ≤ h → h < 32 → -1200000 ≤ s 74 h ∧ s 74 h ≤ 1200000)) := by
  refine fnOk.of [.ref 51, zI l] rfl (by decide +kernel) rfl (fun V hV hR => ?_)
  replace hV : fnCx E RX11 cX11_layLeg 2 5 112 V := hV
  replace hR : fnRt cX11_layLeg none _ V := hR
  have f16 : σ 67 = μ 16 := hM.c (k := 16) (by decide) (by decide)
  have f17 : σ 68 = μ 17 := hM.c (k := 17) (by decide) (by decide)
  have f18 : σ 69 = μ 18 := hM.c (k := 18) (by decide) (by decide)
  have f19 : σ 70 = μ 19 := hM.c (k := 19) (by decide) (by decide)
  have f20 : σ 71 = μ 20 := hM.c (k := 20) (by decide) (by decide)
  have f21 : σ 72 = μ 21 := hM.c (k := 21) (by decide) (by decide)
  obtain ⟨x1, x2, x3, x4, x5, x6, x7, x8⟩ := hW.2.2.2.2.2
  have y2 := x2 l hl.1 hl.2
  have y4 := x4 l hl.1 hl.2
  have g16 : σ 67 l = μ 16 l := by rw [f16]
  refine fn_aload_0 hV dX11_layLeg_0 ?_
  refine fn_aload_0 hV dX11_layLeg_1 ?_
  refine fn_getR hV dX11_layLeg_2 fl_X11_60 fr_51_19 ?_
  refine fn_iload_1 hV dX11_layLeg_5 ?_
  refine fn_iald hV dX11_layLeg_6 ar_67 (by omega) (by omega) ?_
  refine fn_cV1Q hV (c_X11_takeAsOf E _ μ hM hW _ (by omega)) mv_X11_takeAsOf lk_X11_269 dX11_layLeg_7 sh_51 rfl ⟨rfl, rfl⟩ rfl (fun σ1 hp => ?_)
  obtain ⟨tF, tv⟩ := hp
  have g18 : σ1 69 l = μ 18 l := by rw [tF 69 (by decide), f18]
  have hP : ∀ j, 0 ≤ j → j < 6 → -32000 ≤ σ1 73 j ∧ σ1 73 j ≤ 32000 := fun j j0 j1 => by
    rw [tv j j0 j1]
    have := zasof_le hW (σ 67 l) j0 j1
    omega
  refine fn_aload_0 hV dX11_layLeg_10 ?_
  refine fn_aload_0 hV dX11_layLeg_11 ?_
  refine fn_getR hV dX11_layLeg_12 fl_X11_66 fr_51_21 ?_
  refine fn_iload_1 hV dX11_layLeg_15 ?_
  refine fn_iald hV dX11_layLeg_16 ar_69 (by omega) (by omega) ?_
  refine fn_cV1Q hV (c_X11_lay E _ hP _ (by omega)) mv_X11_lay lk_X11_172 dX11_layLeg_17 sh_51 rfl ⟨rfl, rfl⟩ rfl (fun σ2 hp => ?_)
  obtain ⟨lF, lv⟩ := hp
  exact fn_vret hR dX11_layLeg_20 (fnQv.mk ⟨(tF.mono (by decide)).tr (lF.mono (by decide)), fun h h0 h1 => by rw [lv h h0 h1, g18]; exact zer_congr (fun j j0 j1 => by rw [tv j j0 j1, g16]) h _, fun h h0 h1 => by rw [lv h h0 h1]; exact zer_le hP h _ (by omega)⟩)

set_option maxHeartbeats 4000000 in
set_option maxRecDepth 20000 in
theorem c_X11_courseOf (E : fnE) (σ : fnMem) (μ : fnMem) (hM : fnSc μ (mv σ)) (hW : zWF μ) (l : Int) (hl : 0 ≤ l ∧ l < μ 0 18)  : fnOk E mX11_courseOf [.ref 51, zI l] σ (fnQI (fun z s => z = zcrs μ l ∧ fnFr [73, 74] σ s)) := by
  refine fnOk.of [.ref 51, zI l] rfl (by decide +kernel) rfl (fun V hV hR => ?_)
  replace hV : fnCx E RX11 cX11_courseOf 2 6 133 V := hV
  replace hR : fnRt cX11_courseOf (some .int) _ V := hR
  have f16 : σ 67 = μ 16 := hM.c (k := 16) (by decide) (by decide)
  have f17 : σ 68 = μ 17 := hM.c (k := 17) (by decide) (by decide)
  have f18 : σ 69 = μ 18 := hM.c (k := 18) (by decide) (by decide)
  have f19 : σ 70 = μ 19 := hM.c (k := 19) (by decide) (by decide)
  have f20 : σ 71 = μ 20 := hM.c (k := 20) (by decide) (by decide)
  have f21 : σ 72 = μ 21 := hM.c (k := 21) (by decide) (by decide)
  obtain ⟨x1, x2, x3, x4, x5, x6, x7, x8⟩ := hW.2.2.2.2.2
  have y3 := x3 l hl.1 hl.2
  have y4 := x4 l hl.1 hl.2
  have y6 := x6 l hl.1 hl.2
  have y7 := x7 l hl.1 hl.2
  refine fn_aload_0 hV dX11_courseOf_0 ?_
  refine fn_iload_1 hV dX11_courseOf_1 ?_
  refine fn_cV1Q hV (c_X11_layLeg E _ μ hM hW _ hl) mv_X11_layLeg lk_X11_275 dX11_courseOf_2 sh_51 rfl ⟨rfl, rfl⟩ rfl (fun σ1 hp => ?_)
  obtain ⟨lF, lv, hr4⟩ := hp
  have g17 : σ1 68 l = μ 17 l := by rw [lF 68 (by decide), f17]
  have g21 : σ1 72 l = μ 21 l := by rw [lF 72 (by decide), f21]
  refine fn_aload_0 hV dX11_courseOf_5 ?_
  refine fn_aload_0 hV dX11_courseOf_6 ?_
  refine fn_getR hV dX11_courseOf_7 fl_X11_63 fr_51_20 ?_
  refine fn_iload_1 hV dX11_courseOf_10 ?_
  refine fn_iald hV dX11_courseOf_11 ar_68 (by omega) (by omega) ?_
  refine fn_cV1 hV (c_X11_truth E _ hr4 _ (by omega)) mv_X11_truth lk_X11_175 dX11_courseOf_12 sh_51 rfl ⟨rfl, rfl⟩ rfl ?_
  exact fn_iret hR dX11_courseOf_15 (fnQI.mk ⟨by rw [g17]; exact ztru_congr lv (by omega), lF⟩)

set_option maxHeartbeats 4000000 in
set_option maxRecDepth 20000 in
theorem c_X11_restOf (E : fnE) (σ : fnMem) (μ : fnMem) (hM : fnSc μ (mv σ)) (hW : zWF μ) (l : Int) (hl : 0 ≤ l ∧ l < μ 0 18)  : fnOk E mX11_restOf [.ref 51, zI l] σ (fnQI (fun z s => z = (if μ 21 l = -2009 then -2009 else zsrs μ l) ∧ fnFr [73, 74] σ s)) := by
  refine fnOk.of [.ref 51, zI l] rfl (by decide +kernel) rfl (fun V hV hR => ?_)
  replace hV : fnCx E RX11 cX11_restOf 2 6 133 V := hV
  replace hR : fnRt cX11_restOf (some .int) _ V := hR
  have f16 : σ 67 = μ 16 := hM.c (k := 16) (by decide) (by decide)
  have f17 : σ 68 = μ 17 := hM.c (k := 17) (by decide) (by decide)
  have f18 : σ 69 = μ 18 := hM.c (k := 18) (by decide) (by decide)
  have f19 : σ 70 = μ 19 := hM.c (k := 19) (by decide) (by decide)
  have f20 : σ 71 = μ 20 := hM.c (k := 20) (by decide) (by decide)
  have f21 : σ 72 = μ 21 := hM.c (k := 21) (by decide) (by decide)
  obtain ⟨x1, x2, x3, x4, x5, x6, x7, x8⟩ := hW.2.2.2.2.2
  have y3 := x3 l hl.1 hl.2
  have y4 := x4 l hl.1 hl.2
  have y6 := x6 l hl.1 hl.2
  have y7 := x7 l hl.1 hl.2
  refine fn_aload_0 hV dX11_restOf_0 ?_
  refine fn_iload_1 hV dX11_restOf_1 ?_
  refine fn_cV1Q hV (c_X11_layLeg E _ μ hM hW _ hl) mv_X11_layLeg lk_X11_275 dX11_restOf_2 sh_51 rfl ⟨rfl, rfl⟩ rfl (fun σ1 hp => ?_)
  obtain ⟨lF, lv, hr4⟩ := hp
  have g17 : σ1 68 l = μ 17 l := by rw [lF 68 (by decide), f17]
  have g21 : σ1 72 l = μ 21 l := by rw [lF 72 (by decide), f21]
  refine fn_aload_0 hV dX11_restOf_5 ?_
  refine fn_getR hV dX11_restOf_6 fl_X11_75 fr_51_24 ?_
  refine fn_iload_1 hV dX11_restOf_9 ?_
  refine fn_iald hV dX11_restOf_10 ar_72 (by omega) (by omega) ?_
  refine fn_sipush hV dX11_restOf_11 rfl ?_
  refine fn_icmp_ne hV (by omega) (by omega) dX11_restOf_14 (fun q14 => ?_) (fun q14 => ?_)
  · refine fn_aload_0 hV dX11_restOf_23 ?_
    refine fn_getR hV dX11_restOf_24 fl_X11_75 fr_51_24 ?_
    refine fn_iload_1 hV dX11_restOf_27 ?_
    refine fn_iald hV dX11_restOf_28 ar_72 (by omega) (by omega) ?_
    refine fn_aload_0 hV dX11_restOf_29 ?_
    refine fn_aload_0 hV dX11_restOf_30 ?_
    refine fn_getR hV dX11_restOf_31 fl_X11_63 fr_51_20 ?_
    refine fn_iload_1 hV dX11_restOf_34 ?_
    refine fn_iald hV dX11_restOf_35 ar_68 (by omega) (by omega) ?_
    refine fn_cV1 hV (c_X11_between E _ hr4 _ (by omega)) mv_X11_between lk_X11_141 dX11_restOf_36 sh_51 rfl ⟨rfl, rfl⟩ rfl ?_
    refine fn_isub hV dX11_restOf_39 ?_
    exact fn_iret hR dX11_restOf_40 (fnQI.mk ⟨by first | (rw [if_pos (by omega)]; done) | (rw [if_neg (by omega), g17, g21]; unfold zsrs; rw [zeAt_congr lv (by omega)]), lF⟩)
  · refine fn_sipush hV dX11_restOf_17 rfl ?_
    refine fn_goto hV dX11_restOf_20 ?_
    exact fn_iret hR dX11_restOf_40 (fnQI.mk ⟨by first | (rw [if_pos (by omega)]; done) | (rw [if_neg (by omega), g17, g21]; unfold zsrs; rw [zeAt_congr lv (by omega)]), lF⟩)

set_option maxHeartbeats 4000000 in
set_option maxRecDepth 20000 in
theorem c_X11_secondOf (E : fnE) (σ : fnMem) (μ : fnMem) (hM : fnSc μ (mv σ)) (hW : zWF μ) (l : Int) (hl : 0 ≤ l ∧ l < μ 0 18) (ho : μ 20 l ≠ -2009) : fnOk E mX11_secondOf [.ref 51, zI l] σ (fnQI (fun z s => z = zoth μ l ∧ fnFr [73, 74] σ s)) := by
  refine fnOk.of [.ref 51, zI l] rfl (by decide +kernel) rfl (fun V hV hR => ?_)
  replace hV : fnCx E RX11 cX11_secondOf 2 5 112 V := hV
  replace hR : fnRt cX11_secondOf (some .int) _ V := hR
  have f16 : σ 67 = μ 16 := hM.c (k := 16) (by decide) (by decide)
  have f17 : σ 68 = μ 17 := hM.c (k := 17) (by decide) (by decide)
  have f18 : σ 69 = μ 18 := hM.c (k := 18) (by decide) (by decide)
  have f19 : σ 70 = μ 19 := hM.c (k := 19) (by decide) (by decide)
  have f20 : σ 71 = μ 20 := hM.c (k := 20) (by decide) (by decide)
  have f21 : σ 72 = μ 21 := hM.c (k := 21) (by decide) (by decide)
  obtain ⟨x1, x2, x3, x4, x5, x6, x7, x8⟩ := hW.2.2.2.2.2
  have y3 := x3 l hl.1 hl.2
  have y4 := x4 l hl.1 hl.2
  have y6 := x6 l hl.1 hl.2
  have y7 := x7 l hl.1 hl.2
  have f1 : σ 52 = μ 1 := hM.c (k := 1) (by decide) (by decide)
  refine fn_aload_0 hV dX11_secondOf_0 ?_
  refine fn_iconst hV dX11_secondOf_1 ?_
  refine fn_cV1Q hV (c_X11_take E _ _ (by decide)) mv_X11_take lk_X11_168 dX11_secondOf_2 sh_51 rfl ⟨rfl, rfl⟩ rfl (fun σ1 hp => ?_)
  obtain ⟨tF, tv⟩ := hp
  have g18 : σ1 69 l = μ 18 l := by rw [tF 69 (by decide), f18]
  have hP : ∀ j, 0 ≤ j → j < 6 → -32000 ≤ σ1 73 j ∧ σ1 73 j ≤ 32000 := fun j j0 j1 => by
    rw [tv j j0 j1, f1]
    have := hW.1 (6 * 1 + j) (by omega) (by omega)
    omega
  refine fn_aload_0 hV dX11_secondOf_5 ?_
  refine fn_aload_0 hV dX11_secondOf_6 ?_
  refine fn_getR hV dX11_secondOf_7 fl_X11_66 fr_51_21 ?_
  refine fn_iload_1 hV dX11_secondOf_10 ?_
  refine fn_iald hV dX11_secondOf_11 ar_69 (by omega) (by omega) ?_
  refine fn_cV1Q hV (c_X11_lay E _ hP _ (by omega)) mv_X11_lay lk_X11_172 dX11_secondOf_12 sh_51 rfl ⟨rfl, rfl⟩ rfl (fun σ2 hp => ?_)
  obtain ⟨lF, lv⟩ := hp
  have g20 : σ2 71 l = μ 20 l := by rw [lF 71 (by decide), tF 71 (by decide), f20]
  have hr4 : ∀ h, 0 ≤ h → h < 32 → -1200000 ≤ σ2 74 h ∧ σ2 74 h ≤ 1200000 := fun h h0 h1 => by rw [lv h h0 h1]; exact zer_le hP h _ (by omega)
  refine fn_aload_0 hV dX11_secondOf_15 ?_
  refine fn_aload_0 hV dX11_secondOf_16 ?_
  refine fn_getR hV dX11_secondOf_17 fl_X11_72 fr_51_23 ?_
  refine fn_iload_1 hV dX11_secondOf_20 ?_
  refine fn_iald hV dX11_secondOf_21 ar_71 (by omega) (by omega) ?_
  refine fn_cV1 hV (c_X11_truth E _ hr4 _ (by omega)) mv_X11_truth lk_X11_175 dX11_secondOf_22 sh_51 rfl ⟨rfl, rfl⟩ rfl ?_
  exact fn_iret hR dX11_secondOf_25 (fnQI.mk ⟨by rw [g20]; exact ztru_congr (fun h h0 h1 => by rw [lv h h0 h1, g18]; exact zer_congr (fun j j0 j1 => by rw [tv j j0 j1, f1]; rfl) h _) (by omega), (tF.mono (by decide)).tr (lF.mono (by decide))⟩)

set_option maxHeartbeats 4000000 in
set_option maxRecDepth 20000 in
theorem c_X11_apartOf (E : fnE) (σ : fnMem) (μ : fnMem) (hM : fnSc μ (mv σ)) (hW : zWF μ) (l : Int) (hl : 0 ≤ l ∧ l < μ 0 18)  : fnOk E mX11_apartOf [.ref 51, zI l] σ (fnQI (fun z s => z = (if μ 20 l = -2009 then -2009 else zapw μ l) ∧ fnFr [73, 74] σ s)) := by
  refine fnOk.of [.ref 51, zI l] rfl (by decide +kernel) rfl (fun V hV hR => ?_)
  replace hV : fnCx E RX11 cX11_apartOf 2 7 154 V := hV
  replace hR : fnRt cX11_apartOf (some .int) _ V := hR
  have f16 : σ 67 = μ 16 := hM.c (k := 16) (by decide) (by decide)
  have f17 : σ 68 = μ 17 := hM.c (k := 17) (by decide) (by decide)
  have f18 : σ 69 = μ 18 := hM.c (k := 18) (by decide) (by decide)
  have f19 : σ 70 = μ 19 := hM.c (k := 19) (by decide) (by decide)
  have f20 : σ 71 = μ 20 := hM.c (k := 20) (by decide) (by decide)
  have f21 : σ 72 = μ 21 := hM.c (k := 21) (by decide) (by decide)
  obtain ⟨x1, x2, x3, x4, x5, x6, x7, x8⟩ := hW.2.2.2.2.2
  have y3 := x3 l hl.1 hl.2
  have y4 := x4 l hl.1 hl.2
  have y6 := x6 l hl.1 hl.2
  have y7 := x7 l hl.1 hl.2
  have g20 : σ 71 l = μ 20 l := by rw [f20]
  have v1 := zcrs_in μ l
  have v2 := zoth_in μ l
  refine fn_aload_0 hV dX11_apartOf_0 ?_
  refine fn_getR hV dX11_apartOf_1 fl_X11_72 fr_51_23 ?_
  refine fn_iload_1 hV dX11_apartOf_4 ?_
  refine fn_iald hV dX11_apartOf_5 ar_71 (by omega) (by omega) ?_
  refine fn_sipush hV dX11_apartOf_6 rfl ?_
  refine fn_icmp_ne hV (by omega) (by omega) dX11_apartOf_9 (fun q9 => ?_) (fun q9 => ?_)
  · refine fn_aload_0 hV dX11_apartOf_18 ?_
    refine fn_iload_1 hV dX11_apartOf_19 ?_
    refine fn_cV1I hV (c_X11_courseOf E _ μ hM hW _ hl) mv_X11_courseOf lk_X11_278 dX11_apartOf_20 sh_51 rfl ⟨rfl, rfl⟩ rfl (fun z σ1 hp => ?_)
    obtain ⟨rfl, cF⟩ := hp
    have hM1 : fnSc μ (mv σ1) := hM.fr (cF.mono (by decide))
    refine fn_aload_0 hV dX11_apartOf_23 ?_
    refine fn_iload_1 hV dX11_apartOf_24 ?_
    refine fn_cV1I hV (c_X11_secondOf E _ μ hM1 hW _ hl (by omega)) mv_X11_secondOf lk_X11_281 dX11_apartOf_25 sh_51 rfl ⟨rfl, rfl⟩ rfl (fun z σ2 hp => ?_)
    obtain ⟨rfl, dF⟩ := hp
    refine fn_cS2 hV (c_X11_wayOf E _ _ _ (by omega) (by omega)) ms_X11_wayOf lk_X11_151 dX11_apartOf_28 ⟨rfl, rfl⟩ rfl ?_
    exact fn_iret hR dX11_apartOf_31 (by first | exact fnQI.mk ⟨by rw [if_pos (by omega)], fnFr.rf⟩ | exact fnQI.mk ⟨by rw [if_neg (by omega)]; rfl, cF.tr dF⟩)
  · refine fn_sipush hV dX11_apartOf_12 rfl ?_
    refine fn_goto hV dX11_apartOf_15 ?_
    exact fn_iret hR dX11_apartOf_31 (by first | exact fnQI.mk ⟨by rw [if_pos (by omega)], fnFr.rf⟩ | exact fnQI.mk ⟨by rw [if_neg (by omega)]; rfl, cF.tr dF⟩)

set_option maxHeartbeats 4000000 in
set_option maxRecDepth 20000 in
theorem c_X11_home (E : fnE) (σ : fnMem) (hW : zWF (mv σ))  : fnOk E mX11_home [.ref 51] σ (fnQI (zMP (mv σ 0 18) (U_home (mv σ)) σ)) := by
  refine fnOk.of [.ref 51, .null] rfl (by decide +kernel) rfl (fun V hV hR => ?_)
  replace hV : fnCx E RX11 cX11_home 2 0 0 V := hV
  replace hR : fnRt cX11_home (some .int) _ V := hR
  refine fn_aload_0 hV dX11_home_0 ?_
  refine fn_iconst hV dX11_home_1 ?_
  refine fn_putIz hV 0 dX11_home_2 fp_X11_96 fi_51_0 rfl ?_
  generalize hσ1 : fnUp σ 51 0 0 = σ1
  have e : ∀ k, k ≠ 51 → σ1 k = σ k := fun k hk => by rw [← hσ1, fnUp_ne _ _ _ hk]
  have e0 : ∀ j, j ≠ 0 → σ1 51 j = mv σ 0 j := fun j hj => by rw [← hσ1, fnUp_off _ _ _ hj]; rfl
  have g18 := e0 18 (by decide)
  refine fn_aload_0 hV dX11_home_5 ?_
  refine fn_getIz hV 18 dX11_home_6 fl_X11_272 fi_51_18 rfl ?_
  refine fn_istore_1 hV dX11_home_9 rfl rfl ?_
  refine fn_aload_0 hV dX11_home_10 ?_
  refine fn_iconst hV dX11_home_11 ?_
  refine fn_putIz hV 18 dX11_home_12 fp_X11_272 fi_51_18 rfl ?_
  refine fn_iload_1 hV dX11_home_15 ?_
  exact fn_iret hR dX11_home_16 (zMP.up hσ1 g18 (fun k hk => fnUp_ne _ _ _ (by omega)) ((zsc0 hσ1).up 0 _ _))
