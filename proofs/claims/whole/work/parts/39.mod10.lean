set_option maxHeartbeats 4000000 in
set_option maxRecDepth 20000 in
theorem c_X11_foretoldError (E : fnE) (σ : fnMem) (hW : zWF (mv σ)) (c0 : Int) (h_c0 : fnR c0) (h : Int) (h_h : fnR h) (x : Int) (h_x : fnR x) (p : Int) (h_p : fnR p) (q : Int) (h_q : fnR q) : fnOk E mX11_foretoldError [.ref 51, zI c0, zI h, zI x, zI p, zI q] σ (fnQI (zMP (S_foretoldError (mv σ) c0 h x p q) (mv σ) σ)) := by
  refine fnOk.of [.ref 51, zI c0, zI h, zI x, zI p, zI q] rfl (by decide +kernel) rfl (fun V hV hR => ?_)
  replace hV : fnCx E RX11 cX11_foretoldError 6 4 90 V := hV
  replace hR : fnRt cX11_foretoldError (some .int) _ V := hR
  refine fn_aload_0 hV dX11_foretoldError_0 ?_
  refine fn_iconst hV dX11_foretoldError_1 ?_
  refine fn_putIz hV 0 dX11_foretoldError_2 fp_X11_96 fi_51_0 rfl ?_
  generalize hσ1 : fnUp σ 51 0 0 = σ1
  have e : ∀ k, k ≠ 51 → σ1 k = σ k := fun k hk => by rw [← hσ1, fnUp_ne _ _ _ hk]
  have e0 : ∀ j, j ≠ 0 → σ1 51 j = mv σ 0 j := fun j hj => by rw [← hσ1, fnUp_off _ _ _ hj]; rfl
  have f1 : mv σ 1 = σ1 52 := (e 52 (by decide)).symm
  have f8 : mv σ 8 = σ1 59 := (e 59 (by decide)).symm
  have f9 : mv σ 9 = σ1 60 := (e 60 (by decide)).symm
  have f10 : mv σ 10 = σ1 61 := (e 61 (by decide)).symm
  have f11 : mv σ 11 = σ1 62 := (e 62 (by decide)).symm
  have f12 : mv σ 12 = σ1 63 := (e 63 (by decide)).symm
  obtain ⟨w1, w2, w3, w4, w5⟩ := hW.2.2.2.1
  rw [f8] at w1
  rw [f9] at w2
  rw [f11] at w4
  rw [f12] at w5
  have hp1 : ∀ i : Int, 0 ≤ i → i < 18 → -999 ≤ σ1 52 i ∧ σ1 52 i ≤ 999 := by rw [← f1]; exact hW.1
  refine fn_iload_1 hV dX11_foretoldError_5 ?_
  refine fn_cS1 hV (c_X11_noCompass E _ _ (by omega)) ms_X11_noCompass lk_X11_154 dX11_foretoldError_6 ⟨rfl, rfl⟩ rfl ?_
  refine fn_ifnen hV dX11_foretoldError_9 (fun q9 => ?_) (fun q9 => ?_)
  · refine fn_sipush hV dX11_foretoldError_42 rfl ?_
    exact fn_iret hR dX11_foretoldError_45 (zMP.rf hσ1 (by unfold S_foretoldError; rw [if_pos (by omega)]))
  · refine fn_iload_2 hV dX11_foretoldError_12 ?_
    refine fn_cS1 hV (c_X11_noHeading E _ _ (by omega)) ms_X11_noHeading lk_X11_162 dX11_foretoldError_13 ⟨rfl, rfl⟩ rfl ?_
    refine fn_ifnen hV dX11_foretoldError_16 (fun q16 => ?_) (fun q16 => ?_)
    · refine fn_sipush hV dX11_foretoldError_42 rfl ?_
      exact fn_iret hR dX11_foretoldError_45 (zMP.rf hσ1 (by unfold S_foretoldError; rw [if_pos (by omega)]))
    · refine fn_iload_3 hV dX11_foretoldError_19 ?_
      refine fn_cS1 hV (c_X11_noPlace E _ _ (by omega)) ms_X11_noPlace lk_X11_245 dX11_foretoldError_20 ⟨rfl, rfl⟩ rfl ?_
      refine fn_ifnen hV dX11_foretoldError_23 (fun q23 => ?_) (fun q23 => ?_)
      · refine fn_sipush hV dX11_foretoldError_42 rfl ?_
        exact fn_iret hR dX11_foretoldError_45 (zMP.rf hσ1 (by unfold S_foretoldError; rw [if_pos (by omega)]))
      · refine fn_iload_4 hV dX11_foretoldError_26 ?_
        refine fn_cS1 hV (c_X11_noPlace E _ _ (by omega)) ms_X11_noPlace lk_X11_245 dX11_foretoldError_28 ⟨rfl, rfl⟩ rfl ?_
        refine fn_ifnen hV dX11_foretoldError_31 (fun q31 => ?_) (fun q31 => ?_)
        · refine fn_sipush hV dX11_foretoldError_42 rfl ?_
          exact fn_iret hR dX11_foretoldError_45 (zMP.rf hσ1 (by unfold S_foretoldError; rw [if_pos (by omega)]))
        · refine fn_iload_5 hV dX11_foretoldError_34 ?_
          refine fn_cS1 hV (c_X11_noPlace E _ _ (by omega)) ms_X11_noPlace lk_X11_245 dX11_foretoldError_36 ⟨rfl, rfl⟩ rfl ?_
          refine fn_ifeqn hV dX11_foretoldError_39 (fun q39 => ?_) (fun q39 => ?_)
          · refine fn_aload_0 hV dX11_foretoldError_46 ?_
            refine fn_iload_1 hV dX11_foretoldError_47 ?_
            refine fn_iload_4 hV dX11_foretoldError_48 ?_
            refine fn_iload_5 hV dX11_foretoldError_50 ?_
            refine fn_cV3 hV (c_X11_isDark E _ (mv σ) (zsc0 hσ1) hW _ _ _ (by omega) (by omega) (by omega)) mv_X11_isDark lk_X11_252 dX11_foretoldError_52 sh_51 rfl ⟨rfl, rfl⟩ rfl ?_
            refine fn_ifeqn hV dX11_foretoldError_55 (fun q55 => ?_) (fun q55 => ?_)
            · refine fn_aload_0 hV dX11_foretoldError_62 ?_
              refine fn_iload_1 hV dX11_foretoldError_63 ?_
              refine fn_cV1Q hV (c_X11_take E _ _ (by omega)) mv_X11_take lk_X11_168 dX11_foretoldError_64 sh_51 rfl ⟨rfl, rfl⟩ rfl (fun σ2 hp => ?_)
              obtain ⟨tF, tv⟩ := hp
              have hP : ∀ j, 0 ≤ j → j < 6 → -32000 ≤ σ2 73 j ∧ σ2 73 j ≤ 32000 := fun j j0 j1 => by
                have := hp1 (6 * c0 + j) (by omega) (by omega)
                rw [tv j j0 j1]
                omega
              have hv : ∀ j, 0 ≤ j → j < 6 → σ2 73 j = vP (mv σ) c0 j := fun j j0 j1 => by rw [tv j j0 j1, ← f1]; rfl
              have e59 : σ2 59 = σ1 59 := tF 59 (by decide)
              have e60 : σ2 60 = σ1 60 := tF 60 (by decide)
              have e62 : σ2 62 = σ1 62 := tF 62 (by decide)
              have e63 : σ2 63 = σ1 63 := tF 63 (by decide)
              have v1 : ∀ k, 0 ≤ k → k < 8 → 1 ≤ σ2 59 k ∧ σ2 59 k ≤ 999 := by rw [e59]; exact w1
              have v2 : ∀ k, 0 ≤ k → k < 8 → -999 ≤ σ2 60 k ∧ σ2 60 k ≤ 999 := by rw [e60]; exact w2
              have v1u : ∀ i v, ∀ k, 0 ≤ k → k < 8 → 1 ≤ fnUp σ2 73 i v 59 k ∧ fnUp σ2 73 i v 59 k ≤ 999 := fun i v => by rw [fnUp_ne _ _ _ (by decide)]; exact v1
              have v2u : ∀ i v, ∀ k, 0 ≤ k → k < 8 → -999 ≤ fnUp σ2 73 i v 60 k ∧ fnUp σ2 73 i v 60 k ≤ 999 := fun i v => by rw [fnUp_ne _ _ _ (by decide)]; exact v2
              have hne : σ2 60 p ≠ σ2 60 q := by rw [e60, ← f9]; exact q55.2.2
              have hneu : ∀ i v, fnUp σ2 73 i v 60 p ≠ fnUp σ2 73 i v 60 q := fun i v => by rw [fnUp_ne _ _ _ (by decide)]; exact hne
              have a1 := w4 (8 * c0 + p) (by omega) (by omega)
              have a2 := w4 (8 * c0 + q) (by omega) (by omega)
              have a3 := w5 (8 * c0 + p) (by omega) (by omega)
              have a4 := w5 (8 * c0 + q) (by omega) (by omega)
              rw [← e62] at a1 a2
              rw [← e63] at a3 a4
              refine fn_aload_0 hV dX11_foretoldError_67 ?_
              refine fn_getR hV dX11_foretoldError_68 fl_X11_78 fr_51_25 ?_
              refine fn_iconst hV dX11_foretoldError_71 ?_
              refine fn_aload_0 hV dX11_foretoldError_72 ?_
              refine fn_iload_3 hV dX11_foretoldError_73 ?_
              refine fn_iload_4 hV dX11_foretoldError_74 ?_
              refine fn_iload_5 hV dX11_foretoldError_76 ?_
              refine fn_aload_0 hV dX11_foretoldError_78 ?_
              refine fn_getR hV dX11_foretoldError_79 fl_X11_45 fr_51_13 ?_
              refine fn_bipush hV dX11_foretoldError_82 rfl ?_
              refine fn_iload_1 hV dX11_foretoldError_84 ?_
              refine fn_imul hV dX11_foretoldError_85 ?_
              refine fn_iload_4 hV dX11_foretoldError_86 ?_
              refine fn_iadd hV dX11_foretoldError_88 ?_
              refine fn_iald hV dX11_foretoldError_89 ar_62 (by omega) (by omega) ?_
              refine fn_aload_0 hV dX11_foretoldError_90 ?_
              refine fn_getR hV dX11_foretoldError_91 fl_X11_45 fr_51_13 ?_
              refine fn_bipush hV dX11_foretoldError_94 rfl ?_
              refine fn_iload_1 hV dX11_foretoldError_96 ?_
              refine fn_imul hV dX11_foretoldError_97 ?_
              refine fn_iload_5 hV dX11_foretoldError_98 ?_
              refine fn_iadd hV dX11_foretoldError_100 ?_
              refine fn_iald hV dX11_foretoldError_101 ar_62 (by omega) (by omega) ?_
              refine fn_cV5 hV (c_X11_foretoldOf E _ v1 v2 _ _ _ _ _ (by omega) (by omega) (by omega) (by omega) (by omega) hne) mv_X11_foretoldOf lk_X11_256 dX11_foretoldError_102 sh_51 rfl ⟨rfl, rfl⟩ rfl ?_
              rw [show zfore (σ2 62 (8 * c0 + p)) (σ2 62 (8 * c0 + q)) (σ2 59 p) (σ2 59 q) (σ2 59 x) (σ2 60 x) (σ2 60 p) (σ2 60 q) = zfo (mv σ) (mv σ 11) c0 x p q from by unfold zfo; rw [e59, e60, e62, f8, f9, f11]]
              refine fn_iast hV dX11_foretoldError_105 ar_73 (by omega) (by omega) ?_
              refine fn_aload_0 hV dX11_foretoldError_106 ?_
              refine fn_getR hV dX11_foretoldError_107 fl_X11_78 fr_51_25 ?_
              refine fn_iconst hV dX11_foretoldError_110 ?_
              refine fn_aload_0 hV dX11_foretoldError_111 ?_
              refine fn_iload_3 hV dX11_foretoldError_112 ?_
              refine fn_iload_4 hV dX11_foretoldError_113 ?_
              refine fn_iload_5 hV dX11_foretoldError_115 ?_
              refine fn_aload_0 hV dX11_foretoldError_117 ?_
              refine fn_getR hV dX11_foretoldError_118 fl_X11_48 fr_51_14 ?_
              refine fn_bipush hV dX11_foretoldError_121 rfl ?_
              refine fn_iload_1 hV dX11_foretoldError_123 ?_
              refine fn_imul hV dX11_foretoldError_124 ?_
              refine fn_iload_4 hV dX11_foretoldError_125 ?_
              refine fn_iadd hV dX11_foretoldError_127 ?_
              refine fn_iald hV dX11_foretoldError_128 ar_63 (by omega) (by omega) ?_
              rw [fnUp_ne σ2 _ _ (show 63 ≠ 73 by decide)]
              refine fn_aload_0 hV dX11_foretoldError_129 ?_
              refine fn_getR hV dX11_foretoldError_130 fl_X11_48 fr_51_14 ?_
              refine fn_bipush hV dX11_foretoldError_133 rfl ?_
              refine fn_iload_1 hV dX11_foretoldError_135 ?_
              refine fn_imul hV dX11_foretoldError_136 ?_
              refine fn_iload_5 hV dX11_foretoldError_137 ?_
              refine fn_iadd hV dX11_foretoldError_139 ?_
              refine fn_iald hV dX11_foretoldError_140 ar_63 (by omega) (by omega) ?_
              rw [fnUp_ne σ2 _ _ (show 63 ≠ 73 by decide)]
              refine fn_cV5 hV (c_X11_foretoldOf E _ (v1u _ _) (v2u _ _) _ _ _ _ _ (by omega) (by omega) (by omega) (by omega) (by omega) (hneu _ _)) mv_X11_foretoldOf lk_X11_256 dX11_foretoldError_141 sh_51 rfl ⟨rfl, rfl⟩ rfl ?_
              rw [fnUp_ne σ2 _ _ (show 59 ≠ 73 by decide), fnUp_ne σ2 _ _ (show 60 ≠ 73 by decide)]
              rw [show zfore (σ2 63 (8 * c0 + p)) (σ2 63 (8 * c0 + q)) (σ2 59 p) (σ2 59 q) (σ2 59 x) (σ2 60 x) (σ2 60 p) (σ2 60 q) = zfo (mv σ) (mv σ 12) c0 x p q from by unfold zfo; rw [e59, e60, e63, f8, f9, f12]]
              refine fn_iast hV dX11_foretoldError_144 ar_73 (by omega) (by omega) ?_
              have F4 : fnFr [73] σ1 (fnUp (fnUp σ2 73 1 (zfo (mv σ) (mv σ 11) c0 x p q)) 73 2 (zfo (mv σ) (mv σ 12) c0 x p q)) := (tF.up (by decide)).up (by decide)
              have v4 : ∀ j, 0 ≤ j → j < 6 → (fnUp (fnUp σ2 73 1 (zfo (mv σ) (mv σ 11) c0 x p q)) 73 2 (zfo (mv σ) (mv σ 12) c0 x p q)) 73 j = zfoP (mv σ) c0 x p q j := fun j j0 j1 => by
                unfold zfoP
                have hj : j = 0 ∨ j = 1 ∨ j = 2 ∨ j = 3 ∨ j = 4 ∨ j = 5 := by omega
                have t0 := hv j j0 j1
                unfold vP at t0
                rcases hj with rfl | rfl | rfl | rfl | rfl | rfl <;> simp [fnUp_ap, t0]
              have hP4 : ∀ j, 0 ≤ j → j < 6 → -32000 ≤ (fnUp (fnUp σ2 73 1 (zfo (mv σ) (mv σ 11) c0 x p q)) 73 2 (zfo (mv σ) (mv σ 12) c0 x p q)) 73 j ∧ (fnUp (fnUp σ2 73 1 (zfo (mv σ) (mv σ 11) c0 x p q)) 73 2 (zfo (mv σ) (mv σ 12) c0 x p q)) 73 j ≤ 32000 := fun j j0 j1 => by
                rw [v4 j j0 j1]
                have b1 : -9999 ≤ zfo (mv σ) (mv σ 11) c0 x p q ∧ zfo (mv σ) (mv σ 11) c0 x p q ≤ 9999 := zfore_le _ _ _ _ _ _ _ _
                have b2 : -9999 ≤ zfo (mv σ) (mv σ 12) c0 x p q ∧ zfo (mv σ) (mv σ 12) c0 x p q ≤ 9999 := zfore_le _ _ _ _ _ _ _ _
                have b3 := hW.1 (6 * c0 + j) (by omega) (by omega)
                unfold zfoP
                (repeat' split) <;> omega
              refine fn_aload_0 hV dX11_foretoldError_145 ?_
              refine fn_iload_2 hV dX11_foretoldError_146 ?_
              refine fn_iconst hV dX11_foretoldError_147 ?_
              refine fn_cV2 hV (c_X11_errorOf E _ hP4 _ _ (by omega) (by decide)) mv_X11_errorOf lk_X11_138 dX11_foretoldError_148 sh_51 rfl ⟨rfl, rfl⟩ rfl ?_
              exact fn_iret hR dX11_foretoldError_151 (zMP.fr hσ1 (F4.mono (by decide)) (by unfold S_foretoldError; rw [if_neg (by omega), if_neg (by intro h; exact h q55)]; exact zer_congr v4 h 0))
            · refine fn_sipush hV dX11_foretoldError_58 rfl ?_
              exact fn_iret hR dX11_foretoldError_61 (zMP.rf hσ1 (by unfold S_foretoldError; rw [if_neg (by omega), if_pos q55]))
          · refine fn_sipush hV dX11_foretoldError_42 rfl ?_
            exact fn_iret hR dX11_foretoldError_45 (zMP.rf hσ1 (by unfold S_foretoldError; rw [if_pos (by omega)]))

set_option maxHeartbeats 4000000 in
set_option maxRecDepth 20000 in
theorem c_X11_about (E : fnE) (σ : fnMem) (hW : zWF (mv σ)) (l : Int) (h_l : fnR l) (w : Int) (h_w : fnR w) : fnOk E mX11_about [.ref 51, zI l, zI w] σ (fnQI (zMP (S_about (mv σ) l w) (mv σ) σ)) := by
  refine fnOk.of [.ref 51, zI l, zI w] rfl (by decide +kernel) rfl (fun V hV hR => ?_)
  replace hV : fnCx E RX11 cX11_about 3 8 175 V := hV
  replace hR : fnRt cX11_about (some .int) _ V := hR
  refine fn_aload_0 hV dX11_about_0 ?_
  refine fn_iconst hV dX11_about_1 ?_
  refine fn_putIz hV 0 dX11_about_2 fp_X11_96 fi_51_0 rfl ?_
  generalize hσ1 : fnUp σ 51 0 0 = σ1
  have e : ∀ k, k ≠ 51 → σ1 k = σ k := fun k hk => by rw [← hσ1, fnUp_ne _ _ _ hk]
  have e0 : ∀ j, j ≠ 0 → σ1 51 j = mv σ 0 j := fun j hj => by rw [← hσ1, fnUp_off _ _ _ hj]; rfl
  have f16 : mv σ 16 = σ1 67 := (e 67 (by decide)).symm
  have f17 : mv σ 17 = σ1 68 := (e 68 (by decide)).symm
  have f18 : mv σ 18 = σ1 69 := (e 69 (by decide)).symm
  have f19 : mv σ 19 = σ1 70 := (e 70 (by decide)).symm
  have f20 : mv σ 20 = σ1 71 := (e 71 (by decide)).symm
  have f21 : mv σ 21 = σ1 72 := (e 72 (by decide)).symm
  obtain ⟨x1, x2, x3, x4, x5, x6, x7, x8⟩ := hW.2.2.2.2.2
  have g18 := e0 18 (by decide)
  refine fn_iload_1 hV dX11_about_5 ?_
  refine fn_i2lr hV dX11_about_6 (by omega) ?_
  refine fn_lconst0 hV dX11_about_7 ?_
  refine fn_aload_0 hV dX11_about_8 ?_
  refine fn_getIz hV 18 dX11_about_9 fl_X11_272 fi_51_18 rfl ?_
  refine fn_iconst hV dX11_about_12 ?_
  refine fn_isub hV dX11_about_13 ?_
  refine fn_i2lr hV dX11_about_14 (by omega) ?_
  refine fn_cS3 hV (c_X11_in E _ _ _ _ (by omega) (by omega) (by omega)) ms_X11_in lk_X11_117 dX11_about_15 ⟨rfl, rfl⟩ rfl ?_
  refine fn_ifneb hV dX11_about_18 (fun q18 => ?_) (fun q18 => ?_)
  · refine fn_iload_2 hV dX11_about_25 ?_
    by_cases w26_0 : w = 0
    · refine fn_tswIn (tgt := 76) hV 0 dX11_about_26 (by omega) (by omega) (by omega) rfl (by decide) ?_
      refine fn_aload_0 hV dX11_about_76 ?_
      refine fn_getR hV dX11_about_77 fl_X11_60 fr_51_19 ?_
      refine fn_iload_1 hV dX11_about_80 ?_
      refine fn_iald hV dX11_about_81 ar_67 (by omega) (by omega) ?_
      exact fn_iret hR dX11_about_82 (zMP.rf hσ1 (by unfold S_about; rw [if_neg (by omega), if_pos (by omega)]; rw [f16]))
    by_cases w26_1 : w = 1
    · refine fn_tswIn (tgt := 83) hV 1 dX11_about_26 (by omega) (by omega) (by omega) rfl (by decide) ?_
      refine fn_aload_0 hV dX11_about_83 ?_
      refine fn_getR hV dX11_about_84 fl_X11_63 fr_51_20 ?_
      refine fn_iload_1 hV dX11_about_87 ?_
      refine fn_iald hV dX11_about_88 ar_68 (by omega) (by omega) ?_
      exact fn_iret hR dX11_about_89 (zMP.rf hσ1 (by unfold S_about; rw [if_neg (by omega), if_neg (by omega), if_pos (by omega)]; rw [f17]))
    by_cases w26_2 : w = 2
    · refine fn_tswIn (tgt := 90) hV 2 dX11_about_26 (by omega) (by omega) (by omega) rfl (by decide) ?_
      refine fn_aload_0 hV dX11_about_90 ?_
      refine fn_getR hV dX11_about_91 fl_X11_66 fr_51_21 ?_
      refine fn_iload_1 hV dX11_about_94 ?_
      refine fn_iald hV dX11_about_95 ar_69 (by omega) (by omega) ?_
      exact fn_iret hR dX11_about_96 (zMP.rf hσ1 (by unfold S_about; rw [if_neg (by omega), if_neg (by omega), if_neg (by omega), if_pos (by omega)]; rw [f18]))
    by_cases w26_3 : w = 3
    · refine fn_tswIn (tgt := 97) hV 3 dX11_about_26 (by omega) (by omega) (by omega) rfl (by decide) ?_
      refine fn_aload_0 hV dX11_about_97 ?_
      refine fn_getR hV dX11_about_98 fl_X11_69 fr_51_22 ?_
      refine fn_iload_1 hV dX11_about_101 ?_
      refine fn_iald hV dX11_about_102 ar_70 (by omega) (by omega) ?_
      exact fn_iret hR dX11_about_103 (zMP.rf hσ1 (by unfold S_about; rw [if_neg (by omega), if_neg (by omega), if_neg (by omega), if_neg (by omega), if_pos (by omega)]; rw [f19]))
    by_cases w26_4 : w = 4
    · refine fn_tswIn (tgt := 104) hV 4 dX11_about_26 (by omega) (by omega) (by omega) rfl (by decide) ?_
      refine fn_aload_0 hV dX11_about_104 ?_
      refine fn_getR hV dX11_about_105 fl_X11_72 fr_51_23 ?_
      refine fn_iload_1 hV dX11_about_108 ?_
      refine fn_iald hV dX11_about_109 ar_71 (by omega) (by omega) ?_
      exact fn_iret hR dX11_about_110 (zMP.rf hσ1 (by unfold S_about; rw [if_neg (by omega), if_neg (by omega), if_neg (by omega), if_neg (by omega), if_neg (by omega), if_pos (by omega)]; rw [f20]))
    by_cases w26_5 : w = 5
    · refine fn_tswIn (tgt := 111) hV 5 dX11_about_26 (by omega) (by omega) (by omega) rfl (by decide) ?_
      refine fn_aload_0 hV dX11_about_111 ?_
      refine fn_getR hV dX11_about_112 fl_X11_75 fr_51_24 ?_
      refine fn_iload_1 hV dX11_about_115 ?_
      refine fn_iald hV dX11_about_116 ar_72 (by omega) (by omega) ?_
      exact fn_iret hR dX11_about_117 (zMP.rf hσ1 (by unfold S_about; rw [if_neg (by omega), if_neg (by omega), if_neg (by omega), if_neg (by omega), if_neg (by omega), if_neg (by omega), if_pos (by omega)]; rw [f21]))
    by_cases w26_6 : w = 6
    · refine fn_tswIn (tgt := 118) hV 6 dX11_about_26 (by omega) (by omega) (by omega) rfl (by decide) ?_
      refine fn_aload_0 hV dX11_about_118 ?_
      refine fn_iload_1 hV dX11_about_119 ?_
      refine fn_cV1I hV (c_X11_courseOf E _ (mv σ) (zsc0 hσ1) hW _ (by omega)) mv_X11_courseOf lk_X11_278 dX11_about_120 sh_51 rfl ⟨rfl, rfl⟩ rfl (fun z σ2 hp => ?_)
      obtain ⟨rfl, cF⟩ := hp
      exact fn_iret hR dX11_about_123 (zMP.fr hσ1 (cF.mono (by decide)) (by unfold S_about; simp only [if_neg (show ¬ ¬ (0 ≤ l ∧ l ≤ mv σ 0 18 - 1) by omega), if_neg (show ¬ w = 0 by omega), if_neg (show ¬ w = 1 by omega), if_neg (show ¬ w = 2 by omega), if_neg (show ¬ w = 3 by omega), if_neg (show ¬ w = 4 by omega), if_neg (show ¬ w = 5 by omega), if_pos (show w = 6 by omega)]))
    by_cases w26_7 : w = 7
    · refine fn_tswIn (tgt := 124) hV 7 dX11_about_26 (by omega) (by omega) (by omega) rfl (by decide) ?_
      refine fn_aload_0 hV dX11_about_124 ?_
      refine fn_iload_1 hV dX11_about_125 ?_
      refine fn_cV1I hV (c_X11_restOf E _ (mv σ) (zsc0 hσ1) hW _ (by omega)) mv_X11_restOf lk_X11_284 dX11_about_126 sh_51 rfl ⟨rfl, rfl⟩ rfl (fun z σ2 hp => ?_)
      obtain ⟨rfl, cF⟩ := hp
      exact fn_iret hR dX11_about_129 (zMP.fr hσ1 (cF.mono (by decide)) (by unfold S_about; simp only [if_neg (show ¬ ¬ (0 ≤ l ∧ l ≤ mv σ 0 18 - 1) by omega), if_neg (show ¬ w = 0 by omega), if_neg (show ¬ w = 1 by omega), if_neg (show ¬ w = 2 by omega), if_neg (show ¬ w = 3 by omega), if_neg (show ¬ w = 4 by omega), if_neg (show ¬ w = 5 by omega), if_neg (show ¬ w = 6 by omega), if_pos (show w = 7 by omega)]))
    by_cases w26_8 : w = 8
    · refine fn_tswIn (tgt := 130) hV 8 dX11_about_26 (by omega) (by omega) (by omega) rfl (by decide) ?_
      refine fn_aload_0 hV dX11_about_130 ?_
      refine fn_iload_1 hV dX11_about_131 ?_
      refine fn_cV1I hV (c_X11_apartOf E _ (mv σ) (zsc0 hσ1) hW _ (by omega)) mv_X11_apartOf lk_X11_287 dX11_about_132 sh_51 rfl ⟨rfl, rfl⟩ rfl (fun z σ2 hp => ?_)
      obtain ⟨rfl, cF⟩ := hp
      exact fn_iret hR dX11_about_135 (zMP.fr hσ1 (cF.mono (by decide)) (by unfold S_about; simp only [if_neg (show ¬ ¬ (0 ≤ l ∧ l ≤ mv σ 0 18 - 1) by omega), if_neg (show ¬ w = 0 by omega), if_neg (show ¬ w = 1 by omega), if_neg (show ¬ w = 2 by omega), if_neg (show ¬ w = 3 by omega), if_neg (show ¬ w = 4 by omega), if_neg (show ¬ w = 5 by omega), if_neg (show ¬ w = 6 by omega), if_neg (show ¬ w = 7 by omega), if_pos (show w = 8 by omega)]))
    refine fn_tswOut (tgt := 136) hV dX11_about_26 (by omega) (by omega) (by decide) ?_
    refine fn_sipush hV dX11_about_136 rfl ?_
    exact fn_iret hR dX11_about_139 (zMP.rf hσ1 (by unfold S_about; rw [if_neg (by omega), if_neg (by omega), if_neg (by omega), if_neg (by omega), if_neg (by omega), if_neg (by omega), if_neg (by omega), if_neg (by omega), if_neg (by omega), if_neg (by omega)]))
  · refine fn_sipush hV dX11_about_21 rfl ?_
    exact fn_iret hR dX11_about_24 (zMP.rf hσ1 (by unfold S_about; rw [if_pos (by omega)]))

set_option maxHeartbeats 4000000 in
set_option maxRecDepth 20000 in
theorem c_X11_courses (E : fnE) (σ : fnMem) (μ : fnMem) (hM : fnSc μ (mv σ)) (hW : zWF μ)  : fnOk E mX11_courses [.ref 51] σ (fnQv (fun s => fnFr [73, 74, 78] σ s ∧ ∀ l : Int, 0 ≤ l → l < μ 0 18 → s 78 l = zcrs μ l)) := by
  refine fnOk.of [.ref 51, .null] rfl (by decide +kernel) rfl (fun V hV hR => ?_)
  replace hV : fnCx E RX11 cX11_courses 2 7 154 V := hV
  replace hR : fnRt cX11_courses none _ V := hR
  obtain ⟨L, hL, hL4⟩ := hW.L
  have g18 : σ 51 18 = μ 0 18 := hM.f (by decide) (by decide)
  refine fn_iconst hV dX11_courses_0 ?_
  refine fn_istore_1 hV dX11_courses_1 rfl rfl ?_
  have L : ∀ k : Nat, k ≤ L → ∀ (i : Int) (σ1 : fnMem), True → (i = k) → (fnFr [73, 74, 78] σ σ1) → (∀ l : Int, 0 ≤ l → l < k → σ1 78 l = zcrs μ l) → V 2 [.ref 51, zI i] [] σ1 := by
    refine fn_rec (fun k hk ihL => ?_)
    intro i σ1 _ hi gF gv
    refine fn_iload_1 hV dX11_courses_2 ?_
    refine fn_aload_0 hV dX11_courses_3 ?_
    refine fn_getIz hV 18 dX11_courses_4 fl_X11_272 fi_51_18 rfl ?_
    have e18 : σ1 51 18 = L := by rw [gF 51 (by decide), g18, hL]
    have hM1 : fnSc μ (mv σ1) := hM.fr (gF.mono (by decide))
    refine fn_icmp_ge hV (by omega) (by omega) dX11_courses_7 (fun q7 => ?_) (fun q7 => ?_)
    · exact fn_vret hR dX11_courses_27 (fnQv.mk ⟨gF, fun l l0 l1 => gv l l0 (by omega)⟩)
    · refine fn_aload_0 hV dX11_courses_10 ?_
      refine fn_getR hV dX11_courses_11 fl_X11_93 fr_51_31 ?_
      refine fn_iload_1 hV dX11_courses_14 ?_
      refine fn_aload_0 hV dX11_courses_15 ?_
      refine fn_iload_1 hV dX11_courses_16 ?_
      refine fn_cV1I hV (c_X11_courseOf E _ μ hM1 hW _ (by omega)) mv_X11_courseOf lk_X11_278 dX11_courses_17 sh_51 rfl ⟨rfl, rfl⟩ rfl (fun z σ2 hp => ?_)
      obtain ⟨rfl, cF⟩ := hp
      refine fn_iast hV dX11_courses_20 ar_78 (by omega) (by omega) ?_
      refine fn_iinc_1 hV dX11_courses_21 rfl rfl ?_
      refine fn_goto hV dX11_courses_24 ?_
      exact ihL (k + 1) (by omega) (by omega) _ _ trivial (by omega) ((gF.tr (cF.mono (by decide))).up (by decide)) (fun l l0 l1 => by
      rw [fnUp_ap]
      split
      · rename_i hl; rw [hl]
      · rw [cF 78 (by decide)]; exact gv l l0 (by omega))
  exact L 0 (by omega) _ _ trivial (by omega) fnFr.rf (fun l l0 l1 => by omega)
