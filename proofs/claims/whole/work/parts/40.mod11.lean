set_option maxHeartbeats 4000000 in
set_option maxRecDepth 20000 in
theorem c_X11_leg (E : fnE) (σ : fnMem) (hW : zWF (mv σ)) (d : Int) (h_d : fnR d) (r : Int) (h_r : fnR r) (g : Int) (h_g : fnR g) (m : Int) (h_m : fnR m) (o : Int) (h_o : fnR o) (s : Int) (h_s : fnR s) : fnOk E mX11_leg [.ref 51, zI d, zI r, zI g, zI m, zI o, zI s] σ (fnQI (zMP (S_leg (mv σ) d r g m o s) (U_leg (mv σ) d r g m o s) σ)) := by
  refine fnOk.of [.ref 51, zI d, zI r, zI g, zI m, zI o, zI s] rfl (by decide +kernel) rfl (fun V hV hR => ?_)
  replace hV : fnCx E RX11 cX11_leg 7 2 45 V := hV
  replace hR : fnRt cX11_leg (some .int) _ V := hR
  refine fn_aload_0 hV dX11_leg_0 ?_
  refine fn_iconst hV dX11_leg_1 ?_
  refine fn_putIz hV 0 dX11_leg_2 fp_X11_96 fi_51_0 rfl ?_
  generalize hσ1 : fnUp σ 51 0 0 = σ1
  have e : ∀ k, k ≠ 51 → σ1 k = σ k := fun k hk => by rw [← hσ1, fnUp_ne _ _ _ hk]
  have e0 : ∀ j, j ≠ 0 → σ1 51 j = mv σ 0 j := fun j hj => by rw [← hσ1, fnUp_off _ _ _ hj]; rfl
  have f16 : mv σ 16 = σ1 67 := (e 67 (by decide)).symm
  obtain ⟨x1, x2, x3, x4, x5, x6, x7, x8⟩ := hW.2.2.2.2.2
  have g18 := e0 18 (by decide)
  refine fn_iload_1 hV dX11_leg_5 ?_
  refine fn_cS1 hV (c_X11_noDay E _ _ (by omega)) ms_X11_noDay lk_X11_262 dX11_leg_6 ⟨rfl, rfl⟩ rfl ?_
  refine fn_ifnen hV dX11_leg_9 (fun q9 => ?_) (fun q9 => ?_)
  · refine fn_sipush hV dX11_leg_78 rfl ?_
    exact fn_iret hR dX11_leg_81 (zMP.rfU hσ1 (by unfold S_leg; rw [if_pos (by omega)]) (by unfold U_leg; exact if_neg (by omega)))
  · refine fn_iload_2 hV dX11_leg_12 ?_
    refine fn_cS1 hV (c_X11_noRound E _ _ (by omega)) ms_X11_noRound lk_X11_144 dX11_leg_13 ⟨rfl, rfl⟩ rfl ?_
    refine fn_ifnen hV dX11_leg_16 (fun q16 => ?_) (fun q16 => ?_)
    · refine fn_sipush hV dX11_leg_78 rfl ?_
      exact fn_iret hR dX11_leg_81 (zMP.rfU hσ1 (by unfold S_leg; rw [if_pos (by omega)]) (by unfold U_leg; exact if_neg (by omega)))
    · refine fn_iload_3 hV dX11_leg_19 ?_
      refine fn_cS1 hV (c_X11_noHeel E _ _ (by omega)) ms_X11_noHeel lk_X11_165 dX11_leg_20 ⟨rfl, rfl⟩ rfl ?_
      refine fn_ifnen hV dX11_leg_23 (fun q23 => ?_) (fun q23 => ?_)
      · refine fn_sipush hV dX11_leg_78 rfl ?_
        exact fn_iret hR dX11_leg_81 (zMP.rfU hσ1 (by unfold S_leg; rw [if_pos (by omega)]) (by unfold U_leg; exact if_neg (by omega)))
      · refine fn_iload_4 hV dX11_leg_26 ?_
        refine fn_i2lr hV dX11_leg_28 (by omega) ?_
        refine fn_lconst0 hV dX11_leg_29 ?_
        refine fn_ldc2 hV dX11_leg_30 co_X11_267 ?_
        refine fn_cS3 hV (c_X11_in E _ _ _ _ (by omega) (by omega) (by omega)) ms_X11_in lk_X11_117 dX11_leg_33 ⟨rfl, rfl⟩ rfl ?_
        refine fn_ifeqb hV dX11_leg_36 (fun q36 => ?_) (fun q36 => ?_)
        · refine fn_sipush hV dX11_leg_78 rfl ?_
          exact fn_iret hR dX11_leg_81 (zMP.rfU hσ1 (by unfold S_leg; rw [if_pos (by omega)]) (by unfold U_leg; exact if_neg (by omega)))
        · refine fn_iload_5 hV dX11_leg_39 ?_
          refine fn_sipush hV dX11_leg_41 rfl ?_
          refine fn_icmp_eq hV (by omega) (by omega) dX11_leg_44 (fun q44 => ?_) (fun q44 => ?_)
          · refine fn_iload_6 hV dX11_leg_55 ?_
            refine fn_sipush hV dX11_leg_57 rfl ?_
            refine fn_icmp_eq hV (by omega) (by omega) dX11_leg_60 (fun q60 => ?_) (fun q60 => ?_)
            · have hj2 : 0 < mv σ 0 18 → 0 ≤ mv σ 16 (mv σ 0 18 - 1) ∧ mv σ 16 (mv σ 0 18 - 1) ≤ 999 := fun h0 => x2 _ (by omega) (by omega)
              have f16l : σ1 67 (σ1 51 18 - 1) = mv σ 16 (mv σ 0 18 - 1) := by rw [← f16, g18]
              refine fn_aload_0 hV dX11_leg_82 ?_
              refine fn_getIz hV 18 dX11_leg_83 fl_X11_272 fi_51_18 rfl ?_
              refine fn_if_le hV (by omega) dX11_leg_86 (fun q86 => ?_) (fun q86 => ?_)
              · refine fn_aload_0 hV dX11_leg_108 ?_
                refine fn_getIz hV 18 dX11_leg_109 fl_X11_272 fi_51_18 rfl ?_
                refine fn_bipush hV dX11_leg_112 rfl ?_
                refine fn_icmp_ne hV (by omega) (by omega) dX11_leg_114 (fun q114 => ?_) (fun q114 => ?_)
                · refine fn_aload_0 hV dX11_leg_121 ?_
                  refine fn_getR hV dX11_leg_122 fl_X11_60 fr_51_19 ?_
                  refine fn_aload_0 hV dX11_leg_125 ?_
                  refine fn_getIz hV 18 dX11_leg_126 fl_X11_272 fi_51_18 rfl ?_
                  rw [g18]
                  refine fn_iload_1 hV dX11_leg_129 ?_
                  refine fn_iast hV dX11_leg_130 ar_67 (by omega) (by omega) ?_
                  refine fn_aload_0 hV dX11_leg_131 ?_
                  refine fn_getR hV dX11_leg_132 fl_X11_63 fr_51_20 ?_
                  refine fn_aload_0 hV dX11_leg_135 ?_
                  refine fn_getIz hV 18 dX11_leg_136 fl_X11_272 fi_51_18 rfl ?_
                  simp only [fnUp_ne _ _ _ (show (51 : Nat) ≠ 67 by decide), fnUp_ne _ _ _ (show (51 : Nat) ≠ 68 by decide), fnUp_ne _ _ _ (show (51 : Nat) ≠ 69 by decide), fnUp_ne _ _ _ (show (51 : Nat) ≠ 70 by decide), fnUp_ne _ _ _ (show (51 : Nat) ≠ 71 by decide), fnUp_ne _ _ _ (show (51 : Nat) ≠ 72 by decide)]
                  rw [g18]
                  refine fn_iload_2 hV dX11_leg_139 ?_
                  refine fn_iast hV dX11_leg_140 ar_68 (by omega) (by omega) ?_
                  refine fn_aload_0 hV dX11_leg_141 ?_
                  refine fn_getR hV dX11_leg_142 fl_X11_66 fr_51_21 ?_
                  refine fn_aload_0 hV dX11_leg_145 ?_
                  refine fn_getIz hV 18 dX11_leg_146 fl_X11_272 fi_51_18 rfl ?_
                  simp only [fnUp_ne _ _ _ (show (51 : Nat) ≠ 67 by decide), fnUp_ne _ _ _ (show (51 : Nat) ≠ 68 by decide), fnUp_ne _ _ _ (show (51 : Nat) ≠ 69 by decide), fnUp_ne _ _ _ (show (51 : Nat) ≠ 70 by decide), fnUp_ne _ _ _ (show (51 : Nat) ≠ 71 by decide), fnUp_ne _ _ _ (show (51 : Nat) ≠ 72 by decide)]
                  rw [g18]
                  refine fn_iload_3 hV dX11_leg_149 ?_
                  refine fn_iast hV dX11_leg_150 ar_69 (by omega) (by omega) ?_
                  refine fn_aload_0 hV dX11_leg_151 ?_
                  refine fn_getR hV dX11_leg_152 fl_X11_69 fr_51_22 ?_
                  refine fn_aload_0 hV dX11_leg_155 ?_
                  refine fn_getIz hV 18 dX11_leg_156 fl_X11_272 fi_51_18 rfl ?_
                  simp only [fnUp_ne _ _ _ (show (51 : Nat) ≠ 67 by decide), fnUp_ne _ _ _ (show (51 : Nat) ≠ 68 by decide), fnUp_ne _ _ _ (show (51 : Nat) ≠ 69 by decide), fnUp_ne _ _ _ (show (51 : Nat) ≠ 70 by decide), fnUp_ne _ _ _ (show (51 : Nat) ≠ 71 by decide), fnUp_ne _ _ _ (show (51 : Nat) ≠ 72 by decide)]
                  rw [g18]
                  refine fn_iload_4 hV dX11_leg_159 ?_
                  refine fn_iast hV dX11_leg_161 ar_70 (by omega) (by omega) ?_
                  refine fn_aload_0 hV dX11_leg_162 ?_
                  refine fn_getR hV dX11_leg_163 fl_X11_72 fr_51_23 ?_
                  refine fn_aload_0 hV dX11_leg_166 ?_
                  refine fn_getIz hV 18 dX11_leg_167 fl_X11_272 fi_51_18 rfl ?_
                  simp only [fnUp_ne _ _ _ (show (51 : Nat) ≠ 67 by decide), fnUp_ne _ _ _ (show (51 : Nat) ≠ 68 by decide), fnUp_ne _ _ _ (show (51 : Nat) ≠ 69 by decide), fnUp_ne _ _ _ (show (51 : Nat) ≠ 70 by decide), fnUp_ne _ _ _ (show (51 : Nat) ≠ 71 by decide), fnUp_ne _ _ _ (show (51 : Nat) ≠ 72 by decide)]
                  rw [g18]
                  refine fn_iload_5 hV dX11_leg_170 ?_
                  refine fn_iast hV dX11_leg_172 ar_71 (by omega) (by omega) ?_
                  refine fn_aload_0 hV dX11_leg_173 ?_
                  refine fn_getR hV dX11_leg_174 fl_X11_75 fr_51_24 ?_
                  refine fn_aload_0 hV dX11_leg_177 ?_
                  refine fn_getIz hV 18 dX11_leg_178 fl_X11_272 fi_51_18 rfl ?_
                  simp only [fnUp_ne _ _ _ (show (51 : Nat) ≠ 67 by decide), fnUp_ne _ _ _ (show (51 : Nat) ≠ 68 by decide), fnUp_ne _ _ _ (show (51 : Nat) ≠ 69 by decide), fnUp_ne _ _ _ (show (51 : Nat) ≠ 70 by decide), fnUp_ne _ _ _ (show (51 : Nat) ≠ 71 by decide), fnUp_ne _ _ _ (show (51 : Nat) ≠ 72 by decide)]
                  rw [g18]
                  refine fn_iload_6 hV dX11_leg_181 ?_
                  refine fn_iast hV dX11_leg_183 ar_72 (by omega) (by omega) ?_
                  refine fn_aload_0 hV dX11_leg_184 ?_
                  refine fn_dup hV dX11_leg_185 rfl ?_
                  refine fn_getIz hV 18 dX11_leg_186 fl_X11_272 fi_51_18 rfl ?_
                  simp only [fnUp_ne _ _ _ (show (51 : Nat) ≠ 67 by decide), fnUp_ne _ _ _ (show (51 : Nat) ≠ 68 by decide), fnUp_ne _ _ _ (show (51 : Nat) ≠ 69 by decide), fnUp_ne _ _ _ (show (51 : Nat) ≠ 70 by decide), fnUp_ne _ _ _ (show (51 : Nat) ≠ 71 by decide), fnUp_ne _ _ _ (show (51 : Nat) ≠ 72 by decide)]
                  rw [g18]
                  refine fn_iconst hV dX11_leg_189 ?_
                  refine fn_iadd hV dX11_leg_190 ?_
                  refine fn_putIz hV 18 dX11_leg_191 fp_X11_272 fi_51_18 rfl ?_
                  refine fn_aload_0 hV dX11_leg_194 ?_
                  refine fn_getIz hV 18 dX11_leg_195 fl_X11_272 fi_51_18 rfl ?_
                  rw [fnUp_at]
                  refine fn_iconst hV dX11_leg_198 ?_
                  refine fn_isub hV dX11_leg_199 ?_
                  exact fn_iret hR dX11_leg_200 (zMP.up hσ1 (by unfold S_leg; rw [if_neg (by omega), if_neg (by omega), if_neg (by omega)]; omega) (fun k hk => by rw [fnUp_ne _ _ _ (by omega), fnUp_ne _ _ _ (by omega), fnUp_ne _ _ _ (by omega), fnUp_ne _ _ _ (by omega), fnUp_ne _ _ _ (by omega), fnUp_ne _ _ _ (by omega), fnUp_ne _ _ _ (by omega)]) (by rw [show U_leg (mv σ) d r g m o s = fnUp (fnUp (fnUp (fnUp (fnUp (fnUp (fnUp (mv σ) 16 (mv σ 0 18) d) 17 (mv σ 0 18) r) 18 (mv σ 0 18) g) 19 (mv σ 0 18) m) 20 (mv σ 0 18) o) 21 (mv σ 0 18) s) 0 18 (mv σ 0 18 + 1) from by unfold U_leg; exact if_pos (by omega)]; exact (((((((zsc0 hσ1).up 16 _ _).up 17 _ _).up 18 _ _).up 19 _ _).up 20 _ _).up 21 _ _).up 0 _ _))
                · refine fn_sipush hV dX11_leg_117 rfl ?_
                  exact fn_iret hR dX11_leg_120 (zMP.rfU hσ1 (by unfold S_leg; rw [if_neg (by omega), if_neg (by omega), if_pos (by omega)]) (by unfold U_leg; exact if_neg (by omega)))
              · refine fn_iload_1 hV dX11_leg_89 ?_
                refine fn_aload_0 hV dX11_leg_90 ?_
                refine fn_getR hV dX11_leg_91 fl_X11_60 fr_51_19 ?_
                refine fn_aload_0 hV dX11_leg_94 ?_
                refine fn_getIz hV 18 dX11_leg_95 fl_X11_272 fi_51_18 rfl ?_
                refine fn_iconst hV dX11_leg_98 ?_
                refine fn_isub hV dX11_leg_99 ?_
                refine fn_iald hV dX11_leg_100 ar_67 (by omega) (by omega) ?_
                refine fn_icmp_ge hV (by omega) (by omega) dX11_leg_101 (fun q101 => ?_) (fun q101 => ?_)
                · refine fn_aload_0 hV dX11_leg_108 ?_
                  refine fn_getIz hV 18 dX11_leg_109 fl_X11_272 fi_51_18 rfl ?_
                  refine fn_bipush hV dX11_leg_112 rfl ?_
                  refine fn_icmp_ne hV (by omega) (by omega) dX11_leg_114 (fun q114 => ?_) (fun q114 => ?_)
                  · refine fn_aload_0 hV dX11_leg_121 ?_
                    refine fn_getR hV dX11_leg_122 fl_X11_60 fr_51_19 ?_
                    refine fn_aload_0 hV dX11_leg_125 ?_
                    refine fn_getIz hV 18 dX11_leg_126 fl_X11_272 fi_51_18 rfl ?_
                    rw [g18]
                    refine fn_iload_1 hV dX11_leg_129 ?_
                    refine fn_iast hV dX11_leg_130 ar_67 (by omega) (by omega) ?_
                    refine fn_aload_0 hV dX11_leg_131 ?_
                    refine fn_getR hV dX11_leg_132 fl_X11_63 fr_51_20 ?_
                    refine fn_aload_0 hV dX11_leg_135 ?_
                    refine fn_getIz hV 18 dX11_leg_136 fl_X11_272 fi_51_18 rfl ?_
                    simp only [fnUp_ne _ _ _ (show (51 : Nat) ≠ 67 by decide), fnUp_ne _ _ _ (show (51 : Nat) ≠ 68 by decide), fnUp_ne _ _ _ (show (51 : Nat) ≠ 69 by decide), fnUp_ne _ _ _ (show (51 : Nat) ≠ 70 by decide), fnUp_ne _ _ _ (show (51 : Nat) ≠ 71 by decide), fnUp_ne _ _ _ (show (51 : Nat) ≠ 72 by decide)]
                    rw [g18]
                    refine fn_iload_2 hV dX11_leg_139 ?_
                    refine fn_iast hV dX11_leg_140 ar_68 (by omega) (by omega) ?_
                    refine fn_aload_0 hV dX11_leg_141 ?_
                    refine fn_getR hV dX11_leg_142 fl_X11_66 fr_51_21 ?_
                    refine fn_aload_0 hV dX11_leg_145 ?_
                    refine fn_getIz hV 18 dX11_leg_146 fl_X11_272 fi_51_18 rfl ?_
                    simp only [fnUp_ne _ _ _ (show (51 : Nat) ≠ 67 by decide), fnUp_ne _ _ _ (show (51 : Nat) ≠ 68 by decide), fnUp_ne _ _ _ (show (51 : Nat) ≠ 69 by decide), fnUp_ne _ _ _ (show (51 : Nat) ≠ 70 by decide), fnUp_ne _ _ _ (show (51 : Nat) ≠ 71 by decide), fnUp_ne _ _ _ (show (51 : Nat) ≠ 72 by decide)]
                    rw [g18]
                    refine fn_iload_3 hV dX11_leg_149 ?_
                    refine fn_iast hV dX11_leg_150 ar_69 (by omega) (by omega) ?_
                    refine fn_aload_0 hV dX11_leg_151 ?_
                    refine fn_getR hV dX11_leg_152 fl_X11_69 fr_51_22 ?_
                    refine fn_aload_0 hV dX11_leg_155 ?_
                    refine fn_getIz hV 18 dX11_leg_156 fl_X11_272 fi_51_18 rfl ?_
                    simp only [fnUp_ne _ _ _ (show (51 : Nat) ≠ 67 by decide), fnUp_ne _ _ _ (show (51 : Nat) ≠ 68 by decide), fnUp_ne _ _ _ (show (51 : Nat) ≠ 69 by decide), fnUp_ne _ _ _ (show (51 : Nat) ≠ 70 by decide), fnUp_ne _ _ _ (show (51 : Nat) ≠ 71 by decide), fnUp_ne _ _ _ (show (51 : Nat) ≠ 72 by decide)]
                    rw [g18]
                    refine fn_iload_4 hV dX11_leg_159 ?_
                    refine fn_iast hV dX11_leg_161 ar_70 (by omega) (by omega) ?_
                    refine fn_aload_0 hV dX11_leg_162 ?_
                    refine fn_getR hV dX11_leg_163 fl_X11_72 fr_51_23 ?_
                    refine fn_aload_0 hV dX11_leg_166 ?_
                    refine fn_getIz hV 18 dX11_leg_167 fl_X11_272 fi_51_18 rfl ?_
                    simp only [fnUp_ne _ _ _ (show (51 : Nat) ≠ 67 by decide), fnUp_ne _ _ _ (show (51 : Nat) ≠ 68 by decide), fnUp_ne _ _ _ (show (51 : Nat) ≠ 69 by decide), fnUp_ne _ _ _ (show (51 : Nat) ≠ 70 by decide), fnUp_ne _ _ _ (show (51 : Nat) ≠ 71 by decide), fnUp_ne _ _ _ (show (51 : Nat) ≠ 72 by decide)]
                    rw [g18]
                    refine fn_iload_5 hV dX11_leg_170 ?_
                    refine fn_iast hV dX11_leg_172 ar_71 (by omega) (by omega) ?_
                    refine fn_aload_0 hV dX11_leg_173 ?_
                    refine fn_getR hV dX11_leg_174 fl_X11_75 fr_51_24 ?_
                    refine fn_aload_0 hV dX11_leg_177 ?_
                    refine fn_getIz hV 18 dX11_leg_178 fl_X11_272 fi_51_18 rfl ?_
                    simp only [fnUp_ne _ _ _ (show (51 : Nat) ≠ 67 by decide), fnUp_ne _ _ _ (show (51 : Nat) ≠ 68 by decide), fnUp_ne _ _ _ (show (51 : Nat) ≠ 69 by decide), fnUp_ne _ _ _ (show (51 : Nat) ≠ 70 by decide), fnUp_ne _ _ _ (show (51 : Nat) ≠ 71 by decide), fnUp_ne _ _ _ (show (51 : Nat) ≠ 72 by decide)]
                    rw [g18]
                    refine fn_iload_6 hV dX11_leg_181 ?_
                    refine fn_iast hV dX11_leg_183 ar_72 (by omega) (by omega) ?_
                    refine fn_aload_0 hV dX11_leg_184 ?_
                    refine fn_dup hV dX11_leg_185 rfl ?_
                    refine fn_getIz hV 18 dX11_leg_186 fl_X11_272 fi_51_18 rfl ?_
                    simp only [fnUp_ne _ _ _ (show (51 : Nat) ≠ 67 by decide), fnUp_ne _ _ _ (show (51 : Nat) ≠ 68 by decide), fnUp_ne _ _ _ (show (51 : Nat) ≠ 69 by decide), fnUp_ne _ _ _ (show (51 : Nat) ≠ 70 by decide), fnUp_ne _ _ _ (show (51 : Nat) ≠ 71 by decide), fnUp_ne _ _ _ (show (51 : Nat) ≠ 72 by decide)]
                    rw [g18]
                    refine fn_iconst hV dX11_leg_189 ?_
                    refine fn_iadd hV dX11_leg_190 ?_
                    refine fn_putIz hV 18 dX11_leg_191 fp_X11_272 fi_51_18 rfl ?_
                    refine fn_aload_0 hV dX11_leg_194 ?_
                    refine fn_getIz hV 18 dX11_leg_195 fl_X11_272 fi_51_18 rfl ?_
                    rw [fnUp_at]
                    refine fn_iconst hV dX11_leg_198 ?_
                    refine fn_isub hV dX11_leg_199 ?_
                    exact fn_iret hR dX11_leg_200 (zMP.up hσ1 (by unfold S_leg; rw [if_neg (by omega), if_neg (by omega), if_neg (by omega)]; omega) (fun k hk => by rw [fnUp_ne _ _ _ (by omega), fnUp_ne _ _ _ (by omega), fnUp_ne _ _ _ (by omega), fnUp_ne _ _ _ (by omega), fnUp_ne _ _ _ (by omega), fnUp_ne _ _ _ (by omega), fnUp_ne _ _ _ (by omega)]) (by rw [show U_leg (mv σ) d r g m o s = fnUp (fnUp (fnUp (fnUp (fnUp (fnUp (fnUp (mv σ) 16 (mv σ 0 18) d) 17 (mv σ 0 18) r) 18 (mv σ 0 18) g) 19 (mv σ 0 18) m) 20 (mv σ 0 18) o) 21 (mv σ 0 18) s) 0 18 (mv σ 0 18 + 1) from by unfold U_leg; exact if_pos (by omega)]; exact (((((((zsc0 hσ1).up 16 _ _).up 17 _ _).up 18 _ _).up 19 _ _).up 20 _ _).up 21 _ _).up 0 _ _))
                  · refine fn_sipush hV dX11_leg_117 rfl ?_
                    exact fn_iret hR dX11_leg_120 (zMP.rfU hσ1 (by unfold S_leg; rw [if_neg (by omega), if_neg (by omega), if_pos (by omega)]) (by unfold U_leg; exact if_neg (by omega)))
                · refine fn_sipush hV dX11_leg_104 rfl ?_
                  exact fn_iret hR dX11_leg_107 (zMP.rfU hσ1 (by unfold S_leg; rw [if_neg (by omega), if_pos (by omega)]) (by unfold U_leg; exact if_neg (by omega)))
            · refine fn_iload_6 hV dX11_leg_63 ?_
              refine fn_i2lr hV dX11_leg_65 (by omega) ?_
              refine fn_ldc2 hV dX11_leg_66 co_X11_181 ?_
              refine fn_ldc2 hV dX11_leg_69 co_X11_183 ?_
              refine fn_cS3 hV (c_X11_in E _ _ _ _ (by omega) (by omega) (by omega)) ms_X11_in lk_X11_117 dX11_leg_72 ⟨rfl, rfl⟩ rfl ?_
              refine fn_ifneb hV dX11_leg_75 (fun q75 => ?_) (fun q75 => ?_)
              · have hj2 : 0 < mv σ 0 18 → 0 ≤ mv σ 16 (mv σ 0 18 - 1) ∧ mv σ 16 (mv σ 0 18 - 1) ≤ 999 := fun h0 => x2 _ (by omega) (by omega)
                have f16l : σ1 67 (σ1 51 18 - 1) = mv σ 16 (mv σ 0 18 - 1) := by rw [← f16, g18]
                refine fn_aload_0 hV dX11_leg_82 ?_
                refine fn_getIz hV 18 dX11_leg_83 fl_X11_272 fi_51_18 rfl ?_
                refine fn_if_le hV (by omega) dX11_leg_86 (fun q86 => ?_) (fun q86 => ?_)
                · refine fn_aload_0 hV dX11_leg_108 ?_
                  refine fn_getIz hV 18 dX11_leg_109 fl_X11_272 fi_51_18 rfl ?_
                  refine fn_bipush hV dX11_leg_112 rfl ?_
                  refine fn_icmp_ne hV (by omega) (by omega) dX11_leg_114 (fun q114 => ?_) (fun q114 => ?_)
                  · refine fn_aload_0 hV dX11_leg_121 ?_
                    refine fn_getR hV dX11_leg_122 fl_X11_60 fr_51_19 ?_
                    refine fn_aload_0 hV dX11_leg_125 ?_
                    refine fn_getIz hV 18 dX11_leg_126 fl_X11_272 fi_51_18 rfl ?_
                    rw [g18]
                    refine fn_iload_1 hV dX11_leg_129 ?_
                    refine fn_iast hV dX11_leg_130 ar_67 (by omega) (by omega) ?_
                    refine fn_aload_0 hV dX11_leg_131 ?_
                    refine fn_getR hV dX11_leg_132 fl_X11_63 fr_51_20 ?_
                    refine fn_aload_0 hV dX11_leg_135 ?_
                    refine fn_getIz hV 18 dX11_leg_136 fl_X11_272 fi_51_18 rfl ?_
                    simp only [fnUp_ne _ _ _ (show (51 : Nat) ≠ 67 by decide), fnUp_ne _ _ _ (show (51 : Nat) ≠ 68 by decide), fnUp_ne _ _ _ (show (51 : Nat) ≠ 69 by decide), fnUp_ne _ _ _ (show (51 : Nat) ≠ 70 by decide), fnUp_ne _ _ _ (show (51 : Nat) ≠ 71 by decide), fnUp_ne _ _ _ (show (51 : Nat) ≠ 72 by decide)]
                    rw [g18]
                    refine fn_iload_2 hV dX11_leg_139 ?_
                    refine fn_iast hV dX11_leg_140 ar_68 (by omega) (by omega) ?_
                    refine fn_aload_0 hV dX11_leg_141 ?_
                    refine fn_getR hV dX11_leg_142 fl_X11_66 fr_51_21 ?_
                    refine fn_aload_0 hV dX11_leg_145 ?_
                    refine fn_getIz hV 18 dX11_leg_146 fl_X11_272 fi_51_18 rfl ?_
                    simp only [fnUp_ne _ _ _ (show (51 : Nat) ≠ 67 by decide), fnUp_ne _ _ _ (show (51 : Nat) ≠ 68 by decide), fnUp_ne _ _ _ (show (51 : Nat) ≠ 69 by decide), fnUp_ne _ _ _ (show (51 : Nat) ≠ 70 by decide), fnUp_ne _ _ _ (show (51 : Nat) ≠ 71 by decide), fnUp_ne _ _ _ (show (51 : Nat) ≠ 72 by decide)]
                    rw [g18]
                    refine fn_iload_3 hV dX11_leg_149 ?_
                    refine fn_iast hV dX11_leg_150 ar_69 (by omega) (by omega) ?_
                    refine fn_aload_0 hV dX11_leg_151 ?_
                    refine fn_getR hV dX11_leg_152 fl_X11_69 fr_51_22 ?_
                    refine fn_aload_0 hV dX11_leg_155 ?_
                    refine fn_getIz hV 18 dX11_leg_156 fl_X11_272 fi_51_18 rfl ?_
                    simp only [fnUp_ne _ _ _ (show (51 : Nat) ≠ 67 by decide), fnUp_ne _ _ _ (show (51 : Nat) ≠ 68 by decide), fnUp_ne _ _ _ (show (51 : Nat) ≠ 69 by decide), fnUp_ne _ _ _ (show (51 : Nat) ≠ 70 by decide), fnUp_ne _ _ _ (show (51 : Nat) ≠ 71 by decide), fnUp_ne _ _ _ (show (51 : Nat) ≠ 72 by decide)]
                    rw [g18]
                    refine fn_iload_4 hV dX11_leg_159 ?_
                    refine fn_iast hV dX11_leg_161 ar_70 (by omega) (by omega) ?_
                    refine fn_aload_0 hV dX11_leg_162 ?_
                    refine fn_getR hV dX11_leg_163 fl_X11_72 fr_51_23 ?_
                    refine fn_aload_0 hV dX11_leg_166 ?_
                    refine fn_getIz hV 18 dX11_leg_167 fl_X11_272 fi_51_18 rfl ?_
                    simp only [fnUp_ne _ _ _ (show (51 : Nat) ≠ 67 by decide), fnUp_ne _ _ _ (show (51 : Nat) ≠ 68 by decide), fnUp_ne _ _ _ (show (51 : Nat) ≠ 69 by decide), fnUp_ne _ _ _ (show (51 : Nat) ≠ 70 by decide), fnUp_ne _ _ _ (show (51 : Nat) ≠ 71 by decide), fnUp_ne _ _ _ (show (51 : Nat) ≠ 72 by decide)]
                    rw [g18]
                    refine fn_iload_5 hV dX11_leg_170 ?_
                    refine fn_iast hV dX11_leg_172 ar_71 (by omega) (by omega) ?_
                    refine fn_aload_0 hV dX11_leg_173 ?_
                    refine fn_getR hV dX11_leg_174 fl_X11_75 fr_51_24 ?_
                    refine fn_aload_0 hV dX11_leg_177 ?_
                    refine fn_getIz hV 18 dX11_leg_178 fl_X11_272 fi_51_18 rfl ?_
                    simp only [fnUp_ne _ _ _ (show (51 : Nat) ≠ 67 by decide), fnUp_ne _ _ _ (show (51 : Nat) ≠ 68 by decide), fnUp_ne _ _ _ (show (51 : Nat) ≠ 69 by decide), fnUp_ne _ _ _ (show (51 : Nat) ≠ 70 by decide), fnUp_ne _ _ _ (show (51 : Nat) ≠ 71 by decide), fnUp_ne _ _ _ (show (51 : Nat) ≠ 72 by decide)]
                    rw [g18]
                    refine fn_iload_6 hV dX11_leg_181 ?_
                    refine fn_iast hV dX11_leg_183 ar_72 (by omega) (by omega) ?_
                    refine fn_aload_0 hV dX11_leg_184 ?_
                    refine fn_dup hV dX11_leg_185 rfl ?_
                    refine fn_getIz hV 18 dX11_leg_186 fl_X11_272 fi_51_18 rfl ?_
                    simp only [fnUp_ne _ _ _ (show (51 : Nat) ≠ 67 by decide), fnUp_ne _ _ _ (show (51 : Nat) ≠ 68 by decide), fnUp_ne _ _ _ (show (51 : Nat) ≠ 69 by decide), fnUp_ne _ _ _ (show (51 : Nat) ≠ 70 by decide), fnUp_ne _ _ _ (show (51 : Nat) ≠ 71 by decide), fnUp_ne _ _ _ (show (51 : Nat) ≠ 72 by decide)]
                    rw [g18]
                    refine fn_iconst hV dX11_leg_189 ?_
                    refine fn_iadd hV dX11_leg_190 ?_
                    refine fn_putIz hV 18 dX11_leg_191 fp_X11_272 fi_51_18 rfl ?_
                    refine fn_aload_0 hV dX11_leg_194 ?_
                    refine fn_getIz hV 18 dX11_leg_195 fl_X11_272 fi_51_18 rfl ?_
                    rw [fnUp_at]
                    refine fn_iconst hV dX11_leg_198 ?_
                    refine fn_isub hV dX11_leg_199 ?_
                    exact fn_iret hR dX11_leg_200 (zMP.up hσ1 (by unfold S_leg; rw [if_neg (by omega), if_neg (by omega), if_neg (by omega)]; omega) (fun k hk => by rw [fnUp_ne _ _ _ (by omega), fnUp_ne _ _ _ (by omega), fnUp_ne _ _ _ (by omega), fnUp_ne _ _ _ (by omega), fnUp_ne _ _ _ (by omega), fnUp_ne _ _ _ (by omega), fnUp_ne _ _ _ (by omega)]) (by rw [show U_leg (mv σ) d r g m o s = fnUp (fnUp (fnUp (fnUp (fnUp (fnUp (fnUp (mv σ) 16 (mv σ 0 18) d) 17 (mv σ 0 18) r) 18 (mv σ 0 18) g) 19 (mv σ 0 18) m) 20 (mv σ 0 18) o) 21 (mv σ 0 18) s) 0 18 (mv σ 0 18 + 1) from by unfold U_leg; exact if_pos (by omega)]; exact (((((((zsc0 hσ1).up 16 _ _).up 17 _ _).up 18 _ _).up 19 _ _).up 20 _ _).up 21 _ _).up 0 _ _))
                  · refine fn_sipush hV dX11_leg_117 rfl ?_
                    exact fn_iret hR dX11_leg_120 (zMP.rfU hσ1 (by unfold S_leg; rw [if_neg (by omega), if_neg (by omega), if_pos (by omega)]) (by unfold U_leg; exact if_neg (by omega)))
                · refine fn_iload_1 hV dX11_leg_89 ?_
                  refine fn_aload_0 hV dX11_leg_90 ?_
                  refine fn_getR hV dX11_leg_91 fl_X11_60 fr_51_19 ?_
                  refine fn_aload_0 hV dX11_leg_94 ?_
                  refine fn_getIz hV 18 dX11_leg_95 fl_X11_272 fi_51_18 rfl ?_
                  refine fn_iconst hV dX11_leg_98 ?_
                  refine fn_isub hV dX11_leg_99 ?_
                  refine fn_iald hV dX11_leg_100 ar_67 (by omega) (by omega) ?_
                  refine fn_icmp_ge hV (by omega) (by omega) dX11_leg_101 (fun q101 => ?_) (fun q101 => ?_)
                  · refine fn_aload_0 hV dX11_leg_108 ?_
                    refine fn_getIz hV 18 dX11_leg_109 fl_X11_272 fi_51_18 rfl ?_
                    refine fn_bipush hV dX11_leg_112 rfl ?_
                    refine fn_icmp_ne hV (by omega) (by omega) dX11_leg_114 (fun q114 => ?_) (fun q114 => ?_)
                    · refine fn_aload_0 hV dX11_leg_121 ?_
                      refine fn_getR hV dX11_leg_122 fl_X11_60 fr_51_19 ?_
                      refine fn_aload_0 hV dX11_leg_125 ?_
                      refine fn_getIz hV 18 dX11_leg_126 fl_X11_272 fi_51_18 rfl ?_
                      rw [g18]
                      refine fn_iload_1 hV dX11_leg_129 ?_
                      refine fn_iast hV dX11_leg_130 ar_67 (by omega) (by omega) ?_
                      refine fn_aload_0 hV dX11_leg_131 ?_
                      refine fn_getR hV dX11_leg_132 fl_X11_63 fr_51_20 ?_
                      refine fn_aload_0 hV dX11_leg_135 ?_
                      refine fn_getIz hV 18 dX11_leg_136 fl_X11_272 fi_51_18 rfl ?_
                      simp only [fnUp_ne _ _ _ (show (51 : Nat) ≠ 67 by decide), fnUp_ne _ _ _ (show (51 : Nat) ≠ 68 by decide), fnUp_ne _ _ _ (show (51 : Nat) ≠ 69 by decide), fnUp_ne _ _ _ (show (51 : Nat) ≠ 70 by decide), fnUp_ne _ _ _ (show (51 : Nat) ≠ 71 by decide), fnUp_ne _ _ _ (show (51 : Nat) ≠ 72 by decide)]
                      rw [g18]
                      refine fn_iload_2 hV dX11_leg_139 ?_
                      refine fn_iast hV dX11_leg_140 ar_68 (by omega) (by omega) ?_
                      refine fn_aload_0 hV dX11_leg_141 ?_
                      refine fn_getR hV dX11_leg_142 fl_X11_66 fr_51_21 ?_
                      refine fn_aload_0 hV dX11_leg_145 ?_
                      refine fn_getIz hV 18 dX11_leg_146 fl_X11_272 fi_51_18 rfl ?_
                      simp only [fnUp_ne _ _ _ (show (51 : Nat) ≠ 67 by decide), fnUp_ne _ _ _ (show (51 : Nat) ≠ 68 by decide), fnUp_ne _ _ _ (show (51 : Nat) ≠ 69 by decide), fnUp_ne _ _ _ (show (51 : Nat) ≠ 70 by decide), fnUp_ne _ _ _ (show (51 : Nat) ≠ 71 by decide), fnUp_ne _ _ _ (show (51 : Nat) ≠ 72 by decide)]
                      rw [g18]
                      refine fn_iload_3 hV dX11_leg_149 ?_
                      refine fn_iast hV dX11_leg_150 ar_69 (by omega) (by omega) ?_
                      refine fn_aload_0 hV dX11_leg_151 ?_
                      refine fn_getR hV dX11_leg_152 fl_X11_69 fr_51_22 ?_
                      refine fn_aload_0 hV dX11_leg_155 ?_
                      refine fn_getIz hV 18 dX11_leg_156 fl_X11_272 fi_51_18 rfl ?_
                      simp only [fnUp_ne _ _ _ (show (51 : Nat) ≠ 67 by decide), fnUp_ne _ _ _ (show (51 : Nat) ≠ 68 by decide), fnUp_ne _ _ _ (show (51 : Nat) ≠ 69 by decide), fnUp_ne _ _ _ (show (51 : Nat) ≠ 70 by decide), fnUp_ne _ _ _ (show (51 : Nat) ≠ 71 by decide), fnUp_ne _ _ _ (show (51 : Nat) ≠ 72 by decide)]
                      rw [g18]
                      refine fn_iload_4 hV dX11_leg_159 ?_
                      refine fn_iast hV dX11_leg_161 ar_70 (by omega) (by omega) ?_
                      refine fn_aload_0 hV dX11_leg_162 ?_
                      refine fn_getR hV dX11_leg_163 fl_X11_72 fr_51_23 ?_
                      refine fn_aload_0 hV dX11_leg_166 ?_
                      refine fn_getIz hV 18 dX11_leg_167 fl_X11_272 fi_51_18 rfl ?_
                      simp only [fnUp_ne _ _ _ (show (51 : Nat) ≠ 67 by decide), fnUp_ne _ _ _ (show (51 : Nat) ≠ 68 by decide), fnUp_ne _ _ _ (show (51 : Nat) ≠ 69 by decide), fnUp_ne _ _ _ (show (51 : Nat) ≠ 70 by decide), fnUp_ne _ _ _ (show (51 : Nat) ≠ 71 by decide), fnUp_ne _ _ _ (show (51 : Nat) ≠ 72 by decide)]
                      rw [g18]
                      refine fn_iload_5 hV dX11_leg_170 ?_
                      refine fn_iast hV dX11_leg_172 ar_71 (by omega) (by omega) ?_
                      refine fn_aload_0 hV dX11_leg_173 ?_
                      refine fn_getR hV dX11_leg_174 fl_X11_75 fr_51_24 ?_
                      refine fn_aload_0 hV dX11_leg_177 ?_
                      refine fn_getIz hV 18 dX11_leg_178 fl_X11_272 fi_51_18 rfl ?_
                      simp only [fnUp_ne _ _ _ (show (51 : Nat) ≠ 67 by decide), fnUp_ne _ _ _ (show (51 : Nat) ≠ 68 by decide), fnUp_ne _ _ _ (show (51 : Nat) ≠ 69 by decide), fnUp_ne _ _ _ (show (51 : Nat) ≠ 70 by decide), fnUp_ne _ _ _ (show (51 : Nat) ≠ 71 by decide), fnUp_ne _ _ _ (show (51 : Nat) ≠ 72 by decide)]
                      rw [g18]
                      refine fn_iload_6 hV dX11_leg_181 ?_
                      refine fn_iast hV dX11_leg_183 ar_72 (by omega) (by omega) ?_
                      refine fn_aload_0 hV dX11_leg_184 ?_
                      refine fn_dup hV dX11_leg_185 rfl ?_
                      refine fn_getIz hV 18 dX11_leg_186 fl_X11_272 fi_51_18 rfl ?_
                      simp only [fnUp_ne _ _ _ (show (51 : Nat) ≠ 67 by decide), fnUp_ne _ _ _ (show (51 : Nat) ≠ 68 by decide), fnUp_ne _ _ _ (show (51 : Nat) ≠ 69 by decide), fnUp_ne _ _ _ (show (51 : Nat) ≠ 70 by decide), fnUp_ne _ _ _ (show (51 : Nat) ≠ 71 by decide), fnUp_ne _ _ _ (show (51 : Nat) ≠ 72 by decide)]
                      rw [g18]
                      refine fn_iconst hV dX11_leg_189 ?_
                      refine fn_iadd hV dX11_leg_190 ?_
                      refine fn_putIz hV 18 dX11_leg_191 fp_X11_272 fi_51_18 rfl ?_
                      refine fn_aload_0 hV dX11_leg_194 ?_
                      refine fn_getIz hV 18 dX11_leg_195 fl_X11_272 fi_51_18 rfl ?_
                      rw [fnUp_at]
                      refine fn_iconst hV dX11_leg_198 ?_
                      refine fn_isub hV dX11_leg_199 ?_
                      exact fn_iret hR dX11_leg_200 (zMP.up hσ1 (by unfold S_leg; rw [if_neg (by omega), if_neg (by omega), if_neg (by omega)]; omega) (fun k hk => by rw [fnUp_ne _ _ _ (by omega), fnUp_ne _ _ _ (by omega), fnUp_ne _ _ _ (by omega), fnUp_ne _ _ _ (by omega), fnUp_ne _ _ _ (by omega), fnUp_ne _ _ _ (by omega), fnUp_ne _ _ _ (by omega)]) (by rw [show U_leg (mv σ) d r g m o s = fnUp (fnUp (fnUp (fnUp (fnUp (fnUp (fnUp (mv σ) 16 (mv σ 0 18) d) 17 (mv σ 0 18) r) 18 (mv σ 0 18) g) 19 (mv σ 0 18) m) 20 (mv σ 0 18) o) 21 (mv σ 0 18) s) 0 18 (mv σ 0 18 + 1) from by unfold U_leg; exact if_pos (by omega)]; exact (((((((zsc0 hσ1).up 16 _ _).up 17 _ _).up 18 _ _).up 19 _ _).up 20 _ _).up 21 _ _).up 0 _ _))
                    · refine fn_sipush hV dX11_leg_117 rfl ?_
                      exact fn_iret hR dX11_leg_120 (zMP.rfU hσ1 (by unfold S_leg; rw [if_neg (by omega), if_neg (by omega), if_pos (by omega)]) (by unfold U_leg; exact if_neg (by omega)))
                  · refine fn_sipush hV dX11_leg_104 rfl ?_
                    exact fn_iret hR dX11_leg_107 (zMP.rfU hσ1 (by unfold S_leg; rw [if_neg (by omega), if_pos (by omega)]) (by unfold U_leg; exact if_neg (by omega)))
              · refine fn_sipush hV dX11_leg_78 rfl ?_
                exact fn_iret hR dX11_leg_81 (zMP.rfU hσ1 (by unfold S_leg; rw [if_pos (by omega)]) (by unfold U_leg; exact if_neg (by omega)))
          · refine fn_iload_5 hV dX11_leg_47 ?_
            refine fn_cS1 hV (c_X11_noRound E _ _ (by omega)) ms_X11_noRound lk_X11_144 dX11_leg_49 ⟨rfl, rfl⟩ rfl ?_
            refine fn_ifnen hV dX11_leg_52 (fun q52 => ?_) (fun q52 => ?_)
            · refine fn_sipush hV dX11_leg_78 rfl ?_
              exact fn_iret hR dX11_leg_81 (zMP.rfU hσ1 (by unfold S_leg; rw [if_pos (by omega)]) (by unfold U_leg; exact if_neg (by omega)))
            · refine fn_iload_6 hV dX11_leg_55 ?_
              refine fn_sipush hV dX11_leg_57 rfl ?_
              refine fn_icmp_eq hV (by omega) (by omega) dX11_leg_60 (fun q60 => ?_) (fun q60 => ?_)
              · have hj2 : 0 < mv σ 0 18 → 0 ≤ mv σ 16 (mv σ 0 18 - 1) ∧ mv σ 16 (mv σ 0 18 - 1) ≤ 999 := fun h0 => x2 _ (by omega) (by omega)
                have f16l : σ1 67 (σ1 51 18 - 1) = mv σ 16 (mv σ 0 18 - 1) := by rw [← f16, g18]
                refine fn_aload_0 hV dX11_leg_82 ?_
                refine fn_getIz hV 18 dX11_leg_83 fl_X11_272 fi_51_18 rfl ?_
                refine fn_if_le hV (by omega) dX11_leg_86 (fun q86 => ?_) (fun q86 => ?_)
                · refine fn_aload_0 hV dX11_leg_108 ?_
                  refine fn_getIz hV 18 dX11_leg_109 fl_X11_272 fi_51_18 rfl ?_
                  refine fn_bipush hV dX11_leg_112 rfl ?_
                  refine fn_icmp_ne hV (by omega) (by omega) dX11_leg_114 (fun q114 => ?_) (fun q114 => ?_)
                  · refine fn_aload_0 hV dX11_leg_121 ?_
                    refine fn_getR hV dX11_leg_122 fl_X11_60 fr_51_19 ?_
                    refine fn_aload_0 hV dX11_leg_125 ?_
                    refine fn_getIz hV 18 dX11_leg_126 fl_X11_272 fi_51_18 rfl ?_
                    rw [g18]
                    refine fn_iload_1 hV dX11_leg_129 ?_
                    refine fn_iast hV dX11_leg_130 ar_67 (by omega) (by omega) ?_
                    refine fn_aload_0 hV dX11_leg_131 ?_
                    refine fn_getR hV dX11_leg_132 fl_X11_63 fr_51_20 ?_
                    refine fn_aload_0 hV dX11_leg_135 ?_
                    refine fn_getIz hV 18 dX11_leg_136 fl_X11_272 fi_51_18 rfl ?_
                    simp only [fnUp_ne _ _ _ (show (51 : Nat) ≠ 67 by decide), fnUp_ne _ _ _ (show (51 : Nat) ≠ 68 by decide), fnUp_ne _ _ _ (show (51 : Nat) ≠ 69 by decide), fnUp_ne _ _ _ (show (51 : Nat) ≠ 70 by decide), fnUp_ne _ _ _ (show (51 : Nat) ≠ 71 by decide), fnUp_ne _ _ _ (show (51 : Nat) ≠ 72 by decide)]
                    rw [g18]
                    refine fn_iload_2 hV dX11_leg_139 ?_
                    refine fn_iast hV dX11_leg_140 ar_68 (by omega) (by omega) ?_
                    refine fn_aload_0 hV dX11_leg_141 ?_
                    refine fn_getR hV dX11_leg_142 fl_X11_66 fr_51_21 ?_
                    refine fn_aload_0 hV dX11_leg_145 ?_
                    refine fn_getIz hV 18 dX11_leg_146 fl_X11_272 fi_51_18 rfl ?_
                    simp only [fnUp_ne _ _ _ (show (51 : Nat) ≠ 67 by decide), fnUp_ne _ _ _ (show (51 : Nat) ≠ 68 by decide), fnUp_ne _ _ _ (show (51 : Nat) ≠ 69 by decide), fnUp_ne _ _ _ (show (51 : Nat) ≠ 70 by decide), fnUp_ne _ _ _ (show (51 : Nat) ≠ 71 by decide), fnUp_ne _ _ _ (show (51 : Nat) ≠ 72 by decide)]
                    rw [g18]
                    refine fn_iload_3 hV dX11_leg_149 ?_
                    refine fn_iast hV dX11_leg_150 ar_69 (by omega) (by omega) ?_
                    refine fn_aload_0 hV dX11_leg_151 ?_
                    refine fn_getR hV dX11_leg_152 fl_X11_69 fr_51_22 ?_
                    refine fn_aload_0 hV dX11_leg_155 ?_
                    refine fn_getIz hV 18 dX11_leg_156 fl_X11_272 fi_51_18 rfl ?_
                    simp only [fnUp_ne _ _ _ (show (51 : Nat) ≠ 67 by decide), fnUp_ne _ _ _ (show (51 : Nat) ≠ 68 by decide), fnUp_ne _ _ _ (show (51 : Nat) ≠ 69 by decide), fnUp_ne _ _ _ (show (51 : Nat) ≠ 70 by decide), fnUp_ne _ _ _ (show (51 : Nat) ≠ 71 by decide), fnUp_ne _ _ _ (show (51 : Nat) ≠ 72 by decide)]
                    rw [g18]
                    refine fn_iload_4 hV dX11_leg_159 ?_
                    refine fn_iast hV dX11_leg_161 ar_70 (by omega) (by omega) ?_
                    refine fn_aload_0 hV dX11_leg_162 ?_
                    refine fn_getR hV dX11_leg_163 fl_X11_72 fr_51_23 ?_
                    refine fn_aload_0 hV dX11_leg_166 ?_
                    refine fn_getIz hV 18 dX11_leg_167 fl_X11_272 fi_51_18 rfl ?_
                    simp only [fnUp_ne _ _ _ (show (51 : Nat) ≠ 67 by decide), fnUp_ne _ _ _ (show (51 : Nat) ≠ 68 by decide), fnUp_ne _ _ _ (show (51 : Nat) ≠ 69 by decide), fnUp_ne _ _ _ (show (51 : Nat) ≠ 70 by decide), fnUp_ne _ _ _ (show (51 : Nat) ≠ 71 by decide), fnUp_ne _ _ _ (show (51 : Nat) ≠ 72 by decide)]
                    rw [g18]
                    refine fn_iload_5 hV dX11_leg_170 ?_
                    refine fn_iast hV dX11_leg_172 ar_71 (by omega) (by omega) ?_
                    refine fn_aload_0 hV dX11_leg_173 ?_
                    refine fn_getR hV dX11_leg_174 fl_X11_75 fr_51_24 ?_
                    refine fn_aload_0 hV dX11_leg_177 ?_
                    refine fn_getIz hV 18 dX11_leg_178 fl_X11_272 fi_51_18 rfl ?_
                    simp only [fnUp_ne _ _ _ (show (51 : Nat) ≠ 67 by decide), fnUp_ne _ _ _ (show (51 : Nat) ≠ 68 by decide), fnUp_ne _ _ _ (show (51 : Nat) ≠ 69 by decide), fnUp_ne _ _ _ (show (51 : Nat) ≠ 70 by decide), fnUp_ne _ _ _ (show (51 : Nat) ≠ 71 by decide), fnUp_ne _ _ _ (show (51 : Nat) ≠ 72 by decide)]
                    rw [g18]
                    refine fn_iload_6 hV dX11_leg_181 ?_
                    refine fn_iast hV dX11_leg_183 ar_72 (by omega) (by omega) ?_
                    refine fn_aload_0 hV dX11_leg_184 ?_
                    refine fn_dup hV dX11_leg_185 rfl ?_
                    refine fn_getIz hV 18 dX11_leg_186 fl_X11_272 fi_51_18 rfl ?_
                    simp only [fnUp_ne _ _ _ (show (51 : Nat) ≠ 67 by decide), fnUp_ne _ _ _ (show (51 : Nat) ≠ 68 by decide), fnUp_ne _ _ _ (show (51 : Nat) ≠ 69 by decide), fnUp_ne _ _ _ (show (51 : Nat) ≠ 70 by decide), fnUp_ne _ _ _ (show (51 : Nat) ≠ 71 by decide), fnUp_ne _ _ _ (show (51 : Nat) ≠ 72 by decide)]
                    rw [g18]
                    refine fn_iconst hV dX11_leg_189 ?_
                    refine fn_iadd hV dX11_leg_190 ?_
                    refine fn_putIz hV 18 dX11_leg_191 fp_X11_272 fi_51_18 rfl ?_
                    refine fn_aload_0 hV dX11_leg_194 ?_
                    refine fn_getIz hV 18 dX11_leg_195 fl_X11_272 fi_51_18 rfl ?_
                    rw [fnUp_at]
                    refine fn_iconst hV dX11_leg_198 ?_
                    refine fn_isub hV dX11_leg_199 ?_
                    exact fn_iret hR dX11_leg_200 (zMP.up hσ1 (by unfold S_leg; rw [if_neg (by omega), if_neg (by omega), if_neg (by omega)]; omega) (fun k hk => by rw [fnUp_ne _ _ _ (by omega), fnUp_ne _ _ _ (by omega), fnUp_ne _ _ _ (by omega), fnUp_ne _ _ _ (by omega), fnUp_ne _ _ _ (by omega), fnUp_ne _ _ _ (by omega), fnUp_ne _ _ _ (by omega)]) (by rw [show U_leg (mv σ) d r g m o s = fnUp (fnUp (fnUp (fnUp (fnUp (fnUp (fnUp (mv σ) 16 (mv σ 0 18) d) 17 (mv σ 0 18) r) 18 (mv σ 0 18) g) 19 (mv σ 0 18) m) 20 (mv σ 0 18) o) 21 (mv σ 0 18) s) 0 18 (mv σ 0 18 + 1) from by unfold U_leg; exact if_pos (by omega)]; exact (((((((zsc0 hσ1).up 16 _ _).up 17 _ _).up 18 _ _).up 19 _ _).up 20 _ _).up 21 _ _).up 0 _ _))
                  · refine fn_sipush hV dX11_leg_117 rfl ?_
                    exact fn_iret hR dX11_leg_120 (zMP.rfU hσ1 (by unfold S_leg; rw [if_neg (by omega), if_neg (by omega), if_pos (by omega)]) (by unfold U_leg; exact if_neg (by omega)))
                · refine fn_iload_1 hV dX11_leg_89 ?_
                  refine fn_aload_0 hV dX11_leg_90 ?_
                  refine fn_getR hV dX11_leg_91 fl_X11_60 fr_51_19 ?_
                  refine fn_aload_0 hV dX11_leg_94 ?_
                  refine fn_getIz hV 18 dX11_leg_95 fl_X11_272 fi_51_18 rfl ?_
                  refine fn_iconst hV dX11_leg_98 ?_
                  refine fn_isub hV dX11_leg_99 ?_
                  refine fn_iald hV dX11_leg_100 ar_67 (by omega) (by omega) ?_
                  refine fn_icmp_ge hV (by omega) (by omega) dX11_leg_101 (fun q101 => ?_) (fun q101 => ?_)
                  · refine fn_aload_0 hV dX11_leg_108 ?_
                    refine fn_getIz hV 18 dX11_leg_109 fl_X11_272 fi_51_18 rfl ?_
                    refine fn_bipush hV dX11_leg_112 rfl ?_
                    refine fn_icmp_ne hV (by omega) (by omega) dX11_leg_114 (fun q114 => ?_) (fun q114 => ?_)
                    · refine fn_aload_0 hV dX11_leg_121 ?_
                      refine fn_getR hV dX11_leg_122 fl_X11_60 fr_51_19 ?_
                      refine fn_aload_0 hV dX11_leg_125 ?_
                      refine fn_getIz hV 18 dX11_leg_126 fl_X11_272 fi_51_18 rfl ?_
                      rw [g18]
                      refine fn_iload_1 hV dX11_leg_129 ?_
                      refine fn_iast hV dX11_leg_130 ar_67 (by omega) (by omega) ?_
                      refine fn_aload_0 hV dX11_leg_131 ?_
                      refine fn_getR hV dX11_leg_132 fl_X11_63 fr_51_20 ?_
                      refine fn_aload_0 hV dX11_leg_135 ?_
                      refine fn_getIz hV 18 dX11_leg_136 fl_X11_272 fi_51_18 rfl ?_
                      simp only [fnUp_ne _ _ _ (show (51 : Nat) ≠ 67 by decide), fnUp_ne _ _ _ (show (51 : Nat) ≠ 68 by decide), fnUp_ne _ _ _ (show (51 : Nat) ≠ 69 by decide), fnUp_ne _ _ _ (show (51 : Nat) ≠ 70 by decide), fnUp_ne _ _ _ (show (51 : Nat) ≠ 71 by decide), fnUp_ne _ _ _ (show (51 : Nat) ≠ 72 by decide)]
                      rw [g18]
                      refine fn_iload_2 hV dX11_leg_139 ?_
                      refine fn_iast hV dX11_leg_140 ar_68 (by omega) (by omega) ?_
                      refine fn_aload_0 hV dX11_leg_141 ?_
                      refine fn_getR hV dX11_leg_142 fl_X11_66 fr_51_21 ?_
                      refine fn_aload_0 hV dX11_leg_145 ?_
                      refine fn_getIz hV 18 dX11_leg_146 fl_X11_272 fi_51_18 rfl ?_
                      simp only [fnUp_ne _ _ _ (show (51 : Nat) ≠ 67 by decide), fnUp_ne _ _ _ (show (51 : Nat) ≠ 68 by decide), fnUp_ne _ _ _ (show (51 : Nat) ≠ 69 by decide), fnUp_ne _ _ _ (show (51 : Nat) ≠ 70 by decide), fnUp_ne _ _ _ (show (51 : Nat) ≠ 71 by decide), fnUp_ne _ _ _ (show (51 : Nat) ≠ 72 by decide)]
                      rw [g18]
                      refine fn_iload_3 hV dX11_leg_149 ?_
                      refine fn_iast hV dX11_leg_150 ar_69 (by omega) (by omega) ?_
                      refine fn_aload_0 hV dX11_leg_151 ?_
                      refine fn_getR hV dX11_leg_152 fl_X11_69 fr_51_22 ?_
                      refine fn_aload_0 hV dX11_leg_155 ?_
                      refine fn_getIz hV 18 dX11_leg_156 fl_X11_272 fi_51_18 rfl ?_
                      simp only [fnUp_ne _ _ _ (show (51 : Nat) ≠ 67 by decide), fnUp_ne _ _ _ (show (51 : Nat) ≠ 68 by decide), fnUp_ne _ _ _ (show (51 : Nat) ≠ 69 by decide), fnUp_ne _ _ _ (show (51 : Nat) ≠ 70 by decide), fnUp_ne _ _ _ (show (51 : Nat) ≠ 71 by decide), fnUp_ne _ _ _ (show (51 : Nat) ≠ 72 by decide)]
                      rw [g18]
                      refine fn_iload_4 hV dX11_leg_159 ?_
                      refine fn_iast hV dX11_leg_161 ar_70 (by omega) (by omega) ?_
                      refine fn_aload_0 hV dX11_leg_162 ?_
                      refine fn_getR hV dX11_leg_163 fl_X11_72 fr_51_23 ?_
                      refine fn_aload_0 hV dX11_leg_166 ?_
                      refine fn_getIz hV 18 dX11_leg_167 fl_X11_272 fi_51_18 rfl ?_
                      simp only [fnUp_ne _ _ _ (show (51 : Nat) ≠ 67 by decide), fnUp_ne _ _ _ (show (51 : Nat) ≠ 68 by decide), fnUp_ne _ _ _ (show (51 : Nat) ≠ 69 by decide), fnUp_ne _ _ _ (show (51 : Nat) ≠ 70 by decide), fnUp_ne _ _ _ (show (51 : Nat) ≠ 71 by decide), fnUp_ne _ _ _ (show (51 : Nat) ≠ 72 by decide)]
                      rw [g18]
                      refine fn_iload_5 hV dX11_leg_170 ?_
                      refine fn_iast hV dX11_leg_172 ar_71 (by omega) (by omega) ?_
                      refine fn_aload_0 hV dX11_leg_173 ?_
                      refine fn_getR hV dX11_leg_174 fl_X11_75 fr_51_24 ?_
                      refine fn_aload_0 hV dX11_leg_177 ?_
                      refine fn_getIz hV 18 dX11_leg_178 fl_X11_272 fi_51_18 rfl ?_
                      simp only [fnUp_ne _ _ _ (show (51 : Nat) ≠ 67 by decide), fnUp_ne _ _ _ (show (51 : Nat) ≠ 68 by decide), fnUp_ne _ _ _ (show (51 : Nat) ≠ 69 by decide), fnUp_ne _ _ _ (show (51 : Nat) ≠ 70 by decide), fnUp_ne _ _ _ (show (51 : Nat) ≠ 71 by decide), fnUp_ne _ _ _ (show (51 : Nat) ≠ 72 by decide)]
                      rw [g18]
                      refine fn_iload_6 hV dX11_leg_181 ?_
                      refine fn_iast hV dX11_leg_183 ar_72 (by omega) (by omega) ?_
                      refine fn_aload_0 hV dX11_leg_184 ?_
                      refine fn_dup hV dX11_leg_185 rfl ?_
                      refine fn_getIz hV 18 dX11_leg_186 fl_X11_272 fi_51_18 rfl ?_
                      simp only [fnUp_ne _ _ _ (show (51 : Nat) ≠ 67 by decide), fnUp_ne _ _ _ (show (51 : Nat) ≠ 68 by decide), fnUp_ne _ _ _ (show (51 : Nat) ≠ 69 by decide), fnUp_ne _ _ _ (show (51 : Nat) ≠ 70 by decide), fnUp_ne _ _ _ (show (51 : Nat) ≠ 71 by decide), fnUp_ne _ _ _ (show (51 : Nat) ≠ 72 by decide)]
                      rw [g18]
                      refine fn_iconst hV dX11_leg_189 ?_
                      refine fn_iadd hV dX11_leg_190 ?_
                      refine fn_putIz hV 18 dX11_leg_191 fp_X11_272 fi_51_18 rfl ?_
                      refine fn_aload_0 hV dX11_leg_194 ?_
                      refine fn_getIz hV 18 dX11_leg_195 fl_X11_272 fi_51_18 rfl ?_
                      rw [fnUp_at]
                      refine fn_iconst hV dX11_leg_198 ?_
                      refine fn_isub hV dX11_leg_199 ?_
                      exact fn_iret hR dX11_leg_200 (zMP.up hσ1 (by unfold S_leg; rw [if_neg (by omega), if_neg (by omega), if_neg (by omega)]; omega) (fun k hk => by rw [fnUp_ne _ _ _ (by omega), fnUp_ne _ _ _ (by omega), fnUp_ne _ _ _ (by omega), fnUp_ne _ _ _ (by omega), fnUp_ne _ _ _ (by omega), fnUp_ne _ _ _ (by omega), fnUp_ne _ _ _ (by omega)]) (by rw [show U_leg (mv σ) d r g m o s = fnUp (fnUp (fnUp (fnUp (fnUp (fnUp (fnUp (mv σ) 16 (mv σ 0 18) d) 17 (mv σ 0 18) r) 18 (mv σ 0 18) g) 19 (mv σ 0 18) m) 20 (mv σ 0 18) o) 21 (mv σ 0 18) s) 0 18 (mv σ 0 18 + 1) from by unfold U_leg; exact if_pos (by omega)]; exact (((((((zsc0 hσ1).up 16 _ _).up 17 _ _).up 18 _ _).up 19 _ _).up 20 _ _).up 21 _ _).up 0 _ _))
                    · refine fn_sipush hV dX11_leg_117 rfl ?_
                      exact fn_iret hR dX11_leg_120 (zMP.rfU hσ1 (by unfold S_leg; rw [if_neg (by omega), if_neg (by omega), if_pos (by omega)]) (by unfold U_leg; exact if_neg (by omega)))
                  · refine fn_sipush hV dX11_leg_104 rfl ?_
                    exact fn_iret hR dX11_leg_107 (zMP.rfU hσ1 (by unfold S_leg; rw [if_neg (by omega), if_pos (by omega)]) (by unfold U_leg; exact if_neg (by omega)))
              · refine fn_iload_6 hV dX11_leg_63 ?_
                refine fn_i2lr hV dX11_leg_65 (by omega) ?_
                refine fn_ldc2 hV dX11_leg_66 co_X11_181 ?_
                refine fn_ldc2 hV dX11_leg_69 co_X11_183 ?_
                refine fn_cS3 hV (c_X11_in E _ _ _ _ (by omega) (by omega) (by omega)) ms_X11_in lk_X11_117 dX11_leg_72 ⟨rfl, rfl⟩ rfl ?_
                refine fn_ifneb hV dX11_leg_75 (fun q75 => ?_) (fun q75 => ?_)
                · have hj2 : 0 < mv σ 0 18 → 0 ≤ mv σ 16 (mv σ 0 18 - 1) ∧ mv σ 16 (mv σ 0 18 - 1) ≤ 999 := fun h0 => x2 _ (by omega) (by omega)
                  have f16l : σ1 67 (σ1 51 18 - 1) = mv σ 16 (mv σ 0 18 - 1) := by rw [← f16, g18]
                  refine fn_aload_0 hV dX11_leg_82 ?_
                  refine fn_getIz hV 18 dX11_leg_83 fl_X11_272 fi_51_18 rfl ?_
                  refine fn_if_le hV (by omega) dX11_leg_86 (fun q86 => ?_) (fun q86 => ?_)
                  · refine fn_aload_0 hV dX11_leg_108 ?_
                    refine fn_getIz hV 18 dX11_leg_109 fl_X11_272 fi_51_18 rfl ?_
                    refine fn_bipush hV dX11_leg_112 rfl ?_
                    refine fn_icmp_ne hV (by omega) (by omega) dX11_leg_114 (fun q114 => ?_) (fun q114 => ?_)
                    · refine fn_aload_0 hV dX11_leg_121 ?_
                      refine fn_getR hV dX11_leg_122 fl_X11_60 fr_51_19 ?_
                      refine fn_aload_0 hV dX11_leg_125 ?_
                      refine fn_getIz hV 18 dX11_leg_126 fl_X11_272 fi_51_18 rfl ?_
                      rw [g18]
                      refine fn_iload_1 hV dX11_leg_129 ?_
                      refine fn_iast hV dX11_leg_130 ar_67 (by omega) (by omega) ?_
                      refine fn_aload_0 hV dX11_leg_131 ?_
                      refine fn_getR hV dX11_leg_132 fl_X11_63 fr_51_20 ?_
                      refine fn_aload_0 hV dX11_leg_135 ?_
                      refine fn_getIz hV 18 dX11_leg_136 fl_X11_272 fi_51_18 rfl ?_
                      simp only [fnUp_ne _ _ _ (show (51 : Nat) ≠ 67 by decide), fnUp_ne _ _ _ (show (51 : Nat) ≠ 68 by decide), fnUp_ne _ _ _ (show (51 : Nat) ≠ 69 by decide), fnUp_ne _ _ _ (show (51 : Nat) ≠ 70 by decide), fnUp_ne _ _ _ (show (51 : Nat) ≠ 71 by decide), fnUp_ne _ _ _ (show (51 : Nat) ≠ 72 by decide)]
                      rw [g18]
                      refine fn_iload_2 hV dX11_leg_139 ?_
                      refine fn_iast hV dX11_leg_140 ar_68 (by omega) (by omega) ?_
                      refine fn_aload_0 hV dX11_leg_141 ?_
                      refine fn_getR hV dX11_leg_142 fl_X11_66 fr_51_21 ?_
                      refine fn_aload_0 hV dX11_leg_145 ?_
                      refine fn_getIz hV 18 dX11_leg_146 fl_X11_272 fi_51_18 rfl ?_
                      simp only [fnUp_ne _ _ _ (show (51 : Nat) ≠ 67 by decide), fnUp_ne _ _ _ (show (51 : Nat) ≠ 68 by decide), fnUp_ne _ _ _ (show (51 : Nat) ≠ 69 by decide), fnUp_ne _ _ _ (show (51 : Nat) ≠ 70 by decide), fnUp_ne _ _ _ (show (51 : Nat) ≠ 71 by decide), fnUp_ne _ _ _ (show (51 : Nat) ≠ 72 by decide)]
                      rw [g18]
                      refine fn_iload_3 hV dX11_leg_149 ?_
                      refine fn_iast hV dX11_leg_150 ar_69 (by omega) (by omega) ?_
                      refine fn_aload_0 hV dX11_leg_151 ?_
                      refine fn_getR hV dX11_leg_152 fl_X11_69 fr_51_22 ?_
                      refine fn_aload_0 hV dX11_leg_155 ?_
                      refine fn_getIz hV 18 dX11_leg_156 fl_X11_272 fi_51_18 rfl ?_
                      simp only [fnUp_ne _ _ _ (show (51 : Nat) ≠ 67 by decide), fnUp_ne _ _ _ (show (51 : Nat) ≠ 68 by decide), fnUp_ne _ _ _ (show (51 : Nat) ≠ 69 by decide), fnUp_ne _ _ _ (show (51 : Nat) ≠ 70 by decide), fnUp_ne _ _ _ (show (51 : Nat) ≠ 71 by decide), fnUp_ne _ _ _ (show (51 : Nat) ≠ 72 by decide)]
                      rw [g18]
                      refine fn_iload_4 hV dX11_leg_159 ?_
                      refine fn_iast hV dX11_leg_161 ar_70 (by omega) (by omega) ?_
                      refine fn_aload_0 hV dX11_leg_162 ?_
                      refine fn_getR hV dX11_leg_163 fl_X11_72 fr_51_23 ?_
                      refine fn_aload_0 hV dX11_leg_166 ?_
                      refine fn_getIz hV 18 dX11_leg_167 fl_X11_272 fi_51_18 rfl ?_
                      simp only [fnUp_ne _ _ _ (show (51 : Nat) ≠ 67 by decide), fnUp_ne _ _ _ (show (51 : Nat) ≠ 68 by decide), fnUp_ne _ _ _ (show (51 : Nat) ≠ 69 by decide), fnUp_ne _ _ _ (show (51 : Nat) ≠ 70 by decide), fnUp_ne _ _ _ (show (51 : Nat) ≠ 71 by decide), fnUp_ne _ _ _ (show (51 : Nat) ≠ 72 by decide)]
                      rw [g18]
                      refine fn_iload_5 hV dX11_leg_170 ?_
                      refine fn_iast hV dX11_leg_172 ar_71 (by omega) (by omega) ?_
                      refine fn_aload_0 hV dX11_leg_173 ?_
                      refine fn_getR hV dX11_leg_174 fl_X11_75 fr_51_24 ?_
                      refine fn_aload_0 hV dX11_leg_177 ?_
                      refine fn_getIz hV 18 dX11_leg_178 fl_X11_272 fi_51_18 rfl ?_
                      simp only [fnUp_ne _ _ _ (show (51 : Nat) ≠ 67 by decide), fnUp_ne _ _ _ (show (51 : Nat) ≠ 68 by decide), fnUp_ne _ _ _ (show (51 : Nat) ≠ 69 by decide), fnUp_ne _ _ _ (show (51 : Nat) ≠ 70 by decide), fnUp_ne _ _ _ (show (51 : Nat) ≠ 71 by decide), fnUp_ne _ _ _ (show (51 : Nat) ≠ 72 by decide)]
                      rw [g18]
                      refine fn_iload_6 hV dX11_leg_181 ?_
                      refine fn_iast hV dX11_leg_183 ar_72 (by omega) (by omega) ?_
                      refine fn_aload_0 hV dX11_leg_184 ?_
                      refine fn_dup hV dX11_leg_185 rfl ?_
                      refine fn_getIz hV 18 dX11_leg_186 fl_X11_272 fi_51_18 rfl ?_
                      simp only [fnUp_ne _ _ _ (show (51 : Nat) ≠ 67 by decide), fnUp_ne _ _ _ (show (51 : Nat) ≠ 68 by decide), fnUp_ne _ _ _ (show (51 : Nat) ≠ 69 by decide), fnUp_ne _ _ _ (show (51 : Nat) ≠ 70 by decide), fnUp_ne _ _ _ (show (51 : Nat) ≠ 71 by decide), fnUp_ne _ _ _ (show (51 : Nat) ≠ 72 by decide)]
                      rw [g18]
                      refine fn_iconst hV dX11_leg_189 ?_
                      refine fn_iadd hV dX11_leg_190 ?_
                      refine fn_putIz hV 18 dX11_leg_191 fp_X11_272 fi_51_18 rfl ?_
                      refine fn_aload_0 hV dX11_leg_194 ?_
                      refine fn_getIz hV 18 dX11_leg_195 fl_X11_272 fi_51_18 rfl ?_
                      rw [fnUp_at]
                      refine fn_iconst hV dX11_leg_198 ?_
                      refine fn_isub hV dX11_leg_199 ?_
                      exact fn_iret hR dX11_leg_200 (zMP.up hσ1 (by unfold S_leg; rw [if_neg (by omega), if_neg (by omega), if_neg (by omega)]; omega) (fun k hk => by rw [fnUp_ne _ _ _ (by omega), fnUp_ne _ _ _ (by omega), fnUp_ne _ _ _ (by omega), fnUp_ne _ _ _ (by omega), fnUp_ne _ _ _ (by omega), fnUp_ne _ _ _ (by omega), fnUp_ne _ _ _ (by omega)]) (by rw [show U_leg (mv σ) d r g m o s = fnUp (fnUp (fnUp (fnUp (fnUp (fnUp (fnUp (mv σ) 16 (mv σ 0 18) d) 17 (mv σ 0 18) r) 18 (mv σ 0 18) g) 19 (mv σ 0 18) m) 20 (mv σ 0 18) o) 21 (mv σ 0 18) s) 0 18 (mv σ 0 18 + 1) from by unfold U_leg; exact if_pos (by omega)]; exact (((((((zsc0 hσ1).up 16 _ _).up 17 _ _).up 18 _ _).up 19 _ _).up 20 _ _).up 21 _ _).up 0 _ _))
                    · refine fn_sipush hV dX11_leg_117 rfl ?_
                      exact fn_iret hR dX11_leg_120 (zMP.rfU hσ1 (by unfold S_leg; rw [if_neg (by omega), if_neg (by omega), if_pos (by omega)]) (by unfold U_leg; exact if_neg (by omega)))
                  · refine fn_iload_1 hV dX11_leg_89 ?_
                    refine fn_aload_0 hV dX11_leg_90 ?_
                    refine fn_getR hV dX11_leg_91 fl_X11_60 fr_51_19 ?_
                    refine fn_aload_0 hV dX11_leg_94 ?_
                    refine fn_getIz hV 18 dX11_leg_95 fl_X11_272 fi_51_18 rfl ?_
                    refine fn_iconst hV dX11_leg_98 ?_
                    refine fn_isub hV dX11_leg_99 ?_
                    refine fn_iald hV dX11_leg_100 ar_67 (by omega) (by omega) ?_
                    refine fn_icmp_ge hV (by omega) (by omega) dX11_leg_101 (fun q101 => ?_) (fun q101 => ?_)
                    · refine fn_aload_0 hV dX11_leg_108 ?_
                      refine fn_getIz hV 18 dX11_leg_109 fl_X11_272 fi_51_18 rfl ?_
                      refine fn_bipush hV dX11_leg_112 rfl ?_
                      refine fn_icmp_ne hV (by omega) (by omega) dX11_leg_114 (fun q114 => ?_) (fun q114 => ?_)
                      · refine fn_aload_0 hV dX11_leg_121 ?_
                        refine fn_getR hV dX11_leg_122 fl_X11_60 fr_51_19 ?_
                        refine fn_aload_0 hV dX11_leg_125 ?_
                        refine fn_getIz hV 18 dX11_leg_126 fl_X11_272 fi_51_18 rfl ?_
                        rw [g18]
                        refine fn_iload_1 hV dX11_leg_129 ?_
                        refine fn_iast hV dX11_leg_130 ar_67 (by omega) (by omega) ?_
                        refine fn_aload_0 hV dX11_leg_131 ?_
                        refine fn_getR hV dX11_leg_132 fl_X11_63 fr_51_20 ?_
                        refine fn_aload_0 hV dX11_leg_135 ?_
                        refine fn_getIz hV 18 dX11_leg_136 fl_X11_272 fi_51_18 rfl ?_
                        simp only [fnUp_ne _ _ _ (show (51 : Nat) ≠ 67 by decide), fnUp_ne _ _ _ (show (51 : Nat) ≠ 68 by decide), fnUp_ne _ _ _ (show (51 : Nat) ≠ 69 by decide), fnUp_ne _ _ _ (show (51 : Nat) ≠ 70 by decide), fnUp_ne _ _ _ (show (51 : Nat) ≠ 71 by decide), fnUp_ne _ _ _ (show (51 : Nat) ≠ 72 by decide)]
                        rw [g18]
                        refine fn_iload_2 hV dX11_leg_139 ?_
                        refine fn_iast hV dX11_leg_140 ar_68 (by omega) (by omega) ?_
                        refine fn_aload_0 hV dX11_leg_141 ?_
                        refine fn_getR hV dX11_leg_142 fl_X11_66 fr_51_21 ?_
                        refine fn_aload_0 hV dX11_leg_145 ?_
                        refine fn_getIz hV 18 dX11_leg_146 fl_X11_272 fi_51_18 rfl ?_
                        simp only [fnUp_ne _ _ _ (show (51 : Nat) ≠ 67 by decide), fnUp_ne _ _ _ (show (51 : Nat) ≠ 68 by decide), fnUp_ne _ _ _ (show (51 : Nat) ≠ 69 by decide), fnUp_ne _ _ _ (show (51 : Nat) ≠ 70 by decide), fnUp_ne _ _ _ (show (51 : Nat) ≠ 71 by decide), fnUp_ne _ _ _ (show (51 : Nat) ≠ 72 by decide)]
                        rw [g18]
                        refine fn_iload_3 hV dX11_leg_149 ?_
                        refine fn_iast hV dX11_leg_150 ar_69 (by omega) (by omega) ?_
                        refine fn_aload_0 hV dX11_leg_151 ?_
                        refine fn_getR hV dX11_leg_152 fl_X11_69 fr_51_22 ?_
                        refine fn_aload_0 hV dX11_leg_155 ?_
                        refine fn_getIz hV 18 dX11_leg_156 fl_X11_272 fi_51_18 rfl ?_
                        simp only [fnUp_ne _ _ _ (show (51 : Nat) ≠ 67 by decide), fnUp_ne _ _ _ (show (51 : Nat) ≠ 68 by decide), fnUp_ne _ _ _ (show (51 : Nat) ≠ 69 by decide), fnUp_ne _ _ _ (show (51 : Nat) ≠ 70 by decide), fnUp_ne _ _ _ (show (51 : Nat) ≠ 71 by decide), fnUp_ne _ _ _ (show (51 : Nat) ≠ 72 by decide)]
                        rw [g18]
                        refine fn_iload_4 hV dX11_leg_159 ?_
                        refine fn_iast hV dX11_leg_161 ar_70 (by omega) (by omega) ?_
                        refine fn_aload_0 hV dX11_leg_162 ?_
                        refine fn_getR hV dX11_leg_163 fl_X11_72 fr_51_23 ?_
                        refine fn_aload_0 hV dX11_leg_166 ?_
                        refine fn_getIz hV 18 dX11_leg_167 fl_X11_272 fi_51_18 rfl ?_
                        simp only [fnUp_ne _ _ _ (show (51 : Nat) ≠ 67 by decide), fnUp_ne _ _ _ (show (51 : Nat) ≠ 68 by decide), fnUp_ne _ _ _ (show (51 : Nat) ≠ 69 by decide), fnUp_ne _ _ _ (show (51 : Nat) ≠ 70 by decide), fnUp_ne _ _ _ (show (51 : Nat) ≠ 71 by decide), fnUp_ne _ _ _ (show (51 : Nat) ≠ 72 by decide)]
                        rw [g18]
                        refine fn_iload_5 hV dX11_leg_170 ?_
                        refine fn_iast hV dX11_leg_172 ar_71 (by omega) (by omega) ?_
                        refine fn_aload_0 hV dX11_leg_173 ?_
                        refine fn_getR hV dX11_leg_174 fl_X11_75 fr_51_24 ?_
                        refine fn_aload_0 hV dX11_leg_177 ?_
                        refine fn_getIz hV 18 dX11_leg_178 fl_X11_272 fi_51_18 rfl ?_
                        simp only [fnUp_ne _ _ _ (show (51 : Nat) ≠ 67 by decide), fnUp_ne _ _ _ (show (51 : Nat) ≠ 68 by decide), fnUp_ne _ _ _ (show (51 : Nat) ≠ 69 by decide), fnUp_ne _ _ _ (show (51 : Nat) ≠ 70 by decide), fnUp_ne _ _ _ (show (51 : Nat) ≠ 71 by decide), fnUp_ne _ _ _ (show (51 : Nat) ≠ 72 by decide)]
                        rw [g18]
                        refine fn_iload_6 hV dX11_leg_181 ?_
                        refine fn_iast hV dX11_leg_183 ar_72 (by omega) (by omega) ?_
                        refine fn_aload_0 hV dX11_leg_184 ?_
                        refine fn_dup hV dX11_leg_185 rfl ?_
                        refine fn_getIz hV 18 dX11_leg_186 fl_X11_272 fi_51_18 rfl ?_
                        simp only [fnUp_ne _ _ _ (show (51 : Nat) ≠ 67 by decide), fnUp_ne _ _ _ (show (51 : Nat) ≠ 68 by decide), fnUp_ne _ _ _ (show (51 : Nat) ≠ 69 by decide), fnUp_ne _ _ _ (show (51 : Nat) ≠ 70 by decide), fnUp_ne _ _ _ (show (51 : Nat) ≠ 71 by decide), fnUp_ne _ _ _ (show (51 : Nat) ≠ 72 by decide)]
                        rw [g18]
                        refine fn_iconst hV dX11_leg_189 ?_
                        refine fn_iadd hV dX11_leg_190 ?_
                        refine fn_putIz hV 18 dX11_leg_191 fp_X11_272 fi_51_18 rfl ?_
                        refine fn_aload_0 hV dX11_leg_194 ?_
                        refine fn_getIz hV 18 dX11_leg_195 fl_X11_272 fi_51_18 rfl ?_
                        rw [fnUp_at]
                        refine fn_iconst hV dX11_leg_198 ?_
                        refine fn_isub hV dX11_leg_199 ?_
                        exact fn_iret hR dX11_leg_200 (zMP.up hσ1 (by unfold S_leg; rw [if_neg (by omega), if_neg (by omega), if_neg (by omega)]; omega) (fun k hk => by rw [fnUp_ne _ _ _ (by omega), fnUp_ne _ _ _ (by omega), fnUp_ne _ _ _ (by omega), fnUp_ne _ _ _ (by omega), fnUp_ne _ _ _ (by omega), fnUp_ne _ _ _ (by omega), fnUp_ne _ _ _ (by omega)]) (by rw [show U_leg (mv σ) d r g m o s = fnUp (fnUp (fnUp (fnUp (fnUp (fnUp (fnUp (mv σ) 16 (mv σ 0 18) d) 17 (mv σ 0 18) r) 18 (mv σ 0 18) g) 19 (mv σ 0 18) m) 20 (mv σ 0 18) o) 21 (mv σ 0 18) s) 0 18 (mv σ 0 18 + 1) from by unfold U_leg; exact if_pos (by omega)]; exact (((((((zsc0 hσ1).up 16 _ _).up 17 _ _).up 18 _ _).up 19 _ _).up 20 _ _).up 21 _ _).up 0 _ _))
                      · refine fn_sipush hV dX11_leg_117 rfl ?_
                        exact fn_iret hR dX11_leg_120 (zMP.rfU hσ1 (by unfold S_leg; rw [if_neg (by omega), if_neg (by omega), if_pos (by omega)]) (by unfold U_leg; exact if_neg (by omega)))
                    · refine fn_sipush hV dX11_leg_104 rfl ?_
                      exact fn_iret hR dX11_leg_107 (zMP.rfU hσ1 (by unfold S_leg; rw [if_neg (by omega), if_pos (by omega)]) (by unfold U_leg; exact if_neg (by omega)))
                · refine fn_sipush hV dX11_leg_78 rfl ?_
                  exact fn_iret hR dX11_leg_81 (zMP.rfU hσ1 (by unfold S_leg; rw [if_pos (by omega)]) (by unfold U_leg; exact if_neg (by omega)))

set_option maxHeartbeats 4000000 in
set_option maxRecDepth 20000 in
theorem c_X11_workedOf (E : fnE) (σ : fnMem) (n : Nat) (h40 : n ≤ 40) (hC : ∀ l : Int, 0 ≤ l → l < n → 0 ≤ σ 78 l ∧ σ 78 l < 3200) (hD : ∀ l : Int, 0 ≤ l → l < n → 0 ≤ σ 67 l ∧ σ 67 l ≤ 999) (d s e : Int) (hd : fnR d) (hs : -1600 ≤ s ∧ s ≤ 1599) (he : e = 0 ∨ e = 1) : fnOk E mX11_workedOf [.ref 51, zI n, zI d, zI s, zI e] σ (fnIs (some (zI (zwk (σ 78) (σ 67) (σ 70) (if e ≠ 0 then zsine else zcosine) d s n))) σ) := by
  refine fnOk.of [.ref 51, zI n, zI d, zI s, zI e, .null, .null, .null] rfl (by decide +kernel) rfl (fun V hV hR => ?_)
  replace hV : fnCx E RX11 cX11_workedOf 8 3 66 V := hV
  replace hR : fnRt cX11_workedOf (some .int) _ V := hR
  obtain ⟨f, hf⟩ : ∃ f, f = (if e ≠ 0 then zsine else zcosine) := ⟨_, rfl⟩
  refine fn_iconst hV dX11_workedOf_0 ?_
  refine fn_istore_5 hV dX11_workedOf_1 rfl rfl ?_
  refine fn_iconst hV dX11_workedOf_3 ?_
  refine fn_istore_6 hV dX11_workedOf_4 rfl rfl ?_
  have L : ∀ k : Nat, k ≤ n → ∀ (i acc : Int), True → (i = k) → (acc = zwk (σ 78) (σ 67) (σ 70) f d s k) → V 6 [.ref 51, zI n, zI d, zI s, zI e, zI acc, zI i, .null] [] σ := by
    refine fn_rec (fun k hk ihL => ?_)
    intro i acc _ hi hacc
    refine fn_iload_6 hV dX11_workedOf_6 ?_
    refine fn_iload_1 hV dX11_workedOf_8 ?_
    refine fn_icmp_ge hV (by omega) (by omega) dX11_workedOf_9 (fun q9 => ?_) (fun q9 => ?_)
    · refine fn_iload_5 hV dX11_workedOf_86 ?_
      exact fn_iret hR dX11_workedOf_88 (fnIs.i (by rw [hacc, show k = n by omega, hf]))
    · have c1 := hC i (by omega) (by omega)
      have c2 := hD i (by omega) (by omega)
      refine fn_aload_0 hV dX11_workedOf_12 ?_
      refine fn_getR hV dX11_workedOf_13 fl_X11_93 fr_51_31 ?_
      refine fn_iload_6 hV dX11_workedOf_16 ?_
      refine fn_iald hV dX11_workedOf_18 ar_78 (by omega) (by omega) ?_
      refine fn_aload_0 hV dX11_workedOf_19 ?_
      refine fn_getR hV dX11_workedOf_20 fl_X11_60 fr_51_19 ?_
      refine fn_iload_6 hV dX11_workedOf_23 ?_
      refine fn_iald hV dX11_workedOf_25 ar_67 (by omega) (by omega) ?_
      refine fn_iload_2 hV dX11_workedOf_26 ?_
      refine fn_icmp_lt hV (by omega) (by omega) dX11_workedOf_27 (fun q27 => ?_) (fun q27 => ?_)
      · refine fn_iconst hV dX11_workedOf_34 ?_
        refine fn_iadd hV dX11_workedOf_35 ?_
        refine fn_sipush hV dX11_workedOf_36 rfl ?_
        refine fn_cS2 hV (c_X11_turned E _ _ _ (by omega) (by omega) (by omega)) ms_X11_turned lk_X11_101 dX11_workedOf_39 ⟨rfl, rfl⟩ rfl ?_
        refine fn_istore_7 hV dX11_workedOf_42 rfl rfl ?_
        refine fn_iload_5 hV dX11_workedOf_44 ?_
        refine fn_aload_0 hV dX11_workedOf_46 ?_
        refine fn_getR hV dX11_workedOf_47 fl_X11_69 fr_51_22 ?_
        refine fn_iload_6 hV dX11_workedOf_50 ?_
        refine fn_iald hV dX11_workedOf_52 ar_70 (by omega) (by omega) ?_
        refine fn_iload_4 hV dX11_workedOf_53 ?_
        refine fn_if_eq hV (by omega) dX11_workedOf_55 (fun q55 => ?_) (fun q55 => ?_)
        · refine fn_iload_7 hV dX11_workedOf_63 ?_
          refine fn_sipush hV dX11_workedOf_65 rfl ?_
          refine fn_iadd hV dX11_workedOf_68 ?_
          refine fn_sipush hV dX11_workedOf_69 rfl ?_
          refine fn_iremp hV dX11_workedOf_72 (by omega) (by omega) ?_
          refine fn_cS1 hV (c_X11_sineAt E _ _ (by omega)) ms_X11_sineAt lk_X11_148 dX11_workedOf_73 ⟨rfl, rfl⟩ rfl ?_
          refine fn_imul hV dX11_workedOf_76 ?_
          refine fn_iadd hV dX11_workedOf_77 ?_
          refine fn_istore_5 hV dX11_workedOf_78 rfl rfl ?_
          refine fn_iinc_6 hV dX11_workedOf_80 rfl rfl ?_
          refine fn_goto hV dX11_workedOf_83 ?_
          refine fn_nul_7 hV ?_
          exact ihL (k + 1) (by omega) (by omega) _ _ trivial (by omega) (by rw [zwk_s, ← hi, if_neg (by omega), hf, if_neg (by omega), hacc, hf, if_neg (by omega)]; rfl)
        · refine fn_iload_7 hV dX11_workedOf_58 ?_
          refine fn_goto hV dX11_workedOf_60 ?_
          refine fn_cS1 hV (c_X11_sineAt E _ _ (by omega)) ms_X11_sineAt lk_X11_148 dX11_workedOf_73 ⟨rfl, rfl⟩ rfl ?_
          refine fn_imul hV dX11_workedOf_76 ?_
          refine fn_iadd hV dX11_workedOf_77 ?_
          refine fn_istore_5 hV dX11_workedOf_78 rfl rfl ?_
          refine fn_iinc_6 hV dX11_workedOf_80 rfl rfl ?_
          refine fn_goto hV dX11_workedOf_83 ?_
          refine fn_nul_7 hV ?_
          exact ihL (k + 1) (by omega) (by omega) _ _ trivial (by omega) (by rw [zwk_s, ← hi, if_neg (by omega), hf, if_pos (by omega), hacc, hf, if_pos (by omega)])
      · refine fn_iload_3 hV dX11_workedOf_30 ?_
        refine fn_goto hV dX11_workedOf_31 ?_
        refine fn_iadd hV dX11_workedOf_35 ?_
        refine fn_sipush hV dX11_workedOf_36 rfl ?_
        refine fn_cS2 hV (c_X11_turned E _ _ _ (by omega) (by omega) (by omega)) ms_X11_turned lk_X11_101 dX11_workedOf_39 ⟨rfl, rfl⟩ rfl ?_
        refine fn_istore_7 hV dX11_workedOf_42 rfl rfl ?_
        refine fn_iload_5 hV dX11_workedOf_44 ?_
        refine fn_aload_0 hV dX11_workedOf_46 ?_
        refine fn_getR hV dX11_workedOf_47 fl_X11_69 fr_51_22 ?_
        refine fn_iload_6 hV dX11_workedOf_50 ?_
        refine fn_iald hV dX11_workedOf_52 ar_70 (by omega) (by omega) ?_
        refine fn_iload_4 hV dX11_workedOf_53 ?_
        refine fn_if_eq hV (by omega) dX11_workedOf_55 (fun q55 => ?_) (fun q55 => ?_)
        · refine fn_iload_7 hV dX11_workedOf_63 ?_
          refine fn_sipush hV dX11_workedOf_65 rfl ?_
          refine fn_iadd hV dX11_workedOf_68 ?_
          refine fn_sipush hV dX11_workedOf_69 rfl ?_
          refine fn_iremp hV dX11_workedOf_72 (by omega) (by omega) ?_
          refine fn_cS1 hV (c_X11_sineAt E _ _ (by omega)) ms_X11_sineAt lk_X11_148 dX11_workedOf_73 ⟨rfl, rfl⟩ rfl ?_
          refine fn_imul hV dX11_workedOf_76 ?_
          refine fn_iadd hV dX11_workedOf_77 ?_
          refine fn_istore_5 hV dX11_workedOf_78 rfl rfl ?_
          refine fn_iinc_6 hV dX11_workedOf_80 rfl rfl ?_
          refine fn_goto hV dX11_workedOf_83 ?_
          refine fn_nul_7 hV ?_
          exact ihL (k + 1) (by omega) (by omega) _ _ trivial (by omega) (by rw [zwk_s, ← hi, if_pos (by omega), hf, if_neg (by omega), hacc, hf, if_neg (by omega)]; rfl)
        · refine fn_iload_7 hV dX11_workedOf_58 ?_
          refine fn_goto hV dX11_workedOf_60 ?_
          refine fn_cS1 hV (c_X11_sineAt E _ _ (by omega)) ms_X11_sineAt lk_X11_148 dX11_workedOf_73 ⟨rfl, rfl⟩ rfl ?_
          refine fn_imul hV dX11_workedOf_76 ?_
          refine fn_iadd hV dX11_workedOf_77 ?_
          refine fn_istore_5 hV dX11_workedOf_78 rfl rfl ?_
          refine fn_iinc_6 hV dX11_workedOf_80 rfl rfl ?_
          refine fn_goto hV dX11_workedOf_83 ?_
          refine fn_nul_7 hV ?_
          exact ihL (k + 1) (by omega) (by omega) _ _ trivial (by omega) (by rw [zwk_s, ← hi, if_pos (by omega), hf, if_pos (by omega), hacc, hf, if_pos (by omega)])
  exact L 0 (by omega) _ _ trivial (by omega) rfl

set_option maxHeartbeats 4000000 in
set_option maxRecDepth 20000 in
theorem c_X11_worked (E : fnE) (σ : fnMem) (hW : zWF (mv σ)) (n : Int) (h_n : fnR n) (d : Int) (h_d : fnR d) (s : Int) (h_s : fnR s) (e1 : Int) (h_e1 : e1 = 0 ∨ e1 = 1) : fnOk E mX11_worked [.ref 51, zI n, zI d, zI s, zI e1] σ (fnQI (zMP (S_worked (mv σ) n d s e1) (mv σ) σ)) := by
  refine fnOk.of [.ref 51, zI n, zI d, zI s, zI e1] rfl (by decide +kernel) rfl (fun V hV hR => ?_)
  replace hV : fnCx E RX11 cX11_worked 5 8 175 V := hV
  replace hR : fnRt cX11_worked (some .int) _ V := hR
  refine fn_aload_0 hV dX11_worked_0 ?_
  refine fn_iconst hV dX11_worked_1 ?_
  refine fn_putIz hV 0 dX11_worked_2 fp_X11_96 fi_51_0 rfl ?_
  generalize hσ1 : fnUp σ 51 0 0 = σ1
  have e : ∀ k, k ≠ 51 → σ1 k = σ k := fun k hk => by rw [← hσ1, fnUp_ne _ _ _ hk]
  have e0 : ∀ j, j ≠ 0 → σ1 51 j = mv σ 0 j := fun j hj => by rw [← hσ1, fnUp_off _ _ _ hj]; rfl
  have f16 : mv σ 16 = σ1 67 := (e 67 (by decide)).symm
  have f19 : mv σ 19 = σ1 70 := (e 70 (by decide)).symm
  obtain ⟨x1, x2, x3, x4, x5, x6, x7, x8⟩ := hW.2.2.2.2.2
  have g18 := e0 18 (by decide)
  refine fn_iload_1 hV dX11_worked_5 ?_
  refine fn_i2lr hV dX11_worked_6 (by omega) ?_
  refine fn_lconst0 hV dX11_worked_7 ?_
  refine fn_aload_0 hV dX11_worked_8 ?_
  refine fn_getIz hV 18 dX11_worked_9 fl_X11_272 fi_51_18 rfl ?_
  refine fn_i2lr hV dX11_worked_12 (by omega) ?_
  refine fn_cS3 hV (c_X11_in E _ _ _ _ (by omega) (by omega) (by omega)) ms_X11_in lk_X11_117 dX11_worked_13 ⟨rfl, rfl⟩ rfl ?_
  refine fn_ifneb hV dX11_worked_16 (fun q16 => ?_) (fun q16 => ?_)
  · refine fn_iload_2 hV dX11_worked_23 ?_
    refine fn_i2lr hV dX11_worked_24 (by omega) ?_
    refine fn_lconst0 hV dX11_worked_25 ?_
    refine fn_ldc2 hV dX11_worked_26 co_X11_136 ?_
    refine fn_cS3 hV (c_X11_in E _ _ _ _ (by omega) (by omega) (by omega)) ms_X11_in lk_X11_117 dX11_worked_29 ⟨rfl, rfl⟩ rfl ?_
    refine fn_ifeqb hV dX11_worked_32 (fun q32 => ?_) (fun q32 => ?_)
    · refine fn_sipush hV dX11_worked_49 rfl ?_
      exact fn_iret hR dX11_worked_52 (zMP.rf hσ1 (by unfold S_worked; rw [if_neg (by omega), if_pos (by omega)]))
    · refine fn_iload_3 hV dX11_worked_35 ?_
      refine fn_i2lr hV dX11_worked_36 (by omega) ?_
      refine fn_ldc2 hV dX11_worked_37 co_X11_290 ?_
      refine fn_ldc2 hV dX11_worked_40 co_X11_292 ?_
      refine fn_cS3 hV (c_X11_in E _ _ _ _ (by omega) (by omega) (by omega)) ms_X11_in lk_X11_117 dX11_worked_43 ⟨rfl, rfl⟩ rfl ?_
      refine fn_ifneb hV dX11_worked_46 (fun q46 => ?_) (fun q46 => ?_)
      · obtain ⟨m, rfl⟩ : ∃ m : Nat, n = m := ⟨n.toNat, by omega⟩
        refine fn_aload_0 hV dX11_worked_53 ?_
        refine fn_cV0Q hV (c_X11_courses E _ (mv σ) (zsc0 hσ1) hW) mv_X11_courses lk_X11_294 dX11_worked_54 sh_51 rfl ⟨rfl, rfl⟩ rfl (fun σ2 hp => ?_)
        obtain ⟨cF, cv⟩ := hp
        have e67 : σ2 67 = mv σ 16 := by rw [cF 67 (by decide), f16]
        have e70 : σ2 70 = mv σ 19 := by rw [cF 70 (by decide), f19]
        refine fn_aload_0 hV dX11_worked_57 ?_
        refine fn_iload_1 hV dX11_worked_58 ?_
        refine fn_iload_2 hV dX11_worked_59 ?_
        refine fn_iload_3 hV dX11_worked_60 ?_
        refine fn_iload_4 hV dX11_worked_61 ?_
        refine fn_cV4 hV (c_X11_workedOf E _ m (by omega) (fun l l0 l1 => by rw [cv l l0 (by omega)]; exact zcrs_in _ _) (fun l l0 l1 => by rw [e67]; exact x2 l l0 (by omega)) _ _ _ (by omega) (by omega) h_e1) mv_X11_workedOf lk_X11_297 dX11_worked_63 sh_51 rfl ⟨rfl, rfl⟩ rfl ?_
        exact fn_iret hR dX11_worked_66 (zMP.fr hσ1 (cF.mono (by decide)) (by rw [e67, e70, zwk_congr (C1 := zcrs (mv σ)) (D1 := mv σ 16) (M1 := mv σ 19) (fun l l0 l1 => cv l l0 (by omega)) (fun _ _ _ => rfl) (fun _ _ _ => rfl)]; unfold S_worked; simp only [if_neg (show ¬ ¬ (0 ≤ (m : Int) ∧ (m : Int) ≤ mv σ 0 18) by omega), if_neg (show ¬ ¬ ((0 ≤ d ∧ d ≤ 1000) ∧ (-1600 ≤ s ∧ s ≤ 1599)) by omega), Int.toNat_natCast]))
      · refine fn_sipush hV dX11_worked_49 rfl ?_
        exact fn_iret hR dX11_worked_52 (zMP.rf hσ1 (by unfold S_worked; rw [if_neg (by omega), if_pos (by omega)]))
  · refine fn_sipush hV dX11_worked_19 rfl ?_
    exact fn_iret hR dX11_worked_22 (zMP.rf hσ1 (by unfold S_worked; rw [if_pos (by omega)]))
