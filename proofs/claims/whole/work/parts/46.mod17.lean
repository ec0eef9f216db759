set_option maxHeartbeats 4000000 in
set_option maxRecDepth 20000 in
theorem c_X11_count (E : fnE) (σ : fnMem) (hW : zWF (mv σ)) (w : Int) (h_w : fnR w) : fnOk E mX11_count [.ref 51, zI w] σ (fnQI (zMP (S_count (mv σ) w) (mv σ) σ)) := by
  refine fnOk.of [.ref 51, zI w, .null, .null, .null, .null, .null] rfl (by decide +kernel) rfl (fun V hV hR => ?_)
  replace hV : fnCx E RX11 cX11_count 7 1 22 V := hV
  replace hR : fnRt cX11_count (some .int) _ V := hR
  refine fn_aload_0 hV dX11_count_0 ?_
  refine fn_iconst hV dX11_count_1 ?_
  refine fn_putIz hV 0 dX11_count_2 fp_X11_96 fi_51_0 rfl ?_
  generalize hσ1 : fnUp σ 51 0 0 = σ1
  have e : ∀ k, k ≠ 51 → σ1 k = σ k := fun k hk => by rw [← hσ1, fnUp_ne _ _ _ hk]
  have e0 : ∀ j, j ≠ 0 → σ1 51 j = mv σ 0 j := fun j hj => by rw [← hσ1, fnUp_off _ _ _ hj]; rfl
  have f3 : mv σ 3 = σ1 54 := (e 54 (by decide)).symm
  have f7 : mv σ 7 = σ1 58 := (e 58 (by decide)).symm
  have f10 : mv σ 10 = σ1 61 := (e 61 (by decide)).symm
  have f15 : mv σ 15 = σ1 66 := (e 66 (by decide)).symm
  have f19 : mv σ 19 = σ1 70 := (e 70 (by decide)).symm
  obtain ⟨x1, x2, x3, x4, x5, x6, x7, x8⟩ := hW.2.2.2.2.2
  have g18 := e0 18 (by decide)
  obtain ⟨L, hL, hL4⟩ := hW.L
  have hLn := zLn_eq hL
  obtain ⟨w1, w2, w3, w4, w5⟩ := hW.2.2.1
  have w6 := hW.2.2.2.1.2.2.1
  have w7 := hW.2.2.2.2.1.2.2
  refine fn_iconst hV dX11_count_5 ?_
  refine fn_istore_2 hV dX11_count_6 rfl rfl ?_
  refine fn_iconst hV dX11_count_7 ?_
  refine fn_istore_3 hV dX11_count_8 rfl rfl ?_
  refine fn_iconst hV dX11_count_9 ?_
  refine fn_istore_4 hV dX11_count_10 rfl rfl ?_
  refine fn_iconst hV dX11_count_12 ?_
  refine fn_istore_5 hV dX11_count_13 rfl rfl ?_
  refine fn_iconst hV dX11_count_15 ?_
  refine fn_istore_6 hV dX11_count_16 rfl rfl ?_
  have L1 : ∀ k1 : Nat, k1 ≤ 6 → ∀ (i a : Int), True → (i = k1) → (a = zsum (fun k => if mv σ 3 k ≠ 0 then 1 else 0) k1) → V 18 [.ref 51, zI w, zI a, zI 0, zI 0, zI 0, zI i] [] σ1 := by
    refine fn_rec (fun k1 hk1 ihL1 => ?_)
    intro i a _ hi1 ha1
    refine fn_iload_6 hV dX11_count_18 ?_
    refine fn_bipush hV dX11_count_20 rfl ?_
    refine fn_icmp_ge hV (by omega) (by omega) dX11_count_22 (fun q22 => ?_) (fun q22 => ?_)
    · refine fn_iconst hV dX11_count_49 ?_
      refine fn_istore_6 hV dX11_count_50 rfl rfl ?_
      have L2 : ∀ k2 : Nat, k2 ≤ 4 → ∀ (i a : Int), True → (i = k2) → (a = zsum (fun k => if mv σ 3 k ≠ 0 then 1 else 0) 6 + zsum (fun k => if mv σ 7 k ≠ 0 then 1 else 0) k2) → V 52 [.ref 51, zI w, zI a, zI 0, zI 0, zI 0, zI i] [] σ1 := by
        refine fn_rec (fun k2 hk2 ihL2 => ?_)
        intro i a _ hi2 ha2
        refine fn_iload_6 hV dX11_count_52 ?_
        refine fn_iconst hV dX11_count_54 ?_
        refine fn_icmp_ge hV (by omega) (by omega) dX11_count_55 (fun q55 => ?_) (fun q55 => ?_)
        · refine fn_iconst hV dX11_count_82 ?_
          refine fn_istore_6 hV dX11_count_83 rfl rfl ?_
          have L3 : ∀ k3 : Nat, k3 ≤ 20 → ∀ (i b : Int), True → (i = k3) → (b = zsum (fun k => if mv σ 15 k ≠ 0 then 1 else 0) k3) → V 85 [.ref 51, zI w, zI a, zI b, zI 0, zI 0, zI i] [] σ1 := by
            refine fn_rec (fun k3 hk3 ihL3 => ?_)
            intro i b _ hi3 ha3
            refine fn_iload_6 hV dX11_count_85 ?_
            refine fn_bipush hV dX11_count_87 rfl ?_
            refine fn_icmp_ge hV (by omega) (by omega) dX11_count_89 (fun q89 => ?_) (fun q89 => ?_)
            · refine fn_iconst hV dX11_count_116 ?_
              refine fn_istore_6 hV dX11_count_117 rfl rfl ?_
              have L4 : ∀ k4 : Nat, k4 ≤ 24 → ∀ (i c : Int), True → (i = k4) → (c = zsum (fun k => if mv σ 10 k ≠ 0 then 1 else 0) k4) → V 119 [.ref 51, zI w, zI a, zI b, zI c, zI 0, zI i] [] σ1 := by
                refine fn_rec (fun k4 hk4 ihL4 => ?_)
                intro i c _ hi4 ha4
                refine fn_iload_6 hV dX11_count_119 ?_
                refine fn_bipush hV dX11_count_121 rfl ?_
                refine fn_icmp_ge hV (by omega) (by omega) dX11_count_123 (fun q123 => ?_) (fun q123 => ?_)
                · refine fn_iconst hV dX11_count_152 ?_
                  refine fn_istore_6 hV dX11_count_153 rfl rfl ?_
                  have L5 : ∀ k5 : Nat, k5 ≤ L → ∀ (i d : Int), True → (i = k5) → (d = zsum (mv σ 19) k5) → V 155 [.ref 51, zI w, zI a, zI b, zI c, zI d, zI i] [] σ1 := by
                    refine fn_rec (fun k5 hk5 ihL5 => ?_)
                    intro i d _ hi5 ha5
                    refine fn_iload_6 hV dX11_count_155 ?_
                    refine fn_aload_0 hV dX11_count_157 ?_
                    refine fn_getIz hV 18 dX11_count_158 fl_X11_272 fi_51_18 rfl ?_
                    rw [g18, hL]
                    refine fn_icmp_ge hV (by omega) (by omega) dX11_count_161 (fun q161 => ?_) (fun q161 => ?_)
                    · refine fn_iload_1 hV dX11_count_182 ?_
                      by_cases w183_0 : w = 0
                      · refine fn_tswIn (tgt := 220) hV 0 dX11_count_183 (by omega) (by omega) (by omega) rfl (by decide) ?_
                        refine fn_aload_0 hV dX11_count_220 ?_
                        refine fn_getIz hV 18 dX11_count_221 fl_X11_272 fi_51_18 rfl ?_
                        exact fn_iret hR dX11_count_224 (zMP.rf hσ1 (by unfold S_count; simp only [if_pos (show w = 0 by omega)]; exact g18))
                      by_cases w183_1 : w = 1
                      · refine fn_tswIn (tgt := 225) hV 1 dX11_count_183 (by omega) (by omega) (by omega) rfl (by decide) ?_
                        refine fn_aload_0 hV dX11_count_225 ?_
                        refine fn_cV0 hV (c_X11_laid E _ (mv σ) (zsc0 hσ1) hW) mv_X11_laid lk_X11_216 dX11_count_226 sh_51 rfl ⟨rfl, rfl⟩ rfl ?_
                        exact fn_iret hR dX11_count_229 (zMP.rf hσ1 (by unfold S_count; simp only [if_neg (show ¬ w = 0 by omega), if_pos (show w = 1 by omega)]))
                      by_cases w183_2 : w = 2
                      · refine fn_tswIn (tgt := 230) hV 2 dX11_count_183 (by omega) (by omega) (by omega) rfl (by decide) ?_
                        refine fn_iload_2 hV dX11_count_230 ?_
                        exact fn_iret hR dX11_count_231 (zMP.rf hσ1 (by unfold S_count; simp only [if_neg (show ¬ w = 0 by omega), if_neg (show ¬ w = 1 by omega), if_pos (show w = 2 by omega)]; rw [ha2, show k2 = 4 by omega]))
                      by_cases w183_3 : w = 3
                      · refine fn_tswIn (tgt := 232) hV 3 dX11_count_183 (by omega) (by omega) (by omega) rfl (by decide) ?_
                        refine fn_iload_3 hV dX11_count_232 ?_
                        exact fn_iret hR dX11_count_233 (zMP.rf hσ1 (by unfold S_count; simp only [if_neg (show ¬ w = 0 by omega), if_neg (show ¬ w = 1 by omega), if_neg (show ¬ w = 2 by omega), if_pos (show w = 3 by omega)]; rw [ha3, show k3 = 20 by omega]))
                      by_cases w183_4 : w = 4
                      · refine fn_tswIn (tgt := 234) hV 4 dX11_count_183 (by omega) (by omega) (by omega) rfl (by decide) ?_
                        refine fn_iload_4 hV dX11_count_234 ?_
                        exact fn_iret hR dX11_count_236 (zMP.rf hσ1 (by unfold S_count; simp only [if_neg (show ¬ w = 0 by omega), if_neg (show ¬ w = 1 by omega), if_neg (show ¬ w = 2 by omega), if_neg (show ¬ w = 3 by omega), if_pos (show w = 4 by omega)]; rw [ha4, show k4 = 24 by omega]))
                      by_cases w183_5 : w = 5
                      · refine fn_tswIn (tgt := 237) hV 5 dX11_count_183 (by omega) (by omega) (by omega) rfl (by decide) ?_
                        refine fn_iload_5 hV dX11_count_237 ?_
                        exact fn_iret hR dX11_count_239 (zMP.rf hσ1 (by unfold S_count; simp only [if_neg (show ¬ w = 0 by omega), if_neg (show ¬ w = 1 by omega), if_neg (show ¬ w = 2 by omega), if_neg (show ¬ w = 3 by omega), if_neg (show ¬ w = 4 by omega), if_pos (show w = 5 by omega)]; rw [ha5, show k5 = L by omega, hLn]))
                      refine fn_tswOut (tgt := 240) hV dX11_count_183 (by omega) (by omega) (by decide) ?_
                      refine fn_sipush hV dX11_count_240 rfl ?_
                      exact fn_iret hR dX11_count_243 (zMP.rf hσ1 (by unfold S_count; rw [if_neg (by omega), if_neg (by omega), if_neg (by omega), if_neg (by omega), if_neg (by omega), if_neg (by omega)]))
                    · refine fn_iload_5 hV dX11_count_164 ?_
                      refine fn_aload_0 hV dX11_count_166 ?_
                      refine fn_getR hV dX11_count_167 fl_X11_69 fr_51_22 ?_
                      refine fn_iload_6 hV dX11_count_170 ?_
                      refine fn_iald hV dX11_count_172 ar_70 (by omega) (by omega) ?_
                      refine fn_iadd hV dX11_count_173 ?_
                      refine fn_istore_5 hV dX11_count_174 rfl rfl ?_
                      refine fn_iinc_6 hV dX11_count_176 rfl rfl ?_
                      refine fn_goto hV dX11_count_179 ?_
                      exact ihL5 (k5 + 1) (by omega) (by omega) _ _ trivial (by omega) (by rw [zsum_s, ← hi5, ha5, f19])
                  exact L5 0 (by omega) _ _ trivial (by omega) rfl
                · have q := w6 i (by omega) (by omega)
                  rw [f10] at q
                  refine fn_iload_4 hV dX11_count_126 ?_
                  refine fn_aload_0 hV dX11_count_128 ?_
                  refine fn_getR hV dX11_count_129 fl_X11_42 fr_51_12 ?_
                  refine fn_iload_6 hV dX11_count_132 ?_
                  refine fn_bald hV dX11_count_134 ar_61 (by omega) (by omega) ?_
                  refine fn_t_if_eq hV (by omega) dX11_count_135 dX11_count_138 dX11_count_139 dX11_count_142 ?_
                  refine fn_iadd hV dX11_count_143 ?_
                  refine fn_istore_4 hV dX11_count_144 rfl rfl ?_
                  refine fn_iinc_6 hV dX11_count_146 rfl rfl ?_
                  refine fn_goto hV dX11_count_149 ?_
                  exact ihL4 (k4 + 1) (by omega) (by omega) _ _ trivial (by omega) (by rw [zsum_s _ k4, ← hi4, ha4, f10] <;> first | omega | ((repeat' split) <;> omega))
              exact L4 0 (by omega) _ _ trivial (by omega) rfl
            · have q := w7 i (by omega) (by omega)
              rw [f15] at q
              refine fn_iload_3 hV dX11_count_92 ?_
              refine fn_aload_0 hV dX11_count_93 ?_
              refine fn_getR hV dX11_count_94 fl_X11_57 fr_51_17 ?_
              refine fn_iload_6 hV dX11_count_97 ?_
              refine fn_iald hV dX11_count_99 ar_66 (by omega) (by omega) ?_
              refine fn_t_if_ne hV (by omega) dX11_count_100 dX11_count_103 dX11_count_104 dX11_count_107 ?_
              refine fn_iadd hV dX11_count_108 ?_
              refine fn_istore_3 hV dX11_count_109 rfl rfl ?_
              refine fn_iinc_6 hV dX11_count_110 rfl rfl ?_
              refine fn_goto hV dX11_count_113 ?_
              exact ihL3 (k3 + 1) (by omega) (by omega) _ _ trivial (by omega) (by rw [zsum_s _ k3, ← hi3, ha3, f15] <;> first | omega | ((repeat' split) <;> omega))
          exact L3 0 (by omega) _ _ trivial (by omega) rfl
        · have q := w4 i (by omega) (by omega)
          rw [f7] at q
          refine fn_iload_2 hV dX11_count_58 ?_
          refine fn_aload_0 hV dX11_count_59 ?_
          refine fn_getR hV dX11_count_60 fl_X11_29 fr_51_7 ?_
          refine fn_iload_6 hV dX11_count_63 ?_
          refine fn_iald hV dX11_count_65 ar_58 (by omega) (by omega) ?_
          refine fn_t_if_le hV (by omega) dX11_count_66 dX11_count_69 dX11_count_70 dX11_count_73 ?_
          refine fn_iadd hV dX11_count_74 ?_
          refine fn_istore_2 hV dX11_count_75 rfl rfl ?_
          refine fn_iinc_6 hV dX11_count_76 rfl rfl ?_
          refine fn_goto hV dX11_count_79 ?_
          exact ihL2 (k2 + 1) (by omega) (by omega) _ _ trivial (by omega) (by rw [zsum_s _ k2, ← hi2, ha2, f7] <;> first | omega | ((repeat' split) <;> omega))
      exact L2 0 (by omega) _ _ trivial (by omega) (by rw [ha1, show k1 = 6 by omega]; simp [zsum])
    · have q := w1 i (by omega) (by omega)
      rw [f3] at q
      refine fn_iload_2 hV dX11_count_25 ?_
      refine fn_aload_0 hV dX11_count_26 ?_
      refine fn_getR hV dX11_count_27 fl_X11_16 fr_51_3 ?_
      refine fn_iload_6 hV dX11_count_30 ?_
      refine fn_iald hV dX11_count_32 ar_54 (by omega) (by omega) ?_
      refine fn_t_if_le hV (by omega) dX11_count_33 dX11_count_36 dX11_count_37 dX11_count_40 ?_
      refine fn_iadd hV dX11_count_41 ?_
      refine fn_istore_2 hV dX11_count_42 rfl rfl ?_
      refine fn_iinc_6 hV dX11_count_43 rfl rfl ?_
      refine fn_goto hV dX11_count_46 ?_
      exact ihL1 (k1 + 1) (by omega) (by omega) _ _ trivial (by omega) (by rw [zsum_s _ k1, ← hi1, ha1, f3] <;> first | omega | ((repeat' split) <;> omega))
  exact L1 0 (by omega) _ _ trivial (by omega) rfl
