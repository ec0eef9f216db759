theorem zwK_in {μ : fnMem} (hW : zWF μ) (f : Int → Int) (hf : ∀ r, -1000 ≤ f r ∧ f r ≤ 1000) (d s : Int) : -12000000 ≤ zwk (zcrs μ) (μ 16) (μ 19) f d s (zLn μ) ∧ zwk (zcrs μ) (μ 16) (μ 19) f d s (zLn μ) ≤ 12000000 := by
  obtain ⟨x1, x2, x3, x4, x5, x6, x7, x8⟩ := hW.2.2.2.2.2
  have h3 : (zLn μ : Int) = μ 0 18 := by unfold zLn; omega
  have m := zmf_le (n := zLn μ) (C := zcrs μ) (M := μ 19) (f := f) (g := fun l => (zcrs μ l + (if d ≤ μ 16 l then s else 0)) % 3200) (fun l l0 l1 => x5 l l0 (by omega)) hf (zLn μ) (Nat.le_refl _)
  unfold zwk
  omega

set_option maxHeartbeats 4000000 in
set_option maxRecDepth 20000 in
theorem c_X11_wreck (E : fnE) (σ : fnMem) (hW : zWF (mv σ)) (N : Int) (h_N : fnR N) (Ea : Int) (h_Ea : fnR Ea) (w : Int) (h_w : fnR w) : fnOk E mX11_wreck [.ref 51, zI N, zI Ea, zI w] σ (fnQI (zMP (S_wreck (mv σ) N Ea w) (mv σ) σ)) := by
  refine fnOk.of [.ref 51, zI N, zI Ea, zI w, .null, .null, .null, .null, .null, .null, .null, .null, .null, .null, .null, .null] rfl (by decide +kernel) rfl (fun V hV hR => ?_)
  replace hV : fnCx E RX11 cX11_wreck 16 8 175 V := hV
  replace hR : fnRt cX11_wreck (some .int) _ V := hR
  refine fn_aload_0 hV dX11_wreck_0 ?_
  refine fn_iconst hV dX11_wreck_1 ?_
  refine fn_putIz hV 0 dX11_wreck_2 fp_X11_96 fi_51_0 rfl ?_
  generalize hσ1 : fnUp σ 51 0 0 = σ1
  have e : ∀ k, k ≠ 51 → σ1 k = σ k := fun k hk => by rw [← hσ1, fnUp_ne _ _ _ hk]
  have e0 : ∀ j, j ≠ 0 → σ1 51 j = mv σ 0 j := fun j hj => by rw [← hσ1, fnUp_off _ _ _ hj]; rfl
  have f16 : mv σ 16 = σ1 67 := (e 67 (by decide)).symm
  have f19 : mv σ 19 = σ1 70 := (e 70 (by decide)).symm
  obtain ⟨x1, x2, x3, x4, x5, x6, x7, x8⟩ := hW.2.2.2.2.2
  have g18 := e0 18 (by decide)
  obtain ⟨L, hL, hL4⟩ := hW.L
  have hLn := zLn_eq hL
  refine fn_iload_1 hV dX11_wreck_5 ?_
  refine fn_i2lr hV dX11_wreck_6 (by omega) ?_
  refine fn_ldc2 hV dX11_wreck_7 co_X11_250 ?_
  refine fn_ldc2 hV dX11_wreck_10 co_X11_248 ?_
  refine fn_cS3 hV (c_X11_in E _ _ _ _ (by omega) (by omega) (by omega)) ms_X11_in lk_X11_117 dX11_wreck_13 ⟨rfl, rfl⟩ rfl ?_
  refine fn_ifeqb hV dX11_wreck_16 (fun q16 => ?_) (fun q16 => ?_)
  · refine fn_sipush hV dX11_wreck_45 rfl ?_
    exact fn_iret hR dX11_wreck_48 (zMP.rf hσ1 (by unfold S_wreck; rw [if_pos (by omega)]))
  · refine fn_iload_2 hV dX11_wreck_19 ?_
    refine fn_i2lr hV dX11_wreck_20 (by omega) ?_
    refine fn_ldc2 hV dX11_wreck_21 co_X11_250 ?_
    refine fn_ldc2 hV dX11_wreck_24 co_X11_248 ?_
    refine fn_cS3 hV (c_X11_in E _ _ _ _ (by omega) (by omega) (by omega)) ms_X11_in lk_X11_117 dX11_wreck_27 ⟨rfl, rfl⟩ rfl ?_
    refine fn_ifeqb hV dX11_wreck_30 (fun q30 => ?_) (fun q30 => ?_)
    · refine fn_sipush hV dX11_wreck_45 rfl ?_
      exact fn_iret hR dX11_wreck_48 (zMP.rf hσ1 (by unfold S_wreck; rw [if_pos (by omega)]))
    · refine fn_iload_3 hV dX11_wreck_33 ?_
      refine fn_i2lr hV dX11_wreck_34 (by omega) ?_
      refine fn_lconst0 hV dX11_wreck_35 ?_
      refine fn_ldc2 hV dX11_wreck_36 co_X11_99 ?_
      refine fn_cS3 hV (c_X11_in E _ _ _ _ (by omega) (by omega) (by omega)) ms_X11_in lk_X11_117 dX11_wreck_39 ⟨rfl, rfl⟩ rfl ?_
      refine fn_ifneb hV dX11_wreck_42 (fun q42 => ?_) (fun q42 => ?_)
      · refine fn_aload_0 hV dX11_wreck_49 ?_
        refine fn_getIz hV 18 dX11_wreck_50 fl_X11_272 fi_51_18 rfl ?_
        refine fn_if_ne hV (by omega) dX11_wreck_53 (fun q53 => ?_) (fun q53 => ?_)
        · refine fn_aload_0 hV dX11_wreck_60 ?_
          refine fn_cV0Q hV (c_X11_courses E _ (mv σ) (zsc0 hσ1) hW) mv_X11_courses lk_X11_294 dX11_wreck_61 sh_51 rfl ⟨rfl, rfl⟩ rfl (fun σ2 hp => ?_)
          obtain ⟨cF, cv⟩ := hp
          have e67 : σ2 67 = mv σ 16 := by rw [cF 67 (by decide), f16]
          have e70 : σ2 70 = mv σ 19 := by rw [cF 70 (by decide), f19]
          have e18 : σ2 51 18 = L := by rw [cF 51 (by decide), g18, hL]
          have hC2 : ∀ l : Int, 0 ≤ l → l < L → 0 ≤ σ2 78 l ∧ σ2 78 l < 3200 := fun l l0 l1 => by rw [cv l l0 (by omega)]; exact zcrs_in _ _
          have hD2 : ∀ l : Int, 0 ≤ l → l < L → 0 ≤ σ2 67 l ∧ σ2 67 l ≤ 999 := fun l l0 l1 => by rw [e67]; exact x2 l l0 (by omega)
          have hwk : ∀ {f : Int → Int} {d s : Int}, zwk (σ2 78) (σ2 67) (σ2 70) f d s L = zwk (zcrs (mv σ)) (mv σ 16) (mv σ 19) f d s (zLn (mv σ)) := by
            intro f d s
            rw [e67, e70, hLn]
            exact zwk_congr (fun l l0 l1 => cv l l0 (by omega)) (fun _ _ _ => rfl) (fun _ _ _ => rfl)
          have hq0 := fun l t => zwQ_nn hW (N := N) (Ea := Ea) (by omega) (by omega) l t
          refine fn_iconst hV dX11_wreck_64 ?_
          refine fn_istore_4 hV dX11_wreck_65 rfl rfl ?_
          refine fn_iconst hV dX11_wreck_67 ?_
          refine fn_istore_5 hV dX11_wreck_68 rfl rfl ?_
          refine fn_ldc2 hV dX11_wreck_70 co_X11_318 ?_
          refine fn_lstore_6 hV dX11_wreck_73 rfl rfl ?_
          refine fn_iconst hV dX11_wreck_75 ?_
          refine fn_istore_8 hV dX11_wreck_76 rfl rfl ?_
          have L : ∀ k : Nat, k ≤ L → ∀ (i bd bs b : Int), True → (i = k) → (zwL (zwQ (mv σ) N Ea) (mv σ 16) (zpq L i (-300)) b bd bs) → V 78 [.ref 51, zI N, zI Ea, zI w, zI bd, zI bs, zL b, .null, zI i, .null, .null, .null, .null, .null, .null, .null] [] σ2 := by
            refine fn_rec (fun k hk ihL => ?_)
            intro i bd bs b _ hi hI
            refine fn_iload_8 hV dX11_wreck_78 ?_
            refine fn_aload_0 hV dX11_wreck_80 ?_
            refine fn_getIz hV 18 dX11_wreck_81 fl_X11_272 fi_51_18 rfl ?_
            rw [e18]
            refine fn_icmp_ge hV (by omega) (by omega) dX11_wreck_84 (fun q84 => ?_) (fun q84 => ?_)
            · have hE := hI.congr (pr1 := zpr L 320) (fun l t => by unfold zpq zpr; omega)
              have hz : zwr (mv σ) N Ea = (b, bd, bs) := by
                refine zwr_eq ?_
                rw [hLn]
                rcases hE with ⟨-, h⟩ | h
                · exact absurd (show zpr L 320 0 0 by unfold zpr; omega) (h 0 0)
                · exact h
              have bn := hI.nn hq0
              refine fn_iload_3 hV dX11_wreck_211 ?_
              refine fn_if_ne hV (by omega) dX11_wreck_212 (fun q212 => ?_) (fun q212 => ?_)
              · refine fn_iload_3 hV dX11_wreck_220 ?_
                refine fn_iconst hV dX11_wreck_221 ?_
                refine fn_icmp_ne hV (by omega) (by omega) dX11_wreck_222 (fun q222 => ?_) (fun q222 => ?_)
                · refine fn_lload_6 hV dX11_wreck_230 ?_
                  refine fn_l2i hV dX11_wreck_232 ?_
                  exact fn_iret hR dX11_wreck_233 (zMP.fr hσ1 (cF.mono (by decide)) (by unfold S_wreck; rw [if_neg (by omega), if_neg (by omega), hz]; first | (rw [if_pos (by omega)]; done) | (rw [if_neg (by omega), if_pos (by omega)]; done) | (rw [if_neg (by omega), if_neg (by omega)]; done)))
                · refine fn_iload_5 hV dX11_wreck_225 ?_
                  refine fn_goto hV dX11_wreck_227 ?_
                  exact fn_iret hR dX11_wreck_233 (zMP.fr hσ1 (cF.mono (by decide)) (by unfold S_wreck; rw [if_neg (by omega), if_neg (by omega), hz]; first | (rw [if_pos (by omega)]; done) | (rw [if_neg (by omega), if_pos (by omega)]; done) | (rw [if_neg (by omega), if_neg (by omega)]; done)))
              · refine fn_iload_4 hV dX11_wreck_215 ?_
                refine fn_goto hV dX11_wreck_217 ?_
                exact fn_iret hR dX11_wreck_233 (zMP.fr hσ1 (cF.mono (by decide)) (by unfold S_wreck; rw [if_neg (by omega), if_neg (by omega), hz]; first | (rw [if_pos (by omega)]; done) | (rw [if_neg (by omega), if_pos (by omega)]; done) | (rw [if_neg (by omega), if_neg (by omega)]; done)))
            · refine fn_sipush hV dX11_wreck_87 rfl ?_
              refine fn_istore_9 hV dX11_wreck_90 rfl rfl ?_
              have L2 : ∀ k2 : Nat, k2 ≤ 31 → ∀ (s bd bs b : Int), True → (s = 20 * k2 - 300) → (zwL (zwQ (mv σ) N Ea) (mv σ 16) (zpq L i s) b bd bs) → V 92 [.ref 51, zI N, zI Ea, zI w, zI bd, zI bs, zL b, .null, zI i, zI s, .null, .null, .null, .null, .null, .null] [] σ2 := by
                refine fn_rec (fun k2 hk2 ihL2 => ?_)
                intro s bd bs b _ hs hI
                refine fn_iload_9 hV dX11_wreck_92 ?_
                have bn := hI.nn hq0
                refine fn_sipush hV dX11_wreck_94 rfl ?_
                refine fn_icmp_gt hV (by omega) (by omega) dX11_wreck_97 (fun q97 => ?_) (fun q97 => ?_)
                · refine fn_iinc_8 hV dX11_wreck_205 rfl rfl ?_
                  refine fn_goto hV dX11_wreck_208 ?_
                  refine fn_nul_9 hV ?_
                  exact ihL (k + 1) (by omega) (by omega) _ _ _ _ trivial (by omega) (hI.congr (fun l t => by unfold zpq; omega))
                · refine fn_iload_1 hV dX11_wreck_100 ?_
                  refine fn_aload_0 hV dX11_wreck_101 ?_
                  refine fn_aload_0 hV dX11_wreck_102 ?_
                  refine fn_getIz hV 18 dX11_wreck_103 fl_X11_272 fi_51_18 rfl ?_
                  rw [e18]
                  refine fn_aload_0 hV dX11_wreck_106 ?_
                  refine fn_getR hV dX11_wreck_107 fl_X11_60 fr_51_19 ?_
                  refine fn_iload_8 hV dX11_wreck_110 ?_
                  refine fn_iald hV dX11_wreck_112 ar_67 (by omega) (by omega) ?_
                  rw [show σ2 67 i = mv σ 16 i by rw [e67]]
                  have y2 := x2 i (by omega) (by omega)
                  refine fn_iload_9 hV dX11_wreck_113 ?_
                  refine fn_iconst hV dX11_wreck_115 ?_
                  refine fn_cV4 hV ((show fnOk E mX11_workedOf [.ref 51, zI (L : Int), zI (mv σ 16 i), zI s, zI 0] σ2 (fnIs (some (zI (zwk (zcrs (mv σ)) (mv σ 16) (mv σ 19) zcosine (mv σ 16 i) s (zLn (mv σ))))) σ2) from by have h := c_X11_workedOf E σ2 L (by omega) hC2 hD2 (mv σ 16 i) s 0 (by omega) (by omega) (by decide); rw [if_neg (by decide), hwk] at h; exact h)) mv_X11_workedOf lk_X11_297 dX11_wreck_116 sh_51 rfl ⟨rfl, rfl⟩ rfl ?_
                  have u3 := zwK_in hW zcosine zcosine_le (mv σ 16 i) s
                  have u4 := zwK_in hW zsine zsine_le (mv σ 16 i) s
                  have u1 := zwQ_in hW (N := N) (Ea := Ea) (by omega) (by omega) zcosine zcosine_le (mv σ 16 i) s
                  have u2 := zwQ_in hW (N := N) (Ea := Ea) (by omega) (by omega) zsine zsine_le (mv σ 16 i) s
                  refine fn_sipush hV dX11_wreck_119 rfl ?_
                  refine fn_idiv hV dX11_wreck_122 (by omega) (by omega) (by omega) ?_
                  refine fn_isub hV dX11_wreck_123 ?_
                  refine fn_i2lr hV dX11_wreck_124 (by omega) ?_
                  refine fn_lstore_10 hV dX11_wreck_125 rfl rfl ?_
                  refine fn_iload_2 hV dX11_wreck_127 ?_
                  refine fn_aload_0 hV dX11_wreck_128 ?_
                  refine fn_aload_0 hV dX11_wreck_129 ?_
                  refine fn_getIz hV 18 dX11_wreck_130 fl_X11_272 fi_51_18 rfl ?_
                  rw [e18]
                  refine fn_aload_0 hV dX11_wreck_133 ?_
                  refine fn_getR hV dX11_wreck_134 fl_X11_60 fr_51_19 ?_
                  refine fn_iload_8 hV dX11_wreck_137 ?_
                  refine fn_iald hV dX11_wreck_139 ar_67 (by omega) (by omega) ?_
                  rw [show σ2 67 i = mv σ 16 i by rw [e67]]
                  refine fn_iload_9 hV dX11_wreck_140 ?_
                  refine fn_iconst hV dX11_wreck_142 ?_
                  refine fn_cV4 hV ((show fnOk E mX11_workedOf [.ref 51, zI (L : Int), zI (mv σ 16 i), zI s, zI 1] σ2 (fnIs (some (zI (zwk (zcrs (mv σ)) (mv σ 16) (mv σ 19) zsine (mv σ 16 i) s (zLn (mv σ))))) σ2) from by have h := c_X11_workedOf E σ2 L (by omega) hC2 hD2 (mv σ 16 i) s 1 (by omega) (by omega) (by decide); rw [if_pos (by decide), hwk] at h; exact h)) mv_X11_workedOf lk_X11_297 dX11_wreck_143 sh_51 rfl ⟨rfl, rfl⟩ rfl ?_
                  refine fn_sipush hV dX11_wreck_146 rfl ?_
                  refine fn_idiv hV dX11_wreck_149 (by omega) (by omega) (by omega) ?_
                  refine fn_isub hV dX11_wreck_150 ?_
                  refine fn_i2lr hV dX11_wreck_151 (by omega) ?_
                  refine fn_lstore_12 hV dX11_wreck_152 rfl rfl ?_
                  refine fn_lload_10 hV dX11_wreck_154 ?_
                  refine fn_lload_10 hV dX11_wreck_156 ?_
                  refine fn_lmul hV dX11_wreck_158 ?_
                  refine fn_lload_12 hV dX11_wreck_159 ?_
                  refine fn_lload_12 hV dX11_wreck_161 ?_
                  refine fn_lmul hV dX11_wreck_163 ?_
                  refine fn_ladd hV dX11_wreck_164 ?_
                  refine fn_lstore_14 hV dX11_wreck_165 rfl rfl ?_
                  have hqe : zwQ (mv σ) N Ea i s = (N - (zwk (zcrs (mv σ)) (mv σ 16) (mv σ 19) zcosine (mv σ 16 i) s (zLn (mv σ))).tdiv 1000) * (N - (zwk (zcrs (mv σ)) (mv σ 16) (mv σ 19) zcosine (mv σ 16 i) s (zLn (mv σ))).tdiv 1000) + (Ea - (zwk (zcrs (mv σ)) (mv σ 16) (mv σ 19) zsine (mv σ 16 i) s (zLn (mv σ))).tdiv 1000) * (Ea - (zwk (zcrs (mv σ)) (mv σ 16) (mv σ 19) zsine (mv σ 16 i) s (zLn (mv σ))).tdiv 1000) := rfl
                  rw [← hqe]
                  have qn := hq0 i s
                  refine fn_lload_6 hV dX11_wreck_167 ?_
                  refine fn_lconst0 hV dX11_wreck_169 ?_
                  refine fn_lcmp_lt hV (by omega) (by omega) dX11_wreck_170 dX11_wreck_171 (fun q170 => ?_) (fun q170 => ?_)
                  · refine fn_lload_14 hV dX11_wreck_182 ?_
                    refine fn_lstore_6 hV dX11_wreck_184 rfl rfl ?_
                    refine fn_aload_0 hV dX11_wreck_186 ?_
                    refine fn_getR hV dX11_wreck_187 fl_X11_60 fr_51_19 ?_
                    refine fn_iload_8 hV dX11_wreck_190 ?_
                    refine fn_iald hV dX11_wreck_192 ar_67 (by omega) (by omega) ?_
                    rw [show σ2 67 i = mv σ 16 i by rw [e67]]
                    refine fn_istore_4 hV dX11_wreck_193 rfl rfl ?_
                    refine fn_iload_9 hV dX11_wreck_195 ?_
                    refine fn_istore_5 hV dX11_wreck_197 rfl rfl ?_
                    refine fn_iinc_9 hV dX11_wreck_199 rfl rfl ?_
                    refine fn_goto hV dX11_wreck_202 ?_
                    refine fn_nul_10 hV ?_
                    refine fn_nul_12 hV ?_
                    refine fn_nul_14 hV ?_
                    exact ihL2 (k2 + 1) (by omega) (by omega) _ _ _ _ trivial (by omega) (by first | exact hI.take hq0 (by omega) (by omega) (by omega) | exact hI.keep (fun j j0 j1 => x8 j i j0 j1 (by omega)) (fun l t h => by unfold zwQ; exact zq_day h) (by omega) (by omega) (by omega) (by omega))
                  · refine fn_lload_14 hV dX11_wreck_174 ?_
                    refine fn_lload_6 hV dX11_wreck_176 ?_
                    refine fn_lcmp_ge hV (by omega) (by omega) dX11_wreck_178 dX11_wreck_179 (fun q178 => ?_) (fun q178 => ?_)
                    · refine fn_iinc_9 hV dX11_wreck_199 rfl rfl ?_
                      refine fn_goto hV dX11_wreck_202 ?_
                      refine fn_nul_10 hV ?_
                      refine fn_nul_12 hV ?_
                      refine fn_nul_14 hV ?_
                      exact ihL2 (k2 + 1) (by omega) (by omega) _ _ _ _ trivial (by omega) (by first | exact hI.take hq0 (by omega) (by omega) (by omega) | exact hI.keep (fun j j0 j1 => x8 j i j0 j1 (by omega)) (fun l t h => by unfold zwQ; exact zq_day h) (by omega) (by omega) (by omega) (by omega))
                    · refine fn_lload_14 hV dX11_wreck_182 ?_
                      refine fn_lstore_6 hV dX11_wreck_184 rfl rfl ?_
                      refine fn_aload_0 hV dX11_wreck_186 ?_
                      refine fn_getR hV dX11_wreck_187 fl_X11_60 fr_51_19 ?_
                      refine fn_iload_8 hV dX11_wreck_190 ?_
                      refine fn_iald hV dX11_wreck_192 ar_67 (by omega) (by omega) ?_
                      rw [show σ2 67 i = mv σ 16 i by rw [e67]]
                      refine fn_istore_4 hV dX11_wreck_193 rfl rfl ?_
                      refine fn_iload_9 hV dX11_wreck_195 ?_
                      refine fn_istore_5 hV dX11_wreck_197 rfl rfl ?_
                      refine fn_iinc_9 hV dX11_wreck_199 rfl rfl ?_
                      refine fn_goto hV dX11_wreck_202 ?_
                      refine fn_nul_10 hV ?_
                      refine fn_nul_12 hV ?_
                      refine fn_nul_14 hV ?_
                      exact ihL2 (k2 + 1) (by omega) (by omega) _ _ _ _ trivial (by omega) (by first | exact hI.take hq0 (by omega) (by omega) (by omega) | exact hI.keep (fun j j0 j1 => x8 j i j0 j1 (by omega)) (fun l t h => by unfold zwQ; exact zq_day h) (by omega) (by omega) (by omega) (by omega))
              exact L2 0 (by omega) _ _ _ _ trivial (by omega) hI
          exact L 0 (by omega) _ _ _ _ trivial (by omega) (Or.inl ⟨rfl, fun l t h => by unfold zpq at h; omega⟩)
        · refine fn_sipush hV dX11_wreck_56 rfl ?_
          exact fn_iret hR dX11_wreck_59 (zMP.rf hσ1 (by unfold S_wreck; rw [if_neg (by omega), if_pos (by omega)]))
      · refine fn_sipush hV dX11_wreck_45 rfl ?_
        exact fn_iret hR dX11_wreck_48 (zMP.rf hσ1 (by unfold S_wreck; rw [if_pos (by omega)]))
