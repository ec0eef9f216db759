set_option maxHeartbeats 4000000 in
set_option maxRecDepth 20000 in
theorem c_X11_filledOf (E : fnE) (σ : fnMem) (c : Int) (hc : 0 ≤ c ∧ c ≤ 2) (F : Int → Int) (hFe : ∀ x, σ 53 (32 * c + x) = F x) (hS : ∀ h, 0 ≤ h → h < 32 → F h = -2009 ∨ (-600 ≤ F h ∧ F h ≤ 600)) (h : Int) (hh : 0 ≤ h ∧ h < 32) (ha : zany F) : fnOk E mX11_filledOf [.ref 51, zI c, zI h] σ (fnIs (some (zI (zfill F h))) σ) := by
  refine fnOk.of [.ref 51, zI c, zI h, .null, .null] rfl (by decide +kernel) rfl (fun V hV hR => ?_)
  replace hV : fnCx E RX11 cX11_filledOf 5 1 29 V := hV
  replace hR : fnRt cX11_filledOf (some .int) _ V := hR
  refine fn_iconst hV dX11_filledOf_0 ?_
  refine fn_istore_3 hV dX11_filledOf_1 rfl rfl ?_
  have L : ∀ k : Nat, k ≤ 32 → ∀ (i : Int), True → (i = k) → (∀ j, 0 ≤ j → j < i → F ((h + j * -1) % 32) = -2009) → V 2 [.ref 51, zI c, zI h, zI i, .null] [] σ := by
    refine fn_rec (fun k hk ihL => ?_)
    intro i _ hi hv
    refine fn_aload_0 hV dX11_filledOf_2 ?_
    obtain ⟨u, u1, u2, u3, u4⟩ := zlst_ex h (-1) hh (by decide) ha
    have hiu : i ≤ u := by
      rcases Int.lt_or_le u i with q | q
      · exact absurd (hv u u1 q) u3
      · exact q
    refine fn_getR hV dX11_filledOf_3 fl_X11_13 fr_51_2 ?_
    refine fn_bipush hV dX11_filledOf_6 rfl ?_
    refine fn_iload_1 hV dX11_filledOf_8 ?_
    refine fn_imul hV dX11_filledOf_9 ?_
    refine fn_iload_2 hV dX11_filledOf_10 ?_
    refine fn_bipush hV dX11_filledOf_11 rfl ?_
    refine fn_iadd hV dX11_filledOf_13 ?_
    refine fn_iload_3 hV dX11_filledOf_14 ?_
    refine fn_isub hV dX11_filledOf_15 ?_
    refine fn_bipush hV dX11_filledOf_16 rfl ?_
    refine fn_iremp hV dX11_filledOf_18 (by omega) (by omega) ?_
    refine fn_iadd hV dX11_filledOf_19 ?_
    refine fn_iald hV dX11_filledOf_20 ar_53 (by omega) (by omega) ?_
    rw [hFe, show (h + 32 - i) % 32 = (h + i * -1) % 32 by omega]
    have s1 := hS ((h + i * -1) % 32) (by omega) (by omega)
    refine fn_sipush hV dX11_filledOf_21 rfl ?_
    refine fn_icmp_ne hV (by omega) (by omega) dX11_filledOf_24 (fun q24 => ?_) (fun q24 => ?_)
    · refine fn_iload_3 hV dX11_filledOf_33 ?_
      refine fn_if_ne hV (by omega) dX11_filledOf_34 (fun q34 => ?_) (fun q34 => ?_)
      · have hn : F h = -2009 := by
          have := hv 0 (by omega) (by omega)
          rwa [show (h + 0 * -1) % 32 = h by omega] at this
        have hl1 : zlst F h (-1) i := ⟨by omega, by omega, q24, hv⟩
        refine fn_iconst hV dX11_filledOf_49 ?_
        refine fn_istore_4 hV dX11_filledOf_50 rfl rfl ?_
        have L2 : ∀ k2 : Nat, k2 ≤ 32 → ∀ (b : Int), True → (b = k2) → (∀ j, 0 ≤ j → j < b → F ((h + j * 1) % 32) = -2009) → V 52 [.ref 51, zI c, zI h, zI i, zI b] [] σ := by
          refine fn_rec (fun k2 hk2 ihL2 => ?_)
          intro b _ hb hw
          refine fn_aload_0 hV dX11_filledOf_52 ?_
          obtain ⟨u, u1, u2, u3, u4⟩ := zlst_ex h 1 hh (by decide) ha
          have hiu : b ≤ u := by
            rcases Int.lt_or_le u b with q | q
            · exact absurd (hw u u1 q) u3
            · exact q
          refine fn_getR hV dX11_filledOf_53 fl_X11_13 fr_51_2 ?_
          refine fn_bipush hV dX11_filledOf_56 rfl ?_
          refine fn_iload_1 hV dX11_filledOf_58 ?_
          refine fn_imul hV dX11_filledOf_59 ?_
          refine fn_iload_2 hV dX11_filledOf_60 ?_
          refine fn_iload_4 hV dX11_filledOf_61 ?_
          refine fn_iadd hV dX11_filledOf_63 ?_
          refine fn_bipush hV dX11_filledOf_64 rfl ?_
          refine fn_iremp hV dX11_filledOf_66 (by omega) (by omega) ?_
          refine fn_iadd hV dX11_filledOf_67 ?_
          refine fn_iald hV dX11_filledOf_68 ar_53 (by omega) (by omega) ?_
          rw [hFe, show (h + b) % 32 = (h + b * 1) % 32 by omega]
          have s2 := hS ((h + b * 1) % 32) (by omega) (by omega)
          refine fn_sipush hV dX11_filledOf_69 rfl ?_
          refine fn_icmp_ne hV (by omega) (by omega) dX11_filledOf_72 (fun q72 => ?_) (fun q72 => ?_)
          · have hl2 : zlst F h 1 b := ⟨by omega, by omega, q72, hw⟩
            have m1 := zmul_le (a := F ((h + i * -1) % 32)) (b := b) (A := 600) (B := 32) (by omega) (by omega) (by omega) (by omega)
            have m2 := zmul_le (a := F ((h + b * 1) % 32)) (b := i) (A := 600) (B := 32) (by omega) (by omega) (by omega) (by omega)
            have hb0 : b ≠ 0 := by
              intro q
              rw [q, show (h + 0 * 1) % 32 = h by omega] at q72
              exact q72 hn
            refine fn_aload_0 hV dX11_filledOf_81 ?_
            refine fn_getR hV dX11_filledOf_82 fl_X11_13 fr_51_2 ?_
            refine fn_bipush hV dX11_filledOf_85 rfl ?_
            refine fn_iload_1 hV dX11_filledOf_87 ?_
            refine fn_imul hV dX11_filledOf_88 ?_
            refine fn_iload_2 hV dX11_filledOf_89 ?_
            refine fn_bipush hV dX11_filledOf_90 rfl ?_
            refine fn_iadd hV dX11_filledOf_92 ?_
            refine fn_iload_3 hV dX11_filledOf_93 ?_
            refine fn_isub hV dX11_filledOf_94 ?_
            refine fn_bipush hV dX11_filledOf_95 rfl ?_
            refine fn_iremp hV dX11_filledOf_97 (by omega) (by omega) ?_
            refine fn_iadd hV dX11_filledOf_98 ?_
            refine fn_iald hV dX11_filledOf_99 ar_53 (by omega) (by omega) ?_
            rw [hFe, show (h + 32 - i) % 32 = (h + i * -1) % 32 by omega]
            refine fn_i2lr hV dX11_filledOf_100 (by omega) ?_
            refine fn_iload_4 hV dX11_filledOf_101 ?_
            refine fn_i2lr hV dX11_filledOf_103 (by omega) ?_
            refine fn_lmul hV dX11_filledOf_104 ?_
            refine fn_aload_0 hV dX11_filledOf_105 ?_
            refine fn_getR hV dX11_filledOf_106 fl_X11_13 fr_51_2 ?_
            refine fn_bipush hV dX11_filledOf_109 rfl ?_
            refine fn_iload_1 hV dX11_filledOf_111 ?_
            refine fn_imul hV dX11_filledOf_112 ?_
            refine fn_iload_2 hV dX11_filledOf_113 ?_
            refine fn_iload_4 hV dX11_filledOf_114 ?_
            refine fn_iadd hV dX11_filledOf_116 ?_
            refine fn_bipush hV dX11_filledOf_117 rfl ?_
            refine fn_iremp hV dX11_filledOf_119 (by omega) (by omega) ?_
            refine fn_iadd hV dX11_filledOf_120 ?_
            refine fn_iald hV dX11_filledOf_121 ar_53 (by omega) (by omega) ?_
            rw [hFe, show (h + b) % 32 = (h + b * 1) % 32 by omega]
            refine fn_i2lr hV dX11_filledOf_122 (by omega) ?_
            refine fn_iload_3 hV dX11_filledOf_123 ?_
            refine fn_i2lr hV dX11_filledOf_124 (by omega) ?_
            refine fn_lmul hV dX11_filledOf_125 ?_
            refine fn_ladd hV dX11_filledOf_126 ?_
            refine fn_iload_3 hV dX11_filledOf_127 ?_
            refine fn_iload_4 hV dX11_filledOf_128 ?_
            refine fn_iadd hV dX11_filledOf_130 ?_
            refine fn_i2lr hV dX11_filledOf_131 (by omega) ?_
            refine fn_cS2 hV (c_X11_rounded E _ _ _ (by omega) (by omega)) ms_X11_rounded lk_X11_111 dX11_filledOf_132 ⟨rfl, rfl⟩ rfl ?_
            refine fn_l2i hV dX11_filledOf_135 ?_
            exact fn_iret hR dX11_filledOf_136 (fnIs.i (by unfold zfill; rw [if_neg (by intro q; exact q hn), hl1.up, hl2.up]))
          · refine fn_iinc_4 hV dX11_filledOf_75 rfl rfl ?_
            refine fn_goto hV dX11_filledOf_78 ?_
            exact ihL2 (k2 + 1) (by omega) (by omega) _ trivial (by omega) (fun j j0 j1 => by
      by_cases hq : j = b
      · rw [hq]; omega
      · exact hw j j0 (by omega))
        exact L2 0 (by omega) _ trivial (by omega) (fun j j0 j1 => by omega)
      · refine fn_aload_0 hV dX11_filledOf_37 ?_
        refine fn_getR hV dX11_filledOf_38 fl_X11_13 fr_51_2 ?_
        refine fn_bipush hV dX11_filledOf_41 rfl ?_
        refine fn_iload_1 hV dX11_filledOf_43 ?_
        refine fn_imul hV dX11_filledOf_44 ?_
        refine fn_iload_2 hV dX11_filledOf_45 ?_
        refine fn_iadd hV dX11_filledOf_46 ?_
        refine fn_iald hV dX11_filledOf_47 ar_53 (by omega) (by omega) ?_
        rw [hFe]
        have q0 : (h + i * -1) % 32 = h := by omega
        rw [q0] at q24
        exact fn_iret hR dX11_filledOf_48 (fnIs.i (by unfold zfill; rw [if_pos q24]))
    · refine fn_iinc_3 hV dX11_filledOf_27 rfl rfl ?_
      refine fn_goto hV dX11_filledOf_30 ?_
      exact ihL (k + 1) (by omega) (by omega) _ trivial (by omega) (fun j j0 j1 => by
      by_cases hq : j = i
      · rw [hq]; omega
      · exact hv j j0 (by omega))
  exact L 0 (by omega) _ trivial (by omega) (fun j j0 j1 => by omega)

set_option maxHeartbeats 4000000 in
set_option maxRecDepth 20000 in
theorem c_X11_filled (E : fnE) (σ : fnMem) (hW : zWF (mv σ)) (c0 : Int) (h_c0 : fnR c0) (h : Int) (h_h : fnR h) : fnOk E mX11_filled [.ref 51, zI c0, zI h] σ (fnQI (zMP (S_filled (mv σ) c0 h) (mv σ) σ)) := by
  refine fnOk.of [.ref 51, zI c0, zI h] rfl (by decide +kernel) rfl (fun V hV hR => ?_)
  replace hV : fnCx E RX11 cX11_filled 3 2 53 V := hV
  replace hR : fnRt cX11_filled (some .int) _ V := hR
  refine fn_aload_0 hV dX11_filled_0 ?_
  refine fn_iconst hV dX11_filled_1 ?_
  refine fn_putIz hV 0 dX11_filled_2 fp_X11_96 fi_51_0 rfl ?_
  generalize hσ1 : fnUp σ 51 0 0 = σ1
  have e : ∀ k, k ≠ 51 → σ1 k = σ k := fun k hk => by rw [← hσ1, fnUp_ne _ _ _ hk]
  have e0 : ∀ j, j ≠ 0 → σ1 51 j = mv σ 0 j := fun j hj => by rw [← hσ1, fnUp_off _ _ _ hj]; rfl
  have f2 : mv σ 2 = σ1 53 := (e 53 (by decide)).symm
  have hs1 : ∀ i : Int, 0 ≤ i → i < 96 → σ1 53 i = -2009 ∨ (-600 ≤ σ1 53 i ∧ σ1 53 i ≤ 600) := by rw [← f2]; exact hW.2.1
  have hFe : ∀ x, σ1 53 (32 * c0 + x) = vS (mv σ) c0 x := fun x => by rw [← f2]; rfl
  have hS : 0 ≤ c0 ∧ c0 ≤ 2 → ∀ h, 0 ≤ h → h < 32 → vS (mv σ) c0 h = -2009 ∨ (-600 ≤ vS (mv σ) c0 h ∧ vS (mv σ) c0 h ≤ 600) := fun q h h0 h1 => hW.2.1 (32 * c0 + h) (by omega) (by omega)
  have fS : (fun h => σ1 53 (32 * c0 + h)) = vS (mv σ) c0 := funext hFe
  have cn := zcnt_le (vS (mv σ) c0)
  refine fn_iload_1 hV dX11_filled_5 ?_
  refine fn_cS1 hV (c_X11_noCompass E _ _ (by omega)) ms_X11_noCompass lk_X11_154 dX11_filled_6 ⟨rfl, rfl⟩ rfl ?_
  refine fn_ifnen hV dX11_filled_9 (fun q9 => ?_) (fun q9 => ?_)
  · refine fn_sipush hV dX11_filled_19 rfl ?_
    exact fn_iret hR dX11_filled_22 (zMP.rf hσ1 (by unfold S_filled; rw [if_pos (by omega)]))
  · refine fn_iload_2 hV dX11_filled_12 ?_
    refine fn_cS1 hV (c_X11_noHeading E _ _ (by omega)) ms_X11_noHeading lk_X11_162 dX11_filled_13 ⟨rfl, rfl⟩ rfl ?_
    refine fn_ifeqn hV dX11_filled_16 (fun q16 => ?_) (fun q16 => ?_)
    · refine fn_aload_0 hV dX11_filled_23 ?_
      refine fn_iload_1 hV dX11_filled_24 ?_
      refine fn_cV1 hV (c_X11_seenOf E _ hs1 _ (by omega)) mv_X11_seenOf lk_X11_185 dX11_filled_25 sh_51 rfl ⟨rfl, rfl⟩ rfl ?_
      rw [fS]
      refine fn_if_ne hV (by omega) dX11_filled_28 (fun q28 => ?_) (fun q28 => ?_)
      · refine fn_aload_0 hV dX11_filled_37 ?_
        refine fn_iload_1 hV dX11_filled_38 ?_
        refine fn_iload_2 hV dX11_filled_39 ?_
        refine fn_cV2 hV (c_X11_filledOf E _ _ (by omega) _ hFe (hS (by omega)) _ (by omega) (zcnt_any (by omega))) mv_X11_filledOf lk_X11_188 dX11_filled_40 sh_51 rfl ⟨rfl, rfl⟩ rfl ?_
        exact fn_iret hR dX11_filled_43 (zMP.rf hσ1 (by unfold S_filled; rw [if_neg (by omega)]; first | (rw [if_pos (by omega)]; done) | (rw [if_neg (by omega)]; done)))
      · refine fn_sipush hV dX11_filled_31 rfl ?_
        refine fn_goto hV dX11_filled_34 ?_
        exact fn_iret hR dX11_filled_43 (zMP.rf hσ1 (by unfold S_filled; rw [if_neg (by omega)]; first | (rw [if_pos (by omega)]; done) | (rw [if_neg (by omega)]; done)))
    · refine fn_sipush hV dX11_filled_19 rfl ?_
      exact fn_iret hR dX11_filled_22 (zMP.rf hσ1 (by unfold S_filled; rw [if_pos (by omega)]))

set_option maxHeartbeats 4000000 in
set_option maxRecDepth 20000 in
theorem c_X11_gap (E : fnE) (σ : fnMem) (hW : zWF (mv σ)) (c0 : Int) (h_c0 : fnR c0) : fnOk E mX11_gap [.ref 51, zI c0] σ (fnQI (zMP (S_gap (mv σ) c0) (mv σ) σ)) := by
  refine fnOk.of [.ref 51, zI c0, .null, .null, .null] rfl (by decide +kernel) rfl (fun V hV hR => ?_)
  replace hV : fnCx E RX11 cX11_gap 5 2 45 V := hV
  replace hR : fnRt cX11_gap (some .int) _ V := hR
  refine fn_aload_0 hV dX11_gap_0 ?_
  refine fn_iconst hV dX11_gap_1 ?_
  refine fn_putIz hV 0 dX11_gap_2 fp_X11_96 fi_51_0 rfl ?_
  generalize hσ1 : fnUp σ 51 0 0 = σ1
  have e : ∀ k, k ≠ 51 → σ1 k = σ k := fun k hk => by rw [← hσ1, fnUp_ne _ _ _ hk]
  have e0 : ∀ j, j ≠ 0 → σ1 51 j = mv σ 0 j := fun j hj => by rw [← hσ1, fnUp_off _ _ _ hj]; rfl
  have f2 : mv σ 2 = σ1 53 := (e 53 (by decide)).symm
  have hs1 : ∀ i : Int, 0 ≤ i → i < 96 → σ1 53 i = -2009 ∨ (-600 ≤ σ1 53 i ∧ σ1 53 i ≤ 600) := by rw [← f2]; exact hW.2.1
  have hFe : ∀ x, σ1 53 (32 * c0 + x) = vS (mv σ) c0 x := fun x => by rw [← f2]; rfl
  have hS : 0 ≤ c0 ∧ c0 ≤ 2 → ∀ h, 0 ≤ h → h < 32 → vS (mv σ) c0 h = -2009 ∨ (-600 ≤ vS (mv σ) c0 h ∧ vS (mv σ) c0 h ≤ 600) := fun q h h0 h1 => hW.2.1 (32 * c0 + h) (by omega) (by omega)
  have fS : (fun h => σ1 53 (32 * c0 + h)) = vS (mv σ) c0 := funext hFe
  have cn := zcnt_le (vS (mv σ) c0)
  refine fn_iload_1 hV dX11_gap_5 ?_
  refine fn_cS1 hV (c_X11_noCompass E _ _ (by omega)) ms_X11_noCompass lk_X11_154 dX11_gap_6 ⟨rfl, rfl⟩ rfl ?_
  refine fn_ifeqn hV dX11_gap_9 (fun q9 => ?_) (fun q9 => ?_)
  · refine fn_aload_0 hV dX11_gap_16 ?_
    refine fn_iload_1 hV dX11_gap_17 ?_
    refine fn_cV1 hV (c_X11_seenOf E _ hs1 _ (by omega)) mv_X11_seenOf lk_X11_185 dX11_gap_18 sh_51 rfl ⟨rfl, rfl⟩ rfl ?_
    rw [fS]
    refine fn_if_ne hV (by omega) dX11_gap_21 (fun q21 => ?_) (fun q21 => ?_)
    · refine fn_iconst hV dX11_gap_27 ?_
      refine fn_istore_2 hV dX11_gap_28 rfl rfl ?_
      refine fn_iconst hV dX11_gap_29 ?_
      refine fn_istore_3 hV dX11_gap_30 rfl rfl ?_
      refine fn_iconst hV dX11_gap_31 ?_
      refine fn_istore_4 hV dX11_gap_32 rfl rfl ?_
      have L : ∀ k : Nat, k ≤ 64 → ∀ (i lg rw : Int), True → (i = k) → (rw = zrow (vS (mv σ) c0) k) → (lg = zlong (vS (mv σ) c0) k) → V 34 [.ref 51, zI c0, zI lg, zI rw, zI i] [] σ1 := by
        refine fn_rec (fun k hk ihL => ?_)
        intro i lg rw _ hi h1 h2
        refine fn_iload_4 hV dX11_gap_34 ?_
        refine fn_bipush hV dX11_gap_36 rfl ?_
        refine fn_icmp_ge hV (by omega) (by omega) dX11_gap_38 (fun q38 => ?_) (fun q38 => ?_)
        · refine fn_iload_2 hV dX11_gap_87 ?_
          exact fn_iret hR dX11_gap_88 (zMP.rf hσ1 (by unfold S_gap; rw [if_neg (by omega), if_neg (by omega), h2, show k = 64 by omega]))
        · refine fn_aload_0 hV dX11_gap_41 ?_
          refine fn_getR hV dX11_gap_42 fl_X11_13 fr_51_2 ?_
          refine fn_bipush hV dX11_gap_45 rfl ?_
          refine fn_iload_1 hV dX11_gap_47 ?_
          refine fn_imul hV dX11_gap_48 ?_
          refine fn_iload_4 hV dX11_gap_49 ?_
          refine fn_bipush hV dX11_gap_51 rfl ?_
          refine fn_iremp hV dX11_gap_53 (by omega) (by omega) ?_
          refine fn_iadd hV dX11_gap_54 ?_
          refine fn_iald hV dX11_gap_55 ar_53 (by omega) (by omega) ?_
          rw [hFe]
          have s1 := hS (by omega) (i % 32) (by omega) (by omega)
          have z1 := zrow_le (vS (mv σ) c0) k
          have z2 := zlong_le (vS (mv σ) c0) k
          refine fn_sipush hV dX11_gap_56 rfl ?_
          refine fn_icmp_ne hV (by omega) (by omega) dX11_gap_59 (fun q59 => ?_) (fun q59 => ?_)
          · refine fn_iconst hV dX11_gap_68 ?_
            refine fn_istore_3 hV dX11_gap_69 rfl rfl ?_
            refine fn_iload_3 hV dX11_gap_70 ?_
            refine fn_iload_2 hV dX11_gap_71 ?_
            refine fn_icmp_le hV (by omega) (by omega) dX11_gap_72 (fun q72 => ?_) (fun q72 => ?_)
            · refine fn_iload_2 hV dX11_gap_79 ?_
              refine fn_istore_2 hV dX11_gap_80 rfl rfl ?_
              refine fn_iinc_4 hV dX11_gap_81 rfl rfl ?_
              refine fn_goto hV dX11_gap_84 ?_
              exact ihL (k + 1) (by omega) (by omega) _ _ _ trivial (by omega) (by rw [zrow, if_pos (by rw [← hi]; omega)]) (by rw [zlong, zrow, if_pos (by rw [← hi]; omega), ← h2]; unfold zmax; split <;> omega)
            · refine fn_iload_3 hV dX11_gap_75 ?_
              refine fn_goto hV dX11_gap_76 ?_
              refine fn_istore_2 hV dX11_gap_80 rfl rfl ?_
              refine fn_iinc_4 hV dX11_gap_81 rfl rfl ?_
              refine fn_goto hV dX11_gap_84 ?_
              exact ihL (k + 1) (by omega) (by omega) _ _ _ trivial (by omega) (by rw [zrow, if_pos (by rw [← hi]; omega)]) (by rw [zlong, zrow, if_pos (by rw [← hi]; omega), ← h2]; unfold zmax; split <;> omega)
          · refine fn_iload_3 hV dX11_gap_62 ?_
            refine fn_iconst hV dX11_gap_63 ?_
            refine fn_iadd hV dX11_gap_64 ?_
            refine fn_goto hV dX11_gap_65 ?_
            refine fn_istore_3 hV dX11_gap_69 rfl rfl ?_
            refine fn_iload_3 hV dX11_gap_70 ?_
            refine fn_iload_2 hV dX11_gap_71 ?_
            refine fn_icmp_le hV (by omega) (by omega) dX11_gap_72 (fun q72 => ?_) (fun q72 => ?_)
            · refine fn_iload_2 hV dX11_gap_79 ?_
              refine fn_istore_2 hV dX11_gap_80 rfl rfl ?_
              refine fn_iinc_4 hV dX11_gap_81 rfl rfl ?_
              refine fn_goto hV dX11_gap_84 ?_
              exact ihL (k + 1) (by omega) (by omega) _ _ _ trivial (by omega) (by rw [zrow, if_neg (by rw [← hi]; omega), h1]) (by rw [zlong, zrow, if_neg (by rw [← hi]; omega), ← h2, ← h1]; unfold zmax; split <;> omega)
            · refine fn_iload_3 hV dX11_gap_75 ?_
              refine fn_goto hV dX11_gap_76 ?_
              refine fn_istore_2 hV dX11_gap_80 rfl rfl ?_
              refine fn_iinc_4 hV dX11_gap_81 rfl rfl ?_
              refine fn_goto hV dX11_gap_84 ?_
              exact ihL (k + 1) (by omega) (by omega) _ _ _ trivial (by omega) (by rw [zrow, if_neg (by rw [← hi]; omega), h1]) (by rw [zlong, zrow, if_neg (by rw [← hi]; omega), ← h2, ← h1]; unfold zmax; split <;> omega)
      exact L 0 (by omega) _ _ _ trivial (by omega) rfl rfl
    · refine fn_bipush hV dX11_gap_24 rfl ?_
      exact fn_iret hR dX11_gap_26 (zMP.rf hσ1 (by unfold S_gap; rw [if_neg (by omega), if_pos (by omega)]))
  · refine fn_sipush hV dX11_gap_12 rfl ?_
    exact fn_iret hR dX11_gap_15 (zMP.rf hσ1 (by unfold S_gap; rw [if_pos (by omega)]))

set_option maxHeartbeats 4000000 in
set_option maxRecDepth 20000 in
theorem c_X11_held (E : fnE) (σ : fnMem) (v : Int) (hv : fnRl v) : fnOk E mX11_held [zL v] σ (fnIs (some (zI (zheld v))) σ) := by
  refine fnOk.of [zL v, .null] rfl (by decide +kernel) rfl (fun V hV hR => ?_)
  replace hV : fnCx E RX11 cX11_held 2 0 0 V := hV
  replace hR : fnRt cX11_held (some .int) _ V := hR
  refine fn_lload_0 hV dX11_held_0 ?_
  refine fn_ldc2 hV dX11_held_1 co_X11_129 ?_
  refine fn_lcmp_le hV (by omega) (by omega) dX11_held_4 dX11_held_5 (fun q4 => ?_) (fun q4 => ?_)
  · refine fn_lload_0 hV dX11_held_14 ?_
    refine fn_ldc2 hV dX11_held_15 co_X11_160 ?_
    refine fn_lcmp_ge hV (by omega) (by omega) dX11_held_18 dX11_held_19 (fun q18 => ?_) (fun q18 => ?_)
    · refine fn_lload_0 hV dX11_held_28 ?_
      refine fn_l2i hV dX11_held_29 ?_
      exact fn_iret hR dX11_held_30 (fnIs.i (by unfold zheld; (repeat' split) <;> omega))
    · refine fn_sipush hV dX11_held_22 rfl ?_
      refine fn_goto hV dX11_held_25 ?_
      exact fn_iret hR dX11_held_30 (fnIs.i (by unfold zheld; (repeat' split) <;> omega))
  · refine fn_sipush hV dX11_held_8 rfl ?_
    refine fn_goto hV dX11_held_11 ?_
    exact fn_iret hR dX11_held_30 (fnIs.i (by unfold zheld; (repeat' split) <;> omega))

set_option maxHeartbeats 4000000 in
set_option maxRecDepth 20000 in
theorem c_X11_apart (E : fnE) (σ : fnMem) (hW : zWF (mv σ)) (c0 : Int) (h_c0 : fnR c0) : fnOk E mX11_apart [.ref 51, zI c0] σ (fnQI (zMP (S_apart (mv σ) c0) (U_apart (mv σ) c0) σ)) := by
  refine fnOk.of [.ref 51, zI c0, .null, .null, .null, .null, .null, .null, .null, .null, .null, .null, .null, .null, .null] rfl (by decide +kernel) rfl (fun V hV hR => ?_)
  replace hV : fnCx E RX11 cX11_apart 15 5 112 V := hV
  replace hR : fnRt cX11_apart (some .int) _ V := hR
  refine fn_aload_0 hV dX11_apart_0 ?_
  refine fn_iconst hV dX11_apart_1 ?_
  refine fn_putIz hV 0 dX11_apart_2 fp_X11_96 fi_51_0 rfl ?_
  generalize hσ1 : fnUp σ 51 0 0 = σ1
  have e : ∀ k, k ≠ 51 → σ1 k = σ k := fun k hk => by rw [← hσ1, fnUp_ne _ _ _ hk]
  have e0 : ∀ j, j ≠ 0 → σ1 51 j = mv σ 0 j := fun j hj => by rw [← hσ1, fnUp_off _ _ _ hj]; rfl
  have f1 : mv σ 1 = σ1 52 := (e 52 (by decide)).symm
  have f2 : mv σ 2 = σ1 53 := (e 53 (by decide)).symm
  have hs1 : ∀ i : Int, 0 ≤ i → i < 96 → σ1 53 i = -2009 ∨ (-600 ≤ σ1 53 i ∧ σ1 53 i ≤ 600) := by rw [← f2]; exact hW.2.1
  have hFe : ∀ x, σ1 53 (32 * c0 + x) = vS (mv σ) c0 x := fun x => by rw [← f2]; rfl
  have hS : 0 ≤ c0 ∧ c0 ≤ 2 → ∀ h, 0 ≤ h → h < 32 → vS (mv σ) c0 h = -2009 ∨ (-600 ≤ vS (mv σ) c0 h ∧ vS (mv σ) c0 h ≤ 600) := fun q h h0 h1 => hW.2.1 (32 * c0 + h) (by omega) (by omega)
  have fS : (fun h => σ1 53 (32 * c0 + h)) = vS (mv σ) c0 := funext hFe
  have cn := zcnt_le (vS (mv σ) c0)
  refine fn_iload_1 hV dX11_apart_5 ?_
  refine fn_cS1 hV (c_X11_noCompass E _ _ (by omega)) ms_X11_noCompass lk_X11_154 dX11_apart_6 ⟨rfl, rfl⟩ rfl ?_
  refine fn_ifeqn hV dX11_apart_9 (fun q9 => ?_) (fun q9 => ?_)
  · refine fn_aload_0 hV dX11_apart_16 ?_
    refine fn_iload_1 hV dX11_apart_17 ?_
    refine fn_cV1 hV (c_X11_seenOf E _ hs1 _ (by omega)) mv_X11_seenOf lk_X11_185 dX11_apart_18 sh_51 rfl ⟨rfl, rfl⟩ rfl ?_
    rw [fS]
    refine fn_iconst hV dX11_apart_21 ?_
    refine fn_icmp_ge hV (by omega) (by omega) dX11_apart_22 (fun q22 => ?_) (fun q22 => ?_)
    · have ha := zcnt_any (F := vS (mv σ) c0) (by omega)
      refine fn_lconst0 hV dX11_apart_29 ?_
      refine fn_lstore_2 hV dX11_apart_30 rfl rfl ?_
      refine fn_lconst0 hV dX11_apart_31 ?_
      refine fn_lstore_4 hV dX11_apart_32 rfl rfl ?_
      refine fn_lconst0 hV dX11_apart_34 ?_
      refine fn_lstore_6 hV dX11_apart_35 rfl rfl ?_
      refine fn_lconst0 hV dX11_apart_37 ?_
      refine fn_lstore_8 hV dX11_apart_38 rfl rfl ?_
      refine fn_lconst0 hV dX11_apart_40 ?_
      refine fn_lstore_10 hV dX11_apart_41 rfl rfl ?_
      refine fn_iconst hV dX11_apart_43 ?_
      refine fn_istore_12 hV dX11_apart_44 rfl rfl ?_
      have L : ∀ k : Nat, k ≤ 32 → ∀ (i a0 a1 a2 a3 a4 : Int), True → (i = k) → (a0 = zsum (fun h => zfill (vS (mv σ) c0) h) k) → (a1 = zsum (fun h => zfill (vS (mv σ) c0) h * zsn h) k) → (a2 = zsum (fun h => zfill (vS (mv σ) c0) h * zcs h) k) → (a3 = zsum (fun h => zfill (vS (mv σ) c0) h * zsn (2 * h)) k) → (a4 = zsum (fun h => zfill (vS (mv σ) c0) h * zcs (2 * h)) k) → V 46 [.ref 51, zI c0, zL a0, .null, zL a1, .null, zL a2, .null, zL a3, .null, zL a4, .null, zI i, .null, .null] [] σ1 := by
        refine fn_rec (fun k hk ihL => ?_)
        intro i a0 a1 a2 a3 a4 _ hi h0 h1 h2 h3 h4
        refine fn_iload_12 hV dX11_apart_46 ?_
        refine fn_bipush hV dX11_apart_48 rfl ?_
        refine fn_icmp_ge hV (by omega) (by omega) dX11_apart_50 (fun q50 => ?_) (fun q50 => ?_)
        · have hk32 : k = 32 := by omega
          subst hk32
          have g0 := zsum_le (G := (fun h => zfill (vS (mv σ) c0) h)) (B := 600) (fun h h0 h1 => by
        have f1 := zfill_le (hS (by omega)) (x := h) (by omega) ha
        exact f1) 32 (by omega)
          have g1 := zsum_le (G := (fun h => zfill (vS (mv σ) c0) h * zsn h)) (B := 600000) (fun h h0 h1 => by
        have f1 := zfill_le (hS (by omega)) (x := h) (by omega) ha
        have m := zmul_le (A := 600) (B := 1000) f1.1 f1.2 (zsn_le h).1 (zsn_le h).2; exact m) 32 (by omega)
          have g2 := zsum_le (G := (fun h => zfill (vS (mv σ) c0) h * zcs h)) (B := 600000) (fun h h0 h1 => by
        have f1 := zfill_le (hS (by omega)) (x := h) (by omega) ha
        have m := zmul_le (A := 600) (B := 1000) f1.1 f1.2 (zcs_le h).1 (zcs_le h).2; exact m) 32 (by omega)
          have g3 := zsum_le (G := (fun h => zfill (vS (mv σ) c0) h * zsn (2 * h))) (B := 600000) (fun h h0 h1 => by
        have f1 := zfill_le (hS (by omega)) (x := h) (by omega) ha
        have m := zmul_le (A := 600) (B := 1000) f1.1 f1.2 (zsn_le (2 * h)).1 (zsn_le (2 * h)).2; exact m) 32 (by omega)
          have g4 := zsum_le (G := (fun h => zfill (vS (mv σ) c0) h * zcs (2 * h))) (B := 600000) (fun h h0 h1 => by
        have f1 := zfill_le (hS (by omega)) (x := h) (by omega) ha
        have m := zmul_le (A := 600) (B := 1000) f1.1 f1.2 (zcs_le (2 * h)).1 (zcs_le (2 * h)).2; exact m) 32 (by omega)
          have r0 := zrnd_le (a := a0) (b := 32) (B := 600000) (by decide) (by omega) (by omega)
          have r1 := zrnd_le (a := a1) (b := 16000) (B := 600000) (by decide) (by omega) (by omega)
          have r2 := zrnd_le (a := a2) (b := 16000) (B := 600000) (by decide) (by omega) (by omega)
          have r3 := zrnd_le (a := a3) (b := 16000) (B := 600000) (by decide) (by omega) (by omega)
          have r4 := zrnd_le (a := a4) (b := 16000) (B := 600000) (by decide) (by omega) (by omega)
          have z0 : zheld (zrnd a0 32) = zapt (vS (mv σ) c0) 0 := by rw [h0]; rfl
          have z1 : zheld (zrnd a1 16000) = zapt (vS (mv σ) c0) 1 := by rw [h1]; rfl
          have z2 : zheld (zrnd a2 16000) = zapt (vS (mv σ) c0) 2 := by rw [h2]; rfl
          have z3 : zheld (zrnd a3 16000) = zapt (vS (mv σ) c0) 3 := by rw [h3]; rfl
          have z4 : zheld (zrnd a4 16000) = zapt (vS (mv σ) c0) 4 := by rw [h4]; rfl
          refine fn_aload_0 hV dX11_apart_134 ?_
          refine fn_getR hV dX11_apart_135 fl_X11_7 fr_51_1 ?_
          refine fn_bipush hV dX11_apart_138 rfl ?_
          refine fn_iload_1 hV dX11_apart_140 ?_
          refine fn_imul hV dX11_apart_141 ?_
          refine fn_lload_2 hV dX11_apart_142 ?_
          refine fn_ldc2 hV dX11_apart_143 co_X11_191 ?_
          refine fn_cS2 hV (c_X11_rounded E _ _ _ (by omega) (by omega)) ms_X11_rounded lk_X11_111 dX11_apart_146 ⟨rfl, rfl⟩ rfl ?_
          refine fn_cS1 hV (c_X11_held E _ _ (by omega)) ms_X11_held lk_X11_193 dX11_apart_149 ⟨rfl, rfl⟩ rfl ?_
          rw [z0]
          refine fn_iast hV dX11_apart_152 ar_52 (by omega) (by omega) ?_
          refine fn_aload_0 hV dX11_apart_153 ?_
          refine fn_getR hV dX11_apart_154 fl_X11_7 fr_51_1 ?_
          refine fn_bipush hV dX11_apart_157 rfl ?_
          refine fn_iload_1 hV dX11_apart_159 ?_
          refine fn_imul hV dX11_apart_160 ?_
          refine fn_iconst hV dX11_apart_161 ?_
          refine fn_iadd hV dX11_apart_162 ?_
          refine fn_lload_4 hV dX11_apart_163 ?_
          refine fn_ldc2 hV dX11_apart_165 co_X11_197 ?_
          refine fn_cS2 hV (c_X11_rounded E _ _ _ (by omega) (by omega)) ms_X11_rounded lk_X11_111 dX11_apart_168 ⟨rfl, rfl⟩ rfl ?_
          refine fn_cS1 hV (c_X11_held E _ _ (by omega)) ms_X11_held lk_X11_193 dX11_apart_171 ⟨rfl, rfl⟩ rfl ?_
          rw [z1]
          refine fn_iast hV dX11_apart_174 ar_52 (by omega) (by omega) ?_
          refine fn_aload_0 hV dX11_apart_175 ?_
          refine fn_getR hV dX11_apart_176 fl_X11_7 fr_51_1 ?_
          refine fn_bipush hV dX11_apart_179 rfl ?_
          refine fn_iload_1 hV dX11_apart_181 ?_
          refine fn_imul hV dX11_apart_182 ?_
          refine fn_iconst hV dX11_apart_183 ?_
          refine fn_iadd hV dX11_apart_184 ?_
          refine fn_lload_6 hV dX11_apart_185 ?_
          refine fn_ldc2 hV dX11_apart_187 co_X11_197 ?_
          refine fn_cS2 hV (c_X11_rounded E _ _ _ (by omega) (by omega)) ms_X11_rounded lk_X11_111 dX11_apart_190 ⟨rfl, rfl⟩ rfl ?_
          refine fn_cS1 hV (c_X11_held E _ _ (by omega)) ms_X11_held lk_X11_193 dX11_apart_193 ⟨rfl, rfl⟩ rfl ?_
          rw [z2]
          refine fn_iast hV dX11_apart_196 ar_52 (by omega) (by omega) ?_
          refine fn_aload_0 hV dX11_apart_197 ?_
          refine fn_getR hV dX11_apart_198 fl_X11_7 fr_51_1 ?_
          refine fn_bipush hV dX11_apart_201 rfl ?_
          refine fn_iload_1 hV dX11_apart_203 ?_
          refine fn_imul hV dX11_apart_204 ?_
          refine fn_iconst hV dX11_apart_205 ?_
          refine fn_iadd hV dX11_apart_206 ?_
          refine fn_lload_8 hV dX11_apart_207 ?_
          refine fn_ldc2 hV dX11_apart_209 co_X11_197 ?_
          refine fn_cS2 hV (c_X11_rounded E _ _ _ (by omega) (by omega)) ms_X11_rounded lk_X11_111 dX11_apart_212 ⟨rfl, rfl⟩ rfl ?_
          refine fn_cS1 hV (c_X11_held E _ _ (by omega)) ms_X11_held lk_X11_193 dX11_apart_215 ⟨rfl, rfl⟩ rfl ?_
          rw [z3]
          refine fn_iast hV dX11_apart_218 ar_52 (by omega) (by omega) ?_
          refine fn_aload_0 hV dX11_apart_219 ?_
          refine fn_getR hV dX11_apart_220 fl_X11_7 fr_51_1 ?_
          refine fn_bipush hV dX11_apart_223 rfl ?_
          refine fn_iload_1 hV dX11_apart_225 ?_
          refine fn_imul hV dX11_apart_226 ?_
          refine fn_iconst hV dX11_apart_227 ?_
          refine fn_iadd hV dX11_apart_228 ?_
          refine fn_lload_10 hV dX11_apart_229 ?_
          refine fn_ldc2 hV dX11_apart_231 co_X11_197 ?_
          refine fn_cS2 hV (c_X11_rounded E _ _ _ (by omega) (by omega)) ms_X11_rounded lk_X11_111 dX11_apart_234 ⟨rfl, rfl⟩ rfl ?_
          refine fn_cS1 hV (c_X11_held E _ _ (by omega)) ms_X11_held lk_X11_193 dX11_apart_237 ⟨rfl, rfl⟩ rfl ?_
          rw [z4]
          refine fn_iast hV dX11_apart_240 ar_52 (by omega) (by omega) ?_
          generalize hσ4 : fnUp (fnUp (fnUp (fnUp (fnUp σ1 52 (6 * c0) (zapt (vS (mv σ) c0) 0)) 52 (6 * c0 + 1) (zapt (vS (mv σ) c0) 1)) 52 (6 * c0 + 2) (zapt (vS (mv σ) c0) 2)) 52 (6 * c0 + 3) (zapt (vS (mv σ) c0) 3)) 52 (6 * c0 + 4) (zapt (vS (mv σ) c0) 4) = σ4
          have k4 : ∀ k, k ≠ 52 → σ4 k = σ1 k := fun k hk => by rw [← hσ4, fnUp_ne _ _ _ hk, fnUp_ne _ _ _ hk, fnUp_ne _ _ _ hk, fnUp_ne _ _ _ hk, fnUp_ne _ _ _ hk]
          have v4 : ∀ i, σ4 52 i = if 6 * c0 ≤ i ∧ i < 6 * c0 + 5 then zapt (vS (mv σ) c0) (i - 6 * c0) else mv σ 1 i := fun i => by
            rw [← hσ4, fnUp_ap, fnUp_ap, fnUp_ap, fnUp_ap, fnUp_ap, f1]
            by_cases q4 : i = 6 * c0 + 4
            · rw [if_pos q4, if_pos (by omega), show i - 6 * c0 = 4 by omega]
            · rw [if_neg q4]
              by_cases q3 : i = 6 * c0 + 3
              · rw [if_pos q3, if_pos (by omega), show i - 6 * c0 = 3 by omega]
              · rw [if_neg q3]
                by_cases q2 : i = 6 * c0 + 2
                · rw [if_pos q2, if_pos (by omega), show i - 6 * c0 = 2 by omega]
                · rw [if_neg q2]
                  by_cases q1 : i = 6 * c0 + 1
                  · rw [if_pos q1, if_pos (by omega), show i - 6 * c0 = 1 by omega]
                  · rw [if_neg q1]
                    by_cases q0 : i = 6 * c0
                    · rw [if_pos q0, if_pos (by omega), show i - 6 * c0 = 0 by omega]
                    · rw [if_neg q0, if_neg (by omega)]
          refine fn_aload_0 hV dX11_apart_241 ?_
          refine fn_iload_1 hV dX11_apart_242 ?_
          refine fn_cV1Q hV (c_X11_take E _ _ (by omega)) mv_X11_take lk_X11_168 dX11_apart_243 sh_51 rfl ⟨rfl, rfl⟩ rfl (fun σ2 hp => ?_)
          obtain ⟨tF, tv⟩ := hp
          have hv : ∀ j, 0 ≤ j → j < 6 → σ2 73 j = zaptP (mv σ) c0 j := fun j j0 j1 => by
            rw [tv j j0 j1, v4]
            unfold zaptP
            by_cases hj : j < 5
            · rw [if_pos (by omega), if_pos hj, show 6 * c0 + j - 6 * c0 = j by omega]
            · rw [if_neg (by omega), if_neg hj]
          have hP : ∀ j, 0 ≤ j → j < 6 → -32000 ≤ σ2 73 j ∧ σ2 73 j ≤ 32000 := fun j j0 j1 => by
            rw [hv j j0 j1]
            have b1 := zapt_le (vS (mv σ) c0) j
            have b2 := hW.1 (6 * c0 + j) (by omega) (by omega)
            unfold zaptP
            split <;> omega
          refine fn_aload_0 hV dX11_apart_246 ?_
          refine fn_iconst hV dX11_apart_247 ?_
          refine fn_cV1Q hV (c_X11_lay E _ hP _ (by omega)) mv_X11_lay lk_X11_172 dX11_apart_248 sh_51 rfl ⟨rfl, rfl⟩ rfl (fun σ3 hp => ?_)
          obtain ⟨lF, lv⟩ := hp
          have hF3 : fnFr [73, 74, 75, 76, 77, 78] σ4 σ3 := (tF.mono (by decide)).tr (lF.mono (by decide))
          have hr4 : ∀ h, 0 ≤ h → h < 32 → -1200000 ≤ σ3 74 h ∧ σ3 74 h ≤ 1200000 := fun h h0 h1 => by rw [lv h h0 h1]; exact zer_le hP h _ (by omega)
          have hg : ∀ h, 0 ≤ h → h < 32 → σ3 74 h = zer (zaptP (mv σ) c0) h 0 := fun h h0 h1 => by rw [lv h h0 h1]; exact zer_congr hv h 0
          have hFe3 : ∀ x, σ3 53 (32 * c0 + x) = vS (mv σ) c0 x := fun x => by rw [hF3 53 (by decide), k4 53 (by decide)]; exact hFe x
          refine fn_iconst hV dX11_apart_251 ?_
          refine fn_istore_12 hV dX11_apart_252 rfl rfl ?_
          refine fn_iconst hV dX11_apart_254 ?_
          refine fn_istore_13 hV dX11_apart_255 rfl rfl ?_
          have L2 : ∀ k2 : Nat, k2 ≤ 32 → ∀ (i mx : Int), True → (i = k2) → (mx = zmxr (vS (mv σ) c0) (fun h => zer (zaptP (mv σ) c0) h 0) k2) → (0 ≤ mx ∧ mx ≤ 1300000) → V 257 [.ref 51, zI c0, zL a0, .null, zL a1, .null, zL a2, .null, zL a3, .null, zL a4, .null, zI mx, zI i, .null] [] σ3 := by
            refine fn_rec (fun k2 hk2 ihL2 => ?_)
            intro i mx _ hi hm hb
            refine fn_iload_13 hV dX11_apart_257 ?_
            refine fn_bipush hV dX11_apart_259 rfl ?_
            refine fn_icmp_ge hV (by omega) (by omega) dX11_apart_261 (fun q261 => ?_) (fun q261 => ?_)
            · refine fn_iload_12 hV dX11_apart_333 ?_
              exact fn_iret hR dX11_apart_335 (zMP.up hσ1 (by unfold S_apart; rw [if_neg (by omega), if_neg (by omega), hm, show k2 = 32 by omega]) (fun k hk => by rw [hF3 k (by simp; omega), k4 k (by omega)]) (by
        unfold U_apart
        rw [if_pos (by omega)]
        intro a j ha1 hj
        show σ3 (51 + a) j = _
        rw [hF3 (51 + a) (by simp; omega)]
        by_cases h1 : a = 1
        · subst h1
          rw [fnSt_same]
          exact v4 j
        · rw [k4 (51 + a) (by omega), fnSt_ne _ _ h1]
          by_cases h0 : a = 0
          · subst h0
            exact e0 j (by omega)
          · exact congrFun (e (51 + a) (by omega)) j))
            · refine fn_aload_0 hV dX11_apart_264 ?_
              refine fn_getR hV dX11_apart_265 fl_X11_13 fr_51_2 ?_
              refine fn_bipush hV dX11_apart_268 rfl ?_
              refine fn_iload_1 hV dX11_apart_270 ?_
              refine fn_imul hV dX11_apart_271 ?_
              refine fn_iload_13 hV dX11_apart_272 ?_
              refine fn_iadd hV dX11_apart_274 ?_
              refine fn_iald hV dX11_apart_275 ar_53 (by omega) (by omega) ?_
              rw [hFe3]
              have s1 := hS (by omega) i (by omega) (by omega)
              have b1 := hr4 i (by omega) (by omega)
              have b2 := zabs_nn (vS (mv σ) c0 i - σ3 74 i)
              have b3 := zabs_le (z := vS (mv σ) c0 i - σ3 74 i) (B := 1300000) (by omega) (by omega)
              refine fn_sipush hV dX11_apart_276 rfl ?_
              refine fn_icmp_ne hV (by omega) (by omega) dX11_apart_279 (fun q279 => ?_) (fun q279 => ?_)
              · refine fn_aload_0 hV dX11_apart_286 ?_
                refine fn_getR hV dX11_apart_287 fl_X11_13 fr_51_2 ?_
                refine fn_bipush hV dX11_apart_290 rfl ?_
                refine fn_iload_1 hV dX11_apart_292 ?_
                refine fn_imul hV dX11_apart_293 ?_
                refine fn_iload_13 hV dX11_apart_294 ?_
                refine fn_iadd hV dX11_apart_296 ?_
                refine fn_iald hV dX11_apart_297 ar_53 (by omega) (by omega) ?_
                rw [hFe3]
                refine fn_aload_0 hV dX11_apart_298 ?_
                refine fn_getR hV dX11_apart_299 fl_X11_81 fr_51_26 ?_
                refine fn_iload_13 hV dX11_apart_302 ?_
                refine fn_iald hV dX11_apart_304 ar_74 (by omega) (by omega) ?_
                refine fn_isub hV dX11_apart_305 ?_
                refine fn_cS1 hV (c_X11_size E _ _ (by omega)) ms_X11_size lk_X11_178 dX11_apart_306 ⟨rfl, rfl⟩ rfl ?_
                refine fn_istore_14 hV dX11_apart_309 rfl rfl ?_
                refine fn_iload_14 hV dX11_apart_311 ?_
                refine fn_iload_12 hV dX11_apart_313 ?_
                refine fn_icmp_le hV (by omega) (by omega) dX11_apart_315 (fun q315 => ?_) (fun q315 => ?_)
                · refine fn_iload_12 hV dX11_apart_323 ?_
                  refine fn_istore_12 hV dX11_apart_325 rfl rfl ?_
                  refine fn_iinc_13 hV dX11_apart_327 rfl rfl ?_
                  refine fn_goto hV dX11_apart_330 ?_
                  refine fn_nul_14 hV ?_
                  exact ihL2 (k2 + 1) (by omega) (by omega) _ _ trivial (by omega) (by rw [zmxr_s, ← hi, if_pos (by omega), ← hg i (by omega) (by omega), ← hm]; unfold zmax; split <;> omega) (by omega)
                · refine fn_iload_14 hV dX11_apart_318 ?_
                  refine fn_goto hV dX11_apart_320 ?_
                  refine fn_istore_12 hV dX11_apart_325 rfl rfl ?_
                  refine fn_iinc_13 hV dX11_apart_327 rfl rfl ?_
                  refine fn_goto hV dX11_apart_330 ?_
                  refine fn_nul_14 hV ?_
                  exact ihL2 (k2 + 1) (by omega) (by omega) _ _ trivial (by omega) (by rw [zmxr_s, ← hi, if_pos (by omega), ← hg i (by omega) (by omega), ← hm]; unfold zmax; split <;> omega) (by omega)
              · refine fn_iconst hV dX11_apart_282 ?_
                refine fn_goto hV dX11_apart_283 ?_
                refine fn_istore_14 hV dX11_apart_309 rfl rfl ?_
                refine fn_iload_14 hV dX11_apart_311 ?_
                refine fn_iload_12 hV dX11_apart_313 ?_
                refine fn_icmp_le hV (by omega) (by omega) dX11_apart_315 (fun q315 => ?_) (fun q315 => ?_)
                · refine fn_iload_12 hV dX11_apart_323 ?_
                  refine fn_istore_12 hV dX11_apart_325 rfl rfl ?_
                  refine fn_iinc_13 hV dX11_apart_327 rfl rfl ?_
                  refine fn_goto hV dX11_apart_330 ?_
                  refine fn_nul_14 hV ?_
                  exact ihL2 (k2 + 1) (by omega) (by omega) _ _ trivial (by omega) (by rw [zmxr_s, ← hi, if_neg (by omega), hm]) (by omega)
                · refine fn_iload_14 hV dX11_apart_318 ?_
                  refine fn_goto hV dX11_apart_320 ?_
                  refine fn_istore_12 hV dX11_apart_325 rfl rfl ?_
                  refine fn_iinc_13 hV dX11_apart_327 rfl rfl ?_
                  refine fn_goto hV dX11_apart_330 ?_
                  refine fn_nul_14 hV ?_
                  exact ihL2 (k2 + 1) (by omega) (by omega) _ _ trivial (by omega) (by exfalso; omega) (by omega)
          exact L2 0 (by omega) _ _ trivial (by omega) rfl (by omega)
        · refine fn_aload_0 hV dX11_apart_53 ?_
          refine fn_iload_1 hV dX11_apart_54 ?_
          refine fn_iload_12 hV dX11_apart_55 ?_
          refine fn_cV2 hV (c_X11_filledOf E _ _ (by omega) _ hFe (hS (by omega)) _ (by omega) ha) mv_X11_filledOf lk_X11_188 dX11_apart_57 sh_51 rfl ⟨rfl, rfl⟩ rfl ?_
          have f9 := zfill_le (hS (by omega)) (x := i) (by omega) ha
          have s1 := zsn_le i
          have s2 := zcs_le i
          have s3 := zsn_le (2 * i)
          have s4 := zcs_le (2 * i)
          refine fn_i2lr hV dX11_apart_60 (by omega) ?_
          refine fn_lstore_13 hV dX11_apart_61 rfl rfl ?_
          refine fn_lload_2 hV dX11_apart_63 ?_
          refine fn_lload_13 hV dX11_apart_64 ?_
          refine fn_ladd hV dX11_apart_66 ?_
          refine fn_lstore_2 hV dX11_apart_67 rfl rfl ?_
          refine fn_lload_4 hV dX11_apart_68 ?_
          refine fn_lload_13 hV dX11_apart_70 ?_
          refine fn_iload_12 hV dX11_apart_72 ?_
          refine fn_cS1 hV (c_X11_sinOf E _ _ (by omega)) ms_X11_sinOf lk_X11_105 dX11_apart_74 ⟨rfl, rfl⟩ rfl ?_
          refine fn_i2lr hV dX11_apart_77 (by omega) ?_
          refine fn_lmul hV dX11_apart_78 ?_
          refine fn_ladd hV dX11_apart_79 ?_
          refine fn_lstore_4 hV dX11_apart_80 rfl rfl ?_
          refine fn_lload_6 hV dX11_apart_82 ?_
          refine fn_lload_13 hV dX11_apart_84 ?_
          refine fn_iload_12 hV dX11_apart_86 ?_
          refine fn_cS1 hV (c_X11_cosOf E _ _ (by omega)) ms_X11_cosOf lk_X11_131 dX11_apart_88 ⟨rfl, rfl⟩ rfl ?_
          refine fn_i2lr hV dX11_apart_91 (by omega) ?_
          refine fn_lmul hV dX11_apart_92 ?_
          refine fn_ladd hV dX11_apart_93 ?_
          refine fn_lstore_6 hV dX11_apart_94 rfl rfl ?_
          refine fn_lload_8 hV dX11_apart_96 ?_
          refine fn_lload_13 hV dX11_apart_98 ?_
          refine fn_iconst hV dX11_apart_100 ?_
          refine fn_iload_12 hV dX11_apart_101 ?_
          refine fn_imul hV dX11_apart_103 ?_
          refine fn_cS1 hV (c_X11_sinOf E _ _ (by omega)) ms_X11_sinOf lk_X11_105 dX11_apart_104 ⟨rfl, rfl⟩ rfl ?_
          refine fn_i2lr hV dX11_apart_107 (by omega) ?_
          refine fn_lmul hV dX11_apart_108 ?_
          refine fn_ladd hV dX11_apart_109 ?_
          refine fn_lstore_8 hV dX11_apart_110 rfl rfl ?_
          refine fn_lload_10 hV dX11_apart_112 ?_
          refine fn_lload_13 hV dX11_apart_114 ?_
          refine fn_iconst hV dX11_apart_116 ?_
          refine fn_iload_12 hV dX11_apart_117 ?_
          refine fn_imul hV dX11_apart_119 ?_
          refine fn_cS1 hV (c_X11_cosOf E _ _ (by omega)) ms_X11_cosOf lk_X11_131 dX11_apart_120 ⟨rfl, rfl⟩ rfl ?_
          refine fn_i2lr hV dX11_apart_123 (by omega) ?_
          refine fn_lmul hV dX11_apart_124 ?_
          refine fn_ladd hV dX11_apart_125 ?_
          refine fn_lstore_10 hV dX11_apart_126 rfl rfl ?_
          refine fn_iinc_12 hV dX11_apart_128 rfl rfl ?_
          refine fn_goto hV dX11_apart_131 ?_
          refine fn_nul_13 hV ?_
          exact ihL (k + 1) (by omega) (by omega) _ _ _ _ _ _ trivial (by omega) (by rw [zsum, ← h0, ← hi]) (by rw [zsum, ← h1, ← hi]) (by rw [zsum, ← h2, ← hi]) (by rw [zsum, ← h3, ← hi]) (by rw [zsum, ← h4, ← hi])
      exact L 0 (by omega) _ _ _ _ _ _ trivial (by omega) rfl rfl rfl rfl rfl
    · refine fn_sipush hV dX11_apart_25 rfl ?_
      exact fn_iret hR dX11_apart_28 (zMP.rfU hσ1 (by unfold S_apart; rw [if_neg (by omega), if_pos (by omega)]) (by unfold U_apart; exact if_neg (by omega)))
  · refine fn_sipush hV dX11_apart_12 rfl ?_
    exact fn_iret hR dX11_apart_15 (zMP.rfU hσ1 (by unfold S_apart; rw [if_pos (by omega)]) (by unfold U_apart; exact if_neg (by omega)))
