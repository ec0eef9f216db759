set_option maxHeartbeats 4000000 in
set_option maxRecDepth 20000 in
theorem c_X11_firstApart (E : fnE) (σ : fnMem) (hW : zWF (mv σ)) (lim : Int) (h_lim : fnR lim) : fnOk E mX11_firstApart [.ref 51, zI lim] σ (fnQI (zMP (S_firstApart (mv σ) lim) (mv σ) σ)) := by
  refine fnOk.of [.ref 51, zI lim, .null] rfl (by decide +kernel) rfl (fun V hV hR => ?_)
  replace hV : fnCx E RX11 cX11_firstApart 3 8 175 V := hV
  replace hR : fnRt cX11_firstApart (some .int) _ V := hR
  refine fn_aload_0 hV dX11_firstApart_0 ?_
  refine fn_iconst hV dX11_firstApart_1 ?_
  refine fn_putIz hV 0 dX11_firstApart_2 fp_X11_96 fi_51_0 rfl ?_
  generalize hσ1 : fnUp σ 51 0 0 = σ1
  have e : ∀ k, k ≠ 51 → σ1 k = σ k := fun k hk => by rw [← hσ1, fnUp_ne _ _ _ hk]
  have e0 : ∀ j, j ≠ 0 → σ1 51 j = mv σ 0 j := fun j hj => by rw [← hσ1, fnUp_off _ _ _ hj]; rfl
  have f20 : mv σ 20 = σ1 71 := (e 71 (by decide)).symm
  obtain ⟨x1, x2, x3, x4, x5, x6, x7, x8⟩ := hW.2.2.2.2.2
  have g18 := e0 18 (by decide)
  obtain ⟨L, hL, hL4⟩ := hW.L
  have hLn := zLn_eq hL
  refine fn_iload_1 hV dX11_firstApart_5 ?_
  refine fn_i2lr hV dX11_firstApart_6 (by omega) ?_
  refine fn_lconst0 hV dX11_firstApart_7 ?_
  refine fn_ldc2 hV dX11_firstApart_8 co_X11_316 ?_
  refine fn_cS3 hV (c_X11_in E _ _ _ _ (by omega) (by omega) (by omega)) ms_X11_in lk_X11_117 dX11_firstApart_11 ⟨rfl, rfl⟩ rfl ?_
  refine fn_ifneb hV dX11_firstApart_14 (fun q14 => ?_) (fun q14 => ?_)
  · refine fn_iconst hV dX11_firstApart_21 ?_
    refine fn_istore_2 hV dX11_firstApart_22 rfl rfl ?_
    have L : ∀ k : Nat, k ≤ L → ∀ (i : Int) (σ2 : fnMem), True → (i = k) → (fnFr [73, 74] σ1 σ2) → (zfa (mv σ) lim k = -2009) → V 23 [.ref 51, zI lim, zI i] [] σ2 := by
      refine fn_rec (fun k hk ihL => ?_)
      intro i σ2 _ hi gF gn
      refine fn_iload_2 hV dX11_firstApart_23 ?_
      refine fn_aload_0 hV dX11_firstApart_24 ?_
      refine fn_getIz hV 18 dX11_firstApart_25 fl_X11_272 fi_51_18 rfl ?_
      have e18 : σ2 51 18 = L := by rw [gF 51 (by decide), g18, hL]
      have hM2 : fnSc (mv σ) (mv σ2) := (zsc0 hσ1).fr (gF.mono (by decide))
      refine fn_icmp_ge hV (by omega) (by omega) dX11_firstApart_28 (fun q28 => ?_) (fun q28 => ?_)
      · refine fn_sipush hV dX11_firstApart_63 rfl ?_
        exact fn_iret hR dX11_firstApart_66 (zMP.fr hσ1 (gF.mono (by decide)) (by unfold S_firstApart; rw [if_neg (by omega), hLn, ← show k = L by omega, gn]))
      · have y6 := x6 i (by omega) (by omega)
        have e71 : σ2 71 i = mv σ 20 i := by rw [gF 71 (by decide), f20]
        have w1 : -1600 ≤ zapw (mv σ) i ∧ zapw (mv σ) i ≤ 1599 := zway_in _ _
        have w2 : 0 ≤ zabs (zapw (mv σ) i) ∧ zabs (zapw (mv σ) i) ≤ 1600 := zwa_in _ _
        refine fn_aload_0 hV dX11_firstApart_31 ?_
        refine fn_getR hV dX11_firstApart_32 fl_X11_72 fr_51_23 ?_
        refine fn_iload_2 hV dX11_firstApart_35 ?_
        refine fn_iald hV dX11_firstApart_36 ar_71 (by omega) (by omega) ?_
        refine fn_sipush hV dX11_firstApart_37 rfl ?_
        refine fn_icmp_eq hV (by omega) (by omega) dX11_firstApart_40 (fun q40 => ?_) (fun q40 => ?_)
        · refine fn_iinc_2 hV dX11_firstApart_57 rfl rfl ?_
          refine fn_goto hV dX11_firstApart_60 ?_
          exact ihL (k + 1) (by omega) (by omega) _ _ trivial (by omega) gF (by rw [zfa_s, if_neg (by omega), ← hi, if_neg (by omega)])
        · refine fn_aload_0 hV dX11_firstApart_43 ?_
          refine fn_iload_2 hV dX11_firstApart_44 ?_
          refine fn_cV1I hV (c_X11_apartOf E _ (mv σ) hM2 hW _ (by omega)) mv_X11_apartOf lk_X11_287 dX11_firstApart_45 sh_51 rfl ⟨rfl, rfl⟩ rfl (fun z σ3 hp => ?_)
          obtain ⟨rfl, cF⟩ := hp
          rw [if_neg (show ¬ mv σ 20 i = -2009 by omega)]
          refine fn_cS1 hV (c_X11_size E _ _ (by omega)) ms_X11_size lk_X11_178 dX11_firstApart_48 ⟨rfl, rfl⟩ rfl ?_
          refine fn_iload_1 hV dX11_firstApart_51 ?_
          refine fn_icmp_le hV (by omega) (by omega) dX11_firstApart_52 (fun q52 => ?_) (fun q52 => ?_)
          · refine fn_iinc_2 hV dX11_firstApart_57 rfl rfl ?_
            refine fn_goto hV dX11_firstApart_60 ?_
            exact ihL (k + 1) (by omega) (by omega) _ _ trivial (by omega) (gF.tr cF) (by rw [zfa_s, if_neg (by omega), ← hi, if_neg (by omega)])
          · refine fn_iload_2 hV dX11_firstApart_55 ?_
            exact fn_iret hR dX11_firstApart_56 (zMP.fr hσ1 ((gF.tr cF).mono (by decide)) (by
        have h1 : zfa (mv σ) lim (k + 1) = i := by rw [zfa_s, if_neg (by omega), ← hi, if_pos (by omega)]
        unfold S_firstApart
        rw [if_neg (by omega), zfa_stay (n := k + 1) (by omega) (zLn (mv σ)) (by omega), h1]))
    exact L 0 (by omega) _ _ trivial (by omega) fnFr.rf rfl
  · refine fn_sipush hV dX11_firstApart_17 rfl ?_
    exact fn_iret hR dX11_firstApart_20 (zMP.rf hσ1 (by unfold S_firstApart; rw [if_pos (by omega)]))

theorem zway_sym (a b : Int) : zabs (zway a b) = zabs (zway b a) := by
  unfold zabs zway
  (repeat' split) <;> omega

set_option maxHeartbeats 4000000 in
set_option maxRecDepth 20000 in
theorem c_X11_nearer (E : fnE) (σ : fnMem) (hW : zWF (mv σ)) (l : Int) (h_l : fnR l) : fnOk E mX11_nearer [.ref 51, zI l] σ (fnQI (zMP (S_nearer (mv σ) l) (mv σ) σ)) := by
  refine fnOk.of [.ref 51, zI l, .null, .null, .null] rfl (by decide +kernel) rfl (fun V hV hR => ?_)
  replace hV : fnCx E RX11 cX11_nearer 5 7 154 V := hV
  replace hR : fnRt cX11_nearer (some .int) _ V := hR
  refine fn_aload_0 hV dX11_nearer_0 ?_
  refine fn_iconst hV dX11_nearer_1 ?_
  refine fn_putIz hV 0 dX11_nearer_2 fp_X11_96 fi_51_0 rfl ?_
  generalize hσ1 : fnUp σ 51 0 0 = σ1
  have e : ∀ k, k ≠ 51 → σ1 k = σ k := fun k hk => by rw [← hσ1, fnUp_ne _ _ _ hk]
  have e0 : ∀ j, j ≠ 0 → σ1 51 j = mv σ 0 j := fun j hj => by rw [← hσ1, fnUp_off _ _ _ hj]; rfl
  have f17 : mv σ 17 = σ1 68 := (e 68 (by decide)).symm
  have f20 : mv σ 20 = σ1 71 := (e 71 (by decide)).symm
  have f21 : mv σ 21 = σ1 72 := (e 72 (by decide)).symm
  obtain ⟨x1, x2, x3, x4, x5, x6, x7, x8⟩ := hW.2.2.2.2.2
  have g18 := e0 18 (by decide)
  refine fn_iload_1 hV dX11_nearer_5 ?_
  refine fn_i2lr hV dX11_nearer_6 (by omega) ?_
  refine fn_lconst0 hV dX11_nearer_7 ?_
  refine fn_aload_0 hV dX11_nearer_8 ?_
  refine fn_getIz hV 18 dX11_nearer_9 fl_X11_272 fi_51_18 rfl ?_
  refine fn_iconst hV dX11_nearer_12 ?_
  refine fn_isub hV dX11_nearer_13 ?_
  refine fn_i2lr hV dX11_nearer_14 (by omega) ?_
  refine fn_cS3 hV (c_X11_in E _ _ _ _ (by omega) (by omega) (by omega)) ms_X11_in lk_X11_117 dX11_nearer_15 ⟨rfl, rfl⟩ rfl ?_
  refine fn_ifneb hV dX11_nearer_18 (fun q18 => ?_) (fun q18 => ?_)
  · have y3 := x3 l (by omega) (by omega)
    have y6 := x6 l (by omega) (by omega)
    have y7 := x7 l (by omega) (by omega)
    have i17 : σ1 68 l = mv σ 17 l := by rw [f17]
    have i20 : σ1 71 l = mv σ 20 l := by rw [f20]
    have i21 : σ1 72 l = mv σ 21 l := by rw [f21]
    have v1 := zcrs_in (mv σ) l
    have v2 := zoth_in (mv σ) l
    have u1 := zway_in (zcrs (mv σ) l) ((mv σ 17 l + mv σ 21 l) % 3200)
    have u2 := zway_in (zoth (mv σ) l) ((mv σ 17 l + mv σ 21 l) % 3200)
    have u3 := zwa_in (zcrs (mv σ) l) ((mv σ 17 l + mv σ 21 l) % 3200)
    have u4 := zwa_in (zoth (mv σ) l) ((mv σ 17 l + mv σ 21 l) % 3200)
    refine fn_aload_0 hV dX11_nearer_25 ?_
    refine fn_getR hV dX11_nearer_26 fl_X11_75 fr_51_24 ?_
    refine fn_iload_1 hV dX11_nearer_29 ?_
    refine fn_iald hV dX11_nearer_30 ar_72 (by omega) (by omega) ?_
    refine fn_sipush hV dX11_nearer_31 rfl ?_
    refine fn_icmp_eq hV (by omega) (by omega) dX11_nearer_34 (fun q34 => ?_) (fun q34 => ?_)
    · refine fn_sipush hV dX11_nearer_49 rfl ?_
      exact fn_iret hR dX11_nearer_52 (zMP.rf hσ1 (by unfold S_nearer; rw [if_neg (by omega), if_pos (by omega)]))
    · refine fn_aload_0 hV dX11_nearer_37 ?_
      refine fn_getR hV dX11_nearer_38 fl_X11_72 fr_51_23 ?_
      refine fn_iload_1 hV dX11_nearer_41 ?_
      refine fn_iald hV dX11_nearer_42 ar_71 (by omega) (by omega) ?_
      refine fn_sipush hV dX11_nearer_43 rfl ?_
      refine fn_icmp_ne hV (by omega) (by omega) dX11_nearer_46 (fun q46 => ?_) (fun q46 => ?_)
      · refine fn_aload_0 hV dX11_nearer_53 ?_
        refine fn_getR hV dX11_nearer_54 fl_X11_63 fr_51_20 ?_
        refine fn_iload_1 hV dX11_nearer_57 ?_
        refine fn_iald hV dX11_nearer_58 ar_68 (by omega) (by omega) ?_
        refine fn_aload_0 hV dX11_nearer_59 ?_
        refine fn_getR hV dX11_nearer_60 fl_X11_75 fr_51_24 ?_
        refine fn_iload_1 hV dX11_nearer_63 ?_
        refine fn_iald hV dX11_nearer_64 ar_72 (by omega) (by omega) ?_
        refine fn_iadd hV dX11_nearer_65 ?_
        refine fn_sipush hV dX11_nearer_66 rfl ?_
        refine fn_cS2 hV (c_X11_turned E _ _ _ (by omega) (by omega) (by omega)) ms_X11_turned lk_X11_101 dX11_nearer_69 ⟨rfl, rfl⟩ rfl ?_
        rw [i17, i21]
        refine fn_istore_2 hV dX11_nearer_72 rfl rfl ?_
        refine fn_aload_0 hV dX11_nearer_73 ?_
        refine fn_iload_1 hV dX11_nearer_74 ?_
        refine fn_cV1I hV (c_X11_courseOf E _ (mv σ) (zsc0 hσ1) hW _ (by omega)) mv_X11_courseOf lk_X11_278 dX11_nearer_75 sh_51 rfl ⟨rfl, rfl⟩ rfl (fun z σ2 hp => ?_)
        obtain ⟨rfl, cF⟩ := hp
        have hM2 : fnSc (mv σ) (mv σ2) := (zsc0 hσ1).fr (cF.mono (by decide))
        refine fn_iload_2 hV dX11_nearer_78 ?_
        refine fn_cS2 hV (c_X11_wayOf E _ _ _ (by omega) (by omega)) ms_X11_wayOf lk_X11_151 dX11_nearer_79 ⟨rfl, rfl⟩ rfl ?_
        refine fn_cS1 hV (c_X11_size E _ _ (by omega)) ms_X11_size lk_X11_178 dX11_nearer_82 ⟨rfl, rfl⟩ rfl ?_
        refine fn_istore_3 hV dX11_nearer_85 rfl rfl ?_
        refine fn_aload_0 hV dX11_nearer_86 ?_
        refine fn_iload_1 hV dX11_nearer_87 ?_
        refine fn_cV1I hV (c_X11_secondOf E _ (mv σ) hM2 hW _ (by omega) (by omega)) mv_X11_secondOf lk_X11_281 dX11_nearer_88 sh_51 rfl ⟨rfl, rfl⟩ rfl (fun z σ3 hp => ?_)
        obtain ⟨rfl, dF⟩ := hp
        refine fn_iload_2 hV dX11_nearer_91 ?_
        refine fn_cS2 hV (c_X11_wayOf E _ _ _ (by omega) (by omega)) ms_X11_wayOf lk_X11_151 dX11_nearer_92 ⟨rfl, rfl⟩ rfl ?_
        refine fn_cS1 hV (c_X11_size E _ _ (by omega)) ms_X11_size lk_X11_178 dX11_nearer_95 ⟨rfl, rfl⟩ rfl ?_
        refine fn_istore_4 hV dX11_nearer_98 rfl rfl ?_
        refine fn_iload_3 hV dX11_nearer_100 ?_
        refine fn_iload_4 hV dX11_nearer_101 ?_
        refine fn_icmp_ge hV (by omega) (by omega) dX11_nearer_103 (fun q103 => ?_) (fun q103 => ?_)
        · refine fn_iload_4 hV dX11_nearer_110 ?_
          refine fn_iload_3 hV dX11_nearer_112 ?_
          refine fn_icmp_ge hV (by omega) (by omega) dX11_nearer_113 (fun q113 => ?_) (fun q113 => ?_)
          · refine fn_iconst hV dX11_nearer_120 ?_
            exact fn_iret hR dX11_nearer_121 (zMP.fr hσ1 ((cF.mono (by decide)).tr (dF.mono (by decide))) (by unfold S_nearer znr; rw [if_neg (by omega), if_neg (by omega), zway_sym _ (zcrs (mv σ) l), zway_sym _ (zoth (mv σ) l)]; (repeat' split) <;> omega))
          · refine fn_iconst hV dX11_nearer_116 ?_
            refine fn_goto hV dX11_nearer_117 ?_
            exact fn_iret hR dX11_nearer_121 (zMP.fr hσ1 ((cF.mono (by decide)).tr (dF.mono (by decide))) (by unfold S_nearer znr; rw [if_neg (by omega), if_neg (by omega), zway_sym _ (zcrs (mv σ) l), zway_sym _ (zoth (mv σ) l)]; (repeat' split) <;> omega))
        · refine fn_iconst hV dX11_nearer_106 ?_
          refine fn_goto hV dX11_nearer_107 ?_
          exact fn_iret hR dX11_nearer_121 (zMP.fr hσ1 ((cF.mono (by decide)).tr (dF.mono (by decide))) (by unfold S_nearer znr; rw [if_neg (by omega), if_neg (by omega), zway_sym _ (zcrs (mv σ) l), zway_sym _ (zoth (mv σ) l)]; (repeat' split) <;> omega))
      · refine fn_sipush hV dX11_nearer_49 rfl ?_
        exact fn_iret hR dX11_nearer_52 (zMP.rf hσ1 (by unfold S_nearer; rw [if_neg (by omega), if_pos (by omega)]))
  · refine fn_sipush hV dX11_nearer_21 rfl ?_
    exact fn_iret hR dX11_nearer_24 (zMP.rf hσ1 (by unfold S_nearer; rw [if_pos (by omega)]))
