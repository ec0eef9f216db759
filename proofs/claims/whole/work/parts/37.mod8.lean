set_option maxHeartbeats 4000000 in
set_option maxRecDepth 20000 in
theorem c_X11_place (E : fnE) (σ : fnMem) (hW : zWF (mv σ)) (p : Int) (h_p : fnR p) (h : Int) (h_h : fnR h) (z : Int) (h_z : fnR z) : fnOk E mX11_place [.ref 51, zI p, zI h, zI z] σ (fnQI (zMP (S_place p h z) (U_place (mv σ) p h z) σ)) := by
  refine fnOk.of [.ref 51, zI p, zI h, zI z] rfl (by decide +kernel) rfl (fun V hV hR => ?_)
  replace hV : fnCx E RX11 cX11_place 4 2 45 V := hV
  replace hR : fnRt cX11_place (some .int) _ V := hR
  refine fn_aload_0 hV dX11_place_0 ?_
  refine fn_iconst hV dX11_place_1 ?_
  refine fn_putIz hV 0 dX11_place_2 fp_X11_96 fi_51_0 rfl ?_
  generalize hσ1 : fnUp σ 51 0 0 = σ1
  have e : ∀ k, k ≠ 51 → σ1 k = σ k := fun k hk => by rw [← hσ1, fnUp_ne _ _ _ hk]
  have e0 : ∀ j, j ≠ 0 → σ1 51 j = mv σ 0 j := fun j hj => by rw [← hσ1, fnUp_off _ _ _ hj]; rfl
  refine fn_iload_1 hV dX11_place_5 ?_
  refine fn_cS1 hV (c_X11_noPlace E _ _ (by omega)) ms_X11_noPlace lk_X11_245 dX11_place_6 ⟨rfl, rfl⟩ rfl ?_
  refine fn_ifeqn hV dX11_place_9 (fun q9 => ?_) (fun q9 => ?_)
  · refine fn_iload_2 hV dX11_place_16 ?_
    refine fn_i2lr hV dX11_place_17 (by omega) ?_
    refine fn_lconst1 hV dX11_place_18 ?_
    refine fn_ldc2 hV dX11_place_19 co_X11_129 ?_
    refine fn_cS3 hV (c_X11_in E _ _ _ _ (by omega) (by omega) (by omega)) ms_X11_in lk_X11_117 dX11_place_22 ⟨rfl, rfl⟩ rfl ?_
    refine fn_ifeqb hV dX11_place_25 (fun q25 => ?_) (fun q25 => ?_)
    · refine fn_sipush hV dX11_place_42 rfl ?_
      exact fn_iret hR dX11_place_45 (zMP.rfU hσ1 (by unfold S_place; (repeat' split) <;> first | omega | rfl) (by unfold U_place; exact if_neg (by omega)))
    · refine fn_iload_3 hV dX11_place_28 ?_
      refine fn_i2lr hV dX11_place_29 (by omega) ?_
      refine fn_ldc2 hV dX11_place_30 co_X11_160 ?_
      refine fn_ldc2 hV dX11_place_33 co_X11_129 ?_
      refine fn_cS3 hV (c_X11_in E _ _ _ _ (by omega) (by omega) (by omega)) ms_X11_in lk_X11_117 dX11_place_36 ⟨rfl, rfl⟩ rfl ?_
      refine fn_ifneb hV dX11_place_39 (fun q39 => ?_) (fun q39 => ?_)
      · refine fn_aload_0 hV dX11_place_46 ?_
        refine fn_getR hV dX11_place_47 fl_X11_36 fr_51_10 ?_
        refine fn_iload_1 hV dX11_place_50 ?_
        refine fn_iload_2 hV dX11_place_51 ?_
        refine fn_iast hV dX11_place_52 ar_59 (by omega) (by omega) ?_
        refine fn_aload_0 hV dX11_place_53 ?_
        refine fn_getR hV dX11_place_54 fl_X11_39 fr_51_11 ?_
        refine fn_iload_1 hV dX11_place_57 ?_
        refine fn_iload_3 hV dX11_place_58 ?_
        refine fn_iast hV dX11_place_59 ar_60 (by omega) (by omega) ?_
        refine fn_iconst hV dX11_place_60 ?_
        exact fn_iret hR dX11_place_61 (zMP.up hσ1 (by unfold S_place; rw [if_neg (by omega), if_neg (by omega)]) (fun k hk => by rw [fnUp_ne _ _ _ (by omega), fnUp_ne _ _ _ (by omega)]) (by rw [show U_place (mv σ) p h z = fnUp (fnUp (mv σ) 8 p h) 9 p z from by unfold U_place; exact if_pos (by omega)]; exact ((zsc0 hσ1).up 8 _ _).up 9 _ _))
      · refine fn_sipush hV dX11_place_42 rfl ?_
        exact fn_iret hR dX11_place_45 (zMP.rfU hσ1 (by unfold S_place; (repeat' split) <;> first | omega | rfl) (by unfold U_place; exact if_neg (by omega)))
  · refine fn_sipush hV dX11_place_12 rfl ?_
    exact fn_iret hR dX11_place_15 (zMP.rfU hσ1 (by unfold S_place; (repeat' split) <;> first | omega | rfl) (by unfold U_place; exact if_neg (by omega)))

set_option maxHeartbeats 4000000 in
set_option maxRecDepth 20000 in
theorem c_X11_note (E : fnE) (σ : fnMem) (hW : zWF (mv σ)) (c0 : Int) (h_c0 : fnR c0) (p : Int) (h_p : fnR p) : fnOk E mX11_note [.ref 51, zI c0, zI p] σ (fnQI (zMP (S_note c0 p) (U_note (mv σ) c0 p) σ)) := by
  refine fnOk.of [.ref 51, zI c0, zI p] rfl (by decide +kernel) rfl (fun V hV hR => ?_)
  replace hV : fnCx E RX11 cX11_note 3 2 45 V := hV
  replace hR : fnRt cX11_note (some .int) _ V := hR
  refine fn_aload_0 hV dX11_note_0 ?_
  refine fn_iconst hV dX11_note_1 ?_
  refine fn_putIz hV 0 dX11_note_2 fp_X11_96 fi_51_0 rfl ?_
  generalize hσ1 : fnUp σ 51 0 0 = σ1
  have e : ∀ k, k ≠ 51 → σ1 k = σ k := fun k hk => by rw [← hσ1, fnUp_ne _ _ _ hk]
  have e0 : ∀ j, j ≠ 0 → σ1 51 j = mv σ 0 j := fun j hj => by rw [← hσ1, fnUp_off _ _ _ hj]; rfl
  have f1 : mv σ 1 = σ1 52 := (e 52 (by decide)).symm
  refine fn_iload_1 hV dX11_note_5 ?_
  refine fn_cS1 hV (c_X11_noCompass E _ _ (by omega)) ms_X11_noCompass lk_X11_154 dX11_note_6 ⟨rfl, rfl⟩ rfl ?_
  refine fn_ifnen hV dX11_note_9 (fun q9 => ?_) (fun q9 => ?_)
  · refine fn_sipush hV dX11_note_19 rfl ?_
    exact fn_iret hR dX11_note_22 (zMP.rfU hσ1 (by unfold S_note; (repeat' split) <;> first | omega | rfl) (by unfold U_note; exact if_neg (by omega)))
  · refine fn_iload_2 hV dX11_note_12 ?_
    refine fn_cS1 hV (c_X11_noPlace E _ _ (by omega)) ms_X11_noPlace lk_X11_245 dX11_note_13 ⟨rfl, rfl⟩ rfl ?_
    refine fn_ifeqn hV dX11_note_16 (fun q16 => ?_) (fun q16 => ?_)
    · refine fn_aload_0 hV dX11_note_23 ?_
      refine fn_getR hV dX11_note_24 fl_X11_42 fr_51_12 ?_
      refine fn_bipush hV dX11_note_27 rfl ?_
      refine fn_iload_1 hV dX11_note_29 ?_
      refine fn_imul hV dX11_note_30 ?_
      refine fn_iload_2 hV dX11_note_31 ?_
      refine fn_iadd hV dX11_note_32 ?_
      refine fn_iconst hV dX11_note_33 ?_
      refine fn_bast hV dX11_note_34 ar_61 (by omega) (by omega) (by omega) ?_
      refine fn_aload_0 hV dX11_note_35 ?_
      refine fn_getR hV dX11_note_36 fl_X11_45 fr_51_13 ?_
      refine fn_bipush hV dX11_note_39 rfl ?_
      refine fn_iload_1 hV dX11_note_41 ?_
      refine fn_imul hV dX11_note_42 ?_
      refine fn_iload_2 hV dX11_note_43 ?_
      refine fn_iadd hV dX11_note_44 ?_
      refine fn_aload_0 hV dX11_note_45 ?_
      refine fn_getR hV dX11_note_46 fl_X11_7 fr_51_1 ?_
      refine fn_bipush hV dX11_note_49 rfl ?_
      refine fn_iload_1 hV dX11_note_51 ?_
      refine fn_imul hV dX11_note_52 ?_
      refine fn_iconst hV dX11_note_53 ?_
      refine fn_iadd hV dX11_note_54 ?_
      refine fn_iald hV dX11_note_55 ar_52 (by omega) (by omega) ?_
      rw [fnUp_ne σ1 _ _ (show 52 ≠ 61 by decide)]
      refine fn_iast hV dX11_note_56 ar_62 (by omega) (by omega) ?_
      refine fn_aload_0 hV dX11_note_57 ?_
      refine fn_getR hV dX11_note_58 fl_X11_48 fr_51_14 ?_
      refine fn_bipush hV dX11_note_61 rfl ?_
      refine fn_iload_1 hV dX11_note_63 ?_
      refine fn_imul hV dX11_note_64 ?_
      refine fn_iload_2 hV dX11_note_65 ?_
      refine fn_iadd hV dX11_note_66 ?_
      refine fn_aload_0 hV dX11_note_67 ?_
      refine fn_getR hV dX11_note_68 fl_X11_7 fr_51_1 ?_
      refine fn_bipush hV dX11_note_71 rfl ?_
      refine fn_iload_1 hV dX11_note_73 ?_
      refine fn_imul hV dX11_note_74 ?_
      refine fn_iconst hV dX11_note_75 ?_
      refine fn_iadd hV dX11_note_76 ?_
      refine fn_iald hV dX11_note_77 ar_52 (by omega) (by omega) ?_
      rw [fnUp_ne (fnUp σ1 61 _ 1) _ _ (show 52 ≠ 62 by decide), fnUp_ne σ1 _ _ (show 52 ≠ 61 by decide), ← f1]
      refine fn_iast hV dX11_note_78 ar_63 (by omega) (by omega) ?_
      refine fn_iconst hV dX11_note_79 ?_
      exact fn_iret hR dX11_note_80 (zMP.up hσ1 (by unfold S_note; rw [if_neg (by omega)]) (fun k hk => by rw [fnUp_ne _ _ _ (by omega), fnUp_ne _ _ _ (by omega), fnUp_ne _ _ _ (by omega)]) (by rw [show U_note (mv σ) c0 p = fnUp (fnUp (fnUp (mv σ) 10 (8 * c0 + p) 1) 11 (8 * c0 + p) (mv σ 1 (6 * c0 + 1))) 12 (8 * c0 + p) (mv σ 1 (6 * c0 + 2)) from by unfold U_note; exact if_pos (by omega)]; exact (((zsc0 hσ1).up 10 _ _).up 11 _ _).up 12 _ _))
    · refine fn_sipush hV dX11_note_19 rfl ?_
      exact fn_iret hR dX11_note_22 (zMP.rfU hσ1 (by unfold S_note; (repeat' split) <;> first | omega | rfl) (by unfold U_note; exact if_neg (by omega)))

set_option maxHeartbeats 4000000 in
set_option maxRecDepth 20000 in
theorem c_X11_isDark (E : fnE) (σ : fnMem) (μ : fnMem) (hM : fnSc μ (mv σ)) (hW : zWF μ) (c p q : Int) (hc : 0 ≤ c ∧ c ≤ 2) (hp : 0 ≤ p ∧ p ≤ 7) (hq : 0 ≤ q ∧ q ≤ 7) : fnOk E mX11_isDark [.ref 51, zI c, zI p, zI q] σ (fnIs (some (zI (if μ 10 (8 * c + p) ≠ 0 ∧ μ 10 (8 * c + q) ≠ 0 ∧ μ 9 p ≠ μ 9 q then 0 else 1))) σ) := by
  refine fnOk.of [.ref 51, zI c, zI p, zI q] rfl (by decide +kernel) rfl (fun V hV hR => ?_)
  replace hV : fnCx E RX11 cX11_isDark 4 0 0 V := hV
  replace hR : fnRt cX11_isDark (some .boolean) _ V := hR
  have f9 : σ 60 = μ 9 := hM.c (k := 9) (by decide) (by decide)
  have f10 : σ 61 = μ 10 := hM.c (k := 10) (by decide) (by decide)
  obtain ⟨w1, w2, w3, w4, w5⟩ := hW.2.2.2.1
  have i1 := w3 (8 * c + p) (by omega) (by omega)
  have i2 := w3 (8 * c + q) (by omega) (by omega)
  have i3 := w2 p (by omega) (by omega)
  have i4 := w2 q (by omega) (by omega)
  rw [← f10] at i1 i2
  rw [← f9] at i3 i4
  refine fn_aload_0 hV dX11_isDark_0 ?_
  refine fn_getR hV dX11_isDark_1 fl_X11_42 fr_51_12 ?_
  refine fn_bipush hV dX11_isDark_4 rfl ?_
  refine fn_iload_1 hV dX11_isDark_6 ?_
  refine fn_imul hV dX11_isDark_7 ?_
  refine fn_iload_2 hV dX11_isDark_8 ?_
  refine fn_iadd hV dX11_isDark_9 ?_
  refine fn_bald hV dX11_isDark_10 ar_61 (by omega) (by omega) ?_
  refine fn_if_eq hV (by omega) dX11_isDark_11 (fun q11 => ?_) (fun q11 => ?_)
  · refine fn_iconst hV dX11_isDark_43 ?_
    refine fn_goto hV dX11_isDark_44 ?_
    exact fn_zret hR dX11_isDark_48 (by first | exact Or.inl rfl | exact Or.inr rfl | (split <;> simp)) (fnIs.i (by rw [← f10, ← f9]; first | (rw [if_pos (by omega)]; done) | (rw [if_neg (by omega)]; done)))
  · refine fn_aload_0 hV dX11_isDark_14 ?_
    refine fn_getR hV dX11_isDark_15 fl_X11_42 fr_51_12 ?_
    refine fn_bipush hV dX11_isDark_18 rfl ?_
    refine fn_iload_1 hV dX11_isDark_20 ?_
    refine fn_imul hV dX11_isDark_21 ?_
    refine fn_iload_3 hV dX11_isDark_22 ?_
    refine fn_iadd hV dX11_isDark_23 ?_
    refine fn_bald hV dX11_isDark_24 ar_61 (by omega) (by omega) ?_
    refine fn_if_eq hV (by omega) dX11_isDark_25 (fun q25 => ?_) (fun q25 => ?_)
    · refine fn_iconst hV dX11_isDark_43 ?_
      refine fn_goto hV dX11_isDark_44 ?_
      exact fn_zret hR dX11_isDark_48 (by first | exact Or.inl rfl | exact Or.inr rfl | (split <;> simp)) (fnIs.i (by rw [← f10, ← f9]; first | (rw [if_pos (by omega)]; done) | (rw [if_neg (by omega)]; done)))
    · refine fn_aload_0 hV dX11_isDark_28 ?_
      refine fn_getR hV dX11_isDark_29 fl_X11_39 fr_51_11 ?_
      refine fn_iload_2 hV dX11_isDark_32 ?_
      refine fn_iald hV dX11_isDark_33 ar_60 (by omega) (by omega) ?_
      refine fn_aload_0 hV dX11_isDark_34 ?_
      refine fn_getR hV dX11_isDark_35 fl_X11_39 fr_51_11 ?_
      refine fn_iload_3 hV dX11_isDark_38 ?_
      refine fn_iald hV dX11_isDark_39 ar_60 (by omega) (by omega) ?_
      refine fn_icmp_ne hV (by omega) (by omega) dX11_isDark_40 (fun q40 => ?_) (fun q40 => ?_)
      · refine fn_iconst hV dX11_isDark_47 ?_
        exact fn_zret hR dX11_isDark_48 (by first | exact Or.inl rfl | exact Or.inr rfl | (split <;> simp)) (fnIs.i (by rw [← f10, ← f9]; first | (rw [if_pos (by omega)]; done) | (rw [if_neg (by omega)]; done)))
      · refine fn_iconst hV dX11_isDark_43 ?_
        refine fn_goto hV dX11_isDark_44 ?_
        exact fn_zret hR dX11_isDark_48 (by first | exact Or.inl rfl | exact Or.inr rfl | (split <;> simp)) (fnIs.i (by rw [← f10, ← f9]; first | (rw [if_pos (by omega)]; done) | (rw [if_neg (by omega)]; done)))

set_option maxHeartbeats 4000000 in
set_option maxRecDepth 20000 in
theorem c_X11_foretoldOf (E : fnE) (σ : fnMem) (hh : ∀ k, 0 ≤ k → k < 8 → 1 ≤ σ 59 k ∧ σ 59 k ≤ 999) (hz : ∀ k, 0 ≤ k → k < 8 → -999 ≤ σ 60 k ∧ σ 60 k ≤ 999) (x p q v1 v2 : Int) (hx : 0 ≤ x ∧ x ≤ 7) (hp : 0 ≤ p ∧ p ≤ 7) (hq : 0 ≤ q ∧ q ≤ 7) (hv1 : -999 ≤ v1 ∧ v1 ≤ 999) (hv2 : -999 ≤ v2 ∧ v2 ≤ 999) (hn : σ 60 p ≠ σ 60 q) : fnOk E mX11_foretoldOf [.ref 51, zI x, zI p, zI q, zI v1, zI v2] σ (fnIs (some (zI (zfore v1 v2 (σ 59 p) (σ 59 q) (σ 59 x) (σ 60 x) (σ 60 p) (σ 60 q)))) σ) := by
  refine fnOk.of [.ref 51, zI x, zI p, zI q, zI v1, zI v2, .null, .null, .null, .null, .null, .null] rfl (by decide +kernel) rfl (fun V hV hR => ?_)
  replace hV : fnCx E RX11 cX11_foretoldOf 12 1 29 V := hV
  replace hR : fnRt cX11_foretoldOf (some .int) _ V := hR
  have h1 := hh p (by omega) (by omega)
  have h2 := hh q (by omega) (by omega)
  have h3 := hh x (by omega) (by omega)
  have z1 := hz p (by omega) (by omega)
  have z2 := hz q (by omega) (by omega)
  have z3 := hz x (by omega) (by omega)
  have m1 := zmul_le (a := v1) (b := σ 59 p) (A := 999) (B := 999) (by omega) (by omega) (by omega) (by omega)
  have m2 := zmul_le (a := v2) (b := σ 59 q) (A := 999) (B := 999) (by omega) (by omega) (by omega) (by omega)
  have m3 := zmul_le (a := v1 * σ 59 p) (b := σ 60 x - σ 60 q) (A := 998001) (B := 1998) (by omega) (by omega) (by omega) (by omega)
  have m4 := zmul_le (a := v2 * σ 59 q) (b := σ 60 x - σ 60 p) (A := 998001) (B := 1998) (by omega) (by omega) (by omega) (by omega)
  have m5 := zmul_le (a := σ 60 p - σ 60 q) (b := σ 59 x) (A := 1998) (B := 999) (by omega) (by omega) (by omega) (by omega)
  have m6 : (σ 60 p - σ 60 q) * σ 59 x ≠ 0 := by intro q; rcases Int.mul_eq_zero.mp q with q | q <;> omega
  refine fn_iload_4 hV dX11_foretoldOf_0 ?_
  refine fn_i2lr hV dX11_foretoldOf_2 (by omega) ?_
  refine fn_aload_0 hV dX11_foretoldOf_3 ?_
  refine fn_getR hV dX11_foretoldOf_4 fl_X11_36 fr_51_10 ?_
  refine fn_iload_2 hV dX11_foretoldOf_7 ?_
  refine fn_iald hV dX11_foretoldOf_8 ar_59 (by omega) (by omega) ?_
  refine fn_i2lr hV dX11_foretoldOf_9 (by omega) ?_
  refine fn_lmul hV dX11_foretoldOf_10 ?_
  refine fn_aload_0 hV dX11_foretoldOf_11 ?_
  refine fn_getR hV dX11_foretoldOf_12 fl_X11_39 fr_51_11 ?_
  refine fn_iload_1 hV dX11_foretoldOf_15 ?_
  refine fn_iald hV dX11_foretoldOf_16 ar_60 (by omega) (by omega) ?_
  refine fn_aload_0 hV dX11_foretoldOf_17 ?_
  refine fn_getR hV dX11_foretoldOf_18 fl_X11_39 fr_51_11 ?_
  refine fn_iload_3 hV dX11_foretoldOf_21 ?_
  refine fn_iald hV dX11_foretoldOf_22 ar_60 (by omega) (by omega) ?_
  refine fn_isub hV dX11_foretoldOf_23 ?_
  refine fn_i2lr hV dX11_foretoldOf_24 (by omega) ?_
  refine fn_lmul hV dX11_foretoldOf_25 ?_
  refine fn_iload_5 hV dX11_foretoldOf_26 ?_
  refine fn_i2lr hV dX11_foretoldOf_28 (by omega) ?_
  refine fn_aload_0 hV dX11_foretoldOf_29 ?_
  refine fn_getR hV dX11_foretoldOf_30 fl_X11_36 fr_51_10 ?_
  refine fn_iload_3 hV dX11_foretoldOf_33 ?_
  refine fn_iald hV dX11_foretoldOf_34 ar_59 (by omega) (by omega) ?_
  refine fn_i2lr hV dX11_foretoldOf_35 (by omega) ?_
  refine fn_lmul hV dX11_foretoldOf_36 ?_
  refine fn_aload_0 hV dX11_foretoldOf_37 ?_
  refine fn_getR hV dX11_foretoldOf_38 fl_X11_39 fr_51_11 ?_
  refine fn_iload_1 hV dX11_foretoldOf_41 ?_
  refine fn_iald hV dX11_foretoldOf_42 ar_60 (by omega) (by omega) ?_
  refine fn_aload_0 hV dX11_foretoldOf_43 ?_
  refine fn_getR hV dX11_foretoldOf_44 fl_X11_39 fr_51_11 ?_
  refine fn_iload_2 hV dX11_foretoldOf_47 ?_
  refine fn_iald hV dX11_foretoldOf_48 ar_60 (by omega) (by omega) ?_
  refine fn_isub hV dX11_foretoldOf_49 ?_
  refine fn_i2lr hV dX11_foretoldOf_50 (by omega) ?_
  refine fn_lmul hV dX11_foretoldOf_51 ?_
  refine fn_lsub hV dX11_foretoldOf_52 ?_
  refine fn_lstore_6 hV dX11_foretoldOf_53 rfl rfl ?_
  refine fn_aload_0 hV dX11_foretoldOf_55 ?_
  refine fn_getR hV dX11_foretoldOf_56 fl_X11_39 fr_51_11 ?_
  refine fn_iload_2 hV dX11_foretoldOf_59 ?_
  refine fn_iald hV dX11_foretoldOf_60 ar_60 (by omega) (by omega) ?_
  refine fn_aload_0 hV dX11_foretoldOf_61 ?_
  refine fn_getR hV dX11_foretoldOf_62 fl_X11_39 fr_51_11 ?_
  refine fn_iload_3 hV dX11_foretoldOf_65 ?_
  refine fn_iald hV dX11_foretoldOf_66 ar_60 (by omega) (by omega) ?_
  refine fn_isub hV dX11_foretoldOf_67 ?_
  refine fn_i2lr hV dX11_foretoldOf_68 (by omega) ?_
  refine fn_aload_0 hV dX11_foretoldOf_69 ?_
  refine fn_getR hV dX11_foretoldOf_70 fl_X11_36 fr_51_10 ?_
  refine fn_iload_1 hV dX11_foretoldOf_73 ?_
  refine fn_iald hV dX11_foretoldOf_74 ar_59 (by omega) (by omega) ?_
  refine fn_i2lr hV dX11_foretoldOf_75 (by omega) ?_
  refine fn_lmul hV dX11_foretoldOf_76 ?_
  refine fn_lstore_8 hV dX11_foretoldOf_77 rfl rfl ?_
  refine fn_lload_8 hV dX11_foretoldOf_79 ?_
  refine fn_lconst0 hV dX11_foretoldOf_81 ?_
  refine fn_lcmp_ge hV (by omega) (by omega) dX11_foretoldOf_82 dX11_foretoldOf_83 (fun q82 => ?_) (fun q82 => ?_)
  · have w1 := zrnd_le (a := (v1 * σ 59 p * (σ 60 x - σ 60 q) - v2 * σ 59 q * (σ 60 x - σ 60 p))) (b := ((σ 60 p - σ 60 q) * σ 59 x)) (B := 4000000000) (by omega) (by omega) (by omega)
    refine fn_lload_6 hV dX11_foretoldOf_98 ?_
    refine fn_lload_8 hV dX11_foretoldOf_100 ?_
    refine fn_cS2 hV (c_X11_rounded E _ _ _ (by omega) (by omega)) ms_X11_rounded lk_X11_111 dX11_foretoldOf_102 ⟨rfl, rfl⟩ rfl ?_
    refine fn_lstore_10 hV dX11_foretoldOf_105 rfl rfl ?_
    refine fn_lload_10 hV dX11_foretoldOf_107 ?_
    refine fn_ldc2 hV dX11_foretoldOf_109 co_X11_248 ?_
    refine fn_lcmp_le hV (by omega) (by omega) dX11_foretoldOf_112 dX11_foretoldOf_113 (fun q112 => ?_) (fun q112 => ?_)
    · refine fn_lload_10 hV dX11_foretoldOf_122 ?_
      refine fn_ldc2 hV dX11_foretoldOf_124 co_X11_250 ?_
      refine fn_lcmp_ge hV (by omega) (by omega) dX11_foretoldOf_127 dX11_foretoldOf_128 (fun q127 => ?_) (fun q127 => ?_)
      · refine fn_lload_10 hV dX11_foretoldOf_137 ?_
        refine fn_l2i hV dX11_foretoldOf_139 ?_
        exact fn_iret hR dX11_foretoldOf_140 (fnIs.i (by unfold zfore zcl9; (first | simp only [if_neg (show ¬ ((σ 60 p - σ 60 q) * σ 59 x) < 0 by omega)] | simp only [if_pos (show ((σ 60 p - σ 60 q) * σ 59 x) < 0 by omega)]); (repeat' split) <;> omega))
      · refine fn_sipush hV dX11_foretoldOf_131 rfl ?_
        refine fn_goto hV dX11_foretoldOf_134 ?_
        exact fn_iret hR dX11_foretoldOf_140 (fnIs.i (by unfold zfore zcl9; (first | simp only [if_neg (show ¬ ((σ 60 p - σ 60 q) * σ 59 x) < 0 by omega)] | simp only [if_pos (show ((σ 60 p - σ 60 q) * σ 59 x) < 0 by omega)]); (repeat' split) <;> omega))
    · refine fn_sipush hV dX11_foretoldOf_116 rfl ?_
      refine fn_goto hV dX11_foretoldOf_119 ?_
      exact fn_iret hR dX11_foretoldOf_140 (fnIs.i (by unfold zfore zcl9; (first | simp only [if_neg (show ¬ ((σ 60 p - σ 60 q) * σ 59 x) < 0 by omega)] | simp only [if_pos (show ((σ 60 p - σ 60 q) * σ 59 x) < 0 by omega)]); (repeat' split) <;> omega))
  · have w1 := zrnd_le (a := -(v1 * σ 59 p * (σ 60 x - σ 60 q) - v2 * σ 59 q * (σ 60 x - σ 60 p))) (b := -((σ 60 p - σ 60 q) * σ 59 x)) (B := 4000000000) (by omega) (by omega) (by omega)
    refine fn_lload_6 hV dX11_foretoldOf_86 ?_
    refine fn_lneg hV dX11_foretoldOf_88 ?_
    refine fn_lload_8 hV dX11_foretoldOf_89 ?_
    refine fn_lneg hV dX11_foretoldOf_91 ?_
    refine fn_cS2 hV (c_X11_rounded E _ _ _ (by omega) (by omega)) ms_X11_rounded lk_X11_111 dX11_foretoldOf_92 ⟨rfl, rfl⟩ rfl ?_
    refine fn_goto hV dX11_foretoldOf_95 ?_
    refine fn_lstore_10 hV dX11_foretoldOf_105 rfl rfl ?_
    refine fn_lload_10 hV dX11_foretoldOf_107 ?_
    refine fn_ldc2 hV dX11_foretoldOf_109 co_X11_248 ?_
    refine fn_lcmp_le hV (by omega) (by omega) dX11_foretoldOf_112 dX11_foretoldOf_113 (fun q112 => ?_) (fun q112 => ?_)
    · refine fn_lload_10 hV dX11_foretoldOf_122 ?_
      refine fn_ldc2 hV dX11_foretoldOf_124 co_X11_250 ?_
      refine fn_lcmp_ge hV (by omega) (by omega) dX11_foretoldOf_127 dX11_foretoldOf_128 (fun q127 => ?_) (fun q127 => ?_)
      · refine fn_lload_10 hV dX11_foretoldOf_137 ?_
        refine fn_l2i hV dX11_foretoldOf_139 ?_
        exact fn_iret hR dX11_foretoldOf_140 (fnIs.i (by unfold zfore zcl9; (first | simp only [if_neg (show ¬ ((σ 60 p - σ 60 q) * σ 59 x) < 0 by omega)] | simp only [if_pos (show ((σ 60 p - σ 60 q) * σ 59 x) < 0 by omega)]); (repeat' split) <;> omega))
      · refine fn_sipush hV dX11_foretoldOf_131 rfl ?_
        refine fn_goto hV dX11_foretoldOf_134 ?_
        exact fn_iret hR dX11_foretoldOf_140 (fnIs.i (by unfold zfore zcl9; (first | simp only [if_neg (show ¬ ((σ 60 p - σ 60 q) * σ 59 x) < 0 by omega)] | simp only [if_pos (show ((σ 60 p - σ 60 q) * σ 59 x) < 0 by omega)]); (repeat' split) <;> omega))
    · refine fn_sipush hV dX11_foretoldOf_116 rfl ?_
      refine fn_goto hV dX11_foretoldOf_119 ?_
      exact fn_iret hR dX11_foretoldOf_140 (fnIs.i (by unfold zfore zcl9; (first | simp only [if_neg (show ¬ ((σ 60 p - σ 60 q) * σ 59 x) < 0 by omega)] | simp only [if_pos (show ((σ 60 p - σ 60 q) * σ 59 x) < 0 by omega)]); (repeat' split) <;> omega))

set_option maxHeartbeats 4000000 in
set_option maxRecDepth 20000 in
theorem c_X11_event (E : fnE) (σ : fnMem) (hW : zWF (mv σ)) (k : Int) (h_k : fnR k) (d : Int) (h_d : fnR d) (p : Int) (h_p : fnR p) (v : Int) (h_v : fnR v) : fnOk E mX11_event [.ref 51, zI k, zI d, zI p, zI v] σ (fnQI (zMP (S_event (mv σ) k d p v) (U_event (mv σ) k d p v) σ)) := by
  refine fnOk.of [.ref 51, zI k, zI d, zI p, zI v, .null] rfl (by decide +kernel) rfl (fun V hV hR => ?_)
  replace hV : fnCx E RX11 cX11_event 6 2 45 V := hV
  replace hR : fnRt cX11_event (some .int) _ V := hR
  refine fn_aload_0 hV dX11_event_0 ?_
  refine fn_iconst hV dX11_event_1 ?_
  refine fn_putIz hV 0 dX11_event_2 fp_X11_96 fi_51_0 rfl ?_
  generalize hσ1 : fnUp σ 51 0 0 = σ1
  have e : ∀ k, k ≠ 51 → σ1 k = σ k := fun k hk => by rw [← hσ1, fnUp_ne _ _ _ hk]
  have e0 : ∀ j, j ≠ 0 → σ1 51 j = mv σ 0 j := fun j hj => by rw [← hσ1, fnUp_off _ _ _ hj]; rfl
  have f15 : mv σ 15 = σ1 66 := (e 66 (by decide)).symm
  refine fn_iload_1 hV dX11_event_5 ?_
  refine fn_i2lr hV dX11_event_6 (by omega) ?_
  refine fn_lconst0 hV dX11_event_7 ?_
  refine fn_ldc2 hV dX11_event_8 co_X11_260 ?_
  refine fn_cS3 hV (c_X11_in E _ _ _ _ (by omega) (by omega) (by omega)) ms_X11_in lk_X11_117 dX11_event_11 ⟨rfl, rfl⟩ rfl ?_
  refine fn_ifeqb hV dX11_event_14 (fun q14 => ?_) (fun q14 => ?_)
  · refine fn_sipush hV dX11_event_24 rfl ?_
    exact fn_iret hR dX11_event_27 (zMP.rfU hσ1 (by unfold S_event; (repeat' split) <;> first | omega | rfl) (by unfold U_event; exact if_neg (by omega)))
  · refine fn_iload_3 hV dX11_event_17 ?_
    refine fn_cS1 hV (c_X11_noPart E _ _ (by omega)) ms_X11_noPart lk_X11_157 dX11_event_18 ⟨rfl, rfl⟩ rfl ?_
    refine fn_ifeqn hV dX11_event_21 (fun q21 => ?_) (fun q21 => ?_)
    · refine fn_iload_2 hV dX11_event_28 ?_
      refine fn_cS1 hV (c_X11_noDay E _ _ (by omega)) ms_X11_noDay lk_X11_262 dX11_event_29 ⟨rfl, rfl⟩ rfl ?_
      refine fn_ifnen hV dX11_event_32 (fun q32 => ?_) (fun q32 => ?_)
      · refine fn_sipush hV dX11_event_50 rfl ?_
        exact fn_iret hR dX11_event_53 (zMP.rfU hσ1 (by unfold S_event; (repeat' split) <;> first | omega | rfl) (by unfold U_event; exact if_neg (by omega)))
      · refine fn_iload_4 hV dX11_event_35 ?_
        refine fn_i2lr hV dX11_event_37 (by omega) ?_
        refine fn_ldc2 hV dX11_event_38 co_X11_265 ?_
        refine fn_ldc2 hV dX11_event_41 co_X11_267 ?_
        refine fn_cS3 hV (c_X11_in E _ _ _ _ (by omega) (by omega) (by omega)) ms_X11_in lk_X11_117 dX11_event_44 ⟨rfl, rfl⟩ rfl ?_
        refine fn_ifneb hV dX11_event_47 (fun q47 => ?_) (fun q47 => ?_)
        · refine fn_aload_0 hV dX11_event_54 ?_
          refine fn_getR hV dX11_event_55 fl_X11_57 fr_51_17 ?_
          refine fn_iload_1 hV dX11_event_58 ?_
          refine fn_iald hV dX11_event_59 ar_66 (by omega) (by omega) ?_
          refine fn_istore_5 hV dX11_event_60 rfl rfl ?_
          refine fn_aload_0 hV dX11_event_62 ?_
          refine fn_getR hV dX11_event_63 fl_X11_51 fr_51_15 ?_
          refine fn_iload_1 hV dX11_event_66 ?_
          refine fn_iload_2 hV dX11_event_67 ?_
          refine fn_iast hV dX11_event_68 ar_64 (by omega) (by omega) ?_
          refine fn_aload_0 hV dX11_event_69 ?_
          refine fn_getR hV dX11_event_70 fl_X11_54 fr_51_16 ?_
          refine fn_iload_1 hV dX11_event_73 ?_
          refine fn_iload_3 hV dX11_event_74 ?_
          refine fn_iast hV dX11_event_75 ar_65 (by omega) (by omega) ?_
          refine fn_aload_0 hV dX11_event_76 ?_
          refine fn_getR hV dX11_event_77 fl_X11_57 fr_51_17 ?_
          refine fn_iload_1 hV dX11_event_80 ?_
          refine fn_iload_4 hV dX11_event_81 ?_
          refine fn_iast hV dX11_event_83 ar_66 (by omega) (by omega) ?_
          refine fn_iload_5 hV dX11_event_84 ?_
          exact fn_iret hR dX11_event_86 (zMP.up hσ1 (by unfold S_event; rw [if_neg (by omega), if_neg (by omega), f15]) (fun k hk => by rw [fnUp_ne _ _ _ (by omega), fnUp_ne _ _ _ (by omega), fnUp_ne _ _ _ (by omega)]) (by rw [show U_event (mv σ) k d p v = fnUp (fnUp (fnUp (mv σ) 13 k d) 14 k p) 15 k v from by unfold U_event; exact if_pos (by omega)]; exact (((zsc0 hσ1).up 13 _ _).up 14 _ _).up 15 _ _))
        · refine fn_sipush hV dX11_event_50 rfl ?_
          exact fn_iret hR dX11_event_53 (zMP.rfU hσ1 (by unfold S_event; (repeat' split) <;> first | omega | rfl) (by unfold U_event; exact if_neg (by omega)))
    · refine fn_sipush hV dX11_event_24 rfl ?_
      exact fn_iret hR dX11_event_27 (zMP.rfU hσ1 (by unfold S_event; (repeat' split) <;> first | omega | rfl) (by unfold U_event; exact if_neg (by omega)))

set_option maxHeartbeats 4000000 in
set_option maxRecDepth 20000 in
theorem c_X11_takeAsOf (E : fnE) (σ : fnMem) (μ : fnMem) (hM : fnSc μ (mv σ)) (hW : zWF μ) (d : Int) (hd : 0 ≤ d ∧ d ≤ 999) : fnOk E mX11_takeAsOf [.ref 51, zI d] σ (fnQv (fun s => fnFr [73] σ s ∧ ∀ j, 0 ≤ j → j < 6 → s 73 j = zasof μ d j)) := by
  refine fnOk.of [.ref 51, zI d, .null] rfl (by decide +kernel) rfl (fun V hV hR => ?_)
  replace hV : fnCx E RX11 cX11_takeAsOf 3 1 22 V := hV
  replace hR : fnRt cX11_takeAsOf none _ V := hR
  have f1 : σ 52 = μ 1 := hM.c (k := 1) (by decide) (by decide)
  have f13 : σ 64 = μ 13 := hM.c (k := 13) (by decide) (by decide)
  have f14 : σ 65 = μ 14 := hM.c (k := 14) (by decide) (by decide)
  have f15 : σ 66 = μ 15 := hM.c (k := 15) (by decide) (by decide)
  obtain ⟨w1, w2, w3⟩ := hW.2.2.2.2.1
  refine fn_aload_0 hV dX11_takeAsOf_0 ?_
  refine fn_iconst hV dX11_takeAsOf_1 ?_
  refine fn_cV1Q hV (c_X11_take E _ _ (by decide)) mv_X11_take lk_X11_168 dX11_takeAsOf_2 sh_51 rfl ⟨rfl, rfl⟩ rfl (fun σ1 hp => ?_)
  obtain ⟨tF, tv⟩ := hp
  refine fn_iconst hV dX11_takeAsOf_5 ?_
  refine fn_istore_2 hV dX11_takeAsOf_6 rfl rfl ?_
  have L : ∀ k : Nat, k ≤ 20 → ∀ (i : Int) (σ2 : fnMem), True → (i = k) → (fnFr [73] σ σ2) → (∀ j, 0 ≤ j → j < 6 → σ2 73 j = μ 1 j + zsum (zput (μ 13) (μ 14) (μ 15) d j) k) → V 7 [.ref 51, zI d, zI i] [] σ2 := by
    refine fn_rec (fun k hk ihL => ?_)
    intro i σ2 _ hi hF hv
    refine fn_iload_2 hV dX11_takeAsOf_7 ?_
    refine fn_bipush hV dX11_takeAsOf_8 rfl ?_
    refine fn_icmp_ge hV (by omega) (by omega) dX11_takeAsOf_10 (fun q10 => ?_) (fun q10 => ?_)
    · exact fn_vret hR dX11_takeAsOf_53 (fnQv.mk ⟨hF, fun j j0 j1 => by rw [hv j j0 j1, show k = 20 by omega]; rfl⟩)
    · have q1 := w1 i (by omega) (by omega)
      have q2 := w2 i (by omega) (by omega)
      have q3 := w3 i (by omega) (by omega)
      have i13 : σ2 64 i = μ 13 i := by rw [hF 64 (by decide), f13]
      have i14 : σ2 65 i = μ 14 i := by rw [hF 65 (by decide), f14]
      have i15 : σ2 66 i = μ 15 i := by rw [hF 66 (by decide), f15]
      refine fn_aload_0 hV dX11_takeAsOf_13 ?_
      refine fn_getR hV dX11_takeAsOf_14 fl_X11_78 fr_51_25 ?_
      refine fn_aload_0 hV dX11_takeAsOf_17 ?_
      refine fn_getR hV dX11_takeAsOf_18 fl_X11_54 fr_51_16 ?_
      refine fn_iload_2 hV dX11_takeAsOf_21 ?_
      refine fn_iald hV dX11_takeAsOf_22 ar_65 (by omega) (by omega) ?_
      refine fn_dup2 hV dX11_takeAsOf_23 rfl rfl ?_
      refine fn_iald hV dX11_takeAsOf_24 ar_73 (by omega) (by omega) ?_
      refine fn_aload_0 hV dX11_takeAsOf_25 ?_
      refine fn_getR hV dX11_takeAsOf_26 fl_X11_51 fr_51_15 ?_
      refine fn_iload_2 hV dX11_takeAsOf_29 ?_
      refine fn_iald hV dX11_takeAsOf_30 ar_64 (by omega) (by omega) ?_
      refine fn_iload_1 hV dX11_takeAsOf_31 ?_
      refine fn_icmp_gt hV (by omega) (by omega) dX11_takeAsOf_32 (fun q32 => ?_) (fun q32 => ?_)
      · refine fn_iconst hV dX11_takeAsOf_44 ?_
        refine fn_iadd hV dX11_takeAsOf_45 ?_
        refine fn_iast hV dX11_takeAsOf_46 ar_73 (by omega) (by omega) ?_
        refine fn_iinc_2 hV dX11_takeAsOf_47 rfl rfl ?_
        refine fn_goto hV dX11_takeAsOf_50 ?_
        have p9 : ∀ j, zput (μ 13) (μ 14) (μ 15) d j i = if μ 14 i = j then 0 else 0 := fun j => by unfold zput; (repeat' split) <;> omega
        exact ihL (k + 1) (by omega) (by omega) _ _ trivial (by omega) (hF.up (by decide)) (fun j j0 j1 => by
        rw [fnUp_ap, zsum_s, ← hi, p9, i14]
        by_cases q : j = μ 14 i
        · rw [if_pos q, if_pos q.symm, ← q, hv j j0 j1]; omega
        · rw [if_neg q, if_neg (fun h => q h.symm), hv j j0 j1]; omega)
      · refine fn_aload_0 hV dX11_takeAsOf_35 ?_
        refine fn_getR hV dX11_takeAsOf_36 fl_X11_57 fr_51_17 ?_
        refine fn_iload_2 hV dX11_takeAsOf_39 ?_
        refine fn_iald hV dX11_takeAsOf_40 ar_66 (by omega) (by omega) ?_
        rw [i15]
        refine fn_goto hV dX11_takeAsOf_41 ?_
        refine fn_iadd hV dX11_takeAsOf_45 ?_
        refine fn_iast hV dX11_takeAsOf_46 ar_73 (by omega) (by omega) ?_
        refine fn_iinc_2 hV dX11_takeAsOf_47 rfl rfl ?_
        refine fn_goto hV dX11_takeAsOf_50 ?_
        have p9 : ∀ j, zput (μ 13) (μ 14) (μ 15) d j i = if μ 14 i = j then μ 15 i else 0 := fun j => by unfold zput; (repeat' split) <;> omega
        exact ihL (k + 1) (by omega) (by omega) _ _ trivial (by omega) (hF.up (by decide)) (fun j j0 j1 => by
        rw [fnUp_ap, zsum_s, ← hi, p9, i14]
        by_cases q : j = μ 14 i
        · rw [if_pos q, if_pos q.symm, ← q, hv j j0 j1]; omega
        · rw [if_neg q, if_neg (fun h => q h.symm), hv j j0 j1]; omega)
  exact L 0 (by omega) _ _ trivial (by omega) tF (fun j j0 j1 => by rw [tv j j0 j1, f1]; simp [zsum])

set_option maxHeartbeats 4000000 in
set_option maxRecDepth 20000 in
theorem c_X11_asOf (E : fnE) (σ : fnMem) (hW : zWF (mv σ)) (p : Int) (h_p : fnR p) (d : Int) (h_d : fnR d) : fnOk E mX11_asOf [.ref 51, zI p, zI d] σ (fnQI (zMP (S_asOf (mv σ) p d) (mv σ) σ)) := by
  refine fnOk.of [.ref 51, zI p, zI d] rfl (by decide +kernel) rfl (fun V hV hR => ?_)
  replace hV : fnCx E RX11 cX11_asOf 3 2 45 V := hV
  replace hR : fnRt cX11_asOf (some .int) _ V := hR
  refine fn_aload_0 hV dX11_asOf_0 ?_
  refine fn_iconst hV dX11_asOf_1 ?_
  refine fn_putIz hV 0 dX11_asOf_2 fp_X11_96 fi_51_0 rfl ?_
  generalize hσ1 : fnUp σ 51 0 0 = σ1
  have e : ∀ k, k ≠ 51 → σ1 k = σ k := fun k hk => by rw [← hσ1, fnUp_ne _ _ _ hk]
  have e0 : ∀ j, j ≠ 0 → σ1 51 j = mv σ 0 j := fun j hj => by rw [← hσ1, fnUp_off _ _ _ hj]; rfl
  refine fn_iload_1 hV dX11_asOf_5 ?_
  refine fn_cS1 hV (c_X11_noPart E _ _ (by omega)) ms_X11_noPart lk_X11_157 dX11_asOf_6 ⟨rfl, rfl⟩ rfl ?_
  refine fn_ifeqn hV dX11_asOf_9 (fun q9 => ?_) (fun q9 => ?_)
  · refine fn_iload_2 hV dX11_asOf_16 ?_
    refine fn_cS1 hV (c_X11_noDay E _ _ (by omega)) ms_X11_noDay lk_X11_262 dX11_asOf_17 ⟨rfl, rfl⟩ rfl ?_
    refine fn_ifeqn hV dX11_asOf_20 (fun q20 => ?_) (fun q20 => ?_)
    · refine fn_aload_0 hV dX11_asOf_27 ?_
      refine fn_iload_2 hV dX11_asOf_28 ?_
      refine fn_cV1Q hV (c_X11_takeAsOf E _ (mv σ) (zsc0 hσ1) hW _ (by omega)) mv_X11_takeAsOf lk_X11_269 dX11_asOf_29 sh_51 rfl ⟨rfl, rfl⟩ rfl (fun σ2 hp => ?_)
      obtain ⟨tF, tv⟩ := hp
      refine fn_aload_0 hV dX11_asOf_32 ?_
      refine fn_getR hV dX11_asOf_33 fl_X11_78 fr_51_25 ?_
      refine fn_iload_1 hV dX11_asOf_36 ?_
      refine fn_iald hV dX11_asOf_37 ar_73 (by omega) (by omega) ?_
      exact fn_iret hR dX11_asOf_38 (zMP.fr hσ1 (tF.mono (by decide)) (by unfold S_asOf; rw [if_neg (by omega), if_neg (by omega)]; exact tv p (by omega) (by omega)))
    · refine fn_sipush hV dX11_asOf_23 rfl ?_
      exact fn_iret hR dX11_asOf_26 (zMP.rf hσ1 (by unfold S_asOf; rw [if_neg (by omega), if_pos (by omega)]))
  · refine fn_sipush hV dX11_asOf_12 rfl ?_
    exact fn_iret hR dX11_asOf_15 (zMP.rf hσ1 (by unfold S_asOf; rw [if_pos (by omega)]))
