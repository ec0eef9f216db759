theorem fnSc.up {μ1 s : fnMem} (h : fnSc μ1 (mv s)) (k : Nat) (i v : Int) : fnSc (fnUp μ1 k i v) (mv (fnUp s (51 + k) i v)) := by
  intro a j ha hj
  show fnUp s (51 + k) i v (51 + a) j = fnUp μ1 k i v a j
  by_cases h1 : a = k
  · subst h1
    rw [fnUp_ap, fnUp_ap]
    split
    · rfl
    · exact h a j ha hj
  · rw [fnUp_ne _ _ _ (by omega), fnUp_ne _ _ _ h1]
    exact h a j ha hj
theorem zsc0 {σ σ1 : fnMem} (h : fnUp σ 51 0 0 = σ1) : fnSc (mv σ) (mv σ1) := by
  subst h
  intro a j ha hj
  show fnUp σ 51 0 0 (51 + a) j = σ (51 + a) j
  by_cases h0 : a = 0
  · subst h0
    exact fnUp_off _ _ _ (by omega)
  · rw [fnUp_ne _ _ _ (by omega)]
theorem fnSc.fr {μ s s1 : fnMem} (h : fnSc μ (mv s)) (hF : fnFr [73, 74, 75, 76, 77, 78] s s1) : fnSc μ (mv s1) := by
  intro a j ha hj
  show s1 (51 + a) j = _
  rw [hF (51 + a) (by simp; omega)]
  exact h a j ha hj
theorem fnSc.c {μ s : fnMem} (h : fnSc μ (mv s)) {k : Nat} (h1 : 1 ≤ k) (h2 : k < 22) : s (51 + k) = μ k := funext fun j => h k j h2 (by omega)
theorem fnSc.f {μ s : fnMem} (h : fnSc μ (mv s)) {j : Int} (h0 : j ≠ 0) (h1 : j ≠ 28) : s 51 j = μ 0 j := h 0 j (by decide) (by omega)

set_option maxHeartbeats 4000000 in
set_option maxRecDepth 20000 in
theorem c_X11_bar (E : fnE) (σ : fnMem) (hW : zWF (mv σ)) (k : Int) (h_k : fnR k) (s : Int) (h_s : fnR s) : fnOk E mX11_bar [.ref 51, zI k, zI s] σ (fnQI (zMP (S_bar (mv σ) k s) (U_bar (mv σ) k s) σ)) := by
  refine fnOk.of [.ref 51, zI k, zI s, .null] rfl (by decide +kernel) rfl (fun V hV hR => ?_)
  replace hV : fnCx E RX11 cX11_bar 4 1 25 V := hV
  replace hR : fnRt cX11_bar (some .int) _ V := hR
  refine fn_aload_0 hV dX11_bar_0 ?_
  refine fn_iconst hV dX11_bar_1 ?_
  refine fn_putIz hV 0 dX11_bar_2 fp_X11_96 fi_51_0 rfl ?_
  generalize hσ1 : fnUp σ 51 0 0 = σ1
  have e : ∀ k, k ≠ 51 → σ1 k = σ k := fun k hk => by rw [← hσ1, fnUp_ne _ _ _ hk]
  have e0 : ∀ j, j ≠ 0 → σ1 51 j = mv σ 0 j := fun j hj => by rw [← hσ1, fnUp_off _ _ _ hj]; rfl
  have f3 : mv σ 3 = σ1 54 := (e 54 (by decide)).symm
  have f4 : mv σ 4 = σ1 55 := (e 55 (by decide)).symm
  have f5 : mv σ 5 = σ1 56 := (e 56 (by decide)).symm
  have f6 : mv σ 6 = σ1 57 := (e 57 (by decide)).symm
  have f7 : mv σ 7 = σ1 58 := (e 58 (by decide)).symm
  obtain ⟨w1, w2, w3, w4, w5⟩ := hW.2.2.1
  rw [f3] at w1
  rw [f4, f5] at w2
  rw [f6] at w3
  rw [f7] at w4
  have g8 := e0 8 (by decide)
  have g9 := e0 9 (by decide)
  refine fn_iload_1 hV dX11_bar_5 ?_
  refine fn_i2lr hV dX11_bar_6 (by omega) ?_
  refine fn_lconst0 hV dX11_bar_7 ?_
  refine fn_ldc2 hV dX11_bar_8 co_X11_123 ?_
  refine fn_cS3 hV (c_X11_in E _ _ _ _ (by omega) (by omega) (by omega)) ms_X11_in lk_X11_117 dX11_bar_11 ⟨rfl, rfl⟩ rfl ?_
  refine fn_ifneb hV dX11_bar_14 (fun q14 => ?_) (fun q14 => ?_)
  · refine fn_iload_2 hV dX11_bar_21 ?_
    refine fn_i2lr hV dX11_bar_22 (by omega) ?_
    refine fn_lconst0 hV dX11_bar_23 ?_
    refine fn_ldc2 hV dX11_bar_24 co_X11_199 ?_
    refine fn_cS3 hV (c_X11_in E _ _ _ _ (by omega) (by omega) (by omega)) ms_X11_in lk_X11_117 dX11_bar_27 ⟨rfl, rfl⟩ rfl ?_
    refine fn_ifneb hV dX11_bar_30 (fun q30 => ?_) (fun q30 => ?_)
    · have q2 := w2 k (by omega) (by omega)
      have f4k : mv σ 4 k = σ1 55 k := by rw [f4]
      refine fn_aload_0 hV dX11_bar_37 ?_
      refine fn_getR hV dX11_bar_38 fl_X11_19 fr_51_4 ?_
      refine fn_iload_1 hV dX11_bar_41 ?_
      refine fn_iald hV dX11_bar_42 ar_55 (by omega) (by omega) ?_
      refine fn_sipush hV dX11_bar_43 rfl ?_
      refine fn_icmp_eq hV (by omega) (by omega) dX11_bar_46 (fun q46 => ?_) (fun q46 => ?_)
      · refine fn_aload_0 hV dX11_bar_53 ?_
        refine fn_getR hV dX11_bar_54 fl_X11_16 fr_51_3 ?_
        refine fn_iload_1 hV dX11_bar_57 ?_
        refine fn_iald hV dX11_bar_58 ar_54 (by omega) (by omega) ?_
        refine fn_istore_3 hV dX11_bar_59 rfl rfl ?_
        refine fn_aload_0 hV dX11_bar_60 ?_
        refine fn_getR hV dX11_bar_61 fl_X11_16 fr_51_3 ?_
        refine fn_iload_1 hV dX11_bar_64 ?_
        refine fn_iload_2 hV dX11_bar_65 ?_
        refine fn_iast hV dX11_bar_66 ar_54 (by omega) (by omega) ?_
        refine fn_iload_3 hV dX11_bar_67 ?_
        exact fn_iret hR dX11_bar_68 (zMP.up hσ1 (by unfold S_bar; rw [if_neg (by omega), if_neg (by omega), if_neg (by omega), f3]) (fun k hk => fnUp_ne _ _ _ (by omega)) (by rw [show U_bar (mv σ) k s = fnUp (mv σ) 3 k s from by unfold U_bar; exact if_pos (by omega)]; exact (zsc0 hσ1).up 3 _ _))
      · refine fn_sipush hV dX11_bar_49 rfl ?_
        exact fn_iret hR dX11_bar_52 (zMP.rfU hσ1 (by unfold S_bar; (repeat' split) <;> first | omega | rfl) (by unfold U_bar; exact if_neg (by omega)))
    · refine fn_sipush hV dX11_bar_33 rfl ?_
      exact fn_iret hR dX11_bar_36 (zMP.rfU hσ1 (by unfold S_bar; (repeat' split) <;> first | omega | rfl) (by unfold U_bar; exact if_neg (by omega)))
  · refine fn_sipush hV dX11_bar_17 rfl ?_
    exact fn_iret hR dX11_bar_20 (zMP.rfU hσ1 (by unfold S_bar; (repeat' split) <;> first | omega | rfl) (by unfold U_bar; exact if_neg (by omega)))

set_option maxHeartbeats 4000000 in
set_option maxRecDepth 20000 in
theorem c_X11_ball (E : fnE) (σ : fnMem) (hW : zWF (mv σ)) (k : Int) (h_k : fnR k) (s : Int) (h_s : fnR s) : fnOk E mX11_ball [.ref 51, zI k, zI s] σ (fnQI (zMP (S_ball (mv σ) k s) (U_ball (mv σ) k s) σ)) := by
  refine fnOk.of [.ref 51, zI k, zI s, .null] rfl (by decide +kernel) rfl (fun V hV hR => ?_)
  replace hV : fnCx E RX11 cX11_ball 4 1 25 V := hV
  replace hR : fnRt cX11_ball (some .int) _ V := hR
  refine fn_aload_0 hV dX11_ball_0 ?_
  refine fn_iconst hV dX11_ball_1 ?_
  refine fn_putIz hV 0 dX11_ball_2 fp_X11_96 fi_51_0 rfl ?_
  generalize hσ1 : fnUp σ 51 0 0 = σ1
  have e : ∀ k, k ≠ 51 → σ1 k = σ k := fun k hk => by rw [← hσ1, fnUp_ne _ _ _ hk]
  have e0 : ∀ j, j ≠ 0 → σ1 51 j = mv σ 0 j := fun j hj => by rw [← hσ1, fnUp_off _ _ _ hj]; rfl
  have f3 : mv σ 3 = σ1 54 := (e 54 (by decide)).symm
  have f4 : mv σ 4 = σ1 55 := (e 55 (by decide)).symm
  have f5 : mv σ 5 = σ1 56 := (e 56 (by decide)).symm
  have f6 : mv σ 6 = σ1 57 := (e 57 (by decide)).symm
  have f7 : mv σ 7 = σ1 58 := (e 58 (by decide)).symm
  obtain ⟨w1, w2, w3, w4, w5⟩ := hW.2.2.1
  rw [f3] at w1
  rw [f4, f5] at w2
  rw [f6] at w3
  rw [f7] at w4
  have g8 := e0 8 (by decide)
  have g9 := e0 9 (by decide)
  refine fn_iload_1 hV dX11_ball_5 ?_
  refine fn_i2lr hV dX11_ball_6 (by omega) ?_
  refine fn_lconst0 hV dX11_ball_7 ?_
  refine fn_ldc2 hV dX11_ball_8 co_X11_201 ?_
  refine fn_cS3 hV (c_X11_in E _ _ _ _ (by omega) (by omega) (by omega)) ms_X11_in lk_X11_117 dX11_ball_11 ⟨rfl, rfl⟩ rfl ?_
  refine fn_ifneb hV dX11_ball_14 (fun q14 => ?_) (fun q14 => ?_)
  · refine fn_iload_2 hV dX11_ball_21 ?_
    refine fn_i2lr hV dX11_ball_22 (by omega) ?_
    refine fn_lconst0 hV dX11_ball_23 ?_
    refine fn_ldc2 hV dX11_ball_24 co_X11_203 ?_
    refine fn_cS3 hV (c_X11_in E _ _ _ _ (by omega) (by omega) (by omega)) ms_X11_in lk_X11_117 dX11_ball_27 ⟨rfl, rfl⟩ rfl ?_
    refine fn_ifneb hV dX11_ball_30 (fun q30 => ?_) (fun q30 => ?_)
    · refine fn_aload_0 hV dX11_ball_37 ?_
      refine fn_getIz hV 8 dX11_ball_38 fl_X11_32 fi_51_8 rfl ?_
      refine fn_iload_1 hV dX11_ball_41 ?_
      refine fn_icmp_ne hV (by omega) (by omega) dX11_ball_42 (fun q42 => ?_) (fun q42 => ?_)
      · refine fn_aload_0 hV dX11_ball_49 ?_
        refine fn_getR hV dX11_ball_50 fl_X11_29 fr_51_7 ?_
        refine fn_iload_1 hV dX11_ball_53 ?_
        refine fn_iald hV dX11_ball_54 ar_58 (by omega) (by omega) ?_
        refine fn_istore_3 hV dX11_ball_55 rfl rfl ?_
        refine fn_aload_0 hV dX11_ball_56 ?_
        refine fn_getR hV dX11_ball_57 fl_X11_29 fr_51_7 ?_
        refine fn_iload_1 hV dX11_ball_60 ?_
        refine fn_iload_2 hV dX11_ball_61 ?_
        refine fn_iast hV dX11_ball_62 ar_58 (by omega) (by omega) ?_
        refine fn_iload_3 hV dX11_ball_63 ?_
        exact fn_iret hR dX11_ball_64 (zMP.up hσ1 (by unfold S_ball; rw [if_neg (by omega), if_neg (by omega), if_neg (by omega), f7]) (fun k hk => fnUp_ne _ _ _ (by omega)) (by rw [show U_ball (mv σ) k s = fnUp (mv σ) 7 k s from by unfold U_ball; exact if_pos (by omega)]; exact (zsc0 hσ1).up 7 _ _))
      · refine fn_sipush hV dX11_ball_45 rfl ?_
        exact fn_iret hR dX11_ball_48 (zMP.rfU hσ1 (by unfold S_ball; (repeat' split) <;> first | omega | rfl) (by unfold U_ball; exact if_neg (by omega)))
    · refine fn_sipush hV dX11_ball_33 rfl ?_
      exact fn_iret hR dX11_ball_36 (zMP.rfU hσ1 (by unfold S_ball; (repeat' split) <;> first | omega | rfl) (by unfold U_ball; exact if_neg (by omega)))
  · refine fn_sipush hV dX11_ball_17 rfl ?_
    exact fn_iret hR dX11_ball_20 (zMP.rfU hσ1 (by unfold S_ball; (repeat' split) <;> first | omega | rfl) (by unfold U_ball; exact if_neg (by omega)))

set_option maxHeartbeats 4000000 in
set_option maxRecDepth 20000 in
theorem c_X11_pullOf (E : fnE) (σ : fnMem) (k s : Int) (hk : 0 ≤ k ∧ k < 6) (hb : 0 ≤ σ 54 k ∧ σ 54 k ≤ 30000) (hs : 2 ≤ s ∧ s ≤ 9) : fnOk E mX11_pullOf [.ref 51, zI k, zI s] σ (fnIs (some (zI (zpb (σ 54 k) s))) σ) := by
  refine fnOk.of [.ref 51, zI k, zI s] rfl (by decide +kernel) rfl (fun V hV hR => ?_)
  replace hV : fnCx E RX11 cX11_pullOf 3 0 0 V := hV
  replace hR : fnRt cX11_pullOf (some .int) _ V := hR
  have hc := zcube hs
  refine fn_aload_0 hV dX11_pullOf_0 ?_
  refine fn_getR hV dX11_pullOf_1 fl_X11_16 fr_51_3 ?_
  refine fn_iload_1 hV dX11_pullOf_4 ?_
  refine fn_iald hV dX11_pullOf_5 ar_54 (by omega) (by omega) ?_
  refine fn_iload_2 hV dX11_pullOf_6 ?_
  refine fn_iload_2 hV dX11_pullOf_7 ?_
  refine fn_imul hV dX11_pullOf_8 ?_
  refine fn_iload_2 hV dX11_pullOf_9 ?_
  refine fn_imul hV dX11_pullOf_10 ?_
  refine fn_idivp hV dX11_pullOf_11 (by omega) (by omega) ?_
  exact fn_iret hR dX11_pullOf_12 (fnIs.i rfl)

set_option maxHeartbeats 4000000 in
set_option maxRecDepth 20000 in
theorem c_X11_ballPull (E : fnE) (σ : fnMem) (k s : Int) (hk : 0 ≤ k ∧ k < 4) (hb : 0 ≤ σ 58 k ∧ σ 58 k ≤ 20) (hs : 2 ≤ s ∧ s ≤ 20) : fnOk E mX11_ballPull [.ref 51, zI k, zI s] σ (fnIs (some (zI (zpl (σ 58 k) s))) σ) := by
  refine fnOk.of [.ref 51, zI k, zI s] rfl (by decide +kernel) rfl (fun V hV hR => ?_)
  replace hV : fnCx E RX11 cX11_ballPull 3 0 0 V := hV
  replace hR : fnRt cX11_ballPull (some .int) _ V := hR
  have m := zmul_le (a := 20 * σ 58 k) (b := σ 58 k) (A := 400) (B := 20) (by omega) (by omega) (by omega) (by omega)
  have m0 : 0 ≤ 20 * σ 58 k * σ 58 k := Int.mul_nonneg (by omega) hb.1
  refine fn_bipush hV dX11_ballPull_0 rfl ?_
  refine fn_aload_0 hV dX11_ballPull_2 ?_
  refine fn_getR hV dX11_ballPull_3 fl_X11_29 fr_51_7 ?_
  refine fn_iload_1 hV dX11_ballPull_6 ?_
  refine fn_iald hV dX11_ballPull_7 ar_58 (by omega) (by omega) ?_
  refine fn_imul hV dX11_ballPull_8 ?_
  refine fn_aload_0 hV dX11_ballPull_9 ?_
  refine fn_getR hV dX11_ballPull_10 fl_X11_29 fr_51_7 ?_
  refine fn_iload_1 hV dX11_ballPull_13 ?_
  refine fn_iald hV dX11_ballPull_14 ar_58 (by omega) (by omega) ?_
  refine fn_imul hV dX11_ballPull_15 ?_
  refine fn_iload_2 hV dX11_ballPull_16 ?_
  refine fn_idivp hV dX11_ballPull_17 (by omega) (by omega) ?_
  exact fn_iret hR dX11_ballPull_18 (fnIs.i rfl)

set_option maxHeartbeats 4000000 in
set_option maxRecDepth 20000 in
theorem c_X11_layBar (E : fnE) (σ : fnMem) (hW : zWF (mv σ)) (k : Int) (h_k : fnR k) (a : Int) (h_a : fnR a) (s : Int) (h_s : fnR s) (t : Int) (h_t : t = 0 ∨ t = 1) : fnOk E mX11_layBar [.ref 51, zI k, zI a, zI s, zI t] σ (fnQI (zMP (S_layBar (mv σ) k a s) (U_layBar (mv σ) k a s t) σ)) := by
  refine fnOk.of [.ref 51, zI k, zI a, zI s, zI t] rfl (by decide +kernel) rfl (fun V hV hR => ?_)
  replace hV : fnCx E RX11 cX11_layBar 5 1 25 V := hV
  replace hR : fnRt cX11_layBar (some .int) _ V := hR
  refine fn_aload_0 hV dX11_layBar_0 ?_
  refine fn_iconst hV dX11_layBar_1 ?_
  refine fn_putIz hV 0 dX11_layBar_2 fp_X11_96 fi_51_0 rfl ?_
  generalize hσ1 : fnUp σ 51 0 0 = σ1
  have e : ∀ k, k ≠ 51 → σ1 k = σ k := fun k hk => by rw [← hσ1, fnUp_ne _ _ _ hk]
  have e0 : ∀ j, j ≠ 0 → σ1 51 j = mv σ 0 j := fun j hj => by rw [← hσ1, fnUp_off _ _ _ hj]; rfl
  have f3 : mv σ 3 = σ1 54 := (e 54 (by decide)).symm
  have f4 : mv σ 4 = σ1 55 := (e 55 (by decide)).symm
  have f5 : mv σ 5 = σ1 56 := (e 56 (by decide)).symm
  have f6 : mv σ 6 = σ1 57 := (e 57 (by decide)).symm
  have f7 : mv σ 7 = σ1 58 := (e 58 (by decide)).symm
  obtain ⟨w1, w2, w3, w4, w5⟩ := hW.2.2.1
  rw [f3] at w1
  rw [f4, f5] at w2
  rw [f6] at w3
  rw [f7] at w4
  have g8 := e0 8 (by decide)
  have g9 := e0 9 (by decide)
  refine fn_iload_1 hV dX11_layBar_5 ?_
  refine fn_i2lr hV dX11_layBar_6 (by omega) ?_
  refine fn_lconst0 hV dX11_layBar_7 ?_
  refine fn_ldc2 hV dX11_layBar_8 co_X11_123 ?_
  refine fn_cS3 hV (c_X11_in E _ _ _ _ (by omega) (by omega) (by omega)) ms_X11_in lk_X11_117 dX11_layBar_11 ⟨rfl, rfl⟩ rfl ?_
  refine fn_ifneb hV dX11_layBar_14 (fun q14 => ?_) (fun q14 => ?_)
  · refine fn_iload_2 hV dX11_layBar_21 ?_
    refine fn_i2lr hV dX11_layBar_22 (by omega) ?_
    refine fn_lconst0 hV dX11_layBar_23 ?_
    refine fn_lconst1 hV dX11_layBar_24 ?_
    refine fn_cS3 hV (c_X11_in E _ _ _ _ (by omega) (by omega) (by omega)) ms_X11_in lk_X11_117 dX11_layBar_25 ⟨rfl, rfl⟩ rfl ?_
    refine fn_ifeqb hV dX11_layBar_28 (fun q28 => ?_) (fun q28 => ?_)
    · refine fn_sipush hV dX11_layBar_45 rfl ?_
      exact fn_iret hR dX11_layBar_48 (zMP.rfU hσ1 (by unfold S_layBar; (repeat' split) <;> first | omega | rfl) (by unfold U_layBar; exact if_neg (by omega)))
    · refine fn_iload_3 hV dX11_layBar_31 ?_
      refine fn_i2lr hV dX11_layBar_32 (by omega) ?_
      refine fn_ldc2 hV dX11_layBar_33 co_X11_99 ?_
      refine fn_ldc2 hV dX11_layBar_36 co_X11_205 ?_
      refine fn_cS3 hV (c_X11_in E _ _ _ _ (by omega) (by omega) (by omega)) ms_X11_in lk_X11_117 dX11_layBar_39 ⟨rfl, rfl⟩ rfl ?_
      refine fn_ifneb hV dX11_layBar_42 (fun q42 => ?_) (fun q42 => ?_)
      · have q1 := w1 k (by omega) (by omega)
        have f3k : mv σ 3 k = σ1 54 k := by rw [f3]
        refine fn_aload_0 hV dX11_layBar_49 ?_
        refine fn_getR hV dX11_layBar_50 fl_X11_16 fr_51_3 ?_
        refine fn_iload_1 hV dX11_layBar_53 ?_
        refine fn_iald hV dX11_layBar_54 ar_54 (by omega) (by omega) ?_
        refine fn_if_ne hV (by omega) dX11_layBar_55 (fun q55 => ?_) (fun q55 => ?_)
        · refine fn_aload_0 hV dX11_layBar_62 ?_
          refine fn_getR hV dX11_layBar_63 fl_X11_19 fr_51_4 ?_
          refine fn_iload_1 hV dX11_layBar_66 ?_
          refine fn_iload_2 hV dX11_layBar_67 ?_
          refine fn_iast hV dX11_layBar_68 ar_55 (by omega) (by omega) ?_
          refine fn_aload_0 hV dX11_layBar_69 ?_
          refine fn_getR hV dX11_layBar_70 fl_X11_22 fr_51_5 ?_
          refine fn_iload_1 hV dX11_layBar_73 ?_
          refine fn_iload_3 hV dX11_layBar_74 ?_
          refine fn_iast hV dX11_layBar_75 ar_56 (by omega) (by omega) ?_
          refine fn_aload_0 hV dX11_layBar_76 ?_
          refine fn_getR hV dX11_layBar_77 fl_X11_25 fr_51_6 ?_
          refine fn_iload_1 hV dX11_layBar_80 ?_
          refine fn_iload_4 hV dX11_layBar_81 ?_
          refine fn_bast hV dX11_layBar_83 ar_57 (by omega) (by omega) (by omega) ?_
          have e54 : fnUp (fnUp (fnUp σ1 55 k a) 56 k s) 57 k t 54 k = σ1 54 k := by rw [fnUp_ne _ _ _ (by decide), fnUp_ne _ _ _ (by decide), fnUp_ne _ _ _ (by decide)]
          refine fn_aload_0 hV dX11_layBar_84 ?_
          refine fn_iload_1 hV dX11_layBar_85 ?_
          refine fn_iload_3 hV dX11_layBar_86 ?_
          refine fn_cV2 hV (c_X11_pullOf E _ _ _ (by omega) (by omega) (by omega)) mv_X11_pullOf lk_X11_207 dX11_layBar_87 sh_51 rfl ⟨rfl, rfl⟩ rfl ?_
          exact fn_iret hR dX11_layBar_90 (zMP.up hσ1 (by unfold S_layBar; rw [if_neg (by omega), if_neg (by omega), if_neg (by omega), e54, f3k]) (fun k hk => by rw [fnUp_ne _ _ _ (by omega), fnUp_ne _ _ _ (by omega), fnUp_ne _ _ _ (by omega)]) (by rw [show U_layBar (mv σ) k a s t = fnUp (fnUp (fnUp (mv σ) 4 k a) 5 k s) 6 k t from by unfold U_layBar; exact if_pos (by omega)]; exact (((zsc0 hσ1).up 4 _ _).up 5 _ _).up 6 _ _))
        · refine fn_sipush hV dX11_layBar_58 rfl ?_
          exact fn_iret hR dX11_layBar_61 (zMP.rfU hσ1 (by unfold S_layBar; (repeat' split) <;> first | omega | rfl) (by unfold U_layBar; exact if_neg (by omega)))
      · refine fn_sipush hV dX11_layBar_45 rfl ?_
        exact fn_iret hR dX11_layBar_48 (zMP.rfU hσ1 (by unfold S_layBar; (repeat' split) <;> first | omega | rfl) (by unfold U_layBar; exact if_neg (by omega)))
  · refine fn_sipush hV dX11_layBar_17 rfl ?_
    exact fn_iret hR dX11_layBar_20 (zMP.rfU hσ1 (by unfold S_layBar; (repeat' split) <;> first | omega | rfl) (by unfold U_layBar; exact if_neg (by omega)))

set_option maxHeartbeats 4000000 in
set_option maxRecDepth 20000 in
theorem c_X11_layBall (E : fnE) (σ : fnMem) (hW : zWF (mv σ)) (k : Int) (h_k : fnR k) (s : Int) (h_s : fnR s) : fnOk E mX11_layBall [.ref 51, zI k, zI s] σ (fnQI (zMP (S_layBall (mv σ) k s) (U_layBall (mv σ) k s) σ)) := by
  refine fnOk.of [.ref 51, zI k, zI s] rfl (by decide +kernel) rfl (fun V hV hR => ?_)
  replace hV : fnCx E RX11 cX11_layBall 3 1 25 V := hV
  replace hR : fnRt cX11_layBall (some .int) _ V := hR
  refine fn_aload_0 hV dX11_layBall_0 ?_
  refine fn_iconst hV dX11_layBall_1 ?_
  refine fn_putIz hV 0 dX11_layBall_2 fp_X11_96 fi_51_0 rfl ?_
  generalize hσ1 : fnUp σ 51 0 0 = σ1
  have e : ∀ k, k ≠ 51 → σ1 k = σ k := fun k hk => by rw [← hσ1, fnUp_ne _ _ _ hk]
  have e0 : ∀ j, j ≠ 0 → σ1 51 j = mv σ 0 j := fun j hj => by rw [← hσ1, fnUp_off _ _ _ hj]; rfl
  have f3 : mv σ 3 = σ1 54 := (e 54 (by decide)).symm
  have f4 : mv σ 4 = σ1 55 := (e 55 (by decide)).symm
  have f5 : mv σ 5 = σ1 56 := (e 56 (by decide)).symm
  have f6 : mv σ 6 = σ1 57 := (e 57 (by decide)).symm
  have f7 : mv σ 7 = σ1 58 := (e 58 (by decide)).symm
  obtain ⟨w1, w2, w3, w4, w5⟩ := hW.2.2.1
  rw [f3] at w1
  rw [f4, f5] at w2
  rw [f6] at w3
  rw [f7] at w4
  have g8 := e0 8 (by decide)
  have g9 := e0 9 (by decide)
  refine fn_iload_1 hV dX11_layBall_5 ?_
  refine fn_i2lr hV dX11_layBall_6 (by omega) ?_
  refine fn_lconst0 hV dX11_layBall_7 ?_
  refine fn_ldc2 hV dX11_layBall_8 co_X11_201 ?_
  refine fn_cS3 hV (c_X11_in E _ _ _ _ (by omega) (by omega) (by omega)) ms_X11_in lk_X11_117 dX11_layBall_11 ⟨rfl, rfl⟩ rfl ?_
  refine fn_ifneb hV dX11_layBall_14 (fun q14 => ?_) (fun q14 => ?_)
  · refine fn_iload_2 hV dX11_layBall_21 ?_
    refine fn_i2lr hV dX11_layBall_22 (by omega) ?_
    refine fn_ldc2 hV dX11_layBall_23 co_X11_99 ?_
    refine fn_ldc2 hV dX11_layBall_26 co_X11_203 ?_
    refine fn_cS3 hV (c_X11_in E _ _ _ _ (by omega) (by omega) (by omega)) ms_X11_in lk_X11_117 dX11_layBall_29 ⟨rfl, rfl⟩ rfl ?_
    refine fn_ifneb hV dX11_layBall_32 (fun q32 => ?_) (fun q32 => ?_)
    · have q1 := w4 k (by omega) (by omega)
      have f7k : mv σ 7 k = σ1 58 k := by rw [f7]
      refine fn_aload_0 hV dX11_layBall_39 ?_
      refine fn_getR hV dX11_layBall_40 fl_X11_29 fr_51_7 ?_
      refine fn_iload_1 hV dX11_layBall_43 ?_
      refine fn_iald hV dX11_layBall_44 ar_58 (by omega) (by omega) ?_
      refine fn_if_eq hV (by omega) dX11_layBall_45 (fun q45 => ?_) (fun q45 => ?_)
      · refine fn_sipush hV dX11_layBall_58 rfl ?_
        exact fn_iret hR dX11_layBall_61 (zMP.rfU hσ1 (by unfold S_layBall; (repeat' split) <;> first | omega | rfl) (by unfold U_layBall; exact if_neg (by omega)))
      · refine fn_aload_0 hV dX11_layBall_48 ?_
        refine fn_getR hV dX11_layBall_49 fl_X11_29 fr_51_7 ?_
        refine fn_iload_1 hV dX11_layBall_52 ?_
        refine fn_iald hV dX11_layBall_53 ar_58 (by omega) (by omega) ?_
        refine fn_iload_2 hV dX11_layBall_54 ?_
        refine fn_icmp_le hV (by omega) (by omega) dX11_layBall_55 (fun q55 => ?_) (fun q55 => ?_)
        · refine fn_aload_0 hV dX11_layBall_62 ?_
          refine fn_iload_1 hV dX11_layBall_63 ?_
          refine fn_putIz hV 8 dX11_layBall_64 fp_X11_32 fi_51_8 rfl ?_
          refine fn_aload_0 hV dX11_layBall_67 ?_
          refine fn_iload_2 hV dX11_layBall_68 ?_
          refine fn_putIz hV 9 dX11_layBall_69 fp_X11_210 fi_51_9 rfl ?_
          have e58 : fnUp (fnUp σ1 51 8 k) 51 9 s 58 k = σ1 58 k := by rw [fnUp_ne _ _ _ (by decide), fnUp_ne _ _ _ (by decide)]
          refine fn_aload_0 hV dX11_layBall_72 ?_
          refine fn_iload_1 hV dX11_layBall_73 ?_
          refine fn_iload_2 hV dX11_layBall_74 ?_
          refine fn_cV2 hV (c_X11_ballPull E _ _ _ (by omega) (by omega) (by omega)) mv_X11_ballPull lk_X11_213 dX11_layBall_75 sh_51 rfl ⟨rfl, rfl⟩ rfl ?_
          exact fn_iret hR dX11_layBall_78 (zMP.up hσ1 (by unfold S_layBall; rw [if_neg (by omega), if_neg (by omega), if_neg (by omega), e58, f7k]) (fun k hk => by rw [fnUp_ne _ _ _ (by omega), fnUp_ne _ _ _ (by omega)]) (by rw [show U_layBall (mv σ) k s = fnUp (fnUp (mv σ) 0 8 k) 0 9 s from by unfold U_layBall; exact if_pos (by omega)]; exact ((zsc0 hσ1).up 0 _ _).up 0 _ _))
        · refine fn_sipush hV dX11_layBall_58 rfl ?_
          exact fn_iret hR dX11_layBall_61 (zMP.rfU hσ1 (by unfold S_layBall; (repeat' split) <;> first | omega | rfl) (by unfold U_layBall; exact if_neg (by omega)))
    · refine fn_sipush hV dX11_layBall_35 rfl ?_
      exact fn_iret hR dX11_layBall_38 (zMP.rfU hσ1 (by unfold S_layBall; (repeat' split) <;> first | omega | rfl) (by unfold U_layBall; exact if_neg (by omega)))
  · refine fn_sipush hV dX11_layBall_17 rfl ?_
    exact fn_iret hR dX11_layBall_20 (zMP.rfU hσ1 (by unfold S_layBall; (repeat' split) <;> first | omega | rfl) (by unfold U_layBall; exact if_neg (by omega)))

set_option maxHeartbeats 4000000 in
set_option maxRecDepth 20000 in
theorem c_X11_laid (E : fnE) (σ : fnMem) (μ : fnMem) (hM : fnSc μ (mv σ)) (hW : zWF μ)  : fnOk E mX11_laid [.ref 51] σ (fnIs (some (zI (zlaid μ))) σ) := by
  refine fnOk.of [.ref 51, .null, .null] rfl (by decide +kernel) rfl (fun V hV hR => ?_)
  replace hV : fnCx E RX11 cX11_laid 3 0 0 V := hV
  replace hR : fnRt cX11_laid (some .int) _ V := hR
  obtain ⟨w1, w2, w3, w4, w5⟩ := hW.2.2.1
  have f3 : σ 54 = μ 3 := hM.c (k := 3) (by decide) (by decide)
  have f4 : σ 55 = μ 4 := hM.c (k := 4) (by decide) (by decide)
  have f5 : σ 56 = μ 5 := hM.c (k := 5) (by decide) (by decide)
  have f6 : σ 57 = μ 6 := hM.c (k := 6) (by decide) (by decide)
  have f7 : σ 58 = μ 7 := hM.c (k := 7) (by decide) (by decide)
  have f1 : σ 52 = μ 1 := hM.c (k := 1) (by decide) (by decide)
  have g8 : σ 51 8 = μ 0 8 := hM.f (by decide) (by decide)
  have g9 : σ 51 9 = μ 0 9 := hM.f (by decide) (by decide)
  refine fn_aload_0 hV dX11_laid_0 ?_
  refine fn_getIz hV 8 dX11_laid_1 fl_X11_32 fi_51_8 rfl ?_
  refine fn_sipush hV dX11_laid_4 rfl ?_
  refine fn_t_icmp_ne hV (by omega) (by omega) dX11_laid_7 dX11_laid_10 dX11_laid_11 dX11_laid_14 ?_
  refine fn_istore_1 hV dX11_laid_15 rfl rfl ?_
  refine fn_iconst hV dX11_laid_16 ?_
  refine fn_istore_2 hV dX11_laid_17 rfl rfl ?_
  have L : ∀ k : Nat, k ≤ 6 → ∀ (i a : Int), True → (i = k) → (a = (if μ 0 8 ≠ -2009 then 1 else 0) + zsum (fun k => if μ 4 k ≠ -2009 then 1 else 0) k) → V 18 [.ref 51, zI a, zI i] [] σ := by
    refine fn_rec (fun k hk ihL => ?_)
    intro i a _ hi ha
    refine fn_iload_2 hV dX11_laid_18 ?_
    refine fn_bipush hV dX11_laid_19 rfl ?_
    refine fn_icmp_ge hV (by omega) (by omega) dX11_laid_21 (fun q21 => ?_) (fun q21 => ?_)
    · refine fn_iload_1 hV dX11_laid_50 ?_
      exact fn_iret hR dX11_laid_51 (fnIs.i (by unfold zlaid; rw [ha, show k = 6 by omega]))
    · have q2 := w2 i (by omega) (by omega)
      rw [← f4] at q2
      refine fn_iload_1 hV dX11_laid_24 ?_
      refine fn_aload_0 hV dX11_laid_25 ?_
      refine fn_getR hV dX11_laid_26 fl_X11_19 fr_51_4 ?_
      refine fn_iload_2 hV dX11_laid_29 ?_
      refine fn_iald hV dX11_laid_30 ar_55 (by omega) (by omega) ?_
      refine fn_sipush hV dX11_laid_31 rfl ?_
      refine fn_t_icmp_ne hV (by omega) (by omega) dX11_laid_34 dX11_laid_37 dX11_laid_38 dX11_laid_41 ?_
      refine fn_iadd hV dX11_laid_42 ?_
      refine fn_istore_1 hV dX11_laid_43 rfl rfl ?_
      refine fn_iinc_2 hV dX11_laid_44 rfl rfl ?_
      refine fn_goto hV dX11_laid_47 ?_
      exact ihL (k + 1) (by omega) (by omega) _ _ trivial (by omega) (by rw [zsum_s, ← hi, ha, f4]; omega)
  exact L 0 (by omega) _ _ trivial (by omega) (by rw [g8]; simp [zsum])

set_option maxHeartbeats 4000000 in
set_option maxRecDepth 20000 in
theorem c_X11_lifted (E : fnE) (σ : fnMem) (μ : fnMem) (hM : fnSc μ (mv σ)) (hW : zWF μ)  : fnOk E mX11_lifted [.ref 51] σ (fnQI (fun z s => z = zlaid μ ∧ fnFr [51, 55] σ s ∧ s 51 = fnUp σ 51 8 (-2009) 51 ∧ fnSc (U_lift μ) (mv s))) := by
  refine fnOk.of [.ref 51, .null, .null] rfl (by decide +kernel) rfl (fun V hV hR => ?_)
  replace hV : fnCx E RX11 cX11_lifted 3 1 22 V := hV
  replace hR : fnRt cX11_lifted (some .int) _ V := hR
  obtain ⟨w1, w2, w3, w4, w5⟩ := hW.2.2.1
  have f3 : σ 54 = μ 3 := hM.c (k := 3) (by decide) (by decide)
  have f4 : σ 55 = μ 4 := hM.c (k := 4) (by decide) (by decide)
  have f5 : σ 56 = μ 5 := hM.c (k := 5) (by decide) (by decide)
  have f6 : σ 57 = μ 6 := hM.c (k := 6) (by decide) (by decide)
  have f7 : σ 58 = μ 7 := hM.c (k := 7) (by decide) (by decide)
  have f1 : σ 52 = μ 1 := hM.c (k := 1) (by decide) (by decide)
  have g8 : σ 51 8 = μ 0 8 := hM.f (by decide) (by decide)
  have g9 : σ 51 9 = μ 0 9 := hM.f (by decide) (by decide)
  refine fn_aload_0 hV dX11_lifted_0 ?_
  refine fn_cV0 hV (c_X11_laid E _ μ hM hW) mv_X11_laid lk_X11_216 dX11_lifted_1 sh_51 rfl ⟨rfl, rfl⟩ rfl ?_
  refine fn_istore_1 hV dX11_lifted_4 rfl rfl ?_
  refine fn_aload_0 hV dX11_lifted_5 ?_
  refine fn_sipush hV dX11_lifted_6 rfl ?_
  refine fn_putIz hV 8 dX11_lifted_9 fp_X11_32 fi_51_8 rfl ?_
  refine fn_iconst hV dX11_lifted_12 ?_
  refine fn_istore_2 hV dX11_lifted_13 rfl rfl ?_
  have L : ∀ k : Nat, k ≤ 6 → ∀ (i : Int) (σ1 : fnMem), True → (i = k) → (fnFr [51, 55] σ σ1) → (σ1 51 = fnUp σ 51 8 (-2009) 51) → (∀ j, σ1 55 j = if 0 ≤ j ∧ j < i then -2009 else σ 55 j) → V 14 [.ref 51, zI (zlaid μ), zI i] [] σ1 := by
    refine fn_rec (fun k hk ihL => ?_)
    intro i σ1 _ hi hF h51 h55
    refine fn_iload_2 hV dX11_lifted_14 ?_
    refine fn_bipush hV dX11_lifted_15 rfl ?_
    refine fn_icmp_ge hV (by omega) (by omega) dX11_lifted_17 (fun q17 => ?_) (fun q17 => ?_)
    · refine fn_iload_1 hV dX11_lifted_35 ?_
      exact fn_iret hR dX11_lifted_36 (fnQI.mk ⟨rfl, hF, h51, fun a j ha hj => by
      show σ1 (51 + a) j = U_lift μ a j
      unfold U_lift
      by_cases h4 : a = 4
      · subst h4
        rw [fnSt_same, show σ1 (51 + 4) j = σ1 55 j from rfl, h55, show i = 6 by omega, f4]
      · rw [fnSt_ne _ _ h4]
        by_cases h0 : a = 0
        · subst h0
          rw [show σ1 (51 + 0) j = σ1 51 j from rfl, h51, fnUp_ap, fnUp_ap]
          split
          · rfl
          · exact hM.f (by omega) (by omega)
        · rw [fnUp_ne _ _ _ h0, hF (51 + a) (by simp; omega)]
          exact hM a j ha hj⟩)
    · refine fn_aload_0 hV dX11_lifted_20 ?_
      refine fn_getR hV dX11_lifted_21 fl_X11_19 fr_51_4 ?_
      refine fn_iload_2 hV dX11_lifted_24 ?_
      refine fn_sipush hV dX11_lifted_25 rfl ?_
      refine fn_iast hV dX11_lifted_28 ar_55 (by omega) (by omega) ?_
      refine fn_iinc_2 hV dX11_lifted_29 rfl rfl ?_
      refine fn_goto hV dX11_lifted_32 ?_
      exact ihL (k + 1) (by omega) (by omega) _ _ trivial (by omega) (hF.up (by decide)) (by rw [fnUp_ne _ _ _ (by decide)]; exact h51) (fun j => by
      rw [fnUp_ap, h55]
      by_cases q : j = i
      · rw [if_pos q, if_pos (by omega)]
      · rw [if_neg q]
        by_cases q1 : 0 ≤ j ∧ j < i
        · rw [if_pos q1, if_pos (by omega)]
        · rw [if_neg q1, if_neg (by omega)])
  exact L 0 (by omega) _ _ trivial (by omega) (fnFr.rf.up (by decide)) rfl (fun j => by rw [fnUp_ne _ _ _ (by decide), if_neg (by omega)])

set_option maxHeartbeats 4000000 in
set_option maxRecDepth 20000 in
theorem c_X11_takeUp (E : fnE) (σ : fnMem) (hW : zWF (mv σ))  : fnOk E mX11_takeUp [.ref 51] σ (fnQI (zMP (zlaid (mv σ)) (U_lift (mv σ)) σ)) := by
  refine fnOk.of [.ref 51] rfl (by decide +kernel) rfl (fun V hV hR => ?_)
  replace hV : fnCx E RX11 cX11_takeUp 1 2 44 V := hV
  replace hR : fnRt cX11_takeUp (some .int) _ V := hR
  refine fn_aload_0 hV dX11_takeUp_0 ?_
  refine fn_iconst hV dX11_takeUp_1 ?_
  refine fn_putIz hV 0 dX11_takeUp_2 fp_X11_96 fi_51_0 rfl ?_
  generalize hσ1 : fnUp σ 51 0 0 = σ1
  have e : ∀ k, k ≠ 51 → σ1 k = σ k := fun k hk => by rw [← hσ1, fnUp_ne _ _ _ hk]
  have e0 : ∀ j, j ≠ 0 → σ1 51 j = mv σ 0 j := fun j hj => by rw [← hσ1, fnUp_off _ _ _ hj]; rfl
  refine fn_aload_0 hV dX11_takeUp_5 ?_
  refine fn_cV0I hV (c_X11_lifted E _ (mv σ) (zsc0 hσ1) hW) mv_X11_lifted lk_X11_220 dX11_takeUp_6 sh_51 rfl ⟨rfl, rfl⟩ rfl (fun z σ2 hp => ?_)
  obtain ⟨rfl, lF, -, lS⟩ := hp
  exact fn_iret hR dX11_takeUp_9 (zMP.up hσ1 rfl (fun k hk => lF k (by simp; omega)) lS)
