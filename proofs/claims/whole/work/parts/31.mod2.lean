/-- the model has set its first place; what it reads of its cells is as before -/
theorem zMP.fr {S z : Int} {σ σ1 σ2 : fnMem} (h : fnUp σ 51 0 0 = σ1) (hF : fnFr [73, 74, 75, 76, 77, 78] σ1 σ2) (hz : z = S) : fnQI (zMP S (mv σ) σ) (some (zI z)) σ2 := by
  subst h
  refine ⟨z, rfl, hz, fun k j hk hj => ?_, fun k hk => by rw [hF k (by simp; omega), fnUp_ne _ _ _ (by omega)]⟩
  show σ2 (51 + k) j = σ (51 + k) j
  rw [hF (51 + k) (by simp; omega)]
  by_cases h0 : k = 0
  · subst h0
    exact fnUp_off _ _ _ (by omega)
  · rw [fnUp_ne _ _ _ (by omega)]
theorem zMP.rf {S z : Int} {σ σ1 : fnMem} (h : fnUp σ 51 0 0 = σ1) (hz : z = S) : fnQI (zMP S (mv σ) σ) (some (zI z)) σ1 := zMP.fr h fnFr.rf hz
theorem zMP.rfU {S z : Int} {σ σ1 μ1 : fnMem} (h : fnUp σ 51 0 0 = σ1) (hz : z = S) (hu : μ1 = mv σ) : fnQI (zMP S μ1 σ) (some (zI z)) σ1 := by
  rw [hu]
  exact zMP.rf h hz
/-- a place of a live cell is written -/
theorem zMP.up {S z : Int} {σ σ1 σ2 μ1 : fnMem} (h : fnUp σ 51 0 0 = σ1) (hz : z = S) (hs : ∀ k, k < 51 → σ2 k = σ1 k) (hu : fnSc μ1 (mv σ2)) : fnQI (zMP S μ1 σ) (some (zI z)) σ2 := by
  subst h
  exact ⟨z, rfl, hz, hu, fun k hk => by rw [hs k hk, fnUp_ne _ _ _ (by omega)]⟩
theorem zsc_up1 {σ σ1 : fnMem} (h : fnUp σ 51 0 0 = σ1) (k : Nat) (hk : 1 ≤ k ∧ k < 22) (i v : Int) : fnSc (fnUp (mv σ) k i v) (mv (fnUp σ1 (51 + k) i v)) := by
  subst h
  intro a j ha hj
  show fnUp (fnUp σ 51 0 0) (51 + k) i v (51 + a) j = fnUp (mv σ) k i v a j
  by_cases h1 : a = k
  · subst h1
    rw [fnUp_ap, fnUp_ap, fnUp_ne _ _ _ (by omega)]
    rfl
  · rw [fnUp_ne _ _ _ (by omega), fnUp_ne _ _ _ h1]
    by_cases h0 : a = 0
    · subst h0
      exact fnUp_off _ _ _ (by omega)
    · rw [fnUp_ne _ _ _ (by omega)]
      rfl
def zwJ (F : Int → Int) (k : Nat) (w : Int) : Prop := (k = 0 ∧ w = 0) ∨ (0 < k ∧ w = zabs (F (zwst F (k - 1))))
theorem zwst_s (F : Int → Int) (n : Nat) : zwst F (n + 1) = if zabs (F (zwst F n)) < zabs (F ((n + 1 : Nat) : Int)) then ((n + 1 : Nat) : Int) else zwst F n := rfl
theorem zwJ.a {F : Int → Int} {k : Nat} {w i : Int} (hi : i = k) (h : zwJ F k w) (q : zabs (F i) ≤ w) : zwJ F (k + 1) w := by
  rcases h with ⟨h1, h2⟩ | ⟨h1, h2⟩
  · subst h1
    refine Or.inr ⟨by omega, ?_⟩
    have := zabs_nn (F i)
    rw [show zwst F (0 + 1 - 1) = 0 from rfl, ← show i = 0 by omega]
    omega
  · obtain ⟨n, rfl⟩ : ∃ n, k = n + 1 := ⟨k - 1, by omega⟩
    rw [Nat.add_sub_cancel] at h2
    refine Or.inr ⟨by omega, ?_⟩
    rw [Nat.add_sub_cancel, zwst_s, if_neg (by rw [← h2, ← hi]; omega)]
    exact h2
theorem zwJ.b {F : Int → Int} {k : Nat} {w i : Int} (hi : i = k) (h : zwJ F k w) (q : w < zabs (F i)) : zwJ F (k + 1) (zabs (F i)) := by
  rcases h with ⟨h1, h2⟩ | ⟨h1, h2⟩
  · subst h1
    refine Or.inr ⟨by omega, ?_⟩
    rw [show zwst F (0 + 1 - 1) = 0 from rfl, ← show i = 0 by omega]
  · obtain ⟨n, rfl⟩ : ∃ n, k = n + 1 := ⟨k - 1, by omega⟩
    rw [Nat.add_sub_cancel] at h2
    refine Or.inr ⟨by omega, ?_⟩
    rw [Nat.add_sub_cancel, zwst_s, if_pos (by rw [← h2, ← hi]; omega), hi]
theorem zwst_cg {F G : Int → Int} (h : ∀ x, 0 ≤ x → x < 32 → F x = G x) : ∀ n : Nat, n < 32 → zwst F n = zwst G n
  | 0, _ => rfl
  | n + 1, hn => by
    have hb := zwst_in G n
    rw [zwst_s, zwst_s, zwst_cg h n (by omega), h (zwst G n) (by omega) (by omega), h ((n + 1 : Nat) : Int) (by omega) (by omega)]

set_option maxHeartbeats 4000000 in
set_option maxRecDepth 20000 in
theorem c_X11_sine (E : fnE) (σ : fnMem) (hW : zWF (mv σ)) (r : Int) (h_r : fnR r) (co : Int) (h_co : co = 0 ∨ co = 1) : fnOk E mX11_sine [.ref 51, zI r, zI co] σ (fnQI (zMP (S_sine r co) (mv σ) σ)) := by
  refine fnOk.of [.ref 51, zI r, zI co] rfl (by decide +kernel) rfl (fun V hV hR => ?_)
  replace hV : fnCx E RX11 cX11_sine 3 3 66 V := hV
  replace hR : fnRt cX11_sine (some .int) _ V := hR
  refine fn_aload_0 hV dX11_sine_0 ?_
  refine fn_iconst hV dX11_sine_1 ?_
  refine fn_putIz hV 0 dX11_sine_2 fp_X11_96 fi_51_0 rfl ?_
  generalize hσ1 : fnUp σ 51 0 0 = σ1
  have e : ∀ k, k ≠ 51 → σ1 k = σ k := fun k hk => by rw [← hσ1, fnUp_ne _ _ _ hk]
  have e0 : ∀ j, j ≠ 0 → σ1 51 j = mv σ 0 j := fun j hj => by rw [← hσ1, fnUp_off _ _ _ hj]; rfl
  refine fn_iload_1 hV dX11_sine_5 ?_
  refine fn_cS1 hV (c_X11_noRound E _ _ (by omega)) ms_X11_noRound lk_X11_144 dX11_sine_6 ⟨rfl, rfl⟩ rfl ?_
  refine fn_ifeqn hV dX11_sine_9 (fun q9 => ?_) (fun q9 => ?_)
  · refine fn_iload_2 hV dX11_sine_18 ?_
    refine fn_if_eq hV (by omega) dX11_sine_19 (fun q19 => ?_) (fun q19 => ?_)
    · refine fn_iload_1 hV dX11_sine_34 ?_
      refine fn_cS1 hV (c_X11_sineAt E _ _ (by omega)) ms_X11_sineAt lk_X11_148 dX11_sine_35 ⟨rfl, rfl⟩ rfl ?_
      exact fn_iret hR dX11_sine_38 (zMP.rf hσ1 (by unfold S_sine; first | (rw [if_neg (by omega)]; done) | (rw [if_pos (by omega), if_pos (by omega)]; rfl) | (rw [if_pos (by omega), if_neg (by omega)]; done)))
    · refine fn_iload_1 hV dX11_sine_22 ?_
      refine fn_sipush hV dX11_sine_23 rfl ?_
      refine fn_iadd hV dX11_sine_26 ?_
      refine fn_sipush hV dX11_sine_27 rfl ?_
      refine fn_iremp hV dX11_sine_30 (by omega) (by omega) ?_
      refine fn_goto hV dX11_sine_31 ?_
      refine fn_cS1 hV (c_X11_sineAt E _ _ (by omega)) ms_X11_sineAt lk_X11_148 dX11_sine_35 ⟨rfl, rfl⟩ rfl ?_
      exact fn_iret hR dX11_sine_38 (zMP.rf hσ1 (by unfold S_sine; first | (rw [if_neg (by omega)]; done) | (rw [if_pos (by omega), if_pos (by omega)]; rfl) | (rw [if_pos (by omega), if_neg (by omega)]; done)))
  · refine fn_sipush hV dX11_sine_12 rfl ?_
    refine fn_goto hV dX11_sine_15 ?_
    exact fn_iret hR dX11_sine_38 (zMP.rf hσ1 (by unfold S_sine; first | (rw [if_neg (by omega)]; done) | (rw [if_pos (by omega), if_pos (by omega)]; rfl) | (rw [if_pos (by omega), if_neg (by omega)]; done)))

set_option maxHeartbeats 4000000 in
set_option maxRecDepth 20000 in
theorem c_X11_way (E : fnE) (σ : fnMem) (hW : zWF (mv σ)) (a : Int) (h_a : fnR a) (b : Int) (h_b : fnR b) : fnOk E mX11_way [.ref 51, zI a, zI b] σ (fnQI (zMP (S_way a b) (mv σ) σ)) := by
  refine fnOk.of [.ref 51, zI a, zI b] rfl (by decide +kernel) rfl (fun V hV hR => ?_)
  replace hV : fnCx E RX11 cX11_way 3 2 45 V := hV
  replace hR : fnRt cX11_way (some .int) _ V := hR
  refine fn_aload_0 hV dX11_way_0 ?_
  refine fn_iconst hV dX11_way_1 ?_
  refine fn_putIz hV 0 dX11_way_2 fp_X11_96 fi_51_0 rfl ?_
  generalize hσ1 : fnUp σ 51 0 0 = σ1
  have e : ∀ k, k ≠ 51 → σ1 k = σ k := fun k hk => by rw [← hσ1, fnUp_ne _ _ _ hk]
  have e0 : ∀ j, j ≠ 0 → σ1 51 j = mv σ 0 j := fun j hj => by rw [← hσ1, fnUp_off _ _ _ hj]; rfl
  refine fn_iload_1 hV dX11_way_5 ?_
  refine fn_cS1 hV (c_X11_noRound E _ _ (by omega)) ms_X11_noRound lk_X11_144 dX11_way_6 ⟨rfl, rfl⟩ rfl ?_
  refine fn_ifnen hV dX11_way_9 (fun q9 => ?_) (fun q9 => ?_)
  · refine fn_sipush hV dX11_way_19 rfl ?_
    refine fn_goto hV dX11_way_22 ?_
    exact fn_iret hR dX11_way_30 (zMP.rf hσ1 (by unfold S_way; first | (rw [if_neg (by omega)]; done) | (rw [if_pos (by omega)]; done)))
  · refine fn_iload_2 hV dX11_way_12 ?_
    refine fn_cS1 hV (c_X11_noRound E _ _ (by omega)) ms_X11_noRound lk_X11_144 dX11_way_13 ⟨rfl, rfl⟩ rfl ?_
    refine fn_ifeqn hV dX11_way_16 (fun q16 => ?_) (fun q16 => ?_)
    · refine fn_iload_1 hV dX11_way_25 ?_
      refine fn_iload_2 hV dX11_way_26 ?_
      refine fn_cS2 hV (c_X11_wayOf E _ _ _ (by omega) (by omega)) ms_X11_wayOf lk_X11_151 dX11_way_27 ⟨rfl, rfl⟩ rfl ?_
      exact fn_iret hR dX11_way_30 (zMP.rf hσ1 (by unfold S_way; first | (rw [if_neg (by omega)]; done) | (rw [if_pos (by omega)]; done)))
    · refine fn_sipush hV dX11_way_19 rfl ?_
      refine fn_goto hV dX11_way_22 ?_
      exact fn_iret hR dX11_way_30 (zMP.rf hσ1 (by unfold S_way; first | (rw [if_neg (by omega)]; done) | (rw [if_pos (by omega)]; done)))

set_option maxHeartbeats 4000000 in
set_option maxRecDepth 20000 in
theorem c_X11_part (E : fnE) (σ : fnMem) (hW : zWF (mv σ)) (c0 : Int) (h_c0 : fnR c0) (p : Int) (h_p : fnR p) (v : Int) (h_v : fnR v) : fnOk E mX11_part [.ref 51, zI c0, zI p, zI v] σ (fnQI (zMP (S_part (mv σ) c0 p v) (U_part (mv σ) c0 p v) σ)) := by
  refine fnOk.of [.ref 51, zI c0, zI p, zI v, .null] rfl (by decide +kernel) rfl (fun V hV hR => ?_)
  replace hV : fnCx E RX11 cX11_part 5 2 45 V := hV
  replace hR : fnRt cX11_part (some .int) _ V := hR
  refine fn_aload_0 hV dX11_part_0 ?_
  refine fn_iconst hV dX11_part_1 ?_
  refine fn_putIz hV 0 dX11_part_2 fp_X11_96 fi_51_0 rfl ?_
  generalize hσ1 : fnUp σ 51 0 0 = σ1
  have e : ∀ k, k ≠ 51 → σ1 k = σ k := fun k hk => by rw [← hσ1, fnUp_ne _ _ _ hk]
  have e0 : ∀ j, j ≠ 0 → σ1 51 j = mv σ 0 j := fun j hj => by rw [← hσ1, fnUp_off _ _ _ hj]; rfl
  have f1 : mv σ 1 = σ1 52 := (e 52 (by decide)).symm
  refine fn_iload_1 hV dX11_part_5 ?_
  refine fn_cS1 hV (c_X11_noCompass E _ _ (by omega)) ms_X11_noCompass lk_X11_154 dX11_part_6 ⟨rfl, rfl⟩ rfl ?_
  refine fn_ifnen hV dX11_part_9 (fun q9 => ?_) (fun q9 => ?_)
  · refine fn_sipush hV dX11_part_19 rfl ?_
    exact fn_iret hR dX11_part_22 (zMP.rfU hσ1 (by unfold S_part; (repeat' split) <;> first | omega | rfl) (by unfold U_part; exact if_neg (by omega)))
  · refine fn_iload_2 hV dX11_part_12 ?_
    refine fn_cS1 hV (c_X11_noPart E _ _ (by omega)) ms_X11_noPart lk_X11_157 dX11_part_13 ⟨rfl, rfl⟩ rfl ?_
    refine fn_ifeqn hV dX11_part_16 (fun q16 => ?_) (fun q16 => ?_)
    · refine fn_iload_3 hV dX11_part_23 ?_
      refine fn_i2lr hV dX11_part_24 (by omega) ?_
      refine fn_ldc2 hV dX11_part_25 co_X11_160 ?_
      refine fn_ldc2 hV dX11_part_28 co_X11_129 ?_
      refine fn_cS3 hV (c_X11_in E _ _ _ _ (by omega) (by omega) (by omega)) ms_X11_in lk_X11_117 dX11_part_31 ⟨rfl, rfl⟩ rfl ?_
      refine fn_ifneb hV dX11_part_34 (fun q34 => ?_) (fun q34 => ?_)
      · refine fn_aload_0 hV dX11_part_41 ?_
        refine fn_getR hV dX11_part_42 fl_X11_7 fr_51_1 ?_
        refine fn_bipush hV dX11_part_45 rfl ?_
        refine fn_iload_1 hV dX11_part_47 ?_
        refine fn_imul hV dX11_part_48 ?_
        refine fn_iload_2 hV dX11_part_49 ?_
        refine fn_iadd hV dX11_part_50 ?_
        refine fn_iald hV dX11_part_51 ar_52 (by omega) (by omega) ?_
        refine fn_istore_4 hV dX11_part_52 rfl rfl ?_
        refine fn_aload_0 hV dX11_part_54 ?_
        refine fn_getR hV dX11_part_55 fl_X11_7 fr_51_1 ?_
        refine fn_bipush hV dX11_part_58 rfl ?_
        refine fn_iload_1 hV dX11_part_60 ?_
        refine fn_imul hV dX11_part_61 ?_
        refine fn_iload_2 hV dX11_part_62 ?_
        refine fn_iadd hV dX11_part_63 ?_
        refine fn_iload_3 hV dX11_part_64 ?_
        refine fn_iast hV dX11_part_65 ar_52 (by omega) (by omega) ?_
        refine fn_iload_4 hV dX11_part_66 ?_
        exact fn_iret hR dX11_part_68 (zMP.up hσ1 (by unfold S_part; rw [if_neg (by omega), if_neg (by omega), f1]) (fun k hk => fnUp_ne _ _ _ (by omega)) (by rw [show U_part (mv σ) c0 p v = fnUp (mv σ) 1 (6 * c0 + p) v from by unfold U_part; exact if_pos (by omega)]; exact zsc_up1 hσ1 1 (by decide) _ _))
      · refine fn_sipush hV dX11_part_37 rfl ?_
        exact fn_iret hR dX11_part_40 (zMP.rfU hσ1 (by unfold S_part; (repeat' split) <;> first | omega | rfl) (by unfold U_part; exact if_neg (by omega)))
    · refine fn_sipush hV dX11_part_19 rfl ?_
      exact fn_iret hR dX11_part_22 (zMP.rfU hσ1 (by unfold S_part; (repeat' split) <;> first | omega | rfl) (by unfold U_part; exact if_neg (by omega)))

set_option maxHeartbeats 4000000 in
set_option maxRecDepth 20000 in
theorem c_X11_told (E : fnE) (σ : fnMem) (hW : zWF (mv σ)) (c0 : Int) (h_c0 : fnR c0) (p : Int) (h_p : fnR p) : fnOk E mX11_told [.ref 51, zI c0, zI p] σ (fnQI (zMP (S_told (mv σ) c0 p) (mv σ) σ)) := by
  refine fnOk.of [.ref 51, zI c0, zI p] rfl (by decide +kernel) rfl (fun V hV hR => ?_)
  replace hV : fnCx E RX11 cX11_told 3 2 45 V := hV
  replace hR : fnRt cX11_told (some .int) _ V := hR
  refine fn_aload_0 hV dX11_told_0 ?_
  refine fn_iconst hV dX11_told_1 ?_
  refine fn_putIz hV 0 dX11_told_2 fp_X11_96 fi_51_0 rfl ?_
  generalize hσ1 : fnUp σ 51 0 0 = σ1
  have e : ∀ k, k ≠ 51 → σ1 k = σ k := fun k hk => by rw [← hσ1, fnUp_ne _ _ _ hk]
  have e0 : ∀ j, j ≠ 0 → σ1 51 j = mv σ 0 j := fun j hj => by rw [← hσ1, fnUp_off _ _ _ hj]; rfl
  have f1 : mv σ 1 = σ1 52 := (e 52 (by decide)).symm
  refine fn_iload_1 hV dX11_told_5 ?_
  refine fn_cS1 hV (c_X11_noCompass E _ _ (by omega)) ms_X11_noCompass lk_X11_154 dX11_told_6 ⟨rfl, rfl⟩ rfl ?_
  refine fn_ifnen hV dX11_told_9 (fun q9 => ?_) (fun q9 => ?_)
  · refine fn_sipush hV dX11_told_19 rfl ?_
    refine fn_goto hV dX11_told_22 ?_
    exact fn_iret hR dX11_told_36 (zMP.rf hσ1 (by unfold S_told; first | (rw [if_neg (by omega)]; done) | (rw [if_pos (by omega), f1]; done)))
  · refine fn_iload_2 hV dX11_told_12 ?_
    refine fn_cS1 hV (c_X11_noPart E _ _ (by omega)) ms_X11_noPart lk_X11_157 dX11_told_13 ⟨rfl, rfl⟩ rfl ?_
    refine fn_ifeqn hV dX11_told_16 (fun q16 => ?_) (fun q16 => ?_)
    · refine fn_aload_0 hV dX11_told_25 ?_
      refine fn_getR hV dX11_told_26 fl_X11_7 fr_51_1 ?_
      refine fn_bipush hV dX11_told_29 rfl ?_
      refine fn_iload_1 hV dX11_told_31 ?_
      refine fn_imul hV dX11_told_32 ?_
      refine fn_iload_2 hV dX11_told_33 ?_
      refine fn_iadd hV dX11_told_34 ?_
      refine fn_iald hV dX11_told_35 ar_52 (by omega) (by omega) ?_
      exact fn_iret hR dX11_told_36 (zMP.rf hσ1 (by unfold S_told; first | (rw [if_neg (by omega)]; done) | (rw [if_pos (by omega), f1]; done)))
    · refine fn_sipush hV dX11_told_19 rfl ?_
      refine fn_goto hV dX11_told_22 ?_
      exact fn_iret hR dX11_told_36 (zMP.rf hσ1 (by unfold S_told; first | (rw [if_neg (by omega)]; done) | (rw [if_pos (by omega), f1]; done)))

set_option maxHeartbeats 4000000 in
set_option maxRecDepth 20000 in
theorem c_X11_error (E : fnE) (σ : fnMem) (hW : zWF (mv σ)) (c0 : Int) (h_c0 : fnR c0) (h : Int) (h_h : fnR h) (g : Int) (h_g : fnR g) : fnOk E mX11_error [.ref 51, zI c0, zI h, zI g] σ (fnQI (zMP (S_error (mv σ) c0 h g) (mv σ) σ)) := by
  refine fnOk.of [.ref 51, zI c0, zI h, zI g] rfl (by decide +kernel) rfl (fun V hV hR => ?_)
  replace hV : fnCx E RX11 cX11_error 4 4 90 V := hV
  replace hR : fnRt cX11_error (some .int) _ V := hR
  refine fn_aload_0 hV dX11_error_0 ?_
  refine fn_iconst hV dX11_error_1 ?_
  refine fn_putIz hV 0 dX11_error_2 fp_X11_96 fi_51_0 rfl ?_
  generalize hσ1 : fnUp σ 51 0 0 = σ1
  have e : ∀ k, k ≠ 51 → σ1 k = σ k := fun k hk => by rw [← hσ1, fnUp_ne _ _ _ hk]
  have e0 : ∀ j, j ≠ 0 → σ1 51 j = mv σ 0 j := fun j hj => by rw [← hσ1, fnUp_off _ _ _ hj]; rfl
  have f1 : mv σ 1 = σ1 52 := (e 52 (by decide)).symm
  have hp1 : ∀ i : Int, 0 ≤ i → i < 18 → -999 ≤ σ1 52 i ∧ σ1 52 i ≤ 999 := by rw [← f1]; exact hW.1
  refine fn_iload_1 hV dX11_error_5 ?_
  refine fn_cS1 hV (c_X11_noCompass E _ _ (by omega)) ms_X11_noCompass lk_X11_154 dX11_error_6 ⟨rfl, rfl⟩ rfl ?_
  refine fn_ifnen hV dX11_error_9 (fun q9 => ?_) (fun q9 => ?_)
  · refine fn_sipush hV dX11_error_19 rfl ?_
    exact fn_iret hR dX11_error_22 (zMP.rf hσ1 (by unfold S_error; (repeat' split) <;> first | omega | rfl))
  · refine fn_iload_2 hV dX11_error_12 ?_
    refine fn_cS1 hV (c_X11_noHeading E _ _ (by omega)) ms_X11_noHeading lk_X11_162 dX11_error_13 ⟨rfl, rfl⟩ rfl ?_
    refine fn_ifeqn hV dX11_error_16 (fun q16 => ?_) (fun q16 => ?_)
    · refine fn_iload_3 hV dX11_error_23 ?_
      refine fn_cS1 hV (c_X11_noHeel E _ _ (by omega)) ms_X11_noHeel lk_X11_165 dX11_error_24 ⟨rfl, rfl⟩ rfl ?_
      refine fn_ifeqn hV dX11_error_27 (fun q27 => ?_) (fun q27 => ?_)
      · refine fn_aload_0 hV dX11_error_34 ?_
        refine fn_iload_1 hV dX11_error_35 ?_
        refine fn_cV1Q hV (c_X11_take E _ _ (by omega)) mv_X11_take lk_X11_168 dX11_error_36 sh_51 rfl ⟨rfl, rfl⟩ rfl (fun σ2 hp => ?_)
        obtain ⟨tF, tv⟩ := hp
        have hP : ∀ j, 0 ≤ j → j < 6 → -32000 ≤ σ2 73 j ∧ σ2 73 j ≤ 32000 := fun j j0 j1 => by
          have := hp1 (6 * c0 + j) (by omega) (by omega)
          rw [tv j j0 j1]
          omega
        have hv : ∀ j, 0 ≤ j → j < 6 → σ2 73 j = vP (mv σ) c0 j := fun j j0 j1 => by rw [tv j j0 j1, ← f1]; rfl
        refine fn_aload_0 hV dX11_error_39 ?_
        refine fn_iload_2 hV dX11_error_40 ?_
        refine fn_iload_3 hV dX11_error_41 ?_
        refine fn_cV2 hV (c_X11_errorOf E _ hP _ _ (by omega) (by omega)) mv_X11_errorOf lk_X11_138 dX11_error_42 sh_51 rfl ⟨rfl, rfl⟩ rfl ?_
        exact fn_iret hR dX11_error_45 (zMP.fr hσ1 (tF.mono (by decide)) (by unfold S_error; rw [if_neg (by omega), if_neg (by omega)]; exact zer_congr hv h g))
      · refine fn_sipush hV dX11_error_30 rfl ?_
        exact fn_iret hR dX11_error_33 (zMP.rf hσ1 (by unfold S_error; (repeat' split) <;> first | omega | rfl))
    · refine fn_sipush hV dX11_error_19 rfl ?_
      exact fn_iret hR dX11_error_22 (zMP.rf hσ1 (by unfold S_error; (repeat' split) <;> first | omega | rfl))

set_option maxHeartbeats 4000000 in
set_option maxRecDepth 20000 in
theorem c_X11_errorAt (E : fnE) (σ : fnMem) (hW : zWF (mv σ)) (c0 : Int) (h_c0 : fnR c0) (r : Int) (h_r : fnR r) (g : Int) (h_g : fnR g) : fnOk E mX11_errorAt [.ref 51, zI c0, zI r, zI g] σ (fnQI (zMP (S_errorAt (mv σ) c0 r g) (mv σ) σ)) := by
  refine fnOk.of [.ref 51, zI c0, zI r, zI g] rfl (by decide +kernel) rfl (fun V hV hR => ?_)
  replace hV : fnCx E RX11 cX11_errorAt 4 5 112 V := hV
  replace hR : fnRt cX11_errorAt (some .int) _ V := hR
  refine fn_aload_0 hV dX11_errorAt_0 ?_
  refine fn_iconst hV dX11_errorAt_1 ?_
  refine fn_putIz hV 0 dX11_errorAt_2 fp_X11_96 fi_51_0 rfl ?_
  generalize hσ1 : fnUp σ 51 0 0 = σ1
  have e : ∀ k, k ≠ 51 → σ1 k = σ k := fun k hk => by rw [← hσ1, fnUp_ne _ _ _ hk]
  have e0 : ∀ j, j ≠ 0 → σ1 51 j = mv σ 0 j := fun j hj => by rw [← hσ1, fnUp_off _ _ _ hj]; rfl
  have f1 : mv σ 1 = σ1 52 := (e 52 (by decide)).symm
  have hp1 : ∀ i : Int, 0 ≤ i → i < 18 → -999 ≤ σ1 52 i ∧ σ1 52 i ≤ 999 := by rw [← f1]; exact hW.1
  refine fn_iload_1 hV dX11_errorAt_5 ?_
  refine fn_cS1 hV (c_X11_noCompass E _ _ (by omega)) ms_X11_noCompass lk_X11_154 dX11_errorAt_6 ⟨rfl, rfl⟩ rfl ?_
  refine fn_ifeqn hV dX11_errorAt_9 (fun q9 => ?_) (fun q9 => ?_)
  · refine fn_iload_2 hV dX11_errorAt_16 ?_
    refine fn_cS1 hV (c_X11_noRound E _ _ (by omega)) ms_X11_noRound lk_X11_144 dX11_errorAt_17 ⟨rfl, rfl⟩ rfl ?_
    refine fn_ifnen hV dX11_errorAt_20 (fun q20 => ?_) (fun q20 => ?_)
    · refine fn_sipush hV dX11_errorAt_30 rfl ?_
      exact fn_iret hR dX11_errorAt_33 (zMP.rf hσ1 (by unfold S_errorAt; (repeat' split) <;> first | omega | rfl))
    · refine fn_iload_3 hV dX11_errorAt_23 ?_
      refine fn_cS1 hV (c_X11_noHeel E _ _ (by omega)) ms_X11_noHeel lk_X11_165 dX11_errorAt_24 ⟨rfl, rfl⟩ rfl ?_
      refine fn_ifeqn hV dX11_errorAt_27 (fun q27 => ?_) (fun q27 => ?_)
      · refine fn_aload_0 hV dX11_errorAt_34 ?_
        refine fn_iload_1 hV dX11_errorAt_35 ?_
        refine fn_cV1Q hV (c_X11_take E _ _ (by omega)) mv_X11_take lk_X11_168 dX11_errorAt_36 sh_51 rfl ⟨rfl, rfl⟩ rfl (fun σ2 hp => ?_)
        obtain ⟨tF, tv⟩ := hp
        have hP : ∀ j, 0 ≤ j → j < 6 → -32000 ≤ σ2 73 j ∧ σ2 73 j ≤ 32000 := fun j j0 j1 => by
          have := hp1 (6 * c0 + j) (by omega) (by omega)
          rw [tv j j0 j1]
          omega
        have hv : ∀ j, 0 ≤ j → j < 6 → σ2 73 j = vP (mv σ) c0 j := fun j j0 j1 => by rw [tv j j0 j1, ← f1]; rfl
        refine fn_aload_0 hV dX11_errorAt_39 ?_
        refine fn_iload_3 hV dX11_errorAt_40 ?_
        refine fn_cV1Q hV (c_X11_lay E _ hP _ (by omega)) mv_X11_lay lk_X11_172 dX11_errorAt_41 sh_51 rfl ⟨rfl, rfl⟩ rfl (fun σ3 hp => ?_)
        obtain ⟨lF, lv⟩ := hp
        have hF3 : fnFr [73, 74, 75, 76, 77, 78] σ1 σ3 := (tF.mono (by decide)).tr (lF.mono (by decide))
        have hr4 : ∀ h, 0 ≤ h → h < 32 → -1200000 ≤ σ3 74 h ∧ σ3 74 h ≤ 1200000 := fun h h0 h1 => by rw [lv h h0 h1]; exact zer_le hP h _ (by omega)
        have hg : ∀ h, 0 ≤ h → h < 32 → σ3 74 h = zer (vP (mv σ) c0) h g := fun h h0 h1 => by rw [lv h h0 h1]; exact zer_congr hv h g
        refine fn_aload_0 hV dX11_errorAt_44 ?_
        refine fn_iload_2 hV dX11_errorAt_45 ?_
        refine fn_cV1 hV (c_X11_between E _ hr4 _ (by omega)) mv_X11_between lk_X11_141 dX11_errorAt_46 sh_51 rfl ⟨rfl, rfl⟩ rfl ?_
        exact fn_iret hR dX11_errorAt_49 (zMP.fr hσ1 hF3 (by unfold S_errorAt; rw [if_neg (by omega), if_neg (by omega)]; exact zeAt_congr hg (by omega)))
      · refine fn_sipush hV dX11_errorAt_30 rfl ?_
        exact fn_iret hR dX11_errorAt_33 (zMP.rf hσ1 (by unfold S_errorAt; (repeat' split) <;> first | omega | rfl))
  · refine fn_sipush hV dX11_errorAt_12 rfl ?_
    exact fn_iret hR dX11_errorAt_15 (zMP.rf hσ1 (by unfold S_errorAt; (repeat' split) <;> first | omega | rfl))

set_option maxHeartbeats 4000000 in
set_option maxRecDepth 20000 in
theorem c_X11_trueOf (E : fnE) (σ : fnMem) (hW : zWF (mv σ)) (c0 : Int) (h_c0 : fnR c0) (r : Int) (h_r : fnR r) (g : Int) (h_g : fnR g) : fnOk E mX11_trueOf [.ref 51, zI c0, zI r, zI g] σ (fnQI (zMP (S_trueOf (mv σ) c0 r g) (mv σ) σ)) := by
  refine fnOk.of [.ref 51, zI c0, zI r, zI g] rfl (by decide +kernel) rfl (fun V hV hR => ?_)
  replace hV : fnCx E RX11 cX11_trueOf 4 5 112 V := hV
  replace hR : fnRt cX11_trueOf (some .int) _ V := hR
  refine fn_aload_0 hV dX11_trueOf_0 ?_
  refine fn_iconst hV dX11_trueOf_1 ?_
  refine fn_putIz hV 0 dX11_trueOf_2 fp_X11_96 fi_51_0 rfl ?_
  generalize hσ1 : fnUp σ 51 0 0 = σ1
  have e : ∀ k, k ≠ 51 → σ1 k = σ k := fun k hk => by rw [← hσ1, fnUp_ne _ _ _ hk]
  have e0 : ∀ j, j ≠ 0 → σ1 51 j = mv σ 0 j := fun j hj => by rw [← hσ1, fnUp_off _ _ _ hj]; rfl
  have f1 : mv σ 1 = σ1 52 := (e 52 (by decide)).symm
  have hp1 : ∀ i : Int, 0 ≤ i → i < 18 → -999 ≤ σ1 52 i ∧ σ1 52 i ≤ 999 := by rw [← f1]; exact hW.1
  refine fn_iload_1 hV dX11_trueOf_5 ?_
  refine fn_cS1 hV (c_X11_noCompass E _ _ (by omega)) ms_X11_noCompass lk_X11_154 dX11_trueOf_6 ⟨rfl, rfl⟩ rfl ?_
  refine fn_ifeqn hV dX11_trueOf_9 (fun q9 => ?_) (fun q9 => ?_)
  · refine fn_iload_2 hV dX11_trueOf_16 ?_
    refine fn_cS1 hV (c_X11_noRound E _ _ (by omega)) ms_X11_noRound lk_X11_144 dX11_trueOf_17 ⟨rfl, rfl⟩ rfl ?_
    refine fn_ifnen hV dX11_trueOf_20 (fun q20 => ?_) (fun q20 => ?_)
    · refine fn_sipush hV dX11_trueOf_30 rfl ?_
      exact fn_iret hR dX11_trueOf_33 (zMP.rf hσ1 (by unfold S_trueOf; (repeat' split) <;> first | omega | rfl))
    · refine fn_iload_3 hV dX11_trueOf_23 ?_
      refine fn_cS1 hV (c_X11_noHeel E _ _ (by omega)) ms_X11_noHeel lk_X11_165 dX11_trueOf_24 ⟨rfl, rfl⟩ rfl ?_
      refine fn_ifeqn hV dX11_trueOf_27 (fun q27 => ?_) (fun q27 => ?_)
      · refine fn_aload_0 hV dX11_trueOf_34 ?_
        refine fn_iload_1 hV dX11_trueOf_35 ?_
        refine fn_cV1Q hV (c_X11_take E _ _ (by omega)) mv_X11_take lk_X11_168 dX11_trueOf_36 sh_51 rfl ⟨rfl, rfl⟩ rfl (fun σ2 hp => ?_)
        obtain ⟨tF, tv⟩ := hp
        have hP : ∀ j, 0 ≤ j → j < 6 → -32000 ≤ σ2 73 j ∧ σ2 73 j ≤ 32000 := fun j j0 j1 => by
          have := hp1 (6 * c0 + j) (by omega) (by omega)
          rw [tv j j0 j1]
          omega
        have hv : ∀ j, 0 ≤ j → j < 6 → σ2 73 j = vP (mv σ) c0 j := fun j j0 j1 => by rw [tv j j0 j1, ← f1]; rfl
        refine fn_aload_0 hV dX11_trueOf_39 ?_
        refine fn_iload_3 hV dX11_trueOf_40 ?_
        refine fn_cV1Q hV (c_X11_lay E _ hP _ (by omega)) mv_X11_lay lk_X11_172 dX11_trueOf_41 sh_51 rfl ⟨rfl, rfl⟩ rfl (fun σ3 hp => ?_)
        obtain ⟨lF, lv⟩ := hp
        have hF3 : fnFr [73, 74, 75, 76, 77, 78] σ1 σ3 := (tF.mono (by decide)).tr (lF.mono (by decide))
        have hr4 : ∀ h, 0 ≤ h → h < 32 → -1200000 ≤ σ3 74 h ∧ σ3 74 h ≤ 1200000 := fun h h0 h1 => by rw [lv h h0 h1]; exact zer_le hP h _ (by omega)
        have hg : ∀ h, 0 ≤ h → h < 32 → σ3 74 h = zer (vP (mv σ) c0) h g := fun h h0 h1 => by rw [lv h h0 h1]; exact zer_congr hv h g
        refine fn_aload_0 hV dX11_trueOf_44 ?_
        refine fn_iload_2 hV dX11_trueOf_45 ?_
        refine fn_cV1 hV (c_X11_truth E _ hr4 _ (by omega)) mv_X11_truth lk_X11_175 dX11_trueOf_46 sh_51 rfl ⟨rfl, rfl⟩ rfl ?_
        exact fn_iret hR dX11_trueOf_49 (zMP.fr hσ1 hF3 (by unfold S_trueOf; rw [if_neg (by omega), if_neg (by omega)]; exact ztru_congr hg (by omega)))
      · refine fn_sipush hV dX11_trueOf_30 rfl ?_
        exact fn_iret hR dX11_trueOf_33 (zMP.rf hσ1 (by unfold S_trueOf; (repeat' split) <;> first | omega | rfl))
  · refine fn_sipush hV dX11_trueOf_12 rfl ?_
    exact fn_iret hR dX11_trueOf_15 (zMP.rf hσ1 (by unfold S_trueOf; (repeat' split) <;> first | omega | rfl))

set_option maxHeartbeats 4000000 in
set_option maxRecDepth 20000 in
theorem c_X11_steer (E : fnE) (σ : fnMem) (hW : zWF (mv σ)) (c0 : Int) (h_c0 : fnR c0) (t : Int) (h_t : fnR t) (g : Int) (h_g : fnR g) : fnOk E mX11_steer [.ref 51, zI c0, zI t, zI g] σ (fnQI (zMP (S_steer (mv σ) c0 t g) (mv σ) σ)) := by
  refine fnOk.of [.ref 51, zI c0, zI t, zI g, .null, .null] rfl (by decide +kernel) rfl (fun V hV hR => ?_)
  replace hV : fnCx E RX11 cX11_steer 6 5 112 V := hV
  replace hR : fnRt cX11_steer (some .int) _ V := hR
  refine fn_aload_0 hV dX11_steer_0 ?_
  refine fn_iconst hV dX11_steer_1 ?_
  refine fn_putIz hV 0 dX11_steer_2 fp_X11_96 fi_51_0 rfl ?_
  generalize hσ1 : fnUp σ 51 0 0 = σ1
  have e : ∀ k, k ≠ 51 → σ1 k = σ k := fun k hk => by rw [← hσ1, fnUp_ne _ _ _ hk]
  have e0 : ∀ j, j ≠ 0 → σ1 51 j = mv σ 0 j := fun j hj => by rw [← hσ1, fnUp_off _ _ _ hj]; rfl
  have f1 : mv σ 1 = σ1 52 := (e 52 (by decide)).symm
  have hp1 : ∀ i : Int, 0 ≤ i → i < 18 → -999 ≤ σ1 52 i ∧ σ1 52 i ≤ 999 := by rw [← f1]; exact hW.1
  refine fn_iload_1 hV dX11_steer_5 ?_
  refine fn_cS1 hV (c_X11_noCompass E _ _ (by omega)) ms_X11_noCompass lk_X11_154 dX11_steer_6 ⟨rfl, rfl⟩ rfl ?_
  refine fn_ifeqn hV dX11_steer_9 (fun q9 => ?_) (fun q9 => ?_)
  · refine fn_iload_2 hV dX11_steer_16 ?_
    refine fn_cS1 hV (c_X11_noRound E _ _ (by omega)) ms_X11_noRound lk_X11_144 dX11_steer_17 ⟨rfl, rfl⟩ rfl ?_
    refine fn_ifnen hV dX11_steer_20 (fun q20 => ?_) (fun q20 => ?_)
    · refine fn_sipush hV dX11_steer_30 rfl ?_
      exact fn_iret hR dX11_steer_33 (zMP.rf hσ1 (by unfold S_steer; (repeat' split) <;> first | omega | rfl))
    · refine fn_iload_3 hV dX11_steer_23 ?_
      refine fn_cS1 hV (c_X11_noHeel E _ _ (by omega)) ms_X11_noHeel lk_X11_165 dX11_steer_24 ⟨rfl, rfl⟩ rfl ?_
      refine fn_ifeqn hV dX11_steer_27 (fun q27 => ?_) (fun q27 => ?_)
      · refine fn_aload_0 hV dX11_steer_34 ?_
        refine fn_iload_1 hV dX11_steer_35 ?_
        refine fn_cV1Q hV (c_X11_take E _ _ (by omega)) mv_X11_take lk_X11_168 dX11_steer_36 sh_51 rfl ⟨rfl, rfl⟩ rfl (fun σ2 hp => ?_)
        obtain ⟨tF, tv⟩ := hp
        have hP : ∀ j, 0 ≤ j → j < 6 → -32000 ≤ σ2 73 j ∧ σ2 73 j ≤ 32000 := fun j j0 j1 => by
          have := hp1 (6 * c0 + j) (by omega) (by omega)
          rw [tv j j0 j1]
          omega
        have hv : ∀ j, 0 ≤ j → j < 6 → σ2 73 j = vP (mv σ) c0 j := fun j j0 j1 => by rw [tv j j0 j1, ← f1]; rfl
        refine fn_aload_0 hV dX11_steer_39 ?_
        refine fn_iload_3 hV dX11_steer_40 ?_
        refine fn_cV1Q hV (c_X11_lay E _ hP _ (by omega)) mv_X11_lay lk_X11_172 dX11_steer_41 sh_51 rfl ⟨rfl, rfl⟩ rfl (fun σ3 hp => ?_)
        obtain ⟨lF, lv⟩ := hp
        have hF3 : fnFr [73, 74, 75, 76, 77, 78] σ1 σ3 := (tF.mono (by decide)).tr (lF.mono (by decide))
        have hr4 : ∀ h, 0 ≤ h → h < 32 → -1200000 ≤ σ3 74 h ∧ σ3 74 h ≤ 1200000 := fun h h0 h1 => by rw [lv h h0 h1]; exact zer_le hP h _ (by omega)
        have hg : ∀ h, 0 ≤ h → h < 32 → σ3 74 h = zer (vP (mv σ) c0) h g := fun h h0 h1 => by rw [lv h h0 h1]; exact zer_congr hv h g
        refine fn_iconst hV dX11_steer_44 ?_
        refine fn_istore_4 hV dX11_steer_45 rfl rfl ?_
        refine fn_iconst hV dX11_steer_47 ?_
        refine fn_istore_5 hV dX11_steer_48 rfl rfl ?_
        have L : ∀ k : Nat, k ≤ 3199 → ∀ (i b : Int), True → (i = k + 1) → (b = zst (σ3 74) t k) → V 50 [.ref 51, zI c0, zI t, zI g, zI b, zI i] [] σ3 := by
          refine fn_rec (fun k hk ihL => ?_)
          intro i b _ hi hb
          refine fn_iload_5 hV dX11_steer_50 ?_
          refine fn_sipush hV dX11_steer_52 rfl ?_
          refine fn_icmp_ge hV (by omega) (by omega) dX11_steer_55 (fun q55 => ?_) (fun q55 => ?_)
          · refine fn_iload_4 hV dX11_steer_102 ?_
            exact fn_iret hR dX11_steer_104 (zMP.fr hσ1 hF3 (by unfold S_steer; rw [if_neg (by omega), if_neg (by omega), hb, show k = 3199 by omega]; exact zst_congr hg t 3199 (by omega)))
          · have w1 := zwa_in (ztru (σ3 74) i) t
            have w2 := zway_in (ztru (σ3 74) i) t
            have w3 := ztru_in (σ3 74) i
            have w4 := zwa_in (ztru (σ3 74) b) t
            have w5 := zway_in (ztru (σ3 74) b) t
            have w6 := ztru_in (σ3 74) b
            have w7 := zst_in (σ3 74) t k
            refine fn_aload_0 hV dX11_steer_58 ?_
            refine fn_iload_5 hV dX11_steer_59 ?_
            refine fn_cV1 hV (c_X11_truth E _ hr4 _ (by omega)) mv_X11_truth lk_X11_175 dX11_steer_61 sh_51 rfl ⟨rfl, rfl⟩ rfl ?_
            refine fn_iload_2 hV dX11_steer_64 ?_
            refine fn_cS2 hV (c_X11_wayOf E _ _ _ (by omega) (by omega)) ms_X11_wayOf lk_X11_151 dX11_steer_65 ⟨rfl, rfl⟩ rfl ?_
            refine fn_cS1 hV (c_X11_size E _ _ (by omega)) ms_X11_size lk_X11_178 dX11_steer_68 ⟨rfl, rfl⟩ rfl ?_
            refine fn_aload_0 hV dX11_steer_71 ?_
            refine fn_iload_4 hV dX11_steer_72 ?_
            refine fn_cV1 hV (c_X11_truth E _ hr4 _ (by omega)) mv_X11_truth lk_X11_175 dX11_steer_74 sh_51 rfl ⟨rfl, rfl⟩ rfl ?_
            refine fn_iload_2 hV dX11_steer_77 ?_
            refine fn_cS2 hV (c_X11_wayOf E _ _ _ (by omega) (by omega)) ms_X11_wayOf lk_X11_151 dX11_steer_78 ⟨rfl, rfl⟩ rfl ?_
            refine fn_cS1 hV (c_X11_size E _ _ (by omega)) ms_X11_size lk_X11_178 dX11_steer_81 ⟨rfl, rfl⟩ rfl ?_
            refine fn_icmp_ge hV (by omega) (by omega) dX11_steer_84 (fun q84 => ?_) (fun q84 => ?_)
            · refine fn_iload_4 hV dX11_steer_92 ?_
              refine fn_istore_4 hV dX11_steer_94 rfl rfl ?_
              refine fn_iinc_5 hV dX11_steer_96 rfl rfl ?_
              refine fn_goto hV dX11_steer_99 ?_
              exact ihL (k + 1) (by omega) (by omega) _ _ trivial (by omega) (by rw [zst_s, Int.natCast_add, Int.cast_ofNat_Int, ← hi, ← hb, if_neg (by omega)])
            · refine fn_iload_5 hV dX11_steer_87 ?_
              refine fn_goto hV dX11_steer_89 ?_
              refine fn_istore_4 hV dX11_steer_94 rfl rfl ?_
              refine fn_iinc_5 hV dX11_steer_96 rfl rfl ?_
              refine fn_goto hV dX11_steer_99 ?_
              exact ihL (k + 1) (by omega) (by omega) _ _ trivial (by omega) (by rw [zst_s, Int.natCast_add, Int.cast_ofNat_Int, ← hi, ← hb, if_pos (by omega)])
        exact L 0 (by omega) _ _ trivial (by omega) rfl
      · refine fn_sipush hV dX11_steer_30 rfl ?_
        exact fn_iret hR dX11_steer_33 (zMP.rf hσ1 (by unfold S_steer; (repeat' split) <;> first | omega | rfl))
  · refine fn_sipush hV dX11_steer_12 rfl ?_
    exact fn_iret hR dX11_steer_15 (zMP.rf hσ1 (by unfold S_steer; (repeat' split) <;> first | omega | rfl))

set_option maxHeartbeats 4000000 in
set_option maxRecDepth 20000 in
theorem c_X11_worst (E : fnE) (σ : fnMem) (hW : zWF (mv σ)) (c0 : Int) (h_c0 : fnR c0) : fnOk E mX11_worst [.ref 51, zI c0] σ (fnQI (zMP (S_worst (mv σ) c0) (mv σ) σ)) := by
  refine fnOk.of [.ref 51, zI c0, .null, .null] rfl (by decide +kernel) rfl (fun V hV hR => ?_)
  replace hV : fnCx E RX11 cX11_worst 4 5 112 V := hV
  replace hR : fnRt cX11_worst (some .int) _ V := hR
  refine fn_aload_0 hV dX11_worst_0 ?_
  refine fn_iconst hV dX11_worst_1 ?_
  refine fn_putIz hV 0 dX11_worst_2 fp_X11_96 fi_51_0 rfl ?_
  generalize hσ1 : fnUp σ 51 0 0 = σ1
  have e : ∀ k, k ≠ 51 → σ1 k = σ k := fun k hk => by rw [← hσ1, fnUp_ne _ _ _ hk]
  have e0 : ∀ j, j ≠ 0 → σ1 51 j = mv σ 0 j := fun j hj => by rw [← hσ1, fnUp_off _ _ _ hj]; rfl
  have f1 : mv σ 1 = σ1 52 := (e 52 (by decide)).symm
  have hp1 : ∀ i : Int, 0 ≤ i → i < 18 → -999 ≤ σ1 52 i ∧ σ1 52 i ≤ 999 := by rw [← f1]; exact hW.1
  refine fn_iload_1 hV dX11_worst_5 ?_
  refine fn_cS1 hV (c_X11_noCompass E _ _ (by omega)) ms_X11_noCompass lk_X11_154 dX11_worst_6 ⟨rfl, rfl⟩ rfl ?_
  refine fn_ifeqn hV dX11_worst_9 (fun q9 => ?_) (fun q9 => ?_)
  · refine fn_aload_0 hV dX11_worst_16 ?_
    refine fn_iload_1 hV dX11_worst_17 ?_
    refine fn_cV1Q hV (c_X11_take E _ _ (by omega)) mv_X11_take lk_X11_168 dX11_worst_18 sh_51 rfl ⟨rfl, rfl⟩ rfl (fun σ2 hp => ?_)
    obtain ⟨tF, tv⟩ := hp
    have hP : ∀ j, 0 ≤ j → j < 6 → -32000 ≤ σ2 73 j ∧ σ2 73 j ≤ 32000 := fun j j0 j1 => by
      have := hp1 (6 * c0 + j) (by omega) (by omega)
      rw [tv j j0 j1]
      omega
    have hv : ∀ j, 0 ≤ j → j < 6 → σ2 73 j = vP (mv σ) c0 j := fun j j0 j1 => by rw [tv j j0 j1, ← f1]; rfl
    refine fn_aload_0 hV dX11_worst_21 ?_
    refine fn_iconst hV dX11_worst_22 ?_
    refine fn_cV1Q hV (c_X11_lay E _ hP _ (by omega)) mv_X11_lay lk_X11_172 dX11_worst_23 sh_51 rfl ⟨rfl, rfl⟩ rfl (fun σ3 hp => ?_)
    obtain ⟨lF, lv⟩ := hp
    have hF3 : fnFr [73, 74, 75, 76, 77, 78] σ1 σ3 := (tF.mono (by decide)).tr (lF.mono (by decide))
    have hr4 : ∀ h, 0 ≤ h → h < 32 → -1200000 ≤ σ3 74 h ∧ σ3 74 h ≤ 1200000 := fun h h0 h1 => by rw [lv h h0 h1]; exact zer_le hP h _ (by omega)
    have hg : ∀ h, 0 ≤ h → h < 32 → σ3 74 h = zer (vP (mv σ) c0) h 0 := fun h h0 h1 => by rw [lv h h0 h1]; exact zer_congr hv h 0
    refine fn_iconst hV dX11_worst_26 ?_
    refine fn_istore_2 hV dX11_worst_27 rfl rfl ?_
    refine fn_iconst hV dX11_worst_28 ?_
    refine fn_istore_3 hV dX11_worst_29 rfl rfl ?_
    have L : ∀ k : Nat, k ≤ 32 → ∀ (i w : Int), True → (i = k) → (zwJ (σ3 74) k w) → (0 ≤ w ∧ w ≤ 1200000) → V 30 [.ref 51, zI c0, zI w, zI i] [] σ3 := by
      refine fn_rec (fun k hk ihL => ?_)
      intro i w _ hi hw hb
      refine fn_iload_3 hV dX11_worst_30 ?_
      refine fn_bipush hV dX11_worst_31 rfl ?_
      refine fn_icmp_ge hV (by omega) (by omega) dX11_worst_33 (fun q33 => ?_) (fun q33 => ?_)
      · refine fn_iload_2 hV dX11_worst_69 ?_
        exact fn_iret hR dX11_worst_70 (zMP.fr hσ1 hF3 (by
      rcases hw with ⟨h1, -⟩ | ⟨-, h2⟩
      · omega
      · have hb31 := zwst_in (fun x => zer (vP (mv σ) c0) x 0) 31
        unfold S_worst
        rw [if_neg (by omega), h2, show k - 1 = 31 by omega, zwst_cg (G := fun x => zer (vP (mv σ) c0) x 0) hg 31 (by decide), hg _ (by omega) (by omega)]))
      · have b1 := hr4 i (by omega) (by omega)
        have b2 := zabs_nn (σ3 74 i)
        have b3 := zabs_le (z := σ3 74 i) (B := 1200000) (by omega) (by omega)
        refine fn_aload_0 hV dX11_worst_36 ?_
        refine fn_getR hV dX11_worst_37 fl_X11_81 fr_51_26 ?_
        refine fn_iload_3 hV dX11_worst_40 ?_
        refine fn_iald hV dX11_worst_41 ar_74 (by omega) (by omega) ?_
        refine fn_cS1 hV (c_X11_size E _ _ (by omega)) ms_X11_size lk_X11_178 dX11_worst_42 ⟨rfl, rfl⟩ rfl ?_
        refine fn_iload_2 hV dX11_worst_45 ?_
        refine fn_icmp_le hV (by omega) (by omega) dX11_worst_46 (fun q46 => ?_) (fun q46 => ?_)
        · refine fn_iload_2 hV dX11_worst_61 ?_
          refine fn_istore_2 hV dX11_worst_62 rfl rfl ?_
          refine fn_iinc_3 hV dX11_worst_63 rfl rfl ?_
          refine fn_goto hV dX11_worst_66 ?_
          exact ihL (k + 1) (by omega) (by omega) _ _ trivial (by omega) (hw.a hi (by omega)) (by omega)
        · refine fn_aload_0 hV dX11_worst_49 ?_
          refine fn_getR hV dX11_worst_50 fl_X11_81 fr_51_26 ?_
          refine fn_iload_3 hV dX11_worst_53 ?_
          refine fn_iald hV dX11_worst_54 ar_74 (by omega) (by omega) ?_
          refine fn_cS1 hV (c_X11_size E _ _ (by omega)) ms_X11_size lk_X11_178 dX11_worst_55 ⟨rfl, rfl⟩ rfl ?_
          refine fn_goto hV dX11_worst_58 ?_
          refine fn_istore_2 hV dX11_worst_62 rfl rfl ?_
          refine fn_iinc_3 hV dX11_worst_63 rfl rfl ?_
          refine fn_goto hV dX11_worst_66 ?_
          exact ihL (k + 1) (by omega) (by omega) _ _ trivial (by omega) (hw.b hi (by omega)) (by omega)
    exact L 0 (by omega) _ _ trivial (by omega) (Or.inl ⟨rfl, rfl⟩) (by omega)
  · refine fn_sipush hV dX11_worst_12 rfl ?_
    exact fn_iret hR dX11_worst_15 (zMP.rf hσ1 (by unfold S_worst; (repeat' split) <;> first | omega | rfl))

set_option maxHeartbeats 4000000 in
set_option maxRecDepth 20000 in
theorem c_X11_worstAt (E : fnE) (σ : fnMem) (hW : zWF (mv σ)) (c0 : Int) (h_c0 : fnR c0) : fnOk E mX11_worstAt [.ref 51, zI c0] σ (fnQI (zMP (S_worstAt (mv σ) c0) (mv σ) σ)) := by
  refine fnOk.of [.ref 51, zI c0, .null, .null] rfl (by decide +kernel) rfl (fun V hV hR => ?_)
  replace hV : fnCx E RX11 cX11_worstAt 4 5 112 V := hV
  replace hR : fnRt cX11_worstAt (some .int) _ V := hR
  refine fn_aload_0 hV dX11_worstAt_0 ?_
  refine fn_iconst hV dX11_worstAt_1 ?_
  refine fn_putIz hV 0 dX11_worstAt_2 fp_X11_96 fi_51_0 rfl ?_
  generalize hσ1 : fnUp σ 51 0 0 = σ1
  have e : ∀ k, k ≠ 51 → σ1 k = σ k := fun k hk => by rw [← hσ1, fnUp_ne _ _ _ hk]
  have e0 : ∀ j, j ≠ 0 → σ1 51 j = mv σ 0 j := fun j hj => by rw [← hσ1, fnUp_off _ _ _ hj]; rfl
  have f1 : mv σ 1 = σ1 52 := (e 52 (by decide)).symm
  have hp1 : ∀ i : Int, 0 ≤ i → i < 18 → -999 ≤ σ1 52 i ∧ σ1 52 i ≤ 999 := by rw [← f1]; exact hW.1
  refine fn_iload_1 hV dX11_worstAt_5 ?_
  refine fn_cS1 hV (c_X11_noCompass E _ _ (by omega)) ms_X11_noCompass lk_X11_154 dX11_worstAt_6 ⟨rfl, rfl⟩ rfl ?_
  refine fn_ifeqn hV dX11_worstAt_9 (fun q9 => ?_) (fun q9 => ?_)
  · refine fn_aload_0 hV dX11_worstAt_16 ?_
    refine fn_iload_1 hV dX11_worstAt_17 ?_
    refine fn_cV1Q hV (c_X11_take E _ _ (by omega)) mv_X11_take lk_X11_168 dX11_worstAt_18 sh_51 rfl ⟨rfl, rfl⟩ rfl (fun σ2 hp => ?_)
    obtain ⟨tF, tv⟩ := hp
    have hP : ∀ j, 0 ≤ j → j < 6 → -32000 ≤ σ2 73 j ∧ σ2 73 j ≤ 32000 := fun j j0 j1 => by
      have := hp1 (6 * c0 + j) (by omega) (by omega)
      rw [tv j j0 j1]
      omega
    have hv : ∀ j, 0 ≤ j → j < 6 → σ2 73 j = vP (mv σ) c0 j := fun j j0 j1 => by rw [tv j j0 j1, ← f1]; rfl
    refine fn_aload_0 hV dX11_worstAt_21 ?_
    refine fn_iconst hV dX11_worstAt_22 ?_
    refine fn_cV1Q hV (c_X11_lay E _ hP _ (by omega)) mv_X11_lay lk_X11_172 dX11_worstAt_23 sh_51 rfl ⟨rfl, rfl⟩ rfl (fun σ3 hp => ?_)
    obtain ⟨lF, lv⟩ := hp
    have hF3 : fnFr [73, 74, 75, 76, 77, 78] σ1 σ3 := (tF.mono (by decide)).tr (lF.mono (by decide))
    have hr4 : ∀ h, 0 ≤ h → h < 32 → -1200000 ≤ σ3 74 h ∧ σ3 74 h ≤ 1200000 := fun h h0 h1 => by rw [lv h h0 h1]; exact zer_le hP h _ (by omega)
    have hg : ∀ h, 0 ≤ h → h < 32 → σ3 74 h = zer (vP (mv σ) c0) h 0 := fun h h0 h1 => by rw [lv h h0 h1]; exact zer_congr hv h 0
    refine fn_iconst hV dX11_worstAt_26 ?_
    refine fn_istore_2 hV dX11_worstAt_27 rfl rfl ?_
    refine fn_iconst hV dX11_worstAt_28 ?_
    refine fn_istore_3 hV dX11_worstAt_29 rfl rfl ?_
    have L : ∀ k : Nat, k ≤ 31 → ∀ (i b : Int), True → (i = k + 1) → (b = zwst (σ3 74) k) → V 30 [.ref 51, zI c0, zI b, zI i] [] σ3 := by
      refine fn_rec (fun k hk ihL => ?_)
      intro i b _ hi hb
      refine fn_iload_3 hV dX11_worstAt_30 ?_
      refine fn_bipush hV dX11_worstAt_31 rfl ?_
      refine fn_icmp_ge hV (by omega) (by omega) dX11_worstAt_33 (fun q33 => ?_) (fun q33 => ?_)
      · refine fn_iload_2 hV dX11_worstAt_69 ?_
        exact fn_iret hR dX11_worstAt_70 (zMP.fr hσ1 hF3 (by unfold S_worstAt; rw [if_neg (by omega), hb, show k = 31 by omega]; exact zwst_cg hg 31 (by decide)))
      · have w7 := zwst_in (σ3 74) k
        have b1 := hr4 i (by omega) (by omega)
        have b4 := hr4 b (by omega) (by omega)
        have b2 := zabs_nn (σ3 74 i)
        have b3 := zabs_le (z := σ3 74 i) (B := 1200000) (by omega) (by omega)
        have b5 := zabs_nn (σ3 74 b)
        have b6 := zabs_le (z := σ3 74 b) (B := 1200000) (by omega) (by omega)
        refine fn_aload_0 hV dX11_worstAt_36 ?_
        refine fn_getR hV dX11_worstAt_37 fl_X11_81 fr_51_26 ?_
        refine fn_iload_3 hV dX11_worstAt_40 ?_
        refine fn_iald hV dX11_worstAt_41 ar_74 (by omega) (by omega) ?_
        refine fn_cS1 hV (c_X11_size E _ _ (by omega)) ms_X11_size lk_X11_178 dX11_worstAt_42 ⟨rfl, rfl⟩ rfl ?_
        refine fn_aload_0 hV dX11_worstAt_45 ?_
        refine fn_getR hV dX11_worstAt_46 fl_X11_81 fr_51_26 ?_
        refine fn_iload_2 hV dX11_worstAt_49 ?_
        refine fn_iald hV dX11_worstAt_50 ar_74 (by omega) (by omega) ?_
        refine fn_cS1 hV (c_X11_size E _ _ (by omega)) ms_X11_size lk_X11_178 dX11_worstAt_51 ⟨rfl, rfl⟩ rfl ?_
        refine fn_icmp_le hV (by omega) (by omega) dX11_worstAt_54 (fun q54 => ?_) (fun q54 => ?_)
        · refine fn_iload_2 hV dX11_worstAt_61 ?_
          refine fn_istore_2 hV dX11_worstAt_62 rfl rfl ?_
          refine fn_iinc_3 hV dX11_worstAt_63 rfl rfl ?_
          refine fn_goto hV dX11_worstAt_66 ?_
          exact ihL (k + 1) (by omega) (by omega) _ _ trivial (by omega) (by rw [zwst_s, Int.natCast_add, Int.cast_ofNat_Int, ← hi, ← hb, if_neg (by omega)])
        · refine fn_iload_3 hV dX11_worstAt_57 ?_
          refine fn_goto hV dX11_worstAt_58 ?_
          refine fn_istore_2 hV dX11_worstAt_62 rfl rfl ?_
          refine fn_iinc_3 hV dX11_worstAt_63 rfl rfl ?_
          refine fn_goto hV dX11_worstAt_66 ?_
          exact ihL (k + 1) (by omega) (by omega) _ _ trivial (by omega) (by rw [zwst_s, Int.natCast_add, Int.cast_ofNat_Int, ← hi, ← hb, if_pos (by omega)])
    exact L 0 (by omega) _ _ trivial (by omega) rfl
  · refine fn_sipush hV dX11_worstAt_12 rfl ?_
    exact fn_iret hR dX11_worstAt_15 (zMP.rf hσ1 (by unfold S_worstAt; (repeat' split) <;> first | omega | rfl))

set_option maxHeartbeats 4000000 in
set_option maxRecDepth 20000 in
theorem c_X11_twofold (E : fnE) (σ : fnMem) (hW : zWF (mv σ)) (c0 : Int) (h_c0 : fnR c0) : fnOk E mX11_twofold [.ref 51, zI c0] σ (fnQI (zMP (S_twofold (mv σ) c0) (mv σ) σ)) := by
  refine fnOk.of [.ref 51, zI c0, .null, .null, .null, .null] rfl (by decide +kernel) rfl (fun V hV hR => ?_)
  replace hV : fnCx E RX11 cX11_twofold 6 5 112 V := hV
  replace hR : fnRt cX11_twofold (some .int) _ V := hR
  refine fn_aload_0 hV dX11_twofold_0 ?_
  refine fn_iconst hV dX11_twofold_1 ?_
  refine fn_putIz hV 0 dX11_twofold_2 fp_X11_96 fi_51_0 rfl ?_
  generalize hσ1 : fnUp σ 51 0 0 = σ1
  have e : ∀ k, k ≠ 51 → σ1 k = σ k := fun k hk => by rw [← hσ1, fnUp_ne _ _ _ hk]
  have e0 : ∀ j, j ≠ 0 → σ1 51 j = mv σ 0 j := fun j hj => by rw [← hσ1, fnUp_off _ _ _ hj]; rfl
  have f1 : mv σ 1 = σ1 52 := (e 52 (by decide)).symm
  have hp1 : ∀ i : Int, 0 ≤ i → i < 18 → -999 ≤ σ1 52 i ∧ σ1 52 i ≤ 999 := by rw [← f1]; exact hW.1
  refine fn_iload_1 hV dX11_twofold_5 ?_
  refine fn_cS1 hV (c_X11_noCompass E _ _ (by omega)) ms_X11_noCompass lk_X11_154 dX11_twofold_6 ⟨rfl, rfl⟩ rfl ?_
  refine fn_ifeqn hV dX11_twofold_9 (fun q9 => ?_) (fun q9 => ?_)
  · refine fn_aload_0 hV dX11_twofold_16 ?_
    refine fn_iload_1 hV dX11_twofold_17 ?_
    refine fn_cV1Q hV (c_X11_take E _ _ (by omega)) mv_X11_take lk_X11_168 dX11_twofold_18 sh_51 rfl ⟨rfl, rfl⟩ rfl (fun σ2 hp => ?_)
    obtain ⟨tF, tv⟩ := hp
    have hP : ∀ j, 0 ≤ j → j < 6 → -32000 ≤ σ2 73 j ∧ σ2 73 j ≤ 32000 := fun j j0 j1 => by
      have := hp1 (6 * c0 + j) (by omega) (by omega)
      rw [tv j j0 j1]
      omega
    have hv : ∀ j, 0 ≤ j → j < 6 → σ2 73 j = vP (mv σ) c0 j := fun j j0 j1 => by rw [tv j j0 j1, ← f1]; rfl
    refine fn_aload_0 hV dX11_twofold_21 ?_
    refine fn_iconst hV dX11_twofold_22 ?_
    refine fn_cV1Q hV (c_X11_lay E _ hP _ (by omega)) mv_X11_lay lk_X11_172 dX11_twofold_23 sh_51 rfl ⟨rfl, rfl⟩ rfl (fun σ3 hp => ?_)
    obtain ⟨lF, lv⟩ := hp
    have hF3 : fnFr [73, 74, 75, 76, 77, 78] σ1 σ3 := (tF.mono (by decide)).tr (lF.mono (by decide))
    have hr4 : ∀ h, 0 ≤ h → h < 32 → -1200000 ≤ σ3 74 h ∧ σ3 74 h ≤ 1200000 := fun h h0 h1 => by rw [lv h h0 h1]; exact zer_le hP h _ (by omega)
    have hg : ∀ h, 0 ≤ h → h < 32 → σ3 74 h = zer (vP (mv σ) c0) h 0 := fun h h0 h1 => by rw [lv h h0 h1]; exact zer_congr hv h 0
    refine fn_iconst hV dX11_twofold_26 ?_
    refine fn_istore_2 hV dX11_twofold_27 rfl rfl ?_
    refine fn_iconst hV dX11_twofold_28 ?_
    refine fn_istore_3 hV dX11_twofold_29 rfl rfl ?_
    have L : ∀ k : Nat, k ≤ 32 → ∀ (x mn : Int), True → (x = k) → (mn = zsum (fun x => if 1 < zctT (σ3 74) x 3200 then 1 else 0) k) → V 30 [.ref 51, zI c0, zI mn, zI x, .null, .null] [] σ3 := by
      refine fn_rec (fun k hk ihL => ?_)
      intro x mn _ hx hmn
      refine fn_iload_3 hV dX11_twofold_30 ?_
      refine fn_bipush hV dX11_twofold_31 rfl ?_
      refine fn_icmp_ge hV (by omega) (by omega) dX11_twofold_33 (fun q33 => ?_) (fun q33 => ?_)
      · refine fn_iload_2 hV dX11_twofold_99 ?_
        exact fn_iret hR dX11_twofold_100 (zMP.fr hσ1 hF3 (by unfold S_twofold; rw [if_neg (by omega), hmn, show k = 32 by omega]; exact z2f_congr hg))
      · refine fn_iconst hV dX11_twofold_36 ?_
        refine fn_istore_4 hV dX11_twofold_37 rfl rfl ?_
        refine fn_iconst hV dX11_twofold_39 ?_
        refine fn_istore_5 hV dX11_twofold_40 rfl rfl ?_
        have L2 : ∀ k2 : Nat, k2 ≤ 3200 → ∀ (r a : Int), True → (r = k2) → (a = zsum (fun r => if ztru (σ3 74) r = 100 * x then 1 else 0) k2) → V 42 [.ref 51, zI c0, zI mn, zI x, zI a, zI r] [] σ3 := by
          refine fn_rec (fun k2 hk2 ihL2 => ?_)
          intro r a _ hr ha
          refine fn_iload_5 hV dX11_twofold_42 ?_
          refine fn_sipush hV dX11_twofold_44 rfl ?_
          refine fn_icmp_ge hV (by omega) (by omega) dX11_twofold_47 (fun q47 => ?_) (fun q47 => ?_)
          · have z1 := zsum01 (G := fun r => if ztru (σ3 74) r = 100 * x then 1 else 0) (fun r => by (try dsimp only); split <;> omega) 3200
            rw [show k2 = 3200 by omega] at ha
            have ha2 : a = zctT (σ3 74) x 3200 := ha
            have z3 : 0 ≤ a ∧ a ≤ 3200 := by rw [ha]; exact z1
            refine fn_iload_2 hV dX11_twofold_79 ?_
            refine fn_iload_4 hV dX11_twofold_80 ?_
            refine fn_iconst hV dX11_twofold_82 ?_
            refine fn_t_icmp_le hV (by omega) (by omega) dX11_twofold_83 dX11_twofold_86 dX11_twofold_87 dX11_twofold_90 ?_
            refine fn_iadd hV dX11_twofold_91 ?_
            refine fn_istore_2 hV dX11_twofold_92 rfl rfl ?_
            refine fn_iinc_3 hV dX11_twofold_93 rfl rfl ?_
            refine fn_goto hV dX11_twofold_96 ?_
            refine fn_nul_4 hV ?_
            refine fn_nul_5 hV ?_
            exact ihL (k + 1) (by omega) (by omega) _ _ trivial (by omega) (by rw [zsum_s, ← hx, ← ha2, hmn]; congr 1; (repeat' split) <;> omega)
          · have w3 := ztru_in (σ3 74) r
            refine fn_iload_4 hV dX11_twofold_50 ?_
            refine fn_aload_0 hV dX11_twofold_52 ?_
            refine fn_iload_5 hV dX11_twofold_53 ?_
            refine fn_cV1 hV (c_X11_truth E _ hr4 _ (by omega)) mv_X11_truth lk_X11_175 dX11_twofold_55 sh_51 rfl ⟨rfl, rfl⟩ rfl ?_
            refine fn_bipush hV dX11_twofold_58 rfl ?_
            refine fn_iload_3 hV dX11_twofold_60 ?_
            refine fn_imul hV dX11_twofold_61 ?_
            refine fn_t_icmp_ne hV (by omega) (by omega) dX11_twofold_62 dX11_twofold_65 dX11_twofold_66 dX11_twofold_69 ?_
            refine fn_iadd hV dX11_twofold_70 ?_
            refine fn_istore_4 hV dX11_twofold_71 rfl rfl ?_
            refine fn_iinc_5 hV dX11_twofold_73 rfl rfl ?_
            refine fn_goto hV dX11_twofold_76 ?_
            exact ihL2 (k2 + 1) (by omega) (by omega) _ _ trivial (by omega) (by rw [zsum_s, ← hr, ha]; congr 1; (repeat' split) <;> omega)
        exact L2 0 (by omega) _ _ trivial (by omega) rfl
    exact L 0 (by omega) _ _ trivial (by omega) rfl
  · refine fn_sipush hV dX11_twofold_12 rfl ?_
    exact fn_iret hR dX11_twofold_15 (zMP.rf hσ1 (by unfold S_twofold; (repeat' split) <;> first | omega | rfl))

set_option maxHeartbeats 4000000 in
set_option maxRecDepth 20000 in
theorem c_X11_see (E : fnE) (σ : fnMem) (hW : zWF (mv σ)) (c0 : Int) (h_c0 : fnR c0) (h : Int) (h_h : fnR h) (e1 : Int) (h_e1 : fnR e1) : fnOk E mX11_see [.ref 51, zI c0, zI h, zI e1] σ (fnQI (zMP (S_see (mv σ) c0 h e1) (U_see (mv σ) c0 h e1) σ)) := by
  refine fnOk.of [.ref 51, zI c0, zI h, zI e1, .null] rfl (by decide +kernel) rfl (fun V hV hR => ?_)
  replace hV : fnCx E RX11 cX11_see 5 2 45 V := hV
  replace hR : fnRt cX11_see (some .int) _ V := hR
  refine fn_aload_0 hV dX11_see_0 ?_
  refine fn_iconst hV dX11_see_1 ?_
  refine fn_putIz hV 0 dX11_see_2 fp_X11_96 fi_51_0 rfl ?_
  generalize hσ1 : fnUp σ 51 0 0 = σ1
  have e : ∀ k, k ≠ 51 → σ1 k = σ k := fun k hk => by rw [← hσ1, fnUp_ne _ _ _ hk]
  have e0 : ∀ j, j ≠ 0 → σ1 51 j = mv σ 0 j := fun j hj => by rw [← hσ1, fnUp_off _ _ _ hj]; rfl
  have f2 : mv σ 2 = σ1 53 := (e 53 (by decide)).symm
  refine fn_iload_1 hV dX11_see_5 ?_
  refine fn_cS1 hV (c_X11_noCompass E _ _ (by omega)) ms_X11_noCompass lk_X11_154 dX11_see_6 ⟨rfl, rfl⟩ rfl ?_
  refine fn_ifnen hV dX11_see_9 (fun q9 => ?_) (fun q9 => ?_)
  · refine fn_sipush hV dX11_see_19 rfl ?_
    exact fn_iret hR dX11_see_22 (zMP.rfU hσ1 (by unfold S_see; (repeat' split) <;> first | omega | rfl) (by unfold U_see; exact if_neg (by omega)))
  · refine fn_iload_2 hV dX11_see_12 ?_
    refine fn_cS1 hV (c_X11_noHeading E _ _ (by omega)) ms_X11_noHeading lk_X11_162 dX11_see_13 ⟨rfl, rfl⟩ rfl ?_
    refine fn_ifeqn hV dX11_see_16 (fun q16 => ?_) (fun q16 => ?_)
    · refine fn_iload_3 hV dX11_see_23 ?_
      refine fn_i2lr hV dX11_see_24 (by omega) ?_
      refine fn_ldc2 hV dX11_see_25 co_X11_181 ?_
      refine fn_ldc2 hV dX11_see_28 co_X11_183 ?_
      refine fn_cS3 hV (c_X11_in E _ _ _ _ (by omega) (by omega) (by omega)) ms_X11_in lk_X11_117 dX11_see_31 ⟨rfl, rfl⟩ rfl ?_
      refine fn_ifneb hV dX11_see_34 (fun q34 => ?_) (fun q34 => ?_)
      · refine fn_aload_0 hV dX11_see_41 ?_
        refine fn_getR hV dX11_see_42 fl_X11_13 fr_51_2 ?_
        refine fn_bipush hV dX11_see_45 rfl ?_
        refine fn_iload_1 hV dX11_see_47 ?_
        refine fn_imul hV dX11_see_48 ?_
        refine fn_iload_2 hV dX11_see_49 ?_
        refine fn_iadd hV dX11_see_50 ?_
        refine fn_iald hV dX11_see_51 ar_53 (by omega) (by omega) ?_
        refine fn_istore_4 hV dX11_see_52 rfl rfl ?_
        refine fn_aload_0 hV dX11_see_54 ?_
        refine fn_getR hV dX11_see_55 fl_X11_13 fr_51_2 ?_
        refine fn_bipush hV dX11_see_58 rfl ?_
        refine fn_iload_1 hV dX11_see_60 ?_
        refine fn_imul hV dX11_see_61 ?_
        refine fn_iload_2 hV dX11_see_62 ?_
        refine fn_iadd hV dX11_see_63 ?_
        refine fn_iload_3 hV dX11_see_64 ?_
        refine fn_iast hV dX11_see_65 ar_53 (by omega) (by omega) ?_
        refine fn_iload_4 hV dX11_see_66 ?_
        exact fn_iret hR dX11_see_68 (zMP.up hσ1 (by unfold S_see; rw [if_neg (by omega), if_neg (by omega), f2]) (fun k hk => fnUp_ne _ _ _ (by omega)) (by rw [show U_see (mv σ) c0 h e1 = fnUp (mv σ) 2 (32 * c0 + h) e1 from by unfold U_see; exact if_pos (by omega)]; exact zsc_up1 hσ1 2 (by decide) _ _))
      · refine fn_sipush hV dX11_see_37 rfl ?_
        exact fn_iret hR dX11_see_40 (zMP.rfU hσ1 (by unfold S_see; (repeat' split) <;> first | omega | rfl) (by unfold U_see; exact if_neg (by omega)))
    · refine fn_sipush hV dX11_see_19 rfl ?_
      exact fn_iret hR dX11_see_22 (zMP.rfU hσ1 (by unfold S_see; (repeat' split) <;> first | omega | rfl) (by unfold U_see; exact if_neg (by omega)))

set_option maxHeartbeats 4000000 in
set_option maxRecDepth 20000 in
theorem c_X11_forget (E : fnE) (σ : fnMem) (hW : zWF (mv σ)) (c0 : Int) (h_c0 : fnR c0) (h : Int) (h_h : fnR h) : fnOk E mX11_forget [.ref 51, zI c0, zI h] σ (fnQI (zMP (S_forget (mv σ) c0 h) (U_forget (mv σ) c0 h) σ)) := by
  refine fnOk.of [.ref 51, zI c0, zI h] rfl (by decide +kernel) rfl (fun V hV hR => ?_)
  replace hV : fnCx E RX11 cX11_forget 3 2 45 V := hV
  replace hR : fnRt cX11_forget (some .int) _ V := hR
  refine fn_aload_0 hV dX11_forget_0 ?_
  refine fn_iconst hV dX11_forget_1 ?_
  refine fn_putIz hV 0 dX11_forget_2 fp_X11_96 fi_51_0 rfl ?_
  generalize hσ1 : fnUp σ 51 0 0 = σ1
  have e : ∀ k, k ≠ 51 → σ1 k = σ k := fun k hk => by rw [← hσ1, fnUp_ne _ _ _ hk]
  have e0 : ∀ j, j ≠ 0 → σ1 51 j = mv σ 0 j := fun j hj => by rw [← hσ1, fnUp_off _ _ _ hj]; rfl
  have f2 : mv σ 2 = σ1 53 := (e 53 (by decide)).symm
  have hs1 : ∀ i : Int, 0 ≤ i → i < 96 → σ1 53 i = -2009 ∨ (-600 ≤ σ1 53 i ∧ σ1 53 i ≤ 600) := by rw [← f2]; exact hW.2.1
  refine fn_iload_1 hV dX11_forget_5 ?_
  refine fn_cS1 hV (c_X11_noCompass E _ _ (by omega)) ms_X11_noCompass lk_X11_154 dX11_forget_6 ⟨rfl, rfl⟩ rfl ?_
  refine fn_ifnen hV dX11_forget_9 (fun q9 => ?_) (fun q9 => ?_)
  · refine fn_sipush hV dX11_forget_19 rfl ?_
    exact fn_iret hR dX11_forget_22 (zMP.rfU hσ1 (by unfold S_forget; (repeat' split) <;> first | omega | rfl) (by unfold U_forget; exact if_neg (by omega)))
  · refine fn_iload_2 hV dX11_forget_12 ?_
    refine fn_cS1 hV (c_X11_noHeading E _ _ (by omega)) ms_X11_noHeading lk_X11_162 dX11_forget_13 ⟨rfl, rfl⟩ rfl ?_
    refine fn_ifeqn hV dX11_forget_16 (fun q16 => ?_) (fun q16 => ?_)
    · have hs2 := hs1 (32 * c0 + h) (by omega) (by omega)
      have f3 : mv σ 2 (32 * c0 + h) = σ1 53 (32 * c0 + h) := by rw [f2]
      refine fn_aload_0 hV dX11_forget_23 ?_
      refine fn_getR hV dX11_forget_24 fl_X11_13 fr_51_2 ?_
      refine fn_bipush hV dX11_forget_27 rfl ?_
      refine fn_iload_1 hV dX11_forget_29 ?_
      refine fn_imul hV dX11_forget_30 ?_
      refine fn_iload_2 hV dX11_forget_31 ?_
      refine fn_iadd hV dX11_forget_32 ?_
      refine fn_iald hV dX11_forget_33 ar_53 (by omega) (by omega) ?_
      refine fn_sipush hV dX11_forget_34 rfl ?_
      refine fn_icmp_ne hV (by omega) (by omega) dX11_forget_37 (fun q37 => ?_) (fun q37 => ?_)
      · refine fn_aload_0 hV dX11_forget_44 ?_
        refine fn_getR hV dX11_forget_45 fl_X11_13 fr_51_2 ?_
        refine fn_bipush hV dX11_forget_48 rfl ?_
        refine fn_iload_1 hV dX11_forget_50 ?_
        refine fn_imul hV dX11_forget_51 ?_
        refine fn_iload_2 hV dX11_forget_52 ?_
        refine fn_iadd hV dX11_forget_53 ?_
        refine fn_sipush hV dX11_forget_54 rfl ?_
        refine fn_iast hV dX11_forget_57 ar_53 (by omega) (by omega) ?_
        refine fn_iconst hV dX11_forget_58 ?_
        exact fn_iret hR dX11_forget_59 (zMP.up hσ1 (by unfold S_forget; rw [if_neg (by omega), if_neg (by omega)]) (fun k hk => fnUp_ne _ _ _ (by omega)) (by rw [show U_forget (mv σ) c0 h = fnUp (mv σ) 2 (32 * c0 + h) (-2009) from by unfold U_forget; exact if_pos (by omega)]; exact zsc_up1 hσ1 2 (by decide) _ _))
      · refine fn_sipush hV dX11_forget_40 rfl ?_
        exact fn_iret hR dX11_forget_43 (zMP.rfU hσ1 (by unfold S_forget; (repeat' split) <;> first | omega | rfl) (by unfold U_forget; exact if_neg (by omega)))
    · refine fn_sipush hV dX11_forget_19 rfl ?_
      exact fn_iret hR dX11_forget_22 (zMP.rfU hσ1 (by unfold S_forget; (repeat' split) <;> first | omega | rfl) (by unfold U_forget; exact if_neg (by omega)))

set_option maxHeartbeats 4000000 in
set_option maxRecDepth 20000 in
theorem c_X11_seenOf (E : fnE) (σ : fnMem) (hs1 : ∀ i : Int, 0 ≤ i → i < 96 → σ 53 i = -2009 ∨ (-600 ≤ σ 53 i ∧ σ 53 i ≤ 600)) (c : Int) (hc : 0 ≤ c ∧ c ≤ 2)  : fnOk E mX11_seenOf [.ref 51, zI c] σ (fnIs (some (zI (zcnt (fun h => σ 53 (32 * c + h))))) σ) := by
  refine fnOk.of [.ref 51, zI c, .null, .null] rfl (by decide +kernel) rfl (fun V hV hR => ?_)
  replace hV : fnCx E RX11 cX11_seenOf 4 0 0 V := hV
  replace hR : fnRt cX11_seenOf (some .int) _ V := hR
  refine fn_iconst hV dX11_seenOf_0 ?_
  refine fn_istore_2 hV dX11_seenOf_1 rfl rfl ?_
  refine fn_iconst hV dX11_seenOf_2 ?_
  refine fn_istore_3 hV dX11_seenOf_3 rfl rfl ?_
  have L : ∀ k : Nat, k ≤ 32 → ∀ (i a : Int), True → (i = k) → (a = zsum (fun h => if (fun h => σ 53 (32 * c + h)) h ≠ -2009 then 1 else 0) k) → V 4 [.ref 51, zI c, zI a, zI i] [] σ := by
    refine fn_rec (fun k hk ihL => ?_)
    intro i a _ hi ha
    refine fn_iload_3 hV dX11_seenOf_4 ?_
    refine fn_bipush hV dX11_seenOf_5 rfl ?_
    refine fn_icmp_ge hV (by omega) (by omega) dX11_seenOf_7 (fun q7 => ?_) (fun q7 => ?_)
    · refine fn_iload_2 hV dX11_seenOf_41 ?_
      exact fn_iret hR dX11_seenOf_42 (fnIs.i (by rw [ha, show k = 32 by omega]; rfl))
    · have b1 := hs1 (32 * c + i) (by omega) (by omega)
      refine fn_iload_2 hV dX11_seenOf_10 ?_
      refine fn_aload_0 hV dX11_seenOf_11 ?_
      refine fn_getR hV dX11_seenOf_12 fl_X11_13 fr_51_2 ?_
      refine fn_bipush hV dX11_seenOf_15 rfl ?_
      refine fn_iload_1 hV dX11_seenOf_17 ?_
      refine fn_imul hV dX11_seenOf_18 ?_
      refine fn_iload_3 hV dX11_seenOf_19 ?_
      refine fn_iadd hV dX11_seenOf_20 ?_
      refine fn_iald hV dX11_seenOf_21 ar_53 (by omega) (by omega) ?_
      refine fn_sipush hV dX11_seenOf_22 rfl ?_
      refine fn_t_icmp_ne hV (by omega) (by omega) dX11_seenOf_25 dX11_seenOf_28 dX11_seenOf_29 dX11_seenOf_32 ?_
      refine fn_iadd hV dX11_seenOf_33 ?_
      refine fn_istore_2 hV dX11_seenOf_34 rfl rfl ?_
      refine fn_iinc_3 hV dX11_seenOf_35 rfl rfl ?_
      refine fn_goto hV dX11_seenOf_38 ?_
      exact ihL (k + 1) (by omega) (by omega) _ _ trivial (by omega) (by rw [zsum_s, ← hi, ha])
  exact L 0 (by omega) _ _ trivial (by omega) rfl

set_option maxHeartbeats 4000000 in
set_option maxRecDepth 20000 in
theorem c_X11_seen (E : fnE) (σ : fnMem) (hW : zWF (mv σ)) (c0 : Int) (h_c0 : fnR c0) : fnOk E mX11_seen [.ref 51, zI c0] σ (fnQI (zMP (S_seen (mv σ) c0) (mv σ) σ)) := by
  refine fnOk.of [.ref 51, zI c0] rfl (by decide +kernel) rfl (fun V hV hR => ?_)
  replace hV : fnCx E RX11 cX11_seen 2 2 45 V := hV
  replace hR : fnRt cX11_seen (some .int) _ V := hR
  refine fn_aload_0 hV dX11_seen_0 ?_
  refine fn_iconst hV dX11_seen_1 ?_
  refine fn_putIz hV 0 dX11_seen_2 fp_X11_96 fi_51_0 rfl ?_
  generalize hσ1 : fnUp σ 51 0 0 = σ1
  have e : ∀ k, k ≠ 51 → σ1 k = σ k := fun k hk => by rw [← hσ1, fnUp_ne _ _ _ hk]
  have e0 : ∀ j, j ≠ 0 → σ1 51 j = mv σ 0 j := fun j hj => by rw [← hσ1, fnUp_off _ _ _ hj]; rfl
  have f2 : mv σ 2 = σ1 53 := (e 53 (by decide)).symm
  have hs1 : ∀ i : Int, 0 ≤ i → i < 96 → σ1 53 i = -2009 ∨ (-600 ≤ σ1 53 i ∧ σ1 53 i ≤ 600) := by rw [← f2]; exact hW.2.1
  have fS : (fun h => σ1 53 (32 * c0 + h)) = vS (mv σ) c0 := by rw [← f2]; rfl
  refine fn_iload_1 hV dX11_seen_5 ?_
  refine fn_cS1 hV (c_X11_noCompass E _ _ (by omega)) ms_X11_noCompass lk_X11_154 dX11_seen_6 ⟨rfl, rfl⟩ rfl ?_
  refine fn_ifeqn hV dX11_seen_9 (fun q9 => ?_) (fun q9 => ?_)
  · refine fn_aload_0 hV dX11_seen_18 ?_
    refine fn_iload_1 hV dX11_seen_19 ?_
    refine fn_cV1 hV (c_X11_seenOf E _ hs1 _ (by omega)) mv_X11_seenOf lk_X11_185 dX11_seen_20 sh_51 rfl ⟨rfl, rfl⟩ rfl ?_
    exact fn_iret hR dX11_seen_23 (zMP.rf hσ1 (by unfold S_seen; first | (rw [if_pos (by omega)]; done) | (rw [if_neg (by omega), fS]; done)))
  · refine fn_sipush hV dX11_seen_12 rfl ?_
    refine fn_goto hV dX11_seen_15 ?_
    exact fn_iret hR dX11_seen_23 (zMP.rf hσ1 (by unfold S_seen; first | (rw [if_pos (by omega)]; done) | (rw [if_neg (by omega), fS]; done)))

set_option maxHeartbeats 4000000 in
set_option maxRecDepth 20000 in
theorem c_X11_residue (E : fnE) (σ : fnMem) (hW : zWF (mv σ)) (c0 : Int) (h_c0 : fnR c0) (h : Int) (h_h : fnR h) : fnOk E mX11_residue [.ref 51, zI c0, zI h] σ (fnQI (zMP (S_residue (mv σ) c0 h) (mv σ) σ)) := by
  refine fnOk.of [.ref 51, zI c0, zI h] rfl (by decide +kernel) rfl (fun V hV hR => ?_)
  replace hV : fnCx E RX11 cX11_residue 3 4 90 V := hV
  replace hR : fnRt cX11_residue (some .int) _ V := hR
  refine fn_aload_0 hV dX11_residue_0 ?_
  refine fn_iconst hV dX11_residue_1 ?_
  refine fn_putIz hV 0 dX11_residue_2 fp_X11_96 fi_51_0 rfl ?_
  generalize hσ1 : fnUp σ 51 0 0 = σ1
  have e : ∀ k, k ≠ 51 → σ1 k = σ k := fun k hk => by rw [← hσ1, fnUp_ne _ _ _ hk]
  have e0 : ∀ j, j ≠ 0 → σ1 51 j = mv σ 0 j := fun j hj => by rw [← hσ1, fnUp_off _ _ _ hj]; rfl
  have f1 : mv σ 1 = σ1 52 := (e 52 (by decide)).symm
  have f2 : mv σ 2 = σ1 53 := (e 53 (by decide)).symm
  have hp1 : ∀ i : Int, 0 ≤ i → i < 18 → -999 ≤ σ1 52 i ∧ σ1 52 i ≤ 999 := by rw [← f1]; exact hW.1
  have hs1 : ∀ i : Int, 0 ≤ i → i < 96 → σ1 53 i = -2009 ∨ (-600 ≤ σ1 53 i ∧ σ1 53 i ≤ 600) := by rw [← f2]; exact hW.2.1
  refine fn_iload_1 hV dX11_residue_5 ?_
  refine fn_cS1 hV (c_X11_noCompass E _ _ (by omega)) ms_X11_noCompass lk_X11_154 dX11_residue_6 ⟨rfl, rfl⟩ rfl ?_
  refine fn_ifnen hV dX11_residue_9 (fun q9 => ?_) (fun q9 => ?_)
  · refine fn_sipush hV dX11_residue_19 rfl ?_
    exact fn_iret hR dX11_residue_22 (zMP.rf hσ1 (by unfold S_residue; (repeat' split) <;> first | omega | rfl))
  · refine fn_iload_2 hV dX11_residue_12 ?_
    refine fn_cS1 hV (c_X11_noHeading E _ _ (by omega)) ms_X11_noHeading lk_X11_162 dX11_residue_13 ⟨rfl, rfl⟩ rfl ?_
    refine fn_ifeqn hV dX11_residue_16 (fun q16 => ?_) (fun q16 => ?_)
    · refine fn_aload_0 hV dX11_residue_23 ?_
      refine fn_iload_1 hV dX11_residue_24 ?_
      refine fn_cV1Q hV (c_X11_take E _ _ (by omega)) mv_X11_take lk_X11_168 dX11_residue_25 sh_51 rfl ⟨rfl, rfl⟩ rfl (fun σ2 hp => ?_)
      obtain ⟨tF, tv⟩ := hp
      have hP : ∀ j, 0 ≤ j → j < 6 → -32000 ≤ σ2 73 j ∧ σ2 73 j ≤ 32000 := fun j j0 j1 => by
        have := hp1 (6 * c0 + j) (by omega) (by omega)
        rw [tv j j0 j1]
        omega
      have hv : ∀ j, 0 ≤ j → j < 6 → σ2 73 j = vP (mv σ) c0 j := fun j j0 j1 => by rw [tv j j0 j1, ← f1]; rfl
      have e53 : σ2 53 = σ1 53 := tF 53 (by decide)
      have hs2 := hs1 (32 * c0 + h) (by omega) (by omega)
      rw [← e53] at hs2
      have f3 : mv σ 2 (32 * c0 + h) = σ2 53 (32 * c0 + h) := by rw [f2, e53]
      refine fn_aload_0 hV dX11_residue_28 ?_
      refine fn_getR hV dX11_residue_29 fl_X11_13 fr_51_2 ?_
      refine fn_bipush hV dX11_residue_32 rfl ?_
      refine fn_iload_1 hV dX11_residue_34 ?_
      refine fn_imul hV dX11_residue_35 ?_
      refine fn_iload_2 hV dX11_residue_36 ?_
      refine fn_iadd hV dX11_residue_37 ?_
      refine fn_iald hV dX11_residue_38 ar_53 (by omega) (by omega) ?_
      refine fn_sipush hV dX11_residue_39 rfl ?_
      refine fn_icmp_ne hV (by omega) (by omega) dX11_residue_42 (fun q42 => ?_) (fun q42 => ?_)
      · refine fn_aload_0 hV dX11_residue_51 ?_
        refine fn_getR hV dX11_residue_52 fl_X11_13 fr_51_2 ?_
        refine fn_bipush hV dX11_residue_55 rfl ?_
        refine fn_iload_1 hV dX11_residue_57 ?_
        refine fn_imul hV dX11_residue_58 ?_
        refine fn_iload_2 hV dX11_residue_59 ?_
        refine fn_iadd hV dX11_residue_60 ?_
        refine fn_iald hV dX11_residue_61 ar_53 (by omega) (by omega) ?_
        refine fn_aload_0 hV dX11_residue_62 ?_
        refine fn_iload_2 hV dX11_residue_63 ?_
        refine fn_iconst hV dX11_residue_64 ?_
        refine fn_cV2 hV (c_X11_errorOf E _ hP _ _ (by omega) (by omega)) mv_X11_errorOf lk_X11_138 dX11_residue_65 sh_51 rfl ⟨rfl, rfl⟩ rfl ?_
        refine fn_isub hV dX11_residue_68 ?_
        exact fn_iret hR dX11_residue_69 (zMP.fr hσ1 (tF.mono (by decide)) (by unfold S_residue; rw [if_neg (by omega), f3]; first | (rw [if_pos (by omega)]; done) | (rw [if_neg (by omega), zer_congr hv h 0]; done)))
      · refine fn_sipush hV dX11_residue_45 rfl ?_
        refine fn_goto hV dX11_residue_48 ?_
        exact fn_iret hR dX11_residue_69 (zMP.fr hσ1 (tF.mono (by decide)) (by unfold S_residue; rw [if_neg (by omega), f3]; first | (rw [if_pos (by omega)]; done) | (rw [if_neg (by omega), zer_congr hv h 0]; done)))
    · refine fn_sipush hV dX11_residue_19 rfl ?_
      exact fn_iret hR dX11_residue_22 (zMP.rf hσ1 (by unfold S_residue; (repeat' split) <;> first | omega | rfl))
