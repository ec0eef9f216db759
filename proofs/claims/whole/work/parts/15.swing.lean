set_option maxHeartbeats 4000000 in
set_option maxRecDepth 20000 in
theorem c_X10_within (E : fnE) (σ : fnMem) (v lo hi : Int) (hv : fnR v) (hlo : fnR lo) (hhi : fnR hi) : fnOk E mX10_within [zI v, zI lo, zI hi] σ (fnIs (some (zI (if lo ≤ v ∧ v ≤ hi then 1 else 0))) σ) := by
  refine fnOk.of [zI v, zI lo, zI hi] rfl (by decide +kernel) rfl (fun V hV hR => ?_)
  replace hV : fnCx E RX10 cX10_within 3 0 0 V := hV
  replace hR : fnRt cX10_within (some .boolean) _ V := hR
  refine fn_iload_0 hV dX10_within_0 ?_
  refine fn_iload_1 hV dX10_within_1 ?_
  refine fn_icmp_lt hV (by omega) (by omega) dX10_within_2 (fun q2 => ?_) (fun q2 => ?_)
  · refine fn_iconst hV dX10_within_14 ?_
    exact fn_zret hR dX10_within_15 (by first | exact Or.inl rfl | exact Or.inr rfl | (split <;> simp)) (fnIs.i (by split <;> omega))
  · refine fn_iload_0 hV dX10_within_5 ?_
    refine fn_iload_2 hV dX10_within_6 ?_
    refine fn_icmp_gt hV (by omega) (by omega) dX10_within_7 (fun q7 => ?_) (fun q7 => ?_)
    · refine fn_iconst hV dX10_within_14 ?_
      exact fn_zret hR dX10_within_15 (by first | exact Or.inl rfl | exact Or.inr rfl | (split <;> simp)) (fnIs.i (by split <;> omega))
    · refine fn_iconst hV dX10_within_10 ?_
      refine fn_goto hV dX10_within_11 ?_
      exact fn_zret hR dX10_within_15 (by first | exact Or.inl rfl | exact Or.inr rfl | (split <;> simp)) (fnIs.i (by split <;> omega))

set_option maxHeartbeats 4000000 in
set_option maxRecDepth 20000 in
theorem c_X10_isCompass (E : fnE) (σ : fnMem) (v : Int) (hv : fnR v) : fnOk E mX10_isCompass [zI v] σ (fnIs (some (zI (if 0 ≤ v ∧ v ≤ 2 then 1 else 0))) σ) := by
  refine fnOk.of [zI v] rfl (by decide +kernel) rfl (fun V hV hR => ?_)
  replace hV : fnCx E RX10 cX10_isCompass 1 1 22 V := hV
  replace hR : fnRt cX10_isCompass (some .boolean) _ V := hR
  refine fn_iload_0 hV dX10_isCompass_0 ?_
  refine fn_iconst hV dX10_isCompass_1 ?_
  refine fn_iconst hV dX10_isCompass_2 ?_
  refine fn_cS3 hV (c_X10_within E _ _ _ _ (by omega) (by omega) (by omega)) ms_X10_within lk_X10_106 dX10_isCompass_3 ⟨rfl, rfl⟩ rfl ?_
  exact fn_zret hR dX10_isCompass_6 (by first | exact Or.inl rfl | exact Or.inr rfl | (split <;> simp)) (fnIs.i rfl)

set_option maxHeartbeats 4000000 in
set_option maxRecDepth 20000 in
theorem c_X10_isHeading (E : fnE) (σ : fnMem) (v : Int) (hv : fnR v) : fnOk E mX10_isHeading [zI v] σ (fnIs (some (zI (if 0 ≤ v ∧ v ≤ 31 then 1 else 0))) σ) := by
  refine fnOk.of [zI v] rfl (by decide +kernel) rfl (fun V hV hR => ?_)
  replace hV : fnCx E RX10 cX10_isHeading 1 1 22 V := hV
  replace hR : fnRt cX10_isHeading (some .boolean) _ V := hR
  refine fn_iload_0 hV dX10_isHeading_0 ?_
  refine fn_iconst hV dX10_isHeading_1 ?_
  refine fn_bipush hV dX10_isHeading_2 rfl ?_
  refine fn_cS3 hV (c_X10_within E _ _ _ _ (by omega) (by omega) (by omega)) ms_X10_within lk_X10_106 dX10_isHeading_4 ⟨rfl, rfl⟩ rfl ?_
  exact fn_zret hR dX10_isHeading_7 (by first | exact Or.inl rfl | exact Or.inr rfl | (split <;> simp)) (fnIs.i rfl)

set_option maxHeartbeats 4000000 in
set_option maxRecDepth 20000 in
theorem c_X10_isPart (E : fnE) (σ : fnMem) (v : Int) (hv : fnR v) : fnOk E mX10_isPart [zI v] σ (fnIs (some (zI (if 0 ≤ v ∧ v ≤ 5 then 1 else 0))) σ) := by
  refine fnOk.of [zI v] rfl (by decide +kernel) rfl (fun V hV hR => ?_)
  replace hV : fnCx E RX10 cX10_isPart 1 1 22 V := hV
  replace hR : fnRt cX10_isPart (some .boolean) _ V := hR
  refine fn_iload_0 hV dX10_isPart_0 ?_
  refine fn_iconst hV dX10_isPart_1 ?_
  refine fn_iconst hV dX10_isPart_2 ?_
  refine fn_cS3 hV (c_X10_within E _ _ _ _ (by omega) (by omega) (by omega)) ms_X10_within lk_X10_106 dX10_isPart_3 ⟨rfl, rfl⟩ rfl ?_
  exact fn_zret hR dX10_isPart_6 (by first | exact Or.inl rfl | exact Or.inr rfl | (split <;> simp)) (fnIs.i rfl)

set_option maxHeartbeats 4000000 in
set_option maxRecDepth 20000 in
theorem c_X10_isReading (E : fnE) (σ : fnMem) (v : Int) (hv : fnR v) : fnOk E mX10_isReading [zI v] σ (fnIs (some (zI (if 0 ≤ v ∧ v ≤ 3199 then 1 else 0))) σ) := by
  refine fnOk.of [zI v] rfl (by decide +kernel) rfl (fun V hV hR => ?_)
  replace hV : fnCx E RX10 cX10_isReading 1 1 22 V := hV
  replace hR : fnRt cX10_isReading (some .boolean) _ V := hR
  refine fn_iload_0 hV dX10_isReading_0 ?_
  refine fn_iconst hV dX10_isReading_1 ?_
  refine fn_sipush hV dX10_isReading_2 rfl ?_
  refine fn_cS3 hV (c_X10_within E _ _ _ _ (by omega) (by omega) (by omega)) ms_X10_within lk_X10_106 dX10_isReading_5 ⟨rfl, rfl⟩ rfl ?_
  exact fn_zret hR dX10_isReading_8 (by first | exact Or.inl rfl | exact Or.inr rfl | (split <;> simp)) (fnIs.i rfl)

set_option maxHeartbeats 4000000 in
set_option maxRecDepth 20000 in
theorem c_X10_isHeel (E : fnE) (σ : fnMem) (v : Int) (hv : fnR v) : fnOk E mX10_isHeel [zI v] σ (fnIs (some (zI (if -30 ≤ v ∧ v ≤ 30 then 1 else 0))) σ) := by
  refine fnOk.of [zI v] rfl (by decide +kernel) rfl (fun V hV hR => ?_)
  replace hV : fnCx E RX10 cX10_isHeel 1 1 22 V := hV
  replace hR : fnRt cX10_isHeel (some .boolean) _ V := hR
  refine fn_iload_0 hV dX10_isHeel_0 ?_
  refine fn_bipush hV dX10_isHeel_1 rfl ?_
  refine fn_bipush hV dX10_isHeel_3 rfl ?_
  refine fn_cS3 hV (c_X10_within E _ _ _ _ (by omega) (by omega) (by omega)) ms_X10_within lk_X10_106 dX10_isHeel_5 ⟨rfl, rfl⟩ rfl ?_
  exact fn_zret hR dX10_isHeel_8 (by first | exact Or.inl rfl | exact Or.inr rfl | (split <;> simp)) (fnIs.i rfl)

set_option maxHeartbeats 4000000 in
set_option maxRecDepth 20000 in
theorem c_X10_isBar (E : fnE) (σ : fnMem) (v : Int) (hv : fnR v) : fnOk E mX10_isBar [zI v] σ (fnIs (some (zI (if 0 ≤ v ∧ v ≤ 5 then 1 else 0))) σ) := by
  refine fnOk.of [zI v] rfl (by decide +kernel) rfl (fun V hV hR => ?_)
  replace hV : fnCx E RX10 cX10_isBar 1 1 22 V := hV
  replace hR : fnRt cX10_isBar (some .boolean) _ V := hR
  refine fn_iload_0 hV dX10_isBar_0 ?_
  refine fn_iconst hV dX10_isBar_1 ?_
  refine fn_iconst hV dX10_isBar_2 ?_
  refine fn_cS3 hV (c_X10_within E _ _ _ _ (by omega) (by omega) (by omega)) ms_X10_within lk_X10_106 dX10_isBar_3 ⟨rfl, rfl⟩ rfl ?_
  exact fn_zret hR dX10_isBar_6 (by first | exact Or.inl rfl | exact Or.inr rfl | (split <;> simp)) (fnIs.i rfl)

set_option maxHeartbeats 4000000 in
set_option maxRecDepth 20000 in
theorem c_X10_isBall (E : fnE) (σ : fnMem) (v : Int) (hv : fnR v) : fnOk E mX10_isBall [zI v] σ (fnIs (some (zI (if 0 ≤ v ∧ v ≤ 3 then 1 else 0))) σ) := by
  refine fnOk.of [zI v] rfl (by decide +kernel) rfl (fun V hV hR => ?_)
  replace hV : fnCx E RX10 cX10_isBall 1 1 22 V := hV
  replace hR : fnRt cX10_isBall (some .boolean) _ V := hR
  refine fn_iload_0 hV dX10_isBall_0 ?_
  refine fn_iconst hV dX10_isBall_1 ?_
  refine fn_iconst hV dX10_isBall_2 ?_
  refine fn_cS3 hV (c_X10_within E _ _ _ _ (by omega) (by omega) (by omega)) ms_X10_within lk_X10_106 dX10_isBall_3 ⟨rfl, rfl⟩ rfl ?_
  exact fn_zret hR dX10_isBall_6 (by first | exact Or.inl rfl | exact Or.inr rfl | (split <;> simp)) (fnIs.i rfl)

set_option maxHeartbeats 4000000 in
set_option maxRecDepth 20000 in
theorem c_X10_isPlace (E : fnE) (σ : fnMem) (v : Int) (hv : fnR v) : fnOk E mX10_isPlace [zI v] σ (fnIs (some (zI (if 0 ≤ v ∧ v ≤ 7 then 1 else 0))) σ) := by
  refine fnOk.of [zI v] rfl (by decide +kernel) rfl (fun V hV hR => ?_)
  replace hV : fnCx E RX10 cX10_isPlace 1 1 22 V := hV
  replace hR : fnRt cX10_isPlace (some .boolean) _ V := hR
  refine fn_iload_0 hV dX10_isPlace_0 ?_
  refine fn_iconst hV dX10_isPlace_1 ?_
  refine fn_bipush hV dX10_isPlace_2 rfl ?_
  refine fn_cS3 hV (c_X10_within E _ _ _ _ (by omega) (by omega) (by omega)) ms_X10_within lk_X10_106 dX10_isPlace_4 ⟨rfl, rfl⟩ rfl ?_
  exact fn_zret hR dX10_isPlace_7 (by first | exact Or.inl rfl | exact Or.inr rfl | (split <;> simp)) (fnIs.i rfl)

set_option maxHeartbeats 4000000 in
set_option maxRecDepth 20000 in
theorem c_X10_isDay (E : fnE) (σ : fnMem) (v : Int) (hv : fnR v) : fnOk E mX10_isDay [zI v] σ (fnIs (some (zI (if 0 ≤ v ∧ v ≤ 999 then 1 else 0))) σ) := by
  refine fnOk.of [zI v] rfl (by decide +kernel) rfl (fun V hV hR => ?_)
  replace hV : fnCx E RX10 cX10_isDay 1 1 22 V := hV
  replace hR : fnRt cX10_isDay (some .boolean) _ V := hR
  refine fn_iload_0 hV dX10_isDay_0 ?_
  refine fn_iconst hV dX10_isDay_1 ?_
  refine fn_sipush hV dX10_isDay_2 rfl ?_
  refine fn_cS3 hV (c_X10_within E _ _ _ _ (by omega) (by omega) (by omega)) ms_X10_within lk_X10_106 dX10_isDay_5 ⟨rfl, rfl⟩ rfl ?_
  exact fn_zret hR dX10_isDay_8 (by first | exact Or.inl rfl | exact Or.inr rfl | (split <;> simp)) (fnIs.i rfl)

set_option maxHeartbeats 4000000 in
set_option maxRecDepth 20000 in
theorem c_X10_isLeg (E : fnE) (σ : fnMem) (v : Int) (hv : fnR v) (hL : 0 ≤ σ 36 6 ∧ σ 36 6 ≤ 40) : fnOk E mX10_isLeg [.ref 0, zI v] σ (fnIs (some (zI (if 0 ≤ v ∧ v ≤ σ 36 6 - 1 then 1 else 0))) σ) := by
  refine fnOk.of [.ref 0, zI v] rfl (by decide +kernel) rfl (fun V hV hR => ?_)
  replace hV : fnCx E RX10 cX10_isLeg 2 1 22 V := hV
  replace hR : fnRt cX10_isLeg (some .boolean) _ V := hR
  refine fn_iload_1 hV dX10_isLeg_0 ?_
  refine fn_iconst hV dX10_isLeg_1 ?_
  refine fn_aload_0 hV dX10_isLeg_2 ?_
  refine fn_getR hV dX10_isLeg_3 fl_X10_52 fr_0_6 ?_
  refine fn_getIz hV 6 dX10_isLeg_6 fl_X10_283 fi_36_6 rfl ?_
  refine fn_iconst hV dX10_isLeg_9 ?_
  refine fn_isub hV dX10_isLeg_10 ?_
  refine fn_cS3 hV (c_X10_within E _ _ _ _ (by omega) (by omega) (by omega)) ms_X10_within lk_X10_106 dX10_isLeg_11 ⟨rfl, rfl⟩ rfl ?_
  exact fn_zret hR dX10_isLeg_14 (by first | exact Or.inl rfl | exact Or.inr rfl | (split <;> simp)) (fnIs.i rfl)

set_option maxHeartbeats 4000000 in
set_option maxRecDepth 20000 in
theorem c_X10_drawnTrue (E : fnE) (σ : fnMem) (r : Int) (hr : 0 ≤ r ∧ r < 3200) (hd : ∀ h, 0 ≤ h → h < 32 → -1200000 ≤ σ 49 h ∧ σ 49 h ≤ 1200000) : fnOk E mX10_drawnTrue [.ref 0, zI r] σ (fnIs (some (zI (ztru (σ 49) r))) σ) := by
  refine fnOk.of [.ref 0, zI r, .null, .null] rfl (by decide +kernel) rfl (fun V hV hR => ?_)
  replace hV : fnCx E RX10 cX10_drawnTrue 4 3 70 V := hV
  replace hR : fnRt cX10_drawnTrue (some .int) _ V := hR
  have b1 := hd (r / 100) (by omega) (by omega)
  have b2 := hd ((r / 100 + 1) % 32) (by omega) (by omega)
  have b3 := zbtw_le (k := r % 100) b1 b2 (by omega)
  refine fn_iload_1 hV dX10_drawnTrue_0 ?_
  refine fn_bipush hV dX10_drawnTrue_1 rfl ?_
  refine fn_idivp hV dX10_drawnTrue_3 (by omega) (by omega) ?_
  refine fn_istore_2 hV dX10_drawnTrue_4 rfl rfl ?_
  refine fn_aload_0 hV dX10_drawnTrue_5 ?_
  refine fn_getR hV dX10_drawnTrue_6 fl_X10_75 fr_0_10 ?_
  refine fn_iload_2 hV dX10_drawnTrue_9 ?_
  refine fn_iald hV dX10_drawnTrue_10 ar_49 (by omega) (by omega) ?_
  refine fn_aload_0 hV dX10_drawnTrue_11 ?_
  refine fn_getR hV dX10_drawnTrue_12 fl_X10_75 fr_0_10 ?_
  refine fn_iload_2 hV dX10_drawnTrue_15 ?_
  refine fn_iconst hV dX10_drawnTrue_16 ?_
  refine fn_iadd hV dX10_drawnTrue_17 ?_
  refine fn_bipush hV dX10_drawnTrue_18 rfl ?_
  refine fn_iremp hV dX10_drawnTrue_20 (by omega) (by omega) ?_
  refine fn_iald hV dX10_drawnTrue_21 ar_49 (by omega) (by omega) ?_
  refine fn_iload_1 hV dX10_drawnTrue_22 ?_
  refine fn_bipush hV dX10_drawnTrue_23 rfl ?_
  refine fn_iremp hV dX10_drawnTrue_25 (by omega) (by omega) ?_
  refine fn_cS3 hV (c_X8_between E _ _ _ _ (by omega) (by omega) (by omega)) ms_X8_between lk_X10_370 dX10_drawnTrue_26 ⟨rfl, rfl⟩ rfl ?_
  refine fn_istore_3 hV dX10_drawnTrue_29 rfl rfl ?_
  refine fn_iload_1 hV dX10_drawnTrue_30 ?_
  refine fn_iload_3 hV dX10_drawnTrue_31 ?_
  refine fn_iadd hV dX10_drawnTrue_32 ?_
  refine fn_sipush hV dX10_drawnTrue_33 rfl ?_
  refine fn_cS2 hV (c_J9_floorMod_7cf53 E _ _ _ (by omega) (by omega) (by omega)) ms_J9_floorMod_7cf53 lk_X10_318 dX10_drawnTrue_36 ⟨rfl, rfl⟩ rfl ?_
  exact fn_iret hR dX10_drawnTrue_39 (fnIs.i rfl)

set_option maxHeartbeats 4000000 in
set_option maxRecDepth 20000 in
theorem c_X7_has (E : fnE) (σ : fnMem) (c : Nat) (hc : c < 3) (hS : ∀ h, 0 ≤ h → h < 32 → σ (14 + c) h = -2009 ∨ (-600 ≤ σ (14 + c) h ∧ σ (14 + c) h ≤ 600)) (h : Int) (hh : 0 ≤ h ∧ h < 32) : fnOk E mX7_has [.ref (11 + c), zI h] σ (fnIs (some (zI (if σ (14 + c) h ≠ -2009 then 1 else 0))) σ) := by
  refine fnOk.of [.ref (11 + c), zI h] rfl (by decide +kernel) rfl (fun V hV hR => ?_)
  replace hV : fnCx E RX7 cX7_has 2 0 0 V := hV
  replace hR : fnRt cX7_has (some .boolean) _ V := hR
  have s1 := hS h hh.1 hh.2
  refine fn_aload_0 hV dX7_has_0 ?_
  refine fn_getR hV dX7_has_1 fl_X7_9 (fr_swing (by omega)) ?_
  refine fn_iload_1 hV dX7_has_4 ?_
  refine fn_iald hV dX7_has_5 (ar_errs (by omega)) (by omega) (by omega) ?_
  refine fn_sipush hV dX7_has_6 rfl ?_
  refine fn_t_icmp_eq hV (by omega) (by omega) dX7_has_9 dX7_has_12 dX7_has_13 dX7_has_16 ?_
  exact fn_zret hR dX7_has_17 (by first | exact Or.inl rfl | exact Or.inr rfl | (split <;> simp)) (fnIs.i (by (repeat' split) <;> omega))

set_option maxHeartbeats 4000000 in
set_option maxRecDepth 20000 in
theorem c_X7_write (E : fnE) (σ : fnMem) (c : Nat) (hc : c < 3) (hS : ∀ h, 0 ≤ h → h < 32 → σ (14 + c) h = -2009 ∨ (-600 ≤ σ (14 + c) h ∧ σ (14 + c) h ≤ 600)) (h e : Int) (hh : 0 ≤ h ∧ h < 32) (he : fnR e) : fnOk E mX7_write [.ref (11 + c), zI h, zI e] σ (fnIs (some (zI (σ (14 + c) h))) (fnUp (fnUp σ (14 + c) h e) (11 + c) 1 (fnUp σ (14 + c) h e (11 + c) 1 + ((if e ≠ -2009 then 1 else 0) - (if σ (14 + c) h ≠ -2009 then 1 else 0))))) := by
  refine fnOk.of [.ref (11 + c), zI h, zI e, .null] rfl (by decide +kernel) rfl (fun V hV hR => ?_)
  replace hV : fnCx E RX7 cX7_write 4 0 0 V := hV
  replace hR : fnRt cX7_write (some .int) _ V := hR
  have s1 := hS h hh.1 hh.2
  refine fn_aload_0 hV dX7_write_0 ?_
  refine fn_getR hV dX7_write_1 fl_X7_9 (fr_swing (by omega)) ?_
  refine fn_iload_1 hV dX7_write_4 ?_
  refine fn_iald hV dX7_write_5 (ar_errs (by omega)) (by omega) (by omega) ?_
  refine fn_istore_3 hV dX7_write_6 rfl rfl ?_
  refine fn_aload_0 hV dX7_write_7 ?_
  refine fn_getR hV dX7_write_8 fl_X7_9 (fr_swing (by omega)) ?_
  refine fn_iload_1 hV dX7_write_11 ?_
  refine fn_iload_2 hV dX7_write_12 ?_
  refine fn_iast hV dX7_write_13 (ar_errs (by omega)) (by omega) (by omega) ?_
  refine fn_aload_0 hV dX7_write_14 ?_
  refine fn_dup hV dX7_write_15 rfl ?_
  refine fn_getIz hV 1 dX7_write_16 fl_X7_15 (fi_swing (by omega)) rfl ?_
  refine fn_iload_2 hV dX7_write_19 ?_
  refine fn_sipush hV dX7_write_20 rfl ?_
  refine fn_t_icmp_ne hV (by omega) (by omega) dX7_write_23 dX7_write_26 dX7_write_27 dX7_write_30 ?_
  refine fn_iload_3 hV dX7_write_31 ?_
  refine fn_sipush hV dX7_write_32 rfl ?_
  refine fn_t_icmp_ne hV (by omega) (by omega) dX7_write_35 dX7_write_38 dX7_write_39 dX7_write_42 ?_
  refine fn_isub hV dX7_write_43 ?_
  refine fn_iadd hV dX7_write_44 ?_
  refine fn_putIz hV 1 dX7_write_45 fp_X7_15 (fi_swing (by omega)) rfl ?_
  refine fn_iload_3 hV dX7_write_48 ?_
  exact fn_iret hR dX7_write_49 ⟨rfl, rfl⟩

/-- from x on by steps of d, how far the first that was seen is -/
def zup (F : Int → Int) (x d : Int) : Nat → Int → Int
  | 0, j => j
  | n + 1, j => if F ((x + j * d) % 32) ≠ -2009 then j else zup F x d n (j + 1)
def zlst (F : Int → Int) (x d u : Int) : Prop := 0 ≤ u ∧ u < 32 ∧ F ((x + u * d) % 32) ≠ -2009 ∧ ∀ j, 0 ≤ j → j < u → F ((x + j * d) % 32) = -2009
theorem zlst.up {F : Int → Int} {x d u : Int} (h : zlst F x d u) : zup F x d 32 0 = u := by
  obtain ⟨h1, h2, h3, h4⟩ := h
  have key : ∀ (n : Nat) (j : Int), 0 ≤ j → j ≤ u → u - j < n → zup F x d n j = u := by
    intro n
    induction n with
    | zero => intro j a b c; omega
    | succ n ih =>
      intro j a b c
      unfold zup
      by_cases hj : j = u
      · subst hj; rw [if_pos h3]
      · rw [if_neg (by intro q; exact q (h4 j a (by omega)))]
        exact ih (j + 1) (by omega) (by omega) (by omega)
  exact key 32 0 (by omega) h1 (by omega)
def zfill (F : Int → Int) (x : Int) : Int := if F x ≠ -2009 then F x else
  zrnd (F ((x + zup F x (-1) 32 0 * -1) % 32) * zup F x 1 32 0 + F ((x + zup F x 1 32 0 * 1) % 32) * zup F x (-1) 32 0) (zup F x (-1) 32 0 + zup F x 1 32 0)
def zany (F : Int → Int) : Prop := ∃ h, 0 ≤ h ∧ h < 32 ∧ F h ≠ -2009
theorem zlst_ex {F : Int → Int} (x d : Int) (hx : 0 ≤ x ∧ x < 32) (hd : d = 1 ∨ d = -1) (h : zany F) : ∃ u, zlst F x d u := by
  obtain ⟨y, y0, y1, hy⟩ := h
  have h0 : ∃ n : Nat, n < 32 ∧ F ((x + (n : Int) * d) % 32) ≠ -2009 := by
    rcases hd with rfl | rfl
    · refine ⟨((y - x) % 32).toNat, by omega, ?_⟩
      rw [show (x + (((y - x) % 32).toNat : Int) * 1) % 32 = y by omega]
      exact hy
    · refine ⟨((x - y) % 32).toNat, by omega, ?_⟩
      rw [show (x + (((x - y) % 32).toNat : Int) * -1) % 32 = y by omega]
      exact hy
  obtain ⟨n, hn, hq⟩ := pk_least (fun n : Nat => n < 32 ∧ F ((x + (n : Int) * d) % 32) ≠ -2009) h0
  refine ⟨n, by omega, by omega, hn.2, fun j j0 j1 => ?_⟩
  have := hq j.toNat (by omega)
  rw [show ((j.toNat : Nat) : Int) = j by omega] at this
  by_cases hz : F ((x + j * d) % 32) = -2009
  · exact hz
  · exact absurd ⟨by omega, hz⟩ this
theorem zup_congr {F G : Int → Int} (h : ∀ j, 0 ≤ j → j < 32 → F j = G j) (x d : Int) : ∀ (n : Nat) (j : Int), zup F x d n j = zup G x d n j
  | 0, _ => rfl
  | n + 1, j => by
    unfold zup
    rw [h _ (by omega) (by omega), zup_congr h x d n (j + 1)]
theorem zfill_congr {F G : Int → Int} (h : ∀ j, 0 ≤ j → j < 32 → F j = G j) {x : Int} (hx : 0 ≤ x ∧ x < 32) : zfill F x = zfill G x := by
  unfold zfill
  rw [h x hx.1 hx.2, zup_congr h, zup_congr h, h ((x + zup G x (-1) 32 0 * -1) % 32) (by omega) (by omega), h ((x + zup G x 1 32 0 * 1) % 32) (by omega) (by omega)]

set_option maxHeartbeats 4000000 in
set_option maxRecDepth 20000 in
theorem c_X7_stepsToSeen (E : fnE) (σ : fnMem) (c : Nat) (hc : c < 3) (hS : ∀ h, 0 ≤ h → h < 32 → σ (14 + c) h = -2009 ∨ (-600 ≤ σ (14 + c) h ∧ σ (14 + c) h ≤ 600)) (h d : Int) (hh : 0 ≤ h ∧ h < 32) (hd : d = 1 ∨ d = -1) (hn : σ (14 + c) h = -2009) (ha : zany (σ (14 + c))) : fnOk E mX7_stepsToSeen [.ref (11 + c), zI h, zI d] σ (fnQI (fun z σ1 => σ = σ1 ∧ 1 ≤ z ∧ zlst (σ (14 + c)) h d z)) := by
  refine fnOk.of [.ref (11 + c), zI h, zI d, .null] rfl (by decide +kernel) rfl (fun V hV hR => ?_)
  replace hV : fnCx E RX7 cX7_stepsToSeen 4 1 22 V := hV
  replace hR : fnRt cX7_stepsToSeen (some .int) _ V := hR
  refine fn_iconst hV dX7_stepsToSeen_0 ?_
  refine fn_istore_3 hV dX7_stepsToSeen_1 rfl rfl ?_
  have L : ∀ k : Nat, k ≤ 33 → ∀ (i : Int), True → (i = k) → (1 ≤ i) → (∀ j, 0 ≤ j → j < i → σ (14 + c) ((h + j * d) % 32) = -2009) → V 2 [.ref (11 + c), zI h, zI d, zI i] [] σ := by
    refine fn_rec (fun k hk ihL => ?_)
    intro i _ hi hi1 hv
    refine fn_iload_3 hV dX7_stepsToSeen_2 ?_
    refine fn_bipush hV dX7_stepsToSeen_3 rfl ?_
    refine fn_icmp_gt hV (by omega) (by omega) dX7_stepsToSeen_5 (fun q5 => ?_) (fun q5 => ?_)
    · refine fn_iconst hV dX7_stepsToSeen_33 ?_
      obtain ⟨u, u1, u2, u3, u4⟩ := zlst_ex h d hh hd ha
      exact absurd (hv u u1 (by omega)) u3
    · have e1 : (h + i * d) % 32 = (h + i * d) % 32 := rfl
      have m1 : -64 ≤ i * d ∧ i * d ≤ 64 := by rcases hd with rfl | rfl <;> omega
      refine fn_aload_0 hV dX7_stepsToSeen_8 ?_
      refine fn_iload_1 hV dX7_stepsToSeen_9 ?_
      refine fn_iload_3 hV dX7_stepsToSeen_10 ?_
      refine fn_iload_2 hV dX7_stepsToSeen_11 ?_
      refine fn_imul hV dX7_stepsToSeen_12 ?_
      refine fn_iadd hV dX7_stepsToSeen_13 ?_
      refine fn_bipush hV dX7_stepsToSeen_14 rfl ?_
      refine fn_cS2 hV (c_J9_floorMod_7cf53 E _ _ _ (by omega) (by omega) (by omega)) ms_J9_floorMod_7cf53 lk_X7_19 dX7_stepsToSeen_16 ⟨rfl, rfl⟩ rfl ?_
      refine fn_cV1 hV (c_X7_has E _ c hc hS _ (by omega)) mv_X7_has lk_X7_25 dX7_stepsToSeen_19 (sh_swing (by omega)) rfl ⟨rfl, rfl⟩ rfl ?_
      refine fn_ifeqb hV dX7_stepsToSeen_22 (fun q22 => ?_) (fun q22 => ?_)
      · refine fn_iinc_3 hV dX7_stepsToSeen_27 rfl rfl ?_
        refine fn_goto hV dX7_stepsToSeen_30 ?_
        exact ihL (k + 1) (by omega) (by omega) _ trivial (by omega) (by omega) (fun j j0 j1 => by
      by_cases hq : j = i
      · rw [hq]; exact Classical.not_not.mp q22
      · exact hv j j0 (by omega))
      · refine fn_iload_3 hV dX7_stepsToSeen_25 ?_
        have hi2 : i ≠ 32 := by
          intro hq
          rw [hq, show (h + 32 * d) % 32 = h by omega] at q22
          exact q22 hn
        exact fn_iret hR dX7_stepsToSeen_26 (fnQI.mk ⟨rfl, by omega, by omega, by omega, q22, fun j j0 j1 => hv j j0 j1⟩)
  exact L 1 (by omega) _ trivial (by omega) (by omega) (fun j j0 j1 => by
    have hj : j = 0 := by omega
    rw [hj, show (h + 0 * d) % 32 = h by omega]; exact hn)

theorem zavg_le {a b u v : Int} (ha : -600 ≤ a ∧ a ≤ 600) (hb : -600 ≤ b ∧ b ≤ 600) (hu : 0 ≤ u) (hv : 0 ≤ v) (h : 0 < u + v) : -600 ≤ zrnd (a * v + b * u) (u + v) ∧ zrnd (a * v + b * u) (u + v) ≤ 600 := by
  refine zrnd_le h ?_ ?_
  · have e1 : 0 ≤ (a + 600) * v := Int.mul_nonneg (by omega) hv
    have e2 : 0 ≤ (b + 600) * u := Int.mul_nonneg (by omega) hu
    rw [Int.add_mul] at e1 e2
    rw [Int.mul_add]
    omega
  · have e1 : 0 ≤ (600 - a) * v := Int.mul_nonneg (by omega) hv
    have e2 : 0 ≤ (600 - b) * u := Int.mul_nonneg (by omega) hu
    rw [Int.sub_mul] at e1 e2
    rw [Int.mul_add]
    omega
theorem zfill_le {F : Int → Int} (hS : ∀ h, 0 ≤ h → h < 32 → F h = -2009 ∨ (-600 ≤ F h ∧ F h ≤ 600)) {x : Int} (hx : 0 ≤ x ∧ x < 32) (ha : zany F) : -600 ≤ zfill F x ∧ zfill F x ≤ 600 := by
  unfold zfill
  split
  · have := hS x hx.1 hx.2; omega
  · rename_i hq
    obtain ⟨u, hu⟩ := zlst_ex x (-1) hx (Or.inr rfl) ha
    obtain ⟨v, hv⟩ := zlst_ex x 1 hx (Or.inl rfl) ha
    rw [hu.up, hv.up]
    obtain ⟨u1, u2, u3, u4⟩ := hu
    obtain ⟨v1, v2, v3, v4⟩ := hv
    have s1 := hS ((x + u * -1) % 32) (by omega) (by omega)
    have s2 := hS ((x + v * 1) % 32) (by omega) (by omega)
    have hu0 : u ≠ 0 := by
      intro h0
      rw [h0, show (x + 0 * -1) % 32 = x by omega] at u3
      exact hq u3
    exact zavg_le (by omega) (by omega) u1 v1 (by omega)
def zsum (G : Int → Int) : Nat → Int
  | 0 => 0
  | n + 1 => zsum G n + G n
theorem zsum_le {G : Int → Int} {B : Int} (hB : ∀ h : Int, 0 ≤ h → h < 32 → -B ≤ G h ∧ G h ≤ B) : ∀ n : Nat, n ≤ 32 → -(B * n) ≤ zsum G n ∧ zsum G n ≤ B * n
  | 0, _ => by simp [zsum]
  | n + 1, hn => by
    have ih := zsum_le hB n (by omega)
    have := hB n (by omega) (by omega)
    unfold zsum
    rw [show (((n + 1 : Nat)) : Int) = (n : Int) + 1 by omega, Int.mul_add]
    omega
theorem zsum_congr {F G : Int → Int} : ∀ n : Nat, (∀ h : Int, 0 ≤ h → h < n → F h = G h) → zsum F n = zsum G n
  | 0, _ => rfl
  | n + 1, h => by
    unfold zsum
    rw [zsum_congr n (fun q h0 h1 => h q h0 (by omega)), h n (by omega) (by omega)]
def zheld (v : Int) : Int := if 999 < v then 999 else if v < -999 then -999 else v
/-- part j of a swing taken apart -/
def zapt (F : Int → Int) (j : Int) : Int :=
  if j = 0 then zheld (zrnd (zsum (fun h => zfill F h) 32) 32)
  else if j = 1 then zheld (zrnd (zsum (fun h => zfill F h * zsn h) 32) 16000)
  else if j = 2 then zheld (zrnd (zsum (fun h => zfill F h * zcs h) 32) 16000)
  else if j = 3 then zheld (zrnd (zsum (fun h => zfill F h * zsn (2 * h)) 32) 16000)
  else zheld (zrnd (zsum (fun h => zfill F h * zcs (2 * h)) 32) 16000)
def zrow (F : Int → Int) : Nat → Int
  | 0 => 0
  | n + 1 => if F ((n : Int) % 32) ≠ -2009 then 0 else zrow F n + 1
def zlong (F : Int → Int) : Nat → Int
  | 0 => 0
  | n + 1 => zmax (zlong F n) (zrow F (n + 1))
theorem zrow_le (F : Int → Int) : ∀ n : Nat, 0 ≤ zrow F n ∧ zrow F n ≤ n
  | 0 => by simp [zrow]
  | n + 1 => by
    have := zrow_le F n
    unfold zrow
    split <;> omega
theorem zlong_le (F : Int → Int) : ∀ n : Nat, 0 ≤ zlong F n ∧ zlong F n ≤ n
  | 0 => by simp [zlong]
  | n + 1 => by
    have := zlong_le F n
    have := zrow_le F (n + 1)
    unfold zlong zmax
    split <;> omega
theorem zrow_congr {F G : Int → Int} (h : ∀ j, 0 ≤ j → j < 32 → F j = G j) : ∀ n : Nat, zrow F n = zrow G n
  | 0 => rfl
  | n + 1 => by
    unfold zrow
    rw [h _ (by omega) (by omega), zrow_congr h n]
theorem zlong_congr {F G : Int → Int} (h : ∀ j, 0 ≤ j → j < 32 → F j = G j) : ∀ n : Nat, zlong F n = zlong G n
  | 0 => rfl
  | n + 1 => by
    unfold zlong
    rw [zrow_congr h, zlong_congr h n]

set_option maxHeartbeats 4000000 in
set_option maxRecDepth 20000 in
theorem c_X7_fill (E : fnE) (σ : fnMem) (c : Nat) (hc : c < 3) (hS : ∀ h, 0 ≤ h → h < 32 → σ (14 + c) h = -2009 ∨ (-600 ≤ σ (14 + c) h ∧ σ (14 + c) h ≤ 600)) (h : Int) (hh : 0 ≤ h ∧ h < 32) (ha : zany (σ (14 + c))) : fnOk E mX7_fill [.ref (11 + c), zI h] σ (fnIs (some (zI (zfill (σ (14 + c)) h))) σ) := by
  refine fnOk.of [.ref (11 + c), zI h, .null, .null, .null, .null] rfl (by decide +kernel) rfl (fun V hV hR => ?_)
  replace hV : fnCx E RX7 cX7_fill 6 2 48 V := hV
  replace hR : fnRt cX7_fill (some .int) _ V := hR
  refine fn_aload_0 hV dX7_fill_0 ?_
  refine fn_iload_1 hV dX7_fill_1 ?_
  refine fn_cV1 hV (c_X7_has E _ c hc hS _ (by omega)) mv_X7_has lk_X7_25 dX7_fill_2 (sh_swing (by omega)) rfl ⟨rfl, rfl⟩ rfl ?_
  refine fn_ifeqb hV dX7_fill_5 (fun q5 => ?_) (fun q5 => ?_)
  · have hn : σ (14 + c) h = -2009 := Classical.not_not.mp q5
    refine fn_aload_0 hV dX7_fill_15 ?_
    refine fn_iload_1 hV dX7_fill_16 ?_
    refine fn_iconst hV dX7_fill_17 ?_
    refine fn_cV2I hV (c_X7_stepsToSeen E _ c hc hS _ _ (by omega) (by omega) hn ha) mv_X7_stepsToSeen lk_X7_29 dX7_fill_18 (sh_swing (by omega)) rfl ⟨rfl, rfl⟩ rfl (fun u σ1 hp => ?_)
    obtain ⟨rfl, hu1, hu⟩ := hp
    refine fn_istore_2 hV dX7_fill_21 rfl rfl ?_
    refine fn_aload_0 hV dX7_fill_22 ?_
    refine fn_iload_1 hV dX7_fill_23 ?_
    refine fn_iconst hV dX7_fill_24 ?_
    refine fn_cV2I hV (c_X7_stepsToSeen E _ c hc hS _ _ (by omega) (by omega) hn ha) mv_X7_stepsToSeen lk_X7_29 dX7_fill_25 (sh_swing (by omega)) rfl ⟨rfl, rfl⟩ rfl (fun v σ1 hp => ?_)
    obtain ⟨rfl, hv1, hv⟩ := hp
    refine fn_istore_3 hV dX7_fill_28 rfl rfl ?_
    have s1 := hS ((h - u) % 32) (by omega) (by omega)
    have s2 := hS ((h + v) % 32) (by omega) (by omega)
    have u2 := hu.2.1
    have v2 := hv.2.1
    have u3 := hu.2.2.1
    have v3 := hv.2.2.1
    rw [show (h + u * -1) % 32 = (h - u) % 32 by omega] at u3
    rw [show (h + v * 1) % 32 = (h + v) % 32 by omega] at v3
    have m1 := zmul_le (a := σ (14 + c) ((h - u) % 32)) (b := v) (A := 600) (B := 32) (by omega) (by omega) (by omega) (by omega)
    have m2 := zmul_le (a := σ (14 + c) ((h + v) % 32)) (b := u) (A := 600) (B := 32) (by omega) (by omega) (by omega) (by omega)
    refine fn_aload_0 hV dX7_fill_29 ?_
    refine fn_getR hV dX7_fill_30 fl_X7_9 (fr_swing (by omega)) ?_
    refine fn_iload_1 hV dX7_fill_33 ?_
    refine fn_iload_2 hV dX7_fill_34 ?_
    refine fn_isub hV dX7_fill_35 ?_
    refine fn_bipush hV dX7_fill_36 rfl ?_
    refine fn_cS2 hV (c_J9_floorMod_7cf53 E _ _ _ (by omega) (by omega) (by omega)) ms_J9_floorMod_7cf53 lk_X7_19 dX7_fill_38 ⟨rfl, rfl⟩ rfl ?_
    refine fn_iald hV dX7_fill_41 (ar_errs (by omega)) (by omega) (by omega) ?_
    refine fn_istore_4 hV dX7_fill_42 rfl rfl ?_
    refine fn_aload_0 hV dX7_fill_44 ?_
    refine fn_getR hV dX7_fill_45 fl_X7_9 (fr_swing (by omega)) ?_
    refine fn_iload_1 hV dX7_fill_48 ?_
    refine fn_iload_3 hV dX7_fill_49 ?_
    refine fn_iadd hV dX7_fill_50 ?_
    refine fn_bipush hV dX7_fill_51 rfl ?_
    refine fn_cS2 hV (c_J9_floorMod_7cf53 E _ _ _ (by omega) (by omega) (by omega)) ms_J9_floorMod_7cf53 lk_X7_19 dX7_fill_53 ⟨rfl, rfl⟩ rfl ?_
    refine fn_iald hV dX7_fill_56 (ar_errs (by omega)) (by omega) (by omega) ?_
    refine fn_istore_5 hV dX7_fill_57 rfl rfl ?_
    refine fn_iload_4 hV dX7_fill_59 ?_
    refine fn_i2lr hV dX7_fill_61 (by omega) ?_
    refine fn_iload_3 hV dX7_fill_62 ?_
    refine fn_i2lr hV dX7_fill_63 (by omega) ?_
    refine fn_lmul hV dX7_fill_64 ?_
    refine fn_iload_5 hV dX7_fill_65 ?_
    refine fn_i2lr hV dX7_fill_67 (by omega) ?_
    refine fn_iload_2 hV dX7_fill_68 ?_
    refine fn_i2lr hV dX7_fill_69 (by omega) ?_
    refine fn_lmul hV dX7_fill_70 ?_
    refine fn_ladd hV dX7_fill_71 ?_
    refine fn_iload_2 hV dX7_fill_72 ?_
    refine fn_iload_3 hV dX7_fill_73 ?_
    refine fn_iadd hV dX7_fill_74 ?_
    refine fn_i2lr hV dX7_fill_75 (by omega) ?_
    refine fn_cS2 hV (c_X8_rounded E _ _ _ (by omega) (by omega)) ms_X8_rounded lk_X7_32 dX7_fill_76 ⟨rfl, rfl⟩ rfl ?_
    refine fn_l2i hV dX7_fill_79 ?_
    refine fn_iret hR dX7_fill_80 (fnIs.i ?_)
    unfold zfill
    rw [if_neg (by intro q; exact q hn), hu.up, hv.up, show (h - u) % 32 = (h + u * -1) % 32 by omega, show (h + v) % 32 = (h + v * 1) % 32 by omega]
  · refine fn_aload_0 hV dX7_fill_8 ?_
    refine fn_getR hV dX7_fill_9 fl_X7_9 (fr_swing (by omega)) ?_
    refine fn_iload_1 hV dX7_fill_12 ?_
    refine fn_iald hV dX7_fill_13 (ar_errs (by omega)) (by omega) (by omega) ?_
    exact fn_iret hR dX7_fill_14 (fnIs.i (by unfold zfill; rw [if_pos q5]))

set_option maxHeartbeats 4000000 in
set_option maxRecDepth 20000 in
theorem c_X7_longestGap (E : fnE) (σ : fnMem) (c : Nat) (hc : c < 3) (hS : ∀ h, 0 ≤ h → h < 32 → σ (14 + c) h = -2009 ∨ (-600 ≤ σ (14 + c) h ∧ σ (14 + c) h ≤ 600)) (hm : 0 ≤ σ (11 + c) 1 ∧ σ (11 + c) 1 ≤ 32) : fnOk E mX7_longestGap [.ref (11 + c)] σ (fnIs (some (zI (if σ (11 + c) 1 = 0 then 32 else zlong (σ (14 + c)) 64))) σ) := by
  refine fnOk.of [.ref (11 + c), .null, .null, .null] rfl (by decide +kernel) rfl (fun V hV hR => ?_)
  replace hV : fnCx E RX7 cX7_longestGap 4 1 21 V := hV
  replace hR : fnRt cX7_longestGap (some .int) _ V := hR
  refine fn_aload_0 hV dX7_longestGap_0 ?_
  refine fn_getIz hV 1 dX7_longestGap_1 fl_X7_15 (fi_swing (by omega)) rfl ?_
  refine fn_if_ne hV (by omega) dX7_longestGap_4 (fun q4 => ?_) (fun q4 => ?_)
  · refine fn_iconst hV dX7_longestGap_10 ?_
    refine fn_istore_1 hV dX7_longestGap_11 rfl rfl ?_
    refine fn_iconst hV dX7_longestGap_12 ?_
    refine fn_istore_2 hV dX7_longestGap_13 rfl rfl ?_
    refine fn_iconst hV dX7_longestGap_14 ?_
    refine fn_istore_3 hV dX7_longestGap_15 rfl rfl ?_
    have L : ∀ k : Nat, k ≤ 64 → ∀ (i lg rw : Int), True → (i = k) → (rw = zrow (σ (14 + c)) k) → (lg = zlong (σ (14 + c)) k) → V 16 [.ref (11 + c), zI lg, zI rw, zI i] [] σ := by
      refine fn_rec (fun k hk ihL => ?_)
      intro i lg rw _ hi h1 h2
      refine fn_iload_3 hV dX7_longestGap_16 ?_
      refine fn_bipush hV dX7_longestGap_17 rfl ?_
      refine fn_icmp_ge hV (by omega) (by omega) dX7_longestGap_19 (fun q19 => ?_) (fun q19 => ?_)
      · refine fn_iload_1 hV dX7_longestGap_53 ?_
        exact fn_iret hR dX7_longestGap_54 (fnIs.i (by rw [if_neg q4, h2, show k = 64 by omega]))
      · have z1 := zrow_le (σ (14 + c)) k
        have z2 := zlong_le (σ (14 + c)) k
        refine fn_aload_0 hV dX7_longestGap_22 ?_
        refine fn_iload_3 hV dX7_longestGap_23 ?_
        refine fn_bipush hV dX7_longestGap_24 rfl ?_
        refine fn_iremp hV dX7_longestGap_26 (by omega) (by omega) ?_
        refine fn_cV1 hV (c_X7_has E _ c hc hS _ (by omega)) mv_X7_has lk_X7_25 dX7_longestGap_27 (sh_swing (by omega)) rfl ⟨rfl, rfl⟩ rfl ?_
        refine fn_ifeqb hV dX7_longestGap_30 (fun q30 => ?_) (fun q30 => ?_)
        · refine fn_iload_2 hV dX7_longestGap_37 ?_
          refine fn_iconst hV dX7_longestGap_38 ?_
          refine fn_iadd hV dX7_longestGap_39 ?_
          refine fn_istore_2 hV dX7_longestGap_40 rfl rfl ?_
          refine fn_iload_1 hV dX7_longestGap_41 ?_
          refine fn_iload_2 hV dX7_longestGap_42 ?_
          refine fn_cS2 hV (c_J9_max_7cf53 E _ _ _ (by omega) (by omega)) ms_J9_max_7cf53 lk_X7_38 dX7_longestGap_43 ⟨rfl, rfl⟩ rfl ?_
          refine fn_istore_1 hV dX7_longestGap_46 rfl rfl ?_
          refine fn_iinc_3 hV dX7_longestGap_47 rfl rfl ?_
          refine fn_goto hV dX7_longestGap_50 ?_
          exact ihL (k + 1) (by omega) (by omega) _ _ _ trivial (by omega) (by rw [zrow, if_neg (by rw [← hi]; exact q30), h1]) (by rw [zlong, zrow, if_neg (by rw [← hi]; exact q30), h2, h1])
        · refine fn_iconst hV dX7_longestGap_33 ?_
          refine fn_goto hV dX7_longestGap_34 ?_
          refine fn_istore_2 hV dX7_longestGap_40 rfl rfl ?_
          refine fn_iload_1 hV dX7_longestGap_41 ?_
          refine fn_iload_2 hV dX7_longestGap_42 ?_
          refine fn_cS2 hV (c_J9_max_7cf53 E _ _ _ (by omega) (by omega)) ms_J9_max_7cf53 lk_X7_38 dX7_longestGap_43 ⟨rfl, rfl⟩ rfl ?_
          refine fn_istore_1 hV dX7_longestGap_46 rfl rfl ?_
          refine fn_iinc_3 hV dX7_longestGap_47 rfl rfl ?_
          refine fn_goto hV dX7_longestGap_50 ?_
          exact ihL (k + 1) (by omega) (by omega) _ _ _ trivial (by omega) (by rw [zrow, if_pos (by rw [← hi]; exact q30)]) (by rw [zlong, zrow, if_pos (by rw [← hi]; exact q30), h2])
    exact L 0 (by omega) _ _ _ trivial (by omega) rfl rfl
  · refine fn_bipush hV dX7_longestGap_7 rfl ?_
    exact fn_iret hR dX7_longestGap_9 (fnIs.i (by rw [if_pos q4]))

set_option maxHeartbeats 4000000 in
set_option maxRecDepth 20000 in
theorem c_X7_asPart (E : fnE) (σ : fnMem) (a b : Int) (ha : fnR a) (hb : 0 < b ∧ b < 2147483648) : fnOk E mX7_asPart [zI a, zI b] σ (fnIs (some (zI (zheld (zrnd a b)))) σ) := by
  refine fnOk.of [zI a, zI b, .null, .null] rfl (by decide +kernel) rfl (fun V hV hR => ?_)
  replace hV : fnCx E RX7 cX7_asPart 4 2 48 V := hV
  replace hR : fnRt cX7_asPart (some .int) _ V := hR
  have b1 := zrnd_le (a := a) (b := b) (B := 2147483648) hb.1 (by have := Int.mul_le_mul_of_nonneg_left (a := 1) (b := b) (c := 2147483648) (by omega) (by decide); omega) (by have := Int.mul_le_mul_of_nonneg_left (a := 1) (b := b) (c := 2147483648) (by omega) (by decide); omega)
  have b2 : -2147483648 ≤ zmin 999 (zrnd a b) ∧ zmin 999 (zrnd a b) ≤ 999 := by unfold zmin; split <;> omega
  refine fn_iload_0 hV dX7_asPart_0 ?_
  refine fn_i2lr hV dX7_asPart_1 (by omega) ?_
  refine fn_iload_1 hV dX7_asPart_2 ?_
  refine fn_i2lr hV dX7_asPart_3 (by omega) ?_
  refine fn_cS2 hV (c_X8_rounded E _ _ _ (by omega) (by omega)) ms_X8_rounded lk_X7_32 dX7_asPart_4 ⟨rfl, rfl⟩ rfl ?_
  refine fn_lstore_2 hV dX7_asPart_7 rfl rfl ?_
  refine fn_ldc2 hV dX7_asPart_8 co_X7_59 ?_
  refine fn_ldc2 hV dX7_asPart_11 co_X7_61 ?_
  refine fn_lload_2 hV dX7_asPart_14 ?_
  refine fn_cS2 hV (c_J9_min_f86c9 E _ _ _ (by omega) (by omega)) ms_J9_min_f86c9 lk_X7_63 dX7_asPart_15 ⟨rfl, rfl⟩ rfl ?_
  refine fn_cS2 hV (c_J9_max_f86c9 E _ _ _ (by omega) (by omega)) ms_J9_max_f86c9 lk_X7_66 dX7_asPart_18 ⟨rfl, rfl⟩ rfl ?_
  refine fn_l2i hV dX7_asPart_21 ?_
  exact fn_iret hR dX7_asPart_22 (fnIs.i (by unfold zheld zmax zmin; (repeat' split) <;> omega))

set_option maxHeartbeats 4000000 in
set_option maxRecDepth 20000 in
theorem c_X7_takeApart (E : fnE) (σ : fnMem) (c : Nat) (hc : c < 3) (hS : ∀ h, 0 ≤ h → h < 32 → σ (14 + c) h = -2009 ∨ (-600 ≤ σ (14 + c) h ∧ σ (14 + c) h ≤ 600)) (ha : zany (σ (14 + c))) (d : Nat) (hd : d < 3) : fnOk E mX7_takeApart [.ref (11 + c), .ref (3 + d)] σ (fnQv (fun σ1 => fnFr [7 + d] σ σ1 ∧ (∀ j, 0 ≤ j → j < 5 → σ1 (7 + d) j = zapt (σ (14 + c)) j) ∧ σ1 (7 + d) 5 = σ (7 + d) 5)) := by
  refine fnOk.of [.ref (11 + c), .ref (3 + d), .null, .null, .null, .null, .null, .null, .null] rfl (by decide +kernel) rfl (fun V hV hR => ?_)
  replace hV : fnCx E RX7 cX7_takeApart 9 3 73 V := hV
  replace hR : fnRt cX7_takeApart none _ V := hR
  refine fn_iconst hV dX7_takeApart_0 ?_
  refine fn_istore_2 hV dX7_takeApart_1 rfl rfl ?_
  refine fn_iconst hV dX7_takeApart_2 ?_
  refine fn_istore_3 hV dX7_takeApart_3 rfl rfl ?_
  refine fn_iconst hV dX7_takeApart_4 ?_
  refine fn_istore_4 hV dX7_takeApart_5 rfl rfl ?_
  refine fn_iconst hV dX7_takeApart_7 ?_
  refine fn_istore_5 hV dX7_takeApart_8 rfl rfl ?_
  refine fn_iconst hV dX7_takeApart_10 ?_
  refine fn_istore_6 hV dX7_takeApart_11 rfl rfl ?_
  refine fn_iconst hV dX7_takeApart_13 ?_
  refine fn_istore_7 hV dX7_takeApart_14 rfl rfl ?_
  have L : ∀ k : Nat, k ≤ 32 → ∀ (i a0 a1 a2 a3 a4 : Int), True → (i = k) → (a0 = zsum (fun h => zfill (σ (14 + c)) h) k) → (a1 = zsum (fun h => zfill (σ (14 + c)) h * zsn h) k) → (a2 = zsum (fun h => zfill (σ (14 + c)) h * zcs h) k) → (a3 = zsum (fun h => zfill (σ (14 + c)) h * zsn (2 * h)) k) → (a4 = zsum (fun h => zfill (σ (14 + c)) h * zcs (2 * h)) k) → V 16 [.ref (11 + c), .ref (3 + d), zI a0, zI a1, zI a2, zI a3, zI a4, zI i, .null] [] σ := by
    refine fn_rec (fun k hk ihL => ?_)
    intro i a0 a1 a2 a3 a4 _ hi h0 h1 h2 h3 h4
    refine fn_iload_7 hV dX7_takeApart_16 ?_
    refine fn_bipush hV dX7_takeApart_18 rfl ?_
    refine fn_icmp_ge hV (by omega) (by omega) dX7_takeApart_20 (fun q20 => ?_) (fun q20 => ?_)
    · have hk32 : k = 32 := by omega
      subst hk32
      have g0 := zsum_le (G := (fun h => zfill (σ (14 + c)) h)) (B := 600) (fun h h0 h1 => by
        have f1 := zfill_le hS (x := h) (by omega) ha
        exact f1) 32 (by omega)
      have g1 := zsum_le (G := (fun h => zfill (σ (14 + c)) h * zsn h)) (B := 600000) (fun h h0 h1 => by
        have f1 := zfill_le hS (x := h) (by omega) ha
        have m := zmul_le (A := 600) (B := 1000) f1.1 f1.2 (zsn_le h).1 (zsn_le h).2; exact m) 32 (by omega)
      have g2 := zsum_le (G := (fun h => zfill (σ (14 + c)) h * zcs h)) (B := 600000) (fun h h0 h1 => by
        have f1 := zfill_le hS (x := h) (by omega) ha
        have m := zmul_le (A := 600) (B := 1000) f1.1 f1.2 (zcs_le h).1 (zcs_le h).2; exact m) 32 (by omega)
      have g3 := zsum_le (G := (fun h => zfill (σ (14 + c)) h * zsn (2 * h))) (B := 600000) (fun h h0 h1 => by
        have f1 := zfill_le hS (x := h) (by omega) ha
        have m := zmul_le (A := 600) (B := 1000) f1.1 f1.2 (zsn_le (2 * h)).1 (zsn_le (2 * h)).2; exact m) 32 (by omega)
      have g4 := zsum_le (G := (fun h => zfill (σ (14 + c)) h * zcs (2 * h))) (B := 600000) (fun h h0 h1 => by
        have f1 := zfill_le hS (x := h) (by omega) ha
        have m := zmul_le (A := 600) (B := 1000) f1.1 f1.2 (zcs_le (2 * h)).1 (zcs_le (2 * h)).2; exact m) 32 (by omega)
      refine fn_aload_1 hV dX7_takeApart_96 ?_
      refine fn_getR hV dX7_takeApart_97 fl_X7_51 (fr_card (by omega)) ?_
      refine fn_iconst hV dX7_takeApart_100 ?_
      refine fn_iload_2 hV dX7_takeApart_101 ?_
      refine fn_bipush hV dX7_takeApart_102 rfl ?_
      refine fn_cS2 hV (c_X7_asPart E _ _ _ (by omega) (by omega)) ms_X7_asPart lk_X7_56 dX7_takeApart_104 ⟨rfl, rfl⟩ rfl ?_
      refine fn_iast hV dX7_takeApart_107 (ar_cp (by omega)) (by omega) (by omega) ?_
      refine fn_aload_1 hV dX7_takeApart_108 ?_
      refine fn_getR hV dX7_takeApart_109 fl_X7_51 (fr_card (by omega)) ?_
      refine fn_iconst hV dX7_takeApart_112 ?_
      refine fn_iload_3 hV dX7_takeApart_113 ?_
      refine fn_sipush hV dX7_takeApart_114 rfl ?_
      refine fn_cS2 hV (c_X7_asPart E _ _ _ (by omega) (by omega)) ms_X7_asPart lk_X7_56 dX7_takeApart_117 ⟨rfl, rfl⟩ rfl ?_
      refine fn_iast hV dX7_takeApart_120 (ar_cp (by omega)) (by omega) (by omega) ?_
      refine fn_aload_1 hV dX7_takeApart_121 ?_
      refine fn_getR hV dX7_takeApart_122 fl_X7_51 (fr_card (by omega)) ?_
      refine fn_iconst hV dX7_takeApart_125 ?_
      refine fn_iload_4 hV dX7_takeApart_126 ?_
      refine fn_sipush hV dX7_takeApart_128 rfl ?_
      refine fn_cS2 hV (c_X7_asPart E _ _ _ (by omega) (by omega)) ms_X7_asPart lk_X7_56 dX7_takeApart_131 ⟨rfl, rfl⟩ rfl ?_
      refine fn_iast hV dX7_takeApart_134 (ar_cp (by omega)) (by omega) (by omega) ?_
      refine fn_aload_1 hV dX7_takeApart_135 ?_
      refine fn_getR hV dX7_takeApart_136 fl_X7_51 (fr_card (by omega)) ?_
      refine fn_iconst hV dX7_takeApart_139 ?_
      refine fn_iload_5 hV dX7_takeApart_140 ?_
      refine fn_sipush hV dX7_takeApart_142 rfl ?_
      refine fn_cS2 hV (c_X7_asPart E _ _ _ (by omega) (by omega)) ms_X7_asPart lk_X7_56 dX7_takeApart_145 ⟨rfl, rfl⟩ rfl ?_
      refine fn_iast hV dX7_takeApart_148 (ar_cp (by omega)) (by omega) (by omega) ?_
      refine fn_aload_1 hV dX7_takeApart_149 ?_
      refine fn_getR hV dX7_takeApart_150 fl_X7_51 (fr_card (by omega)) ?_
      refine fn_iconst hV dX7_takeApart_153 ?_
      refine fn_iload_6 hV dX7_takeApart_154 ?_
      refine fn_sipush hV dX7_takeApart_156 rfl ?_
      refine fn_cS2 hV (c_X7_asPart E _ _ _ (by omega) (by omega)) ms_X7_asPart lk_X7_56 dX7_takeApart_159 ⟨rfl, rfl⟩ rfl ?_
      refine fn_iast hV dX7_takeApart_162 (ar_cp (by omega)) (by omega) (by omega) ?_
      refine fn_vret hR dX7_takeApart_163 (fnQv.mk ⟨((((fnFr.rf.up (List.mem_singleton.mpr rfl)).up (List.mem_singleton.mpr rfl)).up (List.mem_singleton.mpr rfl)).up (List.mem_singleton.mpr rfl)).up (List.mem_singleton.mpr rfl), fun j j0 j1 => ?_, ?_⟩)
      · have : j = 0 ∨ j = 1 ∨ j = 2 ∨ j = 3 ∨ j = 4 := by omega
        rcases this with rfl | rfl | rfl | rfl | rfl <;> simp [fnUp_same, zapt, h0, h1, h2, h3, h4]
      · simp [fnUp_same]
    · refine fn_aload_0 hV dX7_takeApart_23 ?_
      refine fn_iload_7 hV dX7_takeApart_24 ?_
      refine fn_cV1 hV (c_X7_fill E _ c hc hS _ (by omega) ha) mv_X7_fill lk_X7_41 dX7_takeApart_26 (sh_swing (by omega)) rfl ⟨rfl, rfl⟩ rfl ?_
      refine fn_istore_8 hV dX7_takeApart_29 rfl rfl ?_
      refine fn_iload_2 hV dX7_takeApart_31 ?_
      refine fn_iload_8 hV dX7_takeApart_32 ?_
      refine fn_iadd hV dX7_takeApart_34 ?_
      refine fn_istore_2 hV dX7_takeApart_35 rfl rfl ?_
      refine fn_iload_3 hV dX7_takeApart_36 ?_
      refine fn_iload_8 hV dX7_takeApart_37 ?_
      refine fn_iload_7 hV dX7_takeApart_39 ?_
      refine fn_cS1 hV (c_X8_sin E _ _) ms_X8_sin lk_X7_45 dX7_takeApart_41 ⟨rfl, rfl⟩ rfl ?_
      refine fn_imul hV dX7_takeApart_44 ?_
      refine fn_iadd hV dX7_takeApart_45 ?_
      refine fn_istore_3 hV dX7_takeApart_46 rfl rfl ?_
      refine fn_iload_4 hV dX7_takeApart_47 ?_
      refine fn_iload_8 hV dX7_takeApart_49 ?_
      refine fn_iload_7 hV dX7_takeApart_51 ?_
      refine fn_cS1 hV (c_X8_cos E _ _) ms_X8_cos lk_X7_48 dX7_takeApart_53 ⟨rfl, rfl⟩ rfl ?_
      refine fn_imul hV dX7_takeApart_56 ?_
      refine fn_iadd hV dX7_takeApart_57 ?_
      refine fn_istore_4 hV dX7_takeApart_58 rfl rfl ?_
      refine fn_iload_5 hV dX7_takeApart_60 ?_
      refine fn_iload_8 hV dX7_takeApart_62 ?_
      refine fn_iconst hV dX7_takeApart_64 ?_
      refine fn_iload_7 hV dX7_takeApart_65 ?_
      refine fn_imul hV dX7_takeApart_67 ?_
      refine fn_cS1 hV (c_X8_sin E _ _) ms_X8_sin lk_X7_45 dX7_takeApart_68 ⟨rfl, rfl⟩ rfl ?_
      refine fn_imul hV dX7_takeApart_71 ?_
      refine fn_iadd hV dX7_takeApart_72 ?_
      refine fn_istore_5 hV dX7_takeApart_73 rfl rfl ?_
      refine fn_iload_6 hV dX7_takeApart_75 ?_
      refine fn_iload_8 hV dX7_takeApart_77 ?_
      refine fn_iconst hV dX7_takeApart_79 ?_
      refine fn_iload_7 hV dX7_takeApart_80 ?_
      refine fn_imul hV dX7_takeApart_82 ?_
      refine fn_cS1 hV (c_X8_cos E _ _) ms_X8_cos lk_X7_48 dX7_takeApart_83 ⟨rfl, rfl⟩ rfl ?_
      refine fn_imul hV dX7_takeApart_86 ?_
      refine fn_iadd hV dX7_takeApart_87 ?_
      refine fn_istore_6 hV dX7_takeApart_88 rfl rfl ?_
      refine fn_iinc_7 hV dX7_takeApart_90 rfl rfl ?_
      refine fn_goto hV dX7_takeApart_93 ?_
      refine fn_nul_8 hV ?_
      exact ihL (k + 1) (by omega) (by omega) _ _ _ _ _ _ trivial (by omega) (by rw [zsum, ← h0, ← hi]) (by rw [zsum, ← h1, ← hi]) (by rw [zsum, ← h2, ← hi]) (by rw [zsum, ← h3, ← hi]) (by rw [zsum, ← h4, ← hi])
  exact L 0 (by omega) _ _ _ _ _ _ trivial (by omega) rfl rfl rfl rfl rfl

set_option maxHeartbeats 4000000 in
set_option maxRecDepth 20000 in
theorem c_X10_residueOn (E : fnE) (σ : fnMem) (c : Nat) (hc : c < 3) (hS : ∀ h, 0 ≤ h → h < 32 → σ (14 + c) h = -2009 ∨ (-600 ≤ σ (14 + c) h ∧ σ (14 + c) h ≤ 600)) (hP : ∀ j, 0 ≤ j → j < 6 → -32000 ≤ σ (7 + c) j ∧ σ (7 + c) j ≤ 32000) (h : Int) (hh : 0 ≤ h ∧ h < 32) : fnOk E mX10_residueOn [.ref 0, zI c, zI h] σ (fnIs (some (zI (σ (14 + c) h - zer (σ (7 + c)) h 0))) σ) := by
  refine fnOk.of [.ref 0, zI c, zI h] rfl (by decide +kernel) rfl (fun V hV hR => ?_)
  replace hV : fnCx E RX10 cX10_residueOn 3 3 73 V := hV
  replace hR : fnRt cX10_residueOn (some .int) _ V := hR
  refine fn_aload_0 hV dX10_residueOn_0 ?_
  refine fn_getR hV dX10_residueOn_1 fl_X10_17 fr_0_1 ?_
  refine fn_iload_1 hV dX10_residueOn_4 ?_
  refine fn_aaldS hV c dX10_residueOn_5 (by omega) rfl ?_
  refine fn_getR hV dX10_residueOn_6 fl_X10_374 (fr_swing (by omega)) ?_
  refine fn_iload_2 hV dX10_residueOn_9 ?_
  refine fn_iald hV dX10_residueOn_10 (ar_errs (by omega)) (by omega) (by omega) ?_
  refine fn_aload_0 hV dX10_residueOn_11 ?_
  refine fn_getR hV dX10_residueOn_12 fl_X10_11 fr_0_0 ?_
  refine fn_iload_1 hV dX10_residueOn_15 ?_
  refine fn_aaldC hV c dX10_residueOn_16 (by omega) rfl ?_
  refine fn_iload_2 hV dX10_residueOn_17 ?_
  refine fn_iconst hV dX10_residueOn_18 ?_
  refine fn_cV2 hV (c_X0_errorOn E _ c (by omega) hP _ _ (by omega)) mv_X0_errorOn lk_X10_119 dX10_residueOn_19 (sh_card (by omega)) rfl ⟨rfl, rfl⟩ rfl ?_
  refine fn_isub hV dX10_residueOn_22 ?_
  exact fn_iret hR dX10_residueOn_23 (fnIs.i rfl)
