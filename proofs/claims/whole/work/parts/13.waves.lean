set_option maxHeartbeats 4000000 in
set_option maxRecDepth 20000 in
theorem c_J9_abs_0f7a4 (E : fnE) (σ : fnMem) (x : Int) (hx : -2147483648 < x ∧ x < 2147483648) : fnOk E mJ9_abs_0f7a4 [zI x] σ (fnIs (some (zI (zabs x))) σ) := by
  refine fnOk.of [zI x] rfl (by decide +kernel) rfl (fun V hV hR => ?_)
  replace hV : fnCx E RJ9 cJ9_abs_0f7a4 1 0 0 V := hV
  replace hR : fnRt cJ9_abs_0f7a4 (some .int) _ V := hR
  refine fn_iload_0 hV dJ9_abs_0f7a4_0 ?_
  refine fn_if_ge hV (by omega) dJ9_abs_0f7a4_1 (fun q1 => ?_) (fun q1 => ?_)
  · refine fn_iload_0 hV dJ9_abs_0f7a4_9 ?_
    exact fn_iret hR dJ9_abs_0f7a4_10 (fnIs.i (by unfold zabs; split <;> omega))
  · refine fn_iload_0 hV dJ9_abs_0f7a4_4 ?_
    refine fn_ineg hV dJ9_abs_0f7a4_5 ?_
    refine fn_goto hV dJ9_abs_0f7a4_6 ?_
    exact fn_iret hR dJ9_abs_0f7a4_10 (fnIs.i (by unfold zabs; split <;> omega))

def zmax (x y : Int) : Int := if x < y then y else x
def zmin (x y : Int) : Int := if x ≤ y then x else y

set_option maxHeartbeats 4000000 in
set_option maxRecDepth 20000 in
theorem c_J9_max_7cf53 (E : fnE) (σ : fnMem) (x y : Int) (hx : fnR x) (hy : fnR y) : fnOk E mJ9_max_7cf53 [zI x, zI y] σ (fnIs (some (zI (zmax x y))) σ) := by
  refine fnOk.of [zI x, zI y] rfl (by decide +kernel) rfl (fun V hV hR => ?_)
  replace hV : fnCx E RJ9 cJ9_max_7cf53 2 0 0 V := hV
  replace hR : fnRt cJ9_max_7cf53 (some .int) _ V := hR
  refine fn_iload_0 hV dJ9_max_7cf53_0 ?_
  refine fn_iload_1 hV dJ9_max_7cf53_1 ?_
  refine fn_icmp_lt hV (by omega) (by omega) dJ9_max_7cf53_2 (fun q2 => ?_) (fun q2 => ?_)
  · refine fn_iload_1 hV dJ9_max_7cf53_9 ?_
    exact fn_iret hR dJ9_max_7cf53_10 (fnIs.i (by unfold zmax; split <;> omega))
  · refine fn_iload_0 hV dJ9_max_7cf53_5 ?_
    refine fn_goto hV dJ9_max_7cf53_6 ?_
    exact fn_iret hR dJ9_max_7cf53_10 (fnIs.i (by unfold zmax; split <;> omega))

set_option maxHeartbeats 4000000 in
set_option maxRecDepth 20000 in
theorem c_J9_max_f86c9 (E : fnE) (σ : fnMem) (x y : Int) (hx : fnRl x) (hy : fnRl y) : fnOk E mJ9_max_f86c9 [zL x, zL y] σ (fnIs (some (zL (zmax x y))) σ) := by
  refine fnOk.of [zL x, .null, zL y, .null] rfl (by decide +kernel) rfl (fun V hV hR => ?_)
  replace hV : fnCx E RJ9 cJ9_max_f86c9 4 0 0 V := hV
  replace hR : fnRt cJ9_max_f86c9 (some .long) _ V := hR
  refine fn_lload_0 hV dJ9_max_f86c9_0 ?_
  refine fn_lload_2 hV dJ9_max_f86c9_1 ?_
  refine fn_lcmp_lt hV (by omega) (by omega) dJ9_max_f86c9_2 dJ9_max_f86c9_3 (fun q2 => ?_) (fun q2 => ?_)
  · refine fn_lload_2 hV dJ9_max_f86c9_10 ?_
    exact fn_lret hR dJ9_max_f86c9_11 (fnIs.l (by unfold zmax; split <;> omega))
  · refine fn_lload_0 hV dJ9_max_f86c9_6 ?_
    refine fn_goto hV dJ9_max_f86c9_7 ?_
    exact fn_lret hR dJ9_max_f86c9_11 (fnIs.l (by unfold zmax; split <;> omega))

set_option maxHeartbeats 4000000 in
set_option maxRecDepth 20000 in
theorem c_J9_min_f86c9 (E : fnE) (σ : fnMem) (x y : Int) (hx : fnRl x) (hy : fnRl y) : fnOk E mJ9_min_f86c9 [zL x, zL y] σ (fnIs (some (zL (zmin x y))) σ) := by
  refine fnOk.of [zL x, .null, zL y, .null] rfl (by decide +kernel) rfl (fun V hV hR => ?_)
  replace hV : fnCx E RJ9 cJ9_min_f86c9 4 0 0 V := hV
  replace hR : fnRt cJ9_min_f86c9 (some .long) _ V := hR
  refine fn_lload_0 hV dJ9_min_f86c9_0 ?_
  refine fn_lload_2 hV dJ9_min_f86c9_1 ?_
  refine fn_lcmp_gt hV (by omega) (by omega) dJ9_min_f86c9_2 dJ9_min_f86c9_3 (fun q2 => ?_) (fun q2 => ?_)
  · refine fn_lload_2 hV dJ9_min_f86c9_10 ?_
    exact fn_lret hR dJ9_min_f86c9_11 (fnIs.l (by unfold zmin; split <;> omega))
  · refine fn_lload_0 hV dJ9_min_f86c9_6 ?_
    refine fn_goto hV dJ9_min_f86c9_7 ?_
    exact fn_lret hR dJ9_min_f86c9_11 (fnIs.l (by unfold zmin; split <;> omega))

set_option maxHeartbeats 4000000 in
set_option maxRecDepth 20000 in
theorem c_J9_floorMod_7cf53 (E : fnE) (σ : fnMem) (x y : Int) (hx : fnR x) (hy : 0 < y) (hy2 : y < 2147483648) : fnOk E mJ9_floorMod_7cf53 [zI x, zI y] σ (fnIs (some (zI (x % y))) σ) := by
  refine fnOk.of [zI x, zI y, .null] rfl (by decide +kernel) rfl (fun V hV hR => ?_)
  replace hV : fnCx E RJ9 cJ9_floorMod_7cf53 3 0 0 V := hV
  replace hR : fnRt cJ9_floorMod_7cf53 (some .int) _ V := hR
  have hm := Int.tmod_lt_of_pos x hy
  have hm2 := Int.lt_tmod_of_pos x hy
  have e := zxorI (x := x) (y := y) (by omega) (by omega) hy
  have hs : x < 0 → x.tmod y ≤ 0 := fun q => by
    have := Int.tmod_nonneg (a := -x) y (by omega)
    rw [Int.neg_tmod] at this
    omega
  have hs2 : 0 ≤ x → 0 ≤ x.tmod y := fun q => Int.tmod_nonneg y q
  refine fn_iload_0 hV dJ9_floorMod_7cf53_0 ?_
  refine fn_iload_1 hV dJ9_floorMod_7cf53_1 ?_
  refine fn_irem hV dJ9_floorMod_7cf53_2 (by omega) (by omega) (by omega) ?_
  refine fn_istore_2 hV dJ9_floorMod_7cf53_3 rfl rfl ?_
  refine fn_iload_0 hV dJ9_floorMod_7cf53_4 ?_
  refine fn_iload_1 hV dJ9_floorMod_7cf53_5 ?_
  refine fn_ixor hV dJ9_floorMod_7cf53_6 ?_
  refine fn_if_ge hV (zR32 _) dJ9_floorMod_7cf53_7 (fun q7 => ?_) (fun q7 => ?_)
  · refine fn_iload_2 hV dJ9_floorMod_7cf53_18 ?_
    exact fn_iret hR dJ9_floorMod_7cf53_19 (fnIs.i (by rw [ztmod_fl hy]; split <;> omega))
  · refine fn_iload_2 hV dJ9_floorMod_7cf53_10 ?_
    refine fn_if_eq hV (by omega) dJ9_floorMod_7cf53_11 (fun q11 => ?_) (fun q11 => ?_)
    · refine fn_iload_2 hV dJ9_floorMod_7cf53_18 ?_
      exact fn_iret hR dJ9_floorMod_7cf53_19 (fnIs.i (by rw [ztmod_fl hy]; split <;> omega))
    · refine fn_iload_2 hV dJ9_floorMod_7cf53_14 ?_
      refine fn_iload_1 hV dJ9_floorMod_7cf53_15 ?_
      refine fn_iadd hV dJ9_floorMod_7cf53_16 ?_
      exact fn_iret hR dJ9_floorMod_7cf53_17 (fnIs.i (by rw [ztmod_fl hy]; split <;> omega))

set_option maxHeartbeats 4000000 in
set_option maxRecDepth 20000 in
theorem c_J9_floorDiv_f86c9 (E : fnE) (σ : fnMem) (x y : Int) (hx : fnRl x) (hy : 0 < y) (hy2 : fnRl y) : fnOk E mJ9_floorDiv_f86c9 [zL x, zL y] σ (fnIs (some (zL (x / y))) σ) := by
  refine fnOk.of [zL x, .null, zL y, .null, .null, .null] rfl (by decide +kernel) rfl (fun V hV hR => ?_)
  replace hV : fnCx E RJ9 cJ9_floorDiv_f86c9 6 0 0 V := hV
  replace hR : fnRt cJ9_floorDiv_f86c9 (some .long) _ V := hR
  have hm := Int.tmod_lt_of_pos x hy
  have hm2 := Int.lt_tmod_of_pos x hy
  have hm3 := Int.tmod_add_mul_tdiv x y
  rw [Int.mul_comm] at hm3
  have e := zxorL (x := x) (y := y) hx hy2 hy
  have hs : x < 0 → x.tmod y ≤ 0 := fun q => by
    have := Int.tmod_nonneg (a := -x) y (by omega)
    rw [Int.neg_tmod] at this
    omega
  have hs2 : 0 ≤ x → 0 ≤ x.tmod y := fun q => Int.tmod_nonneg y q
  refine fn_lload_0 hV dJ9_floorDiv_f86c9_0 ?_
  refine fn_lload_2 hV dJ9_floorDiv_f86c9_1 ?_
  refine fn_ldiv hV dJ9_floorDiv_f86c9_2 (by omega) (by omega) (by omega) ?_
  refine fn_lstore_4 hV dJ9_floorDiv_f86c9_3 rfl rfl ?_
  refine fn_lload_0 hV dJ9_floorDiv_f86c9_5 ?_
  refine fn_lload_2 hV dJ9_floorDiv_f86c9_6 ?_
  refine fn_lxor hV dJ9_floorDiv_f86c9_7 ?_
  refine fn_lconst0 hV dJ9_floorDiv_f86c9_8 ?_
  refine fn_lcmp_ge hV (zR64 _) (by omega) dJ9_floorDiv_f86c9_9 dJ9_floorDiv_f86c9_10 (fun q9 => ?_) (fun q9 => ?_)
  · refine fn_lload_4 hV dJ9_floorDiv_f86c9_27 ?_
    exact fn_lret hR dJ9_floorDiv_f86c9_29 (fnIs.l (by rw [ztdiv_fl hy]; split <;> omega))
  · refine fn_lload_4 hV dJ9_floorDiv_f86c9_13 ?_
    refine fn_lload_2 hV dJ9_floorDiv_f86c9_15 ?_
    refine fn_lmul hV dJ9_floorDiv_f86c9_16 ?_
    refine fn_lload_0 hV dJ9_floorDiv_f86c9_17 ?_
    refine fn_lcmp_eq hV (by omega) (by omega) dJ9_floorDiv_f86c9_18 dJ9_floorDiv_f86c9_19 (fun q18 => ?_) (fun q18 => ?_)
    · refine fn_lload_4 hV dJ9_floorDiv_f86c9_27 ?_
      exact fn_lret hR dJ9_floorDiv_f86c9_29 (fnIs.l (by rw [ztdiv_fl hy]; split <;> omega))
    · refine fn_lload_4 hV dJ9_floorDiv_f86c9_22 ?_
      refine fn_lconst1 hV dJ9_floorDiv_f86c9_24 ?_
      refine fn_lsub hV dJ9_floorDiv_f86c9_25 ?_
      exact fn_lret hR dJ9_floorDiv_f86c9_26 (fnIs.l (by rw [ztdiv_fl hy]; split <;> omega))

set_option maxHeartbeats 4000000 in
set_option maxRecDepth 20000 in
theorem c_X8_sin (E : fnE) (σ : fnMem) (p : Int) : fnOk E mX8_sin [zI p] σ (fnIs (some (zI (zsn p))) σ) := by
  refine fnOk.of [zI p] rfl (by decide +kernel) rfl (fun V hV hR => ?_)
  replace hV : fnCx E RX8 cX8_sin 1 0 0 V := hV
  replace hR : fnRt cX8_sin (some .int) _ V := hR
  refine fn_gets hV dX8_sin_0 fl_SINES ?_
  refine fn_iload_0 hV dX8_sin_3 ?_
  refine fn_bipush hV dX8_sin_4 rfl ?_
  refine fn_iand hV 5 dX8_sin_6 (by decide) rfl ?_
  rw [show (2 : Int) ^ 5 = 32 from rfl]
  refine fn_sin hV dX8_sin_7 (by omega) (by omega) ?_
  exact fn_iret hR dX8_sin_8 (fnIs.i rfl)

set_option maxHeartbeats 4000000 in
set_option maxRecDepth 20000 in
theorem c_X8_cos (E : fnE) (σ : fnMem) (p : Int) : fnOk E mX8_cos [zI p] σ (fnIs (some (zI (zcs p))) σ) := by
  refine fnOk.of [zI p] rfl (by decide +kernel) rfl (fun V hV hR => ?_)
  replace hV : fnCx E RX8 cX8_cos 1 0 0 V := hV
  replace hR : fnRt cX8_cos (some .int) _ V := hR
  refine fn_gets hV dX8_cos_0 fl_SINES ?_
  refine fn_iload_0 hV dX8_cos_3 ?_
  refine fn_bipush hV dX8_cos_4 rfl ?_
  refine fn_iadd hV dX8_cos_6 ?_
  refine fn_bipush hV dX8_cos_7 rfl ?_
  refine fn_iand hV 5 dX8_cos_9 (by decide) rfl ?_
  rw [show (2 : Int) ^ 5 = 32 from rfl]
  refine fn_sin hV dX8_cos_10 (by omega) (by omega) ?_
  exact fn_iret hR dX8_cos_11 (fnIs.i rfl)

set_option maxHeartbeats 4000000 in
set_option maxRecDepth 20000 in
theorem c_X8_rounded (E : fnE) (σ : fnMem) (a b : Int) (ha : -1152921504606846976 < a ∧ a < 1152921504606846976) (hb : 0 < b ∧ b < 1152921504606846976) : fnOk E mX8_rounded [zL a, zL b] σ (fnIs (some (zL (zrnd a b))) σ) := by
  refine fnOk.of [zL a, .null, zL b, .null] rfl (by decide +kernel) rfl (fun V hV hR => ?_)
  replace hV : fnCx E RX8 cX8_rounded 4 1 25 V := hV
  replace hR : fnRt cX8_rounded (some .long) _ V := hR
  refine fn_lload_2 hV dX8_rounded_0 ?_
  refine fn_lconst0 hV dX8_rounded_1 ?_
  refine fn_lcmp_gt hV (by omega) (by omega) dX8_rounded_2 dX8_rounded_3 (fun q2 => ?_) (fun q2 => ?_)
  · refine fn_ldc2 hV dX8_rounded_8 co_X8_15 ?_
    refine fn_lload_0 hV dX8_rounded_11 ?_
    refine fn_lmul hV dX8_rounded_12 ?_
    refine fn_lload_2 hV dX8_rounded_13 ?_
    refine fn_ladd hV dX8_rounded_14 ?_
    refine fn_ldc2 hV dX8_rounded_15 co_X8_15 ?_
    refine fn_lload_2 hV dX8_rounded_18 ?_
    refine fn_lmul hV dX8_rounded_19 ?_
    refine fn_cS2 hV (c_J9_floorDiv_f86c9 E _ _ _ (by omega) (by omega) (by omega)) ms_J9_floorDiv_f86c9 lk_X8_17 dX8_rounded_20 ⟨rfl, rfl⟩ rfl ?_
    exact fn_lret hR dX8_rounded_23 (fnIs.l rfl)
  · exact absurd q2 (by omega)

set_option maxHeartbeats 4000000 in
set_option maxRecDepth 20000 in
theorem c_X8_between (E : fnE) (σ : fnMem) (a b k : Int) (ha : fnR a) (hb : fnR b) (hk : 0 ≤ k ∧ k ≤ 100) : fnOk E mX8_between [zI a, zI b, zI k] σ (fnIs (some (zI (zbtw a b k))) σ) := by
  refine fnOk.of [zI a, zI b, zI k] rfl (by decide +kernel) rfl (fun V hV hR => ?_)
  replace hV : fnCx E RX8 cX8_between 3 2 48 V := hV
  replace hR : fnRt cX8_between (some .int) _ V := hR
  have h1 := zmul_le (a := a) (b := 100 - k) (A := 2147483648) (B := 100) (by omega) (by omega) (by omega) (by omega)
  have h2 := zmul_le (a := b) (b := k) (A := 2147483648) (B := 100) (by omega) (by omega) (by omega) (by omega)
  refine fn_iload_0 hV dX8_between_0 ?_
  refine fn_i2lr hV dX8_between_1 (by omega) ?_
  refine fn_bipush hV dX8_between_2 rfl ?_
  refine fn_iload_2 hV dX8_between_4 ?_
  refine fn_isub hV dX8_between_5 ?_
  refine fn_i2lr hV dX8_between_6 (by omega) ?_
  refine fn_lmul hV dX8_between_7 ?_
  refine fn_iload_1 hV dX8_between_8 ?_
  refine fn_i2lr hV dX8_between_9 (by omega) ?_
  refine fn_iload_2 hV dX8_between_10 ?_
  refine fn_i2lr hV dX8_between_11 (by omega) ?_
  refine fn_lmul hV dX8_between_12 ?_
  refine fn_ladd hV dX8_between_13 ?_
  refine fn_ldc2 hV dX8_between_14 co_X8_23 ?_
  refine fn_cS2 hV (c_X8_rounded E _ _ _ (by omega) (by omega)) ms_X8_rounded lk_X8_25 dX8_between_17 ⟨rfl, rfl⟩ rfl ?_
  refine fn_l2i hV dX8_between_20 ?_
  exact fn_iret hR dX8_between_21 (fnIs.i rfl)

set_option maxHeartbeats 4000000 in
set_option maxRecDepth 20000 in
theorem c_X8_sineAt (E : fnE) (σ : fnMem) (r : Int) (hr : 0 ≤ r ∧ r < 3200) : fnOk E mX8_sineAt [zI r] σ (fnIs (some (zI (zsine r))) σ) := by
  refine fnOk.of [zI r, .null] rfl (by decide +kernel) rfl (fun V hV hR => ?_)
  replace hV : fnCx E RX8 cX8_sineAt 2 3 70 V := hV
  replace hR : fnRt cX8_sineAt (some .int) _ V := hR
  have h1 := zsn_le (r / 100)
  have h2 := zsn_le (r / 100 + 1)
  refine fn_iload_0 hV dX8_sineAt_0 ?_
  refine fn_bipush hV dX8_sineAt_1 rfl ?_
  refine fn_idivp hV dX8_sineAt_3 (by omega) (by omega) ?_
  refine fn_istore_1 hV dX8_sineAt_4 rfl rfl ?_
  refine fn_iload_1 hV dX8_sineAt_5 ?_
  refine fn_cS1 hV (c_X8_sin E _ _) ms_X8_sin lk_X8_28 dX8_sineAt_6 ⟨rfl, rfl⟩ rfl ?_
  refine fn_iload_1 hV dX8_sineAt_9 ?_
  refine fn_iconst hV dX8_sineAt_10 ?_
  refine fn_iadd hV dX8_sineAt_11 ?_
  refine fn_cS1 hV (c_X8_sin E _ _) ms_X8_sin lk_X8_28 dX8_sineAt_12 ⟨rfl, rfl⟩ rfl ?_
  refine fn_iload_0 hV dX8_sineAt_15 ?_
  refine fn_bipush hV dX8_sineAt_16 rfl ?_
  refine fn_iremp hV dX8_sineAt_18 (by omega) (by omega) ?_
  refine fn_cS3 hV (c_X8_between E _ _ _ _ (by omega) (by omega) (by omega)) ms_X8_between lk_X8_32 dX8_sineAt_19 ⟨rfl, rfl⟩ rfl ?_
  exact fn_iret hR dX8_sineAt_22 (fnIs.i rfl)

theorem zcosine_eq {r : Int} (hr : 0 ≤ r ∧ r < 3200) : zbtw (zcs (r / 100)) (zcs (r / 100 + 1)) (r % 100) = zcosine r := by
  unfold zcosine zsine zcs
  rw [show (r + 800) % 3200 % 100 = r % 100 by omega]
  rw [zsn_eq (p := r / 100 + 8) (q := (r + 800) % 3200 / 100) (by omega), zsn_eq (p := r / 100 + 1 + 8) (q := (r + 800) % 3200 / 100 + 1) (by omega)]

set_option maxHeartbeats 4000000 in
set_option maxRecDepth 20000 in
theorem c_X8_cosineAt (E : fnE) (σ : fnMem) (r : Int) (hr : 0 ≤ r ∧ r < 3200) : fnOk E mX8_cosineAt [zI r] σ (fnIs (some (zI (zcosine r))) σ) := by
  refine fnOk.of [zI r, .null] rfl (by decide +kernel) rfl (fun V hV hR => ?_)
  replace hV : fnCx E RX8 cX8_cosineAt 2 3 70 V := hV
  replace hR : fnRt cX8_cosineAt (some .int) _ V := hR
  have h1 := zcs_le (r / 100)
  have h2 := zcs_le (r / 100 + 1)
  refine fn_iload_0 hV dX8_cosineAt_0 ?_
  refine fn_bipush hV dX8_cosineAt_1 rfl ?_
  refine fn_idivp hV dX8_cosineAt_3 (by omega) (by omega) ?_
  refine fn_istore_1 hV dX8_cosineAt_4 rfl rfl ?_
  refine fn_iload_1 hV dX8_cosineAt_5 ?_
  refine fn_cS1 hV (c_X8_cos E _ _) ms_X8_cos lk_X8_36 dX8_cosineAt_6 ⟨rfl, rfl⟩ rfl ?_
  refine fn_iload_1 hV dX8_cosineAt_9 ?_
  refine fn_iconst hV dX8_cosineAt_10 ?_
  refine fn_iadd hV dX8_cosineAt_11 ?_
  refine fn_cS1 hV (c_X8_cos E _ _) ms_X8_cos lk_X8_36 dX8_cosineAt_12 ⟨rfl, rfl⟩ rfl ?_
  refine fn_iload_0 hV dX8_cosineAt_15 ?_
  refine fn_bipush hV dX8_cosineAt_16 rfl ?_
  refine fn_iremp hV dX8_cosineAt_18 (by omega) (by omega) ?_
  refine fn_cS3 hV (c_X8_between E _ _ _ _ (by omega) (by omega) (by omega)) ms_X8_between lk_X8_32 dX8_cosineAt_19 ⟨rfl, rfl⟩ rfl ?_
  exact fn_iret hR dX8_cosineAt_22 (fnIs.i (zcosine_eq hr))

set_option maxHeartbeats 4000000 in
set_option maxRecDepth 20000 in
theorem c_X8_wayFrom (E : fnE) (σ : fnMem) (a b : Int) (ha : 0 ≤ a ∧ a < 3200) (hb : 0 ≤ b ∧ b < 3200) : fnOk E mX8_wayFrom [zI a, zI b] σ (fnIs (some (zI (zway a b))) σ) := by
  refine fnOk.of [zI a, zI b] rfl (by decide +kernel) rfl (fun V hV hR => ?_)
  replace hV : fnCx E RX8 cX8_wayFrom 2 1 22 V := hV
  replace hR : fnRt cX8_wayFrom (some .int) _ V := hR
  refine fn_iload_1 hV dX8_wayFrom_0 ?_
  refine fn_iload_0 hV dX8_wayFrom_1 ?_
  refine fn_isub hV dX8_wayFrom_2 ?_
  refine fn_sipush hV dX8_wayFrom_3 rfl ?_
  refine fn_iadd hV dX8_wayFrom_6 ?_
  refine fn_sipush hV dX8_wayFrom_7 rfl ?_
  refine fn_cS2 hV (c_J9_floorMod_7cf53 E _ _ _ (by omega) (by omega) (by omega)) ms_J9_floorMod_7cf53 lk_X8_39 dX8_wayFrom_10 ⟨rfl, rfl⟩ rfl ?_
  refine fn_sipush hV dX8_wayFrom_13 rfl ?_
  refine fn_isub hV dX8_wayFrom_16 ?_
  exact fn_iret hR dX8_wayFrom_17 (fnIs.i rfl)
