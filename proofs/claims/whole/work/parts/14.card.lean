theorem ztdiv_le {x B : Int} (y : Int) (h1 : -B ≤ x) (h2 : x ≤ B) : -B ≤ x.tdiv y ∧ x.tdiv y ≤ B := by
  have := Int.natAbs_tdiv_le_natAbs x y
  omega
theorem zrnd_le {a b B : Int} (hb : 0 < b) (h1 : -(B * b) ≤ a) (h2 : a ≤ B * b) : -B ≤ zrnd a b ∧ zrnd a b ≤ B := by
  unfold zrnd
  constructor
  · apply (Int.le_ediv_iff_mul_le (by omega)).mpr
    have : -B * (2 * b) = -(2 * (B * b)) := by rw [Int.neg_mul, Int.mul_left_comm]
    omega
  · have : (2 * a + b) / (2 * b) < B + 1 := by
      apply (Int.ediv_lt_iff_lt_mul (by omega)).mpr
      have : (B + 1) * (2 * b) = 2 * (B * b) + 2 * b := by rw [Int.add_mul, Int.mul_left_comm, Int.one_mul]
      omega
    omega
theorem zbtw_le {a b k B : Int} (ha : -B ≤ a ∧ a ≤ B) (hb : -B ≤ b ∧ b ≤ B) (hk : 0 ≤ k ∧ k ≤ 100) : -B ≤ zbtw a b k ∧ zbtw a b k ≤ B := by
  have hB : 0 ≤ B := by omega
  refine zrnd_le (by decide) ?_ ?_
  · have e1 : 0 ≤ (a + B) * (100 - k) := Int.mul_nonneg (by omega) (by omega)
    have e2 : 0 ≤ (b + B) * k := Int.mul_nonneg (by omega) (by omega)
    rw [Int.add_mul] at e1 e2
    have e3 : B * (100 - k) = B * 100 - B * k := Int.mul_sub B 100 k
    omega
  · have e1 : 0 ≤ (B - a) * (100 - k) := Int.mul_nonneg (by omega) (by omega)
    have e2 : 0 ≤ (B - b) * k := Int.mul_nonneg (by omega) (by omega)
    rw [Int.sub_mul] at e1 e2
    have e3 : B * (100 - k) = B * 100 - B * k := Int.mul_sub B 100 k
    omega
theorem zer_le {P : Int → Int} (hP : ∀ j, 0 ≤ j → j < 6 → -32000 ≤ P j ∧ P j ≤ 32000) (h g : Int) (hg : -30 ≤ g ∧ g ≤ 30) : -1200000 ≤ zer P h g ∧ zer P h g ≤ 1200000 := by
  have p0 := hP 0 (by decide) (by decide)
  have p1 := hP 1 (by decide) (by decide)
  have p2 := hP 2 (by decide) (by decide)
  have p3 := hP 3 (by decide) (by decide)
  have p4 := hP 4 (by decide) (by decide)
  have p5 := hP 5 (by decide) (by decide)
  have s1 := zsn_le h
  have s2 := zcs_le h
  have s3 := zsn_le (2 * h)
  have s4 := zcs_le (2 * h)
  have m1 := zmul_le (A := 32000) (B := 1000) p1.1 p1.2 s1.1 s1.2
  have m2 := zmul_le (A := 32000) (B := 1000) p2.1 p2.2 s2.1 s2.2
  have m3 := zmul_le (A := 32000) (B := 1000) p3.1 p3.2 s3.1 s3.2
  have m4 := zmul_le (A := 32000) (B := 1000) p4.1 p4.2 s4.1 s4.2
  have m5 := zmul_le (A := 32000) (B := 1000) p5.1 p5.2 s2.1 s2.2
  have m6 := zmul_le (a := P 5 * zcs h) (b := g) (A := 32000 * 1000) (B := 30) m5.1 m5.2 hg.1 hg.2
  have t6 := ztdiv_le (B := 32000 * 1000 * 30) 10 m6.1 m6.2
  unfold zer
  have := zrnd_le (a := P 1 * zsn h + P 2 * zcs h + P 3 * zsn (2 * h) + P 4 * zcs (2 * h) + (P 5 * zcs h * g).tdiv 10) (b := 1000) (B := 1100000) (by decide) (by omega) (by omega)
  omega
theorem zeAt_le {F : Int → Int} {B : Int} (hF : ∀ h, -B ≤ F h ∧ F h ≤ B) (r : Int) : -B ≤ zeAt F r ∧ zeAt F r ≤ B := zbtw_le (hF _) (hF _) (by omega)

set_option maxHeartbeats 4000000 in
set_option maxRecDepth 20000 in
theorem c_X0_errorOn (E : fnE) (σ : fnMem) (c : Nat) (hc : c < 4) (hP : ∀ j, 0 ≤ j → j < 6 → -32000 ≤ σ (7 + c) j ∧ σ (7 + c) j ≤ 32000) (h g : Int) (hg : -30 ≤ g ∧ g ≤ 30) : fnOk E mX0_errorOn [.ref (3 + c), zI h, zI g] σ (fnIs (some (zI (zer (σ (7 + c)) h g))) σ) := by
  refine fnOk.of [.ref (3 + c), zI h, zI g, .null, .null, .null] rfl (by decide +kernel) rfl (fun V hV hR => ?_)
  replace hV : fnCx E RX0 cX0_errorOn 6 2 48 V := hV
  replace hR : fnRt cX0_errorOn (some .int) _ V := hR
  have p0 := hP 0 (by decide) (by decide)
  have p1 := hP 1 (by decide) (by decide)
  have p2 := hP 2 (by decide) (by decide)
  have p3 := hP 3 (by decide) (by decide)
  have p4 := hP 4 (by decide) (by decide)
  have p5 := hP 5 (by decide) (by decide)
  have s1 := zsn_le h
  have s2 := zcs_le h
  have s3 := zsn_le (2 * h)
  have s4 := zcs_le (2 * h)
  have m1 := zmul_le (A := 32000) (B := 1000) p1.1 p1.2 s1.1 s1.2
  have m2 := zmul_le (A := 32000) (B := 1000) p2.1 p2.2 s2.1 s2.2
  have m3 := zmul_le (A := 32000) (B := 1000) p3.1 p3.2 s3.1 s3.2
  have m4 := zmul_le (A := 32000) (B := 1000) p4.1 p4.2 s4.1 s4.2
  have m5 := zmul_le (A := 32000) (B := 1000) p5.1 p5.2 s2.1 s2.2
  have m6 := zmul_le (a := σ (7 + c) 5 * zcs h) (b := g) (A := 32000 * 1000) (B := 30) m5.1 m5.2 hg.1 hg.2
  have t6 := ztdiv_le (B := 32000 * 1000 * 30) 10 m6.1 m6.2
  refine fn_aload_0 hV dX0_errorOn_0 ?_
  refine fn_getR hV dX0_errorOn_1 fl_X0_9 (fr_card (by omega)) ?_
  refine fn_iconst hV dX0_errorOn_4 ?_
  refine fn_iald hV dX0_errorOn_5 (ar_cp (by omega)) (by omega) (by omega) ?_
  refine fn_iload_1 hV dX0_errorOn_6 ?_
  refine fn_cS1 hV (c_X8_sin E _ _) ms_X8_sin lk_X0_21 dX0_errorOn_7 ⟨rfl, rfl⟩ rfl ?_
  refine fn_imul hV dX0_errorOn_10 ?_
  refine fn_aload_0 hV dX0_errorOn_11 ?_
  refine fn_getR hV dX0_errorOn_12 fl_X0_9 (fr_card (by omega)) ?_
  refine fn_iconst hV dX0_errorOn_15 ?_
  refine fn_iald hV dX0_errorOn_16 (ar_cp (by omega)) (by omega) (by omega) ?_
  refine fn_iload_1 hV dX0_errorOn_17 ?_
  refine fn_cS1 hV (c_X8_cos E _ _) ms_X8_cos lk_X0_27 dX0_errorOn_18 ⟨rfl, rfl⟩ rfl ?_
  refine fn_imul hV dX0_errorOn_21 ?_
  refine fn_iadd hV dX0_errorOn_22 ?_
  refine fn_istore_3 hV dX0_errorOn_23 rfl rfl ?_
  refine fn_aload_0 hV dX0_errorOn_24 ?_
  refine fn_getR hV dX0_errorOn_25 fl_X0_9 (fr_card (by omega)) ?_
  refine fn_iconst hV dX0_errorOn_28 ?_
  refine fn_iald hV dX0_errorOn_29 (ar_cp (by omega)) (by omega) (by omega) ?_
  refine fn_iconst hV dX0_errorOn_30 ?_
  refine fn_iload_1 hV dX0_errorOn_31 ?_
  refine fn_imul hV dX0_errorOn_32 ?_
  refine fn_cS1 hV (c_X8_sin E _ _) ms_X8_sin lk_X0_21 dX0_errorOn_33 ⟨rfl, rfl⟩ rfl ?_
  refine fn_imul hV dX0_errorOn_36 ?_
  refine fn_aload_0 hV dX0_errorOn_37 ?_
  refine fn_getR hV dX0_errorOn_38 fl_X0_9 (fr_card (by omega)) ?_
  refine fn_iconst hV dX0_errorOn_41 ?_
  refine fn_iald hV dX0_errorOn_42 (ar_cp (by omega)) (by omega) (by omega) ?_
  refine fn_iconst hV dX0_errorOn_43 ?_
  refine fn_iload_1 hV dX0_errorOn_44 ?_
  refine fn_imul hV dX0_errorOn_45 ?_
  refine fn_cS1 hV (c_X8_cos E _ _) ms_X8_cos lk_X0_27 dX0_errorOn_46 ⟨rfl, rfl⟩ rfl ?_
  refine fn_imul hV dX0_errorOn_49 ?_
  refine fn_iadd hV dX0_errorOn_50 ?_
  refine fn_istore_4 hV dX0_errorOn_51 rfl rfl ?_
  refine fn_aload_0 hV dX0_errorOn_53 ?_
  refine fn_getR hV dX0_errorOn_54 fl_X0_9 (fr_card (by omega)) ?_
  refine fn_iconst hV dX0_errorOn_57 ?_
  refine fn_iald hV dX0_errorOn_58 (ar_cp (by omega)) (by omega) (by omega) ?_
  refine fn_iload_1 hV dX0_errorOn_59 ?_
  refine fn_cS1 hV (c_X8_cos E _ _) ms_X8_cos lk_X0_27 dX0_errorOn_60 ⟨rfl, rfl⟩ rfl ?_
  refine fn_imul hV dX0_errorOn_63 ?_
  refine fn_iload_2 hV dX0_errorOn_64 ?_
  refine fn_imul hV dX0_errorOn_65 ?_
  refine fn_bipush hV dX0_errorOn_66 rfl ?_
  refine fn_idiv hV dX0_errorOn_68 (by omega) (by omega) (by omega) ?_
  refine fn_istore_5 hV dX0_errorOn_69 rfl rfl ?_
  refine fn_aload_0 hV dX0_errorOn_71 ?_
  refine fn_getR hV dX0_errorOn_72 fl_X0_9 (fr_card (by omega)) ?_
  refine fn_iconst hV dX0_errorOn_75 ?_
  refine fn_iald hV dX0_errorOn_76 (ar_cp (by omega)) (by omega) (by omega) ?_
  refine fn_iload_3 hV dX0_errorOn_77 ?_
  refine fn_i2lr hV dX0_errorOn_78 (by omega) ?_
  refine fn_iload_4 hV dX0_errorOn_79 ?_
  refine fn_i2lr hV dX0_errorOn_81 (by omega) ?_
  refine fn_ladd hV dX0_errorOn_82 ?_
  refine fn_iload_5 hV dX0_errorOn_83 ?_
  refine fn_i2lr hV dX0_errorOn_85 (by omega) ?_
  refine fn_ladd hV dX0_errorOn_86 ?_
  refine fn_ldc2 hV dX0_errorOn_87 co_X0_30 ?_
  refine fn_cS2 hV (c_X8_rounded E _ _ _ (by omega) (by omega)) ms_X8_rounded lk_X0_32 dX0_errorOn_90 ⟨rfl, rfl⟩ rfl ?_
  refine fn_l2i hV dX0_errorOn_93 ?_
  refine fn_iadd hV dX0_errorOn_94 ?_
  exact fn_iret hR dX0_errorOn_95 (fnIs.i (by unfold zer; congr 2; omega))

set_option maxHeartbeats 4000000 in
set_option maxRecDepth 20000 in
theorem c_X0_errorOfReading (E : fnE) (σ : fnMem) (c : Nat) (hc : c < 4) (hP : ∀ j, 0 ≤ j → j < 6 → -32000 ≤ σ (7 + c) j ∧ σ (7 + c) j ≤ 32000) (r g : Int) (hr : 0 ≤ r ∧ r < 3200) (hg : -30 ≤ g ∧ g ≤ 30) : fnOk E mX0_errorOfReading [.ref (3 + c), zI r, zI g] σ (fnIs (some (zI (zeAt (fun h => zer (σ (7 + c)) h g) r))) σ) := by
  refine fnOk.of [.ref (3 + c), zI r, zI g, .null] rfl (by decide +kernel) rfl (fun V hV hR => ?_)
  replace hV : fnCx E RX0 cX0_errorOfReading 4 3 73 V := hV
  replace hR : fnRt cX0_errorOfReading (some .int) _ V := hR
  have b1 := zer_le hP (r / 100) g hg
  have b2 := zer_le hP ((r / 100 + 1) % 32) g hg
  refine fn_iload_1 hV dX0_errorOfReading_0 ?_
  refine fn_bipush hV dX0_errorOfReading_1 rfl ?_
  refine fn_idivp hV dX0_errorOfReading_3 (by omega) (by omega) ?_
  refine fn_istore_3 hV dX0_errorOfReading_4 rfl rfl ?_
  refine fn_aload_0 hV dX0_errorOfReading_5 ?_
  refine fn_iload_3 hV dX0_errorOfReading_6 ?_
  refine fn_iload_2 hV dX0_errorOfReading_7 ?_
  refine fn_cV2 hV (c_X0_errorOn E _ c hc hP _ _ (by omega)) mv_X0_errorOn lk_X0_36 dX0_errorOfReading_8 (sh_card (by omega)) rfl ⟨rfl, rfl⟩ rfl ?_
  refine fn_aload_0 hV dX0_errorOfReading_11 ?_
  refine fn_iload_3 hV dX0_errorOfReading_12 ?_
  refine fn_iconst hV dX0_errorOfReading_13 ?_
  refine fn_iadd hV dX0_errorOfReading_14 ?_
  refine fn_bipush hV dX0_errorOfReading_15 rfl ?_
  refine fn_iremp hV dX0_errorOfReading_17 (by omega) (by omega) ?_
  refine fn_iload_2 hV dX0_errorOfReading_18 ?_
  refine fn_cV2 hV (c_X0_errorOn E _ c hc hP _ _ (by omega)) mv_X0_errorOn lk_X0_36 dX0_errorOfReading_19 (sh_card (by omega)) rfl ⟨rfl, rfl⟩ rfl ?_
  refine fn_iload_1 hV dX0_errorOfReading_22 ?_
  refine fn_bipush hV dX0_errorOfReading_23 rfl ?_
  refine fn_iremp hV dX0_errorOfReading_25 (by omega) (by omega) ?_
  refine fn_cS3 hV (c_X8_between E _ _ _ _ (by omega) (by omega) (by omega)) ms_X8_between lk_X0_40 dX0_errorOfReading_26 ⟨rfl, rfl⟩ rfl ?_
  exact fn_iret hR dX0_errorOfReading_29 (fnIs.i rfl)

set_option maxHeartbeats 4000000 in
set_option maxRecDepth 20000 in
theorem c_X0_trueOfReading (E : fnE) (σ : fnMem) (c : Nat) (hc : c < 4) (hP : ∀ j, 0 ≤ j → j < 6 → -32000 ≤ σ (7 + c) j ∧ σ (7 + c) j ≤ 32000) (r g : Int) (hr : 0 ≤ r ∧ r < 3200) (hg : -30 ≤ g ∧ g ≤ 30) : fnOk E mX0_trueOfReading [.ref (3 + c), zI r, zI g] σ (fnIs (some (zI (ztru (fun h => zer (σ (7 + c)) h g) r))) σ) := by
  refine fnOk.of [.ref (3 + c), zI r, zI g] rfl (by decide +kernel) rfl (fun V hV hR => ?_)
  replace hV : fnCx E RX0 cX0_trueOfReading 3 4 96 V := hV
  replace hR : fnRt cX0_trueOfReading (some .int) _ V := hR
  have b1 := zeAt_le (F := fun h => zer (σ (7 + c)) h g) (fun h => zer_le hP h g hg) r
  refine fn_iload_1 hV dX0_trueOfReading_0 ?_
  refine fn_aload_0 hV dX0_trueOfReading_1 ?_
  refine fn_iload_1 hV dX0_trueOfReading_2 ?_
  refine fn_iload_2 hV dX0_trueOfReading_3 ?_
  refine fn_cV2 hV (c_X0_errorOfReading E _ c hc hP _ _ (by omega) (by omega)) mv_X0_errorOfReading lk_X0_44 dX0_trueOfReading_4 (sh_card (by omega)) rfl ⟨rfl, rfl⟩ rfl ?_
  refine fn_iadd hV dX0_trueOfReading_7 ?_
  refine fn_sipush hV dX0_trueOfReading_8 rfl ?_
  refine fn_cS2 hV (c_J9_floorMod_7cf53 E _ _ _ (by omega) (by omega) (by omega)) ms_J9_floorMod_7cf53 lk_X0_47 dX0_trueOfReading_11 ⟨rfl, rfl⟩ rfl ?_
  exact fn_iret hR dX0_trueOfReading_14 (fnIs.i rfl)

set_option maxHeartbeats 4000000 in
set_option maxRecDepth 20000 in
theorem c_X0_draw (E : fnE) (σ : fnMem) (c : Nat) (hc : c < 4) (hP : ∀ j, 0 ≤ j → j < 6 → -32000 ≤ σ (7 + c) j ∧ σ (7 + c) j ≤ 32000) (g : Int) (hg : -30 ≤ g ∧ g ≤ 30) : fnOk E mX0_draw [.ref (3 + c), .ref 49, zI g] σ (fnQv (fun σ1 => fnFr [49] σ σ1 ∧ ∀ h, 0 ≤ h → h < 32 → σ1 49 h = zer (σ (7 + c)) h g)) := by
  refine fnOk.of [.ref (3 + c), .ref 49, zI g, .null] rfl (by decide +kernel) rfl (fun V hV hR => ?_)
  replace hV : fnCx E RX0 cX0_draw 4 3 73 V := hV
  replace hR : fnRt cX0_draw none _ V := hR
  refine fn_iconst hV dX0_draw_0 ?_
  refine fn_istore_3 hV dX0_draw_1 rfl rfl ?_
  have L : ∀ k : Nat, k ≤ 32 → ∀ (i : Int) (σ1 : fnMem), True → (i = k) → (fnFr [49] σ σ1) → (∀ h, 0 ≤ h → h < i → σ1 49 h = zer (σ (7 + c)) h g) → V 2 [.ref (3 + c), .ref 49, zI g, zI i] [] σ1 := by
    refine fn_rec (fun k hk ihL => ?_)
    intro i σ1 _ hi hF hv
    refine fn_iload_3 hV dX0_draw_2 ?_
    refine fn_aload_1 hV dX0_draw_3 ?_
    refine fn_alen hV dX0_draw_4 ar_49 (Or.inl rfl) ?_
    refine fn_icmp_ge hV (by omega) (by omega) dX0_draw_5 (fun q5 => ?_) (fun q5 => ?_)
    · exact fn_vret hR dX0_draw_23 (fnQv.mk ⟨hF, fun h h0 h1 => hv h h0 (by omega)⟩)
    · have e1 : σ1 (7 + c) = σ (7 + c) := hF _ (by simp; omega)
      have hP1 : ∀ j, 0 ≤ j → j < 6 → -32000 ≤ σ1 (7 + c) j ∧ σ1 (7 + c) j ≤ 32000 := by rw [e1]; exact hP
      refine fn_aload_1 hV dX0_draw_8 ?_
      refine fn_iload_3 hV dX0_draw_9 ?_
      refine fn_aload_0 hV dX0_draw_10 ?_
      refine fn_iload_3 hV dX0_draw_11 ?_
      refine fn_iload_2 hV dX0_draw_12 ?_
      refine fn_cV2 hV (c_X0_errorOn E _ c hc hP1 _ _ (by omega)) mv_X0_errorOn lk_X0_36 dX0_draw_13 (sh_card (by omega)) rfl ⟨rfl, rfl⟩ rfl ?_
      refine fn_iast hV dX0_draw_16 ar_49 (by omega) (by omega) ?_
      refine fn_iinc_3 hV dX0_draw_17 rfl rfl ?_
      refine fn_goto hV dX0_draw_20 ?_
      exact ihL (k + 1) (by omega) (by omega) _ _ trivial (by omega) (hF.up (by decide)) (fun h h0 h1 => by
      by_cases hq : h = i
      · rw [hq, fnUp_at, e1]
      · rw [fnUp_off _ _ _ hq]; exact hv h h0 (by omega))
  exact L 0 (by omega) _ _ trivial (by omega) fnFr.rf (fun h h0 h1 => by omega)

/-- the first of 0 .. n at which F is largest in size -/
def zwst (F : Int → Int) : Nat → Int
  | 0 => 0
  | n + 1 => if zabs (F (zwst F n)) < zabs (F ((n + 1 : Nat) : Int)) then ((n + 1 : Nat) : Int) else zwst F n
theorem zwst_in (F : Int → Int) : ∀ n : Nat, 0 ≤ zwst F n ∧ zwst F n ≤ n
  | 0 => by simp [zwst]
  | n + 1 => by
    have := zwst_in F n
    unfold zwst
    split <;> omega
theorem zabs_nn (z : Int) : 0 ≤ zabs z := by unfold zabs; split <;> omega
theorem zabs_le {z B : Int} (h1 : -B ≤ z) (h2 : z ≤ B) : zabs z ≤ B := by unfold zabs; split <;> omega
theorem zwst_congr {F G : Int → Int} : ∀ n : Nat, (∀ h : Int, 0 ≤ h → h ≤ n → F h = G h) → zwst F n = zwst G n
  | 0, _ => rfl
  | n + 1, h => by
    have ih := zwst_congr n (fun q h0 h1 => h q h0 (by omega))
    have hb := zwst_in G n
    unfold zwst
    rw [ih, h (zwst G n) hb.1 (by omega), h _ (by omega) (Int.le_refl _)]
def zwI (F : Int → Int) (k : Nat) (ws wh : Int) : Prop := (k = 0 ∧ ws = -1 ∧ wh = 0) ∨ (0 < k ∧ wh = zwst F (k - 1) ∧ ws = zabs (F wh))
theorem zwI.a {F : Int → Int} {k : Nat} {i ws wh : Int} (hi : i = k) (h : zwI F k ws wh) (q : zabs (F i) ≤ ws) : zwI F (k + 1) ws wh := by
  rcases h with ⟨h1, h2, h3⟩ | ⟨h1, h2, h3⟩
  · have := zabs_nn (F i)
    omega
  · obtain ⟨n, rfl⟩ : ∃ n, k = n + 1 := ⟨k - 1, by omega⟩
    rw [Nat.add_sub_cancel] at h2
    refine Or.inr ⟨by omega, ?_, h3⟩
    rw [Nat.add_sub_cancel, zwst, if_neg]
    · exact h2
    · rw [← h2, ← h3, ← hi]; omega
theorem zwI.b {F : Int → Int} {k : Nat} {i ws wh : Int} (hi : i = k) (h : zwI F k ws wh) (q : ws < zabs (F i)) : zwI F (k + 1) (zabs (F i)) i := by
  rcases h with ⟨h1, h2, h3⟩ | ⟨h1, h2, h3⟩
  · subst h1
    exact Or.inr ⟨by omega, by simpa [zwst] using hi, rfl⟩
  · obtain ⟨n, rfl⟩ : ∃ n, k = n + 1 := ⟨k - 1, by omega⟩
    rw [Nat.add_sub_cancel] at h2
    refine Or.inr ⟨by omega, ?_, rfl⟩
    rw [Nat.add_sub_cancel, zwst, if_pos]
    · exact hi
    · rw [← h2, ← h3, ← hi]; omega
theorem zwI.e {F : Int → Int} {k n : Nat} {ws wh : Int} (h : zwI F k ws wh) (hk : k = n + 1) : wh = zwst F n := by
  subst hk
  rcases h with ⟨h1, -⟩ | ⟨-, h1, -⟩
  · omega
  · exact h1

set_option maxHeartbeats 4000000 in
set_option maxRecDepth 20000 in
theorem c_X0_worstHeading (E : fnE) (σ : fnMem) (c : Nat) (hc : c < 4) (hP : ∀ j, 0 ≤ j → j < 6 → -32000 ≤ σ (7 + c) j ∧ σ (7 + c) j ≤ 32000) : fnOk E mX0_worstHeading [.ref (3 + c)] σ (fnIs (some (zI (zwst (fun h => zer (σ (7 + c)) h 0) 31))) σ) := by
  refine fnOk.of [.ref (3 + c), .null, .null, .null, .null] rfl (by decide +kernel) rfl (fun V hV hR => ?_)
  replace hV : fnCx E RX0 cX0_worstHeading 5 3 73 V := hV
  replace hR : fnRt cX0_worstHeading (some .int) _ V := hR
  refine fn_iconst hV dX0_worstHeading_0 ?_
  refine fn_istore_1 hV dX0_worstHeading_1 rfl rfl ?_
  refine fn_iconst hV dX0_worstHeading_2 ?_
  refine fn_istore_2 hV dX0_worstHeading_3 rfl rfl ?_
  refine fn_iconst hV dX0_worstHeading_4 ?_
  refine fn_istore_3 hV dX0_worstHeading_5 rfl rfl ?_
  have L : ∀ k : Nat, k ≤ 32 → ∀ (i ws wh : Int), True → (i = k) → (zwI (fun h => zer (σ (7 + c)) h 0) k ws wh) → (-1 ≤ ws ∧ ws ≤ 1200000) → V 6 [.ref (3 + c), zI ws, zI wh, zI i, .null] [] σ := by
    refine fn_rec (fun k hk ihL => ?_)
    intro i ws wh _ hi hw hb
    refine fn_iload_3 hV dX0_worstHeading_6 ?_
    refine fn_bipush hV dX0_worstHeading_7 rfl ?_
    refine fn_icmp_ge hV (by omega) (by omega) dX0_worstHeading_9 (fun q9 => ?_) (fun q9 => ?_)
    · refine fn_iload_2 hV dX0_worstHeading_40 ?_
      exact fn_iret hR dX0_worstHeading_41 (fnIs.i (hw.e (by omega)))
    · have b1 := zer_le hP i 0 (by omega)
      have b2 := zabs_nn (zer (σ (7 + c)) i 0)
      have b3 := zabs_le b1.1 b1.2
      refine fn_aload_0 hV dX0_worstHeading_12 ?_
      refine fn_iload_3 hV dX0_worstHeading_13 ?_
      refine fn_iconst hV dX0_worstHeading_14 ?_
      refine fn_cV2 hV (c_X0_errorOn E _ c hc hP _ _ (by omega)) mv_X0_errorOn lk_X0_36 dX0_worstHeading_15 (sh_card (by omega)) rfl ⟨rfl, rfl⟩ rfl ?_
      refine fn_cS1 hV (c_J9_abs_0f7a4 E _ _ (by omega)) ms_J9_abs_0f7a4 lk_X0_52 dX0_worstHeading_18 ⟨rfl, rfl⟩ rfl ?_
      refine fn_istore_4 hV dX0_worstHeading_21 rfl rfl ?_
      refine fn_iload_4 hV dX0_worstHeading_23 ?_
      refine fn_iload_1 hV dX0_worstHeading_25 ?_
      refine fn_icmp_le hV (by omega) (by omega) dX0_worstHeading_26 (fun q26 => ?_) (fun q26 => ?_)
      · refine fn_iinc_3 hV dX0_worstHeading_34 rfl rfl ?_
        refine fn_goto hV dX0_worstHeading_37 ?_
        refine fn_nul_4 hV ?_
        exact ihL (k + 1) (by omega) (by omega) _ _ _ trivial (by omega) (hw.a hi q26) (by omega)
      · refine fn_iload_4 hV dX0_worstHeading_29 ?_
        refine fn_istore_1 hV dX0_worstHeading_31 rfl rfl ?_
        refine fn_iload_3 hV dX0_worstHeading_32 ?_
        refine fn_istore_2 hV dX0_worstHeading_33 rfl rfl ?_
        refine fn_iinc_3 hV dX0_worstHeading_34 rfl rfl ?_
        refine fn_goto hV dX0_worstHeading_37 ?_
        refine fn_nul_4 hV ?_
        exact ihL (k + 1) (by omega) (by omega) _ _ _ trivial (by omega) (hw.b hi q26) (by omega)
  exact L 0 (by omega) _ _ _ trivial (by omega) (Or.inl ⟨rfl, rfl, rfl⟩) (by omega)

set_option maxHeartbeats 4000000 in
set_option maxRecDepth 20000 in
theorem c_X0_copyFrom (E : fnE) (σ : fnMem) (c d : Nat) (hc : c < 4) (hd : d < 4) : fnOk E mX0_copyFrom [.ref (3 + c), .ref (3 + d)] σ (fnIs none (fnSt σ (7 + c) (fun j => if 0 ≤ j ∧ j < 6 then σ (7 + d) j else σ (7 + c) j))) := by
  refine fnOk.of [.ref (3 + c), .ref (3 + d)] rfl (by decide +kernel) rfl (fun V hV hR => ?_)
  replace hV : fnCx E RX0 cX0_copyFrom 2 1 26 V := hV
  replace hR : fnRt cX0_copyFrom none _ V := hR
  refine fn_aload_1 hV dX0_copyFrom_0 ?_
  refine fn_getR hV dX0_copyFrom_1 fl_X0_9 (fr_card (by omega)) ?_
  refine fn_iconst hV dX0_copyFrom_4 ?_
  refine fn_aload_0 hV dX0_copyFrom_5 ?_
  refine fn_getR hV dX0_copyFrom_6 fl_X0_9 (fr_card (by omega)) ?_
  refine fn_iconst hV dX0_copyFrom_9 ?_
  refine fn_bipush hV dX0_copyFrom_10 rfl ?_
  refine fn_acopy hV dX0_copyFrom_12 lk_X0_15 fn_acw (ar_cp (by omega)) (ar_cp (by omega)) (by omega) rfl rfl ?_
  exact fn_vret hR dX0_copyFrom_15 ⟨rfl, rfl⟩
