def kPl (σ : fnMem) : Prop := (∀ k, 0 ≤ k → k < 8 → 1 ≤ σ 27 k ∧ σ 27 k ≤ 999) ∧ (∀ k, 0 ≤ k → k < 8 → -999 ≤ σ 28 k ∧ σ 28 k ≤ 999) ∧ (∀ k, 0 ≤ k → k < 24 → -999 ≤ σ 29 k ∧ σ 29 k ≤ 999) ∧ (∀ k, 0 ≤ k → k < 24 → -999 ≤ σ 30 k ∧ σ 30 k ≤ 999) ∧ (∀ k, 0 ≤ k → k < 24 → 0 ≤ σ 31 k ∧ σ 31 k ≤ 1)
def zcl9 (v : Int) : Int := if 9999 < v then 9999 else if v < -9999 then -9999 else v
def zfore (v1 v2 h1 h2 h z z1 z2 : Int) : Int := zcl9 (if (z1 - z2) * h < 0 then zrnd (-(v1 * h1 * (z - z2) - v2 * h2 * (z - z1))) (-((z1 - z2) * h)) else zrnd (v1 * h1 * (z - z2) - v2 * h2 * (z - z1)) ((z1 - z2) * h))
theorem zfore_top (f s z z1 z2 : Int) : f * (z1 - z2) + (f - s) * (z - z1) = f * (z - z2) - s * (z - z1) := by
  rw [Int.sub_mul, Int.mul_sub, Int.mul_sub, Int.mul_sub, Int.mul_sub]
  omega

set_option maxHeartbeats 4000000 in
set_option maxRecDepth 20000 in
theorem c_X4_write (E : fnE) (σ : fnMem) (c p : Int) (d : Nat) (hc : 0 ≤ c ∧ c ≤ 2) (hp : 0 ≤ p ∧ p ≤ 7) (hd : d < 3) : fnOk E mX4_write [.ref 26, zI c, zI p, .ref (3 + d)] σ (fnIs none (fnUp (fnUp (fnUp σ 31 (c * 8 + p) 1) 29 (c * 8 + p) (σ (7 + d) 1)) 30 (c * 8 + p) (σ (7 + d) 2))) := by
  refine fnOk.of [.ref 26, zI c, zI p, .ref (3 + d), .null] rfl (by decide +kernel) rfl (fun V hV hR => ?_)
  replace hV : fnCx E RX4 cX4_write 5 0 0 V := hV
  replace hR : fnRt cX4_write none _ V := hR
  refine fn_iload_1 hV dX4_write_0 ?_
  refine fn_bipush hV dX4_write_1 rfl ?_
  refine fn_imul hV dX4_write_3 ?_
  refine fn_iload_2 hV dX4_write_4 ?_
  refine fn_iadd hV dX4_write_5 ?_
  refine fn_istore_4 hV dX4_write_6 rfl rfl ?_
  refine fn_aload_0 hV dX4_write_8 ?_
  refine fn_getR hV dX4_write_9 fl_X4_24 fr_26_4 ?_
  refine fn_iload_4 hV dX4_write_12 ?_
  refine fn_iconst hV dX4_write_14 ?_
  refine fn_bast hV dX4_write_15 ar_31 (by omega) (by omega) (by omega) ?_
  refine fn_aload_0 hV dX4_write_16 ?_
  refine fn_getR hV dX4_write_17 fl_X4_18 fr_26_2 ?_
  refine fn_iload_4 hV dX4_write_20 ?_
  refine fn_aload_3 hV dX4_write_22 ?_
  refine fn_getR hV dX4_write_23 fl_X4_28 (fr_card (by omega)) ?_
  refine fn_iconst hV dX4_write_26 ?_
  refine fn_iald hV dX4_write_27 (ar_cp (by omega)) (by omega) (by omega) ?_
  rw [fnUp_ne _ _ _ (show 7 + d ≠ 31 by omega)]
  refine fn_iast hV dX4_write_28 ar_29 (by omega) (by omega) ?_
  refine fn_aload_0 hV dX4_write_29 ?_
  refine fn_getR hV dX4_write_30 fl_X4_21 fr_26_3 ?_
  refine fn_iload_4 hV dX4_write_33 ?_
  refine fn_aload_3 hV dX4_write_35 ?_
  refine fn_getR hV dX4_write_36 fl_X4_28 (fr_card (by omega)) ?_
  refine fn_iconst hV dX4_write_39 ?_
  refine fn_iald hV dX4_write_40 (ar_cp (by omega)) (by omega) (by omega) ?_
  rw [fnUp_ne _ _ _ (show 7 + d ≠ 29 by omega), fnUp_ne _ _ _ (show 7 + d ≠ 31 by omega)]
  refine fn_iast hV dX4_write_41 ar_30 (by omega) (by omega) ?_
  exact fn_vret hR dX4_write_42 ⟨rfl, rfl⟩

set_option maxHeartbeats 4000000 in
set_option maxRecDepth 20000 in
theorem c_X4_canForetell (E : fnE) (σ : fnMem) (hK : kPl σ) (c p q : Int) (hc : 0 ≤ c ∧ c ≤ 2) (hp : 0 ≤ p ∧ p ≤ 7) (hq : 0 ≤ q ∧ q ≤ 7) : fnOk E mX4_canForetell [.ref 26, zI c, zI p, zI q] σ (fnIs (some (zI (if σ 31 (c * 8 + p) ≠ 0 ∧ σ 31 (c * 8 + q) ≠ 0 ∧ σ 28 p ≠ σ 28 q then 1 else 0))) σ) := by
  refine fnOk.of [.ref 26, zI c, zI p, zI q, .null] rfl (by decide +kernel) rfl (fun V hV hR => ?_)
  replace hV : fnCx E RX4 cX4_canForetell 5 0 0 V := hV
  replace hR : fnRt cX4_canForetell (some .boolean) _ V := hR
  have a1 := hK.2.2.2.2 (c * 8 + p) (by omega) (by omega)
  have a2 := hK.2.2.2.2 (c * 8 + q) (by omega) (by omega)
  have a3 := hK.2.1 p (by omega) (by omega)
  have a4 := hK.2.1 q (by omega) (by omega)
  refine fn_aload_0 hV dX4_canForetell_0 ?_
  refine fn_getR hV dX4_canForetell_1 fl_X4_24 fr_26_4 ?_
  refine fn_iload_1 hV dX4_canForetell_4 ?_
  refine fn_bipush hV dX4_canForetell_5 rfl ?_
  refine fn_imul hV dX4_canForetell_7 ?_
  refine fn_iload_2 hV dX4_canForetell_8 ?_
  refine fn_iadd hV dX4_canForetell_9 ?_
  refine fn_bald hV dX4_canForetell_10 ar_31 (by omega) (by omega) ?_
  refine fn_if_eq hV (by omega) dX4_canForetell_11 (fun q11 => ?_) (fun q11 => ?_)
  · refine fn_iconst hV dX4_canForetell_32 ?_
    refine fn_istore_4 hV dX4_canForetell_33 rfl rfl ?_
    refine fn_iload_4 hV dX4_canForetell_35 ?_
    refine fn_if_eq hV (by omega) dX4_canForetell_37 (fun q37 => ?_) (fun q37 => ?_)
    · refine fn_iconst hV dX4_canForetell_59 ?_
      exact fn_zret hR dX4_canForetell_60 (by first | exact Or.inl rfl | exact Or.inr rfl | (split <;> simp)) (fnIs.i (by (repeat' split) <;> omega))
    · refine fn_aload_0 hV dX4_canForetell_40 ?_
      refine fn_getR hV dX4_canForetell_41 fl_X4_15 fr_26_1 ?_
      refine fn_iload_2 hV dX4_canForetell_44 ?_
      refine fn_iald hV dX4_canForetell_45 ar_28 (by omega) (by omega) ?_
      refine fn_aload_0 hV dX4_canForetell_46 ?_
      refine fn_getR hV dX4_canForetell_47 fl_X4_15 fr_26_1 ?_
      refine fn_iload_3 hV dX4_canForetell_50 ?_
      refine fn_iald hV dX4_canForetell_51 ar_28 (by omega) (by omega) ?_
      refine fn_icmp_eq hV (by omega) (by omega) dX4_canForetell_52 (fun q52 => ?_) (fun q52 => ?_)
      · refine fn_iconst hV dX4_canForetell_59 ?_
        exact fn_zret hR dX4_canForetell_60 (by first | exact Or.inl rfl | exact Or.inr rfl | (split <;> simp)) (fnIs.i (by (repeat' split) <;> omega))
      · refine fn_iconst hV dX4_canForetell_55 ?_
        refine fn_goto hV dX4_canForetell_56 ?_
        exact fn_zret hR dX4_canForetell_60 (by first | exact Or.inl rfl | exact Or.inr rfl | (split <;> simp)) (fnIs.i (by (repeat' split) <;> omega))
  · refine fn_aload_0 hV dX4_canForetell_14 ?_
    refine fn_getR hV dX4_canForetell_15 fl_X4_24 fr_26_4 ?_
    refine fn_iload_1 hV dX4_canForetell_18 ?_
    refine fn_bipush hV dX4_canForetell_19 rfl ?_
    refine fn_imul hV dX4_canForetell_21 ?_
    refine fn_iload_3 hV dX4_canForetell_22 ?_
    refine fn_iadd hV dX4_canForetell_23 ?_
    refine fn_bald hV dX4_canForetell_24 ar_31 (by omega) (by omega) ?_
    refine fn_if_eq hV (by omega) dX4_canForetell_25 (fun q25 => ?_) (fun q25 => ?_)
    · refine fn_iconst hV dX4_canForetell_32 ?_
      refine fn_istore_4 hV dX4_canForetell_33 rfl rfl ?_
      refine fn_iload_4 hV dX4_canForetell_35 ?_
      refine fn_if_eq hV (by omega) dX4_canForetell_37 (fun q37 => ?_) (fun q37 => ?_)
      · refine fn_iconst hV dX4_canForetell_59 ?_
        exact fn_zret hR dX4_canForetell_60 (by first | exact Or.inl rfl | exact Or.inr rfl | (split <;> simp)) (fnIs.i (by (repeat' split) <;> omega))
      · refine fn_aload_0 hV dX4_canForetell_40 ?_
        refine fn_getR hV dX4_canForetell_41 fl_X4_15 fr_26_1 ?_
        refine fn_iload_2 hV dX4_canForetell_44 ?_
        refine fn_iald hV dX4_canForetell_45 ar_28 (by omega) (by omega) ?_
        refine fn_aload_0 hV dX4_canForetell_46 ?_
        refine fn_getR hV dX4_canForetell_47 fl_X4_15 fr_26_1 ?_
        refine fn_iload_3 hV dX4_canForetell_50 ?_
        refine fn_iald hV dX4_canForetell_51 ar_28 (by omega) (by omega) ?_
        refine fn_icmp_eq hV (by omega) (by omega) dX4_canForetell_52 (fun q52 => ?_) (fun q52 => ?_)
        · refine fn_iconst hV dX4_canForetell_59 ?_
          exact fn_zret hR dX4_canForetell_60 (by first | exact Or.inl rfl | exact Or.inr rfl | (split <;> simp)) (fnIs.i (by (repeat' split) <;> omega))
        · refine fn_iconst hV dX4_canForetell_55 ?_
          refine fn_goto hV dX4_canForetell_56 ?_
          exact fn_zret hR dX4_canForetell_60 (by first | exact Or.inl rfl | exact Or.inr rfl | (split <;> simp)) (fnIs.i (by (repeat' split) <;> omega))
    · refine fn_iconst hV dX4_canForetell_28 ?_
      refine fn_goto hV dX4_canForetell_29 ?_
      refine fn_istore_4 hV dX4_canForetell_33 rfl rfl ?_
      refine fn_iload_4 hV dX4_canForetell_35 ?_
      refine fn_if_eq hV (by omega) dX4_canForetell_37 (fun q37 => ?_) (fun q37 => ?_)
      · refine fn_iconst hV dX4_canForetell_59 ?_
        exact fn_zret hR dX4_canForetell_60 (by first | exact Or.inl rfl | exact Or.inr rfl | (split <;> simp)) (fnIs.i (by (repeat' split) <;> omega))
      · refine fn_aload_0 hV dX4_canForetell_40 ?_
        refine fn_getR hV dX4_canForetell_41 fl_X4_15 fr_26_1 ?_
        refine fn_iload_2 hV dX4_canForetell_44 ?_
        refine fn_iald hV dX4_canForetell_45 ar_28 (by omega) (by omega) ?_
        refine fn_aload_0 hV dX4_canForetell_46 ?_
        refine fn_getR hV dX4_canForetell_47 fl_X4_15 fr_26_1 ?_
        refine fn_iload_3 hV dX4_canForetell_50 ?_
        refine fn_iald hV dX4_canForetell_51 ar_28 (by omega) (by omega) ?_
        refine fn_icmp_eq hV (by omega) (by omega) dX4_canForetell_52 (fun q52 => ?_) (fun q52 => ?_)
        · refine fn_iconst hV dX4_canForetell_59 ?_
          exact fn_zret hR dX4_canForetell_60 (by first | exact Or.inl rfl | exact Or.inr rfl | (split <;> simp)) (fnIs.i (by (repeat' split) <;> omega))
        · refine fn_iconst hV dX4_canForetell_55 ?_
          refine fn_goto hV dX4_canForetell_56 ?_
          exact fn_zret hR dX4_canForetell_60 (by first | exact Or.inl rfl | exact Or.inr rfl | (split <;> simp)) (fnIs.i (by (repeat' split) <;> omega))

set_option maxHeartbeats 4000000 in
set_option maxRecDepth 20000 in
theorem c_X4_foretell (E : fnE) (σ : fnMem) (hK : kPl σ) (nb : Nat) (ha_nb : fnAr nb 0 24) (hN : ∀ k, 0 ≤ k → k < 24 → -999 ≤ σ nb k ∧ σ nb k ≤ 999) (c x p q : Int) (hc : 0 ≤ c ∧ c ≤ 2) (hx : 0 ≤ x ∧ x ≤ 7) (hp : 0 ≤ p ∧ p ≤ 7) (hq : 0 ≤ q ∧ q ≤ 7) (hz : σ 28 p ≠ σ 28 q) : fnOk E mX4_foretell [.ref 26, .ref nb, zI c, zI x, zI p, zI q] σ (fnIs (some (zI (zfore (σ nb (c * 8 + p)) (σ nb (c * 8 + q)) (σ 27 p) (σ 27 q) (σ 27 x) (σ 28 x) (σ 28 p) (σ 28 q)))) σ) := by
  refine fnOk.of [.ref 26, .ref nb, zI c, zI x, zI p, zI q, .null, .null, .null, .null, .null, .null, .null, .null, .null, .null, .null, .null] rfl (by decide +kernel) rfl (fun V hV hR => ?_)
  replace hV : fnCx E RX4 cX4_foretell 18 2 48 V := hV
  replace hR : fnRt cX4_foretell (some .int) _ V := hR
  have n1 := hN (c * 8 + p) (by omega) (by omega)
  have n2 := hN (c * 8 + q) (by omega) (by omega)
  have h1 := hK.1 p (by omega) (by omega)
  have h2 := hK.1 q (by omega) (by omega)
  have h3 := hK.1 x (by omega) (by omega)
  have z1 := hK.2.1 p (by omega) (by omega)
  have z2 := hK.2.1 q (by omega) (by omega)
  have z3 := hK.2.1 x (by omega) (by omega)
  have m1 := zmul_le (a := σ nb (c * 8 + p)) (b := σ 27 p) (A := 999) (B := 999) (by omega) (by omega) (by omega) (by omega)
  have m2 := zmul_le (a := σ nb (c * 8 + q)) (b := σ 27 q) (A := 999) (B := 999) (by omega) (by omega) (by omega) (by omega)
  have m3 := zmul_le (a := σ nb (c * 8 + p) * σ 27 p) (b := σ 28 x - σ 28 q) (A := 998001) (B := 1998) (by omega) (by omega) (by omega) (by omega)
  have m4 := zmul_le (a := σ nb (c * 8 + q) * σ 27 q) (b := σ 28 x - σ 28 p) (A := 998001) (B := 1998) (by omega) (by omega) (by omega) (by omega)
  have m5 := zmul_le (a := σ 28 p - σ 28 q) (b := σ 27 x) (A := 1998) (B := 999) (by omega) (by omega) (by omega) (by omega)
  have m6 : (σ 28 p - σ 28 q) * σ 27 x ≠ 0 := by intro q; rcases Int.mul_eq_zero.mp q with q | q <;> omega
  refine fn_aload_1 hV dX4_foretell_0 ?_
  refine fn_iload_2 hV dX4_foretell_1 ?_
  refine fn_bipush hV dX4_foretell_2 rfl ?_
  refine fn_imul hV dX4_foretell_4 ?_
  refine fn_iload_4 hV dX4_foretell_5 ?_
  refine fn_iadd hV dX4_foretell_7 ?_
  refine fn_iald hV dX4_foretell_8 ha_nb (by omega) (by omega) ?_
  refine fn_i2lr hV dX4_foretell_9 (by omega) ?_
  refine fn_aload_0 hV dX4_foretell_10 ?_
  refine fn_getR hV dX4_foretell_11 fl_X4_9 fr_26_0 ?_
  refine fn_iload_4 hV dX4_foretell_14 ?_
  refine fn_iald hV dX4_foretell_16 ar_27 (by omega) (by omega) ?_
  refine fn_i2lr hV dX4_foretell_17 (by omega) ?_
  refine fn_lmul hV dX4_foretell_18 ?_
  refine fn_lstore_6 hV dX4_foretell_19 rfl rfl ?_
  refine fn_aload_1 hV dX4_foretell_21 ?_
  refine fn_iload_2 hV dX4_foretell_22 ?_
  refine fn_bipush hV dX4_foretell_23 rfl ?_
  refine fn_imul hV dX4_foretell_25 ?_
  refine fn_iload_5 hV dX4_foretell_26 ?_
  refine fn_iadd hV dX4_foretell_28 ?_
  refine fn_iald hV dX4_foretell_29 ha_nb (by omega) (by omega) ?_
  refine fn_i2lr hV dX4_foretell_30 (by omega) ?_
  refine fn_aload_0 hV dX4_foretell_31 ?_
  refine fn_getR hV dX4_foretell_32 fl_X4_9 fr_26_0 ?_
  refine fn_iload_5 hV dX4_foretell_35 ?_
  refine fn_iald hV dX4_foretell_37 ar_27 (by omega) (by omega) ?_
  refine fn_i2lr hV dX4_foretell_38 (by omega) ?_
  refine fn_lmul hV dX4_foretell_39 ?_
  refine fn_lstore_8 hV dX4_foretell_40 rfl rfl ?_
  refine fn_aload_0 hV dX4_foretell_42 ?_
  refine fn_getR hV dX4_foretell_43 fl_X4_15 fr_26_1 ?_
  refine fn_iload_4 hV dX4_foretell_46 ?_
  refine fn_iald hV dX4_foretell_48 ar_28 (by omega) (by omega) ?_
  refine fn_aload_0 hV dX4_foretell_49 ?_
  refine fn_getR hV dX4_foretell_50 fl_X4_15 fr_26_1 ?_
  refine fn_iload_5 hV dX4_foretell_53 ?_
  refine fn_iald hV dX4_foretell_55 ar_28 (by omega) (by omega) ?_
  refine fn_isub hV dX4_foretell_56 ?_
  refine fn_i2lr hV dX4_foretell_57 (by omega) ?_
  refine fn_lstore_10 hV dX4_foretell_58 rfl rfl ?_
  refine fn_lload_6 hV dX4_foretell_60 ?_
  refine fn_lload_10 hV dX4_foretell_62 ?_
  refine fn_lmul hV dX4_foretell_64 ?_
  refine fn_lload_6 hV dX4_foretell_65 ?_
  refine fn_lload_8 hV dX4_foretell_67 ?_
  refine fn_lsub hV dX4_foretell_69 ?_
  refine fn_aload_0 hV dX4_foretell_70 ?_
  refine fn_getR hV dX4_foretell_71 fl_X4_15 fr_26_1 ?_
  refine fn_iload_3 hV dX4_foretell_74 ?_
  refine fn_iald hV dX4_foretell_75 ar_28 (by omega) (by omega) ?_
  refine fn_aload_0 hV dX4_foretell_76 ?_
  refine fn_getR hV dX4_foretell_77 fl_X4_15 fr_26_1 ?_
  refine fn_iload_4 hV dX4_foretell_80 ?_
  refine fn_iald hV dX4_foretell_82 ar_28 (by omega) (by omega) ?_
  refine fn_isub hV dX4_foretell_83 ?_
  refine fn_i2lr hV dX4_foretell_84 (by omega) ?_
  refine fn_lmul hV dX4_foretell_85 ?_
  refine fn_ladd hV dX4_foretell_86 ?_
  refine fn_lstore_12 hV dX4_foretell_87 rfl rfl ?_
  refine fn_aload_0 hV dX4_foretell_89 ?_
  refine fn_getR hV dX4_foretell_90 fl_X4_9 fr_26_0 ?_
  refine fn_iload_3 hV dX4_foretell_93 ?_
  refine fn_iald hV dX4_foretell_94 ar_27 (by omega) (by omega) ?_
  refine fn_i2lr hV dX4_foretell_95 (by omega) ?_
  refine fn_lload_10 hV dX4_foretell_96 ?_
  refine fn_lmul hV dX4_foretell_98 ?_
  refine fn_lstore_14 hV dX4_foretell_99 rfl rfl ?_
  have J : ∀ (w : Int), ((w = if (σ 28 p - σ 28 q) * σ 27 x < 0 then zrnd (-(σ nb (c * 8 + p) * σ 27 p * (σ 28 x - σ 28 q) - σ nb (c * 8 + q) * σ 27 q * (σ 28 x - σ 28 p))) (-((σ 28 p - σ 28 q) * σ 27 x)) else zrnd (σ nb (c * 8 + p) * σ 27 p * (σ 28 x - σ 28 q) - σ nb (c * 8 + q) * σ 27 q * (σ 28 x - σ 28 p)) ((σ 28 p - σ 28 q) * σ 27 x)) ∧ -2000000000000 ≤ w ∧ w ≤ 2000000000000) → V 127 [.ref 26, .ref nb, zI c, zI x, zI p, zI q, .null, .null, .null, .null, .null, .null, .null, .null, .null, .null, .null, .null] [zL w] σ := by
    intro w hJ
    refine fn_lstore_16 hV dX4_foretell_127 rfl rfl ?_
    have v2 : -2000000000000 ≤ zmin 9999 w ∧ zmin 9999 w ≤ 9999 := by unfold zmin; split <;> omega
    refine fn_ldc2 hV dX4_foretell_129 co_X4_39 ?_
    refine fn_ldc2 hV dX4_foretell_132 co_X4_41 ?_
    refine fn_lload_16 hV dX4_foretell_135 ?_
    refine fn_cS2 hV (c_J9_min_f86c9 E _ _ _ (by omega) (by omega)) ms_J9_min_f86c9 lk_X4_43 dX4_foretell_137 ⟨rfl, rfl⟩ rfl ?_
    refine fn_cS2 hV (c_J9_max_f86c9 E _ _ _ (by omega) (by omega)) ms_J9_max_f86c9 lk_X4_48 dX4_foretell_140 ⟨rfl, rfl⟩ rfl ?_
    refine fn_l2i hV dX4_foretell_143 ?_
    exact fn_iret hR dX4_foretell_144 (fnIs.i (by unfold zfore zcl9; rw [← hJ.1]; unfold zmax zmin; (repeat' split) <;> omega))
  rw [zfore_top, Int.mul_comm (σ 27 x)]
  refine fn_lload_14 hV dX4_foretell_101 ?_
  refine fn_lconst0 hV dX4_foretell_103 ?_
  refine fn_lcmp_ge hV (by omega) (by omega) dX4_foretell_104 dX4_foretell_105 (fun q104 => ?_) (fun q104 => ?_)
  · refine fn_lload_12 hV dX4_foretell_120 ?_
    refine fn_lload_14 hV dX4_foretell_122 ?_
    refine fn_cS2 hV (c_X8_rounded E _ _ _ (by omega) (by omega)) ms_X8_rounded lk_X4_33 dX4_foretell_124 ⟨rfl, rfl⟩ rfl ?_
    refine fn_nul_6 hV ?_
    refine fn_nul_8 hV ?_
    refine fn_nul_10 hV ?_
    refine fn_nul_12 hV ?_
    refine fn_nul_14 hV ?_
    exact J _ ⟨by rw [if_neg (by omega)], zrnd_le (by omega) (by omega) (by omega)⟩
  · refine fn_lload_12 hV dX4_foretell_108 ?_
    refine fn_lneg hV dX4_foretell_110 ?_
    refine fn_lload_14 hV dX4_foretell_111 ?_
    refine fn_lneg hV dX4_foretell_113 ?_
    refine fn_cS2 hV (c_X8_rounded E _ _ _ (by omega) (by omega)) ms_X8_rounded lk_X4_33 dX4_foretell_114 ⟨rfl, rfl⟩ rfl ?_
    refine fn_goto hV dX4_foretell_117 ?_
    refine fn_nul_6 hV ?_
    refine fn_nul_8 hV ?_
    refine fn_nul_10 hV ?_
    refine fn_nul_12 hV ?_
    refine fn_nul_14 hV ?_
    exact J _ ⟨by rw [if_pos (by omega)], zrnd_le (by omega) (by omega) (by omega)⟩

set_option maxHeartbeats 4000000 in
set_option maxRecDepth 20000 in
theorem c_X4_howManyNotes (E : fnE) (σ : fnMem) (hK : kPl σ) : fnOk E mX4_howManyNotes [.ref 26] σ (fnIs (some (zI (zsum (fun k => if σ 31 k ≠ 0 then 1 else 0) 24))) σ) := by
  refine fnOk.of [.ref 26, .null, .null] rfl (by decide +kernel) rfl (fun V hV hR => ?_)
  replace hV : fnCx E RX4 cX4_howManyNotes 3 0 0 V := hV
  replace hR : fnRt cX4_howManyNotes (some .int) _ V := hR
  refine fn_iconst hV dX4_howManyNotes_0 ?_
  refine fn_istore_1 hV dX4_howManyNotes_1 rfl rfl ?_
  refine fn_iconst hV dX4_howManyNotes_2 ?_
  refine fn_istore_2 hV dX4_howManyNotes_3 rfl rfl ?_
  have L : ∀ k : Nat, k ≤ 24 → ∀ (i a : Int), True → (i = k) → (a = zsum (fun k => if σ 31 k ≠ 0 then 1 else 0) k) → V 4 [.ref 26, zI a, zI i] [] σ := by
    refine fn_rec (fun k hk ihL => ?_)
    intro i a _ hi ha
    refine fn_iload_2 hV dX4_howManyNotes_4 ?_
    refine fn_aload_0 hV dX4_howManyNotes_5 ?_
    refine fn_getR hV dX4_howManyNotes_6 fl_X4_24 fr_26_4 ?_
    refine fn_alen hV dX4_howManyNotes_9 ar_31 (Or.inr rfl) ?_
    refine fn_icmp_ge hV (by omega) (by omega) dX4_howManyNotes_10 (fun q10 => ?_) (fun q10 => ?_)
    · refine fn_iload_1 hV dX4_howManyNotes_36 ?_
      exact fn_iret hR dX4_howManyNotes_37 (fnIs.i (by rw [ha, show k = 24 by omega]))
    · have s1 := hK.2.2.2.2 i (by omega) (by omega)
      refine fn_iload_1 hV dX4_howManyNotes_13 ?_
      refine fn_aload_0 hV dX4_howManyNotes_14 ?_
      refine fn_getR hV dX4_howManyNotes_15 fl_X4_24 fr_26_4 ?_
      refine fn_iload_2 hV dX4_howManyNotes_18 ?_
      refine fn_bald hV dX4_howManyNotes_19 ar_31 (by omega) (by omega) ?_
      refine fn_t_if_eq hV (by omega) dX4_howManyNotes_20 dX4_howManyNotes_23 dX4_howManyNotes_24 dX4_howManyNotes_27 ?_
      refine fn_iadd hV dX4_howManyNotes_28 ?_
      refine fn_istore_1 hV dX4_howManyNotes_29 rfl rfl ?_
      refine fn_iinc_2 hV dX4_howManyNotes_30 rfl rfl ?_
      refine fn_goto hV dX4_howManyNotes_33 ?_
      exact ihL (k + 1) (by omega) (by omega) _ _ trivial (by omega) (by rw [zsum_s, ← hi, ha]; congr 1; (repeat' split) <;> omega)
  exact L 0 (by omega) _ _ trivial (by omega) rfl

def kEv (σ : fnMem) : Prop := (∀ k, 0 ≤ k → k < 20 → 0 ≤ σ 33 k ∧ σ 33 k ≤ 999) ∧ (∀ k, 0 ≤ k → k < 20 → 0 ≤ σ 34 k ∧ σ 34 k ≤ 5) ∧ (∀ k, 0 ≤ k → k < 20 → -300 ≤ σ 35 k ∧ σ 35 k ≤ 300)
def zput (De Pe Se : Int → Int) (day j e : Int) : Int := if De e ≤ day ∧ Pe e = j then Se e else 0

set_option maxHeartbeats 4000000 in
set_option maxRecDepth 20000 in
theorem c_X1_write (E : fnE) (σ : fnMem) (k d p v : Int) (hk : 0 ≤ k ∧ k ≤ 19) : fnOk E mX1_write [.ref 32, zI k, zI d, zI p, zI v] σ (fnIs (some (zI (σ 35 k))) (fnUp (fnUp (fnUp σ 33 k d) 34 k p) 35 k v)) := by
  refine fnOk.of [.ref 32, zI k, zI d, zI p, zI v, .null] rfl (by decide +kernel) rfl (fun V hV hR => ?_)
  replace hV : fnCx E RX1 cX1_write 6 0 0 V := hV
  replace hR : fnRt cX1_write (some .int) _ V := hR
  refine fn_aload_0 hV dX1_write_0 ?_
  refine fn_getR hV dX1_write_1 fl_X1_18 fr_32_2 ?_
  refine fn_iload_1 hV dX1_write_4 ?_
  refine fn_iald hV dX1_write_5 ar_35 (by omega) (by omega) ?_
  refine fn_istore_5 hV dX1_write_6 rfl rfl ?_
  refine fn_aload_0 hV dX1_write_8 ?_
  refine fn_getR hV dX1_write_9 fl_X1_9 fr_32_0 ?_
  refine fn_iload_1 hV dX1_write_12 ?_
  refine fn_iload_2 hV dX1_write_13 ?_
  refine fn_iast hV dX1_write_14 ar_33 (by omega) (by omega) ?_
  refine fn_aload_0 hV dX1_write_15 ?_
  refine fn_getR hV dX1_write_16 fl_X1_15 fr_32_1 ?_
  refine fn_iload_1 hV dX1_write_19 ?_
  refine fn_iload_3 hV dX1_write_20 ?_
  refine fn_iast hV dX1_write_21 ar_34 (by omega) (by omega) ?_
  refine fn_aload_0 hV dX1_write_22 ?_
  refine fn_getR hV dX1_write_23 fl_X1_18 fr_32_2 ?_
  refine fn_iload_1 hV dX1_write_26 ?_
  refine fn_iload_4 hV dX1_write_27 ?_
  refine fn_iast hV dX1_write_29 ar_35 (by omega) (by omega) ?_
  refine fn_iload_5 hV dX1_write_30 ?_
  exact fn_iret hR dX1_write_32 ⟨rfl, rfl⟩

set_option maxHeartbeats 4000000 in
set_option maxRecDepth 20000 in
theorem c_X1_putTo (E : fnE) (σ : fnMem) (hK : kEv σ) (day : Int) (hd : 0 ≤ day ∧ day ≤ 999) : fnOk E mX1_putTo [.ref 32, .ref 6, zI day] σ (fnQv (fun σ1 => fnFr [10] σ σ1 ∧ ∀ j, 0 ≤ j → j < 6 → σ1 10 j = σ 10 j + zsum (zput (σ 33) (σ 34) (σ 35) day j) 20)) := by
  refine fnOk.of [.ref 32, .ref 6, zI day, .null] rfl (by decide +kernel) rfl (fun V hV hR => ?_)
  replace hV : fnCx E RX1 cX1_putTo 4 0 0 V := hV
  replace hR : fnRt cX1_putTo none _ V := hR
  refine fn_iconst hV dX1_putTo_0 ?_
  refine fn_istore_3 hV dX1_putTo_1 rfl rfl ?_
  have L : ∀ k : Nat, k ≤ 20 → ∀ (i : Int) (σ1 : fnMem), True → (i = k) → (fnFr [10] σ σ1) → (∀ j, 0 ≤ j → j < 6 → σ1 10 j = σ 10 j + zsum (zput (σ 33) (σ 34) (σ 35) day j) k) → V 2 [.ref 32, .ref 6, zI day, zI i] [] σ1 := by
    refine fn_rec (fun k hk ihL => ?_)
    intro i σ1 _ hi hF hv
    refine fn_iload_3 hV dX1_putTo_2 ?_
    refine fn_bipush hV dX1_putTo_3 rfl ?_
    refine fn_icmp_ge hV (by omega) (by omega) dX1_putTo_5 (fun q5 => ?_) (fun q5 => ?_)
    · exact fn_vret hR dX1_putTo_44 (fnQv.mk ⟨hF, fun j j0 j1 => by rw [hv j j0 j1, show k = 20 by omega]⟩)
    · have e33 : σ1 33 = σ 33 := hF 33 (by decide)
      have e34 : σ1 34 = σ 34 := hF 34 (by decide)
      have e35 : σ1 35 = σ 35 := hF 35 (by decide)
      have s1 := hK.1 i (by omega) (by omega)
      have s2 := hK.2.1 i (by omega) (by omega)
      rw [← e33] at s1
      rw [← e34] at s2
      refine fn_aload_0 hV dX1_putTo_8 ?_
      refine fn_getR hV dX1_putTo_9 fl_X1_9 fr_32_0 ?_
      refine fn_iload_3 hV dX1_putTo_12 ?_
      refine fn_iald hV dX1_putTo_13 ar_33 (by omega) (by omega) ?_
      refine fn_iload_2 hV dX1_putTo_14 ?_
      refine fn_icmp_gt hV (by omega) (by omega) dX1_putTo_15 (fun q15 => ?_) (fun q15 => ?_)
      · refine fn_iinc_3 hV dX1_putTo_38 rfl rfl ?_
        refine fn_goto hV dX1_putTo_41 ?_
        exact ihL (k + 1) (by omega) (by omega) _ _ trivial (by omega) hF (fun j j0 j1 => by rw [zsum_s, ← hi, hv j j0 j1, zput, if_neg (by rw [← e33]; omega)]; omega)
      · refine fn_aload_1 hV dX1_putTo_18 ?_
        refine fn_getR hV dX1_putTo_19 fl_X1_21 fr_6_0 ?_
        refine fn_aload_0 hV dX1_putTo_22 ?_
        refine fn_getR hV dX1_putTo_23 fl_X1_15 fr_32_1 ?_
        refine fn_iload_3 hV dX1_putTo_26 ?_
        refine fn_iald hV dX1_putTo_27 ar_34 (by omega) (by omega) ?_
        refine fn_dup2 hV dX1_putTo_28 rfl rfl ?_
        refine fn_iald hV dX1_putTo_29 ar_10 (by omega) (by omega) ?_
        refine fn_aload_0 hV dX1_putTo_30 ?_
        refine fn_getR hV dX1_putTo_31 fl_X1_18 fr_32_2 ?_
        refine fn_iload_3 hV dX1_putTo_34 ?_
        refine fn_iald hV dX1_putTo_35 ar_35 (by omega) (by omega) ?_
        refine fn_iadd hV dX1_putTo_36 ?_
        refine fn_iast hV dX1_putTo_37 ar_10 (by omega) (by omega) ?_
        refine fn_iinc_3 hV dX1_putTo_38 rfl rfl ?_
        refine fn_goto hV dX1_putTo_41 ?_
        exact ihL (k + 1) (by omega) (by omega) _ _ trivial (by omega) (hF.up (by decide)) (fun j j0 j1 => by
      rw [zsum_s, ← hi, zput]
      by_cases hq : σ1 34 i = j
      · rw [if_pos (by rw [← e33, ← e34]; exact ⟨q15, hq⟩), ← hq, fnUp_at, hv _ (by omega) (by omega), e35]; omega
      · rw [if_neg (by rw [← e34]; exact fun q => hq q.2), fnUp_off _ _ _ (fun q => hq q.symm), hv j j0 j1]; omega)
  exact L 0 (by omega) _ _ trivial (by omega) fnFr.rf (fun j j0 j1 => by simp [zsum])

set_option maxHeartbeats 4000000 in
set_option maxRecDepth 20000 in
theorem c_X1_howMany (E : fnE) (σ : fnMem) (hK : kEv σ) : fnOk E mX1_howMany [.ref 32] σ (fnIs (some (zI (zsum (fun k => if σ 35 k ≠ 0 then 1 else 0) 20))) σ) := by
  refine fnOk.of [.ref 32, .null, .null] rfl (by decide +kernel) rfl (fun V hV hR => ?_)
  replace hV : fnCx E RX1 cX1_howMany 3 0 0 V := hV
  replace hR : fnRt cX1_howMany (some .int) _ V := hR
  refine fn_iconst hV dX1_howMany_0 ?_
  refine fn_istore_1 hV dX1_howMany_1 rfl rfl ?_
  refine fn_iconst hV dX1_howMany_2 ?_
  refine fn_istore_2 hV dX1_howMany_3 rfl rfl ?_
  have L : ∀ k : Nat, k ≤ 20 → ∀ (i a : Int), True → (i = k) → (a = zsum (fun k => if σ 35 k ≠ 0 then 1 else 0) k) → V 4 [.ref 32, zI a, zI i] [] σ := by
    refine fn_rec (fun k hk ihL => ?_)
    intro i a _ hi ha
    refine fn_iload_2 hV dX1_howMany_4 ?_
    refine fn_bipush hV dX1_howMany_5 rfl ?_
    refine fn_icmp_ge hV (by omega) (by omega) dX1_howMany_7 (fun q7 => ?_) (fun q7 => ?_)
    · refine fn_iload_1 hV dX1_howMany_33 ?_
      exact fn_iret hR dX1_howMany_34 (fnIs.i (by rw [ha, show k = 20 by omega]))
    · have s1 := hK.2.2 i (by omega) (by omega)
      refine fn_iload_1 hV dX1_howMany_10 ?_
      refine fn_aload_0 hV dX1_howMany_11 ?_
      refine fn_getR hV dX1_howMany_12 fl_X1_18 fr_32_2 ?_
      refine fn_iload_2 hV dX1_howMany_15 ?_
      refine fn_iald hV dX1_howMany_16 ar_35 (by omega) (by omega) ?_
      refine fn_t_if_ne hV (by omega) dX1_howMany_17 dX1_howMany_20 dX1_howMany_21 dX1_howMany_24 ?_
      refine fn_iadd hV dX1_howMany_25 ?_
      refine fn_istore_1 hV dX1_howMany_26 rfl rfl ?_
      refine fn_iinc_2 hV dX1_howMany_27 rfl rfl ?_
      refine fn_goto hV dX1_howMany_30 ?_
      exact ihL (k + 1) (by omega) (by omega) _ _ trivial (by omega) (by rw [zsum_s, ← hi, ha])
  exact L 0 (by omega) _ _ trivial (by omega) rfl

def kLg (σ : fnMem) (L : Nat) : Prop := σ 36 6 = L ∧ L ≤ 40 ∧ (∀ l : Int, 0 ≤ l → l < L → 0 ≤ σ 37 l ∧ σ 37 l ≤ 999) ∧ (∀ l : Int, 0 ≤ l → l < L → 0 ≤ σ 38 l ∧ σ 38 l < 3200) ∧ (∀ l : Int, 0 ≤ l → l < L → -30 ≤ σ 39 l ∧ σ 39 l ≤ 30) ∧ (∀ l : Int, 0 ≤ l → l < L → 0 ≤ σ 40 l ∧ σ 40 l ≤ 300) ∧ (∀ l : Int, 0 ≤ l → l < L → σ 41 l = -2009 ∨ (0 ≤ σ 41 l ∧ σ 41 l < 3200)) ∧ (∀ l : Int, 0 ≤ l → l < L → σ 42 l = -2009 ∨ (-600 ≤ σ 42 l ∧ σ 42 l ≤ 600))

set_option maxHeartbeats 4000000 in
set_option maxRecDepth 20000 in
theorem c_X3_lastDay (E : fnE) (σ : fnMem) (L : Nat) (hK : kLg σ L) : fnOk E mX3_lastDay [.ref 36] σ (fnIs (some (zI (if L = 0 then 0 else σ 37 ((L : Int) - 1)))) σ) := by
  refine fnOk.of [.ref 36] rfl (by decide +kernel) rfl (fun V hV hR => ?_)
  replace hV : fnCx E RX3 cX3_lastDay 1 0 0 V := hV
  replace hR : fnRt cX3_lastDay (some .int) _ V := hR
  have h36 := hK.1
  have h40 := hK.2.1
  refine fn_aload_0 hV dX3_lastDay_0 ?_
  refine fn_getIz hV 6 dX3_lastDay_1 fl_X3_30 fi_36_6 rfl ?_
  refine fn_if_ne hV (by omega) dX3_lastDay_4 (fun q4 => ?_) (fun q4 => ?_)
  · refine fn_aload_0 hV dX3_lastDay_11 ?_
    refine fn_getR hV dX3_lastDay_12 fl_X3_9 fr_36_0 ?_
    refine fn_aload_0 hV dX3_lastDay_15 ?_
    refine fn_getIz hV 6 dX3_lastDay_16 fl_X3_30 fi_36_6 rfl ?_
    refine fn_iconst hV dX3_lastDay_19 ?_
    refine fn_isub hV dX3_lastDay_20 ?_
    refine fn_iald hV dX3_lastDay_21 ar_37 (by omega) (by omega) ?_
    exact fn_iret hR dX3_lastDay_22 (fnIs.i (by first | rw [if_pos (by omega)] | rw [if_neg (by omega), h36]))
  · refine fn_iconst hV dX3_lastDay_7 ?_
    refine fn_goto hV dX3_lastDay_8 ?_
    exact fn_iret hR dX3_lastDay_22 (fnIs.i (by first | rw [if_pos (by omega)] | rw [if_neg (by omega), h36]))

set_option maxHeartbeats 4000000 in
set_option maxRecDepth 20000 in
theorem c_X3_add (E : fnE) (σ : fnMem) (L : Nat) (hK : kLg σ L) (hL : L < 40) (d r g m o u : Int) : fnOk E mX3_add [.ref 36, zI d, zI r, zI g, zI m, zI o, zI u] σ (fnIs (some (zI (L : Int))) (fnUp (fnUp (fnUp (fnUp (fnUp (fnUp (fnUp σ 37 L d) 38 L r) 39 L g) 40 L m) 41 L o) 42 L u) 36 6 ((L : Int) + 1))) := by
  refine fnOk.of [.ref 36, zI d, zI r, zI g, zI m, zI o, zI u, .null] rfl (by decide +kernel) rfl (fun V hV hR => ?_)
  replace hV : fnCx E RX3 cX3_add 8 0 0 V := hV
  replace hR : fnRt cX3_add (some .int) _ V := hR
  have h36 := hK.1
  refine fn_aload_0 hV dX3_add_0 ?_
  refine fn_getIz hV 6 dX3_add_1 fl_X3_30 fi_36_6 rfl ?_
  rw [h36]
  refine fn_istore_7 hV dX3_add_4 rfl rfl ?_
  refine fn_aload_0 hV dX3_add_6 ?_
  refine fn_getR hV dX3_add_7 fl_X3_9 fr_36_0 ?_
  refine fn_iload_7 hV dX3_add_10 ?_
  refine fn_iload_1 hV dX3_add_12 ?_
  refine fn_iast hV dX3_add_13 ar_37 (by omega) (by omega) ?_
  refine fn_aload_0 hV dX3_add_14 ?_
  refine fn_getR hV dX3_add_15 fl_X3_15 fr_36_1 ?_
  refine fn_iload_7 hV dX3_add_18 ?_
  refine fn_iload_2 hV dX3_add_20 ?_
  refine fn_iast hV dX3_add_21 ar_38 (by omega) (by omega) ?_
  refine fn_aload_0 hV dX3_add_22 ?_
  refine fn_getR hV dX3_add_23 fl_X3_18 fr_36_2 ?_
  refine fn_iload_7 hV dX3_add_26 ?_
  refine fn_iload_3 hV dX3_add_28 ?_
  refine fn_iast hV dX3_add_29 ar_39 (by omega) (by omega) ?_
  refine fn_aload_0 hV dX3_add_30 ?_
  refine fn_getR hV dX3_add_31 fl_X3_21 fr_36_3 ?_
  refine fn_iload_7 hV dX3_add_34 ?_
  refine fn_iload_4 hV dX3_add_36 ?_
  refine fn_iast hV dX3_add_38 ar_40 (by omega) (by omega) ?_
  refine fn_aload_0 hV dX3_add_39 ?_
  refine fn_getR hV dX3_add_40 fl_X3_24 fr_36_4 ?_
  refine fn_iload_7 hV dX3_add_43 ?_
  refine fn_iload_5 hV dX3_add_45 ?_
  refine fn_iast hV dX3_add_47 ar_41 (by omega) (by omega) ?_
  refine fn_aload_0 hV dX3_add_48 ?_
  refine fn_getR hV dX3_add_49 fl_X3_27 fr_36_5 ?_
  refine fn_iload_7 hV dX3_add_52 ?_
  refine fn_iload_6 hV dX3_add_54 ?_
  refine fn_iast hV dX3_add_56 ar_42 (by omega) (by omega) ?_
  refine fn_aload_0 hV dX3_add_57 ?_
  refine fn_iload_7 hV dX3_add_58 ?_
  refine fn_iconst hV dX3_add_60 ?_
  refine fn_iadd hV dX3_add_61 ?_
  refine fn_putIz hV 6 dX3_add_62 fp_X3_30 fi_36_6 rfl ?_
  refine fn_iload_7 hV dX3_add_65 ?_
  exact fn_iret hR dX3_add_67 ⟨rfl, rfl⟩

set_option maxHeartbeats 4000000 in
set_option maxRecDepth 20000 in
theorem c_X3_milesRun (E : fnE) (σ : fnMem) (L : Nat) (hK : kLg σ L) : fnOk E mX3_milesRun [.ref 36] σ (fnIs (some (zI (zsum (σ 40) L))) σ) := by
  refine fnOk.of [.ref 36, .null, .null] rfl (by decide +kernel) rfl (fun V hV hR => ?_)
  replace hV : fnCx E RX3 cX3_milesRun 3 0 0 V := hV
  replace hR : fnRt cX3_milesRun (some .int) _ V := hR
  have h36 := hK.1
  have h40 := hK.2.1
  refine fn_iconst hV dX3_milesRun_0 ?_
  refine fn_istore_1 hV dX3_milesRun_1 rfl rfl ?_
  refine fn_iconst hV dX3_milesRun_2 ?_
  refine fn_istore_2 hV dX3_milesRun_3 rfl rfl ?_
  have L : ∀ k : Nat, k ≤ L → ∀ (i a : Int), True → (i = k) → (a = zsum (σ 40) k) → V 4 [.ref 36, zI a, zI i] [] σ := by
    refine fn_rec (fun k hk ihL => ?_)
    intro i a _ hi ha
    refine fn_iload_2 hV dX3_milesRun_4 ?_
    refine fn_aload_0 hV dX3_milesRun_5 ?_
    refine fn_getIz hV 6 dX3_milesRun_6 fl_X3_30 fi_36_6 rfl ?_
    refine fn_icmp_ge hV (by omega) (by omega) dX3_milesRun_9 (fun q9 => ?_) (fun q9 => ?_)
    · refine fn_iload_1 hV dX3_milesRun_27 ?_
      exact fn_iret hR dX3_milesRun_28 (fnIs.i (by rw [ha, show k = L by omega]))
    · refine fn_iload_1 hV dX3_milesRun_12 ?_
      refine fn_aload_0 hV dX3_milesRun_13 ?_
      refine fn_getR hV dX3_milesRun_14 fl_X3_21 fr_36_3 ?_
      refine fn_iload_2 hV dX3_milesRun_17 ?_
      refine fn_iald hV dX3_milesRun_18 ar_40 (by omega) (by omega) ?_
      refine fn_iadd hV dX3_milesRun_19 ?_
      refine fn_istore_1 hV dX3_milesRun_20 rfl rfl ?_
      refine fn_iinc_2 hV dX3_milesRun_21 rfl rfl ?_
      refine fn_goto hV dX3_milesRun_24 ?_
      exact ihL (k + 1) (by omega) (by omega) _ _ trivial (by omega) (by rw [zsum_s, ← hi, ha])
  exact L 0 (by omega) _ _ trivial (by omega) rfl
