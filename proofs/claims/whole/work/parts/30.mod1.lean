theorem zrM {X Y r : Int} (hY : 0 < Y) (hr : r = X % Y) : (X - r).tdiv Y = X / Y := by
  have := Int.emod_add_mul_ediv X Y
  rw [hr, show X - X % Y = Y * (X / Y) by omega, Int.mul_tdiv_cancel_left _ (by omega)]
theorem zsn_leaf {p t v : Int} (h : p % 32 = t) (hv : zsn t = v) : v = zsn p := by rw [← hv, ← h]; exact zsn_mod p

set_option maxHeartbeats 4000000 in
set_option maxRecDepth 20000 in
theorem c_X11_in (E : fnE) (σ : fnMem) (x a b : Int) (hx : fnRl x) (ha : fnRl a) (hb : fnRl b) : fnOk E mX11_in [zL x, zL a, zL b] σ (fnIs (some (zI (if a ≤ x ∧ x ≤ b then 1 else 0))) σ) := by
  refine fnOk.of [zL x, .null, zL a, .null, zL b, .null] rfl (by decide +kernel) rfl (fun V hV hR => ?_)
  replace hV : fnCx E RX11 cX11_in 6 0 0 V := hV
  replace hR : fnRt cX11_in (some .boolean) _ V := hR
  refine fn_lload_0 hV dX11_in_0 ?_
  refine fn_lload_2 hV dX11_in_1 ?_
  refine fn_lcmp_lt hV (by omega) (by omega) dX11_in_2 dX11_in_3 (fun q2 => ?_) (fun q2 => ?_)
  · refine fn_iconst hV dX11_in_17 ?_
    exact fn_zret hR dX11_in_18 (by first | exact Or.inl rfl | exact Or.inr rfl | (split <;> simp)) (fnIs.i (by first | rw [if_pos (by omega)] | rw [if_neg (by omega)]))
  · refine fn_lload_0 hV dX11_in_6 ?_
    refine fn_lload_4 hV dX11_in_7 ?_
    refine fn_lcmp_gt hV (by omega) (by omega) dX11_in_9 dX11_in_10 (fun q9 => ?_) (fun q9 => ?_)
    · refine fn_iconst hV dX11_in_17 ?_
      exact fn_zret hR dX11_in_18 (by first | exact Or.inl rfl | exact Or.inr rfl | (split <;> simp)) (fnIs.i (by first | rw [if_pos (by omega)] | rw [if_neg (by omega)]))
    · refine fn_iconst hV dX11_in_13 ?_
      refine fn_goto hV dX11_in_14 ?_
      exact fn_zret hR dX11_in_18 (by first | exact Or.inl rfl | exact Or.inr rfl | (split <;> simp)) (fnIs.i (by first | rw [if_pos (by omega)] | rw [if_neg (by omega)]))

set_option maxHeartbeats 4000000 in
set_option maxRecDepth 20000 in
theorem c_X11_size (E : fnE) (σ : fnMem) (x : Int) (hx : fnR x) : fnOk E mX11_size [zI x] σ (fnIs (some (zI (zabs x))) σ) := by
  refine fnOk.of [zI x] rfl (by decide +kernel) rfl (fun V hV hR => ?_)
  replace hV : fnCx E RX11 cX11_size 1 0 0 V := hV
  replace hR : fnRt cX11_size (some .int) _ V := hR
  refine fn_iload_0 hV dX11_size_0 ?_
  refine fn_if_ge hV (by omega) dX11_size_1 (fun q1 => ?_) (fun q1 => ?_)
  · refine fn_iload_0 hV dX11_size_9 ?_
    exact fn_iret hR dX11_size_10 (fnIs.i (by unfold zabs; split <;> omega))
  · refine fn_iload_0 hV dX11_size_4 ?_
    refine fn_ineg hV dX11_size_5 ?_
    refine fn_goto hV dX11_size_6 ?_
    exact fn_iret hR dX11_size_10 (fnIs.i (by unfold zabs; split <;> omega))

set_option maxHeartbeats 4000000 in
set_option maxRecDepth 20000 in
theorem c_X11_turned (E : fnE) (σ : fnMem) (x y : Int) (hx : fnR x) (hy : 0 < y) (hy2 : y < 2147483648) : fnOk E mX11_turned [zI x, zI y] σ (fnIs (some (zI (x % y))) σ) := by
  refine fnOk.of [zI x, zI y, .null] rfl (by decide +kernel) rfl (fun V hV hR => ?_)
  replace hV : fnCx E RX11 cX11_turned 3 0 0 V := hV
  replace hR : fnRt cX11_turned (some .int) _ V := hR
  have hm := Int.tmod_lt_of_pos x hy
  have hm2 := Int.lt_tmod_of_pos x hy
  refine fn_iload_0 hV dX11_turned_0 ?_
  refine fn_iload_1 hV dX11_turned_1 ?_
  refine fn_irem hV dX11_turned_2 (by omega) (by omega) (by omega) ?_
  refine fn_istore_2 hV dX11_turned_3 rfl rfl ?_
  refine fn_iload_2 hV dX11_turned_4 ?_
  refine fn_if_ge hV (by omega) dX11_turned_5 (fun q5 => ?_) (fun q5 => ?_)
  · refine fn_iload_2 hV dX11_turned_14 ?_
    exact fn_iret hR dX11_turned_15 (fnIs.i (by rw [ztmod_fl hy]; split <;> omega))
  · refine fn_iload_2 hV dX11_turned_8 ?_
    refine fn_iload_1 hV dX11_turned_9 ?_
    refine fn_iadd hV dX11_turned_10 ?_
    refine fn_goto hV dX11_turned_11 ?_
    exact fn_iret hR dX11_turned_15 (fnIs.i (by rw [ztmod_fl hy]; split <;> omega))

set_option maxHeartbeats 4000000 in
set_option maxRecDepth 20000 in
theorem c_X11_rounded (E : fnE) (σ : fnMem) (a b : Int) (ha : -1152921504606846976 < a ∧ a < 1152921504606846976) (hb : 0 < b ∧ b < 1152921504606846976) : fnOk E mX11_rounded [zL a, zL b] σ (fnIs (some (zL (zrnd a b))) σ) := by
  refine fnOk.of [zL a, .null, zL b, .null, .null, .null, .null, .null, .null, .null] rfl (by decide +kernel) rfl (fun V hV hR => ?_)
  replace hV : fnCx E RX11 cX11_rounded 10 0 0 V := hV
  replace hR : fnRt cX11_rounded (some .long) _ V := hR
  have hm := Int.tmod_lt_of_pos (2 * a + b) (show 0 < 2 * b by omega)
  have hm2 := Int.lt_tmod_of_pos (2 * a + b) (show 0 < 2 * b by omega)
  refine fn_ldc2 hV dX11_rounded_0 co_X11_99 ?_
  refine fn_lload_0 hV dX11_rounded_3 ?_
  refine fn_lmul hV dX11_rounded_4 ?_
  refine fn_lload_2 hV dX11_rounded_5 ?_
  refine fn_ladd hV dX11_rounded_6 ?_
  refine fn_lstore_4 hV dX11_rounded_7 rfl rfl ?_
  refine fn_ldc2 hV dX11_rounded_9 co_X11_99 ?_
  refine fn_lload_2 hV dX11_rounded_12 ?_
  refine fn_lmul hV dX11_rounded_13 ?_
  refine fn_lstore_6 hV dX11_rounded_14 rfl rfl ?_
  refine fn_lload_4 hV dX11_rounded_16 ?_
  refine fn_lload_6 hV dX11_rounded_18 ?_
  refine fn_lrem hV dX11_rounded_20 (by omega) (by omega) (by omega) ?_
  refine fn_lstore_8 hV dX11_rounded_21 rfl rfl ?_
  refine fn_lload_4 hV dX11_rounded_23 ?_
  refine fn_lload_8 hV dX11_rounded_25 ?_
  refine fn_lconst0 hV dX11_rounded_27 ?_
  refine fn_lcmp_ge hV (by omega) (by omega) dX11_rounded_28 dX11_rounded_29 (fun q28 => ?_) (fun q28 => ?_)
  · refine fn_lload_8 hV dX11_rounded_40 ?_
    refine fn_lsub hV dX11_rounded_42 ?_
    refine fn_lload_6 hV dX11_rounded_43 ?_
    refine fn_ldiv hV dX11_rounded_45 (by omega) (by omega) (by omega) ?_
    exact fn_lret hR dX11_rounded_46 (fnIs.l (zrM (by omega) (by rw [ztmod_fl (by omega)]; first | rw [if_pos (by omega)] | rw [if_neg (by omega)])))
  · refine fn_lload_8 hV dX11_rounded_32 ?_
    refine fn_lload_6 hV dX11_rounded_34 ?_
    refine fn_ladd hV dX11_rounded_36 ?_
    refine fn_goto hV dX11_rounded_37 ?_
    refine fn_lsub hV dX11_rounded_42 ?_
    refine fn_lload_6 hV dX11_rounded_43 ?_
    refine fn_ldiv hV dX11_rounded_45 (by omega) (by omega) (by omega) ?_
    exact fn_lret hR dX11_rounded_46 (fnIs.l (zrM (by omega) (by rw [ztmod_fl (by omega)]; first | rw [if_pos (by omega)] | rw [if_neg (by omega)])))

set_option maxHeartbeats 4000000 in
set_option maxRecDepth 20000 in
theorem c_X11_sinOf (E : fnE) (σ : fnMem) (p : Int) (hp : fnR p) : fnOk E mX11_sinOf [zI p] σ (fnIs (some (zI (zsn p))) σ) := by
  refine fnOk.of [zI p, .null, .null, .null, .null] rfl (by decide +kernel) rfl (fun V hV hR => ?_)
  replace hV : fnCx E RX11 cX11_sinOf 5 1 22 V := hV
  replace hR : fnRt cX11_sinOf (some .int) _ V := hR
  refine fn_iload_0 hV dX11_sinOf_0 ?_
  refine fn_bipush hV dX11_sinOf_1 rfl ?_
  refine fn_cS2 hV (c_X11_turned E _ _ _ (by omega) (by omega) (by omega)) ms_X11_turned lk_X11_101 dX11_sinOf_3 ⟨rfl, rfl⟩ rfl ?_
  refine fn_istore_1 hV dX11_sinOf_6 rfl rfl ?_
  refine fn_iload_1 hV dX11_sinOf_7 ?_
  refine fn_bipush hV dX11_sinOf_8 rfl ?_
  refine fn_iremp hV dX11_sinOf_10 (by omega) (by omega) ?_
  refine fn_istore_2 hV dX11_sinOf_11 rfl rfl ?_
  refine fn_iload_2 hV dX11_sinOf_12 ?_
  refine fn_bipush hV dX11_sinOf_13 rfl ?_
  refine fn_icmp_le hV (by omega) (by omega) dX11_sinOf_15 (fun q15 => ?_) (fun q15 => ?_)
  · refine fn_iload_2 hV dX11_sinOf_25 ?_
    refine fn_istore_3 hV dX11_sinOf_26 rfl rfl ?_
    refine fn_iload_3 hV dX11_sinOf_27 ?_
    refine fn_if_ne hV (by omega) dX11_sinOf_28 (fun q28 => ?_) (fun q28 => ?_)
    · refine fn_iload_3 hV dX11_sinOf_35 ?_
      refine fn_iconst hV dX11_sinOf_36 ?_
      refine fn_icmp_ne hV (by omega) (by omega) dX11_sinOf_37 (fun q37 => ?_) (fun q37 => ?_)
      · refine fn_iload_3 hV dX11_sinOf_46 ?_
        refine fn_iconst hV dX11_sinOf_47 ?_
        refine fn_icmp_ne hV (by omega) (by omega) dX11_sinOf_48 (fun q48 => ?_) (fun q48 => ?_)
        · refine fn_iload_3 hV dX11_sinOf_57 ?_
          refine fn_iconst hV dX11_sinOf_58 ?_
          refine fn_icmp_ne hV (by omega) (by omega) dX11_sinOf_59 (fun q59 => ?_) (fun q59 => ?_)
          · refine fn_iload_3 hV dX11_sinOf_68 ?_
            refine fn_iconst hV dX11_sinOf_69 ?_
            refine fn_icmp_ne hV (by omega) (by omega) dX11_sinOf_70 (fun q70 => ?_) (fun q70 => ?_)
            · refine fn_iload_3 hV dX11_sinOf_79 ?_
              refine fn_iconst hV dX11_sinOf_80 ?_
              refine fn_icmp_ne hV (by omega) (by omega) dX11_sinOf_81 (fun q81 => ?_) (fun q81 => ?_)
              · refine fn_iload_3 hV dX11_sinOf_90 ?_
                refine fn_bipush hV dX11_sinOf_91 rfl ?_
                refine fn_icmp_ne hV (by omega) (by omega) dX11_sinOf_93 (fun q93 => ?_) (fun q93 => ?_)
                · refine fn_iload_3 hV dX11_sinOf_102 ?_
                  refine fn_bipush hV dX11_sinOf_103 rfl ?_
                  refine fn_icmp_ne hV (by omega) (by omega) dX11_sinOf_105 (fun q105 => ?_) (fun q105 => ?_)
                  · refine fn_sipush hV dX11_sinOf_114 rfl ?_
                    refine fn_istore_4 hV dX11_sinOf_117 rfl rfl ?_
                    refine fn_iload_1 hV dX11_sinOf_119 ?_
                    refine fn_bipush hV dX11_sinOf_120 rfl ?_
                    refine fn_icmp_le hV (by omega) (by omega) dX11_sinOf_122 (fun q122 => ?_) (fun q122 => ?_)
                    · refine fn_iload_4 hV dX11_sinOf_131 ?_
                      exact fn_iret hR dX11_sinOf_133 (fnIs.i (by first | exact zsn_leaf (t := 0) (by omega) rfl | exact zsn_leaf (t := 1) (by omega) rfl | exact zsn_leaf (t := 2) (by omega) rfl | exact zsn_leaf (t := 3) (by omega) rfl | exact zsn_leaf (t := 4) (by omega) rfl | exact zsn_leaf (t := 5) (by omega) rfl | exact zsn_leaf (t := 6) (by omega) rfl | exact zsn_leaf (t := 7) (by omega) rfl | exact zsn_leaf (t := 8) (by omega) rfl | exact zsn_leaf (t := 9) (by omega) rfl | exact zsn_leaf (t := 10) (by omega) rfl | exact zsn_leaf (t := 11) (by omega) rfl | exact zsn_leaf (t := 12) (by omega) rfl | exact zsn_leaf (t := 13) (by omega) rfl | exact zsn_leaf (t := 14) (by omega) rfl | exact zsn_leaf (t := 15) (by omega) rfl | exact zsn_leaf (t := 16) (by omega) rfl | exact zsn_leaf (t := 17) (by omega) rfl | exact zsn_leaf (t := 18) (by omega) rfl | exact zsn_leaf (t := 19) (by omega) rfl | exact zsn_leaf (t := 20) (by omega) rfl | exact zsn_leaf (t := 21) (by omega) rfl | exact zsn_leaf (t := 22) (by omega) rfl | exact zsn_leaf (t := 23) (by omega) rfl | exact zsn_leaf (t := 24) (by omega) rfl | exact zsn_leaf (t := 25) (by omega) rfl | exact zsn_leaf (t := 26) (by omega) rfl | exact zsn_leaf (t := 27) (by omega) rfl | exact zsn_leaf (t := 28) (by omega) rfl | exact zsn_leaf (t := 29) (by omega) rfl | exact zsn_leaf (t := 30) (by omega) rfl | exact zsn_leaf (t := 31) (by omega) rfl | (rcases (show p % 32 = 0 ∨ p % 32 = 16 by omega) with q | q <;> exact zsn_leaf q rfl) | (exfalso; omega)))
                    · refine fn_iload_4 hV dX11_sinOf_125 ?_
                      refine fn_ineg hV dX11_sinOf_127 ?_
                      refine fn_goto hV dX11_sinOf_128 ?_
                      exact fn_iret hR dX11_sinOf_133 (fnIs.i (by first | exact zsn_leaf (t := 0) (by omega) rfl | exact zsn_leaf (t := 1) (by omega) rfl | exact zsn_leaf (t := 2) (by omega) rfl | exact zsn_leaf (t := 3) (by omega) rfl | exact zsn_leaf (t := 4) (by omega) rfl | exact zsn_leaf (t := 5) (by omega) rfl | exact zsn_leaf (t := 6) (by omega) rfl | exact zsn_leaf (t := 7) (by omega) rfl | exact zsn_leaf (t := 8) (by omega) rfl | exact zsn_leaf (t := 9) (by omega) rfl | exact zsn_leaf (t := 10) (by omega) rfl | exact zsn_leaf (t := 11) (by omega) rfl | exact zsn_leaf (t := 12) (by omega) rfl | exact zsn_leaf (t := 13) (by omega) rfl | exact zsn_leaf (t := 14) (by omega) rfl | exact zsn_leaf (t := 15) (by omega) rfl | exact zsn_leaf (t := 16) (by omega) rfl | exact zsn_leaf (t := 17) (by omega) rfl | exact zsn_leaf (t := 18) (by omega) rfl | exact zsn_leaf (t := 19) (by omega) rfl | exact zsn_leaf (t := 20) (by omega) rfl | exact zsn_leaf (t := 21) (by omega) rfl | exact zsn_leaf (t := 22) (by omega) rfl | exact zsn_leaf (t := 23) (by omega) rfl | exact zsn_leaf (t := 24) (by omega) rfl | exact zsn_leaf (t := 25) (by omega) rfl | exact zsn_leaf (t := 26) (by omega) rfl | exact zsn_leaf (t := 27) (by omega) rfl | exact zsn_leaf (t := 28) (by omega) rfl | exact zsn_leaf (t := 29) (by omega) rfl | exact zsn_leaf (t := 30) (by omega) rfl | exact zsn_leaf (t := 31) (by omega) rfl | (rcases (show p % 32 = 0 ∨ p % 32 = 16 by omega) with q | q <;> exact zsn_leaf q rfl) | (exfalso; omega)))
                  · refine fn_sipush hV dX11_sinOf_108 rfl ?_
                    refine fn_goto hV dX11_sinOf_111 ?_
                    refine fn_istore_4 hV dX11_sinOf_117 rfl rfl ?_
                    refine fn_iload_1 hV dX11_sinOf_119 ?_
                    refine fn_bipush hV dX11_sinOf_120 rfl ?_
                    refine fn_icmp_le hV (by omega) (by omega) dX11_sinOf_122 (fun q122 => ?_) (fun q122 => ?_)
                    · refine fn_iload_4 hV dX11_sinOf_131 ?_
                      exact fn_iret hR dX11_sinOf_133 (fnIs.i (by first | exact zsn_leaf (t := 0) (by omega) rfl | exact zsn_leaf (t := 1) (by omega) rfl | exact zsn_leaf (t := 2) (by omega) rfl | exact zsn_leaf (t := 3) (by omega) rfl | exact zsn_leaf (t := 4) (by omega) rfl | exact zsn_leaf (t := 5) (by omega) rfl | exact zsn_leaf (t := 6) (by omega) rfl | exact zsn_leaf (t := 7) (by omega) rfl | exact zsn_leaf (t := 8) (by omega) rfl | exact zsn_leaf (t := 9) (by omega) rfl | exact zsn_leaf (t := 10) (by omega) rfl | exact zsn_leaf (t := 11) (by omega) rfl | exact zsn_leaf (t := 12) (by omega) rfl | exact zsn_leaf (t := 13) (by omega) rfl | exact zsn_leaf (t := 14) (by omega) rfl | exact zsn_leaf (t := 15) (by omega) rfl | exact zsn_leaf (t := 16) (by omega) rfl | exact zsn_leaf (t := 17) (by omega) rfl | exact zsn_leaf (t := 18) (by omega) rfl | exact zsn_leaf (t := 19) (by omega) rfl | exact zsn_leaf (t := 20) (by omega) rfl | exact zsn_leaf (t := 21) (by omega) rfl | exact zsn_leaf (t := 22) (by omega) rfl | exact zsn_leaf (t := 23) (by omega) rfl | exact zsn_leaf (t := 24) (by omega) rfl | exact zsn_leaf (t := 25) (by omega) rfl | exact zsn_leaf (t := 26) (by omega) rfl | exact zsn_leaf (t := 27) (by omega) rfl | exact zsn_leaf (t := 28) (by omega) rfl | exact zsn_leaf (t := 29) (by omega) rfl | exact zsn_leaf (t := 30) (by omega) rfl | exact zsn_leaf (t := 31) (by omega) rfl | (rcases (show p % 32 = 0 ∨ p % 32 = 16 by omega) with q | q <;> exact zsn_leaf q rfl) | (exfalso; omega)))
                    · refine fn_iload_4 hV dX11_sinOf_125 ?_
                      refine fn_ineg hV dX11_sinOf_127 ?_
                      refine fn_goto hV dX11_sinOf_128 ?_
                      exact fn_iret hR dX11_sinOf_133 (fnIs.i (by first | exact zsn_leaf (t := 0) (by omega) rfl | exact zsn_leaf (t := 1) (by omega) rfl | exact zsn_leaf (t := 2) (by omega) rfl | exact zsn_leaf (t := 3) (by omega) rfl | exact zsn_leaf (t := 4) (by omega) rfl | exact zsn_leaf (t := 5) (by omega) rfl | exact zsn_leaf (t := 6) (by omega) rfl | exact zsn_leaf (t := 7) (by omega) rfl | exact zsn_leaf (t := 8) (by omega) rfl | exact zsn_leaf (t := 9) (by omega) rfl | exact zsn_leaf (t := 10) (by omega) rfl | exact zsn_leaf (t := 11) (by omega) rfl | exact zsn_leaf (t := 12) (by omega) rfl | exact zsn_leaf (t := 13) (by omega) rfl | exact zsn_leaf (t := 14) (by omega) rfl | exact zsn_leaf (t := 15) (by omega) rfl | exact zsn_leaf (t := 16) (by omega) rfl | exact zsn_leaf (t := 17) (by omega) rfl | exact zsn_leaf (t := 18) (by omega) rfl | exact zsn_leaf (t := 19) (by omega) rfl | exact zsn_leaf (t := 20) (by omega) rfl | exact zsn_leaf (t := 21) (by omega) rfl | exact zsn_leaf (t := 22) (by omega) rfl | exact zsn_leaf (t := 23) (by omega) rfl | exact zsn_leaf (t := 24) (by omega) rfl | exact zsn_leaf (t := 25) (by omega) rfl | exact zsn_leaf (t := 26) (by omega) rfl | exact zsn_leaf (t := 27) (by omega) rfl | exact zsn_leaf (t := 28) (by omega) rfl | exact zsn_leaf (t := 29) (by omega) rfl | exact zsn_leaf (t := 30) (by omega) rfl | exact zsn_leaf (t := 31) (by omega) rfl | (rcases (show p % 32 = 0 ∨ p % 32 = 16 by omega) with q | q <;> exact zsn_leaf q rfl) | (exfalso; omega)))
                · refine fn_sipush hV dX11_sinOf_96 rfl ?_
                  refine fn_goto hV dX11_sinOf_99 ?_
                  refine fn_istore_4 hV dX11_sinOf_117 rfl rfl ?_
                  refine fn_iload_1 hV dX11_sinOf_119 ?_
                  refine fn_bipush hV dX11_sinOf_120 rfl ?_
                  refine fn_icmp_le hV (by omega) (by omega) dX11_sinOf_122 (fun q122 => ?_) (fun q122 => ?_)
                  · refine fn_iload_4 hV dX11_sinOf_131 ?_
                    exact fn_iret hR dX11_sinOf_133 (fnIs.i (by first | exact zsn_leaf (t := 0) (by omega) rfl | exact zsn_leaf (t := 1) (by omega) rfl | exact zsn_leaf (t := 2) (by omega) rfl | exact zsn_leaf (t := 3) (by omega) rfl | exact zsn_leaf (t := 4) (by omega) rfl | exact zsn_leaf (t := 5) (by omega) rfl | exact zsn_leaf (t := 6) (by omega) rfl | exact zsn_leaf (t := 7) (by omega) rfl | exact zsn_leaf (t := 8) (by omega) rfl | exact zsn_leaf (t := 9) (by omega) rfl | exact zsn_leaf (t := 10) (by omega) rfl | exact zsn_leaf (t := 11) (by omega) rfl | exact zsn_leaf (t := 12) (by omega) rfl | exact zsn_leaf (t := 13) (by omega) rfl | exact zsn_leaf (t := 14) (by omega) rfl | exact zsn_leaf (t := 15) (by omega) rfl | exact zsn_leaf (t := 16) (by omega) rfl | exact zsn_leaf (t := 17) (by omega) rfl | exact zsn_leaf (t := 18) (by omega) rfl | exact zsn_leaf (t := 19) (by omega) rfl | exact zsn_leaf (t := 20) (by omega) rfl | exact zsn_leaf (t := 21) (by omega) rfl | exact zsn_leaf (t := 22) (by omega) rfl | exact zsn_leaf (t := 23) (by omega) rfl | exact zsn_leaf (t := 24) (by omega) rfl | exact zsn_leaf (t := 25) (by omega) rfl | exact zsn_leaf (t := 26) (by omega) rfl | exact zsn_leaf (t := 27) (by omega) rfl | exact zsn_leaf (t := 28) (by omega) rfl | exact zsn_leaf (t := 29) (by omega) rfl | exact zsn_leaf (t := 30) (by omega) rfl | exact zsn_leaf (t := 31) (by omega) rfl | (rcases (show p % 32 = 0 ∨ p % 32 = 16 by omega) with q | q <;> exact zsn_leaf q rfl) | (exfalso; omega)))
                  · refine fn_iload_4 hV dX11_sinOf_125 ?_
                    refine fn_ineg hV dX11_sinOf_127 ?_
                    refine fn_goto hV dX11_sinOf_128 ?_
                    exact fn_iret hR dX11_sinOf_133 (fnIs.i (by first | exact zsn_leaf (t := 0) (by omega) rfl | exact zsn_leaf (t := 1) (by omega) rfl | exact zsn_leaf (t := 2) (by omega) rfl | exact zsn_leaf (t := 3) (by omega) rfl | exact zsn_leaf (t := 4) (by omega) rfl | exact zsn_leaf (t := 5) (by omega) rfl | exact zsn_leaf (t := 6) (by omega) rfl | exact zsn_leaf (t := 7) (by omega) rfl | exact zsn_leaf (t := 8) (by omega) rfl | exact zsn_leaf (t := 9) (by omega) rfl | exact zsn_leaf (t := 10) (by omega) rfl | exact zsn_leaf (t := 11) (by omega) rfl | exact zsn_leaf (t := 12) (by omega) rfl | exact zsn_leaf (t := 13) (by omega) rfl | exact zsn_leaf (t := 14) (by omega) rfl | exact zsn_leaf (t := 15) (by omega) rfl | exact zsn_leaf (t := 16) (by omega) rfl | exact zsn_leaf (t := 17) (by omega) rfl | exact zsn_leaf (t := 18) (by omega) rfl | exact zsn_leaf (t := 19) (by omega) rfl | exact zsn_leaf (t := 20) (by omega) rfl | exact zsn_leaf (t := 21) (by omega) rfl | exact zsn_leaf (t := 22) (by omega) rfl | exact zsn_leaf (t := 23) (by omega) rfl | exact zsn_leaf (t := 24) (by omega) rfl | exact zsn_leaf (t := 25) (by omega) rfl | exact zsn_leaf (t := 26) (by omega) rfl | exact zsn_leaf (t := 27) (by omega) rfl | exact zsn_leaf (t := 28) (by omega) rfl | exact zsn_leaf (t := 29) (by omega) rfl | exact zsn_leaf (t := 30) (by omega) rfl | exact zsn_leaf (t := 31) (by omega) rfl | (rcases (show p % 32 = 0 ∨ p % 32 = 16 by omega) with q | q <;> exact zsn_leaf q rfl) | (exfalso; omega)))
              · refine fn_sipush hV dX11_sinOf_84 rfl ?_
                refine fn_goto hV dX11_sinOf_87 ?_
                refine fn_istore_4 hV dX11_sinOf_117 rfl rfl ?_
                refine fn_iload_1 hV dX11_sinOf_119 ?_
                refine fn_bipush hV dX11_sinOf_120 rfl ?_
                refine fn_icmp_le hV (by omega) (by omega) dX11_sinOf_122 (fun q122 => ?_) (fun q122 => ?_)
                · refine fn_iload_4 hV dX11_sinOf_131 ?_
                  exact fn_iret hR dX11_sinOf_133 (fnIs.i (by first | exact zsn_leaf (t := 0) (by omega) rfl | exact zsn_leaf (t := 1) (by omega) rfl | exact zsn_leaf (t := 2) (by omega) rfl | exact zsn_leaf (t := 3) (by omega) rfl | exact zsn_leaf (t := 4) (by omega) rfl | exact zsn_leaf (t := 5) (by omega) rfl | exact zsn_leaf (t := 6) (by omega) rfl | exact zsn_leaf (t := 7) (by omega) rfl | exact zsn_leaf (t := 8) (by omega) rfl | exact zsn_leaf (t := 9) (by omega) rfl | exact zsn_leaf (t := 10) (by omega) rfl | exact zsn_leaf (t := 11) (by omega) rfl | exact zsn_leaf (t := 12) (by omega) rfl | exact zsn_leaf (t := 13) (by omega) rfl | exact zsn_leaf (t := 14) (by omega) rfl | exact zsn_leaf (t := 15) (by omega) rfl | exact zsn_leaf (t := 16) (by omega) rfl | exact zsn_leaf (t := 17) (by omega) rfl | exact zsn_leaf (t := 18) (by omega) rfl | exact zsn_leaf (t := 19) (by omega) rfl | exact zsn_leaf (t := 20) (by omega) rfl | exact zsn_leaf (t := 21) (by omega) rfl | exact zsn_leaf (t := 22) (by omega) rfl | exact zsn_leaf (t := 23) (by omega) rfl | exact zsn_leaf (t := 24) (by omega) rfl | exact zsn_leaf (t := 25) (by omega) rfl | exact zsn_leaf (t := 26) (by omega) rfl | exact zsn_leaf (t := 27) (by omega) rfl | exact zsn_leaf (t := 28) (by omega) rfl | exact zsn_leaf (t := 29) (by omega) rfl | exact zsn_leaf (t := 30) (by omega) rfl | exact zsn_leaf (t := 31) (by omega) rfl | (rcases (show p % 32 = 0 ∨ p % 32 = 16 by omega) with q | q <;> exact zsn_leaf q rfl) | (exfalso; omega)))
                · refine fn_iload_4 hV dX11_sinOf_125 ?_
                  refine fn_ineg hV dX11_sinOf_127 ?_
                  refine fn_goto hV dX11_sinOf_128 ?_
                  exact fn_iret hR dX11_sinOf_133 (fnIs.i (by first | exact zsn_leaf (t := 0) (by omega) rfl | exact zsn_leaf (t := 1) (by omega) rfl | exact zsn_leaf (t := 2) (by omega) rfl | exact zsn_leaf (t := 3) (by omega) rfl | exact zsn_leaf (t := 4) (by omega) rfl | exact zsn_leaf (t := 5) (by omega) rfl | exact zsn_leaf (t := 6) (by omega) rfl | exact zsn_leaf (t := 7) (by omega) rfl | exact zsn_leaf (t := 8) (by omega) rfl | exact zsn_leaf (t := 9) (by omega) rfl | exact zsn_leaf (t := 10) (by omega) rfl | exact zsn_leaf (t := 11) (by omega) rfl | exact zsn_leaf (t := 12) (by omega) rfl | exact zsn_leaf (t := 13) (by omega) rfl | exact zsn_leaf (t := 14) (by omega) rfl | exact zsn_leaf (t := 15) (by omega) rfl | exact zsn_leaf (t := 16) (by omega) rfl | exact zsn_leaf (t := 17) (by omega) rfl | exact zsn_leaf (t := 18) (by omega) rfl | exact zsn_leaf (t := 19) (by omega) rfl | exact zsn_leaf (t := 20) (by omega) rfl | exact zsn_leaf (t := 21) (by omega) rfl | exact zsn_leaf (t := 22) (by omega) rfl | exact zsn_leaf (t := 23) (by omega) rfl | exact zsn_leaf (t := 24) (by omega) rfl | exact zsn_leaf (t := 25) (by omega) rfl | exact zsn_leaf (t := 26) (by omega) rfl | exact zsn_leaf (t := 27) (by omega) rfl | exact zsn_leaf (t := 28) (by omega) rfl | exact zsn_leaf (t := 29) (by omega) rfl | exact zsn_leaf (t := 30) (by omega) rfl | exact zsn_leaf (t := 31) (by omega) rfl | (rcases (show p % 32 = 0 ∨ p % 32 = 16 by omega) with q | q <;> exact zsn_leaf q rfl) | (exfalso; omega)))
            · refine fn_sipush hV dX11_sinOf_73 rfl ?_
              refine fn_goto hV dX11_sinOf_76 ?_
              refine fn_istore_4 hV dX11_sinOf_117 rfl rfl ?_
              refine fn_iload_1 hV dX11_sinOf_119 ?_
              refine fn_bipush hV dX11_sinOf_120 rfl ?_
              refine fn_icmp_le hV (by omega) (by omega) dX11_sinOf_122 (fun q122 => ?_) (fun q122 => ?_)
              · refine fn_iload_4 hV dX11_sinOf_131 ?_
                exact fn_iret hR dX11_sinOf_133 (fnIs.i (by first | exact zsn_leaf (t := 0) (by omega) rfl | exact zsn_leaf (t := 1) (by omega) rfl | exact zsn_leaf (t := 2) (by omega) rfl | exact zsn_leaf (t := 3) (by omega) rfl | exact zsn_leaf (t := 4) (by omega) rfl | exact zsn_leaf (t := 5) (by omega) rfl | exact zsn_leaf (t := 6) (by omega) rfl | exact zsn_leaf (t := 7) (by omega) rfl | exact zsn_leaf (t := 8) (by omega) rfl | exact zsn_leaf (t := 9) (by omega) rfl | exact zsn_leaf (t := 10) (by omega) rfl | exact zsn_leaf (t := 11) (by omega) rfl | exact zsn_leaf (t := 12) (by omega) rfl | exact zsn_leaf (t := 13) (by omega) rfl | exact zsn_leaf (t := 14) (by omega) rfl | exact zsn_leaf (t := 15) (by omega) rfl | exact zsn_leaf (t := 16) (by omega) rfl | exact zsn_leaf (t := 17) (by omega) rfl | exact zsn_leaf (t := 18) (by omega) rfl | exact zsn_leaf (t := 19) (by omega) rfl | exact zsn_leaf (t := 20) (by omega) rfl | exact zsn_leaf (t := 21) (by omega) rfl | exact zsn_leaf (t := 22) (by omega) rfl | exact zsn_leaf (t := 23) (by omega) rfl | exact zsn_leaf (t := 24) (by omega) rfl | exact zsn_leaf (t := 25) (by omega) rfl | exact zsn_leaf (t := 26) (by omega) rfl | exact zsn_leaf (t := 27) (by omega) rfl | exact zsn_leaf (t := 28) (by omega) rfl | exact zsn_leaf (t := 29) (by omega) rfl | exact zsn_leaf (t := 30) (by omega) rfl | exact zsn_leaf (t := 31) (by omega) rfl | (rcases (show p % 32 = 0 ∨ p % 32 = 16 by omega) with q | q <;> exact zsn_leaf q rfl) | (exfalso; omega)))
              · refine fn_iload_4 hV dX11_sinOf_125 ?_
                refine fn_ineg hV dX11_sinOf_127 ?_
                refine fn_goto hV dX11_sinOf_128 ?_
                exact fn_iret hR dX11_sinOf_133 (fnIs.i (by first | exact zsn_leaf (t := 0) (by omega) rfl | exact zsn_leaf (t := 1) (by omega) rfl | exact zsn_leaf (t := 2) (by omega) rfl | exact zsn_leaf (t := 3) (by omega) rfl | exact zsn_leaf (t := 4) (by omega) rfl | exact zsn_leaf (t := 5) (by omega) rfl | exact zsn_leaf (t := 6) (by omega) rfl | exact zsn_leaf (t := 7) (by omega) rfl | exact zsn_leaf (t := 8) (by omega) rfl | exact zsn_leaf (t := 9) (by omega) rfl | exact zsn_leaf (t := 10) (by omega) rfl | exact zsn_leaf (t := 11) (by omega) rfl | exact zsn_leaf (t := 12) (by omega) rfl | exact zsn_leaf (t := 13) (by omega) rfl | exact zsn_leaf (t := 14) (by omega) rfl | exact zsn_leaf (t := 15) (by omega) rfl | exact zsn_leaf (t := 16) (by omega) rfl | exact zsn_leaf (t := 17) (by omega) rfl | exact zsn_leaf (t := 18) (by omega) rfl | exact zsn_leaf (t := 19) (by omega) rfl | exact zsn_leaf (t := 20) (by omega) rfl | exact zsn_leaf (t := 21) (by omega) rfl | exact zsn_leaf (t := 22) (by omega) rfl | exact zsn_leaf (t := 23) (by omega) rfl | exact zsn_leaf (t := 24) (by omega) rfl | exact zsn_leaf (t := 25) (by omega) rfl | exact zsn_leaf (t := 26) (by omega) rfl | exact zsn_leaf (t := 27) (by omega) rfl | exact zsn_leaf (t := 28) (by omega) rfl | exact zsn_leaf (t := 29) (by omega) rfl | exact zsn_leaf (t := 30) (by omega) rfl | exact zsn_leaf (t := 31) (by omega) rfl | (rcases (show p % 32 = 0 ∨ p % 32 = 16 by omega) with q | q <;> exact zsn_leaf q rfl) | (exfalso; omega)))
          · refine fn_sipush hV dX11_sinOf_62 rfl ?_
            refine fn_goto hV dX11_sinOf_65 ?_
            refine fn_istore_4 hV dX11_sinOf_117 rfl rfl ?_
            refine fn_iload_1 hV dX11_sinOf_119 ?_
            refine fn_bipush hV dX11_sinOf_120 rfl ?_
            refine fn_icmp_le hV (by omega) (by omega) dX11_sinOf_122 (fun q122 => ?_) (fun q122 => ?_)
            · refine fn_iload_4 hV dX11_sinOf_131 ?_
              exact fn_iret hR dX11_sinOf_133 (fnIs.i (by first | exact zsn_leaf (t := 0) (by omega) rfl | exact zsn_leaf (t := 1) (by omega) rfl | exact zsn_leaf (t := 2) (by omega) rfl | exact zsn_leaf (t := 3) (by omega) rfl | exact zsn_leaf (t := 4) (by omega) rfl | exact zsn_leaf (t := 5) (by omega) rfl | exact zsn_leaf (t := 6) (by omega) rfl | exact zsn_leaf (t := 7) (by omega) rfl | exact zsn_leaf (t := 8) (by omega) rfl | exact zsn_leaf (t := 9) (by omega) rfl | exact zsn_leaf (t := 10) (by omega) rfl | exact zsn_leaf (t := 11) (by omega) rfl | exact zsn_leaf (t := 12) (by omega) rfl | exact zsn_leaf (t := 13) (by omega) rfl | exact zsn_leaf (t := 14) (by omega) rfl | exact zsn_leaf (t := 15) (by omega) rfl | exact zsn_leaf (t := 16) (by omega) rfl | exact zsn_leaf (t := 17) (by omega) rfl | exact zsn_leaf (t := 18) (by omega) rfl | exact zsn_leaf (t := 19) (by omega) rfl | exact zsn_leaf (t := 20) (by omega) rfl | exact zsn_leaf (t := 21) (by omega) rfl | exact zsn_leaf (t := 22) (by omega) rfl | exact zsn_leaf (t := 23) (by omega) rfl | exact zsn_leaf (t := 24) (by omega) rfl | exact zsn_leaf (t := 25) (by omega) rfl | exact zsn_leaf (t := 26) (by omega) rfl | exact zsn_leaf (t := 27) (by omega) rfl | exact zsn_leaf (t := 28) (by omega) rfl | exact zsn_leaf (t := 29) (by omega) rfl | exact zsn_leaf (t := 30) (by omega) rfl | exact zsn_leaf (t := 31) (by omega) rfl | (rcases (show p % 32 = 0 ∨ p % 32 = 16 by omega) with q | q <;> exact zsn_leaf q rfl) | (exfalso; omega)))
            · refine fn_iload_4 hV dX11_sinOf_125 ?_
              refine fn_ineg hV dX11_sinOf_127 ?_
              refine fn_goto hV dX11_sinOf_128 ?_
              exact fn_iret hR dX11_sinOf_133 (fnIs.i (by first | exact zsn_leaf (t := 0) (by omega) rfl | exact zsn_leaf (t := 1) (by omega) rfl | exact zsn_leaf (t := 2) (by omega) rfl | exact zsn_leaf (t := 3) (by omega) rfl | exact zsn_leaf (t := 4) (by omega) rfl | exact zsn_leaf (t := 5) (by omega) rfl | exact zsn_leaf (t := 6) (by omega) rfl | exact zsn_leaf (t := 7) (by omega) rfl | exact zsn_leaf (t := 8) (by omega) rfl | exact zsn_leaf (t := 9) (by omega) rfl | exact zsn_leaf (t := 10) (by omega) rfl | exact zsn_leaf (t := 11) (by omega) rfl | exact zsn_leaf (t := 12) (by omega) rfl | exact zsn_leaf (t := 13) (by omega) rfl | exact zsn_leaf (t := 14) (by omega) rfl | exact zsn_leaf (t := 15) (by omega) rfl | exact zsn_leaf (t := 16) (by omega) rfl | exact zsn_leaf (t := 17) (by omega) rfl | exact zsn_leaf (t := 18) (by omega) rfl | exact zsn_leaf (t := 19) (by omega) rfl | exact zsn_leaf (t := 20) (by omega) rfl | exact zsn_leaf (t := 21) (by omega) rfl | exact zsn_leaf (t := 22) (by omega) rfl | exact zsn_leaf (t := 23) (by omega) rfl | exact zsn_leaf (t := 24) (by omega) rfl | exact zsn_leaf (t := 25) (by omega) rfl | exact zsn_leaf (t := 26) (by omega) rfl | exact zsn_leaf (t := 27) (by omega) rfl | exact zsn_leaf (t := 28) (by omega) rfl | exact zsn_leaf (t := 29) (by omega) rfl | exact zsn_leaf (t := 30) (by omega) rfl | exact zsn_leaf (t := 31) (by omega) rfl | (rcases (show p % 32 = 0 ∨ p % 32 = 16 by omega) with q | q <;> exact zsn_leaf q rfl) | (exfalso; omega)))
        · refine fn_sipush hV dX11_sinOf_51 rfl ?_
          refine fn_goto hV dX11_sinOf_54 ?_
          refine fn_istore_4 hV dX11_sinOf_117 rfl rfl ?_
          refine fn_iload_1 hV dX11_sinOf_119 ?_
          refine fn_bipush hV dX11_sinOf_120 rfl ?_
          refine fn_icmp_le hV (by omega) (by omega) dX11_sinOf_122 (fun q122 => ?_) (fun q122 => ?_)
          · refine fn_iload_4 hV dX11_sinOf_131 ?_
            exact fn_iret hR dX11_sinOf_133 (fnIs.i (by first | exact zsn_leaf (t := 0) (by omega) rfl | exact zsn_leaf (t := 1) (by omega) rfl | exact zsn_leaf (t := 2) (by omega) rfl | exact zsn_leaf (t := 3) (by omega) rfl | exact zsn_leaf (t := 4) (by omega) rfl | exact zsn_leaf (t := 5) (by omega) rfl | exact zsn_leaf (t := 6) (by omega) rfl | exact zsn_leaf (t := 7) (by omega) rfl | exact zsn_leaf (t := 8) (by omega) rfl | exact zsn_leaf (t := 9) (by omega) rfl | exact zsn_leaf (t := 10) (by omega) rfl | exact zsn_leaf (t := 11) (by omega) rfl | exact zsn_leaf (t := 12) (by omega) rfl | exact zsn_leaf (t := 13) (by omega) rfl | exact zsn_leaf (t := 14) (by omega) rfl | exact zsn_leaf (t := 15) (by omega) rfl | exact zsn_leaf (t := 16) (by omega) rfl | exact zsn_leaf (t := 17) (by omega) rfl | exact zsn_leaf (t := 18) (by omega) rfl | exact zsn_leaf (t := 19) (by omega) rfl | exact zsn_leaf (t := 20) (by omega) rfl | exact zsn_leaf (t := 21) (by omega) rfl | exact zsn_leaf (t := 22) (by omega) rfl | exact zsn_leaf (t := 23) (by omega) rfl | exact zsn_leaf (t := 24) (by omega) rfl | exact zsn_leaf (t := 25) (by omega) rfl | exact zsn_leaf (t := 26) (by omega) rfl | exact zsn_leaf (t := 27) (by omega) rfl | exact zsn_leaf (t := 28) (by omega) rfl | exact zsn_leaf (t := 29) (by omega) rfl | exact zsn_leaf (t := 30) (by omega) rfl | exact zsn_leaf (t := 31) (by omega) rfl | (rcases (show p % 32 = 0 ∨ p % 32 = 16 by omega) with q | q <;> exact zsn_leaf q rfl) | (exfalso; omega)))
          · refine fn_iload_4 hV dX11_sinOf_125 ?_
            refine fn_ineg hV dX11_sinOf_127 ?_
            refine fn_goto hV dX11_sinOf_128 ?_
            exact fn_iret hR dX11_sinOf_133 (fnIs.i (by first | exact zsn_leaf (t := 0) (by omega) rfl | exact zsn_leaf (t := 1) (by omega) rfl | exact zsn_leaf (t := 2) (by omega) rfl | exact zsn_leaf (t := 3) (by omega) rfl | exact zsn_leaf (t := 4) (by omega) rfl | exact zsn_leaf (t := 5) (by omega) rfl | exact zsn_leaf (t := 6) (by omega) rfl | exact zsn_leaf (t := 7) (by omega) rfl | exact zsn_leaf (t := 8) (by omega) rfl | exact zsn_leaf (t := 9) (by omega) rfl | exact zsn_leaf (t := 10) (by omega) rfl | exact zsn_leaf (t := 11) (by omega) rfl | exact zsn_leaf (t := 12) (by omega) rfl | exact zsn_leaf (t := 13) (by omega) rfl | exact zsn_leaf (t := 14) (by omega) rfl | exact zsn_leaf (t := 15) (by omega) rfl | exact zsn_leaf (t := 16) (by omega) rfl | exact zsn_leaf (t := 17) (by omega) rfl | exact zsn_leaf (t := 18) (by omega) rfl | exact zsn_leaf (t := 19) (by omega) rfl | exact zsn_leaf (t := 20) (by omega) rfl | exact zsn_leaf (t := 21) (by omega) rfl | exact zsn_leaf (t := 22) (by omega) rfl | exact zsn_leaf (t := 23) (by omega) rfl | exact zsn_leaf (t := 24) (by omega) rfl | exact zsn_leaf (t := 25) (by omega) rfl | exact zsn_leaf (t := 26) (by omega) rfl | exact zsn_leaf (t := 27) (by omega) rfl | exact zsn_leaf (t := 28) (by omega) rfl | exact zsn_leaf (t := 29) (by omega) rfl | exact zsn_leaf (t := 30) (by omega) rfl | exact zsn_leaf (t := 31) (by omega) rfl | (rcases (show p % 32 = 0 ∨ p % 32 = 16 by omega) with q | q <;> exact zsn_leaf q rfl) | (exfalso; omega)))
      · refine fn_sipush hV dX11_sinOf_40 rfl ?_
        refine fn_goto hV dX11_sinOf_43 ?_
        refine fn_istore_4 hV dX11_sinOf_117 rfl rfl ?_
        refine fn_iload_1 hV dX11_sinOf_119 ?_
        refine fn_bipush hV dX11_sinOf_120 rfl ?_
        refine fn_icmp_le hV (by omega) (by omega) dX11_sinOf_122 (fun q122 => ?_) (fun q122 => ?_)
        · refine fn_iload_4 hV dX11_sinOf_131 ?_
          exact fn_iret hR dX11_sinOf_133 (fnIs.i (by first | exact zsn_leaf (t := 0) (by omega) rfl | exact zsn_leaf (t := 1) (by omega) rfl | exact zsn_leaf (t := 2) (by omega) rfl | exact zsn_leaf (t := 3) (by omega) rfl | exact zsn_leaf (t := 4) (by omega) rfl | exact zsn_leaf (t := 5) (by omega) rfl | exact zsn_leaf (t := 6) (by omega) rfl | exact zsn_leaf (t := 7) (by omega) rfl | exact zsn_leaf (t := 8) (by omega) rfl | exact zsn_leaf (t := 9) (by omega) rfl | exact zsn_leaf (t := 10) (by omega) rfl | exact zsn_leaf (t := 11) (by omega) rfl | exact zsn_leaf (t := 12) (by omega) rfl | exact zsn_leaf (t := 13) (by omega) rfl | exact zsn_leaf (t := 14) (by omega) rfl | exact zsn_leaf (t := 15) (by omega) rfl | exact zsn_leaf (t := 16) (by omega) rfl | exact zsn_leaf (t := 17) (by omega) rfl | exact zsn_leaf (t := 18) (by omega) rfl | exact zsn_leaf (t := 19) (by omega) rfl | exact zsn_leaf (t := 20) (by omega) rfl | exact zsn_leaf (t := 21) (by omega) rfl | exact zsn_leaf (t := 22) (by omega) rfl | exact zsn_leaf (t := 23) (by omega) rfl | exact zsn_leaf (t := 24) (by omega) rfl | exact zsn_leaf (t := 25) (by omega) rfl | exact zsn_leaf (t := 26) (by omega) rfl | exact zsn_leaf (t := 27) (by omega) rfl | exact zsn_leaf (t := 28) (by omega) rfl | exact zsn_leaf (t := 29) (by omega) rfl | exact zsn_leaf (t := 30) (by omega) rfl | exact zsn_leaf (t := 31) (by omega) rfl | (rcases (show p % 32 = 0 ∨ p % 32 = 16 by omega) with q | q <;> exact zsn_leaf q rfl) | (exfalso; omega)))
        · refine fn_iload_4 hV dX11_sinOf_125 ?_
          refine fn_ineg hV dX11_sinOf_127 ?_
          refine fn_goto hV dX11_sinOf_128 ?_
          exact fn_iret hR dX11_sinOf_133 (fnIs.i (by first | exact zsn_leaf (t := 0) (by omega) rfl | exact zsn_leaf (t := 1) (by omega) rfl | exact zsn_leaf (t := 2) (by omega) rfl | exact zsn_leaf (t := 3) (by omega) rfl | exact zsn_leaf (t := 4) (by omega) rfl | exact zsn_leaf (t := 5) (by omega) rfl | exact zsn_leaf (t := 6) (by omega) rfl | exact zsn_leaf (t := 7) (by omega) rfl | exact zsn_leaf (t := 8) (by omega) rfl | exact zsn_leaf (t := 9) (by omega) rfl | exact zsn_leaf (t := 10) (by omega) rfl | exact zsn_leaf (t := 11) (by omega) rfl | exact zsn_leaf (t := 12) (by omega) rfl | exact zsn_leaf (t := 13) (by omega) rfl | exact zsn_leaf (t := 14) (by omega) rfl | exact zsn_leaf (t := 15) (by omega) rfl | exact zsn_leaf (t := 16) (by omega) rfl | exact zsn_leaf (t := 17) (by omega) rfl | exact zsn_leaf (t := 18) (by omega) rfl | exact zsn_leaf (t := 19) (by omega) rfl | exact zsn_leaf (t := 20) (by omega) rfl | exact zsn_leaf (t := 21) (by omega) rfl | exact zsn_leaf (t := 22) (by omega) rfl | exact zsn_leaf (t := 23) (by omega) rfl | exact zsn_leaf (t := 24) (by omega) rfl | exact zsn_leaf (t := 25) (by omega) rfl | exact zsn_leaf (t := 26) (by omega) rfl | exact zsn_leaf (t := 27) (by omega) rfl | exact zsn_leaf (t := 28) (by omega) rfl | exact zsn_leaf (t := 29) (by omega) rfl | exact zsn_leaf (t := 30) (by omega) rfl | exact zsn_leaf (t := 31) (by omega) rfl | (rcases (show p % 32 = 0 ∨ p % 32 = 16 by omega) with q | q <;> exact zsn_leaf q rfl) | (exfalso; omega)))
    · refine fn_iconst hV dX11_sinOf_31 ?_
      refine fn_goto hV dX11_sinOf_32 ?_
      refine fn_istore_4 hV dX11_sinOf_117 rfl rfl ?_
      refine fn_iload_1 hV dX11_sinOf_119 ?_
      refine fn_bipush hV dX11_sinOf_120 rfl ?_
      refine fn_icmp_le hV (by omega) (by omega) dX11_sinOf_122 (fun q122 => ?_) (fun q122 => ?_)
      · refine fn_iload_4 hV dX11_sinOf_131 ?_
        exact fn_iret hR dX11_sinOf_133 (fnIs.i (by first | exact zsn_leaf (t := 0) (by omega) rfl | exact zsn_leaf (t := 1) (by omega) rfl | exact zsn_leaf (t := 2) (by omega) rfl | exact zsn_leaf (t := 3) (by omega) rfl | exact zsn_leaf (t := 4) (by omega) rfl | exact zsn_leaf (t := 5) (by omega) rfl | exact zsn_leaf (t := 6) (by omega) rfl | exact zsn_leaf (t := 7) (by omega) rfl | exact zsn_leaf (t := 8) (by omega) rfl | exact zsn_leaf (t := 9) (by omega) rfl | exact zsn_leaf (t := 10) (by omega) rfl | exact zsn_leaf (t := 11) (by omega) rfl | exact zsn_leaf (t := 12) (by omega) rfl | exact zsn_leaf (t := 13) (by omega) rfl | exact zsn_leaf (t := 14) (by omega) rfl | exact zsn_leaf (t := 15) (by omega) rfl | exact zsn_leaf (t := 16) (by omega) rfl | exact zsn_leaf (t := 17) (by omega) rfl | exact zsn_leaf (t := 18) (by omega) rfl | exact zsn_leaf (t := 19) (by omega) rfl | exact zsn_leaf (t := 20) (by omega) rfl | exact zsn_leaf (t := 21) (by omega) rfl | exact zsn_leaf (t := 22) (by omega) rfl | exact zsn_leaf (t := 23) (by omega) rfl | exact zsn_leaf (t := 24) (by omega) rfl | exact zsn_leaf (t := 25) (by omega) rfl | exact zsn_leaf (t := 26) (by omega) rfl | exact zsn_leaf (t := 27) (by omega) rfl | exact zsn_leaf (t := 28) (by omega) rfl | exact zsn_leaf (t := 29) (by omega) rfl | exact zsn_leaf (t := 30) (by omega) rfl | exact zsn_leaf (t := 31) (by omega) rfl | (rcases (show p % 32 = 0 ∨ p % 32 = 16 by omega) with q | q <;> exact zsn_leaf q rfl) | (exfalso; omega)))
      · refine fn_iload_4 hV dX11_sinOf_125 ?_
        refine fn_ineg hV dX11_sinOf_127 ?_
        refine fn_goto hV dX11_sinOf_128 ?_
        exact fn_iret hR dX11_sinOf_133 (fnIs.i (by first | exact zsn_leaf (t := 0) (by omega) rfl | exact zsn_leaf (t := 1) (by omega) rfl | exact zsn_leaf (t := 2) (by omega) rfl | exact zsn_leaf (t := 3) (by omega) rfl | exact zsn_leaf (t := 4) (by omega) rfl | exact zsn_leaf (t := 5) (by omega) rfl | exact zsn_leaf (t := 6) (by omega) rfl | exact zsn_leaf (t := 7) (by omega) rfl | exact zsn_leaf (t := 8) (by omega) rfl | exact zsn_leaf (t := 9) (by omega) rfl | exact zsn_leaf (t := 10) (by omega) rfl | exact zsn_leaf (t := 11) (by omega) rfl | exact zsn_leaf (t := 12) (by omega) rfl | exact zsn_leaf (t := 13) (by omega) rfl | exact zsn_leaf (t := 14) (by omega) rfl | exact zsn_leaf (t := 15) (by omega) rfl | exact zsn_leaf (t := 16) (by omega) rfl | exact zsn_leaf (t := 17) (by omega) rfl | exact zsn_leaf (t := 18) (by omega) rfl | exact zsn_leaf (t := 19) (by omega) rfl | exact zsn_leaf (t := 20) (by omega) rfl | exact zsn_leaf (t := 21) (by omega) rfl | exact zsn_leaf (t := 22) (by omega) rfl | exact zsn_leaf (t := 23) (by omega) rfl | exact zsn_leaf (t := 24) (by omega) rfl | exact zsn_leaf (t := 25) (by omega) rfl | exact zsn_leaf (t := 26) (by omega) rfl | exact zsn_leaf (t := 27) (by omega) rfl | exact zsn_leaf (t := 28) (by omega) rfl | exact zsn_leaf (t := 29) (by omega) rfl | exact zsn_leaf (t := 30) (by omega) rfl | exact zsn_leaf (t := 31) (by omega) rfl | (rcases (show p % 32 = 0 ∨ p % 32 = 16 by omega) with q | q <;> exact zsn_leaf q rfl) | (exfalso; omega)))
  · refine fn_bipush hV dX11_sinOf_18 rfl ?_
    refine fn_iload_2 hV dX11_sinOf_20 ?_
    refine fn_isub hV dX11_sinOf_21 ?_
    refine fn_goto hV dX11_sinOf_22 ?_
    refine fn_istore_3 hV dX11_sinOf_26 rfl rfl ?_
    refine fn_iload_3 hV dX11_sinOf_27 ?_
    refine fn_if_ne hV (by omega) dX11_sinOf_28 (fun q28 => ?_) (fun q28 => ?_)
    · refine fn_iload_3 hV dX11_sinOf_35 ?_
      refine fn_iconst hV dX11_sinOf_36 ?_
      refine fn_icmp_ne hV (by omega) (by omega) dX11_sinOf_37 (fun q37 => ?_) (fun q37 => ?_)
      · refine fn_iload_3 hV dX11_sinOf_46 ?_
        refine fn_iconst hV dX11_sinOf_47 ?_
        refine fn_icmp_ne hV (by omega) (by omega) dX11_sinOf_48 (fun q48 => ?_) (fun q48 => ?_)
        · refine fn_iload_3 hV dX11_sinOf_57 ?_
          refine fn_iconst hV dX11_sinOf_58 ?_
          refine fn_icmp_ne hV (by omega) (by omega) dX11_sinOf_59 (fun q59 => ?_) (fun q59 => ?_)
          · refine fn_iload_3 hV dX11_sinOf_68 ?_
            refine fn_iconst hV dX11_sinOf_69 ?_
            refine fn_icmp_ne hV (by omega) (by omega) dX11_sinOf_70 (fun q70 => ?_) (fun q70 => ?_)
            · refine fn_iload_3 hV dX11_sinOf_79 ?_
              refine fn_iconst hV dX11_sinOf_80 ?_
              refine fn_icmp_ne hV (by omega) (by omega) dX11_sinOf_81 (fun q81 => ?_) (fun q81 => ?_)
              · refine fn_iload_3 hV dX11_sinOf_90 ?_
                refine fn_bipush hV dX11_sinOf_91 rfl ?_
                refine fn_icmp_ne hV (by omega) (by omega) dX11_sinOf_93 (fun q93 => ?_) (fun q93 => ?_)
                · refine fn_iload_3 hV dX11_sinOf_102 ?_
                  refine fn_bipush hV dX11_sinOf_103 rfl ?_
                  refine fn_icmp_ne hV (by omega) (by omega) dX11_sinOf_105 (fun q105 => ?_) (fun q105 => ?_)
                  · refine fn_sipush hV dX11_sinOf_114 rfl ?_
                    refine fn_istore_4 hV dX11_sinOf_117 rfl rfl ?_
                    refine fn_iload_1 hV dX11_sinOf_119 ?_
                    refine fn_bipush hV dX11_sinOf_120 rfl ?_
                    refine fn_icmp_le hV (by omega) (by omega) dX11_sinOf_122 (fun q122 => ?_) (fun q122 => ?_)
                    · refine fn_iload_4 hV dX11_sinOf_131 ?_
                      exact fn_iret hR dX11_sinOf_133 (fnIs.i (by first | exact zsn_leaf (t := 0) (by omega) rfl | exact zsn_leaf (t := 1) (by omega) rfl | exact zsn_leaf (t := 2) (by omega) rfl | exact zsn_leaf (t := 3) (by omega) rfl | exact zsn_leaf (t := 4) (by omega) rfl | exact zsn_leaf (t := 5) (by omega) rfl | exact zsn_leaf (t := 6) (by omega) rfl | exact zsn_leaf (t := 7) (by omega) rfl | exact zsn_leaf (t := 8) (by omega) rfl | exact zsn_leaf (t := 9) (by omega) rfl | exact zsn_leaf (t := 10) (by omega) rfl | exact zsn_leaf (t := 11) (by omega) rfl | exact zsn_leaf (t := 12) (by omega) rfl | exact zsn_leaf (t := 13) (by omega) rfl | exact zsn_leaf (t := 14) (by omega) rfl | exact zsn_leaf (t := 15) (by omega) rfl | exact zsn_leaf (t := 16) (by omega) rfl | exact zsn_leaf (t := 17) (by omega) rfl | exact zsn_leaf (t := 18) (by omega) rfl | exact zsn_leaf (t := 19) (by omega) rfl | exact zsn_leaf (t := 20) (by omega) rfl | exact zsn_leaf (t := 21) (by omega) rfl | exact zsn_leaf (t := 22) (by omega) rfl | exact zsn_leaf (t := 23) (by omega) rfl | exact zsn_leaf (t := 24) (by omega) rfl | exact zsn_leaf (t := 25) (by omega) rfl | exact zsn_leaf (t := 26) (by omega) rfl | exact zsn_leaf (t := 27) (by omega) rfl | exact zsn_leaf (t := 28) (by omega) rfl | exact zsn_leaf (t := 29) (by omega) rfl | exact zsn_leaf (t := 30) (by omega) rfl | exact zsn_leaf (t := 31) (by omega) rfl | (rcases (show p % 32 = 0 ∨ p % 32 = 16 by omega) with q | q <;> exact zsn_leaf q rfl) | (exfalso; omega)))
                    · refine fn_iload_4 hV dX11_sinOf_125 ?_
                      refine fn_ineg hV dX11_sinOf_127 ?_
                      refine fn_goto hV dX11_sinOf_128 ?_
                      exact fn_iret hR dX11_sinOf_133 (fnIs.i (by first | exact zsn_leaf (t := 0) (by omega) rfl | exact zsn_leaf (t := 1) (by omega) rfl | exact zsn_leaf (t := 2) (by omega) rfl | exact zsn_leaf (t := 3) (by omega) rfl | exact zsn_leaf (t := 4) (by omega) rfl | exact zsn_leaf (t := 5) (by omega) rfl | exact zsn_leaf (t := 6) (by omega) rfl | exact zsn_leaf (t := 7) (by omega) rfl | exact zsn_leaf (t := 8) (by omega) rfl | exact zsn_leaf (t := 9) (by omega) rfl | exact zsn_leaf (t := 10) (by omega) rfl | exact zsn_leaf (t := 11) (by omega) rfl | exact zsn_leaf (t := 12) (by omega) rfl | exact zsn_leaf (t := 13) (by omega) rfl | exact zsn_leaf (t := 14) (by omega) rfl | exact zsn_leaf (t := 15) (by omega) rfl | exact zsn_leaf (t := 16) (by omega) rfl | exact zsn_leaf (t := 17) (by omega) rfl | exact zsn_leaf (t := 18) (by omega) rfl | exact zsn_leaf (t := 19) (by omega) rfl | exact zsn_leaf (t := 20) (by omega) rfl | exact zsn_leaf (t := 21) (by omega) rfl | exact zsn_leaf (t := 22) (by omega) rfl | exact zsn_leaf (t := 23) (by omega) rfl | exact zsn_leaf (t := 24) (by omega) rfl | exact zsn_leaf (t := 25) (by omega) rfl | exact zsn_leaf (t := 26) (by omega) rfl | exact zsn_leaf (t := 27) (by omega) rfl | exact zsn_leaf (t := 28) (by omega) rfl | exact zsn_leaf (t := 29) (by omega) rfl | exact zsn_leaf (t := 30) (by omega) rfl | exact zsn_leaf (t := 31) (by omega) rfl | (rcases (show p % 32 = 0 ∨ p % 32 = 16 by omega) with q | q <;> exact zsn_leaf q rfl) | (exfalso; omega)))
                  · refine fn_sipush hV dX11_sinOf_108 rfl ?_
                    refine fn_goto hV dX11_sinOf_111 ?_
                    refine fn_istore_4 hV dX11_sinOf_117 rfl rfl ?_
                    refine fn_iload_1 hV dX11_sinOf_119 ?_
                    refine fn_bipush hV dX11_sinOf_120 rfl ?_
                    refine fn_icmp_le hV (by omega) (by omega) dX11_sinOf_122 (fun q122 => ?_) (fun q122 => ?_)
                    · refine fn_iload_4 hV dX11_sinOf_131 ?_
                      exact fn_iret hR dX11_sinOf_133 (fnIs.i (by first | exact zsn_leaf (t := 0) (by omega) rfl | exact zsn_leaf (t := 1) (by omega) rfl | exact zsn_leaf (t := 2) (by omega) rfl | exact zsn_leaf (t := 3) (by omega) rfl | exact zsn_leaf (t := 4) (by omega) rfl | exact zsn_leaf (t := 5) (by omega) rfl | exact zsn_leaf (t := 6) (by omega) rfl | exact zsn_leaf (t := 7) (by omega) rfl | exact zsn_leaf (t := 8) (by omega) rfl | exact zsn_leaf (t := 9) (by omega) rfl | exact zsn_leaf (t := 10) (by omega) rfl | exact zsn_leaf (t := 11) (by omega) rfl | exact zsn_leaf (t := 12) (by omega) rfl | exact zsn_leaf (t := 13) (by omega) rfl | exact zsn_leaf (t := 14) (by omega) rfl | exact zsn_leaf (t := 15) (by omega) rfl | exact zsn_leaf (t := 16) (by omega) rfl | exact zsn_leaf (t := 17) (by omega) rfl | exact zsn_leaf (t := 18) (by omega) rfl | exact zsn_leaf (t := 19) (by omega) rfl | exact zsn_leaf (t := 20) (by omega) rfl | exact zsn_leaf (t := 21) (by omega) rfl | exact zsn_leaf (t := 22) (by omega) rfl | exact zsn_leaf (t := 23) (by omega) rfl | exact zsn_leaf (t := 24) (by omega) rfl | exact zsn_leaf (t := 25) (by omega) rfl | exact zsn_leaf (t := 26) (by omega) rfl | exact zsn_leaf (t := 27) (by omega) rfl | exact zsn_leaf (t := 28) (by omega) rfl | exact zsn_leaf (t := 29) (by omega) rfl | exact zsn_leaf (t := 30) (by omega) rfl | exact zsn_leaf (t := 31) (by omega) rfl | (rcases (show p % 32 = 0 ∨ p % 32 = 16 by omega) with q | q <;> exact zsn_leaf q rfl) | (exfalso; omega)))
                    · refine fn_iload_4 hV dX11_sinOf_125 ?_
                      refine fn_ineg hV dX11_sinOf_127 ?_
                      refine fn_goto hV dX11_sinOf_128 ?_
                      exact fn_iret hR dX11_sinOf_133 (fnIs.i (by first | exact zsn_leaf (t := 0) (by omega) rfl | exact zsn_leaf (t := 1) (by omega) rfl | exact zsn_leaf (t := 2) (by omega) rfl | exact zsn_leaf (t := 3) (by omega) rfl | exact zsn_leaf (t := 4) (by omega) rfl | exact zsn_leaf (t := 5) (by omega) rfl | exact zsn_leaf (t := 6) (by omega) rfl | exact zsn_leaf (t := 7) (by omega) rfl | exact zsn_leaf (t := 8) (by omega) rfl | exact zsn_leaf (t := 9) (by omega) rfl | exact zsn_leaf (t := 10) (by omega) rfl | exact zsn_leaf (t := 11) (by omega) rfl | exact zsn_leaf (t := 12) (by omega) rfl | exact zsn_leaf (t := 13) (by omega) rfl | exact zsn_leaf (t := 14) (by omega) rfl | exact zsn_leaf (t := 15) (by omega) rfl | exact zsn_leaf (t := 16) (by omega) rfl | exact zsn_leaf (t := 17) (by omega) rfl | exact zsn_leaf (t := 18) (by omega) rfl | exact zsn_leaf (t := 19) (by omega) rfl | exact zsn_leaf (t := 20) (by omega) rfl | exact zsn_leaf (t := 21) (by omega) rfl | exact zsn_leaf (t := 22) (by omega) rfl | exact zsn_leaf (t := 23) (by omega) rfl | exact zsn_leaf (t := 24) (by omega) rfl | exact zsn_leaf (t := 25) (by omega) rfl | exact zsn_leaf (t := 26) (by omega) rfl | exact zsn_leaf (t := 27) (by omega) rfl | exact zsn_leaf (t := 28) (by omega) rfl | exact zsn_leaf (t := 29) (by omega) rfl | exact zsn_leaf (t := 30) (by omega) rfl | exact zsn_leaf (t := 31) (by omega) rfl | (rcases (show p % 32 = 0 ∨ p % 32 = 16 by omega) with q | q <;> exact zsn_leaf q rfl) | (exfalso; omega)))
                · refine fn_sipush hV dX11_sinOf_96 rfl ?_
                  refine fn_goto hV dX11_sinOf_99 ?_
                  refine fn_istore_4 hV dX11_sinOf_117 rfl rfl ?_
                  refine fn_iload_1 hV dX11_sinOf_119 ?_
                  refine fn_bipush hV dX11_sinOf_120 rfl ?_
                  refine fn_icmp_le hV (by omega) (by omega) dX11_sinOf_122 (fun q122 => ?_) (fun q122 => ?_)
                  · refine fn_iload_4 hV dX11_sinOf_131 ?_
                    exact fn_iret hR dX11_sinOf_133 (fnIs.i (by first | exact zsn_leaf (t := 0) (by omega) rfl | exact zsn_leaf (t := 1) (by omega) rfl | exact zsn_leaf (t := 2) (by omega) rfl | exact zsn_leaf (t := 3) (by omega) rfl | exact zsn_leaf (t := 4) (by omega) rfl | exact zsn_leaf (t := 5) (by omega) rfl | exact zsn_leaf (t := 6) (by omega) rfl | exact zsn_leaf (t := 7) (by omega) rfl | exact zsn_leaf (t := 8) (by omega) rfl | exact zsn_leaf (t := 9) (by omega) rfl | exact zsn_leaf (t := 10) (by omega) rfl | exact zsn_leaf (t := 11) (by omega) rfl | exact zsn_leaf (t := 12) (by omega) rfl | exact zsn_leaf (t := 13) (by omega) rfl | exact zsn_leaf (t := 14) (by omega) rfl | exact zsn_leaf (t := 15) (by omega) rfl | exact zsn_leaf (t := 16) (by omega) rfl | exact zsn_leaf (t := 17) (by omega) rfl | exact zsn_leaf (t := 18) (by omega) rfl | exact zsn_leaf (t := 19) (by omega) rfl | exact zsn_leaf (t := 20) (by omega) rfl | exact zsn_leaf (t := 21) (by omega) rfl | exact zsn_leaf (t := 22) (by omega) rfl | exact zsn_leaf (t := 23) (by omega) rfl | exact zsn_leaf (t := 24) (by omega) rfl | exact zsn_leaf (t := 25) (by omega) rfl | exact zsn_leaf (t := 26) (by omega) rfl | exact zsn_leaf (t := 27) (by omega) rfl | exact zsn_leaf (t := 28) (by omega) rfl | exact zsn_leaf (t := 29) (by omega) rfl | exact zsn_leaf (t := 30) (by omega) rfl | exact zsn_leaf (t := 31) (by omega) rfl | (rcases (show p % 32 = 0 ∨ p % 32 = 16 by omega) with q | q <;> exact zsn_leaf q rfl) | (exfalso; omega)))
                  · refine fn_iload_4 hV dX11_sinOf_125 ?_
                    refine fn_ineg hV dX11_sinOf_127 ?_
                    refine fn_goto hV dX11_sinOf_128 ?_
                    exact fn_iret hR dX11_sinOf_133 (fnIs.i (by first | exact zsn_leaf (t := 0) (by omega) rfl | exact zsn_leaf (t := 1) (by omega) rfl | exact zsn_leaf (t := 2) (by omega) rfl | exact zsn_leaf (t := 3) (by omega) rfl | exact zsn_leaf (t := 4) (by omega) rfl | exact zsn_leaf (t := 5) (by omega) rfl | exact zsn_leaf (t := 6) (by omega) rfl | exact zsn_leaf (t := 7) (by omega) rfl | exact zsn_leaf (t := 8) (by omega) rfl | exact zsn_leaf (t := 9) (by omega) rfl | exact zsn_leaf (t := 10) (by omega) rfl | exact zsn_leaf (t := 11) (by omega) rfl | exact zsn_leaf (t := 12) (by omega) rfl | exact zsn_leaf (t := 13) (by omega) rfl | exact zsn_leaf (t := 14) (by omega) rfl | exact zsn_leaf (t := 15) (by omega) rfl | exact zsn_leaf (t := 16) (by omega) rfl | exact zsn_leaf (t := 17) (by omega) rfl | exact zsn_leaf (t := 18) (by omega) rfl | exact zsn_leaf (t := 19) (by omega) rfl | exact zsn_leaf (t := 20) (by omega) rfl | exact zsn_leaf (t := 21) (by omega) rfl | exact zsn_leaf (t := 22) (by omega) rfl | exact zsn_leaf (t := 23) (by omega) rfl | exact zsn_leaf (t := 24) (by omega) rfl | exact zsn_leaf (t := 25) (by omega) rfl | exact zsn_leaf (t := 26) (by omega) rfl | exact zsn_leaf (t := 27) (by omega) rfl | exact zsn_leaf (t := 28) (by omega) rfl | exact zsn_leaf (t := 29) (by omega) rfl | exact zsn_leaf (t := 30) (by omega) rfl | exact zsn_leaf (t := 31) (by omega) rfl | (rcases (show p % 32 = 0 ∨ p % 32 = 16 by omega) with q | q <;> exact zsn_leaf q rfl) | (exfalso; omega)))
              · refine fn_sipush hV dX11_sinOf_84 rfl ?_
                refine fn_goto hV dX11_sinOf_87 ?_
                refine fn_istore_4 hV dX11_sinOf_117 rfl rfl ?_
                refine fn_iload_1 hV dX11_sinOf_119 ?_
                refine fn_bipush hV dX11_sinOf_120 rfl ?_
                refine fn_icmp_le hV (by omega) (by omega) dX11_sinOf_122 (fun q122 => ?_) (fun q122 => ?_)
                · refine fn_iload_4 hV dX11_sinOf_131 ?_
                  exact fn_iret hR dX11_sinOf_133 (fnIs.i (by first | exact zsn_leaf (t := 0) (by omega) rfl | exact zsn_leaf (t := 1) (by omega) rfl | exact zsn_leaf (t := 2) (by omega) rfl | exact zsn_leaf (t := 3) (by omega) rfl | exact zsn_leaf (t := 4) (by omega) rfl | exact zsn_leaf (t := 5) (by omega) rfl | exact zsn_leaf (t := 6) (by omega) rfl | exact zsn_leaf (t := 7) (by omega) rfl | exact zsn_leaf (t := 8) (by omega) rfl | exact zsn_leaf (t := 9) (by omega) rfl | exact zsn_leaf (t := 10) (by omega) rfl | exact zsn_leaf (t := 11) (by omega) rfl | exact zsn_leaf (t := 12) (by omega) rfl | exact zsn_leaf (t := 13) (by omega) rfl | exact zsn_leaf (t := 14) (by omega) rfl | exact zsn_leaf (t := 15) (by omega) rfl | exact zsn_leaf (t := 16) (by omega) rfl | exact zsn_leaf (t := 17) (by omega) rfl | exact zsn_leaf (t := 18) (by omega) rfl | exact zsn_leaf (t := 19) (by omega) rfl | exact zsn_leaf (t := 20) (by omega) rfl | exact zsn_leaf (t := 21) (by omega) rfl | exact zsn_leaf (t := 22) (by omega) rfl | exact zsn_leaf (t := 23) (by omega) rfl | exact zsn_leaf (t := 24) (by omega) rfl | exact zsn_leaf (t := 25) (by omega) rfl | exact zsn_leaf (t := 26) (by omega) rfl | exact zsn_leaf (t := 27) (by omega) rfl | exact zsn_leaf (t := 28) (by omega) rfl | exact zsn_leaf (t := 29) (by omega) rfl | exact zsn_leaf (t := 30) (by omega) rfl | exact zsn_leaf (t := 31) (by omega) rfl | (rcases (show p % 32 = 0 ∨ p % 32 = 16 by omega) with q | q <;> exact zsn_leaf q rfl) | (exfalso; omega)))
                · refine fn_iload_4 hV dX11_sinOf_125 ?_
                  refine fn_ineg hV dX11_sinOf_127 ?_
                  refine fn_goto hV dX11_sinOf_128 ?_
                  exact fn_iret hR dX11_sinOf_133 (fnIs.i (by first | exact zsn_leaf (t := 0) (by omega) rfl | exact zsn_leaf (t := 1) (by omega) rfl | exact zsn_leaf (t := 2) (by omega) rfl | exact zsn_leaf (t := 3) (by omega) rfl | exact zsn_leaf (t := 4) (by omega) rfl | exact zsn_leaf (t := 5) (by omega) rfl | exact zsn_leaf (t := 6) (by omega) rfl | exact zsn_leaf (t := 7) (by omega) rfl | exact zsn_leaf (t := 8) (by omega) rfl | exact zsn_leaf (t := 9) (by omega) rfl | exact zsn_leaf (t := 10) (by omega) rfl | exact zsn_leaf (t := 11) (by omega) rfl | exact zsn_leaf (t := 12) (by omega) rfl | exact zsn_leaf (t := 13) (by omega) rfl | exact zsn_leaf (t := 14) (by omega) rfl | exact zsn_leaf (t := 15) (by omega) rfl | exact zsn_leaf (t := 16) (by omega) rfl | exact zsn_leaf (t := 17) (by omega) rfl | exact zsn_leaf (t := 18) (by omega) rfl | exact zsn_leaf (t := 19) (by omega) rfl | exact zsn_leaf (t := 20) (by omega) rfl | exact zsn_leaf (t := 21) (by omega) rfl | exact zsn_leaf (t := 22) (by omega) rfl | exact zsn_leaf (t := 23) (by omega) rfl | exact zsn_leaf (t := 24) (by omega) rfl | exact zsn_leaf (t := 25) (by omega) rfl | exact zsn_leaf (t := 26) (by omega) rfl | exact zsn_leaf (t := 27) (by omega) rfl | exact zsn_leaf (t := 28) (by omega) rfl | exact zsn_leaf (t := 29) (by omega) rfl | exact zsn_leaf (t := 30) (by omega) rfl | exact zsn_leaf (t := 31) (by omega) rfl | (rcases (show p % 32 = 0 ∨ p % 32 = 16 by omega) with q | q <;> exact zsn_leaf q rfl) | (exfalso; omega)))
            · refine fn_sipush hV dX11_sinOf_73 rfl ?_
              refine fn_goto hV dX11_sinOf_76 ?_
              refine fn_istore_4 hV dX11_sinOf_117 rfl rfl ?_
              refine fn_iload_1 hV dX11_sinOf_119 ?_
              refine fn_bipush hV dX11_sinOf_120 rfl ?_
              refine fn_icmp_le hV (by omega) (by omega) dX11_sinOf_122 (fun q122 => ?_) (fun q122 => ?_)
              · refine fn_iload_4 hV dX11_sinOf_131 ?_
                exact fn_iret hR dX11_sinOf_133 (fnIs.i (by first | exact zsn_leaf (t := 0) (by omega) rfl | exact zsn_leaf (t := 1) (by omega) rfl | exact zsn_leaf (t := 2) (by omega) rfl | exact zsn_leaf (t := 3) (by omega) rfl | exact zsn_leaf (t := 4) (by omega) rfl | exact zsn_leaf (t := 5) (by omega) rfl | exact zsn_leaf (t := 6) (by omega) rfl | exact zsn_leaf (t := 7) (by omega) rfl | exact zsn_leaf (t := 8) (by omega) rfl | exact zsn_leaf (t := 9) (by omega) rfl | exact zsn_leaf (t := 10) (by omega) rfl | exact zsn_leaf (t := 11) (by omega) rfl | exact zsn_leaf (t := 12) (by omega) rfl | exact zsn_leaf (t := 13) (by omega) rfl | exact zsn_leaf (t := 14) (by omega) rfl | exact zsn_leaf (t := 15) (by omega) rfl | exact zsn_leaf (t := 16) (by omega) rfl | exact zsn_leaf (t := 17) (by omega) rfl | exact zsn_leaf (t := 18) (by omega) rfl | exact zsn_leaf (t := 19) (by omega) rfl | exact zsn_leaf (t := 20) (by omega) rfl | exact zsn_leaf (t := 21) (by omega) rfl | exact zsn_leaf (t := 22) (by omega) rfl | exact zsn_leaf (t := 23) (by omega) rfl | exact zsn_leaf (t := 24) (by omega) rfl | exact zsn_leaf (t := 25) (by omega) rfl | exact zsn_leaf (t := 26) (by omega) rfl | exact zsn_leaf (t := 27) (by omega) rfl | exact zsn_leaf (t := 28) (by omega) rfl | exact zsn_leaf (t := 29) (by omega) rfl | exact zsn_leaf (t := 30) (by omega) rfl | exact zsn_leaf (t := 31) (by omega) rfl | (rcases (show p % 32 = 0 ∨ p % 32 = 16 by omega) with q | q <;> exact zsn_leaf q rfl) | (exfalso; omega)))
              · refine fn_iload_4 hV dX11_sinOf_125 ?_
                refine fn_ineg hV dX11_sinOf_127 ?_
                refine fn_goto hV dX11_sinOf_128 ?_
                exact fn_iret hR dX11_sinOf_133 (fnIs.i (by first | exact zsn_leaf (t := 0) (by omega) rfl | exact zsn_leaf (t := 1) (by omega) rfl | exact zsn_leaf (t := 2) (by omega) rfl | exact zsn_leaf (t := 3) (by omega) rfl | exact zsn_leaf (t := 4) (by omega) rfl | exact zsn_leaf (t := 5) (by omega) rfl | exact zsn_leaf (t := 6) (by omega) rfl | exact zsn_leaf (t := 7) (by omega) rfl | exact zsn_leaf (t := 8) (by omega) rfl | exact zsn_leaf (t := 9) (by omega) rfl | exact zsn_leaf (t := 10) (by omega) rfl | exact zsn_leaf (t := 11) (by omega) rfl | exact zsn_leaf (t := 12) (by omega) rfl | exact zsn_leaf (t := 13) (by omega) rfl | exact zsn_leaf (t := 14) (by omega) rfl | exact zsn_leaf (t := 15) (by omega) rfl | exact zsn_leaf (t := 16) (by omega) rfl | exact zsn_leaf (t := 17) (by omega) rfl | exact zsn_leaf (t := 18) (by omega) rfl | exact zsn_leaf (t := 19) (by omega) rfl | exact zsn_leaf (t := 20) (by omega) rfl | exact zsn_leaf (t := 21) (by omega) rfl | exact zsn_leaf (t := 22) (by omega) rfl | exact zsn_leaf (t := 23) (by omega) rfl | exact zsn_leaf (t := 24) (by omega) rfl | exact zsn_leaf (t := 25) (by omega) rfl | exact zsn_leaf (t := 26) (by omega) rfl | exact zsn_leaf (t := 27) (by omega) rfl | exact zsn_leaf (t := 28) (by omega) rfl | exact zsn_leaf (t := 29) (by omega) rfl | exact zsn_leaf (t := 30) (by omega) rfl | exact zsn_leaf (t := 31) (by omega) rfl | (rcases (show p % 32 = 0 ∨ p % 32 = 16 by omega) with q | q <;> exact zsn_leaf q rfl) | (exfalso; omega)))
          · refine fn_sipush hV dX11_sinOf_62 rfl ?_
            refine fn_goto hV dX11_sinOf_65 ?_
            refine fn_istore_4 hV dX11_sinOf_117 rfl rfl ?_
            refine fn_iload_1 hV dX11_sinOf_119 ?_
            refine fn_bipush hV dX11_sinOf_120 rfl ?_
            refine fn_icmp_le hV (by omega) (by omega) dX11_sinOf_122 (fun q122 => ?_) (fun q122 => ?_)
            · refine fn_iload_4 hV dX11_sinOf_131 ?_
              exact fn_iret hR dX11_sinOf_133 (fnIs.i (by first | exact zsn_leaf (t := 0) (by omega) rfl | exact zsn_leaf (t := 1) (by omega) rfl | exact zsn_leaf (t := 2) (by omega) rfl | exact zsn_leaf (t := 3) (by omega) rfl | exact zsn_leaf (t := 4) (by omega) rfl | exact zsn_leaf (t := 5) (by omega) rfl | exact zsn_leaf (t := 6) (by omega) rfl | exact zsn_leaf (t := 7) (by omega) rfl | exact zsn_leaf (t := 8) (by omega) rfl | exact zsn_leaf (t := 9) (by omega) rfl | exact zsn_leaf (t := 10) (by omega) rfl | exact zsn_leaf (t := 11) (by omega) rfl | exact zsn_leaf (t := 12) (by omega) rfl | exact zsn_leaf (t := 13) (by omega) rfl | exact zsn_leaf (t := 14) (by omega) rfl | exact zsn_leaf (t := 15) (by omega) rfl | exact zsn_leaf (t := 16) (by omega) rfl | exact zsn_leaf (t := 17) (by omega) rfl | exact zsn_leaf (t := 18) (by omega) rfl | exact zsn_leaf (t := 19) (by omega) rfl | exact zsn_leaf (t := 20) (by omega) rfl | exact zsn_leaf (t := 21) (by omega) rfl | exact zsn_leaf (t := 22) (by omega) rfl | exact zsn_leaf (t := 23) (by omega) rfl | exact zsn_leaf (t := 24) (by omega) rfl | exact zsn_leaf (t := 25) (by omega) rfl | exact zsn_leaf (t := 26) (by omega) rfl | exact zsn_leaf (t := 27) (by omega) rfl | exact zsn_leaf (t := 28) (by omega) rfl | exact zsn_leaf (t := 29) (by omega) rfl | exact zsn_leaf (t := 30) (by omega) rfl | exact zsn_leaf (t := 31) (by omega) rfl | (rcases (show p % 32 = 0 ∨ p % 32 = 16 by omega) with q | q <;> exact zsn_leaf q rfl) | (exfalso; omega)))
            · refine fn_iload_4 hV dX11_sinOf_125 ?_
              refine fn_ineg hV dX11_sinOf_127 ?_
              refine fn_goto hV dX11_sinOf_128 ?_
              exact fn_iret hR dX11_sinOf_133 (fnIs.i (by first | exact zsn_leaf (t := 0) (by omega) rfl | exact zsn_leaf (t := 1) (by omega) rfl | exact zsn_leaf (t := 2) (by omega) rfl | exact zsn_leaf (t := 3) (by omega) rfl | exact zsn_leaf (t := 4) (by omega) rfl | exact zsn_leaf (t := 5) (by omega) rfl | exact zsn_leaf (t := 6) (by omega) rfl | exact zsn_leaf (t := 7) (by omega) rfl | exact zsn_leaf (t := 8) (by omega) rfl | exact zsn_leaf (t := 9) (by omega) rfl | exact zsn_leaf (t := 10) (by omega) rfl | exact zsn_leaf (t := 11) (by omega) rfl | exact zsn_leaf (t := 12) (by omega) rfl | exact zsn_leaf (t := 13) (by omega) rfl | exact zsn_leaf (t := 14) (by omega) rfl | exact zsn_leaf (t := 15) (by omega) rfl | exact zsn_leaf (t := 16) (by omega) rfl | exact zsn_leaf (t := 17) (by omega) rfl | exact zsn_leaf (t := 18) (by omega) rfl | exact zsn_leaf (t := 19) (by omega) rfl | exact zsn_leaf (t := 20) (by omega) rfl | exact zsn_leaf (t := 21) (by omega) rfl | exact zsn_leaf (t := 22) (by omega) rfl | exact zsn_leaf (t := 23) (by omega) rfl | exact zsn_leaf (t := 24) (by omega) rfl | exact zsn_leaf (t := 25) (by omega) rfl | exact zsn_leaf (t := 26) (by omega) rfl | exact zsn_leaf (t := 27) (by omega) rfl | exact zsn_leaf (t := 28) (by omega) rfl | exact zsn_leaf (t := 29) (by omega) rfl | exact zsn_leaf (t := 30) (by omega) rfl | exact zsn_leaf (t := 31) (by omega) rfl | (rcases (show p % 32 = 0 ∨ p % 32 = 16 by omega) with q | q <;> exact zsn_leaf q rfl) | (exfalso; omega)))
        · refine fn_sipush hV dX11_sinOf_51 rfl ?_
          refine fn_goto hV dX11_sinOf_54 ?_
          refine fn_istore_4 hV dX11_sinOf_117 rfl rfl ?_
          refine fn_iload_1 hV dX11_sinOf_119 ?_
          refine fn_bipush hV dX11_sinOf_120 rfl ?_
          refine fn_icmp_le hV (by omega) (by omega) dX11_sinOf_122 (fun q122 => ?_) (fun q122 => ?_)
          · refine fn_iload_4 hV dX11_sinOf_131 ?_
            exact fn_iret hR dX11_sinOf_133 (fnIs.i (by first | exact zsn_leaf (t := 0) (by omega) rfl | exact zsn_leaf (t := 1) (by omega) rfl | exact zsn_leaf (t := 2) (by omega) rfl | exact zsn_leaf (t := 3) (by omega) rfl | exact zsn_leaf (t := 4) (by omega) rfl | exact zsn_leaf (t := 5) (by omega) rfl | exact zsn_leaf (t := 6) (by omega) rfl | exact zsn_leaf (t := 7) (by omega) rfl | exact zsn_leaf (t := 8) (by omega) rfl | exact zsn_leaf (t := 9) (by omega) rfl | exact zsn_leaf (t := 10) (by omega) rfl | exact zsn_leaf (t := 11) (by omega) rfl | exact zsn_leaf (t := 12) (by omega) rfl | exact zsn_leaf (t := 13) (by omega) rfl | exact zsn_leaf (t := 14) (by omega) rfl | exact zsn_leaf (t := 15) (by omega) rfl | exact zsn_leaf (t := 16) (by omega) rfl | exact zsn_leaf (t := 17) (by omega) rfl | exact zsn_leaf (t := 18) (by omega) rfl | exact zsn_leaf (t := 19) (by omega) rfl | exact zsn_leaf (t := 20) (by omega) rfl | exact zsn_leaf (t := 21) (by omega) rfl | exact zsn_leaf (t := 22) (by omega) rfl | exact zsn_leaf (t := 23) (by omega) rfl | exact zsn_leaf (t := 24) (by omega) rfl | exact zsn_leaf (t := 25) (by omega) rfl | exact zsn_leaf (t := 26) (by omega) rfl | exact zsn_leaf (t := 27) (by omega) rfl | exact zsn_leaf (t := 28) (by omega) rfl | exact zsn_leaf (t := 29) (by omega) rfl | exact zsn_leaf (t := 30) (by omega) rfl | exact zsn_leaf (t := 31) (by omega) rfl | (rcases (show p % 32 = 0 ∨ p % 32 = 16 by omega) with q | q <;> exact zsn_leaf q rfl) | (exfalso; omega)))
          · refine fn_iload_4 hV dX11_sinOf_125 ?_
            refine fn_ineg hV dX11_sinOf_127 ?_
            refine fn_goto hV dX11_sinOf_128 ?_
            exact fn_iret hR dX11_sinOf_133 (fnIs.i (by first | exact zsn_leaf (t := 0) (by omega) rfl | exact zsn_leaf (t := 1) (by omega) rfl | exact zsn_leaf (t := 2) (by omega) rfl | exact zsn_leaf (t := 3) (by omega) rfl | exact zsn_leaf (t := 4) (by omega) rfl | exact zsn_leaf (t := 5) (by omega) rfl | exact zsn_leaf (t := 6) (by omega) rfl | exact zsn_leaf (t := 7) (by omega) rfl | exact zsn_leaf (t := 8) (by omega) rfl | exact zsn_leaf (t := 9) (by omega) rfl | exact zsn_leaf (t := 10) (by omega) rfl | exact zsn_leaf (t := 11) (by omega) rfl | exact zsn_leaf (t := 12) (by omega) rfl | exact zsn_leaf (t := 13) (by omega) rfl | exact zsn_leaf (t := 14) (by omega) rfl | exact zsn_leaf (t := 15) (by omega) rfl | exact zsn_leaf (t := 16) (by omega) rfl | exact zsn_leaf (t := 17) (by omega) rfl | exact zsn_leaf (t := 18) (by omega) rfl | exact zsn_leaf (t := 19) (by omega) rfl | exact zsn_leaf (t := 20) (by omega) rfl | exact zsn_leaf (t := 21) (by omega) rfl | exact zsn_leaf (t := 22) (by omega) rfl | exact zsn_leaf (t := 23) (by omega) rfl | exact zsn_leaf (t := 24) (by omega) rfl | exact zsn_leaf (t := 25) (by omega) rfl | exact zsn_leaf (t := 26) (by omega) rfl | exact zsn_leaf (t := 27) (by omega) rfl | exact zsn_leaf (t := 28) (by omega) rfl | exact zsn_leaf (t := 29) (by omega) rfl | exact zsn_leaf (t := 30) (by omega) rfl | exact zsn_leaf (t := 31) (by omega) rfl | (rcases (show p % 32 = 0 ∨ p % 32 = 16 by omega) with q | q <;> exact zsn_leaf q rfl) | (exfalso; omega)))
      · refine fn_sipush hV dX11_sinOf_40 rfl ?_
        refine fn_goto hV dX11_sinOf_43 ?_
        refine fn_istore_4 hV dX11_sinOf_117 rfl rfl ?_
        refine fn_iload_1 hV dX11_sinOf_119 ?_
        refine fn_bipush hV dX11_sinOf_120 rfl ?_
        refine fn_icmp_le hV (by omega) (by omega) dX11_sinOf_122 (fun q122 => ?_) (fun q122 => ?_)
        · refine fn_iload_4 hV dX11_sinOf_131 ?_
          exact fn_iret hR dX11_sinOf_133 (fnIs.i (by first | exact zsn_leaf (t := 0) (by omega) rfl | exact zsn_leaf (t := 1) (by omega) rfl | exact zsn_leaf (t := 2) (by omega) rfl | exact zsn_leaf (t := 3) (by omega) rfl | exact zsn_leaf (t := 4) (by omega) rfl | exact zsn_leaf (t := 5) (by omega) rfl | exact zsn_leaf (t := 6) (by omega) rfl | exact zsn_leaf (t := 7) (by omega) rfl | exact zsn_leaf (t := 8) (by omega) rfl | exact zsn_leaf (t := 9) (by omega) rfl | exact zsn_leaf (t := 10) (by omega) rfl | exact zsn_leaf (t := 11) (by omega) rfl | exact zsn_leaf (t := 12) (by omega) rfl | exact zsn_leaf (t := 13) (by omega) rfl | exact zsn_leaf (t := 14) (by omega) rfl | exact zsn_leaf (t := 15) (by omega) rfl | exact zsn_leaf (t := 16) (by omega) rfl | exact zsn_leaf (t := 17) (by omega) rfl | exact zsn_leaf (t := 18) (by omega) rfl | exact zsn_leaf (t := 19) (by omega) rfl | exact zsn_leaf (t := 20) (by omega) rfl | exact zsn_leaf (t := 21) (by omega) rfl | exact zsn_leaf (t := 22) (by omega) rfl | exact zsn_leaf (t := 23) (by omega) rfl | exact zsn_leaf (t := 24) (by omega) rfl | exact zsn_leaf (t := 25) (by omega) rfl | exact zsn_leaf (t := 26) (by omega) rfl | exact zsn_leaf (t := 27) (by omega) rfl | exact zsn_leaf (t := 28) (by omega) rfl | exact zsn_leaf (t := 29) (by omega) rfl | exact zsn_leaf (t := 30) (by omega) rfl | exact zsn_leaf (t := 31) (by omega) rfl | (rcases (show p % 32 = 0 ∨ p % 32 = 16 by omega) with q | q <;> exact zsn_leaf q rfl) | (exfalso; omega)))
        · refine fn_iload_4 hV dX11_sinOf_125 ?_
          refine fn_ineg hV dX11_sinOf_127 ?_
          refine fn_goto hV dX11_sinOf_128 ?_
          exact fn_iret hR dX11_sinOf_133 (fnIs.i (by first | exact zsn_leaf (t := 0) (by omega) rfl | exact zsn_leaf (t := 1) (by omega) rfl | exact zsn_leaf (t := 2) (by omega) rfl | exact zsn_leaf (t := 3) (by omega) rfl | exact zsn_leaf (t := 4) (by omega) rfl | exact zsn_leaf (t := 5) (by omega) rfl | exact zsn_leaf (t := 6) (by omega) rfl | exact zsn_leaf (t := 7) (by omega) rfl | exact zsn_leaf (t := 8) (by omega) rfl | exact zsn_leaf (t := 9) (by omega) rfl | exact zsn_leaf (t := 10) (by omega) rfl | exact zsn_leaf (t := 11) (by omega) rfl | exact zsn_leaf (t := 12) (by omega) rfl | exact zsn_leaf (t := 13) (by omega) rfl | exact zsn_leaf (t := 14) (by omega) rfl | exact zsn_leaf (t := 15) (by omega) rfl | exact zsn_leaf (t := 16) (by omega) rfl | exact zsn_leaf (t := 17) (by omega) rfl | exact zsn_leaf (t := 18) (by omega) rfl | exact zsn_leaf (t := 19) (by omega) rfl | exact zsn_leaf (t := 20) (by omega) rfl | exact zsn_leaf (t := 21) (by omega) rfl | exact zsn_leaf (t := 22) (by omega) rfl | exact zsn_leaf (t := 23) (by omega) rfl | exact zsn_leaf (t := 24) (by omega) rfl | exact zsn_leaf (t := 25) (by omega) rfl | exact zsn_leaf (t := 26) (by omega) rfl | exact zsn_leaf (t := 27) (by omega) rfl | exact zsn_leaf (t := 28) (by omega) rfl | exact zsn_leaf (t := 29) (by omega) rfl | exact zsn_leaf (t := 30) (by omega) rfl | exact zsn_leaf (t := 31) (by omega) rfl | (rcases (show p % 32 = 0 ∨ p % 32 = 16 by omega) with q | q <;> exact zsn_leaf q rfl) | (exfalso; omega)))
    · refine fn_iconst hV dX11_sinOf_31 ?_
      refine fn_goto hV dX11_sinOf_32 ?_
      refine fn_istore_4 hV dX11_sinOf_117 rfl rfl ?_
      refine fn_iload_1 hV dX11_sinOf_119 ?_
      refine fn_bipush hV dX11_sinOf_120 rfl ?_
      refine fn_icmp_le hV (by omega) (by omega) dX11_sinOf_122 (fun q122 => ?_) (fun q122 => ?_)
      · refine fn_iload_4 hV dX11_sinOf_131 ?_
        exact fn_iret hR dX11_sinOf_133 (fnIs.i (by first | exact zsn_leaf (t := 0) (by omega) rfl | exact zsn_leaf (t := 1) (by omega) rfl | exact zsn_leaf (t := 2) (by omega) rfl | exact zsn_leaf (t := 3) (by omega) rfl | exact zsn_leaf (t := 4) (by omega) rfl | exact zsn_leaf (t := 5) (by omega) rfl | exact zsn_leaf (t := 6) (by omega) rfl | exact zsn_leaf (t := 7) (by omega) rfl | exact zsn_leaf (t := 8) (by omega) rfl | exact zsn_leaf (t := 9) (by omega) rfl | exact zsn_leaf (t := 10) (by omega) rfl | exact zsn_leaf (t := 11) (by omega) rfl | exact zsn_leaf (t := 12) (by omega) rfl | exact zsn_leaf (t := 13) (by omega) rfl | exact zsn_leaf (t := 14) (by omega) rfl | exact zsn_leaf (t := 15) (by omega) rfl | exact zsn_leaf (t := 16) (by omega) rfl | exact zsn_leaf (t := 17) (by omega) rfl | exact zsn_leaf (t := 18) (by omega) rfl | exact zsn_leaf (t := 19) (by omega) rfl | exact zsn_leaf (t := 20) (by omega) rfl | exact zsn_leaf (t := 21) (by omega) rfl | exact zsn_leaf (t := 22) (by omega) rfl | exact zsn_leaf (t := 23) (by omega) rfl | exact zsn_leaf (t := 24) (by omega) rfl | exact zsn_leaf (t := 25) (by omega) rfl | exact zsn_leaf (t := 26) (by omega) rfl | exact zsn_leaf (t := 27) (by omega) rfl | exact zsn_leaf (t := 28) (by omega) rfl | exact zsn_leaf (t := 29) (by omega) rfl | exact zsn_leaf (t := 30) (by omega) rfl | exact zsn_leaf (t := 31) (by omega) rfl | (rcases (show p % 32 = 0 ∨ p % 32 = 16 by omega) with q | q <;> exact zsn_leaf q rfl) | (exfalso; omega)))
      · refine fn_iload_4 hV dX11_sinOf_125 ?_
        refine fn_ineg hV dX11_sinOf_127 ?_
        refine fn_goto hV dX11_sinOf_128 ?_
        exact fn_iret hR dX11_sinOf_133 (fnIs.i (by first | exact zsn_leaf (t := 0) (by omega) rfl | exact zsn_leaf (t := 1) (by omega) rfl | exact zsn_leaf (t := 2) (by omega) rfl | exact zsn_leaf (t := 3) (by omega) rfl | exact zsn_leaf (t := 4) (by omega) rfl | exact zsn_leaf (t := 5) (by omega) rfl | exact zsn_leaf (t := 6) (by omega) rfl | exact zsn_leaf (t := 7) (by omega) rfl | exact zsn_leaf (t := 8) (by omega) rfl | exact zsn_leaf (t := 9) (by omega) rfl | exact zsn_leaf (t := 10) (by omega) rfl | exact zsn_leaf (t := 11) (by omega) rfl | exact zsn_leaf (t := 12) (by omega) rfl | exact zsn_leaf (t := 13) (by omega) rfl | exact zsn_leaf (t := 14) (by omega) rfl | exact zsn_leaf (t := 15) (by omega) rfl | exact zsn_leaf (t := 16) (by omega) rfl | exact zsn_leaf (t := 17) (by omega) rfl | exact zsn_leaf (t := 18) (by omega) rfl | exact zsn_leaf (t := 19) (by omega) rfl | exact zsn_leaf (t := 20) (by omega) rfl | exact zsn_leaf (t := 21) (by omega) rfl | exact zsn_leaf (t := 22) (by omega) rfl | exact zsn_leaf (t := 23) (by omega) rfl | exact zsn_leaf (t := 24) (by omega) rfl | exact zsn_leaf (t := 25) (by omega) rfl | exact zsn_leaf (t := 26) (by omega) rfl | exact zsn_leaf (t := 27) (by omega) rfl | exact zsn_leaf (t := 28) (by omega) rfl | exact zsn_leaf (t := 29) (by omega) rfl | exact zsn_leaf (t := 30) (by omega) rfl | exact zsn_leaf (t := 31) (by omega) rfl | (rcases (show p % 32 = 0 ∨ p % 32 = 16 by omega) with q | q <;> exact zsn_leaf q rfl) | (exfalso; omega)))

set_option maxHeartbeats 4000000 in
set_option maxRecDepth 20000 in
theorem c_X11_cosOf (E : fnE) (σ : fnMem) (p : Int) (hp : -1000000 ≤ p ∧ p ≤ 1000000) : fnOk E mX11_cosOf [zI p] σ (fnIs (some (zI (zcs p))) σ) := by
  refine fnOk.of [zI p] rfl (by decide +kernel) rfl (fun V hV hR => ?_)
  replace hV : fnCx E RX11 cX11_cosOf 1 2 46 V := hV
  replace hR : fnRt cX11_cosOf (some .int) _ V := hR
  refine fn_iload_0 hV dX11_cosOf_0 ?_
  refine fn_bipush hV dX11_cosOf_1 rfl ?_
  refine fn_iadd hV dX11_cosOf_3 ?_
  refine fn_cS1 hV (c_X11_sinOf E _ _ (by omega)) ms_X11_sinOf lk_X11_105 dX11_cosOf_4 ⟨rfl, rfl⟩ rfl ?_
  exact fn_iret hR dX11_cosOf_7 (fnIs.i rfl)

set_option maxHeartbeats 4000000 in
set_option maxRecDepth 20000 in
theorem c_X11_sineAt (E : fnE) (σ : fnMem) (r : Int) (hr : 0 ≤ r ∧ r < 3200) : fnOk E mX11_sineAt [zI r] σ (fnIs (some (zI (zsine r))) σ) := by
  refine fnOk.of [zI r] rfl (by decide +kernel) rfl (fun V hV hR => ?_)
  replace hV : fnCx E RX11 cX11_sineAt 1 2 46 V := hV
  replace hR : fnRt cX11_sineAt (some .int) _ V := hR
  have h1 := zsn_le (r / 100)
  have h2 := zsn_le (r / 100 + 1)
  have m1 := zmul_le (a := zsn (r / 100)) (b := 100 - r % 100) (A := 1000) (B := 100) (by omega) (by omega) (by omega) (by omega)
  have m2 := zmul_le (a := zsn (r / 100 + 1)) (b := r % 100) (A := 1000) (B := 100) (by omega) (by omega) (by omega) (by omega)
  refine fn_iload_0 hV dX11_sineAt_0 ?_
  refine fn_bipush hV dX11_sineAt_1 rfl ?_
  refine fn_idivp hV dX11_sineAt_3 (by omega) (by omega) ?_
  refine fn_cS1 hV (c_X11_sinOf E _ _ (by omega)) ms_X11_sinOf lk_X11_105 dX11_sineAt_4 ⟨rfl, rfl⟩ rfl ?_
  refine fn_i2lr hV dX11_sineAt_7 (by omega) ?_
  refine fn_bipush hV dX11_sineAt_8 rfl ?_
  refine fn_iload_0 hV dX11_sineAt_10 ?_
  refine fn_bipush hV dX11_sineAt_11 rfl ?_
  refine fn_iremp hV dX11_sineAt_13 (by omega) (by omega) ?_
  refine fn_isub hV dX11_sineAt_14 ?_
  refine fn_i2lr hV dX11_sineAt_15 (by omega) ?_
  refine fn_lmul hV dX11_sineAt_16 ?_
  refine fn_iload_0 hV dX11_sineAt_17 ?_
  refine fn_bipush hV dX11_sineAt_18 rfl ?_
  refine fn_idivp hV dX11_sineAt_20 (by omega) (by omega) ?_
  refine fn_iconst hV dX11_sineAt_21 ?_
  refine fn_iadd hV dX11_sineAt_22 ?_
  refine fn_cS1 hV (c_X11_sinOf E _ _ (by omega)) ms_X11_sinOf lk_X11_105 dX11_sineAt_23 ⟨rfl, rfl⟩ rfl ?_
  refine fn_i2lr hV dX11_sineAt_26 (by omega) ?_
  refine fn_iload_0 hV dX11_sineAt_27 ?_
  refine fn_bipush hV dX11_sineAt_28 rfl ?_
  refine fn_iremp hV dX11_sineAt_30 (by omega) (by omega) ?_
  refine fn_i2lr hV dX11_sineAt_31 (by omega) ?_
  refine fn_lmul hV dX11_sineAt_32 ?_
  refine fn_ladd hV dX11_sineAt_33 ?_
  refine fn_ldc2 hV dX11_sineAt_34 co_X11_109 ?_
  refine fn_cS2 hV (c_X11_rounded E _ _ _ (by omega) (by omega)) ms_X11_rounded lk_X11_111 dX11_sineAt_37 ⟨rfl, rfl⟩ rfl ?_
  refine fn_l2i hV dX11_sineAt_40 ?_
  exact fn_iret hR dX11_sineAt_41 (fnIs.i rfl)

set_option maxHeartbeats 4000000 in
set_option maxRecDepth 20000 in
theorem c_X11_wayOf (E : fnE) (σ : fnMem) (a b : Int) (ha : 0 ≤ a ∧ a < 3200) (hb : 0 ≤ b ∧ b < 3200) : fnOk E mX11_wayOf [zI a, zI b] σ (fnIs (some (zI (zway a b))) σ) := by
  refine fnOk.of [zI a, zI b] rfl (by decide +kernel) rfl (fun V hV hR => ?_)
  replace hV : fnCx E RX11 cX11_wayOf 2 1 22 V := hV
  replace hR : fnRt cX11_wayOf (some .int) _ V := hR
  refine fn_iload_1 hV dX11_wayOf_0 ?_
  refine fn_iload_0 hV dX11_wayOf_1 ?_
  refine fn_isub hV dX11_wayOf_2 ?_
  refine fn_sipush hV dX11_wayOf_3 rfl ?_
  refine fn_iadd hV dX11_wayOf_6 ?_
  refine fn_sipush hV dX11_wayOf_7 rfl ?_
  refine fn_cS2 hV (c_X11_turned E _ _ _ (by omega) (by omega) (by omega)) ms_X11_turned lk_X11_101 dX11_wayOf_10 ⟨rfl, rfl⟩ rfl ?_
  refine fn_sipush hV dX11_wayOf_13 rfl ?_
  refine fn_isub hV dX11_wayOf_16 ?_
  exact fn_iret hR dX11_wayOf_17 (fnIs.i rfl)

set_option maxHeartbeats 4000000 in
set_option maxRecDepth 20000 in
theorem c_X11_noRound (E : fnE) (σ : fnMem) (v : Int) (hv : fnR v) : fnOk E mX11_noRound [zI v] σ (fnIs (some (zI (if 0 ≤ v ∧ v ≤ 3199 then 0 else 1))) σ) := by
  refine fnOk.of [zI v] rfl (by decide +kernel) rfl (fun V hV hR => ?_)
  replace hV : fnCx E RX11 cX11_noRound 1 1 25 V := hV
  replace hR : fnRt cX11_noRound (some .boolean) _ V := hR
  refine fn_iload_0 hV dX11_noRound_0 ?_
  refine fn_i2lr hV dX11_noRound_1 (by omega) ?_
  refine fn_lconst0 hV dX11_noRound_2 ?_
  refine fn_ldc2 hV dX11_noRound_3 co_X11_115 ?_
  refine fn_cS3 hV (c_X11_in E _ _ _ _ (by omega) (by omega) (by omega)) ms_X11_in lk_X11_117 dX11_noRound_6 ⟨rfl, rfl⟩ rfl ?_
  refine fn_t_ifneb hV dX11_noRound_9 dX11_noRound_12 dX11_noRound_13 dX11_noRound_16 ?_
  exact fn_zret hR dX11_noRound_17 (by first | exact Or.inl rfl | exact Or.inr rfl | (split <;> simp)) (fnIs.i rfl)

set_option maxHeartbeats 4000000 in
set_option maxRecDepth 20000 in
theorem c_X11_noCompass (E : fnE) (σ : fnMem) (v : Int) (hv : fnR v) : fnOk E mX11_noCompass [zI v] σ (fnIs (some (zI (if 0 ≤ v ∧ v ≤ 2 then 0 else 1))) σ) := by
  refine fnOk.of [zI v] rfl (by decide +kernel) rfl (fun V hV hR => ?_)
  replace hV : fnCx E RX11 cX11_noCompass 1 1 25 V := hV
  replace hR : fnRt cX11_noCompass (some .boolean) _ V := hR
  refine fn_iload_0 hV dX11_noCompass_0 ?_
  refine fn_i2lr hV dX11_noCompass_1 (by omega) ?_
  refine fn_lconst0 hV dX11_noCompass_2 ?_
  refine fn_ldc2 hV dX11_noCompass_3 co_X11_99 ?_
  refine fn_cS3 hV (c_X11_in E _ _ _ _ (by omega) (by omega) (by omega)) ms_X11_in lk_X11_117 dX11_noCompass_6 ⟨rfl, rfl⟩ rfl ?_
  refine fn_t_ifneb hV dX11_noCompass_9 dX11_noCompass_12 dX11_noCompass_13 dX11_noCompass_16 ?_
  exact fn_zret hR dX11_noCompass_17 (by first | exact Or.inl rfl | exact Or.inr rfl | (split <;> simp)) (fnIs.i rfl)

set_option maxHeartbeats 4000000 in
set_option maxRecDepth 20000 in
theorem c_X11_noHeading (E : fnE) (σ : fnMem) (v : Int) (hv : fnR v) : fnOk E mX11_noHeading [zI v] σ (fnIs (some (zI (if 0 ≤ v ∧ v ≤ 31 then 0 else 1))) σ) := by
  refine fnOk.of [zI v] rfl (by decide +kernel) rfl (fun V hV hR => ?_)
  replace hV : fnCx E RX11 cX11_noHeading 1 1 25 V := hV
  replace hR : fnRt cX11_noHeading (some .boolean) _ V := hR
  refine fn_iload_0 hV dX11_noHeading_0 ?_
  refine fn_i2lr hV dX11_noHeading_1 (by omega) ?_
  refine fn_lconst0 hV dX11_noHeading_2 ?_
  refine fn_ldc2 hV dX11_noHeading_3 co_X11_121 ?_
  refine fn_cS3 hV (c_X11_in E _ _ _ _ (by omega) (by omega) (by omega)) ms_X11_in lk_X11_117 dX11_noHeading_6 ⟨rfl, rfl⟩ rfl ?_
  refine fn_t_ifneb hV dX11_noHeading_9 dX11_noHeading_12 dX11_noHeading_13 dX11_noHeading_16 ?_
  exact fn_zret hR dX11_noHeading_17 (by first | exact Or.inl rfl | exact Or.inr rfl | (split <;> simp)) (fnIs.i rfl)

set_option maxHeartbeats 4000000 in
set_option maxRecDepth 20000 in
theorem c_X11_noPart (E : fnE) (σ : fnMem) (v : Int) (hv : fnR v) : fnOk E mX11_noPart [zI v] σ (fnIs (some (zI (if 0 ≤ v ∧ v ≤ 5 then 0 else 1))) σ) := by
  refine fnOk.of [zI v] rfl (by decide +kernel) rfl (fun V hV hR => ?_)
  replace hV : fnCx E RX11 cX11_noPart 1 1 25 V := hV
  replace hR : fnRt cX11_noPart (some .boolean) _ V := hR
  refine fn_iload_0 hV dX11_noPart_0 ?_
  refine fn_i2lr hV dX11_noPart_1 (by omega) ?_
  refine fn_lconst0 hV dX11_noPart_2 ?_
  refine fn_ldc2 hV dX11_noPart_3 co_X11_123 ?_
  refine fn_cS3 hV (c_X11_in E _ _ _ _ (by omega) (by omega) (by omega)) ms_X11_in lk_X11_117 dX11_noPart_6 ⟨rfl, rfl⟩ rfl ?_
  refine fn_t_ifneb hV dX11_noPart_9 dX11_noPart_12 dX11_noPart_13 dX11_noPart_16 ?_
  exact fn_zret hR dX11_noPart_17 (by first | exact Or.inl rfl | exact Or.inr rfl | (split <;> simp)) (fnIs.i rfl)

set_option maxHeartbeats 4000000 in
set_option maxRecDepth 20000 in
theorem c_X11_noHeel (E : fnE) (σ : fnMem) (v : Int) (hv : fnR v) : fnOk E mX11_noHeel [zI v] σ (fnIs (some (zI (if -30 ≤ v ∧ v ≤ 30 then 0 else 1))) σ) := by
  refine fnOk.of [zI v] rfl (by decide +kernel) rfl (fun V hV hR => ?_)
  replace hV : fnCx E RX11 cX11_noHeel 1 1 25 V := hV
  replace hR : fnRt cX11_noHeel (some .boolean) _ V := hR
  refine fn_iload_0 hV dX11_noHeel_0 ?_
  refine fn_i2lr hV dX11_noHeel_1 (by omega) ?_
  refine fn_ldc2 hV dX11_noHeel_2 co_X11_125 ?_
  refine fn_ldc2 hV dX11_noHeel_5 co_X11_127 ?_
  refine fn_cS3 hV (c_X11_in E _ _ _ _ (by omega) (by omega) (by omega)) ms_X11_in lk_X11_117 dX11_noHeel_8 ⟨rfl, rfl⟩ rfl ?_
  refine fn_t_ifneb hV dX11_noHeel_11 dX11_noHeel_14 dX11_noHeel_15 dX11_noHeel_18 ?_
  exact fn_zret hR dX11_noHeel_19 (by first | exact Or.inl rfl | exact Or.inr rfl | (split <;> simp)) (fnIs.i rfl)

set_option maxHeartbeats 4000000 in
set_option maxRecDepth 20000 in
theorem c_X11_noDay (E : fnE) (σ : fnMem) (v : Int) (hv : fnR v) : fnOk E mX11_noDay [zI v] σ (fnIs (some (zI (if 0 ≤ v ∧ v ≤ 999 then 0 else 1))) σ) := by
  refine fnOk.of [zI v] rfl (by decide +kernel) rfl (fun V hV hR => ?_)
  replace hV : fnCx E RX11 cX11_noDay 1 1 25 V := hV
  replace hR : fnRt cX11_noDay (some .boolean) _ V := hR
  refine fn_iload_0 hV dX11_noDay_0 ?_
  refine fn_i2lr hV dX11_noDay_1 (by omega) ?_
  refine fn_lconst0 hV dX11_noDay_2 ?_
  refine fn_ldc2 hV dX11_noDay_3 co_X11_129 ?_
  refine fn_cS3 hV (c_X11_in E _ _ _ _ (by omega) (by omega) (by omega)) ms_X11_in lk_X11_117 dX11_noDay_6 ⟨rfl, rfl⟩ rfl ?_
  refine fn_t_ifneb hV dX11_noDay_9 dX11_noDay_12 dX11_noDay_13 dX11_noDay_16 ?_
  exact fn_zret hR dX11_noDay_17 (by first | exact Or.inl rfl | exact Or.inr rfl | (split <;> simp)) (fnIs.i rfl)

set_option maxHeartbeats 4000000 in
set_option maxRecDepth 20000 in
theorem c_X11_noPlace (E : fnE) (σ : fnMem) (v : Int) (hv : fnR v) : fnOk E mX11_noPlace [zI v] σ (fnIs (some (zI (if 0 ≤ v ∧ v ≤ 7 then 0 else 1))) σ) := by
  refine fnOk.of [zI v] rfl (by decide +kernel) rfl (fun V hV hR => ?_)
  replace hV : fnCx E RX11 cX11_noPlace 1 1 25 V := hV
  replace hR : fnRt cX11_noPlace (some .boolean) _ V := hR
  refine fn_iload_0 hV dX11_noPlace_0 ?_
  refine fn_i2lr hV dX11_noPlace_1 (by omega) ?_
  refine fn_lconst0 hV dX11_noPlace_2 ?_
  refine fn_ldc2 hV dX11_noPlace_3 co_X11_243 ?_
  refine fn_cS3 hV (c_X11_in E _ _ _ _ (by omega) (by omega) (by omega)) ms_X11_in lk_X11_117 dX11_noPlace_6 ⟨rfl, rfl⟩ rfl ?_
  refine fn_t_ifneb hV dX11_noPlace_9 dX11_noPlace_12 dX11_noPlace_13 dX11_noPlace_16 ?_
  exact fn_zret hR dX11_noPlace_17 (by first | exact Or.inl rfl | exact Or.inr rfl | (split <;> simp)) (fnIs.i rfl)

set_option maxHeartbeats 4000000 in
set_option maxRecDepth 20000 in
theorem c_X11_take (E : fnE) (σ : fnMem) (c : Int) (hc : 0 ≤ c ∧ c ≤ 2) : fnOk E mX11_take [.ref 51, zI c] σ (fnQv (fun s => fnFr [73] σ s ∧ ∀ j, 0 ≤ j → j < 6 → s 73 j = σ 52 (6 * c + j))) := by
  refine fnOk.of [.ref 51, zI c, .null] rfl (by decide +kernel) rfl (fun V hV hR => ?_)
  replace hV : fnCx E RX11 cX11_take 3 0 0 V := hV
  replace hR : fnRt cX11_take none _ V := hR
  refine fn_iconst hV dX11_take_0 ?_
  refine fn_istore_2 hV dX11_take_1 rfl rfl ?_
  have L : ∀ k : Nat, k ≤ 6 → ∀ (i : Int) (σ1 : fnMem), True → (i = k) → (fnFr [73] σ σ1) → (∀ j, 0 ≤ j → j < i → σ1 73 j = σ 52 (6 * c + j)) → V 2 [.ref 51, zI c, zI i] [] σ1 := by
    refine fn_rec (fun k hk ihL => ?_)
    intro i σ1 _ hi hF hv
    refine fn_iload_2 hV dX11_take_2 ?_
    refine fn_bipush hV dX11_take_3 rfl ?_
    refine fn_icmp_ge hV (by omega) (by omega) dX11_take_5 (fun q5 => ?_) (fun q5 => ?_)
    · exact fn_vret hR dX11_take_31 (fnQv.mk ⟨hF, fun j j0 j1 => hv j j0 (by omega)⟩)
    · refine fn_aload_0 hV dX11_take_8 ?_
      refine fn_getR hV dX11_take_9 fl_X11_78 fr_51_25 ?_
      refine fn_iload_2 hV dX11_take_12 ?_
      refine fn_aload_0 hV dX11_take_13 ?_
      refine fn_getR hV dX11_take_14 fl_X11_7 fr_51_1 ?_
      refine fn_bipush hV dX11_take_17 rfl ?_
      refine fn_iload_1 hV dX11_take_19 ?_
      refine fn_imul hV dX11_take_20 ?_
      refine fn_iload_2 hV dX11_take_21 ?_
      refine fn_iadd hV dX11_take_22 ?_
      refine fn_iald hV dX11_take_23 ar_52 (by omega) (by omega) ?_
      refine fn_iast hV dX11_take_24 ar_73 (by omega) (by omega) ?_
      refine fn_iinc_2 hV dX11_take_25 rfl rfl ?_
      refine fn_goto hV dX11_take_28 ?_
      exact ihL (k + 1) (by omega) (by omega) _ _ trivial (by omega) (hF.up (by decide)) (fun j j0 j1 => by
      rw [fnUp_ap]
      split
      · rename_i hq; rw [hq, hF 52 (by decide)]
      · exact hv j j0 (by omega))
  exact L 0 (by omega) _ _ trivial (by omega) fnFr.rf (fun j j0 j1 => by omega)

set_option maxHeartbeats 4000000 in
set_option maxRecDepth 20000 in
theorem c_X11_errorOf (E : fnE) (σ : fnMem) (hP : ∀ j, 0 ≤ j → j < 6 → -32000 ≤ σ 73 j ∧ σ 73 j ≤ 32000) (h g : Int) (hh : 0 ≤ h ∧ h < 32) (hg : -30 ≤ g ∧ g ≤ 30) : fnOk E mX11_errorOf [.ref 51, zI h, zI g] σ (fnIs (some (zI (zer (σ 73) h g))) σ) := by
  refine fnOk.of [.ref 51, zI h, zI g, .null, .null] rfl (by decide +kernel) rfl (fun V hV hR => ?_)
  replace hV : fnCx E RX11 cX11_errorOf 5 3 66 V := hV
  replace hR : fnRt cX11_errorOf (some .int) _ V := hR
  have p0 := hP 0 (by decide) (by decide)
  have p1 := hP 1 (by decide) (by decide)
  have p2 := hP 2 (by decide) (by decide)
  have p3 := hP 3 (by decide) (by decide)
  have p4 := hP 4 (by decide) (by decide)
  have p5 := hP 5 (by decide) (by decide)
  have s1 := zsn_le h
  have s2 := zcs_le h
  have s3 := zsn_le (2 * h)
  have s4 := zcs_le (2 * h)
  have m1 := zmul_le (A := 32000) (B := 1000) p1.1 p1.2 s1.1 s1.2
  have m2 := zmul_le (A := 32000) (B := 1000) p2.1 p2.2 s2.1 s2.2
  have m3 := zmul_le (A := 32000) (B := 1000) p3.1 p3.2 s3.1 s3.2
  have m4 := zmul_le (A := 32000) (B := 1000) p4.1 p4.2 s4.1 s4.2
  have m5 := zmul_le (A := 32000) (B := 1000) p5.1 p5.2 s2.1 s2.2
  have m6 := zmul_le (a := σ 73 5 * zcs h) (b := g) (A := 32000 * 1000) (B := 30) m5.1 m5.2 hg.1 hg.2
  have t6 := ztdiv_le (B := 32000 * 1000 * 30) 10 m6.1 m6.2
  refine fn_aload_0 hV dX11_errorOf_0 ?_
  refine fn_getR hV dX11_errorOf_1 fl_X11_78 fr_51_25 ?_
  refine fn_iconst hV dX11_errorOf_4 ?_
  refine fn_iald hV dX11_errorOf_5 ar_73 (by omega) (by omega) ?_
  refine fn_i2lr hV dX11_errorOf_6 (by omega) ?_
  refine fn_iload_1 hV dX11_errorOf_7 ?_
  refine fn_cS1 hV (c_X11_sinOf E _ _ (by omega)) ms_X11_sinOf lk_X11_105 dX11_errorOf_8 ⟨rfl, rfl⟩ rfl ?_
  refine fn_i2lr hV dX11_errorOf_11 (by omega) ?_
  refine fn_lmul hV dX11_errorOf_12 ?_
  refine fn_aload_0 hV dX11_errorOf_13 ?_
  refine fn_getR hV dX11_errorOf_14 fl_X11_78 fr_51_25 ?_
  refine fn_iconst hV dX11_errorOf_17 ?_
  refine fn_iald hV dX11_errorOf_18 ar_73 (by omega) (by omega) ?_
  refine fn_i2lr hV dX11_errorOf_19 (by omega) ?_
  refine fn_iload_1 hV dX11_errorOf_20 ?_
  refine fn_cS1 hV (c_X11_cosOf E _ _ (by omega)) ms_X11_cosOf lk_X11_131 dX11_errorOf_21 ⟨rfl, rfl⟩ rfl ?_
  refine fn_i2lr hV dX11_errorOf_24 (by omega) ?_
  refine fn_lmul hV dX11_errorOf_25 ?_
  refine fn_ladd hV dX11_errorOf_26 ?_
  refine fn_aload_0 hV dX11_errorOf_27 ?_
  refine fn_getR hV dX11_errorOf_28 fl_X11_78 fr_51_25 ?_
  refine fn_iconst hV dX11_errorOf_31 ?_
  refine fn_iald hV dX11_errorOf_32 ar_73 (by omega) (by omega) ?_
  refine fn_i2lr hV dX11_errorOf_33 (by omega) ?_
  refine fn_iconst hV dX11_errorOf_34 ?_
  refine fn_iload_1 hV dX11_errorOf_35 ?_
  refine fn_imul hV dX11_errorOf_36 ?_
  refine fn_cS1 hV (c_X11_sinOf E _ _ (by omega)) ms_X11_sinOf lk_X11_105 dX11_errorOf_37 ⟨rfl, rfl⟩ rfl ?_
  refine fn_i2lr hV dX11_errorOf_40 (by omega) ?_
  refine fn_lmul hV dX11_errorOf_41 ?_
  refine fn_ladd hV dX11_errorOf_42 ?_
  refine fn_aload_0 hV dX11_errorOf_43 ?_
  refine fn_getR hV dX11_errorOf_44 fl_X11_78 fr_51_25 ?_
  refine fn_iconst hV dX11_errorOf_47 ?_
  refine fn_iald hV dX11_errorOf_48 ar_73 (by omega) (by omega) ?_
  refine fn_i2lr hV dX11_errorOf_49 (by omega) ?_
  refine fn_iconst hV dX11_errorOf_50 ?_
  refine fn_iload_1 hV dX11_errorOf_51 ?_
  refine fn_imul hV dX11_errorOf_52 ?_
  refine fn_cS1 hV (c_X11_cosOf E _ _ (by omega)) ms_X11_cosOf lk_X11_131 dX11_errorOf_53 ⟨rfl, rfl⟩ rfl ?_
  refine fn_i2lr hV dX11_errorOf_56 (by omega) ?_
  refine fn_lmul hV dX11_errorOf_57 ?_
  refine fn_ladd hV dX11_errorOf_58 ?_
  refine fn_aload_0 hV dX11_errorOf_59 ?_
  refine fn_getR hV dX11_errorOf_60 fl_X11_78 fr_51_25 ?_
  refine fn_iconst hV dX11_errorOf_63 ?_
  refine fn_iald hV dX11_errorOf_64 ar_73 (by omega) (by omega) ?_
  refine fn_i2lr hV dX11_errorOf_65 (by omega) ?_
  refine fn_iload_1 hV dX11_errorOf_66 ?_
  refine fn_cS1 hV (c_X11_cosOf E _ _ (by omega)) ms_X11_cosOf lk_X11_131 dX11_errorOf_67 ⟨rfl, rfl⟩ rfl ?_
  refine fn_i2lr hV dX11_errorOf_70 (by omega) ?_
  refine fn_lmul hV dX11_errorOf_71 ?_
  refine fn_iload_2 hV dX11_errorOf_72 ?_
  refine fn_i2lr hV dX11_errorOf_73 (by omega) ?_
  refine fn_lmul hV dX11_errorOf_74 ?_
  refine fn_ldc2 hV dX11_errorOf_75 co_X11_134 ?_
  refine fn_ldiv hV dX11_errorOf_78 (by omega) (by omega) (by omega) ?_
  refine fn_ladd hV dX11_errorOf_79 ?_
  refine fn_lstore_3 hV dX11_errorOf_80 rfl rfl ?_
  refine fn_aload_0 hV dX11_errorOf_81 ?_
  refine fn_getR hV dX11_errorOf_82 fl_X11_78 fr_51_25 ?_
  refine fn_iconst hV dX11_errorOf_85 ?_
  refine fn_iald hV dX11_errorOf_86 ar_73 (by omega) (by omega) ?_
  refine fn_lload_3 hV dX11_errorOf_87 ?_
  refine fn_ldc2 hV dX11_errorOf_88 co_X11_136 ?_
  refine fn_cS2 hV (c_X11_rounded E _ _ _ (by omega) (by omega)) ms_X11_rounded lk_X11_111 dX11_errorOf_91 ⟨rfl, rfl⟩ rfl ?_
  refine fn_l2i hV dX11_errorOf_94 ?_
  refine fn_iadd hV dX11_errorOf_95 ?_
  exact fn_iret hR dX11_errorOf_96 (fnIs.i rfl)

set_option maxHeartbeats 4000000 in
set_option maxRecDepth 20000 in
theorem c_X11_lay (E : fnE) (σ : fnMem) (hP : ∀ j, 0 ≤ j → j < 6 → -32000 ≤ σ 73 j ∧ σ 73 j ≤ 32000) (g : Int) (hg : -30 ≤ g ∧ g ≤ 30) : fnOk E mX11_lay [.ref 51, zI g] σ (fnQv (fun s => fnFr [74] σ s ∧ ∀ h, 0 ≤ h → h < 32 → s 74 h = zer (σ 73) h g)) := by
  refine fnOk.of [.ref 51, zI g, .null] rfl (by decide +kernel) rfl (fun V hV hR => ?_)
  replace hV : fnCx E RX11 cX11_lay 3 4 90 V := hV
  replace hR : fnRt cX11_lay none _ V := hR
  refine fn_iconst hV dX11_lay_0 ?_
  refine fn_istore_2 hV dX11_lay_1 rfl rfl ?_
  have L : ∀ k : Nat, k ≤ 32 → ∀ (i : Int) (σ1 : fnMem), True → (i = k) → (fnFr [74] σ σ1) → (∀ h, 0 ≤ h → h < i → σ1 74 h = zer (σ 73) h g) → V 2 [.ref 51, zI g, zI i] [] σ1 := by
    refine fn_rec (fun k hk ihL => ?_)
    intro i σ1 _ hi hF hv
    refine fn_iload_2 hV dX11_lay_2 ?_
    refine fn_bipush hV dX11_lay_3 rfl ?_
    refine fn_icmp_ge hV (by omega) (by omega) dX11_lay_5 (fun q5 => ?_) (fun q5 => ?_)
    · exact fn_vret hR dX11_lay_26 (fnQv.mk ⟨hF, fun h h0 h1 => hv h h0 (by omega)⟩)
    · have e1 : σ1 73 = σ 73 := hF _ (by decide)
      have hP1 : ∀ j, 0 ≤ j → j < 6 → -32000 ≤ σ1 73 j ∧ σ1 73 j ≤ 32000 := by rw [e1]; exact hP
      refine fn_aload_0 hV dX11_lay_8 ?_
      refine fn_getR hV dX11_lay_9 fl_X11_81 fr_51_26 ?_
      refine fn_iload_2 hV dX11_lay_12 ?_
      refine fn_aload_0 hV dX11_lay_13 ?_
      refine fn_iload_2 hV dX11_lay_14 ?_
      refine fn_iload_1 hV dX11_lay_15 ?_
      refine fn_cV2 hV (c_X11_errorOf E _ hP1 _ _ (by omega) (by omega)) mv_X11_errorOf lk_X11_138 dX11_lay_16 sh_51 rfl ⟨rfl, rfl⟩ rfl ?_
      refine fn_iast hV dX11_lay_19 ar_74 (by omega) (by omega) ?_
      refine fn_iinc_2 hV dX11_lay_20 rfl rfl ?_
      refine fn_goto hV dX11_lay_23 ?_
      exact ihL (k + 1) (by omega) (by omega) _ _ trivial (by omega) (hF.up (by decide)) (fun h h0 h1 => by
      rw [fnUp_ap]
      split
      · rename_i hq; rw [hq, e1]
      · exact hv h h0 (by omega))
  exact L 0 (by omega) _ _ trivial (by omega) fnFr.rf (fun h h0 h1 => by omega)

set_option maxHeartbeats 4000000 in
set_option maxRecDepth 20000 in
theorem c_X11_between (E : fnE) (σ : fnMem) (hr4 : ∀ h, 0 ≤ h → h < 32 → -1200000 ≤ σ 74 h ∧ σ 74 h ≤ 1200000) (r : Int) (hr : 0 ≤ r ∧ r < 3200) : fnOk E mX11_between [.ref 51, zI r] σ (fnIs (some (zI (zeAt (σ 74) r))) σ) := by
  refine fnOk.of [.ref 51, zI r] rfl (by decide +kernel) rfl (fun V hV hR => ?_)
  replace hV : fnCx E RX11 cX11_between 2 1 29 V := hV
  replace hR : fnRt cX11_between (some .int) _ V := hR
  have b1 := hr4 (r / 100) (by omega) (by omega)
  have b2 := hr4 ((r / 100 + 1) % 32) (by omega) (by omega)
  have m1 := zmul_le (a := σ 74 (r / 100)) (b := 100 - r % 100) (A := 1200000) (B := 100) (by omega) (by omega) (by omega) (by omega)
  have m2 := zmul_le (a := σ 74 ((r / 100 + 1) % 32)) (b := r % 100) (A := 1200000) (B := 100) (by omega) (by omega) (by omega) (by omega)
  refine fn_aload_0 hV dX11_between_0 ?_
  refine fn_getR hV dX11_between_1 fl_X11_81 fr_51_26 ?_
  refine fn_iload_1 hV dX11_between_4 ?_
  refine fn_bipush hV dX11_between_5 rfl ?_
  refine fn_idivp hV dX11_between_7 (by omega) (by omega) ?_
  refine fn_iald hV dX11_between_8 ar_74 (by omega) (by omega) ?_
  refine fn_i2lr hV dX11_between_9 (by omega) ?_
  refine fn_bipush hV dX11_between_10 rfl ?_
  refine fn_iload_1 hV dX11_between_12 ?_
  refine fn_bipush hV dX11_between_13 rfl ?_
  refine fn_iremp hV dX11_between_15 (by omega) (by omega) ?_
  refine fn_isub hV dX11_between_16 ?_
  refine fn_i2lr hV dX11_between_17 (by omega) ?_
  refine fn_lmul hV dX11_between_18 ?_
  refine fn_aload_0 hV dX11_between_19 ?_
  refine fn_getR hV dX11_between_20 fl_X11_81 fr_51_26 ?_
  refine fn_iload_1 hV dX11_between_23 ?_
  refine fn_bipush hV dX11_between_24 rfl ?_
  refine fn_idivp hV dX11_between_26 (by omega) (by omega) ?_
  refine fn_iconst hV dX11_between_27 ?_
  refine fn_iadd hV dX11_between_28 ?_
  refine fn_bipush hV dX11_between_29 rfl ?_
  refine fn_iremp hV dX11_between_31 (by omega) (by omega) ?_
  refine fn_iald hV dX11_between_32 ar_74 (by omega) (by omega) ?_
  refine fn_i2lr hV dX11_between_33 (by omega) ?_
  refine fn_iload_1 hV dX11_between_34 ?_
  refine fn_bipush hV dX11_between_35 rfl ?_
  refine fn_iremp hV dX11_between_37 (by omega) (by omega) ?_
  refine fn_i2lr hV dX11_between_38 (by omega) ?_
  refine fn_lmul hV dX11_between_39 ?_
  refine fn_ladd hV dX11_between_40 ?_
  refine fn_ldc2 hV dX11_between_41 co_X11_109 ?_
  refine fn_cS2 hV (c_X11_rounded E _ _ _ (by omega) (by omega)) ms_X11_rounded lk_X11_111 dX11_between_44 ⟨rfl, rfl⟩ rfl ?_
  refine fn_l2i hV dX11_between_47 ?_
  exact fn_iret hR dX11_between_48 (fnIs.i rfl)

set_option maxHeartbeats 4000000 in
set_option maxRecDepth 20000 in
theorem c_X11_truth (E : fnE) (σ : fnMem) (hr4 : ∀ h, 0 ≤ h → h < 32 → -1200000 ≤ σ 74 h ∧ σ 74 h ≤ 1200000) (r : Int) (hr : 0 ≤ r ∧ r < 3200) : fnOk E mX11_truth [.ref 51, zI r] σ (fnIs (some (zI (ztru (σ 74) r))) σ) := by
  refine fnOk.of [.ref 51, zI r] rfl (by decide +kernel) rfl (fun V hV hR => ?_)
  replace hV : fnCx E RX11 cX11_truth 2 2 50 V := hV
  replace hR : fnRt cX11_truth (some .int) _ V := hR
  have b1 := hr4 (r / 100) (by omega) (by omega)
  have b2 := hr4 ((r / 100 + 1) % 32) (by omega) (by omega)
  have b3 : -1200000 ≤ zeAt (σ 74) r ∧ zeAt (σ 74) r ≤ 1200000 := zbtw_le b1 b2 (by omega)
  refine fn_iload_1 hV dX11_truth_0 ?_
  refine fn_aload_0 hV dX11_truth_1 ?_
  refine fn_iload_1 hV dX11_truth_2 ?_
  refine fn_cV1 hV (c_X11_between E _ hr4 _ (by omega)) mv_X11_between lk_X11_141 dX11_truth_3 sh_51 rfl ⟨rfl, rfl⟩ rfl ?_
  refine fn_iadd hV dX11_truth_6 ?_
  refine fn_sipush hV dX11_truth_7 rfl ?_
  refine fn_cS2 hV (c_X11_turned E _ _ _ (by omega) (by omega) (by omega)) ms_X11_turned lk_X11_101 dX11_truth_10 ⟨rfl, rfl⟩ rfl ?_
  exact fn_iret hR dX11_truth_13 (fnIs.i rfl)
