theorem zCR_leg {σ μ : fnMem} (h : zCR σ μ) {L : Nat} (hL : μ 0 18 = L) (d r g m o s : Int) : zCR (fnUp (fnUp (fnUp (fnUp (fnUp (fnUp (fnUp σ 37 L d) 38 L r) 39 L g) 40 L m) 41 L o) 42 L s) 36 6 ((L : Int) + 1)) (fnUp (fnUp (fnUp (fnUp (fnUp (fnUp (fnUp μ 16 (μ 0 18) d) 17 (μ 0 18) r) 18 (μ 0 18) g) 19 (μ 0 18) m) 20 (μ 0 18) o) 21 (μ 0 18) s) 0 18 (μ 0 18 + 1)) := by
  obtain ⟨v1, v2, v3, v4, v5, v6, v7, v8⟩ := h.2.2.2.2.2
  rw [hL]
  rw [hL] at v2 v3 v4 v5 v6 v7
  refine zCR_v h (fun j hj => by rw [fnUp_ne _ _ _ (by omega), fnUp_ne _ _ _ (by omega), fnUp_ne _ _ _ (by omega), fnUp_ne _ _ _ (by omega), fnUp_ne _ _ _ (by omega), fnUp_ne _ _ _ (by omega), fnUp_ne _ _ _ (by omega)]) (fun j hj h0 => by rw [fnUp_ne _ _ _ (by omega), fnUp_ne _ _ _ (by omega), fnUp_ne _ _ _ (by omega), fnUp_ne _ _ _ (by omega), fnUp_ne _ _ _ (by omega), fnUp_ne _ _ _ (by omega), fnUp_ne _ _ _ (by omega)]) (by simp [fnUp_ap, fnUp_ne]) (by simp [fnUp_ap, fnUp_ne]) ?_
  have hn : (fnUp (fnUp (fnUp (fnUp (fnUp (fnUp (fnUp μ 16 L d) 17 L r) 18 L g) 19 L m) 20 L o) 21 L s) 0 18 ((L : Int) + 1)) 0 18 = (L : Int) + 1 := fnUp_at _ _ _ _
  unfold zCRv
  rw [hn]
  refine ⟨fnUp_at _ _ _ _, fun l l0 l1 => ?_, fun l l0 l1 => ?_, fun l l0 l1 => ?_, fun l l0 l1 => ?_, fun l l0 l1 => ?_, fun l l0 l1 => ?_, by simpa [fnUp_ne] using v8⟩ <;> simp (decide := true) only [fnUp_ap, fnUp_ne] <;> split
  · rfl
  · exact v2 l l0 (by omega)
  · rfl
  · exact v3 l l0 (by omega)
  · rfl
  · exact v4 l l0 (by omega)
  · rfl
  · exact v5 l l0 (by omega)
  · rfl
  · exact v6 l l0 (by omega)
  · rfl
  · exact v7 l l0 (by omega)
theorem zCR_home {σ μ : fnMem} (h : zCR σ μ) : zCR (fnUp σ 36 6 0) (U_home μ) := by
  obtain ⟨v1, v2, v3, v4, v5, v6, v7, v8⟩ := h.2.2.2.2.2
  have e : U_home μ 0 18 = 0 := fnUp_at _ _ _ _
  refine zCR_v h (fun j hj => fnUp_ne _ _ _ (by omega)) (fun j hj h0 => fnUp_ne _ _ _ h0) (fnUp_off _ _ _ (by decide)) (fnUp_off _ _ _ (by decide)) ?_
  unfold zCRv
  rw [e]
  exact ⟨fnUp_at _ _ _ _, fun l l0 l1 => by omega, fun l l0 l1 => by omega, fun l l0 l1 => by omega, fun l l0 l1 => by omega, fun l l0 l1 => by omega, fun l l0 l1 => by omega, by rw [fnUp_ne _ _ _ (by decide)]; exact v8⟩
theorem zwk_s (C D M f : Int → Int) (d s : Int) (n : Nat) : zwk C D M f d s (n + 1) = zwk C D M f d s n + M n * f ((C n + (if d ≤ D n then s else 0)) % 3200) := rfl
theorem zcrs_in (μ : fnMem) (l : Int) : 0 ≤ zcrs μ l ∧ zcrs μ l < 3200 := ztru_in _ _
theorem zoth_in (μ : fnMem) (l : Int) : 0 ≤ zoth μ l ∧ zoth μ l < 3200 := ztru_in _ _
theorem zbtw_r {a b k B : Int} (ha : -B ≤ a ∧ a ≤ B) (hb : -B ≤ b ∧ b ≤ B) (hk : 0 ≤ k ∧ k < 100) : -B ≤ zbtw a b k ∧ zbtw a b k ≤ B := by
  unfold zbtw zrnd
  have m1 : a * (100 - k) ≤ B * (100 - k) := Int.mul_le_mul_of_nonneg_right ha.2 (by omega)
  have m2 : b * k ≤ B * k := Int.mul_le_mul_of_nonneg_right hb.2 (by omega)
  have m3 : -B * (100 - k) ≤ a * (100 - k) := Int.mul_le_mul_of_nonneg_right ha.1 (by omega)
  have m4 : -B * k ≤ b * k := Int.mul_le_mul_of_nonneg_right hb.1 (by omega)
  have m5 : B * (100 - k) + B * k = B * 100 := by rw [← Int.mul_add]; congr 1; omega
  have m6 : -B * (100 - k) + -B * k = -B * 100 := by rw [← Int.mul_add]; congr 1; omega
  omega
theorem zsrs_in {μ : fnMem} (hW : zWF μ) {l : Int} (hl : 0 ≤ l ∧ l < μ 0 18) : -2000000 ≤ zsrs μ l ∧ zsrs μ l ≤ 2000000 := by
  obtain ⟨x1, x2, x3, x4, x5, x6, x7, x8⟩ := hW.2.2.2.2.2
  have z4 := x4 l hl.1 hl.2
  have z7 := x7 l hl.1 hl.2
  have key : ∀ x, -1200000 ≤ zer (zasof μ (μ 16 l)) x (μ 18 l) ∧ zer (zasof μ (μ 16 l)) x (μ 18 l) ≤ 1200000 := fun x => zer_le (fun j j0 j1 => by have := zasof_le hW (μ 16 l) j0 j1; omega) x _ z4
  have := zbtw_r (B := 1200000) (key (μ 17 l / 100)) (key ((μ 17 l / 100 + 1) % 32)) (k := μ 17 l % 100) (by omega)
  have e : zsrs μ l = μ 21 l - zbtw (zer (zasof μ (μ 16 l)) (μ 17 l / 100) (μ 18 l)) (zer (zasof μ (μ 16 l)) ((μ 17 l / 100 + 1) % 32) (μ 18 l)) (μ 17 l % 100) := rfl
  rw [e]
  omega

set_option maxHeartbeats 4000000 in
set_option maxRecDepth 20000 in
theorem c_X10_leg (E : fnE) (σ μ : fnMem) (hC : zCR σ μ) (hW : zWF μ) (d : Int) (h_d : fnR d) (r : Int) (h_r : fnR r) (g : Int) (h_g : fnR g) (m : Int) (h_m : fnR m) (o : Int) (h_o : fnR o) (s : Int) (h_s : fnR s) : fnOk E mX10_leg [.ref 0, zI d, zI r, zI g, zI m, zI o, zI s] σ (fnQI (zXP (S_leg μ d r g m o s) (U_leg μ d r g m o s) σ)) := by
  refine fnOk.of [.ref 0, zI d, zI r, zI g, zI m, zI o, zI s] rfl (by decide +kernel) rfl (fun V hV hR => ?_)
  replace hV : fnCx E RX10 cX10_leg 7 2 42 V := hV
  replace hR : fnRt cX10_leg (some .int) _ V := hR
  refine fn_iload_1 hV dX10_leg_0 ?_
  refine fn_cS1 hV (c_X10_isDay E _ _ (by omega)) ms_X10_isDay lk_X10_270 dX10_leg_1 ⟨rfl, rfl⟩ rfl ?_
  refine fn_ifeqb hV dX10_leg_4 (fun q4 => ?_) (fun q4 => ?_)
  · refine fn_sipush hV dX10_leg_33 rfl ?_
    exact fn_iret hR dX10_leg_36 (zXP.rfU hC (by unfold S_leg; rw [if_pos (by omega)]) (by unfold U_leg; exact if_neg (by omega)))
  · refine fn_iload_2 hV dX10_leg_7 ?_
    refine fn_cS1 hV (c_X10_isReading E _ _ (by omega)) ms_X10_isReading lk_X10_83 dX10_leg_8 ⟨rfl, rfl⟩ rfl ?_
    refine fn_ifeqb hV dX10_leg_11 (fun q11 => ?_) (fun q11 => ?_)
    · refine fn_sipush hV dX10_leg_33 rfl ?_
      exact fn_iret hR dX10_leg_36 (zXP.rfU hC (by unfold S_leg; rw [if_pos (by omega)]) (by unfold U_leg; exact if_neg (by omega)))
    · refine fn_iload_3 hV dX10_leg_14 ?_
      refine fn_cS1 hV (c_X10_isHeel E _ _ (by omega)) ms_X10_isHeel lk_X10_116 dX10_leg_15 ⟨rfl, rfl⟩ rfl ?_
      refine fn_ifeqb hV dX10_leg_18 (fun q18 => ?_) (fun q18 => ?_)
      · refine fn_sipush hV dX10_leg_33 rfl ?_
        exact fn_iret hR dX10_leg_36 (zXP.rfU hC (by unfold S_leg; rw [if_pos (by omega)]) (by unfold U_leg; exact if_neg (by omega)))
      · refine fn_iload_4 hV dX10_leg_21 ?_
        refine fn_iconst hV dX10_leg_23 ?_
        refine fn_sipush hV dX10_leg_24 rfl ?_
        refine fn_cS3 hV (c_X10_within E _ _ _ _ (by omega) (by omega) (by omega)) ms_X10_within lk_X10_106 dX10_leg_27 ⟨rfl, rfl⟩ rfl ?_
        refine fn_ifneb hV dX10_leg_30 (fun q30 => ?_) (fun q30 => ?_)
        · refine fn_iload_5 hV dX10_leg_37 ?_
          refine fn_sipush hV dX10_leg_39 rfl ?_
          refine fn_icmp_eq hV (by omega) (by omega) dX10_leg_42 (fun q42 => ?_) (fun q42 => ?_)
          · refine fn_iload_6 hV dX10_leg_57 ?_
            refine fn_sipush hV dX10_leg_59 rfl ?_
            refine fn_icmp_eq hV (by omega) (by omega) dX10_leg_62 (fun q62 => ?_) (fun q62 => ?_)
            · obtain ⟨L, hL, hL4⟩ := hW.L
              have hK := hC.kLg hW hL
              obtain ⟨v1, v2, v3, v4, v5, v6, v7, v8⟩ := hC.2.2.2.2.2
              obtain ⟨x1, x2, x3, x4, x5, x6, x7, x8⟩ := hW.2.2.2.2.2
              have hj : (if L = 0 then (0 : Int) else σ 37 ((L : Int) - 1)) = if L = 0 then 0 else μ 16 ((L : Int) - 1) := by
                split
                · rfl
                · exact v2 _ (by omega) (by omega)
              have hj2 : 0 < L → 0 ≤ μ 16 ((L : Int) - 1) ∧ μ 16 ((L : Int) - 1) ≤ 999 := fun h0 => x2 _ (by omega) (by omega)
              refine fn_iload_1 hV dX10_leg_83 ?_
              refine fn_aload_0 hV dX10_leg_84 ?_
              refine fn_getR hV dX10_leg_85 fl_X10_52 fr_0_6 ?_
              refine fn_cV0 hV (c_X3_lastDay E _ L hK) mv_X3_lastDay lk_X10_280 dX10_leg_88 sh_36 rfl ⟨rfl, rfl⟩ rfl ?_
              rw [hj]
              have hj3 : (L = 0 ∧ (if L = 0 then (0 : Int) else μ 16 ((L : Int) - 1)) = 0) ∨ (0 < L ∧ (if L = 0 then (0 : Int) else μ 16 ((L : Int) - 1)) = μ 16 ((L : Int) - 1)) := by
                split <;> omega
              refine fn_icmp_ge hV (by omega) (by omega) dX10_leg_91 (fun q91 => ?_) (fun q91 => ?_)
              · refine fn_aload_0 hV dX10_leg_98 ?_
                refine fn_getR hV dX10_leg_99 fl_X10_52 fr_0_6 ?_
                refine fn_getIz hV 6 dX10_leg_102 fl_X10_283 fi_36_6 rfl ?_
                refine fn_bipush hV dX10_leg_105 rfl ?_
                refine fn_icmp_lt hV (by omega) (by omega) dX10_leg_107 (fun q107 => ?_) (fun q107 => ?_)
                · refine fn_aload_0 hV dX10_leg_114 ?_
                  refine fn_getR hV dX10_leg_115 fl_X10_52 fr_0_6 ?_
                  refine fn_iload_1 hV dX10_leg_118 ?_
                  refine fn_iload_2 hV dX10_leg_119 ?_
                  refine fn_iload_3 hV dX10_leg_120 ?_
                  refine fn_iload_4 hV dX10_leg_121 ?_
                  refine fn_iload_5 hV dX10_leg_123 ?_
                  refine fn_iload_6 hV dX10_leg_125 ?_
                  refine fn_cV6 hV (c_X3_add E _ L hK (by omega) _ _ _ _ _ _) mv_X3_add lk_X10_284 dX10_leg_127 sh_36 rfl ⟨rfl, rfl⟩ rfl ?_
                  exact fn_iret hR dX10_leg_130 (fnQI.mk ⟨by unfold S_leg; rw [if_neg (by omega), hL, if_neg (by omega), if_neg (by omega)], by rw [show U_leg μ d r g m o s = fnUp (fnUp (fnUp (fnUp (fnUp (fnUp (fnUp μ 16 (μ 0 18) d) 17 (μ 0 18) r) 18 (μ 0 18) g) 19 (μ 0 18) m) 20 (μ 0 18) o) 21 (μ 0 18) s) 0 18 (μ 0 18 + 1) from by unfold U_leg; exact if_pos (by rw [hL]; omega)]; exact zCR_leg hC hL d r g m o s, fun j hj => by rw [fnUp_ne _ _ _ (by omega), fnUp_ne _ _ _ (by omega), fnUp_ne _ _ _ (by omega), fnUp_ne _ _ _ (by omega), fnUp_ne _ _ _ (by omega), fnUp_ne _ _ _ (by omega), fnUp_ne _ _ _ (by omega)]⟩)
                · refine fn_sipush hV dX10_leg_110 rfl ?_
                  exact fn_iret hR dX10_leg_113 (zXP.rfU hC (by unfold S_leg; rw [if_neg (by omega), hL, if_neg (by omega), if_pos (by omega)]) (by unfold U_leg; rw [hL]; exact if_neg (by omega)))
              · refine fn_sipush hV dX10_leg_94 rfl ?_
                exact fn_iret hR dX10_leg_97 (zXP.rfU hC (by unfold S_leg; rw [if_neg (by omega), hL, if_pos (by omega)]) (by unfold U_leg; rw [hL]; exact if_neg (by omega)))
            · refine fn_iload_6 hV dX10_leg_65 ?_
              refine fn_sipush hV dX10_leg_67 rfl ?_
              refine fn_sipush hV dX10_leg_70 rfl ?_
              refine fn_cS3 hV (c_X10_within E _ _ _ _ (by omega) (by omega) (by omega)) ms_X10_within lk_X10_106 dX10_leg_73 ⟨rfl, rfl⟩ rfl ?_
              refine fn_ifneb hV dX10_leg_76 (fun q76 => ?_) (fun q76 => ?_)
              · obtain ⟨L, hL, hL4⟩ := hW.L
                have hK := hC.kLg hW hL
                obtain ⟨v1, v2, v3, v4, v5, v6, v7, v8⟩ := hC.2.2.2.2.2
                obtain ⟨x1, x2, x3, x4, x5, x6, x7, x8⟩ := hW.2.2.2.2.2
                have hj : (if L = 0 then (0 : Int) else σ 37 ((L : Int) - 1)) = if L = 0 then 0 else μ 16 ((L : Int) - 1) := by
                  split
                  · rfl
                  · exact v2 _ (by omega) (by omega)
                have hj2 : 0 < L → 0 ≤ μ 16 ((L : Int) - 1) ∧ μ 16 ((L : Int) - 1) ≤ 999 := fun h0 => x2 _ (by omega) (by omega)
                refine fn_iload_1 hV dX10_leg_83 ?_
                refine fn_aload_0 hV dX10_leg_84 ?_
                refine fn_getR hV dX10_leg_85 fl_X10_52 fr_0_6 ?_
                refine fn_cV0 hV (c_X3_lastDay E _ L hK) mv_X3_lastDay lk_X10_280 dX10_leg_88 sh_36 rfl ⟨rfl, rfl⟩ rfl ?_
                rw [hj]
                have hj3 : (L = 0 ∧ (if L = 0 then (0 : Int) else μ 16 ((L : Int) - 1)) = 0) ∨ (0 < L ∧ (if L = 0 then (0 : Int) else μ 16 ((L : Int) - 1)) = μ 16 ((L : Int) - 1)) := by
                  split <;> omega
                refine fn_icmp_ge hV (by omega) (by omega) dX10_leg_91 (fun q91 => ?_) (fun q91 => ?_)
                · refine fn_aload_0 hV dX10_leg_98 ?_
                  refine fn_getR hV dX10_leg_99 fl_X10_52 fr_0_6 ?_
                  refine fn_getIz hV 6 dX10_leg_102 fl_X10_283 fi_36_6 rfl ?_
                  refine fn_bipush hV dX10_leg_105 rfl ?_
                  refine fn_icmp_lt hV (by omega) (by omega) dX10_leg_107 (fun q107 => ?_) (fun q107 => ?_)
                  · refine fn_aload_0 hV dX10_leg_114 ?_
                    refine fn_getR hV dX10_leg_115 fl_X10_52 fr_0_6 ?_
                    refine fn_iload_1 hV dX10_leg_118 ?_
                    refine fn_iload_2 hV dX10_leg_119 ?_
                    refine fn_iload_3 hV dX10_leg_120 ?_
                    refine fn_iload_4 hV dX10_leg_121 ?_
                    refine fn_iload_5 hV dX10_leg_123 ?_
                    refine fn_iload_6 hV dX10_leg_125 ?_
                    refine fn_cV6 hV (c_X3_add E _ L hK (by omega) _ _ _ _ _ _) mv_X3_add lk_X10_284 dX10_leg_127 sh_36 rfl ⟨rfl, rfl⟩ rfl ?_
                    exact fn_iret hR dX10_leg_130 (fnQI.mk ⟨by unfold S_leg; rw [if_neg (by omega), hL, if_neg (by omega), if_neg (by omega)], by rw [show U_leg μ d r g m o s = fnUp (fnUp (fnUp (fnUp (fnUp (fnUp (fnUp μ 16 (μ 0 18) d) 17 (μ 0 18) r) 18 (μ 0 18) g) 19 (μ 0 18) m) 20 (μ 0 18) o) 21 (μ 0 18) s) 0 18 (μ 0 18 + 1) from by unfold U_leg; exact if_pos (by rw [hL]; omega)]; exact zCR_leg hC hL d r g m o s, fun j hj => by rw [fnUp_ne _ _ _ (by omega), fnUp_ne _ _ _ (by omega), fnUp_ne _ _ _ (by omega), fnUp_ne _ _ _ (by omega), fnUp_ne _ _ _ (by omega), fnUp_ne _ _ _ (by omega), fnUp_ne _ _ _ (by omega)]⟩)
                  · refine fn_sipush hV dX10_leg_110 rfl ?_
                    exact fn_iret hR dX10_leg_113 (zXP.rfU hC (by unfold S_leg; rw [if_neg (by omega), hL, if_neg (by omega), if_pos (by omega)]) (by unfold U_leg; rw [hL]; exact if_neg (by omega)))
                · refine fn_sipush hV dX10_leg_94 rfl ?_
                  exact fn_iret hR dX10_leg_97 (zXP.rfU hC (by unfold S_leg; rw [if_neg (by omega), hL, if_pos (by omega)]) (by unfold U_leg; rw [hL]; exact if_neg (by omega)))
              · refine fn_sipush hV dX10_leg_79 rfl ?_
                exact fn_iret hR dX10_leg_82 (zXP.rfU hC (by unfold S_leg; rw [if_pos (by omega)]) (by unfold U_leg; exact if_neg (by omega)))
          · refine fn_iload_5 hV dX10_leg_45 ?_
            refine fn_cS1 hV (c_X10_isReading E _ _ (by omega)) ms_X10_isReading lk_X10_83 dX10_leg_47 ⟨rfl, rfl⟩ rfl ?_
            refine fn_ifneb hV dX10_leg_50 (fun q50 => ?_) (fun q50 => ?_)
            · refine fn_iload_6 hV dX10_leg_57 ?_
              refine fn_sipush hV dX10_leg_59 rfl ?_
              refine fn_icmp_eq hV (by omega) (by omega) dX10_leg_62 (fun q62 => ?_) (fun q62 => ?_)
              · obtain ⟨L, hL, hL4⟩ := hW.L
                have hK := hC.kLg hW hL
                obtain ⟨v1, v2, v3, v4, v5, v6, v7, v8⟩ := hC.2.2.2.2.2
                obtain ⟨x1, x2, x3, x4, x5, x6, x7, x8⟩ := hW.2.2.2.2.2
                have hj : (if L = 0 then (0 : Int) else σ 37 ((L : Int) - 1)) = if L = 0 then 0 else μ 16 ((L : Int) - 1) := by
                  split
                  · rfl
                  · exact v2 _ (by omega) (by omega)
                have hj2 : 0 < L → 0 ≤ μ 16 ((L : Int) - 1) ∧ μ 16 ((L : Int) - 1) ≤ 999 := fun h0 => x2 _ (by omega) (by omega)
                refine fn_iload_1 hV dX10_leg_83 ?_
                refine fn_aload_0 hV dX10_leg_84 ?_
                refine fn_getR hV dX10_leg_85 fl_X10_52 fr_0_6 ?_
                refine fn_cV0 hV (c_X3_lastDay E _ L hK) mv_X3_lastDay lk_X10_280 dX10_leg_88 sh_36 rfl ⟨rfl, rfl⟩ rfl ?_
                rw [hj]
                have hj3 : (L = 0 ∧ (if L = 0 then (0 : Int) else μ 16 ((L : Int) - 1)) = 0) ∨ (0 < L ∧ (if L = 0 then (0 : Int) else μ 16 ((L : Int) - 1)) = μ 16 ((L : Int) - 1)) := by
                  split <;> omega
                refine fn_icmp_ge hV (by omega) (by omega) dX10_leg_91 (fun q91 => ?_) (fun q91 => ?_)
                · refine fn_aload_0 hV dX10_leg_98 ?_
                  refine fn_getR hV dX10_leg_99 fl_X10_52 fr_0_6 ?_
                  refine fn_getIz hV 6 dX10_leg_102 fl_X10_283 fi_36_6 rfl ?_
                  refine fn_bipush hV dX10_leg_105 rfl ?_
                  refine fn_icmp_lt hV (by omega) (by omega) dX10_leg_107 (fun q107 => ?_) (fun q107 => ?_)
                  · refine fn_aload_0 hV dX10_leg_114 ?_
                    refine fn_getR hV dX10_leg_115 fl_X10_52 fr_0_6 ?_
                    refine fn_iload_1 hV dX10_leg_118 ?_
                    refine fn_iload_2 hV dX10_leg_119 ?_
                    refine fn_iload_3 hV dX10_leg_120 ?_
                    refine fn_iload_4 hV dX10_leg_121 ?_
                    refine fn_iload_5 hV dX10_leg_123 ?_
                    refine fn_iload_6 hV dX10_leg_125 ?_
                    refine fn_cV6 hV (c_X3_add E _ L hK (by omega) _ _ _ _ _ _) mv_X3_add lk_X10_284 dX10_leg_127 sh_36 rfl ⟨rfl, rfl⟩ rfl ?_
                    exact fn_iret hR dX10_leg_130 (fnQI.mk ⟨by unfold S_leg; rw [if_neg (by omega), hL, if_neg (by omega), if_neg (by omega)], by rw [show U_leg μ d r g m o s = fnUp (fnUp (fnUp (fnUp (fnUp (fnUp (fnUp μ 16 (μ 0 18) d) 17 (μ 0 18) r) 18 (μ 0 18) g) 19 (μ 0 18) m) 20 (μ 0 18) o) 21 (μ 0 18) s) 0 18 (μ 0 18 + 1) from by unfold U_leg; exact if_pos (by rw [hL]; omega)]; exact zCR_leg hC hL d r g m o s, fun j hj => by rw [fnUp_ne _ _ _ (by omega), fnUp_ne _ _ _ (by omega), fnUp_ne _ _ _ (by omega), fnUp_ne _ _ _ (by omega), fnUp_ne _ _ _ (by omega), fnUp_ne _ _ _ (by omega), fnUp_ne _ _ _ (by omega)]⟩)
                  · refine fn_sipush hV dX10_leg_110 rfl ?_
                    exact fn_iret hR dX10_leg_113 (zXP.rfU hC (by unfold S_leg; rw [if_neg (by omega), hL, if_neg (by omega), if_pos (by omega)]) (by unfold U_leg; rw [hL]; exact if_neg (by omega)))
                · refine fn_sipush hV dX10_leg_94 rfl ?_
                  exact fn_iret hR dX10_leg_97 (zXP.rfU hC (by unfold S_leg; rw [if_neg (by omega), hL, if_pos (by omega)]) (by unfold U_leg; rw [hL]; exact if_neg (by omega)))
              · refine fn_iload_6 hV dX10_leg_65 ?_
                refine fn_sipush hV dX10_leg_67 rfl ?_
                refine fn_sipush hV dX10_leg_70 rfl ?_
                refine fn_cS3 hV (c_X10_within E _ _ _ _ (by omega) (by omega) (by omega)) ms_X10_within lk_X10_106 dX10_leg_73 ⟨rfl, rfl⟩ rfl ?_
                refine fn_ifneb hV dX10_leg_76 (fun q76 => ?_) (fun q76 => ?_)
                · obtain ⟨L, hL, hL4⟩ := hW.L
                  have hK := hC.kLg hW hL
                  obtain ⟨v1, v2, v3, v4, v5, v6, v7, v8⟩ := hC.2.2.2.2.2
                  obtain ⟨x1, x2, x3, x4, x5, x6, x7, x8⟩ := hW.2.2.2.2.2
                  have hj : (if L = 0 then (0 : Int) else σ 37 ((L : Int) - 1)) = if L = 0 then 0 else μ 16 ((L : Int) - 1) := by
                    split
                    · rfl
                    · exact v2 _ (by omega) (by omega)
                  have hj2 : 0 < L → 0 ≤ μ 16 ((L : Int) - 1) ∧ μ 16 ((L : Int) - 1) ≤ 999 := fun h0 => x2 _ (by omega) (by omega)
                  refine fn_iload_1 hV dX10_leg_83 ?_
                  refine fn_aload_0 hV dX10_leg_84 ?_
                  refine fn_getR hV dX10_leg_85 fl_X10_52 fr_0_6 ?_
                  refine fn_cV0 hV (c_X3_lastDay E _ L hK) mv_X3_lastDay lk_X10_280 dX10_leg_88 sh_36 rfl ⟨rfl, rfl⟩ rfl ?_
                  rw [hj]
                  have hj3 : (L = 0 ∧ (if L = 0 then (0 : Int) else μ 16 ((L : Int) - 1)) = 0) ∨ (0 < L ∧ (if L = 0 then (0 : Int) else μ 16 ((L : Int) - 1)) = μ 16 ((L : Int) - 1)) := by
                    split <;> omega
                  refine fn_icmp_ge hV (by omega) (by omega) dX10_leg_91 (fun q91 => ?_) (fun q91 => ?_)
                  · refine fn_aload_0 hV dX10_leg_98 ?_
                    refine fn_getR hV dX10_leg_99 fl_X10_52 fr_0_6 ?_
                    refine fn_getIz hV 6 dX10_leg_102 fl_X10_283 fi_36_6 rfl ?_
                    refine fn_bipush hV dX10_leg_105 rfl ?_
                    refine fn_icmp_lt hV (by omega) (by omega) dX10_leg_107 (fun q107 => ?_) (fun q107 => ?_)
                    · refine fn_aload_0 hV dX10_leg_114 ?_
                      refine fn_getR hV dX10_leg_115 fl_X10_52 fr_0_6 ?_
                      refine fn_iload_1 hV dX10_leg_118 ?_
                      refine fn_iload_2 hV dX10_leg_119 ?_
                      refine fn_iload_3 hV dX10_leg_120 ?_
                      refine fn_iload_4 hV dX10_leg_121 ?_
                      refine fn_iload_5 hV dX10_leg_123 ?_
                      refine fn_iload_6 hV dX10_leg_125 ?_
                      refine fn_cV6 hV (c_X3_add E _ L hK (by omega) _ _ _ _ _ _) mv_X3_add lk_X10_284 dX10_leg_127 sh_36 rfl ⟨rfl, rfl⟩ rfl ?_
                      exact fn_iret hR dX10_leg_130 (fnQI.mk ⟨by unfold S_leg; rw [if_neg (by omega), hL, if_neg (by omega), if_neg (by omega)], by rw [show U_leg μ d r g m o s = fnUp (fnUp (fnUp (fnUp (fnUp (fnUp (fnUp μ 16 (μ 0 18) d) 17 (μ 0 18) r) 18 (μ 0 18) g) 19 (μ 0 18) m) 20 (μ 0 18) o) 21 (μ 0 18) s) 0 18 (μ 0 18 + 1) from by unfold U_leg; exact if_pos (by rw [hL]; omega)]; exact zCR_leg hC hL d r g m o s, fun j hj => by rw [fnUp_ne _ _ _ (by omega), fnUp_ne _ _ _ (by omega), fnUp_ne _ _ _ (by omega), fnUp_ne _ _ _ (by omega), fnUp_ne _ _ _ (by omega), fnUp_ne _ _ _ (by omega), fnUp_ne _ _ _ (by omega)]⟩)
                    · refine fn_sipush hV dX10_leg_110 rfl ?_
                      exact fn_iret hR dX10_leg_113 (zXP.rfU hC (by unfold S_leg; rw [if_neg (by omega), hL, if_neg (by omega), if_pos (by omega)]) (by unfold U_leg; rw [hL]; exact if_neg (by omega)))
                  · refine fn_sipush hV dX10_leg_94 rfl ?_
                    exact fn_iret hR dX10_leg_97 (zXP.rfU hC (by unfold S_leg; rw [if_neg (by omega), hL, if_pos (by omega)]) (by unfold U_leg; rw [hL]; exact if_neg (by omega)))
                · refine fn_sipush hV dX10_leg_79 rfl ?_
                  exact fn_iret hR dX10_leg_82 (zXP.rfU hC (by unfold S_leg; rw [if_pos (by omega)]) (by unfold U_leg; exact if_neg (by omega)))
            · refine fn_sipush hV dX10_leg_53 rfl ?_
              exact fn_iret hR dX10_leg_56 (zXP.rfU hC (by unfold S_leg; rw [if_pos (by omega)]) (by unfold U_leg; exact if_neg (by omega)))
        · refine fn_sipush hV dX10_leg_33 rfl ?_
          exact fn_iret hR dX10_leg_36 (zXP.rfU hC (by unfold S_leg; rw [if_pos (by omega)]) (by unfold U_leg; exact if_neg (by omega)))

set_option maxHeartbeats 4000000 in
set_option maxRecDepth 20000 in
theorem c_X10_courseOf (E : fnE) (σ μ : fnMem) (hC : zCR σ μ) (hW : zWF μ) (l : Int) (hl : 0 ≤ l ∧ l < μ 0 18)  : fnOk E mX10_courseOf [.ref 0, zI l] σ (fnQI (fun z s => z = zcrs μ l ∧ fnFr [10] σ s)) := by
  refine fnOk.of [.ref 0, zI l] rfl (by decide +kernel) rfl (fun V hV hR => ?_)
  replace hV : fnCx E RX10 cX10_courseOf 2 5 118 V := hV
  replace hR : fnRt cX10_courseOf (some .int) _ V := hR
  obtain ⟨v1, v2, v3, v4, v5, v6, v7, v8⟩ := hC.2.2.2.2.2
  obtain ⟨x1, x2, x3, x4, x5, x6, x7, x8⟩ := hW.2.2.2.2.2
  have y2 := v2 l (by omega) (by omega)
  have y3 := v3 l (by omega) (by omega)
  have y4 := v4 l (by omega) (by omega)
  have y5 := v5 l (by omega) (by omega)
  have y6 := v6 l (by omega) (by omega)
  have y7 := v7 l (by omega) (by omega)
  have z2 := x2 l (by omega) (by omega)
  have z3 := x3 l (by omega) (by omega)
  have z4 := x4 l (by omega) (by omega)
  have z5 := x5 l (by omega) (by omega)
  have z6 := x6 l (by omega) (by omega)
  have z7 := x7 l (by omega) (by omega)
  refine fn_aload_0 hV dX10_courseOf_0 ?_
  refine fn_aload_0 hV dX10_courseOf_1 ?_
  refine fn_getR hV dX10_courseOf_2 fl_X10_52 fr_0_6 ?_
  refine fn_getR hV dX10_courseOf_5 fl_X10_291 fr_36_0 ?_
  refine fn_iload_1 hV dX10_courseOf_8 ?_
  refine fn_iald hV dX10_courseOf_9 ar_37 (by omega) (by omega) ?_
  refine fn_cV1R hV (c_X10_cardOfDay E _ μ hC hW _ (by omega)) mv_X10_cardOfDay lk_X10_276 dX10_courseOf_10 sh_0 rfl ⟨rfl, rfl⟩ rfl (fun σ1 hp => ?_)
  obtain ⟨lF, lv⟩ := hp
  have hP3 : ∀ j, 0 ≤ j → j < 6 → -32000 ≤ σ1 (7 + 3) j ∧ σ1 (7 + 3) j ≤ 32000 := fun j j0 j1 => by
    rw [show σ1 (7 + 3) j = zasof μ (σ 37 l) j from lv j j0 j1]
    have := zasof_le hW (σ 37 l) j0 j1
    omega
  have hfe : (fun x => zer (σ1 (7 + 3)) x (μ 18 l)) = fun x => zer (zasof μ (μ 16 l)) x (μ 18 l) := funext fun x => zer_congr (fun j j0 j1 => by rw [← y2]; exact lv j j0 j1) x _
  have e38 : σ1 38 l = μ 17 l := by rw [lF 38 (by decide)]; exact y3
  have e39 : σ1 39 l = μ 18 l := by rw [lF 39 (by decide)]; exact y4
  have e42 : σ1 42 l = μ 21 l := by rw [lF 42 (by decide)]; exact y7
  refine fn_aload_0 hV dX10_courseOf_13 ?_
  refine fn_getR hV dX10_courseOf_14 fl_X10_52 fr_0_6 ?_
  refine fn_getR hV dX10_courseOf_17 fl_X10_294 fr_36_1 ?_
  refine fn_iload_1 hV dX10_courseOf_20 ?_
  refine fn_iald hV dX10_courseOf_21 ar_38 (by omega) (by omega) ?_
  refine fn_aload_0 hV dX10_courseOf_22 ?_
  refine fn_getR hV dX10_courseOf_23 fl_X10_52 fr_0_6 ?_
  refine fn_getR hV dX10_courseOf_26 fl_X10_297 fr_36_2 ?_
  refine fn_iload_1 hV dX10_courseOf_29 ?_
  refine fn_iald hV dX10_courseOf_30 ar_39 (by omega) (by omega) ?_
  refine fn_cV2 hV (c_X0_trueOfReading E _ 3 (by decide) hP3 _ _ (by omega) (by omega)) mv_X0_trueOfReading lk_X10_125 dX10_courseOf_31 sh_6 rfl ⟨rfl, rfl⟩ rfl ?_
  exact fn_iret hR dX10_courseOf_34 (fnQI.mk ⟨by rw [e38, e39, hfe]; rfl, lF⟩)

set_option maxHeartbeats 4000000 in
set_option maxRecDepth 20000 in
theorem c_X10_sunRestOf (E : fnE) (σ μ : fnMem) (hC : zCR σ μ) (hW : zWF μ) (l : Int) (hl : 0 ≤ l ∧ l < μ 0 18)  : fnOk E mX10_sunRestOf [.ref 0, zI l] σ (fnQI (fun z s => z = zsrs μ l ∧ fnFr [10] σ s)) := by
  refine fnOk.of [.ref 0, zI l, .null] rfl (by decide +kernel) rfl (fun V hV hR => ?_)
  replace hV : fnCx E RX10 cX10_sunRestOf 3 4 96 V := hV
  replace hR : fnRt cX10_sunRestOf (some .int) _ V := hR
  obtain ⟨v1, v2, v3, v4, v5, v6, v7, v8⟩ := hC.2.2.2.2.2
  obtain ⟨x1, x2, x3, x4, x5, x6, x7, x8⟩ := hW.2.2.2.2.2
  have y2 := v2 l (by omega) (by omega)
  have y3 := v3 l (by omega) (by omega)
  have y4 := v4 l (by omega) (by omega)
  have y5 := v5 l (by omega) (by omega)
  have y6 := v6 l (by omega) (by omega)
  have y7 := v7 l (by omega) (by omega)
  have z2 := x2 l (by omega) (by omega)
  have z3 := x3 l (by omega) (by omega)
  have z4 := x4 l (by omega) (by omega)
  have z5 := x5 l (by omega) (by omega)
  have z6 := x6 l (by omega) (by omega)
  have z7 := x7 l (by omega) (by omega)
  refine fn_aload_0 hV dX10_sunRestOf_0 ?_
  refine fn_aload_0 hV dX10_sunRestOf_1 ?_
  refine fn_getR hV dX10_sunRestOf_2 fl_X10_52 fr_0_6 ?_
  refine fn_getR hV dX10_sunRestOf_5 fl_X10_291 fr_36_0 ?_
  refine fn_iload_1 hV dX10_sunRestOf_8 ?_
  refine fn_iald hV dX10_sunRestOf_9 ar_37 (by omega) (by omega) ?_
  refine fn_cV1R hV (c_X10_cardOfDay E _ μ hC hW _ (by omega)) mv_X10_cardOfDay lk_X10_276 dX10_sunRestOf_10 sh_0 rfl ⟨rfl, rfl⟩ rfl (fun σ1 hp => ?_)
  obtain ⟨lF, lv⟩ := hp
  have hP3 : ∀ j, 0 ≤ j → j < 6 → -32000 ≤ σ1 (7 + 3) j ∧ σ1 (7 + 3) j ≤ 32000 := fun j j0 j1 => by
    rw [show σ1 (7 + 3) j = zasof μ (σ 37 l) j from lv j j0 j1]
    have := zasof_le hW (σ 37 l) j0 j1
    omega
  have hfe : (fun x => zer (σ1 (7 + 3)) x (μ 18 l)) = fun x => zer (zasof μ (μ 16 l)) x (μ 18 l) := funext fun x => zer_congr (fun j j0 j1 => by rw [← y2]; exact lv j j0 j1) x _
  have e38 : σ1 38 l = μ 17 l := by rw [lF 38 (by decide)]; exact y3
  have e39 : σ1 39 l = μ 18 l := by rw [lF 39 (by decide)]; exact y4
  have e42 : σ1 42 l = μ 21 l := by rw [lF 42 (by decide)]; exact y7
  refine fn_astore_2 hV dX10_sunRestOf_13 rfl rfl ?_
  refine fn_aload_0 hV dX10_sunRestOf_14 ?_
  refine fn_getR hV dX10_sunRestOf_15 fl_X10_52 fr_0_6 ?_
  refine fn_getR hV dX10_sunRestOf_18 fl_X10_306 fr_36_5 ?_
  refine fn_iload_1 hV dX10_sunRestOf_21 ?_
  refine fn_iald hV dX10_sunRestOf_22 ar_42 (by omega) (by omega) ?_
  refine fn_aload_2 hV dX10_sunRestOf_23 ?_
  refine fn_aload_0 hV dX10_sunRestOf_24 ?_
  refine fn_getR hV dX10_sunRestOf_25 fl_X10_52 fr_0_6 ?_
  refine fn_getR hV dX10_sunRestOf_28 fl_X10_294 fr_36_1 ?_
  refine fn_iload_1 hV dX10_sunRestOf_31 ?_
  refine fn_iald hV dX10_sunRestOf_32 ar_38 (by omega) (by omega) ?_
  refine fn_aload_0 hV dX10_sunRestOf_33 ?_
  refine fn_getR hV dX10_sunRestOf_34 fl_X10_52 fr_0_6 ?_
  refine fn_getR hV dX10_sunRestOf_37 fl_X10_297 fr_36_2 ?_
  refine fn_iload_1 hV dX10_sunRestOf_40 ?_
  refine fn_iald hV dX10_sunRestOf_41 ar_39 (by omega) (by omega) ?_
  refine fn_cV2 hV (c_X0_errorOfReading E _ 3 (by decide) hP3 _ _ (by omega) (by omega)) mv_X0_errorOfReading lk_X10_122 dX10_sunRestOf_42 sh_6 rfl ⟨rfl, rfl⟩ rfl ?_
  refine fn_isub hV dX10_sunRestOf_45 ?_
  exact fn_iret hR dX10_sunRestOf_46 (fnQI.mk ⟨by rw [e38, e39, e42, hfe]; rfl, lF⟩)

set_option maxHeartbeats 4000000 in
set_option maxRecDepth 20000 in
theorem c_X10_trueByOther (E : fnE) (σ μ : fnMem) (hC : zCR σ μ) (hW : zWF μ) (l : Int) (hl : 0 ≤ l ∧ l < μ 0 18) (ho : μ 20 l ≠ -2009) : fnOk E mX10_trueByOther [.ref 0, zI l] σ (fnIs (some (zI (zoth μ l))) σ) := by
  refine fnOk.of [.ref 0, zI l] rfl (by decide +kernel) rfl (fun V hV hR => ?_)
  replace hV : fnCx E RX10 cX10_trueByOther 2 5 118 V := hV
  replace hR : fnRt cX10_trueByOther (some .int) _ V := hR
  obtain ⟨v1, v2, v3, v4, v5, v6, v7, v8⟩ := hC.2.2.2.2.2
  obtain ⟨x1, x2, x3, x4, x5, x6, x7, x8⟩ := hW.2.2.2.2.2
  have y2 := v2 l (by omega) (by omega)
  have y3 := v3 l (by omega) (by omega)
  have y4 := v4 l (by omega) (by omega)
  have y5 := v5 l (by omega) (by omega)
  have y6 := v6 l (by omega) (by omega)
  have y7 := v7 l (by omega) (by omega)
  have z2 := x2 l (by omega) (by omega)
  have z3 := x3 l (by omega) (by omega)
  have z4 := x4 l (by omega) (by omega)
  have z5 := x5 l (by omega) (by omega)
  have z6 := x6 l (by omega) (by omega)
  have z7 := x7 l (by omega) (by omega)
  refine fn_aload_0 hV dX10_trueByOther_0 ?_
  refine fn_getR hV dX10_trueByOther_1 fl_X10_11 fr_0_0 ?_
  refine fn_iconst hV dX10_trueByOther_4 ?_
  refine fn_aaldC hV 1 dX10_trueByOther_5 (by decide) rfl ?_
  refine fn_aload_0 hV dX10_trueByOther_6 ?_
  refine fn_getR hV dX10_trueByOther_7 fl_X10_52 fr_0_6 ?_
  refine fn_getR hV dX10_trueByOther_10 fl_X10_303 fr_36_4 ?_
  refine fn_iload_1 hV dX10_trueByOther_13 ?_
  refine fn_iald hV dX10_trueByOther_14 ar_41 (by omega) (by omega) ?_
  refine fn_aload_0 hV dX10_trueByOther_15 ?_
  refine fn_getR hV dX10_trueByOther_16 fl_X10_52 fr_0_6 ?_
  refine fn_getR hV dX10_trueByOther_19 fl_X10_297 fr_36_2 ?_
  refine fn_iload_1 hV dX10_trueByOther_22 ?_
  refine fn_iald hV dX10_trueByOther_23 ar_39 (by omega) (by omega) ?_
  refine fn_cV2 hV (c_X0_trueOfReading E _ 1 (by decide) (hC.hP hW (c := 1) (by decide)) _ _ (by omega) (by omega)) mv_X0_trueOfReading lk_X10_125 dX10_trueByOther_24 sh_4 rfl ⟨rfl, rfl⟩ rfl ?_
  exact fn_iret hR dX10_trueByOther_27 (fnIs.i (by rw [y4, y6, hC.erf (c := 1) (by decide)]; rfl))

set_option maxHeartbeats 4000000 in
set_option maxRecDepth 20000 in
theorem c_X10_waysApart (E : fnE) (σ μ : fnMem) (hC : zCR σ μ) (hW : zWF μ) (l : Int) (hl : 0 ≤ l ∧ l < μ 0 18) (ho : μ 20 l ≠ -2009) : fnOk E mX10_waysApart [.ref 0, zI l] σ (fnQI (fun z s => z = zapw μ l ∧ fnFr [10] σ s)) := by
  refine fnOk.of [.ref 0, zI l] rfl (by decide +kernel) rfl (fun V hV hR => ?_)
  replace hV : fnCx E RX10 cX10_waysApart 2 6 139 V := hV
  replace hR : fnRt cX10_waysApart (some .int) _ V := hR
  refine fn_aload_0 hV dX10_waysApart_0 ?_
  refine fn_iload_1 hV dX10_waysApart_1 ?_
  refine fn_cV1I hV (c_X10_courseOf E _ μ hC hW _ (by omega)) mv_X10_courseOf lk_X10_309 dX10_waysApart_2 sh_0 rfl ⟨rfl, rfl⟩ rfl (fun z σ1 hp => ?_)
  obtain ⟨rfl, cF⟩ := hp
  have hC1 : zCR σ1 μ := zCR_fr hC (cF.mono (by decide))
  have w1 := zcrs_in μ l
  have w2 := zoth_in μ l
  refine fn_aload_0 hV dX10_waysApart_5 ?_
  refine fn_iload_1 hV dX10_waysApart_6 ?_
  refine fn_cV1 hV (c_X10_trueByOther E _ μ hC1 hW _ (by omega) ho) mv_X10_trueByOther lk_X10_341 dX10_waysApart_7 sh_0 rfl ⟨rfl, rfl⟩ rfl ?_
  refine fn_cS2 hV (c_X8_wayFrom E _ _ _ (by omega) (by omega)) ms_X8_wayFrom lk_X10_96 dX10_waysApart_10 ⟨rfl, rfl⟩ rfl ?_
  exact fn_iret hR dX10_waysApart_13 (fnQI.mk ⟨rfl, cF⟩)

set_option maxHeartbeats 4000000 in
set_option maxRecDepth 20000 in
theorem c_X10_about (E : fnE) (σ μ : fnMem) (hC : zCR σ μ) (hW : zWF μ) (l : Int) (h_l : fnR l) (w : Int) (h_w : fnR w) : fnOk E mX10_about [.ref 0, zI l, zI w] σ (fnQI (zXP (S_about μ l w) (μ) σ)) := by
  refine fnOk.of [.ref 0, zI l, zI w] rfl (by decide +kernel) rfl (fun V hV hR => ?_)
  replace hV : fnCx E RX10 cX10_about 3 7 160 V := hV
  replace hR : fnRt cX10_about (some .int) _ V := hR
  obtain ⟨v1, v2, v3, v4, v5, v6, v7, v8⟩ := hC.2.2.2.2.2
  obtain ⟨x1, x2, x3, x4, x5, x6, x7, x8⟩ := hW.2.2.2.2.2
  refine fn_aload_0 hV dX10_about_0 ?_
  refine fn_iload_1 hV dX10_about_1 ?_
  refine fn_cV1 hV (c_X10_isLeg E _ _ (by omega) (by omega)) mv_X10_isLeg lk_X10_288 dX10_about_2 sh_0 rfl ⟨rfl, rfl⟩ rfl ?_
  refine fn_ifneb hV dX10_about_5 (fun q5 => ?_) (fun q5 => ?_)
  · have y2 := v2 l (by omega) (by omega)
    have y3 := v3 l (by omega) (by omega)
    have y4 := v4 l (by omega) (by omega)
    have y5 := v5 l (by omega) (by omega)
    have y6 := v6 l (by omega) (by omega)
    have y7 := v7 l (by omega) (by omega)
    have z2 := x2 l (by omega) (by omega)
    have z3 := x3 l (by omega) (by omega)
    have z4 := x4 l (by omega) (by omega)
    have z5 := x5 l (by omega) (by omega)
    have z6 := x6 l (by omega) (by omega)
    have z7 := x7 l (by omega) (by omega)
    refine fn_iload_2 hV dX10_about_12 ?_
    by_cases w13_0 : w = 0
    · refine fn_tswIn (tgt := 64) hV 0 dX10_about_13 (by omega) (by omega) (by omega) rfl (by decide) ?_
      refine fn_aload_0 hV dX10_about_64 ?_
      refine fn_getR hV dX10_about_65 fl_X10_52 fr_0_6 ?_
      refine fn_getR hV dX10_about_68 fl_X10_291 fr_36_0 ?_
      refine fn_iload_1 hV dX10_about_71 ?_
      refine fn_iald hV dX10_about_72 ar_37 (by omega) (by omega) ?_
      exact fn_iret hR dX10_about_73 (zXP.rf hC (by unfold S_about; rw [if_neg (by omega), if_pos (by omega)]; exact y2))
    by_cases w13_1 : w = 1
    · refine fn_tswIn (tgt := 74) hV 1 dX10_about_13 (by omega) (by omega) (by omega) rfl (by decide) ?_
      refine fn_aload_0 hV dX10_about_74 ?_
      refine fn_getR hV dX10_about_75 fl_X10_52 fr_0_6 ?_
      refine fn_getR hV dX10_about_78 fl_X10_294 fr_36_1 ?_
      refine fn_iload_1 hV dX10_about_81 ?_
      refine fn_iald hV dX10_about_82 ar_38 (by omega) (by omega) ?_
      exact fn_iret hR dX10_about_83 (zXP.rf hC (by unfold S_about; rw [if_neg (by omega), if_neg (by omega), if_pos (by omega)]; exact y3))
    by_cases w13_2 : w = 2
    · refine fn_tswIn (tgt := 84) hV 2 dX10_about_13 (by omega) (by omega) (by omega) rfl (by decide) ?_
      refine fn_aload_0 hV dX10_about_84 ?_
      refine fn_getR hV dX10_about_85 fl_X10_52 fr_0_6 ?_
      refine fn_getR hV dX10_about_88 fl_X10_297 fr_36_2 ?_
      refine fn_iload_1 hV dX10_about_91 ?_
      refine fn_iald hV dX10_about_92 ar_39 (by omega) (by omega) ?_
      exact fn_iret hR dX10_about_93 (zXP.rf hC (by unfold S_about; rw [if_neg (by omega), if_neg (by omega), if_neg (by omega), if_pos (by omega)]; exact y4))
    by_cases w13_3 : w = 3
    · refine fn_tswIn (tgt := 94) hV 3 dX10_about_13 (by omega) (by omega) (by omega) rfl (by decide) ?_
      refine fn_aload_0 hV dX10_about_94 ?_
      refine fn_getR hV dX10_about_95 fl_X10_52 fr_0_6 ?_
      refine fn_getR hV dX10_about_98 fl_X10_300 fr_36_3 ?_
      refine fn_iload_1 hV dX10_about_101 ?_
      refine fn_iald hV dX10_about_102 ar_40 (by omega) (by omega) ?_
      exact fn_iret hR dX10_about_103 (zXP.rf hC (by unfold S_about; rw [if_neg (by omega), if_neg (by omega), if_neg (by omega), if_neg (by omega), if_pos (by omega)]; exact y5))
    by_cases w13_4 : w = 4
    · refine fn_tswIn (tgt := 104) hV 4 dX10_about_13 (by omega) (by omega) (by omega) rfl (by decide) ?_
      refine fn_aload_0 hV dX10_about_104 ?_
      refine fn_getR hV dX10_about_105 fl_X10_52 fr_0_6 ?_
      refine fn_getR hV dX10_about_108 fl_X10_303 fr_36_4 ?_
      refine fn_iload_1 hV dX10_about_111 ?_
      refine fn_iald hV dX10_about_112 ar_41 (by omega) (by omega) ?_
      exact fn_iret hR dX10_about_113 (zXP.rf hC (by unfold S_about; rw [if_neg (by omega), if_neg (by omega), if_neg (by omega), if_neg (by omega), if_neg (by omega), if_pos (by omega)]; exact y6))
    by_cases w13_5 : w = 5
    · refine fn_tswIn (tgt := 114) hV 5 dX10_about_13 (by omega) (by omega) (by omega) rfl (by decide) ?_
      refine fn_aload_0 hV dX10_about_114 ?_
      refine fn_getR hV dX10_about_115 fl_X10_52 fr_0_6 ?_
      refine fn_getR hV dX10_about_118 fl_X10_306 fr_36_5 ?_
      refine fn_iload_1 hV dX10_about_121 ?_
      refine fn_iald hV dX10_about_122 ar_42 (by omega) (by omega) ?_
      exact fn_iret hR dX10_about_123 (zXP.rf hC (by unfold S_about; rw [if_neg (by omega), if_neg (by omega), if_neg (by omega), if_neg (by omega), if_neg (by omega), if_neg (by omega), if_pos (by omega)]; exact y7))
    by_cases w13_6 : w = 6
    · refine fn_tswIn (tgt := 124) hV 6 dX10_about_13 (by omega) (by omega) (by omega) rfl (by decide) ?_
      refine fn_aload_0 hV dX10_about_124 ?_
      refine fn_iload_1 hV dX10_about_125 ?_
      refine fn_cV1I hV (c_X10_courseOf E _ μ hC hW _ (by omega)) mv_X10_courseOf lk_X10_309 dX10_about_126 sh_0 rfl ⟨rfl, rfl⟩ rfl (fun z σ1 hp => ?_)
      obtain ⟨rfl, cF⟩ := hp
      exact fn_iret hR dX10_about_129 (zXP.fr hC (cF.mono (by decide)) (by unfold S_about; rw [if_neg (by omega), if_neg (by omega), if_neg (by omega), if_neg (by omega), if_neg (by omega), if_neg (by omega), if_neg (by omega), if_pos (by omega)]))
    by_cases w13_7 : w = 7
    · refine fn_tswIn (tgt := 130) hV 7 dX10_about_13 (by omega) (by omega) (by omega) rfl (by decide) ?_
      refine fn_aload_0 hV dX10_about_130 ?_
      refine fn_getR hV dX10_about_131 fl_X10_52 fr_0_6 ?_
      refine fn_getR hV dX10_about_134 fl_X10_306 fr_36_5 ?_
      refine fn_iload_1 hV dX10_about_137 ?_
      refine fn_iald hV dX10_about_138 ar_42 (by omega) (by omega) ?_
      refine fn_sipush hV dX10_about_139 rfl ?_
      refine fn_icmp_ne hV (by omega) (by omega) dX10_about_142 (fun q142 => ?_) (fun q142 => ?_)
      · refine fn_aload_0 hV dX10_about_151 ?_
        refine fn_iload_1 hV dX10_about_152 ?_
        refine fn_cV1I hV (c_X10_sunRestOf E _ μ hC hW _ (by omega)) mv_X10_sunRestOf lk_X10_312 dX10_about_153 sh_0 rfl ⟨rfl, rfl⟩ rfl (fun z σ1 hp => ?_)
        obtain ⟨rfl, cF⟩ := hp
        exact fn_iret hR dX10_about_156 (by first | exact zXP.rf hC (by unfold S_about; rw [if_neg (by omega), if_neg (by omega), if_neg (by omega), if_neg (by omega), if_neg (by omega), if_neg (by omega), if_neg (by omega), if_neg (by omega), if_pos (by omega)]; rw [if_pos (by omega)]) | exact zXP.fr hC (cF.mono (by decide)) (by unfold S_about; rw [if_neg (by omega), if_neg (by omega), if_neg (by omega), if_neg (by omega), if_neg (by omega), if_neg (by omega), if_neg (by omega), if_neg (by omega), if_pos (by omega)]; rw [if_neg (by omega)]))
      · refine fn_sipush hV dX10_about_145 rfl ?_
        refine fn_goto hV dX10_about_148 ?_
        exact fn_iret hR dX10_about_156 (by first | exact zXP.rf hC (by unfold S_about; rw [if_neg (by omega), if_neg (by omega), if_neg (by omega), if_neg (by omega), if_neg (by omega), if_neg (by omega), if_neg (by omega), if_neg (by omega), if_pos (by omega)]; rw [if_pos (by omega)]) | exact zXP.fr hC (cF.mono (by decide)) (by unfold S_about; rw [if_neg (by omega), if_neg (by omega), if_neg (by omega), if_neg (by omega), if_neg (by omega), if_neg (by omega), if_neg (by omega), if_neg (by omega), if_pos (by omega)]; rw [if_neg (by omega)]))
    by_cases w13_8 : w = 8
    · refine fn_tswIn (tgt := 157) hV 8 dX10_about_13 (by omega) (by omega) (by omega) rfl (by decide) ?_
      refine fn_aload_0 hV dX10_about_157 ?_
      refine fn_getR hV dX10_about_158 fl_X10_52 fr_0_6 ?_
      refine fn_getR hV dX10_about_161 fl_X10_303 fr_36_4 ?_
      refine fn_iload_1 hV dX10_about_164 ?_
      refine fn_iald hV dX10_about_165 ar_41 (by omega) (by omega) ?_
      refine fn_sipush hV dX10_about_166 rfl ?_
      refine fn_icmp_ne hV (by omega) (by omega) dX10_about_169 (fun q169 => ?_) (fun q169 => ?_)
      · refine fn_aload_0 hV dX10_about_178 ?_
        refine fn_iload_1 hV dX10_about_179 ?_
        refine fn_cV1I hV (c_X10_waysApart E _ μ hC hW _ (by omega) (by omega)) mv_X10_waysApart lk_X10_315 dX10_about_180 sh_0 rfl ⟨rfl, rfl⟩ rfl (fun z σ1 hp => ?_)
        obtain ⟨rfl, cF⟩ := hp
        exact fn_iret hR dX10_about_183 (by first | exact zXP.rf hC (by unfold S_about; rw [if_neg (by omega), if_neg (by omega), if_neg (by omega), if_neg (by omega), if_neg (by omega), if_neg (by omega), if_neg (by omega), if_neg (by omega), if_neg (by omega), if_pos (by omega)]; rw [if_pos (by omega)]) | exact zXP.fr hC (cF.mono (by decide)) (by unfold S_about; rw [if_neg (by omega), if_neg (by omega), if_neg (by omega), if_neg (by omega), if_neg (by omega), if_neg (by omega), if_neg (by omega), if_neg (by omega), if_neg (by omega), if_pos (by omega)]; rw [if_neg (by omega)]))
      · refine fn_sipush hV dX10_about_172 rfl ?_
        refine fn_goto hV dX10_about_175 ?_
        exact fn_iret hR dX10_about_183 (by first | exact zXP.rf hC (by unfold S_about; rw [if_neg (by omega), if_neg (by omega), if_neg (by omega), if_neg (by omega), if_neg (by omega), if_neg (by omega), if_neg (by omega), if_neg (by omega), if_neg (by omega), if_pos (by omega)]; rw [if_pos (by omega)]) | exact zXP.fr hC (cF.mono (by decide)) (by unfold S_about; rw [if_neg (by omega), if_neg (by omega), if_neg (by omega), if_neg (by omega), if_neg (by omega), if_neg (by omega), if_neg (by omega), if_neg (by omega), if_neg (by omega), if_pos (by omega)]; rw [if_neg (by omega)]))
    refine fn_tswOut (tgt := 184) hV dX10_about_13 (by omega) (by omega) (by decide) ?_
    refine fn_sipush hV dX10_about_184 rfl ?_
    exact fn_iret hR dX10_about_187 (zXP.rf hC (by unfold S_about; rw [if_neg (by omega), if_neg (by omega), if_neg (by omega), if_neg (by omega), if_neg (by omega), if_neg (by omega), if_neg (by omega), if_neg (by omega), if_neg (by omega), if_neg (by omega)]))
  · refine fn_sipush hV dX10_about_8 rfl ?_
    exact fn_iret hR dX10_about_11 (zXP.rf hC (by unfold S_about; rw [if_pos (by omega)]))

set_option maxHeartbeats 4000000 in
set_option maxRecDepth 20000 in
theorem c_X10_home (E : fnE) (σ μ : fnMem) (hC : zCR σ μ) (hW : zWF μ)  : fnOk E mX10_home [.ref 0] σ (fnQI (zXP (μ 0 18) (U_home μ) σ)) := by
  refine fnOk.of [.ref 0, .null] rfl (by decide +kernel) rfl (fun V hV hR => ?_)
  replace hV : fnCx E RX10 cX10_home 2 0 0 V := hV
  replace hR : fnRt cX10_home (some .int) _ V := hR
  obtain ⟨v1, v2, v3, v4, v5, v6, v7, v8⟩ := hC.2.2.2.2.2
  obtain ⟨x1, x2, x3, x4, x5, x6, x7, x8⟩ := hW.2.2.2.2.2
  refine fn_aload_0 hV dX10_home_0 ?_
  refine fn_getR hV dX10_home_1 fl_X10_52 fr_0_6 ?_
  refine fn_getIz hV 6 dX10_home_4 fl_X10_283 fi_36_6 rfl ?_
  refine fn_istore_1 hV dX10_home_7 rfl rfl ?_
  refine fn_aload_0 hV dX10_home_8 ?_
  refine fn_getR hV dX10_home_9 fl_X10_52 fr_0_6 ?_
  refine fn_iconst hV dX10_home_12 ?_
  refine fn_putIz hV 6 dX10_home_13 fp_X10_283 fi_36_6 rfl ?_
  refine fn_iload_1 hV dX10_home_16 ?_
  exact fn_iret hR dX10_home_17 (fnQI.mk ⟨v1, zCR_home hC, fun j hj => fnUp_ne _ _ _ (by omega)⟩)

set_option maxHeartbeats 4000000 in
set_option maxRecDepth 20000 in
theorem c_X10_worked (E : fnE) (σ μ : fnMem) (hC : zCR σ μ) (hW : zWF μ) (n : Int) (h_n : fnR n) (d : Int) (h_d : fnR d) (s : Int) (h_s : fnR s) (e : Int) (h_e : e = 0 ∨ e = 1) : fnOk E mX10_worked [.ref 0, zI n, zI d, zI s, zI e] σ (fnQI (zXP (S_worked μ n d s e) (μ) σ)) := by
  refine fnOk.of [.ref 0, zI n, zI d, zI s, zI e, .null, .null, .null, .null] rfl (by decide +kernel) rfl (fun V hV hR => ?_)
  replace hV : fnCx E RX10 cX10_worked 9 6 139 V := hV
  replace hR : fnRt cX10_worked (some .int) _ V := hR
  obtain ⟨v1, v2, v3, v4, v5, v6, v7, v8⟩ := hC.2.2.2.2.2
  obtain ⟨x1, x2, x3, x4, x5, x6, x7, x8⟩ := hW.2.2.2.2.2
  refine fn_iload_1 hV dX10_worked_0 ?_
  refine fn_iconst hV dX10_worked_1 ?_
  refine fn_aload_0 hV dX10_worked_2 ?_
  refine fn_getR hV dX10_worked_3 fl_X10_52 fr_0_6 ?_
  refine fn_getIz hV 6 dX10_worked_6 fl_X10_283 fi_36_6 rfl ?_
  refine fn_cS3 hV (c_X10_within E _ _ _ _ (by omega) (by omega) (by omega)) ms_X10_within lk_X10_106 dX10_worked_9 ⟨rfl, rfl⟩ rfl ?_
  refine fn_ifneb hV dX10_worked_12 (fun q12 => ?_) (fun q12 => ?_)
  · refine fn_iload_2 hV dX10_worked_19 ?_
    refine fn_iconst hV dX10_worked_20 ?_
    refine fn_sipush hV dX10_worked_21 rfl ?_
    refine fn_cS3 hV (c_X10_within E _ _ _ _ (by omega) (by omega) (by omega)) ms_X10_within lk_X10_106 dX10_worked_24 ⟨rfl, rfl⟩ rfl ?_
    refine fn_ifeqb hV dX10_worked_27 (fun q27 => ?_) (fun q27 => ?_)
    · refine fn_sipush hV dX10_worked_43 rfl ?_
      exact fn_iret hR dX10_worked_46 (zXP.rf hC (by unfold S_worked; (repeat' split) <;> first | rfl | omega))
    · refine fn_iload_3 hV dX10_worked_30 ?_
      refine fn_sipush hV dX10_worked_31 rfl ?_
      refine fn_sipush hV dX10_worked_34 rfl ?_
      refine fn_cS3 hV (c_X10_within E _ _ _ _ (by omega) (by omega) (by omega)) ms_X10_within lk_X10_106 dX10_worked_37 ⟨rfl, rfl⟩ rfl ?_
      refine fn_ifneb hV dX10_worked_40 (fun q40 => ?_) (fun q40 => ?_)
      · obtain ⟨m, rfl⟩ : ∃ m : Nat, n = m := ⟨n.toNat, by omega⟩
        obtain ⟨f, hf⟩ : ∃ f, f = (if e ≠ 0 then zsine else zcosine) := ⟨_, rfl⟩
        refine fn_iconst hV dX10_worked_47 ?_
        refine fn_istore_5 hV dX10_worked_48 rfl rfl ?_
        refine fn_iconst hV dX10_worked_50 ?_
        refine fn_istore_6 hV dX10_worked_51 rfl rfl ?_
        have L : ∀ k : Nat, k ≤ m → ∀ (i acc : Int) (σ1 : fnMem), True → (i = k) → (fnFr [10] σ σ1) → (acc = zwk (zcrs μ) (μ 16) (μ 19) f d s k) → V 53 [.ref 0, zI m, zI d, zI s, zI e, zI acc, zI i, .null, .null] [] σ1 := by
          refine fn_rec (fun k hk ihL => ?_)
          intro i acc σ1 _ hi gF hacc
          refine fn_iload_6 hV dX10_worked_53 ?_
          refine fn_iload_1 hV dX10_worked_55 ?_
          refine fn_icmp_ge hV (by omega) (by omega) dX10_worked_56 (fun q56 => ?_) (fun q56 => ?_)
          · refine fn_iload_5 hV dX10_worked_137 ?_
            exact fn_iret hR dX10_worked_139 (zXP.fr hC (gF.mono (by decide)) (by unfold S_worked; rw [if_neg (by omega), if_neg (by omega), hacc, show k = m by omega, Int.toNat_natCast, hf]))
          · have y2 := v2 i (by omega) (by omega)
            have y3 := v3 i (by omega) (by omega)
            have y4 := v4 i (by omega) (by omega)
            have y5 := v5 i (by omega) (by omega)
            have y6 := v6 i (by omega) (by omega)
            have y7 := v7 i (by omega) (by omega)
            have z2 := x2 i (by omega) (by omega)
            have z3 := x3 i (by omega) (by omega)
            have z4 := x4 i (by omega) (by omega)
            have z5 := x5 i (by omega) (by omega)
            have z6 := x6 i (by omega) (by omega)
            have z7 := x7 i (by omega) (by omega)
            have hC1 : zCR σ1 μ := zCR_fr hC (gF.mono (by decide))
            have e37 : σ1 37 i = μ 16 i := by rw [gF 37 (by decide)]; exact y2
            have e40 : σ1 40 i = μ 19 i := by rw [gF 40 (by decide)]; exact y5
            have w1 := zcrs_in μ i
            refine fn_aload_0 hV dX10_worked_59 ?_
            refine fn_getR hV dX10_worked_60 fl_X10_52 fr_0_6 ?_
            refine fn_getR hV dX10_worked_63 fl_X10_291 fr_36_0 ?_
            refine fn_iload_6 hV dX10_worked_66 ?_
            refine fn_iald hV dX10_worked_68 ar_37 (by omega) (by omega) ?_
            refine fn_iload_2 hV dX10_worked_69 ?_
            refine fn_icmp_lt hV (by omega) (by omega) dX10_worked_70 (fun q70 => ?_) (fun q70 => ?_)
            · refine fn_iconst hV dX10_worked_77 ?_
              refine fn_istore_7 hV dX10_worked_78 rfl rfl ?_
              refine fn_aload_0 hV dX10_worked_80 ?_
              refine fn_iload_6 hV dX10_worked_81 ?_
              refine fn_cV1I hV (c_X10_courseOf E _ μ hC1 hW _ (by omega)) mv_X10_courseOf lk_X10_309 dX10_worked_83 sh_0 rfl ⟨rfl, rfl⟩ rfl (fun z σ2 hp => ?_)
              obtain ⟨rfl, cF⟩ := hp
              replace e40 : σ2 40 i = μ 19 i := by rw [cF 40 (by decide)]; exact e40
              refine fn_iload_7 hV dX10_worked_86 ?_
              refine fn_iadd hV dX10_worked_88 ?_
              refine fn_sipush hV dX10_worked_89 rfl ?_
              refine fn_cS2 hV (c_J9_floorMod_7cf53 E _ _ _ (by omega) (by omega) (by omega)) ms_J9_floorMod_7cf53 lk_X10_318 dX10_worked_92 ⟨rfl, rfl⟩ rfl ?_
              refine fn_istore_8 hV dX10_worked_95 rfl rfl ?_
              refine fn_iload_5 hV dX10_worked_97 ?_
              refine fn_aload_0 hV dX10_worked_99 ?_
              refine fn_getR hV dX10_worked_100 fl_X10_52 fr_0_6 ?_
              refine fn_getR hV dX10_worked_103 fl_X10_300 fr_36_3 ?_
              refine fn_iload_6 hV dX10_worked_106 ?_
              refine fn_iald hV dX10_worked_108 ar_40 (by omega) (by omega) ?_
              refine fn_iload_4 hV dX10_worked_109 ?_
              refine fn_if_eq hV (by omega) dX10_worked_111 (fun q111 => ?_) (fun q111 => ?_)
              · refine fn_iload_8 hV dX10_worked_122 ?_
                refine fn_cS1 hV (c_X8_cosineAt E _ _ (by omega)) ms_X8_cosineAt lk_X10_87 dX10_worked_124 ⟨rfl, rfl⟩ rfl ?_
                refine fn_imul hV dX10_worked_127 ?_
                refine fn_iadd hV dX10_worked_128 ?_
                refine fn_istore_5 hV dX10_worked_129 rfl rfl ?_
                refine fn_iinc_6 hV dX10_worked_131 rfl rfl ?_
                refine fn_goto hV dX10_worked_134 ?_
                refine fn_nul_7 hV ?_
                refine fn_nul_8 hV ?_
                exact ihL (k + 1) (by omega) (by omega) _ _ _ trivial (by omega) (gF.tr cF) (by rw [zwk_s, ← hi, if_neg (by omega), hf, if_neg (by omega), hacc, e40, hf, if_neg (by omega)])
              · refine fn_iload_8 hV dX10_worked_114 ?_
                refine fn_cS1 hV (c_X8_sineAt E _ _ (by omega)) ms_X8_sineAt lk_X10_93 dX10_worked_116 ⟨rfl, rfl⟩ rfl ?_
                refine fn_goto hV dX10_worked_119 ?_
                refine fn_imul hV dX10_worked_127 ?_
                refine fn_iadd hV dX10_worked_128 ?_
                refine fn_istore_5 hV dX10_worked_129 rfl rfl ?_
                refine fn_iinc_6 hV dX10_worked_131 rfl rfl ?_
                refine fn_goto hV dX10_worked_134 ?_
                refine fn_nul_7 hV ?_
                refine fn_nul_8 hV ?_
                exact ihL (k + 1) (by omega) (by omega) _ _ _ trivial (by omega) (gF.tr cF) (by rw [zwk_s, ← hi, if_neg (by omega), hf, if_pos (by omega), hacc, e40, hf, if_pos (by omega)])
            · refine fn_iload_3 hV dX10_worked_73 ?_
              refine fn_goto hV dX10_worked_74 ?_
              refine fn_istore_7 hV dX10_worked_78 rfl rfl ?_
              refine fn_aload_0 hV dX10_worked_80 ?_
              refine fn_iload_6 hV dX10_worked_81 ?_
              refine fn_cV1I hV (c_X10_courseOf E _ μ hC1 hW _ (by omega)) mv_X10_courseOf lk_X10_309 dX10_worked_83 sh_0 rfl ⟨rfl, rfl⟩ rfl (fun z σ2 hp => ?_)
              obtain ⟨rfl, cF⟩ := hp
              replace e40 : σ2 40 i = μ 19 i := by rw [cF 40 (by decide)]; exact e40
              refine fn_iload_7 hV dX10_worked_86 ?_
              refine fn_iadd hV dX10_worked_88 ?_
              refine fn_sipush hV dX10_worked_89 rfl ?_
              refine fn_cS2 hV (c_J9_floorMod_7cf53 E _ _ _ (by omega) (by omega) (by omega)) ms_J9_floorMod_7cf53 lk_X10_318 dX10_worked_92 ⟨rfl, rfl⟩ rfl ?_
              refine fn_istore_8 hV dX10_worked_95 rfl rfl ?_
              refine fn_iload_5 hV dX10_worked_97 ?_
              refine fn_aload_0 hV dX10_worked_99 ?_
              refine fn_getR hV dX10_worked_100 fl_X10_52 fr_0_6 ?_
              refine fn_getR hV dX10_worked_103 fl_X10_300 fr_36_3 ?_
              refine fn_iload_6 hV dX10_worked_106 ?_
              refine fn_iald hV dX10_worked_108 ar_40 (by omega) (by omega) ?_
              refine fn_iload_4 hV dX10_worked_109 ?_
              refine fn_if_eq hV (by omega) dX10_worked_111 (fun q111 => ?_) (fun q111 => ?_)
              · refine fn_iload_8 hV dX10_worked_122 ?_
                refine fn_cS1 hV (c_X8_cosineAt E _ _ (by omega)) ms_X8_cosineAt lk_X10_87 dX10_worked_124 ⟨rfl, rfl⟩ rfl ?_
                refine fn_imul hV dX10_worked_127 ?_
                refine fn_iadd hV dX10_worked_128 ?_
                refine fn_istore_5 hV dX10_worked_129 rfl rfl ?_
                refine fn_iinc_6 hV dX10_worked_131 rfl rfl ?_
                refine fn_goto hV dX10_worked_134 ?_
                refine fn_nul_7 hV ?_
                refine fn_nul_8 hV ?_
                exact ihL (k + 1) (by omega) (by omega) _ _ _ trivial (by omega) (gF.tr cF) (by rw [zwk_s, ← hi, if_pos (by omega), hf, if_neg (by omega), hacc, e40, hf, if_neg (by omega)])
              · refine fn_iload_8 hV dX10_worked_114 ?_
                refine fn_cS1 hV (c_X8_sineAt E _ _ (by omega)) ms_X8_sineAt lk_X10_93 dX10_worked_116 ⟨rfl, rfl⟩ rfl ?_
                refine fn_goto hV dX10_worked_119 ?_
                refine fn_imul hV dX10_worked_127 ?_
                refine fn_iadd hV dX10_worked_128 ?_
                refine fn_istore_5 hV dX10_worked_129 rfl rfl ?_
                refine fn_iinc_6 hV dX10_worked_131 rfl rfl ?_
                refine fn_goto hV dX10_worked_134 ?_
                refine fn_nul_7 hV ?_
                refine fn_nul_8 hV ?_
                exact ihL (k + 1) (by omega) (by omega) _ _ _ trivial (by omega) (gF.tr cF) (by rw [zwk_s, ← hi, if_pos (by omega), hf, if_pos (by omega), hacc, e40, hf, if_pos (by omega)])
        exact L 0 (by omega) _ _ _ trivial (by omega) fnFr.rf rfl
      · refine fn_sipush hV dX10_worked_43 rfl ?_
        exact fn_iret hR dX10_worked_46 (zXP.rf hC (by unfold S_worked; (repeat' split) <;> first | rfl | omega))
  · refine fn_sipush hV dX10_worked_15 rfl ?_
    exact fn_iret hR dX10_worked_18 (zXP.rf hC (by unfold S_worked; (repeat' split) <;> first | rfl | omega))
