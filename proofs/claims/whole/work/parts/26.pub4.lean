theorem zCR_place {σ μ : fnMem} (h : zCR σ μ) (p x z : Int) : zCR (fnUp (fnUp σ 27 p x) 28 p z) (fnUp (fnUp μ 8 p x) 9 p z) := by
  obtain ⟨c1, c2, c3, c4, c5⟩ := h.2.2.2.1
  have e : ∀ j, j ≠ 27 → j ≠ 28 → fnUp (fnUp σ 27 p x) 28 p z j = σ j := fun j h1 h2 => by rw [fnUp_ne _ _ _ h2, fnUp_ne _ _ _ h1]
  have e' : ∀ j, j ≠ 8 → j ≠ 9 → fnUp (fnUp μ 8 p x) 9 p z j = μ j := fun j h1 h2 => by rw [fnUp_ne _ _ _ h2, fnUp_ne _ _ _ h1]
  refine zCR_l h (fun j hj => e j (by omega) (by omega)) (fun j hj => e' j (by omega) (by omega)) ?_
  unfold zCRl
  rw [e 29 (by decide) (by decide), e 30 (by decide) (by decide), e 31 (by decide) (by decide), e' 10 (by decide) (by decide), e' 11 (by decide) (by decide), e' 12 (by decide) (by decide), fnUp_ne _ _ _ (show 27 ≠ 28 by decide), fnUp_ne _ _ _ (show 8 ≠ 9 by decide)]
  refine ⟨fun j j0 j1 => ?_, fun j j0 j1 => ?_, c3, c4, c5⟩
  · rw [fnUp_ap, fnUp_ap, c1 j j0 j1]
  · rw [fnUp_ap, fnUp_ap, fnUp_ne _ _ _ (show 28 ≠ 27 by decide), fnUp_ne _ _ _ (show 9 ≠ 8 by decide), c2 j j0 j1]
theorem zCR_note {σ μ : fnMem} (h : zCR σ μ) {i v w : Int} : zCR (fnUp (fnUp (fnUp σ 31 i 1) 29 i v) 30 i w) (fnUp (fnUp (fnUp μ 10 i 1) 11 i v) 12 i w) := by
  obtain ⟨c1, c2, c3, c4, c5⟩ := h.2.2.2.1
  have e : ∀ j, j ≠ 29 → j ≠ 30 → j ≠ 31 → fnUp (fnUp (fnUp σ 31 i 1) 29 i v) 30 i w j = σ j := fun j h1 h2 h3 => by rw [fnUp_ne _ _ _ h2, fnUp_ne _ _ _ h1, fnUp_ne _ _ _ h3]
  have e' : ∀ j, j ≠ 10 → j ≠ 11 → j ≠ 12 → fnUp (fnUp (fnUp μ 10 i 1) 11 i v) 12 i w j = μ j := fun j h1 h2 h3 => by rw [fnUp_ne _ _ _ h3, fnUp_ne _ _ _ h2, fnUp_ne _ _ _ h1]
  refine zCR_l h (fun j hj => e j (by omega) (by omega) (by omega)) (fun j hj => e' j (by omega) (by omega) (by omega)) ?_
  unfold zCRl
  rw [e 27 (by decide) (by decide) (by decide), e 28 (by decide) (by decide) (by decide), e' 8 (by decide) (by decide) (by decide), e' 9 (by decide) (by decide) (by decide)]
  refine ⟨c1, c2, fun j j0 j1 => ?_, fun j j0 j1 => ?_, fun j j0 j1 => ?_⟩
  · rw [fnUp_ne _ _ _ (show 31 ≠ 30 by decide), fnUp_ne _ _ _ (show 31 ≠ 29 by decide), fnUp_ap, fnUp_ne _ _ _ (show 10 ≠ 12 by decide), fnUp_ne _ _ _ (show 10 ≠ 11 by decide), fnUp_ap, c3 j j0 j1]
  · rw [fnUp_ne _ _ _ (show 29 ≠ 30 by decide), fnUp_ap, fnUp_ne _ _ _ (show 29 ≠ 31 by decide), fnUp_ne _ _ _ (show 11 ≠ 12 by decide), fnUp_ap, fnUp_ne _ _ _ (show 11 ≠ 10 by decide), c4 j j0 j1]
  · rw [fnUp_ap, fnUp_ne _ _ _ (show 30 ≠ 29 by decide), fnUp_ne _ _ _ (show 30 ≠ 31 by decide), fnUp_ap, fnUp_ne _ _ _ (show 12 ≠ 11 by decide), fnUp_ne _ _ _ (show 12 ≠ 10 by decide), c5 j j0 j1]
theorem zCR_event {σ μ : fnMem} (h : zCR σ μ) (k d p v : Int) : zCR (fnUp (fnUp (fnUp σ 33 k d) 34 k p) 35 k v) (fnUp (fnUp (fnUp μ 13 k d) 14 k p) 15 k v) := by
  obtain ⟨c1, c2, c3⟩ := h.2.2.2.2.1
  refine zCR_e h (fun j hj => by rw [fnUp_ne _ _ _ (by omega), fnUp_ne _ _ _ (by omega), fnUp_ne _ _ _ (by omega)]) (fun j hj => by rw [fnUp_ne _ _ _ (by omega), fnUp_ne _ _ _ (by omega), fnUp_ne _ _ _ (by omega)]) ?_
  refine ⟨fun j j0 j1 => ?_, fun j j0 j1 => ?_, fun j j0 j1 => ?_⟩
  · rw [fnUp_ne _ _ _ (show 33 ≠ 35 by decide), fnUp_ne _ _ _ (show 33 ≠ 34 by decide), fnUp_ap, fnUp_ne _ _ _ (show 13 ≠ 15 by decide), fnUp_ne _ _ _ (show 13 ≠ 14 by decide), fnUp_ap, c1 j j0 j1]
  · rw [fnUp_ne _ _ _ (show 34 ≠ 35 by decide), fnUp_ap, fnUp_ne _ _ _ (show 34 ≠ 33 by decide), fnUp_ne _ _ _ (show 14 ≠ 15 by decide), fnUp_ap, fnUp_ne _ _ _ (show 14 ≠ 13 by decide), c2 j j0 j1]
  · rw [fnUp_ap, fnUp_ne _ _ _ (show 35 ≠ 34 by decide), fnUp_ne _ _ _ (show 35 ≠ 33 by decide), fnUp_ap, fnUp_ne _ _ _ (show 15 ≠ 14 by decide), fnUp_ne _ _ _ (show 15 ≠ 13 by decide), c3 j j0 j1]
theorem zcl9_le (v : Int) : -9999 ≤ zcl9 v ∧ zcl9 v ≤ 9999 := by
  unfold zcl9
  (repeat' split) <;> omega
theorem zfore_le (a b c d e f g h : Int) : -9999 ≤ zfore a b c d e f g h ∧ zfore a b c d e f g h ≤ 9999 := zcl9_le _
theorem zfo_eq {σ μ : fnMem} (h : zCR σ μ) {N1 N2 : Int → Int} (hN : ∀ k, 0 ≤ k → k < 24 → N1 k = N2 k) {c x p q : Int} (hc : 0 ≤ c ∧ c ≤ 2) (hx : 0 ≤ x ∧ x ≤ 7) (hp : 0 ≤ p ∧ p ≤ 7) (hq : 0 ≤ q ∧ q ≤ 7) : zfore (N1 (c * 8 + p)) (N1 (c * 8 + q)) (σ 27 p) (σ 27 q) (σ 27 x) (σ 28 x) (σ 28 p) (σ 28 q) = zfo μ N2 c x p q := by
  obtain ⟨c1, c2, c3, c4, c5⟩ := h.2.2.2.1
  unfold zfo
  rw [hN _ (by omega) (by omega), hN _ (by omega) (by omega), c1 p (by omega) (by omega), c1 q (by omega) (by omega), c1 x (by omega) (by omega), c2 p (by omega) (by omega), c2 q (by omega) (by omega), c2 x (by omega) (by omega), Int.mul_comm c 8]
theorem zput_le {μ : fnMem} (hW : zWF μ) (d j : Int) : ∀ n : Nat, n ≤ 20 → -(300 * n) ≤ zsum (zput (μ 13) (μ 14) (μ 15) d j) n ∧ zsum (zput (μ 13) (μ 14) (μ 15) d j) n ≤ 300 * n
  | 0, _ => by simp [zsum]
  | n + 1, hn => by
    have h1 := zput_le hW d j n (by omega)
    have h2 := hW.2.2.2.2.1.2.2 n (by omega) (by omega)
    have h3 : -300 ≤ zput (μ 13) (μ 14) (μ 15) d j n ∧ zput (μ 13) (μ 14) (μ 15) d j n ≤ 300 := by
      unfold zput
      split <;> omega
    rw [zsum_s]
    omega
theorem zasof_le {μ : fnMem} (hW : zWF μ) (d : Int) {j : Int} (j0 : 0 ≤ j) (j1 : j < 6) : -7000 ≤ zasof μ d j ∧ zasof μ d j ≤ 7000 := by
  have h1 := zput_le hW d j 20 (Nat.le_refl _)
  have h2 := hW.1 j j0 (by omega)
  unfold zasof
  omega
theorem zput_eq {σ μ : fnMem} (h : zCR σ μ) (d j : Int) : zsum (zput (σ 33) (σ 34) (σ 35) d j) 20 = zsum (zput (μ 13) (μ 14) (μ 15) d j) 20 := by
  obtain ⟨c1, c2, c3⟩ := h.2.2.2.2.1
  refine zsum_congr 20 (fun k k0 k1 => ?_)
  unfold zput
  rw [c1 k k0 (by omega), c2 k k0 (by omega), c3 k k0 (by omega)]

set_option maxHeartbeats 4000000 in
set_option maxRecDepth 20000 in
theorem c_X10_place (E : fnE) (σ μ : fnMem) (hC : zCR σ μ) (hW : zWF μ) (p : Int) (h_p : fnR p) (h : Int) (h_h : fnR h) (z : Int) (h_z : fnR z) : fnOk E mX10_place [.ref 0, zI p, zI h, zI z] σ (fnQI (zXP (S_place p h z) (U_place μ p h z) σ)) := by
  refine fnOk.of [.ref 0, zI p, zI h, zI z] rfl (by decide +kernel) rfl (fun V hV hR => ?_)
  replace hV : fnCx E RX10 cX10_place 4 2 42 V := hV
  replace hR : fnRt cX10_place (some .int) _ V := hR
  refine fn_iload_1 hV dX10_place_0 ?_
  refine fn_cS1 hV (c_X10_isPlace E _ _ (by omega)) ms_X10_isPlace lk_X10_242 dX10_place_1 ⟨rfl, rfl⟩ rfl ?_
  refine fn_ifneb hV dX10_place_4 (fun q4 => ?_) (fun q4 => ?_)
  · refine fn_iload_2 hV dX10_place_11 ?_
    refine fn_iconst hV dX10_place_12 ?_
    refine fn_sipush hV dX10_place_13 rfl ?_
    refine fn_cS3 hV (c_X10_within E _ _ _ _ (by omega) (by omega) (by omega)) ms_X10_within lk_X10_106 dX10_place_16 ⟨rfl, rfl⟩ rfl ?_
    refine fn_ifeqb hV dX10_place_19 (fun q19 => ?_) (fun q19 => ?_)
    · refine fn_sipush hV dX10_place_35 rfl ?_
      exact fn_iret hR dX10_place_38 (zXP.rfU hC (by unfold S_place; (repeat' split) <;> first | rfl | omega) (by unfold U_place; exact if_neg (by omega)))
    · refine fn_iload_3 hV dX10_place_22 ?_
      refine fn_sipush hV dX10_place_23 rfl ?_
      refine fn_sipush hV dX10_place_26 rfl ?_
      refine fn_cS3 hV (c_X10_within E _ _ _ _ (by omega) (by omega) (by omega)) ms_X10_within lk_X10_106 dX10_place_29 ⟨rfl, rfl⟩ rfl ?_
      refine fn_ifneb hV dX10_place_32 (fun q32 => ?_) (fun q32 => ?_)
      · refine fn_aload_0 hV dX10_place_39 ?_
        refine fn_getR hV dX10_place_40 fl_X10_38 fr_0_4 ?_
        refine fn_getR hV dX10_place_43 fl_X10_245 fr_26_0 ?_
        refine fn_iload_1 hV dX10_place_46 ?_
        refine fn_iload_2 hV dX10_place_47 ?_
        refine fn_iast hV dX10_place_48 ar_27 (by omega) (by omega) ?_
        refine fn_aload_0 hV dX10_place_49 ?_
        refine fn_getR hV dX10_place_50 fl_X10_38 fr_0_4 ?_
        refine fn_getR hV dX10_place_53 fl_X10_248 fr_26_1 ?_
        refine fn_iload_1 hV dX10_place_56 ?_
        refine fn_iload_3 hV dX10_place_57 ?_
        refine fn_iast hV dX10_place_58 ar_28 (by omega) (by omega) ?_
        refine fn_iconst hV dX10_place_59 ?_
        exact fn_iret hR dX10_place_60 (fnQI.mk ⟨by unfold S_place; rw [if_neg (by omega), if_neg (by omega)], by rw [show U_place μ p h z = fnUp (fnUp μ 8 p h) 9 p z from by unfold U_place; exact if_pos (by omega)]; exact zCR_place hC p h z, fun j hj => by rw [fnUp_ne _ _ _ (by omega), fnUp_ne _ _ _ (by omega)]⟩)
      · refine fn_sipush hV dX10_place_35 rfl ?_
        exact fn_iret hR dX10_place_38 (zXP.rfU hC (by unfold S_place; (repeat' split) <;> first | rfl | omega) (by unfold U_place; exact if_neg (by omega)))
  · refine fn_sipush hV dX10_place_7 rfl ?_
    exact fn_iret hR dX10_place_10 (zXP.rfU hC (by unfold S_place; (repeat' split) <;> first | rfl | omega) (by unfold U_place; exact if_neg (by omega)))

set_option maxHeartbeats 4000000 in
set_option maxRecDepth 20000 in
theorem c_X10_note (E : fnE) (σ μ : fnMem) (hC : zCR σ μ) (hW : zWF μ) (c0 : Int) (h_c0 : fnR c0) (p : Int) (h_p : fnR p) : fnOk E mX10_note [.ref 0, zI c0, zI p] σ (fnQI (zXP (S_note c0 p) (U_note μ c0 p) σ)) := by
  refine fnOk.of [.ref 0, zI c0, zI p] rfl (by decide +kernel) rfl (fun V hV hR => ?_)
  replace hV : fnCx E RX10 cX10_note 3 2 42 V := hV
  replace hR : fnRt cX10_note (some .int) _ V := hR
  refine fn_iload_1 hV dX10_note_0 ?_
  refine fn_cS1 hV (c_X10_isCompass E _ _ (by omega)) ms_X10_isCompass lk_X10_100 dX10_note_1 ⟨rfl, rfl⟩ rfl ?_
  refine fn_ifeqb hV dX10_note_4 (fun q4 => ?_) (fun q4 => ?_)
  · refine fn_sipush hV dX10_note_14 rfl ?_
    exact fn_iret hR dX10_note_17 (zXP.rfU hC (by unfold S_note; (repeat' split) <;> first | rfl | omega) (by unfold U_note; exact if_neg (by omega)))
  · refine fn_iload_2 hV dX10_note_7 ?_
    refine fn_cS1 hV (c_X10_isPlace E _ _ (by omega)) ms_X10_isPlace lk_X10_242 dX10_note_8 ⟨rfl, rfl⟩ rfl ?_
    refine fn_ifneb hV dX10_note_11 (fun q11 => ?_) (fun q11 => ?_)
    · obtain ⟨c, hc, rfl⟩ := fn_nat3 q4
      refine fn_aload_0 hV dX10_note_18 ?_
      refine fn_getR hV dX10_note_19 fl_X10_38 fr_0_4 ?_
      refine fn_iload_1 hV dX10_note_22 ?_
      refine fn_iload_2 hV dX10_note_23 ?_
      refine fn_aload_0 hV dX10_note_24 ?_
      refine fn_getR hV dX10_note_25 fl_X10_11 fr_0_0 ?_
      refine fn_iload_1 hV dX10_note_28 ?_
      refine fn_aaldC hV c dX10_note_29 (by omega) rfl ?_
      refine fn_cV3v hV (c_X4_write E _ _ _ c (by omega) (by omega) hc) mv_X4_write lk_X10_251 dX10_note_30 sh_26 rfl ⟨rfl, rfl⟩ rfl ?_
      refine fn_iconst hV dX10_note_33 ?_
      exact fn_iret hR dX10_note_34 (fnQI.mk ⟨by unfold S_note; rw [if_neg (by omega)], by rw [show U_note μ c p = fnUp (fnUp (fnUp μ 10 (8 * (c : Int) + p) 1) 11 (8 * (c : Int) + p) (μ 1 (6 * (c : Int) + 1))) 12 (8 * (c : Int) + p) (μ 1 (6 * (c : Int) + 2)) from by unfold U_note; exact if_pos (by omega), hC.1 c hc 1 (by decide) (by decide), hC.1 c hc 2 (by decide) (by decide), Int.mul_comm (c : Int) 8]; exact zCR_note hC, fun j hj => by rw [fnUp_ne _ _ _ (by omega), fnUp_ne _ _ _ (by omega), fnUp_ne _ _ _ (by omega)]⟩)
    · refine fn_sipush hV dX10_note_14 rfl ?_
      exact fn_iret hR dX10_note_17 (zXP.rfU hC (by unfold S_note; (repeat' split) <;> first | rfl | omega) (by unfold U_note; exact if_neg (by omega)))

set_option maxHeartbeats 4000000 in
set_option maxRecDepth 20000 in
theorem c_X10_foretold (E : fnE) (σ μ : fnMem) (hC : zCR σ μ) (hW : zWF μ) (c0 : Int) (h_c0 : fnR c0) (x : Int) (h_x : fnR x) (p : Int) (h_p : fnR p) (q : Int) (h_q : fnR q) (oc : Int) (h_oc : oc = 0 ∨ oc = 1) : fnOk E mX10_foretold [.ref 0, zI c0, zI x, zI p, zI q, zI oc] σ (fnQI (zXP (S_foretold μ c0 x p q oc) (μ) σ)) := by
  refine fnOk.of [.ref 0, zI c0, zI x, zI p, zI q, zI oc] rfl (by decide +kernel) rfl (fun V hV hR => ?_)
  replace hV : fnCx E RX10 cX10_foretold 6 3 85 V := hV
  replace hR : fnRt cX10_foretold (some .int) _ V := hR
  refine fn_iload_1 hV dX10_foretold_0 ?_
  refine fn_cS1 hV (c_X10_isCompass E _ _ (by omega)) ms_X10_isCompass lk_X10_100 dX10_foretold_1 ⟨rfl, rfl⟩ rfl ?_
  refine fn_ifeqb hV dX10_foretold_4 (fun q4 => ?_) (fun q4 => ?_)
  · refine fn_sipush hV dX10_foretold_29 rfl ?_
    exact fn_iret hR dX10_foretold_32 (zXP.rf hC (by unfold S_foretold; (repeat' split) <;> first | rfl | omega))
  · refine fn_iload_2 hV dX10_foretold_7 ?_
    refine fn_cS1 hV (c_X10_isPlace E _ _ (by omega)) ms_X10_isPlace lk_X10_242 dX10_foretold_8 ⟨rfl, rfl⟩ rfl ?_
    refine fn_ifeqb hV dX10_foretold_11 (fun q11 => ?_) (fun q11 => ?_)
    · refine fn_sipush hV dX10_foretold_29 rfl ?_
      exact fn_iret hR dX10_foretold_32 (zXP.rf hC (by unfold S_foretold; (repeat' split) <;> first | rfl | omega))
    · refine fn_iload_3 hV dX10_foretold_14 ?_
      refine fn_cS1 hV (c_X10_isPlace E _ _ (by omega)) ms_X10_isPlace lk_X10_242 dX10_foretold_15 ⟨rfl, rfl⟩ rfl ?_
      refine fn_ifeqb hV dX10_foretold_18 (fun q18 => ?_) (fun q18 => ?_)
      · refine fn_sipush hV dX10_foretold_29 rfl ?_
        exact fn_iret hR dX10_foretold_32 (zXP.rf hC (by unfold S_foretold; (repeat' split) <;> first | rfl | omega))
      · refine fn_iload_4 hV dX10_foretold_21 ?_
        refine fn_cS1 hV (c_X10_isPlace E _ _ (by omega)) ms_X10_isPlace lk_X10_242 dX10_foretold_23 ⟨rfl, rfl⟩ rfl ?_
        refine fn_ifneb hV dX10_foretold_26 (fun q26 => ?_) (fun q26 => ?_)
        · have hK := hC.kPl hW
          obtain ⟨c1, c2, c3, c4, c5⟩ := hC.2.2.2.1
          obtain ⟨w1, w2, w3, w4, w5⟩ := hW.2.2.2.1
          have m1 := c3 (8 * c0 + p) (by omega) (by omega)
          have m2 := c3 (8 * c0 + q) (by omega) (by omega)
          have m3 := c2 p (by omega) (by omega)
          have m4 := c2 q (by omega) (by omega)
          refine fn_aload_0 hV dX10_foretold_33 ?_
          refine fn_getR hV dX10_foretold_34 fl_X10_38 fr_0_4 ?_
          refine fn_iload_1 hV dX10_foretold_37 ?_
          refine fn_iload_3 hV dX10_foretold_38 ?_
          refine fn_iload_4 hV dX10_foretold_39 ?_
          refine fn_cV3 hV (c_X4_canForetell E _ hK _ _ _ (by omega) (by omega) (by omega)) mv_X4_canForetell lk_X10_254 dX10_foretold_41 sh_26 rfl ⟨rfl, rfl⟩ rfl ?_
          rw [Int.mul_comm c0 8]
          refine fn_ifneb hV dX10_foretold_44 (fun q44 => ?_) (fun q44 => ?_)
          · refine fn_aload_0 hV dX10_foretold_51 ?_
            refine fn_getR hV dX10_foretold_52 fl_X10_38 fr_0_4 ?_
            refine fn_iload_5 hV dX10_foretold_55 ?_
            refine fn_if_eq hV (by omega) dX10_foretold_57 (fun q57 => ?_) (fun q57 => ?_)
            · refine fn_aload_0 hV dX10_foretold_70 ?_
              refine fn_getR hV dX10_foretold_71 fl_X10_38 fr_0_4 ?_
              refine fn_getR hV dX10_foretold_74 fl_X10_260 fr_26_2 ?_
              refine fn_iload_1 hV dX10_foretold_77 ?_
              refine fn_iload_2 hV dX10_foretold_78 ?_
              refine fn_iload_3 hV dX10_foretold_79 ?_
              refine fn_iload_4 hV dX10_foretold_80 ?_
              refine fn_cV5 hV (c_X4_foretell E _ hK _ ar_29 hK.2.2.1 _ _ _ _ (by omega) (by omega) (by omega) (by omega) (by omega)) mv_X4_foretell lk_X10_263 dX10_foretold_82 sh_26 rfl ⟨rfl, rfl⟩ rfl ?_
              exact fn_iret hR dX10_foretold_85 (zXP.rf hC (by unfold S_foretold; rw [if_neg (by omega), if_neg (by omega)]; first | (rw [if_pos (by omega)]; exact zfo_eq hC c5 (by omega) (by omega) (by omega) (by omega)) | (rw [if_neg (by omega)]; exact zfo_eq hC c4 (by omega) (by omega) (by omega) (by omega))))
            · refine fn_aload_0 hV dX10_foretold_60 ?_
              refine fn_getR hV dX10_foretold_61 fl_X10_38 fr_0_4 ?_
              refine fn_getR hV dX10_foretold_64 fl_X10_257 fr_26_3 ?_
              refine fn_goto hV dX10_foretold_67 ?_
              refine fn_iload_1 hV dX10_foretold_77 ?_
              refine fn_iload_2 hV dX10_foretold_78 ?_
              refine fn_iload_3 hV dX10_foretold_79 ?_
              refine fn_iload_4 hV dX10_foretold_80 ?_
              refine fn_cV5 hV (c_X4_foretell E _ hK _ ar_30 hK.2.2.2.1 _ _ _ _ (by omega) (by omega) (by omega) (by omega) (by omega)) mv_X4_foretell lk_X10_263 dX10_foretold_82 sh_26 rfl ⟨rfl, rfl⟩ rfl ?_
              exact fn_iret hR dX10_foretold_85 (zXP.rf hC (by unfold S_foretold; rw [if_neg (by omega), if_neg (by omega)]; first | (rw [if_pos (by omega)]; exact zfo_eq hC c5 (by omega) (by omega) (by omega) (by omega)) | (rw [if_neg (by omega)]; exact zfo_eq hC c4 (by omega) (by omega) (by omega) (by omega))))
          · refine fn_sipush hV dX10_foretold_47 rfl ?_
            exact fn_iret hR dX10_foretold_50 (zXP.rf hC (by unfold S_foretold; rw [if_neg (by omega), if_pos (by omega)]))
        · refine fn_sipush hV dX10_foretold_29 rfl ?_
          exact fn_iret hR dX10_foretold_32 (zXP.rf hC (by unfold S_foretold; (repeat' split) <;> first | rfl | omega))

set_option maxHeartbeats 4000000 in
set_option maxRecDepth 20000 in
theorem c_X10_foretoldError (E : fnE) (σ μ : fnMem) (hC : zCR σ μ) (hW : zWF μ) (c0 : Int) (h_c0 : fnR c0) (h : Int) (h_h : fnR h) (x : Int) (h_x : fnR x) (p : Int) (h_p : fnR p) (q : Int) (h_q : fnR q) : fnOk E mX10_foretoldError [.ref 0, zI c0, zI h, zI x, zI p, zI q] σ (fnQI (zXP (S_foretoldError μ c0 h x p q) (μ) σ)) := by
  refine fnOk.of [.ref 0, zI c0, zI h, zI x, zI p, zI q] rfl (by decide +kernel) rfl (fun V hV hR => ?_)
  replace hV : fnCx E RX10 cX10_foretoldError 6 3 85 V := hV
  replace hR : fnRt cX10_foretoldError (some .int) _ V := hR
  refine fn_iload_1 hV dX10_foretoldError_0 ?_
  refine fn_cS1 hV (c_X10_isCompass E _ _ (by omega)) ms_X10_isCompass lk_X10_100 dX10_foretoldError_1 ⟨rfl, rfl⟩ rfl ?_
  refine fn_ifeqb hV dX10_foretoldError_4 (fun q4 => ?_) (fun q4 => ?_)
  · refine fn_sipush hV dX10_foretoldError_14 rfl ?_
    exact fn_iret hR dX10_foretoldError_17 (zXP.rf hC (by unfold S_foretoldError; (repeat' split) <;> first | rfl | omega))
  · refine fn_iload_2 hV dX10_foretoldError_7 ?_
    refine fn_cS1 hV (c_X10_isHeading E _ _ (by omega)) ms_X10_isHeading lk_X10_113 dX10_foretoldError_8 ⟨rfl, rfl⟩ rfl ?_
    refine fn_ifneb hV dX10_foretoldError_11 (fun q11 => ?_) (fun q11 => ?_)
    · refine fn_iload_3 hV dX10_foretoldError_18 ?_
      refine fn_cS1 hV (c_X10_isPlace E _ _ (by omega)) ms_X10_isPlace lk_X10_242 dX10_foretoldError_19 ⟨rfl, rfl⟩ rfl ?_
      refine fn_ifeqb hV dX10_foretoldError_22 (fun q22 => ?_) (fun q22 => ?_)
      · refine fn_sipush hV dX10_foretoldError_41 rfl ?_
        exact fn_iret hR dX10_foretoldError_44 (zXP.rf hC (by unfold S_foretoldError; (repeat' split) <;> first | rfl | omega))
      · refine fn_iload_4 hV dX10_foretoldError_25 ?_
        refine fn_cS1 hV (c_X10_isPlace E _ _ (by omega)) ms_X10_isPlace lk_X10_242 dX10_foretoldError_27 ⟨rfl, rfl⟩ rfl ?_
        refine fn_ifeqb hV dX10_foretoldError_30 (fun q30 => ?_) (fun q30 => ?_)
        · refine fn_sipush hV dX10_foretoldError_41 rfl ?_
          exact fn_iret hR dX10_foretoldError_44 (zXP.rf hC (by unfold S_foretoldError; (repeat' split) <;> first | rfl | omega))
        · refine fn_iload_5 hV dX10_foretoldError_33 ?_
          refine fn_cS1 hV (c_X10_isPlace E _ _ (by omega)) ms_X10_isPlace lk_X10_242 dX10_foretoldError_35 ⟨rfl, rfl⟩ rfl ?_
          refine fn_ifneb hV dX10_foretoldError_38 (fun q38 => ?_) (fun q38 => ?_)
          · have hK := hC.kPl hW
            obtain ⟨c1, c2, c3, c4, c5⟩ := hC.2.2.2.1
            obtain ⟨w1, w2, w3, w4, w5⟩ := hW.2.2.2.1
            have m1 := c3 (8 * c0 + p) (by omega) (by omega)
            have m2 := c3 (8 * c0 + q) (by omega) (by omega)
            have m3 := c2 p (by omega) (by omega)
            have m4 := c2 q (by omega) (by omega)
            refine fn_aload_0 hV dX10_foretoldError_45 ?_
            refine fn_getR hV dX10_foretoldError_46 fl_X10_38 fr_0_4 ?_
            refine fn_iload_1 hV dX10_foretoldError_49 ?_
            refine fn_iload_4 hV dX10_foretoldError_50 ?_
            refine fn_iload_5 hV dX10_foretoldError_52 ?_
            refine fn_cV3 hV (c_X4_canForetell E _ hK _ _ _ (by omega) (by omega) (by omega)) mv_X4_canForetell lk_X10_254 dX10_foretoldError_54 sh_26 rfl ⟨rfl, rfl⟩ rfl ?_
            rw [Int.mul_comm c0 8]
            refine fn_ifneb hV dX10_foretoldError_57 (fun q57 => ?_) (fun q57 => ?_)
            · have hCf : ∀ s, fnFr [10] σ s → zCR s μ := fun s hs => zCR_fr hC (hs.mono (by decide))
              obtain ⟨c, hc, rfl⟩ := fn_nat3 q4
              refine fn_aload_0 hV dX10_foretoldError_64 ?_
              refine fn_getR hV dX10_foretoldError_65 fl_X10_71 fr_0_9 ?_
              refine fn_aload_0 hV dX10_foretoldError_68 ?_
              refine fn_getR hV dX10_foretoldError_69 fl_X10_11 fr_0_0 ?_
              refine fn_iload_1 hV dX10_foretoldError_72 ?_
              refine fn_aaldC hV c dX10_foretoldError_73 (by omega) rfl ?_
              refine fn_cV1Q hV (c_X0_copyQ E _ c (by omega)) mv_X0_copyFrom lk_X10_267 dX10_foretoldError_74 sh_6 rfl ⟨rfl, rfl⟩ rfl (fun σ1 hp => ?_)
              have F0 : fnFr [10] σ σ1 := by rw [hp]; exact fun k hk => fnSt_ne _ _ (by simpa using hk)
              have v0 : ∀ j, 0 ≤ j → j < 6 → σ1 10 j = μ 1 (6 * (c : Int) + j) := fun j j0 j1 => by
                rw [hp, fnSt_same, if_pos ⟨j0, j1⟩]
                exact hC.1 c hc j j0 j1
              have hz29 : σ1 28 p ≠ σ1 28 q := by rw [F0 28 (by decide)]; omega
              have hz30 : ∀ i v, fnUp σ1 10 i v 28 p ≠ fnUp σ1 10 i v 28 q := fun i v => by rw [fnUp_ne _ _ _ (by decide)]; exact hz29
              refine fn_aload_0 hV dX10_foretoldError_77 ?_
              refine fn_getR hV dX10_foretoldError_78 fl_X10_71 fr_0_9 ?_
              refine fn_getR hV dX10_foretoldError_81 fl_X10_110 fr_6_0 ?_
              refine fn_iconst hV dX10_foretoldError_84 ?_
              refine fn_aload_0 hV dX10_foretoldError_85 ?_
              refine fn_getR hV dX10_foretoldError_86 fl_X10_38 fr_0_4 ?_
              refine fn_aload_0 hV dX10_foretoldError_89 ?_
              refine fn_getR hV dX10_foretoldError_90 fl_X10_38 fr_0_4 ?_
              refine fn_getR hV dX10_foretoldError_93 fl_X10_260 fr_26_2 ?_
              refine fn_iload_1 hV dX10_foretoldError_96 ?_
              refine fn_iload_3 hV dX10_foretoldError_97 ?_
              refine fn_iload_4 hV dX10_foretoldError_98 ?_
              refine fn_iload_5 hV dX10_foretoldError_100 ?_
              refine fn_cV5 hV (c_X4_foretell E _ ((hCf _ F0).kPl hW) _ ar_29 ((hCf _ F0).kPl hW).2.2.1 _ _ _ _ (by omega) (by omega) (by omega) (by omega) hz29) mv_X4_foretell lk_X10_263 dX10_foretoldError_102 sh_26 rfl ⟨rfl, rfl⟩ rfl ?_
              rw [zfo_eq (hCf _ F0) (hCf _ F0).2.2.2.1.2.2.2.1 (by omega) (by omega) (by omega) (by omega)]
              refine fn_iast hV dX10_foretoldError_105 ar_10 (by omega) (by omega) ?_
              refine fn_aload_0 hV dX10_foretoldError_106 ?_
              refine fn_getR hV dX10_foretoldError_107 fl_X10_71 fr_0_9 ?_
              refine fn_getR hV dX10_foretoldError_110 fl_X10_110 fr_6_0 ?_
              refine fn_iconst hV dX10_foretoldError_113 ?_
              refine fn_aload_0 hV dX10_foretoldError_114 ?_
              refine fn_getR hV dX10_foretoldError_115 fl_X10_38 fr_0_4 ?_
              refine fn_aload_0 hV dX10_foretoldError_118 ?_
              refine fn_getR hV dX10_foretoldError_119 fl_X10_38 fr_0_4 ?_
              refine fn_getR hV dX10_foretoldError_122 fl_X10_257 fr_26_3 ?_
              refine fn_iload_1 hV dX10_foretoldError_125 ?_
              refine fn_iload_3 hV dX10_foretoldError_126 ?_
              refine fn_iload_4 hV dX10_foretoldError_127 ?_
              refine fn_iload_5 hV dX10_foretoldError_129 ?_
              refine fn_cV5 hV (c_X4_foretell E _ ((hCf _ (F0.up (by decide))).kPl hW) _ ar_30 ((hCf _ (F0.up (by decide))).kPl hW).2.2.2.1 _ _ _ _ (by omega) (by omega) (by omega) (by omega) (hz30 _ _)) mv_X4_foretell lk_X10_263 dX10_foretoldError_131 sh_26 rfl ⟨rfl, rfl⟩ rfl ?_
              rw [zfo_eq (hCf _ (F0.up (by decide))) (hCf _ (F0.up (by decide))).2.2.2.1.2.2.2.2 (by omega) (by omega) (by omega) (by omega)]
              refine fn_iast hV dX10_foretoldError_134 ar_10 (by omega) (by omega) ?_
              have F4 := ((F0.up (b := 10) (i := 1) (v := zfo μ (μ 11) c x p q) (by decide)).up (b := 10) (i := 2) (v := zfo μ (μ 12) c x p q) (by decide))
              have v4 : ∀ j, 0 ≤ j → j < 6 → (fnUp (fnUp σ1 10 1 (zfo μ (μ 11) c x p q)) 10 2 (zfo μ (μ 12) c x p q)) 10 j = zfoP μ c x p q j := fun j j0 j1 => by
                unfold zfoP
                have hj : j = 0 ∨ j = 1 ∨ j = 2 ∨ j = 3 ∨ j = 4 ∨ j = 5 := by omega
                rcases hj with rfl | rfl | rfl | rfl | rfl | rfl <;> simp [fnUp_ap, v0]
              have hP4 : ∀ j, 0 ≤ j → j < 6 → -32000 ≤ (fnUp (fnUp σ1 10 1 (zfo μ (μ 11) c x p q)) 10 2 (zfo μ (μ 12) c x p q)) (7 + 3) j ∧ (fnUp (fnUp σ1 10 1 (zfo μ (μ 11) c x p q)) 10 2 (zfo μ (μ 12) c x p q)) (7 + 3) j ≤ 32000 := fun j j0 j1 => by
                rw [show (fnUp (fnUp σ1 10 1 (zfo μ (μ 11) c x p q)) 10 2 (zfo μ (μ 12) c x p q)) (7 + 3) j = zfoP μ c x p q j from v4 j j0 j1]
                have b1 : -9999 ≤ zfo μ (μ 11) c x p q ∧ zfo μ (μ 11) c x p q ≤ 9999 := zfore_le _ _ _ _ _ _ _ _
                have b2 : -9999 ≤ zfo μ (μ 12) c x p q ∧ zfo μ (μ 12) c x p q ≤ 9999 := zfore_le _ _ _ _ _ _ _ _
                have b3 := hW.1 (6 * (c : Int) + j) (by omega) (by omega)
                unfold zfoP
                (repeat' split) <;> omega
              refine fn_aload_0 hV dX10_foretoldError_135 ?_
              refine fn_getR hV dX10_foretoldError_136 fl_X10_71 fr_0_9 ?_
              refine fn_iload_2 hV dX10_foretoldError_139 ?_
              refine fn_iconst hV dX10_foretoldError_140 ?_
              refine fn_cV2 hV (c_X0_errorOn E _ 3 (by decide) hP4 _ _ (by decide)) mv_X0_errorOn lk_X10_119 dX10_foretoldError_141 sh_6 rfl ⟨rfl, rfl⟩ rfl ?_
              exact fn_iret hR dX10_foretoldError_144 (zXP.fr hC (F4.mono (by decide)) (by unfold S_foretoldError; rw [if_neg (by omega), if_neg (by omega)]; exact zer_congr v4 h 0))
            · refine fn_sipush hV dX10_foretoldError_60 rfl ?_
              exact fn_iret hR dX10_foretoldError_63 (zXP.rf hC (by unfold S_foretoldError; rw [if_neg (by omega), if_pos (by omega)]))
          · refine fn_sipush hV dX10_foretoldError_41 rfl ?_
            exact fn_iret hR dX10_foretoldError_44 (zXP.rf hC (by unfold S_foretoldError; (repeat' split) <;> first | rfl | omega))
    · refine fn_sipush hV dX10_foretoldError_14 rfl ?_
      exact fn_iret hR dX10_foretoldError_17 (zXP.rf hC (by unfold S_foretoldError; (repeat' split) <;> first | rfl | omega))

set_option maxHeartbeats 4000000 in
set_option maxRecDepth 20000 in
theorem c_X10_event (E : fnE) (σ μ : fnMem) (hC : zCR σ μ) (hW : zWF μ) (k : Int) (h_k : fnR k) (d : Int) (h_d : fnR d) (p : Int) (h_p : fnR p) (v : Int) (h_v : fnR v) : fnOk E mX10_event [.ref 0, zI k, zI d, zI p, zI v] σ (fnQI (zXP (S_event μ k d p v) (U_event μ k d p v) σ)) := by
  refine fnOk.of [.ref 0, zI k, zI d, zI p, zI v] rfl (by decide +kernel) rfl (fun V hV hR => ?_)
  replace hV : fnCx E RX10 cX10_event 5 2 42 V := hV
  replace hR : fnRt cX10_event (some .int) _ V := hR
  refine fn_iload_1 hV dX10_event_0 ?_
  refine fn_iconst hV dX10_event_1 ?_
  refine fn_bipush hV dX10_event_2 rfl ?_
  refine fn_cS3 hV (c_X10_within E _ _ _ _ (by omega) (by omega) (by omega)) ms_X10_within lk_X10_106 dX10_event_4 ⟨rfl, rfl⟩ rfl ?_
  refine fn_ifeqb hV dX10_event_7 (fun q7 => ?_) (fun q7 => ?_)
  · refine fn_sipush hV dX10_event_17 rfl ?_
    exact fn_iret hR dX10_event_20 (zXP.rfU hC (by unfold S_event; (repeat' split) <;> first | rfl | omega) (by unfold U_event; exact if_neg (by omega)))
  · refine fn_iload_3 hV dX10_event_10 ?_
    refine fn_cS1 hV (c_X10_isPart E _ _ (by omega)) ms_X10_isPart lk_X10_103 dX10_event_11 ⟨rfl, rfl⟩ rfl ?_
    refine fn_ifneb hV dX10_event_14 (fun q14 => ?_) (fun q14 => ?_)
    · refine fn_iload_2 hV dX10_event_21 ?_
      refine fn_cS1 hV (c_X10_isDay E _ _ (by omega)) ms_X10_isDay lk_X10_270 dX10_event_22 ⟨rfl, rfl⟩ rfl ?_
      refine fn_ifeqb hV dX10_event_25 (fun q25 => ?_) (fun q25 => ?_)
      · refine fn_sipush hV dX10_event_42 rfl ?_
        exact fn_iret hR dX10_event_45 (zXP.rfU hC (by unfold S_event; (repeat' split) <;> first | rfl | omega) (by unfold U_event; exact if_neg (by omega)))
      · refine fn_iload_4 hV dX10_event_28 ?_
        refine fn_sipush hV dX10_event_30 rfl ?_
        refine fn_sipush hV dX10_event_33 rfl ?_
        refine fn_cS3 hV (c_X10_within E _ _ _ _ (by omega) (by omega) (by omega)) ms_X10_within lk_X10_106 dX10_event_36 ⟨rfl, rfl⟩ rfl ?_
        refine fn_ifneb hV dX10_event_39 (fun q39 => ?_) (fun q39 => ?_)
        · refine fn_aload_0 hV dX10_event_46 ?_
          refine fn_getR hV dX10_event_47 fl_X10_45 fr_0_5 ?_
          refine fn_iload_1 hV dX10_event_50 ?_
          refine fn_iload_2 hV dX10_event_51 ?_
          refine fn_iload_3 hV dX10_event_52 ?_
          refine fn_iload_4 hV dX10_event_53 ?_
          refine fn_cV4 hV (c_X1_write E _ _ _ _ _ (by omega)) mv_X1_write lk_X10_273 dX10_event_55 sh_32 rfl ⟨rfl, rfl⟩ rfl ?_
          exact fn_iret hR dX10_event_58 (fnQI.mk ⟨by unfold S_event; rw [if_neg (by omega), if_neg (by omega)]; exact hC.2.2.2.2.1.2.2 k (by omega) (by omega), by rw [show U_event μ k d p v = fnUp (fnUp (fnUp μ 13 k d) 14 k p) 15 k v from by unfold U_event; exact if_pos (by omega)]; exact zCR_event hC k d p v, fun j hj => by rw [fnUp_ne _ _ _ (by omega), fnUp_ne _ _ _ (by omega), fnUp_ne _ _ _ (by omega)]⟩)
        · refine fn_sipush hV dX10_event_42 rfl ?_
          exact fn_iret hR dX10_event_45 (zXP.rfU hC (by unfold S_event; (repeat' split) <;> first | rfl | omega) (by unfold U_event; exact if_neg (by omega)))
    · refine fn_sipush hV dX10_event_17 rfl ?_
      exact fn_iret hR dX10_event_20 (zXP.rfU hC (by unfold S_event; (repeat' split) <;> first | rfl | omega) (by unfold U_event; exact if_neg (by omega)))

set_option maxHeartbeats 4000000 in
set_option maxRecDepth 20000 in
theorem c_X10_cardOfDay (E : fnE) (σ μ : fnMem) (hC : zCR σ μ) (hW : zWF μ) (d : Int) (hd : 0 ≤ d ∧ d ≤ 999) : fnOk E mX10_cardOfDay [.ref 0, zI d] σ (fnQr 6 (fun s => fnFr [10] σ s ∧ ∀ j, 0 ≤ j → j < 6 → s 10 j = zasof μ d j)) := by
  refine fnOk.of [.ref 0, zI d] rfl (by decide +kernel) rfl (fun V hV hR => ?_)
  replace hV : fnCx E RX10 cX10_cardOfDay 2 2 47 V := hV
  replace hR : fnRt cX10_cardOfDay (some (.object "FooledNeedle$Card")) _ V := hR
  have hCf : ∀ s, fnFr [10] σ s → zCR s μ := fun s hs => zCR_fr hC (hs.mono (by decide))
  refine fn_aload_0 hV dX10_cardOfDay_0 ?_
  refine fn_getR hV dX10_cardOfDay_1 fl_X10_71 fr_0_9 ?_
  refine fn_aload_0 hV dX10_cardOfDay_4 ?_
  refine fn_getR hV dX10_cardOfDay_5 fl_X10_11 fr_0_0 ?_
  refine fn_iconst hV dX10_cardOfDay_8 ?_
  refine fn_aaldC hV 0 dX10_cardOfDay_9 (by decide) rfl ?_
  refine fn_cV1Q hV (c_X0_copyQ E _ 0 (by decide)) mv_X0_copyFrom lk_X10_267 dX10_cardOfDay_10 sh_6 rfl ⟨rfl, rfl⟩ rfl (fun σ1 hp => ?_)
  have F0 : fnFr [10] σ σ1 := by rw [hp]; exact fun k hk => fnSt_ne _ _ (by simpa using hk)
  have v0 : ∀ j, 0 ≤ j → j < 6 → σ1 10 j = μ 1 j := fun j j0 j1 => by
    rw [hp, fnSt_same, if_pos ⟨j0, j1⟩]
    have := hC.1 0 (by decide) j j0 j1
    simpa using this
  refine fn_aload_0 hV dX10_cardOfDay_13 ?_
  refine fn_getR hV dX10_cardOfDay_14 fl_X10_45 fr_0_5 ?_
  refine fn_aload_0 hV dX10_cardOfDay_17 ?_
  refine fn_getR hV dX10_cardOfDay_18 fl_X10_71 fr_0_9 ?_
  refine fn_iload_1 hV dX10_cardOfDay_21 ?_
  refine fn_cV2Q hV (c_X1_putTo E _ ((hCf _ F0).kEv hW) _ hd) mv_X1_putTo lk_X10_383 dX10_cardOfDay_22 sh_32 rfl ⟨rfl, rfl⟩ rfl (fun σ2 hp => ?_)
  obtain ⟨F1, v1⟩ := hp
  refine fn_aload_0 hV dX10_cardOfDay_25 ?_
  refine fn_getR hV dX10_cardOfDay_26 fl_X10_71 fr_0_9 ?_
  exact fn_aret hR dX10_cardOfDay_29 (fnQr.mk ⟨F0.tr F1, fun j j0 j1 => by rw [v1 j j0 j1, v0 j j0 j1, zput_eq (hCf _ F0)]; rfl⟩)

set_option maxHeartbeats 4000000 in
set_option maxRecDepth 20000 in
theorem c_X10_asOf (E : fnE) (σ μ : fnMem) (hC : zCR σ μ) (hW : zWF μ) (p : Int) (h_p : fnR p) (d : Int) (h_d : fnR d) : fnOk E mX10_asOf [.ref 0, zI p, zI d] σ (fnQI (zXP (S_asOf μ p d) (μ) σ)) := by
  refine fnOk.of [.ref 0, zI p, zI d] rfl (by decide +kernel) rfl (fun V hV hR => ?_)
  replace hV : fnCx E RX10 cX10_asOf 3 3 68 V := hV
  replace hR : fnRt cX10_asOf (some .int) _ V := hR
  refine fn_iload_1 hV dX10_asOf_0 ?_
  refine fn_cS1 hV (c_X10_isPart E _ _ (by omega)) ms_X10_isPart lk_X10_103 dX10_asOf_1 ⟨rfl, rfl⟩ rfl ?_
  refine fn_ifneb hV dX10_asOf_4 (fun q4 => ?_) (fun q4 => ?_)
  · refine fn_iload_2 hV dX10_asOf_11 ?_
    refine fn_cS1 hV (c_X10_isDay E _ _ (by omega)) ms_X10_isDay lk_X10_270 dX10_asOf_12 ⟨rfl, rfl⟩ rfl ?_
    refine fn_ifneb hV dX10_asOf_15 (fun q15 => ?_) (fun q15 => ?_)
    · refine fn_aload_0 hV dX10_asOf_22 ?_
      refine fn_iload_2 hV dX10_asOf_23 ?_
      refine fn_cV1R hV (c_X10_cardOfDay E _ μ hC hW _ (by omega)) mv_X10_cardOfDay lk_X10_276 dX10_asOf_24 sh_0 rfl ⟨rfl, rfl⟩ rfl (fun σ1 hp => ?_)
      obtain ⟨lF, lv⟩ := hp
      refine fn_getR hV dX10_asOf_27 fl_X10_110 fr_6_0 ?_
      refine fn_iload_1 hV dX10_asOf_30 ?_
      refine fn_iald hV dX10_asOf_31 ar_10 (by omega) (by omega) ?_
      exact fn_iret hR dX10_asOf_32 (zXP.fr hC (lF.mono (by decide)) (by unfold S_asOf; rw [if_neg (by omega), if_neg (by omega)]; exact lv p (by omega) (by omega)))
    · refine fn_sipush hV dX10_asOf_18 rfl ?_
      exact fn_iret hR dX10_asOf_21 (zXP.rf hC (by unfold S_asOf; (repeat' split) <;> first | rfl | omega))
  · refine fn_sipush hV dX10_asOf_7 rfl ?_
    exact fn_iret hR dX10_asOf_10 (zXP.rf hC (by unfold S_asOf; (repeat' split) <;> first | rfl | omega))
