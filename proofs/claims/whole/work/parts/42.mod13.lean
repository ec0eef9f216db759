set_option maxHeartbeats 4000000 in
set_option maxRecDepth 20000 in
theorem c_X11_middle (E : fnE) (σ : fnMem) (a e : Int) (n : Nat) (hn : 0 < n) (ha : 0 ≤ a) (he : e = a + n) (h40 : e ≤ 40) (hB : ∀ j, a ≤ j → j < a + n → -2000000 ≤ σ 76 j ∧ σ 76 j ≤ 2000000) : fnOk E mX11_middle [.ref 51, zI a, zI e] σ (fnQI (fun z σ1 => z = zmid (σ 76) a n ∧ fnFr [77] σ σ1)) := by
  refine fnOk.of [.ref 51, zI a, zI e, .null, .null, .null] rfl (by decide +kernel) rfl (fun V hV hR => ?_)
  replace hV : fnCx E RX11 cX11_middle 6 0 0 V := hV
  replace hR : fnRt cX11_middle (some .int) _ V := hR
  refine fn_iconst hV dX11_middle_0 ?_
  refine fn_istore_3 hV dX11_middle_1 rfl rfl ?_
  refine fn_iload_1 hV dX11_middle_2 ?_
  refine fn_istore_4 hV dX11_middle_3 rfl rfl ?_
  have L : ∀ k : Nat, k ≤ n → ∀ (i t : Int) (σ1 : fnMem), True → (i = k ∧ t = a + k) → (fnFr [77] σ σ1) → (σ1 77 = zsrt (σ 76) a k (σ 77)) → V 5 [.ref 51, zI a, zI e, zI i, zI t, .null] [] σ1 := by
    refine fn_rec (fun k hk ihL => ?_)
    intro i t σ1 _ hi hF hv
    refine fn_iload_4 hV dX11_middle_5 ?_
    refine fn_iload_2 hV dX11_middle_7 ?_
    refine fn_icmp_ge hV (by omega) (by omega) dX11_middle_8 (fun q8 => ?_) (fun q8 => ?_)
    · refine fn_aload_0 hV dX11_middle_83 ?_
      refine fn_getR hV dX11_middle_84 fl_X11_90 fr_51_30 ?_
      refine fn_iload_3 hV dX11_middle_87 ?_
      refine fn_iconst hV dX11_middle_88 ?_
      refine fn_isub hV dX11_middle_89 ?_
      refine fn_iconst hV dX11_middle_90 ?_
      refine fn_idivp hV dX11_middle_91 (by omega) (by omega) ?_
      refine fn_iald hV dX11_middle_92 ar_77 (by omega) (by omega) ?_
      exact fn_iret hR dX11_middle_93 (fnQI.mk ⟨by unfold zmid; rw [if_neg (by omega), hv, show k = n by omega, zsrt_eq (σ 76) a n (σ 77) (fun _ => 0) _ (by omega) (by omega), show i = (n : Int) by omega], hF⟩)
    · have e45 : σ1 76 = σ 76 := hF 76 (by decide)
      have r1 := hB t (by omega) (by omega)
      rw [← e45] at r1
      have r2 := zsrt_le (R := σ 76) (a := a) (B := 2000000) k (σ 77) (fun j j0 j1 => hB j j0 (by omega))
      refine fn_iload_3 hV dX11_middle_11 ?_
      refine fn_istore_5 hV dX11_middle_12 rfl rfl ?_
      have L2 : ∀ k2 : Nat, k2 ≤ k → ∀ (h : Int) (σ2 : fnMem), True → (h = (k : Int) - k2) → (fnFr [77] σ1 σ2) → (∀ j, 0 ≤ j → j < h → σ2 77 j = σ1 77 j) → (zinsA (σ1 76 t) k (σ1 77) = zinsA (σ1 76 t) (k - k2) (σ2 77)) → V 14 [.ref 51, zI a, zI e, zI i, zI t, zI h] [] σ2 := by
        refine fn_rec (fun k2 hk2 ihL2 => ?_)
        intro h σ2 _ hh gF gl gv
        refine fn_iload_5 hV dX11_middle_14 ?_
        refine fn_if_le hV (by omega) dX11_middle_16 (fun q16 => ?_) (fun q16 => ?_)
        · have g45 : σ2 76 = σ1 76 := gF 76 (by decide)
          refine fn_aload_0 hV dX11_middle_60 ?_
          refine fn_getR hV dX11_middle_61 fl_X11_90 fr_51_30 ?_
          refine fn_iload_5 hV dX11_middle_64 ?_
          refine fn_aload_0 hV dX11_middle_66 ?_
          refine fn_getR hV dX11_middle_67 fl_X11_87 fr_51_29 ?_
          refine fn_iload_4 hV dX11_middle_70 ?_
          refine fn_iald hV dX11_middle_72 ar_76 (by omega) (by omega) ?_
          refine fn_iast hV dX11_middle_73 ar_77 (by omega) (by omega) ?_
          refine fn_iinc_3 hV dX11_middle_74 rfl rfl ?_
          refine fn_iinc_4 hV dX11_middle_77 rfl rfl ?_
          refine fn_goto hV dX11_middle_80 ?_
          refine fn_nul_5 hV ?_
          exact ihL (k + 1) (by omega) (by omega) _ _ _ trivial (by omega) (hF.tr (gF.up (by decide))) (by rw [zsrt_s, ← hv, ← e45, show a + (k : Int) = t by omega, gv, show k - k2 = 0 by omega, fnUp_same, g45, show h = 0 by omega]; rfl)
        · have g45 : σ2 76 = σ1 76 := gF 76 (by decide)
          have r3 := r2 (h - 1) (by omega) (by omega)
          rw [← hv, ← gl (h - 1) (by omega) (by omega)] at r3
          rw [← g45] at r1
          refine fn_aload_0 hV dX11_middle_19 ?_
          refine fn_getR hV dX11_middle_20 fl_X11_90 fr_51_30 ?_
          refine fn_iload_5 hV dX11_middle_23 ?_
          refine fn_iconst hV dX11_middle_25 ?_
          refine fn_isub hV dX11_middle_26 ?_
          refine fn_iald hV dX11_middle_27 ar_77 (by omega) (by omega) ?_
          refine fn_aload_0 hV dX11_middle_28 ?_
          refine fn_getR hV dX11_middle_29 fl_X11_87 fr_51_29 ?_
          refine fn_iload_4 hV dX11_middle_32 ?_
          refine fn_iald hV dX11_middle_34 ar_76 (by omega) (by omega) ?_
          refine fn_icmp_le hV (by omega) (by omega) dX11_middle_35 (fun q35 => ?_) (fun q35 => ?_)
          · have g45 : σ2 76 = σ1 76 := gF 76 (by decide)
            refine fn_aload_0 hV dX11_middle_60 ?_
            refine fn_getR hV dX11_middle_61 fl_X11_90 fr_51_30 ?_
            refine fn_iload_5 hV dX11_middle_64 ?_
            refine fn_aload_0 hV dX11_middle_66 ?_
            refine fn_getR hV dX11_middle_67 fl_X11_87 fr_51_29 ?_
            refine fn_iload_4 hV dX11_middle_70 ?_
            refine fn_iald hV dX11_middle_72 ar_76 (by omega) (by omega) ?_
            refine fn_iast hV dX11_middle_73 ar_77 (by omega) (by omega) ?_
            refine fn_iinc_3 hV dX11_middle_74 rfl rfl ?_
            refine fn_iinc_4 hV dX11_middle_77 rfl rfl ?_
            refine fn_goto hV dX11_middle_80 ?_
            refine fn_nul_5 hV ?_
            exact ihL (k + 1) (by omega) (by omega) _ _ _ trivial (by omega) (hF.tr (gF.up (by decide))) (by rw [zsrt_s, ← hv, ← e45, show a + (k : Int) = t by omega, gv, show k - k2 = k - (k2 + 1) + 1 by omega, zinsA_s, show ((k - (k2 + 1) + 1 : Nat) : Int) = h by omega, show ((k - (k2 + 1) : Nat) : Int) = h - 1 by omega, if_neg (by rw [← g45]; omega), fnUp_same, g45]; rfl)
          · refine fn_aload_0 hV dX11_middle_38 ?_
            refine fn_getR hV dX11_middle_39 fl_X11_90 fr_51_30 ?_
            refine fn_iload_5 hV dX11_middle_42 ?_
            refine fn_aload_0 hV dX11_middle_44 ?_
            refine fn_getR hV dX11_middle_45 fl_X11_90 fr_51_30 ?_
            refine fn_iload_5 hV dX11_middle_48 ?_
            refine fn_iconst hV dX11_middle_50 ?_
            refine fn_isub hV dX11_middle_51 ?_
            refine fn_iald hV dX11_middle_52 ar_77 (by omega) (by omega) ?_
            refine fn_iast hV dX11_middle_53 ar_77 (by omega) (by omega) ?_
            refine fn_iinc_5 hV dX11_middle_54 rfl rfl ?_
            refine fn_goto hV dX11_middle_57 ?_
            have hk3 : k - k2 = k - (k2 + 1) + 1 := by omega
            exact ihL2 (k2 + 1) (by omega) (by omega) _ _ trivial (by omega) (gF.up (by decide)) (fun j j0 j1 => by rw [fnUp_off _ _ _ (by omega)]; exact gl j j0 (by omega)) (by rw [gv, hk3, zinsA_s, show ((k - (k2 + 1) + 1 : Nat) : Int) = h by omega, show ((k - (k2 + 1) : Nat) : Int) = h - 1 by omega, if_pos (by rw [← g45]; omega), fnUp_same]; rfl)
      exact L2 0 (by omega) _ _ trivial (by omega) fnFr.rf (fun _ _ _ => rfl) (by rw [Nat.sub_zero])
  exact L 0 (by omega) _ _ _ trivial (by omega) fnFr.rf rfl

set_option maxHeartbeats 4000000 in
set_option maxRecDepth 20000 in
theorem c_X11_costOf (E : fnE) (σ : fnMem) (a e : Int) (n : Nat) (ha : 0 ≤ a) (he : e = a + n) (h40 : e ≤ 40) (hB : ∀ j, a ≤ j → j < a + n → -2000000 ≤ σ 76 j ∧ σ 76 j ≤ 2000000) : fnOk E mX11_costOf [.ref 51, zI a, zI e] σ (fnQI (fun z σ1 => z = zcost (σ 76) a n ∧ fnFr [77] σ σ1)) := by
  refine fnOk.of [.ref 51, zI a, zI e, .null, .null, .null] rfl (by decide +kernel) rfl (fun V hV hR => ?_)
  replace hV : fnCx E RX11 cX11_costOf 6 1 25 V := hV
  replace hR : fnRt cX11_costOf (some .int) _ V := hR
  refine fn_iconst hV dX11_costOf_0 ?_
  refine fn_istore_3 hV dX11_costOf_1 rfl rfl ?_
  refine fn_iload_1 hV dX11_costOf_2 ?_
  refine fn_iload_2 hV dX11_costOf_3 ?_
  refine fn_icmp_ge hV (by omega) (by omega) dX11_costOf_4 (fun q4 => ?_) (fun q4 => ?_)
  · refine fn_iload_3 hV dX11_costOf_46 ?_
    exact fn_iret hR dX11_costOf_47 (by first | exact fnQI.mk ⟨by rw [hs, show k = n by omega]; rfl, gF⟩ | exact fnQI.mk ⟨by rw [show n = 0 by omega]; rfl, fnFr.rf⟩)
  · refine fn_aload_0 hV dX11_costOf_7 ?_
    refine fn_iload_1 hV dX11_costOf_8 ?_
    refine fn_iload_2 hV dX11_costOf_9 ?_
    refine fn_cV2I hV (c_X11_middle E _ _ _ n (by omega) (by omega) (by omega) (by omega) hB) mv_X11_middle lk_X11_301 dX11_costOf_10 sh_51 rfl ⟨rfl, rfl⟩ rfl (fun md σ1 hp => ?_)
    obtain ⟨rfl, gF⟩ := hp
    have e45 : σ1 76 = σ 76 := gF 76 (by decide)
    have hm := zmid_le (B := 2000000) (by decide) hB
    refine fn_istore_4 hV dX11_costOf_13 rfl rfl ?_
    refine fn_iload_1 hV dX11_costOf_15 ?_
    refine fn_istore_5 hV dX11_costOf_16 rfl rfl ?_
    have L : ∀ k : Nat, k ≤ n → ∀ (i s : Int), True → (i = a + k) → (s = zsum (fun t => zabs (σ 76 (a + t) - zmid (σ 76) a n)) k) → V 18 [.ref 51, zI a, zI e, zI s, zI (zmid (σ 76) a n), zI i] [] σ1 := by
      refine fn_rec (fun k hk ihL => ?_)
      intro i s _ hi hs
      refine fn_iload_5 hV dX11_costOf_18 ?_
      refine fn_iload_2 hV dX11_costOf_20 ?_
      refine fn_icmp_ge hV (by omega) (by omega) dX11_costOf_21 (fun q21 => ?_) (fun q21 => ?_)
      · refine fn_iload_3 hV dX11_costOf_46 ?_
        exact fn_iret hR dX11_costOf_47 (by first | exact fnQI.mk ⟨by rw [hs, show k = n by omega]; rfl, gF⟩ | exact fnQI.mk ⟨by rw [show n = 0 by omega]; rfl, fnFr.rf⟩)
      · have r1 := hB i (by omega) (by omega)
        rw [← e45] at r1
        refine fn_iload_3 hV dX11_costOf_24 ?_
        refine fn_aload_0 hV dX11_costOf_25 ?_
        refine fn_getR hV dX11_costOf_26 fl_X11_87 fr_51_29 ?_
        refine fn_iload_5 hV dX11_costOf_29 ?_
        refine fn_iald hV dX11_costOf_31 ar_76 (by omega) (by omega) ?_
        refine fn_iload_4 hV dX11_costOf_32 ?_
        refine fn_isub hV dX11_costOf_34 ?_
        refine fn_cS1 hV (c_X11_size E _ _ (by omega)) ms_X11_size lk_X11_178 dX11_costOf_35 ⟨rfl, rfl⟩ rfl ?_
        refine fn_iadd hV dX11_costOf_38 ?_
        refine fn_istore_3 hV dX11_costOf_39 rfl rfl ?_
        refine fn_iinc_5 hV dX11_costOf_40 rfl rfl ?_
        refine fn_goto hV dX11_costOf_43 ?_
        exact ihL (k + 1) (by omega) (by omega) _ _ trivial (by omega) (by rw [zsum_s, ← hi, ← hs, e45])
    exact L 0 (by omega) _ _ trivial (by omega) rfl
