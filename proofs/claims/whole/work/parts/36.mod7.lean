theorem fnSc.fr2 {μ s s1 : fnMem} (h : fnSc μ (mv s)) (hF : fnFr [51, 73, 74, 75, 76, 77, 78] s s1) (h51 : ∀ j, j ≠ 0 → j ≠ 28 → s1 51 j = s 51 j) : fnSc μ (mv s1) := by
  intro a j ha hj
  show s1 (51 + a) j = _
  by_cases h0 : a = 0
  · subst h0
    rw [show s1 (51 + 0) j = s1 51 j from rfl, h51 j (by omega) (by omega)]
    exact h 0 j ha hj
  · rw [hF (51 + a) (by simp; omega)]
    exact h a j ha hj
def zB4m (s : zB4) : Prop := s.2.1 = zone s.2.2.1 + zone s.2.2.2
theorem zbr_m {St : Int → Int} {b c x : Int} {s : zB4} (hs : zB4m s) : ∀ n : Nat, zB4m (zbr St b c x n s)
  | 0 => hs
  | n + 1 => by
    rw [zbr_s]
    unfold zbs
    split
    · exact rfl
    · exact zbr_m hs n
theorem zbo_m {St : Int → Int} {b c : Int} {s : zB4} (hs : zB4m s) : ∀ n : Nat, zB4m (zbo St b c n s)
  | 0 => hs
  | n + 1 => by
    rw [zbo_s]
    exact zbr_m (zbo_m hs n) 97
theorem zB4m0 (a : Int) : zB4m (a, 0, 0, 0) := by
  show (0 : Int) = zone 0 + zone 0
  decide
theorem zbst_m (μ : fnMem) : (zbst μ).2.1 = zone (zbst μ).2.2.1 + zone (zbst μ).2.2.2 := by
  have h : zB4m (zbst μ) := by
    unfold zbst zbest
    exact zbo_m (zB4m0 _) 97
  unfold zB4m at h
  exact h
theorem zbst_in (μ : fnMem) : zB4in (zbst μ) := by
  unfold zbst
  exact zbest_in _ _ _
theorem zlaid_nn (μ : fnMem) : 0 ≤ zlaid μ ∧ zlaid μ ≤ 7 := by
  have := zsum01 (G := fun k => if μ 4 k ≠ -2009 then 1 else 0) (fun k => by (try dsimp only); split <;> omega) 6
  unfold zlaid
  split <;> omega
def zcd (μ : fnMem) (k : Nat) : Int := if k = 0 then (zbst μ).2.2.1 else (zbst μ).2.2.2
def zly (μ : fnMem) : Nat → fnMem
  | 0 => U_lift μ
  | n + 1 => zsb (zly μ n) (zcd μ n) n
theorem zly_s (μ : fnMem) (n : Nat) : zly μ (n + 1) = zsb (zly μ n) (zcd μ n) n := rfl
theorem zcd_in (μ : fnMem) (k : Nat) : 0 ≤ zcd μ k ∧ zcd μ k ≤ 96 := by
  have := zbst_in μ
  unfold zB4in at this
  unfold zcd
  split
  · exact this.1
  · exact this.2

set_option maxHeartbeats 4000000 in
set_option maxRecDepth 20000 in
theorem c_X11_best (E : fnE) (σ : fnMem) (hW : zWF (mv σ))  : fnOk E mX11_best [.ref 51] σ (fnQI (zMP (zrst (mv σ)) (mv σ) σ)) := by
  refine fnOk.of [.ref 51] rfl (by decide +kernel) rfl (fun V hV hR => ?_)
  replace hV : fnCx E RX11 cX11_best 1 3 75 V := hV
  replace hR : fnRt cX11_best (some .int) _ V := hR
  refine fn_aload_0 hV dX11_best_0 ?_
  refine fn_iconst hV dX11_best_1 ?_
  refine fn_putIz hV 0 dX11_best_2 fp_X11_96 fi_51_0 rfl ?_
  generalize hσ1 : fnUp σ 51 0 0 = σ1
  have e : ∀ k, k ≠ 51 → σ1 k = σ k := fun k hk => by rw [← hσ1, fnUp_ne _ _ _ hk]
  have e0 : ∀ j, j ≠ 0 → σ1 51 j = mv σ 0 j := fun j hj => by rw [← hσ1, fnUp_off _ _ _ hj]; rfl
  refine fn_aload_0 hV dX11_best_5 ?_
  refine fn_cV0Q hV (c_X11_look E _ (mv σ) (zsc0 hσ1) hW) mv_X11_look lk_X11_240 dX11_best_6 sh_51 rfl ⟨rfl, rfl⟩ rfl (fun σ2 hp => ?_)
  obtain ⟨kF, k51, l0, l1, l2, l28⟩ := hp
  have hS2 : fnSc (mv σ) (mv σ2) := (zsc0 hσ1).fr2 (kF.mono (by decide)) (fun j _ h28 => k51 j h28)
  have k0 : ∀ k, k < 51 → σ2 k = σ1 k := fun k hk => kF k (by simp; omega)
  refine fn_aload_0 hV dX11_best_9 ?_
  refine fn_getIz hV 28 dX11_best_10 fl_X11_237 fi_51_28 rfl ?_
  exact fn_iret hR dX11_best_13 (zMP.up hσ1 l28 k0 hS2)

set_option maxHeartbeats 4000000 in
set_option maxRecDepth 20000 in
theorem c_X11_bestCode (E : fnE) (σ : fnMem) (hW : zWF (mv σ)) (w : Int) (h_w : fnR w) : fnOk E mX11_bestCode [.ref 51, zI w] σ (fnQI (zMP (S_bestCode (mv σ) w) (mv σ) σ)) := by
  refine fnOk.of [.ref 51, zI w] rfl (by decide +kernel) rfl (fun V hV hR => ?_)
  replace hV : fnCx E RX11 cX11_bestCode 2 3 75 V := hV
  replace hR : fnRt cX11_bestCode (some .int) _ V := hR
  refine fn_aload_0 hV dX11_bestCode_0 ?_
  refine fn_iconst hV dX11_bestCode_1 ?_
  refine fn_putIz hV 0 dX11_bestCode_2 fp_X11_96 fi_51_0 rfl ?_
  generalize hσ1 : fnUp σ 51 0 0 = σ1
  have e : ∀ k, k ≠ 51 → σ1 k = σ k := fun k hk => by rw [← hσ1, fnUp_ne _ _ _ hk]
  have e0 : ∀ j, j ≠ 0 → σ1 51 j = mv σ 0 j := fun j hj => by rw [← hσ1, fnUp_off _ _ _ hj]; rfl
  refine fn_aload_0 hV dX11_bestCode_5 ?_
  refine fn_cV0Q hV (c_X11_look E _ (mv σ) (zsc0 hσ1) hW) mv_X11_look lk_X11_240 dX11_bestCode_6 sh_51 rfl ⟨rfl, rfl⟩ rfl (fun σ2 hp => ?_)
  obtain ⟨kF, k51, l0, l1, l2, l28⟩ := hp
  have hS2 : fnSc (mv σ) (mv σ2) := (zsc0 hσ1).fr2 (kF.mono (by decide)) (fun j _ h28 => k51 j h28)
  have k0 : ∀ k, k < 51 → σ2 k = σ1 k := fun k hk => kF k (by simp; omega)
  have bi := zbst_in (mv σ)
  unfold zB4in at bi
  have bl := zbl_in (mv σ 7) (mv σ 1 3) 76
  have c0 : 0 ≤ σ2 75 0 ∧ σ2 75 0 ≤ 96 := by rw [l0]; exact bi.1
  have c1 : 0 ≤ σ2 75 1 ∧ σ2 75 1 ≤ 96 := by rw [l1]; exact bi.2
  have c2 : 0 ≤ σ2 75 2 ∧ σ2 75 2 ≤ 76 := by rw [l2]; exact ⟨bl.1, by unfold zbal; omega⟩
  refine fn_iload_1 hV dX11_bestCode_9 ?_
  refine fn_i2lr hV dX11_bestCode_10 (by omega) ?_
  refine fn_lconst0 hV dX11_bestCode_11 ?_
  refine fn_ldc2 hV dX11_bestCode_12 co_X11_99 ?_
  refine fn_cS3 hV (c_X11_in E _ _ _ _ (by omega) (by omega) (by omega)) ms_X11_in lk_X11_117 dX11_bestCode_15 ⟨rfl, rfl⟩ rfl ?_
  refine fn_ifeqb hV dX11_bestCode_18 (fun q18 => ?_) (fun q18 => ?_)
  · refine fn_iload_1 hV dX11_bestCode_30 ?_
    refine fn_iconst hV dX11_bestCode_31 ?_
    refine fn_icmp_ne hV (by omega) (by omega) dX11_bestCode_32 (fun q32 => ?_) (fun q32 => ?_)
    · refine fn_sipush hV dX11_bestCode_67 rfl ?_
      exact fn_iret hR dX11_bestCode_70 (zMP.up hσ1 (by
      unfold S_bestCode
      first
        | (rw [if_neg (by omega), if_neg (by omega), if_neg (by omega), if_neg (by omega)]; done)
        | (rw [if_neg (by omega), if_neg (by omega), if_neg (by omega), if_pos (by omega), l0, l1, l2]; rw [zbst_m]; done)
        | (rcases (show w = 0 ∨ w = 1 ∨ w = 2 by omega) with rfl | rfl | rfl
           · rw [if_pos rfl]; exact l0
           · rw [if_neg (by decide), if_pos rfl]; exact l1
           · rw [if_neg (by decide), if_neg (by decide), if_pos rfl]; exact l2)) k0 hS2)
    · refine fn_aload_0 hV dX11_bestCode_35 ?_
      refine fn_getR hV dX11_bestCode_36 fl_X11_84 fr_51_27 ?_
      refine fn_iconst hV dX11_bestCode_39 ?_
      refine fn_iald hV dX11_bestCode_40 ar_75 (by omega) (by omega) ?_
      refine fn_cS1 hV (c_X11_one E _ _ (by omega)) ms_X11_one lk_X11_231 dX11_bestCode_41 ⟨rfl, rfl⟩ rfl ?_
      refine fn_aload_0 hV dX11_bestCode_44 ?_
      refine fn_getR hV dX11_bestCode_45 fl_X11_84 fr_51_27 ?_
      refine fn_iconst hV dX11_bestCode_48 ?_
      refine fn_iald hV dX11_bestCode_49 ar_75 (by omega) (by omega) ?_
      refine fn_cS1 hV (c_X11_one E _ _ (by omega)) ms_X11_one lk_X11_231 dX11_bestCode_50 ⟨rfl, rfl⟩ rfl ?_
      refine fn_iadd hV dX11_bestCode_53 ?_
      refine fn_aload_0 hV dX11_bestCode_54 ?_
      refine fn_getR hV dX11_bestCode_55 fl_X11_84 fr_51_27 ?_
      refine fn_iconst hV dX11_bestCode_58 ?_
      refine fn_iald hV dX11_bestCode_59 ar_75 (by omega) (by omega) ?_
      refine fn_cS1 hV (c_X11_one E _ _ (by omega)) ms_X11_one lk_X11_231 dX11_bestCode_60 ⟨rfl, rfl⟩ rfl ?_
      refine fn_iadd hV dX11_bestCode_63 ?_
      refine fn_goto hV dX11_bestCode_64 ?_
      exact fn_iret hR dX11_bestCode_70 (zMP.up hσ1 (by
      unfold S_bestCode
      first
        | (rw [if_neg (by omega), if_neg (by omega), if_neg (by omega), if_neg (by omega)]; done)
        | (rw [if_neg (by omega), if_neg (by omega), if_neg (by omega), if_pos (by omega), l0, l1, l2]; rw [zbst_m]; done)
        | (rcases (show w = 0 ∨ w = 1 ∨ w = 2 by omega) with rfl | rfl | rfl
           · rw [if_pos rfl]; exact l0
           · rw [if_neg (by decide), if_pos rfl]; exact l1
           · rw [if_neg (by decide), if_neg (by decide), if_pos rfl]; exact l2)) k0 hS2)
  · refine fn_aload_0 hV dX11_bestCode_21 ?_
    refine fn_getR hV dX11_bestCode_22 fl_X11_84 fr_51_27 ?_
    refine fn_iload_1 hV dX11_bestCode_25 ?_
    refine fn_iald hV dX11_bestCode_26 ar_75 (by omega) (by omega) ?_
    refine fn_goto hV dX11_bestCode_27 ?_
    exact fn_iret hR dX11_bestCode_70 (zMP.up hσ1 (by
      unfold S_bestCode
      first
        | (rw [if_neg (by omega), if_neg (by omega), if_neg (by omega), if_neg (by omega)]; done)
        | (rw [if_neg (by omega), if_neg (by omega), if_neg (by omega), if_pos (by omega), l0, l1, l2]; rw [zbst_m]; done)
        | (rcases (show w = 0 ∨ w = 1 ∨ w = 2 by omega) with rfl | rfl | rfl
           · rw [if_pos rfl]; exact l0
           · rw [if_neg (by decide), if_pos rfl]; exact l1
           · rw [if_neg (by decide), if_neg (by decide), if_pos rfl]; exact l2)) k0 hS2)

set_option maxHeartbeats 4000000 in
set_option maxRecDepth 20000 in
theorem c_X11_layBest (E : fnE) (σ : fnMem) (hW : zWF (mv σ))  : fnOk E mX11_layBest [.ref 51] σ (fnQI (zMP (zrst (mv σ)) (U_layBest (mv σ)) σ)) := by
  refine fnOk.of [.ref 51, .null, .null, .null] rfl (by decide +kernel) rfl (fun V hV hR => ?_)
  replace hV : fnCx E RX11 cX11_layBest 4 3 75 V := hV
  replace hR : fnRt cX11_layBest (some .int) _ V := hR
  refine fn_aload_0 hV dX11_layBest_0 ?_
  refine fn_iconst hV dX11_layBest_1 ?_
  refine fn_putIz hV 0 dX11_layBest_2 fp_X11_96 fi_51_0 rfl ?_
  generalize hσ1 : fnUp σ 51 0 0 = σ1
  have e : ∀ k, k ≠ 51 → σ1 k = σ k := fun k hk => by rw [← hσ1, fnUp_ne _ _ _ hk]
  have e0 : ∀ j, j ≠ 0 → σ1 51 j = mv σ 0 j := fun j hj => by rw [← hσ1, fnUp_off _ _ _ hj]; rfl
  refine fn_aload_0 hV dX11_layBest_5 ?_
  refine fn_cV0Q hV (c_X11_look E _ (mv σ) (zsc0 hσ1) hW) mv_X11_look lk_X11_240 dX11_layBest_6 sh_51 rfl ⟨rfl, rfl⟩ rfl (fun σ2 hp => ?_)
  obtain ⟨kF, k51, l0, l1, l2, l28⟩ := hp
  have hS2 : fnSc (mv σ) (mv σ2) := (zsc0 hσ1).fr2 (kF.mono (by decide)) (fun j _ h28 => k51 j h28)
  have k0 : ∀ k, k < 51 → σ2 k = σ1 k := fun k hk => kF k (by simp; omega)
  refine fn_aload_0 hV dX11_layBest_9 ?_
  refine fn_cV0I hV (c_X11_lifted E _ (mv σ) hS2 hW) mv_X11_lifted lk_X11_220 dX11_layBest_10 sh_51 rfl ⟨rfl, rfl⟩ rfl (fun z σ3 hp => ?_)
  obtain ⟨rfl, lF, l51, lS⟩ := hp
  refine fn_istore_1 hV dX11_layBest_13 rfl rfl ?_
  refine fn_iconst hV dX11_layBest_14 ?_
  refine fn_istore_2 hV dX11_layBest_15 rfl rfl ?_
  have L : ∀ k : Nat, k ≤ 2 → ∀ (i : Int) (σ4 : fnMem), True → (i = k) → (∀ k, k < 51 → σ4 k = σ1 k) → (σ4 75 = σ2 75) → (σ4 51 28 = zrst (mv σ)) → (fnSc (zly (mv σ) k) (mv σ4)) → V 16 [.ref 51, zI (zlaid (mv σ)), zI i, .null] [] σ4 := by
    refine fn_rec (fun k hk ihL => ?_)
    intro i σ4 _ hi hF h75 h28 hS
    refine fn_iload_2 hV dX11_layBest_16 ?_
    have hcd := zcd_in (mv σ) k
    have hD : k < 2 → σ4 75 i = zcd (mv σ) k := fun hk2 => by
      rw [h75, hi]
      unfold zcd
      rcases (show k = 0 ∨ k = 1 by omega) with rfl | rfl
      · rw [if_pos rfl]; exact l0
      · rw [if_neg (by decide)]; exact l1
    refine fn_iconst hV dX11_layBest_17 ?_
    refine fn_icmp_ge hV (by omega) (by omega) dX11_layBest_18 (fun q18 => ?_) (fun q18 => ?_)
    · have zl := zlaid_nn (mv σ)
      have bl := zbl_in (mv σ 7) (mv σ 1 3) 76
      have e2 : σ4 75 2 = zbal (mv σ) := by rw [h75]; exact l2
      have c2 : 0 ≤ σ4 75 2 ∧ σ4 75 2 ≤ 76 := by rw [e2]; exact ⟨bl.1, by unfold zbal; omega⟩
      rw [show k = 2 by omega] at hS
      refine fn_aload_0 hV dX11_layBest_88 ?_
      refine fn_getR hV dX11_layBest_89 fl_X11_84 fr_51_27 ?_
      refine fn_iconst hV dX11_layBest_92 ?_
      refine fn_iald hV dX11_layBest_93 ar_75 (by omega) (by omega) ?_
      refine fn_if_le hV (by omega) dX11_layBest_94 (fun q94 => ?_) (fun q94 => ?_)
      · refine fn_iload_1 hV dX11_layBest_129 ?_
        refine fn_if_ge hV (by omega) dX11_layBest_130 (fun q130 => ?_) (fun q130 => ?_)
        · refine fn_aload_0 hV dX11_layBest_139 ?_
          refine fn_getIz hV 28 dX11_layBest_140 fl_X11_237 fi_51_28 rfl ?_
          exact fn_iret hR dX11_layBest_143 (by
      first
        | exact zMP.up hσ1 h28 hF (by rw [show U_layBest (mv σ) = zly (mv σ) 2 from by show zsl (zly (mv σ) 2) (zbal (mv σ)) = _; unfold zsl; exact if_pos (by omega)]; exact hS)
        | exact zMP.up hσ1 (by rw [fnUp_off _ _ _ (by decide), fnUp_off _ _ _ (by decide)]; exact h28) (fun k hk => by rw [fnUp_ne _ _ _ (by omega), fnUp_ne _ _ _ (by omega)]; exact hF k hk) (by rw [show U_layBest (mv σ) = fnUp (fnUp (zly (mv σ) 2) 0 8 ((σ4 75 2 - 1) / 19)) 0 9 ((σ4 75 2 - 1) % 19 + 2) from by show zsl (zly (mv σ) 2) (zbal (mv σ)) = _; unfold zsl; rw [if_neg (by omega), e2, Int.add_comm 2]]; first | exact (hS.up 0 _ _).up 0 _ _ | (rw [fnUp_ne _ _ _ (show 75 ≠ 51 by decide)]; exact (hS.up 0 _ _).up 0 _ _)))
        · exact absurd q130 (by omega)
      · refine fn_aload_0 hV dX11_layBest_97 ?_
        refine fn_aload_0 hV dX11_layBest_98 ?_
        refine fn_getR hV dX11_layBest_99 fl_X11_84 fr_51_27 ?_
        refine fn_iconst hV dX11_layBest_102 ?_
        refine fn_iald hV dX11_layBest_103 ar_75 (by omega) (by omega) ?_
        refine fn_iconst hV dX11_layBest_104 ?_
        refine fn_isub hV dX11_layBest_105 ?_
        refine fn_bipush hV dX11_layBest_106 rfl ?_
        refine fn_idivp hV dX11_layBest_108 (by omega) (by omega) ?_
        refine fn_putIz hV 8 dX11_layBest_109 fp_X11_32 fi_51_8 rfl ?_
        refine fn_aload_0 hV dX11_layBest_112 ?_
        refine fn_aload_0 hV dX11_layBest_113 ?_
        refine fn_getR hV dX11_layBest_114 fl_X11_84 fr_51_27 ?_
        refine fn_iconst hV dX11_layBest_117 ?_
        refine fn_iald hV dX11_layBest_118 ar_75 (by omega) (by omega) ?_
        rw [fnUp_ne σ4 _ _ (show 75 ≠ 51 by decide)]
        refine fn_iconst hV dX11_layBest_119 ?_
        refine fn_isub hV dX11_layBest_120 ?_
        refine fn_bipush hV dX11_layBest_121 rfl ?_
        refine fn_iremp hV dX11_layBest_123 (by omega) (by omega) ?_
        refine fn_iconst hV dX11_layBest_124 ?_
        refine fn_iadd hV dX11_layBest_125 ?_
        refine fn_putIz hV 9 dX11_layBest_126 fp_X11_210 fi_51_9 rfl ?_
        refine fn_iload_1 hV dX11_layBest_129 ?_
        refine fn_if_ge hV (by omega) dX11_layBest_130 (fun q130 => ?_) (fun q130 => ?_)
        · refine fn_aload_0 hV dX11_layBest_139 ?_
          refine fn_getIz hV 28 dX11_layBest_140 fl_X11_237 fi_51_28 rfl ?_
          exact fn_iret hR dX11_layBest_143 (by
      first
        | exact zMP.up hσ1 h28 hF (by rw [show U_layBest (mv σ) = zly (mv σ) 2 from by show zsl (zly (mv σ) 2) (zbal (mv σ)) = _; unfold zsl; exact if_pos (by omega)]; exact hS)
        | exact zMP.up hσ1 (by rw [fnUp_off _ _ _ (by decide), fnUp_off _ _ _ (by decide)]; exact h28) (fun k hk => by rw [fnUp_ne _ _ _ (by omega), fnUp_ne _ _ _ (by omega)]; exact hF k hk) (by rw [show U_layBest (mv σ) = fnUp (fnUp (zly (mv σ) 2) 0 8 ((σ4 75 2 - 1) / 19)) 0 9 ((σ4 75 2 - 1) % 19 + 2) from by show zsl (zly (mv σ) 2) (zbal (mv σ)) = _; unfold zsl; rw [if_neg (by omega), e2, Int.add_comm 2]]; first | exact (hS.up 0 _ _).up 0 _ _ | (rw [fnUp_ne _ _ _ (show 75 ≠ 51 by decide)]; exact (hS.up 0 _ _).up 0 _ _)))
        · exact absurd q130 (by omega)
    · have hDk := hD (by omega)
      refine fn_aload_0 hV dX11_layBest_21 ?_
      refine fn_getR hV dX11_layBest_22 fl_X11_84 fr_51_27 ?_
      refine fn_iload_2 hV dX11_layBest_25 ?_
      refine fn_iald hV dX11_layBest_26 ar_75 (by omega) (by omega) ?_
      refine fn_iconst hV dX11_layBest_27 ?_
      refine fn_isub hV dX11_layBest_28 ?_
      refine fn_istore_3 hV dX11_layBest_29 rfl rfl ?_
      refine fn_iload_3 hV dX11_layBest_30 ?_
      refine fn_if_lt hV (by omega) dX11_layBest_31 (fun q31 => ?_) (fun q31 => ?_)
      · refine fn_iinc_2 hV dX11_layBest_82 rfl rfl ?_
        refine fn_goto hV dX11_layBest_85 ?_
        refine fn_nul_3 hV ?_
        exact ihL (k + 1) (by omega) (by omega) _ _ trivial (by omega) hF h75 h28 (by rw [zly_s, show zsb (zly (mv σ) k) (zcd (mv σ) k) k = zly (mv σ) k from by unfold zsb; exact if_pos (by omega)]; exact hS)
      · refine fn_aload_0 hV dX11_layBest_34 ?_
        refine fn_getR hV dX11_layBest_35 fl_X11_19 fr_51_4 ?_
        refine fn_iload_3 hV dX11_layBest_38 ?_
        refine fn_bipush hV dX11_layBest_39 rfl ?_
        refine fn_idivp hV dX11_layBest_41 (by omega) (by omega) ?_
        refine fn_iload_2 hV dX11_layBest_42 ?_
        refine fn_iast hV dX11_layBest_43 ar_55 (by omega) (by omega) ?_
        refine fn_aload_0 hV dX11_layBest_44 ?_
        refine fn_getR hV dX11_layBest_45 fl_X11_22 fr_51_5 ?_
        refine fn_iload_3 hV dX11_layBest_48 ?_
        refine fn_bipush hV dX11_layBest_49 rfl ?_
        refine fn_idivp hV dX11_layBest_51 (by omega) (by omega) ?_
        refine fn_iload_3 hV dX11_layBest_52 ?_
        refine fn_bipush hV dX11_layBest_53 rfl ?_
        refine fn_iremp hV dX11_layBest_55 (by omega) (by omega) ?_
        refine fn_iconst hV dX11_layBest_56 ?_
        refine fn_idivp hV dX11_layBest_57 (by omega) (by omega) ?_
        refine fn_iconst hV dX11_layBest_58 ?_
        refine fn_iadd hV dX11_layBest_59 ?_
        refine fn_iast hV dX11_layBest_60 ar_56 (by omega) (by omega) ?_
        refine fn_aload_0 hV dX11_layBest_61 ?_
        refine fn_getR hV dX11_layBest_62 fl_X11_25 fr_51_6 ?_
        refine fn_iload_3 hV dX11_layBest_65 ?_
        refine fn_bipush hV dX11_layBest_66 rfl ?_
        refine fn_idivp hV dX11_layBest_68 (by omega) (by omega) ?_
        refine fn_iload_3 hV dX11_layBest_69 ?_
        refine fn_iconst hV dX11_layBest_70 ?_
        refine fn_iremp hV dX11_layBest_71 (by omega) (by omega) ?_
        refine fn_iconst hV dX11_layBest_72 ?_
        refine fn_icmp_ne hV (by omega) (by omega) dX11_layBest_73 (fun q73 => ?_) (fun q73 => ?_)
        · refine fn_iconst hV dX11_layBest_80 ?_
          refine fn_bast hV dX11_layBest_81 ar_57 (by omega) (by omega) (by omega) ?_
          refine fn_iinc_2 hV dX11_layBest_82 rfl rfl ?_
          refine fn_goto hV dX11_layBest_85 ?_
          refine fn_nul_3 hV ?_
          exact ihL (k + 1) (by omega) (by omega) _ _ trivial (by omega) (fun k hk => by rw [fnUp_ne _ _ _ (by omega), fnUp_ne _ _ _ (by omega), fnUp_ne _ _ _ (by omega)]; exact hF k hk) (by rw [fnUp_ne _ _ _ (by decide), fnUp_ne _ _ _ (by decide), fnUp_ne _ _ _ (by decide)]; exact h75) (by rw [fnUp_ne _ _ _ (by decide), fnUp_ne _ _ _ (by decide), fnUp_ne _ _ _ (by decide)]; exact h28) (by
        rw [zly_s, show zsb (zly (mv σ) k) (zcd (mv σ) k) k = fnUp (fnUp (fnUp (zly (mv σ) k) 4 ((zcd (mv σ) k - 1) / 16) k) 5 ((zcd (mv σ) k - 1) / 16) (2 + (zcd (mv σ) k - 1) % 16 / 2)) 6 ((zcd (mv σ) k - 1) / 16) 0 from by unfold zsb; rw [if_neg (by omega), if_neg (by omega)], hDk, ← hi, Int.add_comm 2]
        exact ((hS.up 4 _ _).up 5 _ _).up 6 _ _)
        · refine fn_iconst hV dX11_layBest_76 ?_
          refine fn_goto hV dX11_layBest_77 ?_
          refine fn_bast hV dX11_layBest_81 ar_57 (by omega) (by omega) (by omega) ?_
          refine fn_iinc_2 hV dX11_layBest_82 rfl rfl ?_
          refine fn_goto hV dX11_layBest_85 ?_
          refine fn_nul_3 hV ?_
          exact ihL (k + 1) (by omega) (by omega) _ _ trivial (by omega) (fun k hk => by rw [fnUp_ne _ _ _ (by omega), fnUp_ne _ _ _ (by omega), fnUp_ne _ _ _ (by omega)]; exact hF k hk) (by rw [fnUp_ne _ _ _ (by decide), fnUp_ne _ _ _ (by decide), fnUp_ne _ _ _ (by decide)]; exact h75) (by rw [fnUp_ne _ _ _ (by decide), fnUp_ne _ _ _ (by decide), fnUp_ne _ _ _ (by decide)]; exact h28) (by
        rw [zly_s, show zsb (zly (mv σ) k) (zcd (mv σ) k) k = fnUp (fnUp (fnUp (zly (mv σ) k) 4 ((zcd (mv σ) k - 1) / 16) k) 5 ((zcd (mv σ) k - 1) / 16) (2 + (zcd (mv σ) k - 1) % 16 / 2)) 6 ((zcd (mv σ) k - 1) / 16) 1 from by unfold zsb; rw [if_neg (by omega), if_pos (by omega)], hDk, ← hi, Int.add_comm 2]
        exact ((hS.up 4 _ _).up 5 _ _).up 6 _ _)
  exact L 0 (by omega) _ _ trivial (by omega) (fun k hk => by rw [lF k (by simp; omega)]; exact k0 k hk) (lF 75 (by decide)) (by rw [l51, fnUp_off _ _ _ (by decide)]; exact l28) lS
