theorem zCR_m {σ σ1 μ μ1 : fnMem} (h : zCR σ μ) (hs : ∀ k, ¬ (17 ≤ k ∧ k ≤ 22) → σ1 k = σ k) (hm : ∀ k, ¬ (3 ≤ k ∧ k ≤ 7) → k ≠ 0 → μ1 k = μ k) (h18 : μ1 0 18 = μ 0 18) (hn : zCRm σ1 μ1) : zCR σ1 μ1 :=
  ⟨zCRp_eq h.1 (fun k _ _ => hs k (by omega)) (hm 1 (by decide) (by decide)), zCRs_eq h.2.1 (fun k _ _ => hs k (by omega)) (hm 2 (by decide) (by decide)), hn, zCRl_eq h.2.2.2.1 (fun k _ _ => hs k (by omega)) (fun k _ _ => hm k (by omega) (by omega)), zCRe_eq h.2.2.2.2.1 (fun k _ _ => hs k (by omega)) (fun k _ _ => hm k (by omega) (by omega)), zCRv_eq h.2.2.2.2.2 (fun k _ _ => hs k (by omega)) (by rw [hs 47 (by decide)]; exact h.2.2.2.2.2.2.2.2.2.2.2.2) (fun k _ _ => hm k (by omega) (by omega)) h18⟩
theorem zCR_l {σ σ1 μ μ1 : fnMem} (h : zCR σ μ) (hs : ∀ k, ¬ (27 ≤ k ∧ k ≤ 31) → σ1 k = σ k) (hm : ∀ k, ¬ (8 ≤ k ∧ k ≤ 12) → μ1 k = μ k) (hn : zCRl σ1 μ1) : zCR σ1 μ1 :=
  ⟨zCRp_eq h.1 (fun k _ _ => hs k (by omega)) (hm 1 (by decide)), zCRs_eq h.2.1 (fun k _ _ => hs k (by omega)) (hm 2 (by decide)), zCRm_eq h.2.2.1 (fun k _ _ => hs k (by omega)) (fun k _ _ => hm k (by omega)) (by rw [hm 0 (by decide)]) (by rw [hm 0 (by decide)]), hn, zCRe_eq h.2.2.2.2.1 (fun k _ _ => hs k (by omega)) (fun k _ _ => hm k (by omega)), zCRv_eq h.2.2.2.2.2 (fun k _ _ => hs k (by omega)) (by rw [hs 47 (by decide)]; exact h.2.2.2.2.2.2.2.2.2.2.2.2) (fun k _ _ => hm k (by omega)) (by rw [hm 0 (by decide)])⟩
theorem zCR_e {σ σ1 μ μ1 : fnMem} (h : zCR σ μ) (hs : ∀ k, ¬ (33 ≤ k ∧ k ≤ 35) → σ1 k = σ k) (hm : ∀ k, ¬ (13 ≤ k ∧ k ≤ 15) → μ1 k = μ k) (hn : zCRe σ1 μ1) : zCR σ1 μ1 :=
  ⟨zCRp_eq h.1 (fun k _ _ => hs k (by omega)) (hm 1 (by decide)), zCRs_eq h.2.1 (fun k _ _ => hs k (by omega)) (hm 2 (by decide)), zCRm_eq h.2.2.1 (fun k _ _ => hs k (by omega)) (fun k _ _ => hm k (by omega)) (by rw [hm 0 (by decide)]) (by rw [hm 0 (by decide)]), zCRl_eq h.2.2.2.1 (fun k _ _ => hs k (by omega)) (fun k _ _ => hm k (by omega)), hn, zCRv_eq h.2.2.2.2.2 (fun k _ _ => hs k (by omega)) (by rw [hs 47 (by decide)]; exact h.2.2.2.2.2.2.2.2.2.2.2.2) (fun k _ _ => hm k (by omega)) (by rw [hm 0 (by decide)])⟩
theorem zCR_v {σ σ1 μ μ1 : fnMem} (h : zCR σ μ) (hs : ∀ k, ¬ (36 ≤ k ∧ k ≤ 42) → σ1 k = σ k) (hm : ∀ k, ¬ (16 ≤ k ∧ k ≤ 21) → k ≠ 0 → μ1 k = μ k) (h8 : μ1 0 8 = μ 0 8) (h9 : μ1 0 9 = μ 0 9) (hn : zCRv σ1 μ1) : zCR σ1 μ1 :=
  ⟨zCRp_eq h.1 (fun k _ _ => hs k (by omega)) (hm 1 (by decide) (by decide)), zCRs_eq h.2.1 (fun k _ _ => hs k (by omega)) (hm 2 (by decide) (by decide)), zCRm_eq h.2.2.1 (fun k _ _ => hs k (by omega)) (fun k _ _ => hm k (by omega) (by omega)) h8 h9, zCRl_eq h.2.2.2.1 (fun k _ _ => hs k (by omega)) (fun k _ _ => hm k (by omega) (by omega)), zCRe_eq h.2.2.2.2.1 (fun k _ _ => hs k (by omega)) (fun k _ _ => hm k (by omega) (by omega)), hn⟩
theorem zCR_bar {σ μ : fnMem} (h : zCR σ μ) (k s : Int) : zCR (fnUp σ 18 k s) (fnUp μ 3 k s) := by
  obtain ⟨c1, c2, c3, c4, c5, c6, c7⟩ := h.2.2.1
  refine zCR_m h (fun j hj => fnUp_ne _ _ _ (by omega)) (fun j hj h0 => fnUp_ne _ _ _ (by omega)) (by rw [fnUp_ne _ _ _ (by decide)]) ?_
  unfold zCRm
  rw [fnUp_ne σ _ _ (show 19 ≠ 18 by decide), fnUp_ne σ _ _ (show 20 ≠ 18 by decide), fnUp_ne σ _ _ (show 21 ≠ 18 by decide), fnUp_ne σ _ _ (show 22 ≠ 18 by decide), fnUp_ne σ _ _ (show 17 ≠ 18 by decide), fnUp_ne μ _ _ (show 4 ≠ 3 by decide), fnUp_ne μ _ _ (show 5 ≠ 3 by decide), fnUp_ne μ _ _ (show 6 ≠ 3 by decide), fnUp_ne μ _ _ (show 7 ≠ 3 by decide), fnUp_ne μ _ _ (show 0 ≠ 3 by decide)]
  refine ⟨fun j j0 j1 => ?_, c2, c3, c4, c5, c6, c7⟩
  rw [fnUp_ap, fnUp_ap]
  split
  · rfl
  · exact c1 j j0 j1
theorem zCR_ball {σ μ : fnMem} (h : zCR σ μ) (k s : Int) : zCR (fnUp σ 19 k s) (fnUp μ 7 k s) := by
  obtain ⟨c1, c2, c3, c4, c5, c6, c7⟩ := h.2.2.1
  refine zCR_m h (fun j hj => fnUp_ne _ _ _ (by omega)) (fun j hj h0 => fnUp_ne _ _ _ (by omega)) (by rw [fnUp_ne _ _ _ (by decide)]) ?_
  unfold zCRm
  rw [fnUp_ne σ _ _ (show 18 ≠ 19 by decide), fnUp_ne σ _ _ (show 20 ≠ 19 by decide), fnUp_ne σ _ _ (show 21 ≠ 19 by decide), fnUp_ne σ _ _ (show 22 ≠ 19 by decide), fnUp_ne σ _ _ (show 17 ≠ 19 by decide), fnUp_ne μ _ _ (show 4 ≠ 7 by decide), fnUp_ne μ _ _ (show 5 ≠ 7 by decide), fnUp_ne μ _ _ (show 6 ≠ 7 by decide), fnUp_ne μ _ _ (show 3 ≠ 7 by decide), fnUp_ne μ _ _ (show 0 ≠ 7 by decide)]
  refine ⟨c1, fun j j0 j1 => ?_, c3, c4, c5, c6, c7⟩
  rw [fnUp_ap, fnUp_ap]
  split
  · rfl
  · exact c2 j j0 j1
theorem zCR_sb {σ μ : fnMem} (h : zCR σ μ) {k a s t : Int} (ha : 0 ≤ a ∧ a ≤ 1) (ht : 0 ≤ t ∧ t ≤ 1) : zCR (fnUp (fnUp (fnUp σ 21 k a) 20 k s) 22 k t) (fnUp (fnUp (fnUp μ 4 k a) 5 k s) 6 k t) := by
  obtain ⟨c1, c2, c3, c4, c5, c6, c7⟩ := h.2.2.1
  have e : ∀ j, j ≠ 21 → j ≠ 20 → j ≠ 22 → fnUp (fnUp (fnUp σ 21 k a) 20 k s) 22 k t j = σ j := fun j h1 h2 h3 => by rw [fnUp_ne _ _ _ h3, fnUp_ne _ _ _ h2, fnUp_ne _ _ _ h1]
  have e' : ∀ j, j ≠ 4 → j ≠ 5 → j ≠ 6 → fnUp (fnUp (fnUp μ 4 k a) 5 k s) 6 k t j = μ j := fun j h1 h2 h3 => by rw [fnUp_ne _ _ _ h3, fnUp_ne _ _ _ h2, fnUp_ne _ _ _ h1]
  have s21 : ∀ j, fnUp (fnUp (fnUp σ 21 k a) 20 k s) 22 k t 21 j = if j = k then a else σ 21 j := fun j => by rw [fnUp_ne _ _ _ (by decide), fnUp_ne _ _ _ (by decide), fnUp_ap]
  have s20 : ∀ j, fnUp (fnUp (fnUp σ 21 k a) 20 k s) 22 k t 20 j = if j = k then s else σ 20 j := fun j => by rw [fnUp_ne _ _ _ (by decide), fnUp_ap, fnUp_ne _ _ _ (by decide)]
  have s22 : ∀ j, fnUp (fnUp (fnUp σ 21 k a) 20 k s) 22 k t 22 j = if j = k then t else σ 22 j := fun j => by rw [fnUp_ap, fnUp_ne _ _ _ (by decide), fnUp_ne _ _ _ (by decide)]
  have m4 : ∀ j, fnUp (fnUp (fnUp μ 4 k a) 5 k s) 6 k t 4 j = if j = k then a else μ 4 j := fun j => by rw [fnUp_ne _ _ _ (by decide), fnUp_ne _ _ _ (by decide), fnUp_ap]
  have m5 : ∀ j, fnUp (fnUp (fnUp μ 4 k a) 5 k s) 6 k t 5 j = if j = k then s else μ 5 j := fun j => by rw [fnUp_ne _ _ _ (by decide), fnUp_ap, fnUp_ne _ _ _ (by decide)]
  have m6 : ∀ j, fnUp (fnUp (fnUp μ 4 k a) 5 k s) 6 k t 6 j = if j = k then t else μ 6 j := fun j => by rw [fnUp_ap, fnUp_ne _ _ _ (by decide), fnUp_ne _ _ _ (by decide)]
  refine zCR_m h (fun j hj => e j (by omega) (by omega) (by omega)) (fun j hj h0 => e' j (by omega) (by omega) (by omega)) (by rw [e' 0 (by decide) (by decide) (by decide)]) ?_
  unfold zCRm
  rw [e 18 (by decide) (by decide) (by decide), e 19 (by decide) (by decide) (by decide), e 17 (by decide) (by decide) (by decide), e' 3 (by decide) (by decide) (by decide), e' 7 (by decide) (by decide) (by decide), e' 0 (by decide) (by decide) (by decide)]
  refine ⟨c1, c2, fun j j0 j1 => ?_, fun j j0 j1 => ?_, fun j j0 j1 => ?_, c6, c7⟩
  · rw [s20, s21, s22, m4, m5, m6]
    by_cases hj : j = k
    · rw [if_pos hj, if_pos hj, if_pos hj, if_pos hj, if_pos hj, if_pos hj]
      exact Or.inr ⟨by omega, rfl, rfl, rfl⟩
    · simp only [if_neg hj]
      exact c3 j j0 j1
  · rw [s21]
    split
    · exact ha
    · exact c4 j j0 j1
  · rw [s22]
    split
    · exact ht
    · exact c5 j j0 j1
theorem zCR_sl {σ μ : fnMem} (h : zCR σ μ) (k s : Int) : zCR (fnUp (fnUp σ 17 5 k) 17 6 s) (fnUp (fnUp μ 0 8 k) 0 9 s) := by
  obtain ⟨c1, c2, c3, c4, c5, c6, c7⟩ := h.2.2.1
  have e : ∀ j, j ≠ 17 → fnUp (fnUp σ 17 5 k) 17 6 s j = σ j := fun j h1 => by rw [fnUp_ne _ _ _ h1, fnUp_ne _ _ _ h1]
  have e' : ∀ j, j ≠ 0 → fnUp (fnUp μ 0 8 k) 0 9 s j = μ j := fun j h1 => by rw [fnUp_ne _ _ _ h1, fnUp_ne _ _ _ h1]
  refine zCR_m h (fun j hj => e j (by omega)) (fun j hj h0 => e' j h0) (by rw [fnUp_off _ _ _ (by decide), fnUp_off _ _ _ (by decide)]) ?_
  unfold zCRm
  rw [e 18 (by decide), e 19 (by decide), e 20 (by decide), e 21 (by decide), e 22 (by decide), e' 3 (by decide), e' 7 (by decide), e' 4 (by decide), e' 5 (by decide), e' 6 (by decide)]
  refine ⟨c1, c2, c3, c4, c5, ?_, fun _ => ?_⟩
  · exact (fnUp_off _ _ _ (by decide)).trans ((fnUp_at _ _ _ _).trans ((fnUp_off _ _ _ (by decide)).trans (fnUp_at _ _ _ _)).symm)
  · rw [fnUp_at, fnUp_at]
theorem zCR_lift {σ μ : fnMem} (h : zCR σ μ) : zCR (fnUp (fnUp (fnSt σ 20 (fun j => if 0 ≤ j ∧ j < ((6 : Nat) : Int) then 0 else σ 20 j)) 17 5 (-2009)) 17 6 0) (U_lift μ) := by
  obtain ⟨c1, c2, c3, c4, c5, c6, c7⟩ := h.2.2.1
  have e : ∀ j, j ≠ 17 → j ≠ 20 → fnUp (fnUp (fnSt σ 20 (fun j => if 0 ≤ j ∧ j < ((6 : Nat) : Int) then 0 else σ 20 j)) 17 5 (-2009)) 17 6 0 j = σ j := fun j h1 h2 => by rw [fnUp_ne _ _ _ h1, fnUp_ne _ _ _ h1, fnSt_ne _ _ h2]
  have e' : ∀ j, j ≠ 0 → j ≠ 4 → U_lift μ j = μ j := fun j h1 h2 => by unfold U_lift; rw [fnSt_ne _ _ h2, fnUp_ne _ _ _ h1]
  have e0 : U_lift μ 0 = fnUp μ 0 8 (-2009) 0 := by unfold U_lift; rw [fnSt_ne _ _ (by decide)]
  refine zCR_m h (fun j hj => e j (by omega) (by omega)) (fun j hj h0 => e' j h0 (by omega)) (by rw [e0, fnUp_off _ _ _ (by decide)]) ?_
  unfold zCRm
  rw [e 18 (by decide) (by decide), e 19 (by decide) (by decide), e 21 (by decide) (by decide), e 22 (by decide) (by decide), e' 3 (by decide) (by decide), e' 7 (by decide) (by decide), e' 5 (by decide) (by decide), e' 6 (by decide) (by decide), e0]
  refine ⟨c1, c2, fun j j0 j1 => Or.inl ⟨?_, ?_⟩, c4, c5, ?_, fun q => absurd (fnUp_at _ _ _ _) q⟩
  · unfold U_lift; rw [fnSt_same, if_pos (by omega)]
  · rw [fnUp_ne _ _ _ (by decide), fnUp_ne _ _ _ (by decide), fnSt_same, if_pos (by omega)]
  · exact (fnUp_off _ _ _ (by decide)).trans ((fnUp_at _ _ _ _).trans (fnUp_at _ _ _ _).symm)
theorem zpx_eq {σ μ : fnMem} (h : zCR σ μ) (hW : zWF μ) {a : Int} (ha : 0 ≤ a ∧ a ≤ 1) : zsum (zpax (σ 18) (σ 20) (σ 21) (σ 22) a) 6 = zsum (zpx μ a) 6 := by
  obtain ⟨c1, c2, c3, c4, c5, c6, c7⟩ := h.2.2.1
  obtain ⟨w1, w2, w3, w4, w5⟩ := hW.2.2.1
  refine zsum_congr 6 (fun k k0 k1 => ?_)
  have q3 := c3 k k0 (by omega)
  have q2 := w2 k k0 (by omega)
  unfold zpax zpx
  rw [c1 k k0 (by omega)]
  rcases q3 with ⟨q, r⟩ | ⟨q, r, u, v⟩
  · rw [if_neg (by omega), if_neg (by omega)]
  · rw [r, u, v]
    by_cases hx : μ 4 k = a
    · rw [if_pos ⟨by omega, hx⟩, if_pos hx]
    · rw [if_neg (by omega), if_neg hx]
theorem zpb4 {s k : Int} (hs : 0 ≤ s ∧ s ≤ 30000) (hk : 2 ≤ k ∧ k ≤ 9) : 0 ≤ zpb s k ∧ zpb s k ≤ 4000 := by
  have hc := zcube hk
  refine ⟨(zpb_le hs hk).1, ?_⟩
  unfold zpb
  have h1 : s / (k * k * k) * (k * k * k) ≤ s := Int.ediv_mul_le s (by omega)
  have h0 : 0 ≤ s / (k * k * k) := Int.ediv_nonneg hs.1 (by omega)
  have h2 : s / (k * k * k) * 8 ≤ s / (k * k * k) * (k * k * k) := Int.mul_le_mul_of_nonneg_left hc.1 h0
  omega
theorem zpx_le {μ : fnMem} (hW : zWF μ) {a : Int} (ha : 0 ≤ a ∧ a ≤ 1) : -24000 ≤ zsum (zpx μ a) 6 ∧ zsum (zpx μ a) 6 ≤ 24000 := by
  obtain ⟨w1, w2, w3, w4, w5⟩ := hW.2.2.1
  have key : ∀ n : Nat, n ≤ 6 → -(4000 * n) ≤ zsum (zpx μ a) n ∧ zsum (zpx μ a) n ≤ 4000 * n := by
    intro n
    induction n with
    | zero => intro _; simp [zsum]
    | succ n ih =>
      intro hn
      have := ih (by omega)
      have q : -4000 ≤ zpx μ a n ∧ zpx μ a n ≤ 4000 := by
        have q1 := w1 n (by omega) (by omega)
        have q2 := w2 n (by omega) (by omega)
        unfold zpx
        split
        · rename_i h4
          have := zpb4 q1 (k := μ 5 n) (by omega)
          split <;> omega
        · omega
      rw [zsum_s]
      omega
  exact key 6 (Nat.le_refl _)

set_option maxHeartbeats 4000000 in
set_option maxRecDepth 20000 in
theorem c_X10_bar (E : fnE) (σ μ : fnMem) (hC : zCR σ μ) (hW : zWF μ) (k : Int) (h_k : fnR k) (s : Int) (h_s : fnR s) : fnOk E mX10_bar [.ref 0, zI k, zI s] σ (fnQI (zXP (S_bar μ k s) (U_bar μ k s) σ)) := by
  refine fnOk.of [.ref 0, zI k, zI s, .null] rfl (by decide +kernel) rfl (fun V hV hR => ?_)
  replace hV : fnCx E RX10 cX10_bar 4 2 42 V := hV
  replace hR : fnRt cX10_bar (some .int) _ V := hR
  refine fn_iload_1 hV dX10_bar_0 ?_
  refine fn_cS1 hV (c_X10_isBar E _ _ (by omega)) ms_X10_isBar lk_X10_174 dX10_bar_1 ⟨rfl, rfl⟩ rfl ?_
  refine fn_ifneb hV dX10_bar_4 (fun q4 => ?_) (fun q4 => ?_)
  · refine fn_iload_2 hV dX10_bar_11 ?_
    refine fn_iconst hV dX10_bar_12 ?_
    refine fn_sipush hV dX10_bar_13 rfl ?_
    refine fn_cS3 hV (c_X10_within E _ _ _ _ (by omega) (by omega) (by omega)) ms_X10_within lk_X10_106 dX10_bar_16 ⟨rfl, rfl⟩ rfl ?_
    refine fn_ifneb hV dX10_bar_19 (fun q19 => ?_) (fun q19 => ?_)
    · have hK := hC.kSt hW
      obtain ⟨c1, c2, c3, c4, c5, c6, c7⟩ := hC.2.2.1
      obtain ⟨w1, w2, w3, w4, w5⟩ := hW.2.2.1
      have q3 := c3 k (by omega) (by omega)
      have q2 := w2 k (by omega) (by omega)
      have q1 := c1 k (by omega) (by omega)
      refine fn_aload_0 hV dX10_bar_26 ?_
      refine fn_getR hV dX10_bar_27 fl_X10_24 fr_0_2 ?_
      refine fn_iload_1 hV dX10_bar_30 ?_
      refine fn_cV1 hV (c_X6_isBarLaid E _ hK _ (by omega)) mv_X6_isBarLaid lk_X10_177 dX10_bar_31 sh_17 rfl ⟨rfl, rfl⟩ rfl ?_
      refine fn_ifeqb hV dX10_bar_34 (fun q34 => ?_) (fun q34 => ?_)
      · refine fn_aload_0 hV dX10_bar_41 ?_
        refine fn_getR hV dX10_bar_42 fl_X10_24 fr_0_2 ?_
        refine fn_getR hV dX10_bar_45 fl_X10_180 fr_17_0 ?_
        refine fn_iload_1 hV dX10_bar_48 ?_
        refine fn_iald hV dX10_bar_49 ar_18 (by omega) (by omega) ?_
        refine fn_istore_3 hV dX10_bar_50 rfl rfl ?_
        refine fn_aload_0 hV dX10_bar_51 ?_
        refine fn_getR hV dX10_bar_52 fl_X10_24 fr_0_2 ?_
        refine fn_getR hV dX10_bar_55 fl_X10_180 fr_17_0 ?_
        refine fn_iload_1 hV dX10_bar_58 ?_
        refine fn_iload_2 hV dX10_bar_59 ?_
        refine fn_iast hV dX10_bar_60 ar_18 (by omega) (by omega) ?_
        refine fn_iload_3 hV dX10_bar_61 ?_
        exact fn_iret hR dX10_bar_62 (fnQI.mk ⟨by unfold S_bar; rw [if_neg (by omega), if_neg (by omega), if_neg (by omega)]; exact q1, by rw [show U_bar μ k s = fnUp μ 3 k s from by unfold U_bar; exact if_pos (by omega)]; exact zCR_bar hC k s, fun j hj => fnUp_ne _ _ _ (by omega)⟩)
      · refine fn_sipush hV dX10_bar_37 rfl ?_
        exact fn_iret hR dX10_bar_40 (zXP.rfU hC (by unfold S_bar; (repeat' split) <;> first | rfl | omega) (by unfold U_bar; exact if_neg (by omega)))
    · refine fn_sipush hV dX10_bar_22 rfl ?_
      exact fn_iret hR dX10_bar_25 (zXP.rfU hC (by unfold S_bar; (repeat' split) <;> first | rfl | omega) (by unfold U_bar; exact if_neg (by omega)))
  · refine fn_sipush hV dX10_bar_7 rfl ?_
    exact fn_iret hR dX10_bar_10 (zXP.rfU hC (by unfold S_bar; (repeat' split) <;> first | rfl | omega) (by unfold U_bar; exact if_neg (by omega)))

set_option maxHeartbeats 4000000 in
set_option maxRecDepth 20000 in
theorem c_X10_ball (E : fnE) (σ μ : fnMem) (hC : zCR σ μ) (hW : zWF μ) (k : Int) (h_k : fnR k) (s : Int) (h_s : fnR s) : fnOk E mX10_ball [.ref 0, zI k, zI s] σ (fnQI (zXP (S_ball μ k s) (U_ball μ k s) σ)) := by
  refine fnOk.of [.ref 0, zI k, zI s, .null] rfl (by decide +kernel) rfl (fun V hV hR => ?_)
  replace hV : fnCx E RX10 cX10_ball 4 2 42 V := hV
  replace hR : fnRt cX10_ball (some .int) _ V := hR
  refine fn_iload_1 hV dX10_ball_0 ?_
  refine fn_cS1 hV (c_X10_isBall E _ _ (by omega)) ms_X10_isBall lk_X10_183 dX10_ball_1 ⟨rfl, rfl⟩ rfl ?_
  refine fn_ifneb hV dX10_ball_4 (fun q4 => ?_) (fun q4 => ?_)
  · refine fn_iload_2 hV dX10_ball_11 ?_
    refine fn_iconst hV dX10_ball_12 ?_
    refine fn_bipush hV dX10_ball_13 rfl ?_
    refine fn_cS3 hV (c_X10_within E _ _ _ _ (by omega) (by omega) (by omega)) ms_X10_within lk_X10_106 dX10_ball_15 ⟨rfl, rfl⟩ rfl ?_
    refine fn_ifneb hV dX10_ball_18 (fun q18 => ?_) (fun q18 => ?_)
    · have hK := hC.kSt hW
      obtain ⟨c1, c2, c3, c4, c5, c6, c7⟩ := hC.2.2.1
      obtain ⟨w1, w2, w3, w4, w5⟩ := hW.2.2.1
      have q1 := c2 k (by omega) (by omega)
      refine fn_aload_0 hV dX10_ball_25 ?_
      refine fn_getR hV dX10_ball_26 fl_X10_24 fr_0_2 ?_
      refine fn_getIz hV 5 dX10_ball_29 fl_X10_186 fi_17_5 rfl ?_
      refine fn_iload_1 hV dX10_ball_32 ?_
      refine fn_icmp_ne hV (by omega) (by omega) dX10_ball_33 (fun q33 => ?_) (fun q33 => ?_)
      · refine fn_aload_0 hV dX10_ball_40 ?_
        refine fn_getR hV dX10_ball_41 fl_X10_24 fr_0_2 ?_
        refine fn_getR hV dX10_ball_44 fl_X10_189 fr_17_1 ?_
        refine fn_iload_1 hV dX10_ball_47 ?_
        refine fn_iald hV dX10_ball_48 ar_19 (by omega) (by omega) ?_
        refine fn_istore_3 hV dX10_ball_49 rfl rfl ?_
        refine fn_aload_0 hV dX10_ball_50 ?_
        refine fn_getR hV dX10_ball_51 fl_X10_24 fr_0_2 ?_
        refine fn_getR hV dX10_ball_54 fl_X10_189 fr_17_1 ?_
        refine fn_iload_1 hV dX10_ball_57 ?_
        refine fn_iload_2 hV dX10_ball_58 ?_
        refine fn_iast hV dX10_ball_59 ar_19 (by omega) (by omega) ?_
        refine fn_iload_3 hV dX10_ball_60 ?_
        exact fn_iret hR dX10_ball_61 (fnQI.mk ⟨by unfold S_ball; rw [if_neg (by omega), if_neg (by omega), if_neg (by omega)]; exact q1, by rw [show U_ball μ k s = fnUp μ 7 k s from by unfold U_ball; exact if_pos (by omega)]; exact zCR_ball hC k s, fun j hj => fnUp_ne _ _ _ (by omega)⟩)
      · refine fn_sipush hV dX10_ball_36 rfl ?_
        exact fn_iret hR dX10_ball_39 (zXP.rfU hC (by unfold S_ball; (repeat' split) <;> first | rfl | omega) (by unfold U_ball; exact if_neg (by omega)))
    · refine fn_sipush hV dX10_ball_21 rfl ?_
      exact fn_iret hR dX10_ball_24 (zXP.rfU hC (by unfold S_ball; (repeat' split) <;> first | rfl | omega) (by unfold U_ball; exact if_neg (by omega)))
  · refine fn_sipush hV dX10_ball_7 rfl ?_
    exact fn_iret hR dX10_ball_10 (zXP.rfU hC (by unfold S_ball; (repeat' split) <;> first | rfl | omega) (by unfold U_ball; exact if_neg (by omega)))

set_option maxHeartbeats 4000000 in
set_option maxRecDepth 20000 in
theorem c_X10_layBar (E : fnE) (σ μ : fnMem) (hC : zCR σ μ) (hW : zWF μ) (k : Int) (h_k : fnR k) (a : Int) (h_a : fnR a) (s : Int) (h_s : fnR s) (t : Int) (h_t : t = 0 ∨ t = 1) : fnOk E mX10_layBar [.ref 0, zI k, zI a, zI s, zI t] σ (fnQI (zXP (S_layBar μ k a s) (U_layBar μ k a s t) σ)) := by
  refine fnOk.of [.ref 0, zI k, zI a, zI s, zI t] rfl (by decide +kernel) rfl (fun V hV hR => ?_)
  replace hV : fnCx E RX10 cX10_layBar 5 2 42 V := hV
  replace hR : fnRt cX10_layBar (some .int) _ V := hR
  refine fn_iload_1 hV dX10_layBar_0 ?_
  refine fn_cS1 hV (c_X10_isBar E _ _ (by omega)) ms_X10_isBar lk_X10_174 dX10_layBar_1 ⟨rfl, rfl⟩ rfl ?_
  refine fn_ifneb hV dX10_layBar_4 (fun q4 => ?_) (fun q4 => ?_)
  · refine fn_iload_2 hV dX10_layBar_11 ?_
    refine fn_iconst hV dX10_layBar_12 ?_
    refine fn_iconst hV dX10_layBar_13 ?_
    refine fn_cS3 hV (c_X10_within E _ _ _ _ (by omega) (by omega) (by omega)) ms_X10_within lk_X10_106 dX10_layBar_14 ⟨rfl, rfl⟩ rfl ?_
    refine fn_ifeqb hV dX10_layBar_17 (fun q17 => ?_) (fun q17 => ?_)
    · refine fn_sipush hV dX10_layBar_30 rfl ?_
      exact fn_iret hR dX10_layBar_33 (zXP.rfU hC (by unfold S_layBar; (repeat' split) <;> first | rfl | omega) (by unfold U_layBar; exact if_neg (by omega)))
    · refine fn_iload_3 hV dX10_layBar_20 ?_
      refine fn_iconst hV dX10_layBar_21 ?_
      refine fn_bipush hV dX10_layBar_22 rfl ?_
      refine fn_cS3 hV (c_X10_within E _ _ _ _ (by omega) (by omega) (by omega)) ms_X10_within lk_X10_106 dX10_layBar_24 ⟨rfl, rfl⟩ rfl ?_
      refine fn_ifneb hV dX10_layBar_27 (fun q27 => ?_) (fun q27 => ?_)
      · have hK := hC.kSt hW
        obtain ⟨c1, c2, c3, c4, c5, c6, c7⟩ := hC.2.2.1
        obtain ⟨w1, w2, w3, w4, w5⟩ := hW.2.2.1
        have q1 := c1 k (by omega) (by omega)
        have q0 := w1 k (by omega) (by omega)
        refine fn_aload_0 hV dX10_layBar_34 ?_
        refine fn_getR hV dX10_layBar_35 fl_X10_24 fr_0_2 ?_
        refine fn_getR hV dX10_layBar_38 fl_X10_180 fr_17_0 ?_
        refine fn_iload_1 hV dX10_layBar_41 ?_
        refine fn_iald hV dX10_layBar_42 ar_18 (by omega) (by omega) ?_
        refine fn_if_ne hV (by omega) dX10_layBar_43 (fun q43 => ?_) (fun q43 => ?_)
        · refine fn_aload_0 hV dX10_layBar_50 ?_
          refine fn_getR hV dX10_layBar_51 fl_X10_24 fr_0_2 ?_
          refine fn_iload_1 hV dX10_layBar_54 ?_
          refine fn_iload_2 hV dX10_layBar_55 ?_
          refine fn_iload_3 hV dX10_layBar_56 ?_
          refine fn_iload_4 hV dX10_layBar_57 ?_
          refine fn_cV4v hV (c_X6_setBar E _ _ _ _ _ (by omega) (by omega)) mv_X6_setBar lk_X10_192 dX10_layBar_59 sh_17 rfl ⟨rfl, rfl⟩ rfl ?_
          have e18 : fnUp (fnUp (fnUp σ 21 k a) 20 k s) 22 k t 18 k = σ 18 k := by rw [fnUp_ne _ _ _ (by decide), fnUp_ne _ _ _ (by decide), fnUp_ne _ _ _ (by decide)]
          refine fn_aload_0 hV dX10_layBar_62 ?_
          refine fn_getR hV dX10_layBar_63 fl_X10_24 fr_0_2 ?_
          refine fn_getR hV dX10_layBar_66 fl_X10_180 fr_17_0 ?_
          refine fn_iload_1 hV dX10_layBar_69 ?_
          refine fn_iald hV dX10_layBar_70 ar_18 (by omega) (by omega) ?_
          refine fn_iload_3 hV dX10_layBar_71 ?_
          refine fn_cS2 hV (c_X6_pullOfBar E _ _ _ (by omega) (by omega)) ms_X6_pullOfBar lk_X10_196 dX10_layBar_72 ⟨rfl, rfl⟩ rfl ?_
          exact fn_iret hR dX10_layBar_75 (fnQI.mk ⟨by unfold S_layBar; rw [if_neg (by omega), if_neg (by omega), if_neg (by omega), e18, q1], by rw [show U_layBar μ k a s t = fnUp (fnUp (fnUp μ 4 k a) 5 k s) 6 k t from by unfold U_layBar; exact if_pos (by omega)]; exact zCR_sb hC (by omega) (by omega), fun j hj => by rw [fnUp_ne _ _ _ (by omega), fnUp_ne _ _ _ (by omega), fnUp_ne _ _ _ (by omega)]⟩)
        · refine fn_sipush hV dX10_layBar_46 rfl ?_
          exact fn_iret hR dX10_layBar_49 (zXP.rfU hC (by unfold S_layBar; (repeat' split) <;> first | rfl | omega) (by unfold U_layBar; exact if_neg (by omega)))
      · refine fn_sipush hV dX10_layBar_30 rfl ?_
        exact fn_iret hR dX10_layBar_33 (zXP.rfU hC (by unfold S_layBar; (repeat' split) <;> first | rfl | omega) (by unfold U_layBar; exact if_neg (by omega)))
  · refine fn_sipush hV dX10_layBar_7 rfl ?_
    exact fn_iret hR dX10_layBar_10 (zXP.rfU hC (by unfold S_layBar; (repeat' split) <;> first | rfl | omega) (by unfold U_layBar; exact if_neg (by omega)))

set_option maxHeartbeats 4000000 in
set_option maxRecDepth 20000 in
theorem c_X10_layBall (E : fnE) (σ μ : fnMem) (hC : zCR σ μ) (hW : zWF μ) (k : Int) (h_k : fnR k) (s : Int) (h_s : fnR s) : fnOk E mX10_layBall [.ref 0, zI k, zI s] σ (fnQI (zXP (S_layBall μ k s) (U_layBall μ k s) σ)) := by
  refine fnOk.of [.ref 0, zI k, zI s] rfl (by decide +kernel) rfl (fun V hV hR => ?_)
  replace hV : fnCx E RX10 cX10_layBall 3 2 42 V := hV
  replace hR : fnRt cX10_layBall (some .int) _ V := hR
  refine fn_iload_1 hV dX10_layBall_0 ?_
  refine fn_cS1 hV (c_X10_isBall E _ _ (by omega)) ms_X10_isBall lk_X10_183 dX10_layBall_1 ⟨rfl, rfl⟩ rfl ?_
  refine fn_ifneb hV dX10_layBall_4 (fun q4 => ?_) (fun q4 => ?_)
  · refine fn_iload_2 hV dX10_layBall_11 ?_
    refine fn_iconst hV dX10_layBall_12 ?_
    refine fn_bipush hV dX10_layBall_13 rfl ?_
    refine fn_cS3 hV (c_X10_within E _ _ _ _ (by omega) (by omega) (by omega)) ms_X10_within lk_X10_106 dX10_layBall_15 ⟨rfl, rfl⟩ rfl ?_
    refine fn_ifneb hV dX10_layBall_18 (fun q18 => ?_) (fun q18 => ?_)
    · have hK := hC.kSt hW
      obtain ⟨c1, c2, c3, c4, c5, c6, c7⟩ := hC.2.2.1
      obtain ⟨w1, w2, w3, w4, w5⟩ := hW.2.2.1
      have q1 := c2 k (by omega) (by omega)
      have q0 := w4 k (by omega) (by omega)
      refine fn_aload_0 hV dX10_layBall_25 ?_
      refine fn_getR hV dX10_layBall_26 fl_X10_24 fr_0_2 ?_
      refine fn_getR hV dX10_layBall_29 fl_X10_189 fr_17_1 ?_
      refine fn_iload_1 hV dX10_layBall_32 ?_
      refine fn_iald hV dX10_layBall_33 ar_19 (by omega) (by omega) ?_
      refine fn_if_eq hV (by omega) dX10_layBall_34 (fun q34 => ?_) (fun q34 => ?_)
      · refine fn_sipush hV dX10_layBall_50 rfl ?_
        exact fn_iret hR dX10_layBall_53 (zXP.rfU hC (by unfold S_layBall; (repeat' split) <;> first | rfl | omega) (by unfold U_layBall; exact if_neg (by omega)))
      · refine fn_aload_0 hV dX10_layBall_37 ?_
        refine fn_getR hV dX10_layBall_38 fl_X10_24 fr_0_2 ?_
        refine fn_getR hV dX10_layBall_41 fl_X10_189 fr_17_1 ?_
        refine fn_iload_1 hV dX10_layBall_44 ?_
        refine fn_iald hV dX10_layBall_45 ar_19 (by omega) (by omega) ?_
        refine fn_iload_2 hV dX10_layBall_46 ?_
        refine fn_icmp_le hV (by omega) (by omega) dX10_layBall_47 (fun q47 => ?_) (fun q47 => ?_)
        · refine fn_aload_0 hV dX10_layBall_54 ?_
          refine fn_getR hV dX10_layBall_55 fl_X10_24 fr_0_2 ?_
          refine fn_iload_1 hV dX10_layBall_58 ?_
          refine fn_iload_2 hV dX10_layBall_59 ?_
          refine fn_cV2v hV (c_X6_setBall E _ _ _) mv_X6_setBall lk_X10_199 dX10_layBall_60 sh_17 rfl ⟨rfl, rfl⟩ rfl ?_
          have e19 : fnUp (fnUp σ 17 5 k) 17 6 s 19 k = σ 19 k := by rw [fnUp_ne _ _ _ (by decide), fnUp_ne _ _ _ (by decide)]
          refine fn_aload_0 hV dX10_layBall_63 ?_
          refine fn_getR hV dX10_layBall_64 fl_X10_24 fr_0_2 ?_
          refine fn_getR hV dX10_layBall_67 fl_X10_189 fr_17_1 ?_
          refine fn_iload_1 hV dX10_layBall_70 ?_
          refine fn_iald hV dX10_layBall_71 ar_19 (by omega) (by omega) ?_
          refine fn_iload_2 hV dX10_layBall_72 ?_
          refine fn_cS2 hV (c_X6_pullOfBall E _ _ _ (by omega) (by omega)) ms_X6_pullOfBall lk_X10_203 dX10_layBall_73 ⟨rfl, rfl⟩ rfl ?_
          exact fn_iret hR dX10_layBall_76 (fnQI.mk ⟨by unfold S_layBall; rw [if_neg (by omega), if_neg (by omega), if_neg (by omega), e19, q1], by rw [show U_layBall μ k s = fnUp (fnUp μ 0 8 k) 0 9 s from by unfold U_layBall; exact if_pos (by omega)]; exact zCR_sl hC k s, fun j hj => by rw [fnUp_ne _ _ _ (by omega), fnUp_ne _ _ _ (by omega)]⟩)
        · refine fn_sipush hV dX10_layBall_50 rfl ?_
          exact fn_iret hR dX10_layBall_53 (zXP.rfU hC (by unfold S_layBall; (repeat' split) <;> first | rfl | omega) (by unfold U_layBall; exact if_neg (by omega)))
    · refine fn_sipush hV dX10_layBall_21 rfl ?_
      exact fn_iret hR dX10_layBall_24 (zXP.rfU hC (by unfold S_layBall; (repeat' split) <;> first | rfl | omega) (by unfold U_layBall; exact if_neg (by omega)))
  · refine fn_sipush hV dX10_layBall_7 rfl ?_
    exact fn_iret hR dX10_layBall_10 (zXP.rfU hC (by unfold S_layBall; (repeat' split) <;> first | rfl | omega) (by unfold U_layBall; exact if_neg (by omega)))

set_option maxHeartbeats 4000000 in
set_option maxRecDepth 20000 in
theorem c_X10_takeUp (E : fnE) (σ μ : fnMem) (hC : zCR σ μ) (hW : zWF μ)  : fnOk E mX10_takeUp [.ref 0] σ (fnQI (zXP (zlaid μ) (U_lift μ) σ)) := by
  refine fnOk.of [.ref 0, .null] rfl (by decide +kernel) rfl (fun V hV hR => ?_)
  replace hV : fnCx E RX10 cX10_takeUp 2 2 43 V := hV
  replace hR : fnRt cX10_takeUp (some .int) _ V := hR
  have hK := hC.kSt hW
  obtain ⟨c1, c2, c3, c4, c5, c6, c7⟩ := hC.2.2.1
  obtain ⟨w1, w2, w3, w4, w5⟩ := hW.2.2.1
  refine fn_aload_0 hV dX10_takeUp_0 ?_
  refine fn_getR hV dX10_takeUp_1 fl_X10_24 fr_0_2 ?_
  refine fn_cV0 hV (c_X6_howManyLaid E _ hK) mv_X6_howManyLaid lk_X10_206 dX10_takeUp_4 sh_17 rfl ⟨rfl, rfl⟩ rfl ?_
  refine fn_istore_1 hV dX10_takeUp_7 rfl rfl ?_
  refine fn_aload_0 hV dX10_takeUp_8 ?_
  refine fn_getR hV dX10_takeUp_9 fl_X10_24 fr_0_2 ?_
  refine fn_cV0v hV (c_X6_clearLaid E _) mv_X6_clearLaid lk_X10_209 dX10_takeUp_12 sh_17 rfl ⟨rfl, rfl⟩ rfl ?_
  refine fn_iload_1 hV dX10_takeUp_15 ?_
  exact fn_iret hR dX10_takeUp_16 (fnQI.mk ⟨by unfold zlaid; rw [c6, zsum_congr 6 (F := fun k => if σ 20 k ≠ 0 then 1 else 0) (G := fun k => if μ 4 k ≠ -2009 then 1 else 0) (fun k k0 k1 => by have := c3 k k0 (by omega); have := w2 k k0 (by omega); (try dsimp only); (repeat' split) <;> omega)], zCR_lift hC, fun j hj => by rw [fnUp_ne _ _ _ (by omega), fnUp_ne _ _ _ (by omega), fnSt_ne _ _ (by omega)]⟩)
