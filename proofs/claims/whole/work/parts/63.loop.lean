theorem lw_loop {E : fnE} {L : Nat} {xs : Nat → Int32} {V : fnV} (h : lwX E L xs V) : ∀ (d : Nat) (i : Int) (σ : fnMem), 0 ≤ i → i ≤ L → (L : Int) - i < d → zCR σ (mv σ) → zWF (mv σ) → V 18 [.ref 101, .ref 0, .ref 51, zI i] [] σ := by
  intro d
  induction d with
  | zero => intro i σ i0 i1 hd; omega
  | succ d ih =>
    intro i σ i0 i1 hd hC hW
    have h9 := h
    obtain ⟨hV, hL, hI, hA, hR⟩ := h9
    refine fn_iload_3 hV dL_law_18 ?_
    refine fn_aload_0 hV dL_law_19 ?_
    refine hA _ _ _ _ _ dL_law_20 ?_
    refine fn_bipush hV dL_law_21 rfl ?_
    refine fn_isub hV dL_law_23 ?_
    refine fn_icmp_gt hV ⟨by omega, by omega⟩ ⟨by omega, by omega⟩ dL_law_24 (fun q => ?_) (fun q => ?_)
    · refine fn_iconst hV dL_law_1775 ?_
      exact hR _ _ _ _ dL_law_1776
    · have i7 : i + 7 ≤ L := by omega
      have kk : ∀ σ2 : fnMem, zCR σ2 (mv σ2) → zWF (mv σ2) → V 1769 [.ref 101, .ref 0, .ref 51, zI i] [] σ2 := by
        intro σ2 hC2 hW2
        refine fn_iinc_3 hV dL_law_1769 rfl rfl ?_
        refine fn_goto hV dL_law_1772 ?_
        exact ih (i + 7) σ2 (by omega) (by omega) (by omega) hC2 hW2
      refine fn_aload_0 hV dL_law_27 ?_
      refine fn_iload_3 hV dL_law_28 ?_
      refine hI _ _ _ _ _ _ dL_law_29 (by omega) (by omega) ?_
      refine fn_bipush hV dL_law_30 rfl ?_
      refine fn_iand hV 6 dL_law_32 (by decide) (by decide) ?_
      have hx : 0 ≤ (xs i.toNat).toInt % 2 ^ 6 ∧ (xs i.toNat).toInt % 2 ^ 6 < 64 := by
        rw [show (2 : Int) ^ 6 = 64 by decide]
        omega
      generalize (xs i.toNat).toInt % 2 ^ 6 = x at hx ⊢
      have hxR : fnR x := ⟨by omega, by omega⟩
      by_cases q0 : x = 0
      · exact fn_tswIn hV 0 dL_law_33 hxR (by omega) (by omega) rfl (by decide) (lw_case_0 h hC hW i0 i7 kk)
      by_cases q1 : x = 1
      · exact fn_tswIn hV 1 dL_law_33 hxR (by omega) (by omega) rfl (by decide) (lw_case_1 h hC hW i0 i7 kk)
      by_cases q2 : x = 2
      · exact fn_tswIn hV 2 dL_law_33 hxR (by omega) (by omega) rfl (by decide) (lw_case_2 h hC hW i0 i7 kk)
      by_cases q3 : x = 3
      · exact fn_tswIn hV 3 dL_law_33 hxR (by omega) (by omega) rfl (by decide) (lw_case_3 h hC hW i0 i7 kk)
      by_cases q4 : x = 4
      · exact fn_tswIn hV 4 dL_law_33 hxR (by omega) (by omega) rfl (by decide) (lw_case_4 h hC hW i0 i7 kk)
      by_cases q5 : x = 5
      · exact fn_tswIn hV 5 dL_law_33 hxR (by omega) (by omega) rfl (by decide) (lw_case_5 h hC hW i0 i7 kk)
      by_cases q6 : x = 6
      · exact fn_tswIn hV 6 dL_law_33 hxR (by omega) (by omega) rfl (by decide) (lw_case_6 h hC hW i0 i7 kk)
      by_cases q7 : x = 7
      · exact fn_tswIn hV 7 dL_law_33 hxR (by omega) (by omega) rfl (by decide) (lw_case_7 h hC hW i0 i7 kk)
      by_cases q8 : x = 8
      · exact fn_tswIn hV 8 dL_law_33 hxR (by omega) (by omega) rfl (by decide) (lw_case_8 h hC hW i0 i7 kk)
      by_cases q9 : x = 9
      · exact fn_tswIn hV 9 dL_law_33 hxR (by omega) (by omega) rfl (by decide) (lw_case_9 h hC hW i0 i7 kk)
      by_cases q10 : x = 10
      · exact fn_tswIn hV 10 dL_law_33 hxR (by omega) (by omega) rfl (by decide) (lw_case_10 h hC hW i0 i7 kk)
      by_cases q11 : x = 11
      · exact fn_tswIn hV 11 dL_law_33 hxR (by omega) (by omega) rfl (by decide) (lw_case_11 h hC hW i0 i7 kk)
      by_cases q12 : x = 12
      · exact fn_tswIn hV 12 dL_law_33 hxR (by omega) (by omega) rfl (by decide) (lw_case_12 h hC hW i0 i7 kk)
      by_cases q13 : x = 13
      · exact fn_tswIn hV 13 dL_law_33 hxR (by omega) (by omega) rfl (by decide) (lw_case_13 h hC hW i0 i7 kk)
      by_cases q14 : x = 14
      · exact fn_tswIn hV 14 dL_law_33 hxR (by omega) (by omega) rfl (by decide) (lw_case_14 h hC hW i0 i7 kk)
      by_cases q15 : x = 15
      · exact fn_tswIn hV 15 dL_law_33 hxR (by omega) (by omega) rfl (by decide) (lw_case_15 h hC hW i0 i7 kk)
      by_cases q16 : x = 16
      · exact fn_tswIn hV 16 dL_law_33 hxR (by omega) (by omega) rfl (by decide) (lw_case_16 h hC hW i0 i7 kk)
      by_cases q17 : x = 17
      · exact fn_tswIn hV 17 dL_law_33 hxR (by omega) (by omega) rfl (by decide) (lw_case_17 h hC hW i0 i7 kk)
      by_cases q18 : x = 18
      · exact fn_tswIn hV 18 dL_law_33 hxR (by omega) (by omega) rfl (by decide) (lw_case_18 h hC hW i0 i7 kk)
      by_cases q19 : x = 19
      · exact fn_tswIn hV 19 dL_law_33 hxR (by omega) (by omega) rfl (by decide) (lw_case_19 h hC hW i0 i7 kk)
      by_cases q20 : x = 20
      · exact fn_tswIn hV 20 dL_law_33 hxR (by omega) (by omega) rfl (by decide) (lw_case_20 h hC hW i0 i7 kk)
      by_cases q21 : x = 21
      · exact fn_tswIn hV 21 dL_law_33 hxR (by omega) (by omega) rfl (by decide) (lw_case_21 h hC hW i0 i7 kk)
      by_cases q22 : x = 22
      · exact fn_tswIn hV 22 dL_law_33 hxR (by omega) (by omega) rfl (by decide) (lw_case_22 h hC hW i0 i7 kk)
      by_cases q23 : x = 23
      · exact fn_tswIn hV 23 dL_law_33 hxR (by omega) (by omega) rfl (by decide) (lw_case_23 h hC hW i0 i7 kk)
      by_cases q24 : x = 24
      · exact fn_tswIn hV 24 dL_law_33 hxR (by omega) (by omega) rfl (by decide) (lw_case_24 h hC hW i0 i7 kk)
      by_cases q25 : x = 25
      · exact fn_tswIn hV 25 dL_law_33 hxR (by omega) (by omega) rfl (by decide) (lw_case_25 h hC hW i0 i7 kk)
      by_cases q26 : x = 26
      · exact fn_tswIn hV 26 dL_law_33 hxR (by omega) (by omega) rfl (by decide) (lw_case_26 h hC hW i0 i7 kk)
      by_cases q27 : x = 27
      · exact fn_tswIn hV 27 dL_law_33 hxR (by omega) (by omega) rfl (by decide) (lw_case_27 h hC hW i0 i7 kk)
      by_cases q28 : x = 28
      · exact fn_tswIn hV 28 dL_law_33 hxR (by omega) (by omega) rfl (by decide) (lw_case_28 h hC hW i0 i7 kk)
      by_cases q29 : x = 29
      · exact fn_tswIn hV 29 dL_law_33 hxR (by omega) (by omega) rfl (by decide) (lw_case_29 h hC hW i0 i7 kk)
      by_cases q30 : x = 30
      · exact fn_tswIn hV 30 dL_law_33 hxR (by omega) (by omega) rfl (by decide) (lw_case_30 h hC hW i0 i7 kk)
      by_cases q31 : x = 31
      · exact fn_tswIn hV 31 dL_law_33 hxR (by omega) (by omega) rfl (by decide) (lw_case_31 h hC hW i0 i7 kk)
      by_cases q32 : x = 32
      · exact fn_tswIn hV 32 dL_law_33 hxR (by omega) (by omega) rfl (by decide) (lw_case_32 h hC hW i0 i7 kk)
      by_cases q33 : x = 33
      · exact fn_tswIn hV 33 dL_law_33 hxR (by omega) (by omega) rfl (by decide) (lw_case_33 h hC hW i0 i7 kk)
      by_cases q34 : x = 34
      · exact fn_tswIn hV 34 dL_law_33 hxR (by omega) (by omega) rfl (by decide) (lw_case_34 h hC hW i0 i7 kk)
      by_cases q35 : x = 35
      · exact fn_tswIn hV 35 dL_law_33 hxR (by omega) (by omega) rfl (by decide) (lw_case_35 h hC hW i0 i7 kk)
      by_cases q36 : x = 36
      · exact fn_tswIn hV 36 dL_law_33 hxR (by omega) (by omega) rfl (by decide) (lw_case_36 h hC hW i0 i7 kk)
      by_cases q37 : x = 37
      · exact fn_tswIn hV 37 dL_law_33 hxR (by omega) (by omega) rfl (by decide) (lw_case_37 h hC hW i0 i7 kk)
      by_cases q38 : x = 38
      · exact fn_tswIn hV 38 dL_law_33 hxR (by omega) (by omega) rfl (by decide) (lw_case_38 h hC hW i0 i7 kk)
      by_cases q39 : x = 39
      · exact fn_tswIn hV 39 dL_law_33 hxR (by omega) (by omega) rfl (by decide) (lw_case_39 h hC hW i0 i7 kk)
      by_cases q40 : x = 40
      · exact fn_tswIn hV 40 dL_law_33 hxR (by omega) (by omega) rfl (by decide) (lw_case_40 h hC hW i0 i7 kk)
      by_cases q41 : x = 41
      · exact fn_tswIn hV 41 dL_law_33 hxR (by omega) (by omega) rfl (by decide) (lw_case_41 h hC hW i0 i7 kk)
      by_cases q42 : x = 42
      · exact fn_tswIn hV 42 dL_law_33 hxR (by omega) (by omega) rfl (by decide) (lw_case_42 h hC hW i0 i7 kk)
      by_cases q43 : x = 43
      · exact fn_tswIn hV 43 dL_law_33 hxR (by omega) (by omega) rfl (by decide) (lw_case_43 h hC hW i0 i7 kk)
      by_cases q44 : x = 44
      · exact fn_tswIn hV 44 dL_law_33 hxR (by omega) (by omega) rfl (by decide) (lw_case_44 h hC hW i0 i7 kk)
      exact fn_tswOut hV dL_law_33 hxR (Or.inr (by omega)) (by decide) (kk σ hC hW)
