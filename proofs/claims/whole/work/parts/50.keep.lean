/-! zWF is kept by every change -/
theorem zWFp_eq {μ μ1 : fnMem} (h : zWFp μ) (e : μ1 1 = μ 1) : zWFp μ1 := by unfold zWFp at h ⊢; rw [e]; exact h
theorem zWFs_eq {μ μ1 : fnMem} (h : zWFs μ) (e : μ1 2 = μ 2) : zWFs μ1 := by unfold zWFs at h ⊢; rw [e]; exact h
theorem zWFm_eq {μ μ1 : fnMem} (h : zWFm μ) (e : ∀ k, 3 ≤ k → k ≤ 7 → μ1 k = μ k) (h8 : μ1 0 8 = μ 0 8) (h9 : μ1 0 9 = μ 0 9) : zWFm μ1 := by
  unfold zWFm at h ⊢
  rw [e 3 (by decide) (by decide), e 4 (by decide) (by decide), e 5 (by decide) (by decide), e 6 (by decide) (by decide), e 7 (by decide) (by decide), h8, h9]
  exact h
theorem zWFl_eq {μ μ1 : fnMem} (h : zWFl μ) (e : ∀ k, 8 ≤ k → k ≤ 12 → μ1 k = μ k) : zWFl μ1 := by
  unfold zWFl at h ⊢
  rw [e 8 (by decide) (by decide), e 9 (by decide) (by decide), e 10 (by decide) (by decide), e 11 (by decide) (by decide), e 12 (by decide) (by decide)]
  exact h
theorem zWFe_eq {μ μ1 : fnMem} (h : zWFe μ) (e : ∀ k, 13 ≤ k → k ≤ 15 → μ1 k = μ k) : zWFe μ1 := by
  unfold zWFe at h ⊢
  rw [e 13 (by decide) (by decide), e 14 (by decide) (by decide), e 15 (by decide) (by decide)]
  exact h
theorem zWFv_eq {μ μ1 : fnMem} (h : zWFv μ) (e : ∀ k, 16 ≤ k → k ≤ 21 → μ1 k = μ k) (h18 : μ1 0 18 = μ 0 18) : zWFv μ1 := by
  unfold zWFv at h ⊢
  rw [e 16 (by decide) (by decide), e 17 (by decide) (by decide), e 18 (by decide) (by decide), e 19 (by decide) (by decide), e 20 (by decide) (by decide), e 21 (by decide) (by decide), h18]
  exact h
/-- only cell 1, only cell 2, only the magnets, .. -/
theorem zWF_p {μ μ1 : fnMem} (h : zWF μ) (e : ∀ k, k ≠ 1 → μ1 k = μ k) (hn : zWFp μ1) : zWF μ1 := ⟨hn, zWFs_eq h.2.1 (e 2 (by decide)), zWFm_eq h.2.2.1 (fun k _ _ => e k (by omega)) (by rw [e 0 (by decide)]) (by rw [e 0 (by decide)]), zWFl_eq h.2.2.2.1 (fun k _ _ => e k (by omega)), zWFe_eq h.2.2.2.2.1 (fun k _ _ => e k (by omega)), zWFv_eq h.2.2.2.2.2 (fun k _ _ => e k (by omega)) (by rw [e 0 (by decide)])⟩
theorem zWF_s {μ μ1 : fnMem} (h : zWF μ) (e : ∀ k, k ≠ 2 → μ1 k = μ k) (hn : zWFs μ1) : zWF μ1 := ⟨zWFp_eq h.1 (e 1 (by decide)), hn, zWFm_eq h.2.2.1 (fun k _ _ => e k (by omega)) (by rw [e 0 (by decide)]) (by rw [e 0 (by decide)]), zWFl_eq h.2.2.2.1 (fun k _ _ => e k (by omega)), zWFe_eq h.2.2.2.2.1 (fun k _ _ => e k (by omega)), zWFv_eq h.2.2.2.2.2 (fun k _ _ => e k (by omega)) (by rw [e 0 (by decide)])⟩
theorem zWF_m {μ μ1 : fnMem} (h : zWF μ) (e : ∀ k, ¬ (3 ≤ k ∧ k ≤ 7) → k ≠ 0 → μ1 k = μ k) (h18 : μ1 0 18 = μ 0 18) (hn : zWFm μ1) : zWF μ1 := ⟨zWFp_eq h.1 (e 1 (by decide) (by decide)), zWFs_eq h.2.1 (e 2 (by decide) (by decide)), hn, zWFl_eq h.2.2.2.1 (fun k _ _ => e k (by omega) (by omega)), zWFe_eq h.2.2.2.2.1 (fun k _ _ => e k (by omega) (by omega)), zWFv_eq h.2.2.2.2.2 (fun k _ _ => e k (by omega) (by omega)) h18⟩
theorem zWF_l {μ μ1 : fnMem} (h : zWF μ) (e : ∀ k, ¬ (8 ≤ k ∧ k ≤ 12) → μ1 k = μ k) (hn : zWFl μ1) : zWF μ1 := ⟨zWFp_eq h.1 (e 1 (by decide)), zWFs_eq h.2.1 (e 2 (by decide)), zWFm_eq h.2.2.1 (fun k _ _ => e k (by omega)) (by rw [e 0 (by decide)]) (by rw [e 0 (by decide)]), hn, zWFe_eq h.2.2.2.2.1 (fun k _ _ => e k (by omega)), zWFv_eq h.2.2.2.2.2 (fun k _ _ => e k (by omega)) (by rw [e 0 (by decide)])⟩
theorem zWF_e {μ μ1 : fnMem} (h : zWF μ) (e : ∀ k, ¬ (13 ≤ k ∧ k ≤ 15) → μ1 k = μ k) (hn : zWFe μ1) : zWF μ1 := ⟨zWFp_eq h.1 (e 1 (by decide)), zWFs_eq h.2.1 (e 2 (by decide)), zWFm_eq h.2.2.1 (fun k _ _ => e k (by omega)) (by rw [e 0 (by decide)]) (by rw [e 0 (by decide)]), zWFl_eq h.2.2.2.1 (fun k _ _ => e k (by omega)), hn, zWFv_eq h.2.2.2.2.2 (fun k _ _ => e k (by omega)) (by rw [e 0 (by decide)])⟩
theorem zWF_v {μ μ1 : fnMem} (h : zWF μ) (e : ∀ k, ¬ (16 ≤ k ∧ k ≤ 21) → k ≠ 0 → μ1 k = μ k) (h8 : μ1 0 8 = μ 0 8) (h9 : μ1 0 9 = μ 0 9) (hn : zWFv μ1) : zWF μ1 := ⟨zWFp_eq h.1 (e 1 (by decide) (by decide)), zWFs_eq h.2.1 (e 2 (by decide) (by decide)), zWFm_eq h.2.2.1 (fun k _ _ => e k (by omega) (by omega)) h8 h9, zWFl_eq h.2.2.2.1 (fun k _ _ => e k (by omega) (by omega)), zWFe_eq h.2.2.2.2.1 (fun k _ _ => e k (by omega) (by omega)), hn⟩
theorem W_part {μ : fnMem} (h : zWF μ) (c p v : Int) : zWF (U_part μ c p v) := by
  unfold U_part
  split
  · rename_i q
    refine zWF_p h (fun k hk => fnUp_ne _ _ _ hk) (fun i i0 i1 => ?_)
    rw [fnUp_ap]
    split
    · exact q.2
    · exact h.1 i i0 i1
  · exact h
theorem W_see {μ : fnMem} (h : zWF μ) (c x v : Int) : zWF (U_see μ c x v) := by
  unfold U_see
  split
  · rename_i q
    refine zWF_s h (fun k hk => fnUp_ne _ _ _ hk) (fun i i0 i1 => ?_)
    rw [fnUp_ap]
    split
    · exact Or.inr q.2
    · exact h.2.1 i i0 i1
  · exact h
theorem W_forget {μ : fnMem} (h : zWF μ) (c x : Int) : zWF (U_forget μ c x) := by
  unfold U_forget
  split
  · refine zWF_s h (fun k hk => fnUp_ne _ _ _ hk) (fun i i0 i1 => ?_)
    rw [fnUp_ap]
    split
    · exact Or.inl rfl
    · exact h.2.1 i i0 i1
  · exact h
theorem W_apart {μ : fnMem} (h : zWF μ) (c : Int) : zWF (U_apart μ c) := by
  unfold U_apart
  split
  · refine zWF_p h (fun k hk => fnSt_ne _ _ hk) (fun i i0 i1 => ?_)
    rw [fnSt_same]
    split
    · exact zapt_le _ _
    · exact h.1 i i0 i1
  · exact h
