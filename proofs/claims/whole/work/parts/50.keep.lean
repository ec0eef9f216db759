/-! zWF is kept by every change -/
theorem zWFp_eq {μ μ1 : fnMem} (h : zWFp μ) (e : μ1 1 = μ 1) : zWFp μ1 := by unfold zWFp at h ⊢; rw [e]; exact h
theorem zWFs_eq {μ μ1 : fnMem} (h : zWFs μ) (e : μ1 2 = μ 2) : zWFs μ1 := by unfold zWFs at h ⊢; rw [e]; exact h
theorem zWFm_eq {μ μ1 : fnMem} (h : zWFm μ) (e : ∀ k, 3 ≤ k → k ≤ 7 → μ1 k = μ k) (h8 : μ1 0 8 = μ 0 8) (h9 : μ1 0 9 = μ 0 9) : zWFm μ1 := by
  unfold zWFm at h ⊢
  rw [e 3 (by decide) (by decide), e 4 (by decide) (by decide), e 5 (by decide) (by decide), e 6 (by decide) (by decide), e 7 (by decide) (by decide), h8, h9]
  exact h
theorem zWFl_eq {μ μ1 : fnMem} (h : zWFl μ) (e : ∀ k, 8 ≤ k → k ≤ 12 → μ1 k = μ k) : zWFl μ1 := by
  unfold zWFl at h ⊢
  rw [e 8 (by decide) (by decide), e 9 (by decide) (by decide), e 10 (by decide) (by decide), e 11 (by decide) (by decide), e 12 (by decide) (by decide)]
  exact h
theorem zWFe_eq {μ μ1 : fnMem} (h : zWFe μ) (e : ∀ k, 13 ≤ k → k ≤ 15 → μ1 k = μ k) : zWFe μ1 := by
  unfold zWFe at h ⊢
  rw [e 13 (by decide) (by decide), e 14 (by decide) (by decide), e 15 (by decide) (by decide)]
  exact h
theorem zWFv_eq {μ μ1 : fnMem} (h : zWFv μ) (e : ∀ k, 16 ≤ k → k ≤ 21 → μ1 k = μ k) (h18 : μ1 0 18 = μ 0 18) : zWFv μ1 := by
  unfold zWFv at h ⊢
  rw [e 16 (by decide) (by decide), e 17 (by decide) (by decide), e 18 (by decide) (by decide), e 19 (by decide) (by decide), e 20 (by decide) (by decide), e 21 (by decide) (by decide), h18]
  exact h
/-- only cell 1, only cell 2, only the magnets, .. -/
theorem zWF_p {μ μ1 : fnMem} (h : zWF μ) (e : ∀ k, k ≠ 1 → μ1 k = μ k) (hn : zWFp μ1) : zWF μ1 := ⟨hn, zWFs_eq h.2.1 (e 2 (by decide)), zWFm_eq h.2.2.1 (fun k _ _ => e k (by omega)) (by rw [e 0 (by decide)]) (by rw [e 0 (by decide)]), zWFl_eq h.2.2.2.1 (fun k _ _ => e k (by omega)), zWFe_eq h.2.2.2.2.1 (fun k _ _ => e k (by omega)), zWFv_eq h.2.2.2.2.2 (fun k _ _ => e k (by omega)) (by rw [e 0 (by decide)])⟩
theorem zWF_s {μ μ1 : fnMem} (h : zWF μ) (e : ∀ k, k ≠ 2 → μ1 k = μ k) (hn : zWFs μ1) : zWF μ1 := ⟨zWFp_eq h.1 (e 1 (by decide)), hn, zWFm_eq h.2.2.1 (fun k _ _ => e k (by omega)) (by rw [e 0 (by decide)]) (by rw [e 0 (by decide)]), zWFl_eq h.2.2.2.1 (fun k _ _ => e k (by omega)), zWFe_eq h.2.2.2.2.1 (fun k _ _ => e k (by omega)), zWFv_eq h.2.2.2.2.2 (fun k _ _ => e k (by omega)) (by rw [e 0 (by decide)])⟩
theorem zWF_m {μ μ1 : fnMem} (h : zWF μ) (e : ∀ k, ¬ (3 ≤ k ∧ k ≤ 7) → k ≠ 0 → μ1 k = μ k) (h18 : μ1 0 18 = μ 0 18) (hn : zWFm μ1) : zWF μ1 := ⟨zWFp_eq h.1 (e 1 (by decide) (by decide)), zWFs_eq h.2.1 (e 2 (by decide) (by decide)), hn, zWFl_eq h.2.2.2.1 (fun k _ _ => e k (by omega) (by omega)), zWFe_eq h.2.2.2.2.1 (fun k _ _ => e k (by omega) (by omega)), zWFv_eq h.2.2.2.2.2 (fun k _ _ => e k (by omega) (by omega)) h18⟩
theorem zWF_l {μ μ1 : fnMem} (h : zWF μ) (e : ∀ k, ¬ (8 ≤ k ∧ k ≤ 12) → μ1 k = μ k) (hn : zWFl μ1) : zWF μ1 := ⟨zWFp_eq h.1 (e 1 (by decide)), zWFs_eq h.2.1 (e 2 (by decide)), zWFm_eq h.2.2.1 (fun k _ _ => e k (by omega)) (by rw [e 0 (by decide)]) (by rw [e 0 (by decide)]), hn, zWFe_eq h.2.2.2.2.1 (fun k _ _ => e k (by omega)), zWFv_eq h.2.2.2.2.2 (fun k _ _ => e k (by omega)) (by rw [e 0 (by decide)])⟩
theorem zWF_e {μ μ1 : fnMem} (h : zWF μ) (e : ∀ k, ¬ (13 ≤ k ∧ k ≤ 15) → μ1 k = μ k) (hn : zWFe μ1) : zWF μ1 := ⟨zWFp_eq h.1 (e 1 (by decide)), zWFs_eq h.2.1 (e 2 (by decide)), zWFm_eq h.2.2.1 (fun k _ _ => e k (by omega)) (by rw [e 0 (by decide)]) (by rw [e 0 (by decide)]), zWFl_eq h.2.2.2.1 (fun k _ _ => e k (by omega)), hn, zWFv_eq h.2.2.2.2.2 (fun k _ _ => e k (by omega)) (by rw [e 0 (by decide)])⟩
theorem zWF_v {μ μ1 : fnMem} (h : zWF μ) (e : ∀ k, ¬ (16 ≤ k ∧ k ≤ 21) → k ≠ 0 → μ1 k = μ k) (h8 : μ1 0 8 = μ 0 8) (h9 : μ1 0 9 = μ 0 9) (hn : zWFv μ1) : zWF μ1 := ⟨zWFp_eq h.1 (e 1 (by decide) (by decide)), zWFs_eq h.2.1 (e 2 (by decide) (by decide)), zWFm_eq h.2.2.1 (fun k _ _ => e k (by omega) (by omega)) h8 h9, zWFl_eq h.2.2.2.1 (fun k _ _ => e k (by omega) (by omega)), zWFe_eq h.2.2.2.2.1 (fun k _ _ => e k (by omega) (by omega)), hn⟩
theorem W_part {μ : fnMem} (h : zWF μ) (c p v : Int) : zWF (U_part μ c p v) := by
  unfold U_part
  split
  · rename_i q
    refine zWF_p h (fun k hk => fnUp_ne _ _ _ hk) (fun i i0 i1 => ?_)
    rw [fnUp_ap]
    split
    · exact q.2
    · exact h.1 i i0 i1
  · exact h
theorem W_see {μ : fnMem} (h : zWF μ) (c x v : Int) : zWF (U_see μ c x v) := by
  unfold U_see
  split
  · rename_i q
    refine zWF_s h (fun k hk => fnUp_ne _ _ _ hk) (fun i i0 i1 => ?_)
    rw [fnUp_ap]
    split
    · exact Or.inr q.2
    · exact h.2.1 i i0 i1
  · exact h
theorem W_forget {μ : fnMem} (h : zWF μ) (c x : Int) : zWF (U_forget μ c x) := by
  unfold U_forget
  split
  · refine zWF_s h (fun k hk => fnUp_ne _ _ _ hk) (fun i i0 i1 => ?_)
    rw [fnUp_ap]
    split
    · exact Or.inl rfl
    · exact h.2.1 i i0 i1
  · exact h
theorem W_apart {μ : fnMem} (h : zWF μ) (c : Int) : zWF (U_apart μ c) := by
  unfold U_apart
  split
  · refine zWF_p h (fun k hk => fnSt_ne _ _ hk) (fun i i0 i1 => ?_)
    rw [fnSt_same]
    split
    · exact zapt_le _ _
    · exact h.1 i i0 i1
  · exact h
/-- the magnets' cells, read through one change -/
theorem zUp (σ : fnMem) (k : Nat) (i v : Int) (a : Nat) (j : Int) : fnUp σ k i v a j = if a = k ∧ j = i then v else σ a j := by
  unfold fnUp fnSt
  by_cases h : a = k
  · simp [h]
  · simp [h]
theorem W_bar {μ : fnMem} (h : zWF μ) (k s : Int) : zWF (U_bar μ k s) := by
  unfold U_bar
  split
  · rename_i q
    obtain ⟨w1, w2, w3, w4, w5⟩ := h.2.2.1
    refine zWF_m h (fun k _ _ => fnUp_ne _ _ _ (by omega)) rfl ⟨fun j j0 j1 => ?_, w2, w3, w4, w5⟩
    have := w1 j j0 j1
    show 0 ≤ (if j = k then s else μ 3 j) ∧ (if j = k then s else μ 3 j) ≤ 30000
    split <;> omega
  · exact h
theorem W_ball {μ : fnMem} (h : zWF μ) (k s : Int) : zWF (U_ball μ k s) := by
  unfold U_ball
  split
  · rename_i q
    obtain ⟨w1, w2, w3, w4, w5⟩ := h.2.2.1
    refine zWF_m h (fun k _ _ => fnUp_ne _ _ _ (by omega)) rfl ⟨w1, w2, w3, fun j j0 j1 => ?_, w5⟩
    have := w4 j j0 j1
    show 0 ≤ (if j = k then s else μ 7 j) ∧ (if j = k then s else μ 7 j) ≤ 20
    split <;> omega
  · exact h
theorem W_lb {μ : fnMem} (h : zWF μ) {k a s t : Int} (ha : 0 ≤ a ∧ a ≤ 1) (hs : 2 ≤ s ∧ s ≤ 9) (ht : 0 ≤ t ∧ t ≤ 1) : zWF (fnUp (fnUp (fnUp μ 4 k a) 5 k s) 6 k t) := by
  obtain ⟨w1, w2, w3, w4, w5⟩ := h.2.2.1
  refine zWF_m h (fun k _ _ => by rw [fnUp_ne _ _ _ (by omega), fnUp_ne _ _ _ (by omega), fnUp_ne _ _ _ (by omega)]) rfl ⟨w1, fun j j0 j1 => ?_, fun j j0 j1 => ?_, w4, w5⟩
  · have := w2 j j0 j1
    show (if j = k then a else μ 4 j) = -2009 ∨ (0 ≤ (if j = k then a else μ 4 j) ∧ (if j = k then a else μ 4 j) ≤ 1 ∧ 2 ≤ (if j = k then s else μ 5 j) ∧ (if j = k then s else μ 5 j) ≤ 9)
    split <;> omega
  · have := w3 j j0 j1
    show 0 ≤ (if j = k then t else μ 6 j) ∧ (if j = k then t else μ 6 j) ≤ 1
    split <;> omega
theorem W_lbl {μ : fnMem} (h : zWF μ) {k s : Int} (hk : 0 ≤ k ∧ k ≤ 3) (hs : 2 ≤ s ∧ s ≤ 20) : zWF (fnUp (fnUp μ 0 8 k) 0 9 s) := by
  obtain ⟨w1, w2, w3, w4, w5⟩ := h.2.2.1
  refine zWF_m h (fun k _ _ => by rw [fnUp_ne _ _ _ (by omega), fnUp_ne _ _ _ (by omega)]) (by simp [zUp]) ⟨w1, w2, w3, w4, Or.inr ?_⟩
  show 0 ≤ k ∧ k ≤ 3 ∧ 2 ≤ s ∧ s ≤ 20
  omega
theorem W_layBar {μ : fnMem} (h : zWF μ) (k a s t : Int) (ht : t = 0 ∨ t = 1) : zWF (U_layBar μ k a s t) := by
  unfold U_layBar
  split
  · rename_i q
    exact W_lb h q.1.2.1 q.1.2.2 (by omega)
  · exact h
theorem W_layBall {μ : fnMem} (h : zWF μ) (k s : Int) : zWF (U_layBall μ k s) := by
  unfold U_layBall
  split
  · rename_i q
    exact W_lbl h q.1.1 q.1.2
  · exact h
theorem W_lift {μ : fnMem} (h : zWF μ) : zWF (U_lift μ) := by
  unfold U_lift
  obtain ⟨w1, w2, w3, w4, w5⟩ := h.2.2.1
  refine zWF_m h (fun k _ _ => by rw [fnSt_ne _ _ (by omega), fnUp_ne _ _ _ (by omega)]) rfl ⟨w1, fun j j0 j1 => Or.inl ?_, w3, w4, Or.inl rfl⟩
  rw [fnSt_same, if_pos ⟨j0, j1⟩]
theorem W_sb {μ : fnMem} (h : zWF μ) {d a : Int} (ha : 0 ≤ a ∧ a ≤ 1) : zWF (zsb μ d a) := by
  unfold zsb
  split
  · exact h
  · exact W_lb h ha (by omega) (by split <;> omega)
theorem W_sl {μ : fnMem} (h : zWF μ) {d : Int} (hd : 0 ≤ d ∧ d ≤ 76) : zWF (zsl μ d) := by
  unfold zsl
  split
  · exact h
  · exact W_lbl h (by omega) (by omega)
theorem W_layBest {μ : fnMem} (h : zWF μ) : zWF (U_layBest μ) := by
  unfold U_layBest
  exact W_sl (W_sb (W_sb (W_lift h) (by omega)) (by omega)) (by have := zbl_in (μ 7) (μ 1 3) 76; unfold zbal; omega)
theorem W_place {μ : fnMem} (h : zWF μ) (p x z : Int) : zWF (U_place μ p x z) := by
  unfold U_place
  split
  · rename_i q
    obtain ⟨w1, w2, w3, w4, w5⟩ := h.2.2.2.1
    refine zWF_l h (fun k _ => by rw [fnUp_ne _ _ _ (by omega), fnUp_ne _ _ _ (by omega)]) ⟨fun j j0 j1 => ?_, fun j j0 j1 => ?_, w3, w4, w5⟩
    · have := w1 j j0 j1
      show 1 ≤ (if j = p then x else μ 8 j) ∧ (if j = p then x else μ 8 j) ≤ 999
      split <;> omega
    · have := w2 j j0 j1
      show -999 ≤ (if j = p then z else μ 9 j) ∧ (if j = p then z else μ 9 j) ≤ 999
      split <;> omega
  · exact h
theorem W_note {μ : fnMem} (h : zWF μ) (c p : Int) : zWF (U_note μ c p) := by
  unfold U_note
  split
  · rename_i q
    obtain ⟨w1, w2, w3, w4, w5⟩ := h.2.2.2.1
    have p1 := h.1 (6 * c + 1) (by omega) (by omega)
    have p2 := h.1 (6 * c + 2) (by omega) (by omega)
    refine zWF_l h (fun k _ => by rw [fnUp_ne _ _ _ (by omega), fnUp_ne _ _ _ (by omega), fnUp_ne _ _ _ (by omega)]) ⟨w1, w2, fun j j0 j1 => ?_, fun j j0 j1 => ?_, fun j j0 j1 => ?_⟩
    · have := w3 j j0 j1
      show 0 ≤ (if j = 8 * c + p then 1 else μ 10 j) ∧ (if j = 8 * c + p then 1 else μ 10 j) ≤ 1
      split <;> omega
    · have := w4 j j0 j1
      show -999 ≤ (if j = 8 * c + p then μ 1 (6 * c + 1) else μ 11 j) ∧ (if j = 8 * c + p then μ 1 (6 * c + 1) else μ 11 j) ≤ 999
      split <;> omega
    · have := w5 j j0 j1
      show -999 ≤ (if j = 8 * c + p then μ 1 (6 * c + 2) else μ 12 j) ∧ (if j = 8 * c + p then μ 1 (6 * c + 2) else μ 12 j) ≤ 999
      split <;> omega
  · exact h
theorem W_event {μ : fnMem} (h : zWF μ) (k d p v : Int) : zWF (U_event μ k d p v) := by
  unfold U_event
  split
  · rename_i q
    obtain ⟨w1, w2, w3⟩ := h.2.2.2.2.1
    refine zWF_e h (fun k _ => by rw [fnUp_ne _ _ _ (by omega), fnUp_ne _ _ _ (by omega), fnUp_ne _ _ _ (by omega)]) ⟨fun j j0 j1 => ?_, fun j j0 j1 => ?_, fun j j0 j1 => ?_⟩
    · have := w1 j j0 j1
      show 0 ≤ (if j = k then d else μ 13 j) ∧ (if j = k then d else μ 13 j) ≤ 999
      split <;> omega
    · have := w2 j j0 j1
      show 0 ≤ (if j = k then p else μ 14 j) ∧ (if j = k then p else μ 14 j) ≤ 5
      split <;> omega
    · have := w3 j j0 j1
      show -300 ≤ (if j = k then v else μ 15 j) ∧ (if j = k then v else μ 15 j) ≤ 300
      split <;> omega
  · exact h
theorem W_home {μ : fnMem} (h : zWF μ) : zWF (U_home μ) := by
  unfold U_home
  refine zWF_v h (fun k _ h0 => fnUp_ne _ _ _ h0) (by simp [zUp]) (by simp [zUp]) ?_
  have e : fnUp μ 0 18 0 0 18 = 0 := by rw [fnUp_ap, if_pos rfl]
  unfold zWFv
  rw [e]
  exact ⟨by omega, fun _ _ _ => by omega, fun _ _ _ => by omega, fun _ _ _ => by omega, fun _ _ _ => by omega, fun _ _ _ => by omega, fun _ _ _ => by omega, fun _ _ _ _ _ => by omega⟩
theorem W_leg {μ : fnMem} (h : zWF μ) (d r g m o s : Int) : zWF (U_leg μ d r g m o s) := by
  unfold U_leg
  split
  · rename_i q
    obtain ⟨⟨q1, q2, q3, q4, q5, q6⟩, qd, qn⟩ := q
    obtain ⟨w1, w2, w3, w4, w5, w6, w7, w8⟩ := h.2.2.2.2.2
    refine zWF_v h (fun k hk h0 => by rw [fnUp_ne _ _ _ (by omega), fnUp_ne _ _ _ (by omega), fnUp_ne _ _ _ (by omega), fnUp_ne _ _ _ (by omega), fnUp_ne _ _ _ (by omega), fnUp_ne _ _ _ (by omega), fnUp_ne _ _ _ (by omega)]) (by simp [zUp]) (by simp [zUp]) ?_
    have e0 : (fnUp (fnUp (fnUp (fnUp (fnUp (fnUp (fnUp μ 16 (μ 0 18) d) 17 (μ 0 18) r) 18 (μ 0 18) g) 19 (μ 0 18) m) 20 (μ 0 18) o) 21 (μ 0 18) s) 0 18 (μ 0 18 + 1)) 0 18 = μ 0 18 + 1 := fnUp_at _ _ _ _
    have e16 : ∀ j : Int, (fnUp (fnUp (fnUp (fnUp (fnUp (fnUp (fnUp μ 16 (μ 0 18) d) 17 (μ 0 18) r) 18 (μ 0 18) g) 19 (μ 0 18) m) 20 (μ 0 18) o) 21 (μ 0 18) s) 0 18 (μ 0 18 + 1)) 16 j = if j = μ 0 18 then d else μ 16 j := fun _ => rfl
    have e17 : ∀ j : Int, (fnUp (fnUp (fnUp (fnUp (fnUp (fnUp (fnUp μ 16 (μ 0 18) d) 17 (μ 0 18) r) 18 (μ 0 18) g) 19 (μ 0 18) m) 20 (μ 0 18) o) 21 (μ 0 18) s) 0 18 (μ 0 18 + 1)) 17 j = if j = μ 0 18 then r else μ 17 j := fun _ => rfl
    have e18 : ∀ j : Int, (fnUp (fnUp (fnUp (fnUp (fnUp (fnUp (fnUp μ 16 (μ 0 18) d) 17 (μ 0 18) r) 18 (μ 0 18) g) 19 (μ 0 18) m) 20 (μ 0 18) o) 21 (μ 0 18) s) 0 18 (μ 0 18 + 1)) 18 j = if j = μ 0 18 then g else μ 18 j := fun _ => rfl
    have e19 : ∀ j : Int, (fnUp (fnUp (fnUp (fnUp (fnUp (fnUp (fnUp μ 16 (μ 0 18) d) 17 (μ 0 18) r) 18 (μ 0 18) g) 19 (μ 0 18) m) 20 (μ 0 18) o) 21 (μ 0 18) s) 0 18 (μ 0 18 + 1)) 19 j = if j = μ 0 18 then m else μ 19 j := fun _ => rfl
    have e20 : ∀ j : Int, (fnUp (fnUp (fnUp (fnUp (fnUp (fnUp (fnUp μ 16 (μ 0 18) d) 17 (μ 0 18) r) 18 (μ 0 18) g) 19 (μ 0 18) m) 20 (μ 0 18) o) 21 (μ 0 18) s) 0 18 (μ 0 18 + 1)) 20 j = if j = μ 0 18 then o else μ 20 j := fun _ => rfl
    have e21 : ∀ j : Int, (fnUp (fnUp (fnUp (fnUp (fnUp (fnUp (fnUp μ 16 (μ 0 18) d) 17 (μ 0 18) r) 18 (μ 0 18) g) 19 (μ 0 18) m) 20 (μ 0 18) o) 21 (μ 0 18) s) 0 18 (μ 0 18 + 1)) 21 j = if j = μ 0 18 then s else μ 21 j := fun _ => rfl
    unfold zWFv
    simp only [e0, e16, e17, e18, e19, e20, e21]
    clear e0 e16 e17 e18 e19 e20 e21
    generalize μ 0 18 = L at *
    refine ⟨by omega, fun l l0 l1 => ?_, fun l l0 l1 => ?_, fun l l0 l1 => ?_, fun l l0 l1 => ?_, fun l l0 l1 => ?_, fun l l0 l1 => ?_, fun i j i0 i1 i2 => ?_⟩
    · by_cases e : l = L
      · rw [if_pos e]; omega
      · rw [if_neg e]; exact w2 l l0 (by omega)
    · by_cases e : l = L
      · rw [if_pos e]; omega
      · rw [if_neg e]; exact w3 l l0 (by omega)
    · by_cases e : l = L
      · rw [if_pos e]; omega
      · rw [if_neg e]; exact w4 l l0 (by omega)
    · by_cases e : l = L
      · rw [if_pos e]; omega
      · rw [if_neg e]; exact w5 l l0 (by omega)
    · by_cases e : l = L
      · rw [if_pos e]; omega
      · rw [if_neg e]; exact w6 l l0 (by omega)
    · by_cases e : l = L
      · rw [if_pos e]; omega
      · rw [if_neg e]; exact w7 l l0 (by omega)
    · by_cases e : j = L
      · by_cases e2 : i = L
        · rw [if_pos e, if_pos e2]; omega
        · rw [if_pos e, if_neg e2]
          have := w8 i (L - 1) i0 (by omega) (by omega)
          omega
      · rw [if_neg e, if_neg (show ¬ i = L by omega)]; exact w8 i j i0 i1 (by omega)
  · exact h
