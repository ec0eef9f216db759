/-! THE ABSTRACT STATE: the model's cells μ = mv σ; zWF: their ranges; zCR: the class's cells stand for them; S_: the answers, U_: the changes -/
def mv (σ : fnMem) : fnMem := fun k => σ (51 + k)
def fnSc (μ μ1 : fnMem) : Prop := ∀ (k : Nat) (j : Int), k < 22 → ¬ (k = 0 ∧ (j = 0 ∨ j = 28)) → μ1 k j = μ k j
def zWFp (μ : fnMem) : Prop := ∀ i : Int, 0 ≤ i → i < 18 → -999 ≤ μ 1 i ∧ μ 1 i ≤ 999
def zWFs (μ : fnMem) : Prop := ∀ i : Int, 0 ≤ i → i < 96 → μ 2 i = -2009 ∨ (-600 ≤ μ 2 i ∧ μ 2 i ≤ 600)
def zWFm (μ : fnMem) : Prop := (∀ k : Int, 0 ≤ k → k < 6 → 0 ≤ μ 3 k ∧ μ 3 k ≤ 30000) ∧ (∀ k : Int, 0 ≤ k → k < 6 → μ 4 k = -2009 ∨ (0 ≤ μ 4 k ∧ μ 4 k ≤ 1 ∧ 2 ≤ μ 5 k ∧ μ 5 k ≤ 9)) ∧ (∀ k : Int, 0 ≤ k → k < 6 → 0 ≤ μ 6 k ∧ μ 6 k ≤ 1) ∧ (∀ k : Int, 0 ≤ k → k < 4 → 0 ≤ μ 7 k ∧ μ 7 k ≤ 20) ∧ (μ 0 8 = -2009 ∨ (0 ≤ μ 0 8 ∧ μ 0 8 ≤ 3 ∧ 2 ≤ μ 0 9 ∧ μ 0 9 ≤ 20))
def zWFl (μ : fnMem) : Prop := (∀ k : Int, 0 ≤ k → k < 8 → 1 ≤ μ 8 k ∧ μ 8 k ≤ 999) ∧ (∀ k : Int, 0 ≤ k → k < 8 → -999 ≤ μ 9 k ∧ μ 9 k ≤ 999) ∧ (∀ k : Int, 0 ≤ k → k < 24 → 0 ≤ μ 10 k ∧ μ 10 k ≤ 1) ∧ (∀ k : Int, 0 ≤ k → k < 24 → -999 ≤ μ 11 k ∧ μ 11 k ≤ 999) ∧ (∀ k : Int, 0 ≤ k → k < 24 → -999 ≤ μ 12 k ∧ μ 12 k ≤ 999)
def zWFe (μ : fnMem) : Prop := (∀ k : Int, 0 ≤ k → k < 20 → 0 ≤ μ 13 k ∧ μ 13 k ≤ 999) ∧ (∀ k : Int, 0 ≤ k → k < 20 → 0 ≤ μ 14 k ∧ μ 14 k ≤ 5) ∧ (∀ k : Int, 0 ≤ k → k < 20 → -300 ≤ μ 15 k ∧ μ 15 k ≤ 300)
def zWFv (μ : fnMem) : Prop := (0 ≤ μ 0 18 ∧ μ 0 18 ≤ 40) ∧ (∀ l : Int, 0 ≤ l → l < μ 0 18 → 0 ≤ μ 16 l ∧ μ 16 l ≤ 999) ∧ (∀ l : Int, 0 ≤ l → l < μ 0 18 → 0 ≤ μ 17 l ∧ μ 17 l < 3200) ∧ (∀ l : Int, 0 ≤ l → l < μ 0 18 → -30 ≤ μ 18 l ∧ μ 18 l ≤ 30) ∧ (∀ l : Int, 0 ≤ l → l < μ 0 18 → 0 ≤ μ 19 l ∧ μ 19 l ≤ 300) ∧ (∀ l : Int, 0 ≤ l → l < μ 0 18 → μ 20 l = -2009 ∨ (0 ≤ μ 20 l ∧ μ 20 l < 3200)) ∧ (∀ l : Int, 0 ≤ l → l < μ 0 18 → μ 21 l = -2009 ∨ (-600 ≤ μ 21 l ∧ μ 21 l ≤ 600)) ∧ (∀ i j : Int, 0 ≤ i → i ≤ j → j < μ 0 18 → μ 16 i ≤ μ 16 j)
def zWF (μ : fnMem) : Prop := zWFp μ ∧ zWFs μ ∧ zWFm μ ∧ zWFl μ ∧ zWFe μ ∧ zWFv μ
def zcnt (F : Int → Int) : Int := zsum (fun h => if F h ≠ -2009 then 1 else 0) 32
def vP (μ : fnMem) (c : Int) : Int → Int := fun j => μ 1 (6 * c + j)
def vS (μ : fnMem) (c : Int) : Int → Int := fun h => μ 2 (32 * c + h)
def zCRp (σ μ : fnMem) : Prop := ∀ c : Nat, c < 3 → ∀ k : Int, 0 ≤ k → k < 6 → σ (7 + c) k = μ 1 (6 * c + k)
def zCRs (σ μ : fnMem) : Prop := (∀ c : Nat, c < 3 → ∀ h : Int, 0 ≤ h → h < 32 → σ (14 + c) h = μ 2 (32 * c + h)) ∧ ∀ c : Nat, c < 3 → σ (11 + c) 1 = zcnt (vS μ c)
def zCRm (σ μ : fnMem) : Prop := (∀ k : Int, 0 ≤ k → k < 6 → σ 18 k = μ 3 k) ∧ (∀ k : Int, 0 ≤ k → k < 4 → σ 19 k = μ 7 k) ∧ (∀ k : Int, 0 ≤ k → k < 6 → (μ 4 k = -2009 ∧ σ 20 k = 0) ∨ (μ 4 k ≠ -2009 ∧ σ 20 k = μ 5 k ∧ σ 21 k = μ 4 k ∧ σ 22 k = μ 6 k)) ∧ (∀ k : Int, 0 ≤ k → k < 6 → 0 ≤ σ 21 k ∧ σ 21 k ≤ 1) ∧ (∀ k : Int, 0 ≤ k → k < 6 → 0 ≤ σ 22 k ∧ σ 22 k ≤ 1) ∧ σ 17 5 = μ 0 8 ∧ (μ 0 8 ≠ -2009 → σ 17 6 = μ 0 9)
def zCRl (σ μ : fnMem) : Prop := (∀ k : Int, 0 ≤ k → k < 8 → σ 27 k = μ 8 k) ∧ (∀ k : Int, 0 ≤ k → k < 8 → σ 28 k = μ 9 k) ∧ (∀ k : Int, 0 ≤ k → k < 24 → σ 31 k = μ 10 k) ∧ (∀ k : Int, 0 ≤ k → k < 24 → σ 29 k = μ 11 k) ∧ (∀ k : Int, 0 ≤ k → k < 24 → σ 30 k = μ 12 k)
def zCRe (σ μ : fnMem) : Prop := (∀ k : Int, 0 ≤ k → k < 20 → σ 33 k = μ 13 k) ∧ (∀ k : Int, 0 ≤ k → k < 20 → σ 34 k = μ 14 k) ∧ (∀ k : Int, 0 ≤ k → k < 20 → σ 35 k = μ 15 k)
def zCRv (σ μ : fnMem) : Prop := σ 36 6 = μ 0 18 ∧ (∀ l : Int, 0 ≤ l → l < μ 0 18 → σ 37 l = μ 16 l) ∧ (∀ l : Int, 0 ≤ l → l < μ 0 18 → σ 38 l = μ 17 l) ∧ (∀ l : Int, 0 ≤ l → l < μ 0 18 → σ 39 l = μ 18 l) ∧ (∀ l : Int, 0 ≤ l → l < μ 0 18 → σ 40 l = μ 19 l) ∧ (∀ l : Int, 0 ≤ l → l < μ 0 18 → σ 41 l = μ 20 l) ∧ (∀ l : Int, 0 ≤ l → l < μ 0 18 → σ 42 l = μ 21 l) ∧ fnR (σ 47 1)
def zCR (σ μ : fnMem) : Prop := zCRp σ μ ∧ zCRs σ μ ∧ zCRm σ μ ∧ zCRl σ μ ∧ zCRe σ μ ∧ zCRv σ μ
/-! when nothing of a group has changed -/
theorem zCRp_eq {σ σ1 μ μ1 : fnMem} (h : zCRp σ μ) (hs : ∀ k, 7 ≤ k → k ≤ 9 → σ1 k = σ k) (hm : μ1 1 = μ 1) : zCRp σ1 μ1 := fun c hc k k0 k1 => by rw [hs (7 + c) (by omega) (by omega), hm]; exact h c hc k k0 k1
theorem zCRs_eq {σ σ1 μ μ1 : fnMem} (h : zCRs σ μ) (hs : ∀ k, 11 ≤ k → k ≤ 16 → σ1 k = σ k) (hm : μ1 2 = μ 2) : zCRs σ1 μ1 := ⟨fun c hc k k0 k1 => by rw [hs (14 + c) (by omega) (by omega), hm]; exact h.1 c hc k k0 k1, fun c hc => by rw [hs (11 + c) (by omega) (by omega), h.2 c hc]; unfold vS; rw [hm]⟩
theorem zCRm_eq {σ σ1 μ μ1 : fnMem} (h : zCRm σ μ) (hs : ∀ k, 17 ≤ k → k ≤ 22 → σ1 k = σ k) (hm : ∀ k, 3 ≤ k → k ≤ 7 → μ1 k = μ k) (h8 : μ1 0 8 = μ 0 8) (h9 : μ1 0 9 = μ 0 9) : zCRm σ1 μ1 := by
  unfold zCRm at h ⊢
  rw [hs 17 (by decide) (by decide), hs 18 (by decide) (by decide), hs 19 (by decide) (by decide), hs 20 (by decide) (by decide), hs 21 (by decide) (by decide), hs 22 (by decide) (by decide), hm 3 (by decide) (by decide), hm 4 (by decide) (by decide), hm 5 (by decide) (by decide), hm 6 (by decide) (by decide), hm 7 (by decide) (by decide), h8, h9]
  exact h
theorem zCRl_eq {σ σ1 μ μ1 : fnMem} (h : zCRl σ μ) (hs : ∀ k, 27 ≤ k → k ≤ 31 → σ1 k = σ k) (hm : ∀ k, 8 ≤ k → k ≤ 12 → μ1 k = μ k) : zCRl σ1 μ1 := by
  unfold zCRl at h ⊢
  rw [hs 27 (by decide) (by decide), hs 28 (by decide) (by decide), hs 29 (by decide) (by decide), hs 30 (by decide) (by decide), hs 31 (by decide) (by decide), hm 8 (by decide) (by decide), hm 9 (by decide) (by decide), hm 10 (by decide) (by decide), hm 11 (by decide) (by decide), hm 12 (by decide) (by decide)]
  exact h
theorem zCRe_eq {σ σ1 μ μ1 : fnMem} (h : zCRe σ μ) (hs : ∀ k, 33 ≤ k → k ≤ 35 → σ1 k = σ k) (hm : ∀ k, 13 ≤ k → k ≤ 15 → μ1 k = μ k) : zCRe σ1 μ1 := by
  unfold zCRe at h ⊢
  rw [hs 33 (by decide) (by decide), hs 34 (by decide) (by decide), hs 35 (by decide) (by decide), hm 13 (by decide) (by decide), hm 14 (by decide) (by decide), hm 15 (by decide) (by decide)]
  exact h
theorem zCRv_eq {σ σ1 μ μ1 : fnMem} (h : zCRv σ μ) (hs : ∀ k, 36 ≤ k → k ≤ 42 → σ1 k = σ k) (hr : fnR (σ1 47 1)) (hm : ∀ k, 16 ≤ k → k ≤ 21 → μ1 k = μ k) (h18 : μ1 0 18 = μ 0 18) : zCRv σ1 μ1 := by
  unfold zCRv at h ⊢
  rw [hs 36 (by decide) (by decide), hs 37 (by decide) (by decide), hs 38 (by decide) (by decide), hs 39 (by decide) (by decide), hs 40 (by decide) (by decide), hs 41 (by decide) (by decide), hs 42 (by decide) (by decide), hm 16 (by decide) (by decide), hm 17 (by decide) (by decide), hm 18 (by decide) (by decide), hm 19 (by decide) (by decide), hm 20 (by decide) (by decide), hm 21 (by decide) (by decide), h18]
  exact ⟨h.1, h.2.1, h.2.2.1, h.2.2.2.1, h.2.2.2.2.1, h.2.2.2.2.2.1, h.2.2.2.2.2.2.1, hr⟩
/-- only the class's scratch cells have changed -/
def zScr : List Nat := [10, 23, 24, 25, 43, 44, 45, 46, 48, 49, 50]
theorem zCR_fr {σ σ1 μ : fnMem} (h : zCR σ μ) (hF : fnFr zScr σ σ1) : zCR σ1 μ :=
  ⟨zCRp_eq h.1 (fun k k0 k1 => hF k (by simp [zScr]; omega)) rfl, zCRs_eq h.2.1 (fun k k0 k1 => hF k (by simp [zScr]; omega)) rfl, zCRm_eq h.2.2.1 (fun k k0 k1 => hF k (by simp [zScr]; omega)) (fun _ _ _ => rfl) rfl rfl, zCRl_eq h.2.2.2.1 (fun k k0 k1 => hF k (by simp [zScr]; omega)) (fun _ _ _ => rfl), zCRe_eq h.2.2.2.2.1 (fun k k0 k1 => hF k (by simp [zScr]; omega)) (fun _ _ _ => rfl), zCRv_eq h.2.2.2.2.2 (fun k k0 k1 => hF k (by simp [zScr]; omega)) (by rw [hF 47 (by decide)]; exact h.2.2.2.2.2.2.2.2.2.2.2.2) (fun _ _ _ => rfl) rfl⟩
theorem zCR_sc {σ σ1 μ μ1 : fnMem} (h : zCR σ μ) (hs : ∀ k, k < 51 → σ1 k = σ k) (hm : fnSc μ μ1) : zCR σ1 μ1 := by
  have e : ∀ k, 1 ≤ k → k ≤ 21 → μ1 k = μ k := fun k k0 k1 => funext fun j => hm k j (by omega) (by omega)
  exact ⟨zCRp_eq h.1 (fun k _ _ => hs k (by omega)) (e 1 (by decide) (by decide)), zCRs_eq h.2.1 (fun k _ _ => hs k (by omega)) (e 2 (by decide) (by decide)), zCRm_eq h.2.2.1 (fun k _ _ => hs k (by omega)) (fun k _ _ => e k (by omega) (by omega)) (hm 0 8 (by decide) (by decide)) (hm 0 9 (by decide) (by decide)), zCRl_eq h.2.2.2.1 (fun k _ _ => hs k (by omega)) (fun k _ _ => e k (by omega) (by omega)), zCRe_eq h.2.2.2.2.1 (fun k _ _ => hs k (by omega)) (fun k _ _ => e k (by omega) (by omega)), zCRv_eq h.2.2.2.2.2 (fun k _ _ => hs k (by omega)) (by rw [hs 47 (by decide)]; exact h.2.2.2.2.2.2.2.2.2.2.2.2) (fun k _ _ => e k (by omega) (by omega)) (hm 0 18 (by decide) (by decide))⟩
theorem zWF_sc {μ μ1 : fnMem} (h : zWF μ) (hm : fnSc μ μ1) : zWF μ1 := by
  have e : ∀ k, 1 ≤ k → k ≤ 21 → μ1 k = μ k := fun k k0 k1 => funext fun j => hm k j (by omega) (by omega)
  unfold zWF zWFp zWFs zWFm zWFl zWFe zWFv at h ⊢
  rw [e 1 (by decide) (by decide), e 2 (by decide) (by decide), e 3 (by decide) (by decide), e 4 (by decide) (by decide), e 5 (by decide) (by decide), e 6 (by decide) (by decide), e 7 (by decide) (by decide), e 8 (by decide) (by decide), e 9 (by decide) (by decide), e 10 (by decide) (by decide), e 11 (by decide) (by decide), e 12 (by decide) (by decide), e 13 (by decide) (by decide), e 14 (by decide) (by decide), e 15 (by decide) (by decide), e 16 (by decide) (by decide), e 17 (by decide) (by decide), e 18 (by decide) (by decide), e 19 (by decide) (by decide), e 20 (by decide) (by decide), e 21 (by decide) (by decide), hm 0 8 (by decide) (by decide), hm 0 9 (by decide) (by decide), hm 0 18 (by decide) (by decide)]
  exact h
/-! what the parts of the class ask of their cells, out of zCR and zWF -/
theorem zCR.hP {σ μ : fnMem} (h : zCR σ μ) (hW : zWF μ) {c : Nat} (hc : c < 3) : ∀ j, 0 ≤ j → j < 6 → -32000 ≤ σ (7 + c) j ∧ σ (7 + c) j ≤ 32000 := fun j j0 j1 => by
  have := hW.1 (6 * c + j) (by omega) (by omega)
  rw [h.1 c hc j j0 j1]; omega
theorem zCR.er {σ μ : fnMem} (h : zCR σ μ) {c : Nat} (hc : c < 3) (x g : Int) : zer (σ (7 + c)) x g = zer (vP μ c) x g := zer_congr (fun j j0 j1 => h.1 c hc j j0 j1) x g
theorem zCR.erf {σ μ : fnMem} (h : zCR σ μ) {c : Nat} (hc : c < 3) (g : Int) : (fun x => zer (σ (7 + c)) x g) = fun x => zer (vP μ c) x g := funext fun x => h.er hc x g
theorem zCR.hS {σ μ : fnMem} (h : zCR σ μ) (hW : zWF μ) {c : Nat} (hc : c < 3) : ∀ x, 0 ≤ x → x < 32 → σ (14 + c) x = -2009 ∨ (-600 ≤ σ (14 + c) x ∧ σ (14 + c) x ≤ 600) := fun j j0 j1 => by
  have := hW.2.1 (32 * c + j) (by omega) (by omega)
  rw [h.2.1.1 c hc j j0 j1]; exact this
theorem zCR.sw {σ μ : fnMem} (h : zCR σ μ) {c : Nat} (hc : c < 3) : ∀ x, 0 ≤ x → x < 32 → σ (14 + c) x = vS μ c x := fun j j0 j1 => h.2.1.1 c hc j j0 j1
theorem zsum01 {G : Int → Int} (h : ∀ x, 0 ≤ G x ∧ G x ≤ 1) : ∀ n : Nat, 0 ≤ zsum G n ∧ zsum G n ≤ n
  | 0 => by simp [zsum]
  | n + 1 => by
    have := zsum01 h n
    have := h n
    rw [zsum_s]; omega
theorem zcnt_le (F : Int → Int) : 0 ≤ zcnt F ∧ zcnt F ≤ 32 := zsum01 (G := fun h => if F h ≠ -2009 then 1 else 0) (fun x => by (try dsimp only); split <;> omega) 32
theorem zcnt_any {F : Int → Int} (h : zcnt F ≠ 0) : zany F := by
  apply Classical.byContradiction
  intro hn
  apply h
  have key : ∀ n : Nat, n ≤ 32 → zsum (fun h => if F h ≠ -2009 then 1 else 0) n = 0 := by
    intro n
    induction n with
    | zero => intro _; rfl
    | succ n ih =>
      intro hn2
      rw [zsum_s, ih (by omega), if_neg]
      · rfl
      · intro q
        exact hn ⟨n, by omega, by omega, q⟩
  exact key 32 (Nat.le_refl _)
theorem zany_congr {F G : Int → Int} (h : ∀ x, 0 ≤ x → x < 32 → F x = G x) (ha : zany G) : zany F := by
  obtain ⟨x, x0, x1, hx⟩ := ha
  exact ⟨x, x0, x1, by rw [h x x0 x1]; exact hx⟩
theorem zCR.kSt {σ μ : fnMem} (h : zCR σ μ) (hW : zWF μ) : kSt σ := by
  obtain ⟨c1, c2, c3, c4, c5, c6, c7⟩ := h.2.2.1
  obtain ⟨w1, w2, w3, w4, w5⟩ := hW.2.2.1
  refine ⟨fun k k0 k1 => by rw [c1 k k0 k1]; exact w1 k k0 k1, fun k k0 k1 => by rw [c2 k k0 k1]; exact w4 k k0 k1, fun k k0 k1 => ?_, c4, c5, ?_⟩
  · have := c3 k k0 k1
    have := w2 k k0 k1
    omega
  · rw [c6]
    rcases w5 with q | q
    · exact Or.inl q
    · have := c7 (by omega)
      omega
theorem zCR.kPl {σ μ : fnMem} (h : zCR σ μ) (hW : zWF μ) : kPl σ := by
  obtain ⟨c1, c2, c3, c4, c5⟩ := h.2.2.2.1
  obtain ⟨w1, w2, w3, w4, w5⟩ := hW.2.2.2.1
  exact ⟨fun k k0 k1 => by rw [c1 k k0 k1]; exact w1 k k0 k1, fun k k0 k1 => by rw [c2 k k0 k1]; exact w2 k k0 k1, fun k k0 k1 => by rw [c4 k k0 k1]; exact w4 k k0 k1, fun k k0 k1 => by rw [c5 k k0 k1]; exact w5 k k0 k1, fun k k0 k1 => by rw [c3 k k0 k1]; exact w3 k k0 k1⟩
theorem zCR.kEv {σ μ : fnMem} (h : zCR σ μ) (hW : zWF μ) : kEv σ := by
  obtain ⟨c1, c2, c3⟩ := h.2.2.2.2.1
  obtain ⟨w1, w2, w3⟩ := hW.2.2.2.2.1
  exact ⟨fun k k0 k1 => by rw [c1 k k0 k1]; exact w1 k k0 k1, fun k k0 k1 => by rw [c2 k k0 k1]; exact w2 k k0 k1, fun k k0 k1 => by rw [c3 k k0 k1]; exact w3 k k0 k1⟩
theorem zCR.kLg {σ μ : fnMem} (h : zCR σ μ) (hW : zWF μ) {L : Nat} (hL : μ 0 18 = L) : kLg σ L := by
  obtain ⟨c1, c2, c3, c4, c5, c6, c7, c8⟩ := h.2.2.2.2.2
  obtain ⟨w1, w2, w3, w4, w5, w6, w7, w8⟩ := hW.2.2.2.2.2
  rw [hL] at c1 c2 c3 c4 c5 c6 c7 w1 w2 w3 w4 w5 w6 w7
  exact ⟨c1, by omega, fun k k0 k1 => by rw [c2 k k0 k1]; exact w2 k k0 k1, fun k k0 k1 => by rw [c3 k k0 k1]; exact w3 k k0 k1, fun k k0 k1 => by rw [c4 k k0 k1]; exact w4 k k0 k1, fun k k0 k1 => by rw [c5 k k0 k1]; exact w5 k k0 k1, fun k k0 k1 => by rw [c6 k k0 k1]; exact w6 k k0 k1, fun k k0 k1 => by rw [c7 k k0 k1]; exact w7 k k0 k1⟩
theorem zWF.L {μ : fnMem} (hW : zWF μ) : ∃ L : Nat, μ 0 18 = L ∧ L ≤ 40 := ⟨(μ 0 18).toNat, by have := hW.2.2.2.2.2.1; omega, by have := hW.2.2.2.2.2.1; omega⟩
/-- the posts of public calls: of the class, of the model -/
def zXP (S : Int) (μ1 σ : fnMem) : Int → fnMem → Prop := fun z σ1 => z = S ∧ zCR σ1 μ1 ∧ ∀ k, 51 ≤ k → σ1 k = σ k
def zMP (S : Int) (μ1 σ : fnMem) : Int → fnMem → Prop := fun z σ1 => z = S ∧ fnSc μ1 (mv σ1) ∧ ∀ k, k < 51 → σ1 k = σ k
theorem zXP.rf {S z : Int} {μ σ : fnMem} (h : zCR σ μ) (hz : z = S) : fnQI (zXP S μ σ) (some (zI z)) σ := ⟨z, rfl, hz, h, fun _ _ => rfl⟩
theorem zXP.fr {S z : Int} {μ σ σ1 : fnMem} (h : zCR σ μ) (hF : fnFr zScr σ σ1) (hz : z = S) : fnQI (zXP S μ σ) (some (zI z)) σ1 := ⟨z, rfl, hz, zCR_fr h hF, fun k hk => hF k (by simp [zScr]; omega)⟩
theorem zXP.rfU {S z : Int} {μ μ1 σ : fnMem} (h : zCR σ μ) (hz : z = S) (hu : μ1 = μ) : fnQI (zXP S μ1 σ) (some (zI z)) σ := by
  rw [hu]
  exact zXP.rf h hz
