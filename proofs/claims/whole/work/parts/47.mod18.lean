def zpq (L : Nat) (i s l t : Int) : Prop := (0 ≤ l ∧ l < L ∧ (t + 300) % 20 = 0 ∧ -300 ≤ t ∧ t ≤ 300) ∧ (l < i ∨ (l = i ∧ t < s))
def zwL (Q : Int → Int → Int) (D : Int → Int) (pr : Int → Int → Prop) (b d s : Int) : Prop := (b = -1 ∧ ∀ l t, ¬ pr l t) ∨ zbI Q D pr b d s
theorem zwL.nn {Q : Int → Int → Int} {D : Int → Int} {pr : Int → Int → Prop} {b d s : Int} (h : zwL Q D pr b d s) (h0 : ∀ l t, 0 ≤ Q l t ∧ Q l t ≤ 1800000000) : -1 ≤ b ∧ b ≤ 1800000000 := by
  rcases h with ⟨h, -⟩ | ⟨⟨l, t, -, h, -⟩, -⟩
  · omega
  · have := h0 l t
    omega
theorem zwL.take {Q : Int → Int → Int} {D : Int → Int} {L : Nat} {i s b d bs : Int} (h : zwL Q D (zpq L i s) b d bs) (h0 : ∀ l t, 0 ≤ Q l t ∧ Q l t ≤ 1800000000) (hi : 0 ≤ i ∧ i < L) (hs : -300 ≤ s ∧ s ≤ 300 ∧ (s + 300) % 20 = 0) (hq : b < 0 ∨ Q i s < b) : zwL Q D (zpq L i (s + 20)) (Q i s) (D i) s := by
  refine Or.inr (zbI.take i s (pr := zpq L i s) (a := b) (b := d) (c := bs) ?_ (by unfold zpq; omega) (fun l1 s1 hp => ?_))
  · rcases h with ⟨-, h⟩ | h
    · exact Or.inl h
    · refine Or.inr ⟨h, Or.inl ?_⟩
      obtain ⟨⟨l, t, -, e, -⟩, -⟩ := h
      have := h0 l t
      omega
  · by_cases hx : l1 = i ∧ s1 = s
    · obtain ⟨rfl, rfl⟩ := hx
      exact Or.inr ⟨rfl, rfl, rfl⟩
    · refine Or.inl ?_
      unfold zpq at hp ⊢
      omega
theorem zwL.keep {Q : Int → Int → Int} {D : Int → Int} {L : Nat} {i s b d bs : Int} (h : zwL Q D (zpq L i s) b d bs) (hm : ∀ j : Int, 0 ≤ j → j ≤ i → D j ≤ D i) (hd : ∀ l t, D l = D i → Q l t = Q i t) (hi : 0 ≤ i ∧ i < L) (hs : -300 ≤ s ∧ s ≤ 300 ∧ (s + 300) % 20 = 0) (hb : 0 ≤ b) (hq : b ≤ Q i s) : zwL Q D (zpq L i (s + 20)) b d bs := by
  rcases h with ⟨h, -⟩ | h
  · omega
  · refine Or.inr (h.keep (fun l t hp => by unfold zpq at hp ⊢; omega) (fun l t hp => ?_))
    by_cases hx : l = i ∧ t = s
    · obtain ⟨rfl, rfl⟩ := hx
      refine Or.inr ?_
      obtain ⟨⟨l0, s0, hp0, e1, e2, e3⟩, hmin⟩ := h
      unfold zle3
      have hD := hm l0 hp0.1.1 (by unfold zpq at hp0; omega)
      rcases Int.lt_or_le b (Q l t) with q1 | q1
      · exact Or.inl q1
      · refine Or.inr ⟨by omega, ?_⟩
        rcases Int.lt_or_le d (D l) with q2 | q2
        · exact Or.inl q2
        · refine Or.inr ⟨by omega, ?_⟩
          by_cases hl : l0 = l
          · unfold zpq at hp0; omega
          · have hv := hmin l0 t (by unfold zpq at hp0 ⊢; omega)
            have hdd := hd l0 t (by omega)
            unfold zle3 at hv
            omega
    · refine Or.inl ?_
      unfold zpq at hp ⊢
      omega
theorem zwL.congr {Q : Int → Int → Int} {D : Int → Int} {pr pr1 : Int → Int → Prop} {b d s : Int} (h : zwL Q D pr b d s) (he : ∀ l t, pr l t ↔ pr1 l t) : zwL Q D pr1 b d s := by
  have : pr = pr1 := funext fun l => funext fun t => propext (he l t)
  rw [← this]
  exact h

theorem zwQ_in {μ : fnMem} (hW : zWF μ) {N Ea : Int} (hN : -9999 ≤ N ∧ N ≤ 9999) (hE : -9999 ≤ Ea ∧ Ea ≤ 9999) (f : Int → Int) (hf : ∀ r, -1000 ≤ f r ∧ f r ≤ 1000) (d s : Int) : -12000 ≤ (zwk (zcrs μ) (μ 16) (μ 19) f d s (zLn μ)).tdiv 1000 ∧ (zwk (zcrs μ) (μ 16) (μ 19) f d s (zLn μ)).tdiv 1000 ≤ 12000 := by
  obtain ⟨x1, x2, x3, x4, x5, x6, x7, x8⟩ := hW.2.2.2.2.2
  have h3 : (zLn μ : Int) = μ 0 18 := by unfold zLn; omega
  have m := zmf_le (n := zLn μ) (C := zcrs μ) (M := μ 19) (f := f) (g := fun l => (zcrs μ l + (if d ≤ μ 16 l then s else 0)) % 3200) (fun l l0 l1 => x5 l l0 (by omega)) hf (zLn μ) (Nat.le_refl _)
  refine ztd1000 ?_
  unfold zwk
  omega
theorem zwQ_nn {μ : fnMem} (hW : zWF μ) {N Ea : Int} (hN : -9999 ≤ N ∧ N ≤ 9999) (hE : -9999 ≤ Ea ∧ Ea ≤ 9999) (l t : Int) : 0 ≤ zwQ μ N Ea l t ∧ zwQ μ N Ea l t ≤ 1800000000 := by
  have a := zwQ_in hW hN hE zcosine zcosine_le (μ 16 l) t
  have b := zwQ_in hW hN hE zsine zsine_le (μ 16 l) t
  unfold zwQ zq
  exact zsq_le (by omega) (by omega)
