def zpq (L : Nat) (i s l t : Int) : Prop := (0 ≤ l ∧ l < L ∧ (t + 300) % 20 = 0 ∧ -300 ≤ t ∧ t ≤ 300) ∧ (l < i ∨ (l = i ∧ t < s))
def zwL (Q : Int → Int → Int) (D : Int → Int) (pr : Int → Int → Prop) (b d s : Int) : Prop := (b = -1 ∧ ∀ l t, ¬ pr l t) ∨ zbI Q D pr b d s
theorem zwL.nn {Q : Int → Int → Int} {D : Int → Int} {pr : Int → Int → Prop} {b d s : Int} (h : zwL Q D pr b d s) (h0 : ∀ l t, 0 ≤ Q l t ∧ Q l t ≤ 1800000000) : -1 ≤ b ∧ b ≤ 1800000000 := by
  rcases h with ⟨h, -⟩ | ⟨⟨l, t, -, h, -⟩, -⟩
  · omega
  · have := h0 l t
    omega
theorem zwL.take {Q : Int → Int → Int} {D : Int → Int} {L : Nat} {i s b d bs : Int} (h : zwL Q D (zpq L i s) b d bs) (h0 : ∀ l t, 0 ≤ Q l t ∧ Q l t ≤ 1800000000) (hi : 0 ≤ i ∧ i < L) (hs : -300 ≤ s ∧ s ≤ 300 ∧ (s + 300) % 20 = 0) (hq : b < 0 ∨ Q i s < b) : zwL Q D (zpq L i (s + 20)) (Q i s) (D i) s := by
  refine Or.inr (zbI.take i s (pr := zpq L i s) (a := b) (b := d) (c := bs) ?_ (by unfold zpq; omega) (fun l1 s1 hp => ?_))
  · rcases h with ⟨-, h⟩ | h
    · exact Or.inl h
    · refine Or.inr ⟨h, Or.inl ?_⟩
      obtain ⟨⟨l, t, -, e, -⟩, -⟩ := h
      have := h0 l t
      omega
  · by_cases hx : l1 = i ∧ s1 = s
    · obtain ⟨rfl, rfl⟩ := hx
      exact Or.inr ⟨rfl, rfl, rfl⟩
    · refine Or.inl ?_
      unfold zpq at hp ⊢
      omega
theorem zwL.keep {Q : Int → Int → Int} {D : Int → Int} {L : Nat} {i s b d bs : Int} (h : zwL Q D (zpq L i s) b d bs) (hm : ∀ j : Int, 0 ≤ j → j ≤ i → D j ≤ D i) (hd : ∀ l t, D l = D i → Q l t = Q i t) (hi : 0 ≤ i ∧ i < L) (hs : -300 ≤ s ∧ s ≤ 300 ∧ (s + 300) % 20 = 0) (hb : 0 ≤ b) (hq : b ≤ Q i s) : zwL Q D (zpq L i (s + 20)) b d bs := by
  rcases h with ⟨h, -⟩ | h
  · omega
  · refine Or.inr (h.keep (fun l t hp => by unfold zpq at hp ⊢; omega) (fun l t hp => ?_))
    by_cases hx : l = i ∧ t = s
    · obtain ⟨rfl, rfl⟩ := hx
      refine Or.inr ?_
      obtain ⟨⟨l0, s0, hp0, e1, e2, e3⟩, hmin⟩ := h
      unfold zle3
      have hD := hm l0 hp0.1.1 (by unfold zpq at hp0; omega)
      rcases Int.lt_or_le b (Q l t) with q1 | q1
      · exact Or.inl q1
      · refine Or.inr ⟨by omega, ?_⟩
        rcases Int.lt_or_le d (D l) with q2 | q2
        · exact Or.inl q2
        · refine Or.inr ⟨by omega, ?_⟩
          by_cases hl : l0 = l
          · unfold zpq at hp0; omega
          · have hv := hmin l0 t (by unfold zpq at hp0 ⊢; omega)
            have hdd := hd l0 t (by omega)
            unfold zle3 at hv
            omega
    · refine Or.inl ?_
      unfold zpq at hp ⊢
      omega
theorem zwL.congr {Q : Int → Int → Int} {D : Int → Int} {pr pr1 : Int → Int → Prop} {b d s : Int} (h : zwL Q D pr b d s) (he : ∀ l t, pr l t ↔ pr1 l t) : zwL Q D pr1 b d s := by
  have : pr = pr1 := funext fun l => funext fun t => propext (he l t)
  rw [← this]
  exact h
