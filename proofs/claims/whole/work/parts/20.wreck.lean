/-- worked, with a jump of s from day d on; f is the sine or the cosine -/
def zwk (C D M f : Int → Int) (d s : Int) (n : Nat) : Int := zsum (fun l => M l * f ((C l + (if d ≤ D l then s else 0)) % 3200)) n
def zmix (C M f : Int → Int) (k s : Int) (n : Nat) : Int := zsum (fun l => M l * f ((C l + (if k ≤ l then s else 0)) % 3200)) n
def zq (C D M : Int → Int) (L : Nat) (N Ea l s : Int) : Int := (N - (zwk C D M zcosine (D l) s L).tdiv 1000) * (N - (zwk C D M zcosine (D l) s L).tdiv 1000) + (Ea - (zwk C D M zsine (D l) s L).tdiv 1000) * (Ea - (zwk C D M zsine (D l) s L).tdiv 1000)
def zle3 (q d s q1 d1 s1 : Int) : Prop := q < q1 ∨ (q = q1 ∧ (d < d1 ∨ (d = d1 ∧ s ≤ s1)))
def zbI (Q : Int → Int → Int) (D : Int → Int) (pr : Int → Int → Prop) (sq bd bs : Int) : Prop := (∃ l s, pr l s ∧ sq = Q l s ∧ bd = D l ∧ bs = s) ∧ ∀ l s, pr l s → zle3 sq bd bs (Q l s) (D l) s
theorem zbI.uniq {Q : Int → Int → Int} {D : Int → Int} {pr : Int → Int → Prop} {a b c a1 b1 c1 : Int} (h : zbI Q D pr a b c) (h1 : zbI Q D pr a1 b1 c1) : a = a1 ∧ b = b1 ∧ c = c1 := by
  obtain ⟨⟨l, s, hp, rfl, rfl, rfl⟩, hm⟩ := h
  obtain ⟨⟨l1, s1, hp1, rfl, rfl, rfl⟩, hm1⟩ := h1
  have e1 := hm l1 c1 hp1
  have e2 := hm1 l c hp
  unfold zle3 at e1 e2
  omega
theorem zbI.keep {Q : Int → Int → Int} {D : Int → Int} {pr pr1 : Int → Int → Prop} {a b c : Int} (h : zbI Q D pr a b c) (h1 : ∀ l s, pr l s → pr1 l s) (h2 : ∀ l s, pr1 l s → pr l s ∨ zle3 a b c (Q l s) (D l) s) : zbI Q D pr1 a b c := by
  obtain ⟨⟨l, s, hp, e1, e2, e3⟩, hm⟩ := h
  exact ⟨⟨l, s, h1 l s hp, e1, e2, e3⟩, fun l s q => (h2 l s q).elim (hm l s) id⟩
theorem zbI.take {Q : Int → Int → Int} {D : Int → Int} {pr pr1 : Int → Int → Prop} {a b c : Int} (l s : Int) (h : (∀ l s, ¬ pr l s) ∨ (zbI Q D pr a b c ∧ zle3 (Q l s) (D l) s a b c)) (h0 : pr1 l s) (h2 : ∀ l1 s1, pr1 l1 s1 → pr l1 s1 ∨ (Q l1 s1 = Q l s ∧ D l1 = D l ∧ s1 = s)) : zbI Q D pr1 (Q l s) (D l) s := by
  refine ⟨⟨l, s, h0, rfl, rfl, rfl⟩, fun l1 s1 q => ?_⟩
  rcases h2 l1 s1 q with q | ⟨e1, e2, e3⟩
  · rcases h with h | ⟨h, hl⟩
    · exact absurd q (h l1 s1)
    · have := h.2 l1 s1 q
      unfold zle3 at this hl ⊢
      omega
  · unfold zle3
    omega
theorem zsum_one {F G : Int → Int} {k : Int} : ∀ n : Nat, 0 ≤ k → k < n → (∀ l : Int, 0 ≤ l → l < n → l ≠ k → F l = G l) → zsum G n = zsum F n + (G k - F k)
  | 0, h0, h1, _ => by omega
  | n + 1, h0, h1, h => by
    rw [zsum_s, zsum_s]
    by_cases hk : k = n
    · rw [zsum_congr (F := G) (G := F) n (fun q q0 q1 => (h q q0 (by omega) (by omega)).symm), hk]
      omega
    · rw [zsum_one n h0 (by omega) (fun l l0 l1 l2 => h l l0 (by omega) l2), h n (by omega) (by omega) (by omega)]
      omega
theorem zmix_step {C M f : Int → Int} {k s : Int} {n : Nat} (h0 : 0 ≤ k) (h1 : k < n) (hC : 0 ≤ C k ∧ C k < 3200) : zmix C M f (k + 1) s n = zmix C M f k s n + M k * (f (C k) - f ((C k + s) % 3200)) := by
  unfold zmix
  rw [zsum_one (F := fun l => M l * f ((C l + (if k ≤ l then s else 0)) % 3200)) (k := k) n h0 h1 (fun l l0 l1 l2 => ?_)]
  · rw [if_neg (by omega), if_pos (by omega), Int.mul_sub, show (C k + 0) % 3200 = C k by omega]
  · by_cases hq : k ≤ l
    · simp only [if_pos hq, if_pos (show k + 1 ≤ l by omega)]
    · simp only [if_neg hq, if_neg (show ¬ k + 1 ≤ l by omega)]
theorem zmix_wk {C D M f : Int → Int} {k s : Int} {n : Nat} (h : ∀ l : Int, 0 ≤ l → l < n → (k ≤ l ↔ D k ≤ D l)) : zmix C M f k s n = zwk C D M f (D k) s n := by
  unfold zmix zwk
  refine zsum_congr n (fun l l0 l1 => ?_)
  by_cases hq : k ≤ l
  · rw [if_pos hq, if_pos ((h l l0 l1).mp hq)]
  · rw [if_neg hq, if_neg (fun z => hq ((h l l0 l1).mpr z))]
theorem zmf_le {n : Nat} {C M f g : Int → Int} (hM : ∀ l : Int, 0 ≤ l → l < n → 0 ≤ M l ∧ M l ≤ 300) (hf : ∀ r, -1000 ≤ f r ∧ f r ≤ 1000) : ∀ m : Nat, m ≤ n → -(300000 * m) ≤ zsum (fun l => M l * f (g l)) m ∧ zsum (fun l => M l * f (g l)) m ≤ 300000 * m
  | 0, _ => by simp [zsum]
  | m + 1, hm => by
    have ih := zmf_le (C := C) (g := g) hM hf m (by omega)
    have h1 := hM m (by omega) (by omega)
    have h2 := hf (g m)
    have h3 := zmul_le (a := M m) (b := f (g m)) (A := 300) (B := 1000) (by omega) (by omega) h2.1 h2.2
    rw [zsum_s]
    omega
theorem zsine_le (r : Int) : -1000 ≤ zsine r ∧ zsine r ≤ 1000 := zbtw_le (zsn_le _) (zsn_le _) (by omega)
theorem zcosine_le (r : Int) : -1000 ≤ zcosine r ∧ zcosine r ≤ 1000 := zsine_le _
theorem zsq_le {a b : Int} (ha : -30000 ≤ a ∧ a ≤ 30000) (hb : -30000 ≤ b ∧ b ≤ 30000) : 0 ≤ a * a + b * b ∧ a * a + b * b ≤ 1800000000 := by
  have h1 := zmul_le (a := a) (b := a) (A := 30000) (B := 30000) (by omega) (by omega) (by omega) (by omega)
  have h2 := zmul_le (a := b) (b := b) (A := 30000) (B := 30000) (by omega) (by omega) (by omega) (by omega)
  have sq : ∀ x : Int, 0 ≤ x * x := fun x => by
    rcases Int.le_total 0 x with q | q
    · exact Int.mul_nonneg q q
    · have := Int.mul_nonneg (a := -x) (b := -x) (by omega) (by omega)
      rwa [Int.neg_mul_neg] at this
  have h3 := sq a
  have h4 := sq b
  omega
theorem ztd1000 {x : Int} (h : -12000000 ≤ x ∧ x ≤ 12000000) : -12000 ≤ x.tdiv 1000 ∧ x.tdiv 1000 ≤ 12000 := by
  have h1 := Int.tmod_add_mul_tdiv x 1000
  have h2 := Int.tmod_lt_of_pos x (show (0 : Int) < 1000 by decide)
  have h3 := Int.lt_tmod_of_pos x (show (0 : Int) < 1000 by decide)
  have h4 : x < 0 → x.tmod 1000 ≤ 0 := fun q => by
    have := Int.tmod_nonneg (a := -x) 1000 (by omega)
    rw [Int.neg_tmod] at this
    omega
  have h5 : 0 ≤ x → 0 ≤ x.tmod 1000 := fun q => Int.tmod_nonneg 1000 q
  omega

set_option maxHeartbeats 4000000 in
set_option maxRecDepth 20000 in
theorem c_X9_weigh (E : fnE) (σ : fnMem) (d s a b : Int) (hd : 0 ≤ d ∧ d ≤ 999) (ha : -30000 ≤ a ∧ a ≤ 30000) (hb : -30000 ≤ b ∧ b ≤ 30000) (h1 : fnR (σ 47 1)) (h3 : fnR (σ 47 3)) : fnOk E mX9_weigh [.ref 47, zI d, zI s, zI a, zI b] σ (fnIs none (if a * a + b * b < σ 47 3 ∨ (a * a + b * b = σ 47 3 ∧ d < σ 47 1) then fnUp (fnUp (fnUp σ 47 3 (a * a + b * b)) 47 1 d) 47 2 s else σ)) := by
  refine fnOk.of [.ref 47, zI d, zI s, zI a, zI b, .null] rfl (by decide +kernel) rfl (fun V hV hR => ?_)
  replace hV : fnCx E RX9 cX9_weigh 6 0 0 V := hV
  replace hR : fnRt cX9_weigh none _ V := hR
  have hs := zsq_le ha hb
  refine fn_iload_3 hV dX9_weigh_0 ?_
  refine fn_iload_3 hV dX9_weigh_1 ?_
  refine fn_imul hV dX9_weigh_2 ?_
  refine fn_iload_4 hV dX9_weigh_3 ?_
  refine fn_iload_4 hV dX9_weigh_5 ?_
  refine fn_imul hV dX9_weigh_7 ?_
  refine fn_iadd hV dX9_weigh_8 ?_
  refine fn_istore_5 hV dX9_weigh_9 rfl rfl ?_
  refine fn_iload_5 hV dX9_weigh_11 ?_
  refine fn_aload_0 hV dX9_weigh_13 ?_
  refine fn_getIz hV 3 dX9_weigh_14 fl_X9_22 fi_47_3 rfl ?_
  refine fn_icmp_lt hV (by omega) (by omega) dX9_weigh_17 (fun q17 => ?_) (fun q17 => ?_)
  · refine fn_aload_0 hV dX9_weigh_37 ?_
    refine fn_iload_5 hV dX9_weigh_38 ?_
    refine fn_putIz hV 3 dX9_weigh_40 fp_X9_22 fi_47_3 rfl ?_
    refine fn_aload_0 hV dX9_weigh_43 ?_
    refine fn_iload_1 hV dX9_weigh_44 ?_
    refine fn_putIz hV 1 dX9_weigh_45 fp_X9_15 fi_47_1 rfl ?_
    refine fn_aload_0 hV dX9_weigh_48 ?_
    refine fn_iload_2 hV dX9_weigh_49 ?_
    refine fn_putIz hV 2 dX9_weigh_50 fp_X9_19 fi_47_2 rfl ?_
    exact fn_vret hR dX9_weigh_53 ⟨rfl, by first | rw [if_pos (by omega)] | rw [if_neg (by omega)]⟩
  · refine fn_iload_5 hV dX9_weigh_20 ?_
    refine fn_aload_0 hV dX9_weigh_22 ?_
    refine fn_getIz hV 3 dX9_weigh_23 fl_X9_22 fi_47_3 rfl ?_
    refine fn_icmp_ne hV (by omega) (by omega) dX9_weigh_26 (fun q26 => ?_) (fun q26 => ?_)
    · exact fn_vret hR dX9_weigh_53 ⟨rfl, by first | rw [if_pos (by omega)] | rw [if_neg (by omega)]⟩
    · refine fn_iload_1 hV dX9_weigh_29 ?_
      refine fn_aload_0 hV dX9_weigh_30 ?_
      refine fn_getIz hV 1 dX9_weigh_31 fl_X9_15 fi_47_1 rfl ?_
      refine fn_icmp_ge hV (by omega) (by omega) dX9_weigh_34 (fun q34 => ?_) (fun q34 => ?_)
      · exact fn_vret hR dX9_weigh_53 ⟨rfl, by first | rw [if_pos (by omega)] | rw [if_neg (by omega)]⟩
      · refine fn_aload_0 hV dX9_weigh_37 ?_
        refine fn_iload_5 hV dX9_weigh_38 ?_
        refine fn_putIz hV 3 dX9_weigh_40 fp_X9_22 fi_47_3 rfl ?_
        refine fn_aload_0 hV dX9_weigh_43 ?_
        refine fn_iload_1 hV dX9_weigh_44 ?_
        refine fn_putIz hV 1 dX9_weigh_45 fp_X9_15 fi_47_1 rfl ?_
        refine fn_aload_0 hV dX9_weigh_48 ?_
        refine fn_iload_2 hV dX9_weigh_49 ?_
        refine fn_putIz hV 2 dX9_weigh_50 fp_X9_19 fi_47_2 rfl ?_
        exact fn_vret hR dX9_weigh_53 ⟨rfl, by first | rw [if_pos (by omega)] | rw [if_neg (by omega)]⟩

/-- what has been weighed: all legs with all jumps below S; and with s the legs below k -/
def zpr (L : Nat) (S l s : Int) : Prop := 0 ≤ l ∧ l < L ∧ (s + 300) % 20 = 0 ∧ -300 ≤ s ∧ s < S
def zprk (L : Nat) (S k l s : Int) : Prop := zpr L S l s ∨ (s = S ∧ 0 ≤ l ∧ l < k)
def zbI0 (Q : Int → Int → Int) (D : Int → Int) (pr : Int → Int → Prop) (σ : fnMem) : Prop := (σ 47 3 = 2000000000 ∧ ∀ l s, ¬ pr l s) ∨ (zbI Q D pr (σ 47 3) (σ 47 1) (σ 47 2))
theorem zbI0_congr {Q : Int → Int → Int} {D : Int → Int} {pr pr1 : Int → Int → Prop} {σ : fnMem} (h : zbI0 Q D pr σ) (he : ∀ l s, pr l s ↔ pr1 l s) : zbI0 Q D pr1 σ := by
  have : pr = pr1 := by
    funext l s
    exact propext (he l s)
  rw [← this]
  exact h
theorem zbI0_beg {Q : Int → Int → Int} {D : Int → Int} {L : Nat} {s : Int} {σ : fnMem} (h : zbI0 Q D (zpr L s) σ) : zbI0 Q D (zprk L s 0) σ := zbI0_congr h (fun l s => by unfold zprk zpr; omega)
theorem zbI0_end {Q : Int → Int → Int} {D : Int → Int} {L : Nat} {s i : Int} {σ : fnMem} (h : zbI0 Q D (zprk L s i) σ) (hi : i = L) (hs : -300 ≤ s ∧ (s + 300) % 20 = 0) : zbI0 Q D (zpr L (s + 20)) σ := zbI0_congr h (fun l s => by unfold zprk zpr; omega)
theorem zbI0_weigh {Q : Int → Int → Int} {D : Int → Int} {L : Nat} {s i q d : Int} {σ1 : fnMem} (hi : 0 ≤ i ∧ i < L) (hq : Q i s = q) (hd : D i = d) (hq2 : q ≤ 1800000000) (gI : zbI0 Q D (zprk L s i) σ1) : zbI0 Q D (zprk L s (i + 1)) (if q < σ1 47 3 ∨ (q = σ1 47 3 ∧ d < σ1 47 1) then fnUp (fnUp (fnUp σ1 47 3 q) 47 1 d) 47 2 s else σ1) := by
  subst hq; subst hd
  by_cases hc : Q i s < σ1 47 3 ∨ (Q i s = σ1 47 3 ∧ D i < σ1 47 1)
  · rw [if_pos hc]
    refine Or.inr ?_
    have e3 : fnUp (fnUp (fnUp σ1 47 3 (Q i s)) 47 1 (D i)) 47 2 s 47 3 = Q i s := by simp [fnUp_same]
    have e1 : fnUp (fnUp (fnUp σ1 47 3 (Q i s)) 47 1 (D i)) 47 2 s 47 1 = D i := by simp [fnUp_same]
    have e2 : fnUp (fnUp (fnUp σ1 47 3 (Q i s)) 47 1 (D i)) 47 2 s 47 2 = s := by simp [fnUp_same]
    rw [e3, e1, e2]
    refine zbI.take i s ?_ (by unfold zprk; omega) (fun l1 s1 hp => ?_) (a := σ1 47 3) (b := σ1 47 1) (c := σ1 47 2) (pr := zprk L s i)
    · rcases gI with ⟨-, h⟩ | h
      · exact Or.inl h
      · exact Or.inr ⟨h, by unfold zle3; omega⟩
    · by_cases hl : s1 = s ∧ l1 = i
      · exact Or.inr (by rw [hl.1, hl.2]; exact ⟨rfl, rfl, rfl⟩)
      · exact Or.inl (by unfold zprk zpr at hp ⊢; omega)
  · rw [if_neg hc]
    rcases gI with ⟨h, -⟩ | h
    · omega
    · refine Or.inr (h.keep (fun l1 s1 hp => by unfold zprk zpr at hp ⊢; omega) (fun l1 s1 hp => ?_))
      by_cases hl : s1 = s ∧ l1 = i
      · refine Or.inr ?_
        obtain ⟨⟨l0, s0, hp0, -, -, hs0⟩, -⟩ := h
        rw [hl.1, hl.2]
        unfold zprk zpr at hp0
        unfold zle3
        omega
      · exact Or.inl (by unfold zprk zpr at hp ⊢; omega)
theorem zbI0_skip {Q : Int → Int → Int} {D : Int → Int} {L : Nat} {s i : Int} {σ1 : fnMem} (hi : 1 ≤ i ∧ i < L) (hq : Q i s = Q (i - 1) s) (hd : D i = D (i - 1)) (gI : zbI0 Q D (zprk L s i) σ1) : zbI0 Q D (zprk L s (i + 1)) σ1 := by
  have hin : zprk L s i (i - 1) s := Or.inr ⟨rfl, by omega, by omega⟩
  rcases gI with ⟨-, h⟩ | h
  · exact absurd hin (h _ _)
  · refine Or.inr (h.keep (fun l1 s1 hp => by unfold zprk zpr at hp ⊢; omega) (fun l1 s1 hp => ?_))
    by_cases hl : s1 = s ∧ l1 = i
    · refine Or.inr ?_
      rw [hl.1, hl.2, hq, hd]
      exact h.2 _ _ hin
    · exact Or.inl (by unfold zprk zpr at hp ⊢; omega)
theorem zq_day {C D M : Int → Int} {L : Nat} {N Ea i j s : Int} (h : D i = D j) : zq C D M L N Ea i s = zq C D M L N Ea j s := by
  unfold zq
  rw [h]
theorem zwei_fr {σ σ1 : fnMem} {q d s : Int} (h : fnFr [47] σ σ1) : fnFr [47] σ (if q < σ1 47 3 ∨ (q = σ1 47 3 ∧ d < σ1 47 1) then fnUp (fnUp (fnUp σ1 47 3 q) 47 1 d) 47 2 s else σ1) := by
  split
  · exact ((h.up (by decide)).up (by decide)).up (by decide)
  · exact h
theorem zwei_r {σ1 : fnMem} {q d s : Int} (h1 : fnR (σ1 47 1)) (h3 : fnR (σ1 47 3)) (hq : fnR q) (hd : fnR d) : fnR ((if q < σ1 47 3 ∨ (q = σ1 47 3 ∧ d < σ1 47 1) then fnUp (fnUp (fnUp σ1 47 3 q) 47 1 d) 47 2 s else σ1) 47 1) ∧ fnR ((if q < σ1 47 3 ∨ (q = σ1 47 3 ∧ d < σ1 47 1) then fnUp (fnUp (fnUp σ1 47 3 q) 47 1 d) 47 2 s else σ1) 47 3) := by
  split
  · have e3 : fnUp (fnUp (fnUp σ1 47 3 q) 47 1 d) 47 2 s 47 3 = q := by simp [fnUp_same]
    have e1 : fnUp (fnUp (fnUp σ1 47 3 q) 47 1 d) 47 2 s 47 1 = d := by simp [fnUp_same]
    rw [e3, e1]
    exact ⟨hd, hq⟩
  · exact ⟨h1, h3⟩

set_option maxHeartbeats 4000000 in
set_option maxRecDepth 20000 in
theorem c_X9_findDay (E : fnE) (σ : fnMem) (L : Nat) (hK : kLg σ L) (hm : ∀ i j : Int, 0 ≤ i → i ≤ j → j < L → σ 37 i ≤ σ 37 j) (hC : ∀ l : Int, 0 ≤ l → l < L → 0 ≤ σ 48 l ∧ σ 48 l < 3200) (N Ea : Int) (hN : -9999 ≤ N ∧ N ≤ 9999) (hE : -9999 ≤ Ea ∧ Ea ≤ 9999) (s : Int) (hs : -300 ≤ s ∧ s ≤ 300 ∧ (s + 300) % 20 = 0) (h1 : fnR (σ 47 1)) (h3 : fnR (σ 47 3)) (hI : zbI0 (zq (σ 48) (σ 37) (σ 40) L N Ea) (σ 37) (zpr L s) σ) : fnOk E mX9_findDay [.ref 47, .ref 36, zI s, zI N, zI Ea] σ (fnQv (fun σ1 => fnFr [47] σ σ1 ∧ fnR (σ1 47 1) ∧ fnR (σ1 47 3) ∧ zbI0 (zq (σ 48) (σ 37) (σ 40) L N Ea) (σ 37) (zpr L (s + 20)) σ1)) := by
  refine fnOk.of [.ref 47, .ref 36, zI s, zI N, zI Ea, .null, .null, .null, .null, .null] rfl (by decide +kernel) rfl (fun V hV hR => ?_)
  replace hV : fnCx E RX9 cX9_findDay 10 4 91 V := hV
  replace hR : fnRt cX9_findDay none _ V := hR
  have h36 := hK.1
  have h40 := hK.2.1
  refine fn_iconst hV dX9_findDay_0 ?_
  refine fn_istore_5 hV dX9_findDay_1 rfl rfl ?_
  refine fn_iconst hV dX9_findDay_3 ?_
  refine fn_istore_6 hV dX9_findDay_4 rfl rfl ?_
  refine fn_iconst hV dX9_findDay_6 ?_
  refine fn_istore_7 hV dX9_findDay_7 rfl rfl ?_
  have L : ∀ k : Nat, k ≤ L → ∀ (i no ea : Int), True → (i = k) → (no = zsum (fun l => σ 40 l * zcosine ((σ 48 l + s) % 3200)) k) → (ea = zsum (fun l => σ 40 l * zsine ((σ 48 l + s) % 3200)) k) → V 9 [.ref 47, .ref 36, zI s, zI N, zI Ea, zI no, zI ea, zI i, .null, .null] [] σ := by
    refine fn_rec (fun k hk ihL => ?_)
    intro i no ea _ hi hn he
    refine fn_iload_7 hV dX9_findDay_9 ?_
    refine fn_aload_1 hV dX9_findDay_11 ?_
    refine fn_getIz hV 6 dX9_findDay_12 fl_X9_30 fi_36_6 rfl ?_
    refine fn_icmp_ge hV (by omega) (by omega) dX9_findDay_15 (fun q15 => ?_) (fun q15 => ?_)
    · refine fn_iconst hV dX9_findDay_77 ?_
      refine fn_istore_7 hV dX9_findDay_78 rfl rfl ?_
      have L2 : ∀ k2 : Nat, k2 ≤ L → ∀ (i no ea : Int) (σ1 : fnMem), True → (i = k2) → (no = zmix (σ 48) (σ 40) zcosine i s L) → (ea = zmix (σ 48) (σ 40) zsine i s L) → (fnFr [47] σ σ1) → (fnR (σ1 47 1)) → (fnR (σ1 47 3)) → (zbI0 (zq (σ 48) (σ 37) (σ 40) L N Ea) (σ 37) (zprk L s i) σ1) → V 80 [.ref 47, .ref 36, zI s, zI N, zI Ea, zI no, zI ea, zI i, .null, .null] [] σ1 := by
        refine fn_rec (fun k2 hk2 ihL2 => ?_)
        intro i no ea σ1 _ hi2 hn2 he2 gF g1 g3 gI
        refine fn_iload_7 hV dX9_findDay_80 ?_
        refine fn_aload_1 hV dX9_findDay_82 ?_
        refine fn_getIz hV 6 dX9_findDay_83 fl_X9_30 fi_36_6 rfl ?_
        rw [show σ1 36 = σ 36 from gF 36 (by decide), h36]
        refine fn_icmp_ge hV (by omega) (by omega) dX9_findDay_86 (fun q86 => ?_) (fun q86 => ?_)
        · exact fn_vret hR dX9_findDay_217 (fnQv.mk ⟨gF, g1, g3, zbI0_end gI (by omega) (by omega)⟩)
        · have J : ∀ (σ2 : fnMem), fnFr [47] σ σ2 ∧ fnR (σ2 47 1) ∧ fnR (σ2 47 3) ∧ zbI0 (zq (σ 48) (σ 37) (σ 40) L N Ea) (σ 37) (zprk L s (i + 1)) σ2 → V 142 [.ref 47, .ref 36, zI s, zI N, zI Ea, zI no, zI ea, zI i, .null, .null] [] σ2 := by
            intro σ2 hJ
            have c1 := hC i (by omega) (by omega)
            have f48 : σ2 48 = σ 48 := hJ.1 48 (by decide)
            have f40 : σ2 40 = σ 40 := hJ.1 40 (by decide)
            rw [← f48] at c1
            refine fn_aload_0 hV dX9_findDay_142 ?_
            refine fn_getR hV dX9_findDay_143 fl_X9_9 fr_47_0 ?_
            refine fn_iload_7 hV dX9_findDay_146 ?_
            refine fn_iald hV dX9_findDay_148 ar_48 (by omega) (by omega) ?_
            refine fn_istore_8 hV dX9_findDay_149 rfl rfl ?_
            refine fn_iload_8 hV dX9_findDay_151 ?_
            refine fn_iload_2 hV dX9_findDay_153 ?_
            refine fn_iadd hV dX9_findDay_154 ?_
            refine fn_sipush hV dX9_findDay_155 rfl ?_
            refine fn_cS2 hV (c_J9_floorMod_7cf53 E _ _ _ (by omega) (by omega) (by omega)) ms_J9_floorMod_7cf53 lk_X9_35 dX9_findDay_158 ⟨rfl, rfl⟩ rfl ?_
            refine fn_istore_9 hV dX9_findDay_161 rfl rfl ?_
            refine fn_iload_5 hV dX9_findDay_163 ?_
            refine fn_aload_1 hV dX9_findDay_165 ?_
            refine fn_getR hV dX9_findDay_166 fl_X9_41 fr_36_3 ?_
            refine fn_iload_7 hV dX9_findDay_169 ?_
            refine fn_iald hV dX9_findDay_171 ar_40 (by omega) (by omega) ?_
            refine fn_iload_8 hV dX9_findDay_172 ?_
            refine fn_cS1 hV (c_X8_cosineAt E _ _ (by omega)) ms_X8_cosineAt lk_X9_44 dX9_findDay_174 ⟨rfl, rfl⟩ rfl ?_
            refine fn_iload_9 hV dX9_findDay_177 ?_
            refine fn_cS1 hV (c_X8_cosineAt E _ _ (by omega)) ms_X8_cosineAt lk_X9_44 dX9_findDay_179 ⟨rfl, rfl⟩ rfl ?_
            refine fn_isub hV dX9_findDay_182 ?_
            refine fn_imul hV dX9_findDay_183 ?_
            refine fn_iadd hV dX9_findDay_184 ?_
            refine fn_istore_5 hV dX9_findDay_185 rfl rfl ?_
            refine fn_iload_6 hV dX9_findDay_187 ?_
            refine fn_aload_1 hV dX9_findDay_189 ?_
            refine fn_getR hV dX9_findDay_190 fl_X9_41 fr_36_3 ?_
            refine fn_iload_7 hV dX9_findDay_193 ?_
            refine fn_iald hV dX9_findDay_195 ar_40 (by omega) (by omega) ?_
            refine fn_iload_8 hV dX9_findDay_196 ?_
            refine fn_cS1 hV (c_X8_sineAt E _ _ (by omega)) ms_X8_sineAt lk_X9_50 dX9_findDay_198 ⟨rfl, rfl⟩ rfl ?_
            refine fn_iload_9 hV dX9_findDay_201 ?_
            refine fn_cS1 hV (c_X8_sineAt E _ _ (by omega)) ms_X8_sineAt lk_X9_50 dX9_findDay_203 ⟨rfl, rfl⟩ rfl ?_
            refine fn_isub hV dX9_findDay_206 ?_
            refine fn_imul hV dX9_findDay_207 ?_
            refine fn_iadd hV dX9_findDay_208 ?_
            refine fn_istore_6 hV dX9_findDay_209 rfl rfl ?_
            refine fn_iinc_7 hV dX9_findDay_211 rfl rfl ?_
            refine fn_goto hV dX9_findDay_214 ?_
            refine fn_nul_8 hV ?_
            refine fn_nul_9 hV ?_
            exact ihL2 (k2 + 1) (by omega) (by omega) _ _ _ _ trivial (by omega) (by rw [hn2, zmix_step (by omega) (by omega) (hC i (by omega) (by omega)), f48, f40]) (by rw [he2, zmix_step (by omega) (by omega) (hC i (by omega) (by omega)), f48, f40]) hJ.1 hJ.2.1 hJ.2.2.1 hJ.2.2.2
          have e37 : σ1 37 = σ 37 := gF 37 (by decide)
          have d1 := hK.2.2.1 i (by omega) (by omega)
          rw [← e37] at d1
          have n1 := zmf_le (n := L) (C := σ 48) (M := σ 40) (f := zcosine) (g := fun l => (σ 48 l + (if i ≤ l then s else 0)) % 3200) hK.2.2.2.2.2.1 zcosine_le L (Nat.le_refl L)
          have n2 := zmf_le (n := L) (C := σ 48) (M := σ 40) (f := zsine) (g := fun l => (σ 48 l + (if i ≤ l then s else 0)) % 3200) hK.2.2.2.2.2.1 zsine_le L (Nat.le_refl L)
          have n3 : -12000000 ≤ no ∧ no ≤ 12000000 := by rw [hn2]; unfold zmix; omega
          have n4 : -12000000 ≤ ea ∧ ea ≤ 12000000 := by rw [he2]; unfold zmix; omega
          have n5 := ztd1000 n3
          have n6 := ztd1000 n4
          have n7 := zsq_le (a := N - no.tdiv 1000) (b := Ea - ea.tdiv 1000) (by omega) (by omega)
          refine fn_iload_7 hV dX9_findDay_89 ?_
          refine fn_if_eq hV (by omega) dX9_findDay_91 (fun q91 => ?_) (fun q91 => ?_)
          · have hfst : ∀ l : Int, 0 ≤ l → l < L → (i ≤ l ↔ σ 37 i ≤ σ 37 l) := fun l l0 l1 => ⟨fun q => hm i l (by omega) q l1, fun _ => by omega⟩
            refine fn_aload_0 hV dX9_findDay_113 ?_
            refine fn_aload_1 hV dX9_findDay_114 ?_
            refine fn_getR hV dX9_findDay_115 fl_X9_53 fr_36_0 ?_
            refine fn_iload_7 hV dX9_findDay_118 ?_
            refine fn_iald hV dX9_findDay_120 ar_37 (by omega) (by omega) ?_
            refine fn_iload_2 hV dX9_findDay_121 ?_
            refine fn_iload_3 hV dX9_findDay_122 ?_
            refine fn_iload_5 hV dX9_findDay_123 ?_
            refine fn_sipush hV dX9_findDay_125 rfl ?_
            refine fn_idiv hV dX9_findDay_128 (by omega) (by omega) (by omega) ?_
            refine fn_isub hV dX9_findDay_129 ?_
            refine fn_iload_4 hV dX9_findDay_130 ?_
            refine fn_iload_6 hV dX9_findDay_132 ?_
            refine fn_sipush hV dX9_findDay_134 rfl ?_
            refine fn_idiv hV dX9_findDay_137 (by omega) (by omega) (by omega) ?_
            refine fn_isub hV dX9_findDay_138 ?_
            refine fn_cV4v hV (c_X9_weigh E _ _ _ _ _ (by omega) (by omega) (by omega) (by omega) (by omega)) mv_X9_weigh lk_X9_56 dX9_findDay_139 sh_47 rfl ⟨rfl, rfl⟩ rfl ?_
            exact J _ ⟨zwei_fr gF, (zwei_r g1 g3 (by omega) (by omega)).1, (zwei_r g1 g3 (by omega) (by omega)).2, zbI0_weigh (by omega) (by unfold zq; rw [← zmix_wk hfst, ← zmix_wk hfst, ← hn2, ← he2]) (by rw [e37]) (by omega) gI⟩
          · have d2 := hK.2.2.1 (i - 1) (by omega) (by omega)
            rw [← e37] at d2
            refine fn_aload_1 hV dX9_findDay_94 ?_
            refine fn_getR hV dX9_findDay_95 fl_X9_53 fr_36_0 ?_
            refine fn_iload_7 hV dX9_findDay_98 ?_
            refine fn_iald hV dX9_findDay_100 ar_37 (by omega) (by omega) ?_
            refine fn_aload_1 hV dX9_findDay_101 ?_
            refine fn_getR hV dX9_findDay_102 fl_X9_53 fr_36_0 ?_
            refine fn_iload_7 hV dX9_findDay_105 ?_
            refine fn_iconst hV dX9_findDay_107 ?_
            refine fn_isub hV dX9_findDay_108 ?_
            refine fn_iald hV dX9_findDay_109 ar_37 (by omega) (by omega) ?_
            refine fn_icmp_eq hV (by omega) (by omega) dX9_findDay_110 (fun q110 => ?_) (fun q110 => ?_)
            · exact J _ ⟨gF, g1, g3, zbI0_skip (by omega) (zq_day (by rw [e37] at q110; exact q110)) (by rw [e37] at q110; exact q110) gI⟩
            · have hfst : ∀ l : Int, 0 ≤ l → l < L → (i ≤ l ↔ σ 37 i ≤ σ 37 l) := fun l l0 l1 => ⟨fun q => hm i l (by omega) q l1, fun q => by
                rcases Int.lt_or_le l i with hq | hq
                · have := hm l (i - 1) l0 (by omega) (by omega)
                  have h5 := hm (i - 1) i (by omega) (by omega) (by omega)
                  rw [e37] at q110
                  omega
                · exact hq⟩
              refine fn_aload_0 hV dX9_findDay_113 ?_
              refine fn_aload_1 hV dX9_findDay_114 ?_
              refine fn_getR hV dX9_findDay_115 fl_X9_53 fr_36_0 ?_
              refine fn_iload_7 hV dX9_findDay_118 ?_
              refine fn_iald hV dX9_findDay_120 ar_37 (by omega) (by omega) ?_
              refine fn_iload_2 hV dX9_findDay_121 ?_
              refine fn_iload_3 hV dX9_findDay_122 ?_
              refine fn_iload_5 hV dX9_findDay_123 ?_
              refine fn_sipush hV dX9_findDay_125 rfl ?_
              refine fn_idiv hV dX9_findDay_128 (by omega) (by omega) (by omega) ?_
              refine fn_isub hV dX9_findDay_129 ?_
              refine fn_iload_4 hV dX9_findDay_130 ?_
              refine fn_iload_6 hV dX9_findDay_132 ?_
              refine fn_sipush hV dX9_findDay_134 rfl ?_
              refine fn_idiv hV dX9_findDay_137 (by omega) (by omega) (by omega) ?_
              refine fn_isub hV dX9_findDay_138 ?_
              refine fn_cV4v hV (c_X9_weigh E _ _ _ _ _ (by omega) (by omega) (by omega) (by omega) (by omega)) mv_X9_weigh lk_X9_56 dX9_findDay_139 sh_47 rfl ⟨rfl, rfl⟩ rfl ?_
              exact J _ ⟨zwei_fr gF, (zwei_r g1 g3 (by omega) (by omega)).1, (zwei_r g1 g3 (by omega) (by omega)).2, zbI0_weigh (by omega) (by unfold zq; rw [← zmix_wk hfst, ← zmix_wk hfst, ← hn2, ← he2]) (by rw [e37]) (by omega) gI⟩
      exact L2 0 (by omega) _ _ _ _ trivial (by omega) (by rw [hn, show k = L by omega]; exact zsum_congr L (fun l l0 l1 => by rw [if_pos (by omega)])) (by rw [he, show k = L by omega]; exact zsum_congr L (fun l l0 l1 => by rw [if_pos (by omega)])) fnFr.rf h1 h3 (zbI0_beg hI)
    · have c1 := hC i (by omega) (by omega)
      have c2 := zcosine_le ((σ 48 i + s) % 3200)
      refine fn_aload_0 hV dX9_findDay_18 ?_
      refine fn_getR hV dX9_findDay_19 fl_X9_9 fr_47_0 ?_
      refine fn_iload_7 hV dX9_findDay_22 ?_
      refine fn_iald hV dX9_findDay_24 ar_48 (by omega) (by omega) ?_
      refine fn_iload_2 hV dX9_findDay_25 ?_
      refine fn_iadd hV dX9_findDay_26 ?_
      refine fn_sipush hV dX9_findDay_27 rfl ?_
      refine fn_cS2 hV (c_J9_floorMod_7cf53 E _ _ _ (by omega) (by omega) (by omega)) ms_J9_floorMod_7cf53 lk_X9_35 dX9_findDay_30 ⟨rfl, rfl⟩ rfl ?_
      refine fn_istore_8 hV dX9_findDay_33 rfl rfl ?_
      refine fn_iload_5 hV dX9_findDay_35 ?_
      refine fn_aload_1 hV dX9_findDay_37 ?_
      refine fn_getR hV dX9_findDay_38 fl_X9_41 fr_36_3 ?_
      refine fn_iload_7 hV dX9_findDay_41 ?_
      refine fn_iald hV dX9_findDay_43 ar_40 (by omega) (by omega) ?_
      refine fn_iload_8 hV dX9_findDay_44 ?_
      refine fn_cS1 hV (c_X8_cosineAt E _ _ (by omega)) ms_X8_cosineAt lk_X9_44 dX9_findDay_46 ⟨rfl, rfl⟩ rfl ?_
      refine fn_imul hV dX9_findDay_49 ?_
      refine fn_iadd hV dX9_findDay_50 ?_
      refine fn_istore_5 hV dX9_findDay_51 rfl rfl ?_
      refine fn_iload_6 hV dX9_findDay_53 ?_
      refine fn_aload_1 hV dX9_findDay_55 ?_
      refine fn_getR hV dX9_findDay_56 fl_X9_41 fr_36_3 ?_
      refine fn_iload_7 hV dX9_findDay_59 ?_
      refine fn_iald hV dX9_findDay_61 ar_40 (by omega) (by omega) ?_
      refine fn_iload_8 hV dX9_findDay_62 ?_
      refine fn_cS1 hV (c_X8_sineAt E _ _ (by omega)) ms_X8_sineAt lk_X9_50 dX9_findDay_64 ⟨rfl, rfl⟩ rfl ?_
      refine fn_imul hV dX9_findDay_67 ?_
      refine fn_iadd hV dX9_findDay_68 ?_
      refine fn_istore_6 hV dX9_findDay_69 rfl rfl ?_
      refine fn_iinc_7 hV dX9_findDay_71 rfl rfl ?_
      refine fn_goto hV dX9_findDay_74 ?_
      refine fn_nul_8 hV ?_
      exact ihL (k + 1) (by omega) (by omega) _ _ _ trivial (by omega) (by rw [zsum_s, ← hi, hn]) (by rw [zsum_s, ← hi, he])
  exact L 0 (by omega) _ _ _ trivial (by omega) rfl rfl

set_option maxHeartbeats 4000000 in
set_option maxRecDepth 20000 in
theorem c_X9_find (E : fnE) (σ : fnMem) (L : Nat) (hK : kLg σ L) (hm : ∀ i j : Int, 0 ≤ i → i ≤ j → j < L → σ 37 i ≤ σ 37 j) (hC : ∀ l : Int, 0 ≤ l → l < L → 0 ≤ σ 48 l ∧ σ 48 l < 3200) (N Ea : Int) (hN : -9999 ≤ N ∧ N ≤ 9999) (hE : -9999 ≤ Ea ∧ Ea ≤ 9999) (h1 : fnR (σ 47 1)) : fnOk E mX9_find [.ref 47, .ref 36, zI N, zI Ea] σ (fnQv (fun σ1 => fnFr [47] σ σ1 ∧ fnR (σ1 47 1) ∧ zbI0 (zq (σ 48) (σ 37) (σ 40) L N Ea) (σ 37) (zpr L 320) σ1)) := by
  refine fnOk.of [.ref 47, .ref 36, zI N, zI Ea, .null] rfl (by decide +kernel) rfl (fun V hV hR => ?_)
  replace hV : fnCx E RX9 cX9_find 5 5 120 V := hV
  replace hR : fnRt cX9_find none _ V := hR
  have h36 := hK.1
  have h40 := hK.2.1
  refine fn_aload_0 hV dX9_find_0 ?_
  refine fn_ldc hV dX9_find_1 co_X9_25 ?_
  refine fn_putIz hV 3 dX9_find_3 fp_X9_22 fi_47_3 rfl ?_
  refine fn_sipush hV dX9_find_6 rfl ?_
  refine fn_istore_4 hV dX9_find_9 rfl rfl ?_
  have L : ∀ k : Nat, k ≤ 31 → ∀ (s : Int) (σ1 : fnMem), True → (s = -300 + 20 * (k : Int)) → (fnFr [47] σ σ1) → (fnR (σ1 47 1)) → (fnR (σ1 47 3)) → (zbI0 (zq (σ 48) (σ 37) (σ 40) L N Ea) (σ 37) (zpr L s) σ1) → V 11 [.ref 47, .ref 36, zI N, zI Ea, zI s] [] σ1 := by
    refine fn_rec (fun k hk ihL => ?_)
    intro s σ1 _ hs gF g1 g3 gI
    refine fn_iload_4 hV dX9_find_11 ?_
    refine fn_sipush hV dX9_find_13 rfl ?_
    refine fn_icmp_gt hV (by omega) (by omega) dX9_find_16 (fun q16 => ?_) (fun q16 => ?_)
    · exact fn_vret hR dX9_find_34 (fnQv.mk ⟨gF, g1, by rw [show s = 320 by omega] at gI; exact gI⟩)
    · have e48 : σ1 48 = σ 48 := gF 48 (by decide)
      have e37 : σ1 37 = σ 37 := gF 37 (by decide)
      have e40 : σ1 40 = σ 40 := gF 40 (by decide)
      have hK1 : kLg σ1 L := by unfold kLg at hK ⊢; rw [gF 36 (by decide), e37, gF 38 (by decide), gF 39 (by decide), e40, gF 41 (by decide), gF 42 (by decide)]; exact hK
      have hm1 : ∀ i j : Int, 0 ≤ i → i ≤ j → j < L → σ1 37 i ≤ σ1 37 j := by rw [e37]; exact hm
      have hC1 : ∀ l : Int, 0 ≤ l → l < L → 0 ≤ σ1 48 l ∧ σ1 48 l < 3200 := by rw [e48]; exact hC
      have gI1 := gI
      rw [← e48, ← e37, ← e40] at gI1
      refine fn_aload_0 hV dX9_find_19 ?_
      refine fn_aload_1 hV dX9_find_20 ?_
      refine fn_iload_4 hV dX9_find_21 ?_
      refine fn_iload_2 hV dX9_find_23 ?_
      refine fn_iload_3 hV dX9_find_24 ?_
      refine fn_cV4Q hV (c_X9_findDay E _ L hK1 hm1 hC1 _ _ (by omega) (by omega) _ (by omega) g1 g3 gI1) mv_X9_findDay lk_X9_26 dX9_find_25 sh_47 rfl ⟨rfl, rfl⟩ rfl (fun σ2 hp => ?_)
      obtain ⟨kF, k1, k3, kI⟩ := hp
      refine fn_iinc_4 hV dX9_find_28 rfl rfl ?_
      refine fn_goto hV dX9_find_31 ?_
      exact ihL (k + 1) (by omega) (by omega) _ _ trivial (by omega) (gF.tr kF) k1 k3 (by rw [e48, e37, e40] at kI; exact kI)
  exact L 0 (by omega) _ _ trivial (by omega) (fnFr.rf.up (by decide)) (by rw [fnUp_off _ _ _ (show (1 : Int) ≠ 3 by decide)]; exact h1) (by rw [fnUp_at]; decide) (Or.inl ⟨by rw [fnUp_at], fun l s => by unfold zpr; omega⟩)
