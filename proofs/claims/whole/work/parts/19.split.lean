/-- a value put into a row that is in order up to n, from the hole at n on -/
def zset (s : Int → Int) (i v : Int) : Int → Int := fun b => if b = i then v else s b
def zinsA (v : Int) : Nat → (Int → Int) → (Int → Int)
  | 0, s => zset s 0 v
  | h + 1, s => if v < s h then zinsA v h (zset s ((h + 1 : Nat) : Int) (s h)) else zset s ((h + 1 : Nat) : Int) v
def zsrt (R : Int → Int) (a : Int) : Nat → (Int → Int) → (Int → Int)
  | 0, s => s
  | n + 1, s => zinsA (R (a + n)) n (zsrt R a n s)
def zmid (R : Int → Int) (a : Int) (n : Nat) : Int := if n = 0 then 0 else zsrt R a n (fun _ => 0) (((n : Int) - 1) / 2)
def zcost (R : Int → Int) (a : Int) (n : Nat) : Int := zsum (fun t => zabs (R (a + t) - zmid R a n)) n
def zsp (R : Int → Int) (m : Nat) : Nat → Int × Int
  | 0 => (0, zcost R 0 m)
  | k + 1 => if zcost R 0 (k + 1) + zcost R ((k + 1 : Nat) : Int) (m - (k + 1)) < (zsp R m k).2 then (((k + 1 : Nat) : Int), zcost R 0 (k + 1) + zcost R ((k + 1 : Nat) : Int) (m - (k + 1))) else zsp R m k
theorem zinsA_s (v : Int) (h : Nat) (s : Int → Int) : zinsA v (h + 1) s = if v < s h then zinsA v h (zset s ((h + 1 : Nat) : Int) (s h)) else zset s ((h + 1 : Nat) : Int) v := rfl
theorem zsrt_s (R : Int → Int) (a : Int) (n : Nat) (s : Int → Int) : zsrt R a (n + 1) s = zinsA (R (a + n)) n (zsrt R a n s) := rfl
theorem zsp_s (R : Int → Int) (m k : Nat) : zsp R m (k + 1) = if zcost R 0 (k + 1) + zcost R ((k + 1 : Nat) : Int) (m - (k + 1)) < (zsp R m k).2 then (((k + 1 : Nat) : Int), zcost R 0 (k + 1) + zcost R ((k + 1 : Nat) : Int) (m - (k + 1))) else zsp R m k := rfl
/-- beyond the hole nothing changes -/
theorem zinsA_hi (v : Int) : ∀ (h : Nat) (s : Int → Int) (j : Int), (h : Int) < j → zinsA v h s j = s j
  | 0, s, j, hj => by simp [zinsA, zset]; omega
  | h + 1, s, j, hj => by
    rw [zinsA_s]
    split
    · rw [zinsA_hi v h _ j (by omega), zset, if_neg (by omega)]
    · rw [zset, if_neg (by omega)]
theorem zinsA_eq (v : Int) : ∀ (h : Nat) (s t : Int → Int), (∀ j : Int, 0 ≤ j → j < h → s j = t j) → ∀ j : Int, 0 ≤ j → j ≤ h → zinsA v h s j = zinsA v h t j
  | 0, s, t, _, j, j0, j1 => by
    have : j = 0 := by omega
    subst this
    simp [zinsA, zset]
  | h + 1, s, t, hst, j, j0, j1 => by
    rw [zinsA_s, zinsA_s, hst h (by omega) (by omega)]
    split
    · by_cases hj : j ≤ h
      · exact zinsA_eq v h _ _ (fun i i0 i1 => by simp only [zset]; rw [if_neg (by omega), if_neg (by omega)]; exact hst i i0 (by omega)) j j0 hj
      · rw [zinsA_hi v h _ j (by omega), zinsA_hi v h _ j (by omega)]
        simp only [zset]
        rw [if_pos (by omega), if_pos (by omega)]
    · simp only [zset]
      split
      · rfl
      · exact hst j j0 (by omega)
theorem zsrt_eq (R : Int → Int) (a : Int) : ∀ (n : Nat) (s t : Int → Int) (j : Int), 0 ≤ j → j < n → zsrt R a n s j = zsrt R a n t j
  | 0, s, t, j, j0, j1 => by omega
  | n + 1, s, t, j, j0, j1 => by
    rw [zsrt_s, zsrt_s]
    exact zinsA_eq _ n _ _ (fun i i0 i1 => zsrt_eq R a n s t i i0 i1) j j0 (by omega)
theorem zinsA_le {v B : Int} (hv : -B ≤ v ∧ v ≤ B) : ∀ (h : Nat) (s : Int → Int), (∀ j : Int, 0 ≤ j → j < h → -B ≤ s j ∧ s j ≤ B) → ∀ j : Int, 0 ≤ j → j ≤ h → -B ≤ zinsA v h s j ∧ zinsA v h s j ≤ B
  | 0, s, _, j, j0, j1 => by
    have : j = 0 := by omega
    subst this
    simpa [zinsA, zset] using hv
  | h + 1, s, hs, j, j0, j1 => by
    rw [zinsA_s]
    split
    · by_cases hj : j ≤ h
      · exact zinsA_le hv h _ (fun i i0 i1 => by simp only [zset]; rw [if_neg (by omega)]; exact hs i i0 (by omega)) j j0 hj
      · rw [zinsA_hi v h _ j (by omega)]
        simp only [zset]
        rw [if_pos (by omega)]
        exact hs h (by omega) (by omega)
    · simp only [zset]
      split
      · exact hv
      · exact hs j j0 (by omega)
theorem zsrt_le {R : Int → Int} {a B : Int} : ∀ (n : Nat) (s : Int → Int), (∀ j : Int, a ≤ j → j < a + n → -B ≤ R j ∧ R j ≤ B) → ∀ j : Int, 0 ≤ j → j < n → -B ≤ zsrt R a n s j ∧ zsrt R a n s j ≤ B
  | 0, s, _, j, j0, j1 => by omega
  | n + 1, s, hR, j, j0, j1 => by
    rw [zsrt_s]
    exact zinsA_le (hR (a + n) (by omega) (by omega)) n _ (fun i i0 i1 => zsrt_le n s (fun q q0 q1 => hR q q0 (by omega)) i i0 i1) j j0 (by omega)
theorem zmid_le {R : Int → Int} {a B : Int} {n : Nat} (hB : 0 ≤ B) (hR : ∀ j : Int, a ≤ j → j < a + n → -B ≤ R j ∧ R j ≤ B) : -B ≤ zmid R a n ∧ zmid R a n ≤ B := by
  unfold zmid
  split
  · omega
  · exact zsrt_le n _ hR _ (by omega) (by omega)
theorem zinsA_congr {R S : Int → Int} {a : Int} : ∀ (n : Nat) (s : Int → Int), (∀ j : Int, a ≤ j → j < a + n → R j = S j) → zsrt R a n s = zsrt S a n s
  | 0, _, _ => rfl
  | n + 1, s, h => by
    rw [zsrt_s, zsrt_s, zinsA_congr n s (fun j j0 j1 => h j j0 (by omega)), h (a + n) (by omega) (by omega)]
theorem zmid_congr {R S : Int → Int} {a : Int} {n : Nat} (h : ∀ j : Int, a ≤ j → j < a + n → R j = S j) : zmid R a n = zmid S a n := by
  unfold zmid
  rw [zinsA_congr n _ h]
theorem zcost_congr {R S : Int → Int} {a : Int} {n : Nat} (h : ∀ j : Int, a ≤ j → j < a + n → R j = S j) : zcost R a n = zcost S a n := by
  unfold zcost
  rw [zmid_congr h]
  exact zsum_congr n (fun t t0 t1 => by rw [h (a + t) (by omega) (by omega)])
theorem zsp_congr {R S : Int → Int} {m : Nat} (h : ∀ j : Int, 0 ≤ j → j < m → R j = S j) : ∀ k : Nat, k ≤ m → zsp R m k = zsp S m k
  | 0, _ => by
    unfold zsp
    rw [zcost_congr (fun j j0 j1 => h j j0 (by omega))]
  | k + 1, hk => by
    rw [zsp_s, zsp_s, zsp_congr h k (by omega), zcost_congr (a := 0) (n := k + 1) (fun j j0 j1 => h j j0 (by omega)), zcost_congr (a := ((k + 1 : Nat) : Int)) (n := m - (k + 1)) (fun j j0 j1 => h j (by omega) (by omega))]
theorem zcost_le {R : Int → Int} {a : Int} {n : Nat} (hn : n ≤ 40) (hR : ∀ j : Int, a ≤ j → j < a + n → -2000000 ≤ R j ∧ R j ≤ 2000000) : 0 ≤ zcost R a n ∧ zcost R a n ≤ 160000000 := by
  have hm := zmid_le (B := 2000000) (by decide) hR
  have key : ∀ k : Nat, k ≤ n → 0 ≤ zsum (fun t => zabs (R (a + t) - zmid R a n)) k ∧ zsum (fun t => zabs (R (a + t) - zmid R a n)) k ≤ 4000000 * k := by
    intro k
    induction k with
    | zero => intro _; simp [zsum]
    | succ k ih =>
      intro hk
      have h1 := ih (by omega)
      have h2 := hR (a + k) (by omega) (by omega)
      have h3 := zabs_nn (R (a + k) - zmid R a n)
      have h4 := zabs_le (z := R (a + k) - zmid R a n) (B := 4000000) (by omega) (by omega)
      rw [zsum_s]
      omega
  have := key n (Nat.le_refl n)
  unfold zcost
  omega
theorem zsp_le {R : Int → Int} {m : Nat} (hm : m ≤ 40) (hR : ∀ j : Int, 0 ≤ j → j < m → -2000000 ≤ R j ∧ R j ≤ 2000000) : ∀ k : Nat, k ≤ m → 0 ≤ (zsp R m k).1 ∧ (zsp R m k).1 ≤ k ∧ 0 ≤ (zsp R m k).2 ∧ (zsp R m k).2 ≤ 320000000
  | 0, _ => by
    have := zcost_le hm (a := 0) (fun j j0 j1 => hR j j0 (by omega))
    simp [zsp]
    omega
  | k + 1, hk => by
    have ih := zsp_le hm hR k (by omega)
    have h1 := zcost_le (R := R) (a := 0) (n := k + 1) (by omega) (fun j j0 j1 => hR j j0 (by omega))
    have h2 := zcost_le (R := R) (a := ((k + 1 : Nat) : Int)) (n := m - (k + 1)) (by omega) (fun j j0 j1 => hR j (by omega) (by omega))
    rw [zsp_s]
    split
    · simp only
      omega
    · omega

set_option maxHeartbeats 4000000 in
set_option maxRecDepth 20000 in
theorem c_X5_middle (E : fnE) (σ : fnMem) (a e : Int) (n : Nat) (ha : 0 ≤ a) (he : e = a + n) (h40 : e ≤ 40) (hB : ∀ j, a ≤ j → j < a + n → -2000000 ≤ σ 45 j ∧ σ 45 j ≤ 2000000) : fnOk E mX5_middle [.ref 43, zI a, zI e] σ (fnQI (fun z σ1 => z = zmid (σ 45) a n ∧ fnFr [46] σ σ1)) := by
  refine fnOk.of [.ref 43, zI a, zI e, .null, .null, .null] rfl (by decide +kernel) rfl (fun V hV hR => ?_)
  replace hV : fnCx E RX5 cX5_middle 6 0 0 V := hV
  replace hR : fnRt cX5_middle (some .int) _ V := hR
  refine fn_iconst hV dX5_middle_0 ?_
  refine fn_istore_3 hV dX5_middle_1 rfl rfl ?_
  refine fn_iload_1 hV dX5_middle_2 ?_
  refine fn_istore_4 hV dX5_middle_3 rfl rfl ?_
  have L : ∀ k : Nat, k ≤ n → ∀ (i t : Int) (σ1 : fnMem), True → (i = k ∧ t = a + k) → (fnFr [46] σ σ1) → (σ1 46 = zsrt (σ 45) a k (σ 46)) → V 5 [.ref 43, zI a, zI e, zI i, zI t, .null] [] σ1 := by
    refine fn_rec (fun k hk ihL => ?_)
    intro i t σ1 _ hi hF hv
    refine fn_iload_4 hV dX5_middle_5 ?_
    refine fn_iload_2 hV dX5_middle_7 ?_
    refine fn_icmp_ge hV (by omega) (by omega) dX5_middle_8 (fun q8 => ?_) (fun q8 => ?_)
    · refine fn_iload_3 hV dX5_middle_83 ?_
      refine fn_if_ne hV (by omega) dX5_middle_84 (fun q84 => ?_) (fun q84 => ?_)
      · refine fn_aload_0 hV dX5_middle_91 ?_
        refine fn_getR hV dX5_middle_92 fl_X5_18 fr_43_2 ?_
        refine fn_iload_3 hV dX5_middle_95 ?_
        refine fn_iconst hV dX5_middle_96 ?_
        refine fn_isub hV dX5_middle_97 ?_
        refine fn_iconst hV dX5_middle_98 ?_
        refine fn_idivp hV dX5_middle_99 (by omega) (by omega) ?_
        refine fn_iald hV dX5_middle_100 ar_46 (by omega) (by omega) ?_
        exact fn_iret hR dX5_middle_101 (fnQI.mk ⟨by unfold zmid; first | rw [if_pos (by omega)] | rw [if_neg (by omega), hv, show k = n by omega, zsrt_eq (σ 45) a n (σ 46) (fun _ => 0) _ (by omega) (by omega), show i = (n : Int) by omega], hF⟩)
      · refine fn_iconst hV dX5_middle_87 ?_
        refine fn_goto hV dX5_middle_88 ?_
        exact fn_iret hR dX5_middle_101 (fnQI.mk ⟨by unfold zmid; first | rw [if_pos (by omega)] | rw [if_neg (by omega), hv, show k = n by omega, zsrt_eq (σ 45) a n (σ 46) (fun _ => 0) _ (by omega) (by omega), show i = (n : Int) by omega], hF⟩)
    · have e45 : σ1 45 = σ 45 := hF 45 (by decide)
      have r1 := hB t (by omega) (by omega)
      rw [← e45] at r1
      have r2 := zsrt_le (R := σ 45) (a := a) (B := 2000000) k (σ 46) (fun j j0 j1 => hB j j0 (by omega))
      refine fn_iload_3 hV dX5_middle_11 ?_
      refine fn_istore_5 hV dX5_middle_12 rfl rfl ?_
      have L2 : ∀ k2 : Nat, k2 ≤ k → ∀ (h : Int) (σ2 : fnMem), True → (h = (k : Int) - k2) → (fnFr [46] σ1 σ2) → (∀ j, 0 ≤ j → j < h → σ2 46 j = σ1 46 j) → (zinsA (σ1 45 t) k (σ1 46) = zinsA (σ1 45 t) (k - k2) (σ2 46)) → V 14 [.ref 43, zI a, zI e, zI i, zI t, zI h] [] σ2 := by
        refine fn_rec (fun k2 hk2 ihL2 => ?_)
        intro h σ2 _ hh gF gl gv
        refine fn_iload_5 hV dX5_middle_14 ?_
        refine fn_if_le hV (by omega) dX5_middle_16 (fun q16 => ?_) (fun q16 => ?_)
        · have g45 : σ2 45 = σ1 45 := gF 45 (by decide)
          refine fn_aload_0 hV dX5_middle_60 ?_
          refine fn_getR hV dX5_middle_61 fl_X5_18 fr_43_2 ?_
          refine fn_iload_5 hV dX5_middle_64 ?_
          refine fn_aload_0 hV dX5_middle_66 ?_
          refine fn_getR hV dX5_middle_67 fl_X5_15 fr_43_1 ?_
          refine fn_iload_4 hV dX5_middle_70 ?_
          refine fn_iald hV dX5_middle_72 ar_45 (by omega) (by omega) ?_
          refine fn_iast hV dX5_middle_73 ar_46 (by omega) (by omega) ?_
          refine fn_iinc_3 hV dX5_middle_74 rfl rfl ?_
          refine fn_iinc_4 hV dX5_middle_77 rfl rfl ?_
          refine fn_goto hV dX5_middle_80 ?_
          refine fn_nul_5 hV ?_
          exact ihL (k + 1) (by omega) (by omega) _ _ _ trivial (by omega) (hF.tr (gF.up (by decide))) (by rw [zsrt_s, ← hv, ← e45, show a + (k : Int) = t by omega, gv, show k - k2 = 0 by omega, fnUp_same, g45, show h = 0 by omega]; rfl)
        · have g45 : σ2 45 = σ1 45 := gF 45 (by decide)
          have r3 := r2 (h - 1) (by omega) (by omega)
          rw [← hv, ← gl (h - 1) (by omega) (by omega)] at r3
          rw [← g45] at r1
          refine fn_aload_0 hV dX5_middle_19 ?_
          refine fn_getR hV dX5_middle_20 fl_X5_18 fr_43_2 ?_
          refine fn_iload_5 hV dX5_middle_23 ?_
          refine fn_iconst hV dX5_middle_25 ?_
          refine fn_isub hV dX5_middle_26 ?_
          refine fn_iald hV dX5_middle_27 ar_46 (by omega) (by omega) ?_
          refine fn_aload_0 hV dX5_middle_28 ?_
          refine fn_getR hV dX5_middle_29 fl_X5_15 fr_43_1 ?_
          refine fn_iload_4 hV dX5_middle_32 ?_
          refine fn_iald hV dX5_middle_34 ar_45 (by omega) (by omega) ?_
          refine fn_icmp_le hV (by omega) (by omega) dX5_middle_35 (fun q35 => ?_) (fun q35 => ?_)
          · have g45 : σ2 45 = σ1 45 := gF 45 (by decide)
            refine fn_aload_0 hV dX5_middle_60 ?_
            refine fn_getR hV dX5_middle_61 fl_X5_18 fr_43_2 ?_
            refine fn_iload_5 hV dX5_middle_64 ?_
            refine fn_aload_0 hV dX5_middle_66 ?_
            refine fn_getR hV dX5_middle_67 fl_X5_15 fr_43_1 ?_
            refine fn_iload_4 hV dX5_middle_70 ?_
            refine fn_iald hV dX5_middle_72 ar_45 (by omega) (by omega) ?_
            refine fn_iast hV dX5_middle_73 ar_46 (by omega) (by omega) ?_
            refine fn_iinc_3 hV dX5_middle_74 rfl rfl ?_
            refine fn_iinc_4 hV dX5_middle_77 rfl rfl ?_
            refine fn_goto hV dX5_middle_80 ?_
            refine fn_nul_5 hV ?_
            exact ihL (k + 1) (by omega) (by omega) _ _ _ trivial (by omega) (hF.tr (gF.up (by decide))) (by rw [zsrt_s, ← hv, ← e45, show a + (k : Int) = t by omega, gv, show k - k2 = k - (k2 + 1) + 1 by omega, zinsA_s, show ((k - (k2 + 1) + 1 : Nat) : Int) = h by omega, show ((k - (k2 + 1) : Nat) : Int) = h - 1 by omega, if_neg (by rw [← g45]; omega), fnUp_same, g45]; rfl)
          · refine fn_aload_0 hV dX5_middle_38 ?_
            refine fn_getR hV dX5_middle_39 fl_X5_18 fr_43_2 ?_
            refine fn_iload_5 hV dX5_middle_42 ?_
            refine fn_aload_0 hV dX5_middle_44 ?_
            refine fn_getR hV dX5_middle_45 fl_X5_18 fr_43_2 ?_
            refine fn_iload_5 hV dX5_middle_48 ?_
            refine fn_iconst hV dX5_middle_50 ?_
            refine fn_isub hV dX5_middle_51 ?_
            refine fn_iald hV dX5_middle_52 ar_46 (by omega) (by omega) ?_
            refine fn_iast hV dX5_middle_53 ar_46 (by omega) (by omega) ?_
            refine fn_iinc_5 hV dX5_middle_54 rfl rfl ?_
            refine fn_goto hV dX5_middle_57 ?_
            have hk3 : k - k2 = k - (k2 + 1) + 1 := by omega
            exact ihL2 (k2 + 1) (by omega) (by omega) _ _ trivial (by omega) (gF.up (by decide)) (fun j j0 j1 => by rw [fnUp_off _ _ _ (by omega)]; exact gl j j0 (by omega)) (by rw [gv, hk3, zinsA_s, show ((k - (k2 + 1) + 1 : Nat) : Int) = h by omega, show ((k - (k2 + 1) : Nat) : Int) = h - 1 by omega, if_pos (by rw [← g45]; omega), fnUp_same]; rfl)
      exact L2 0 (by omega) _ _ trivial (by omega) fnFr.rf (fun _ _ _ => rfl) (by rw [Nat.sub_zero])
  exact L 0 (by omega) _ _ _ trivial (by omega) fnFr.rf rfl

set_option maxHeartbeats 4000000 in
set_option maxRecDepth 20000 in
theorem c_X5_costOf (E : fnE) (σ : fnMem) (a e : Int) (n : Nat) (ha : 0 ≤ a) (he : e = a + n) (h40 : e ≤ 40) (hB : ∀ j, a ≤ j → j < a + n → -2000000 ≤ σ 45 j ∧ σ 45 j ≤ 2000000) : fnOk E mX5_costOf [.ref 43, zI a, zI e] σ (fnQI (fun z σ1 => z = zcost (σ 45) a n ∧ fnFr [46] σ σ1)) := by
  refine fnOk.of [.ref 43, zI a, zI e, .null, .null, .null] rfl (by decide +kernel) rfl (fun V hV hR => ?_)
  replace hV : fnCx E RX5 cX5_costOf 6 1 25 V := hV
  replace hR : fnRt cX5_costOf (some .int) _ V := hR
  refine fn_aload_0 hV dX5_costOf_0 ?_
  refine fn_iload_1 hV dX5_costOf_1 ?_
  refine fn_iload_2 hV dX5_costOf_2 ?_
  refine fn_cV2I hV (c_X5_middle E _ _ _ n (by omega) (by omega) (by omega) hB) mv_X5_middle lk_X5_35 dX5_costOf_3 sh_43 rfl ⟨rfl, rfl⟩ rfl (fun md σ1 hp => ?_)
  obtain ⟨rfl, gF⟩ := hp
  have e45 : σ1 45 = σ 45 := gF 45 (by decide)
  have hm := zmid_le (B := 2000000) (by decide) hB
  refine fn_istore_3 hV dX5_costOf_6 rfl rfl ?_
  refine fn_iconst hV dX5_costOf_7 ?_
  refine fn_istore_4 hV dX5_costOf_8 rfl rfl ?_
  refine fn_iload_1 hV dX5_costOf_10 ?_
  refine fn_istore_5 hV dX5_costOf_11 rfl rfl ?_
  have L : ∀ k : Nat, k ≤ n → ∀ (i s : Int), True → (i = a + k) → (s = zsum (fun t => zabs (σ 45 (a + t) - zmid (σ 45) a n)) k) → V 13 [.ref 43, zI a, zI e, zI (zmid (σ 45) a n), zI s, zI i] [] σ1 := by
    refine fn_rec (fun k hk ihL => ?_)
    intro i s _ hi hs
    refine fn_iload_5 hV dX5_costOf_13 ?_
    refine fn_iload_2 hV dX5_costOf_15 ?_
    refine fn_icmp_ge hV (by omega) (by omega) dX5_costOf_16 (fun q16 => ?_) (fun q16 => ?_)
    · refine fn_iload_4 hV dX5_costOf_42 ?_
      exact fn_iret hR dX5_costOf_44 (fnQI.mk ⟨by rw [hs, show k = n by omega]; rfl, gF⟩)
    · have r1 := hB i (by omega) (by omega)
      rw [← e45] at r1
      refine fn_iload_4 hV dX5_costOf_19 ?_
      refine fn_aload_0 hV dX5_costOf_21 ?_
      refine fn_getR hV dX5_costOf_22 fl_X5_15 fr_43_1 ?_
      refine fn_iload_5 hV dX5_costOf_25 ?_
      refine fn_iald hV dX5_costOf_27 ar_45 (by omega) (by omega) ?_
      refine fn_iload_3 hV dX5_costOf_28 ?_
      refine fn_isub hV dX5_costOf_29 ?_
      refine fn_cS1 hV (c_J9_abs_0f7a4 E _ _ (by omega)) ms_J9_abs_0f7a4 lk_X5_38 dX5_costOf_30 ⟨rfl, rfl⟩ rfl ?_
      refine fn_iadd hV dX5_costOf_33 ?_
      refine fn_istore_4 hV dX5_costOf_34 rfl rfl ?_
      refine fn_iinc_5 hV dX5_costOf_36 rfl rfl ?_
      refine fn_goto hV dX5_costOf_39 ?_
      exact ihL (k + 1) (by omega) (by omega) _ _ trivial (by omega) (by rw [zsum_s, ← hi, ← hs, e45])
  exact L 0 (by omega) _ _ trivial (by omega) rfl

set_option maxHeartbeats 4000000 in
set_option maxRecDepth 20000 in
theorem c_X5_add (E : fnE) (σ : fnMem) (m l r : Int) (hm : σ 43 3 = m) (hm2 : 0 ≤ m ∧ m < 40) : fnOk E mX5_add [.ref 43, zI l, zI r] σ (fnIs none (fnUp (fnUp (fnUp σ 44 m l) 45 m r) 43 3 (m + 1))) := by
  refine fnOk.of [.ref 43, zI l, zI r] rfl (by decide +kernel) rfl (fun V hV hR => ?_)
  replace hV : fnCx E RX5 cX5_add 3 0 0 V := hV
  replace hR : fnRt cX5_add none _ V := hR
  refine fn_aload_0 hV dX5_add_0 ?_
  refine fn_getIz hV 3 dX5_add_1 fl_X5_21 fi_43_3 rfl ?_
  refine fn_bipush hV dX5_add_4 rfl ?_
  refine fn_icmp_ge hV (by omega) (by omega) dX5_add_6 (fun q6 => ?_) (fun q6 => ?_)
  · exact absurd q6 (by omega)
  · refine fn_aload_0 hV dX5_add_9 ?_
    refine fn_getR hV dX5_add_10 fl_X5_9 fr_43_0 ?_
    refine fn_aload_0 hV dX5_add_13 ?_
    refine fn_getIz hV 3 dX5_add_14 fl_X5_21 fi_43_3 rfl ?_
    rw [hm]
    refine fn_iload_1 hV dX5_add_17 ?_
    refine fn_iast hV dX5_add_18 ar_44 (by omega) (by omega) ?_
    refine fn_aload_0 hV dX5_add_19 ?_
    refine fn_getR hV dX5_add_20 fl_X5_15 fr_43_1 ?_
    refine fn_aload_0 hV dX5_add_23 ?_
    refine fn_getIz hV 3 dX5_add_24 fl_X5_21 fi_43_3 rfl ?_
    rw [fnUp_ne _ _ _ (show (43 : Nat) ≠ 44 by decide), hm]
    refine fn_iload_2 hV dX5_add_27 ?_
    refine fn_iast hV dX5_add_28 ar_45 (by omega) (by omega) ?_
    refine fn_aload_0 hV dX5_add_29 ?_
    refine fn_dup hV dX5_add_30 rfl ?_
    refine fn_getIz hV 3 dX5_add_31 fl_X5_21 fi_43_3 rfl ?_
    rw [fnUp_ne _ _ _ (show (43 : Nat) ≠ 45 by decide), fnUp_ne _ _ _ (show (43 : Nat) ≠ 44 by decide), hm]
    refine fn_iconst hV dX5_add_34 ?_
    refine fn_iadd hV dX5_add_35 ?_
    refine fn_putIz hV 3 dX5_add_36 fp_X5_21 fi_43_3 rfl ?_
    exact fn_vret hR dX5_add_39 ⟨rfl, rfl⟩

set_option maxHeartbeats 4000000 in
set_option maxRecDepth 20000 in
theorem c_X5_find (E : fnE) (σ : fnMem) (m : Nat) (hm : σ 43 3 = m) (h40 : m ≤ 40) (hB : ∀ j : Int, 0 ≤ j → j < m → -2000000 ≤ σ 45 j ∧ σ 45 j ≤ 2000000) : fnOk E mX5_find [.ref 43] σ (fnQv (fun σ1 => fnFr [43, 46] σ σ1 ∧ (∀ j, j ≠ 4 → j ≠ 5 → σ1 43 j = σ 43 j) ∧ σ1 43 4 = (zsp (σ 45) m m).1 ∧ σ1 43 5 = (zsp (σ 45) m m).2)) := by
  refine fnOk.of [.ref 43, .null, .null] rfl (by decide +kernel) rfl (fun V hV hR => ?_)
  replace hV : fnCx E RX5 cX5_find 3 2 50 V := hV
  replace hR : fnRt cX5_find none _ V := hR
  refine fn_aload_0 hV dX5_find_0 ?_
  refine fn_iconst hV dX5_find_1 ?_
  refine fn_putIz hV 4 dX5_find_2 fp_X5_25 fi_43_4 rfl ?_
  have hB0 : ∀ j, 0 ≤ j → j < 0 + (m : Int) → -2000000 ≤ fnUp σ 43 4 0 45 j ∧ fnUp σ 43 4 0 45 j ≤ 2000000 := fun j j0 j1 => hB j j0 (by omega)
  refine fn_aload_0 hV dX5_find_5 ?_
  refine fn_aload_0 hV dX5_find_6 ?_
  refine fn_iconst hV dX5_find_7 ?_
  refine fn_aload_0 hV dX5_find_8 ?_
  refine fn_getIz hV 3 dX5_find_9 fl_X5_21 fi_43_3 rfl ?_
  rw [fnUp_off _ _ _ (show (3 : Int) ≠ 4 by decide), hm]
  refine fn_cV2I hV (c_X5_costOf E _ _ _ m (by omega) (by omega) (by omega) hB0) mv_X5_costOf lk_X5_31 dX5_find_12 sh_43 rfl ⟨rfl, rfl⟩ rfl (fun z0 σ0 hp => ?_)
  obtain ⟨hz0, gF0⟩ := hp
  refine fn_putIz hV 5 dX5_find_15 fp_X5_28 fi_43_5 rfl ?_
  refine fn_iconst hV dX5_find_18 ?_
  refine fn_istore_1 hV dX5_find_19 rfl rfl ?_
  have L : ∀ k : Nat, k ≤ m + 1 → ∀ (i : Int) (σ1 : fnMem), True → (i = k ∧ 1 ≤ i) → (fnFr [43, 46] σ σ1) → (∀ j, j ≠ 4 → j ≠ 5 → σ1 43 j = σ 43 j) → (σ1 43 4 = (zsp (σ 45) m (k - 1)).1) → (σ1 43 5 = (zsp (σ 45) m (k - 1)).2) → V 20 [.ref 43, zI i, .null] [] σ1 := by
    refine fn_rec (fun k hk ihL => ?_)
    intro i σ1 _ hi hF hO h4 h5
    refine fn_iload_1 hV dX5_find_20 ?_
    refine fn_aload_0 hV dX5_find_21 ?_
    refine fn_getIz hV 3 dX5_find_22 fl_X5_21 fi_43_3 rfl ?_
    rw [hO 3 (by decide) (by decide), hm]
    refine fn_icmp_gt hV (by omega) (by omega) dX5_find_25 (fun q25 => ?_) (fun q25 => ?_)
    · exact fn_vret hR dX5_find_69 (fnQv.mk ⟨hF, hO, by rw [h4, show k - 1 = m by omega], by rw [h5, show k - 1 = m by omega]⟩)
    · have e45 : σ1 45 = σ 45 := hF 45 (by decide)
      have m3 := hO 3 (by decide) (by decide)
      have hB1 : ∀ j, 0 ≤ j → j < 0 + (k : Int) → -2000000 ≤ σ1 45 j ∧ σ1 45 j ≤ 2000000 := fun j j0 j1 => by rw [e45]; exact hB j j0 (by omega)
      refine fn_aload_0 hV dX5_find_28 ?_
      refine fn_iconst hV dX5_find_29 ?_
      refine fn_iload_1 hV dX5_find_30 ?_
      refine fn_cV2I hV (c_X5_costOf E _ _ _ k (by omega) (by omega) (by omega) hB1) mv_X5_costOf lk_X5_31 dX5_find_31 sh_43 rfl ⟨rfl, rfl⟩ rfl (fun z1 σ2 hp => ?_)
      obtain ⟨hz1, gF1⟩ := hp
      have hB2 : ∀ j, i ≤ j → j < i + ((m - k : Nat) : Int) → -2000000 ≤ σ2 45 j ∧ σ2 45 j ≤ 2000000 := fun j j0 j1 => by rw [gF1 45 (by decide), e45]; exact hB j (by omega) (by omega)
      refine fn_aload_0 hV dX5_find_34 ?_
      refine fn_iload_1 hV dX5_find_35 ?_
      refine fn_aload_0 hV dX5_find_36 ?_
      refine fn_getIz hV 3 dX5_find_37 fl_X5_21 fi_43_3 rfl ?_
      rw [gF1 43 (by decide), m3, hm]
      refine fn_cV2I hV (c_X5_costOf E _ _ _ (m - k) (by omega) (by omega) (by omega) hB2) mv_X5_costOf lk_X5_31 dX5_find_40 sh_43 rfl ⟨rfl, rfl⟩ rfl (fun z2 σ3 hp => ?_)
      obtain ⟨hz2, gF2⟩ := hp
      have hF3 : fnFr [43, 46] σ σ3 := hF.tr ((gF1.mono (by decide)).tr (gF2.mono (by decide)))
      have f43 : σ3 43 = σ1 43 := (gF2 43 (by decide)).trans (gF1 43 (by decide))
      rw [show σ2 45 = σ 45 from (gF1 45 (by decide)).trans e45] at hz2
      rw [e45] at hz1
      have ob := zsp_le h40 hB (k - 1) (by omega)
      rw [← h4, ← h5] at ob
      rw [← f43] at ob h4 h5
      have c1 := zcost_le (R := σ 45) (a := 0) (n := k) (by omega) (fun j j0 j1 => hB j j0 (by omega))
      have c2 := zcost_le (R := σ 45) (a := i) (n := m - k) (by omega) (fun j j0 j1 => hB j (by omega) (by omega))
      rw [← hz1] at c1
      rw [← hz2] at c2
      refine fn_iadd hV dX5_find_43 ?_
      refine fn_istore_2 hV dX5_find_44 rfl rfl ?_
      refine fn_iload_2 hV dX5_find_45 ?_
      refine fn_aload_0 hV dX5_find_46 ?_
      refine fn_getIz hV 5 dX5_find_47 fl_X5_28 fi_43_5 rfl ?_
      refine fn_icmp_ge hV (by omega) (by omega) dX5_find_50 (fun q50 => ?_) (fun q50 => ?_)
      · refine fn_iinc_1 hV dX5_find_63 rfl rfl ?_
        refine fn_goto hV dX5_find_66 ?_
        have hst : zsp (σ 45) m k = zsp (σ 45) m (k - 1) := by
          rw [show k = k - 1 + 1 by omega, zsp_s, if_neg (by rw [← h5, show k - 1 + 1 = k by omega, show ((k : Nat) : Int) = i by omega, ← hz1, ← hz2]; omega), Nat.add_sub_cancel]
        refine fn_nul_2 hV ?_
        exact ihL (k + 1) (by omega) (by omega) _ _ trivial (by omega) hF3 (by rw [f43]; exact hO) (by rw [Nat.add_sub_cancel, hst, h4]) (by rw [Nat.add_sub_cancel, hst, h5])
      · refine fn_aload_0 hV dX5_find_53 ?_
        refine fn_iload_2 hV dX5_find_54 ?_
        refine fn_putIz hV 5 dX5_find_55 fp_X5_28 fi_43_5 rfl ?_
        refine fn_aload_0 hV dX5_find_58 ?_
        refine fn_iload_1 hV dX5_find_59 ?_
        refine fn_putIz hV 4 dX5_find_60 fp_X5_25 fi_43_4 rfl ?_
        refine fn_iinc_1 hV dX5_find_63 rfl rfl ?_
        refine fn_goto hV dX5_find_66 ?_
        have hst : zsp (σ 45) m k = (i, z1 + z2) := by
          rw [show k = k - 1 + 1 by omega, zsp_s, if_pos (by rw [← h5, show k - 1 + 1 = k by omega, show ((k : Nat) : Int) = i by omega, ← hz1, ← hz2]; omega), show k - 1 + 1 = k by omega, show ((k : Nat) : Int) = i by omega, ← hz1, ← hz2]
        refine fn_nul_2 hV ?_
        exact ihL (k + 1) (by omega) (by omega) _ _ trivial (by omega) ((hF3.up (by decide)).up (by decide)) (fun j j4 j5 => by rw [fnUp_off _ _ _ j4, fnUp_off _ _ _ j5, f43]; exact hO j j4 j5) (by rw [Nat.add_sub_cancel, hst, fnUp_at]) (by rw [Nat.add_sub_cancel, hst, fnUp_off _ _ _ (show (5 : Int) ≠ 4 by decide), fnUp_at])
  exact L 1 (by omega) _ _ trivial (by omega) ((((fnFr.rf.up (by decide))).tr (gF0.mono (by decide))).up (by decide)) (fun j j4 j5 => by rw [fnUp_off _ _ _ j5, gF0 43 (by decide), fnUp_off _ _ _ j4]) (by rw [fnUp_off _ _ _ (show (4 : Int) ≠ 5 by decide), gF0 43 (by decide), fnUp_at]; rfl) (by rw [fnUp_at, hz0, fnUp_ne _ _ _ (show (45 : Nat) ≠ 43 by decide)]; rfl)

set_option maxHeartbeats 4000000 in
set_option maxRecDepth 20000 in
theorem c_X5_isOnBothSides (E : fnE) (σ : fnMem) (h1 : fnR (σ 43 4)) (h2 : fnR (σ 43 3)) : fnOk E mX5_isOnBothSides [.ref 43] σ (fnIs (some (zI (if 0 < σ 43 4 ∧ σ 43 4 < σ 43 3 then 1 else 0))) σ) := by
  refine fnOk.of [.ref 43] rfl (by decide +kernel) rfl (fun V hV hR => ?_)
  replace hV : fnCx E RX5 cX5_isOnBothSides 1 0 0 V := hV
  replace hR : fnRt cX5_isOnBothSides (some .boolean) _ V := hR
  refine fn_aload_0 hV dX5_isOnBothSides_0 ?_
  refine fn_getIz hV 4 dX5_isOnBothSides_1 fl_X5_25 fi_43_4 rfl ?_
  refine fn_if_le hV (by omega) dX5_isOnBothSides_4 (fun q4 => ?_) (fun q4 => ?_)
  · refine fn_iconst hV dX5_isOnBothSides_22 ?_
    exact fn_zret hR dX5_isOnBothSides_23 (by first | exact Or.inl rfl | exact Or.inr rfl | (split <;> simp)) (fnIs.i (by (repeat' split) <;> omega))
  · refine fn_aload_0 hV dX5_isOnBothSides_7 ?_
    refine fn_getIz hV 4 dX5_isOnBothSides_8 fl_X5_25 fi_43_4 rfl ?_
    refine fn_aload_0 hV dX5_isOnBothSides_11 ?_
    refine fn_getIz hV 3 dX5_isOnBothSides_12 fl_X5_21 fi_43_3 rfl ?_
    refine fn_icmp_ge hV (by omega) (by omega) dX5_isOnBothSides_15 (fun q15 => ?_) (fun q15 => ?_)
    · refine fn_iconst hV dX5_isOnBothSides_22 ?_
      exact fn_zret hR dX5_isOnBothSides_23 (by first | exact Or.inl rfl | exact Or.inr rfl | (split <;> simp)) (fnIs.i (by (repeat' split) <;> omega))
    · refine fn_iconst hV dX5_isOnBothSides_18 ?_
      refine fn_goto hV dX5_isOnBothSides_19 ?_
      exact fn_zret hR dX5_isOnBothSides_23 (by first | exact Or.inl rfl | exact Or.inr rfl | (split <;> simp)) (fnIs.i (by (repeat' split) <;> omega))

set_option maxHeartbeats 4000000 in
set_option maxRecDepth 20000 in
theorem c_X5_jumpBetween (E : fnE) (σ : fnMem) (m f : Nat) (hm : σ 43 3 = m) (hf : σ 43 4 = f) (hfm : f ≤ m) (h40 : m ≤ 40) (hB : ∀ j : Int, 0 ≤ j → j < m → -2000000 ≤ σ 45 j ∧ σ 45 j ≤ 2000000) : fnOk E mX5_jumpBetween [.ref 43] σ (fnQI (fun z σ1 => z = zmid (σ 45) f (m - f) - zmid (σ 45) 0 f ∧ fnFr [46] σ σ1)) := by
  refine fnOk.of [.ref 43] rfl (by decide +kernel) rfl (fun V hV hR => ?_)
  replace hV : fnCx E RX5 cX5_jumpBetween 1 1 25 V := hV
  replace hR : fnRt cX5_jumpBetween (some .int) _ V := hR
  refine fn_aload_0 hV dX5_jumpBetween_0 ?_
  refine fn_aload_0 hV dX5_jumpBetween_1 ?_
  refine fn_getIz hV 4 dX5_jumpBetween_2 fl_X5_25 fi_43_4 rfl ?_
  refine fn_aload_0 hV dX5_jumpBetween_5 ?_
  refine fn_getIz hV 3 dX5_jumpBetween_6 fl_X5_21 fi_43_3 rfl ?_
  rw [hf, hm]
  refine fn_cV2I hV (c_X5_middle E _ _ _ (m - f) (by omega) (by omega) (by omega) (fun j j0 j1 => hB j (by omega) (by omega))) mv_X5_middle lk_X5_35 dX5_jumpBetween_9 sh_43 rfl ⟨rfl, rfl⟩ rfl (fun z1 σ1 hp => ?_)
  obtain ⟨hz1, g1⟩ := hp
  refine fn_aload_0 hV dX5_jumpBetween_12 ?_
  refine fn_iconst hV dX5_jumpBetween_13 ?_
  refine fn_aload_0 hV dX5_jumpBetween_14 ?_
  refine fn_getIz hV 4 dX5_jumpBetween_15 fl_X5_25 fi_43_4 rfl ?_
  rw [g1 43 (by decide), hf]
  refine fn_cV2I hV (c_X5_middle E _ _ _ f (by omega) (by omega) (by omega) (fun j j0 j1 => by rw [g1 45 (by decide)]; exact hB j (by omega) (by omega))) mv_X5_middle lk_X5_35 dX5_jumpBetween_18 sh_43 rfl ⟨rfl, rfl⟩ rfl (fun z2 σ2 hp => ?_)
  obtain ⟨hz2, g2⟩ := hp
  refine fn_isub hV dX5_jumpBetween_21 ?_
  exact fn_iret hR dX5_jumpBetween_22 (fnQI.mk ⟨by rw [hz1, hz2, g1 45 (by decide)], g1.tr g2⟩)
