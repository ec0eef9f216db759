theorem c_X0_copyQ (E : fnE) (σ : fnMem) (d : Nat) (hd : d < 4) : fnOk E mX0_copyFrom [.ref 6, .ref (3 + d)] σ (fnQv (fun s => s = fnSt σ 10 (fun j => if 0 ≤ j ∧ j < 6 then σ (7 + d) j else σ 10 j))) := c_X0_copyFrom E σ 3 d (by decide) hd
theorem c_X6_clearQ (E : fnE) (σ : fnMem) : fnOk E mX6_clearLaid [.ref 17] σ (fnQv (fun s => s = fnUp (fnUp (fnSt σ 20 (fun j => if 0 ≤ j ∧ j < ((6 : Nat) : Int) then 0 else σ 20 j)) 17 5 (-2009)) 17 6 0)) := c_X6_clearLaid E σ
theorem c_X6_sbcQ (E : fnE) (σ : fnMem) (d a : Int) (hd : 0 ≤ d ∧ d ≤ 96) : fnOk E mX6_setBarByCode [.ref 17, zI d, zI a] σ (fnQv (fun s => s = if d = 0 then σ else fnUp (fnUp (fnUp σ 21 ((d - 1) / 16) a) 20 ((d - 1) / 16) (2 + (d - 1) % 16 / 2)) 22 ((d - 1) / 16) (if (d - 1) % 2 = 1 then 1 else 0))) := c_X6_setBarByCode E σ d a hd
theorem c_X6_slcQ (E : fnE) (σ : fnMem) (d : Int) (hd : 0 ≤ d ∧ d ≤ 76) : fnOk E mX6_setBallByCode [.ref 17, zI d] σ (fnQv (fun s => s = if d = 0 then σ else fnUp (fnUp σ 17 5 ((d - 1) / 19)) 17 6 (2 + (d - 1) % 19))) := c_X6_setBallByCode E σ d hd
def zlb (μ : fnMem) : Int := if μ 0 8 ≠ -2009 then zpl (μ 7 (μ 0 8)) (μ 0 9) else 0
theorem zlb_eq {σ μ : fnMem} (h : zCR σ μ) (hW : zWF μ) : (if σ 17 5 ≠ -2009 then zpl (σ 19 (σ 17 5)) (σ 17 6) else 0) = zlb μ := by
  obtain ⟨c1, c2, c3, c4, c5, c6, c7⟩ := h.2.2.1
  obtain ⟨w1, w2, w3, w4, w5⟩ := hW.2.2.1
  unfold zlb
  rw [c6]
  by_cases q : μ 0 8 = -2009
  · rw [if_neg (by omega), if_neg (by omega)]
  · rw [if_pos q, if_pos q, c7 q, c2 _ (by omega) (by omega)]
theorem zlb_le {μ : fnMem} (hW : zWF μ) : 0 ≤ zlb μ ∧ zlb μ ≤ 8000 := by
  obtain ⟨w1, w2, w3, w4, w5⟩ := hW.2.2.1
  unfold zlb
  split
  · exact zpl_le (w4 _ (by omega) (by omega)) (by omega)
  · decide
theorem zlft_eq (μ : fnMem) (j : Int) : zlft μ j = if j = 1 then μ 1 1 - zsum (zpx μ 0) 6 else if j = 2 then μ 1 2 - zsum (zpx μ 1) 6 else if j = 3 then μ 1 3 - zlb μ else μ 1 j := rfl
theorem zlft_le {μ : fnMem} (hW : zWF μ) {j : Int} (j0 : 0 ≤ j) (j1 : j < 6) : -32000 ≤ zlft μ j ∧ zlft μ j ≤ 32000 := by
  have a1 := zpx_le hW (a := 0) (by decide)
  have a2 := zpx_le hW (a := 1) (by decide)
  have a3 := zlb_le hW
  have a4 := hW.1 j j0 (by omega)
  have b1 := hW.1 1 (by decide) (by decide)
  have b2 := hW.1 2 (by decide) (by decide)
  have b3 := hW.1 3 (by decide) (by decide)
  rw [zlft_eq]
  (repeat' split) <;> omega
theorem zbb_congr {S1 S2 : Int → Int} (h : ∀ k, 0 ≤ k → k < 6 → S1 k = S2 k) {x : Int} (hx : 0 ≤ x ∧ x ≤ 96) (v : Int) : zbb S1 x v = zbb S2 x v := by
  unfold zbb
  by_cases h0 : x = 0
  · rw [if_pos h0, if_pos h0]
  · rw [h ((x - 1) / 16) (by omega) (by omega)]
theorem zbs_congr {S1 S2 : Int → Int} (h : ∀ k, 0 ≤ k → k < 6 → S1 k = S2 k) {x y : Int} (hx : 0 ≤ x ∧ x ≤ 96) (hy : 0 ≤ y ∧ y ≤ 96) (b c : Int) (s : zB4) : zbs S1 b c x y s = zbs S2 b c x y s := by
  unfold zbs
  rw [zbb_congr h hx, zbb_congr h hy]
theorem zbr_congr {S1 S2 : Int → Int} (h : ∀ k, 0 ≤ k → k < 6 → S1 k = S2 k) {x : Int} (hx : 0 ≤ x ∧ x ≤ 96) (b c : Int) (s : zB4) : ∀ n : Nat, n ≤ 97 → zbr S1 b c x n s = zbr S2 b c x n s
  | 0, _ => rfl
  | n + 1, hn => by rw [zbr_s, zbr_s, zbr_congr h hx b c s n (by omega), zbs_congr h hx (by omega)]
theorem zbo_congr {S1 S2 : Int → Int} (h : ∀ k, 0 ≤ k → k < 6 → S1 k = S2 k) (b c : Int) (s : zB4) : ∀ n : Nat, n ≤ 97 → zbo S1 b c n s = zbo S2 b c n s
  | 0, _ => rfl
  | n + 1, hn => by rw [zbo_s, zbo_s, zbo_congr h b c s n (by omega), zbr_congr h (by omega) b c _ 97 (Nat.le_refl _)]
theorem zbest_congr {S1 S2 : Int → Int} (h : ∀ k, 0 ≤ k → k < 6 → S1 k = S2 k) (b c : Int) : zbest S1 b c = zbest S2 b c := zbo_congr h b c _ 97 (Nat.le_refl _)
def zB4in (s : zB4) : Prop := (0 ≤ s.2.2.1 ∧ s.2.2.1 ≤ 96) ∧ (0 ≤ s.2.2.2 ∧ s.2.2.2 ≤ 96)
theorem zbr_in {St : Int → Int} {b c x : Int} (hx : 0 ≤ x ∧ x ≤ 96) {s : zB4} (hs : zB4in s) : ∀ n : Nat, n ≤ 97 → zB4in (zbr St b c x n s)
  | 0, _ => hs
  | n + 1, hn => by
    rw [zbr_s]
    unfold zbs
    split
    · exact ⟨hx, (show (0 : Int) ≤ (n : Int) by omega), (show (n : Int) ≤ 96 by omega)⟩
    · exact zbr_in hx hs n (by omega)
theorem zbo_in {St : Int → Int} {b c : Int} {s : zB4} (hs : zB4in s) : ∀ n : Nat, n ≤ 97 → zB4in (zbo St b c n s)
  | 0, _ => hs
  | n + 1, hn => by
    rw [zbo_s]
    exact zbr_in (by omega) (zbo_in hs n (by omega)) 97 (Nat.le_refl _)
theorem zbest_in (St : Int → Int) (b c : Int) : zB4in (zbest St b c) := zbo_in ⟨⟨Int.le_refl _, (show (0 : Int) ≤ 96 by decide)⟩, Int.le_refl _, (show (0 : Int) ≤ 96 by decide)⟩ 97 (Nat.le_refl _)
theorem zbyb_congr {S1 S2 : Int → Int} (h : ∀ k, 0 ≤ k → k < 4 → S1 k = S2 k) {x : Int} (hx : 0 ≤ x ∧ x ≤ 76) (v : Int) : zbyb S1 x v = zbyb S2 x v := by
  unfold zbyb
  by_cases h0 : x = 0
  · rw [if_pos h0, if_pos h0]
  · rw [h ((x - 1) / 19) (by omega) (by omega)]
theorem zbl_congr {S1 S2 : Int → Int} (h : ∀ k, 0 ≤ k → k < 4 → S1 k = S2 k) (v : Int) : ∀ n : Nat, n ≤ 76 → zbl S1 v n = zbl S2 v n
  | 0, _ => rfl
  | n + 1, hn => by
    have := zbl_in S2 v n
    rw [zbl_s, zbl_s, zbl_congr h v n (by omega), zbyb_congr h (by omega), zbyb_congr h (x := zbl S2 v n) (by omega)]
theorem zCR_sbc {σ μ : fnMem} (h : zCR σ μ) {d a : Int} (ha : 0 ≤ a ∧ a ≤ 1) : zCR (if d = 0 then σ else fnUp (fnUp (fnUp σ 21 ((d - 1) / 16) a) 20 ((d - 1) / 16) (2 + (d - 1) % 16 / 2)) 22 ((d - 1) / 16) (if (d - 1) % 2 = 1 then 1 else 0)) (zsb μ d a) := by
  unfold zsb
  by_cases hd : d = 0
  · rw [if_pos hd, if_pos hd]; exact h
  · rw [if_neg hd, if_neg hd]; exact zCR_sb h ha (by split <;> omega)
theorem zCR_slc {σ μ : fnMem} (h : zCR σ μ) {d : Int} : zCR (if d = 0 then σ else fnUp (fnUp σ 17 5 ((d - 1) / 19)) 17 6 (2 + (d - 1) % 19)) (zsl μ d) := by
  unfold zsl
  by_cases hd : d = 0
  · rw [if_pos hd, if_pos hd]; exact h
  · rw [if_neg hd, if_neg hd]; exact zCR_sl h _ _
/-- what Laying.find has found, over the model's cells -/
def zfnd (μ σ1 : fnMem) : Prop := zlay σ1 = zbst μ ∧ σ1 23 4 = zbal μ ∧ σ1 23 7 = zbyb (μ 7) (zbal μ) (μ 1 3) ∧ σ1 23 8 = zone (zbal μ)
theorem zfnd_of {σ σ1 μ : fnMem} (hC : zCR σ μ) (h : zlay σ1 = zbest (σ 18) (σ 7 1) (σ 7 2) ∧ σ1 23 4 = zbl (σ 19) (σ 7 3) 76 ∧ σ1 23 7 = zbyb (σ 19) (σ1 23 4) (σ 7 3) ∧ σ1 23 8 = zone (σ1 23 4)) : zfnd μ σ1 := by
  obtain ⟨h1, h2, h3, h4⟩ := h
  obtain ⟨c1, c2, c3, c4, c5, c6, c7⟩ := hC.2.2.1
  have p1 := hC.1 0 (by decide) 1 (by decide) (by decide)
  have p2 := hC.1 0 (by decide) 2 (by decide) (by decide)
  have p3 := hC.1 0 (by decide) 3 (by decide) (by decide)
  simp only [Nat.add_zero, Int.ofNat_zero, Int.mul_zero, Int.zero_add, Int.natCast_zero] at p1 p2 p3
  have e4 : σ1 23 4 = zbal μ := by rw [h2, p3]; exact zbl_congr c2 _ 76 (Nat.le_refl _)
  have := zbl_in (μ 7) (μ 1 3) 76
  refine ⟨?_, e4, ?_, by rw [h4, e4]⟩
  · rw [h1, p1, p2]; exact zbest_congr c1 _ _
  · rw [h3, e4, p3]; exact zbyb_congr c2 (by unfold zbal; omega) _
theorem zfnd.i {μ σ1 : fnMem} (h : zfnd μ σ1) : (0 ≤ σ1 23 2 ∧ σ1 23 2 ≤ 96) ∧ (0 ≤ σ1 23 3 ∧ σ1 23 3 ≤ 96) ∧ (0 ≤ σ1 23 4 ∧ σ1 23 4 ≤ 76) := by
  have h1 := zbest_in (μ 3) (μ 1 1) (μ 1 2)
  rw [show zbest (μ 3) (μ 1 1) (μ 1 2) = zlay σ1 from h.1.symm] at h1
  have h2 := zbl_in (μ 7) (μ 1 3) 76
  rw [show zbl (μ 7) (μ 1 3) 76 = σ1 23 4 from h.2.1.symm] at h2
  exact ⟨h1.1, h1.2, h2.1, by omega⟩
theorem zfnd.a {μ σ1 : fnMem} (h : zfnd μ σ1) : σ1 23 5 = (zbst μ).1 ∧ σ1 23 6 = (zbst μ).2.1 ∧ σ1 23 2 = (zbst μ).2.2.1 ∧ σ1 23 3 = (zbst μ).2.2.2 := by
  rw [← h.1]
  exact ⟨rfl, rfl, rfl, rfl⟩
theorem zfnd.r {μ σ1 : fnMem} (h : zfnd μ σ1) : σ1 23 5 + σ1 23 7 = zrst μ := by
  unfold zrst
  rw [← h.1, h.2.2.1]
  rfl

set_option maxHeartbeats 4000000 in
set_option maxRecDepth 20000 in
theorem c_X10_leftCard (E : fnE) (σ μ : fnMem) (hC : zCR σ μ) (hW : zWF μ)  : fnOk E mX10_leftCard [.ref 0] σ (fnQr 6 (fun s => fnFr [10] σ s ∧ ∀ j, 0 ≤ j → j < 6 → s 10 j = zlft μ j)) := by
  refine fnOk.of [.ref 0] rfl (by decide +kernel) rfl (fun V hV hR => ?_)
  replace hV : fnCx E RX10 cX10_leftCard 1 3 62 V := hV
  replace hR : fnRt cX10_leftCard (some (.object "FooledNeedle$Card")) _ V := hR
  have hCf : ∀ s, fnFr [10] σ s → zCR s μ := fun s hs => zCR_fr hC (hs.mono (by decide))
  refine fn_aload_0 hV dX10_leftCard_0 ?_
  refine fn_getR hV dX10_leftCard_1 fl_X10_71 fr_0_9 ?_
  refine fn_aload_0 hV dX10_leftCard_4 ?_
  refine fn_getR hV dX10_leftCard_5 fl_X10_11 fr_0_0 ?_
  refine fn_iconst hV dX10_leftCard_8 ?_
  refine fn_aaldC hV 0 dX10_leftCard_9 (by decide) rfl ?_
  refine fn_cV1Q hV (c_X0_copyQ E _ 0 (by decide)) mv_X0_copyFrom lk_X10_267 dX10_leftCard_10 sh_6 rfl ⟨rfl, rfl⟩ rfl (fun σ1 hp => ?_)
  have F0 : fnFr [10] σ σ1 := by rw [hp]; exact fun k hk => fnSt_ne _ _ (by simpa using hk)
  have v0 : ∀ j, 0 ≤ j → j < 6 → σ1 10 j = μ 1 j := fun j j0 j1 => by
    rw [hp, fnSt_same, if_pos ⟨j0, j1⟩]
    have := hC.1 0 (by decide) j j0 j1
    simpa using this
  refine fn_aload_0 hV dX10_leftCard_13 ?_
  refine fn_getR hV dX10_leftCard_14 fl_X10_71 fr_0_9 ?_
  refine fn_getR hV dX10_leftCard_17 fl_X10_110 fr_6_0 ?_
  refine fn_iconst hV dX10_leftCard_20 ?_
  refine fn_dup2 hV dX10_leftCard_21 rfl rfl ?_
  refine fn_iald hV dX10_leftCard_22 ar_10 (by omega) (by omega) ?_
  refine fn_aload_0 hV dX10_leftCard_23 ?_
  refine fn_getR hV dX10_leftCard_24 fl_X10_24 fr_0_2 ?_
  refine fn_iconst hV dX10_leftCard_27 ?_
  refine fn_cV1 hV (c_X6_pullOnAxis E _ ((hCf _ F0).kSt hW) _ (by decide)) mv_X6_pullOnAxis lk_X10_377 dX10_leftCard_28 sh_17 rfl ⟨rfl, rfl⟩ rfl ?_
  rw [zpx_eq (hCf _ F0) hW (by decide)]
  refine fn_isub hV dX10_leftCard_31 ?_
  refine fn_iast hV dX10_leftCard_32 ar_10 (by omega) (by omega) ?_
  refine fn_aload_0 hV dX10_leftCard_33 ?_
  refine fn_getR hV dX10_leftCard_34 fl_X10_71 fr_0_9 ?_
  refine fn_getR hV dX10_leftCard_37 fl_X10_110 fr_6_0 ?_
  refine fn_iconst hV dX10_leftCard_40 ?_
  refine fn_dup2 hV dX10_leftCard_41 rfl rfl ?_
  refine fn_iald hV dX10_leftCard_42 ar_10 (by omega) (by omega) ?_
  refine fn_aload_0 hV dX10_leftCard_43 ?_
  refine fn_getR hV dX10_leftCard_44 fl_X10_24 fr_0_2 ?_
  refine fn_iconst hV dX10_leftCard_47 ?_
  refine fn_cV1 hV (c_X6_pullOnAxis E _ ((hCf _ (F0.up (by decide))).kSt hW) _ (by decide)) mv_X6_pullOnAxis lk_X10_377 dX10_leftCard_48 sh_17 rfl ⟨rfl, rfl⟩ rfl ?_
  rw [zpx_eq (hCf _ (F0.up (by decide))) hW (by decide)]
  refine fn_isub hV dX10_leftCard_51 ?_
  refine fn_iast hV dX10_leftCard_52 ar_10 (by omega) (by omega) ?_
  refine fn_aload_0 hV dX10_leftCard_53 ?_
  refine fn_getR hV dX10_leftCard_54 fl_X10_71 fr_0_9 ?_
  refine fn_getR hV dX10_leftCard_57 fl_X10_110 fr_6_0 ?_
  refine fn_iconst hV dX10_leftCard_60 ?_
  refine fn_dup2 hV dX10_leftCard_61 rfl rfl ?_
  refine fn_iald hV dX10_leftCard_62 ar_10 (by omega) (by omega) ?_
  refine fn_aload_0 hV dX10_leftCard_63 ?_
  refine fn_getR hV dX10_leftCard_64 fl_X10_24 fr_0_2 ?_
  refine fn_cV0 hV (c_X6_pullOfLaidBall E _ ((hCf _ ((F0.up (by decide)).up (by decide))).kSt hW)) mv_X6_pullOfLaidBall lk_X10_380 dX10_leftCard_67 sh_17 rfl ⟨rfl, rfl⟩ rfl ?_
  rw [zlb_eq (hCf _ ((F0.up (by decide)).up (by decide))) hW]
  refine fn_isub hV dX10_leftCard_70 ?_
  refine fn_iast hV dX10_leftCard_71 ar_10 (by omega) (by omega) ?_
  refine fn_aload_0 hV dX10_leftCard_72 ?_
  refine fn_getR hV dX10_leftCard_73 fl_X10_71 fr_0_9 ?_
  exact fn_aret hR dX10_leftCard_76 (fnQr.mk ⟨((F0.up (by decide)).up (by decide)).up (by decide), fun j j0 j1 => by
    have hj : j = 0 ∨ j = 1 ∨ j = 2 ∨ j = 3 ∨ j = 4 ∨ j = 5 := by omega
    rcases hj with rfl | rfl | rfl | rfl | rfl | rfl <;> simp [fnUp_ap, zlft_eq, v0]⟩)

set_option maxHeartbeats 4000000 in
set_option maxRecDepth 20000 in
theorem c_X10_leftOf (E : fnE) (σ μ : fnMem) (hC : zCR σ μ) (hW : zWF μ) (p : Int) (h_p : fnR p) : fnOk E mX10_leftOf [.ref 0, zI p] σ (fnQI (zXP (S_leftOf μ p) (μ) σ)) := by
  refine fnOk.of [.ref 0, zI p] rfl (by decide +kernel) rfl (fun V hV hR => ?_)
  replace hV : fnCx E RX10 cX10_leftOf 2 4 82 V := hV
  replace hR : fnRt cX10_leftOf (some .int) _ V := hR
  refine fn_iload_1 hV dX10_leftOf_0 ?_
  refine fn_cS1 hV (c_X10_isPart E _ _ (by omega)) ms_X10_isPart lk_X10_103 dX10_leftOf_1 ⟨rfl, rfl⟩ rfl ?_
  refine fn_ifneb hV dX10_leftOf_4 (fun q4 => ?_) (fun q4 => ?_)
  · refine fn_aload_0 hV dX10_leftOf_11 ?_
    refine fn_cV0R hV (c_X10_leftCard E _ μ hC hW) mv_X10_leftCard lk_X10_212 dX10_leftOf_12 sh_0 rfl ⟨rfl, rfl⟩ rfl (fun σ1 hp => ?_)
    obtain ⟨lF, lv⟩ := hp
    refine fn_getR hV dX10_leftOf_15 fl_X10_110 fr_6_0 ?_
    refine fn_iload_1 hV dX10_leftOf_18 ?_
    refine fn_iald hV dX10_leftOf_19 ar_10 (by omega) (by omega) ?_
    exact fn_iret hR dX10_leftOf_20 (zXP.fr hC (lF.mono (by decide)) (by unfold S_leftOf; rw [if_neg (by omega)]; exact lv p (by omega) (by omega)))
  · refine fn_sipush hV dX10_leftOf_7 rfl ?_
    exact fn_iret hR dX10_leftOf_10 (zXP.rf hC (by unfold S_leftOf; (repeat' split) <;> first | rfl | omega))

set_option maxHeartbeats 4000000 in
set_option maxRecDepth 20000 in
theorem c_X10_left (E : fnE) (σ μ : fnMem) (hC : zCR σ μ) (hW : zWF μ) (h : Int) (h_h : fnR h) : fnOk E mX10_left [.ref 0, zI h] σ (fnQI (zXP (S_left μ h) (μ) σ)) := by
  refine fnOk.of [.ref 0, zI h] rfl (by decide +kernel) rfl (fun V hV hR => ?_)
  replace hV : fnCx E RX10 cX10_left 2 4 82 V := hV
  replace hR : fnRt cX10_left (some .int) _ V := hR
  refine fn_iload_1 hV dX10_left_0 ?_
  refine fn_cS1 hV (c_X10_isHeading E _ _ (by omega)) ms_X10_isHeading lk_X10_113 dX10_left_1 ⟨rfl, rfl⟩ rfl ?_
  refine fn_ifneb hV dX10_left_4 (fun q4 => ?_) (fun q4 => ?_)
  · refine fn_aload_0 hV dX10_left_11 ?_
    refine fn_cV0R hV (c_X10_leftCard E _ μ hC hW) mv_X10_leftCard lk_X10_212 dX10_left_12 sh_0 rfl ⟨rfl, rfl⟩ rfl (fun σ1 hp => ?_)
    obtain ⟨lF, lv⟩ := hp
    refine fn_iload_1 hV dX10_left_15 ?_
    refine fn_iconst hV dX10_left_16 ?_
    refine fn_cV2 hV (c_X0_errorOn E _ 3 (by decide) (fun j j0 j1 => by rw [show σ1 (7 + 3) j = zlft μ j from lv j j0 j1]; exact zlft_le hW j0 j1) _ _ (by decide)) mv_X0_errorOn lk_X10_119 dX10_left_17 sh_6 rfl ⟨rfl, rfl⟩ rfl ?_
    exact fn_iret hR dX10_left_20 (zXP.fr hC (lF.mono (by decide)) (by unfold S_left; rw [if_neg (by omega)]; exact zer_congr lv h 0))
  · refine fn_sipush hV dX10_left_7 rfl ?_
    exact fn_iret hR dX10_left_10 (zXP.rf hC (by unfold S_left; (repeat' split) <;> first | rfl | omega))

set_option maxHeartbeats 4000000 in
set_option maxRecDepth 20000 in
theorem c_X10_best (E : fnE) (σ μ : fnMem) (hC : zCR σ μ) (hW : zWF μ)  : fnOk E mX10_best [.ref 0] σ (fnQI (zXP (zrst μ) (μ) σ)) := by
  refine fnOk.of [.ref 0] rfl (by decide +kernel) rfl (fun V hV hR => ?_)
  replace hV : fnCx E RX10 cX10_best 1 5 111 V := hV
  replace hR : fnRt cX10_best (some .int) _ V := hR
  refine fn_aload_0 hV dX10_best_0 ?_
  refine fn_getR hV dX10_best_1 fl_X10_31 fr_0_3 ?_
  refine fn_aload_0 hV dX10_best_4 ?_
  refine fn_getR hV dX10_best_5 fl_X10_11 fr_0_0 ?_
  refine fn_iconst hV dX10_best_8 ?_
  refine fn_aaldC hV 0 dX10_best_9 (by decide) rfl ?_
  refine fn_getR hV dX10_best_10 fl_X10_110 fr_3_0 ?_
  refine fn_aload_0 hV dX10_best_13 ?_
  refine fn_getR hV dX10_best_14 fl_X10_24 fr_0_2 ?_
  refine fn_cV2Q hV (c_X2_find E _ (hC.kSt hW) (fun j j0 j1 => by have q := hC.1 0 (by decide) j j0 j1; rw [show σ 7 j = μ 1 (6 * ((0 : Nat) : Int) + j) from q]; exact hW.1 _ (by omega) (by omega))) mv_X2_find lk_X10_216 dX10_best_17 sh_23 rfl ⟨rfl, rfl⟩ rfl (fun σ1 hp => ?_)
  obtain ⟨fF, hp⟩ := hp
  have hf := zfnd_of hC hp
  have hi := hf.i
  obtain ⟨a5, a6, a2, a3⟩ := hf.a
  refine fn_aload_0 hV dX10_best_20 ?_
  refine fn_getR hV dX10_best_21 fl_X10_31 fr_0_3 ?_
  refine fn_cV0 hV (c_X2_restInAll E _) mv_X2_restInAll lk_X10_220 dX10_best_24 sh_23 rfl ⟨rfl, rfl⟩ rfl ?_
  exact fn_iret hR dX10_best_27 (zXP.fr hC (fF.mono (by decide)) hf.r)

set_option maxHeartbeats 4000000 in
set_option maxRecDepth 20000 in
theorem c_X10_bestCode (E : fnE) (σ μ : fnMem) (hC : zCR σ μ) (hW : zWF μ) (w : Int) (h_w : fnR w) : fnOk E mX10_bestCode [.ref 0, zI w] σ (fnQI (zXP (S_bestCode μ w) (μ) σ)) := by
  refine fnOk.of [.ref 0, zI w] rfl (by decide +kernel) rfl (fun V hV hR => ?_)
  replace hV : fnCx E RX10 cX10_bestCode 2 5 111 V := hV
  replace hR : fnRt cX10_bestCode (some .int) _ V := hR
  refine fn_iload_1 hV dX10_bestCode_0 ?_
  refine fn_iconst hV dX10_bestCode_1 ?_
  refine fn_iconst hV dX10_bestCode_2 ?_
  refine fn_cS3 hV (c_X10_within E _ _ _ _ (by omega) (by omega) (by omega)) ms_X10_within lk_X10_106 dX10_bestCode_3 ⟨rfl, rfl⟩ rfl ?_
  refine fn_ifneb hV dX10_bestCode_6 (fun q6 => ?_) (fun q6 => ?_)
  · refine fn_aload_0 hV dX10_bestCode_13 ?_
    refine fn_getR hV dX10_bestCode_14 fl_X10_31 fr_0_3 ?_
    refine fn_aload_0 hV dX10_bestCode_17 ?_
    refine fn_getR hV dX10_bestCode_18 fl_X10_11 fr_0_0 ?_
    refine fn_iconst hV dX10_bestCode_21 ?_
    refine fn_aaldC hV 0 dX10_bestCode_22 (by decide) rfl ?_
    refine fn_getR hV dX10_bestCode_23 fl_X10_110 fr_3_0 ?_
    refine fn_aload_0 hV dX10_bestCode_26 ?_
    refine fn_getR hV dX10_bestCode_27 fl_X10_24 fr_0_2 ?_
    refine fn_cV2Q hV (c_X2_find E _ (hC.kSt hW) (fun j j0 j1 => by have q := hC.1 0 (by decide) j j0 j1; rw [show σ 7 j = μ 1 (6 * ((0 : Nat) : Int) + j) from q]; exact hW.1 _ (by omega) (by omega))) mv_X2_find lk_X10_216 dX10_bestCode_30 sh_23 rfl ⟨rfl, rfl⟩ rfl (fun σ1 hp => ?_)
    obtain ⟨fF, hp⟩ := hp
    have hf := zfnd_of hC hp
    have hi := hf.i
    obtain ⟨a5, a6, a2, a3⟩ := hf.a
    refine fn_iload_1 hV dX10_bestCode_33 ?_
    by_cases w34_0 : w = 0
    · refine fn_tswIn (tgt := 60) hV 0 dX10_bestCode_34 (by omega) (by omega) (by omega) rfl (by decide) ?_
      refine fn_aload_0 hV dX10_bestCode_60 ?_
      refine fn_getR hV dX10_bestCode_61 fl_X10_31 fr_0_3 ?_
      refine fn_getIz hV 2 dX10_bestCode_64 fl_X10_223 fi_23_2 rfl ?_
      exact fn_iret hR dX10_bestCode_67 (zXP.fr hC (fF.mono (by decide)) (by unfold S_bestCode; rw [if_pos (by omega)]; exact a2))
    by_cases w34_1 : w = 1
    · refine fn_tswIn (tgt := 68) hV 1 dX10_bestCode_34 (by omega) (by omega) (by omega) rfl (by decide) ?_
      refine fn_aload_0 hV dX10_bestCode_68 ?_
      refine fn_getR hV dX10_bestCode_69 fl_X10_31 fr_0_3 ?_
      refine fn_getIz hV 3 dX10_bestCode_72 fl_X10_226 fi_23_3 rfl ?_
      exact fn_iret hR dX10_bestCode_75 (zXP.fr hC (fF.mono (by decide)) (by unfold S_bestCode; rw [if_neg (by omega), if_pos (by omega)]; exact a3))
    by_cases w34_2 : w = 2
    · refine fn_tswIn (tgt := 76) hV 2 dX10_bestCode_34 (by omega) (by omega) (by omega) rfl (by decide) ?_
      refine fn_aload_0 hV dX10_bestCode_76 ?_
      refine fn_getR hV dX10_bestCode_77 fl_X10_31 fr_0_3 ?_
      refine fn_getIz hV 4 dX10_bestCode_80 fl_X10_229 fi_23_4 rfl ?_
      exact fn_iret hR dX10_bestCode_83 (zXP.fr hC (fF.mono (by decide)) (by unfold S_bestCode; rw [if_neg (by omega), if_neg (by omega), if_pos (by omega)]; exact hf.2.1))
    refine fn_tswOut (tgt := 84) hV dX10_bestCode_34 (by omega) (by omega) (by decide) ?_
    refine fn_aload_0 hV dX10_bestCode_84 ?_
    refine fn_getR hV dX10_bestCode_85 fl_X10_31 fr_0_3 ?_
    refine fn_cV0 hV (c_X2_magnetsInAll E _) mv_X2_magnetsInAll lk_X10_232 dX10_bestCode_88 sh_23 rfl ⟨rfl, rfl⟩ rfl ?_
    exact fn_iret hR dX10_bestCode_91 (zXP.fr hC (fF.mono (by decide)) (by unfold S_bestCode; rw [if_neg (by omega), if_neg (by omega), if_neg (by omega), if_pos (by omega), a6, hf.2.2.2]))
  · refine fn_sipush hV dX10_bestCode_9 rfl ?_
    exact fn_iret hR dX10_bestCode_12 (zXP.rf hC (by unfold S_bestCode; rw [if_neg (by omega), if_neg (by omega), if_neg (by omega), if_neg (by omega)]))

set_option maxHeartbeats 4000000 in
set_option maxRecDepth 20000 in
theorem c_X10_layBest (E : fnE) (σ μ : fnMem) (hC : zCR σ μ) (hW : zWF μ)  : fnOk E mX10_layBest [.ref 0] σ (fnQI (zXP (zrst μ) (U_layBest μ) σ)) := by
  refine fnOk.of [.ref 0] rfl (by decide +kernel) rfl (fun V hV hR => ?_)
  replace hV : fnCx E RX10 cX10_layBest 1 5 111 V := hV
  replace hR : fnRt cX10_layBest (some .int) _ V := hR
  refine fn_aload_0 hV dX10_layBest_0 ?_
  refine fn_getR hV dX10_layBest_1 fl_X10_31 fr_0_3 ?_
  refine fn_aload_0 hV dX10_layBest_4 ?_
  refine fn_getR hV dX10_layBest_5 fl_X10_11 fr_0_0 ?_
  refine fn_iconst hV dX10_layBest_8 ?_
  refine fn_aaldC hV 0 dX10_layBest_9 (by decide) rfl ?_
  refine fn_getR hV dX10_layBest_10 fl_X10_110 fr_3_0 ?_
  refine fn_aload_0 hV dX10_layBest_13 ?_
  refine fn_getR hV dX10_layBest_14 fl_X10_24 fr_0_2 ?_
  refine fn_cV2Q hV (c_X2_find E _ (hC.kSt hW) (fun j j0 j1 => by have q := hC.1 0 (by decide) j j0 j1; rw [show σ 7 j = μ 1 (6 * ((0 : Nat) : Int) + j) from q]; exact hW.1 _ (by omega) (by omega))) mv_X2_find lk_X10_216 dX10_layBest_17 sh_23 rfl ⟨rfl, rfl⟩ rfl (fun σ1 hp => ?_)
  obtain ⟨fF, hp⟩ := hp
  have hf := zfnd_of hC hp
  have hi := hf.i
  obtain ⟨a5, a6, a2, a3⟩ := hf.a
  refine fn_aload_0 hV dX10_layBest_20 ?_
  refine fn_getR hV dX10_layBest_21 fl_X10_24 fr_0_2 ?_
  refine fn_cV0Q hV (c_X6_clearQ E _) mv_X6_clearLaid lk_X10_209 dX10_layBest_24 sh_17 rfl ⟨rfl, rfl⟩ rfl (fun σ2 hp => ?_)
  have hC2 : zCR σ2 (U_lift μ) := by rw [hp]; exact zCR_lift (zCR_fr hC (fF.mono (by decide)))
  have F2 : fnFr [17, 20, 21, 22, 23, 24, 25] σ σ2 := fun k hk => by
    simp at hk
    rw [hp, fnUp_ne _ _ _ (by omega), fnUp_ne _ _ _ (by omega), fnSt_ne _ _ (by omega)]
    exact fF k (by simp; omega)
  have e2 : σ2 23 = σ1 23 := by rw [hp, fnUp_ne _ _ _ (by decide), fnUp_ne _ _ _ (by decide), fnSt_ne _ _ (by decide)]
  refine fn_aload_0 hV dX10_layBest_27 ?_
  refine fn_getR hV dX10_layBest_28 fl_X10_24 fr_0_2 ?_
  refine fn_aload_0 hV dX10_layBest_31 ?_
  refine fn_getR hV dX10_layBest_32 fl_X10_31 fr_0_3 ?_
  refine fn_getIz hV 2 dX10_layBest_35 fl_X10_223 fi_23_2 rfl ?_
  refine fn_iconst hV dX10_layBest_38 ?_
  refine fn_cV2Q hV (c_X6_sbcQ E _ _ _ (by rw [e2]; omega)) mv_X6_setBarByCode lk_X10_235 dX10_layBest_39 sh_17 rfl ⟨rfl, rfl⟩ rfl (fun σ3 hp => ?_)
  have hC3 : zCR σ3 (zsb (U_lift μ) (zbst μ).2.2.1 0) := by rw [hp, e2, a2]; exact zCR_sbc hC2 (by decide)
  have F3 : fnFr [17, 20, 21, 22, 23, 24, 25] σ σ3 := by
    rw [hp]
    split
    · exact F2
    · exact ((F2.up (by decide)).up (by decide)).up (by decide)
  have e3 : σ3 23 = σ1 23 := by
    rw [← e2, hp]
    split
    · rfl
    · rw [fnUp_ne _ _ _ (by decide), fnUp_ne _ _ _ (by decide), fnUp_ne _ _ _ (by decide)]
  refine fn_aload_0 hV dX10_layBest_42 ?_
  refine fn_getR hV dX10_layBest_43 fl_X10_24 fr_0_2 ?_
  refine fn_aload_0 hV dX10_layBest_46 ?_
  refine fn_getR hV dX10_layBest_47 fl_X10_31 fr_0_3 ?_
  refine fn_getIz hV 3 dX10_layBest_50 fl_X10_226 fi_23_3 rfl ?_
  refine fn_iconst hV dX10_layBest_53 ?_
  refine fn_cV2Q hV (c_X6_sbcQ E _ _ _ (by rw [e3]; omega)) mv_X6_setBarByCode lk_X10_235 dX10_layBest_54 sh_17 rfl ⟨rfl, rfl⟩ rfl (fun σ4 hp => ?_)
  have hC4 : zCR σ4 (zsb (zsb (U_lift μ) (zbst μ).2.2.1 0) (zbst μ).2.2.2 1) := by rw [hp, e3, a3]; exact zCR_sbc hC3 (by decide)
  have F4 : fnFr [17, 20, 21, 22, 23, 24, 25] σ σ4 := by
    rw [hp]
    split
    · exact F3
    · exact ((F3.up (by decide)).up (by decide)).up (by decide)
  have e4 : σ4 23 = σ1 23 := by
    rw [← e3, hp]
    split
    · rfl
    · rw [fnUp_ne _ _ _ (by decide), fnUp_ne _ _ _ (by decide), fnUp_ne _ _ _ (by decide)]
  refine fn_aload_0 hV dX10_layBest_57 ?_
  refine fn_getR hV dX10_layBest_58 fl_X10_24 fr_0_2 ?_
  refine fn_aload_0 hV dX10_layBest_61 ?_
  refine fn_getR hV dX10_layBest_62 fl_X10_31 fr_0_3 ?_
  refine fn_getIz hV 4 dX10_layBest_65 fl_X10_229 fi_23_4 rfl ?_
  refine fn_cV1Q hV (c_X6_slcQ E _ _ (by rw [e4]; omega)) mv_X6_setBallByCode lk_X10_238 dX10_layBest_68 sh_17 rfl ⟨rfl, rfl⟩ rfl (fun σ5 hp => ?_)
  have hC5 : zCR σ5 (U_layBest μ) := by rw [hp, e4, hf.2.1]; exact zCR_slc hC4
  have F5 : fnFr [17, 20, 21, 22, 23, 24, 25] σ σ5 := by
    rw [hp]
    split
    · exact F4
    · exact (F4.up (by decide)).up (by decide)
  have e5 : σ5 23 = σ1 23 := by
    rw [← e4, hp]
    split
    · rfl
    · rw [fnUp_ne _ _ _ (by decide), fnUp_ne _ _ _ (by decide)]
  refine fn_aload_0 hV dX10_layBest_71 ?_
  refine fn_getR hV dX10_layBest_72 fl_X10_31 fr_0_3 ?_
  refine fn_cV0 hV (c_X2_restInAll E _) mv_X2_restInAll lk_X10_220 dX10_layBest_75 sh_23 rfl ⟨rfl, rfl⟩ rfl ?_
  exact fn_iret hR dX10_layBest_78 (fnQI.mk ⟨by rw [e5]; exact hf.r, hC5, fun k hk => F5 k (by simp; omega)⟩)
