theorem fnUp_ap (σ : fnMem) (k : Nat) (i v j : Int) : fnUp σ k i v k j = if j = i then v else σ k j := by rw [fnUp_same]
theorem zeAt_congr {F G : Int → Int} (h : ∀ x, 0 ≤ x → x < 32 → F x = G x) {r : Int} (hr : 0 ≤ r ∧ r < 3200) : zeAt F r = zeAt G r := by
  unfold zeAt
  rw [h (r / 100) (by omega) (by omega), h ((r / 100 + 1) % 32) (by omega) (by omega)]
theorem ztru_congr {F G : Int → Int} (h : ∀ x, 0 ≤ x → x < 32 → F x = G x) {r : Int} (hr : 0 ≤ r ∧ r < 3200) : ztru F r = ztru G r := by
  unfold ztru
  rw [zeAt_congr h hr]
theorem ztru_in (F : Int → Int) (r : Int) : 0 ≤ ztru F r ∧ ztru F r < 3200 := by unfold ztru; omega
theorem zway_in (a b : Int) : -1600 ≤ zway a b ∧ zway a b ≤ 1599 := by unfold zway; omega
theorem zwa_in (a b : Int) : 0 ≤ zabs (zway a b) ∧ zabs (zway a b) ≤ 1600 := ⟨zabs_nn _, zabs_le (by have := zway_in a b; omega) (by have := zway_in a b; omega)⟩
def zsI (F : Int → Int) (t : Int) (k : Nat) (br bw : Int) : Prop := (k = 0 ∧ br = 0 ∧ bw = 3200) ∨ (0 < k ∧ br = zst F t (k - 1) ∧ bw = zabs (zway (ztru F br) t))
theorem zsI.a {F : Int → Int} {t i br bw : Int} {k : Nat} (hi : i = k) (h : zsI F t k br bw) (q : bw ≤ zabs (zway (ztru F i) t)) : zsI F t (k + 1) br bw := by
  rcases h with ⟨h1, h2, h3⟩ | ⟨h1, h2, h3⟩
  · have := zwa_in (ztru F i) t
    omega
  · obtain ⟨n, rfl⟩ : ∃ n, k = n + 1 := ⟨k - 1, by omega⟩
    rw [Nat.add_sub_cancel] at h2
    refine Or.inr ⟨by omega, ?_, h3⟩
    rw [Nat.add_sub_cancel, zst_s, if_neg]
    · exact h2
    · rw [← h2, ← h3, ← hi]; omega
theorem zsI.b {F : Int → Int} {t i br bw : Int} {k : Nat} (hi : i = k) (h : zsI F t k br bw) (q : zabs (zway (ztru F i) t) < bw) : zsI F t (k + 1) i (zabs (zway (ztru F i) t)) := by
  rcases h with ⟨h1, h2, h3⟩ | ⟨h1, h2, h3⟩
  · subst h1
    exact Or.inr ⟨by omega, by simpa [zst] using hi, rfl⟩
  · obtain ⟨n, rfl⟩ : ∃ n, k = n + 1 := ⟨k - 1, by omega⟩
    rw [Nat.add_sub_cancel] at h2
    refine Or.inr ⟨by omega, ?_, rfl⟩
    rw [Nat.add_sub_cancel, zst_s, if_pos]
    · exact hi
    · rw [← h2, ← h3, ← hi]; omega
theorem zsI.e {F : Int → Int} {t br bw : Int} {k n : Nat} (h : zsI F t k br bw) (hk : k = n + 1) : br = zst F t n := by
  subst hk
  rcases h with ⟨h1, -⟩ | ⟨-, h1, -⟩
  · omega
  · exact h1
theorem zst_congr {F G : Int → Int} (h : ∀ x, 0 ≤ x → x < 32 → F x = G x) (t : Int) : ∀ n : Nat, n < 3200 → zst F t n = zst G t n
  | 0, _ => rfl
  | n + 1, hn => by
    have hb := zst_in G t n
    rw [zst_s, zst_s, zst_congr h t n (by omega), ztru_congr h (r := ((n + 1 : Nat) : Int)) (by omega), ztru_congr h (r := zst G t n) (by omega)]
theorem z2f_congr {F G : Int → Int} (h : ∀ x, 0 ≤ x → x < 32 → F x = G x) : z2f F = z2f G := by
  unfold z2f
  refine zsum_congr 32 (fun x _ _ => ?_)
  rw [show zctT F x 3200 = zctT G x 3200 from zsum_congr 3200 (fun r r0 r1 => by rw [ztru_congr h (by omega)])]
theorem zCR_part {σ μ : fnMem} (h : zCR σ μ) {c : Nat} (hc : c < 3) {p v : Int} (hp : 0 ≤ p ∧ p ≤ 5) : zCR (fnUp σ (7 + c) p v) (fnUp μ 1 (6 * c + p) v) := by
  refine ⟨fun d hd k k0 k1 => ?_, zCRs_eq h.2.1 (fun k _ _ => fnUp_ne _ _ _ (by omega)) (fnUp_ne _ _ _ (by decide)), zCRm_eq h.2.2.1 (fun k _ _ => fnUp_ne _ _ _ (by omega)) (fun k _ _ => fnUp_ne _ _ _ (by omega)) (by rw [fnUp_ne _ _ _ (by decide)]) (by rw [fnUp_ne _ _ _ (by decide)]), zCRl_eq h.2.2.2.1 (fun k _ _ => fnUp_ne _ _ _ (by omega)) (fun k _ _ => fnUp_ne _ _ _ (by omega)), zCRe_eq h.2.2.2.2.1 (fun k _ _ => fnUp_ne _ _ _ (by omega)) (fun k _ _ => fnUp_ne _ _ _ (by omega)), zCRv_eq h.2.2.2.2.2 (fun k _ _ => fnUp_ne _ _ _ (by omega)) (by rw [fnUp_ne _ _ _ (by omega)]; exact h.2.2.2.2.2.2.2.2.2.2.2.2) (fun k _ _ => fnUp_ne _ _ _ (by omega)) (by rw [fnUp_ne _ _ _ (by decide)])⟩
  by_cases hq : d = c ∧ k = p
  · obtain ⟨rfl, rfl⟩ := hq
    rw [fnUp_at, fnUp_at]
  · rw [fnUp_ap μ, if_neg (by omega)]
    by_cases hdc : d = c
    · subst hdc
      rw [fnUp_off _ _ _ (by omega)]
      exact h.1 d hd k k0 k1
    · rw [fnUp_ne _ _ _ (by omega)]
      exact h.1 d hd k k0 k1
theorem zcnt_up {F : Int → Int} {x e : Int} (hx : 0 ≤ x ∧ x < 32) : zcnt (fun h => if h = x then e else F h) = zcnt F + ((if e ≠ -2009 then 1 else 0) - (if F x ≠ -2009 then 1 else 0)) := by
  unfold zcnt
  rw [zsum_one (F := fun h => if F h ≠ -2009 then 1 else 0) (k := x) 32 hx.1 (by omega) (fun l _ _ hl => by simp only [if_neg hl])]
  simp only [if_true]
theorem zCR_swing {σ μ : fnMem} (h : zCR σ μ) {c : Nat} (hc : c < 3) {x e : Int} (hx : 0 ≤ x ∧ x ≤ 31) : zCR (fnUp (fnUp σ (14 + c) x e) (11 + c) 1 (fnUp σ (14 + c) x e (11 + c) 1 + ((if e ≠ -2009 then 1 else 0) - (if σ (14 + c) x ≠ -2009 then 1 else 0)))) (fnUp μ 2 (32 * c + x) e) := by
  have e1 : ∀ k, k ≠ 14 + c → k ≠ 11 + c → fnUp (fnUp σ (14 + c) x e) (11 + c) 1 (fnUp σ (14 + c) x e (11 + c) 1 + ((if e ≠ -2009 then 1 else 0) - (if σ (14 + c) x ≠ -2009 then 1 else 0))) k = σ k := fun k k1 k2 => by rw [fnUp_ne _ _ _ k2, fnUp_ne _ _ _ k1]
  refine ⟨zCRp_eq h.1 (fun k _ _ => e1 k (by omega) (by omega)) (fnUp_ne _ _ _ (by decide)), ⟨fun d hd k k0 k1 => ?_, fun d hd => ?_⟩, zCRm_eq h.2.2.1 (fun k _ _ => e1 k (by omega) (by omega)) (fun k _ _ => fnUp_ne _ _ _ (by omega)) (by rw [fnUp_ne _ _ _ (by decide)]) (by rw [fnUp_ne _ _ _ (by decide)]), zCRl_eq h.2.2.2.1 (fun k _ _ => e1 k (by omega) (by omega)) (fun k _ _ => fnUp_ne _ _ _ (by omega)), zCRe_eq h.2.2.2.2.1 (fun k _ _ => e1 k (by omega) (by omega)) (fun k _ _ => fnUp_ne _ _ _ (by omega)), zCRv_eq h.2.2.2.2.2 (fun k _ _ => e1 k (by omega) (by omega)) (by rw [e1 47 (by omega) (by omega)]; exact h.2.2.2.2.2.2.2.2.2.2.2.2) (fun k _ _ => fnUp_ne _ _ _ (by omega)) (by rw [fnUp_ne _ _ _ (by decide)])⟩
  · rw [fnUp_ne _ _ _ (by omega)]
    by_cases hq : d = c ∧ k = x
    · obtain ⟨rfl, rfl⟩ := hq
      rw [fnUp_at, fnUp_at]
    · rw [fnUp_ap μ, if_neg (by omega)]
      by_cases hdc : d = c
      · subst hdc
        rw [fnUp_off _ _ _ (by omega)]
        exact h.2.1.1 d hd k k0 k1
      · rw [fnUp_ne _ _ _ (by omega)]
        exact h.2.1.1 d hd k k0 k1
  · by_cases hdc : d = c
    · subst hdc
      have e2 : (fun q => vS (fnUp μ 2 (32 * d + x) e) d q) = fun q => if q = x then e else vS μ d q := by
        funext q
        unfold vS
        rw [fnUp_ap]
        by_cases hq : q = x
        · rw [if_pos hq, hq, if_pos rfl]
        · rw [if_neg hq, if_neg (by omega)]
      rw [fnUp_at, fnUp_ne _ _ _ (by omega), h.2.1.2 d hd, show vS (fnUp μ 2 (32 * (d : Int) + x) e) d = fun q => if q = x then e else vS μ d q from e2, zcnt_up (by omega), h.2.1.1 d hd x hx.1 (by omega)]
      rfl
    · rw [fnUp_ne _ _ _ (by omega), fnUp_ne _ _ _ (by omega), h.2.1.2 d hd]
      have e3 : ∀ q : Int, 0 ≤ q → q < (32 : Nat) → (if vS μ d q ≠ -2009 then (1 : Int) else 0) = if vS (fnUp μ 2 (32 * c + x) e) d q ≠ -2009 then 1 else 0 := fun q q0 q1 => by
        unfold vS
        rw [fnUp_off _ _ _ (show 32 * (d : Int) + q ≠ 32 * (c : Int) + x by omega)]
      exact zsum_congr 32 e3

set_option maxHeartbeats 4000000 in
set_option maxRecDepth 20000 in
theorem c_X10_sine (E : fnE) (σ μ : fnMem) (hC : zCR σ μ) (hW : zWF μ) (r : Int) (h_r : fnR r) (co : Int) (h_co : co = 0 ∨ co = 1) : fnOk E mX10_sine [.ref 0, zI r, zI co] σ (fnQI (zXP (S_sine r co) (μ) σ)) := by
  refine fnOk.of [.ref 0, zI r, zI co] rfl (by decide +kernel) rfl (fun V hV hR => ?_)
  replace hV : fnCx E RX10 cX10_sine 3 4 91 V := hV
  replace hR : fnRt cX10_sine (some .int) _ V := hR
  refine fn_iload_1 hV dX10_sine_0 ?_
  refine fn_cS1 hV (c_X10_isReading E _ _ (by omega)) ms_X10_isReading lk_X10_83 dX10_sine_1 ⟨rfl, rfl⟩ rfl ?_
  refine fn_ifneb hV dX10_sine_4 (fun q4 => ?_) (fun q4 => ?_)
  · refine fn_iload_2 hV dX10_sine_11 ?_
    refine fn_if_eq hV (by omega) dX10_sine_12 (fun q12 => ?_) (fun q12 => ?_)
    · refine fn_iload_1 hV dX10_sine_22 ?_
      refine fn_cS1 hV (c_X8_sineAt E _ _ (by omega)) ms_X8_sineAt lk_X10_93 dX10_sine_23 ⟨rfl, rfl⟩ rfl ?_
      exact fn_iret hR dX10_sine_26 (zXP.rf hC (by unfold S_sine; (repeat' split) <;> first | rfl | omega))
    · refine fn_iload_1 hV dX10_sine_15 ?_
      refine fn_cS1 hV (c_X8_cosineAt E _ _ (by omega)) ms_X8_cosineAt lk_X10_87 dX10_sine_16 ⟨rfl, rfl⟩ rfl ?_
      refine fn_goto hV dX10_sine_19 ?_
      exact fn_iret hR dX10_sine_26 (zXP.rf hC (by unfold S_sine; (repeat' split) <;> first | rfl | omega))
  · refine fn_sipush hV dX10_sine_7 rfl ?_
    exact fn_iret hR dX10_sine_10 (zXP.rf hC (by unfold S_sine; (repeat' split) <;> first | rfl | omega))

set_option maxHeartbeats 4000000 in
set_option maxRecDepth 20000 in
theorem c_X10_way (E : fnE) (σ μ : fnMem) (hC : zCR σ μ) (hW : zWF μ) (a : Int) (h_a : fnR a) (b : Int) (h_b : fnR b) : fnOk E mX10_way [.ref 0, zI a, zI b] σ (fnQI (zXP (S_way a b) (μ) σ)) := by
  refine fnOk.of [.ref 0, zI a, zI b] rfl (by decide +kernel) rfl (fun V hV hR => ?_)
  replace hV : fnCx E RX10 cX10_way 3 2 43 V := hV
  replace hR : fnRt cX10_way (some .int) _ V := hR
  refine fn_iload_1 hV dX10_way_0 ?_
  refine fn_cS1 hV (c_X10_isReading E _ _ (by omega)) ms_X10_isReading lk_X10_83 dX10_way_1 ⟨rfl, rfl⟩ rfl ?_
  refine fn_ifeqb hV dX10_way_4 (fun q4 => ?_) (fun q4 => ?_)
  · refine fn_sipush hV dX10_way_14 rfl ?_
    exact fn_iret hR dX10_way_17 (zXP.rf hC (by unfold S_way; (repeat' split) <;> first | rfl | omega))
  · refine fn_iload_2 hV dX10_way_7 ?_
    refine fn_cS1 hV (c_X10_isReading E _ _ (by omega)) ms_X10_isReading lk_X10_83 dX10_way_8 ⟨rfl, rfl⟩ rfl ?_
    refine fn_ifneb hV dX10_way_11 (fun q11 => ?_) (fun q11 => ?_)
    · refine fn_iload_1 hV dX10_way_18 ?_
      refine fn_iload_2 hV dX10_way_19 ?_
      refine fn_cS2 hV (c_X8_wayFrom E _ _ _ (by omega) (by omega)) ms_X8_wayFrom lk_X10_96 dX10_way_20 ⟨rfl, rfl⟩ rfl ?_
      exact fn_iret hR dX10_way_23 (zXP.rf hC (by unfold S_way; (repeat' split) <;> first | rfl | omega))
    · refine fn_sipush hV dX10_way_14 rfl ?_
      exact fn_iret hR dX10_way_17 (zXP.rf hC (by unfold S_way; (repeat' split) <;> first | rfl | omega))

set_option maxHeartbeats 4000000 in
set_option maxRecDepth 20000 in
theorem c_X10_part (E : fnE) (σ μ : fnMem) (hC : zCR σ μ) (hW : zWF μ) (c0 : Int) (h_c0 : fnR c0) (p : Int) (h_p : fnR p) (v : Int) (h_v : fnR v) : fnOk E mX10_part [.ref 0, zI c0, zI p, zI v] σ (fnQI (zXP (S_part μ c0 p v) (U_part μ c0 p v) σ)) := by
  refine fnOk.of [.ref 0, zI c0, zI p, zI v, .null] rfl (by decide +kernel) rfl (fun V hV hR => ?_)
  replace hV : fnCx E RX10 cX10_part 5 2 42 V := hV
  replace hR : fnRt cX10_part (some .int) _ V := hR
  refine fn_iload_1 hV dX10_part_0 ?_
  refine fn_cS1 hV (c_X10_isCompass E _ _ (by omega)) ms_X10_isCompass lk_X10_100 dX10_part_1 ⟨rfl, rfl⟩ rfl ?_
  refine fn_ifeqb hV dX10_part_4 (fun q4 => ?_) (fun q4 => ?_)
  · refine fn_sipush hV dX10_part_14 rfl ?_
    exact fn_iret hR dX10_part_17 (zXP.rfU hC (by unfold S_part; (repeat' split) <;> first | rfl | omega) (by unfold U_part; exact if_neg (by omega)))
  · refine fn_iload_2 hV dX10_part_7 ?_
    refine fn_cS1 hV (c_X10_isPart E _ _ (by omega)) ms_X10_isPart lk_X10_103 dX10_part_8 ⟨rfl, rfl⟩ rfl ?_
    refine fn_ifneb hV dX10_part_11 (fun q11 => ?_) (fun q11 => ?_)
    · refine fn_iload_3 hV dX10_part_18 ?_
      refine fn_sipush hV dX10_part_19 rfl ?_
      refine fn_sipush hV dX10_part_22 rfl ?_
      refine fn_cS3 hV (c_X10_within E _ _ _ _ (by omega) (by omega) (by omega)) ms_X10_within lk_X10_106 dX10_part_25 ⟨rfl, rfl⟩ rfl ?_
      refine fn_ifneb hV dX10_part_28 (fun q28 => ?_) (fun q28 => ?_)
      · obtain ⟨c, hc, rfl⟩ := fn_nat3 q4
        refine fn_aload_0 hV dX10_part_35 ?_
        refine fn_getR hV dX10_part_36 fl_X10_11 fr_0_0 ?_
        refine fn_iload_1 hV dX10_part_39 ?_
        refine fn_aaldC hV c dX10_part_40 (by omega) rfl ?_
        refine fn_getR hV dX10_part_41 fl_X10_110 (fr_card (by omega)) ?_
        refine fn_iload_2 hV dX10_part_44 ?_
        refine fn_iald hV dX10_part_45 (ar_cp (by omega)) (by omega) (by omega) ?_
        refine fn_istore_4 hV dX10_part_46 rfl rfl ?_
        refine fn_aload_0 hV dX10_part_48 ?_
        refine fn_getR hV dX10_part_49 fl_X10_11 fr_0_0 ?_
        refine fn_iload_1 hV dX10_part_52 ?_
        refine fn_aaldC hV c dX10_part_53 (by omega) rfl ?_
        refine fn_getR hV dX10_part_54 fl_X10_110 (fr_card (by omega)) ?_
        refine fn_iload_2 hV dX10_part_57 ?_
        refine fn_iload_3 hV dX10_part_58 ?_
        refine fn_iast hV dX10_part_59 (ar_cp (by omega)) (by omega) (by omega) ?_
        refine fn_iload_4 hV dX10_part_60 ?_
        exact fn_iret hR dX10_part_62 (fnQI.mk ⟨by unfold S_part; rw [if_neg (by omega), if_neg (by omega)]; exact hC.1 c hc p (by omega) (by omega), by rw [show U_part μ c p v = fnUp μ 1 (6 * (c : Int) + p) v from by unfold U_part; exact if_pos (by omega)]; exact zCR_part hC hc (by omega), fun k hk => fnUp_ne _ _ _ (by omega)⟩)
      · refine fn_sipush hV dX10_part_31 rfl ?_
        exact fn_iret hR dX10_part_34 (zXP.rfU hC (by unfold S_part; (repeat' split) <;> first | rfl | omega) (by unfold U_part; exact if_neg (by omega)))
    · refine fn_sipush hV dX10_part_14 rfl ?_
      exact fn_iret hR dX10_part_17 (zXP.rfU hC (by unfold S_part; (repeat' split) <;> first | rfl | omega) (by unfold U_part; exact if_neg (by omega)))

set_option maxHeartbeats 4000000 in
set_option maxRecDepth 20000 in
theorem c_X10_told (E : fnE) (σ μ : fnMem) (hC : zCR σ μ) (hW : zWF μ) (c0 : Int) (h_c0 : fnR c0) (p : Int) (h_p : fnR p) : fnOk E mX10_told [.ref 0, zI c0, zI p] σ (fnQI (zXP (S_told μ c0 p) (μ) σ)) := by
  refine fnOk.of [.ref 0, zI c0, zI p] rfl (by decide +kernel) rfl (fun V hV hR => ?_)
  replace hV : fnCx E RX10 cX10_told 3 2 42 V := hV
  replace hR : fnRt cX10_told (some .int) _ V := hR
  refine fn_iload_1 hV dX10_told_0 ?_
  refine fn_cS1 hV (c_X10_isCompass E _ _ (by omega)) ms_X10_isCompass lk_X10_100 dX10_told_1 ⟨rfl, rfl⟩ rfl ?_
  refine fn_ifeqb hV dX10_told_4 (fun q4 => ?_) (fun q4 => ?_)
  · refine fn_sipush hV dX10_told_14 rfl ?_
    exact fn_iret hR dX10_told_17 (zXP.rf hC (by unfold S_told; (repeat' split) <;> first | rfl | omega))
  · refine fn_iload_2 hV dX10_told_7 ?_
    refine fn_cS1 hV (c_X10_isPart E _ _ (by omega)) ms_X10_isPart lk_X10_103 dX10_told_8 ⟨rfl, rfl⟩ rfl ?_
    refine fn_ifneb hV dX10_told_11 (fun q11 => ?_) (fun q11 => ?_)
    · obtain ⟨c, hc, rfl⟩ := fn_nat3 q4
      refine fn_aload_0 hV dX10_told_18 ?_
      refine fn_getR hV dX10_told_19 fl_X10_11 fr_0_0 ?_
      refine fn_iload_1 hV dX10_told_22 ?_
      refine fn_aaldC hV c dX10_told_23 (by omega) rfl ?_
      refine fn_getR hV dX10_told_24 fl_X10_110 (fr_card (by omega)) ?_
      refine fn_iload_2 hV dX10_told_27 ?_
      refine fn_iald hV dX10_told_28 (ar_cp (by omega)) (by omega) (by omega) ?_
      exact fn_iret hR dX10_told_29 (zXP.rf hC (by unfold S_told; rw [if_pos (by omega)]; exact hC.1 c hc p (by omega) (by omega)))
    · refine fn_sipush hV dX10_told_14 rfl ?_
      exact fn_iret hR dX10_told_17 (zXP.rf hC (by unfold S_told; (repeat' split) <;> first | rfl | omega))

set_option maxHeartbeats 4000000 in
set_option maxRecDepth 20000 in
theorem c_X10_error (E : fnE) (σ μ : fnMem) (hC : zCR σ μ) (hW : zWF μ) (c0 : Int) (h_c0 : fnR c0) (h : Int) (h_h : fnR h) (g : Int) (h_g : fnR g) : fnOk E mX10_error [.ref 0, zI c0, zI h, zI g] σ (fnQI (zXP (S_error μ c0 h g) (μ) σ)) := by
  refine fnOk.of [.ref 0, zI c0, zI h, zI g] rfl (by decide +kernel) rfl (fun V hV hR => ?_)
  replace hV : fnCx E RX10 cX10_error 4 3 73 V := hV
  replace hR : fnRt cX10_error (some .int) _ V := hR
  refine fn_iload_1 hV dX10_error_0 ?_
  refine fn_cS1 hV (c_X10_isCompass E _ _ (by omega)) ms_X10_isCompass lk_X10_100 dX10_error_1 ⟨rfl, rfl⟩ rfl ?_
  refine fn_ifeqb hV dX10_error_4 (fun q4 => ?_) (fun q4 => ?_)
  · refine fn_sipush hV dX10_error_14 rfl ?_
    exact fn_iret hR dX10_error_17 (zXP.rf hC (by unfold S_error; (repeat' split) <;> first | rfl | omega))
  · refine fn_iload_2 hV dX10_error_7 ?_
    refine fn_cS1 hV (c_X10_isHeading E _ _ (by omega)) ms_X10_isHeading lk_X10_113 dX10_error_8 ⟨rfl, rfl⟩ rfl ?_
    refine fn_ifneb hV dX10_error_11 (fun q11 => ?_) (fun q11 => ?_)
    · refine fn_iload_3 hV dX10_error_18 ?_
      refine fn_cS1 hV (c_X10_isHeel E _ _ (by omega)) ms_X10_isHeel lk_X10_116 dX10_error_19 ⟨rfl, rfl⟩ rfl ?_
      refine fn_ifneb hV dX10_error_22 (fun q22 => ?_) (fun q22 => ?_)
      · obtain ⟨c, hc, rfl⟩ := fn_nat3 q4
        have hP := hC.hP hW hc
        refine fn_aload_0 hV dX10_error_29 ?_
        refine fn_getR hV dX10_error_30 fl_X10_11 fr_0_0 ?_
        refine fn_iload_1 hV dX10_error_33 ?_
        refine fn_aaldC hV c dX10_error_34 (by omega) rfl ?_
        refine fn_iload_2 hV dX10_error_35 ?_
        refine fn_iload_3 hV dX10_error_36 ?_
        refine fn_cV2 hV (c_X0_errorOn E _ c (by omega) hP _ _ (by omega)) mv_X0_errorOn lk_X10_119 dX10_error_37 (sh_card (by omega)) rfl ⟨rfl, rfl⟩ rfl ?_
        exact fn_iret hR dX10_error_40 (zXP.rf hC (by unfold S_error; rw [if_neg (by omega), if_neg (by omega)]; exact hC.er hc h g))
      · refine fn_sipush hV dX10_error_25 rfl ?_
        exact fn_iret hR dX10_error_28 (zXP.rf hC (by unfold S_error; (repeat' split) <;> first | rfl | omega))
    · refine fn_sipush hV dX10_error_14 rfl ?_
      exact fn_iret hR dX10_error_17 (zXP.rf hC (by unfold S_error; (repeat' split) <;> first | rfl | omega))

set_option maxHeartbeats 4000000 in
set_option maxRecDepth 20000 in
theorem c_X10_errorAt (E : fnE) (σ μ : fnMem) (hC : zCR σ μ) (hW : zWF μ) (c0 : Int) (h_c0 : fnR c0) (r : Int) (h_r : fnR r) (g : Int) (h_g : fnR g) : fnOk E mX10_errorAt [.ref 0, zI c0, zI r, zI g] σ (fnQI (zXP (S_errorAt μ c0 r g) (μ) σ)) := by
  refine fnOk.of [.ref 0, zI c0, zI r, zI g] rfl (by decide +kernel) rfl (fun V hV hR => ?_)
  replace hV : fnCx E RX10 cX10_errorAt 4 4 96 V := hV
  replace hR : fnRt cX10_errorAt (some .int) _ V := hR
  refine fn_iload_1 hV dX10_errorAt_0 ?_
  refine fn_cS1 hV (c_X10_isCompass E _ _ (by omega)) ms_X10_isCompass lk_X10_100 dX10_errorAt_1 ⟨rfl, rfl⟩ rfl ?_
  refine fn_ifneb hV dX10_errorAt_4 (fun q4 => ?_) (fun q4 => ?_)
  · refine fn_iload_2 hV dX10_errorAt_11 ?_
    refine fn_cS1 hV (c_X10_isReading E _ _ (by omega)) ms_X10_isReading lk_X10_83 dX10_errorAt_12 ⟨rfl, rfl⟩ rfl ?_
    refine fn_ifeqb hV dX10_errorAt_15 (fun q15 => ?_) (fun q15 => ?_)
    · refine fn_sipush hV dX10_errorAt_25 rfl ?_
      exact fn_iret hR dX10_errorAt_28 (zXP.rf hC (by unfold S_errorAt; (repeat' split) <;> first | rfl | omega))
    · refine fn_iload_3 hV dX10_errorAt_18 ?_
      refine fn_cS1 hV (c_X10_isHeel E _ _ (by omega)) ms_X10_isHeel lk_X10_116 dX10_errorAt_19 ⟨rfl, rfl⟩ rfl ?_
      refine fn_ifneb hV dX10_errorAt_22 (fun q22 => ?_) (fun q22 => ?_)
      · obtain ⟨c, hc, rfl⟩ := fn_nat3 q4
        have hP := hC.hP hW hc
        refine fn_aload_0 hV dX10_errorAt_29 ?_
        refine fn_getR hV dX10_errorAt_30 fl_X10_11 fr_0_0 ?_
        refine fn_iload_1 hV dX10_errorAt_33 ?_
        refine fn_aaldC hV c dX10_errorAt_34 (by omega) rfl ?_
        refine fn_iload_2 hV dX10_errorAt_35 ?_
        refine fn_iload_3 hV dX10_errorAt_36 ?_
        refine fn_cV2 hV (c_X0_errorOfReading E _ c (by omega) hP _ _ (by omega) (by omega)) mv_X0_errorOfReading lk_X10_122 dX10_errorAt_37 (sh_card (by omega)) rfl ⟨rfl, rfl⟩ rfl ?_
        exact fn_iret hR dX10_errorAt_40 (zXP.rf hC (by unfold S_errorAt; rw [if_neg (by omega), if_neg (by omega), hC.erf hc]))
      · refine fn_sipush hV dX10_errorAt_25 rfl ?_
        exact fn_iret hR dX10_errorAt_28 (zXP.rf hC (by unfold S_errorAt; (repeat' split) <;> first | rfl | omega))
  · refine fn_sipush hV dX10_errorAt_7 rfl ?_
    exact fn_iret hR dX10_errorAt_10 (zXP.rf hC (by unfold S_errorAt; (repeat' split) <;> first | rfl | omega))

set_option maxHeartbeats 4000000 in
set_option maxRecDepth 20000 in
theorem c_X10_trueOf (E : fnE) (σ μ : fnMem) (hC : zCR σ μ) (hW : zWF μ) (c0 : Int) (h_c0 : fnR c0) (r : Int) (h_r : fnR r) (g : Int) (h_g : fnR g) : fnOk E mX10_trueOf [.ref 0, zI c0, zI r, zI g] σ (fnQI (zXP (S_trueOf μ c0 r g) (μ) σ)) := by
  refine fnOk.of [.ref 0, zI c0, zI r, zI g] rfl (by decide +kernel) rfl (fun V hV hR => ?_)
  replace hV : fnCx E RX10 cX10_trueOf 4 5 118 V := hV
  replace hR : fnRt cX10_trueOf (some .int) _ V := hR
  refine fn_iload_1 hV dX10_trueOf_0 ?_
  refine fn_cS1 hV (c_X10_isCompass E _ _ (by omega)) ms_X10_isCompass lk_X10_100 dX10_trueOf_1 ⟨rfl, rfl⟩ rfl ?_
  refine fn_ifneb hV dX10_trueOf_4 (fun q4 => ?_) (fun q4 => ?_)
  · refine fn_iload_2 hV dX10_trueOf_11 ?_
    refine fn_cS1 hV (c_X10_isReading E _ _ (by omega)) ms_X10_isReading lk_X10_83 dX10_trueOf_12 ⟨rfl, rfl⟩ rfl ?_
    refine fn_ifeqb hV dX10_trueOf_15 (fun q15 => ?_) (fun q15 => ?_)
    · refine fn_sipush hV dX10_trueOf_25 rfl ?_
      exact fn_iret hR dX10_trueOf_28 (zXP.rf hC (by unfold S_trueOf; (repeat' split) <;> first | rfl | omega))
    · refine fn_iload_3 hV dX10_trueOf_18 ?_
      refine fn_cS1 hV (c_X10_isHeel E _ _ (by omega)) ms_X10_isHeel lk_X10_116 dX10_trueOf_19 ⟨rfl, rfl⟩ rfl ?_
      refine fn_ifneb hV dX10_trueOf_22 (fun q22 => ?_) (fun q22 => ?_)
      · obtain ⟨c, hc, rfl⟩ := fn_nat3 q4
        have hP := hC.hP hW hc
        refine fn_aload_0 hV dX10_trueOf_29 ?_
        refine fn_getR hV dX10_trueOf_30 fl_X10_11 fr_0_0 ?_
        refine fn_iload_1 hV dX10_trueOf_33 ?_
        refine fn_aaldC hV c dX10_trueOf_34 (by omega) rfl ?_
        refine fn_iload_2 hV dX10_trueOf_35 ?_
        refine fn_iload_3 hV dX10_trueOf_36 ?_
        refine fn_cV2 hV (c_X0_trueOfReading E _ c (by omega) hP _ _ (by omega) (by omega)) mv_X0_trueOfReading lk_X10_125 dX10_trueOf_37 (sh_card (by omega)) rfl ⟨rfl, rfl⟩ rfl ?_
        exact fn_iret hR dX10_trueOf_40 (zXP.rf hC (by unfold S_trueOf; rw [if_neg (by omega), if_neg (by omega), hC.erf hc]))
      · refine fn_sipush hV dX10_trueOf_25 rfl ?_
        exact fn_iret hR dX10_trueOf_28 (zXP.rf hC (by unfold S_trueOf; (repeat' split) <;> first | rfl | omega))
  · refine fn_sipush hV dX10_trueOf_7 rfl ?_
    exact fn_iret hR dX10_trueOf_10 (zXP.rf hC (by unfold S_trueOf; (repeat' split) <;> first | rfl | omega))

set_option maxHeartbeats 4000000 in
set_option maxRecDepth 20000 in
theorem c_X10_steer (E : fnE) (σ μ : fnMem) (hC : zCR σ μ) (hW : zWF μ) (c0 : Int) (h_c0 : fnR c0) (t : Int) (h_t : fnR t) (g : Int) (h_g : fnR g) : fnOk E mX10_steer [.ref 0, zI c0, zI t, zI g] σ (fnQI (zXP (S_steer μ c0 t g) (μ) σ)) := by
  refine fnOk.of [.ref 0, zI c0, zI t, zI g, .null, .null, .null, .null] rfl (by decide +kernel) rfl (fun V hV hR => ?_)
  replace hV : fnCx E RX10 cX10_steer 8 4 96 V := hV
  replace hR : fnRt cX10_steer (some .int) _ V := hR
  refine fn_iload_1 hV dX10_steer_0 ?_
  refine fn_cS1 hV (c_X10_isCompass E _ _ (by omega)) ms_X10_isCompass lk_X10_100 dX10_steer_1 ⟨rfl, rfl⟩ rfl ?_
  refine fn_ifneb hV dX10_steer_4 (fun q4 => ?_) (fun q4 => ?_)
  · refine fn_iload_2 hV dX10_steer_11 ?_
    refine fn_cS1 hV (c_X10_isReading E _ _ (by omega)) ms_X10_isReading lk_X10_83 dX10_steer_12 ⟨rfl, rfl⟩ rfl ?_
    refine fn_ifeqb hV dX10_steer_15 (fun q15 => ?_) (fun q15 => ?_)
    · refine fn_sipush hV dX10_steer_25 rfl ?_
      exact fn_iret hR dX10_steer_28 (zXP.rf hC (by unfold S_steer; (repeat' split) <;> first | rfl | omega))
    · refine fn_iload_3 hV dX10_steer_18 ?_
      refine fn_cS1 hV (c_X10_isHeel E _ _ (by omega)) ms_X10_isHeel lk_X10_116 dX10_steer_19 ⟨rfl, rfl⟩ rfl ?_
      refine fn_ifneb hV dX10_steer_22 (fun q22 => ?_) (fun q22 => ?_)
      · obtain ⟨c, hc, rfl⟩ := fn_nat3 q4
        have hP := hC.hP hW hc
        refine fn_aload_0 hV dX10_steer_29 ?_
        refine fn_getR hV dX10_steer_30 fl_X10_11 fr_0_0 ?_
        refine fn_iload_1 hV dX10_steer_33 ?_
        refine fn_aaldC hV c dX10_steer_34 (by omega) rfl ?_
        refine fn_aload_0 hV dX10_steer_35 ?_
        refine fn_getR hV dX10_steer_36 fl_X10_75 fr_0_10 ?_
        refine fn_iload_3 hV dX10_steer_39 ?_
        refine fn_cV2Q hV (c_X0_draw E _ c (by omega) hP _ (by omega)) mv_X0_draw lk_X10_128 dX10_steer_40 (sh_card (by omega)) rfl ⟨rfl, rfl⟩ rfl (fun σ1 hp => ?_)
        obtain ⟨dF, dv⟩ := hp
        have hd : ∀ h, 0 ≤ h → h < 32 → -1200000 ≤ σ1 49 h ∧ σ1 49 h ≤ 1200000 := fun h h0 h1 => by rw [dv h h0 h1]; exact zer_le hP h _ (by omega)
        refine fn_iconst hV dX10_steer_43 ?_
        refine fn_istore_4 hV dX10_steer_44 rfl rfl ?_
        refine fn_sipush hV dX10_steer_46 rfl ?_
        refine fn_istore_5 hV dX10_steer_49 rfl rfl ?_
        refine fn_iconst hV dX10_steer_51 ?_
        refine fn_istore_6 hV dX10_steer_52 rfl rfl ?_
        have L : ∀ k : Nat, k ≤ 3200 → ∀ (i br bw : Int), True → (i = k) → (zsI (σ1 49) t k br bw) → (0 ≤ bw ∧ bw ≤ 3200) → V 54 [.ref 0, zI c, zI t, zI g, zI br, zI bw, zI i, .null] [] σ1 := by
          refine fn_rec (fun k hk ihL => ?_)
          intro i br bw _ hi hs hb
          refine fn_iload_6 hV dX10_steer_54 ?_
          refine fn_sipush hV dX10_steer_56 rfl ?_
          refine fn_icmp_ge hV (by omega) (by omega) dX10_steer_59 (fun q59 => ?_) (fun q59 => ?_)
          · refine fn_iload_4 hV dX10_steer_98 ?_
            exact fn_iret hR dX10_steer_100 (zXP.fr hC (dF.mono (by decide)) (by unfold S_steer; rw [if_neg (by omega), if_neg (by omega), hs.e (n := 3199) (by omega)]; exact zst_congr (fun x x0 x1 => by rw [dv x x0 x1]; exact hC.er hc x g) t 3199 (by omega)))
          · have w1 := zwa_in (ztru (σ1 49) i) t
            have w2 := zway_in (ztru (σ1 49) i) t
            have w3 := ztru_in (σ1 49) i
            refine fn_aload_0 hV dX10_steer_62 ?_
            refine fn_iload_6 hV dX10_steer_63 ?_
            refine fn_cV1 hV (c_X10_drawnTrue E _ _ (by omega) hd) mv_X10_drawnTrue lk_X10_132 dX10_steer_65 sh_0 rfl ⟨rfl, rfl⟩ rfl ?_
            refine fn_iload_2 hV dX10_steer_68 ?_
            refine fn_cS2 hV (c_X8_wayFrom E _ _ _ (by omega) (by omega)) ms_X8_wayFrom lk_X10_96 dX10_steer_69 ⟨rfl, rfl⟩ rfl ?_
            refine fn_cS1 hV (c_J9_abs_0f7a4 E _ _ (by omega)) ms_J9_abs_0f7a4 lk_X10_135 dX10_steer_72 ⟨rfl, rfl⟩ rfl ?_
            refine fn_istore_7 hV dX10_steer_75 rfl rfl ?_
            refine fn_iload_7 hV dX10_steer_77 ?_
            refine fn_iload_5 hV dX10_steer_79 ?_
            refine fn_icmp_ge hV (by omega) (by omega) dX10_steer_81 (fun q81 => ?_) (fun q81 => ?_)
            · refine fn_iinc_6 hV dX10_steer_92 rfl rfl ?_
              refine fn_goto hV dX10_steer_95 ?_
              refine fn_nul_7 hV ?_
              exact ihL (k + 1) (by omega) (by omega) _ _ _ trivial (by omega) (hs.a hi q81) (by omega)
            · refine fn_iload_7 hV dX10_steer_84 ?_
              refine fn_istore_5 hV dX10_steer_86 rfl rfl ?_
              refine fn_iload_6 hV dX10_steer_88 ?_
              refine fn_istore_4 hV dX10_steer_90 rfl rfl ?_
              refine fn_iinc_6 hV dX10_steer_92 rfl rfl ?_
              refine fn_goto hV dX10_steer_95 ?_
              refine fn_nul_7 hV ?_
              exact ihL (k + 1) (by omega) (by omega) _ _ _ trivial (by omega) (hs.b hi q81) (by omega)
        exact L 0 (by omega) _ _ _ trivial (by omega) (Or.inl ⟨rfl, rfl, rfl⟩) (by omega)
      · refine fn_sipush hV dX10_steer_25 rfl ?_
        exact fn_iret hR dX10_steer_28 (zXP.rf hC (by unfold S_steer; (repeat' split) <;> first | rfl | omega))
  · refine fn_sipush hV dX10_steer_7 rfl ?_
    exact fn_iret hR dX10_steer_10 (zXP.rf hC (by unfold S_steer; (repeat' split) <;> first | rfl | omega))

set_option maxHeartbeats 4000000 in
set_option maxRecDepth 20000 in
theorem c_X10_worst (E : fnE) (σ μ : fnMem) (hC : zCR σ μ) (hW : zWF μ) (c0 : Int) (h_c0 : fnR c0) : fnOk E mX10_worst [.ref 0, zI c0] σ (fnQI (zXP (S_worst μ c0) (μ) σ)) := by
  refine fnOk.of [.ref 0, zI c0] rfl (by decide +kernel) rfl (fun V hV hR => ?_)
  replace hV : fnCx E RX10 cX10_worst 2 4 97 V := hV
  replace hR : fnRt cX10_worst (some .int) _ V := hR
  refine fn_iload_1 hV dX10_worst_0 ?_
  refine fn_cS1 hV (c_X10_isCompass E _ _ (by omega)) ms_X10_isCompass lk_X10_100 dX10_worst_1 ⟨rfl, rfl⟩ rfl ?_
  refine fn_ifneb hV dX10_worst_4 (fun q4 => ?_) (fun q4 => ?_)
  · obtain ⟨c, hc, rfl⟩ := fn_nat3 q4
    have hP := hC.hP hW hc
    have b1 := zer_le hP (zwst (fun h => zer (σ (7 + c)) h 0) 31) 0 (by omega)
    refine fn_aload_0 hV dX10_worst_11 ?_
    refine fn_getR hV dX10_worst_12 fl_X10_11 fr_0_0 ?_
    refine fn_iload_1 hV dX10_worst_15 ?_
    refine fn_aaldC hV c dX10_worst_16 (by omega) rfl ?_
    refine fn_aload_0 hV dX10_worst_17 ?_
    refine fn_getR hV dX10_worst_18 fl_X10_11 fr_0_0 ?_
    refine fn_iload_1 hV dX10_worst_21 ?_
    refine fn_aaldC hV c dX10_worst_22 (by omega) rfl ?_
    refine fn_cV0 hV (c_X0_worstHeading E _ c (by omega) hP) mv_X0_worstHeading lk_X10_140 dX10_worst_23 (sh_card (by omega)) rfl ⟨rfl, rfl⟩ rfl ?_
    refine fn_iconst hV dX10_worst_26 ?_
    refine fn_cV2 hV (c_X0_errorOn E _ c (by omega) hP _ _ (by omega)) mv_X0_errorOn lk_X10_119 dX10_worst_27 (sh_card (by omega)) rfl ⟨rfl, rfl⟩ rfl ?_
    refine fn_cS1 hV (c_J9_abs_0f7a4 E _ _ (by omega)) ms_J9_abs_0f7a4 lk_X10_135 dX10_worst_30 ⟨rfl, rfl⟩ rfl ?_
    exact fn_iret hR dX10_worst_33 (zXP.rf hC (by unfold S_worst; rw [if_neg (by omega), hC.erf hc, hC.er hc]))
  · refine fn_sipush hV dX10_worst_7 rfl ?_
    exact fn_iret hR dX10_worst_10 (zXP.rf hC (by unfold S_worst; (repeat' split) <;> first | rfl | omega))

set_option maxHeartbeats 4000000 in
set_option maxRecDepth 20000 in
theorem c_X10_worstAt (E : fnE) (σ μ : fnMem) (hC : zCR σ μ) (hW : zWF μ) (c0 : Int) (h_c0 : fnR c0) : fnOk E mX10_worstAt [.ref 0, zI c0] σ (fnQI (zXP (S_worstAt μ c0) (μ) σ)) := by
  refine fnOk.of [.ref 0, zI c0] rfl (by decide +kernel) rfl (fun V hV hR => ?_)
  replace hV : fnCx E RX10 cX10_worstAt 2 4 97 V := hV
  replace hR : fnRt cX10_worstAt (some .int) _ V := hR
  refine fn_iload_1 hV dX10_worstAt_0 ?_
  refine fn_cS1 hV (c_X10_isCompass E _ _ (by omega)) ms_X10_isCompass lk_X10_100 dX10_worstAt_1 ⟨rfl, rfl⟩ rfl ?_
  refine fn_ifneb hV dX10_worstAt_4 (fun q4 => ?_) (fun q4 => ?_)
  · obtain ⟨c, hc, rfl⟩ := fn_nat3 q4
    have hP := hC.hP hW hc
    refine fn_aload_0 hV dX10_worstAt_11 ?_
    refine fn_getR hV dX10_worstAt_12 fl_X10_11 fr_0_0 ?_
    refine fn_iload_1 hV dX10_worstAt_15 ?_
    refine fn_aaldC hV c dX10_worstAt_16 (by omega) rfl ?_
    refine fn_cV0 hV (c_X0_worstHeading E _ c (by omega) hP) mv_X0_worstHeading lk_X10_140 dX10_worstAt_17 (sh_card (by omega)) rfl ⟨rfl, rfl⟩ rfl ?_
    exact fn_iret hR dX10_worstAt_20 (zXP.rf hC (by unfold S_worstAt; rw [if_neg (by omega), hC.erf hc]))
  · refine fn_sipush hV dX10_worstAt_7 rfl ?_
    exact fn_iret hR dX10_worstAt_10 (zXP.rf hC (by unfold S_worstAt; (repeat' split) <;> first | rfl | omega))

set_option maxHeartbeats 4000000 in
set_option maxRecDepth 20000 in
theorem c_X10_twofold (E : fnE) (σ μ : fnMem) (hC : zCR σ μ) (hW : zWF μ) (c0 : Int) (h_c0 : fnR c0) : fnOk E mX10_twofold [.ref 0, zI c0] σ (fnQI (zXP (S_twofold μ c0) (μ) σ)) := by
  refine fnOk.of [.ref 0, zI c0, .null, .null] rfl (by decide +kernel) rfl (fun V hV hR => ?_)
  replace hV : fnCx E RX10 cX10_twofold 4 4 96 V := hV
  replace hR : fnRt cX10_twofold (some .int) _ V := hR
  refine fn_iload_1 hV dX10_twofold_0 ?_
  refine fn_cS1 hV (c_X10_isCompass E _ _ (by omega)) ms_X10_isCompass lk_X10_100 dX10_twofold_1 ⟨rfl, rfl⟩ rfl ?_
  refine fn_ifneb hV dX10_twofold_4 (fun q4 => ?_) (fun q4 => ?_)
  · obtain ⟨c, hc, rfl⟩ := fn_nat3 q4
    have hP := hC.hP hW hc
    refine fn_aload_0 hV dX10_twofold_11 ?_
    refine fn_getR hV dX10_twofold_12 fl_X10_11 fr_0_0 ?_
    refine fn_iload_1 hV dX10_twofold_15 ?_
    refine fn_aaldC hV c dX10_twofold_16 (by omega) rfl ?_
    refine fn_aload_0 hV dX10_twofold_17 ?_
    refine fn_getR hV dX10_twofold_18 fl_X10_75 fr_0_10 ?_
    refine fn_iconst hV dX10_twofold_21 ?_
    refine fn_cV2Q hV (c_X0_draw E _ c (by omega) hP _ (by omega)) mv_X0_draw lk_X10_128 dX10_twofold_22 (sh_card (by omega)) rfl ⟨rfl, rfl⟩ rfl (fun σ1 hp => ?_)
    obtain ⟨dF, dv⟩ := hp
    have hd : ∀ h, 0 ≤ h → h < 32 → -1200000 ≤ σ1 49 h ∧ σ1 49 h ≤ 1200000 := fun h h0 h1 => by rw [dv h h0 h1]; exact zer_le hP h _ (by omega)
    refine fn_aload_0 hV dX10_twofold_25 ?_
    refine fn_getR hV dX10_twofold_26 fl_X10_79 fr_0_11 ?_
    refine fn_iconst hV dX10_twofold_29 ?_
    refine fn_cS2v hV (c_J7_fill_53178 E _ _ _ ar_50 _) ms_J7_fill_53178 lk_X10_144 dX10_twofold_30 ⟨rfl, rfl⟩ rfl ?_
    refine fn_iconst hV dX10_twofold_33 ?_
    refine fn_istore_2 hV dX10_twofold_34 rfl rfl ?_
    have L : ∀ k : Nat, k ≤ 3200 → ∀ (i : Int) (σ2 : fnMem), True → (i = k) → (fnFr [50] σ1 σ2) → (∀ x, 0 ≤ x → x < 32 → σ2 50 x = zctT (σ1 49) x k) → V 35 [.ref 0, zI c, zI i, .null] [] σ2 := by
      refine fn_rec (fun k hk ihL => ?_)
      intro i σ2 _ hi gF gv
      refine fn_iload_2 hV dX10_twofold_35 ?_
      refine fn_sipush hV dX10_twofold_36 rfl ?_
      refine fn_icmp_ge hV (by omega) (by omega) dX10_twofold_39 (fun q39 => ?_) (fun q39 => ?_)
      · refine fn_iconst hV dX10_twofold_74 ?_
        refine fn_istore_2 hV dX10_twofold_75 rfl rfl ?_
        refine fn_iconst hV dX10_twofold_76 ?_
        refine fn_istore_3 hV dX10_twofold_77 rfl rfl ?_
        have L2 : ∀ k2 : Nat, k2 ≤ 32 → ∀ (x mn : Int), True → (x = k2) → (mn = zsum (fun x => if 1 < zctT (σ1 49) x 3200 then 1 else 0) k2) → V 78 [.ref 0, zI c, zI mn, zI x] [] σ2 := by
          refine fn_rec (fun k2 hk2 ihL2 => ?_)
          intro x mn _ hx hmn
          refine fn_iload_3 hV dX10_twofold_78 ?_
          refine fn_bipush hV dX10_twofold_79 rfl ?_
          refine fn_icmp_ge hV (by omega) (by omega) dX10_twofold_81 (fun q81 => ?_) (fun q81 => ?_)
          · refine fn_iload_2 hV dX10_twofold_103 ?_
            exact fn_iret hR dX10_twofold_104 (zXP.fr hC ((dF.mono (by decide)).tr (gF.mono (by decide))) (by unfold S_twofold; rw [if_neg (by omega), hmn, show k2 = 32 by omega]; exact z2f_congr (fun x x0 x1 => by rw [dv x x0 x1]; exact hC.er hc x 0)))
          · have z1 := zsum01 (G := fun r => if ztru (σ1 49) r = 100 * x then 1 else 0) (fun r => by (try dsimp only); split <;> omega) 3200
            have z2 := gv x (by omega) (by omega)
            rw [show k = 3200 by omega] at z2
            refine fn_aload_0 hV dX10_twofold_84 ?_
            refine fn_getR hV dX10_twofold_85 fl_X10_79 fr_0_11 ?_
            refine fn_iload_3 hV dX10_twofold_88 ?_
            refine fn_iald hV dX10_twofold_89 ar_50 (by omega) (by omega) ?_
            refine fn_iconst hV dX10_twofold_90 ?_
            refine fn_icmp_le hV (by rw [z2]; unfold zctT; omega) (by omega) dX10_twofold_91 (fun q91 => ?_) (fun q91 => ?_)
            · refine fn_iinc_3 hV dX10_twofold_97 rfl rfl ?_
              refine fn_goto hV dX10_twofold_100 ?_
              exact ihL2 (k2 + 1) (by omega) (by omega) _ _ trivial (by omega) (by rw [zsum_s, ← hx, if_neg (by rw [z2] at q91; omega), hmn]; omega)
            · refine fn_iinc_2 hV dX10_twofold_94 rfl rfl ?_
              refine fn_iinc_3 hV dX10_twofold_97 rfl rfl ?_
              refine fn_goto hV dX10_twofold_100 ?_
              exact ihL2 (k2 + 1) (by omega) (by omega) _ _ trivial (by omega) (by rw [zsum_s, ← hx, if_pos (by rw [z2] at q91; omega), hmn])
        exact L2 0 (by omega) _ _ trivial (by omega) rfl
      · have e49 : σ2 49 = σ1 49 := gF 49 (by decide)
        have hd2 : ∀ h, 0 ≤ h → h < 32 → -1200000 ≤ σ2 49 h ∧ σ2 49 h ≤ 1200000 := by rw [e49]; exact hd
        have w3 := ztru_in (σ2 49) i
        refine fn_aload_0 hV dX10_twofold_42 ?_
        refine fn_iload_2 hV dX10_twofold_43 ?_
        refine fn_cV1 hV (c_X10_drawnTrue E _ _ (by omega) hd2) mv_X10_drawnTrue lk_X10_132 dX10_twofold_44 sh_0 rfl ⟨rfl, rfl⟩ rfl ?_
        refine fn_istore_3 hV dX10_twofold_47 rfl rfl ?_
        refine fn_iload_3 hV dX10_twofold_48 ?_
        refine fn_bipush hV dX10_twofold_49 rfl ?_
        refine fn_iremp hV dX10_twofold_51 (by omega) (by omega) ?_
        refine fn_if_ne hV (by omega) dX10_twofold_52 (fun q52 => ?_) (fun q52 => ?_)
        · refine fn_iinc_2 hV dX10_twofold_68 rfl rfl ?_
          refine fn_goto hV dX10_twofold_71 ?_
          refine fn_nul_3 hV ?_
          exact ihL (k + 1) (by omega) (by omega) _ _ trivial (by omega) gF (fun x x0 x1 => by unfold zctT; rw [zsum_s, ← hi, if_neg (by rw [← e49]; omega), gv x x0 x1]; simp [zctT])
        · refine fn_aload_0 hV dX10_twofold_55 ?_
          refine fn_getR hV dX10_twofold_56 fl_X10_79 fr_0_11 ?_
          refine fn_iload_3 hV dX10_twofold_59 ?_
          refine fn_bipush hV dX10_twofold_60 rfl ?_
          refine fn_idivp hV dX10_twofold_62 (by omega) (by omega) ?_
          refine fn_dup2 hV dX10_twofold_63 rfl rfl ?_
          refine fn_iald hV dX10_twofold_64 ar_50 (by omega) (by omega) ?_
          refine fn_iconst hV dX10_twofold_65 ?_
          refine fn_iadd hV dX10_twofold_66 ?_
          refine fn_iast hV dX10_twofold_67 ar_50 (by omega) (by omega) ?_
          refine fn_iinc_2 hV dX10_twofold_68 rfl rfl ?_
          refine fn_goto hV dX10_twofold_71 ?_
          refine fn_nul_3 hV ?_
          exact ihL (k + 1) (by omega) (by omega) _ _ trivial (by omega) (gF.up (by decide)) (fun x x0 x1 => by
      unfold zctT
      rw [zsum_s, ← hi]
      by_cases hx : x = ztru (σ2 49) i / 100
      · rw [if_pos (by rw [← e49]; omega), ← hx, fnUp_at, gv x x0 x1]; rfl
      · rw [if_neg (by rw [← e49]; omega), fnUp_off _ _ _ hx, gv x x0 x1]; simp [zctT])
    exact L 0 (by omega) _ _ trivial (by omega) (fun k hk => fnSt_ne _ _ (by simpa using hk)) (fun x x0 x1 => by rw [fnSt_same]; simp [zctT, zsum]; omega)
  · refine fn_sipush hV dX10_twofold_7 rfl ?_
    exact fn_iret hR dX10_twofold_10 (zXP.rf hC (by unfold S_twofold; (repeat' split) <;> first | rfl | omega))

set_option maxHeartbeats 4000000 in
set_option maxRecDepth 20000 in
theorem c_X10_see (E : fnE) (σ μ : fnMem) (hC : zCR σ μ) (hW : zWF μ) (c0 : Int) (h_c0 : fnR c0) (h : Int) (h_h : fnR h) (e : Int) (h_e : fnR e) : fnOk E mX10_see [.ref 0, zI c0, zI h, zI e] σ (fnQI (zXP (S_see μ c0 h e) (U_see μ c0 h e) σ)) := by
  refine fnOk.of [.ref 0, zI c0, zI h, zI e] rfl (by decide +kernel) rfl (fun V hV hR => ?_)
  replace hV : fnCx E RX10 cX10_see 4 2 42 V := hV
  replace hR : fnRt cX10_see (some .int) _ V := hR
  refine fn_iload_1 hV dX10_see_0 ?_
  refine fn_cS1 hV (c_X10_isCompass E _ _ (by omega)) ms_X10_isCompass lk_X10_100 dX10_see_1 ⟨rfl, rfl⟩ rfl ?_
  refine fn_ifeqb hV dX10_see_4 (fun q4 => ?_) (fun q4 => ?_)
  · refine fn_sipush hV dX10_see_14 rfl ?_
    exact fn_iret hR dX10_see_17 (zXP.rfU hC (by unfold S_see; (repeat' split) <;> first | rfl | omega) (by unfold U_see; exact if_neg (by omega)))
  · refine fn_iload_2 hV dX10_see_7 ?_
    refine fn_cS1 hV (c_X10_isHeading E _ _ (by omega)) ms_X10_isHeading lk_X10_113 dX10_see_8 ⟨rfl, rfl⟩ rfl ?_
    refine fn_ifneb hV dX10_see_11 (fun q11 => ?_) (fun q11 => ?_)
    · refine fn_iload_3 hV dX10_see_18 ?_
      refine fn_sipush hV dX10_see_19 rfl ?_
      refine fn_sipush hV dX10_see_22 rfl ?_
      refine fn_cS3 hV (c_X10_within E _ _ _ _ (by omega) (by omega) (by omega)) ms_X10_within lk_X10_106 dX10_see_25 ⟨rfl, rfl⟩ rfl ?_
      refine fn_ifneb hV dX10_see_28 (fun q28 => ?_) (fun q28 => ?_)
      · obtain ⟨c, hc, rfl⟩ := fn_nat3 q4
        have hS := hC.hS hW hc
        refine fn_aload_0 hV dX10_see_35 ?_
        refine fn_getR hV dX10_see_36 fl_X10_17 fr_0_1 ?_
        refine fn_iload_1 hV dX10_see_39 ?_
        refine fn_aaldS hV c dX10_see_40 (by omega) rfl ?_
        refine fn_iload_2 hV dX10_see_41 ?_
        refine fn_iload_3 hV dX10_see_42 ?_
        refine fn_cV2 hV (c_X7_write E _ c hc hS _ _ (by omega) (by omega)) mv_X7_write lk_X10_149 dX10_see_43 (sh_swing (by omega)) rfl ⟨rfl, rfl⟩ rfl ?_
        exact fn_iret hR dX10_see_46 (fnQI.mk ⟨by unfold S_see; rw [if_neg (by omega), if_neg (by omega)]; exact hC.2.1.1 c hc h (by omega) (by omega), by rw [show U_see μ c h e = fnUp μ 2 (32 * (c : Int) + h) e from by unfold U_see; exact if_pos (by omega)]; exact zCR_swing hC hc (by omega), fun k hk => by rw [fnUp_ne _ _ _ (by omega), fnUp_ne _ _ _ (by omega)]⟩)
      · refine fn_sipush hV dX10_see_31 rfl ?_
        exact fn_iret hR dX10_see_34 (zXP.rfU hC (by unfold S_see; (repeat' split) <;> first | rfl | omega) (by unfold U_see; exact if_neg (by omega)))
    · refine fn_sipush hV dX10_see_14 rfl ?_
      exact fn_iret hR dX10_see_17 (zXP.rfU hC (by unfold S_see; (repeat' split) <;> first | rfl | omega) (by unfold U_see; exact if_neg (by omega)))

set_option maxHeartbeats 4000000 in
set_option maxRecDepth 20000 in
theorem c_X10_forget (E : fnE) (σ μ : fnMem) (hC : zCR σ μ) (hW : zWF μ) (c0 : Int) (h_c0 : fnR c0) (h : Int) (h_h : fnR h) : fnOk E mX10_forget [.ref 0, zI c0, zI h] σ (fnQI (zXP (S_forget μ c0 h) (U_forget μ c0 h) σ)) := by
  refine fnOk.of [.ref 0, zI c0, zI h] rfl (by decide +kernel) rfl (fun V hV hR => ?_)
  replace hV : fnCx E RX10 cX10_forget 3 2 42 V := hV
  replace hR : fnRt cX10_forget (some .int) _ V := hR
  refine fn_iload_1 hV dX10_forget_0 ?_
  refine fn_cS1 hV (c_X10_isCompass E _ _ (by omega)) ms_X10_isCompass lk_X10_100 dX10_forget_1 ⟨rfl, rfl⟩ rfl ?_
  refine fn_ifeqb hV dX10_forget_4 (fun q4 => ?_) (fun q4 => ?_)
  · refine fn_sipush hV dX10_forget_14 rfl ?_
    exact fn_iret hR dX10_forget_17 (zXP.rfU hC (by unfold S_forget; (repeat' split) <;> first | rfl | omega) (by unfold U_forget; exact if_neg (by omega)))
  · refine fn_iload_2 hV dX10_forget_7 ?_
    refine fn_cS1 hV (c_X10_isHeading E _ _ (by omega)) ms_X10_isHeading lk_X10_113 dX10_forget_8 ⟨rfl, rfl⟩ rfl ?_
    refine fn_ifneb hV dX10_forget_11 (fun q11 => ?_) (fun q11 => ?_)
    · obtain ⟨c, hc, rfl⟩ := fn_nat3 q4
      have hS := hC.hS hW hc
      have hv := hC.2.1.1 c hc h (by omega) (by omega)
      refine fn_aload_0 hV dX10_forget_18 ?_
      refine fn_getR hV dX10_forget_19 fl_X10_17 fr_0_1 ?_
      refine fn_iload_1 hV dX10_forget_22 ?_
      refine fn_aaldS hV c dX10_forget_23 (by omega) rfl ?_
      refine fn_iload_2 hV dX10_forget_24 ?_
      refine fn_cV1 hV (c_X7_has E _ c hc hS _ (by omega)) mv_X7_has lk_X10_152 dX10_forget_25 (sh_swing (by omega)) rfl ⟨rfl, rfl⟩ rfl ?_
      refine fn_ifneb hV dX10_forget_28 (fun q28 => ?_) (fun q28 => ?_)
      · refine fn_aload_0 hV dX10_forget_35 ?_
        refine fn_getR hV dX10_forget_36 fl_X10_17 fr_0_1 ?_
        refine fn_iload_1 hV dX10_forget_39 ?_
        refine fn_aaldS hV c dX10_forget_40 (by omega) rfl ?_
        refine fn_iload_2 hV dX10_forget_41 ?_
        refine fn_sipush hV dX10_forget_42 rfl ?_
        refine fn_cV2 hV (c_X7_write E _ c hc hS _ _ (by omega) (by decide)) mv_X7_write lk_X10_149 dX10_forget_45 (sh_swing (by omega)) rfl ⟨rfl, rfl⟩ rfl ?_
        refine fn_pop hV dX10_forget_48 rfl ?_
        refine fn_iconst hV dX10_forget_49 ?_
        exact fn_iret hR dX10_forget_50 (fnQI.mk ⟨by unfold S_forget; rw [if_neg (by omega), if_neg (by omega)], by rw [show U_forget μ c h = fnUp μ 2 (32 * (c : Int) + h) (-2009) from by unfold U_forget; exact if_pos (by omega)]; exact zCR_swing hC hc (by omega), fun k hk => by rw [fnUp_ne _ _ _ (by omega), fnUp_ne _ _ _ (by omega)]⟩)
      · refine fn_sipush hV dX10_forget_31 rfl ?_
        exact fn_iret hR dX10_forget_34 (zXP.rfU hC (by unfold S_forget; (repeat' split) <;> first | rfl | omega) (by unfold U_forget; exact if_neg (by omega)))
    · refine fn_sipush hV dX10_forget_14 rfl ?_
      exact fn_iret hR dX10_forget_17 (zXP.rfU hC (by unfold S_forget; (repeat' split) <;> first | rfl | omega) (by unfold U_forget; exact if_neg (by omega)))

set_option maxHeartbeats 4000000 in
set_option maxRecDepth 20000 in
theorem c_X10_seen (E : fnE) (σ μ : fnMem) (hC : zCR σ μ) (hW : zWF μ) (c0 : Int) (h_c0 : fnR c0) : fnOk E mX10_seen [.ref 0, zI c0] σ (fnQI (zXP (S_seen μ c0) (μ) σ)) := by
  refine fnOk.of [.ref 0, zI c0] rfl (by decide +kernel) rfl (fun V hV hR => ?_)
  replace hV : fnCx E RX10 cX10_seen 2 2 42 V := hV
  replace hR : fnRt cX10_seen (some .int) _ V := hR
  refine fn_iload_1 hV dX10_seen_0 ?_
  refine fn_cS1 hV (c_X10_isCompass E _ _ (by omega)) ms_X10_isCompass lk_X10_100 dX10_seen_1 ⟨rfl, rfl⟩ rfl ?_
  refine fn_ifneb hV dX10_seen_4 (fun q4 => ?_) (fun q4 => ?_)
  · obtain ⟨c, hc, rfl⟩ := fn_nat3 q4
    refine fn_aload_0 hV dX10_seen_11 ?_
    refine fn_getR hV dX10_seen_12 fl_X10_17 fr_0_1 ?_
    refine fn_iload_1 hV dX10_seen_15 ?_
    refine fn_aaldS hV c dX10_seen_16 (by omega) rfl ?_
    refine fn_getIz hV 1 dX10_seen_17 fl_X10_155 (fi_swing (by omega)) rfl ?_
    exact fn_iret hR dX10_seen_20 (zXP.rf hC (by unfold S_seen; rw [if_neg (by omega)]; exact hC.2.1.2 c hc))
  · refine fn_sipush hV dX10_seen_7 rfl ?_
    exact fn_iret hR dX10_seen_10 (zXP.rf hC (by unfold S_seen; (repeat' split) <;> first | rfl | omega))

set_option maxHeartbeats 4000000 in
set_option maxRecDepth 20000 in
theorem c_X10_filled (E : fnE) (σ μ : fnMem) (hC : zCR σ μ) (hW : zWF μ) (c0 : Int) (h_c0 : fnR c0) (h : Int) (h_h : fnR h) : fnOk E mX10_filled [.ref 0, zI c0, zI h] σ (fnQI (zXP (S_filled μ c0 h) (μ) σ)) := by
  refine fnOk.of [.ref 0, zI c0, zI h] rfl (by decide +kernel) rfl (fun V hV hR => ?_)
  replace hV : fnCx E RX10 cX10_filled 3 3 73 V := hV
  replace hR : fnRt cX10_filled (some .int) _ V := hR
  refine fn_iload_1 hV dX10_filled_0 ?_
  refine fn_cS1 hV (c_X10_isCompass E _ _ (by omega)) ms_X10_isCompass lk_X10_100 dX10_filled_1 ⟨rfl, rfl⟩ rfl ?_
  refine fn_ifeqb hV dX10_filled_4 (fun q4 => ?_) (fun q4 => ?_)
  · refine fn_sipush hV dX10_filled_14 rfl ?_
    exact fn_iret hR dX10_filled_17 (zXP.rf hC (by unfold S_filled; (repeat' split) <;> first | rfl | omega))
  · refine fn_iload_2 hV dX10_filled_7 ?_
    refine fn_cS1 hV (c_X10_isHeading E _ _ (by omega)) ms_X10_isHeading lk_X10_113 dX10_filled_8 ⟨rfl, rfl⟩ rfl ?_
    refine fn_ifneb hV dX10_filled_11 (fun q11 => ?_) (fun q11 => ?_)
    · obtain ⟨c, hc, rfl⟩ := fn_nat3 q4
      have hS := hC.hS hW hc
      have hn := hC.2.1.2 c hc
      have hn2 := zcnt_le (vS μ c)
      refine fn_aload_0 hV dX10_filled_18 ?_
      refine fn_getR hV dX10_filled_19 fl_X10_17 fr_0_1 ?_
      refine fn_iload_1 hV dX10_filled_22 ?_
      refine fn_aaldS hV c dX10_filled_23 (by omega) rfl ?_
      refine fn_getIz hV 1 dX10_filled_24 fl_X10_155 (fi_swing (by omega)) rfl ?_
      refine fn_if_ne hV (by omega) dX10_filled_27 (fun q27 => ?_) (fun q27 => ?_)
      · have ha := zany_congr (hC.sw hc) (zcnt_any (F := vS μ c) (by omega))
        refine fn_aload_0 hV dX10_filled_34 ?_
        refine fn_getR hV dX10_filled_35 fl_X10_17 fr_0_1 ?_
        refine fn_iload_1 hV dX10_filled_38 ?_
        refine fn_aaldS hV c dX10_filled_39 (by omega) rfl ?_
        refine fn_iload_2 hV dX10_filled_40 ?_
        refine fn_cV1 hV (c_X7_fill E _ c hc hS _ (by omega) ha) mv_X7_fill lk_X10_159 dX10_filled_41 (sh_swing (by omega)) rfl ⟨rfl, rfl⟩ rfl ?_
        exact fn_iret hR dX10_filled_44 (zXP.rf hC (by unfold S_filled; rw [if_neg (by omega), if_neg (by omega)]; exact zfill_congr (hC.sw hc) (by omega)))
      · refine fn_sipush hV dX10_filled_30 rfl ?_
        exact fn_iret hR dX10_filled_33 (zXP.rf hC (by unfold S_filled; (repeat' split) <;> first | rfl | omega))
    · refine fn_sipush hV dX10_filled_14 rfl ?_
      exact fn_iret hR dX10_filled_17 (zXP.rf hC (by unfold S_filled; (repeat' split) <;> first | rfl | omega))

set_option maxHeartbeats 4000000 in
set_option maxRecDepth 20000 in
theorem c_X10_gap (E : fnE) (σ μ : fnMem) (hC : zCR σ μ) (hW : zWF μ) (c0 : Int) (h_c0 : fnR c0) : fnOk E mX10_gap [.ref 0, zI c0] σ (fnQI (zXP (S_gap μ c0) (μ) σ)) := by
  refine fnOk.of [.ref 0, zI c0] rfl (by decide +kernel) rfl (fun V hV hR => ?_)
  replace hV : fnCx E RX10 cX10_gap 2 2 44 V := hV
  replace hR : fnRt cX10_gap (some .int) _ V := hR
  refine fn_iload_1 hV dX10_gap_0 ?_
  refine fn_cS1 hV (c_X10_isCompass E _ _ (by omega)) ms_X10_isCompass lk_X10_100 dX10_gap_1 ⟨rfl, rfl⟩ rfl ?_
  refine fn_ifneb hV dX10_gap_4 (fun q4 => ?_) (fun q4 => ?_)
  · obtain ⟨c, hc, rfl⟩ := fn_nat3 q4
    have hS := hC.hS hW hc
    have hn := hC.2.1.2 c hc
    have hn2 := zcnt_le (vS μ c)
    refine fn_aload_0 hV dX10_gap_11 ?_
    refine fn_getR hV dX10_gap_12 fl_X10_17 fr_0_1 ?_
    refine fn_iload_1 hV dX10_gap_15 ?_
    refine fn_aaldS hV c dX10_gap_16 (by omega) rfl ?_
    refine fn_cV0 hV (c_X7_longestGap E _ c hc hS (by omega)) mv_X7_longestGap lk_X10_161 dX10_gap_17 (sh_swing (by omega)) rfl ⟨rfl, rfl⟩ rfl ?_
    exact fn_iret hR dX10_gap_20 (zXP.rf hC (by rw [show S_gap μ c = (if zcnt (vS μ c) = 0 then 32 else zlong (vS μ c) 64) from by unfold S_gap; exact if_neg (by omega), hn, zlong_congr (hC.sw hc)]))
  · refine fn_sipush hV dX10_gap_7 rfl ?_
    exact fn_iret hR dX10_gap_10 (zXP.rf hC (by unfold S_gap; (repeat' split) <;> first | rfl | omega))

set_option maxHeartbeats 4000000 in
set_option maxRecDepth 20000 in
theorem c_X10_residue (E : fnE) (σ μ : fnMem) (hC : zCR σ μ) (hW : zWF μ) (c0 : Int) (h_c0 : fnR c0) (h : Int) (h_h : fnR h) : fnOk E mX10_residue [.ref 0, zI c0, zI h] σ (fnQI (zXP (S_residue μ c0 h) (μ) σ)) := by
  refine fnOk.of [.ref 0, zI c0, zI h] rfl (by decide +kernel) rfl (fun V hV hR => ?_)
  replace hV : fnCx E RX10 cX10_residue 3 4 95 V := hV
  replace hR : fnRt cX10_residue (some .int) _ V := hR
  refine fn_iload_1 hV dX10_residue_0 ?_
  refine fn_cS1 hV (c_X10_isCompass E _ _ (by omega)) ms_X10_isCompass lk_X10_100 dX10_residue_1 ⟨rfl, rfl⟩ rfl ?_
  refine fn_ifeqb hV dX10_residue_4 (fun q4 => ?_) (fun q4 => ?_)
  · refine fn_sipush hV dX10_residue_14 rfl ?_
    exact fn_iret hR dX10_residue_17 (zXP.rf hC (by unfold S_residue; (repeat' split) <;> first | rfl | omega))
  · refine fn_iload_2 hV dX10_residue_7 ?_
    refine fn_cS1 hV (c_X10_isHeading E _ _ (by omega)) ms_X10_isHeading lk_X10_113 dX10_residue_8 ⟨rfl, rfl⟩ rfl ?_
    refine fn_ifneb hV dX10_residue_11 (fun q11 => ?_) (fun q11 => ?_)
    · obtain ⟨c, hc, rfl⟩ := fn_nat3 q4
      have hS := hC.hS hW hc
      have hP := hC.hP hW hc
      have hv := hC.2.1.1 c hc h (by omega) (by omega)
      refine fn_aload_0 hV dX10_residue_18 ?_
      refine fn_getR hV dX10_residue_19 fl_X10_17 fr_0_1 ?_
      refine fn_iload_1 hV dX10_residue_22 ?_
      refine fn_aaldS hV c dX10_residue_23 (by omega) rfl ?_
      refine fn_iload_2 hV dX10_residue_24 ?_
      refine fn_cV1 hV (c_X7_has E _ c hc hS _ (by omega)) mv_X7_has lk_X10_152 dX10_residue_25 (sh_swing (by omega)) rfl ⟨rfl, rfl⟩ rfl ?_
      refine fn_ifeqb hV dX10_residue_28 (fun q28 => ?_) (fun q28 => ?_)
      · refine fn_sipush hV dX10_residue_40 rfl ?_
        exact fn_iret hR dX10_residue_43 (zXP.rf hC (by unfold S_residue; rw [if_neg (by omega)]; first | rw [if_pos (by omega)] | rw [if_neg (by omega), hv, hC.er hc]))
      · refine fn_aload_0 hV dX10_residue_31 ?_
        refine fn_iload_1 hV dX10_residue_32 ?_
        refine fn_iload_2 hV dX10_residue_33 ?_
        refine fn_cV2 hV (c_X10_residueOn E _ c hc hS hP _ (by omega)) mv_X10_residueOn lk_X10_168 dX10_residue_34 sh_0 rfl ⟨rfl, rfl⟩ rfl ?_
        refine fn_goto hV dX10_residue_37 ?_
        exact fn_iret hR dX10_residue_43 (zXP.rf hC (by unfold S_residue; rw [if_neg (by omega)]; first | rw [if_pos (by omega)] | rw [if_neg (by omega), hv, hC.er hc]))
    · refine fn_sipush hV dX10_residue_14 rfl ?_
      exact fn_iret hR dX10_residue_17 (zXP.rf hC (by unfold S_residue; (repeat' split) <;> first | rfl | omega))

theorem zapt_congr {F G : Int → Int} (h : ∀ x, 0 ≤ x → x < 32 → F x = G x) (j : Int) : zapt F j = zapt G j := by
  have e : ∀ q : Int, 0 ≤ q → q < (32 : Nat) → zfill F q = zfill G q := fun q q0 q1 => zfill_congr h (by omega)
  unfold zapt
  rw [zsum_congr (F := fun h => zfill F h) (G := fun h => zfill G h) 32 e, zsum_congr (F := fun h => zfill F h * zsn h) (G := fun h => zfill G h * zsn h) 32 (fun q q0 q1 => by rw [e q q0 q1]), zsum_congr (F := fun h => zfill F h * zcs h) (G := fun h => zfill G h * zcs h) 32 (fun q q0 q1 => by rw [e q q0 q1]), zsum_congr (F := fun h => zfill F h * zsn (2 * h)) (G := fun h => zfill G h * zsn (2 * h)) 32 (fun q q0 q1 => by rw [e q q0 q1]), zsum_congr (F := fun h => zfill F h * zcs (2 * h)) (G := fun h => zfill G h * zcs (2 * h)) 32 (fun q q0 q1 => by rw [e q q0 q1])]
theorem zheld_le (v : Int) : -999 ≤ zheld v ∧ zheld v ≤ 999 := by
  unfold zheld
  (repeat' split) <;> omega
theorem zapt_le (F : Int → Int) (j : Int) : -999 ≤ zapt F j ∧ zapt F j ≤ 999 := by
  unfold zapt
  (repeat' split) <;> exact zheld_le _
theorem zCR_apart {σ σ1 μ : fnMem} (h : zCR σ μ) {c : Nat} (hc : c < 3) (hF : fnFr [7 + c] σ σ1) (hv : ∀ j, 0 ≤ j → j < 5 → σ1 (7 + c) j = zapt (vS μ c) j) (h5 : σ1 (7 + c) 5 = σ (7 + c) 5) : zCR σ1 (fnSt μ 1 (fun i => if 6 * (c : Int) ≤ i ∧ i < 6 * c + 5 then zapt (vS μ c) (i - 6 * c) else μ 1 i)) := by
  have e1 : ∀ k, k ≠ 7 + c → σ1 k = σ k := fun k hk => hF k (by simpa using hk)
  refine ⟨fun d hd k k0 k1 => ?_, zCRs_eq h.2.1 (fun k _ _ => e1 k (by omega)) (fnSt_ne _ _ (by decide)), zCRm_eq h.2.2.1 (fun k _ _ => e1 k (by omega)) (fun k _ _ => fnSt_ne _ _ (by omega)) (by rw [fnSt_ne _ _ (by decide)]) (by rw [fnSt_ne _ _ (by decide)]), zCRl_eq h.2.2.2.1 (fun k _ _ => e1 k (by omega)) (fun k _ _ => fnSt_ne _ _ (by omega)), zCRe_eq h.2.2.2.2.1 (fun k _ _ => e1 k (by omega)) (fun k _ _ => fnSt_ne _ _ (by omega)), zCRv_eq h.2.2.2.2.2 (fun k _ _ => e1 k (by omega)) (by rw [e1 47 (by omega)]; exact h.2.2.2.2.2.2.2.2.2.2.2.2) (fun k _ _ => fnSt_ne _ _ (by omega)) (by rw [fnSt_ne _ _ (by decide)])⟩
  rw [fnSt_same]
  by_cases hdc : d = c
  · subst hdc
    by_cases hk : k < 5
    · rw [if_pos (by omega), hv k k0 hk, show 6 * (d : Int) + k - 6 * d = k by omega]
    · rw [if_neg (by omega), show k = 5 by omega, h5]
      exact h.1 d hd 5 (by decide) (by decide)
  · rw [if_neg (by omega), e1 _ (by omega)]
    exact h.1 d hd k k0 k1

set_option maxHeartbeats 4000000 in
set_option maxRecDepth 20000 in
theorem c_X10_apart (E : fnE) (σ μ : fnMem) (hC : zCR σ μ) (hW : zWF μ) (c0 : Int) (h_c0 : fnR c0) : fnOk E mX10_apart [.ref 0, zI c0] σ (fnQI (zXP (S_apart μ c0) (U_apart μ c0) σ)) := by
  refine fnOk.of [.ref 0, zI c0, .null, .null] rfl (by decide +kernel) rfl (fun V hV hR => ?_)
  replace hV : fnCx E RX10 cX10_apart 4 4 101 V := hV
  replace hR : fnRt cX10_apart (some .int) _ V := hR
  refine fn_iload_1 hV dX10_apart_0 ?_
  refine fn_cS1 hV (c_X10_isCompass E _ _ (by omega)) ms_X10_isCompass lk_X10_100 dX10_apart_1 ⟨rfl, rfl⟩ rfl ?_
  refine fn_ifneb hV dX10_apart_4 (fun q4 => ?_) (fun q4 => ?_)
  · obtain ⟨c, hc, rfl⟩ := fn_nat3 q4
    have hS := hC.hS hW hc
    have hP := hC.hP hW hc
    have hn := hC.2.1.2 c hc
    have hn2 := zcnt_le (vS μ c)
    refine fn_aload_0 hV dX10_apart_11 ?_
    refine fn_getR hV dX10_apart_12 fl_X10_17 fr_0_1 ?_
    refine fn_iload_1 hV dX10_apart_15 ?_
    refine fn_aaldS hV c dX10_apart_16 (by omega) rfl ?_
    refine fn_getIz hV 1 dX10_apart_17 fl_X10_155 (fi_swing (by omega)) rfl ?_
    refine fn_iconst hV dX10_apart_20 ?_
    refine fn_icmp_ge hV (by omega) (by omega) dX10_apart_21 (fun q21 => ?_) (fun q21 => ?_)
    · have ha := zany_congr (hC.sw hc) (zcnt_any (F := vS μ c) (by omega))
      refine fn_aload_0 hV dX10_apart_28 ?_
      refine fn_getR hV dX10_apart_29 fl_X10_17 fr_0_1 ?_
      refine fn_iload_1 hV dX10_apart_32 ?_
      refine fn_aaldS hV c dX10_apart_33 (by omega) rfl ?_
      refine fn_aload_0 hV dX10_apart_34 ?_
      refine fn_getR hV dX10_apart_35 fl_X10_11 fr_0_0 ?_
      refine fn_iload_1 hV dX10_apart_38 ?_
      refine fn_aaldC hV c dX10_apart_39 (by omega) rfl ?_
      refine fn_cV1Q hV (c_X7_takeApart E _ c hc hS ha c hc) mv_X7_takeApart lk_X10_164 dX10_apart_40 (sh_swing (by omega)) rfl ⟨rfl, rfl⟩ rfl (fun σ1 hp => ?_)
      obtain ⟨tF, tv, t5⟩ := hp
      have e14 : σ1 (14 + c) = σ (14 + c) := tF _ (by simp <;> omega)
      have tw : ∀ j, 0 ≤ j → j < 5 → σ1 (7 + c) j = zapt (vS μ c) j := fun j j0 j1 => by rw [tv j j0 j1]; exact zapt_congr (hC.sw hc) j
      have hP1 : ∀ j, 0 ≤ j → j < 6 → -32000 ≤ σ1 (7 + c) j ∧ σ1 (7 + c) j ≤ 32000 := fun j j0 j1 => by
        by_cases hj : j < 5
        · rw [tw j j0 hj]; have := zapt_le (vS μ c) j; omega
        · rw [show j = 5 by omega, t5]; exact hP 5 (by decide) (by decide)
      have hS1 : ∀ h, 0 ≤ h → h < 32 → σ1 (14 + c) h = -2009 ∨ (-600 ≤ σ1 (14 + c) h ∧ σ1 (14 + c) h ≤ 600) := by rw [e14]; exact hS
      have hG : ∀ h, zer (σ1 (7 + c)) h 0 = zer (zaptP μ c) h 0 := fun h => zer_congr (fun j j0 j1 => by
        unfold zaptP
        by_cases hj : j < 5
        · rw [if_pos hj]; exact tw j j0 hj
        · rw [if_neg hj, show j = 5 by omega, t5]; exact hC.1 c hc 5 (by decide) (by decide)) h 0
      have hF : ∀ h, 0 ≤ h → h < 32 → σ1 (14 + c) h = vS μ c h := by rw [e14]; exact hC.sw hc
      refine fn_iconst hV dX10_apart_43 ?_
      refine fn_istore_2 hV dX10_apart_44 rfl rfl ?_
      refine fn_iconst hV dX10_apart_45 ?_
      refine fn_istore_3 hV dX10_apart_46 rfl rfl ?_
      have L : ∀ k : Nat, k ≤ 32 → ∀ (i mx : Int), True → (i = k) → (mx = zmxr (vS μ c) (fun h => zer (zaptP μ c) h 0) k) → (0 ≤ mx ∧ mx ≤ 1200600) → V 47 [.ref 0, zI c, zI mx, zI i] [] σ1 := by
        refine fn_rec (fun k hk ihL => ?_)
        intro i mx _ hi hm hb
        refine fn_iload_3 hV dX10_apart_47 ?_
        refine fn_bipush hV dX10_apart_48 rfl ?_
        refine fn_icmp_ge hV (by omega) (by omega) dX10_apart_50 (fun q50 => ?_) (fun q50 => ?_)
        · refine fn_iload_2 hV dX10_apart_86 ?_
          exact fn_iret hR dX10_apart_87 (fnQI.mk ⟨by unfold S_apart; rw [if_neg (by omega), if_neg (by omega), hm, show k = 32 by omega], by unfold U_apart; rw [if_pos (by omega)]; exact zCR_apart hC hc tF tw t5, fun k hk => tF k (by simp; omega)⟩)
        · have b1 := hS1 i (by omega) (by omega)
          have b2 := zer_le hP1 i 0 (by omega)
          refine fn_aload_0 hV dX10_apart_53 ?_
          refine fn_getR hV dX10_apart_54 fl_X10_17 fr_0_1 ?_
          refine fn_iload_1 hV dX10_apart_57 ?_
          refine fn_aaldS hV c dX10_apart_58 (by omega) rfl ?_
          refine fn_iload_3 hV dX10_apart_59 ?_
          refine fn_cV1 hV (c_X7_has E _ c hc hS1 _ (by omega)) mv_X7_has lk_X10_152 dX10_apart_60 (sh_swing (by omega)) rfl ⟨rfl, rfl⟩ rfl ?_
          refine fn_ifeqb hV dX10_apart_63 (fun q63 => ?_) (fun q63 => ?_)
          · refine fn_iinc_3 hV dX10_apart_80 rfl rfl ?_
            refine fn_goto hV dX10_apart_83 ?_
            exact ihL (k + 1) (by omega) (by omega) _ _ trivial (by omega) (by rw [zmxr_s, ← hi, if_neg (by rw [← hF i (by omega) (by omega)]; omega), hm]) (by omega)
          · have b3 := zabs_nn (σ1 (14 + c) i - zer (σ1 (7 + c)) i 0)
            have b4 := zabs_le (z := σ1 (14 + c) i - zer (σ1 (7 + c)) i 0) (B := 1200600) (by omega) (by omega)
            refine fn_iload_2 hV dX10_apart_66 ?_
            refine fn_aload_0 hV dX10_apart_67 ?_
            refine fn_iload_1 hV dX10_apart_68 ?_
            refine fn_iload_3 hV dX10_apart_69 ?_
            refine fn_cV2 hV (c_X10_residueOn E _ c hc hS1 hP1 _ (by omega)) mv_X10_residueOn lk_X10_168 dX10_apart_70 sh_0 rfl ⟨rfl, rfl⟩ rfl ?_
            refine fn_cS1 hV (c_J9_abs_0f7a4 E _ _ (by omega)) ms_J9_abs_0f7a4 lk_X10_135 dX10_apart_73 ⟨rfl, rfl⟩ rfl ?_
            refine fn_cS2 hV (c_J9_max_7cf53 E _ _ _ (by omega) (by omega)) ms_J9_max_7cf53 lk_X10_171 dX10_apart_76 ⟨rfl, rfl⟩ rfl ?_
            refine fn_istore_2 hV dX10_apart_79 rfl rfl ?_
            refine fn_iinc_3 hV dX10_apart_80 rfl rfl ?_
            refine fn_goto hV dX10_apart_83 ?_
            exact ihL (k + 1) (by omega) (by omega) _ _ trivial (by omega) (by rw [zmxr_s, ← hi, if_pos (by rw [← hF i (by omega) (by omega)]; exact q63), ← hF i (by omega) (by omega), ← hG, hm]) (by unfold zmax; split <;> omega)
      exact L 0 (by omega) _ _ trivial (by omega) rfl (by omega)
    · refine fn_sipush hV dX10_apart_24 rfl ?_
      exact fn_iret hR dX10_apart_27 (zXP.rfU hC (by unfold S_apart; (repeat' split) <;> first | rfl | omega) (by unfold U_apart; exact if_neg (by omega)))
  · refine fn_sipush hV dX10_apart_7 rfl ?_
    exact fn_iret hR dX10_apart_10 (zXP.rfU hC (by unfold S_apart; (repeat' split) <;> first | rfl | omega) (by unfold U_apart; exact if_neg (by omega)))
