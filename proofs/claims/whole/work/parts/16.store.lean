theorem zsum_s (G : Int → Int) (n : Nat) : zsum G (n + 1) = zsum G n + G n := rfl
theorem fnFill_up {σ : fnMem} {b : Nat} {f : Int → Int} {i v : Int} (h0 : 0 ≤ i) (hv : v = f i) : fnUp (fnSt σ b (fun j => if 0 ≤ j ∧ j < i then f j else σ b j)) b i v = fnSt σ b (fun j => if 0 ≤ j ∧ j < i + 1 then f j else σ b j) := by
  funext a
  unfold fnUp
  by_cases ha : a = b
  · subst ha
    rw [fnSt_same, fnSt_same, fnSt_same]
    funext j
    by_cases hj : j = i
    · rw [if_pos hj, if_pos (by omega), hj, hv]
    · rw [if_neg hj]
      by_cases hj2 : 0 ≤ j ∧ j < i
      · rw [if_pos hj2, if_pos (by omega)]
      · rw [if_neg hj2, if_neg (by omega)]
  · rw [fnSt_ne _ _ ha, fnSt_ne _ _ ha, fnSt_ne _ _ ha]
theorem fnFill_0 {σ : fnMem} {b : Nat} {f : Int → Int} : fnSt σ b (fun j => if 0 ≤ j ∧ j < 0 then f j else σ b j) = σ := by
  funext a
  by_cases ha : a = b
  · subst ha
    rw [fnSt_same]
    funext j
    rw [if_neg (by omega)]
  · rw [fnSt_ne _ _ ha]

set_option maxHeartbeats 4000000 in
set_option maxRecDepth 20000 in
theorem c_J7_fill_53178 (E : fnE) (σ : fnMem) (b n : Nat) (ha_b : fnAr b 0 n) (v : Int) : fnOk E mJ7_fill_53178 [.ref b, zI v] σ (fnIs none (fnSt σ b (fun j => if 0 ≤ j ∧ j < (n : Int) then v else σ b j))) := by
  refine fnOk.of [.ref b, zI v, .null, .null] rfl (by decide +kernel) rfl (fun V hV hR => ?_)
  replace hV : fnCx E RJ7 cJ7_fill_53178 4 0 0 V := hV
  replace hR : fnRt cJ7_fill_53178 none _ V := hR
  have hn := ha_b.2.1
  refine fn_iconst hV dJ7_fill_53178_0 ?_
  refine fn_istore_2 hV dJ7_fill_53178_1 rfl rfl ?_
  refine fn_aload_0 hV dJ7_fill_53178_2 ?_
  refine fn_alen hV dJ7_fill_53178_3 ha_b (Or.inl rfl) ?_
  refine fn_istore_3 hV dJ7_fill_53178_4 rfl rfl ?_
  have L : ∀ k : Nat, k ≤ n → ∀ (i : Int) (σ1 : fnMem), True → (i = k) → (σ1 = fnSt σ b (fun j => if 0 ≤ j ∧ j < i then v else σ b j)) → V 5 [.ref b, zI v, zI i, zI (n : Int)] [] σ1 := by
    refine fn_rec (fun k hk ihL => ?_)
    intro i σ1 _ hi hs
    refine fn_iload_2 hV dJ7_fill_53178_5 ?_
    refine fn_iload_3 hV dJ7_fill_53178_6 ?_
    refine fn_icmp_ge hV (by omega) (by omega) dJ7_fill_53178_7 (fun q7 => ?_) (fun q7 => ?_)
    · exact fn_vret hR dJ7_fill_53178_20 ⟨rfl, by rw [hs, show i = (n : Int) by omega]⟩
    · refine fn_aload_0 hV dJ7_fill_53178_10 ?_
      refine fn_iload_2 hV dJ7_fill_53178_11 ?_
      refine fn_iload_1 hV dJ7_fill_53178_12 ?_
      refine fn_iast hV dJ7_fill_53178_13 ha_b (by omega) (by omega) ?_
      refine fn_iinc_2 hV dJ7_fill_53178_14 rfl rfl ?_
      refine fn_goto hV dJ7_fill_53178_17 ?_
      exact ihL (k + 1) (by omega) (by omega) _ _ trivial (by omega) (by rw [hs, fnFill_up (f := fun _ => v) (by omega) rfl])
  exact L 0 (by omega) _ _ trivial (by omega) (fnFill_0 (f := fun _ => v)).symm

def kSt (σ : fnMem) : Prop := (∀ k, 0 ≤ k → k < 6 → 0 ≤ σ 18 k ∧ σ 18 k ≤ 30000) ∧ (∀ k, 0 ≤ k → k < 4 → 0 ≤ σ 19 k ∧ σ 19 k ≤ 20) ∧ (∀ k, 0 ≤ k → k < 6 → σ 20 k = 0 ∨ (2 ≤ σ 20 k ∧ σ 20 k ≤ 9)) ∧ (∀ k, 0 ≤ k → k < 6 → 0 ≤ σ 21 k ∧ σ 21 k ≤ 1) ∧ (∀ k, 0 ≤ k → k < 6 → 0 ≤ σ 22 k ∧ σ 22 k ≤ 1) ∧ (σ 17 5 = -2009 ∨ (0 ≤ σ 17 5 ∧ σ 17 5 ≤ 3 ∧ 2 ≤ σ 17 6 ∧ σ 17 6 ≤ 20))
theorem zcube {k : Int} (h : 2 ≤ k ∧ k ≤ 9) : 8 ≤ k * k * k ∧ k * k * k ≤ 729 := by
  have : k = 2 ∨ k = 3 ∨ k = 4 ∨ k = 5 ∨ k = 6 ∨ k = 7 ∨ k = 8 ∨ k = 9 := by omega
  rcases this with rfl | rfl | rfl | rfl | rfl | rfl | rfl | rfl <;> decide
def zpb (s k : Int) : Int := s / (k * k * k)
def zpl (s k : Int) : Int := 20 * s * s / k
theorem zpb_le {s k : Int} (hs : 0 ≤ s ∧ s ≤ 30000) (hk : 2 ≤ k ∧ k ≤ 9) : 0 ≤ zpb s k ∧ zpb s k ≤ 30000 := by
  have hc := zcube hk
  unfold zpb
  constructor
  · exact Int.ediv_nonneg hs.1 (by omega)
  · exact Int.le_trans (Int.ediv_le_self _ hs.1) hs.2
theorem zpl_le {s k : Int} (hs : 0 ≤ s ∧ s ≤ 20) (hk : 2 ≤ k ∧ k ≤ 20) : 0 ≤ zpl s k ∧ zpl s k ≤ 8000 := by
  have m := zmul_le (a := 20 * s) (b := s) (A := 400) (B := 20) (by omega) (by omega) (by omega) (by omega)
  have m0 : 0 ≤ 20 * s * s := Int.mul_nonneg (by omega) hs.1
  unfold zpl
  constructor
  · exact Int.ediv_nonneg m0 (by omega)
  · exact Int.le_trans (Int.ediv_le_self _ m0) (by omega)
def zpax (St Sl Ax Tu : Int → Int) (axis k : Int) : Int := if Sl k ≠ 0 ∧ Ax k = axis then (if Tu k ≠ 0 then -(zpb (St k) (Sl k)) else zpb (St k) (Sl k)) else 0
def zpbc (St : Int → Int) (code : Int) : Int := if code = 0 then 0 else if (code - 1) % 2 = 1 then -(zpb (St ((code - 1) / 16)) (2 + (code - 1) % 16 / 2)) else zpb (St ((code - 1) / 16)) (2 + (code - 1) % 16 / 2)
def zplc (Sz : Int → Int) (code : Int) : Int := zpl (Sz ((code - 1) / 19)) (2 + (code - 1) % 19)

set_option maxHeartbeats 4000000 in
set_option maxRecDepth 20000 in
theorem c_X6_pullOfBar (E : fnE) (σ : fnMem) (s k : Int) (hs : 0 ≤ s ∧ s ≤ 30000) (hk : 2 ≤ k ∧ k ≤ 9) : fnOk E mX6_pullOfBar [zI s, zI k] σ (fnIs (some (zI (zpb s k))) σ) := by
  refine fnOk.of [zI s, zI k] rfl (by decide +kernel) rfl (fun V hV hR => ?_)
  replace hV : fnCx E RX6 cX6_pullOfBar 2 0 0 V := hV
  replace hR : fnRt cX6_pullOfBar (some .int) _ V := hR
  have hc := zcube hk
  refine fn_iload_1 hV dX6_pullOfBar_0 ?_
  refine fn_if_gt hV (by omega) dX6_pullOfBar_1 (fun q1 => ?_) (fun q1 => ?_)
  · refine fn_iload_0 hV dX6_pullOfBar_8 ?_
    refine fn_iload_1 hV dX6_pullOfBar_9 ?_
    refine fn_iload_1 hV dX6_pullOfBar_10 ?_
    refine fn_imul hV dX6_pullOfBar_11 ?_
    refine fn_iload_1 hV dX6_pullOfBar_12 ?_
    refine fn_imul hV dX6_pullOfBar_13 ?_
    refine fn_idivp hV dX6_pullOfBar_14 (by omega) (by omega) ?_
    exact fn_iret hR dX6_pullOfBar_15 (fnIs.i rfl)
  · exact absurd q1 (by omega)

set_option maxHeartbeats 4000000 in
set_option maxRecDepth 20000 in
theorem c_X6_pullOfBall (E : fnE) (σ : fnMem) (s k : Int) (hs : 0 ≤ s ∧ s ≤ 20) (hk : 2 ≤ k ∧ k ≤ 20) : fnOk E mX6_pullOfBall [zI s, zI k] σ (fnIs (some (zI (zpl s k))) σ) := by
  refine fnOk.of [zI s, zI k] rfl (by decide +kernel) rfl (fun V hV hR => ?_)
  replace hV : fnCx E RX6 cX6_pullOfBall 2 0 0 V := hV
  replace hR : fnRt cX6_pullOfBall (some .int) _ V := hR
  have m := zmul_le (a := 20 * s) (b := s) (A := 400) (B := 20) (by omega) (by omega) (by omega) (by omega)
  have m0 : 0 ≤ 20 * s * s := Int.mul_nonneg (by omega) hs.1
  refine fn_iload_1 hV dX6_pullOfBall_0 ?_
  refine fn_if_gt hV (by omega) dX6_pullOfBall_1 (fun q1 => ?_) (fun q1 => ?_)
  · refine fn_bipush hV dX6_pullOfBall_8 rfl ?_
    refine fn_iload_0 hV dX6_pullOfBall_10 ?_
    refine fn_imul hV dX6_pullOfBall_11 ?_
    refine fn_iload_0 hV dX6_pullOfBall_12 ?_
    refine fn_imul hV dX6_pullOfBall_13 ?_
    refine fn_iload_1 hV dX6_pullOfBall_14 ?_
    refine fn_idivp hV dX6_pullOfBall_15 (by omega) (by omega) ?_
    exact fn_iret hR dX6_pullOfBall_16 (fnIs.i rfl)
  · exact absurd q1 (by omega)

set_option maxHeartbeats 4000000 in
set_option maxRecDepth 20000 in
theorem c_X6_isBarLaid (E : fnE) (σ : fnMem) (hK : kSt σ) (k : Int) (hk : 0 ≤ k ∧ k < 6) : fnOk E mX6_isBarLaid [.ref 17, zI k] σ (fnIs (some (zI (if σ 20 k ≠ 0 then 1 else 0))) σ) := by
  refine fnOk.of [.ref 17, zI k] rfl (by decide +kernel) rfl (fun V hV hR => ?_)
  replace hV : fnCx E RX6 cX6_isBarLaid 2 0 0 V := hV
  replace hR : fnRt cX6_isBarLaid (some .boolean) _ V := hR
  have k1 := hK.2.2.1 k hk.1 hk.2
  refine fn_aload_0 hV dX6_isBarLaid_0 ?_
  refine fn_getR hV dX6_isBarLaid_1 fl_X6_18 fr_17_2 ?_
  refine fn_iload_1 hV dX6_isBarLaid_4 ?_
  refine fn_iald hV dX6_isBarLaid_5 ar_20 (by omega) (by omega) ?_
  refine fn_t_if_eq hV (by omega) dX6_isBarLaid_6 dX6_isBarLaid_9 dX6_isBarLaid_10 dX6_isBarLaid_13 ?_
  exact fn_zret hR dX6_isBarLaid_14 (by first | exact Or.inl rfl | exact Or.inr rfl | (split <;> simp)) (fnIs.i (by (repeat' split) <;> omega))

set_option maxHeartbeats 4000000 in
set_option maxRecDepth 20000 in
theorem c_X6_setBar (E : fnE) (σ : fnMem) (k a s t : Int) (hk : 0 ≤ k ∧ k < 6) (ht : t = 0 ∨ t = 1) : fnOk E mX6_setBar [.ref 17, zI k, zI a, zI s, zI t] σ (fnIs none (fnUp (fnUp (fnUp σ 21 k a) 20 k s) 22 k t)) := by
  refine fnOk.of [.ref 17, zI k, zI a, zI s, zI t] rfl (by decide +kernel) rfl (fun V hV hR => ?_)
  replace hV : fnCx E RX6 cX6_setBar 5 0 0 V := hV
  replace hR : fnRt cX6_setBar none _ V := hR
  refine fn_aload_0 hV dX6_setBar_0 ?_
  refine fn_getR hV dX6_setBar_1 fl_X6_21 fr_17_3 ?_
  refine fn_iload_1 hV dX6_setBar_4 ?_
  refine fn_iload_2 hV dX6_setBar_5 ?_
  refine fn_iast hV dX6_setBar_6 ar_21 (by omega) (by omega) ?_
  refine fn_aload_0 hV dX6_setBar_7 ?_
  refine fn_getR hV dX6_setBar_8 fl_X6_18 fr_17_2 ?_
  refine fn_iload_1 hV dX6_setBar_11 ?_
  refine fn_iload_3 hV dX6_setBar_12 ?_
  refine fn_iast hV dX6_setBar_13 ar_20 (by omega) (by omega) ?_
  refine fn_aload_0 hV dX6_setBar_14 ?_
  refine fn_getR hV dX6_setBar_15 fl_X6_24 fr_17_4 ?_
  refine fn_iload_1 hV dX6_setBar_18 ?_
  refine fn_iload_4 hV dX6_setBar_19 ?_
  refine fn_bast hV dX6_setBar_21 ar_22 (by omega) (by omega) (by omega) ?_
  exact fn_vret hR dX6_setBar_22 ⟨rfl, rfl⟩

set_option maxHeartbeats 4000000 in
set_option maxRecDepth 20000 in
theorem c_X6_setBall (E : fnE) (σ : fnMem) (b s : Int) : fnOk E mX6_setBall [.ref 17, zI b, zI s] σ (fnIs none (fnUp (fnUp σ 17 5 b) 17 6 s)) := by
  refine fnOk.of [.ref 17, zI b, zI s] rfl (by decide +kernel) rfl (fun V hV hR => ?_)
  replace hV : fnCx E RX6 cX6_setBall 3 0 0 V := hV
  replace hR : fnRt cX6_setBall none _ V := hR
  refine fn_aload_0 hV dX6_setBall_0 ?_
  refine fn_iload_1 hV dX6_setBall_1 ?_
  refine fn_putIz hV 5 dX6_setBall_2 fp_X6_28 fi_17_5 rfl ?_
  refine fn_aload_0 hV dX6_setBall_5 ?_
  refine fn_iload_2 hV dX6_setBall_6 ?_
  refine fn_putIz hV 6 dX6_setBall_7 fp_X6_32 fi_17_6 rfl ?_
  exact fn_vret hR dX6_setBall_10 ⟨rfl, rfl⟩

set_option maxHeartbeats 4000000 in
set_option maxRecDepth 20000 in
theorem c_X6_clearLaid (E : fnE) (σ : fnMem) : fnOk E mX6_clearLaid [.ref 17] σ (fnIs none (fnUp (fnUp (fnSt σ 20 (fun j => if 0 ≤ j ∧ j < ((6 : Nat) : Int) then 0 else σ 20 j)) 17 5 (-2009)) 17 6 0)) := by
  refine fnOk.of [.ref 17] rfl (by decide +kernel) rfl (fun V hV hR => ?_)
  replace hV : fnCx E RX6 cX6_clearLaid 1 1 23 V := hV
  replace hR : fnRt cX6_clearLaid none _ V := hR
  refine fn_aload_0 hV dX6_clearLaid_0 ?_
  refine fn_getR hV dX6_clearLaid_1 fl_X6_18 fr_17_2 ?_
  refine fn_iconst hV dX6_clearLaid_4 ?_
  refine fn_cS2v hV (c_J7_fill_53178 E _ _ _ ar_20 _) ms_J7_fill_53178 lk_X6_66 dX6_clearLaid_5 ⟨rfl, rfl⟩ rfl ?_
  refine fn_aload_0 hV dX6_clearLaid_8 ?_
  refine fn_sipush hV dX6_clearLaid_9 rfl ?_
  refine fn_putIz hV 5 dX6_clearLaid_12 fp_X6_28 fi_17_5 rfl ?_
  refine fn_aload_0 hV dX6_clearLaid_15 ?_
  refine fn_iconst hV dX6_clearLaid_16 ?_
  refine fn_putIz hV 6 dX6_clearLaid_17 fp_X6_32 fi_17_6 rfl ?_
  exact fn_vret hR dX6_clearLaid_20 ⟨rfl, rfl⟩

set_option maxHeartbeats 4000000 in
set_option maxRecDepth 20000 in
theorem c_X6_howManyLaid (E : fnE) (σ : fnMem) (hK : kSt σ) : fnOk E mX6_howManyLaid [.ref 17] σ (fnIs (some (zI ((if σ 17 5 ≠ -2009 then 1 else 0) + zsum (fun k => if σ 20 k ≠ 0 then 1 else 0) 6))) σ) := by
  refine fnOk.of [.ref 17, .null, .null] rfl (by decide +kernel) rfl (fun V hV hR => ?_)
  replace hV : fnCx E RX6 cX6_howManyLaid 3 1 21 V := hV
  replace hR : fnRt cX6_howManyLaid (some .int) _ V := hR
  have k1 := hK.2.2.2.2.2
  refine fn_aload_0 hV dX6_howManyLaid_0 ?_
  refine fn_getIz hV 5 dX6_howManyLaid_1 fl_X6_28 fi_17_5 rfl ?_
  refine fn_sipush hV dX6_howManyLaid_4 rfl ?_
  refine fn_t_icmp_ne hV (by omega) (by omega) dX6_howManyLaid_7 dX6_howManyLaid_10 dX6_howManyLaid_11 dX6_howManyLaid_14 ?_
  refine fn_istore_1 hV dX6_howManyLaid_15 rfl rfl ?_
  refine fn_iconst hV dX6_howManyLaid_16 ?_
  refine fn_istore_2 hV dX6_howManyLaid_17 rfl rfl ?_
  have L : ∀ k : Nat, k ≤ 6 → ∀ (i a : Int), True → (i = k) → (a = (if σ 17 5 ≠ -2009 then 1 else 0) + zsum (fun k => if σ 20 k ≠ 0 then 1 else 0) k) → V 18 [.ref 17, zI a, zI i] [] σ := by
    refine fn_rec (fun k hk ihL => ?_)
    intro i a _ hi ha
    refine fn_iload_2 hV dX6_howManyLaid_18 ?_
    refine fn_bipush hV dX6_howManyLaid_19 rfl ?_
    refine fn_icmp_ge hV (by omega) (by omega) dX6_howManyLaid_21 (fun q21 => ?_) (fun q21 => ?_)
    · refine fn_iload_1 hV dX6_howManyLaid_46 ?_
      exact fn_iret hR dX6_howManyLaid_47 (fnIs.i (by rw [ha, show k = 6 by omega]))
    · refine fn_iload_1 hV dX6_howManyLaid_24 ?_
      refine fn_aload_0 hV dX6_howManyLaid_25 ?_
      refine fn_iload_2 hV dX6_howManyLaid_26 ?_
      refine fn_cV1 hV (c_X6_isBarLaid E _ hK _ (by omega)) mv_X6_isBarLaid lk_X6_72 dX6_howManyLaid_27 sh_17 rfl ⟨rfl, rfl⟩ rfl ?_
      refine fn_t_ifeqb hV dX6_howManyLaid_30 dX6_howManyLaid_33 dX6_howManyLaid_34 dX6_howManyLaid_37 ?_
      refine fn_iadd hV dX6_howManyLaid_38 ?_
      refine fn_istore_1 hV dX6_howManyLaid_39 rfl rfl ?_
      refine fn_iinc_2 hV dX6_howManyLaid_40 rfl rfl ?_
      refine fn_goto hV dX6_howManyLaid_43 ?_
      exact ihL (k + 1) (by omega) (by omega) _ _ trivial (by omega) (by rw [zsum, ← hi, ha]; omega)
  exact L 0 (by omega) _ _ trivial (by omega) (by rw [zsum]; omega)

set_option maxHeartbeats 4000000 in
set_option maxRecDepth 20000 in
theorem c_X6_howManyStored (E : fnE) (σ : fnMem) (hK : kSt σ) : fnOk E mX6_howManyStored [.ref 17] σ (fnIs (some (zI (zsum (fun k => if σ 18 k ≠ 0 then 1 else 0) 6 + zsum (fun k => if σ 19 k ≠ 0 then 1 else 0) 4))) σ) := by
  refine fnOk.of [.ref 17, .null, .null] rfl (by decide +kernel) rfl (fun V hV hR => ?_)
  replace hV : fnCx E RX6 cX6_howManyStored 3 0 0 V := hV
  replace hR : fnRt cX6_howManyStored (some .int) _ V := hR
  refine fn_iconst hV dX6_howManyStored_0 ?_
  refine fn_istore_1 hV dX6_howManyStored_1 rfl rfl ?_
  refine fn_iconst hV dX6_howManyStored_2 ?_
  refine fn_istore_2 hV dX6_howManyStored_3 rfl rfl ?_
  have L : ∀ k : Nat, k ≤ 6 → ∀ (i a : Int), True → (i = k) → (a = zsum (fun k => if σ 18 k ≠ 0 then 1 else 0) k) → V 4 [.ref 17, zI a, zI i] [] σ := by
    refine fn_rec (fun k hk ihL => ?_)
    intro i a _ hi ha
    refine fn_iload_2 hV dX6_howManyStored_4 ?_
    refine fn_bipush hV dX6_howManyStored_5 rfl ?_
    refine fn_icmp_ge hV (by omega) (by omega) dX6_howManyStored_7 (fun q7 => ?_) (fun q7 => ?_)
    · refine fn_iconst hV dX6_howManyStored_33 ?_
      refine fn_istore_2 hV dX6_howManyStored_34 rfl rfl ?_
      have L2 : ∀ k2 : Nat, k2 ≤ 4 → ∀ (i b : Int), True → (i = k2) → (b = zsum (fun k => if σ 18 k ≠ 0 then 1 else 0) 6 + zsum (fun k => if σ 19 k ≠ 0 then 1 else 0) k2) → V 35 [.ref 17, zI b, zI i] [] σ := by
        refine fn_rec (fun k2 hk2 ihL2 => ?_)
        intro i b _ hi hb
        refine fn_iload_2 hV dX6_howManyStored_35 ?_
        refine fn_iconst hV dX6_howManyStored_36 ?_
        refine fn_icmp_ge hV (by omega) (by omega) dX6_howManyStored_37 (fun q37 => ?_) (fun q37 => ?_)
        · refine fn_iload_1 hV dX6_howManyStored_63 ?_
          exact fn_iret hR dX6_howManyStored_64 (fnIs.i (by rw [hb, show k2 = 4 by omega]))
        · have s1 := hK.2.1 i (by omega) (by omega)
          refine fn_iload_1 hV dX6_howManyStored_40 ?_
          refine fn_aload_0 hV dX6_howManyStored_41 ?_
          refine fn_getR hV dX6_howManyStored_42 fl_X6_15 fr_17_1 ?_
          refine fn_iload_2 hV dX6_howManyStored_45 ?_
          refine fn_iald hV dX6_howManyStored_46 ar_19 (by omega) (by omega) ?_
          refine fn_t_if_ne hV (by omega) dX6_howManyStored_47 dX6_howManyStored_50 dX6_howManyStored_51 dX6_howManyStored_54 ?_
          refine fn_iadd hV dX6_howManyStored_55 ?_
          refine fn_istore_1 hV dX6_howManyStored_56 rfl rfl ?_
          refine fn_iinc_2 hV dX6_howManyStored_57 rfl rfl ?_
          refine fn_goto hV dX6_howManyStored_60 ?_
          exact ihL2 (k2 + 1) (by omega) (by omega) _ _ trivial (by omega) (by rw [zsum_s _ k2, ← hi, hb]; omega)
      exact L2 0 (by omega) _ _ trivial (by omega) (by rw [ha, show k = 6 by omega, zsum]; omega)
    · have s1 := hK.1 i (by omega) (by omega)
      refine fn_iload_1 hV dX6_howManyStored_10 ?_
      refine fn_aload_0 hV dX6_howManyStored_11 ?_
      refine fn_getR hV dX6_howManyStored_12 fl_X6_9 fr_17_0 ?_
      refine fn_iload_2 hV dX6_howManyStored_15 ?_
      refine fn_iald hV dX6_howManyStored_16 ar_18 (by omega) (by omega) ?_
      refine fn_t_if_ne hV (by omega) dX6_howManyStored_17 dX6_howManyStored_20 dX6_howManyStored_21 dX6_howManyStored_24 ?_
      refine fn_iadd hV dX6_howManyStored_25 ?_
      refine fn_istore_1 hV dX6_howManyStored_26 rfl rfl ?_
      refine fn_iinc_2 hV dX6_howManyStored_27 rfl rfl ?_
      refine fn_goto hV dX6_howManyStored_30 ?_
      exact ihL (k + 1) (by omega) (by omega) _ _ trivial (by omega) (by rw [zsum, ← hi, ha])
  exact L 0 (by omega) _ _ trivial (by omega) rfl

set_option maxHeartbeats 4000000 in
set_option maxRecDepth 20000 in
theorem c_X6_pullOnAxis (E : fnE) (σ : fnMem) (hK : kSt σ) (axis : Int) (hx : 0 ≤ axis ∧ axis ≤ 1) : fnOk E mX6_pullOnAxis [.ref 17, zI axis] σ (fnIs (some (zI (zsum (zpax (σ 18) (σ 20) (σ 21) (σ 22) axis) 6))) σ) := by
  refine fnOk.of [.ref 17, zI axis, .null, .null, .null] rfl (by decide +kernel) rfl (fun V hV hR => ?_)
  replace hV : fnCx E RX6 cX6_pullOnAxis 5 1 21 V := hV
  replace hR : fnRt cX6_pullOnAxis (some .int) _ V := hR
  refine fn_iconst hV dX6_pullOnAxis_0 ?_
  refine fn_istore_2 hV dX6_pullOnAxis_1 rfl rfl ?_
  refine fn_iconst hV dX6_pullOnAxis_2 ?_
  refine fn_istore_3 hV dX6_pullOnAxis_3 rfl rfl ?_
  have L : ∀ k : Nat, k ≤ 6 → ∀ (i a : Int), True → (i = k) → (a = zsum (zpax (σ 18) (σ 20) (σ 21) (σ 22) axis) k) → V 4 [.ref 17, zI axis, zI a, zI i, .null] [] σ := by
    refine fn_rec (fun k hk ihL => ?_)
    intro i a _ hi ha
    refine fn_iload_3 hV dX6_pullOnAxis_4 ?_
    refine fn_bipush hV dX6_pullOnAxis_5 rfl ?_
    refine fn_icmp_ge hV (by omega) (by omega) dX6_pullOnAxis_7 (fun q7 => ?_) (fun q7 => ?_)
    · refine fn_iload_2 hV dX6_pullOnAxis_71 ?_
      exact fn_iret hR dX6_pullOnAxis_72 (fnIs.i (by rw [ha, show k = 6 by omega]))
    · have k1 := hK.1 i (by omega) (by omega)
      have k2 := hK.2.2.1 i (by omega) (by omega)
      have k3 := hK.2.2.2.1 i (by omega) (by omega)
      have k4 := hK.2.2.2.2.1 i (by omega) (by omega)
      refine fn_aload_0 hV dX6_pullOnAxis_10 ?_
      refine fn_iload_3 hV dX6_pullOnAxis_11 ?_
      refine fn_cV1 hV (c_X6_isBarLaid E _ hK _ (by omega)) mv_X6_isBarLaid lk_X6_72 dX6_pullOnAxis_12 sh_17 rfl ⟨rfl, rfl⟩ rfl ?_
      refine fn_ifeqb hV dX6_pullOnAxis_15 (fun q15 => ?_) (fun q15 => ?_)
      · refine fn_iinc_3 hV dX6_pullOnAxis_65 rfl rfl ?_
        refine fn_goto hV dX6_pullOnAxis_68 ?_
        exact ihL (k + 1) (by omega) (by omega) _ _ trivial (by omega) (by rw [zsum, ← hi, ← ha, zpax, if_neg (by omega)]; omega)
      · refine fn_aload_0 hV dX6_pullOnAxis_18 ?_
        refine fn_getR hV dX6_pullOnAxis_19 fl_X6_21 fr_17_3 ?_
        refine fn_iload_3 hV dX6_pullOnAxis_22 ?_
        refine fn_iald hV dX6_pullOnAxis_23 ar_21 (by omega) (by omega) ?_
        refine fn_iload_1 hV dX6_pullOnAxis_24 ?_
        refine fn_icmp_ne hV (by omega) (by omega) dX6_pullOnAxis_25 (fun q25 => ?_) (fun q25 => ?_)
        · refine fn_iinc_3 hV dX6_pullOnAxis_65 rfl rfl ?_
          refine fn_goto hV dX6_pullOnAxis_68 ?_
          exact ihL (k + 1) (by omega) (by omega) _ _ trivial (by omega) (by rw [zsum, ← hi, ← ha, zpax, if_neg (by omega)]; omega)
        · refine fn_aload_0 hV dX6_pullOnAxis_28 ?_
          refine fn_getR hV dX6_pullOnAxis_29 fl_X6_9 fr_17_0 ?_
          refine fn_iload_3 hV dX6_pullOnAxis_32 ?_
          refine fn_iald hV dX6_pullOnAxis_33 ar_18 (by omega) (by omega) ?_
          refine fn_aload_0 hV dX6_pullOnAxis_34 ?_
          refine fn_getR hV dX6_pullOnAxis_35 fl_X6_18 fr_17_2 ?_
          refine fn_iload_3 hV dX6_pullOnAxis_38 ?_
          refine fn_iald hV dX6_pullOnAxis_39 ar_20 (by omega) (by omega) ?_
          refine fn_cS2 hV (c_X6_pullOfBar E _ _ _ (by omega) (by omega)) ms_X6_pullOfBar lk_X6_75 dX6_pullOnAxis_40 ⟨rfl, rfl⟩ rfl ?_
          refine fn_istore_4 hV dX6_pullOnAxis_43 rfl rfl ?_
          refine fn_iload_2 hV dX6_pullOnAxis_45 ?_
          refine fn_aload_0 hV dX6_pullOnAxis_46 ?_
          refine fn_getR hV dX6_pullOnAxis_47 fl_X6_24 fr_17_4 ?_
          refine fn_iload_3 hV dX6_pullOnAxis_50 ?_
          refine fn_bald hV dX6_pullOnAxis_51 ar_22 (by omega) (by omega) ?_
          refine fn_if_eq hV (by omega) dX6_pullOnAxis_52 (fun q52 => ?_) (fun q52 => ?_)
          · refine fn_iload_4 hV dX6_pullOnAxis_61 ?_
            refine fn_iadd hV dX6_pullOnAxis_63 ?_
            refine fn_istore_2 hV dX6_pullOnAxis_64 rfl rfl ?_
            refine fn_iinc_3 hV dX6_pullOnAxis_65 rfl rfl ?_
            refine fn_goto hV dX6_pullOnAxis_68 ?_
            refine fn_nul_4 hV ?_
            exact ihL (k + 1) (by omega) (by omega) _ _ trivial (by omega) (by rw [zsum, ← hi, ← ha, zpax, if_pos ⟨q15, q25⟩, if_neg (by omega)])
          · refine fn_iload_4 hV dX6_pullOnAxis_55 ?_
            refine fn_ineg hV dX6_pullOnAxis_57 ?_
            refine fn_goto hV dX6_pullOnAxis_58 ?_
            refine fn_iadd hV dX6_pullOnAxis_63 ?_
            refine fn_istore_2 hV dX6_pullOnAxis_64 rfl rfl ?_
            refine fn_iinc_3 hV dX6_pullOnAxis_65 rfl rfl ?_
            refine fn_goto hV dX6_pullOnAxis_68 ?_
            refine fn_nul_4 hV ?_
            exact ihL (k + 1) (by omega) (by omega) _ _ trivial (by omega) (by rw [zsum, ← hi, ← ha, zpax, if_pos ⟨q15, q25⟩, if_pos (by omega)])
  exact L 0 (by omega) _ _ trivial (by omega) rfl

set_option maxHeartbeats 4000000 in
set_option maxRecDepth 20000 in
theorem c_X6_pullOfLaidBall (E : fnE) (σ : fnMem) (hK : kSt σ) : fnOk E mX6_pullOfLaidBall [.ref 17] σ (fnIs (some (zI (if σ 17 5 ≠ -2009 then zpl (σ 19 (σ 17 5)) (σ 17 6) else 0))) σ) := by
  refine fnOk.of [.ref 17] rfl (by decide +kernel) rfl (fun V hV hR => ?_)
  replace hV : fnCx E RX6 cX6_pullOfLaidBall 1 2 42 V := hV
  replace hR : fnRt cX6_pullOfLaidBall (some .int) _ V := hR
  have k1 := hK.2.2.2.2.2
  refine fn_aload_0 hV dX6_pullOfLaidBall_0 ?_
  refine fn_getIz hV 5 dX6_pullOfLaidBall_1 fl_X6_28 fi_17_5 rfl ?_
  refine fn_cN1 hV (c_X10_isBall E _ _ (by omega)) ms_X10_isBall lk_X6_56 dX6_pullOfLaidBall_4 ⟨rfl, rfl⟩ rfl ?_
  refine fn_ifeqb hV dX6_pullOfLaidBall_7 (fun q7 => ?_) (fun q7 => ?_)
  · refine fn_iconst hV dX6_pullOfLaidBall_29 ?_
    exact fn_iret hR dX6_pullOfLaidBall_30 (fnIs.i (by first | rw [if_pos (by omega)] | rw [if_neg (by omega)]))
  · have k2 := hK.2.1 (σ 17 5) (by omega) (by omega)
    refine fn_aload_0 hV dX6_pullOfLaidBall_10 ?_
    refine fn_getR hV dX6_pullOfLaidBall_11 fl_X6_15 fr_17_1 ?_
    refine fn_aload_0 hV dX6_pullOfLaidBall_14 ?_
    refine fn_getIz hV 5 dX6_pullOfLaidBall_15 fl_X6_28 fi_17_5 rfl ?_
    refine fn_iald hV dX6_pullOfLaidBall_18 ar_19 (by omega) (by omega) ?_
    refine fn_aload_0 hV dX6_pullOfLaidBall_19 ?_
    refine fn_getIz hV 6 dX6_pullOfLaidBall_20 fl_X6_32 fi_17_6 rfl ?_
    refine fn_cS2 hV (c_X6_pullOfBall E _ _ _ (by omega) (by omega)) ms_X6_pullOfBall lk_X6_79 dX6_pullOfLaidBall_23 ⟨rfl, rfl⟩ rfl ?_
    refine fn_goto hV dX6_pullOfLaidBall_26 ?_
    exact fn_iret hR dX6_pullOfLaidBall_30 (fnIs.i (by first | rw [if_pos (by omega)] | rw [if_neg (by omega)]))

set_option maxHeartbeats 4000000 in
set_option maxRecDepth 20000 in
theorem c_X6_barOfCode (E : fnE) (σ : fnMem) (d : Int) (hd : 0 ≤ d ∧ d ≤ 96) : fnOk E mX6_barOfCode [zI d] σ (fnIs (some (zI (if d = 0 then -2009 else (d - 1) / 16))) σ) := by
  refine fnOk.of [zI d] rfl (by decide +kernel) rfl (fun V hV hR => ?_)
  replace hV : fnCx E RX6 cX6_barOfCode 1 0 0 V := hV
  replace hR : fnRt cX6_barOfCode (some .int) _ V := hR
  refine fn_iload_0 hV dX6_barOfCode_0 ?_
  refine fn_if_gt hV (by omega) dX6_barOfCode_1 (fun q1 => ?_) (fun q1 => ?_)
  · refine fn_iload_0 hV dX6_barOfCode_10 ?_
    refine fn_iconst hV dX6_barOfCode_11 ?_
    refine fn_isub hV dX6_barOfCode_12 ?_
    refine fn_bipush hV dX6_barOfCode_13 rfl ?_
    refine fn_idivp hV dX6_barOfCode_15 (by omega) (by omega) ?_
    exact fn_iret hR dX6_barOfCode_16 (fnIs.i (by first | rw [if_pos (by omega)] | rw [if_neg (by omega)]))
  · refine fn_sipush hV dX6_barOfCode_4 rfl ?_
    refine fn_goto hV dX6_barOfCode_7 ?_
    exact fn_iret hR dX6_barOfCode_16 (fnIs.i (by first | rw [if_pos (by omega)] | rw [if_neg (by omega)]))

set_option maxHeartbeats 4000000 in
set_option maxRecDepth 20000 in
theorem c_X6_barSlotOfCode (E : fnE) (σ : fnMem) (d : Int) (hd : 1 ≤ d ∧ d ≤ 96) : fnOk E mX6_barSlotOfCode [zI d] σ (fnIs (some (zI (2 + (d - 1) % 16 / 2))) σ) := by
  refine fnOk.of [zI d] rfl (by decide +kernel) rfl (fun V hV hR => ?_)
  replace hV : fnCx E RX6 cX6_barSlotOfCode 1 0 0 V := hV
  replace hR : fnRt cX6_barSlotOfCode (some .int) _ V := hR
  refine fn_iconst hV dX6_barSlotOfCode_0 ?_
  refine fn_iload_0 hV dX6_barSlotOfCode_1 ?_
  refine fn_iconst hV dX6_barSlotOfCode_2 ?_
  refine fn_isub hV dX6_barSlotOfCode_3 ?_
  refine fn_bipush hV dX6_barSlotOfCode_4 rfl ?_
  refine fn_iremp hV dX6_barSlotOfCode_6 (by omega) (by omega) ?_
  refine fn_iconst hV dX6_barSlotOfCode_7 ?_
  refine fn_idivp hV dX6_barSlotOfCode_8 (by omega) (by omega) ?_
  refine fn_iadd hV dX6_barSlotOfCode_9 ?_
  exact fn_iret hR dX6_barSlotOfCode_10 (fnIs.i rfl)

set_option maxHeartbeats 4000000 in
set_option maxRecDepth 20000 in
theorem c_X6_isTurnedCode (E : fnE) (σ : fnMem) (d : Int) (hd : 1 ≤ d ∧ d ≤ 96) : fnOk E mX6_isTurnedCode [zI d] σ (fnIs (some (zI (if (d - 1) % 2 = 1 then 1 else 0))) σ) := by
  refine fnOk.of [zI d] rfl (by decide +kernel) rfl (fun V hV hR => ?_)
  replace hV : fnCx E RX6 cX6_isTurnedCode 1 0 0 V := hV
  replace hR : fnRt cX6_isTurnedCode (some .boolean) _ V := hR
  refine fn_iload_0 hV dX6_isTurnedCode_0 ?_
  refine fn_iconst hV dX6_isTurnedCode_1 ?_
  refine fn_isub hV dX6_isTurnedCode_2 ?_
  refine fn_iconst hV dX6_isTurnedCode_3 ?_
  refine fn_iremp hV dX6_isTurnedCode_4 (by omega) (by omega) ?_
  refine fn_iconst hV dX6_isTurnedCode_5 ?_
  refine fn_t_icmp_ne hV (by omega) (by omega) dX6_isTurnedCode_6 dX6_isTurnedCode_9 dX6_isTurnedCode_10 dX6_isTurnedCode_13 ?_
  exact fn_zret hR dX6_isTurnedCode_14 (by first | exact Or.inl rfl | exact Or.inr rfl | (split <;> simp)) (fnIs.i (by (repeat' split) <;> omega))

set_option maxHeartbeats 4000000 in
set_option maxRecDepth 20000 in
theorem c_X6_ballOfCode (E : fnE) (σ : fnMem) (d : Int) (hd : 0 ≤ d ∧ d ≤ 76) : fnOk E mX6_ballOfCode [zI d] σ (fnIs (some (zI (if d = 0 then -2009 else (d - 1) / 19))) σ) := by
  refine fnOk.of [zI d] rfl (by decide +kernel) rfl (fun V hV hR => ?_)
  replace hV : fnCx E RX6 cX6_ballOfCode 1 0 0 V := hV
  replace hR : fnRt cX6_ballOfCode (some .int) _ V := hR
  refine fn_iload_0 hV dX6_ballOfCode_0 ?_
  refine fn_if_gt hV (by omega) dX6_ballOfCode_1 (fun q1 => ?_) (fun q1 => ?_)
  · refine fn_iload_0 hV dX6_ballOfCode_10 ?_
    refine fn_iconst hV dX6_ballOfCode_11 ?_
    refine fn_isub hV dX6_ballOfCode_12 ?_
    refine fn_bipush hV dX6_ballOfCode_13 rfl ?_
    refine fn_idivp hV dX6_ballOfCode_15 (by omega) (by omega) ?_
    exact fn_iret hR dX6_ballOfCode_16 (fnIs.i (by first | rw [if_pos (by omega)] | rw [if_neg (by omega)]))
  · refine fn_sipush hV dX6_ballOfCode_4 rfl ?_
    refine fn_goto hV dX6_ballOfCode_7 ?_
    exact fn_iret hR dX6_ballOfCode_16 (fnIs.i (by first | rw [if_pos (by omega)] | rw [if_neg (by omega)]))

set_option maxHeartbeats 4000000 in
set_option maxRecDepth 20000 in
theorem c_X6_ballSlotOfCode (E : fnE) (σ : fnMem) (d : Int) (hd : 1 ≤ d ∧ d ≤ 76) : fnOk E mX6_ballSlotOfCode [zI d] σ (fnIs (some (zI (2 + (d - 1) % 19))) σ) := by
  refine fnOk.of [zI d] rfl (by decide +kernel) rfl (fun V hV hR => ?_)
  replace hV : fnCx E RX6 cX6_ballSlotOfCode 1 0 0 V := hV
  replace hR : fnRt cX6_ballSlotOfCode (some .int) _ V := hR
  refine fn_iconst hV dX6_ballSlotOfCode_0 ?_
  refine fn_iload_0 hV dX6_ballSlotOfCode_1 ?_
  refine fn_iconst hV dX6_ballSlotOfCode_2 ?_
  refine fn_isub hV dX6_ballSlotOfCode_3 ?_
  refine fn_bipush hV dX6_ballSlotOfCode_4 rfl ?_
  refine fn_iremp hV dX6_ballSlotOfCode_6 (by omega) (by omega) ?_
  refine fn_iadd hV dX6_ballSlotOfCode_7 ?_
  exact fn_iret hR dX6_ballSlotOfCode_8 (fnIs.i rfl)

set_option maxHeartbeats 4000000 in
set_option maxRecDepth 20000 in
theorem c_X6_hasBarOfCode (E : fnE) (σ : fnMem) (hK : kSt σ) (d : Int) (hd : 0 ≤ d ∧ d ≤ 96) : fnOk E mX6_hasBarOfCode [.ref 17, zI d] σ (fnIs (some (zI (if d = 0 ∨ σ 18 ((d - 1) / 16) ≠ 0 then 1 else 0))) σ) := by
  refine fnOk.of [.ref 17, zI d, .null] rfl (by decide +kernel) rfl (fun V hV hR => ?_)
  replace hV : fnCx E RX6 cX6_hasBarOfCode 3 2 42 V := hV
  replace hR : fnRt cX6_hasBarOfCode (some .boolean) _ V := hR
  refine fn_iload_1 hV dX6_hasBarOfCode_0 ?_
  refine fn_cS1 hV (c_X6_barOfCode E _ _ (by omega)) ms_X6_barOfCode lk_X6_35 dX6_hasBarOfCode_1 ⟨rfl, rfl⟩ rfl ?_
  refine fn_istore_2 hV dX6_hasBarOfCode_4 rfl rfl ?_
  refine fn_iload_2 hV dX6_hasBarOfCode_5 ?_
  refine fn_cN1 hV (c_X10_isBar E _ _ (by split <;> omega)) ms_X10_isBar lk_X6_39 dX6_hasBarOfCode_6 ⟨rfl, rfl⟩ rfl ?_
  refine fn_ifeqb hV dX6_hasBarOfCode_9 (fun q9 => ?_) (fun q9 => ?_)
  · have d0 : d = 0 := by
      by_cases q : d = 0
      · exact q
      · rw [if_neg q] at q9; omega
    refine fn_iconst hV dX6_hasBarOfCode_21 ?_
    refine fn_goto hV dX6_hasBarOfCode_22 ?_
    exact fn_zret hR dX6_hasBarOfCode_26 (by first | exact Or.inl rfl | exact Or.inr rfl | (split <;> simp)) (fnIs.i (by (repeat' split) <;> omega))
  · have d0 : d ≠ 0 := by intro q; rw [if_pos q] at q9; omega
    rw [if_neg d0]
    have k1 := hK.1 ((d - 1) / 16) (by omega) (by omega)
    refine fn_aload_0 hV dX6_hasBarOfCode_12 ?_
    refine fn_getR hV dX6_hasBarOfCode_13 fl_X6_9 fr_17_0 ?_
    refine fn_iload_2 hV dX6_hasBarOfCode_16 ?_
    refine fn_iald hV dX6_hasBarOfCode_17 ar_18 (by omega) (by omega) ?_
    refine fn_if_eq hV (by omega) dX6_hasBarOfCode_18 (fun q18 => ?_) (fun q18 => ?_)
    · refine fn_iconst hV dX6_hasBarOfCode_25 ?_
      exact fn_zret hR dX6_hasBarOfCode_26 (by first | exact Or.inl rfl | exact Or.inr rfl | (split <;> simp)) (fnIs.i (by (repeat' split) <;> omega))
    · refine fn_iconst hV dX6_hasBarOfCode_21 ?_
      refine fn_goto hV dX6_hasBarOfCode_22 ?_
      exact fn_zret hR dX6_hasBarOfCode_26 (by first | exact Or.inl rfl | exact Or.inr rfl | (split <;> simp)) (fnIs.i (by (repeat' split) <;> omega))

set_option maxHeartbeats 4000000 in
set_option maxRecDepth 20000 in
theorem c_X6_hasBallOfCode (E : fnE) (σ : fnMem) (hK : kSt σ) (d : Int) (hd : 1 ≤ d ∧ d ≤ 76) : fnOk E mX6_hasBallOfCode [.ref 17, zI d] σ (fnIs (some (zI (if σ 19 ((d - 1) / 19) ≠ 0 ∧ σ 19 ((d - 1) / 19) ≤ 2 + (d - 1) % 19 then 1 else 0))) σ) := by
  refine fnOk.of [.ref 17, zI d, .null] rfl (by decide +kernel) rfl (fun V hV hR => ?_)
  replace hV : fnCx E RX6 cX6_hasBallOfCode 3 2 42 V := hV
  replace hR : fnRt cX6_hasBallOfCode (some .boolean) _ V := hR
  have k1 := hK.2.1 ((d - 1) / 19) (by omega) (by omega)
  refine fn_iload_1 hV dX6_hasBallOfCode_0 ?_
  refine fn_cS1 hV (c_X6_ballOfCode E _ _ (by omega)) ms_X6_ballOfCode lk_X6_53 dX6_hasBallOfCode_1 ⟨rfl, rfl⟩ rfl ?_
  refine fn_istore_2 hV dX6_hasBallOfCode_4 rfl rfl ?_
  rw [if_neg (show ¬ d = 0 by omega)]
  refine fn_iload_2 hV dX6_hasBallOfCode_5 ?_
  refine fn_cN1 hV (c_X10_isBall E _ _ (by omega)) ms_X10_isBall lk_X6_56 dX6_hasBallOfCode_6 ⟨rfl, rfl⟩ rfl ?_
  refine fn_ifeqb hV dX6_hasBallOfCode_9 (fun q9 => ?_) (fun q9 => ?_)
  · exact absurd q9 (by omega)
  · refine fn_aload_0 hV dX6_hasBallOfCode_12 ?_
    refine fn_getR hV dX6_hasBallOfCode_13 fl_X6_15 fr_17_1 ?_
    refine fn_iload_2 hV dX6_hasBallOfCode_16 ?_
    refine fn_iald hV dX6_hasBallOfCode_17 ar_19 (by omega) (by omega) ?_
    refine fn_if_eq hV (by omega) dX6_hasBallOfCode_18 (fun q18 => ?_) (fun q18 => ?_)
    · refine fn_iconst hV dX6_hasBallOfCode_38 ?_
      exact fn_zret hR dX6_hasBallOfCode_39 (by first | exact Or.inl rfl | exact Or.inr rfl | (split <;> simp)) (fnIs.i (by (repeat' split) <;> omega))
    · refine fn_aload_0 hV dX6_hasBallOfCode_21 ?_
      refine fn_getR hV dX6_hasBallOfCode_22 fl_X6_15 fr_17_1 ?_
      refine fn_iload_2 hV dX6_hasBallOfCode_25 ?_
      refine fn_iald hV dX6_hasBallOfCode_26 ar_19 (by omega) (by omega) ?_
      refine fn_iload_1 hV dX6_hasBallOfCode_27 ?_
      refine fn_cS1 hV (c_X6_ballSlotOfCode E _ _ (by omega)) ms_X6_ballSlotOfCode lk_X6_59 dX6_hasBallOfCode_28 ⟨rfl, rfl⟩ rfl ?_
      refine fn_icmp_gt hV (by omega) (by omega) dX6_hasBallOfCode_31 (fun q31 => ?_) (fun q31 => ?_)
      · refine fn_iconst hV dX6_hasBallOfCode_38 ?_
        exact fn_zret hR dX6_hasBallOfCode_39 (by first | exact Or.inl rfl | exact Or.inr rfl | (split <;> simp)) (fnIs.i (by (repeat' split) <;> omega))
      · refine fn_iconst hV dX6_hasBallOfCode_34 ?_
        refine fn_goto hV dX6_hasBallOfCode_35 ?_
        exact fn_zret hR dX6_hasBallOfCode_39 (by first | exact Or.inl rfl | exact Or.inr rfl | (split <;> simp)) (fnIs.i (by (repeat' split) <;> omega))

set_option maxHeartbeats 4000000 in
set_option maxRecDepth 20000 in
theorem c_X6_pullOfBarCode (E : fnE) (σ : fnMem) (hK : kSt σ) (d : Int) (hd : 0 ≤ d ∧ d ≤ 96) : fnOk E mX6_pullOfBarCode [.ref 17, zI d] σ (fnIs (some (zI (zpbc (σ 18) d))) σ) := by
  refine fnOk.of [.ref 17, zI d, .null, .null] rfl (by decide +kernel) rfl (fun V hV hR => ?_)
  replace hV : fnCx E RX6 cX6_pullOfBarCode 4 2 42 V := hV
  replace hR : fnRt cX6_pullOfBarCode (some .int) _ V := hR
  refine fn_iload_1 hV dX6_pullOfBarCode_0 ?_
  refine fn_cS1 hV (c_X6_barOfCode E _ _ (by omega)) ms_X6_barOfCode lk_X6_35 dX6_pullOfBarCode_1 ⟨rfl, rfl⟩ rfl ?_
  refine fn_istore_2 hV dX6_pullOfBarCode_4 rfl rfl ?_
  refine fn_iload_2 hV dX6_pullOfBarCode_5 ?_
  refine fn_cN1 hV (c_X10_isBar E _ _ (by split <;> omega)) ms_X10_isBar lk_X6_39 dX6_pullOfBarCode_6 ⟨rfl, rfl⟩ rfl ?_
  refine fn_ifneb hV dX6_pullOfBarCode_9 (fun q9 => ?_) (fun q9 => ?_)
  · have d0 : d ≠ 0 := by intro q; rw [if_pos q] at q9; omega
    rw [if_neg d0]
    have k1 := hK.1 ((d - 1) / 16) (by omega) (by omega)
    refine fn_aload_0 hV dX6_pullOfBarCode_14 ?_
    refine fn_getR hV dX6_pullOfBarCode_15 fl_X6_9 fr_17_0 ?_
    refine fn_iload_2 hV dX6_pullOfBarCode_18 ?_
    refine fn_iald hV dX6_pullOfBarCode_19 ar_18 (by omega) (by omega) ?_
    refine fn_iload_1 hV dX6_pullOfBarCode_20 ?_
    refine fn_cS1 hV (c_X6_barSlotOfCode E _ _ (by omega)) ms_X6_barSlotOfCode lk_X6_43 dX6_pullOfBarCode_21 ⟨rfl, rfl⟩ rfl ?_
    refine fn_cS2 hV (c_X6_pullOfBar E _ _ _ (by omega) (by omega)) ms_X6_pullOfBar lk_X6_75 dX6_pullOfBarCode_24 ⟨rfl, rfl⟩ rfl ?_
    refine fn_istore_3 hV dX6_pullOfBarCode_27 rfl rfl ?_
    refine fn_iload_1 hV dX6_pullOfBarCode_28 ?_
    refine fn_cS1 hV (c_X6_isTurnedCode E _ _ (by omega)) ms_X6_isTurnedCode lk_X6_46 dX6_pullOfBarCode_29 ⟨rfl, rfl⟩ rfl ?_
    refine fn_ifeqb hV dX6_pullOfBarCode_32 (fun q32 => ?_) (fun q32 => ?_)
    · refine fn_iload_3 hV dX6_pullOfBarCode_40 ?_
      exact fn_iret hR dX6_pullOfBarCode_41 (fnIs.i (by rw [zpbc, if_neg d0]; first | rw [if_pos q32] | rw [if_neg q32]))
    · refine fn_iload_3 hV dX6_pullOfBarCode_35 ?_
      refine fn_ineg hV dX6_pullOfBarCode_36 ?_
      refine fn_goto hV dX6_pullOfBarCode_37 ?_
      exact fn_iret hR dX6_pullOfBarCode_41 (fnIs.i (by rw [zpbc, if_neg d0]; first | rw [if_pos q32] | rw [if_neg q32]))
  · have d0 : d = 0 := by
      by_cases q : d = 0
      · exact q
      · rw [if_neg q] at q9; omega
    refine fn_iconst hV dX6_pullOfBarCode_12 ?_
    exact fn_iret hR dX6_pullOfBarCode_13 (fnIs.i (by rw [zpbc, if_pos d0]))

set_option maxHeartbeats 4000000 in
set_option maxRecDepth 20000 in
theorem c_X6_pullOfBallCode (E : fnE) (σ : fnMem) (hK : kSt σ) (d : Int) (hd : 1 ≤ d ∧ d ≤ 76) : fnOk E mX6_pullOfBallCode [.ref 17, zI d] σ (fnIs (some (zI (zplc (σ 19) d))) σ) := by
  refine fnOk.of [.ref 17, zI d, .null] rfl (by decide +kernel) rfl (fun V hV hR => ?_)
  replace hV : fnCx E RX6 cX6_pullOfBallCode 3 2 42 V := hV
  replace hR : fnRt cX6_pullOfBallCode (some .int) _ V := hR
  have k1 := hK.2.1 ((d - 1) / 19) (by omega) (by omega)
  refine fn_iload_1 hV dX6_pullOfBallCode_0 ?_
  refine fn_cS1 hV (c_X6_ballOfCode E _ _ (by omega)) ms_X6_ballOfCode lk_X6_53 dX6_pullOfBallCode_1 ⟨rfl, rfl⟩ rfl ?_
  refine fn_istore_2 hV dX6_pullOfBallCode_4 rfl rfl ?_
  rw [if_neg (show ¬ d = 0 by omega)]
  refine fn_iload_2 hV dX6_pullOfBallCode_5 ?_
  refine fn_cN1 hV (c_X10_isBall E _ _ (by omega)) ms_X10_isBall lk_X6_56 dX6_pullOfBallCode_6 ⟨rfl, rfl⟩ rfl ?_
  refine fn_ifeqb hV dX6_pullOfBallCode_9 (fun q9 => ?_) (fun q9 => ?_)
  · exact absurd q9 (by omega)
  · refine fn_aload_0 hV dX6_pullOfBallCode_12 ?_
    refine fn_getR hV dX6_pullOfBallCode_13 fl_X6_15 fr_17_1 ?_
    refine fn_iload_2 hV dX6_pullOfBallCode_16 ?_
    refine fn_iald hV dX6_pullOfBallCode_17 ar_19 (by omega) (by omega) ?_
    refine fn_iload_1 hV dX6_pullOfBallCode_18 ?_
    refine fn_cS1 hV (c_X6_ballSlotOfCode E _ _ (by omega)) ms_X6_ballSlotOfCode lk_X6_59 dX6_pullOfBallCode_19 ⟨rfl, rfl⟩ rfl ?_
    refine fn_cS2 hV (c_X6_pullOfBall E _ _ _ (by omega) (by omega)) ms_X6_pullOfBall lk_X6_79 dX6_pullOfBallCode_22 ⟨rfl, rfl⟩ rfl ?_
    refine fn_goto hV dX6_pullOfBallCode_25 ?_
    exact fn_iret hR dX6_pullOfBallCode_29 (fnIs.i rfl)

set_option maxHeartbeats 4000000 in
set_option maxRecDepth 20000 in
theorem c_X6_setBarByCode (E : fnE) (σ : fnMem) (d a : Int) (hd : 0 ≤ d ∧ d ≤ 96) : fnOk E mX6_setBarByCode [.ref 17, zI d, zI a] σ (fnIs none (if d = 0 then σ else fnUp (fnUp (fnUp σ 21 ((d - 1) / 16) a) 20 ((d - 1) / 16) (2 + (d - 1) % 16 / 2)) 22 ((d - 1) / 16) (if (d - 1) % 2 = 1 then 1 else 0))) := by
  refine fnOk.of [.ref 17, zI d, zI a, .null] rfl (by decide +kernel) rfl (fun V hV hR => ?_)
  replace hV : fnCx E RX6 cX6_setBarByCode 4 2 42 V := hV
  replace hR : fnRt cX6_setBarByCode none _ V := hR
  refine fn_iload_1 hV dX6_setBarByCode_0 ?_
  refine fn_cS1 hV (c_X6_barOfCode E _ _ (by omega)) ms_X6_barOfCode lk_X6_35 dX6_setBarByCode_1 ⟨rfl, rfl⟩ rfl ?_
  refine fn_istore_3 hV dX6_setBarByCode_4 rfl rfl ?_
  refine fn_iload_3 hV dX6_setBarByCode_5 ?_
  refine fn_cN1 hV (c_X10_isBar E _ _ (by split <;> omega)) ms_X10_isBar lk_X6_39 dX6_setBarByCode_6 ⟨rfl, rfl⟩ rfl ?_
  refine fn_ifeqb hV dX6_setBarByCode_9 (fun q9 => ?_) (fun q9 => ?_)
  · have d0 : d = 0 := by
      by_cases q : d = 0
      · exact q
      · rw [if_neg q] at q9; omega
    exact fn_vret hR dX6_setBarByCode_26 ⟨rfl, by first | rw [if_pos d0] | rw [if_neg d0]⟩
  · have d0 : d ≠ 0 := by intro q; rw [if_pos q] at q9; omega
    rw [if_neg d0]
    refine fn_aload_0 hV dX6_setBarByCode_12 ?_
    refine fn_iload_3 hV dX6_setBarByCode_13 ?_
    refine fn_iload_2 hV dX6_setBarByCode_14 ?_
    refine fn_iload_1 hV dX6_setBarByCode_15 ?_
    refine fn_cS1 hV (c_X6_barSlotOfCode E _ _ (by omega)) ms_X6_barSlotOfCode lk_X6_43 dX6_setBarByCode_16 ⟨rfl, rfl⟩ rfl ?_
    refine fn_iload_1 hV dX6_setBarByCode_19 ?_
    refine fn_cS1 hV (c_X6_isTurnedCode E _ _ (by omega)) ms_X6_isTurnedCode lk_X6_46 dX6_setBarByCode_20 ⟨rfl, rfl⟩ rfl ?_
    refine fn_cV4v hV (c_X6_setBar E _ _ _ _ _ (by omega) (by split <;> omega)) mv_X6_setBar lk_X6_49 dX6_setBarByCode_23 sh_17 rfl ⟨rfl, rfl⟩ rfl ?_
    exact fn_vret hR dX6_setBarByCode_26 ⟨rfl, by first | rw [if_pos d0] | rw [if_neg d0]⟩

set_option maxHeartbeats 4000000 in
set_option maxRecDepth 20000 in
theorem c_X6_setBallByCode (E : fnE) (σ : fnMem) (d : Int) (hd : 0 ≤ d ∧ d ≤ 76) : fnOk E mX6_setBallByCode [.ref 17, zI d] σ (fnIs none (if d = 0 then σ else fnUp (fnUp σ 17 5 ((d - 1) / 19)) 17 6 (2 + (d - 1) % 19))) := by
  refine fnOk.of [.ref 17, zI d, .null] rfl (by decide +kernel) rfl (fun V hV hR => ?_)
  replace hV : fnCx E RX6 cX6_setBallByCode 3 2 42 V := hV
  replace hR : fnRt cX6_setBallByCode none _ V := hR
  refine fn_iload_1 hV dX6_setBallByCode_0 ?_
  refine fn_cS1 hV (c_X6_ballOfCode E _ _ (by omega)) ms_X6_ballOfCode lk_X6_53 dX6_setBallByCode_1 ⟨rfl, rfl⟩ rfl ?_
  refine fn_istore_2 hV dX6_setBallByCode_4 rfl rfl ?_
  refine fn_iload_2 hV dX6_setBallByCode_5 ?_
  refine fn_cN1 hV (c_X10_isBall E _ _ (by split <;> omega)) ms_X10_isBall lk_X6_56 dX6_setBallByCode_6 ⟨rfl, rfl⟩ rfl ?_
  refine fn_ifeqb hV dX6_setBallByCode_9 (fun q9 => ?_) (fun q9 => ?_)
  · have d0 : d = 0 := by
      by_cases q : d = 0
      · exact q
      · rw [if_neg q] at q9; omega
    exact fn_vret hR dX6_setBallByCode_21 ⟨rfl, by first | rw [if_pos d0] | rw [if_neg d0]⟩
  · have d0 : d ≠ 0 := by intro q; rw [if_pos q] at q9; omega
    rw [if_neg d0]
    refine fn_aload_0 hV dX6_setBallByCode_12 ?_
    refine fn_iload_2 hV dX6_setBallByCode_13 ?_
    refine fn_iload_1 hV dX6_setBallByCode_14 ?_
    refine fn_cS1 hV (c_X6_ballSlotOfCode E _ _ (by omega)) ms_X6_ballSlotOfCode lk_X6_59 dX6_setBallByCode_15 ⟨rfl, rfl⟩ rfl ?_
    refine fn_cV2v hV (c_X6_setBall E _ _ _) mv_X6_setBall lk_X6_62 dX6_setBallByCode_18 sh_17 rfl ⟨rfl, rfl⟩ rfl ?_
    exact fn_vret hR dX6_setBallByCode_21 ⟨rfl, by first | rw [if_pos d0] | rw [if_neg d0]⟩
