abbrev zB4 : Type := Int × Int × Int × Int
def zone (x : Int) : Int := if x ≠ 0 then 1 else 0
def zbb (St : Int → Int) (x v : Int) : Int := if x = 0 then zabs v else if St ((x - 1) / 16) = 0 then 1000000 else zabs (if (x - 1) % 2 = 1 then v + zpb (St ((x - 1) / 16)) ((x - 1) % 16 / 2 + 2) else v - zpb (St ((x - 1) / 16)) ((x - 1) % 16 / 2 + 2))
def zbs (St : Int → Int) (b c x y : Int) (s : zB4) : zB4 :=
  if (¬ (0 < x ∧ 0 < y ∧ (x - 1) / 16 = (y - 1) / 16)) ∧ (zbb St x b + zbb St y c < s.1 ∨ (zbb St x b + zbb St y c = s.1 ∧ zone x + zone y < s.2.1)) then (zbb St x b + zbb St y c, zone x + zone y, x, y) else s
def zbr (St : Int → Int) (b c x : Int) : Nat → zB4 → zB4
  | 0, s => s
  | n + 1, s => zbs St b c x n (zbr St b c x n s)
def zbo (St : Int → Int) (b c : Int) : Nat → zB4 → zB4
  | 0, s => s
  | n + 1, s => zbr St b c n 97 (zbo St b c n s)
def zbest (St : Int → Int) (b c : Int) : zB4 := zbo St b c 97 (zabs b + zabs c, 0, 0, 0)
/-- the best laying so far, as cell 23 has it -/
def zlay (σ : fnMem) : zB4 := (σ 23 5, σ 23 6, σ 23 2, σ 23 3)
def zbyb (Sz : Int → Int) (x v : Int) : Int := if x = 0 then zabs v else if Sz ((x - 1) / 19) = 0 ∨ (x - 1) % 19 + 2 < Sz ((x - 1) / 19) then 1000000 else zabs (v - zpl (Sz ((x - 1) / 19)) ((x - 1) % 19 + 2))
def zbl (Sz : Int → Int) (v : Int) : Nat → Int
  | 0 => 0
  | n + 1 => if zbyb Sz ((n + 1 : Nat) : Int) v < zbyb Sz (zbl Sz v n) v then ((n + 1 : Nat) : Int) else zbl Sz v n
theorem zbl_in (Sz : Int → Int) (v : Int) : ∀ n : Nat, 0 ≤ zbl Sz v n ∧ zbl Sz v n ≤ n
  | 0 => by simp [zbl]
  | n + 1 => by
    have := zbl_in Sz v n
    unfold zbl
    split <;> omega
theorem zbl_s (Sz : Int → Int) (v : Int) (n : Nat) : zbl Sz v (n + 1) = if zbyb Sz ((n + 1 : Nat) : Int) v < zbyb Sz (zbl Sz v n) v then ((n + 1 : Nat) : Int) else zbl Sz v n := rfl
theorem zbr_s (St : Int → Int) (b c x : Int) (n : Nat) (s : zB4) : zbr St b c x (n + 1) s = zbs St b c x n (zbr St b c x n s) := rfl
theorem zbo_s (St : Int → Int) (b c : Int) (n : Nat) (s : zB4) : zbo St b c (n + 1) s = zbr St b c n 97 (zbo St b c n s) := rfl
/-- what the class has in its two rows -/
def zrows (σ : fnMem) : Prop := (∀ k, 0 ≤ k → k < 97 → σ 25 k = if k = 0 ∨ σ 18 ((k - 1) / 16) ≠ 0 then 1 else 0) ∧ ∀ k, 0 ≤ k → k < 97 → σ 24 k = zpbc (σ 18) k
theorem zbb_there {St : Int → Int} {x v : Int} (h : x = 0 ∨ St ((x - 1) / 16) ≠ 0) : zbb St x v = zabs (v - zpbc St x) := by
  unfold zbb zpbc
  by_cases h0 : x = 0
  · rw [if_pos h0, if_pos h0, Int.sub_zero]
  · rw [if_neg h0, if_neg h0, if_neg (by rcases h with h | h; exact absurd h h0; exact h), Int.add_comm 2]
    split
    · rw [Int.sub_neg]
    · rfl
theorem zbb_not {St : Int → Int} {x v : Int} (h : ¬ (x = 0 ∨ St ((x - 1) / 16) ≠ 0)) : zbb St x v = 1000000 := by
  unfold zbb
  rw [if_neg (fun q => h (Or.inl q)), if_pos (Classical.not_not.mp (fun q => h (Or.inr q)))]
theorem zbb_nn (St : Int → Int) (x v : Int) : 0 ≤ zbb St x v := by
  unfold zbb
  split
  · exact zabs_nn _
  · split
    · decide
    · exact zabs_nn _
theorem zpbc_le {St : Int → Int} (hS : ∀ k, 0 ≤ k → k < 6 → 0 ≤ St k ∧ St k ≤ 30000) {x : Int} (hx : 0 ≤ x ∧ x ≤ 96) : -30000 ≤ zpbc St x ∧ zpbc St x ≤ 30000 := by
  unfold zpbc
  split
  · decide
  · have := zpb_le (hS ((x - 1) / 16) (by omega) (by omega)) (k := 2 + (x - 1) % 16 / 2) (by omega)
    split <;> omega
theorem zbs_no {St : Int → Int} {b c x y : Int} {s : zB4} (h : (0 < x ∧ 0 < y ∧ (x - 1) / 16 = (y - 1) / 16) ∨ (s.1 ≤ zbb St x b + zbb St y c ∧ (zbb St x b + zbb St y c = s.1 → s.2.1 ≤ zone x + zone y))) : zbs St b c x y s = s := by
  unfold zbs
  rw [if_neg]
  intro q
  rcases h with h | h
  · exact q.1 h
  · rcases q.2 with q | q
    · omega
    · have := h.2 q.1; omega
theorem zbs_yes {St : Int → Int} {b c x y : Int} {s : zB4} (h1 : ¬ (0 < x ∧ 0 < y ∧ (x - 1) / 16 = (y - 1) / 16)) (h2 : zbb St x b + zbb St y c < s.1 ∨ (zbb St x b + zbb St y c = s.1 ∧ zone x + zone y < s.2.1)) : zbs St b c x y s = (zbb St x b + zbb St y c, zone x + zone y, x, y) := by
  unfold zbs
  rw [if_pos ⟨h1, h2⟩]

set_option maxHeartbeats 4000000 in
set_option maxRecDepth 20000 in
theorem c_X2_restInAll (E : fnE) (σ : fnMem) : fnOk E mX2_restInAll [.ref 23] σ (fnIs (some (zI (σ 23 5 + σ 23 7))) σ) := by
  refine fnOk.of [.ref 23] rfl (by decide +kernel) rfl (fun V hV hR => ?_)
  replace hV : fnCx E RX2 cX2_restInAll 1 0 0 V := hV
  replace hR : fnRt cX2_restInAll (some .int) _ V := hR
  refine fn_aload_0 hV dX2_restInAll_0 ?_
  refine fn_getIz hV 5 dX2_restInAll_1 fl_X2_29 fi_23_5 rfl ?_
  refine fn_aload_0 hV dX2_restInAll_4 ?_
  refine fn_getIz hV 7 dX2_restInAll_5 fl_X2_35 fi_23_7 rfl ?_
  refine fn_iadd hV dX2_restInAll_8 ?_
  exact fn_iret hR dX2_restInAll_9 (fnIs.i rfl)

set_option maxHeartbeats 4000000 in
set_option maxRecDepth 20000 in
theorem c_X2_magnetsInAll (E : fnE) (σ : fnMem) : fnOk E mX2_magnetsInAll [.ref 23] σ (fnIs (some (zI (σ 23 6 + σ 23 8))) σ) := by
  refine fnOk.of [.ref 23] rfl (by decide +kernel) rfl (fun V hV hR => ?_)
  replace hV : fnCx E RX2 cX2_magnetsInAll 1 0 0 V := hV
  replace hR : fnRt cX2_magnetsInAll (some .int) _ V := hR
  refine fn_aload_0 hV dX2_magnetsInAll_0 ?_
  refine fn_getIz hV 6 dX2_magnetsInAll_1 fl_X2_32 fi_23_6 rfl ?_
  refine fn_aload_0 hV dX2_magnetsInAll_4 ?_
  refine fn_getIz hV 8 dX2_magnetsInAll_5 fl_X2_38 fi_23_8 rfl ?_
  refine fn_iadd hV dX2_magnetsInAll_8 ?_
  exact fn_iret hR dX2_magnetsInAll_9 (fnIs.i rfl)

set_option maxHeartbeats 4000000 in
set_option maxRecDepth 20000 in
theorem c_X2_findAthwart (E : fnE) (σ : fnMem) (hS : ∀ k, 0 ≤ k → k < 6 → 0 ≤ σ 18 k ∧ σ 18 k ≤ 30000) (hRw : zrows σ) (x r0 b c : Int) (hx : 0 ≤ x ∧ x ≤ 96) (hb : -999 ≤ b ∧ b ≤ 999) (hc : -999 ≤ c ∧ c ≤ 999) (hr0 : r0 = zbb (σ 18) x b) (hr1 : 0 ≤ r0 ∧ r0 ≤ 40000) (hg : 0 ≤ σ 23 5 ∧ σ 23 5 ≤ 1998 ∧ 0 ≤ σ 23 6 ∧ σ 23 6 ≤ 9) : fnOk E mX2_findAthwart [.ref 23, zI x, zI r0, zI c] σ (fnQv (fun σ1 => fnFr [23] σ σ1 ∧ (∀ j, j ≠ 2 → j ≠ 3 → j ≠ 5 → j ≠ 6 → σ1 23 j = σ 23 j) ∧ zlay σ1 = zbr (σ 18) b c x 97 (zlay σ) ∧ 0 ≤ σ1 23 5 ∧ σ1 23 5 ≤ 1998 ∧ 0 ≤ σ1 23 6 ∧ σ1 23 6 ≤ 9)) := by
  refine fnOk.of [.ref 23, zI x, zI r0, zI c, .null, .null, .null, .null, .null] rfl (by decide +kernel) rfl (fun V hV hR => ?_)
  replace hV : fnCx E RX2 cX2_findAthwart 9 1 20 V := hV
  replace hR : fnRt cX2_findAthwart none _ V := hR
  refine fn_iload_1 hV dX2_findAthwart_0 ?_
  refine fn_cS1 hV (c_X6_barOfCode E _ _ (by omega)) ms_X6_barOfCode lk_X2_68 dX2_findAthwart_1 ⟨rfl, rfl⟩ rfl ?_
  refine fn_istore_4 hV dX2_findAthwart_4 rfl rfl ?_
  refine fn_iconst hV dX2_findAthwart_6 ?_
  refine fn_istore_5 hV dX2_findAthwart_7 rfl rfl ?_
  have L : ∀ k : Nat, k ≤ 97 → ∀ (i : Int) (σ1 : fnMem), True → (i = k) → (fnFr [23] σ σ1) → (∀ j, j ≠ 2 → j ≠ 3 → j ≠ 5 → j ≠ 6 → σ1 23 j = σ 23 j) → (zlay σ1 = zbr (σ 18) b c x k (zlay σ)) → (0 ≤ σ1 23 5 ∧ σ1 23 5 ≤ 1998 ∧ 0 ≤ σ1 23 6 ∧ σ1 23 6 ≤ 9) → V 9 [.ref 23, zI x, zI r0, zI c, zI (if x = 0 then -2009 else (x - 1) / 16), zI i, .null, .null, .null] [] σ1 := by
    refine fn_rec (fun k hk ihL => ?_)
    intro i σ1 _ hi hF hO hI hr
    refine fn_iload_5 hV dX2_findAthwart_9 ?_
    refine fn_bipush hV dX2_findAthwart_11 rfl ?_
    refine fn_icmp_ge hV (by omega) (by omega) dX2_findAthwart_13 (fun q13 => ?_) (fun q13 => ?_)
    · exact fn_vret hR dX2_findAthwart_147 (fnQv.mk ⟨hF, hO, by rw [hI, show k = 97 by omega], hr⟩)
    · have J : ∀ (sm : Int), ((sm = 1 ∧ (0 < x ∧ 0 < i ∧ (x - 1) / 16 = (i - 1) / 16)) ∨ (sm = 0 ∧ ¬ (0 < x ∧ 0 < i ∧ (x - 1) / 16 = (i - 1) / 16))) → V 38 [.ref 23, zI x, zI r0, zI c, zI (if x = 0 then -2009 else (x - 1) / 16), zI i, zI sm, .null, .null] [] σ1 := by
        intro sm hJ
        have t1 := hRw.1 i (by omega) (by omega)
        have e25 : σ1 25 = σ 25 := hF 25 (by decide)
        have e24 : σ1 24 = σ 24 := hF 24 (by decide)
        rw [← e25] at t1
        have t2 : 0 ≤ σ1 25 i ∧ σ1 25 i ≤ 1 := by rw [t1]; split <;> decide
        refine fn_aload_0 hV dX2_findAthwart_38 ?_
        refine fn_getR hV dX2_findAthwart_39 fl_X2_15 fr_23_1 ?_
        refine fn_iload_5 hV dX2_findAthwart_42 ?_
        refine fn_bald hV dX2_findAthwart_44 ar_25 (by omega) (by omega) ?_
        refine fn_if_eq hV (by omega) dX2_findAthwart_45 (fun q45 => ?_) (fun q45 => ?_)
        · have hth : ¬ (i = 0 ∨ σ 18 ((i - 1) / 16) ≠ 0) := by intro q; rw [if_pos q] at t1; omega
          refine fn_iinc_5 hV dX2_findAthwart_141 rfl rfl ?_
          refine fn_goto hV dX2_findAthwart_144 ?_
          refine fn_nul_6 hV ?_
          exact ihL (k + 1) (by omega) (by omega) _ _ trivial (by omega) hF hO (by rw [zbr_s, ← hI, ← hi, zbs_no (Or.inr (by rw [zbb_not (x := i) (by omega)]; have := zbb_nn (σ 18) x b; simp only [zlay]; omega))]) hr
        · refine fn_iload_6 hV dX2_findAthwart_48 ?_
          refine fn_if_ne hV (by omega) dX2_findAthwart_50 (fun q50 => ?_) (fun q50 => ?_)
          · refine fn_iinc_5 hV dX2_findAthwart_141 rfl rfl ?_
            refine fn_goto hV dX2_findAthwart_144 ?_
            refine fn_nul_6 hV ?_
            exact ihL (k + 1) (by omega) (by omega) _ _ trivial (by omega) hF hO (by rw [zbr_s, ← hI, ← hi, zbs_no (Or.inl (by omega))]) hr
          · have hth : i = 0 ∨ σ 18 ((i - 1) / 16) ≠ 0 := by
              by_cases q : i = 0 ∨ σ 18 ((i - 1) / 16) ≠ 0
              · exact q
              · rw [if_neg q] at t1; omega
            have hns : ¬ (0 < x ∧ 0 < i ∧ (x - 1) / 16 = (i - 1) / 16) := by omega
            have t3 := hRw.2 i (by omega) (by omega)
            rw [← e24] at t3
            have t4 := zpbc_le hS (x := i) (by omega)
            have hn2 : zbb (σ 18) i c = zabs (c - σ1 24 i) := by rw [zbb_there hth, t3]
            have hn : zbb (σ 18) x b + zbb (σ 18) i c = r0 + zabs (c - σ1 24 i) := by rw [← hr0, hn2]
            have t5 := zabs_nn (c - σ1 24 i)
            have t6 := zabs_le (z := c - σ1 24 i) (B := 30999) (by omega) (by omega)
            have z1 : 0 ≤ zone x ∧ zone x ≤ 1 := by unfold zone; split <;> decide
            have z2 : 0 ≤ zone i ∧ zone i ≤ 1 := by unfold zone; split <;> decide
            refine fn_iload_2 hV dX2_findAthwart_53 ?_
            refine fn_iload_3 hV dX2_findAthwart_54 ?_
            refine fn_aload_0 hV dX2_findAthwart_55 ?_
            refine fn_getR hV dX2_findAthwart_56 fl_X2_9 fr_23_0 ?_
            refine fn_iload_5 hV dX2_findAthwart_59 ?_
            refine fn_iald hV dX2_findAthwart_61 ar_24 (by omega) (by omega) ?_
            refine fn_isub hV dX2_findAthwart_62 ?_
            refine fn_cS1 hV (c_J9_abs_0f7a4 E _ _ (by omega)) ms_J9_abs_0f7a4 lk_X2_59 dX2_findAthwart_63 ⟨rfl, rfl⟩ rfl ?_
            refine fn_iadd hV dX2_findAthwart_66 ?_
            refine fn_istore_7 hV dX2_findAthwart_67 rfl rfl ?_
            refine fn_iload_1 hV dX2_findAthwart_69 ?_
            refine fn_t_if_ne hV (by omega) dX2_findAthwart_70 dX2_findAthwart_73 dX2_findAthwart_74 dX2_findAthwart_77 ?_
            refine fn_iload_5 hV dX2_findAthwart_78 ?_
            refine fn_t_if_ne hV (by omega) dX2_findAthwart_80 dX2_findAthwart_83 dX2_findAthwart_84 dX2_findAthwart_87 ?_
            refine fn_iadd hV dX2_findAthwart_88 ?_
            refine fn_istore_8 hV dX2_findAthwart_89 rfl rfl ?_
            change V 91 [.ref 23, zI x, zI r0, zI c, _, zI i, zI sm, zI (r0 + zabs (c - σ1 24 i)), zI (zone x + zone i)] [] σ1
            refine fn_iload_7 hV dX2_findAthwart_91 ?_
            refine fn_aload_0 hV dX2_findAthwart_93 ?_
            refine fn_getIz hV 5 dX2_findAthwart_94 fl_X2_29 fi_23_5 rfl ?_
            refine fn_icmp_lt hV (by omega) (by omega) dX2_findAthwart_97 (fun q97 => ?_) (fun q97 => ?_)
            · refine fn_aload_0 hV dX2_findAthwart_118 ?_
              refine fn_iload_7 hV dX2_findAthwart_119 ?_
              refine fn_putIz hV 5 dX2_findAthwart_121 fp_X2_29 fi_23_5 rfl ?_
              refine fn_aload_0 hV dX2_findAthwart_124 ?_
              refine fn_iload_8 hV dX2_findAthwart_125 ?_
              refine fn_putIz hV 6 dX2_findAthwart_127 fp_X2_32 fi_23_6 rfl ?_
              refine fn_aload_0 hV dX2_findAthwart_130 ?_
              refine fn_iload_1 hV dX2_findAthwart_131 ?_
              refine fn_putIz hV 2 dX2_findAthwart_132 fp_X2_19 fi_23_2 rfl ?_
              refine fn_aload_0 hV dX2_findAthwart_135 ?_
              refine fn_iload_5 hV dX2_findAthwart_136 ?_
              refine fn_putIz hV 3 dX2_findAthwart_138 fp_X2_23 fi_23_3 rfl ?_
              refine fn_iinc_5 hV dX2_findAthwart_141 rfl rfl ?_
              refine fn_goto hV dX2_findAthwart_144 ?_
              refine fn_nul_6 hV ?_
              refine fn_nul_7 hV ?_
              refine fn_nul_8 hV ?_
              exact ihL (k + 1) (by omega) (by omega) _ _ trivial (by omega) ((((hF.up (by decide)).up (by decide)).up (by decide)).up (by decide)) (fun j j2 j3 j5 j6 => by rw [fnUp_off _ _ _ j3, fnUp_off _ _ _ j2, fnUp_off _ _ _ j6, fnUp_off _ _ _ j5]; exact hO j j2 j3 j5 j6) (by rw [zbr_s, ← hI, ← hi, zbs_yes hns (by first | exact Or.inl (by rw [hn]; exact q97) | exact Or.inr ⟨by rw [hn]; exact q106, q115⟩)]; simp [zlay, fnUp_same, hn, zone]) (by simp [fnUp_same]; omega)
            · refine fn_iload_7 hV dX2_findAthwart_100 ?_
              refine fn_aload_0 hV dX2_findAthwart_102 ?_
              refine fn_getIz hV 5 dX2_findAthwart_103 fl_X2_29 fi_23_5 rfl ?_
              refine fn_icmp_ne hV (by omega) (by omega) dX2_findAthwart_106 (fun q106 => ?_) (fun q106 => ?_)
              · refine fn_iinc_5 hV dX2_findAthwart_141 rfl rfl ?_
                refine fn_goto hV dX2_findAthwart_144 ?_
                refine fn_nul_6 hV ?_
                refine fn_nul_7 hV ?_
                refine fn_nul_8 hV ?_
                exact ihL (k + 1) (by omega) (by omega) _ _ trivial (by omega) hF hO (by rw [zbr_s, ← hI, ← hi, zbs_no (Or.inr (by rw [← hr0, hn2]; simp only [zlay]; omega))]) hr
              · refine fn_iload_8 hV dX2_findAthwart_109 ?_
                refine fn_aload_0 hV dX2_findAthwart_111 ?_
                refine fn_getIz hV 6 dX2_findAthwart_112 fl_X2_32 fi_23_6 rfl ?_
                refine fn_icmp_ge hV (by omega) (by omega) dX2_findAthwart_115 (fun q115 => ?_) (fun q115 => ?_)
                · refine fn_iinc_5 hV dX2_findAthwart_141 rfl rfl ?_
                  refine fn_goto hV dX2_findAthwart_144 ?_
                  refine fn_nul_6 hV ?_
                  refine fn_nul_7 hV ?_
                  refine fn_nul_8 hV ?_
                  exact ihL (k + 1) (by omega) (by omega) _ _ trivial (by omega) hF hO (by rw [zbr_s, ← hI, ← hi, zbs_no (Or.inr (by rw [← hr0, hn2]; simp only [zlay]; exact ⟨by omega, fun _ => q115⟩))]) hr
                · refine fn_aload_0 hV dX2_findAthwart_118 ?_
                  refine fn_iload_7 hV dX2_findAthwart_119 ?_
                  refine fn_putIz hV 5 dX2_findAthwart_121 fp_X2_29 fi_23_5 rfl ?_
                  refine fn_aload_0 hV dX2_findAthwart_124 ?_
                  refine fn_iload_8 hV dX2_findAthwart_125 ?_
                  refine fn_putIz hV 6 dX2_findAthwart_127 fp_X2_32 fi_23_6 rfl ?_
                  refine fn_aload_0 hV dX2_findAthwart_130 ?_
                  refine fn_iload_1 hV dX2_findAthwart_131 ?_
                  refine fn_putIz hV 2 dX2_findAthwart_132 fp_X2_19 fi_23_2 rfl ?_
                  refine fn_aload_0 hV dX2_findAthwart_135 ?_
                  refine fn_iload_5 hV dX2_findAthwart_136 ?_
                  refine fn_putIz hV 3 dX2_findAthwart_138 fp_X2_23 fi_23_3 rfl ?_
                  refine fn_iinc_5 hV dX2_findAthwart_141 rfl rfl ?_
                  refine fn_goto hV dX2_findAthwart_144 ?_
                  refine fn_nul_6 hV ?_
                  refine fn_nul_7 hV ?_
                  refine fn_nul_8 hV ?_
                  exact ihL (k + 1) (by omega) (by omega) _ _ trivial (by omega) ((((hF.up (by decide)).up (by decide)).up (by decide)).up (by decide)) (fun j j2 j3 j5 j6 => by rw [fnUp_off _ _ _ j3, fnUp_off _ _ _ j2, fnUp_off _ _ _ j6, fnUp_off _ _ _ j5]; exact hO j j2 j3 j5 j6) (by rw [zbr_s, ← hI, ← hi, zbs_yes hns (by first | exact Or.inl (by rw [hn]; exact q97) | exact Or.inr ⟨by rw [hn]; exact q106, q115⟩)]; simp [zlay, fnUp_same, hn, zone]) (by simp [fnUp_same]; omega)
      refine fn_iload_5 hV dX2_findAthwart_16 ?_
      refine fn_if_eq hV (by omega) dX2_findAthwart_18 (fun q18 => ?_) (fun q18 => ?_)
      · refine fn_iconst hV dX2_findAthwart_35 ?_
        refine fn_istore_6 hV dX2_findAthwart_36 rfl rfl ?_
        exact J _ (Or.inr ⟨rfl, by omega⟩)
      · refine fn_iload_5 hV dX2_findAthwart_21 ?_
        refine fn_cS1 hV (c_X6_barOfCode E _ _ (by omega)) ms_X6_barOfCode lk_X2_68 dX2_findAthwart_23 ⟨rfl, rfl⟩ rfl ?_
        refine fn_iload_4 hV dX2_findAthwart_26 ?_
        refine fn_t_icmp_ne hV (by split <;> omega) (by split <;> omega) dX2_findAthwart_28 dX2_findAthwart_31 dX2_findAthwart_32 dX2_findAthwart_35 ?_
        refine fn_istore_6 hV dX2_findAthwart_36 rfl rfl ?_
        exact J _ (by
      by_cases x0 : x = 0
      · rw [if_pos x0, if_pos (by rw [if_neg (show ¬ i = 0 by omega)]; omega)]; exact Or.inr ⟨rfl, by omega⟩
      · rw [if_neg x0, if_neg (show ¬ i = 0 by omega)]
        by_cases q : (i - 1) / 16 = (x - 1) / 16
        · rw [if_neg (by omega)]; exact Or.inl ⟨rfl, by omega⟩
        · rw [if_pos q]; exact Or.inr ⟨rfl, by omega⟩)
  exact L 0 (by omega) _ _ trivial (by omega) fnFr.rf (fun _ _ _ _ _ => rfl) rfl hg

theorem zbr_not {St : Int → Int} {b c x : Int} {s : zB4} (h : zbb St x b = 1000000) (hs : s.1 ≤ 1998) : ∀ n : Nat, zbr St b c x n s = s
  | 0 => rfl
  | n + 1 => by
    have := zbb_nn St n c
    rw [zbr_s, zbr_not h hs n, zbs_no (Or.inr ⟨by omega, fun q => by omega⟩)]
theorem zrows_eq {σ σ1 : fnMem} (h18 : σ1 18 = σ 18) (h24 : σ1 24 = σ 24) (h25 : σ1 25 = σ 25) (h : zrows σ) : zrows σ1 := by
  unfold zrows at h ⊢
  rw [h18, h24, h25]
  exact h
theorem kSt_eq {σ σ1 : fnMem} (h : ∀ k, 17 ≤ k → k ≤ 22 → σ1 k = σ k) (hK : kSt σ) : kSt σ1 := by
  unfold kSt at hK ⊢
  rw [h 17 (by decide) (by decide), h 18 (by decide) (by decide), h 19 (by decide) (by decide), h 20 (by decide) (by decide), h 21 (by decide) (by decide), h 22 (by decide) (by decide)]
  exact hK
theorem zbyb_has {Sz : Int → Int} {x v : Int} (hx : 1 ≤ x) (h : Sz ((x - 1) / 19) ≠ 0 ∧ Sz ((x - 1) / 19) ≤ 2 + (x - 1) % 19) : zbyb Sz x v = zabs (v - zplc Sz x) := by
  unfold zbyb zplc
  rw [if_neg (by omega), if_neg (by omega), Int.add_comm 2]
theorem zbyb_not {Sz : Int → Int} {x v : Int} (hx : 1 ≤ x) (h : ¬ (Sz ((x - 1) / 19) ≠ 0 ∧ Sz ((x - 1) / 19) ≤ 2 + (x - 1) % 19)) : zbyb Sz x v = 1000000 := by
  unfold zbyb
  rw [if_neg (by omega), if_pos (by omega)]

set_option maxHeartbeats 4000000 in
set_option maxRecDepth 20000 in
theorem c_X2_findBars (E : fnE) (σ : fnMem) (hS : ∀ k, 0 ≤ k → k < 6 → 0 ≤ σ 18 k ∧ σ 18 k ≤ 30000) (hRw : zrows σ) (b c : Int) (hb : -999 ≤ b ∧ b ≤ 999) (hc : -999 ≤ c ∧ c ≤ 999) : fnOk E mX2_findBars [.ref 23, zI b, zI c] σ (fnQv (fun σ1 => fnFr [23] σ σ1 ∧ (∀ j, j ≠ 2 → j ≠ 3 → j ≠ 5 → j ≠ 6 → σ1 23 j = σ 23 j) ∧ zlay σ1 = zbest (σ 18) b c ∧ 0 ≤ σ1 23 5 ∧ σ1 23 5 ≤ 1998 ∧ 0 ≤ σ1 23 6 ∧ σ1 23 6 ≤ 9)) := by
  refine fnOk.of [.ref 23, zI b, zI c, .null] rfl (by decide +kernel) rfl (fun V hV hR => ?_)
  replace hV : fnCx E RX2 cX2_findBars 4 2 48 V := hV
  replace hR : fnRt cX2_findBars none _ V := hR
  have hb1 := zabs_nn b
  have hb2 := zabs_le (z := b) (B := 999) (by omega) (by omega)
  have hc1 := zabs_nn c
  have hc2 := zabs_le (z := c) (B := 999) (by omega) (by omega)
  refine fn_aload_0 hV dX2_findBars_0 ?_
  refine fn_iconst hV dX2_findBars_1 ?_
  refine fn_putIz hV 2 dX2_findBars_2 fp_X2_19 fi_23_2 rfl ?_
  refine fn_aload_0 hV dX2_findBars_5 ?_
  refine fn_iconst hV dX2_findBars_6 ?_
  refine fn_putIz hV 3 dX2_findBars_7 fp_X2_23 fi_23_3 rfl ?_
  refine fn_aload_0 hV dX2_findBars_10 ?_
  refine fn_iconst hV dX2_findBars_11 ?_
  refine fn_putIz hV 6 dX2_findBars_12 fp_X2_32 fi_23_6 rfl ?_
  refine fn_aload_0 hV dX2_findBars_15 ?_
  refine fn_iload_1 hV dX2_findBars_16 ?_
  refine fn_cS1 hV (c_J9_abs_0f7a4 E _ _ (by omega)) ms_J9_abs_0f7a4 lk_X2_59 dX2_findBars_17 ⟨rfl, rfl⟩ rfl ?_
  refine fn_iload_2 hV dX2_findBars_20 ?_
  refine fn_cS1 hV (c_J9_abs_0f7a4 E _ _ (by omega)) ms_J9_abs_0f7a4 lk_X2_59 dX2_findBars_21 ⟨rfl, rfl⟩ rfl ?_
  refine fn_iadd hV dX2_findBars_24 ?_
  refine fn_putIz hV 5 dX2_findBars_25 fp_X2_29 fi_23_5 rfl ?_
  refine fn_iconst hV dX2_findBars_28 ?_
  refine fn_istore_3 hV dX2_findBars_29 rfl rfl ?_
  have L : ∀ k : Nat, k ≤ 97 → ∀ (i : Int) (σ1 : fnMem), True → (i = k) → (fnFr [23] σ σ1) → (∀ j, j ≠ 2 → j ≠ 3 → j ≠ 5 → j ≠ 6 → σ1 23 j = σ 23 j) → (zlay σ1 = zbo (σ 18) b c k (zabs b + zabs c, 0, 0, 0)) → (0 ≤ σ1 23 5 ∧ σ1 23 5 ≤ 1998 ∧ 0 ≤ σ1 23 6 ∧ σ1 23 6 ≤ 9) → V 30 [.ref 23, zI b, zI c, zI i] [] σ1 := by
    refine fn_rec (fun k hk ihL => ?_)
    intro i σ1 _ hi hF hO hI hr
    refine fn_iload_3 hV dX2_findBars_30 ?_
    refine fn_bipush hV dX2_findBars_31 rfl ?_
    refine fn_icmp_ge hV (by omega) (by omega) dX2_findBars_33 (fun q33 => ?_) (fun q33 => ?_)
    · exact fn_vret hR dX2_findBars_68 (fnQv.mk ⟨hF, hO, by rw [hI, show k = 97 by omega]; rfl, hr⟩)
    · have t1 := hRw.1 i (by omega) (by omega)
      have e25 : σ1 25 = σ 25 := hF 25 (by decide)
      have e24 : σ1 24 = σ 24 := hF 24 (by decide)
      have e18 : σ1 18 = σ 18 := hF 18 (by decide)
      rw [← e25] at t1
      have t2 : 0 ≤ σ1 25 i ∧ σ1 25 i ≤ 1 := by rw [t1]; split <;> decide
      refine fn_aload_0 hV dX2_findBars_36 ?_
      refine fn_getR hV dX2_findBars_37 fl_X2_15 fr_23_1 ?_
      refine fn_iload_3 hV dX2_findBars_40 ?_
      refine fn_bald hV dX2_findBars_41 ar_25 (by omega) (by omega) ?_
      refine fn_if_eq hV (by omega) dX2_findBars_42 (fun q42 => ?_) (fun q42 => ?_)
      · have hth : ¬ (i = 0 ∨ σ 18 ((i - 1) / 16) ≠ 0) := by intro q; rw [if_pos q] at t1; omega
        refine fn_iinc_3 hV dX2_findBars_62 rfl rfl ?_
        refine fn_goto hV dX2_findBars_65 ?_
        exact ihL (k + 1) (by omega) (by omega) _ _ trivial (by omega) hF hO (by rw [zbo_s, ← hI, ← hi, zbr_not (zbb_not hth) (by simp only [zlay]; omega)]) hr
      · have hth : i = 0 ∨ σ 18 ((i - 1) / 16) ≠ 0 := by
          by_cases q : i = 0 ∨ σ 18 ((i - 1) / 16) ≠ 0
          · exact q
          · rw [if_neg q] at t1; omega
        have t3 := hRw.2 i (by omega) (by omega)
        rw [← e24] at t3
        have t4 := zpbc_le hS (x := i) (by omega)
        have t5 := zabs_nn (b - σ1 24 i)
        have t6 := zabs_le (z := b - σ1 24 i) (B := 30999) (by omega) (by omega)
        have hS1 : ∀ k, 0 ≤ k → k < 6 → 0 ≤ σ1 18 k ∧ σ1 18 k ≤ 30000 := by rw [e18]; exact hS
        have hRw1 := zrows_eq e18 e24 e25 hRw
        have hr0 : zabs (b - σ1 24 i) = zbb (σ1 18) i b := by rw [e18, zbb_there hth, t3]
        refine fn_aload_0 hV dX2_findBars_45 ?_
        refine fn_iload_3 hV dX2_findBars_46 ?_
        refine fn_iload_1 hV dX2_findBars_47 ?_
        refine fn_aload_0 hV dX2_findBars_48 ?_
        refine fn_getR hV dX2_findBars_49 fl_X2_9 fr_23_0 ?_
        refine fn_iload_3 hV dX2_findBars_52 ?_
        refine fn_iald hV dX2_findBars_53 ar_24 (by omega) (by omega) ?_
        refine fn_isub hV dX2_findBars_54 ?_
        refine fn_cS1 hV (c_J9_abs_0f7a4 E _ _ (by omega)) ms_J9_abs_0f7a4 lk_X2_59 dX2_findBars_55 ⟨rfl, rfl⟩ rfl ?_
        refine fn_iload_2 hV dX2_findBars_58 ?_
        refine fn_cV3Q hV (c_X2_findAthwart E _ hS1 hRw1 _ _ b _ (by omega) hb hc hr0 (by omega) (by omega)) mv_X2_findAthwart lk_X2_64 dX2_findBars_59 sh_23 rfl ⟨rfl, rfl⟩ rfl (fun σ2 hp => ?_)
        obtain ⟨gF, gO, gI, gr⟩ := hp
        refine fn_iinc_3 hV dX2_findBars_62 rfl rfl ?_
        refine fn_goto hV dX2_findBars_65 ?_
        exact ihL (k + 1) (by omega) (by omega) _ _ trivial (by omega) (hF.tr gF) (fun j j2 j3 j5 j6 => (gO j j2 j3 j5 j6).trans (hO j j2 j3 j5 j6)) (by rw [zbo_s, ← hI, ← hi, gI, e18]) gr
  exact L 0 (by omega) _ _ trivial (by omega) ((((fnFr.rf.up (by decide)).up (by decide)).up (by decide)).up (by decide)) (fun j j2 j3 j5 j6 => by rw [fnUp_off _ _ _ j5, fnUp_off _ _ _ j6, fnUp_off _ _ _ j3, fnUp_off _ _ _ j2]) (by simp [zlay, zbo, fnUp_same]) (by simp [fnUp_same]; omega)

set_option maxHeartbeats 4000000 in
set_option maxRecDepth 20000 in
theorem c_X2_findBalls (E : fnE) (σ : fnMem) (hK : kSt σ) (d : Int) (hd : -999 ≤ d ∧ d ≤ 999) : fnOk E mX2_findBalls [.ref 23, zI d, .ref 17] σ (fnQv (fun σ1 => fnFr [23] σ σ1 ∧ (∀ j, j ≠ 4 → j ≠ 7 → j ≠ 8 → σ1 23 j = σ 23 j) ∧ σ1 23 4 = zbl (σ 19) d 76 ∧ σ1 23 7 = zbyb (σ 19) (σ1 23 4) d ∧ σ1 23 8 = zone (σ1 23 4))) := by
  refine fnOk.of [.ref 23, zI d, .ref 17, .null, .null] rfl (by decide +kernel) rfl (fun V hV hR => ?_)
  replace hV : fnCx E RX2 cX2_findBalls 5 3 64 V := hV
  replace hR : fnRt cX2_findBalls none _ V := hR
  have hb1 := zabs_nn d
  have hb2 := zabs_le (z := d) (B := 999) (by omega) (by omega)
  refine fn_aload_0 hV dX2_findBalls_0 ?_
  refine fn_iconst hV dX2_findBalls_1 ?_
  refine fn_putIz hV 4 dX2_findBalls_2 fp_X2_26 fi_23_4 rfl ?_
  refine fn_aload_0 hV dX2_findBalls_5 ?_
  refine fn_iconst hV dX2_findBalls_6 ?_
  refine fn_putIz hV 8 dX2_findBalls_7 fp_X2_38 fi_23_8 rfl ?_
  refine fn_aload_0 hV dX2_findBalls_10 ?_
  refine fn_iload_1 hV dX2_findBalls_11 ?_
  refine fn_cS1 hV (c_J9_abs_0f7a4 E _ _ (by omega)) ms_J9_abs_0f7a4 lk_X2_59 dX2_findBalls_12 ⟨rfl, rfl⟩ rfl ?_
  refine fn_putIz hV 7 dX2_findBalls_15 fp_X2_35 fi_23_7 rfl ?_
  refine fn_iconst hV dX2_findBalls_18 ?_
  refine fn_istore_3 hV dX2_findBalls_19 rfl rfl ?_
  have L : ∀ k : Nat, k ≤ 77 → ∀ (i : Int) (σ1 : fnMem), True → (i = k ∧ 1 ≤ i) → (fnFr [23] σ σ1) → (∀ j, j ≠ 4 → j ≠ 7 → j ≠ 8 → σ1 23 j = σ 23 j) → (σ1 23 4 = zbl (σ 19) d (k - 1)) → (σ1 23 7 = zbyb (σ 19) (σ1 23 4) d) → (σ1 23 8 = zone (σ1 23 4)) → (0 ≤ σ1 23 7 ∧ σ1 23 7 ≤ 999) → V 20 [.ref 23, zI d, .ref 17, zI i, .null] [] σ1 := by
    refine fn_rec (fun k hk ihL => ?_)
    intro i σ1 _ hi hF hO h4 h7 h8 hr
    refine fn_iload_3 hV dX2_findBalls_20 ?_
    refine fn_bipush hV dX2_findBalls_21 rfl ?_
    refine fn_icmp_ge hV (by omega) (by omega) dX2_findBalls_23 (fun q23 => ?_) (fun q23 => ?_)
    · exact fn_vret hR dX2_findBalls_77 (fnQv.mk ⟨hF, hO, by rw [h4, show k - 1 = 76 by omega], h7, h8⟩)
    · have e19 : σ1 19 = σ 19 := hF 19 (by decide)
      have hK1 : kSt σ1 := kSt_eq (fun k k1 k2 => hF k (by simp; omega)) hK
      have s1 := hK.2.1 ((i - 1) / 19) (by omega) (by omega)
      have p1 : -8000 ≤ zplc (σ1 19) i ∧ zplc (σ1 19) i ≤ 8000 := by rw [e19]; have := zpl_le s1 (k := 2 + (i - 1) % 19) (by omega); unfold zplc; omega
      have p2 := zabs_nn (d - zplc (σ1 19) i)
      have p3 := zabs_le (z := d - zplc (σ1 19) i) (B := 8999) (by omega) (by omega)
      have hcs : zbyb (σ 19) i d = zabs (d - zplc (σ1 19) i) ∨ zbyb (σ 19) i d = 1000000 := by
        by_cases q : σ 19 ((i - 1) / 19) ≠ 0 ∧ σ 19 ((i - 1) / 19) ≤ 2 + (i - 1) % 19
        · exact Or.inl (by rw [zbyb_has (by omega) q, e19])
        · exact Or.inr (zbyb_not (by omega) q)
      refine fn_iload_1 hV dX2_findBalls_26 ?_
      refine fn_aload_2 hV dX2_findBalls_27 ?_
      refine fn_iload_3 hV dX2_findBalls_28 ?_
      refine fn_cV1 hV (c_X6_pullOfBallCode E _ hK1 _ (by omega)) mv_X6_pullOfBallCode lk_X2_71 dX2_findBalls_29 sh_17 rfl ⟨rfl, rfl⟩ rfl ?_
      refine fn_isub hV dX2_findBalls_32 ?_
      refine fn_cS1 hV (c_J9_abs_0f7a4 E _ _ (by omega)) ms_J9_abs_0f7a4 lk_X2_59 dX2_findBalls_33 ⟨rfl, rfl⟩ rfl ?_
      refine fn_istore_4 hV dX2_findBalls_36 rfl rfl ?_
      refine fn_iload_4 hV dX2_findBalls_38 ?_
      refine fn_aload_0 hV dX2_findBalls_40 ?_
      refine fn_getIz hV 7 dX2_findBalls_41 fl_X2_35 fi_23_7 rfl ?_
      refine fn_icmp_ge hV (by omega) (by omega) dX2_findBalls_44 (fun q44 => ?_) (fun q44 => ?_)
      · refine fn_iinc_3 hV dX2_findBalls_71 rfl rfl ?_
        refine fn_goto hV dX2_findBalls_74 ?_
        refine fn_nul_4 hV ?_
        exact ihL (k + 1) (by omega) (by omega) _ _ trivial (by omega) hF hO (by rw [show k + 1 - 1 = k - 1 + 1 by omega, zbl_s, show ((k - 1 + 1 : Nat) : Int) = i by omega, ← h4, if_neg (by rw [← h7]; rcases hcs with hq | hq <;> omega)]) h7 h8 hr
      · refine fn_aload_2 hV dX2_findBalls_47 ?_
        refine fn_iload_3 hV dX2_findBalls_48 ?_
        refine fn_cV1 hV (c_X6_hasBallOfCode E _ hK1 _ (by omega)) mv_X6_hasBallOfCode lk_X2_74 dX2_findBalls_49 sh_17 rfl ⟨rfl, rfl⟩ rfl ?_
        refine fn_ifeqb hV dX2_findBalls_52 (fun q52 => ?_) (fun q52 => ?_)
        · rw [e19] at q52
          have hno := zbyb_not (v := d) (show 1 ≤ i by omega) q52
          refine fn_iinc_3 hV dX2_findBalls_71 rfl rfl ?_
          refine fn_goto hV dX2_findBalls_74 ?_
          refine fn_nul_4 hV ?_
          exact ihL (k + 1) (by omega) (by omega) _ _ trivial (by omega) hF hO (by rw [show k + 1 - 1 = k - 1 + 1 by omega, zbl_s, show ((k - 1 + 1 : Nat) : Int) = i by omega, ← h4, if_neg (by rw [← h7]; omega)]) h7 h8 hr
        · rw [e19] at q52
          have hyes : zbyb (σ 19) i d = zabs (d - zplc (σ1 19) i) := by rw [zbyb_has (by omega) q52, e19]
          refine fn_aload_0 hV dX2_findBalls_55 ?_
          refine fn_iload_4 hV dX2_findBalls_56 ?_
          refine fn_putIz hV 7 dX2_findBalls_58 fp_X2_35 fi_23_7 rfl ?_
          refine fn_aload_0 hV dX2_findBalls_61 ?_
          refine fn_iconst hV dX2_findBalls_62 ?_
          refine fn_putIz hV 8 dX2_findBalls_63 fp_X2_38 fi_23_8 rfl ?_
          refine fn_aload_0 hV dX2_findBalls_66 ?_
          refine fn_iload_3 hV dX2_findBalls_67 ?_
          refine fn_putIz hV 4 dX2_findBalls_68 fp_X2_26 fi_23_4 rfl ?_
          refine fn_iinc_3 hV dX2_findBalls_71 rfl rfl ?_
          refine fn_goto hV dX2_findBalls_74 ?_
          refine fn_nul_4 hV ?_
          exact ihL (k + 1) (by omega) (by omega) _ _ trivial (by omega) (((hF.up (by decide)).up (by decide)).up (by decide)) (fun j j4 j7 j8 => by rw [fnUp_off _ _ _ j4, fnUp_off _ _ _ j8, fnUp_off _ _ _ j7]; exact hO j j4 j7 j8) (by rw [show k + 1 - 1 = k - 1 + 1 by omega, zbl_s, show ((k - 1 + 1 : Nat) : Int) = i by omega, ← h4, if_pos (by rw [← h7, hyes]; exact q44)]; simp [fnUp_same]) (by simp [fnUp_same]; exact hyes.symm) (by simp [fnUp_same, zone]; omega) (by simp [fnUp_same]; omega)
  exact L 1 (by omega) _ _ trivial (by omega) (((fnFr.rf.up (by decide)).up (by decide)).up (by decide)) (fun j j4 j7 j8 => by rw [fnUp_off _ _ _ j7, fnUp_off _ _ _ j8, fnUp_off _ _ _ j4]) (by simp [fnUp_same, zbl]) (by simp [fnUp_same, zbyb]) (by simp [fnUp_same, zone]) (by simp [fnUp_same]; omega)

set_option maxHeartbeats 4000000 in
set_option maxRecDepth 20000 in
theorem c_X2_find (E : fnE) (σ : fnMem) (hK : kSt σ) (hP : ∀ j, 0 ≤ j → j < 6 → -999 ≤ σ 7 j ∧ σ 7 j ≤ 999) : fnOk E mX2_find [.ref 23, .ref 7, .ref 17] σ (fnQv (fun σ1 => fnFr [23, 24, 25] σ σ1 ∧ zlay σ1 = zbest (σ 18) (σ 7 1) (σ 7 2) ∧ σ1 23 4 = zbl (σ 19) (σ 7 3) 76 ∧ σ1 23 7 = zbyb (σ 19) (σ1 23 4) (σ 7 3) ∧ σ1 23 8 = zone (σ1 23 4))) := by
  refine fnOk.of [.ref 23, .ref 7, .ref 17, .null] rfl (by decide +kernel) rfl (fun V hV hR => ?_)
  replace hV : fnCx E RX2 cX2_find 4 4 88 V := hV
  replace hR : fnRt cX2_find none _ V := hR
  refine fn_iconst hV dX2_find_0 ?_
  refine fn_istore_3 hV dX2_find_1 rfl rfl ?_
  have L : ∀ k : Nat, k ≤ 97 → ∀ (i : Int) (σ1 : fnMem), True → (i = k) → (fnFr [23, 24, 25] σ σ1) → (∀ j, 0 ≤ j → j < i → σ1 25 j = if j = 0 ∨ σ 18 ((j - 1) / 16) ≠ 0 then 1 else 0) → (∀ j, 0 ≤ j → j < i → σ1 24 j = zpbc (σ 18) j) → V 2 [.ref 23, .ref 7, .ref 17, zI i] [] σ1 := by
    refine fn_rec (fun k hk ihL => ?_)
    intro i σ1 _ hi hF h25 h24
    refine fn_iload_3 hV dX2_find_2 ?_
    refine fn_bipush hV dX2_find_3 rfl ?_
    refine fn_icmp_ge hV (by omega) (by omega) dX2_find_5 (fun q5 => ?_) (fun q5 => ?_)
    · have e18 : σ1 18 = σ 18 := hF 18 (by decide)
      have e19 : σ1 19 = σ 19 := hF 19 (by decide)
      have e7 : σ1 7 = σ 7 := hF 7 (by decide)
      have hS1 : ∀ k, 0 ≤ k → k < 6 → 0 ≤ σ1 18 k ∧ σ1 18 k ≤ 30000 := by rw [e18]; exact hK.1
      have hRw1 : zrows σ1 := ⟨fun j j0 j1 => by rw [e18]; exact h25 j j0 (by omega), fun j j0 j1 => by rw [e18]; exact h24 j j0 (by omega)⟩
      have b1 := hP 1 (by decide) (by decide)
      have b2 := hP 2 (by decide) (by decide)
      have b3 := hP 3 (by decide) (by decide)
      rw [← e7] at b1 b2 b3
      refine fn_aload_0 hV dX2_find_36 ?_
      refine fn_aload_1 hV dX2_find_37 ?_
      refine fn_iconst hV dX2_find_38 ?_
      refine fn_iald hV dX2_find_39 ar_7 (by omega) (by omega) ?_
      refine fn_aload_1 hV dX2_find_40 ?_
      refine fn_iconst hV dX2_find_41 ?_
      refine fn_iald hV dX2_find_42 ar_7 (by omega) (by omega) ?_
      refine fn_cV2Q hV (c_X2_findBars E _ hS1 hRw1 _ _ (by omega) (by omega)) mv_X2_findBars lk_X2_51 dX2_find_43 sh_23 rfl ⟨rfl, rfl⟩ rfl (fun σ2 hp => ?_)
      obtain ⟨gF, gO, gI, gr⟩ := hp
      have f7 : σ2 7 = σ1 7 := gF 7 (by decide)
      have f19 : σ2 19 = σ1 19 := gF 19 (by decide)
      have hK1 : kSt σ2 := kSt_eq (fun k k1 k2 => (gF k (by simp; omega)).trans (hF k (by simp; omega))) hK
      rw [← f7] at b3
      refine fn_aload_0 hV dX2_find_46 ?_
      refine fn_aload_1 hV dX2_find_47 ?_
      refine fn_iconst hV dX2_find_48 ?_
      refine fn_iald hV dX2_find_49 ar_7 (by omega) (by omega) ?_
      refine fn_aload_2 hV dX2_find_50 ?_
      refine fn_cV2Q hV (c_X2_findBalls E _ hK1 _ (by omega)) mv_X2_findBalls lk_X2_55 dX2_find_51 sh_23 rfl ⟨rfl, rfl⟩ rfl (fun σ3 hp => ?_)
      obtain ⟨kF, kO, k4, k7, k8⟩ := hp
      exact fn_vret hR dX2_find_54 (fnQv.mk ⟨hF.tr (((gF.mono (by decide))).tr (kF.mono (by decide))), by rw [show zlay σ3 = zlay σ2 by simp [zlay, kO], gI, e18, e7], by rw [k4, f19, e19, f7, e7], by rw [k7, f19, e19, f7, e7], k8⟩)
    · have e18 : σ1 18 = σ 18 := hF 18 (by decide)
      have hK1 : kSt σ1 := kSt_eq (fun k k1 k2 => hF k (by simp; omega)) hK
      refine fn_aload_0 hV dX2_find_8 ?_
      refine fn_getR hV dX2_find_9 fl_X2_15 fr_23_1 ?_
      refine fn_iload_3 hV dX2_find_12 ?_
      refine fn_aload_2 hV dX2_find_13 ?_
      refine fn_iload_3 hV dX2_find_14 ?_
      refine fn_cV1 hV (c_X6_hasBarOfCode E _ hK1 _ (by omega)) mv_X6_hasBarOfCode lk_X2_41 dX2_find_15 sh_17 rfl ⟨rfl, rfl⟩ rfl ?_
      refine fn_bast hV dX2_find_18 ar_25 (by omega) (by omega) (by split <;> omega) ?_
      have hK2 : kSt (fnUp σ1 25 i (if i = 0 ∨ σ1 18 ((i - 1) / 16) ≠ 0 then 1 else 0)) := kSt_eq (fun k k1 k2 => fnUp_ne _ _ _ (by omega)) hK1
      refine fn_aload_0 hV dX2_find_19 ?_
      refine fn_getR hV dX2_find_20 fl_X2_9 fr_23_0 ?_
      refine fn_iload_3 hV dX2_find_23 ?_
      refine fn_aload_2 hV dX2_find_24 ?_
      refine fn_iload_3 hV dX2_find_25 ?_
      refine fn_cV1 hV (c_X6_pullOfBarCode E _ hK2 _ (by omega)) mv_X6_pullOfBarCode lk_X2_47 dX2_find_26 sh_17 rfl ⟨rfl, rfl⟩ rfl ?_
      refine fn_iast hV dX2_find_29 ar_24 (by omega) (by omega) ?_
      refine fn_iinc_3 hV dX2_find_30 rfl rfl ?_
      refine fn_goto hV dX2_find_33 ?_
      exact ihL (k + 1) (by omega) (by omega) _ _ trivial (by omega) ((hF.up (by decide)).up (by decide)) (fun j j0 j1 => by
      rw [fnUp_ne _ _ _ (show (25 : Nat) ≠ 24 by decide)]
      by_cases hq : j = i
      · rw [hq, fnUp_at, e18]
      · rw [fnUp_off _ _ _ hq]; exact h25 j j0 (by omega)) (fun j j0 j1 => by
      by_cases hq : j = i
      · rw [hq, fnUp_at, fnUp_ne _ _ _ (show (18 : Nat) ≠ 25 by decide), e18]
      · rw [fnUp_off _ _ _ hq, fnUp_ne _ _ _ (show (24 : Nat) ≠ 25 by decide)]; exact h24 j j0 (by omega))
  exact L 0 (by omega) _ _ trivial (by omega) fnFr.rf (fun j j0 j1 => by omega) (fun j j0 j1 => by omega)
