def zlI (St : Int → Int) (b c : Int) (x y : Nat) (t : zB4) : Prop := (x = 0 ∧ y = 0 ∧ t.1 = 2000000 ∧ t.2.1 = 9) ∨ (¬ (x = 0 ∧ y = 0) ∧ t = zbr St b c x y (zbo St b c x (zabs b + zabs c, 0, 0, 0)))
theorem zbb_0 (St : Int → Int) (v : Int) : zbb St 0 v = zabs v := by unfold zbb; rw [if_pos rfl]
theorem zbb_le {St : Int → Int} (hS : ∀ k, 0 ≤ k → k < 6 → 0 ≤ St k ∧ St k ≤ 30000) {x v : Int} (hx : 0 ≤ x ∧ x ≤ 96) (hv : -999 ≤ v ∧ v ≤ 999) : zbb St x v ≤ 1000000 := by
  unfold zbb
  split
  · exact zabs_le (by omega) (by omega)
  · have q := zpb_le (hS ((x - 1) / 16) (by omega) (by omega)) (k := (x - 1) % 16 / 2 + 2) (by omega)
    split
    · decide
    · refine zabs_le ?_ ?_ <;> split <;> omega
theorem zlI.s {St : Int → Int} {b c : Int} {x y : Nat} {t : zB4} (h : zlI St b c x y t) (hb : -999 ≤ b ∧ b ≤ 999) (hc : -999 ≤ c ∧ c ≤ 999) : zlI St b c x (y + 1) (zbs St b c x y t) := by
  refine Or.inr ⟨by omega, ?_⟩
  rcases h with ⟨rfl, rfl, h1, h2⟩ | ⟨-, h⟩
  · have a1 := zabs_le (z := b) (B := 999) (by omega) (by omega)
    have a2 := zabs_le (z := c) (B := 999) (by omega) (by omega)
    rw [zbr_s]
    show zbs St b c ((0 : Nat) : Int) ((0 : Nat) : Int) t = zbs St b c ((0 : Nat) : Int) ((0 : Nat) : Int) (zabs b + zabs c, 0, 0, 0)
    rw [zbs_yes (s := t) (by omega) (Or.inl (by rw [h1]; show zbb St 0 b + zbb St 0 c < _; rw [zbb_0, zbb_0]; omega)), zbs_no (s := (zabs b + zabs c, 0, 0, 0)) (Or.inr ⟨by show zabs b + zabs c ≤ zbb St 0 b + zbb St 0 c; rw [zbb_0, zbb_0]; omega, fun _ => by show (0 : Int) ≤ _; decide⟩)]
    show (zbb St 0 b + zbb St 0 c, zone 0 + zone 0, (0 : Int), (0 : Int)) = _
    rw [zbb_0, zbb_0]
    rfl
  · rw [zbr_s, ← h]
theorem zlI.no {St : Int → Int} {b c r m i j : Int} {x y : Nat} {t : zB4} (h : zlI St b c x y t) (hb : -999 ≤ b ∧ b ≤ 999) (hc : -999 ≤ c ∧ c ≤ 999) (hi : i = x) (hj : j = y) (hr : r = zbb St i b + zbb St j c) (hm : m = zone i + zone j) (hq : (0 < i ∧ 0 < j ∧ (i - 1) / 16 = (j - 1) / 16) ∨ (t.1 ≤ r ∧ (r = t.1 → t.2.1 ≤ m))) : zlI St b c x (y + 1) t := by
  have := h.s hb hc
  subst hi hj
  rwa [zbs_no (by rw [hr, hm] at hq; exact hq)] at this
theorem zlI.yes {St : Int → Int} {b c r m i j : Int} {x y : Nat} {t : zB4} (h : zlI St b c x y t) (hb : -999 ≤ b ∧ b ≤ 999) (hc : -999 ≤ c ∧ c ≤ 999) (hi : i = x) (hj : j = y) (hr : r = zbb St i b + zbb St j c) (hm : m = zone i + zone j) (h1 : ¬ (0 < i ∧ 0 < j ∧ (i - 1) / 16 = (j - 1) / 16)) (h2 : r < t.1 ∨ (r = t.1 ∧ m < t.2.1)) : zlI St b c x (y + 1) (r, m, i, j) := by
  have := h.s hb hc
  subst hi hj
  rw [zbs_yes h1 (by rw [hr, hm] at h2; exact h2), ← hr, ← hm] at this
  exact this
theorem zlI.row {St : Int → Int} {b c : Int} {x y : Nat} {t : zB4} (h : zlI St b c x y t) (hy : y = 97) : zlI St b c (x + 1) 0 t := by
  subst hy
  rcases h with ⟨-, h, -⟩ | ⟨-, h⟩
  · omega
  · exact Or.inr ⟨by omega, h⟩
theorem zlI.end {St : Int → Int} {b c : Int} {x : Nat} {t : zB4} (h : zlI St b c x 0 t) (hx : x = 97) : t = zbest St b c := by
  subst hx
  rcases h with ⟨h, -⟩ | ⟨-, h⟩
  · omega
  · exact h
theorem zone_in (x : Int) : 0 ≤ zone x ∧ zone x ≤ 1 := by unfold zone; split <;> omega
theorem zbyb_le {Sz : Int → Int} (hS : ∀ k, 0 ≤ k → k < 4 → 0 ≤ Sz k ∧ Sz k ≤ 20) {x v : Int} (hx : 0 ≤ x ∧ x ≤ 76) (hv : -999 ≤ v ∧ v ≤ 999) : 0 ≤ zbyb Sz x v ∧ zbyb Sz x v ≤ 1000000 := by
  unfold zbyb
  split
  · exact ⟨zabs_nn _, zabs_le (by omega) (by omega)⟩
  · have q := zpl_le (hS ((x - 1) / 19) (by omega) (by omega)) (k := (x - 1) % 19 + 2) (by omega)
    split
    · decide
    · exact ⟨zabs_nn _, zabs_le (by omega) (by omega)⟩

set_option maxHeartbeats 4000000 in
set_option maxRecDepth 20000 in
theorem c_X11_look (E : fnE) (σ : fnMem) (μ : fnMem) (hM : fnSc μ (mv σ)) (hW : zWF μ)  : fnOk E mX11_look [.ref 51] σ (fnQv (fun s => fnFr [51, 75] σ s ∧ (∀ j, j ≠ 28 → s 51 j = σ 51 j) ∧ s 75 0 = (zbst μ).2.2.1 ∧ s 75 1 = (zbst μ).2.2.2 ∧ s 75 2 = zbal μ ∧ s 51 28 = zrst μ)) := by
  refine fnOk.of [.ref 51, .null, .null, .null, .null, .null, .null, .null, .null, .null] rfl (by decide +kernel) rfl (fun V hV hR => ?_)
  replace hV : fnCx E RX11 cX11_look 10 2 46 V := hV
  replace hR : fnRt cX11_look none _ V := hR
  obtain ⟨w1, w2, w3, w4, w5⟩ := hW.2.2.1
  have f3 : σ 54 = μ 3 := hM.c (k := 3) (by decide) (by decide)
  have f4 : σ 55 = μ 4 := hM.c (k := 4) (by decide) (by decide)
  have f5 : σ 56 = μ 5 := hM.c (k := 5) (by decide) (by decide)
  have f6 : σ 57 = μ 6 := hM.c (k := 6) (by decide) (by decide)
  have f7 : σ 58 = μ 7 := hM.c (k := 7) (by decide) (by decide)
  have f1 : σ 52 = μ 1 := hM.c (k := 1) (by decide) (by decide)
  have g8 : σ 51 8 = μ 0 8 := hM.f (by decide) (by decide)
  have g9 : σ 51 9 = μ 0 9 := hM.f (by decide) (by decide)
  have b0 := hW.1 1 (by decide) (by decide)
  have c0 := hW.1 2 (by decide) (by decide)
  have d0 := hW.1 3 (by decide) (by decide)
  refine fn_aload_0 hV dX11_look_0 ?_
  refine fn_getR hV dX11_look_1 fl_X11_7 fr_51_1 ?_
  refine fn_iconst hV dX11_look_4 ?_
  refine fn_iald hV dX11_look_5 ar_52 (by omega) (by omega) ?_
  rw [show σ 52 1 = μ 1 1 by rw [f1]]
  refine fn_istore_1 hV dX11_look_6 rfl rfl ?_
  refine fn_aload_0 hV dX11_look_7 ?_
  refine fn_getR hV dX11_look_8 fl_X11_7 fr_51_1 ?_
  refine fn_iconst hV dX11_look_11 ?_
  refine fn_iald hV dX11_look_12 ar_52 (by omega) (by omega) ?_
  rw [show σ 52 2 = μ 1 2 by rw [f1]]
  obtain ⟨b, hbe⟩ : ∃ b, b = μ 1 1 := ⟨_, rfl⟩
  obtain ⟨c, hce⟩ : ∃ c, c = μ 1 2 := ⟨_, rfl⟩
  rw [← hbe, ← hce]
  have hb : -999 ≤ b ∧ b ≤ 999 := by rw [hbe]; exact b0
  have hc : -999 ≤ c ∧ c ≤ 999 := by rw [hce]; exact c0
  refine fn_istore_2 hV dX11_look_13 rfl rfl ?_
  refine fn_ldc hV dX11_look_14 co_X11_227 ?_
  refine fn_istore_3 hV dX11_look_16 rfl rfl ?_
  refine fn_bipush hV dX11_look_17 rfl ?_
  refine fn_istore_4 hV dX11_look_19 rfl rfl ?_
  refine fn_iconst hV dX11_look_21 ?_
  refine fn_istore_5 hV dX11_look_22 rfl rfl ?_
  have L : ∀ k : Nat, k ≤ 97 → ∀ (x lr mg : Int) (σ2 : fnMem), True → (x = k) → (fnFr [75] σ σ2) → (zlI (μ 3) b c k 0 (lr, mg, σ2 75 0, σ2 75 1)) → (0 ≤ lr ∧ lr ≤ 2000000 ∧ 0 ≤ mg ∧ mg ≤ 9) → V 24 [.ref 51, zI b, zI c, zI lr, zI mg, zI x, .null, .null, .null, .null] [] σ2 := by
    refine fn_rec (fun k hk ihL => ?_)
    intro x lr mg σ2 _ hx hF hI hl
    refine fn_iload_5 hV dX11_look_24 ?_
    refine fn_bipush hV dX11_look_26 rfl ?_
    refine fn_icmp_gt hV (by omega) (by omega) dX11_look_28 (fun q28 => ?_) (fun q28 => ?_)
    · have hT := hI.end (by omega)
      rw [hbe, hce] at hT
      replace hT : zbst μ = (lr, mg, σ2 75 0, σ2 75 1) := hT.symm
      rw [show lr = (zbst μ).1 by rw [hT], show mg = (zbst μ).2.1 by rw [hT]]
      refine fn_aload_0 hV dX11_look_164 ?_
      refine fn_getR hV dX11_look_165 fl_X11_84 fr_51_27 ?_
      refine fn_iconst hV dX11_look_168 ?_
      refine fn_iconst hV dX11_look_169 ?_
      refine fn_iast hV dX11_look_170 ar_75 (by omega) (by omega) ?_
      refine fn_iconst hV dX11_look_171 ?_
      refine fn_istore_5 hV dX11_look_172 rfl rfl ?_
      have L3 : ∀ k3 : Nat, k3 ≤ 76 → ∀ (i : Int) (σ3 : fnMem), True → (i = k3 + 1) → (fnFr [75] σ σ3) → (σ3 75 0 = (zbst μ).2.2.1) → (σ3 75 1 = (zbst μ).2.2.2) → (σ3 75 2 = zbl (μ 7) (μ 1 3) k3) → V 174 [.ref 51, zI b, zI c, zI (zbst μ).1, zI (zbst μ).2.1, zI i, .null, .null, .null, .null] [] σ3 := by
        refine fn_rec (fun k3 hk3 ihL3 => ?_)
        intro i σ3 _ hi gF g0 g1 g2
        refine fn_iload_5 hV dX11_look_174 ?_
        have e58 : σ3 58 = μ 7 := by rw [gF 58 (by decide)]; exact f7
        have e52 : σ3 52 3 = μ 1 3 := by rw [gF 52 (by decide), f1]
        have hs : ∀ k, 0 ≤ k → k < 4 → 0 ≤ σ3 58 k ∧ σ3 58 k ≤ 20 := by rw [e58]; exact w4
        have zi := zbl_in (μ 7) (μ 1 3) k3
        have zb := zbyb_le w4 (x := zbl (μ 7) (μ 1 3) k3) (v := μ 1 3) (by omega) d0
        refine fn_bipush hV dX11_look_176 rfl ?_
        refine fn_icmp_gt hV (by omega) (by omega) dX11_look_178 (fun q178 => ?_) (fun q178 => ?_)
        · refine fn_aload_0 hV dX11_look_235 ?_
          refine fn_iload_3 hV dX11_look_236 ?_
          refine fn_aload_0 hV dX11_look_237 ?_
          refine fn_aload_0 hV dX11_look_238 ?_
          refine fn_getR hV dX11_look_239 fl_X11_84 fr_51_27 ?_
          refine fn_iconst hV dX11_look_242 ?_
          refine fn_iald hV dX11_look_243 ar_75 (by omega) (by omega) ?_
          refine fn_aload_0 hV dX11_look_244 ?_
          refine fn_getR hV dX11_look_245 fl_X11_7 fr_51_1 ?_
          refine fn_iconst hV dX11_look_248 ?_
          refine fn_iald hV dX11_look_249 ar_52 (by omega) (by omega) ?_
          refine fn_cV2 hV (c_X11_byBall E _ hs _ _ (by omega) (by omega)) mv_X11_byBall lk_X11_234 dX11_look_250 sh_51 rfl ⟨rfl, rfl⟩ rfl ?_
          rw [e52, e58, g2]
          refine fn_iadd hV dX11_look_253 ?_
          refine fn_putIz hV 28 dX11_look_254 fp_X11_237 fi_51_28 rfl ?_
          exact fn_vret hR dX11_look_257 (fnQv.mk ⟨(gF.mono (by decide)).up (by decide), fun j hj => by rw [fnUp_off _ _ _ hj, gF 51 (by decide)], by rw [fnUp_ne _ _ _ (by decide)]; exact g0, by rw [fnUp_ne _ _ _ (by decide)]; exact g1, by rw [fnUp_ne _ _ _ (by decide), g2, show k3 = 76 by omega]; rfl, by rw [fnUp_at]; unfold zrst zbal; rw [show k3 = 76 by omega]⟩)
        · have za := zbyb_le w4 (x := i) (v := μ 1 3) (by omega) d0
          refine fn_aload_0 hV dX11_look_181 ?_
          refine fn_getR hV dX11_look_182 fl_X11_84 fr_51_27 ?_
          refine fn_iconst hV dX11_look_185 ?_
          refine fn_aload_0 hV dX11_look_186 ?_
          refine fn_iload_5 hV dX11_look_187 ?_
          refine fn_aload_0 hV dX11_look_189 ?_
          refine fn_getR hV dX11_look_190 fl_X11_7 fr_51_1 ?_
          refine fn_iconst hV dX11_look_193 ?_
          refine fn_iald hV dX11_look_194 ar_52 (by omega) (by omega) ?_
          refine fn_cV2 hV (c_X11_byBall E _ hs _ _ (by omega) (by omega)) mv_X11_byBall lk_X11_234 dX11_look_195 sh_51 rfl ⟨rfl, rfl⟩ rfl ?_
          rw [e52, e58]
          refine fn_aload_0 hV dX11_look_198 ?_
          refine fn_aload_0 hV dX11_look_199 ?_
          refine fn_getR hV dX11_look_200 fl_X11_84 fr_51_27 ?_
          refine fn_iconst hV dX11_look_203 ?_
          refine fn_iald hV dX11_look_204 ar_75 (by omega) (by omega) ?_
          refine fn_aload_0 hV dX11_look_205 ?_
          refine fn_getR hV dX11_look_206 fl_X11_7 fr_51_1 ?_
          refine fn_iconst hV dX11_look_209 ?_
          refine fn_iald hV dX11_look_210 ar_52 (by omega) (by omega) ?_
          refine fn_cV2 hV (c_X11_byBall E _ hs _ _ (by omega) (by omega)) mv_X11_byBall lk_X11_234 dX11_look_211 sh_51 rfl ⟨rfl, rfl⟩ rfl ?_
          rw [e52, e58, g2]
          refine fn_icmp_ge hV (by omega) (by omega) dX11_look_214 (fun q214 => ?_) (fun q214 => ?_)
          · refine fn_aload_0 hV dX11_look_222 ?_
            refine fn_getR hV dX11_look_223 fl_X11_84 fr_51_27 ?_
            refine fn_iconst hV dX11_look_226 ?_
            refine fn_iald hV dX11_look_227 ar_75 (by omega) (by omega) ?_
            refine fn_iast hV dX11_look_228 ar_75 (by omega) (by omega) ?_
            refine fn_iinc_5 hV dX11_look_229 rfl rfl ?_
            refine fn_goto hV dX11_look_232 ?_
            exact ihL3 (k3 + 1) (by omega) (by omega) _ _ trivial (by omega) (gF.up (by decide)) (by rw [fnUp_off _ _ _ (by decide)]; exact g0) (by rw [fnUp_off _ _ _ (by decide)]; exact g1) (by rw [fnUp_at, zbl_s, Int.natCast_add, Int.cast_ofNat_Int, ← hi, if_neg (by omega), g2])
          · refine fn_iload_5 hV dX11_look_217 ?_
            refine fn_goto hV dX11_look_219 ?_
            refine fn_iast hV dX11_look_228 ar_75 (by omega) (by omega) ?_
            refine fn_iinc_5 hV dX11_look_229 rfl rfl ?_
            refine fn_goto hV dX11_look_232 ?_
            exact ihL3 (k3 + 1) (by omega) (by omega) _ _ trivial (by omega) (gF.up (by decide)) (by rw [fnUp_off _ _ _ (by decide)]; exact g0) (by rw [fnUp_off _ _ _ (by decide)]; exact g1) (by rw [fnUp_at, zbl_s, Int.natCast_add, Int.cast_ofNat_Int, ← hi, if_pos (by omega)])
      exact L3 0 (by omega) _ _ trivial (by omega) (hF.up (by decide)) (by rw [fnUp_off _ _ _ (by decide), hT]) (by rw [fnUp_off _ _ _ (by decide), hT]) (fnUp_at _ _ _ _)
    · refine fn_iconst hV dX11_look_31 ?_
      refine fn_istore_6 hV dX11_look_32 rfl rfl ?_
      have L2 : ∀ k2 : Nat, k2 ≤ 97 → ∀ (y lr mg : Int) (σ2 : fnMem), True → (y = k2) → (fnFr [75] σ σ2) → (zlI (μ 3) b c k k2 (lr, mg, σ2 75 0, σ2 75 1)) → (0 ≤ lr ∧ lr ≤ 2000000 ∧ 0 ≤ mg ∧ mg ≤ 9) → V 34 [.ref 51, zI b, zI c, zI lr, zI mg, zI x, zI y, .null, .null, .null] [] σ2 := by
        refine fn_rec (fun k2 hk2 ihL2 => ?_)
        intro y lr mg σ2 _ hy hF hI hl
        refine fn_iload_6 hV dX11_look_34 ?_
        have e54 : σ2 54 = μ 3 := by rw [hF 54 (by decide)]; exact f3
        have hs : ∀ k, 0 ≤ k → k < 6 → 0 ≤ σ2 54 k ∧ σ2 54 k ≤ 30000 := by rw [e54]; exact w1
        refine fn_bipush hV dX11_look_36 rfl ?_
        refine fn_icmp_gt hV (by omega) (by omega) dX11_look_38 (fun q38 => ?_) (fun q38 => ?_)
        · refine fn_iinc_5 hV dX11_look_158 rfl rfl ?_
          refine fn_goto hV dX11_look_161 ?_
          refine fn_nul_6 hV ?_
          exact ihL (k + 1) (by omega) (by omega) _ _ _ _ trivial (by omega) hF (hI.row (by omega)) hl
        · refine fn_iload_5 hV dX11_look_41 ?_
          refine fn_if_le hV (by omega) dX11_look_43 (fun q43 => ?_) (fun q43 => ?_)
          · refine fn_iconst hV dX11_look_72 ?_
            refine fn_istore_7 hV dX11_look_73 rfl rfl ?_
            refine fn_aload_0 hV dX11_look_75 ?_
            refine fn_iload_5 hV dX11_look_76 ?_
            refine fn_iload_1 hV dX11_look_78 ?_
            refine fn_cV2 hV (c_X11_byBar E _ hs _ _ (by omega) (by omega)) mv_X11_byBar lk_X11_228 dX11_look_79 sh_51 rfl ⟨rfl, rfl⟩ rfl ?_
            rw [e54]
            refine fn_aload_0 hV dX11_look_82 ?_
            refine fn_iload_6 hV dX11_look_83 ?_
            refine fn_iload_2 hV dX11_look_85 ?_
            refine fn_cV2 hV (c_X11_byBar E _ hs _ _ (by omega) (by omega)) mv_X11_byBar lk_X11_228 dX11_look_86 sh_51 rfl ⟨rfl, rfl⟩ rfl ?_
            rw [e54]
            have n1 := zbb_nn (μ 3) x b
            have n2 := zbb_nn (μ 3) y c
            have n3 := zbb_le w1 (x := x) (v := b) (by omega) hb
            have n4 := zbb_le w1 (x := y) (v := c) (by omega) hc
            refine fn_iadd hV dX11_look_89 ?_
            refine fn_istore_8 hV dX11_look_90 rfl rfl ?_
            refine fn_iload_5 hV dX11_look_92 ?_
            refine fn_cS1 hV (c_X11_one E _ _ (by omega)) ms_X11_one lk_X11_231 dX11_look_94 ⟨rfl, rfl⟩ rfl ?_
            refine fn_iload_6 hV dX11_look_97 ?_
            refine fn_cS1 hV (c_X11_one E _ _ (by omega)) ms_X11_one lk_X11_231 dX11_look_99 ⟨rfl, rfl⟩ rfl ?_
            refine fn_iadd hV dX11_look_102 ?_
            refine fn_istore_9 hV dX11_look_103 rfl rfl ?_
            obtain ⟨r, hr⟩ : ∃ r, r = zbb (μ 3) x b + zbb (μ 3) y c := ⟨_, rfl⟩
            obtain ⟨m, hm⟩ : ∃ m, m = zone x + zone y := ⟨_, rfl⟩
            have o1 := zone_in x
            have o2 := zone_in y
            rw [← hr, ← hm]
            refine fn_iload_7 hV dX11_look_105 ?_
            refine fn_if_ne hV (by omega) dX11_look_107 (fun q107 => ?_) (fun q107 => ?_)
            · refine fn_iinc_6 hV dX11_look_152 rfl rfl ?_
              refine fn_goto hV dX11_look_155 ?_
              refine fn_nul_7 hV ?_
              refine fn_nul_8 hV ?_
              refine fn_nul_9 hV ?_
              exact ihL2 (k2 + 1) (by omega) (by omega) _ _ _ _ trivial (by omega) (by first | exact hF | exact (hF.up (by decide)).up (by decide)) (by
        first
          | exact hI.no hb hc hx hy hr hm (by first | (left; omega) | (right; exact ⟨by show lr ≤ r; omega, fun q => by have q : r = lr := q; show mg ≤ m; omega⟩) | (exfalso; omega))
          | (rw [fnUp_off _ _ _ (show (0 : Int) ≠ 1 by decide), fnUp_at, fnUp_at]; exact hI.yes hb hc hx hy hr hm (by omega) (by first | (left; show r < lr; omega) | (right; exact ⟨by show r = lr; omega, by show m < mg; omega⟩) | (exfalso; omega)))) (by omega)
            · refine fn_iload_8 hV dX11_look_110 ?_
              refine fn_iload_3 hV dX11_look_112 ?_
              refine fn_icmp_lt hV (by omega) (by omega) dX11_look_113 (fun q113 => ?_) (fun q113 => ?_)
              · refine fn_iload_8 hV dX11_look_129 ?_
                refine fn_istore_3 hV dX11_look_131 rfl rfl ?_
                refine fn_iload_9 hV dX11_look_132 ?_
                refine fn_istore_4 hV dX11_look_134 rfl rfl ?_
                refine fn_aload_0 hV dX11_look_136 ?_
                refine fn_getR hV dX11_look_137 fl_X11_84 fr_51_27 ?_
                refine fn_iconst hV dX11_look_140 ?_
                refine fn_iload_5 hV dX11_look_141 ?_
                refine fn_iast hV dX11_look_143 ar_75 (by omega) (by omega) ?_
                refine fn_aload_0 hV dX11_look_144 ?_
                refine fn_getR hV dX11_look_145 fl_X11_84 fr_51_27 ?_
                refine fn_iconst hV dX11_look_148 ?_
                refine fn_iload_6 hV dX11_look_149 ?_
                refine fn_iast hV dX11_look_151 ar_75 (by omega) (by omega) ?_
                refine fn_iinc_6 hV dX11_look_152 rfl rfl ?_
                refine fn_goto hV dX11_look_155 ?_
                refine fn_nul_7 hV ?_
                refine fn_nul_8 hV ?_
                refine fn_nul_9 hV ?_
                exact ihL2 (k2 + 1) (by omega) (by omega) _ _ _ _ trivial (by omega) (by first | exact hF | exact (hF.up (by decide)).up (by decide)) (by
        first
          | exact hI.no hb hc hx hy hr hm (by first | (left; omega) | (right; exact ⟨by show lr ≤ r; omega, fun q => by have q : r = lr := q; show mg ≤ m; omega⟩) | (exfalso; omega))
          | (rw [fnUp_off _ _ _ (show (0 : Int) ≠ 1 by decide), fnUp_at, fnUp_at]; exact hI.yes hb hc hx hy hr hm (by omega) (by first | (left; show r < lr; omega) | (right; exact ⟨by show r = lr; omega, by show m < mg; omega⟩) | (exfalso; omega)))) (by omega)
              · refine fn_iload_8 hV dX11_look_116 ?_
                refine fn_iload_3 hV dX11_look_118 ?_
                refine fn_icmp_ne hV (by omega) (by omega) dX11_look_119 (fun q119 => ?_) (fun q119 => ?_)
                · refine fn_iinc_6 hV dX11_look_152 rfl rfl ?_
                  refine fn_goto hV dX11_look_155 ?_
                  refine fn_nul_7 hV ?_
                  refine fn_nul_8 hV ?_
                  refine fn_nul_9 hV ?_
                  exact ihL2 (k2 + 1) (by omega) (by omega) _ _ _ _ trivial (by omega) (by first | exact hF | exact (hF.up (by decide)).up (by decide)) (by
        first
          | exact hI.no hb hc hx hy hr hm (by first | (left; omega) | (right; exact ⟨by show lr ≤ r; omega, fun q => by have q : r = lr := q; show mg ≤ m; omega⟩) | (exfalso; omega))
          | (rw [fnUp_off _ _ _ (show (0 : Int) ≠ 1 by decide), fnUp_at, fnUp_at]; exact hI.yes hb hc hx hy hr hm (by omega) (by first | (left; show r < lr; omega) | (right; exact ⟨by show r = lr; omega, by show m < mg; omega⟩) | (exfalso; omega)))) (by omega)
                · refine fn_iload_9 hV dX11_look_122 ?_
                  refine fn_iload_4 hV dX11_look_124 ?_
                  refine fn_icmp_ge hV (by omega) (by omega) dX11_look_126 (fun q126 => ?_) (fun q126 => ?_)
                  · refine fn_iinc_6 hV dX11_look_152 rfl rfl ?_
                    refine fn_goto hV dX11_look_155 ?_
                    refine fn_nul_7 hV ?_
                    refine fn_nul_8 hV ?_
                    refine fn_nul_9 hV ?_
                    exact ihL2 (k2 + 1) (by omega) (by omega) _ _ _ _ trivial (by omega) (by first | exact hF | exact (hF.up (by decide)).up (by decide)) (by
        first
          | exact hI.no hb hc hx hy hr hm (by first | (left; omega) | (right; exact ⟨by show lr ≤ r; omega, fun q => by have q : r = lr := q; show mg ≤ m; omega⟩) | (exfalso; omega))
          | (rw [fnUp_off _ _ _ (show (0 : Int) ≠ 1 by decide), fnUp_at, fnUp_at]; exact hI.yes hb hc hx hy hr hm (by omega) (by first | (left; show r < lr; omega) | (right; exact ⟨by show r = lr; omega, by show m < mg; omega⟩) | (exfalso; omega)))) (by omega)
                  · refine fn_iload_8 hV dX11_look_129 ?_
                    refine fn_istore_3 hV dX11_look_131 rfl rfl ?_
                    refine fn_iload_9 hV dX11_look_132 ?_
                    refine fn_istore_4 hV dX11_look_134 rfl rfl ?_
                    refine fn_aload_0 hV dX11_look_136 ?_
                    refine fn_getR hV dX11_look_137 fl_X11_84 fr_51_27 ?_
                    refine fn_iconst hV dX11_look_140 ?_
                    refine fn_iload_5 hV dX11_look_141 ?_
                    refine fn_iast hV dX11_look_143 ar_75 (by omega) (by omega) ?_
                    refine fn_aload_0 hV dX11_look_144 ?_
                    refine fn_getR hV dX11_look_145 fl_X11_84 fr_51_27 ?_
                    refine fn_iconst hV dX11_look_148 ?_
                    refine fn_iload_6 hV dX11_look_149 ?_
                    refine fn_iast hV dX11_look_151 ar_75 (by omega) (by omega) ?_
                    refine fn_iinc_6 hV dX11_look_152 rfl rfl ?_
                    refine fn_goto hV dX11_look_155 ?_
                    refine fn_nul_7 hV ?_
                    refine fn_nul_8 hV ?_
                    refine fn_nul_9 hV ?_
                    exact ihL2 (k2 + 1) (by omega) (by omega) _ _ _ _ trivial (by omega) (by first | exact hF | exact (hF.up (by decide)).up (by decide)) (by
        first
          | exact hI.no hb hc hx hy hr hm (by first | (left; omega) | (right; exact ⟨by show lr ≤ r; omega, fun q => by have q : r = lr := q; show mg ≤ m; omega⟩) | (exfalso; omega))
          | (rw [fnUp_off _ _ _ (show (0 : Int) ≠ 1 by decide), fnUp_at, fnUp_at]; exact hI.yes hb hc hx hy hr hm (by omega) (by first | (left; show r < lr; omega) | (right; exact ⟨by show r = lr; omega, by show m < mg; omega⟩) | (exfalso; omega)))) (by omega)
          · refine fn_iload_6 hV dX11_look_46 ?_
            refine fn_if_le hV (by omega) dX11_look_48 (fun q48 => ?_) (fun q48 => ?_)
            · refine fn_iconst hV dX11_look_72 ?_
              refine fn_istore_7 hV dX11_look_73 rfl rfl ?_
              refine fn_aload_0 hV dX11_look_75 ?_
              refine fn_iload_5 hV dX11_look_76 ?_
              refine fn_iload_1 hV dX11_look_78 ?_
              refine fn_cV2 hV (c_X11_byBar E _ hs _ _ (by omega) (by omega)) mv_X11_byBar lk_X11_228 dX11_look_79 sh_51 rfl ⟨rfl, rfl⟩ rfl ?_
              rw [e54]
              refine fn_aload_0 hV dX11_look_82 ?_
              refine fn_iload_6 hV dX11_look_83 ?_
              refine fn_iload_2 hV dX11_look_85 ?_
              refine fn_cV2 hV (c_X11_byBar E _ hs _ _ (by omega) (by omega)) mv_X11_byBar lk_X11_228 dX11_look_86 sh_51 rfl ⟨rfl, rfl⟩ rfl ?_
              rw [e54]
              have n1 := zbb_nn (μ 3) x b
              have n2 := zbb_nn (μ 3) y c
              have n3 := zbb_le w1 (x := x) (v := b) (by omega) hb
              have n4 := zbb_le w1 (x := y) (v := c) (by omega) hc
              refine fn_iadd hV dX11_look_89 ?_
              refine fn_istore_8 hV dX11_look_90 rfl rfl ?_
              refine fn_iload_5 hV dX11_look_92 ?_
              refine fn_cS1 hV (c_X11_one E _ _ (by omega)) ms_X11_one lk_X11_231 dX11_look_94 ⟨rfl, rfl⟩ rfl ?_
              refine fn_iload_6 hV dX11_look_97 ?_
              refine fn_cS1 hV (c_X11_one E _ _ (by omega)) ms_X11_one lk_X11_231 dX11_look_99 ⟨rfl, rfl⟩ rfl ?_
              refine fn_iadd hV dX11_look_102 ?_
              refine fn_istore_9 hV dX11_look_103 rfl rfl ?_
              obtain ⟨r, hr⟩ : ∃ r, r = zbb (μ 3) x b + zbb (μ 3) y c := ⟨_, rfl⟩
              obtain ⟨m, hm⟩ : ∃ m, m = zone x + zone y := ⟨_, rfl⟩
              have o1 := zone_in x
              have o2 := zone_in y
              rw [← hr, ← hm]
              refine fn_iload_7 hV dX11_look_105 ?_
              refine fn_if_ne hV (by omega) dX11_look_107 (fun q107 => ?_) (fun q107 => ?_)
              · refine fn_iinc_6 hV dX11_look_152 rfl rfl ?_
                refine fn_goto hV dX11_look_155 ?_
                refine fn_nul_7 hV ?_
                refine fn_nul_8 hV ?_
                refine fn_nul_9 hV ?_
                exact ihL2 (k2 + 1) (by omega) (by omega) _ _ _ _ trivial (by omega) (by first | exact hF | exact (hF.up (by decide)).up (by decide)) (by
        first
          | exact hI.no hb hc hx hy hr hm (by first | (left; omega) | (right; exact ⟨by show lr ≤ r; omega, fun q => by have q : r = lr := q; show mg ≤ m; omega⟩) | (exfalso; omega))
          | (rw [fnUp_off _ _ _ (show (0 : Int) ≠ 1 by decide), fnUp_at, fnUp_at]; exact hI.yes hb hc hx hy hr hm (by omega) (by first | (left; show r < lr; omega) | (right; exact ⟨by show r = lr; omega, by show m < mg; omega⟩) | (exfalso; omega)))) (by omega)
              · refine fn_iload_8 hV dX11_look_110 ?_
                refine fn_iload_3 hV dX11_look_112 ?_
                refine fn_icmp_lt hV (by omega) (by omega) dX11_look_113 (fun q113 => ?_) (fun q113 => ?_)
                · refine fn_iload_8 hV dX11_look_129 ?_
                  refine fn_istore_3 hV dX11_look_131 rfl rfl ?_
                  refine fn_iload_9 hV dX11_look_132 ?_
                  refine fn_istore_4 hV dX11_look_134 rfl rfl ?_
                  refine fn_aload_0 hV dX11_look_136 ?_
                  refine fn_getR hV dX11_look_137 fl_X11_84 fr_51_27 ?_
                  refine fn_iconst hV dX11_look_140 ?_
                  refine fn_iload_5 hV dX11_look_141 ?_
                  refine fn_iast hV dX11_look_143 ar_75 (by omega) (by omega) ?_
                  refine fn_aload_0 hV dX11_look_144 ?_
                  refine fn_getR hV dX11_look_145 fl_X11_84 fr_51_27 ?_
                  refine fn_iconst hV dX11_look_148 ?_
                  refine fn_iload_6 hV dX11_look_149 ?_
                  refine fn_iast hV dX11_look_151 ar_75 (by omega) (by omega) ?_
                  refine fn_iinc_6 hV dX11_look_152 rfl rfl ?_
                  refine fn_goto hV dX11_look_155 ?_
                  refine fn_nul_7 hV ?_
                  refine fn_nul_8 hV ?_
                  refine fn_nul_9 hV ?_
                  exact ihL2 (k2 + 1) (by omega) (by omega) _ _ _ _ trivial (by omega) (by first | exact hF | exact (hF.up (by decide)).up (by decide)) (by
        first
          | exact hI.no hb hc hx hy hr hm (by first | (left; omega) | (right; exact ⟨by show lr ≤ r; omega, fun q => by have q : r = lr := q; show mg ≤ m; omega⟩) | (exfalso; omega))
          | (rw [fnUp_off _ _ _ (show (0 : Int) ≠ 1 by decide), fnUp_at, fnUp_at]; exact hI.yes hb hc hx hy hr hm (by omega) (by first | (left; show r < lr; omega) | (right; exact ⟨by show r = lr; omega, by show m < mg; omega⟩) | (exfalso; omega)))) (by omega)
                · refine fn_iload_8 hV dX11_look_116 ?_
                  refine fn_iload_3 hV dX11_look_118 ?_
                  refine fn_icmp_ne hV (by omega) (by omega) dX11_look_119 (fun q119 => ?_) (fun q119 => ?_)
                  · refine fn_iinc_6 hV dX11_look_152 rfl rfl ?_
                    refine fn_goto hV dX11_look_155 ?_
                    refine fn_nul_7 hV ?_
                    refine fn_nul_8 hV ?_
                    refine fn_nul_9 hV ?_
                    exact ihL2 (k2 + 1) (by omega) (by omega) _ _ _ _ trivial (by omega) (by first | exact hF | exact (hF.up (by decide)).up (by decide)) (by
        first
          | exact hI.no hb hc hx hy hr hm (by first | (left; omega) | (right; exact ⟨by show lr ≤ r; omega, fun q => by have q : r = lr := q; show mg ≤ m; omega⟩) | (exfalso; omega))
          | (rw [fnUp_off _ _ _ (show (0 : Int) ≠ 1 by decide), fnUp_at, fnUp_at]; exact hI.yes hb hc hx hy hr hm (by omega) (by first | (left; show r < lr; omega) | (right; exact ⟨by show r = lr; omega, by show m < mg; omega⟩) | (exfalso; omega)))) (by omega)
                  · refine fn_iload_9 hV dX11_look_122 ?_
                    refine fn_iload_4 hV dX11_look_124 ?_
                    refine fn_icmp_ge hV (by omega) (by omega) dX11_look_126 (fun q126 => ?_) (fun q126 => ?_)
                    · refine fn_iinc_6 hV dX11_look_152 rfl rfl ?_
                      refine fn_goto hV dX11_look_155 ?_
                      refine fn_nul_7 hV ?_
                      refine fn_nul_8 hV ?_
                      refine fn_nul_9 hV ?_
                      exact ihL2 (k2 + 1) (by omega) (by omega) _ _ _ _ trivial (by omega) (by first | exact hF | exact (hF.up (by decide)).up (by decide)) (by
        first
          | exact hI.no hb hc hx hy hr hm (by first | (left; omega) | (right; exact ⟨by show lr ≤ r; omega, fun q => by have q : r = lr := q; show mg ≤ m; omega⟩) | (exfalso; omega))
          | (rw [fnUp_off _ _ _ (show (0 : Int) ≠ 1 by decide), fnUp_at, fnUp_at]; exact hI.yes hb hc hx hy hr hm (by omega) (by first | (left; show r < lr; omega) | (right; exact ⟨by show r = lr; omega, by show m < mg; omega⟩) | (exfalso; omega)))) (by omega)
                    · refine fn_iload_8 hV dX11_look_129 ?_
                      refine fn_istore_3 hV dX11_look_131 rfl rfl ?_
                      refine fn_iload_9 hV dX11_look_132 ?_
                      refine fn_istore_4 hV dX11_look_134 rfl rfl ?_
                      refine fn_aload_0 hV dX11_look_136 ?_
                      refine fn_getR hV dX11_look_137 fl_X11_84 fr_51_27 ?_
                      refine fn_iconst hV dX11_look_140 ?_
                      refine fn_iload_5 hV dX11_look_141 ?_
                      refine fn_iast hV dX11_look_143 ar_75 (by omega) (by omega) ?_
                      refine fn_aload_0 hV dX11_look_144 ?_
                      refine fn_getR hV dX11_look_145 fl_X11_84 fr_51_27 ?_
                      refine fn_iconst hV dX11_look_148 ?_
                      refine fn_iload_6 hV dX11_look_149 ?_
                      refine fn_iast hV dX11_look_151 ar_75 (by omega) (by omega) ?_
                      refine fn_iinc_6 hV dX11_look_152 rfl rfl ?_
                      refine fn_goto hV dX11_look_155 ?_
                      refine fn_nul_7 hV ?_
                      refine fn_nul_8 hV ?_
                      refine fn_nul_9 hV ?_
                      exact ihL2 (k2 + 1) (by omega) (by omega) _ _ _ _ trivial (by omega) (by first | exact hF | exact (hF.up (by decide)).up (by decide)) (by
        first
          | exact hI.no hb hc hx hy hr hm (by first | (left; omega) | (right; exact ⟨by show lr ≤ r; omega, fun q => by have q : r = lr := q; show mg ≤ m; omega⟩) | (exfalso; omega))
          | (rw [fnUp_off _ _ _ (show (0 : Int) ≠ 1 by decide), fnUp_at, fnUp_at]; exact hI.yes hb hc hx hy hr hm (by omega) (by first | (left; show r < lr; omega) | (right; exact ⟨by show r = lr; omega, by show m < mg; omega⟩) | (exfalso; omega)))) (by omega)
            · refine fn_iload_5 hV dX11_look_51 ?_
              refine fn_iconst hV dX11_look_53 ?_
              refine fn_isub hV dX11_look_54 ?_
              refine fn_bipush hV dX11_look_55 rfl ?_
              refine fn_idivp hV dX11_look_57 (by omega) (by omega) ?_
              refine fn_iload_6 hV dX11_look_58 ?_
              refine fn_iconst hV dX11_look_60 ?_
              refine fn_isub hV dX11_look_61 ?_
              refine fn_bipush hV dX11_look_62 rfl ?_
              refine fn_idivp hV dX11_look_64 (by omega) (by omega) ?_
              refine fn_icmp_ne hV (by omega) (by omega) dX11_look_65 (fun q65 => ?_) (fun q65 => ?_)
              · refine fn_iconst hV dX11_look_72 ?_
                refine fn_istore_7 hV dX11_look_73 rfl rfl ?_
                refine fn_aload_0 hV dX11_look_75 ?_
                refine fn_iload_5 hV dX11_look_76 ?_
                refine fn_iload_1 hV dX11_look_78 ?_
                refine fn_cV2 hV (c_X11_byBar E _ hs _ _ (by omega) (by omega)) mv_X11_byBar lk_X11_228 dX11_look_79 sh_51 rfl ⟨rfl, rfl⟩ rfl ?_
                rw [e54]
                refine fn_aload_0 hV dX11_look_82 ?_
                refine fn_iload_6 hV dX11_look_83 ?_
                refine fn_iload_2 hV dX11_look_85 ?_
                refine fn_cV2 hV (c_X11_byBar E _ hs _ _ (by omega) (by omega)) mv_X11_byBar lk_X11_228 dX11_look_86 sh_51 rfl ⟨rfl, rfl⟩ rfl ?_
                rw [e54]
                have n1 := zbb_nn (μ 3) x b
                have n2 := zbb_nn (μ 3) y c
                have n3 := zbb_le w1 (x := x) (v := b) (by omega) hb
                have n4 := zbb_le w1 (x := y) (v := c) (by omega) hc
                refine fn_iadd hV dX11_look_89 ?_
                refine fn_istore_8 hV dX11_look_90 rfl rfl ?_
                refine fn_iload_5 hV dX11_look_92 ?_
                refine fn_cS1 hV (c_X11_one E _ _ (by omega)) ms_X11_one lk_X11_231 dX11_look_94 ⟨rfl, rfl⟩ rfl ?_
                refine fn_iload_6 hV dX11_look_97 ?_
                refine fn_cS1 hV (c_X11_one E _ _ (by omega)) ms_X11_one lk_X11_231 dX11_look_99 ⟨rfl, rfl⟩ rfl ?_
                refine fn_iadd hV dX11_look_102 ?_
                refine fn_istore_9 hV dX11_look_103 rfl rfl ?_
                obtain ⟨r, hr⟩ : ∃ r, r = zbb (μ 3) x b + zbb (μ 3) y c := ⟨_, rfl⟩
                obtain ⟨m, hm⟩ : ∃ m, m = zone x + zone y := ⟨_, rfl⟩
                have o1 := zone_in x
                have o2 := zone_in y
                rw [← hr, ← hm]
                refine fn_iload_7 hV dX11_look_105 ?_
                refine fn_if_ne hV (by omega) dX11_look_107 (fun q107 => ?_) (fun q107 => ?_)
                · refine fn_iinc_6 hV dX11_look_152 rfl rfl ?_
                  refine fn_goto hV dX11_look_155 ?_
                  refine fn_nul_7 hV ?_
                  refine fn_nul_8 hV ?_
                  refine fn_nul_9 hV ?_
                  exact ihL2 (k2 + 1) (by omega) (by omega) _ _ _ _ trivial (by omega) (by first | exact hF | exact (hF.up (by decide)).up (by decide)) (by
        first
          | exact hI.no hb hc hx hy hr hm (by first | (left; omega) | (right; exact ⟨by show lr ≤ r; omega, fun q => by have q : r = lr := q; show mg ≤ m; omega⟩) | (exfalso; omega))
          | (rw [fnUp_off _ _ _ (show (0 : Int) ≠ 1 by decide), fnUp_at, fnUp_at]; exact hI.yes hb hc hx hy hr hm (by omega) (by first | (left; show r < lr; omega) | (right; exact ⟨by show r = lr; omega, by show m < mg; omega⟩) | (exfalso; omega)))) (by omega)
                · refine fn_iload_8 hV dX11_look_110 ?_
                  refine fn_iload_3 hV dX11_look_112 ?_
                  refine fn_icmp_lt hV (by omega) (by omega) dX11_look_113 (fun q113 => ?_) (fun q113 => ?_)
                  · refine fn_iload_8 hV dX11_look_129 ?_
                    refine fn_istore_3 hV dX11_look_131 rfl rfl ?_
                    refine fn_iload_9 hV dX11_look_132 ?_
                    refine fn_istore_4 hV dX11_look_134 rfl rfl ?_
                    refine fn_aload_0 hV dX11_look_136 ?_
                    refine fn_getR hV dX11_look_137 fl_X11_84 fr_51_27 ?_
                    refine fn_iconst hV dX11_look_140 ?_
                    refine fn_iload_5 hV dX11_look_141 ?_
                    refine fn_iast hV dX11_look_143 ar_75 (by omega) (by omega) ?_
                    refine fn_aload_0 hV dX11_look_144 ?_
                    refine fn_getR hV dX11_look_145 fl_X11_84 fr_51_27 ?_
                    refine fn_iconst hV dX11_look_148 ?_
                    refine fn_iload_6 hV dX11_look_149 ?_
                    refine fn_iast hV dX11_look_151 ar_75 (by omega) (by omega) ?_
                    refine fn_iinc_6 hV dX11_look_152 rfl rfl ?_
                    refine fn_goto hV dX11_look_155 ?_
                    refine fn_nul_7 hV ?_
                    refine fn_nul_8 hV ?_
                    refine fn_nul_9 hV ?_
                    exact ihL2 (k2 + 1) (by omega) (by omega) _ _ _ _ trivial (by omega) (by first | exact hF | exact (hF.up (by decide)).up (by decide)) (by
        first
          | exact hI.no hb hc hx hy hr hm (by first | (left; omega) | (right; exact ⟨by show lr ≤ r; omega, fun q => by have q : r = lr := q; show mg ≤ m; omega⟩) | (exfalso; omega))
          | (rw [fnUp_off _ _ _ (show (0 : Int) ≠ 1 by decide), fnUp_at, fnUp_at]; exact hI.yes hb hc hx hy hr hm (by omega) (by first | (left; show r < lr; omega) | (right; exact ⟨by show r = lr; omega, by show m < mg; omega⟩) | (exfalso; omega)))) (by omega)
                  · refine fn_iload_8 hV dX11_look_116 ?_
                    refine fn_iload_3 hV dX11_look_118 ?_
                    refine fn_icmp_ne hV (by omega) (by omega) dX11_look_119 (fun q119 => ?_) (fun q119 => ?_)
                    · refine fn_iinc_6 hV dX11_look_152 rfl rfl ?_
                      refine fn_goto hV dX11_look_155 ?_
                      refine fn_nul_7 hV ?_
                      refine fn_nul_8 hV ?_
                      refine fn_nul_9 hV ?_
                      exact ihL2 (k2 + 1) (by omega) (by omega) _ _ _ _ trivial (by omega) (by first | exact hF | exact (hF.up (by decide)).up (by decide)) (by
        first
          | exact hI.no hb hc hx hy hr hm (by first | (left; omega) | (right; exact ⟨by show lr ≤ r; omega, fun q => by have q : r = lr := q; show mg ≤ m; omega⟩) | (exfalso; omega))
          | (rw [fnUp_off _ _ _ (show (0 : Int) ≠ 1 by decide), fnUp_at, fnUp_at]; exact hI.yes hb hc hx hy hr hm (by omega) (by first | (left; show r < lr; omega) | (right; exact ⟨by show r = lr; omega, by show m < mg; omega⟩) | (exfalso; omega)))) (by omega)
                    · refine fn_iload_9 hV dX11_look_122 ?_
                      refine fn_iload_4 hV dX11_look_124 ?_
                      refine fn_icmp_ge hV (by omega) (by omega) dX11_look_126 (fun q126 => ?_) (fun q126 => ?_)
                      · refine fn_iinc_6 hV dX11_look_152 rfl rfl ?_
                        refine fn_goto hV dX11_look_155 ?_
                        refine fn_nul_7 hV ?_
                        refine fn_nul_8 hV ?_
                        refine fn_nul_9 hV ?_
                        exact ihL2 (k2 + 1) (by omega) (by omega) _ _ _ _ trivial (by omega) (by first | exact hF | exact (hF.up (by decide)).up (by decide)) (by
        first
          | exact hI.no hb hc hx hy hr hm (by first | (left; omega) | (right; exact ⟨by show lr ≤ r; omega, fun q => by have q : r = lr := q; show mg ≤ m; omega⟩) | (exfalso; omega))
          | (rw [fnUp_off _ _ _ (show (0 : Int) ≠ 1 by decide), fnUp_at, fnUp_at]; exact hI.yes hb hc hx hy hr hm (by omega) (by first | (left; show r < lr; omega) | (right; exact ⟨by show r = lr; omega, by show m < mg; omega⟩) | (exfalso; omega)))) (by omega)
                      · refine fn_iload_8 hV dX11_look_129 ?_
                        refine fn_istore_3 hV dX11_look_131 rfl rfl ?_
                        refine fn_iload_9 hV dX11_look_132 ?_
                        refine fn_istore_4 hV dX11_look_134 rfl rfl ?_
                        refine fn_aload_0 hV dX11_look_136 ?_
                        refine fn_getR hV dX11_look_137 fl_X11_84 fr_51_27 ?_
                        refine fn_iconst hV dX11_look_140 ?_
                        refine fn_iload_5 hV dX11_look_141 ?_
                        refine fn_iast hV dX11_look_143 ar_75 (by omega) (by omega) ?_
                        refine fn_aload_0 hV dX11_look_144 ?_
                        refine fn_getR hV dX11_look_145 fl_X11_84 fr_51_27 ?_
                        refine fn_iconst hV dX11_look_148 ?_
                        refine fn_iload_6 hV dX11_look_149 ?_
                        refine fn_iast hV dX11_look_151 ar_75 (by omega) (by omega) ?_
                        refine fn_iinc_6 hV dX11_look_152 rfl rfl ?_
                        refine fn_goto hV dX11_look_155 ?_
                        refine fn_nul_7 hV ?_
                        refine fn_nul_8 hV ?_
                        refine fn_nul_9 hV ?_
                        exact ihL2 (k2 + 1) (by omega) (by omega) _ _ _ _ trivial (by omega) (by first | exact hF | exact (hF.up (by decide)).up (by decide)) (by
        first
          | exact hI.no hb hc hx hy hr hm (by first | (left; omega) | (right; exact ⟨by show lr ≤ r; omega, fun q => by have q : r = lr := q; show mg ≤ m; omega⟩) | (exfalso; omega))
          | (rw [fnUp_off _ _ _ (show (0 : Int) ≠ 1 by decide), fnUp_at, fnUp_at]; exact hI.yes hb hc hx hy hr hm (by omega) (by first | (left; show r < lr; omega) | (right; exact ⟨by show r = lr; omega, by show m < mg; omega⟩) | (exfalso; omega)))) (by omega)
              · refine fn_iconst hV dX11_look_68 ?_
                refine fn_goto hV dX11_look_69 ?_
                refine fn_istore_7 hV dX11_look_73 rfl rfl ?_
                refine fn_aload_0 hV dX11_look_75 ?_
                refine fn_iload_5 hV dX11_look_76 ?_
                refine fn_iload_1 hV dX11_look_78 ?_
                refine fn_cV2 hV (c_X11_byBar E _ hs _ _ (by omega) (by omega)) mv_X11_byBar lk_X11_228 dX11_look_79 sh_51 rfl ⟨rfl, rfl⟩ rfl ?_
                rw [e54]
                refine fn_aload_0 hV dX11_look_82 ?_
                refine fn_iload_6 hV dX11_look_83 ?_
                refine fn_iload_2 hV dX11_look_85 ?_
                refine fn_cV2 hV (c_X11_byBar E _ hs _ _ (by omega) (by omega)) mv_X11_byBar lk_X11_228 dX11_look_86 sh_51 rfl ⟨rfl, rfl⟩ rfl ?_
                rw [e54]
                have n1 := zbb_nn (μ 3) x b
                have n2 := zbb_nn (μ 3) y c
                have n3 := zbb_le w1 (x := x) (v := b) (by omega) hb
                have n4 := zbb_le w1 (x := y) (v := c) (by omega) hc
                refine fn_iadd hV dX11_look_89 ?_
                refine fn_istore_8 hV dX11_look_90 rfl rfl ?_
                refine fn_iload_5 hV dX11_look_92 ?_
                refine fn_cS1 hV (c_X11_one E _ _ (by omega)) ms_X11_one lk_X11_231 dX11_look_94 ⟨rfl, rfl⟩ rfl ?_
                refine fn_iload_6 hV dX11_look_97 ?_
                refine fn_cS1 hV (c_X11_one E _ _ (by omega)) ms_X11_one lk_X11_231 dX11_look_99 ⟨rfl, rfl⟩ rfl ?_
                refine fn_iadd hV dX11_look_102 ?_
                refine fn_istore_9 hV dX11_look_103 rfl rfl ?_
                obtain ⟨r, hr⟩ : ∃ r, r = zbb (μ 3) x b + zbb (μ 3) y c := ⟨_, rfl⟩
                obtain ⟨m, hm⟩ : ∃ m, m = zone x + zone y := ⟨_, rfl⟩
                have o1 := zone_in x
                have o2 := zone_in y
                rw [← hr, ← hm]
                refine fn_iload_7 hV dX11_look_105 ?_
                refine fn_if_ne hV (by omega) dX11_look_107 (fun q107 => ?_) (fun q107 => ?_)
                · refine fn_iinc_6 hV dX11_look_152 rfl rfl ?_
                  refine fn_goto hV dX11_look_155 ?_
                  refine fn_nul_7 hV ?_
                  refine fn_nul_8 hV ?_
                  refine fn_nul_9 hV ?_
                  exact ihL2 (k2 + 1) (by omega) (by omega) _ _ _ _ trivial (by omega) (by first | exact hF | exact (hF.up (by decide)).up (by decide)) (by
        first
          | exact hI.no hb hc hx hy hr hm (by first | (left; omega) | (right; exact ⟨by show lr ≤ r; omega, fun q => by have q : r = lr := q; show mg ≤ m; omega⟩) | (exfalso; omega))
          | (rw [fnUp_off _ _ _ (show (0 : Int) ≠ 1 by decide), fnUp_at, fnUp_at]; exact hI.yes hb hc hx hy hr hm (by omega) (by first | (left; show r < lr; omega) | (right; exact ⟨by show r = lr; omega, by show m < mg; omega⟩) | (exfalso; omega)))) (by omega)
                · refine fn_iload_8 hV dX11_look_110 ?_
                  refine fn_iload_3 hV dX11_look_112 ?_
                  refine fn_icmp_lt hV (by omega) (by omega) dX11_look_113 (fun q113 => ?_) (fun q113 => ?_)
                  · refine fn_iload_8 hV dX11_look_129 ?_
                    refine fn_istore_3 hV dX11_look_131 rfl rfl ?_
                    refine fn_iload_9 hV dX11_look_132 ?_
                    refine fn_istore_4 hV dX11_look_134 rfl rfl ?_
                    refine fn_aload_0 hV dX11_look_136 ?_
                    refine fn_getR hV dX11_look_137 fl_X11_84 fr_51_27 ?_
                    refine fn_iconst hV dX11_look_140 ?_
                    refine fn_iload_5 hV dX11_look_141 ?_
                    refine fn_iast hV dX11_look_143 ar_75 (by omega) (by omega) ?_
                    refine fn_aload_0 hV dX11_look_144 ?_
                    refine fn_getR hV dX11_look_145 fl_X11_84 fr_51_27 ?_
                    refine fn_iconst hV dX11_look_148 ?_
                    refine fn_iload_6 hV dX11_look_149 ?_
                    refine fn_iast hV dX11_look_151 ar_75 (by omega) (by omega) ?_
                    refine fn_iinc_6 hV dX11_look_152 rfl rfl ?_
                    refine fn_goto hV dX11_look_155 ?_
                    refine fn_nul_7 hV ?_
                    refine fn_nul_8 hV ?_
                    refine fn_nul_9 hV ?_
                    exact ihL2 (k2 + 1) (by omega) (by omega) _ _ _ _ trivial (by omega) (by first | exact hF | exact (hF.up (by decide)).up (by decide)) (by
        first
          | exact hI.no hb hc hx hy hr hm (by first | (left; omega) | (right; exact ⟨by show lr ≤ r; omega, fun q => by have q : r = lr := q; show mg ≤ m; omega⟩) | (exfalso; omega))
          | (rw [fnUp_off _ _ _ (show (0 : Int) ≠ 1 by decide), fnUp_at, fnUp_at]; exact hI.yes hb hc hx hy hr hm (by omega) (by first | (left; show r < lr; omega) | (right; exact ⟨by show r = lr; omega, by show m < mg; omega⟩) | (exfalso; omega)))) (by omega)
                  · refine fn_iload_8 hV dX11_look_116 ?_
                    refine fn_iload_3 hV dX11_look_118 ?_
                    refine fn_icmp_ne hV (by omega) (by omega) dX11_look_119 (fun q119 => ?_) (fun q119 => ?_)
                    · refine fn_iinc_6 hV dX11_look_152 rfl rfl ?_
                      refine fn_goto hV dX11_look_155 ?_
                      refine fn_nul_7 hV ?_
                      refine fn_nul_8 hV ?_
                      refine fn_nul_9 hV ?_
                      exact ihL2 (k2 + 1) (by omega) (by omega) _ _ _ _ trivial (by omega) (by first | exact hF | exact (hF.up (by decide)).up (by decide)) (by
        first
          | exact hI.no hb hc hx hy hr hm (by first | (left; omega) | (right; exact ⟨by show lr ≤ r; omega, fun q => by have q : r = lr := q; show mg ≤ m; omega⟩) | (exfalso; omega))
          | (rw [fnUp_off _ _ _ (show (0 : Int) ≠ 1 by decide), fnUp_at, fnUp_at]; exact hI.yes hb hc hx hy hr hm (by omega) (by first | (left; show r < lr; omega) | (right; exact ⟨by show r = lr; omega, by show m < mg; omega⟩) | (exfalso; omega)))) (by omega)
                    · refine fn_iload_9 hV dX11_look_122 ?_
                      refine fn_iload_4 hV dX11_look_124 ?_
                      refine fn_icmp_ge hV (by omega) (by omega) dX11_look_126 (fun q126 => ?_) (fun q126 => ?_)
                      · refine fn_iinc_6 hV dX11_look_152 rfl rfl ?_
                        refine fn_goto hV dX11_look_155 ?_
                        refine fn_nul_7 hV ?_
                        refine fn_nul_8 hV ?_
                        refine fn_nul_9 hV ?_
                        exact ihL2 (k2 + 1) (by omega) (by omega) _ _ _ _ trivial (by omega) (by first | exact hF | exact (hF.up (by decide)).up (by decide)) (by
        first
          | exact hI.no hb hc hx hy hr hm (by first | (left; omega) | (right; exact ⟨by show lr ≤ r; omega, fun q => by have q : r = lr := q; show mg ≤ m; omega⟩) | (exfalso; omega))
          | (rw [fnUp_off _ _ _ (show (0 : Int) ≠ 1 by decide), fnUp_at, fnUp_at]; exact hI.yes hb hc hx hy hr hm (by omega) (by first | (left; show r < lr; omega) | (right; exact ⟨by show r = lr; omega, by show m < mg; omega⟩) | (exfalso; omega)))) (by omega)
                      · refine fn_iload_8 hV dX11_look_129 ?_
                        refine fn_istore_3 hV dX11_look_131 rfl rfl ?_
                        refine fn_iload_9 hV dX11_look_132 ?_
                        refine fn_istore_4 hV dX11_look_134 rfl rfl ?_
                        refine fn_aload_0 hV dX11_look_136 ?_
                        refine fn_getR hV dX11_look_137 fl_X11_84 fr_51_27 ?_
                        refine fn_iconst hV dX11_look_140 ?_
                        refine fn_iload_5 hV dX11_look_141 ?_
                        refine fn_iast hV dX11_look_143 ar_75 (by omega) (by omega) ?_
                        refine fn_aload_0 hV dX11_look_144 ?_
                        refine fn_getR hV dX11_look_145 fl_X11_84 fr_51_27 ?_
                        refine fn_iconst hV dX11_look_148 ?_
                        refine fn_iload_6 hV dX11_look_149 ?_
                        refine fn_iast hV dX11_look_151 ar_75 (by omega) (by omega) ?_
                        refine fn_iinc_6 hV dX11_look_152 rfl rfl ?_
                        refine fn_goto hV dX11_look_155 ?_
                        refine fn_nul_7 hV ?_
                        refine fn_nul_8 hV ?_
                        refine fn_nul_9 hV ?_
                        exact ihL2 (k2 + 1) (by omega) (by omega) _ _ _ _ trivial (by omega) (by first | exact hF | exact (hF.up (by decide)).up (by decide)) (by
        first
          | exact hI.no hb hc hx hy hr hm (by first | (left; omega) | (right; exact ⟨by show lr ≤ r; omega, fun q => by have q : r = lr := q; show mg ≤ m; omega⟩) | (exfalso; omega))
          | (rw [fnUp_off _ _ _ (show (0 : Int) ≠ 1 by decide), fnUp_at, fnUp_at]; exact hI.yes hb hc hx hy hr hm (by omega) (by first | (left; show r < lr; omega) | (right; exact ⟨by show r = lr; omega, by show m < mg; omega⟩) | (exfalso; omega)))) (by omega)
      exact L2 0 (by omega) _ _ _ _ trivial (by omega) hF hI hl
  exact L 0 (by omega) _ _ _ _ trivial (by omega) fnFr.rf (Or.inl ⟨rfl, rfl, rfl, rfl⟩) (by decide)
