set_option maxHeartbeats 4000000 in
set_option maxRecDepth 20000 in
theorem c_X11_jump (E : fnE) (σ : fnMem) (hW : zWF (mv σ)) (w : Int) (h_w : fnR w) : fnOk E mX11_jump [.ref 51, zI w] σ (fnQI (zMP (S_jump (mv σ) w) (mv σ) σ)) := by
  refine fnOk.of [.ref 51, zI w, .null, .null, .null] rfl (by decide +kernel) rfl (fun V hV hR => ?_)
  replace hV : fnCx E RX11 cX11_jump 5 8 176 V := hV
  replace hR : fnRt cX11_jump (some .int) _ V := hR
  refine fn_aload_0 hV dX11_jump_0 ?_
  refine fn_iconst hV dX11_jump_1 ?_
  refine fn_putIz hV 0 dX11_jump_2 fp_X11_96 fi_51_0 rfl ?_
  generalize hσ1 : fnUp σ 51 0 0 = σ1
  have e : ∀ k, k ≠ 51 → σ1 k = σ k := fun k hk => by rw [← hσ1, fnUp_ne _ _ _ hk]
  have e0 : ∀ j, j ≠ 0 → σ1 51 j = mv σ 0 j := fun j hj => by rw [← hσ1, fnUp_off _ _ _ hj]; rfl
  refine fn_iload_1 hV dX11_jump_5 ?_
  refine fn_i2lr hV dX11_jump_6 (by omega) ?_
  refine fn_lconst0 hV dX11_jump_7 ?_
  refine fn_ldc2 hV dX11_jump_8 co_X11_99 ?_
  refine fn_cS3 hV (c_X11_in E _ _ _ _ (by omega) (by omega) (by omega)) ms_X11_in lk_X11_117 dX11_jump_11 ⟨rfl, rfl⟩ rfl ?_
  refine fn_ifneb hV dX11_jump_14 (fun q14 => ?_) (fun q14 => ?_)
  · refine fn_aload_0 hV dX11_jump_21 ?_
    refine fn_cV0I hV (c_X11_suns E _ (mv σ) (zsc0 hσ1) hW) mv_X11_suns lk_X11_307 dX11_jump_22 sh_51 rfl ⟨rfl, rfl⟩ rfl (fun z σ2 hp => ?_)
    obtain ⟨rfl, sF, sv⟩ := hp
    have x1 := hW.2.2.2.2.2.1
    have n1 := znS_le (mv σ) (zLn (mv σ))
    have hmm := zm_eq (mv σ)
    have h3 : (zLn (mv σ) : Int) = mv σ 0 18 := by unfold zLn; omega
    have hB : ∀ j : Int, 0 ≤ j → j < zm (mv σ) → -2000000 ≤ σ2 76 j ∧ σ2 76 j ≤ 2000000 := fun j j0 j1 => by rw [sv j j0 j1]; exact zRS_in hW (zLn (mv σ)) (by omega) j j0 (by omega)
    have hin := zspl_in hW
    refine fn_istore_2 hV dX11_jump_25 rfl rfl ?_
    have J : ∀ (kk : Int) (σ3 : fnMem), (kk = (zspl (mv σ)).1 ∧ fnFr [77] σ2 σ3) → V 39 [.ref 51, zI w, zI (zm (mv σ)), .null, .null] [zI kk] σ3 := by
      intro kk σ3 hJ
      obtain ⟨hk, pF⟩ := hJ
      have hM3 : fnSc (mv σ) (mv σ3) := ((zsc0 hσ1).fr (sF.mono (by decide))).fr (pF.mono (by decide))
      refine fn_istore_3 hV dX11_jump_39 rfl rfl ?_
      refine fn_iload_3 hV dX11_jump_40 ?_
      refine fn_if_eq hV (by omega) dX11_jump_41 (fun q41 => ?_) (fun q41 => ?_)
      · refine fn_sipush hV dX11_jump_49 rfl ?_
        exact fn_iret hR dX11_jump_52 (zMP.fr hσ1 ((sF.mono (by decide)).tr (pF.mono (by decide))) (by unfold S_jump; rw [if_neg (by omega), if_pos (by omega)]))
      · refine fn_iload_3 hV dX11_jump_44 ?_
        refine fn_iload_2 hV dX11_jump_45 ?_
        refine fn_icmp_ne hV (by omega) (by omega) dX11_jump_46 (fun q46 => ?_) (fun q46 => ?_)
        · obtain ⟨f, hf⟩ : ∃ f : Nat, kk = f := ⟨kk.toNat, by omega⟩
          refine fn_iload_1 hV dX11_jump_53 ?_
          refine fn_if_le hV (by omega) dX11_jump_54 (fun q54 => ?_) (fun q54 => ?_)
          · refine fn_aload_0 hV dX11_jump_74 ?_
            refine fn_iconst hV dX11_jump_75 ?_
            refine fn_iload_3 hV dX11_jump_76 ?_
            refine fn_cV2I hV (c_X11_middle E _ _ _ f (by omega) (by omega) (by omega) (by omega) (fun j j0 j1 => by rw [pF 76 (by decide)]; exact hB j j0 (by omega))) mv_X11_middle lk_X11_301 dX11_jump_77 sh_51 rfl ⟨rfl, rfl⟩ rfl (fun z4 σ4 hp => ?_)
            obtain ⟨hz4, cF⟩ := hp
            have b4 := zmid_le (R := σ3 76) (a := 0) (n := f) (B := 2000000) (by decide) (fun j j0 j1 => by rw [pF 76 (by decide)]; exact hB j j0 (by omega))
            refine fn_istore_4 hV dX11_jump_80 rfl rfl ?_
            refine fn_aload_0 hV dX11_jump_82 ?_
            refine fn_iload_3 hV dX11_jump_83 ?_
            refine fn_iload_2 hV dX11_jump_84 ?_
            refine fn_cV2I hV (c_X11_middle E _ _ _ (zm (mv σ) - f) (by omega) (by omega) (by omega) (by omega) (fun j j0 j1 => by rw [cF 76 (by decide), pF 76 (by decide)]; exact hB j (by omega) (by omega))) mv_X11_middle lk_X11_301 dX11_jump_85 sh_51 rfl ⟨rfl, rfl⟩ rfl (fun z5 σ5 hp => ?_)
            obtain ⟨hz5, dF⟩ := hp
            refine fn_iload_4 hV dX11_jump_88 ?_
            refine fn_isub hV dX11_jump_90 ?_
            exact fn_iret hR dX11_jump_91 (zMP.fr hσ1 (((sF.mono (by decide)).tr (pF.mono (by decide))).tr ((cF.mono (by decide)).tr (dF.mono (by decide)))) (by unfold S_jump; rw [if_neg (by omega), if_neg (by omega), if_pos (by omega), ← hk, hf, Int.toNat_natCast, hz5, hz4, hf, cF 76 (by decide), pF 76 (by decide), zmid_congr (R := σ2 76) (S := zRS (mv σ) (zLn (mv σ))) (fun j j0 j1 => sv j (by omega) (by omega)), zmid_congr (R := σ2 76) (S := zRS (mv σ) (zLn (mv σ))) (a := 0) (fun j j0 j1 => sv j (by omega) (by omega))]))
          · refine fn_aload_0 hV dX11_jump_57 ?_
            refine fn_iload_1 hV dX11_jump_58 ?_
            refine fn_iconst hV dX11_jump_59 ?_
            refine fn_icmp_ne hV (by omega) (by omega) dX11_jump_60 (fun q60 => ?_) (fun q60 => ?_)
            · refine fn_iload_3 hV dX11_jump_69 ?_
              refine fn_cV1 hV (c_X11_sunDay E _ (mv σ) hM3 hW _ (by omega)) mv_X11_sunDay lk_X11_313 dX11_jump_70 sh_51 rfl ⟨rfl, rfl⟩ rfl ?_
              exact fn_iret hR dX11_jump_73 (zMP.fr hσ1 ((sF.mono (by decide)).tr (pF.mono (by decide))) (by unfold S_jump; rw [if_neg (by omega), if_neg (by omega), if_neg (by omega)]; first | (rw [if_pos (by omega), ← hk]; done) | (rw [if_neg (by omega), ← hk]; done)))
            · refine fn_iload_3 hV dX11_jump_63 ?_
              refine fn_iconst hV dX11_jump_64 ?_
              refine fn_isub hV dX11_jump_65 ?_
              refine fn_goto hV dX11_jump_66 ?_
              refine fn_cV1 hV (c_X11_sunDay E _ (mv σ) hM3 hW _ (by omega)) mv_X11_sunDay lk_X11_313 dX11_jump_70 sh_51 rfl ⟨rfl, rfl⟩ rfl ?_
              exact fn_iret hR dX11_jump_73 (zMP.fr hσ1 ((sF.mono (by decide)).tr (pF.mono (by decide))) (by unfold S_jump; rw [if_neg (by omega), if_neg (by omega), if_neg (by omega)]; first | (rw [if_pos (by omega), ← hk]; done) | (rw [if_neg (by omega), ← hk]; done)))
        · refine fn_sipush hV dX11_jump_49 rfl ?_
          exact fn_iret hR dX11_jump_52 (zMP.fr hσ1 ((sF.mono (by decide)).tr (pF.mono (by decide))) (by unfold S_jump; rw [if_neg (by omega), if_pos (by omega)]))
    refine fn_iload_2 hV dX11_jump_26 ?_
    refine fn_if_ne hV (by omega) dX11_jump_27 (fun q27 => ?_) (fun q27 => ?_)
    · refine fn_aload_0 hV dX11_jump_34 ?_
      refine fn_iload_2 hV dX11_jump_35 ?_
      refine fn_cV1I hV (c_X11_splitOf E _ (zm (mv σ)) (by omega) hB) mv_X11_splitOf lk_X11_310 dX11_jump_36 sh_51 rfl ⟨rfl, rfl⟩ rfl (fun z σ3 hp => ?_)
      obtain ⟨hz, pF⟩ := hp
      have hz1 : z = (zspl (mv σ)).1 := by rw [hz]; unfold zspl; rw [zsp_congr sv _ (Nat.le_refl _)]
      exact J _ _ ⟨hz1, pF⟩
    · refine fn_iconst hV dX11_jump_30 ?_
      refine fn_goto hV dX11_jump_31 ?_
      exact J _ _ ⟨by omega, fnFr.rf⟩
  · refine fn_sipush hV dX11_jump_17 rfl ?_
    exact fn_iret hR dX11_jump_20 (zMP.rf hσ1 (by unfold S_jump; rw [if_pos (by omega)]))
