/-! THE LAW: its context, its 45 cases, its loop -/
def lwX (E : fnE) (L : Nat) (xs : Nat → Int32) (V : fnV) : Prop :=
  fnCx E RL cL_law 4 11 424 V ∧ L ≤ 3584 ∧
  (∀ (pc nx : Nat) (lv st : List Value) (σ : fnMem) (i : Int), fnD cL_law pc .iaload 1 nx → 0 ≤ i → i < L → V nx lv (zI (xs i.toNat).toInt :: st) σ → V pc lv (zI i :: .ref 101 :: st) σ) ∧
  (∀ (pc nx : Nat) (lv st : List Value) (σ : fnMem), fnD cL_law pc .arraylength 1 nx → V nx lv (zI (L : Int) :: st) σ → V pc lv (.ref 101 :: st) σ) ∧
  (∀ (pc nx : Nat) (lv : List Value) (σ : fnMem), fnD cL_law pc .ireturn 1 nx → V pc lv [zI 1] σ)
theorem lw_R (x : Int32) : fnR x.toInt := ⟨by have := Int32.le_toInt x; simpa using this, by have := Int32.toInt_lt x; simpa using this⟩
theorem fn_icmp_eqT {E : fnE} {own : String} {cc : ByteArray} {nL fr lo : Nat} {V : fnV} (h : fnCx E own cc nL fr lo V) {pc nx : Nat} {lv st : List Value} {σ : fnMem} {tgt : Nat} {x y : Int} (hd : fnIc cc pc .eq tgt nx) (hxy : x = y) (kt : V tgt lv st σ) : V pc lv (zI y :: zI x :: st) σ := by
  subst hxy
  obtain ⟨p, l, e, R, s, m, args, below, meth, c, A, cells, slots, Q, ⟨hx, hb, hml, hown, hts⟩, hK, hD, hA, hZ, hT, hN, ⟨r1, r2, r3, r4⟩, rfl⟩ := h
  obtain ⟨hd, rfl⟩ := hd
  intro H locs ls hP hS hl
  have ht : (pc : Int) + ((tgt : Int) - (pc : Int)) = (tgt : Int) := by omega
  exact lv_icmp_eq hx hb hd ht (fun _ => kt H locs ls hP hS hl) (fun q => absurd rfl q)
theorem lw_case_0 {E : fnE} {L : Nat} {xs : Nat → Int32} {V : fnV} (h : lwX E L xs V) {σ : fnMem} (hC : zCR σ (mv σ)) (hW : zWF (mv σ)) {i : Int} (i0 : 0 ≤ i) (i1 : i + 7 ≤ L) (kk : ∀ σ2 : fnMem, zCR σ2 (mv σ2) → zWF (mv σ2) → V 1769 [.ref 101, .ref 0, .ref 51, zI i] [] σ2) : V 228 [.ref 101, .ref 0, .ref 51, zI i] [] σ := by
  obtain ⟨hV, hL, hI, hA, hR⟩ := h
  refine fn_aload_1 hV dL_law_228 ?_
  refine fn_aload_0 hV dL_law_229 ?_
  refine fn_iload_3 hV dL_law_230 ?_
  refine fn_iconst hV dL_law_231 ?_
  refine fn_iadd hV dL_law_232 ?_
  refine hI _ _ _ _ _ _ dL_law_233 (by omega) (by omega) ?_
  refine fn_aload_0 hV dL_law_234 ?_
  refine fn_iload_3 hV dL_law_235 ?_
  refine fn_iconst hV dL_law_236 ?_
  refine fn_iadd hV dL_law_237 ?_
  refine hI _ _ _ _ _ _ dL_law_238 (by omega) (by omega) ?_
  refine fn_if_eq hV (lw_R _) dL_law_239 (fun qb2 => ?_) (fun qb2 => ?_)
  · skip
    refine fn_iconst hV dL_law_246 ?_
    refine fn_cV2I hV (c_X10_sine E _ (mv σ) hC hW _ (lw_R _) _ (Or.inl rfl)) mv_X10_sine lk_L_13 dL_law_247 sh_0 rfl ⟨rfl, rfl⟩ rfl (fun z1 σ1 hp1 => ?_)
    obtain ⟨hz1, hC1, hf1⟩ := hp1
    have e1 : mv σ1 = mv σ := funext fun k => hf1 (51 + k) (by omega)
    refine fn_aload_2 hV dL_law_250 ?_
    refine fn_aload_0 hV dL_law_251 ?_
    refine fn_iload_3 hV dL_law_252 ?_
    refine fn_iconst hV dL_law_253 ?_
    refine fn_iadd hV dL_law_254 ?_
    refine hI _ _ _ _ _ _ dL_law_255 (by omega) (by omega) ?_
    refine fn_aload_0 hV dL_law_256 ?_
    refine fn_iload_3 hV dL_law_257 ?_
    refine fn_iconst hV dL_law_258 ?_
    refine fn_iadd hV dL_law_259 ?_
    refine hI _ _ _ _ _ _ dL_law_260 (by omega) (by omega) ?_
    refine fn_if_eq hV (lw_R _) dL_law_261 (fun _ => ?_) (fun q => absurd qb2 q)
    refine fn_iconst hV dL_law_268 ?_
    refine fn_cV2I hV (c_X11_sine E σ1 (by rw [e1]; exact hW) _ (lw_R _) _ (Or.inl rfl)) mv_X11_sine lk_L_17 dL_law_269 sh_51 rfl ⟨rfl, rfl⟩ rfl (fun z2 σ2 hp2 => ?_)
    rw [e1] at hp2
    obtain ⟨hz2, hs2, hf2⟩ := hp2
    refine fn_icmp_eqT hV dL_law_272 (by rw [hz1, hz2]) ?_
    exact kk σ2 (zCR_sc hC1 hf2 hs2) (zWF_sc hW hs2)
  · skip
    refine fn_iconst hV dL_law_242 ?_
    refine fn_goto hV dL_law_243 ?_
    refine fn_cV2I hV (c_X10_sine E _ (mv σ) hC hW _ (lw_R _) _ (Or.inr rfl)) mv_X10_sine lk_L_13 dL_law_247 sh_0 rfl ⟨rfl, rfl⟩ rfl (fun z1 σ1 hp1 => ?_)
    obtain ⟨hz1, hC1, hf1⟩ := hp1
    have e1 : mv σ1 = mv σ := funext fun k => hf1 (51 + k) (by omega)
    refine fn_aload_2 hV dL_law_250 ?_
    refine fn_aload_0 hV dL_law_251 ?_
    refine fn_iload_3 hV dL_law_252 ?_
    refine fn_iconst hV dL_law_253 ?_
    refine fn_iadd hV dL_law_254 ?_
    refine hI _ _ _ _ _ _ dL_law_255 (by omega) (by omega) ?_
    refine fn_aload_0 hV dL_law_256 ?_
    refine fn_iload_3 hV dL_law_257 ?_
    refine fn_iconst hV dL_law_258 ?_
    refine fn_iadd hV dL_law_259 ?_
    refine hI _ _ _ _ _ _ dL_law_260 (by omega) (by omega) ?_
    refine fn_if_eq hV (lw_R _) dL_law_261 (fun q => absurd q qb2) (fun _ => ?_)
    refine fn_iconst hV dL_law_264 ?_
    refine fn_goto hV dL_law_265 ?_
    refine fn_cV2I hV (c_X11_sine E σ1 (by rw [e1]; exact hW) _ (lw_R _) _ (Or.inr rfl)) mv_X11_sine lk_L_17 dL_law_269 sh_51 rfl ⟨rfl, rfl⟩ rfl (fun z2 σ2 hp2 => ?_)
    rw [e1] at hp2
    obtain ⟨hz2, hs2, hf2⟩ := hp2
    refine fn_icmp_eqT hV dL_law_272 (by rw [hz1, hz2]) ?_
    exact kk σ2 (zCR_sc hC1 hf2 hs2) (zWF_sc hW hs2)
theorem lw_case_1 {E : fnE} {L : Nat} {xs : Nat → Int32} {V : fnV} (h : lwX E L xs V) {σ : fnMem} (hC : zCR σ (mv σ)) (hW : zWF (mv σ)) {i : Int} (i0 : 0 ≤ i) (i1 : i + 7 ≤ L) (kk : ∀ σ2 : fnMem, zCR σ2 (mv σ2) → zWF (mv σ2) → V 1769 [.ref 101, .ref 0, .ref 51, zI i] [] σ2) : V 277 [.ref 101, .ref 0, .ref 51, zI i] [] σ := by
  obtain ⟨hV, hL, hI, hA, hR⟩ := h
  refine fn_aload_1 hV dL_law_277 ?_
  refine fn_aload_0 hV dL_law_278 ?_
  refine fn_iload_3 hV dL_law_279 ?_
  refine fn_iconst hV dL_law_280 ?_
  refine fn_iadd hV dL_law_281 ?_
  refine hI _ _ _ _ _ _ dL_law_282 (by omega) (by omega) ?_
  refine fn_aload_0 hV dL_law_283 ?_
  refine fn_iload_3 hV dL_law_284 ?_
  refine fn_iconst hV dL_law_285 ?_
  refine fn_iadd hV dL_law_286 ?_
  refine hI _ _ _ _ _ _ dL_law_287 (by omega) (by omega) ?_
  refine fn_cV2I hV (c_X10_way E _ (mv σ) hC hW _ (lw_R _) _ (lw_R _)) mv_X10_way lk_L_18 dL_law_288 sh_0 rfl ⟨rfl, rfl⟩ rfl (fun z1 σ1 hp1 => ?_)
  obtain ⟨hz1, hC1, hf1⟩ := hp1
  have e1 : mv σ1 = mv σ := funext fun k => hf1 (51 + k) (by omega)
  refine fn_aload_2 hV dL_law_291 ?_
  refine fn_aload_0 hV dL_law_292 ?_
  refine fn_iload_3 hV dL_law_293 ?_
  refine fn_iconst hV dL_law_294 ?_
  refine fn_iadd hV dL_law_295 ?_
  refine hI _ _ _ _ _ _ dL_law_296 (by omega) (by omega) ?_
  refine fn_aload_0 hV dL_law_297 ?_
  refine fn_iload_3 hV dL_law_298 ?_
  refine fn_iconst hV dL_law_299 ?_
  refine fn_iadd hV dL_law_300 ?_
  refine hI _ _ _ _ _ _ dL_law_301 (by omega) (by omega) ?_
  refine fn_cV2I hV (c_X11_way E σ1 (by rw [e1]; exact hW) _ (lw_R _) _ (lw_R _)) mv_X11_way lk_L_22 dL_law_302 sh_51 rfl ⟨rfl, rfl⟩ rfl (fun z2 σ2 hp2 => ?_)
  rw [e1] at hp2
  obtain ⟨hz2, hs2, hf2⟩ := hp2
  refine fn_icmp_eqT hV dL_law_305 (by rw [hz1, hz2]) ?_
  exact kk σ2 (zCR_sc hC1 hf2 hs2) (zWF_sc hW hs2)
theorem lw_case_2 {E : fnE} {L : Nat} {xs : Nat → Int32} {V : fnV} (h : lwX E L xs V) {σ : fnMem} (hC : zCR σ (mv σ)) (hW : zWF (mv σ)) {i : Int} (i0 : 0 ≤ i) (i1 : i + 7 ≤ L) (kk : ∀ σ2 : fnMem, zCR σ2 (mv σ2) → zWF (mv σ2) → V 1769 [.ref 101, .ref 0, .ref 51, zI i] [] σ2) : V 310 [.ref 101, .ref 0, .ref 51, zI i] [] σ := by
  obtain ⟨hV, hL, hI, hA, hR⟩ := h
  refine fn_aload_1 hV dL_law_310 ?_
  refine fn_aload_0 hV dL_law_311 ?_
  refine fn_iload_3 hV dL_law_312 ?_
  refine fn_iconst hV dL_law_313 ?_
  refine fn_iadd hV dL_law_314 ?_
  refine hI _ _ _ _ _ _ dL_law_315 (by omega) (by omega) ?_
  refine fn_aload_0 hV dL_law_316 ?_
  refine fn_iload_3 hV dL_law_317 ?_
  refine fn_iconst hV dL_law_318 ?_
  refine fn_iadd hV dL_law_319 ?_
  refine hI _ _ _ _ _ _ dL_law_320 (by omega) (by omega) ?_
  refine fn_aload_0 hV dL_law_321 ?_
  refine fn_iload_3 hV dL_law_322 ?_
  refine fn_iconst hV dL_law_323 ?_
  refine fn_iadd hV dL_law_324 ?_
  refine hI _ _ _ _ _ _ dL_law_325 (by omega) (by omega) ?_
  refine fn_cV3I hV (c_X10_part E _ (mv σ) hC hW _ (lw_R _) _ (lw_R _) _ (lw_R _)) mv_X10_part lk_L_23 dL_law_326 sh_0 rfl ⟨rfl, rfl⟩ rfl (fun z1 σ1 hp1 => ?_)
  obtain ⟨hz1, hC1, hf1⟩ := hp1
  have e1 : mv σ1 = mv σ := funext fun k => hf1 (51 + k) (by omega)
  refine fn_aload_2 hV dL_law_329 ?_
  refine fn_aload_0 hV dL_law_330 ?_
  refine fn_iload_3 hV dL_law_331 ?_
  refine fn_iconst hV dL_law_332 ?_
  refine fn_iadd hV dL_law_333 ?_
  refine hI _ _ _ _ _ _ dL_law_334 (by omega) (by omega) ?_
  refine fn_aload_0 hV dL_law_335 ?_
  refine fn_iload_3 hV dL_law_336 ?_
  refine fn_iconst hV dL_law_337 ?_
  refine fn_iadd hV dL_law_338 ?_
  refine hI _ _ _ _ _ _ dL_law_339 (by omega) (by omega) ?_
  refine fn_aload_0 hV dL_law_340 ?_
  refine fn_iload_3 hV dL_law_341 ?_
  refine fn_iconst hV dL_law_342 ?_
  refine fn_iadd hV dL_law_343 ?_
  refine hI _ _ _ _ _ _ dL_law_344 (by omega) (by omega) ?_
  refine fn_cV3I hV (c_X11_part E σ1 (by rw [e1]; exact hW) _ (lw_R _) _ (lw_R _) _ (lw_R _)) mv_X11_part lk_L_27 dL_law_345 sh_51 rfl ⟨rfl, rfl⟩ rfl (fun z2 σ2 hp2 => ?_)
  rw [e1] at hp2
  obtain ⟨hz2, hs2, hf2⟩ := hp2
  refine fn_icmp_eqT hV dL_law_348 (by rw [hz1, hz2]) ?_
  exact kk σ2 (zCR_sc hC1 hf2 hs2) (zWF_sc (W_part hW _ _ _) hs2)
theorem lw_case_3 {E : fnE} {L : Nat} {xs : Nat → Int32} {V : fnV} (h : lwX E L xs V) {σ : fnMem} (hC : zCR σ (mv σ)) (hW : zWF (mv σ)) {i : Int} (i0 : 0 ≤ i) (i1 : i + 7 ≤ L) (kk : ∀ σ2 : fnMem, zCR σ2 (mv σ2) → zWF (mv σ2) → V 1769 [.ref 101, .ref 0, .ref 51, zI i] [] σ2) : V 353 [.ref 101, .ref 0, .ref 51, zI i] [] σ := by
  obtain ⟨hV, hL, hI, hA, hR⟩ := h
  refine fn_aload_1 hV dL_law_353 ?_
  refine fn_aload_0 hV dL_law_354 ?_
  refine fn_iload_3 hV dL_law_355 ?_
  refine fn_iconst hV dL_law_356 ?_
  refine fn_iadd hV dL_law_357 ?_
  refine hI _ _ _ _ _ _ dL_law_358 (by omega) (by omega) ?_
  refine fn_aload_0 hV dL_law_359 ?_
  refine fn_iload_3 hV dL_law_360 ?_
  refine fn_iconst hV dL_law_361 ?_
  refine fn_iadd hV dL_law_362 ?_
  refine hI _ _ _ _ _ _ dL_law_363 (by omega) (by omega) ?_
  refine fn_cV2I hV (c_X10_told E _ (mv σ) hC hW _ (lw_R _) _ (lw_R _)) mv_X10_told lk_L_28 dL_law_364 sh_0 rfl ⟨rfl, rfl⟩ rfl (fun z1 σ1 hp1 => ?_)
  obtain ⟨hz1, hC1, hf1⟩ := hp1
  have e1 : mv σ1 = mv σ := funext fun k => hf1 (51 + k) (by omega)
  refine fn_aload_2 hV dL_law_367 ?_
  refine fn_aload_0 hV dL_law_368 ?_
  refine fn_iload_3 hV dL_law_369 ?_
  refine fn_iconst hV dL_law_370 ?_
  refine fn_iadd hV dL_law_371 ?_
  refine hI _ _ _ _ _ _ dL_law_372 (by omega) (by omega) ?_
  refine fn_aload_0 hV dL_law_373 ?_
  refine fn_iload_3 hV dL_law_374 ?_
  refine fn_iconst hV dL_law_375 ?_
  refine fn_iadd hV dL_law_376 ?_
  refine hI _ _ _ _ _ _ dL_law_377 (by omega) (by omega) ?_
  refine fn_cV2I hV (c_X11_told E σ1 (by rw [e1]; exact hW) _ (lw_R _) _ (lw_R _)) mv_X11_told lk_L_31 dL_law_378 sh_51 rfl ⟨rfl, rfl⟩ rfl (fun z2 σ2 hp2 => ?_)
  rw [e1] at hp2
  obtain ⟨hz2, hs2, hf2⟩ := hp2
  refine fn_icmp_eqT hV dL_law_381 (by rw [hz1, hz2]) ?_
  exact kk σ2 (zCR_sc hC1 hf2 hs2) (zWF_sc hW hs2)
theorem lw_case_4 {E : fnE} {L : Nat} {xs : Nat → Int32} {V : fnV} (h : lwX E L xs V) {σ : fnMem} (hC : zCR σ (mv σ)) (hW : zWF (mv σ)) {i : Int} (i0 : 0 ≤ i) (i1 : i + 7 ≤ L) (kk : ∀ σ2 : fnMem, zCR σ2 (mv σ2) → zWF (mv σ2) → V 1769 [.ref 101, .ref 0, .ref 51, zI i] [] σ2) : V 386 [.ref 101, .ref 0, .ref 51, zI i] [] σ := by
  obtain ⟨hV, hL, hI, hA, hR⟩ := h
  refine fn_aload_1 hV dL_law_386 ?_
  refine fn_aload_0 hV dL_law_387 ?_
  refine fn_iload_3 hV dL_law_388 ?_
  refine fn_iconst hV dL_law_389 ?_
  refine fn_iadd hV dL_law_390 ?_
  refine hI _ _ _ _ _ _ dL_law_391 (by omega) (by omega) ?_
  refine fn_aload_0 hV dL_law_392 ?_
  refine fn_iload_3 hV dL_law_393 ?_
  refine fn_iconst hV dL_law_394 ?_
  refine fn_iadd hV dL_law_395 ?_
  refine hI _ _ _ _ _ _ dL_law_396 (by omega) (by omega) ?_
  refine fn_aload_0 hV dL_law_397 ?_
  refine fn_iload_3 hV dL_law_398 ?_
  refine fn_iconst hV dL_law_399 ?_
  refine fn_iadd hV dL_law_400 ?_
  refine hI _ _ _ _ _ _ dL_law_401 (by omega) (by omega) ?_
  refine fn_cV3I hV (c_X10_error E _ (mv σ) hC hW _ (lw_R _) _ (lw_R _) _ (lw_R _)) mv_X10_error lk_L_32 dL_law_402 sh_0 rfl ⟨rfl, rfl⟩ rfl (fun z1 σ1 hp1 => ?_)
  obtain ⟨hz1, hC1, hf1⟩ := hp1
  have e1 : mv σ1 = mv σ := funext fun k => hf1 (51 + k) (by omega)
  refine fn_aload_2 hV dL_law_405 ?_
  refine fn_aload_0 hV dL_law_406 ?_
  refine fn_iload_3 hV dL_law_407 ?_
  refine fn_iconst hV dL_law_408 ?_
  refine fn_iadd hV dL_law_409 ?_
  refine hI _ _ _ _ _ _ dL_law_410 (by omega) (by omega) ?_
  refine fn_aload_0 hV dL_law_411 ?_
  refine fn_iload_3 hV dL_law_412 ?_
  refine fn_iconst hV dL_law_413 ?_
  refine fn_iadd hV dL_law_414 ?_
  refine hI _ _ _ _ _ _ dL_law_415 (by omega) (by omega) ?_
  refine fn_aload_0 hV dL_law_416 ?_
  refine fn_iload_3 hV dL_law_417 ?_
  refine fn_iconst hV dL_law_418 ?_
  refine fn_iadd hV dL_law_419 ?_
  refine hI _ _ _ _ _ _ dL_law_420 (by omega) (by omega) ?_
  refine fn_cV3I hV (c_X11_error E σ1 (by rw [e1]; exact hW) _ (lw_R _) _ (lw_R _) _ (lw_R _)) mv_X11_error lk_L_35 dL_law_421 sh_51 rfl ⟨rfl, rfl⟩ rfl (fun z2 σ2 hp2 => ?_)
  rw [e1] at hp2
  obtain ⟨hz2, hs2, hf2⟩ := hp2
  refine fn_icmp_eqT hV dL_law_424 (by rw [hz1, hz2]) ?_
  exact kk σ2 (zCR_sc hC1 hf2 hs2) (zWF_sc hW hs2)
theorem lw_case_5 {E : fnE} {L : Nat} {xs : Nat → Int32} {V : fnV} (h : lwX E L xs V) {σ : fnMem} (hC : zCR σ (mv σ)) (hW : zWF (mv σ)) {i : Int} (i0 : 0 ≤ i) (i1 : i + 7 ≤ L) (kk : ∀ σ2 : fnMem, zCR σ2 (mv σ2) → zWF (mv σ2) → V 1769 [.ref 101, .ref 0, .ref 51, zI i] [] σ2) : V 429 [.ref 101, .ref 0, .ref 51, zI i] [] σ := by
  obtain ⟨hV, hL, hI, hA, hR⟩ := h
  refine fn_aload_1 hV dL_law_429 ?_
  refine fn_aload_0 hV dL_law_430 ?_
  refine fn_iload_3 hV dL_law_431 ?_
  refine fn_iconst hV dL_law_432 ?_
  refine fn_iadd hV dL_law_433 ?_
  refine hI _ _ _ _ _ _ dL_law_434 (by omega) (by omega) ?_
  refine fn_aload_0 hV dL_law_435 ?_
  refine fn_iload_3 hV dL_law_436 ?_
  refine fn_iconst hV dL_law_437 ?_
  refine fn_iadd hV dL_law_438 ?_
  refine hI _ _ _ _ _ _ dL_law_439 (by omega) (by omega) ?_
  refine fn_aload_0 hV dL_law_440 ?_
  refine fn_iload_3 hV dL_law_441 ?_
  refine fn_iconst hV dL_law_442 ?_
  refine fn_iadd hV dL_law_443 ?_
  refine hI _ _ _ _ _ _ dL_law_444 (by omega) (by omega) ?_
  refine fn_cV3I hV (c_X10_errorAt E _ (mv σ) hC hW _ (lw_R _) _ (lw_R _) _ (lw_R _)) mv_X10_errorAt lk_L_36 dL_law_445 sh_0 rfl ⟨rfl, rfl⟩ rfl (fun z1 σ1 hp1 => ?_)
  obtain ⟨hz1, hC1, hf1⟩ := hp1
  have e1 : mv σ1 = mv σ := funext fun k => hf1 (51 + k) (by omega)
  refine fn_aload_2 hV dL_law_448 ?_
  refine fn_aload_0 hV dL_law_449 ?_
  refine fn_iload_3 hV dL_law_450 ?_
  refine fn_iconst hV dL_law_451 ?_
  refine fn_iadd hV dL_law_452 ?_
  refine hI _ _ _ _ _ _ dL_law_453 (by omega) (by omega) ?_
  refine fn_aload_0 hV dL_law_454 ?_
  refine fn_iload_3 hV dL_law_455 ?_
  refine fn_iconst hV dL_law_456 ?_
  refine fn_iadd hV dL_law_457 ?_
  refine hI _ _ _ _ _ _ dL_law_458 (by omega) (by omega) ?_
  refine fn_aload_0 hV dL_law_459 ?_
  refine fn_iload_3 hV dL_law_460 ?_
  refine fn_iconst hV dL_law_461 ?_
  refine fn_iadd hV dL_law_462 ?_
  refine hI _ _ _ _ _ _ dL_law_463 (by omega) (by omega) ?_
  refine fn_cV3I hV (c_X11_errorAt E σ1 (by rw [e1]; exact hW) _ (lw_R _) _ (lw_R _) _ (lw_R _)) mv_X11_errorAt lk_L_39 dL_law_464 sh_51 rfl ⟨rfl, rfl⟩ rfl (fun z2 σ2 hp2 => ?_)
  rw [e1] at hp2
  obtain ⟨hz2, hs2, hf2⟩ := hp2
  refine fn_icmp_eqT hV dL_law_467 (by rw [hz1, hz2]) ?_
  exact kk σ2 (zCR_sc hC1 hf2 hs2) (zWF_sc hW hs2)
theorem lw_case_6 {E : fnE} {L : Nat} {xs : Nat → Int32} {V : fnV} (h : lwX E L xs V) {σ : fnMem} (hC : zCR σ (mv σ)) (hW : zWF (mv σ)) {i : Int} (i0 : 0 ≤ i) (i1 : i + 7 ≤ L) (kk : ∀ σ2 : fnMem, zCR σ2 (mv σ2) → zWF (mv σ2) → V 1769 [.ref 101, .ref 0, .ref 51, zI i] [] σ2) : V 472 [.ref 101, .ref 0, .ref 51, zI i] [] σ := by
  obtain ⟨hV, hL, hI, hA, hR⟩ := h
  refine fn_aload_1 hV dL_law_472 ?_
  refine fn_aload_0 hV dL_law_473 ?_
  refine fn_iload_3 hV dL_law_474 ?_
  refine fn_iconst hV dL_law_475 ?_
  refine fn_iadd hV dL_law_476 ?_
  refine hI _ _ _ _ _ _ dL_law_477 (by omega) (by omega) ?_
  refine fn_aload_0 hV dL_law_478 ?_
  refine fn_iload_3 hV dL_law_479 ?_
  refine fn_iconst hV dL_law_480 ?_
  refine fn_iadd hV dL_law_481 ?_
  refine hI _ _ _ _ _ _ dL_law_482 (by omega) (by omega) ?_
  refine fn_aload_0 hV dL_law_483 ?_
  refine fn_iload_3 hV dL_law_484 ?_
  refine fn_iconst hV dL_law_485 ?_
  refine fn_iadd hV dL_law_486 ?_
  refine hI _ _ _ _ _ _ dL_law_487 (by omega) (by omega) ?_
  refine fn_cV3I hV (c_X10_trueOf E _ (mv σ) hC hW _ (lw_R _) _ (lw_R _) _ (lw_R _)) mv_X10_trueOf lk_L_40 dL_law_488 sh_0 rfl ⟨rfl, rfl⟩ rfl (fun z1 σ1 hp1 => ?_)
  obtain ⟨hz1, hC1, hf1⟩ := hp1
  have e1 : mv σ1 = mv σ := funext fun k => hf1 (51 + k) (by omega)
  refine fn_aload_2 hV dL_law_491 ?_
  refine fn_aload_0 hV dL_law_492 ?_
  refine fn_iload_3 hV dL_law_493 ?_
  refine fn_iconst hV dL_law_494 ?_
  refine fn_iadd hV dL_law_495 ?_
  refine hI _ _ _ _ _ _ dL_law_496 (by omega) (by omega) ?_
  refine fn_aload_0 hV dL_law_497 ?_
  refine fn_iload_3 hV dL_law_498 ?_
  refine fn_iconst hV dL_law_499 ?_
  refine fn_iadd hV dL_law_500 ?_
  refine hI _ _ _ _ _ _ dL_law_501 (by omega) (by omega) ?_
  refine fn_aload_0 hV dL_law_502 ?_
  refine fn_iload_3 hV dL_law_503 ?_
  refine fn_iconst hV dL_law_504 ?_
  refine fn_iadd hV dL_law_505 ?_
  refine hI _ _ _ _ _ _ dL_law_506 (by omega) (by omega) ?_
  refine fn_cV3I hV (c_X11_trueOf E σ1 (by rw [e1]; exact hW) _ (lw_R _) _ (lw_R _) _ (lw_R _)) mv_X11_trueOf lk_L_43 dL_law_507 sh_51 rfl ⟨rfl, rfl⟩ rfl (fun z2 σ2 hp2 => ?_)
  rw [e1] at hp2
  obtain ⟨hz2, hs2, hf2⟩ := hp2
  refine fn_icmp_eqT hV dL_law_510 (by rw [hz1, hz2]) ?_
  exact kk σ2 (zCR_sc hC1 hf2 hs2) (zWF_sc hW hs2)
theorem lw_case_7 {E : fnE} {L : Nat} {xs : Nat → Int32} {V : fnV} (h : lwX E L xs V) {σ : fnMem} (hC : zCR σ (mv σ)) (hW : zWF (mv σ)) {i : Int} (i0 : 0 ≤ i) (i1 : i + 7 ≤ L) (kk : ∀ σ2 : fnMem, zCR σ2 (mv σ2) → zWF (mv σ2) → V 1769 [.ref 101, .ref 0, .ref 51, zI i] [] σ2) : V 515 [.ref 101, .ref 0, .ref 51, zI i] [] σ := by
  obtain ⟨hV, hL, hI, hA, hR⟩ := h
  refine fn_aload_1 hV dL_law_515 ?_
  refine fn_aload_0 hV dL_law_516 ?_
  refine fn_iload_3 hV dL_law_517 ?_
  refine fn_iconst hV dL_law_518 ?_
  refine fn_iadd hV dL_law_519 ?_
  refine hI _ _ _ _ _ _ dL_law_520 (by omega) (by omega) ?_
  refine fn_aload_0 hV dL_law_521 ?_
  refine fn_iload_3 hV dL_law_522 ?_
  refine fn_iconst hV dL_law_523 ?_
  refine fn_iadd hV dL_law_524 ?_
  refine hI _ _ _ _ _ _ dL_law_525 (by omega) (by omega) ?_
  refine fn_aload_0 hV dL_law_526 ?_
  refine fn_iload_3 hV dL_law_527 ?_
  refine fn_iconst hV dL_law_528 ?_
  refine fn_iadd hV dL_law_529 ?_
  refine hI _ _ _ _ _ _ dL_law_530 (by omega) (by omega) ?_
  refine fn_cV3I hV (c_X10_steer E _ (mv σ) hC hW _ (lw_R _) _ (lw_R _) _ (lw_R _)) mv_X10_steer lk_L_44 dL_law_531 sh_0 rfl ⟨rfl, rfl⟩ rfl (fun z1 σ1 hp1 => ?_)
  obtain ⟨hz1, hC1, hf1⟩ := hp1
  have e1 : mv σ1 = mv σ := funext fun k => hf1 (51 + k) (by omega)
  refine fn_aload_2 hV dL_law_534 ?_
  refine fn_aload_0 hV dL_law_535 ?_
  refine fn_iload_3 hV dL_law_536 ?_
  refine fn_iconst hV dL_law_537 ?_
  refine fn_iadd hV dL_law_538 ?_
  refine hI _ _ _ _ _ _ dL_law_539 (by omega) (by omega) ?_
  refine fn_aload_0 hV dL_law_540 ?_
  refine fn_iload_3 hV dL_law_541 ?_
  refine fn_iconst hV dL_law_542 ?_
  refine fn_iadd hV dL_law_543 ?_
  refine hI _ _ _ _ _ _ dL_law_544 (by omega) (by omega) ?_
  refine fn_aload_0 hV dL_law_545 ?_
  refine fn_iload_3 hV dL_law_546 ?_
  refine fn_iconst hV dL_law_547 ?_
  refine fn_iadd hV dL_law_548 ?_
  refine hI _ _ _ _ _ _ dL_law_549 (by omega) (by omega) ?_
  refine fn_cV3I hV (c_X11_steer E σ1 (by rw [e1]; exact hW) _ (lw_R _) _ (lw_R _) _ (lw_R _)) mv_X11_steer lk_L_47 dL_law_550 sh_51 rfl ⟨rfl, rfl⟩ rfl (fun z2 σ2 hp2 => ?_)
  rw [e1] at hp2
  obtain ⟨hz2, hs2, hf2⟩ := hp2
  refine fn_icmp_eqT hV dL_law_553 (by rw [hz1, hz2]) ?_
  exact kk σ2 (zCR_sc hC1 hf2 hs2) (zWF_sc hW hs2)
theorem lw_case_8 {E : fnE} {L : Nat} {xs : Nat → Int32} {V : fnV} (h : lwX E L xs V) {σ : fnMem} (hC : zCR σ (mv σ)) (hW : zWF (mv σ)) {i : Int} (i0 : 0 ≤ i) (i1 : i + 7 ≤ L) (kk : ∀ σ2 : fnMem, zCR σ2 (mv σ2) → zWF (mv σ2) → V 1769 [.ref 101, .ref 0, .ref 51, zI i] [] σ2) : V 558 [.ref 101, .ref 0, .ref 51, zI i] [] σ := by
  obtain ⟨hV, hL, hI, hA, hR⟩ := h
  refine fn_aload_1 hV dL_law_558 ?_
  refine fn_aload_0 hV dL_law_559 ?_
  refine fn_iload_3 hV dL_law_560 ?_
  refine fn_iconst hV dL_law_561 ?_
  refine fn_iadd hV dL_law_562 ?_
  refine hI _ _ _ _ _ _ dL_law_563 (by omega) (by omega) ?_
  refine fn_cV1I hV (c_X10_worst E _ (mv σ) hC hW _ (lw_R _)) mv_X10_worst lk_L_48 dL_law_564 sh_0 rfl ⟨rfl, rfl⟩ rfl (fun z1 σ1 hp1 => ?_)
  obtain ⟨hz1, hC1, hf1⟩ := hp1
  have e1 : mv σ1 = mv σ := funext fun k => hf1 (51 + k) (by omega)
  refine fn_aload_2 hV dL_law_567 ?_
  refine fn_aload_0 hV dL_law_568 ?_
  refine fn_iload_3 hV dL_law_569 ?_
  refine fn_iconst hV dL_law_570 ?_
  refine fn_iadd hV dL_law_571 ?_
  refine hI _ _ _ _ _ _ dL_law_572 (by omega) (by omega) ?_
  refine fn_cV1I hV (c_X11_worst E σ1 (by rw [e1]; exact hW) _ (lw_R _)) mv_X11_worst lk_L_52 dL_law_573 sh_51 rfl ⟨rfl, rfl⟩ rfl (fun z2 σ2 hp2 => ?_)
  rw [e1] at hp2
  obtain ⟨hz2, hs2, hf2⟩ := hp2
  refine fn_icmp_eqT hV dL_law_576 (by rw [hz1, hz2]) ?_
  exact kk σ2 (zCR_sc hC1 hf2 hs2) (zWF_sc hW hs2)
theorem lw_case_9 {E : fnE} {L : Nat} {xs : Nat → Int32} {V : fnV} (h : lwX E L xs V) {σ : fnMem} (hC : zCR σ (mv σ)) (hW : zWF (mv σ)) {i : Int} (i0 : 0 ≤ i) (i1 : i + 7 ≤ L) (kk : ∀ σ2 : fnMem, zCR σ2 (mv σ2) → zWF (mv σ2) → V 1769 [.ref 101, .ref 0, .ref 51, zI i] [] σ2) : V 581 [.ref 101, .ref 0, .ref 51, zI i] [] σ := by
  obtain ⟨hV, hL, hI, hA, hR⟩ := h
  refine fn_aload_1 hV dL_law_581 ?_
  refine fn_aload_0 hV dL_law_582 ?_
  refine fn_iload_3 hV dL_law_583 ?_
  refine fn_iconst hV dL_law_584 ?_
  refine fn_iadd hV dL_law_585 ?_
  refine hI _ _ _ _ _ _ dL_law_586 (by omega) (by omega) ?_
  refine fn_cV1I hV (c_X10_worstAt E _ (mv σ) hC hW _ (lw_R _)) mv_X10_worstAt lk_L_53 dL_law_587 sh_0 rfl ⟨rfl, rfl⟩ rfl (fun z1 σ1 hp1 => ?_)
  obtain ⟨hz1, hC1, hf1⟩ := hp1
  have e1 : mv σ1 = mv σ := funext fun k => hf1 (51 + k) (by omega)
  refine fn_aload_2 hV dL_law_590 ?_
  refine fn_aload_0 hV dL_law_591 ?_
  refine fn_iload_3 hV dL_law_592 ?_
  refine fn_iconst hV dL_law_593 ?_
  refine fn_iadd hV dL_law_594 ?_
  refine hI _ _ _ _ _ _ dL_law_595 (by omega) (by omega) ?_
  refine fn_cV1I hV (c_X11_worstAt E σ1 (by rw [e1]; exact hW) _ (lw_R _)) mv_X11_worstAt lk_L_56 dL_law_596 sh_51 rfl ⟨rfl, rfl⟩ rfl (fun z2 σ2 hp2 => ?_)
  rw [e1] at hp2
  obtain ⟨hz2, hs2, hf2⟩ := hp2
  refine fn_icmp_eqT hV dL_law_599 (by rw [hz1, hz2]) ?_
  exact kk σ2 (zCR_sc hC1 hf2 hs2) (zWF_sc hW hs2)
theorem lw_case_10 {E : fnE} {L : Nat} {xs : Nat → Int32} {V : fnV} (h : lwX E L xs V) {σ : fnMem} (hC : zCR σ (mv σ)) (hW : zWF (mv σ)) {i : Int} (i0 : 0 ≤ i) (i1 : i + 7 ≤ L) (kk : ∀ σ2 : fnMem, zCR σ2 (mv σ2) → zWF (mv σ2) → V 1769 [.ref 101, .ref 0, .ref 51, zI i] [] σ2) : V 604 [.ref 101, .ref 0, .ref 51, zI i] [] σ := by
  obtain ⟨hV, hL, hI, hA, hR⟩ := h
  refine fn_aload_1 hV dL_law_604 ?_
  refine fn_aload_0 hV dL_law_605 ?_
  refine fn_iload_3 hV dL_law_606 ?_
  refine fn_iconst hV dL_law_607 ?_
  refine fn_iadd hV dL_law_608 ?_
  refine hI _ _ _ _ _ _ dL_law_609 (by omega) (by omega) ?_
  refine fn_cV1I hV (c_X10_twofold E _ (mv σ) hC hW _ (lw_R _)) mv_X10_twofold lk_L_57 dL_law_610 sh_0 rfl ⟨rfl, rfl⟩ rfl (fun z1 σ1 hp1 => ?_)
  obtain ⟨hz1, hC1, hf1⟩ := hp1
  have e1 : mv σ1 = mv σ := funext fun k => hf1 (51 + k) (by omega)
  refine fn_aload_2 hV dL_law_613 ?_
  refine fn_aload_0 hV dL_law_614 ?_
  refine fn_iload_3 hV dL_law_615 ?_
  refine fn_iconst hV dL_law_616 ?_
  refine fn_iadd hV dL_law_617 ?_
  refine hI _ _ _ _ _ _ dL_law_618 (by omega) (by omega) ?_
  refine fn_cV1I hV (c_X11_twofold E σ1 (by rw [e1]; exact hW) _ (lw_R _)) mv_X11_twofold lk_L_60 dL_law_619 sh_51 rfl ⟨rfl, rfl⟩ rfl (fun z2 σ2 hp2 => ?_)
  rw [e1] at hp2
  obtain ⟨hz2, hs2, hf2⟩ := hp2
  refine fn_icmp_eqT hV dL_law_622 (by rw [hz1, hz2]) ?_
  exact kk σ2 (zCR_sc hC1 hf2 hs2) (zWF_sc hW hs2)
theorem lw_case_11 {E : fnE} {L : Nat} {xs : Nat → Int32} {V : fnV} (h : lwX E L xs V) {σ : fnMem} (hC : zCR σ (mv σ)) (hW : zWF (mv σ)) {i : Int} (i0 : 0 ≤ i) (i1 : i + 7 ≤ L) (kk : ∀ σ2 : fnMem, zCR σ2 (mv σ2) → zWF (mv σ2) → V 1769 [.ref 101, .ref 0, .ref 51, zI i] [] σ2) : V 627 [.ref 101, .ref 0, .ref 51, zI i] [] σ := by
  obtain ⟨hV, hL, hI, hA, hR⟩ := h
  refine fn_aload_1 hV dL_law_627 ?_
  refine fn_aload_0 hV dL_law_628 ?_
  refine fn_iload_3 hV dL_law_629 ?_
  refine fn_iconst hV dL_law_630 ?_
  refine fn_iadd hV dL_law_631 ?_
  refine hI _ _ _ _ _ _ dL_law_632 (by omega) (by omega) ?_
  refine fn_aload_0 hV dL_law_633 ?_
  refine fn_iload_3 hV dL_law_634 ?_
  refine fn_iconst hV dL_law_635 ?_
  refine fn_iadd hV dL_law_636 ?_
  refine hI _ _ _ _ _ _ dL_law_637 (by omega) (by omega) ?_
  refine fn_aload_0 hV dL_law_638 ?_
  refine fn_iload_3 hV dL_law_639 ?_
  refine fn_iconst hV dL_law_640 ?_
  refine fn_iadd hV dL_law_641 ?_
  refine hI _ _ _ _ _ _ dL_law_642 (by omega) (by omega) ?_
  refine fn_cV3I hV (c_X10_see E _ (mv σ) hC hW _ (lw_R _) _ (lw_R _) _ (lw_R _)) mv_X10_see lk_L_61 dL_law_643 sh_0 rfl ⟨rfl, rfl⟩ rfl (fun z1 σ1 hp1 => ?_)
  obtain ⟨hz1, hC1, hf1⟩ := hp1
  have e1 : mv σ1 = mv σ := funext fun k => hf1 (51 + k) (by omega)
  refine fn_aload_2 hV dL_law_646 ?_
  refine fn_aload_0 hV dL_law_647 ?_
  refine fn_iload_3 hV dL_law_648 ?_
  refine fn_iconst hV dL_law_649 ?_
  refine fn_iadd hV dL_law_650 ?_
  refine hI _ _ _ _ _ _ dL_law_651 (by omega) (by omega) ?_
  refine fn_aload_0 hV dL_law_652 ?_
  refine fn_iload_3 hV dL_law_653 ?_
  refine fn_iconst hV dL_law_654 ?_
  refine fn_iadd hV dL_law_655 ?_
  refine hI _ _ _ _ _ _ dL_law_656 (by omega) (by omega) ?_
  refine fn_aload_0 hV dL_law_657 ?_
  refine fn_iload_3 hV dL_law_658 ?_
  refine fn_iconst hV dL_law_659 ?_
  refine fn_iadd hV dL_law_660 ?_
  refine hI _ _ _ _ _ _ dL_law_661 (by omega) (by omega) ?_
  refine fn_cV3I hV (c_X11_see E σ1 (by rw [e1]; exact hW) _ (lw_R _) _ (lw_R _) _ (lw_R _)) mv_X11_see lk_L_64 dL_law_662 sh_51 rfl ⟨rfl, rfl⟩ rfl (fun z2 σ2 hp2 => ?_)
  rw [e1] at hp2
  obtain ⟨hz2, hs2, hf2⟩ := hp2
  refine fn_icmp_eqT hV dL_law_665 (by rw [hz1, hz2]) ?_
  exact kk σ2 (zCR_sc hC1 hf2 hs2) (zWF_sc (W_see hW _ _ _) hs2)
theorem lw_case_12 {E : fnE} {L : Nat} {xs : Nat → Int32} {V : fnV} (h : lwX E L xs V) {σ : fnMem} (hC : zCR σ (mv σ)) (hW : zWF (mv σ)) {i : Int} (i0 : 0 ≤ i) (i1 : i + 7 ≤ L) (kk : ∀ σ2 : fnMem, zCR σ2 (mv σ2) → zWF (mv σ2) → V 1769 [.ref 101, .ref 0, .ref 51, zI i] [] σ2) : V 670 [.ref 101, .ref 0, .ref 51, zI i] [] σ := by
  obtain ⟨hV, hL, hI, hA, hR⟩ := h
  refine fn_aload_1 hV dL_law_670 ?_
  refine fn_aload_0 hV dL_law_671 ?_
  refine fn_iload_3 hV dL_law_672 ?_
  refine fn_iconst hV dL_law_673 ?_
  refine fn_iadd hV dL_law_674 ?_
  refine hI _ _ _ _ _ _ dL_law_675 (by omega) (by omega) ?_
  refine fn_aload_0 hV dL_law_676 ?_
  refine fn_iload_3 hV dL_law_677 ?_
  refine fn_iconst hV dL_law_678 ?_
  refine fn_iadd hV dL_law_679 ?_
  refine hI _ _ _ _ _ _ dL_law_680 (by omega) (by omega) ?_
  refine fn_cV2I hV (c_X10_forget E _ (mv σ) hC hW _ (lw_R _) _ (lw_R _)) mv_X10_forget lk_L_65 dL_law_681 sh_0 rfl ⟨rfl, rfl⟩ rfl (fun z1 σ1 hp1 => ?_)
  obtain ⟨hz1, hC1, hf1⟩ := hp1
  have e1 : mv σ1 = mv σ := funext fun k => hf1 (51 + k) (by omega)
  refine fn_aload_2 hV dL_law_684 ?_
  refine fn_aload_0 hV dL_law_685 ?_
  refine fn_iload_3 hV dL_law_686 ?_
  refine fn_iconst hV dL_law_687 ?_
  refine fn_iadd hV dL_law_688 ?_
  refine hI _ _ _ _ _ _ dL_law_689 (by omega) (by omega) ?_
  refine fn_aload_0 hV dL_law_690 ?_
  refine fn_iload_3 hV dL_law_691 ?_
  refine fn_iconst hV dL_law_692 ?_
  refine fn_iadd hV dL_law_693 ?_
  refine hI _ _ _ _ _ _ dL_law_694 (by omega) (by omega) ?_
  refine fn_cV2I hV (c_X11_forget E σ1 (by rw [e1]; exact hW) _ (lw_R _) _ (lw_R _)) mv_X11_forget lk_L_68 dL_law_695 sh_51 rfl ⟨rfl, rfl⟩ rfl (fun z2 σ2 hp2 => ?_)
  rw [e1] at hp2
  obtain ⟨hz2, hs2, hf2⟩ := hp2
  refine fn_icmp_eqT hV dL_law_698 (by rw [hz1, hz2]) ?_
  exact kk σ2 (zCR_sc hC1 hf2 hs2) (zWF_sc (W_forget hW _ _) hs2)
theorem lw_case_13 {E : fnE} {L : Nat} {xs : Nat → Int32} {V : fnV} (h : lwX E L xs V) {σ : fnMem} (hC : zCR σ (mv σ)) (hW : zWF (mv σ)) {i : Int} (i0 : 0 ≤ i) (i1 : i + 7 ≤ L) (kk : ∀ σ2 : fnMem, zCR σ2 (mv σ2) → zWF (mv σ2) → V 1769 [.ref 101, .ref 0, .ref 51, zI i] [] σ2) : V 703 [.ref 101, .ref 0, .ref 51, zI i] [] σ := by
  obtain ⟨hV, hL, hI, hA, hR⟩ := h
  refine fn_aload_1 hV dL_law_703 ?_
  refine fn_aload_0 hV dL_law_704 ?_
  refine fn_iload_3 hV dL_law_705 ?_
  refine fn_iconst hV dL_law_706 ?_
  refine fn_iadd hV dL_law_707 ?_
  refine hI _ _ _ _ _ _ dL_law_708 (by omega) (by omega) ?_
  refine fn_cV1I hV (c_X10_seen E _ (mv σ) hC hW _ (lw_R _)) mv_X10_seen lk_L_69 dL_law_709 sh_0 rfl ⟨rfl, rfl⟩ rfl (fun z1 σ1 hp1 => ?_)
  obtain ⟨hz1, hC1, hf1⟩ := hp1
  have e1 : mv σ1 = mv σ := funext fun k => hf1 (51 + k) (by omega)
  refine fn_aload_2 hV dL_law_712 ?_
  refine fn_aload_0 hV dL_law_713 ?_
  refine fn_iload_3 hV dL_law_714 ?_
  refine fn_iconst hV dL_law_715 ?_
  refine fn_iadd hV dL_law_716 ?_
  refine hI _ _ _ _ _ _ dL_law_717 (by omega) (by omega) ?_
  refine fn_cV1I hV (c_X11_seen E σ1 (by rw [e1]; exact hW) _ (lw_R _)) mv_X11_seen lk_L_72 dL_law_718 sh_51 rfl ⟨rfl, rfl⟩ rfl (fun z2 σ2 hp2 => ?_)
  rw [e1] at hp2
  obtain ⟨hz2, hs2, hf2⟩ := hp2
  refine fn_icmp_eqT hV dL_law_721 (by rw [hz1, hz2]) ?_
  exact kk σ2 (zCR_sc hC1 hf2 hs2) (zWF_sc hW hs2)
theorem lw_case_14 {E : fnE} {L : Nat} {xs : Nat → Int32} {V : fnV} (h : lwX E L xs V) {σ : fnMem} (hC : zCR σ (mv σ)) (hW : zWF (mv σ)) {i : Int} (i0 : 0 ≤ i) (i1 : i + 7 ≤ L) (kk : ∀ σ2 : fnMem, zCR σ2 (mv σ2) → zWF (mv σ2) → V 1769 [.ref 101, .ref 0, .ref 51, zI i] [] σ2) : V 726 [.ref 101, .ref 0, .ref 51, zI i] [] σ := by
  obtain ⟨hV, hL, hI, hA, hR⟩ := h
  refine fn_aload_1 hV dL_law_726 ?_
  refine fn_aload_0 hV dL_law_727 ?_
  refine fn_iload_3 hV dL_law_728 ?_
  refine fn_iconst hV dL_law_729 ?_
  refine fn_iadd hV dL_law_730 ?_
  refine hI _ _ _ _ _ _ dL_law_731 (by omega) (by omega) ?_
  refine fn_aload_0 hV dL_law_732 ?_
  refine fn_iload_3 hV dL_law_733 ?_
  refine fn_iconst hV dL_law_734 ?_
  refine fn_iadd hV dL_law_735 ?_
  refine hI _ _ _ _ _ _ dL_law_736 (by omega) (by omega) ?_
  refine fn_cV2I hV (c_X10_filled E _ (mv σ) hC hW _ (lw_R _) _ (lw_R _)) mv_X10_filled lk_L_73 dL_law_737 sh_0 rfl ⟨rfl, rfl⟩ rfl (fun z1 σ1 hp1 => ?_)
  obtain ⟨hz1, hC1, hf1⟩ := hp1
  have e1 : mv σ1 = mv σ := funext fun k => hf1 (51 + k) (by omega)
  refine fn_aload_2 hV dL_law_740 ?_
  refine fn_aload_0 hV dL_law_741 ?_
  refine fn_iload_3 hV dL_law_742 ?_
  refine fn_iconst hV dL_law_743 ?_
  refine fn_iadd hV dL_law_744 ?_
  refine hI _ _ _ _ _ _ dL_law_745 (by omega) (by omega) ?_
  refine fn_aload_0 hV dL_law_746 ?_
  refine fn_iload_3 hV dL_law_747 ?_
  refine fn_iconst hV dL_law_748 ?_
  refine fn_iadd hV dL_law_749 ?_
  refine hI _ _ _ _ _ _ dL_law_750 (by omega) (by omega) ?_
  refine fn_cV2I hV (c_X11_filled E σ1 (by rw [e1]; exact hW) _ (lw_R _) _ (lw_R _)) mv_X11_filled lk_L_76 dL_law_751 sh_51 rfl ⟨rfl, rfl⟩ rfl (fun z2 σ2 hp2 => ?_)
  rw [e1] at hp2
  obtain ⟨hz2, hs2, hf2⟩ := hp2
  refine fn_icmp_eqT hV dL_law_754 (by rw [hz1, hz2]) ?_
  exact kk σ2 (zCR_sc hC1 hf2 hs2) (zWF_sc hW hs2)
