/-! THE CLAIM OUT OF ONE WALK OF THE LAW'S BODY. Your part is whole_start (and what it stands on); all else here is the same for every law, but numbers. -/
def R_law : String := "FooledNeedleLaw"
def lw_P (b : Addr) (xs : List Int32) (args : Array Value) (s : State) : Prop := args = #[.ref b] ∧ s.IntsAt b xs ∧ xs.length ≤ 3584 ∧ (Jvm.Cond.and given_1 narrow_1).before args s = true
def lw_Q (_ : Array Value) (s : State) (o : Outcome) (t : State) : Prop := o = .returned (some (.int 1)) ∧ Framed s o t [] 600000 7302250
def lw_Z (below : List Frame) (a : Array Value) (s : State) : State → Prop := fun t => ∃ o, t.status = .running ∧ Ended t below o ∧ lw_Q a s o t
/-- the law's own end, with 1 on the stack, nothing written that was there before, its room as the claim has it -/
theorem lw_ret {p : Program} {l : Launch} {e : Env} {s : State} {m : MethodId} {below : List Frame} {meth : Method} {c : Code} {b : Nat} (hx : p.tables.exec = Jvm.exec) (hb : c.code = code) (hr : meth.sig.returnType = ret) (hlocks : meth.locks = false) {pc : Nat} {H : Heap} {ls : Array Slot} (hdg : decode code pc = .ok (.ireturn, 1)) : W p l e room_1 s m #[Value.ref b] below meth c H [] 600000 7302250 (lw_Z below #[Value.ref b] s) (F0 m pc ls [.int 1]) := by
  intro T hT X
  obtain ⟨fs, hret, hrun, hended, hW, hframe⟩ := X.leave (v := some (.int 1)) (hlocks := hlocks) (fun h => by rw [hr] at h; cases h)
  have hmeth' : T.vm.method? m = some meth := X.method'
  refine ⟨T.setFrames fs, ?_, .returned (some (.int 1)), hrun, hended, rfl, ⟨_, rfl⟩, hW, hframe⟩
  jvm_step X.here [X.here.top, hx, hb, hdg, hmeth', hr, ret, narrow_b1]
  (try refine ⟨rfl, ?_⟩); (try refine ⟨rfl, ?_⟩)
  first | (intro acts; rw [hret _ acts rfl rfl rfl]) | rw [hret _ _ rfl rfl rfl]
  exact Steps.refl _
/-- what holds at the law's entry: the machine, the code, the tables' words (any of lw_tbl by 'hts w (by decide +kernel)'), the script of L ints xs at the cell b, what the Statement gives of the start (any of its parts by flat_of_before) -/
def lw_At (p : Program) (s : State) (m : MethodId) (meth : Method) (c : Code) (b L : Nat) (xs : Nat → Int32) : Prop :=
  p.tables.exec = Jvm.exec ∧ c.code = code ∧ meth.sig.returnType = ret ∧ c.maxLocals = 4 ∧ s.vm.findClass R_law = some m.cls ∧ (∀ w ∈ lw_tbl, w.before #[Value.ref b] s = true) ∧ va_X b L xs s s.heap ∧ b < s.heap.size ∧ meth.locks = false ∧ (Jvm.Cond.and given_1 narrow_1).before #[Value.ref b] s = true
theorem lw_eqt {args : Array Value} {s : State} {tm : Term} {z : Int32} (h : (Cond.eq tm (.int z)).before args s = true) : tm.eval args s none [] s = some (.int z) := by
  cases hv : tm.eval args s none [] s with
  | none => simp [Cond.before, Cond.holds, Cond.value, hv] at h
  | some w =>
    have hz : (Term.int z).eval args s none [] s = some (.int z) := rfl
    simp only [Cond.before, Cond.holds, Cond.value, hv, hz] at h
    cases w <;> simp_all
theorem lw_go {E : fnE} {L : Nat} {xs : Nat → Int32} {V : fnV} (h : lwX E L xs V) : V 16 [.ref 101, .ref 0, .ref 51, .null] [] kS0 := by
  have h9 := h
  obtain ⟨hV, hL, hI, hA, hR⟩ := h9
  refine fn_iconst hV dL_law_16 ?_
  refine fn_istore_3 hV dL_law_17 rfl rfl ?_
  exact lw_loop h (L + 1) 0 kS0 (by omega) (by omega) (by omega) kS0_C kS0_W
set_option maxHeartbeats 4000000 in
set_option maxRecDepth 20000 in
theorem whole_start {p : Program} {e : Env} {s : State} {m : MethodId} {below : List Frame} {meth : Method} {c : Code} (l : Launch) {b L : Nat} {xs : Nat → Int32} (hL : L ≤ 3584) (C0 : lw_At p s m meth c b L xs) : W p l e room_1 s m #[Value.ref b] below meth c s.heap [] 0 0 (lw_Z below #[Value.ref b] s) (entryFrame m ([Value.ref b] : List Value).toArray 4) := by
  obtain ⟨hx, hb, hr, hml, hown, hts, hX, hbl, hlocks, hgv⟩ := C0
  have htT : ∀ w ∈ fnT, w.before #[Value.ref b] s = true := fun w hw => hts w (List.mem_filter.mp hw).1
  obtain ⟨c0, i0, k0⟩ := u_known (n := 1) htT kc_0.2.1 (hts (.instantiable RX0 1) (List.mem_of_getElem? (i := 278) (by decide +kernel)))
  obtain ⟨c1, i1, k1⟩ := u_known (n := 3) htT kc_1.2.1 (hts (.instantiable RX1 3) (List.mem_of_getElem? (i := 173) (by decide +kernel)))
  obtain ⟨c2, i2, k2⟩ := u_known (n := 9) htT kc_2.2.1 (hts (.instantiable RX2 9) (List.mem_of_getElem? (i := 110) (by decide +kernel)))
  obtain ⟨c3, i3, k3⟩ := u_known (n := 7) htT kc_3.2.1 (hts (.instantiable RX3 7) (List.mem_of_getElem? (i := 189) (by decide +kernel)))
  obtain ⟨c4, i4, k4⟩ := u_known (n := 5) htT kc_4.2.1 (hts (.instantiable RX4 5) (List.mem_of_getElem? (i := 147) (by decide +kernel)))
  obtain ⟨c5, i5, k5⟩ := u_known (n := 6) htT kc_5.2.1 (hts (.instantiable RX5 6) (List.mem_of_getElem? (i := 227) (by decide +kernel)))
  obtain ⟨c6, i6, k6⟩ := u_known (n := 7) htT kc_6.2.1 (hts (.instantiable RX6 7) (List.mem_of_getElem? (i := 77) (by decide +kernel)))
  obtain ⟨c7, i7, k7⟩ := u_known (n := 2) htT kc_7.2.1 (hts (.instantiable RX7 2) (List.mem_of_getElem? (i := 291) (by decide +kernel)))
  obtain ⟨c8, i8, k8⟩ := u_known (n := 4) htT kc_8.2.1 (hts (.instantiable RX9 4) (List.mem_of_getElem? (i := 256) (by decide +kernel)))
  obtain ⟨c9, i9, k9⟩ := u_known (n := 12) htT kc_9.2.1 (hts (.instantiable RX10 12) (List.mem_of_getElem? (i := 65) (by decide +kernel)))
  obtain ⟨c10, i10, k10⟩ := u_known (n := 32) htT kc_10.2.1 (hts (.instantiable RX11 32) (List.mem_of_getElem? (i := 910) (by decide +kernel)))
  obtain ⟨dC, dI, hKc⟩ : ∃ (dC : Nat → ClassId) (dI : Nat → Nat → Nat), ∀ (k : Nat) (q : vw_C), vwCl[k]? = some q → u_Kn s q.1 q.2.1 q.2.2 (dC k) (dI k) := by
    refine ⟨fun k => [c0, c1, c2, c3, c4, c5, c6, c7, c8, c9, c10].getD k c0, fun k => [i0, i1, i2, i3, i4, i5, i6, i7, i8, i9, i10].getD k i0, ?_⟩
    intro k q hq
    match k, hq with
    | 0, hq => cases hq; exact k0
    | 1, hq => cases hq; exact k1
    | 2, hq => cases hq; exact k2
    | 3, hq => cases hq; exact k3
    | 4, hq => cases hq; exact k4
    | 5, hq => cases hq; exact k5
    | 6, hq => cases hq; exact k6
    | 7, hq => cases hq; exact k7
    | 8, hq => cases hq; exact k8
    | 9, hq => cases hq; exact k9
    | 10, hq => cases hq; exact k10
    | k + 11, hq => simp [vwCl] at hq
  have hAI : (Cond.arrayClass .int).before #[Value.ref b] s = true := hts _ (List.mem_of_getElem? (i := 107) (by decide +kernel))
  have hAB : (Cond.arrayClass .boolean).before #[Value.ref b] s = true := hts _ (List.mem_of_getElem? (i := 108) (by decide +kernel))
  have hOC : (Cond.arrayOver (.object RX0)).before #[Value.ref b] s = true := hts _ (List.mem_of_getElem? (i := 73) (by decide +kernel))
  have hOS : (Cond.arrayOver (.object RX7)).before #[Value.ref b] s = true := hts _ (List.mem_of_getElem? (i := 75) (by decide +kernel))
  obtain ⟨tI, kI, pI, a1, a2, a3⟩ := Cond.arrayClass_spec hAI
  obtain ⟨tB, kB, pB, b1, b2, b3⟩ := Cond.arrayClass_spec hAB
  obtain ⟨pC, tC, kC, o1, -, o2, o3, o4⟩ := Cond.arrayOver_spec hOC
  obtain ⟨pS, tS, kS, u1, -, u2, u3, u4⟩ := Cond.arrayOver_spec hOS
  obtain ⟨G, hG⟩ : ∃ G : kE, G = ((dC, dI), tI, tB, tC, tS) := ⟨_, rfl⟩
  have hK : va_K G.1 vwCl (kTy G) s := by
    subst hG
    refine ⟨hKc, fun k q hk => ?_⟩
    match k, hk with
    | 0, hk => cases hk; exact ⟨fun n z => ⟨fun k h => (by cases h), kI, a2, pI, a3⟩, a1⟩
    | 1, hk => cases hk; exact ⟨fun n z => ⟨fun k h => (by cases h), kB, b2, pB, b3⟩, b1⟩
    | 2, hk => cases hk; exact ⟨fun n z => ⟨fun k h => (by cases h), kC, o2, pC, o3⟩, kC, pC, o2, o3, o1, o4⟩
    | 3, hk => cases hk; exact ⟨fun n z => ⟨fun k h => (by cases h), kS, u2, pS, u3⟩, kS, pS, u2, u3, u1, u4⟩
    | k + 4, hk => simp [kTy] at hk
  clear hG
  have hNw : ∀ w ∈ lw_tbl, fnNest w = true → va_Nw w s := fun w hw hn => va_Nw.of (fnNest_on hn) (hts w hw)
  have hbA : ¬ (fun q : Nat => s.heap.size ≤ q) b := Nat.not_le.mpr hbl
  have hfl := flat_of_before _ hgv
  have hlen : (Cond.eq (.length (.static "FooledNeedle$Waves" "SINES" "[I")) (.int (Int32.ofNat 32))).before #[Value.ref b] s = true := hfl _ (by decide +kernel)
  have hels : ∀ j : Nat, j < 32 → Cond.eq (.elem (.static "FooledNeedle$Waves" "SINES" "[I") (.int (Int32.ofNat j))) (.int (Int32.ofInt (fnSinL.getD j 0))) ∈ flatC (Jvm.Cond.and given_1 narrow_1) := by decide +kernel
  obtain ⟨t, ht, hT⟩ := va_Tof (A := fun q : Nat => s.heap.size ≤ q) (N := 32) (f := fun j => zI (fnSinL.getD j 0)) (by decide) (hfl (Cond.arrayOf (.static "FooledNeedle$Waves" "SINES" "[I") .int) (by decide +kernel)) (lw_eqt hlen) (fun j hj => lw_eqt (hfl _ (hels j hj))) (fun a h => Nat.not_le.mpr h)
  have hZ := va_Zof (A := fun q : Nat => s.heap.size ≤ q) (hts (.laysStatic "FooledNeedle$Waves" "SINES" "[I") (List.mem_of_getElem? (i := 359) (by decide +kernel))) (hts (.initialized "FooledNeedle$Waves") (List.mem_of_getElem? (i := 60) (by decide +kernel))) ht (fun a h => Nat.not_le.mpr h)
  have hl := lv_entry ([Value.ref b]) (n := 4) (Nat.le_of_ble_eq_true rfl)
  rw [lg_entry_eq]
  generalize (lg_sl [Value.ref b] ++ List.replicate (4 - (lg_sl [Value.ref b]).length) Slot.unset).toArray = ls at hl ⊢
  have hls : fnLs ls 4 [.ref b, .null, .null, .null] := by
    refine ⟨hl.1, hl.2.1, fun i v hi hv => ?_⟩
    match i, hi with
    | 0, hi =>
      have hi : Value.ref b = v := Option.some.inj hi
      subst hi
      exact hl.2.2 (0, _) List.mem_cons_self
    | 1, hi => exact absurd (Option.some.inj hi).symm hv
    | 2, hi => exact absurd (Option.some.inj hi).symm hv
    | 3, hi => exact absurd (Option.some.inj hi).symm hv
    | i + 4, hi => simp at hi
  have kcx : kCx G RL cL_law 4 11 424 600000 7302250 (fun pc lv st ws n sl => ∀ (H : Heap) (locs : List Loc) (ls : Array Slot), va_P G.1 vwCl ws H → va_D (fun q : Nat => s.heap.size ≤ q) ws → va_S (fun q : Nat => s.heap.size ≤ q) s.heap H locs → fnLs ls 4 lv → W p l e room_1 s m #[Value.ref b] below meth c H locs n sl (lw_Z below #[Value.ref b] s) (F0 m pc ls st)) :=
    ⟨p, l, e, room_1, s, m, #[Value.ref b], below, meth, c, fun q : Nat => s.heap.size ≤ q, lw_Z below #[Value.ref b] s, ⟨hx, hb, hml, hown, htT⟩, hK, fun _ h => h, ⟨va_AO.of hOC, va_AO.of hOS⟩, hNw, ⟨Nat.le_of_ble_eq_true rfl, Nat.le_of_ble_eq_true rfl, Nat.le_of_ble_eq_true rfl, Nat.le_of_ble_eq_true rfl⟩, fun h => absurd rfl h, rfl⟩
  refine lw_pre kcx b ?_ s.heap [] ls (fun k q h => by simp at h) ⟨fun i j p q h => by simp at h, fun k q h => by simp at h⟩ va_S.rf hls
  intro qx x0 x1 x2 x3 x4 x5 x6 x7 x8 x9 x10 x11 x12 x13 x14 x15 x16 x17 x18 x19 x20 x21 x22 x23 x24 x25 x26 x27 x28 x29 x30 x31 x32 x33 x34 x35 x36 x37 x38 x39 x40 x41 x42 x43 x44 x45 x46 x47 x48 x49 qm y0 y1 y2 y3 y4 y5 y6 y7 y8 y9 y10 y11 y12 y13 y14 y15 y16 y17 y18 y19 y20 y21 y22 y23 y24 y25 y26 H locs ls hP hD hS hl
  obtain ⟨E, hE⟩ : ∃ E : fnE, E = (kAd qx x0 x1 x38 x42 x46 x34 x39 x43 x47 x35 x40 x44 x48 x41 x45 x49 x2 x3 x4 x5 x6 x7 x8 x9 x10 x11 x12 x13 x14 x15 x16 x17 x18 x19 x20 x21 x22 x23 x24 x25 x26 x27 x28 x29 x30 x31 x32 x33 x36 x37 qm y0 y1 y2 y3 y4 y5 y6 y7 y8 y9 y10 y11 y12 y13 y14 y15 y16 y17 y18 y19 y20 y21 y22 y23 y24 y25 y26 t b, G) := ⟨_, rfl⟩
  have hfw : fnW E kS0 = [(qx, .inr (9, [.ref x0, .ref x1, .ref x2, .ref x8, .ref x11, .ref x17, .ref x21, .ref x28, .ref x32, .ref x34, .ref x36, .ref x37])), (x0, .inl (G.2.2.2.1, 3, .inr (.inr (.inr (.inr (va_up (va_up (va_up (fun _ => none) 0 (some x38)) 1 (some x42)) 2 (some x46))))))), (x1, .inl (G.2.2.2.2, 3, .inr (.inr (.inr (.inr (va_up (va_up (va_up (fun _ => none) 0 (some x40)) 1 (some x44)) 2 (some x48))))))), (x38, .inr (0, [.ref x39])), (x42, .inr (0, [.ref x43])), (x46, .inr (0, [.ref x47])), (x34, .inr (0, [.ref x35])), (x39, .inl (G.2.1, 6, .inl (fun _ => Int32.ofInt 0))), (x43, .inl (G.2.1, 6, .inl (fun _ => Int32.ofInt 0))), (x47, .inl (G.2.1, 6, .inl (fun _ => Int32.ofInt 0))), (x35, .inl (G.2.1, 6, .inl (fun _ => Int32.ofInt 0))), (x40, .inr (7, [.ref x41, zI 0])), (x44, .inr (7, [.ref x45, zI 0])), (x48, .inr (7, [.ref x49, zI 0])), (x41, .inl (G.2.1, 32, .inl (kF (-2009) 32))), (x45, .inl (G.2.1, 32, .inl (kF (-2009) 32))), (x49, .inl (G.2.1, 32, .inl (kF (-2009) 32))), (x2, .inr (6, [.ref x3, .ref x4, .ref x5, .ref x6, .ref x7, zI (-2009), zI 0])), (x3, .inl (G.2.1, 6, .inl (fun _ => Int32.ofInt 0))), (x4, .inl (G.2.1, 4, .inl (fun _ => Int32.ofInt 0))), (x5, .inl (G.2.1, 6, .inl (fun _ => Int32.ofInt 0))), (x6, .inl (G.2.1, 6, .inl (fun _ => Int32.ofInt 0))), (x7, .inl (G.2.2.1, 6, .inl (fun _ => Int32.ofInt 0))), (x8, .inr (2, [.ref x9, .ref x10, zI 0, zI 0, zI 0, zI 0, zI 0, zI 0, zI 0])), (x9, .inl (G.2.1, 97, .inl (fun _ => Int32.ofInt 0))), (x10, .inl (G.2.2.1, 97, .inl (fun _ => Int32.ofInt 0))), (x11, .inr (4, [.ref x12, .ref x13, .ref x14, .ref x15, .ref x16])), (x12, .inl (G.2.1, 8, .inl (kF 100 8))), (x13, .inl (G.2.1, 8, .inl (fun _ => Int32.ofInt 0))), (x14, .inl (G.2.1, 24, .inl (fun _ => Int32.ofInt 0))), (x15, .inl (G.2.1, 24, .inl (fun _ => Int32.ofInt 0))), (x16, .inl (G.2.2.1, 24, .inl (fun _ => Int32.ofInt 0))), (x17, .inr (1, [.ref x18, .ref x19, .ref x20])), (x18, .inl (G.2.1, 20, .inl (fun _ => Int32.ofInt 0))), (x19, .inl (G.2.1, 20, .inl (fun _ => Int32.ofInt 0))), (x20, .inl (G.2.1, 20, .inl (fun _ => Int32.ofInt 0))), (x21, .inr (3, [.ref x22, .ref x23, .ref x24, .ref x25, .ref x26, .ref x27, zI 0])), (x22, .inl (G.2.1, 40, .inl (fun _ => Int32.ofInt 0))), (x23, .inl (G.2.1, 40, .inl (fun _ => Int32.ofInt 0))), (x24, .inl (G.2.1, 40, .inl (fun _ => Int32.ofInt 0))), (x25, .inl (G.2.1, 40, .inl (fun _ => Int32.ofInt 0))), (x26, .inl (G.2.1, 40, .inl (fun _ => Int32.ofInt 0))), (x27, .inl (G.2.1, 40, .inl (fun _ => Int32.ofInt 0))), (x28, .inr (5, [.ref x29, .ref x30, .ref x31, zI 0, zI 0, zI 0])), (x29, .inl (G.2.1, 40, .inl (fun _ => Int32.ofInt 0))), (x30, .inl (G.2.1, 40, .inl (fun _ => Int32.ofInt 0))), (x31, .inl (G.2.1, 40, .inl (fun _ => Int32.ofInt 0))), (x32, .inr (8, [.ref x33, zI 0, zI 0, zI 0])), (x33, .inl (G.2.1, 40, .inl (fun _ => Int32.ofInt 0))), (x36, .inl (G.2.1, 32, .inl (fun _ => Int32.ofInt 0))), (x37, .inl (G.2.1, 32, .inl (fun _ => Int32.ofInt 0))), (qm, .inr (10, [zI 0, .ref y0, .ref y1, .ref y2, .ref y3, .ref y4, .ref y5, .ref y6, zI (-2009), zI 0, .ref y7, .ref y8, .ref y9, .ref y10, .ref y11, .ref y12, .ref y13, .ref y14, zI 0, .ref y15, .ref y16, .ref y17, .ref y18, .ref y19, .ref y20, .ref y21, .ref y22, .ref y23, zI 0, .ref y24, .ref y25, .ref y26])), (y0, .inl (G.2.1, 18, .inl (fun _ => Int32.ofInt 0))), (y1, .inl (G.2.1, 96, .inl (kF (-2009) 96))), (y2, .inl (G.2.1, 6, .inl (fun _ => Int32.ofInt 0))), (y3, .inl (G.2.1, 6, .inl (kF (-2009) 6))), (y4, .inl (G.2.1, 6, .inl (fun _ => Int32.ofInt 0))), (y5, .inl (G.2.2.1, 6, .inl (fun _ => Int32.ofInt 0))), (y6, .inl (G.2.1, 4, .inl (fun _ => Int32.ofInt 0))), (y7, .inl (G.2.1, 8, .inl (kF 100 8))), (y8, .inl (G.2.1, 8, .inl (fun _ => Int32.ofInt 0))), (y9, .inl (G.2.2.1, 24, .inl (fun _ => Int32.ofInt 0))), (y10, .inl (G.2.1, 24, .inl (fun _ => Int32.ofInt 0))), (y11, .inl (G.2.1, 24, .inl (fun _ => Int32.ofInt 0))), (y12, .inl (G.2.1, 20, .inl (fun _ => Int32.ofInt 0))), (y13, .inl (G.2.1, 20, .inl (fun _ => Int32.ofInt 0))), (y14, .inl (G.2.1, 20, .inl (fun _ => Int32.ofInt 0))), (y15, .inl (G.2.1, 40, .inl (fun _ => Int32.ofInt 0))), (y16, .inl (G.2.1, 40, .inl (fun _ => Int32.ofInt 0))), (y17, .inl (G.2.1, 40, .inl (fun _ => Int32.ofInt 0))), (y18, .inl (G.2.1, 40, .inl (fun _ => Int32.ofInt 0))), (y19, .inl (G.2.1, 40, .inl (fun _ => Int32.ofInt 0))), (y20, .inl (G.2.1, 40, .inl (fun _ => Int32.ofInt 0))), (y21, .inl (G.2.1, 6, .inl (fun _ => Int32.ofInt 0))), (y22, .inl (G.2.1, 32, .inl (fun _ => Int32.ofInt 0))), (y23, .inl (G.2.1, 3, .inl (fun _ => Int32.ofInt 0))), (y24, .inl (G.2.1, 40, .inl (fun _ => Int32.ofInt 0))), (y25, .inl (G.2.1, 40, .inl (fun _ => Int32.ofInt 0))), (y26, .inl (G.2.1, 40, .inl (fun _ => Int32.ofInt 0)))] := by rw [hE]; exact kS0_w G qx x0 x1 x38 x42 x46 x34 x39 x43 x47 x35 x40 x44 x48 x41 x45 x49 x2 x3 x4 x5 x6 x7 x8 x9 x10 x11 x12 x13 x14 x15 x16 x17 x18 x19 x20 x21 x22 x23 x24 x25 x26 x27 x28 x29 x30 x31 x32 x33 x36 x37 qm y0 y1 y2 y3 y4 y5 y6 y7 y8 y9 y10 y11 y12 y13 y14 y15 y16 y17 y18 y19 y20 y21 y22 y23 y24 y25 y26 t b
  have hP1 : va_P G.1 vwCl (fnW E kS0) H := by rw [hfw]; exact hP.sub [0, 1, 2, 39, 43, 47, 35, 40, 44, 48, 36, 41, 45, 49, 42, 46, 50, 3, 4, 5, 6, 7, 8, 9, 10, 11, 12, 13, 14, 15, 16, 17, 18, 19, 20, 21, 22, 23, 24, 25, 26, 27, 28, 29, 30, 31, 32, 33, 34, 37, 38, 51, 52, 53, 54, 55, 56, 57, 58, 59, 60, 61, 62, 63, 64, 65, 66, 67, 68, 69, 70, 71, 72, 73, 74, 75, 76, 77, 78] rfl
  have hD1 : va_D (fun q : Nat => s.heap.size ≤ q) (fnW E kS0) := by rw [hfw]; exact hD.sub [0, 1, 2, 39, 43, 47, 35, 40, 44, 48, 36, 41, 45, 49, 42, 46, 50, 3, 4, 5, 6, 7, 8, 9, 10, 11, 12, 13, 14, 15, 16, 17, 18, 19, 20, 21, 22, 23, 24, 25, 26, 27, 28, 29, 30, 31, 32, 33, 34, 37, 38, 51, 52, 53, 54, 55, 56, 57, 58, 59, 60, 61, 62, 63, 64, 65, 66, 67, 68, 69, 70, 71, 72, 73, 74, 75, 76, 77, 78] (by decide) rfl
  have E2 : E.2 = G := by rw [hE]
  have E0 : E.1 0 = qx := by rw [hE]; rfl
  have E51 : E.1 51 = qm := by rw [hE]; rfl
  have E100 : E.1 100 = t := by rw [hE]; rfl
  have E101 : E.1 101 = b := by rw [hE]; rfl
  clear hE hfw hP hD
  have hP1 : va_P E.2.1 vwCl (fnW E kS0) H := by rw [E2]; exact hP1
  have hK : va_K E.2.1 vwCl (fnTy E) s := by
    have : fnTy E = kTy G := by rw [← E2]; rfl
    rw [this, E2]
    exact hK
  have hDA : ∀ σ, va_D (fun q : Nat => s.heap.size ≤ q) (fnW E σ) := fun σ => fnW_D hD1 (fun k hk => hD1.2 k _ (fnW_at E kS0 hk)) σ
  have lx : lwX E L xs (fun pc lv st σ => ∀ (H : Heap) (locs : List Loc) (ls : Array Slot), va_P E.2.1 vwCl (fnW E σ) H → va_S (fun q : Nat => s.heap.size ≤ q) s.heap H locs → fnLs ls 4 (lv.map (fnTr E)) → W p l e room_1 s m #[Value.ref b] below meth c H locs 79 1746 (lw_Z below #[Value.ref b] s) (F0 m pc ls (st.map (fnTr E)))) := by
    refine ⟨⟨p, l, e, room_1, s, m, #[Value.ref b], below, meth, c, fun q : Nat => s.heap.size ≤ q, 79, 1746, lw_Z below #[Value.ref b] s, ⟨hx, hb, hml, hown, htT⟩, hK, hDA, fun _ h => h, by rw [E100]; exact hZ, by rw [E100]; exact hT, hNw, ⟨Nat.le_of_ble_eq_true rfl, Nat.le_of_ble_eq_true rfl, Nat.le_of_ble_eq_true rfl, Nat.le_of_ble_eq_true rfl⟩, rfl⟩, hL, ?_, ?_, ?_⟩
    · intro pc nx lv st σ i hd h0 h1 k H locs ls hP hS hl
      obtain ⟨hd, rfl⟩ := hd
      have k := k H locs ls hP hS hl
      have e1 : (zI (xs i.toNat).toInt :: st).map (fnTr E) = .int (xs (Int32.ofInt i).toNatClampNeg) :: st.map (fnTr E) := by
        rw [fn_clamp h0 (by omega)]
        show Value.int (Int32.ofInt (xs i.toNat).toInt) :: _ = _
        rw [Int32.ofInt_toInt]
      rw [e1] at k
      have e2 : (zI i :: .ref 101 :: st).map (fnTr E) = .int (Int32.ofInt i) :: .ref b :: st.map (fnTr E) := by rw [← E101]; rfl
      rw [e2]
      exact va_sld hx hb hX hbl hbA hS (fn_in h0 h1 (by omega)) hd k
    · intro pc nx lv st σ hd k H locs ls hP hS hl
      obtain ⟨hd, rfl⟩ := hd
      have k := k H locs ls hP hS hl
      have e1 : (zI (L : Int) :: st).map (fnTr E) = .int (Int32.ofNat L) :: st.map (fnTr E) := by
        show Value.int (Int32.ofInt (L : Int)) :: _ = _
        rw [Int32.ofInt_eq_ofNat]
      rw [e1] at k
      have e2 : (.ref 101 :: st).map (fnTr E) = .ref b :: st.map (fnTr E) := by rw [← E101]; rfl
      rw [e2]
      exact va_slen hx hb hX hbl hbA hS hd k
    · intro pc nx lv σ hd H locs ls hP hS hl
      have e1 : ([zI 1] : List Value).map (fnTr E) = [.int 1] := by
        show [Value.int (Int32.ofInt 1)] = _
        rw [show Int32.ofInt 1 = 1 by decide +kernel]
      rw [e1]
      refine va_forget (fun q hq => hS.2.2 q hq) ?_
      refine W.widen (k := 600000) (n := 7302250) (by decide) (by decide) ?_
      exact lw_ret hx hb hr hlocks hd.1
  have hl1 : fnLs ls 4 (([.ref 101, .ref 0, .ref 51, .null] : List Value).map (fnTr E)) := by
    have e1 : ([.ref 101, .ref 0, .ref 51, .null] : List Value).map (fnTr E) = [.ref b, .ref qx, .ref qm, .null] := by
      rw [← E101, ← E0, ← E51]; rfl
    rw [e1]
    exact hl
  exact lw_go lx H locs ls hP1 hS hl1
