/-! CONSTRUCTORS: a world is a list of cells with raw addresses; kCx: a place of a constructor as V pc locals stack world cells slots -/
abbrev kE : Type := va_G × ClassId × ClassId × ClassId × ClassId
def kTy (G : kE) : List (ClassId × FieldType) := [(G.2.1, .int), (G.2.2.1, .boolean), (G.2.2.2.1, .object RX0), (G.2.2.2.2, .object RX7)]
abbrev kV : Type := Nat → List Value → List Value → va_W → Nat → Nat → Prop
def kCx (G : kE) (own : String) (cc : ByteArray) (nL fr lo mc ms : Nat) (V : kV) : Prop :=
  ∃ (p : Program) (l : Launch) (e : Env) (R : Room) (s : State) (m : MethodId) (args : Array Value) (below : List Frame) (meth : Method) (c : Code) (A : Nat → Prop) (Q : State → Prop),
    (p.tables.exec = Jvm.exec ∧ c.code = cc ∧ c.maxLocals = nL ∧ s.vm.findClass own = some m.cls ∧ ∀ w ∈ fnT, w.before args s = true) ∧
    va_K G.1 vwCl (kTy G) s ∧ (∀ q, s.heap.size ≤ q → A q) ∧ (va_AO RX0 s ∧ va_AO RX7 s) ∧ (∀ w ∈ lw_tbl, fnNest w = true → va_Nw w s) ∧
    (fr ≤ R.frames ∧ lo ≤ R.locals ∧ mc ≤ R.cells ∧ ms ≤ R.slots) ∧ (own ≠ "FooledNeedleLaw" → meth.name = "<init>") ∧
    V = fun pc lv st ws n sl => ∀ (H : Heap) (locs : List Loc) (ls : Array Slot), va_P G.1 vwCl ws H → va_D A ws → va_S A s.heap H locs → fnLs ls nL lv → W p l e R s m args below meth c H locs n sl Q (F0 m pc ls st)
def kU (G : kE) (ws : va_W) (sz : Nat) (U : State) : Prop := U.heap.size = sz ∧ va_P G.1 vwCl ws U.heap ∧ va_K G.1 vwCl (kTy G) U ∧ va_D (fun _ => True) ws ∧ (va_AO RX0 U ∧ va_AO RX7 U) ∧ ∀ w ∈ lw_tbl, fnNest w = true → va_Nw w U
def kRm (M : fnM) (mc ms : Nat) : Room := { frames := M.2.2.2.2.1, cells := mc, slots := ms, locals := M.2.2.2.2.2 }
/-- a constructor's contract: called on the new cell q (with e0) it returns, and the world is one of Wf -/
def kOk (G : kE) (M : fnM) (mc ms : Nat) (q : Nat) (e0 : va_E) (Wf : va_W → Prop) : Prop :=
  ∀ (l : Launch) (sz : Nat), Met l M.1 (.code M.1 M.2.1 M.2.2.1 M.2.2.2.1 :: fnT) (kRm M mc ms) (va_Pc [.ref q] (kU G [(q, e0)] sz))
    (fun _ st oc t => ∃ w1 : va_W, oc = .returned none ∧ Wf w1 ∧ va_P G.1 vwCl w1 t.heap ∧ va_D (va_A [(q, e0)] sz) w1 ∧ va_F (va_A [(q, e0)] sz) st t) mc ms (va_A [(q, e0)] sz)
theorem kU_blind (G : kE) (ws : va_W) (sz : Nat) (av : List Value) : FrameBlind (va_Pc av (kU G ws sz)) := by
  intro a U g mk h
  obtain ⟨h1, h2, h3, h4, h5, h6, h8⟩ := h
  exact ⟨h1, h2, h3, va_K.moved (u := U) (U := U.calling g mk a) (Vm.Alike.refl U.vm) h4, h5, ⟨va_AO.moved (u := U) (U := U.calling g mk a) (Vm.Alike.refl U.vm) h6.1, va_AO.moved (u := U) (U := U.calling g mk a) (Vm.Alike.refl U.vm) h6.2⟩, fun w hw hn => va_Nw.same (fnNest_on hn) (u := U) (U := U.calling g mk a) rfl (h8 w hw hn)⟩
set_option maxHeartbeats 4000000 in
theorem kOk.of {G : kE} {M : fnM} {mc ms q : Nat} {e0 : va_E} {Wf : va_W → Prop} (lv0 : List Value) (hlv : fnPad M.2.2.1 [.ref q] = lv0) (hpl : plainFor M.1 = true) (hlen : Nat.ble 1 M.2.2.1 = true) (hret : M.2.2.2.1 = none) (hnm : M.1.name = "<init>")
    (body : ∀ V : kV, kCx G M.1.cls M.2.1 M.2.2.1 M.2.2.2.2.1 M.2.2.2.2.2 mc ms V → (∀ (pc nx : Nat) (lv : List Value) (ws : va_W) (n sl : Nat), fnD M.2.1 pc .return_ 1 nx → n ≤ mc → sl ≤ ms → Wf ws → V pc lv [] ws n sl) → V 0 lv0 [] [(q, e0)] 0 0) : kOk G M mc ms q e0 Wf := by
  intro l sz
  refine fn_MetW (cc := M.2.1) (maxL := M.2.2.1) (ret := M.2.2.2.1) hpl rfl ?_
  intro p e s m args below meth c s₁ B hml hv
  obtain ⟨rfl, hsz, hP, hK, hD, hAO, hN⟩ := hv
  have hx := B.exec
  have hb := B.bytes
  have hr := B.returns
  have hts := atoms_spec (ws := (.code M.1 M.2.1 M.2.2.1 M.2.2.2.1 :: fnT)) B.pre
  have hown : s.vm.findClass M.1.cls = some m.cls := findClass_of_methodNamed B.named
  have hlocks := B.notSynchronized
  have hin : meth.name = "<init>" := by rw [← hnm]; exact (name_of_methodNamed B.named B.method).1
  subst hsz
  have hlen' : (lg_sl [Value.ref q]).length ≤ M.2.2.1 := Nat.le_of_ble_eq_true hlen
  have hl := lv_entry ([Value.ref q]) (n := M.2.2.1) hlen'
  rw [lg_entry_eq]
  generalize (lg_sl [Value.ref q] ++ List.replicate (M.2.2.1 - (lg_sl [Value.ref q]).length) Slot.unset).toArray = ls at hl ⊢
  have hls : fnLs ls M.2.2.1 lv0 := by
    refine ⟨hl.1, hl.2.1, fun i v hi hv => ?_⟩
    subst hlv
    match i, hi with
    | 0, hi => 
      have hi : Value.ref q = v := Option.some.inj hi
      subst hi
      exact hl.2.2 (0, _) List.mem_cons_self
    | i + 1, hi =>
      simp only [fnPad, List.cons_append, List.nil_append, List.getElem?_cons_succ, List.getElem?_replicate] at hi
      split at hi
      · cases hi; exact absurd rfl hv
      · cases hi
  have hD9 := hD.self (sz := s.heap.size)
  have hS0 : va_S (va_A [(q, e0)] s.heap.size) s.heap s.heap [] := va_S.rf
  refine body _ ⟨p, l, e, (headSpec (.code M.1 M.2.1 M.2.2.1 M.2.2.2.1 :: fnT) (kRm M mc ms)).room, s, m, _, below, meth, c, va_A [(q, e0)] s.heap.size, _, ⟨hx, hb, hml, hown, fun w hw => hts w (List.mem_cons_of_mem _ hw)⟩, hK, fun q h => Or.inr h, hAO, hN, ⟨Nat.le_refl _, Nat.le_refl _, Nat.le_refl _, Nat.le_refl _⟩, fun _ => hin, rfl⟩ ?_ s.heap [] ls hP hD9 hS0 hls
  intro pc nx lv ws n sl hd h1 h2 hw H locs ls hP hD hS hl
  refine W.widen (k := mc) (n := ms) h1 h2 ?_
  exact W.vret hx hb (hr.trans hret) (fun t ht hW => ⟨ws, rfl, hw, by rw [ht]; exact hP, hD, hS.F ht⟩) hS.2.2 hd.1 hlocks
/-! the instructions -/
theorem k_iconst {G : kE} {own : String} {cc : ByteArray} {nL fr lo mc ms : Nat} {V : kV} (h : kCx G own cc nL fr lo mc ms V) {pc nx : Nat} {lv st : List Value} {ws : va_W} {n sl : Nat} {z : Int} (hd : fnD cc pc (.iconst z) 1 nx) (k : V nx lv (zI z :: st) ws n sl) : V pc lv st ws n sl := by
  obtain ⟨p, l, e, R, s, m, args, below, meth, c, A, Q, ⟨hx, hb, hml, hown, hts⟩, hK, hA, hAO, hN, ⟨r1, r2, r3, r4⟩, hin, rfl⟩ := h
  obtain ⟨hd, rfl⟩ := hd
  intro H locs ls hP hD hS hl
  have k := k H locs ls hP hD hS hl
  exact lv_iconst hx hb hd rfl k
theorem k_bipush {G : kE} {own : String} {cc : ByteArray} {nL fr lo mc ms : Nat} {V : kV} (h : kCx G own cc nL fr lo mc ms V) {pc nx : Nat} {lv st : List Value} {ws : va_W} {n sl : Nat} {z : Int} (hd : fnD cc pc (.bipush z) 2 nx) (hr : fnB8 z = true) (k : V nx lv (zI z :: st) ws n sl) : V pc lv st ws n sl := by
  obtain ⟨p, l, e, R, s, m, args, below, meth, c, A, Q, ⟨hx, hb, hml, hown, hts⟩, hK, hA, hAO, hN, ⟨r1, r2, r3, r4⟩, hin, rfl⟩ := h
  obtain ⟨hd, rfl⟩ := hd
  intro H locs ls hP hD hS hl
  have k := k H locs ls hP hD hS hl
  exact lv_bipush hx hb hd (fnB8_ok hr) k
theorem k_sipush {G : kE} {own : String} {cc : ByteArray} {nL fr lo mc ms : Nat} {V : kV} (h : kCx G own cc nL fr lo mc ms V) {pc nx : Nat} {lv st : List Value} {ws : va_W} {n sl : Nat} {z : Int} (hd : fnD cc pc (.sipush z) 3 nx) (hr : fnB16 z = true) (k : V nx lv (zI z :: st) ws n sl) : V pc lv st ws n sl := by
  obtain ⟨p, l, e, R, s, m, args, below, meth, c, A, Q, ⟨hx, hb, hml, hown, hts⟩, hK, hA, hAO, hN, ⟨r1, r2, r3, r4⟩, hin, rfl⟩ := h
  obtain ⟨hd, rfl⟩ := hd
  intro H locs ls hP hD hS hl
  have k := k H locs ls hP hD hS hl
  exact lv_sipush hx hb hd (fnB16_ok hr) k
theorem k_aload {G : kE} {own : String} {cc : ByteArray} {nL fr lo mc ms : Nat} {V : kV} (h : kCx G own cc nL fr lo mc ms V) {pc nx : Nat} {lv st : List Value} {ws : va_W} {n sl : Nat} {j : Fin 4} {i a : Nat} (hd : fnD cc pc (.aload_n j) 1 nx) (hn : (j : Nat) = i) (hi : lv[i]? = some (.ref a)) (k : V nx lv (.ref a :: st) ws n sl) : V pc lv st ws n sl := by
  obtain ⟨p, l, e, R, s, m, args, below, meth, c, A, Q, ⟨hx, hb, hml, hown, hts⟩, hK, hA, hAO, hN, ⟨r1, r2, r3, r4⟩, hin, rfl⟩ := h
  obtain ⟨hd, rfl⟩ := hd
  intro H locs ls hP hD hS hl
  have k := k H locs ls hP hD hS hl
  exact lv_aload_n hx hb hd hn (hl.2.2 i (.ref a) hi (fun q => by cases q)) k
theorem k_iload {G : kE} {own : String} {cc : ByteArray} {nL fr lo mc ms : Nat} {V : kV} (h : kCx G own cc nL fr lo mc ms V) {pc nx : Nat} {lv st : List Value} {ws : va_W} {n sl : Nat} {j : Fin 4} {i : Nat} {z : Int} (hd : fnD cc pc (.iload_n j) 1 nx) (hn : (j : Nat) = i) (hi : lv[i]? = some (zI z)) (k : V nx lv (zI z :: st) ws n sl) : V pc lv st ws n sl := by
  obtain ⟨p, l, e, R, s, m, args, below, meth, c, A, Q, ⟨hx, hb, hml, hown, hts⟩, hK, hA, hAO, hN, ⟨r1, r2, r3, r4⟩, hin, rfl⟩ := h
  obtain ⟨hd, rfl⟩ := hd
  intro H locs ls hP hD hS hl
  have k := k H locs ls hP hD hS hl
  exact lv_iload_n hx hb hd hn (hl.2.2 i (zI z) hi (fun q => by cases q)) k
theorem k_istore {G : kE} {own : String} {cc : ByteArray} {nL fr lo mc ms : Nat} {V : kV} (h : kCx G own cc nL fr lo mc ms V) {pc nx : Nat} {lv st : List Value} {ws : va_W} {n sl : Nat} {j : Fin 4} {i : Nat} {z : Int} (hd : fnD cc pc (.istore_n j) 1 nx) (hn : (j : Nat) = i) (hi : Nat.ble (i + 1) nL = true) (hp : ∀ j w, i = j + 1 → lv[j]? = some w → w.category ≠ 2) (k : V nx (lv.set i (zI z)) st ws n sl) : V pc lv (zI z :: st) ws n sl := by
  obtain ⟨p, l, e, R, s, m, args, below, meth, c, A, Q, ⟨hx, hb, hml, hown, hts⟩, hK, hA, hAO, hN, ⟨r1, r2, r3, r4⟩, hin, rfl⟩ := h
  obtain ⟨hd, rfl⟩ := hd
  subst hn
  intro H locs ls hP hD hS hl
  obtain ⟨ls', e', h'⟩ := hl.st1 (v := zI z) (Nat.le_of_ble_eq_true hi) rfl hp
  have k := k H locs ls' hP hD hS h'
  replace e' : storeLocals ls (j : Nat) (Value.int (Int32.ofInt z)) = some ls' := e'
  show W p l e R s m args below meth c H locs n sl Q (F0 m pc ls (Value.int (Int32.ofInt z) :: st))
  intro T hT X
  obtain ⟨t, a, b⟩ := k T hT X
  refine ⟨t, ?_, b⟩
  jvm_step X.here [X.here.top, ↓top_set X.here.top, hx, hb, hd, e']
  exact a
theorem k_astore {G : kE} {own : String} {cc : ByteArray} {nL fr lo mc ms : Nat} {V : kV} (h : kCx G own cc nL fr lo mc ms V) {pc nx : Nat} {lv st : List Value} {ws : va_W} {n sl : Nat} {j : Fin 4} {i a : Nat} (hd : fnD cc pc (.astore_n j) 1 nx) (hn : (j : Nat) = i) (hi : Nat.ble (i + 1) nL = true) (hp : ∀ j w, i = j + 1 → lv[j]? = some w → w.category ≠ 2) (k : V nx (lv.set i (.ref a)) st ws n sl) : V pc lv (.ref a :: st) ws n sl := by
  obtain ⟨p, l, e, R, s, m, args, below, meth, c, A, Q, ⟨hx, hb, hml, hown, hts⟩, hK, hA, hAO, hN, ⟨r1, r2, r3, r4⟩, hin, rfl⟩ := h
  obtain ⟨hd, rfl⟩ := hd
  subst hn
  intro H locs ls hP hD hS hl
  obtain ⟨ls', e', h'⟩ := hl.st1 (v := Value.ref a) (Nat.le_of_ble_eq_true hi) rfl hp
  have k := k H locs ls' hP hD hS h'
  replace e' : storeLocals ls (j : Nat) (Value.ref a) = some ls' := e'
  show W p l e R s m args below meth c H locs n sl Q (F0 m pc ls (Value.ref a :: st))
  intro T hT X
  obtain ⟨t, a9, b⟩ := k T hT X
  refine ⟨t, ?_, b⟩
  jvm_step X.here [X.here.top, ↓top_set X.here.top, hx, hb, hd, e']
  exact ⟨rfl, a9⟩
theorem k_iinc {G : kE} {own : String} {cc : ByteArray} {nL fr lo mc ms : Nat} {V : kV} (h : kCx G own cc nL fr lo mc ms V) {pc nx : Nat} {lv st : List Value} {ws : va_W} {n sl : Nat} {i : Nat} {d z : Int} (hd : fnD cc pc (.iinc i d) 3 nx) (hz : lv[i]? = some (zI z)) (hi : Nat.ble (i + 1) nL = true) (hp : ∀ j w, i = j + 1 → lv[j]? = some w → w.category ≠ 2) (k : V nx (lv.set i (zI (z + d))) st ws n sl) : V pc lv st ws n sl := by
  obtain ⟨p, l, e, R, s, m, args, below, meth, c, A, Q, ⟨hx, hb, hml, hown, hts⟩, hK, hA, hAO, hN, ⟨r1, r2, r3, r4⟩, hin, rfl⟩ := h
  obtain ⟨hd, rfl⟩ := hd
  intro H locs ls hP hD hS hl
  have hg : ls[i]? = some (.val (.int (Int32.ofInt z))) := hl.2.2 i (zI z) hz (fun q => by cases q)
  obtain ⟨ls', e', h'⟩ := hl.st1 (v := zI (z + d)) (Nat.le_of_ble_eq_true hi) rfl hp
  have k := k H locs ls' hP hD hS h'
  replace e' : storeLocals ls i (.int (Int32.ofInt z + Int32.ofInt d)) = some ls' := by rw [← Int32.ofInt_add]; exact e'
  intro T hT X
  obtain ⟨t, a, b⟩ := k T hT X
  refine ⟨t, ?_, b⟩
  jvm_step X.here [X.here.top, ↓top_set X.here.top, hx, hb, hd, hg, e']
  exact a
theorem k_dup {G : kE} {own : String} {cc : ByteArray} {nL fr lo mc ms : Nat} {V : kV} (h : kCx G own cc nL fr lo mc ms V) {pc nx : Nat} {lv st : List Value} {ws : va_W} {n sl : Nat} {v : Value} (hd : fnD cc pc .dup 1 nx) (hv : fnC1 v = true) (k : V nx lv (v :: v :: st) ws n sl) : V pc lv (v :: st) ws n sl := by
  obtain ⟨p, l, e, R, s, m, args, below, meth, c, A, Q, ⟨hx, hb, hml, hown, hts⟩, hK, hA, hAO, hN, ⟨r1, r2, r3, r4⟩, hin, rfl⟩ := h
  obtain ⟨hd, rfl⟩ := hd
  intro H locs ls hP hD hS hl
  have k := k H locs ls hP hD hS hl
  exact lv_dup hx hb hd (fnC1_cat hv) k
theorem k_icmp_ge {G : kE} {own : String} {cc : ByteArray} {nL fr lo mc ms : Nat} {V : kV} (h : kCx G own cc nL fr lo mc ms V) {pc nx : Nat} {lv st : List Value} {ws : va_W} {n sl : Nat} {tgt : Nat} {x y : Int} (hx1 : fnR x) (hy1 : fnR y) (hd : fnIc cc pc .ge tgt nx) (kt : y ≤ x → V tgt lv st ws n sl) (kf : x < y → V nx lv st ws n sl) : V pc lv (zI y :: zI x :: st) ws n sl := by
  obtain ⟨p, l, e, R, s, m, args, below, meth, c, A, Q, ⟨hx, hb, hml, hown, hts⟩, hK, hA, hAO, hN, ⟨r1, r2, r3, r4⟩, hin, rfl⟩ := h
  obtain ⟨hd, rfl⟩ := hd
  intro H locs ls hP hD hS hl
  have ht : (pc : Int) + ((tgt : Int) - (pc : Int)) = (tgt : Int) := by omega
  exact lv_icmp_ge hx hb hd ht (fun q => kt (by rw [fn_leI hy1 hx1] at q; omega) H locs ls hP hD hS hl) (fun q => kf (by rw [fn_leI hy1 hx1] at q; omega) H locs ls hP hD hS hl)
theorem k_goto {G : kE} {own : String} {cc : ByteArray} {nL fr lo mc ms : Nat} {V : kV} (h : kCx G own cc nL fr lo mc ms V) {pc nx : Nat} {lv st : List Value} {ws : va_W} {n sl : Nat} {tgt : Nat} (hd : fnGo cc pc tgt) (k : V tgt lv st ws n sl) : V pc lv st ws n sl := by
  obtain ⟨p, l, e, R, s, m, args, below, meth, c, A, Q, ⟨hx, hb, hml, hown, hts⟩, hK, hA, hAO, hN, ⟨r1, r2, r3, r4⟩, hin, rfl⟩ := h
  intro H locs ls hP hD hS hl
  have k := k H locs ls hP hD hS hl
  have ht : (pc : Int) + ((tgt : Int) - (pc : Int)) = (tgt : Int) := by omega
  exact lv_goto hx hb hd ht k
theorem k_obj {G : kE} {own : String} {cc : ByteArray} {nL fr lo mc ms : Nat} {V : kV} (h : kCx G own cc nL fr lo mc ms V) {pc nx : Nat} {lv st : List Value} {ws : va_W} {n sl : Nat} {a idx : Nat} (hd : fnD cc pc (.invokespecial idx) 3 nx) (hlk : Cond.methodLink own idx objectInit ∈ fnT) (hi : Cond.instanceMethod objectInit ∈ fnT) (hc : Cond.code objectInit ⟨#[0xb1]⟩ 1 none ∈ fnT) (hf : Nat.ble 1 fr = true) (hlo : Nat.ble 12 lo = true) (k : V nx lv [] ws n sl) : V pc lv [.ref a] ws n sl := by
  obtain ⟨p, l, e, R, s, m, args, below, meth, c, A, Q, ⟨hx, hb, hml, hown, hts⟩, hK, hA, hAO, hN, ⟨r1, r2, r3, r4⟩, hin, rfl⟩ := h
  obtain ⟨hd, rfl⟩ := hd
  intro H locs ls hP hD hS hl
  have k := k H locs ls hP hD hS hl
  exact W.objInit hx hb hown (hts _ hlk) (hts _ hi) (hts _ hc) rfl (by rw [hml]; exact hl.1) rfl hd (Nat.le_trans (Nat.le_of_ble_eq_true hf) r1) (Nat.le_trans (show 2 * (F0 m pc ls [.ref a]).monitorRoom + (([] : List Value).map fun v => v.category).sum + 12 ≤ 12 from Nat.le_of_ble_eq_true rfl) (Nat.le_trans (Nat.le_of_ble_eq_true hlo) r2)) k
theorem k_newI {G : kE} {own : String} {cc : ByteArray} {nL fr lo mc ms : Nat} {V : kV} (h : kCx G own cc nL fr lo mc ms V) {pc nx : Nat} {lv st : List Value} {ws : va_W} {n sl : Nat} {z : Int} {N : Nat} (hd : fnD cc pc (.newarray .int) 2 nx) (hw : Cond.arrayClass .int ∈ fnT) (hz : z = N) (hB : Nat.ble N 1000 = true) (hc : n + 1 ≤ mc) (hs : sl + N ≤ ms) (k : ∀ q : Nat, V nx lv (.ref q :: st) (ws ++ [(q, .inl (G.2.1, N, .inl (fun _ => Int32.ofInt 0)))]) (n + 1) (sl + N)) : V pc lv (zI z :: st) ws n sl := by
  obtain ⟨p, l, e, R, s, m, args, below, meth, c, A, Q, ⟨hx, hb, hml, hown, hts⟩, hK, hA, hAO, hN, ⟨r1, r2, r3, r4⟩, hin, rfl⟩ := h
  obtain ⟨hd, rfl⟩ := hd
  subst hz
  have hB := Nat.le_of_ble_eq_true hB
  intro H locs ls hP hD hS hl
  refine va_newa (atype := .int) (ty := .int) (a0 := (N, .inl (fun _ => Int32.ofInt 0))) hx hb (hts _ hw) rfl hK hP hD hS hA (fun cA => ?_) (fun q => ?_) (by rw [fn_clamp (by omega) (by omega)]; omega) (Nat.le_trans (Nat.mul_le_mul hB (show componentBytes .int ≤ 8 by decide)) (by omega)) (by omega) (by omega) hd (fun q cA H1 hK1 hP1 hD1 hS1 => ?_)
  · rw [← fn_0]; rfl
  · rw [fn_0, fn_ltI ⟨by omega, by omega⟩ (by decide)] at q
    omega
  · have e1 := (hK1.2 4 _ rfl).2
    have e2 := (hK.2 0 _ rfl).2
    have e3 : cA = G.2.1 := Option.some.inj (e1.symm.trans e2)
    subst e3
    exact k q H1 locs ls hP1 hD1 hS1 hl
theorem k_newB {G : kE} {own : String} {cc : ByteArray} {nL fr lo mc ms : Nat} {V : kV} (h : kCx G own cc nL fr lo mc ms V) {pc nx : Nat} {lv st : List Value} {ws : va_W} {n sl : Nat} {z : Int} {N : Nat} (hd : fnD cc pc (.newarray .boolean) 2 nx) (hw : Cond.arrayClass .boolean ∈ fnT) (hz : z = N) (hB : Nat.ble N 1000 = true) (hc : n + 1 ≤ mc) (hs : sl + N ≤ ms) (k : ∀ q : Nat, V nx lv (.ref q :: st) (ws ++ [(q, .inl (G.2.2.1, N, .inl (fun _ => Int32.ofInt 0)))]) (n + 1) (sl + N)) : V pc lv (zI z :: st) ws n sl := by
  obtain ⟨p, l, e, R, s, m, args, below, meth, c, A, Q, ⟨hx, hb, hml, hown, hts⟩, hK, hA, hAO, hN, ⟨r1, r2, r3, r4⟩, hin, rfl⟩ := h
  obtain ⟨hd, rfl⟩ := hd
  subst hz
  have hB := Nat.le_of_ble_eq_true hB
  intro H locs ls hP hD hS hl
  refine va_newa (atype := .boolean) (ty := .boolean) (a0 := (N, .inl (fun _ => Int32.ofInt 0))) hx hb (hts _ hw) rfl hK hP hD hS hA (fun cA => ?_) (fun q => ?_) (by rw [fn_clamp (by omega) (by omega)]; omega) (Nat.le_trans (Nat.mul_le_mul hB (show componentBytes .boolean ≤ 8 by decide)) (by omega)) (by omega) (by omega) hd (fun q cA H1 hK1 hP1 hD1 hS1 => ?_)
  · rw [← fn_0]; rfl
  · rw [fn_0, fn_ltI ⟨by omega, by omega⟩ (by decide)] at q
    omega
  · have e1 := (hK1.2 4 _ rfl).2
    have e2 := (hK.2 1 _ rfl).2
    have e3 : cA = G.2.2.1 := Option.some.inj (e1.symm.trans e2)
    subst e3
    exact k q H1 locs ls hP1 hD1 hS1 hl
theorem k_newqC {G : kE} {own : String} {cc : ByteArray} {nL fr lo mc ms : Nat} {V : kV} (h : kCx G own cc nL fr lo mc ms V) {pc nx : Nat} {lv st : List Value} {ws : va_W} {n sl : Nat} {idx : Nat} {z : Int} {N : Nat} (hd : fnD cc pc (.anewarray idx) 3 nx) (hcl : Cond.classLink own idx RX0 ∈ fnT) (hz : z = N) (hB : Nat.ble N 1000 = true) (hc : n + 1 ≤ mc) (hs : sl + N ≤ ms) (k : ∀ q : Nat, V nx lv (.ref q :: st) (ws ++ [(q, .inl (G.2.2.2.1, N, .inr (.inr (.inr (.inr (fun _ => none))))))]) (n + 1) (sl + N)) : V pc lv (zI z :: st) ws n sl := by
  obtain ⟨p, l, e, R, s, m, args, below, meth, c, A, Q, ⟨hx, hb, hml, hown, hts⟩, hK, hA, hAO, hN, ⟨r1, r2, r3, r4⟩, hin, rfl⟩ := h
  obtain ⟨hd, rfl⟩ := hd
  subst hz
  have hB := Nat.le_of_ble_eq_true hB
  intro H locs ls hP hD hS hl
  refine va_newq hx hb hown (hts _ hcl) hAO.1 hK hP hD hS hA (fun q => ?_) (show (Int32.ofInt (N : Int)).toNatClampNeg = N by rw [fn_clamp (by omega) (by omega)]; omega) (by omega) (by omega) (by omega) hd (fun q cA H1 hK1 hP1 hD1 hS1 => ?_)
  · rw [fn_0, fn_ltI ⟨by omega, by omega⟩ (by decide)] at q
    omega
  · obtain ⟨kA, comp, -, -, -, e1⟩ := (hK1.2 4 _ rfl).2
    obtain ⟨kB, comp2, -, -, -, e2⟩ := (hK.2 2 _ rfl).2
    have e3 : cA = G.2.2.2.1 := Option.some.inj (e1.symm.trans e2)
    subst e3
    exact k q H1 locs ls hP1 hD1 hS1 hl
theorem k_newqS {G : kE} {own : String} {cc : ByteArray} {nL fr lo mc ms : Nat} {V : kV} (h : kCx G own cc nL fr lo mc ms V) {pc nx : Nat} {lv st : List Value} {ws : va_W} {n sl : Nat} {idx : Nat} {z : Int} {N : Nat} (hd : fnD cc pc (.anewarray idx) 3 nx) (hcl : Cond.classLink own idx RX7 ∈ fnT) (hz : z = N) (hB : Nat.ble N 1000 = true) (hc : n + 1 ≤ mc) (hs : sl + N ≤ ms) (k : ∀ q : Nat, V nx lv (.ref q :: st) (ws ++ [(q, .inl (G.2.2.2.2, N, .inr (.inr (.inr (.inr (fun _ => none))))))]) (n + 1) (sl + N)) : V pc lv (zI z :: st) ws n sl := by
  obtain ⟨p, l, e, R, s, m, args, below, meth, c, A, Q, ⟨hx, hb, hml, hown, hts⟩, hK, hA, hAO, hN, ⟨r1, r2, r3, r4⟩, hin, rfl⟩ := h
  obtain ⟨hd, rfl⟩ := hd
  subst hz
  have hB := Nat.le_of_ble_eq_true hB
  intro H locs ls hP hD hS hl
  refine va_newq hx hb hown (hts _ hcl) hAO.2 hK hP hD hS hA (fun q => ?_) (show (Int32.ofInt (N : Int)).toNatClampNeg = N by rw [fn_clamp (by omega) (by omega)]; omega) (by omega) (by omega) (by omega) hd (fun q cA H1 hK1 hP1 hD1 hS1 => ?_)
  · rw [fn_0, fn_ltI ⟨by omega, by omega⟩ (by decide)] at q
    omega
  · obtain ⟨kA, comp, -, -, -, e1⟩ := (hK1.2 4 _ rfl).2
    obtain ⟨kB, comp2, -, -, -, e2⟩ := (hK.2 3 _ rfl).2
    have e3 : cA = G.2.2.2.2 := Option.some.inj (e1.symm.trans e2)
    subst e3
    exact k q H1 locs ls hP1 hD1 hS1 hl
/-- what 'new' wants of class ci *-/
def kNw (own : String) (idx ci N : Nat) (fs : List Value) : Prop := ∃ (C : String) (T : u_T), fnKc ci C T N ∧ Cond.classLink own idx C ∈ fnT ∧ Cond.instantiable C N ∈ fnT ∧ Cond.initialized C ∈ fnT ∧ ∃ ty : Nat → FieldType, (∀ k, k < N → parseFieldDescriptor (T k).2.2.1 = some (ty k)) ∧ ∀ j, j < N → defaultValue (ty j) = vp_V fs j
/-- a final field of the constructor's own class that holds a reference -/
def fnFf (own : String) (idx ci j : Nat) : Prop := ∃ (T : u_T) (N : Nat), fnKc ci own T N ∧ j < N ∧ Cond.fieldLink own idx own (T j).2.1 (T j).2.2.1 ∈ fnT ∧ (T j).1 = own ∧ (T j).2.2.2 = true ∧ own ≠ "FooledNeedleLaw" ∧ ∃ ty, parseFieldDescriptor (T j).2.2.1 = some ty ∧ ∀ a, narrow ty (.ref a) = .ref a ∧ fits ty (.ref a) = true
theorem k_new {G : kE} {own : String} {cc : ByteArray} {nL fr lo mc ms : Nat} {V : kV} (h : kCx G own cc nL fr lo mc ms V) {pc nx : Nat} {lv st : List Value} {ws : va_W} {n sl : Nat} {idx ci N : Nat} {fs : List Value} (hd : fnD cc pc (.new idx) 3 nx) (hw : kNw own idx ci N fs) (hc : n + 1 ≤ mc) (hs : sl + N ≤ ms) (k : ∀ q : Nat, V nx lv (.ref q :: st) (ws ++ [(q, .inr (ci, fs))]) (n + 1) (sl + N)) : V pc lv st ws n sl := by
  obtain ⟨p, l, e, R, s, m, args, below, meth, c, A, Q, ⟨hx, hb, hml, hown, hts⟩, hK, hA, hAO, hN, ⟨r1, r2, r3, r4⟩, hin, rfl⟩ := h
  obtain ⟨hd, rfl⟩ := hd
  obtain ⟨C, T, ⟨hcc, hws, -, -⟩, h1, h2, h3, ty, hty, hfs⟩ := hw
  intro H locs ls hP hD hS hl
  exact va_new hx hb hts hws ty hty hown (hts _ h1) (hts _ h2) (hts _ h3) hK hP hD hS hA hcc hfs (by omega) (by omega) hd (fun q H1 hP1 hD1 hS1 => k q H1 locs ls hP1 hD1 hS1 hl)
theorem k_putF {G : kE} {own : String} {cc : ByteArray} {nL fr lo mc ms : Nat} {V : kV} (h : kCx G own cc nL fr lo mc ms V) {pc nx : Nat} {lv st : List Value} {ws : va_W} {n sl : Nat} {idx ci j q0 a v : Nat} {fs : List Value} {ws1 : va_W} (hd : fnD cc pc (.putfield idx) 3 nx) (hf : fnFf own idx ci j) (he : ws[q0]? = some (a, .inr (ci, fs))) (hl0 : j < fs.length) (hw : ws.set q0 (a, .inr (ci, fs.set j (.ref v))) = ws1) (k : V nx lv st ws1 n sl) : V pc lv (.ref v :: .ref a :: st) ws n sl := by
  obtain ⟨p, l, e, R, s, m, args, below, meth, c, A, Q, ⟨hx, hb, hml, hown, hts⟩, hK, hA, hAO, hN, ⟨r1, r2, r3, r4⟩, hin, rfl⟩ := h
  obtain ⟨hd, rfl⟩ := hd
  subst hw
  obtain ⟨T, N, ⟨hcc, hws, ⟨ty0, hty⟩, hnm⟩, hj, hlk, hC, hfin, hne, ty, hp, hty2⟩ := hf
  intro H locs ls hP hD hS hl
  exact va_putF hx hb hts hws ty0 hty hnm hown hK hP hD hS q0 he hcc j hj (hts _ hlk) (fun x q => by rw [← hC]; rw [hC] at q ⊢; exact q) hfin (hin hne) hC hp (hty2 v).1 (hty2 v).2 hl0 hd (fun H1 locs1 hP1 hD1 hS1 => k H1 locs1 ls hP1 hD1 hS1 hl)
theorem k_putI {G : kE} {own : String} {cc : ByteArray} {nL fr lo mc ms : Nat} {V : kV} (h : kCx G own cc nL fr lo mc ms V) {pc nx : Nat} {lv st : List Value} {ws : va_W} {n sl : Nat} {idx ci j q0 a : Nat} {z : Int} {fs : List Value} {ws1 : va_W} (hd : fnD cc pc (.putfield idx) 3 nx) (hf : fnFp own idx ci j) (he : ws[q0]? = some (a, .inr (ci, fs))) (hl0 : j < fs.length) (hw : ws.set q0 (a, .inr (ci, fs.set j (zI z))) = ws1) (k : V nx lv st ws1 n sl) : V pc lv (zI z :: .ref a :: st) ws n sl := by
  obtain ⟨p, l, e, R, s, m, args, below, meth, c, A, Q, ⟨hx, hb, hml, hown, hts⟩, hK, hA, hAO, hN, ⟨r1, r2, r3, r4⟩, hin, rfl⟩ := h
  obtain ⟨hd, rfl⟩ := hd
  subst hw
  obtain ⟨C, T, N, ⟨hcc, hws, ⟨ty0, hty⟩, hnm⟩, hj, hlk, hC, hfin, hI⟩ := hf
  intro H locs ls hP hD hS hl
  exact va_put hx hb hts hws ty0 hty hnm hown hK hP hD hS q0 he hcc j hj (hts _ hlk) (fun x q => by rw [← hC]; exact q) hfin (ty := .int) (v := zI z) (by rw [hI]; decide +kernel) rfl rfl hl0 hd (fun H1 locs1 hP1 hD1 hS1 => k H1 locs1 ls hP1 hD1 hS1 hl)
theorem k_get {G : kE} {own : String} {cc : ByteArray} {nL fr lo mc ms : Nat} {V : kV} (h : kCx G own cc nL fr lo mc ms V) {pc nx : Nat} {lv st : List Value} {ws : va_W} {n sl : Nat} {idx ci j q0 a : Nat} {v : Value} {fs : List Value} (hd : fnD cc pc (.getfield idx) 3 nx) (hf : fnFl own idx ci j) (he : ws[q0]? = some (a, .inr (ci, fs))) (hv : fs[j]? = some v) (k : V nx lv (v :: st) ws n sl) : V pc lv (.ref a :: st) ws n sl := by
  obtain ⟨p, l, e, R, s, m, args, below, meth, c, A, Q, ⟨hx, hb, hml, hown, hts⟩, hK, hA, hAO, hN, ⟨r1, r2, r3, r4⟩, hin, rfl⟩ := h
  obtain ⟨hd, rfl⟩ := hd
  obtain ⟨C, T, N, ⟨hcc, hws, -, -⟩, hj, hlk, hC⟩ := hf
  intro H locs ls hP hD hS hl
  have k := k H locs ls hP hD hS hl
  exact va_get hx hb hts hws hown hK hP q0 he hcc j hj (hts _ hlk) (fun x q => by rw [← hC]; exact q) hv hd k
theorem k_iast {G : kE} {own : String} {cc : ByteArray} {nL fr lo mc ms : Nat} {V : kV} (h : kCx G own cc nL fr lo mc ms V) {pc nx : Nat} {lv st : List Value} {ws : va_W} {n sl : Nat} {q0 a N : Nat} {i z : Int} {f : Nat → Int32} {ws1 : va_W} (hd : fnD cc pc .iastore 1 nx) (he : ws[q0]? = some (a, .inl (G.2.1, N, .inl f))) (h0 : 0 ≤ i) (h1 : i < N) (hB : Nat.ble N 1000 = true) (hw : ws.set q0 (a, .inl (G.2.1, N, .inl (upd f i.toNat (Int32.ofInt z)))) = ws1) (k : V nx lv st ws1 n sl) : V pc lv (zI z :: zI i :: .ref a :: st) ws n sl := by
  obtain ⟨p, l, e, R, s, m, args, below, meth, c, A, Q, ⟨hx, hb, hml, hown, hts⟩, hK, hA, hAO, hN, ⟨r1, r2, r3, r4⟩, hin, rfl⟩ := h
  obtain ⟨hd, rfl⟩ := hd
  subst hw
  have hB := Nat.le_of_ble_eq_true hB
  intro H locs ls hP hD hS hl
  refine va_iast hx hb hK hP hD hS q0 0 he rfl (fn_in h0 h1 (by omega)) hd fun H1 locs1 hP1 hD1 hS1 => ?_
  rw [fn_clamp h0 (by omega)] at hP1 hD1
  exact k H1 locs1 ls hP1 hD1 hS1 hl
theorem k_astqC {G : kE} {own : String} {cc : ByteArray} {nL fr lo mc ms : Nat} {V : kV} (h : kCx G own cc nL fr lo mc ms V) {pc nx : Nat} {lv st : List Value} {ws : va_W} {n sl : Nat} {q0 qk a N v : Nat} {i : Int} {vs : List Value} {f : Nat → Option Nat} {ws1 : va_W} (hd : fnD cc pc .aastore 1 nx) (he : ws[q0]? = some (a, .inl (G.2.2.2.1, N, .inr (.inr (.inr (.inr f)))))) (hv : ws[qk]? = some (v, .inr (0, vs))) (h0 : 0 ≤ i) (h1 : i < N) (hB : Nat.ble N 1000 = true) (hw : ws.set q0 (a, .inl (G.2.2.2.1, N, .inr (.inr (.inr (.inr (va_up f i.toNat (some v))))))) = ws1) (k : V nx lv st ws1 n sl) : V pc lv (.ref v :: zI i :: .ref a :: st) ws n sl := by
  obtain ⟨p, l, e, R, s, m, args, below, meth, c, A, Q, ⟨hx, hb, hml, hown, hts⟩, hK, hA, hAO, hN, ⟨r1, r2, r3, r4⟩, hin, rfl⟩ := h
  obtain ⟨hd, rfl⟩ := hd
  subst hw
  have hB := Nat.le_of_ble_eq_true hB
  intro H locs ls hP hD hS hl
  refine va_astq hx hb hK hP hD hS q0 2 qk 0 he rfl hv rfl (fn_in h0 h1 (by omega)) hd fun H1 locs1 hP1 hD1 hS1 => ?_
  rw [fn_clamp h0 (by omega)] at hP1 hD1
  exact k H1 locs1 ls hP1 hD1 hS1 hl
theorem k_astqS {G : kE} {own : String} {cc : ByteArray} {nL fr lo mc ms : Nat} {V : kV} (h : kCx G own cc nL fr lo mc ms V) {pc nx : Nat} {lv st : List Value} {ws : va_W} {n sl : Nat} {q0 qk a N v : Nat} {i : Int} {vs : List Value} {f : Nat → Option Nat} {ws1 : va_W} (hd : fnD cc pc .aastore 1 nx) (he : ws[q0]? = some (a, .inl (G.2.2.2.2, N, .inr (.inr (.inr (.inr f)))))) (hv : ws[qk]? = some (v, .inr (7, vs))) (h0 : 0 ≤ i) (h1 : i < N) (hB : Nat.ble N 1000 = true) (hw : ws.set q0 (a, .inl (G.2.2.2.2, N, .inr (.inr (.inr (.inr (va_up f i.toNat (some v))))))) = ws1) (k : V nx lv st ws1 n sl) : V pc lv (.ref v :: zI i :: .ref a :: st) ws n sl := by
  obtain ⟨p, l, e, R, s, m, args, below, meth, c, A, Q, ⟨hx, hb, hml, hown, hts⟩, hK, hA, hAO, hN, ⟨r1, r2, r3, r4⟩, hin, rfl⟩ := h
  obtain ⟨hd, rfl⟩ := hd
  subst hw
  have hB := Nat.le_of_ble_eq_true hB
  intro H locs ls hP hD hS hl
  refine va_astq hx hb hK hP hD hS q0 3 qk 7 he rfl hv rfl (fn_in h0 h1 (by omega)) hd fun H1 locs1 hP1 hD1 hS1 => ?_
  rw [fn_clamp h0 (by omega)] at hP1 hD1
  exact k H1 locs1 ls hP1 hD1 hS1 hl
/-- behind a constructor's call: the other cells, and its world -/
theorem k_nd : ∀ (n a : Nat), va_nd ((List.range n).map (a + ·)) = true
  | 0, a => rfl
  | n + 1, a => by
    have e : (List.range (n + 1)).map (a + ·) = a :: (List.range n).map ((a + 1) + ·) := by
      rw [List.range_succ_eq_map, List.map_cons, List.map_map]
      congr 1
      apply List.map_congr_left
      intro x _
      simp only [Function.comp]
      omega
    rw [e]
    simp only [va_nd, Bool.and_eq_true, decide_eq_true_eq]
    refine ⟨fun h => ?_, k_nd n (a + 1)⟩
    obtain ⟨x, -, hx⟩ := List.mem_map.mp h
    omega
theorem k_join {A0 : Nat → Prop} {D : va_G} {cl : List vw_C} {ws w1 : va_W} {x : Nat × va_E} {H H1 : Heap} (hP : va_P D cl (ws ++ [x]) H) (hD : va_D A0 (ws ++ [x]))
    (hk : ∀ q : Nat, q < H.size → ¬ va_A [x] H.size q → H1[q]? = H[q]?) (hF : ∀ q, va_A [x] H.size q → A0 q) (hP1 : va_P D cl w1 H1) (hD1 : va_D (va_A [x] H.size) w1) : va_P D cl (ws ++ w1) H1 ∧ va_D A0 (ws ++ w1) := by
  refine va_join (wc := [x]) hP hD [ws.length] ((List.range ws.length).map (0 + ·)) (by simp) ?_ (k_nd _ 0) (fun i hi => ?_) hk hF hP1 hD1
  · apply List.ext_getElem?
    intro i
    by_cases hi : i < ws.length
    · rw [List.getElem?_map, List.getElem?_map, List.getElem?_map, List.getElem?_range hi]
      simp [hi, List.getElem?_append_left]
    · rw [List.getElem?_eq_none (by simp; omega), List.getElem?_eq_none (by simp; omega)]
  · obtain ⟨y, hy, rfl⟩ := List.mem_map.mp hi
    have := List.mem_range.mp hy
    simp
    omega
def kMi (M : fnM) : Prop := fnMq M 0 ∧ M.1.name = "<init>" ∧ Cond.instanceMethod M.1 ∈ fnT
set_option maxHeartbeats 4000000 in
theorem k_call {G : kE} {own : String} {cc : ByteArray} {nL fr lo mc ms : Nat} {V : kV} (h : kCx G own cc nL fr lo mc ms V) {pc nx : Nat} {lv st : List Value} {ws : va_W} {n sl : Nat} {M : fnM} {m1 s1 q idx : Nat} {e0 : va_E} {Wf : va_W → Prop} (hOk : kOk G M m1 s1 q e0 Wf) (hm : kMi M) (hret : M.2.2.2.1 = none) (hlk : Cond.methodLink own idx M.1 ∈ fnT) (hd : fnD cc pc (.invokespecial idx) 3 nx) (hR : Nat.ble (M.2.2.2.2.1 + 1) fr = true ∧ Nat.ble (8 + (M.2.2.1 + 11) + M.2.2.2.2.2) lo = true) (hW : Nat.ble (st.map fun v => v.category).sum 8 = true) (hc : n + m1 ≤ mc) (hs : sl + s1 ≤ ms)
    (k : ∀ w1 : va_W, Wf w1 → V nx lv st (ws ++ w1) (n + m1) (sl + s1)) : V pc lv (.ref q :: st) (ws ++ [(q, e0)]) n sl := by
  obtain ⟨p, l, e, R, s, m, args, below, meth, c, A, Q, ⟨hx, hb, hml, hown, hts⟩, hK, hA, hAO, hN, ⟨r1, r2, r3, r4⟩, hin, rfl⟩ := h
  obtain ⟨hd, rfl⟩ := hd
  obtain ⟨hmq, hnm, hiM⟩ := hm
  intro H locs ls hP hD hS hl
  have hR1 := Nat.le_trans (Nat.le_of_ble_eq_true hR.1) r1
  have hR2 := Nat.le_trans (Nat.le_of_ble_eq_true hR.2) r2
  have hM := hOk l H.size
  have hPc : va_P G.1 vwCl [(q, e0)] H := hP.sub [ws.length] (by simp)
  have hDc : va_D A [(q, e0)] := hD.sub [ws.length] (by simp [va_nd]) (by simp)
  have hFc := va_free (wc := [(q, e0)]) hD hS hA [ws.length] (by simp)
  have run := va_runI (l := l) (e := e) (R := R) (below := below) (meth := meth) (H := H) (locs := locs) (cells := n) (slots := sl) (g := F0 m pc ls (.ref q :: st)) (As := []) (b := q) (rest := st) ⟨hx, hb, hml, hown, hts⟩ hM ⟨callB_of (bytes := M.2.1) (maxL := M.2.2.1) (ret := none) (ws' := fnT) 0 hts hmq.good (by rw [hret]) rfl rfl (hts _ hmq.1) (hts _ hlk) hmq.2.2 ⟨hR1, hR2⟩, hnm, hts _ hiM⟩
    ⟨kU_blind _ _ _ _, fun U hU hW => ⟨rfl, by rw [hU], by rw [hU]; exact hPc, hK.moved hW.alike, hDc.weaken (fun _ _ _ _ => trivial), ⟨hAO.1.moved hW.alike, hAO.2.moved hW.alike⟩, fun w hw hn => fnNest_warm hn hW (hN w hw hn)⟩⟩ rfl rfl hl.1 rfl (lv_room (Nat.le_of_ble_eq_true hW)) hd ⟨Nat.le_trans hc r3, Nat.le_trans hs r4⟩
  intro T hT X
  obtain ⟨v, st₀, t, T', L, h0, X', hL, e1, e2, ⟨w1, hv, hw, hP1, hD1, hz, hk⟩, stp⟩ := run T hT X
  cases hv
  rw [h0] at hz hk
  obtain ⟨hP2, hD2⟩ := k_join hP hD (fun x h1 h2 => hk x h1 h2) hFc hP1 hD1
  have hS2 : va_S A s.heap T'.heap (locs ++ L) := ⟨Nat.le_trans hS.1 (by rw [e1]; exact hz), fun x h1 h2 => by rw [e1, hk x (Nat.lt_of_lt_of_le h1 hS.1) (fun z => h2 (hFc x z))]; exact hS.2.1 x h1 h2, fun x hx => by
      rcases List.mem_append.mp hx with h | h
      · exact hS.2.2 x h
      · exact hFc _ (hL x h)⟩
  obtain ⟨t2, a1, b1⟩ := k w1 hw T'.heap (locs ++ L) ls (by rw [e1]; exact hP2) hD2 hS2 hl T' rfl X'
  exact ⟨t2, stp t2 a1, b1⟩
set_option maxHeartbeats 4000000 in
theorem k_callN {G : kE} {own : String} {cc : ByteArray} {nL fr lo mc ms : Nat} {V : kV} (h : kCx G own cc nL fr lo mc ms V) {pc nx : Nat} {lv st : List Value} {ws : va_W} {n sl : Nat} {M : fnM} {m1 s1 q idx : Nat} {e0 : va_E} {Wf : va_W → Prop} (hOk : kOk G M m1 s1 q e0 Wf) (hm : kMi M) (hret : M.2.2.2.1 = none) {host : String} (hlk : Cond.methodLinkNest own idx M.1 host ∈ lw_tbl) (hd : fnD cc pc (.invokespecial idx) 3 nx) (hR : Nat.ble (M.2.2.2.2.1 + 1) fr = true ∧ Nat.ble (8 + (M.2.2.1 + 11) + M.2.2.2.2.2) lo = true) (hW : Nat.ble (st.map fun v => v.category).sum 8 = true) (hc : n + m1 ≤ mc) (hs : sl + s1 ≤ ms)
    (k : ∀ w1 : va_W, Wf w1 → V nx lv st (ws ++ w1) (n + m1) (sl + s1)) : V pc lv (.ref q :: st) (ws ++ [(q, e0)]) n sl := by
  obtain ⟨p, l, e, R, s, m, args, below, meth, c, A, Q, ⟨hx, hb, hml, hown, hts⟩, hK, hA, hAO, hN, ⟨r1, r2, r3, r4⟩, hin, rfl⟩ := h
  obtain ⟨hd, rfl⟩ := hd
  obtain ⟨hmq, hnm, hiM⟩ := hm
  intro H locs ls hP hD hS hl
  have hR1 := Nat.le_trans (Nat.le_of_ble_eq_true hR.1) r1
  have hR2 := Nat.le_trans (Nat.le_of_ble_eq_true hR.2) r2
  have hM := hOk l H.size
  have hPc : va_P G.1 vwCl [(q, e0)] H := hP.sub [ws.length] (by simp)
  have hDc : va_D A [(q, e0)] := hD.sub [ws.length] (by simp [va_nd]) (by simp)
  have hFc := va_free (wc := [(q, e0)]) hD hS hA [ws.length] (by simp)
  have run := va_runIN (l := l) (e := e) (R := R) (below := below) (meth := meth) (H := H) (locs := locs) (cells := n) (slots := sl) (g := F0 m pc ls (.ref q :: st)) (As := []) (b := q) (rest := st) ⟨hx, hb, hml, hown, hts⟩ hM ⟨va_cnB (bytes := M.2.1) (maxL := M.2.2.1) (ret := none) (ws' := fnT) 0 hts hmq.good (by rw [hret]) rfl rfl (hN _ hlk rfl) (hts _ hmq.1) hmq.2.2 ⟨hR1, hR2⟩, hnm, hts _ hiM⟩
    ⟨kU_blind _ _ _ _, fun U hU hW => ⟨rfl, by rw [hU], by rw [hU]; exact hPc, hK.moved hW.alike, hDc.weaken (fun _ _ _ _ => trivial), ⟨hAO.1.moved hW.alike, hAO.2.moved hW.alike⟩, fun w hw hn => fnNest_warm hn hW (hN w hw hn)⟩⟩ rfl rfl hl.1 rfl (lv_room (Nat.le_of_ble_eq_true hW)) hd ⟨Nat.le_trans hc r3, Nat.le_trans hs r4⟩
  intro T hT X
  obtain ⟨v, st₀, t, T', L, h0, X', hL, e1, e2, ⟨w1, hv, hw, hP1, hD1, hz, hk⟩, stp⟩ := run T hT X
  cases hv
  rw [h0] at hz hk
  obtain ⟨hP2, hD2⟩ := k_join hP hD (fun x h1 h2 => hk x h1 h2) hFc hP1 hD1
  have hS2 : va_S A s.heap T'.heap (locs ++ L) := ⟨Nat.le_trans hS.1 (by rw [e1]; exact hz), fun x h1 h2 => by rw [e1, hk x (Nat.lt_of_lt_of_le h1 hS.1) (fun z => h2 (hFc x z))]; exact hS.2.1 x h1 h2, fun x hx => by
      rcases List.mem_append.mp hx with h | h
      · exact hS.2.2 x h
      · exact hFc _ (hL x h)⟩
  obtain ⟨t2, a1, b1⟩ := k w1 hw T'.heap (locs ++ L) ls (by rw [e1]; exact hP2) hD2 hS2 hl T' rfl X'
  exact ⟨t2, stp t2 a1, b1⟩
