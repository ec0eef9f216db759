/-! CONTEXTS. fnT: the tables' words that every method is given; fnCx: a place of a method, as V pc locals stack memory -/
def fnT : List Cond := lw_tbl.filter goodWord
def fnNest : Cond → Bool
  | .methodLinkNest _ _ _ _ => true
  | _ => false
def fnTy (E : fnE) : List (ClassId × FieldType) := [(E.2.2.1, .int), (E.2.2.2.1, .boolean), (E.2.2.2.2.1, .object RX0), (E.2.2.2.2.2, .object RX7)]
def fnSinL : List Int := [0, 195, 383, 556, 707, 831, 924, 981, 1000, 981, 924, 831, 707, 556, 383, 195, 0, -195, -383, -556, -707, -831, -924, -981, -1000, -981, -924, -831, -707, -556, -383, -195]
def fnA (E : fnE) (sz : Nat) : Nat → Prop := fun q => (∃ k, k < 79 ∧ q = E.1 k) ∨ sz ≤ q
/-- what a method is given of the state in which it begins -/
def fnU (E : fnE) (σ : fnMem) (sz : Nat) (U : State) : Prop :=
  U.heap.size = sz ∧ va_P E.2.1 vwCl (fnW E σ) U.heap ∧ va_K E.2.1 vwCl (fnTy E) U ∧ va_D (fun _ => True) (fnW E σ) ∧
  va_Z "FooledNeedle$Waves" "SINES" "[I" (.ref (E.1 100)) (fnA E sz) U U.heap ∧ va_T .int (E.1 100) 32 (fun j => zI (fnSinL.getD j 0)) (fnA E sz) U U.heap ∧ ∀ w ∈ lw_tbl, fnNest w = true → va_Nw w U
/-- a method: its name, bytes, places of locals, answer's type, the frames and words that it needs -/
abbrev fnM : Type := MethodName × ByteArray × Nat × Option FieldType × Nat × Nat
def fnRm (M : fnM) : Room := { frames := M.2.2.2.2.1, cells := 0, slots := 0, locals := M.2.2.2.2.2 }
/-- the contract: called with these values over this memory the method returns, and Post holds of answer and memory -/
def fnOk (E : fnE) (M : fnM) (as : List Value) (σ : fnMem) (Post : Option Value → fnMem → Prop) : Prop :=
  ∀ (l : Launch) (sz : Nat), Met l M.1 (.code M.1 M.2.1 M.2.2.1 M.2.2.2.1 :: fnT) (fnRm M) (va_Pc (as.map (fnTr E)) (fnU E σ sz))
    (fun _ st oc t => ∃ (v : Option Value) (σ' : fnMem), oc = .returned (v.map (fnTr E)) ∧ Post v σ' ∧ va_P E.2.1 vwCl (fnW E σ') t.heap ∧ va_F (fnA E sz) st t) 0 0 (fnA E sz)
abbrev fnV : Type := Nat → List Value → List Value → fnMem → Prop
def fnCx (E : fnE) (own : String) (cc : ByteArray) (nL fr lo : Nat) (V : fnV) : Prop :=
  ∃ (p : Program) (l : Launch) (e : Env) (R : Room) (s : State) (m : MethodId) (args : Array Value) (below : List Frame) (meth : Method) (c : Code) (A : Nat → Prop) (cells slots : Nat) (Q : State → Prop),
    (p.tables.exec = Jvm.exec ∧ c.code = cc ∧ c.maxLocals = nL ∧ s.vm.findClass own = some m.cls ∧ ∀ w ∈ fnT, w.before args s = true) ∧
    va_K E.2.1 vwCl (fnTy E) s ∧ (∀ σ, va_D A (fnW E σ)) ∧ (∀ q, s.heap.size ≤ q → A q) ∧
    va_Z "FooledNeedle$Waves" "SINES" "[I" (.ref (E.1 100)) A s s.heap ∧ va_T .int (E.1 100) 32 (fun j => zI (fnSinL.getD j 0)) A s s.heap ∧ (∀ w ∈ lw_tbl, fnNest w = true → va_Nw w s) ∧
    (fr ≤ R.frames ∧ lo ≤ R.locals ∧ cells ≤ R.cells ∧ slots ≤ R.slots) ∧
    V = fun pc lv st σ => ∀ (H : Heap) (locs : List Loc) (ls : Array Slot), va_P E.2.1 vwCl (fnW E σ) H → va_S A s.heap H locs → fnLs ls nL (lv.map (fnTr E)) → W p l e R s m args below meth c H locs cells slots Q (F0 m pc ls (st.map (fnTr E)))
/-- the places at which a method returns -/
def fnRt (cc : ByteArray) (ret : Option FieldType) (Post : Option Value → fnMem → Prop) (V : fnV) : Prop :=
  (ret = some .int → ∀ (pc nx : Nat) (lv : List Value) (z : Int) (σ : fnMem), fnD cc pc .ireturn 1 nx → Post (some (zI z)) σ → V pc lv [zI z] σ) ∧
  (ret = some .boolean → ∀ (pc nx : Nat) (lv : List Value) (z : Int) (σ : fnMem), fnD cc pc .ireturn 1 nx → (z = 0 ∨ z = 1) → Post (some (zI z)) σ → V pc lv [zI z] σ) ∧
  (ret = some .long → ∀ (pc nx : Nat) (lv : List Value) (z : Int) (σ : fnMem), fnD cc pc .lreturn 1 nx → Post (some (zL z)) σ → V pc lv [zL z] σ) ∧
  (ret = none → ∀ (pc nx : Nat) (lv : List Value) (σ : fnMem), fnD cc pc .return_ 1 nx → Post none σ → V pc lv [] σ) ∧
  (∀ C, ret = some (.object C) → ∀ (pc nx : Nat) (lv : List Value) (k : Nat) (σ : fnMem), fnD cc pc .areturn 1 nx → Post (some (.ref k)) σ → V pc lv [.ref k] σ)
/-- the locals at a method's start -/
def fnL0 : List Value → List Value
  | [] => []
  | .long z :: r => .long z :: .null :: fnL0 r
  | .double z :: r => .double z :: .null :: fnL0 r
  | v :: r => v :: fnL0 r
def fnPad (n : Nat) (l : List Value) : List Value := l ++ List.replicate (n - l.length) .null
theorem fnTr_cat (E : fnE) (v : Value) : (fnTr E v).category = v.category := by cases v <;> rfl
theorem fnTr_null {E : fnE} {v : Value} (h : fnTr E v = .null) : v = .null := by cases v <;> simp_all [fnTr]
theorem fnL0_tr (E : fnE) : ∀ l : List Value, (fnL0 l).map (fnTr E) = fnL0 (l.map (fnTr E))
  | [] => rfl
  | v :: r => by
    have := fnL0_tr E r
    cases v <;> simp [fnL0, fnTr, this]
theorem fnL0_args : ∀ (l : List Value) (a i : Nat) (v : Value), (fnL0 l)[i]? = some v → v ≠ .null → (a + i, v) ∈ lv_args a l
  | [], a, i, v, h, _ => by simp [fnL0] at h
  | w :: r, a, i, v, h, hv => by
    have ih1 := fnL0_args r (a + 1)
    have ih2 := fnL0_args r (a + 2)
    cases w with
    | long z =>
      simp only [fnL0, lv_args, Value.category, if_true] at h ⊢
      match i, h with
      | 0, h => simp at h; subst h; exact List.mem_cons_self
      | 1, h => simp at h; exact absurd h.symm hv
      | i + 2, h => 
        have := ih2 i v (by simpa using h) hv
        rw [show a + (i + 2) = a + 2 + i by omega]
        exact List.mem_cons_of_mem _ this
    | double z =>
      simp only [fnL0, lv_args, Value.category, if_true] at h ⊢
      match i, h with
      | 0, h => simp at h; subst h; exact List.mem_cons_self
      | 1, h => simp at h; exact absurd h.symm hv
      | i + 2, h => 
        have := ih2 i v (by simpa using h) hv
        rw [show a + (i + 2) = a + 2 + i by omega]
        exact List.mem_cons_of_mem _ this
    | int z =>
      simp only [fnL0, lv_args, Value.category] at h ⊢
      match i, h with
      | 0, h => simp at h; subst h; exact List.mem_cons_self
      | i + 1, h => 
        have := ih1 i v (by simpa using h) hv
        rw [show a + (i + 1) = a + 1 + i by omega]
        exact List.mem_cons_of_mem _ this
    | float z =>
      simp only [fnL0, lv_args, Value.category] at h ⊢
      match i, h with
      | 0, h => simp at h; subst h; exact List.mem_cons_self
      | i + 1, h => 
        have := ih1 i v (by simpa using h) hv
        rw [show a + (i + 1) = a + 1 + i by omega]
        exact List.mem_cons_of_mem _ this
    | null =>
      simp only [fnL0, lv_args, Value.category] at h ⊢
      match i, h with
      | 0, h => simp at h; subst h; exact List.mem_cons_self
      | i + 1, h => 
        have := ih1 i v (by simpa using h) hv
        rw [show a + (i + 1) = a + 1 + i by omega]
        exact List.mem_cons_of_mem _ this
    | ref z =>
      simp only [fnL0, lv_args, Value.category] at h ⊢
      match i, h with
      | 0, h => simp at h; subst h; exact List.mem_cons_self
      | i + 1, h => 
        have := ih1 i v (by simpa using h) hv
        rw [show a + (i + 1) = a + 1 + i by omega]
        exact List.mem_cons_of_mem _ this
    | retAddr z =>
      simp only [fnL0, lv_args, Value.category] at h ⊢
      match i, h with
      | 0, h => simp at h; subst h; exact List.mem_cons_self
      | i + 1, h => 
        have := ih1 i v (by simpa using h) hv
        rw [show a + (i + 1) = a + 1 + i by omega]
        exact List.mem_cons_of_mem _ this
theorem fnL0_len : ∀ l : List Value, (fnL0 l).length = (lg_sl l).length
  | [] => rfl
  | v :: r => by
    have := fnL0_len r
    cases v <;> simp [fnL0, lg_sl, this, Value.category]
theorem fnW_of {E : fnE} {σ : fnMem} {i : Nat} {q : Nat × va_E} (h : (fnW E σ)[i]? = some q) : i < 79 ∧ q = (E.1 i, fnEn E (σ i) (fnSh i)) := by
  have hi : i < 79 := by
    have := (List.getElem?_eq_some_iff.mp h).1
    simpa [fnW] using this
  rw [fnW_at E σ hi] at h
  exact ⟨hi, (Option.some.inj h).symm⟩
theorem fnW_D {E : fnE} {σ : fnMem} {A B : Nat → Prop} (h : va_D A (fnW E σ)) (hB : ∀ k, k < 79 → B (E.1 k)) (σ' : fnMem) : va_D B (fnW E σ') := by
  refine ⟨fun i j p q hi hj hpq => ?_, fun k q hk => ?_⟩
  · obtain ⟨h1, rfl⟩ := fnW_of hi
    obtain ⟨h2, rfl⟩ := fnW_of hj
    exact h.1 i j _ _ (fnW_at E σ h1) (fnW_at E σ h2) hpq
  · obtain ⟨h1, rfl⟩ := fnW_of hk
    exact hB k h1
theorem fnNest_on {w : Cond} (h : fnNest w = true) : w.onTables = true := by cases w <;> first | rfl | simp [fnNest] at h
theorem fnNest_warm {w : Cond} (h : fnNest w = true) {s U : State} (hW : s.WarmedH U.vm) (hZ : va_Nw w s) : va_Nw w U := by
  cases w <;> first | exact va_Nw.warmM hW hZ | simp [fnNest] at h
theorem fnU_blind (E : fnE) (σ : fnMem) (sz : Nat) (av : List Value) : FrameBlind (va_Pc av (fnU E σ sz)) := by
  intro a U g mk h
  obtain ⟨h1, h2, h3, h4, h5, h6, h7, h8⟩ := h
  exact ⟨h1, h2, h3, va_K.moved (u := U) (U := U.calling g mk a) (Vm.Alike.refl U.vm) h4, h5, va_Z.moved (u := U) (U := U.calling g mk a) (Vm.Alike.refl U.vm) h6, va_T.moved (u := U) (U := U.calling g mk a) (Vm.Alike.refl U.vm) h7, fun w hw hn => va_Nw.same (fnNest_on hn) (u := U) (U := U.calling g mk a) rfl (h8 w hw hn)⟩
theorem fnA_sub {E : fnE} {A : Nat → Prop} {σ : fnMem} {H0 H : Heap} {locs : List Loc} (hD : va_D A (fnW E σ)) (hA : ∀ q, H0.size ≤ q → A q) (hS : va_S A H0 H locs) : ∀ q, fnA E H.size q → A q := by
  intro q h
  rcases h with ⟨k, hk, rfl⟩ | h
  · exact hD.2 k _ (fnW_at E σ hk)
  · exact hA q (Nat.le_trans hS.1 h)
theorem fnU_of {E : fnE} {σ : fnMem} {A : Nat → Prop} {s U : State} {H : Heap} {locs : List Loc} (hK : va_K E.2.1 vwCl (fnTy E) s) (hD : ∀ σ, va_D A (fnW E σ)) (hA : ∀ q, s.heap.size ≤ q → A q)
    (hZ : va_Z "FooledNeedle$Waves" "SINES" "[I" (.ref (E.1 100)) A s s.heap) (hT : va_T .int (E.1 100) 32 (fun j => zI (fnSinL.getD j 0)) A s s.heap) (hN : ∀ w ∈ lw_tbl, fnNest w = true → va_Nw w s)
    (hP : va_P E.2.1 vwCl (fnW E σ) H) (hS : va_S A s.heap H locs) (hU : U.heap = H) (hW : s.WarmedH U.vm) : fnU E σ H.size U := by
  subst hU
  have hsub := fnA_sub (hD σ) hA hS
  exact ⟨rfl, hP, hK.moved hW.alike, fnW_D (hD σ) (fun _ _ => trivial) σ, ((hZ.kept hS.2.1).moved hW.alike).narrow hsub, ((hT.kept hS.2.1).moved hW.alike).narrow hsub, fun w hw hn => fnNest_warm hn hW (hN w hw hn)⟩
theorem fnT_good : ∀ w ∈ fnT, (w.onTables && w.keeps) = true ∨ ∃ ty, w = .arrayClass ty := fun _ h => good_of_word (List.mem_filter.mp h).2
theorem fn_after {p : Program} {l : Launch} {e : Env} {R : Room} {s : State} {m : MethodId} {args : Array Value} {below : List Frame} {meth : Method} {c : Code} {H : Heap} {locs : List Loc} {cells slots : Nat} {Q : State → Prop}
    {pc : Nat} {ls : Array Slot} {st0 rest : List Value} {E : fnE} {A : Nat → Prop} {Post : Option Value → fnMem → Prop}
    (hr : va_Run p l e R s m args below meth c H locs cells slots 0 0 (F0 m pc ls st0) rest (fun st oc t => ∃ (v : Option Value) (σ' : fnMem), oc = .returned (v.map (fnTr E)) ∧ Post v σ' ∧ va_P E.2.1 vwCl (fnW E σ') t.heap ∧ va_F (fnA E H.size) st t) (fnA E H.size))
    (hS : va_S A s.heap H locs) (hsub : ∀ q, fnA E H.size q → A q)
    (kk : ∀ (v : Option Value) (σ' : fnMem) (H1 : Heap) (locs1 : List Loc), Post v σ' → va_P E.2.1 vwCl (fnW E σ') H1 → va_S A s.heap H1 locs1 → W p l e R s m args below meth c H1 locs1 cells slots Q (F0 m (pc + 3) ls ((v.map (fnTr E)).toList ++ rest))) : W p l e R s m args below meth c H locs cells slots Q (F0 m pc ls st0) := by
  intro T hT X
  obtain ⟨v, st₀, t, T', L, h0, X', hL, e1, e2, ⟨v', σ', hv, hp, hP1, hz, hk⟩, st⟩ := hr T hT X
  cases hv
  rw [h0] at hz hk
  obtain ⟨t2, a1, b1⟩ := kk v' σ' T'.heap (locs ++ L) hp (by rw [e1]; exact hP1)
    ⟨Nat.le_trans hS.1 (by rw [e1]; exact hz), fun q h1 h2 => by rw [e1, hk q (Nat.lt_of_lt_of_le h1 hS.1) (fun z => h2 (hsub q z))]; exact hS.2.1 q h1 h2, fun q hq => by
      rcases List.mem_append.mp hq with h | h
      · exact hS.2.2 q h
      · exact hsub _ (hL q h)⟩ T' rfl X'
  exact ⟨t2, st t2 a1, b1⟩
/-- as Met.ofW, of a method for which the table of natives has no row -/
theorem fn_MetW {l : Launch} {y : MethodName} {ws ws' : List Cond} {rm : Room} {Pc : Array Value → State → Prop} {Qc : Array Value → State → Outcome → State → Prop} {mc ms : Nat} {free : Addr → Prop} {cc : ByteArray} {maxL : Nat} {ret : Option FieldType}
    (hy : plainFor y = true) (hw : ws = Cond.code y cc maxL ret :: ws')
    (body : ∀ p e s m args below meth c s₁, BodyLoose p l y (headSpec ws rm) cc maxL ret e s m args below meth c s₁ → c.maxLocals = maxL → Pc args s →
      W p l e (headSpec ws rm).room s m args below meth c s.heap [] 0 0 (MQ below Qc args s mc ms free) (entryFrame m args maxL)) : Met l y ws rm Pc Qc mc ms free := by
  refine MetFree.of_bodySF (code := cc) (maxLocals := maxL) (ret := ret) hy ?_ ?_
  · intro args s m h hn
    obtain ⟨meth, c, h1, h2, h3, h4, h5, h6, -, -⟩ := Cond.code_spec hn (atoms_spec (ws := ws) h _ (by rw [hw]; exact List.mem_cons_self))
    exact ⟨meth, c, h1, h2, h3, h4, h5, h6⟩
  · intro p e s m args below meth c s₁ B hml hP _
    have hh0 : s₁.heap = s.heap := by rw [B.state]; rfl
    obtain ⟨t, a1, o, b1, b2, b3⟩ := body p e s m args below meth c s₁ B hml hP s₁ hh0 (Stand.of_body B)
    exact ⟨t, o, a1, b1, b2, ⟨b3.1, b3.2⟩⟩
set_option maxHeartbeats 4000000 in
/-- a contract out of a walk of the body -/
theorem fnOk.of {E : fnE} {M : fnM} {as : List Value} {σ : fnMem} {Post : Option Value → fnMem → Prop} (lv0 : List Value) (hlv : fnPad M.2.2.1 (fnL0 as) = lv0) (hpl : plainFor M.1 = true) (hlen : Nat.ble (fnL0 as).length M.2.2.1 = true)
    (body : ∀ V : fnV, fnCx E M.1.cls M.2.1 M.2.2.1 M.2.2.2.2.1 M.2.2.2.2.2 V → fnRt M.2.1 M.2.2.2.1 Post V → V 0 lv0 [] σ) : fnOk E M as σ Post := by
  intro l sz
  refine fn_MetW (cc := M.2.1) (maxL := M.2.2.1) (ret := M.2.2.2.1) hpl rfl ?_
  intro p e s m args below meth c s₁ B hml hv
  obtain ⟨rfl, hsz, hP, hK, hD, hZ, hT, hN⟩ := hv
  have hx := B.exec
  have hb := B.bytes
  have hr := B.returns
  have hts := atoms_spec (ws := (.code M.1 M.2.1 M.2.2.1 M.2.2.2.1 :: fnT)) B.pre
  have hown : s.vm.findClass M.1.cls = some m.cls := findClass_of_methodNamed B.named
  have hlocks := B.notSynchronized
  subst hsz
  have hlen' : (lg_sl (as.map (fnTr E))).length ≤ M.2.2.1 := by rw [← fnL0_len, ← fnL0_tr]; simpa using Nat.le_of_ble_eq_true hlen
  have hl := lv_entry (as.map (fnTr E)) (n := M.2.2.1) hlen'
  rw [lg_entry_eq]
  generalize (lg_sl (as.map (fnTr E)) ++ List.replicate (M.2.2.1 - (lg_sl (as.map (fnTr E))).length) Slot.unset).toArray = ls at hl ⊢
  have hls : fnLs ls M.2.2.1 (lv0.map (fnTr E)) := by
    refine ⟨hl.1, hl.2.1, fun i v hi hv => ?_⟩
    subst hlv
    simp only [fnPad, List.map_append, fnL0_tr] at hi
    by_cases hi2 : i < (fnL0 (as.map (fnTr E))).length
    · rw [List.getElem?_append_left hi2] at hi
      have := hl.2.2 (0 + i, v) (fnL0_args _ 0 i v hi hv)
      simpa using this
    · rw [List.getElem?_append_right (by omega)] at hi
      simp only [List.map_replicate, fnTr, List.getElem?_replicate] at hi
      split at hi
      · cases hi; exact absurd rfl hv
      · cases hi
  have hS0 : va_S (fnA E s.heap.size) s.heap s.heap [] := va_S.rf
  refine body _ ⟨p, l, e, (headSpec (.code M.1 M.2.1 M.2.2.1 M.2.2.2.1 :: fnT) (fnRm M)).room, s, m, _, below, meth, c, fnA E s.heap.size, 0, 0, _, ⟨hx, hb, hml, hown, fun w hw => hts w (List.mem_cons_of_mem _ hw)⟩, hK, fun σ' => fnW_D hD (fun k hk => Or.inl ⟨k, hk, rfl⟩) σ', fun q h => Or.inr h, hZ, hT, hN, ⟨Nat.le_refl _, Nat.le_refl _, Nat.zero_le _, Nat.zero_le _⟩, rfl⟩ ⟨?_, ?_, ?_, ?_, ?_⟩ s.heap [] ls hP hS0 hls
  · intro hret pc nx lv z σ1 hd hp H locs ls hP hS hl
    exact W.iret (v := Int32.ofInt z) hx hb (hr.trans hret) (fun t ht hW => ⟨some (zI z), σ1, rfl, hp, by rw [ht]; exact hP, hS.F ht⟩) hS.2.2 hd.1 hlocks
  · intro hret pc nx lv z σ1 hd hz hp H locs ls hP hS hl
    exact W.zret (v := Int32.ofInt z) (ty := .boolean) hx hb (hr.trans hret) (by rcases hz with rfl | rfl <;> decide +kernel) (fun t ht hW => ⟨some (zI z), σ1, rfl, hp, by rw [ht]; exact hP, hS.F ht⟩) hS.2.2 hd.1 hlocks
  · intro hret pc nx lv z σ1 hd hp H locs ls hP hS hl
    exact W.lret (v := Int64.ofInt z) hx hb (hr.trans hret) (fun t ht hW => ⟨some (zL z), σ1, rfl, hp, by rw [ht]; exact hP, hS.F ht⟩) hS.2.2 hd.1 hlocks
  · intro hret pc nx lv σ1 hd hp H locs ls hP hS hl
    exact W.vret hx hb (hr.trans hret) (fun t ht hW => ⟨none, σ1, rfl, hp, by rw [ht]; exact hP, hS.F ht⟩) hS.2.2 hd.1 hlocks
  · intro C hret pc nx lv k σ1 hd hp H locs ls hP hS hl
    exact W.aret (v := .ref (E.1 k)) (rt := .object C) hx hb (hr.trans hret) (Or.inl ⟨C, rfl⟩) (Or.inr ⟨_, rfl⟩) (fun t ht hW => ⟨some (.ref k), σ1, rfl, hp, by rw [ht]; exact hP, hS.F ht⟩) hS.2.2 hd.1 hlocks
/-! calls -/
/-- what the tables say of a static method, of an instance method -/
def fnMq (M : fnM) (n : Nat) : Prop := Cond.initialized M.1.cls ∈ fnT ∧ Cond.code M.1 M.2.1 M.2.2.1 M.2.2.2.1 ∈ fnT ∧ M.1.cls ≠ "java/lang/invoke/MethodHandle" ∧ M.1.cls ≠ "java/lang/invoke/VarHandle" ∧ (parseMethodDescriptor M.1.desc).map (fun d => d.parameters.length) = some n
def fnMs (M : fnM) (n : Nat) : Prop := fnMq M n ∧ Cond.static M.1 ∈ fnT
def fnMv (M : fnM) (n : Nat) : Prop := fnMq M n ∧ Cond.instanceMethod M.1 ∈ fnT ∧ Cond.selects M.1.cls M.1 M.1 ∈ fnT
theorem fnMq.good {M : fnM} {n : Nat} (h : fnMq M n) : GoodIn fnT (.code M.1 M.2.1 M.2.2.1 M.2.2.2.1 :: fnT) := by
  intro w hw
  rcases List.mem_cons.mp hw with rfl | hw
  · exact ⟨h.2.1, fnT_good _ h.2.1⟩
  · exact ⟨hw, fnT_good _ hw⟩
theorem fn_catsum (E : fnE) (st : List Value) : ((st.map (fnTr E)).map fun v => v.category) = st.map fun v => v.category := by
  rw [List.map_map]
  exact List.map_congr_left fun v _ => fnTr_cat E v
set_option maxHeartbeats 4000000 in
theorem fn_callS {E : fnE} {own : String} {cc : ByteArray} {nL fr lo : Nat} {V : fnV} (h : fnCx E own cc nL fr lo V) {M : fnM} {as rest lv : List Value} {σ : fnMem} {Post : Option Value → fnMem → Prop} {idx n pc nx : Nat}
    (hOk : fnOk E M as σ Post) (hm : fnMs M n) (hlk : Cond.methodLink own idx M.1 ∈ fnT) (hd : fnD cc pc (.invokestatic idx) 3 nx) (hR : Nat.ble (M.2.2.2.2.1 + 1) fr = true ∧ Nat.ble (8 + (M.2.2.1 + 11) + M.2.2.2.2.2) lo = true) (hn : as.length = n) (hW : Nat.ble (rest.map fun v => v.category).sum 8 = true)
    (k : ∀ (v : Option Value) (σ' : fnMem), Post v σ' → V nx lv (v.toList ++ rest) σ') : V pc lv (as.reverse ++ rest) σ := by
  obtain ⟨p, l, e, R, s, m, args, below, meth, c, A, cells, slots, Q, ⟨hx, hb, hml, hown, hts⟩, hK, hD, hA, hZ, hT, hN, ⟨r1, r2, r3, r4⟩, rfl⟩ := h
  obtain ⟨hd, rfl⟩ := hd
  intro H locs ls hP hS hl
  have hR1 := Nat.le_trans (Nat.le_of_ble_eq_true hR.1) r1
  have hR2 := Nat.le_trans (Nat.le_of_ble_eq_true hR.2) r2
  have hM := hOk l H.size
  have run := va_runS (l := l) (e := e) (R := R) (below := below) (meth := meth) (H := H) (locs := locs) (cells := cells) (slots := slots) (g := F0 m pc ls ((as.reverse ++ rest).map (fnTr E))) (As := as.map (fnTr E)) (rest := rest.map (fnTr E)) ⟨hx, hb, hml, hown, hts⟩ hM ⟨callB_of n hts hm.1.good rfl rfl rfl (hts _ hm.1.1) (hts _ hlk) hm.1.2.2 ⟨hR1, hR2⟩, hts _ hm.2⟩
    ⟨fnU_blind _ _ _ _, fun U hU hW => ⟨rfl, fnU_of hK hD hA hZ hT hN hP hS hU hW⟩⟩ rfl (by simpa using hn) hl.1 (by simp) (lv_room (by rw [fn_catsum]; exact Nat.le_of_ble_eq_true hW)) hd ⟨r3, r4⟩
  refine fn_after run hS (fnA_sub (hD σ) hA hS) fun v σ' H1 locs1 hp hP1 hS1 => ?_
  have := k v σ' hp H1 locs1 ls hP1 hS1 hl
  rw [List.map_append] at this
  cases v <;> exact this
set_option maxHeartbeats 4000000 in
theorem fn_callN {E : fnE} {own host : String} {cc : ByteArray} {nL fr lo : Nat} {V : fnV} (h : fnCx E own cc nL fr lo V) {M : fnM} {as rest lv : List Value} {σ : fnMem} {Post : Option Value → fnMem → Prop} {idx n pc nx : Nat}
    (hOk : fnOk E M as σ Post) (hm : fnMs M n) (hlk : Cond.methodLinkNest own idx M.1 host ∈ lw_tbl) (hd : fnD cc pc (.invokestatic idx) 3 nx) (hR : Nat.ble (M.2.2.2.2.1 + 1) fr = true ∧ Nat.ble (8 + (M.2.2.1 + 11) + M.2.2.2.2.2) lo = true) (hn : as.length = n) (hW : Nat.ble (rest.map fun v => v.category).sum 8 = true)
    (k : ∀ (v : Option Value) (σ' : fnMem), Post v σ' → V nx lv (v.toList ++ rest) σ') : V pc lv (as.reverse ++ rest) σ := by
  obtain ⟨p, l, e, R, s, m, args, below, meth, c, A, cells, slots, Q, ⟨hx, hb, hml, hown, hts⟩, hK, hD, hA, hZ, hT, hN, ⟨r1, r2, r3, r4⟩, rfl⟩ := h
  obtain ⟨hd, rfl⟩ := hd
  intro H locs ls hP hS hl
  have hR1 := Nat.le_trans (Nat.le_of_ble_eq_true hR.1) r1
  have hR2 := Nat.le_trans (Nat.le_of_ble_eq_true hR.2) r2
  have hM := hOk l H.size
  have run := va_runSN (l := l) (e := e) (R := R) (below := below) (meth := meth) (H := H) (locs := locs) (cells := cells) (slots := slots) (g := F0 m pc ls ((as.reverse ++ rest).map (fnTr E))) (As := as.map (fnTr E)) (rest := rest.map (fnTr E)) ⟨hx, hb, hml, hown, hts⟩ hM ⟨va_cnB n hts hm.1.good rfl rfl rfl (hN _ hlk rfl) (hts _ hm.1.1) hm.1.2.2 ⟨hR1, hR2⟩, hts _ hm.2, trivial⟩
    ⟨fnU_blind _ _ _ _, fun U hU hW => ⟨rfl, fnU_of hK hD hA hZ hT hN hP hS hU hW⟩⟩ rfl (by simpa using hn) hl.1 (by simp) (lv_room (by rw [fn_catsum]; exact Nat.le_of_ble_eq_true hW)) hd ⟨r3, r4⟩
  refine fn_after run hS (fnA_sub (hD σ) hA hS) fun v σ' H1 locs1 hp hP1 hS1 => ?_
  have := k v σ' hp H1 locs1 ls hP1 hS1 hl
  rw [List.map_append] at this
  cases v <;> exact this
theorem fn_recv {E : fnE} {σ : fnMem} {s : State} {H : Heap} {k ci : Nat} {C : String} {T : u_T} {N : Nat} (hK : va_K E.2.1 vwCl (fnTy E) s) (hP : va_P E.2.1 vwCl (fnW E σ) H) (hk : k < 79) (hs : (fnSh k).1 = ci + 4) (hc : vwCl[ci]? = some (C, T, N)) : ∃ cellB : Cell, H[E.1 k]? = some cellB ∧ cellB.vm.isStatics = false ∧ s.vm.findClass C = some cellB.cls := by
  have h1 := hP k _ (fnW_at E σ hk)
  rcases hsh : fnSh k with ⟨a, b, r⟩
  rw [hsh] at h1 hs
  simp only at hs
  subst hs
  obtain ⟨q, h2, cell, h3, h4, h5, -⟩ := h1
  refine ⟨cell, h3, by rw [h5]; rfl, ?_⟩
  have h6 := (hK.1 ci _ hc).2.1
  rw [h4]
  exact h6
set_option maxHeartbeats 4000000 in
theorem fn_callV {E : fnE} {own : String} {cc : ByteArray} {nL fr lo : Nat} {V : fnV} (h : fnCx E own cc nL fr lo V) {M : fnM} {as rest lv : List Value} {b : Nat} {σ : fnMem} {Post : Option Value → fnMem → Prop} {idx n pc nx ci : Nat} {T : u_T} {N : Nat}
    (hOk : fnOk E M (.ref b :: as) σ Post) (hm : fnMv M n) (hlk : Cond.methodLink own idx M.1 ∈ fnT) (hd : fnD cc pc (.invokevirtual idx) 3 nx) (hb79 : b < 79) (hs : (fnSh b).1 = ci + 4) (hci : vwCl[ci]? = some (M.1.cls, T, N)) (hR : Nat.ble (M.2.2.2.2.1 + 1) fr = true ∧ Nat.ble (8 + (M.2.2.1 + 11) + M.2.2.2.2.2) lo = true) (hn : as.length = n) (hW : Nat.ble (rest.map fun v => v.category).sum 8 = true)
    (k : ∀ (v : Option Value) (σ' : fnMem), Post v σ' → V nx lv (v.toList ++ rest) σ') : V pc lv (as.reverse ++ .ref b :: rest) σ := by
  obtain ⟨p, l, e, R, s, m, args, below, meth, c, A, cells, slots, Q, ⟨hx, hb, hml, hown, hts⟩, hK, hD, hA, hZ, hT, hN, ⟨r1, r2, r3, r4⟩, rfl⟩ := h
  obtain ⟨hd, rfl⟩ := hd
  intro H locs ls hP hS hl
  have hR1 := Nat.le_trans (Nat.le_of_ble_eq_true hR.1) r1
  have hR2 := Nat.le_trans (Nat.le_of_ble_eq_true hR.2) r2
  have hM := hOk l H.size
  have run := va_runV (l := l) (e := e) (R := R) (below := below) (meth := meth) (H := H) (locs := locs) (cells := cells) (slots := slots) (g := F0 m pc ls ((as.reverse ++ .ref b :: rest).map (fnTr E))) (As := as.map (fnTr E)) (b := E.1 b) (rest := rest.map (fnTr E)) ⟨hx, hb, hml, hown, hts⟩ hM ⟨callB_of n hts hm.1.good rfl rfl rfl (hts _ hm.1.1) (hts _ hlk) hm.1.2.2 ⟨hR1, hR2⟩, hts _ hm.2.1, hts _ hm.2.2⟩
    ⟨fnU_blind _ _ _ _, fn_recv hK hP hb79 hs hci, fun U hU hW => ⟨rfl, fnU_of hK hD hA hZ hT hN hP hS hU hW⟩⟩ rfl (by simpa using hn) hl.1 (by simp [fnTr]) (lv_room (by rw [fn_catsum]; exact Nat.le_of_ble_eq_true hW)) hd ⟨r3, r4⟩
  refine fn_after run hS (fnA_sub (hD σ) hA hS) fun v σ' H1 locs1 hp hP1 hS1 => ?_
  have := k v σ' hp H1 locs1 ls hP1 hS1 hl
  rw [List.map_append] at this
  cases v <;> exact this
