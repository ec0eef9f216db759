theorem fn_iconst {E : fnE} {own : String} {cc : ByteArray} {nL fr lo : Nat} {V : fnV} (h : fnCx E own cc nL fr lo V) {pc nx : Nat} {lv st : List Value} {σ : fnMem} {n : Int} (hd : fnD cc pc (.iconst n) 1 nx) (k : V nx lv (zI n :: st) σ) : V pc lv st σ := by
  obtain ⟨p, l, e, R, s, m, args, below, meth, c, A, cells, slots, Q, ⟨hx, hb, hml, hown, hts⟩, hK, hD, hA, hZ, hT, hN, ⟨r1, r2, r3, r4⟩, rfl⟩ := h
  obtain ⟨hd, rfl⟩ := hd
  intro H locs ls hP hS hl
  have k := k H locs ls hP hS hl
  exact lv_iconst hx hb hd rfl k

def fnB8 (n : Int) : Bool := decide (-128 ≤ n) && decide (n < 128)
def fnB16 (n : Int) : Bool := decide (-32768 ≤ n) && decide (n < 32768)
theorem fnB8_ok {n : Int} (h : fnB8 n = true) : (Int8.ofInt n).toInt32 = Int32.ofInt n := by
  simp only [fnB8, Bool.and_eq_true, decide_eq_true_eq] at h
  rw [← Int32.toInt_inj, Int8.toInt_toInt32, Int8.toInt_ofInt_of_le (by simpa using h.1) (by simpa using h.2), fn_toI ⟨by omega, by omega⟩]
theorem fnB16_ok {n : Int} (h : fnB16 n = true) : (Int16.ofInt n).toInt32 = Int32.ofInt n := by
  simp only [fnB16, Bool.and_eq_true, decide_eq_true_eq] at h
  rw [← Int32.toInt_inj, Int16.toInt_toInt32, Int16.toInt_ofInt_of_le (by simpa using h.1) (by simpa using h.2), fn_toI ⟨by omega, by omega⟩]

theorem fn_bipush {E : fnE} {own : String} {cc : ByteArray} {nL fr lo : Nat} {V : fnV} (h : fnCx E own cc nL fr lo V) {pc nx : Nat} {lv st : List Value} {σ : fnMem} {n : Int} (hd : fnD cc pc (.bipush n) 2 nx) (hr : fnB8 n = true) (k : V nx lv (zI n :: st) σ) : V pc lv st σ := by
  obtain ⟨p, l, e, R, s, m, args, below, meth, c, A, cells, slots, Q, ⟨hx, hb, hml, hown, hts⟩, hK, hD, hA, hZ, hT, hN, ⟨r1, r2, r3, r4⟩, rfl⟩ := h
  obtain ⟨hd, rfl⟩ := hd
  intro H locs ls hP hS hl
  have k := k H locs ls hP hS hl
  exact lv_bipush hx hb hd (fnB8_ok hr) k

theorem fn_sipush {E : fnE} {own : String} {cc : ByteArray} {nL fr lo : Nat} {V : fnV} (h : fnCx E own cc nL fr lo V) {pc nx : Nat} {lv st : List Value} {σ : fnMem} {n : Int} (hd : fnD cc pc (.sipush n) 3 nx) (hr : fnB16 n = true) (k : V nx lv (zI n :: st) σ) : V pc lv st σ := by
  obtain ⟨p, l, e, R, s, m, args, below, meth, c, A, cells, slots, Q, ⟨hx, hb, hml, hown, hts⟩, hK, hD, hA, hZ, hT, hN, ⟨r1, r2, r3, r4⟩, rfl⟩ := h
  obtain ⟨hd, rfl⟩ := hd
  intro H locs ls hP hS hl
  have k := k H locs ls hP hS hl
  exact lv_sipush hx hb hd (fnB16_ok hr) k

theorem fn_lconst0 {E : fnE} {own : String} {cc : ByteArray} {nL fr lo : Nat} {V : fnV} (h : fnCx E own cc nL fr lo V) {pc nx : Nat} {lv st : List Value} {σ : fnMem} (hd : fnD cc pc (.lconst 0) 1 nx) (k : V nx lv (zL 0 :: st) σ) : V pc lv st σ := by
  obtain ⟨p, l, e, R, s, m, args, below, meth, c, A, cells, slots, Q, ⟨hx, hb, hml, hown, hts⟩, hK, hD, hA, hZ, hT, hN, ⟨r1, r2, r3, r4⟩, rfl⟩ := h
  obtain ⟨hd, rfl⟩ := hd
  intro H locs ls hP hS hl
  have k := k H locs ls hP hS hl
  exact lv_lconst hx hb hd (by decide +kernel) k

theorem fn_lconst1 {E : fnE} {own : String} {cc : ByteArray} {nL fr lo : Nat} {V : fnV} (h : fnCx E own cc nL fr lo V) {pc nx : Nat} {lv st : List Value} {σ : fnMem} (hd : fnD cc pc (.lconst 1) 1 nx) (k : V nx lv (zL 1 :: st) σ) : V pc lv st σ := by
  obtain ⟨p, l, e, R, s, m, args, below, meth, c, A, cells, slots, Q, ⟨hx, hb, hml, hown, hts⟩, hK, hD, hA, hZ, hT, hN, ⟨r1, r2, r3, r4⟩, rfl⟩ := h
  obtain ⟨hd, rfl⟩ := hd
  intro H locs ls hP hS hl
  have k := k H locs ls hP hS hl
  exact lv_lconst hx hb hd (by decide +kernel) k

theorem fn_ldc {E : fnE} {own : String} {cc : ByteArray} {nL fr lo : Nat} {V : fnV} (h : fnCx E own cc nL fr lo V) {pc nx : Nat} {lv st : List Value} {σ : fnMem} {idx : Nat} {z : Int} (hd : fnD cc pc (.ldc idx) 2 nx) (hc : Cond.constant own idx (Int32.ofInt z) ∈ fnT) (k : V nx lv (zI z :: st) σ) : V pc lv st σ := by
  obtain ⟨p, l, e, R, s, m, args, below, meth, c, A, cells, slots, Q, ⟨hx, hb, hml, hown, hts⟩, hK, hD, hA, hZ, hT, hN, ⟨r1, r2, r3, r4⟩, rfl⟩ := h
  obtain ⟨hd, rfl⟩ := hd
  intro H locs ls hP hS hl
  have k := k H locs ls hP hS hl
  exact lv_ldc hx hb hown (hts _ hc) hd k

theorem fn_ldc2 {E : fnE} {own : String} {cc : ByteArray} {nL fr lo : Nat} {V : fnV} (h : fnCx E own cc nL fr lo V) {pc nx : Nat} {lv st : List Value} {σ : fnMem} {idx : Nat} {z : Int} (hd : fnD cc pc (.ldc2_w idx) 3 nx) (hc : Cond.constantLong own idx (Int64.ofInt z) ∈ fnT) (k : V nx lv (zL z :: st) σ) : V pc lv st σ := by
  obtain ⟨p, l, e, R, s, m, args, below, meth, c, A, cells, slots, Q, ⟨hx, hb, hml, hown, hts⟩, hK, hD, hA, hZ, hT, hN, ⟨r1, r2, r3, r4⟩, rfl⟩ := h
  obtain ⟨hd, rfl⟩ := hd
  intro H locs ls hP hS hl
  have k := k H locs ls hP hS hl
  exact lv_ldc2 hx hb hown (hts _ hc) hd k

theorem fn_iloadG {E : fnE} {own : String} {cc : ByteArray} {nL fr lo : Nat} {V : fnV} (h : fnCx E own cc nL fr lo V) {pc nx : Nat} {lv st : List Value} {σ : fnMem} {i : Nat} {z : Int} (hd : fnD cc pc (.iload i) 2 nx) (hi : lv[i]? = some (zI z)) (k : V nx lv (zI z :: st) σ) : V pc lv st σ := by
  obtain ⟨p, l, e, R, s, m, args, below, meth, c, A, cells, slots, Q, ⟨hx, hb, hml, hown, hts⟩, hK, hD, hA, hZ, hT, hN, ⟨r1, r2, r3, r4⟩, rfl⟩ := h
  obtain ⟨hd, rfl⟩ := hd
  intro H locs ls hP hS hl
  have k := k H locs ls hP hS hl
  exact lv_iload hx hb hd (hl.2.2 i (fnTr E (zI z)) (by rw [List.getElem?_map, hi]; rfl) (fun q => by cases q)) k

theorem fn_iloadN {E : fnE} {own : String} {cc : ByteArray} {nL fr lo : Nat} {V : fnV} (h : fnCx E own cc nL fr lo V) {pc nx : Nat} {lv st : List Value} {σ : fnMem} {n : Fin 4} {i : Nat} {z : Int} (hd : fnD cc pc (.iload_n n) 1 nx) (hn : (n : Nat) = i) (hi : lv[i]? = some (zI z)) (k : V nx lv (zI z :: st) σ) : V pc lv st σ := by
  obtain ⟨p, l, e, R, s, m, args, below, meth, c, A, cells, slots, Q, ⟨hx, hb, hml, hown, hts⟩, hK, hD, hA, hZ, hT, hN, ⟨r1, r2, r3, r4⟩, rfl⟩ := h
  obtain ⟨hd, rfl⟩ := hd
  intro H locs ls hP hS hl
  have k := k H locs ls hP hS hl
  exact lv_iload_n hx hb hd hn (hl.2.2 i (fnTr E (zI z)) (by rw [List.getElem?_map, hi]; rfl) (fun q => by cases q)) k

theorem fn_lloadG {E : fnE} {own : String} {cc : ByteArray} {nL fr lo : Nat} {V : fnV} (h : fnCx E own cc nL fr lo V) {pc nx : Nat} {lv st : List Value} {σ : fnMem} {i : Nat} {z : Int} (hd : fnD cc pc (.lload i) 2 nx) (hi : lv[i]? = some (zL z)) (k : V nx lv (zL z :: st) σ) : V pc lv st σ := by
  obtain ⟨p, l, e, R, s, m, args, below, meth, c, A, cells, slots, Q, ⟨hx, hb, hml, hown, hts⟩, hK, hD, hA, hZ, hT, hN, ⟨r1, r2, r3, r4⟩, rfl⟩ := h
  obtain ⟨hd, rfl⟩ := hd
  intro H locs ls hP hS hl
  have k := k H locs ls hP hS hl
  exact lv_lload hx hb hd (hl.2.2 i (fnTr E (zL z)) (by rw [List.getElem?_map, hi]; rfl) (fun q => by cases q)) k

theorem fn_lloadN {E : fnE} {own : String} {cc : ByteArray} {nL fr lo : Nat} {V : fnV} (h : fnCx E own cc nL fr lo V) {pc nx : Nat} {lv st : List Value} {σ : fnMem} {n : Fin 4} {i : Nat} {z : Int} (hd : fnD cc pc (.lload_n n) 1 nx) (hn : (n : Nat) = i) (hi : lv[i]? = some (zL z)) (k : V nx lv (zL z :: st) σ) : V pc lv st σ := by
  obtain ⟨p, l, e, R, s, m, args, below, meth, c, A, cells, slots, Q, ⟨hx, hb, hml, hown, hts⟩, hK, hD, hA, hZ, hT, hN, ⟨r1, r2, r3, r4⟩, rfl⟩ := h
  obtain ⟨hd, rfl⟩ := hd
  intro H locs ls hP hS hl
  have k := k H locs ls hP hS hl
  exact lv_lload_n hx hb hd hn (hl.2.2 i (fnTr E (zL z)) (by rw [List.getElem?_map, hi]; rfl) (fun q => by cases q)) k

theorem fn_aloadG {E : fnE} {own : String} {cc : ByteArray} {nL fr lo : Nat} {V : fnV} (h : fnCx E own cc nL fr lo V) {pc nx : Nat} {lv st : List Value} {σ : fnMem} {i : Nat} {z : Nat} (hd : fnD cc pc (.aload i) 2 nx) (hi : lv[i]? = some (.ref z)) (k : V nx lv (.ref z :: st) σ) : V pc lv st σ := by
  obtain ⟨p, l, e, R, s, m, args, below, meth, c, A, cells, slots, Q, ⟨hx, hb, hml, hown, hts⟩, hK, hD, hA, hZ, hT, hN, ⟨r1, r2, r3, r4⟩, rfl⟩ := h
  obtain ⟨hd, rfl⟩ := hd
  intro H locs ls hP hS hl
  have k := k H locs ls hP hS hl
  exact lv_aload hx hb hd (hl.2.2 i (fnTr E (.ref z)) (by rw [List.getElem?_map, hi]; rfl) (fun q => by cases q)) k

theorem fn_aloadN {E : fnE} {own : String} {cc : ByteArray} {nL fr lo : Nat} {V : fnV} (h : fnCx E own cc nL fr lo V) {pc nx : Nat} {lv st : List Value} {σ : fnMem} {n : Fin 4} {i : Nat} {z : Nat} (hd : fnD cc pc (.aload_n n) 1 nx) (hn : (n : Nat) = i) (hi : lv[i]? = some (.ref z)) (k : V nx lv (.ref z :: st) σ) : V pc lv st σ := by
  obtain ⟨p, l, e, R, s, m, args, below, meth, c, A, cells, slots, Q, ⟨hx, hb, hml, hown, hts⟩, hK, hD, hA, hZ, hT, hN, ⟨r1, r2, r3, r4⟩, rfl⟩ := h
  obtain ⟨hd, rfl⟩ := hd
  intro H locs ls hP hS hl
  have k := k H locs ls hP hS hl
  exact lv_aload_n hx hb hd hn (hl.2.2 i (fnTr E (.ref z)) (by rw [List.getElem?_map, hi]; rfl) (fun q => by cases q)) k

theorem fnSet_tr (E : fnE) (lv : List Value) (i : Nat) (v : Value) : (lv.map (fnTr E)).set i (fnTr E v) = (lv.set i v).map (fnTr E) := by
  rw [List.map_set]
theorem fnPrev {E : fnE} {lv : List Value} {i : Nat} (hp : ∀ j w, i = j + 1 → lv[j]? = some w → fnC1 w = true) : ∀ j w, i = j + 1 → (lv.map (fnTr E))[j]? = some w → w.category ≠ 2 := by
  intro j w hj hw
  rw [List.getElem?_map] at hw
  cases hv : lv[j]? with
  | none => rw [hv] at hw; cases hw
  | some u =>
    rw [hv] at hw
    cases hw
    have := fnC1_cat (hp j u hj hv)
    rw [fnTr_cat, this]
    decide

theorem fn_istoreG {E : fnE} {own : String} {cc : ByteArray} {nL fr lo : Nat} {V : fnV} (h : fnCx E own cc nL fr lo V) {pc nx : Nat} {lv st : List Value} {σ : fnMem} {i : Nat} {z : Int} (hd : fnD cc pc (.istore i) 2 nx) (hi : Nat.ble (i + 1) nL = true) (hp : ∀ j w, i = j + 1 → lv[j]? = some w → fnC1 w = true) (k : V nx (lv.set i (zI z)) st σ) : V pc lv (zI z :: st) σ := by
  obtain ⟨p, l, e, R, s, m, args, below, meth, c, A, cells, slots, Q, ⟨hx, hb, hml, hown, hts⟩, hK, hD, hA, hZ, hT, hN, ⟨r1, r2, r3, r4⟩, rfl⟩ := h
  obtain ⟨hd, rfl⟩ := hd
  intro H locs ls hP hS hl
  obtain ⟨ls', e', h'⟩ := hl.st1 (v := fnTr E (zI z)) (Nat.le_of_ble_eq_true hi) rfl (fnPrev hp)
  rw [fnSet_tr] at h'
  have k := k H locs ls' hP hS h'
  replace e' : storeLocals ls i (Value.int (Int32.ofInt z)) = some ls' := e'
  show W p l e R s m args below meth c H locs cells slots Q (F0 m pc ls (Value.int (Int32.ofInt z) :: st.map (fnTr E)))
  intro T hT X
  obtain ⟨t, a, b⟩ := k T hT X
  refine ⟨t, ?_, b⟩
  jvm_step X.here [X.here.top, ↓top_set X.here.top, hx, hb, hd, e']
  exact a

theorem fn_istoreN {E : fnE} {own : String} {cc : ByteArray} {nL fr lo : Nat} {V : fnV} (h : fnCx E own cc nL fr lo V) {pc nx : Nat} {lv st : List Value} {σ : fnMem} {n : Fin 4} {i : Nat} {z : Int} (hd : fnD cc pc (.istore_n n) 1 nx) (hn : (n : Nat) = i) (hi : Nat.ble (i + 1) nL = true) (hp : ∀ j w, i = j + 1 → lv[j]? = some w → fnC1 w = true) (k : V nx (lv.set i (zI z)) st σ) : V pc lv (zI z :: st) σ := by
  obtain ⟨p, l, e, R, s, m, args, below, meth, c, A, cells, slots, Q, ⟨hx, hb, hml, hown, hts⟩, hK, hD, hA, hZ, hT, hN, ⟨r1, r2, r3, r4⟩, rfl⟩ := h
  obtain ⟨hd, rfl⟩ := hd
  subst hn
  intro H locs ls hP hS hl
  obtain ⟨ls', e', h'⟩ := hl.st1 (v := fnTr E (zI z)) (Nat.le_of_ble_eq_true hi) rfl (fnPrev hp)
  rw [fnSet_tr] at h'
  have k := k H locs ls' hP hS h'
  replace e' : storeLocals ls (n : Nat) (Value.int (Int32.ofInt z)) = some ls' := e'
  show W p l e R s m args below meth c H locs cells slots Q (F0 m pc ls (Value.int (Int32.ofInt z) :: st.map (fnTr E)))
  intro T hT X
  obtain ⟨t, a, b⟩ := k T hT X
  refine ⟨t, ?_, b⟩
  jvm_step X.here [X.here.top, ↓top_set X.here.top, hx, hb, hd, e']
  exact a

theorem fn_lstoreG {E : fnE} {own : String} {cc : ByteArray} {nL fr lo : Nat} {V : fnV} (h : fnCx E own cc nL fr lo V) {pc nx : Nat} {lv st : List Value} {σ : fnMem} {i : Nat} {z : Int} (hd : fnD cc pc (.lstore i) 2 nx) (hi : Nat.ble (i + 2) nL = true) (hp : ∀ j w, i = j + 1 → lv[j]? = some w → fnC1 w = true) (k : V nx ((lv.set i (zL z)).set (i + 1) .null) st σ) : V pc lv (zL z :: st) σ := by
  obtain ⟨p, l, e, R, s, m, args, below, meth, c, A, cells, slots, Q, ⟨hx, hb, hml, hown, hts⟩, hK, hD, hA, hZ, hT, hN, ⟨r1, r2, r3, r4⟩, rfl⟩ := h
  obtain ⟨hd, rfl⟩ := hd
  intro H locs ls hP hS hl
  obtain ⟨ls', e', h'⟩ := hl.st2 (v := fnTr E (zL z)) (Nat.le_of_ble_eq_true hi) rfl (fnPrev hp)
  rw [fnSet_tr, show Value.null = fnTr E .null from rfl, fnSet_tr] at h'
  have k := k H locs ls' hP hS h'
  replace e' : storeLocals ls i (Value.long (Int64.ofInt z)) = some ls' := e'
  show W p l e R s m args below meth c H locs cells slots Q (F0 m pc ls (Value.long (Int64.ofInt z) :: st.map (fnTr E)))
  intro T hT X
  obtain ⟨t, a, b⟩ := k T hT X
  refine ⟨t, ?_, b⟩
  jvm_step X.here [X.here.top, ↓top_set X.here.top, hx, hb, hd, e']
  exact a

theorem fn_lstoreN {E : fnE} {own : String} {cc : ByteArray} {nL fr lo : Nat} {V : fnV} (h : fnCx E own cc nL fr lo V) {pc nx : Nat} {lv st : List Value} {σ : fnMem} {n : Fin 4} {i : Nat} {z : Int} (hd : fnD cc pc (.lstore_n n) 1 nx) (hn : (n : Nat) = i) (hi : Nat.ble (i + 2) nL = true) (hp : ∀ j w, i = j + 1 → lv[j]? = some w → fnC1 w = true) (k : V nx ((lv.set i (zL z)).set (i + 1) .null) st σ) : V pc lv (zL z :: st) σ := by
  obtain ⟨p, l, e, R, s, m, args, below, meth, c, A, cells, slots, Q, ⟨hx, hb, hml, hown, hts⟩, hK, hD, hA, hZ, hT, hN, ⟨r1, r2, r3, r4⟩, rfl⟩ := h
  obtain ⟨hd, rfl⟩ := hd
  subst hn
  intro H locs ls hP hS hl
  obtain ⟨ls', e', h'⟩ := hl.st2 (v := fnTr E (zL z)) (Nat.le_of_ble_eq_true hi) rfl (fnPrev hp)
  rw [fnSet_tr, show Value.null = fnTr E .null from rfl, fnSet_tr] at h'
  have k := k H locs ls' hP hS h'
  replace e' : storeLocals ls (n : Nat) (Value.long (Int64.ofInt z)) = some ls' := e'
  show W p l e R s m args below meth c H locs cells slots Q (F0 m pc ls (Value.long (Int64.ofInt z) :: st.map (fnTr E)))
  intro T hT X
  obtain ⟨t, a, b⟩ := k T hT X
  refine ⟨t, ?_, b⟩
  jvm_step X.here [X.here.top, ↓top_set X.here.top, hx, hb, hd, e']
  exact a

theorem fn_astoreG {E : fnE} {own : String} {cc : ByteArray} {nL fr lo : Nat} {V : fnV} (h : fnCx E own cc nL fr lo V) {pc nx : Nat} {lv st : List Value} {σ : fnMem} {i : Nat} {z : Nat} (hd : fnD cc pc (.astore i) 2 nx) (hi : Nat.ble (i + 1) nL = true) (hp : ∀ j w, i = j + 1 → lv[j]? = some w → fnC1 w = true) (k : V nx (lv.set i (.ref z)) st σ) : V pc lv (.ref z :: st) σ := by
  obtain ⟨p, l, e, R, s, m, args, below, meth, c, A, cells, slots, Q, ⟨hx, hb, hml, hown, hts⟩, hK, hD, hA, hZ, hT, hN, ⟨r1, r2, r3, r4⟩, rfl⟩ := h
  obtain ⟨hd, rfl⟩ := hd
  intro H locs ls hP hS hl
  obtain ⟨ls', e', h'⟩ := hl.st1 (v := fnTr E (.ref z)) (Nat.le_of_ble_eq_true hi) rfl (fnPrev hp)
  rw [fnSet_tr] at h'
  have k := k H locs ls' hP hS h'
  replace e' : storeLocals ls i (Value.ref (E.1 z)) = some ls' := e'
  show W p l e R s m args below meth c H locs cells slots Q (F0 m pc ls (Value.ref (E.1 z) :: st.map (fnTr E)))
  intro T hT X
  obtain ⟨t, a, b⟩ := k T hT X
  refine ⟨t, ?_, b⟩
  jvm_step X.here [X.here.top, ↓top_set X.here.top, hx, hb, hd, e']
  exact ⟨rfl, a⟩

theorem fn_astoreN {E : fnE} {own : String} {cc : ByteArray} {nL fr lo : Nat} {V : fnV} (h : fnCx E own cc nL fr lo V) {pc nx : Nat} {lv st : List Value} {σ : fnMem} {n : Fin 4} {i : Nat} {z : Nat} (hd : fnD cc pc (.astore_n n) 1 nx) (hn : (n : Nat) = i) (hi : Nat.ble (i + 1) nL = true) (hp : ∀ j w, i = j + 1 → lv[j]? = some w → fnC1 w = true) (k : V nx (lv.set i (.ref z)) st σ) : V pc lv (.ref z :: st) σ := by
  obtain ⟨p, l, e, R, s, m, args, below, meth, c, A, cells, slots, Q, ⟨hx, hb, hml, hown, hts⟩, hK, hD, hA, hZ, hT, hN, ⟨r1, r2, r3, r4⟩, rfl⟩ := h
  obtain ⟨hd, rfl⟩ := hd
  subst hn
  intro H locs ls hP hS hl
  obtain ⟨ls', e', h'⟩ := hl.st1 (v := fnTr E (.ref z)) (Nat.le_of_ble_eq_true hi) rfl (fnPrev hp)
  rw [fnSet_tr] at h'
  have k := k H locs ls' hP hS h'
  replace e' : storeLocals ls (n : Nat) (Value.ref (E.1 z)) = some ls' := e'
  show W p l e R s m args below meth c H locs cells slots Q (F0 m pc ls (Value.ref (E.1 z) :: st.map (fnTr E)))
  intro T hT X
  obtain ⟨t, a, b⟩ := k T hT X
  refine ⟨t, ?_, b⟩
  jvm_step X.here [X.here.top, ↓top_set X.here.top, hx, hb, hd, e']
  exact ⟨rfl, a⟩

theorem fn_iincG {E : fnE} {own : String} {cc : ByteArray} {nL fr lo : Nat} {V : fnV} (h : fnCx E own cc nL fr lo V) {pc nx : Nat} {lv st : List Value} {σ : fnMem} {i : Nat} {d z : Int} (hd : fnD cc pc (.iinc i d) 3 nx) (hz : lv[i]? = some (zI z)) (hi : Nat.ble (i + 1) nL = true) (hp : ∀ j w, i = j + 1 → lv[j]? = some w → fnC1 w = true) (k : V nx (lv.set i (zI (z + d))) st σ) : V pc lv st σ := by
  obtain ⟨p, l, e, R, s, m, args, below, meth, c, A, cells, slots, Q, ⟨hx, hb, hml, hown, hts⟩, hK, hD, hA, hZ, hT, hN, ⟨r1, r2, r3, r4⟩, rfl⟩ := h
  obtain ⟨hd, rfl⟩ := hd
  intro H locs ls hP hS hl
  have hg : ls[i]? = some (.val (.int (Int32.ofInt z))) := hl.2.2 i (fnTr E (zI z)) (by rw [List.getElem?_map, hz]; rfl) (fun q => by cases q)
  obtain ⟨ls', e', h'⟩ := hl.st1 (v := fnTr E (zI (z + d))) (Nat.le_of_ble_eq_true hi) rfl (fnPrev hp)
  rw [fnSet_tr] at h'
  have k := k H locs ls' hP hS h'
  replace e' : storeLocals ls i (.int (Int32.ofInt z + Int32.ofInt d)) = some ls' := by rw [← Int32.ofInt_add]; exact e'
  intro T hT X
  obtain ⟨t, a, b⟩ := k T hT X
  refine ⟨t, ?_, b⟩
  jvm_step X.here [X.here.top, ↓top_set X.here.top, hx, hb, hd, hg, e']
  exact a

theorem fn_iload_0 {E : fnE} {own : String} {cc : ByteArray} {nL fr lo : Nat} {V : fnV} (h : fnCx E own cc nL fr lo V) {pc nx : Nat} {t st : List Value} {σ : fnMem} {z : Int} (hd : fnD cc pc (.iload_n 0) 1 nx) (k : V nx (zI z :: t) (zI z :: st) σ) : V pc (zI z :: t) st σ := fn_iloadN h hd (i := 0) rfl rfl k

theorem fn_lload_0 {E : fnE} {own : String} {cc : ByteArray} {nL fr lo : Nat} {V : fnV} (h : fnCx E own cc nL fr lo V) {pc nx : Nat} {t st : List Value} {σ : fnMem} {z : Int} (hd : fnD cc pc (.lload_n 0) 1 nx) (k : V nx (zL z :: t) (zL z :: st) σ) : V pc (zL z :: t) st σ := fn_lloadN h hd (i := 0) rfl rfl k

theorem fn_aload_0 {E : fnE} {own : String} {cc : ByteArray} {nL fr lo : Nat} {V : fnV} (h : fnCx E own cc nL fr lo V) {pc nx : Nat} {t st : List Value} {σ : fnMem} {z : Nat} (hd : fnD cc pc (.aload_n 0) 1 nx) (k : V nx (.ref z :: t) (.ref z :: st) σ) : V pc (.ref z :: t) st σ := fn_aloadN h hd (i := 0) rfl rfl k

theorem fn_istore_0 {E : fnE} {own : String} {cc : ByteArray} {nL fr lo : Nat} {V : fnV} (h : fnCx E own cc nL fr lo V) {pc nx : Nat} {t st : List Value} {σ : fnMem} {b : Value} {z : Int} (hd : fnD cc pc (.istore_n 0) 1 nx) (hi : Nat.ble 1 nL = true)  (k : V nx (zI z :: t) st σ) : V pc (b :: t) (zI z :: st) σ := fn_istoreN h hd (i := 0) rfl hi (fun j w e q => by cases e) k

theorem fn_lstore_0 {E : fnE} {own : String} {cc : ByteArray} {nL fr lo : Nat} {V : fnV} (h : fnCx E own cc nL fr lo V) {pc nx : Nat} {t st : List Value} {σ : fnMem} {b b2 : Value} {z : Int} (hd : fnD cc pc (.lstore_n 0) 1 nx) (hi : Nat.ble 2 nL = true)  (k : V nx (zL z :: .null :: t) st σ) : V pc (b :: b2 :: t) (zL z :: st) σ := fn_lstoreN h hd (i := 0) rfl hi (fun j w e q => by cases e) k

theorem fn_astore_0 {E : fnE} {own : String} {cc : ByteArray} {nL fr lo : Nat} {V : fnV} (h : fnCx E own cc nL fr lo V) {pc nx : Nat} {t st : List Value} {σ : fnMem} {b : Value} {z : Nat} (hd : fnD cc pc (.astore_n 0) 1 nx) (hi : Nat.ble 1 nL = true)  (k : V nx (.ref z :: t) st σ) : V pc (b :: t) (.ref z :: st) σ := fn_astoreN h hd (i := 0) rfl hi (fun j w e q => by cases e) k

theorem fn_iinc_0 {E : fnE} {own : String} {cc : ByteArray} {nL fr lo : Nat} {V : fnV} (h : fnCx E own cc nL fr lo V) {pc nx : Nat} {t st : List Value} {σ : fnMem} {d z : Int} (hd : fnD cc pc (.iinc 0 d) 3 nx) (hi : Nat.ble 1 nL = true)  (k : V nx (zI (z + d) :: t) st σ) : V pc (zI z :: t) st σ := fn_iincG h hd (i := 0) rfl hi (fun j w e q => by cases e) k

theorem fn_iload_1 {E : fnE} {own : String} {cc : ByteArray} {nL fr lo : Nat} {V : fnV} (h : fnCx E own cc nL fr lo V) {pc nx : Nat} {t st : List Value} {σ : fnMem} {a0 : Value} {z : Int} (hd : fnD cc pc (.iload_n 1) 1 nx) (k : V nx (a0 :: zI z :: t) (zI z :: st) σ) : V pc (a0 :: zI z :: t) st σ := fn_iloadN h hd (i := 1) rfl rfl k

theorem fn_lload_1 {E : fnE} {own : String} {cc : ByteArray} {nL fr lo : Nat} {V : fnV} (h : fnCx E own cc nL fr lo V) {pc nx : Nat} {t st : List Value} {σ : fnMem} {a0 : Value} {z : Int} (hd : fnD cc pc (.lload_n 1) 1 nx) (k : V nx (a0 :: zL z :: t) (zL z :: st) σ) : V pc (a0 :: zL z :: t) st σ := fn_lloadN h hd (i := 1) rfl rfl k

theorem fn_aload_1 {E : fnE} {own : String} {cc : ByteArray} {nL fr lo : Nat} {V : fnV} (h : fnCx E own cc nL fr lo V) {pc nx : Nat} {t st : List Value} {σ : fnMem} {a0 : Value} {z : Nat} (hd : fnD cc pc (.aload_n 1) 1 nx) (k : V nx (a0 :: .ref z :: t) (.ref z :: st) σ) : V pc (a0 :: .ref z :: t) st σ := fn_aloadN h hd (i := 1) rfl rfl k

theorem fn_istore_1 {E : fnE} {own : String} {cc : ByteArray} {nL fr lo : Nat} {V : fnV} (h : fnCx E own cc nL fr lo V) {pc nx : Nat} {t st : List Value} {σ : fnMem} {a0 : Value} {b : Value} {z : Int} (hd : fnD cc pc (.istore_n 1) 1 nx) (hi : Nat.ble 2 nL = true) (hp : fnC1 a0 = true) (k : V nx (a0 :: zI z :: t) st σ) : V pc (a0 :: b :: t) (zI z :: st) σ := fn_istoreN h hd (i := 1) rfl hi (fun j w e q => by cases e; cases q; exact hp) k

theorem fn_lstore_1 {E : fnE} {own : String} {cc : ByteArray} {nL fr lo : Nat} {V : fnV} (h : fnCx E own cc nL fr lo V) {pc nx : Nat} {t st : List Value} {σ : fnMem} {a0 : Value} {b b2 : Value} {z : Int} (hd : fnD cc pc (.lstore_n 1) 1 nx) (hi : Nat.ble 3 nL = true) (hp : fnC1 a0 = true) (k : V nx (a0 :: zL z :: .null :: t) st σ) : V pc (a0 :: b :: b2 :: t) (zL z :: st) σ := fn_lstoreN h hd (i := 1) rfl hi (fun j w e q => by cases e; cases q; exact hp) k

theorem fn_astore_1 {E : fnE} {own : String} {cc : ByteArray} {nL fr lo : Nat} {V : fnV} (h : fnCx E own cc nL fr lo V) {pc nx : Nat} {t st : List Value} {σ : fnMem} {a0 : Value} {b : Value} {z : Nat} (hd : fnD cc pc (.astore_n 1) 1 nx) (hi : Nat.ble 2 nL = true) (hp : fnC1 a0 = true) (k : V nx (a0 :: .ref z :: t) st σ) : V pc (a0 :: b :: t) (.ref z :: st) σ := fn_astoreN h hd (i := 1) rfl hi (fun j w e q => by cases e; cases q; exact hp) k

theorem fn_iinc_1 {E : fnE} {own : String} {cc : ByteArray} {nL fr lo : Nat} {V : fnV} (h : fnCx E own cc nL fr lo V) {pc nx : Nat} {t st : List Value} {σ : fnMem} {a0 : Value} {d z : Int} (hd : fnD cc pc (.iinc 1 d) 3 nx) (hi : Nat.ble 2 nL = true) (hp : fnC1 a0 = true) (k : V nx (a0 :: zI (z + d) :: t) st σ) : V pc (a0 :: zI z :: t) st σ := fn_iincG h hd (i := 1) rfl hi (fun j w e q => by cases e; cases q; exact hp) k

theorem fn_iload_2 {E : fnE} {own : String} {cc : ByteArray} {nL fr lo : Nat} {V : fnV} (h : fnCx E own cc nL fr lo V) {pc nx : Nat} {t st : List Value} {σ : fnMem} {a0 a1 : Value} {z : Int} (hd : fnD cc pc (.iload_n 2) 1 nx) (k : V nx (a0 :: a1 :: zI z :: t) (zI z :: st) σ) : V pc (a0 :: a1 :: zI z :: t) st σ := fn_iloadN h hd (i := 2) rfl rfl k

theorem fn_lload_2 {E : fnE} {own : String} {cc : ByteArray} {nL fr lo : Nat} {V : fnV} (h : fnCx E own cc nL fr lo V) {pc nx : Nat} {t st : List Value} {σ : fnMem} {a0 a1 : Value} {z : Int} (hd : fnD cc pc (.lload_n 2) 1 nx) (k : V nx (a0 :: a1 :: zL z :: t) (zL z :: st) σ) : V pc (a0 :: a1 :: zL z :: t) st σ := fn_lloadN h hd (i := 2) rfl rfl k

theorem fn_aload_2 {E : fnE} {own : String} {cc : ByteArray} {nL fr lo : Nat} {V : fnV} (h : fnCx E own cc nL fr lo V) {pc nx : Nat} {t st : List Value} {σ : fnMem} {a0 a1 : Value} {z : Nat} (hd : fnD cc pc (.aload_n 2) 1 nx) (k : V nx (a0 :: a1 :: .ref z :: t) (.ref z :: st) σ) : V pc (a0 :: a1 :: .ref z :: t) st σ := fn_aloadN h hd (i := 2) rfl rfl k

theorem fn_istore_2 {E : fnE} {own : String} {cc : ByteArray} {nL fr lo : Nat} {V : fnV} (h : fnCx E own cc nL fr lo V) {pc nx : Nat} {t st : List Value} {σ : fnMem} {a0 a1 : Value} {b : Value} {z : Int} (hd : fnD cc pc (.istore_n 2) 1 nx) (hi : Nat.ble 3 nL = true) (hp : fnC1 a1 = true) (k : V nx (a0 :: a1 :: zI z :: t) st σ) : V pc (a0 :: a1 :: b :: t) (zI z :: st) σ := fn_istoreN h hd (i := 2) rfl hi (fun j w e q => by cases e; cases q; exact hp) k

theorem fn_lstore_2 {E : fnE} {own : String} {cc : ByteArray} {nL fr lo : Nat} {V : fnV} (h : fnCx E own cc nL fr lo V) {pc nx : Nat} {t st : List Value} {σ : fnMem} {a0 a1 : Value} {b b2 : Value} {z : Int} (hd : fnD cc pc (.lstore_n 2) 1 nx) (hi : Nat.ble 4 nL = true) (hp : fnC1 a1 = true) (k : V nx (a0 :: a1 :: zL z :: .null :: t) st σ) : V pc (a0 :: a1 :: b :: b2 :: t) (zL z :: st) σ := fn_lstoreN h hd (i := 2) rfl hi (fun j w e q => by cases e; cases q; exact hp) k

theorem fn_astore_2 {E : fnE} {own : String} {cc : ByteArray} {nL fr lo : Nat} {V : fnV} (h : fnCx E own cc nL fr lo V) {pc nx : Nat} {t st : List Value} {σ : fnMem} {a0 a1 : Value} {b : Value} {z : Nat} (hd : fnD cc pc (.astore_n 2) 1 nx) (hi : Nat.ble 3 nL = true) (hp : fnC1 a1 = true) (k : V nx (a0 :: a1 :: .ref z :: t) st σ) : V pc (a0 :: a1 :: b :: t) (.ref z :: st) σ := fn_astoreN h hd (i := 2) rfl hi (fun j w e q => by cases e; cases q; exact hp) k

theorem fn_iinc_2 {E : fnE} {own : String} {cc : ByteArray} {nL fr lo : Nat} {V : fnV} (h : fnCx E own cc nL fr lo V) {pc nx : Nat} {t st : List Value} {σ : fnMem} {a0 a1 : Value} {d z : Int} (hd : fnD cc pc (.iinc 2 d) 3 nx) (hi : Nat.ble 3 nL = true) (hp : fnC1 a1 = true) (k : V nx (a0 :: a1 :: zI (z + d) :: t) st σ) : V pc (a0 :: a1 :: zI z :: t) st σ := fn_iincG h hd (i := 2) rfl hi (fun j w e q => by cases e; cases q; exact hp) k

theorem fn_iload_3 {E : fnE} {own : String} {cc : ByteArray} {nL fr lo : Nat} {V : fnV} (h : fnCx E own cc nL fr lo V) {pc nx : Nat} {t st : List Value} {σ : fnMem} {a0 a1 a2 : Value} {z : Int} (hd : fnD cc pc (.iload_n 3) 1 nx) (k : V nx (a0 :: a1 :: a2 :: zI z :: t) (zI z :: st) σ) : V pc (a0 :: a1 :: a2 :: zI z :: t) st σ := fn_iloadN h hd (i := 3) rfl rfl k

theorem fn_lload_3 {E : fnE} {own : String} {cc : ByteArray} {nL fr lo : Nat} {V : fnV} (h : fnCx E own cc nL fr lo V) {pc nx : Nat} {t st : List Value} {σ : fnMem} {a0 a1 a2 : Value} {z : Int} (hd : fnD cc pc (.lload_n 3) 1 nx) (k : V nx (a0 :: a1 :: a2 :: zL z :: t) (zL z :: st) σ) : V pc (a0 :: a1 :: a2 :: zL z :: t) st σ := fn_lloadN h hd (i := 3) rfl rfl k

theorem fn_aload_3 {E : fnE} {own : String} {cc : ByteArray} {nL fr lo : Nat} {V : fnV} (h : fnCx E own cc nL fr lo V) {pc nx : Nat} {t st : List Value} {σ : fnMem} {a0 a1 a2 : Value} {z : Nat} (hd : fnD cc pc (.aload_n 3) 1 nx) (k : V nx (a0 :: a1 :: a2 :: .ref z :: t) (.ref z :: st) σ) : V pc (a0 :: a1 :: a2 :: .ref z :: t) st σ := fn_aloadN h hd (i := 3) rfl rfl k

theorem fn_istore_3 {E : fnE} {own : String} {cc : ByteArray} {nL fr lo : Nat} {V : fnV} (h : fnCx E own cc nL fr lo V) {pc nx : Nat} {t st : List Value} {σ : fnMem} {a0 a1 a2 : Value} {b : Value} {z : Int} (hd : fnD cc pc (.istore_n 3) 1 nx) (hi : Nat.ble 4 nL = true) (hp : fnC1 a2 = true) (k : V nx (a0 :: a1 :: a2 :: zI z :: t) st σ) : V pc (a0 :: a1 :: a2 :: b :: t) (zI z :: st) σ := fn_istoreN h hd (i := 3) rfl hi (fun j w e q => by cases e; cases q; exact hp) k

theorem fn_lstore_3 {E : fnE} {own : String} {cc : ByteArray} {nL fr lo : Nat} {V : fnV} (h : fnCx E own cc nL fr lo V) {pc nx : Nat} {t st : List Value} {σ : fnMem} {a0 a1 a2 : Value} {b b2 : Value} {z : Int} (hd : fnD cc pc (.lstore_n 3) 1 nx) (hi : Nat.ble 5 nL = true) (hp : fnC1 a2 = true) (k : V nx (a0 :: a1 :: a2 :: zL z :: .null :: t) st σ) : V pc (a0 :: a1 :: a2 :: b :: b2 :: t) (zL z :: st) σ := fn_lstoreN h hd (i := 3) rfl hi (fun j w e q => by cases e; cases q; exact hp) k

theorem fn_astore_3 {E : fnE} {own : String} {cc : ByteArray} {nL fr lo : Nat} {V : fnV} (h : fnCx E own cc nL fr lo V) {pc nx : Nat} {t st : List Value} {σ : fnMem} {a0 a1 a2 : Value} {b : Value} {z : Nat} (hd : fnD cc pc (.astore_n 3) 1 nx) (hi : Nat.ble 4 nL = true) (hp : fnC1 a2 = true) (k : V nx (a0 :: a1 :: a2 :: .ref z :: t) st σ) : V pc (a0 :: a1 :: a2 :: b :: t) (.ref z :: st) σ := fn_astoreN h hd (i := 3) rfl hi (fun j w e q => by cases e; cases q; exact hp) k

theorem fn_iinc_3 {E : fnE} {own : String} {cc : ByteArray} {nL fr lo : Nat} {V : fnV} (h : fnCx E own cc nL fr lo V) {pc nx : Nat} {t st : List Value} {σ : fnMem} {a0 a1 a2 : Value} {d z : Int} (hd : fnD cc pc (.iinc 3 d) 3 nx) (hi : Nat.ble 4 nL = true) (hp : fnC1 a2 = true) (k : V nx (a0 :: a1 :: a2 :: zI (z + d) :: t) st σ) : V pc (a0 :: a1 :: a2 :: zI z :: t) st σ := fn_iincG h hd (i := 3) rfl hi (fun j w e q => by cases e; cases q; exact hp) k

theorem fn_iload_4 {E : fnE} {own : String} {cc : ByteArray} {nL fr lo : Nat} {V : fnV} (h : fnCx E own cc nL fr lo V) {pc nx : Nat} {t st : List Value} {σ : fnMem} {a0 a1 a2 a3 : Value} {z : Int} (hd : fnD cc pc (.iload 4) 2 nx) (k : V nx (a0 :: a1 :: a2 :: a3 :: zI z :: t) (zI z :: st) σ) : V pc (a0 :: a1 :: a2 :: a3 :: zI z :: t) st σ := fn_iloadG h hd (i := 4) rfl k

theorem fn_lload_4 {E : fnE} {own : String} {cc : ByteArray} {nL fr lo : Nat} {V : fnV} (h : fnCx E own cc nL fr lo V) {pc nx : Nat} {t st : List Value} {σ : fnMem} {a0 a1 a2 a3 : Value} {z : Int} (hd : fnD cc pc (.lload 4) 2 nx) (k : V nx (a0 :: a1 :: a2 :: a3 :: zL z :: t) (zL z :: st) σ) : V pc (a0 :: a1 :: a2 :: a3 :: zL z :: t) st σ := fn_lloadG h hd (i := 4) rfl k

theorem fn_aload_4 {E : fnE} {own : String} {cc : ByteArray} {nL fr lo : Nat} {V : fnV} (h : fnCx E own cc nL fr lo V) {pc nx : Nat} {t st : List Value} {σ : fnMem} {a0 a1 a2 a3 : Value} {z : Nat} (hd : fnD cc pc (.aload 4) 2 nx) (k : V nx (a0 :: a1 :: a2 :: a3 :: .ref z :: t) (.ref z :: st) σ) : V pc (a0 :: a1 :: a2 :: a3 :: .ref z :: t) st σ := fn_aloadG h hd (i := 4) rfl k

theorem fn_istore_4 {E : fnE} {own : String} {cc : ByteArray} {nL fr lo : Nat} {V : fnV} (h : fnCx E own cc nL fr lo V) {pc nx : Nat} {t st : List Value} {σ : fnMem} {a0 a1 a2 a3 : Value} {b : Value} {z : Int} (hd : fnD cc pc (.istore 4) 2 nx) (hi : Nat.ble 5 nL = true) (hp : fnC1 a3 = true) (k : V nx (a0 :: a1 :: a2 :: a3 :: zI z :: t) st σ) : V pc (a0 :: a1 :: a2 :: a3 :: b :: t) (zI z :: st) σ := fn_istoreG h hd (i := 4) hi (fun j w e q => by cases e; cases q; exact hp) k

theorem fn_lstore_4 {E : fnE} {own : String} {cc : ByteArray} {nL fr lo : Nat} {V : fnV} (h : fnCx E own cc nL fr lo V) {pc nx : Nat} {t st : List Value} {σ : fnMem} {a0 a1 a2 a3 : Value} {b b2 : Value} {z : Int} (hd : fnD cc pc (.lstore 4) 2 nx) (hi : Nat.ble 6 nL = true) (hp : fnC1 a3 = true) (k : V nx (a0 :: a1 :: a2 :: a3 :: zL z :: .null :: t) st σ) : V pc (a0 :: a1 :: a2 :: a3 :: b :: b2 :: t) (zL z :: st) σ := fn_lstoreG h hd (i := 4) hi (fun j w e q => by cases e; cases q; exact hp) k

theorem fn_astore_4 {E : fnE} {own : String} {cc : ByteArray} {nL fr lo : Nat} {V : fnV} (h : fnCx E own cc nL fr lo V) {pc nx : Nat} {t st : List Value} {σ : fnMem} {a0 a1 a2 a3 : Value} {b : Value} {z : Nat} (hd : fnD cc pc (.astore 4) 2 nx) (hi : Nat.ble 5 nL = true) (hp : fnC1 a3 = true) (k : V nx (a0 :: a1 :: a2 :: a3 :: .ref z :: t) st σ) : V pc (a0 :: a1 :: a2 :: a3 :: b :: t) (.ref z :: st) σ := fn_astoreG h hd (i := 4) hi (fun j w e q => by cases e; cases q; exact hp) k

theorem fn_iinc_4 {E : fnE} {own : String} {cc : ByteArray} {nL fr lo : Nat} {V : fnV} (h : fnCx E own cc nL fr lo V) {pc nx : Nat} {t st : List Value} {σ : fnMem} {a0 a1 a2 a3 : Value} {d z : Int} (hd : fnD cc pc (.iinc 4 d) 3 nx) (hi : Nat.ble 5 nL = true) (hp : fnC1 a3 = true) (k : V nx (a0 :: a1 :: a2 :: a3 :: zI (z + d) :: t) st σ) : V pc (a0 :: a1 :: a2 :: a3 :: zI z :: t) st σ := fn_iincG h hd (i := 4) rfl hi (fun j w e q => by cases e; cases q; exact hp) k

theorem fn_iload_5 {E : fnE} {own : String} {cc : ByteArray} {nL fr lo : Nat} {V : fnV} (h : fnCx E own cc nL fr lo V) {pc nx : Nat} {t st : List Value} {σ : fnMem} {a0 a1 a2 a3 a4 : Value} {z : Int} (hd : fnD cc pc (.iload 5) 2 nx) (k : V nx (a0 :: a1 :: a2 :: a3 :: a4 :: zI z :: t) (zI z :: st) σ) : V pc (a0 :: a1 :: a2 :: a3 :: a4 :: zI z :: t) st σ := fn_iloadG h hd (i := 5) rfl k

theorem fn_lload_5 {E : fnE} {own : String} {cc : ByteArray} {nL fr lo : Nat} {V : fnV} (h : fnCx E own cc nL fr lo V) {pc nx : Nat} {t st : List Value} {σ : fnMem} {a0 a1 a2 a3 a4 : Value} {z : Int} (hd : fnD cc pc (.lload 5) 2 nx) (k : V nx (a0 :: a1 :: a2 :: a3 :: a4 :: zL z :: t) (zL z :: st) σ) : V pc (a0 :: a1 :: a2 :: a3 :: a4 :: zL z :: t) st σ := fn_lloadG h hd (i := 5) rfl k

theorem fn_aload_5 {E : fnE} {own : String} {cc : ByteArray} {nL fr lo : Nat} {V : fnV} (h : fnCx E own cc nL fr lo V) {pc nx : Nat} {t st : List Value} {σ : fnMem} {a0 a1 a2 a3 a4 : Value} {z : Nat} (hd : fnD cc pc (.aload 5) 2 nx) (k : V nx (a0 :: a1 :: a2 :: a3 :: a4 :: .ref z :: t) (.ref z :: st) σ) : V pc (a0 :: a1 :: a2 :: a3 :: a4 :: .ref z :: t) st σ := fn_aloadG h hd (i := 5) rfl k

theorem fn_istore_5 {E : fnE} {own : String} {cc : ByteArray} {nL fr lo : Nat} {V : fnV} (h : fnCx E own cc nL fr lo V) {pc nx : Nat} {t st : List Value} {σ : fnMem} {a0 a1 a2 a3 a4 : Value} {b : Value} {z : Int} (hd : fnD cc pc (.istore 5) 2 nx) (hi : Nat.ble 6 nL = true) (hp : fnC1 a4 = true) (k : V nx (a0 :: a1 :: a2 :: a3 :: a4 :: zI z :: t) st σ) : V pc (a0 :: a1 :: a2 :: a3 :: a4 :: b :: t) (zI z :: st) σ := fn_istoreG h hd (i := 5) hi (fun j w e q => by cases e; cases q; exact hp) k

theorem fn_lstore_5 {E : fnE} {own : String} {cc : ByteArray} {nL fr lo : Nat} {V : fnV} (h : fnCx E own cc nL fr lo V) {pc nx : Nat} {t st : List Value} {σ : fnMem} {a0 a1 a2 a3 a4 : Value} {b b2 : Value} {z : Int} (hd : fnD cc pc (.lstore 5) 2 nx) (hi : Nat.ble 7 nL = true) (hp : fnC1 a4 = true) (k : V nx (a0 :: a1 :: a2 :: a3 :: a4 :: zL z :: .null :: t) st σ) : V pc (a0 :: a1 :: a2 :: a3 :: a4 :: b :: b2 :: t) (zL z :: st) σ := fn_lstoreG h hd (i := 5) hi (fun j w e q => by cases e; cases q; exact hp) k

theorem fn_astore_5 {E : fnE} {own : String} {cc : ByteArray} {nL fr lo : Nat} {V : fnV} (h : fnCx E own cc nL fr lo V) {pc nx : Nat} {t st : List Value} {σ : fnMem} {a0 a1 a2 a3 a4 : Value} {b : Value} {z : Nat} (hd : fnD cc pc (.astore 5) 2 nx) (hi : Nat.ble 6 nL = true) (hp : fnC1 a4 = true) (k : V nx (a0 :: a1 :: a2 :: a3 :: a4 :: .ref z :: t) st σ) : V pc (a0 :: a1 :: a2 :: a3 :: a4 :: b :: t) (.ref z :: st) σ := fn_astoreG h hd (i := 5) hi (fun j w e q => by cases e; cases q; exact hp) k

theorem fn_iinc_5 {E : fnE} {own : String} {cc : ByteArray} {nL fr lo : Nat} {V : fnV} (h : fnCx E own cc nL fr lo V) {pc nx : Nat} {t st : List Value} {σ : fnMem} {a0 a1 a2 a3 a4 : Value} {d z : Int} (hd : fnD cc pc (.iinc 5 d) 3 nx) (hi : Nat.ble 6 nL = true) (hp : fnC1 a4 = true) (k : V nx (a0 :: a1 :: a2 :: a3 :: a4 :: zI (z + d) :: t) st σ) : V pc (a0 :: a1 :: a2 :: a3 :: a4 :: zI z :: t) st σ := fn_iincG h hd (i := 5) rfl hi (fun j w e q => by cases e; cases q; exact hp) k

theorem fn_iload_6 {E : fnE} {own : String} {cc : ByteArray} {nL fr lo : Nat} {V : fnV} (h : fnCx E own cc nL fr lo V) {pc nx : Nat} {t st : List Value} {σ : fnMem} {a0 a1 a2 a3 a4 a5 : Value} {z : Int} (hd : fnD cc pc (.iload 6) 2 nx) (k : V nx (a0 :: a1 :: a2 :: a3 :: a4 :: a5 :: zI z :: t) (zI z :: st) σ) : V pc (a0 :: a1 :: a2 :: a3 :: a4 :: a5 :: zI z :: t) st σ := fn_iloadG h hd (i := 6) rfl k

theorem fn_lload_6 {E : fnE} {own : String} {cc : ByteArray} {nL fr lo : Nat} {V : fnV} (h : fnCx E own cc nL fr lo V) {pc nx : Nat} {t st : List Value} {σ : fnMem} {a0 a1 a2 a3 a4 a5 : Value} {z : Int} (hd : fnD cc pc (.lload 6) 2 nx) (k : V nx (a0 :: a1 :: a2 :: a3 :: a4 :: a5 :: zL z :: t) (zL z :: st) σ) : V pc (a0 :: a1 :: a2 :: a3 :: a4 :: a5 :: zL z :: t) st σ := fn_lloadG h hd (i := 6) rfl k

theorem fn_aload_6 {E : fnE} {own : String} {cc : ByteArray} {nL fr lo : Nat} {V : fnV} (h : fnCx E own cc nL fr lo V) {pc nx : Nat} {t st : List Value} {σ : fnMem} {a0 a1 a2 a3 a4 a5 : Value} {z : Nat} (hd : fnD cc pc (.aload 6) 2 nx) (k : V nx (a0 :: a1 :: a2 :: a3 :: a4 :: a5 :: .ref z :: t) (.ref z :: st) σ) : V pc (a0 :: a1 :: a2 :: a3 :: a4 :: a5 :: .ref z :: t) st σ := fn_aloadG h hd (i := 6) rfl k

theorem fn_istore_6 {E : fnE} {own : String} {cc : ByteArray} {nL fr lo : Nat} {V : fnV} (h : fnCx E own cc nL fr lo V) {pc nx : Nat} {t st : List Value} {σ : fnMem} {a0 a1 a2 a3 a4 a5 : Value} {b : Value} {z : Int} (hd : fnD cc pc (.istore 6) 2 nx) (hi : Nat.ble 7 nL = true) (hp : fnC1 a5 = true) (k : V nx (a0 :: a1 :: a2 :: a3 :: a4 :: a5 :: zI z :: t) st σ) : V pc (a0 :: a1 :: a2 :: a3 :: a4 :: a5 :: b :: t) (zI z :: st) σ := fn_istoreG h hd (i := 6) hi (fun j w e q => by cases e; cases q; exact hp) k

theorem fn_lstore_6 {E : fnE} {own : String} {cc : ByteArray} {nL fr lo : Nat} {V : fnV} (h : fnCx E own cc nL fr lo V) {pc nx : Nat} {t st : List Value} {σ : fnMem} {a0 a1 a2 a3 a4 a5 : Value} {b b2 : Value} {z : Int} (hd : fnD cc pc (.lstore 6) 2 nx) (hi : Nat.ble 8 nL = true) (hp : fnC1 a5 = true) (k : V nx (a0 :: a1 :: a2 :: a3 :: a4 :: a5 :: zL z :: .null :: t) st σ) : V pc (a0 :: a1 :: a2 :: a3 :: a4 :: a5 :: b :: b2 :: t) (zL z :: st) σ := fn_lstoreG h hd (i := 6) hi (fun j w e q => by cases e; cases q; exact hp) k

theorem fn_astore_6 {E : fnE} {own : String} {cc : ByteArray} {nL fr lo : Nat} {V : fnV} (h : fnCx E own cc nL fr lo V) {pc nx : Nat} {t st : List Value} {σ : fnMem} {a0 a1 a2 a3 a4 a5 : Value} {b : Value} {z : Nat} (hd : fnD cc pc (.astore 6) 2 nx) (hi : Nat.ble 7 nL = true) (hp : fnC1 a5 = true) (k : V nx (a0 :: a1 :: a2 :: a3 :: a4 :: a5 :: .ref z :: t) st σ) : V pc (a0 :: a1 :: a2 :: a3 :: a4 :: a5 :: b :: t) (.ref z :: st) σ := fn_astoreG h hd (i := 6) hi (fun j w e q => by cases e; cases q; exact hp) k

theorem fn_iinc_6 {E : fnE} {own : String} {cc : ByteArray} {nL fr lo : Nat} {V : fnV} (h : fnCx E own cc nL fr lo V) {pc nx : Nat} {t st : List Value} {σ : fnMem} {a0 a1 a2 a3 a4 a5 : Value} {d z : Int} (hd : fnD cc pc (.iinc 6 d) 3 nx) (hi : Nat.ble 7 nL = true) (hp : fnC1 a5 = true) (k : V nx (a0 :: a1 :: a2 :: a3 :: a4 :: a5 :: zI (z + d) :: t) st σ) : V pc (a0 :: a1 :: a2 :: a3 :: a4 :: a5 :: zI z :: t) st σ := fn_iincG h hd (i := 6) rfl hi (fun j w e q => by cases e; cases q; exact hp) k

theorem fn_iload_7 {E : fnE} {own : String} {cc : ByteArray} {nL fr lo : Nat} {V : fnV} (h : fnCx E own cc nL fr lo V) {pc nx : Nat} {t st : List Value} {σ : fnMem} {a0 a1 a2 a3 a4 a5 a6 : Value} {z : Int} (hd : fnD cc pc (.iload 7) 2 nx) (k : V nx (a0 :: a1 :: a2 :: a3 :: a4 :: a5 :: a6 :: zI z :: t) (zI z :: st) σ) : V pc (a0 :: a1 :: a2 :: a3 :: a4 :: a5 :: a6 :: zI z :: t) st σ := fn_iloadG h hd (i := 7) rfl k

theorem fn_lload_7 {E : fnE} {own : String} {cc : ByteArray} {nL fr lo : Nat} {V : fnV} (h : fnCx E own cc nL fr lo V) {pc nx : Nat} {t st : List Value} {σ : fnMem} {a0 a1 a2 a3 a4 a5 a6 : Value} {z : Int} (hd : fnD cc pc (.lload 7) 2 nx) (k : V nx (a0 :: a1 :: a2 :: a3 :: a4 :: a5 :: a6 :: zL z :: t) (zL z :: st) σ) : V pc (a0 :: a1 :: a2 :: a3 :: a4 :: a5 :: a6 :: zL z :: t) st σ := fn_lloadG h hd (i := 7) rfl k

theorem fn_aload_7 {E : fnE} {own : String} {cc : ByteArray} {nL fr lo : Nat} {V : fnV} (h : fnCx E own cc nL fr lo V) {pc nx : Nat} {t st : List Value} {σ : fnMem} {a0 a1 a2 a3 a4 a5 a6 : Value} {z : Nat} (hd : fnD cc pc (.aload 7) 2 nx) (k : V nx (a0 :: a1 :: a2 :: a3 :: a4 :: a5 :: a6 :: .ref z :: t) (.ref z :: st) σ) : V pc (a0 :: a1 :: a2 :: a3 :: a4 :: a5 :: a6 :: .ref z :: t) st σ := fn_aloadG h hd (i := 7) rfl k

theorem fn_istore_7 {E : fnE} {own : String} {cc : ByteArray} {nL fr lo : Nat} {V : fnV} (h : fnCx E own cc nL fr lo V) {pc nx : Nat} {t st : List Value} {σ : fnMem} {a0 a1 a2 a3 a4 a5 a6 : Value} {b : Value} {z : Int} (hd : fnD cc pc (.istore 7) 2 nx) (hi : Nat.ble 8 nL = true) (hp : fnC1 a6 = true) (k : V nx (a0 :: a1 :: a2 :: a3 :: a4 :: a5 :: a6 :: zI z :: t) st σ) : V pc (a0 :: a1 :: a2 :: a3 :: a4 :: a5 :: a6 :: b :: t) (zI z :: st) σ := fn_istoreG h hd (i := 7) hi (fun j w e q => by cases e; cases q; exact hp) k

theorem fn_lstore_7 {E : fnE} {own : String} {cc : ByteArray} {nL fr lo : Nat} {V : fnV} (h : fnCx E own cc nL fr lo V) {pc nx : Nat} {t st : List Value} {σ : fnMem} {a0 a1 a2 a3 a4 a5 a6 : Value} {b b2 : Value} {z : Int} (hd : fnD cc pc (.lstore 7) 2 nx) (hi : Nat.ble 9 nL = true) (hp : fnC1 a6 = true) (k : V nx (a0 :: a1 :: a2 :: a3 :: a4 :: a5 :: a6 :: zL z :: .null :: t) st σ) : V pc (a0 :: a1 :: a2 :: a3 :: a4 :: a5 :: a6 :: b :: b2 :: t) (zL z :: st) σ := fn_lstoreG h hd (i := 7) hi (fun j w e q => by cases e; cases q; exact hp) k

theorem fn_astore_7 {E : fnE} {own : String} {cc : ByteArray} {nL fr lo : Nat} {V : fnV} (h : fnCx E own cc nL fr lo V) {pc nx : Nat} {t st : List Value} {σ : fnMem} {a0 a1 a2 a3 a4 a5 a6 : Value} {b : Value} {z : Nat} (hd : fnD cc pc (.astore 7) 2 nx) (hi : Nat.ble 8 nL = true) (hp : fnC1 a6 = true) (k : V nx (a0 :: a1 :: a2 :: a3 :: a4 :: a5 :: a6 :: .ref z :: t) st σ) : V pc (a0 :: a1 :: a2 :: a3 :: a4 :: a5 :: a6 :: b :: t) (.ref z :: st) σ := fn_astoreG h hd (i := 7) hi (fun j w e q => by cases e; cases q; exact hp) k

theorem fn_iinc_7 {E : fnE} {own : String} {cc : ByteArray} {nL fr lo : Nat} {V : fnV} (h : fnCx E own cc nL fr lo V) {pc nx : Nat} {t st : List Value} {σ : fnMem} {a0 a1 a2 a3 a4 a5 a6 : Value} {d z : Int} (hd : fnD cc pc (.iinc 7 d) 3 nx) (hi : Nat.ble 8 nL = true) (hp : fnC1 a6 = true) (k : V nx (a0 :: a1 :: a2 :: a3 :: a4 :: a5 :: a6 :: zI (z + d) :: t) st σ) : V pc (a0 :: a1 :: a2 :: a3 :: a4 :: a5 :: a6 :: zI z :: t) st σ := fn_iincG h hd (i := 7) rfl hi (fun j w e q => by cases e; cases q; exact hp) k

theorem fn_iload_8 {E : fnE} {own : String} {cc : ByteArray} {nL fr lo : Nat} {V : fnV} (h : fnCx E own cc nL fr lo V) {pc nx : Nat} {t st : List Value} {σ : fnMem} {a0 a1 a2 a3 a4 a5 a6 a7 : Value} {z : Int} (hd : fnD cc pc (.iload 8) 2 nx) (k : V nx (a0 :: a1 :: a2 :: a3 :: a4 :: a5 :: a6 :: a7 :: zI z :: t) (zI z :: st) σ) : V pc (a0 :: a1 :: a2 :: a3 :: a4 :: a5 :: a6 :: a7 :: zI z :: t) st σ := fn_iloadG h hd (i := 8) rfl k

theorem fn_lload_8 {E : fnE} {own : String} {cc : ByteArray} {nL fr lo : Nat} {V : fnV} (h : fnCx E own cc nL fr lo V) {pc nx : Nat} {t st : List Value} {σ : fnMem} {a0 a1 a2 a3 a4 a5 a6 a7 : Value} {z : Int} (hd : fnD cc pc (.lload 8) 2 nx) (k : V nx (a0 :: a1 :: a2 :: a3 :: a4 :: a5 :: a6 :: a7 :: zL z :: t) (zL z :: st) σ) : V pc (a0 :: a1 :: a2 :: a3 :: a4 :: a5 :: a6 :: a7 :: zL z :: t) st σ := fn_lloadG h hd (i := 8) rfl k

theorem fn_aload_8 {E : fnE} {own : String} {cc : ByteArray} {nL fr lo : Nat} {V : fnV} (h : fnCx E own cc nL fr lo V) {pc nx : Nat} {t st : List Value} {σ : fnMem} {a0 a1 a2 a3 a4 a5 a6 a7 : Value} {z : Nat} (hd : fnD cc pc (.aload 8) 2 nx) (k : V nx (a0 :: a1 :: a2 :: a3 :: a4 :: a5 :: a6 :: a7 :: .ref z :: t) (.ref z :: st) σ) : V pc (a0 :: a1 :: a2 :: a3 :: a4 :: a5 :: a6 :: a7 :: .ref z :: t) st σ := fn_aloadG h hd (i := 8) rfl k

theorem fn_istore_8 {E : fnE} {own : String} {cc : ByteArray} {nL fr lo : Nat} {V : fnV} (h : fnCx E own cc nL fr lo V) {pc nx : Nat} {t st : List Value} {σ : fnMem} {a0 a1 a2 a3 a4 a5 a6 a7 : Value} {b : Value} {z : Int} (hd : fnD cc pc (.istore 8) 2 nx) (hi : Nat.ble 9 nL = true) (hp : fnC1 a7 = true) (k : V nx (a0 :: a1 :: a2 :: a3 :: a4 :: a5 :: a6 :: a7 :: zI z :: t) st σ) : V pc (a0 :: a1 :: a2 :: a3 :: a4 :: a5 :: a6 :: a7 :: b :: t) (zI z :: st) σ := fn_istoreG h hd (i := 8) hi (fun j w e q => by cases e; cases q; exact hp) k

theorem fn_lstore_8 {E : fnE} {own : String} {cc : ByteArray} {nL fr lo : Nat} {V : fnV} (h : fnCx E own cc nL fr lo V) {pc nx : Nat} {t st : List Value} {σ : fnMem} {a0 a1 a2 a3 a4 a5 a6 a7 : Value} {b b2 : Value} {z : Int} (hd : fnD cc pc (.lstore 8) 2 nx) (hi : Nat.ble 10 nL = true) (hp : fnC1 a7 = true) (k : V nx (a0 :: a1 :: a2 :: a3 :: a4 :: a5 :: a6 :: a7 :: zL z :: .null :: t) st σ) : V pc (a0 :: a1 :: a2 :: a3 :: a4 :: a5 :: a6 :: a7 :: b :: b2 :: t) (zL z :: st) σ := fn_lstoreG h hd (i := 8) hi (fun j w e q => by cases e; cases q; exact hp) k

theorem fn_astore_8 {E : fnE} {own : String} {cc : ByteArray} {nL fr lo : Nat} {V : fnV} (h : fnCx E own cc nL fr lo V) {pc nx : Nat} {t st : List Value} {σ : fnMem} {a0 a1 a2 a3 a4 a5 a6 a7 : Value} {b : Value} {z : Nat} (hd : fnD cc pc (.astore 8) 2 nx) (hi : Nat.ble 9 nL = true) (hp : fnC1 a7 = true) (k : V nx (a0 :: a1 :: a2 :: a3 :: a4 :: a5 :: a6 :: a7 :: .ref z :: t) st σ) : V pc (a0 :: a1 :: a2 :: a3 :: a4 :: a5 :: a6 :: a7 :: b :: t) (.ref z :: st) σ := fn_astoreG h hd (i := 8) hi (fun j w e q => by cases e; cases q; exact hp) k

theorem fn_iinc_8 {E : fnE} {own : String} {cc : ByteArray} {nL fr lo : Nat} {V : fnV} (h : fnCx E own cc nL fr lo V) {pc nx : Nat} {t st : List Value} {σ : fnMem} {a0 a1 a2 a3 a4 a5 a6 a7 : Value} {d z : Int} (hd : fnD cc pc (.iinc 8 d) 3 nx) (hi : Nat.ble 9 nL = true) (hp : fnC1 a7 = true) (k : V nx (a0 :: a1 :: a2 :: a3 :: a4 :: a5 :: a6 :: a7 :: zI (z + d) :: t) st σ) : V pc (a0 :: a1 :: a2 :: a3 :: a4 :: a5 :: a6 :: a7 :: zI z :: t) st σ := fn_iincG h hd (i := 8) rfl hi (fun j w e q => by cases e; cases q; exact hp) k

theorem fn_iload_9 {E : fnE} {own : String} {cc : ByteArray} {nL fr lo : Nat} {V : fnV} (h : fnCx E own cc nL fr lo V) {pc nx : Nat} {t st : List Value} {σ : fnMem} {a0 a1 a2 a3 a4 a5 a6 a7 a8 : Value} {z : Int} (hd : fnD cc pc (.iload 9) 2 nx) (k : V nx (a0 :: a1 :: a2 :: a3 :: a4 :: a5 :: a6 :: a7 :: a8 :: zI z :: t) (zI z :: st) σ) : V pc (a0 :: a1 :: a2 :: a3 :: a4 :: a5 :: a6 :: a7 :: a8 :: zI z :: t) st σ := fn_iloadG h hd (i := 9) rfl k

theorem fn_lload_9 {E : fnE} {own : String} {cc : ByteArray} {nL fr lo : Nat} {V : fnV} (h : fnCx E own cc nL fr lo V) {pc nx : Nat} {t st : List Value} {σ : fnMem} {a0 a1 a2 a3 a4 a5 a6 a7 a8 : Value} {z : Int} (hd : fnD cc pc (.lload 9) 2 nx) (k : V nx (a0 :: a1 :: a2 :: a3 :: a4 :: a5 :: a6 :: a7 :: a8 :: zL z :: t) (zL z :: st) σ) : V pc (a0 :: a1 :: a2 :: a3 :: a4 :: a5 :: a6 :: a7 :: a8 :: zL z :: t) st σ := fn_lloadG h hd (i := 9) rfl k

theorem fn_aload_9 {E : fnE} {own : String} {cc : ByteArray} {nL fr lo : Nat} {V : fnV} (h : fnCx E own cc nL fr lo V) {pc nx : Nat} {t st : List Value} {σ : fnMem} {a0 a1 a2 a3 a4 a5 a6 a7 a8 : Value} {z : Nat} (hd : fnD cc pc (.aload 9) 2 nx) (k : V nx (a0 :: a1 :: a2 :: a3 :: a4 :: a5 :: a6 :: a7 :: a8 :: .ref z :: t) (.ref z :: st) σ) : V pc (a0 :: a1 :: a2 :: a3 :: a4 :: a5 :: a6 :: a7 :: a8 :: .ref z :: t) st σ := fn_aloadG h hd (i := 9) rfl k

theorem fn_istore_9 {E : fnE} {own : String} {cc : ByteArray} {nL fr lo : Nat} {V : fnV} (h : fnCx E own cc nL fr lo V) {pc nx : Nat} {t st : List Value} {σ : fnMem} {a0 a1 a2 a3 a4 a5 a6 a7 a8 : Value} {b : Value} {z : Int} (hd : fnD cc pc (.istore 9) 2 nx) (hi : Nat.ble 10 nL = true) (hp : fnC1 a8 = true) (k : V nx (a0 :: a1 :: a2 :: a3 :: a4 :: a5 :: a6 :: a7 :: a8 :: zI z :: t) st σ) : V pc (a0 :: a1 :: a2 :: a3 :: a4 :: a5 :: a6 :: a7 :: a8 :: b :: t) (zI z :: st) σ := fn_istoreG h hd (i := 9) hi (fun j w e q => by cases e; cases q; exact hp) k

theorem fn_lstore_9 {E : fnE} {own : String} {cc : ByteArray} {nL fr lo : Nat} {V : fnV} (h : fnCx E own cc nL fr lo V) {pc nx : Nat} {t st : List Value} {σ : fnMem} {a0 a1 a2 a3 a4 a5 a6 a7 a8 : Value} {b b2 : Value} {z : Int} (hd : fnD cc pc (.lstore 9) 2 nx) (hi : Nat.ble 11 nL = true) (hp : fnC1 a8 = true) (k : V nx (a0 :: a1 :: a2 :: a3 :: a4 :: a5 :: a6 :: a7 :: a8 :: zL z :: .null :: t) st σ) : V pc (a0 :: a1 :: a2 :: a3 :: a4 :: a5 :: a6 :: a7 :: a8 :: b :: b2 :: t) (zL z :: st) σ := fn_lstoreG h hd (i := 9) hi (fun j w e q => by cases e; cases q; exact hp) k

theorem fn_astore_9 {E : fnE} {own : String} {cc : ByteArray} {nL fr lo : Nat} {V : fnV} (h : fnCx E own cc nL fr lo V) {pc nx : Nat} {t st : List Value} {σ : fnMem} {a0 a1 a2 a3 a4 a5 a6 a7 a8 : Value} {b : Value} {z : Nat} (hd : fnD cc pc (.astore 9) 2 nx) (hi : Nat.ble 10 nL = true) (hp : fnC1 a8 = true) (k : V nx (a0 :: a1 :: a2 :: a3 :: a4 :: a5 :: a6 :: a7 :: a8 :: .ref z :: t) st σ) : V pc (a0 :: a1 :: a2 :: a3 :: a4 :: a5 :: a6 :: a7 :: a8 :: b :: t) (.ref z :: st) σ := fn_astoreG h hd (i := 9) hi (fun j w e q => by cases e; cases q; exact hp) k

theorem fn_iinc_9 {E : fnE} {own : String} {cc : ByteArray} {nL fr lo : Nat} {V : fnV} (h : fnCx E own cc nL fr lo V) {pc nx : Nat} {t st : List Value} {σ : fnMem} {a0 a1 a2 a3 a4 a5 a6 a7 a8 : Value} {d z : Int} (hd : fnD cc pc (.iinc 9 d) 3 nx) (hi : Nat.ble 10 nL = true) (hp : fnC1 a8 = true) (k : V nx (a0 :: a1 :: a2 :: a3 :: a4 :: a5 :: a6 :: a7 :: a8 :: zI (z + d) :: t) st σ) : V pc (a0 :: a1 :: a2 :: a3 :: a4 :: a5 :: a6 :: a7 :: a8 :: zI z :: t) st σ := fn_iincG h hd (i := 9) rfl hi (fun j w e q => by cases e; cases q; exact hp) k

theorem fn_iload_10 {E : fnE} {own : String} {cc : ByteArray} {nL fr lo : Nat} {V : fnV} (h : fnCx E own cc nL fr lo V) {pc nx : Nat} {t st : List Value} {σ : fnMem} {a0 a1 a2 a3 a4 a5 a6 a7 a8 a9 : Value} {z : Int} (hd : fnD cc pc (.iload 10) 2 nx) (k : V nx (a0 :: a1 :: a2 :: a3 :: a4 :: a5 :: a6 :: a7 :: a8 :: a9 :: zI z :: t) (zI z :: st) σ) : V pc (a0 :: a1 :: a2 :: a3 :: a4 :: a5 :: a6 :: a7 :: a8 :: a9 :: zI z :: t) st σ := fn_iloadG h hd (i := 10) rfl k

theorem fn_lload_10 {E : fnE} {own : String} {cc : ByteArray} {nL fr lo : Nat} {V : fnV} (h : fnCx E own cc nL fr lo V) {pc nx : Nat} {t st : List Value} {σ : fnMem} {a0 a1 a2 a3 a4 a5 a6 a7 a8 a9 : Value} {z : Int} (hd : fnD cc pc (.lload 10) 2 nx) (k : V nx (a0 :: a1 :: a2 :: a3 :: a4 :: a5 :: a6 :: a7 :: a8 :: a9 :: zL z :: t) (zL z :: st) σ) : V pc (a0 :: a1 :: a2 :: a3 :: a4 :: a5 :: a6 :: a7 :: a8 :: a9 :: zL z :: t) st σ := fn_lloadG h hd (i := 10) rfl k

theorem fn_aload_10 {E : fnE} {own : String} {cc : ByteArray} {nL fr lo : Nat} {V : fnV} (h : fnCx E own cc nL fr lo V) {pc nx : Nat} {t st : List Value} {σ : fnMem} {a0 a1 a2 a3 a4 a5 a6 a7 a8 a9 : Value} {z : Nat} (hd : fnD cc pc (.aload 10) 2 nx) (k : V nx (a0 :: a1 :: a2 :: a3 :: a4 :: a5 :: a6 :: a7 :: a8 :: a9 :: .ref z :: t) (.ref z :: st) σ) : V pc (a0 :: a1 :: a2 :: a3 :: a4 :: a5 :: a6 :: a7 :: a8 :: a9 :: .ref z :: t) st σ := fn_aloadG h hd (i := 10) rfl k

theorem fn_istore_10 {E : fnE} {own : String} {cc : ByteArray} {nL fr lo : Nat} {V : fnV} (h : fnCx E own cc nL fr lo V) {pc nx : Nat} {t st : List Value} {σ : fnMem} {a0 a1 a2 a3 a4 a5 a6 a7 a8 a9 : Value} {b : Value} {z : Int} (hd : fnD cc pc (.istore 10) 2 nx) (hi : Nat.ble 11 nL = true) (hp : fnC1 a9 = true) (k : V nx (a0 :: a1 :: a2 :: a3 :: a4 :: a5 :: a6 :: a7 :: a8 :: a9 :: zI z :: t) st σ) : V pc (a0 :: a1 :: a2 :: a3 :: a4 :: a5 :: a6 :: a7 :: a8 :: a9 :: b :: t) (zI z :: st) σ := fn_istoreG h hd (i := 10) hi (fun j w e q => by cases e; cases q; exact hp) k

theorem fn_lstore_10 {E : fnE} {own : String} {cc : ByteArray} {nL fr lo : Nat} {V : fnV} (h : fnCx E own cc nL fr lo V) {pc nx : Nat} {t st : List Value} {σ : fnMem} {a0 a1 a2 a3 a4 a5 a6 a7 a8 a9 : Value} {b b2 : Value} {z : Int} (hd : fnD cc pc (.lstore 10) 2 nx) (hi : Nat.ble 12 nL = true) (hp : fnC1 a9 = true) (k : V nx (a0 :: a1 :: a2 :: a3 :: a4 :: a5 :: a6 :: a7 :: a8 :: a9 :: zL z :: .null :: t) st σ) : V pc (a0 :: a1 :: a2 :: a3 :: a4 :: a5 :: a6 :: a7 :: a8 :: a9 :: b :: b2 :: t) (zL z :: st) σ := fn_lstoreG h hd (i := 10) hi (fun j w e q => by cases e; cases q; exact hp) k

theorem fn_astore_10 {E : fnE} {own : String} {cc : ByteArray} {nL fr lo : Nat} {V : fnV} (h : fnCx E own cc nL fr lo V) {pc nx : Nat} {t st : List Value} {σ : fnMem} {a0 a1 a2 a3 a4 a5 a6 a7 a8 a9 : Value} {b : Value} {z : Nat} (hd : fnD cc pc (.astore 10) 2 nx) (hi : Nat.ble 11 nL = true) (hp : fnC1 a9 = true) (k : V nx (a0 :: a1 :: a2 :: a3 :: a4 :: a5 :: a6 :: a7 :: a8 :: a9 :: .ref z :: t) st σ) : V pc (a0 :: a1 :: a2 :: a3 :: a4 :: a5 :: a6 :: a7 :: a8 :: a9 :: b :: t) (.ref z :: st) σ := fn_astoreG h hd (i := 10) hi (fun j w e q => by cases e; cases q; exact hp) k

theorem fn_iinc_10 {E : fnE} {own : String} {cc : ByteArray} {nL fr lo : Nat} {V : fnV} (h : fnCx E own cc nL fr lo V) {pc nx : Nat} {t st : List Value} {σ : fnMem} {a0 a1 a2 a3 a4 a5 a6 a7 a8 a9 : Value} {d z : Int} (hd : fnD cc pc (.iinc 10 d) 3 nx) (hi : Nat.ble 11 nL = true) (hp : fnC1 a9 = true) (k : V nx (a0 :: a1 :: a2 :: a3 :: a4 :: a5 :: a6 :: a7 :: a8 :: a9 :: zI (z + d) :: t) st σ) : V pc (a0 :: a1 :: a2 :: a3 :: a4 :: a5 :: a6 :: a7 :: a8 :: a9 :: zI z :: t) st σ := fn_iincG h hd (i := 10) rfl hi (fun j w e q => by cases e; cases q; exact hp) k

theorem fn_iload_11 {E : fnE} {own : String} {cc : ByteArray} {nL fr lo : Nat} {V : fnV} (h : fnCx E own cc nL fr lo V) {pc nx : Nat} {t st : List Value} {σ : fnMem} {a0 a1 a2 a3 a4 a5 a6 a7 a8 a9 a10 : Value} {z : Int} (hd : fnD cc pc (.iload 11) 2 nx) (k : V nx (a0 :: a1 :: a2 :: a3 :: a4 :: a5 :: a6 :: a7 :: a8 :: a9 :: a10 :: zI z :: t) (zI z :: st) σ) : V pc (a0 :: a1 :: a2 :: a3 :: a4 :: a5 :: a6 :: a7 :: a8 :: a9 :: a10 :: zI z :: t) st σ := fn_iloadG h hd (i := 11) rfl k

theorem fn_lload_11 {E : fnE} {own : String} {cc : ByteArray} {nL fr lo : Nat} {V : fnV} (h : fnCx E own cc nL fr lo V) {pc nx : Nat} {t st : List Value} {σ : fnMem} {a0 a1 a2 a3 a4 a5 a6 a7 a8 a9 a10 : Value} {z : Int} (hd : fnD cc pc (.lload 11) 2 nx) (k : V nx (a0 :: a1 :: a2 :: a3 :: a4 :: a5 :: a6 :: a7 :: a8 :: a9 :: a10 :: zL z :: t) (zL z :: st) σ) : V pc (a0 :: a1 :: a2 :: a3 :: a4 :: a5 :: a6 :: a7 :: a8 :: a9 :: a10 :: zL z :: t) st σ := fn_lloadG h hd (i := 11) rfl k

theorem fn_aload_11 {E : fnE} {own : String} {cc : ByteArray} {nL fr lo : Nat} {V : fnV} (h : fnCx E own cc nL fr lo V) {pc nx : Nat} {t st : List Value} {σ : fnMem} {a0 a1 a2 a3 a4 a5 a6 a7 a8 a9 a10 : Value} {z : Nat} (hd : fnD cc pc (.aload 11) 2 nx) (k : V nx (a0 :: a1 :: a2 :: a3 :: a4 :: a5 :: a6 :: a7 :: a8 :: a9 :: a10 :: .ref z :: t) (.ref z :: st) σ) : V pc (a0 :: a1 :: a2 :: a3 :: a4 :: a5 :: a6 :: a7 :: a8 :: a9 :: a10 :: .ref z :: t) st σ := fn_aloadG h hd (i := 11) rfl k

theorem fn_istore_11 {E : fnE} {own : String} {cc : ByteArray} {nL fr lo : Nat} {V : fnV} (h : fnCx E own cc nL fr lo V) {pc nx : Nat} {t st : List Value} {σ : fnMem} {a0 a1 a2 a3 a4 a5 a6 a7 a8 a9 a10 : Value} {b : Value} {z : Int} (hd : fnD cc pc (.istore 11) 2 nx) (hi : Nat.ble 12 nL = true) (hp : fnC1 a10 = true) (k : V nx (a0 :: a1 :: a2 :: a3 :: a4 :: a5 :: a6 :: a7 :: a8 :: a9 :: a10 :: zI z :: t) st σ) : V pc (a0 :: a1 :: a2 :: a3 :: a4 :: a5 :: a6 :: a7 :: a8 :: a9 :: a10 :: b :: t) (zI z :: st) σ := fn_istoreG h hd (i := 11) hi (fun j w e q => by cases e; cases q; exact hp) k

theorem fn_lstore_11 {E : fnE} {own : String} {cc : ByteArray} {nL fr lo : Nat} {V : fnV} (h : fnCx E own cc nL fr lo V) {pc nx : Nat} {t st : List Value} {σ : fnMem} {a0 a1 a2 a3 a4 a5 a6 a7 a8 a9 a10 : Value} {b b2 : Value} {z : Int} (hd : fnD cc pc (.lstore 11) 2 nx) (hi : Nat.ble 13 nL = true) (hp : fnC1 a10 = true) (k : V nx (a0 :: a1 :: a2 :: a3 :: a4 :: a5 :: a6 :: a7 :: a8 :: a9 :: a10 :: zL z :: .null :: t) st σ) : V pc (a0 :: a1 :: a2 :: a3 :: a4 :: a5 :: a6 :: a7 :: a8 :: a9 :: a10 :: b :: b2 :: t) (zL z :: st) σ := fn_lstoreG h hd (i := 11) hi (fun j w e q => by cases e; cases q; exact hp) k

theorem fn_astore_11 {E : fnE} {own : String} {cc : ByteArray} {nL fr lo : Nat} {V : fnV} (h : fnCx E own cc nL fr lo V) {pc nx : Nat} {t st : List Value} {σ : fnMem} {a0 a1 a2 a3 a4 a5 a6 a7 a8 a9 a10 : Value} {b : Value} {z : Nat} (hd : fnD cc pc (.astore 11) 2 nx) (hi : Nat.ble 12 nL = true) (hp : fnC1 a10 = true) (k : V nx (a0 :: a1 :: a2 :: a3 :: a4 :: a5 :: a6 :: a7 :: a8 :: a9 :: a10 :: .ref z :: t) st σ) : V pc (a0 :: a1 :: a2 :: a3 :: a4 :: a5 :: a6 :: a7 :: a8 :: a9 :: a10 :: b :: t) (.ref z :: st) σ := fn_astoreG h hd (i := 11) hi (fun j w e q => by cases e; cases q; exact hp) k

theorem fn_iinc_11 {E : fnE} {own : String} {cc : ByteArray} {nL fr lo : Nat} {V : fnV} (h : fnCx E own cc nL fr lo V) {pc nx : Nat} {t st : List Value} {σ : fnMem} {a0 a1 a2 a3 a4 a5 a6 a7 a8 a9 a10 : Value} {d z : Int} (hd : fnD cc pc (.iinc 11 d) 3 nx) (hi : Nat.ble 12 nL = true) (hp : fnC1 a10 = true) (k : V nx (a0 :: a1 :: a2 :: a3 :: a4 :: a5 :: a6 :: a7 :: a8 :: a9 :: a10 :: zI (z + d) :: t) st σ) : V pc (a0 :: a1 :: a2 :: a3 :: a4 :: a5 :: a6 :: a7 :: a8 :: a9 :: a10 :: zI z :: t) st σ := fn_iincG h hd (i := 11) rfl hi (fun j w e q => by cases e; cases q; exact hp) k

theorem fn_iload_12 {E : fnE} {own : String} {cc : ByteArray} {nL fr lo : Nat} {V : fnV} (h : fnCx E own cc nL fr lo V) {pc nx : Nat} {t st : List Value} {σ : fnMem} {a0 a1 a2 a3 a4 a5 a6 a7 a8 a9 a10 a11 : Value} {z : Int} (hd : fnD cc pc (.iload 12) 2 nx) (k : V nx (a0 :: a1 :: a2 :: a3 :: a4 :: a5 :: a6 :: a7 :: a8 :: a9 :: a10 :: a11 :: zI z :: t) (zI z :: st) σ) : V pc (a0 :: a1 :: a2 :: a3 :: a4 :: a5 :: a6 :: a7 :: a8 :: a9 :: a10 :: a11 :: zI z :: t) st σ := fn_iloadG h hd (i := 12) rfl k

theorem fn_lload_12 {E : fnE} {own : String} {cc : ByteArray} {nL fr lo : Nat} {V : fnV} (h : fnCx E own cc nL fr lo V) {pc nx : Nat} {t st : List Value} {σ : fnMem} {a0 a1 a2 a3 a4 a5 a6 a7 a8 a9 a10 a11 : Value} {z : Int} (hd : fnD cc pc (.lload 12) 2 nx) (k : V nx (a0 :: a1 :: a2 :: a3 :: a4 :: a5 :: a6 :: a7 :: a8 :: a9 :: a10 :: a11 :: zL z :: t) (zL z :: st) σ) : V pc (a0 :: a1 :: a2 :: a3 :: a4 :: a5 :: a6 :: a7 :: a8 :: a9 :: a10 :: a11 :: zL z :: t) st σ := fn_lloadG h hd (i := 12) rfl k

theorem fn_aload_12 {E : fnE} {own : String} {cc : ByteArray} {nL fr lo : Nat} {V : fnV} (h : fnCx E own cc nL fr lo V) {pc nx : Nat} {t st : List Value} {σ : fnMem} {a0 a1 a2 a3 a4 a5 a6 a7 a8 a9 a10 a11 : Value} {z : Nat} (hd : fnD cc pc (.aload 12) 2 nx) (k : V nx (a0 :: a1 :: a2 :: a3 :: a4 :: a5 :: a6 :: a7 :: a8 :: a9 :: a10 :: a11 :: .ref z :: t) (.ref z :: st) σ) : V pc (a0 :: a1 :: a2 :: a3 :: a4 :: a5 :: a6 :: a7 :: a8 :: a9 :: a10 :: a11 :: .ref z :: t) st σ := fn_aloadG h hd (i := 12) rfl k

theorem fn_istore_12 {E : fnE} {own : String} {cc : ByteArray} {nL fr lo : Nat} {V : fnV} (h : fnCx E own cc nL fr lo V) {pc nx : Nat} {t st : List Value} {σ : fnMem} {a0 a1 a2 a3 a4 a5 a6 a7 a8 a9 a10 a11 : Value} {b : Value} {z : Int} (hd : fnD cc pc (.istore 12) 2 nx) (hi : Nat.ble 13 nL = true) (hp : fnC1 a11 = true) (k : V nx (a0 :: a1 :: a2 :: a3 :: a4 :: a5 :: a6 :: a7 :: a8 :: a9 :: a10 :: a11 :: zI z :: t) st σ) : V pc (a0 :: a1 :: a2 :: a3 :: a4 :: a5 :: a6 :: a7 :: a8 :: a9 :: a10 :: a11 :: b :: t) (zI z :: st) σ := fn_istoreG h hd (i := 12) hi (fun j w e q => by cases e; cases q; exact hp) k

theorem fn_lstore_12 {E : fnE} {own : String} {cc : ByteArray} {nL fr lo : Nat} {V : fnV} (h : fnCx E own cc nL fr lo V) {pc nx : Nat} {t st : List Value} {σ : fnMem} {a0 a1 a2 a3 a4 a5 a6 a7 a8 a9 a10 a11 : Value} {b b2 : Value} {z : Int} (hd : fnD cc pc (.lstore 12) 2 nx) (hi : Nat.ble 14 nL = true) (hp : fnC1 a11 = true) (k : V nx (a0 :: a1 :: a2 :: a3 :: a4 :: a5 :: a6 :: a7 :: a8 :: a9 :: a10 :: a11 :: zL z :: .null :: t) st σ) : V pc (a0 :: a1 :: a2 :: a3 :: a4 :: a5 :: a6 :: a7 :: a8 :: a9 :: a10 :: a11 :: b :: b2 :: t) (zL z :: st) σ := fn_lstoreG h hd (i := 12) hi (fun j w e q => by cases e; cases q; exact hp) k

theorem fn_astore_12 {E : fnE} {own : String} {cc : ByteArray} {nL fr lo : Nat} {V : fnV} (h : fnCx E own cc nL fr lo V) {pc nx : Nat} {t st : List Value} {σ : fnMem} {a0 a1 a2 a3 a4 a5 a6 a7 a8 a9 a10 a11 : Value} {b : Value} {z : Nat} (hd : fnD cc pc (.astore 12) 2 nx) (hi : Nat.ble 13 nL = true) (hp : fnC1 a11 = true) (k : V nx (a0 :: a1 :: a2 :: a3 :: a4 :: a5 :: a6 :: a7 :: a8 :: a9 :: a10 :: a11 :: .ref z :: t) st σ) : V pc (a0 :: a1 :: a2 :: a3 :: a4 :: a5 :: a6 :: a7 :: a8 :: a9 :: a10 :: a11 :: b :: t) (.ref z :: st) σ := fn_astoreG h hd (i := 12) hi (fun j w e q => by cases e; cases q; exact hp) k

theorem fn_iinc_12 {E : fnE} {own : String} {cc : ByteArray} {nL fr lo : Nat} {V : fnV} (h : fnCx E own cc nL fr lo V) {pc nx : Nat} {t st : List Value} {σ : fnMem} {a0 a1 a2 a3 a4 a5 a6 a7 a8 a9 a10 a11 : Value} {d z : Int} (hd : fnD cc pc (.iinc 12 d) 3 nx) (hi : Nat.ble 13 nL = true) (hp : fnC1 a11 = true) (k : V nx (a0 :: a1 :: a2 :: a3 :: a4 :: a5 :: a6 :: a7 :: a8 :: a9 :: a10 :: a11 :: zI (z + d) :: t) st σ) : V pc (a0 :: a1 :: a2 :: a3 :: a4 :: a5 :: a6 :: a7 :: a8 :: a9 :: a10 :: a11 :: zI z :: t) st σ := fn_iincG h hd (i := 12) rfl hi (fun j w e q => by cases e; cases q; exact hp) k

theorem fn_iload_13 {E : fnE} {own : String} {cc : ByteArray} {nL fr lo : Nat} {V : fnV} (h : fnCx E own cc nL fr lo V) {pc nx : Nat} {t st : List Value} {σ : fnMem} {a0 a1 a2 a3 a4 a5 a6 a7 a8 a9 a10 a11 a12 : Value} {z : Int} (hd : fnD cc pc (.iload 13) 2 nx) (k : V nx (a0 :: a1 :: a2 :: a3 :: a4 :: a5 :: a6 :: a7 :: a8 :: a9 :: a10 :: a11 :: a12 :: zI z :: t) (zI z :: st) σ) : V pc (a0 :: a1 :: a2 :: a3 :: a4 :: a5 :: a6 :: a7 :: a8 :: a9 :: a10 :: a11 :: a12 :: zI z :: t) st σ := fn_iloadG h hd (i := 13) rfl k

theorem fn_lload_13 {E : fnE} {own : String} {cc : ByteArray} {nL fr lo : Nat} {V : fnV} (h : fnCx E own cc nL fr lo V) {pc nx : Nat} {t st : List Value} {σ : fnMem} {a0 a1 a2 a3 a4 a5 a6 a7 a8 a9 a10 a11 a12 : Value} {z : Int} (hd : fnD cc pc (.lload 13) 2 nx) (k : V nx (a0 :: a1 :: a2 :: a3 :: a4 :: a5 :: a6 :: a7 :: a8 :: a9 :: a10 :: a11 :: a12 :: zL z :: t) (zL z :: st) σ) : V pc (a0 :: a1 :: a2 :: a3 :: a4 :: a5 :: a6 :: a7 :: a8 :: a9 :: a10 :: a11 :: a12 :: zL z :: t) st σ := fn_lloadG h hd (i := 13) rfl k

theorem fn_aload_13 {E : fnE} {own : String} {cc : ByteArray} {nL fr lo : Nat} {V : fnV} (h : fnCx E own cc nL fr lo V) {pc nx : Nat} {t st : List Value} {σ : fnMem} {a0 a1 a2 a3 a4 a5 a6 a7 a8 a9 a10 a11 a12 : Value} {z : Nat} (hd : fnD cc pc (.aload 13) 2 nx) (k : V nx (a0 :: a1 :: a2 :: a3 :: a4 :: a5 :: a6 :: a7 :: a8 :: a9 :: a10 :: a11 :: a12 :: .ref z :: t) (.ref z :: st) σ) : V pc (a0 :: a1 :: a2 :: a3 :: a4 :: a5 :: a6 :: a7 :: a8 :: a9 :: a10 :: a11 :: a12 :: .ref z :: t) st σ := fn_aloadG h hd (i := 13) rfl k

theorem fn_istore_13 {E : fnE} {own : String} {cc : ByteArray} {nL fr lo : Nat} {V : fnV} (h : fnCx E own cc nL fr lo V) {pc nx : Nat} {t st : List Value} {σ : fnMem} {a0 a1 a2 a3 a4 a5 a6 a7 a8 a9 a10 a11 a12 : Value} {b : Value} {z : Int} (hd : fnD cc pc (.istore 13) 2 nx) (hi : Nat.ble 14 nL = true) (hp : fnC1 a12 = true) (k : V nx (a0 :: a1 :: a2 :: a3 :: a4 :: a5 :: a6 :: a7 :: a8 :: a9 :: a10 :: a11 :: a12 :: zI z :: t) st σ) : V pc (a0 :: a1 :: a2 :: a3 :: a4 :: a5 :: a6 :: a7 :: a8 :: a9 :: a10 :: a11 :: a12 :: b :: t) (zI z :: st) σ := fn_istoreG h hd (i := 13) hi (fun j w e q => by cases e; cases q; exact hp) k

theorem fn_lstore_13 {E : fnE} {own : String} {cc : ByteArray} {nL fr lo : Nat} {V : fnV} (h : fnCx E own cc nL fr lo V) {pc nx : Nat} {t st : List Value} {σ : fnMem} {a0 a1 a2 a3 a4 a5 a6 a7 a8 a9 a10 a11 a12 : Value} {b b2 : Value} {z : Int} (hd : fnD cc pc (.lstore 13) 2 nx) (hi : Nat.ble 15 nL = true) (hp : fnC1 a12 = true) (k : V nx (a0 :: a1 :: a2 :: a3 :: a4 :: a5 :: a6 :: a7 :: a8 :: a9 :: a10 :: a11 :: a12 :: zL z :: .null :: t) st σ) : V pc (a0 :: a1 :: a2 :: a3 :: a4 :: a5 :: a6 :: a7 :: a8 :: a9 :: a10 :: a11 :: a12 :: b :: b2 :: t) (zL z :: st) σ := fn_lstoreG h hd (i := 13) hi (fun j w e q => by cases e; cases q; exact hp) k

theorem fn_astore_13 {E : fnE} {own : String} {cc : ByteArray} {nL fr lo : Nat} {V : fnV} (h : fnCx E own cc nL fr lo V) {pc nx : Nat} {t st : List Value} {σ : fnMem} {a0 a1 a2 a3 a4 a5 a6 a7 a8 a9 a10 a11 a12 : Value} {b : Value} {z : Nat} (hd : fnD cc pc (.astore 13) 2 nx) (hi : Nat.ble 14 nL = true) (hp : fnC1 a12 = true) (k : V nx (a0 :: a1 :: a2 :: a3 :: a4 :: a5 :: a6 :: a7 :: a8 :: a9 :: a10 :: a11 :: a12 :: .ref z :: t) st σ) : V pc (a0 :: a1 :: a2 :: a3 :: a4 :: a5 :: a6 :: a7 :: a8 :: a9 :: a10 :: a11 :: a12 :: b :: t) (.ref z :: st) σ := fn_astoreG h hd (i := 13) hi (fun j w e q => by cases e; cases q; exact hp) k

theorem fn_iinc_13 {E : fnE} {own : String} {cc : ByteArray} {nL fr lo : Nat} {V : fnV} (h : fnCx E own cc nL fr lo V) {pc nx : Nat} {t st : List Value} {σ : fnMem} {a0 a1 a2 a3 a4 a5 a6 a7 a8 a9 a10 a11 a12 : Value} {d z : Int} (hd : fnD cc pc (.iinc 13 d) 3 nx) (hi : Nat.ble 14 nL = true) (hp : fnC1 a12 = true) (k : V nx (a0 :: a1 :: a2 :: a3 :: a4 :: a5 :: a6 :: a7 :: a8 :: a9 :: a10 :: a11 :: a12 :: zI (z + d) :: t) st σ) : V pc (a0 :: a1 :: a2 :: a3 :: a4 :: a5 :: a6 :: a7 :: a8 :: a9 :: a10 :: a11 :: a12 :: zI z :: t) st σ := fn_iincG h hd (i := 13) rfl hi (fun j w e q => by cases e; cases q; exact hp) k

theorem fn_iload_14 {E : fnE} {own : String} {cc : ByteArray} {nL fr lo : Nat} {V : fnV} (h : fnCx E own cc nL fr lo V) {pc nx : Nat} {t st : List Value} {σ : fnMem} {a0 a1 a2 a3 a4 a5 a6 a7 a8 a9 a10 a11 a12 a13 : Value} {z : Int} (hd : fnD cc pc (.iload 14) 2 nx) (k : V nx (a0 :: a1 :: a2 :: a3 :: a4 :: a5 :: a6 :: a7 :: a8 :: a9 :: a10 :: a11 :: a12 :: a13 :: zI z :: t) (zI z :: st) σ) : V pc (a0 :: a1 :: a2 :: a3 :: a4 :: a5 :: a6 :: a7 :: a8 :: a9 :: a10 :: a11 :: a12 :: a13 :: zI z :: t) st σ := fn_iloadG h hd (i := 14) rfl k

theorem fn_lload_14 {E : fnE} {own : String} {cc : ByteArray} {nL fr lo : Nat} {V : fnV} (h : fnCx E own cc nL fr lo V) {pc nx : Nat} {t st : List Value} {σ : fnMem} {a0 a1 a2 a3 a4 a5 a6 a7 a8 a9 a10 a11 a12 a13 : Value} {z : Int} (hd : fnD cc pc (.lload 14) 2 nx) (k : V nx (a0 :: a1 :: a2 :: a3 :: a4 :: a5 :: a6 :: a7 :: a8 :: a9 :: a10 :: a11 :: a12 :: a13 :: zL z :: t) (zL z :: st) σ) : V pc (a0 :: a1 :: a2 :: a3 :: a4 :: a5 :: a6 :: a7 :: a8 :: a9 :: a10 :: a11 :: a12 :: a13 :: zL z :: t) st σ := fn_lloadG h hd (i := 14) rfl k

theorem fn_aload_14 {E : fnE} {own : String} {cc : ByteArray} {nL fr lo : Nat} {V : fnV} (h : fnCx E own cc nL fr lo V) {pc nx : Nat} {t st : List Value} {σ : fnMem} {a0 a1 a2 a3 a4 a5 a6 a7 a8 a9 a10 a11 a12 a13 : Value} {z : Nat} (hd : fnD cc pc (.aload 14) 2 nx) (k : V nx (a0 :: a1 :: a2 :: a3 :: a4 :: a5 :: a6 :: a7 :: a8 :: a9 :: a10 :: a11 :: a12 :: a13 :: .ref z :: t) (.ref z :: st) σ) : V pc (a0 :: a1 :: a2 :: a3 :: a4 :: a5 :: a6 :: a7 :: a8 :: a9 :: a10 :: a11 :: a12 :: a13 :: .ref z :: t) st σ := fn_aloadG h hd (i := 14) rfl k

theorem fn_istore_14 {E : fnE} {own : String} {cc : ByteArray} {nL fr lo : Nat} {V : fnV} (h : fnCx E own cc nL fr lo V) {pc nx : Nat} {t st : List Value} {σ : fnMem} {a0 a1 a2 a3 a4 a5 a6 a7 a8 a9 a10 a11 a12 a13 : Value} {b : Value} {z : Int} (hd : fnD cc pc (.istore 14) 2 nx) (hi : Nat.ble 15 nL = true) (hp : fnC1 a13 = true) (k : V nx (a0 :: a1 :: a2 :: a3 :: a4 :: a5 :: a6 :: a7 :: a8 :: a9 :: a10 :: a11 :: a12 :: a13 :: zI z :: t) st σ) : V pc (a0 :: a1 :: a2 :: a3 :: a4 :: a5 :: a6 :: a7 :: a8 :: a9 :: a10 :: a11 :: a12 :: a13 :: b :: t) (zI z :: st) σ := fn_istoreG h hd (i := 14) hi (fun j w e q => by cases e; cases q; exact hp) k

theorem fn_lstore_14 {E : fnE} {own : String} {cc : ByteArray} {nL fr lo : Nat} {V : fnV} (h : fnCx E own cc nL fr lo V) {pc nx : Nat} {t st : List Value} {σ : fnMem} {a0 a1 a2 a3 a4 a5 a6 a7 a8 a9 a10 a11 a12 a13 : Value} {b b2 : Value} {z : Int} (hd : fnD cc pc (.lstore 14) 2 nx) (hi : Nat.ble 16 nL = true) (hp : fnC1 a13 = true) (k : V nx (a0 :: a1 :: a2 :: a3 :: a4 :: a5 :: a6 :: a7 :: a8 :: a9 :: a10 :: a11 :: a12 :: a13 :: zL z :: .null :: t) st σ) : V pc (a0 :: a1 :: a2 :: a3 :: a4 :: a5 :: a6 :: a7 :: a8 :: a9 :: a10 :: a11 :: a12 :: a13 :: b :: b2 :: t) (zL z :: st) σ := fn_lstoreG h hd (i := 14) hi (fun j w e q => by cases e; cases q; exact hp) k

theorem fn_astore_14 {E : fnE} {own : String} {cc : ByteArray} {nL fr lo : Nat} {V : fnV} (h : fnCx E own cc nL fr lo V) {pc nx : Nat} {t st : List Value} {σ : fnMem} {a0 a1 a2 a3 a4 a5 a6 a7 a8 a9 a10 a11 a12 a13 : Value} {b : Value} {z : Nat} (hd : fnD cc pc (.astore 14) 2 nx) (hi : Nat.ble 15 nL = true) (hp : fnC1 a13 = true) (k : V nx (a0 :: a1 :: a2 :: a3 :: a4 :: a5 :: a6 :: a7 :: a8 :: a9 :: a10 :: a11 :: a12 :: a13 :: .ref z :: t) st σ) : V pc (a0 :: a1 :: a2 :: a3 :: a4 :: a5 :: a6 :: a7 :: a8 :: a9 :: a10 :: a11 :: a12 :: a13 :: b :: t) (.ref z :: st) σ := fn_astoreG h hd (i := 14) hi (fun j w e q => by cases e; cases q; exact hp) k

theorem fn_iinc_14 {E : fnE} {own : String} {cc : ByteArray} {nL fr lo : Nat} {V : fnV} (h : fnCx E own cc nL fr lo V) {pc nx : Nat} {t st : List Value} {σ : fnMem} {a0 a1 a2 a3 a4 a5 a6 a7 a8 a9 a10 a11 a12 a13 : Value} {d z : Int} (hd : fnD cc pc (.iinc 14 d) 3 nx) (hi : Nat.ble 15 nL = true) (hp : fnC1 a13 = true) (k : V nx (a0 :: a1 :: a2 :: a3 :: a4 :: a5 :: a6 :: a7 :: a8 :: a9 :: a10 :: a11 :: a12 :: a13 :: zI (z + d) :: t) st σ) : V pc (a0 :: a1 :: a2 :: a3 :: a4 :: a5 :: a6 :: a7 :: a8 :: a9 :: a10 :: a11 :: a12 :: a13 :: zI z :: t) st σ := fn_iincG h hd (i := 14) rfl hi (fun j w e q => by cases e; cases q; exact hp) k

theorem fn_iload_15 {E : fnE} {own : String} {cc : ByteArray} {nL fr lo : Nat} {V : fnV} (h : fnCx E own cc nL fr lo V) {pc nx : Nat} {t st : List Value} {σ : fnMem} {a0 a1 a2 a3 a4 a5 a6 a7 a8 a9 a10 a11 a12 a13 a14 : Value} {z : Int} (hd : fnD cc pc (.iload 15) 2 nx) (k : V nx (a0 :: a1 :: a2 :: a3 :: a4 :: a5 :: a6 :: a7 :: a8 :: a9 :: a10 :: a11 :: a12 :: a13 :: a14 :: zI z :: t) (zI z :: st) σ) : V pc (a0 :: a1 :: a2 :: a3 :: a4 :: a5 :: a6 :: a7 :: a8 :: a9 :: a10 :: a11 :: a12 :: a13 :: a14 :: zI z :: t) st σ := fn_iloadG h hd (i := 15) rfl k

theorem fn_lload_15 {E : fnE} {own : String} {cc : ByteArray} {nL fr lo : Nat} {V : fnV} (h : fnCx E own cc nL fr lo V) {pc nx : Nat} {t st : List Value} {σ : fnMem} {a0 a1 a2 a3 a4 a5 a6 a7 a8 a9 a10 a11 a12 a13 a14 : Value} {z : Int} (hd : fnD cc pc (.lload 15) 2 nx) (k : V nx (a0 :: a1 :: a2 :: a3 :: a4 :: a5 :: a6 :: a7 :: a8 :: a9 :: a10 :: a11 :: a12 :: a13 :: a14 :: zL z :: t) (zL z :: st) σ) : V pc (a0 :: a1 :: a2 :: a3 :: a4 :: a5 :: a6 :: a7 :: a8 :: a9 :: a10 :: a11 :: a12 :: a13 :: a14 :: zL z :: t) st σ := fn_lloadG h hd (i := 15) rfl k

theorem fn_aload_15 {E : fnE} {own : String} {cc : ByteArray} {nL fr lo : Nat} {V : fnV} (h : fnCx E own cc nL fr lo V) {pc nx : Nat} {t st : List Value} {σ : fnMem} {a0 a1 a2 a3 a4 a5 a6 a7 a8 a9 a10 a11 a12 a13 a14 : Value} {z : Nat} (hd : fnD cc pc (.aload 15) 2 nx) (k : V nx (a0 :: a1 :: a2 :: a3 :: a4 :: a5 :: a6 :: a7 :: a8 :: a9 :: a10 :: a11 :: a12 :: a13 :: a14 :: .ref z :: t) (.ref z :: st) σ) : V pc (a0 :: a1 :: a2 :: a3 :: a4 :: a5 :: a6 :: a7 :: a8 :: a9 :: a10 :: a11 :: a12 :: a13 :: a14 :: .ref z :: t) st σ := fn_aloadG h hd (i := 15) rfl k

theorem fn_istore_15 {E : fnE} {own : String} {cc : ByteArray} {nL fr lo : Nat} {V : fnV} (h : fnCx E own cc nL fr lo V) {pc nx : Nat} {t st : List Value} {σ : fnMem} {a0 a1 a2 a3 a4 a5 a6 a7 a8 a9 a10 a11 a12 a13 a14 : Value} {b : Value} {z : Int} (hd : fnD cc pc (.istore 15) 2 nx) (hi : Nat.ble 16 nL = true) (hp : fnC1 a14 = true) (k : V nx (a0 :: a1 :: a2 :: a3 :: a4 :: a5 :: a6 :: a7 :: a8 :: a9 :: a10 :: a11 :: a12 :: a13 :: a14 :: zI z :: t) st σ) : V pc (a0 :: a1 :: a2 :: a3 :: a4 :: a5 :: a6 :: a7 :: a8 :: a9 :: a10 :: a11 :: a12 :: a13 :: a14 :: b :: t) (zI z :: st) σ := fn_istoreG h hd (i := 15) hi (fun j w e q => by cases e; cases q; exact hp) k

theorem fn_lstore_15 {E : fnE} {own : String} {cc : ByteArray} {nL fr lo : Nat} {V : fnV} (h : fnCx E own cc nL fr lo V) {pc nx : Nat} {t st : List Value} {σ : fnMem} {a0 a1 a2 a3 a4 a5 a6 a7 a8 a9 a10 a11 a12 a13 a14 : Value} {b b2 : Value} {z : Int} (hd : fnD cc pc (.lstore 15) 2 nx) (hi : Nat.ble 17 nL = true) (hp : fnC1 a14 = true) (k : V nx (a0 :: a1 :: a2 :: a3 :: a4 :: a5 :: a6 :: a7 :: a8 :: a9 :: a10 :: a11 :: a12 :: a13 :: a14 :: zL z :: .null :: t) st σ) : V pc (a0 :: a1 :: a2 :: a3 :: a4 :: a5 :: a6 :: a7 :: a8 :: a9 :: a10 :: a11 :: a12 :: a13 :: a14 :: b :: b2 :: t) (zL z :: st) σ := fn_lstoreG h hd (i := 15) hi (fun j w e q => by cases e; cases q; exact hp) k

theorem fn_astore_15 {E : fnE} {own : String} {cc : ByteArray} {nL fr lo : Nat} {V : fnV} (h : fnCx E own cc nL fr lo V) {pc nx : Nat} {t st : List Value} {σ : fnMem} {a0 a1 a2 a3 a4 a5 a6 a7 a8 a9 a10 a11 a12 a13 a14 : Value} {b : Value} {z : Nat} (hd : fnD cc pc (.astore 15) 2 nx) (hi : Nat.ble 16 nL = true) (hp : fnC1 a14 = true) (k : V nx (a0 :: a1 :: a2 :: a3 :: a4 :: a5 :: a6 :: a7 :: a8 :: a9 :: a10 :: a11 :: a12 :: a13 :: a14 :: .ref z :: t) st σ) : V pc (a0 :: a1 :: a2 :: a3 :: a4 :: a5 :: a6 :: a7 :: a8 :: a9 :: a10 :: a11 :: a12 :: a13 :: a14 :: b :: t) (.ref z :: st) σ := fn_astoreG h hd (i := 15) hi (fun j w e q => by cases e; cases q; exact hp) k

theorem fn_iinc_15 {E : fnE} {own : String} {cc : ByteArray} {nL fr lo : Nat} {V : fnV} (h : fnCx E own cc nL fr lo V) {pc nx : Nat} {t st : List Value} {σ : fnMem} {a0 a1 a2 a3 a4 a5 a6 a7 a8 a9 a10 a11 a12 a13 a14 : Value} {d z : Int} (hd : fnD cc pc (.iinc 15 d) 3 nx) (hi : Nat.ble 16 nL = true) (hp : fnC1 a14 = true) (k : V nx (a0 :: a1 :: a2 :: a3 :: a4 :: a5 :: a6 :: a7 :: a8 :: a9 :: a10 :: a11 :: a12 :: a13 :: a14 :: zI (z + d) :: t) st σ) : V pc (a0 :: a1 :: a2 :: a3 :: a4 :: a5 :: a6 :: a7 :: a8 :: a9 :: a10 :: a11 :: a12 :: a13 :: a14 :: zI z :: t) st σ := fn_iincG h hd (i := 15) rfl hi (fun j w e q => by cases e; cases q; exact hp) k

theorem fn_iload_16 {E : fnE} {own : String} {cc : ByteArray} {nL fr lo : Nat} {V : fnV} (h : fnCx E own cc nL fr lo V) {pc nx : Nat} {t st : List Value} {σ : fnMem} {a0 a1 a2 a3 a4 a5 a6 a7 a8 a9 a10 a11 a12 a13 a14 a15 : Value} {z : Int} (hd : fnD cc pc (.iload 16) 2 nx) (k : V nx (a0 :: a1 :: a2 :: a3 :: a4 :: a5 :: a6 :: a7 :: a8 :: a9 :: a10 :: a11 :: a12 :: a13 :: a14 :: a15 :: zI z :: t) (zI z :: st) σ) : V pc (a0 :: a1 :: a2 :: a3 :: a4 :: a5 :: a6 :: a7 :: a8 :: a9 :: a10 :: a11 :: a12 :: a13 :: a14 :: a15 :: zI z :: t) st σ := fn_iloadG h hd (i := 16) rfl k

theorem fn_lload_16 {E : fnE} {own : String} {cc : ByteArray} {nL fr lo : Nat} {V : fnV} (h : fnCx E own cc nL fr lo V) {pc nx : Nat} {t st : List Value} {σ : fnMem} {a0 a1 a2 a3 a4 a5 a6 a7 a8 a9 a10 a11 a12 a13 a14 a15 : Value} {z : Int} (hd : fnD cc pc (.lload 16) 2 nx) (k : V nx (a0 :: a1 :: a2 :: a3 :: a4 :: a5 :: a6 :: a7 :: a8 :: a9 :: a10 :: a11 :: a12 :: a13 :: a14 :: a15 :: zL z :: t) (zL z :: st) σ) : V pc (a0 :: a1 :: a2 :: a3 :: a4 :: a5 :: a6 :: a7 :: a8 :: a9 :: a10 :: a11 :: a12 :: a13 :: a14 :: a15 :: zL z :: t) st σ := fn_lloadG h hd (i := 16) rfl k

theorem fn_aload_16 {E : fnE} {own : String} {cc : ByteArray} {nL fr lo : Nat} {V : fnV} (h : fnCx E own cc nL fr lo V) {pc nx : Nat} {t st : List Value} {σ : fnMem} {a0 a1 a2 a3 a4 a5 a6 a7 a8 a9 a10 a11 a12 a13 a14 a15 : Value} {z : Nat} (hd : fnD cc pc (.aload 16) 2 nx) (k : V nx (a0 :: a1 :: a2 :: a3 :: a4 :: a5 :: a6 :: a7 :: a8 :: a9 :: a10 :: a11 :: a12 :: a13 :: a14 :: a15 :: .ref z :: t) (.ref z :: st) σ) : V pc (a0 :: a1 :: a2 :: a3 :: a4 :: a5 :: a6 :: a7 :: a8 :: a9 :: a10 :: a11 :: a12 :: a13 :: a14 :: a15 :: .ref z :: t) st σ := fn_aloadG h hd (i := 16) rfl k

theorem fn_istore_16 {E : fnE} {own : String} {cc : ByteArray} {nL fr lo : Nat} {V : fnV} (h : fnCx E own cc nL fr lo V) {pc nx : Nat} {t st : List Value} {σ : fnMem} {a0 a1 a2 a3 a4 a5 a6 a7 a8 a9 a10 a11 a12 a13 a14 a15 : Value} {b : Value} {z : Int} (hd : fnD cc pc (.istore 16) 2 nx) (hi : Nat.ble 17 nL = true) (hp : fnC1 a15 = true) (k : V nx (a0 :: a1 :: a2 :: a3 :: a4 :: a5 :: a6 :: a7 :: a8 :: a9 :: a10 :: a11 :: a12 :: a13 :: a14 :: a15 :: zI z :: t) st σ) : V pc (a0 :: a1 :: a2 :: a3 :: a4 :: a5 :: a6 :: a7 :: a8 :: a9 :: a10 :: a11 :: a12 :: a13 :: a14 :: a15 :: b :: t) (zI z :: st) σ := fn_istoreG h hd (i := 16) hi (fun j w e q => by cases e; cases q; exact hp) k

theorem fn_lstore_16 {E : fnE} {own : String} {cc : ByteArray} {nL fr lo : Nat} {V : fnV} (h : fnCx E own cc nL fr lo V) {pc nx : Nat} {t st : List Value} {σ : fnMem} {a0 a1 a2 a3 a4 a5 a6 a7 a8 a9 a10 a11 a12 a13 a14 a15 : Value} {b b2 : Value} {z : Int} (hd : fnD cc pc (.lstore 16) 2 nx) (hi : Nat.ble 18 nL = true) (hp : fnC1 a15 = true) (k : V nx (a0 :: a1 :: a2 :: a3 :: a4 :: a5 :: a6 :: a7 :: a8 :: a9 :: a10 :: a11 :: a12 :: a13 :: a14 :: a15 :: zL z :: .null :: t) st σ) : V pc (a0 :: a1 :: a2 :: a3 :: a4 :: a5 :: a6 :: a7 :: a8 :: a9 :: a10 :: a11 :: a12 :: a13 :: a14 :: a15 :: b :: b2 :: t) (zL z :: st) σ := fn_lstoreG h hd (i := 16) hi (fun j w e q => by cases e; cases q; exact hp) k

theorem fn_astore_16 {E : fnE} {own : String} {cc : ByteArray} {nL fr lo : Nat} {V : fnV} (h : fnCx E own cc nL fr lo V) {pc nx : Nat} {t st : List Value} {σ : fnMem} {a0 a1 a2 a3 a4 a5 a6 a7 a8 a9 a10 a11 a12 a13 a14 a15 : Value} {b : Value} {z : Nat} (hd : fnD cc pc (.astore 16) 2 nx) (hi : Nat.ble 17 nL = true) (hp : fnC1 a15 = true) (k : V nx (a0 :: a1 :: a2 :: a3 :: a4 :: a5 :: a6 :: a7 :: a8 :: a9 :: a10 :: a11 :: a12 :: a13 :: a14 :: a15 :: .ref z :: t) st σ) : V pc (a0 :: a1 :: a2 :: a3 :: a4 :: a5 :: a6 :: a7 :: a8 :: a9 :: a10 :: a11 :: a12 :: a13 :: a14 :: a15 :: b :: t) (.ref z :: st) σ := fn_astoreG h hd (i := 16) hi (fun j w e q => by cases e; cases q; exact hp) k

theorem fn_iinc_16 {E : fnE} {own : String} {cc : ByteArray} {nL fr lo : Nat} {V : fnV} (h : fnCx E own cc nL fr lo V) {pc nx : Nat} {t st : List Value} {σ : fnMem} {a0 a1 a2 a3 a4 a5 a6 a7 a8 a9 a10 a11 a12 a13 a14 a15 : Value} {d z : Int} (hd : fnD cc pc (.iinc 16 d) 3 nx) (hi : Nat.ble 17 nL = true) (hp : fnC1 a15 = true) (k : V nx (a0 :: a1 :: a2 :: a3 :: a4 :: a5 :: a6 :: a7 :: a8 :: a9 :: a10 :: a11 :: a12 :: a13 :: a14 :: a15 :: zI (z + d) :: t) st σ) : V pc (a0 :: a1 :: a2 :: a3 :: a4 :: a5 :: a6 :: a7 :: a8 :: a9 :: a10 :: a11 :: a12 :: a13 :: a14 :: a15 :: zI z :: t) st σ := fn_iincG h hd (i := 16) rfl hi (fun j w e q => by cases e; cases q; exact hp) k

theorem fn_iload_17 {E : fnE} {own : String} {cc : ByteArray} {nL fr lo : Nat} {V : fnV} (h : fnCx E own cc nL fr lo V) {pc nx : Nat} {t st : List Value} {σ : fnMem} {a0 a1 a2 a3 a4 a5 a6 a7 a8 a9 a10 a11 a12 a13 a14 a15 a16 : Value} {z : Int} (hd : fnD cc pc (.iload 17) 2 nx) (k : V nx (a0 :: a1 :: a2 :: a3 :: a4 :: a5 :: a6 :: a7 :: a8 :: a9 :: a10 :: a11 :: a12 :: a13 :: a14 :: a15 :: a16 :: zI z :: t) (zI z :: st) σ) : V pc (a0 :: a1 :: a2 :: a3 :: a4 :: a5 :: a6 :: a7 :: a8 :: a9 :: a10 :: a11 :: a12 :: a13 :: a14 :: a15 :: a16 :: zI z :: t) st σ := fn_iloadG h hd (i := 17) rfl k

theorem fn_lload_17 {E : fnE} {own : String} {cc : ByteArray} {nL fr lo : Nat} {V : fnV} (h : fnCx E own cc nL fr lo V) {pc nx : Nat} {t st : List Value} {σ : fnMem} {a0 a1 a2 a3 a4 a5 a6 a7 a8 a9 a10 a11 a12 a13 a14 a15 a16 : Value} {z : Int} (hd : fnD cc pc (.lload 17) 2 nx) (k : V nx (a0 :: a1 :: a2 :: a3 :: a4 :: a5 :: a6 :: a7 :: a8 :: a9 :: a10 :: a11 :: a12 :: a13 :: a14 :: a15 :: a16 :: zL z :: t) (zL z :: st) σ) : V pc (a0 :: a1 :: a2 :: a3 :: a4 :: a5 :: a6 :: a7 :: a8 :: a9 :: a10 :: a11 :: a12 :: a13 :: a14 :: a15 :: a16 :: zL z :: t) st σ := fn_lloadG h hd (i := 17) rfl k

theorem fn_aload_17 {E : fnE} {own : String} {cc : ByteArray} {nL fr lo : Nat} {V : fnV} (h : fnCx E own cc nL fr lo V) {pc nx : Nat} {t st : List Value} {σ : fnMem} {a0 a1 a2 a3 a4 a5 a6 a7 a8 a9 a10 a11 a12 a13 a14 a15 a16 : Value} {z : Nat} (hd : fnD cc pc (.aload 17) 2 nx) (k : V nx (a0 :: a1 :: a2 :: a3 :: a4 :: a5 :: a6 :: a7 :: a8 :: a9 :: a10 :: a11 :: a12 :: a13 :: a14 :: a15 :: a16 :: .ref z :: t) (.ref z :: st) σ) : V pc (a0 :: a1 :: a2 :: a3 :: a4 :: a5 :: a6 :: a7 :: a8 :: a9 :: a10 :: a11 :: a12 :: a13 :: a14 :: a15 :: a16 :: .ref z :: t) st σ := fn_aloadG h hd (i := 17) rfl k

theorem fn_istore_17 {E : fnE} {own : String} {cc : ByteArray} {nL fr lo : Nat} {V : fnV} (h : fnCx E own cc nL fr lo V) {pc nx : Nat} {t st : List Value} {σ : fnMem} {a0 a1 a2 a3 a4 a5 a6 a7 a8 a9 a10 a11 a12 a13 a14 a15 a16 : Value} {b : Value} {z : Int} (hd : fnD cc pc (.istore 17) 2 nx) (hi : Nat.ble 18 nL = true) (hp : fnC1 a16 = true) (k : V nx (a0 :: a1 :: a2 :: a3 :: a4 :: a5 :: a6 :: a7 :: a8 :: a9 :: a10 :: a11 :: a12 :: a13 :: a14 :: a15 :: a16 :: zI z :: t) st σ) : V pc (a0 :: a1 :: a2 :: a3 :: a4 :: a5 :: a6 :: a7 :: a8 :: a9 :: a10 :: a11 :: a12 :: a13 :: a14 :: a15 :: a16 :: b :: t) (zI z :: st) σ := fn_istoreG h hd (i := 17) hi (fun j w e q => by cases e; cases q; exact hp) k

theorem fn_lstore_17 {E : fnE} {own : String} {cc : ByteArray} {nL fr lo : Nat} {V : fnV} (h : fnCx E own cc nL fr lo V) {pc nx : Nat} {t st : List Value} {σ : fnMem} {a0 a1 a2 a3 a4 a5 a6 a7 a8 a9 a10 a11 a12 a13 a14 a15 a16 : Value} {b b2 : Value} {z : Int} (hd : fnD cc pc (.lstore 17) 2 nx) (hi : Nat.ble 19 nL = true) (hp : fnC1 a16 = true) (k : V nx (a0 :: a1 :: a2 :: a3 :: a4 :: a5 :: a6 :: a7 :: a8 :: a9 :: a10 :: a11 :: a12 :: a13 :: a14 :: a15 :: a16 :: zL z :: .null :: t) st σ) : V pc (a0 :: a1 :: a2 :: a3 :: a4 :: a5 :: a6 :: a7 :: a8 :: a9 :: a10 :: a11 :: a12 :: a13 :: a14 :: a15 :: a16 :: b :: b2 :: t) (zL z :: st) σ := fn_lstoreG h hd (i := 17) hi (fun j w e q => by cases e; cases q; exact hp) k

theorem fn_astore_17 {E : fnE} {own : String} {cc : ByteArray} {nL fr lo : Nat} {V : fnV} (h : fnCx E own cc nL fr lo V) {pc nx : Nat} {t st : List Value} {σ : fnMem} {a0 a1 a2 a3 a4 a5 a6 a7 a8 a9 a10 a11 a12 a13 a14 a15 a16 : Value} {b : Value} {z : Nat} (hd : fnD cc pc (.astore 17) 2 nx) (hi : Nat.ble 18 nL = true) (hp : fnC1 a16 = true) (k : V nx (a0 :: a1 :: a2 :: a3 :: a4 :: a5 :: a6 :: a7 :: a8 :: a9 :: a10 :: a11 :: a12 :: a13 :: a14 :: a15 :: a16 :: .ref z :: t) st σ) : V pc (a0 :: a1 :: a2 :: a3 :: a4 :: a5 :: a6 :: a7 :: a8 :: a9 :: a10 :: a11 :: a12 :: a13 :: a14 :: a15 :: a16 :: b :: t) (.ref z :: st) σ := fn_astoreG h hd (i := 17) hi (fun j w e q => by cases e; cases q; exact hp) k

theorem fn_iinc_17 {E : fnE} {own : String} {cc : ByteArray} {nL fr lo : Nat} {V : fnV} (h : fnCx E own cc nL fr lo V) {pc nx : Nat} {t st : List Value} {σ : fnMem} {a0 a1 a2 a3 a4 a5 a6 a7 a8 a9 a10 a11 a12 a13 a14 a15 a16 : Value} {d z : Int} (hd : fnD cc pc (.iinc 17 d) 3 nx) (hi : Nat.ble 18 nL = true) (hp : fnC1 a16 = true) (k : V nx (a0 :: a1 :: a2 :: a3 :: a4 :: a5 :: a6 :: a7 :: a8 :: a9 :: a10 :: a11 :: a12 :: a13 :: a14 :: a15 :: a16 :: zI (z + d) :: t) st σ) : V pc (a0 :: a1 :: a2 :: a3 :: a4 :: a5 :: a6 :: a7 :: a8 :: a9 :: a10 :: a11 :: a12 :: a13 :: a14 :: a15 :: a16 :: zI z :: t) st σ := fn_iincG h hd (i := 17) rfl hi (fun j w e q => by cases e; cases q; exact hp) k

theorem fn_iload_18 {E : fnE} {own : String} {cc : ByteArray} {nL fr lo : Nat} {V : fnV} (h : fnCx E own cc nL fr lo V) {pc nx : Nat} {t st : List Value} {σ : fnMem} {a0 a1 a2 a3 a4 a5 a6 a7 a8 a9 a10 a11 a12 a13 a14 a15 a16 a17 : Value} {z : Int} (hd : fnD cc pc (.iload 18) 2 nx) (k : V nx (a0 :: a1 :: a2 :: a3 :: a4 :: a5 :: a6 :: a7 :: a8 :: a9 :: a10 :: a11 :: a12 :: a13 :: a14 :: a15 :: a16 :: a17 :: zI z :: t) (zI z :: st) σ) : V pc (a0 :: a1 :: a2 :: a3 :: a4 :: a5 :: a6 :: a7 :: a8 :: a9 :: a10 :: a11 :: a12 :: a13 :: a14 :: a15 :: a16 :: a17 :: zI z :: t) st σ := fn_iloadG h hd (i := 18) rfl k

theorem fn_lload_18 {E : fnE} {own : String} {cc : ByteArray} {nL fr lo : Nat} {V : fnV} (h : fnCx E own cc nL fr lo V) {pc nx : Nat} {t st : List Value} {σ : fnMem} {a0 a1 a2 a3 a4 a5 a6 a7 a8 a9 a10 a11 a12 a13 a14 a15 a16 a17 : Value} {z : Int} (hd : fnD cc pc (.lload 18) 2 nx) (k : V nx (a0 :: a1 :: a2 :: a3 :: a4 :: a5 :: a6 :: a7 :: a8 :: a9 :: a10 :: a11 :: a12 :: a13 :: a14 :: a15 :: a16 :: a17 :: zL z :: t) (zL z :: st) σ) : V pc (a0 :: a1 :: a2 :: a3 :: a4 :: a5 :: a6 :: a7 :: a8 :: a9 :: a10 :: a11 :: a12 :: a13 :: a14 :: a15 :: a16 :: a17 :: zL z :: t) st σ := fn_lloadG h hd (i := 18) rfl k

theorem fn_aload_18 {E : fnE} {own : String} {cc : ByteArray} {nL fr lo : Nat} {V : fnV} (h : fnCx E own cc nL fr lo V) {pc nx : Nat} {t st : List Value} {σ : fnMem} {a0 a1 a2 a3 a4 a5 a6 a7 a8 a9 a10 a11 a12 a13 a14 a15 a16 a17 : Value} {z : Nat} (hd : fnD cc pc (.aload 18) 2 nx) (k : V nx (a0 :: a1 :: a2 :: a3 :: a4 :: a5 :: a6 :: a7 :: a8 :: a9 :: a10 :: a11 :: a12 :: a13 :: a14 :: a15 :: a16 :: a17 :: .ref z :: t) (.ref z :: st) σ) : V pc (a0 :: a1 :: a2 :: a3 :: a4 :: a5 :: a6 :: a7 :: a8 :: a9 :: a10 :: a11 :: a12 :: a13 :: a14 :: a15 :: a16 :: a17 :: .ref z :: t) st σ := fn_aloadG h hd (i := 18) rfl k

theorem fn_istore_18 {E : fnE} {own : String} {cc : ByteArray} {nL fr lo : Nat} {V : fnV} (h : fnCx E own cc nL fr lo V) {pc nx : Nat} {t st : List Value} {σ : fnMem} {a0 a1 a2 a3 a4 a5 a6 a7 a8 a9 a10 a11 a12 a13 a14 a15 a16 a17 : Value} {b : Value} {z : Int} (hd : fnD cc pc (.istore 18) 2 nx) (hi : Nat.ble 19 nL = true) (hp : fnC1 a17 = true) (k : V nx (a0 :: a1 :: a2 :: a3 :: a4 :: a5 :: a6 :: a7 :: a8 :: a9 :: a10 :: a11 :: a12 :: a13 :: a14 :: a15 :: a16 :: a17 :: zI z :: t) st σ) : V pc (a0 :: a1 :: a2 :: a3 :: a4 :: a5 :: a6 :: a7 :: a8 :: a9 :: a10 :: a11 :: a12 :: a13 :: a14 :: a15 :: a16 :: a17 :: b :: t) (zI z :: st) σ := fn_istoreG h hd (i := 18) hi (fun j w e q => by cases e; cases q; exact hp) k

theorem fn_lstore_18 {E : fnE} {own : String} {cc : ByteArray} {nL fr lo : Nat} {V : fnV} (h : fnCx E own cc nL fr lo V) {pc nx : Nat} {t st : List Value} {σ : fnMem} {a0 a1 a2 a3 a4 a5 a6 a7 a8 a9 a10 a11 a12 a13 a14 a15 a16 a17 : Value} {b b2 : Value} {z : Int} (hd : fnD cc pc (.lstore 18) 2 nx) (hi : Nat.ble 20 nL = true) (hp : fnC1 a17 = true) (k : V nx (a0 :: a1 :: a2 :: a3 :: a4 :: a5 :: a6 :: a7 :: a8 :: a9 :: a10 :: a11 :: a12 :: a13 :: a14 :: a15 :: a16 :: a17 :: zL z :: .null :: t) st σ) : V pc (a0 :: a1 :: a2 :: a3 :: a4 :: a5 :: a6 :: a7 :: a8 :: a9 :: a10 :: a11 :: a12 :: a13 :: a14 :: a15 :: a16 :: a17 :: b :: b2 :: t) (zL z :: st) σ := fn_lstoreG h hd (i := 18) hi (fun j w e q => by cases e; cases q; exact hp) k

theorem fn_astore_18 {E : fnE} {own : String} {cc : ByteArray} {nL fr lo : Nat} {V : fnV} (h : fnCx E own cc nL fr lo V) {pc nx : Nat} {t st : List Value} {σ : fnMem} {a0 a1 a2 a3 a4 a5 a6 a7 a8 a9 a10 a11 a12 a13 a14 a15 a16 a17 : Value} {b : Value} {z : Nat} (hd : fnD cc pc (.astore 18) 2 nx) (hi : Nat.ble 19 nL = true) (hp : fnC1 a17 = true) (k : V nx (a0 :: a1 :: a2 :: a3 :: a4 :: a5 :: a6 :: a7 :: a8 :: a9 :: a10 :: a11 :: a12 :: a13 :: a14 :: a15 :: a16 :: a17 :: .ref z :: t) st σ) : V pc (a0 :: a1 :: a2 :: a3 :: a4 :: a5 :: a6 :: a7 :: a8 :: a9 :: a10 :: a11 :: a12 :: a13 :: a14 :: a15 :: a16 :: a17 :: b :: t) (.ref z :: st) σ := fn_astoreG h hd (i := 18) hi (fun j w e q => by cases e; cases q; exact hp) k

theorem fn_iinc_18 {E : fnE} {own : String} {cc : ByteArray} {nL fr lo : Nat} {V : fnV} (h : fnCx E own cc nL fr lo V) {pc nx : Nat} {t st : List Value} {σ : fnMem} {a0 a1 a2 a3 a4 a5 a6 a7 a8 a9 a10 a11 a12 a13 a14 a15 a16 a17 : Value} {d z : Int} (hd : fnD cc pc (.iinc 18 d) 3 nx) (hi : Nat.ble 19 nL = true) (hp : fnC1 a17 = true) (k : V nx (a0 :: a1 :: a2 :: a3 :: a4 :: a5 :: a6 :: a7 :: a8 :: a9 :: a10 :: a11 :: a12 :: a13 :: a14 :: a15 :: a16 :: a17 :: zI (z + d) :: t) st σ) : V pc (a0 :: a1 :: a2 :: a3 :: a4 :: a5 :: a6 :: a7 :: a8 :: a9 :: a10 :: a11 :: a12 :: a13 :: a14 :: a15 :: a16 :: a17 :: zI z :: t) st σ := fn_iincG h hd (i := 18) rfl hi (fun j w e q => by cases e; cases q; exact hp) k

theorem fn_iload_19 {E : fnE} {own : String} {cc : ByteArray} {nL fr lo : Nat} {V : fnV} (h : fnCx E own cc nL fr lo V) {pc nx : Nat} {t st : List Value} {σ : fnMem} {a0 a1 a2 a3 a4 a5 a6 a7 a8 a9 a10 a11 a12 a13 a14 a15 a16 a17 a18 : Value} {z : Int} (hd : fnD cc pc (.iload 19) 2 nx) (k : V nx (a0 :: a1 :: a2 :: a3 :: a4 :: a5 :: a6 :: a7 :: a8 :: a9 :: a10 :: a11 :: a12 :: a13 :: a14 :: a15 :: a16 :: a17 :: a18 :: zI z :: t) (zI z :: st) σ) : V pc (a0 :: a1 :: a2 :: a3 :: a4 :: a5 :: a6 :: a7 :: a8 :: a9 :: a10 :: a11 :: a12 :: a13 :: a14 :: a15 :: a16 :: a17 :: a18 :: zI z :: t) st σ := fn_iloadG h hd (i := 19) rfl k

theorem fn_lload_19 {E : fnE} {own : String} {cc : ByteArray} {nL fr lo : Nat} {V : fnV} (h : fnCx E own cc nL fr lo V) {pc nx : Nat} {t st : List Value} {σ : fnMem} {a0 a1 a2 a3 a4 a5 a6 a7 a8 a9 a10 a11 a12 a13 a14 a15 a16 a17 a18 : Value} {z : Int} (hd : fnD cc pc (.lload 19) 2 nx) (k : V nx (a0 :: a1 :: a2 :: a3 :: a4 :: a5 :: a6 :: a7 :: a8 :: a9 :: a10 :: a11 :: a12 :: a13 :: a14 :: a15 :: a16 :: a17 :: a18 :: zL z :: t) (zL z :: st) σ) : V pc (a0 :: a1 :: a2 :: a3 :: a4 :: a5 :: a6 :: a7 :: a8 :: a9 :: a10 :: a11 :: a12 :: a13 :: a14 :: a15 :: a16 :: a17 :: a18 :: zL z :: t) st σ := fn_lloadG h hd (i := 19) rfl k

theorem fn_aload_19 {E : fnE} {own : String} {cc : ByteArray} {nL fr lo : Nat} {V : fnV} (h : fnCx E own cc nL fr lo V) {pc nx : Nat} {t st : List Value} {σ : fnMem} {a0 a1 a2 a3 a4 a5 a6 a7 a8 a9 a10 a11 a12 a13 a14 a15 a16 a17 a18 : Value} {z : Nat} (hd : fnD cc pc (.aload 19) 2 nx) (k : V nx (a0 :: a1 :: a2 :: a3 :: a4 :: a5 :: a6 :: a7 :: a8 :: a9 :: a10 :: a11 :: a12 :: a13 :: a14 :: a15 :: a16 :: a17 :: a18 :: .ref z :: t) (.ref z :: st) σ) : V pc (a0 :: a1 :: a2 :: a3 :: a4 :: a5 :: a6 :: a7 :: a8 :: a9 :: a10 :: a11 :: a12 :: a13 :: a14 :: a15 :: a16 :: a17 :: a18 :: .ref z :: t) st σ := fn_aloadG h hd (i := 19) rfl k

theorem fn_istore_19 {E : fnE} {own : String} {cc : ByteArray} {nL fr lo : Nat} {V : fnV} (h : fnCx E own cc nL fr lo V) {pc nx : Nat} {t st : List Value} {σ : fnMem} {a0 a1 a2 a3 a4 a5 a6 a7 a8 a9 a10 a11 a12 a13 a14 a15 a16 a17 a18 : Value} {b : Value} {z : Int} (hd : fnD cc pc (.istore 19) 2 nx) (hi : Nat.ble 20 nL = true) (hp : fnC1 a18 = true) (k : V nx (a0 :: a1 :: a2 :: a3 :: a4 :: a5 :: a6 :: a7 :: a8 :: a9 :: a10 :: a11 :: a12 :: a13 :: a14 :: a15 :: a16 :: a17 :: a18 :: zI z :: t) st σ) : V pc (a0 :: a1 :: a2 :: a3 :: a4 :: a5 :: a6 :: a7 :: a8 :: a9 :: a10 :: a11 :: a12 :: a13 :: a14 :: a15 :: a16 :: a17 :: a18 :: b :: t) (zI z :: st) σ := fn_istoreG h hd (i := 19) hi (fun j w e q => by cases e; cases q; exact hp) k

theorem fn_lstore_19 {E : fnE} {own : String} {cc : ByteArray} {nL fr lo : Nat} {V : fnV} (h : fnCx E own cc nL fr lo V) {pc nx : Nat} {t st : List Value} {σ : fnMem} {a0 a1 a2 a3 a4 a5 a6 a7 a8 a9 a10 a11 a12 a13 a14 a15 a16 a17 a18 : Value} {b b2 : Value} {z : Int} (hd : fnD cc pc (.lstore 19) 2 nx) (hi : Nat.ble 21 nL = true) (hp : fnC1 a18 = true) (k : V nx (a0 :: a1 :: a2 :: a3 :: a4 :: a5 :: a6 :: a7 :: a8 :: a9 :: a10 :: a11 :: a12 :: a13 :: a14 :: a15 :: a16 :: a17 :: a18 :: zL z :: .null :: t) st σ) : V pc (a0 :: a1 :: a2 :: a3 :: a4 :: a5 :: a6 :: a7 :: a8 :: a9 :: a10 :: a11 :: a12 :: a13 :: a14 :: a15 :: a16 :: a17 :: a18 :: b :: b2 :: t) (zL z :: st) σ := fn_lstoreG h hd (i := 19) hi (fun j w e q => by cases e; cases q; exact hp) k

theorem fn_astore_19 {E : fnE} {own : String} {cc : ByteArray} {nL fr lo : Nat} {V : fnV} (h : fnCx E own cc nL fr lo V) {pc nx : Nat} {t st : List Value} {σ : fnMem} {a0 a1 a2 a3 a4 a5 a6 a7 a8 a9 a10 a11 a12 a13 a14 a15 a16 a17 a18 : Value} {b : Value} {z : Nat} (hd : fnD cc pc (.astore 19) 2 nx) (hi : Nat.ble 20 nL = true) (hp : fnC1 a18 = true) (k : V nx (a0 :: a1 :: a2 :: a3 :: a4 :: a5 :: a6 :: a7 :: a8 :: a9 :: a10 :: a11 :: a12 :: a13 :: a14 :: a15 :: a16 :: a17 :: a18 :: .ref z :: t) st σ) : V pc (a0 :: a1 :: a2 :: a3 :: a4 :: a5 :: a6 :: a7 :: a8 :: a9 :: a10 :: a11 :: a12 :: a13 :: a14 :: a15 :: a16 :: a17 :: a18 :: b :: t) (.ref z :: st) σ := fn_astoreG h hd (i := 19) hi (fun j w e q => by cases e; cases q; exact hp) k

theorem fn_iinc_19 {E : fnE} {own : String} {cc : ByteArray} {nL fr lo : Nat} {V : fnV} (h : fnCx E own cc nL fr lo V) {pc nx : Nat} {t st : List Value} {σ : fnMem} {a0 a1 a2 a3 a4 a5 a6 a7 a8 a9 a10 a11 a12 a13 a14 a15 a16 a17 a18 : Value} {d z : Int} (hd : fnD cc pc (.iinc 19 d) 3 nx) (hi : Nat.ble 20 nL = true) (hp : fnC1 a18 = true) (k : V nx (a0 :: a1 :: a2 :: a3 :: a4 :: a5 :: a6 :: a7 :: a8 :: a9 :: a10 :: a11 :: a12 :: a13 :: a14 :: a15 :: a16 :: a17 :: a18 :: zI (z + d) :: t) st σ) : V pc (a0 :: a1 :: a2 :: a3 :: a4 :: a5 :: a6 :: a7 :: a8 :: a9 :: a10 :: a11 :: a12 :: a13 :: a14 :: a15 :: a16 :: a17 :: a18 :: zI z :: t) st σ := fn_iincG h hd (i := 19) rfl hi (fun j w e q => by cases e; cases q; exact hp) k

theorem fn_iload_20 {E : fnE} {own : String} {cc : ByteArray} {nL fr lo : Nat} {V : fnV} (h : fnCx E own cc nL fr lo V) {pc nx : Nat} {t st : List Value} {σ : fnMem} {a0 a1 a2 a3 a4 a5 a6 a7 a8 a9 a10 a11 a12 a13 a14 a15 a16 a17 a18 a19 : Value} {z : Int} (hd : fnD cc pc (.iload 20) 2 nx) (k : V nx (a0 :: a1 :: a2 :: a3 :: a4 :: a5 :: a6 :: a7 :: a8 :: a9 :: a10 :: a11 :: a12 :: a13 :: a14 :: a15 :: a16 :: a17 :: a18 :: a19 :: zI z :: t) (zI z :: st) σ) : V pc (a0 :: a1 :: a2 :: a3 :: a4 :: a5 :: a6 :: a7 :: a8 :: a9 :: a10 :: a11 :: a12 :: a13 :: a14 :: a15 :: a16 :: a17 :: a18 :: a19 :: zI z :: t) st σ := fn_iloadG h hd (i := 20) rfl k

theorem fn_lload_20 {E : fnE} {own : String} {cc : ByteArray} {nL fr lo : Nat} {V : fnV} (h : fnCx E own cc nL fr lo V) {pc nx : Nat} {t st : List Value} {σ : fnMem} {a0 a1 a2 a3 a4 a5 a6 a7 a8 a9 a10 a11 a12 a13 a14 a15 a16 a17 a18 a19 : Value} {z : Int} (hd : fnD cc pc (.lload 20) 2 nx) (k : V nx (a0 :: a1 :: a2 :: a3 :: a4 :: a5 :: a6 :: a7 :: a8 :: a9 :: a10 :: a11 :: a12 :: a13 :: a14 :: a15 :: a16 :: a17 :: a18 :: a19 :: zL z :: t) (zL z :: st) σ) : V pc (a0 :: a1 :: a2 :: a3 :: a4 :: a5 :: a6 :: a7 :: a8 :: a9 :: a10 :: a11 :: a12 :: a13 :: a14 :: a15 :: a16 :: a17 :: a18 :: a19 :: zL z :: t) st σ := fn_lloadG h hd (i := 20) rfl k

theorem fn_aload_20 {E : fnE} {own : String} {cc : ByteArray} {nL fr lo : Nat} {V : fnV} (h : fnCx E own cc nL fr lo V) {pc nx : Nat} {t st : List Value} {σ : fnMem} {a0 a1 a2 a3 a4 a5 a6 a7 a8 a9 a10 a11 a12 a13 a14 a15 a16 a17 a18 a19 : Value} {z : Nat} (hd : fnD cc pc (.aload 20) 2 nx) (k : V nx (a0 :: a1 :: a2 :: a3 :: a4 :: a5 :: a6 :: a7 :: a8 :: a9 :: a10 :: a11 :: a12 :: a13 :: a14 :: a15 :: a16 :: a17 :: a18 :: a19 :: .ref z :: t) (.ref z :: st) σ) : V pc (a0 :: a1 :: a2 :: a3 :: a4 :: a5 :: a6 :: a7 :: a8 :: a9 :: a10 :: a11 :: a12 :: a13 :: a14 :: a15 :: a16 :: a17 :: a18 :: a19 :: .ref z :: t) st σ := fn_aloadG h hd (i := 20) rfl k

theorem fn_istore_20 {E : fnE} {own : String} {cc : ByteArray} {nL fr lo : Nat} {V : fnV} (h : fnCx E own cc nL fr lo V) {pc nx : Nat} {t st : List Value} {σ : fnMem} {a0 a1 a2 a3 a4 a5 a6 a7 a8 a9 a10 a11 a12 a13 a14 a15 a16 a17 a18 a19 : Value} {b : Value} {z : Int} (hd : fnD cc pc (.istore 20) 2 nx) (hi : Nat.ble 21 nL = true) (hp : fnC1 a19 = true) (k : V nx (a0 :: a1 :: a2 :: a3 :: a4 :: a5 :: a6 :: a7 :: a8 :: a9 :: a10 :: a11 :: a12 :: a13 :: a14 :: a15 :: a16 :: a17 :: a18 :: a19 :: zI z :: t) st σ) : V pc (a0 :: a1 :: a2 :: a3 :: a4 :: a5 :: a6 :: a7 :: a8 :: a9 :: a10 :: a11 :: a12 :: a13 :: a14 :: a15 :: a16 :: a17 :: a18 :: a19 :: b :: t) (zI z :: st) σ := fn_istoreG h hd (i := 20) hi (fun j w e q => by cases e; cases q; exact hp) k

theorem fn_lstore_20 {E : fnE} {own : String} {cc : ByteArray} {nL fr lo : Nat} {V : fnV} (h : fnCx E own cc nL fr lo V) {pc nx : Nat} {t st : List Value} {σ : fnMem} {a0 a1 a2 a3 a4 a5 a6 a7 a8 a9 a10 a11 a12 a13 a14 a15 a16 a17 a18 a19 : Value} {b b2 : Value} {z : Int} (hd : fnD cc pc (.lstore 20) 2 nx) (hi : Nat.ble 22 nL = true) (hp : fnC1 a19 = true) (k : V nx (a0 :: a1 :: a2 :: a3 :: a4 :: a5 :: a6 :: a7 :: a8 :: a9 :: a10 :: a11 :: a12 :: a13 :: a14 :: a15 :: a16 :: a17 :: a18 :: a19 :: zL z :: .null :: t) st σ) : V pc (a0 :: a1 :: a2 :: a3 :: a4 :: a5 :: a6 :: a7 :: a8 :: a9 :: a10 :: a11 :: a12 :: a13 :: a14 :: a15 :: a16 :: a17 :: a18 :: a19 :: b :: b2 :: t) (zL z :: st) σ := fn_lstoreG h hd (i := 20) hi (fun j w e q => by cases e; cases q; exact hp) k

theorem fn_astore_20 {E : fnE} {own : String} {cc : ByteArray} {nL fr lo : Nat} {V : fnV} (h : fnCx E own cc nL fr lo V) {pc nx : Nat} {t st : List Value} {σ : fnMem} {a0 a1 a2 a3 a4 a5 a6 a7 a8 a9 a10 a11 a12 a13 a14 a15 a16 a17 a18 a19 : Value} {b : Value} {z : Nat} (hd : fnD cc pc (.astore 20) 2 nx) (hi : Nat.ble 21 nL = true) (hp : fnC1 a19 = true) (k : V nx (a0 :: a1 :: a2 :: a3 :: a4 :: a5 :: a6 :: a7 :: a8 :: a9 :: a10 :: a11 :: a12 :: a13 :: a14 :: a15 :: a16 :: a17 :: a18 :: a19 :: .ref z :: t) st σ) : V pc (a0 :: a1 :: a2 :: a3 :: a4 :: a5 :: a6 :: a7 :: a8 :: a9 :: a10 :: a11 :: a12 :: a13 :: a14 :: a15 :: a16 :: a17 :: a18 :: a19 :: b :: t) (.ref z :: st) σ := fn_astoreG h hd (i := 20) hi (fun j w e q => by cases e; cases q; exact hp) k

theorem fn_iinc_20 {E : fnE} {own : String} {cc : ByteArray} {nL fr lo : Nat} {V : fnV} (h : fnCx E own cc nL fr lo V) {pc nx : Nat} {t st : List Value} {σ : fnMem} {a0 a1 a2 a3 a4 a5 a6 a7 a8 a9 a10 a11 a12 a13 a14 a15 a16 a17 a18 a19 : Value} {d z : Int} (hd : fnD cc pc (.iinc 20 d) 3 nx) (hi : Nat.ble 21 nL = true) (hp : fnC1 a19 = true) (k : V nx (a0 :: a1 :: a2 :: a3 :: a4 :: a5 :: a6 :: a7 :: a8 :: a9 :: a10 :: a11 :: a12 :: a13 :: a14 :: a15 :: a16 :: a17 :: a18 :: a19 :: zI (z + d) :: t) st σ) : V pc (a0 :: a1 :: a2 :: a3 :: a4 :: a5 :: a6 :: a7 :: a8 :: a9 :: a10 :: a11 :: a12 :: a13 :: a14 :: a15 :: a16 :: a17 :: a18 :: a19 :: zI z :: t) st σ := fn_iincG h hd (i := 20) rfl hi (fun j w e q => by cases e; cases q; exact hp) k

theorem fn_iload_21 {E : fnE} {own : String} {cc : ByteArray} {nL fr lo : Nat} {V : fnV} (h : fnCx E own cc nL fr lo V) {pc nx : Nat} {t st : List Value} {σ : fnMem} {a0 a1 a2 a3 a4 a5 a6 a7 a8 a9 a10 a11 a12 a13 a14 a15 a16 a17 a18 a19 a20 : Value} {z : Int} (hd : fnD cc pc (.iload 21) 2 nx) (k : V nx (a0 :: a1 :: a2 :: a3 :: a4 :: a5 :: a6 :: a7 :: a8 :: a9 :: a10 :: a11 :: a12 :: a13 :: a14 :: a15 :: a16 :: a17 :: a18 :: a19 :: a20 :: zI z :: t) (zI z :: st) σ) : V pc (a0 :: a1 :: a2 :: a3 :: a4 :: a5 :: a6 :: a7 :: a8 :: a9 :: a10 :: a11 :: a12 :: a13 :: a14 :: a15 :: a16 :: a17 :: a18 :: a19 :: a20 :: zI z :: t) st σ := fn_iloadG h hd (i := 21) rfl k

theorem fn_lload_21 {E : fnE} {own : String} {cc : ByteArray} {nL fr lo : Nat} {V : fnV} (h : fnCx E own cc nL fr lo V) {pc nx : Nat} {t st : List Value} {σ : fnMem} {a0 a1 a2 a3 a4 a5 a6 a7 a8 a9 a10 a11 a12 a13 a14 a15 a16 a17 a18 a19 a20 : Value} {z : Int} (hd : fnD cc pc (.lload 21) 2 nx) (k : V nx (a0 :: a1 :: a2 :: a3 :: a4 :: a5 :: a6 :: a7 :: a8 :: a9 :: a10 :: a11 :: a12 :: a13 :: a14 :: a15 :: a16 :: a17 :: a18 :: a19 :: a20 :: zL z :: t) (zL z :: st) σ) : V pc (a0 :: a1 :: a2 :: a3 :: a4 :: a5 :: a6 :: a7 :: a8 :: a9 :: a10 :: a11 :: a12 :: a13 :: a14 :: a15 :: a16 :: a17 :: a18 :: a19 :: a20 :: zL z :: t) st σ := fn_lloadG h hd (i := 21) rfl k

theorem fn_aload_21 {E : fnE} {own : String} {cc : ByteArray} {nL fr lo : Nat} {V : fnV} (h : fnCx E own cc nL fr lo V) {pc nx : Nat} {t st : List Value} {σ : fnMem} {a0 a1 a2 a3 a4 a5 a6 a7 a8 a9 a10 a11 a12 a13 a14 a15 a16 a17 a18 a19 a20 : Value} {z : Nat} (hd : fnD cc pc (.aload 21) 2 nx) (k : V nx (a0 :: a1 :: a2 :: a3 :: a4 :: a5 :: a6 :: a7 :: a8 :: a9 :: a10 :: a11 :: a12 :: a13 :: a14 :: a15 :: a16 :: a17 :: a18 :: a19 :: a20 :: .ref z :: t) (.ref z :: st) σ) : V pc (a0 :: a1 :: a2 :: a3 :: a4 :: a5 :: a6 :: a7 :: a8 :: a9 :: a10 :: a11 :: a12 :: a13 :: a14 :: a15 :: a16 :: a17 :: a18 :: a19 :: a20 :: .ref z :: t) st σ := fn_aloadG h hd (i := 21) rfl k

theorem fn_istore_21 {E : fnE} {own : String} {cc : ByteArray} {nL fr lo : Nat} {V : fnV} (h : fnCx E own cc nL fr lo V) {pc nx : Nat} {t st : List Value} {σ : fnMem} {a0 a1 a2 a3 a4 a5 a6 a7 a8 a9 a10 a11 a12 a13 a14 a15 a16 a17 a18 a19 a20 : Value} {b : Value} {z : Int} (hd : fnD cc pc (.istore 21) 2 nx) (hi : Nat.ble 22 nL = true) (hp : fnC1 a20 = true) (k : V nx (a0 :: a1 :: a2 :: a3 :: a4 :: a5 :: a6 :: a7 :: a8 :: a9 :: a10 :: a11 :: a12 :: a13 :: a14 :: a15 :: a16 :: a17 :: a18 :: a19 :: a20 :: zI z :: t) st σ) : V pc (a0 :: a1 :: a2 :: a3 :: a4 :: a5 :: a6 :: a7 :: a8 :: a9 :: a10 :: a11 :: a12 :: a13 :: a14 :: a15 :: a16 :: a17 :: a18 :: a19 :: a20 :: b :: t) (zI z :: st) σ := fn_istoreG h hd (i := 21) hi (fun j w e q => by cases e; cases q; exact hp) k

theorem fn_lstore_21 {E : fnE} {own : String} {cc : ByteArray} {nL fr lo : Nat} {V : fnV} (h : fnCx E own cc nL fr lo V) {pc nx : Nat} {t st : List Value} {σ : fnMem} {a0 a1 a2 a3 a4 a5 a6 a7 a8 a9 a10 a11 a12 a13 a14 a15 a16 a17 a18 a19 a20 : Value} {b b2 : Value} {z : Int} (hd : fnD cc pc (.lstore 21) 2 nx) (hi : Nat.ble 23 nL = true) (hp : fnC1 a20 = true) (k : V nx (a0 :: a1 :: a2 :: a3 :: a4 :: a5 :: a6 :: a7 :: a8 :: a9 :: a10 :: a11 :: a12 :: a13 :: a14 :: a15 :: a16 :: a17 :: a18 :: a19 :: a20 :: zL z :: .null :: t) st σ) : V pc (a0 :: a1 :: a2 :: a3 :: a4 :: a5 :: a6 :: a7 :: a8 :: a9 :: a10 :: a11 :: a12 :: a13 :: a14 :: a15 :: a16 :: a17 :: a18 :: a19 :: a20 :: b :: b2 :: t) (zL z :: st) σ := fn_lstoreG h hd (i := 21) hi (fun j w e q => by cases e; cases q; exact hp) k

theorem fn_astore_21 {E : fnE} {own : String} {cc : ByteArray} {nL fr lo : Nat} {V : fnV} (h : fnCx E own cc nL fr lo V) {pc nx : Nat} {t st : List Value} {σ : fnMem} {a0 a1 a2 a3 a4 a5 a6 a7 a8 a9 a10 a11 a12 a13 a14 a15 a16 a17 a18 a19 a20 : Value} {b : Value} {z : Nat} (hd : fnD cc pc (.astore 21) 2 nx) (hi : Nat.ble 22 nL = true) (hp : fnC1 a20 = true) (k : V nx (a0 :: a1 :: a2 :: a3 :: a4 :: a5 :: a6 :: a7 :: a8 :: a9 :: a10 :: a11 :: a12 :: a13 :: a14 :: a15 :: a16 :: a17 :: a18 :: a19 :: a20 :: .ref z :: t) st σ) : V pc (a0 :: a1 :: a2 :: a3 :: a4 :: a5 :: a6 :: a7 :: a8 :: a9 :: a10 :: a11 :: a12 :: a13 :: a14 :: a15 :: a16 :: a17 :: a18 :: a19 :: a20 :: b :: t) (.ref z :: st) σ := fn_astoreG h hd (i := 21) hi (fun j w e q => by cases e; cases q; exact hp) k

theorem fn_iinc_21 {E : fnE} {own : String} {cc : ByteArray} {nL fr lo : Nat} {V : fnV} (h : fnCx E own cc nL fr lo V) {pc nx : Nat} {t st : List Value} {σ : fnMem} {a0 a1 a2 a3 a4 a5 a6 a7 a8 a9 a10 a11 a12 a13 a14 a15 a16 a17 a18 a19 a20 : Value} {d z : Int} (hd : fnD cc pc (.iinc 21 d) 3 nx) (hi : Nat.ble 22 nL = true) (hp : fnC1 a20 = true) (k : V nx (a0 :: a1 :: a2 :: a3 :: a4 :: a5 :: a6 :: a7 :: a8 :: a9 :: a10 :: a11 :: a12 :: a13 :: a14 :: a15 :: a16 :: a17 :: a18 :: a19 :: a20 :: zI (z + d) :: t) st σ) : V pc (a0 :: a1 :: a2 :: a3 :: a4 :: a5 :: a6 :: a7 :: a8 :: a9 :: a10 :: a11 :: a12 :: a13 :: a14 :: a15 :: a16 :: a17 :: a18 :: a19 :: a20 :: zI z :: t) st σ := fn_iincG h hd (i := 21) rfl hi (fun j w e q => by cases e; cases q; exact hp) k

theorem fn_iload_22 {E : fnE} {own : String} {cc : ByteArray} {nL fr lo : Nat} {V : fnV} (h : fnCx E own cc nL fr lo V) {pc nx : Nat} {t st : List Value} {σ : fnMem} {a0 a1 a2 a3 a4 a5 a6 a7 a8 a9 a10 a11 a12 a13 a14 a15 a16 a17 a18 a19 a20 a21 : Value} {z : Int} (hd : fnD cc pc (.iload 22) 2 nx) (k : V nx (a0 :: a1 :: a2 :: a3 :: a4 :: a5 :: a6 :: a7 :: a8 :: a9 :: a10 :: a11 :: a12 :: a13 :: a14 :: a15 :: a16 :: a17 :: a18 :: a19 :: a20 :: a21 :: zI z :: t) (zI z :: st) σ) : V pc (a0 :: a1 :: a2 :: a3 :: a4 :: a5 :: a6 :: a7 :: a8 :: a9 :: a10 :: a11 :: a12 :: a13 :: a14 :: a15 :: a16 :: a17 :: a18 :: a19 :: a20 :: a21 :: zI z :: t) st σ := fn_iloadG h hd (i := 22) rfl k

theorem fn_lload_22 {E : fnE} {own : String} {cc : ByteArray} {nL fr lo : Nat} {V : fnV} (h : fnCx E own cc nL fr lo V) {pc nx : Nat} {t st : List Value} {σ : fnMem} {a0 a1 a2 a3 a4 a5 a6 a7 a8 a9 a10 a11 a12 a13 a14 a15 a16 a17 a18 a19 a20 a21 : Value} {z : Int} (hd : fnD cc pc (.lload 22) 2 nx) (k : V nx (a0 :: a1 :: a2 :: a3 :: a4 :: a5 :: a6 :: a7 :: a8 :: a9 :: a10 :: a11 :: a12 :: a13 :: a14 :: a15 :: a16 :: a17 :: a18 :: a19 :: a20 :: a21 :: zL z :: t) (zL z :: st) σ) : V pc (a0 :: a1 :: a2 :: a3 :: a4 :: a5 :: a6 :: a7 :: a8 :: a9 :: a10 :: a11 :: a12 :: a13 :: a14 :: a15 :: a16 :: a17 :: a18 :: a19 :: a20 :: a21 :: zL z :: t) st σ := fn_lloadG h hd (i := 22) rfl k

theorem fn_aload_22 {E : fnE} {own : String} {cc : ByteArray} {nL fr lo : Nat} {V : fnV} (h : fnCx E own cc nL fr lo V) {pc nx : Nat} {t st : List Value} {σ : fnMem} {a0 a1 a2 a3 a4 a5 a6 a7 a8 a9 a10 a11 a12 a13 a14 a15 a16 a17 a18 a19 a20 a21 : Value} {z : Nat} (hd : fnD cc pc (.aload 22) 2 nx) (k : V nx (a0 :: a1 :: a2 :: a3 :: a4 :: a5 :: a6 :: a7 :: a8 :: a9 :: a10 :: a11 :: a12 :: a13 :: a14 :: a15 :: a16 :: a17 :: a18 :: a19 :: a20 :: a21 :: .ref z :: t) (.ref z :: st) σ) : V pc (a0 :: a1 :: a2 :: a3 :: a4 :: a5 :: a6 :: a7 :: a8 :: a9 :: a10 :: a11 :: a12 :: a13 :: a14 :: a15 :: a16 :: a17 :: a18 :: a19 :: a20 :: a21 :: .ref z :: t) st σ := fn_aloadG h hd (i := 22) rfl k

theorem fn_istore_22 {E : fnE} {own : String} {cc : ByteArray} {nL fr lo : Nat} {V : fnV} (h : fnCx E own cc nL fr lo V) {pc nx : Nat} {t st : List Value} {σ : fnMem} {a0 a1 a2 a3 a4 a5 a6 a7 a8 a9 a10 a11 a12 a13 a14 a15 a16 a17 a18 a19 a20 a21 : Value} {b : Value} {z : Int} (hd : fnD cc pc (.istore 22) 2 nx) (hi : Nat.ble 23 nL = true) (hp : fnC1 a21 = true) (k : V nx (a0 :: a1 :: a2 :: a3 :: a4 :: a5 :: a6 :: a7 :: a8 :: a9 :: a10 :: a11 :: a12 :: a13 :: a14 :: a15 :: a16 :: a17 :: a18 :: a19 :: a20 :: a21 :: zI z :: t) st σ) : V pc (a0 :: a1 :: a2 :: a3 :: a4 :: a5 :: a6 :: a7 :: a8 :: a9 :: a10 :: a11 :: a12 :: a13 :: a14 :: a15 :: a16 :: a17 :: a18 :: a19 :: a20 :: a21 :: b :: t) (zI z :: st) σ := fn_istoreG h hd (i := 22) hi (fun j w e q => by cases e; cases q; exact hp) k

theorem fn_lstore_22 {E : fnE} {own : String} {cc : ByteArray} {nL fr lo : Nat} {V : fnV} (h : fnCx E own cc nL fr lo V) {pc nx : Nat} {t st : List Value} {σ : fnMem} {a0 a1 a2 a3 a4 a5 a6 a7 a8 a9 a10 a11 a12 a13 a14 a15 a16 a17 a18 a19 a20 a21 : Value} {b b2 : Value} {z : Int} (hd : fnD cc pc (.lstore 22) 2 nx) (hi : Nat.ble 24 nL = true) (hp : fnC1 a21 = true) (k : V nx (a0 :: a1 :: a2 :: a3 :: a4 :: a5 :: a6 :: a7 :: a8 :: a9 :: a10 :: a11 :: a12 :: a13 :: a14 :: a15 :: a16 :: a17 :: a18 :: a19 :: a20 :: a21 :: zL z :: .null :: t) st σ) : V pc (a0 :: a1 :: a2 :: a3 :: a4 :: a5 :: a6 :: a7 :: a8 :: a9 :: a10 :: a11 :: a12 :: a13 :: a14 :: a15 :: a16 :: a17 :: a18 :: a19 :: a20 :: a21 :: b :: b2 :: t) (zL z :: st) σ := fn_lstoreG h hd (i := 22) hi (fun j w e q => by cases e; cases q; exact hp) k

theorem fn_astore_22 {E : fnE} {own : String} {cc : ByteArray} {nL fr lo : Nat} {V : fnV} (h : fnCx E own cc nL fr lo V) {pc nx : Nat} {t st : List Value} {σ : fnMem} {a0 a1 a2 a3 a4 a5 a6 a7 a8 a9 a10 a11 a12 a13 a14 a15 a16 a17 a18 a19 a20 a21 : Value} {b : Value} {z : Nat} (hd : fnD cc pc (.astore 22) 2 nx) (hi : Nat.ble 23 nL = true) (hp : fnC1 a21 = true) (k : V nx (a0 :: a1 :: a2 :: a3 :: a4 :: a5 :: a6 :: a7 :: a8 :: a9 :: a10 :: a11 :: a12 :: a13 :: a14 :: a15 :: a16 :: a17 :: a18 :: a19 :: a20 :: a21 :: .ref z :: t) st σ) : V pc (a0 :: a1 :: a2 :: a3 :: a4 :: a5 :: a6 :: a7 :: a8 :: a9 :: a10 :: a11 :: a12 :: a13 :: a14 :: a15 :: a16 :: a17 :: a18 :: a19 :: a20 :: a21 :: b :: t) (.ref z :: st) σ := fn_astoreG h hd (i := 22) hi (fun j w e q => by cases e; cases q; exact hp) k

theorem fn_iinc_22 {E : fnE} {own : String} {cc : ByteArray} {nL fr lo : Nat} {V : fnV} (h : fnCx E own cc nL fr lo V) {pc nx : Nat} {t st : List Value} {σ : fnMem} {a0 a1 a2 a3 a4 a5 a6 a7 a8 a9 a10 a11 a12 a13 a14 a15 a16 a17 a18 a19 a20 a21 : Value} {d z : Int} (hd : fnD cc pc (.iinc 22 d) 3 nx) (hi : Nat.ble 23 nL = true) (hp : fnC1 a21 = true) (k : V nx (a0 :: a1 :: a2 :: a3 :: a4 :: a5 :: a6 :: a7 :: a8 :: a9 :: a10 :: a11 :: a12 :: a13 :: a14 :: a15 :: a16 :: a17 :: a18 :: a19 :: a20 :: a21 :: zI (z + d) :: t) st σ) : V pc (a0 :: a1 :: a2 :: a3 :: a4 :: a5 :: a6 :: a7 :: a8 :: a9 :: a10 :: a11 :: a12 :: a13 :: a14 :: a15 :: a16 :: a17 :: a18 :: a19 :: a20 :: a21 :: zI z :: t) st σ := fn_iincG h hd (i := 22) rfl hi (fun j w e q => by cases e; cases q; exact hp) k

theorem fn_iload_23 {E : fnE} {own : String} {cc : ByteArray} {nL fr lo : Nat} {V : fnV} (h : fnCx E own cc nL fr lo V) {pc nx : Nat} {t st : List Value} {σ : fnMem} {a0 a1 a2 a3 a4 a5 a6 a7 a8 a9 a10 a11 a12 a13 a14 a15 a16 a17 a18 a19 a20 a21 a22 : Value} {z : Int} (hd : fnD cc pc (.iload 23) 2 nx) (k : V nx (a0 :: a1 :: a2 :: a3 :: a4 :: a5 :: a6 :: a7 :: a8 :: a9 :: a10 :: a11 :: a12 :: a13 :: a14 :: a15 :: a16 :: a17 :: a18 :: a19 :: a20 :: a21 :: a22 :: zI z :: t) (zI z :: st) σ) : V pc (a0 :: a1 :: a2 :: a3 :: a4 :: a5 :: a6 :: a7 :: a8 :: a9 :: a10 :: a11 :: a12 :: a13 :: a14 :: a15 :: a16 :: a17 :: a18 :: a19 :: a20 :: a21 :: a22 :: zI z :: t) st σ := fn_iloadG h hd (i := 23) rfl k

theorem fn_lload_23 {E : fnE} {own : String} {cc : ByteArray} {nL fr lo : Nat} {V : fnV} (h : fnCx E own cc nL fr lo V) {pc nx : Nat} {t st : List Value} {σ : fnMem} {a0 a1 a2 a3 a4 a5 a6 a7 a8 a9 a10 a11 a12 a13 a14 a15 a16 a17 a18 a19 a20 a21 a22 : Value} {z : Int} (hd : fnD cc pc (.lload 23) 2 nx) (k : V nx (a0 :: a1 :: a2 :: a3 :: a4 :: a5 :: a6 :: a7 :: a8 :: a9 :: a10 :: a11 :: a12 :: a13 :: a14 :: a15 :: a16 :: a17 :: a18 :: a19 :: a20 :: a21 :: a22 :: zL z :: t) (zL z :: st) σ) : V pc (a0 :: a1 :: a2 :: a3 :: a4 :: a5 :: a6 :: a7 :: a8 :: a9 :: a10 :: a11 :: a12 :: a13 :: a14 :: a15 :: a16 :: a17 :: a18 :: a19 :: a20 :: a21 :: a22 :: zL z :: t) st σ := fn_lloadG h hd (i := 23) rfl k

theorem fn_aload_23 {E : fnE} {own : String} {cc : ByteArray} {nL fr lo : Nat} {V : fnV} (h : fnCx E own cc nL fr lo V) {pc nx : Nat} {t st : List Value} {σ : fnMem} {a0 a1 a2 a3 a4 a5 a6 a7 a8 a9 a10 a11 a12 a13 a14 a15 a16 a17 a18 a19 a20 a21 a22 : Value} {z : Nat} (hd : fnD cc pc (.aload 23) 2 nx) (k : V nx (a0 :: a1 :: a2 :: a3 :: a4 :: a5 :: a6 :: a7 :: a8 :: a9 :: a10 :: a11 :: a12 :: a13 :: a14 :: a15 :: a16 :: a17 :: a18 :: a19 :: a20 :: a21 :: a22 :: .ref z :: t) (.ref z :: st) σ) : V pc (a0 :: a1 :: a2 :: a3 :: a4 :: a5 :: a6 :: a7 :: a8 :: a9 :: a10 :: a11 :: a12 :: a13 :: a14 :: a15 :: a16 :: a17 :: a18 :: a19 :: a20 :: a21 :: a22 :: .ref z :: t) st σ := fn_aloadG h hd (i := 23) rfl k

theorem fn_istore_23 {E : fnE} {own : String} {cc : ByteArray} {nL fr lo : Nat} {V : fnV} (h : fnCx E own cc nL fr lo V) {pc nx : Nat} {t st : List Value} {σ : fnMem} {a0 a1 a2 a3 a4 a5 a6 a7 a8 a9 a10 a11 a12 a13 a14 a15 a16 a17 a18 a19 a20 a21 a22 : Value} {b : Value} {z : Int} (hd : fnD cc pc (.istore 23) 2 nx) (hi : Nat.ble 24 nL = true) (hp : fnC1 a22 = true) (k : V nx (a0 :: a1 :: a2 :: a3 :: a4 :: a5 :: a6 :: a7 :: a8 :: a9 :: a10 :: a11 :: a12 :: a13 :: a14 :: a15 :: a16 :: a17 :: a18 :: a19 :: a20 :: a21 :: a22 :: zI z :: t) st σ) : V pc (a0 :: a1 :: a2 :: a3 :: a4 :: a5 :: a6 :: a7 :: a8 :: a9 :: a10 :: a11 :: a12 :: a13 :: a14 :: a15 :: a16 :: a17 :: a18 :: a19 :: a20 :: a21 :: a22 :: b :: t) (zI z :: st) σ := fn_istoreG h hd (i := 23) hi (fun j w e q => by cases e; cases q; exact hp) k

theorem fn_lstore_23 {E : fnE} {own : String} {cc : ByteArray} {nL fr lo : Nat} {V : fnV} (h : fnCx E own cc nL fr lo V) {pc nx : Nat} {t st : List Value} {σ : fnMem} {a0 a1 a2 a3 a4 a5 a6 a7 a8 a9 a10 a11 a12 a13 a14 a15 a16 a17 a18 a19 a20 a21 a22 : Value} {b b2 : Value} {z : Int} (hd : fnD cc pc (.lstore 23) 2 nx) (hi : Nat.ble 25 nL = true) (hp : fnC1 a22 = true) (k : V nx (a0 :: a1 :: a2 :: a3 :: a4 :: a5 :: a6 :: a7 :: a8 :: a9 :: a10 :: a11 :: a12 :: a13 :: a14 :: a15 :: a16 :: a17 :: a18 :: a19 :: a20 :: a21 :: a22 :: zL z :: .null :: t) st σ) : V pc (a0 :: a1 :: a2 :: a3 :: a4 :: a5 :: a6 :: a7 :: a8 :: a9 :: a10 :: a11 :: a12 :: a13 :: a14 :: a15 :: a16 :: a17 :: a18 :: a19 :: a20 :: a21 :: a22 :: b :: b2 :: t) (zL z :: st) σ := fn_lstoreG h hd (i := 23) hi (fun j w e q => by cases e; cases q; exact hp) k

theorem fn_astore_23 {E : fnE} {own : String} {cc : ByteArray} {nL fr lo : Nat} {V : fnV} (h : fnCx E own cc nL fr lo V) {pc nx : Nat} {t st : List Value} {σ : fnMem} {a0 a1 a2 a3 a4 a5 a6 a7 a8 a9 a10 a11 a12 a13 a14 a15 a16 a17 a18 a19 a20 a21 a22 : Value} {b : Value} {z : Nat} (hd : fnD cc pc (.astore 23) 2 nx) (hi : Nat.ble 24 nL = true) (hp : fnC1 a22 = true) (k : V nx (a0 :: a1 :: a2 :: a3 :: a4 :: a5 :: a6 :: a7 :: a8 :: a9 :: a10 :: a11 :: a12 :: a13 :: a14 :: a15 :: a16 :: a17 :: a18 :: a19 :: a20 :: a21 :: a22 :: .ref z :: t) st σ) : V pc (a0 :: a1 :: a2 :: a3 :: a4 :: a5 :: a6 :: a7 :: a8 :: a9 :: a10 :: a11 :: a12 :: a13 :: a14 :: a15 :: a16 :: a17 :: a18 :: a19 :: a20 :: a21 :: a22 :: b :: t) (.ref z :: st) σ := fn_astoreG h hd (i := 23) hi (fun j w e q => by cases e; cases q; exact hp) k

theorem fn_iinc_23 {E : fnE} {own : String} {cc : ByteArray} {nL fr lo : Nat} {V : fnV} (h : fnCx E own cc nL fr lo V) {pc nx : Nat} {t st : List Value} {σ : fnMem} {a0 a1 a2 a3 a4 a5 a6 a7 a8 a9 a10 a11 a12 a13 a14 a15 a16 a17 a18 a19 a20 a21 a22 : Value} {d z : Int} (hd : fnD cc pc (.iinc 23 d) 3 nx) (hi : Nat.ble 24 nL = true) (hp : fnC1 a22 = true) (k : V nx (a0 :: a1 :: a2 :: a3 :: a4 :: a5 :: a6 :: a7 :: a8 :: a9 :: a10 :: a11 :: a12 :: a13 :: a14 :: a15 :: a16 :: a17 :: a18 :: a19 :: a20 :: a21 :: a22 :: zI (z + d) :: t) st σ) : V pc (a0 :: a1 :: a2 :: a3 :: a4 :: a5 :: a6 :: a7 :: a8 :: a9 :: a10 :: a11 :: a12 :: a13 :: a14 :: a15 :: a16 :: a17 :: a18 :: a19 :: a20 :: a21 :: a22 :: zI z :: t) st σ := fn_iincG h hd (i := 23) rfl hi (fun j w e q => by cases e; cases q; exact hp) k

theorem fn_iload_24 {E : fnE} {own : String} {cc : ByteArray} {nL fr lo : Nat} {V : fnV} (h : fnCx E own cc nL fr lo V) {pc nx : Nat} {t st : List Value} {σ : fnMem} {a0 a1 a2 a3 a4 a5 a6 a7 a8 a9 a10 a11 a12 a13 a14 a15 a16 a17 a18 a19 a20 a21 a22 a23 : Value} {z : Int} (hd : fnD cc pc (.iload 24) 2 nx) (k : V nx (a0 :: a1 :: a2 :: a3 :: a4 :: a5 :: a6 :: a7 :: a8 :: a9 :: a10 :: a11 :: a12 :: a13 :: a14 :: a15 :: a16 :: a17 :: a18 :: a19 :: a20 :: a21 :: a22 :: a23 :: zI z :: t) (zI z :: st) σ) : V pc (a0 :: a1 :: a2 :: a3 :: a4 :: a5 :: a6 :: a7 :: a8 :: a9 :: a10 :: a11 :: a12 :: a13 :: a14 :: a15 :: a16 :: a17 :: a18 :: a19 :: a20 :: a21 :: a22 :: a23 :: zI z :: t) st σ := fn_iloadG h hd (i := 24) rfl k

theorem fn_lload_24 {E : fnE} {own : String} {cc : ByteArray} {nL fr lo : Nat} {V : fnV} (h : fnCx E own cc nL fr lo V) {pc nx : Nat} {t st : List Value} {σ : fnMem} {a0 a1 a2 a3 a4 a5 a6 a7 a8 a9 a10 a11 a12 a13 a14 a15 a16 a17 a18 a19 a20 a21 a22 a23 : Value} {z : Int} (hd : fnD cc pc (.lload 24) 2 nx) (k : V nx (a0 :: a1 :: a2 :: a3 :: a4 :: a5 :: a6 :: a7 :: a8 :: a9 :: a10 :: a11 :: a12 :: a13 :: a14 :: a15 :: a16 :: a17 :: a18 :: a19 :: a20 :: a21 :: a22 :: a23 :: zL z :: t) (zL z :: st) σ) : V pc (a0 :: a1 :: a2 :: a3 :: a4 :: a5 :: a6 :: a7 :: a8 :: a9 :: a10 :: a11 :: a12 :: a13 :: a14 :: a15 :: a16 :: a17 :: a18 :: a19 :: a20 :: a21 :: a22 :: a23 :: zL z :: t) st σ := fn_lloadG h hd (i := 24) rfl k

theorem fn_aload_24 {E : fnE} {own : String} {cc : ByteArray} {nL fr lo : Nat} {V : fnV} (h : fnCx E own cc nL fr lo V) {pc nx : Nat} {t st : List Value} {σ : fnMem} {a0 a1 a2 a3 a4 a5 a6 a7 a8 a9 a10 a11 a12 a13 a14 a15 a16 a17 a18 a19 a20 a21 a22 a23 : Value} {z : Nat} (hd : fnD cc pc (.aload 24) 2 nx) (k : V nx (a0 :: a1 :: a2 :: a3 :: a4 :: a5 :: a6 :: a7 :: a8 :: a9 :: a10 :: a11 :: a12 :: a13 :: a14 :: a15 :: a16 :: a17 :: a18 :: a19 :: a20 :: a21 :: a22 :: a23 :: .ref z :: t) (.ref z :: st) σ) : V pc (a0 :: a1 :: a2 :: a3 :: a4 :: a5 :: a6 :: a7 :: a8 :: a9 :: a10 :: a11 :: a12 :: a13 :: a14 :: a15 :: a16 :: a17 :: a18 :: a19 :: a20 :: a21 :: a22 :: a23 :: .ref z :: t) st σ := fn_aloadG h hd (i := 24) rfl k

theorem fn_istore_24 {E : fnE} {own : String} {cc : ByteArray} {nL fr lo : Nat} {V : fnV} (h : fnCx E own cc nL fr lo V) {pc nx : Nat} {t st : List Value} {σ : fnMem} {a0 a1 a2 a3 a4 a5 a6 a7 a8 a9 a10 a11 a12 a13 a14 a15 a16 a17 a18 a19 a20 a21 a22 a23 : Value} {b : Value} {z : Int} (hd : fnD cc pc (.istore 24) 2 nx) (hi : Nat.ble 25 nL = true) (hp : fnC1 a23 = true) (k : V nx (a0 :: a1 :: a2 :: a3 :: a4 :: a5 :: a6 :: a7 :: a8 :: a9 :: a10 :: a11 :: a12 :: a13 :: a14 :: a15 :: a16 :: a17 :: a18 :: a19 :: a20 :: a21 :: a22 :: a23 :: zI z :: t) st σ) : V pc (a0 :: a1 :: a2 :: a3 :: a4 :: a5 :: a6 :: a7 :: a8 :: a9 :: a10 :: a11 :: a12 :: a13 :: a14 :: a15 :: a16 :: a17 :: a18 :: a19 :: a20 :: a21 :: a22 :: a23 :: b :: t) (zI z :: st) σ := fn_istoreG h hd (i := 24) hi (fun j w e q => by cases e; cases q; exact hp) k

theorem fn_lstore_24 {E : fnE} {own : String} {cc : ByteArray} {nL fr lo : Nat} {V : fnV} (h : fnCx E own cc nL fr lo V) {pc nx : Nat} {t st : List Value} {σ : fnMem} {a0 a1 a2 a3 a4 a5 a6 a7 a8 a9 a10 a11 a12 a13 a14 a15 a16 a17 a18 a19 a20 a21 a22 a23 : Value} {b b2 : Value} {z : Int} (hd : fnD cc pc (.lstore 24) 2 nx) (hi : Nat.ble 26 nL = true) (hp : fnC1 a23 = true) (k : V nx (a0 :: a1 :: a2 :: a3 :: a4 :: a5 :: a6 :: a7 :: a8 :: a9 :: a10 :: a11 :: a12 :: a13 :: a14 :: a15 :: a16 :: a17 :: a18 :: a19 :: a20 :: a21 :: a22 :: a23 :: zL z :: .null :: t) st σ) : V pc (a0 :: a1 :: a2 :: a3 :: a4 :: a5 :: a6 :: a7 :: a8 :: a9 :: a10 :: a11 :: a12 :: a13 :: a14 :: a15 :: a16 :: a17 :: a18 :: a19 :: a20 :: a21 :: a22 :: a23 :: b :: b2 :: t) (zL z :: st) σ := fn_lstoreG h hd (i := 24) hi (fun j w e q => by cases e; cases q; exact hp) k

theorem fn_astore_24 {E : fnE} {own : String} {cc : ByteArray} {nL fr lo : Nat} {V : fnV} (h : fnCx E own cc nL fr lo V) {pc nx : Nat} {t st : List Value} {σ : fnMem} {a0 a1 a2 a3 a4 a5 a6 a7 a8 a9 a10 a11 a12 a13 a14 a15 a16 a17 a18 a19 a20 a21 a22 a23 : Value} {b : Value} {z : Nat} (hd : fnD cc pc (.astore 24) 2 nx) (hi : Nat.ble 25 nL = true) (hp : fnC1 a23 = true) (k : V nx (a0 :: a1 :: a2 :: a3 :: a4 :: a5 :: a6 :: a7 :: a8 :: a9 :: a10 :: a11 :: a12 :: a13 :: a14 :: a15 :: a16 :: a17 :: a18 :: a19 :: a20 :: a21 :: a22 :: a23 :: .ref z :: t) st σ) : V pc (a0 :: a1 :: a2 :: a3 :: a4 :: a5 :: a6 :: a7 :: a8 :: a9 :: a10 :: a11 :: a12 :: a13 :: a14 :: a15 :: a16 :: a17 :: a18 :: a19 :: a20 :: a21 :: a22 :: a23 :: b :: t) (.ref z :: st) σ := fn_astoreG h hd (i := 24) hi (fun j w e q => by cases e; cases q; exact hp) k

theorem fn_iinc_24 {E : fnE} {own : String} {cc : ByteArray} {nL fr lo : Nat} {V : fnV} (h : fnCx E own cc nL fr lo V) {pc nx : Nat} {t st : List Value} {σ : fnMem} {a0 a1 a2 a3 a4 a5 a6 a7 a8 a9 a10 a11 a12 a13 a14 a15 a16 a17 a18 a19 a20 a21 a22 a23 : Value} {d z : Int} (hd : fnD cc pc (.iinc 24 d) 3 nx) (hi : Nat.ble 25 nL = true) (hp : fnC1 a23 = true) (k : V nx (a0 :: a1 :: a2 :: a3 :: a4 :: a5 :: a6 :: a7 :: a8 :: a9 :: a10 :: a11 :: a12 :: a13 :: a14 :: a15 :: a16 :: a17 :: a18 :: a19 :: a20 :: a21 :: a22 :: a23 :: zI (z + d) :: t) st σ) : V pc (a0 :: a1 :: a2 :: a3 :: a4 :: a5 :: a6 :: a7 :: a8 :: a9 :: a10 :: a11 :: a12 :: a13 :: a14 :: a15 :: a16 :: a17 :: a18 :: a19 :: a20 :: a21 :: a22 :: a23 :: zI z :: t) st σ := fn_iincG h hd (i := 24) rfl hi (fun j w e q => by cases e; cases q; exact hp) k

theorem fn_iadd {E : fnE} {own : String} {cc : ByteArray} {nL fr lo : Nat} {V : fnV} (h : fnCx E own cc nL fr lo V) {pc nx : Nat} {lv st : List Value} {σ : fnMem} {x y : Int} (hd : fnD cc pc .iadd 1 nx) (k : V nx lv (zI (x + y) :: st) σ) : V pc lv (zI y :: zI x :: st) σ := by
  obtain ⟨p, l, e, R, s, m, args, below, meth, c, A, cells, slots, Q, ⟨hx, hb, hml, hown, hts⟩, hK, hD, hA, hZ, hT, hN, ⟨r1, r2, r3, r4⟩, rfl⟩ := h
  obtain ⟨hd, rfl⟩ := hd
  intro H locs ls hP hS hl
  have k := k H locs ls hP hS hl
  rw [zI, Int32.ofInt_add] at k
  exact lv_iadd hx hb hd k

theorem fn_isub {E : fnE} {own : String} {cc : ByteArray} {nL fr lo : Nat} {V : fnV} (h : fnCx E own cc nL fr lo V) {pc nx : Nat} {lv st : List Value} {σ : fnMem} {x y : Int} (hd : fnD cc pc .isub 1 nx) (k : V nx lv (zI (x - y) :: st) σ) : V pc lv (zI y :: zI x :: st) σ := by
  obtain ⟨p, l, e, R, s, m, args, below, meth, c, A, cells, slots, Q, ⟨hx, hb, hml, hown, hts⟩, hK, hD, hA, hZ, hT, hN, ⟨r1, r2, r3, r4⟩, rfl⟩ := h
  obtain ⟨hd, rfl⟩ := hd
  intro H locs ls hP hS hl
  have k := k H locs ls hP hS hl
  rw [zI, Int32.ofInt_sub] at k
  exact lv_isub hx hb hd k

theorem fn_imul {E : fnE} {own : String} {cc : ByteArray} {nL fr lo : Nat} {V : fnV} (h : fnCx E own cc nL fr lo V) {pc nx : Nat} {lv st : List Value} {σ : fnMem} {x y : Int} (hd : fnD cc pc .imul 1 nx) (k : V nx lv (zI (x * y) :: st) σ) : V pc lv (zI y :: zI x :: st) σ := by
  obtain ⟨p, l, e, R, s, m, args, below, meth, c, A, cells, slots, Q, ⟨hx, hb, hml, hown, hts⟩, hK, hD, hA, hZ, hT, hN, ⟨r1, r2, r3, r4⟩, rfl⟩ := h
  obtain ⟨hd, rfl⟩ := hd
  intro H locs ls hP hS hl
  have k := k H locs ls hP hS hl
  rw [zI, Int32.ofInt_mul] at k
  exact lv_imul hx hb hd k

theorem fn_ladd {E : fnE} {own : String} {cc : ByteArray} {nL fr lo : Nat} {V : fnV} (h : fnCx E own cc nL fr lo V) {pc nx : Nat} {lv st : List Value} {σ : fnMem} {x y : Int} (hd : fnD cc pc .ladd 1 nx) (k : V nx lv (zL (x + y) :: st) σ) : V pc lv (zL y :: zL x :: st) σ := by
  obtain ⟨p, l, e, R, s, m, args, below, meth, c, A, cells, slots, Q, ⟨hx, hb, hml, hown, hts⟩, hK, hD, hA, hZ, hT, hN, ⟨r1, r2, r3, r4⟩, rfl⟩ := h
  obtain ⟨hd, rfl⟩ := hd
  intro H locs ls hP hS hl
  have k := k H locs ls hP hS hl
  rw [zL, Int64.ofInt_add] at k
  exact lv_ladd hx hb hd k

theorem fn_lsub {E : fnE} {own : String} {cc : ByteArray} {nL fr lo : Nat} {V : fnV} (h : fnCx E own cc nL fr lo V) {pc nx : Nat} {lv st : List Value} {σ : fnMem} {x y : Int} (hd : fnD cc pc .lsub 1 nx) (k : V nx lv (zL (x - y) :: st) σ) : V pc lv (zL y :: zL x :: st) σ := by
  obtain ⟨p, l, e, R, s, m, args, below, meth, c, A, cells, slots, Q, ⟨hx, hb, hml, hown, hts⟩, hK, hD, hA, hZ, hT, hN, ⟨r1, r2, r3, r4⟩, rfl⟩ := h
  obtain ⟨hd, rfl⟩ := hd
  intro H locs ls hP hS hl
  have k := k H locs ls hP hS hl
  rw [zL, Int64.ofInt_sub] at k
  exact lv_lsub hx hb hd k

theorem fn_lmul {E : fnE} {own : String} {cc : ByteArray} {nL fr lo : Nat} {V : fnV} (h : fnCx E own cc nL fr lo V) {pc nx : Nat} {lv st : List Value} {σ : fnMem} {x y : Int} (hd : fnD cc pc .lmul 1 nx) (k : V nx lv (zL (x * y) :: st) σ) : V pc lv (zL y :: zL x :: st) σ := by
  obtain ⟨p, l, e, R, s, m, args, below, meth, c, A, cells, slots, Q, ⟨hx, hb, hml, hown, hts⟩, hK, hD, hA, hZ, hT, hN, ⟨r1, r2, r3, r4⟩, rfl⟩ := h
  obtain ⟨hd, rfl⟩ := hd
  intro H locs ls hP hS hl
  have k := k H locs ls hP hS hl
  rw [zL, Int64.ofInt_mul] at k
  exact lv_lmul hx hb hd k

theorem fn_idiv {E : fnE} {own : String} {cc : ByteArray} {nL fr lo : Nat} {V : fnV} (h : fnCx E own cc nL fr lo V) {pc nx : Nat} {lv st : List Value} {σ : fnMem} {x y : Int} (hd : fnD cc pc .idiv 1 nx) (hx1 : fnR x) (hy : 0 < y) (hy2 : fnR y) (k : V nx lv (zI (x.tdiv y) :: st) σ) : V pc lv (zI y :: zI x :: st) σ := by
  obtain ⟨p, l, e, R, s, m, args, below, meth, c, A, cells, slots, Q, ⟨hx, hb, hml, hown, hts⟩, hK, hD, hA, hZ, hT, hN, ⟨r1, r2, r3, r4⟩, rfl⟩ := h
  obtain ⟨hd, rfl⟩ := hd
  intro H locs ls hP hS hl
  have k := k H locs ls hP hS hl
  rw [zI, ← fn_divI hx1 hy hy2] at k
  exact lv_idiv hx hb hd (fun q => by
    have := congrArg Int32.toInt q
    rw [fn_toI hy2] at this
    have h0 : (0 : Int32).toInt = 0 := by decide +kernel
    omega) k

theorem fn_irem {E : fnE} {own : String} {cc : ByteArray} {nL fr lo : Nat} {V : fnV} (h : fnCx E own cc nL fr lo V) {pc nx : Nat} {lv st : List Value} {σ : fnMem} {x y : Int} (hd : fnD cc pc .irem 1 nx) (hx1 : fnR x) (hy : 0 < y) (hy2 : fnR y) (k : V nx lv (zI (x.tmod y) :: st) σ) : V pc lv (zI y :: zI x :: st) σ := by
  obtain ⟨p, l, e, R, s, m, args, below, meth, c, A, cells, slots, Q, ⟨hx, hb, hml, hown, hts⟩, hK, hD, hA, hZ, hT, hN, ⟨r1, r2, r3, r4⟩, rfl⟩ := h
  obtain ⟨hd, rfl⟩ := hd
  intro H locs ls hP hS hl
  have k := k H locs ls hP hS hl
  rw [zI, ← fn_remI hx1 hy hy2] at k
  exact lv_irem hx hb hd (fun q => by
    have := congrArg Int32.toInt q
    rw [fn_toI hy2] at this
    have h0 : (0 : Int32).toInt = 0 := by decide +kernel
    omega) k

theorem fn_ldiv {E : fnE} {own : String} {cc : ByteArray} {nL fr lo : Nat} {V : fnV} (h : fnCx E own cc nL fr lo V) {pc nx : Nat} {lv st : List Value} {σ : fnMem} {x y : Int} (hd : fnD cc pc .ldiv 1 nx) (hx1 : fnRl x) (hy : 0 < y) (hy2 : fnRl y) (k : V nx lv (zL (x.tdiv y) :: st) σ) : V pc lv (zL y :: zL x :: st) σ := by
  obtain ⟨p, l, e, R, s, m, args, below, meth, c, A, cells, slots, Q, ⟨hx, hb, hml, hown, hts⟩, hK, hD, hA, hZ, hT, hN, ⟨r1, r2, r3, r4⟩, rfl⟩ := h
  obtain ⟨hd, rfl⟩ := hd
  intro H locs ls hP hS hl
  have k := k H locs ls hP hS hl
  rw [zL, ← fn_divL hx1 hy hy2] at k
  exact lv_ldiv hx hb hd (fun q => by
    have := congrArg Int64.toInt q
    rw [fn_toL hy2] at this
    have h0 : (0 : Int64).toInt = 0 := by decide +kernel
    omega) k

theorem fn_lrem {E : fnE} {own : String} {cc : ByteArray} {nL fr lo : Nat} {V : fnV} (h : fnCx E own cc nL fr lo V) {pc nx : Nat} {lv st : List Value} {σ : fnMem} {x y : Int} (hd : fnD cc pc .lrem 1 nx) (hx1 : fnRl x) (hy : 0 < y) (hy2 : fnRl y) (k : V nx lv (zL (x.tmod y) :: st) σ) : V pc lv (zL y :: zL x :: st) σ := by
  obtain ⟨p, l, e, R, s, m, args, below, meth, c, A, cells, slots, Q, ⟨hx, hb, hml, hown, hts⟩, hK, hD, hA, hZ, hT, hN, ⟨r1, r2, r3, r4⟩, rfl⟩ := h
  obtain ⟨hd, rfl⟩ := hd
  intro H locs ls hP hS hl
  have k := k H locs ls hP hS hl
  rw [zL, ← fn_remL hx1 hy hy2] at k
  exact lv_lrem hx hb hd (fun q => by
    have := congrArg Int64.toInt q
    rw [fn_toL hy2] at this
    have h0 : (0 : Int64).toInt = 0 := by decide +kernel
    omega) k

theorem fn_ineg {E : fnE} {own : String} {cc : ByteArray} {nL fr lo : Nat} {V : fnV} (h : fnCx E own cc nL fr lo V) {pc nx : Nat} {lv st : List Value} {σ : fnMem} {x : Int} (hd : fnD cc pc .ineg 1 nx) (k : V nx lv (zI (-x) :: st) σ) : V pc lv (zI x :: st) σ := by
  obtain ⟨p, l, e, R, s, m, args, below, meth, c, A, cells, slots, Q, ⟨hx, hb, hml, hown, hts⟩, hK, hD, hA, hZ, hT, hN, ⟨r1, r2, r3, r4⟩, rfl⟩ := h
  obtain ⟨hd, rfl⟩ := hd
  intro H locs ls hP hS hl
  have k := k H locs ls hP hS hl
  rw [zI, ← Int32.neg_ofInt] at k
  exact lv_ineg hx hb hd k

theorem fn_lneg {E : fnE} {own : String} {cc : ByteArray} {nL fr lo : Nat} {V : fnV} (h : fnCx E own cc nL fr lo V) {pc nx : Nat} {lv st : List Value} {σ : fnMem} {x : Int} (hd : fnD cc pc .lneg 1 nx) (k : V nx lv (zL (-x) :: st) σ) : V pc lv (zL x :: st) σ := by
  obtain ⟨p, l, e, R, s, m, args, below, meth, c, A, cells, slots, Q, ⟨hx, hb, hml, hown, hts⟩, hK, hD, hA, hZ, hT, hN, ⟨r1, r2, r3, r4⟩, rfl⟩ := h
  obtain ⟨hd, rfl⟩ := hd
  intro H locs ls hP hS hl
  have k := k H locs ls hP hS hl
  rw [zL, ← Int64.neg_ofInt] at k
  exact lv_lneg hx hb hd k

theorem fn_i2lr {E : fnE} {own : String} {cc : ByteArray} {nL fr lo : Nat} {V : fnV} (h : fnCx E own cc nL fr lo V) {pc nx : Nat} {lv st : List Value} {σ : fnMem} {x : Int} (hd : fnD cc pc .i2l 1 nx) (hx1 : fnR x) (k : V nx lv (zL x :: st) σ) : V pc lv (zI x :: st) σ := by
  obtain ⟨p, l, e, R, s, m, args, below, meth, c, A, cells, slots, Q, ⟨hx, hb, hml, hown, hts⟩, hK, hD, hA, hZ, hT, hN, ⟨r1, r2, r3, r4⟩, rfl⟩ := h
  obtain ⟨hd, rfl⟩ := hd
  intro H locs ls hP hS hl
  have k := k H locs ls hP hS hl
  exact lv_i2l hx hb hd (fn_i2l hx1) k

theorem fn_l2i {E : fnE} {own : String} {cc : ByteArray} {nL fr lo : Nat} {V : fnV} (h : fnCx E own cc nL fr lo V) {pc nx : Nat} {lv st : List Value} {σ : fnMem} {x : Int} (hd : fnD cc pc .l2i 1 nx) (k : V nx lv (zI x :: st) σ) : V pc lv (zL x :: st) σ := by
  obtain ⟨p, l, e, R, s, m, args, below, meth, c, A, cells, slots, Q, ⟨hx, hb, hml, hown, hts⟩, hK, hD, hA, hZ, hT, hN, ⟨r1, r2, r3, r4⟩, rfl⟩ := h
  obtain ⟨hd, rfl⟩ := hd
  intro H locs ls hP hS hl
  have k := k H locs ls hP hS hl
  exact lv_l2i hx hb hd Int64.toInt32_ofInt k

theorem fn_andI (x : Int) (k : Nat) (hk : k < 31) {m : Int} (hm : m = 2 ^ k - 1) : Int32.ofInt x &&& Int32.ofInt m = Int32.ofInt (x % 2 ^ k) := by
  have hp : (2 : Nat) ^ k < 2 ^ 31 := Nat.pow_lt_pow_right (by decide) hk
  have hp0 : 0 < (2 : Nat) ^ k := Nat.pow_pos (by decide)
  have hm' : (Int32.ofInt m).toBitVec.toNat = 2 ^ k - 1 := by
    subst hm
    rw [show ((2 : Int) ^ k - 1) = ((2 ^ k - 1 : Nat) : Int) by
      rw [Int.natCast_sub (by omega)]; simp]
    rw [Int32.toBitVec_ofInt, BitVec.toNat_ofInt]
    have : ((2 ^ k - 1 : Nat) : Int) % ((2 ^ 32 : Nat) : Int) = ((2 ^ k - 1 : Nat) : Int) := Int.emod_eq_of_lt (by omega) (by omega)
    rw [this]; simp
  rw [pk_and _ k hm', Int32.toBitVec_ofInt, BitVec.toNat_ofInt, nI, ← Int32.ofInt_eq_ofNat]
  congr 1
  have hd : ((2 : Int) ^ k) ∣ ((2 ^ 32 : Nat) : Int) := by
    refine ⟨((2 ^ (32 - k) : Nat) : Int), ?_⟩
    have e1 : (2 : Nat) ^ 32 = 2 ^ k * 2 ^ (32 - k) := by rw [← Nat.pow_add]; congr 1; omega
    have e2 : ((2 ^ 32 : Nat) : Int) = ((2 ^ k * 2 ^ (32 - k) : Nat) : Int) := by rw [e1]
    rw [e2, Int.natCast_mul]; simp
  have hnn : 0 ≤ x % ((2 ^ 32 : Nat) : Int) := Int.emod_nonneg _ (by decide)
  rw [Int.natCast_emod, Int.toNat_of_nonneg hnn, Int.natCast_pow]
  exact Int.emod_emod_of_dvd x hd

theorem fn_iand {E : fnE} {own : String} {cc : ByteArray} {nL fr lo : Nat} {V : fnV} (h : fnCx E own cc nL fr lo V) {pc nx : Nat} {lv st : List Value} {σ : fnMem} {x m : Int} (j : Nat) (hd : fnD cc pc .iand 1 nx) (hj : j < 31) (hm : m = 2 ^ j - 1) (k : V nx lv (zI (x % 2 ^ j) :: st) σ) : V pc lv (zI m :: zI x :: st) σ := by
  obtain ⟨p, l, e, R, s, m, args, below, meth, c, A, cells, slots, Q, ⟨hx, hb, hml, hown, hts⟩, hK, hD, hA, hZ, hT, hN, ⟨r1, r2, r3, r4⟩, rfl⟩ := h
  obtain ⟨hd, rfl⟩ := hd
  intro H locs ls hP hS hl
  have k := k H locs ls hP hS hl
  rw [zI, ← fn_andI x j hj hm] at k
  exact lv_iand hx hb hd k

theorem fn_ixor {E : fnE} {own : String} {cc : ByteArray} {nL fr lo : Nat} {V : fnV} (h : fnCx E own cc nL fr lo V) {pc nx : Nat} {lv st : List Value} {σ : fnMem} {x y : Int} (hd : fnD cc pc .ixor 1 nx) (k : V nx lv (zI (Int32.ofInt x ^^^ Int32.ofInt y).toInt :: st) σ) : V pc lv (zI y :: zI x :: st) σ := by
  obtain ⟨p, l, e, R, s, m, args, below, meth, c, A, cells, slots, Q, ⟨hx, hb, hml, hown, hts⟩, hK, hD, hA, hZ, hT, hN, ⟨r1, r2, r3, r4⟩, rfl⟩ := h
  obtain ⟨hd, rfl⟩ := hd
  intro H locs ls hP hS hl
  have k := k H locs ls hP hS hl
  rw [zI, Int32.ofInt_toInt] at k
  exact lv_ixor hx hb hd k

theorem fn_lxor {E : fnE} {own : String} {cc : ByteArray} {nL fr lo : Nat} {V : fnV} (h : fnCx E own cc nL fr lo V) {pc nx : Nat} {lv st : List Value} {σ : fnMem} {x y : Int} (hd : fnD cc pc .lxor 1 nx) (k : V nx lv (zL (Int64.ofInt x ^^^ Int64.ofInt y).toInt :: st) σ) : V pc lv (zL y :: zL x :: st) σ := by
  obtain ⟨p, l, e, R, s, m, args, below, meth, c, A, cells, slots, Q, ⟨hx, hb, hml, hown, hts⟩, hK, hD, hA, hZ, hT, hN, ⟨r1, r2, r3, r4⟩, rfl⟩ := h
  obtain ⟨hd, rfl⟩ := hd
  intro H locs ls hP hS hl
  have k := k H locs ls hP hS hl
  rw [zL, Int64.ofInt_toInt] at k
  exact lv_lxor hx hb hd k

theorem fn_dup {E : fnE} {own : String} {cc : ByteArray} {nL fr lo : Nat} {V : fnV} (h : fnCx E own cc nL fr lo V) {pc nx : Nat} {lv st : List Value} {σ : fnMem} {v : Value} (hd : fnD cc pc .dup 1 nx) (hv : fnC1 v = true) (k : V nx lv (v :: v :: st) σ) : V pc lv (v :: st) σ := by
  obtain ⟨p, l, e, R, s, m, args, below, meth, c, A, cells, slots, Q, ⟨hx, hb, hml, hown, hts⟩, hK, hD, hA, hZ, hT, hN, ⟨r1, r2, r3, r4⟩, rfl⟩ := h
  obtain ⟨hd, rfl⟩ := hd
  intro H locs ls hP hS hl
  have k := k H locs ls hP hS hl
  exact lv_dup hx hb hd ((fnTr_cat E v).trans (fnC1_cat hv)) k

theorem fn_pop {E : fnE} {own : String} {cc : ByteArray} {nL fr lo : Nat} {V : fnV} (h : fnCx E own cc nL fr lo V) {pc nx : Nat} {lv st : List Value} {σ : fnMem} {v : Value} (hd : fnD cc pc .pop 1 nx) (hv : fnC1 v = true) (k : V nx lv st σ) : V pc lv (v :: st) σ := by
  obtain ⟨p, l, e, R, s, m, args, below, meth, c, A, cells, slots, Q, ⟨hx, hb, hml, hown, hts⟩, hK, hD, hA, hZ, hT, hN, ⟨r1, r2, r3, r4⟩, rfl⟩ := h
  obtain ⟨hd, rfl⟩ := hd
  intro H locs ls hP hS hl
  have k := k H locs ls hP hS hl
  exact lv_pop hx hb hd ((fnTr_cat E v).trans (fnC1_cat hv)) k

theorem fn_dup2 {E : fnE} {own : String} {cc : ByteArray} {nL fr lo : Nat} {V : fnV} (h : fnCx E own cc nL fr lo V) {pc nx : Nat} {lv st : List Value} {σ : fnMem} {v w : Value} (hd : fnD cc pc .dup2 1 nx) (hv : fnC1 v = true) (hw : fnC1 w = true) (k : V nx lv (v :: w :: v :: w :: st) σ) : V pc lv (v :: w :: st) σ := by
  obtain ⟨p, l, e, R, s, m, args, below, meth, c, A, cells, slots, Q, ⟨hx, hb, hml, hown, hts⟩, hK, hD, hA, hZ, hT, hN, ⟨r1, r2, r3, r4⟩, rfl⟩ := h
  obtain ⟨hd, rfl⟩ := hd
  intro H locs ls hP hS hl
  have k := k H locs ls hP hS hl
  exact lv_dup2_11 hx hb hd ((fnTr_cat E v).trans (fnC1_cat hv)) ((fnTr_cat E w).trans (fnC1_cat hw)) k

theorem fn_icmp_eq {E : fnE} {own : String} {cc : ByteArray} {nL fr lo : Nat} {V : fnV} (h : fnCx E own cc nL fr lo V) {pc nx : Nat} {lv st : List Value} {σ : fnMem} {tgt : Nat} {x y : Int} (hx1 : fnR x) (hy1 : fnR y) (hd : fnIc cc pc .eq tgt nx) (kt : x = y → V tgt lv st σ) (kf : x ≠ y → V nx lv st σ) : V pc lv (zI y :: zI x :: st) σ := by
  obtain ⟨p, l, e, R, s, m, args, below, meth, c, A, cells, slots, Q, ⟨hx, hb, hml, hown, hts⟩, hK, hD, hA, hZ, hT, hN, ⟨r1, r2, r3, r4⟩, rfl⟩ := h
  obtain ⟨hd, rfl⟩ := hd
  intro H locs ls hP hS hl
  have ht : (pc : Int) + ((tgt : Int) - (pc : Int)) = (tgt : Int) := by omega
  exact lv_icmp_eq hx hb hd ht (fun q => kt (by rw [fn_eqI hx1 hy1] at q; omega) H locs ls hP hS hl) (fun q => kf (by rw [fn_eqI hx1 hy1] at q; omega) H locs ls hP hS hl)

theorem fn_icmp_ne {E : fnE} {own : String} {cc : ByteArray} {nL fr lo : Nat} {V : fnV} (h : fnCx E own cc nL fr lo V) {pc nx : Nat} {lv st : List Value} {σ : fnMem} {tgt : Nat} {x y : Int} (hx1 : fnR x) (hy1 : fnR y) (hd : fnIc cc pc .ne tgt nx) (kt : x ≠ y → V tgt lv st σ) (kf : x = y → V nx lv st σ) : V pc lv (zI y :: zI x :: st) σ := by
  obtain ⟨p, l, e, R, s, m, args, below, meth, c, A, cells, slots, Q, ⟨hx, hb, hml, hown, hts⟩, hK, hD, hA, hZ, hT, hN, ⟨r1, r2, r3, r4⟩, rfl⟩ := h
  obtain ⟨hd, rfl⟩ := hd
  intro H locs ls hP hS hl
  have ht : (pc : Int) + ((tgt : Int) - (pc : Int)) = (tgt : Int) := by omega
  exact lv_icmp_ne hx hb hd ht (fun q => kt (by rw [fn_eqI hx1 hy1] at q; omega) H locs ls hP hS hl) (fun q => kf (by rw [fn_eqI hx1 hy1] at q; omega) H locs ls hP hS hl)

theorem fn_icmp_lt {E : fnE} {own : String} {cc : ByteArray} {nL fr lo : Nat} {V : fnV} (h : fnCx E own cc nL fr lo V) {pc nx : Nat} {lv st : List Value} {σ : fnMem} {tgt : Nat} {x y : Int} (hx1 : fnR x) (hy1 : fnR y) (hd : fnIc cc pc .lt tgt nx) (kt : x < y → V tgt lv st σ) (kf : y ≤ x → V nx lv st σ) : V pc lv (zI y :: zI x :: st) σ := by
  obtain ⟨p, l, e, R, s, m, args, below, meth, c, A, cells, slots, Q, ⟨hx, hb, hml, hown, hts⟩, hK, hD, hA, hZ, hT, hN, ⟨r1, r2, r3, r4⟩, rfl⟩ := h
  obtain ⟨hd, rfl⟩ := hd
  intro H locs ls hP hS hl
  have ht : (pc : Int) + ((tgt : Int) - (pc : Int)) = (tgt : Int) := by omega
  exact lv_icmp_lt hx hb hd ht (fun q => kt (by rw [fn_ltI hx1 hy1] at q; omega) H locs ls hP hS hl) (fun q => kf (by rw [fn_ltI hx1 hy1] at q; omega) H locs ls hP hS hl)

theorem fn_icmp_ge {E : fnE} {own : String} {cc : ByteArray} {nL fr lo : Nat} {V : fnV} (h : fnCx E own cc nL fr lo V) {pc nx : Nat} {lv st : List Value} {σ : fnMem} {tgt : Nat} {x y : Int} (hx1 : fnR x) (hy1 : fnR y) (hd : fnIc cc pc .ge tgt nx) (kt : y ≤ x → V tgt lv st σ) (kf : x < y → V nx lv st σ) : V pc lv (zI y :: zI x :: st) σ := by
  obtain ⟨p, l, e, R, s, m, args, below, meth, c, A, cells, slots, Q, ⟨hx, hb, hml, hown, hts⟩, hK, hD, hA, hZ, hT, hN, ⟨r1, r2, r3, r4⟩, rfl⟩ := h
  obtain ⟨hd, rfl⟩ := hd
  intro H locs ls hP hS hl
  have ht : (pc : Int) + ((tgt : Int) - (pc : Int)) = (tgt : Int) := by omega
  exact lv_icmp_ge hx hb hd ht (fun q => kt (by rw [fn_leI hy1 hx1] at q; omega) H locs ls hP hS hl) (fun q => kf (by rw [fn_leI hy1 hx1] at q; omega) H locs ls hP hS hl)

theorem fn_icmp_gt {E : fnE} {own : String} {cc : ByteArray} {nL fr lo : Nat} {V : fnV} (h : fnCx E own cc nL fr lo V) {pc nx : Nat} {lv st : List Value} {σ : fnMem} {tgt : Nat} {x y : Int} (hx1 : fnR x) (hy1 : fnR y) (hd : fnIc cc pc .gt tgt nx) (kt : y < x → V tgt lv st σ) (kf : x ≤ y → V nx lv st σ) : V pc lv (zI y :: zI x :: st) σ := by
  obtain ⟨p, l, e, R, s, m, args, below, meth, c, A, cells, slots, Q, ⟨hx, hb, hml, hown, hts⟩, hK, hD, hA, hZ, hT, hN, ⟨r1, r2, r3, r4⟩, rfl⟩ := h
  obtain ⟨hd, rfl⟩ := hd
  intro H locs ls hP hS hl
  have ht : (pc : Int) + ((tgt : Int) - (pc : Int)) = (tgt : Int) := by omega
  exact lv_icmp_gt hx hb hd ht (fun q => kt (by rw [fn_ltI hy1 hx1] at q; omega) H locs ls hP hS hl) (fun q => kf (by rw [fn_ltI hy1 hx1] at q; omega) H locs ls hP hS hl)

theorem fn_icmp_le {E : fnE} {own : String} {cc : ByteArray} {nL fr lo : Nat} {V : fnV} (h : fnCx E own cc nL fr lo V) {pc nx : Nat} {lv st : List Value} {σ : fnMem} {tgt : Nat} {x y : Int} (hx1 : fnR x) (hy1 : fnR y) (hd : fnIc cc pc .le tgt nx) (kt : x ≤ y → V tgt lv st σ) (kf : y < x → V nx lv st σ) : V pc lv (zI y :: zI x :: st) σ := by
  obtain ⟨p, l, e, R, s, m, args, below, meth, c, A, cells, slots, Q, ⟨hx, hb, hml, hown, hts⟩, hK, hD, hA, hZ, hT, hN, ⟨r1, r2, r3, r4⟩, rfl⟩ := h
  obtain ⟨hd, rfl⟩ := hd
  intro H locs ls hP hS hl
  have ht : (pc : Int) + ((tgt : Int) - (pc : Int)) = (tgt : Int) := by omega
  exact lv_icmp_le hx hb hd ht (fun q => kt (by rw [fn_leI hx1 hy1] at q; omega) H locs ls hP hS hl) (fun q => kf (by rw [fn_leI hx1 hy1] at q; omega) H locs ls hP hS hl)

theorem fn_if_eq {E : fnE} {own : String} {cc : ByteArray} {nL fr lo : Nat} {V : fnV} (h : fnCx E own cc nL fr lo V) {pc nx : Nat} {lv st : List Value} {σ : fnMem} {tgt : Nat} {x : Int} (hx1 : fnR x) (hd : fnIf cc pc .eq tgt nx) (kt : x = 0 → V tgt lv st σ) (kf : x ≠ 0 → V nx lv st σ) : V pc lv (zI x :: st) σ := by
  obtain ⟨p, l, e, R, s, m, args, below, meth, c, A, cells, slots, Q, ⟨hx, hb, hml, hown, hts⟩, hK, hD, hA, hZ, hT, hN, ⟨r1, r2, r3, r4⟩, rfl⟩ := h
  obtain ⟨hd, rfl⟩ := hd
  intro H locs ls hP hS hl
  have ht : (pc : Int) + ((tgt : Int) - (pc : Int)) = (tgt : Int) := by omega
  exact lv_if_eq hx hb hd ht (fun q => kt (by rw [fn_0, fn_eqI hx1 (show fnR 0 by decide)] at q; omega) H locs ls hP hS hl) (fun q => kf (by rw [fn_0, fn_eqI hx1 (show fnR 0 by decide)] at q; omega) H locs ls hP hS hl)

theorem fn_if_ne {E : fnE} {own : String} {cc : ByteArray} {nL fr lo : Nat} {V : fnV} (h : fnCx E own cc nL fr lo V) {pc nx : Nat} {lv st : List Value} {σ : fnMem} {tgt : Nat} {x : Int} (hx1 : fnR x) (hd : fnIf cc pc .ne tgt nx) (kt : x ≠ 0 → V tgt lv st σ) (kf : x = 0 → V nx lv st σ) : V pc lv (zI x :: st) σ := by
  obtain ⟨p, l, e, R, s, m, args, below, meth, c, A, cells, slots, Q, ⟨hx, hb, hml, hown, hts⟩, hK, hD, hA, hZ, hT, hN, ⟨r1, r2, r3, r4⟩, rfl⟩ := h
  obtain ⟨hd, rfl⟩ := hd
  intro H locs ls hP hS hl
  have ht : (pc : Int) + ((tgt : Int) - (pc : Int)) = (tgt : Int) := by omega
  exact lv_if_ne hx hb hd ht (fun q => kt (by rw [fn_0, fn_eqI hx1 (show fnR 0 by decide)] at q; omega) H locs ls hP hS hl) (fun q => kf (by rw [fn_0, fn_eqI hx1 (show fnR 0 by decide)] at q; omega) H locs ls hP hS hl)

theorem fn_if_lt {E : fnE} {own : String} {cc : ByteArray} {nL fr lo : Nat} {V : fnV} (h : fnCx E own cc nL fr lo V) {pc nx : Nat} {lv st : List Value} {σ : fnMem} {tgt : Nat} {x : Int} (hx1 : fnR x) (hd : fnIf cc pc .lt tgt nx) (kt : x < 0 → V tgt lv st σ) (kf : 0 ≤ x → V nx lv st σ) : V pc lv (zI x :: st) σ := by
  obtain ⟨p, l, e, R, s, m, args, below, meth, c, A, cells, slots, Q, ⟨hx, hb, hml, hown, hts⟩, hK, hD, hA, hZ, hT, hN, ⟨r1, r2, r3, r4⟩, rfl⟩ := h
  obtain ⟨hd, rfl⟩ := hd
  intro H locs ls hP hS hl
  have ht : (pc : Int) + ((tgt : Int) - (pc : Int)) = (tgt : Int) := by omega
  exact lv_if_lt hx hb hd ht (fun q => kt (by rw [fn_0, fn_ltI hx1 (show fnR 0 by decide)] at q; omega) H locs ls hP hS hl) (fun q => kf (by rw [fn_0, fn_ltI hx1 (show fnR 0 by decide)] at q; omega) H locs ls hP hS hl)

theorem fn_if_ge {E : fnE} {own : String} {cc : ByteArray} {nL fr lo : Nat} {V : fnV} (h : fnCx E own cc nL fr lo V) {pc nx : Nat} {lv st : List Value} {σ : fnMem} {tgt : Nat} {x : Int} (hx1 : fnR x) (hd : fnIf cc pc .ge tgt nx) (kt : 0 ≤ x → V tgt lv st σ) (kf : x < 0 → V nx lv st σ) : V pc lv (zI x :: st) σ := by
  obtain ⟨p, l, e, R, s, m, args, below, meth, c, A, cells, slots, Q, ⟨hx, hb, hml, hown, hts⟩, hK, hD, hA, hZ, hT, hN, ⟨r1, r2, r3, r4⟩, rfl⟩ := h
  obtain ⟨hd, rfl⟩ := hd
  intro H locs ls hP hS hl
  have ht : (pc : Int) + ((tgt : Int) - (pc : Int)) = (tgt : Int) := by omega
  exact lv_if_ge hx hb hd ht (fun q => kt (by rw [fn_0, fn_leI (show fnR 0 by decide) hx1] at q; omega) H locs ls hP hS hl) (fun q => kf (by rw [fn_0, fn_leI (show fnR 0 by decide) hx1] at q; omega) H locs ls hP hS hl)

theorem fn_if_gt {E : fnE} {own : String} {cc : ByteArray} {nL fr lo : Nat} {V : fnV} (h : fnCx E own cc nL fr lo V) {pc nx : Nat} {lv st : List Value} {σ : fnMem} {tgt : Nat} {x : Int} (hx1 : fnR x) (hd : fnIf cc pc .gt tgt nx) (kt : 0 < x → V tgt lv st σ) (kf : x ≤ 0 → V nx lv st σ) : V pc lv (zI x :: st) σ := by
  obtain ⟨p, l, e, R, s, m, args, below, meth, c, A, cells, slots, Q, ⟨hx, hb, hml, hown, hts⟩, hK, hD, hA, hZ, hT, hN, ⟨r1, r2, r3, r4⟩, rfl⟩ := h
  obtain ⟨hd, rfl⟩ := hd
  intro H locs ls hP hS hl
  have ht : (pc : Int) + ((tgt : Int) - (pc : Int)) = (tgt : Int) := by omega
  exact lv_if_gt hx hb hd ht (fun q => kt (by rw [fn_0, fn_ltI (show fnR 0 by decide) hx1] at q; omega) H locs ls hP hS hl) (fun q => kf (by rw [fn_0, fn_ltI (show fnR 0 by decide) hx1] at q; omega) H locs ls hP hS hl)

theorem fn_if_le {E : fnE} {own : String} {cc : ByteArray} {nL fr lo : Nat} {V : fnV} (h : fnCx E own cc nL fr lo V) {pc nx : Nat} {lv st : List Value} {σ : fnMem} {tgt : Nat} {x : Int} (hx1 : fnR x) (hd : fnIf cc pc .le tgt nx) (kt : x ≤ 0 → V tgt lv st σ) (kf : 0 < x → V nx lv st σ) : V pc lv (zI x :: st) σ := by
  obtain ⟨p, l, e, R, s, m, args, below, meth, c, A, cells, slots, Q, ⟨hx, hb, hml, hown, hts⟩, hK, hD, hA, hZ, hT, hN, ⟨r1, r2, r3, r4⟩, rfl⟩ := h
  obtain ⟨hd, rfl⟩ := hd
  intro H locs ls hP hS hl
  have ht : (pc : Int) + ((tgt : Int) - (pc : Int)) = (tgt : Int) := by omega
  exact lv_if_le hx hb hd ht (fun q => kt (by rw [fn_0, fn_leI hx1 (show fnR 0 by decide)] at q; omega) H locs ls hP hS hl) (fun q => kf (by rw [fn_0, fn_leI hx1 (show fnR 0 by decide)] at q; omega) H locs ls hP hS hl)

theorem fn_ifeqb {E : fnE} {own : String} {cc : ByteArray} {nL fr lo : Nat} {V : fnV} (h : fnCx E own cc nL fr lo V) {pc nx : Nat} {lv st : List Value} {σ : fnMem} {tgt : Nat} {P : Prop} [Decidable P] (hd : fnIf cc pc .eq tgt nx) (kt : ¬ P → V tgt lv st σ) (kf : P → V nx lv st σ) : V pc lv (zI (if P then 1 else 0) :: st) σ := by
  by_cases hP : P
  · exact fn_if_eq h (x := if P then 1 else 0) (by split <;> decide) hd (fun q => by rw [if_pos hP] at q; omega) (fun _ => kf hP)
  · exact fn_if_eq h (x := if P then 1 else 0) (by split <;> decide) hd (fun _ => kt hP) (fun q => by rw [if_neg hP] at q; omega)

theorem fn_ifneb {E : fnE} {own : String} {cc : ByteArray} {nL fr lo : Nat} {V : fnV} (h : fnCx E own cc nL fr lo V) {pc nx : Nat} {lv st : List Value} {σ : fnMem} {tgt : Nat} {P : Prop} [Decidable P] (hd : fnIf cc pc .ne tgt nx) (kt : P → V tgt lv st σ) (kf : ¬ P → V nx lv st σ) : V pc lv (zI (if P then 1 else 0) :: st) σ := by
  by_cases hP : P
  · exact fn_if_ne h (x := if P then 1 else 0) (by split <;> decide) hd (fun _ => kt hP) (fun q => by rw [if_pos hP] at q; omega)
  · exact fn_if_ne h (x := if P then 1 else 0) (by split <;> decide) hd (fun q => by rw [if_neg hP] at q; omega) (fun _ => kf hP)

theorem fn_goto {E : fnE} {own : String} {cc : ByteArray} {nL fr lo : Nat} {V : fnV} (h : fnCx E own cc nL fr lo V) {pc : Nat} {lv st : List Value} {σ : fnMem} {tgt : Nat} (hd : fnGo cc pc tgt) (k : V tgt lv st σ) : V pc lv st σ := by
  obtain ⟨p, l, e, R, s, m, args, below, meth, c, A, cells, slots, Q, ⟨hx, hb, hml, hown, hts⟩, hK, hD, hA, hZ, hT, hN, ⟨r1, r2, r3, r4⟩, rfl⟩ := h
  intro H locs ls hP hS hl
  have k := k H locs ls hP hS hl
  have ht : (pc : Int) + ((tgt : Int) - (pc : Int)) = (tgt : Int) := by omega
  exact lv_goto hx hb hd ht k

theorem fn_lcmp_eq {E : fnE} {own : String} {cc : ByteArray} {nL fr lo : Nat} {V : fnV} (h : fnCx E own cc nL fr lo V) {pc nx : Nat} {lv st : List Value} {σ : fnMem} {p1 tgt : Nat} {x y : Int} (hx1 : fnRl x) (hy1 : fnRl y) (hd1 : fnD cc pc .lcmp 1 p1) (hd : fnIf cc p1 .eq tgt nx) (kt : x = y → V tgt lv st σ) (kf : x ≠ y → V nx lv st σ) : V pc lv (zL y :: zL x :: st) σ := by
  obtain ⟨p, l, e, R, s, m, args, below, meth, c, A, cells, slots, Q, ⟨hx, hb, hml, hown, hts⟩, hK, hD, hA, hZ, hT, hN, ⟨r1, r2, r3, r4⟩, rfl⟩ := h
  obtain ⟨hd, rfl⟩ := hd
  obtain ⟨hd1, rfl⟩ := hd1
  intro H locs ls hP hS hl
  have ht : ((pc + 1 : Nat) : Int) + ((tgt : Int) - ((pc + 1 : Nat) : Int)) = (tgt : Int) := by omega
  refine W.lcmp hx hb hd1 ?_
  exact lv_if_eq hx hb hd ht (fun q => kt (by rw [lg_cmp_eq, fn_eqL hx1 hy1] at q; omega) H locs ls hP hS hl) (fun q => kf (by rw [lg_cmp_eq, fn_eqL hx1 hy1] at q; omega) H locs ls hP hS hl)

theorem fn_lcmp_ne {E : fnE} {own : String} {cc : ByteArray} {nL fr lo : Nat} {V : fnV} (h : fnCx E own cc nL fr lo V) {pc nx : Nat} {lv st : List Value} {σ : fnMem} {p1 tgt : Nat} {x y : Int} (hx1 : fnRl x) (hy1 : fnRl y) (hd1 : fnD cc pc .lcmp 1 p1) (hd : fnIf cc p1 .ne tgt nx) (kt : x ≠ y → V tgt lv st σ) (kf : x = y → V nx lv st σ) : V pc lv (zL y :: zL x :: st) σ := by
  obtain ⟨p, l, e, R, s, m, args, below, meth, c, A, cells, slots, Q, ⟨hx, hb, hml, hown, hts⟩, hK, hD, hA, hZ, hT, hN, ⟨r1, r2, r3, r4⟩, rfl⟩ := h
  obtain ⟨hd, rfl⟩ := hd
  obtain ⟨hd1, rfl⟩ := hd1
  intro H locs ls hP hS hl
  have ht : ((pc + 1 : Nat) : Int) + ((tgt : Int) - ((pc + 1 : Nat) : Int)) = (tgt : Int) := by omega
  refine W.lcmp hx hb hd1 ?_
  exact lv_if_ne hx hb hd ht (fun q => kt (by rw [lg_cmp_eq, fn_eqL hx1 hy1] at q; omega) H locs ls hP hS hl) (fun q => kf (by rw [lg_cmp_eq, fn_eqL hx1 hy1] at q; omega) H locs ls hP hS hl)

theorem fn_lcmp_lt {E : fnE} {own : String} {cc : ByteArray} {nL fr lo : Nat} {V : fnV} (h : fnCx E own cc nL fr lo V) {pc nx : Nat} {lv st : List Value} {σ : fnMem} {p1 tgt : Nat} {x y : Int} (hx1 : fnRl x) (hy1 : fnRl y) (hd1 : fnD cc pc .lcmp 1 p1) (hd : fnIf cc p1 .lt tgt nx) (kt : x < y → V tgt lv st σ) (kf : y ≤ x → V nx lv st σ) : V pc lv (zL y :: zL x :: st) σ := by
  obtain ⟨p, l, e, R, s, m, args, below, meth, c, A, cells, slots, Q, ⟨hx, hb, hml, hown, hts⟩, hK, hD, hA, hZ, hT, hN, ⟨r1, r2, r3, r4⟩, rfl⟩ := h
  obtain ⟨hd, rfl⟩ := hd
  obtain ⟨hd1, rfl⟩ := hd1
  intro H locs ls hP hS hl
  have ht : ((pc + 1 : Nat) : Int) + ((tgt : Int) - ((pc + 1 : Nat) : Int)) = (tgt : Int) := by omega
  refine W.lcmp hx hb hd1 ?_
  exact lv_if_lt hx hb hd ht (fun q => kt (by rw [lg_cmp_lt, fn_ltL hx1 hy1] at q; omega) H locs ls hP hS hl) (fun q => kf (by rw [lg_cmp_lt, fn_ltL hx1 hy1] at q; omega) H locs ls hP hS hl)

theorem fn_lcmp_ge {E : fnE} {own : String} {cc : ByteArray} {nL fr lo : Nat} {V : fnV} (h : fnCx E own cc nL fr lo V) {pc nx : Nat} {lv st : List Value} {σ : fnMem} {p1 tgt : Nat} {x y : Int} (hx1 : fnRl x) (hy1 : fnRl y) (hd1 : fnD cc pc .lcmp 1 p1) (hd : fnIf cc p1 .ge tgt nx) (kt : y ≤ x → V tgt lv st σ) (kf : x < y → V nx lv st σ) : V pc lv (zL y :: zL x :: st) σ := by
  obtain ⟨p, l, e, R, s, m, args, below, meth, c, A, cells, slots, Q, ⟨hx, hb, hml, hown, hts⟩, hK, hD, hA, hZ, hT, hN, ⟨r1, r2, r3, r4⟩, rfl⟩ := h
  obtain ⟨hd, rfl⟩ := hd
  obtain ⟨hd1, rfl⟩ := hd1
  intro H locs ls hP hS hl
  have ht : ((pc + 1 : Nat) : Int) + ((tgt : Int) - ((pc + 1 : Nat) : Int)) = (tgt : Int) := by omega
  refine W.lcmp hx hb hd1 ?_
  exact lv_if_ge hx hb hd ht (fun q => kt (by rw [lg_cmp_ge, Int64.le_iff_toInt_le, fn_toL hx1, fn_toL hy1] at q; omega) H locs ls hP hS hl) (fun q => kf (by rw [lg_cmp_ge, Int64.le_iff_toInt_le, fn_toL hx1, fn_toL hy1] at q; omega) H locs ls hP hS hl)

theorem fn_lcmp_gt {E : fnE} {own : String} {cc : ByteArray} {nL fr lo : Nat} {V : fnV} (h : fnCx E own cc nL fr lo V) {pc nx : Nat} {lv st : List Value} {σ : fnMem} {p1 tgt : Nat} {x y : Int} (hx1 : fnRl x) (hy1 : fnRl y) (hd1 : fnD cc pc .lcmp 1 p1) (hd : fnIf cc p1 .gt tgt nx) (kt : y < x → V tgt lv st σ) (kf : x ≤ y → V nx lv st σ) : V pc lv (zL y :: zL x :: st) σ := by
  obtain ⟨p, l, e, R, s, m, args, below, meth, c, A, cells, slots, Q, ⟨hx, hb, hml, hown, hts⟩, hK, hD, hA, hZ, hT, hN, ⟨r1, r2, r3, r4⟩, rfl⟩ := h
  obtain ⟨hd, rfl⟩ := hd
  obtain ⟨hd1, rfl⟩ := hd1
  intro H locs ls hP hS hl
  have ht : ((pc + 1 : Nat) : Int) + ((tgt : Int) - ((pc + 1 : Nat) : Int)) = (tgt : Int) := by omega
  refine W.lcmp hx hb hd1 ?_
  exact lv_if_gt hx hb hd ht (fun q => kt (by rw [lg_cmp_gt, fn_ltL hy1 hx1] at q; omega) H locs ls hP hS hl) (fun q => kf (by rw [lg_cmp_gt, fn_ltL hy1 hx1] at q; omega) H locs ls hP hS hl)

theorem fn_lcmp_le {E : fnE} {own : String} {cc : ByteArray} {nL fr lo : Nat} {V : fnV} (h : fnCx E own cc nL fr lo V) {pc nx : Nat} {lv st : List Value} {σ : fnMem} {p1 tgt : Nat} {x y : Int} (hx1 : fnRl x) (hy1 : fnRl y) (hd1 : fnD cc pc .lcmp 1 p1) (hd : fnIf cc p1 .le tgt nx) (kt : x ≤ y → V tgt lv st σ) (kf : y < x → V nx lv st σ) : V pc lv (zL y :: zL x :: st) σ := by
  obtain ⟨p, l, e, R, s, m, args, below, meth, c, A, cells, slots, Q, ⟨hx, hb, hml, hown, hts⟩, hK, hD, hA, hZ, hT, hN, ⟨r1, r2, r3, r4⟩, rfl⟩ := h
  obtain ⟨hd, rfl⟩ := hd
  obtain ⟨hd1, rfl⟩ := hd1
  intro H locs ls hP hS hl
  have ht : ((pc + 1 : Nat) : Int) + ((tgt : Int) - ((pc + 1 : Nat) : Int)) = (tgt : Int) := by omega
  refine W.lcmp hx hb hd1 ?_
  exact lv_if_le hx hb hd ht (fun q => kt (by rw [lg_cmp_le, Int64.le_iff_toInt_le, fn_toL hx1, fn_toL hy1] at q; omega) H locs ls hP hS hl) (fun q => kf (by rw [lg_cmp_le, Int64.le_iff_toInt_le, fn_toL hx1, fn_toL hy1] at q; omega) H locs ls hP hS hl)

theorem fn_tswIn {E : fnE} {own : String} {cc : ByteArray} {nL fr lo : Nat} {V : fnV} (h : fnCx E own cc nL fr lo V) {pc nx : Nat} {lv st : List Value} {σ : fnMem} {d lw hi off : Int} {offs : Array Int} {n tgt : Nat} {x : Int} (i : Nat) (hd : fnD cc pc (.tableswitch d lw hi offs) n nx) (hx1 : fnR x) (hxi : x = lw + i) (hhi : x ≤ hi) (ho : offs[i]? = some off) (ht : (pc : Int) + off = (tgt : Int)) (k : V tgt lv st σ) : V pc lv (zI x :: st) σ := by
  obtain ⟨p, l, e, R, s, m, args, below, meth, c, A, cells, slots, Q, ⟨hx, hb, hml, hown, hts⟩, hK, hD, hA, hZ, hT, hN, ⟨r1, r2, r3, r4⟩, rfl⟩ := h
  obtain ⟨hd, rfl⟩ := hd
  intro H locs ls hP hS hl
  have k := k H locs ls hP hS hl
  exact lv_tableIn hx hb hd (by rw [fn_toI hx1]; omega) (by rw [fn_toI hx1]; omega) (by rw [fn_toI hx1, hxi, show (lw + (i : Int) - lw).toNat = i by omega]; exact ho) ht k

theorem fn_tswOut {E : fnE} {own : String} {cc : ByteArray} {nL fr lo : Nat} {V : fnV} (h : fnCx E own cc nL fr lo V) {pc nx : Nat} {lv st : List Value} {σ : fnMem} {d lw hi : Int} {offs : Array Int} {n tgt : Nat} {x : Int} (hd : fnD cc pc (.tableswitch d lw hi offs) n nx) (hx1 : fnR x) (hxi : x < lw ∨ hi < x) (ht : (pc : Int) + d = (tgt : Int)) (k : V tgt lv st σ) : V pc lv (zI x :: st) σ := by
  obtain ⟨p, l, e, R, s, m, args, below, meth, c, A, cells, slots, Q, ⟨hx, hb, hml, hown, hts⟩, hK, hD, hA, hZ, hT, hN, ⟨r1, r2, r3, r4⟩, rfl⟩ := h
  obtain ⟨hd, rfl⟩ := hd
  intro H locs ls hP hS hl
  have k := k H locs ls hP hS hl
  exact lv_tableOut hx hb hd (by rw [fn_toI hx1]; omega) ht k

theorem fn_lsw {E : fnE} {own : String} {cc : ByteArray} {nL fr lo : Nat} {V : fnV} (h : fnCx E own cc nL fr lo V) {pc nx : Nat} {lv st : List Value} {σ : fnMem} {d off : Int} {ps : Array (Int × Int)} {n tgt : Nat} {x : Int} (hd : fnD cc pc (.lookupswitch d ps) n nx) (hx1 : fnR x) (hp : (ps.toList.zip (ps.toList.drop 1)).all (fun (a, next) => a.1 < next.1) = true) (ho : Op.lookupswitch.offset ps.toList d x = off) (ht : (pc : Int) + off = (tgt : Int)) (k : V tgt lv st σ) : V pc lv (zI x :: st) σ := by
  obtain ⟨p, l, e, R, s, m, args, below, meth, c, A, cells, slots, Q, ⟨hx, hb, hml, hown, hts⟩, hK, hD, hA, hZ, hT, hN, ⟨r1, r2, r3, r4⟩, rfl⟩ := h
  obtain ⟨hd, rfl⟩ := hd
  intro H locs ls hP hS hl
  have k := k H locs ls hP hS hl
  exact lv_lookup hx hb hd hp (by rw [fn_toI hx1]; exact ho) ht k

/-- class ci of vwCl is as the tables have it -/
def fnKc (ci : Nat) (C : String) (T : u_T) (N : Nat) : Prop := vwCl[ci]? = some (C, T, N) ∧ (∀ w ∈ u_ws C T N, w ∈ fnT) ∧ (∃ ty0 : Nat → FieldType, ∀ k, k < N → parseFieldDescriptor (T k).2.2.1 = some (ty0 k)) ∧ ∀ a, a < N → ∀ b, b < N → a ≠ b → (T a).2.1 ≠ (T b).2.1
/-- entry idx of own's pool is field j of class ci; fnFp: an int that may be written -/
def fnFl (own : String) (idx ci j : Nat) : Prop := ∃ (C : String) (T : u_T) (N : Nat), fnKc ci C T N ∧ j < N ∧ Cond.fieldLink own idx C (T j).2.1 (T j).2.2.1 ∈ fnT ∧ (T j).1 = C
def fnFp (own : String) (idx ci j : Nat) : Prop := ∃ (C : String) (T : u_T) (N : Nat), fnKc ci C T N ∧ j < N ∧ Cond.fieldLink own idx C (T j).2.1 (T j).2.2.1 ∈ fnT ∧ (T j).1 = C ∧ (T j).2.2.2 = false ∧ (T j).2.2.1 = "I"
/-- cell b is of class ci, its field j is the cell t, is an int -/
def fnFR (b ci j t : Nat) : Prop := b < 79 ∧ ∃ r, fnSh b = (ci + 4, 0, r) ∧ r[j]? = some (some t)
def fnFI (b ci j : Nat) : Prop := b < 79 ∧ ∃ r, fnSh b = (ci + 4, 0, r) ∧ r[j]? = some none
/-- cell b is an array of n ints (kd 0), booleans (1) -/
def fnAr (b kd n : Nat) : Prop := b < 79 ∧ n < 2147483648 ∧ ∃ r, fnSh b = (kd, n, r)
theorem fnW_at' (E : fnE) (σ : fnMem) {b : Nat} {sh : Nat × Nat × List (Option Nat)} (hb : b < 79) (h : fnSh b = sh) : (fnW E σ)[b]? = some (E.1 b, fnEn E (σ b) sh) := by
  rw [fnW_at E σ hb, h]

theorem fn_getR {E : fnE} {own : String} {cc : ByteArray} {nL fr lo : Nat} {V : fnV} (h : fnCx E own cc nL fr lo V) {pc nx : Nat} {lv st : List Value} {σ : fnMem} {b t ci j idx : Nat} (hd : fnD cc pc (.getfield idx) 3 nx) (hf : fnFl own idx ci j) (hs : fnFR b ci j t) (k : V nx lv (.ref t :: st) σ) : V pc lv (.ref b :: st) σ := by
  obtain ⟨p, l, e, R, s, m, args, below, meth, c, A, cells, slots, Q, ⟨hx, hb, hml, hown, hts⟩, hK, hD, hA, hZ, hT, hN, ⟨r1, r2, r3, r4⟩, rfl⟩ := h
  obtain ⟨hd, rfl⟩ := hd
  intro H locs ls hP hS hl
  have k := k H locs ls hP hS hl
  obtain ⟨C, T, N, ⟨hc, hin, -, -⟩, hj, hlk, hC⟩ := hf
  obtain ⟨hb79, r, hsh, hr⟩ := hs
  exact va_get hx hb hts hin hown hK hP b (fnW_at' E σ hb79 hsh) hc j hj (hts _ hlk) (fun x q => by rw [← hC]; exact q) (fnFld_ref E (σ b) r 0 j hr) hd k

theorem fn_getI {E : fnE} {own : String} {cc : ByteArray} {nL fr lo : Nat} {V : fnV} (h : fnCx E own cc nL fr lo V) {pc nx : Nat} {lv st : List Value} {σ : fnMem} {b ci j idx : Nat} (hd : fnD cc pc (.getfield idx) 3 nx) (hf : fnFl own idx ci j) (hs : fnFI b ci j) (k : V nx lv (zI (σ b j) :: st) σ) : V pc lv (.ref b :: st) σ := by
  obtain ⟨p, l, e, R, s, m, args, below, meth, c, A, cells, slots, Q, ⟨hx, hb, hml, hown, hts⟩, hK, hD, hA, hZ, hT, hN, ⟨r1, r2, r3, r4⟩, rfl⟩ := h
  obtain ⟨hd, rfl⟩ := hd
  intro H locs ls hP hS hl
  have k := k H locs ls hP hS hl
  obtain ⟨C, T, N, ⟨hc, hin, -, -⟩, hj, hlk, hC⟩ := hf
  obtain ⟨hb79, r, hsh, hr⟩ := hs
  have hv := fnFld_int E (σ b) r 0 j hr
  rw [Nat.zero_add] at hv
  exact va_get hx hb hts hin hown hK hP b (fnW_at' E σ hb79 hsh) hc j hj (hts _ hlk) (fun x q => by rw [← hC]; exact q) hv hd k

theorem fn_putI {E : fnE} {own : String} {cc : ByteArray} {nL fr lo : Nat} {V : fnV} (h : fnCx E own cc nL fr lo V) {pc nx : Nat} {lv st : List Value} {σ : fnMem} {b ci j idx : Nat} {z : Int} (hd : fnD cc pc (.putfield idx) 3 nx) (hf : fnFp own idx ci j) (hs : fnFI b ci j) (k : V nx lv st (fnUp σ b j z)) : V pc lv (zI z :: .ref b :: st) σ := by
  obtain ⟨p, l, e, R, s, m, args, below, meth, c, A, cells, slots, Q, ⟨hx, hb, hml, hown, hts⟩, hK, hD, hA, hZ, hT, hN, ⟨r1, r2, r3, r4⟩, rfl⟩ := h
  obtain ⟨hd, rfl⟩ := hd
  intro H locs ls hP hS hl
  obtain ⟨C, T, N, ⟨hc, hin, ⟨ty0, hty⟩, hnm⟩, hj, hlk, hC, hfin, hI⟩ := hf
  obtain ⟨hb79, r, hsh, hr⟩ := hs
  refine va_put hx hb hts hin ty0 hty hnm hown hK hP (hD σ) hS b (fnW_at' E σ hb79 hsh) hc j hj (hts _ hlk) (fun x q => by rw [← hC]; exact q) hfin (ty := .int) (v := zI z) (by rw [hI]; decide +kernel) rfl rfl (by rw [fnFld_len]; exact (List.getElem?_eq_some_iff.mp hr).1) hd fun H1 locs1 hP1 hD1 hS1 => ?_
  have e1 : (fnW E σ).set b (E.1 b, .inr (ci, (fnFld E (σ b) 0 r).set j (zI z))) = fnW E (fnUp σ b j z) := by
    rw [fnFld_set E (σ b) z r 0 j hr, Nat.zero_add]
    have := fnW_set E σ (k := b) (fun q => if q = (j : Int) then z else σ b q)
    rw [hsh] at this
    exact this
  rw [e1] at hP1
  exact k H1 locs1 ls hP1 hS1 hl

theorem fn_iald {E : fnE} {own : String} {cc : ByteArray} {nL fr lo : Nat} {V : fnV} (h : fnCx E own cc nL fr lo V) {pc nx : Nat} {lv st : List Value} {σ : fnMem} {b n : Nat} {i : Int} (hd : fnD cc pc .iaload 1 nx) (ha : fnAr b 0 n) (h0 : 0 ≤ i) (h1 : i < n) (k : V nx lv (zI (σ b i) :: st) σ) : V pc lv (zI i :: .ref b :: st) σ := by
  obtain ⟨p, l, e, R, s, m, args, below, meth, c, A, cells, slots, Q, ⟨hx, hb, hml, hown, hts⟩, hK, hD, hA, hZ, hT, hN, ⟨r1, r2, r3, r4⟩, rfl⟩ := h
  obtain ⟨hd, rfl⟩ := hd
  intro H locs ls hP hS hl
  have k := k H locs ls hP hS hl
  obtain ⟨hb79, hn, r, hsh⟩ := ha
  refine va_iald hx hb hK hP b 0 (fnW_at' E σ hb79 hsh) rfl (fn_in h0 h1 hn) hd ?_
  rw [fn_clamp h0 (by omega), Int.toNat_of_nonneg h0]
  exact k

theorem fn_bald {E : fnE} {own : String} {cc : ByteArray} {nL fr lo : Nat} {V : fnV} (h : fnCx E own cc nL fr lo V) {pc nx : Nat} {lv st : List Value} {σ : fnMem} {b n : Nat} {i : Int} (hd : fnD cc pc .baload 1 nx) (ha : fnAr b 1 n) (h0 : 0 ≤ i) (h1 : i < n) (k : V nx lv (zI (σ b i) :: st) σ) : V pc lv (zI i :: .ref b :: st) σ := by
  obtain ⟨p, l, e, R, s, m, args, below, meth, c, A, cells, slots, Q, ⟨hx, hb, hml, hown, hts⟩, hK, hD, hA, hZ, hT, hN, ⟨r1, r2, r3, r4⟩, rfl⟩ := h
  obtain ⟨hd, rfl⟩ := hd
  intro H locs ls hP hS hl
  have k := k H locs ls hP hS hl
  obtain ⟨hb79, hn, r, hsh⟩ := ha
  refine va_zald hx hb hK hP b 1 (fnW_at' E σ hb79 hsh) rfl (fn_in h0 h1 hn) hd ?_
  rw [fn_clamp h0 (by omega), Int.toNat_of_nonneg h0]
  exact k

theorem fnUp_arr (E : fnE) (σ : fnMem) {b : Nat} {i z : Int} (h0 : 0 ≤ i) (f : Nat → Int32) (hf : f = fun j : Nat => Int32.ofInt (σ b j)) : upd f i.toNat (Int32.ofInt z) = fun j : Nat => Int32.ofInt (if (j : Int) = i then z else σ b j) := by
  funext j
  subst hf
  unfold upd
  by_cases hj : j = i.toNat
  · rw [if_pos hj, if_pos (by omega)]
  · rw [if_neg hj, if_neg (by omega)]

theorem fn_iast {E : fnE} {own : String} {cc : ByteArray} {nL fr lo : Nat} {V : fnV} (h : fnCx E own cc nL fr lo V) {pc nx : Nat} {lv st : List Value} {σ : fnMem} {b n : Nat} {i z : Int} (hd : fnD cc pc .iastore 1 nx) (ha : fnAr b 0 n) (h0 : 0 ≤ i) (h1 : i < n) (k : V nx lv st (fnUp σ b i z)) : V pc lv (zI z :: zI i :: .ref b :: st) σ := by
  obtain ⟨p, l, e, R, s, m, args, below, meth, c, A, cells, slots, Q, ⟨hx, hb, hml, hown, hts⟩, hK, hD, hA, hZ, hT, hN, ⟨r1, r2, r3, r4⟩, rfl⟩ := h
  obtain ⟨hd, rfl⟩ := hd
  intro H locs ls hP hS hl
  obtain ⟨hb79, hn, r, hsh⟩ := ha
  refine va_iast hx hb hK hP (hD σ) hS b 0 (fnW_at' E σ hb79 hsh) rfl (fn_in h0 h1 hn) hd fun H1 locs1 hP1 hD1 hS1 => ?_
  rw [fn_clamp h0 (by omega), fnUp_arr E σ (b := b) h0 _ rfl] at hP1
  have e1 := fnW_set E σ (k := b) (fun q => if q = i then z else σ b q)
  rw [hsh] at e1
  have hP2 : va_P E.2.1 vwCl (fnW E (fnUp σ b i z)) H1 := by
    rw [fnUp, ← e1]
    exact hP1
  exact k H1 locs1 ls hP2 hS1 hl

theorem fn_bast {E : fnE} {own : String} {cc : ByteArray} {nL fr lo : Nat} {V : fnV} (h : fnCx E own cc nL fr lo V) {pc nx : Nat} {lv st : List Value} {σ : fnMem} {b n : Nat} {i z : Int} (hd : fnD cc pc .bastore 1 nx) (ha : fnAr b 1 n) (h0 : 0 ≤ i) (h1 : i < n) (hz : z = 0 ∨ z = 1) (k : V nx lv st (fnUp σ b i z)) : V pc lv (zI z :: zI i :: .ref b :: st) σ := by
  obtain ⟨p, l, e, R, s, m, args, below, meth, c, A, cells, slots, Q, ⟨hx, hb, hml, hown, hts⟩, hK, hD, hA, hZ, hT, hN, ⟨r1, r2, r3, r4⟩, rfl⟩ := h
  obtain ⟨hd, rfl⟩ := hd
  intro H locs ls hP hS hl
  obtain ⟨hb79, hn, r, hsh⟩ := ha
  refine va_zast hx hb hK hP (hD σ) hS b 1 (fnW_at' E σ hb79 hsh) rfl (fn_in h0 h1 hn) hd fun H1 locs1 hP1 hD1 hS1 => ?_
  have hnar : vp_nar .boolean (Int32.ofInt z) = Int32.ofInt z := by rcases hz with rfl | rfl <;> decide +kernel
  rw [hnar, fn_clamp h0 (by omega), fnUp_arr E σ (b := b) h0 _ rfl] at hP1
  have e1 := fnW_set E σ (k := b) (fun q => if q = i then z else σ b q)
  rw [hsh] at e1
  have hP2 : va_P E.2.1 vwCl (fnW E (fnUp σ b i z)) H1 := by
    rw [fnUp, ← e1]
    exact hP1
  exact k H1 locs1 ls hP2 hS1 hl

theorem fn_aaldC {E : fnE} {own : String} {cc : ByteArray} {nL fr lo : Nat} {V : fnV} (h : fnCx E own cc nL fr lo V) {pc nx : Nat} {lv st : List Value} {σ : fnMem} {i : Int} (q : Nat) (hd : fnD cc pc .aaload 1 nx) (hq : q < 3) (hi : i = (q : Int)) (k : V nx lv (.ref (3 + q) :: st) σ) : V pc lv (zI i :: .ref 1 :: st) σ := by
  obtain ⟨p, l, e, R, s, m, args, below, meth, c, A, cells, slots, Q, ⟨hx, hb, hml, hown, hts⟩, hK, hD, hA, hZ, hT, hN, ⟨r1, r2, r3, r4⟩, rfl⟩ := h
  obtain ⟨hd, rfl⟩ := hd
  intro H locs ls hP hS hl
  have k := k H locs ls hP hS hl
  subst hi
  refine va_aldq (n := 3) (f := fun i => (([some 3, some 4, some 5] : List (Option Nat)).getD i none).map E.1) hx hb hK hP 1 2 (fnW_at' E σ (by decide) rfl) rfl (fn_in (by omega) (by omega) (by decide)) hd ?_
  rw [fn_clamp (by omega) (by omega), show ((q : Int)).toNat = q by omega]
  have : q = 0 ∨ q = 1 ∨ q = 2 := by omega
  rcases this with rfl | rfl | rfl <;> exact k

theorem fn_aaldS {E : fnE} {own : String} {cc : ByteArray} {nL fr lo : Nat} {V : fnV} (h : fnCx E own cc nL fr lo V) {pc nx : Nat} {lv st : List Value} {σ : fnMem} {i : Int} (q : Nat) (hd : fnD cc pc .aaload 1 nx) (hq : q < 3) (hi : i = (q : Int)) (k : V nx lv (.ref (11 + q) :: st) σ) : V pc lv (zI i :: .ref 2 :: st) σ := by
  obtain ⟨p, l, e, R, s, m, args, below, meth, c, A, cells, slots, Q, ⟨hx, hb, hml, hown, hts⟩, hK, hD, hA, hZ, hT, hN, ⟨r1, r2, r3, r4⟩, rfl⟩ := h
  obtain ⟨hd, rfl⟩ := hd
  intro H locs ls hP hS hl
  have k := k H locs ls hP hS hl
  subst hi
  refine va_aldq (n := 3) (f := fun i => (([some 11, some 12, some 13] : List (Option Nat)).getD i none).map E.1) hx hb hK hP 2 3 (fnW_at' E σ (by decide) rfl) rfl (fn_in (by omega) (by omega) (by decide)) hd ?_
  rw [fn_clamp (by omega) (by omega), show ((q : Int)).toNat = q by omega]
  have : q = 0 ∨ q = 1 ∨ q = 2 := by omega
  rcases this with rfl | rfl | rfl <;> exact k

theorem fn_alen {E : fnE} {own : String} {cc : ByteArray} {nL fr lo : Nat} {V : fnV} (h : fnCx E own cc nL fr lo V) {pc nx : Nat} {lv st : List Value} {σ : fnMem} {b kd n : Nat} (hd : fnD cc pc .arraylength 1 nx) (ha : fnAr b kd n) (hk : kd = 0 ∨ kd = 1) (k : V nx lv (zI n :: st) σ) : V pc lv (.ref b :: st) σ := by
  obtain ⟨p, l, e, R, s, m, args, below, meth, c, A, cells, slots, Q, ⟨hx, hb, hml, hown, hts⟩, hK, hD, hA, hZ, hT, hN, ⟨r1, r2, r3, r4⟩, rfl⟩ := h
  obtain ⟨hd, rfl⟩ := hd
  intro H locs ls hP hS hl
  have k := k H locs ls hP hS hl
  obtain ⟨hb79, hn, r, hsh⟩ := ha
  have e1 : Int32.ofNat n = Int32.ofInt n := Int32.ofInt_eq_ofNat.symm
  rcases hk with rfl | rfl
  · exact va_alen hx hb hK hP b 0 (fnW_at' E σ hb79 hsh) rfl e1 hd k
  · exact va_alen hx hb hK hP b 1 (fnW_at' E σ hb79 hsh) rfl e1 hd k

theorem fn_gets {E : fnE} {own : String} {cc : ByteArray} {nL fr lo : Nat} {V : fnV} (h : fnCx E own cc nL fr lo V) {pc nx : Nat} {lv st : List Value} {σ : fnMem} {idx : Nat} (hd : fnD cc pc (.getstatic idx) 3 nx) (hlk : Cond.fieldLink own idx "FooledNeedle$Waves" "SINES" "[I" ∈ fnT) (k : V nx lv (.ref 100 :: st) σ) : V pc lv st σ := by
  obtain ⟨p, l, e, R, s, m, args, below, meth, c, A, cells, slots, Q, ⟨hx, hb, hml, hown, hts⟩, hK, hD, hA, hZ, hT, hN, ⟨r1, r2, r3, r4⟩, rfl⟩ := h
  obtain ⟨hd, rfl⟩ := hd
  intro H locs ls hP hS hl
  have k := k H locs ls hP hS hl
  exact va_gets hx hb hZ hS hown (hts _ hlk) (fun _ q => q) hd k

theorem fn_sin {E : fnE} {own : String} {cc : ByteArray} {nL fr lo : Nat} {V : fnV} (h : fnCx E own cc nL fr lo V) {pc nx : Nat} {lv st : List Value} {σ : fnMem} {i : Int} (hd : fnD cc pc .iaload 1 nx) (h0 : 0 ≤ i) (h1 : i < 32) (k : V nx lv (zI (fnSinL.getD i.toNat 0) :: st) σ) : V pc lv (zI i :: .ref 100 :: st) σ := by
  obtain ⟨p, l, e, R, s, m, args, below, meth, c, A, cells, slots, Q, ⟨hx, hb, hml, hown, hts⟩, hK, hD, hA, hZ, hT, hN, ⟨r1, r2, r3, r4⟩, rfl⟩ := h
  obtain ⟨hd, rfl⟩ := hd
  intro H locs ls hP hS hl
  have k := k H locs ls hP hS hl
  exact va_ti hx hb hT hS (fn_in h0 (n := 32) (by omega) (by decide)) (by rw [fn_clamp h0 (by omega)]; rfl) hd k

theorem fn_acopy {E : fnE} {own : String} {cc : ByteArray} {nL fr lo : Nat} {V : fnV} (h : fnCx E own cc nL fr lo V) {pc nx : Nat} {lv st : List Value} {σ : fnMem} {b0 b1 n0 n1 idx : Nat} {n : Int} (hd : fnD cc pc (.invokestatic idx) 3 nx) (hlk : Cond.methodLink own idx arraycopyName ∈ fnT) (h2 : Cond.native arraycopyName ∈ fnT ∧ Cond.static arraycopyName ∈ fnT ∧ Cond.initialized "java/lang/System" ∈ fnT) (ha0 : fnAr b0 0 n0) (ha1 : fnAr b1 0 n1) (hn : 0 ≤ n ∧ n ≤ n0 ∧ n ≤ n1) (hfr : Nat.ble 1 fr = true) (hlo : Nat.ble ((st.map fun v => v.category).sum + (nativeFrameWords "java/lang/System" "arraycopy" 5 + 11)) lo = true) (k : V nx lv st (fnSt σ b1 (fun j => if 0 ≤ j ∧ j < n then σ b0 j else σ b1 j))) : V pc lv (zI n :: zI 0 :: .ref b1 :: zI 0 :: .ref b0 :: st) σ := by
  obtain ⟨p, l, e, R, s, m, args, below, meth, c, A, cells, slots, Q, ⟨hx, hb, hml, hown, hts⟩, hK, hD, hA, hZ, hT, hN, ⟨r1, r2, r3, r4⟩, rfl⟩ := h
  obtain ⟨hd, rfl⟩ := hd
  intro H locs ls hP hS hl
  obtain ⟨hb0, hn0, r0, hsh0⟩ := ha0
  obtain ⟨hb1, hn1, r1', hsh1⟩ := ha1
  have c0 : (Int32.ofInt 0).toNatClampNeg = 0 := by decide +kernel
  have cn : (Int32.ofInt n).toNatClampNeg = n.toNat := fn_clamp hn.1 (by omega)
  have n0' : ¬ Int32.ofInt 0 < 0 := by decide +kernel
  have nn' : ¬ Int32.ofInt n < 0 := by rw [fn_0, fn_ltI ⟨by omega, by omega⟩ (by decide)]; omega
  refine va_copyi (ty := .int) hx hb (by rw [hml]; exact hl.1.symm) hown (hts _ hlk) (hts _ h2.1) (hts _ h2.2.1) (hts _ h2.2.2) hK hP (hD σ) hS b0 b1 0 0 (fnW_at' E σ hb0 hsh0) (fnW_at' E σ hb1 hsh1) rfl rfl rfl n0' n0' nn' (by rw [c0, cn]; omega) (by rw [c0, cn]; omega) (fun _ _ => rfl) (Nat.le_trans (Nat.le_of_ble_eq_true hfr) r1) (by rw [fn_catsum]; exact Nat.le_trans (Nat.le_of_ble_eq_true hlo) r2) hd fun H1 locs1 hP1 hD1 hS1 => ?_
  have e1 := fnW_set E σ (k := b1) (fun j => if 0 ≤ j ∧ j < n then σ b0 j else σ b1 j)
  rw [hsh1] at e1
  have hP2 : va_P E.2.1 vwCl (fnW E (fnSt σ b1 (fun j => if 0 ≤ j ∧ j < n then σ b0 j else σ b1 j))) H1 := by
    rw [← e1]
    have e2 : va_cpy (fun i : Nat => Int32.ofInt (σ b0 i)) (fun i : Nat => Int32.ofInt (σ b1 i)) (Int32.ofInt 0).toNatClampNeg (Int32.ofInt 0).toNatClampNeg (Int32.ofInt n).toNatClampNeg = fun i : Nat => Int32.ofInt (if 0 ≤ (i : Int) ∧ (i : Int) < n then σ b0 i else σ b1 i) := by
      funext j
      rw [c0, cn]
      unfold va_cpy
      by_cases hj : (j : Int) < n
      · rw [if_pos (by omega), if_pos (by omega)]; simp
      · rw [if_neg (by omega), if_neg (by omega)]
    show va_P E.2.1 vwCl ((fnW E σ).set b1 (E.1 b1, .inl (E.2.2.1, n1, .inl (fun i : Nat => Int32.ofInt (if 0 ≤ (i : Int) ∧ (i : Int) < n then σ b0 i else σ b1 i))))) H1
    rw [← e2]
    exact hP1
  exact k H1 locs1 ls hP2 hS1 hl

theorem fn_iret {cc : ByteArray} {Post : Option Value → fnMem → Prop} {V : fnV} (h : fnRt cc (some .int) Post V) {pc nx : Nat} {lv : List Value} {z : Int} {σ : fnMem} (hd : fnD cc pc .ireturn 1 nx) (hp : Post (some (zI z)) σ) : V pc lv [zI z] σ := h.1 rfl pc nx lv z σ hd hp
theorem fn_zret {cc : ByteArray} {Post : Option Value → fnMem → Prop} {V : fnV} (h : fnRt cc (some .boolean) Post V) {pc nx : Nat} {lv : List Value} {z : Int} {σ : fnMem} (hd : fnD cc pc .ireturn 1 nx) (hz : z = 0 ∨ z = 1) (hp : Post (some (zI z)) σ) : V pc lv [zI z] σ := h.2.1 rfl pc nx lv z σ hd hz hp
theorem fn_lret {cc : ByteArray} {Post : Option Value → fnMem → Prop} {V : fnV} (h : fnRt cc (some .long) Post V) {pc nx : Nat} {lv : List Value} {z : Int} {σ : fnMem} (hd : fnD cc pc .lreturn 1 nx) (hp : Post (some (zL z)) σ) : V pc lv [zL z] σ := h.2.2.1 rfl pc nx lv z σ hd hp
theorem fn_vret {cc : ByteArray} {Post : Option Value → fnMem → Prop} {V : fnV} (h : fnRt cc none Post V) {pc nx : Nat} {lv : List Value} {σ : fnMem} (hd : fnD cc pc .return_ 1 nx) (hp : Post none σ) : V pc lv [] σ := h.2.2.2.1 rfl pc nx lv σ hd hp
theorem fn_aret {cc : ByteArray} {C : String} {Post : Option Value → fnMem → Prop} {V : fnV} (h : fnRt cc (some (.object C)) Post V) {pc nx : Nat} {lv : List Value} {k : Nat} {σ : fnMem} (hd : fnD cc pc .areturn 1 nx) (hp : Post (some (.ref k)) σ) : V pc lv [.ref k] σ := h.2.2.2.2 C rfl pc nx lv k σ hd hp
