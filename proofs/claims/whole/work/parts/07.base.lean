/-! THE PURE SIDE: memory fnMem, the world fnW of its cells, contexts fnCx under which a place of a method is proved -/
abbrev fnMem : Type := Nat → Int → Int
/-- addresses of the cells, class numbers and slots, the classes of int[], boolean[], Card[], Swing[] -/
abbrev fnE : Type := (Nat → Nat) × va_G × ClassId × ClassId × ClassId × ClassId
def zI (z : Int) : Value := .int (Int32.ofInt z)
def zL (z : Int) : Value := .long (Int64.ofInt z)
def fnTr (E : fnE) : Value → Value
  | .ref k => .ref (E.1 k)
  | v => v
def fnShL : List (Nat × Nat × List (Option Nat)) := [(13, 0, [some 1, some 2, some 17, some 23, some 26, some 32, some 36, some 43, some 47, some 6, some 49, some 50]),
  (2, 3, [some 3, some 4, some 5]),
  (3, 3, [some 11, some 12, some 13]),
  (4, 0, [some 7]),
  (4, 0, [some 8]),
  (4, 0, [some 9]),
  (4, 0, [some 10]),
  (0, 6, []),
  (0, 6, []),
  (0, 6, []),
  (0, 6, []),
  (11, 0, [some 14, none]),
  (11, 0, [some 15, none]),
  (11, 0, [some 16, none]),
  (0, 32, []),
  (0, 32, []),
  (0, 32, []),
  (10, 0, [some 18, some 19, some 20, some 21, some 22, none, none]),
  (0, 6, []),
  (0, 4, []),
  (0, 6, []),
  (0, 6, []),
  (1, 6, []),
  (6, 0, [some 24, some 25, none, none, none, none, none, none, none]),
  (0, 97, []),
  (1, 97, []),
  (8, 0, [some 27, some 28, some 29, some 30, some 31]),
  (0, 8, []),
  (0, 8, []),
  (0, 24, []),
  (0, 24, []),
  (1, 24, []),
  (5, 0, [some 33, some 34, some 35]),
  (0, 20, []),
  (0, 20, []),
  (0, 20, []),
  (7, 0, [some 37, some 38, some 39, some 40, some 41, some 42, none]),
  (0, 40, []),
  (0, 40, []),
  (0, 40, []),
  (0, 40, []),
  (0, 40, []),
  (0, 40, []),
  (9, 0, [some 44, some 45, some 46, none, none, none]),
  (0, 40, []),
  (0, 40, []),
  (0, 40, []),
  (12, 0, [some 48, none, none, none]),
  (0, 40, []),
  (0, 32, []),
  (0, 32, []),
  (14, 0, [none, some 52, some 53, some 54, some 55, some 56, some 57, some 58, none, none, some 59, some 60, some 61, some 62, some 63, some 64, some 65, some 66, none, some 67, some 68, some 69, some 70, some 71, some 72, some 73, some 74, some 75, none, some 76, some 77, some 78]),
  (0, 18, []),
  (0, 96, []),
  (0, 6, []),
  (0, 6, []),
  (0, 6, []),
  (1, 6, []),
  (0, 4, []),
  (0, 8, []),
  (0, 8, []),
  (1, 24, []),
  (0, 24, []),
  (0, 24, []),
  (0, 20, []),
  (0, 20, []),
  (0, 20, []),
  (0, 40, []),
  (0, 40, []),
  (0, 40, []),
  (0, 40, []),
  (0, 40, []),
  (0, 40, []),
  (0, 6, []),
  (0, 32, []),
  (0, 3, []),
  (0, 40, []),
  (0, 40, []),
  (0, 40, [])]
def fnSh (k : Nat) : Nat × Nat × List (Option Nat) := fnShL.getD k (0, 0, [])
def fnFld (E : fnE) (f : Int → Int) : Nat → List (Option Nat) → List Value
  | _, [] => []
  | j, some t :: r => .ref (E.1 t) :: fnFld E f (j + 1) r
  | j, none :: r => zI (f j) :: fnFld E f (j + 1) r
def fnEn (E : fnE) (f : Int → Int) : Nat × Nat × List (Option Nat) → va_E
  | (0, n, _) => .inl (E.2.2.1, n, .inl (fun i => Int32.ofInt (f i)))
  | (1, n, _) => .inl (E.2.2.2.1, n, .inl (fun i => Int32.ofInt (f i)))
  | (2, n, r) => .inl (E.2.2.2.2.1, n, .inr (.inr (.inr (.inr (fun i => (r.getD i none).map E.1)))))
  | (3, n, r) => .inl (E.2.2.2.2.2, n, .inr (.inr (.inr (.inr (fun i => (r.getD i none).map E.1)))))
  | (c + 4, _, r) => .inr (c, fnFld E f 0 r)
def fnW (E : fnE) (σ : fnMem) : va_W := (List.range 79).map fun k => (E.1 k, fnEn E (σ k) (fnSh k))
def fnSt (σ : fnMem) (k : Nat) (f : Int → Int) : fnMem := fun a => if a = k then f else σ a
def fnUp (σ : fnMem) (k : Nat) (i v : Int) : fnMem := fnSt σ k (fun b => if b = i then v else σ k b)
theorem fnSt_same (σ : fnMem) (k : Nat) (f : Int → Int) : fnSt σ k f k = f := by simp [fnSt]
theorem fnSt_ne (σ : fnMem) {k a : Nat} (f : Int → Int) (h : a ≠ k) : fnSt σ k f a = σ a := by simp [fnSt, h]
theorem fnUp_ne (σ : fnMem) {k a : Nat} (i v : Int) (h : a ≠ k) : fnUp σ k i v a = σ a := fnSt_ne σ _ h
theorem fnUp_same (σ : fnMem) (k : Nat) (i v : Int) : fnUp σ k i v k = fun b => if b = i then v else σ k b := fnSt_same σ k _
theorem fnW_at (E : fnE) (σ : fnMem) {k : Nat} (h : k < 79) : (fnW E σ)[k]? = some (E.1 k, fnEn E (σ k) (fnSh k)) := by
  simp [fnW, h]
theorem fnW_set (E : fnE) (σ : fnMem) {k : Nat} (f : Int → Int) : (fnW E σ).set k (E.1 k, fnEn E f (fnSh k)) = fnW E (fnSt σ k f) := by
  apply List.ext_getElem?
  intro i
  by_cases hi : i < 79
  · rw [fnW_at E (fnSt σ k f) hi]
    by_cases hk : i = k
    · subst hk
      rw [List.getElem?_set_self (by simpa [fnW] using hi), fnSt_same]
    · rw [List.getElem?_set_ne (Ne.symm hk), fnW_at E σ hi, fnSt_ne σ f hk]
  · have h1 : ((fnW E σ).set k (E.1 k, fnEn E f (fnSh k)))[i]? = none := by
      apply List.getElem?_eq_none
      simp [fnW]; omega
    have h2 : (fnW E (fnSt σ k f))[i]? = none := by
      apply List.getElem?_eq_none
      simp [fnW]; omega
    rw [h1, h2]
theorem fnFld_congr (E : fnE) {f g : Int → Int} : ∀ (r : List (Option Nat)) (a : Nat), (∀ b : Nat, a ≤ b → f b = g b) → fnFld E f a r = fnFld E g a r
  | [], _, _ => rfl
  | some t :: r, a, h => by simp only [fnFld]; rw [fnFld_congr E r (a + 1) (fun b hb => h b (by omega))]
  | none :: r, a, h => by simp only [fnFld]; rw [fnFld_congr E r (a + 1) (fun b hb => h b (by omega)), h a (Nat.le_refl a)]
theorem fnFld_ref (E : fnE) (f : Int → Int) : ∀ (r : List (Option Nat)) (a j : Nat) {t : Nat}, r[j]? = some (some t) → (fnFld E f a r)[j]? = some (.ref (E.1 t))
  | [], _, _, _, h => by simp at h
  | some t :: r, a, 0, t', h => by simp at h; simp [fnFld, h]
  | none :: r, a, 0, t', h => by simp at h
  | some t :: r, a, j + 1, t', h => by simp only [fnFld, List.getElem?_cons_succ] at h ⊢; exact fnFld_ref E f r (a + 1) j h
  | none :: r, a, j + 1, t', h => by simp only [fnFld, List.getElem?_cons_succ] at h ⊢; exact fnFld_ref E f r (a + 1) j h
theorem fnFld_int (E : fnE) (f : Int → Int) : ∀ (r : List (Option Nat)) (a j : Nat), r[j]? = some none → (fnFld E f a r)[j]? = some (zI (f ((a + j : Nat) : Int)))
  | [], _, _, h => by simp at h
  | some t :: r, a, 0, h => by simp at h
  | none :: r, a, 0, h => by simp [fnFld]
  | some t :: r, a, j + 1, h => by
    simp only [fnFld, List.getElem?_cons_succ] at h ⊢
    rw [fnFld_int E f r (a + 1) j h, show a + 1 + j = a + (j + 1) by omega]
  | none :: r, a, j + 1, h => by
    simp only [fnFld, List.getElem?_cons_succ] at h ⊢
    rw [fnFld_int E f r (a + 1) j h, show a + 1 + j = a + (j + 1) by omega]
theorem fnFld_set (E : fnE) (f : Int → Int) (v : Int) : ∀ (r : List (Option Nat)) (a j : Nat), r[j]? = some none → (fnFld E f a r).set j (zI v) = fnFld E (fun b => if b = ((a + j : Nat) : Int) then v else f b) a r
  | [], _, _, h => by simp at h
  | some t :: r, a, 0, h => by simp at h
  | none :: r, a, 0, h => by
    simp only [fnFld, List.set_cons_zero, Nat.add_zero, if_true]
    rw [fnFld_congr E r (a + 1) (fun b hb => ?_)]
    rw [if_neg (by omega)]
  | some t :: r, a, j + 1, h => by
    simp only [fnFld, List.getElem?_cons_succ, List.set_cons_succ] at h ⊢
    rw [fnFld_set E f v r (a + 1) j h, show a + 1 + j = a + (j + 1) by omega]
  | none :: r, a, j + 1, h => by
    simp only [fnFld, List.getElem?_cons_succ, List.set_cons_succ] at h ⊢
    rw [fnFld_set E f v r (a + 1) j h, show a + 1 + j = a + (j + 1) by omega, if_neg (by omega)]
theorem fnFld_len (E : fnE) (f : Int → Int) : ∀ (r : List (Option Nat)) (a : Nat), (fnFld E f a r).length = r.length
  | [], _ => rfl
  | some t :: r, a => by simp [fnFld, fnFld_len E f r (a + 1)]
  | none :: r, a => by simp [fnFld, fnFld_len E f r (a + 1)]
/-! numbers -/
abbrev fnR (z : Int) : Prop := -2147483648 ≤ z ∧ z < 2147483648
abbrev fnRl (z : Int) : Prop := -9223372036854775808 ≤ z ∧ z < 9223372036854775808
theorem fn_toI {z : Int} (h : fnR z) : (Int32.ofInt z).toInt = z := Int32.toInt_ofInt_of_le (by simpa using h.1) (by simpa using h.2)
theorem fn_toL {z : Int} (h : fnRl z) : (Int64.ofInt z).toInt = z := Int64.toInt_ofInt_of_le (by simpa using h.1) (by simpa using h.2)
theorem fn_eqI {x y : Int} (hx : fnR x) (hy : fnR y) : Int32.ofInt x = Int32.ofInt y ↔ x = y := by
  rw [← Int32.toInt_inj, fn_toI hx, fn_toI hy]
theorem fn_ltI {x y : Int} (hx : fnR x) (hy : fnR y) : Int32.ofInt x < Int32.ofInt y ↔ x < y := by
  rw [Int32.lt_iff_toInt_lt, fn_toI hx, fn_toI hy]
theorem fn_leI {x y : Int} (hx : fnR x) (hy : fnR y) : Int32.ofInt x ≤ Int32.ofInt y ↔ x ≤ y := by
  rw [Int32.le_iff_toInt_le, fn_toI hx, fn_toI hy]
theorem fn_eqL {x y : Int} (hx : fnRl x) (hy : fnRl y) : Int64.ofInt x = Int64.ofInt y ↔ x = y := by
  rw [← Int64.toInt_inj, fn_toL hx, fn_toL hy]
theorem fn_ltL {x y : Int} (hx : fnRl x) (hy : fnRl y) : Int64.ofInt x < Int64.ofInt y ↔ x < y := by
  rw [Int64.lt_iff_toInt_lt, fn_toL hx, fn_toL hy]
theorem fn_0 : (0 : Int32) = Int32.ofInt 0 := by decide +kernel
theorem fn_clamp {z : Int} (h0 : 0 ≤ z) (h : z < 2147483648) : (Int32.ofInt z).toNatClampNeg = z.toNat := Int32.toNatClampNeg_ofInt_of_le (by simp; omega) (by simpa using h)
theorem fn_in {z : Int} {n : Nat} (h0 : 0 ≤ z) (h : z < n) (hn : n < 2147483648) : vp_in (Int32.ofInt z) n := by
  rw [vp_in_iff, fn_toI ⟨by omega, by omega⟩]
  exact ⟨h0, h⟩
theorem fn_divI {x y : Int} (hx : fnR x) (hy : 0 < y) (hy2 : fnR y) : Int32.ofInt x / Int32.ofInt y = Int32.ofInt (x.tdiv y) := by
  have hne : Int32.ofInt y ≠ -1 := by
    rw [show (-1 : Int32) = Int32.ofInt (-1) by decide +kernel, Ne, fn_eqI hy2 (by decide)]
    omega
  rw [← Int32.toInt_inj, Int32.toInt_div_of_ne_right _ _ hne, fn_toI hx, fn_toI hy2]
  have h1 : (x.tdiv y).natAbs ≤ x.natAbs := Int.natAbs_tdiv_le_natAbs x y
  rw [fn_toI]
  by_cases h0 : 0 ≤ x
  · have := Int.tdiv_nonneg h0 (Int.le_of_lt hy)
    constructor <;> omega
  · have h3 : x.tdiv y ≤ 0 := by
      have h4 := Int.tdiv_nonneg (a := -x) (b := y) (by omega) (Int.le_of_lt hy)
      rw [Int.neg_tdiv] at h4
      omega
    constructor <;> omega
theorem fn_divL {x y : Int} (hx : fnRl x) (hy : 0 < y) (hy2 : fnRl y) : Int64.ofInt x / Int64.ofInt y = Int64.ofInt (x.tdiv y) := by
  have hne : Int64.ofInt y ≠ -1 := by
    rw [show (-1 : Int64) = Int64.ofInt (-1) by decide +kernel, Ne, fn_eqL hy2 (by decide)]
    omega
  rw [← Int64.toInt_inj, Int64.toInt_div_of_ne_right _ _ hne, fn_toL hx, fn_toL hy2]
  have h1 : (x.tdiv y).natAbs ≤ x.natAbs := Int.natAbs_tdiv_le_natAbs x y
  rw [fn_toL]
  by_cases h0 : 0 ≤ x
  · have := Int.tdiv_nonneg h0 (Int.le_of_lt hy)
    constructor <;> omega
  · have h3 : x.tdiv y ≤ 0 := by
      have h4 := Int.tdiv_nonneg (a := -x) (b := y) (by omega) (Int.le_of_lt hy)
      rw [Int.neg_tdiv] at h4
      omega
    constructor <;> omega
theorem fn_remI {x y : Int} (hx : fnR x) (hy : 0 < y) (hy2 : fnR y) : Int32.ofInt x - Int32.ofInt x / Int32.ofInt y * Int32.ofInt y = Int32.ofInt (x.tmod y) := by
  rw [fn_divI hx hy hy2, ← Int32.ofInt_mul, ← Int32.ofInt_sub]
  congr 1
  have := Int.tmod_add_mul_tdiv x y
  rw [Int.mul_comm] at this
  omega
theorem fn_remL {x y : Int} (hx : fnRl x) (hy : 0 < y) (hy2 : fnRl y) : Int64.ofInt x - Int64.ofInt x / Int64.ofInt y * Int64.ofInt y = Int64.ofInt (x.tmod y) := by
  rw [fn_divL hx hy hy2, ← Int64.ofInt_mul, ← Int64.ofInt_sub]
  congr 1
  have := Int.tmod_add_mul_tdiv x y
  rw [Int.mul_comm] at this
  omega
theorem fn_i2l {x : Int} (hx : fnR x) : (Int32.ofInt x).toInt64 = Int64.ofInt x := by
  rw [← Int64.toInt_inj, Int32.toInt_toInt64, fn_toI hx, fn_toL ⟨by omega, by omega⟩]
/-! locals by place; .null: nothing known there -/
def fnLs (ls : Array Slot) (nL : Nat) (lv : List Value) : Prop := ls.size = nL ∧ lv_wf ls ∧ ∀ (i : Nat) (v : Value), lv[i]? = some v → v ≠ .null → ls[i]? = some (.val v)
def fnC1 : Value → Bool
  | .long _ => false
  | .double _ => false
  | _ => true
theorem fnC1_cat {v : Value} (h : fnC1 v = true) : v.category = 1 := by cases v <;> simp_all [fnC1, Value.category]
def fnNz (i : Nat) : Option Value → Option (Nat × Value)
  | some .null => none
  | some v => some (i, v)
  | none => none
def fnPk (lv : List Value) : List (Nat × Value) := (List.range lv.length).filterMap fun i => fnNz i lv[i]?
theorem fnPk_mem {lv : List Value} {i : Nat} {v : Value} (h : lv[i]? = some v) (hv : v ≠ .null) : (i, v) ∈ fnPk lv := by
  refine List.mem_filterMap.mpr ⟨i, List.mem_range.mpr (List.getElem?_eq_some_iff.mp h).1, ?_⟩
  rw [h]
  cases v <;> first | rfl | exact absurd rfl hv
theorem fnPk_of {lv : List Value} {q : Nat × Value} (h : q ∈ fnPk lv) : lv[q.1]? = some q.2 ∧ q.2 ≠ .null := by
  obtain ⟨i, -, hi⟩ := List.mem_filterMap.mp h
  cases hx : lv[i]? with
  | none => rw [hx] at hi; simp [fnNz] at hi
  | some v =>
    rw [hx] at hi
    cases v <;> simp [fnNz] at hi <;> subst hi <;> simp [hx]
theorem fnLs.has {ls : Array Slot} {nL : Nat} {lv : List Value} (h : fnLs ls nL lv) : lv_has ls nL (fnPk lv) := ⟨h.1, h.2.1, fun q hq => h.2.2 q.1 q.2 (fnPk_of hq).1 (fnPk_of hq).2⟩
theorem fnLs.st1 {ls : Array Slot} {nL : Nat} {lv : List Value} {i : Nat} {v : Value} (h : fnLs ls nL lv) (hi : i < nL) (hc : v.category = 1) (hp : ∀ j w, i = j + 1 → lv[j]? = some w → w.category ≠ 2) : ∃ ls', storeLocals ls i v = some ls' ∧ fnLs ls' nL (lv.set i v) := by
  obtain ⟨ls', h1, h2⟩ := lv_store1 h.has hi hc
  refine ⟨ls', h1, h2.1, h2.2.1, fun j w hj hw => ?_⟩
  by_cases hji : j = i
  · subst hji
    have hl : j < lv.length := by
      have := (List.getElem?_eq_some_iff.mp hj).1
      simpa using this
    rw [List.getElem?_set_self hl] at hj
    cases hj
    exact h2.2.2 (j, _) List.mem_cons_self
  · rw [List.getElem?_set_ne (Ne.symm hji)] at hj
    refine h2.2.2 (j, w) (List.mem_cons_of_mem _ (List.mem_filter.mpr ⟨fnPk_mem hj hw, ?_⟩))
    by_cases hji2 : j + 1 = i
    · have := hp j w hji2.symm hj
      simp [hji, hji2, this]
    · simp [hji, hji2]
theorem fnLs.st2 {ls : Array Slot} {nL : Nat} {lv : List Value} {i : Nat} {v : Value} (h : fnLs ls nL lv) (hi : i + 1 < nL) (hc : v.category = 2) (hp : ∀ j w, i = j + 1 → lv[j]? = some w → w.category ≠ 2) : ∃ ls', storeLocals ls i v = some ls' ∧ fnLs ls' nL ((lv.set i v).set (i + 1) .null) := by
  obtain ⟨ls', h1, h2⟩ := lv_store2 h.has hi hc
  refine ⟨ls', h1, h2.1, h2.2.1, fun j w hj hw => ?_⟩
  by_cases hj1 : j = i + 1
  · subst hj1
    have hl : i + 1 < (lv.set i v).length := (by
      have := (List.getElem?_eq_some_iff.mp hj).1
      simpa using this)
    rw [List.getElem?_set_self hl] at hj
    cases hj
    exact absurd rfl hw
  · rw [List.getElem?_set_ne (Ne.symm hj1)] at hj
    by_cases hji : j = i
    · subst hji
      have hl : j < lv.length := by
        have := (List.getElem?_eq_some_iff.mp hj).1
        simpa using this
      rw [List.getElem?_set_self hl] at hj
      cases hj
      exact h2.2.2 (j, _) List.mem_cons_self
    · rw [List.getElem?_set_ne (Ne.symm hji)] at hj
      refine h2.2.2 (j, w) (List.mem_cons_of_mem _ (List.mem_filter.mpr ⟨fnPk_mem hj hw, ?_⟩))
      by_cases hji2 : j + 1 = i
      · have := hp j w hji2.symm hj
        simp [hji, hji2, this]
        omega
      · simp [hji, hji2, hj1]
