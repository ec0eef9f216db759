theorem fr_0_0 : fnFR 0 9 0 1 := ⟨by decide, _, rfl, rfl⟩
theorem fr_0_1 : fnFR 0 9 1 2 := ⟨by decide, _, rfl, rfl⟩
theorem fr_0_2 : fnFR 0 9 2 17 := ⟨by decide, _, rfl, rfl⟩
theorem fr_0_3 : fnFR 0 9 3 23 := ⟨by decide, _, rfl, rfl⟩
theorem fr_0_4 : fnFR 0 9 4 26 := ⟨by decide, _, rfl, rfl⟩
theorem fr_0_5 : fnFR 0 9 5 32 := ⟨by decide, _, rfl, rfl⟩
theorem fr_0_6 : fnFR 0 9 6 36 := ⟨by decide, _, rfl, rfl⟩
theorem fr_0_7 : fnFR 0 9 7 43 := ⟨by decide, _, rfl, rfl⟩
theorem fr_0_8 : fnFR 0 9 8 47 := ⟨by decide, _, rfl, rfl⟩
theorem fr_0_9 : fnFR 0 9 9 6 := ⟨by decide, _, rfl, rfl⟩
theorem fr_0_10 : fnFR 0 9 10 49 := ⟨by decide, _, rfl, rfl⟩
theorem fr_0_11 : fnFR 0 9 11 50 := ⟨by decide, _, rfl, rfl⟩
theorem sh_0 : (fnSh 0).1 = 9 + 4 := rfl
theorem fr_3_0 : fnFR 3 0 0 7 := ⟨by decide, _, rfl, rfl⟩
theorem sh_3 : (fnSh 3).1 = 0 + 4 := rfl
theorem fr_4_0 : fnFR 4 0 0 8 := ⟨by decide, _, rfl, rfl⟩
theorem sh_4 : (fnSh 4).1 = 0 + 4 := rfl
theorem fr_5_0 : fnFR 5 0 0 9 := ⟨by decide, _, rfl, rfl⟩
theorem sh_5 : (fnSh 5).1 = 0 + 4 := rfl
theorem fr_6_0 : fnFR 6 0 0 10 := ⟨by decide, _, rfl, rfl⟩
theorem sh_6 : (fnSh 6).1 = 0 + 4 := rfl
theorem ar_7 : fnAr 7 0 6 := ⟨by decide, by decide, _, rfl⟩
theorem ar_8 : fnAr 8 0 6 := ⟨by decide, by decide, _, rfl⟩
theorem ar_9 : fnAr 9 0 6 := ⟨by decide, by decide, _, rfl⟩
theorem ar_10 : fnAr 10 0 6 := ⟨by decide, by decide, _, rfl⟩
theorem fr_11_0 : fnFR 11 7 0 14 := ⟨by decide, _, rfl, rfl⟩
theorem fi_11_1 : fnFI 11 7 1 := ⟨by decide, _, rfl, rfl⟩
theorem sh_11 : (fnSh 11).1 = 7 + 4 := rfl
theorem fr_12_0 : fnFR 12 7 0 15 := ⟨by decide, _, rfl, rfl⟩
theorem fi_12_1 : fnFI 12 7 1 := ⟨by decide, _, rfl, rfl⟩
theorem sh_12 : (fnSh 12).1 = 7 + 4 := rfl
theorem fr_13_0 : fnFR 13 7 0 16 := ⟨by decide, _, rfl, rfl⟩
theorem fi_13_1 : fnFI 13 7 1 := ⟨by decide, _, rfl, rfl⟩
theorem sh_13 : (fnSh 13).1 = 7 + 4 := rfl
theorem ar_14 : fnAr 14 0 32 := ⟨by decide, by decide, _, rfl⟩
theorem ar_15 : fnAr 15 0 32 := ⟨by decide, by decide, _, rfl⟩
theorem ar_16 : fnAr 16 0 32 := ⟨by decide, by decide, _, rfl⟩
theorem fr_17_0 : fnFR 17 6 0 18 := ⟨by decide, _, rfl, rfl⟩
theorem fr_17_1 : fnFR 17 6 1 19 := ⟨by decide, _, rfl, rfl⟩
theorem fr_17_2 : fnFR 17 6 2 20 := ⟨by decide, _, rfl, rfl⟩
theorem fr_17_3 : fnFR 17 6 3 21 := ⟨by decide, _, rfl, rfl⟩
theorem fr_17_4 : fnFR 17 6 4 22 := ⟨by decide, _, rfl, rfl⟩
theorem fi_17_5 : fnFI 17 6 5 := ⟨by decide, _, rfl, rfl⟩
theorem fi_17_6 : fnFI 17 6 6 := ⟨by decide, _, rfl, rfl⟩
theorem sh_17 : (fnSh 17).1 = 6 + 4 := rfl
theorem ar_18 : fnAr 18 0 6 := ⟨by decide, by decide, _, rfl⟩
theorem ar_19 : fnAr 19 0 4 := ⟨by decide, by decide, _, rfl⟩
theorem ar_20 : fnAr 20 0 6 := ⟨by decide, by decide, _, rfl⟩
theorem ar_21 : fnAr 21 0 6 := ⟨by decide, by decide, _, rfl⟩
theorem ar_22 : fnAr 22 1 6 := ⟨by decide, by decide, _, rfl⟩
theorem fr_23_0 : fnFR 23 2 0 24 := ⟨by decide, _, rfl, rfl⟩
theorem fr_23_1 : fnFR 23 2 1 25 := ⟨by decide, _, rfl, rfl⟩
theorem fi_23_2 : fnFI 23 2 2 := ⟨by decide, _, rfl, rfl⟩
theorem fi_23_3 : fnFI 23 2 3 := ⟨by decide, _, rfl, rfl⟩
theorem fi_23_4 : fnFI 23 2 4 := ⟨by decide, _, rfl, rfl⟩
theorem fi_23_5 : fnFI 23 2 5 := ⟨by decide, _, rfl, rfl⟩
theorem fi_23_6 : fnFI 23 2 6 := ⟨by decide, _, rfl, rfl⟩
theorem fi_23_7 : fnFI 23 2 7 := ⟨by decide, _, rfl, rfl⟩
theorem fi_23_8 : fnFI 23 2 8 := ⟨by decide, _, rfl, rfl⟩
theorem sh_23 : (fnSh 23).1 = 2 + 4 := rfl
theorem ar_24 : fnAr 24 0 97 := ⟨by decide, by decide, _, rfl⟩
theorem ar_25 : fnAr 25 1 97 := ⟨by decide, by decide, _, rfl⟩
theorem fr_26_0 : fnFR 26 4 0 27 := ⟨by decide, _, rfl, rfl⟩
theorem fr_26_1 : fnFR 26 4 1 28 := ⟨by decide, _, rfl, rfl⟩
theorem fr_26_2 : fnFR 26 4 2 29 := ⟨by decide, _, rfl, rfl⟩
theorem fr_26_3 : fnFR 26 4 3 30 := ⟨by decide, _, rfl, rfl⟩
theorem fr_26_4 : fnFR 26 4 4 31 := ⟨by decide, _, rfl, rfl⟩
theorem sh_26 : (fnSh 26).1 = 4 + 4 := rfl
theorem ar_27 : fnAr 27 0 8 := ⟨by decide, by decide, _, rfl⟩
theorem ar_28 : fnAr 28 0 8 := ⟨by decide, by decide, _, rfl⟩
theorem ar_29 : fnAr 29 0 24 := ⟨by decide, by decide, _, rfl⟩
theorem ar_30 : fnAr 30 0 24 := ⟨by decide, by decide, _, rfl⟩
theorem ar_31 : fnAr 31 1 24 := ⟨by decide, by decide, _, rfl⟩
theorem fr_32_0 : fnFR 32 1 0 33 := ⟨by decide, _, rfl, rfl⟩
theorem fr_32_1 : fnFR 32 1 1 34 := ⟨by decide, _, rfl, rfl⟩
theorem fr_32_2 : fnFR 32 1 2 35 := ⟨by decide, _, rfl, rfl⟩
theorem sh_32 : (fnSh 32).1 = 1 + 4 := rfl
theorem ar_33 : fnAr 33 0 20 := ⟨by decide, by decide, _, rfl⟩
theorem ar_34 : fnAr 34 0 20 := ⟨by decide, by decide, _, rfl⟩
theorem ar_35 : fnAr 35 0 20 := ⟨by decide, by decide, _, rfl⟩
theorem fr_36_0 : fnFR 36 3 0 37 := ⟨by decide, _, rfl, rfl⟩
theorem fr_36_1 : fnFR 36 3 1 38 := ⟨by decide, _, rfl, rfl⟩
theorem fr_36_2 : fnFR 36 3 2 39 := ⟨by decide, _, rfl, rfl⟩
theorem fr_36_3 : fnFR 36 3 3 40 := ⟨by decide, _, rfl, rfl⟩
theorem fr_36_4 : fnFR 36 3 4 41 := ⟨by decide, _, rfl, rfl⟩
theorem fr_36_5 : fnFR 36 3 5 42 := ⟨by decide, _, rfl, rfl⟩
theorem fi_36_6 : fnFI 36 3 6 := ⟨by decide, _, rfl, rfl⟩
theorem sh_36 : (fnSh 36).1 = 3 + 4 := rfl
theorem ar_37 : fnAr 37 0 40 := ⟨by decide, by decide, _, rfl⟩
theorem ar_38 : fnAr 38 0 40 := ⟨by decide, by decide, _, rfl⟩
theorem ar_39 : fnAr 39 0 40 := ⟨by decide, by decide, _, rfl⟩
theorem ar_40 : fnAr 40 0 40 := ⟨by decide, by decide, _, rfl⟩
theorem ar_41 : fnAr 41 0 40 := ⟨by decide, by decide, _, rfl⟩
theorem ar_42 : fnAr 42 0 40 := ⟨by decide, by decide, _, rfl⟩
theorem fr_43_0 : fnFR 43 5 0 44 := ⟨by decide, _, rfl, rfl⟩
theorem fr_43_1 : fnFR 43 5 1 45 := ⟨by decide, _, rfl, rfl⟩
theorem fr_43_2 : fnFR 43 5 2 46 := ⟨by decide, _, rfl, rfl⟩
theorem fi_43_3 : fnFI 43 5 3 := ⟨by decide, _, rfl, rfl⟩
theorem fi_43_4 : fnFI 43 5 4 := ⟨by decide, _, rfl, rfl⟩
theorem fi_43_5 : fnFI 43 5 5 := ⟨by decide, _, rfl, rfl⟩
theorem sh_43 : (fnSh 43).1 = 5 + 4 := rfl
theorem ar_44 : fnAr 44 0 40 := ⟨by decide, by decide, _, rfl⟩
theorem ar_45 : fnAr 45 0 40 := ⟨by decide, by decide, _, rfl⟩
theorem ar_46 : fnAr 46 0 40 := ⟨by decide, by decide, _, rfl⟩
theorem fr_47_0 : fnFR 47 8 0 48 := ⟨by decide, _, rfl, rfl⟩
theorem fi_47_1 : fnFI 47 8 1 := ⟨by decide, _, rfl, rfl⟩
theorem fi_47_2 : fnFI 47 8 2 := ⟨by decide, _, rfl, rfl⟩
theorem fi_47_3 : fnFI 47 8 3 := ⟨by decide, _, rfl, rfl⟩
theorem sh_47 : (fnSh 47).1 = 8 + 4 := rfl
theorem ar_48 : fnAr 48 0 40 := ⟨by decide, by decide, _, rfl⟩
theorem ar_49 : fnAr 49 0 32 := ⟨by decide, by decide, _, rfl⟩
theorem ar_50 : fnAr 50 0 32 := ⟨by decide, by decide, _, rfl⟩
theorem fi_51_0 : fnFI 51 10 0 := ⟨by decide, _, rfl, rfl⟩
theorem fr_51_1 : fnFR 51 10 1 52 := ⟨by decide, _, rfl, rfl⟩
theorem fr_51_2 : fnFR 51 10 2 53 := ⟨by decide, _, rfl, rfl⟩
theorem fr_51_3 : fnFR 51 10 3 54 := ⟨by decide, _, rfl, rfl⟩
theorem fr_51_4 : fnFR 51 10 4 55 := ⟨by decide, _, rfl, rfl⟩
theorem fr_51_5 : fnFR 51 10 5 56 := ⟨by decide, _, rfl, rfl⟩
theorem fr_51_6 : fnFR 51 10 6 57 := ⟨by decide, _, rfl, rfl⟩
theorem fr_51_7 : fnFR 51 10 7 58 := ⟨by decide, _, rfl, rfl⟩
theorem fi_51_8 : fnFI 51 10 8 := ⟨by decide, _, rfl, rfl⟩
theorem fi_51_9 : fnFI 51 10 9 := ⟨by decide, _, rfl, rfl⟩
theorem fr_51_10 : fnFR 51 10 10 59 := ⟨by decide, _, rfl, rfl⟩
theorem fr_51_11 : fnFR 51 10 11 60 := ⟨by decide, _, rfl, rfl⟩
theorem fr_51_12 : fnFR 51 10 12 61 := ⟨by decide, _, rfl, rfl⟩
theorem fr_51_13 : fnFR 51 10 13 62 := ⟨by decide, _, rfl, rfl⟩
theorem fr_51_14 : fnFR 51 10 14 63 := ⟨by decide, _, rfl, rfl⟩
theorem fr_51_15 : fnFR 51 10 15 64 := ⟨by decide, _, rfl, rfl⟩
theorem fr_51_16 : fnFR 51 10 16 65 := ⟨by decide, _, rfl, rfl⟩
theorem fr_51_17 : fnFR 51 10 17 66 := ⟨by decide, _, rfl, rfl⟩
theorem fi_51_18 : fnFI 51 10 18 := ⟨by decide, _, rfl, rfl⟩
theorem fr_51_19 : fnFR 51 10 19 67 := ⟨by decide, _, rfl, rfl⟩
theorem fr_51_20 : fnFR 51 10 20 68 := ⟨by decide, _, rfl, rfl⟩
theorem fr_51_21 : fnFR 51 10 21 69 := ⟨by decide, _, rfl, rfl⟩
theorem fr_51_22 : fnFR 51 10 22 70 := ⟨by decide, _, rfl, rfl⟩
theorem fr_51_23 : fnFR 51 10 23 71 := ⟨by decide, _, rfl, rfl⟩
theorem fr_51_24 : fnFR 51 10 24 72 := ⟨by decide, _, rfl, rfl⟩
theorem fr_51_25 : fnFR 51 10 25 73 := ⟨by decide, _, rfl, rfl⟩
theorem fr_51_26 : fnFR 51 10 26 74 := ⟨by decide, _, rfl, rfl⟩
theorem fr_51_27 : fnFR 51 10 27 75 := ⟨by decide, _, rfl, rfl⟩
theorem fi_51_28 : fnFI 51 10 28 := ⟨by decide, _, rfl, rfl⟩
theorem fr_51_29 : fnFR 51 10 29 76 := ⟨by decide, _, rfl, rfl⟩
theorem fr_51_30 : fnFR 51 10 30 77 := ⟨by decide, _, rfl, rfl⟩
theorem fr_51_31 : fnFR 51 10 31 78 := ⟨by decide, _, rfl, rfl⟩
theorem sh_51 : (fnSh 51).1 = 10 + 4 := rfl
theorem ar_52 : fnAr 52 0 18 := ⟨by decide, by decide, _, rfl⟩
theorem ar_53 : fnAr 53 0 96 := ⟨by decide, by decide, _, rfl⟩
theorem ar_54 : fnAr 54 0 6 := ⟨by decide, by decide, _, rfl⟩
theorem ar_55 : fnAr 55 0 6 := ⟨by decide, by decide, _, rfl⟩
theorem ar_56 : fnAr 56 0 6 := ⟨by decide, by decide, _, rfl⟩
theorem ar_57 : fnAr 57 1 6 := ⟨by decide, by decide, _, rfl⟩
theorem ar_58 : fnAr 58 0 4 := ⟨by decide, by decide, _, rfl⟩
theorem ar_59 : fnAr 59 0 8 := ⟨by decide, by decide, _, rfl⟩
theorem ar_60 : fnAr 60 0 8 := ⟨by decide, by decide, _, rfl⟩
theorem ar_61 : fnAr 61 1 24 := ⟨by decide, by decide, _, rfl⟩
theorem ar_62 : fnAr 62 0 24 := ⟨by decide, by decide, _, rfl⟩
theorem ar_63 : fnAr 63 0 24 := ⟨by decide, by decide, _, rfl⟩
theorem ar_64 : fnAr 64 0 20 := ⟨by decide, by decide, _, rfl⟩
theorem ar_65 : fnAr 65 0 20 := ⟨by decide, by decide, _, rfl⟩
theorem ar_66 : fnAr 66 0 20 := ⟨by decide, by decide, _, rfl⟩
theorem ar_67 : fnAr 67 0 40 := ⟨by decide, by decide, _, rfl⟩
theorem ar_68 : fnAr 68 0 40 := ⟨by decide, by decide, _, rfl⟩
theorem ar_69 : fnAr 69 0 40 := ⟨by decide, by decide, _, rfl⟩
theorem ar_70 : fnAr 70 0 40 := ⟨by decide, by decide, _, rfl⟩
theorem ar_71 : fnAr 71 0 40 := ⟨by decide, by decide, _, rfl⟩
theorem ar_72 : fnAr 72 0 40 := ⟨by decide, by decide, _, rfl⟩
theorem ar_73 : fnAr 73 0 6 := ⟨by decide, by decide, _, rfl⟩
theorem ar_74 : fnAr 74 0 32 := ⟨by decide, by decide, _, rfl⟩
theorem ar_75 : fnAr 75 0 3 := ⟨by decide, by decide, _, rfl⟩
theorem ar_76 : fnAr 76 0 40 := ⟨by decide, by decide, _, rfl⟩
theorem ar_77 : fnAr 77 0 40 := ⟨by decide, by decide, _, rfl⟩
theorem ar_78 : fnAr 78 0 40 := ⟨by decide, by decide, _, rfl⟩
theorem fn_lt4 {c : Nat} {P : Nat → Prop} (h0 : P 0) (h1 : P 1) (h2 : P 2) (h3 : P 3) (h : c < 4) : P c := by
  have : c = 0 ∨ c = 1 ∨ c = 2 ∨ c = 3 := by omega
  rcases this with rfl | rfl | rfl | rfl <;> assumption
theorem fn_lt3 {c : Nat} {P : Nat → Prop} (h0 : P 0) (h1 : P 1) (h2 : P 2) (h : c < 3) : P c := by
  have : c = 0 ∨ c = 1 ∨ c = 2 := by omega
  rcases this with rfl | rfl | rfl <;> assumption
theorem fr_card {c : Nat} (h : c < 4) : fnFR (3 + c) 0 0 (7 + c) := fn_lt4 (P := fun c => fnFR (3 + c) 0 0 (7 + c)) fr_3_0 fr_4_0 fr_5_0 fr_6_0 h
theorem ar_cp {c : Nat} (h : c < 4) : fnAr (7 + c) 0 6 := fn_lt4 (P := fun c => fnAr (7 + c) 0 6) ar_7 ar_8 ar_9 ar_10 h
theorem sh_card {c : Nat} (h : c < 4) : (fnSh (3 + c)).1 = 0 + 4 := fn_lt4 (P := fun c => (fnSh (3 + c)).1 = 0 + 4) rfl rfl rfl rfl h
theorem fr_swing {c : Nat} (h : c < 3) : fnFR (11 + c) 7 0 (14 + c) := fn_lt3 (P := fun c => fnFR (11 + c) 7 0 (14 + c)) fr_11_0 fr_12_0 fr_13_0 h
theorem fi_swing {c : Nat} (h : c < 3) : fnFI (11 + c) 7 1 := fn_lt3 (P := fun c => fnFI (11 + c) 7 1) fi_11_1 fi_12_1 fi_13_1 h
theorem ar_errs {c : Nat} (h : c < 3) : fnAr (14 + c) 0 32 := fn_lt3 (P := fun c => fnAr (14 + c) 0 32) ar_14 ar_15 ar_16 h
theorem sh_swing {c : Nat} (h : c < 3) : (fnSh (11 + c)).1 = 7 + 4 := fn_lt3 (P := fun c => (fnSh (11 + c)).1 = 7 + 4) rfl rfl rfl h
/-- the answer and the memory behind it, named -/
def fnIs (v0 : Option Value) (σ0 : fnMem) : Option Value → fnMem → Prop := fun v σ => v = v0 ∧ σ = σ0
theorem fnIs.i {z w : Int} {σ : fnMem} (h : z = w) : fnIs (some (zI w)) σ (some (zI z)) σ := ⟨by rw [h], rfl⟩
theorem fnIs.im {z w : Int} {σ τ : fnMem} (h : z = w) (h2 : σ = τ) : fnIs (some (zI w)) τ (some (zI z)) σ := ⟨by rw [h], h2⟩
theorem fnIs.l {z w : Int} {σ : fnMem} (h : z = w) : fnIs (some (zL w)) σ (some (zL z)) σ := ⟨by rw [h], rfl⟩
theorem fnSh_lt {b ci : Nat} (h : (fnSh b).1 = ci + 4) : b < 79 := by
  rcases Nat.lt_or_ge b 79 with q | q
  · exact q
  · have : fnSh b = (0, 0, []) := by
      unfold fnSh
      rw [List.getD_eq_getElem?_getD, List.getElem?_eq_none (by simpa [fnShL] using q)]
      rfl
    rw [this] at h
    simp at h
theorem fn_cS0P {E : fnE} {own : String} {cc : ByteArray} {nL fr lo : Nat} {V : fnV} (h : fnCx E own cc nL fr lo V) {M : fnM} {lv rest : List Value} {σ : fnMem} {idx pc nx : Nat} {Post : Option Value → fnMem → Prop} (hOk : fnOk E M [] σ Post) (hm : fnMs M 0) (hlk : Cond.methodLink own idx M.1 ∈ fnT) (hd : fnD cc pc (.invokestatic idx) 3 nx) (hR : Nat.ble (M.2.2.2.2.1 + 1) fr = true ∧ Nat.ble (8 + (M.2.2.1 + 11) + M.2.2.2.2.2) lo = true) (hW : Nat.ble (rest.map fun v => v.category).sum 8 = true) (k : ∀ (v : Option Value) (σ1 : fnMem), Post v σ1 → V nx lv (v.toList ++ rest) σ1) : V pc lv (rest) σ := fn_callS h (as := []) hOk hm hlk hd hR rfl hW k
theorem fn_cS0 {E : fnE} {own : String} {cc : ByteArray} {nL fr lo : Nat} {V : fnV} (h : fnCx E own cc nL fr lo V) {M : fnM} {lv rest : List Value} {σ : fnMem} {idx pc nx : Nat} {v0 : Value} {σ0 : fnMem} (hOk : fnOk E M [] σ (fnIs (some v0) σ0)) (hm : fnMs M 0) (hlk : Cond.methodLink own idx M.1 ∈ fnT) (hd : fnD cc pc (.invokestatic idx) 3 nx) (hR : Nat.ble (M.2.2.2.2.1 + 1) fr = true ∧ Nat.ble (8 + (M.2.2.1 + 11) + M.2.2.2.2.2) lo = true) (hW : Nat.ble (rest.map fun v => v.category).sum 8 = true) (k : V nx lv (v0 :: rest) σ0) : V pc lv (rest) σ := fn_cS0P h hOk hm hlk hd hR hW (fun v σ1 q => by obtain ⟨rfl, rfl⟩ := q; exact k)
theorem fn_cS0v {E : fnE} {own : String} {cc : ByteArray} {nL fr lo : Nat} {V : fnV} (h : fnCx E own cc nL fr lo V) {M : fnM} {lv rest : List Value} {σ : fnMem} {idx pc nx : Nat} {σ0 : fnMem} (hOk : fnOk E M [] σ (fnIs none σ0)) (hm : fnMs M 0) (hlk : Cond.methodLink own idx M.1 ∈ fnT) (hd : fnD cc pc (.invokestatic idx) 3 nx) (hR : Nat.ble (M.2.2.2.2.1 + 1) fr = true ∧ Nat.ble (8 + (M.2.2.1 + 11) + M.2.2.2.2.2) lo = true) (hW : Nat.ble (rest.map fun v => v.category).sum 8 = true) (k : V nx lv rest σ0) : V pc lv (rest) σ := fn_cS0P h hOk hm hlk hd hR hW (fun v σ1 q => by obtain ⟨rfl, rfl⟩ := q; exact k)
theorem fn_cV0P {E : fnE} {own : String} {cc : ByteArray} {nL fr lo : Nat} {V : fnV} (h : fnCx E own cc nL fr lo V) {M : fnM} {lv rest : List Value} {σ : fnMem} {idx pc nx : Nat} {b ci : Nat} {T : u_T} {N : Nat} {Post : Option Value → fnMem → Prop} (hOk : fnOk E M [.ref b] σ Post) (hm : fnMv M 0) (hlk : Cond.methodLink own idx M.1 ∈ fnT) (hd : fnD cc pc (.invokevirtual idx) 3 nx) (hs : (fnSh b).1 = ci + 4) (hci : vwCl[ci]? = some (M.1.cls, T, N)) (hR : Nat.ble (M.2.2.2.2.1 + 1) fr = true ∧ Nat.ble (8 + (M.2.2.1 + 11) + M.2.2.2.2.2) lo = true) (hW : Nat.ble (rest.map fun v => v.category).sum 8 = true) (k : ∀ (v : Option Value) (σ1 : fnMem), Post v σ1 → V nx lv (v.toList ++ rest) σ1) : V pc lv (.ref b :: rest) σ := fn_callV h (as := []) hOk hm hlk hd (fnSh_lt hs) hs hci hR rfl hW k
theorem fn_cV0 {E : fnE} {own : String} {cc : ByteArray} {nL fr lo : Nat} {V : fnV} (h : fnCx E own cc nL fr lo V) {M : fnM} {lv rest : List Value} {σ : fnMem} {idx pc nx : Nat} {b ci : Nat} {T : u_T} {N : Nat} {v0 : Value} {σ0 : fnMem} (hOk : fnOk E M [.ref b] σ (fnIs (some v0) σ0)) (hm : fnMv M 0) (hlk : Cond.methodLink own idx M.1 ∈ fnT) (hd : fnD cc pc (.invokevirtual idx) 3 nx) (hs : (fnSh b).1 = ci + 4) (hci : vwCl[ci]? = some (M.1.cls, T, N)) (hR : Nat.ble (M.2.2.2.2.1 + 1) fr = true ∧ Nat.ble (8 + (M.2.2.1 + 11) + M.2.2.2.2.2) lo = true) (hW : Nat.ble (rest.map fun v => v.category).sum 8 = true) (k : V nx lv (v0 :: rest) σ0) : V pc lv (.ref b :: rest) σ := fn_cV0P h hOk hm hlk hd hs hci hR hW (fun v σ1 q => by obtain ⟨rfl, rfl⟩ := q; exact k)
theorem fn_cV0v {E : fnE} {own : String} {cc : ByteArray} {nL fr lo : Nat} {V : fnV} (h : fnCx E own cc nL fr lo V) {M : fnM} {lv rest : List Value} {σ : fnMem} {idx pc nx : Nat} {b ci : Nat} {T : u_T} {N : Nat} {σ0 : fnMem} (hOk : fnOk E M [.ref b] σ (fnIs none σ0)) (hm : fnMv M 0) (hlk : Cond.methodLink own idx M.1 ∈ fnT) (hd : fnD cc pc (.invokevirtual idx) 3 nx) (hs : (fnSh b).1 = ci + 4) (hci : vwCl[ci]? = some (M.1.cls, T, N)) (hR : Nat.ble (M.2.2.2.2.1 + 1) fr = true ∧ Nat.ble (8 + (M.2.2.1 + 11) + M.2.2.2.2.2) lo = true) (hW : Nat.ble (rest.map fun v => v.category).sum 8 = true) (k : V nx lv rest σ0) : V pc lv (.ref b :: rest) σ := fn_cV0P h hOk hm hlk hd hs hci hR hW (fun v σ1 q => by obtain ⟨rfl, rfl⟩ := q; exact k)
theorem fn_cS1P {E : fnE} {own : String} {cc : ByteArray} {nL fr lo : Nat} {V : fnV} (h : fnCx E own cc nL fr lo V) {M : fnM} {lv rest : List Value} {σ : fnMem} {idx pc nx : Nat} {a0 : Value} {Post : Option Value → fnMem → Prop} (hOk : fnOk E M [a0] σ Post) (hm : fnMs M 1) (hlk : Cond.methodLink own idx M.1 ∈ fnT) (hd : fnD cc pc (.invokestatic idx) 3 nx) (hR : Nat.ble (M.2.2.2.2.1 + 1) fr = true ∧ Nat.ble (8 + (M.2.2.1 + 11) + M.2.2.2.2.2) lo = true) (hW : Nat.ble (rest.map fun v => v.category).sum 8 = true) (k : ∀ (v : Option Value) (σ1 : fnMem), Post v σ1 → V nx lv (v.toList ++ rest) σ1) : V pc lv (a0 :: rest) σ := fn_callS h (as := [a0]) hOk hm hlk hd hR rfl hW k
theorem fn_cS1 {E : fnE} {own : String} {cc : ByteArray} {nL fr lo : Nat} {V : fnV} (h : fnCx E own cc nL fr lo V) {M : fnM} {lv rest : List Value} {σ : fnMem} {idx pc nx : Nat} {a0 : Value} {v0 : Value} {σ0 : fnMem} (hOk : fnOk E M [a0] σ (fnIs (some v0) σ0)) (hm : fnMs M 1) (hlk : Cond.methodLink own idx M.1 ∈ fnT) (hd : fnD cc pc (.invokestatic idx) 3 nx) (hR : Nat.ble (M.2.2.2.2.1 + 1) fr = true ∧ Nat.ble (8 + (M.2.2.1 + 11) + M.2.2.2.2.2) lo = true) (hW : Nat.ble (rest.map fun v => v.category).sum 8 = true) (k : V nx lv (v0 :: rest) σ0) : V pc lv (a0 :: rest) σ := fn_cS1P h hOk hm hlk hd hR hW (fun v σ1 q => by obtain ⟨rfl, rfl⟩ := q; exact k)
theorem fn_cN1P {E : fnE} {own : String} {cc : ByteArray} {nL fr lo : Nat} {V : fnV} (h : fnCx E own cc nL fr lo V) {M : fnM} {lv rest : List Value} {σ : fnMem} {idx pc nx : Nat} {host : String} {a0 : Value} {Post : Option Value → fnMem → Prop} (hOk : fnOk E M [a0] σ Post) (hm : fnMs M 1) (hlk : Cond.methodLinkNest own idx M.1 host ∈ lw_tbl) (hd : fnD cc pc (.invokestatic idx) 3 nx) (hR : Nat.ble (M.2.2.2.2.1 + 1) fr = true ∧ Nat.ble (8 + (M.2.2.1 + 11) + M.2.2.2.2.2) lo = true) (hW : Nat.ble (rest.map fun v => v.category).sum 8 = true) (k : ∀ (v : Option Value) (σ1 : fnMem), Post v σ1 → V nx lv (v.toList ++ rest) σ1) : V pc lv (a0 :: rest) σ := fn_callN h (as := [a0]) hOk hm hlk hd hR rfl hW k
theorem fn_cN1 {E : fnE} {own : String} {cc : ByteArray} {nL fr lo : Nat} {V : fnV} (h : fnCx E own cc nL fr lo V) {M : fnM} {lv rest : List Value} {σ : fnMem} {idx pc nx : Nat} {host : String} {a0 : Value} {v0 : Value} {σ0 : fnMem} (hOk : fnOk E M [a0] σ (fnIs (some v0) σ0)) (hm : fnMs M 1) (hlk : Cond.methodLinkNest own idx M.1 host ∈ lw_tbl) (hd : fnD cc pc (.invokestatic idx) 3 nx) (hR : Nat.ble (M.2.2.2.2.1 + 1) fr = true ∧ Nat.ble (8 + (M.2.2.1 + 11) + M.2.2.2.2.2) lo = true) (hW : Nat.ble (rest.map fun v => v.category).sum 8 = true) (k : V nx lv (v0 :: rest) σ0) : V pc lv (a0 :: rest) σ := fn_cN1P h hOk hm hlk hd hR hW (fun v σ1 q => by obtain ⟨rfl, rfl⟩ := q; exact k)
theorem fn_cS1v {E : fnE} {own : String} {cc : ByteArray} {nL fr lo : Nat} {V : fnV} (h : fnCx E own cc nL fr lo V) {M : fnM} {lv rest : List Value} {σ : fnMem} {idx pc nx : Nat} {a0 : Value} {σ0 : fnMem} (hOk : fnOk E M [a0] σ (fnIs none σ0)) (hm : fnMs M 1) (hlk : Cond.methodLink own idx M.1 ∈ fnT) (hd : fnD cc pc (.invokestatic idx) 3 nx) (hR : Nat.ble (M.2.2.2.2.1 + 1) fr = true ∧ Nat.ble (8 + (M.2.2.1 + 11) + M.2.2.2.2.2) lo = true) (hW : Nat.ble (rest.map fun v => v.category).sum 8 = true) (k : V nx lv rest σ0) : V pc lv (a0 :: rest) σ := fn_cS1P h hOk hm hlk hd hR hW (fun v σ1 q => by obtain ⟨rfl, rfl⟩ := q; exact k)
theorem fn_cV1P {E : fnE} {own : String} {cc : ByteArray} {nL fr lo : Nat} {V : fnV} (h : fnCx E own cc nL fr lo V) {M : fnM} {lv rest : List Value} {σ : fnMem} {idx pc nx : Nat} {b ci : Nat} {T : u_T} {N : Nat} {a0 : Value} {Post : Option Value → fnMem → Prop} (hOk : fnOk E M [.ref b, a0] σ Post) (hm : fnMv M 1) (hlk : Cond.methodLink own idx M.1 ∈ fnT) (hd : fnD cc pc (.invokevirtual idx) 3 nx) (hs : (fnSh b).1 = ci + 4) (hci : vwCl[ci]? = some (M.1.cls, T, N)) (hR : Nat.ble (M.2.2.2.2.1 + 1) fr = true ∧ Nat.ble (8 + (M.2.2.1 + 11) + M.2.2.2.2.2) lo = true) (hW : Nat.ble (rest.map fun v => v.category).sum 8 = true) (k : ∀ (v : Option Value) (σ1 : fnMem), Post v σ1 → V nx lv (v.toList ++ rest) σ1) : V pc lv (a0 :: .ref b :: rest) σ := fn_callV h (as := [a0]) hOk hm hlk hd (fnSh_lt hs) hs hci hR rfl hW k
theorem fn_cV1 {E : fnE} {own : String} {cc : ByteArray} {nL fr lo : Nat} {V : fnV} (h : fnCx E own cc nL fr lo V) {M : fnM} {lv rest : List Value} {σ : fnMem} {idx pc nx : Nat} {b ci : Nat} {T : u_T} {N : Nat} {a0 : Value} {v0 : Value} {σ0 : fnMem} (hOk : fnOk E M [.ref b, a0] σ (fnIs (some v0) σ0)) (hm : fnMv M 1) (hlk : Cond.methodLink own idx M.1 ∈ fnT) (hd : fnD cc pc (.invokevirtual idx) 3 nx) (hs : (fnSh b).1 = ci + 4) (hci : vwCl[ci]? = some (M.1.cls, T, N)) (hR : Nat.ble (M.2.2.2.2.1 + 1) fr = true ∧ Nat.ble (8 + (M.2.2.1 + 11) + M.2.2.2.2.2) lo = true) (hW : Nat.ble (rest.map fun v => v.category).sum 8 = true) (k : V nx lv (v0 :: rest) σ0) : V pc lv (a0 :: .ref b :: rest) σ := fn_cV1P h hOk hm hlk hd hs hci hR hW (fun v σ1 q => by obtain ⟨rfl, rfl⟩ := q; exact k)
theorem fn_cV1v {E : fnE} {own : String} {cc : ByteArray} {nL fr lo : Nat} {V : fnV} (h : fnCx E own cc nL fr lo V) {M : fnM} {lv rest : List Value} {σ : fnMem} {idx pc nx : Nat} {b ci : Nat} {T : u_T} {N : Nat} {a0 : Value} {σ0 : fnMem} (hOk : fnOk E M [.ref b, a0] σ (fnIs none σ0)) (hm : fnMv M 1) (hlk : Cond.methodLink own idx M.1 ∈ fnT) (hd : fnD cc pc (.invokevirtual idx) 3 nx) (hs : (fnSh b).1 = ci + 4) (hci : vwCl[ci]? = some (M.1.cls, T, N)) (hR : Nat.ble (M.2.2.2.2.1 + 1) fr = true ∧ Nat.ble (8 + (M.2.2.1 + 11) + M.2.2.2.2.2) lo = true) (hW : Nat.ble (rest.map fun v => v.category).sum 8 = true) (k : V nx lv rest σ0) : V pc lv (a0 :: .ref b :: rest) σ := fn_cV1P h hOk hm hlk hd hs hci hR hW (fun v σ1 q => by obtain ⟨rfl, rfl⟩ := q; exact k)
theorem fn_cS2P {E : fnE} {own : String} {cc : ByteArray} {nL fr lo : Nat} {V : fnV} (h : fnCx E own cc nL fr lo V) {M : fnM} {lv rest : List Value} {σ : fnMem} {idx pc nx : Nat} {a0 a1 : Value} {Post : Option Value → fnMem → Prop} (hOk : fnOk E M [a0, a1] σ Post) (hm : fnMs M 2) (hlk : Cond.methodLink own idx M.1 ∈ fnT) (hd : fnD cc pc (.invokestatic idx) 3 nx) (hR : Nat.ble (M.2.2.2.2.1 + 1) fr = true ∧ Nat.ble (8 + (M.2.2.1 + 11) + M.2.2.2.2.2) lo = true) (hW : Nat.ble (rest.map fun v => v.category).sum 8 = true) (k : ∀ (v : Option Value) (σ1 : fnMem), Post v σ1 → V nx lv (v.toList ++ rest) σ1) : V pc lv (a1 :: a0 :: rest) σ := fn_callS h (as := [a0, a1]) hOk hm hlk hd hR rfl hW k
theorem fn_cS2 {E : fnE} {own : String} {cc : ByteArray} {nL fr lo : Nat} {V : fnV} (h : fnCx E own cc nL fr lo V) {M : fnM} {lv rest : List Value} {σ : fnMem} {idx pc nx : Nat} {a0 a1 : Value} {v0 : Value} {σ0 : fnMem} (hOk : fnOk E M [a0, a1] σ (fnIs (some v0) σ0)) (hm : fnMs M 2) (hlk : Cond.methodLink own idx M.1 ∈ fnT) (hd : fnD cc pc (.invokestatic idx) 3 nx) (hR : Nat.ble (M.2.2.2.2.1 + 1) fr = true ∧ Nat.ble (8 + (M.2.2.1 + 11) + M.2.2.2.2.2) lo = true) (hW : Nat.ble (rest.map fun v => v.category).sum 8 = true) (k : V nx lv (v0 :: rest) σ0) : V pc lv (a1 :: a0 :: rest) σ := fn_cS2P h hOk hm hlk hd hR hW (fun v σ1 q => by obtain ⟨rfl, rfl⟩ := q; exact k)
theorem fn_cS2v {E : fnE} {own : String} {cc : ByteArray} {nL fr lo : Nat} {V : fnV} (h : fnCx E own cc nL fr lo V) {M : fnM} {lv rest : List Value} {σ : fnMem} {idx pc nx : Nat} {a0 a1 : Value} {σ0 : fnMem} (hOk : fnOk E M [a0, a1] σ (fnIs none σ0)) (hm : fnMs M 2) (hlk : Cond.methodLink own idx M.1 ∈ fnT) (hd : fnD cc pc (.invokestatic idx) 3 nx) (hR : Nat.ble (M.2.2.2.2.1 + 1) fr = true ∧ Nat.ble (8 + (M.2.2.1 + 11) + M.2.2.2.2.2) lo = true) (hW : Nat.ble (rest.map fun v => v.category).sum 8 = true) (k : V nx lv rest σ0) : V pc lv (a1 :: a0 :: rest) σ := fn_cS2P h hOk hm hlk hd hR hW (fun v σ1 q => by obtain ⟨rfl, rfl⟩ := q; exact k)
theorem fn_cV2P {E : fnE} {own : String} {cc : ByteArray} {nL fr lo : Nat} {V : fnV} (h : fnCx E own cc nL fr lo V) {M : fnM} {lv rest : List Value} {σ : fnMem} {idx pc nx : Nat} {b ci : Nat} {T : u_T} {N : Nat} {a0 a1 : Value} {Post : Option Value → fnMem → Prop} (hOk : fnOk E M [.ref b, a0, a1] σ Post) (hm : fnMv M 2) (hlk : Cond.methodLink own idx M.1 ∈ fnT) (hd : fnD cc pc (.invokevirtual idx) 3 nx) (hs : (fnSh b).1 = ci + 4) (hci : vwCl[ci]? = some (M.1.cls, T, N)) (hR : Nat.ble (M.2.2.2.2.1 + 1) fr = true ∧ Nat.ble (8 + (M.2.2.1 + 11) + M.2.2.2.2.2) lo = true) (hW : Nat.ble (rest.map fun v => v.category).sum 8 = true) (k : ∀ (v : Option Value) (σ1 : fnMem), Post v σ1 → V nx lv (v.toList ++ rest) σ1) : V pc lv (a1 :: a0 :: .ref b :: rest) σ := fn_callV h (as := [a0, a1]) hOk hm hlk hd (fnSh_lt hs) hs hci hR rfl hW k
theorem fn_cV2 {E : fnE} {own : String} {cc : ByteArray} {nL fr lo : Nat} {V : fnV} (h : fnCx E own cc nL fr lo V) {M : fnM} {lv rest : List Value} {σ : fnMem} {idx pc nx : Nat} {b ci : Nat} {T : u_T} {N : Nat} {a0 a1 : Value} {v0 : Value} {σ0 : fnMem} (hOk : fnOk E M [.ref b, a0, a1] σ (fnIs (some v0) σ0)) (hm : fnMv M 2) (hlk : Cond.methodLink own idx M.1 ∈ fnT) (hd : fnD cc pc (.invokevirtual idx) 3 nx) (hs : (fnSh b).1 = ci + 4) (hci : vwCl[ci]? = some (M.1.cls, T, N)) (hR : Nat.ble (M.2.2.2.2.1 + 1) fr = true ∧ Nat.ble (8 + (M.2.2.1 + 11) + M.2.2.2.2.2) lo = true) (hW : Nat.ble (rest.map fun v => v.category).sum 8 = true) (k : V nx lv (v0 :: rest) σ0) : V pc lv (a1 :: a0 :: .ref b :: rest) σ := fn_cV2P h hOk hm hlk hd hs hci hR hW (fun v σ1 q => by obtain ⟨rfl, rfl⟩ := q; exact k)
theorem fn_cV2v {E : fnE} {own : String} {cc : ByteArray} {nL fr lo : Nat} {V : fnV} (h : fnCx E own cc nL fr lo V) {M : fnM} {lv rest : List Value} {σ : fnMem} {idx pc nx : Nat} {b ci : Nat} {T : u_T} {N : Nat} {a0 a1 : Value} {σ0 : fnMem} (hOk : fnOk E M [.ref b, a0, a1] σ (fnIs none σ0)) (hm : fnMv M 2) (hlk : Cond.methodLink own idx M.1 ∈ fnT) (hd : fnD cc pc (.invokevirtual idx) 3 nx) (hs : (fnSh b).1 = ci + 4) (hci : vwCl[ci]? = some (M.1.cls, T, N)) (hR : Nat.ble (M.2.2.2.2.1 + 1) fr = true ∧ Nat.ble (8 + (M.2.2.1 + 11) + M.2.2.2.2.2) lo = true) (hW : Nat.ble (rest.map fun v => v.category).sum 8 = true) (k : V nx lv rest σ0) : V pc lv (a1 :: a0 :: .ref b :: rest) σ := fn_cV2P h hOk hm hlk hd hs hci hR hW (fun v σ1 q => by obtain ⟨rfl, rfl⟩ := q; exact k)
theorem fn_cS3P {E : fnE} {own : String} {cc : ByteArray} {nL fr lo : Nat} {V : fnV} (h : fnCx E own cc nL fr lo V) {M : fnM} {lv rest : List Value} {σ : fnMem} {idx pc nx : Nat} {a0 a1 a2 : Value} {Post : Option Value → fnMem → Prop} (hOk : fnOk E M [a0, a1, a2] σ Post) (hm : fnMs M 3) (hlk : Cond.methodLink own idx M.1 ∈ fnT) (hd : fnD cc pc (.invokestatic idx) 3 nx) (hR : Nat.ble (M.2.2.2.2.1 + 1) fr = true ∧ Nat.ble (8 + (M.2.2.1 + 11) + M.2.2.2.2.2) lo = true) (hW : Nat.ble (rest.map fun v => v.category).sum 8 = true) (k : ∀ (v : Option Value) (σ1 : fnMem), Post v σ1 → V nx lv (v.toList ++ rest) σ1) : V pc lv (a2 :: a1 :: a0 :: rest) σ := fn_callS h (as := [a0, a1, a2]) hOk hm hlk hd hR rfl hW k
theorem fn_cS3 {E : fnE} {own : String} {cc : ByteArray} {nL fr lo : Nat} {V : fnV} (h : fnCx E own cc nL fr lo V) {M : fnM} {lv rest : List Value} {σ : fnMem} {idx pc nx : Nat} {a0 a1 a2 : Value} {v0 : Value} {σ0 : fnMem} (hOk : fnOk E M [a0, a1, a2] σ (fnIs (some v0) σ0)) (hm : fnMs M 3) (hlk : Cond.methodLink own idx M.1 ∈ fnT) (hd : fnD cc pc (.invokestatic idx) 3 nx) (hR : Nat.ble (M.2.2.2.2.1 + 1) fr = true ∧ Nat.ble (8 + (M.2.2.1 + 11) + M.2.2.2.2.2) lo = true) (hW : Nat.ble (rest.map fun v => v.category).sum 8 = true) (k : V nx lv (v0 :: rest) σ0) : V pc lv (a2 :: a1 :: a0 :: rest) σ := fn_cS3P h hOk hm hlk hd hR hW (fun v σ1 q => by obtain ⟨rfl, rfl⟩ := q; exact k)
theorem fn_cS3v {E : fnE} {own : String} {cc : ByteArray} {nL fr lo : Nat} {V : fnV} (h : fnCx E own cc nL fr lo V) {M : fnM} {lv rest : List Value} {σ : fnMem} {idx pc nx : Nat} {a0 a1 a2 : Value} {σ0 : fnMem} (hOk : fnOk E M [a0, a1, a2] σ (fnIs none σ0)) (hm : fnMs M 3) (hlk : Cond.methodLink own idx M.1 ∈ fnT) (hd : fnD cc pc (.invokestatic idx) 3 nx) (hR : Nat.ble (M.2.2.2.2.1 + 1) fr = true ∧ Nat.ble (8 + (M.2.2.1 + 11) + M.2.2.2.2.2) lo = true) (hW : Nat.ble (rest.map fun v => v.category).sum 8 = true) (k : V nx lv rest σ0) : V pc lv (a2 :: a1 :: a0 :: rest) σ := fn_cS3P h hOk hm hlk hd hR hW (fun v σ1 q => by obtain ⟨rfl, rfl⟩ := q; exact k)
theorem fn_cV3P {E : fnE} {own : String} {cc : ByteArray} {nL fr lo : Nat} {V : fnV} (h : fnCx E own cc nL fr lo V) {M : fnM} {lv rest : List Value} {σ : fnMem} {idx pc nx : Nat} {b ci : Nat} {T : u_T} {N : Nat} {a0 a1 a2 : Value} {Post : Option Value → fnMem → Prop} (hOk : fnOk E M [.ref b, a0, a1, a2] σ Post) (hm : fnMv M 3) (hlk : Cond.methodLink own idx M.1 ∈ fnT) (hd : fnD cc pc (.invokevirtual idx) 3 nx) (hs : (fnSh b).1 = ci + 4) (hci : vwCl[ci]? = some (M.1.cls, T, N)) (hR : Nat.ble (M.2.2.2.2.1 + 1) fr = true ∧ Nat.ble (8 + (M.2.2.1 + 11) + M.2.2.2.2.2) lo = true) (hW : Nat.ble (rest.map fun v => v.category).sum 8 = true) (k : ∀ (v : Option Value) (σ1 : fnMem), Post v σ1 → V nx lv (v.toList ++ rest) σ1) : V pc lv (a2 :: a1 :: a0 :: .ref b :: rest) σ := fn_callV h (as := [a0, a1, a2]) hOk hm hlk hd (fnSh_lt hs) hs hci hR rfl hW k
theorem fn_cV3 {E : fnE} {own : String} {cc : ByteArray} {nL fr lo : Nat} {V : fnV} (h : fnCx E own cc nL fr lo V) {M : fnM} {lv rest : List Value} {σ : fnMem} {idx pc nx : Nat} {b ci : Nat} {T : u_T} {N : Nat} {a0 a1 a2 : Value} {v0 : Value} {σ0 : fnMem} (hOk : fnOk E M [.ref b, a0, a1, a2] σ (fnIs (some v0) σ0)) (hm : fnMv M 3) (hlk : Cond.methodLink own idx M.1 ∈ fnT) (hd : fnD cc pc (.invokevirtual idx) 3 nx) (hs : (fnSh b).1 = ci + 4) (hci : vwCl[ci]? = some (M.1.cls, T, N)) (hR : Nat.ble (M.2.2.2.2.1 + 1) fr = true ∧ Nat.ble (8 + (M.2.2.1 + 11) + M.2.2.2.2.2) lo = true) (hW : Nat.ble (rest.map fun v => v.category).sum 8 = true) (k : V nx lv (v0 :: rest) σ0) : V pc lv (a2 :: a1 :: a0 :: .ref b :: rest) σ := fn_cV3P h hOk hm hlk hd hs hci hR hW (fun v σ1 q => by obtain ⟨rfl, rfl⟩ := q; exact k)
theorem fn_cV3v {E : fnE} {own : String} {cc : ByteArray} {nL fr lo : Nat} {V : fnV} (h : fnCx E own cc nL fr lo V) {M : fnM} {lv rest : List Value} {σ : fnMem} {idx pc nx : Nat} {b ci : Nat} {T : u_T} {N : Nat} {a0 a1 a2 : Value} {σ0 : fnMem} (hOk : fnOk E M [.ref b, a0, a1, a2] σ (fnIs none σ0)) (hm : fnMv M 3) (hlk : Cond.methodLink own idx M.1 ∈ fnT) (hd : fnD cc pc (.invokevirtual idx) 3 nx) (hs : (fnSh b).1 = ci + 4) (hci : vwCl[ci]? = some (M.1.cls, T, N)) (hR : Nat.ble (M.2.2.2.2.1 + 1) fr = true ∧ Nat.ble (8 + (M.2.2.1 + 11) + M.2.2.2.2.2) lo = true) (hW : Nat.ble (rest.map fun v => v.category).sum 8 = true) (k : V nx lv rest σ0) : V pc lv (a2 :: a1 :: a0 :: .ref b :: rest) σ := fn_cV3P h hOk hm hlk hd hs hci hR hW (fun v σ1 q => by obtain ⟨rfl, rfl⟩ := q; exact k)
theorem fn_cS4P {E : fnE} {own : String} {cc : ByteArray} {nL fr lo : Nat} {V : fnV} (h : fnCx E own cc nL fr lo V) {M : fnM} {lv rest : List Value} {σ : fnMem} {idx pc nx : Nat} {a0 a1 a2 a3 : Value} {Post : Option Value → fnMem → Prop} (hOk : fnOk E M [a0, a1, a2, a3] σ Post) (hm : fnMs M 4) (hlk : Cond.methodLink own idx M.1 ∈ fnT) (hd : fnD cc pc (.invokestatic idx) 3 nx) (hR : Nat.ble (M.2.2.2.2.1 + 1) fr = true ∧ Nat.ble (8 + (M.2.2.1 + 11) + M.2.2.2.2.2) lo = true) (hW : Nat.ble (rest.map fun v => v.category).sum 8 = true) (k : ∀ (v : Option Value) (σ1 : fnMem), Post v σ1 → V nx lv (v.toList ++ rest) σ1) : V pc lv (a3 :: a2 :: a1 :: a0 :: rest) σ := fn_callS h (as := [a0, a1, a2, a3]) hOk hm hlk hd hR rfl hW k
theorem fn_cS4 {E : fnE} {own : String} {cc : ByteArray} {nL fr lo : Nat} {V : fnV} (h : fnCx E own cc nL fr lo V) {M : fnM} {lv rest : List Value} {σ : fnMem} {idx pc nx : Nat} {a0 a1 a2 a3 : Value} {v0 : Value} {σ0 : fnMem} (hOk : fnOk E M [a0, a1, a2, a3] σ (fnIs (some v0) σ0)) (hm : fnMs M 4) (hlk : Cond.methodLink own idx M.1 ∈ fnT) (hd : fnD cc pc (.invokestatic idx) 3 nx) (hR : Nat.ble (M.2.2.2.2.1 + 1) fr = true ∧ Nat.ble (8 + (M.2.2.1 + 11) + M.2.2.2.2.2) lo = true) (hW : Nat.ble (rest.map fun v => v.category).sum 8 = true) (k : V nx lv (v0 :: rest) σ0) : V pc lv (a3 :: a2 :: a1 :: a0 :: rest) σ := fn_cS4P h hOk hm hlk hd hR hW (fun v σ1 q => by obtain ⟨rfl, rfl⟩ := q; exact k)
theorem fn_cS4v {E : fnE} {own : String} {cc : ByteArray} {nL fr lo : Nat} {V : fnV} (h : fnCx E own cc nL fr lo V) {M : fnM} {lv rest : List Value} {σ : fnMem} {idx pc nx : Nat} {a0 a1 a2 a3 : Value} {σ0 : fnMem} (hOk : fnOk E M [a0, a1, a2, a3] σ (fnIs none σ0)) (hm : fnMs M 4) (hlk : Cond.methodLink own idx M.1 ∈ fnT) (hd : fnD cc pc (.invokestatic idx) 3 nx) (hR : Nat.ble (M.2.2.2.2.1 + 1) fr = true ∧ Nat.ble (8 + (M.2.2.1 + 11) + M.2.2.2.2.2) lo = true) (hW : Nat.ble (rest.map fun v => v.category).sum 8 = true) (k : V nx lv rest σ0) : V pc lv (a3 :: a2 :: a1 :: a0 :: rest) σ := fn_cS4P h hOk hm hlk hd hR hW (fun v σ1 q => by obtain ⟨rfl, rfl⟩ := q; exact k)
theorem fn_cV4P {E : fnE} {own : String} {cc : ByteArray} {nL fr lo : Nat} {V : fnV} (h : fnCx E own cc nL fr lo V) {M : fnM} {lv rest : List Value} {σ : fnMem} {idx pc nx : Nat} {b ci : Nat} {T : u_T} {N : Nat} {a0 a1 a2 a3 : Value} {Post : Option Value → fnMem → Prop} (hOk : fnOk E M [.ref b, a0, a1, a2, a3] σ Post) (hm : fnMv M 4) (hlk : Cond.methodLink own idx M.1 ∈ fnT) (hd : fnD cc pc (.invokevirtual idx) 3 nx) (hs : (fnSh b).1 = ci + 4) (hci : vwCl[ci]? = some (M.1.cls, T, N)) (hR : Nat.ble (M.2.2.2.2.1 + 1) fr = true ∧ Nat.ble (8 + (M.2.2.1 + 11) + M.2.2.2.2.2) lo = true) (hW : Nat.ble (rest.map fun v => v.category).sum 8 = true) (k : ∀ (v : Option Value) (σ1 : fnMem), Post v σ1 → V nx lv (v.toList ++ rest) σ1) : V pc lv (a3 :: a2 :: a1 :: a0 :: .ref b :: rest) σ := fn_callV h (as := [a0, a1, a2, a3]) hOk hm hlk hd (fnSh_lt hs) hs hci hR rfl hW k
theorem fn_cV4 {E : fnE} {own : String} {cc : ByteArray} {nL fr lo : Nat} {V : fnV} (h : fnCx E own cc nL fr lo V) {M : fnM} {lv rest : List Value} {σ : fnMem} {idx pc nx : Nat} {b ci : Nat} {T : u_T} {N : Nat} {a0 a1 a2 a3 : Value} {v0 : Value} {σ0 : fnMem} (hOk : fnOk E M [.ref b, a0, a1, a2, a3] σ (fnIs (some v0) σ0)) (hm : fnMv M 4) (hlk : Cond.methodLink own idx M.1 ∈ fnT) (hd : fnD cc pc (.invokevirtual idx) 3 nx) (hs : (fnSh b).1 = ci + 4) (hci : vwCl[ci]? = some (M.1.cls, T, N)) (hR : Nat.ble (M.2.2.2.2.1 + 1) fr = true ∧ Nat.ble (8 + (M.2.2.1 + 11) + M.2.2.2.2.2) lo = true) (hW : Nat.ble (rest.map fun v => v.category).sum 8 = true) (k : V nx lv (v0 :: rest) σ0) : V pc lv (a3 :: a2 :: a1 :: a0 :: .ref b :: rest) σ := fn_cV4P h hOk hm hlk hd hs hci hR hW (fun v σ1 q => by obtain ⟨rfl, rfl⟩ := q; exact k)
theorem fn_cV4v {E : fnE} {own : String} {cc : ByteArray} {nL fr lo : Nat} {V : fnV} (h : fnCx E own cc nL fr lo V) {M : fnM} {lv rest : List Value} {σ : fnMem} {idx pc nx : Nat} {b ci : Nat} {T : u_T} {N : Nat} {a0 a1 a2 a3 : Value} {σ0 : fnMem} (hOk : fnOk E M [.ref b, a0, a1, a2, a3] σ (fnIs none σ0)) (hm : fnMv M 4) (hlk : Cond.methodLink own idx M.1 ∈ fnT) (hd : fnD cc pc (.invokevirtual idx) 3 nx) (hs : (fnSh b).1 = ci + 4) (hci : vwCl[ci]? = some (M.1.cls, T, N)) (hR : Nat.ble (M.2.2.2.2.1 + 1) fr = true ∧ Nat.ble (8 + (M.2.2.1 + 11) + M.2.2.2.2.2) lo = true) (hW : Nat.ble (rest.map fun v => v.category).sum 8 = true) (k : V nx lv rest σ0) : V pc lv (a3 :: a2 :: a1 :: a0 :: .ref b :: rest) σ := fn_cV4P h hOk hm hlk hd hs hci hR hW (fun v σ1 q => by obtain ⟨rfl, rfl⟩ := q; exact k)
theorem fn_cS5P {E : fnE} {own : String} {cc : ByteArray} {nL fr lo : Nat} {V : fnV} (h : fnCx E own cc nL fr lo V) {M : fnM} {lv rest : List Value} {σ : fnMem} {idx pc nx : Nat} {a0 a1 a2 a3 a4 : Value} {Post : Option Value → fnMem → Prop} (hOk : fnOk E M [a0, a1, a2, a3, a4] σ Post) (hm : fnMs M 5) (hlk : Cond.methodLink own idx M.1 ∈ fnT) (hd : fnD cc pc (.invokestatic idx) 3 nx) (hR : Nat.ble (M.2.2.2.2.1 + 1) fr = true ∧ Nat.ble (8 + (M.2.2.1 + 11) + M.2.2.2.2.2) lo = true) (hW : Nat.ble (rest.map fun v => v.category).sum 8 = true) (k : ∀ (v : Option Value) (σ1 : fnMem), Post v σ1 → V nx lv (v.toList ++ rest) σ1) : V pc lv (a4 :: a3 :: a2 :: a1 :: a0 :: rest) σ := fn_callS h (as := [a0, a1, a2, a3, a4]) hOk hm hlk hd hR rfl hW k
theorem fn_cS5 {E : fnE} {own : String} {cc : ByteArray} {nL fr lo : Nat} {V : fnV} (h : fnCx E own cc nL fr lo V) {M : fnM} {lv rest : List Value} {σ : fnMem} {idx pc nx : Nat} {a0 a1 a2 a3 a4 : Value} {v0 : Value} {σ0 : fnMem} (hOk : fnOk E M [a0, a1, a2, a3, a4] σ (fnIs (some v0) σ0)) (hm : fnMs M 5) (hlk : Cond.methodLink own idx M.1 ∈ fnT) (hd : fnD cc pc (.invokestatic idx) 3 nx) (hR : Nat.ble (M.2.2.2.2.1 + 1) fr = true ∧ Nat.ble (8 + (M.2.2.1 + 11) + M.2.2.2.2.2) lo = true) (hW : Nat.ble (rest.map fun v => v.category).sum 8 = true) (k : V nx lv (v0 :: rest) σ0) : V pc lv (a4 :: a3 :: a2 :: a1 :: a0 :: rest) σ := fn_cS5P h hOk hm hlk hd hR hW (fun v σ1 q => by obtain ⟨rfl, rfl⟩ := q; exact k)
theorem fn_cS5v {E : fnE} {own : String} {cc : ByteArray} {nL fr lo : Nat} {V : fnV} (h : fnCx E own cc nL fr lo V) {M : fnM} {lv rest : List Value} {σ : fnMem} {idx pc nx : Nat} {a0 a1 a2 a3 a4 : Value} {σ0 : fnMem} (hOk : fnOk E M [a0, a1, a2, a3, a4] σ (fnIs none σ0)) (hm : fnMs M 5) (hlk : Cond.methodLink own idx M.1 ∈ fnT) (hd : fnD cc pc (.invokestatic idx) 3 nx) (hR : Nat.ble (M.2.2.2.2.1 + 1) fr = true ∧ Nat.ble (8 + (M.2.2.1 + 11) + M.2.2.2.2.2) lo = true) (hW : Nat.ble (rest.map fun v => v.category).sum 8 = true) (k : V nx lv rest σ0) : V pc lv (a4 :: a3 :: a2 :: a1 :: a0 :: rest) σ := fn_cS5P h hOk hm hlk hd hR hW (fun v σ1 q => by obtain ⟨rfl, rfl⟩ := q; exact k)
theorem fn_cV5P {E : fnE} {own : String} {cc : ByteArray} {nL fr lo : Nat} {V : fnV} (h : fnCx E own cc nL fr lo V) {M : fnM} {lv rest : List Value} {σ : fnMem} {idx pc nx : Nat} {b ci : Nat} {T : u_T} {N : Nat} {a0 a1 a2 a3 a4 : Value} {Post : Option Value → fnMem → Prop} (hOk : fnOk E M [.ref b, a0, a1, a2, a3, a4] σ Post) (hm : fnMv M 5) (hlk : Cond.methodLink own idx M.1 ∈ fnT) (hd : fnD cc pc (.invokevirtual idx) 3 nx) (hs : (fnSh b).1 = ci + 4) (hci : vwCl[ci]? = some (M.1.cls, T, N)) (hR : Nat.ble (M.2.2.2.2.1 + 1) fr = true ∧ Nat.ble (8 + (M.2.2.1 + 11) + M.2.2.2.2.2) lo = true) (hW : Nat.ble (rest.map fun v => v.category).sum 8 = true) (k : ∀ (v : Option Value) (σ1 : fnMem), Post v σ1 → V nx lv (v.toList ++ rest) σ1) : V pc lv (a4 :: a3 :: a2 :: a1 :: a0 :: .ref b :: rest) σ := fn_callV h (as := [a0, a1, a2, a3, a4]) hOk hm hlk hd (fnSh_lt hs) hs hci hR rfl hW k
theorem fn_cV5 {E : fnE} {own : String} {cc : ByteArray} {nL fr lo : Nat} {V : fnV} (h : fnCx E own cc nL fr lo V) {M : fnM} {lv rest : List Value} {σ : fnMem} {idx pc nx : Nat} {b ci : Nat} {T : u_T} {N : Nat} {a0 a1 a2 a3 a4 : Value} {v0 : Value} {σ0 : fnMem} (hOk : fnOk E M [.ref b, a0, a1, a2, a3, a4] σ (fnIs (some v0) σ0)) (hm : fnMv M 5) (hlk : Cond.methodLink own idx M.1 ∈ fnT) (hd : fnD cc pc (.invokevirtual idx) 3 nx) (hs : (fnSh b).1 = ci + 4) (hci : vwCl[ci]? = some (M.1.cls, T, N)) (hR : Nat.ble (M.2.2.2.2.1 + 1) fr = true ∧ Nat.ble (8 + (M.2.2.1 + 11) + M.2.2.2.2.2) lo = true) (hW : Nat.ble (rest.map fun v => v.category).sum 8 = true) (k : V nx lv (v0 :: rest) σ0) : V pc lv (a4 :: a3 :: a2 :: a1 :: a0 :: .ref b :: rest) σ := fn_cV5P h hOk hm hlk hd hs hci hR hW (fun v σ1 q => by obtain ⟨rfl, rfl⟩ := q; exact k)
theorem fn_cV5v {E : fnE} {own : String} {cc : ByteArray} {nL fr lo : Nat} {V : fnV} (h : fnCx E own cc nL fr lo V) {M : fnM} {lv rest : List Value} {σ : fnMem} {idx pc nx : Nat} {b ci : Nat} {T : u_T} {N : Nat} {a0 a1 a2 a3 a4 : Value} {σ0 : fnMem} (hOk : fnOk E M [.ref b, a0, a1, a2, a3, a4] σ (fnIs none σ0)) (hm : fnMv M 5) (hlk : Cond.methodLink own idx M.1 ∈ fnT) (hd : fnD cc pc (.invokevirtual idx) 3 nx) (hs : (fnSh b).1 = ci + 4) (hci : vwCl[ci]? = some (M.1.cls, T, N)) (hR : Nat.ble (M.2.2.2.2.1 + 1) fr = true ∧ Nat.ble (8 + (M.2.2.1 + 11) + M.2.2.2.2.2) lo = true) (hW : Nat.ble (rest.map fun v => v.category).sum 8 = true) (k : V nx lv rest σ0) : V pc lv (a4 :: a3 :: a2 :: a1 :: a0 :: .ref b :: rest) σ := fn_cV5P h hOk hm hlk hd hs hci hR hW (fun v σ1 q => by obtain ⟨rfl, rfl⟩ := q; exact k)
theorem fn_cS6P {E : fnE} {own : String} {cc : ByteArray} {nL fr lo : Nat} {V : fnV} (h : fnCx E own cc nL fr lo V) {M : fnM} {lv rest : List Value} {σ : fnMem} {idx pc nx : Nat} {a0 a1 a2 a3 a4 a5 : Value} {Post : Option Value → fnMem → Prop} (hOk : fnOk E M [a0, a1, a2, a3, a4, a5] σ Post) (hm : fnMs M 6) (hlk : Cond.methodLink own idx M.1 ∈ fnT) (hd : fnD cc pc (.invokestatic idx) 3 nx) (hR : Nat.ble (M.2.2.2.2.1 + 1) fr = true ∧ Nat.ble (8 + (M.2.2.1 + 11) + M.2.2.2.2.2) lo = true) (hW : Nat.ble (rest.map fun v => v.category).sum 8 = true) (k : ∀ (v : Option Value) (σ1 : fnMem), Post v σ1 → V nx lv (v.toList ++ rest) σ1) : V pc lv (a5 :: a4 :: a3 :: a2 :: a1 :: a0 :: rest) σ := fn_callS h (as := [a0, a1, a2, a3, a4, a5]) hOk hm hlk hd hR rfl hW k
theorem fn_cS6 {E : fnE} {own : String} {cc : ByteArray} {nL fr lo : Nat} {V : fnV} (h : fnCx E own cc nL fr lo V) {M : fnM} {lv rest : List Value} {σ : fnMem} {idx pc nx : Nat} {a0 a1 a2 a3 a4 a5 : Value} {v0 : Value} {σ0 : fnMem} (hOk : fnOk E M [a0, a1, a2, a3, a4, a5] σ (fnIs (some v0) σ0)) (hm : fnMs M 6) (hlk : Cond.methodLink own idx M.1 ∈ fnT) (hd : fnD cc pc (.invokestatic idx) 3 nx) (hR : Nat.ble (M.2.2.2.2.1 + 1) fr = true ∧ Nat.ble (8 + (M.2.2.1 + 11) + M.2.2.2.2.2) lo = true) (hW : Nat.ble (rest.map fun v => v.category).sum 8 = true) (k : V nx lv (v0 :: rest) σ0) : V pc lv (a5 :: a4 :: a3 :: a2 :: a1 :: a0 :: rest) σ := fn_cS6P h hOk hm hlk hd hR hW (fun v σ1 q => by obtain ⟨rfl, rfl⟩ := q; exact k)
theorem fn_cS6v {E : fnE} {own : String} {cc : ByteArray} {nL fr lo : Nat} {V : fnV} (h : fnCx E own cc nL fr lo V) {M : fnM} {lv rest : List Value} {σ : fnMem} {idx pc nx : Nat} {a0 a1 a2 a3 a4 a5 : Value} {σ0 : fnMem} (hOk : fnOk E M [a0, a1, a2, a3, a4, a5] σ (fnIs none σ0)) (hm : fnMs M 6) (hlk : Cond.methodLink own idx M.1 ∈ fnT) (hd : fnD cc pc (.invokestatic idx) 3 nx) (hR : Nat.ble (M.2.2.2.2.1 + 1) fr = true ∧ Nat.ble (8 + (M.2.2.1 + 11) + M.2.2.2.2.2) lo = true) (hW : Nat.ble (rest.map fun v => v.category).sum 8 = true) (k : V nx lv rest σ0) : V pc lv (a5 :: a4 :: a3 :: a2 :: a1 :: a0 :: rest) σ := fn_cS6P h hOk hm hlk hd hR hW (fun v σ1 q => by obtain ⟨rfl, rfl⟩ := q; exact k)
theorem fn_cV6P {E : fnE} {own : String} {cc : ByteArray} {nL fr lo : Nat} {V : fnV} (h : fnCx E own cc nL fr lo V) {M : fnM} {lv rest : List Value} {σ : fnMem} {idx pc nx : Nat} {b ci : Nat} {T : u_T} {N : Nat} {a0 a1 a2 a3 a4 a5 : Value} {Post : Option Value → fnMem → Prop} (hOk : fnOk E M [.ref b, a0, a1, a2, a3, a4, a5] σ Post) (hm : fnMv M 6) (hlk : Cond.methodLink own idx M.1 ∈ fnT) (hd : fnD cc pc (.invokevirtual idx) 3 nx) (hs : (fnSh b).1 = ci + 4) (hci : vwCl[ci]? = some (M.1.cls, T, N)) (hR : Nat.ble (M.2.2.2.2.1 + 1) fr = true ∧ Nat.ble (8 + (M.2.2.1 + 11) + M.2.2.2.2.2) lo = true) (hW : Nat.ble (rest.map fun v => v.category).sum 8 = true) (k : ∀ (v : Option Value) (σ1 : fnMem), Post v σ1 → V nx lv (v.toList ++ rest) σ1) : V pc lv (a5 :: a4 :: a3 :: a2 :: a1 :: a0 :: .ref b :: rest) σ := fn_callV h (as := [a0, a1, a2, a3, a4, a5]) hOk hm hlk hd (fnSh_lt hs) hs hci hR rfl hW k
theorem fn_cV6 {E : fnE} {own : String} {cc : ByteArray} {nL fr lo : Nat} {V : fnV} (h : fnCx E own cc nL fr lo V) {M : fnM} {lv rest : List Value} {σ : fnMem} {idx pc nx : Nat} {b ci : Nat} {T : u_T} {N : Nat} {a0 a1 a2 a3 a4 a5 : Value} {v0 : Value} {σ0 : fnMem} (hOk : fnOk E M [.ref b, a0, a1, a2, a3, a4, a5] σ (fnIs (some v0) σ0)) (hm : fnMv M 6) (hlk : Cond.methodLink own idx M.1 ∈ fnT) (hd : fnD cc pc (.invokevirtual idx) 3 nx) (hs : (fnSh b).1 = ci + 4) (hci : vwCl[ci]? = some (M.1.cls, T, N)) (hR : Nat.ble (M.2.2.2.2.1 + 1) fr = true ∧ Nat.ble (8 + (M.2.2.1 + 11) + M.2.2.2.2.2) lo = true) (hW : Nat.ble (rest.map fun v => v.category).sum 8 = true) (k : V nx lv (v0 :: rest) σ0) : V pc lv (a5 :: a4 :: a3 :: a2 :: a1 :: a0 :: .ref b :: rest) σ := fn_cV6P h hOk hm hlk hd hs hci hR hW (fun v σ1 q => by obtain ⟨rfl, rfl⟩ := q; exact k)
theorem fn_cV6v {E : fnE} {own : String} {cc : ByteArray} {nL fr lo : Nat} {V : fnV} (h : fnCx E own cc nL fr lo V) {M : fnM} {lv rest : List Value} {σ : fnMem} {idx pc nx : Nat} {b ci : Nat} {T : u_T} {N : Nat} {a0 a1 a2 a3 a4 a5 : Value} {σ0 : fnMem} (hOk : fnOk E M [.ref b, a0, a1, a2, a3, a4, a5] σ (fnIs none σ0)) (hm : fnMv M 6) (hlk : Cond.methodLink own idx M.1 ∈ fnT) (hd : fnD cc pc (.invokevirtual idx) 3 nx) (hs : (fnSh b).1 = ci + 4) (hci : vwCl[ci]? = some (M.1.cls, T, N)) (hR : Nat.ble (M.2.2.2.2.1 + 1) fr = true ∧ Nat.ble (8 + (M.2.2.1 + 11) + M.2.2.2.2.2) lo = true) (hW : Nat.ble (rest.map fun v => v.category).sum 8 = true) (k : V nx lv rest σ0) : V pc lv (a5 :: a4 :: a3 :: a2 :: a1 :: a0 :: .ref b :: rest) σ := fn_cV6P h hOk hm hlk hd hs hci hR hW (fun v σ1 q => by obtain ⟨rfl, rfl⟩ := q; exact k)
theorem fn_cS7P {E : fnE} {own : String} {cc : ByteArray} {nL fr lo : Nat} {V : fnV} (h : fnCx E own cc nL fr lo V) {M : fnM} {lv rest : List Value} {σ : fnMem} {idx pc nx : Nat} {a0 a1 a2 a3 a4 a5 a6 : Value} {Post : Option Value → fnMem → Prop} (hOk : fnOk E M [a0, a1, a2, a3, a4, a5, a6] σ Post) (hm : fnMs M 7) (hlk : Cond.methodLink own idx M.1 ∈ fnT) (hd : fnD cc pc (.invokestatic idx) 3 nx) (hR : Nat.ble (M.2.2.2.2.1 + 1) fr = true ∧ Nat.ble (8 + (M.2.2.1 + 11) + M.2.2.2.2.2) lo = true) (hW : Nat.ble (rest.map fun v => v.category).sum 8 = true) (k : ∀ (v : Option Value) (σ1 : fnMem), Post v σ1 → V nx lv (v.toList ++ rest) σ1) : V pc lv (a6 :: a5 :: a4 :: a3 :: a2 :: a1 :: a0 :: rest) σ := fn_callS h (as := [a0, a1, a2, a3, a4, a5, a6]) hOk hm hlk hd hR rfl hW k
theorem fn_cS7 {E : fnE} {own : String} {cc : ByteArray} {nL fr lo : Nat} {V : fnV} (h : fnCx E own cc nL fr lo V) {M : fnM} {lv rest : List Value} {σ : fnMem} {idx pc nx : Nat} {a0 a1 a2 a3 a4 a5 a6 : Value} {v0 : Value} {σ0 : fnMem} (hOk : fnOk E M [a0, a1, a2, a3, a4, a5, a6] σ (fnIs (some v0) σ0)) (hm : fnMs M 7) (hlk : Cond.methodLink own idx M.1 ∈ fnT) (hd : fnD cc pc (.invokestatic idx) 3 nx) (hR : Nat.ble (M.2.2.2.2.1 + 1) fr = true ∧ Nat.ble (8 + (M.2.2.1 + 11) + M.2.2.2.2.2) lo = true) (hW : Nat.ble (rest.map fun v => v.category).sum 8 = true) (k : V nx lv (v0 :: rest) σ0) : V pc lv (a6 :: a5 :: a4 :: a3 :: a2 :: a1 :: a0 :: rest) σ := fn_cS7P h hOk hm hlk hd hR hW (fun v σ1 q => by obtain ⟨rfl, rfl⟩ := q; exact k)
theorem fn_cS7v {E : fnE} {own : String} {cc : ByteArray} {nL fr lo : Nat} {V : fnV} (h : fnCx E own cc nL fr lo V) {M : fnM} {lv rest : List Value} {σ : fnMem} {idx pc nx : Nat} {a0 a1 a2 a3 a4 a5 a6 : Value} {σ0 : fnMem} (hOk : fnOk E M [a0, a1, a2, a3, a4, a5, a6] σ (fnIs none σ0)) (hm : fnMs M 7) (hlk : Cond.methodLink own idx M.1 ∈ fnT) (hd : fnD cc pc (.invokestatic idx) 3 nx) (hR : Nat.ble (M.2.2.2.2.1 + 1) fr = true ∧ Nat.ble (8 + (M.2.2.1 + 11) + M.2.2.2.2.2) lo = true) (hW : Nat.ble (rest.map fun v => v.category).sum 8 = true) (k : V nx lv rest σ0) : V pc lv (a6 :: a5 :: a4 :: a3 :: a2 :: a1 :: a0 :: rest) σ := fn_cS7P h hOk hm hlk hd hR hW (fun v σ1 q => by obtain ⟨rfl, rfl⟩ := q; exact k)
theorem fn_cV7P {E : fnE} {own : String} {cc : ByteArray} {nL fr lo : Nat} {V : fnV} (h : fnCx E own cc nL fr lo V) {M : fnM} {lv rest : List Value} {σ : fnMem} {idx pc nx : Nat} {b ci : Nat} {T : u_T} {N : Nat} {a0 a1 a2 a3 a4 a5 a6 : Value} {Post : Option Value → fnMem → Prop} (hOk : fnOk E M [.ref b, a0, a1, a2, a3, a4, a5, a6] σ Post) (hm : fnMv M 7) (hlk : Cond.methodLink own idx M.1 ∈ fnT) (hd : fnD cc pc (.invokevirtual idx) 3 nx) (hs : (fnSh b).1 = ci + 4) (hci : vwCl[ci]? = some (M.1.cls, T, N)) (hR : Nat.ble (M.2.2.2.2.1 + 1) fr = true ∧ Nat.ble (8 + (M.2.2.1 + 11) + M.2.2.2.2.2) lo = true) (hW : Nat.ble (rest.map fun v => v.category).sum 8 = true) (k : ∀ (v : Option Value) (σ1 : fnMem), Post v σ1 → V nx lv (v.toList ++ rest) σ1) : V pc lv (a6 :: a5 :: a4 :: a3 :: a2 :: a1 :: a0 :: .ref b :: rest) σ := fn_callV h (as := [a0, a1, a2, a3, a4, a5, a6]) hOk hm hlk hd (fnSh_lt hs) hs hci hR rfl hW k
theorem fn_cV7 {E : fnE} {own : String} {cc : ByteArray} {nL fr lo : Nat} {V : fnV} (h : fnCx E own cc nL fr lo V) {M : fnM} {lv rest : List Value} {σ : fnMem} {idx pc nx : Nat} {b ci : Nat} {T : u_T} {N : Nat} {a0 a1 a2 a3 a4 a5 a6 : Value} {v0 : Value} {σ0 : fnMem} (hOk : fnOk E M [.ref b, a0, a1, a2, a3, a4, a5, a6] σ (fnIs (some v0) σ0)) (hm : fnMv M 7) (hlk : Cond.methodLink own idx M.1 ∈ fnT) (hd : fnD cc pc (.invokevirtual idx) 3 nx) (hs : (fnSh b).1 = ci + 4) (hci : vwCl[ci]? = some (M.1.cls, T, N)) (hR : Nat.ble (M.2.2.2.2.1 + 1) fr = true ∧ Nat.ble (8 + (M.2.2.1 + 11) + M.2.2.2.2.2) lo = true) (hW : Nat.ble (rest.map fun v => v.category).sum 8 = true) (k : V nx lv (v0 :: rest) σ0) : V pc lv (a6 :: a5 :: a4 :: a3 :: a2 :: a1 :: a0 :: .ref b :: rest) σ := fn_cV7P h hOk hm hlk hd hs hci hR hW (fun v σ1 q => by obtain ⟨rfl, rfl⟩ := q; exact k)
theorem fn_cV7v {E : fnE} {own : String} {cc : ByteArray} {nL fr lo : Nat} {V : fnV} (h : fnCx E own cc nL fr lo V) {M : fnM} {lv rest : List Value} {σ : fnMem} {idx pc nx : Nat} {b ci : Nat} {T : u_T} {N : Nat} {a0 a1 a2 a3 a4 a5 a6 : Value} {σ0 : fnMem} (hOk : fnOk E M [.ref b, a0, a1, a2, a3, a4, a5, a6] σ (fnIs none σ0)) (hm : fnMv M 7) (hlk : Cond.methodLink own idx M.1 ∈ fnT) (hd : fnD cc pc (.invokevirtual idx) 3 nx) (hs : (fnSh b).1 = ci + 4) (hci : vwCl[ci]? = some (M.1.cls, T, N)) (hR : Nat.ble (M.2.2.2.2.1 + 1) fr = true ∧ Nat.ble (8 + (M.2.2.1 + 11) + M.2.2.2.2.2) lo = true) (hW : Nat.ble (rest.map fun v => v.category).sum 8 = true) (k : V nx lv rest σ0) : V pc lv (a6 :: a5 :: a4 :: a3 :: a2 :: a1 :: a0 :: .ref b :: rest) σ := fn_cV7P h hOk hm hlk hd hs hci hR hW (fun v σ1 q => by obtain ⟨rfl, rfl⟩ := q; exact k)
theorem fn_t_icmp_eq {E : fnE} {own : String} {cc : ByteArray} {nL fr lo : Nat} {V : fnV} (h : fnCx E own cc nL fr lo V) {pc nx p2 p3 tgt : Nat} {lv st : List Value} {σ : fnMem} {u w : Int} {x y : Int} (hx1 : fnR x) (hy1 : fnR y) (d0 : fnIc cc pc .eq tgt nx) (d1 : fnD cc nx (.iconst u) 1 p2) (d2 : fnGo cc p2 p3) (d3 : fnD cc tgt (.iconst w) 1 p3) (k : V p3 lv (zI (if x = y then w else u) :: st) σ) : V pc lv (zI y :: zI x :: st) σ := by
  refine fn_icmp_eq h hx1 hy1 d0 (fun q => ?_) (fun q => ?_)
  · refine fn_iconst h d3 ?_
    rwa [if_pos q] at k
  · refine fn_iconst h d1 (fn_goto h d2 ?_)
    rwa [if_neg (by omega)] at k
theorem fn_t_icmp_ne {E : fnE} {own : String} {cc : ByteArray} {nL fr lo : Nat} {V : fnV} (h : fnCx E own cc nL fr lo V) {pc nx p2 p3 tgt : Nat} {lv st : List Value} {σ : fnMem} {u w : Int} {x y : Int} (hx1 : fnR x) (hy1 : fnR y) (d0 : fnIc cc pc .ne tgt nx) (d1 : fnD cc nx (.iconst u) 1 p2) (d2 : fnGo cc p2 p3) (d3 : fnD cc tgt (.iconst w) 1 p3) (k : V p3 lv (zI (if x ≠ y then w else u) :: st) σ) : V pc lv (zI y :: zI x :: st) σ := by
  refine fn_icmp_ne h hx1 hy1 d0 (fun q => ?_) (fun q => ?_)
  · refine fn_iconst h d3 ?_
    rwa [if_pos q] at k
  · refine fn_iconst h d1 (fn_goto h d2 ?_)
    rwa [if_neg (by omega)] at k
theorem fn_t_icmp_lt {E : fnE} {own : String} {cc : ByteArray} {nL fr lo : Nat} {V : fnV} (h : fnCx E own cc nL fr lo V) {pc nx p2 p3 tgt : Nat} {lv st : List Value} {σ : fnMem} {u w : Int} {x y : Int} (hx1 : fnR x) (hy1 : fnR y) (d0 : fnIc cc pc .lt tgt nx) (d1 : fnD cc nx (.iconst u) 1 p2) (d2 : fnGo cc p2 p3) (d3 : fnD cc tgt (.iconst w) 1 p3) (k : V p3 lv (zI (if x < y then w else u) :: st) σ) : V pc lv (zI y :: zI x :: st) σ := by
  refine fn_icmp_lt h hx1 hy1 d0 (fun q => ?_) (fun q => ?_)
  · refine fn_iconst h d3 ?_
    rwa [if_pos q] at k
  · refine fn_iconst h d1 (fn_goto h d2 ?_)
    rwa [if_neg (by omega)] at k
theorem fn_t_icmp_ge {E : fnE} {own : String} {cc : ByteArray} {nL fr lo : Nat} {V : fnV} (h : fnCx E own cc nL fr lo V) {pc nx p2 p3 tgt : Nat} {lv st : List Value} {σ : fnMem} {u w : Int} {x y : Int} (hx1 : fnR x) (hy1 : fnR y) (d0 : fnIc cc pc .ge tgt nx) (d1 : fnD cc nx (.iconst u) 1 p2) (d2 : fnGo cc p2 p3) (d3 : fnD cc tgt (.iconst w) 1 p3) (k : V p3 lv (zI (if y ≤ x then w else u) :: st) σ) : V pc lv (zI y :: zI x :: st) σ := by
  refine fn_icmp_ge h hx1 hy1 d0 (fun q => ?_) (fun q => ?_)
  · refine fn_iconst h d3 ?_
    rwa [if_pos q] at k
  · refine fn_iconst h d1 (fn_goto h d2 ?_)
    rwa [if_neg (by omega)] at k
theorem fn_t_icmp_gt {E : fnE} {own : String} {cc : ByteArray} {nL fr lo : Nat} {V : fnV} (h : fnCx E own cc nL fr lo V) {pc nx p2 p3 tgt : Nat} {lv st : List Value} {σ : fnMem} {u w : Int} {x y : Int} (hx1 : fnR x) (hy1 : fnR y) (d0 : fnIc cc pc .gt tgt nx) (d1 : fnD cc nx (.iconst u) 1 p2) (d2 : fnGo cc p2 p3) (d3 : fnD cc tgt (.iconst w) 1 p3) (k : V p3 lv (zI (if y < x then w else u) :: st) σ) : V pc lv (zI y :: zI x :: st) σ := by
  refine fn_icmp_gt h hx1 hy1 d0 (fun q => ?_) (fun q => ?_)
  · refine fn_iconst h d3 ?_
    rwa [if_pos q] at k
  · refine fn_iconst h d1 (fn_goto h d2 ?_)
    rwa [if_neg (by omega)] at k
theorem fn_t_icmp_le {E : fnE} {own : String} {cc : ByteArray} {nL fr lo : Nat} {V : fnV} (h : fnCx E own cc nL fr lo V) {pc nx p2 p3 tgt : Nat} {lv st : List Value} {σ : fnMem} {u w : Int} {x y : Int} (hx1 : fnR x) (hy1 : fnR y) (d0 : fnIc cc pc .le tgt nx) (d1 : fnD cc nx (.iconst u) 1 p2) (d2 : fnGo cc p2 p3) (d3 : fnD cc tgt (.iconst w) 1 p3) (k : V p3 lv (zI (if x ≤ y then w else u) :: st) σ) : V pc lv (zI y :: zI x :: st) σ := by
  refine fn_icmp_le h hx1 hy1 d0 (fun q => ?_) (fun q => ?_)
  · refine fn_iconst h d3 ?_
    rwa [if_pos q] at k
  · refine fn_iconst h d1 (fn_goto h d2 ?_)
    rwa [if_neg (by omega)] at k
theorem fn_t_if_eq {E : fnE} {own : String} {cc : ByteArray} {nL fr lo : Nat} {V : fnV} (h : fnCx E own cc nL fr lo V) {pc nx p2 p3 tgt : Nat} {lv st : List Value} {σ : fnMem} {u w : Int} {x : Int} (hx1 : fnR x) (d0 : fnIf cc pc .eq tgt nx) (d1 : fnD cc nx (.iconst u) 1 p2) (d2 : fnGo cc p2 p3) (d3 : fnD cc tgt (.iconst w) 1 p3) (k : V p3 lv (zI (if x = 0 then w else u) :: st) σ) : V pc lv (zI x :: st) σ := by
  refine fn_if_eq h hx1 d0 (fun q => ?_) (fun q => ?_)
  · refine fn_iconst h d3 ?_
    rwa [if_pos q] at k
  · refine fn_iconst h d1 (fn_goto h d2 ?_)
    rwa [if_neg (by omega)] at k
theorem fn_t_if_ne {E : fnE} {own : String} {cc : ByteArray} {nL fr lo : Nat} {V : fnV} (h : fnCx E own cc nL fr lo V) {pc nx p2 p3 tgt : Nat} {lv st : List Value} {σ : fnMem} {u w : Int} {x : Int} (hx1 : fnR x) (d0 : fnIf cc pc .ne tgt nx) (d1 : fnD cc nx (.iconst u) 1 p2) (d2 : fnGo cc p2 p3) (d3 : fnD cc tgt (.iconst w) 1 p3) (k : V p3 lv (zI (if x ≠ 0 then w else u) :: st) σ) : V pc lv (zI x :: st) σ := by
  refine fn_if_ne h hx1 d0 (fun q => ?_) (fun q => ?_)
  · refine fn_iconst h d3 ?_
    rwa [if_pos q] at k
  · refine fn_iconst h d1 (fn_goto h d2 ?_)
    rwa [if_neg (by omega)] at k
theorem fn_t_if_lt {E : fnE} {own : String} {cc : ByteArray} {nL fr lo : Nat} {V : fnV} (h : fnCx E own cc nL fr lo V) {pc nx p2 p3 tgt : Nat} {lv st : List Value} {σ : fnMem} {u w : Int} {x : Int} (hx1 : fnR x) (d0 : fnIf cc pc .lt tgt nx) (d1 : fnD cc nx (.iconst u) 1 p2) (d2 : fnGo cc p2 p3) (d3 : fnD cc tgt (.iconst w) 1 p3) (k : V p3 lv (zI (if x < 0 then w else u) :: st) σ) : V pc lv (zI x :: st) σ := by
  refine fn_if_lt h hx1 d0 (fun q => ?_) (fun q => ?_)
  · refine fn_iconst h d3 ?_
    rwa [if_pos q] at k
  · refine fn_iconst h d1 (fn_goto h d2 ?_)
    rwa [if_neg (by omega)] at k
theorem fn_t_if_ge {E : fnE} {own : String} {cc : ByteArray} {nL fr lo : Nat} {V : fnV} (h : fnCx E own cc nL fr lo V) {pc nx p2 p3 tgt : Nat} {lv st : List Value} {σ : fnMem} {u w : Int} {x : Int} (hx1 : fnR x) (d0 : fnIf cc pc .ge tgt nx) (d1 : fnD cc nx (.iconst u) 1 p2) (d2 : fnGo cc p2 p3) (d3 : fnD cc tgt (.iconst w) 1 p3) (k : V p3 lv (zI (if 0 ≤ x then w else u) :: st) σ) : V pc lv (zI x :: st) σ := by
  refine fn_if_ge h hx1 d0 (fun q => ?_) (fun q => ?_)
  · refine fn_iconst h d3 ?_
    rwa [if_pos q] at k
  · refine fn_iconst h d1 (fn_goto h d2 ?_)
    rwa [if_neg (by omega)] at k
theorem fn_t_if_gt {E : fnE} {own : String} {cc : ByteArray} {nL fr lo : Nat} {V : fnV} (h : fnCx E own cc nL fr lo V) {pc nx p2 p3 tgt : Nat} {lv st : List Value} {σ : fnMem} {u w : Int} {x : Int} (hx1 : fnR x) (d0 : fnIf cc pc .gt tgt nx) (d1 : fnD cc nx (.iconst u) 1 p2) (d2 : fnGo cc p2 p3) (d3 : fnD cc tgt (.iconst w) 1 p3) (k : V p3 lv (zI (if 0 < x then w else u) :: st) σ) : V pc lv (zI x :: st) σ := by
  refine fn_if_gt h hx1 d0 (fun q => ?_) (fun q => ?_)
  · refine fn_iconst h d3 ?_
    rwa [if_pos q] at k
  · refine fn_iconst h d1 (fn_goto h d2 ?_)
    rwa [if_neg (by omega)] at k
theorem fn_t_if_le {E : fnE} {own : String} {cc : ByteArray} {nL fr lo : Nat} {V : fnV} (h : fnCx E own cc nL fr lo V) {pc nx p2 p3 tgt : Nat} {lv st : List Value} {σ : fnMem} {u w : Int} {x : Int} (hx1 : fnR x) (d0 : fnIf cc pc .le tgt nx) (d1 : fnD cc nx (.iconst u) 1 p2) (d2 : fnGo cc p2 p3) (d3 : fnD cc tgt (.iconst w) 1 p3) (k : V p3 lv (zI (if x ≤ 0 then w else u) :: st) σ) : V pc lv (zI x :: st) σ := by
  refine fn_if_le h hx1 d0 (fun q => ?_) (fun q => ?_)
  · refine fn_iconst h d3 ?_
    rwa [if_pos q] at k
  · refine fn_iconst h d1 (fn_goto h d2 ?_)
    rwa [if_neg (by omega)] at k
theorem fn_t_ifneb {E : fnE} {own : String} {cc : ByteArray} {nL fr lo : Nat} {V : fnV} (h : fnCx E own cc nL fr lo V) {pc nx p2 p3 tgt : Nat} {lv st : List Value} {σ : fnMem} {u w : Int} {P : Prop} [Decidable P] (d0 : fnIf cc pc .ne tgt nx) (d1 : fnD cc nx (.iconst u) 1 p2) (d2 : fnGo cc p2 p3) (d3 : fnD cc tgt (.iconst w) 1 p3) (k : V p3 lv (zI (if P then w else u) :: st) σ) : V pc lv (zI (if P then 1 else 0) :: st) σ := by
  refine fn_ifneb h d0 (fun q => ?_) (fun q => ?_)
  · refine fn_iconst h d3 ?_
    rwa [if_pos q] at k
  · refine fn_iconst h d1 (fn_goto h d2 ?_)
    rwa [if_neg q] at k
theorem fn_t_ifeqb {E : fnE} {own : String} {cc : ByteArray} {nL fr lo : Nat} {V : fnV} (h : fnCx E own cc nL fr lo V) {pc nx p2 p3 tgt : Nat} {lv st : List Value} {σ : fnMem} {u w : Int} {P : Prop} [Decidable P] (d0 : fnIf cc pc .eq tgt nx) (d1 : fnD cc nx (.iconst u) 1 p2) (d2 : fnGo cc p2 p3) (d3 : fnD cc tgt (.iconst w) 1 p3) (k : V p3 lv (zI (if P then u else w) :: st) σ) : V pc lv (zI (if P then 1 else 0) :: st) σ := by
  refine fn_ifeqb h d0 (fun q => ?_) (fun q => ?_)
  · refine fn_iconst h d3 ?_
    rwa [if_neg q] at k
  · refine fn_iconst h d1 (fn_goto h d2 ?_)
    rwa [if_pos q] at k
def fnFr (L : List Nat) (σ σ1 : fnMem) : Prop := ∀ k, k ∉ L → σ1 k = σ k
theorem fnFr.rf {L : List Nat} {σ : fnMem} : fnFr L σ σ := fun _ _ => rfl
theorem fnFr.tr {L : List Nat} {σ σ1 σ2 : fnMem} (h1 : fnFr L σ σ1) (h2 : fnFr L σ1 σ2) : fnFr L σ σ2 := fun k hk => (h2 k hk).trans (h1 k hk)
theorem fnFr.mono {L L' : List Nat} {σ σ1 : fnMem} (h : fnFr L σ σ1) (hs : ∀ k, k ∈ L → k ∈ L') : fnFr L' σ σ1 := fun k hk => h k (fun q => hk (hs k q))
theorem fnFr.up {L : List Nat} {σ σ1 : fnMem} {b : Nat} {i v : Int} (h : fnFr L σ σ1) (hb : b ∈ L) : fnFr L σ (fnUp σ1 b i v) := fun k hk => by
  have hkb : k ≠ b := fun q => hk (by rw [q]; exact hb)
  rw [fnUp_ne σ1 i v hkb]
  exact h k hk
theorem fnUp_at (σ : fnMem) (b : Nat) (i v : Int) : fnUp σ b i v b i = v := by rw [fnUp_same]; simp
theorem fnUp_off (σ : fnMem) (b : Nat) {i j : Int} (v : Int) (h : j ≠ i) : fnUp σ b i v b j = σ b j := by rw [fnUp_same]; simp [h]
theorem fn_nat3 {c : Int} (h : 0 ≤ c ∧ c ≤ 2) : ∃ q : Nat, q < 3 ∧ c = (q : Int) := ⟨c.toNat, by omega, by omega⟩
