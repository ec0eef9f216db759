/-! what the constructors' loops write -/
def kF (v i : Int) : Nat → Int32 := fun j => Int32.ofInt (if (j : Int) < i then v else 0)
theorem k_f0 {v : Int} : (fun _ : Nat => Int32.ofInt 0) = kF v 0 := by
  funext j
  unfold kF
  rw [if_neg (by omega)]
theorem k_fs {v i : Int} (h : 0 ≤ i) : upd (kF v i) i.toNat (Int32.ofInt v) = kF v (i + 1) := by
  funext j
  unfold upd kF
  by_cases hj : j = i.toNat
  · rw [if_pos hj, if_pos (by omega)]
  · rw [if_neg hj]
    by_cases h2 : (j : Int) < i
    · rw [if_pos h2, if_pos (by omega)]
    · rw [if_neg h2, if_neg (by omega)]
set_option maxRecDepth 20000 in
theorem kw_oi : Cond.instanceMethod objectInit ∈ fnT := fn_mem 70 (by decide +kernel) (by decide +kernel)
set_option maxRecDepth 20000 in
theorem kw_oc : Cond.code objectInit ⟨#[0xb1]⟩ 1 none ∈ fnT := fn_mem 71 (by decide +kernel) (by decide +kernel)
set_option maxRecDepth 20000 in
theorem kw_ai : Cond.arrayClass .int ∈ fnT := fn_mem 107 (by decide +kernel) (by decide +kernel)
set_option maxRecDepth 20000 in
theorem kw_ab : Cond.arrayClass .boolean ∈ fnT := fn_mem 108 (by decide +kernel) (by decide +kernel)
set_option maxRecDepth 20000 in
theorem ko_X0_3 : Cond.methodLink RX0 3 objectInit ∈ fnT := fn_mem 282 (by decide +kernel) (by decide +kernel)
set_option maxRecDepth 20000 in
theorem ff_X0_9 : fnFf RX0 9 0 0 := ⟨_, _, kc_0, by decide, fn_mem 283 (by decide +kernel) (by decide +kernel), rfl, rfl, by decide, _, tyX0_ok 0 (by decide), fun _ => ⟨rfl, rfl⟩⟩
set_option maxRecDepth 20000 in
theorem ko_X1_3 : Cond.methodLink RX1 3 objectInit ∈ fnT := fn_mem 177 (by decide +kernel) (by decide +kernel)
set_option maxRecDepth 20000 in
theorem ff_X1_9 : fnFf RX1 9 1 0 := ⟨_, _, kc_1, by decide, fn_mem 178 (by decide +kernel) (by decide +kernel), rfl, rfl, by decide, _, tyX1_ok 0 (by decide), fun _ => ⟨rfl, rfl⟩⟩
set_option maxRecDepth 20000 in
theorem ff_X1_15 : fnFf RX1 15 1 1 := ⟨_, _, kc_1, by decide, fn_mem 179 (by decide +kernel) (by decide +kernel), rfl, rfl, by decide, _, tyX1_ok 1 (by decide), fun _ => ⟨rfl, rfl⟩⟩
set_option maxRecDepth 20000 in
theorem ff_X1_18 : fnFf RX1 18 1 2 := ⟨_, _, kc_1, by decide, fn_mem 180 (by decide +kernel) (by decide +kernel), rfl, rfl, by decide, _, tyX1_ok 2 (by decide), fun _ => ⟨rfl, rfl⟩⟩
set_option maxRecDepth 20000 in
theorem ko_X2_3 : Cond.methodLink RX2 3 objectInit ∈ fnT := fn_mem 114 (by decide +kernel) (by decide +kernel)
set_option maxRecDepth 20000 in
theorem ff_X2_9 : fnFf RX2 9 2 0 := ⟨_, _, kc_2, by decide, fn_mem 115 (by decide +kernel) (by decide +kernel), rfl, rfl, by decide, _, tyX2_ok 0 (by decide), fun _ => ⟨rfl, rfl⟩⟩
set_option maxRecDepth 20000 in
theorem ff_X2_15 : fnFf RX2 15 2 1 := ⟨_, _, kc_2, by decide, fn_mem 116 (by decide +kernel) (by decide +kernel), rfl, rfl, by decide, _, tyX2_ok 1 (by decide), fun _ => ⟨rfl, rfl⟩⟩
set_option maxRecDepth 20000 in
theorem ko_X3_3 : Cond.methodLink RX3 3 objectInit ∈ fnT := fn_mem 193 (by decide +kernel) (by decide +kernel)
set_option maxRecDepth 20000 in
theorem ff_X3_9 : fnFf RX3 9 3 0 := ⟨_, _, kc_3, by decide, fn_mem 194 (by decide +kernel) (by decide +kernel), rfl, rfl, by decide, _, tyX3_ok 0 (by decide), fun _ => ⟨rfl, rfl⟩⟩
set_option maxRecDepth 20000 in
theorem ff_X3_15 : fnFf RX3 15 3 1 := ⟨_, _, kc_3, by decide, fn_mem 197 (by decide +kernel) (by decide +kernel), rfl, rfl, by decide, _, tyX3_ok 1 (by decide), fun _ => ⟨rfl, rfl⟩⟩
set_option maxRecDepth 20000 in
theorem ff_X3_18 : fnFf RX3 18 3 2 := ⟨_, _, kc_3, by decide, fn_mem 199 (by decide +kernel) (by decide +kernel), rfl, rfl, by decide, _, tyX3_ok 2 (by decide), fun _ => ⟨rfl, rfl⟩⟩
set_option maxRecDepth 20000 in
theorem ff_X3_21 : fnFf RX3 21 3 3 := ⟨_, _, kc_3, by decide, fn_mem 201 (by decide +kernel) (by decide +kernel), rfl, rfl, by decide, _, tyX3_ok 3 (by decide), fun _ => ⟨rfl, rfl⟩⟩
set_option maxRecDepth 20000 in
theorem ff_X3_24 : fnFf RX3 24 3 4 := ⟨_, _, kc_3, by decide, fn_mem 204 (by decide +kernel) (by decide +kernel), rfl, rfl, by decide, _, tyX3_ok 4 (by decide), fun _ => ⟨rfl, rfl⟩⟩
set_option maxRecDepth 20000 in
theorem ff_X3_27 : fnFf RX3 27 3 5 := ⟨_, _, kc_3, by decide, fn_mem 206 (by decide +kernel) (by decide +kernel), rfl, rfl, by decide, _, tyX3_ok 5 (by decide), fun _ => ⟨rfl, rfl⟩⟩
set_option maxRecDepth 20000 in
theorem ko_X4_3 : Cond.methodLink RX4 3 objectInit ∈ fnT := fn_mem 151 (by decide +kernel) (by decide +kernel)
set_option maxRecDepth 20000 in
theorem ff_X4_9 : fnFf RX4 9 4 0 := ⟨_, _, kc_4, by decide, fn_mem 152 (by decide +kernel) (by decide +kernel), rfl, rfl, by decide, _, tyX4_ok 0 (by decide), fun _ => ⟨rfl, rfl⟩⟩
set_option maxRecDepth 20000 in
theorem ff_X4_15 : fnFf RX4 15 4 1 := ⟨_, _, kc_4, by decide, fn_mem 154 (by decide +kernel) (by decide +kernel), rfl, rfl, by decide, _, tyX4_ok 1 (by decide), fun _ => ⟨rfl, rfl⟩⟩
set_option maxRecDepth 20000 in
theorem ff_X4_18 : fnFf RX4 18 4 2 := ⟨_, _, kc_4, by decide, fn_mem 156 (by decide +kernel) (by decide +kernel), rfl, rfl, by decide, _, tyX4_ok 2 (by decide), fun _ => ⟨rfl, rfl⟩⟩
set_option maxRecDepth 20000 in
theorem ff_X4_21 : fnFf RX4 21 4 3 := ⟨_, _, kc_4, by decide, fn_mem 158 (by decide +kernel) (by decide +kernel), rfl, rfl, by decide, _, tyX4_ok 3 (by decide), fun _ => ⟨rfl, rfl⟩⟩
set_option maxRecDepth 20000 in
theorem ff_X4_24 : fnFf RX4 24 4 4 := ⟨_, _, kc_4, by decide, fn_mem 160 (by decide +kernel) (by decide +kernel), rfl, rfl, by decide, _, tyX4_ok 4 (by decide), fun _ => ⟨rfl, rfl⟩⟩
set_option maxRecDepth 20000 in
theorem ko_X5_3 : Cond.methodLink RX5 3 objectInit ∈ fnT := fn_mem 231 (by decide +kernel) (by decide +kernel)
set_option maxRecDepth 20000 in
theorem ff_X5_9 : fnFf RX5 9 5 0 := ⟨_, _, kc_5, by decide, fn_mem 232 (by decide +kernel) (by decide +kernel), rfl, rfl, by decide, _, tyX5_ok 0 (by decide), fun _ => ⟨rfl, rfl⟩⟩
set_option maxRecDepth 20000 in
theorem ff_X5_15 : fnFf RX5 15 5 1 := ⟨_, _, kc_5, by decide, fn_mem 234 (by decide +kernel) (by decide +kernel), rfl, rfl, by decide, _, tyX5_ok 1 (by decide), fun _ => ⟨rfl, rfl⟩⟩
set_option maxRecDepth 20000 in
theorem ff_X5_18 : fnFf RX5 18 5 2 := ⟨_, _, kc_5, by decide, fn_mem 235 (by decide +kernel) (by decide +kernel), rfl, rfl, by decide, _, tyX5_ok 2 (by decide), fun _ => ⟨rfl, rfl⟩⟩
set_option maxRecDepth 20000 in
theorem ko_X6_3 : Cond.methodLink RX6 3 objectInit ∈ fnT := fn_mem 81 (by decide +kernel) (by decide +kernel)
set_option maxRecDepth 20000 in
theorem ff_X6_9 : fnFf RX6 9 6 0 := ⟨_, _, kc_6, by decide, fn_mem 82 (by decide +kernel) (by decide +kernel), rfl, rfl, by decide, _, tyX6_ok 0 (by decide), fun _ => ⟨rfl, rfl⟩⟩
set_option maxRecDepth 20000 in
theorem ff_X6_15 : fnFf RX6 15 6 1 := ⟨_, _, kc_6, by decide, fn_mem 84 (by decide +kernel) (by decide +kernel), rfl, rfl, by decide, _, tyX6_ok 1 (by decide), fun _ => ⟨rfl, rfl⟩⟩
set_option maxRecDepth 20000 in
theorem ff_X6_18 : fnFf RX6 18 6 2 := ⟨_, _, kc_6, by decide, fn_mem 86 (by decide +kernel) (by decide +kernel), rfl, rfl, by decide, _, tyX6_ok 2 (by decide), fun _ => ⟨rfl, rfl⟩⟩
set_option maxRecDepth 20000 in
theorem ff_X6_21 : fnFf RX6 21 6 3 := ⟨_, _, kc_6, by decide, fn_mem 87 (by decide +kernel) (by decide +kernel), rfl, rfl, by decide, _, tyX6_ok 3 (by decide), fun _ => ⟨rfl, rfl⟩⟩
set_option maxRecDepth 20000 in
theorem ff_X6_24 : fnFf RX6 24 6 4 := ⟨_, _, kc_6, by decide, fn_mem 88 (by decide +kernel) (by decide +kernel), rfl, rfl, by decide, _, tyX6_ok 4 (by decide), fun _ => ⟨rfl, rfl⟩⟩
set_option maxRecDepth 20000 in
theorem ko_X7_3 : Cond.methodLink RX7 3 objectInit ∈ fnT := fn_mem 295 (by decide +kernel) (by decide +kernel)
set_option maxRecDepth 20000 in
theorem ff_X7_9 : fnFf RX7 9 7 0 := ⟨_, _, kc_7, by decide, fn_mem 296 (by decide +kernel) (by decide +kernel), rfl, rfl, by decide, _, tyX7_ok 0 (by decide), fun _ => ⟨rfl, rfl⟩⟩
set_option maxRecDepth 20000 in
theorem ko_X9_3 : Cond.methodLink RX9 3 objectInit ∈ fnT := fn_mem 260 (by decide +kernel) (by decide +kernel)
set_option maxRecDepth 20000 in
theorem ff_X9_9 : fnFf RX9 9 8 0 := ⟨_, _, kc_8, by decide, fn_mem 261 (by decide +kernel) (by decide +kernel), rfl, rfl, by decide, _, tyX9_ok 0 (by decide), fun _ => ⟨rfl, rfl⟩⟩
set_option maxRecDepth 20000 in
theorem ko_X10_1 : Cond.methodLink RX10 1 objectInit ∈ fnT := fn_mem 69 (by decide +kernel) (by decide +kernel)
set_option maxRecDepth 20000 in
theorem kq_X10_9 : Cond.classLink RX10 9 RX0 ∈ fnT := fn_mem 72 (by decide +kernel) (by decide +kernel)
set_option maxRecDepth 20000 in
theorem ff_X10_11 : fnFf RX10 11 9 0 := ⟨_, _, kc_9, by decide, fn_mem 305 (by decide +kernel) (by decide +kernel), rfl, rfl, by decide, _, tyX10_ok 0 (by decide), fun _ => ⟨rfl, rfl⟩⟩
set_option maxRecDepth 20000 in
theorem kq_X10_15 : Cond.classLink RX10 15 RX7 ∈ fnT := fn_mem 74 (by decide +kernel) (by decide +kernel)
set_option maxRecDepth 20000 in
theorem ff_X10_17 : fnFf RX10 17 9 1 := ⟨_, _, kc_9, by decide, fn_mem 306 (by decide +kernel) (by decide +kernel), rfl, rfl, by decide, _, tyX10_ok 1 (by decide), fun _ => ⟨rfl, rfl⟩⟩
set_option maxRecDepth 20000 in
theorem kn_X10_21 : kNw RX10 21 6 7 [.null, .null, .null, .null, .null, zI 0, zI 0] := ⟨_, _, kc_6, fn_mem 76 (by decide +kernel) (by decide +kernel), fn_mem 77 (by decide +kernel) (by decide +kernel), fn_mem 50 (by decide +kernel) (by decide +kernel), tyX6, tyX6_ok, fun j hj => match j, hj with | 0, _ => rfl | 1, _ => rfl | 2, _ => rfl | 3, _ => rfl | 4, _ => rfl | 5, _ => congrArg Value.int fn_0 | 6, _ => congrArg Value.int fn_0 | j + 7, hj => absurd hj (by omega)⟩
set_option maxRecDepth 20000 in
theorem km_X6_init : kMi mX6_init := ⟨⟨fn_mem 50 (by decide +kernel) (by decide +kernel), fn_mem 80 (by decide +kernel) (by decide +kernel), by decide +kernel, by decide +kernel, by decide +kernel⟩, rfl, fn_mem 79 (by decide +kernel) (by decide +kernel)⟩
set_option maxRecDepth 20000 in
theorem ff_X10_24 : fnFf RX10 24 9 2 := ⟨_, _, kc_9, by decide, fn_mem 307 (by decide +kernel) (by decide +kernel), rfl, rfl, by decide, _, tyX10_ok 2 (by decide), fun _ => ⟨rfl, rfl⟩⟩
set_option maxRecDepth 20000 in
theorem kn_X10_28 : kNw RX10 28 2 9 [.null, .null, zI 0, zI 0, zI 0, zI 0, zI 0, zI 0, zI 0] := ⟨_, _, kc_2, fn_mem 109 (by decide +kernel) (by decide +kernel), fn_mem 110 (by decide +kernel) (by decide +kernel), fn_mem 51 (by decide +kernel) (by decide +kernel), tyX2, tyX2_ok, fun j hj => match j, hj with | 0, _ => rfl | 1, _ => rfl | 2, _ => congrArg Value.int fn_0 | 3, _ => congrArg Value.int fn_0 | 4, _ => congrArg Value.int fn_0 | 5, _ => congrArg Value.int fn_0 | 6, _ => congrArg Value.int fn_0 | 7, _ => congrArg Value.int fn_0 | 8, _ => congrArg Value.int fn_0 | j + 9, hj => absurd hj (by omega)⟩
set_option maxRecDepth 20000 in
theorem km_X2_init : kMi mX2_init := ⟨⟨fn_mem 51 (by decide +kernel) (by decide +kernel), fn_mem 113 (by decide +kernel) (by decide +kernel), by decide +kernel, by decide +kernel, by decide +kernel⟩, rfl, fn_mem 112 (by decide +kernel) (by decide +kernel)⟩
set_option maxRecDepth 20000 in
theorem ff_X10_31 : fnFf RX10 31 9 3 := ⟨_, _, kc_9, by decide, fn_mem 308 (by decide +kernel) (by decide +kernel), rfl, rfl, by decide, _, tyX10_ok 3 (by decide), fun _ => ⟨rfl, rfl⟩⟩
set_option maxRecDepth 20000 in
theorem kn_X10_35 : kNw RX10 35 4 5 [.null, .null, .null, .null, .null] := ⟨_, _, kc_4, fn_mem 146 (by decide +kernel) (by decide +kernel), fn_mem 147 (by decide +kernel) (by decide +kernel), fn_mem 52 (by decide +kernel) (by decide +kernel), tyX4, tyX4_ok, fun j hj => match j, hj with | 0, _ => rfl | 1, _ => rfl | 2, _ => rfl | 3, _ => rfl | 4, _ => rfl | j + 5, hj => absurd hj (by omega)⟩
set_option maxRecDepth 20000 in
theorem km_X4_init : kMi mX4_init := ⟨⟨fn_mem 52 (by decide +kernel) (by decide +kernel), fn_mem 150 (by decide +kernel) (by decide +kernel), by decide +kernel, by decide +kernel, by decide +kernel⟩, rfl, fn_mem 149 (by decide +kernel) (by decide +kernel)⟩
set_option maxRecDepth 20000 in
theorem ff_X10_38 : fnFf RX10 38 9 4 := ⟨_, _, kc_9, by decide, fn_mem 309 (by decide +kernel) (by decide +kernel), rfl, rfl, by decide, _, tyX10_ok 4 (by decide), fun _ => ⟨rfl, rfl⟩⟩
set_option maxRecDepth 20000 in
theorem kn_X10_42 : kNw RX10 42 1 3 [.null, .null, .null] := ⟨_, _, kc_1, fn_mem 172 (by decide +kernel) (by decide +kernel), fn_mem 173 (by decide +kernel) (by decide +kernel), fn_mem 53 (by decide +kernel) (by decide +kernel), tyX1, tyX1_ok, fun j hj => match j, hj with | 0, _ => rfl | 1, _ => rfl | 2, _ => rfl | j + 3, hj => absurd hj (by omega)⟩
set_option maxRecDepth 20000 in
theorem km_X1_init : kMi mX1_init := ⟨⟨fn_mem 53 (by decide +kernel) (by decide +kernel), fn_mem 176 (by decide +kernel) (by decide +kernel), by decide +kernel, by decide +kernel, by decide +kernel⟩, rfl, fn_mem 175 (by decide +kernel) (by decide +kernel)⟩
set_option maxRecDepth 20000 in
theorem ff_X10_45 : fnFf RX10 45 9 5 := ⟨_, _, kc_9, by decide, fn_mem 310 (by decide +kernel) (by decide +kernel), rfl, rfl, by decide, _, tyX10_ok 5 (by decide), fun _ => ⟨rfl, rfl⟩⟩
set_option maxRecDepth 20000 in
theorem kn_X10_49 : kNw RX10 49 3 7 [.null, .null, .null, .null, .null, .null, zI 0] := ⟨_, _, kc_3, fn_mem 188 (by decide +kernel) (by decide +kernel), fn_mem 189 (by decide +kernel) (by decide +kernel), fn_mem 54 (by decide +kernel) (by decide +kernel), tyX3, tyX3_ok, fun j hj => match j, hj with | 0, _ => rfl | 1, _ => rfl | 2, _ => rfl | 3, _ => rfl | 4, _ => rfl | 5, _ => rfl | 6, _ => congrArg Value.int fn_0 | j + 7, hj => absurd hj (by omega)⟩
set_option maxRecDepth 20000 in
theorem km_X3_init : kMi mX3_init := ⟨⟨fn_mem 54 (by decide +kernel) (by decide +kernel), fn_mem 192 (by decide +kernel) (by decide +kernel), by decide +kernel, by decide +kernel, by decide +kernel⟩, rfl, fn_mem 191 (by decide +kernel) (by decide +kernel)⟩
set_option maxRecDepth 20000 in
theorem ff_X10_52 : fnFf RX10 52 9 6 := ⟨_, _, kc_9, by decide, fn_mem 311 (by decide +kernel) (by decide +kernel), rfl, rfl, by decide, _, tyX10_ok 6 (by decide), fun _ => ⟨rfl, rfl⟩⟩
set_option maxRecDepth 20000 in
theorem kn_X10_56 : kNw RX10 56 5 6 [.null, .null, .null, zI 0, zI 0, zI 0] := ⟨_, _, kc_5, fn_mem 226 (by decide +kernel) (by decide +kernel), fn_mem 227 (by decide +kernel) (by decide +kernel), fn_mem 55 (by decide +kernel) (by decide +kernel), tyX5, tyX5_ok, fun j hj => match j, hj with | 0, _ => rfl | 1, _ => rfl | 2, _ => rfl | 3, _ => congrArg Value.int fn_0 | 4, _ => congrArg Value.int fn_0 | 5, _ => congrArg Value.int fn_0 | j + 6, hj => absurd hj (by omega)⟩
set_option maxRecDepth 20000 in
theorem km_X5_init : kMi mX5_init := ⟨⟨fn_mem 55 (by decide +kernel) (by decide +kernel), fn_mem 230 (by decide +kernel) (by decide +kernel), by decide +kernel, by decide +kernel, by decide +kernel⟩, rfl, fn_mem 229 (by decide +kernel) (by decide +kernel)⟩
set_option maxRecDepth 20000 in
theorem ff_X10_59 : fnFf RX10 59 9 7 := ⟨_, _, kc_9, by decide, fn_mem 312 (by decide +kernel) (by decide +kernel), rfl, rfl, by decide, _, tyX10_ok 7 (by decide), fun _ => ⟨rfl, rfl⟩⟩
set_option maxRecDepth 20000 in
theorem kn_X10_63 : kNw RX10 63 8 4 [.null, zI 0, zI 0, zI 0] := ⟨_, _, kc_8, fn_mem 255 (by decide +kernel) (by decide +kernel), fn_mem 256 (by decide +kernel) (by decide +kernel), fn_mem 56 (by decide +kernel) (by decide +kernel), tyX9, tyX9_ok, fun j hj => match j, hj with | 0, _ => rfl | 1, _ => congrArg Value.int fn_0 | 2, _ => congrArg Value.int fn_0 | 3, _ => congrArg Value.int fn_0 | j + 4, hj => absurd hj (by omega)⟩
set_option maxRecDepth 20000 in
theorem km_X9_init : kMi mX9_init := ⟨⟨fn_mem 56 (by decide +kernel) (by decide +kernel), fn_mem 259 (by decide +kernel) (by decide +kernel), by decide +kernel, by decide +kernel, by decide +kernel⟩, rfl, fn_mem 258 (by decide +kernel) (by decide +kernel)⟩
set_option maxRecDepth 20000 in
theorem ff_X10_66 : fnFf RX10 66 9 8 := ⟨_, _, kc_9, by decide, fn_mem 313 (by decide +kernel) (by decide +kernel), rfl, rfl, by decide, _, tyX10_ok 8 (by decide), fun _ => ⟨rfl, rfl⟩⟩
set_option maxRecDepth 20000 in
theorem kn_X10_9 : kNw RX10 9 0 1 [.null] := ⟨_, _, kc_0, fn_mem 72 (by decide +kernel) (by decide +kernel), fn_mem 278 (by decide +kernel) (by decide +kernel), fn_mem 57 (by decide +kernel) (by decide +kernel), tyX0, tyX0_ok, fun j hj => match j, hj with | 0, _ => rfl | j + 1, hj => absurd hj (by omega)⟩
set_option maxRecDepth 20000 in
theorem km_X0_init : kMi mX0_init := ⟨⟨fn_mem 57 (by decide +kernel) (by decide +kernel), fn_mem 281 (by decide +kernel) (by decide +kernel), by decide +kernel, by decide +kernel, by decide +kernel⟩, rfl, fn_mem 280 (by decide +kernel) (by decide +kernel)⟩
set_option maxRecDepth 20000 in
theorem ff_X10_71 : fnFf RX10 71 9 9 := ⟨_, _, kc_9, by decide, fn_mem 314 (by decide +kernel) (by decide +kernel), rfl, rfl, by decide, _, tyX10_ok 9 (by decide), fun _ => ⟨rfl, rfl⟩⟩
set_option maxRecDepth 20000 in
theorem ff_X10_75 : fnFf RX10 75 9 10 := ⟨_, _, kc_9, by decide, fn_mem 315 (by decide +kernel) (by decide +kernel), rfl, rfl, by decide, _, tyX10_ok 10 (by decide), fun _ => ⟨rfl, rfl⟩⟩
set_option maxRecDepth 20000 in
theorem ff_X10_79 : fnFf RX10 79 9 11 := ⟨_, _, kc_9, by decide, fn_mem 316 (by decide +kernel) (by decide +kernel), rfl, rfl, by decide, _, tyX10_ok 11 (by decide), fun _ => ⟨rfl, rfl⟩⟩
set_option maxRecDepth 20000 in
theorem kn_X10_15 : kNw RX10 15 7 2 [.null, zI 0] := ⟨_, _, kc_7, fn_mem 74 (by decide +kernel) (by decide +kernel), fn_mem 291 (by decide +kernel) (by decide +kernel), fn_mem 58 (by decide +kernel) (by decide +kernel), tyX7, tyX7_ok, fun j hj => match j, hj with | 0, _ => rfl | 1, _ => congrArg Value.int fn_0 | j + 2, hj => absurd hj (by omega)⟩
set_option maxRecDepth 20000 in
theorem km_X7_init : kMi mX7_init := ⟨⟨fn_mem 58 (by decide +kernel) (by decide +kernel), fn_mem 294 (by decide +kernel) (by decide +kernel), by decide +kernel, by decide +kernel, by decide +kernel⟩, rfl, fn_mem 293 (by decide +kernel) (by decide +kernel)⟩
set_option maxRecDepth 20000 in
theorem ko_X11_1 : Cond.methodLink RX11 1 objectInit ∈ fnT := fn_mem 914 (by decide +kernel) (by decide +kernel)
set_option maxRecDepth 20000 in
theorem ff_X11_7 : fnFf RX11 7 10 1 := ⟨_, _, kc_10, by decide, fn_mem 916 (by decide +kernel) (by decide +kernel), rfl, rfl, by decide, _, tyX11_ok 1 (by decide), fun _ => ⟨rfl, rfl⟩⟩
set_option maxRecDepth 20000 in
theorem ff_X11_13 : fnFf RX11 13 10 2 := ⟨_, _, kc_10, by decide, fn_mem 917 (by decide +kernel) (by decide +kernel), rfl, rfl, by decide, _, tyX11_ok 2 (by decide), fun _ => ⟨rfl, rfl⟩⟩
set_option maxRecDepth 20000 in
theorem ff_X11_16 : fnFf RX11 16 10 3 := ⟨_, _, kc_10, by decide, fn_mem 918 (by decide +kernel) (by decide +kernel), rfl, rfl, by decide, _, tyX11_ok 3 (by decide), fun _ => ⟨rfl, rfl⟩⟩
set_option maxRecDepth 20000 in
theorem ff_X11_19 : fnFf RX11 19 10 4 := ⟨_, _, kc_10, by decide, fn_mem 919 (by decide +kernel) (by decide +kernel), rfl, rfl, by decide, _, tyX11_ok 4 (by decide), fun _ => ⟨rfl, rfl⟩⟩
set_option maxRecDepth 20000 in
theorem ff_X11_22 : fnFf RX11 22 10 5 := ⟨_, _, kc_10, by decide, fn_mem 920 (by decide +kernel) (by decide +kernel), rfl, rfl, by decide, _, tyX11_ok 5 (by decide), fun _ => ⟨rfl, rfl⟩⟩
set_option maxRecDepth 20000 in
theorem ff_X11_25 : fnFf RX11 25 10 6 := ⟨_, _, kc_10, by decide, fn_mem 921 (by decide +kernel) (by decide +kernel), rfl, rfl, by decide, _, tyX11_ok 6 (by decide), fun _ => ⟨rfl, rfl⟩⟩
set_option maxRecDepth 20000 in
theorem ff_X11_29 : fnFf RX11 29 10 7 := ⟨_, _, kc_10, by decide, fn_mem 922 (by decide +kernel) (by decide +kernel), rfl, rfl, by decide, _, tyX11_ok 7 (by decide), fun _ => ⟨rfl, rfl⟩⟩
set_option maxRecDepth 20000 in
theorem ff_X11_36 : fnFf RX11 36 10 10 := ⟨_, _, kc_10, by decide, fn_mem 925 (by decide +kernel) (by decide +kernel), rfl, rfl, by decide, _, tyX11_ok 10 (by decide), fun _ => ⟨rfl, rfl⟩⟩
set_option maxRecDepth 20000 in
theorem ff_X11_39 : fnFf RX11 39 10 11 := ⟨_, _, kc_10, by decide, fn_mem 926 (by decide +kernel) (by decide +kernel), rfl, rfl, by decide, _, tyX11_ok 11 (by decide), fun _ => ⟨rfl, rfl⟩⟩
set_option maxRecDepth 20000 in
theorem ff_X11_42 : fnFf RX11 42 10 12 := ⟨_, _, kc_10, by decide, fn_mem 927 (by decide +kernel) (by decide +kernel), rfl, rfl, by decide, _, tyX11_ok 12 (by decide), fun _ => ⟨rfl, rfl⟩⟩
set_option maxRecDepth 20000 in
theorem ff_X11_45 : fnFf RX11 45 10 13 := ⟨_, _, kc_10, by decide, fn_mem 928 (by decide +kernel) (by decide +kernel), rfl, rfl, by decide, _, tyX11_ok 13 (by decide), fun _ => ⟨rfl, rfl⟩⟩
set_option maxRecDepth 20000 in
theorem ff_X11_48 : fnFf RX11 48 10 14 := ⟨_, _, kc_10, by decide, fn_mem 929 (by decide +kernel) (by decide +kernel), rfl, rfl, by decide, _, tyX11_ok 14 (by decide), fun _ => ⟨rfl, rfl⟩⟩
set_option maxRecDepth 20000 in
theorem ff_X11_51 : fnFf RX11 51 10 15 := ⟨_, _, kc_10, by decide, fn_mem 930 (by decide +kernel) (by decide +kernel), rfl, rfl, by decide, _, tyX11_ok 15 (by decide), fun _ => ⟨rfl, rfl⟩⟩
set_option maxRecDepth 20000 in
theorem ff_X11_54 : fnFf RX11 54 10 16 := ⟨_, _, kc_10, by decide, fn_mem 931 (by decide +kernel) (by decide +kernel), rfl, rfl, by decide, _, tyX11_ok 16 (by decide), fun _ => ⟨rfl, rfl⟩⟩
set_option maxRecDepth 20000 in
theorem ff_X11_57 : fnFf RX11 57 10 17 := ⟨_, _, kc_10, by decide, fn_mem 932 (by decide +kernel) (by decide +kernel), rfl, rfl, by decide, _, tyX11_ok 17 (by decide), fun _ => ⟨rfl, rfl⟩⟩
set_option maxRecDepth 20000 in
theorem ff_X11_60 : fnFf RX11 60 10 19 := ⟨_, _, kc_10, by decide, fn_mem 934 (by decide +kernel) (by decide +kernel), rfl, rfl, by decide, _, tyX11_ok 19 (by decide), fun _ => ⟨rfl, rfl⟩⟩
set_option maxRecDepth 20000 in
theorem ff_X11_63 : fnFf RX11 63 10 20 := ⟨_, _, kc_10, by decide, fn_mem 935 (by decide +kernel) (by decide +kernel), rfl, rfl, by decide, _, tyX11_ok 20 (by decide), fun _ => ⟨rfl, rfl⟩⟩
set_option maxRecDepth 20000 in
theorem ff_X11_66 : fnFf RX11 66 10 21 := ⟨_, _, kc_10, by decide, fn_mem 936 (by decide +kernel) (by decide +kernel), rfl, rfl, by decide, _, tyX11_ok 21 (by decide), fun _ => ⟨rfl, rfl⟩⟩
set_option maxRecDepth 20000 in
theorem ff_X11_69 : fnFf RX11 69 10 22 := ⟨_, _, kc_10, by decide, fn_mem 937 (by decide +kernel) (by decide +kernel), rfl, rfl, by decide, _, tyX11_ok 22 (by decide), fun _ => ⟨rfl, rfl⟩⟩
set_option maxRecDepth 20000 in
theorem ff_X11_72 : fnFf RX11 72 10 23 := ⟨_, _, kc_10, by decide, fn_mem 938 (by decide +kernel) (by decide +kernel), rfl, rfl, by decide, _, tyX11_ok 23 (by decide), fun _ => ⟨rfl, rfl⟩⟩
set_option maxRecDepth 20000 in
theorem ff_X11_75 : fnFf RX11 75 10 24 := ⟨_, _, kc_10, by decide, fn_mem 939 (by decide +kernel) (by decide +kernel), rfl, rfl, by decide, _, tyX11_ok 24 (by decide), fun _ => ⟨rfl, rfl⟩⟩
set_option maxRecDepth 20000 in
theorem ff_X11_78 : fnFf RX11 78 10 25 := ⟨_, _, kc_10, by decide, fn_mem 940 (by decide +kernel) (by decide +kernel), rfl, rfl, by decide, _, tyX11_ok 25 (by decide), fun _ => ⟨rfl, rfl⟩⟩
set_option maxRecDepth 20000 in
theorem ff_X11_81 : fnFf RX11 81 10 26 := ⟨_, _, kc_10, by decide, fn_mem 941 (by decide +kernel) (by decide +kernel), rfl, rfl, by decide, _, tyX11_ok 26 (by decide), fun _ => ⟨rfl, rfl⟩⟩
set_option maxRecDepth 20000 in
theorem ff_X11_84 : fnFf RX11 84 10 27 := ⟨_, _, kc_10, by decide, fn_mem 942 (by decide +kernel) (by decide +kernel), rfl, rfl, by decide, _, tyX11_ok 27 (by decide), fun _ => ⟨rfl, rfl⟩⟩
set_option maxRecDepth 20000 in
theorem ff_X11_87 : fnFf RX11 87 10 29 := ⟨_, _, kc_10, by decide, fn_mem 944 (by decide +kernel) (by decide +kernel), rfl, rfl, by decide, _, tyX11_ok 29 (by decide), fun _ => ⟨rfl, rfl⟩⟩
set_option maxRecDepth 20000 in
theorem ff_X11_90 : fnFf RX11 90 10 30 := ⟨_, _, kc_10, by decide, fn_mem 945 (by decide +kernel) (by decide +kernel), rfl, rfl, by decide, _, tyX11_ok 30 (by decide), fun _ => ⟨rfl, rfl⟩⟩
set_option maxRecDepth 20000 in
theorem ff_X11_93 : fnFf RX11 93 10 31 := ⟨_, _, kc_10, by decide, fn_mem 946 (by decide +kernel) (by decide +kernel), rfl, rfl, by decide, _, tyX11_ok 31 (by decide), fun _ => ⟨rfl, rfl⟩⟩
set_option maxRecDepth 20000 in
theorem km_X10_init : kMi mX10_init := ⟨⟨fn_mem 49 (by decide +kernel) (by decide +kernel), fn_mem 68 (by decide +kernel) (by decide +kernel), by decide +kernel, by decide +kernel, by decide +kernel⟩, rfl, fn_mem 67 (by decide +kernel) (by decide +kernel)⟩
set_option maxRecDepth 20000 in
theorem km_X11_init : kMi mX11_init := ⟨⟨fn_mem 59 (by decide +kernel) (by decide +kernel), fn_mem 913 (by decide +kernel) (by decide +kernel), by decide +kernel, by decide +kernel, by decide +kernel⟩, rfl, fn_mem 912 (by decide +kernel) (by decide +kernel)⟩
set_option maxHeartbeats 4000000 in
set_option maxRecDepth 20000 in
theorem c_X0_init (G : kE) (q : Nat) : kOk G mX0_init 1 6 q (.inr (0, [.null])) (fun w1 => ∃ (a0 : Nat), w1 = [(q, .inr (0, [.ref a0])), (a0, .inl (G.2.1, 6, .inl (fun _ => Int32.ofInt 0)))]) := by
  refine kOk.of [.ref q] rfl (by decide +kernel) rfl rfl rfl (fun V h hret => ?_)
  show V 0 [.ref q] [] [(q, (.inr (0, [.null])))] 0 0
  refine k_aload h dX0_init_0 rfl rfl ?_
  refine k_obj h (st := []) dX0_init_1 ko_X0_3 kw_oi kw_oc rfl rfl ?_
  refine k_aload h dX0_init_4 rfl rfl ?_
  refine k_bipush h dX0_init_5 rfl ?_
  refine k_newI h (N := 6) dX0_init_7 kw_ai rfl rfl (by decide) (by decide) (fun a0 => ?_)
  show V 9 [.ref q] [.ref a0, .ref q] [(q, .inr (0, [.null])), (a0, .inl (G.2.1, 6, .inl (fun _ => Int32.ofInt 0)))] 1 6
  refine k_putF h (q0 := 0) (ws1 := [(q, .inr (0, [.ref a0])), (a0, .inl (G.2.1, 6, .inl (fun _ => Int32.ofInt 0)))]) dX0_init_9 ff_X0_9 rfl (Nat.le_of_ble_eq_true rfl) rfl ?_
  exact hret 12 _ _ _ _ _ dX0_init_12 (by decide) (by decide) ⟨a0, rfl⟩

set_option maxHeartbeats 4000000 in
set_option maxRecDepth 20000 in
theorem c_X1_init (G : kE) (q : Nat) : kOk G mX1_init 3 60 q (.inr (1, [.null, .null, .null])) (fun w1 => ∃ (a0 a1 a2 : Nat), w1 = [(q, .inr (1, [.ref a0, .ref a1, .ref a2])), (a0, .inl (G.2.1, 20, .inl (fun _ => Int32.ofInt 0))), (a1, .inl (G.2.1, 20, .inl (fun _ => Int32.ofInt 0))), (a2, .inl (G.2.1, 20, .inl (fun _ => Int32.ofInt 0)))]) := by
  refine kOk.of [.ref q] rfl (by decide +kernel) rfl rfl rfl (fun V h hret => ?_)
  show V 0 [.ref q] [] [(q, (.inr (1, [.null, .null, .null])))] 0 0
  refine k_aload h dX1_init_0 rfl rfl ?_
  refine k_obj h (st := []) dX1_init_1 ko_X1_3 kw_oi kw_oc rfl rfl ?_
  refine k_aload h dX1_init_4 rfl rfl ?_
  refine k_bipush h dX1_init_5 rfl ?_
  refine k_newI h (N := 20) dX1_init_7 kw_ai rfl rfl (by decide) (by decide) (fun a0 => ?_)
  show V 9 [.ref q] [.ref a0, .ref q] [(q, .inr (1, [.null, .null, .null])), (a0, .inl (G.2.1, 20, .inl (fun _ => Int32.ofInt 0)))] 1 20
  refine k_putF h (q0 := 0) (ws1 := [(q, .inr (1, [.ref a0, .null, .null])), (a0, .inl (G.2.1, 20, .inl (fun _ => Int32.ofInt 0)))]) dX1_init_9 ff_X1_9 rfl (Nat.le_of_ble_eq_true rfl) rfl ?_
  refine k_aload h dX1_init_12 rfl rfl ?_
  refine k_bipush h dX1_init_13 rfl ?_
  refine k_newI h (N := 20) dX1_init_15 kw_ai rfl rfl (by decide) (by decide) (fun a1 => ?_)
  show V 17 [.ref q] [.ref a1, .ref q] [(q, .inr (1, [.ref a0, .null, .null])), (a0, .inl (G.2.1, 20, .inl (fun _ => Int32.ofInt 0))), (a1, .inl (G.2.1, 20, .inl (fun _ => Int32.ofInt 0)))] 2 40
  refine k_putF h (q0 := 0) (ws1 := [(q, .inr (1, [.ref a0, .ref a1, .null])), (a0, .inl (G.2.1, 20, .inl (fun _ => Int32.ofInt 0))), (a1, .inl (G.2.1, 20, .inl (fun _ => Int32.ofInt 0)))]) dX1_init_17 ff_X1_15 rfl (Nat.le_of_ble_eq_true rfl) rfl ?_
  refine k_aload h dX1_init_20 rfl rfl ?_
  refine k_bipush h dX1_init_21 rfl ?_
  refine k_newI h (N := 20) dX1_init_23 kw_ai rfl rfl (by decide) (by decide) (fun a2 => ?_)
  show V 25 [.ref q] [.ref a2, .ref q] [(q, .inr (1, [.ref a0, .ref a1, .null])), (a0, .inl (G.2.1, 20, .inl (fun _ => Int32.ofInt 0))), (a1, .inl (G.2.1, 20, .inl (fun _ => Int32.ofInt 0))), (a2, .inl (G.2.1, 20, .inl (fun _ => Int32.ofInt 0)))] 3 60
  refine k_putF h (q0 := 0) (ws1 := [(q, .inr (1, [.ref a0, .ref a1, .ref a2])), (a0, .inl (G.2.1, 20, .inl (fun _ => Int32.ofInt 0))), (a1, .inl (G.2.1, 20, .inl (fun _ => Int32.ofInt 0))), (a2, .inl (G.2.1, 20, .inl (fun _ => Int32.ofInt 0)))]) dX1_init_25 ff_X1_18 rfl (Nat.le_of_ble_eq_true rfl) rfl ?_
  exact hret 28 _ _ _ _ _ dX1_init_28 (by decide) (by decide) ⟨a0, a1, a2, rfl⟩

set_option maxHeartbeats 4000000 in
set_option maxRecDepth 20000 in
theorem c_X2_init (G : kE) (q : Nat) : kOk G mX2_init 2 194 q (.inr (2, [.null, .null, zI 0, zI 0, zI 0, zI 0, zI 0, zI 0, zI 0])) (fun w1 => ∃ (a0 a1 : Nat), w1 = [(q, .inr (2, [.ref a0, .ref a1, zI 0, zI 0, zI 0, zI 0, zI 0, zI 0, zI 0])), (a0, .inl (G.2.1, 97, .inl (fun _ => Int32.ofInt 0))), (a1, .inl (G.2.2.1, 97, .inl (fun _ => Int32.ofInt 0)))]) := by
  refine kOk.of [.ref q] rfl (by decide +kernel) rfl rfl rfl (fun V h hret => ?_)
  show V 0 [.ref q] [] [(q, (.inr (2, [.null, .null, zI 0, zI 0, zI 0, zI 0, zI 0, zI 0, zI 0])))] 0 0
  refine k_aload h dX2_init_0 rfl rfl ?_
  refine k_obj h (st := []) dX2_init_1 ko_X2_3 kw_oi kw_oc rfl rfl ?_
  refine k_aload h dX2_init_4 rfl rfl ?_
  refine k_bipush h dX2_init_5 rfl ?_
  refine k_newI h (N := 97) dX2_init_7 kw_ai rfl rfl (by decide) (by decide) (fun a0 => ?_)
  show V 9 [.ref q] [.ref a0, .ref q] [(q, .inr (2, [.null, .null, zI 0, zI 0, zI 0, zI 0, zI 0, zI 0, zI 0])), (a0, .inl (G.2.1, 97, .inl (fun _ => Int32.ofInt 0)))] 1 97
  refine k_putF h (q0 := 0) (ws1 := [(q, .inr (2, [.ref a0, .null, zI 0, zI 0, zI 0, zI 0, zI 0, zI 0, zI 0])), (a0, .inl (G.2.1, 97, .inl (fun _ => Int32.ofInt 0)))]) dX2_init_9 ff_X2_9 rfl (Nat.le_of_ble_eq_true rfl) rfl ?_
  refine k_aload h dX2_init_12 rfl rfl ?_
  refine k_bipush h dX2_init_13 rfl ?_
  refine k_newB h (N := 97) dX2_init_15 kw_ab rfl rfl (by decide) (by decide) (fun a1 => ?_)
  show V 17 [.ref q] [.ref a1, .ref q] [(q, .inr (2, [.ref a0, .null, zI 0, zI 0, zI 0, zI 0, zI 0, zI 0, zI 0])), (a0, .inl (G.2.1, 97, .inl (fun _ => Int32.ofInt 0))), (a1, .inl (G.2.2.1, 97, .inl (fun _ => Int32.ofInt 0)))] 2 194
  refine k_putF h (q0 := 0) (ws1 := [(q, .inr (2, [.ref a0, .ref a1, zI 0, zI 0, zI 0, zI 0, zI 0, zI 0, zI 0])), (a0, .inl (G.2.1, 97, .inl (fun _ => Int32.ofInt 0))), (a1, .inl (G.2.2.1, 97, .inl (fun _ => Int32.ofInt 0)))]) dX2_init_17 ff_X2_15 rfl (Nat.le_of_ble_eq_true rfl) rfl ?_
  refine k_aload h dX2_init_20 rfl rfl ?_
  refine k_iconst h dX2_init_21 ?_
  refine k_putI h (q0 := 0) (ws1 := [(q, .inr (2, [.ref a0, .ref a1, zI 0, zI 0, zI 0, zI 0, zI 0, zI 0, zI 0])), (a0, .inl (G.2.1, 97, .inl (fun _ => Int32.ofInt 0))), (a1, .inl (G.2.2.1, 97, .inl (fun _ => Int32.ofInt 0)))]) dX2_init_22 fp_X2_19 rfl (Nat.le_of_ble_eq_true rfl) rfl ?_
  refine k_aload h dX2_init_25 rfl rfl ?_
  refine k_iconst h dX2_init_26 ?_
  refine k_putI h (q0 := 0) (ws1 := [(q, .inr (2, [.ref a0, .ref a1, zI 0, zI 0, zI 0, zI 0, zI 0, zI 0, zI 0])), (a0, .inl (G.2.1, 97, .inl (fun _ => Int32.ofInt 0))), (a1, .inl (G.2.2.1, 97, .inl (fun _ => Int32.ofInt 0)))]) dX2_init_27 fp_X2_23 rfl (Nat.le_of_ble_eq_true rfl) rfl ?_
  refine k_aload h dX2_init_30 rfl rfl ?_
  refine k_iconst h dX2_init_31 ?_
  refine k_putI h (q0 := 0) (ws1 := [(q, .inr (2, [.ref a0, .ref a1, zI 0, zI 0, zI 0, zI 0, zI 0, zI 0, zI 0])), (a0, .inl (G.2.1, 97, .inl (fun _ => Int32.ofInt 0))), (a1, .inl (G.2.2.1, 97, .inl (fun _ => Int32.ofInt 0)))]) dX2_init_32 fp_X2_26 rfl (Nat.le_of_ble_eq_true rfl) rfl ?_
  refine k_aload h dX2_init_35 rfl rfl ?_
  refine k_iconst h dX2_init_36 ?_
  refine k_putI h (q0 := 0) (ws1 := [(q, .inr (2, [.ref a0, .ref a1, zI 0, zI 0, zI 0, zI 0, zI 0, zI 0, zI 0])), (a0, .inl (G.2.1, 97, .inl (fun _ => Int32.ofInt 0))), (a1, .inl (G.2.2.1, 97, .inl (fun _ => Int32.ofInt 0)))]) dX2_init_37 fp_X2_29 rfl (Nat.le_of_ble_eq_true rfl) rfl ?_
  refine k_aload h dX2_init_40 rfl rfl ?_
  refine k_iconst h dX2_init_41 ?_
  refine k_putI h (q0 := 0) (ws1 := [(q, .inr (2, [.ref a0, .ref a1, zI 0, zI 0, zI 0, zI 0, zI 0, zI 0, zI 0])), (a0, .inl (G.2.1, 97, .inl (fun _ => Int32.ofInt 0))), (a1, .inl (G.2.2.1, 97, .inl (fun _ => Int32.ofInt 0)))]) dX2_init_42 fp_X2_32 rfl (Nat.le_of_ble_eq_true rfl) rfl ?_
  refine k_aload h dX2_init_45 rfl rfl ?_
  refine k_iconst h dX2_init_46 ?_
  refine k_putI h (q0 := 0) (ws1 := [(q, .inr (2, [.ref a0, .ref a1, zI 0, zI 0, zI 0, zI 0, zI 0, zI 0, zI 0])), (a0, .inl (G.2.1, 97, .inl (fun _ => Int32.ofInt 0))), (a1, .inl (G.2.2.1, 97, .inl (fun _ => Int32.ofInt 0)))]) dX2_init_47 fp_X2_35 rfl (Nat.le_of_ble_eq_true rfl) rfl ?_
  refine k_aload h dX2_init_50 rfl rfl ?_
  refine k_iconst h dX2_init_51 ?_
  refine k_putI h (q0 := 0) (ws1 := [(q, .inr (2, [.ref a0, .ref a1, zI 0, zI 0, zI 0, zI 0, zI 0, zI 0, zI 0])), (a0, .inl (G.2.1, 97, .inl (fun _ => Int32.ofInt 0))), (a1, .inl (G.2.2.1, 97, .inl (fun _ => Int32.ofInt 0)))]) dX2_init_52 fp_X2_38 rfl (Nat.le_of_ble_eq_true rfl) rfl ?_
  exact hret 55 _ _ _ _ _ dX2_init_55 (by decide) (by decide) ⟨a0, a1, rfl⟩

set_option maxHeartbeats 4000000 in
set_option maxRecDepth 20000 in
theorem c_X3_init (G : kE) (q : Nat) : kOk G mX3_init 6 240 q (.inr (3, [.null, .null, .null, .null, .null, .null, zI 0])) (fun w1 => ∃ (a0 a1 a2 a3 a4 a5 : Nat), w1 = [(q, .inr (3, [.ref a0, .ref a1, .ref a2, .ref a3, .ref a4, .ref a5, zI 0])), (a0, .inl (G.2.1, 40, .inl (fun _ => Int32.ofInt 0))), (a1, .inl (G.2.1, 40, .inl (fun _ => Int32.ofInt 0))), (a2, .inl (G.2.1, 40, .inl (fun _ => Int32.ofInt 0))), (a3, .inl (G.2.1, 40, .inl (fun _ => Int32.ofInt 0))), (a4, .inl (G.2.1, 40, .inl (fun _ => Int32.ofInt 0))), (a5, .inl (G.2.1, 40, .inl (fun _ => Int32.ofInt 0)))]) := by
  refine kOk.of [.ref q] rfl (by decide +kernel) rfl rfl rfl (fun V h hret => ?_)
  show V 0 [.ref q] [] [(q, (.inr (3, [.null, .null, .null, .null, .null, .null, zI 0])))] 0 0
  refine k_aload h dX3_init_0 rfl rfl ?_
  refine k_obj h (st := []) dX3_init_1 ko_X3_3 kw_oi kw_oc rfl rfl ?_
  refine k_aload h dX3_init_4 rfl rfl ?_
  refine k_bipush h dX3_init_5 rfl ?_
  refine k_newI h (N := 40) dX3_init_7 kw_ai rfl rfl (by decide) (by decide) (fun a0 => ?_)
  show V 9 [.ref q] [.ref a0, .ref q] [(q, .inr (3, [.null, .null, .null, .null, .null, .null, zI 0])), (a0, .inl (G.2.1, 40, .inl (fun _ => Int32.ofInt 0)))] 1 40
  refine k_putF h (q0 := 0) (ws1 := [(q, .inr (3, [.ref a0, .null, .null, .null, .null, .null, zI 0])), (a0, .inl (G.2.1, 40, .inl (fun _ => Int32.ofInt 0)))]) dX3_init_9 ff_X3_9 rfl (Nat.le_of_ble_eq_true rfl) rfl ?_
  refine k_aload h dX3_init_12 rfl rfl ?_
  refine k_bipush h dX3_init_13 rfl ?_
  refine k_newI h (N := 40) dX3_init_15 kw_ai rfl rfl (by decide) (by decide) (fun a1 => ?_)
  show V 17 [.ref q] [.ref a1, .ref q] [(q, .inr (3, [.ref a0, .null, .null, .null, .null, .null, zI 0])), (a0, .inl (G.2.1, 40, .inl (fun _ => Int32.ofInt 0))), (a1, .inl (G.2.1, 40, .inl (fun _ => Int32.ofInt 0)))] 2 80
  refine k_putF h (q0 := 0) (ws1 := [(q, .inr (3, [.ref a0, .ref a1, .null, .null, .null, .null, zI 0])), (a0, .inl (G.2.1, 40, .inl (fun _ => Int32.ofInt 0))), (a1, .inl (G.2.1, 40, .inl (fun _ => Int32.ofInt 0)))]) dX3_init_17 ff_X3_15 rfl (Nat.le_of_ble_eq_true rfl) rfl ?_
  refine k_aload h dX3_init_20 rfl rfl ?_
  refine k_bipush h dX3_init_21 rfl ?_
  refine k_newI h (N := 40) dX3_init_23 kw_ai rfl rfl (by decide) (by decide) (fun a2 => ?_)
  show V 25 [.ref q] [.ref a2, .ref q] [(q, .inr (3, [.ref a0, .ref a1, .null, .null, .null, .null, zI 0])), (a0, .inl (G.2.1, 40, .inl (fun _ => Int32.ofInt 0))), (a1, .inl (G.2.1, 40, .inl (fun _ => Int32.ofInt 0))), (a2, .inl (G.2.1, 40, .inl (fun _ => Int32.ofInt 0)))] 3 120
  refine k_putF h (q0 := 0) (ws1 := [(q, .inr (3, [.ref a0, .ref a1, .ref a2, .null, .null, .null, zI 0])), (a0, .inl (G.2.1, 40, .inl (fun _ => Int32.ofInt 0))), (a1, .inl (G.2.1, 40, .inl (fun _ => Int32.ofInt 0))), (a2, .inl (G.2.1, 40, .inl (fun _ => Int32.ofInt 0)))]) dX3_init_25 ff_X3_18 rfl (Nat.le_of_ble_eq_true rfl) rfl ?_
  refine k_aload h dX3_init_28 rfl rfl ?_
  refine k_bipush h dX3_init_29 rfl ?_
  refine k_newI h (N := 40) dX3_init_31 kw_ai rfl rfl (by decide) (by decide) (fun a3 => ?_)
  show V 33 [.ref q] [.ref a3, .ref q] [(q, .inr (3, [.ref a0, .ref a1, .ref a2, .null, .null, .null, zI 0])), (a0, .inl (G.2.1, 40, .inl (fun _ => Int32.ofInt 0))), (a1, .inl (G.2.1, 40, .inl (fun _ => Int32.ofInt 0))), (a2, .inl (G.2.1, 40, .inl (fun _ => Int32.ofInt 0))), (a3, .inl (G.2.1, 40, .inl (fun _ => Int32.ofInt 0)))] 4 160
  refine k_putF h (q0 := 0) (ws1 := [(q, .inr (3, [.ref a0, .ref a1, .ref a2, .ref a3, .null, .null, zI 0])), (a0, .inl (G.2.1, 40, .inl (fun _ => Int32.ofInt 0))), (a1, .inl (G.2.1, 40, .inl (fun _ => Int32.ofInt 0))), (a2, .inl (G.2.1, 40, .inl (fun _ => Int32.ofInt 0))), (a3, .inl (G.2.1, 40, .inl (fun _ => Int32.ofInt 0)))]) dX3_init_33 ff_X3_21 rfl (Nat.le_of_ble_eq_true rfl) rfl ?_
  refine k_aload h dX3_init_36 rfl rfl ?_
  refine k_bipush h dX3_init_37 rfl ?_
  refine k_newI h (N := 40) dX3_init_39 kw_ai rfl rfl (by decide) (by decide) (fun a4 => ?_)
  show V 41 [.ref q] [.ref a4, .ref q] [(q, .inr (3, [.ref a0, .ref a1, .ref a2, .ref a3, .null, .null, zI 0])), (a0, .inl (G.2.1, 40, .inl (fun _ => Int32.ofInt 0))), (a1, .inl (G.2.1, 40, .inl (fun _ => Int32.ofInt 0))), (a2, .inl (G.2.1, 40, .inl (fun _ => Int32.ofInt 0))), (a3, .inl (G.2.1, 40, .inl (fun _ => Int32.ofInt 0))), (a4, .inl (G.2.1, 40, .inl (fun _ => Int32.ofInt 0)))] 5 200
  refine k_putF h (q0 := 0) (ws1 := [(q, .inr (3, [.ref a0, .ref a1, .ref a2, .ref a3, .ref a4, .null, zI 0])), (a0, .inl (G.2.1, 40, .inl (fun _ => Int32.ofInt 0))), (a1, .inl (G.2.1, 40, .inl (fun _ => Int32.ofInt 0))), (a2, .inl (G.2.1, 40, .inl (fun _ => Int32.ofInt 0))), (a3, .inl (G.2.1, 40, .inl (fun _ => Int32.ofInt 0))), (a4, .inl (G.2.1, 40, .inl (fun _ => Int32.ofInt 0)))]) dX3_init_41 ff_X3_24 rfl (Nat.le_of_ble_eq_true rfl) rfl ?_
  refine k_aload h dX3_init_44 rfl rfl ?_
  refine k_bipush h dX3_init_45 rfl ?_
  refine k_newI h (N := 40) dX3_init_47 kw_ai rfl rfl (by decide) (by decide) (fun a5 => ?_)
  show V 49 [.ref q] [.ref a5, .ref q] [(q, .inr (3, [.ref a0, .ref a1, .ref a2, .ref a3, .ref a4, .null, zI 0])), (a0, .inl (G.2.1, 40, .inl (fun _ => Int32.ofInt 0))), (a1, .inl (G.2.1, 40, .inl (fun _ => Int32.ofInt 0))), (a2, .inl (G.2.1, 40, .inl (fun _ => Int32.ofInt 0))), (a3, .inl (G.2.1, 40, .inl (fun _ => Int32.ofInt 0))), (a4, .inl (G.2.1, 40, .inl (fun _ => Int32.ofInt 0))), (a5, .inl (G.2.1, 40, .inl (fun _ => Int32.ofInt 0)))] 6 240
  refine k_putF h (q0 := 0) (ws1 := [(q, .inr (3, [.ref a0, .ref a1, .ref a2, .ref a3, .ref a4, .ref a5, zI 0])), (a0, .inl (G.2.1, 40, .inl (fun _ => Int32.ofInt 0))), (a1, .inl (G.2.1, 40, .inl (fun _ => Int32.ofInt 0))), (a2, .inl (G.2.1, 40, .inl (fun _ => Int32.ofInt 0))), (a3, .inl (G.2.1, 40, .inl (fun _ => Int32.ofInt 0))), (a4, .inl (G.2.1, 40, .inl (fun _ => Int32.ofInt 0))), (a5, .inl (G.2.1, 40, .inl (fun _ => Int32.ofInt 0)))]) dX3_init_49 ff_X3_27 rfl (Nat.le_of_ble_eq_true rfl) rfl ?_
  refine k_aload h dX3_init_52 rfl rfl ?_
  refine k_iconst h dX3_init_53 ?_
  refine k_putI h (q0 := 0) (ws1 := [(q, .inr (3, [.ref a0, .ref a1, .ref a2, .ref a3, .ref a4, .ref a5, zI 0])), (a0, .inl (G.2.1, 40, .inl (fun _ => Int32.ofInt 0))), (a1, .inl (G.2.1, 40, .inl (fun _ => Int32.ofInt 0))), (a2, .inl (G.2.1, 40, .inl (fun _ => Int32.ofInt 0))), (a3, .inl (G.2.1, 40, .inl (fun _ => Int32.ofInt 0))), (a4, .inl (G.2.1, 40, .inl (fun _ => Int32.ofInt 0))), (a5, .inl (G.2.1, 40, .inl (fun _ => Int32.ofInt 0)))]) dX3_init_54 fp_X3_30 rfl (Nat.le_of_ble_eq_true rfl) rfl ?_
  exact hret 57 _ _ _ _ _ dX3_init_57 (by decide) (by decide) ⟨a0, a1, a2, a3, a4, a5, rfl⟩

set_option maxHeartbeats 4000000 in
set_option maxRecDepth 20000 in
theorem c_X4_init (G : kE) (q : Nat) : kOk G mX4_init 5 88 q (.inr (4, [.null, .null, .null, .null, .null])) (fun w1 => ∃ (a0 a1 a2 a3 a4 : Nat), w1 = [(q, .inr (4, [.ref a0, .ref a1, .ref a2, .ref a3, .ref a4])), (a0, .inl (G.2.1, 8, .inl (kF 100 8))), (a1, .inl (G.2.1, 8, .inl (fun _ => Int32.ofInt 0))), (a2, .inl (G.2.1, 24, .inl (fun _ => Int32.ofInt 0))), (a3, .inl (G.2.1, 24, .inl (fun _ => Int32.ofInt 0))), (a4, .inl (G.2.2.1, 24, .inl (fun _ => Int32.ofInt 0)))]) := by
  refine kOk.of [.ref q, .null] rfl (by decide +kernel) rfl rfl rfl (fun V h hret => ?_)
  show V 0 [.ref q, .null] [] [(q, (.inr (4, [.null, .null, .null, .null, .null])))] 0 0
  refine k_aload h dX4_init_0 rfl rfl ?_
  refine k_obj h (st := []) dX4_init_1 ko_X4_3 kw_oi kw_oc rfl rfl ?_
  refine k_aload h dX4_init_4 rfl rfl ?_
  refine k_bipush h dX4_init_5 rfl ?_
  refine k_newI h (N := 8) dX4_init_7 kw_ai rfl rfl (by decide) (by decide) (fun a0 => ?_)
  show V 9 [.ref q, .null] [.ref a0, .ref q] [(q, .inr (4, [.null, .null, .null, .null, .null])), (a0, .inl (G.2.1, 8, .inl (fun _ => Int32.ofInt 0)))] 1 8
  refine k_putF h (q0 := 0) (ws1 := [(q, .inr (4, [.ref a0, .null, .null, .null, .null])), (a0, .inl (G.2.1, 8, .inl (fun _ => Int32.ofInt 0)))]) dX4_init_9 ff_X4_9 rfl (Nat.le_of_ble_eq_true rfl) rfl ?_
  refine k_aload h dX4_init_12 rfl rfl ?_
  refine k_bipush h dX4_init_13 rfl ?_
  refine k_newI h (N := 8) dX4_init_15 kw_ai rfl rfl (by decide) (by decide) (fun a1 => ?_)
  show V 17 [.ref q, .null] [.ref a1, .ref q] [(q, .inr (4, [.ref a0, .null, .null, .null, .null])), (a0, .inl (G.2.1, 8, .inl (fun _ => Int32.ofInt 0))), (a1, .inl (G.2.1, 8, .inl (fun _ => Int32.ofInt 0)))] 2 16
  refine k_putF h (q0 := 0) (ws1 := [(q, .inr (4, [.ref a0, .ref a1, .null, .null, .null])), (a0, .inl (G.2.1, 8, .inl (fun _ => Int32.ofInt 0))), (a1, .inl (G.2.1, 8, .inl (fun _ => Int32.ofInt 0)))]) dX4_init_17 ff_X4_15 rfl (Nat.le_of_ble_eq_true rfl) rfl ?_
  refine k_aload h dX4_init_20 rfl rfl ?_
  refine k_bipush h dX4_init_21 rfl ?_
  refine k_newI h (N := 24) dX4_init_23 kw_ai rfl rfl (by decide) (by decide) (fun a2 => ?_)
  show V 25 [.ref q, .null] [.ref a2, .ref q] [(q, .inr (4, [.ref a0, .ref a1, .null, .null, .null])), (a0, .inl (G.2.1, 8, .inl (fun _ => Int32.ofInt 0))), (a1, .inl (G.2.1, 8, .inl (fun _ => Int32.ofInt 0))), (a2, .inl (G.2.1, 24, .inl (fun _ => Int32.ofInt 0)))] 3 40
  refine k_putF h (q0 := 0) (ws1 := [(q, .inr (4, [.ref a0, .ref a1, .ref a2, .null, .null])), (a0, .inl (G.2.1, 8, .inl (fun _ => Int32.ofInt 0))), (a1, .inl (G.2.1, 8, .inl (fun _ => Int32.ofInt 0))), (a2, .inl (G.2.1, 24, .inl (fun _ => Int32.ofInt 0)))]) dX4_init_25 ff_X4_18 rfl (Nat.le_of_ble_eq_true rfl) rfl ?_
  refine k_aload h dX4_init_28 rfl rfl ?_
  refine k_bipush h dX4_init_29 rfl ?_
  refine k_newI h (N := 24) dX4_init_31 kw_ai rfl rfl (by decide) (by decide) (fun a3 => ?_)
  show V 33 [.ref q, .null] [.ref a3, .ref q] [(q, .inr (4, [.ref a0, .ref a1, .ref a2, .null, .null])), (a0, .inl (G.2.1, 8, .inl (fun _ => Int32.ofInt 0))), (a1, .inl (G.2.1, 8, .inl (fun _ => Int32.ofInt 0))), (a2, .inl (G.2.1, 24, .inl (fun _ => Int32.ofInt 0))), (a3, .inl (G.2.1, 24, .inl (fun _ => Int32.ofInt 0)))] 4 64
  refine k_putF h (q0 := 0) (ws1 := [(q, .inr (4, [.ref a0, .ref a1, .ref a2, .ref a3, .null])), (a0, .inl (G.2.1, 8, .inl (fun _ => Int32.ofInt 0))), (a1, .inl (G.2.1, 8, .inl (fun _ => Int32.ofInt 0))), (a2, .inl (G.2.1, 24, .inl (fun _ => Int32.ofInt 0))), (a3, .inl (G.2.1, 24, .inl (fun _ => Int32.ofInt 0)))]) dX4_init_33 ff_X4_21 rfl (Nat.le_of_ble_eq_true rfl) rfl ?_
  refine k_aload h dX4_init_36 rfl rfl ?_
  refine k_bipush h dX4_init_37 rfl ?_
  refine k_newB h (N := 24) dX4_init_39 kw_ab rfl rfl (by decide) (by decide) (fun a4 => ?_)
  show V 41 [.ref q, .null] [.ref a4, .ref q] [(q, .inr (4, [.ref a0, .ref a1, .ref a2, .ref a3, .null])), (a0, .inl (G.2.1, 8, .inl (fun _ => Int32.ofInt 0))), (a1, .inl (G.2.1, 8, .inl (fun _ => Int32.ofInt 0))), (a2, .inl (G.2.1, 24, .inl (fun _ => Int32.ofInt 0))), (a3, .inl (G.2.1, 24, .inl (fun _ => Int32.ofInt 0))), (a4, .inl (G.2.2.1, 24, .inl (fun _ => Int32.ofInt 0)))] 5 88
  refine k_putF h (q0 := 0) (ws1 := [(q, .inr (4, [.ref a0, .ref a1, .ref a2, .ref a3, .ref a4])), (a0, .inl (G.2.1, 8, .inl (fun _ => Int32.ofInt 0))), (a1, .inl (G.2.1, 8, .inl (fun _ => Int32.ofInt 0))), (a2, .inl (G.2.1, 24, .inl (fun _ => Int32.ofInt 0))), (a3, .inl (G.2.1, 24, .inl (fun _ => Int32.ofInt 0))), (a4, .inl (G.2.2.1, 24, .inl (fun _ => Int32.ofInt 0)))]) dX4_init_41 ff_X4_24 rfl (Nat.le_of_ble_eq_true rfl) rfl ?_
  refine k_iconst h dX4_init_44 ?_
  refine k_istore h dX4_init_45 rfl rfl (fun j w e q => by cases e; cases q; exact (show (1 : Nat) ≠ 2 by decide)) ?_
  show V 46 [.ref q, zI 0] [] [(q, .inr (4, [.ref a0, .ref a1, .ref a2, .ref a3, .ref a4])), (a0, .inl (G.2.1, 8, .inl (fun _ => Int32.ofInt 0))), (a1, .inl (G.2.1, 8, .inl (fun _ => Int32.ofInt 0))), (a2, .inl (G.2.1, 24, .inl (fun _ => Int32.ofInt 0))), (a3, .inl (G.2.1, 24, .inl (fun _ => Int32.ofInt 0))), (a4, .inl (G.2.2.1, 24, .inl (fun _ => Int32.ofInt 0)))] 5 88
  have loop1 : V 66 [.ref q, zI 8] [] [(q, .inr (4, [.ref a0, .ref a1, .ref a2, .ref a3, .ref a4])), (a0, .inl (G.2.1, 8, .inl (kF 100 8))), (a1, .inl (G.2.1, 8, .inl (fun _ => Int32.ofInt 0))), (a2, .inl (G.2.1, 24, .inl (fun _ => Int32.ofInt 0))), (a3, .inl (G.2.1, 24, .inl (fun _ => Int32.ofInt 0))), (a4, .inl (G.2.2.1, 24, .inl (fun _ => Int32.ofInt 0)))] 5 88 → ∀ (d : Nat) (i : Int), 0 ≤ i → i + d = 8 → V 46 [.ref q, zI i] [] [(q, .inr (4, [.ref a0, .ref a1, .ref a2, .ref a3, .ref a4])), (a0, .inl (G.2.1, 8, .inl (kF 100 i))), (a1, .inl (G.2.1, 8, .inl (fun _ => Int32.ofInt 0))), (a2, .inl (G.2.1, 24, .inl (fun _ => Int32.ofInt 0))), (a3, .inl (G.2.1, 24, .inl (fun _ => Int32.ofInt 0))), (a4, .inl (G.2.2.1, 24, .inl (fun _ => Int32.ofInt 0)))] 5 88 := by
    intro kx d
    induction d with
    | zero =>
      intro i i0 i1
      have i2 : i = 8 := by omega
      subst i2
      refine k_iload h dX4_init_46 rfl rfl ?_
      refine k_bipush h dX4_init_47 rfl ?_
      exact k_icmp_ge h (by decide) (by decide) dX4_init_49 (fun _ => kx) (fun q => absurd q (by decide))
    | succ d ih =>
      intro i i0 i1
      refine k_iload h dX4_init_46 rfl rfl ?_
      refine k_bipush h dX4_init_47 rfl ?_
      refine k_icmp_ge h ⟨by omega, by omega⟩ (by decide) dX4_init_49 (fun q => absurd q (by omega)) (fun _ => ?_)
      refine k_aload h dX4_init_52 rfl rfl ?_
      refine k_get h (q0 := 0) dX4_init_53 fl_X4_9 rfl rfl ?_
      refine k_iload h dX4_init_56 rfl rfl ?_
      refine k_bipush h dX4_init_57 rfl ?_
      refine k_iast h (q0 := 1) (f := kF 100 i) (ws1 := [(q, .inr (4, [.ref a0, .ref a1, .ref a2, .ref a3, .ref a4])), (a0, .inl (G.2.1, 8, .inl (kF 100 (i + 1)))), (a1, .inl (G.2.1, 8, .inl (fun _ => Int32.ofInt 0))), (a2, .inl (G.2.1, 24, .inl (fun _ => Int32.ofInt 0))), (a3, .inl (G.2.1, 24, .inl (fun _ => Int32.ofInt 0))), (a4, .inl (G.2.2.1, 24, .inl (fun _ => Int32.ofInt 0)))]) dX4_init_59 rfl i0 (by omega) rfl (by rw [k_fs i0]; rfl) ?_
      refine k_iinc h dX4_init_60 rfl rfl (fun j w e q => by cases e; cases q; exact (show (1 : Nat) ≠ 2 by decide)) ?_
      exact k_goto h (nx := 0) dX4_init_63 (ih (i + 1) (by omega) (by omega))
  have e1 : ([(q, .inr (4, [.ref a0, .ref a1, .ref a2, .ref a3, .ref a4])), (a0, .inl (G.2.1, 8, .inl (fun _ => Int32.ofInt 0))), (a1, .inl (G.2.1, 8, .inl (fun _ => Int32.ofInt 0))), (a2, .inl (G.2.1, 24, .inl (fun _ => Int32.ofInt 0))), (a3, .inl (G.2.1, 24, .inl (fun _ => Int32.ofInt 0))), (a4, .inl (G.2.2.1, 24, .inl (fun _ => Int32.ofInt 0)))] : va_W) = [(q, .inr (4, [.ref a0, .ref a1, .ref a2, .ref a3, .ref a4])), (a0, .inl (G.2.1, 8, .inl (kF 100 0))), (a1, .inl (G.2.1, 8, .inl (fun _ => Int32.ofInt 0))), (a2, .inl (G.2.1, 24, .inl (fun _ => Int32.ofInt 0))), (a3, .inl (G.2.1, 24, .inl (fun _ => Int32.ofInt 0))), (a4, .inl (G.2.2.1, 24, .inl (fun _ => Int32.ofInt 0)))] := by rw [k_f0]
  rw [e1]
  refine loop1 ?_ 8 0 (by decide) (by decide)
  exact hret 66 _ _ _ _ _ dX4_init_66 (by decide) (by decide) ⟨a0, a1, a2, a3, a4, rfl⟩

set_option maxHeartbeats 4000000 in
set_option maxRecDepth 20000 in
theorem c_X5_init (G : kE) (q : Nat) : kOk G mX5_init 3 120 q (.inr (5, [.null, .null, .null, zI 0, zI 0, zI 0])) (fun w1 => ∃ (a0 a1 a2 : Nat), w1 = [(q, .inr (5, [.ref a0, .ref a1, .ref a2, zI 0, zI 0, zI 0])), (a0, .inl (G.2.1, 40, .inl (fun _ => Int32.ofInt 0))), (a1, .inl (G.2.1, 40, .inl (fun _ => Int32.ofInt 0))), (a2, .inl (G.2.1, 40, .inl (fun _ => Int32.ofInt 0)))]) := by
  refine kOk.of [.ref q] rfl (by decide +kernel) rfl rfl rfl (fun V h hret => ?_)
  show V 0 [.ref q] [] [(q, (.inr (5, [.null, .null, .null, zI 0, zI 0, zI 0])))] 0 0
  refine k_aload h dX5_init_0 rfl rfl ?_
  refine k_obj h (st := []) dX5_init_1 ko_X5_3 kw_oi kw_oc rfl rfl ?_
  refine k_aload h dX5_init_4 rfl rfl ?_
  refine k_bipush h dX5_init_5 rfl ?_
  refine k_newI h (N := 40) dX5_init_7 kw_ai rfl rfl (by decide) (by decide) (fun a0 => ?_)
  show V 9 [.ref q] [.ref a0, .ref q] [(q, .inr (5, [.null, .null, .null, zI 0, zI 0, zI 0])), (a0, .inl (G.2.1, 40, .inl (fun _ => Int32.ofInt 0)))] 1 40
  refine k_putF h (q0 := 0) (ws1 := [(q, .inr (5, [.ref a0, .null, .null, zI 0, zI 0, zI 0])), (a0, .inl (G.2.1, 40, .inl (fun _ => Int32.ofInt 0)))]) dX5_init_9 ff_X5_9 rfl (Nat.le_of_ble_eq_true rfl) rfl ?_
  refine k_aload h dX5_init_12 rfl rfl ?_
  refine k_bipush h dX5_init_13 rfl ?_
  refine k_newI h (N := 40) dX5_init_15 kw_ai rfl rfl (by decide) (by decide) (fun a1 => ?_)
  show V 17 [.ref q] [.ref a1, .ref q] [(q, .inr (5, [.ref a0, .null, .null, zI 0, zI 0, zI 0])), (a0, .inl (G.2.1, 40, .inl (fun _ => Int32.ofInt 0))), (a1, .inl (G.2.1, 40, .inl (fun _ => Int32.ofInt 0)))] 2 80
  refine k_putF h (q0 := 0) (ws1 := [(q, .inr (5, [.ref a0, .ref a1, .null, zI 0, zI 0, zI 0])), (a0, .inl (G.2.1, 40, .inl (fun _ => Int32.ofInt 0))), (a1, .inl (G.2.1, 40, .inl (fun _ => Int32.ofInt 0)))]) dX5_init_17 ff_X5_15 rfl (Nat.le_of_ble_eq_true rfl) rfl ?_
  refine k_aload h dX5_init_20 rfl rfl ?_
  refine k_bipush h dX5_init_21 rfl ?_
  refine k_newI h (N := 40) dX5_init_23 kw_ai rfl rfl (by decide) (by decide) (fun a2 => ?_)
  show V 25 [.ref q] [.ref a2, .ref q] [(q, .inr (5, [.ref a0, .ref a1, .null, zI 0, zI 0, zI 0])), (a0, .inl (G.2.1, 40, .inl (fun _ => Int32.ofInt 0))), (a1, .inl (G.2.1, 40, .inl (fun _ => Int32.ofInt 0))), (a2, .inl (G.2.1, 40, .inl (fun _ => Int32.ofInt 0)))] 3 120
  refine k_putF h (q0 := 0) (ws1 := [(q, .inr (5, [.ref a0, .ref a1, .ref a2, zI 0, zI 0, zI 0])), (a0, .inl (G.2.1, 40, .inl (fun _ => Int32.ofInt 0))), (a1, .inl (G.2.1, 40, .inl (fun _ => Int32.ofInt 0))), (a2, .inl (G.2.1, 40, .inl (fun _ => Int32.ofInt 0)))]) dX5_init_25 ff_X5_18 rfl (Nat.le_of_ble_eq_true rfl) rfl ?_
  refine k_aload h dX5_init_28 rfl rfl ?_
  refine k_iconst h dX5_init_29 ?_
  refine k_putI h (q0 := 0) (ws1 := [(q, .inr (5, [.ref a0, .ref a1, .ref a2, zI 0, zI 0, zI 0])), (a0, .inl (G.2.1, 40, .inl (fun _ => Int32.ofInt 0))), (a1, .inl (G.2.1, 40, .inl (fun _ => Int32.ofInt 0))), (a2, .inl (G.2.1, 40, .inl (fun _ => Int32.ofInt 0)))]) dX5_init_30 fp_X5_21 rfl (Nat.le_of_ble_eq_true rfl) rfl ?_
  refine k_aload h dX5_init_33 rfl rfl ?_
  refine k_iconst h dX5_init_34 ?_
  refine k_putI h (q0 := 0) (ws1 := [(q, .inr (5, [.ref a0, .ref a1, .ref a2, zI 0, zI 0, zI 0])), (a0, .inl (G.2.1, 40, .inl (fun _ => Int32.ofInt 0))), (a1, .inl (G.2.1, 40, .inl (fun _ => Int32.ofInt 0))), (a2, .inl (G.2.1, 40, .inl (fun _ => Int32.ofInt 0)))]) dX5_init_35 fp_X5_25 rfl (Nat.le_of_ble_eq_true rfl) rfl ?_
  refine k_aload h dX5_init_38 rfl rfl ?_
  refine k_iconst h dX5_init_39 ?_
  refine k_putI h (q0 := 0) (ws1 := [(q, .inr (5, [.ref a0, .ref a1, .ref a2, zI 0, zI 0, zI 0])), (a0, .inl (G.2.1, 40, .inl (fun _ => Int32.ofInt 0))), (a1, .inl (G.2.1, 40, .inl (fun _ => Int32.ofInt 0))), (a2, .inl (G.2.1, 40, .inl (fun _ => Int32.ofInt 0)))]) dX5_init_40 fp_X5_28 rfl (Nat.le_of_ble_eq_true rfl) rfl ?_
  exact hret 43 _ _ _ _ _ dX5_init_43 (by decide) (by decide) ⟨a0, a1, a2, rfl⟩

set_option maxHeartbeats 4000000 in
set_option maxRecDepth 20000 in
theorem c_X6_init (G : kE) (q : Nat) : kOk G mX6_init 5 28 q (.inr (6, [.null, .null, .null, .null, .null, zI 0, zI 0])) (fun w1 => ∃ (a0 a1 a2 a3 a4 : Nat), w1 = [(q, .inr (6, [.ref a0, .ref a1, .ref a2, .ref a3, .ref a4, zI (-2009), zI 0])), (a0, .inl (G.2.1, 6, .inl (fun _ => Int32.ofInt 0))), (a1, .inl (G.2.1, 4, .inl (fun _ => Int32.ofInt 0))), (a2, .inl (G.2.1, 6, .inl (fun _ => Int32.ofInt 0))), (a3, .inl (G.2.1, 6, .inl (fun _ => Int32.ofInt 0))), (a4, .inl (G.2.2.1, 6, .inl (fun _ => Int32.ofInt 0)))]) := by
  refine kOk.of [.ref q] rfl (by decide +kernel) rfl rfl rfl (fun V h hret => ?_)
  show V 0 [.ref q] [] [(q, (.inr (6, [.null, .null, .null, .null, .null, zI 0, zI 0])))] 0 0
  refine k_aload h dX6_init_0 rfl rfl ?_
  refine k_obj h (st := []) dX6_init_1 ko_X6_3 kw_oi kw_oc rfl rfl ?_
  refine k_aload h dX6_init_4 rfl rfl ?_
  refine k_bipush h dX6_init_5 rfl ?_
  refine k_newI h (N := 6) dX6_init_7 kw_ai rfl rfl (by decide) (by decide) (fun a0 => ?_)
  show V 9 [.ref q] [.ref a0, .ref q] [(q, .inr (6, [.null, .null, .null, .null, .null, zI 0, zI 0])), (a0, .inl (G.2.1, 6, .inl (fun _ => Int32.ofInt 0)))] 1 6
  refine k_putF h (q0 := 0) (ws1 := [(q, .inr (6, [.ref a0, .null, .null, .null, .null, zI 0, zI 0])), (a0, .inl (G.2.1, 6, .inl (fun _ => Int32.ofInt 0)))]) dX6_init_9 ff_X6_9 rfl (Nat.le_of_ble_eq_true rfl) rfl ?_
  refine k_aload h dX6_init_12 rfl rfl ?_
  refine k_iconst h dX6_init_13 ?_
  refine k_newI h (N := 4) dX6_init_14 kw_ai rfl rfl (by decide) (by decide) (fun a1 => ?_)
  show V 16 [.ref q] [.ref a1, .ref q] [(q, .inr (6, [.ref a0, .null, .null, .null, .null, zI 0, zI 0])), (a0, .inl (G.2.1, 6, .inl (fun _ => Int32.ofInt 0))), (a1, .inl (G.2.1, 4, .inl (fun _ => Int32.ofInt 0)))] 2 10
  refine k_putF h (q0 := 0) (ws1 := [(q, .inr (6, [.ref a0, .ref a1, .null, .null, .null, zI 0, zI 0])), (a0, .inl (G.2.1, 6, .inl (fun _ => Int32.ofInt 0))), (a1, .inl (G.2.1, 4, .inl (fun _ => Int32.ofInt 0)))]) dX6_init_16 ff_X6_15 rfl (Nat.le_of_ble_eq_true rfl) rfl ?_
  refine k_aload h dX6_init_19 rfl rfl ?_
  refine k_bipush h dX6_init_20 rfl ?_
  refine k_newI h (N := 6) dX6_init_22 kw_ai rfl rfl (by decide) (by decide) (fun a2 => ?_)
  show V 24 [.ref q] [.ref a2, .ref q] [(q, .inr (6, [.ref a0, .ref a1, .null, .null, .null, zI 0, zI 0])), (a0, .inl (G.2.1, 6, .inl (fun _ => Int32.ofInt 0))), (a1, .inl (G.2.1, 4, .inl (fun _ => Int32.ofInt 0))), (a2, .inl (G.2.1, 6, .inl (fun _ => Int32.ofInt 0)))] 3 16
  refine k_putF h (q0 := 0) (ws1 := [(q, .inr (6, [.ref a0, .ref a1, .ref a2, .null, .null, zI 0, zI 0])), (a0, .inl (G.2.1, 6, .inl (fun _ => Int32.ofInt 0))), (a1, .inl (G.2.1, 4, .inl (fun _ => Int32.ofInt 0))), (a2, .inl (G.2.1, 6, .inl (fun _ => Int32.ofInt 0)))]) dX6_init_24 ff_X6_18 rfl (Nat.le_of_ble_eq_true rfl) rfl ?_
  refine k_aload h dX6_init_27 rfl rfl ?_
  refine k_bipush h dX6_init_28 rfl ?_
  refine k_newI h (N := 6) dX6_init_30 kw_ai rfl rfl (by decide) (by decide) (fun a3 => ?_)
  show V 32 [.ref q] [.ref a3, .ref q] [(q, .inr (6, [.ref a0, .ref a1, .ref a2, .null, .null, zI 0, zI 0])), (a0, .inl (G.2.1, 6, .inl (fun _ => Int32.ofInt 0))), (a1, .inl (G.2.1, 4, .inl (fun _ => Int32.ofInt 0))), (a2, .inl (G.2.1, 6, .inl (fun _ => Int32.ofInt 0))), (a3, .inl (G.2.1, 6, .inl (fun _ => Int32.ofInt 0)))] 4 22
  refine k_putF h (q0 := 0) (ws1 := [(q, .inr (6, [.ref a0, .ref a1, .ref a2, .ref a3, .null, zI 0, zI 0])), (a0, .inl (G.2.1, 6, .inl (fun _ => Int32.ofInt 0))), (a1, .inl (G.2.1, 4, .inl (fun _ => Int32.ofInt 0))), (a2, .inl (G.2.1, 6, .inl (fun _ => Int32.ofInt 0))), (a3, .inl (G.2.1, 6, .inl (fun _ => Int32.ofInt 0)))]) dX6_init_32 ff_X6_21 rfl (Nat.le_of_ble_eq_true rfl) rfl ?_
  refine k_aload h dX6_init_35 rfl rfl ?_
  refine k_bipush h dX6_init_36 rfl ?_
  refine k_newB h (N := 6) dX6_init_38 kw_ab rfl rfl (by decide) (by decide) (fun a4 => ?_)
  show V 40 [.ref q] [.ref a4, .ref q] [(q, .inr (6, [.ref a0, .ref a1, .ref a2, .ref a3, .null, zI 0, zI 0])), (a0, .inl (G.2.1, 6, .inl (fun _ => Int32.ofInt 0))), (a1, .inl (G.2.1, 4, .inl (fun _ => Int32.ofInt 0))), (a2, .inl (G.2.1, 6, .inl (fun _ => Int32.ofInt 0))), (a3, .inl (G.2.1, 6, .inl (fun _ => Int32.ofInt 0))), (a4, .inl (G.2.2.1, 6, .inl (fun _ => Int32.ofInt 0)))] 5 28
  refine k_putF h (q0 := 0) (ws1 := [(q, .inr (6, [.ref a0, .ref a1, .ref a2, .ref a3, .ref a4, zI 0, zI 0])), (a0, .inl (G.2.1, 6, .inl (fun _ => Int32.ofInt 0))), (a1, .inl (G.2.1, 4, .inl (fun _ => Int32.ofInt 0))), (a2, .inl (G.2.1, 6, .inl (fun _ => Int32.ofInt 0))), (a3, .inl (G.2.1, 6, .inl (fun _ => Int32.ofInt 0))), (a4, .inl (G.2.2.1, 6, .inl (fun _ => Int32.ofInt 0)))]) dX6_init_40 ff_X6_24 rfl (Nat.le_of_ble_eq_true rfl) rfl ?_
  refine k_aload h dX6_init_43 rfl rfl ?_
  refine k_sipush h dX6_init_44 rfl ?_
  refine k_putI h (q0 := 0) (ws1 := [(q, .inr (6, [.ref a0, .ref a1, .ref a2, .ref a3, .ref a4, zI (-2009), zI 0])), (a0, .inl (G.2.1, 6, .inl (fun _ => Int32.ofInt 0))), (a1, .inl (G.2.1, 4, .inl (fun _ => Int32.ofInt 0))), (a2, .inl (G.2.1, 6, .inl (fun _ => Int32.ofInt 0))), (a3, .inl (G.2.1, 6, .inl (fun _ => Int32.ofInt 0))), (a4, .inl (G.2.2.1, 6, .inl (fun _ => Int32.ofInt 0)))]) dX6_init_47 fp_X6_28 rfl (Nat.le_of_ble_eq_true rfl) rfl ?_
  refine k_aload h dX6_init_50 rfl rfl ?_
  refine k_iconst h dX6_init_51 ?_
  refine k_putI h (q0 := 0) (ws1 := [(q, .inr (6, [.ref a0, .ref a1, .ref a2, .ref a3, .ref a4, zI (-2009), zI 0])), (a0, .inl (G.2.1, 6, .inl (fun _ => Int32.ofInt 0))), (a1, .inl (G.2.1, 4, .inl (fun _ => Int32.ofInt 0))), (a2, .inl (G.2.1, 6, .inl (fun _ => Int32.ofInt 0))), (a3, .inl (G.2.1, 6, .inl (fun _ => Int32.ofInt 0))), (a4, .inl (G.2.2.1, 6, .inl (fun _ => Int32.ofInt 0)))]) dX6_init_52 fp_X6_32 rfl (Nat.le_of_ble_eq_true rfl) rfl ?_
  exact hret 55 _ _ _ _ _ dX6_init_55 (by decide) (by decide) ⟨a0, a1, a2, a3, a4, rfl⟩

set_option maxHeartbeats 4000000 in
set_option maxRecDepth 20000 in
theorem c_X7_init (G : kE) (q : Nat) : kOk G mX7_init 1 32 q (.inr (7, [.null, zI 0])) (fun w1 => ∃ (a0 : Nat), w1 = [(q, .inr (7, [.ref a0, zI 0])), (a0, .inl (G.2.1, 32, .inl (kF (-2009) 32)))]) := by
  refine kOk.of [.ref q, .null] rfl (by decide +kernel) rfl rfl rfl (fun V h hret => ?_)
  show V 0 [.ref q, .null] [] [(q, (.inr (7, [.null, zI 0])))] 0 0
  refine k_aload h dX7_init_0 rfl rfl ?_
  refine k_obj h (st := []) dX7_init_1 ko_X7_3 kw_oi kw_oc rfl rfl ?_
  refine k_aload h dX7_init_4 rfl rfl ?_
  refine k_bipush h dX7_init_5 rfl ?_
  refine k_newI h (N := 32) dX7_init_7 kw_ai rfl rfl (by decide) (by decide) (fun a0 => ?_)
  show V 9 [.ref q, .null] [.ref a0, .ref q] [(q, .inr (7, [.null, zI 0])), (a0, .inl (G.2.1, 32, .inl (fun _ => Int32.ofInt 0)))] 1 32
  refine k_putF h (q0 := 0) (ws1 := [(q, .inr (7, [.ref a0, zI 0])), (a0, .inl (G.2.1, 32, .inl (fun _ => Int32.ofInt 0)))]) dX7_init_9 ff_X7_9 rfl (Nat.le_of_ble_eq_true rfl) rfl ?_
  refine k_aload h dX7_init_12 rfl rfl ?_
  refine k_iconst h dX7_init_13 ?_
  refine k_putI h (q0 := 0) (ws1 := [(q, .inr (7, [.ref a0, zI 0])), (a0, .inl (G.2.1, 32, .inl (fun _ => Int32.ofInt 0)))]) dX7_init_14 fp_X7_15 rfl (Nat.le_of_ble_eq_true rfl) rfl ?_
  refine k_iconst h dX7_init_17 ?_
  refine k_istore h dX7_init_18 rfl rfl (fun j w e q => by cases e; cases q; exact (show (1 : Nat) ≠ 2 by decide)) ?_
  show V 19 [.ref q, zI 0] [] [(q, .inr (7, [.ref a0, zI 0])), (a0, .inl (G.2.1, 32, .inl (fun _ => Int32.ofInt 0)))] 1 32
  have loop1 : V 40 [.ref q, zI 32] [] [(q, .inr (7, [.ref a0, zI 0])), (a0, .inl (G.2.1, 32, .inl (kF (-2009) 32)))] 1 32 → ∀ (d : Nat) (i : Int), 0 ≤ i → i + d = 32 → V 19 [.ref q, zI i] [] [(q, .inr (7, [.ref a0, zI 0])), (a0, .inl (G.2.1, 32, .inl (kF (-2009) i)))] 1 32 := by
    intro kx d
    induction d with
    | zero =>
      intro i i0 i1
      have i2 : i = 32 := by omega
      subst i2
      refine k_iload h dX7_init_19 rfl rfl ?_
      refine k_bipush h dX7_init_20 rfl ?_
      exact k_icmp_ge h (by decide) (by decide) dX7_init_22 (fun _ => kx) (fun q => absurd q (by decide))
    | succ d ih =>
      intro i i0 i1
      refine k_iload h dX7_init_19 rfl rfl ?_
      refine k_bipush h dX7_init_20 rfl ?_
      refine k_icmp_ge h ⟨by omega, by omega⟩ (by decide) dX7_init_22 (fun q => absurd q (by omega)) (fun _ => ?_)
      refine k_aload h dX7_init_25 rfl rfl ?_
      refine k_get h (q0 := 0) dX7_init_26 fl_X7_9 rfl rfl ?_
      refine k_iload h dX7_init_29 rfl rfl ?_
      refine k_sipush h dX7_init_30 rfl ?_
      refine k_iast h (q0 := 1) (f := kF (-2009) i) (ws1 := [(q, .inr (7, [.ref a0, zI 0])), (a0, .inl (G.2.1, 32, .inl (kF (-2009) (i + 1))))]) dX7_init_33 rfl i0 (by omega) rfl (by rw [k_fs i0]; rfl) ?_
      refine k_iinc h dX7_init_34 rfl rfl (fun j w e q => by cases e; cases q; exact (show (1 : Nat) ≠ 2 by decide)) ?_
      exact k_goto h (nx := 0) dX7_init_37 (ih (i + 1) (by omega) (by omega))
  have e1 : ([(q, .inr (7, [.ref a0, zI 0])), (a0, .inl (G.2.1, 32, .inl (fun _ => Int32.ofInt 0)))] : va_W) = [(q, .inr (7, [.ref a0, zI 0])), (a0, .inl (G.2.1, 32, .inl (kF (-2009) 0)))] := by rw [k_f0]
  rw [e1]
  refine loop1 ?_ 32 0 (by decide) (by decide)
  exact hret 40 _ _ _ _ _ dX7_init_40 (by decide) (by decide) ⟨a0, rfl⟩

set_option maxHeartbeats 4000000 in
set_option maxRecDepth 20000 in
theorem c_X9_init (G : kE) (q : Nat) : kOk G mX9_init 1 40 q (.inr (8, [.null, zI 0, zI 0, zI 0])) (fun w1 => ∃ (a0 : Nat), w1 = [(q, .inr (8, [.ref a0, zI 0, zI 0, zI 0])), (a0, .inl (G.2.1, 40, .inl (fun _ => Int32.ofInt 0)))]) := by
  refine kOk.of [.ref q] rfl (by decide +kernel) rfl rfl rfl (fun V h hret => ?_)
  show V 0 [.ref q] [] [(q, (.inr (8, [.null, zI 0, zI 0, zI 0])))] 0 0
  refine k_aload h dX9_init_0 rfl rfl ?_
  refine k_obj h (st := []) dX9_init_1 ko_X9_3 kw_oi kw_oc rfl rfl ?_
  refine k_aload h dX9_init_4 rfl rfl ?_
  refine k_bipush h dX9_init_5 rfl ?_
  refine k_newI h (N := 40) dX9_init_7 kw_ai rfl rfl (by decide) (by decide) (fun a0 => ?_)
  show V 9 [.ref q] [.ref a0, .ref q] [(q, .inr (8, [.null, zI 0, zI 0, zI 0])), (a0, .inl (G.2.1, 40, .inl (fun _ => Int32.ofInt 0)))] 1 40
  refine k_putF h (q0 := 0) (ws1 := [(q, .inr (8, [.ref a0, zI 0, zI 0, zI 0])), (a0, .inl (G.2.1, 40, .inl (fun _ => Int32.ofInt 0)))]) dX9_init_9 ff_X9_9 rfl (Nat.le_of_ble_eq_true rfl) rfl ?_
  refine k_aload h dX9_init_12 rfl rfl ?_
  refine k_iconst h dX9_init_13 ?_
  refine k_putI h (q0 := 0) (ws1 := [(q, .inr (8, [.ref a0, zI 0, zI 0, zI 0])), (a0, .inl (G.2.1, 40, .inl (fun _ => Int32.ofInt 0)))]) dX9_init_14 fp_X9_15 rfl (Nat.le_of_ble_eq_true rfl) rfl ?_
  refine k_aload h dX9_init_17 rfl rfl ?_
  refine k_iconst h dX9_init_18 ?_
  refine k_putI h (q0 := 0) (ws1 := [(q, .inr (8, [.ref a0, zI 0, zI 0, zI 0])), (a0, .inl (G.2.1, 40, .inl (fun _ => Int32.ofInt 0)))]) dX9_init_19 fp_X9_19 rfl (Nat.le_of_ble_eq_true rfl) rfl ?_
  refine k_aload h dX9_init_22 rfl rfl ?_
  refine k_iconst h dX9_init_23 ?_
  refine k_putI h (q0 := 0) (ws1 := [(q, .inr (8, [.ref a0, zI 0, zI 0, zI 0])), (a0, .inl (G.2.1, 40, .inl (fun _ => Int32.ofInt 0)))]) dX9_init_24 fp_X9_22 rfl (Nat.le_of_ble_eq_true rfl) rfl ?_
  exact hret 27 _ _ _ _ _ dX9_init_27 (by decide) (by decide) ⟨a0, rfl⟩
