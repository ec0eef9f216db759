section
/-- a private method of a class that the tables say can be made, by its rows of tables_1 -/
def lw_okq (q : MethodName × Nat) : Prop := (q.1.cls ≠ "java/lang/invoke/MethodHandle" ∧ q.1.cls ≠ "java/lang/invoke/VarHandle") ∧ Cond.instantiable q.1.cls q.2 ∈ tables_1 ∧ Cond.privateMethod q.1 ∈ tables_1 ∧ Cond.instanceMethod q.1 ∈ tables_1
theorem lw_p0 : lw_okq (⟨"FooledNeedle", "drawnTrue", "(I)I"⟩, 12) := ⟨⟨by decide +kernel, by decide +kernel⟩, List.mem_of_getElem? (i := 17) (by decide +kernel), List.mem_of_getElem? (i := 400) (by decide +kernel), List.mem_of_getElem? (i := 401) (by decide +kernel)⟩
theorem lw_p1 : lw_okq (⟨"FooledNeedle$Swing", "stepsToSeen", "(II)I"⟩, 2) := ⟨⟨by decide +kernel, by decide +kernel⟩, List.mem_of_getElem? (i := 243) (by decide +kernel), List.mem_of_getElem? (i := 458) (by decide +kernel), List.mem_of_getElem? (i := 459) (by decide +kernel)⟩
theorem lw_p2 : lw_okq (⟨"FooledNeedle", "residueOn", "(II)I"⟩, 12) := ⟨⟨by decide +kernel, by decide +kernel⟩, List.mem_of_getElem? (i := 17) (by decide +kernel), List.mem_of_getElem? (i := 497) (by decide +kernel), List.mem_of_getElem? (i := 498) (by decide +kernel)⟩
theorem lw_p3 : lw_okq (⟨"FooledNeedle", "leftCard", "()LFooledNeedle$Card;"⟩, 12) := ⟨⟨by decide +kernel, by decide +kernel⟩, List.mem_of_getElem? (i := 17) (by decide +kernel), List.mem_of_getElem? (i := 564) (by decide +kernel), List.mem_of_getElem? (i := 565) (by decide +kernel)⟩
theorem lw_p4 : lw_okq (⟨"FooledNeedle$Laying", "findBars", "(II)V"⟩, 9) := ⟨⟨by decide +kernel, by decide +kernel⟩, List.mem_of_getElem? (i := 62) (by decide +kernel), List.mem_of_getElem? (i := 616) (by decide +kernel), List.mem_of_getElem? (i := 617) (by decide +kernel)⟩
theorem lw_p5 : lw_okq (⟨"FooledNeedle$Laying", "findAthwart", "(III)V"⟩, 9) := ⟨⟨by decide +kernel, by decide +kernel⟩, List.mem_of_getElem? (i := 62) (by decide +kernel), List.mem_of_getElem? (i := 621) (by decide +kernel), List.mem_of_getElem? (i := 622) (by decide +kernel)⟩
theorem lw_p6 : lw_okq (⟨"FooledNeedle$Laying", "findBalls", "(ILFooledNeedle$Store;)V"⟩, 9) := ⟨⟨by decide +kernel, by decide +kernel⟩, List.mem_of_getElem? (i := 62) (by decide +kernel), List.mem_of_getElem? (i := 626) (by decide +kernel), List.mem_of_getElem? (i := 627) (by decide +kernel)⟩
theorem lw_p7 : lw_okq (⟨"FooledNeedle", "cardOfDay", "(I)LFooledNeedle$Card;"⟩, 12) := ⟨⟨by decide +kernel, by decide +kernel⟩, List.mem_of_getElem? (i := 17) (by decide +kernel), List.mem_of_getElem? (i := 721) (by decide +kernel), List.mem_of_getElem? (i := 722) (by decide +kernel)⟩
theorem lw_p8 : lw_okq (⟨"FooledNeedle", "isLeg", "(I)Z"⟩, 12) := ⟨⟨by decide +kernel, by decide +kernel⟩, List.mem_of_getElem? (i := 17) (by decide +kernel), List.mem_of_getElem? (i := 745) (by decide +kernel), List.mem_of_getElem? (i := 746) (by decide +kernel)⟩
theorem lw_p9 : lw_okq (⟨"FooledNeedle", "courseOf", "(I)I"⟩, 12) := ⟨⟨by decide +kernel, by decide +kernel⟩, List.mem_of_getElem? (i := 17) (by decide +kernel), List.mem_of_getElem? (i := 749) (by decide +kernel), List.mem_of_getElem? (i := 750) (by decide +kernel)⟩
theorem lw_p10 : lw_okq (⟨"FooledNeedle", "sunRestOf", "(I)I"⟩, 12) := ⟨⟨by decide +kernel, by decide +kernel⟩, List.mem_of_getElem? (i := 17) (by decide +kernel), List.mem_of_getElem? (i := 753) (by decide +kernel), List.mem_of_getElem? (i := 754) (by decide +kernel)⟩
theorem lw_p11 : lw_okq (⟨"FooledNeedle", "waysApart", "(I)I"⟩, 12) := ⟨⟨by decide +kernel, by decide +kernel⟩, List.mem_of_getElem? (i := 17) (by decide +kernel), List.mem_of_getElem? (i := 757) (by decide +kernel), List.mem_of_getElem? (i := 758) (by decide +kernel)⟩
theorem lw_p12 : lw_okq (⟨"FooledNeedle", "trueByOther", "(I)I"⟩, 12) := ⟨⟨by decide +kernel, by decide +kernel⟩, List.mem_of_getElem? (i := 17) (by decide +kernel), List.mem_of_getElem? (i := 761) (by decide +kernel), List.mem_of_getElem? (i := 762) (by decide +kernel)⟩
theorem lw_p13 : lw_okq (⟨"FooledNeedle", "findSplit", "()V"⟩, 12) := ⟨⟨by decide +kernel, by decide +kernel⟩, List.mem_of_getElem? (i := 17) (by decide +kernel), List.mem_of_getElem? (i := 777) (by decide +kernel), List.mem_of_getElem? (i := 778) (by decide +kernel)⟩
theorem lw_p14 : lw_okq (⟨"FooledNeedle$Split", "costOf", "(II)I"⟩, 6) := ⟨⟨by decide +kernel, by decide +kernel⟩, List.mem_of_getElem? (i := 179) (by decide +kernel), List.mem_of_getElem? (i := 789) (by decide +kernel), List.mem_of_getElem? (i := 790) (by decide +kernel)⟩
theorem lw_p15 : lw_okq (⟨"FooledNeedle$Split", "middle", "(II)I"⟩, 6) := ⟨⟨by decide +kernel, by decide +kernel⟩, List.mem_of_getElem? (i := 179) (by decide +kernel), List.mem_of_getElem? (i := 793) (by decide +kernel), List.mem_of_getElem? (i := 794) (by decide +kernel)⟩
def lw_privs_1 : List (MethodName × Nat) := [(⟨"FooledNeedle", "drawnTrue", "(I)I"⟩, 12), (⟨"FooledNeedle$Swing", "stepsToSeen", "(II)I"⟩, 2), (⟨"FooledNeedle", "residueOn", "(II)I"⟩, 12), (⟨"FooledNeedle", "leftCard", "()LFooledNeedle$Card;"⟩, 12), (⟨"FooledNeedle$Laying", "findBars", "(II)V"⟩, 9), (⟨"FooledNeedle$Laying", "findAthwart", "(III)V"⟩, 9), (⟨"FooledNeedle$Laying", "findBalls", "(ILFooledNeedle$Store;)V"⟩, 9), (⟨"FooledNeedle", "cardOfDay", "(I)LFooledNeedle$Card;"⟩, 12), (⟨"FooledNeedle", "isLeg", "(I)Z"⟩, 12), (⟨"FooledNeedle", "courseOf", "(I)I"⟩, 12), (⟨"FooledNeedle", "sunRestOf", "(I)I"⟩, 12), (⟨"FooledNeedle", "waysApart", "(I)I"⟩, 12), (⟨"FooledNeedle", "trueByOther", "(I)I"⟩, 12), (⟨"FooledNeedle", "findSplit", "()V"⟩, 12), (⟨"FooledNeedle$Split", "costOf", "(II)I"⟩, 6), (⟨"FooledNeedle$Split", "middle", "(II)I"⟩, 6)]
theorem lw_r1 : ∀ q ∈ lw_privs_1, lw_okq q := List.forall_mem_cons.mpr ⟨lw_p0, List.forall_mem_cons.mpr ⟨lw_p1, List.forall_mem_cons.mpr ⟨lw_p2, List.forall_mem_cons.mpr ⟨lw_p3, List.forall_mem_cons.mpr ⟨lw_p4, List.forall_mem_cons.mpr ⟨lw_p5, List.forall_mem_cons.mpr ⟨lw_p6, List.forall_mem_cons.mpr ⟨lw_p7, List.forall_mem_cons.mpr ⟨lw_p8, List.forall_mem_cons.mpr ⟨lw_p9, List.forall_mem_cons.mpr ⟨lw_p10, List.forall_mem_cons.mpr ⟨lw_p11, List.forall_mem_cons.mpr ⟨lw_p12, List.forall_mem_cons.mpr ⟨lw_p13, List.forall_mem_cons.mpr ⟨lw_p14, List.forall_mem_cons.mpr ⟨lw_p15, fun _ h => absurd h List.not_mem_nil⟩⟩⟩⟩⟩⟩⟩⟩⟩⟩⟩⟩⟩⟩⟩⟩
theorem lw_p16 : lw_okq (⟨"FooledNeedle$Wreck", "findDay", "(LFooledNeedle$Legs;III)V"⟩, 4) := ⟨⟨by decide +kernel, by decide +kernel⟩, List.mem_of_getElem? (i := 208) (by decide +kernel), List.mem_of_getElem? (i := 831) (by decide +kernel), List.mem_of_getElem? (i := 832) (by decide +kernel)⟩
theorem lw_p17 : lw_okq (⟨"FooledNeedle$Wreck", "weigh", "(IIII)V"⟩, 4) := ⟨⟨by decide +kernel, by decide +kernel⟩, List.mem_of_getElem? (i := 208) (by decide +kernel), List.mem_of_getElem? (i := 838) (by decide +kernel), List.mem_of_getElem? (i := 839) (by decide +kernel)⟩
theorem lw_p18 : lw_okq (⟨"FooledNeedleModel", "take", "(I)V"⟩, 32) := ⟨⟨by decide +kernel, by decide +kernel⟩, List.mem_of_getElem? (i := 862) (by decide +kernel), List.mem_of_getElem? (i := 1027) (by decide +kernel), List.mem_of_getElem? (i := 1028) (by decide +kernel)⟩
theorem lw_p19 : lw_okq (⟨"FooledNeedleModel", "errorOf", "(II)I"⟩, 32) := ⟨⟨by decide +kernel, by decide +kernel⟩, List.mem_of_getElem? (i := 862) (by decide +kernel), List.mem_of_getElem? (i := 1031) (by decide +kernel), List.mem_of_getElem? (i := 1032) (by decide +kernel)⟩
theorem lw_p20 : lw_okq (⟨"FooledNeedleModel", "lay", "(I)V"⟩, 32) := ⟨⟨by decide +kernel, by decide +kernel⟩, List.mem_of_getElem? (i := 862) (by decide +kernel), List.mem_of_getElem? (i := 1044) (by decide +kernel), List.mem_of_getElem? (i := 1045) (by decide +kernel)⟩
theorem lw_p21 : lw_okq (⟨"FooledNeedleModel", "between", "(I)I"⟩, 32) := ⟨⟨by decide +kernel, by decide +kernel⟩, List.mem_of_getElem? (i := 862) (by decide +kernel), List.mem_of_getElem? (i := 1048) (by decide +kernel), List.mem_of_getElem? (i := 1049) (by decide +kernel)⟩
theorem lw_p22 : lw_okq (⟨"FooledNeedleModel", "truth", "(I)I"⟩, 32) := ⟨⟨by decide +kernel, by decide +kernel⟩, List.mem_of_getElem? (i := 862) (by decide +kernel), List.mem_of_getElem? (i := 1056) (by decide +kernel), List.mem_of_getElem? (i := 1057) (by decide +kernel)⟩
theorem lw_p23 : lw_okq (⟨"FooledNeedleModel", "seenOf", "(I)I"⟩, 32) := ⟨⟨by decide +kernel, by decide +kernel⟩, List.mem_of_getElem? (i := 862) (by decide +kernel), List.mem_of_getElem? (i := 1093) (by decide +kernel), List.mem_of_getElem? (i := 1094) (by decide +kernel)⟩
theorem lw_p24 : lw_okq (⟨"FooledNeedleModel", "filledOf", "(II)I"⟩, 32) := ⟨⟨by decide +kernel, by decide +kernel⟩, List.mem_of_getElem? (i := 862) (by decide +kernel), List.mem_of_getElem? (i := 1101) (by decide +kernel), List.mem_of_getElem? (i := 1102) (by decide +kernel)⟩
theorem lw_p25 : lw_okq (⟨"FooledNeedleModel", "pullOf", "(II)I"⟩, 32) := ⟨⟨by decide +kernel, by decide +kernel⟩, List.mem_of_getElem? (i := 862) (by decide +kernel), List.mem_of_getElem? (i := 1138) (by decide +kernel), List.mem_of_getElem? (i := 1139) (by decide +kernel)⟩
theorem lw_p26 : lw_okq (⟨"FooledNeedleModel", "ballPull", "(II)I"⟩, 32) := ⟨⟨by decide +kernel, by decide +kernel⟩, List.mem_of_getElem? (i := 862) (by decide +kernel), List.mem_of_getElem? (i := 1146) (by decide +kernel), List.mem_of_getElem? (i := 1147) (by decide +kernel)⟩
theorem lw_p27 : lw_okq (⟨"FooledNeedleModel", "lifted", "()I"⟩, 32) := ⟨⟨by decide +kernel, by decide +kernel⟩, List.mem_of_getElem? (i := 862) (by decide +kernel), List.mem_of_getElem? (i := 1154) (by decide +kernel), List.mem_of_getElem? (i := 1155) (by decide +kernel)⟩
theorem lw_p28 : lw_okq (⟨"FooledNeedleModel", "laid", "()I"⟩, 32) := ⟨⟨by decide +kernel, by decide +kernel⟩, List.mem_of_getElem? (i := 862) (by decide +kernel), List.mem_of_getElem? (i := 1158) (by decide +kernel), List.mem_of_getElem? (i := 1159) (by decide +kernel)⟩
theorem lw_p29 : lw_okq (⟨"FooledNeedleModel", "leave", "()V"⟩, 32) := ⟨⟨by decide +kernel, by decide +kernel⟩, List.mem_of_getElem? (i := 862) (by decide +kernel), List.mem_of_getElem? (i := 1166) (by decide +kernel), List.mem_of_getElem? (i := 1167) (by decide +kernel)⟩
theorem lw_p30 : lw_okq (⟨"FooledNeedleModel", "look", "()V"⟩, 32) := ⟨⟨by decide +kernel, by decide +kernel⟩, List.mem_of_getElem? (i := 862) (by decide +kernel), List.mem_of_getElem? (i := 1178) (by decide +kernel), List.mem_of_getElem? (i := 1179) (by decide +kernel)⟩
theorem lw_p31 : lw_okq (⟨"FooledNeedleModel", "byBar", "(II)I"⟩, 32) := ⟨⟨by decide +kernel, by decide +kernel⟩, List.mem_of_getElem? (i := 862) (by decide +kernel), List.mem_of_getElem? (i := 1183) (by decide +kernel), List.mem_of_getElem? (i := 1184) (by decide +kernel)⟩
def lw_privs_2 : List (MethodName × Nat) := [(⟨"FooledNeedle$Wreck", "findDay", "(LFooledNeedle$Legs;III)V"⟩, 4), (⟨"FooledNeedle$Wreck", "weigh", "(IIII)V"⟩, 4), (⟨"FooledNeedleModel", "take", "(I)V"⟩, 32), (⟨"FooledNeedleModel", "errorOf", "(II)I"⟩, 32), (⟨"FooledNeedleModel", "lay", "(I)V"⟩, 32), (⟨"FooledNeedleModel", "between", "(I)I"⟩, 32), (⟨"FooledNeedleModel", "truth", "(I)I"⟩, 32), (⟨"FooledNeedleModel", "seenOf", "(I)I"⟩, 32), (⟨"FooledNeedleModel", "filledOf", "(II)I"⟩, 32), (⟨"FooledNeedleModel", "pullOf", "(II)I"⟩, 32), (⟨"FooledNeedleModel", "ballPull", "(II)I"⟩, 32), (⟨"FooledNeedleModel", "lifted", "()I"⟩, 32), (⟨"FooledNeedleModel", "laid", "()I"⟩, 32), (⟨"FooledNeedleModel", "leave", "()V"⟩, 32), (⟨"FooledNeedleModel", "look", "()V"⟩, 32), (⟨"FooledNeedleModel", "byBar", "(II)I"⟩, 32)]
theorem lw_r2 : ∀ q ∈ lw_privs_2, lw_okq q := List.forall_mem_cons.mpr ⟨lw_p16, List.forall_mem_cons.mpr ⟨lw_p17, List.forall_mem_cons.mpr ⟨lw_p18, List.forall_mem_cons.mpr ⟨lw_p19, List.forall_mem_cons.mpr ⟨lw_p20, List.forall_mem_cons.mpr ⟨lw_p21, List.forall_mem_cons.mpr ⟨lw_p22, List.forall_mem_cons.mpr ⟨lw_p23, List.forall_mem_cons.mpr ⟨lw_p24, List.forall_mem_cons.mpr ⟨lw_p25, List.forall_mem_cons.mpr ⟨lw_p26, List.forall_mem_cons.mpr ⟨lw_p27, List.forall_mem_cons.mpr ⟨lw_p28, List.forall_mem_cons.mpr ⟨lw_p29, List.forall_mem_cons.mpr ⟨lw_p30, List.forall_mem_cons.mpr ⟨lw_p31, fun _ h => absurd h List.not_mem_nil⟩⟩⟩⟩⟩⟩⟩⟩⟩⟩⟩⟩⟩⟩⟩⟩
theorem lw_p32 : lw_okq (⟨"FooledNeedleModel", "byBall", "(II)I"⟩, 32) := ⟨⟨by decide +kernel, by decide +kernel⟩, List.mem_of_getElem? (i := 862) (by decide +kernel), List.mem_of_getElem? (i := 1191) (by decide +kernel), List.mem_of_getElem? (i := 1192) (by decide +kernel)⟩
theorem lw_p33 : lw_okq (⟨"FooledNeedleModel", "isDark", "(III)Z"⟩, 32) := ⟨⟨by decide +kernel, by decide +kernel⟩, List.mem_of_getElem? (i := 862) (by decide +kernel), List.mem_of_getElem? (i := 1219) (by decide +kernel), List.mem_of_getElem? (i := 1220) (by decide +kernel)⟩
theorem lw_p34 : lw_okq (⟨"FooledNeedleModel", "foretoldOf", "(IIIII)I"⟩, 32) := ⟨⟨by decide +kernel, by decide +kernel⟩, List.mem_of_getElem? (i := 862) (by decide +kernel), List.mem_of_getElem? (i := 1223) (by decide +kernel), List.mem_of_getElem? (i := 1224) (by decide +kernel)⟩
theorem lw_p35 : lw_okq (⟨"FooledNeedleModel", "takeAsOf", "(I)V"⟩, 32) := ⟨⟨by decide +kernel, by decide +kernel⟩, List.mem_of_getElem? (i := 862) (by decide +kernel), List.mem_of_getElem? (i := 1247) (by decide +kernel), List.mem_of_getElem? (i := 1248) (by decide +kernel)⟩
theorem lw_p36 : lw_okq (⟨"FooledNeedleModel", "courseOf", "(I)I"⟩, 32) := ⟨⟨by decide +kernel, by decide +kernel⟩, List.mem_of_getElem? (i := 862) (by decide +kernel), List.mem_of_getElem? (i := 1259) (by decide +kernel), List.mem_of_getElem? (i := 1260) (by decide +kernel)⟩
theorem lw_p37 : lw_okq (⟨"FooledNeedleModel", "layLeg", "(I)V"⟩, 32) := ⟨⟨by decide +kernel, by decide +kernel⟩, List.mem_of_getElem? (i := 862) (by decide +kernel), List.mem_of_getElem? (i := 1263) (by decide +kernel), List.mem_of_getElem? (i := 1264) (by decide +kernel)⟩
theorem lw_p38 : lw_okq (⟨"FooledNeedleModel", "restOf", "(I)I"⟩, 32) := ⟨⟨by decide +kernel, by decide +kernel⟩, List.mem_of_getElem? (i := 862) (by decide +kernel), List.mem_of_getElem? (i := 1267) (by decide +kernel), List.mem_of_getElem? (i := 1268) (by decide +kernel)⟩
theorem lw_p39 : lw_okq (⟨"FooledNeedleModel", "apartOf", "(I)I"⟩, 32) := ⟨⟨by decide +kernel, by decide +kernel⟩, List.mem_of_getElem? (i := 862) (by decide +kernel), List.mem_of_getElem? (i := 1271) (by decide +kernel), List.mem_of_getElem? (i := 1272) (by decide +kernel)⟩
theorem lw_p40 : lw_okq (⟨"FooledNeedleModel", "secondOf", "(I)I"⟩, 32) := ⟨⟨by decide +kernel, by decide +kernel⟩, List.mem_of_getElem? (i := 862) (by decide +kernel), List.mem_of_getElem? (i := 1275) (by decide +kernel), List.mem_of_getElem? (i := 1276) (by decide +kernel)⟩
theorem lw_p41 : lw_okq (⟨"FooledNeedleModel", "courses", "()V"⟩, 32) := ⟨⟨by decide +kernel, by decide +kernel⟩, List.mem_of_getElem? (i := 862) (by decide +kernel), List.mem_of_getElem? (i := 1289) (by decide +kernel), List.mem_of_getElem? (i := 1290) (by decide +kernel)⟩
theorem lw_p42 : lw_okq (⟨"FooledNeedleModel", "workedOf", "(IIIZ)I"⟩, 32) := ⟨⟨by decide +kernel, by decide +kernel⟩, List.mem_of_getElem? (i := 862) (by decide +kernel), List.mem_of_getElem? (i := 1293) (by decide +kernel), List.mem_of_getElem? (i := 1294) (by decide +kernel)⟩
theorem lw_p43 : lw_okq (⟨"FooledNeedleModel", "suns", "()I"⟩, 32) := ⟨⟨by decide +kernel, by decide +kernel⟩, List.mem_of_getElem? (i := 862) (by decide +kernel), List.mem_of_getElem? (i := 1301) (by decide +kernel), List.mem_of_getElem? (i := 1302) (by decide +kernel)⟩
theorem lw_p44 : lw_okq (⟨"FooledNeedleModel", "splitOf", "(I)I"⟩, 32) := ⟨⟨by decide +kernel, by decide +kernel⟩, List.mem_of_getElem? (i := 862) (by decide +kernel), List.mem_of_getElem? (i := 1305) (by decide +kernel), List.mem_of_getElem? (i := 1306) (by decide +kernel)⟩
theorem lw_p45 : lw_okq (⟨"FooledNeedleModel", "costOf", "(II)I"⟩, 32) := ⟨⟨by decide +kernel, by decide +kernel⟩, List.mem_of_getElem? (i := 862) (by decide +kernel), List.mem_of_getElem? (i := 1309) (by decide +kernel), List.mem_of_getElem? (i := 1310) (by decide +kernel)⟩
theorem lw_p46 : lw_okq (⟨"FooledNeedleModel", "middle", "(II)I"⟩, 32) := ⟨⟨by decide +kernel, by decide +kernel⟩, List.mem_of_getElem? (i := 862) (by decide +kernel), List.mem_of_getElem? (i := 1313) (by decide +kernel), List.mem_of_getElem? (i := 1314) (by decide +kernel)⟩
theorem lw_p47 : lw_okq (⟨"FooledNeedleModel", "sunDay", "(I)I"⟩, 32) := ⟨⟨by decide +kernel, by decide +kernel⟩, List.mem_of_getElem? (i := 862) (by decide +kernel), List.mem_of_getElem? (i := 1325) (by decide +kernel), List.mem_of_getElem? (i := 1326) (by decide +kernel)⟩
def lw_privs_3 : List (MethodName × Nat) := [(⟨"FooledNeedleModel", "byBall", "(II)I"⟩, 32), (⟨"FooledNeedleModel", "isDark", "(III)Z"⟩, 32), (⟨"FooledNeedleModel", "foretoldOf", "(IIIII)I"⟩, 32), (⟨"FooledNeedleModel", "takeAsOf", "(I)V"⟩, 32), (⟨"FooledNeedleModel", "courseOf", "(I)I"⟩, 32), (⟨"FooledNeedleModel", "layLeg", "(I)V"⟩, 32), (⟨"FooledNeedleModel", "restOf", "(I)I"⟩, 32), (⟨"FooledNeedleModel", "apartOf", "(I)I"⟩, 32), (⟨"FooledNeedleModel", "secondOf", "(I)I"⟩, 32), (⟨"FooledNeedleModel", "courses", "()V"⟩, 32), (⟨"FooledNeedleModel", "workedOf", "(IIIZ)I"⟩, 32), (⟨"FooledNeedleModel", "suns", "()I"⟩, 32), (⟨"FooledNeedleModel", "splitOf", "(I)I"⟩, 32), (⟨"FooledNeedleModel", "costOf", "(II)I"⟩, 32), (⟨"FooledNeedleModel", "middle", "(II)I"⟩, 32), (⟨"FooledNeedleModel", "sunDay", "(I)I"⟩, 32)]
theorem lw_r3 : ∀ q ∈ lw_privs_3, lw_okq q := List.forall_mem_cons.mpr ⟨lw_p32, List.forall_mem_cons.mpr ⟨lw_p33, List.forall_mem_cons.mpr ⟨lw_p34, List.forall_mem_cons.mpr ⟨lw_p35, List.forall_mem_cons.mpr ⟨lw_p36, List.forall_mem_cons.mpr ⟨lw_p37, List.forall_mem_cons.mpr ⟨lw_p38, List.forall_mem_cons.mpr ⟨lw_p39, List.forall_mem_cons.mpr ⟨lw_p40, List.forall_mem_cons.mpr ⟨lw_p41, List.forall_mem_cons.mpr ⟨lw_p42, List.forall_mem_cons.mpr ⟨lw_p43, List.forall_mem_cons.mpr ⟨lw_p44, List.forall_mem_cons.mpr ⟨lw_p45, List.forall_mem_cons.mpr ⟨lw_p46, List.forall_mem_cons.mpr ⟨lw_p47, fun _ h => absurd h List.not_mem_nil⟩⟩⟩⟩⟩⟩⟩⟩⟩⟩⟩⟩⟩⟩⟩⟩
def lw_privs : List (MethodName × Nat) := lw_privs_1 ++ (lw_privs_2 ++ (lw_privs_3))
def lw_tbl : List Cond := k2_sels lw_privs ++ tables_1
theorem lw_privs_ok : ∀ q ∈ lw_privs, lw_okq q := by
  show ∀ q ∈ lw_privs_1 ++ (lw_privs_2 ++ (lw_privs_3)), lw_okq q
  exact List.forall_mem_append.mpr ⟨lw_r1, List.forall_mem_append.mpr ⟨lw_r2, lw_r3⟩⟩
end
section
def RX0 : String := "FooledNeedle$Card"
def TX0 : u_T := fun k => match k with
  | _ => ("FooledNeedle$Card", "parts", "[I", true)
def tyX0 : Nat → FieldType := fun k => match k with
  | _ => .array .int
theorem nmX0 : ∀ a, a < 1 → ∀ b, b < 1 → a ≠ b → (TX0 a).2.1 ≠ (TX0 b).2.1 := by decide +kernel
theorem tyX0_ok : ∀ k, k < 1 → parseFieldDescriptor (TX0 k).2.2.1 = some (tyX0 k) := by decide +kernel
abbrev cX0_init : ByteArray := prog_2_method_1_code
def yX0_init : MethodName := ⟨RX0, "<init>", "()V"⟩
abbrev cX0_copyFrom : ByteArray := prog_2_method_2_code
def yX0_copyFrom : MethodName := ⟨RX0, "copyFrom", "(LFooledNeedle$Card;)V"⟩
abbrev cX0_errorOn : ByteArray := prog_2_method_3_code
def yX0_errorOn : MethodName := ⟨RX0, "errorOn", "(II)I"⟩
abbrev cX0_errorOfReading : ByteArray := prog_2_method_4_code
def yX0_errorOfReading : MethodName := ⟨RX0, "errorOfReading", "(II)I"⟩
abbrev cX0_trueOfReading : ByteArray := prog_2_method_5_code
def yX0_trueOfReading : MethodName := ⟨RX0, "trueOfReading", "(II)I"⟩
abbrev cX0_draw : ByteArray := prog_2_method_6_code
def yX0_draw : MethodName := ⟨RX0, "draw", "([II)V"⟩
abbrev cX0_worstHeading : ByteArray := prog_2_method_7_code
def yX0_worstHeading : MethodName := ⟨RX0, "worstHeading", "()I"⟩
def RX1 : String := "FooledNeedle$Events"
def TX1 : u_T := fun k => match k with
  | 0 => ("FooledNeedle$Events", "days", "[I", true)
  | 1 => ("FooledNeedle$Events", "parts", "[I", true)
  | _ => ("FooledNeedle$Events", "puts", "[I", true)
def tyX1 : Nat → FieldType := fun k => match k with
  | 0 => .array .int
  | 1 => .array .int
  | _ => .array .int
theorem nmX1 : ∀ a, a < 3 → ∀ b, b < 3 → a ≠ b → (TX1 a).2.1 ≠ (TX1 b).2.1 := by decide +kernel
theorem tyX1_ok : ∀ k, k < 3 → parseFieldDescriptor (TX1 k).2.2.1 = some (tyX1 k) := by decide +kernel
abbrev cX1_init : ByteArray := prog_3_method_1_code
def yX1_init : MethodName := ⟨RX1, "<init>", "()V"⟩
abbrev cX1_write : ByteArray := prog_3_method_2_code
def yX1_write : MethodName := ⟨RX1, "write", "(IIII)I"⟩
abbrev cX1_putTo : ByteArray := prog_3_method_3_code
def yX1_putTo : MethodName := ⟨RX1, "putTo", "(LFooledNeedle$Card;I)V"⟩
abbrev cX1_howMany : ByteArray := prog_3_method_4_code
def yX1_howMany : MethodName := ⟨RX1, "howMany", "()I"⟩
def RX2 : String := "FooledNeedle$Laying"
def TX2 : u_T := fun k => match k with
  | 0 => ("FooledNeedle$Laying", "pulls", "[I", true)
  | 1 => ("FooledNeedle$Laying", "there", "[Z", true)
  | 2 => ("FooledNeedle$Laying", "foreAndAft", "I", false)
  | 3 => ("FooledNeedle$Laying", "athwart", "I", false)
  | 4 => ("FooledNeedle$Laying", "balls", "I", false)
  | 5 => ("FooledNeedle$Laying", "barRest", "I", false)
  | 6 => ("FooledNeedle$Laying", "barMagnets", "I", false)
  | 7 => ("FooledNeedle$Laying", "ballRest", "I", false)
  | _ => ("FooledNeedle$Laying", "ballMagnets", "I", false)
def tyX2 : Nat → FieldType := fun k => match k with
  | 0 => .array .int
  | 1 => .array .boolean
  | 2 => .int
  | 3 => .int
  | 4 => .int
  | 5 => .int
  | 6 => .int
  | 7 => .int
  | _ => .int
theorem nmX2 : ∀ a, a < 9 → ∀ b, b < 9 → a ≠ b → (TX2 a).2.1 ≠ (TX2 b).2.1 := by decide +kernel
theorem tyX2_ok : ∀ k, k < 9 → parseFieldDescriptor (TX2 k).2.2.1 = some (tyX2 k) := by decide +kernel
abbrev cX2_init : ByteArray := prog_4_method_1_code
def yX2_init : MethodName := ⟨RX2, "<init>", "()V"⟩
abbrev cX2_restInAll : ByteArray := prog_4_method_2_code
def yX2_restInAll : MethodName := ⟨RX2, "restInAll", "()I"⟩
abbrev cX2_magnetsInAll : ByteArray := prog_4_method_3_code
def yX2_magnetsInAll : MethodName := ⟨RX2, "magnetsInAll", "()I"⟩
abbrev cX2_find : ByteArray := prog_4_method_4_code
def yX2_find : MethodName := ⟨RX2, "find", "([ILFooledNeedle$Store;)V"⟩
abbrev cX2_findBars : ByteArray := prog_4_method_5_code
def yX2_findBars : MethodName := ⟨RX2, "findBars", "(II)V"⟩
abbrev cX2_findAthwart : ByteArray := prog_4_method_6_code
def yX2_findAthwart : MethodName := ⟨RX2, "findAthwart", "(III)V"⟩
abbrev cX2_findBalls : ByteArray := prog_4_method_7_code
def yX2_findBalls : MethodName := ⟨RX2, "findBalls", "(ILFooledNeedle$Store;)V"⟩
def RX3 : String := "FooledNeedle$Legs"
def TX3 : u_T := fun k => match k with
  | 0 => ("FooledNeedle$Legs", "days", "[I", true)
  | 1 => ("FooledNeedle$Legs", "readings", "[I", true)
  | 2 => ("FooledNeedle$Legs", "heels", "[I", true)
  | 3 => ("FooledNeedle$Legs", "miles", "[I", true)
  | 4 => ("FooledNeedle$Legs", "others", "[I", true)
  | 5 => ("FooledNeedle$Legs", "suns", "[I", true)
  | _ => ("FooledNeedle$Legs", "howMany", "I", false)
def tyX3 : Nat → FieldType := fun k => match k with
  | 0 => .array .int
  | 1 => .array .int
  | 2 => .array .int
  | 3 => .array .int
  | 4 => .array .int
  | 5 => .array .int
  | _ => .int
theorem nmX3 : ∀ a, a < 7 → ∀ b, b < 7 → a ≠ b → (TX3 a).2.1 ≠ (TX3 b).2.1 := by decide +kernel
theorem tyX3_ok : ∀ k, k < 7 → parseFieldDescriptor (TX3 k).2.2.1 = some (tyX3 k) := by decide +kernel
abbrev cX3_init : ByteArray := prog_5_method_1_code
def yX3_init : MethodName := ⟨RX3, "<init>", "()V"⟩
abbrev cX3_lastDay : ByteArray := prog_5_method_2_code
def yX3_lastDay : MethodName := ⟨RX3, "lastDay", "()I"⟩
abbrev cX3_add : ByteArray := prog_5_method_3_code
def yX3_add : MethodName := ⟨RX3, "add", "(IIIIII)I"⟩
abbrev cX3_milesRun : ByteArray := prog_5_method_4_code
def yX3_milesRun : MethodName := ⟨RX3, "milesRun", "()I"⟩
def RX4 : String := "FooledNeedle$Places"
def TX4 : u_T := fun k => match k with
  | 0 => ("FooledNeedle$Places", "across", "[I", true)
  | 1 => ("FooledNeedle$Places", "down", "[I", true)
  | 2 => ("FooledNeedle$Places", "notedB", "[I", true)
  | 3 => ("FooledNeedle$Places", "notedC", "[I", true)
  | _ => ("FooledNeedle$Places", "noted", "[Z", true)
def tyX4 : Nat → FieldType := fun k => match k with
  | 0 => .array .int
  | 1 => .array .int
  | 2 => .array .int
  | 3 => .array .int
  | _ => .array .boolean
theorem nmX4 : ∀ a, a < 5 → ∀ b, b < 5 → a ≠ b → (TX4 a).2.1 ≠ (TX4 b).2.1 := by decide +kernel
theorem tyX4_ok : ∀ k, k < 5 → parseFieldDescriptor (TX4 k).2.2.1 = some (tyX4 k) := by decide +kernel
abbrev cX4_init : ByteArray := prog_6_method_1_code
def yX4_init : MethodName := ⟨RX4, "<init>", "()V"⟩
abbrev cX4_write : ByteArray := prog_6_method_2_code
def yX4_write : MethodName := ⟨RX4, "write", "(IILFooledNeedle$Card;)V"⟩
abbrev cX4_canForetell : ByteArray := prog_6_method_3_code
def yX4_canForetell : MethodName := ⟨RX4, "canForetell", "(III)Z"⟩
abbrev cX4_foretell : ByteArray := prog_6_method_4_code
def yX4_foretell : MethodName := ⟨RX4, "foretell", "([IIIII)I"⟩
abbrev cX4_howManyNotes : ByteArray := prog_6_method_5_code
def yX4_howManyNotes : MethodName := ⟨RX4, "howManyNotes", "()I"⟩
def RX5 : String := "FooledNeedle$Split"
def TX5 : u_T := fun k => match k with
  | 0 => ("FooledNeedle$Split", "numbers", "[I", true)
  | 1 => ("FooledNeedle$Split", "rests", "[I", true)
  | 2 => ("FooledNeedle$Split", "ordered", "[I", true)
  | 3 => ("FooledNeedle$Split", "howMany", "I", false)
  | 4 => ("FooledNeedle$Split", "first", "I", false)
  | _ => ("FooledNeedle$Split", "cost", "I", false)
def tyX5 : Nat → FieldType := fun k => match k with
  | 0 => .array .int
  | 1 => .array .int
  | 2 => .array .int
  | 3 => .int
  | 4 => .int
  | _ => .int
theorem nmX5 : ∀ a, a < 6 → ∀ b, b < 6 → a ≠ b → (TX5 a).2.1 ≠ (TX5 b).2.1 := by decide +kernel
theorem tyX5_ok : ∀ k, k < 6 → parseFieldDescriptor (TX5 k).2.2.1 = some (tyX5 k) := by decide +kernel
abbrev cX5_init : ByteArray := prog_7_method_1_code
def yX5_init : MethodName := ⟨RX5, "<init>", "()V"⟩
abbrev cX5_add : ByteArray := prog_7_method_2_code
def yX5_add : MethodName := ⟨RX5, "add", "(II)V"⟩
abbrev cX5_find : ByteArray := prog_7_method_3_code
def yX5_find : MethodName := ⟨RX5, "find", "()V"⟩
abbrev cX5_isOnBothSides : ByteArray := prog_7_method_4_code
def yX5_isOnBothSides : MethodName := ⟨RX5, "isOnBothSides", "()Z"⟩
abbrev cX5_jumpBetween : ByteArray := prog_7_method_5_code
def yX5_jumpBetween : MethodName := ⟨RX5, "jumpBetween", "()I"⟩
abbrev cX5_costOf : ByteArray := prog_7_method_6_code
def yX5_costOf : MethodName := ⟨RX5, "costOf", "(II)I"⟩
abbrev cX5_middle : ByteArray := prog_7_method_7_code
def yX5_middle : MethodName := ⟨RX5, "middle", "(II)I"⟩
def RX6 : String := "FooledNeedle$Store"
def TX6 : u_T := fun k => match k with
  | 0 => ("FooledNeedle$Store", "strengths", "[I", true)
  | 1 => ("FooledNeedle$Store", "sizes", "[I", true)
  | 2 => ("FooledNeedle$Store", "barSlots", "[I", true)
  | 3 => ("FooledNeedle$Store", "barAxes", "[I", true)
  | 4 => ("FooledNeedle$Store", "barTurned", "[Z", true)
  | 5 => ("FooledNeedle$Store", "laidBall", "I", false)
  | _ => ("FooledNeedle$Store", "ballSlot", "I", false)
def tyX6 : Nat → FieldType := fun k => match k with
  | 0 => .array .int
  | 1 => .array .int
  | 2 => .array .int
  | 3 => .array .int
  | 4 => .array .boolean
  | 5 => .int
  | _ => .int
theorem nmX6 : ∀ a, a < 7 → ∀ b, b < 7 → a ≠ b → (TX6 a).2.1 ≠ (TX6 b).2.1 := by decide +kernel
theorem tyX6_ok : ∀ k, k < 7 → parseFieldDescriptor (TX6 k).2.2.1 = some (tyX6 k) := by decide +kernel
abbrev cX6_init : ByteArray := prog_8_method_1_code
def yX6_init : MethodName := ⟨RX6, "<init>", "()V"⟩
abbrev cX6_pullOfBar : ByteArray := prog_8_method_2_code
def yX6_pullOfBar : MethodName := ⟨RX6, "pullOfBar", "(II)I"⟩
abbrev cX6_pullOfBall : ByteArray := prog_8_method_3_code
def yX6_pullOfBall : MethodName := ⟨RX6, "pullOfBall", "(II)I"⟩
abbrev cX6_isBarLaid : ByteArray := prog_8_method_4_code
def yX6_isBarLaid : MethodName := ⟨RX6, "isBarLaid", "(I)Z"⟩
abbrev cX6_setBar : ByteArray := prog_8_method_5_code
def yX6_setBar : MethodName := ⟨RX6, "setBar", "(IIIZ)V"⟩
abbrev cX6_setBall : ByteArray := prog_8_method_6_code
def yX6_setBall : MethodName := ⟨RX6, "setBall", "(II)V"⟩
abbrev cX6_setBarByCode : ByteArray := prog_8_method_7_code
def yX6_setBarByCode : MethodName := ⟨RX6, "setBarByCode", "(II)V"⟩
abbrev cX6_setBallByCode : ByteArray := prog_8_method_8_code
def yX6_setBallByCode : MethodName := ⟨RX6, "setBallByCode", "(I)V"⟩
abbrev cX6_clearLaid : ByteArray := prog_8_method_9_code
def yX6_clearLaid : MethodName := ⟨RX6, "clearLaid", "()V"⟩
abbrev cX6_howManyLaid : ByteArray := prog_8_method_10_code
def yX6_howManyLaid : MethodName := ⟨RX6, "howManyLaid", "()I"⟩
abbrev cX6_howManyStored : ByteArray := prog_8_method_11_code
def yX6_howManyStored : MethodName := ⟨RX6, "howManyStored", "()I"⟩
abbrev cX6_pullOnAxis : ByteArray := prog_8_method_12_code
def yX6_pullOnAxis : MethodName := ⟨RX6, "pullOnAxis", "(I)I"⟩
abbrev cX6_pullOfLaidBall : ByteArray := prog_8_method_13_code
def yX6_pullOfLaidBall : MethodName := ⟨RX6, "pullOfLaidBall", "()I"⟩
abbrev cX6_barOfCode : ByteArray := prog_8_method_14_code
def yX6_barOfCode : MethodName := ⟨RX6, "barOfCode", "(I)I"⟩
abbrev cX6_barSlotOfCode : ByteArray := prog_8_method_15_code
def yX6_barSlotOfCode : MethodName := ⟨RX6, "barSlotOfCode", "(I)I"⟩
abbrev cX6_isTurnedCode : ByteArray := prog_8_method_16_code
def yX6_isTurnedCode : MethodName := ⟨RX6, "isTurnedCode", "(I)Z"⟩
abbrev cX6_ballOfCode : ByteArray := prog_8_method_17_code
def yX6_ballOfCode : MethodName := ⟨RX6, "ballOfCode", "(I)I"⟩
abbrev cX6_ballSlotOfCode : ByteArray := prog_8_method_18_code
def yX6_ballSlotOfCode : MethodName := ⟨RX6, "ballSlotOfCode", "(I)I"⟩
abbrev cX6_hasBarOfCode : ByteArray := prog_8_method_19_code
def yX6_hasBarOfCode : MethodName := ⟨RX6, "hasBarOfCode", "(I)Z"⟩
abbrev cX6_hasBallOfCode : ByteArray := prog_8_method_20_code
def yX6_hasBallOfCode : MethodName := ⟨RX6, "hasBallOfCode", "(I)Z"⟩
abbrev cX6_pullOfBarCode : ByteArray := prog_8_method_21_code
def yX6_pullOfBarCode : MethodName := ⟨RX6, "pullOfBarCode", "(I)I"⟩
abbrev cX6_pullOfBallCode : ByteArray := prog_8_method_22_code
def yX6_pullOfBallCode : MethodName := ⟨RX6, "pullOfBallCode", "(I)I"⟩
def RX7 : String := "FooledNeedle$Swing"
def TX7 : u_T := fun k => match k with
  | 0 => ("FooledNeedle$Swing", "errors", "[I", true)
  | _ => ("FooledNeedle$Swing", "howMany", "I", false)
def tyX7 : Nat → FieldType := fun k => match k with
  | 0 => .array .int
  | _ => .int
theorem nmX7 : ∀ a, a < 2 → ∀ b, b < 2 → a ≠ b → (TX7 a).2.1 ≠ (TX7 b).2.1 := by decide +kernel
theorem tyX7_ok : ∀ k, k < 2 → parseFieldDescriptor (TX7 k).2.2.1 = some (tyX7 k) := by decide +kernel
abbrev cX7_init : ByteArray := prog_9_method_1_code
def yX7_init : MethodName := ⟨RX7, "<init>", "()V"⟩
abbrev cX7_has : ByteArray := prog_9_method_2_code
def yX7_has : MethodName := ⟨RX7, "has", "(I)Z"⟩
abbrev cX7_write : ByteArray := prog_9_method_3_code
def yX7_write : MethodName := ⟨RX7, "write", "(II)I"⟩
abbrev cX7_stepsToSeen : ByteArray := prog_9_method_4_code
def yX7_stepsToSeen : MethodName := ⟨RX7, "stepsToSeen", "(II)I"⟩
abbrev cX7_fill : ByteArray := prog_9_method_5_code
def yX7_fill : MethodName := ⟨RX7, "fill", "(I)I"⟩
abbrev cX7_longestGap : ByteArray := prog_9_method_6_code
def yX7_longestGap : MethodName := ⟨RX7, "longestGap", "()I"⟩
abbrev cX7_takeApart : ByteArray := prog_9_method_7_code
def yX7_takeApart : MethodName := ⟨RX7, "takeApart", "(LFooledNeedle$Card;)V"⟩
abbrev cX7_asPart : ByteArray := prog_9_method_8_code
def yX7_asPart : MethodName := ⟨RX7, "asPart", "(II)I"⟩
def RX8 : String := "FooledNeedle$Waves"
def TX8 : u_T := fun k => match k with
  | _ => ("", "", "", false)
def tyX8 : Nat → FieldType := fun k => match k with
  | _ => .int
theorem nmX8 : ∀ a, a < 0 → ∀ b, b < 0 → a ≠ b → (TX8 a).2.1 ≠ (TX8 b).2.1 := by decide +kernel
theorem tyX8_ok : ∀ k, k < 0 → parseFieldDescriptor (TX8 k).2.2.1 = some (tyX8 k) := by decide +kernel
abbrev cX8_sin : ByteArray := prog_10_method_2_code
def yX8_sin : MethodName := ⟨RX8, "sin", "(I)I"⟩
abbrev cX8_cos : ByteArray := prog_10_method_3_code
def yX8_cos : MethodName := ⟨RX8, "cos", "(I)I"⟩
abbrev cX8_rounded : ByteArray := prog_10_method_4_code
def yX8_rounded : MethodName := ⟨RX8, "rounded", "(JJ)J"⟩
abbrev cX8_between : ByteArray := prog_10_method_5_code
def yX8_between : MethodName := ⟨RX8, "between", "(III)I"⟩
abbrev cX8_sineAt : ByteArray := prog_10_method_6_code
def yX8_sineAt : MethodName := ⟨RX8, "sineAt", "(I)I"⟩
abbrev cX8_cosineAt : ByteArray := prog_10_method_7_code
def yX8_cosineAt : MethodName := ⟨RX8, "cosineAt", "(I)I"⟩
abbrev cX8_wayFrom : ByteArray := prog_10_method_8_code
def yX8_wayFrom : MethodName := ⟨RX8, "wayFrom", "(II)I"⟩
def RX9 : String := "FooledNeedle$Wreck"
def TX9 : u_T := fun k => match k with
  | 0 => ("FooledNeedle$Wreck", "courses", "[I", true)
  | 1 => ("FooledNeedle$Wreck", "day", "I", false)
  | 2 => ("FooledNeedle$Wreck", "jumped", "I", false)
  | _ => ("FooledNeedle$Wreck", "squares", "I", false)
def tyX9 : Nat → FieldType := fun k => match k with
  | 0 => .array .int
  | 1 => .int
  | 2 => .int
  | _ => .int
theorem nmX9 : ∀ a, a < 4 → ∀ b, b < 4 → a ≠ b → (TX9 a).2.1 ≠ (TX9 b).2.1 := by decide +kernel
theorem tyX9_ok : ∀ k, k < 4 → parseFieldDescriptor (TX9 k).2.2.1 = some (tyX9 k) := by decide +kernel
abbrev cX9_init : ByteArray := prog_11_method_1_code
def yX9_init : MethodName := ⟨RX9, "<init>", "()V"⟩
abbrev cX9_find : ByteArray := prog_11_method_2_code
def yX9_find : MethodName := ⟨RX9, "find", "(LFooledNeedle$Legs;II)V"⟩
abbrev cX9_findDay : ByteArray := prog_11_method_3_code
def yX9_findDay : MethodName := ⟨RX9, "findDay", "(LFooledNeedle$Legs;III)V"⟩
abbrev cX9_weigh : ByteArray := prog_11_method_4_code
def yX9_weigh : MethodName := ⟨RX9, "weigh", "(IIII)V"⟩
def RX10 : String := "FooledNeedle"
def TX10 : u_T := fun k => match k with
  | 0 => ("FooledNeedle", "cards", "[LFooledNeedle$Card;", true)
  | 1 => ("FooledNeedle", "swings", "[LFooledNeedle$Swing;", true)
  | 2 => ("FooledNeedle", "store", "LFooledNeedle$Store;", true)
  | 3 => ("FooledNeedle", "laying", "LFooledNeedle$Laying;", true)
  | 4 => ("FooledNeedle", "places", "LFooledNeedle$Places;", true)
  | 5 => ("FooledNeedle", "events", "LFooledNeedle$Events;", true)
  | 6 => ("FooledNeedle", "legs", "LFooledNeedle$Legs;", true)
  | 7 => ("FooledNeedle", "parting", "LFooledNeedle$Split;", true)
  | 8 => ("FooledNeedle", "search", "LFooledNeedle$Wreck;", true)
  | 9 => ("FooledNeedle", "worksheet", "LFooledNeedle$Card;", true)
  | 10 => ("FooledNeedle", "drawn", "[I", true)
  | _ => ("FooledNeedle", "hits", "[I", true)
def tyX10 : Nat → FieldType := fun k => match k with
  | 0 => .array (.object "FooledNeedle$Card")
  | 1 => .array (.object "FooledNeedle$Swing")
  | 2 => .object "FooledNeedle$Store"
  | 3 => .object "FooledNeedle$Laying"
  | 4 => .object "FooledNeedle$Places"
  | 5 => .object "FooledNeedle$Events"
  | 6 => .object "FooledNeedle$Legs"
  | 7 => .object "FooledNeedle$Split"
  | 8 => .object "FooledNeedle$Wreck"
  | 9 => .object "FooledNeedle$Card"
  | 10 => .array .int
  | _ => .array .int
theorem nmX10 : ∀ a, a < 12 → ∀ b, b < 12 → a ≠ b → (TX10 a).2.1 ≠ (TX10 b).2.1 := by decide +kernel
theorem tyX10_ok : ∀ k, k < 12 → parseFieldDescriptor (TX10 k).2.2.1 = some (tyX10 k) := by decide +kernel
abbrev cX10_init : ByteArray := prog_1_method_1_code
def yX10_init : MethodName := ⟨RX10, "<init>", "()V"⟩
abbrev cX10_sine : ByteArray := prog_1_method_2_code
def yX10_sine : MethodName := ⟨RX10, "sine", "(IZ)I"⟩
abbrev cX10_way : ByteArray := prog_1_method_3_code
def yX10_way : MethodName := ⟨RX10, "way", "(II)I"⟩
abbrev cX10_part : ByteArray := prog_1_method_4_code
def yX10_part : MethodName := ⟨RX10, "part", "(III)I"⟩
abbrev cX10_told : ByteArray := prog_1_method_5_code
def yX10_told : MethodName := ⟨RX10, "told", "(II)I"⟩
abbrev cX10_error : ByteArray := prog_1_method_6_code
def yX10_error : MethodName := ⟨RX10, "error", "(III)I"⟩
abbrev cX10_errorAt : ByteArray := prog_1_method_7_code
def yX10_errorAt : MethodName := ⟨RX10, "errorAt", "(III)I"⟩
abbrev cX10_trueOf : ByteArray := prog_1_method_8_code
def yX10_trueOf : MethodName := ⟨RX10, "trueOf", "(III)I"⟩
abbrev cX10_steer : ByteArray := prog_1_method_9_code
def yX10_steer : MethodName := ⟨RX10, "steer", "(III)I"⟩
abbrev cX10_worst : ByteArray := prog_1_method_10_code
def yX10_worst : MethodName := ⟨RX10, "worst", "(I)I"⟩
abbrev cX10_worstAt : ByteArray := prog_1_method_11_code
def yX10_worstAt : MethodName := ⟨RX10, "worstAt", "(I)I"⟩
abbrev cX10_twofold : ByteArray := prog_1_method_12_code
def yX10_twofold : MethodName := ⟨RX10, "twofold", "(I)I"⟩
abbrev cX10_see : ByteArray := prog_1_method_13_code
def yX10_see : MethodName := ⟨RX10, "see", "(III)I"⟩
abbrev cX10_forget : ByteArray := prog_1_method_14_code
def yX10_forget : MethodName := ⟨RX10, "forget", "(II)I"⟩
abbrev cX10_seen : ByteArray := prog_1_method_15_code
def yX10_seen : MethodName := ⟨RX10, "seen", "(I)I"⟩
abbrev cX10_filled : ByteArray := prog_1_method_16_code
def yX10_filled : MethodName := ⟨RX10, "filled", "(II)I"⟩
abbrev cX10_gap : ByteArray := prog_1_method_17_code
def yX10_gap : MethodName := ⟨RX10, "gap", "(I)I"⟩
abbrev cX10_apart : ByteArray := prog_1_method_18_code
def yX10_apart : MethodName := ⟨RX10, "apart", "(I)I"⟩
abbrev cX10_residue : ByteArray := prog_1_method_19_code
def yX10_residue : MethodName := ⟨RX10, "residue", "(II)I"⟩
abbrev cX10_bar : ByteArray := prog_1_method_20_code
def yX10_bar : MethodName := ⟨RX10, "bar", "(II)I"⟩
abbrev cX10_ball : ByteArray := prog_1_method_21_code
def yX10_ball : MethodName := ⟨RX10, "ball", "(II)I"⟩
abbrev cX10_layBar : ByteArray := prog_1_method_22_code
def yX10_layBar : MethodName := ⟨RX10, "layBar", "(IIIZ)I"⟩
abbrev cX10_layBall : ByteArray := prog_1_method_23_code
def yX10_layBall : MethodName := ⟨RX10, "layBall", "(II)I"⟩
abbrev cX10_takeUp : ByteArray := prog_1_method_24_code
def yX10_takeUp : MethodName := ⟨RX10, "takeUp", "()I"⟩
abbrev cX10_leftOf : ByteArray := prog_1_method_25_code
def yX10_leftOf : MethodName := ⟨RX10, "leftOf", "(I)I"⟩
abbrev cX10_left : ByteArray := prog_1_method_26_code
def yX10_left : MethodName := ⟨RX10, "left", "(I)I"⟩
abbrev cX10_best : ByteArray := prog_1_method_27_code
def yX10_best : MethodName := ⟨RX10, "best", "()I"⟩
abbrev cX10_bestCode : ByteArray := prog_1_method_28_code
def yX10_bestCode : MethodName := ⟨RX10, "bestCode", "(I)I"⟩
abbrev cX10_layBest : ByteArray := prog_1_method_29_code
def yX10_layBest : MethodName := ⟨RX10, "layBest", "()I"⟩
abbrev cX10_place : ByteArray := prog_1_method_30_code
def yX10_place : MethodName := ⟨RX10, "place", "(III)I"⟩
abbrev cX10_note : ByteArray := prog_1_method_31_code
def yX10_note : MethodName := ⟨RX10, "note", "(II)I"⟩
abbrev cX10_foretold : ByteArray := prog_1_method_32_code
def yX10_foretold : MethodName := ⟨RX10, "foretold", "(IIIIZ)I"⟩
abbrev cX10_foretoldError : ByteArray := prog_1_method_33_code
def yX10_foretoldError : MethodName := ⟨RX10, "foretoldError", "(IIIII)I"⟩
abbrev cX10_event : ByteArray := prog_1_method_34_code
def yX10_event : MethodName := ⟨RX10, "event", "(IIII)I"⟩
abbrev cX10_asOf : ByteArray := prog_1_method_35_code
def yX10_asOf : MethodName := ⟨RX10, "asOf", "(II)I"⟩
abbrev cX10_leg : ByteArray := prog_1_method_36_code
def yX10_leg : MethodName := ⟨RX10, "leg", "(IIIIII)I"⟩
abbrev cX10_about : ByteArray := prog_1_method_37_code
def yX10_about : MethodName := ⟨RX10, "about", "(II)I"⟩
abbrev cX10_home : ByteArray := prog_1_method_38_code
def yX10_home : MethodName := ⟨RX10, "home", "()I"⟩
abbrev cX10_worked : ByteArray := prog_1_method_39_code
def yX10_worked : MethodName := ⟨RX10, "worked", "(IIIZ)I"⟩
abbrev cX10_split : ByteArray := prog_1_method_40_code
def yX10_split : MethodName := ⟨RX10, "split", "()I"⟩
abbrev cX10_splitCost : ByteArray := prog_1_method_41_code
def yX10_splitCost : MethodName := ⟨RX10, "splitCost", "()I"⟩
abbrev cX10_jump : ByteArray := prog_1_method_42_code
def yX10_jump : MethodName := ⟨RX10, "jump", "(I)I"⟩
abbrev cX10_firstApart : ByteArray := prog_1_method_43_code
def yX10_firstApart : MethodName := ⟨RX10, "firstApart", "(I)I"⟩
abbrev cX10_nearer : ByteArray := prog_1_method_44_code
def yX10_nearer : MethodName := ⟨RX10, "nearer", "(I)I"⟩
abbrev cX10_wreck : ByteArray := prog_1_method_45_code
def yX10_wreck : MethodName := ⟨RX10, "wreck", "(III)I"⟩
abbrev cX10_count : ByteArray := prog_1_method_46_code
def yX10_count : MethodName := ⟨RX10, "count", "(I)I"⟩
abbrev cX10_within : ByteArray := prog_1_method_47_code
def yX10_within : MethodName := ⟨RX10, "within", "(III)Z"⟩
abbrev cX10_isCompass : ByteArray := prog_1_method_48_code
def yX10_isCompass : MethodName := ⟨RX10, "isCompass", "(I)Z"⟩
abbrev cX10_isHeading : ByteArray := prog_1_method_49_code
def yX10_isHeading : MethodName := ⟨RX10, "isHeading", "(I)Z"⟩
abbrev cX10_isPart : ByteArray := prog_1_method_50_code
def yX10_isPart : MethodName := ⟨RX10, "isPart", "(I)Z"⟩
abbrev cX10_isReading : ByteArray := prog_1_method_51_code
def yX10_isReading : MethodName := ⟨RX10, "isReading", "(I)Z"⟩
abbrev cX10_isHeel : ByteArray := prog_1_method_52_code
def yX10_isHeel : MethodName := ⟨RX10, "isHeel", "(I)Z"⟩
abbrev cX10_isBar : ByteArray := prog_1_method_53_code
def yX10_isBar : MethodName := ⟨RX10, "isBar", "(I)Z"⟩
abbrev cX10_isBall : ByteArray := prog_1_method_54_code
def yX10_isBall : MethodName := ⟨RX10, "isBall", "(I)Z"⟩
abbrev cX10_isPlace : ByteArray := prog_1_method_55_code
def yX10_isPlace : MethodName := ⟨RX10, "isPlace", "(I)Z"⟩
abbrev cX10_isDay : ByteArray := prog_1_method_56_code
def yX10_isDay : MethodName := ⟨RX10, "isDay", "(I)Z"⟩
abbrev cX10_isLeg : ByteArray := prog_1_method_57_code
def yX10_isLeg : MethodName := ⟨RX10, "isLeg", "(I)Z"⟩
abbrev cX10_drawnTrue : ByteArray := prog_1_method_58_code
def yX10_drawnTrue : MethodName := ⟨RX10, "drawnTrue", "(I)I"⟩
abbrev cX10_residueOn : ByteArray := prog_1_method_59_code
def yX10_residueOn : MethodName := ⟨RX10, "residueOn", "(II)I"⟩
abbrev cX10_leftCard : ByteArray := prog_1_method_60_code
def yX10_leftCard : MethodName := ⟨RX10, "leftCard", "()LFooledNeedle$Card;"⟩
abbrev cX10_cardOfDay : ByteArray := prog_1_method_61_code
def yX10_cardOfDay : MethodName := ⟨RX10, "cardOfDay", "(I)LFooledNeedle$Card;"⟩
abbrev cX10_courseOf : ByteArray := prog_1_method_62_code
def yX10_courseOf : MethodName := ⟨RX10, "courseOf", "(I)I"⟩
abbrev cX10_trueByOther : ByteArray := prog_1_method_63_code
def yX10_trueByOther : MethodName := ⟨RX10, "trueByOther", "(I)I"⟩
abbrev cX10_waysApart : ByteArray := prog_1_method_64_code
def yX10_waysApart : MethodName := ⟨RX10, "waysApart", "(I)I"⟩
abbrev cX10_sunRestOf : ByteArray := prog_1_method_65_code
def yX10_sunRestOf : MethodName := ⟨RX10, "sunRestOf", "(I)I"⟩
abbrev cX10_findSplit : ByteArray := prog_1_method_66_code
def yX10_findSplit : MethodName := ⟨RX10, "findSplit", "()V"⟩
def RX11 : String := "FooledNeedleModel"
def TX11 : u_T := fun k => match k with
  | 0 => ("FooledNeedleModel", "thrown", "I", false)
  | 1 => ("FooledNeedleModel", "parts", "[I", true)
  | 2 => ("FooledNeedleModel", "seen", "[I", true)
  | 3 => ("FooledNeedleModel", "bars", "[I", true)
  | 4 => ("FooledNeedleModel", "barAxis", "[I", true)
  | 5 => ("FooledNeedleModel", "barSlot", "[I", true)
  | 6 => ("FooledNeedleModel", "isTurned", "[Z", true)
  | 7 => ("FooledNeedleModel", "balls", "[I", true)
  | 8 => ("FooledNeedleModel", "ball", "I", false)
  | 9 => ("FooledNeedleModel", "ballSlot", "I", false)
  | 10 => ("FooledNeedleModel", "h", "[I", true)
  | 11 => ("FooledNeedleModel", "z", "[I", true)
  | 12 => ("FooledNeedleModel", "isNoted", "[Z", true)
  | 13 => ("FooledNeedleModel", "notedB", "[I", true)
  | 14 => ("FooledNeedleModel", "notedC", "[I", true)
  | 15 => ("FooledNeedleModel", "eventDay", "[I", true)
  | 16 => ("FooledNeedleModel", "eventPart", "[I", true)
  | 17 => ("FooledNeedleModel", "eventSize", "[I", true)
  | 18 => ("FooledNeedleModel", "legs", "I", false)
  | 19 => ("FooledNeedleModel", "day", "[I", true)
  | 20 => ("FooledNeedleModel", "reading", "[I", true)
  | 21 => ("FooledNeedleModel", "heel", "[I", true)
  | 22 => ("FooledNeedleModel", "miles", "[I", true)
  | 23 => ("FooledNeedleModel", "other", "[I", true)
  | 24 => ("FooledNeedleModel", "sun", "[I", true)
  | 25 => ("FooledNeedleModel", "p", "[I", true)
  | 26 => ("FooledNeedleModel", "row", "[I", true)
  | 27 => ("FooledNeedleModel", "codes", "[I", true)
  | 28 => ("FooledNeedleModel", "rest", "I", false)
  | 29 => ("FooledNeedleModel", "rests", "[I", true)
  | 30 => ("FooledNeedleModel", "sorted", "[I", true)
  | _ => ("FooledNeedleModel", "course", "[I", true)
def tyX11 : Nat → FieldType := fun k => match k with
  | 0 => .int
  | 1 => .array .int
  | 2 => .array .int
  | 3 => .array .int
  | 4 => .array .int
  | 5 => .array .int
  | 6 => .array .boolean
  | 7 => .array .int
  | 8 => .int
  | 9 => .int
  | 10 => .array .int
  | 11 => .array .int
  | 12 => .array .boolean
  | 13 => .array .int
  | 14 => .array .int
  | 15 => .array .int
  | 16 => .array .int
  | 17 => .array .int
  | 18 => .int
  | 19 => .array .int
  | 20 => .array .int
  | 21 => .array .int
  | 22 => .array .int
  | 23 => .array .int
  | 24 => .array .int
  | 25 => .array .int
  | 26 => .array .int
  | 27 => .array .int
  | 28 => .int
  | 29 => .array .int
  | 30 => .array .int
  | _ => .array .int
theorem nmX11 : ∀ a, a < 32 → ∀ b, b < 32 → a ≠ b → (TX11 a).2.1 ≠ (TX11 b).2.1 := by decide +kernel
theorem tyX11_ok : ∀ k, k < 32 → parseFieldDescriptor (TX11 k).2.2.1 = some (tyX11 k) := by decide +kernel
abbrev cX11_init : ByteArray := prog_13_method_1_code
def yX11_init : MethodName := ⟨RX11, "<init>", "()V"⟩
abbrev cX11_in : ByteArray := prog_13_method_3_code
def yX11_in : MethodName := ⟨RX11, "in", "(JJJ)Z"⟩
abbrev cX11_size : ByteArray := prog_13_method_4_code
def yX11_size : MethodName := ⟨RX11, "size", "(I)I"⟩
abbrev cX11_turned : ByteArray := prog_13_method_5_code
def yX11_turned : MethodName := ⟨RX11, "turned", "(II)I"⟩
abbrev cX11_rounded : ByteArray := prog_13_method_6_code
def yX11_rounded : MethodName := ⟨RX11, "rounded", "(JJ)J"⟩
abbrev cX11_sinOf : ByteArray := prog_13_method_7_code
def yX11_sinOf : MethodName := ⟨RX11, "sinOf", "(I)I"⟩
abbrev cX11_cosOf : ByteArray := prog_13_method_8_code
def yX11_cosOf : MethodName := ⟨RX11, "cosOf", "(I)I"⟩
abbrev cX11_sineAt : ByteArray := prog_13_method_9_code
def yX11_sineAt : MethodName := ⟨RX11, "sineAt", "(I)I"⟩
abbrev cX11_wayOf : ByteArray := prog_13_method_10_code
def yX11_wayOf : MethodName := ⟨RX11, "wayOf", "(II)I"⟩
abbrev cX11_noRound : ByteArray := prog_13_method_11_code
def yX11_noRound : MethodName := ⟨RX11, "noRound", "(I)Z"⟩
abbrev cX11_noCompass : ByteArray := prog_13_method_12_code
def yX11_noCompass : MethodName := ⟨RX11, "noCompass", "(I)Z"⟩
abbrev cX11_noHeading : ByteArray := prog_13_method_13_code
def yX11_noHeading : MethodName := ⟨RX11, "noHeading", "(I)Z"⟩
abbrev cX11_noPart : ByteArray := prog_13_method_14_code
def yX11_noPart : MethodName := ⟨RX11, "noPart", "(I)Z"⟩
abbrev cX11_noHeel : ByteArray := prog_13_method_15_code
def yX11_noHeel : MethodName := ⟨RX11, "noHeel", "(I)Z"⟩
abbrev cX11_noDay : ByteArray := prog_13_method_16_code
def yX11_noDay : MethodName := ⟨RX11, "noDay", "(I)Z"⟩
abbrev cX11_take : ByteArray := prog_13_method_17_code
def yX11_take : MethodName := ⟨RX11, "take", "(I)V"⟩
abbrev cX11_errorOf : ByteArray := prog_13_method_18_code
def yX11_errorOf : MethodName := ⟨RX11, "errorOf", "(II)I"⟩
abbrev cX11_lay : ByteArray := prog_13_method_19_code
def yX11_lay : MethodName := ⟨RX11, "lay", "(I)V"⟩
abbrev cX11_between : ByteArray := prog_13_method_20_code
def yX11_between : MethodName := ⟨RX11, "between", "(I)I"⟩
abbrev cX11_truth : ByteArray := prog_13_method_21_code
def yX11_truth : MethodName := ⟨RX11, "truth", "(I)I"⟩
abbrev cX11_sine : ByteArray := prog_13_method_22_code
def yX11_sine : MethodName := ⟨RX11, "sine", "(IZ)I"⟩
abbrev cX11_way : ByteArray := prog_13_method_23_code
def yX11_way : MethodName := ⟨RX11, "way", "(II)I"⟩
abbrev cX11_part : ByteArray := prog_13_method_24_code
def yX11_part : MethodName := ⟨RX11, "part", "(III)I"⟩
abbrev cX11_told : ByteArray := prog_13_method_25_code
def yX11_told : MethodName := ⟨RX11, "told", "(II)I"⟩
abbrev cX11_error : ByteArray := prog_13_method_26_code
def yX11_error : MethodName := ⟨RX11, "error", "(III)I"⟩
abbrev cX11_errorAt : ByteArray := prog_13_method_27_code
def yX11_errorAt : MethodName := ⟨RX11, "errorAt", "(III)I"⟩
abbrev cX11_trueOf : ByteArray := prog_13_method_28_code
def yX11_trueOf : MethodName := ⟨RX11, "trueOf", "(III)I"⟩
abbrev cX11_steer : ByteArray := prog_13_method_29_code
def yX11_steer : MethodName := ⟨RX11, "steer", "(III)I"⟩
abbrev cX11_worst : ByteArray := prog_13_method_30_code
def yX11_worst : MethodName := ⟨RX11, "worst", "(I)I"⟩
abbrev cX11_worstAt : ByteArray := prog_13_method_31_code
def yX11_worstAt : MethodName := ⟨RX11, "worstAt", "(I)I"⟩
abbrev cX11_twofold : ByteArray := prog_13_method_32_code
def yX11_twofold : MethodName := ⟨RX11, "twofold", "(I)I"⟩
abbrev cX11_see : ByteArray := prog_13_method_33_code
def yX11_see : MethodName := ⟨RX11, "see", "(III)I"⟩
abbrev cX11_forget : ByteArray := prog_13_method_34_code
def yX11_forget : MethodName := ⟨RX11, "forget", "(II)I"⟩
abbrev cX11_seenOf : ByteArray := prog_13_method_35_code
def yX11_seenOf : MethodName := ⟨RX11, "seenOf", "(I)I"⟩
abbrev cX11_seen : ByteArray := prog_13_method_36_code
def yX11_seen : MethodName := ⟨RX11, "seen", "(I)I"⟩
abbrev cX11_filledOf : ByteArray := prog_13_method_37_code
def yX11_filledOf : MethodName := ⟨RX11, "filledOf", "(II)I"⟩
abbrev cX11_filled : ByteArray := prog_13_method_38_code
def yX11_filled : MethodName := ⟨RX11, "filled", "(II)I"⟩
abbrev cX11_gap : ByteArray := prog_13_method_39_code
def yX11_gap : MethodName := ⟨RX11, "gap", "(I)I"⟩
abbrev cX11_held : ByteArray := prog_13_method_40_code
def yX11_held : MethodName := ⟨RX11, "held", "(J)I"⟩
abbrev cX11_apart : ByteArray := prog_13_method_41_code
def yX11_apart : MethodName := ⟨RX11, "apart", "(I)I"⟩
abbrev cX11_residue : ByteArray := prog_13_method_42_code
def yX11_residue : MethodName := ⟨RX11, "residue", "(II)I"⟩
abbrev cX11_bar : ByteArray := prog_13_method_43_code
def yX11_bar : MethodName := ⟨RX11, "bar", "(II)I"⟩
abbrev cX11_ball : ByteArray := prog_13_method_44_code
def yX11_ball : MethodName := ⟨RX11, "ball", "(II)I"⟩
abbrev cX11_pullOf : ByteArray := prog_13_method_45_code
def yX11_pullOf : MethodName := ⟨RX11, "pullOf", "(II)I"⟩
abbrev cX11_ballPull : ByteArray := prog_13_method_46_code
def yX11_ballPull : MethodName := ⟨RX11, "ballPull", "(II)I"⟩
abbrev cX11_layBar : ByteArray := prog_13_method_47_code
def yX11_layBar : MethodName := ⟨RX11, "layBar", "(IIIZ)I"⟩
abbrev cX11_layBall : ByteArray := prog_13_method_48_code
def yX11_layBall : MethodName := ⟨RX11, "layBall", "(II)I"⟩
abbrev cX11_laid : ByteArray := prog_13_method_49_code
def yX11_laid : MethodName := ⟨RX11, "laid", "()I"⟩
abbrev cX11_lifted : ByteArray := prog_13_method_50_code
def yX11_lifted : MethodName := ⟨RX11, "lifted", "()I"⟩
abbrev cX11_takeUp : ByteArray := prog_13_method_51_code
def yX11_takeUp : MethodName := ⟨RX11, "takeUp", "()I"⟩
abbrev cX11_leave : ByteArray := prog_13_method_52_code
def yX11_leave : MethodName := ⟨RX11, "leave", "()V"⟩
abbrev cX11_leftOf : ByteArray := prog_13_method_53_code
def yX11_leftOf : MethodName := ⟨RX11, "leftOf", "(I)I"⟩
abbrev cX11_left : ByteArray := prog_13_method_54_code
def yX11_left : MethodName := ⟨RX11, "left", "(I)I"⟩
abbrev cX11_byBar : ByteArray := prog_13_method_55_code
def yX11_byBar : MethodName := ⟨RX11, "byBar", "(II)I"⟩
abbrev cX11_byBall : ByteArray := prog_13_method_56_code
def yX11_byBall : MethodName := ⟨RX11, "byBall", "(II)I"⟩
abbrev cX11_one : ByteArray := prog_13_method_57_code
def yX11_one : MethodName := ⟨RX11, "one", "(I)I"⟩
abbrev cX11_look : ByteArray := prog_13_method_58_code
def yX11_look : MethodName := ⟨RX11, "look", "()V"⟩
abbrev cX11_best : ByteArray := prog_13_method_59_code
def yX11_best : MethodName := ⟨RX11, "best", "()I"⟩
abbrev cX11_bestCode : ByteArray := prog_13_method_60_code
def yX11_bestCode : MethodName := ⟨RX11, "bestCode", "(I)I"⟩
abbrev cX11_layBest : ByteArray := prog_13_method_61_code
def yX11_layBest : MethodName := ⟨RX11, "layBest", "()I"⟩
abbrev cX11_noPlace : ByteArray := prog_13_method_62_code
def yX11_noPlace : MethodName := ⟨RX11, "noPlace", "(I)Z"⟩
abbrev cX11_place : ByteArray := prog_13_method_63_code
def yX11_place : MethodName := ⟨RX11, "place", "(III)I"⟩
abbrev cX11_note : ByteArray := prog_13_method_64_code
def yX11_note : MethodName := ⟨RX11, "note", "(II)I"⟩
abbrev cX11_isDark : ByteArray := prog_13_method_65_code
def yX11_isDark : MethodName := ⟨RX11, "isDark", "(III)Z"⟩
abbrev cX11_foretoldOf : ByteArray := prog_13_method_66_code
def yX11_foretoldOf : MethodName := ⟨RX11, "foretoldOf", "(IIIII)I"⟩
abbrev cX11_foretold : ByteArray := prog_13_method_67_code
def yX11_foretold : MethodName := ⟨RX11, "foretold", "(IIIIZ)I"⟩
abbrev cX11_foretoldError : ByteArray := prog_13_method_68_code
def yX11_foretoldError : MethodName := ⟨RX11, "foretoldError", "(IIIII)I"⟩
abbrev cX11_event : ByteArray := prog_13_method_69_code
def yX11_event : MethodName := ⟨RX11, "event", "(IIII)I"⟩
abbrev cX11_takeAsOf : ByteArray := prog_13_method_70_code
def yX11_takeAsOf : MethodName := ⟨RX11, "takeAsOf", "(I)V"⟩
abbrev cX11_asOf : ByteArray := prog_13_method_71_code
def yX11_asOf : MethodName := ⟨RX11, "asOf", "(II)I"⟩
abbrev cX11_leg : ByteArray := prog_13_method_72_code
def yX11_leg : MethodName := ⟨RX11, "leg", "(IIIIII)I"⟩
abbrev cX11_layLeg : ByteArray := prog_13_method_73_code
def yX11_layLeg : MethodName := ⟨RX11, "layLeg", "(I)V"⟩
abbrev cX11_courseOf : ByteArray := prog_13_method_74_code
def yX11_courseOf : MethodName := ⟨RX11, "courseOf", "(I)I"⟩
abbrev cX11_restOf : ByteArray := prog_13_method_75_code
def yX11_restOf : MethodName := ⟨RX11, "restOf", "(I)I"⟩
abbrev cX11_secondOf : ByteArray := prog_13_method_76_code
def yX11_secondOf : MethodName := ⟨RX11, "secondOf", "(I)I"⟩
abbrev cX11_apartOf : ByteArray := prog_13_method_77_code
def yX11_apartOf : MethodName := ⟨RX11, "apartOf", "(I)I"⟩
abbrev cX11_about : ByteArray := prog_13_method_78_code
def yX11_about : MethodName := ⟨RX11, "about", "(II)I"⟩
abbrev cX11_home : ByteArray := prog_13_method_79_code
def yX11_home : MethodName := ⟨RX11, "home", "()I"⟩
abbrev cX11_courses : ByteArray := prog_13_method_80_code
def yX11_courses : MethodName := ⟨RX11, "courses", "()V"⟩
abbrev cX11_workedOf : ByteArray := prog_13_method_81_code
def yX11_workedOf : MethodName := ⟨RX11, "workedOf", "(IIIZ)I"⟩
abbrev cX11_worked : ByteArray := prog_13_method_82_code
def yX11_worked : MethodName := ⟨RX11, "worked", "(IIIZ)I"⟩
abbrev cX11_suns : ByteArray := prog_13_method_83_code
def yX11_suns : MethodName := ⟨RX11, "suns", "()I"⟩
abbrev cX11_middle : ByteArray := prog_13_method_84_code
def yX11_middle : MethodName := ⟨RX11, "middle", "(II)I"⟩
abbrev cX11_costOf : ByteArray := prog_13_method_85_code
def yX11_costOf : MethodName := ⟨RX11, "costOf", "(II)I"⟩
abbrev cX11_splitOf : ByteArray := prog_13_method_86_code
def yX11_splitOf : MethodName := ⟨RX11, "splitOf", "(I)I"⟩
abbrev cX11_split : ByteArray := prog_13_method_87_code
def yX11_split : MethodName := ⟨RX11, "split", "()I"⟩
abbrev cX11_splitCost : ByteArray := prog_13_method_88_code
def yX11_splitCost : MethodName := ⟨RX11, "splitCost", "()I"⟩
abbrev cX11_sunDay : ByteArray := prog_13_method_89_code
def yX11_sunDay : MethodName := ⟨RX11, "sunDay", "(I)I"⟩
abbrev cX11_jump : ByteArray := prog_13_method_90_code
def yX11_jump : MethodName := ⟨RX11, "jump", "(I)I"⟩
abbrev cX11_firstApart : ByteArray := prog_13_method_91_code
def yX11_firstApart : MethodName := ⟨RX11, "firstApart", "(I)I"⟩
abbrev cX11_nearer : ByteArray := prog_13_method_92_code
def yX11_nearer : MethodName := ⟨RX11, "nearer", "(I)I"⟩
abbrev cX11_wreck : ByteArray := prog_13_method_93_code
def yX11_wreck : MethodName := ⟨RX11, "wreck", "(III)I"⟩
abbrev cX11_count : ByteArray := prog_13_method_94_code
def yX11_count : MethodName := ⟨RX11, "count", "(I)I"⟩
def RJ9 : String := "java/lang/Math"
def TJ9 : u_T := fun k => match k with
  | _ => ("", "", "", false)
def tyJ9 : Nat → FieldType := fun k => match k with
  | _ => .int
theorem nmJ9 : ∀ a, a < 0 → ∀ b, b < 0 → a ≠ b → (TJ9 a).2.1 ≠ (TJ9 b).2.1 := by decide +kernel
theorem tyJ9_ok : ∀ k, k < 0 → parseFieldDescriptor (TJ9 k).2.2.1 = some (tyJ9 k) := by decide +kernel
abbrev cJ9_floorDiv_f86c9 : ByteArray := prog_14_method_49_code
def yJ9_floorDiv_f86c9 : MethodName := ⟨RJ9, "floorDiv", "(JJ)J"⟩
abbrev cJ9_floorMod_7cf53 : ByteArray := prog_14_method_50_code
def yJ9_floorMod_7cf53 : MethodName := ⟨RJ9, "floorMod", "(II)I"⟩
abbrev cJ9_abs_0f7a4 : ByteArray := prog_14_method_59_code
def yJ9_abs_0f7a4 : MethodName := ⟨RJ9, "abs", "(I)I"⟩
abbrev cJ9_max_7cf53 : ByteArray := prog_14_method_65_code
def yJ9_max_7cf53 : MethodName := ⟨RJ9, "max", "(II)I"⟩
abbrev cJ9_max_f86c9 : ByteArray := prog_14_method_66_code
def yJ9_max_f86c9 : MethodName := ⟨RJ9, "max", "(JJ)J"⟩
abbrev cJ9_min_f86c9 : ByteArray := prog_14_method_70_code
def yJ9_min_f86c9 : MethodName := ⟨RJ9, "min", "(JJ)J"⟩
def RJ10 : String := "java/lang/System"
def TJ10 : u_T := fun k => match k with
  | _ => ("", "", "", false)
def tyJ10 : Nat → FieldType := fun k => match k with
  | _ => .int
theorem nmJ10 : ∀ a, a < 0 → ∀ b, b < 0 → a ≠ b → (TJ10 a).2.1 ≠ (TJ10 b).2.1 := by decide +kernel
theorem tyJ10_ok : ∀ k, k < 0 → parseFieldDescriptor (TJ10 k).2.2.1 = some (tyJ10 k) := by decide +kernel
def RJ7 : String := "java/util/Arrays"
def TJ7 : u_T := fun k => match k with
  | _ => ("", "", "", false)
def tyJ7 : Nat → FieldType := fun k => match k with
  | _ => .int
theorem nmJ7 : ∀ a, a < 0 → ∀ b, b < 0 → a ≠ b → (TJ7 a).2.1 ≠ (TJ7 b).2.1 := by decide +kernel
theorem tyJ7_ok : ∀ k, k < 0 → parseFieldDescriptor (TJ7 k).2.2.1 = some (tyJ7 k) := by decide +kernel
abbrev cJ7_fill_53178 : ByteArray := prog_16_method_103_code
def yJ7_fill_53178 : MethodName := ⟨RJ7, "fill", "([II)V"⟩
def RL : String := "FooledNeedleLaw"
abbrev cL_law : ByteArray := code
def yL_law : MethodName := ⟨RL, "law", "([I)Z"⟩
abbrev vwCl : List vw_C := [(RX0, TX0, 1), (RX1, TX1, 3), (RX2, TX2, 9), (RX3, TX3, 7), (RX4, TX4, 5), (RX5, TX5, 6), (RX6, TX6, 7), (RX7, TX7, 2), (RX9, TX9, 4), (RX10, TX10, 12), (RX11, TX11, 32)]
end
section
/-! decode rows in a form that names the next place: fnD (straight), fnIf, fnIc, fnGo (branches, by their targets) -/
abbrev fnD (cc : ByteArray) (pc : Nat) (i : Instr) (n nx : Nat) : Prop := decode cc pc = .ok (i, n) ∧ pc + n = nx
abbrev fnIf (cc : ByteArray) (pc : Nat) (op : ClassFile.Cond) (tgt nx : Nat) : Prop := decode cc pc = .ok (.ifCond op ((tgt : Int) - (pc : Int)), 3) ∧ pc + 3 = nx
abbrev fnIc (cc : ByteArray) (pc : Nat) (op : ClassFile.Cond) (tgt nx : Nat) : Prop := decode cc pc = .ok (.if_icmp op ((tgt : Int) - (pc : Int)), 3) ∧ pc + 3 = nx
abbrev fnGo (cc : ByteArray) (pc tgt : Nat) : Prop := decode cc pc = .ok (.goto ((tgt : Int) - (pc : Int)), 3)
end
section
theorem dJ9_floorDiv_f86c9_0 : fnD cJ9_floorDiv_f86c9 0 (.lload_n 0) 1 1 := by decide +kernel
theorem dJ9_floorDiv_f86c9_1 : fnD cJ9_floorDiv_f86c9 1 (.lload_n 2) 1 2 := by decide +kernel
theorem dJ9_floorDiv_f86c9_2 : fnD cJ9_floorDiv_f86c9 2 (.ldiv) 1 3 := by decide +kernel
theorem dJ9_floorDiv_f86c9_3 : fnD cJ9_floorDiv_f86c9 3 (.lstore 4) 2 5 := by decide +kernel
theorem dJ9_floorDiv_f86c9_5 : fnD cJ9_floorDiv_f86c9 5 (.lload_n 0) 1 6 := by decide +kernel
theorem dJ9_floorDiv_f86c9_6 : fnD cJ9_floorDiv_f86c9 6 (.lload_n 2) 1 7 := by decide +kernel
theorem dJ9_floorDiv_f86c9_7 : fnD cJ9_floorDiv_f86c9 7 (.lxor) 1 8 := by decide +kernel
theorem dJ9_floorDiv_f86c9_8 : fnD cJ9_floorDiv_f86c9 8 (.lconst 0) 1 9 := by decide +kernel
theorem dJ9_floorDiv_f86c9_9 : fnD cJ9_floorDiv_f86c9 9 (.lcmp) 1 10 := by decide +kernel
theorem dJ9_floorDiv_f86c9_10 : fnIf cJ9_floorDiv_f86c9 10 .ge 27 13 := by decide +kernel
theorem dJ9_floorDiv_f86c9_13 : fnD cJ9_floorDiv_f86c9 13 (.lload 4) 2 15 := by decide +kernel
theorem dJ9_floorDiv_f86c9_15 : fnD cJ9_floorDiv_f86c9 15 (.lload_n 2) 1 16 := by decide +kernel
theorem dJ9_floorDiv_f86c9_16 : fnD cJ9_floorDiv_f86c9 16 (.lmul) 1 17 := by decide +kernel
theorem dJ9_floorDiv_f86c9_17 : fnD cJ9_floorDiv_f86c9 17 (.lload_n 0) 1 18 := by decide +kernel
theorem dJ9_floorDiv_f86c9_18 : fnD cJ9_floorDiv_f86c9 18 (.lcmp) 1 19 := by decide +kernel
theorem dJ9_floorDiv_f86c9_19 : fnIf cJ9_floorDiv_f86c9 19 .eq 27 22 := by decide +kernel
theorem dJ9_floorDiv_f86c9_22 : fnD cJ9_floorDiv_f86c9 22 (.lload 4) 2 24 := by decide +kernel
theorem dJ9_floorDiv_f86c9_24 : fnD cJ9_floorDiv_f86c9 24 (.lconst 1) 1 25 := by decide +kernel
theorem dJ9_floorDiv_f86c9_25 : fnD cJ9_floorDiv_f86c9 25 (.lsub) 1 26 := by decide +kernel
theorem dJ9_floorDiv_f86c9_26 : fnD cJ9_floorDiv_f86c9 26 (.lreturn) 1 27 := by decide +kernel
theorem dJ9_floorDiv_f86c9_27 : fnD cJ9_floorDiv_f86c9 27 (.lload 4) 2 29 := by decide +kernel
theorem dJ9_floorDiv_f86c9_29 : fnD cJ9_floorDiv_f86c9 29 (.lreturn) 1 30 := by decide +kernel
theorem dJ9_floorMod_7cf53_0 : fnD cJ9_floorMod_7cf53 0 (.iload_n 0) 1 1 := by decide +kernel
theorem dJ9_floorMod_7cf53_1 : fnD cJ9_floorMod_7cf53 1 (.iload_n 1) 1 2 := by decide +kernel
theorem dJ9_floorMod_7cf53_2 : fnD cJ9_floorMod_7cf53 2 (.irem) 1 3 := by decide +kernel
theorem dJ9_floorMod_7cf53_3 : fnD cJ9_floorMod_7cf53 3 (.istore_n 2) 1 4 := by decide +kernel
theorem dJ9_floorMod_7cf53_4 : fnD cJ9_floorMod_7cf53 4 (.iload_n 0) 1 5 := by decide +kernel
theorem dJ9_floorMod_7cf53_5 : fnD cJ9_floorMod_7cf53 5 (.iload_n 1) 1 6 := by decide +kernel
theorem dJ9_floorMod_7cf53_6 : fnD cJ9_floorMod_7cf53 6 (.ixor) 1 7 := by decide +kernel
theorem dJ9_floorMod_7cf53_7 : fnIf cJ9_floorMod_7cf53 7 .ge 18 10 := by decide +kernel
theorem dJ9_floorMod_7cf53_10 : fnD cJ9_floorMod_7cf53 10 (.iload_n 2) 1 11 := by decide +kernel
theorem dJ9_floorMod_7cf53_11 : fnIf cJ9_floorMod_7cf53 11 .eq 18 14 := by decide +kernel
theorem dJ9_floorMod_7cf53_14 : fnD cJ9_floorMod_7cf53 14 (.iload_n 2) 1 15 := by decide +kernel
theorem dJ9_floorMod_7cf53_15 : fnD cJ9_floorMod_7cf53 15 (.iload_n 1) 1 16 := by decide +kernel
theorem dJ9_floorMod_7cf53_16 : fnD cJ9_floorMod_7cf53 16 (.iadd) 1 17 := by decide +kernel
theorem dJ9_floorMod_7cf53_17 : fnD cJ9_floorMod_7cf53 17 (.ireturn) 1 18 := by decide +kernel
theorem dJ9_floorMod_7cf53_18 : fnD cJ9_floorMod_7cf53 18 (.iload_n 2) 1 19 := by decide +kernel
theorem dJ9_floorMod_7cf53_19 : fnD cJ9_floorMod_7cf53 19 (.ireturn) 1 20 := by decide +kernel
theorem dJ9_abs_0f7a4_0 : fnD cJ9_abs_0f7a4 0 (.iload_n 0) 1 1 := by decide +kernel
theorem dJ9_abs_0f7a4_1 : fnIf cJ9_abs_0f7a4 1 .ge 9 4 := by decide +kernel
theorem dJ9_abs_0f7a4_4 : fnD cJ9_abs_0f7a4 4 (.iload_n 0) 1 5 := by decide +kernel
theorem dJ9_abs_0f7a4_5 : fnD cJ9_abs_0f7a4 5 (.ineg) 1 6 := by decide +kernel
theorem dJ9_abs_0f7a4_6 : fnGo cJ9_abs_0f7a4 6 10 := by decide +kernel
theorem dJ9_abs_0f7a4_9 : fnD cJ9_abs_0f7a4 9 (.iload_n 0) 1 10 := by decide +kernel
theorem dJ9_abs_0f7a4_10 : fnD cJ9_abs_0f7a4 10 (.ireturn) 1 11 := by decide +kernel
theorem dJ9_max_7cf53_0 : fnD cJ9_max_7cf53 0 (.iload_n 0) 1 1 := by decide +kernel
theorem dJ9_max_7cf53_1 : fnD cJ9_max_7cf53 1 (.iload_n 1) 1 2 := by decide +kernel
theorem dJ9_max_7cf53_2 : fnIc cJ9_max_7cf53 2 .lt 9 5 := by decide +kernel
theorem dJ9_max_7cf53_5 : fnD cJ9_max_7cf53 5 (.iload_n 0) 1 6 := by decide +kernel
theorem dJ9_max_7cf53_6 : fnGo cJ9_max_7cf53 6 10 := by decide +kernel
theorem dJ9_max_7cf53_9 : fnD cJ9_max_7cf53 9 (.iload_n 1) 1 10 := by decide +kernel
theorem dJ9_max_7cf53_10 : fnD cJ9_max_7cf53 10 (.ireturn) 1 11 := by decide +kernel
theorem dJ9_max_f86c9_0 : fnD cJ9_max_f86c9 0 (.lload_n 0) 1 1 := by decide +kernel
theorem dJ9_max_f86c9_1 : fnD cJ9_max_f86c9 1 (.lload_n 2) 1 2 := by decide +kernel
theorem dJ9_max_f86c9_2 : fnD cJ9_max_f86c9 2 (.lcmp) 1 3 := by decide +kernel
theorem dJ9_max_f86c9_3 : fnIf cJ9_max_f86c9 3 .lt 10 6 := by decide +kernel
theorem dJ9_max_f86c9_6 : fnD cJ9_max_f86c9 6 (.lload_n 0) 1 7 := by decide +kernel
theorem dJ9_max_f86c9_7 : fnGo cJ9_max_f86c9 7 11 := by decide +kernel
theorem dJ9_max_f86c9_10 : fnD cJ9_max_f86c9 10 (.lload_n 2) 1 11 := by decide +kernel
theorem dJ9_max_f86c9_11 : fnD cJ9_max_f86c9 11 (.lreturn) 1 12 := by decide +kernel
theorem dJ9_min_f86c9_0 : fnD cJ9_min_f86c9 0 (.lload_n 0) 1 1 := by decide +kernel
theorem dJ9_min_f86c9_1 : fnD cJ9_min_f86c9 1 (.lload_n 2) 1 2 := by decide +kernel
theorem dJ9_min_f86c9_2 : fnD cJ9_min_f86c9 2 (.lcmp) 1 3 := by decide +kernel
theorem dJ9_min_f86c9_3 : fnIf cJ9_min_f86c9 3 .gt 10 6 := by decide +kernel
theorem dJ9_min_f86c9_6 : fnD cJ9_min_f86c9 6 (.lload_n 0) 1 7 := by decide +kernel
theorem dJ9_min_f86c9_7 : fnGo cJ9_min_f86c9 7 11 := by decide +kernel
theorem dJ9_min_f86c9_10 : fnD cJ9_min_f86c9 10 (.lload_n 2) 1 11 := by decide +kernel
theorem dJ9_min_f86c9_11 : fnD cJ9_min_f86c9 11 (.lreturn) 1 12 := by decide +kernel
theorem dJ7_fill_53178_0 : fnD cJ7_fill_53178 0 (.iconst 0) 1 1 := by decide +kernel
theorem dJ7_fill_53178_1 : fnD cJ7_fill_53178 1 (.istore_n 2) 1 2 := by decide +kernel
theorem dJ7_fill_53178_2 : fnD cJ7_fill_53178 2 (.aload_n 0) 1 3 := by decide +kernel
theorem dJ7_fill_53178_3 : fnD cJ7_fill_53178 3 (.arraylength) 1 4 := by decide +kernel
theorem dJ7_fill_53178_4 : fnD cJ7_fill_53178 4 (.istore_n 3) 1 5 := by decide +kernel
theorem dJ7_fill_53178_5 : fnD cJ7_fill_53178 5 (.iload_n 2) 1 6 := by decide +kernel
theorem dJ7_fill_53178_6 : fnD cJ7_fill_53178 6 (.iload_n 3) 1 7 := by decide +kernel
theorem dJ7_fill_53178_7 : fnIc cJ7_fill_53178 7 .ge 20 10 := by decide +kernel
theorem dJ7_fill_53178_10 : fnD cJ7_fill_53178 10 (.aload_n 0) 1 11 := by decide +kernel
theorem dJ7_fill_53178_11 : fnD cJ7_fill_53178 11 (.iload_n 2) 1 12 := by decide +kernel
theorem dJ7_fill_53178_12 : fnD cJ7_fill_53178 12 (.iload_n 1) 1 13 := by decide +kernel
theorem dJ7_fill_53178_13 : fnD cJ7_fill_53178 13 (.iastore) 1 14 := by decide +kernel
theorem dJ7_fill_53178_14 : fnD cJ7_fill_53178 14 (.iinc 2 1) 3 17 := by decide +kernel
theorem dJ7_fill_53178_17 : fnGo cJ7_fill_53178 17 5 := by decide +kernel
theorem dJ7_fill_53178_20 : fnD cJ7_fill_53178 20 (.return_) 1 21 := by decide +kernel
theorem dX0_init_0 : fnD cX0_init 0 (.aload_n 0) 1 1 := by decide +kernel
theorem dX0_init_1 : fnD cX0_init 1 (.invokespecial 3) 3 4 := by decide +kernel
theorem dX0_init_4 : fnD cX0_init 4 (.aload_n 0) 1 5 := by decide +kernel
theorem dX0_init_5 : fnD cX0_init 5 (.bipush 6) 2 7 := by decide +kernel
theorem dX0_init_7 : fnD cX0_init 7 (.newarray .int) 2 9 := by decide +kernel
theorem dX0_init_9 : fnD cX0_init 9 (.putfield 9) 3 12 := by decide +kernel
theorem dX0_init_12 : fnD cX0_init 12 (.return_) 1 13 := by decide +kernel
theorem dX0_copyFrom_0 : fnD cX0_copyFrom 0 (.aload_n 1) 1 1 := by decide +kernel
theorem dX0_copyFrom_1 : fnD cX0_copyFrom 1 (.getfield 9) 3 4 := by decide +kernel
theorem dX0_copyFrom_4 : fnD cX0_copyFrom 4 (.iconst 0) 1 5 := by decide +kernel
theorem dX0_copyFrom_5 : fnD cX0_copyFrom 5 (.aload_n 0) 1 6 := by decide +kernel
theorem dX0_copyFrom_6 : fnD cX0_copyFrom 6 (.getfield 9) 3 9 := by decide +kernel
theorem dX0_copyFrom_9 : fnD cX0_copyFrom 9 (.iconst 0) 1 10 := by decide +kernel
theorem dX0_copyFrom_10 : fnD cX0_copyFrom 10 (.bipush 6) 2 12 := by decide +kernel
theorem dX0_copyFrom_12 : fnD cX0_copyFrom 12 (.invokestatic 15) 3 15 := by decide +kernel
theorem dX0_copyFrom_15 : fnD cX0_copyFrom 15 (.return_) 1 16 := by decide +kernel
theorem dX0_errorOn_0 : fnD cX0_errorOn 0 (.aload_n 0) 1 1 := by decide +kernel
theorem dX0_errorOn_1 : fnD cX0_errorOn 1 (.getfield 9) 3 4 := by decide +kernel
theorem dX0_errorOn_4 : fnD cX0_errorOn 4 (.iconst 1) 1 5 := by decide +kernel
theorem dX0_errorOn_5 : fnD cX0_errorOn 5 (.iaload) 1 6 := by decide +kernel
theorem dX0_errorOn_6 : fnD cX0_errorOn 6 (.iload_n 1) 1 7 := by decide +kernel
theorem dX0_errorOn_7 : fnD cX0_errorOn 7 (.invokestatic 21) 3 10 := by decide +kernel
theorem dX0_errorOn_10 : fnD cX0_errorOn 10 (.imul) 1 11 := by decide +kernel
theorem dX0_errorOn_11 : fnD cX0_errorOn 11 (.aload_n 0) 1 12 := by decide +kernel
theorem dX0_errorOn_12 : fnD cX0_errorOn 12 (.getfield 9) 3 15 := by decide +kernel
theorem dX0_errorOn_15 : fnD cX0_errorOn 15 (.iconst 2) 1 16 := by decide +kernel
theorem dX0_errorOn_16 : fnD cX0_errorOn 16 (.iaload) 1 17 := by decide +kernel
theorem dX0_errorOn_17 : fnD cX0_errorOn 17 (.iload_n 1) 1 18 := by decide +kernel
theorem dX0_errorOn_18 : fnD cX0_errorOn 18 (.invokestatic 27) 3 21 := by decide +kernel
theorem dX0_errorOn_21 : fnD cX0_errorOn 21 (.imul) 1 22 := by decide +kernel
theorem dX0_errorOn_22 : fnD cX0_errorOn 22 (.iadd) 1 23 := by decide +kernel
theorem dX0_errorOn_23 : fnD cX0_errorOn 23 (.istore_n 3) 1 24 := by decide +kernel
theorem dX0_errorOn_24 : fnD cX0_errorOn 24 (.aload_n 0) 1 25 := by decide +kernel
theorem dX0_errorOn_25 : fnD cX0_errorOn 25 (.getfield 9) 3 28 := by decide +kernel
theorem dX0_errorOn_28 : fnD cX0_errorOn 28 (.iconst 3) 1 29 := by decide +kernel
theorem dX0_errorOn_29 : fnD cX0_errorOn 29 (.iaload) 1 30 := by decide +kernel
theorem dX0_errorOn_30 : fnD cX0_errorOn 30 (.iconst 2) 1 31 := by decide +kernel
theorem dX0_errorOn_31 : fnD cX0_errorOn 31 (.iload_n 1) 1 32 := by decide +kernel
theorem dX0_errorOn_32 : fnD cX0_errorOn 32 (.imul) 1 33 := by decide +kernel
theorem dX0_errorOn_33 : fnD cX0_errorOn 33 (.invokestatic 21) 3 36 := by decide +kernel
theorem dX0_errorOn_36 : fnD cX0_errorOn 36 (.imul) 1 37 := by decide +kernel
theorem dX0_errorOn_37 : fnD cX0_errorOn 37 (.aload_n 0) 1 38 := by decide +kernel
theorem dX0_errorOn_38 : fnD cX0_errorOn 38 (.getfield 9) 3 41 := by decide +kernel
theorem dX0_errorOn_41 : fnD cX0_errorOn 41 (.iconst 4) 1 42 := by decide +kernel
theorem dX0_errorOn_42 : fnD cX0_errorOn 42 (.iaload) 1 43 := by decide +kernel
theorem dX0_errorOn_43 : fnD cX0_errorOn 43 (.iconst 2) 1 44 := by decide +kernel
theorem dX0_errorOn_44 : fnD cX0_errorOn 44 (.iload_n 1) 1 45 := by decide +kernel
theorem dX0_errorOn_45 : fnD cX0_errorOn 45 (.imul) 1 46 := by decide +kernel
theorem dX0_errorOn_46 : fnD cX0_errorOn 46 (.invokestatic 27) 3 49 := by decide +kernel
theorem dX0_errorOn_49 : fnD cX0_errorOn 49 (.imul) 1 50 := by decide +kernel
theorem dX0_errorOn_50 : fnD cX0_errorOn 50 (.iadd) 1 51 := by decide +kernel
theorem dX0_errorOn_51 : fnD cX0_errorOn 51 (.istore 4) 2 53 := by decide +kernel
theorem dX0_errorOn_53 : fnD cX0_errorOn 53 (.aload_n 0) 1 54 := by decide +kernel
theorem dX0_errorOn_54 : fnD cX0_errorOn 54 (.getfield 9) 3 57 := by decide +kernel
theorem dX0_errorOn_57 : fnD cX0_errorOn 57 (.iconst 5) 1 58 := by decide +kernel
theorem dX0_errorOn_58 : fnD cX0_errorOn 58 (.iaload) 1 59 := by decide +kernel
theorem dX0_errorOn_59 : fnD cX0_errorOn 59 (.iload_n 1) 1 60 := by decide +kernel
theorem dX0_errorOn_60 : fnD cX0_errorOn 60 (.invokestatic 27) 3 63 := by decide +kernel
theorem dX0_errorOn_63 : fnD cX0_errorOn 63 (.imul) 1 64 := by decide +kernel
theorem dX0_errorOn_64 : fnD cX0_errorOn 64 (.iload_n 2) 1 65 := by decide +kernel
theorem dX0_errorOn_65 : fnD cX0_errorOn 65 (.imul) 1 66 := by decide +kernel
theorem dX0_errorOn_66 : fnD cX0_errorOn 66 (.bipush 10) 2 68 := by decide +kernel
theorem dX0_errorOn_68 : fnD cX0_errorOn 68 (.idiv) 1 69 := by decide +kernel
theorem dX0_errorOn_69 : fnD cX0_errorOn 69 (.istore 5) 2 71 := by decide +kernel
theorem dX0_errorOn_71 : fnD cX0_errorOn 71 (.aload_n 0) 1 72 := by decide +kernel
theorem dX0_errorOn_72 : fnD cX0_errorOn 72 (.getfield 9) 3 75 := by decide +kernel
theorem dX0_errorOn_75 : fnD cX0_errorOn 75 (.iconst 0) 1 76 := by decide +kernel
theorem dX0_errorOn_76 : fnD cX0_errorOn 76 (.iaload) 1 77 := by decide +kernel
theorem dX0_errorOn_77 : fnD cX0_errorOn 77 (.iload_n 3) 1 78 := by decide +kernel
theorem dX0_errorOn_78 : fnD cX0_errorOn 78 (.i2l) 1 79 := by decide +kernel
theorem dX0_errorOn_79 : fnD cX0_errorOn 79 (.iload 4) 2 81 := by decide +kernel
theorem dX0_errorOn_81 : fnD cX0_errorOn 81 (.i2l) 1 82 := by decide +kernel
theorem dX0_errorOn_82 : fnD cX0_errorOn 82 (.ladd) 1 83 := by decide +kernel
theorem dX0_errorOn_83 : fnD cX0_errorOn 83 (.iload 5) 2 85 := by decide +kernel
theorem dX0_errorOn_85 : fnD cX0_errorOn 85 (.i2l) 1 86 := by decide +kernel
theorem dX0_errorOn_86 : fnD cX0_errorOn 86 (.ladd) 1 87 := by decide +kernel
theorem dX0_errorOn_87 : fnD cX0_errorOn 87 (.ldc2_w 30) 3 90 := by decide +kernel
theorem dX0_errorOn_90 : fnD cX0_errorOn 90 (.invokestatic 32) 3 93 := by decide +kernel
theorem dX0_errorOn_93 : fnD cX0_errorOn 93 (.l2i) 1 94 := by decide +kernel
theorem dX0_errorOn_94 : fnD cX0_errorOn 94 (.iadd) 1 95 := by decide +kernel
theorem dX0_errorOn_95 : fnD cX0_errorOn 95 (.ireturn) 1 96 := by decide +kernel
theorem dX0_errorOfReading_0 : fnD cX0_errorOfReading 0 (.iload_n 1) 1 1 := by decide +kernel
theorem dX0_errorOfReading_1 : fnD cX0_errorOfReading 1 (.bipush 100) 2 3 := by decide +kernel
theorem dX0_errorOfReading_3 : fnD cX0_errorOfReading 3 (.idiv) 1 4 := by decide +kernel
theorem dX0_errorOfReading_4 : fnD cX0_errorOfReading 4 (.istore_n 3) 1 5 := by decide +kernel
theorem dX0_errorOfReading_5 : fnD cX0_errorOfReading 5 (.aload_n 0) 1 6 := by decide +kernel
theorem dX0_errorOfReading_6 : fnD cX0_errorOfReading 6 (.iload_n 3) 1 7 := by decide +kernel
theorem dX0_errorOfReading_7 : fnD cX0_errorOfReading 7 (.iload_n 2) 1 8 := by decide +kernel
theorem dX0_errorOfReading_8 : fnD cX0_errorOfReading 8 (.invokevirtual 36) 3 11 := by decide +kernel
theorem dX0_errorOfReading_11 : fnD cX0_errorOfReading 11 (.aload_n 0) 1 12 := by decide +kernel
theorem dX0_errorOfReading_12 : fnD cX0_errorOfReading 12 (.iload_n 3) 1 13 := by decide +kernel
theorem dX0_errorOfReading_13 : fnD cX0_errorOfReading 13 (.iconst 1) 1 14 := by decide +kernel
theorem dX0_errorOfReading_14 : fnD cX0_errorOfReading 14 (.iadd) 1 15 := by decide +kernel
theorem dX0_errorOfReading_15 : fnD cX0_errorOfReading 15 (.bipush 32) 2 17 := by decide +kernel
theorem dX0_errorOfReading_17 : fnD cX0_errorOfReading 17 (.irem) 1 18 := by decide +kernel
theorem dX0_errorOfReading_18 : fnD cX0_errorOfReading 18 (.iload_n 2) 1 19 := by decide +kernel
theorem dX0_errorOfReading_19 : fnD cX0_errorOfReading 19 (.invokevirtual 36) 3 22 := by decide +kernel
theorem dX0_errorOfReading_22 : fnD cX0_errorOfReading 22 (.iload_n 1) 1 23 := by decide +kernel
theorem dX0_errorOfReading_23 : fnD cX0_errorOfReading 23 (.bipush 100) 2 25 := by decide +kernel
theorem dX0_errorOfReading_25 : fnD cX0_errorOfReading 25 (.irem) 1 26 := by decide +kernel
theorem dX0_errorOfReading_26 : fnD cX0_errorOfReading 26 (.invokestatic 40) 3 29 := by decide +kernel
theorem dX0_errorOfReading_29 : fnD cX0_errorOfReading 29 (.ireturn) 1 30 := by decide +kernel
theorem dX0_trueOfReading_0 : fnD cX0_trueOfReading 0 (.iload_n 1) 1 1 := by decide +kernel
theorem dX0_trueOfReading_1 : fnD cX0_trueOfReading 1 (.aload_n 0) 1 2 := by decide +kernel
theorem dX0_trueOfReading_2 : fnD cX0_trueOfReading 2 (.iload_n 1) 1 3 := by decide +kernel
theorem dX0_trueOfReading_3 : fnD cX0_trueOfReading 3 (.iload_n 2) 1 4 := by decide +kernel
theorem dX0_trueOfReading_4 : fnD cX0_trueOfReading 4 (.invokevirtual 44) 3 7 := by decide +kernel
theorem dX0_trueOfReading_7 : fnD cX0_trueOfReading 7 (.iadd) 1 8 := by decide +kernel
theorem dX0_trueOfReading_8 : fnD cX0_trueOfReading 8 (.sipush 3200) 3 11 := by decide +kernel
theorem dX0_trueOfReading_11 : fnD cX0_trueOfReading 11 (.invokestatic 47) 3 14 := by decide +kernel
theorem dX0_trueOfReading_14 : fnD cX0_trueOfReading 14 (.ireturn) 1 15 := by decide +kernel
theorem dX0_draw_0 : fnD cX0_draw 0 (.iconst 0) 1 1 := by decide +kernel
theorem dX0_draw_1 : fnD cX0_draw 1 (.istore_n 3) 1 2 := by decide +kernel
theorem dX0_draw_2 : fnD cX0_draw 2 (.iload_n 3) 1 3 := by decide +kernel
theorem dX0_draw_3 : fnD cX0_draw 3 (.aload_n 1) 1 4 := by decide +kernel
theorem dX0_draw_4 : fnD cX0_draw 4 (.arraylength) 1 5 := by decide +kernel
theorem dX0_draw_5 : fnIc cX0_draw 5 .ge 23 8 := by decide +kernel
theorem dX0_draw_8 : fnD cX0_draw 8 (.aload_n 1) 1 9 := by decide +kernel
theorem dX0_draw_9 : fnD cX0_draw 9 (.iload_n 3) 1 10 := by decide +kernel
theorem dX0_draw_10 : fnD cX0_draw 10 (.aload_n 0) 1 11 := by decide +kernel
theorem dX0_draw_11 : fnD cX0_draw 11 (.iload_n 3) 1 12 := by decide +kernel
theorem dX0_draw_12 : fnD cX0_draw 12 (.iload_n 2) 1 13 := by decide +kernel
theorem dX0_draw_13 : fnD cX0_draw 13 (.invokevirtual 36) 3 16 := by decide +kernel
theorem dX0_draw_16 : fnD cX0_draw 16 (.iastore) 1 17 := by decide +kernel
theorem dX0_draw_17 : fnD cX0_draw 17 (.iinc 3 1) 3 20 := by decide +kernel
theorem dX0_draw_20 : fnGo cX0_draw 20 2 := by decide +kernel
theorem dX0_draw_23 : fnD cX0_draw 23 (.return_) 1 24 := by decide +kernel
theorem dX0_worstHeading_0 : fnD cX0_worstHeading 0 (.iconst (-1)) 1 1 := by decide +kernel
theorem dX0_worstHeading_1 : fnD cX0_worstHeading 1 (.istore_n 1) 1 2 := by decide +kernel
theorem dX0_worstHeading_2 : fnD cX0_worstHeading 2 (.iconst 0) 1 3 := by decide +kernel
theorem dX0_worstHeading_3 : fnD cX0_worstHeading 3 (.istore_n 2) 1 4 := by decide +kernel
theorem dX0_worstHeading_4 : fnD cX0_worstHeading 4 (.iconst 0) 1 5 := by decide +kernel
theorem dX0_worstHeading_5 : fnD cX0_worstHeading 5 (.istore_n 3) 1 6 := by decide +kernel
theorem dX0_worstHeading_6 : fnD cX0_worstHeading 6 (.iload_n 3) 1 7 := by decide +kernel
theorem dX0_worstHeading_7 : fnD cX0_worstHeading 7 (.bipush 32) 2 9 := by decide +kernel
theorem dX0_worstHeading_9 : fnIc cX0_worstHeading 9 .ge 40 12 := by decide +kernel
theorem dX0_worstHeading_12 : fnD cX0_worstHeading 12 (.aload_n 0) 1 13 := by decide +kernel
theorem dX0_worstHeading_13 : fnD cX0_worstHeading 13 (.iload_n 3) 1 14 := by decide +kernel
theorem dX0_worstHeading_14 : fnD cX0_worstHeading 14 (.iconst 0) 1 15 := by decide +kernel
theorem dX0_worstHeading_15 : fnD cX0_worstHeading 15 (.invokevirtual 36) 3 18 := by decide +kernel
theorem dX0_worstHeading_18 : fnD cX0_worstHeading 18 (.invokestatic 52) 3 21 := by decide +kernel
theorem dX0_worstHeading_21 : fnD cX0_worstHeading 21 (.istore 4) 2 23 := by decide +kernel
theorem dX0_worstHeading_23 : fnD cX0_worstHeading 23 (.iload 4) 2 25 := by decide +kernel
theorem dX0_worstHeading_25 : fnD cX0_worstHeading 25 (.iload_n 1) 1 26 := by decide +kernel
theorem dX0_worstHeading_26 : fnIc cX0_worstHeading 26 .le 34 29 := by decide +kernel
theorem dX0_worstHeading_29 : fnD cX0_worstHeading 29 (.iload 4) 2 31 := by decide +kernel
theorem dX0_worstHeading_31 : fnD cX0_worstHeading 31 (.istore_n 1) 1 32 := by decide +kernel
theorem dX0_worstHeading_32 : fnD cX0_worstHeading 32 (.iload_n 3) 1 33 := by decide +kernel
theorem dX0_worstHeading_33 : fnD cX0_worstHeading 33 (.istore_n 2) 1 34 := by decide +kernel
theorem dX0_worstHeading_34 : fnD cX0_worstHeading 34 (.iinc 3 1) 3 37 := by decide +kernel
theorem dX0_worstHeading_37 : fnGo cX0_worstHeading 37 6 := by decide +kernel
theorem dX0_worstHeading_40 : fnD cX0_worstHeading 40 (.iload_n 2) 1 41 := by decide +kernel
theorem dX0_worstHeading_41 : fnD cX0_worstHeading 41 (.ireturn) 1 42 := by decide +kernel
theorem dX1_init_0 : fnD cX1_init 0 (.aload_n 0) 1 1 := by decide +kernel
theorem dX1_init_1 : fnD cX1_init 1 (.invokespecial 3) 3 4 := by decide +kernel
theorem dX1_init_4 : fnD cX1_init 4 (.aload_n 0) 1 5 := by decide +kernel
theorem dX1_init_5 : fnD cX1_init 5 (.bipush 20) 2 7 := by decide +kernel
theorem dX1_init_7 : fnD cX1_init 7 (.newarray .int) 2 9 := by decide +kernel
theorem dX1_init_9 : fnD cX1_init 9 (.putfield 9) 3 12 := by decide +kernel
theorem dX1_init_12 : fnD cX1_init 12 (.aload_n 0) 1 13 := by decide +kernel
theorem dX1_init_13 : fnD cX1_init 13 (.bipush 20) 2 15 := by decide +kernel
theorem dX1_init_15 : fnD cX1_init 15 (.newarray .int) 2 17 := by decide +kernel
theorem dX1_init_17 : fnD cX1_init 17 (.putfield 15) 3 20 := by decide +kernel
theorem dX1_init_20 : fnD cX1_init 20 (.aload_n 0) 1 21 := by decide +kernel
theorem dX1_init_21 : fnD cX1_init 21 (.bipush 20) 2 23 := by decide +kernel
theorem dX1_init_23 : fnD cX1_init 23 (.newarray .int) 2 25 := by decide +kernel
theorem dX1_init_25 : fnD cX1_init 25 (.putfield 18) 3 28 := by decide +kernel
theorem dX1_init_28 : fnD cX1_init 28 (.return_) 1 29 := by decide +kernel
theorem dX1_write_0 : fnD cX1_write 0 (.aload_n 0) 1 1 := by decide +kernel
theorem dX1_write_1 : fnD cX1_write 1 (.getfield 18) 3 4 := by decide +kernel
theorem dX1_write_4 : fnD cX1_write 4 (.iload_n 1) 1 5 := by decide +kernel
theorem dX1_write_5 : fnD cX1_write 5 (.iaload) 1 6 := by decide +kernel
theorem dX1_write_6 : fnD cX1_write 6 (.istore 5) 2 8 := by decide +kernel
theorem dX1_write_8 : fnD cX1_write 8 (.aload_n 0) 1 9 := by decide +kernel
theorem dX1_write_9 : fnD cX1_write 9 (.getfield 9) 3 12 := by decide +kernel
theorem dX1_write_12 : fnD cX1_write 12 (.iload_n 1) 1 13 := by decide +kernel
theorem dX1_write_13 : fnD cX1_write 13 (.iload_n 2) 1 14 := by decide +kernel
theorem dX1_write_14 : fnD cX1_write 14 (.iastore) 1 15 := by decide +kernel
theorem dX1_write_15 : fnD cX1_write 15 (.aload_n 0) 1 16 := by decide +kernel
theorem dX1_write_16 : fnD cX1_write 16 (.getfield 15) 3 19 := by decide +kernel
theorem dX1_write_19 : fnD cX1_write 19 (.iload_n 1) 1 20 := by decide +kernel
theorem dX1_write_20 : fnD cX1_write 20 (.iload_n 3) 1 21 := by decide +kernel
theorem dX1_write_21 : fnD cX1_write 21 (.iastore) 1 22 := by decide +kernel
theorem dX1_write_22 : fnD cX1_write 22 (.aload_n 0) 1 23 := by decide +kernel
theorem dX1_write_23 : fnD cX1_write 23 (.getfield 18) 3 26 := by decide +kernel
theorem dX1_write_26 : fnD cX1_write 26 (.iload_n 1) 1 27 := by decide +kernel
theorem dX1_write_27 : fnD cX1_write 27 (.iload 4) 2 29 := by decide +kernel
theorem dX1_write_29 : fnD cX1_write 29 (.iastore) 1 30 := by decide +kernel
theorem dX1_write_30 : fnD cX1_write 30 (.iload 5) 2 32 := by decide +kernel
theorem dX1_write_32 : fnD cX1_write 32 (.ireturn) 1 33 := by decide +kernel
theorem dX1_putTo_0 : fnD cX1_putTo 0 (.iconst 0) 1 1 := by decide +kernel
theorem dX1_putTo_1 : fnD cX1_putTo 1 (.istore_n 3) 1 2 := by decide +kernel
theorem dX1_putTo_2 : fnD cX1_putTo 2 (.iload_n 3) 1 3 := by decide +kernel
theorem dX1_putTo_3 : fnD cX1_putTo 3 (.bipush 20) 2 5 := by decide +kernel
theorem dX1_putTo_5 : fnIc cX1_putTo 5 .ge 44 8 := by decide +kernel
theorem dX1_putTo_8 : fnD cX1_putTo 8 (.aload_n 0) 1 9 := by decide +kernel
theorem dX1_putTo_9 : fnD cX1_putTo 9 (.getfield 9) 3 12 := by decide +kernel
theorem dX1_putTo_12 : fnD cX1_putTo 12 (.iload_n 3) 1 13 := by decide +kernel
theorem dX1_putTo_13 : fnD cX1_putTo 13 (.iaload) 1 14 := by decide +kernel
theorem dX1_putTo_14 : fnD cX1_putTo 14 (.iload_n 2) 1 15 := by decide +kernel
theorem dX1_putTo_15 : fnIc cX1_putTo 15 .gt 38 18 := by decide +kernel
theorem dX1_putTo_18 : fnD cX1_putTo 18 (.aload_n 1) 1 19 := by decide +kernel
theorem dX1_putTo_19 : fnD cX1_putTo 19 (.getfield 21) 3 22 := by decide +kernel
theorem dX1_putTo_22 : fnD cX1_putTo 22 (.aload_n 0) 1 23 := by decide +kernel
theorem dX1_putTo_23 : fnD cX1_putTo 23 (.getfield 15) 3 26 := by decide +kernel
theorem dX1_putTo_26 : fnD cX1_putTo 26 (.iload_n 3) 1 27 := by decide +kernel
theorem dX1_putTo_27 : fnD cX1_putTo 27 (.iaload) 1 28 := by decide +kernel
theorem dX1_putTo_28 : fnD cX1_putTo 28 (.dup2) 1 29 := by decide +kernel
theorem dX1_putTo_29 : fnD cX1_putTo 29 (.iaload) 1 30 := by decide +kernel
theorem dX1_putTo_30 : fnD cX1_putTo 30 (.aload_n 0) 1 31 := by decide +kernel
theorem dX1_putTo_31 : fnD cX1_putTo 31 (.getfield 18) 3 34 := by decide +kernel
theorem dX1_putTo_34 : fnD cX1_putTo 34 (.iload_n 3) 1 35 := by decide +kernel
theorem dX1_putTo_35 : fnD cX1_putTo 35 (.iaload) 1 36 := by decide +kernel
theorem dX1_putTo_36 : fnD cX1_putTo 36 (.iadd) 1 37 := by decide +kernel
theorem dX1_putTo_37 : fnD cX1_putTo 37 (.iastore) 1 38 := by decide +kernel
theorem dX1_putTo_38 : fnD cX1_putTo 38 (.iinc 3 1) 3 41 := by decide +kernel
theorem dX1_putTo_41 : fnGo cX1_putTo 41 2 := by decide +kernel
theorem dX1_putTo_44 : fnD cX1_putTo 44 (.return_) 1 45 := by decide +kernel
theorem dX1_howMany_0 : fnD cX1_howMany 0 (.iconst 0) 1 1 := by decide +kernel
theorem dX1_howMany_1 : fnD cX1_howMany 1 (.istore_n 1) 1 2 := by decide +kernel
theorem dX1_howMany_2 : fnD cX1_howMany 2 (.iconst 0) 1 3 := by decide +kernel
theorem dX1_howMany_3 : fnD cX1_howMany 3 (.istore_n 2) 1 4 := by decide +kernel
theorem dX1_howMany_4 : fnD cX1_howMany 4 (.iload_n 2) 1 5 := by decide +kernel
theorem dX1_howMany_5 : fnD cX1_howMany 5 (.bipush 20) 2 7 := by decide +kernel
theorem dX1_howMany_7 : fnIc cX1_howMany 7 .ge 33 10 := by decide +kernel
theorem dX1_howMany_10 : fnD cX1_howMany 10 (.iload_n 1) 1 11 := by decide +kernel
theorem dX1_howMany_11 : fnD cX1_howMany 11 (.aload_n 0) 1 12 := by decide +kernel
theorem dX1_howMany_12 : fnD cX1_howMany 12 (.getfield 18) 3 15 := by decide +kernel
theorem dX1_howMany_15 : fnD cX1_howMany 15 (.iload_n 2) 1 16 := by decide +kernel
theorem dX1_howMany_16 : fnD cX1_howMany 16 (.iaload) 1 17 := by decide +kernel
theorem dX1_howMany_17 : fnIf cX1_howMany 17 .ne 24 20 := by decide +kernel
theorem dX1_howMany_20 : fnD cX1_howMany 20 (.iconst 0) 1 21 := by decide +kernel
theorem dX1_howMany_21 : fnGo cX1_howMany 21 25 := by decide +kernel
theorem dX1_howMany_24 : fnD cX1_howMany 24 (.iconst 1) 1 25 := by decide +kernel
theorem dX1_howMany_25 : fnD cX1_howMany 25 (.iadd) 1 26 := by decide +kernel
theorem dX1_howMany_26 : fnD cX1_howMany 26 (.istore_n 1) 1 27 := by decide +kernel
theorem dX1_howMany_27 : fnD cX1_howMany 27 (.iinc 2 1) 3 30 := by decide +kernel
theorem dX1_howMany_30 : fnGo cX1_howMany 30 4 := by decide +kernel
theorem dX1_howMany_33 : fnD cX1_howMany 33 (.iload_n 1) 1 34 := by decide +kernel
theorem dX1_howMany_34 : fnD cX1_howMany 34 (.ireturn) 1 35 := by decide +kernel
theorem dX2_init_0 : fnD cX2_init 0 (.aload_n 0) 1 1 := by decide +kernel
theorem dX2_init_1 : fnD cX2_init 1 (.invokespecial 3) 3 4 := by decide +kernel
theorem dX2_init_4 : fnD cX2_init 4 (.aload_n 0) 1 5 := by decide +kernel
theorem dX2_init_5 : fnD cX2_init 5 (.bipush 97) 2 7 := by decide +kernel
theorem dX2_init_7 : fnD cX2_init 7 (.newarray .int) 2 9 := by decide +kernel
theorem dX2_init_9 : fnD cX2_init 9 (.putfield 9) 3 12 := by decide +kernel
theorem dX2_init_12 : fnD cX2_init 12 (.aload_n 0) 1 13 := by decide +kernel
theorem dX2_init_13 : fnD cX2_init 13 (.bipush 97) 2 15 := by decide +kernel
theorem dX2_init_15 : fnD cX2_init 15 (.newarray .boolean) 2 17 := by decide +kernel
theorem dX2_init_17 : fnD cX2_init 17 (.putfield 15) 3 20 := by decide +kernel
theorem dX2_init_20 : fnD cX2_init 20 (.aload_n 0) 1 21 := by decide +kernel
theorem dX2_init_21 : fnD cX2_init 21 (.iconst 0) 1 22 := by decide +kernel
theorem dX2_init_22 : fnD cX2_init 22 (.putfield 19) 3 25 := by decide +kernel
theorem dX2_init_25 : fnD cX2_init 25 (.aload_n 0) 1 26 := by decide +kernel
theorem dX2_init_26 : fnD cX2_init 26 (.iconst 0) 1 27 := by decide +kernel
theorem dX2_init_27 : fnD cX2_init 27 (.putfield 23) 3 30 := by decide +kernel
theorem dX2_init_30 : fnD cX2_init 30 (.aload_n 0) 1 31 := by decide +kernel
theorem dX2_init_31 : fnD cX2_init 31 (.iconst 0) 1 32 := by decide +kernel
theorem dX2_init_32 : fnD cX2_init 32 (.putfield 26) 3 35 := by decide +kernel
theorem dX2_init_35 : fnD cX2_init 35 (.aload_n 0) 1 36 := by decide +kernel
theorem dX2_init_36 : fnD cX2_init 36 (.iconst 0) 1 37 := by decide +kernel
theorem dX2_init_37 : fnD cX2_init 37 (.putfield 29) 3 40 := by decide +kernel
theorem dX2_init_40 : fnD cX2_init 40 (.aload_n 0) 1 41 := by decide +kernel
theorem dX2_init_41 : fnD cX2_init 41 (.iconst 0) 1 42 := by decide +kernel
theorem dX2_init_42 : fnD cX2_init 42 (.putfield 32) 3 45 := by decide +kernel
theorem dX2_init_45 : fnD cX2_init 45 (.aload_n 0) 1 46 := by decide +kernel
theorem dX2_init_46 : fnD cX2_init 46 (.iconst 0) 1 47 := by decide +kernel
theorem dX2_init_47 : fnD cX2_init 47 (.putfield 35) 3 50 := by decide +kernel
theorem dX2_init_50 : fnD cX2_init 50 (.aload_n 0) 1 51 := by decide +kernel
theorem dX2_init_51 : fnD cX2_init 51 (.iconst 0) 1 52 := by decide +kernel
theorem dX2_init_52 : fnD cX2_init 52 (.putfield 38) 3 55 := by decide +kernel
theorem dX2_init_55 : fnD cX2_init 55 (.return_) 1 56 := by decide +kernel
theorem dX2_restInAll_0 : fnD cX2_restInAll 0 (.aload_n 0) 1 1 := by decide +kernel
theorem dX2_restInAll_1 : fnD cX2_restInAll 1 (.getfield 29) 3 4 := by decide +kernel
theorem dX2_restInAll_4 : fnD cX2_restInAll 4 (.aload_n 0) 1 5 := by decide +kernel
theorem dX2_restInAll_5 : fnD cX2_restInAll 5 (.getfield 35) 3 8 := by decide +kernel
theorem dX2_restInAll_8 : fnD cX2_restInAll 8 (.iadd) 1 9 := by decide +kernel
theorem dX2_restInAll_9 : fnD cX2_restInAll 9 (.ireturn) 1 10 := by decide +kernel
theorem dX2_magnetsInAll_0 : fnD cX2_magnetsInAll 0 (.aload_n 0) 1 1 := by decide +kernel
theorem dX2_magnetsInAll_1 : fnD cX2_magnetsInAll 1 (.getfield 32) 3 4 := by decide +kernel
theorem dX2_magnetsInAll_4 : fnD cX2_magnetsInAll 4 (.aload_n 0) 1 5 := by decide +kernel
theorem dX2_magnetsInAll_5 : fnD cX2_magnetsInAll 5 (.getfield 38) 3 8 := by decide +kernel
theorem dX2_magnetsInAll_8 : fnD cX2_magnetsInAll 8 (.iadd) 1 9 := by decide +kernel
theorem dX2_magnetsInAll_9 : fnD cX2_magnetsInAll 9 (.ireturn) 1 10 := by decide +kernel
theorem dX2_find_0 : fnD cX2_find 0 (.iconst 0) 1 1 := by decide +kernel
theorem dX2_find_1 : fnD cX2_find 1 (.istore_n 3) 1 2 := by decide +kernel
theorem dX2_find_2 : fnD cX2_find 2 (.iload_n 3) 1 3 := by decide +kernel
theorem dX2_find_3 : fnD cX2_find 3 (.bipush 97) 2 5 := by decide +kernel
theorem dX2_find_5 : fnIc cX2_find 5 .ge 36 8 := by decide +kernel
theorem dX2_find_8 : fnD cX2_find 8 (.aload_n 0) 1 9 := by decide +kernel
theorem dX2_find_9 : fnD cX2_find 9 (.getfield 15) 3 12 := by decide +kernel
theorem dX2_find_12 : fnD cX2_find 12 (.iload_n 3) 1 13 := by decide +kernel
theorem dX2_find_13 : fnD cX2_find 13 (.aload_n 2) 1 14 := by decide +kernel
theorem dX2_find_14 : fnD cX2_find 14 (.iload_n 3) 1 15 := by decide +kernel
theorem dX2_find_15 : fnD cX2_find 15 (.invokevirtual 41) 3 18 := by decide +kernel
theorem dX2_find_18 : fnD cX2_find 18 (.bastore) 1 19 := by decide +kernel
theorem dX2_find_19 : fnD cX2_find 19 (.aload_n 0) 1 20 := by decide +kernel
theorem dX2_find_20 : fnD cX2_find 20 (.getfield 9) 3 23 := by decide +kernel
theorem dX2_find_23 : fnD cX2_find 23 (.iload_n 3) 1 24 := by decide +kernel
theorem dX2_find_24 : fnD cX2_find 24 (.aload_n 2) 1 25 := by decide +kernel
theorem dX2_find_25 : fnD cX2_find 25 (.iload_n 3) 1 26 := by decide +kernel
theorem dX2_find_26 : fnD cX2_find 26 (.invokevirtual 47) 3 29 := by decide +kernel
theorem dX2_find_29 : fnD cX2_find 29 (.iastore) 1 30 := by decide +kernel
theorem dX2_find_30 : fnD cX2_find 30 (.iinc 3 1) 3 33 := by decide +kernel
theorem dX2_find_33 : fnGo cX2_find 33 2 := by decide +kernel
theorem dX2_find_36 : fnD cX2_find 36 (.aload_n 0) 1 37 := by decide +kernel
theorem dX2_find_37 : fnD cX2_find 37 (.aload_n 1) 1 38 := by decide +kernel
theorem dX2_find_38 : fnD cX2_find 38 (.iconst 1) 1 39 := by decide +kernel
theorem dX2_find_39 : fnD cX2_find 39 (.iaload) 1 40 := by decide +kernel
theorem dX2_find_40 : fnD cX2_find 40 (.aload_n 1) 1 41 := by decide +kernel
theorem dX2_find_41 : fnD cX2_find 41 (.iconst 2) 1 42 := by decide +kernel
theorem dX2_find_42 : fnD cX2_find 42 (.iaload) 1 43 := by decide +kernel
theorem dX2_find_43 : fnD cX2_find 43 (.invokevirtual 51) 3 46 := by decide +kernel
theorem dX2_find_46 : fnD cX2_find 46 (.aload_n 0) 1 47 := by decide +kernel
theorem dX2_find_47 : fnD cX2_find 47 (.aload_n 1) 1 48 := by decide +kernel
theorem dX2_find_48 : fnD cX2_find 48 (.iconst 3) 1 49 := by decide +kernel
theorem dX2_find_49 : fnD cX2_find 49 (.iaload) 1 50 := by decide +kernel
theorem dX2_find_50 : fnD cX2_find 50 (.aload_n 2) 1 51 := by decide +kernel
theorem dX2_find_51 : fnD cX2_find 51 (.invokevirtual 55) 3 54 := by decide +kernel
theorem dX2_find_54 : fnD cX2_find 54 (.return_) 1 55 := by decide +kernel
theorem dX2_findBars_0 : fnD cX2_findBars 0 (.aload_n 0) 1 1 := by decide +kernel
theorem dX2_findBars_1 : fnD cX2_findBars 1 (.iconst 0) 1 2 := by decide +kernel
theorem dX2_findBars_2 : fnD cX2_findBars 2 (.putfield 19) 3 5 := by decide +kernel
theorem dX2_findBars_5 : fnD cX2_findBars 5 (.aload_n 0) 1 6 := by decide +kernel
theorem dX2_findBars_6 : fnD cX2_findBars 6 (.iconst 0) 1 7 := by decide +kernel
theorem dX2_findBars_7 : fnD cX2_findBars 7 (.putfield 23) 3 10 := by decide +kernel
theorem dX2_findBars_10 : fnD cX2_findBars 10 (.aload_n 0) 1 11 := by decide +kernel
theorem dX2_findBars_11 : fnD cX2_findBars 11 (.iconst 0) 1 12 := by decide +kernel
theorem dX2_findBars_12 : fnD cX2_findBars 12 (.putfield 32) 3 15 := by decide +kernel
theorem dX2_findBars_15 : fnD cX2_findBars 15 (.aload_n 0) 1 16 := by decide +kernel
theorem dX2_findBars_16 : fnD cX2_findBars 16 (.iload_n 1) 1 17 := by decide +kernel
theorem dX2_findBars_17 : fnD cX2_findBars 17 (.invokestatic 59) 3 20 := by decide +kernel
theorem dX2_findBars_20 : fnD cX2_findBars 20 (.iload_n 2) 1 21 := by decide +kernel
theorem dX2_findBars_21 : fnD cX2_findBars 21 (.invokestatic 59) 3 24 := by decide +kernel
theorem dX2_findBars_24 : fnD cX2_findBars 24 (.iadd) 1 25 := by decide +kernel
theorem dX2_findBars_25 : fnD cX2_findBars 25 (.putfield 29) 3 28 := by decide +kernel
theorem dX2_findBars_28 : fnD cX2_findBars 28 (.iconst 0) 1 29 := by decide +kernel
theorem dX2_findBars_29 : fnD cX2_findBars 29 (.istore_n 3) 1 30 := by decide +kernel
theorem dX2_findBars_30 : fnD cX2_findBars 30 (.iload_n 3) 1 31 := by decide +kernel
theorem dX2_findBars_31 : fnD cX2_findBars 31 (.bipush 97) 2 33 := by decide +kernel
theorem dX2_findBars_33 : fnIc cX2_findBars 33 .ge 68 36 := by decide +kernel
theorem dX2_findBars_36 : fnD cX2_findBars 36 (.aload_n 0) 1 37 := by decide +kernel
theorem dX2_findBars_37 : fnD cX2_findBars 37 (.getfield 15) 3 40 := by decide +kernel
theorem dX2_findBars_40 : fnD cX2_findBars 40 (.iload_n 3) 1 41 := by decide +kernel
theorem dX2_findBars_41 : fnD cX2_findBars 41 (.baload) 1 42 := by decide +kernel
theorem dX2_findBars_42 : fnIf cX2_findBars 42 .eq 62 45 := by decide +kernel
theorem dX2_findBars_45 : fnD cX2_findBars 45 (.aload_n 0) 1 46 := by decide +kernel
theorem dX2_findBars_46 : fnD cX2_findBars 46 (.iload_n 3) 1 47 := by decide +kernel
theorem dX2_findBars_47 : fnD cX2_findBars 47 (.iload_n 1) 1 48 := by decide +kernel
theorem dX2_findBars_48 : fnD cX2_findBars 48 (.aload_n 0) 1 49 := by decide +kernel
theorem dX2_findBars_49 : fnD cX2_findBars 49 (.getfield 9) 3 52 := by decide +kernel
theorem dX2_findBars_52 : fnD cX2_findBars 52 (.iload_n 3) 1 53 := by decide +kernel
theorem dX2_findBars_53 : fnD cX2_findBars 53 (.iaload) 1 54 := by decide +kernel
theorem dX2_findBars_54 : fnD cX2_findBars 54 (.isub) 1 55 := by decide +kernel
theorem dX2_findBars_55 : fnD cX2_findBars 55 (.invokestatic 59) 3 58 := by decide +kernel
theorem dX2_findBars_58 : fnD cX2_findBars 58 (.iload_n 2) 1 59 := by decide +kernel
theorem dX2_findBars_59 : fnD cX2_findBars 59 (.invokevirtual 64) 3 62 := by decide +kernel
theorem dX2_findBars_62 : fnD cX2_findBars 62 (.iinc 3 1) 3 65 := by decide +kernel
theorem dX2_findBars_65 : fnGo cX2_findBars 65 30 := by decide +kernel
theorem dX2_findBars_68 : fnD cX2_findBars 68 (.return_) 1 69 := by decide +kernel
theorem dX2_findAthwart_0 : fnD cX2_findAthwart 0 (.iload_n 1) 1 1 := by decide +kernel
theorem dX2_findAthwart_1 : fnD cX2_findAthwart 1 (.invokestatic 68) 3 4 := by decide +kernel
theorem dX2_findAthwart_4 : fnD cX2_findAthwart 4 (.istore 4) 2 6 := by decide +kernel
theorem dX2_findAthwart_6 : fnD cX2_findAthwart 6 (.iconst 0) 1 7 := by decide +kernel
theorem dX2_findAthwart_7 : fnD cX2_findAthwart 7 (.istore 5) 2 9 := by decide +kernel
theorem dX2_findAthwart_9 : fnD cX2_findAthwart 9 (.iload 5) 2 11 := by decide +kernel
theorem dX2_findAthwart_11 : fnD cX2_findAthwart 11 (.bipush 97) 2 13 := by decide +kernel
theorem dX2_findAthwart_13 : fnIc cX2_findAthwart 13 .ge 147 16 := by decide +kernel
theorem dX2_findAthwart_16 : fnD cX2_findAthwart 16 (.iload 5) 2 18 := by decide +kernel
theorem dX2_findAthwart_18 : fnIf cX2_findAthwart 18 .eq 35 21 := by decide +kernel
theorem dX2_findAthwart_21 : fnD cX2_findAthwart 21 (.iload 5) 2 23 := by decide +kernel
theorem dX2_findAthwart_23 : fnD cX2_findAthwart 23 (.invokestatic 68) 3 26 := by decide +kernel
theorem dX2_findAthwart_26 : fnD cX2_findAthwart 26 (.iload 4) 2 28 := by decide +kernel
theorem dX2_findAthwart_28 : fnIc cX2_findAthwart 28 .ne 35 31 := by decide +kernel
theorem dX2_findAthwart_31 : fnD cX2_findAthwart 31 (.iconst 1) 1 32 := by decide +kernel
theorem dX2_findAthwart_32 : fnGo cX2_findAthwart 32 36 := by decide +kernel
theorem dX2_findAthwart_35 : fnD cX2_findAthwart 35 (.iconst 0) 1 36 := by decide +kernel
theorem dX2_findAthwart_36 : fnD cX2_findAthwart 36 (.istore 6) 2 38 := by decide +kernel
theorem dX2_findAthwart_38 : fnD cX2_findAthwart 38 (.aload_n 0) 1 39 := by decide +kernel
theorem dX2_findAthwart_39 : fnD cX2_findAthwart 39 (.getfield 15) 3 42 := by decide +kernel
theorem dX2_findAthwart_42 : fnD cX2_findAthwart 42 (.iload 5) 2 44 := by decide +kernel
theorem dX2_findAthwart_44 : fnD cX2_findAthwart 44 (.baload) 1 45 := by decide +kernel
theorem dX2_findAthwart_45 : fnIf cX2_findAthwart 45 .eq 141 48 := by decide +kernel
theorem dX2_findAthwart_48 : fnD cX2_findAthwart 48 (.iload 6) 2 50 := by decide +kernel
theorem dX2_findAthwart_50 : fnIf cX2_findAthwart 50 .ne 141 53 := by decide +kernel
theorem dX2_findAthwart_53 : fnD cX2_findAthwart 53 (.iload_n 2) 1 54 := by decide +kernel
theorem dX2_findAthwart_54 : fnD cX2_findAthwart 54 (.iload_n 3) 1 55 := by decide +kernel
theorem dX2_findAthwart_55 : fnD cX2_findAthwart 55 (.aload_n 0) 1 56 := by decide +kernel
theorem dX2_findAthwart_56 : fnD cX2_findAthwart 56 (.getfield 9) 3 59 := by decide +kernel
theorem dX2_findAthwart_59 : fnD cX2_findAthwart 59 (.iload 5) 2 61 := by decide +kernel
theorem dX2_findAthwart_61 : fnD cX2_findAthwart 61 (.iaload) 1 62 := by decide +kernel
theorem dX2_findAthwart_62 : fnD cX2_findAthwart 62 (.isub) 1 63 := by decide +kernel
theorem dX2_findAthwart_63 : fnD cX2_findAthwart 63 (.invokestatic 59) 3 66 := by decide +kernel
theorem dX2_findAthwart_66 : fnD cX2_findAthwart 66 (.iadd) 1 67 := by decide +kernel
theorem dX2_findAthwart_67 : fnD cX2_findAthwart 67 (.istore 7) 2 69 := by decide +kernel
theorem dX2_findAthwart_69 : fnD cX2_findAthwart 69 (.iload_n 1) 1 70 := by decide +kernel
theorem dX2_findAthwart_70 : fnIf cX2_findAthwart 70 .ne 77 73 := by decide +kernel
theorem dX2_findAthwart_73 : fnD cX2_findAthwart 73 (.iconst 0) 1 74 := by decide +kernel
theorem dX2_findAthwart_74 : fnGo cX2_findAthwart 74 78 := by decide +kernel
theorem dX2_findAthwart_77 : fnD cX2_findAthwart 77 (.iconst 1) 1 78 := by decide +kernel
theorem dX2_findAthwart_78 : fnD cX2_findAthwart 78 (.iload 5) 2 80 := by decide +kernel
theorem dX2_findAthwart_80 : fnIf cX2_findAthwart 80 .ne 87 83 := by decide +kernel
theorem dX2_findAthwart_83 : fnD cX2_findAthwart 83 (.iconst 0) 1 84 := by decide +kernel
theorem dX2_findAthwart_84 : fnGo cX2_findAthwart 84 88 := by decide +kernel
theorem dX2_findAthwart_87 : fnD cX2_findAthwart 87 (.iconst 1) 1 88 := by decide +kernel
theorem dX2_findAthwart_88 : fnD cX2_findAthwart 88 (.iadd) 1 89 := by decide +kernel
theorem dX2_findAthwart_89 : fnD cX2_findAthwart 89 (.istore 8) 2 91 := by decide +kernel
theorem dX2_findAthwart_91 : fnD cX2_findAthwart 91 (.iload 7) 2 93 := by decide +kernel
theorem dX2_findAthwart_93 : fnD cX2_findAthwart 93 (.aload_n 0) 1 94 := by decide +kernel
theorem dX2_findAthwart_94 : fnD cX2_findAthwart 94 (.getfield 29) 3 97 := by decide +kernel
theorem dX2_findAthwart_97 : fnIc cX2_findAthwart 97 .lt 118 100 := by decide +kernel
theorem dX2_findAthwart_100 : fnD cX2_findAthwart 100 (.iload 7) 2 102 := by decide +kernel
theorem dX2_findAthwart_102 : fnD cX2_findAthwart 102 (.aload_n 0) 1 103 := by decide +kernel
theorem dX2_findAthwart_103 : fnD cX2_findAthwart 103 (.getfield 29) 3 106 := by decide +kernel
theorem dX2_findAthwart_106 : fnIc cX2_findAthwart 106 .ne 141 109 := by decide +kernel
theorem dX2_findAthwart_109 : fnD cX2_findAthwart 109 (.iload 8) 2 111 := by decide +kernel
theorem dX2_findAthwart_111 : fnD cX2_findAthwart 111 (.aload_n 0) 1 112 := by decide +kernel
theorem dX2_findAthwart_112 : fnD cX2_findAthwart 112 (.getfield 32) 3 115 := by decide +kernel
theorem dX2_findAthwart_115 : fnIc cX2_findAthwart 115 .ge 141 118 := by decide +kernel
theorem dX2_findAthwart_118 : fnD cX2_findAthwart 118 (.aload_n 0) 1 119 := by decide +kernel
theorem dX2_findAthwart_119 : fnD cX2_findAthwart 119 (.iload 7) 2 121 := by decide +kernel
theorem dX2_findAthwart_121 : fnD cX2_findAthwart 121 (.putfield 29) 3 124 := by decide +kernel
theorem dX2_findAthwart_124 : fnD cX2_findAthwart 124 (.aload_n 0) 1 125 := by decide +kernel
theorem dX2_findAthwart_125 : fnD cX2_findAthwart 125 (.iload 8) 2 127 := by decide +kernel
theorem dX2_findAthwart_127 : fnD cX2_findAthwart 127 (.putfield 32) 3 130 := by decide +kernel
theorem dX2_findAthwart_130 : fnD cX2_findAthwart 130 (.aload_n 0) 1 131 := by decide +kernel
theorem dX2_findAthwart_131 : fnD cX2_findAthwart 131 (.iload_n 1) 1 132 := by decide +kernel
theorem dX2_findAthwart_132 : fnD cX2_findAthwart 132 (.putfield 19) 3 135 := by decide +kernel
theorem dX2_findAthwart_135 : fnD cX2_findAthwart 135 (.aload_n 0) 1 136 := by decide +kernel
theorem dX2_findAthwart_136 : fnD cX2_findAthwart 136 (.iload 5) 2 138 := by decide +kernel
theorem dX2_findAthwart_138 : fnD cX2_findAthwart 138 (.putfield 23) 3 141 := by decide +kernel
theorem dX2_findAthwart_141 : fnD cX2_findAthwart 141 (.iinc 5 1) 3 144 := by decide +kernel
theorem dX2_findAthwart_144 : fnGo cX2_findAthwart 144 9 := by decide +kernel
theorem dX2_findAthwart_147 : fnD cX2_findAthwart 147 (.return_) 1 148 := by decide +kernel
theorem dX2_findBalls_0 : fnD cX2_findBalls 0 (.aload_n 0) 1 1 := by decide +kernel
theorem dX2_findBalls_1 : fnD cX2_findBalls 1 (.iconst 0) 1 2 := by decide +kernel
theorem dX2_findBalls_2 : fnD cX2_findBalls 2 (.putfield 26) 3 5 := by decide +kernel
theorem dX2_findBalls_5 : fnD cX2_findBalls 5 (.aload_n 0) 1 6 := by decide +kernel
theorem dX2_findBalls_6 : fnD cX2_findBalls 6 (.iconst 0) 1 7 := by decide +kernel
theorem dX2_findBalls_7 : fnD cX2_findBalls 7 (.putfield 38) 3 10 := by decide +kernel
theorem dX2_findBalls_10 : fnD cX2_findBalls 10 (.aload_n 0) 1 11 := by decide +kernel
theorem dX2_findBalls_11 : fnD cX2_findBalls 11 (.iload_n 1) 1 12 := by decide +kernel
theorem dX2_findBalls_12 : fnD cX2_findBalls 12 (.invokestatic 59) 3 15 := by decide +kernel
theorem dX2_findBalls_15 : fnD cX2_findBalls 15 (.putfield 35) 3 18 := by decide +kernel
theorem dX2_findBalls_18 : fnD cX2_findBalls 18 (.iconst 1) 1 19 := by decide +kernel
theorem dX2_findBalls_19 : fnD cX2_findBalls 19 (.istore_n 3) 1 20 := by decide +kernel
theorem dX2_findBalls_20 : fnD cX2_findBalls 20 (.iload_n 3) 1 21 := by decide +kernel
theorem dX2_findBalls_21 : fnD cX2_findBalls 21 (.bipush 77) 2 23 := by decide +kernel
theorem dX2_findBalls_23 : fnIc cX2_findBalls 23 .ge 77 26 := by decide +kernel
theorem dX2_findBalls_26 : fnD cX2_findBalls 26 (.iload_n 1) 1 27 := by decide +kernel
theorem dX2_findBalls_27 : fnD cX2_findBalls 27 (.aload_n 2) 1 28 := by decide +kernel
theorem dX2_findBalls_28 : fnD cX2_findBalls 28 (.iload_n 3) 1 29 := by decide +kernel
theorem dX2_findBalls_29 : fnD cX2_findBalls 29 (.invokevirtual 71) 3 32 := by decide +kernel
theorem dX2_findBalls_32 : fnD cX2_findBalls 32 (.isub) 1 33 := by decide +kernel
theorem dX2_findBalls_33 : fnD cX2_findBalls 33 (.invokestatic 59) 3 36 := by decide +kernel
theorem dX2_findBalls_36 : fnD cX2_findBalls 36 (.istore 4) 2 38 := by decide +kernel
theorem dX2_findBalls_38 : fnD cX2_findBalls 38 (.iload 4) 2 40 := by decide +kernel
theorem dX2_findBalls_40 : fnD cX2_findBalls 40 (.aload_n 0) 1 41 := by decide +kernel
theorem dX2_findBalls_41 : fnD cX2_findBalls 41 (.getfield 35) 3 44 := by decide +kernel
theorem dX2_findBalls_44 : fnIc cX2_findBalls 44 .ge 71 47 := by decide +kernel
theorem dX2_findBalls_47 : fnD cX2_findBalls 47 (.aload_n 2) 1 48 := by decide +kernel
theorem dX2_findBalls_48 : fnD cX2_findBalls 48 (.iload_n 3) 1 49 := by decide +kernel
theorem dX2_findBalls_49 : fnD cX2_findBalls 49 (.invokevirtual 74) 3 52 := by decide +kernel
theorem dX2_findBalls_52 : fnIf cX2_findBalls 52 .eq 71 55 := by decide +kernel
theorem dX2_findBalls_55 : fnD cX2_findBalls 55 (.aload_n 0) 1 56 := by decide +kernel
theorem dX2_findBalls_56 : fnD cX2_findBalls 56 (.iload 4) 2 58 := by decide +kernel
theorem dX2_findBalls_58 : fnD cX2_findBalls 58 (.putfield 35) 3 61 := by decide +kernel
theorem dX2_findBalls_61 : fnD cX2_findBalls 61 (.aload_n 0) 1 62 := by decide +kernel
theorem dX2_findBalls_62 : fnD cX2_findBalls 62 (.iconst 1) 1 63 := by decide +kernel
theorem dX2_findBalls_63 : fnD cX2_findBalls 63 (.putfield 38) 3 66 := by decide +kernel
theorem dX2_findBalls_66 : fnD cX2_findBalls 66 (.aload_n 0) 1 67 := by decide +kernel
theorem dX2_findBalls_67 : fnD cX2_findBalls 67 (.iload_n 3) 1 68 := by decide +kernel
theorem dX2_findBalls_68 : fnD cX2_findBalls 68 (.putfield 26) 3 71 := by decide +kernel
theorem dX2_findBalls_71 : fnD cX2_findBalls 71 (.iinc 3 1) 3 74 := by decide +kernel
theorem dX2_findBalls_74 : fnGo cX2_findBalls 74 20 := by decide +kernel
theorem dX2_findBalls_77 : fnD cX2_findBalls 77 (.return_) 1 78 := by decide +kernel
theorem dX3_init_0 : fnD cX3_init 0 (.aload_n 0) 1 1 := by decide +kernel
theorem dX3_init_1 : fnD cX3_init 1 (.invokespecial 3) 3 4 := by decide +kernel
theorem dX3_init_4 : fnD cX3_init 4 (.aload_n 0) 1 5 := by decide +kernel
theorem dX3_init_5 : fnD cX3_init 5 (.bipush 40) 2 7 := by decide +kernel
theorem dX3_init_7 : fnD cX3_init 7 (.newarray .int) 2 9 := by decide +kernel
theorem dX3_init_9 : fnD cX3_init 9 (.putfield 9) 3 12 := by decide +kernel
theorem dX3_init_12 : fnD cX3_init 12 (.aload_n 0) 1 13 := by decide +kernel
theorem dX3_init_13 : fnD cX3_init 13 (.bipush 40) 2 15 := by decide +kernel
theorem dX3_init_15 : fnD cX3_init 15 (.newarray .int) 2 17 := by decide +kernel
theorem dX3_init_17 : fnD cX3_init 17 (.putfield 15) 3 20 := by decide +kernel
theorem dX3_init_20 : fnD cX3_init 20 (.aload_n 0) 1 21 := by decide +kernel
theorem dX3_init_21 : fnD cX3_init 21 (.bipush 40) 2 23 := by decide +kernel
theorem dX3_init_23 : fnD cX3_init 23 (.newarray .int) 2 25 := by decide +kernel
theorem dX3_init_25 : fnD cX3_init 25 (.putfield 18) 3 28 := by decide +kernel
theorem dX3_init_28 : fnD cX3_init 28 (.aload_n 0) 1 29 := by decide +kernel
theorem dX3_init_29 : fnD cX3_init 29 (.bipush 40) 2 31 := by decide +kernel
theorem dX3_init_31 : fnD cX3_init 31 (.newarray .int) 2 33 := by decide +kernel
theorem dX3_init_33 : fnD cX3_init 33 (.putfield 21) 3 36 := by decide +kernel
theorem dX3_init_36 : fnD cX3_init 36 (.aload_n 0) 1 37 := by decide +kernel
theorem dX3_init_37 : fnD cX3_init 37 (.bipush 40) 2 39 := by decide +kernel
theorem dX3_init_39 : fnD cX3_init 39 (.newarray .int) 2 41 := by decide +kernel
theorem dX3_init_41 : fnD cX3_init 41 (.putfield 24) 3 44 := by decide +kernel
theorem dX3_init_44 : fnD cX3_init 44 (.aload_n 0) 1 45 := by decide +kernel
theorem dX3_init_45 : fnD cX3_init 45 (.bipush 40) 2 47 := by decide +kernel
theorem dX3_init_47 : fnD cX3_init 47 (.newarray .int) 2 49 := by decide +kernel
theorem dX3_init_49 : fnD cX3_init 49 (.putfield 27) 3 52 := by decide +kernel
theorem dX3_init_52 : fnD cX3_init 52 (.aload_n 0) 1 53 := by decide +kernel
theorem dX3_init_53 : fnD cX3_init 53 (.iconst 0) 1 54 := by decide +kernel
theorem dX3_init_54 : fnD cX3_init 54 (.putfield 30) 3 57 := by decide +kernel
theorem dX3_init_57 : fnD cX3_init 57 (.return_) 1 58 := by decide +kernel
theorem dX3_lastDay_0 : fnD cX3_lastDay 0 (.aload_n 0) 1 1 := by decide +kernel
theorem dX3_lastDay_1 : fnD cX3_lastDay 1 (.getfield 30) 3 4 := by decide +kernel
theorem dX3_lastDay_4 : fnIf cX3_lastDay 4 .ne 11 7 := by decide +kernel
theorem dX3_lastDay_7 : fnD cX3_lastDay 7 (.iconst 0) 1 8 := by decide +kernel
theorem dX3_lastDay_8 : fnGo cX3_lastDay 8 22 := by decide +kernel
theorem dX3_lastDay_11 : fnD cX3_lastDay 11 (.aload_n 0) 1 12 := by decide +kernel
theorem dX3_lastDay_12 : fnD cX3_lastDay 12 (.getfield 9) 3 15 := by decide +kernel
theorem dX3_lastDay_15 : fnD cX3_lastDay 15 (.aload_n 0) 1 16 := by decide +kernel
theorem dX3_lastDay_16 : fnD cX3_lastDay 16 (.getfield 30) 3 19 := by decide +kernel
theorem dX3_lastDay_19 : fnD cX3_lastDay 19 (.iconst 1) 1 20 := by decide +kernel
theorem dX3_lastDay_20 : fnD cX3_lastDay 20 (.isub) 1 21 := by decide +kernel
theorem dX3_lastDay_21 : fnD cX3_lastDay 21 (.iaload) 1 22 := by decide +kernel
theorem dX3_lastDay_22 : fnD cX3_lastDay 22 (.ireturn) 1 23 := by decide +kernel
theorem dX3_add_0 : fnD cX3_add 0 (.aload_n 0) 1 1 := by decide +kernel
theorem dX3_add_1 : fnD cX3_add 1 (.getfield 30) 3 4 := by decide +kernel
theorem dX3_add_4 : fnD cX3_add 4 (.istore 7) 2 6 := by decide +kernel
theorem dX3_add_6 : fnD cX3_add 6 (.aload_n 0) 1 7 := by decide +kernel
theorem dX3_add_7 : fnD cX3_add 7 (.getfield 9) 3 10 := by decide +kernel
theorem dX3_add_10 : fnD cX3_add 10 (.iload 7) 2 12 := by decide +kernel
theorem dX3_add_12 : fnD cX3_add 12 (.iload_n 1) 1 13 := by decide +kernel
theorem dX3_add_13 : fnD cX3_add 13 (.iastore) 1 14 := by decide +kernel
theorem dX3_add_14 : fnD cX3_add 14 (.aload_n 0) 1 15 := by decide +kernel
theorem dX3_add_15 : fnD cX3_add 15 (.getfield 15) 3 18 := by decide +kernel
theorem dX3_add_18 : fnD cX3_add 18 (.iload 7) 2 20 := by decide +kernel
theorem dX3_add_20 : fnD cX3_add 20 (.iload_n 2) 1 21 := by decide +kernel
theorem dX3_add_21 : fnD cX3_add 21 (.iastore) 1 22 := by decide +kernel
theorem dX3_add_22 : fnD cX3_add 22 (.aload_n 0) 1 23 := by decide +kernel
theorem dX3_add_23 : fnD cX3_add 23 (.getfield 18) 3 26 := by decide +kernel
theorem dX3_add_26 : fnD cX3_add 26 (.iload 7) 2 28 := by decide +kernel
theorem dX3_add_28 : fnD cX3_add 28 (.iload_n 3) 1 29 := by decide +kernel
theorem dX3_add_29 : fnD cX3_add 29 (.iastore) 1 30 := by decide +kernel
theorem dX3_add_30 : fnD cX3_add 30 (.aload_n 0) 1 31 := by decide +kernel
theorem dX3_add_31 : fnD cX3_add 31 (.getfield 21) 3 34 := by decide +kernel
theorem dX3_add_34 : fnD cX3_add 34 (.iload 7) 2 36 := by decide +kernel
theorem dX3_add_36 : fnD cX3_add 36 (.iload 4) 2 38 := by decide +kernel
theorem dX3_add_38 : fnD cX3_add 38 (.iastore) 1 39 := by decide +kernel
theorem dX3_add_39 : fnD cX3_add 39 (.aload_n 0) 1 40 := by decide +kernel
theorem dX3_add_40 : fnD cX3_add 40 (.getfield 24) 3 43 := by decide +kernel
theorem dX3_add_43 : fnD cX3_add 43 (.iload 7) 2 45 := by decide +kernel
theorem dX3_add_45 : fnD cX3_add 45 (.iload 5) 2 47 := by decide +kernel
theorem dX3_add_47 : fnD cX3_add 47 (.iastore) 1 48 := by decide +kernel
theorem dX3_add_48 : fnD cX3_add 48 (.aload_n 0) 1 49 := by decide +kernel
theorem dX3_add_49 : fnD cX3_add 49 (.getfield 27) 3 52 := by decide +kernel
theorem dX3_add_52 : fnD cX3_add 52 (.iload 7) 2 54 := by decide +kernel
theorem dX3_add_54 : fnD cX3_add 54 (.iload 6) 2 56 := by decide +kernel
theorem dX3_add_56 : fnD cX3_add 56 (.iastore) 1 57 := by decide +kernel
theorem dX3_add_57 : fnD cX3_add 57 (.aload_n 0) 1 58 := by decide +kernel
theorem dX3_add_58 : fnD cX3_add 58 (.iload 7) 2 60 := by decide +kernel
theorem dX3_add_60 : fnD cX3_add 60 (.iconst 1) 1 61 := by decide +kernel
theorem dX3_add_61 : fnD cX3_add 61 (.iadd) 1 62 := by decide +kernel
theorem dX3_add_62 : fnD cX3_add 62 (.putfield 30) 3 65 := by decide +kernel
theorem dX3_add_65 : fnD cX3_add 65 (.iload 7) 2 67 := by decide +kernel
theorem dX3_add_67 : fnD cX3_add 67 (.ireturn) 1 68 := by decide +kernel
theorem dX3_milesRun_0 : fnD cX3_milesRun 0 (.iconst 0) 1 1 := by decide +kernel
theorem dX3_milesRun_1 : fnD cX3_milesRun 1 (.istore_n 1) 1 2 := by decide +kernel
theorem dX3_milesRun_2 : fnD cX3_milesRun 2 (.iconst 0) 1 3 := by decide +kernel
theorem dX3_milesRun_3 : fnD cX3_milesRun 3 (.istore_n 2) 1 4 := by decide +kernel
theorem dX3_milesRun_4 : fnD cX3_milesRun 4 (.iload_n 2) 1 5 := by decide +kernel
theorem dX3_milesRun_5 : fnD cX3_milesRun 5 (.aload_n 0) 1 6 := by decide +kernel
theorem dX3_milesRun_6 : fnD cX3_milesRun 6 (.getfield 30) 3 9 := by decide +kernel
theorem dX3_milesRun_9 : fnIc cX3_milesRun 9 .ge 27 12 := by decide +kernel
theorem dX3_milesRun_12 : fnD cX3_milesRun 12 (.iload_n 1) 1 13 := by decide +kernel
theorem dX3_milesRun_13 : fnD cX3_milesRun 13 (.aload_n 0) 1 14 := by decide +kernel
theorem dX3_milesRun_14 : fnD cX3_milesRun 14 (.getfield 21) 3 17 := by decide +kernel
theorem dX3_milesRun_17 : fnD cX3_milesRun 17 (.iload_n 2) 1 18 := by decide +kernel
theorem dX3_milesRun_18 : fnD cX3_milesRun 18 (.iaload) 1 19 := by decide +kernel
theorem dX3_milesRun_19 : fnD cX3_milesRun 19 (.iadd) 1 20 := by decide +kernel
theorem dX3_milesRun_20 : fnD cX3_milesRun 20 (.istore_n 1) 1 21 := by decide +kernel
theorem dX3_milesRun_21 : fnD cX3_milesRun 21 (.iinc 2 1) 3 24 := by decide +kernel
theorem dX3_milesRun_24 : fnGo cX3_milesRun 24 4 := by decide +kernel
theorem dX3_milesRun_27 : fnD cX3_milesRun 27 (.iload_n 1) 1 28 := by decide +kernel
theorem dX3_milesRun_28 : fnD cX3_milesRun 28 (.ireturn) 1 29 := by decide +kernel
theorem dX4_init_0 : fnD cX4_init 0 (.aload_n 0) 1 1 := by decide +kernel
theorem dX4_init_1 : fnD cX4_init 1 (.invokespecial 3) 3 4 := by decide +kernel
theorem dX4_init_4 : fnD cX4_init 4 (.aload_n 0) 1 5 := by decide +kernel
theorem dX4_init_5 : fnD cX4_init 5 (.bipush 8) 2 7 := by decide +kernel
theorem dX4_init_7 : fnD cX4_init 7 (.newarray .int) 2 9 := by decide +kernel
theorem dX4_init_9 : fnD cX4_init 9 (.putfield 9) 3 12 := by decide +kernel
theorem dX4_init_12 : fnD cX4_init 12 (.aload_n 0) 1 13 := by decide +kernel
theorem dX4_init_13 : fnD cX4_init 13 (.bipush 8) 2 15 := by decide +kernel
theorem dX4_init_15 : fnD cX4_init 15 (.newarray .int) 2 17 := by decide +kernel
theorem dX4_init_17 : fnD cX4_init 17 (.putfield 15) 3 20 := by decide +kernel
theorem dX4_init_20 : fnD cX4_init 20 (.aload_n 0) 1 21 := by decide +kernel
theorem dX4_init_21 : fnD cX4_init 21 (.bipush 24) 2 23 := by decide +kernel
theorem dX4_init_23 : fnD cX4_init 23 (.newarray .int) 2 25 := by decide +kernel
theorem dX4_init_25 : fnD cX4_init 25 (.putfield 18) 3 28 := by decide +kernel
theorem dX4_init_28 : fnD cX4_init 28 (.aload_n 0) 1 29 := by decide +kernel
theorem dX4_init_29 : fnD cX4_init 29 (.bipush 24) 2 31 := by decide +kernel
theorem dX4_init_31 : fnD cX4_init 31 (.newarray .int) 2 33 := by decide +kernel
theorem dX4_init_33 : fnD cX4_init 33 (.putfield 21) 3 36 := by decide +kernel
theorem dX4_init_36 : fnD cX4_init 36 (.aload_n 0) 1 37 := by decide +kernel
theorem dX4_init_37 : fnD cX4_init 37 (.bipush 24) 2 39 := by decide +kernel
theorem dX4_init_39 : fnD cX4_init 39 (.newarray .boolean) 2 41 := by decide +kernel
theorem dX4_init_41 : fnD cX4_init 41 (.putfield 24) 3 44 := by decide +kernel
theorem dX4_init_44 : fnD cX4_init 44 (.iconst 0) 1 45 := by decide +kernel
theorem dX4_init_45 : fnD cX4_init 45 (.istore_n 1) 1 46 := by decide +kernel
theorem dX4_init_46 : fnD cX4_init 46 (.iload_n 1) 1 47 := by decide +kernel
theorem dX4_init_47 : fnD cX4_init 47 (.bipush 8) 2 49 := by decide +kernel
theorem dX4_init_49 : fnIc cX4_init 49 .ge 66 52 := by decide +kernel
theorem dX4_init_52 : fnD cX4_init 52 (.aload_n 0) 1 53 := by decide +kernel
theorem dX4_init_53 : fnD cX4_init 53 (.getfield 9) 3 56 := by decide +kernel
theorem dX4_init_56 : fnD cX4_init 56 (.iload_n 1) 1 57 := by decide +kernel
theorem dX4_init_57 : fnD cX4_init 57 (.bipush 100) 2 59 := by decide +kernel
theorem dX4_init_59 : fnD cX4_init 59 (.iastore) 1 60 := by decide +kernel
theorem dX4_init_60 : fnD cX4_init 60 (.iinc 1 1) 3 63 := by decide +kernel
theorem dX4_init_63 : fnGo cX4_init 63 46 := by decide +kernel
theorem dX4_init_66 : fnD cX4_init 66 (.return_) 1 67 := by decide +kernel
theorem dX4_write_0 : fnD cX4_write 0 (.iload_n 1) 1 1 := by decide +kernel
theorem dX4_write_1 : fnD cX4_write 1 (.bipush 8) 2 3 := by decide +kernel
theorem dX4_write_3 : fnD cX4_write 3 (.imul) 1 4 := by decide +kernel
theorem dX4_write_4 : fnD cX4_write 4 (.iload_n 2) 1 5 := by decide +kernel
theorem dX4_write_5 : fnD cX4_write 5 (.iadd) 1 6 := by decide +kernel
theorem dX4_write_6 : fnD cX4_write 6 (.istore 4) 2 8 := by decide +kernel
theorem dX4_write_8 : fnD cX4_write 8 (.aload_n 0) 1 9 := by decide +kernel
theorem dX4_write_9 : fnD cX4_write 9 (.getfield 24) 3 12 := by decide +kernel
theorem dX4_write_12 : fnD cX4_write 12 (.iload 4) 2 14 := by decide +kernel
theorem dX4_write_14 : fnD cX4_write 14 (.iconst 1) 1 15 := by decide +kernel
theorem dX4_write_15 : fnD cX4_write 15 (.bastore) 1 16 := by decide +kernel
theorem dX4_write_16 : fnD cX4_write 16 (.aload_n 0) 1 17 := by decide +kernel
theorem dX4_write_17 : fnD cX4_write 17 (.getfield 18) 3 20 := by decide +kernel
theorem dX4_write_20 : fnD cX4_write 20 (.iload 4) 2 22 := by decide +kernel
theorem dX4_write_22 : fnD cX4_write 22 (.aload_n 3) 1 23 := by decide +kernel
theorem dX4_write_23 : fnD cX4_write 23 (.getfield 28) 3 26 := by decide +kernel
theorem dX4_write_26 : fnD cX4_write 26 (.iconst 1) 1 27 := by decide +kernel
theorem dX4_write_27 : fnD cX4_write 27 (.iaload) 1 28 := by decide +kernel
theorem dX4_write_28 : fnD cX4_write 28 (.iastore) 1 29 := by decide +kernel
theorem dX4_write_29 : fnD cX4_write 29 (.aload_n 0) 1 30 := by decide +kernel
theorem dX4_write_30 : fnD cX4_write 30 (.getfield 21) 3 33 := by decide +kernel
theorem dX4_write_33 : fnD cX4_write 33 (.iload 4) 2 35 := by decide +kernel
theorem dX4_write_35 : fnD cX4_write 35 (.aload_n 3) 1 36 := by decide +kernel
theorem dX4_write_36 : fnD cX4_write 36 (.getfield 28) 3 39 := by decide +kernel
theorem dX4_write_39 : fnD cX4_write 39 (.iconst 2) 1 40 := by decide +kernel
theorem dX4_write_40 : fnD cX4_write 40 (.iaload) 1 41 := by decide +kernel
theorem dX4_write_41 : fnD cX4_write 41 (.iastore) 1 42 := by decide +kernel
theorem dX4_write_42 : fnD cX4_write 42 (.return_) 1 43 := by decide +kernel
theorem dX4_canForetell_0 : fnD cX4_canForetell 0 (.aload_n 0) 1 1 := by decide +kernel
theorem dX4_canForetell_1 : fnD cX4_canForetell 1 (.getfield 24) 3 4 := by decide +kernel
theorem dX4_canForetell_4 : fnD cX4_canForetell 4 (.iload_n 1) 1 5 := by decide +kernel
theorem dX4_canForetell_5 : fnD cX4_canForetell 5 (.bipush 8) 2 7 := by decide +kernel
theorem dX4_canForetell_7 : fnD cX4_canForetell 7 (.imul) 1 8 := by decide +kernel
theorem dX4_canForetell_8 : fnD cX4_canForetell 8 (.iload_n 2) 1 9 := by decide +kernel
theorem dX4_canForetell_9 : fnD cX4_canForetell 9 (.iadd) 1 10 := by decide +kernel
theorem dX4_canForetell_10 : fnD cX4_canForetell 10 (.baload) 1 11 := by decide +kernel
theorem dX4_canForetell_11 : fnIf cX4_canForetell 11 .eq 32 14 := by decide +kernel
theorem dX4_canForetell_14 : fnD cX4_canForetell 14 (.aload_n 0) 1 15 := by decide +kernel
theorem dX4_canForetell_15 : fnD cX4_canForetell 15 (.getfield 24) 3 18 := by decide +kernel
theorem dX4_canForetell_18 : fnD cX4_canForetell 18 (.iload_n 1) 1 19 := by decide +kernel
theorem dX4_canForetell_19 : fnD cX4_canForetell 19 (.bipush 8) 2 21 := by decide +kernel
theorem dX4_canForetell_21 : fnD cX4_canForetell 21 (.imul) 1 22 := by decide +kernel
theorem dX4_canForetell_22 : fnD cX4_canForetell 22 (.iload_n 3) 1 23 := by decide +kernel
theorem dX4_canForetell_23 : fnD cX4_canForetell 23 (.iadd) 1 24 := by decide +kernel
theorem dX4_canForetell_24 : fnD cX4_canForetell 24 (.baload) 1 25 := by decide +kernel
theorem dX4_canForetell_25 : fnIf cX4_canForetell 25 .eq 32 28 := by decide +kernel
theorem dX4_canForetell_28 : fnD cX4_canForetell 28 (.iconst 1) 1 29 := by decide +kernel
theorem dX4_canForetell_29 : fnGo cX4_canForetell 29 33 := by decide +kernel
theorem dX4_canForetell_32 : fnD cX4_canForetell 32 (.iconst 0) 1 33 := by decide +kernel
theorem dX4_canForetell_33 : fnD cX4_canForetell 33 (.istore 4) 2 35 := by decide +kernel
theorem dX4_canForetell_35 : fnD cX4_canForetell 35 (.iload 4) 2 37 := by decide +kernel
theorem dX4_canForetell_37 : fnIf cX4_canForetell 37 .eq 59 40 := by decide +kernel
theorem dX4_canForetell_40 : fnD cX4_canForetell 40 (.aload_n 0) 1 41 := by decide +kernel
theorem dX4_canForetell_41 : fnD cX4_canForetell 41 (.getfield 15) 3 44 := by decide +kernel
theorem dX4_canForetell_44 : fnD cX4_canForetell 44 (.iload_n 2) 1 45 := by decide +kernel
theorem dX4_canForetell_45 : fnD cX4_canForetell 45 (.iaload) 1 46 := by decide +kernel
theorem dX4_canForetell_46 : fnD cX4_canForetell 46 (.aload_n 0) 1 47 := by decide +kernel
theorem dX4_canForetell_47 : fnD cX4_canForetell 47 (.getfield 15) 3 50 := by decide +kernel
theorem dX4_canForetell_50 : fnD cX4_canForetell 50 (.iload_n 3) 1 51 := by decide +kernel
theorem dX4_canForetell_51 : fnD cX4_canForetell 51 (.iaload) 1 52 := by decide +kernel
theorem dX4_canForetell_52 : fnIc cX4_canForetell 52 .eq 59 55 := by decide +kernel
theorem dX4_canForetell_55 : fnD cX4_canForetell 55 (.iconst 1) 1 56 := by decide +kernel
theorem dX4_canForetell_56 : fnGo cX4_canForetell 56 60 := by decide +kernel
theorem dX4_canForetell_59 : fnD cX4_canForetell 59 (.iconst 0) 1 60 := by decide +kernel
theorem dX4_canForetell_60 : fnD cX4_canForetell 60 (.ireturn) 1 61 := by decide +kernel
theorem dX4_foretell_0 : fnD cX4_foretell 0 (.aload_n 1) 1 1 := by decide +kernel
theorem dX4_foretell_1 : fnD cX4_foretell 1 (.iload_n 2) 1 2 := by decide +kernel
theorem dX4_foretell_2 : fnD cX4_foretell 2 (.bipush 8) 2 4 := by decide +kernel
theorem dX4_foretell_4 : fnD cX4_foretell 4 (.imul) 1 5 := by decide +kernel
theorem dX4_foretell_5 : fnD cX4_foretell 5 (.iload 4) 2 7 := by decide +kernel
theorem dX4_foretell_7 : fnD cX4_foretell 7 (.iadd) 1 8 := by decide +kernel
theorem dX4_foretell_8 : fnD cX4_foretell 8 (.iaload) 1 9 := by decide +kernel
theorem dX4_foretell_9 : fnD cX4_foretell 9 (.i2l) 1 10 := by decide +kernel
theorem dX4_foretell_10 : fnD cX4_foretell 10 (.aload_n 0) 1 11 := by decide +kernel
theorem dX4_foretell_11 : fnD cX4_foretell 11 (.getfield 9) 3 14 := by decide +kernel
theorem dX4_foretell_14 : fnD cX4_foretell 14 (.iload 4) 2 16 := by decide +kernel
theorem dX4_foretell_16 : fnD cX4_foretell 16 (.iaload) 1 17 := by decide +kernel
theorem dX4_foretell_17 : fnD cX4_foretell 17 (.i2l) 1 18 := by decide +kernel
theorem dX4_foretell_18 : fnD cX4_foretell 18 (.lmul) 1 19 := by decide +kernel
theorem dX4_foretell_19 : fnD cX4_foretell 19 (.lstore 6) 2 21 := by decide +kernel
theorem dX4_foretell_21 : fnD cX4_foretell 21 (.aload_n 1) 1 22 := by decide +kernel
theorem dX4_foretell_22 : fnD cX4_foretell 22 (.iload_n 2) 1 23 := by decide +kernel
theorem dX4_foretell_23 : fnD cX4_foretell 23 (.bipush 8) 2 25 := by decide +kernel
theorem dX4_foretell_25 : fnD cX4_foretell 25 (.imul) 1 26 := by decide +kernel
theorem dX4_foretell_26 : fnD cX4_foretell 26 (.iload 5) 2 28 := by decide +kernel
theorem dX4_foretell_28 : fnD cX4_foretell 28 (.iadd) 1 29 := by decide +kernel
theorem dX4_foretell_29 : fnD cX4_foretell 29 (.iaload) 1 30 := by decide +kernel
theorem dX4_foretell_30 : fnD cX4_foretell 30 (.i2l) 1 31 := by decide +kernel
theorem dX4_foretell_31 : fnD cX4_foretell 31 (.aload_n 0) 1 32 := by decide +kernel
theorem dX4_foretell_32 : fnD cX4_foretell 32 (.getfield 9) 3 35 := by decide +kernel
theorem dX4_foretell_35 : fnD cX4_foretell 35 (.iload 5) 2 37 := by decide +kernel
theorem dX4_foretell_37 : fnD cX4_foretell 37 (.iaload) 1 38 := by decide +kernel
theorem dX4_foretell_38 : fnD cX4_foretell 38 (.i2l) 1 39 := by decide +kernel
theorem dX4_foretell_39 : fnD cX4_foretell 39 (.lmul) 1 40 := by decide +kernel
theorem dX4_foretell_40 : fnD cX4_foretell 40 (.lstore 8) 2 42 := by decide +kernel
theorem dX4_foretell_42 : fnD cX4_foretell 42 (.aload_n 0) 1 43 := by decide +kernel
theorem dX4_foretell_43 : fnD cX4_foretell 43 (.getfield 15) 3 46 := by decide +kernel
theorem dX4_foretell_46 : fnD cX4_foretell 46 (.iload 4) 2 48 := by decide +kernel
theorem dX4_foretell_48 : fnD cX4_foretell 48 (.iaload) 1 49 := by decide +kernel
theorem dX4_foretell_49 : fnD cX4_foretell 49 (.aload_n 0) 1 50 := by decide +kernel
theorem dX4_foretell_50 : fnD cX4_foretell 50 (.getfield 15) 3 53 := by decide +kernel
theorem dX4_foretell_53 : fnD cX4_foretell 53 (.iload 5) 2 55 := by decide +kernel
theorem dX4_foretell_55 : fnD cX4_foretell 55 (.iaload) 1 56 := by decide +kernel
theorem dX4_foretell_56 : fnD cX4_foretell 56 (.isub) 1 57 := by decide +kernel
theorem dX4_foretell_57 : fnD cX4_foretell 57 (.i2l) 1 58 := by decide +kernel
theorem dX4_foretell_58 : fnD cX4_foretell 58 (.lstore 10) 2 60 := by decide +kernel
theorem dX4_foretell_60 : fnD cX4_foretell 60 (.lload 6) 2 62 := by decide +kernel
theorem dX4_foretell_62 : fnD cX4_foretell 62 (.lload 10) 2 64 := by decide +kernel
theorem dX4_foretell_64 : fnD cX4_foretell 64 (.lmul) 1 65 := by decide +kernel
theorem dX4_foretell_65 : fnD cX4_foretell 65 (.lload 6) 2 67 := by decide +kernel
theorem dX4_foretell_67 : fnD cX4_foretell 67 (.lload 8) 2 69 := by decide +kernel
theorem dX4_foretell_69 : fnD cX4_foretell 69 (.lsub) 1 70 := by decide +kernel
theorem dX4_foretell_70 : fnD cX4_foretell 70 (.aload_n 0) 1 71 := by decide +kernel
theorem dX4_foretell_71 : fnD cX4_foretell 71 (.getfield 15) 3 74 := by decide +kernel
theorem dX4_foretell_74 : fnD cX4_foretell 74 (.iload_n 3) 1 75 := by decide +kernel
theorem dX4_foretell_75 : fnD cX4_foretell 75 (.iaload) 1 76 := by decide +kernel
theorem dX4_foretell_76 : fnD cX4_foretell 76 (.aload_n 0) 1 77 := by decide +kernel
theorem dX4_foretell_77 : fnD cX4_foretell 77 (.getfield 15) 3 80 := by decide +kernel
theorem dX4_foretell_80 : fnD cX4_foretell 80 (.iload 4) 2 82 := by decide +kernel
theorem dX4_foretell_82 : fnD cX4_foretell 82 (.iaload) 1 83 := by decide +kernel
theorem dX4_foretell_83 : fnD cX4_foretell 83 (.isub) 1 84 := by decide +kernel
theorem dX4_foretell_84 : fnD cX4_foretell 84 (.i2l) 1 85 := by decide +kernel
theorem dX4_foretell_85 : fnD cX4_foretell 85 (.lmul) 1 86 := by decide +kernel
theorem dX4_foretell_86 : fnD cX4_foretell 86 (.ladd) 1 87 := by decide +kernel
theorem dX4_foretell_87 : fnD cX4_foretell 87 (.lstore 12) 2 89 := by decide +kernel
theorem dX4_foretell_89 : fnD cX4_foretell 89 (.aload_n 0) 1 90 := by decide +kernel
theorem dX4_foretell_90 : fnD cX4_foretell 90 (.getfield 9) 3 93 := by decide +kernel
theorem dX4_foretell_93 : fnD cX4_foretell 93 (.iload_n 3) 1 94 := by decide +kernel
theorem dX4_foretell_94 : fnD cX4_foretell 94 (.iaload) 1 95 := by decide +kernel
theorem dX4_foretell_95 : fnD cX4_foretell 95 (.i2l) 1 96 := by decide +kernel
theorem dX4_foretell_96 : fnD cX4_foretell 96 (.lload 10) 2 98 := by decide +kernel
theorem dX4_foretell_98 : fnD cX4_foretell 98 (.lmul) 1 99 := by decide +kernel
theorem dX4_foretell_99 : fnD cX4_foretell 99 (.lstore 14) 2 101 := by decide +kernel
theorem dX4_foretell_101 : fnD cX4_foretell 101 (.lload 14) 2 103 := by decide +kernel
theorem dX4_foretell_103 : fnD cX4_foretell 103 (.lconst 0) 1 104 := by decide +kernel
theorem dX4_foretell_104 : fnD cX4_foretell 104 (.lcmp) 1 105 := by decide +kernel
theorem dX4_foretell_105 : fnIf cX4_foretell 105 .ge 120 108 := by decide +kernel
theorem dX4_foretell_108 : fnD cX4_foretell 108 (.lload 12) 2 110 := by decide +kernel
theorem dX4_foretell_110 : fnD cX4_foretell 110 (.lneg) 1 111 := by decide +kernel
theorem dX4_foretell_111 : fnD cX4_foretell 111 (.lload 14) 2 113 := by decide +kernel
theorem dX4_foretell_113 : fnD cX4_foretell 113 (.lneg) 1 114 := by decide +kernel
theorem dX4_foretell_114 : fnD cX4_foretell 114 (.invokestatic 33) 3 117 := by decide +kernel
theorem dX4_foretell_117 : fnGo cX4_foretell 117 127 := by decide +kernel
theorem dX4_foretell_120 : fnD cX4_foretell 120 (.lload 12) 2 122 := by decide +kernel
theorem dX4_foretell_122 : fnD cX4_foretell 122 (.lload 14) 2 124 := by decide +kernel
theorem dX4_foretell_124 : fnD cX4_foretell 124 (.invokestatic 33) 3 127 := by decide +kernel
theorem dX4_foretell_127 : fnD cX4_foretell 127 (.lstore 16) 2 129 := by decide +kernel
theorem dX4_foretell_129 : fnD cX4_foretell 129 (.ldc2_w 39) 3 132 := by decide +kernel
theorem dX4_foretell_132 : fnD cX4_foretell 132 (.ldc2_w 41) 3 135 := by decide +kernel
theorem dX4_foretell_135 : fnD cX4_foretell 135 (.lload 16) 2 137 := by decide +kernel
theorem dX4_foretell_137 : fnD cX4_foretell 137 (.invokestatic 43) 3 140 := by decide +kernel
theorem dX4_foretell_140 : fnD cX4_foretell 140 (.invokestatic 48) 3 143 := by decide +kernel
theorem dX4_foretell_143 : fnD cX4_foretell 143 (.l2i) 1 144 := by decide +kernel
theorem dX4_foretell_144 : fnD cX4_foretell 144 (.ireturn) 1 145 := by decide +kernel
theorem dX4_howManyNotes_0 : fnD cX4_howManyNotes 0 (.iconst 0) 1 1 := by decide +kernel
theorem dX4_howManyNotes_1 : fnD cX4_howManyNotes 1 (.istore_n 1) 1 2 := by decide +kernel
theorem dX4_howManyNotes_2 : fnD cX4_howManyNotes 2 (.iconst 0) 1 3 := by decide +kernel
theorem dX4_howManyNotes_3 : fnD cX4_howManyNotes 3 (.istore_n 2) 1 4 := by decide +kernel
theorem dX4_howManyNotes_4 : fnD cX4_howManyNotes 4 (.iload_n 2) 1 5 := by decide +kernel
theorem dX4_howManyNotes_5 : fnD cX4_howManyNotes 5 (.aload_n 0) 1 6 := by decide +kernel
theorem dX4_howManyNotes_6 : fnD cX4_howManyNotes 6 (.getfield 24) 3 9 := by decide +kernel
theorem dX4_howManyNotes_9 : fnD cX4_howManyNotes 9 (.arraylength) 1 10 := by decide +kernel
theorem dX4_howManyNotes_10 : fnIc cX4_howManyNotes 10 .ge 36 13 := by decide +kernel
theorem dX4_howManyNotes_13 : fnD cX4_howManyNotes 13 (.iload_n 1) 1 14 := by decide +kernel
theorem dX4_howManyNotes_14 : fnD cX4_howManyNotes 14 (.aload_n 0) 1 15 := by decide +kernel
theorem dX4_howManyNotes_15 : fnD cX4_howManyNotes 15 (.getfield 24) 3 18 := by decide +kernel
theorem dX4_howManyNotes_18 : fnD cX4_howManyNotes 18 (.iload_n 2) 1 19 := by decide +kernel
theorem dX4_howManyNotes_19 : fnD cX4_howManyNotes 19 (.baload) 1 20 := by decide +kernel
theorem dX4_howManyNotes_20 : fnIf cX4_howManyNotes 20 .eq 27 23 := by decide +kernel
theorem dX4_howManyNotes_23 : fnD cX4_howManyNotes 23 (.iconst 1) 1 24 := by decide +kernel
theorem dX4_howManyNotes_24 : fnGo cX4_howManyNotes 24 28 := by decide +kernel
theorem dX4_howManyNotes_27 : fnD cX4_howManyNotes 27 (.iconst 0) 1 28 := by decide +kernel
theorem dX4_howManyNotes_28 : fnD cX4_howManyNotes 28 (.iadd) 1 29 := by decide +kernel
theorem dX4_howManyNotes_29 : fnD cX4_howManyNotes 29 (.istore_n 1) 1 30 := by decide +kernel
theorem dX4_howManyNotes_30 : fnD cX4_howManyNotes 30 (.iinc 2 1) 3 33 := by decide +kernel
theorem dX4_howManyNotes_33 : fnGo cX4_howManyNotes 33 4 := by decide +kernel
theorem dX4_howManyNotes_36 : fnD cX4_howManyNotes 36 (.iload_n 1) 1 37 := by decide +kernel
theorem dX4_howManyNotes_37 : fnD cX4_howManyNotes 37 (.ireturn) 1 38 := by decide +kernel
theorem dX5_init_0 : fnD cX5_init 0 (.aload_n 0) 1 1 := by decide +kernel
theorem dX5_init_1 : fnD cX5_init 1 (.invokespecial 3) 3 4 := by decide +kernel
theorem dX5_init_4 : fnD cX5_init 4 (.aload_n 0) 1 5 := by decide +kernel
theorem dX5_init_5 : fnD cX5_init 5 (.bipush 40) 2 7 := by decide +kernel
theorem dX5_init_7 : fnD cX5_init 7 (.newarray .int) 2 9 := by decide +kernel
theorem dX5_init_9 : fnD cX5_init 9 (.putfield 9) 3 12 := by decide +kernel
theorem dX5_init_12 : fnD cX5_init 12 (.aload_n 0) 1 13 := by decide +kernel
theorem dX5_init_13 : fnD cX5_init 13 (.bipush 40) 2 15 := by decide +kernel
theorem dX5_init_15 : fnD cX5_init 15 (.newarray .int) 2 17 := by decide +kernel
theorem dX5_init_17 : fnD cX5_init 17 (.putfield 15) 3 20 := by decide +kernel
theorem dX5_init_20 : fnD cX5_init 20 (.aload_n 0) 1 21 := by decide +kernel
theorem dX5_init_21 : fnD cX5_init 21 (.bipush 40) 2 23 := by decide +kernel
theorem dX5_init_23 : fnD cX5_init 23 (.newarray .int) 2 25 := by decide +kernel
theorem dX5_init_25 : fnD cX5_init 25 (.putfield 18) 3 28 := by decide +kernel
theorem dX5_init_28 : fnD cX5_init 28 (.aload_n 0) 1 29 := by decide +kernel
theorem dX5_init_29 : fnD cX5_init 29 (.iconst 0) 1 30 := by decide +kernel
theorem dX5_init_30 : fnD cX5_init 30 (.putfield 21) 3 33 := by decide +kernel
theorem dX5_init_33 : fnD cX5_init 33 (.aload_n 0) 1 34 := by decide +kernel
theorem dX5_init_34 : fnD cX5_init 34 (.iconst 0) 1 35 := by decide +kernel
theorem dX5_init_35 : fnD cX5_init 35 (.putfield 25) 3 38 := by decide +kernel
theorem dX5_init_38 : fnD cX5_init 38 (.aload_n 0) 1 39 := by decide +kernel
theorem dX5_init_39 : fnD cX5_init 39 (.iconst 0) 1 40 := by decide +kernel
theorem dX5_init_40 : fnD cX5_init 40 (.putfield 28) 3 43 := by decide +kernel
theorem dX5_init_43 : fnD cX5_init 43 (.return_) 1 44 := by decide +kernel
theorem dX5_add_0 : fnD cX5_add 0 (.aload_n 0) 1 1 := by decide +kernel
theorem dX5_add_1 : fnD cX5_add 1 (.getfield 21) 3 4 := by decide +kernel
theorem dX5_add_4 : fnD cX5_add 4 (.bipush 40) 2 6 := by decide +kernel
theorem dX5_add_6 : fnIc cX5_add 6 .ge 39 9 := by decide +kernel
theorem dX5_add_9 : fnD cX5_add 9 (.aload_n 0) 1 10 := by decide +kernel
theorem dX5_add_10 : fnD cX5_add 10 (.getfield 9) 3 13 := by decide +kernel
theorem dX5_add_13 : fnD cX5_add 13 (.aload_n 0) 1 14 := by decide +kernel
theorem dX5_add_14 : fnD cX5_add 14 (.getfield 21) 3 17 := by decide +kernel
theorem dX5_add_17 : fnD cX5_add 17 (.iload_n 1) 1 18 := by decide +kernel
theorem dX5_add_18 : fnD cX5_add 18 (.iastore) 1 19 := by decide +kernel
theorem dX5_add_19 : fnD cX5_add 19 (.aload_n 0) 1 20 := by decide +kernel
theorem dX5_add_20 : fnD cX5_add 20 (.getfield 15) 3 23 := by decide +kernel
theorem dX5_add_23 : fnD cX5_add 23 (.aload_n 0) 1 24 := by decide +kernel
theorem dX5_add_24 : fnD cX5_add 24 (.getfield 21) 3 27 := by decide +kernel
theorem dX5_add_27 : fnD cX5_add 27 (.iload_n 2) 1 28 := by decide +kernel
theorem dX5_add_28 : fnD cX5_add 28 (.iastore) 1 29 := by decide +kernel
theorem dX5_add_29 : fnD cX5_add 29 (.aload_n 0) 1 30 := by decide +kernel
theorem dX5_add_30 : fnD cX5_add 30 (.dup) 1 31 := by decide +kernel
theorem dX5_add_31 : fnD cX5_add 31 (.getfield 21) 3 34 := by decide +kernel
theorem dX5_add_34 : fnD cX5_add 34 (.iconst 1) 1 35 := by decide +kernel
theorem dX5_add_35 : fnD cX5_add 35 (.iadd) 1 36 := by decide +kernel
theorem dX5_add_36 : fnD cX5_add 36 (.putfield 21) 3 39 := by decide +kernel
theorem dX5_add_39 : fnD cX5_add 39 (.return_) 1 40 := by decide +kernel
theorem dX5_find_0 : fnD cX5_find 0 (.aload_n 0) 1 1 := by decide +kernel
theorem dX5_find_1 : fnD cX5_find 1 (.iconst 0) 1 2 := by decide +kernel
theorem dX5_find_2 : fnD cX5_find 2 (.putfield 25) 3 5 := by decide +kernel
theorem dX5_find_5 : fnD cX5_find 5 (.aload_n 0) 1 6 := by decide +kernel
theorem dX5_find_6 : fnD cX5_find 6 (.aload_n 0) 1 7 := by decide +kernel
theorem dX5_find_7 : fnD cX5_find 7 (.iconst 0) 1 8 := by decide +kernel
theorem dX5_find_8 : fnD cX5_find 8 (.aload_n 0) 1 9 := by decide +kernel
theorem dX5_find_9 : fnD cX5_find 9 (.getfield 21) 3 12 := by decide +kernel
theorem dX5_find_12 : fnD cX5_find 12 (.invokevirtual 31) 3 15 := by decide +kernel
theorem dX5_find_15 : fnD cX5_find 15 (.putfield 28) 3 18 := by decide +kernel
theorem dX5_find_18 : fnD cX5_find 18 (.iconst 1) 1 19 := by decide +kernel
theorem dX5_find_19 : fnD cX5_find 19 (.istore_n 1) 1 20 := by decide +kernel
theorem dX5_find_20 : fnD cX5_find 20 (.iload_n 1) 1 21 := by decide +kernel
theorem dX5_find_21 : fnD cX5_find 21 (.aload_n 0) 1 22 := by decide +kernel
theorem dX5_find_22 : fnD cX5_find 22 (.getfield 21) 3 25 := by decide +kernel
theorem dX5_find_25 : fnIc cX5_find 25 .gt 69 28 := by decide +kernel
theorem dX5_find_28 : fnD cX5_find 28 (.aload_n 0) 1 29 := by decide +kernel
theorem dX5_find_29 : fnD cX5_find 29 (.iconst 0) 1 30 := by decide +kernel
theorem dX5_find_30 : fnD cX5_find 30 (.iload_n 1) 1 31 := by decide +kernel
theorem dX5_find_31 : fnD cX5_find 31 (.invokevirtual 31) 3 34 := by decide +kernel
theorem dX5_find_34 : fnD cX5_find 34 (.aload_n 0) 1 35 := by decide +kernel
theorem dX5_find_35 : fnD cX5_find 35 (.iload_n 1) 1 36 := by decide +kernel
theorem dX5_find_36 : fnD cX5_find 36 (.aload_n 0) 1 37 := by decide +kernel
theorem dX5_find_37 : fnD cX5_find 37 (.getfield 21) 3 40 := by decide +kernel
theorem dX5_find_40 : fnD cX5_find 40 (.invokevirtual 31) 3 43 := by decide +kernel
theorem dX5_find_43 : fnD cX5_find 43 (.iadd) 1 44 := by decide +kernel
theorem dX5_find_44 : fnD cX5_find 44 (.istore_n 2) 1 45 := by decide +kernel
theorem dX5_find_45 : fnD cX5_find 45 (.iload_n 2) 1 46 := by decide +kernel
theorem dX5_find_46 : fnD cX5_find 46 (.aload_n 0) 1 47 := by decide +kernel
theorem dX5_find_47 : fnD cX5_find 47 (.getfield 28) 3 50 := by decide +kernel
theorem dX5_find_50 : fnIc cX5_find 50 .ge 63 53 := by decide +kernel
theorem dX5_find_53 : fnD cX5_find 53 (.aload_n 0) 1 54 := by decide +kernel
theorem dX5_find_54 : fnD cX5_find 54 (.iload_n 2) 1 55 := by decide +kernel
theorem dX5_find_55 : fnD cX5_find 55 (.putfield 28) 3 58 := by decide +kernel
theorem dX5_find_58 : fnD cX5_find 58 (.aload_n 0) 1 59 := by decide +kernel
theorem dX5_find_59 : fnD cX5_find 59 (.iload_n 1) 1 60 := by decide +kernel
theorem dX5_find_60 : fnD cX5_find 60 (.putfield 25) 3 63 := by decide +kernel
theorem dX5_find_63 : fnD cX5_find 63 (.iinc 1 1) 3 66 := by decide +kernel
theorem dX5_find_66 : fnGo cX5_find 66 20 := by decide +kernel
theorem dX5_find_69 : fnD cX5_find 69 (.return_) 1 70 := by decide +kernel
theorem dX5_isOnBothSides_0 : fnD cX5_isOnBothSides 0 (.aload_n 0) 1 1 := by decide +kernel
theorem dX5_isOnBothSides_1 : fnD cX5_isOnBothSides 1 (.getfield 25) 3 4 := by decide +kernel
theorem dX5_isOnBothSides_4 : fnIf cX5_isOnBothSides 4 .le 22 7 := by decide +kernel
theorem dX5_isOnBothSides_7 : fnD cX5_isOnBothSides 7 (.aload_n 0) 1 8 := by decide +kernel
theorem dX5_isOnBothSides_8 : fnD cX5_isOnBothSides 8 (.getfield 25) 3 11 := by decide +kernel
theorem dX5_isOnBothSides_11 : fnD cX5_isOnBothSides 11 (.aload_n 0) 1 12 := by decide +kernel
theorem dX5_isOnBothSides_12 : fnD cX5_isOnBothSides 12 (.getfield 21) 3 15 := by decide +kernel
theorem dX5_isOnBothSides_15 : fnIc cX5_isOnBothSides 15 .ge 22 18 := by decide +kernel
theorem dX5_isOnBothSides_18 : fnD cX5_isOnBothSides 18 (.iconst 1) 1 19 := by decide +kernel
theorem dX5_isOnBothSides_19 : fnGo cX5_isOnBothSides 19 23 := by decide +kernel
theorem dX5_isOnBothSides_22 : fnD cX5_isOnBothSides 22 (.iconst 0) 1 23 := by decide +kernel
theorem dX5_isOnBothSides_23 : fnD cX5_isOnBothSides 23 (.ireturn) 1 24 := by decide +kernel
theorem dX5_jumpBetween_0 : fnD cX5_jumpBetween 0 (.aload_n 0) 1 1 := by decide +kernel
theorem dX5_jumpBetween_1 : fnD cX5_jumpBetween 1 (.aload_n 0) 1 2 := by decide +kernel
theorem dX5_jumpBetween_2 : fnD cX5_jumpBetween 2 (.getfield 25) 3 5 := by decide +kernel
theorem dX5_jumpBetween_5 : fnD cX5_jumpBetween 5 (.aload_n 0) 1 6 := by decide +kernel
theorem dX5_jumpBetween_6 : fnD cX5_jumpBetween 6 (.getfield 21) 3 9 := by decide +kernel
theorem dX5_jumpBetween_9 : fnD cX5_jumpBetween 9 (.invokevirtual 35) 3 12 := by decide +kernel
theorem dX5_jumpBetween_12 : fnD cX5_jumpBetween 12 (.aload_n 0) 1 13 := by decide +kernel
theorem dX5_jumpBetween_13 : fnD cX5_jumpBetween 13 (.iconst 0) 1 14 := by decide +kernel
theorem dX5_jumpBetween_14 : fnD cX5_jumpBetween 14 (.aload_n 0) 1 15 := by decide +kernel
theorem dX5_jumpBetween_15 : fnD cX5_jumpBetween 15 (.getfield 25) 3 18 := by decide +kernel
theorem dX5_jumpBetween_18 : fnD cX5_jumpBetween 18 (.invokevirtual 35) 3 21 := by decide +kernel
theorem dX5_jumpBetween_21 : fnD cX5_jumpBetween 21 (.isub) 1 22 := by decide +kernel
theorem dX5_jumpBetween_22 : fnD cX5_jumpBetween 22 (.ireturn) 1 23 := by decide +kernel
theorem dX5_costOf_0 : fnD cX5_costOf 0 (.aload_n 0) 1 1 := by decide +kernel
theorem dX5_costOf_1 : fnD cX5_costOf 1 (.iload_n 1) 1 2 := by decide +kernel
theorem dX5_costOf_2 : fnD cX5_costOf 2 (.iload_n 2) 1 3 := by decide +kernel
theorem dX5_costOf_3 : fnD cX5_costOf 3 (.invokevirtual 35) 3 6 := by decide +kernel
theorem dX5_costOf_6 : fnD cX5_costOf 6 (.istore_n 3) 1 7 := by decide +kernel
theorem dX5_costOf_7 : fnD cX5_costOf 7 (.iconst 0) 1 8 := by decide +kernel
theorem dX5_costOf_8 : fnD cX5_costOf 8 (.istore 4) 2 10 := by decide +kernel
theorem dX5_costOf_10 : fnD cX5_costOf 10 (.iload_n 1) 1 11 := by decide +kernel
theorem dX5_costOf_11 : fnD cX5_costOf 11 (.istore 5) 2 13 := by decide +kernel
theorem dX5_costOf_13 : fnD cX5_costOf 13 (.iload 5) 2 15 := by decide +kernel
theorem dX5_costOf_15 : fnD cX5_costOf 15 (.iload_n 2) 1 16 := by decide +kernel
theorem dX5_costOf_16 : fnIc cX5_costOf 16 .ge 42 19 := by decide +kernel
theorem dX5_costOf_19 : fnD cX5_costOf 19 (.iload 4) 2 21 := by decide +kernel
theorem dX5_costOf_21 : fnD cX5_costOf 21 (.aload_n 0) 1 22 := by decide +kernel
theorem dX5_costOf_22 : fnD cX5_costOf 22 (.getfield 15) 3 25 := by decide +kernel
theorem dX5_costOf_25 : fnD cX5_costOf 25 (.iload 5) 2 27 := by decide +kernel
theorem dX5_costOf_27 : fnD cX5_costOf 27 (.iaload) 1 28 := by decide +kernel
theorem dX5_costOf_28 : fnD cX5_costOf 28 (.iload_n 3) 1 29 := by decide +kernel
theorem dX5_costOf_29 : fnD cX5_costOf 29 (.isub) 1 30 := by decide +kernel
theorem dX5_costOf_30 : fnD cX5_costOf 30 (.invokestatic 38) 3 33 := by decide +kernel
theorem dX5_costOf_33 : fnD cX5_costOf 33 (.iadd) 1 34 := by decide +kernel
theorem dX5_costOf_34 : fnD cX5_costOf 34 (.istore 4) 2 36 := by decide +kernel
theorem dX5_costOf_36 : fnD cX5_costOf 36 (.iinc 5 1) 3 39 := by decide +kernel
theorem dX5_costOf_39 : fnGo cX5_costOf 39 13 := by decide +kernel
theorem dX5_costOf_42 : fnD cX5_costOf 42 (.iload 4) 2 44 := by decide +kernel
theorem dX5_costOf_44 : fnD cX5_costOf 44 (.ireturn) 1 45 := by decide +kernel
theorem dX5_middle_0 : fnD cX5_middle 0 (.iconst 0) 1 1 := by decide +kernel
theorem dX5_middle_1 : fnD cX5_middle 1 (.istore_n 3) 1 2 := by decide +kernel
theorem dX5_middle_2 : fnD cX5_middle 2 (.iload_n 1) 1 3 := by decide +kernel
theorem dX5_middle_3 : fnD cX5_middle 3 (.istore 4) 2 5 := by decide +kernel
theorem dX5_middle_5 : fnD cX5_middle 5 (.iload 4) 2 7 := by decide +kernel
theorem dX5_middle_7 : fnD cX5_middle 7 (.iload_n 2) 1 8 := by decide +kernel
theorem dX5_middle_8 : fnIc cX5_middle 8 .ge 83 11 := by decide +kernel
theorem dX5_middle_11 : fnD cX5_middle 11 (.iload_n 3) 1 12 := by decide +kernel
theorem dX5_middle_12 : fnD cX5_middle 12 (.istore 5) 2 14 := by decide +kernel
theorem dX5_middle_14 : fnD cX5_middle 14 (.iload 5) 2 16 := by decide +kernel
theorem dX5_middle_16 : fnIf cX5_middle 16 .le 60 19 := by decide +kernel
theorem dX5_middle_19 : fnD cX5_middle 19 (.aload_n 0) 1 20 := by decide +kernel
theorem dX5_middle_20 : fnD cX5_middle 20 (.getfield 18) 3 23 := by decide +kernel
theorem dX5_middle_23 : fnD cX5_middle 23 (.iload 5) 2 25 := by decide +kernel
theorem dX5_middle_25 : fnD cX5_middle 25 (.iconst 1) 1 26 := by decide +kernel
theorem dX5_middle_26 : fnD cX5_middle 26 (.isub) 1 27 := by decide +kernel
theorem dX5_middle_27 : fnD cX5_middle 27 (.iaload) 1 28 := by decide +kernel
theorem dX5_middle_28 : fnD cX5_middle 28 (.aload_n 0) 1 29 := by decide +kernel
theorem dX5_middle_29 : fnD cX5_middle 29 (.getfield 15) 3 32 := by decide +kernel
theorem dX5_middle_32 : fnD cX5_middle 32 (.iload 4) 2 34 := by decide +kernel
theorem dX5_middle_34 : fnD cX5_middle 34 (.iaload) 1 35 := by decide +kernel
theorem dX5_middle_35 : fnIc cX5_middle 35 .le 60 38 := by decide +kernel
theorem dX5_middle_38 : fnD cX5_middle 38 (.aload_n 0) 1 39 := by decide +kernel
theorem dX5_middle_39 : fnD cX5_middle 39 (.getfield 18) 3 42 := by decide +kernel
theorem dX5_middle_42 : fnD cX5_middle 42 (.iload 5) 2 44 := by decide +kernel
theorem dX5_middle_44 : fnD cX5_middle 44 (.aload_n 0) 1 45 := by decide +kernel
theorem dX5_middle_45 : fnD cX5_middle 45 (.getfield 18) 3 48 := by decide +kernel
theorem dX5_middle_48 : fnD cX5_middle 48 (.iload 5) 2 50 := by decide +kernel
theorem dX5_middle_50 : fnD cX5_middle 50 (.iconst 1) 1 51 := by decide +kernel
theorem dX5_middle_51 : fnD cX5_middle 51 (.isub) 1 52 := by decide +kernel
theorem dX5_middle_52 : fnD cX5_middle 52 (.iaload) 1 53 := by decide +kernel
theorem dX5_middle_53 : fnD cX5_middle 53 (.iastore) 1 54 := by decide +kernel
theorem dX5_middle_54 : fnD cX5_middle 54 (.iinc 5 (-1)) 3 57 := by decide +kernel
theorem dX5_middle_57 : fnGo cX5_middle 57 14 := by decide +kernel
theorem dX5_middle_60 : fnD cX5_middle 60 (.aload_n 0) 1 61 := by decide +kernel
theorem dX5_middle_61 : fnD cX5_middle 61 (.getfield 18) 3 64 := by decide +kernel
theorem dX5_middle_64 : fnD cX5_middle 64 (.iload 5) 2 66 := by decide +kernel
theorem dX5_middle_66 : fnD cX5_middle 66 (.aload_n 0) 1 67 := by decide +kernel
theorem dX5_middle_67 : fnD cX5_middle 67 (.getfield 15) 3 70 := by decide +kernel
theorem dX5_middle_70 : fnD cX5_middle 70 (.iload 4) 2 72 := by decide +kernel
theorem dX5_middle_72 : fnD cX5_middle 72 (.iaload) 1 73 := by decide +kernel
theorem dX5_middle_73 : fnD cX5_middle 73 (.iastore) 1 74 := by decide +kernel
theorem dX5_middle_74 : fnD cX5_middle 74 (.iinc 3 1) 3 77 := by decide +kernel
theorem dX5_middle_77 : fnD cX5_middle 77 (.iinc 4 1) 3 80 := by decide +kernel
theorem dX5_middle_80 : fnGo cX5_middle 80 5 := by decide +kernel
theorem dX5_middle_83 : fnD cX5_middle 83 (.iload_n 3) 1 84 := by decide +kernel
theorem dX5_middle_84 : fnIf cX5_middle 84 .ne 91 87 := by decide +kernel
theorem dX5_middle_87 : fnD cX5_middle 87 (.iconst 0) 1 88 := by decide +kernel
theorem dX5_middle_88 : fnGo cX5_middle 88 101 := by decide +kernel
theorem dX5_middle_91 : fnD cX5_middle 91 (.aload_n 0) 1 92 := by decide +kernel
theorem dX5_middle_92 : fnD cX5_middle 92 (.getfield 18) 3 95 := by decide +kernel
theorem dX5_middle_95 : fnD cX5_middle 95 (.iload_n 3) 1 96 := by decide +kernel
theorem dX5_middle_96 : fnD cX5_middle 96 (.iconst 1) 1 97 := by decide +kernel
theorem dX5_middle_97 : fnD cX5_middle 97 (.isub) 1 98 := by decide +kernel
theorem dX5_middle_98 : fnD cX5_middle 98 (.iconst 2) 1 99 := by decide +kernel
theorem dX5_middle_99 : fnD cX5_middle 99 (.idiv) 1 100 := by decide +kernel
theorem dX5_middle_100 : fnD cX5_middle 100 (.iaload) 1 101 := by decide +kernel
theorem dX5_middle_101 : fnD cX5_middle 101 (.ireturn) 1 102 := by decide +kernel
theorem dX6_init_0 : fnD cX6_init 0 (.aload_n 0) 1 1 := by decide +kernel
theorem dX6_init_1 : fnD cX6_init 1 (.invokespecial 3) 3 4 := by decide +kernel
theorem dX6_init_4 : fnD cX6_init 4 (.aload_n 0) 1 5 := by decide +kernel
theorem dX6_init_5 : fnD cX6_init 5 (.bipush 6) 2 7 := by decide +kernel
theorem dX6_init_7 : fnD cX6_init 7 (.newarray .int) 2 9 := by decide +kernel
theorem dX6_init_9 : fnD cX6_init 9 (.putfield 9) 3 12 := by decide +kernel
theorem dX6_init_12 : fnD cX6_init 12 (.aload_n 0) 1 13 := by decide +kernel
theorem dX6_init_13 : fnD cX6_init 13 (.iconst 4) 1 14 := by decide +kernel
theorem dX6_init_14 : fnD cX6_init 14 (.newarray .int) 2 16 := by decide +kernel
theorem dX6_init_16 : fnD cX6_init 16 (.putfield 15) 3 19 := by decide +kernel
theorem dX6_init_19 : fnD cX6_init 19 (.aload_n 0) 1 20 := by decide +kernel
theorem dX6_init_20 : fnD cX6_init 20 (.bipush 6) 2 22 := by decide +kernel
theorem dX6_init_22 : fnD cX6_init 22 (.newarray .int) 2 24 := by decide +kernel
theorem dX6_init_24 : fnD cX6_init 24 (.putfield 18) 3 27 := by decide +kernel
theorem dX6_init_27 : fnD cX6_init 27 (.aload_n 0) 1 28 := by decide +kernel
theorem dX6_init_28 : fnD cX6_init 28 (.bipush 6) 2 30 := by decide +kernel
theorem dX6_init_30 : fnD cX6_init 30 (.newarray .int) 2 32 := by decide +kernel
theorem dX6_init_32 : fnD cX6_init 32 (.putfield 21) 3 35 := by decide +kernel
theorem dX6_init_35 : fnD cX6_init 35 (.aload_n 0) 1 36 := by decide +kernel
theorem dX6_init_36 : fnD cX6_init 36 (.bipush 6) 2 38 := by decide +kernel
theorem dX6_init_38 : fnD cX6_init 38 (.newarray .boolean) 2 40 := by decide +kernel
theorem dX6_init_40 : fnD cX6_init 40 (.putfield 24) 3 43 := by decide +kernel
theorem dX6_init_43 : fnD cX6_init 43 (.aload_n 0) 1 44 := by decide +kernel
theorem dX6_init_44 : fnD cX6_init 44 (.sipush (-2009)) 3 47 := by decide +kernel
theorem dX6_init_47 : fnD cX6_init 47 (.putfield 28) 3 50 := by decide +kernel
theorem dX6_init_50 : fnD cX6_init 50 (.aload_n 0) 1 51 := by decide +kernel
theorem dX6_init_51 : fnD cX6_init 51 (.iconst 0) 1 52 := by decide +kernel
theorem dX6_init_52 : fnD cX6_init 52 (.putfield 32) 3 55 := by decide +kernel
theorem dX6_init_55 : fnD cX6_init 55 (.return_) 1 56 := by decide +kernel
theorem dX6_pullOfBar_0 : fnD cX6_pullOfBar 0 (.iload_n 1) 1 1 := by decide +kernel
theorem dX6_pullOfBar_1 : fnIf cX6_pullOfBar 1 .gt 8 4 := by decide +kernel
theorem dX6_pullOfBar_4 : fnD cX6_pullOfBar 4 (.iconst 0) 1 5 := by decide +kernel
theorem dX6_pullOfBar_5 : fnGo cX6_pullOfBar 5 15 := by decide +kernel
theorem dX6_pullOfBar_8 : fnD cX6_pullOfBar 8 (.iload_n 0) 1 9 := by decide +kernel
theorem dX6_pullOfBar_9 : fnD cX6_pullOfBar 9 (.iload_n 1) 1 10 := by decide +kernel
theorem dX6_pullOfBar_10 : fnD cX6_pullOfBar 10 (.iload_n 1) 1 11 := by decide +kernel
theorem dX6_pullOfBar_11 : fnD cX6_pullOfBar 11 (.imul) 1 12 := by decide +kernel
theorem dX6_pullOfBar_12 : fnD cX6_pullOfBar 12 (.iload_n 1) 1 13 := by decide +kernel
theorem dX6_pullOfBar_13 : fnD cX6_pullOfBar 13 (.imul) 1 14 := by decide +kernel
theorem dX6_pullOfBar_14 : fnD cX6_pullOfBar 14 (.idiv) 1 15 := by decide +kernel
theorem dX6_pullOfBar_15 : fnD cX6_pullOfBar 15 (.ireturn) 1 16 := by decide +kernel
theorem dX6_pullOfBall_0 : fnD cX6_pullOfBall 0 (.iload_n 1) 1 1 := by decide +kernel
theorem dX6_pullOfBall_1 : fnIf cX6_pullOfBall 1 .gt 8 4 := by decide +kernel
theorem dX6_pullOfBall_4 : fnD cX6_pullOfBall 4 (.iconst 0) 1 5 := by decide +kernel
theorem dX6_pullOfBall_5 : fnGo cX6_pullOfBall 5 16 := by decide +kernel
theorem dX6_pullOfBall_8 : fnD cX6_pullOfBall 8 (.bipush 20) 2 10 := by decide +kernel
theorem dX6_pullOfBall_10 : fnD cX6_pullOfBall 10 (.iload_n 0) 1 11 := by decide +kernel
theorem dX6_pullOfBall_11 : fnD cX6_pullOfBall 11 (.imul) 1 12 := by decide +kernel
theorem dX6_pullOfBall_12 : fnD cX6_pullOfBall 12 (.iload_n 0) 1 13 := by decide +kernel
theorem dX6_pullOfBall_13 : fnD cX6_pullOfBall 13 (.imul) 1 14 := by decide +kernel
theorem dX6_pullOfBall_14 : fnD cX6_pullOfBall 14 (.iload_n 1) 1 15 := by decide +kernel
theorem dX6_pullOfBall_15 : fnD cX6_pullOfBall 15 (.idiv) 1 16 := by decide +kernel
theorem dX6_pullOfBall_16 : fnD cX6_pullOfBall 16 (.ireturn) 1 17 := by decide +kernel
theorem dX6_isBarLaid_0 : fnD cX6_isBarLaid 0 (.aload_n 0) 1 1 := by decide +kernel
theorem dX6_isBarLaid_1 : fnD cX6_isBarLaid 1 (.getfield 18) 3 4 := by decide +kernel
theorem dX6_isBarLaid_4 : fnD cX6_isBarLaid 4 (.iload_n 1) 1 5 := by decide +kernel
theorem dX6_isBarLaid_5 : fnD cX6_isBarLaid 5 (.iaload) 1 6 := by decide +kernel
theorem dX6_isBarLaid_6 : fnIf cX6_isBarLaid 6 .eq 13 9 := by decide +kernel
theorem dX6_isBarLaid_9 : fnD cX6_isBarLaid 9 (.iconst 1) 1 10 := by decide +kernel
theorem dX6_isBarLaid_10 : fnGo cX6_isBarLaid 10 14 := by decide +kernel
theorem dX6_isBarLaid_13 : fnD cX6_isBarLaid 13 (.iconst 0) 1 14 := by decide +kernel
theorem dX6_isBarLaid_14 : fnD cX6_isBarLaid 14 (.ireturn) 1 15 := by decide +kernel
theorem dX6_setBar_0 : fnD cX6_setBar 0 (.aload_n 0) 1 1 := by decide +kernel
theorem dX6_setBar_1 : fnD cX6_setBar 1 (.getfield 21) 3 4 := by decide +kernel
theorem dX6_setBar_4 : fnD cX6_setBar 4 (.iload_n 1) 1 5 := by decide +kernel
theorem dX6_setBar_5 : fnD cX6_setBar 5 (.iload_n 2) 1 6 := by decide +kernel
theorem dX6_setBar_6 : fnD cX6_setBar 6 (.iastore) 1 7 := by decide +kernel
theorem dX6_setBar_7 : fnD cX6_setBar 7 (.aload_n 0) 1 8 := by decide +kernel
theorem dX6_setBar_8 : fnD cX6_setBar 8 (.getfield 18) 3 11 := by decide +kernel
theorem dX6_setBar_11 : fnD cX6_setBar 11 (.iload_n 1) 1 12 := by decide +kernel
theorem dX6_setBar_12 : fnD cX6_setBar 12 (.iload_n 3) 1 13 := by decide +kernel
theorem dX6_setBar_13 : fnD cX6_setBar 13 (.iastore) 1 14 := by decide +kernel
theorem dX6_setBar_14 : fnD cX6_setBar 14 (.aload_n 0) 1 15 := by decide +kernel
theorem dX6_setBar_15 : fnD cX6_setBar 15 (.getfield 24) 3 18 := by decide +kernel
theorem dX6_setBar_18 : fnD cX6_setBar 18 (.iload_n 1) 1 19 := by decide +kernel
theorem dX6_setBar_19 : fnD cX6_setBar 19 (.iload 4) 2 21 := by decide +kernel
theorem dX6_setBar_21 : fnD cX6_setBar 21 (.bastore) 1 22 := by decide +kernel
theorem dX6_setBar_22 : fnD cX6_setBar 22 (.return_) 1 23 := by decide +kernel
theorem dX6_setBall_0 : fnD cX6_setBall 0 (.aload_n 0) 1 1 := by decide +kernel
theorem dX6_setBall_1 : fnD cX6_setBall 1 (.iload_n 1) 1 2 := by decide +kernel
theorem dX6_setBall_2 : fnD cX6_setBall 2 (.putfield 28) 3 5 := by decide +kernel
theorem dX6_setBall_5 : fnD cX6_setBall 5 (.aload_n 0) 1 6 := by decide +kernel
theorem dX6_setBall_6 : fnD cX6_setBall 6 (.iload_n 2) 1 7 := by decide +kernel
theorem dX6_setBall_7 : fnD cX6_setBall 7 (.putfield 32) 3 10 := by decide +kernel
theorem dX6_setBall_10 : fnD cX6_setBall 10 (.return_) 1 11 := by decide +kernel
theorem dX6_setBarByCode_0 : fnD cX6_setBarByCode 0 (.iload_n 1) 1 1 := by decide +kernel
theorem dX6_setBarByCode_1 : fnD cX6_setBarByCode 1 (.invokestatic 35) 3 4 := by decide +kernel
theorem dX6_setBarByCode_4 : fnD cX6_setBarByCode 4 (.istore_n 3) 1 5 := by decide +kernel
theorem dX6_setBarByCode_5 : fnD cX6_setBarByCode 5 (.iload_n 3) 1 6 := by decide +kernel
theorem dX6_setBarByCode_6 : fnD cX6_setBarByCode 6 (.invokestatic 39) 3 9 := by decide +kernel
theorem dX6_setBarByCode_9 : fnIf cX6_setBarByCode 9 .eq 26 12 := by decide +kernel
theorem dX6_setBarByCode_12 : fnD cX6_setBarByCode 12 (.aload_n 0) 1 13 := by decide +kernel
theorem dX6_setBarByCode_13 : fnD cX6_setBarByCode 13 (.iload_n 3) 1 14 := by decide +kernel
theorem dX6_setBarByCode_14 : fnD cX6_setBarByCode 14 (.iload_n 2) 1 15 := by decide +kernel
theorem dX6_setBarByCode_15 : fnD cX6_setBarByCode 15 (.iload_n 1) 1 16 := by decide +kernel
theorem dX6_setBarByCode_16 : fnD cX6_setBarByCode 16 (.invokestatic 43) 3 19 := by decide +kernel
theorem dX6_setBarByCode_19 : fnD cX6_setBarByCode 19 (.iload_n 1) 1 20 := by decide +kernel
theorem dX6_setBarByCode_20 : fnD cX6_setBarByCode 20 (.invokestatic 46) 3 23 := by decide +kernel
theorem dX6_setBarByCode_23 : fnD cX6_setBarByCode 23 (.invokevirtual 49) 3 26 := by decide +kernel
theorem dX6_setBarByCode_26 : fnD cX6_setBarByCode 26 (.return_) 1 27 := by decide +kernel
theorem dX6_setBallByCode_0 : fnD cX6_setBallByCode 0 (.iload_n 1) 1 1 := by decide +kernel
theorem dX6_setBallByCode_1 : fnD cX6_setBallByCode 1 (.invokestatic 53) 3 4 := by decide +kernel
theorem dX6_setBallByCode_4 : fnD cX6_setBallByCode 4 (.istore_n 2) 1 5 := by decide +kernel
theorem dX6_setBallByCode_5 : fnD cX6_setBallByCode 5 (.iload_n 2) 1 6 := by decide +kernel
theorem dX6_setBallByCode_6 : fnD cX6_setBallByCode 6 (.invokestatic 56) 3 9 := by decide +kernel
theorem dX6_setBallByCode_9 : fnIf cX6_setBallByCode 9 .eq 21 12 := by decide +kernel
theorem dX6_setBallByCode_12 : fnD cX6_setBallByCode 12 (.aload_n 0) 1 13 := by decide +kernel
theorem dX6_setBallByCode_13 : fnD cX6_setBallByCode 13 (.iload_n 2) 1 14 := by decide +kernel
theorem dX6_setBallByCode_14 : fnD cX6_setBallByCode 14 (.iload_n 1) 1 15 := by decide +kernel
theorem dX6_setBallByCode_15 : fnD cX6_setBallByCode 15 (.invokestatic 59) 3 18 := by decide +kernel
theorem dX6_setBallByCode_18 : fnD cX6_setBallByCode 18 (.invokevirtual 62) 3 21 := by decide +kernel
theorem dX6_setBallByCode_21 : fnD cX6_setBallByCode 21 (.return_) 1 22 := by decide +kernel
theorem dX6_clearLaid_0 : fnD cX6_clearLaid 0 (.aload_n 0) 1 1 := by decide +kernel
theorem dX6_clearLaid_1 : fnD cX6_clearLaid 1 (.getfield 18) 3 4 := by decide +kernel
theorem dX6_clearLaid_4 : fnD cX6_clearLaid 4 (.iconst 0) 1 5 := by decide +kernel
theorem dX6_clearLaid_5 : fnD cX6_clearLaid 5 (.invokestatic 66) 3 8 := by decide +kernel
theorem dX6_clearLaid_8 : fnD cX6_clearLaid 8 (.aload_n 0) 1 9 := by decide +kernel
theorem dX6_clearLaid_9 : fnD cX6_clearLaid 9 (.sipush (-2009)) 3 12 := by decide +kernel
theorem dX6_clearLaid_12 : fnD cX6_clearLaid 12 (.putfield 28) 3 15 := by decide +kernel
theorem dX6_clearLaid_15 : fnD cX6_clearLaid 15 (.aload_n 0) 1 16 := by decide +kernel
theorem dX6_clearLaid_16 : fnD cX6_clearLaid 16 (.iconst 0) 1 17 := by decide +kernel
theorem dX6_clearLaid_17 : fnD cX6_clearLaid 17 (.putfield 32) 3 20 := by decide +kernel
theorem dX6_clearLaid_20 : fnD cX6_clearLaid 20 (.return_) 1 21 := by decide +kernel
theorem dX6_howManyLaid_0 : fnD cX6_howManyLaid 0 (.aload_n 0) 1 1 := by decide +kernel
theorem dX6_howManyLaid_1 : fnD cX6_howManyLaid 1 (.getfield 28) 3 4 := by decide +kernel
theorem dX6_howManyLaid_4 : fnD cX6_howManyLaid 4 (.sipush (-2009)) 3 7 := by decide +kernel
theorem dX6_howManyLaid_7 : fnIc cX6_howManyLaid 7 .ne 14 10 := by decide +kernel
theorem dX6_howManyLaid_10 : fnD cX6_howManyLaid 10 (.iconst 0) 1 11 := by decide +kernel
theorem dX6_howManyLaid_11 : fnGo cX6_howManyLaid 11 15 := by decide +kernel
theorem dX6_howManyLaid_14 : fnD cX6_howManyLaid 14 (.iconst 1) 1 15 := by decide +kernel
theorem dX6_howManyLaid_15 : fnD cX6_howManyLaid 15 (.istore_n 1) 1 16 := by decide +kernel
theorem dX6_howManyLaid_16 : fnD cX6_howManyLaid 16 (.iconst 0) 1 17 := by decide +kernel
theorem dX6_howManyLaid_17 : fnD cX6_howManyLaid 17 (.istore_n 2) 1 18 := by decide +kernel
theorem dX6_howManyLaid_18 : fnD cX6_howManyLaid 18 (.iload_n 2) 1 19 := by decide +kernel
theorem dX6_howManyLaid_19 : fnD cX6_howManyLaid 19 (.bipush 6) 2 21 := by decide +kernel
theorem dX6_howManyLaid_21 : fnIc cX6_howManyLaid 21 .ge 46 24 := by decide +kernel
theorem dX6_howManyLaid_24 : fnD cX6_howManyLaid 24 (.iload_n 1) 1 25 := by decide +kernel
theorem dX6_howManyLaid_25 : fnD cX6_howManyLaid 25 (.aload_n 0) 1 26 := by decide +kernel
theorem dX6_howManyLaid_26 : fnD cX6_howManyLaid 26 (.iload_n 2) 1 27 := by decide +kernel
theorem dX6_howManyLaid_27 : fnD cX6_howManyLaid 27 (.invokevirtual 72) 3 30 := by decide +kernel
theorem dX6_howManyLaid_30 : fnIf cX6_howManyLaid 30 .eq 37 33 := by decide +kernel
theorem dX6_howManyLaid_33 : fnD cX6_howManyLaid 33 (.iconst 1) 1 34 := by decide +kernel
theorem dX6_howManyLaid_34 : fnGo cX6_howManyLaid 34 38 := by decide +kernel
theorem dX6_howManyLaid_37 : fnD cX6_howManyLaid 37 (.iconst 0) 1 38 := by decide +kernel
theorem dX6_howManyLaid_38 : fnD cX6_howManyLaid 38 (.iadd) 1 39 := by decide +kernel
theorem dX6_howManyLaid_39 : fnD cX6_howManyLaid 39 (.istore_n 1) 1 40 := by decide +kernel
theorem dX6_howManyLaid_40 : fnD cX6_howManyLaid 40 (.iinc 2 1) 3 43 := by decide +kernel
theorem dX6_howManyLaid_43 : fnGo cX6_howManyLaid 43 18 := by decide +kernel
theorem dX6_howManyLaid_46 : fnD cX6_howManyLaid 46 (.iload_n 1) 1 47 := by decide +kernel
theorem dX6_howManyLaid_47 : fnD cX6_howManyLaid 47 (.ireturn) 1 48 := by decide +kernel
theorem dX6_howManyStored_0 : fnD cX6_howManyStored 0 (.iconst 0) 1 1 := by decide +kernel
theorem dX6_howManyStored_1 : fnD cX6_howManyStored 1 (.istore_n 1) 1 2 := by decide +kernel
theorem dX6_howManyStored_2 : fnD cX6_howManyStored 2 (.iconst 0) 1 3 := by decide +kernel
theorem dX6_howManyStored_3 : fnD cX6_howManyStored 3 (.istore_n 2) 1 4 := by decide +kernel
theorem dX6_howManyStored_4 : fnD cX6_howManyStored 4 (.iload_n 2) 1 5 := by decide +kernel
theorem dX6_howManyStored_5 : fnD cX6_howManyStored 5 (.bipush 6) 2 7 := by decide +kernel
theorem dX6_howManyStored_7 : fnIc cX6_howManyStored 7 .ge 33 10 := by decide +kernel
theorem dX6_howManyStored_10 : fnD cX6_howManyStored 10 (.iload_n 1) 1 11 := by decide +kernel
theorem dX6_howManyStored_11 : fnD cX6_howManyStored 11 (.aload_n 0) 1 12 := by decide +kernel
theorem dX6_howManyStored_12 : fnD cX6_howManyStored 12 (.getfield 9) 3 15 := by decide +kernel
theorem dX6_howManyStored_15 : fnD cX6_howManyStored 15 (.iload_n 2) 1 16 := by decide +kernel
theorem dX6_howManyStored_16 : fnD cX6_howManyStored 16 (.iaload) 1 17 := by decide +kernel
theorem dX6_howManyStored_17 : fnIf cX6_howManyStored 17 .ne 24 20 := by decide +kernel
theorem dX6_howManyStored_20 : fnD cX6_howManyStored 20 (.iconst 0) 1 21 := by decide +kernel
theorem dX6_howManyStored_21 : fnGo cX6_howManyStored 21 25 := by decide +kernel
theorem dX6_howManyStored_24 : fnD cX6_howManyStored 24 (.iconst 1) 1 25 := by decide +kernel
theorem dX6_howManyStored_25 : fnD cX6_howManyStored 25 (.iadd) 1 26 := by decide +kernel
theorem dX6_howManyStored_26 : fnD cX6_howManyStored 26 (.istore_n 1) 1 27 := by decide +kernel
theorem dX6_howManyStored_27 : fnD cX6_howManyStored 27 (.iinc 2 1) 3 30 := by decide +kernel
theorem dX6_howManyStored_30 : fnGo cX6_howManyStored 30 4 := by decide +kernel
theorem dX6_howManyStored_33 : fnD cX6_howManyStored 33 (.iconst 0) 1 34 := by decide +kernel
theorem dX6_howManyStored_34 : fnD cX6_howManyStored 34 (.istore_n 2) 1 35 := by decide +kernel
theorem dX6_howManyStored_35 : fnD cX6_howManyStored 35 (.iload_n 2) 1 36 := by decide +kernel
theorem dX6_howManyStored_36 : fnD cX6_howManyStored 36 (.iconst 4) 1 37 := by decide +kernel
theorem dX6_howManyStored_37 : fnIc cX6_howManyStored 37 .ge 63 40 := by decide +kernel
theorem dX6_howManyStored_40 : fnD cX6_howManyStored 40 (.iload_n 1) 1 41 := by decide +kernel
theorem dX6_howManyStored_41 : fnD cX6_howManyStored 41 (.aload_n 0) 1 42 := by decide +kernel
theorem dX6_howManyStored_42 : fnD cX6_howManyStored 42 (.getfield 15) 3 45 := by decide +kernel
theorem dX6_howManyStored_45 : fnD cX6_howManyStored 45 (.iload_n 2) 1 46 := by decide +kernel
theorem dX6_howManyStored_46 : fnD cX6_howManyStored 46 (.iaload) 1 47 := by decide +kernel
theorem dX6_howManyStored_47 : fnIf cX6_howManyStored 47 .ne 54 50 := by decide +kernel
theorem dX6_howManyStored_50 : fnD cX6_howManyStored 50 (.iconst 0) 1 51 := by decide +kernel
theorem dX6_howManyStored_51 : fnGo cX6_howManyStored 51 55 := by decide +kernel
theorem dX6_howManyStored_54 : fnD cX6_howManyStored 54 (.iconst 1) 1 55 := by decide +kernel
theorem dX6_howManyStored_55 : fnD cX6_howManyStored 55 (.iadd) 1 56 := by decide +kernel
theorem dX6_howManyStored_56 : fnD cX6_howManyStored 56 (.istore_n 1) 1 57 := by decide +kernel
theorem dX6_howManyStored_57 : fnD cX6_howManyStored 57 (.iinc 2 1) 3 60 := by decide +kernel
theorem dX6_howManyStored_60 : fnGo cX6_howManyStored 60 35 := by decide +kernel
theorem dX6_howManyStored_63 : fnD cX6_howManyStored 63 (.iload_n 1) 1 64 := by decide +kernel
theorem dX6_howManyStored_64 : fnD cX6_howManyStored 64 (.ireturn) 1 65 := by decide +kernel
theorem dX6_pullOnAxis_0 : fnD cX6_pullOnAxis 0 (.iconst 0) 1 1 := by decide +kernel
theorem dX6_pullOnAxis_1 : fnD cX6_pullOnAxis 1 (.istore_n 2) 1 2 := by decide +kernel
theorem dX6_pullOnAxis_2 : fnD cX6_pullOnAxis 2 (.iconst 0) 1 3 := by decide +kernel
theorem dX6_pullOnAxis_3 : fnD cX6_pullOnAxis 3 (.istore_n 3) 1 4 := by decide +kernel
theorem dX6_pullOnAxis_4 : fnD cX6_pullOnAxis 4 (.iload_n 3) 1 5 := by decide +kernel
theorem dX6_pullOnAxis_5 : fnD cX6_pullOnAxis 5 (.bipush 6) 2 7 := by decide +kernel
theorem dX6_pullOnAxis_7 : fnIc cX6_pullOnAxis 7 .ge 71 10 := by decide +kernel
theorem dX6_pullOnAxis_10 : fnD cX6_pullOnAxis 10 (.aload_n 0) 1 11 := by decide +kernel
theorem dX6_pullOnAxis_11 : fnD cX6_pullOnAxis 11 (.iload_n 3) 1 12 := by decide +kernel
theorem dX6_pullOnAxis_12 : fnD cX6_pullOnAxis 12 (.invokevirtual 72) 3 15 := by decide +kernel
theorem dX6_pullOnAxis_15 : fnIf cX6_pullOnAxis 15 .eq 65 18 := by decide +kernel
theorem dX6_pullOnAxis_18 : fnD cX6_pullOnAxis 18 (.aload_n 0) 1 19 := by decide +kernel
theorem dX6_pullOnAxis_19 : fnD cX6_pullOnAxis 19 (.getfield 21) 3 22 := by decide +kernel
theorem dX6_pullOnAxis_22 : fnD cX6_pullOnAxis 22 (.iload_n 3) 1 23 := by decide +kernel
theorem dX6_pullOnAxis_23 : fnD cX6_pullOnAxis 23 (.iaload) 1 24 := by decide +kernel
theorem dX6_pullOnAxis_24 : fnD cX6_pullOnAxis 24 (.iload_n 1) 1 25 := by decide +kernel
theorem dX6_pullOnAxis_25 : fnIc cX6_pullOnAxis 25 .ne 65 28 := by decide +kernel
theorem dX6_pullOnAxis_28 : fnD cX6_pullOnAxis 28 (.aload_n 0) 1 29 := by decide +kernel
theorem dX6_pullOnAxis_29 : fnD cX6_pullOnAxis 29 (.getfield 9) 3 32 := by decide +kernel
theorem dX6_pullOnAxis_32 : fnD cX6_pullOnAxis 32 (.iload_n 3) 1 33 := by decide +kernel
theorem dX6_pullOnAxis_33 : fnD cX6_pullOnAxis 33 (.iaload) 1 34 := by decide +kernel
theorem dX6_pullOnAxis_34 : fnD cX6_pullOnAxis 34 (.aload_n 0) 1 35 := by decide +kernel
theorem dX6_pullOnAxis_35 : fnD cX6_pullOnAxis 35 (.getfield 18) 3 38 := by decide +kernel
theorem dX6_pullOnAxis_38 : fnD cX6_pullOnAxis 38 (.iload_n 3) 1 39 := by decide +kernel
theorem dX6_pullOnAxis_39 : fnD cX6_pullOnAxis 39 (.iaload) 1 40 := by decide +kernel
theorem dX6_pullOnAxis_40 : fnD cX6_pullOnAxis 40 (.invokestatic 75) 3 43 := by decide +kernel
theorem dX6_pullOnAxis_43 : fnD cX6_pullOnAxis 43 (.istore 4) 2 45 := by decide +kernel
theorem dX6_pullOnAxis_45 : fnD cX6_pullOnAxis 45 (.iload_n 2) 1 46 := by decide +kernel
theorem dX6_pullOnAxis_46 : fnD cX6_pullOnAxis 46 (.aload_n 0) 1 47 := by decide +kernel
theorem dX6_pullOnAxis_47 : fnD cX6_pullOnAxis 47 (.getfield 24) 3 50 := by decide +kernel
theorem dX6_pullOnAxis_50 : fnD cX6_pullOnAxis 50 (.iload_n 3) 1 51 := by decide +kernel
theorem dX6_pullOnAxis_51 : fnD cX6_pullOnAxis 51 (.baload) 1 52 := by decide +kernel
theorem dX6_pullOnAxis_52 : fnIf cX6_pullOnAxis 52 .eq 61 55 := by decide +kernel
theorem dX6_pullOnAxis_55 : fnD cX6_pullOnAxis 55 (.iload 4) 2 57 := by decide +kernel
theorem dX6_pullOnAxis_57 : fnD cX6_pullOnAxis 57 (.ineg) 1 58 := by decide +kernel
theorem dX6_pullOnAxis_58 : fnGo cX6_pullOnAxis 58 63 := by decide +kernel
theorem dX6_pullOnAxis_61 : fnD cX6_pullOnAxis 61 (.iload 4) 2 63 := by decide +kernel
theorem dX6_pullOnAxis_63 : fnD cX6_pullOnAxis 63 (.iadd) 1 64 := by decide +kernel
theorem dX6_pullOnAxis_64 : fnD cX6_pullOnAxis 64 (.istore_n 2) 1 65 := by decide +kernel
theorem dX6_pullOnAxis_65 : fnD cX6_pullOnAxis 65 (.iinc 3 1) 3 68 := by decide +kernel
theorem dX6_pullOnAxis_68 : fnGo cX6_pullOnAxis 68 4 := by decide +kernel
theorem dX6_pullOnAxis_71 : fnD cX6_pullOnAxis 71 (.iload_n 2) 1 72 := by decide +kernel
theorem dX6_pullOnAxis_72 : fnD cX6_pullOnAxis 72 (.ireturn) 1 73 := by decide +kernel
theorem dX6_pullOfLaidBall_0 : fnD cX6_pullOfLaidBall 0 (.aload_n 0) 1 1 := by decide +kernel
theorem dX6_pullOfLaidBall_1 : fnD cX6_pullOfLaidBall 1 (.getfield 28) 3 4 := by decide +kernel
theorem dX6_pullOfLaidBall_4 : fnD cX6_pullOfLaidBall 4 (.invokestatic 56) 3 7 := by decide +kernel
theorem dX6_pullOfLaidBall_7 : fnIf cX6_pullOfLaidBall 7 .eq 29 10 := by decide +kernel
theorem dX6_pullOfLaidBall_10 : fnD cX6_pullOfLaidBall 10 (.aload_n 0) 1 11 := by decide +kernel
theorem dX6_pullOfLaidBall_11 : fnD cX6_pullOfLaidBall 11 (.getfield 15) 3 14 := by decide +kernel
theorem dX6_pullOfLaidBall_14 : fnD cX6_pullOfLaidBall 14 (.aload_n 0) 1 15 := by decide +kernel
theorem dX6_pullOfLaidBall_15 : fnD cX6_pullOfLaidBall 15 (.getfield 28) 3 18 := by decide +kernel
theorem dX6_pullOfLaidBall_18 : fnD cX6_pullOfLaidBall 18 (.iaload) 1 19 := by decide +kernel
theorem dX6_pullOfLaidBall_19 : fnD cX6_pullOfLaidBall 19 (.aload_n 0) 1 20 := by decide +kernel
theorem dX6_pullOfLaidBall_20 : fnD cX6_pullOfLaidBall 20 (.getfield 32) 3 23 := by decide +kernel
theorem dX6_pullOfLaidBall_23 : fnD cX6_pullOfLaidBall 23 (.invokestatic 79) 3 26 := by decide +kernel
theorem dX6_pullOfLaidBall_26 : fnGo cX6_pullOfLaidBall 26 30 := by decide +kernel
theorem dX6_pullOfLaidBall_29 : fnD cX6_pullOfLaidBall 29 (.iconst 0) 1 30 := by decide +kernel
theorem dX6_pullOfLaidBall_30 : fnD cX6_pullOfLaidBall 30 (.ireturn) 1 31 := by decide +kernel
theorem dX6_barOfCode_0 : fnD cX6_barOfCode 0 (.iload_n 0) 1 1 := by decide +kernel
theorem dX6_barOfCode_1 : fnIf cX6_barOfCode 1 .gt 10 4 := by decide +kernel
theorem dX6_barOfCode_4 : fnD cX6_barOfCode 4 (.sipush (-2009)) 3 7 := by decide +kernel
theorem dX6_barOfCode_7 : fnGo cX6_barOfCode 7 16 := by decide +kernel
theorem dX6_barOfCode_10 : fnD cX6_barOfCode 10 (.iload_n 0) 1 11 := by decide +kernel
theorem dX6_barOfCode_11 : fnD cX6_barOfCode 11 (.iconst 1) 1 12 := by decide +kernel
theorem dX6_barOfCode_12 : fnD cX6_barOfCode 12 (.isub) 1 13 := by decide +kernel
theorem dX6_barOfCode_13 : fnD cX6_barOfCode 13 (.bipush 16) 2 15 := by decide +kernel
theorem dX6_barOfCode_15 : fnD cX6_barOfCode 15 (.idiv) 1 16 := by decide +kernel
theorem dX6_barOfCode_16 : fnD cX6_barOfCode 16 (.ireturn) 1 17 := by decide +kernel
theorem dX6_barSlotOfCode_0 : fnD cX6_barSlotOfCode 0 (.iconst 2) 1 1 := by decide +kernel
theorem dX6_barSlotOfCode_1 : fnD cX6_barSlotOfCode 1 (.iload_n 0) 1 2 := by decide +kernel
theorem dX6_barSlotOfCode_2 : fnD cX6_barSlotOfCode 2 (.iconst 1) 1 3 := by decide +kernel
theorem dX6_barSlotOfCode_3 : fnD cX6_barSlotOfCode 3 (.isub) 1 4 := by decide +kernel
theorem dX6_barSlotOfCode_4 : fnD cX6_barSlotOfCode 4 (.bipush 16) 2 6 := by decide +kernel
theorem dX6_barSlotOfCode_6 : fnD cX6_barSlotOfCode 6 (.irem) 1 7 := by decide +kernel
theorem dX6_barSlotOfCode_7 : fnD cX6_barSlotOfCode 7 (.iconst 2) 1 8 := by decide +kernel
theorem dX6_barSlotOfCode_8 : fnD cX6_barSlotOfCode 8 (.idiv) 1 9 := by decide +kernel
theorem dX6_barSlotOfCode_9 : fnD cX6_barSlotOfCode 9 (.iadd) 1 10 := by decide +kernel
theorem dX6_barSlotOfCode_10 : fnD cX6_barSlotOfCode 10 (.ireturn) 1 11 := by decide +kernel
theorem dX6_isTurnedCode_0 : fnD cX6_isTurnedCode 0 (.iload_n 0) 1 1 := by decide +kernel
theorem dX6_isTurnedCode_1 : fnD cX6_isTurnedCode 1 (.iconst 1) 1 2 := by decide +kernel
theorem dX6_isTurnedCode_2 : fnD cX6_isTurnedCode 2 (.isub) 1 3 := by decide +kernel
theorem dX6_isTurnedCode_3 : fnD cX6_isTurnedCode 3 (.iconst 2) 1 4 := by decide +kernel
theorem dX6_isTurnedCode_4 : fnD cX6_isTurnedCode 4 (.irem) 1 5 := by decide +kernel
theorem dX6_isTurnedCode_5 : fnD cX6_isTurnedCode 5 (.iconst 1) 1 6 := by decide +kernel
theorem dX6_isTurnedCode_6 : fnIc cX6_isTurnedCode 6 .ne 13 9 := by decide +kernel
theorem dX6_isTurnedCode_9 : fnD cX6_isTurnedCode 9 (.iconst 1) 1 10 := by decide +kernel
theorem dX6_isTurnedCode_10 : fnGo cX6_isTurnedCode 10 14 := by decide +kernel
theorem dX6_isTurnedCode_13 : fnD cX6_isTurnedCode 13 (.iconst 0) 1 14 := by decide +kernel
theorem dX6_isTurnedCode_14 : fnD cX6_isTurnedCode 14 (.ireturn) 1 15 := by decide +kernel
theorem dX6_ballOfCode_0 : fnD cX6_ballOfCode 0 (.iload_n 0) 1 1 := by decide +kernel
theorem dX6_ballOfCode_1 : fnIf cX6_ballOfCode 1 .gt 10 4 := by decide +kernel
theorem dX6_ballOfCode_4 : fnD cX6_ballOfCode 4 (.sipush (-2009)) 3 7 := by decide +kernel
theorem dX6_ballOfCode_7 : fnGo cX6_ballOfCode 7 16 := by decide +kernel
theorem dX6_ballOfCode_10 : fnD cX6_ballOfCode 10 (.iload_n 0) 1 11 := by decide +kernel
theorem dX6_ballOfCode_11 : fnD cX6_ballOfCode 11 (.iconst 1) 1 12 := by decide +kernel
theorem dX6_ballOfCode_12 : fnD cX6_ballOfCode 12 (.isub) 1 13 := by decide +kernel
theorem dX6_ballOfCode_13 : fnD cX6_ballOfCode 13 (.bipush 19) 2 15 := by decide +kernel
theorem dX6_ballOfCode_15 : fnD cX6_ballOfCode 15 (.idiv) 1 16 := by decide +kernel
theorem dX6_ballOfCode_16 : fnD cX6_ballOfCode 16 (.ireturn) 1 17 := by decide +kernel
theorem dX6_ballSlotOfCode_0 : fnD cX6_ballSlotOfCode 0 (.iconst 2) 1 1 := by decide +kernel
theorem dX6_ballSlotOfCode_1 : fnD cX6_ballSlotOfCode 1 (.iload_n 0) 1 2 := by decide +kernel
theorem dX6_ballSlotOfCode_2 : fnD cX6_ballSlotOfCode 2 (.iconst 1) 1 3 := by decide +kernel
theorem dX6_ballSlotOfCode_3 : fnD cX6_ballSlotOfCode 3 (.isub) 1 4 := by decide +kernel
theorem dX6_ballSlotOfCode_4 : fnD cX6_ballSlotOfCode 4 (.bipush 19) 2 6 := by decide +kernel
theorem dX6_ballSlotOfCode_6 : fnD cX6_ballSlotOfCode 6 (.irem) 1 7 := by decide +kernel
theorem dX6_ballSlotOfCode_7 : fnD cX6_ballSlotOfCode 7 (.iadd) 1 8 := by decide +kernel
theorem dX6_ballSlotOfCode_8 : fnD cX6_ballSlotOfCode 8 (.ireturn) 1 9 := by decide +kernel
theorem dX6_hasBarOfCode_0 : fnD cX6_hasBarOfCode 0 (.iload_n 1) 1 1 := by decide +kernel
theorem dX6_hasBarOfCode_1 : fnD cX6_hasBarOfCode 1 (.invokestatic 35) 3 4 := by decide +kernel
theorem dX6_hasBarOfCode_4 : fnD cX6_hasBarOfCode 4 (.istore_n 2) 1 5 := by decide +kernel
theorem dX6_hasBarOfCode_5 : fnD cX6_hasBarOfCode 5 (.iload_n 2) 1 6 := by decide +kernel
theorem dX6_hasBarOfCode_6 : fnD cX6_hasBarOfCode 6 (.invokestatic 39) 3 9 := by decide +kernel
theorem dX6_hasBarOfCode_9 : fnIf cX6_hasBarOfCode 9 .eq 21 12 := by decide +kernel
theorem dX6_hasBarOfCode_12 : fnD cX6_hasBarOfCode 12 (.aload_n 0) 1 13 := by decide +kernel
theorem dX6_hasBarOfCode_13 : fnD cX6_hasBarOfCode 13 (.getfield 9) 3 16 := by decide +kernel
theorem dX6_hasBarOfCode_16 : fnD cX6_hasBarOfCode 16 (.iload_n 2) 1 17 := by decide +kernel
theorem dX6_hasBarOfCode_17 : fnD cX6_hasBarOfCode 17 (.iaload) 1 18 := by decide +kernel
theorem dX6_hasBarOfCode_18 : fnIf cX6_hasBarOfCode 18 .eq 25 21 := by decide +kernel
theorem dX6_hasBarOfCode_21 : fnD cX6_hasBarOfCode 21 (.iconst 1) 1 22 := by decide +kernel
theorem dX6_hasBarOfCode_22 : fnGo cX6_hasBarOfCode 22 26 := by decide +kernel
theorem dX6_hasBarOfCode_25 : fnD cX6_hasBarOfCode 25 (.iconst 0) 1 26 := by decide +kernel
theorem dX6_hasBarOfCode_26 : fnD cX6_hasBarOfCode 26 (.ireturn) 1 27 := by decide +kernel
theorem dX6_hasBallOfCode_0 : fnD cX6_hasBallOfCode 0 (.iload_n 1) 1 1 := by decide +kernel
theorem dX6_hasBallOfCode_1 : fnD cX6_hasBallOfCode 1 (.invokestatic 53) 3 4 := by decide +kernel
theorem dX6_hasBallOfCode_4 : fnD cX6_hasBallOfCode 4 (.istore_n 2) 1 5 := by decide +kernel
theorem dX6_hasBallOfCode_5 : fnD cX6_hasBallOfCode 5 (.iload_n 2) 1 6 := by decide +kernel
theorem dX6_hasBallOfCode_6 : fnD cX6_hasBallOfCode 6 (.invokestatic 56) 3 9 := by decide +kernel
theorem dX6_hasBallOfCode_9 : fnIf cX6_hasBallOfCode 9 .eq 34 12 := by decide +kernel
theorem dX6_hasBallOfCode_12 : fnD cX6_hasBallOfCode 12 (.aload_n 0) 1 13 := by decide +kernel
theorem dX6_hasBallOfCode_13 : fnD cX6_hasBallOfCode 13 (.getfield 15) 3 16 := by decide +kernel
theorem dX6_hasBallOfCode_16 : fnD cX6_hasBallOfCode 16 (.iload_n 2) 1 17 := by decide +kernel
theorem dX6_hasBallOfCode_17 : fnD cX6_hasBallOfCode 17 (.iaload) 1 18 := by decide +kernel
theorem dX6_hasBallOfCode_18 : fnIf cX6_hasBallOfCode 18 .eq 38 21 := by decide +kernel
theorem dX6_hasBallOfCode_21 : fnD cX6_hasBallOfCode 21 (.aload_n 0) 1 22 := by decide +kernel
theorem dX6_hasBallOfCode_22 : fnD cX6_hasBallOfCode 22 (.getfield 15) 3 25 := by decide +kernel
theorem dX6_hasBallOfCode_25 : fnD cX6_hasBallOfCode 25 (.iload_n 2) 1 26 := by decide +kernel
theorem dX6_hasBallOfCode_26 : fnD cX6_hasBallOfCode 26 (.iaload) 1 27 := by decide +kernel
theorem dX6_hasBallOfCode_27 : fnD cX6_hasBallOfCode 27 (.iload_n 1) 1 28 := by decide +kernel
theorem dX6_hasBallOfCode_28 : fnD cX6_hasBallOfCode 28 (.invokestatic 59) 3 31 := by decide +kernel
theorem dX6_hasBallOfCode_31 : fnIc cX6_hasBallOfCode 31 .gt 38 34 := by decide +kernel
theorem dX6_hasBallOfCode_34 : fnD cX6_hasBallOfCode 34 (.iconst 1) 1 35 := by decide +kernel
theorem dX6_hasBallOfCode_35 : fnGo cX6_hasBallOfCode 35 39 := by decide +kernel
theorem dX6_hasBallOfCode_38 : fnD cX6_hasBallOfCode 38 (.iconst 0) 1 39 := by decide +kernel
theorem dX6_hasBallOfCode_39 : fnD cX6_hasBallOfCode 39 (.ireturn) 1 40 := by decide +kernel
theorem dX6_pullOfBarCode_0 : fnD cX6_pullOfBarCode 0 (.iload_n 1) 1 1 := by decide +kernel
theorem dX6_pullOfBarCode_1 : fnD cX6_pullOfBarCode 1 (.invokestatic 35) 3 4 := by decide +kernel
theorem dX6_pullOfBarCode_4 : fnD cX6_pullOfBarCode 4 (.istore_n 2) 1 5 := by decide +kernel
theorem dX6_pullOfBarCode_5 : fnD cX6_pullOfBarCode 5 (.iload_n 2) 1 6 := by decide +kernel
theorem dX6_pullOfBarCode_6 : fnD cX6_pullOfBarCode 6 (.invokestatic 39) 3 9 := by decide +kernel
theorem dX6_pullOfBarCode_9 : fnIf cX6_pullOfBarCode 9 .ne 14 12 := by decide +kernel
theorem dX6_pullOfBarCode_12 : fnD cX6_pullOfBarCode 12 (.iconst 0) 1 13 := by decide +kernel
theorem dX6_pullOfBarCode_13 : fnD cX6_pullOfBarCode 13 (.ireturn) 1 14 := by decide +kernel
theorem dX6_pullOfBarCode_14 : fnD cX6_pullOfBarCode 14 (.aload_n 0) 1 15 := by decide +kernel
theorem dX6_pullOfBarCode_15 : fnD cX6_pullOfBarCode 15 (.getfield 9) 3 18 := by decide +kernel
theorem dX6_pullOfBarCode_18 : fnD cX6_pullOfBarCode 18 (.iload_n 2) 1 19 := by decide +kernel
theorem dX6_pullOfBarCode_19 : fnD cX6_pullOfBarCode 19 (.iaload) 1 20 := by decide +kernel
theorem dX6_pullOfBarCode_20 : fnD cX6_pullOfBarCode 20 (.iload_n 1) 1 21 := by decide +kernel
theorem dX6_pullOfBarCode_21 : fnD cX6_pullOfBarCode 21 (.invokestatic 43) 3 24 := by decide +kernel
theorem dX6_pullOfBarCode_24 : fnD cX6_pullOfBarCode 24 (.invokestatic 75) 3 27 := by decide +kernel
theorem dX6_pullOfBarCode_27 : fnD cX6_pullOfBarCode 27 (.istore_n 3) 1 28 := by decide +kernel
theorem dX6_pullOfBarCode_28 : fnD cX6_pullOfBarCode 28 (.iload_n 1) 1 29 := by decide +kernel
theorem dX6_pullOfBarCode_29 : fnD cX6_pullOfBarCode 29 (.invokestatic 46) 3 32 := by decide +kernel
theorem dX6_pullOfBarCode_32 : fnIf cX6_pullOfBarCode 32 .eq 40 35 := by decide +kernel
theorem dX6_pullOfBarCode_35 : fnD cX6_pullOfBarCode 35 (.iload_n 3) 1 36 := by decide +kernel
theorem dX6_pullOfBarCode_36 : fnD cX6_pullOfBarCode 36 (.ineg) 1 37 := by decide +kernel
theorem dX6_pullOfBarCode_37 : fnGo cX6_pullOfBarCode 37 41 := by decide +kernel
theorem dX6_pullOfBarCode_40 : fnD cX6_pullOfBarCode 40 (.iload_n 3) 1 41 := by decide +kernel
theorem dX6_pullOfBarCode_41 : fnD cX6_pullOfBarCode 41 (.ireturn) 1 42 := by decide +kernel
theorem dX6_pullOfBallCode_0 : fnD cX6_pullOfBallCode 0 (.iload_n 1) 1 1 := by decide +kernel
theorem dX6_pullOfBallCode_1 : fnD cX6_pullOfBallCode 1 (.invokestatic 53) 3 4 := by decide +kernel
theorem dX6_pullOfBallCode_4 : fnD cX6_pullOfBallCode 4 (.istore_n 2) 1 5 := by decide +kernel
theorem dX6_pullOfBallCode_5 : fnD cX6_pullOfBallCode 5 (.iload_n 2) 1 6 := by decide +kernel
theorem dX6_pullOfBallCode_6 : fnD cX6_pullOfBallCode 6 (.invokestatic 56) 3 9 := by decide +kernel
theorem dX6_pullOfBallCode_9 : fnIf cX6_pullOfBallCode 9 .eq 28 12 := by decide +kernel
theorem dX6_pullOfBallCode_12 : fnD cX6_pullOfBallCode 12 (.aload_n 0) 1 13 := by decide +kernel
theorem dX6_pullOfBallCode_13 : fnD cX6_pullOfBallCode 13 (.getfield 15) 3 16 := by decide +kernel
theorem dX6_pullOfBallCode_16 : fnD cX6_pullOfBallCode 16 (.iload_n 2) 1 17 := by decide +kernel
theorem dX6_pullOfBallCode_17 : fnD cX6_pullOfBallCode 17 (.iaload) 1 18 := by decide +kernel
theorem dX6_pullOfBallCode_18 : fnD cX6_pullOfBallCode 18 (.iload_n 1) 1 19 := by decide +kernel
theorem dX6_pullOfBallCode_19 : fnD cX6_pullOfBallCode 19 (.invokestatic 59) 3 22 := by decide +kernel
theorem dX6_pullOfBallCode_22 : fnD cX6_pullOfBallCode 22 (.invokestatic 79) 3 25 := by decide +kernel
theorem dX6_pullOfBallCode_25 : fnGo cX6_pullOfBallCode 25 29 := by decide +kernel
theorem dX6_pullOfBallCode_28 : fnD cX6_pullOfBallCode 28 (.iconst 0) 1 29 := by decide +kernel
theorem dX6_pullOfBallCode_29 : fnD cX6_pullOfBallCode 29 (.ireturn) 1 30 := by decide +kernel
theorem dX7_init_0 : fnD cX7_init 0 (.aload_n 0) 1 1 := by decide +kernel
theorem dX7_init_1 : fnD cX7_init 1 (.invokespecial 3) 3 4 := by decide +kernel
theorem dX7_init_4 : fnD cX7_init 4 (.aload_n 0) 1 5 := by decide +kernel
theorem dX7_init_5 : fnD cX7_init 5 (.bipush 32) 2 7 := by decide +kernel
theorem dX7_init_7 : fnD cX7_init 7 (.newarray .int) 2 9 := by decide +kernel
theorem dX7_init_9 : fnD cX7_init 9 (.putfield 9) 3 12 := by decide +kernel
theorem dX7_init_12 : fnD cX7_init 12 (.aload_n 0) 1 13 := by decide +kernel
theorem dX7_init_13 : fnD cX7_init 13 (.iconst 0) 1 14 := by decide +kernel
theorem dX7_init_14 : fnD cX7_init 14 (.putfield 15) 3 17 := by decide +kernel
theorem dX7_init_17 : fnD cX7_init 17 (.iconst 0) 1 18 := by decide +kernel
theorem dX7_init_18 : fnD cX7_init 18 (.istore_n 1) 1 19 := by decide +kernel
theorem dX7_init_19 : fnD cX7_init 19 (.iload_n 1) 1 20 := by decide +kernel
theorem dX7_init_20 : fnD cX7_init 20 (.bipush 32) 2 22 := by decide +kernel
theorem dX7_init_22 : fnIc cX7_init 22 .ge 40 25 := by decide +kernel
theorem dX7_init_25 : fnD cX7_init 25 (.aload_n 0) 1 26 := by decide +kernel
theorem dX7_init_26 : fnD cX7_init 26 (.getfield 9) 3 29 := by decide +kernel
theorem dX7_init_29 : fnD cX7_init 29 (.iload_n 1) 1 30 := by decide +kernel
theorem dX7_init_30 : fnD cX7_init 30 (.sipush (-2009)) 3 33 := by decide +kernel
theorem dX7_init_33 : fnD cX7_init 33 (.iastore) 1 34 := by decide +kernel
theorem dX7_init_34 : fnD cX7_init 34 (.iinc 1 1) 3 37 := by decide +kernel
theorem dX7_init_37 : fnGo cX7_init 37 19 := by decide +kernel
theorem dX7_init_40 : fnD cX7_init 40 (.return_) 1 41 := by decide +kernel
theorem dX7_has_0 : fnD cX7_has 0 (.aload_n 0) 1 1 := by decide +kernel
theorem dX7_has_1 : fnD cX7_has 1 (.getfield 9) 3 4 := by decide +kernel
theorem dX7_has_4 : fnD cX7_has 4 (.iload_n 1) 1 5 := by decide +kernel
theorem dX7_has_5 : fnD cX7_has 5 (.iaload) 1 6 := by decide +kernel
theorem dX7_has_6 : fnD cX7_has 6 (.sipush (-2009)) 3 9 := by decide +kernel
theorem dX7_has_9 : fnIc cX7_has 9 .eq 16 12 := by decide +kernel
theorem dX7_has_12 : fnD cX7_has 12 (.iconst 1) 1 13 := by decide +kernel
theorem dX7_has_13 : fnGo cX7_has 13 17 := by decide +kernel
theorem dX7_has_16 : fnD cX7_has 16 (.iconst 0) 1 17 := by decide +kernel
theorem dX7_has_17 : fnD cX7_has 17 (.ireturn) 1 18 := by decide +kernel
theorem dX7_write_0 : fnD cX7_write 0 (.aload_n 0) 1 1 := by decide +kernel
theorem dX7_write_1 : fnD cX7_write 1 (.getfield 9) 3 4 := by decide +kernel
theorem dX7_write_4 : fnD cX7_write 4 (.iload_n 1) 1 5 := by decide +kernel
theorem dX7_write_5 : fnD cX7_write 5 (.iaload) 1 6 := by decide +kernel
theorem dX7_write_6 : fnD cX7_write 6 (.istore_n 3) 1 7 := by decide +kernel
theorem dX7_write_7 : fnD cX7_write 7 (.aload_n 0) 1 8 := by decide +kernel
theorem dX7_write_8 : fnD cX7_write 8 (.getfield 9) 3 11 := by decide +kernel
theorem dX7_write_11 : fnD cX7_write 11 (.iload_n 1) 1 12 := by decide +kernel
theorem dX7_write_12 : fnD cX7_write 12 (.iload_n 2) 1 13 := by decide +kernel
theorem dX7_write_13 : fnD cX7_write 13 (.iastore) 1 14 := by decide +kernel
theorem dX7_write_14 : fnD cX7_write 14 (.aload_n 0) 1 15 := by decide +kernel
theorem dX7_write_15 : fnD cX7_write 15 (.dup) 1 16 := by decide +kernel
theorem dX7_write_16 : fnD cX7_write 16 (.getfield 15) 3 19 := by decide +kernel
theorem dX7_write_19 : fnD cX7_write 19 (.iload_n 2) 1 20 := by decide +kernel
theorem dX7_write_20 : fnD cX7_write 20 (.sipush (-2009)) 3 23 := by decide +kernel
theorem dX7_write_23 : fnIc cX7_write 23 .ne 30 26 := by decide +kernel
theorem dX7_write_26 : fnD cX7_write 26 (.iconst 0) 1 27 := by decide +kernel
theorem dX7_write_27 : fnGo cX7_write 27 31 := by decide +kernel
theorem dX7_write_30 : fnD cX7_write 30 (.iconst 1) 1 31 := by decide +kernel
theorem dX7_write_31 : fnD cX7_write 31 (.iload_n 3) 1 32 := by decide +kernel
theorem dX7_write_32 : fnD cX7_write 32 (.sipush (-2009)) 3 35 := by decide +kernel
theorem dX7_write_35 : fnIc cX7_write 35 .ne 42 38 := by decide +kernel
theorem dX7_write_38 : fnD cX7_write 38 (.iconst 0) 1 39 := by decide +kernel
theorem dX7_write_39 : fnGo cX7_write 39 43 := by decide +kernel
theorem dX7_write_42 : fnD cX7_write 42 (.iconst 1) 1 43 := by decide +kernel
theorem dX7_write_43 : fnD cX7_write 43 (.isub) 1 44 := by decide +kernel
theorem dX7_write_44 : fnD cX7_write 44 (.iadd) 1 45 := by decide +kernel
theorem dX7_write_45 : fnD cX7_write 45 (.putfield 15) 3 48 := by decide +kernel
theorem dX7_write_48 : fnD cX7_write 48 (.iload_n 3) 1 49 := by decide +kernel
theorem dX7_write_49 : fnD cX7_write 49 (.ireturn) 1 50 := by decide +kernel
theorem dX7_stepsToSeen_0 : fnD cX7_stepsToSeen 0 (.iconst 1) 1 1 := by decide +kernel
theorem dX7_stepsToSeen_1 : fnD cX7_stepsToSeen 1 (.istore_n 3) 1 2 := by decide +kernel
theorem dX7_stepsToSeen_2 : fnD cX7_stepsToSeen 2 (.iload_n 3) 1 3 := by decide +kernel
theorem dX7_stepsToSeen_3 : fnD cX7_stepsToSeen 3 (.bipush 32) 2 5 := by decide +kernel
theorem dX7_stepsToSeen_5 : fnIc cX7_stepsToSeen 5 .gt 33 8 := by decide +kernel
theorem dX7_stepsToSeen_8 : fnD cX7_stepsToSeen 8 (.aload_n 0) 1 9 := by decide +kernel
theorem dX7_stepsToSeen_9 : fnD cX7_stepsToSeen 9 (.iload_n 1) 1 10 := by decide +kernel
theorem dX7_stepsToSeen_10 : fnD cX7_stepsToSeen 10 (.iload_n 3) 1 11 := by decide +kernel
theorem dX7_stepsToSeen_11 : fnD cX7_stepsToSeen 11 (.iload_n 2) 1 12 := by decide +kernel
theorem dX7_stepsToSeen_12 : fnD cX7_stepsToSeen 12 (.imul) 1 13 := by decide +kernel
theorem dX7_stepsToSeen_13 : fnD cX7_stepsToSeen 13 (.iadd) 1 14 := by decide +kernel
theorem dX7_stepsToSeen_14 : fnD cX7_stepsToSeen 14 (.bipush 32) 2 16 := by decide +kernel
theorem dX7_stepsToSeen_16 : fnD cX7_stepsToSeen 16 (.invokestatic 19) 3 19 := by decide +kernel
theorem dX7_stepsToSeen_19 : fnD cX7_stepsToSeen 19 (.invokevirtual 25) 3 22 := by decide +kernel
theorem dX7_stepsToSeen_22 : fnIf cX7_stepsToSeen 22 .eq 27 25 := by decide +kernel
theorem dX7_stepsToSeen_25 : fnD cX7_stepsToSeen 25 (.iload_n 3) 1 26 := by decide +kernel
theorem dX7_stepsToSeen_26 : fnD cX7_stepsToSeen 26 (.ireturn) 1 27 := by decide +kernel
theorem dX7_stepsToSeen_27 : fnD cX7_stepsToSeen 27 (.iinc 3 1) 3 30 := by decide +kernel
theorem dX7_stepsToSeen_30 : fnGo cX7_stepsToSeen 30 2 := by decide +kernel
theorem dX7_stepsToSeen_33 : fnD cX7_stepsToSeen 33 (.iconst 0) 1 34 := by decide +kernel
theorem dX7_stepsToSeen_34 : fnD cX7_stepsToSeen 34 (.ireturn) 1 35 := by decide +kernel
theorem dX7_fill_0 : fnD cX7_fill 0 (.aload_n 0) 1 1 := by decide +kernel
theorem dX7_fill_1 : fnD cX7_fill 1 (.iload_n 1) 1 2 := by decide +kernel
theorem dX7_fill_2 : fnD cX7_fill 2 (.invokevirtual 25) 3 5 := by decide +kernel
theorem dX7_fill_5 : fnIf cX7_fill 5 .eq 15 8 := by decide +kernel
theorem dX7_fill_8 : fnD cX7_fill 8 (.aload_n 0) 1 9 := by decide +kernel
theorem dX7_fill_9 : fnD cX7_fill 9 (.getfield 9) 3 12 := by decide +kernel
theorem dX7_fill_12 : fnD cX7_fill 12 (.iload_n 1) 1 13 := by decide +kernel
theorem dX7_fill_13 : fnD cX7_fill 13 (.iaload) 1 14 := by decide +kernel
theorem dX7_fill_14 : fnD cX7_fill 14 (.ireturn) 1 15 := by decide +kernel
theorem dX7_fill_15 : fnD cX7_fill 15 (.aload_n 0) 1 16 := by decide +kernel
theorem dX7_fill_16 : fnD cX7_fill 16 (.iload_n 1) 1 17 := by decide +kernel
theorem dX7_fill_17 : fnD cX7_fill 17 (.iconst (-1)) 1 18 := by decide +kernel
theorem dX7_fill_18 : fnD cX7_fill 18 (.invokevirtual 29) 3 21 := by decide +kernel
theorem dX7_fill_21 : fnD cX7_fill 21 (.istore_n 2) 1 22 := by decide +kernel
theorem dX7_fill_22 : fnD cX7_fill 22 (.aload_n 0) 1 23 := by decide +kernel
theorem dX7_fill_23 : fnD cX7_fill 23 (.iload_n 1) 1 24 := by decide +kernel
theorem dX7_fill_24 : fnD cX7_fill 24 (.iconst 1) 1 25 := by decide +kernel
theorem dX7_fill_25 : fnD cX7_fill 25 (.invokevirtual 29) 3 28 := by decide +kernel
theorem dX7_fill_28 : fnD cX7_fill 28 (.istore_n 3) 1 29 := by decide +kernel
theorem dX7_fill_29 : fnD cX7_fill 29 (.aload_n 0) 1 30 := by decide +kernel
theorem dX7_fill_30 : fnD cX7_fill 30 (.getfield 9) 3 33 := by decide +kernel
theorem dX7_fill_33 : fnD cX7_fill 33 (.iload_n 1) 1 34 := by decide +kernel
theorem dX7_fill_34 : fnD cX7_fill 34 (.iload_n 2) 1 35 := by decide +kernel
theorem dX7_fill_35 : fnD cX7_fill 35 (.isub) 1 36 := by decide +kernel
theorem dX7_fill_36 : fnD cX7_fill 36 (.bipush 32) 2 38 := by decide +kernel
theorem dX7_fill_38 : fnD cX7_fill 38 (.invokestatic 19) 3 41 := by decide +kernel
theorem dX7_fill_41 : fnD cX7_fill 41 (.iaload) 1 42 := by decide +kernel
theorem dX7_fill_42 : fnD cX7_fill 42 (.istore 4) 2 44 := by decide +kernel
theorem dX7_fill_44 : fnD cX7_fill 44 (.aload_n 0) 1 45 := by decide +kernel
theorem dX7_fill_45 : fnD cX7_fill 45 (.getfield 9) 3 48 := by decide +kernel
theorem dX7_fill_48 : fnD cX7_fill 48 (.iload_n 1) 1 49 := by decide +kernel
theorem dX7_fill_49 : fnD cX7_fill 49 (.iload_n 3) 1 50 := by decide +kernel
theorem dX7_fill_50 : fnD cX7_fill 50 (.iadd) 1 51 := by decide +kernel
theorem dX7_fill_51 : fnD cX7_fill 51 (.bipush 32) 2 53 := by decide +kernel
theorem dX7_fill_53 : fnD cX7_fill 53 (.invokestatic 19) 3 56 := by decide +kernel
theorem dX7_fill_56 : fnD cX7_fill 56 (.iaload) 1 57 := by decide +kernel
theorem dX7_fill_57 : fnD cX7_fill 57 (.istore 5) 2 59 := by decide +kernel
theorem dX7_fill_59 : fnD cX7_fill 59 (.iload 4) 2 61 := by decide +kernel
theorem dX7_fill_61 : fnD cX7_fill 61 (.i2l) 1 62 := by decide +kernel
theorem dX7_fill_62 : fnD cX7_fill 62 (.iload_n 3) 1 63 := by decide +kernel
theorem dX7_fill_63 : fnD cX7_fill 63 (.i2l) 1 64 := by decide +kernel
theorem dX7_fill_64 : fnD cX7_fill 64 (.lmul) 1 65 := by decide +kernel
theorem dX7_fill_65 : fnD cX7_fill 65 (.iload 5) 2 67 := by decide +kernel
theorem dX7_fill_67 : fnD cX7_fill 67 (.i2l) 1 68 := by decide +kernel
theorem dX7_fill_68 : fnD cX7_fill 68 (.iload_n 2) 1 69 := by decide +kernel
theorem dX7_fill_69 : fnD cX7_fill 69 (.i2l) 1 70 := by decide +kernel
theorem dX7_fill_70 : fnD cX7_fill 70 (.lmul) 1 71 := by decide +kernel
theorem dX7_fill_71 : fnD cX7_fill 71 (.ladd) 1 72 := by decide +kernel
theorem dX7_fill_72 : fnD cX7_fill 72 (.iload_n 2) 1 73 := by decide +kernel
theorem dX7_fill_73 : fnD cX7_fill 73 (.iload_n 3) 1 74 := by decide +kernel
theorem dX7_fill_74 : fnD cX7_fill 74 (.iadd) 1 75 := by decide +kernel
theorem dX7_fill_75 : fnD cX7_fill 75 (.i2l) 1 76 := by decide +kernel
theorem dX7_fill_76 : fnD cX7_fill 76 (.invokestatic 32) 3 79 := by decide +kernel
theorem dX7_fill_79 : fnD cX7_fill 79 (.l2i) 1 80 := by decide +kernel
theorem dX7_fill_80 : fnD cX7_fill 80 (.ireturn) 1 81 := by decide +kernel
theorem dX7_longestGap_0 : fnD cX7_longestGap 0 (.aload_n 0) 1 1 := by decide +kernel
theorem dX7_longestGap_1 : fnD cX7_longestGap 1 (.getfield 15) 3 4 := by decide +kernel
theorem dX7_longestGap_4 : fnIf cX7_longestGap 4 .ne 10 7 := by decide +kernel
theorem dX7_longestGap_7 : fnD cX7_longestGap 7 (.bipush 32) 2 9 := by decide +kernel
theorem dX7_longestGap_9 : fnD cX7_longestGap 9 (.ireturn) 1 10 := by decide +kernel
theorem dX7_longestGap_10 : fnD cX7_longestGap 10 (.iconst 0) 1 11 := by decide +kernel
theorem dX7_longestGap_11 : fnD cX7_longestGap 11 (.istore_n 1) 1 12 := by decide +kernel
theorem dX7_longestGap_12 : fnD cX7_longestGap 12 (.iconst 0) 1 13 := by decide +kernel
theorem dX7_longestGap_13 : fnD cX7_longestGap 13 (.istore_n 2) 1 14 := by decide +kernel
theorem dX7_longestGap_14 : fnD cX7_longestGap 14 (.iconst 0) 1 15 := by decide +kernel
theorem dX7_longestGap_15 : fnD cX7_longestGap 15 (.istore_n 3) 1 16 := by decide +kernel
theorem dX7_longestGap_16 : fnD cX7_longestGap 16 (.iload_n 3) 1 17 := by decide +kernel
theorem dX7_longestGap_17 : fnD cX7_longestGap 17 (.bipush 64) 2 19 := by decide +kernel
theorem dX7_longestGap_19 : fnIc cX7_longestGap 19 .ge 53 22 := by decide +kernel
theorem dX7_longestGap_22 : fnD cX7_longestGap 22 (.aload_n 0) 1 23 := by decide +kernel
theorem dX7_longestGap_23 : fnD cX7_longestGap 23 (.iload_n 3) 1 24 := by decide +kernel
theorem dX7_longestGap_24 : fnD cX7_longestGap 24 (.bipush 32) 2 26 := by decide +kernel
theorem dX7_longestGap_26 : fnD cX7_longestGap 26 (.irem) 1 27 := by decide +kernel
theorem dX7_longestGap_27 : fnD cX7_longestGap 27 (.invokevirtual 25) 3 30 := by decide +kernel
theorem dX7_longestGap_30 : fnIf cX7_longestGap 30 .eq 37 33 := by decide +kernel
theorem dX7_longestGap_33 : fnD cX7_longestGap 33 (.iconst 0) 1 34 := by decide +kernel
theorem dX7_longestGap_34 : fnGo cX7_longestGap 34 40 := by decide +kernel
theorem dX7_longestGap_37 : fnD cX7_longestGap 37 (.iload_n 2) 1 38 := by decide +kernel
theorem dX7_longestGap_38 : fnD cX7_longestGap 38 (.iconst 1) 1 39 := by decide +kernel
theorem dX7_longestGap_39 : fnD cX7_longestGap 39 (.iadd) 1 40 := by decide +kernel
theorem dX7_longestGap_40 : fnD cX7_longestGap 40 (.istore_n 2) 1 41 := by decide +kernel
theorem dX7_longestGap_41 : fnD cX7_longestGap 41 (.iload_n 1) 1 42 := by decide +kernel
theorem dX7_longestGap_42 : fnD cX7_longestGap 42 (.iload_n 2) 1 43 := by decide +kernel
theorem dX7_longestGap_43 : fnD cX7_longestGap 43 (.invokestatic 38) 3 46 := by decide +kernel
theorem dX7_longestGap_46 : fnD cX7_longestGap 46 (.istore_n 1) 1 47 := by decide +kernel
theorem dX7_longestGap_47 : fnD cX7_longestGap 47 (.iinc 3 1) 3 50 := by decide +kernel
theorem dX7_longestGap_50 : fnGo cX7_longestGap 50 16 := by decide +kernel
theorem dX7_longestGap_53 : fnD cX7_longestGap 53 (.iload_n 1) 1 54 := by decide +kernel
theorem dX7_longestGap_54 : fnD cX7_longestGap 54 (.ireturn) 1 55 := by decide +kernel
theorem dX7_takeApart_0 : fnD cX7_takeApart 0 (.iconst 0) 1 1 := by decide +kernel
theorem dX7_takeApart_1 : fnD cX7_takeApart 1 (.istore_n 2) 1 2 := by decide +kernel
theorem dX7_takeApart_2 : fnD cX7_takeApart 2 (.iconst 0) 1 3 := by decide +kernel
theorem dX7_takeApart_3 : fnD cX7_takeApart 3 (.istore_n 3) 1 4 := by decide +kernel
theorem dX7_takeApart_4 : fnD cX7_takeApart 4 (.iconst 0) 1 5 := by decide +kernel
theorem dX7_takeApart_5 : fnD cX7_takeApart 5 (.istore 4) 2 7 := by decide +kernel
theorem dX7_takeApart_7 : fnD cX7_takeApart 7 (.iconst 0) 1 8 := by decide +kernel
theorem dX7_takeApart_8 : fnD cX7_takeApart 8 (.istore 5) 2 10 := by decide +kernel
theorem dX7_takeApart_10 : fnD cX7_takeApart 10 (.iconst 0) 1 11 := by decide +kernel
theorem dX7_takeApart_11 : fnD cX7_takeApart 11 (.istore 6) 2 13 := by decide +kernel
theorem dX7_takeApart_13 : fnD cX7_takeApart 13 (.iconst 0) 1 14 := by decide +kernel
theorem dX7_takeApart_14 : fnD cX7_takeApart 14 (.istore 7) 2 16 := by decide +kernel
theorem dX7_takeApart_16 : fnD cX7_takeApart 16 (.iload 7) 2 18 := by decide +kernel
theorem dX7_takeApart_18 : fnD cX7_takeApart 18 (.bipush 32) 2 20 := by decide +kernel
theorem dX7_takeApart_20 : fnIc cX7_takeApart 20 .ge 96 23 := by decide +kernel
theorem dX7_takeApart_23 : fnD cX7_takeApart 23 (.aload_n 0) 1 24 := by decide +kernel
theorem dX7_takeApart_24 : fnD cX7_takeApart 24 (.iload 7) 2 26 := by decide +kernel
theorem dX7_takeApart_26 : fnD cX7_takeApart 26 (.invokevirtual 41) 3 29 := by decide +kernel
theorem dX7_takeApart_29 : fnD cX7_takeApart 29 (.istore 8) 2 31 := by decide +kernel
theorem dX7_takeApart_31 : fnD cX7_takeApart 31 (.iload_n 2) 1 32 := by decide +kernel
theorem dX7_takeApart_32 : fnD cX7_takeApart 32 (.iload 8) 2 34 := by decide +kernel
theorem dX7_takeApart_34 : fnD cX7_takeApart 34 (.iadd) 1 35 := by decide +kernel
theorem dX7_takeApart_35 : fnD cX7_takeApart 35 (.istore_n 2) 1 36 := by decide +kernel
theorem dX7_takeApart_36 : fnD cX7_takeApart 36 (.iload_n 3) 1 37 := by decide +kernel
theorem dX7_takeApart_37 : fnD cX7_takeApart 37 (.iload 8) 2 39 := by decide +kernel
theorem dX7_takeApart_39 : fnD cX7_takeApart 39 (.iload 7) 2 41 := by decide +kernel
theorem dX7_takeApart_41 : fnD cX7_takeApart 41 (.invokestatic 45) 3 44 := by decide +kernel
theorem dX7_takeApart_44 : fnD cX7_takeApart 44 (.imul) 1 45 := by decide +kernel
theorem dX7_takeApart_45 : fnD cX7_takeApart 45 (.iadd) 1 46 := by decide +kernel
theorem dX7_takeApart_46 : fnD cX7_takeApart 46 (.istore_n 3) 1 47 := by decide +kernel
theorem dX7_takeApart_47 : fnD cX7_takeApart 47 (.iload 4) 2 49 := by decide +kernel
theorem dX7_takeApart_49 : fnD cX7_takeApart 49 (.iload 8) 2 51 := by decide +kernel
theorem dX7_takeApart_51 : fnD cX7_takeApart 51 (.iload 7) 2 53 := by decide +kernel
theorem dX7_takeApart_53 : fnD cX7_takeApart 53 (.invokestatic 48) 3 56 := by decide +kernel
theorem dX7_takeApart_56 : fnD cX7_takeApart 56 (.imul) 1 57 := by decide +kernel
theorem dX7_takeApart_57 : fnD cX7_takeApart 57 (.iadd) 1 58 := by decide +kernel
theorem dX7_takeApart_58 : fnD cX7_takeApart 58 (.istore 4) 2 60 := by decide +kernel
theorem dX7_takeApart_60 : fnD cX7_takeApart 60 (.iload 5) 2 62 := by decide +kernel
theorem dX7_takeApart_62 : fnD cX7_takeApart 62 (.iload 8) 2 64 := by decide +kernel
theorem dX7_takeApart_64 : fnD cX7_takeApart 64 (.iconst 2) 1 65 := by decide +kernel
theorem dX7_takeApart_65 : fnD cX7_takeApart 65 (.iload 7) 2 67 := by decide +kernel
theorem dX7_takeApart_67 : fnD cX7_takeApart 67 (.imul) 1 68 := by decide +kernel
theorem dX7_takeApart_68 : fnD cX7_takeApart 68 (.invokestatic 45) 3 71 := by decide +kernel
theorem dX7_takeApart_71 : fnD cX7_takeApart 71 (.imul) 1 72 := by decide +kernel
theorem dX7_takeApart_72 : fnD cX7_takeApart 72 (.iadd) 1 73 := by decide +kernel
theorem dX7_takeApart_73 : fnD cX7_takeApart 73 (.istore 5) 2 75 := by decide +kernel
theorem dX7_takeApart_75 : fnD cX7_takeApart 75 (.iload 6) 2 77 := by decide +kernel
theorem dX7_takeApart_77 : fnD cX7_takeApart 77 (.iload 8) 2 79 := by decide +kernel
theorem dX7_takeApart_79 : fnD cX7_takeApart 79 (.iconst 2) 1 80 := by decide +kernel
theorem dX7_takeApart_80 : fnD cX7_takeApart 80 (.iload 7) 2 82 := by decide +kernel
theorem dX7_takeApart_82 : fnD cX7_takeApart 82 (.imul) 1 83 := by decide +kernel
theorem dX7_takeApart_83 : fnD cX7_takeApart 83 (.invokestatic 48) 3 86 := by decide +kernel
theorem dX7_takeApart_86 : fnD cX7_takeApart 86 (.imul) 1 87 := by decide +kernel
theorem dX7_takeApart_87 : fnD cX7_takeApart 87 (.iadd) 1 88 := by decide +kernel
theorem dX7_takeApart_88 : fnD cX7_takeApart 88 (.istore 6) 2 90 := by decide +kernel
theorem dX7_takeApart_90 : fnD cX7_takeApart 90 (.iinc 7 1) 3 93 := by decide +kernel
theorem dX7_takeApart_93 : fnGo cX7_takeApart 93 16 := by decide +kernel
theorem dX7_takeApart_96 : fnD cX7_takeApart 96 (.aload_n 1) 1 97 := by decide +kernel
theorem dX7_takeApart_97 : fnD cX7_takeApart 97 (.getfield 51) 3 100 := by decide +kernel
theorem dX7_takeApart_100 : fnD cX7_takeApart 100 (.iconst 0) 1 101 := by decide +kernel
theorem dX7_takeApart_101 : fnD cX7_takeApart 101 (.iload_n 2) 1 102 := by decide +kernel
theorem dX7_takeApart_102 : fnD cX7_takeApart 102 (.bipush 32) 2 104 := by decide +kernel
theorem dX7_takeApart_104 : fnD cX7_takeApart 104 (.invokestatic 56) 3 107 := by decide +kernel
theorem dX7_takeApart_107 : fnD cX7_takeApart 107 (.iastore) 1 108 := by decide +kernel
theorem dX7_takeApart_108 : fnD cX7_takeApart 108 (.aload_n 1) 1 109 := by decide +kernel
theorem dX7_takeApart_109 : fnD cX7_takeApart 109 (.getfield 51) 3 112 := by decide +kernel
theorem dX7_takeApart_112 : fnD cX7_takeApart 112 (.iconst 1) 1 113 := by decide +kernel
theorem dX7_takeApart_113 : fnD cX7_takeApart 113 (.iload_n 3) 1 114 := by decide +kernel
theorem dX7_takeApart_114 : fnD cX7_takeApart 114 (.sipush 16000) 3 117 := by decide +kernel
theorem dX7_takeApart_117 : fnD cX7_takeApart 117 (.invokestatic 56) 3 120 := by decide +kernel
theorem dX7_takeApart_120 : fnD cX7_takeApart 120 (.iastore) 1 121 := by decide +kernel
theorem dX7_takeApart_121 : fnD cX7_takeApart 121 (.aload_n 1) 1 122 := by decide +kernel
theorem dX7_takeApart_122 : fnD cX7_takeApart 122 (.getfield 51) 3 125 := by decide +kernel
theorem dX7_takeApart_125 : fnD cX7_takeApart 125 (.iconst 2) 1 126 := by decide +kernel
theorem dX7_takeApart_126 : fnD cX7_takeApart 126 (.iload 4) 2 128 := by decide +kernel
theorem dX7_takeApart_128 : fnD cX7_takeApart 128 (.sipush 16000) 3 131 := by decide +kernel
theorem dX7_takeApart_131 : fnD cX7_takeApart 131 (.invokestatic 56) 3 134 := by decide +kernel
theorem dX7_takeApart_134 : fnD cX7_takeApart 134 (.iastore) 1 135 := by decide +kernel
theorem dX7_takeApart_135 : fnD cX7_takeApart 135 (.aload_n 1) 1 136 := by decide +kernel
theorem dX7_takeApart_136 : fnD cX7_takeApart 136 (.getfield 51) 3 139 := by decide +kernel
theorem dX7_takeApart_139 : fnD cX7_takeApart 139 (.iconst 3) 1 140 := by decide +kernel
theorem dX7_takeApart_140 : fnD cX7_takeApart 140 (.iload 5) 2 142 := by decide +kernel
theorem dX7_takeApart_142 : fnD cX7_takeApart 142 (.sipush 16000) 3 145 := by decide +kernel
theorem dX7_takeApart_145 : fnD cX7_takeApart 145 (.invokestatic 56) 3 148 := by decide +kernel
theorem dX7_takeApart_148 : fnD cX7_takeApart 148 (.iastore) 1 149 := by decide +kernel
theorem dX7_takeApart_149 : fnD cX7_takeApart 149 (.aload_n 1) 1 150 := by decide +kernel
theorem dX7_takeApart_150 : fnD cX7_takeApart 150 (.getfield 51) 3 153 := by decide +kernel
theorem dX7_takeApart_153 : fnD cX7_takeApart 153 (.iconst 4) 1 154 := by decide +kernel
theorem dX7_takeApart_154 : fnD cX7_takeApart 154 (.iload 6) 2 156 := by decide +kernel
theorem dX7_takeApart_156 : fnD cX7_takeApart 156 (.sipush 16000) 3 159 := by decide +kernel
theorem dX7_takeApart_159 : fnD cX7_takeApart 159 (.invokestatic 56) 3 162 := by decide +kernel
theorem dX7_takeApart_162 : fnD cX7_takeApart 162 (.iastore) 1 163 := by decide +kernel
theorem dX7_takeApart_163 : fnD cX7_takeApart 163 (.return_) 1 164 := by decide +kernel
theorem dX7_asPart_0 : fnD cX7_asPart 0 (.iload_n 0) 1 1 := by decide +kernel
theorem dX7_asPart_1 : fnD cX7_asPart 1 (.i2l) 1 2 := by decide +kernel
theorem dX7_asPart_2 : fnD cX7_asPart 2 (.iload_n 1) 1 3 := by decide +kernel
theorem dX7_asPart_3 : fnD cX7_asPart 3 (.i2l) 1 4 := by decide +kernel
theorem dX7_asPart_4 : fnD cX7_asPart 4 (.invokestatic 32) 3 7 := by decide +kernel
theorem dX7_asPart_7 : fnD cX7_asPart 7 (.lstore_n 2) 1 8 := by decide +kernel
theorem dX7_asPart_8 : fnD cX7_asPart 8 (.ldc2_w 59) 3 11 := by decide +kernel
theorem dX7_asPart_11 : fnD cX7_asPart 11 (.ldc2_w 61) 3 14 := by decide +kernel
theorem dX7_asPart_14 : fnD cX7_asPart 14 (.lload_n 2) 1 15 := by decide +kernel
theorem dX7_asPart_15 : fnD cX7_asPart 15 (.invokestatic 63) 3 18 := by decide +kernel
theorem dX7_asPart_18 : fnD cX7_asPart 18 (.invokestatic 66) 3 21 := by decide +kernel
theorem dX7_asPart_21 : fnD cX7_asPart 21 (.l2i) 1 22 := by decide +kernel
theorem dX7_asPart_22 : fnD cX7_asPart 22 (.ireturn) 1 23 := by decide +kernel
theorem dX8_sin_0 : fnD cX8_sin 0 (.getstatic 9) 3 3 := by decide +kernel
theorem dX8_sin_3 : fnD cX8_sin 3 (.iload_n 0) 1 4 := by decide +kernel
theorem dX8_sin_4 : fnD cX8_sin 4 (.bipush 31) 2 6 := by decide +kernel
theorem dX8_sin_6 : fnD cX8_sin 6 (.iand) 1 7 := by decide +kernel
theorem dX8_sin_7 : fnD cX8_sin 7 (.iaload) 1 8 := by decide +kernel
theorem dX8_sin_8 : fnD cX8_sin 8 (.ireturn) 1 9 := by decide +kernel
theorem dX8_cos_0 : fnD cX8_cos 0 (.getstatic 9) 3 3 := by decide +kernel
theorem dX8_cos_3 : fnD cX8_cos 3 (.iload_n 0) 1 4 := by decide +kernel
theorem dX8_cos_4 : fnD cX8_cos 4 (.bipush 8) 2 6 := by decide +kernel
theorem dX8_cos_6 : fnD cX8_cos 6 (.iadd) 1 7 := by decide +kernel
theorem dX8_cos_7 : fnD cX8_cos 7 (.bipush 31) 2 9 := by decide +kernel
theorem dX8_cos_9 : fnD cX8_cos 9 (.iand) 1 10 := by decide +kernel
theorem dX8_cos_10 : fnD cX8_cos 10 (.iaload) 1 11 := by decide +kernel
theorem dX8_cos_11 : fnD cX8_cos 11 (.ireturn) 1 12 := by decide +kernel
theorem dX8_rounded_0 : fnD cX8_rounded 0 (.lload_n 2) 1 1 := by decide +kernel
theorem dX8_rounded_1 : fnD cX8_rounded 1 (.lconst 0) 1 2 := by decide +kernel
theorem dX8_rounded_2 : fnD cX8_rounded 2 (.lcmp) 1 3 := by decide +kernel
theorem dX8_rounded_3 : fnIf cX8_rounded 3 .gt 8 6 := by decide +kernel
theorem dX8_rounded_6 : fnD cX8_rounded 6 (.lconst 0) 1 7 := by decide +kernel
theorem dX8_rounded_7 : fnD cX8_rounded 7 (.lreturn) 1 8 := by decide +kernel
theorem dX8_rounded_8 : fnD cX8_rounded 8 (.ldc2_w 15) 3 11 := by decide +kernel
theorem dX8_rounded_11 : fnD cX8_rounded 11 (.lload_n 0) 1 12 := by decide +kernel
theorem dX8_rounded_12 : fnD cX8_rounded 12 (.lmul) 1 13 := by decide +kernel
theorem dX8_rounded_13 : fnD cX8_rounded 13 (.lload_n 2) 1 14 := by decide +kernel
theorem dX8_rounded_14 : fnD cX8_rounded 14 (.ladd) 1 15 := by decide +kernel
theorem dX8_rounded_15 : fnD cX8_rounded 15 (.ldc2_w 15) 3 18 := by decide +kernel
theorem dX8_rounded_18 : fnD cX8_rounded 18 (.lload_n 2) 1 19 := by decide +kernel
theorem dX8_rounded_19 : fnD cX8_rounded 19 (.lmul) 1 20 := by decide +kernel
theorem dX8_rounded_20 : fnD cX8_rounded 20 (.invokestatic 17) 3 23 := by decide +kernel
theorem dX8_rounded_23 : fnD cX8_rounded 23 (.lreturn) 1 24 := by decide +kernel
theorem dX8_between_0 : fnD cX8_between 0 (.iload_n 0) 1 1 := by decide +kernel
theorem dX8_between_1 : fnD cX8_between 1 (.i2l) 1 2 := by decide +kernel
theorem dX8_between_2 : fnD cX8_between 2 (.bipush 100) 2 4 := by decide +kernel
theorem dX8_between_4 : fnD cX8_between 4 (.iload_n 2) 1 5 := by decide +kernel
theorem dX8_between_5 : fnD cX8_between 5 (.isub) 1 6 := by decide +kernel
theorem dX8_between_6 : fnD cX8_between 6 (.i2l) 1 7 := by decide +kernel
theorem dX8_between_7 : fnD cX8_between 7 (.lmul) 1 8 := by decide +kernel
theorem dX8_between_8 : fnD cX8_between 8 (.iload_n 1) 1 9 := by decide +kernel
theorem dX8_between_9 : fnD cX8_between 9 (.i2l) 1 10 := by decide +kernel
theorem dX8_between_10 : fnD cX8_between 10 (.iload_n 2) 1 11 := by decide +kernel
theorem dX8_between_11 : fnD cX8_between 11 (.i2l) 1 12 := by decide +kernel
theorem dX8_between_12 : fnD cX8_between 12 (.lmul) 1 13 := by decide +kernel
theorem dX8_between_13 : fnD cX8_between 13 (.ladd) 1 14 := by decide +kernel
theorem dX8_between_14 : fnD cX8_between 14 (.ldc2_w 23) 3 17 := by decide +kernel
theorem dX8_between_17 : fnD cX8_between 17 (.invokestatic 25) 3 20 := by decide +kernel
theorem dX8_between_20 : fnD cX8_between 20 (.l2i) 1 21 := by decide +kernel
theorem dX8_between_21 : fnD cX8_between 21 (.ireturn) 1 22 := by decide +kernel
theorem dX8_sineAt_0 : fnD cX8_sineAt 0 (.iload_n 0) 1 1 := by decide +kernel
theorem dX8_sineAt_1 : fnD cX8_sineAt 1 (.bipush 100) 2 3 := by decide +kernel
theorem dX8_sineAt_3 : fnD cX8_sineAt 3 (.idiv) 1 4 := by decide +kernel
theorem dX8_sineAt_4 : fnD cX8_sineAt 4 (.istore_n 1) 1 5 := by decide +kernel
theorem dX8_sineAt_5 : fnD cX8_sineAt 5 (.iload_n 1) 1 6 := by decide +kernel
theorem dX8_sineAt_6 : fnD cX8_sineAt 6 (.invokestatic 28) 3 9 := by decide +kernel
theorem dX8_sineAt_9 : fnD cX8_sineAt 9 (.iload_n 1) 1 10 := by decide +kernel
theorem dX8_sineAt_10 : fnD cX8_sineAt 10 (.iconst 1) 1 11 := by decide +kernel
theorem dX8_sineAt_11 : fnD cX8_sineAt 11 (.iadd) 1 12 := by decide +kernel
theorem dX8_sineAt_12 : fnD cX8_sineAt 12 (.invokestatic 28) 3 15 := by decide +kernel
theorem dX8_sineAt_15 : fnD cX8_sineAt 15 (.iload_n 0) 1 16 := by decide +kernel
theorem dX8_sineAt_16 : fnD cX8_sineAt 16 (.bipush 100) 2 18 := by decide +kernel
theorem dX8_sineAt_18 : fnD cX8_sineAt 18 (.irem) 1 19 := by decide +kernel
theorem dX8_sineAt_19 : fnD cX8_sineAt 19 (.invokestatic 32) 3 22 := by decide +kernel
theorem dX8_sineAt_22 : fnD cX8_sineAt 22 (.ireturn) 1 23 := by decide +kernel
theorem dX8_cosineAt_0 : fnD cX8_cosineAt 0 (.iload_n 0) 1 1 := by decide +kernel
theorem dX8_cosineAt_1 : fnD cX8_cosineAt 1 (.bipush 100) 2 3 := by decide +kernel
theorem dX8_cosineAt_3 : fnD cX8_cosineAt 3 (.idiv) 1 4 := by decide +kernel
theorem dX8_cosineAt_4 : fnD cX8_cosineAt 4 (.istore_n 1) 1 5 := by decide +kernel
theorem dX8_cosineAt_5 : fnD cX8_cosineAt 5 (.iload_n 1) 1 6 := by decide +kernel
theorem dX8_cosineAt_6 : fnD cX8_cosineAt 6 (.invokestatic 36) 3 9 := by decide +kernel
theorem dX8_cosineAt_9 : fnD cX8_cosineAt 9 (.iload_n 1) 1 10 := by decide +kernel
theorem dX8_cosineAt_10 : fnD cX8_cosineAt 10 (.iconst 1) 1 11 := by decide +kernel
theorem dX8_cosineAt_11 : fnD cX8_cosineAt 11 (.iadd) 1 12 := by decide +kernel
theorem dX8_cosineAt_12 : fnD cX8_cosineAt 12 (.invokestatic 36) 3 15 := by decide +kernel
theorem dX8_cosineAt_15 : fnD cX8_cosineAt 15 (.iload_n 0) 1 16 := by decide +kernel
theorem dX8_cosineAt_16 : fnD cX8_cosineAt 16 (.bipush 100) 2 18 := by decide +kernel
theorem dX8_cosineAt_18 : fnD cX8_cosineAt 18 (.irem) 1 19 := by decide +kernel
theorem dX8_cosineAt_19 : fnD cX8_cosineAt 19 (.invokestatic 32) 3 22 := by decide +kernel
theorem dX8_cosineAt_22 : fnD cX8_cosineAt 22 (.ireturn) 1 23 := by decide +kernel
theorem dX8_wayFrom_0 : fnD cX8_wayFrom 0 (.iload_n 1) 1 1 := by decide +kernel
theorem dX8_wayFrom_1 : fnD cX8_wayFrom 1 (.iload_n 0) 1 2 := by decide +kernel
theorem dX8_wayFrom_2 : fnD cX8_wayFrom 2 (.isub) 1 3 := by decide +kernel
theorem dX8_wayFrom_3 : fnD cX8_wayFrom 3 (.sipush 1600) 3 6 := by decide +kernel
theorem dX8_wayFrom_6 : fnD cX8_wayFrom 6 (.iadd) 1 7 := by decide +kernel
theorem dX8_wayFrom_7 : fnD cX8_wayFrom 7 (.sipush 3200) 3 10 := by decide +kernel
theorem dX8_wayFrom_10 : fnD cX8_wayFrom 10 (.invokestatic 39) 3 13 := by decide +kernel
theorem dX8_wayFrom_13 : fnD cX8_wayFrom 13 (.sipush 1600) 3 16 := by decide +kernel
theorem dX8_wayFrom_16 : fnD cX8_wayFrom 16 (.isub) 1 17 := by decide +kernel
theorem dX8_wayFrom_17 : fnD cX8_wayFrom 17 (.ireturn) 1 18 := by decide +kernel
theorem dX9_init_0 : fnD cX9_init 0 (.aload_n 0) 1 1 := by decide +kernel
theorem dX9_init_1 : fnD cX9_init 1 (.invokespecial 3) 3 4 := by decide +kernel
theorem dX9_init_4 : fnD cX9_init 4 (.aload_n 0) 1 5 := by decide +kernel
theorem dX9_init_5 : fnD cX9_init 5 (.bipush 40) 2 7 := by decide +kernel
theorem dX9_init_7 : fnD cX9_init 7 (.newarray .int) 2 9 := by decide +kernel
theorem dX9_init_9 : fnD cX9_init 9 (.putfield 9) 3 12 := by decide +kernel
theorem dX9_init_12 : fnD cX9_init 12 (.aload_n 0) 1 13 := by decide +kernel
theorem dX9_init_13 : fnD cX9_init 13 (.iconst 0) 1 14 := by decide +kernel
theorem dX9_init_14 : fnD cX9_init 14 (.putfield 15) 3 17 := by decide +kernel
theorem dX9_init_17 : fnD cX9_init 17 (.aload_n 0) 1 18 := by decide +kernel
theorem dX9_init_18 : fnD cX9_init 18 (.iconst 0) 1 19 := by decide +kernel
theorem dX9_init_19 : fnD cX9_init 19 (.putfield 19) 3 22 := by decide +kernel
theorem dX9_init_22 : fnD cX9_init 22 (.aload_n 0) 1 23 := by decide +kernel
theorem dX9_init_23 : fnD cX9_init 23 (.iconst 0) 1 24 := by decide +kernel
theorem dX9_init_24 : fnD cX9_init 24 (.putfield 22) 3 27 := by decide +kernel
theorem dX9_init_27 : fnD cX9_init 27 (.return_) 1 28 := by decide +kernel
theorem dX9_find_0 : fnD cX9_find 0 (.aload_n 0) 1 1 := by decide +kernel
theorem dX9_find_1 : fnD cX9_find 1 (.ldc 27) 2 3 := by decide +kernel
theorem dX9_find_3 : fnD cX9_find 3 (.putfield 22) 3 6 := by decide +kernel
theorem dX9_find_6 : fnD cX9_find 6 (.sipush (-300)) 3 9 := by decide +kernel
theorem dX9_find_9 : fnD cX9_find 9 (.istore 4) 2 11 := by decide +kernel
theorem dX9_find_11 : fnD cX9_find 11 (.iload 4) 2 13 := by decide +kernel
theorem dX9_find_13 : fnD cX9_find 13 (.sipush 300) 3 16 := by decide +kernel
theorem dX9_find_16 : fnIc cX9_find 16 .gt 34 19 := by decide +kernel
theorem dX9_find_19 : fnD cX9_find 19 (.aload_n 0) 1 20 := by decide +kernel
theorem dX9_find_20 : fnD cX9_find 20 (.aload_n 1) 1 21 := by decide +kernel
theorem dX9_find_21 : fnD cX9_find 21 (.iload 4) 2 23 := by decide +kernel
theorem dX9_find_23 : fnD cX9_find 23 (.iload_n 2) 1 24 := by decide +kernel
theorem dX9_find_24 : fnD cX9_find 24 (.iload_n 3) 1 25 := by decide +kernel
theorem dX9_find_25 : fnD cX9_find 25 (.invokevirtual 28) 3 28 := by decide +kernel
theorem dX9_find_28 : fnD cX9_find 28 (.iinc 4 20) 3 31 := by decide +kernel
theorem dX9_find_31 : fnGo cX9_find 31 11 := by decide +kernel
theorem dX9_find_34 : fnD cX9_find 34 (.return_) 1 35 := by decide +kernel
theorem dX9_findDay_0 : fnD cX9_findDay 0 (.iconst 0) 1 1 := by decide +kernel
theorem dX9_findDay_1 : fnD cX9_findDay 1 (.istore 5) 2 3 := by decide +kernel
theorem dX9_findDay_3 : fnD cX9_findDay 3 (.iconst 0) 1 4 := by decide +kernel
theorem dX9_findDay_4 : fnD cX9_findDay 4 (.istore 6) 2 6 := by decide +kernel
theorem dX9_findDay_6 : fnD cX9_findDay 6 (.iconst 0) 1 7 := by decide +kernel
theorem dX9_findDay_7 : fnD cX9_findDay 7 (.istore 7) 2 9 := by decide +kernel
theorem dX9_findDay_9 : fnD cX9_findDay 9 (.iload 7) 2 11 := by decide +kernel
theorem dX9_findDay_11 : fnD cX9_findDay 11 (.aload_n 1) 1 12 := by decide +kernel
theorem dX9_findDay_12 : fnD cX9_findDay 12 (.getfield 32) 3 15 := by decide +kernel
theorem dX9_findDay_15 : fnIc cX9_findDay 15 .ge 77 18 := by decide +kernel
theorem dX9_findDay_18 : fnD cX9_findDay 18 (.aload_n 0) 1 19 := by decide +kernel
theorem dX9_findDay_19 : fnD cX9_findDay 19 (.getfield 9) 3 22 := by decide +kernel
theorem dX9_findDay_22 : fnD cX9_findDay 22 (.iload 7) 2 24 := by decide +kernel
theorem dX9_findDay_24 : fnD cX9_findDay 24 (.iaload) 1 25 := by decide +kernel
theorem dX9_findDay_25 : fnD cX9_findDay 25 (.iload_n 2) 1 26 := by decide +kernel
theorem dX9_findDay_26 : fnD cX9_findDay 26 (.iadd) 1 27 := by decide +kernel
theorem dX9_findDay_27 : fnD cX9_findDay 27 (.sipush 3200) 3 30 := by decide +kernel
theorem dX9_findDay_30 : fnD cX9_findDay 30 (.invokestatic 37) 3 33 := by decide +kernel
theorem dX9_findDay_33 : fnD cX9_findDay 33 (.istore 8) 2 35 := by decide +kernel
theorem dX9_findDay_35 : fnD cX9_findDay 35 (.iload 5) 2 37 := by decide +kernel
theorem dX9_findDay_37 : fnD cX9_findDay 37 (.aload_n 1) 1 38 := by decide +kernel
theorem dX9_findDay_38 : fnD cX9_findDay 38 (.getfield 43) 3 41 := by decide +kernel
theorem dX9_findDay_41 : fnD cX9_findDay 41 (.iload 7) 2 43 := by decide +kernel
theorem dX9_findDay_43 : fnD cX9_findDay 43 (.iaload) 1 44 := by decide +kernel
theorem dX9_findDay_44 : fnD cX9_findDay 44 (.iload 8) 2 46 := by decide +kernel
theorem dX9_findDay_46 : fnD cX9_findDay 46 (.invokestatic 46) 3 49 := by decide +kernel
theorem dX9_findDay_49 : fnD cX9_findDay 49 (.imul) 1 50 := by decide +kernel
theorem dX9_findDay_50 : fnD cX9_findDay 50 (.iadd) 1 51 := by decide +kernel
theorem dX9_findDay_51 : fnD cX9_findDay 51 (.istore 5) 2 53 := by decide +kernel
theorem dX9_findDay_53 : fnD cX9_findDay 53 (.iload 6) 2 55 := by decide +kernel
theorem dX9_findDay_55 : fnD cX9_findDay 55 (.aload_n 1) 1 56 := by decide +kernel
theorem dX9_findDay_56 : fnD cX9_findDay 56 (.getfield 43) 3 59 := by decide +kernel
theorem dX9_findDay_59 : fnD cX9_findDay 59 (.iload 7) 2 61 := by decide +kernel
theorem dX9_findDay_61 : fnD cX9_findDay 61 (.iaload) 1 62 := by decide +kernel
theorem dX9_findDay_62 : fnD cX9_findDay 62 (.iload 8) 2 64 := by decide +kernel
theorem dX9_findDay_64 : fnD cX9_findDay 64 (.invokestatic 52) 3 67 := by decide +kernel
theorem dX9_findDay_67 : fnD cX9_findDay 67 (.imul) 1 68 := by decide +kernel
theorem dX9_findDay_68 : fnD cX9_findDay 68 (.iadd) 1 69 := by decide +kernel
theorem dX9_findDay_69 : fnD cX9_findDay 69 (.istore 6) 2 71 := by decide +kernel
theorem dX9_findDay_71 : fnD cX9_findDay 71 (.iinc 7 1) 3 74 := by decide +kernel
theorem dX9_findDay_74 : fnGo cX9_findDay 74 9 := by decide +kernel
theorem dX9_findDay_77 : fnD cX9_findDay 77 (.iconst 0) 1 78 := by decide +kernel
theorem dX9_findDay_78 : fnD cX9_findDay 78 (.istore 7) 2 80 := by decide +kernel
theorem dX9_findDay_80 : fnD cX9_findDay 80 (.iload 7) 2 82 := by decide +kernel
theorem dX9_findDay_82 : fnD cX9_findDay 82 (.aload_n 1) 1 83 := by decide +kernel
theorem dX9_findDay_83 : fnD cX9_findDay 83 (.getfield 32) 3 86 := by decide +kernel
theorem dX9_findDay_86 : fnIc cX9_findDay 86 .ge 217 89 := by decide +kernel
theorem dX9_findDay_89 : fnD cX9_findDay 89 (.iload 7) 2 91 := by decide +kernel
theorem dX9_findDay_91 : fnIf cX9_findDay 91 .eq 113 94 := by decide +kernel
theorem dX9_findDay_94 : fnD cX9_findDay 94 (.aload_n 1) 1 95 := by decide +kernel
theorem dX9_findDay_95 : fnD cX9_findDay 95 (.getfield 55) 3 98 := by decide +kernel
theorem dX9_findDay_98 : fnD cX9_findDay 98 (.iload 7) 2 100 := by decide +kernel
theorem dX9_findDay_100 : fnD cX9_findDay 100 (.iaload) 1 101 := by decide +kernel
theorem dX9_findDay_101 : fnD cX9_findDay 101 (.aload_n 1) 1 102 := by decide +kernel
theorem dX9_findDay_102 : fnD cX9_findDay 102 (.getfield 55) 3 105 := by decide +kernel
theorem dX9_findDay_105 : fnD cX9_findDay 105 (.iload 7) 2 107 := by decide +kernel
theorem dX9_findDay_107 : fnD cX9_findDay 107 (.iconst 1) 1 108 := by decide +kernel
theorem dX9_findDay_108 : fnD cX9_findDay 108 (.isub) 1 109 := by decide +kernel
theorem dX9_findDay_109 : fnD cX9_findDay 109 (.iaload) 1 110 := by decide +kernel
theorem dX9_findDay_110 : fnIc cX9_findDay 110 .eq 142 113 := by decide +kernel
theorem dX9_findDay_113 : fnD cX9_findDay 113 (.aload_n 0) 1 114 := by decide +kernel
theorem dX9_findDay_114 : fnD cX9_findDay 114 (.aload_n 1) 1 115 := by decide +kernel
theorem dX9_findDay_115 : fnD cX9_findDay 115 (.getfield 55) 3 118 := by decide +kernel
theorem dX9_findDay_118 : fnD cX9_findDay 118 (.iload 7) 2 120 := by decide +kernel
theorem dX9_findDay_120 : fnD cX9_findDay 120 (.iaload) 1 121 := by decide +kernel
theorem dX9_findDay_121 : fnD cX9_findDay 121 (.iload_n 2) 1 122 := by decide +kernel
theorem dX9_findDay_122 : fnD cX9_findDay 122 (.iload_n 3) 1 123 := by decide +kernel
theorem dX9_findDay_123 : fnD cX9_findDay 123 (.iload 5) 2 125 := by decide +kernel
theorem dX9_findDay_125 : fnD cX9_findDay 125 (.sipush 1000) 3 128 := by decide +kernel
theorem dX9_findDay_128 : fnD cX9_findDay 128 (.idiv) 1 129 := by decide +kernel
theorem dX9_findDay_129 : fnD cX9_findDay 129 (.isub) 1 130 := by decide +kernel
theorem dX9_findDay_130 : fnD cX9_findDay 130 (.iload 4) 2 132 := by decide +kernel
theorem dX9_findDay_132 : fnD cX9_findDay 132 (.iload 6) 2 134 := by decide +kernel
theorem dX9_findDay_134 : fnD cX9_findDay 134 (.sipush 1000) 3 137 := by decide +kernel
theorem dX9_findDay_137 : fnD cX9_findDay 137 (.idiv) 1 138 := by decide +kernel
theorem dX9_findDay_138 : fnD cX9_findDay 138 (.isub) 1 139 := by decide +kernel
theorem dX9_findDay_139 : fnD cX9_findDay 139 (.invokevirtual 58) 3 142 := by decide +kernel
theorem dX9_findDay_142 : fnD cX9_findDay 142 (.aload_n 0) 1 143 := by decide +kernel
theorem dX9_findDay_143 : fnD cX9_findDay 143 (.getfield 9) 3 146 := by decide +kernel
theorem dX9_findDay_146 : fnD cX9_findDay 146 (.iload 7) 2 148 := by decide +kernel
theorem dX9_findDay_148 : fnD cX9_findDay 148 (.iaload) 1 149 := by decide +kernel
theorem dX9_findDay_149 : fnD cX9_findDay 149 (.istore 8) 2 151 := by decide +kernel
theorem dX9_findDay_151 : fnD cX9_findDay 151 (.iload 8) 2 153 := by decide +kernel
theorem dX9_findDay_153 : fnD cX9_findDay 153 (.iload_n 2) 1 154 := by decide +kernel
theorem dX9_findDay_154 : fnD cX9_findDay 154 (.iadd) 1 155 := by decide +kernel
theorem dX9_findDay_155 : fnD cX9_findDay 155 (.sipush 3200) 3 158 := by decide +kernel
theorem dX9_findDay_158 : fnD cX9_findDay 158 (.invokestatic 37) 3 161 := by decide +kernel
theorem dX9_findDay_161 : fnD cX9_findDay 161 (.istore 9) 2 163 := by decide +kernel
theorem dX9_findDay_163 : fnD cX9_findDay 163 (.iload 5) 2 165 := by decide +kernel
theorem dX9_findDay_165 : fnD cX9_findDay 165 (.aload_n 1) 1 166 := by decide +kernel
theorem dX9_findDay_166 : fnD cX9_findDay 166 (.getfield 43) 3 169 := by decide +kernel
theorem dX9_findDay_169 : fnD cX9_findDay 169 (.iload 7) 2 171 := by decide +kernel
theorem dX9_findDay_171 : fnD cX9_findDay 171 (.iaload) 1 172 := by decide +kernel
theorem dX9_findDay_172 : fnD cX9_findDay 172 (.iload 8) 2 174 := by decide +kernel
theorem dX9_findDay_174 : fnD cX9_findDay 174 (.invokestatic 46) 3 177 := by decide +kernel
theorem dX9_findDay_177 : fnD cX9_findDay 177 (.iload 9) 2 179 := by decide +kernel
theorem dX9_findDay_179 : fnD cX9_findDay 179 (.invokestatic 46) 3 182 := by decide +kernel
theorem dX9_findDay_182 : fnD cX9_findDay 182 (.isub) 1 183 := by decide +kernel
theorem dX9_findDay_183 : fnD cX9_findDay 183 (.imul) 1 184 := by decide +kernel
theorem dX9_findDay_184 : fnD cX9_findDay 184 (.iadd) 1 185 := by decide +kernel
theorem dX9_findDay_185 : fnD cX9_findDay 185 (.istore 5) 2 187 := by decide +kernel
theorem dX9_findDay_187 : fnD cX9_findDay 187 (.iload 6) 2 189 := by decide +kernel
theorem dX9_findDay_189 : fnD cX9_findDay 189 (.aload_n 1) 1 190 := by decide +kernel
theorem dX9_findDay_190 : fnD cX9_findDay 190 (.getfield 43) 3 193 := by decide +kernel
theorem dX9_findDay_193 : fnD cX9_findDay 193 (.iload 7) 2 195 := by decide +kernel
theorem dX9_findDay_195 : fnD cX9_findDay 195 (.iaload) 1 196 := by decide +kernel
theorem dX9_findDay_196 : fnD cX9_findDay 196 (.iload 8) 2 198 := by decide +kernel
theorem dX9_findDay_198 : fnD cX9_findDay 198 (.invokestatic 52) 3 201 := by decide +kernel
theorem dX9_findDay_201 : fnD cX9_findDay 201 (.iload 9) 2 203 := by decide +kernel
theorem dX9_findDay_203 : fnD cX9_findDay 203 (.invokestatic 52) 3 206 := by decide +kernel
theorem dX9_findDay_206 : fnD cX9_findDay 206 (.isub) 1 207 := by decide +kernel
theorem dX9_findDay_207 : fnD cX9_findDay 207 (.imul) 1 208 := by decide +kernel
theorem dX9_findDay_208 : fnD cX9_findDay 208 (.iadd) 1 209 := by decide +kernel
theorem dX9_findDay_209 : fnD cX9_findDay 209 (.istore 6) 2 211 := by decide +kernel
theorem dX9_findDay_211 : fnD cX9_findDay 211 (.iinc 7 1) 3 214 := by decide +kernel
theorem dX9_findDay_214 : fnGo cX9_findDay 214 80 := by decide +kernel
theorem dX9_findDay_217 : fnD cX9_findDay 217 (.return_) 1 218 := by decide +kernel
theorem dX9_weigh_0 : fnD cX9_weigh 0 (.iload_n 3) 1 1 := by decide +kernel
theorem dX9_weigh_1 : fnD cX9_weigh 1 (.iload_n 3) 1 2 := by decide +kernel
theorem dX9_weigh_2 : fnD cX9_weigh 2 (.imul) 1 3 := by decide +kernel
theorem dX9_weigh_3 : fnD cX9_weigh 3 (.iload 4) 2 5 := by decide +kernel
theorem dX9_weigh_5 : fnD cX9_weigh 5 (.iload 4) 2 7 := by decide +kernel
theorem dX9_weigh_7 : fnD cX9_weigh 7 (.imul) 1 8 := by decide +kernel
theorem dX9_weigh_8 : fnD cX9_weigh 8 (.iadd) 1 9 := by decide +kernel
theorem dX9_weigh_9 : fnD cX9_weigh 9 (.istore 5) 2 11 := by decide +kernel
theorem dX9_weigh_11 : fnD cX9_weigh 11 (.iload 5) 2 13 := by decide +kernel
theorem dX9_weigh_13 : fnD cX9_weigh 13 (.aload_n 0) 1 14 := by decide +kernel
theorem dX9_weigh_14 : fnD cX9_weigh 14 (.getfield 22) 3 17 := by decide +kernel
theorem dX9_weigh_17 : fnIc cX9_weigh 17 .lt 37 20 := by decide +kernel
theorem dX9_weigh_20 : fnD cX9_weigh 20 (.iload 5) 2 22 := by decide +kernel
theorem dX9_weigh_22 : fnD cX9_weigh 22 (.aload_n 0) 1 23 := by decide +kernel
theorem dX9_weigh_23 : fnD cX9_weigh 23 (.getfield 22) 3 26 := by decide +kernel
theorem dX9_weigh_26 : fnIc cX9_weigh 26 .ne 53 29 := by decide +kernel
theorem dX9_weigh_29 : fnD cX9_weigh 29 (.iload_n 1) 1 30 := by decide +kernel
theorem dX9_weigh_30 : fnD cX9_weigh 30 (.aload_n 0) 1 31 := by decide +kernel
theorem dX9_weigh_31 : fnD cX9_weigh 31 (.getfield 15) 3 34 := by decide +kernel
theorem dX9_weigh_34 : fnIc cX9_weigh 34 .ge 53 37 := by decide +kernel
theorem dX9_weigh_37 : fnD cX9_weigh 37 (.aload_n 0) 1 38 := by decide +kernel
theorem dX9_weigh_38 : fnD cX9_weigh 38 (.iload 5) 2 40 := by decide +kernel
theorem dX9_weigh_40 : fnD cX9_weigh 40 (.putfield 22) 3 43 := by decide +kernel
theorem dX9_weigh_43 : fnD cX9_weigh 43 (.aload_n 0) 1 44 := by decide +kernel
theorem dX9_weigh_44 : fnD cX9_weigh 44 (.iload_n 1) 1 45 := by decide +kernel
theorem dX9_weigh_45 : fnD cX9_weigh 45 (.putfield 15) 3 48 := by decide +kernel
theorem dX9_weigh_48 : fnD cX9_weigh 48 (.aload_n 0) 1 49 := by decide +kernel
theorem dX9_weigh_49 : fnD cX9_weigh 49 (.iload_n 2) 1 50 := by decide +kernel
theorem dX9_weigh_50 : fnD cX9_weigh 50 (.putfield 19) 3 53 := by decide +kernel
theorem dX9_weigh_53 : fnD cX9_weigh 53 (.return_) 1 54 := by decide +kernel
end
section
theorem dX10_init_0 : fnD cX10_init 0 (.aload_n 0) 1 1 := by decide +kernel
theorem dX10_init_1 : fnD cX10_init 1 (.invokespecial 1) 3 4 := by decide +kernel
theorem dX10_init_4 : fnD cX10_init 4 (.aload_n 0) 1 5 := by decide +kernel
theorem dX10_init_5 : fnD cX10_init 5 (.iconst 3) 1 6 := by decide +kernel
theorem dX10_init_6 : fnD cX10_init 6 (.anewarray 9) 3 9 := by decide +kernel
theorem dX10_init_9 : fnD cX10_init 9 (.putfield 11) 3 12 := by decide +kernel
theorem dX10_init_12 : fnD cX10_init 12 (.aload_n 0) 1 13 := by decide +kernel
theorem dX10_init_13 : fnD cX10_init 13 (.iconst 3) 1 14 := by decide +kernel
theorem dX10_init_14 : fnD cX10_init 14 (.anewarray 15) 3 17 := by decide +kernel
theorem dX10_init_17 : fnD cX10_init 17 (.putfield 17) 3 20 := by decide +kernel
theorem dX10_init_20 : fnD cX10_init 20 (.aload_n 0) 1 21 := by decide +kernel
theorem dX10_init_21 : fnD cX10_init 21 (.new 21) 3 24 := by decide +kernel
theorem dX10_init_24 : fnD cX10_init 24 (.dup) 1 25 := by decide +kernel
theorem dX10_init_25 : fnD cX10_init 25 (.invokespecial 23) 3 28 := by decide +kernel
theorem dX10_init_28 : fnD cX10_init 28 (.putfield 24) 3 31 := by decide +kernel
theorem dX10_init_31 : fnD cX10_init 31 (.aload_n 0) 1 32 := by decide +kernel
theorem dX10_init_32 : fnD cX10_init 32 (.new 28) 3 35 := by decide +kernel
theorem dX10_init_35 : fnD cX10_init 35 (.dup) 1 36 := by decide +kernel
theorem dX10_init_36 : fnD cX10_init 36 (.invokespecial 30) 3 39 := by decide +kernel
theorem dX10_init_39 : fnD cX10_init 39 (.putfield 31) 3 42 := by decide +kernel
theorem dX10_init_42 : fnD cX10_init 42 (.aload_n 0) 1 43 := by decide +kernel
theorem dX10_init_43 : fnD cX10_init 43 (.new 35) 3 46 := by decide +kernel
theorem dX10_init_46 : fnD cX10_init 46 (.dup) 1 47 := by decide +kernel
theorem dX10_init_47 : fnD cX10_init 47 (.invokespecial 37) 3 50 := by decide +kernel
theorem dX10_init_50 : fnD cX10_init 50 (.putfield 38) 3 53 := by decide +kernel
theorem dX10_init_53 : fnD cX10_init 53 (.aload_n 0) 1 54 := by decide +kernel
theorem dX10_init_54 : fnD cX10_init 54 (.new 42) 3 57 := by decide +kernel
theorem dX10_init_57 : fnD cX10_init 57 (.dup) 1 58 := by decide +kernel
theorem dX10_init_58 : fnD cX10_init 58 (.invokespecial 44) 3 61 := by decide +kernel
theorem dX10_init_61 : fnD cX10_init 61 (.putfield 45) 3 64 := by decide +kernel
theorem dX10_init_64 : fnD cX10_init 64 (.aload_n 0) 1 65 := by decide +kernel
theorem dX10_init_65 : fnD cX10_init 65 (.new 49) 3 68 := by decide +kernel
theorem dX10_init_68 : fnD cX10_init 68 (.dup) 1 69 := by decide +kernel
theorem dX10_init_69 : fnD cX10_init 69 (.invokespecial 51) 3 72 := by decide +kernel
theorem dX10_init_72 : fnD cX10_init 72 (.putfield 52) 3 75 := by decide +kernel
theorem dX10_init_75 : fnD cX10_init 75 (.aload_n 0) 1 76 := by decide +kernel
theorem dX10_init_76 : fnD cX10_init 76 (.new 56) 3 79 := by decide +kernel
theorem dX10_init_79 : fnD cX10_init 79 (.dup) 1 80 := by decide +kernel
theorem dX10_init_80 : fnD cX10_init 80 (.invokespecial 58) 3 83 := by decide +kernel
theorem dX10_init_83 : fnD cX10_init 83 (.putfield 59) 3 86 := by decide +kernel
theorem dX10_init_86 : fnD cX10_init 86 (.aload_n 0) 1 87 := by decide +kernel
theorem dX10_init_87 : fnD cX10_init 87 (.new 63) 3 90 := by decide +kernel
theorem dX10_init_90 : fnD cX10_init 90 (.dup) 1 91 := by decide +kernel
theorem dX10_init_91 : fnD cX10_init 91 (.invokespecial 65) 3 94 := by decide +kernel
theorem dX10_init_94 : fnD cX10_init 94 (.putfield 66) 3 97 := by decide +kernel
theorem dX10_init_97 : fnD cX10_init 97 (.aload_n 0) 1 98 := by decide +kernel
theorem dX10_init_98 : fnD cX10_init 98 (.new 9) 3 101 := by decide +kernel
theorem dX10_init_101 : fnD cX10_init 101 (.dup) 1 102 := by decide +kernel
theorem dX10_init_102 : fnD cX10_init 102 (.invokespecial 70) 3 105 := by decide +kernel
theorem dX10_init_105 : fnD cX10_init 105 (.putfield 71) 3 108 := by decide +kernel
theorem dX10_init_108 : fnD cX10_init 108 (.aload_n 0) 1 109 := by decide +kernel
theorem dX10_init_109 : fnD cX10_init 109 (.bipush 32) 2 111 := by decide +kernel
theorem dX10_init_111 : fnD cX10_init 111 (.newarray .int) 2 113 := by decide +kernel
theorem dX10_init_113 : fnD cX10_init 113 (.putfield 75) 3 116 := by decide +kernel
theorem dX10_init_116 : fnD cX10_init 116 (.aload_n 0) 1 117 := by decide +kernel
theorem dX10_init_117 : fnD cX10_init 117 (.bipush 32) 2 119 := by decide +kernel
theorem dX10_init_119 : fnD cX10_init 119 (.newarray .int) 2 121 := by decide +kernel
theorem dX10_init_121 : fnD cX10_init 121 (.putfield 79) 3 124 := by decide +kernel
theorem dX10_init_124 : fnD cX10_init 124 (.iconst 0) 1 125 := by decide +kernel
theorem dX10_init_125 : fnD cX10_init 125 (.istore_n 1) 1 126 := by decide +kernel
theorem dX10_init_126 : fnD cX10_init 126 (.iload_n 1) 1 127 := by decide +kernel
theorem dX10_init_127 : fnD cX10_init 127 (.iconst 3) 1 128 := by decide +kernel
theorem dX10_init_128 : fnIc cX10_init 128 .ge 163 131 := by decide +kernel
theorem dX10_init_131 : fnD cX10_init 131 (.aload_n 0) 1 132 := by decide +kernel
theorem dX10_init_132 : fnD cX10_init 132 (.getfield 11) 3 135 := by decide +kernel
theorem dX10_init_135 : fnD cX10_init 135 (.iload_n 1) 1 136 := by decide +kernel
theorem dX10_init_136 : fnD cX10_init 136 (.new 9) 3 139 := by decide +kernel
theorem dX10_init_139 : fnD cX10_init 139 (.dup) 1 140 := by decide +kernel
theorem dX10_init_140 : fnD cX10_init 140 (.invokespecial 70) 3 143 := by decide +kernel
theorem dX10_init_143 : fnD cX10_init 143 (.aastore) 1 144 := by decide +kernel
theorem dX10_init_144 : fnD cX10_init 144 (.aload_n 0) 1 145 := by decide +kernel
theorem dX10_init_145 : fnD cX10_init 145 (.getfield 17) 3 148 := by decide +kernel
theorem dX10_init_148 : fnD cX10_init 148 (.iload_n 1) 1 149 := by decide +kernel
theorem dX10_init_149 : fnD cX10_init 149 (.new 15) 3 152 := by decide +kernel
theorem dX10_init_152 : fnD cX10_init 152 (.dup) 1 153 := by decide +kernel
theorem dX10_init_153 : fnD cX10_init 153 (.invokespecial 82) 3 156 := by decide +kernel
theorem dX10_init_156 : fnD cX10_init 156 (.aastore) 1 157 := by decide +kernel
theorem dX10_init_157 : fnD cX10_init 157 (.iinc 1 1) 3 160 := by decide +kernel
theorem dX10_init_160 : fnGo cX10_init 160 126 := by decide +kernel
theorem dX10_init_163 : fnD cX10_init 163 (.return_) 1 164 := by decide +kernel
theorem dX10_sine_0 : fnD cX10_sine 0 (.iload_n 1) 1 1 := by decide +kernel
theorem dX10_sine_1 : fnD cX10_sine 1 (.invokestatic 83) 3 4 := by decide +kernel
theorem dX10_sine_4 : fnIf cX10_sine 4 .ne 11 7 := by decide +kernel
theorem dX10_sine_7 : fnD cX10_sine 7 (.sipush (-2002)) 3 10 := by decide +kernel
theorem dX10_sine_10 : fnD cX10_sine 10 (.ireturn) 1 11 := by decide +kernel
theorem dX10_sine_11 : fnD cX10_sine 11 (.iload_n 2) 1 12 := by decide +kernel
theorem dX10_sine_12 : fnIf cX10_sine 12 .eq 22 15 := by decide +kernel
theorem dX10_sine_15 : fnD cX10_sine 15 (.iload_n 1) 1 16 := by decide +kernel
theorem dX10_sine_16 : fnD cX10_sine 16 (.invokestatic 87) 3 19 := by decide +kernel
theorem dX10_sine_19 : fnGo cX10_sine 19 26 := by decide +kernel
theorem dX10_sine_22 : fnD cX10_sine 22 (.iload_n 1) 1 23 := by decide +kernel
theorem dX10_sine_23 : fnD cX10_sine 23 (.invokestatic 93) 3 26 := by decide +kernel
theorem dX10_sine_26 : fnD cX10_sine 26 (.ireturn) 1 27 := by decide +kernel
theorem dX10_way_0 : fnD cX10_way 0 (.iload_n 1) 1 1 := by decide +kernel
theorem dX10_way_1 : fnD cX10_way 1 (.invokestatic 83) 3 4 := by decide +kernel
theorem dX10_way_4 : fnIf cX10_way 4 .eq 14 7 := by decide +kernel
theorem dX10_way_7 : fnD cX10_way 7 (.iload_n 2) 1 8 := by decide +kernel
theorem dX10_way_8 : fnD cX10_way 8 (.invokestatic 83) 3 11 := by decide +kernel
theorem dX10_way_11 : fnIf cX10_way 11 .ne 18 14 := by decide +kernel
theorem dX10_way_14 : fnD cX10_way 14 (.sipush (-2002)) 3 17 := by decide +kernel
theorem dX10_way_17 : fnD cX10_way 17 (.ireturn) 1 18 := by decide +kernel
theorem dX10_way_18 : fnD cX10_way 18 (.iload_n 1) 1 19 := by decide +kernel
theorem dX10_way_19 : fnD cX10_way 19 (.iload_n 2) 1 20 := by decide +kernel
theorem dX10_way_20 : fnD cX10_way 20 (.invokestatic 96) 3 23 := by decide +kernel
theorem dX10_way_23 : fnD cX10_way 23 (.ireturn) 1 24 := by decide +kernel
theorem dX10_part_0 : fnD cX10_part 0 (.iload_n 1) 1 1 := by decide +kernel
theorem dX10_part_1 : fnD cX10_part 1 (.invokestatic 100) 3 4 := by decide +kernel
theorem dX10_part_4 : fnIf cX10_part 4 .eq 14 7 := by decide +kernel
theorem dX10_part_7 : fnD cX10_part 7 (.iload_n 2) 1 8 := by decide +kernel
theorem dX10_part_8 : fnD cX10_part 8 (.invokestatic 103) 3 11 := by decide +kernel
theorem dX10_part_11 : fnIf cX10_part 11 .ne 18 14 := by decide +kernel
theorem dX10_part_14 : fnD cX10_part 14 (.sipush (-2001)) 3 17 := by decide +kernel
theorem dX10_part_17 : fnD cX10_part 17 (.ireturn) 1 18 := by decide +kernel
theorem dX10_part_18 : fnD cX10_part 18 (.iload_n 3) 1 19 := by decide +kernel
theorem dX10_part_19 : fnD cX10_part 19 (.sipush (-999)) 3 22 := by decide +kernel
theorem dX10_part_22 : fnD cX10_part 22 (.sipush 999) 3 25 := by decide +kernel
theorem dX10_part_25 : fnD cX10_part 25 (.invokestatic 106) 3 28 := by decide +kernel
theorem dX10_part_28 : fnIf cX10_part 28 .ne 35 31 := by decide +kernel
theorem dX10_part_31 : fnD cX10_part 31 (.sipush (-2002)) 3 34 := by decide +kernel
theorem dX10_part_34 : fnD cX10_part 34 (.ireturn) 1 35 := by decide +kernel
theorem dX10_part_35 : fnD cX10_part 35 (.aload_n 0) 1 36 := by decide +kernel
theorem dX10_part_36 : fnD cX10_part 36 (.getfield 11) 3 39 := by decide +kernel
theorem dX10_part_39 : fnD cX10_part 39 (.iload_n 1) 1 40 := by decide +kernel
theorem dX10_part_40 : fnD cX10_part 40 (.aaload) 1 41 := by decide +kernel
theorem dX10_part_41 : fnD cX10_part 41 (.getfield 110) 3 44 := by decide +kernel
theorem dX10_part_44 : fnD cX10_part 44 (.iload_n 2) 1 45 := by decide +kernel
theorem dX10_part_45 : fnD cX10_part 45 (.iaload) 1 46 := by decide +kernel
theorem dX10_part_46 : fnD cX10_part 46 (.istore 4) 2 48 := by decide +kernel
theorem dX10_part_48 : fnD cX10_part 48 (.aload_n 0) 1 49 := by decide +kernel
theorem dX10_part_49 : fnD cX10_part 49 (.getfield 11) 3 52 := by decide +kernel
theorem dX10_part_52 : fnD cX10_part 52 (.iload_n 1) 1 53 := by decide +kernel
theorem dX10_part_53 : fnD cX10_part 53 (.aaload) 1 54 := by decide +kernel
theorem dX10_part_54 : fnD cX10_part 54 (.getfield 110) 3 57 := by decide +kernel
theorem dX10_part_57 : fnD cX10_part 57 (.iload_n 2) 1 58 := by decide +kernel
theorem dX10_part_58 : fnD cX10_part 58 (.iload_n 3) 1 59 := by decide +kernel
theorem dX10_part_59 : fnD cX10_part 59 (.iastore) 1 60 := by decide +kernel
theorem dX10_part_60 : fnD cX10_part 60 (.iload 4) 2 62 := by decide +kernel
theorem dX10_part_62 : fnD cX10_part 62 (.ireturn) 1 63 := by decide +kernel
theorem dX10_told_0 : fnD cX10_told 0 (.iload_n 1) 1 1 := by decide +kernel
theorem dX10_told_1 : fnD cX10_told 1 (.invokestatic 100) 3 4 := by decide +kernel
theorem dX10_told_4 : fnIf cX10_told 4 .eq 14 7 := by decide +kernel
theorem dX10_told_7 : fnD cX10_told 7 (.iload_n 2) 1 8 := by decide +kernel
theorem dX10_told_8 : fnD cX10_told 8 (.invokestatic 103) 3 11 := by decide +kernel
theorem dX10_told_11 : fnIf cX10_told 11 .ne 18 14 := by decide +kernel
theorem dX10_told_14 : fnD cX10_told 14 (.sipush (-2001)) 3 17 := by decide +kernel
theorem dX10_told_17 : fnD cX10_told 17 (.ireturn) 1 18 := by decide +kernel
theorem dX10_told_18 : fnD cX10_told 18 (.aload_n 0) 1 19 := by decide +kernel
theorem dX10_told_19 : fnD cX10_told 19 (.getfield 11) 3 22 := by decide +kernel
theorem dX10_told_22 : fnD cX10_told 22 (.iload_n 1) 1 23 := by decide +kernel
theorem dX10_told_23 : fnD cX10_told 23 (.aaload) 1 24 := by decide +kernel
theorem dX10_told_24 : fnD cX10_told 24 (.getfield 110) 3 27 := by decide +kernel
theorem dX10_told_27 : fnD cX10_told 27 (.iload_n 2) 1 28 := by decide +kernel
theorem dX10_told_28 : fnD cX10_told 28 (.iaload) 1 29 := by decide +kernel
theorem dX10_told_29 : fnD cX10_told 29 (.ireturn) 1 30 := by decide +kernel
theorem dX10_error_0 : fnD cX10_error 0 (.iload_n 1) 1 1 := by decide +kernel
theorem dX10_error_1 : fnD cX10_error 1 (.invokestatic 100) 3 4 := by decide +kernel
theorem dX10_error_4 : fnIf cX10_error 4 .eq 14 7 := by decide +kernel
theorem dX10_error_7 : fnD cX10_error 7 (.iload_n 2) 1 8 := by decide +kernel
theorem dX10_error_8 : fnD cX10_error 8 (.invokestatic 113) 3 11 := by decide +kernel
theorem dX10_error_11 : fnIf cX10_error 11 .ne 18 14 := by decide +kernel
theorem dX10_error_14 : fnD cX10_error 14 (.sipush (-2001)) 3 17 := by decide +kernel
theorem dX10_error_17 : fnD cX10_error 17 (.ireturn) 1 18 := by decide +kernel
theorem dX10_error_18 : fnD cX10_error 18 (.iload_n 3) 1 19 := by decide +kernel
theorem dX10_error_19 : fnD cX10_error 19 (.invokestatic 116) 3 22 := by decide +kernel
theorem dX10_error_22 : fnIf cX10_error 22 .ne 29 25 := by decide +kernel
theorem dX10_error_25 : fnD cX10_error 25 (.sipush (-2002)) 3 28 := by decide +kernel
theorem dX10_error_28 : fnD cX10_error 28 (.ireturn) 1 29 := by decide +kernel
theorem dX10_error_29 : fnD cX10_error 29 (.aload_n 0) 1 30 := by decide +kernel
theorem dX10_error_30 : fnD cX10_error 30 (.getfield 11) 3 33 := by decide +kernel
theorem dX10_error_33 : fnD cX10_error 33 (.iload_n 1) 1 34 := by decide +kernel
theorem dX10_error_34 : fnD cX10_error 34 (.aaload) 1 35 := by decide +kernel
theorem dX10_error_35 : fnD cX10_error 35 (.iload_n 2) 1 36 := by decide +kernel
theorem dX10_error_36 : fnD cX10_error 36 (.iload_n 3) 1 37 := by decide +kernel
theorem dX10_error_37 : fnD cX10_error 37 (.invokevirtual 119) 3 40 := by decide +kernel
theorem dX10_error_40 : fnD cX10_error 40 (.ireturn) 1 41 := by decide +kernel
theorem dX10_errorAt_0 : fnD cX10_errorAt 0 (.iload_n 1) 1 1 := by decide +kernel
theorem dX10_errorAt_1 : fnD cX10_errorAt 1 (.invokestatic 100) 3 4 := by decide +kernel
theorem dX10_errorAt_4 : fnIf cX10_errorAt 4 .ne 11 7 := by decide +kernel
theorem dX10_errorAt_7 : fnD cX10_errorAt 7 (.sipush (-2001)) 3 10 := by decide +kernel
theorem dX10_errorAt_10 : fnD cX10_errorAt 10 (.ireturn) 1 11 := by decide +kernel
theorem dX10_errorAt_11 : fnD cX10_errorAt 11 (.iload_n 2) 1 12 := by decide +kernel
theorem dX10_errorAt_12 : fnD cX10_errorAt 12 (.invokestatic 83) 3 15 := by decide +kernel
theorem dX10_errorAt_15 : fnIf cX10_errorAt 15 .eq 25 18 := by decide +kernel
theorem dX10_errorAt_18 : fnD cX10_errorAt 18 (.iload_n 3) 1 19 := by decide +kernel
theorem dX10_errorAt_19 : fnD cX10_errorAt 19 (.invokestatic 116) 3 22 := by decide +kernel
theorem dX10_errorAt_22 : fnIf cX10_errorAt 22 .ne 29 25 := by decide +kernel
theorem dX10_errorAt_25 : fnD cX10_errorAt 25 (.sipush (-2002)) 3 28 := by decide +kernel
theorem dX10_errorAt_28 : fnD cX10_errorAt 28 (.ireturn) 1 29 := by decide +kernel
theorem dX10_errorAt_29 : fnD cX10_errorAt 29 (.aload_n 0) 1 30 := by decide +kernel
theorem dX10_errorAt_30 : fnD cX10_errorAt 30 (.getfield 11) 3 33 := by decide +kernel
theorem dX10_errorAt_33 : fnD cX10_errorAt 33 (.iload_n 1) 1 34 := by decide +kernel
theorem dX10_errorAt_34 : fnD cX10_errorAt 34 (.aaload) 1 35 := by decide +kernel
theorem dX10_errorAt_35 : fnD cX10_errorAt 35 (.iload_n 2) 1 36 := by decide +kernel
theorem dX10_errorAt_36 : fnD cX10_errorAt 36 (.iload_n 3) 1 37 := by decide +kernel
theorem dX10_errorAt_37 : fnD cX10_errorAt 37 (.invokevirtual 122) 3 40 := by decide +kernel
theorem dX10_errorAt_40 : fnD cX10_errorAt 40 (.ireturn) 1 41 := by decide +kernel
theorem dX10_trueOf_0 : fnD cX10_trueOf 0 (.iload_n 1) 1 1 := by decide +kernel
theorem dX10_trueOf_1 : fnD cX10_trueOf 1 (.invokestatic 100) 3 4 := by decide +kernel
theorem dX10_trueOf_4 : fnIf cX10_trueOf 4 .ne 11 7 := by decide +kernel
theorem dX10_trueOf_7 : fnD cX10_trueOf 7 (.sipush (-2001)) 3 10 := by decide +kernel
theorem dX10_trueOf_10 : fnD cX10_trueOf 10 (.ireturn) 1 11 := by decide +kernel
theorem dX10_trueOf_11 : fnD cX10_trueOf 11 (.iload_n 2) 1 12 := by decide +kernel
theorem dX10_trueOf_12 : fnD cX10_trueOf 12 (.invokestatic 83) 3 15 := by decide +kernel
theorem dX10_trueOf_15 : fnIf cX10_trueOf 15 .eq 25 18 := by decide +kernel
theorem dX10_trueOf_18 : fnD cX10_trueOf 18 (.iload_n 3) 1 19 := by decide +kernel
theorem dX10_trueOf_19 : fnD cX10_trueOf 19 (.invokestatic 116) 3 22 := by decide +kernel
theorem dX10_trueOf_22 : fnIf cX10_trueOf 22 .ne 29 25 := by decide +kernel
theorem dX10_trueOf_25 : fnD cX10_trueOf 25 (.sipush (-2002)) 3 28 := by decide +kernel
theorem dX10_trueOf_28 : fnD cX10_trueOf 28 (.ireturn) 1 29 := by decide +kernel
theorem dX10_trueOf_29 : fnD cX10_trueOf 29 (.aload_n 0) 1 30 := by decide +kernel
theorem dX10_trueOf_30 : fnD cX10_trueOf 30 (.getfield 11) 3 33 := by decide +kernel
theorem dX10_trueOf_33 : fnD cX10_trueOf 33 (.iload_n 1) 1 34 := by decide +kernel
theorem dX10_trueOf_34 : fnD cX10_trueOf 34 (.aaload) 1 35 := by decide +kernel
theorem dX10_trueOf_35 : fnD cX10_trueOf 35 (.iload_n 2) 1 36 := by decide +kernel
theorem dX10_trueOf_36 : fnD cX10_trueOf 36 (.iload_n 3) 1 37 := by decide +kernel
theorem dX10_trueOf_37 : fnD cX10_trueOf 37 (.invokevirtual 125) 3 40 := by decide +kernel
theorem dX10_trueOf_40 : fnD cX10_trueOf 40 (.ireturn) 1 41 := by decide +kernel
theorem dX10_steer_0 : fnD cX10_steer 0 (.iload_n 1) 1 1 := by decide +kernel
theorem dX10_steer_1 : fnD cX10_steer 1 (.invokestatic 100) 3 4 := by decide +kernel
theorem dX10_steer_4 : fnIf cX10_steer 4 .ne 11 7 := by decide +kernel
theorem dX10_steer_7 : fnD cX10_steer 7 (.sipush (-2001)) 3 10 := by decide +kernel
theorem dX10_steer_10 : fnD cX10_steer 10 (.ireturn) 1 11 := by decide +kernel
theorem dX10_steer_11 : fnD cX10_steer 11 (.iload_n 2) 1 12 := by decide +kernel
theorem dX10_steer_12 : fnD cX10_steer 12 (.invokestatic 83) 3 15 := by decide +kernel
theorem dX10_steer_15 : fnIf cX10_steer 15 .eq 25 18 := by decide +kernel
theorem dX10_steer_18 : fnD cX10_steer 18 (.iload_n 3) 1 19 := by decide +kernel
theorem dX10_steer_19 : fnD cX10_steer 19 (.invokestatic 116) 3 22 := by decide +kernel
theorem dX10_steer_22 : fnIf cX10_steer 22 .ne 29 25 := by decide +kernel
theorem dX10_steer_25 : fnD cX10_steer 25 (.sipush (-2002)) 3 28 := by decide +kernel
theorem dX10_steer_28 : fnD cX10_steer 28 (.ireturn) 1 29 := by decide +kernel
theorem dX10_steer_29 : fnD cX10_steer 29 (.aload_n 0) 1 30 := by decide +kernel
theorem dX10_steer_30 : fnD cX10_steer 30 (.getfield 11) 3 33 := by decide +kernel
theorem dX10_steer_33 : fnD cX10_steer 33 (.iload_n 1) 1 34 := by decide +kernel
theorem dX10_steer_34 : fnD cX10_steer 34 (.aaload) 1 35 := by decide +kernel
theorem dX10_steer_35 : fnD cX10_steer 35 (.aload_n 0) 1 36 := by decide +kernel
theorem dX10_steer_36 : fnD cX10_steer 36 (.getfield 75) 3 39 := by decide +kernel
theorem dX10_steer_39 : fnD cX10_steer 39 (.iload_n 3) 1 40 := by decide +kernel
theorem dX10_steer_40 : fnD cX10_steer 40 (.invokevirtual 128) 3 43 := by decide +kernel
theorem dX10_steer_43 : fnD cX10_steer 43 (.iconst 0) 1 44 := by decide +kernel
theorem dX10_steer_44 : fnD cX10_steer 44 (.istore 4) 2 46 := by decide +kernel
theorem dX10_steer_46 : fnD cX10_steer 46 (.sipush 3200) 3 49 := by decide +kernel
theorem dX10_steer_49 : fnD cX10_steer 49 (.istore 5) 2 51 := by decide +kernel
theorem dX10_steer_51 : fnD cX10_steer 51 (.iconst 0) 1 52 := by decide +kernel
theorem dX10_steer_52 : fnD cX10_steer 52 (.istore 6) 2 54 := by decide +kernel
theorem dX10_steer_54 : fnD cX10_steer 54 (.iload 6) 2 56 := by decide +kernel
theorem dX10_steer_56 : fnD cX10_steer 56 (.sipush 3200) 3 59 := by decide +kernel
theorem dX10_steer_59 : fnIc cX10_steer 59 .ge 98 62 := by decide +kernel
theorem dX10_steer_62 : fnD cX10_steer 62 (.aload_n 0) 1 63 := by decide +kernel
theorem dX10_steer_63 : fnD cX10_steer 63 (.iload 6) 2 65 := by decide +kernel
theorem dX10_steer_65 : fnD cX10_steer 65 (.invokevirtual 132) 3 68 := by decide +kernel
theorem dX10_steer_68 : fnD cX10_steer 68 (.iload_n 2) 1 69 := by decide +kernel
theorem dX10_steer_69 : fnD cX10_steer 69 (.invokestatic 96) 3 72 := by decide +kernel
theorem dX10_steer_72 : fnD cX10_steer 72 (.invokestatic 135) 3 75 := by decide +kernel
theorem dX10_steer_75 : fnD cX10_steer 75 (.istore 7) 2 77 := by decide +kernel
theorem dX10_steer_77 : fnD cX10_steer 77 (.iload 7) 2 79 := by decide +kernel
theorem dX10_steer_79 : fnD cX10_steer 79 (.iload 5) 2 81 := by decide +kernel
theorem dX10_steer_81 : fnIc cX10_steer 81 .ge 92 84 := by decide +kernel
theorem dX10_steer_84 : fnD cX10_steer 84 (.iload 7) 2 86 := by decide +kernel
theorem dX10_steer_86 : fnD cX10_steer 86 (.istore 5) 2 88 := by decide +kernel
theorem dX10_steer_88 : fnD cX10_steer 88 (.iload 6) 2 90 := by decide +kernel
theorem dX10_steer_90 : fnD cX10_steer 90 (.istore 4) 2 92 := by decide +kernel
theorem dX10_steer_92 : fnD cX10_steer 92 (.iinc 6 1) 3 95 := by decide +kernel
theorem dX10_steer_95 : fnGo cX10_steer 95 54 := by decide +kernel
theorem dX10_steer_98 : fnD cX10_steer 98 (.iload 4) 2 100 := by decide +kernel
theorem dX10_steer_100 : fnD cX10_steer 100 (.ireturn) 1 101 := by decide +kernel
theorem dX10_worst_0 : fnD cX10_worst 0 (.iload_n 1) 1 1 := by decide +kernel
theorem dX10_worst_1 : fnD cX10_worst 1 (.invokestatic 100) 3 4 := by decide +kernel
theorem dX10_worst_4 : fnIf cX10_worst 4 .ne 11 7 := by decide +kernel
theorem dX10_worst_7 : fnD cX10_worst 7 (.sipush (-2001)) 3 10 := by decide +kernel
theorem dX10_worst_10 : fnD cX10_worst 10 (.ireturn) 1 11 := by decide +kernel
theorem dX10_worst_11 : fnD cX10_worst 11 (.aload_n 0) 1 12 := by decide +kernel
theorem dX10_worst_12 : fnD cX10_worst 12 (.getfield 11) 3 15 := by decide +kernel
theorem dX10_worst_15 : fnD cX10_worst 15 (.iload_n 1) 1 16 := by decide +kernel
theorem dX10_worst_16 : fnD cX10_worst 16 (.aaload) 1 17 := by decide +kernel
theorem dX10_worst_17 : fnD cX10_worst 17 (.aload_n 0) 1 18 := by decide +kernel
theorem dX10_worst_18 : fnD cX10_worst 18 (.getfield 11) 3 21 := by decide +kernel
theorem dX10_worst_21 : fnD cX10_worst 21 (.iload_n 1) 1 22 := by decide +kernel
theorem dX10_worst_22 : fnD cX10_worst 22 (.aaload) 1 23 := by decide +kernel
theorem dX10_worst_23 : fnD cX10_worst 23 (.invokevirtual 140) 3 26 := by decide +kernel
theorem dX10_worst_26 : fnD cX10_worst 26 (.iconst 0) 1 27 := by decide +kernel
theorem dX10_worst_27 : fnD cX10_worst 27 (.invokevirtual 119) 3 30 := by decide +kernel
theorem dX10_worst_30 : fnD cX10_worst 30 (.invokestatic 135) 3 33 := by decide +kernel
theorem dX10_worst_33 : fnD cX10_worst 33 (.ireturn) 1 34 := by decide +kernel
theorem dX10_worstAt_0 : fnD cX10_worstAt 0 (.iload_n 1) 1 1 := by decide +kernel
theorem dX10_worstAt_1 : fnD cX10_worstAt 1 (.invokestatic 100) 3 4 := by decide +kernel
theorem dX10_worstAt_4 : fnIf cX10_worstAt 4 .ne 11 7 := by decide +kernel
theorem dX10_worstAt_7 : fnD cX10_worstAt 7 (.sipush (-2001)) 3 10 := by decide +kernel
theorem dX10_worstAt_10 : fnD cX10_worstAt 10 (.ireturn) 1 11 := by decide +kernel
theorem dX10_worstAt_11 : fnD cX10_worstAt 11 (.aload_n 0) 1 12 := by decide +kernel
theorem dX10_worstAt_12 : fnD cX10_worstAt 12 (.getfield 11) 3 15 := by decide +kernel
theorem dX10_worstAt_15 : fnD cX10_worstAt 15 (.iload_n 1) 1 16 := by decide +kernel
theorem dX10_worstAt_16 : fnD cX10_worstAt 16 (.aaload) 1 17 := by decide +kernel
theorem dX10_worstAt_17 : fnD cX10_worstAt 17 (.invokevirtual 140) 3 20 := by decide +kernel
theorem dX10_worstAt_20 : fnD cX10_worstAt 20 (.ireturn) 1 21 := by decide +kernel
theorem dX10_twofold_0 : fnD cX10_twofold 0 (.iload_n 1) 1 1 := by decide +kernel
theorem dX10_twofold_1 : fnD cX10_twofold 1 (.invokestatic 100) 3 4 := by decide +kernel
theorem dX10_twofold_4 : fnIf cX10_twofold 4 .ne 11 7 := by decide +kernel
theorem dX10_twofold_7 : fnD cX10_twofold 7 (.sipush (-2001)) 3 10 := by decide +kernel
theorem dX10_twofold_10 : fnD cX10_twofold 10 (.ireturn) 1 11 := by decide +kernel
theorem dX10_twofold_11 : fnD cX10_twofold 11 (.aload_n 0) 1 12 := by decide +kernel
theorem dX10_twofold_12 : fnD cX10_twofold 12 (.getfield 11) 3 15 := by decide +kernel
theorem dX10_twofold_15 : fnD cX10_twofold 15 (.iload_n 1) 1 16 := by decide +kernel
theorem dX10_twofold_16 : fnD cX10_twofold 16 (.aaload) 1 17 := by decide +kernel
theorem dX10_twofold_17 : fnD cX10_twofold 17 (.aload_n 0) 1 18 := by decide +kernel
theorem dX10_twofold_18 : fnD cX10_twofold 18 (.getfield 75) 3 21 := by decide +kernel
theorem dX10_twofold_21 : fnD cX10_twofold 21 (.iconst 0) 1 22 := by decide +kernel
theorem dX10_twofold_22 : fnD cX10_twofold 22 (.invokevirtual 128) 3 25 := by decide +kernel
theorem dX10_twofold_25 : fnD cX10_twofold 25 (.aload_n 0) 1 26 := by decide +kernel
theorem dX10_twofold_26 : fnD cX10_twofold 26 (.getfield 79) 3 29 := by decide +kernel
theorem dX10_twofold_29 : fnD cX10_twofold 29 (.iconst 0) 1 30 := by decide +kernel
theorem dX10_twofold_30 : fnD cX10_twofold 30 (.invokestatic 144) 3 33 := by decide +kernel
theorem dX10_twofold_33 : fnD cX10_twofold 33 (.iconst 0) 1 34 := by decide +kernel
theorem dX10_twofold_34 : fnD cX10_twofold 34 (.istore_n 2) 1 35 := by decide +kernel
theorem dX10_twofold_35 : fnD cX10_twofold 35 (.iload_n 2) 1 36 := by decide +kernel
theorem dX10_twofold_36 : fnD cX10_twofold 36 (.sipush 3200) 3 39 := by decide +kernel
theorem dX10_twofold_39 : fnIc cX10_twofold 39 .ge 74 42 := by decide +kernel
theorem dX10_twofold_42 : fnD cX10_twofold 42 (.aload_n 0) 1 43 := by decide +kernel
theorem dX10_twofold_43 : fnD cX10_twofold 43 (.iload_n 2) 1 44 := by decide +kernel
theorem dX10_twofold_44 : fnD cX10_twofold 44 (.invokevirtual 132) 3 47 := by decide +kernel
theorem dX10_twofold_47 : fnD cX10_twofold 47 (.istore_n 3) 1 48 := by decide +kernel
theorem dX10_twofold_48 : fnD cX10_twofold 48 (.iload_n 3) 1 49 := by decide +kernel
theorem dX10_twofold_49 : fnD cX10_twofold 49 (.bipush 100) 2 51 := by decide +kernel
theorem dX10_twofold_51 : fnD cX10_twofold 51 (.irem) 1 52 := by decide +kernel
theorem dX10_twofold_52 : fnIf cX10_twofold 52 .ne 68 55 := by decide +kernel
theorem dX10_twofold_55 : fnD cX10_twofold 55 (.aload_n 0) 1 56 := by decide +kernel
theorem dX10_twofold_56 : fnD cX10_twofold 56 (.getfield 79) 3 59 := by decide +kernel
theorem dX10_twofold_59 : fnD cX10_twofold 59 (.iload_n 3) 1 60 := by decide +kernel
theorem dX10_twofold_60 : fnD cX10_twofold 60 (.bipush 100) 2 62 := by decide +kernel
theorem dX10_twofold_62 : fnD cX10_twofold 62 (.idiv) 1 63 := by decide +kernel
theorem dX10_twofold_63 : fnD cX10_twofold 63 (.dup2) 1 64 := by decide +kernel
theorem dX10_twofold_64 : fnD cX10_twofold 64 (.iaload) 1 65 := by decide +kernel
theorem dX10_twofold_65 : fnD cX10_twofold 65 (.iconst 1) 1 66 := by decide +kernel
theorem dX10_twofold_66 : fnD cX10_twofold 66 (.iadd) 1 67 := by decide +kernel
theorem dX10_twofold_67 : fnD cX10_twofold 67 (.iastore) 1 68 := by decide +kernel
theorem dX10_twofold_68 : fnD cX10_twofold 68 (.iinc 2 1) 3 71 := by decide +kernel
theorem dX10_twofold_71 : fnGo cX10_twofold 71 35 := by decide +kernel
theorem dX10_twofold_74 : fnD cX10_twofold 74 (.iconst 0) 1 75 := by decide +kernel
theorem dX10_twofold_75 : fnD cX10_twofold 75 (.istore_n 2) 1 76 := by decide +kernel
theorem dX10_twofold_76 : fnD cX10_twofold 76 (.iconst 0) 1 77 := by decide +kernel
theorem dX10_twofold_77 : fnD cX10_twofold 77 (.istore_n 3) 1 78 := by decide +kernel
theorem dX10_twofold_78 : fnD cX10_twofold 78 (.iload_n 3) 1 79 := by decide +kernel
theorem dX10_twofold_79 : fnD cX10_twofold 79 (.bipush 32) 2 81 := by decide +kernel
theorem dX10_twofold_81 : fnIc cX10_twofold 81 .ge 103 84 := by decide +kernel
theorem dX10_twofold_84 : fnD cX10_twofold 84 (.aload_n 0) 1 85 := by decide +kernel
theorem dX10_twofold_85 : fnD cX10_twofold 85 (.getfield 79) 3 88 := by decide +kernel
theorem dX10_twofold_88 : fnD cX10_twofold 88 (.iload_n 3) 1 89 := by decide +kernel
theorem dX10_twofold_89 : fnD cX10_twofold 89 (.iaload) 1 90 := by decide +kernel
theorem dX10_twofold_90 : fnD cX10_twofold 90 (.iconst 1) 1 91 := by decide +kernel
theorem dX10_twofold_91 : fnIc cX10_twofold 91 .le 97 94 := by decide +kernel
theorem dX10_twofold_94 : fnD cX10_twofold 94 (.iinc 2 1) 3 97 := by decide +kernel
theorem dX10_twofold_97 : fnD cX10_twofold 97 (.iinc 3 1) 3 100 := by decide +kernel
theorem dX10_twofold_100 : fnGo cX10_twofold 100 78 := by decide +kernel
theorem dX10_twofold_103 : fnD cX10_twofold 103 (.iload_n 2) 1 104 := by decide +kernel
theorem dX10_twofold_104 : fnD cX10_twofold 104 (.ireturn) 1 105 := by decide +kernel
theorem dX10_see_0 : fnD cX10_see 0 (.iload_n 1) 1 1 := by decide +kernel
theorem dX10_see_1 : fnD cX10_see 1 (.invokestatic 100) 3 4 := by decide +kernel
theorem dX10_see_4 : fnIf cX10_see 4 .eq 14 7 := by decide +kernel
theorem dX10_see_7 : fnD cX10_see 7 (.iload_n 2) 1 8 := by decide +kernel
theorem dX10_see_8 : fnD cX10_see 8 (.invokestatic 113) 3 11 := by decide +kernel
theorem dX10_see_11 : fnIf cX10_see 11 .ne 18 14 := by decide +kernel
theorem dX10_see_14 : fnD cX10_see 14 (.sipush (-2001)) 3 17 := by decide +kernel
theorem dX10_see_17 : fnD cX10_see 17 (.ireturn) 1 18 := by decide +kernel
theorem dX10_see_18 : fnD cX10_see 18 (.iload_n 3) 1 19 := by decide +kernel
theorem dX10_see_19 : fnD cX10_see 19 (.sipush (-600)) 3 22 := by decide +kernel
theorem dX10_see_22 : fnD cX10_see 22 (.sipush 600) 3 25 := by decide +kernel
theorem dX10_see_25 : fnD cX10_see 25 (.invokestatic 106) 3 28 := by decide +kernel
theorem dX10_see_28 : fnIf cX10_see 28 .ne 35 31 := by decide +kernel
theorem dX10_see_31 : fnD cX10_see 31 (.sipush (-2002)) 3 34 := by decide +kernel
theorem dX10_see_34 : fnD cX10_see 34 (.ireturn) 1 35 := by decide +kernel
theorem dX10_see_35 : fnD cX10_see 35 (.aload_n 0) 1 36 := by decide +kernel
theorem dX10_see_36 : fnD cX10_see 36 (.getfield 17) 3 39 := by decide +kernel
theorem dX10_see_39 : fnD cX10_see 39 (.iload_n 1) 1 40 := by decide +kernel
theorem dX10_see_40 : fnD cX10_see 40 (.aaload) 1 41 := by decide +kernel
theorem dX10_see_41 : fnD cX10_see 41 (.iload_n 2) 1 42 := by decide +kernel
theorem dX10_see_42 : fnD cX10_see 42 (.iload_n 3) 1 43 := by decide +kernel
theorem dX10_see_43 : fnD cX10_see 43 (.invokevirtual 149) 3 46 := by decide +kernel
theorem dX10_see_46 : fnD cX10_see 46 (.ireturn) 1 47 := by decide +kernel
theorem dX10_forget_0 : fnD cX10_forget 0 (.iload_n 1) 1 1 := by decide +kernel
theorem dX10_forget_1 : fnD cX10_forget 1 (.invokestatic 100) 3 4 := by decide +kernel
theorem dX10_forget_4 : fnIf cX10_forget 4 .eq 14 7 := by decide +kernel
theorem dX10_forget_7 : fnD cX10_forget 7 (.iload_n 2) 1 8 := by decide +kernel
theorem dX10_forget_8 : fnD cX10_forget 8 (.invokestatic 113) 3 11 := by decide +kernel
theorem dX10_forget_11 : fnIf cX10_forget 11 .ne 18 14 := by decide +kernel
theorem dX10_forget_14 : fnD cX10_forget 14 (.sipush (-2001)) 3 17 := by decide +kernel
theorem dX10_forget_17 : fnD cX10_forget 17 (.ireturn) 1 18 := by decide +kernel
theorem dX10_forget_18 : fnD cX10_forget 18 (.aload_n 0) 1 19 := by decide +kernel
theorem dX10_forget_19 : fnD cX10_forget 19 (.getfield 17) 3 22 := by decide +kernel
theorem dX10_forget_22 : fnD cX10_forget 22 (.iload_n 1) 1 23 := by decide +kernel
theorem dX10_forget_23 : fnD cX10_forget 23 (.aaload) 1 24 := by decide +kernel
theorem dX10_forget_24 : fnD cX10_forget 24 (.iload_n 2) 1 25 := by decide +kernel
theorem dX10_forget_25 : fnD cX10_forget 25 (.invokevirtual 152) 3 28 := by decide +kernel
theorem dX10_forget_28 : fnIf cX10_forget 28 .ne 35 31 := by decide +kernel
theorem dX10_forget_31 : fnD cX10_forget 31 (.sipush (-2003)) 3 34 := by decide +kernel
theorem dX10_forget_34 : fnD cX10_forget 34 (.ireturn) 1 35 := by decide +kernel
theorem dX10_forget_35 : fnD cX10_forget 35 (.aload_n 0) 1 36 := by decide +kernel
theorem dX10_forget_36 : fnD cX10_forget 36 (.getfield 17) 3 39 := by decide +kernel
theorem dX10_forget_39 : fnD cX10_forget 39 (.iload_n 1) 1 40 := by decide +kernel
theorem dX10_forget_40 : fnD cX10_forget 40 (.aaload) 1 41 := by decide +kernel
theorem dX10_forget_41 : fnD cX10_forget 41 (.iload_n 2) 1 42 := by decide +kernel
theorem dX10_forget_42 : fnD cX10_forget 42 (.sipush (-2009)) 3 45 := by decide +kernel
theorem dX10_forget_45 : fnD cX10_forget 45 (.invokevirtual 149) 3 48 := by decide +kernel
theorem dX10_forget_48 : fnD cX10_forget 48 (.pop) 1 49 := by decide +kernel
theorem dX10_forget_49 : fnD cX10_forget 49 (.iconst 1) 1 50 := by decide +kernel
theorem dX10_forget_50 : fnD cX10_forget 50 (.ireturn) 1 51 := by decide +kernel
theorem dX10_seen_0 : fnD cX10_seen 0 (.iload_n 1) 1 1 := by decide +kernel
theorem dX10_seen_1 : fnD cX10_seen 1 (.invokestatic 100) 3 4 := by decide +kernel
theorem dX10_seen_4 : fnIf cX10_seen 4 .ne 11 7 := by decide +kernel
theorem dX10_seen_7 : fnD cX10_seen 7 (.sipush (-2001)) 3 10 := by decide +kernel
theorem dX10_seen_10 : fnD cX10_seen 10 (.ireturn) 1 11 := by decide +kernel
theorem dX10_seen_11 : fnD cX10_seen 11 (.aload_n 0) 1 12 := by decide +kernel
theorem dX10_seen_12 : fnD cX10_seen 12 (.getfield 17) 3 15 := by decide +kernel
theorem dX10_seen_15 : fnD cX10_seen 15 (.iload_n 1) 1 16 := by decide +kernel
theorem dX10_seen_16 : fnD cX10_seen 16 (.aaload) 1 17 := by decide +kernel
theorem dX10_seen_17 : fnD cX10_seen 17 (.getfield 155) 3 20 := by decide +kernel
theorem dX10_seen_20 : fnD cX10_seen 20 (.ireturn) 1 21 := by decide +kernel
theorem dX10_filled_0 : fnD cX10_filled 0 (.iload_n 1) 1 1 := by decide +kernel
theorem dX10_filled_1 : fnD cX10_filled 1 (.invokestatic 100) 3 4 := by decide +kernel
theorem dX10_filled_4 : fnIf cX10_filled 4 .eq 14 7 := by decide +kernel
theorem dX10_filled_7 : fnD cX10_filled 7 (.iload_n 2) 1 8 := by decide +kernel
theorem dX10_filled_8 : fnD cX10_filled 8 (.invokestatic 113) 3 11 := by decide +kernel
theorem dX10_filled_11 : fnIf cX10_filled 11 .ne 18 14 := by decide +kernel
theorem dX10_filled_14 : fnD cX10_filled 14 (.sipush (-2001)) 3 17 := by decide +kernel
theorem dX10_filled_17 : fnD cX10_filled 17 (.ireturn) 1 18 := by decide +kernel
theorem dX10_filled_18 : fnD cX10_filled 18 (.aload_n 0) 1 19 := by decide +kernel
theorem dX10_filled_19 : fnD cX10_filled 19 (.getfield 17) 3 22 := by decide +kernel
theorem dX10_filled_22 : fnD cX10_filled 22 (.iload_n 1) 1 23 := by decide +kernel
theorem dX10_filled_23 : fnD cX10_filled 23 (.aaload) 1 24 := by decide +kernel
theorem dX10_filled_24 : fnD cX10_filled 24 (.getfield 155) 3 27 := by decide +kernel
theorem dX10_filled_27 : fnIf cX10_filled 27 .ne 34 30 := by decide +kernel
theorem dX10_filled_30 : fnD cX10_filled 30 (.sipush (-2003)) 3 33 := by decide +kernel
theorem dX10_filled_33 : fnD cX10_filled 33 (.ireturn) 1 34 := by decide +kernel
theorem dX10_filled_34 : fnD cX10_filled 34 (.aload_n 0) 1 35 := by decide +kernel
theorem dX10_filled_35 : fnD cX10_filled 35 (.getfield 17) 3 38 := by decide +kernel
theorem dX10_filled_38 : fnD cX10_filled 38 (.iload_n 1) 1 39 := by decide +kernel
theorem dX10_filled_39 : fnD cX10_filled 39 (.aaload) 1 40 := by decide +kernel
theorem dX10_filled_40 : fnD cX10_filled 40 (.iload_n 2) 1 41 := by decide +kernel
theorem dX10_filled_41 : fnD cX10_filled 41 (.invokevirtual 159) 3 44 := by decide +kernel
theorem dX10_filled_44 : fnD cX10_filled 44 (.ireturn) 1 45 := by decide +kernel
theorem dX10_gap_0 : fnD cX10_gap 0 (.iload_n 1) 1 1 := by decide +kernel
theorem dX10_gap_1 : fnD cX10_gap 1 (.invokestatic 100) 3 4 := by decide +kernel
theorem dX10_gap_4 : fnIf cX10_gap 4 .ne 11 7 := by decide +kernel
theorem dX10_gap_7 : fnD cX10_gap 7 (.sipush (-2001)) 3 10 := by decide +kernel
theorem dX10_gap_10 : fnD cX10_gap 10 (.ireturn) 1 11 := by decide +kernel
theorem dX10_gap_11 : fnD cX10_gap 11 (.aload_n 0) 1 12 := by decide +kernel
theorem dX10_gap_12 : fnD cX10_gap 12 (.getfield 17) 3 15 := by decide +kernel
theorem dX10_gap_15 : fnD cX10_gap 15 (.iload_n 1) 1 16 := by decide +kernel
theorem dX10_gap_16 : fnD cX10_gap 16 (.aaload) 1 17 := by decide +kernel
theorem dX10_gap_17 : fnD cX10_gap 17 (.invokevirtual 161) 3 20 := by decide +kernel
theorem dX10_gap_20 : fnD cX10_gap 20 (.ireturn) 1 21 := by decide +kernel
theorem dX10_apart_0 : fnD cX10_apart 0 (.iload_n 1) 1 1 := by decide +kernel
theorem dX10_apart_1 : fnD cX10_apart 1 (.invokestatic 100) 3 4 := by decide +kernel
theorem dX10_apart_4 : fnIf cX10_apart 4 .ne 11 7 := by decide +kernel
theorem dX10_apart_7 : fnD cX10_apart 7 (.sipush (-2001)) 3 10 := by decide +kernel
theorem dX10_apart_10 : fnD cX10_apart 10 (.ireturn) 1 11 := by decide +kernel
theorem dX10_apart_11 : fnD cX10_apart 11 (.aload_n 0) 1 12 := by decide +kernel
theorem dX10_apart_12 : fnD cX10_apart 12 (.getfield 17) 3 15 := by decide +kernel
theorem dX10_apart_15 : fnD cX10_apart 15 (.iload_n 1) 1 16 := by decide +kernel
theorem dX10_apart_16 : fnD cX10_apart 16 (.aaload) 1 17 := by decide +kernel
theorem dX10_apart_17 : fnD cX10_apart 17 (.getfield 155) 3 20 := by decide +kernel
theorem dX10_apart_20 : fnD cX10_apart 20 (.iconst 4) 1 21 := by decide +kernel
theorem dX10_apart_21 : fnIc cX10_apart 21 .ge 28 24 := by decide +kernel
theorem dX10_apart_24 : fnD cX10_apart 24 (.sipush (-2003)) 3 27 := by decide +kernel
theorem dX10_apart_27 : fnD cX10_apart 27 (.ireturn) 1 28 := by decide +kernel
theorem dX10_apart_28 : fnD cX10_apart 28 (.aload_n 0) 1 29 := by decide +kernel
theorem dX10_apart_29 : fnD cX10_apart 29 (.getfield 17) 3 32 := by decide +kernel
theorem dX10_apart_32 : fnD cX10_apart 32 (.iload_n 1) 1 33 := by decide +kernel
theorem dX10_apart_33 : fnD cX10_apart 33 (.aaload) 1 34 := by decide +kernel
theorem dX10_apart_34 : fnD cX10_apart 34 (.aload_n 0) 1 35 := by decide +kernel
theorem dX10_apart_35 : fnD cX10_apart 35 (.getfield 11) 3 38 := by decide +kernel
theorem dX10_apart_38 : fnD cX10_apart 38 (.iload_n 1) 1 39 := by decide +kernel
theorem dX10_apart_39 : fnD cX10_apart 39 (.aaload) 1 40 := by decide +kernel
theorem dX10_apart_40 : fnD cX10_apart 40 (.invokevirtual 164) 3 43 := by decide +kernel
theorem dX10_apart_43 : fnD cX10_apart 43 (.iconst 0) 1 44 := by decide +kernel
theorem dX10_apart_44 : fnD cX10_apart 44 (.istore_n 2) 1 45 := by decide +kernel
theorem dX10_apart_45 : fnD cX10_apart 45 (.iconst 0) 1 46 := by decide +kernel
theorem dX10_apart_46 : fnD cX10_apart 46 (.istore_n 3) 1 47 := by decide +kernel
theorem dX10_apart_47 : fnD cX10_apart 47 (.iload_n 3) 1 48 := by decide +kernel
theorem dX10_apart_48 : fnD cX10_apart 48 (.bipush 32) 2 50 := by decide +kernel
theorem dX10_apart_50 : fnIc cX10_apart 50 .ge 86 53 := by decide +kernel
theorem dX10_apart_53 : fnD cX10_apart 53 (.aload_n 0) 1 54 := by decide +kernel
theorem dX10_apart_54 : fnD cX10_apart 54 (.getfield 17) 3 57 := by decide +kernel
theorem dX10_apart_57 : fnD cX10_apart 57 (.iload_n 1) 1 58 := by decide +kernel
theorem dX10_apart_58 : fnD cX10_apart 58 (.aaload) 1 59 := by decide +kernel
theorem dX10_apart_59 : fnD cX10_apart 59 (.iload_n 3) 1 60 := by decide +kernel
theorem dX10_apart_60 : fnD cX10_apart 60 (.invokevirtual 152) 3 63 := by decide +kernel
theorem dX10_apart_63 : fnIf cX10_apart 63 .eq 80 66 := by decide +kernel
theorem dX10_apart_66 : fnD cX10_apart 66 (.iload_n 2) 1 67 := by decide +kernel
theorem dX10_apart_67 : fnD cX10_apart 67 (.aload_n 0) 1 68 := by decide +kernel
theorem dX10_apart_68 : fnD cX10_apart 68 (.iload_n 1) 1 69 := by decide +kernel
theorem dX10_apart_69 : fnD cX10_apart 69 (.iload_n 3) 1 70 := by decide +kernel
theorem dX10_apart_70 : fnD cX10_apart 70 (.invokevirtual 168) 3 73 := by decide +kernel
theorem dX10_apart_73 : fnD cX10_apart 73 (.invokestatic 135) 3 76 := by decide +kernel
theorem dX10_apart_76 : fnD cX10_apart 76 (.invokestatic 171) 3 79 := by decide +kernel
theorem dX10_apart_79 : fnD cX10_apart 79 (.istore_n 2) 1 80 := by decide +kernel
theorem dX10_apart_80 : fnD cX10_apart 80 (.iinc 3 1) 3 83 := by decide +kernel
theorem dX10_apart_83 : fnGo cX10_apart 83 47 := by decide +kernel
theorem dX10_apart_86 : fnD cX10_apart 86 (.iload_n 2) 1 87 := by decide +kernel
theorem dX10_apart_87 : fnD cX10_apart 87 (.ireturn) 1 88 := by decide +kernel
theorem dX10_residue_0 : fnD cX10_residue 0 (.iload_n 1) 1 1 := by decide +kernel
theorem dX10_residue_1 : fnD cX10_residue 1 (.invokestatic 100) 3 4 := by decide +kernel
theorem dX10_residue_4 : fnIf cX10_residue 4 .eq 14 7 := by decide +kernel
theorem dX10_residue_7 : fnD cX10_residue 7 (.iload_n 2) 1 8 := by decide +kernel
theorem dX10_residue_8 : fnD cX10_residue 8 (.invokestatic 113) 3 11 := by decide +kernel
theorem dX10_residue_11 : fnIf cX10_residue 11 .ne 18 14 := by decide +kernel
theorem dX10_residue_14 : fnD cX10_residue 14 (.sipush (-2001)) 3 17 := by decide +kernel
theorem dX10_residue_17 : fnD cX10_residue 17 (.ireturn) 1 18 := by decide +kernel
theorem dX10_residue_18 : fnD cX10_residue 18 (.aload_n 0) 1 19 := by decide +kernel
theorem dX10_residue_19 : fnD cX10_residue 19 (.getfield 17) 3 22 := by decide +kernel
theorem dX10_residue_22 : fnD cX10_residue 22 (.iload_n 1) 1 23 := by decide +kernel
theorem dX10_residue_23 : fnD cX10_residue 23 (.aaload) 1 24 := by decide +kernel
theorem dX10_residue_24 : fnD cX10_residue 24 (.iload_n 2) 1 25 := by decide +kernel
theorem dX10_residue_25 : fnD cX10_residue 25 (.invokevirtual 152) 3 28 := by decide +kernel
theorem dX10_residue_28 : fnIf cX10_residue 28 .eq 40 31 := by decide +kernel
theorem dX10_residue_31 : fnD cX10_residue 31 (.aload_n 0) 1 32 := by decide +kernel
theorem dX10_residue_32 : fnD cX10_residue 32 (.iload_n 1) 1 33 := by decide +kernel
theorem dX10_residue_33 : fnD cX10_residue 33 (.iload_n 2) 1 34 := by decide +kernel
theorem dX10_residue_34 : fnD cX10_residue 34 (.invokevirtual 168) 3 37 := by decide +kernel
theorem dX10_residue_37 : fnGo cX10_residue 37 43 := by decide +kernel
theorem dX10_residue_40 : fnD cX10_residue 40 (.sipush (-2009)) 3 43 := by decide +kernel
theorem dX10_residue_43 : fnD cX10_residue 43 (.ireturn) 1 44 := by decide +kernel
theorem dX10_bar_0 : fnD cX10_bar 0 (.iload_n 1) 1 1 := by decide +kernel
theorem dX10_bar_1 : fnD cX10_bar 1 (.invokestatic 174) 3 4 := by decide +kernel
theorem dX10_bar_4 : fnIf cX10_bar 4 .ne 11 7 := by decide +kernel
theorem dX10_bar_7 : fnD cX10_bar 7 (.sipush (-2001)) 3 10 := by decide +kernel
theorem dX10_bar_10 : fnD cX10_bar 10 (.ireturn) 1 11 := by decide +kernel
theorem dX10_bar_11 : fnD cX10_bar 11 (.iload_n 2) 1 12 := by decide +kernel
theorem dX10_bar_12 : fnD cX10_bar 12 (.iconst 0) 1 13 := by decide +kernel
theorem dX10_bar_13 : fnD cX10_bar 13 (.sipush 30000) 3 16 := by decide +kernel
theorem dX10_bar_16 : fnD cX10_bar 16 (.invokestatic 106) 3 19 := by decide +kernel
theorem dX10_bar_19 : fnIf cX10_bar 19 .ne 26 22 := by decide +kernel
theorem dX10_bar_22 : fnD cX10_bar 22 (.sipush (-2002)) 3 25 := by decide +kernel
theorem dX10_bar_25 : fnD cX10_bar 25 (.ireturn) 1 26 := by decide +kernel
theorem dX10_bar_26 : fnD cX10_bar 26 (.aload_n 0) 1 27 := by decide +kernel
theorem dX10_bar_27 : fnD cX10_bar 27 (.getfield 24) 3 30 := by decide +kernel
theorem dX10_bar_30 : fnD cX10_bar 30 (.iload_n 1) 1 31 := by decide +kernel
theorem dX10_bar_31 : fnD cX10_bar 31 (.invokevirtual 177) 3 34 := by decide +kernel
theorem dX10_bar_34 : fnIf cX10_bar 34 .eq 41 37 := by decide +kernel
theorem dX10_bar_37 : fnD cX10_bar 37 (.sipush (-2003)) 3 40 := by decide +kernel
theorem dX10_bar_40 : fnD cX10_bar 40 (.ireturn) 1 41 := by decide +kernel
theorem dX10_bar_41 : fnD cX10_bar 41 (.aload_n 0) 1 42 := by decide +kernel
theorem dX10_bar_42 : fnD cX10_bar 42 (.getfield 24) 3 45 := by decide +kernel
theorem dX10_bar_45 : fnD cX10_bar 45 (.getfield 180) 3 48 := by decide +kernel
theorem dX10_bar_48 : fnD cX10_bar 48 (.iload_n 1) 1 49 := by decide +kernel
theorem dX10_bar_49 : fnD cX10_bar 49 (.iaload) 1 50 := by decide +kernel
theorem dX10_bar_50 : fnD cX10_bar 50 (.istore_n 3) 1 51 := by decide +kernel
theorem dX10_bar_51 : fnD cX10_bar 51 (.aload_n 0) 1 52 := by decide +kernel
theorem dX10_bar_52 : fnD cX10_bar 52 (.getfield 24) 3 55 := by decide +kernel
theorem dX10_bar_55 : fnD cX10_bar 55 (.getfield 180) 3 58 := by decide +kernel
theorem dX10_bar_58 : fnD cX10_bar 58 (.iload_n 1) 1 59 := by decide +kernel
theorem dX10_bar_59 : fnD cX10_bar 59 (.iload_n 2) 1 60 := by decide +kernel
theorem dX10_bar_60 : fnD cX10_bar 60 (.iastore) 1 61 := by decide +kernel
theorem dX10_bar_61 : fnD cX10_bar 61 (.iload_n 3) 1 62 := by decide +kernel
theorem dX10_bar_62 : fnD cX10_bar 62 (.ireturn) 1 63 := by decide +kernel
theorem dX10_ball_0 : fnD cX10_ball 0 (.iload_n 1) 1 1 := by decide +kernel
theorem dX10_ball_1 : fnD cX10_ball 1 (.invokestatic 183) 3 4 := by decide +kernel
theorem dX10_ball_4 : fnIf cX10_ball 4 .ne 11 7 := by decide +kernel
theorem dX10_ball_7 : fnD cX10_ball 7 (.sipush (-2001)) 3 10 := by decide +kernel
theorem dX10_ball_10 : fnD cX10_ball 10 (.ireturn) 1 11 := by decide +kernel
theorem dX10_ball_11 : fnD cX10_ball 11 (.iload_n 2) 1 12 := by decide +kernel
theorem dX10_ball_12 : fnD cX10_ball 12 (.iconst 0) 1 13 := by decide +kernel
theorem dX10_ball_13 : fnD cX10_ball 13 (.bipush 20) 2 15 := by decide +kernel
theorem dX10_ball_15 : fnD cX10_ball 15 (.invokestatic 106) 3 18 := by decide +kernel
theorem dX10_ball_18 : fnIf cX10_ball 18 .ne 25 21 := by decide +kernel
theorem dX10_ball_21 : fnD cX10_ball 21 (.sipush (-2002)) 3 24 := by decide +kernel
theorem dX10_ball_24 : fnD cX10_ball 24 (.ireturn) 1 25 := by decide +kernel
theorem dX10_ball_25 : fnD cX10_ball 25 (.aload_n 0) 1 26 := by decide +kernel
theorem dX10_ball_26 : fnD cX10_ball 26 (.getfield 24) 3 29 := by decide +kernel
theorem dX10_ball_29 : fnD cX10_ball 29 (.getfield 186) 3 32 := by decide +kernel
theorem dX10_ball_32 : fnD cX10_ball 32 (.iload_n 1) 1 33 := by decide +kernel
theorem dX10_ball_33 : fnIc cX10_ball 33 .ne 40 36 := by decide +kernel
theorem dX10_ball_36 : fnD cX10_ball 36 (.sipush (-2003)) 3 39 := by decide +kernel
theorem dX10_ball_39 : fnD cX10_ball 39 (.ireturn) 1 40 := by decide +kernel
theorem dX10_ball_40 : fnD cX10_ball 40 (.aload_n 0) 1 41 := by decide +kernel
theorem dX10_ball_41 : fnD cX10_ball 41 (.getfield 24) 3 44 := by decide +kernel
theorem dX10_ball_44 : fnD cX10_ball 44 (.getfield 189) 3 47 := by decide +kernel
theorem dX10_ball_47 : fnD cX10_ball 47 (.iload_n 1) 1 48 := by decide +kernel
theorem dX10_ball_48 : fnD cX10_ball 48 (.iaload) 1 49 := by decide +kernel
theorem dX10_ball_49 : fnD cX10_ball 49 (.istore_n 3) 1 50 := by decide +kernel
theorem dX10_ball_50 : fnD cX10_ball 50 (.aload_n 0) 1 51 := by decide +kernel
theorem dX10_ball_51 : fnD cX10_ball 51 (.getfield 24) 3 54 := by decide +kernel
theorem dX10_ball_54 : fnD cX10_ball 54 (.getfield 189) 3 57 := by decide +kernel
theorem dX10_ball_57 : fnD cX10_ball 57 (.iload_n 1) 1 58 := by decide +kernel
theorem dX10_ball_58 : fnD cX10_ball 58 (.iload_n 2) 1 59 := by decide +kernel
theorem dX10_ball_59 : fnD cX10_ball 59 (.iastore) 1 60 := by decide +kernel
theorem dX10_ball_60 : fnD cX10_ball 60 (.iload_n 3) 1 61 := by decide +kernel
theorem dX10_ball_61 : fnD cX10_ball 61 (.ireturn) 1 62 := by decide +kernel
theorem dX10_layBar_0 : fnD cX10_layBar 0 (.iload_n 1) 1 1 := by decide +kernel
theorem dX10_layBar_1 : fnD cX10_layBar 1 (.invokestatic 174) 3 4 := by decide +kernel
theorem dX10_layBar_4 : fnIf cX10_layBar 4 .ne 11 7 := by decide +kernel
theorem dX10_layBar_7 : fnD cX10_layBar 7 (.sipush (-2001)) 3 10 := by decide +kernel
theorem dX10_layBar_10 : fnD cX10_layBar 10 (.ireturn) 1 11 := by decide +kernel
theorem dX10_layBar_11 : fnD cX10_layBar 11 (.iload_n 2) 1 12 := by decide +kernel
theorem dX10_layBar_12 : fnD cX10_layBar 12 (.iconst 0) 1 13 := by decide +kernel
theorem dX10_layBar_13 : fnD cX10_layBar 13 (.iconst 1) 1 14 := by decide +kernel
theorem dX10_layBar_14 : fnD cX10_layBar 14 (.invokestatic 106) 3 17 := by decide +kernel
theorem dX10_layBar_17 : fnIf cX10_layBar 17 .eq 30 20 := by decide +kernel
theorem dX10_layBar_20 : fnD cX10_layBar 20 (.iload_n 3) 1 21 := by decide +kernel
theorem dX10_layBar_21 : fnD cX10_layBar 21 (.iconst 2) 1 22 := by decide +kernel
theorem dX10_layBar_22 : fnD cX10_layBar 22 (.bipush 9) 2 24 := by decide +kernel
theorem dX10_layBar_24 : fnD cX10_layBar 24 (.invokestatic 106) 3 27 := by decide +kernel
theorem dX10_layBar_27 : fnIf cX10_layBar 27 .ne 34 30 := by decide +kernel
theorem dX10_layBar_30 : fnD cX10_layBar 30 (.sipush (-2002)) 3 33 := by decide +kernel
theorem dX10_layBar_33 : fnD cX10_layBar 33 (.ireturn) 1 34 := by decide +kernel
theorem dX10_layBar_34 : fnD cX10_layBar 34 (.aload_n 0) 1 35 := by decide +kernel
theorem dX10_layBar_35 : fnD cX10_layBar 35 (.getfield 24) 3 38 := by decide +kernel
theorem dX10_layBar_38 : fnD cX10_layBar 38 (.getfield 180) 3 41 := by decide +kernel
theorem dX10_layBar_41 : fnD cX10_layBar 41 (.iload_n 1) 1 42 := by decide +kernel
theorem dX10_layBar_42 : fnD cX10_layBar 42 (.iaload) 1 43 := by decide +kernel
theorem dX10_layBar_43 : fnIf cX10_layBar 43 .ne 50 46 := by decide +kernel
theorem dX10_layBar_46 : fnD cX10_layBar 46 (.sipush (-2003)) 3 49 := by decide +kernel
theorem dX10_layBar_49 : fnD cX10_layBar 49 (.ireturn) 1 50 := by decide +kernel
theorem dX10_layBar_50 : fnD cX10_layBar 50 (.aload_n 0) 1 51 := by decide +kernel
theorem dX10_layBar_51 : fnD cX10_layBar 51 (.getfield 24) 3 54 := by decide +kernel
theorem dX10_layBar_54 : fnD cX10_layBar 54 (.iload_n 1) 1 55 := by decide +kernel
theorem dX10_layBar_55 : fnD cX10_layBar 55 (.iload_n 2) 1 56 := by decide +kernel
theorem dX10_layBar_56 : fnD cX10_layBar 56 (.iload_n 3) 1 57 := by decide +kernel
theorem dX10_layBar_57 : fnD cX10_layBar 57 (.iload 4) 2 59 := by decide +kernel
theorem dX10_layBar_59 : fnD cX10_layBar 59 (.invokevirtual 192) 3 62 := by decide +kernel
theorem dX10_layBar_62 : fnD cX10_layBar 62 (.aload_n 0) 1 63 := by decide +kernel
theorem dX10_layBar_63 : fnD cX10_layBar 63 (.getfield 24) 3 66 := by decide +kernel
theorem dX10_layBar_66 : fnD cX10_layBar 66 (.getfield 180) 3 69 := by decide +kernel
theorem dX10_layBar_69 : fnD cX10_layBar 69 (.iload_n 1) 1 70 := by decide +kernel
theorem dX10_layBar_70 : fnD cX10_layBar 70 (.iaload) 1 71 := by decide +kernel
theorem dX10_layBar_71 : fnD cX10_layBar 71 (.iload_n 3) 1 72 := by decide +kernel
theorem dX10_layBar_72 : fnD cX10_layBar 72 (.invokestatic 196) 3 75 := by decide +kernel
theorem dX10_layBar_75 : fnD cX10_layBar 75 (.ireturn) 1 76 := by decide +kernel
theorem dX10_layBall_0 : fnD cX10_layBall 0 (.iload_n 1) 1 1 := by decide +kernel
theorem dX10_layBall_1 : fnD cX10_layBall 1 (.invokestatic 183) 3 4 := by decide +kernel
theorem dX10_layBall_4 : fnIf cX10_layBall 4 .ne 11 7 := by decide +kernel
theorem dX10_layBall_7 : fnD cX10_layBall 7 (.sipush (-2001)) 3 10 := by decide +kernel
theorem dX10_layBall_10 : fnD cX10_layBall 10 (.ireturn) 1 11 := by decide +kernel
theorem dX10_layBall_11 : fnD cX10_layBall 11 (.iload_n 2) 1 12 := by decide +kernel
theorem dX10_layBall_12 : fnD cX10_layBall 12 (.iconst 2) 1 13 := by decide +kernel
theorem dX10_layBall_13 : fnD cX10_layBall 13 (.bipush 20) 2 15 := by decide +kernel
theorem dX10_layBall_15 : fnD cX10_layBall 15 (.invokestatic 106) 3 18 := by decide +kernel
theorem dX10_layBall_18 : fnIf cX10_layBall 18 .ne 25 21 := by decide +kernel
theorem dX10_layBall_21 : fnD cX10_layBall 21 (.sipush (-2002)) 3 24 := by decide +kernel
theorem dX10_layBall_24 : fnD cX10_layBall 24 (.ireturn) 1 25 := by decide +kernel
theorem dX10_layBall_25 : fnD cX10_layBall 25 (.aload_n 0) 1 26 := by decide +kernel
theorem dX10_layBall_26 : fnD cX10_layBall 26 (.getfield 24) 3 29 := by decide +kernel
theorem dX10_layBall_29 : fnD cX10_layBall 29 (.getfield 189) 3 32 := by decide +kernel
theorem dX10_layBall_32 : fnD cX10_layBall 32 (.iload_n 1) 1 33 := by decide +kernel
theorem dX10_layBall_33 : fnD cX10_layBall 33 (.iaload) 1 34 := by decide +kernel
theorem dX10_layBall_34 : fnIf cX10_layBall 34 .eq 50 37 := by decide +kernel
theorem dX10_layBall_37 : fnD cX10_layBall 37 (.aload_n 0) 1 38 := by decide +kernel
theorem dX10_layBall_38 : fnD cX10_layBall 38 (.getfield 24) 3 41 := by decide +kernel
theorem dX10_layBall_41 : fnD cX10_layBall 41 (.getfield 189) 3 44 := by decide +kernel
theorem dX10_layBall_44 : fnD cX10_layBall 44 (.iload_n 1) 1 45 := by decide +kernel
theorem dX10_layBall_45 : fnD cX10_layBall 45 (.iaload) 1 46 := by decide +kernel
theorem dX10_layBall_46 : fnD cX10_layBall 46 (.iload_n 2) 1 47 := by decide +kernel
theorem dX10_layBall_47 : fnIc cX10_layBall 47 .le 54 50 := by decide +kernel
theorem dX10_layBall_50 : fnD cX10_layBall 50 (.sipush (-2003)) 3 53 := by decide +kernel
theorem dX10_layBall_53 : fnD cX10_layBall 53 (.ireturn) 1 54 := by decide +kernel
theorem dX10_layBall_54 : fnD cX10_layBall 54 (.aload_n 0) 1 55 := by decide +kernel
theorem dX10_layBall_55 : fnD cX10_layBall 55 (.getfield 24) 3 58 := by decide +kernel
theorem dX10_layBall_58 : fnD cX10_layBall 58 (.iload_n 1) 1 59 := by decide +kernel
theorem dX10_layBall_59 : fnD cX10_layBall 59 (.iload_n 2) 1 60 := by decide +kernel
theorem dX10_layBall_60 : fnD cX10_layBall 60 (.invokevirtual 199) 3 63 := by decide +kernel
theorem dX10_layBall_63 : fnD cX10_layBall 63 (.aload_n 0) 1 64 := by decide +kernel
theorem dX10_layBall_64 : fnD cX10_layBall 64 (.getfield 24) 3 67 := by decide +kernel
theorem dX10_layBall_67 : fnD cX10_layBall 67 (.getfield 189) 3 70 := by decide +kernel
theorem dX10_layBall_70 : fnD cX10_layBall 70 (.iload_n 1) 1 71 := by decide +kernel
theorem dX10_layBall_71 : fnD cX10_layBall 71 (.iaload) 1 72 := by decide +kernel
theorem dX10_layBall_72 : fnD cX10_layBall 72 (.iload_n 2) 1 73 := by decide +kernel
theorem dX10_layBall_73 : fnD cX10_layBall 73 (.invokestatic 203) 3 76 := by decide +kernel
theorem dX10_layBall_76 : fnD cX10_layBall 76 (.ireturn) 1 77 := by decide +kernel
theorem dX10_takeUp_0 : fnD cX10_takeUp 0 (.aload_n 0) 1 1 := by decide +kernel
theorem dX10_takeUp_1 : fnD cX10_takeUp 1 (.getfield 24) 3 4 := by decide +kernel
theorem dX10_takeUp_4 : fnD cX10_takeUp 4 (.invokevirtual 206) 3 7 := by decide +kernel
theorem dX10_takeUp_7 : fnD cX10_takeUp 7 (.istore_n 1) 1 8 := by decide +kernel
theorem dX10_takeUp_8 : fnD cX10_takeUp 8 (.aload_n 0) 1 9 := by decide +kernel
theorem dX10_takeUp_9 : fnD cX10_takeUp 9 (.getfield 24) 3 12 := by decide +kernel
theorem dX10_takeUp_12 : fnD cX10_takeUp 12 (.invokevirtual 209) 3 15 := by decide +kernel
theorem dX10_takeUp_15 : fnD cX10_takeUp 15 (.iload_n 1) 1 16 := by decide +kernel
theorem dX10_takeUp_16 : fnD cX10_takeUp 16 (.ireturn) 1 17 := by decide +kernel
theorem dX10_leftOf_0 : fnD cX10_leftOf 0 (.iload_n 1) 1 1 := by decide +kernel
theorem dX10_leftOf_1 : fnD cX10_leftOf 1 (.invokestatic 103) 3 4 := by decide +kernel
theorem dX10_leftOf_4 : fnIf cX10_leftOf 4 .ne 11 7 := by decide +kernel
theorem dX10_leftOf_7 : fnD cX10_leftOf 7 (.sipush (-2001)) 3 10 := by decide +kernel
theorem dX10_leftOf_10 : fnD cX10_leftOf 10 (.ireturn) 1 11 := by decide +kernel
theorem dX10_leftOf_11 : fnD cX10_leftOf 11 (.aload_n 0) 1 12 := by decide +kernel
theorem dX10_leftOf_12 : fnD cX10_leftOf 12 (.invokevirtual 212) 3 15 := by decide +kernel
theorem dX10_leftOf_15 : fnD cX10_leftOf 15 (.getfield 110) 3 18 := by decide +kernel
theorem dX10_leftOf_18 : fnD cX10_leftOf 18 (.iload_n 1) 1 19 := by decide +kernel
theorem dX10_leftOf_19 : fnD cX10_leftOf 19 (.iaload) 1 20 := by decide +kernel
theorem dX10_leftOf_20 : fnD cX10_leftOf 20 (.ireturn) 1 21 := by decide +kernel
theorem dX10_left_0 : fnD cX10_left 0 (.iload_n 1) 1 1 := by decide +kernel
theorem dX10_left_1 : fnD cX10_left 1 (.invokestatic 113) 3 4 := by decide +kernel
theorem dX10_left_4 : fnIf cX10_left 4 .ne 11 7 := by decide +kernel
theorem dX10_left_7 : fnD cX10_left 7 (.sipush (-2001)) 3 10 := by decide +kernel
theorem dX10_left_10 : fnD cX10_left 10 (.ireturn) 1 11 := by decide +kernel
theorem dX10_left_11 : fnD cX10_left 11 (.aload_n 0) 1 12 := by decide +kernel
theorem dX10_left_12 : fnD cX10_left 12 (.invokevirtual 212) 3 15 := by decide +kernel
theorem dX10_left_15 : fnD cX10_left 15 (.iload_n 1) 1 16 := by decide +kernel
theorem dX10_left_16 : fnD cX10_left 16 (.iconst 0) 1 17 := by decide +kernel
theorem dX10_left_17 : fnD cX10_left 17 (.invokevirtual 119) 3 20 := by decide +kernel
theorem dX10_left_20 : fnD cX10_left 20 (.ireturn) 1 21 := by decide +kernel
theorem dX10_best_0 : fnD cX10_best 0 (.aload_n 0) 1 1 := by decide +kernel
theorem dX10_best_1 : fnD cX10_best 1 (.getfield 31) 3 4 := by decide +kernel
theorem dX10_best_4 : fnD cX10_best 4 (.aload_n 0) 1 5 := by decide +kernel
theorem dX10_best_5 : fnD cX10_best 5 (.getfield 11) 3 8 := by decide +kernel
theorem dX10_best_8 : fnD cX10_best 8 (.iconst 0) 1 9 := by decide +kernel
theorem dX10_best_9 : fnD cX10_best 9 (.aaload) 1 10 := by decide +kernel
theorem dX10_best_10 : fnD cX10_best 10 (.getfield 110) 3 13 := by decide +kernel
theorem dX10_best_13 : fnD cX10_best 13 (.aload_n 0) 1 14 := by decide +kernel
theorem dX10_best_14 : fnD cX10_best 14 (.getfield 24) 3 17 := by decide +kernel
theorem dX10_best_17 : fnD cX10_best 17 (.invokevirtual 216) 3 20 := by decide +kernel
theorem dX10_best_20 : fnD cX10_best 20 (.aload_n 0) 1 21 := by decide +kernel
theorem dX10_best_21 : fnD cX10_best 21 (.getfield 31) 3 24 := by decide +kernel
theorem dX10_best_24 : fnD cX10_best 24 (.invokevirtual 220) 3 27 := by decide +kernel
theorem dX10_best_27 : fnD cX10_best 27 (.ireturn) 1 28 := by decide +kernel
theorem dX10_bestCode_0 : fnD cX10_bestCode 0 (.iload_n 1) 1 1 := by decide +kernel
theorem dX10_bestCode_1 : fnD cX10_bestCode 1 (.iconst 0) 1 2 := by decide +kernel
theorem dX10_bestCode_2 : fnD cX10_bestCode 2 (.iconst 3) 1 3 := by decide +kernel
theorem dX10_bestCode_3 : fnD cX10_bestCode 3 (.invokestatic 106) 3 6 := by decide +kernel
theorem dX10_bestCode_6 : fnIf cX10_bestCode 6 .ne 13 9 := by decide +kernel
theorem dX10_bestCode_9 : fnD cX10_bestCode 9 (.sipush (-2002)) 3 12 := by decide +kernel
theorem dX10_bestCode_12 : fnD cX10_bestCode 12 (.ireturn) 1 13 := by decide +kernel
theorem dX10_bestCode_13 : fnD cX10_bestCode 13 (.aload_n 0) 1 14 := by decide +kernel
theorem dX10_bestCode_14 : fnD cX10_bestCode 14 (.getfield 31) 3 17 := by decide +kernel
theorem dX10_bestCode_17 : fnD cX10_bestCode 17 (.aload_n 0) 1 18 := by decide +kernel
theorem dX10_bestCode_18 : fnD cX10_bestCode 18 (.getfield 11) 3 21 := by decide +kernel
theorem dX10_bestCode_21 : fnD cX10_bestCode 21 (.iconst 0) 1 22 := by decide +kernel
theorem dX10_bestCode_22 : fnD cX10_bestCode 22 (.aaload) 1 23 := by decide +kernel
theorem dX10_bestCode_23 : fnD cX10_bestCode 23 (.getfield 110) 3 26 := by decide +kernel
theorem dX10_bestCode_26 : fnD cX10_bestCode 26 (.aload_n 0) 1 27 := by decide +kernel
theorem dX10_bestCode_27 : fnD cX10_bestCode 27 (.getfield 24) 3 30 := by decide +kernel
theorem dX10_bestCode_30 : fnD cX10_bestCode 30 (.invokevirtual 216) 3 33 := by decide +kernel
theorem dX10_bestCode_33 : fnD cX10_bestCode 33 (.iload_n 1) 1 34 := by decide +kernel
theorem dX10_bestCode_34 : fnD cX10_bestCode 34 (.tableswitch 50 0 2 #[26, 34, 42]) 26 60 := by decide +kernel
theorem dX10_bestCode_60 : fnD cX10_bestCode 60 (.aload_n 0) 1 61 := by decide +kernel
theorem dX10_bestCode_61 : fnD cX10_bestCode 61 (.getfield 31) 3 64 := by decide +kernel
theorem dX10_bestCode_64 : fnD cX10_bestCode 64 (.getfield 223) 3 67 := by decide +kernel
theorem dX10_bestCode_67 : fnD cX10_bestCode 67 (.ireturn) 1 68 := by decide +kernel
theorem dX10_bestCode_68 : fnD cX10_bestCode 68 (.aload_n 0) 1 69 := by decide +kernel
theorem dX10_bestCode_69 : fnD cX10_bestCode 69 (.getfield 31) 3 72 := by decide +kernel
theorem dX10_bestCode_72 : fnD cX10_bestCode 72 (.getfield 226) 3 75 := by decide +kernel
theorem dX10_bestCode_75 : fnD cX10_bestCode 75 (.ireturn) 1 76 := by decide +kernel
theorem dX10_bestCode_76 : fnD cX10_bestCode 76 (.aload_n 0) 1 77 := by decide +kernel
theorem dX10_bestCode_77 : fnD cX10_bestCode 77 (.getfield 31) 3 80 := by decide +kernel
theorem dX10_bestCode_80 : fnD cX10_bestCode 80 (.getfield 229) 3 83 := by decide +kernel
theorem dX10_bestCode_83 : fnD cX10_bestCode 83 (.ireturn) 1 84 := by decide +kernel
theorem dX10_bestCode_84 : fnD cX10_bestCode 84 (.aload_n 0) 1 85 := by decide +kernel
theorem dX10_bestCode_85 : fnD cX10_bestCode 85 (.getfield 31) 3 88 := by decide +kernel
theorem dX10_bestCode_88 : fnD cX10_bestCode 88 (.invokevirtual 232) 3 91 := by decide +kernel
theorem dX10_bestCode_91 : fnD cX10_bestCode 91 (.ireturn) 1 92 := by decide +kernel
theorem dX10_layBest_0 : fnD cX10_layBest 0 (.aload_n 0) 1 1 := by decide +kernel
theorem dX10_layBest_1 : fnD cX10_layBest 1 (.getfield 31) 3 4 := by decide +kernel
theorem dX10_layBest_4 : fnD cX10_layBest 4 (.aload_n 0) 1 5 := by decide +kernel
theorem dX10_layBest_5 : fnD cX10_layBest 5 (.getfield 11) 3 8 := by decide +kernel
theorem dX10_layBest_8 : fnD cX10_layBest 8 (.iconst 0) 1 9 := by decide +kernel
theorem dX10_layBest_9 : fnD cX10_layBest 9 (.aaload) 1 10 := by decide +kernel
theorem dX10_layBest_10 : fnD cX10_layBest 10 (.getfield 110) 3 13 := by decide +kernel
theorem dX10_layBest_13 : fnD cX10_layBest 13 (.aload_n 0) 1 14 := by decide +kernel
theorem dX10_layBest_14 : fnD cX10_layBest 14 (.getfield 24) 3 17 := by decide +kernel
theorem dX10_layBest_17 : fnD cX10_layBest 17 (.invokevirtual 216) 3 20 := by decide +kernel
theorem dX10_layBest_20 : fnD cX10_layBest 20 (.aload_n 0) 1 21 := by decide +kernel
theorem dX10_layBest_21 : fnD cX10_layBest 21 (.getfield 24) 3 24 := by decide +kernel
theorem dX10_layBest_24 : fnD cX10_layBest 24 (.invokevirtual 209) 3 27 := by decide +kernel
theorem dX10_layBest_27 : fnD cX10_layBest 27 (.aload_n 0) 1 28 := by decide +kernel
theorem dX10_layBest_28 : fnD cX10_layBest 28 (.getfield 24) 3 31 := by decide +kernel
theorem dX10_layBest_31 : fnD cX10_layBest 31 (.aload_n 0) 1 32 := by decide +kernel
theorem dX10_layBest_32 : fnD cX10_layBest 32 (.getfield 31) 3 35 := by decide +kernel
theorem dX10_layBest_35 : fnD cX10_layBest 35 (.getfield 223) 3 38 := by decide +kernel
theorem dX10_layBest_38 : fnD cX10_layBest 38 (.iconst 0) 1 39 := by decide +kernel
theorem dX10_layBest_39 : fnD cX10_layBest 39 (.invokevirtual 235) 3 42 := by decide +kernel
theorem dX10_layBest_42 : fnD cX10_layBest 42 (.aload_n 0) 1 43 := by decide +kernel
theorem dX10_layBest_43 : fnD cX10_layBest 43 (.getfield 24) 3 46 := by decide +kernel
theorem dX10_layBest_46 : fnD cX10_layBest 46 (.aload_n 0) 1 47 := by decide +kernel
theorem dX10_layBest_47 : fnD cX10_layBest 47 (.getfield 31) 3 50 := by decide +kernel
theorem dX10_layBest_50 : fnD cX10_layBest 50 (.getfield 226) 3 53 := by decide +kernel
theorem dX10_layBest_53 : fnD cX10_layBest 53 (.iconst 1) 1 54 := by decide +kernel
theorem dX10_layBest_54 : fnD cX10_layBest 54 (.invokevirtual 235) 3 57 := by decide +kernel
theorem dX10_layBest_57 : fnD cX10_layBest 57 (.aload_n 0) 1 58 := by decide +kernel
theorem dX10_layBest_58 : fnD cX10_layBest 58 (.getfield 24) 3 61 := by decide +kernel
theorem dX10_layBest_61 : fnD cX10_layBest 61 (.aload_n 0) 1 62 := by decide +kernel
theorem dX10_layBest_62 : fnD cX10_layBest 62 (.getfield 31) 3 65 := by decide +kernel
theorem dX10_layBest_65 : fnD cX10_layBest 65 (.getfield 229) 3 68 := by decide +kernel
theorem dX10_layBest_68 : fnD cX10_layBest 68 (.invokevirtual 238) 3 71 := by decide +kernel
theorem dX10_layBest_71 : fnD cX10_layBest 71 (.aload_n 0) 1 72 := by decide +kernel
theorem dX10_layBest_72 : fnD cX10_layBest 72 (.getfield 31) 3 75 := by decide +kernel
theorem dX10_layBest_75 : fnD cX10_layBest 75 (.invokevirtual 220) 3 78 := by decide +kernel
theorem dX10_layBest_78 : fnD cX10_layBest 78 (.ireturn) 1 79 := by decide +kernel
theorem dX10_place_0 : fnD cX10_place 0 (.iload_n 1) 1 1 := by decide +kernel
theorem dX10_place_1 : fnD cX10_place 1 (.invokestatic 242) 3 4 := by decide +kernel
theorem dX10_place_4 : fnIf cX10_place 4 .ne 11 7 := by decide +kernel
theorem dX10_place_7 : fnD cX10_place 7 (.sipush (-2001)) 3 10 := by decide +kernel
theorem dX10_place_10 : fnD cX10_place 10 (.ireturn) 1 11 := by decide +kernel
theorem dX10_place_11 : fnD cX10_place 11 (.iload_n 2) 1 12 := by decide +kernel
theorem dX10_place_12 : fnD cX10_place 12 (.iconst 1) 1 13 := by decide +kernel
theorem dX10_place_13 : fnD cX10_place 13 (.sipush 999) 3 16 := by decide +kernel
theorem dX10_place_16 : fnD cX10_place 16 (.invokestatic 106) 3 19 := by decide +kernel
theorem dX10_place_19 : fnIf cX10_place 19 .eq 35 22 := by decide +kernel
theorem dX10_place_22 : fnD cX10_place 22 (.iload_n 3) 1 23 := by decide +kernel
theorem dX10_place_23 : fnD cX10_place 23 (.sipush (-999)) 3 26 := by decide +kernel
theorem dX10_place_26 : fnD cX10_place 26 (.sipush 999) 3 29 := by decide +kernel
theorem dX10_place_29 : fnD cX10_place 29 (.invokestatic 106) 3 32 := by decide +kernel
theorem dX10_place_32 : fnIf cX10_place 32 .ne 39 35 := by decide +kernel
theorem dX10_place_35 : fnD cX10_place 35 (.sipush (-2002)) 3 38 := by decide +kernel
theorem dX10_place_38 : fnD cX10_place 38 (.ireturn) 1 39 := by decide +kernel
theorem dX10_place_39 : fnD cX10_place 39 (.aload_n 0) 1 40 := by decide +kernel
theorem dX10_place_40 : fnD cX10_place 40 (.getfield 38) 3 43 := by decide +kernel
theorem dX10_place_43 : fnD cX10_place 43 (.getfield 245) 3 46 := by decide +kernel
theorem dX10_place_46 : fnD cX10_place 46 (.iload_n 1) 1 47 := by decide +kernel
theorem dX10_place_47 : fnD cX10_place 47 (.iload_n 2) 1 48 := by decide +kernel
theorem dX10_place_48 : fnD cX10_place 48 (.iastore) 1 49 := by decide +kernel
theorem dX10_place_49 : fnD cX10_place 49 (.aload_n 0) 1 50 := by decide +kernel
theorem dX10_place_50 : fnD cX10_place 50 (.getfield 38) 3 53 := by decide +kernel
theorem dX10_place_53 : fnD cX10_place 53 (.getfield 248) 3 56 := by decide +kernel
theorem dX10_place_56 : fnD cX10_place 56 (.iload_n 1) 1 57 := by decide +kernel
theorem dX10_place_57 : fnD cX10_place 57 (.iload_n 3) 1 58 := by decide +kernel
theorem dX10_place_58 : fnD cX10_place 58 (.iastore) 1 59 := by decide +kernel
theorem dX10_place_59 : fnD cX10_place 59 (.iconst 1) 1 60 := by decide +kernel
theorem dX10_place_60 : fnD cX10_place 60 (.ireturn) 1 61 := by decide +kernel
theorem dX10_note_0 : fnD cX10_note 0 (.iload_n 1) 1 1 := by decide +kernel
theorem dX10_note_1 : fnD cX10_note 1 (.invokestatic 100) 3 4 := by decide +kernel
theorem dX10_note_4 : fnIf cX10_note 4 .eq 14 7 := by decide +kernel
theorem dX10_note_7 : fnD cX10_note 7 (.iload_n 2) 1 8 := by decide +kernel
theorem dX10_note_8 : fnD cX10_note 8 (.invokestatic 242) 3 11 := by decide +kernel
theorem dX10_note_11 : fnIf cX10_note 11 .ne 18 14 := by decide +kernel
theorem dX10_note_14 : fnD cX10_note 14 (.sipush (-2001)) 3 17 := by decide +kernel
theorem dX10_note_17 : fnD cX10_note 17 (.ireturn) 1 18 := by decide +kernel
theorem dX10_note_18 : fnD cX10_note 18 (.aload_n 0) 1 19 := by decide +kernel
theorem dX10_note_19 : fnD cX10_note 19 (.getfield 38) 3 22 := by decide +kernel
theorem dX10_note_22 : fnD cX10_note 22 (.iload_n 1) 1 23 := by decide +kernel
theorem dX10_note_23 : fnD cX10_note 23 (.iload_n 2) 1 24 := by decide +kernel
theorem dX10_note_24 : fnD cX10_note 24 (.aload_n 0) 1 25 := by decide +kernel
theorem dX10_note_25 : fnD cX10_note 25 (.getfield 11) 3 28 := by decide +kernel
theorem dX10_note_28 : fnD cX10_note 28 (.iload_n 1) 1 29 := by decide +kernel
theorem dX10_note_29 : fnD cX10_note 29 (.aaload) 1 30 := by decide +kernel
theorem dX10_note_30 : fnD cX10_note 30 (.invokevirtual 251) 3 33 := by decide +kernel
theorem dX10_note_33 : fnD cX10_note 33 (.iconst 1) 1 34 := by decide +kernel
theorem dX10_note_34 : fnD cX10_note 34 (.ireturn) 1 35 := by decide +kernel
theorem dX10_foretold_0 : fnD cX10_foretold 0 (.iload_n 1) 1 1 := by decide +kernel
theorem dX10_foretold_1 : fnD cX10_foretold 1 (.invokestatic 100) 3 4 := by decide +kernel
theorem dX10_foretold_4 : fnIf cX10_foretold 4 .eq 29 7 := by decide +kernel
theorem dX10_foretold_7 : fnD cX10_foretold 7 (.iload_n 2) 1 8 := by decide +kernel
theorem dX10_foretold_8 : fnD cX10_foretold 8 (.invokestatic 242) 3 11 := by decide +kernel
theorem dX10_foretold_11 : fnIf cX10_foretold 11 .eq 29 14 := by decide +kernel
theorem dX10_foretold_14 : fnD cX10_foretold 14 (.iload_n 3) 1 15 := by decide +kernel
theorem dX10_foretold_15 : fnD cX10_foretold 15 (.invokestatic 242) 3 18 := by decide +kernel
theorem dX10_foretold_18 : fnIf cX10_foretold 18 .eq 29 21 := by decide +kernel
theorem dX10_foretold_21 : fnD cX10_foretold 21 (.iload 4) 2 23 := by decide +kernel
theorem dX10_foretold_23 : fnD cX10_foretold 23 (.invokestatic 242) 3 26 := by decide +kernel
theorem dX10_foretold_26 : fnIf cX10_foretold 26 .ne 33 29 := by decide +kernel
theorem dX10_foretold_29 : fnD cX10_foretold 29 (.sipush (-2001)) 3 32 := by decide +kernel
theorem dX10_foretold_32 : fnD cX10_foretold 32 (.ireturn) 1 33 := by decide +kernel
theorem dX10_foretold_33 : fnD cX10_foretold 33 (.aload_n 0) 1 34 := by decide +kernel
theorem dX10_foretold_34 : fnD cX10_foretold 34 (.getfield 38) 3 37 := by decide +kernel
theorem dX10_foretold_37 : fnD cX10_foretold 37 (.iload_n 1) 1 38 := by decide +kernel
theorem dX10_foretold_38 : fnD cX10_foretold 38 (.iload_n 3) 1 39 := by decide +kernel
theorem dX10_foretold_39 : fnD cX10_foretold 39 (.iload 4) 2 41 := by decide +kernel
theorem dX10_foretold_41 : fnD cX10_foretold 41 (.invokevirtual 254) 3 44 := by decide +kernel
theorem dX10_foretold_44 : fnIf cX10_foretold 44 .ne 51 47 := by decide +kernel
theorem dX10_foretold_47 : fnD cX10_foretold 47 (.sipush (-2003)) 3 50 := by decide +kernel
theorem dX10_foretold_50 : fnD cX10_foretold 50 (.ireturn) 1 51 := by decide +kernel
theorem dX10_foretold_51 : fnD cX10_foretold 51 (.aload_n 0) 1 52 := by decide +kernel
theorem dX10_foretold_52 : fnD cX10_foretold 52 (.getfield 38) 3 55 := by decide +kernel
theorem dX10_foretold_55 : fnD cX10_foretold 55 (.iload 5) 2 57 := by decide +kernel
theorem dX10_foretold_57 : fnIf cX10_foretold 57 .eq 70 60 := by decide +kernel
theorem dX10_foretold_60 : fnD cX10_foretold 60 (.aload_n 0) 1 61 := by decide +kernel
theorem dX10_foretold_61 : fnD cX10_foretold 61 (.getfield 38) 3 64 := by decide +kernel
theorem dX10_foretold_64 : fnD cX10_foretold 64 (.getfield 257) 3 67 := by decide +kernel
theorem dX10_foretold_67 : fnGo cX10_foretold 67 77 := by decide +kernel
theorem dX10_foretold_70 : fnD cX10_foretold 70 (.aload_n 0) 1 71 := by decide +kernel
theorem dX10_foretold_71 : fnD cX10_foretold 71 (.getfield 38) 3 74 := by decide +kernel
theorem dX10_foretold_74 : fnD cX10_foretold 74 (.getfield 260) 3 77 := by decide +kernel
theorem dX10_foretold_77 : fnD cX10_foretold 77 (.iload_n 1) 1 78 := by decide +kernel
theorem dX10_foretold_78 : fnD cX10_foretold 78 (.iload_n 2) 1 79 := by decide +kernel
theorem dX10_foretold_79 : fnD cX10_foretold 79 (.iload_n 3) 1 80 := by decide +kernel
theorem dX10_foretold_80 : fnD cX10_foretold 80 (.iload 4) 2 82 := by decide +kernel
theorem dX10_foretold_82 : fnD cX10_foretold 82 (.invokevirtual 263) 3 85 := by decide +kernel
theorem dX10_foretold_85 : fnD cX10_foretold 85 (.ireturn) 1 86 := by decide +kernel
theorem dX10_foretoldError_0 : fnD cX10_foretoldError 0 (.iload_n 1) 1 1 := by decide +kernel
theorem dX10_foretoldError_1 : fnD cX10_foretoldError 1 (.invokestatic 100) 3 4 := by decide +kernel
theorem dX10_foretoldError_4 : fnIf cX10_foretoldError 4 .eq 14 7 := by decide +kernel
theorem dX10_foretoldError_7 : fnD cX10_foretoldError 7 (.iload_n 2) 1 8 := by decide +kernel
theorem dX10_foretoldError_8 : fnD cX10_foretoldError 8 (.invokestatic 113) 3 11 := by decide +kernel
theorem dX10_foretoldError_11 : fnIf cX10_foretoldError 11 .ne 18 14 := by decide +kernel
theorem dX10_foretoldError_14 : fnD cX10_foretoldError 14 (.sipush (-2001)) 3 17 := by decide +kernel
theorem dX10_foretoldError_17 : fnD cX10_foretoldError 17 (.ireturn) 1 18 := by decide +kernel
theorem dX10_foretoldError_18 : fnD cX10_foretoldError 18 (.iload_n 3) 1 19 := by decide +kernel
theorem dX10_foretoldError_19 : fnD cX10_foretoldError 19 (.invokestatic 242) 3 22 := by decide +kernel
theorem dX10_foretoldError_22 : fnIf cX10_foretoldError 22 .eq 41 25 := by decide +kernel
theorem dX10_foretoldError_25 : fnD cX10_foretoldError 25 (.iload 4) 2 27 := by decide +kernel
theorem dX10_foretoldError_27 : fnD cX10_foretoldError 27 (.invokestatic 242) 3 30 := by decide +kernel
theorem dX10_foretoldError_30 : fnIf cX10_foretoldError 30 .eq 41 33 := by decide +kernel
theorem dX10_foretoldError_33 : fnD cX10_foretoldError 33 (.iload 5) 2 35 := by decide +kernel
theorem dX10_foretoldError_35 : fnD cX10_foretoldError 35 (.invokestatic 242) 3 38 := by decide +kernel
theorem dX10_foretoldError_38 : fnIf cX10_foretoldError 38 .ne 45 41 := by decide +kernel
theorem dX10_foretoldError_41 : fnD cX10_foretoldError 41 (.sipush (-2001)) 3 44 := by decide +kernel
theorem dX10_foretoldError_44 : fnD cX10_foretoldError 44 (.ireturn) 1 45 := by decide +kernel
theorem dX10_foretoldError_45 : fnD cX10_foretoldError 45 (.aload_n 0) 1 46 := by decide +kernel
theorem dX10_foretoldError_46 : fnD cX10_foretoldError 46 (.getfield 38) 3 49 := by decide +kernel
theorem dX10_foretoldError_49 : fnD cX10_foretoldError 49 (.iload_n 1) 1 50 := by decide +kernel
theorem dX10_foretoldError_50 : fnD cX10_foretoldError 50 (.iload 4) 2 52 := by decide +kernel
theorem dX10_foretoldError_52 : fnD cX10_foretoldError 52 (.iload 5) 2 54 := by decide +kernel
theorem dX10_foretoldError_54 : fnD cX10_foretoldError 54 (.invokevirtual 254) 3 57 := by decide +kernel
theorem dX10_foretoldError_57 : fnIf cX10_foretoldError 57 .ne 64 60 := by decide +kernel
theorem dX10_foretoldError_60 : fnD cX10_foretoldError 60 (.sipush (-2003)) 3 63 := by decide +kernel
theorem dX10_foretoldError_63 : fnD cX10_foretoldError 63 (.ireturn) 1 64 := by decide +kernel
theorem dX10_foretoldError_64 : fnD cX10_foretoldError 64 (.aload_n 0) 1 65 := by decide +kernel
theorem dX10_foretoldError_65 : fnD cX10_foretoldError 65 (.getfield 71) 3 68 := by decide +kernel
theorem dX10_foretoldError_68 : fnD cX10_foretoldError 68 (.aload_n 0) 1 69 := by decide +kernel
theorem dX10_foretoldError_69 : fnD cX10_foretoldError 69 (.getfield 11) 3 72 := by decide +kernel
theorem dX10_foretoldError_72 : fnD cX10_foretoldError 72 (.iload_n 1) 1 73 := by decide +kernel
theorem dX10_foretoldError_73 : fnD cX10_foretoldError 73 (.aaload) 1 74 := by decide +kernel
theorem dX10_foretoldError_74 : fnD cX10_foretoldError 74 (.invokevirtual 267) 3 77 := by decide +kernel
theorem dX10_foretoldError_77 : fnD cX10_foretoldError 77 (.aload_n 0) 1 78 := by decide +kernel
theorem dX10_foretoldError_78 : fnD cX10_foretoldError 78 (.getfield 71) 3 81 := by decide +kernel
theorem dX10_foretoldError_81 : fnD cX10_foretoldError 81 (.getfield 110) 3 84 := by decide +kernel
theorem dX10_foretoldError_84 : fnD cX10_foretoldError 84 (.iconst 1) 1 85 := by decide +kernel
theorem dX10_foretoldError_85 : fnD cX10_foretoldError 85 (.aload_n 0) 1 86 := by decide +kernel
theorem dX10_foretoldError_86 : fnD cX10_foretoldError 86 (.getfield 38) 3 89 := by decide +kernel
theorem dX10_foretoldError_89 : fnD cX10_foretoldError 89 (.aload_n 0) 1 90 := by decide +kernel
theorem dX10_foretoldError_90 : fnD cX10_foretoldError 90 (.getfield 38) 3 93 := by decide +kernel
theorem dX10_foretoldError_93 : fnD cX10_foretoldError 93 (.getfield 260) 3 96 := by decide +kernel
theorem dX10_foretoldError_96 : fnD cX10_foretoldError 96 (.iload_n 1) 1 97 := by decide +kernel
theorem dX10_foretoldError_97 : fnD cX10_foretoldError 97 (.iload_n 3) 1 98 := by decide +kernel
theorem dX10_foretoldError_98 : fnD cX10_foretoldError 98 (.iload 4) 2 100 := by decide +kernel
theorem dX10_foretoldError_100 : fnD cX10_foretoldError 100 (.iload 5) 2 102 := by decide +kernel
theorem dX10_foretoldError_102 : fnD cX10_foretoldError 102 (.invokevirtual 263) 3 105 := by decide +kernel
theorem dX10_foretoldError_105 : fnD cX10_foretoldError 105 (.iastore) 1 106 := by decide +kernel
theorem dX10_foretoldError_106 : fnD cX10_foretoldError 106 (.aload_n 0) 1 107 := by decide +kernel
theorem dX10_foretoldError_107 : fnD cX10_foretoldError 107 (.getfield 71) 3 110 := by decide +kernel
theorem dX10_foretoldError_110 : fnD cX10_foretoldError 110 (.getfield 110) 3 113 := by decide +kernel
theorem dX10_foretoldError_113 : fnD cX10_foretoldError 113 (.iconst 2) 1 114 := by decide +kernel
theorem dX10_foretoldError_114 : fnD cX10_foretoldError 114 (.aload_n 0) 1 115 := by decide +kernel
theorem dX10_foretoldError_115 : fnD cX10_foretoldError 115 (.getfield 38) 3 118 := by decide +kernel
theorem dX10_foretoldError_118 : fnD cX10_foretoldError 118 (.aload_n 0) 1 119 := by decide +kernel
theorem dX10_foretoldError_119 : fnD cX10_foretoldError 119 (.getfield 38) 3 122 := by decide +kernel
theorem dX10_foretoldError_122 : fnD cX10_foretoldError 122 (.getfield 257) 3 125 := by decide +kernel
theorem dX10_foretoldError_125 : fnD cX10_foretoldError 125 (.iload_n 1) 1 126 := by decide +kernel
theorem dX10_foretoldError_126 : fnD cX10_foretoldError 126 (.iload_n 3) 1 127 := by decide +kernel
theorem dX10_foretoldError_127 : fnD cX10_foretoldError 127 (.iload 4) 2 129 := by decide +kernel
theorem dX10_foretoldError_129 : fnD cX10_foretoldError 129 (.iload 5) 2 131 := by decide +kernel
theorem dX10_foretoldError_131 : fnD cX10_foretoldError 131 (.invokevirtual 263) 3 134 := by decide +kernel
theorem dX10_foretoldError_134 : fnD cX10_foretoldError 134 (.iastore) 1 135 := by decide +kernel
theorem dX10_foretoldError_135 : fnD cX10_foretoldError 135 (.aload_n 0) 1 136 := by decide +kernel
theorem dX10_foretoldError_136 : fnD cX10_foretoldError 136 (.getfield 71) 3 139 := by decide +kernel
theorem dX10_foretoldError_139 : fnD cX10_foretoldError 139 (.iload_n 2) 1 140 := by decide +kernel
theorem dX10_foretoldError_140 : fnD cX10_foretoldError 140 (.iconst 0) 1 141 := by decide +kernel
theorem dX10_foretoldError_141 : fnD cX10_foretoldError 141 (.invokevirtual 119) 3 144 := by decide +kernel
theorem dX10_foretoldError_144 : fnD cX10_foretoldError 144 (.ireturn) 1 145 := by decide +kernel
theorem dX10_event_0 : fnD cX10_event 0 (.iload_n 1) 1 1 := by decide +kernel
theorem dX10_event_1 : fnD cX10_event 1 (.iconst 0) 1 2 := by decide +kernel
theorem dX10_event_2 : fnD cX10_event 2 (.bipush 19) 2 4 := by decide +kernel
theorem dX10_event_4 : fnD cX10_event 4 (.invokestatic 106) 3 7 := by decide +kernel
theorem dX10_event_7 : fnIf cX10_event 7 .eq 17 10 := by decide +kernel
theorem dX10_event_10 : fnD cX10_event 10 (.iload_n 3) 1 11 := by decide +kernel
theorem dX10_event_11 : fnD cX10_event 11 (.invokestatic 103) 3 14 := by decide +kernel
theorem dX10_event_14 : fnIf cX10_event 14 .ne 21 17 := by decide +kernel
theorem dX10_event_17 : fnD cX10_event 17 (.sipush (-2001)) 3 20 := by decide +kernel
theorem dX10_event_20 : fnD cX10_event 20 (.ireturn) 1 21 := by decide +kernel
theorem dX10_event_21 : fnD cX10_event 21 (.iload_n 2) 1 22 := by decide +kernel
theorem dX10_event_22 : fnD cX10_event 22 (.invokestatic 270) 3 25 := by decide +kernel
theorem dX10_event_25 : fnIf cX10_event 25 .eq 42 28 := by decide +kernel
theorem dX10_event_28 : fnD cX10_event 28 (.iload 4) 2 30 := by decide +kernel
theorem dX10_event_30 : fnD cX10_event 30 (.sipush (-300)) 3 33 := by decide +kernel
theorem dX10_event_33 : fnD cX10_event 33 (.sipush 300) 3 36 := by decide +kernel
theorem dX10_event_36 : fnD cX10_event 36 (.invokestatic 106) 3 39 := by decide +kernel
theorem dX10_event_39 : fnIf cX10_event 39 .ne 46 42 := by decide +kernel
theorem dX10_event_42 : fnD cX10_event 42 (.sipush (-2002)) 3 45 := by decide +kernel
theorem dX10_event_45 : fnD cX10_event 45 (.ireturn) 1 46 := by decide +kernel
theorem dX10_event_46 : fnD cX10_event 46 (.aload_n 0) 1 47 := by decide +kernel
theorem dX10_event_47 : fnD cX10_event 47 (.getfield 45) 3 50 := by decide +kernel
theorem dX10_event_50 : fnD cX10_event 50 (.iload_n 1) 1 51 := by decide +kernel
theorem dX10_event_51 : fnD cX10_event 51 (.iload_n 2) 1 52 := by decide +kernel
theorem dX10_event_52 : fnD cX10_event 52 (.iload_n 3) 1 53 := by decide +kernel
theorem dX10_event_53 : fnD cX10_event 53 (.iload 4) 2 55 := by decide +kernel
theorem dX10_event_55 : fnD cX10_event 55 (.invokevirtual 273) 3 58 := by decide +kernel
theorem dX10_event_58 : fnD cX10_event 58 (.ireturn) 1 59 := by decide +kernel
theorem dX10_asOf_0 : fnD cX10_asOf 0 (.iload_n 1) 1 1 := by decide +kernel
theorem dX10_asOf_1 : fnD cX10_asOf 1 (.invokestatic 103) 3 4 := by decide +kernel
theorem dX10_asOf_4 : fnIf cX10_asOf 4 .ne 11 7 := by decide +kernel
theorem dX10_asOf_7 : fnD cX10_asOf 7 (.sipush (-2001)) 3 10 := by decide +kernel
theorem dX10_asOf_10 : fnD cX10_asOf 10 (.ireturn) 1 11 := by decide +kernel
theorem dX10_asOf_11 : fnD cX10_asOf 11 (.iload_n 2) 1 12 := by decide +kernel
theorem dX10_asOf_12 : fnD cX10_asOf 12 (.invokestatic 270) 3 15 := by decide +kernel
theorem dX10_asOf_15 : fnIf cX10_asOf 15 .ne 22 18 := by decide +kernel
theorem dX10_asOf_18 : fnD cX10_asOf 18 (.sipush (-2002)) 3 21 := by decide +kernel
theorem dX10_asOf_21 : fnD cX10_asOf 21 (.ireturn) 1 22 := by decide +kernel
theorem dX10_asOf_22 : fnD cX10_asOf 22 (.aload_n 0) 1 23 := by decide +kernel
theorem dX10_asOf_23 : fnD cX10_asOf 23 (.iload_n 2) 1 24 := by decide +kernel
theorem dX10_asOf_24 : fnD cX10_asOf 24 (.invokevirtual 276) 3 27 := by decide +kernel
theorem dX10_asOf_27 : fnD cX10_asOf 27 (.getfield 110) 3 30 := by decide +kernel
theorem dX10_asOf_30 : fnD cX10_asOf 30 (.iload_n 1) 1 31 := by decide +kernel
theorem dX10_asOf_31 : fnD cX10_asOf 31 (.iaload) 1 32 := by decide +kernel
theorem dX10_asOf_32 : fnD cX10_asOf 32 (.ireturn) 1 33 := by decide +kernel
theorem dX10_leg_0 : fnD cX10_leg 0 (.iload_n 1) 1 1 := by decide +kernel
theorem dX10_leg_1 : fnD cX10_leg 1 (.invokestatic 270) 3 4 := by decide +kernel
theorem dX10_leg_4 : fnIf cX10_leg 4 .eq 33 7 := by decide +kernel
theorem dX10_leg_7 : fnD cX10_leg 7 (.iload_n 2) 1 8 := by decide +kernel
theorem dX10_leg_8 : fnD cX10_leg 8 (.invokestatic 83) 3 11 := by decide +kernel
theorem dX10_leg_11 : fnIf cX10_leg 11 .eq 33 14 := by decide +kernel
theorem dX10_leg_14 : fnD cX10_leg 14 (.iload_n 3) 1 15 := by decide +kernel
theorem dX10_leg_15 : fnD cX10_leg 15 (.invokestatic 116) 3 18 := by decide +kernel
theorem dX10_leg_18 : fnIf cX10_leg 18 .eq 33 21 := by decide +kernel
theorem dX10_leg_21 : fnD cX10_leg 21 (.iload 4) 2 23 := by decide +kernel
theorem dX10_leg_23 : fnD cX10_leg 23 (.iconst 0) 1 24 := by decide +kernel
theorem dX10_leg_24 : fnD cX10_leg 24 (.sipush 300) 3 27 := by decide +kernel
theorem dX10_leg_27 : fnD cX10_leg 27 (.invokestatic 106) 3 30 := by decide +kernel
theorem dX10_leg_30 : fnIf cX10_leg 30 .ne 37 33 := by decide +kernel
theorem dX10_leg_33 : fnD cX10_leg 33 (.sipush (-2002)) 3 36 := by decide +kernel
theorem dX10_leg_36 : fnD cX10_leg 36 (.ireturn) 1 37 := by decide +kernel
theorem dX10_leg_37 : fnD cX10_leg 37 (.iload 5) 2 39 := by decide +kernel
theorem dX10_leg_39 : fnD cX10_leg 39 (.sipush (-2009)) 3 42 := by decide +kernel
theorem dX10_leg_42 : fnIc cX10_leg 42 .eq 57 45 := by decide +kernel
theorem dX10_leg_45 : fnD cX10_leg 45 (.iload 5) 2 47 := by decide +kernel
theorem dX10_leg_47 : fnD cX10_leg 47 (.invokestatic 83) 3 50 := by decide +kernel
theorem dX10_leg_50 : fnIf cX10_leg 50 .ne 57 53 := by decide +kernel
theorem dX10_leg_53 : fnD cX10_leg 53 (.sipush (-2002)) 3 56 := by decide +kernel
theorem dX10_leg_56 : fnD cX10_leg 56 (.ireturn) 1 57 := by decide +kernel
theorem dX10_leg_57 : fnD cX10_leg 57 (.iload 6) 2 59 := by decide +kernel
theorem dX10_leg_59 : fnD cX10_leg 59 (.sipush (-2009)) 3 62 := by decide +kernel
theorem dX10_leg_62 : fnIc cX10_leg 62 .eq 83 65 := by decide +kernel
theorem dX10_leg_65 : fnD cX10_leg 65 (.iload 6) 2 67 := by decide +kernel
theorem dX10_leg_67 : fnD cX10_leg 67 (.sipush (-600)) 3 70 := by decide +kernel
theorem dX10_leg_70 : fnD cX10_leg 70 (.sipush 600) 3 73 := by decide +kernel
theorem dX10_leg_73 : fnD cX10_leg 73 (.invokestatic 106) 3 76 := by decide +kernel
theorem dX10_leg_76 : fnIf cX10_leg 76 .ne 83 79 := by decide +kernel
theorem dX10_leg_79 : fnD cX10_leg 79 (.sipush (-2002)) 3 82 := by decide +kernel
theorem dX10_leg_82 : fnD cX10_leg 82 (.ireturn) 1 83 := by decide +kernel
theorem dX10_leg_83 : fnD cX10_leg 83 (.iload_n 1) 1 84 := by decide +kernel
theorem dX10_leg_84 : fnD cX10_leg 84 (.aload_n 0) 1 85 := by decide +kernel
theorem dX10_leg_85 : fnD cX10_leg 85 (.getfield 52) 3 88 := by decide +kernel
theorem dX10_leg_88 : fnD cX10_leg 88 (.invokevirtual 280) 3 91 := by decide +kernel
theorem dX10_leg_91 : fnIc cX10_leg 91 .ge 98 94 := by decide +kernel
theorem dX10_leg_94 : fnD cX10_leg 94 (.sipush (-2003)) 3 97 := by decide +kernel
theorem dX10_leg_97 : fnD cX10_leg 97 (.ireturn) 1 98 := by decide +kernel
theorem dX10_leg_98 : fnD cX10_leg 98 (.aload_n 0) 1 99 := by decide +kernel
theorem dX10_leg_99 : fnD cX10_leg 99 (.getfield 52) 3 102 := by decide +kernel
theorem dX10_leg_102 : fnD cX10_leg 102 (.getfield 283) 3 105 := by decide +kernel
theorem dX10_leg_105 : fnD cX10_leg 105 (.bipush 40) 2 107 := by decide +kernel
theorem dX10_leg_107 : fnIc cX10_leg 107 .lt 114 110 := by decide +kernel
theorem dX10_leg_110 : fnD cX10_leg 110 (.sipush (-2004)) 3 113 := by decide +kernel
theorem dX10_leg_113 : fnD cX10_leg 113 (.ireturn) 1 114 := by decide +kernel
theorem dX10_leg_114 : fnD cX10_leg 114 (.aload_n 0) 1 115 := by decide +kernel
theorem dX10_leg_115 : fnD cX10_leg 115 (.getfield 52) 3 118 := by decide +kernel
theorem dX10_leg_118 : fnD cX10_leg 118 (.iload_n 1) 1 119 := by decide +kernel
theorem dX10_leg_119 : fnD cX10_leg 119 (.iload_n 2) 1 120 := by decide +kernel
theorem dX10_leg_120 : fnD cX10_leg 120 (.iload_n 3) 1 121 := by decide +kernel
theorem dX10_leg_121 : fnD cX10_leg 121 (.iload 4) 2 123 := by decide +kernel
theorem dX10_leg_123 : fnD cX10_leg 123 (.iload 5) 2 125 := by decide +kernel
theorem dX10_leg_125 : fnD cX10_leg 125 (.iload 6) 2 127 := by decide +kernel
theorem dX10_leg_127 : fnD cX10_leg 127 (.invokevirtual 284) 3 130 := by decide +kernel
theorem dX10_leg_130 : fnD cX10_leg 130 (.ireturn) 1 131 := by decide +kernel
theorem dX10_about_0 : fnD cX10_about 0 (.aload_n 0) 1 1 := by decide +kernel
theorem dX10_about_1 : fnD cX10_about 1 (.iload_n 1) 1 2 := by decide +kernel
theorem dX10_about_2 : fnD cX10_about 2 (.invokevirtual 288) 3 5 := by decide +kernel
theorem dX10_about_5 : fnIf cX10_about 5 .ne 12 8 := by decide +kernel
theorem dX10_about_8 : fnD cX10_about 8 (.sipush (-2001)) 3 11 := by decide +kernel
theorem dX10_about_11 : fnD cX10_about 11 (.ireturn) 1 12 := by decide +kernel
theorem dX10_about_12 : fnD cX10_about 12 (.iload_n 2) 1 13 := by decide +kernel
theorem dX10_about_13 : fnD cX10_about 13 (.tableswitch 171 0 8 #[51, 61, 71, 81, 91, 101, 111, 117, 144]) 51 64 := by decide +kernel
theorem dX10_about_64 : fnD cX10_about 64 (.aload_n 0) 1 65 := by decide +kernel
theorem dX10_about_65 : fnD cX10_about 65 (.getfield 52) 3 68 := by decide +kernel
theorem dX10_about_68 : fnD cX10_about 68 (.getfield 291) 3 71 := by decide +kernel
theorem dX10_about_71 : fnD cX10_about 71 (.iload_n 1) 1 72 := by decide +kernel
theorem dX10_about_72 : fnD cX10_about 72 (.iaload) 1 73 := by decide +kernel
theorem dX10_about_73 : fnD cX10_about 73 (.ireturn) 1 74 := by decide +kernel
theorem dX10_about_74 : fnD cX10_about 74 (.aload_n 0) 1 75 := by decide +kernel
theorem dX10_about_75 : fnD cX10_about 75 (.getfield 52) 3 78 := by decide +kernel
theorem dX10_about_78 : fnD cX10_about 78 (.getfield 294) 3 81 := by decide +kernel
theorem dX10_about_81 : fnD cX10_about 81 (.iload_n 1) 1 82 := by decide +kernel
theorem dX10_about_82 : fnD cX10_about 82 (.iaload) 1 83 := by decide +kernel
theorem dX10_about_83 : fnD cX10_about 83 (.ireturn) 1 84 := by decide +kernel
theorem dX10_about_84 : fnD cX10_about 84 (.aload_n 0) 1 85 := by decide +kernel
theorem dX10_about_85 : fnD cX10_about 85 (.getfield 52) 3 88 := by decide +kernel
theorem dX10_about_88 : fnD cX10_about 88 (.getfield 297) 3 91 := by decide +kernel
theorem dX10_about_91 : fnD cX10_about 91 (.iload_n 1) 1 92 := by decide +kernel
theorem dX10_about_92 : fnD cX10_about 92 (.iaload) 1 93 := by decide +kernel
theorem dX10_about_93 : fnD cX10_about 93 (.ireturn) 1 94 := by decide +kernel
theorem dX10_about_94 : fnD cX10_about 94 (.aload_n 0) 1 95 := by decide +kernel
theorem dX10_about_95 : fnD cX10_about 95 (.getfield 52) 3 98 := by decide +kernel
theorem dX10_about_98 : fnD cX10_about 98 (.getfield 300) 3 101 := by decide +kernel
theorem dX10_about_101 : fnD cX10_about 101 (.iload_n 1) 1 102 := by decide +kernel
theorem dX10_about_102 : fnD cX10_about 102 (.iaload) 1 103 := by decide +kernel
theorem dX10_about_103 : fnD cX10_about 103 (.ireturn) 1 104 := by decide +kernel
theorem dX10_about_104 : fnD cX10_about 104 (.aload_n 0) 1 105 := by decide +kernel
theorem dX10_about_105 : fnD cX10_about 105 (.getfield 52) 3 108 := by decide +kernel
theorem dX10_about_108 : fnD cX10_about 108 (.getfield 303) 3 111 := by decide +kernel
theorem dX10_about_111 : fnD cX10_about 111 (.iload_n 1) 1 112 := by decide +kernel
theorem dX10_about_112 : fnD cX10_about 112 (.iaload) 1 113 := by decide +kernel
theorem dX10_about_113 : fnD cX10_about 113 (.ireturn) 1 114 := by decide +kernel
theorem dX10_about_114 : fnD cX10_about 114 (.aload_n 0) 1 115 := by decide +kernel
theorem dX10_about_115 : fnD cX10_about 115 (.getfield 52) 3 118 := by decide +kernel
theorem dX10_about_118 : fnD cX10_about 118 (.getfield 306) 3 121 := by decide +kernel
theorem dX10_about_121 : fnD cX10_about 121 (.iload_n 1) 1 122 := by decide +kernel
theorem dX10_about_122 : fnD cX10_about 122 (.iaload) 1 123 := by decide +kernel
theorem dX10_about_123 : fnD cX10_about 123 (.ireturn) 1 124 := by decide +kernel
theorem dX10_about_124 : fnD cX10_about 124 (.aload_n 0) 1 125 := by decide +kernel
theorem dX10_about_125 : fnD cX10_about 125 (.iload_n 1) 1 126 := by decide +kernel
theorem dX10_about_126 : fnD cX10_about 126 (.invokevirtual 309) 3 129 := by decide +kernel
theorem dX10_about_129 : fnD cX10_about 129 (.ireturn) 1 130 := by decide +kernel
theorem dX10_about_130 : fnD cX10_about 130 (.aload_n 0) 1 131 := by decide +kernel
theorem dX10_about_131 : fnD cX10_about 131 (.getfield 52) 3 134 := by decide +kernel
theorem dX10_about_134 : fnD cX10_about 134 (.getfield 306) 3 137 := by decide +kernel
theorem dX10_about_137 : fnD cX10_about 137 (.iload_n 1) 1 138 := by decide +kernel
theorem dX10_about_138 : fnD cX10_about 138 (.iaload) 1 139 := by decide +kernel
theorem dX10_about_139 : fnD cX10_about 139 (.sipush (-2009)) 3 142 := by decide +kernel
theorem dX10_about_142 : fnIc cX10_about 142 .ne 151 145 := by decide +kernel
theorem dX10_about_145 : fnD cX10_about 145 (.sipush (-2009)) 3 148 := by decide +kernel
theorem dX10_about_148 : fnGo cX10_about 148 156 := by decide +kernel
theorem dX10_about_151 : fnD cX10_about 151 (.aload_n 0) 1 152 := by decide +kernel
theorem dX10_about_152 : fnD cX10_about 152 (.iload_n 1) 1 153 := by decide +kernel
theorem dX10_about_153 : fnD cX10_about 153 (.invokevirtual 312) 3 156 := by decide +kernel
theorem dX10_about_156 : fnD cX10_about 156 (.ireturn) 1 157 := by decide +kernel
theorem dX10_about_157 : fnD cX10_about 157 (.aload_n 0) 1 158 := by decide +kernel
theorem dX10_about_158 : fnD cX10_about 158 (.getfield 52) 3 161 := by decide +kernel
theorem dX10_about_161 : fnD cX10_about 161 (.getfield 303) 3 164 := by decide +kernel
theorem dX10_about_164 : fnD cX10_about 164 (.iload_n 1) 1 165 := by decide +kernel
theorem dX10_about_165 : fnD cX10_about 165 (.iaload) 1 166 := by decide +kernel
theorem dX10_about_166 : fnD cX10_about 166 (.sipush (-2009)) 3 169 := by decide +kernel
theorem dX10_about_169 : fnIc cX10_about 169 .ne 178 172 := by decide +kernel
theorem dX10_about_172 : fnD cX10_about 172 (.sipush (-2009)) 3 175 := by decide +kernel
theorem dX10_about_175 : fnGo cX10_about 175 183 := by decide +kernel
theorem dX10_about_178 : fnD cX10_about 178 (.aload_n 0) 1 179 := by decide +kernel
theorem dX10_about_179 : fnD cX10_about 179 (.iload_n 1) 1 180 := by decide +kernel
theorem dX10_about_180 : fnD cX10_about 180 (.invokevirtual 315) 3 183 := by decide +kernel
theorem dX10_about_183 : fnD cX10_about 183 (.ireturn) 1 184 := by decide +kernel
theorem dX10_about_184 : fnD cX10_about 184 (.sipush (-2002)) 3 187 := by decide +kernel
theorem dX10_about_187 : fnD cX10_about 187 (.ireturn) 1 188 := by decide +kernel
theorem dX10_home_0 : fnD cX10_home 0 (.aload_n 0) 1 1 := by decide +kernel
theorem dX10_home_1 : fnD cX10_home 1 (.getfield 52) 3 4 := by decide +kernel
theorem dX10_home_4 : fnD cX10_home 4 (.getfield 283) 3 7 := by decide +kernel
theorem dX10_home_7 : fnD cX10_home 7 (.istore_n 1) 1 8 := by decide +kernel
theorem dX10_home_8 : fnD cX10_home 8 (.aload_n 0) 1 9 := by decide +kernel
theorem dX10_home_9 : fnD cX10_home 9 (.getfield 52) 3 12 := by decide +kernel
theorem dX10_home_12 : fnD cX10_home 12 (.iconst 0) 1 13 := by decide +kernel
theorem dX10_home_13 : fnD cX10_home 13 (.putfield 283) 3 16 := by decide +kernel
theorem dX10_home_16 : fnD cX10_home 16 (.iload_n 1) 1 17 := by decide +kernel
theorem dX10_home_17 : fnD cX10_home 17 (.ireturn) 1 18 := by decide +kernel
theorem dX10_worked_0 : fnD cX10_worked 0 (.iload_n 1) 1 1 := by decide +kernel
theorem dX10_worked_1 : fnD cX10_worked 1 (.iconst 0) 1 2 := by decide +kernel
theorem dX10_worked_2 : fnD cX10_worked 2 (.aload_n 0) 1 3 := by decide +kernel
theorem dX10_worked_3 : fnD cX10_worked 3 (.getfield 52) 3 6 := by decide +kernel
theorem dX10_worked_6 : fnD cX10_worked 6 (.getfield 283) 3 9 := by decide +kernel
theorem dX10_worked_9 : fnD cX10_worked 9 (.invokestatic 106) 3 12 := by decide +kernel
theorem dX10_worked_12 : fnIf cX10_worked 12 .ne 19 15 := by decide +kernel
theorem dX10_worked_15 : fnD cX10_worked 15 (.sipush (-2001)) 3 18 := by decide +kernel
theorem dX10_worked_18 : fnD cX10_worked 18 (.ireturn) 1 19 := by decide +kernel
theorem dX10_worked_19 : fnD cX10_worked 19 (.iload_n 2) 1 20 := by decide +kernel
theorem dX10_worked_20 : fnD cX10_worked 20 (.iconst 0) 1 21 := by decide +kernel
theorem dX10_worked_21 : fnD cX10_worked 21 (.sipush 1000) 3 24 := by decide +kernel
theorem dX10_worked_24 : fnD cX10_worked 24 (.invokestatic 106) 3 27 := by decide +kernel
theorem dX10_worked_27 : fnIf cX10_worked 27 .eq 43 30 := by decide +kernel
theorem dX10_worked_30 : fnD cX10_worked 30 (.iload_n 3) 1 31 := by decide +kernel
theorem dX10_worked_31 : fnD cX10_worked 31 (.sipush (-1600)) 3 34 := by decide +kernel
theorem dX10_worked_34 : fnD cX10_worked 34 (.sipush 1599) 3 37 := by decide +kernel
theorem dX10_worked_37 : fnD cX10_worked 37 (.invokestatic 106) 3 40 := by decide +kernel
theorem dX10_worked_40 : fnIf cX10_worked 40 .ne 47 43 := by decide +kernel
theorem dX10_worked_43 : fnD cX10_worked 43 (.sipush (-2002)) 3 46 := by decide +kernel
theorem dX10_worked_46 : fnD cX10_worked 46 (.ireturn) 1 47 := by decide +kernel
theorem dX10_worked_47 : fnD cX10_worked 47 (.iconst 0) 1 48 := by decide +kernel
theorem dX10_worked_48 : fnD cX10_worked 48 (.istore 5) 2 50 := by decide +kernel
theorem dX10_worked_50 : fnD cX10_worked 50 (.iconst 0) 1 51 := by decide +kernel
theorem dX10_worked_51 : fnD cX10_worked 51 (.istore 6) 2 53 := by decide +kernel
theorem dX10_worked_53 : fnD cX10_worked 53 (.iload 6) 2 55 := by decide +kernel
theorem dX10_worked_55 : fnD cX10_worked 55 (.iload_n 1) 1 56 := by decide +kernel
theorem dX10_worked_56 : fnIc cX10_worked 56 .ge 137 59 := by decide +kernel
theorem dX10_worked_59 : fnD cX10_worked 59 (.aload_n 0) 1 60 := by decide +kernel
theorem dX10_worked_60 : fnD cX10_worked 60 (.getfield 52) 3 63 := by decide +kernel
theorem dX10_worked_63 : fnD cX10_worked 63 (.getfield 291) 3 66 := by decide +kernel
theorem dX10_worked_66 : fnD cX10_worked 66 (.iload 6) 2 68 := by decide +kernel
theorem dX10_worked_68 : fnD cX10_worked 68 (.iaload) 1 69 := by decide +kernel
theorem dX10_worked_69 : fnD cX10_worked 69 (.iload_n 2) 1 70 := by decide +kernel
theorem dX10_worked_70 : fnIc cX10_worked 70 .lt 77 73 := by decide +kernel
theorem dX10_worked_73 : fnD cX10_worked 73 (.iload_n 3) 1 74 := by decide +kernel
theorem dX10_worked_74 : fnGo cX10_worked 74 78 := by decide +kernel
theorem dX10_worked_77 : fnD cX10_worked 77 (.iconst 0) 1 78 := by decide +kernel
theorem dX10_worked_78 : fnD cX10_worked 78 (.istore 7) 2 80 := by decide +kernel
theorem dX10_worked_80 : fnD cX10_worked 80 (.aload_n 0) 1 81 := by decide +kernel
theorem dX10_worked_81 : fnD cX10_worked 81 (.iload 6) 2 83 := by decide +kernel
theorem dX10_worked_83 : fnD cX10_worked 83 (.invokevirtual 309) 3 86 := by decide +kernel
theorem dX10_worked_86 : fnD cX10_worked 86 (.iload 7) 2 88 := by decide +kernel
theorem dX10_worked_88 : fnD cX10_worked 88 (.iadd) 1 89 := by decide +kernel
theorem dX10_worked_89 : fnD cX10_worked 89 (.sipush 3200) 3 92 := by decide +kernel
theorem dX10_worked_92 : fnD cX10_worked 92 (.invokestatic 318) 3 95 := by decide +kernel
theorem dX10_worked_95 : fnD cX10_worked 95 (.istore 8) 2 97 := by decide +kernel
theorem dX10_worked_97 : fnD cX10_worked 97 (.iload 5) 2 99 := by decide +kernel
theorem dX10_worked_99 : fnD cX10_worked 99 (.aload_n 0) 1 100 := by decide +kernel
theorem dX10_worked_100 : fnD cX10_worked 100 (.getfield 52) 3 103 := by decide +kernel
theorem dX10_worked_103 : fnD cX10_worked 103 (.getfield 300) 3 106 := by decide +kernel
theorem dX10_worked_106 : fnD cX10_worked 106 (.iload 6) 2 108 := by decide +kernel
theorem dX10_worked_108 : fnD cX10_worked 108 (.iaload) 1 109 := by decide +kernel
theorem dX10_worked_109 : fnD cX10_worked 109 (.iload 4) 2 111 := by decide +kernel
theorem dX10_worked_111 : fnIf cX10_worked 111 .eq 122 114 := by decide +kernel
theorem dX10_worked_114 : fnD cX10_worked 114 (.iload 8) 2 116 := by decide +kernel
theorem dX10_worked_116 : fnD cX10_worked 116 (.invokestatic 93) 3 119 := by decide +kernel
theorem dX10_worked_119 : fnGo cX10_worked 119 127 := by decide +kernel
theorem dX10_worked_122 : fnD cX10_worked 122 (.iload 8) 2 124 := by decide +kernel
theorem dX10_worked_124 : fnD cX10_worked 124 (.invokestatic 87) 3 127 := by decide +kernel
theorem dX10_worked_127 : fnD cX10_worked 127 (.imul) 1 128 := by decide +kernel
theorem dX10_worked_128 : fnD cX10_worked 128 (.iadd) 1 129 := by decide +kernel
theorem dX10_worked_129 : fnD cX10_worked 129 (.istore 5) 2 131 := by decide +kernel
theorem dX10_worked_131 : fnD cX10_worked 131 (.iinc 6 1) 3 134 := by decide +kernel
theorem dX10_worked_134 : fnGo cX10_worked 134 53 := by decide +kernel
theorem dX10_worked_137 : fnD cX10_worked 137 (.iload 5) 2 139 := by decide +kernel
theorem dX10_worked_139 : fnD cX10_worked 139 (.ireturn) 1 140 := by decide +kernel
theorem dX10_split_0 : fnD cX10_split 0 (.aload_n 0) 1 1 := by decide +kernel
theorem dX10_split_1 : fnD cX10_split 1 (.invokevirtual 321) 3 4 := by decide +kernel
theorem dX10_split_4 : fnD cX10_split 4 (.aload_n 0) 1 5 := by decide +kernel
theorem dX10_split_5 : fnD cX10_split 5 (.getfield 59) 3 8 := by decide +kernel
theorem dX10_split_8 : fnD cX10_split 8 (.getfield 324) 3 11 := by decide +kernel
theorem dX10_split_11 : fnIf cX10_split 11 .ne 20 14 := by decide +kernel
theorem dX10_split_14 : fnD cX10_split 14 (.sipush (-2009)) 3 17 := by decide +kernel
theorem dX10_split_17 : fnGo cX10_split 17 27 := by decide +kernel
theorem dX10_split_20 : fnD cX10_split 20 (.aload_n 0) 1 21 := by decide +kernel
theorem dX10_split_21 : fnD cX10_split 21 (.getfield 59) 3 24 := by decide +kernel
theorem dX10_split_24 : fnD cX10_split 24 (.getfield 325) 3 27 := by decide +kernel
theorem dX10_split_27 : fnD cX10_split 27 (.ireturn) 1 28 := by decide +kernel
theorem dX10_splitCost_0 : fnD cX10_splitCost 0 (.aload_n 0) 1 1 := by decide +kernel
theorem dX10_splitCost_1 : fnD cX10_splitCost 1 (.invokevirtual 321) 3 4 := by decide +kernel
theorem dX10_splitCost_4 : fnD cX10_splitCost 4 (.aload_n 0) 1 5 := by decide +kernel
theorem dX10_splitCost_5 : fnD cX10_splitCost 5 (.getfield 59) 3 8 := by decide +kernel
theorem dX10_splitCost_8 : fnD cX10_splitCost 8 (.getfield 324) 3 11 := by decide +kernel
theorem dX10_splitCost_11 : fnIf cX10_splitCost 11 .ne 20 14 := by decide +kernel
theorem dX10_splitCost_14 : fnD cX10_splitCost 14 (.sipush (-2009)) 3 17 := by decide +kernel
theorem dX10_splitCost_17 : fnGo cX10_splitCost 17 27 := by decide +kernel
theorem dX10_splitCost_20 : fnD cX10_splitCost 20 (.aload_n 0) 1 21 := by decide +kernel
theorem dX10_splitCost_21 : fnD cX10_splitCost 21 (.getfield 59) 3 24 := by decide +kernel
theorem dX10_splitCost_24 : fnD cX10_splitCost 24 (.getfield 328) 3 27 := by decide +kernel
theorem dX10_splitCost_27 : fnD cX10_splitCost 27 (.ireturn) 1 28 := by decide +kernel
theorem dX10_jump_0 : fnD cX10_jump 0 (.iload_n 1) 1 1 := by decide +kernel
theorem dX10_jump_1 : fnD cX10_jump 1 (.iconst 0) 1 2 := by decide +kernel
theorem dX10_jump_2 : fnD cX10_jump 2 (.iconst 2) 1 3 := by decide +kernel
theorem dX10_jump_3 : fnD cX10_jump 3 (.invokestatic 106) 3 6 := by decide +kernel
theorem dX10_jump_6 : fnIf cX10_jump 6 .ne 13 9 := by decide +kernel
theorem dX10_jump_9 : fnD cX10_jump 9 (.sipush (-2002)) 3 12 := by decide +kernel
theorem dX10_jump_12 : fnD cX10_jump 12 (.ireturn) 1 13 := by decide +kernel
theorem dX10_jump_13 : fnD cX10_jump 13 (.aload_n 0) 1 14 := by decide +kernel
theorem dX10_jump_14 : fnD cX10_jump 14 (.invokevirtual 321) 3 17 := by decide +kernel
theorem dX10_jump_17 : fnD cX10_jump 17 (.aload_n 0) 1 18 := by decide +kernel
theorem dX10_jump_18 : fnD cX10_jump 18 (.getfield 59) 3 21 := by decide +kernel
theorem dX10_jump_21 : fnD cX10_jump 21 (.invokevirtual 331) 3 24 := by decide +kernel
theorem dX10_jump_24 : fnIf cX10_jump 24 .ne 31 27 := by decide +kernel
theorem dX10_jump_27 : fnD cX10_jump 27 (.sipush (-2009)) 3 30 := by decide +kernel
theorem dX10_jump_30 : fnD cX10_jump 30 (.ireturn) 1 31 := by decide +kernel
theorem dX10_jump_31 : fnD cX10_jump 31 (.iload_n 1) 1 32 := by decide +kernel
theorem dX10_jump_32 : fnD cX10_jump 32 (.lookupswitch 62 #[(0, 28), (1, 36)]) 28 60 := by decide +kernel
theorem dX10_jump_60 : fnD cX10_jump 60 (.aload_n 0) 1 61 := by decide +kernel
theorem dX10_jump_61 : fnD cX10_jump 61 (.getfield 59) 3 64 := by decide +kernel
theorem dX10_jump_64 : fnD cX10_jump 64 (.invokevirtual 335) 3 67 := by decide +kernel
theorem dX10_jump_67 : fnD cX10_jump 67 (.ireturn) 1 68 := by decide +kernel
theorem dX10_jump_68 : fnD cX10_jump 68 (.aload_n 0) 1 69 := by decide +kernel
theorem dX10_jump_69 : fnD cX10_jump 69 (.getfield 52) 3 72 := by decide +kernel
theorem dX10_jump_72 : fnD cX10_jump 72 (.getfield 291) 3 75 := by decide +kernel
theorem dX10_jump_75 : fnD cX10_jump 75 (.aload_n 0) 1 76 := by decide +kernel
theorem dX10_jump_76 : fnD cX10_jump 76 (.getfield 59) 3 79 := by decide +kernel
theorem dX10_jump_79 : fnD cX10_jump 79 (.getfield 338) 3 82 := by decide +kernel
theorem dX10_jump_82 : fnD cX10_jump 82 (.aload_n 0) 1 83 := by decide +kernel
theorem dX10_jump_83 : fnD cX10_jump 83 (.getfield 59) 3 86 := by decide +kernel
theorem dX10_jump_86 : fnD cX10_jump 86 (.getfield 325) 3 89 := by decide +kernel
theorem dX10_jump_89 : fnD cX10_jump 89 (.iconst 1) 1 90 := by decide +kernel
theorem dX10_jump_90 : fnD cX10_jump 90 (.isub) 1 91 := by decide +kernel
theorem dX10_jump_91 : fnD cX10_jump 91 (.iaload) 1 92 := by decide +kernel
theorem dX10_jump_92 : fnD cX10_jump 92 (.iaload) 1 93 := by decide +kernel
theorem dX10_jump_93 : fnD cX10_jump 93 (.ireturn) 1 94 := by decide +kernel
theorem dX10_jump_94 : fnD cX10_jump 94 (.aload_n 0) 1 95 := by decide +kernel
theorem dX10_jump_95 : fnD cX10_jump 95 (.getfield 52) 3 98 := by decide +kernel
theorem dX10_jump_98 : fnD cX10_jump 98 (.getfield 291) 3 101 := by decide +kernel
theorem dX10_jump_101 : fnD cX10_jump 101 (.aload_n 0) 1 102 := by decide +kernel
theorem dX10_jump_102 : fnD cX10_jump 102 (.getfield 59) 3 105 := by decide +kernel
theorem dX10_jump_105 : fnD cX10_jump 105 (.getfield 338) 3 108 := by decide +kernel
theorem dX10_jump_108 : fnD cX10_jump 108 (.aload_n 0) 1 109 := by decide +kernel
theorem dX10_jump_109 : fnD cX10_jump 109 (.getfield 59) 3 112 := by decide +kernel
theorem dX10_jump_112 : fnD cX10_jump 112 (.getfield 325) 3 115 := by decide +kernel
theorem dX10_jump_115 : fnD cX10_jump 115 (.iaload) 1 116 := by decide +kernel
theorem dX10_jump_116 : fnD cX10_jump 116 (.iaload) 1 117 := by decide +kernel
theorem dX10_jump_117 : fnD cX10_jump 117 (.ireturn) 1 118 := by decide +kernel
theorem dX10_firstApart_0 : fnD cX10_firstApart 0 (.iload_n 1) 1 1 := by decide +kernel
theorem dX10_firstApart_1 : fnD cX10_firstApart 1 (.iconst 0) 1 2 := by decide +kernel
theorem dX10_firstApart_2 : fnD cX10_firstApart 2 (.sipush 1600) 3 5 := by decide +kernel
theorem dX10_firstApart_5 : fnD cX10_firstApart 5 (.invokestatic 106) 3 8 := by decide +kernel
theorem dX10_firstApart_8 : fnIf cX10_firstApart 8 .ne 15 11 := by decide +kernel
theorem dX10_firstApart_11 : fnD cX10_firstApart 11 (.sipush (-2002)) 3 14 := by decide +kernel
theorem dX10_firstApart_14 : fnD cX10_firstApart 14 (.ireturn) 1 15 := by decide +kernel
theorem dX10_firstApart_15 : fnD cX10_firstApart 15 (.iconst 0) 1 16 := by decide +kernel
theorem dX10_firstApart_16 : fnD cX10_firstApart 16 (.istore_n 2) 1 17 := by decide +kernel
theorem dX10_firstApart_17 : fnD cX10_firstApart 17 (.iload_n 2) 1 18 := by decide +kernel
theorem dX10_firstApart_18 : fnD cX10_firstApart 18 (.aload_n 0) 1 19 := by decide +kernel
theorem dX10_firstApart_19 : fnD cX10_firstApart 19 (.getfield 52) 3 22 := by decide +kernel
theorem dX10_firstApart_22 : fnD cX10_firstApart 22 (.getfield 283) 3 25 := by decide +kernel
theorem dX10_firstApart_25 : fnIc cX10_firstApart 25 .ge 63 28 := by decide +kernel
theorem dX10_firstApart_28 : fnD cX10_firstApart 28 (.aload_n 0) 1 29 := by decide +kernel
theorem dX10_firstApart_29 : fnD cX10_firstApart 29 (.getfield 52) 3 32 := by decide +kernel
theorem dX10_firstApart_32 : fnD cX10_firstApart 32 (.getfield 303) 3 35 := by decide +kernel
theorem dX10_firstApart_35 : fnD cX10_firstApart 35 (.iload_n 2) 1 36 := by decide +kernel
theorem dX10_firstApart_36 : fnD cX10_firstApart 36 (.iaload) 1 37 := by decide +kernel
theorem dX10_firstApart_37 : fnD cX10_firstApart 37 (.sipush (-2009)) 3 40 := by decide +kernel
theorem dX10_firstApart_40 : fnIc cX10_firstApart 40 .eq 57 43 := by decide +kernel
theorem dX10_firstApart_43 : fnD cX10_firstApart 43 (.aload_n 0) 1 44 := by decide +kernel
theorem dX10_firstApart_44 : fnD cX10_firstApart 44 (.iload_n 2) 1 45 := by decide +kernel
theorem dX10_firstApart_45 : fnD cX10_firstApart 45 (.invokevirtual 315) 3 48 := by decide +kernel
theorem dX10_firstApart_48 : fnD cX10_firstApart 48 (.invokestatic 135) 3 51 := by decide +kernel
theorem dX10_firstApart_51 : fnD cX10_firstApart 51 (.iload_n 1) 1 52 := by decide +kernel
theorem dX10_firstApart_52 : fnIc cX10_firstApart 52 .le 57 55 := by decide +kernel
theorem dX10_firstApart_55 : fnD cX10_firstApart 55 (.iload_n 2) 1 56 := by decide +kernel
theorem dX10_firstApart_56 : fnD cX10_firstApart 56 (.ireturn) 1 57 := by decide +kernel
theorem dX10_firstApart_57 : fnD cX10_firstApart 57 (.iinc 2 1) 3 60 := by decide +kernel
theorem dX10_firstApart_60 : fnGo cX10_firstApart 60 17 := by decide +kernel
theorem dX10_firstApart_63 : fnD cX10_firstApart 63 (.sipush (-2009)) 3 66 := by decide +kernel
theorem dX10_firstApart_66 : fnD cX10_firstApart 66 (.ireturn) 1 67 := by decide +kernel
theorem dX10_nearer_0 : fnD cX10_nearer 0 (.aload_n 0) 1 1 := by decide +kernel
theorem dX10_nearer_1 : fnD cX10_nearer 1 (.iload_n 1) 1 2 := by decide +kernel
theorem dX10_nearer_2 : fnD cX10_nearer 2 (.invokevirtual 288) 3 5 := by decide +kernel
theorem dX10_nearer_5 : fnIf cX10_nearer 5 .ne 12 8 := by decide +kernel
theorem dX10_nearer_8 : fnD cX10_nearer 8 (.sipush (-2001)) 3 11 := by decide +kernel
theorem dX10_nearer_11 : fnD cX10_nearer 11 (.ireturn) 1 12 := by decide +kernel
theorem dX10_nearer_12 : fnD cX10_nearer 12 (.aload_n 0) 1 13 := by decide +kernel
theorem dX10_nearer_13 : fnD cX10_nearer 13 (.getfield 52) 3 16 := by decide +kernel
theorem dX10_nearer_16 : fnD cX10_nearer 16 (.getfield 306) 3 19 := by decide +kernel
theorem dX10_nearer_19 : fnD cX10_nearer 19 (.iload_n 1) 1 20 := by decide +kernel
theorem dX10_nearer_20 : fnD cX10_nearer 20 (.iaload) 1 21 := by decide +kernel
theorem dX10_nearer_21 : fnD cX10_nearer 21 (.sipush (-2009)) 3 24 := by decide +kernel
theorem dX10_nearer_24 : fnIc cX10_nearer 24 .eq 42 27 := by decide +kernel
theorem dX10_nearer_27 : fnD cX10_nearer 27 (.aload_n 0) 1 28 := by decide +kernel
theorem dX10_nearer_28 : fnD cX10_nearer 28 (.getfield 52) 3 31 := by decide +kernel
theorem dX10_nearer_31 : fnD cX10_nearer 31 (.getfield 303) 3 34 := by decide +kernel
theorem dX10_nearer_34 : fnD cX10_nearer 34 (.iload_n 1) 1 35 := by decide +kernel
theorem dX10_nearer_35 : fnD cX10_nearer 35 (.iaload) 1 36 := by decide +kernel
theorem dX10_nearer_36 : fnD cX10_nearer 36 (.sipush (-2009)) 3 39 := by decide +kernel
theorem dX10_nearer_39 : fnIc cX10_nearer 39 .ne 46 42 := by decide +kernel
theorem dX10_nearer_42 : fnD cX10_nearer 42 (.sipush (-2003)) 3 45 := by decide +kernel
theorem dX10_nearer_45 : fnD cX10_nearer 45 (.ireturn) 1 46 := by decide +kernel
theorem dX10_nearer_46 : fnD cX10_nearer 46 (.aload_n 0) 1 47 := by decide +kernel
theorem dX10_nearer_47 : fnD cX10_nearer 47 (.getfield 52) 3 50 := by decide +kernel
theorem dX10_nearer_50 : fnD cX10_nearer 50 (.getfield 294) 3 53 := by decide +kernel
theorem dX10_nearer_53 : fnD cX10_nearer 53 (.iload_n 1) 1 54 := by decide +kernel
theorem dX10_nearer_54 : fnD cX10_nearer 54 (.iaload) 1 55 := by decide +kernel
theorem dX10_nearer_55 : fnD cX10_nearer 55 (.aload_n 0) 1 56 := by decide +kernel
theorem dX10_nearer_56 : fnD cX10_nearer 56 (.getfield 52) 3 59 := by decide +kernel
theorem dX10_nearer_59 : fnD cX10_nearer 59 (.getfield 306) 3 62 := by decide +kernel
theorem dX10_nearer_62 : fnD cX10_nearer 62 (.iload_n 1) 1 63 := by decide +kernel
theorem dX10_nearer_63 : fnD cX10_nearer 63 (.iaload) 1 64 := by decide +kernel
theorem dX10_nearer_64 : fnD cX10_nearer 64 (.iadd) 1 65 := by decide +kernel
theorem dX10_nearer_65 : fnD cX10_nearer 65 (.sipush 3200) 3 68 := by decide +kernel
theorem dX10_nearer_68 : fnD cX10_nearer 68 (.invokestatic 318) 3 71 := by decide +kernel
theorem dX10_nearer_71 : fnD cX10_nearer 71 (.istore_n 2) 1 72 := by decide +kernel
theorem dX10_nearer_72 : fnD cX10_nearer 72 (.iload_n 2) 1 73 := by decide +kernel
theorem dX10_nearer_73 : fnD cX10_nearer 73 (.aload_n 0) 1 74 := by decide +kernel
theorem dX10_nearer_74 : fnD cX10_nearer 74 (.iload_n 1) 1 75 := by decide +kernel
theorem dX10_nearer_75 : fnD cX10_nearer 75 (.invokevirtual 309) 3 78 := by decide +kernel
theorem dX10_nearer_78 : fnD cX10_nearer 78 (.invokestatic 96) 3 81 := by decide +kernel
theorem dX10_nearer_81 : fnD cX10_nearer 81 (.invokestatic 135) 3 84 := by decide +kernel
theorem dX10_nearer_84 : fnD cX10_nearer 84 (.istore_n 3) 1 85 := by decide +kernel
theorem dX10_nearer_85 : fnD cX10_nearer 85 (.iload_n 2) 1 86 := by decide +kernel
theorem dX10_nearer_86 : fnD cX10_nearer 86 (.aload_n 0) 1 87 := by decide +kernel
theorem dX10_nearer_87 : fnD cX10_nearer 87 (.iload_n 1) 1 88 := by decide +kernel
theorem dX10_nearer_88 : fnD cX10_nearer 88 (.invokevirtual 341) 3 91 := by decide +kernel
theorem dX10_nearer_91 : fnD cX10_nearer 91 (.invokestatic 96) 3 94 := by decide +kernel
theorem dX10_nearer_94 : fnD cX10_nearer 94 (.invokestatic 135) 3 97 := by decide +kernel
theorem dX10_nearer_97 : fnD cX10_nearer 97 (.istore 4) 2 99 := by decide +kernel
theorem dX10_nearer_99 : fnD cX10_nearer 99 (.iload_n 3) 1 100 := by decide +kernel
theorem dX10_nearer_100 : fnD cX10_nearer 100 (.iload 4) 2 102 := by decide +kernel
theorem dX10_nearer_102 : fnIc cX10_nearer 102 .ne 107 105 := by decide +kernel
theorem dX10_nearer_105 : fnD cX10_nearer 105 (.iconst 2) 1 106 := by decide +kernel
theorem dX10_nearer_106 : fnD cX10_nearer 106 (.ireturn) 1 107 := by decide +kernel
theorem dX10_nearer_107 : fnD cX10_nearer 107 (.iload_n 3) 1 108 := by decide +kernel
theorem dX10_nearer_108 : fnD cX10_nearer 108 (.iload 4) 2 110 := by decide +kernel
theorem dX10_nearer_110 : fnIc cX10_nearer 110 .ge 117 113 := by decide +kernel
theorem dX10_nearer_113 : fnD cX10_nearer 113 (.iconst 0) 1 114 := by decide +kernel
theorem dX10_nearer_114 : fnGo cX10_nearer 114 118 := by decide +kernel
theorem dX10_nearer_117 : fnD cX10_nearer 117 (.iconst 1) 1 118 := by decide +kernel
theorem dX10_nearer_118 : fnD cX10_nearer 118 (.ireturn) 1 119 := by decide +kernel
theorem dX10_wreck_0 : fnD cX10_wreck 0 (.iload_n 1) 1 1 := by decide +kernel
theorem dX10_wreck_1 : fnD cX10_wreck 1 (.sipush (-9999)) 3 4 := by decide +kernel
theorem dX10_wreck_4 : fnD cX10_wreck 4 (.sipush 9999) 3 7 := by decide +kernel
theorem dX10_wreck_7 : fnD cX10_wreck 7 (.invokestatic 106) 3 10 := by decide +kernel
theorem dX10_wreck_10 : fnIf cX10_wreck 10 .eq 26 13 := by decide +kernel
theorem dX10_wreck_13 : fnD cX10_wreck 13 (.iload_n 2) 1 14 := by decide +kernel
theorem dX10_wreck_14 : fnD cX10_wreck 14 (.sipush (-9999)) 3 17 := by decide +kernel
theorem dX10_wreck_17 : fnD cX10_wreck 17 (.sipush 9999) 3 20 := by decide +kernel
theorem dX10_wreck_20 : fnD cX10_wreck 20 (.invokestatic 106) 3 23 := by decide +kernel
theorem dX10_wreck_23 : fnIf cX10_wreck 23 .ne 30 26 := by decide +kernel
theorem dX10_wreck_26 : fnD cX10_wreck 26 (.sipush (-2002)) 3 29 := by decide +kernel
theorem dX10_wreck_29 : fnD cX10_wreck 29 (.ireturn) 1 30 := by decide +kernel
theorem dX10_wreck_30 : fnD cX10_wreck 30 (.iload_n 3) 1 31 := by decide +kernel
theorem dX10_wreck_31 : fnD cX10_wreck 31 (.iconst 0) 1 32 := by decide +kernel
theorem dX10_wreck_32 : fnD cX10_wreck 32 (.iconst 2) 1 33 := by decide +kernel
theorem dX10_wreck_33 : fnD cX10_wreck 33 (.invokestatic 106) 3 36 := by decide +kernel
theorem dX10_wreck_36 : fnIf cX10_wreck 36 .ne 43 39 := by decide +kernel
theorem dX10_wreck_39 : fnD cX10_wreck 39 (.sipush (-2002)) 3 42 := by decide +kernel
theorem dX10_wreck_42 : fnD cX10_wreck 42 (.ireturn) 1 43 := by decide +kernel
theorem dX10_wreck_43 : fnD cX10_wreck 43 (.aload_n 0) 1 44 := by decide +kernel
theorem dX10_wreck_44 : fnD cX10_wreck 44 (.getfield 52) 3 47 := by decide +kernel
theorem dX10_wreck_47 : fnD cX10_wreck 47 (.getfield 283) 3 50 := by decide +kernel
theorem dX10_wreck_50 : fnIf cX10_wreck 50 .ne 57 53 := by decide +kernel
theorem dX10_wreck_53 : fnD cX10_wreck 53 (.sipush (-2009)) 3 56 := by decide +kernel
theorem dX10_wreck_56 : fnD cX10_wreck 56 (.ireturn) 1 57 := by decide +kernel
theorem dX10_wreck_57 : fnD cX10_wreck 57 (.iconst 0) 1 58 := by decide +kernel
theorem dX10_wreck_58 : fnD cX10_wreck 58 (.istore 4) 2 60 := by decide +kernel
theorem dX10_wreck_60 : fnD cX10_wreck 60 (.iload 4) 2 62 := by decide +kernel
theorem dX10_wreck_62 : fnD cX10_wreck 62 (.aload_n 0) 1 63 := by decide +kernel
theorem dX10_wreck_63 : fnD cX10_wreck 63 (.getfield 52) 3 66 := by decide +kernel
theorem dX10_wreck_66 : fnD cX10_wreck 66 (.getfield 283) 3 69 := by decide +kernel
theorem dX10_wreck_69 : fnIc cX10_wreck 69 .ge 94 72 := by decide +kernel
theorem dX10_wreck_72 : fnD cX10_wreck 72 (.aload_n 0) 1 73 := by decide +kernel
theorem dX10_wreck_73 : fnD cX10_wreck 73 (.getfield 66) 3 76 := by decide +kernel
theorem dX10_wreck_76 : fnD cX10_wreck 76 (.getfield 344) 3 79 := by decide +kernel
theorem dX10_wreck_79 : fnD cX10_wreck 79 (.iload 4) 2 81 := by decide +kernel
theorem dX10_wreck_81 : fnD cX10_wreck 81 (.aload_n 0) 1 82 := by decide +kernel
theorem dX10_wreck_82 : fnD cX10_wreck 82 (.iload 4) 2 84 := by decide +kernel
theorem dX10_wreck_84 : fnD cX10_wreck 84 (.invokevirtual 309) 3 87 := by decide +kernel
theorem dX10_wreck_87 : fnD cX10_wreck 87 (.iastore) 1 88 := by decide +kernel
theorem dX10_wreck_88 : fnD cX10_wreck 88 (.iinc 4 1) 3 91 := by decide +kernel
theorem dX10_wreck_91 : fnGo cX10_wreck 91 60 := by decide +kernel
theorem dX10_wreck_94 : fnD cX10_wreck 94 (.aload_n 0) 1 95 := by decide +kernel
theorem dX10_wreck_95 : fnD cX10_wreck 95 (.getfield 66) 3 98 := by decide +kernel
theorem dX10_wreck_98 : fnD cX10_wreck 98 (.aload_n 0) 1 99 := by decide +kernel
theorem dX10_wreck_99 : fnD cX10_wreck 99 (.getfield 52) 3 102 := by decide +kernel
theorem dX10_wreck_102 : fnD cX10_wreck 102 (.iload_n 1) 1 103 := by decide +kernel
theorem dX10_wreck_103 : fnD cX10_wreck 103 (.iload_n 2) 1 104 := by decide +kernel
theorem dX10_wreck_104 : fnD cX10_wreck 104 (.invokevirtual 347) 3 107 := by decide +kernel
theorem dX10_wreck_107 : fnD cX10_wreck 107 (.iload_n 3) 1 108 := by decide +kernel
theorem dX10_wreck_108 : fnD cX10_wreck 108 (.lookupswitch 44 #[(0, 28), (1, 36)]) 28 136 := by decide +kernel
theorem dX10_wreck_136 : fnD cX10_wreck 136 (.aload_n 0) 1 137 := by decide +kernel
theorem dX10_wreck_137 : fnD cX10_wreck 137 (.getfield 66) 3 140 := by decide +kernel
theorem dX10_wreck_140 : fnD cX10_wreck 140 (.getfield 350) 3 143 := by decide +kernel
theorem dX10_wreck_143 : fnD cX10_wreck 143 (.ireturn) 1 144 := by decide +kernel
theorem dX10_wreck_144 : fnD cX10_wreck 144 (.aload_n 0) 1 145 := by decide +kernel
theorem dX10_wreck_145 : fnD cX10_wreck 145 (.getfield 66) 3 148 := by decide +kernel
theorem dX10_wreck_148 : fnD cX10_wreck 148 (.getfield 353) 3 151 := by decide +kernel
theorem dX10_wreck_151 : fnD cX10_wreck 151 (.ireturn) 1 152 := by decide +kernel
theorem dX10_wreck_152 : fnD cX10_wreck 152 (.aload_n 0) 1 153 := by decide +kernel
theorem dX10_wreck_153 : fnD cX10_wreck 153 (.getfield 66) 3 156 := by decide +kernel
theorem dX10_wreck_156 : fnD cX10_wreck 156 (.getfield 356) 3 159 := by decide +kernel
theorem dX10_wreck_159 : fnD cX10_wreck 159 (.ireturn) 1 160 := by decide +kernel
theorem dX10_count_0 : fnD cX10_count 0 (.iload_n 1) 1 1 := by decide +kernel
theorem dX10_count_1 : fnD cX10_count 1 (.tableswitch 87 0 5 #[39, 47, 55, 63, 71, 79]) 39 40 := by decide +kernel
theorem dX10_count_40 : fnD cX10_count 40 (.aload_n 0) 1 41 := by decide +kernel
theorem dX10_count_41 : fnD cX10_count 41 (.getfield 52) 3 44 := by decide +kernel
theorem dX10_count_44 : fnD cX10_count 44 (.getfield 283) 3 47 := by decide +kernel
theorem dX10_count_47 : fnD cX10_count 47 (.ireturn) 1 48 := by decide +kernel
theorem dX10_count_48 : fnD cX10_count 48 (.aload_n 0) 1 49 := by decide +kernel
theorem dX10_count_49 : fnD cX10_count 49 (.getfield 24) 3 52 := by decide +kernel
theorem dX10_count_52 : fnD cX10_count 52 (.invokevirtual 206) 3 55 := by decide +kernel
theorem dX10_count_55 : fnD cX10_count 55 (.ireturn) 1 56 := by decide +kernel
theorem dX10_count_56 : fnD cX10_count 56 (.aload_n 0) 1 57 := by decide +kernel
theorem dX10_count_57 : fnD cX10_count 57 (.getfield 24) 3 60 := by decide +kernel
theorem dX10_count_60 : fnD cX10_count 60 (.invokevirtual 359) 3 63 := by decide +kernel
theorem dX10_count_63 : fnD cX10_count 63 (.ireturn) 1 64 := by decide +kernel
theorem dX10_count_64 : fnD cX10_count 64 (.aload_n 0) 1 65 := by decide +kernel
theorem dX10_count_65 : fnD cX10_count 65 (.getfield 45) 3 68 := by decide +kernel
theorem dX10_count_68 : fnD cX10_count 68 (.invokevirtual 362) 3 71 := by decide +kernel
theorem dX10_count_71 : fnD cX10_count 71 (.ireturn) 1 72 := by decide +kernel
theorem dX10_count_72 : fnD cX10_count 72 (.aload_n 0) 1 73 := by decide +kernel
theorem dX10_count_73 : fnD cX10_count 73 (.getfield 38) 3 76 := by decide +kernel
theorem dX10_count_76 : fnD cX10_count 76 (.invokevirtual 364) 3 79 := by decide +kernel
theorem dX10_count_79 : fnD cX10_count 79 (.ireturn) 1 80 := by decide +kernel
theorem dX10_count_80 : fnD cX10_count 80 (.aload_n 0) 1 81 := by decide +kernel
theorem dX10_count_81 : fnD cX10_count 81 (.getfield 52) 3 84 := by decide +kernel
theorem dX10_count_84 : fnD cX10_count 84 (.invokevirtual 367) 3 87 := by decide +kernel
theorem dX10_count_87 : fnD cX10_count 87 (.ireturn) 1 88 := by decide +kernel
theorem dX10_count_88 : fnD cX10_count 88 (.sipush (-2002)) 3 91 := by decide +kernel
theorem dX10_count_91 : fnD cX10_count 91 (.ireturn) 1 92 := by decide +kernel
theorem dX10_within_0 : fnD cX10_within 0 (.iload_n 0) 1 1 := by decide +kernel
theorem dX10_within_1 : fnD cX10_within 1 (.iload_n 1) 1 2 := by decide +kernel
theorem dX10_within_2 : fnIc cX10_within 2 .lt 14 5 := by decide +kernel
theorem dX10_within_5 : fnD cX10_within 5 (.iload_n 0) 1 6 := by decide +kernel
theorem dX10_within_6 : fnD cX10_within 6 (.iload_n 2) 1 7 := by decide +kernel
theorem dX10_within_7 : fnIc cX10_within 7 .gt 14 10 := by decide +kernel
theorem dX10_within_10 : fnD cX10_within 10 (.iconst 1) 1 11 := by decide +kernel
theorem dX10_within_11 : fnGo cX10_within 11 15 := by decide +kernel
theorem dX10_within_14 : fnD cX10_within 14 (.iconst 0) 1 15 := by decide +kernel
theorem dX10_within_15 : fnD cX10_within 15 (.ireturn) 1 16 := by decide +kernel
theorem dX10_isCompass_0 : fnD cX10_isCompass 0 (.iload_n 0) 1 1 := by decide +kernel
theorem dX10_isCompass_1 : fnD cX10_isCompass 1 (.iconst 0) 1 2 := by decide +kernel
theorem dX10_isCompass_2 : fnD cX10_isCompass 2 (.iconst 2) 1 3 := by decide +kernel
theorem dX10_isCompass_3 : fnD cX10_isCompass 3 (.invokestatic 106) 3 6 := by decide +kernel
theorem dX10_isCompass_6 : fnD cX10_isCompass 6 (.ireturn) 1 7 := by decide +kernel
theorem dX10_isHeading_0 : fnD cX10_isHeading 0 (.iload_n 0) 1 1 := by decide +kernel
theorem dX10_isHeading_1 : fnD cX10_isHeading 1 (.iconst 0) 1 2 := by decide +kernel
theorem dX10_isHeading_2 : fnD cX10_isHeading 2 (.bipush 31) 2 4 := by decide +kernel
theorem dX10_isHeading_4 : fnD cX10_isHeading 4 (.invokestatic 106) 3 7 := by decide +kernel
theorem dX10_isHeading_7 : fnD cX10_isHeading 7 (.ireturn) 1 8 := by decide +kernel
theorem dX10_isPart_0 : fnD cX10_isPart 0 (.iload_n 0) 1 1 := by decide +kernel
theorem dX10_isPart_1 : fnD cX10_isPart 1 (.iconst 0) 1 2 := by decide +kernel
theorem dX10_isPart_2 : fnD cX10_isPart 2 (.iconst 5) 1 3 := by decide +kernel
theorem dX10_isPart_3 : fnD cX10_isPart 3 (.invokestatic 106) 3 6 := by decide +kernel
theorem dX10_isPart_6 : fnD cX10_isPart 6 (.ireturn) 1 7 := by decide +kernel
theorem dX10_isReading_0 : fnD cX10_isReading 0 (.iload_n 0) 1 1 := by decide +kernel
theorem dX10_isReading_1 : fnD cX10_isReading 1 (.iconst 0) 1 2 := by decide +kernel
theorem dX10_isReading_2 : fnD cX10_isReading 2 (.sipush 3199) 3 5 := by decide +kernel
theorem dX10_isReading_5 : fnD cX10_isReading 5 (.invokestatic 106) 3 8 := by decide +kernel
theorem dX10_isReading_8 : fnD cX10_isReading 8 (.ireturn) 1 9 := by decide +kernel
theorem dX10_isHeel_0 : fnD cX10_isHeel 0 (.iload_n 0) 1 1 := by decide +kernel
theorem dX10_isHeel_1 : fnD cX10_isHeel 1 (.bipush (-30)) 2 3 := by decide +kernel
theorem dX10_isHeel_3 : fnD cX10_isHeel 3 (.bipush 30) 2 5 := by decide +kernel
theorem dX10_isHeel_5 : fnD cX10_isHeel 5 (.invokestatic 106) 3 8 := by decide +kernel
theorem dX10_isHeel_8 : fnD cX10_isHeel 8 (.ireturn) 1 9 := by decide +kernel
theorem dX10_isBar_0 : fnD cX10_isBar 0 (.iload_n 0) 1 1 := by decide +kernel
theorem dX10_isBar_1 : fnD cX10_isBar 1 (.iconst 0) 1 2 := by decide +kernel
theorem dX10_isBar_2 : fnD cX10_isBar 2 (.iconst 5) 1 3 := by decide +kernel
theorem dX10_isBar_3 : fnD cX10_isBar 3 (.invokestatic 106) 3 6 := by decide +kernel
theorem dX10_isBar_6 : fnD cX10_isBar 6 (.ireturn) 1 7 := by decide +kernel
theorem dX10_isBall_0 : fnD cX10_isBall 0 (.iload_n 0) 1 1 := by decide +kernel
theorem dX10_isBall_1 : fnD cX10_isBall 1 (.iconst 0) 1 2 := by decide +kernel
theorem dX10_isBall_2 : fnD cX10_isBall 2 (.iconst 3) 1 3 := by decide +kernel
theorem dX10_isBall_3 : fnD cX10_isBall 3 (.invokestatic 106) 3 6 := by decide +kernel
theorem dX10_isBall_6 : fnD cX10_isBall 6 (.ireturn) 1 7 := by decide +kernel
theorem dX10_isPlace_0 : fnD cX10_isPlace 0 (.iload_n 0) 1 1 := by decide +kernel
theorem dX10_isPlace_1 : fnD cX10_isPlace 1 (.iconst 0) 1 2 := by decide +kernel
theorem dX10_isPlace_2 : fnD cX10_isPlace 2 (.bipush 7) 2 4 := by decide +kernel
theorem dX10_isPlace_4 : fnD cX10_isPlace 4 (.invokestatic 106) 3 7 := by decide +kernel
theorem dX10_isPlace_7 : fnD cX10_isPlace 7 (.ireturn) 1 8 := by decide +kernel
theorem dX10_isDay_0 : fnD cX10_isDay 0 (.iload_n 0) 1 1 := by decide +kernel
theorem dX10_isDay_1 : fnD cX10_isDay 1 (.iconst 0) 1 2 := by decide +kernel
theorem dX10_isDay_2 : fnD cX10_isDay 2 (.sipush 999) 3 5 := by decide +kernel
theorem dX10_isDay_5 : fnD cX10_isDay 5 (.invokestatic 106) 3 8 := by decide +kernel
theorem dX10_isDay_8 : fnD cX10_isDay 8 (.ireturn) 1 9 := by decide +kernel
theorem dX10_isLeg_0 : fnD cX10_isLeg 0 (.iload_n 1) 1 1 := by decide +kernel
theorem dX10_isLeg_1 : fnD cX10_isLeg 1 (.iconst 0) 1 2 := by decide +kernel
theorem dX10_isLeg_2 : fnD cX10_isLeg 2 (.aload_n 0) 1 3 := by decide +kernel
theorem dX10_isLeg_3 : fnD cX10_isLeg 3 (.getfield 52) 3 6 := by decide +kernel
theorem dX10_isLeg_6 : fnD cX10_isLeg 6 (.getfield 283) 3 9 := by decide +kernel
theorem dX10_isLeg_9 : fnD cX10_isLeg 9 (.iconst 1) 1 10 := by decide +kernel
theorem dX10_isLeg_10 : fnD cX10_isLeg 10 (.isub) 1 11 := by decide +kernel
theorem dX10_isLeg_11 : fnD cX10_isLeg 11 (.invokestatic 106) 3 14 := by decide +kernel
theorem dX10_isLeg_14 : fnD cX10_isLeg 14 (.ireturn) 1 15 := by decide +kernel
theorem dX10_drawnTrue_0 : fnD cX10_drawnTrue 0 (.iload_n 1) 1 1 := by decide +kernel
theorem dX10_drawnTrue_1 : fnD cX10_drawnTrue 1 (.bipush 100) 2 3 := by decide +kernel
theorem dX10_drawnTrue_3 : fnD cX10_drawnTrue 3 (.idiv) 1 4 := by decide +kernel
theorem dX10_drawnTrue_4 : fnD cX10_drawnTrue 4 (.istore_n 2) 1 5 := by decide +kernel
theorem dX10_drawnTrue_5 : fnD cX10_drawnTrue 5 (.aload_n 0) 1 6 := by decide +kernel
theorem dX10_drawnTrue_6 : fnD cX10_drawnTrue 6 (.getfield 75) 3 9 := by decide +kernel
theorem dX10_drawnTrue_9 : fnD cX10_drawnTrue 9 (.iload_n 2) 1 10 := by decide +kernel
theorem dX10_drawnTrue_10 : fnD cX10_drawnTrue 10 (.iaload) 1 11 := by decide +kernel
theorem dX10_drawnTrue_11 : fnD cX10_drawnTrue 11 (.aload_n 0) 1 12 := by decide +kernel
theorem dX10_drawnTrue_12 : fnD cX10_drawnTrue 12 (.getfield 75) 3 15 := by decide +kernel
theorem dX10_drawnTrue_15 : fnD cX10_drawnTrue 15 (.iload_n 2) 1 16 := by decide +kernel
theorem dX10_drawnTrue_16 : fnD cX10_drawnTrue 16 (.iconst 1) 1 17 := by decide +kernel
theorem dX10_drawnTrue_17 : fnD cX10_drawnTrue 17 (.iadd) 1 18 := by decide +kernel
theorem dX10_drawnTrue_18 : fnD cX10_drawnTrue 18 (.bipush 32) 2 20 := by decide +kernel
theorem dX10_drawnTrue_20 : fnD cX10_drawnTrue 20 (.irem) 1 21 := by decide +kernel
theorem dX10_drawnTrue_21 : fnD cX10_drawnTrue 21 (.iaload) 1 22 := by decide +kernel
theorem dX10_drawnTrue_22 : fnD cX10_drawnTrue 22 (.iload_n 1) 1 23 := by decide +kernel
theorem dX10_drawnTrue_23 : fnD cX10_drawnTrue 23 (.bipush 100) 2 25 := by decide +kernel
theorem dX10_drawnTrue_25 : fnD cX10_drawnTrue 25 (.irem) 1 26 := by decide +kernel
theorem dX10_drawnTrue_26 : fnD cX10_drawnTrue 26 (.invokestatic 370) 3 29 := by decide +kernel
theorem dX10_drawnTrue_29 : fnD cX10_drawnTrue 29 (.istore_n 3) 1 30 := by decide +kernel
theorem dX10_drawnTrue_30 : fnD cX10_drawnTrue 30 (.iload_n 1) 1 31 := by decide +kernel
theorem dX10_drawnTrue_31 : fnD cX10_drawnTrue 31 (.iload_n 3) 1 32 := by decide +kernel
theorem dX10_drawnTrue_32 : fnD cX10_drawnTrue 32 (.iadd) 1 33 := by decide +kernel
theorem dX10_drawnTrue_33 : fnD cX10_drawnTrue 33 (.sipush 3200) 3 36 := by decide +kernel
theorem dX10_drawnTrue_36 : fnD cX10_drawnTrue 36 (.invokestatic 318) 3 39 := by decide +kernel
theorem dX10_drawnTrue_39 : fnD cX10_drawnTrue 39 (.ireturn) 1 40 := by decide +kernel
theorem dX10_residueOn_0 : fnD cX10_residueOn 0 (.aload_n 0) 1 1 := by decide +kernel
theorem dX10_residueOn_1 : fnD cX10_residueOn 1 (.getfield 17) 3 4 := by decide +kernel
theorem dX10_residueOn_4 : fnD cX10_residueOn 4 (.iload_n 1) 1 5 := by decide +kernel
theorem dX10_residueOn_5 : fnD cX10_residueOn 5 (.aaload) 1 6 := by decide +kernel
theorem dX10_residueOn_6 : fnD cX10_residueOn 6 (.getfield 374) 3 9 := by decide +kernel
theorem dX10_residueOn_9 : fnD cX10_residueOn 9 (.iload_n 2) 1 10 := by decide +kernel
theorem dX10_residueOn_10 : fnD cX10_residueOn 10 (.iaload) 1 11 := by decide +kernel
theorem dX10_residueOn_11 : fnD cX10_residueOn 11 (.aload_n 0) 1 12 := by decide +kernel
theorem dX10_residueOn_12 : fnD cX10_residueOn 12 (.getfield 11) 3 15 := by decide +kernel
theorem dX10_residueOn_15 : fnD cX10_residueOn 15 (.iload_n 1) 1 16 := by decide +kernel
theorem dX10_residueOn_16 : fnD cX10_residueOn 16 (.aaload) 1 17 := by decide +kernel
theorem dX10_residueOn_17 : fnD cX10_residueOn 17 (.iload_n 2) 1 18 := by decide +kernel
theorem dX10_residueOn_18 : fnD cX10_residueOn 18 (.iconst 0) 1 19 := by decide +kernel
theorem dX10_residueOn_19 : fnD cX10_residueOn 19 (.invokevirtual 119) 3 22 := by decide +kernel
theorem dX10_residueOn_22 : fnD cX10_residueOn 22 (.isub) 1 23 := by decide +kernel
theorem dX10_residueOn_23 : fnD cX10_residueOn 23 (.ireturn) 1 24 := by decide +kernel
theorem dX10_leftCard_0 : fnD cX10_leftCard 0 (.aload_n 0) 1 1 := by decide +kernel
theorem dX10_leftCard_1 : fnD cX10_leftCard 1 (.getfield 71) 3 4 := by decide +kernel
theorem dX10_leftCard_4 : fnD cX10_leftCard 4 (.aload_n 0) 1 5 := by decide +kernel
theorem dX10_leftCard_5 : fnD cX10_leftCard 5 (.getfield 11) 3 8 := by decide +kernel
theorem dX10_leftCard_8 : fnD cX10_leftCard 8 (.iconst 0) 1 9 := by decide +kernel
theorem dX10_leftCard_9 : fnD cX10_leftCard 9 (.aaload) 1 10 := by decide +kernel
theorem dX10_leftCard_10 : fnD cX10_leftCard 10 (.invokevirtual 267) 3 13 := by decide +kernel
theorem dX10_leftCard_13 : fnD cX10_leftCard 13 (.aload_n 0) 1 14 := by decide +kernel
theorem dX10_leftCard_14 : fnD cX10_leftCard 14 (.getfield 71) 3 17 := by decide +kernel
theorem dX10_leftCard_17 : fnD cX10_leftCard 17 (.getfield 110) 3 20 := by decide +kernel
theorem dX10_leftCard_20 : fnD cX10_leftCard 20 (.iconst 1) 1 21 := by decide +kernel
theorem dX10_leftCard_21 : fnD cX10_leftCard 21 (.dup2) 1 22 := by decide +kernel
theorem dX10_leftCard_22 : fnD cX10_leftCard 22 (.iaload) 1 23 := by decide +kernel
theorem dX10_leftCard_23 : fnD cX10_leftCard 23 (.aload_n 0) 1 24 := by decide +kernel
theorem dX10_leftCard_24 : fnD cX10_leftCard 24 (.getfield 24) 3 27 := by decide +kernel
theorem dX10_leftCard_27 : fnD cX10_leftCard 27 (.iconst 0) 1 28 := by decide +kernel
theorem dX10_leftCard_28 : fnD cX10_leftCard 28 (.invokevirtual 377) 3 31 := by decide +kernel
theorem dX10_leftCard_31 : fnD cX10_leftCard 31 (.isub) 1 32 := by decide +kernel
theorem dX10_leftCard_32 : fnD cX10_leftCard 32 (.iastore) 1 33 := by decide +kernel
theorem dX10_leftCard_33 : fnD cX10_leftCard 33 (.aload_n 0) 1 34 := by decide +kernel
theorem dX10_leftCard_34 : fnD cX10_leftCard 34 (.getfield 71) 3 37 := by decide +kernel
theorem dX10_leftCard_37 : fnD cX10_leftCard 37 (.getfield 110) 3 40 := by decide +kernel
theorem dX10_leftCard_40 : fnD cX10_leftCard 40 (.iconst 2) 1 41 := by decide +kernel
theorem dX10_leftCard_41 : fnD cX10_leftCard 41 (.dup2) 1 42 := by decide +kernel
theorem dX10_leftCard_42 : fnD cX10_leftCard 42 (.iaload) 1 43 := by decide +kernel
theorem dX10_leftCard_43 : fnD cX10_leftCard 43 (.aload_n 0) 1 44 := by decide +kernel
theorem dX10_leftCard_44 : fnD cX10_leftCard 44 (.getfield 24) 3 47 := by decide +kernel
theorem dX10_leftCard_47 : fnD cX10_leftCard 47 (.iconst 1) 1 48 := by decide +kernel
theorem dX10_leftCard_48 : fnD cX10_leftCard 48 (.invokevirtual 377) 3 51 := by decide +kernel
theorem dX10_leftCard_51 : fnD cX10_leftCard 51 (.isub) 1 52 := by decide +kernel
theorem dX10_leftCard_52 : fnD cX10_leftCard 52 (.iastore) 1 53 := by decide +kernel
theorem dX10_leftCard_53 : fnD cX10_leftCard 53 (.aload_n 0) 1 54 := by decide +kernel
theorem dX10_leftCard_54 : fnD cX10_leftCard 54 (.getfield 71) 3 57 := by decide +kernel
theorem dX10_leftCard_57 : fnD cX10_leftCard 57 (.getfield 110) 3 60 := by decide +kernel
theorem dX10_leftCard_60 : fnD cX10_leftCard 60 (.iconst 3) 1 61 := by decide +kernel
theorem dX10_leftCard_61 : fnD cX10_leftCard 61 (.dup2) 1 62 := by decide +kernel
theorem dX10_leftCard_62 : fnD cX10_leftCard 62 (.iaload) 1 63 := by decide +kernel
theorem dX10_leftCard_63 : fnD cX10_leftCard 63 (.aload_n 0) 1 64 := by decide +kernel
theorem dX10_leftCard_64 : fnD cX10_leftCard 64 (.getfield 24) 3 67 := by decide +kernel
theorem dX10_leftCard_67 : fnD cX10_leftCard 67 (.invokevirtual 380) 3 70 := by decide +kernel
theorem dX10_leftCard_70 : fnD cX10_leftCard 70 (.isub) 1 71 := by decide +kernel
theorem dX10_leftCard_71 : fnD cX10_leftCard 71 (.iastore) 1 72 := by decide +kernel
theorem dX10_leftCard_72 : fnD cX10_leftCard 72 (.aload_n 0) 1 73 := by decide +kernel
theorem dX10_leftCard_73 : fnD cX10_leftCard 73 (.getfield 71) 3 76 := by decide +kernel
theorem dX10_leftCard_76 : fnD cX10_leftCard 76 (.areturn) 1 77 := by decide +kernel
theorem dX10_cardOfDay_0 : fnD cX10_cardOfDay 0 (.aload_n 0) 1 1 := by decide +kernel
theorem dX10_cardOfDay_1 : fnD cX10_cardOfDay 1 (.getfield 71) 3 4 := by decide +kernel
theorem dX10_cardOfDay_4 : fnD cX10_cardOfDay 4 (.aload_n 0) 1 5 := by decide +kernel
theorem dX10_cardOfDay_5 : fnD cX10_cardOfDay 5 (.getfield 11) 3 8 := by decide +kernel
theorem dX10_cardOfDay_8 : fnD cX10_cardOfDay 8 (.iconst 0) 1 9 := by decide +kernel
theorem dX10_cardOfDay_9 : fnD cX10_cardOfDay 9 (.aaload) 1 10 := by decide +kernel
theorem dX10_cardOfDay_10 : fnD cX10_cardOfDay 10 (.invokevirtual 267) 3 13 := by decide +kernel
theorem dX10_cardOfDay_13 : fnD cX10_cardOfDay 13 (.aload_n 0) 1 14 := by decide +kernel
theorem dX10_cardOfDay_14 : fnD cX10_cardOfDay 14 (.getfield 45) 3 17 := by decide +kernel
theorem dX10_cardOfDay_17 : fnD cX10_cardOfDay 17 (.aload_n 0) 1 18 := by decide +kernel
theorem dX10_cardOfDay_18 : fnD cX10_cardOfDay 18 (.getfield 71) 3 21 := by decide +kernel
theorem dX10_cardOfDay_21 : fnD cX10_cardOfDay 21 (.iload_n 1) 1 22 := by decide +kernel
theorem dX10_cardOfDay_22 : fnD cX10_cardOfDay 22 (.invokevirtual 383) 3 25 := by decide +kernel
theorem dX10_cardOfDay_25 : fnD cX10_cardOfDay 25 (.aload_n 0) 1 26 := by decide +kernel
theorem dX10_cardOfDay_26 : fnD cX10_cardOfDay 26 (.getfield 71) 3 29 := by decide +kernel
theorem dX10_cardOfDay_29 : fnD cX10_cardOfDay 29 (.areturn) 1 30 := by decide +kernel
theorem dX10_courseOf_0 : fnD cX10_courseOf 0 (.aload_n 0) 1 1 := by decide +kernel
theorem dX10_courseOf_1 : fnD cX10_courseOf 1 (.aload_n 0) 1 2 := by decide +kernel
theorem dX10_courseOf_2 : fnD cX10_courseOf 2 (.getfield 52) 3 5 := by decide +kernel
theorem dX10_courseOf_5 : fnD cX10_courseOf 5 (.getfield 291) 3 8 := by decide +kernel
theorem dX10_courseOf_8 : fnD cX10_courseOf 8 (.iload_n 1) 1 9 := by decide +kernel
theorem dX10_courseOf_9 : fnD cX10_courseOf 9 (.iaload) 1 10 := by decide +kernel
theorem dX10_courseOf_10 : fnD cX10_courseOf 10 (.invokevirtual 276) 3 13 := by decide +kernel
theorem dX10_courseOf_13 : fnD cX10_courseOf 13 (.aload_n 0) 1 14 := by decide +kernel
theorem dX10_courseOf_14 : fnD cX10_courseOf 14 (.getfield 52) 3 17 := by decide +kernel
theorem dX10_courseOf_17 : fnD cX10_courseOf 17 (.getfield 294) 3 20 := by decide +kernel
theorem dX10_courseOf_20 : fnD cX10_courseOf 20 (.iload_n 1) 1 21 := by decide +kernel
theorem dX10_courseOf_21 : fnD cX10_courseOf 21 (.iaload) 1 22 := by decide +kernel
theorem dX10_courseOf_22 : fnD cX10_courseOf 22 (.aload_n 0) 1 23 := by decide +kernel
theorem dX10_courseOf_23 : fnD cX10_courseOf 23 (.getfield 52) 3 26 := by decide +kernel
theorem dX10_courseOf_26 : fnD cX10_courseOf 26 (.getfield 297) 3 29 := by decide +kernel
theorem dX10_courseOf_29 : fnD cX10_courseOf 29 (.iload_n 1) 1 30 := by decide +kernel
theorem dX10_courseOf_30 : fnD cX10_courseOf 30 (.iaload) 1 31 := by decide +kernel
theorem dX10_courseOf_31 : fnD cX10_courseOf 31 (.invokevirtual 125) 3 34 := by decide +kernel
theorem dX10_courseOf_34 : fnD cX10_courseOf 34 (.ireturn) 1 35 := by decide +kernel
theorem dX10_trueByOther_0 : fnD cX10_trueByOther 0 (.aload_n 0) 1 1 := by decide +kernel
theorem dX10_trueByOther_1 : fnD cX10_trueByOther 1 (.getfield 11) 3 4 := by decide +kernel
theorem dX10_trueByOther_4 : fnD cX10_trueByOther 4 (.iconst 1) 1 5 := by decide +kernel
theorem dX10_trueByOther_5 : fnD cX10_trueByOther 5 (.aaload) 1 6 := by decide +kernel
theorem dX10_trueByOther_6 : fnD cX10_trueByOther 6 (.aload_n 0) 1 7 := by decide +kernel
theorem dX10_trueByOther_7 : fnD cX10_trueByOther 7 (.getfield 52) 3 10 := by decide +kernel
theorem dX10_trueByOther_10 : fnD cX10_trueByOther 10 (.getfield 303) 3 13 := by decide +kernel
theorem dX10_trueByOther_13 : fnD cX10_trueByOther 13 (.iload_n 1) 1 14 := by decide +kernel
theorem dX10_trueByOther_14 : fnD cX10_trueByOther 14 (.iaload) 1 15 := by decide +kernel
theorem dX10_trueByOther_15 : fnD cX10_trueByOther 15 (.aload_n 0) 1 16 := by decide +kernel
theorem dX10_trueByOther_16 : fnD cX10_trueByOther 16 (.getfield 52) 3 19 := by decide +kernel
theorem dX10_trueByOther_19 : fnD cX10_trueByOther 19 (.getfield 297) 3 22 := by decide +kernel
theorem dX10_trueByOther_22 : fnD cX10_trueByOther 22 (.iload_n 1) 1 23 := by decide +kernel
theorem dX10_trueByOther_23 : fnD cX10_trueByOther 23 (.iaload) 1 24 := by decide +kernel
theorem dX10_trueByOther_24 : fnD cX10_trueByOther 24 (.invokevirtual 125) 3 27 := by decide +kernel
theorem dX10_trueByOther_27 : fnD cX10_trueByOther 27 (.ireturn) 1 28 := by decide +kernel
theorem dX10_waysApart_0 : fnD cX10_waysApart 0 (.aload_n 0) 1 1 := by decide +kernel
theorem dX10_waysApart_1 : fnD cX10_waysApart 1 (.iload_n 1) 1 2 := by decide +kernel
theorem dX10_waysApart_2 : fnD cX10_waysApart 2 (.invokevirtual 309) 3 5 := by decide +kernel
theorem dX10_waysApart_5 : fnD cX10_waysApart 5 (.aload_n 0) 1 6 := by decide +kernel
theorem dX10_waysApart_6 : fnD cX10_waysApart 6 (.iload_n 1) 1 7 := by decide +kernel
theorem dX10_waysApart_7 : fnD cX10_waysApart 7 (.invokevirtual 341) 3 10 := by decide +kernel
theorem dX10_waysApart_10 : fnD cX10_waysApart 10 (.invokestatic 96) 3 13 := by decide +kernel
theorem dX10_waysApart_13 : fnD cX10_waysApart 13 (.ireturn) 1 14 := by decide +kernel
theorem dX10_sunRestOf_0 : fnD cX10_sunRestOf 0 (.aload_n 0) 1 1 := by decide +kernel
theorem dX10_sunRestOf_1 : fnD cX10_sunRestOf 1 (.aload_n 0) 1 2 := by decide +kernel
theorem dX10_sunRestOf_2 : fnD cX10_sunRestOf 2 (.getfield 52) 3 5 := by decide +kernel
theorem dX10_sunRestOf_5 : fnD cX10_sunRestOf 5 (.getfield 291) 3 8 := by decide +kernel
theorem dX10_sunRestOf_8 : fnD cX10_sunRestOf 8 (.iload_n 1) 1 9 := by decide +kernel
theorem dX10_sunRestOf_9 : fnD cX10_sunRestOf 9 (.iaload) 1 10 := by decide +kernel
theorem dX10_sunRestOf_10 : fnD cX10_sunRestOf 10 (.invokevirtual 276) 3 13 := by decide +kernel
theorem dX10_sunRestOf_13 : fnD cX10_sunRestOf 13 (.astore_n 2) 1 14 := by decide +kernel
theorem dX10_sunRestOf_14 : fnD cX10_sunRestOf 14 (.aload_n 0) 1 15 := by decide +kernel
theorem dX10_sunRestOf_15 : fnD cX10_sunRestOf 15 (.getfield 52) 3 18 := by decide +kernel
theorem dX10_sunRestOf_18 : fnD cX10_sunRestOf 18 (.getfield 306) 3 21 := by decide +kernel
theorem dX10_sunRestOf_21 : fnD cX10_sunRestOf 21 (.iload_n 1) 1 22 := by decide +kernel
theorem dX10_sunRestOf_22 : fnD cX10_sunRestOf 22 (.iaload) 1 23 := by decide +kernel
theorem dX10_sunRestOf_23 : fnD cX10_sunRestOf 23 (.aload_n 2) 1 24 := by decide +kernel
theorem dX10_sunRestOf_24 : fnD cX10_sunRestOf 24 (.aload_n 0) 1 25 := by decide +kernel
theorem dX10_sunRestOf_25 : fnD cX10_sunRestOf 25 (.getfield 52) 3 28 := by decide +kernel
theorem dX10_sunRestOf_28 : fnD cX10_sunRestOf 28 (.getfield 294) 3 31 := by decide +kernel
theorem dX10_sunRestOf_31 : fnD cX10_sunRestOf 31 (.iload_n 1) 1 32 := by decide +kernel
theorem dX10_sunRestOf_32 : fnD cX10_sunRestOf 32 (.iaload) 1 33 := by decide +kernel
theorem dX10_sunRestOf_33 : fnD cX10_sunRestOf 33 (.aload_n 0) 1 34 := by decide +kernel
theorem dX10_sunRestOf_34 : fnD cX10_sunRestOf 34 (.getfield 52) 3 37 := by decide +kernel
theorem dX10_sunRestOf_37 : fnD cX10_sunRestOf 37 (.getfield 297) 3 40 := by decide +kernel
theorem dX10_sunRestOf_40 : fnD cX10_sunRestOf 40 (.iload_n 1) 1 41 := by decide +kernel
theorem dX10_sunRestOf_41 : fnD cX10_sunRestOf 41 (.iaload) 1 42 := by decide +kernel
theorem dX10_sunRestOf_42 : fnD cX10_sunRestOf 42 (.invokevirtual 122) 3 45 := by decide +kernel
theorem dX10_sunRestOf_45 : fnD cX10_sunRestOf 45 (.isub) 1 46 := by decide +kernel
theorem dX10_sunRestOf_46 : fnD cX10_sunRestOf 46 (.ireturn) 1 47 := by decide +kernel
theorem dX10_findSplit_0 : fnD cX10_findSplit 0 (.aload_n 0) 1 1 := by decide +kernel
theorem dX10_findSplit_1 : fnD cX10_findSplit 1 (.getfield 59) 3 4 := by decide +kernel
theorem dX10_findSplit_4 : fnD cX10_findSplit 4 (.iconst 0) 1 5 := by decide +kernel
theorem dX10_findSplit_5 : fnD cX10_findSplit 5 (.putfield 324) 3 8 := by decide +kernel
theorem dX10_findSplit_8 : fnD cX10_findSplit 8 (.iconst 0) 1 9 := by decide +kernel
theorem dX10_findSplit_9 : fnD cX10_findSplit 9 (.istore_n 1) 1 10 := by decide +kernel
theorem dX10_findSplit_10 : fnD cX10_findSplit 10 (.iload_n 1) 1 11 := by decide +kernel
theorem dX10_findSplit_11 : fnD cX10_findSplit 11 (.aload_n 0) 1 12 := by decide +kernel
theorem dX10_findSplit_12 : fnD cX10_findSplit 12 (.getfield 52) 3 15 := by decide +kernel
theorem dX10_findSplit_15 : fnD cX10_findSplit 15 (.getfield 283) 3 18 := by decide +kernel
theorem dX10_findSplit_18 : fnIc cX10_findSplit 18 .ge 55 21 := by decide +kernel
theorem dX10_findSplit_21 : fnD cX10_findSplit 21 (.aload_n 0) 1 22 := by decide +kernel
theorem dX10_findSplit_22 : fnD cX10_findSplit 22 (.getfield 52) 3 25 := by decide +kernel
theorem dX10_findSplit_25 : fnD cX10_findSplit 25 (.getfield 306) 3 28 := by decide +kernel
theorem dX10_findSplit_28 : fnD cX10_findSplit 28 (.iload_n 1) 1 29 := by decide +kernel
theorem dX10_findSplit_29 : fnD cX10_findSplit 29 (.iaload) 1 30 := by decide +kernel
theorem dX10_findSplit_30 : fnD cX10_findSplit 30 (.sipush (-2009)) 3 33 := by decide +kernel
theorem dX10_findSplit_33 : fnIc cX10_findSplit 33 .eq 49 36 := by decide +kernel
theorem dX10_findSplit_36 : fnD cX10_findSplit 36 (.aload_n 0) 1 37 := by decide +kernel
theorem dX10_findSplit_37 : fnD cX10_findSplit 37 (.getfield 59) 3 40 := by decide +kernel
theorem dX10_findSplit_40 : fnD cX10_findSplit 40 (.iload_n 1) 1 41 := by decide +kernel
theorem dX10_findSplit_41 : fnD cX10_findSplit 41 (.aload_n 0) 1 42 := by decide +kernel
theorem dX10_findSplit_42 : fnD cX10_findSplit 42 (.iload_n 1) 1 43 := by decide +kernel
theorem dX10_findSplit_43 : fnD cX10_findSplit 43 (.invokevirtual 312) 3 46 := by decide +kernel
theorem dX10_findSplit_46 : fnD cX10_findSplit 46 (.invokevirtual 387) 3 49 := by decide +kernel
theorem dX10_findSplit_49 : fnD cX10_findSplit 49 (.iinc 1 1) 3 52 := by decide +kernel
theorem dX10_findSplit_52 : fnGo cX10_findSplit 52 10 := by decide +kernel
theorem dX10_findSplit_55 : fnD cX10_findSplit 55 (.aload_n 0) 1 56 := by decide +kernel
theorem dX10_findSplit_56 : fnD cX10_findSplit 56 (.getfield 59) 3 59 := by decide +kernel
theorem dX10_findSplit_59 : fnD cX10_findSplit 59 (.invokevirtual 389) 3 62 := by decide +kernel
theorem dX10_findSplit_62 : fnD cX10_findSplit 62 (.return_) 1 63 := by decide +kernel
end
section
theorem dX11_init_0 : fnD cX11_init 0 (.aload_n 0) 1 1 := by decide +kernel
theorem dX11_init_1 : fnD cX11_init 1 (.invokespecial 1) 3 4 := by decide +kernel
theorem dX11_init_4 : fnD cX11_init 4 (.aload_n 0) 1 5 := by decide +kernel
theorem dX11_init_5 : fnD cX11_init 5 (.bipush 18) 2 7 := by decide +kernel
theorem dX11_init_7 : fnD cX11_init 7 (.newarray .int) 2 9 := by decide +kernel
theorem dX11_init_9 : fnD cX11_init 9 (.putfield 7) 3 12 := by decide +kernel
theorem dX11_init_12 : fnD cX11_init 12 (.aload_n 0) 1 13 := by decide +kernel
theorem dX11_init_13 : fnD cX11_init 13 (.bipush 96) 2 15 := by decide +kernel
theorem dX11_init_15 : fnD cX11_init 15 (.newarray .int) 2 17 := by decide +kernel
theorem dX11_init_17 : fnD cX11_init 17 (.putfield 13) 3 20 := by decide +kernel
theorem dX11_init_20 : fnD cX11_init 20 (.aload_n 0) 1 21 := by decide +kernel
theorem dX11_init_21 : fnD cX11_init 21 (.bipush 6) 2 23 := by decide +kernel
theorem dX11_init_23 : fnD cX11_init 23 (.newarray .int) 2 25 := by decide +kernel
theorem dX11_init_25 : fnD cX11_init 25 (.putfield 16) 3 28 := by decide +kernel
theorem dX11_init_28 : fnD cX11_init 28 (.aload_n 0) 1 29 := by decide +kernel
theorem dX11_init_29 : fnD cX11_init 29 (.bipush 6) 2 31 := by decide +kernel
theorem dX11_init_31 : fnD cX11_init 31 (.newarray .int) 2 33 := by decide +kernel
theorem dX11_init_33 : fnD cX11_init 33 (.putfield 19) 3 36 := by decide +kernel
theorem dX11_init_36 : fnD cX11_init 36 (.aload_n 0) 1 37 := by decide +kernel
theorem dX11_init_37 : fnD cX11_init 37 (.bipush 6) 2 39 := by decide +kernel
theorem dX11_init_39 : fnD cX11_init 39 (.newarray .int) 2 41 := by decide +kernel
theorem dX11_init_41 : fnD cX11_init 41 (.putfield 22) 3 44 := by decide +kernel
theorem dX11_init_44 : fnD cX11_init 44 (.aload_n 0) 1 45 := by decide +kernel
theorem dX11_init_45 : fnD cX11_init 45 (.bipush 6) 2 47 := by decide +kernel
theorem dX11_init_47 : fnD cX11_init 47 (.newarray .boolean) 2 49 := by decide +kernel
theorem dX11_init_49 : fnD cX11_init 49 (.putfield 25) 3 52 := by decide +kernel
theorem dX11_init_52 : fnD cX11_init 52 (.aload_n 0) 1 53 := by decide +kernel
theorem dX11_init_53 : fnD cX11_init 53 (.iconst 4) 1 54 := by decide +kernel
theorem dX11_init_54 : fnD cX11_init 54 (.newarray .int) 2 56 := by decide +kernel
theorem dX11_init_56 : fnD cX11_init 56 (.putfield 29) 3 59 := by decide +kernel
theorem dX11_init_59 : fnD cX11_init 59 (.aload_n 0) 1 60 := by decide +kernel
theorem dX11_init_60 : fnD cX11_init 60 (.sipush (-2009)) 3 63 := by decide +kernel
theorem dX11_init_63 : fnD cX11_init 63 (.putfield 32) 3 66 := by decide +kernel
theorem dX11_init_66 : fnD cX11_init 66 (.aload_n 0) 1 67 := by decide +kernel
theorem dX11_init_67 : fnD cX11_init 67 (.bipush 8) 2 69 := by decide +kernel
theorem dX11_init_69 : fnD cX11_init 69 (.newarray .int) 2 71 := by decide +kernel
theorem dX11_init_71 : fnD cX11_init 71 (.putfield 36) 3 74 := by decide +kernel
theorem dX11_init_74 : fnD cX11_init 74 (.aload_n 0) 1 75 := by decide +kernel
theorem dX11_init_75 : fnD cX11_init 75 (.bipush 8) 2 77 := by decide +kernel
theorem dX11_init_77 : fnD cX11_init 77 (.newarray .int) 2 79 := by decide +kernel
theorem dX11_init_79 : fnD cX11_init 79 (.putfield 39) 3 82 := by decide +kernel
theorem dX11_init_82 : fnD cX11_init 82 (.aload_n 0) 1 83 := by decide +kernel
theorem dX11_init_83 : fnD cX11_init 83 (.bipush 24) 2 85 := by decide +kernel
theorem dX11_init_85 : fnD cX11_init 85 (.newarray .boolean) 2 87 := by decide +kernel
theorem dX11_init_87 : fnD cX11_init 87 (.putfield 42) 3 90 := by decide +kernel
theorem dX11_init_90 : fnD cX11_init 90 (.aload_n 0) 1 91 := by decide +kernel
theorem dX11_init_91 : fnD cX11_init 91 (.bipush 24) 2 93 := by decide +kernel
theorem dX11_init_93 : fnD cX11_init 93 (.newarray .int) 2 95 := by decide +kernel
theorem dX11_init_95 : fnD cX11_init 95 (.putfield 45) 3 98 := by decide +kernel
theorem dX11_init_98 : fnD cX11_init 98 (.aload_n 0) 1 99 := by decide +kernel
theorem dX11_init_99 : fnD cX11_init 99 (.bipush 24) 2 101 := by decide +kernel
theorem dX11_init_101 : fnD cX11_init 101 (.newarray .int) 2 103 := by decide +kernel
theorem dX11_init_103 : fnD cX11_init 103 (.putfield 48) 3 106 := by decide +kernel
theorem dX11_init_106 : fnD cX11_init 106 (.aload_n 0) 1 107 := by decide +kernel
theorem dX11_init_107 : fnD cX11_init 107 (.bipush 20) 2 109 := by decide +kernel
theorem dX11_init_109 : fnD cX11_init 109 (.newarray .int) 2 111 := by decide +kernel
theorem dX11_init_111 : fnD cX11_init 111 (.putfield 51) 3 114 := by decide +kernel
theorem dX11_init_114 : fnD cX11_init 114 (.aload_n 0) 1 115 := by decide +kernel
theorem dX11_init_115 : fnD cX11_init 115 (.bipush 20) 2 117 := by decide +kernel
theorem dX11_init_117 : fnD cX11_init 117 (.newarray .int) 2 119 := by decide +kernel
theorem dX11_init_119 : fnD cX11_init 119 (.putfield 54) 3 122 := by decide +kernel
theorem dX11_init_122 : fnD cX11_init 122 (.aload_n 0) 1 123 := by decide +kernel
theorem dX11_init_123 : fnD cX11_init 123 (.bipush 20) 2 125 := by decide +kernel
theorem dX11_init_125 : fnD cX11_init 125 (.newarray .int) 2 127 := by decide +kernel
theorem dX11_init_127 : fnD cX11_init 127 (.putfield 57) 3 130 := by decide +kernel
theorem dX11_init_130 : fnD cX11_init 130 (.aload_n 0) 1 131 := by decide +kernel
theorem dX11_init_131 : fnD cX11_init 131 (.bipush 40) 2 133 := by decide +kernel
theorem dX11_init_133 : fnD cX11_init 133 (.newarray .int) 2 135 := by decide +kernel
theorem dX11_init_135 : fnD cX11_init 135 (.putfield 60) 3 138 := by decide +kernel
theorem dX11_init_138 : fnD cX11_init 138 (.aload_n 0) 1 139 := by decide +kernel
theorem dX11_init_139 : fnD cX11_init 139 (.bipush 40) 2 141 := by decide +kernel
theorem dX11_init_141 : fnD cX11_init 141 (.newarray .int) 2 143 := by decide +kernel
theorem dX11_init_143 : fnD cX11_init 143 (.putfield 63) 3 146 := by decide +kernel
theorem dX11_init_146 : fnD cX11_init 146 (.aload_n 0) 1 147 := by decide +kernel
theorem dX11_init_147 : fnD cX11_init 147 (.bipush 40) 2 149 := by decide +kernel
theorem dX11_init_149 : fnD cX11_init 149 (.newarray .int) 2 151 := by decide +kernel
theorem dX11_init_151 : fnD cX11_init 151 (.putfield 66) 3 154 := by decide +kernel
theorem dX11_init_154 : fnD cX11_init 154 (.aload_n 0) 1 155 := by decide +kernel
theorem dX11_init_155 : fnD cX11_init 155 (.bipush 40) 2 157 := by decide +kernel
theorem dX11_init_157 : fnD cX11_init 157 (.newarray .int) 2 159 := by decide +kernel
theorem dX11_init_159 : fnD cX11_init 159 (.putfield 69) 3 162 := by decide +kernel
theorem dX11_init_162 : fnD cX11_init 162 (.aload_n 0) 1 163 := by decide +kernel
theorem dX11_init_163 : fnD cX11_init 163 (.bipush 40) 2 165 := by decide +kernel
theorem dX11_init_165 : fnD cX11_init 165 (.newarray .int) 2 167 := by decide +kernel
theorem dX11_init_167 : fnD cX11_init 167 (.putfield 72) 3 170 := by decide +kernel
theorem dX11_init_170 : fnD cX11_init 170 (.aload_n 0) 1 171 := by decide +kernel
theorem dX11_init_171 : fnD cX11_init 171 (.bipush 40) 2 173 := by decide +kernel
theorem dX11_init_173 : fnD cX11_init 173 (.newarray .int) 2 175 := by decide +kernel
theorem dX11_init_175 : fnD cX11_init 175 (.putfield 75) 3 178 := by decide +kernel
theorem dX11_init_178 : fnD cX11_init 178 (.aload_n 0) 1 179 := by decide +kernel
theorem dX11_init_179 : fnD cX11_init 179 (.bipush 6) 2 181 := by decide +kernel
theorem dX11_init_181 : fnD cX11_init 181 (.newarray .int) 2 183 := by decide +kernel
theorem dX11_init_183 : fnD cX11_init 183 (.putfield 78) 3 186 := by decide +kernel
theorem dX11_init_186 : fnD cX11_init 186 (.aload_n 0) 1 187 := by decide +kernel
theorem dX11_init_187 : fnD cX11_init 187 (.bipush 32) 2 189 := by decide +kernel
theorem dX11_init_189 : fnD cX11_init 189 (.newarray .int) 2 191 := by decide +kernel
theorem dX11_init_191 : fnD cX11_init 191 (.putfield 81) 3 194 := by decide +kernel
theorem dX11_init_194 : fnD cX11_init 194 (.aload_n 0) 1 195 := by decide +kernel
theorem dX11_init_195 : fnD cX11_init 195 (.iconst 3) 1 196 := by decide +kernel
theorem dX11_init_196 : fnD cX11_init 196 (.newarray .int) 2 198 := by decide +kernel
theorem dX11_init_198 : fnD cX11_init 198 (.putfield 84) 3 201 := by decide +kernel
theorem dX11_init_201 : fnD cX11_init 201 (.aload_n 0) 1 202 := by decide +kernel
theorem dX11_init_202 : fnD cX11_init 202 (.bipush 40) 2 204 := by decide +kernel
theorem dX11_init_204 : fnD cX11_init 204 (.newarray .int) 2 206 := by decide +kernel
theorem dX11_init_206 : fnD cX11_init 206 (.putfield 87) 3 209 := by decide +kernel
theorem dX11_init_209 : fnD cX11_init 209 (.aload_n 0) 1 210 := by decide +kernel
theorem dX11_init_210 : fnD cX11_init 210 (.bipush 40) 2 212 := by decide +kernel
theorem dX11_init_212 : fnD cX11_init 212 (.newarray .int) 2 214 := by decide +kernel
theorem dX11_init_214 : fnD cX11_init 214 (.putfield 90) 3 217 := by decide +kernel
theorem dX11_init_217 : fnD cX11_init 217 (.aload_n 0) 1 218 := by decide +kernel
theorem dX11_init_218 : fnD cX11_init 218 (.bipush 40) 2 220 := by decide +kernel
theorem dX11_init_220 : fnD cX11_init 220 (.newarray .int) 2 222 := by decide +kernel
theorem dX11_init_222 : fnD cX11_init 222 (.putfield 93) 3 225 := by decide +kernel
theorem dX11_init_225 : fnD cX11_init 225 (.iconst 0) 1 226 := by decide +kernel
theorem dX11_init_226 : fnD cX11_init 226 (.istore_n 1) 1 227 := by decide +kernel
theorem dX11_init_227 : fnD cX11_init 227 (.iload_n 1) 1 228 := by decide +kernel
theorem dX11_init_228 : fnD cX11_init 228 (.bipush 96) 2 230 := by decide +kernel
theorem dX11_init_230 : fnIc cX11_init 230 .ge 248 233 := by decide +kernel
theorem dX11_init_233 : fnD cX11_init 233 (.aload_n 0) 1 234 := by decide +kernel
theorem dX11_init_234 : fnD cX11_init 234 (.getfield 13) 3 237 := by decide +kernel
theorem dX11_init_237 : fnD cX11_init 237 (.iload_n 1) 1 238 := by decide +kernel
theorem dX11_init_238 : fnD cX11_init 238 (.sipush (-2009)) 3 241 := by decide +kernel
theorem dX11_init_241 : fnD cX11_init 241 (.iastore) 1 242 := by decide +kernel
theorem dX11_init_242 : fnD cX11_init 242 (.iinc 1 1) 3 245 := by decide +kernel
theorem dX11_init_245 : fnGo cX11_init 245 227 := by decide +kernel
theorem dX11_init_248 : fnD cX11_init 248 (.iconst 0) 1 249 := by decide +kernel
theorem dX11_init_249 : fnD cX11_init 249 (.istore_n 1) 1 250 := by decide +kernel
theorem dX11_init_250 : fnD cX11_init 250 (.iload_n 1) 1 251 := by decide +kernel
theorem dX11_init_251 : fnD cX11_init 251 (.bipush 6) 2 253 := by decide +kernel
theorem dX11_init_253 : fnIc cX11_init 253 .ge 271 256 := by decide +kernel
theorem dX11_init_256 : fnD cX11_init 256 (.aload_n 0) 1 257 := by decide +kernel
theorem dX11_init_257 : fnD cX11_init 257 (.getfield 19) 3 260 := by decide +kernel
theorem dX11_init_260 : fnD cX11_init 260 (.iload_n 1) 1 261 := by decide +kernel
theorem dX11_init_261 : fnD cX11_init 261 (.sipush (-2009)) 3 264 := by decide +kernel
theorem dX11_init_264 : fnD cX11_init 264 (.iastore) 1 265 := by decide +kernel
theorem dX11_init_265 : fnD cX11_init 265 (.iinc 1 1) 3 268 := by decide +kernel
theorem dX11_init_268 : fnGo cX11_init 268 250 := by decide +kernel
theorem dX11_init_271 : fnD cX11_init 271 (.iconst 0) 1 272 := by decide +kernel
theorem dX11_init_272 : fnD cX11_init 272 (.istore_n 1) 1 273 := by decide +kernel
theorem dX11_init_273 : fnD cX11_init 273 (.iload_n 1) 1 274 := by decide +kernel
theorem dX11_init_274 : fnD cX11_init 274 (.bipush 8) 2 276 := by decide +kernel
theorem dX11_init_276 : fnIc cX11_init 276 .ge 293 279 := by decide +kernel
theorem dX11_init_279 : fnD cX11_init 279 (.aload_n 0) 1 280 := by decide +kernel
theorem dX11_init_280 : fnD cX11_init 280 (.getfield 36) 3 283 := by decide +kernel
theorem dX11_init_283 : fnD cX11_init 283 (.iload_n 1) 1 284 := by decide +kernel
theorem dX11_init_284 : fnD cX11_init 284 (.bipush 100) 2 286 := by decide +kernel
theorem dX11_init_286 : fnD cX11_init 286 (.iastore) 1 287 := by decide +kernel
theorem dX11_init_287 : fnD cX11_init 287 (.iinc 1 1) 3 290 := by decide +kernel
theorem dX11_init_290 : fnGo cX11_init 290 273 := by decide +kernel
theorem dX11_init_293 : fnD cX11_init 293 (.return_) 1 294 := by decide +kernel
theorem dX11_in_0 : fnD cX11_in 0 (.lload_n 0) 1 1 := by decide +kernel
theorem dX11_in_1 : fnD cX11_in 1 (.lload_n 2) 1 2 := by decide +kernel
theorem dX11_in_2 : fnD cX11_in 2 (.lcmp) 1 3 := by decide +kernel
theorem dX11_in_3 : fnIf cX11_in 3 .lt 17 6 := by decide +kernel
theorem dX11_in_6 : fnD cX11_in 6 (.lload_n 0) 1 7 := by decide +kernel
theorem dX11_in_7 : fnD cX11_in 7 (.lload 4) 2 9 := by decide +kernel
theorem dX11_in_9 : fnD cX11_in 9 (.lcmp) 1 10 := by decide +kernel
theorem dX11_in_10 : fnIf cX11_in 10 .gt 17 13 := by decide +kernel
theorem dX11_in_13 : fnD cX11_in 13 (.iconst 1) 1 14 := by decide +kernel
theorem dX11_in_14 : fnGo cX11_in 14 18 := by decide +kernel
theorem dX11_in_17 : fnD cX11_in 17 (.iconst 0) 1 18 := by decide +kernel
theorem dX11_in_18 : fnD cX11_in 18 (.ireturn) 1 19 := by decide +kernel
theorem dX11_size_0 : fnD cX11_size 0 (.iload_n 0) 1 1 := by decide +kernel
theorem dX11_size_1 : fnIf cX11_size 1 .ge 9 4 := by decide +kernel
theorem dX11_size_4 : fnD cX11_size 4 (.iload_n 0) 1 5 := by decide +kernel
theorem dX11_size_5 : fnD cX11_size 5 (.ineg) 1 6 := by decide +kernel
theorem dX11_size_6 : fnGo cX11_size 6 10 := by decide +kernel
theorem dX11_size_9 : fnD cX11_size 9 (.iload_n 0) 1 10 := by decide +kernel
theorem dX11_size_10 : fnD cX11_size 10 (.ireturn) 1 11 := by decide +kernel
theorem dX11_turned_0 : fnD cX11_turned 0 (.iload_n 0) 1 1 := by decide +kernel
theorem dX11_turned_1 : fnD cX11_turned 1 (.iload_n 1) 1 2 := by decide +kernel
theorem dX11_turned_2 : fnD cX11_turned 2 (.irem) 1 3 := by decide +kernel
theorem dX11_turned_3 : fnD cX11_turned 3 (.istore_n 2) 1 4 := by decide +kernel
theorem dX11_turned_4 : fnD cX11_turned 4 (.iload_n 2) 1 5 := by decide +kernel
theorem dX11_turned_5 : fnIf cX11_turned 5 .ge 14 8 := by decide +kernel
theorem dX11_turned_8 : fnD cX11_turned 8 (.iload_n 2) 1 9 := by decide +kernel
theorem dX11_turned_9 : fnD cX11_turned 9 (.iload_n 1) 1 10 := by decide +kernel
theorem dX11_turned_10 : fnD cX11_turned 10 (.iadd) 1 11 := by decide +kernel
theorem dX11_turned_11 : fnGo cX11_turned 11 15 := by decide +kernel
theorem dX11_turned_14 : fnD cX11_turned 14 (.iload_n 2) 1 15 := by decide +kernel
theorem dX11_turned_15 : fnD cX11_turned 15 (.ireturn) 1 16 := by decide +kernel
theorem dX11_rounded_0 : fnD cX11_rounded 0 (.ldc2_w 99) 3 3 := by decide +kernel
theorem dX11_rounded_3 : fnD cX11_rounded 3 (.lload_n 0) 1 4 := by decide +kernel
theorem dX11_rounded_4 : fnD cX11_rounded 4 (.lmul) 1 5 := by decide +kernel
theorem dX11_rounded_5 : fnD cX11_rounded 5 (.lload_n 2) 1 6 := by decide +kernel
theorem dX11_rounded_6 : fnD cX11_rounded 6 (.ladd) 1 7 := by decide +kernel
theorem dX11_rounded_7 : fnD cX11_rounded 7 (.lstore 4) 2 9 := by decide +kernel
theorem dX11_rounded_9 : fnD cX11_rounded 9 (.ldc2_w 99) 3 12 := by decide +kernel
theorem dX11_rounded_12 : fnD cX11_rounded 12 (.lload_n 2) 1 13 := by decide +kernel
theorem dX11_rounded_13 : fnD cX11_rounded 13 (.lmul) 1 14 := by decide +kernel
theorem dX11_rounded_14 : fnD cX11_rounded 14 (.lstore 6) 2 16 := by decide +kernel
theorem dX11_rounded_16 : fnD cX11_rounded 16 (.lload 4) 2 18 := by decide +kernel
theorem dX11_rounded_18 : fnD cX11_rounded 18 (.lload 6) 2 20 := by decide +kernel
theorem dX11_rounded_20 : fnD cX11_rounded 20 (.lrem) 1 21 := by decide +kernel
theorem dX11_rounded_21 : fnD cX11_rounded 21 (.lstore 8) 2 23 := by decide +kernel
theorem dX11_rounded_23 : fnD cX11_rounded 23 (.lload 4) 2 25 := by decide +kernel
theorem dX11_rounded_25 : fnD cX11_rounded 25 (.lload 8) 2 27 := by decide +kernel
theorem dX11_rounded_27 : fnD cX11_rounded 27 (.lconst 0) 1 28 := by decide +kernel
theorem dX11_rounded_28 : fnD cX11_rounded 28 (.lcmp) 1 29 := by decide +kernel
theorem dX11_rounded_29 : fnIf cX11_rounded 29 .ge 40 32 := by decide +kernel
theorem dX11_rounded_32 : fnD cX11_rounded 32 (.lload 8) 2 34 := by decide +kernel
theorem dX11_rounded_34 : fnD cX11_rounded 34 (.lload 6) 2 36 := by decide +kernel
theorem dX11_rounded_36 : fnD cX11_rounded 36 (.ladd) 1 37 := by decide +kernel
theorem dX11_rounded_37 : fnGo cX11_rounded 37 42 := by decide +kernel
theorem dX11_rounded_40 : fnD cX11_rounded 40 (.lload 8) 2 42 := by decide +kernel
theorem dX11_rounded_42 : fnD cX11_rounded 42 (.lsub) 1 43 := by decide +kernel
theorem dX11_rounded_43 : fnD cX11_rounded 43 (.lload 6) 2 45 := by decide +kernel
theorem dX11_rounded_45 : fnD cX11_rounded 45 (.ldiv) 1 46 := by decide +kernel
theorem dX11_rounded_46 : fnD cX11_rounded 46 (.lreturn) 1 47 := by decide +kernel
theorem dX11_sinOf_0 : fnD cX11_sinOf 0 (.iload_n 0) 1 1 := by decide +kernel
theorem dX11_sinOf_1 : fnD cX11_sinOf 1 (.bipush 32) 2 3 := by decide +kernel
theorem dX11_sinOf_3 : fnD cX11_sinOf 3 (.invokestatic 101) 3 6 := by decide +kernel
theorem dX11_sinOf_6 : fnD cX11_sinOf 6 (.istore_n 1) 1 7 := by decide +kernel
theorem dX11_sinOf_7 : fnD cX11_sinOf 7 (.iload_n 1) 1 8 := by decide +kernel
theorem dX11_sinOf_8 : fnD cX11_sinOf 8 (.bipush 16) 2 10 := by decide +kernel
theorem dX11_sinOf_10 : fnD cX11_sinOf 10 (.irem) 1 11 := by decide +kernel
theorem dX11_sinOf_11 : fnD cX11_sinOf 11 (.istore_n 2) 1 12 := by decide +kernel
theorem dX11_sinOf_12 : fnD cX11_sinOf 12 (.iload_n 2) 1 13 := by decide +kernel
theorem dX11_sinOf_13 : fnD cX11_sinOf 13 (.bipush 8) 2 15 := by decide +kernel
theorem dX11_sinOf_15 : fnIc cX11_sinOf 15 .le 25 18 := by decide +kernel
theorem dX11_sinOf_18 : fnD cX11_sinOf 18 (.bipush 16) 2 20 := by decide +kernel
theorem dX11_sinOf_20 : fnD cX11_sinOf 20 (.iload_n 2) 1 21 := by decide +kernel
theorem dX11_sinOf_21 : fnD cX11_sinOf 21 (.isub) 1 22 := by decide +kernel
theorem dX11_sinOf_22 : fnGo cX11_sinOf 22 26 := by decide +kernel
theorem dX11_sinOf_25 : fnD cX11_sinOf 25 (.iload_n 2) 1 26 := by decide +kernel
theorem dX11_sinOf_26 : fnD cX11_sinOf 26 (.istore_n 3) 1 27 := by decide +kernel
theorem dX11_sinOf_27 : fnD cX11_sinOf 27 (.iload_n 3) 1 28 := by decide +kernel
theorem dX11_sinOf_28 : fnIf cX11_sinOf 28 .ne 35 31 := by decide +kernel
theorem dX11_sinOf_31 : fnD cX11_sinOf 31 (.iconst 0) 1 32 := by decide +kernel
theorem dX11_sinOf_32 : fnGo cX11_sinOf 32 117 := by decide +kernel
theorem dX11_sinOf_35 : fnD cX11_sinOf 35 (.iload_n 3) 1 36 := by decide +kernel
theorem dX11_sinOf_36 : fnD cX11_sinOf 36 (.iconst 1) 1 37 := by decide +kernel
theorem dX11_sinOf_37 : fnIc cX11_sinOf 37 .ne 46 40 := by decide +kernel
theorem dX11_sinOf_40 : fnD cX11_sinOf 40 (.sipush 195) 3 43 := by decide +kernel
theorem dX11_sinOf_43 : fnGo cX11_sinOf 43 117 := by decide +kernel
theorem dX11_sinOf_46 : fnD cX11_sinOf 46 (.iload_n 3) 1 47 := by decide +kernel
theorem dX11_sinOf_47 : fnD cX11_sinOf 47 (.iconst 2) 1 48 := by decide +kernel
theorem dX11_sinOf_48 : fnIc cX11_sinOf 48 .ne 57 51 := by decide +kernel
theorem dX11_sinOf_51 : fnD cX11_sinOf 51 (.sipush 383) 3 54 := by decide +kernel
theorem dX11_sinOf_54 : fnGo cX11_sinOf 54 117 := by decide +kernel
theorem dX11_sinOf_57 : fnD cX11_sinOf 57 (.iload_n 3) 1 58 := by decide +kernel
theorem dX11_sinOf_58 : fnD cX11_sinOf 58 (.iconst 3) 1 59 := by decide +kernel
theorem dX11_sinOf_59 : fnIc cX11_sinOf 59 .ne 68 62 := by decide +kernel
theorem dX11_sinOf_62 : fnD cX11_sinOf 62 (.sipush 556) 3 65 := by decide +kernel
theorem dX11_sinOf_65 : fnGo cX11_sinOf 65 117 := by decide +kernel
theorem dX11_sinOf_68 : fnD cX11_sinOf 68 (.iload_n 3) 1 69 := by decide +kernel
theorem dX11_sinOf_69 : fnD cX11_sinOf 69 (.iconst 4) 1 70 := by decide +kernel
theorem dX11_sinOf_70 : fnIc cX11_sinOf 70 .ne 79 73 := by decide +kernel
theorem dX11_sinOf_73 : fnD cX11_sinOf 73 (.sipush 707) 3 76 := by decide +kernel
theorem dX11_sinOf_76 : fnGo cX11_sinOf 76 117 := by decide +kernel
theorem dX11_sinOf_79 : fnD cX11_sinOf 79 (.iload_n 3) 1 80 := by decide +kernel
theorem dX11_sinOf_80 : fnD cX11_sinOf 80 (.iconst 5) 1 81 := by decide +kernel
theorem dX11_sinOf_81 : fnIc cX11_sinOf 81 .ne 90 84 := by decide +kernel
theorem dX11_sinOf_84 : fnD cX11_sinOf 84 (.sipush 831) 3 87 := by decide +kernel
theorem dX11_sinOf_87 : fnGo cX11_sinOf 87 117 := by decide +kernel
theorem dX11_sinOf_90 : fnD cX11_sinOf 90 (.iload_n 3) 1 91 := by decide +kernel
theorem dX11_sinOf_91 : fnD cX11_sinOf 91 (.bipush 6) 2 93 := by decide +kernel
theorem dX11_sinOf_93 : fnIc cX11_sinOf 93 .ne 102 96 := by decide +kernel
theorem dX11_sinOf_96 : fnD cX11_sinOf 96 (.sipush 924) 3 99 := by decide +kernel
theorem dX11_sinOf_99 : fnGo cX11_sinOf 99 117 := by decide +kernel
theorem dX11_sinOf_102 : fnD cX11_sinOf 102 (.iload_n 3) 1 103 := by decide +kernel
theorem dX11_sinOf_103 : fnD cX11_sinOf 103 (.bipush 7) 2 105 := by decide +kernel
theorem dX11_sinOf_105 : fnIc cX11_sinOf 105 .ne 114 108 := by decide +kernel
theorem dX11_sinOf_108 : fnD cX11_sinOf 108 (.sipush 981) 3 111 := by decide +kernel
theorem dX11_sinOf_111 : fnGo cX11_sinOf 111 117 := by decide +kernel
theorem dX11_sinOf_114 : fnD cX11_sinOf 114 (.sipush 1000) 3 117 := by decide +kernel
theorem dX11_sinOf_117 : fnD cX11_sinOf 117 (.istore 4) 2 119 := by decide +kernel
theorem dX11_sinOf_119 : fnD cX11_sinOf 119 (.iload_n 1) 1 120 := by decide +kernel
theorem dX11_sinOf_120 : fnD cX11_sinOf 120 (.bipush 16) 2 122 := by decide +kernel
theorem dX11_sinOf_122 : fnIc cX11_sinOf 122 .le 131 125 := by decide +kernel
theorem dX11_sinOf_125 : fnD cX11_sinOf 125 (.iload 4) 2 127 := by decide +kernel
theorem dX11_sinOf_127 : fnD cX11_sinOf 127 (.ineg) 1 128 := by decide +kernel
theorem dX11_sinOf_128 : fnGo cX11_sinOf 128 133 := by decide +kernel
theorem dX11_sinOf_131 : fnD cX11_sinOf 131 (.iload 4) 2 133 := by decide +kernel
theorem dX11_sinOf_133 : fnD cX11_sinOf 133 (.ireturn) 1 134 := by decide +kernel
theorem dX11_cosOf_0 : fnD cX11_cosOf 0 (.iload_n 0) 1 1 := by decide +kernel
theorem dX11_cosOf_1 : fnD cX11_cosOf 1 (.bipush 8) 2 3 := by decide +kernel
theorem dX11_cosOf_3 : fnD cX11_cosOf 3 (.iadd) 1 4 := by decide +kernel
theorem dX11_cosOf_4 : fnD cX11_cosOf 4 (.invokestatic 105) 3 7 := by decide +kernel
theorem dX11_cosOf_7 : fnD cX11_cosOf 7 (.ireturn) 1 8 := by decide +kernel
theorem dX11_sineAt_0 : fnD cX11_sineAt 0 (.iload_n 0) 1 1 := by decide +kernel
theorem dX11_sineAt_1 : fnD cX11_sineAt 1 (.bipush 100) 2 3 := by decide +kernel
theorem dX11_sineAt_3 : fnD cX11_sineAt 3 (.idiv) 1 4 := by decide +kernel
theorem dX11_sineAt_4 : fnD cX11_sineAt 4 (.invokestatic 105) 3 7 := by decide +kernel
theorem dX11_sineAt_7 : fnD cX11_sineAt 7 (.i2l) 1 8 := by decide +kernel
theorem dX11_sineAt_8 : fnD cX11_sineAt 8 (.bipush 100) 2 10 := by decide +kernel
theorem dX11_sineAt_10 : fnD cX11_sineAt 10 (.iload_n 0) 1 11 := by decide +kernel
theorem dX11_sineAt_11 : fnD cX11_sineAt 11 (.bipush 100) 2 13 := by decide +kernel
theorem dX11_sineAt_13 : fnD cX11_sineAt 13 (.irem) 1 14 := by decide +kernel
theorem dX11_sineAt_14 : fnD cX11_sineAt 14 (.isub) 1 15 := by decide +kernel
theorem dX11_sineAt_15 : fnD cX11_sineAt 15 (.i2l) 1 16 := by decide +kernel
theorem dX11_sineAt_16 : fnD cX11_sineAt 16 (.lmul) 1 17 := by decide +kernel
theorem dX11_sineAt_17 : fnD cX11_sineAt 17 (.iload_n 0) 1 18 := by decide +kernel
theorem dX11_sineAt_18 : fnD cX11_sineAt 18 (.bipush 100) 2 20 := by decide +kernel
theorem dX11_sineAt_20 : fnD cX11_sineAt 20 (.idiv) 1 21 := by decide +kernel
theorem dX11_sineAt_21 : fnD cX11_sineAt 21 (.iconst 1) 1 22 := by decide +kernel
theorem dX11_sineAt_22 : fnD cX11_sineAt 22 (.iadd) 1 23 := by decide +kernel
theorem dX11_sineAt_23 : fnD cX11_sineAt 23 (.invokestatic 105) 3 26 := by decide +kernel
theorem dX11_sineAt_26 : fnD cX11_sineAt 26 (.i2l) 1 27 := by decide +kernel
theorem dX11_sineAt_27 : fnD cX11_sineAt 27 (.iload_n 0) 1 28 := by decide +kernel
theorem dX11_sineAt_28 : fnD cX11_sineAt 28 (.bipush 100) 2 30 := by decide +kernel
theorem dX11_sineAt_30 : fnD cX11_sineAt 30 (.irem) 1 31 := by decide +kernel
theorem dX11_sineAt_31 : fnD cX11_sineAt 31 (.i2l) 1 32 := by decide +kernel
theorem dX11_sineAt_32 : fnD cX11_sineAt 32 (.lmul) 1 33 := by decide +kernel
theorem dX11_sineAt_33 : fnD cX11_sineAt 33 (.ladd) 1 34 := by decide +kernel
theorem dX11_sineAt_34 : fnD cX11_sineAt 34 (.ldc2_w 109) 3 37 := by decide +kernel
theorem dX11_sineAt_37 : fnD cX11_sineAt 37 (.invokestatic 111) 3 40 := by decide +kernel
theorem dX11_sineAt_40 : fnD cX11_sineAt 40 (.l2i) 1 41 := by decide +kernel
theorem dX11_sineAt_41 : fnD cX11_sineAt 41 (.ireturn) 1 42 := by decide +kernel
theorem dX11_wayOf_0 : fnD cX11_wayOf 0 (.iload_n 1) 1 1 := by decide +kernel
theorem dX11_wayOf_1 : fnD cX11_wayOf 1 (.iload_n 0) 1 2 := by decide +kernel
theorem dX11_wayOf_2 : fnD cX11_wayOf 2 (.isub) 1 3 := by decide +kernel
theorem dX11_wayOf_3 : fnD cX11_wayOf 3 (.sipush 1600) 3 6 := by decide +kernel
theorem dX11_wayOf_6 : fnD cX11_wayOf 6 (.iadd) 1 7 := by decide +kernel
theorem dX11_wayOf_7 : fnD cX11_wayOf 7 (.sipush 3200) 3 10 := by decide +kernel
theorem dX11_wayOf_10 : fnD cX11_wayOf 10 (.invokestatic 101) 3 13 := by decide +kernel
theorem dX11_wayOf_13 : fnD cX11_wayOf 13 (.sipush 1600) 3 16 := by decide +kernel
theorem dX11_wayOf_16 : fnD cX11_wayOf 16 (.isub) 1 17 := by decide +kernel
theorem dX11_wayOf_17 : fnD cX11_wayOf 17 (.ireturn) 1 18 := by decide +kernel
theorem dX11_noRound_0 : fnD cX11_noRound 0 (.iload_n 0) 1 1 := by decide +kernel
theorem dX11_noRound_1 : fnD cX11_noRound 1 (.i2l) 1 2 := by decide +kernel
theorem dX11_noRound_2 : fnD cX11_noRound 2 (.lconst 0) 1 3 := by decide +kernel
theorem dX11_noRound_3 : fnD cX11_noRound 3 (.ldc2_w 115) 3 6 := by decide +kernel
theorem dX11_noRound_6 : fnD cX11_noRound 6 (.invokestatic 117) 3 9 := by decide +kernel
theorem dX11_noRound_9 : fnIf cX11_noRound 9 .ne 16 12 := by decide +kernel
theorem dX11_noRound_12 : fnD cX11_noRound 12 (.iconst 1) 1 13 := by decide +kernel
theorem dX11_noRound_13 : fnGo cX11_noRound 13 17 := by decide +kernel
theorem dX11_noRound_16 : fnD cX11_noRound 16 (.iconst 0) 1 17 := by decide +kernel
theorem dX11_noRound_17 : fnD cX11_noRound 17 (.ireturn) 1 18 := by decide +kernel
theorem dX11_noCompass_0 : fnD cX11_noCompass 0 (.iload_n 0) 1 1 := by decide +kernel
theorem dX11_noCompass_1 : fnD cX11_noCompass 1 (.i2l) 1 2 := by decide +kernel
theorem dX11_noCompass_2 : fnD cX11_noCompass 2 (.lconst 0) 1 3 := by decide +kernel
theorem dX11_noCompass_3 : fnD cX11_noCompass 3 (.ldc2_w 99) 3 6 := by decide +kernel
theorem dX11_noCompass_6 : fnD cX11_noCompass 6 (.invokestatic 117) 3 9 := by decide +kernel
theorem dX11_noCompass_9 : fnIf cX11_noCompass 9 .ne 16 12 := by decide +kernel
theorem dX11_noCompass_12 : fnD cX11_noCompass 12 (.iconst 1) 1 13 := by decide +kernel
theorem dX11_noCompass_13 : fnGo cX11_noCompass 13 17 := by decide +kernel
theorem dX11_noCompass_16 : fnD cX11_noCompass 16 (.iconst 0) 1 17 := by decide +kernel
theorem dX11_noCompass_17 : fnD cX11_noCompass 17 (.ireturn) 1 18 := by decide +kernel
theorem dX11_noHeading_0 : fnD cX11_noHeading 0 (.iload_n 0) 1 1 := by decide +kernel
theorem dX11_noHeading_1 : fnD cX11_noHeading 1 (.i2l) 1 2 := by decide +kernel
theorem dX11_noHeading_2 : fnD cX11_noHeading 2 (.lconst 0) 1 3 := by decide +kernel
theorem dX11_noHeading_3 : fnD cX11_noHeading 3 (.ldc2_w 121) 3 6 := by decide +kernel
theorem dX11_noHeading_6 : fnD cX11_noHeading 6 (.invokestatic 117) 3 9 := by decide +kernel
theorem dX11_noHeading_9 : fnIf cX11_noHeading 9 .ne 16 12 := by decide +kernel
theorem dX11_noHeading_12 : fnD cX11_noHeading 12 (.iconst 1) 1 13 := by decide +kernel
theorem dX11_noHeading_13 : fnGo cX11_noHeading 13 17 := by decide +kernel
theorem dX11_noHeading_16 : fnD cX11_noHeading 16 (.iconst 0) 1 17 := by decide +kernel
theorem dX11_noHeading_17 : fnD cX11_noHeading 17 (.ireturn) 1 18 := by decide +kernel
theorem dX11_noPart_0 : fnD cX11_noPart 0 (.iload_n 0) 1 1 := by decide +kernel
theorem dX11_noPart_1 : fnD cX11_noPart 1 (.i2l) 1 2 := by decide +kernel
theorem dX11_noPart_2 : fnD cX11_noPart 2 (.lconst 0) 1 3 := by decide +kernel
theorem dX11_noPart_3 : fnD cX11_noPart 3 (.ldc2_w 123) 3 6 := by decide +kernel
theorem dX11_noPart_6 : fnD cX11_noPart 6 (.invokestatic 117) 3 9 := by decide +kernel
theorem dX11_noPart_9 : fnIf cX11_noPart 9 .ne 16 12 := by decide +kernel
theorem dX11_noPart_12 : fnD cX11_noPart 12 (.iconst 1) 1 13 := by decide +kernel
theorem dX11_noPart_13 : fnGo cX11_noPart 13 17 := by decide +kernel
theorem dX11_noPart_16 : fnD cX11_noPart 16 (.iconst 0) 1 17 := by decide +kernel
theorem dX11_noPart_17 : fnD cX11_noPart 17 (.ireturn) 1 18 := by decide +kernel
theorem dX11_noHeel_0 : fnD cX11_noHeel 0 (.iload_n 0) 1 1 := by decide +kernel
theorem dX11_noHeel_1 : fnD cX11_noHeel 1 (.i2l) 1 2 := by decide +kernel
theorem dX11_noHeel_2 : fnD cX11_noHeel 2 (.ldc2_w 125) 3 5 := by decide +kernel
theorem dX11_noHeel_5 : fnD cX11_noHeel 5 (.ldc2_w 127) 3 8 := by decide +kernel
theorem dX11_noHeel_8 : fnD cX11_noHeel 8 (.invokestatic 117) 3 11 := by decide +kernel
theorem dX11_noHeel_11 : fnIf cX11_noHeel 11 .ne 18 14 := by decide +kernel
theorem dX11_noHeel_14 : fnD cX11_noHeel 14 (.iconst 1) 1 15 := by decide +kernel
theorem dX11_noHeel_15 : fnGo cX11_noHeel 15 19 := by decide +kernel
theorem dX11_noHeel_18 : fnD cX11_noHeel 18 (.iconst 0) 1 19 := by decide +kernel
theorem dX11_noHeel_19 : fnD cX11_noHeel 19 (.ireturn) 1 20 := by decide +kernel
theorem dX11_noDay_0 : fnD cX11_noDay 0 (.iload_n 0) 1 1 := by decide +kernel
theorem dX11_noDay_1 : fnD cX11_noDay 1 (.i2l) 1 2 := by decide +kernel
theorem dX11_noDay_2 : fnD cX11_noDay 2 (.lconst 0) 1 3 := by decide +kernel
theorem dX11_noDay_3 : fnD cX11_noDay 3 (.ldc2_w 129) 3 6 := by decide +kernel
theorem dX11_noDay_6 : fnD cX11_noDay 6 (.invokestatic 117) 3 9 := by decide +kernel
theorem dX11_noDay_9 : fnIf cX11_noDay 9 .ne 16 12 := by decide +kernel
theorem dX11_noDay_12 : fnD cX11_noDay 12 (.iconst 1) 1 13 := by decide +kernel
theorem dX11_noDay_13 : fnGo cX11_noDay 13 17 := by decide +kernel
theorem dX11_noDay_16 : fnD cX11_noDay 16 (.iconst 0) 1 17 := by decide +kernel
theorem dX11_noDay_17 : fnD cX11_noDay 17 (.ireturn) 1 18 := by decide +kernel
theorem dX11_take_0 : fnD cX11_take 0 (.iconst 0) 1 1 := by decide +kernel
theorem dX11_take_1 : fnD cX11_take 1 (.istore_n 2) 1 2 := by decide +kernel
theorem dX11_take_2 : fnD cX11_take 2 (.iload_n 2) 1 3 := by decide +kernel
theorem dX11_take_3 : fnD cX11_take 3 (.bipush 6) 2 5 := by decide +kernel
theorem dX11_take_5 : fnIc cX11_take 5 .ge 31 8 := by decide +kernel
theorem dX11_take_8 : fnD cX11_take 8 (.aload_n 0) 1 9 := by decide +kernel
theorem dX11_take_9 : fnD cX11_take 9 (.getfield 78) 3 12 := by decide +kernel
theorem dX11_take_12 : fnD cX11_take 12 (.iload_n 2) 1 13 := by decide +kernel
theorem dX11_take_13 : fnD cX11_take 13 (.aload_n 0) 1 14 := by decide +kernel
theorem dX11_take_14 : fnD cX11_take 14 (.getfield 7) 3 17 := by decide +kernel
theorem dX11_take_17 : fnD cX11_take 17 (.bipush 6) 2 19 := by decide +kernel
theorem dX11_take_19 : fnD cX11_take 19 (.iload_n 1) 1 20 := by decide +kernel
theorem dX11_take_20 : fnD cX11_take 20 (.imul) 1 21 := by decide +kernel
theorem dX11_take_21 : fnD cX11_take 21 (.iload_n 2) 1 22 := by decide +kernel
theorem dX11_take_22 : fnD cX11_take 22 (.iadd) 1 23 := by decide +kernel
theorem dX11_take_23 : fnD cX11_take 23 (.iaload) 1 24 := by decide +kernel
theorem dX11_take_24 : fnD cX11_take 24 (.iastore) 1 25 := by decide +kernel
theorem dX11_take_25 : fnD cX11_take 25 (.iinc 2 1) 3 28 := by decide +kernel
theorem dX11_take_28 : fnGo cX11_take 28 2 := by decide +kernel
theorem dX11_take_31 : fnD cX11_take 31 (.return_) 1 32 := by decide +kernel
theorem dX11_errorOf_0 : fnD cX11_errorOf 0 (.aload_n 0) 1 1 := by decide +kernel
theorem dX11_errorOf_1 : fnD cX11_errorOf 1 (.getfield 78) 3 4 := by decide +kernel
theorem dX11_errorOf_4 : fnD cX11_errorOf 4 (.iconst 1) 1 5 := by decide +kernel
theorem dX11_errorOf_5 : fnD cX11_errorOf 5 (.iaload) 1 6 := by decide +kernel
theorem dX11_errorOf_6 : fnD cX11_errorOf 6 (.i2l) 1 7 := by decide +kernel
theorem dX11_errorOf_7 : fnD cX11_errorOf 7 (.iload_n 1) 1 8 := by decide +kernel
theorem dX11_errorOf_8 : fnD cX11_errorOf 8 (.invokestatic 105) 3 11 := by decide +kernel
theorem dX11_errorOf_11 : fnD cX11_errorOf 11 (.i2l) 1 12 := by decide +kernel
theorem dX11_errorOf_12 : fnD cX11_errorOf 12 (.lmul) 1 13 := by decide +kernel
theorem dX11_errorOf_13 : fnD cX11_errorOf 13 (.aload_n 0) 1 14 := by decide +kernel
theorem dX11_errorOf_14 : fnD cX11_errorOf 14 (.getfield 78) 3 17 := by decide +kernel
theorem dX11_errorOf_17 : fnD cX11_errorOf 17 (.iconst 2) 1 18 := by decide +kernel
theorem dX11_errorOf_18 : fnD cX11_errorOf 18 (.iaload) 1 19 := by decide +kernel
theorem dX11_errorOf_19 : fnD cX11_errorOf 19 (.i2l) 1 20 := by decide +kernel
theorem dX11_errorOf_20 : fnD cX11_errorOf 20 (.iload_n 1) 1 21 := by decide +kernel
theorem dX11_errorOf_21 : fnD cX11_errorOf 21 (.invokestatic 131) 3 24 := by decide +kernel
theorem dX11_errorOf_24 : fnD cX11_errorOf 24 (.i2l) 1 25 := by decide +kernel
theorem dX11_errorOf_25 : fnD cX11_errorOf 25 (.lmul) 1 26 := by decide +kernel
theorem dX11_errorOf_26 : fnD cX11_errorOf 26 (.ladd) 1 27 := by decide +kernel
theorem dX11_errorOf_27 : fnD cX11_errorOf 27 (.aload_n 0) 1 28 := by decide +kernel
theorem dX11_errorOf_28 : fnD cX11_errorOf 28 (.getfield 78) 3 31 := by decide +kernel
theorem dX11_errorOf_31 : fnD cX11_errorOf 31 (.iconst 3) 1 32 := by decide +kernel
theorem dX11_errorOf_32 : fnD cX11_errorOf 32 (.iaload) 1 33 := by decide +kernel
theorem dX11_errorOf_33 : fnD cX11_errorOf 33 (.i2l) 1 34 := by decide +kernel
theorem dX11_errorOf_34 : fnD cX11_errorOf 34 (.iconst 2) 1 35 := by decide +kernel
theorem dX11_errorOf_35 : fnD cX11_errorOf 35 (.iload_n 1) 1 36 := by decide +kernel
theorem dX11_errorOf_36 : fnD cX11_errorOf 36 (.imul) 1 37 := by decide +kernel
theorem dX11_errorOf_37 : fnD cX11_errorOf 37 (.invokestatic 105) 3 40 := by decide +kernel
theorem dX11_errorOf_40 : fnD cX11_errorOf 40 (.i2l) 1 41 := by decide +kernel
theorem dX11_errorOf_41 : fnD cX11_errorOf 41 (.lmul) 1 42 := by decide +kernel
theorem dX11_errorOf_42 : fnD cX11_errorOf 42 (.ladd) 1 43 := by decide +kernel
theorem dX11_errorOf_43 : fnD cX11_errorOf 43 (.aload_n 0) 1 44 := by decide +kernel
theorem dX11_errorOf_44 : fnD cX11_errorOf 44 (.getfield 78) 3 47 := by decide +kernel
theorem dX11_errorOf_47 : fnD cX11_errorOf 47 (.iconst 4) 1 48 := by decide +kernel
theorem dX11_errorOf_48 : fnD cX11_errorOf 48 (.iaload) 1 49 := by decide +kernel
theorem dX11_errorOf_49 : fnD cX11_errorOf 49 (.i2l) 1 50 := by decide +kernel
theorem dX11_errorOf_50 : fnD cX11_errorOf 50 (.iconst 2) 1 51 := by decide +kernel
theorem dX11_errorOf_51 : fnD cX11_errorOf 51 (.iload_n 1) 1 52 := by decide +kernel
theorem dX11_errorOf_52 : fnD cX11_errorOf 52 (.imul) 1 53 := by decide +kernel
theorem dX11_errorOf_53 : fnD cX11_errorOf 53 (.invokestatic 131) 3 56 := by decide +kernel
theorem dX11_errorOf_56 : fnD cX11_errorOf 56 (.i2l) 1 57 := by decide +kernel
theorem dX11_errorOf_57 : fnD cX11_errorOf 57 (.lmul) 1 58 := by decide +kernel
theorem dX11_errorOf_58 : fnD cX11_errorOf 58 (.ladd) 1 59 := by decide +kernel
theorem dX11_errorOf_59 : fnD cX11_errorOf 59 (.aload_n 0) 1 60 := by decide +kernel
theorem dX11_errorOf_60 : fnD cX11_errorOf 60 (.getfield 78) 3 63 := by decide +kernel
theorem dX11_errorOf_63 : fnD cX11_errorOf 63 (.iconst 5) 1 64 := by decide +kernel
theorem dX11_errorOf_64 : fnD cX11_errorOf 64 (.iaload) 1 65 := by decide +kernel
theorem dX11_errorOf_65 : fnD cX11_errorOf 65 (.i2l) 1 66 := by decide +kernel
theorem dX11_errorOf_66 : fnD cX11_errorOf 66 (.iload_n 1) 1 67 := by decide +kernel
theorem dX11_errorOf_67 : fnD cX11_errorOf 67 (.invokestatic 131) 3 70 := by decide +kernel
theorem dX11_errorOf_70 : fnD cX11_errorOf 70 (.i2l) 1 71 := by decide +kernel
theorem dX11_errorOf_71 : fnD cX11_errorOf 71 (.lmul) 1 72 := by decide +kernel
theorem dX11_errorOf_72 : fnD cX11_errorOf 72 (.iload_n 2) 1 73 := by decide +kernel
theorem dX11_errorOf_73 : fnD cX11_errorOf 73 (.i2l) 1 74 := by decide +kernel
theorem dX11_errorOf_74 : fnD cX11_errorOf 74 (.lmul) 1 75 := by decide +kernel
theorem dX11_errorOf_75 : fnD cX11_errorOf 75 (.ldc2_w 134) 3 78 := by decide +kernel
theorem dX11_errorOf_78 : fnD cX11_errorOf 78 (.ldiv) 1 79 := by decide +kernel
theorem dX11_errorOf_79 : fnD cX11_errorOf 79 (.ladd) 1 80 := by decide +kernel
theorem dX11_errorOf_80 : fnD cX11_errorOf 80 (.lstore_n 3) 1 81 := by decide +kernel
theorem dX11_errorOf_81 : fnD cX11_errorOf 81 (.aload_n 0) 1 82 := by decide +kernel
theorem dX11_errorOf_82 : fnD cX11_errorOf 82 (.getfield 78) 3 85 := by decide +kernel
theorem dX11_errorOf_85 : fnD cX11_errorOf 85 (.iconst 0) 1 86 := by decide +kernel
theorem dX11_errorOf_86 : fnD cX11_errorOf 86 (.iaload) 1 87 := by decide +kernel
theorem dX11_errorOf_87 : fnD cX11_errorOf 87 (.lload_n 3) 1 88 := by decide +kernel
theorem dX11_errorOf_88 : fnD cX11_errorOf 88 (.ldc2_w 136) 3 91 := by decide +kernel
theorem dX11_errorOf_91 : fnD cX11_errorOf 91 (.invokestatic 111) 3 94 := by decide +kernel
theorem dX11_errorOf_94 : fnD cX11_errorOf 94 (.l2i) 1 95 := by decide +kernel
theorem dX11_errorOf_95 : fnD cX11_errorOf 95 (.iadd) 1 96 := by decide +kernel
theorem dX11_errorOf_96 : fnD cX11_errorOf 96 (.ireturn) 1 97 := by decide +kernel
theorem dX11_lay_0 : fnD cX11_lay 0 (.iconst 0) 1 1 := by decide +kernel
theorem dX11_lay_1 : fnD cX11_lay 1 (.istore_n 2) 1 2 := by decide +kernel
theorem dX11_lay_2 : fnD cX11_lay 2 (.iload_n 2) 1 3 := by decide +kernel
theorem dX11_lay_3 : fnD cX11_lay 3 (.bipush 32) 2 5 := by decide +kernel
theorem dX11_lay_5 : fnIc cX11_lay 5 .ge 26 8 := by decide +kernel
theorem dX11_lay_8 : fnD cX11_lay 8 (.aload_n 0) 1 9 := by decide +kernel
theorem dX11_lay_9 : fnD cX11_lay 9 (.getfield 81) 3 12 := by decide +kernel
theorem dX11_lay_12 : fnD cX11_lay 12 (.iload_n 2) 1 13 := by decide +kernel
theorem dX11_lay_13 : fnD cX11_lay 13 (.aload_n 0) 1 14 := by decide +kernel
theorem dX11_lay_14 : fnD cX11_lay 14 (.iload_n 2) 1 15 := by decide +kernel
theorem dX11_lay_15 : fnD cX11_lay 15 (.iload_n 1) 1 16 := by decide +kernel
theorem dX11_lay_16 : fnD cX11_lay 16 (.invokevirtual 138) 3 19 := by decide +kernel
theorem dX11_lay_19 : fnD cX11_lay 19 (.iastore) 1 20 := by decide +kernel
theorem dX11_lay_20 : fnD cX11_lay 20 (.iinc 2 1) 3 23 := by decide +kernel
theorem dX11_lay_23 : fnGo cX11_lay 23 2 := by decide +kernel
theorem dX11_lay_26 : fnD cX11_lay 26 (.return_) 1 27 := by decide +kernel
theorem dX11_between_0 : fnD cX11_between 0 (.aload_n 0) 1 1 := by decide +kernel
theorem dX11_between_1 : fnD cX11_between 1 (.getfield 81) 3 4 := by decide +kernel
theorem dX11_between_4 : fnD cX11_between 4 (.iload_n 1) 1 5 := by decide +kernel
theorem dX11_between_5 : fnD cX11_between 5 (.bipush 100) 2 7 := by decide +kernel
theorem dX11_between_7 : fnD cX11_between 7 (.idiv) 1 8 := by decide +kernel
theorem dX11_between_8 : fnD cX11_between 8 (.iaload) 1 9 := by decide +kernel
theorem dX11_between_9 : fnD cX11_between 9 (.i2l) 1 10 := by decide +kernel
theorem dX11_between_10 : fnD cX11_between 10 (.bipush 100) 2 12 := by decide +kernel
theorem dX11_between_12 : fnD cX11_between 12 (.iload_n 1) 1 13 := by decide +kernel
theorem dX11_between_13 : fnD cX11_between 13 (.bipush 100) 2 15 := by decide +kernel
theorem dX11_between_15 : fnD cX11_between 15 (.irem) 1 16 := by decide +kernel
theorem dX11_between_16 : fnD cX11_between 16 (.isub) 1 17 := by decide +kernel
theorem dX11_between_17 : fnD cX11_between 17 (.i2l) 1 18 := by decide +kernel
theorem dX11_between_18 : fnD cX11_between 18 (.lmul) 1 19 := by decide +kernel
theorem dX11_between_19 : fnD cX11_between 19 (.aload_n 0) 1 20 := by decide +kernel
theorem dX11_between_20 : fnD cX11_between 20 (.getfield 81) 3 23 := by decide +kernel
theorem dX11_between_23 : fnD cX11_between 23 (.iload_n 1) 1 24 := by decide +kernel
theorem dX11_between_24 : fnD cX11_between 24 (.bipush 100) 2 26 := by decide +kernel
theorem dX11_between_26 : fnD cX11_between 26 (.idiv) 1 27 := by decide +kernel
theorem dX11_between_27 : fnD cX11_between 27 (.iconst 1) 1 28 := by decide +kernel
theorem dX11_between_28 : fnD cX11_between 28 (.iadd) 1 29 := by decide +kernel
theorem dX11_between_29 : fnD cX11_between 29 (.bipush 32) 2 31 := by decide +kernel
theorem dX11_between_31 : fnD cX11_between 31 (.irem) 1 32 := by decide +kernel
theorem dX11_between_32 : fnD cX11_between 32 (.iaload) 1 33 := by decide +kernel
theorem dX11_between_33 : fnD cX11_between 33 (.i2l) 1 34 := by decide +kernel
theorem dX11_between_34 : fnD cX11_between 34 (.iload_n 1) 1 35 := by decide +kernel
theorem dX11_between_35 : fnD cX11_between 35 (.bipush 100) 2 37 := by decide +kernel
theorem dX11_between_37 : fnD cX11_between 37 (.irem) 1 38 := by decide +kernel
theorem dX11_between_38 : fnD cX11_between 38 (.i2l) 1 39 := by decide +kernel
theorem dX11_between_39 : fnD cX11_between 39 (.lmul) 1 40 := by decide +kernel
theorem dX11_between_40 : fnD cX11_between 40 (.ladd) 1 41 := by decide +kernel
theorem dX11_between_41 : fnD cX11_between 41 (.ldc2_w 109) 3 44 := by decide +kernel
theorem dX11_between_44 : fnD cX11_between 44 (.invokestatic 111) 3 47 := by decide +kernel
theorem dX11_between_47 : fnD cX11_between 47 (.l2i) 1 48 := by decide +kernel
theorem dX11_between_48 : fnD cX11_between 48 (.ireturn) 1 49 := by decide +kernel
theorem dX11_truth_0 : fnD cX11_truth 0 (.iload_n 1) 1 1 := by decide +kernel
theorem dX11_truth_1 : fnD cX11_truth 1 (.aload_n 0) 1 2 := by decide +kernel
theorem dX11_truth_2 : fnD cX11_truth 2 (.iload_n 1) 1 3 := by decide +kernel
theorem dX11_truth_3 : fnD cX11_truth 3 (.invokevirtual 141) 3 6 := by decide +kernel
theorem dX11_truth_6 : fnD cX11_truth 6 (.iadd) 1 7 := by decide +kernel
theorem dX11_truth_7 : fnD cX11_truth 7 (.sipush 3200) 3 10 := by decide +kernel
theorem dX11_truth_10 : fnD cX11_truth 10 (.invokestatic 101) 3 13 := by decide +kernel
theorem dX11_truth_13 : fnD cX11_truth 13 (.ireturn) 1 14 := by decide +kernel
theorem dX11_sine_0 : fnD cX11_sine 0 (.aload_n 0) 1 1 := by decide +kernel
theorem dX11_sine_1 : fnD cX11_sine 1 (.iconst 0) 1 2 := by decide +kernel
theorem dX11_sine_2 : fnD cX11_sine 2 (.putfield 96) 3 5 := by decide +kernel
theorem dX11_sine_5 : fnD cX11_sine 5 (.iload_n 1) 1 6 := by decide +kernel
theorem dX11_sine_6 : fnD cX11_sine 6 (.invokestatic 144) 3 9 := by decide +kernel
theorem dX11_sine_9 : fnIf cX11_sine 9 .eq 18 12 := by decide +kernel
theorem dX11_sine_12 : fnD cX11_sine 12 (.sipush (-2002)) 3 15 := by decide +kernel
theorem dX11_sine_15 : fnGo cX11_sine 15 38 := by decide +kernel
theorem dX11_sine_18 : fnD cX11_sine 18 (.iload_n 2) 1 19 := by decide +kernel
theorem dX11_sine_19 : fnIf cX11_sine 19 .eq 34 22 := by decide +kernel
theorem dX11_sine_22 : fnD cX11_sine 22 (.iload_n 1) 1 23 := by decide +kernel
theorem dX11_sine_23 : fnD cX11_sine 23 (.sipush 800) 3 26 := by decide +kernel
theorem dX11_sine_26 : fnD cX11_sine 26 (.iadd) 1 27 := by decide +kernel
theorem dX11_sine_27 : fnD cX11_sine 27 (.sipush 3200) 3 30 := by decide +kernel
theorem dX11_sine_30 : fnD cX11_sine 30 (.irem) 1 31 := by decide +kernel
theorem dX11_sine_31 : fnGo cX11_sine 31 35 := by decide +kernel
theorem dX11_sine_34 : fnD cX11_sine 34 (.iload_n 1) 1 35 := by decide +kernel
theorem dX11_sine_35 : fnD cX11_sine 35 (.invokestatic 148) 3 38 := by decide +kernel
theorem dX11_sine_38 : fnD cX11_sine 38 (.ireturn) 1 39 := by decide +kernel
theorem dX11_way_0 : fnD cX11_way 0 (.aload_n 0) 1 1 := by decide +kernel
theorem dX11_way_1 : fnD cX11_way 1 (.iconst 0) 1 2 := by decide +kernel
theorem dX11_way_2 : fnD cX11_way 2 (.putfield 96) 3 5 := by decide +kernel
theorem dX11_way_5 : fnD cX11_way 5 (.iload_n 1) 1 6 := by decide +kernel
theorem dX11_way_6 : fnD cX11_way 6 (.invokestatic 144) 3 9 := by decide +kernel
theorem dX11_way_9 : fnIf cX11_way 9 .ne 19 12 := by decide +kernel
theorem dX11_way_12 : fnD cX11_way 12 (.iload_n 2) 1 13 := by decide +kernel
theorem dX11_way_13 : fnD cX11_way 13 (.invokestatic 144) 3 16 := by decide +kernel
theorem dX11_way_16 : fnIf cX11_way 16 .eq 25 19 := by decide +kernel
theorem dX11_way_19 : fnD cX11_way 19 (.sipush (-2002)) 3 22 := by decide +kernel
theorem dX11_way_22 : fnGo cX11_way 22 30 := by decide +kernel
theorem dX11_way_25 : fnD cX11_way 25 (.iload_n 1) 1 26 := by decide +kernel
theorem dX11_way_26 : fnD cX11_way 26 (.iload_n 2) 1 27 := by decide +kernel
theorem dX11_way_27 : fnD cX11_way 27 (.invokestatic 151) 3 30 := by decide +kernel
theorem dX11_way_30 : fnD cX11_way 30 (.ireturn) 1 31 := by decide +kernel
theorem dX11_part_0 : fnD cX11_part 0 (.aload_n 0) 1 1 := by decide +kernel
theorem dX11_part_1 : fnD cX11_part 1 (.iconst 0) 1 2 := by decide +kernel
theorem dX11_part_2 : fnD cX11_part 2 (.putfield 96) 3 5 := by decide +kernel
theorem dX11_part_5 : fnD cX11_part 5 (.iload_n 1) 1 6 := by decide +kernel
theorem dX11_part_6 : fnD cX11_part 6 (.invokestatic 154) 3 9 := by decide +kernel
theorem dX11_part_9 : fnIf cX11_part 9 .ne 19 12 := by decide +kernel
theorem dX11_part_12 : fnD cX11_part 12 (.iload_n 2) 1 13 := by decide +kernel
theorem dX11_part_13 : fnD cX11_part 13 (.invokestatic 157) 3 16 := by decide +kernel
theorem dX11_part_16 : fnIf cX11_part 16 .eq 23 19 := by decide +kernel
theorem dX11_part_19 : fnD cX11_part 19 (.sipush (-2001)) 3 22 := by decide +kernel
theorem dX11_part_22 : fnD cX11_part 22 (.ireturn) 1 23 := by decide +kernel
theorem dX11_part_23 : fnD cX11_part 23 (.iload_n 3) 1 24 := by decide +kernel
theorem dX11_part_24 : fnD cX11_part 24 (.i2l) 1 25 := by decide +kernel
theorem dX11_part_25 : fnD cX11_part 25 (.ldc2_w 160) 3 28 := by decide +kernel
theorem dX11_part_28 : fnD cX11_part 28 (.ldc2_w 129) 3 31 := by decide +kernel
theorem dX11_part_31 : fnD cX11_part 31 (.invokestatic 117) 3 34 := by decide +kernel
theorem dX11_part_34 : fnIf cX11_part 34 .ne 41 37 := by decide +kernel
theorem dX11_part_37 : fnD cX11_part 37 (.sipush (-2002)) 3 40 := by decide +kernel
theorem dX11_part_40 : fnD cX11_part 40 (.ireturn) 1 41 := by decide +kernel
theorem dX11_part_41 : fnD cX11_part 41 (.aload_n 0) 1 42 := by decide +kernel
theorem dX11_part_42 : fnD cX11_part 42 (.getfield 7) 3 45 := by decide +kernel
theorem dX11_part_45 : fnD cX11_part 45 (.bipush 6) 2 47 := by decide +kernel
theorem dX11_part_47 : fnD cX11_part 47 (.iload_n 1) 1 48 := by decide +kernel
theorem dX11_part_48 : fnD cX11_part 48 (.imul) 1 49 := by decide +kernel
theorem dX11_part_49 : fnD cX11_part 49 (.iload_n 2) 1 50 := by decide +kernel
theorem dX11_part_50 : fnD cX11_part 50 (.iadd) 1 51 := by decide +kernel
theorem dX11_part_51 : fnD cX11_part 51 (.iaload) 1 52 := by decide +kernel
theorem dX11_part_52 : fnD cX11_part 52 (.istore 4) 2 54 := by decide +kernel
theorem dX11_part_54 : fnD cX11_part 54 (.aload_n 0) 1 55 := by decide +kernel
theorem dX11_part_55 : fnD cX11_part 55 (.getfield 7) 3 58 := by decide +kernel
theorem dX11_part_58 : fnD cX11_part 58 (.bipush 6) 2 60 := by decide +kernel
theorem dX11_part_60 : fnD cX11_part 60 (.iload_n 1) 1 61 := by decide +kernel
theorem dX11_part_61 : fnD cX11_part 61 (.imul) 1 62 := by decide +kernel
theorem dX11_part_62 : fnD cX11_part 62 (.iload_n 2) 1 63 := by decide +kernel
theorem dX11_part_63 : fnD cX11_part 63 (.iadd) 1 64 := by decide +kernel
theorem dX11_part_64 : fnD cX11_part 64 (.iload_n 3) 1 65 := by decide +kernel
theorem dX11_part_65 : fnD cX11_part 65 (.iastore) 1 66 := by decide +kernel
theorem dX11_part_66 : fnD cX11_part 66 (.iload 4) 2 68 := by decide +kernel
theorem dX11_part_68 : fnD cX11_part 68 (.ireturn) 1 69 := by decide +kernel
theorem dX11_told_0 : fnD cX11_told 0 (.aload_n 0) 1 1 := by decide +kernel
theorem dX11_told_1 : fnD cX11_told 1 (.iconst 0) 1 2 := by decide +kernel
theorem dX11_told_2 : fnD cX11_told 2 (.putfield 96) 3 5 := by decide +kernel
theorem dX11_told_5 : fnD cX11_told 5 (.iload_n 1) 1 6 := by decide +kernel
theorem dX11_told_6 : fnD cX11_told 6 (.invokestatic 154) 3 9 := by decide +kernel
theorem dX11_told_9 : fnIf cX11_told 9 .ne 19 12 := by decide +kernel
theorem dX11_told_12 : fnD cX11_told 12 (.iload_n 2) 1 13 := by decide +kernel
theorem dX11_told_13 : fnD cX11_told 13 (.invokestatic 157) 3 16 := by decide +kernel
theorem dX11_told_16 : fnIf cX11_told 16 .eq 25 19 := by decide +kernel
theorem dX11_told_19 : fnD cX11_told 19 (.sipush (-2001)) 3 22 := by decide +kernel
theorem dX11_told_22 : fnGo cX11_told 22 36 := by decide +kernel
theorem dX11_told_25 : fnD cX11_told 25 (.aload_n 0) 1 26 := by decide +kernel
theorem dX11_told_26 : fnD cX11_told 26 (.getfield 7) 3 29 := by decide +kernel
theorem dX11_told_29 : fnD cX11_told 29 (.bipush 6) 2 31 := by decide +kernel
theorem dX11_told_31 : fnD cX11_told 31 (.iload_n 1) 1 32 := by decide +kernel
theorem dX11_told_32 : fnD cX11_told 32 (.imul) 1 33 := by decide +kernel
theorem dX11_told_33 : fnD cX11_told 33 (.iload_n 2) 1 34 := by decide +kernel
theorem dX11_told_34 : fnD cX11_told 34 (.iadd) 1 35 := by decide +kernel
theorem dX11_told_35 : fnD cX11_told 35 (.iaload) 1 36 := by decide +kernel
theorem dX11_told_36 : fnD cX11_told 36 (.ireturn) 1 37 := by decide +kernel
theorem dX11_error_0 : fnD cX11_error 0 (.aload_n 0) 1 1 := by decide +kernel
theorem dX11_error_1 : fnD cX11_error 1 (.iconst 0) 1 2 := by decide +kernel
theorem dX11_error_2 : fnD cX11_error 2 (.putfield 96) 3 5 := by decide +kernel
theorem dX11_error_5 : fnD cX11_error 5 (.iload_n 1) 1 6 := by decide +kernel
theorem dX11_error_6 : fnD cX11_error 6 (.invokestatic 154) 3 9 := by decide +kernel
theorem dX11_error_9 : fnIf cX11_error 9 .ne 19 12 := by decide +kernel
theorem dX11_error_12 : fnD cX11_error 12 (.iload_n 2) 1 13 := by decide +kernel
theorem dX11_error_13 : fnD cX11_error 13 (.invokestatic 162) 3 16 := by decide +kernel
theorem dX11_error_16 : fnIf cX11_error 16 .eq 23 19 := by decide +kernel
theorem dX11_error_19 : fnD cX11_error 19 (.sipush (-2001)) 3 22 := by decide +kernel
theorem dX11_error_22 : fnD cX11_error 22 (.ireturn) 1 23 := by decide +kernel
theorem dX11_error_23 : fnD cX11_error 23 (.iload_n 3) 1 24 := by decide +kernel
theorem dX11_error_24 : fnD cX11_error 24 (.invokestatic 165) 3 27 := by decide +kernel
theorem dX11_error_27 : fnIf cX11_error 27 .eq 34 30 := by decide +kernel
theorem dX11_error_30 : fnD cX11_error 30 (.sipush (-2002)) 3 33 := by decide +kernel
theorem dX11_error_33 : fnD cX11_error 33 (.ireturn) 1 34 := by decide +kernel
theorem dX11_error_34 : fnD cX11_error 34 (.aload_n 0) 1 35 := by decide +kernel
theorem dX11_error_35 : fnD cX11_error 35 (.iload_n 1) 1 36 := by decide +kernel
theorem dX11_error_36 : fnD cX11_error 36 (.invokevirtual 168) 3 39 := by decide +kernel
theorem dX11_error_39 : fnD cX11_error 39 (.aload_n 0) 1 40 := by decide +kernel
theorem dX11_error_40 : fnD cX11_error 40 (.iload_n 2) 1 41 := by decide +kernel
theorem dX11_error_41 : fnD cX11_error 41 (.iload_n 3) 1 42 := by decide +kernel
theorem dX11_error_42 : fnD cX11_error 42 (.invokevirtual 138) 3 45 := by decide +kernel
theorem dX11_error_45 : fnD cX11_error 45 (.ireturn) 1 46 := by decide +kernel
theorem dX11_errorAt_0 : fnD cX11_errorAt 0 (.aload_n 0) 1 1 := by decide +kernel
theorem dX11_errorAt_1 : fnD cX11_errorAt 1 (.iconst 0) 1 2 := by decide +kernel
theorem dX11_errorAt_2 : fnD cX11_errorAt 2 (.putfield 96) 3 5 := by decide +kernel
theorem dX11_errorAt_5 : fnD cX11_errorAt 5 (.iload_n 1) 1 6 := by decide +kernel
theorem dX11_errorAt_6 : fnD cX11_errorAt 6 (.invokestatic 154) 3 9 := by decide +kernel
theorem dX11_errorAt_9 : fnIf cX11_errorAt 9 .eq 16 12 := by decide +kernel
theorem dX11_errorAt_12 : fnD cX11_errorAt 12 (.sipush (-2001)) 3 15 := by decide +kernel
theorem dX11_errorAt_15 : fnD cX11_errorAt 15 (.ireturn) 1 16 := by decide +kernel
theorem dX11_errorAt_16 : fnD cX11_errorAt 16 (.iload_n 2) 1 17 := by decide +kernel
theorem dX11_errorAt_17 : fnD cX11_errorAt 17 (.invokestatic 144) 3 20 := by decide +kernel
theorem dX11_errorAt_20 : fnIf cX11_errorAt 20 .ne 30 23 := by decide +kernel
theorem dX11_errorAt_23 : fnD cX11_errorAt 23 (.iload_n 3) 1 24 := by decide +kernel
theorem dX11_errorAt_24 : fnD cX11_errorAt 24 (.invokestatic 165) 3 27 := by decide +kernel
theorem dX11_errorAt_27 : fnIf cX11_errorAt 27 .eq 34 30 := by decide +kernel
theorem dX11_errorAt_30 : fnD cX11_errorAt 30 (.sipush (-2002)) 3 33 := by decide +kernel
theorem dX11_errorAt_33 : fnD cX11_errorAt 33 (.ireturn) 1 34 := by decide +kernel
theorem dX11_errorAt_34 : fnD cX11_errorAt 34 (.aload_n 0) 1 35 := by decide +kernel
theorem dX11_errorAt_35 : fnD cX11_errorAt 35 (.iload_n 1) 1 36 := by decide +kernel
theorem dX11_errorAt_36 : fnD cX11_errorAt 36 (.invokevirtual 168) 3 39 := by decide +kernel
theorem dX11_errorAt_39 : fnD cX11_errorAt 39 (.aload_n 0) 1 40 := by decide +kernel
theorem dX11_errorAt_40 : fnD cX11_errorAt 40 (.iload_n 3) 1 41 := by decide +kernel
theorem dX11_errorAt_41 : fnD cX11_errorAt 41 (.invokevirtual 172) 3 44 := by decide +kernel
theorem dX11_errorAt_44 : fnD cX11_errorAt 44 (.aload_n 0) 1 45 := by decide +kernel
theorem dX11_errorAt_45 : fnD cX11_errorAt 45 (.iload_n 2) 1 46 := by decide +kernel
theorem dX11_errorAt_46 : fnD cX11_errorAt 46 (.invokevirtual 141) 3 49 := by decide +kernel
theorem dX11_errorAt_49 : fnD cX11_errorAt 49 (.ireturn) 1 50 := by decide +kernel
theorem dX11_trueOf_0 : fnD cX11_trueOf 0 (.aload_n 0) 1 1 := by decide +kernel
theorem dX11_trueOf_1 : fnD cX11_trueOf 1 (.iconst 0) 1 2 := by decide +kernel
theorem dX11_trueOf_2 : fnD cX11_trueOf 2 (.putfield 96) 3 5 := by decide +kernel
theorem dX11_trueOf_5 : fnD cX11_trueOf 5 (.iload_n 1) 1 6 := by decide +kernel
theorem dX11_trueOf_6 : fnD cX11_trueOf 6 (.invokestatic 154) 3 9 := by decide +kernel
theorem dX11_trueOf_9 : fnIf cX11_trueOf 9 .eq 16 12 := by decide +kernel
theorem dX11_trueOf_12 : fnD cX11_trueOf 12 (.sipush (-2001)) 3 15 := by decide +kernel
theorem dX11_trueOf_15 : fnD cX11_trueOf 15 (.ireturn) 1 16 := by decide +kernel
theorem dX11_trueOf_16 : fnD cX11_trueOf 16 (.iload_n 2) 1 17 := by decide +kernel
theorem dX11_trueOf_17 : fnD cX11_trueOf 17 (.invokestatic 144) 3 20 := by decide +kernel
theorem dX11_trueOf_20 : fnIf cX11_trueOf 20 .ne 30 23 := by decide +kernel
theorem dX11_trueOf_23 : fnD cX11_trueOf 23 (.iload_n 3) 1 24 := by decide +kernel
theorem dX11_trueOf_24 : fnD cX11_trueOf 24 (.invokestatic 165) 3 27 := by decide +kernel
theorem dX11_trueOf_27 : fnIf cX11_trueOf 27 .eq 34 30 := by decide +kernel
theorem dX11_trueOf_30 : fnD cX11_trueOf 30 (.sipush (-2002)) 3 33 := by decide +kernel
theorem dX11_trueOf_33 : fnD cX11_trueOf 33 (.ireturn) 1 34 := by decide +kernel
theorem dX11_trueOf_34 : fnD cX11_trueOf 34 (.aload_n 0) 1 35 := by decide +kernel
theorem dX11_trueOf_35 : fnD cX11_trueOf 35 (.iload_n 1) 1 36 := by decide +kernel
theorem dX11_trueOf_36 : fnD cX11_trueOf 36 (.invokevirtual 168) 3 39 := by decide +kernel
theorem dX11_trueOf_39 : fnD cX11_trueOf 39 (.aload_n 0) 1 40 := by decide +kernel
theorem dX11_trueOf_40 : fnD cX11_trueOf 40 (.iload_n 3) 1 41 := by decide +kernel
theorem dX11_trueOf_41 : fnD cX11_trueOf 41 (.invokevirtual 172) 3 44 := by decide +kernel
theorem dX11_trueOf_44 : fnD cX11_trueOf 44 (.aload_n 0) 1 45 := by decide +kernel
theorem dX11_trueOf_45 : fnD cX11_trueOf 45 (.iload_n 2) 1 46 := by decide +kernel
theorem dX11_trueOf_46 : fnD cX11_trueOf 46 (.invokevirtual 175) 3 49 := by decide +kernel
theorem dX11_trueOf_49 : fnD cX11_trueOf 49 (.ireturn) 1 50 := by decide +kernel
theorem dX11_steer_0 : fnD cX11_steer 0 (.aload_n 0) 1 1 := by decide +kernel
theorem dX11_steer_1 : fnD cX11_steer 1 (.iconst 0) 1 2 := by decide +kernel
theorem dX11_steer_2 : fnD cX11_steer 2 (.putfield 96) 3 5 := by decide +kernel
theorem dX11_steer_5 : fnD cX11_steer 5 (.iload_n 1) 1 6 := by decide +kernel
theorem dX11_steer_6 : fnD cX11_steer 6 (.invokestatic 154) 3 9 := by decide +kernel
theorem dX11_steer_9 : fnIf cX11_steer 9 .eq 16 12 := by decide +kernel
theorem dX11_steer_12 : fnD cX11_steer 12 (.sipush (-2001)) 3 15 := by decide +kernel
theorem dX11_steer_15 : fnD cX11_steer 15 (.ireturn) 1 16 := by decide +kernel
theorem dX11_steer_16 : fnD cX11_steer 16 (.iload_n 2) 1 17 := by decide +kernel
theorem dX11_steer_17 : fnD cX11_steer 17 (.invokestatic 144) 3 20 := by decide +kernel
theorem dX11_steer_20 : fnIf cX11_steer 20 .ne 30 23 := by decide +kernel
theorem dX11_steer_23 : fnD cX11_steer 23 (.iload_n 3) 1 24 := by decide +kernel
theorem dX11_steer_24 : fnD cX11_steer 24 (.invokestatic 165) 3 27 := by decide +kernel
theorem dX11_steer_27 : fnIf cX11_steer 27 .eq 34 30 := by decide +kernel
theorem dX11_steer_30 : fnD cX11_steer 30 (.sipush (-2002)) 3 33 := by decide +kernel
theorem dX11_steer_33 : fnD cX11_steer 33 (.ireturn) 1 34 := by decide +kernel
theorem dX11_steer_34 : fnD cX11_steer 34 (.aload_n 0) 1 35 := by decide +kernel
theorem dX11_steer_35 : fnD cX11_steer 35 (.iload_n 1) 1 36 := by decide +kernel
theorem dX11_steer_36 : fnD cX11_steer 36 (.invokevirtual 168) 3 39 := by decide +kernel
theorem dX11_steer_39 : fnD cX11_steer 39 (.aload_n 0) 1 40 := by decide +kernel
theorem dX11_steer_40 : fnD cX11_steer 40 (.iload_n 3) 1 41 := by decide +kernel
theorem dX11_steer_41 : fnD cX11_steer 41 (.invokevirtual 172) 3 44 := by decide +kernel
theorem dX11_steer_44 : fnD cX11_steer 44 (.iconst 0) 1 45 := by decide +kernel
theorem dX11_steer_45 : fnD cX11_steer 45 (.istore 4) 2 47 := by decide +kernel
theorem dX11_steer_47 : fnD cX11_steer 47 (.iconst 1) 1 48 := by decide +kernel
theorem dX11_steer_48 : fnD cX11_steer 48 (.istore 5) 2 50 := by decide +kernel
theorem dX11_steer_50 : fnD cX11_steer 50 (.iload 5) 2 52 := by decide +kernel
theorem dX11_steer_52 : fnD cX11_steer 52 (.sipush 3200) 3 55 := by decide +kernel
theorem dX11_steer_55 : fnIc cX11_steer 55 .ge 102 58 := by decide +kernel
theorem dX11_steer_58 : fnD cX11_steer 58 (.aload_n 0) 1 59 := by decide +kernel
theorem dX11_steer_59 : fnD cX11_steer 59 (.iload 5) 2 61 := by decide +kernel
theorem dX11_steer_61 : fnD cX11_steer 61 (.invokevirtual 175) 3 64 := by decide +kernel
theorem dX11_steer_64 : fnD cX11_steer 64 (.iload_n 2) 1 65 := by decide +kernel
theorem dX11_steer_65 : fnD cX11_steer 65 (.invokestatic 151) 3 68 := by decide +kernel
theorem dX11_steer_68 : fnD cX11_steer 68 (.invokestatic 178) 3 71 := by decide +kernel
theorem dX11_steer_71 : fnD cX11_steer 71 (.aload_n 0) 1 72 := by decide +kernel
theorem dX11_steer_72 : fnD cX11_steer 72 (.iload 4) 2 74 := by decide +kernel
theorem dX11_steer_74 : fnD cX11_steer 74 (.invokevirtual 175) 3 77 := by decide +kernel
theorem dX11_steer_77 : fnD cX11_steer 77 (.iload_n 2) 1 78 := by decide +kernel
theorem dX11_steer_78 : fnD cX11_steer 78 (.invokestatic 151) 3 81 := by decide +kernel
theorem dX11_steer_81 : fnD cX11_steer 81 (.invokestatic 178) 3 84 := by decide +kernel
theorem dX11_steer_84 : fnIc cX11_steer 84 .ge 92 87 := by decide +kernel
theorem dX11_steer_87 : fnD cX11_steer 87 (.iload 5) 2 89 := by decide +kernel
theorem dX11_steer_89 : fnGo cX11_steer 89 94 := by decide +kernel
theorem dX11_steer_92 : fnD cX11_steer 92 (.iload 4) 2 94 := by decide +kernel
theorem dX11_steer_94 : fnD cX11_steer 94 (.istore 4) 2 96 := by decide +kernel
theorem dX11_steer_96 : fnD cX11_steer 96 (.iinc 5 1) 3 99 := by decide +kernel
theorem dX11_steer_99 : fnGo cX11_steer 99 50 := by decide +kernel
theorem dX11_steer_102 : fnD cX11_steer 102 (.iload 4) 2 104 := by decide +kernel
theorem dX11_steer_104 : fnD cX11_steer 104 (.ireturn) 1 105 := by decide +kernel
theorem dX11_worst_0 : fnD cX11_worst 0 (.aload_n 0) 1 1 := by decide +kernel
theorem dX11_worst_1 : fnD cX11_worst 1 (.iconst 0) 1 2 := by decide +kernel
theorem dX11_worst_2 : fnD cX11_worst 2 (.putfield 96) 3 5 := by decide +kernel
theorem dX11_worst_5 : fnD cX11_worst 5 (.iload_n 1) 1 6 := by decide +kernel
theorem dX11_worst_6 : fnD cX11_worst 6 (.invokestatic 154) 3 9 := by decide +kernel
theorem dX11_worst_9 : fnIf cX11_worst 9 .eq 16 12 := by decide +kernel
theorem dX11_worst_12 : fnD cX11_worst 12 (.sipush (-2001)) 3 15 := by decide +kernel
theorem dX11_worst_15 : fnD cX11_worst 15 (.ireturn) 1 16 := by decide +kernel
theorem dX11_worst_16 : fnD cX11_worst 16 (.aload_n 0) 1 17 := by decide +kernel
theorem dX11_worst_17 : fnD cX11_worst 17 (.iload_n 1) 1 18 := by decide +kernel
theorem dX11_worst_18 : fnD cX11_worst 18 (.invokevirtual 168) 3 21 := by decide +kernel
theorem dX11_worst_21 : fnD cX11_worst 21 (.aload_n 0) 1 22 := by decide +kernel
theorem dX11_worst_22 : fnD cX11_worst 22 (.iconst 0) 1 23 := by decide +kernel
theorem dX11_worst_23 : fnD cX11_worst 23 (.invokevirtual 172) 3 26 := by decide +kernel
theorem dX11_worst_26 : fnD cX11_worst 26 (.iconst 0) 1 27 := by decide +kernel
theorem dX11_worst_27 : fnD cX11_worst 27 (.istore_n 2) 1 28 := by decide +kernel
theorem dX11_worst_28 : fnD cX11_worst 28 (.iconst 0) 1 29 := by decide +kernel
theorem dX11_worst_29 : fnD cX11_worst 29 (.istore_n 3) 1 30 := by decide +kernel
theorem dX11_worst_30 : fnD cX11_worst 30 (.iload_n 3) 1 31 := by decide +kernel
theorem dX11_worst_31 : fnD cX11_worst 31 (.bipush 32) 2 33 := by decide +kernel
theorem dX11_worst_33 : fnIc cX11_worst 33 .ge 69 36 := by decide +kernel
theorem dX11_worst_36 : fnD cX11_worst 36 (.aload_n 0) 1 37 := by decide +kernel
theorem dX11_worst_37 : fnD cX11_worst 37 (.getfield 81) 3 40 := by decide +kernel
theorem dX11_worst_40 : fnD cX11_worst 40 (.iload_n 3) 1 41 := by decide +kernel
theorem dX11_worst_41 : fnD cX11_worst 41 (.iaload) 1 42 := by decide +kernel
theorem dX11_worst_42 : fnD cX11_worst 42 (.invokestatic 178) 3 45 := by decide +kernel
theorem dX11_worst_45 : fnD cX11_worst 45 (.iload_n 2) 1 46 := by decide +kernel
theorem dX11_worst_46 : fnIc cX11_worst 46 .le 61 49 := by decide +kernel
theorem dX11_worst_49 : fnD cX11_worst 49 (.aload_n 0) 1 50 := by decide +kernel
theorem dX11_worst_50 : fnD cX11_worst 50 (.getfield 81) 3 53 := by decide +kernel
theorem dX11_worst_53 : fnD cX11_worst 53 (.iload_n 3) 1 54 := by decide +kernel
theorem dX11_worst_54 : fnD cX11_worst 54 (.iaload) 1 55 := by decide +kernel
theorem dX11_worst_55 : fnD cX11_worst 55 (.invokestatic 178) 3 58 := by decide +kernel
theorem dX11_worst_58 : fnGo cX11_worst 58 62 := by decide +kernel
theorem dX11_worst_61 : fnD cX11_worst 61 (.iload_n 2) 1 62 := by decide +kernel
theorem dX11_worst_62 : fnD cX11_worst 62 (.istore_n 2) 1 63 := by decide +kernel
theorem dX11_worst_63 : fnD cX11_worst 63 (.iinc 3 1) 3 66 := by decide +kernel
theorem dX11_worst_66 : fnGo cX11_worst 66 30 := by decide +kernel
theorem dX11_worst_69 : fnD cX11_worst 69 (.iload_n 2) 1 70 := by decide +kernel
theorem dX11_worst_70 : fnD cX11_worst 70 (.ireturn) 1 71 := by decide +kernel
theorem dX11_worstAt_0 : fnD cX11_worstAt 0 (.aload_n 0) 1 1 := by decide +kernel
theorem dX11_worstAt_1 : fnD cX11_worstAt 1 (.iconst 0) 1 2 := by decide +kernel
theorem dX11_worstAt_2 : fnD cX11_worstAt 2 (.putfield 96) 3 5 := by decide +kernel
theorem dX11_worstAt_5 : fnD cX11_worstAt 5 (.iload_n 1) 1 6 := by decide +kernel
theorem dX11_worstAt_6 : fnD cX11_worstAt 6 (.invokestatic 154) 3 9 := by decide +kernel
theorem dX11_worstAt_9 : fnIf cX11_worstAt 9 .eq 16 12 := by decide +kernel
theorem dX11_worstAt_12 : fnD cX11_worstAt 12 (.sipush (-2001)) 3 15 := by decide +kernel
theorem dX11_worstAt_15 : fnD cX11_worstAt 15 (.ireturn) 1 16 := by decide +kernel
theorem dX11_worstAt_16 : fnD cX11_worstAt 16 (.aload_n 0) 1 17 := by decide +kernel
theorem dX11_worstAt_17 : fnD cX11_worstAt 17 (.iload_n 1) 1 18 := by decide +kernel
theorem dX11_worstAt_18 : fnD cX11_worstAt 18 (.invokevirtual 168) 3 21 := by decide +kernel
theorem dX11_worstAt_21 : fnD cX11_worstAt 21 (.aload_n 0) 1 22 := by decide +kernel
theorem dX11_worstAt_22 : fnD cX11_worstAt 22 (.iconst 0) 1 23 := by decide +kernel
theorem dX11_worstAt_23 : fnD cX11_worstAt 23 (.invokevirtual 172) 3 26 := by decide +kernel
theorem dX11_worstAt_26 : fnD cX11_worstAt 26 (.iconst 0) 1 27 := by decide +kernel
theorem dX11_worstAt_27 : fnD cX11_worstAt 27 (.istore_n 2) 1 28 := by decide +kernel
theorem dX11_worstAt_28 : fnD cX11_worstAt 28 (.iconst 1) 1 29 := by decide +kernel
theorem dX11_worstAt_29 : fnD cX11_worstAt 29 (.istore_n 3) 1 30 := by decide +kernel
theorem dX11_worstAt_30 : fnD cX11_worstAt 30 (.iload_n 3) 1 31 := by decide +kernel
theorem dX11_worstAt_31 : fnD cX11_worstAt 31 (.bipush 32) 2 33 := by decide +kernel
theorem dX11_worstAt_33 : fnIc cX11_worstAt 33 .ge 69 36 := by decide +kernel
theorem dX11_worstAt_36 : fnD cX11_worstAt 36 (.aload_n 0) 1 37 := by decide +kernel
theorem dX11_worstAt_37 : fnD cX11_worstAt 37 (.getfield 81) 3 40 := by decide +kernel
theorem dX11_worstAt_40 : fnD cX11_worstAt 40 (.iload_n 3) 1 41 := by decide +kernel
theorem dX11_worstAt_41 : fnD cX11_worstAt 41 (.iaload) 1 42 := by decide +kernel
theorem dX11_worstAt_42 : fnD cX11_worstAt 42 (.invokestatic 178) 3 45 := by decide +kernel
theorem dX11_worstAt_45 : fnD cX11_worstAt 45 (.aload_n 0) 1 46 := by decide +kernel
theorem dX11_worstAt_46 : fnD cX11_worstAt 46 (.getfield 81) 3 49 := by decide +kernel
theorem dX11_worstAt_49 : fnD cX11_worstAt 49 (.iload_n 2) 1 50 := by decide +kernel
theorem dX11_worstAt_50 : fnD cX11_worstAt 50 (.iaload) 1 51 := by decide +kernel
theorem dX11_worstAt_51 : fnD cX11_worstAt 51 (.invokestatic 178) 3 54 := by decide +kernel
theorem dX11_worstAt_54 : fnIc cX11_worstAt 54 .le 61 57 := by decide +kernel
theorem dX11_worstAt_57 : fnD cX11_worstAt 57 (.iload_n 3) 1 58 := by decide +kernel
theorem dX11_worstAt_58 : fnGo cX11_worstAt 58 62 := by decide +kernel
theorem dX11_worstAt_61 : fnD cX11_worstAt 61 (.iload_n 2) 1 62 := by decide +kernel
theorem dX11_worstAt_62 : fnD cX11_worstAt 62 (.istore_n 2) 1 63 := by decide +kernel
theorem dX11_worstAt_63 : fnD cX11_worstAt 63 (.iinc 3 1) 3 66 := by decide +kernel
theorem dX11_worstAt_66 : fnGo cX11_worstAt 66 30 := by decide +kernel
theorem dX11_worstAt_69 : fnD cX11_worstAt 69 (.iload_n 2) 1 70 := by decide +kernel
theorem dX11_worstAt_70 : fnD cX11_worstAt 70 (.ireturn) 1 71 := by decide +kernel
theorem dX11_twofold_0 : fnD cX11_twofold 0 (.aload_n 0) 1 1 := by decide +kernel
theorem dX11_twofold_1 : fnD cX11_twofold 1 (.iconst 0) 1 2 := by decide +kernel
theorem dX11_twofold_2 : fnD cX11_twofold 2 (.putfield 96) 3 5 := by decide +kernel
theorem dX11_twofold_5 : fnD cX11_twofold 5 (.iload_n 1) 1 6 := by decide +kernel
theorem dX11_twofold_6 : fnD cX11_twofold 6 (.invokestatic 154) 3 9 := by decide +kernel
theorem dX11_twofold_9 : fnIf cX11_twofold 9 .eq 16 12 := by decide +kernel
theorem dX11_twofold_12 : fnD cX11_twofold 12 (.sipush (-2001)) 3 15 := by decide +kernel
theorem dX11_twofold_15 : fnD cX11_twofold 15 (.ireturn) 1 16 := by decide +kernel
theorem dX11_twofold_16 : fnD cX11_twofold 16 (.aload_n 0) 1 17 := by decide +kernel
theorem dX11_twofold_17 : fnD cX11_twofold 17 (.iload_n 1) 1 18 := by decide +kernel
theorem dX11_twofold_18 : fnD cX11_twofold 18 (.invokevirtual 168) 3 21 := by decide +kernel
theorem dX11_twofold_21 : fnD cX11_twofold 21 (.aload_n 0) 1 22 := by decide +kernel
theorem dX11_twofold_22 : fnD cX11_twofold 22 (.iconst 0) 1 23 := by decide +kernel
theorem dX11_twofold_23 : fnD cX11_twofold 23 (.invokevirtual 172) 3 26 := by decide +kernel
theorem dX11_twofold_26 : fnD cX11_twofold 26 (.iconst 0) 1 27 := by decide +kernel
theorem dX11_twofold_27 : fnD cX11_twofold 27 (.istore_n 2) 1 28 := by decide +kernel
theorem dX11_twofold_28 : fnD cX11_twofold 28 (.iconst 0) 1 29 := by decide +kernel
theorem dX11_twofold_29 : fnD cX11_twofold 29 (.istore_n 3) 1 30 := by decide +kernel
theorem dX11_twofold_30 : fnD cX11_twofold 30 (.iload_n 3) 1 31 := by decide +kernel
theorem dX11_twofold_31 : fnD cX11_twofold 31 (.bipush 32) 2 33 := by decide +kernel
theorem dX11_twofold_33 : fnIc cX11_twofold 33 .ge 99 36 := by decide +kernel
theorem dX11_twofold_36 : fnD cX11_twofold 36 (.iconst 0) 1 37 := by decide +kernel
theorem dX11_twofold_37 : fnD cX11_twofold 37 (.istore 4) 2 39 := by decide +kernel
theorem dX11_twofold_39 : fnD cX11_twofold 39 (.iconst 0) 1 40 := by decide +kernel
theorem dX11_twofold_40 : fnD cX11_twofold 40 (.istore 5) 2 42 := by decide +kernel
theorem dX11_twofold_42 : fnD cX11_twofold 42 (.iload 5) 2 44 := by decide +kernel
theorem dX11_twofold_44 : fnD cX11_twofold 44 (.sipush 3200) 3 47 := by decide +kernel
theorem dX11_twofold_47 : fnIc cX11_twofold 47 .ge 79 50 := by decide +kernel
theorem dX11_twofold_50 : fnD cX11_twofold 50 (.iload 4) 2 52 := by decide +kernel
theorem dX11_twofold_52 : fnD cX11_twofold 52 (.aload_n 0) 1 53 := by decide +kernel
theorem dX11_twofold_53 : fnD cX11_twofold 53 (.iload 5) 2 55 := by decide +kernel
theorem dX11_twofold_55 : fnD cX11_twofold 55 (.invokevirtual 175) 3 58 := by decide +kernel
theorem dX11_twofold_58 : fnD cX11_twofold 58 (.bipush 100) 2 60 := by decide +kernel
theorem dX11_twofold_60 : fnD cX11_twofold 60 (.iload_n 3) 1 61 := by decide +kernel
theorem dX11_twofold_61 : fnD cX11_twofold 61 (.imul) 1 62 := by decide +kernel
theorem dX11_twofold_62 : fnIc cX11_twofold 62 .ne 69 65 := by decide +kernel
theorem dX11_twofold_65 : fnD cX11_twofold 65 (.iconst 1) 1 66 := by decide +kernel
theorem dX11_twofold_66 : fnGo cX11_twofold 66 70 := by decide +kernel
theorem dX11_twofold_69 : fnD cX11_twofold 69 (.iconst 0) 1 70 := by decide +kernel
theorem dX11_twofold_70 : fnD cX11_twofold 70 (.iadd) 1 71 := by decide +kernel
theorem dX11_twofold_71 : fnD cX11_twofold 71 (.istore 4) 2 73 := by decide +kernel
theorem dX11_twofold_73 : fnD cX11_twofold 73 (.iinc 5 1) 3 76 := by decide +kernel
theorem dX11_twofold_76 : fnGo cX11_twofold 76 42 := by decide +kernel
theorem dX11_twofold_79 : fnD cX11_twofold 79 (.iload_n 2) 1 80 := by decide +kernel
theorem dX11_twofold_80 : fnD cX11_twofold 80 (.iload 4) 2 82 := by decide +kernel
theorem dX11_twofold_82 : fnD cX11_twofold 82 (.iconst 1) 1 83 := by decide +kernel
theorem dX11_twofold_83 : fnIc cX11_twofold 83 .le 90 86 := by decide +kernel
theorem dX11_twofold_86 : fnD cX11_twofold 86 (.iconst 1) 1 87 := by decide +kernel
theorem dX11_twofold_87 : fnGo cX11_twofold 87 91 := by decide +kernel
theorem dX11_twofold_90 : fnD cX11_twofold 90 (.iconst 0) 1 91 := by decide +kernel
theorem dX11_twofold_91 : fnD cX11_twofold 91 (.iadd) 1 92 := by decide +kernel
theorem dX11_twofold_92 : fnD cX11_twofold 92 (.istore_n 2) 1 93 := by decide +kernel
theorem dX11_twofold_93 : fnD cX11_twofold 93 (.iinc 3 1) 3 96 := by decide +kernel
theorem dX11_twofold_96 : fnGo cX11_twofold 96 30 := by decide +kernel
theorem dX11_twofold_99 : fnD cX11_twofold 99 (.iload_n 2) 1 100 := by decide +kernel
theorem dX11_twofold_100 : fnD cX11_twofold 100 (.ireturn) 1 101 := by decide +kernel
theorem dX11_see_0 : fnD cX11_see 0 (.aload_n 0) 1 1 := by decide +kernel
theorem dX11_see_1 : fnD cX11_see 1 (.iconst 0) 1 2 := by decide +kernel
theorem dX11_see_2 : fnD cX11_see 2 (.putfield 96) 3 5 := by decide +kernel
theorem dX11_see_5 : fnD cX11_see 5 (.iload_n 1) 1 6 := by decide +kernel
theorem dX11_see_6 : fnD cX11_see 6 (.invokestatic 154) 3 9 := by decide +kernel
theorem dX11_see_9 : fnIf cX11_see 9 .ne 19 12 := by decide +kernel
theorem dX11_see_12 : fnD cX11_see 12 (.iload_n 2) 1 13 := by decide +kernel
theorem dX11_see_13 : fnD cX11_see 13 (.invokestatic 162) 3 16 := by decide +kernel
theorem dX11_see_16 : fnIf cX11_see 16 .eq 23 19 := by decide +kernel
theorem dX11_see_19 : fnD cX11_see 19 (.sipush (-2001)) 3 22 := by decide +kernel
theorem dX11_see_22 : fnD cX11_see 22 (.ireturn) 1 23 := by decide +kernel
theorem dX11_see_23 : fnD cX11_see 23 (.iload_n 3) 1 24 := by decide +kernel
theorem dX11_see_24 : fnD cX11_see 24 (.i2l) 1 25 := by decide +kernel
theorem dX11_see_25 : fnD cX11_see 25 (.ldc2_w 181) 3 28 := by decide +kernel
theorem dX11_see_28 : fnD cX11_see 28 (.ldc2_w 183) 3 31 := by decide +kernel
theorem dX11_see_31 : fnD cX11_see 31 (.invokestatic 117) 3 34 := by decide +kernel
theorem dX11_see_34 : fnIf cX11_see 34 .ne 41 37 := by decide +kernel
theorem dX11_see_37 : fnD cX11_see 37 (.sipush (-2002)) 3 40 := by decide +kernel
theorem dX11_see_40 : fnD cX11_see 40 (.ireturn) 1 41 := by decide +kernel
theorem dX11_see_41 : fnD cX11_see 41 (.aload_n 0) 1 42 := by decide +kernel
theorem dX11_see_42 : fnD cX11_see 42 (.getfield 13) 3 45 := by decide +kernel
theorem dX11_see_45 : fnD cX11_see 45 (.bipush 32) 2 47 := by decide +kernel
theorem dX11_see_47 : fnD cX11_see 47 (.iload_n 1) 1 48 := by decide +kernel
theorem dX11_see_48 : fnD cX11_see 48 (.imul) 1 49 := by decide +kernel
theorem dX11_see_49 : fnD cX11_see 49 (.iload_n 2) 1 50 := by decide +kernel
theorem dX11_see_50 : fnD cX11_see 50 (.iadd) 1 51 := by decide +kernel
theorem dX11_see_51 : fnD cX11_see 51 (.iaload) 1 52 := by decide +kernel
theorem dX11_see_52 : fnD cX11_see 52 (.istore 4) 2 54 := by decide +kernel
theorem dX11_see_54 : fnD cX11_see 54 (.aload_n 0) 1 55 := by decide +kernel
theorem dX11_see_55 : fnD cX11_see 55 (.getfield 13) 3 58 := by decide +kernel
theorem dX11_see_58 : fnD cX11_see 58 (.bipush 32) 2 60 := by decide +kernel
theorem dX11_see_60 : fnD cX11_see 60 (.iload_n 1) 1 61 := by decide +kernel
theorem dX11_see_61 : fnD cX11_see 61 (.imul) 1 62 := by decide +kernel
theorem dX11_see_62 : fnD cX11_see 62 (.iload_n 2) 1 63 := by decide +kernel
theorem dX11_see_63 : fnD cX11_see 63 (.iadd) 1 64 := by decide +kernel
theorem dX11_see_64 : fnD cX11_see 64 (.iload_n 3) 1 65 := by decide +kernel
theorem dX11_see_65 : fnD cX11_see 65 (.iastore) 1 66 := by decide +kernel
theorem dX11_see_66 : fnD cX11_see 66 (.iload 4) 2 68 := by decide +kernel
theorem dX11_see_68 : fnD cX11_see 68 (.ireturn) 1 69 := by decide +kernel
theorem dX11_forget_0 : fnD cX11_forget 0 (.aload_n 0) 1 1 := by decide +kernel
theorem dX11_forget_1 : fnD cX11_forget 1 (.iconst 0) 1 2 := by decide +kernel
theorem dX11_forget_2 : fnD cX11_forget 2 (.putfield 96) 3 5 := by decide +kernel
theorem dX11_forget_5 : fnD cX11_forget 5 (.iload_n 1) 1 6 := by decide +kernel
theorem dX11_forget_6 : fnD cX11_forget 6 (.invokestatic 154) 3 9 := by decide +kernel
theorem dX11_forget_9 : fnIf cX11_forget 9 .ne 19 12 := by decide +kernel
theorem dX11_forget_12 : fnD cX11_forget 12 (.iload_n 2) 1 13 := by decide +kernel
theorem dX11_forget_13 : fnD cX11_forget 13 (.invokestatic 162) 3 16 := by decide +kernel
theorem dX11_forget_16 : fnIf cX11_forget 16 .eq 23 19 := by decide +kernel
theorem dX11_forget_19 : fnD cX11_forget 19 (.sipush (-2001)) 3 22 := by decide +kernel
theorem dX11_forget_22 : fnD cX11_forget 22 (.ireturn) 1 23 := by decide +kernel
theorem dX11_forget_23 : fnD cX11_forget 23 (.aload_n 0) 1 24 := by decide +kernel
theorem dX11_forget_24 : fnD cX11_forget 24 (.getfield 13) 3 27 := by decide +kernel
theorem dX11_forget_27 : fnD cX11_forget 27 (.bipush 32) 2 29 := by decide +kernel
theorem dX11_forget_29 : fnD cX11_forget 29 (.iload_n 1) 1 30 := by decide +kernel
theorem dX11_forget_30 : fnD cX11_forget 30 (.imul) 1 31 := by decide +kernel
theorem dX11_forget_31 : fnD cX11_forget 31 (.iload_n 2) 1 32 := by decide +kernel
theorem dX11_forget_32 : fnD cX11_forget 32 (.iadd) 1 33 := by decide +kernel
theorem dX11_forget_33 : fnD cX11_forget 33 (.iaload) 1 34 := by decide +kernel
theorem dX11_forget_34 : fnD cX11_forget 34 (.sipush (-2009)) 3 37 := by decide +kernel
theorem dX11_forget_37 : fnIc cX11_forget 37 .ne 44 40 := by decide +kernel
theorem dX11_forget_40 : fnD cX11_forget 40 (.sipush (-2003)) 3 43 := by decide +kernel
theorem dX11_forget_43 : fnD cX11_forget 43 (.ireturn) 1 44 := by decide +kernel
theorem dX11_forget_44 : fnD cX11_forget 44 (.aload_n 0) 1 45 := by decide +kernel
theorem dX11_forget_45 : fnD cX11_forget 45 (.getfield 13) 3 48 := by decide +kernel
theorem dX11_forget_48 : fnD cX11_forget 48 (.bipush 32) 2 50 := by decide +kernel
theorem dX11_forget_50 : fnD cX11_forget 50 (.iload_n 1) 1 51 := by decide +kernel
theorem dX11_forget_51 : fnD cX11_forget 51 (.imul) 1 52 := by decide +kernel
theorem dX11_forget_52 : fnD cX11_forget 52 (.iload_n 2) 1 53 := by decide +kernel
theorem dX11_forget_53 : fnD cX11_forget 53 (.iadd) 1 54 := by decide +kernel
theorem dX11_forget_54 : fnD cX11_forget 54 (.sipush (-2009)) 3 57 := by decide +kernel
theorem dX11_forget_57 : fnD cX11_forget 57 (.iastore) 1 58 := by decide +kernel
theorem dX11_forget_58 : fnD cX11_forget 58 (.iconst 1) 1 59 := by decide +kernel
theorem dX11_forget_59 : fnD cX11_forget 59 (.ireturn) 1 60 := by decide +kernel
theorem dX11_seenOf_0 : fnD cX11_seenOf 0 (.iconst 0) 1 1 := by decide +kernel
theorem dX11_seenOf_1 : fnD cX11_seenOf 1 (.istore_n 2) 1 2 := by decide +kernel
theorem dX11_seenOf_2 : fnD cX11_seenOf 2 (.iconst 0) 1 3 := by decide +kernel
theorem dX11_seenOf_3 : fnD cX11_seenOf 3 (.istore_n 3) 1 4 := by decide +kernel
theorem dX11_seenOf_4 : fnD cX11_seenOf 4 (.iload_n 3) 1 5 := by decide +kernel
theorem dX11_seenOf_5 : fnD cX11_seenOf 5 (.bipush 32) 2 7 := by decide +kernel
theorem dX11_seenOf_7 : fnIc cX11_seenOf 7 .ge 41 10 := by decide +kernel
theorem dX11_seenOf_10 : fnD cX11_seenOf 10 (.iload_n 2) 1 11 := by decide +kernel
theorem dX11_seenOf_11 : fnD cX11_seenOf 11 (.aload_n 0) 1 12 := by decide +kernel
theorem dX11_seenOf_12 : fnD cX11_seenOf 12 (.getfield 13) 3 15 := by decide +kernel
theorem dX11_seenOf_15 : fnD cX11_seenOf 15 (.bipush 32) 2 17 := by decide +kernel
theorem dX11_seenOf_17 : fnD cX11_seenOf 17 (.iload_n 1) 1 18 := by decide +kernel
theorem dX11_seenOf_18 : fnD cX11_seenOf 18 (.imul) 1 19 := by decide +kernel
theorem dX11_seenOf_19 : fnD cX11_seenOf 19 (.iload_n 3) 1 20 := by decide +kernel
theorem dX11_seenOf_20 : fnD cX11_seenOf 20 (.iadd) 1 21 := by decide +kernel
theorem dX11_seenOf_21 : fnD cX11_seenOf 21 (.iaload) 1 22 := by decide +kernel
theorem dX11_seenOf_22 : fnD cX11_seenOf 22 (.sipush (-2009)) 3 25 := by decide +kernel
theorem dX11_seenOf_25 : fnIc cX11_seenOf 25 .ne 32 28 := by decide +kernel
theorem dX11_seenOf_28 : fnD cX11_seenOf 28 (.iconst 0) 1 29 := by decide +kernel
theorem dX11_seenOf_29 : fnGo cX11_seenOf 29 33 := by decide +kernel
theorem dX11_seenOf_32 : fnD cX11_seenOf 32 (.iconst 1) 1 33 := by decide +kernel
theorem dX11_seenOf_33 : fnD cX11_seenOf 33 (.iadd) 1 34 := by decide +kernel
theorem dX11_seenOf_34 : fnD cX11_seenOf 34 (.istore_n 2) 1 35 := by decide +kernel
theorem dX11_seenOf_35 : fnD cX11_seenOf 35 (.iinc 3 1) 3 38 := by decide +kernel
theorem dX11_seenOf_38 : fnGo cX11_seenOf 38 4 := by decide +kernel
theorem dX11_seenOf_41 : fnD cX11_seenOf 41 (.iload_n 2) 1 42 := by decide +kernel
theorem dX11_seenOf_42 : fnD cX11_seenOf 42 (.ireturn) 1 43 := by decide +kernel
theorem dX11_seen_0 : fnD cX11_seen 0 (.aload_n 0) 1 1 := by decide +kernel
theorem dX11_seen_1 : fnD cX11_seen 1 (.iconst 0) 1 2 := by decide +kernel
theorem dX11_seen_2 : fnD cX11_seen 2 (.putfield 96) 3 5 := by decide +kernel
theorem dX11_seen_5 : fnD cX11_seen 5 (.iload_n 1) 1 6 := by decide +kernel
theorem dX11_seen_6 : fnD cX11_seen 6 (.invokestatic 154) 3 9 := by decide +kernel
theorem dX11_seen_9 : fnIf cX11_seen 9 .eq 18 12 := by decide +kernel
theorem dX11_seen_12 : fnD cX11_seen 12 (.sipush (-2001)) 3 15 := by decide +kernel
theorem dX11_seen_15 : fnGo cX11_seen 15 23 := by decide +kernel
theorem dX11_seen_18 : fnD cX11_seen 18 (.aload_n 0) 1 19 := by decide +kernel
theorem dX11_seen_19 : fnD cX11_seen 19 (.iload_n 1) 1 20 := by decide +kernel
theorem dX11_seen_20 : fnD cX11_seen 20 (.invokevirtual 185) 3 23 := by decide +kernel
theorem dX11_seen_23 : fnD cX11_seen 23 (.ireturn) 1 24 := by decide +kernel
theorem dX11_filledOf_0 : fnD cX11_filledOf 0 (.iconst 0) 1 1 := by decide +kernel
theorem dX11_filledOf_1 : fnD cX11_filledOf 1 (.istore_n 3) 1 2 := by decide +kernel
theorem dX11_filledOf_2 : fnD cX11_filledOf 2 (.aload_n 0) 1 3 := by decide +kernel
theorem dX11_filledOf_3 : fnD cX11_filledOf 3 (.getfield 13) 3 6 := by decide +kernel
theorem dX11_filledOf_6 : fnD cX11_filledOf 6 (.bipush 32) 2 8 := by decide +kernel
theorem dX11_filledOf_8 : fnD cX11_filledOf 8 (.iload_n 1) 1 9 := by decide +kernel
theorem dX11_filledOf_9 : fnD cX11_filledOf 9 (.imul) 1 10 := by decide +kernel
theorem dX11_filledOf_10 : fnD cX11_filledOf 10 (.iload_n 2) 1 11 := by decide +kernel
theorem dX11_filledOf_11 : fnD cX11_filledOf 11 (.bipush 32) 2 13 := by decide +kernel
theorem dX11_filledOf_13 : fnD cX11_filledOf 13 (.iadd) 1 14 := by decide +kernel
theorem dX11_filledOf_14 : fnD cX11_filledOf 14 (.iload_n 3) 1 15 := by decide +kernel
theorem dX11_filledOf_15 : fnD cX11_filledOf 15 (.isub) 1 16 := by decide +kernel
theorem dX11_filledOf_16 : fnD cX11_filledOf 16 (.bipush 32) 2 18 := by decide +kernel
theorem dX11_filledOf_18 : fnD cX11_filledOf 18 (.irem) 1 19 := by decide +kernel
theorem dX11_filledOf_19 : fnD cX11_filledOf 19 (.iadd) 1 20 := by decide +kernel
theorem dX11_filledOf_20 : fnD cX11_filledOf 20 (.iaload) 1 21 := by decide +kernel
theorem dX11_filledOf_21 : fnD cX11_filledOf 21 (.sipush (-2009)) 3 24 := by decide +kernel
theorem dX11_filledOf_24 : fnIc cX11_filledOf 24 .ne 33 27 := by decide +kernel
theorem dX11_filledOf_27 : fnD cX11_filledOf 27 (.iinc 3 1) 3 30 := by decide +kernel
theorem dX11_filledOf_30 : fnGo cX11_filledOf 30 2 := by decide +kernel
theorem dX11_filledOf_33 : fnD cX11_filledOf 33 (.iload_n 3) 1 34 := by decide +kernel
theorem dX11_filledOf_34 : fnIf cX11_filledOf 34 .ne 49 37 := by decide +kernel
theorem dX11_filledOf_37 : fnD cX11_filledOf 37 (.aload_n 0) 1 38 := by decide +kernel
theorem dX11_filledOf_38 : fnD cX11_filledOf 38 (.getfield 13) 3 41 := by decide +kernel
theorem dX11_filledOf_41 : fnD cX11_filledOf 41 (.bipush 32) 2 43 := by decide +kernel
theorem dX11_filledOf_43 : fnD cX11_filledOf 43 (.iload_n 1) 1 44 := by decide +kernel
theorem dX11_filledOf_44 : fnD cX11_filledOf 44 (.imul) 1 45 := by decide +kernel
theorem dX11_filledOf_45 : fnD cX11_filledOf 45 (.iload_n 2) 1 46 := by decide +kernel
theorem dX11_filledOf_46 : fnD cX11_filledOf 46 (.iadd) 1 47 := by decide +kernel
theorem dX11_filledOf_47 : fnD cX11_filledOf 47 (.iaload) 1 48 := by decide +kernel
theorem dX11_filledOf_48 : fnD cX11_filledOf 48 (.ireturn) 1 49 := by decide +kernel
theorem dX11_filledOf_49 : fnD cX11_filledOf 49 (.iconst 0) 1 50 := by decide +kernel
theorem dX11_filledOf_50 : fnD cX11_filledOf 50 (.istore 4) 2 52 := by decide +kernel
theorem dX11_filledOf_52 : fnD cX11_filledOf 52 (.aload_n 0) 1 53 := by decide +kernel
theorem dX11_filledOf_53 : fnD cX11_filledOf 53 (.getfield 13) 3 56 := by decide +kernel
theorem dX11_filledOf_56 : fnD cX11_filledOf 56 (.bipush 32) 2 58 := by decide +kernel
theorem dX11_filledOf_58 : fnD cX11_filledOf 58 (.iload_n 1) 1 59 := by decide +kernel
theorem dX11_filledOf_59 : fnD cX11_filledOf 59 (.imul) 1 60 := by decide +kernel
theorem dX11_filledOf_60 : fnD cX11_filledOf 60 (.iload_n 2) 1 61 := by decide +kernel
theorem dX11_filledOf_61 : fnD cX11_filledOf 61 (.iload 4) 2 63 := by decide +kernel
theorem dX11_filledOf_63 : fnD cX11_filledOf 63 (.iadd) 1 64 := by decide +kernel
theorem dX11_filledOf_64 : fnD cX11_filledOf 64 (.bipush 32) 2 66 := by decide +kernel
theorem dX11_filledOf_66 : fnD cX11_filledOf 66 (.irem) 1 67 := by decide +kernel
theorem dX11_filledOf_67 : fnD cX11_filledOf 67 (.iadd) 1 68 := by decide +kernel
theorem dX11_filledOf_68 : fnD cX11_filledOf 68 (.iaload) 1 69 := by decide +kernel
theorem dX11_filledOf_69 : fnD cX11_filledOf 69 (.sipush (-2009)) 3 72 := by decide +kernel
theorem dX11_filledOf_72 : fnIc cX11_filledOf 72 .ne 81 75 := by decide +kernel
theorem dX11_filledOf_75 : fnD cX11_filledOf 75 (.iinc 4 1) 3 78 := by decide +kernel
theorem dX11_filledOf_78 : fnGo cX11_filledOf 78 52 := by decide +kernel
theorem dX11_filledOf_81 : fnD cX11_filledOf 81 (.aload_n 0) 1 82 := by decide +kernel
theorem dX11_filledOf_82 : fnD cX11_filledOf 82 (.getfield 13) 3 85 := by decide +kernel
theorem dX11_filledOf_85 : fnD cX11_filledOf 85 (.bipush 32) 2 87 := by decide +kernel
theorem dX11_filledOf_87 : fnD cX11_filledOf 87 (.iload_n 1) 1 88 := by decide +kernel
theorem dX11_filledOf_88 : fnD cX11_filledOf 88 (.imul) 1 89 := by decide +kernel
theorem dX11_filledOf_89 : fnD cX11_filledOf 89 (.iload_n 2) 1 90 := by decide +kernel
theorem dX11_filledOf_90 : fnD cX11_filledOf 90 (.bipush 32) 2 92 := by decide +kernel
theorem dX11_filledOf_92 : fnD cX11_filledOf 92 (.iadd) 1 93 := by decide +kernel
theorem dX11_filledOf_93 : fnD cX11_filledOf 93 (.iload_n 3) 1 94 := by decide +kernel
theorem dX11_filledOf_94 : fnD cX11_filledOf 94 (.isub) 1 95 := by decide +kernel
theorem dX11_filledOf_95 : fnD cX11_filledOf 95 (.bipush 32) 2 97 := by decide +kernel
theorem dX11_filledOf_97 : fnD cX11_filledOf 97 (.irem) 1 98 := by decide +kernel
theorem dX11_filledOf_98 : fnD cX11_filledOf 98 (.iadd) 1 99 := by decide +kernel
theorem dX11_filledOf_99 : fnD cX11_filledOf 99 (.iaload) 1 100 := by decide +kernel
theorem dX11_filledOf_100 : fnD cX11_filledOf 100 (.i2l) 1 101 := by decide +kernel
theorem dX11_filledOf_101 : fnD cX11_filledOf 101 (.iload 4) 2 103 := by decide +kernel
theorem dX11_filledOf_103 : fnD cX11_filledOf 103 (.i2l) 1 104 := by decide +kernel
theorem dX11_filledOf_104 : fnD cX11_filledOf 104 (.lmul) 1 105 := by decide +kernel
theorem dX11_filledOf_105 : fnD cX11_filledOf 105 (.aload_n 0) 1 106 := by decide +kernel
theorem dX11_filledOf_106 : fnD cX11_filledOf 106 (.getfield 13) 3 109 := by decide +kernel
theorem dX11_filledOf_109 : fnD cX11_filledOf 109 (.bipush 32) 2 111 := by decide +kernel
theorem dX11_filledOf_111 : fnD cX11_filledOf 111 (.iload_n 1) 1 112 := by decide +kernel
theorem dX11_filledOf_112 : fnD cX11_filledOf 112 (.imul) 1 113 := by decide +kernel
theorem dX11_filledOf_113 : fnD cX11_filledOf 113 (.iload_n 2) 1 114 := by decide +kernel
theorem dX11_filledOf_114 : fnD cX11_filledOf 114 (.iload 4) 2 116 := by decide +kernel
theorem dX11_filledOf_116 : fnD cX11_filledOf 116 (.iadd) 1 117 := by decide +kernel
theorem dX11_filledOf_117 : fnD cX11_filledOf 117 (.bipush 32) 2 119 := by decide +kernel
theorem dX11_filledOf_119 : fnD cX11_filledOf 119 (.irem) 1 120 := by decide +kernel
theorem dX11_filledOf_120 : fnD cX11_filledOf 120 (.iadd) 1 121 := by decide +kernel
theorem dX11_filledOf_121 : fnD cX11_filledOf 121 (.iaload) 1 122 := by decide +kernel
theorem dX11_filledOf_122 : fnD cX11_filledOf 122 (.i2l) 1 123 := by decide +kernel
theorem dX11_filledOf_123 : fnD cX11_filledOf 123 (.iload_n 3) 1 124 := by decide +kernel
theorem dX11_filledOf_124 : fnD cX11_filledOf 124 (.i2l) 1 125 := by decide +kernel
theorem dX11_filledOf_125 : fnD cX11_filledOf 125 (.lmul) 1 126 := by decide +kernel
theorem dX11_filledOf_126 : fnD cX11_filledOf 126 (.ladd) 1 127 := by decide +kernel
theorem dX11_filledOf_127 : fnD cX11_filledOf 127 (.iload_n 3) 1 128 := by decide +kernel
theorem dX11_filledOf_128 : fnD cX11_filledOf 128 (.iload 4) 2 130 := by decide +kernel
theorem dX11_filledOf_130 : fnD cX11_filledOf 130 (.iadd) 1 131 := by decide +kernel
theorem dX11_filledOf_131 : fnD cX11_filledOf 131 (.i2l) 1 132 := by decide +kernel
theorem dX11_filledOf_132 : fnD cX11_filledOf 132 (.invokestatic 111) 3 135 := by decide +kernel
theorem dX11_filledOf_135 : fnD cX11_filledOf 135 (.l2i) 1 136 := by decide +kernel
theorem dX11_filledOf_136 : fnD cX11_filledOf 136 (.ireturn) 1 137 := by decide +kernel
theorem dX11_filled_0 : fnD cX11_filled 0 (.aload_n 0) 1 1 := by decide +kernel
theorem dX11_filled_1 : fnD cX11_filled 1 (.iconst 0) 1 2 := by decide +kernel
theorem dX11_filled_2 : fnD cX11_filled 2 (.putfield 96) 3 5 := by decide +kernel
theorem dX11_filled_5 : fnD cX11_filled 5 (.iload_n 1) 1 6 := by decide +kernel
theorem dX11_filled_6 : fnD cX11_filled 6 (.invokestatic 154) 3 9 := by decide +kernel
theorem dX11_filled_9 : fnIf cX11_filled 9 .ne 19 12 := by decide +kernel
theorem dX11_filled_12 : fnD cX11_filled 12 (.iload_n 2) 1 13 := by decide +kernel
theorem dX11_filled_13 : fnD cX11_filled 13 (.invokestatic 162) 3 16 := by decide +kernel
theorem dX11_filled_16 : fnIf cX11_filled 16 .eq 23 19 := by decide +kernel
theorem dX11_filled_19 : fnD cX11_filled 19 (.sipush (-2001)) 3 22 := by decide +kernel
theorem dX11_filled_22 : fnD cX11_filled 22 (.ireturn) 1 23 := by decide +kernel
theorem dX11_filled_23 : fnD cX11_filled 23 (.aload_n 0) 1 24 := by decide +kernel
theorem dX11_filled_24 : fnD cX11_filled 24 (.iload_n 1) 1 25 := by decide +kernel
theorem dX11_filled_25 : fnD cX11_filled 25 (.invokevirtual 185) 3 28 := by decide +kernel
theorem dX11_filled_28 : fnIf cX11_filled 28 .ne 37 31 := by decide +kernel
theorem dX11_filled_31 : fnD cX11_filled 31 (.sipush (-2003)) 3 34 := by decide +kernel
theorem dX11_filled_34 : fnGo cX11_filled 34 43 := by decide +kernel
theorem dX11_filled_37 : fnD cX11_filled 37 (.aload_n 0) 1 38 := by decide +kernel
theorem dX11_filled_38 : fnD cX11_filled 38 (.iload_n 1) 1 39 := by decide +kernel
theorem dX11_filled_39 : fnD cX11_filled 39 (.iload_n 2) 1 40 := by decide +kernel
theorem dX11_filled_40 : fnD cX11_filled 40 (.invokevirtual 188) 3 43 := by decide +kernel
theorem dX11_filled_43 : fnD cX11_filled 43 (.ireturn) 1 44 := by decide +kernel
theorem dX11_gap_0 : fnD cX11_gap 0 (.aload_n 0) 1 1 := by decide +kernel
theorem dX11_gap_1 : fnD cX11_gap 1 (.iconst 0) 1 2 := by decide +kernel
theorem dX11_gap_2 : fnD cX11_gap 2 (.putfield 96) 3 5 := by decide +kernel
theorem dX11_gap_5 : fnD cX11_gap 5 (.iload_n 1) 1 6 := by decide +kernel
theorem dX11_gap_6 : fnD cX11_gap 6 (.invokestatic 154) 3 9 := by decide +kernel
theorem dX11_gap_9 : fnIf cX11_gap 9 .eq 16 12 := by decide +kernel
theorem dX11_gap_12 : fnD cX11_gap 12 (.sipush (-2001)) 3 15 := by decide +kernel
theorem dX11_gap_15 : fnD cX11_gap 15 (.ireturn) 1 16 := by decide +kernel
theorem dX11_gap_16 : fnD cX11_gap 16 (.aload_n 0) 1 17 := by decide +kernel
theorem dX11_gap_17 : fnD cX11_gap 17 (.iload_n 1) 1 18 := by decide +kernel
theorem dX11_gap_18 : fnD cX11_gap 18 (.invokevirtual 185) 3 21 := by decide +kernel
theorem dX11_gap_21 : fnIf cX11_gap 21 .ne 27 24 := by decide +kernel
theorem dX11_gap_24 : fnD cX11_gap 24 (.bipush 32) 2 26 := by decide +kernel
theorem dX11_gap_26 : fnD cX11_gap 26 (.ireturn) 1 27 := by decide +kernel
theorem dX11_gap_27 : fnD cX11_gap 27 (.iconst 0) 1 28 := by decide +kernel
theorem dX11_gap_28 : fnD cX11_gap 28 (.istore_n 2) 1 29 := by decide +kernel
theorem dX11_gap_29 : fnD cX11_gap 29 (.iconst 0) 1 30 := by decide +kernel
theorem dX11_gap_30 : fnD cX11_gap 30 (.istore_n 3) 1 31 := by decide +kernel
theorem dX11_gap_31 : fnD cX11_gap 31 (.iconst 0) 1 32 := by decide +kernel
theorem dX11_gap_32 : fnD cX11_gap 32 (.istore 4) 2 34 := by decide +kernel
theorem dX11_gap_34 : fnD cX11_gap 34 (.iload 4) 2 36 := by decide +kernel
theorem dX11_gap_36 : fnD cX11_gap 36 (.bipush 64) 2 38 := by decide +kernel
theorem dX11_gap_38 : fnIc cX11_gap 38 .ge 87 41 := by decide +kernel
theorem dX11_gap_41 : fnD cX11_gap 41 (.aload_n 0) 1 42 := by decide +kernel
theorem dX11_gap_42 : fnD cX11_gap 42 (.getfield 13) 3 45 := by decide +kernel
theorem dX11_gap_45 : fnD cX11_gap 45 (.bipush 32) 2 47 := by decide +kernel
theorem dX11_gap_47 : fnD cX11_gap 47 (.iload_n 1) 1 48 := by decide +kernel
theorem dX11_gap_48 : fnD cX11_gap 48 (.imul) 1 49 := by decide +kernel
theorem dX11_gap_49 : fnD cX11_gap 49 (.iload 4) 2 51 := by decide +kernel
theorem dX11_gap_51 : fnD cX11_gap 51 (.bipush 32) 2 53 := by decide +kernel
theorem dX11_gap_53 : fnD cX11_gap 53 (.irem) 1 54 := by decide +kernel
theorem dX11_gap_54 : fnD cX11_gap 54 (.iadd) 1 55 := by decide +kernel
theorem dX11_gap_55 : fnD cX11_gap 55 (.iaload) 1 56 := by decide +kernel
theorem dX11_gap_56 : fnD cX11_gap 56 (.sipush (-2009)) 3 59 := by decide +kernel
theorem dX11_gap_59 : fnIc cX11_gap 59 .ne 68 62 := by decide +kernel
theorem dX11_gap_62 : fnD cX11_gap 62 (.iload_n 3) 1 63 := by decide +kernel
theorem dX11_gap_63 : fnD cX11_gap 63 (.iconst 1) 1 64 := by decide +kernel
theorem dX11_gap_64 : fnD cX11_gap 64 (.iadd) 1 65 := by decide +kernel
theorem dX11_gap_65 : fnGo cX11_gap 65 69 := by decide +kernel
theorem dX11_gap_68 : fnD cX11_gap 68 (.iconst 0) 1 69 := by decide +kernel
theorem dX11_gap_69 : fnD cX11_gap 69 (.istore_n 3) 1 70 := by decide +kernel
theorem dX11_gap_70 : fnD cX11_gap 70 (.iload_n 3) 1 71 := by decide +kernel
theorem dX11_gap_71 : fnD cX11_gap 71 (.iload_n 2) 1 72 := by decide +kernel
theorem dX11_gap_72 : fnIc cX11_gap 72 .le 79 75 := by decide +kernel
theorem dX11_gap_75 : fnD cX11_gap 75 (.iload_n 3) 1 76 := by decide +kernel
theorem dX11_gap_76 : fnGo cX11_gap 76 80 := by decide +kernel
theorem dX11_gap_79 : fnD cX11_gap 79 (.iload_n 2) 1 80 := by decide +kernel
theorem dX11_gap_80 : fnD cX11_gap 80 (.istore_n 2) 1 81 := by decide +kernel
theorem dX11_gap_81 : fnD cX11_gap 81 (.iinc 4 1) 3 84 := by decide +kernel
theorem dX11_gap_84 : fnGo cX11_gap 84 34 := by decide +kernel
theorem dX11_gap_87 : fnD cX11_gap 87 (.iload_n 2) 1 88 := by decide +kernel
theorem dX11_gap_88 : fnD cX11_gap 88 (.ireturn) 1 89 := by decide +kernel
theorem dX11_held_0 : fnD cX11_held 0 (.lload_n 0) 1 1 := by decide +kernel
theorem dX11_held_1 : fnD cX11_held 1 (.ldc2_w 129) 3 4 := by decide +kernel
theorem dX11_held_4 : fnD cX11_held 4 (.lcmp) 1 5 := by decide +kernel
theorem dX11_held_5 : fnIf cX11_held 5 .le 14 8 := by decide +kernel
theorem dX11_held_8 : fnD cX11_held 8 (.sipush 999) 3 11 := by decide +kernel
theorem dX11_held_11 : fnGo cX11_held 11 30 := by decide +kernel
theorem dX11_held_14 : fnD cX11_held 14 (.lload_n 0) 1 15 := by decide +kernel
theorem dX11_held_15 : fnD cX11_held 15 (.ldc2_w 160) 3 18 := by decide +kernel
theorem dX11_held_18 : fnD cX11_held 18 (.lcmp) 1 19 := by decide +kernel
theorem dX11_held_19 : fnIf cX11_held 19 .ge 28 22 := by decide +kernel
theorem dX11_held_22 : fnD cX11_held 22 (.sipush (-999)) 3 25 := by decide +kernel
theorem dX11_held_25 : fnGo cX11_held 25 30 := by decide +kernel
theorem dX11_held_28 : fnD cX11_held 28 (.lload_n 0) 1 29 := by decide +kernel
theorem dX11_held_29 : fnD cX11_held 29 (.l2i) 1 30 := by decide +kernel
theorem dX11_held_30 : fnD cX11_held 30 (.ireturn) 1 31 := by decide +kernel
theorem dX11_apart_0 : fnD cX11_apart 0 (.aload_n 0) 1 1 := by decide +kernel
theorem dX11_apart_1 : fnD cX11_apart 1 (.iconst 0) 1 2 := by decide +kernel
theorem dX11_apart_2 : fnD cX11_apart 2 (.putfield 96) 3 5 := by decide +kernel
theorem dX11_apart_5 : fnD cX11_apart 5 (.iload_n 1) 1 6 := by decide +kernel
theorem dX11_apart_6 : fnD cX11_apart 6 (.invokestatic 154) 3 9 := by decide +kernel
theorem dX11_apart_9 : fnIf cX11_apart 9 .eq 16 12 := by decide +kernel
theorem dX11_apart_12 : fnD cX11_apart 12 (.sipush (-2001)) 3 15 := by decide +kernel
theorem dX11_apart_15 : fnD cX11_apart 15 (.ireturn) 1 16 := by decide +kernel
theorem dX11_apart_16 : fnD cX11_apart 16 (.aload_n 0) 1 17 := by decide +kernel
theorem dX11_apart_17 : fnD cX11_apart 17 (.iload_n 1) 1 18 := by decide +kernel
theorem dX11_apart_18 : fnD cX11_apart 18 (.invokevirtual 185) 3 21 := by decide +kernel
theorem dX11_apart_21 : fnD cX11_apart 21 (.iconst 4) 1 22 := by decide +kernel
theorem dX11_apart_22 : fnIc cX11_apart 22 .ge 29 25 := by decide +kernel
theorem dX11_apart_25 : fnD cX11_apart 25 (.sipush (-2003)) 3 28 := by decide +kernel
theorem dX11_apart_28 : fnD cX11_apart 28 (.ireturn) 1 29 := by decide +kernel
theorem dX11_apart_29 : fnD cX11_apart 29 (.lconst 0) 1 30 := by decide +kernel
theorem dX11_apart_30 : fnD cX11_apart 30 (.lstore_n 2) 1 31 := by decide +kernel
theorem dX11_apart_31 : fnD cX11_apart 31 (.lconst 0) 1 32 := by decide +kernel
theorem dX11_apart_32 : fnD cX11_apart 32 (.lstore 4) 2 34 := by decide +kernel
theorem dX11_apart_34 : fnD cX11_apart 34 (.lconst 0) 1 35 := by decide +kernel
theorem dX11_apart_35 : fnD cX11_apart 35 (.lstore 6) 2 37 := by decide +kernel
theorem dX11_apart_37 : fnD cX11_apart 37 (.lconst 0) 1 38 := by decide +kernel
theorem dX11_apart_38 : fnD cX11_apart 38 (.lstore 8) 2 40 := by decide +kernel
theorem dX11_apart_40 : fnD cX11_apart 40 (.lconst 0) 1 41 := by decide +kernel
theorem dX11_apart_41 : fnD cX11_apart 41 (.lstore 10) 2 43 := by decide +kernel
theorem dX11_apart_43 : fnD cX11_apart 43 (.iconst 0) 1 44 := by decide +kernel
theorem dX11_apart_44 : fnD cX11_apart 44 (.istore 12) 2 46 := by decide +kernel
theorem dX11_apart_46 : fnD cX11_apart 46 (.iload 12) 2 48 := by decide +kernel
theorem dX11_apart_48 : fnD cX11_apart 48 (.bipush 32) 2 50 := by decide +kernel
theorem dX11_apart_50 : fnIc cX11_apart 50 .ge 134 53 := by decide +kernel
theorem dX11_apart_53 : fnD cX11_apart 53 (.aload_n 0) 1 54 := by decide +kernel
theorem dX11_apart_54 : fnD cX11_apart 54 (.iload_n 1) 1 55 := by decide +kernel
theorem dX11_apart_55 : fnD cX11_apart 55 (.iload 12) 2 57 := by decide +kernel
theorem dX11_apart_57 : fnD cX11_apart 57 (.invokevirtual 188) 3 60 := by decide +kernel
theorem dX11_apart_60 : fnD cX11_apart 60 (.i2l) 1 61 := by decide +kernel
theorem dX11_apart_61 : fnD cX11_apart 61 (.lstore 13) 2 63 := by decide +kernel
theorem dX11_apart_63 : fnD cX11_apart 63 (.lload_n 2) 1 64 := by decide +kernel
theorem dX11_apart_64 : fnD cX11_apart 64 (.lload 13) 2 66 := by decide +kernel
theorem dX11_apart_66 : fnD cX11_apart 66 (.ladd) 1 67 := by decide +kernel
theorem dX11_apart_67 : fnD cX11_apart 67 (.lstore_n 2) 1 68 := by decide +kernel
theorem dX11_apart_68 : fnD cX11_apart 68 (.lload 4) 2 70 := by decide +kernel
theorem dX11_apart_70 : fnD cX11_apart 70 (.lload 13) 2 72 := by decide +kernel
theorem dX11_apart_72 : fnD cX11_apart 72 (.iload 12) 2 74 := by decide +kernel
theorem dX11_apart_74 : fnD cX11_apart 74 (.invokestatic 105) 3 77 := by decide +kernel
theorem dX11_apart_77 : fnD cX11_apart 77 (.i2l) 1 78 := by decide +kernel
theorem dX11_apart_78 : fnD cX11_apart 78 (.lmul) 1 79 := by decide +kernel
theorem dX11_apart_79 : fnD cX11_apart 79 (.ladd) 1 80 := by decide +kernel
theorem dX11_apart_80 : fnD cX11_apart 80 (.lstore 4) 2 82 := by decide +kernel
theorem dX11_apart_82 : fnD cX11_apart 82 (.lload 6) 2 84 := by decide +kernel
theorem dX11_apart_84 : fnD cX11_apart 84 (.lload 13) 2 86 := by decide +kernel
theorem dX11_apart_86 : fnD cX11_apart 86 (.iload 12) 2 88 := by decide +kernel
theorem dX11_apart_88 : fnD cX11_apart 88 (.invokestatic 131) 3 91 := by decide +kernel
theorem dX11_apart_91 : fnD cX11_apart 91 (.i2l) 1 92 := by decide +kernel
theorem dX11_apart_92 : fnD cX11_apart 92 (.lmul) 1 93 := by decide +kernel
theorem dX11_apart_93 : fnD cX11_apart 93 (.ladd) 1 94 := by decide +kernel
theorem dX11_apart_94 : fnD cX11_apart 94 (.lstore 6) 2 96 := by decide +kernel
theorem dX11_apart_96 : fnD cX11_apart 96 (.lload 8) 2 98 := by decide +kernel
theorem dX11_apart_98 : fnD cX11_apart 98 (.lload 13) 2 100 := by decide +kernel
theorem dX11_apart_100 : fnD cX11_apart 100 (.iconst 2) 1 101 := by decide +kernel
theorem dX11_apart_101 : fnD cX11_apart 101 (.iload 12) 2 103 := by decide +kernel
theorem dX11_apart_103 : fnD cX11_apart 103 (.imul) 1 104 := by decide +kernel
theorem dX11_apart_104 : fnD cX11_apart 104 (.invokestatic 105) 3 107 := by decide +kernel
theorem dX11_apart_107 : fnD cX11_apart 107 (.i2l) 1 108 := by decide +kernel
theorem dX11_apart_108 : fnD cX11_apart 108 (.lmul) 1 109 := by decide +kernel
theorem dX11_apart_109 : fnD cX11_apart 109 (.ladd) 1 110 := by decide +kernel
theorem dX11_apart_110 : fnD cX11_apart 110 (.lstore 8) 2 112 := by decide +kernel
theorem dX11_apart_112 : fnD cX11_apart 112 (.lload 10) 2 114 := by decide +kernel
theorem dX11_apart_114 : fnD cX11_apart 114 (.lload 13) 2 116 := by decide +kernel
theorem dX11_apart_116 : fnD cX11_apart 116 (.iconst 2) 1 117 := by decide +kernel
theorem dX11_apart_117 : fnD cX11_apart 117 (.iload 12) 2 119 := by decide +kernel
theorem dX11_apart_119 : fnD cX11_apart 119 (.imul) 1 120 := by decide +kernel
theorem dX11_apart_120 : fnD cX11_apart 120 (.invokestatic 131) 3 123 := by decide +kernel
theorem dX11_apart_123 : fnD cX11_apart 123 (.i2l) 1 124 := by decide +kernel
theorem dX11_apart_124 : fnD cX11_apart 124 (.lmul) 1 125 := by decide +kernel
theorem dX11_apart_125 : fnD cX11_apart 125 (.ladd) 1 126 := by decide +kernel
theorem dX11_apart_126 : fnD cX11_apart 126 (.lstore 10) 2 128 := by decide +kernel
theorem dX11_apart_128 : fnD cX11_apart 128 (.iinc 12 1) 3 131 := by decide +kernel
theorem dX11_apart_131 : fnGo cX11_apart 131 46 := by decide +kernel
theorem dX11_apart_134 : fnD cX11_apart 134 (.aload_n 0) 1 135 := by decide +kernel
theorem dX11_apart_135 : fnD cX11_apart 135 (.getfield 7) 3 138 := by decide +kernel
theorem dX11_apart_138 : fnD cX11_apart 138 (.bipush 6) 2 140 := by decide +kernel
theorem dX11_apart_140 : fnD cX11_apart 140 (.iload_n 1) 1 141 := by decide +kernel
theorem dX11_apart_141 : fnD cX11_apart 141 (.imul) 1 142 := by decide +kernel
theorem dX11_apart_142 : fnD cX11_apart 142 (.lload_n 2) 1 143 := by decide +kernel
theorem dX11_apart_143 : fnD cX11_apart 143 (.ldc2_w 191) 3 146 := by decide +kernel
theorem dX11_apart_146 : fnD cX11_apart 146 (.invokestatic 111) 3 149 := by decide +kernel
theorem dX11_apart_149 : fnD cX11_apart 149 (.invokestatic 193) 3 152 := by decide +kernel
theorem dX11_apart_152 : fnD cX11_apart 152 (.iastore) 1 153 := by decide +kernel
theorem dX11_apart_153 : fnD cX11_apart 153 (.aload_n 0) 1 154 := by decide +kernel
theorem dX11_apart_154 : fnD cX11_apart 154 (.getfield 7) 3 157 := by decide +kernel
theorem dX11_apart_157 : fnD cX11_apart 157 (.bipush 6) 2 159 := by decide +kernel
theorem dX11_apart_159 : fnD cX11_apart 159 (.iload_n 1) 1 160 := by decide +kernel
theorem dX11_apart_160 : fnD cX11_apart 160 (.imul) 1 161 := by decide +kernel
theorem dX11_apart_161 : fnD cX11_apart 161 (.iconst 1) 1 162 := by decide +kernel
theorem dX11_apart_162 : fnD cX11_apart 162 (.iadd) 1 163 := by decide +kernel
theorem dX11_apart_163 : fnD cX11_apart 163 (.lload 4) 2 165 := by decide +kernel
theorem dX11_apart_165 : fnD cX11_apart 165 (.ldc2_w 197) 3 168 := by decide +kernel
theorem dX11_apart_168 : fnD cX11_apart 168 (.invokestatic 111) 3 171 := by decide +kernel
theorem dX11_apart_171 : fnD cX11_apart 171 (.invokestatic 193) 3 174 := by decide +kernel
theorem dX11_apart_174 : fnD cX11_apart 174 (.iastore) 1 175 := by decide +kernel
theorem dX11_apart_175 : fnD cX11_apart 175 (.aload_n 0) 1 176 := by decide +kernel
theorem dX11_apart_176 : fnD cX11_apart 176 (.getfield 7) 3 179 := by decide +kernel
theorem dX11_apart_179 : fnD cX11_apart 179 (.bipush 6) 2 181 := by decide +kernel
theorem dX11_apart_181 : fnD cX11_apart 181 (.iload_n 1) 1 182 := by decide +kernel
theorem dX11_apart_182 : fnD cX11_apart 182 (.imul) 1 183 := by decide +kernel
theorem dX11_apart_183 : fnD cX11_apart 183 (.iconst 2) 1 184 := by decide +kernel
theorem dX11_apart_184 : fnD cX11_apart 184 (.iadd) 1 185 := by decide +kernel
theorem dX11_apart_185 : fnD cX11_apart 185 (.lload 6) 2 187 := by decide +kernel
theorem dX11_apart_187 : fnD cX11_apart 187 (.ldc2_w 197) 3 190 := by decide +kernel
theorem dX11_apart_190 : fnD cX11_apart 190 (.invokestatic 111) 3 193 := by decide +kernel
theorem dX11_apart_193 : fnD cX11_apart 193 (.invokestatic 193) 3 196 := by decide +kernel
theorem dX11_apart_196 : fnD cX11_apart 196 (.iastore) 1 197 := by decide +kernel
theorem dX11_apart_197 : fnD cX11_apart 197 (.aload_n 0) 1 198 := by decide +kernel
theorem dX11_apart_198 : fnD cX11_apart 198 (.getfield 7) 3 201 := by decide +kernel
theorem dX11_apart_201 : fnD cX11_apart 201 (.bipush 6) 2 203 := by decide +kernel
theorem dX11_apart_203 : fnD cX11_apart 203 (.iload_n 1) 1 204 := by decide +kernel
theorem dX11_apart_204 : fnD cX11_apart 204 (.imul) 1 205 := by decide +kernel
theorem dX11_apart_205 : fnD cX11_apart 205 (.iconst 3) 1 206 := by decide +kernel
theorem dX11_apart_206 : fnD cX11_apart 206 (.iadd) 1 207 := by decide +kernel
theorem dX11_apart_207 : fnD cX11_apart 207 (.lload 8) 2 209 := by decide +kernel
theorem dX11_apart_209 : fnD cX11_apart 209 (.ldc2_w 197) 3 212 := by decide +kernel
theorem dX11_apart_212 : fnD cX11_apart 212 (.invokestatic 111) 3 215 := by decide +kernel
theorem dX11_apart_215 : fnD cX11_apart 215 (.invokestatic 193) 3 218 := by decide +kernel
theorem dX11_apart_218 : fnD cX11_apart 218 (.iastore) 1 219 := by decide +kernel
theorem dX11_apart_219 : fnD cX11_apart 219 (.aload_n 0) 1 220 := by decide +kernel
theorem dX11_apart_220 : fnD cX11_apart 220 (.getfield 7) 3 223 := by decide +kernel
theorem dX11_apart_223 : fnD cX11_apart 223 (.bipush 6) 2 225 := by decide +kernel
theorem dX11_apart_225 : fnD cX11_apart 225 (.iload_n 1) 1 226 := by decide +kernel
theorem dX11_apart_226 : fnD cX11_apart 226 (.imul) 1 227 := by decide +kernel
theorem dX11_apart_227 : fnD cX11_apart 227 (.iconst 4) 1 228 := by decide +kernel
theorem dX11_apart_228 : fnD cX11_apart 228 (.iadd) 1 229 := by decide +kernel
theorem dX11_apart_229 : fnD cX11_apart 229 (.lload 10) 2 231 := by decide +kernel
theorem dX11_apart_231 : fnD cX11_apart 231 (.ldc2_w 197) 3 234 := by decide +kernel
theorem dX11_apart_234 : fnD cX11_apart 234 (.invokestatic 111) 3 237 := by decide +kernel
theorem dX11_apart_237 : fnD cX11_apart 237 (.invokestatic 193) 3 240 := by decide +kernel
theorem dX11_apart_240 : fnD cX11_apart 240 (.iastore) 1 241 := by decide +kernel
theorem dX11_apart_241 : fnD cX11_apart 241 (.aload_n 0) 1 242 := by decide +kernel
theorem dX11_apart_242 : fnD cX11_apart 242 (.iload_n 1) 1 243 := by decide +kernel
theorem dX11_apart_243 : fnD cX11_apart 243 (.invokevirtual 168) 3 246 := by decide +kernel
theorem dX11_apart_246 : fnD cX11_apart 246 (.aload_n 0) 1 247 := by decide +kernel
theorem dX11_apart_247 : fnD cX11_apart 247 (.iconst 0) 1 248 := by decide +kernel
theorem dX11_apart_248 : fnD cX11_apart 248 (.invokevirtual 172) 3 251 := by decide +kernel
theorem dX11_apart_251 : fnD cX11_apart 251 (.iconst 0) 1 252 := by decide +kernel
theorem dX11_apart_252 : fnD cX11_apart 252 (.istore 12) 2 254 := by decide +kernel
theorem dX11_apart_254 : fnD cX11_apart 254 (.iconst 0) 1 255 := by decide +kernel
theorem dX11_apart_255 : fnD cX11_apart 255 (.istore 13) 2 257 := by decide +kernel
theorem dX11_apart_257 : fnD cX11_apart 257 (.iload 13) 2 259 := by decide +kernel
theorem dX11_apart_259 : fnD cX11_apart 259 (.bipush 32) 2 261 := by decide +kernel
theorem dX11_apart_261 : fnIc cX11_apart 261 .ge 333 264 := by decide +kernel
theorem dX11_apart_264 : fnD cX11_apart 264 (.aload_n 0) 1 265 := by decide +kernel
theorem dX11_apart_265 : fnD cX11_apart 265 (.getfield 13) 3 268 := by decide +kernel
theorem dX11_apart_268 : fnD cX11_apart 268 (.bipush 32) 2 270 := by decide +kernel
theorem dX11_apart_270 : fnD cX11_apart 270 (.iload_n 1) 1 271 := by decide +kernel
theorem dX11_apart_271 : fnD cX11_apart 271 (.imul) 1 272 := by decide +kernel
theorem dX11_apart_272 : fnD cX11_apart 272 (.iload 13) 2 274 := by decide +kernel
theorem dX11_apart_274 : fnD cX11_apart 274 (.iadd) 1 275 := by decide +kernel
theorem dX11_apart_275 : fnD cX11_apart 275 (.iaload) 1 276 := by decide +kernel
theorem dX11_apart_276 : fnD cX11_apart 276 (.sipush (-2009)) 3 279 := by decide +kernel
theorem dX11_apart_279 : fnIc cX11_apart 279 .ne 286 282 := by decide +kernel
theorem dX11_apart_282 : fnD cX11_apart 282 (.iconst 0) 1 283 := by decide +kernel
theorem dX11_apart_283 : fnGo cX11_apart 283 309 := by decide +kernel
theorem dX11_apart_286 : fnD cX11_apart 286 (.aload_n 0) 1 287 := by decide +kernel
theorem dX11_apart_287 : fnD cX11_apart 287 (.getfield 13) 3 290 := by decide +kernel
theorem dX11_apart_290 : fnD cX11_apart 290 (.bipush 32) 2 292 := by decide +kernel
theorem dX11_apart_292 : fnD cX11_apart 292 (.iload_n 1) 1 293 := by decide +kernel
theorem dX11_apart_293 : fnD cX11_apart 293 (.imul) 1 294 := by decide +kernel
theorem dX11_apart_294 : fnD cX11_apart 294 (.iload 13) 2 296 := by decide +kernel
theorem dX11_apart_296 : fnD cX11_apart 296 (.iadd) 1 297 := by decide +kernel
theorem dX11_apart_297 : fnD cX11_apart 297 (.iaload) 1 298 := by decide +kernel
theorem dX11_apart_298 : fnD cX11_apart 298 (.aload_n 0) 1 299 := by decide +kernel
theorem dX11_apart_299 : fnD cX11_apart 299 (.getfield 81) 3 302 := by decide +kernel
theorem dX11_apart_302 : fnD cX11_apart 302 (.iload 13) 2 304 := by decide +kernel
theorem dX11_apart_304 : fnD cX11_apart 304 (.iaload) 1 305 := by decide +kernel
theorem dX11_apart_305 : fnD cX11_apart 305 (.isub) 1 306 := by decide +kernel
theorem dX11_apart_306 : fnD cX11_apart 306 (.invokestatic 178) 3 309 := by decide +kernel
theorem dX11_apart_309 : fnD cX11_apart 309 (.istore 14) 2 311 := by decide +kernel
theorem dX11_apart_311 : fnD cX11_apart 311 (.iload 14) 2 313 := by decide +kernel
theorem dX11_apart_313 : fnD cX11_apart 313 (.iload 12) 2 315 := by decide +kernel
theorem dX11_apart_315 : fnIc cX11_apart 315 .le 323 318 := by decide +kernel
theorem dX11_apart_318 : fnD cX11_apart 318 (.iload 14) 2 320 := by decide +kernel
theorem dX11_apart_320 : fnGo cX11_apart 320 325 := by decide +kernel
theorem dX11_apart_323 : fnD cX11_apart 323 (.iload 12) 2 325 := by decide +kernel
theorem dX11_apart_325 : fnD cX11_apart 325 (.istore 12) 2 327 := by decide +kernel
theorem dX11_apart_327 : fnD cX11_apart 327 (.iinc 13 1) 3 330 := by decide +kernel
theorem dX11_apart_330 : fnGo cX11_apart 330 257 := by decide +kernel
theorem dX11_apart_333 : fnD cX11_apart 333 (.iload 12) 2 335 := by decide +kernel
theorem dX11_apart_335 : fnD cX11_apart 335 (.ireturn) 1 336 := by decide +kernel
theorem dX11_residue_0 : fnD cX11_residue 0 (.aload_n 0) 1 1 := by decide +kernel
theorem dX11_residue_1 : fnD cX11_residue 1 (.iconst 0) 1 2 := by decide +kernel
theorem dX11_residue_2 : fnD cX11_residue 2 (.putfield 96) 3 5 := by decide +kernel
theorem dX11_residue_5 : fnD cX11_residue 5 (.iload_n 1) 1 6 := by decide +kernel
theorem dX11_residue_6 : fnD cX11_residue 6 (.invokestatic 154) 3 9 := by decide +kernel
theorem dX11_residue_9 : fnIf cX11_residue 9 .ne 19 12 := by decide +kernel
theorem dX11_residue_12 : fnD cX11_residue 12 (.iload_n 2) 1 13 := by decide +kernel
theorem dX11_residue_13 : fnD cX11_residue 13 (.invokestatic 162) 3 16 := by decide +kernel
theorem dX11_residue_16 : fnIf cX11_residue 16 .eq 23 19 := by decide +kernel
theorem dX11_residue_19 : fnD cX11_residue 19 (.sipush (-2001)) 3 22 := by decide +kernel
theorem dX11_residue_22 : fnD cX11_residue 22 (.ireturn) 1 23 := by decide +kernel
theorem dX11_residue_23 : fnD cX11_residue 23 (.aload_n 0) 1 24 := by decide +kernel
theorem dX11_residue_24 : fnD cX11_residue 24 (.iload_n 1) 1 25 := by decide +kernel
theorem dX11_residue_25 : fnD cX11_residue 25 (.invokevirtual 168) 3 28 := by decide +kernel
theorem dX11_residue_28 : fnD cX11_residue 28 (.aload_n 0) 1 29 := by decide +kernel
theorem dX11_residue_29 : fnD cX11_residue 29 (.getfield 13) 3 32 := by decide +kernel
theorem dX11_residue_32 : fnD cX11_residue 32 (.bipush 32) 2 34 := by decide +kernel
theorem dX11_residue_34 : fnD cX11_residue 34 (.iload_n 1) 1 35 := by decide +kernel
theorem dX11_residue_35 : fnD cX11_residue 35 (.imul) 1 36 := by decide +kernel
theorem dX11_residue_36 : fnD cX11_residue 36 (.iload_n 2) 1 37 := by decide +kernel
theorem dX11_residue_37 : fnD cX11_residue 37 (.iadd) 1 38 := by decide +kernel
theorem dX11_residue_38 : fnD cX11_residue 38 (.iaload) 1 39 := by decide +kernel
theorem dX11_residue_39 : fnD cX11_residue 39 (.sipush (-2009)) 3 42 := by decide +kernel
theorem dX11_residue_42 : fnIc cX11_residue 42 .ne 51 45 := by decide +kernel
theorem dX11_residue_45 : fnD cX11_residue 45 (.sipush (-2009)) 3 48 := by decide +kernel
theorem dX11_residue_48 : fnGo cX11_residue 48 69 := by decide +kernel
theorem dX11_residue_51 : fnD cX11_residue 51 (.aload_n 0) 1 52 := by decide +kernel
theorem dX11_residue_52 : fnD cX11_residue 52 (.getfield 13) 3 55 := by decide +kernel
theorem dX11_residue_55 : fnD cX11_residue 55 (.bipush 32) 2 57 := by decide +kernel
theorem dX11_residue_57 : fnD cX11_residue 57 (.iload_n 1) 1 58 := by decide +kernel
theorem dX11_residue_58 : fnD cX11_residue 58 (.imul) 1 59 := by decide +kernel
theorem dX11_residue_59 : fnD cX11_residue 59 (.iload_n 2) 1 60 := by decide +kernel
theorem dX11_residue_60 : fnD cX11_residue 60 (.iadd) 1 61 := by decide +kernel
theorem dX11_residue_61 : fnD cX11_residue 61 (.iaload) 1 62 := by decide +kernel
theorem dX11_residue_62 : fnD cX11_residue 62 (.aload_n 0) 1 63 := by decide +kernel
theorem dX11_residue_63 : fnD cX11_residue 63 (.iload_n 2) 1 64 := by decide +kernel
theorem dX11_residue_64 : fnD cX11_residue 64 (.iconst 0) 1 65 := by decide +kernel
theorem dX11_residue_65 : fnD cX11_residue 65 (.invokevirtual 138) 3 68 := by decide +kernel
theorem dX11_residue_68 : fnD cX11_residue 68 (.isub) 1 69 := by decide +kernel
theorem dX11_residue_69 : fnD cX11_residue 69 (.ireturn) 1 70 := by decide +kernel
theorem dX11_bar_0 : fnD cX11_bar 0 (.aload_n 0) 1 1 := by decide +kernel
theorem dX11_bar_1 : fnD cX11_bar 1 (.iconst 0) 1 2 := by decide +kernel
theorem dX11_bar_2 : fnD cX11_bar 2 (.putfield 96) 3 5 := by decide +kernel
theorem dX11_bar_5 : fnD cX11_bar 5 (.iload_n 1) 1 6 := by decide +kernel
theorem dX11_bar_6 : fnD cX11_bar 6 (.i2l) 1 7 := by decide +kernel
theorem dX11_bar_7 : fnD cX11_bar 7 (.lconst 0) 1 8 := by decide +kernel
theorem dX11_bar_8 : fnD cX11_bar 8 (.ldc2_w 123) 3 11 := by decide +kernel
theorem dX11_bar_11 : fnD cX11_bar 11 (.invokestatic 117) 3 14 := by decide +kernel
theorem dX11_bar_14 : fnIf cX11_bar 14 .ne 21 17 := by decide +kernel
theorem dX11_bar_17 : fnD cX11_bar 17 (.sipush (-2001)) 3 20 := by decide +kernel
theorem dX11_bar_20 : fnD cX11_bar 20 (.ireturn) 1 21 := by decide +kernel
theorem dX11_bar_21 : fnD cX11_bar 21 (.iload_n 2) 1 22 := by decide +kernel
theorem dX11_bar_22 : fnD cX11_bar 22 (.i2l) 1 23 := by decide +kernel
theorem dX11_bar_23 : fnD cX11_bar 23 (.lconst 0) 1 24 := by decide +kernel
theorem dX11_bar_24 : fnD cX11_bar 24 (.ldc2_w 199) 3 27 := by decide +kernel
theorem dX11_bar_27 : fnD cX11_bar 27 (.invokestatic 117) 3 30 := by decide +kernel
theorem dX11_bar_30 : fnIf cX11_bar 30 .ne 37 33 := by decide +kernel
theorem dX11_bar_33 : fnD cX11_bar 33 (.sipush (-2002)) 3 36 := by decide +kernel
theorem dX11_bar_36 : fnD cX11_bar 36 (.ireturn) 1 37 := by decide +kernel
theorem dX11_bar_37 : fnD cX11_bar 37 (.aload_n 0) 1 38 := by decide +kernel
theorem dX11_bar_38 : fnD cX11_bar 38 (.getfield 19) 3 41 := by decide +kernel
theorem dX11_bar_41 : fnD cX11_bar 41 (.iload_n 1) 1 42 := by decide +kernel
theorem dX11_bar_42 : fnD cX11_bar 42 (.iaload) 1 43 := by decide +kernel
theorem dX11_bar_43 : fnD cX11_bar 43 (.sipush (-2009)) 3 46 := by decide +kernel
theorem dX11_bar_46 : fnIc cX11_bar 46 .eq 53 49 := by decide +kernel
theorem dX11_bar_49 : fnD cX11_bar 49 (.sipush (-2003)) 3 52 := by decide +kernel
theorem dX11_bar_52 : fnD cX11_bar 52 (.ireturn) 1 53 := by decide +kernel
theorem dX11_bar_53 : fnD cX11_bar 53 (.aload_n 0) 1 54 := by decide +kernel
theorem dX11_bar_54 : fnD cX11_bar 54 (.getfield 16) 3 57 := by decide +kernel
theorem dX11_bar_57 : fnD cX11_bar 57 (.iload_n 1) 1 58 := by decide +kernel
theorem dX11_bar_58 : fnD cX11_bar 58 (.iaload) 1 59 := by decide +kernel
theorem dX11_bar_59 : fnD cX11_bar 59 (.istore_n 3) 1 60 := by decide +kernel
theorem dX11_bar_60 : fnD cX11_bar 60 (.aload_n 0) 1 61 := by decide +kernel
theorem dX11_bar_61 : fnD cX11_bar 61 (.getfield 16) 3 64 := by decide +kernel
theorem dX11_bar_64 : fnD cX11_bar 64 (.iload_n 1) 1 65 := by decide +kernel
theorem dX11_bar_65 : fnD cX11_bar 65 (.iload_n 2) 1 66 := by decide +kernel
theorem dX11_bar_66 : fnD cX11_bar 66 (.iastore) 1 67 := by decide +kernel
theorem dX11_bar_67 : fnD cX11_bar 67 (.iload_n 3) 1 68 := by decide +kernel
theorem dX11_bar_68 : fnD cX11_bar 68 (.ireturn) 1 69 := by decide +kernel
theorem dX11_ball_0 : fnD cX11_ball 0 (.aload_n 0) 1 1 := by decide +kernel
theorem dX11_ball_1 : fnD cX11_ball 1 (.iconst 0) 1 2 := by decide +kernel
theorem dX11_ball_2 : fnD cX11_ball 2 (.putfield 96) 3 5 := by decide +kernel
theorem dX11_ball_5 : fnD cX11_ball 5 (.iload_n 1) 1 6 := by decide +kernel
theorem dX11_ball_6 : fnD cX11_ball 6 (.i2l) 1 7 := by decide +kernel
theorem dX11_ball_7 : fnD cX11_ball 7 (.lconst 0) 1 8 := by decide +kernel
theorem dX11_ball_8 : fnD cX11_ball 8 (.ldc2_w 201) 3 11 := by decide +kernel
theorem dX11_ball_11 : fnD cX11_ball 11 (.invokestatic 117) 3 14 := by decide +kernel
theorem dX11_ball_14 : fnIf cX11_ball 14 .ne 21 17 := by decide +kernel
theorem dX11_ball_17 : fnD cX11_ball 17 (.sipush (-2001)) 3 20 := by decide +kernel
theorem dX11_ball_20 : fnD cX11_ball 20 (.ireturn) 1 21 := by decide +kernel
theorem dX11_ball_21 : fnD cX11_ball 21 (.iload_n 2) 1 22 := by decide +kernel
theorem dX11_ball_22 : fnD cX11_ball 22 (.i2l) 1 23 := by decide +kernel
theorem dX11_ball_23 : fnD cX11_ball 23 (.lconst 0) 1 24 := by decide +kernel
theorem dX11_ball_24 : fnD cX11_ball 24 (.ldc2_w 203) 3 27 := by decide +kernel
theorem dX11_ball_27 : fnD cX11_ball 27 (.invokestatic 117) 3 30 := by decide +kernel
theorem dX11_ball_30 : fnIf cX11_ball 30 .ne 37 33 := by decide +kernel
theorem dX11_ball_33 : fnD cX11_ball 33 (.sipush (-2002)) 3 36 := by decide +kernel
theorem dX11_ball_36 : fnD cX11_ball 36 (.ireturn) 1 37 := by decide +kernel
theorem dX11_ball_37 : fnD cX11_ball 37 (.aload_n 0) 1 38 := by decide +kernel
theorem dX11_ball_38 : fnD cX11_ball 38 (.getfield 32) 3 41 := by decide +kernel
theorem dX11_ball_41 : fnD cX11_ball 41 (.iload_n 1) 1 42 := by decide +kernel
theorem dX11_ball_42 : fnIc cX11_ball 42 .ne 49 45 := by decide +kernel
theorem dX11_ball_45 : fnD cX11_ball 45 (.sipush (-2003)) 3 48 := by decide +kernel
theorem dX11_ball_48 : fnD cX11_ball 48 (.ireturn) 1 49 := by decide +kernel
theorem dX11_ball_49 : fnD cX11_ball 49 (.aload_n 0) 1 50 := by decide +kernel
theorem dX11_ball_50 : fnD cX11_ball 50 (.getfield 29) 3 53 := by decide +kernel
theorem dX11_ball_53 : fnD cX11_ball 53 (.iload_n 1) 1 54 := by decide +kernel
theorem dX11_ball_54 : fnD cX11_ball 54 (.iaload) 1 55 := by decide +kernel
theorem dX11_ball_55 : fnD cX11_ball 55 (.istore_n 3) 1 56 := by decide +kernel
theorem dX11_ball_56 : fnD cX11_ball 56 (.aload_n 0) 1 57 := by decide +kernel
theorem dX11_ball_57 : fnD cX11_ball 57 (.getfield 29) 3 60 := by decide +kernel
theorem dX11_ball_60 : fnD cX11_ball 60 (.iload_n 1) 1 61 := by decide +kernel
theorem dX11_ball_61 : fnD cX11_ball 61 (.iload_n 2) 1 62 := by decide +kernel
theorem dX11_ball_62 : fnD cX11_ball 62 (.iastore) 1 63 := by decide +kernel
theorem dX11_ball_63 : fnD cX11_ball 63 (.iload_n 3) 1 64 := by decide +kernel
theorem dX11_ball_64 : fnD cX11_ball 64 (.ireturn) 1 65 := by decide +kernel
theorem dX11_pullOf_0 : fnD cX11_pullOf 0 (.aload_n 0) 1 1 := by decide +kernel
theorem dX11_pullOf_1 : fnD cX11_pullOf 1 (.getfield 16) 3 4 := by decide +kernel
theorem dX11_pullOf_4 : fnD cX11_pullOf 4 (.iload_n 1) 1 5 := by decide +kernel
theorem dX11_pullOf_5 : fnD cX11_pullOf 5 (.iaload) 1 6 := by decide +kernel
theorem dX11_pullOf_6 : fnD cX11_pullOf 6 (.iload_n 2) 1 7 := by decide +kernel
theorem dX11_pullOf_7 : fnD cX11_pullOf 7 (.iload_n 2) 1 8 := by decide +kernel
theorem dX11_pullOf_8 : fnD cX11_pullOf 8 (.imul) 1 9 := by decide +kernel
theorem dX11_pullOf_9 : fnD cX11_pullOf 9 (.iload_n 2) 1 10 := by decide +kernel
theorem dX11_pullOf_10 : fnD cX11_pullOf 10 (.imul) 1 11 := by decide +kernel
theorem dX11_pullOf_11 : fnD cX11_pullOf 11 (.idiv) 1 12 := by decide +kernel
theorem dX11_pullOf_12 : fnD cX11_pullOf 12 (.ireturn) 1 13 := by decide +kernel
theorem dX11_ballPull_0 : fnD cX11_ballPull 0 (.bipush 20) 2 2 := by decide +kernel
theorem dX11_ballPull_2 : fnD cX11_ballPull 2 (.aload_n 0) 1 3 := by decide +kernel
theorem dX11_ballPull_3 : fnD cX11_ballPull 3 (.getfield 29) 3 6 := by decide +kernel
theorem dX11_ballPull_6 : fnD cX11_ballPull 6 (.iload_n 1) 1 7 := by decide +kernel
theorem dX11_ballPull_7 : fnD cX11_ballPull 7 (.iaload) 1 8 := by decide +kernel
theorem dX11_ballPull_8 : fnD cX11_ballPull 8 (.imul) 1 9 := by decide +kernel
theorem dX11_ballPull_9 : fnD cX11_ballPull 9 (.aload_n 0) 1 10 := by decide +kernel
theorem dX11_ballPull_10 : fnD cX11_ballPull 10 (.getfield 29) 3 13 := by decide +kernel
theorem dX11_ballPull_13 : fnD cX11_ballPull 13 (.iload_n 1) 1 14 := by decide +kernel
theorem dX11_ballPull_14 : fnD cX11_ballPull 14 (.iaload) 1 15 := by decide +kernel
theorem dX11_ballPull_15 : fnD cX11_ballPull 15 (.imul) 1 16 := by decide +kernel
theorem dX11_ballPull_16 : fnD cX11_ballPull 16 (.iload_n 2) 1 17 := by decide +kernel
theorem dX11_ballPull_17 : fnD cX11_ballPull 17 (.idiv) 1 18 := by decide +kernel
theorem dX11_ballPull_18 : fnD cX11_ballPull 18 (.ireturn) 1 19 := by decide +kernel
theorem dX11_layBar_0 : fnD cX11_layBar 0 (.aload_n 0) 1 1 := by decide +kernel
theorem dX11_layBar_1 : fnD cX11_layBar 1 (.iconst 0) 1 2 := by decide +kernel
theorem dX11_layBar_2 : fnD cX11_layBar 2 (.putfield 96) 3 5 := by decide +kernel
theorem dX11_layBar_5 : fnD cX11_layBar 5 (.iload_n 1) 1 6 := by decide +kernel
theorem dX11_layBar_6 : fnD cX11_layBar 6 (.i2l) 1 7 := by decide +kernel
theorem dX11_layBar_7 : fnD cX11_layBar 7 (.lconst 0) 1 8 := by decide +kernel
theorem dX11_layBar_8 : fnD cX11_layBar 8 (.ldc2_w 123) 3 11 := by decide +kernel
theorem dX11_layBar_11 : fnD cX11_layBar 11 (.invokestatic 117) 3 14 := by decide +kernel
theorem dX11_layBar_14 : fnIf cX11_layBar 14 .ne 21 17 := by decide +kernel
theorem dX11_layBar_17 : fnD cX11_layBar 17 (.sipush (-2001)) 3 20 := by decide +kernel
theorem dX11_layBar_20 : fnD cX11_layBar 20 (.ireturn) 1 21 := by decide +kernel
theorem dX11_layBar_21 : fnD cX11_layBar 21 (.iload_n 2) 1 22 := by decide +kernel
theorem dX11_layBar_22 : fnD cX11_layBar 22 (.i2l) 1 23 := by decide +kernel
theorem dX11_layBar_23 : fnD cX11_layBar 23 (.lconst 0) 1 24 := by decide +kernel
theorem dX11_layBar_24 : fnD cX11_layBar 24 (.lconst 1) 1 25 := by decide +kernel
theorem dX11_layBar_25 : fnD cX11_layBar 25 (.invokestatic 117) 3 28 := by decide +kernel
theorem dX11_layBar_28 : fnIf cX11_layBar 28 .eq 45 31 := by decide +kernel
theorem dX11_layBar_31 : fnD cX11_layBar 31 (.iload_n 3) 1 32 := by decide +kernel
theorem dX11_layBar_32 : fnD cX11_layBar 32 (.i2l) 1 33 := by decide +kernel
theorem dX11_layBar_33 : fnD cX11_layBar 33 (.ldc2_w 99) 3 36 := by decide +kernel
theorem dX11_layBar_36 : fnD cX11_layBar 36 (.ldc2_w 205) 3 39 := by decide +kernel
theorem dX11_layBar_39 : fnD cX11_layBar 39 (.invokestatic 117) 3 42 := by decide +kernel
theorem dX11_layBar_42 : fnIf cX11_layBar 42 .ne 49 45 := by decide +kernel
theorem dX11_layBar_45 : fnD cX11_layBar 45 (.sipush (-2002)) 3 48 := by decide +kernel
theorem dX11_layBar_48 : fnD cX11_layBar 48 (.ireturn) 1 49 := by decide +kernel
theorem dX11_layBar_49 : fnD cX11_layBar 49 (.aload_n 0) 1 50 := by decide +kernel
theorem dX11_layBar_50 : fnD cX11_layBar 50 (.getfield 16) 3 53 := by decide +kernel
theorem dX11_layBar_53 : fnD cX11_layBar 53 (.iload_n 1) 1 54 := by decide +kernel
theorem dX11_layBar_54 : fnD cX11_layBar 54 (.iaload) 1 55 := by decide +kernel
theorem dX11_layBar_55 : fnIf cX11_layBar 55 .ne 62 58 := by decide +kernel
theorem dX11_layBar_58 : fnD cX11_layBar 58 (.sipush (-2003)) 3 61 := by decide +kernel
theorem dX11_layBar_61 : fnD cX11_layBar 61 (.ireturn) 1 62 := by decide +kernel
theorem dX11_layBar_62 : fnD cX11_layBar 62 (.aload_n 0) 1 63 := by decide +kernel
theorem dX11_layBar_63 : fnD cX11_layBar 63 (.getfield 19) 3 66 := by decide +kernel
theorem dX11_layBar_66 : fnD cX11_layBar 66 (.iload_n 1) 1 67 := by decide +kernel
theorem dX11_layBar_67 : fnD cX11_layBar 67 (.iload_n 2) 1 68 := by decide +kernel
theorem dX11_layBar_68 : fnD cX11_layBar 68 (.iastore) 1 69 := by decide +kernel
theorem dX11_layBar_69 : fnD cX11_layBar 69 (.aload_n 0) 1 70 := by decide +kernel
theorem dX11_layBar_70 : fnD cX11_layBar 70 (.getfield 22) 3 73 := by decide +kernel
theorem dX11_layBar_73 : fnD cX11_layBar 73 (.iload_n 1) 1 74 := by decide +kernel
theorem dX11_layBar_74 : fnD cX11_layBar 74 (.iload_n 3) 1 75 := by decide +kernel
theorem dX11_layBar_75 : fnD cX11_layBar 75 (.iastore) 1 76 := by decide +kernel
theorem dX11_layBar_76 : fnD cX11_layBar 76 (.aload_n 0) 1 77 := by decide +kernel
theorem dX11_layBar_77 : fnD cX11_layBar 77 (.getfield 25) 3 80 := by decide +kernel
theorem dX11_layBar_80 : fnD cX11_layBar 80 (.iload_n 1) 1 81 := by decide +kernel
theorem dX11_layBar_81 : fnD cX11_layBar 81 (.iload 4) 2 83 := by decide +kernel
theorem dX11_layBar_83 : fnD cX11_layBar 83 (.bastore) 1 84 := by decide +kernel
theorem dX11_layBar_84 : fnD cX11_layBar 84 (.aload_n 0) 1 85 := by decide +kernel
theorem dX11_layBar_85 : fnD cX11_layBar 85 (.iload_n 1) 1 86 := by decide +kernel
theorem dX11_layBar_86 : fnD cX11_layBar 86 (.iload_n 3) 1 87 := by decide +kernel
theorem dX11_layBar_87 : fnD cX11_layBar 87 (.invokevirtual 207) 3 90 := by decide +kernel
theorem dX11_layBar_90 : fnD cX11_layBar 90 (.ireturn) 1 91 := by decide +kernel
theorem dX11_layBall_0 : fnD cX11_layBall 0 (.aload_n 0) 1 1 := by decide +kernel
theorem dX11_layBall_1 : fnD cX11_layBall 1 (.iconst 0) 1 2 := by decide +kernel
theorem dX11_layBall_2 : fnD cX11_layBall 2 (.putfield 96) 3 5 := by decide +kernel
theorem dX11_layBall_5 : fnD cX11_layBall 5 (.iload_n 1) 1 6 := by decide +kernel
theorem dX11_layBall_6 : fnD cX11_layBall 6 (.i2l) 1 7 := by decide +kernel
theorem dX11_layBall_7 : fnD cX11_layBall 7 (.lconst 0) 1 8 := by decide +kernel
theorem dX11_layBall_8 : fnD cX11_layBall 8 (.ldc2_w 201) 3 11 := by decide +kernel
theorem dX11_layBall_11 : fnD cX11_layBall 11 (.invokestatic 117) 3 14 := by decide +kernel
theorem dX11_layBall_14 : fnIf cX11_layBall 14 .ne 21 17 := by decide +kernel
theorem dX11_layBall_17 : fnD cX11_layBall 17 (.sipush (-2001)) 3 20 := by decide +kernel
theorem dX11_layBall_20 : fnD cX11_layBall 20 (.ireturn) 1 21 := by decide +kernel
theorem dX11_layBall_21 : fnD cX11_layBall 21 (.iload_n 2) 1 22 := by decide +kernel
theorem dX11_layBall_22 : fnD cX11_layBall 22 (.i2l) 1 23 := by decide +kernel
theorem dX11_layBall_23 : fnD cX11_layBall 23 (.ldc2_w 99) 3 26 := by decide +kernel
theorem dX11_layBall_26 : fnD cX11_layBall 26 (.ldc2_w 203) 3 29 := by decide +kernel
theorem dX11_layBall_29 : fnD cX11_layBall 29 (.invokestatic 117) 3 32 := by decide +kernel
theorem dX11_layBall_32 : fnIf cX11_layBall 32 .ne 39 35 := by decide +kernel
theorem dX11_layBall_35 : fnD cX11_layBall 35 (.sipush (-2002)) 3 38 := by decide +kernel
theorem dX11_layBall_38 : fnD cX11_layBall 38 (.ireturn) 1 39 := by decide +kernel
theorem dX11_layBall_39 : fnD cX11_layBall 39 (.aload_n 0) 1 40 := by decide +kernel
theorem dX11_layBall_40 : fnD cX11_layBall 40 (.getfield 29) 3 43 := by decide +kernel
theorem dX11_layBall_43 : fnD cX11_layBall 43 (.iload_n 1) 1 44 := by decide +kernel
theorem dX11_layBall_44 : fnD cX11_layBall 44 (.iaload) 1 45 := by decide +kernel
theorem dX11_layBall_45 : fnIf cX11_layBall 45 .eq 58 48 := by decide +kernel
theorem dX11_layBall_48 : fnD cX11_layBall 48 (.aload_n 0) 1 49 := by decide +kernel
theorem dX11_layBall_49 : fnD cX11_layBall 49 (.getfield 29) 3 52 := by decide +kernel
theorem dX11_layBall_52 : fnD cX11_layBall 52 (.iload_n 1) 1 53 := by decide +kernel
theorem dX11_layBall_53 : fnD cX11_layBall 53 (.iaload) 1 54 := by decide +kernel
theorem dX11_layBall_54 : fnD cX11_layBall 54 (.iload_n 2) 1 55 := by decide +kernel
theorem dX11_layBall_55 : fnIc cX11_layBall 55 .le 62 58 := by decide +kernel
theorem dX11_layBall_58 : fnD cX11_layBall 58 (.sipush (-2003)) 3 61 := by decide +kernel
theorem dX11_layBall_61 : fnD cX11_layBall 61 (.ireturn) 1 62 := by decide +kernel
theorem dX11_layBall_62 : fnD cX11_layBall 62 (.aload_n 0) 1 63 := by decide +kernel
theorem dX11_layBall_63 : fnD cX11_layBall 63 (.iload_n 1) 1 64 := by decide +kernel
theorem dX11_layBall_64 : fnD cX11_layBall 64 (.putfield 32) 3 67 := by decide +kernel
theorem dX11_layBall_67 : fnD cX11_layBall 67 (.aload_n 0) 1 68 := by decide +kernel
theorem dX11_layBall_68 : fnD cX11_layBall 68 (.iload_n 2) 1 69 := by decide +kernel
theorem dX11_layBall_69 : fnD cX11_layBall 69 (.putfield 210) 3 72 := by decide +kernel
theorem dX11_layBall_72 : fnD cX11_layBall 72 (.aload_n 0) 1 73 := by decide +kernel
theorem dX11_layBall_73 : fnD cX11_layBall 73 (.iload_n 1) 1 74 := by decide +kernel
theorem dX11_layBall_74 : fnD cX11_layBall 74 (.iload_n 2) 1 75 := by decide +kernel
theorem dX11_layBall_75 : fnD cX11_layBall 75 (.invokevirtual 213) 3 78 := by decide +kernel
theorem dX11_layBall_78 : fnD cX11_layBall 78 (.ireturn) 1 79 := by decide +kernel
theorem dX11_laid_0 : fnD cX11_laid 0 (.aload_n 0) 1 1 := by decide +kernel
theorem dX11_laid_1 : fnD cX11_laid 1 (.getfield 32) 3 4 := by decide +kernel
theorem dX11_laid_4 : fnD cX11_laid 4 (.sipush (-2009)) 3 7 := by decide +kernel
theorem dX11_laid_7 : fnIc cX11_laid 7 .ne 14 10 := by decide +kernel
theorem dX11_laid_10 : fnD cX11_laid 10 (.iconst 0) 1 11 := by decide +kernel
theorem dX11_laid_11 : fnGo cX11_laid 11 15 := by decide +kernel
theorem dX11_laid_14 : fnD cX11_laid 14 (.iconst 1) 1 15 := by decide +kernel
theorem dX11_laid_15 : fnD cX11_laid 15 (.istore_n 1) 1 16 := by decide +kernel
theorem dX11_laid_16 : fnD cX11_laid 16 (.iconst 0) 1 17 := by decide +kernel
theorem dX11_laid_17 : fnD cX11_laid 17 (.istore_n 2) 1 18 := by decide +kernel
theorem dX11_laid_18 : fnD cX11_laid 18 (.iload_n 2) 1 19 := by decide +kernel
theorem dX11_laid_19 : fnD cX11_laid 19 (.bipush 6) 2 21 := by decide +kernel
theorem dX11_laid_21 : fnIc cX11_laid 21 .ge 50 24 := by decide +kernel
theorem dX11_laid_24 : fnD cX11_laid 24 (.iload_n 1) 1 25 := by decide +kernel
theorem dX11_laid_25 : fnD cX11_laid 25 (.aload_n 0) 1 26 := by decide +kernel
theorem dX11_laid_26 : fnD cX11_laid 26 (.getfield 19) 3 29 := by decide +kernel
theorem dX11_laid_29 : fnD cX11_laid 29 (.iload_n 2) 1 30 := by decide +kernel
theorem dX11_laid_30 : fnD cX11_laid 30 (.iaload) 1 31 := by decide +kernel
theorem dX11_laid_31 : fnD cX11_laid 31 (.sipush (-2009)) 3 34 := by decide +kernel
theorem dX11_laid_34 : fnIc cX11_laid 34 .ne 41 37 := by decide +kernel
theorem dX11_laid_37 : fnD cX11_laid 37 (.iconst 0) 1 38 := by decide +kernel
theorem dX11_laid_38 : fnGo cX11_laid 38 42 := by decide +kernel
theorem dX11_laid_41 : fnD cX11_laid 41 (.iconst 1) 1 42 := by decide +kernel
theorem dX11_laid_42 : fnD cX11_laid 42 (.iadd) 1 43 := by decide +kernel
theorem dX11_laid_43 : fnD cX11_laid 43 (.istore_n 1) 1 44 := by decide +kernel
theorem dX11_laid_44 : fnD cX11_laid 44 (.iinc 2 1) 3 47 := by decide +kernel
theorem dX11_laid_47 : fnGo cX11_laid 47 18 := by decide +kernel
theorem dX11_laid_50 : fnD cX11_laid 50 (.iload_n 1) 1 51 := by decide +kernel
theorem dX11_laid_51 : fnD cX11_laid 51 (.ireturn) 1 52 := by decide +kernel
theorem dX11_lifted_0 : fnD cX11_lifted 0 (.aload_n 0) 1 1 := by decide +kernel
theorem dX11_lifted_1 : fnD cX11_lifted 1 (.invokevirtual 216) 3 4 := by decide +kernel
theorem dX11_lifted_4 : fnD cX11_lifted 4 (.istore_n 1) 1 5 := by decide +kernel
theorem dX11_lifted_5 : fnD cX11_lifted 5 (.aload_n 0) 1 6 := by decide +kernel
theorem dX11_lifted_6 : fnD cX11_lifted 6 (.sipush (-2009)) 3 9 := by decide +kernel
theorem dX11_lifted_9 : fnD cX11_lifted 9 (.putfield 32) 3 12 := by decide +kernel
theorem dX11_lifted_12 : fnD cX11_lifted 12 (.iconst 0) 1 13 := by decide +kernel
theorem dX11_lifted_13 : fnD cX11_lifted 13 (.istore_n 2) 1 14 := by decide +kernel
theorem dX11_lifted_14 : fnD cX11_lifted 14 (.iload_n 2) 1 15 := by decide +kernel
theorem dX11_lifted_15 : fnD cX11_lifted 15 (.bipush 6) 2 17 := by decide +kernel
theorem dX11_lifted_17 : fnIc cX11_lifted 17 .ge 35 20 := by decide +kernel
theorem dX11_lifted_20 : fnD cX11_lifted 20 (.aload_n 0) 1 21 := by decide +kernel
theorem dX11_lifted_21 : fnD cX11_lifted 21 (.getfield 19) 3 24 := by decide +kernel
theorem dX11_lifted_24 : fnD cX11_lifted 24 (.iload_n 2) 1 25 := by decide +kernel
theorem dX11_lifted_25 : fnD cX11_lifted 25 (.sipush (-2009)) 3 28 := by decide +kernel
theorem dX11_lifted_28 : fnD cX11_lifted 28 (.iastore) 1 29 := by decide +kernel
theorem dX11_lifted_29 : fnD cX11_lifted 29 (.iinc 2 1) 3 32 := by decide +kernel
theorem dX11_lifted_32 : fnGo cX11_lifted 32 14 := by decide +kernel
theorem dX11_lifted_35 : fnD cX11_lifted 35 (.iload_n 1) 1 36 := by decide +kernel
theorem dX11_lifted_36 : fnD cX11_lifted 36 (.ireturn) 1 37 := by decide +kernel
theorem dX11_takeUp_0 : fnD cX11_takeUp 0 (.aload_n 0) 1 1 := by decide +kernel
theorem dX11_takeUp_1 : fnD cX11_takeUp 1 (.iconst 0) 1 2 := by decide +kernel
theorem dX11_takeUp_2 : fnD cX11_takeUp 2 (.putfield 96) 3 5 := by decide +kernel
theorem dX11_takeUp_5 : fnD cX11_takeUp 5 (.aload_n 0) 1 6 := by decide +kernel
theorem dX11_takeUp_6 : fnD cX11_takeUp 6 (.invokevirtual 220) 3 9 := by decide +kernel
theorem dX11_takeUp_9 : fnD cX11_takeUp 9 (.ireturn) 1 10 := by decide +kernel
theorem dX11_leave_0 : fnD cX11_leave 0 (.aload_n 0) 1 1 := by decide +kernel
theorem dX11_leave_1 : fnD cX11_leave 1 (.iconst 0) 1 2 := by decide +kernel
theorem dX11_leave_2 : fnD cX11_leave 2 (.invokevirtual 168) 3 5 := by decide +kernel
theorem dX11_leave_5 : fnD cX11_leave 5 (.iconst 0) 1 6 := by decide +kernel
theorem dX11_leave_6 : fnD cX11_leave 6 (.istore_n 1) 1 7 := by decide +kernel
theorem dX11_leave_7 : fnD cX11_leave 7 (.iload_n 1) 1 8 := by decide +kernel
theorem dX11_leave_8 : fnD cX11_leave 8 (.bipush 6) 2 10 := by decide +kernel
theorem dX11_leave_10 : fnIc cX11_leave 10 .ge 74 13 := by decide +kernel
theorem dX11_leave_13 : fnD cX11_leave 13 (.aload_n 0) 1 14 := by decide +kernel
theorem dX11_leave_14 : fnD cX11_leave 14 (.getfield 19) 3 17 := by decide +kernel
theorem dX11_leave_17 : fnD cX11_leave 17 (.iload_n 1) 1 18 := by decide +kernel
theorem dX11_leave_18 : fnD cX11_leave 18 (.iaload) 1 19 := by decide +kernel
theorem dX11_leave_19 : fnD cX11_leave 19 (.sipush (-2009)) 3 22 := by decide +kernel
theorem dX11_leave_22 : fnIc cX11_leave 22 .eq 68 25 := by decide +kernel
theorem dX11_leave_25 : fnD cX11_leave 25 (.aload_n 0) 1 26 := by decide +kernel
theorem dX11_leave_26 : fnD cX11_leave 26 (.iload_n 1) 1 27 := by decide +kernel
theorem dX11_leave_27 : fnD cX11_leave 27 (.aload_n 0) 1 28 := by decide +kernel
theorem dX11_leave_28 : fnD cX11_leave 28 (.getfield 22) 3 31 := by decide +kernel
theorem dX11_leave_31 : fnD cX11_leave 31 (.iload_n 1) 1 32 := by decide +kernel
theorem dX11_leave_32 : fnD cX11_leave 32 (.iaload) 1 33 := by decide +kernel
theorem dX11_leave_33 : fnD cX11_leave 33 (.invokevirtual 207) 3 36 := by decide +kernel
theorem dX11_leave_36 : fnD cX11_leave 36 (.istore_n 2) 1 37 := by decide +kernel
theorem dX11_leave_37 : fnD cX11_leave 37 (.aload_n 0) 1 38 := by decide +kernel
theorem dX11_leave_38 : fnD cX11_leave 38 (.getfield 78) 3 41 := by decide +kernel
theorem dX11_leave_41 : fnD cX11_leave 41 (.iconst 1) 1 42 := by decide +kernel
theorem dX11_leave_42 : fnD cX11_leave 42 (.aload_n 0) 1 43 := by decide +kernel
theorem dX11_leave_43 : fnD cX11_leave 43 (.getfield 19) 3 46 := by decide +kernel
theorem dX11_leave_46 : fnD cX11_leave 46 (.iload_n 1) 1 47 := by decide +kernel
theorem dX11_leave_47 : fnD cX11_leave 47 (.iaload) 1 48 := by decide +kernel
theorem dX11_leave_48 : fnD cX11_leave 48 (.iadd) 1 49 := by decide +kernel
theorem dX11_leave_49 : fnD cX11_leave 49 (.dup2) 1 50 := by decide +kernel
theorem dX11_leave_50 : fnD cX11_leave 50 (.iaload) 1 51 := by decide +kernel
theorem dX11_leave_51 : fnD cX11_leave 51 (.aload_n 0) 1 52 := by decide +kernel
theorem dX11_leave_52 : fnD cX11_leave 52 (.getfield 25) 3 55 := by decide +kernel
theorem dX11_leave_55 : fnD cX11_leave 55 (.iload_n 1) 1 56 := by decide +kernel
theorem dX11_leave_56 : fnD cX11_leave 56 (.baload) 1 57 := by decide +kernel
theorem dX11_leave_57 : fnIf cX11_leave 57 .eq 64 60 := by decide +kernel
theorem dX11_leave_60 : fnD cX11_leave 60 (.iload_n 2) 1 61 := by decide +kernel
theorem dX11_leave_61 : fnGo cX11_leave 61 66 := by decide +kernel
theorem dX11_leave_64 : fnD cX11_leave 64 (.iload_n 2) 1 65 := by decide +kernel
theorem dX11_leave_65 : fnD cX11_leave 65 (.ineg) 1 66 := by decide +kernel
theorem dX11_leave_66 : fnD cX11_leave 66 (.iadd) 1 67 := by decide +kernel
theorem dX11_leave_67 : fnD cX11_leave 67 (.iastore) 1 68 := by decide +kernel
theorem dX11_leave_68 : fnD cX11_leave 68 (.iinc 1 1) 3 71 := by decide +kernel
theorem dX11_leave_71 : fnGo cX11_leave 71 7 := by decide +kernel
theorem dX11_leave_74 : fnD cX11_leave 74 (.aload_n 0) 1 75 := by decide +kernel
theorem dX11_leave_75 : fnD cX11_leave 75 (.getfield 78) 3 78 := by decide +kernel
theorem dX11_leave_78 : fnD cX11_leave 78 (.iconst 3) 1 79 := by decide +kernel
theorem dX11_leave_79 : fnD cX11_leave 79 (.dup2) 1 80 := by decide +kernel
theorem dX11_leave_80 : fnD cX11_leave 80 (.iaload) 1 81 := by decide +kernel
theorem dX11_leave_81 : fnD cX11_leave 81 (.aload_n 0) 1 82 := by decide +kernel
theorem dX11_leave_82 : fnD cX11_leave 82 (.getfield 32) 3 85 := by decide +kernel
theorem dX11_leave_85 : fnD cX11_leave 85 (.sipush (-2009)) 3 88 := by decide +kernel
theorem dX11_leave_88 : fnIc cX11_leave 88 .ne 95 91 := by decide +kernel
theorem dX11_leave_91 : fnD cX11_leave 91 (.iconst 0) 1 92 := by decide +kernel
theorem dX11_leave_92 : fnGo cX11_leave 92 107 := by decide +kernel
theorem dX11_leave_95 : fnD cX11_leave 95 (.aload_n 0) 1 96 := by decide +kernel
theorem dX11_leave_96 : fnD cX11_leave 96 (.aload_n 0) 1 97 := by decide +kernel
theorem dX11_leave_97 : fnD cX11_leave 97 (.getfield 32) 3 100 := by decide +kernel
theorem dX11_leave_100 : fnD cX11_leave 100 (.aload_n 0) 1 101 := by decide +kernel
theorem dX11_leave_101 : fnD cX11_leave 101 (.getfield 210) 3 104 := by decide +kernel
theorem dX11_leave_104 : fnD cX11_leave 104 (.invokevirtual 213) 3 107 := by decide +kernel
theorem dX11_leave_107 : fnD cX11_leave 107 (.isub) 1 108 := by decide +kernel
theorem dX11_leave_108 : fnD cX11_leave 108 (.iastore) 1 109 := by decide +kernel
theorem dX11_leave_109 : fnD cX11_leave 109 (.return_) 1 110 := by decide +kernel
theorem dX11_leftOf_0 : fnD cX11_leftOf 0 (.aload_n 0) 1 1 := by decide +kernel
theorem dX11_leftOf_1 : fnD cX11_leftOf 1 (.iconst 0) 1 2 := by decide +kernel
theorem dX11_leftOf_2 : fnD cX11_leftOf 2 (.putfield 96) 3 5 := by decide +kernel
theorem dX11_leftOf_5 : fnD cX11_leftOf 5 (.iload_n 1) 1 6 := by decide +kernel
theorem dX11_leftOf_6 : fnD cX11_leftOf 6 (.invokestatic 157) 3 9 := by decide +kernel
theorem dX11_leftOf_9 : fnIf cX11_leftOf 9 .eq 16 12 := by decide +kernel
theorem dX11_leftOf_12 : fnD cX11_leftOf 12 (.sipush (-2001)) 3 15 := by decide +kernel
theorem dX11_leftOf_15 : fnD cX11_leftOf 15 (.ireturn) 1 16 := by decide +kernel
theorem dX11_leftOf_16 : fnD cX11_leftOf 16 (.aload_n 0) 1 17 := by decide +kernel
theorem dX11_leftOf_17 : fnD cX11_leftOf 17 (.invokevirtual 223) 3 20 := by decide +kernel
theorem dX11_leftOf_20 : fnD cX11_leftOf 20 (.aload_n 0) 1 21 := by decide +kernel
theorem dX11_leftOf_21 : fnD cX11_leftOf 21 (.getfield 78) 3 24 := by decide +kernel
theorem dX11_leftOf_24 : fnD cX11_leftOf 24 (.iload_n 1) 1 25 := by decide +kernel
theorem dX11_leftOf_25 : fnD cX11_leftOf 25 (.iaload) 1 26 := by decide +kernel
theorem dX11_leftOf_26 : fnD cX11_leftOf 26 (.ireturn) 1 27 := by decide +kernel
theorem dX11_left_0 : fnD cX11_left 0 (.aload_n 0) 1 1 := by decide +kernel
theorem dX11_left_1 : fnD cX11_left 1 (.iconst 0) 1 2 := by decide +kernel
theorem dX11_left_2 : fnD cX11_left 2 (.putfield 96) 3 5 := by decide +kernel
theorem dX11_left_5 : fnD cX11_left 5 (.iload_n 1) 1 6 := by decide +kernel
theorem dX11_left_6 : fnD cX11_left 6 (.invokestatic 162) 3 9 := by decide +kernel
theorem dX11_left_9 : fnIf cX11_left 9 .eq 16 12 := by decide +kernel
theorem dX11_left_12 : fnD cX11_left 12 (.sipush (-2001)) 3 15 := by decide +kernel
theorem dX11_left_15 : fnD cX11_left 15 (.ireturn) 1 16 := by decide +kernel
theorem dX11_left_16 : fnD cX11_left 16 (.aload_n 0) 1 17 := by decide +kernel
theorem dX11_left_17 : fnD cX11_left 17 (.invokevirtual 223) 3 20 := by decide +kernel
theorem dX11_left_20 : fnD cX11_left 20 (.aload_n 0) 1 21 := by decide +kernel
theorem dX11_left_21 : fnD cX11_left 21 (.iload_n 1) 1 22 := by decide +kernel
theorem dX11_left_22 : fnD cX11_left 22 (.iconst 0) 1 23 := by decide +kernel
theorem dX11_left_23 : fnD cX11_left 23 (.invokevirtual 138) 3 26 := by decide +kernel
theorem dX11_left_26 : fnD cX11_left 26 (.ireturn) 1 27 := by decide +kernel
theorem dX11_byBar_0 : fnD cX11_byBar 0 (.iload_n 1) 1 1 := by decide +kernel
theorem dX11_byBar_1 : fnIf cX11_byBar 1 .ne 9 4 := by decide +kernel
theorem dX11_byBar_4 : fnD cX11_byBar 4 (.iload_n 2) 1 5 := by decide +kernel
theorem dX11_byBar_5 : fnD cX11_byBar 5 (.invokestatic 178) 3 8 := by decide +kernel
theorem dX11_byBar_8 : fnD cX11_byBar 8 (.ireturn) 1 9 := by decide +kernel
theorem dX11_byBar_9 : fnD cX11_byBar 9 (.iload_n 1) 1 10 := by decide +kernel
theorem dX11_byBar_10 : fnD cX11_byBar 10 (.iconst 1) 1 11 := by decide +kernel
theorem dX11_byBar_11 : fnD cX11_byBar 11 (.isub) 1 12 := by decide +kernel
theorem dX11_byBar_12 : fnD cX11_byBar 12 (.bipush 16) 2 14 := by decide +kernel
theorem dX11_byBar_14 : fnD cX11_byBar 14 (.idiv) 1 15 := by decide +kernel
theorem dX11_byBar_15 : fnD cX11_byBar 15 (.istore_n 3) 1 16 := by decide +kernel
theorem dX11_byBar_16 : fnD cX11_byBar 16 (.aload_n 0) 1 17 := by decide +kernel
theorem dX11_byBar_17 : fnD cX11_byBar 17 (.iload_n 3) 1 18 := by decide +kernel
theorem dX11_byBar_18 : fnD cX11_byBar 18 (.iload_n 1) 1 19 := by decide +kernel
theorem dX11_byBar_19 : fnD cX11_byBar 19 (.iconst 1) 1 20 := by decide +kernel
theorem dX11_byBar_20 : fnD cX11_byBar 20 (.isub) 1 21 := by decide +kernel
theorem dX11_byBar_21 : fnD cX11_byBar 21 (.bipush 16) 2 23 := by decide +kernel
theorem dX11_byBar_23 : fnD cX11_byBar 23 (.irem) 1 24 := by decide +kernel
theorem dX11_byBar_24 : fnD cX11_byBar 24 (.iconst 2) 1 25 := by decide +kernel
theorem dX11_byBar_25 : fnD cX11_byBar 25 (.idiv) 1 26 := by decide +kernel
theorem dX11_byBar_26 : fnD cX11_byBar 26 (.iconst 2) 1 27 := by decide +kernel
theorem dX11_byBar_27 : fnD cX11_byBar 27 (.iadd) 1 28 := by decide +kernel
theorem dX11_byBar_28 : fnD cX11_byBar 28 (.invokevirtual 207) 3 31 := by decide +kernel
theorem dX11_byBar_31 : fnD cX11_byBar 31 (.istore 4) 2 33 := by decide +kernel
theorem dX11_byBar_33 : fnD cX11_byBar 33 (.aload_n 0) 1 34 := by decide +kernel
theorem dX11_byBar_34 : fnD cX11_byBar 34 (.getfield 16) 3 37 := by decide +kernel
theorem dX11_byBar_37 : fnD cX11_byBar 37 (.iload_n 3) 1 38 := by decide +kernel
theorem dX11_byBar_38 : fnD cX11_byBar 38 (.iaload) 1 39 := by decide +kernel
theorem dX11_byBar_39 : fnIf cX11_byBar 39 .ne 47 42 := by decide +kernel
theorem dX11_byBar_42 : fnD cX11_byBar 42 (.ldc 226) 2 44 := by decide +kernel
theorem dX11_byBar_44 : fnGo cX11_byBar 44 70 := by decide +kernel
theorem dX11_byBar_47 : fnD cX11_byBar 47 (.iload_n 1) 1 48 := by decide +kernel
theorem dX11_byBar_48 : fnD cX11_byBar 48 (.iconst 1) 1 49 := by decide +kernel
theorem dX11_byBar_49 : fnD cX11_byBar 49 (.isub) 1 50 := by decide +kernel
theorem dX11_byBar_50 : fnD cX11_byBar 50 (.iconst 2) 1 51 := by decide +kernel
theorem dX11_byBar_51 : fnD cX11_byBar 51 (.irem) 1 52 := by decide +kernel
theorem dX11_byBar_52 : fnD cX11_byBar 52 (.iconst 1) 1 53 := by decide +kernel
theorem dX11_byBar_53 : fnIc cX11_byBar 53 .ne 63 56 := by decide +kernel
theorem dX11_byBar_56 : fnD cX11_byBar 56 (.iload_n 2) 1 57 := by decide +kernel
theorem dX11_byBar_57 : fnD cX11_byBar 57 (.iload 4) 2 59 := by decide +kernel
theorem dX11_byBar_59 : fnD cX11_byBar 59 (.iadd) 1 60 := by decide +kernel
theorem dX11_byBar_60 : fnGo cX11_byBar 60 67 := by decide +kernel
theorem dX11_byBar_63 : fnD cX11_byBar 63 (.iload_n 2) 1 64 := by decide +kernel
theorem dX11_byBar_64 : fnD cX11_byBar 64 (.iload 4) 2 66 := by decide +kernel
theorem dX11_byBar_66 : fnD cX11_byBar 66 (.isub) 1 67 := by decide +kernel
theorem dX11_byBar_67 : fnD cX11_byBar 67 (.invokestatic 178) 3 70 := by decide +kernel
theorem dX11_byBar_70 : fnD cX11_byBar 70 (.ireturn) 1 71 := by decide +kernel
theorem dX11_byBall_0 : fnD cX11_byBall 0 (.iload_n 1) 1 1 := by decide +kernel
theorem dX11_byBall_1 : fnIf cX11_byBall 1 .ne 9 4 := by decide +kernel
theorem dX11_byBall_4 : fnD cX11_byBall 4 (.iload_n 2) 1 5 := by decide +kernel
theorem dX11_byBall_5 : fnD cX11_byBall 5 (.invokestatic 178) 3 8 := by decide +kernel
theorem dX11_byBall_8 : fnD cX11_byBall 8 (.ireturn) 1 9 := by decide +kernel
theorem dX11_byBall_9 : fnD cX11_byBall 9 (.iload_n 1) 1 10 := by decide +kernel
theorem dX11_byBall_10 : fnD cX11_byBall 10 (.iconst 1) 1 11 := by decide +kernel
theorem dX11_byBall_11 : fnD cX11_byBall 11 (.isub) 1 12 := by decide +kernel
theorem dX11_byBall_12 : fnD cX11_byBall 12 (.bipush 19) 2 14 := by decide +kernel
theorem dX11_byBall_14 : fnD cX11_byBall 14 (.idiv) 1 15 := by decide +kernel
theorem dX11_byBall_15 : fnD cX11_byBall 15 (.istore_n 3) 1 16 := by decide +kernel
theorem dX11_byBall_16 : fnD cX11_byBall 16 (.iload_n 1) 1 17 := by decide +kernel
theorem dX11_byBall_17 : fnD cX11_byBall 17 (.iconst 1) 1 18 := by decide +kernel
theorem dX11_byBall_18 : fnD cX11_byBall 18 (.isub) 1 19 := by decide +kernel
theorem dX11_byBall_19 : fnD cX11_byBall 19 (.bipush 19) 2 21 := by decide +kernel
theorem dX11_byBall_21 : fnD cX11_byBall 21 (.irem) 1 22 := by decide +kernel
theorem dX11_byBall_22 : fnD cX11_byBall 22 (.iconst 2) 1 23 := by decide +kernel
theorem dX11_byBall_23 : fnD cX11_byBall 23 (.iadd) 1 24 := by decide +kernel
theorem dX11_byBall_24 : fnD cX11_byBall 24 (.istore 4) 2 26 := by decide +kernel
theorem dX11_byBall_26 : fnD cX11_byBall 26 (.aload_n 0) 1 27 := by decide +kernel
theorem dX11_byBall_27 : fnD cX11_byBall 27 (.getfield 29) 3 30 := by decide +kernel
theorem dX11_byBall_30 : fnD cX11_byBall 30 (.iload_n 3) 1 31 := by decide +kernel
theorem dX11_byBall_31 : fnD cX11_byBall 31 (.iaload) 1 32 := by decide +kernel
theorem dX11_byBall_32 : fnIf cX11_byBall 32 .eq 46 35 := by decide +kernel
theorem dX11_byBall_35 : fnD cX11_byBall 35 (.aload_n 0) 1 36 := by decide +kernel
theorem dX11_byBall_36 : fnD cX11_byBall 36 (.getfield 29) 3 39 := by decide +kernel
theorem dX11_byBall_39 : fnD cX11_byBall 39 (.iload_n 3) 1 40 := by decide +kernel
theorem dX11_byBall_40 : fnD cX11_byBall 40 (.iaload) 1 41 := by decide +kernel
theorem dX11_byBall_41 : fnD cX11_byBall 41 (.iload 4) 2 43 := by decide +kernel
theorem dX11_byBall_43 : fnIc cX11_byBall 43 .le 51 46 := by decide +kernel
theorem dX11_byBall_46 : fnD cX11_byBall 46 (.ldc 226) 2 48 := by decide +kernel
theorem dX11_byBall_48 : fnGo cX11_byBall 48 63 := by decide +kernel
theorem dX11_byBall_51 : fnD cX11_byBall 51 (.iload_n 2) 1 52 := by decide +kernel
theorem dX11_byBall_52 : fnD cX11_byBall 52 (.aload_n 0) 1 53 := by decide +kernel
theorem dX11_byBall_53 : fnD cX11_byBall 53 (.iload_n 3) 1 54 := by decide +kernel
theorem dX11_byBall_54 : fnD cX11_byBall 54 (.iload 4) 2 56 := by decide +kernel
theorem dX11_byBall_56 : fnD cX11_byBall 56 (.invokevirtual 213) 3 59 := by decide +kernel
theorem dX11_byBall_59 : fnD cX11_byBall 59 (.isub) 1 60 := by decide +kernel
theorem dX11_byBall_60 : fnD cX11_byBall 60 (.invokestatic 178) 3 63 := by decide +kernel
theorem dX11_byBall_63 : fnD cX11_byBall 63 (.ireturn) 1 64 := by decide +kernel
theorem dX11_one_0 : fnD cX11_one 0 (.iload_n 0) 1 1 := by decide +kernel
theorem dX11_one_1 : fnIf cX11_one 1 .ne 8 4 := by decide +kernel
theorem dX11_one_4 : fnD cX11_one 4 (.iconst 0) 1 5 := by decide +kernel
theorem dX11_one_5 : fnGo cX11_one 5 9 := by decide +kernel
theorem dX11_one_8 : fnD cX11_one 8 (.iconst 1) 1 9 := by decide +kernel
theorem dX11_one_9 : fnD cX11_one 9 (.ireturn) 1 10 := by decide +kernel
theorem dX11_look_0 : fnD cX11_look 0 (.aload_n 0) 1 1 := by decide +kernel
theorem dX11_look_1 : fnD cX11_look 1 (.getfield 7) 3 4 := by decide +kernel
theorem dX11_look_4 : fnD cX11_look 4 (.iconst 1) 1 5 := by decide +kernel
theorem dX11_look_5 : fnD cX11_look 5 (.iaload) 1 6 := by decide +kernel
theorem dX11_look_6 : fnD cX11_look 6 (.istore_n 1) 1 7 := by decide +kernel
theorem dX11_look_7 : fnD cX11_look 7 (.aload_n 0) 1 8 := by decide +kernel
theorem dX11_look_8 : fnD cX11_look 8 (.getfield 7) 3 11 := by decide +kernel
theorem dX11_look_11 : fnD cX11_look 11 (.iconst 2) 1 12 := by decide +kernel
theorem dX11_look_12 : fnD cX11_look 12 (.iaload) 1 13 := by decide +kernel
theorem dX11_look_13 : fnD cX11_look 13 (.istore_n 2) 1 14 := by decide +kernel
theorem dX11_look_14 : fnD cX11_look 14 (.ldc 227) 2 16 := by decide +kernel
theorem dX11_look_16 : fnD cX11_look 16 (.istore_n 3) 1 17 := by decide +kernel
theorem dX11_look_17 : fnD cX11_look 17 (.bipush 9) 2 19 := by decide +kernel
theorem dX11_look_19 : fnD cX11_look 19 (.istore 4) 2 21 := by decide +kernel
theorem dX11_look_21 : fnD cX11_look 21 (.iconst 0) 1 22 := by decide +kernel
theorem dX11_look_22 : fnD cX11_look 22 (.istore 5) 2 24 := by decide +kernel
theorem dX11_look_24 : fnD cX11_look 24 (.iload 5) 2 26 := by decide +kernel
theorem dX11_look_26 : fnD cX11_look 26 (.bipush 96) 2 28 := by decide +kernel
theorem dX11_look_28 : fnIc cX11_look 28 .gt 164 31 := by decide +kernel
theorem dX11_look_31 : fnD cX11_look 31 (.iconst 0) 1 32 := by decide +kernel
theorem dX11_look_32 : fnD cX11_look 32 (.istore 6) 2 34 := by decide +kernel
theorem dX11_look_34 : fnD cX11_look 34 (.iload 6) 2 36 := by decide +kernel
theorem dX11_look_36 : fnD cX11_look 36 (.bipush 96) 2 38 := by decide +kernel
theorem dX11_look_38 : fnIc cX11_look 38 .gt 158 41 := by decide +kernel
theorem dX11_look_41 : fnD cX11_look 41 (.iload 5) 2 43 := by decide +kernel
theorem dX11_look_43 : fnIf cX11_look 43 .le 72 46 := by decide +kernel
theorem dX11_look_46 : fnD cX11_look 46 (.iload 6) 2 48 := by decide +kernel
theorem dX11_look_48 : fnIf cX11_look 48 .le 72 51 := by decide +kernel
theorem dX11_look_51 : fnD cX11_look 51 (.iload 5) 2 53 := by decide +kernel
theorem dX11_look_53 : fnD cX11_look 53 (.iconst 1) 1 54 := by decide +kernel
theorem dX11_look_54 : fnD cX11_look 54 (.isub) 1 55 := by decide +kernel
theorem dX11_look_55 : fnD cX11_look 55 (.bipush 16) 2 57 := by decide +kernel
theorem dX11_look_57 : fnD cX11_look 57 (.idiv) 1 58 := by decide +kernel
theorem dX11_look_58 : fnD cX11_look 58 (.iload 6) 2 60 := by decide +kernel
theorem dX11_look_60 : fnD cX11_look 60 (.iconst 1) 1 61 := by decide +kernel
theorem dX11_look_61 : fnD cX11_look 61 (.isub) 1 62 := by decide +kernel
theorem dX11_look_62 : fnD cX11_look 62 (.bipush 16) 2 64 := by decide +kernel
theorem dX11_look_64 : fnD cX11_look 64 (.idiv) 1 65 := by decide +kernel
theorem dX11_look_65 : fnIc cX11_look 65 .ne 72 68 := by decide +kernel
theorem dX11_look_68 : fnD cX11_look 68 (.iconst 1) 1 69 := by decide +kernel
theorem dX11_look_69 : fnGo cX11_look 69 73 := by decide +kernel
theorem dX11_look_72 : fnD cX11_look 72 (.iconst 0) 1 73 := by decide +kernel
theorem dX11_look_73 : fnD cX11_look 73 (.istore 7) 2 75 := by decide +kernel
theorem dX11_look_75 : fnD cX11_look 75 (.aload_n 0) 1 76 := by decide +kernel
theorem dX11_look_76 : fnD cX11_look 76 (.iload 5) 2 78 := by decide +kernel
theorem dX11_look_78 : fnD cX11_look 78 (.iload_n 1) 1 79 := by decide +kernel
theorem dX11_look_79 : fnD cX11_look 79 (.invokevirtual 228) 3 82 := by decide +kernel
theorem dX11_look_82 : fnD cX11_look 82 (.aload_n 0) 1 83 := by decide +kernel
theorem dX11_look_83 : fnD cX11_look 83 (.iload 6) 2 85 := by decide +kernel
theorem dX11_look_85 : fnD cX11_look 85 (.iload_n 2) 1 86 := by decide +kernel
theorem dX11_look_86 : fnD cX11_look 86 (.invokevirtual 228) 3 89 := by decide +kernel
theorem dX11_look_89 : fnD cX11_look 89 (.iadd) 1 90 := by decide +kernel
theorem dX11_look_90 : fnD cX11_look 90 (.istore 8) 2 92 := by decide +kernel
theorem dX11_look_92 : fnD cX11_look 92 (.iload 5) 2 94 := by decide +kernel
theorem dX11_look_94 : fnD cX11_look 94 (.invokestatic 231) 3 97 := by decide +kernel
theorem dX11_look_97 : fnD cX11_look 97 (.iload 6) 2 99 := by decide +kernel
theorem dX11_look_99 : fnD cX11_look 99 (.invokestatic 231) 3 102 := by decide +kernel
theorem dX11_look_102 : fnD cX11_look 102 (.iadd) 1 103 := by decide +kernel
theorem dX11_look_103 : fnD cX11_look 103 (.istore 9) 2 105 := by decide +kernel
theorem dX11_look_105 : fnD cX11_look 105 (.iload 7) 2 107 := by decide +kernel
theorem dX11_look_107 : fnIf cX11_look 107 .ne 152 110 := by decide +kernel
theorem dX11_look_110 : fnD cX11_look 110 (.iload 8) 2 112 := by decide +kernel
theorem dX11_look_112 : fnD cX11_look 112 (.iload_n 3) 1 113 := by decide +kernel
theorem dX11_look_113 : fnIc cX11_look 113 .lt 129 116 := by decide +kernel
theorem dX11_look_116 : fnD cX11_look 116 (.iload 8) 2 118 := by decide +kernel
theorem dX11_look_118 : fnD cX11_look 118 (.iload_n 3) 1 119 := by decide +kernel
theorem dX11_look_119 : fnIc cX11_look 119 .ne 152 122 := by decide +kernel
theorem dX11_look_122 : fnD cX11_look 122 (.iload 9) 2 124 := by decide +kernel
theorem dX11_look_124 : fnD cX11_look 124 (.iload 4) 2 126 := by decide +kernel
theorem dX11_look_126 : fnIc cX11_look 126 .ge 152 129 := by decide +kernel
theorem dX11_look_129 : fnD cX11_look 129 (.iload 8) 2 131 := by decide +kernel
theorem dX11_look_131 : fnD cX11_look 131 (.istore_n 3) 1 132 := by decide +kernel
theorem dX11_look_132 : fnD cX11_look 132 (.iload 9) 2 134 := by decide +kernel
theorem dX11_look_134 : fnD cX11_look 134 (.istore 4) 2 136 := by decide +kernel
theorem dX11_look_136 : fnD cX11_look 136 (.aload_n 0) 1 137 := by decide +kernel
theorem dX11_look_137 : fnD cX11_look 137 (.getfield 84) 3 140 := by decide +kernel
theorem dX11_look_140 : fnD cX11_look 140 (.iconst 0) 1 141 := by decide +kernel
theorem dX11_look_141 : fnD cX11_look 141 (.iload 5) 2 143 := by decide +kernel
theorem dX11_look_143 : fnD cX11_look 143 (.iastore) 1 144 := by decide +kernel
theorem dX11_look_144 : fnD cX11_look 144 (.aload_n 0) 1 145 := by decide +kernel
theorem dX11_look_145 : fnD cX11_look 145 (.getfield 84) 3 148 := by decide +kernel
theorem dX11_look_148 : fnD cX11_look 148 (.iconst 1) 1 149 := by decide +kernel
theorem dX11_look_149 : fnD cX11_look 149 (.iload 6) 2 151 := by decide +kernel
theorem dX11_look_151 : fnD cX11_look 151 (.iastore) 1 152 := by decide +kernel
theorem dX11_look_152 : fnD cX11_look 152 (.iinc 6 1) 3 155 := by decide +kernel
theorem dX11_look_155 : fnGo cX11_look 155 34 := by decide +kernel
theorem dX11_look_158 : fnD cX11_look 158 (.iinc 5 1) 3 161 := by decide +kernel
theorem dX11_look_161 : fnGo cX11_look 161 24 := by decide +kernel
theorem dX11_look_164 : fnD cX11_look 164 (.aload_n 0) 1 165 := by decide +kernel
theorem dX11_look_165 : fnD cX11_look 165 (.getfield 84) 3 168 := by decide +kernel
theorem dX11_look_168 : fnD cX11_look 168 (.iconst 2) 1 169 := by decide +kernel
theorem dX11_look_169 : fnD cX11_look 169 (.iconst 0) 1 170 := by decide +kernel
theorem dX11_look_170 : fnD cX11_look 170 (.iastore) 1 171 := by decide +kernel
theorem dX11_look_171 : fnD cX11_look 171 (.iconst 1) 1 172 := by decide +kernel
theorem dX11_look_172 : fnD cX11_look 172 (.istore 5) 2 174 := by decide +kernel
theorem dX11_look_174 : fnD cX11_look 174 (.iload 5) 2 176 := by decide +kernel
theorem dX11_look_176 : fnD cX11_look 176 (.bipush 76) 2 178 := by decide +kernel
theorem dX11_look_178 : fnIc cX11_look 178 .gt 235 181 := by decide +kernel
theorem dX11_look_181 : fnD cX11_look 181 (.aload_n 0) 1 182 := by decide +kernel
theorem dX11_look_182 : fnD cX11_look 182 (.getfield 84) 3 185 := by decide +kernel
theorem dX11_look_185 : fnD cX11_look 185 (.iconst 2) 1 186 := by decide +kernel
theorem dX11_look_186 : fnD cX11_look 186 (.aload_n 0) 1 187 := by decide +kernel
theorem dX11_look_187 : fnD cX11_look 187 (.iload 5) 2 189 := by decide +kernel
theorem dX11_look_189 : fnD cX11_look 189 (.aload_n 0) 1 190 := by decide +kernel
theorem dX11_look_190 : fnD cX11_look 190 (.getfield 7) 3 193 := by decide +kernel
theorem dX11_look_193 : fnD cX11_look 193 (.iconst 3) 1 194 := by decide +kernel
theorem dX11_look_194 : fnD cX11_look 194 (.iaload) 1 195 := by decide +kernel
theorem dX11_look_195 : fnD cX11_look 195 (.invokevirtual 234) 3 198 := by decide +kernel
theorem dX11_look_198 : fnD cX11_look 198 (.aload_n 0) 1 199 := by decide +kernel
theorem dX11_look_199 : fnD cX11_look 199 (.aload_n 0) 1 200 := by decide +kernel
theorem dX11_look_200 : fnD cX11_look 200 (.getfield 84) 3 203 := by decide +kernel
theorem dX11_look_203 : fnD cX11_look 203 (.iconst 2) 1 204 := by decide +kernel
theorem dX11_look_204 : fnD cX11_look 204 (.iaload) 1 205 := by decide +kernel
theorem dX11_look_205 : fnD cX11_look 205 (.aload_n 0) 1 206 := by decide +kernel
theorem dX11_look_206 : fnD cX11_look 206 (.getfield 7) 3 209 := by decide +kernel
theorem dX11_look_209 : fnD cX11_look 209 (.iconst 3) 1 210 := by decide +kernel
theorem dX11_look_210 : fnD cX11_look 210 (.iaload) 1 211 := by decide +kernel
theorem dX11_look_211 : fnD cX11_look 211 (.invokevirtual 234) 3 214 := by decide +kernel
theorem dX11_look_214 : fnIc cX11_look 214 .ge 222 217 := by decide +kernel
theorem dX11_look_217 : fnD cX11_look 217 (.iload 5) 2 219 := by decide +kernel
theorem dX11_look_219 : fnGo cX11_look 219 228 := by decide +kernel
theorem dX11_look_222 : fnD cX11_look 222 (.aload_n 0) 1 223 := by decide +kernel
theorem dX11_look_223 : fnD cX11_look 223 (.getfield 84) 3 226 := by decide +kernel
theorem dX11_look_226 : fnD cX11_look 226 (.iconst 2) 1 227 := by decide +kernel
theorem dX11_look_227 : fnD cX11_look 227 (.iaload) 1 228 := by decide +kernel
theorem dX11_look_228 : fnD cX11_look 228 (.iastore) 1 229 := by decide +kernel
theorem dX11_look_229 : fnD cX11_look 229 (.iinc 5 1) 3 232 := by decide +kernel
theorem dX11_look_232 : fnGo cX11_look 232 174 := by decide +kernel
theorem dX11_look_235 : fnD cX11_look 235 (.aload_n 0) 1 236 := by decide +kernel
theorem dX11_look_236 : fnD cX11_look 236 (.iload_n 3) 1 237 := by decide +kernel
theorem dX11_look_237 : fnD cX11_look 237 (.aload_n 0) 1 238 := by decide +kernel
theorem dX11_look_238 : fnD cX11_look 238 (.aload_n 0) 1 239 := by decide +kernel
theorem dX11_look_239 : fnD cX11_look 239 (.getfield 84) 3 242 := by decide +kernel
theorem dX11_look_242 : fnD cX11_look 242 (.iconst 2) 1 243 := by decide +kernel
theorem dX11_look_243 : fnD cX11_look 243 (.iaload) 1 244 := by decide +kernel
theorem dX11_look_244 : fnD cX11_look 244 (.aload_n 0) 1 245 := by decide +kernel
theorem dX11_look_245 : fnD cX11_look 245 (.getfield 7) 3 248 := by decide +kernel
theorem dX11_look_248 : fnD cX11_look 248 (.iconst 3) 1 249 := by decide +kernel
theorem dX11_look_249 : fnD cX11_look 249 (.iaload) 1 250 := by decide +kernel
theorem dX11_look_250 : fnD cX11_look 250 (.invokevirtual 234) 3 253 := by decide +kernel
theorem dX11_look_253 : fnD cX11_look 253 (.iadd) 1 254 := by decide +kernel
theorem dX11_look_254 : fnD cX11_look 254 (.putfield 237) 3 257 := by decide +kernel
theorem dX11_look_257 : fnD cX11_look 257 (.return_) 1 258 := by decide +kernel
theorem dX11_best_0 : fnD cX11_best 0 (.aload_n 0) 1 1 := by decide +kernel
theorem dX11_best_1 : fnD cX11_best 1 (.iconst 0) 1 2 := by decide +kernel
theorem dX11_best_2 : fnD cX11_best 2 (.putfield 96) 3 5 := by decide +kernel
theorem dX11_best_5 : fnD cX11_best 5 (.aload_n 0) 1 6 := by decide +kernel
theorem dX11_best_6 : fnD cX11_best 6 (.invokevirtual 240) 3 9 := by decide +kernel
theorem dX11_best_9 : fnD cX11_best 9 (.aload_n 0) 1 10 := by decide +kernel
theorem dX11_best_10 : fnD cX11_best 10 (.getfield 237) 3 13 := by decide +kernel
theorem dX11_best_13 : fnD cX11_best 13 (.ireturn) 1 14 := by decide +kernel
theorem dX11_bestCode_0 : fnD cX11_bestCode 0 (.aload_n 0) 1 1 := by decide +kernel
theorem dX11_bestCode_1 : fnD cX11_bestCode 1 (.iconst 0) 1 2 := by decide +kernel
theorem dX11_bestCode_2 : fnD cX11_bestCode 2 (.putfield 96) 3 5 := by decide +kernel
theorem dX11_bestCode_5 : fnD cX11_bestCode 5 (.aload_n 0) 1 6 := by decide +kernel
theorem dX11_bestCode_6 : fnD cX11_bestCode 6 (.invokevirtual 240) 3 9 := by decide +kernel
theorem dX11_bestCode_9 : fnD cX11_bestCode 9 (.iload_n 1) 1 10 := by decide +kernel
theorem dX11_bestCode_10 : fnD cX11_bestCode 10 (.i2l) 1 11 := by decide +kernel
theorem dX11_bestCode_11 : fnD cX11_bestCode 11 (.lconst 0) 1 12 := by decide +kernel
theorem dX11_bestCode_12 : fnD cX11_bestCode 12 (.ldc2_w 99) 3 15 := by decide +kernel
theorem dX11_bestCode_15 : fnD cX11_bestCode 15 (.invokestatic 117) 3 18 := by decide +kernel
theorem dX11_bestCode_18 : fnIf cX11_bestCode 18 .eq 30 21 := by decide +kernel
theorem dX11_bestCode_21 : fnD cX11_bestCode 21 (.aload_n 0) 1 22 := by decide +kernel
theorem dX11_bestCode_22 : fnD cX11_bestCode 22 (.getfield 84) 3 25 := by decide +kernel
theorem dX11_bestCode_25 : fnD cX11_bestCode 25 (.iload_n 1) 1 26 := by decide +kernel
theorem dX11_bestCode_26 : fnD cX11_bestCode 26 (.iaload) 1 27 := by decide +kernel
theorem dX11_bestCode_27 : fnGo cX11_bestCode 27 70 := by decide +kernel
theorem dX11_bestCode_30 : fnD cX11_bestCode 30 (.iload_n 1) 1 31 := by decide +kernel
theorem dX11_bestCode_31 : fnD cX11_bestCode 31 (.iconst 3) 1 32 := by decide +kernel
theorem dX11_bestCode_32 : fnIc cX11_bestCode 32 .ne 67 35 := by decide +kernel
theorem dX11_bestCode_35 : fnD cX11_bestCode 35 (.aload_n 0) 1 36 := by decide +kernel
theorem dX11_bestCode_36 : fnD cX11_bestCode 36 (.getfield 84) 3 39 := by decide +kernel
theorem dX11_bestCode_39 : fnD cX11_bestCode 39 (.iconst 0) 1 40 := by decide +kernel
theorem dX11_bestCode_40 : fnD cX11_bestCode 40 (.iaload) 1 41 := by decide +kernel
theorem dX11_bestCode_41 : fnD cX11_bestCode 41 (.invokestatic 231) 3 44 := by decide +kernel
theorem dX11_bestCode_44 : fnD cX11_bestCode 44 (.aload_n 0) 1 45 := by decide +kernel
theorem dX11_bestCode_45 : fnD cX11_bestCode 45 (.getfield 84) 3 48 := by decide +kernel
theorem dX11_bestCode_48 : fnD cX11_bestCode 48 (.iconst 1) 1 49 := by decide +kernel
theorem dX11_bestCode_49 : fnD cX11_bestCode 49 (.iaload) 1 50 := by decide +kernel
theorem dX11_bestCode_50 : fnD cX11_bestCode 50 (.invokestatic 231) 3 53 := by decide +kernel
theorem dX11_bestCode_53 : fnD cX11_bestCode 53 (.iadd) 1 54 := by decide +kernel
theorem dX11_bestCode_54 : fnD cX11_bestCode 54 (.aload_n 0) 1 55 := by decide +kernel
theorem dX11_bestCode_55 : fnD cX11_bestCode 55 (.getfield 84) 3 58 := by decide +kernel
theorem dX11_bestCode_58 : fnD cX11_bestCode 58 (.iconst 2) 1 59 := by decide +kernel
theorem dX11_bestCode_59 : fnD cX11_bestCode 59 (.iaload) 1 60 := by decide +kernel
theorem dX11_bestCode_60 : fnD cX11_bestCode 60 (.invokestatic 231) 3 63 := by decide +kernel
theorem dX11_bestCode_63 : fnD cX11_bestCode 63 (.iadd) 1 64 := by decide +kernel
theorem dX11_bestCode_64 : fnGo cX11_bestCode 64 70 := by decide +kernel
theorem dX11_bestCode_67 : fnD cX11_bestCode 67 (.sipush (-2002)) 3 70 := by decide +kernel
theorem dX11_bestCode_70 : fnD cX11_bestCode 70 (.ireturn) 1 71 := by decide +kernel
theorem dX11_layBest_0 : fnD cX11_layBest 0 (.aload_n 0) 1 1 := by decide +kernel
theorem dX11_layBest_1 : fnD cX11_layBest 1 (.iconst 0) 1 2 := by decide +kernel
theorem dX11_layBest_2 : fnD cX11_layBest 2 (.putfield 96) 3 5 := by decide +kernel
theorem dX11_layBest_5 : fnD cX11_layBest 5 (.aload_n 0) 1 6 := by decide +kernel
theorem dX11_layBest_6 : fnD cX11_layBest 6 (.invokevirtual 240) 3 9 := by decide +kernel
theorem dX11_layBest_9 : fnD cX11_layBest 9 (.aload_n 0) 1 10 := by decide +kernel
theorem dX11_layBest_10 : fnD cX11_layBest 10 (.invokevirtual 220) 3 13 := by decide +kernel
theorem dX11_layBest_13 : fnD cX11_layBest 13 (.istore_n 1) 1 14 := by decide +kernel
theorem dX11_layBest_14 : fnD cX11_layBest 14 (.iconst 0) 1 15 := by decide +kernel
theorem dX11_layBest_15 : fnD cX11_layBest 15 (.istore_n 2) 1 16 := by decide +kernel
theorem dX11_layBest_16 : fnD cX11_layBest 16 (.iload_n 2) 1 17 := by decide +kernel
theorem dX11_layBest_17 : fnD cX11_layBest 17 (.iconst 2) 1 18 := by decide +kernel
theorem dX11_layBest_18 : fnIc cX11_layBest 18 .ge 88 21 := by decide +kernel
theorem dX11_layBest_21 : fnD cX11_layBest 21 (.aload_n 0) 1 22 := by decide +kernel
theorem dX11_layBest_22 : fnD cX11_layBest 22 (.getfield 84) 3 25 := by decide +kernel
theorem dX11_layBest_25 : fnD cX11_layBest 25 (.iload_n 2) 1 26 := by decide +kernel
theorem dX11_layBest_26 : fnD cX11_layBest 26 (.iaload) 1 27 := by decide +kernel
theorem dX11_layBest_27 : fnD cX11_layBest 27 (.iconst 1) 1 28 := by decide +kernel
theorem dX11_layBest_28 : fnD cX11_layBest 28 (.isub) 1 29 := by decide +kernel
theorem dX11_layBest_29 : fnD cX11_layBest 29 (.istore_n 3) 1 30 := by decide +kernel
theorem dX11_layBest_30 : fnD cX11_layBest 30 (.iload_n 3) 1 31 := by decide +kernel
theorem dX11_layBest_31 : fnIf cX11_layBest 31 .lt 82 34 := by decide +kernel
theorem dX11_layBest_34 : fnD cX11_layBest 34 (.aload_n 0) 1 35 := by decide +kernel
theorem dX11_layBest_35 : fnD cX11_layBest 35 (.getfield 19) 3 38 := by decide +kernel
theorem dX11_layBest_38 : fnD cX11_layBest 38 (.iload_n 3) 1 39 := by decide +kernel
theorem dX11_layBest_39 : fnD cX11_layBest 39 (.bipush 16) 2 41 := by decide +kernel
theorem dX11_layBest_41 : fnD cX11_layBest 41 (.idiv) 1 42 := by decide +kernel
theorem dX11_layBest_42 : fnD cX11_layBest 42 (.iload_n 2) 1 43 := by decide +kernel
theorem dX11_layBest_43 : fnD cX11_layBest 43 (.iastore) 1 44 := by decide +kernel
theorem dX11_layBest_44 : fnD cX11_layBest 44 (.aload_n 0) 1 45 := by decide +kernel
theorem dX11_layBest_45 : fnD cX11_layBest 45 (.getfield 22) 3 48 := by decide +kernel
theorem dX11_layBest_48 : fnD cX11_layBest 48 (.iload_n 3) 1 49 := by decide +kernel
theorem dX11_layBest_49 : fnD cX11_layBest 49 (.bipush 16) 2 51 := by decide +kernel
theorem dX11_layBest_51 : fnD cX11_layBest 51 (.idiv) 1 52 := by decide +kernel
theorem dX11_layBest_52 : fnD cX11_layBest 52 (.iload_n 3) 1 53 := by decide +kernel
theorem dX11_layBest_53 : fnD cX11_layBest 53 (.bipush 16) 2 55 := by decide +kernel
theorem dX11_layBest_55 : fnD cX11_layBest 55 (.irem) 1 56 := by decide +kernel
theorem dX11_layBest_56 : fnD cX11_layBest 56 (.iconst 2) 1 57 := by decide +kernel
theorem dX11_layBest_57 : fnD cX11_layBest 57 (.idiv) 1 58 := by decide +kernel
theorem dX11_layBest_58 : fnD cX11_layBest 58 (.iconst 2) 1 59 := by decide +kernel
theorem dX11_layBest_59 : fnD cX11_layBest 59 (.iadd) 1 60 := by decide +kernel
theorem dX11_layBest_60 : fnD cX11_layBest 60 (.iastore) 1 61 := by decide +kernel
theorem dX11_layBest_61 : fnD cX11_layBest 61 (.aload_n 0) 1 62 := by decide +kernel
theorem dX11_layBest_62 : fnD cX11_layBest 62 (.getfield 25) 3 65 := by decide +kernel
theorem dX11_layBest_65 : fnD cX11_layBest 65 (.iload_n 3) 1 66 := by decide +kernel
theorem dX11_layBest_66 : fnD cX11_layBest 66 (.bipush 16) 2 68 := by decide +kernel
theorem dX11_layBest_68 : fnD cX11_layBest 68 (.idiv) 1 69 := by decide +kernel
theorem dX11_layBest_69 : fnD cX11_layBest 69 (.iload_n 3) 1 70 := by decide +kernel
theorem dX11_layBest_70 : fnD cX11_layBest 70 (.iconst 2) 1 71 := by decide +kernel
theorem dX11_layBest_71 : fnD cX11_layBest 71 (.irem) 1 72 := by decide +kernel
theorem dX11_layBest_72 : fnD cX11_layBest 72 (.iconst 1) 1 73 := by decide +kernel
theorem dX11_layBest_73 : fnIc cX11_layBest 73 .ne 80 76 := by decide +kernel
theorem dX11_layBest_76 : fnD cX11_layBest 76 (.iconst 1) 1 77 := by decide +kernel
theorem dX11_layBest_77 : fnGo cX11_layBest 77 81 := by decide +kernel
theorem dX11_layBest_80 : fnD cX11_layBest 80 (.iconst 0) 1 81 := by decide +kernel
theorem dX11_layBest_81 : fnD cX11_layBest 81 (.bastore) 1 82 := by decide +kernel
theorem dX11_layBest_82 : fnD cX11_layBest 82 (.iinc 2 1) 3 85 := by decide +kernel
theorem dX11_layBest_85 : fnGo cX11_layBest 85 16 := by decide +kernel
theorem dX11_layBest_88 : fnD cX11_layBest 88 (.aload_n 0) 1 89 := by decide +kernel
theorem dX11_layBest_89 : fnD cX11_layBest 89 (.getfield 84) 3 92 := by decide +kernel
theorem dX11_layBest_92 : fnD cX11_layBest 92 (.iconst 2) 1 93 := by decide +kernel
theorem dX11_layBest_93 : fnD cX11_layBest 93 (.iaload) 1 94 := by decide +kernel
theorem dX11_layBest_94 : fnIf cX11_layBest 94 .le 129 97 := by decide +kernel
theorem dX11_layBest_97 : fnD cX11_layBest 97 (.aload_n 0) 1 98 := by decide +kernel
theorem dX11_layBest_98 : fnD cX11_layBest 98 (.aload_n 0) 1 99 := by decide +kernel
theorem dX11_layBest_99 : fnD cX11_layBest 99 (.getfield 84) 3 102 := by decide +kernel
theorem dX11_layBest_102 : fnD cX11_layBest 102 (.iconst 2) 1 103 := by decide +kernel
theorem dX11_layBest_103 : fnD cX11_layBest 103 (.iaload) 1 104 := by decide +kernel
theorem dX11_layBest_104 : fnD cX11_layBest 104 (.iconst 1) 1 105 := by decide +kernel
theorem dX11_layBest_105 : fnD cX11_layBest 105 (.isub) 1 106 := by decide +kernel
theorem dX11_layBest_106 : fnD cX11_layBest 106 (.bipush 19) 2 108 := by decide +kernel
theorem dX11_layBest_108 : fnD cX11_layBest 108 (.idiv) 1 109 := by decide +kernel
theorem dX11_layBest_109 : fnD cX11_layBest 109 (.putfield 32) 3 112 := by decide +kernel
theorem dX11_layBest_112 : fnD cX11_layBest 112 (.aload_n 0) 1 113 := by decide +kernel
theorem dX11_layBest_113 : fnD cX11_layBest 113 (.aload_n 0) 1 114 := by decide +kernel
theorem dX11_layBest_114 : fnD cX11_layBest 114 (.getfield 84) 3 117 := by decide +kernel
theorem dX11_layBest_117 : fnD cX11_layBest 117 (.iconst 2) 1 118 := by decide +kernel
theorem dX11_layBest_118 : fnD cX11_layBest 118 (.iaload) 1 119 := by decide +kernel
theorem dX11_layBest_119 : fnD cX11_layBest 119 (.iconst 1) 1 120 := by decide +kernel
theorem dX11_layBest_120 : fnD cX11_layBest 120 (.isub) 1 121 := by decide +kernel
theorem dX11_layBest_121 : fnD cX11_layBest 121 (.bipush 19) 2 123 := by decide +kernel
theorem dX11_layBest_123 : fnD cX11_layBest 123 (.irem) 1 124 := by decide +kernel
theorem dX11_layBest_124 : fnD cX11_layBest 124 (.iconst 2) 1 125 := by decide +kernel
theorem dX11_layBest_125 : fnD cX11_layBest 125 (.iadd) 1 126 := by decide +kernel
theorem dX11_layBest_126 : fnD cX11_layBest 126 (.putfield 210) 3 129 := by decide +kernel
theorem dX11_layBest_129 : fnD cX11_layBest 129 (.iload_n 1) 1 130 := by decide +kernel
theorem dX11_layBest_130 : fnIf cX11_layBest 130 .ge 139 133 := by decide +kernel
theorem dX11_layBest_133 : fnD cX11_layBest 133 (.sipush (-2003)) 3 136 := by decide +kernel
theorem dX11_layBest_136 : fnGo cX11_layBest 136 143 := by decide +kernel
theorem dX11_layBest_139 : fnD cX11_layBest 139 (.aload_n 0) 1 140 := by decide +kernel
theorem dX11_layBest_140 : fnD cX11_layBest 140 (.getfield 237) 3 143 := by decide +kernel
theorem dX11_layBest_143 : fnD cX11_layBest 143 (.ireturn) 1 144 := by decide +kernel
theorem dX11_noPlace_0 : fnD cX11_noPlace 0 (.iload_n 0) 1 1 := by decide +kernel
theorem dX11_noPlace_1 : fnD cX11_noPlace 1 (.i2l) 1 2 := by decide +kernel
theorem dX11_noPlace_2 : fnD cX11_noPlace 2 (.lconst 0) 1 3 := by decide +kernel
theorem dX11_noPlace_3 : fnD cX11_noPlace 3 (.ldc2_w 243) 3 6 := by decide +kernel
theorem dX11_noPlace_6 : fnD cX11_noPlace 6 (.invokestatic 117) 3 9 := by decide +kernel
theorem dX11_noPlace_9 : fnIf cX11_noPlace 9 .ne 16 12 := by decide +kernel
theorem dX11_noPlace_12 : fnD cX11_noPlace 12 (.iconst 1) 1 13 := by decide +kernel
theorem dX11_noPlace_13 : fnGo cX11_noPlace 13 17 := by decide +kernel
theorem dX11_noPlace_16 : fnD cX11_noPlace 16 (.iconst 0) 1 17 := by decide +kernel
theorem dX11_noPlace_17 : fnD cX11_noPlace 17 (.ireturn) 1 18 := by decide +kernel
theorem dX11_place_0 : fnD cX11_place 0 (.aload_n 0) 1 1 := by decide +kernel
theorem dX11_place_1 : fnD cX11_place 1 (.iconst 0) 1 2 := by decide +kernel
theorem dX11_place_2 : fnD cX11_place 2 (.putfield 96) 3 5 := by decide +kernel
theorem dX11_place_5 : fnD cX11_place 5 (.iload_n 1) 1 6 := by decide +kernel
theorem dX11_place_6 : fnD cX11_place 6 (.invokestatic 245) 3 9 := by decide +kernel
theorem dX11_place_9 : fnIf cX11_place 9 .eq 16 12 := by decide +kernel
theorem dX11_place_12 : fnD cX11_place 12 (.sipush (-2001)) 3 15 := by decide +kernel
theorem dX11_place_15 : fnD cX11_place 15 (.ireturn) 1 16 := by decide +kernel
theorem dX11_place_16 : fnD cX11_place 16 (.iload_n 2) 1 17 := by decide +kernel
theorem dX11_place_17 : fnD cX11_place 17 (.i2l) 1 18 := by decide +kernel
theorem dX11_place_18 : fnD cX11_place 18 (.lconst 1) 1 19 := by decide +kernel
theorem dX11_place_19 : fnD cX11_place 19 (.ldc2_w 129) 3 22 := by decide +kernel
theorem dX11_place_22 : fnD cX11_place 22 (.invokestatic 117) 3 25 := by decide +kernel
theorem dX11_place_25 : fnIf cX11_place 25 .eq 42 28 := by decide +kernel
theorem dX11_place_28 : fnD cX11_place 28 (.iload_n 3) 1 29 := by decide +kernel
theorem dX11_place_29 : fnD cX11_place 29 (.i2l) 1 30 := by decide +kernel
theorem dX11_place_30 : fnD cX11_place 30 (.ldc2_w 160) 3 33 := by decide +kernel
theorem dX11_place_33 : fnD cX11_place 33 (.ldc2_w 129) 3 36 := by decide +kernel
theorem dX11_place_36 : fnD cX11_place 36 (.invokestatic 117) 3 39 := by decide +kernel
theorem dX11_place_39 : fnIf cX11_place 39 .ne 46 42 := by decide +kernel
theorem dX11_place_42 : fnD cX11_place 42 (.sipush (-2002)) 3 45 := by decide +kernel
theorem dX11_place_45 : fnD cX11_place 45 (.ireturn) 1 46 := by decide +kernel
theorem dX11_place_46 : fnD cX11_place 46 (.aload_n 0) 1 47 := by decide +kernel
theorem dX11_place_47 : fnD cX11_place 47 (.getfield 36) 3 50 := by decide +kernel
theorem dX11_place_50 : fnD cX11_place 50 (.iload_n 1) 1 51 := by decide +kernel
theorem dX11_place_51 : fnD cX11_place 51 (.iload_n 2) 1 52 := by decide +kernel
theorem dX11_place_52 : fnD cX11_place 52 (.iastore) 1 53 := by decide +kernel
theorem dX11_place_53 : fnD cX11_place 53 (.aload_n 0) 1 54 := by decide +kernel
theorem dX11_place_54 : fnD cX11_place 54 (.getfield 39) 3 57 := by decide +kernel
theorem dX11_place_57 : fnD cX11_place 57 (.iload_n 1) 1 58 := by decide +kernel
theorem dX11_place_58 : fnD cX11_place 58 (.iload_n 3) 1 59 := by decide +kernel
theorem dX11_place_59 : fnD cX11_place 59 (.iastore) 1 60 := by decide +kernel
theorem dX11_place_60 : fnD cX11_place 60 (.iconst 1) 1 61 := by decide +kernel
theorem dX11_place_61 : fnD cX11_place 61 (.ireturn) 1 62 := by decide +kernel
theorem dX11_note_0 : fnD cX11_note 0 (.aload_n 0) 1 1 := by decide +kernel
theorem dX11_note_1 : fnD cX11_note 1 (.iconst 0) 1 2 := by decide +kernel
theorem dX11_note_2 : fnD cX11_note 2 (.putfield 96) 3 5 := by decide +kernel
theorem dX11_note_5 : fnD cX11_note 5 (.iload_n 1) 1 6 := by decide +kernel
theorem dX11_note_6 : fnD cX11_note 6 (.invokestatic 154) 3 9 := by decide +kernel
theorem dX11_note_9 : fnIf cX11_note 9 .ne 19 12 := by decide +kernel
theorem dX11_note_12 : fnD cX11_note 12 (.iload_n 2) 1 13 := by decide +kernel
theorem dX11_note_13 : fnD cX11_note 13 (.invokestatic 245) 3 16 := by decide +kernel
theorem dX11_note_16 : fnIf cX11_note 16 .eq 23 19 := by decide +kernel
theorem dX11_note_19 : fnD cX11_note 19 (.sipush (-2001)) 3 22 := by decide +kernel
theorem dX11_note_22 : fnD cX11_note 22 (.ireturn) 1 23 := by decide +kernel
theorem dX11_note_23 : fnD cX11_note 23 (.aload_n 0) 1 24 := by decide +kernel
theorem dX11_note_24 : fnD cX11_note 24 (.getfield 42) 3 27 := by decide +kernel
theorem dX11_note_27 : fnD cX11_note 27 (.bipush 8) 2 29 := by decide +kernel
theorem dX11_note_29 : fnD cX11_note 29 (.iload_n 1) 1 30 := by decide +kernel
theorem dX11_note_30 : fnD cX11_note 30 (.imul) 1 31 := by decide +kernel
theorem dX11_note_31 : fnD cX11_note 31 (.iload_n 2) 1 32 := by decide +kernel
theorem dX11_note_32 : fnD cX11_note 32 (.iadd) 1 33 := by decide +kernel
theorem dX11_note_33 : fnD cX11_note 33 (.iconst 1) 1 34 := by decide +kernel
theorem dX11_note_34 : fnD cX11_note 34 (.bastore) 1 35 := by decide +kernel
theorem dX11_note_35 : fnD cX11_note 35 (.aload_n 0) 1 36 := by decide +kernel
theorem dX11_note_36 : fnD cX11_note 36 (.getfield 45) 3 39 := by decide +kernel
theorem dX11_note_39 : fnD cX11_note 39 (.bipush 8) 2 41 := by decide +kernel
theorem dX11_note_41 : fnD cX11_note 41 (.iload_n 1) 1 42 := by decide +kernel
theorem dX11_note_42 : fnD cX11_note 42 (.imul) 1 43 := by decide +kernel
theorem dX11_note_43 : fnD cX11_note 43 (.iload_n 2) 1 44 := by decide +kernel
theorem dX11_note_44 : fnD cX11_note 44 (.iadd) 1 45 := by decide +kernel
theorem dX11_note_45 : fnD cX11_note 45 (.aload_n 0) 1 46 := by decide +kernel
theorem dX11_note_46 : fnD cX11_note 46 (.getfield 7) 3 49 := by decide +kernel
theorem dX11_note_49 : fnD cX11_note 49 (.bipush 6) 2 51 := by decide +kernel
theorem dX11_note_51 : fnD cX11_note 51 (.iload_n 1) 1 52 := by decide +kernel
theorem dX11_note_52 : fnD cX11_note 52 (.imul) 1 53 := by decide +kernel
theorem dX11_note_53 : fnD cX11_note 53 (.iconst 1) 1 54 := by decide +kernel
theorem dX11_note_54 : fnD cX11_note 54 (.iadd) 1 55 := by decide +kernel
theorem dX11_note_55 : fnD cX11_note 55 (.iaload) 1 56 := by decide +kernel
theorem dX11_note_56 : fnD cX11_note 56 (.iastore) 1 57 := by decide +kernel
theorem dX11_note_57 : fnD cX11_note 57 (.aload_n 0) 1 58 := by decide +kernel
theorem dX11_note_58 : fnD cX11_note 58 (.getfield 48) 3 61 := by decide +kernel
theorem dX11_note_61 : fnD cX11_note 61 (.bipush 8) 2 63 := by decide +kernel
theorem dX11_note_63 : fnD cX11_note 63 (.iload_n 1) 1 64 := by decide +kernel
theorem dX11_note_64 : fnD cX11_note 64 (.imul) 1 65 := by decide +kernel
theorem dX11_note_65 : fnD cX11_note 65 (.iload_n 2) 1 66 := by decide +kernel
theorem dX11_note_66 : fnD cX11_note 66 (.iadd) 1 67 := by decide +kernel
theorem dX11_note_67 : fnD cX11_note 67 (.aload_n 0) 1 68 := by decide +kernel
theorem dX11_note_68 : fnD cX11_note 68 (.getfield 7) 3 71 := by decide +kernel
theorem dX11_note_71 : fnD cX11_note 71 (.bipush 6) 2 73 := by decide +kernel
theorem dX11_note_73 : fnD cX11_note 73 (.iload_n 1) 1 74 := by decide +kernel
theorem dX11_note_74 : fnD cX11_note 74 (.imul) 1 75 := by decide +kernel
theorem dX11_note_75 : fnD cX11_note 75 (.iconst 2) 1 76 := by decide +kernel
theorem dX11_note_76 : fnD cX11_note 76 (.iadd) 1 77 := by decide +kernel
theorem dX11_note_77 : fnD cX11_note 77 (.iaload) 1 78 := by decide +kernel
theorem dX11_note_78 : fnD cX11_note 78 (.iastore) 1 79 := by decide +kernel
theorem dX11_note_79 : fnD cX11_note 79 (.iconst 1) 1 80 := by decide +kernel
theorem dX11_note_80 : fnD cX11_note 80 (.ireturn) 1 81 := by decide +kernel
theorem dX11_isDark_0 : fnD cX11_isDark 0 (.aload_n 0) 1 1 := by decide +kernel
theorem dX11_isDark_1 : fnD cX11_isDark 1 (.getfield 42) 3 4 := by decide +kernel
theorem dX11_isDark_4 : fnD cX11_isDark 4 (.bipush 8) 2 6 := by decide +kernel
theorem dX11_isDark_6 : fnD cX11_isDark 6 (.iload_n 1) 1 7 := by decide +kernel
theorem dX11_isDark_7 : fnD cX11_isDark 7 (.imul) 1 8 := by decide +kernel
theorem dX11_isDark_8 : fnD cX11_isDark 8 (.iload_n 2) 1 9 := by decide +kernel
theorem dX11_isDark_9 : fnD cX11_isDark 9 (.iadd) 1 10 := by decide +kernel
theorem dX11_isDark_10 : fnD cX11_isDark 10 (.baload) 1 11 := by decide +kernel
theorem dX11_isDark_11 : fnIf cX11_isDark 11 .eq 43 14 := by decide +kernel
theorem dX11_isDark_14 : fnD cX11_isDark 14 (.aload_n 0) 1 15 := by decide +kernel
theorem dX11_isDark_15 : fnD cX11_isDark 15 (.getfield 42) 3 18 := by decide +kernel
theorem dX11_isDark_18 : fnD cX11_isDark 18 (.bipush 8) 2 20 := by decide +kernel
theorem dX11_isDark_20 : fnD cX11_isDark 20 (.iload_n 1) 1 21 := by decide +kernel
theorem dX11_isDark_21 : fnD cX11_isDark 21 (.imul) 1 22 := by decide +kernel
theorem dX11_isDark_22 : fnD cX11_isDark 22 (.iload_n 3) 1 23 := by decide +kernel
theorem dX11_isDark_23 : fnD cX11_isDark 23 (.iadd) 1 24 := by decide +kernel
theorem dX11_isDark_24 : fnD cX11_isDark 24 (.baload) 1 25 := by decide +kernel
theorem dX11_isDark_25 : fnIf cX11_isDark 25 .eq 43 28 := by decide +kernel
theorem dX11_isDark_28 : fnD cX11_isDark 28 (.aload_n 0) 1 29 := by decide +kernel
theorem dX11_isDark_29 : fnD cX11_isDark 29 (.getfield 39) 3 32 := by decide +kernel
theorem dX11_isDark_32 : fnD cX11_isDark 32 (.iload_n 2) 1 33 := by decide +kernel
theorem dX11_isDark_33 : fnD cX11_isDark 33 (.iaload) 1 34 := by decide +kernel
theorem dX11_isDark_34 : fnD cX11_isDark 34 (.aload_n 0) 1 35 := by decide +kernel
theorem dX11_isDark_35 : fnD cX11_isDark 35 (.getfield 39) 3 38 := by decide +kernel
theorem dX11_isDark_38 : fnD cX11_isDark 38 (.iload_n 3) 1 39 := by decide +kernel
theorem dX11_isDark_39 : fnD cX11_isDark 39 (.iaload) 1 40 := by decide +kernel
theorem dX11_isDark_40 : fnIc cX11_isDark 40 .ne 47 43 := by decide +kernel
theorem dX11_isDark_43 : fnD cX11_isDark 43 (.iconst 1) 1 44 := by decide +kernel
theorem dX11_isDark_44 : fnGo cX11_isDark 44 48 := by decide +kernel
theorem dX11_isDark_47 : fnD cX11_isDark 47 (.iconst 0) 1 48 := by decide +kernel
theorem dX11_isDark_48 : fnD cX11_isDark 48 (.ireturn) 1 49 := by decide +kernel
theorem dX11_foretoldOf_0 : fnD cX11_foretoldOf 0 (.iload 4) 2 2 := by decide +kernel
theorem dX11_foretoldOf_2 : fnD cX11_foretoldOf 2 (.i2l) 1 3 := by decide +kernel
theorem dX11_foretoldOf_3 : fnD cX11_foretoldOf 3 (.aload_n 0) 1 4 := by decide +kernel
theorem dX11_foretoldOf_4 : fnD cX11_foretoldOf 4 (.getfield 36) 3 7 := by decide +kernel
theorem dX11_foretoldOf_7 : fnD cX11_foretoldOf 7 (.iload_n 2) 1 8 := by decide +kernel
theorem dX11_foretoldOf_8 : fnD cX11_foretoldOf 8 (.iaload) 1 9 := by decide +kernel
theorem dX11_foretoldOf_9 : fnD cX11_foretoldOf 9 (.i2l) 1 10 := by decide +kernel
theorem dX11_foretoldOf_10 : fnD cX11_foretoldOf 10 (.lmul) 1 11 := by decide +kernel
theorem dX11_foretoldOf_11 : fnD cX11_foretoldOf 11 (.aload_n 0) 1 12 := by decide +kernel
theorem dX11_foretoldOf_12 : fnD cX11_foretoldOf 12 (.getfield 39) 3 15 := by decide +kernel
theorem dX11_foretoldOf_15 : fnD cX11_foretoldOf 15 (.iload_n 1) 1 16 := by decide +kernel
theorem dX11_foretoldOf_16 : fnD cX11_foretoldOf 16 (.iaload) 1 17 := by decide +kernel
theorem dX11_foretoldOf_17 : fnD cX11_foretoldOf 17 (.aload_n 0) 1 18 := by decide +kernel
theorem dX11_foretoldOf_18 : fnD cX11_foretoldOf 18 (.getfield 39) 3 21 := by decide +kernel
theorem dX11_foretoldOf_21 : fnD cX11_foretoldOf 21 (.iload_n 3) 1 22 := by decide +kernel
theorem dX11_foretoldOf_22 : fnD cX11_foretoldOf 22 (.iaload) 1 23 := by decide +kernel
theorem dX11_foretoldOf_23 : fnD cX11_foretoldOf 23 (.isub) 1 24 := by decide +kernel
theorem dX11_foretoldOf_24 : fnD cX11_foretoldOf 24 (.i2l) 1 25 := by decide +kernel
theorem dX11_foretoldOf_25 : fnD cX11_foretoldOf 25 (.lmul) 1 26 := by decide +kernel
theorem dX11_foretoldOf_26 : fnD cX11_foretoldOf 26 (.iload 5) 2 28 := by decide +kernel
theorem dX11_foretoldOf_28 : fnD cX11_foretoldOf 28 (.i2l) 1 29 := by decide +kernel
theorem dX11_foretoldOf_29 : fnD cX11_foretoldOf 29 (.aload_n 0) 1 30 := by decide +kernel
theorem dX11_foretoldOf_30 : fnD cX11_foretoldOf 30 (.getfield 36) 3 33 := by decide +kernel
theorem dX11_foretoldOf_33 : fnD cX11_foretoldOf 33 (.iload_n 3) 1 34 := by decide +kernel
theorem dX11_foretoldOf_34 : fnD cX11_foretoldOf 34 (.iaload) 1 35 := by decide +kernel
theorem dX11_foretoldOf_35 : fnD cX11_foretoldOf 35 (.i2l) 1 36 := by decide +kernel
theorem dX11_foretoldOf_36 : fnD cX11_foretoldOf 36 (.lmul) 1 37 := by decide +kernel
theorem dX11_foretoldOf_37 : fnD cX11_foretoldOf 37 (.aload_n 0) 1 38 := by decide +kernel
theorem dX11_foretoldOf_38 : fnD cX11_foretoldOf 38 (.getfield 39) 3 41 := by decide +kernel
theorem dX11_foretoldOf_41 : fnD cX11_foretoldOf 41 (.iload_n 1) 1 42 := by decide +kernel
theorem dX11_foretoldOf_42 : fnD cX11_foretoldOf 42 (.iaload) 1 43 := by decide +kernel
theorem dX11_foretoldOf_43 : fnD cX11_foretoldOf 43 (.aload_n 0) 1 44 := by decide +kernel
theorem dX11_foretoldOf_44 : fnD cX11_foretoldOf 44 (.getfield 39) 3 47 := by decide +kernel
theorem dX11_foretoldOf_47 : fnD cX11_foretoldOf 47 (.iload_n 2) 1 48 := by decide +kernel
theorem dX11_foretoldOf_48 : fnD cX11_foretoldOf 48 (.iaload) 1 49 := by decide +kernel
theorem dX11_foretoldOf_49 : fnD cX11_foretoldOf 49 (.isub) 1 50 := by decide +kernel
theorem dX11_foretoldOf_50 : fnD cX11_foretoldOf 50 (.i2l) 1 51 := by decide +kernel
theorem dX11_foretoldOf_51 : fnD cX11_foretoldOf 51 (.lmul) 1 52 := by decide +kernel
theorem dX11_foretoldOf_52 : fnD cX11_foretoldOf 52 (.lsub) 1 53 := by decide +kernel
theorem dX11_foretoldOf_53 : fnD cX11_foretoldOf 53 (.lstore 6) 2 55 := by decide +kernel
theorem dX11_foretoldOf_55 : fnD cX11_foretoldOf 55 (.aload_n 0) 1 56 := by decide +kernel
theorem dX11_foretoldOf_56 : fnD cX11_foretoldOf 56 (.getfield 39) 3 59 := by decide +kernel
theorem dX11_foretoldOf_59 : fnD cX11_foretoldOf 59 (.iload_n 2) 1 60 := by decide +kernel
theorem dX11_foretoldOf_60 : fnD cX11_foretoldOf 60 (.iaload) 1 61 := by decide +kernel
theorem dX11_foretoldOf_61 : fnD cX11_foretoldOf 61 (.aload_n 0) 1 62 := by decide +kernel
theorem dX11_foretoldOf_62 : fnD cX11_foretoldOf 62 (.getfield 39) 3 65 := by decide +kernel
theorem dX11_foretoldOf_65 : fnD cX11_foretoldOf 65 (.iload_n 3) 1 66 := by decide +kernel
theorem dX11_foretoldOf_66 : fnD cX11_foretoldOf 66 (.iaload) 1 67 := by decide +kernel
theorem dX11_foretoldOf_67 : fnD cX11_foretoldOf 67 (.isub) 1 68 := by decide +kernel
theorem dX11_foretoldOf_68 : fnD cX11_foretoldOf 68 (.i2l) 1 69 := by decide +kernel
theorem dX11_foretoldOf_69 : fnD cX11_foretoldOf 69 (.aload_n 0) 1 70 := by decide +kernel
theorem dX11_foretoldOf_70 : fnD cX11_foretoldOf 70 (.getfield 36) 3 73 := by decide +kernel
theorem dX11_foretoldOf_73 : fnD cX11_foretoldOf 73 (.iload_n 1) 1 74 := by decide +kernel
theorem dX11_foretoldOf_74 : fnD cX11_foretoldOf 74 (.iaload) 1 75 := by decide +kernel
theorem dX11_foretoldOf_75 : fnD cX11_foretoldOf 75 (.i2l) 1 76 := by decide +kernel
theorem dX11_foretoldOf_76 : fnD cX11_foretoldOf 76 (.lmul) 1 77 := by decide +kernel
theorem dX11_foretoldOf_77 : fnD cX11_foretoldOf 77 (.lstore 8) 2 79 := by decide +kernel
theorem dX11_foretoldOf_79 : fnD cX11_foretoldOf 79 (.lload 8) 2 81 := by decide +kernel
theorem dX11_foretoldOf_81 : fnD cX11_foretoldOf 81 (.lconst 0) 1 82 := by decide +kernel
theorem dX11_foretoldOf_82 : fnD cX11_foretoldOf 82 (.lcmp) 1 83 := by decide +kernel
theorem dX11_foretoldOf_83 : fnIf cX11_foretoldOf 83 .ge 98 86 := by decide +kernel
theorem dX11_foretoldOf_86 : fnD cX11_foretoldOf 86 (.lload 6) 2 88 := by decide +kernel
theorem dX11_foretoldOf_88 : fnD cX11_foretoldOf 88 (.lneg) 1 89 := by decide +kernel
theorem dX11_foretoldOf_89 : fnD cX11_foretoldOf 89 (.lload 8) 2 91 := by decide +kernel
theorem dX11_foretoldOf_91 : fnD cX11_foretoldOf 91 (.lneg) 1 92 := by decide +kernel
theorem dX11_foretoldOf_92 : fnD cX11_foretoldOf 92 (.invokestatic 111) 3 95 := by decide +kernel
theorem dX11_foretoldOf_95 : fnGo cX11_foretoldOf 95 105 := by decide +kernel
theorem dX11_foretoldOf_98 : fnD cX11_foretoldOf 98 (.lload 6) 2 100 := by decide +kernel
theorem dX11_foretoldOf_100 : fnD cX11_foretoldOf 100 (.lload 8) 2 102 := by decide +kernel
theorem dX11_foretoldOf_102 : fnD cX11_foretoldOf 102 (.invokestatic 111) 3 105 := by decide +kernel
theorem dX11_foretoldOf_105 : fnD cX11_foretoldOf 105 (.lstore 10) 2 107 := by decide +kernel
theorem dX11_foretoldOf_107 : fnD cX11_foretoldOf 107 (.lload 10) 2 109 := by decide +kernel
theorem dX11_foretoldOf_109 : fnD cX11_foretoldOf 109 (.ldc2_w 248) 3 112 := by decide +kernel
theorem dX11_foretoldOf_112 : fnD cX11_foretoldOf 112 (.lcmp) 1 113 := by decide +kernel
theorem dX11_foretoldOf_113 : fnIf cX11_foretoldOf 113 .le 122 116 := by decide +kernel
theorem dX11_foretoldOf_116 : fnD cX11_foretoldOf 116 (.sipush 9999) 3 119 := by decide +kernel
theorem dX11_foretoldOf_119 : fnGo cX11_foretoldOf 119 140 := by decide +kernel
theorem dX11_foretoldOf_122 : fnD cX11_foretoldOf 122 (.lload 10) 2 124 := by decide +kernel
theorem dX11_foretoldOf_124 : fnD cX11_foretoldOf 124 (.ldc2_w 250) 3 127 := by decide +kernel
theorem dX11_foretoldOf_127 : fnD cX11_foretoldOf 127 (.lcmp) 1 128 := by decide +kernel
theorem dX11_foretoldOf_128 : fnIf cX11_foretoldOf 128 .ge 137 131 := by decide +kernel
theorem dX11_foretoldOf_131 : fnD cX11_foretoldOf 131 (.sipush (-9999)) 3 134 := by decide +kernel
theorem dX11_foretoldOf_134 : fnGo cX11_foretoldOf 134 140 := by decide +kernel
theorem dX11_foretoldOf_137 : fnD cX11_foretoldOf 137 (.lload 10) 2 139 := by decide +kernel
theorem dX11_foretoldOf_139 : fnD cX11_foretoldOf 139 (.l2i) 1 140 := by decide +kernel
theorem dX11_foretoldOf_140 : fnD cX11_foretoldOf 140 (.ireturn) 1 141 := by decide +kernel
theorem dX11_foretold_0 : fnD cX11_foretold 0 (.aload_n 0) 1 1 := by decide +kernel
theorem dX11_foretold_1 : fnD cX11_foretold 1 (.iconst 0) 1 2 := by decide +kernel
theorem dX11_foretold_2 : fnD cX11_foretold 2 (.putfield 96) 3 5 := by decide +kernel
theorem dX11_foretold_5 : fnD cX11_foretold 5 (.iload_n 1) 1 6 := by decide +kernel
theorem dX11_foretold_6 : fnD cX11_foretold 6 (.invokestatic 154) 3 9 := by decide +kernel
theorem dX11_foretold_9 : fnIf cX11_foretold 9 .ne 34 12 := by decide +kernel
theorem dX11_foretold_12 : fnD cX11_foretold 12 (.iload_n 2) 1 13 := by decide +kernel
theorem dX11_foretold_13 : fnD cX11_foretold 13 (.invokestatic 245) 3 16 := by decide +kernel
theorem dX11_foretold_16 : fnIf cX11_foretold 16 .ne 34 19 := by decide +kernel
theorem dX11_foretold_19 : fnD cX11_foretold 19 (.iload_n 3) 1 20 := by decide +kernel
theorem dX11_foretold_20 : fnD cX11_foretold 20 (.invokestatic 245) 3 23 := by decide +kernel
theorem dX11_foretold_23 : fnIf cX11_foretold 23 .ne 34 26 := by decide +kernel
theorem dX11_foretold_26 : fnD cX11_foretold 26 (.iload 4) 2 28 := by decide +kernel
theorem dX11_foretold_28 : fnD cX11_foretold 28 (.invokestatic 245) 3 31 := by decide +kernel
theorem dX11_foretold_31 : fnIf cX11_foretold 31 .eq 38 34 := by decide +kernel
theorem dX11_foretold_34 : fnD cX11_foretold 34 (.sipush (-2001)) 3 37 := by decide +kernel
theorem dX11_foretold_37 : fnD cX11_foretold 37 (.ireturn) 1 38 := by decide +kernel
theorem dX11_foretold_38 : fnD cX11_foretold 38 (.aload_n 0) 1 39 := by decide +kernel
theorem dX11_foretold_39 : fnD cX11_foretold 39 (.iload_n 1) 1 40 := by decide +kernel
theorem dX11_foretold_40 : fnD cX11_foretold 40 (.iload_n 3) 1 41 := by decide +kernel
theorem dX11_foretold_41 : fnD cX11_foretold 41 (.iload 4) 2 43 := by decide +kernel
theorem dX11_foretold_43 : fnD cX11_foretold 43 (.invokevirtual 252) 3 46 := by decide +kernel
theorem dX11_foretold_46 : fnIf cX11_foretold 46 .eq 53 49 := by decide +kernel
theorem dX11_foretold_49 : fnD cX11_foretold 49 (.sipush (-2003)) 3 52 := by decide +kernel
theorem dX11_foretold_52 : fnD cX11_foretold 52 (.ireturn) 1 53 := by decide +kernel
theorem dX11_foretold_53 : fnD cX11_foretold 53 (.iload 5) 2 55 := by decide +kernel
theorem dX11_foretold_55 : fnIf cX11_foretold 55 .eq 65 58 := by decide +kernel
theorem dX11_foretold_58 : fnD cX11_foretold 58 (.aload_n 0) 1 59 := by decide +kernel
theorem dX11_foretold_59 : fnD cX11_foretold 59 (.getfield 48) 3 62 := by decide +kernel
theorem dX11_foretold_62 : fnGo cX11_foretold 62 69 := by decide +kernel
theorem dX11_foretold_65 : fnD cX11_foretold 65 (.aload_n 0) 1 66 := by decide +kernel
theorem dX11_foretold_66 : fnD cX11_foretold 66 (.getfield 45) 3 69 := by decide +kernel
theorem dX11_foretold_69 : fnD cX11_foretold 69 (.astore 6) 2 71 := by decide +kernel
theorem dX11_foretold_71 : fnD cX11_foretold 71 (.aload_n 0) 1 72 := by decide +kernel
theorem dX11_foretold_72 : fnD cX11_foretold 72 (.iload_n 2) 1 73 := by decide +kernel
theorem dX11_foretold_73 : fnD cX11_foretold 73 (.iload_n 3) 1 74 := by decide +kernel
theorem dX11_foretold_74 : fnD cX11_foretold 74 (.iload 4) 2 76 := by decide +kernel
theorem dX11_foretold_76 : fnD cX11_foretold 76 (.aload 6) 2 78 := by decide +kernel
theorem dX11_foretold_78 : fnD cX11_foretold 78 (.bipush 8) 2 80 := by decide +kernel
theorem dX11_foretold_80 : fnD cX11_foretold 80 (.iload_n 1) 1 81 := by decide +kernel
theorem dX11_foretold_81 : fnD cX11_foretold 81 (.imul) 1 82 := by decide +kernel
theorem dX11_foretold_82 : fnD cX11_foretold 82 (.iload_n 3) 1 83 := by decide +kernel
theorem dX11_foretold_83 : fnD cX11_foretold 83 (.iadd) 1 84 := by decide +kernel
theorem dX11_foretold_84 : fnD cX11_foretold 84 (.iaload) 1 85 := by decide +kernel
theorem dX11_foretold_85 : fnD cX11_foretold 85 (.aload 6) 2 87 := by decide +kernel
theorem dX11_foretold_87 : fnD cX11_foretold 87 (.bipush 8) 2 89 := by decide +kernel
theorem dX11_foretold_89 : fnD cX11_foretold 89 (.iload_n 1) 1 90 := by decide +kernel
theorem dX11_foretold_90 : fnD cX11_foretold 90 (.imul) 1 91 := by decide +kernel
theorem dX11_foretold_91 : fnD cX11_foretold 91 (.iload 4) 2 93 := by decide +kernel
theorem dX11_foretold_93 : fnD cX11_foretold 93 (.iadd) 1 94 := by decide +kernel
theorem dX11_foretold_94 : fnD cX11_foretold 94 (.iaload) 1 95 := by decide +kernel
theorem dX11_foretold_95 : fnD cX11_foretold 95 (.invokevirtual 256) 3 98 := by decide +kernel
theorem dX11_foretold_98 : fnD cX11_foretold 98 (.ireturn) 1 99 := by decide +kernel
theorem dX11_foretoldError_0 : fnD cX11_foretoldError 0 (.aload_n 0) 1 1 := by decide +kernel
theorem dX11_foretoldError_1 : fnD cX11_foretoldError 1 (.iconst 0) 1 2 := by decide +kernel
theorem dX11_foretoldError_2 : fnD cX11_foretoldError 2 (.putfield 96) 3 5 := by decide +kernel
theorem dX11_foretoldError_5 : fnD cX11_foretoldError 5 (.iload_n 1) 1 6 := by decide +kernel
theorem dX11_foretoldError_6 : fnD cX11_foretoldError 6 (.invokestatic 154) 3 9 := by decide +kernel
theorem dX11_foretoldError_9 : fnIf cX11_foretoldError 9 .ne 42 12 := by decide +kernel
theorem dX11_foretoldError_12 : fnD cX11_foretoldError 12 (.iload_n 2) 1 13 := by decide +kernel
theorem dX11_foretoldError_13 : fnD cX11_foretoldError 13 (.invokestatic 162) 3 16 := by decide +kernel
theorem dX11_foretoldError_16 : fnIf cX11_foretoldError 16 .ne 42 19 := by decide +kernel
theorem dX11_foretoldError_19 : fnD cX11_foretoldError 19 (.iload_n 3) 1 20 := by decide +kernel
theorem dX11_foretoldError_20 : fnD cX11_foretoldError 20 (.invokestatic 245) 3 23 := by decide +kernel
theorem dX11_foretoldError_23 : fnIf cX11_foretoldError 23 .ne 42 26 := by decide +kernel
theorem dX11_foretoldError_26 : fnD cX11_foretoldError 26 (.iload 4) 2 28 := by decide +kernel
theorem dX11_foretoldError_28 : fnD cX11_foretoldError 28 (.invokestatic 245) 3 31 := by decide +kernel
theorem dX11_foretoldError_31 : fnIf cX11_foretoldError 31 .ne 42 34 := by decide +kernel
theorem dX11_foretoldError_34 : fnD cX11_foretoldError 34 (.iload 5) 2 36 := by decide +kernel
theorem dX11_foretoldError_36 : fnD cX11_foretoldError 36 (.invokestatic 245) 3 39 := by decide +kernel
theorem dX11_foretoldError_39 : fnIf cX11_foretoldError 39 .eq 46 42 := by decide +kernel
theorem dX11_foretoldError_42 : fnD cX11_foretoldError 42 (.sipush (-2001)) 3 45 := by decide +kernel
theorem dX11_foretoldError_45 : fnD cX11_foretoldError 45 (.ireturn) 1 46 := by decide +kernel
theorem dX11_foretoldError_46 : fnD cX11_foretoldError 46 (.aload_n 0) 1 47 := by decide +kernel
theorem dX11_foretoldError_47 : fnD cX11_foretoldError 47 (.iload_n 1) 1 48 := by decide +kernel
theorem dX11_foretoldError_48 : fnD cX11_foretoldError 48 (.iload 4) 2 50 := by decide +kernel
theorem dX11_foretoldError_50 : fnD cX11_foretoldError 50 (.iload 5) 2 52 := by decide +kernel
theorem dX11_foretoldError_52 : fnD cX11_foretoldError 52 (.invokevirtual 252) 3 55 := by decide +kernel
theorem dX11_foretoldError_55 : fnIf cX11_foretoldError 55 .eq 62 58 := by decide +kernel
theorem dX11_foretoldError_58 : fnD cX11_foretoldError 58 (.sipush (-2003)) 3 61 := by decide +kernel
theorem dX11_foretoldError_61 : fnD cX11_foretoldError 61 (.ireturn) 1 62 := by decide +kernel
theorem dX11_foretoldError_62 : fnD cX11_foretoldError 62 (.aload_n 0) 1 63 := by decide +kernel
theorem dX11_foretoldError_63 : fnD cX11_foretoldError 63 (.iload_n 1) 1 64 := by decide +kernel
theorem dX11_foretoldError_64 : fnD cX11_foretoldError 64 (.invokevirtual 168) 3 67 := by decide +kernel
theorem dX11_foretoldError_67 : fnD cX11_foretoldError 67 (.aload_n 0) 1 68 := by decide +kernel
theorem dX11_foretoldError_68 : fnD cX11_foretoldError 68 (.getfield 78) 3 71 := by decide +kernel
theorem dX11_foretoldError_71 : fnD cX11_foretoldError 71 (.iconst 1) 1 72 := by decide +kernel
theorem dX11_foretoldError_72 : fnD cX11_foretoldError 72 (.aload_n 0) 1 73 := by decide +kernel
theorem dX11_foretoldError_73 : fnD cX11_foretoldError 73 (.iload_n 3) 1 74 := by decide +kernel
theorem dX11_foretoldError_74 : fnD cX11_foretoldError 74 (.iload 4) 2 76 := by decide +kernel
theorem dX11_foretoldError_76 : fnD cX11_foretoldError 76 (.iload 5) 2 78 := by decide +kernel
theorem dX11_foretoldError_78 : fnD cX11_foretoldError 78 (.aload_n 0) 1 79 := by decide +kernel
theorem dX11_foretoldError_79 : fnD cX11_foretoldError 79 (.getfield 45) 3 82 := by decide +kernel
theorem dX11_foretoldError_82 : fnD cX11_foretoldError 82 (.bipush 8) 2 84 := by decide +kernel
theorem dX11_foretoldError_84 : fnD cX11_foretoldError 84 (.iload_n 1) 1 85 := by decide +kernel
theorem dX11_foretoldError_85 : fnD cX11_foretoldError 85 (.imul) 1 86 := by decide +kernel
theorem dX11_foretoldError_86 : fnD cX11_foretoldError 86 (.iload 4) 2 88 := by decide +kernel
theorem dX11_foretoldError_88 : fnD cX11_foretoldError 88 (.iadd) 1 89 := by decide +kernel
theorem dX11_foretoldError_89 : fnD cX11_foretoldError 89 (.iaload) 1 90 := by decide +kernel
theorem dX11_foretoldError_90 : fnD cX11_foretoldError 90 (.aload_n 0) 1 91 := by decide +kernel
theorem dX11_foretoldError_91 : fnD cX11_foretoldError 91 (.getfield 45) 3 94 := by decide +kernel
theorem dX11_foretoldError_94 : fnD cX11_foretoldError 94 (.bipush 8) 2 96 := by decide +kernel
theorem dX11_foretoldError_96 : fnD cX11_foretoldError 96 (.iload_n 1) 1 97 := by decide +kernel
theorem dX11_foretoldError_97 : fnD cX11_foretoldError 97 (.imul) 1 98 := by decide +kernel
theorem dX11_foretoldError_98 : fnD cX11_foretoldError 98 (.iload 5) 2 100 := by decide +kernel
theorem dX11_foretoldError_100 : fnD cX11_foretoldError 100 (.iadd) 1 101 := by decide +kernel
theorem dX11_foretoldError_101 : fnD cX11_foretoldError 101 (.iaload) 1 102 := by decide +kernel
theorem dX11_foretoldError_102 : fnD cX11_foretoldError 102 (.invokevirtual 256) 3 105 := by decide +kernel
theorem dX11_foretoldError_105 : fnD cX11_foretoldError 105 (.iastore) 1 106 := by decide +kernel
theorem dX11_foretoldError_106 : fnD cX11_foretoldError 106 (.aload_n 0) 1 107 := by decide +kernel
theorem dX11_foretoldError_107 : fnD cX11_foretoldError 107 (.getfield 78) 3 110 := by decide +kernel
theorem dX11_foretoldError_110 : fnD cX11_foretoldError 110 (.iconst 2) 1 111 := by decide +kernel
theorem dX11_foretoldError_111 : fnD cX11_foretoldError 111 (.aload_n 0) 1 112 := by decide +kernel
theorem dX11_foretoldError_112 : fnD cX11_foretoldError 112 (.iload_n 3) 1 113 := by decide +kernel
theorem dX11_foretoldError_113 : fnD cX11_foretoldError 113 (.iload 4) 2 115 := by decide +kernel
theorem dX11_foretoldError_115 : fnD cX11_foretoldError 115 (.iload 5) 2 117 := by decide +kernel
theorem dX11_foretoldError_117 : fnD cX11_foretoldError 117 (.aload_n 0) 1 118 := by decide +kernel
theorem dX11_foretoldError_118 : fnD cX11_foretoldError 118 (.getfield 48) 3 121 := by decide +kernel
theorem dX11_foretoldError_121 : fnD cX11_foretoldError 121 (.bipush 8) 2 123 := by decide +kernel
theorem dX11_foretoldError_123 : fnD cX11_foretoldError 123 (.iload_n 1) 1 124 := by decide +kernel
theorem dX11_foretoldError_124 : fnD cX11_foretoldError 124 (.imul) 1 125 := by decide +kernel
theorem dX11_foretoldError_125 : fnD cX11_foretoldError 125 (.iload 4) 2 127 := by decide +kernel
theorem dX11_foretoldError_127 : fnD cX11_foretoldError 127 (.iadd) 1 128 := by decide +kernel
theorem dX11_foretoldError_128 : fnD cX11_foretoldError 128 (.iaload) 1 129 := by decide +kernel
theorem dX11_foretoldError_129 : fnD cX11_foretoldError 129 (.aload_n 0) 1 130 := by decide +kernel
theorem dX11_foretoldError_130 : fnD cX11_foretoldError 130 (.getfield 48) 3 133 := by decide +kernel
theorem dX11_foretoldError_133 : fnD cX11_foretoldError 133 (.bipush 8) 2 135 := by decide +kernel
theorem dX11_foretoldError_135 : fnD cX11_foretoldError 135 (.iload_n 1) 1 136 := by decide +kernel
theorem dX11_foretoldError_136 : fnD cX11_foretoldError 136 (.imul) 1 137 := by decide +kernel
theorem dX11_foretoldError_137 : fnD cX11_foretoldError 137 (.iload 5) 2 139 := by decide +kernel
theorem dX11_foretoldError_139 : fnD cX11_foretoldError 139 (.iadd) 1 140 := by decide +kernel
theorem dX11_foretoldError_140 : fnD cX11_foretoldError 140 (.iaload) 1 141 := by decide +kernel
theorem dX11_foretoldError_141 : fnD cX11_foretoldError 141 (.invokevirtual 256) 3 144 := by decide +kernel
theorem dX11_foretoldError_144 : fnD cX11_foretoldError 144 (.iastore) 1 145 := by decide +kernel
theorem dX11_foretoldError_145 : fnD cX11_foretoldError 145 (.aload_n 0) 1 146 := by decide +kernel
theorem dX11_foretoldError_146 : fnD cX11_foretoldError 146 (.iload_n 2) 1 147 := by decide +kernel
theorem dX11_foretoldError_147 : fnD cX11_foretoldError 147 (.iconst 0) 1 148 := by decide +kernel
theorem dX11_foretoldError_148 : fnD cX11_foretoldError 148 (.invokevirtual 138) 3 151 := by decide +kernel
theorem dX11_foretoldError_151 : fnD cX11_foretoldError 151 (.ireturn) 1 152 := by decide +kernel
theorem dX11_event_0 : fnD cX11_event 0 (.aload_n 0) 1 1 := by decide +kernel
theorem dX11_event_1 : fnD cX11_event 1 (.iconst 0) 1 2 := by decide +kernel
theorem dX11_event_2 : fnD cX11_event 2 (.putfield 96) 3 5 := by decide +kernel
theorem dX11_event_5 : fnD cX11_event 5 (.iload_n 1) 1 6 := by decide +kernel
theorem dX11_event_6 : fnD cX11_event 6 (.i2l) 1 7 := by decide +kernel
theorem dX11_event_7 : fnD cX11_event 7 (.lconst 0) 1 8 := by decide +kernel
theorem dX11_event_8 : fnD cX11_event 8 (.ldc2_w 260) 3 11 := by decide +kernel
theorem dX11_event_11 : fnD cX11_event 11 (.invokestatic 117) 3 14 := by decide +kernel
theorem dX11_event_14 : fnIf cX11_event 14 .eq 24 17 := by decide +kernel
theorem dX11_event_17 : fnD cX11_event 17 (.iload_n 3) 1 18 := by decide +kernel
theorem dX11_event_18 : fnD cX11_event 18 (.invokestatic 157) 3 21 := by decide +kernel
theorem dX11_event_21 : fnIf cX11_event 21 .eq 28 24 := by decide +kernel
theorem dX11_event_24 : fnD cX11_event 24 (.sipush (-2001)) 3 27 := by decide +kernel
theorem dX11_event_27 : fnD cX11_event 27 (.ireturn) 1 28 := by decide +kernel
theorem dX11_event_28 : fnD cX11_event 28 (.iload_n 2) 1 29 := by decide +kernel
theorem dX11_event_29 : fnD cX11_event 29 (.invokestatic 262) 3 32 := by decide +kernel
theorem dX11_event_32 : fnIf cX11_event 32 .ne 50 35 := by decide +kernel
theorem dX11_event_35 : fnD cX11_event 35 (.iload 4) 2 37 := by decide +kernel
theorem dX11_event_37 : fnD cX11_event 37 (.i2l) 1 38 := by decide +kernel
theorem dX11_event_38 : fnD cX11_event 38 (.ldc2_w 265) 3 41 := by decide +kernel
theorem dX11_event_41 : fnD cX11_event 41 (.ldc2_w 267) 3 44 := by decide +kernel
theorem dX11_event_44 : fnD cX11_event 44 (.invokestatic 117) 3 47 := by decide +kernel
theorem dX11_event_47 : fnIf cX11_event 47 .ne 54 50 := by decide +kernel
theorem dX11_event_50 : fnD cX11_event 50 (.sipush (-2002)) 3 53 := by decide +kernel
theorem dX11_event_53 : fnD cX11_event 53 (.ireturn) 1 54 := by decide +kernel
theorem dX11_event_54 : fnD cX11_event 54 (.aload_n 0) 1 55 := by decide +kernel
theorem dX11_event_55 : fnD cX11_event 55 (.getfield 57) 3 58 := by decide +kernel
theorem dX11_event_58 : fnD cX11_event 58 (.iload_n 1) 1 59 := by decide +kernel
theorem dX11_event_59 : fnD cX11_event 59 (.iaload) 1 60 := by decide +kernel
theorem dX11_event_60 : fnD cX11_event 60 (.istore 5) 2 62 := by decide +kernel
theorem dX11_event_62 : fnD cX11_event 62 (.aload_n 0) 1 63 := by decide +kernel
theorem dX11_event_63 : fnD cX11_event 63 (.getfield 51) 3 66 := by decide +kernel
theorem dX11_event_66 : fnD cX11_event 66 (.iload_n 1) 1 67 := by decide +kernel
theorem dX11_event_67 : fnD cX11_event 67 (.iload_n 2) 1 68 := by decide +kernel
theorem dX11_event_68 : fnD cX11_event 68 (.iastore) 1 69 := by decide +kernel
theorem dX11_event_69 : fnD cX11_event 69 (.aload_n 0) 1 70 := by decide +kernel
theorem dX11_event_70 : fnD cX11_event 70 (.getfield 54) 3 73 := by decide +kernel
theorem dX11_event_73 : fnD cX11_event 73 (.iload_n 1) 1 74 := by decide +kernel
theorem dX11_event_74 : fnD cX11_event 74 (.iload_n 3) 1 75 := by decide +kernel
theorem dX11_event_75 : fnD cX11_event 75 (.iastore) 1 76 := by decide +kernel
theorem dX11_event_76 : fnD cX11_event 76 (.aload_n 0) 1 77 := by decide +kernel
theorem dX11_event_77 : fnD cX11_event 77 (.getfield 57) 3 80 := by decide +kernel
theorem dX11_event_80 : fnD cX11_event 80 (.iload_n 1) 1 81 := by decide +kernel
theorem dX11_event_81 : fnD cX11_event 81 (.iload 4) 2 83 := by decide +kernel
theorem dX11_event_83 : fnD cX11_event 83 (.iastore) 1 84 := by decide +kernel
theorem dX11_event_84 : fnD cX11_event 84 (.iload 5) 2 86 := by decide +kernel
theorem dX11_event_86 : fnD cX11_event 86 (.ireturn) 1 87 := by decide +kernel
theorem dX11_takeAsOf_0 : fnD cX11_takeAsOf 0 (.aload_n 0) 1 1 := by decide +kernel
theorem dX11_takeAsOf_1 : fnD cX11_takeAsOf 1 (.iconst 0) 1 2 := by decide +kernel
theorem dX11_takeAsOf_2 : fnD cX11_takeAsOf 2 (.invokevirtual 168) 3 5 := by decide +kernel
theorem dX11_takeAsOf_5 : fnD cX11_takeAsOf 5 (.iconst 0) 1 6 := by decide +kernel
theorem dX11_takeAsOf_6 : fnD cX11_takeAsOf 6 (.istore_n 2) 1 7 := by decide +kernel
theorem dX11_takeAsOf_7 : fnD cX11_takeAsOf 7 (.iload_n 2) 1 8 := by decide +kernel
theorem dX11_takeAsOf_8 : fnD cX11_takeAsOf 8 (.bipush 20) 2 10 := by decide +kernel
theorem dX11_takeAsOf_10 : fnIc cX11_takeAsOf 10 .ge 53 13 := by decide +kernel
theorem dX11_takeAsOf_13 : fnD cX11_takeAsOf 13 (.aload_n 0) 1 14 := by decide +kernel
theorem dX11_takeAsOf_14 : fnD cX11_takeAsOf 14 (.getfield 78) 3 17 := by decide +kernel
theorem dX11_takeAsOf_17 : fnD cX11_takeAsOf 17 (.aload_n 0) 1 18 := by decide +kernel
theorem dX11_takeAsOf_18 : fnD cX11_takeAsOf 18 (.getfield 54) 3 21 := by decide +kernel
theorem dX11_takeAsOf_21 : fnD cX11_takeAsOf 21 (.iload_n 2) 1 22 := by decide +kernel
theorem dX11_takeAsOf_22 : fnD cX11_takeAsOf 22 (.iaload) 1 23 := by decide +kernel
theorem dX11_takeAsOf_23 : fnD cX11_takeAsOf 23 (.dup2) 1 24 := by decide +kernel
theorem dX11_takeAsOf_24 : fnD cX11_takeAsOf 24 (.iaload) 1 25 := by decide +kernel
theorem dX11_takeAsOf_25 : fnD cX11_takeAsOf 25 (.aload_n 0) 1 26 := by decide +kernel
theorem dX11_takeAsOf_26 : fnD cX11_takeAsOf 26 (.getfield 51) 3 29 := by decide +kernel
theorem dX11_takeAsOf_29 : fnD cX11_takeAsOf 29 (.iload_n 2) 1 30 := by decide +kernel
theorem dX11_takeAsOf_30 : fnD cX11_takeAsOf 30 (.iaload) 1 31 := by decide +kernel
theorem dX11_takeAsOf_31 : fnD cX11_takeAsOf 31 (.iload_n 1) 1 32 := by decide +kernel
theorem dX11_takeAsOf_32 : fnIc cX11_takeAsOf 32 .gt 44 35 := by decide +kernel
theorem dX11_takeAsOf_35 : fnD cX11_takeAsOf 35 (.aload_n 0) 1 36 := by decide +kernel
theorem dX11_takeAsOf_36 : fnD cX11_takeAsOf 36 (.getfield 57) 3 39 := by decide +kernel
theorem dX11_takeAsOf_39 : fnD cX11_takeAsOf 39 (.iload_n 2) 1 40 := by decide +kernel
theorem dX11_takeAsOf_40 : fnD cX11_takeAsOf 40 (.iaload) 1 41 := by decide +kernel
theorem dX11_takeAsOf_41 : fnGo cX11_takeAsOf 41 45 := by decide +kernel
theorem dX11_takeAsOf_44 : fnD cX11_takeAsOf 44 (.iconst 0) 1 45 := by decide +kernel
theorem dX11_takeAsOf_45 : fnD cX11_takeAsOf 45 (.iadd) 1 46 := by decide +kernel
theorem dX11_takeAsOf_46 : fnD cX11_takeAsOf 46 (.iastore) 1 47 := by decide +kernel
theorem dX11_takeAsOf_47 : fnD cX11_takeAsOf 47 (.iinc 2 1) 3 50 := by decide +kernel
theorem dX11_takeAsOf_50 : fnGo cX11_takeAsOf 50 7 := by decide +kernel
theorem dX11_takeAsOf_53 : fnD cX11_takeAsOf 53 (.return_) 1 54 := by decide +kernel
theorem dX11_asOf_0 : fnD cX11_asOf 0 (.aload_n 0) 1 1 := by decide +kernel
theorem dX11_asOf_1 : fnD cX11_asOf 1 (.iconst 0) 1 2 := by decide +kernel
theorem dX11_asOf_2 : fnD cX11_asOf 2 (.putfield 96) 3 5 := by decide +kernel
theorem dX11_asOf_5 : fnD cX11_asOf 5 (.iload_n 1) 1 6 := by decide +kernel
theorem dX11_asOf_6 : fnD cX11_asOf 6 (.invokestatic 157) 3 9 := by decide +kernel
theorem dX11_asOf_9 : fnIf cX11_asOf 9 .eq 16 12 := by decide +kernel
theorem dX11_asOf_12 : fnD cX11_asOf 12 (.sipush (-2001)) 3 15 := by decide +kernel
theorem dX11_asOf_15 : fnD cX11_asOf 15 (.ireturn) 1 16 := by decide +kernel
theorem dX11_asOf_16 : fnD cX11_asOf 16 (.iload_n 2) 1 17 := by decide +kernel
theorem dX11_asOf_17 : fnD cX11_asOf 17 (.invokestatic 262) 3 20 := by decide +kernel
theorem dX11_asOf_20 : fnIf cX11_asOf 20 .eq 27 23 := by decide +kernel
theorem dX11_asOf_23 : fnD cX11_asOf 23 (.sipush (-2002)) 3 26 := by decide +kernel
theorem dX11_asOf_26 : fnD cX11_asOf 26 (.ireturn) 1 27 := by decide +kernel
theorem dX11_asOf_27 : fnD cX11_asOf 27 (.aload_n 0) 1 28 := by decide +kernel
theorem dX11_asOf_28 : fnD cX11_asOf 28 (.iload_n 2) 1 29 := by decide +kernel
theorem dX11_asOf_29 : fnD cX11_asOf 29 (.invokevirtual 269) 3 32 := by decide +kernel
theorem dX11_asOf_32 : fnD cX11_asOf 32 (.aload_n 0) 1 33 := by decide +kernel
theorem dX11_asOf_33 : fnD cX11_asOf 33 (.getfield 78) 3 36 := by decide +kernel
theorem dX11_asOf_36 : fnD cX11_asOf 36 (.iload_n 1) 1 37 := by decide +kernel
theorem dX11_asOf_37 : fnD cX11_asOf 37 (.iaload) 1 38 := by decide +kernel
theorem dX11_asOf_38 : fnD cX11_asOf 38 (.ireturn) 1 39 := by decide +kernel
theorem dX11_leg_0 : fnD cX11_leg 0 (.aload_n 0) 1 1 := by decide +kernel
theorem dX11_leg_1 : fnD cX11_leg 1 (.iconst 0) 1 2 := by decide +kernel
theorem dX11_leg_2 : fnD cX11_leg 2 (.putfield 96) 3 5 := by decide +kernel
theorem dX11_leg_5 : fnD cX11_leg 5 (.iload_n 1) 1 6 := by decide +kernel
theorem dX11_leg_6 : fnD cX11_leg 6 (.invokestatic 262) 3 9 := by decide +kernel
theorem dX11_leg_9 : fnIf cX11_leg 9 .ne 78 12 := by decide +kernel
theorem dX11_leg_12 : fnD cX11_leg 12 (.iload_n 2) 1 13 := by decide +kernel
theorem dX11_leg_13 : fnD cX11_leg 13 (.invokestatic 144) 3 16 := by decide +kernel
theorem dX11_leg_16 : fnIf cX11_leg 16 .ne 78 19 := by decide +kernel
theorem dX11_leg_19 : fnD cX11_leg 19 (.iload_n 3) 1 20 := by decide +kernel
theorem dX11_leg_20 : fnD cX11_leg 20 (.invokestatic 165) 3 23 := by decide +kernel
theorem dX11_leg_23 : fnIf cX11_leg 23 .ne 78 26 := by decide +kernel
theorem dX11_leg_26 : fnD cX11_leg 26 (.iload 4) 2 28 := by decide +kernel
theorem dX11_leg_28 : fnD cX11_leg 28 (.i2l) 1 29 := by decide +kernel
theorem dX11_leg_29 : fnD cX11_leg 29 (.lconst 0) 1 30 := by decide +kernel
theorem dX11_leg_30 : fnD cX11_leg 30 (.ldc2_w 267) 3 33 := by decide +kernel
theorem dX11_leg_33 : fnD cX11_leg 33 (.invokestatic 117) 3 36 := by decide +kernel
theorem dX11_leg_36 : fnIf cX11_leg 36 .eq 78 39 := by decide +kernel
theorem dX11_leg_39 : fnD cX11_leg 39 (.iload 5) 2 41 := by decide +kernel
theorem dX11_leg_41 : fnD cX11_leg 41 (.sipush (-2009)) 3 44 := by decide +kernel
theorem dX11_leg_44 : fnIc cX11_leg 44 .eq 55 47 := by decide +kernel
theorem dX11_leg_47 : fnD cX11_leg 47 (.iload 5) 2 49 := by decide +kernel
theorem dX11_leg_49 : fnD cX11_leg 49 (.invokestatic 144) 3 52 := by decide +kernel
theorem dX11_leg_52 : fnIf cX11_leg 52 .ne 78 55 := by decide +kernel
theorem dX11_leg_55 : fnD cX11_leg 55 (.iload 6) 2 57 := by decide +kernel
theorem dX11_leg_57 : fnD cX11_leg 57 (.sipush (-2009)) 3 60 := by decide +kernel
theorem dX11_leg_60 : fnIc cX11_leg 60 .eq 82 63 := by decide +kernel
theorem dX11_leg_63 : fnD cX11_leg 63 (.iload 6) 2 65 := by decide +kernel
theorem dX11_leg_65 : fnD cX11_leg 65 (.i2l) 1 66 := by decide +kernel
theorem dX11_leg_66 : fnD cX11_leg 66 (.ldc2_w 181) 3 69 := by decide +kernel
theorem dX11_leg_69 : fnD cX11_leg 69 (.ldc2_w 183) 3 72 := by decide +kernel
theorem dX11_leg_72 : fnD cX11_leg 72 (.invokestatic 117) 3 75 := by decide +kernel
theorem dX11_leg_75 : fnIf cX11_leg 75 .ne 82 78 := by decide +kernel
theorem dX11_leg_78 : fnD cX11_leg 78 (.sipush (-2002)) 3 81 := by decide +kernel
theorem dX11_leg_81 : fnD cX11_leg 81 (.ireturn) 1 82 := by decide +kernel
theorem dX11_leg_82 : fnD cX11_leg 82 (.aload_n 0) 1 83 := by decide +kernel
theorem dX11_leg_83 : fnD cX11_leg 83 (.getfield 272) 3 86 := by decide +kernel
theorem dX11_leg_86 : fnIf cX11_leg 86 .le 108 89 := by decide +kernel
theorem dX11_leg_89 : fnD cX11_leg 89 (.iload_n 1) 1 90 := by decide +kernel
theorem dX11_leg_90 : fnD cX11_leg 90 (.aload_n 0) 1 91 := by decide +kernel
theorem dX11_leg_91 : fnD cX11_leg 91 (.getfield 60) 3 94 := by decide +kernel
theorem dX11_leg_94 : fnD cX11_leg 94 (.aload_n 0) 1 95 := by decide +kernel
theorem dX11_leg_95 : fnD cX11_leg 95 (.getfield 272) 3 98 := by decide +kernel
theorem dX11_leg_98 : fnD cX11_leg 98 (.iconst 1) 1 99 := by decide +kernel
theorem dX11_leg_99 : fnD cX11_leg 99 (.isub) 1 100 := by decide +kernel
theorem dX11_leg_100 : fnD cX11_leg 100 (.iaload) 1 101 := by decide +kernel
theorem dX11_leg_101 : fnIc cX11_leg 101 .ge 108 104 := by decide +kernel
theorem dX11_leg_104 : fnD cX11_leg 104 (.sipush (-2003)) 3 107 := by decide +kernel
theorem dX11_leg_107 : fnD cX11_leg 107 (.ireturn) 1 108 := by decide +kernel
theorem dX11_leg_108 : fnD cX11_leg 108 (.aload_n 0) 1 109 := by decide +kernel
theorem dX11_leg_109 : fnD cX11_leg 109 (.getfield 272) 3 112 := by decide +kernel
theorem dX11_leg_112 : fnD cX11_leg 112 (.bipush 40) 2 114 := by decide +kernel
theorem dX11_leg_114 : fnIc cX11_leg 114 .ne 121 117 := by decide +kernel
theorem dX11_leg_117 : fnD cX11_leg 117 (.sipush (-2004)) 3 120 := by decide +kernel
theorem dX11_leg_120 : fnD cX11_leg 120 (.ireturn) 1 121 := by decide +kernel
theorem dX11_leg_121 : fnD cX11_leg 121 (.aload_n 0) 1 122 := by decide +kernel
theorem dX11_leg_122 : fnD cX11_leg 122 (.getfield 60) 3 125 := by decide +kernel
theorem dX11_leg_125 : fnD cX11_leg 125 (.aload_n 0) 1 126 := by decide +kernel
theorem dX11_leg_126 : fnD cX11_leg 126 (.getfield 272) 3 129 := by decide +kernel
theorem dX11_leg_129 : fnD cX11_leg 129 (.iload_n 1) 1 130 := by decide +kernel
theorem dX11_leg_130 : fnD cX11_leg 130 (.iastore) 1 131 := by decide +kernel
theorem dX11_leg_131 : fnD cX11_leg 131 (.aload_n 0) 1 132 := by decide +kernel
theorem dX11_leg_132 : fnD cX11_leg 132 (.getfield 63) 3 135 := by decide +kernel
theorem dX11_leg_135 : fnD cX11_leg 135 (.aload_n 0) 1 136 := by decide +kernel
theorem dX11_leg_136 : fnD cX11_leg 136 (.getfield 272) 3 139 := by decide +kernel
theorem dX11_leg_139 : fnD cX11_leg 139 (.iload_n 2) 1 140 := by decide +kernel
theorem dX11_leg_140 : fnD cX11_leg 140 (.iastore) 1 141 := by decide +kernel
theorem dX11_leg_141 : fnD cX11_leg 141 (.aload_n 0) 1 142 := by decide +kernel
theorem dX11_leg_142 : fnD cX11_leg 142 (.getfield 66) 3 145 := by decide +kernel
theorem dX11_leg_145 : fnD cX11_leg 145 (.aload_n 0) 1 146 := by decide +kernel
theorem dX11_leg_146 : fnD cX11_leg 146 (.getfield 272) 3 149 := by decide +kernel
theorem dX11_leg_149 : fnD cX11_leg 149 (.iload_n 3) 1 150 := by decide +kernel
theorem dX11_leg_150 : fnD cX11_leg 150 (.iastore) 1 151 := by decide +kernel
theorem dX11_leg_151 : fnD cX11_leg 151 (.aload_n 0) 1 152 := by decide +kernel
theorem dX11_leg_152 : fnD cX11_leg 152 (.getfield 69) 3 155 := by decide +kernel
theorem dX11_leg_155 : fnD cX11_leg 155 (.aload_n 0) 1 156 := by decide +kernel
theorem dX11_leg_156 : fnD cX11_leg 156 (.getfield 272) 3 159 := by decide +kernel
theorem dX11_leg_159 : fnD cX11_leg 159 (.iload 4) 2 161 := by decide +kernel
theorem dX11_leg_161 : fnD cX11_leg 161 (.iastore) 1 162 := by decide +kernel
theorem dX11_leg_162 : fnD cX11_leg 162 (.aload_n 0) 1 163 := by decide +kernel
theorem dX11_leg_163 : fnD cX11_leg 163 (.getfield 72) 3 166 := by decide +kernel
theorem dX11_leg_166 : fnD cX11_leg 166 (.aload_n 0) 1 167 := by decide +kernel
theorem dX11_leg_167 : fnD cX11_leg 167 (.getfield 272) 3 170 := by decide +kernel
theorem dX11_leg_170 : fnD cX11_leg 170 (.iload 5) 2 172 := by decide +kernel
theorem dX11_leg_172 : fnD cX11_leg 172 (.iastore) 1 173 := by decide +kernel
theorem dX11_leg_173 : fnD cX11_leg 173 (.aload_n 0) 1 174 := by decide +kernel
theorem dX11_leg_174 : fnD cX11_leg 174 (.getfield 75) 3 177 := by decide +kernel
theorem dX11_leg_177 : fnD cX11_leg 177 (.aload_n 0) 1 178 := by decide +kernel
theorem dX11_leg_178 : fnD cX11_leg 178 (.getfield 272) 3 181 := by decide +kernel
theorem dX11_leg_181 : fnD cX11_leg 181 (.iload 6) 2 183 := by decide +kernel
theorem dX11_leg_183 : fnD cX11_leg 183 (.iastore) 1 184 := by decide +kernel
theorem dX11_leg_184 : fnD cX11_leg 184 (.aload_n 0) 1 185 := by decide +kernel
theorem dX11_leg_185 : fnD cX11_leg 185 (.dup) 1 186 := by decide +kernel
theorem dX11_leg_186 : fnD cX11_leg 186 (.getfield 272) 3 189 := by decide +kernel
theorem dX11_leg_189 : fnD cX11_leg 189 (.iconst 1) 1 190 := by decide +kernel
theorem dX11_leg_190 : fnD cX11_leg 190 (.iadd) 1 191 := by decide +kernel
theorem dX11_leg_191 : fnD cX11_leg 191 (.putfield 272) 3 194 := by decide +kernel
theorem dX11_leg_194 : fnD cX11_leg 194 (.aload_n 0) 1 195 := by decide +kernel
theorem dX11_leg_195 : fnD cX11_leg 195 (.getfield 272) 3 198 := by decide +kernel
theorem dX11_leg_198 : fnD cX11_leg 198 (.iconst 1) 1 199 := by decide +kernel
theorem dX11_leg_199 : fnD cX11_leg 199 (.isub) 1 200 := by decide +kernel
theorem dX11_leg_200 : fnD cX11_leg 200 (.ireturn) 1 201 := by decide +kernel
theorem dX11_layLeg_0 : fnD cX11_layLeg 0 (.aload_n 0) 1 1 := by decide +kernel
theorem dX11_layLeg_1 : fnD cX11_layLeg 1 (.aload_n 0) 1 2 := by decide +kernel
theorem dX11_layLeg_2 : fnD cX11_layLeg 2 (.getfield 60) 3 5 := by decide +kernel
theorem dX11_layLeg_5 : fnD cX11_layLeg 5 (.iload_n 1) 1 6 := by decide +kernel
theorem dX11_layLeg_6 : fnD cX11_layLeg 6 (.iaload) 1 7 := by decide +kernel
theorem dX11_layLeg_7 : fnD cX11_layLeg 7 (.invokevirtual 269) 3 10 := by decide +kernel
theorem dX11_layLeg_10 : fnD cX11_layLeg 10 (.aload_n 0) 1 11 := by decide +kernel
theorem dX11_layLeg_11 : fnD cX11_layLeg 11 (.aload_n 0) 1 12 := by decide +kernel
theorem dX11_layLeg_12 : fnD cX11_layLeg 12 (.getfield 66) 3 15 := by decide +kernel
theorem dX11_layLeg_15 : fnD cX11_layLeg 15 (.iload_n 1) 1 16 := by decide +kernel
theorem dX11_layLeg_16 : fnD cX11_layLeg 16 (.iaload) 1 17 := by decide +kernel
theorem dX11_layLeg_17 : fnD cX11_layLeg 17 (.invokevirtual 172) 3 20 := by decide +kernel
theorem dX11_layLeg_20 : fnD cX11_layLeg 20 (.return_) 1 21 := by decide +kernel
theorem dX11_courseOf_0 : fnD cX11_courseOf 0 (.aload_n 0) 1 1 := by decide +kernel
theorem dX11_courseOf_1 : fnD cX11_courseOf 1 (.iload_n 1) 1 2 := by decide +kernel
theorem dX11_courseOf_2 : fnD cX11_courseOf 2 (.invokevirtual 275) 3 5 := by decide +kernel
theorem dX11_courseOf_5 : fnD cX11_courseOf 5 (.aload_n 0) 1 6 := by decide +kernel
theorem dX11_courseOf_6 : fnD cX11_courseOf 6 (.aload_n 0) 1 7 := by decide +kernel
theorem dX11_courseOf_7 : fnD cX11_courseOf 7 (.getfield 63) 3 10 := by decide +kernel
theorem dX11_courseOf_10 : fnD cX11_courseOf 10 (.iload_n 1) 1 11 := by decide +kernel
theorem dX11_courseOf_11 : fnD cX11_courseOf 11 (.iaload) 1 12 := by decide +kernel
theorem dX11_courseOf_12 : fnD cX11_courseOf 12 (.invokevirtual 175) 3 15 := by decide +kernel
theorem dX11_courseOf_15 : fnD cX11_courseOf 15 (.ireturn) 1 16 := by decide +kernel
theorem dX11_restOf_0 : fnD cX11_restOf 0 (.aload_n 0) 1 1 := by decide +kernel
theorem dX11_restOf_1 : fnD cX11_restOf 1 (.iload_n 1) 1 2 := by decide +kernel
theorem dX11_restOf_2 : fnD cX11_restOf 2 (.invokevirtual 275) 3 5 := by decide +kernel
theorem dX11_restOf_5 : fnD cX11_restOf 5 (.aload_n 0) 1 6 := by decide +kernel
theorem dX11_restOf_6 : fnD cX11_restOf 6 (.getfield 75) 3 9 := by decide +kernel
theorem dX11_restOf_9 : fnD cX11_restOf 9 (.iload_n 1) 1 10 := by decide +kernel
theorem dX11_restOf_10 : fnD cX11_restOf 10 (.iaload) 1 11 := by decide +kernel
theorem dX11_restOf_11 : fnD cX11_restOf 11 (.sipush (-2009)) 3 14 := by decide +kernel
theorem dX11_restOf_14 : fnIc cX11_restOf 14 .ne 23 17 := by decide +kernel
theorem dX11_restOf_17 : fnD cX11_restOf 17 (.sipush (-2009)) 3 20 := by decide +kernel
theorem dX11_restOf_20 : fnGo cX11_restOf 20 40 := by decide +kernel
theorem dX11_restOf_23 : fnD cX11_restOf 23 (.aload_n 0) 1 24 := by decide +kernel
theorem dX11_restOf_24 : fnD cX11_restOf 24 (.getfield 75) 3 27 := by decide +kernel
theorem dX11_restOf_27 : fnD cX11_restOf 27 (.iload_n 1) 1 28 := by decide +kernel
theorem dX11_restOf_28 : fnD cX11_restOf 28 (.iaload) 1 29 := by decide +kernel
theorem dX11_restOf_29 : fnD cX11_restOf 29 (.aload_n 0) 1 30 := by decide +kernel
theorem dX11_restOf_30 : fnD cX11_restOf 30 (.aload_n 0) 1 31 := by decide +kernel
theorem dX11_restOf_31 : fnD cX11_restOf 31 (.getfield 63) 3 34 := by decide +kernel
theorem dX11_restOf_34 : fnD cX11_restOf 34 (.iload_n 1) 1 35 := by decide +kernel
theorem dX11_restOf_35 : fnD cX11_restOf 35 (.iaload) 1 36 := by decide +kernel
theorem dX11_restOf_36 : fnD cX11_restOf 36 (.invokevirtual 141) 3 39 := by decide +kernel
theorem dX11_restOf_39 : fnD cX11_restOf 39 (.isub) 1 40 := by decide +kernel
theorem dX11_restOf_40 : fnD cX11_restOf 40 (.ireturn) 1 41 := by decide +kernel
theorem dX11_secondOf_0 : fnD cX11_secondOf 0 (.aload_n 0) 1 1 := by decide +kernel
theorem dX11_secondOf_1 : fnD cX11_secondOf 1 (.iconst 1) 1 2 := by decide +kernel
theorem dX11_secondOf_2 : fnD cX11_secondOf 2 (.invokevirtual 168) 3 5 := by decide +kernel
theorem dX11_secondOf_5 : fnD cX11_secondOf 5 (.aload_n 0) 1 6 := by decide +kernel
theorem dX11_secondOf_6 : fnD cX11_secondOf 6 (.aload_n 0) 1 7 := by decide +kernel
theorem dX11_secondOf_7 : fnD cX11_secondOf 7 (.getfield 66) 3 10 := by decide +kernel
theorem dX11_secondOf_10 : fnD cX11_secondOf 10 (.iload_n 1) 1 11 := by decide +kernel
theorem dX11_secondOf_11 : fnD cX11_secondOf 11 (.iaload) 1 12 := by decide +kernel
theorem dX11_secondOf_12 : fnD cX11_secondOf 12 (.invokevirtual 172) 3 15 := by decide +kernel
theorem dX11_secondOf_15 : fnD cX11_secondOf 15 (.aload_n 0) 1 16 := by decide +kernel
theorem dX11_secondOf_16 : fnD cX11_secondOf 16 (.aload_n 0) 1 17 := by decide +kernel
theorem dX11_secondOf_17 : fnD cX11_secondOf 17 (.getfield 72) 3 20 := by decide +kernel
theorem dX11_secondOf_20 : fnD cX11_secondOf 20 (.iload_n 1) 1 21 := by decide +kernel
theorem dX11_secondOf_21 : fnD cX11_secondOf 21 (.iaload) 1 22 := by decide +kernel
theorem dX11_secondOf_22 : fnD cX11_secondOf 22 (.invokevirtual 175) 3 25 := by decide +kernel
theorem dX11_secondOf_25 : fnD cX11_secondOf 25 (.ireturn) 1 26 := by decide +kernel
theorem dX11_apartOf_0 : fnD cX11_apartOf 0 (.aload_n 0) 1 1 := by decide +kernel
theorem dX11_apartOf_1 : fnD cX11_apartOf 1 (.getfield 72) 3 4 := by decide +kernel
theorem dX11_apartOf_4 : fnD cX11_apartOf 4 (.iload_n 1) 1 5 := by decide +kernel
theorem dX11_apartOf_5 : fnD cX11_apartOf 5 (.iaload) 1 6 := by decide +kernel
theorem dX11_apartOf_6 : fnD cX11_apartOf 6 (.sipush (-2009)) 3 9 := by decide +kernel
theorem dX11_apartOf_9 : fnIc cX11_apartOf 9 .ne 18 12 := by decide +kernel
theorem dX11_apartOf_12 : fnD cX11_apartOf 12 (.sipush (-2009)) 3 15 := by decide +kernel
theorem dX11_apartOf_15 : fnGo cX11_apartOf 15 31 := by decide +kernel
theorem dX11_apartOf_18 : fnD cX11_apartOf 18 (.aload_n 0) 1 19 := by decide +kernel
theorem dX11_apartOf_19 : fnD cX11_apartOf 19 (.iload_n 1) 1 20 := by decide +kernel
theorem dX11_apartOf_20 : fnD cX11_apartOf 20 (.invokevirtual 278) 3 23 := by decide +kernel
theorem dX11_apartOf_23 : fnD cX11_apartOf 23 (.aload_n 0) 1 24 := by decide +kernel
theorem dX11_apartOf_24 : fnD cX11_apartOf 24 (.iload_n 1) 1 25 := by decide +kernel
theorem dX11_apartOf_25 : fnD cX11_apartOf 25 (.invokevirtual 281) 3 28 := by decide +kernel
theorem dX11_apartOf_28 : fnD cX11_apartOf 28 (.invokestatic 151) 3 31 := by decide +kernel
theorem dX11_apartOf_31 : fnD cX11_apartOf 31 (.ireturn) 1 32 := by decide +kernel
theorem dX11_about_0 : fnD cX11_about 0 (.aload_n 0) 1 1 := by decide +kernel
theorem dX11_about_1 : fnD cX11_about 1 (.iconst 0) 1 2 := by decide +kernel
theorem dX11_about_2 : fnD cX11_about 2 (.putfield 96) 3 5 := by decide +kernel
theorem dX11_about_5 : fnD cX11_about 5 (.iload_n 1) 1 6 := by decide +kernel
theorem dX11_about_6 : fnD cX11_about 6 (.i2l) 1 7 := by decide +kernel
theorem dX11_about_7 : fnD cX11_about 7 (.lconst 0) 1 8 := by decide +kernel
theorem dX11_about_8 : fnD cX11_about 8 (.aload_n 0) 1 9 := by decide +kernel
theorem dX11_about_9 : fnD cX11_about 9 (.getfield 272) 3 12 := by decide +kernel
theorem dX11_about_12 : fnD cX11_about 12 (.iconst 1) 1 13 := by decide +kernel
theorem dX11_about_13 : fnD cX11_about 13 (.isub) 1 14 := by decide +kernel
theorem dX11_about_14 : fnD cX11_about 14 (.i2l) 1 15 := by decide +kernel
theorem dX11_about_15 : fnD cX11_about 15 (.invokestatic 117) 3 18 := by decide +kernel
theorem dX11_about_18 : fnIf cX11_about 18 .ne 25 21 := by decide +kernel
theorem dX11_about_21 : fnD cX11_about 21 (.sipush (-2001)) 3 24 := by decide +kernel
theorem dX11_about_24 : fnD cX11_about 24 (.ireturn) 1 25 := by decide +kernel
theorem dX11_about_25 : fnD cX11_about 25 (.iload_n 2) 1 26 := by decide +kernel
theorem dX11_about_26 : fnD cX11_about 26 (.tableswitch 110 0 8 #[50, 57, 64, 71, 78, 85, 92, 98, 104]) 50 76 := by decide +kernel
theorem dX11_about_76 : fnD cX11_about 76 (.aload_n 0) 1 77 := by decide +kernel
theorem dX11_about_77 : fnD cX11_about 77 (.getfield 60) 3 80 := by decide +kernel
theorem dX11_about_80 : fnD cX11_about 80 (.iload_n 1) 1 81 := by decide +kernel
theorem dX11_about_81 : fnD cX11_about 81 (.iaload) 1 82 := by decide +kernel
theorem dX11_about_82 : fnD cX11_about 82 (.ireturn) 1 83 := by decide +kernel
theorem dX11_about_83 : fnD cX11_about 83 (.aload_n 0) 1 84 := by decide +kernel
theorem dX11_about_84 : fnD cX11_about 84 (.getfield 63) 3 87 := by decide +kernel
theorem dX11_about_87 : fnD cX11_about 87 (.iload_n 1) 1 88 := by decide +kernel
theorem dX11_about_88 : fnD cX11_about 88 (.iaload) 1 89 := by decide +kernel
theorem dX11_about_89 : fnD cX11_about 89 (.ireturn) 1 90 := by decide +kernel
theorem dX11_about_90 : fnD cX11_about 90 (.aload_n 0) 1 91 := by decide +kernel
theorem dX11_about_91 : fnD cX11_about 91 (.getfield 66) 3 94 := by decide +kernel
theorem dX11_about_94 : fnD cX11_about 94 (.iload_n 1) 1 95 := by decide +kernel
theorem dX11_about_95 : fnD cX11_about 95 (.iaload) 1 96 := by decide +kernel
theorem dX11_about_96 : fnD cX11_about 96 (.ireturn) 1 97 := by decide +kernel
theorem dX11_about_97 : fnD cX11_about 97 (.aload_n 0) 1 98 := by decide +kernel
theorem dX11_about_98 : fnD cX11_about 98 (.getfield 69) 3 101 := by decide +kernel
theorem dX11_about_101 : fnD cX11_about 101 (.iload_n 1) 1 102 := by decide +kernel
theorem dX11_about_102 : fnD cX11_about 102 (.iaload) 1 103 := by decide +kernel
theorem dX11_about_103 : fnD cX11_about 103 (.ireturn) 1 104 := by decide +kernel
theorem dX11_about_104 : fnD cX11_about 104 (.aload_n 0) 1 105 := by decide +kernel
theorem dX11_about_105 : fnD cX11_about 105 (.getfield 72) 3 108 := by decide +kernel
theorem dX11_about_108 : fnD cX11_about 108 (.iload_n 1) 1 109 := by decide +kernel
theorem dX11_about_109 : fnD cX11_about 109 (.iaload) 1 110 := by decide +kernel
theorem dX11_about_110 : fnD cX11_about 110 (.ireturn) 1 111 := by decide +kernel
theorem dX11_about_111 : fnD cX11_about 111 (.aload_n 0) 1 112 := by decide +kernel
theorem dX11_about_112 : fnD cX11_about 112 (.getfield 75) 3 115 := by decide +kernel
theorem dX11_about_115 : fnD cX11_about 115 (.iload_n 1) 1 116 := by decide +kernel
theorem dX11_about_116 : fnD cX11_about 116 (.iaload) 1 117 := by decide +kernel
theorem dX11_about_117 : fnD cX11_about 117 (.ireturn) 1 118 := by decide +kernel
theorem dX11_about_118 : fnD cX11_about 118 (.aload_n 0) 1 119 := by decide +kernel
theorem dX11_about_119 : fnD cX11_about 119 (.iload_n 1) 1 120 := by decide +kernel
theorem dX11_about_120 : fnD cX11_about 120 (.invokevirtual 278) 3 123 := by decide +kernel
theorem dX11_about_123 : fnD cX11_about 123 (.ireturn) 1 124 := by decide +kernel
theorem dX11_about_124 : fnD cX11_about 124 (.aload_n 0) 1 125 := by decide +kernel
theorem dX11_about_125 : fnD cX11_about 125 (.iload_n 1) 1 126 := by decide +kernel
theorem dX11_about_126 : fnD cX11_about 126 (.invokevirtual 284) 3 129 := by decide +kernel
theorem dX11_about_129 : fnD cX11_about 129 (.ireturn) 1 130 := by decide +kernel
theorem dX11_about_130 : fnD cX11_about 130 (.aload_n 0) 1 131 := by decide +kernel
theorem dX11_about_131 : fnD cX11_about 131 (.iload_n 1) 1 132 := by decide +kernel
theorem dX11_about_132 : fnD cX11_about 132 (.invokevirtual 287) 3 135 := by decide +kernel
theorem dX11_about_135 : fnD cX11_about 135 (.ireturn) 1 136 := by decide +kernel
theorem dX11_about_136 : fnD cX11_about 136 (.sipush (-2002)) 3 139 := by decide +kernel
theorem dX11_about_139 : fnD cX11_about 139 (.ireturn) 1 140 := by decide +kernel
theorem dX11_home_0 : fnD cX11_home 0 (.aload_n 0) 1 1 := by decide +kernel
theorem dX11_home_1 : fnD cX11_home 1 (.iconst 0) 1 2 := by decide +kernel
theorem dX11_home_2 : fnD cX11_home 2 (.putfield 96) 3 5 := by decide +kernel
theorem dX11_home_5 : fnD cX11_home 5 (.aload_n 0) 1 6 := by decide +kernel
theorem dX11_home_6 : fnD cX11_home 6 (.getfield 272) 3 9 := by decide +kernel
theorem dX11_home_9 : fnD cX11_home 9 (.istore_n 1) 1 10 := by decide +kernel
theorem dX11_home_10 : fnD cX11_home 10 (.aload_n 0) 1 11 := by decide +kernel
theorem dX11_home_11 : fnD cX11_home 11 (.iconst 0) 1 12 := by decide +kernel
theorem dX11_home_12 : fnD cX11_home 12 (.putfield 272) 3 15 := by decide +kernel
theorem dX11_home_15 : fnD cX11_home 15 (.iload_n 1) 1 16 := by decide +kernel
theorem dX11_home_16 : fnD cX11_home 16 (.ireturn) 1 17 := by decide +kernel
theorem dX11_courses_0 : fnD cX11_courses 0 (.iconst 0) 1 1 := by decide +kernel
theorem dX11_courses_1 : fnD cX11_courses 1 (.istore_n 1) 1 2 := by decide +kernel
theorem dX11_courses_2 : fnD cX11_courses 2 (.iload_n 1) 1 3 := by decide +kernel
theorem dX11_courses_3 : fnD cX11_courses 3 (.aload_n 0) 1 4 := by decide +kernel
theorem dX11_courses_4 : fnD cX11_courses 4 (.getfield 272) 3 7 := by decide +kernel
theorem dX11_courses_7 : fnIc cX11_courses 7 .ge 27 10 := by decide +kernel
theorem dX11_courses_10 : fnD cX11_courses 10 (.aload_n 0) 1 11 := by decide +kernel
theorem dX11_courses_11 : fnD cX11_courses 11 (.getfield 93) 3 14 := by decide +kernel
theorem dX11_courses_14 : fnD cX11_courses 14 (.iload_n 1) 1 15 := by decide +kernel
theorem dX11_courses_15 : fnD cX11_courses 15 (.aload_n 0) 1 16 := by decide +kernel
theorem dX11_courses_16 : fnD cX11_courses 16 (.iload_n 1) 1 17 := by decide +kernel
theorem dX11_courses_17 : fnD cX11_courses 17 (.invokevirtual 278) 3 20 := by decide +kernel
theorem dX11_courses_20 : fnD cX11_courses 20 (.iastore) 1 21 := by decide +kernel
theorem dX11_courses_21 : fnD cX11_courses 21 (.iinc 1 1) 3 24 := by decide +kernel
theorem dX11_courses_24 : fnGo cX11_courses 24 2 := by decide +kernel
theorem dX11_courses_27 : fnD cX11_courses 27 (.return_) 1 28 := by decide +kernel
theorem dX11_workedOf_0 : fnD cX11_workedOf 0 (.iconst 0) 1 1 := by decide +kernel
theorem dX11_workedOf_1 : fnD cX11_workedOf 1 (.istore 5) 2 3 := by decide +kernel
theorem dX11_workedOf_3 : fnD cX11_workedOf 3 (.iconst 0) 1 4 := by decide +kernel
theorem dX11_workedOf_4 : fnD cX11_workedOf 4 (.istore 6) 2 6 := by decide +kernel
theorem dX11_workedOf_6 : fnD cX11_workedOf 6 (.iload 6) 2 8 := by decide +kernel
theorem dX11_workedOf_8 : fnD cX11_workedOf 8 (.iload_n 1) 1 9 := by decide +kernel
theorem dX11_workedOf_9 : fnIc cX11_workedOf 9 .ge 86 12 := by decide +kernel
theorem dX11_workedOf_12 : fnD cX11_workedOf 12 (.aload_n 0) 1 13 := by decide +kernel
theorem dX11_workedOf_13 : fnD cX11_workedOf 13 (.getfield 93) 3 16 := by decide +kernel
theorem dX11_workedOf_16 : fnD cX11_workedOf 16 (.iload 6) 2 18 := by decide +kernel
theorem dX11_workedOf_18 : fnD cX11_workedOf 18 (.iaload) 1 19 := by decide +kernel
theorem dX11_workedOf_19 : fnD cX11_workedOf 19 (.aload_n 0) 1 20 := by decide +kernel
theorem dX11_workedOf_20 : fnD cX11_workedOf 20 (.getfield 60) 3 23 := by decide +kernel
theorem dX11_workedOf_23 : fnD cX11_workedOf 23 (.iload 6) 2 25 := by decide +kernel
theorem dX11_workedOf_25 : fnD cX11_workedOf 25 (.iaload) 1 26 := by decide +kernel
theorem dX11_workedOf_26 : fnD cX11_workedOf 26 (.iload_n 2) 1 27 := by decide +kernel
theorem dX11_workedOf_27 : fnIc cX11_workedOf 27 .lt 34 30 := by decide +kernel
theorem dX11_workedOf_30 : fnD cX11_workedOf 30 (.iload_n 3) 1 31 := by decide +kernel
theorem dX11_workedOf_31 : fnGo cX11_workedOf 31 35 := by decide +kernel
theorem dX11_workedOf_34 : fnD cX11_workedOf 34 (.iconst 0) 1 35 := by decide +kernel
theorem dX11_workedOf_35 : fnD cX11_workedOf 35 (.iadd) 1 36 := by decide +kernel
theorem dX11_workedOf_36 : fnD cX11_workedOf 36 (.sipush 3200) 3 39 := by decide +kernel
theorem dX11_workedOf_39 : fnD cX11_workedOf 39 (.invokestatic 101) 3 42 := by decide +kernel
theorem dX11_workedOf_42 : fnD cX11_workedOf 42 (.istore 7) 2 44 := by decide +kernel
theorem dX11_workedOf_44 : fnD cX11_workedOf 44 (.iload 5) 2 46 := by decide +kernel
theorem dX11_workedOf_46 : fnD cX11_workedOf 46 (.aload_n 0) 1 47 := by decide +kernel
theorem dX11_workedOf_47 : fnD cX11_workedOf 47 (.getfield 69) 3 50 := by decide +kernel
theorem dX11_workedOf_50 : fnD cX11_workedOf 50 (.iload 6) 2 52 := by decide +kernel
theorem dX11_workedOf_52 : fnD cX11_workedOf 52 (.iaload) 1 53 := by decide +kernel
theorem dX11_workedOf_53 : fnD cX11_workedOf 53 (.iload 4) 2 55 := by decide +kernel
theorem dX11_workedOf_55 : fnIf cX11_workedOf 55 .eq 63 58 := by decide +kernel
theorem dX11_workedOf_58 : fnD cX11_workedOf 58 (.iload 7) 2 60 := by decide +kernel
theorem dX11_workedOf_60 : fnGo cX11_workedOf 60 73 := by decide +kernel
theorem dX11_workedOf_63 : fnD cX11_workedOf 63 (.iload 7) 2 65 := by decide +kernel
theorem dX11_workedOf_65 : fnD cX11_workedOf 65 (.sipush 800) 3 68 := by decide +kernel
theorem dX11_workedOf_68 : fnD cX11_workedOf 68 (.iadd) 1 69 := by decide +kernel
theorem dX11_workedOf_69 : fnD cX11_workedOf 69 (.sipush 3200) 3 72 := by decide +kernel
theorem dX11_workedOf_72 : fnD cX11_workedOf 72 (.irem) 1 73 := by decide +kernel
theorem dX11_workedOf_73 : fnD cX11_workedOf 73 (.invokestatic 148) 3 76 := by decide +kernel
theorem dX11_workedOf_76 : fnD cX11_workedOf 76 (.imul) 1 77 := by decide +kernel
theorem dX11_workedOf_77 : fnD cX11_workedOf 77 (.iadd) 1 78 := by decide +kernel
theorem dX11_workedOf_78 : fnD cX11_workedOf 78 (.istore 5) 2 80 := by decide +kernel
theorem dX11_workedOf_80 : fnD cX11_workedOf 80 (.iinc 6 1) 3 83 := by decide +kernel
theorem dX11_workedOf_83 : fnGo cX11_workedOf 83 6 := by decide +kernel
theorem dX11_workedOf_86 : fnD cX11_workedOf 86 (.iload 5) 2 88 := by decide +kernel
theorem dX11_workedOf_88 : fnD cX11_workedOf 88 (.ireturn) 1 89 := by decide +kernel
theorem dX11_worked_0 : fnD cX11_worked 0 (.aload_n 0) 1 1 := by decide +kernel
theorem dX11_worked_1 : fnD cX11_worked 1 (.iconst 0) 1 2 := by decide +kernel
theorem dX11_worked_2 : fnD cX11_worked 2 (.putfield 96) 3 5 := by decide +kernel
theorem dX11_worked_5 : fnD cX11_worked 5 (.iload_n 1) 1 6 := by decide +kernel
theorem dX11_worked_6 : fnD cX11_worked 6 (.i2l) 1 7 := by decide +kernel
theorem dX11_worked_7 : fnD cX11_worked 7 (.lconst 0) 1 8 := by decide +kernel
theorem dX11_worked_8 : fnD cX11_worked 8 (.aload_n 0) 1 9 := by decide +kernel
theorem dX11_worked_9 : fnD cX11_worked 9 (.getfield 272) 3 12 := by decide +kernel
theorem dX11_worked_12 : fnD cX11_worked 12 (.i2l) 1 13 := by decide +kernel
theorem dX11_worked_13 : fnD cX11_worked 13 (.invokestatic 117) 3 16 := by decide +kernel
theorem dX11_worked_16 : fnIf cX11_worked 16 .ne 23 19 := by decide +kernel
theorem dX11_worked_19 : fnD cX11_worked 19 (.sipush (-2001)) 3 22 := by decide +kernel
theorem dX11_worked_22 : fnD cX11_worked 22 (.ireturn) 1 23 := by decide +kernel
theorem dX11_worked_23 : fnD cX11_worked 23 (.iload_n 2) 1 24 := by decide +kernel
theorem dX11_worked_24 : fnD cX11_worked 24 (.i2l) 1 25 := by decide +kernel
theorem dX11_worked_25 : fnD cX11_worked 25 (.lconst 0) 1 26 := by decide +kernel
theorem dX11_worked_26 : fnD cX11_worked 26 (.ldc2_w 136) 3 29 := by decide +kernel
theorem dX11_worked_29 : fnD cX11_worked 29 (.invokestatic 117) 3 32 := by decide +kernel
theorem dX11_worked_32 : fnIf cX11_worked 32 .eq 49 35 := by decide +kernel
theorem dX11_worked_35 : fnD cX11_worked 35 (.iload_n 3) 1 36 := by decide +kernel
theorem dX11_worked_36 : fnD cX11_worked 36 (.i2l) 1 37 := by decide +kernel
theorem dX11_worked_37 : fnD cX11_worked 37 (.ldc2_w 290) 3 40 := by decide +kernel
theorem dX11_worked_40 : fnD cX11_worked 40 (.ldc2_w 292) 3 43 := by decide +kernel
theorem dX11_worked_43 : fnD cX11_worked 43 (.invokestatic 117) 3 46 := by decide +kernel
theorem dX11_worked_46 : fnIf cX11_worked 46 .ne 53 49 := by decide +kernel
theorem dX11_worked_49 : fnD cX11_worked 49 (.sipush (-2002)) 3 52 := by decide +kernel
theorem dX11_worked_52 : fnD cX11_worked 52 (.ireturn) 1 53 := by decide +kernel
theorem dX11_worked_53 : fnD cX11_worked 53 (.aload_n 0) 1 54 := by decide +kernel
theorem dX11_worked_54 : fnD cX11_worked 54 (.invokevirtual 294) 3 57 := by decide +kernel
theorem dX11_worked_57 : fnD cX11_worked 57 (.aload_n 0) 1 58 := by decide +kernel
theorem dX11_worked_58 : fnD cX11_worked 58 (.iload_n 1) 1 59 := by decide +kernel
theorem dX11_worked_59 : fnD cX11_worked 59 (.iload_n 2) 1 60 := by decide +kernel
theorem dX11_worked_60 : fnD cX11_worked 60 (.iload_n 3) 1 61 := by decide +kernel
theorem dX11_worked_61 : fnD cX11_worked 61 (.iload 4) 2 63 := by decide +kernel
theorem dX11_worked_63 : fnD cX11_worked 63 (.invokevirtual 297) 3 66 := by decide +kernel
theorem dX11_worked_66 : fnD cX11_worked 66 (.ireturn) 1 67 := by decide +kernel
theorem dX11_suns_0 : fnD cX11_suns 0 (.iconst 0) 1 1 := by decide +kernel
theorem dX11_suns_1 : fnD cX11_suns 1 (.istore_n 1) 1 2 := by decide +kernel
theorem dX11_suns_2 : fnD cX11_suns 2 (.iconst 0) 1 3 := by decide +kernel
theorem dX11_suns_3 : fnD cX11_suns 3 (.istore_n 2) 1 4 := by decide +kernel
theorem dX11_suns_4 : fnD cX11_suns 4 (.iload_n 2) 1 5 := by decide +kernel
theorem dX11_suns_5 : fnD cX11_suns 5 (.aload_n 0) 1 6 := by decide +kernel
theorem dX11_suns_6 : fnD cX11_suns 6 (.getfield 272) 3 9 := by decide +kernel
theorem dX11_suns_9 : fnIc cX11_suns 9 .ge 44 12 := by decide +kernel
theorem dX11_suns_12 : fnD cX11_suns 12 (.aload_n 0) 1 13 := by decide +kernel
theorem dX11_suns_13 : fnD cX11_suns 13 (.getfield 75) 3 16 := by decide +kernel
theorem dX11_suns_16 : fnD cX11_suns 16 (.iload_n 2) 1 17 := by decide +kernel
theorem dX11_suns_17 : fnD cX11_suns 17 (.iaload) 1 18 := by decide +kernel
theorem dX11_suns_18 : fnD cX11_suns 18 (.sipush (-2009)) 3 21 := by decide +kernel
theorem dX11_suns_21 : fnIc cX11_suns 21 .eq 38 24 := by decide +kernel
theorem dX11_suns_24 : fnD cX11_suns 24 (.aload_n 0) 1 25 := by decide +kernel
theorem dX11_suns_25 : fnD cX11_suns 25 (.getfield 87) 3 28 := by decide +kernel
theorem dX11_suns_28 : fnD cX11_suns 28 (.iload_n 1) 1 29 := by decide +kernel
theorem dX11_suns_29 : fnD cX11_suns 29 (.aload_n 0) 1 30 := by decide +kernel
theorem dX11_suns_30 : fnD cX11_suns 30 (.iload_n 2) 1 31 := by decide +kernel
theorem dX11_suns_31 : fnD cX11_suns 31 (.invokevirtual 284) 3 34 := by decide +kernel
theorem dX11_suns_34 : fnD cX11_suns 34 (.iastore) 1 35 := by decide +kernel
theorem dX11_suns_35 : fnD cX11_suns 35 (.iinc 1 1) 3 38 := by decide +kernel
theorem dX11_suns_38 : fnD cX11_suns 38 (.iinc 2 1) 3 41 := by decide +kernel
theorem dX11_suns_41 : fnGo cX11_suns 41 4 := by decide +kernel
theorem dX11_suns_44 : fnD cX11_suns 44 (.iload_n 1) 1 45 := by decide +kernel
theorem dX11_suns_45 : fnD cX11_suns 45 (.ireturn) 1 46 := by decide +kernel
theorem dX11_middle_0 : fnD cX11_middle 0 (.iconst 0) 1 1 := by decide +kernel
theorem dX11_middle_1 : fnD cX11_middle 1 (.istore_n 3) 1 2 := by decide +kernel
theorem dX11_middle_2 : fnD cX11_middle 2 (.iload_n 1) 1 3 := by decide +kernel
theorem dX11_middle_3 : fnD cX11_middle 3 (.istore 4) 2 5 := by decide +kernel
theorem dX11_middle_5 : fnD cX11_middle 5 (.iload 4) 2 7 := by decide +kernel
theorem dX11_middle_7 : fnD cX11_middle 7 (.iload_n 2) 1 8 := by decide +kernel
theorem dX11_middle_8 : fnIc cX11_middle 8 .ge 83 11 := by decide +kernel
theorem dX11_middle_11 : fnD cX11_middle 11 (.iload_n 3) 1 12 := by decide +kernel
theorem dX11_middle_12 : fnD cX11_middle 12 (.istore 5) 2 14 := by decide +kernel
theorem dX11_middle_14 : fnD cX11_middle 14 (.iload 5) 2 16 := by decide +kernel
theorem dX11_middle_16 : fnIf cX11_middle 16 .le 60 19 := by decide +kernel
theorem dX11_middle_19 : fnD cX11_middle 19 (.aload_n 0) 1 20 := by decide +kernel
theorem dX11_middle_20 : fnD cX11_middle 20 (.getfield 90) 3 23 := by decide +kernel
theorem dX11_middle_23 : fnD cX11_middle 23 (.iload 5) 2 25 := by decide +kernel
theorem dX11_middle_25 : fnD cX11_middle 25 (.iconst 1) 1 26 := by decide +kernel
theorem dX11_middle_26 : fnD cX11_middle 26 (.isub) 1 27 := by decide +kernel
theorem dX11_middle_27 : fnD cX11_middle 27 (.iaload) 1 28 := by decide +kernel
theorem dX11_middle_28 : fnD cX11_middle 28 (.aload_n 0) 1 29 := by decide +kernel
theorem dX11_middle_29 : fnD cX11_middle 29 (.getfield 87) 3 32 := by decide +kernel
theorem dX11_middle_32 : fnD cX11_middle 32 (.iload 4) 2 34 := by decide +kernel
theorem dX11_middle_34 : fnD cX11_middle 34 (.iaload) 1 35 := by decide +kernel
theorem dX11_middle_35 : fnIc cX11_middle 35 .le 60 38 := by decide +kernel
theorem dX11_middle_38 : fnD cX11_middle 38 (.aload_n 0) 1 39 := by decide +kernel
theorem dX11_middle_39 : fnD cX11_middle 39 (.getfield 90) 3 42 := by decide +kernel
theorem dX11_middle_42 : fnD cX11_middle 42 (.iload 5) 2 44 := by decide +kernel
theorem dX11_middle_44 : fnD cX11_middle 44 (.aload_n 0) 1 45 := by decide +kernel
theorem dX11_middle_45 : fnD cX11_middle 45 (.getfield 90) 3 48 := by decide +kernel
theorem dX11_middle_48 : fnD cX11_middle 48 (.iload 5) 2 50 := by decide +kernel
theorem dX11_middle_50 : fnD cX11_middle 50 (.iconst 1) 1 51 := by decide +kernel
theorem dX11_middle_51 : fnD cX11_middle 51 (.isub) 1 52 := by decide +kernel
theorem dX11_middle_52 : fnD cX11_middle 52 (.iaload) 1 53 := by decide +kernel
theorem dX11_middle_53 : fnD cX11_middle 53 (.iastore) 1 54 := by decide +kernel
theorem dX11_middle_54 : fnD cX11_middle 54 (.iinc 5 (-1)) 3 57 := by decide +kernel
theorem dX11_middle_57 : fnGo cX11_middle 57 14 := by decide +kernel
theorem dX11_middle_60 : fnD cX11_middle 60 (.aload_n 0) 1 61 := by decide +kernel
theorem dX11_middle_61 : fnD cX11_middle 61 (.getfield 90) 3 64 := by decide +kernel
theorem dX11_middle_64 : fnD cX11_middle 64 (.iload 5) 2 66 := by decide +kernel
theorem dX11_middle_66 : fnD cX11_middle 66 (.aload_n 0) 1 67 := by decide +kernel
theorem dX11_middle_67 : fnD cX11_middle 67 (.getfield 87) 3 70 := by decide +kernel
theorem dX11_middle_70 : fnD cX11_middle 70 (.iload 4) 2 72 := by decide +kernel
theorem dX11_middle_72 : fnD cX11_middle 72 (.iaload) 1 73 := by decide +kernel
theorem dX11_middle_73 : fnD cX11_middle 73 (.iastore) 1 74 := by decide +kernel
theorem dX11_middle_74 : fnD cX11_middle 74 (.iinc 3 1) 3 77 := by decide +kernel
theorem dX11_middle_77 : fnD cX11_middle 77 (.iinc 4 1) 3 80 := by decide +kernel
theorem dX11_middle_80 : fnGo cX11_middle 80 5 := by decide +kernel
theorem dX11_middle_83 : fnD cX11_middle 83 (.aload_n 0) 1 84 := by decide +kernel
theorem dX11_middle_84 : fnD cX11_middle 84 (.getfield 90) 3 87 := by decide +kernel
theorem dX11_middle_87 : fnD cX11_middle 87 (.iload_n 3) 1 88 := by decide +kernel
theorem dX11_middle_88 : fnD cX11_middle 88 (.iconst 1) 1 89 := by decide +kernel
theorem dX11_middle_89 : fnD cX11_middle 89 (.isub) 1 90 := by decide +kernel
theorem dX11_middle_90 : fnD cX11_middle 90 (.iconst 2) 1 91 := by decide +kernel
theorem dX11_middle_91 : fnD cX11_middle 91 (.idiv) 1 92 := by decide +kernel
theorem dX11_middle_92 : fnD cX11_middle 92 (.iaload) 1 93 := by decide +kernel
theorem dX11_middle_93 : fnD cX11_middle 93 (.ireturn) 1 94 := by decide +kernel
theorem dX11_costOf_0 : fnD cX11_costOf 0 (.iconst 0) 1 1 := by decide +kernel
theorem dX11_costOf_1 : fnD cX11_costOf 1 (.istore_n 3) 1 2 := by decide +kernel
theorem dX11_costOf_2 : fnD cX11_costOf 2 (.iload_n 1) 1 3 := by decide +kernel
theorem dX11_costOf_3 : fnD cX11_costOf 3 (.iload_n 2) 1 4 := by decide +kernel
theorem dX11_costOf_4 : fnIc cX11_costOf 4 .ge 46 7 := by decide +kernel
theorem dX11_costOf_7 : fnD cX11_costOf 7 (.aload_n 0) 1 8 := by decide +kernel
theorem dX11_costOf_8 : fnD cX11_costOf 8 (.iload_n 1) 1 9 := by decide +kernel
theorem dX11_costOf_9 : fnD cX11_costOf 9 (.iload_n 2) 1 10 := by decide +kernel
theorem dX11_costOf_10 : fnD cX11_costOf 10 (.invokevirtual 301) 3 13 := by decide +kernel
theorem dX11_costOf_13 : fnD cX11_costOf 13 (.istore 4) 2 15 := by decide +kernel
theorem dX11_costOf_15 : fnD cX11_costOf 15 (.iload_n 1) 1 16 := by decide +kernel
theorem dX11_costOf_16 : fnD cX11_costOf 16 (.istore 5) 2 18 := by decide +kernel
theorem dX11_costOf_18 : fnD cX11_costOf 18 (.iload 5) 2 20 := by decide +kernel
theorem dX11_costOf_20 : fnD cX11_costOf 20 (.iload_n 2) 1 21 := by decide +kernel
theorem dX11_costOf_21 : fnIc cX11_costOf 21 .ge 46 24 := by decide +kernel
theorem dX11_costOf_24 : fnD cX11_costOf 24 (.iload_n 3) 1 25 := by decide +kernel
theorem dX11_costOf_25 : fnD cX11_costOf 25 (.aload_n 0) 1 26 := by decide +kernel
theorem dX11_costOf_26 : fnD cX11_costOf 26 (.getfield 87) 3 29 := by decide +kernel
theorem dX11_costOf_29 : fnD cX11_costOf 29 (.iload 5) 2 31 := by decide +kernel
theorem dX11_costOf_31 : fnD cX11_costOf 31 (.iaload) 1 32 := by decide +kernel
theorem dX11_costOf_32 : fnD cX11_costOf 32 (.iload 4) 2 34 := by decide +kernel
theorem dX11_costOf_34 : fnD cX11_costOf 34 (.isub) 1 35 := by decide +kernel
theorem dX11_costOf_35 : fnD cX11_costOf 35 (.invokestatic 178) 3 38 := by decide +kernel
theorem dX11_costOf_38 : fnD cX11_costOf 38 (.iadd) 1 39 := by decide +kernel
theorem dX11_costOf_39 : fnD cX11_costOf 39 (.istore_n 3) 1 40 := by decide +kernel
theorem dX11_costOf_40 : fnD cX11_costOf 40 (.iinc 5 1) 3 43 := by decide +kernel
theorem dX11_costOf_43 : fnGo cX11_costOf 43 18 := by decide +kernel
theorem dX11_costOf_46 : fnD cX11_costOf 46 (.iload_n 3) 1 47 := by decide +kernel
theorem dX11_costOf_47 : fnD cX11_costOf 47 (.ireturn) 1 48 := by decide +kernel
theorem dX11_splitOf_0 : fnD cX11_splitOf 0 (.iconst 0) 1 1 := by decide +kernel
theorem dX11_splitOf_1 : fnD cX11_splitOf 1 (.istore_n 2) 1 2 := by decide +kernel
theorem dX11_splitOf_2 : fnD cX11_splitOf 2 (.aload_n 0) 1 3 := by decide +kernel
theorem dX11_splitOf_3 : fnD cX11_splitOf 3 (.iconst 0) 1 4 := by decide +kernel
theorem dX11_splitOf_4 : fnD cX11_splitOf 4 (.iload_n 1) 1 5 := by decide +kernel
theorem dX11_splitOf_5 : fnD cX11_splitOf 5 (.invokevirtual 304) 3 8 := by decide +kernel
theorem dX11_splitOf_8 : fnD cX11_splitOf 8 (.istore_n 3) 1 9 := by decide +kernel
theorem dX11_splitOf_9 : fnD cX11_splitOf 9 (.iconst 1) 1 10 := by decide +kernel
theorem dX11_splitOf_10 : fnD cX11_splitOf 10 (.istore 4) 2 12 := by decide +kernel
theorem dX11_splitOf_12 : fnD cX11_splitOf 12 (.iload 4) 2 14 := by decide +kernel
theorem dX11_splitOf_14 : fnD cX11_splitOf 14 (.iload_n 1) 1 15 := by decide +kernel
theorem dX11_splitOf_15 : fnIc cX11_splitOf 15 .gt 53 18 := by decide +kernel
theorem dX11_splitOf_18 : fnD cX11_splitOf 18 (.aload_n 0) 1 19 := by decide +kernel
theorem dX11_splitOf_19 : fnD cX11_splitOf 19 (.iconst 0) 1 20 := by decide +kernel
theorem dX11_splitOf_20 : fnD cX11_splitOf 20 (.iload 4) 2 22 := by decide +kernel
theorem dX11_splitOf_22 : fnD cX11_splitOf 22 (.invokevirtual 304) 3 25 := by decide +kernel
theorem dX11_splitOf_25 : fnD cX11_splitOf 25 (.aload_n 0) 1 26 := by decide +kernel
theorem dX11_splitOf_26 : fnD cX11_splitOf 26 (.iload 4) 2 28 := by decide +kernel
theorem dX11_splitOf_28 : fnD cX11_splitOf 28 (.iload_n 1) 1 29 := by decide +kernel
theorem dX11_splitOf_29 : fnD cX11_splitOf 29 (.invokevirtual 304) 3 32 := by decide +kernel
theorem dX11_splitOf_32 : fnD cX11_splitOf 32 (.iadd) 1 33 := by decide +kernel
theorem dX11_splitOf_33 : fnD cX11_splitOf 33 (.istore 5) 2 35 := by decide +kernel
theorem dX11_splitOf_35 : fnD cX11_splitOf 35 (.iload 5) 2 37 := by decide +kernel
theorem dX11_splitOf_37 : fnD cX11_splitOf 37 (.iload_n 3) 1 38 := by decide +kernel
theorem dX11_splitOf_38 : fnIc cX11_splitOf 38 .ge 47 41 := by decide +kernel
theorem dX11_splitOf_41 : fnD cX11_splitOf 41 (.iload 5) 2 43 := by decide +kernel
theorem dX11_splitOf_43 : fnD cX11_splitOf 43 (.istore_n 3) 1 44 := by decide +kernel
theorem dX11_splitOf_44 : fnD cX11_splitOf 44 (.iload 4) 2 46 := by decide +kernel
theorem dX11_splitOf_46 : fnD cX11_splitOf 46 (.istore_n 2) 1 47 := by decide +kernel
theorem dX11_splitOf_47 : fnD cX11_splitOf 47 (.iinc 4 1) 3 50 := by decide +kernel
theorem dX11_splitOf_50 : fnGo cX11_splitOf 50 12 := by decide +kernel
theorem dX11_splitOf_53 : fnD cX11_splitOf 53 (.iload_n 2) 1 54 := by decide +kernel
theorem dX11_splitOf_54 : fnD cX11_splitOf 54 (.ireturn) 1 55 := by decide +kernel
theorem dX11_split_0 : fnD cX11_split 0 (.aload_n 0) 1 1 := by decide +kernel
theorem dX11_split_1 : fnD cX11_split 1 (.iconst 0) 1 2 := by decide +kernel
theorem dX11_split_2 : fnD cX11_split 2 (.putfield 96) 3 5 := by decide +kernel
theorem dX11_split_5 : fnD cX11_split 5 (.aload_n 0) 1 6 := by decide +kernel
theorem dX11_split_6 : fnD cX11_split 6 (.invokevirtual 307) 3 9 := by decide +kernel
theorem dX11_split_9 : fnD cX11_split 9 (.istore_n 1) 1 10 := by decide +kernel
theorem dX11_split_10 : fnD cX11_split 10 (.iload_n 1) 1 11 := by decide +kernel
theorem dX11_split_11 : fnIf cX11_split 11 .ne 20 14 := by decide +kernel
theorem dX11_split_14 : fnD cX11_split 14 (.sipush (-2009)) 3 17 := by decide +kernel
theorem dX11_split_17 : fnGo cX11_split 17 25 := by decide +kernel
theorem dX11_split_20 : fnD cX11_split 20 (.aload_n 0) 1 21 := by decide +kernel
theorem dX11_split_21 : fnD cX11_split 21 (.iload_n 1) 1 22 := by decide +kernel
theorem dX11_split_22 : fnD cX11_split 22 (.invokevirtual 310) 3 25 := by decide +kernel
theorem dX11_split_25 : fnD cX11_split 25 (.ireturn) 1 26 := by decide +kernel
theorem dX11_splitCost_0 : fnD cX11_splitCost 0 (.aload_n 0) 1 1 := by decide +kernel
theorem dX11_splitCost_1 : fnD cX11_splitCost 1 (.iconst 0) 1 2 := by decide +kernel
theorem dX11_splitCost_2 : fnD cX11_splitCost 2 (.putfield 96) 3 5 := by decide +kernel
theorem dX11_splitCost_5 : fnD cX11_splitCost 5 (.aload_n 0) 1 6 := by decide +kernel
theorem dX11_splitCost_6 : fnD cX11_splitCost 6 (.invokevirtual 307) 3 9 := by decide +kernel
theorem dX11_splitCost_9 : fnD cX11_splitCost 9 (.istore_n 1) 1 10 := by decide +kernel
theorem dX11_splitCost_10 : fnD cX11_splitCost 10 (.iload_n 1) 1 11 := by decide +kernel
theorem dX11_splitCost_11 : fnIf cX11_splitCost 11 .ne 18 14 := by decide +kernel
theorem dX11_splitCost_14 : fnD cX11_splitCost 14 (.sipush (-2009)) 3 17 := by decide +kernel
theorem dX11_splitCost_17 : fnD cX11_splitCost 17 (.ireturn) 1 18 := by decide +kernel
theorem dX11_splitCost_18 : fnD cX11_splitCost 18 (.aload_n 0) 1 19 := by decide +kernel
theorem dX11_splitCost_19 : fnD cX11_splitCost 19 (.iload_n 1) 1 20 := by decide +kernel
theorem dX11_splitCost_20 : fnD cX11_splitCost 20 (.invokevirtual 310) 3 23 := by decide +kernel
theorem dX11_splitCost_23 : fnD cX11_splitCost 23 (.istore_n 2) 1 24 := by decide +kernel
theorem dX11_splitCost_24 : fnD cX11_splitCost 24 (.aload_n 0) 1 25 := by decide +kernel
theorem dX11_splitCost_25 : fnD cX11_splitCost 25 (.iconst 0) 1 26 := by decide +kernel
theorem dX11_splitCost_26 : fnD cX11_splitCost 26 (.iload_n 2) 1 27 := by decide +kernel
theorem dX11_splitCost_27 : fnD cX11_splitCost 27 (.invokevirtual 304) 3 30 := by decide +kernel
theorem dX11_splitCost_30 : fnD cX11_splitCost 30 (.aload_n 0) 1 31 := by decide +kernel
theorem dX11_splitCost_31 : fnD cX11_splitCost 31 (.iload_n 2) 1 32 := by decide +kernel
theorem dX11_splitCost_32 : fnD cX11_splitCost 32 (.iload_n 1) 1 33 := by decide +kernel
theorem dX11_splitCost_33 : fnD cX11_splitCost 33 (.invokevirtual 304) 3 36 := by decide +kernel
theorem dX11_splitCost_36 : fnD cX11_splitCost 36 (.iadd) 1 37 := by decide +kernel
theorem dX11_splitCost_37 : fnD cX11_splitCost 37 (.ireturn) 1 38 := by decide +kernel
theorem dX11_sunDay_0 : fnD cX11_sunDay 0 (.iconst 0) 1 1 := by decide +kernel
theorem dX11_sunDay_1 : fnD cX11_sunDay 1 (.istore_n 2) 1 2 := by decide +kernel
theorem dX11_sunDay_2 : fnD cX11_sunDay 2 (.iconst 0) 1 3 := by decide +kernel
theorem dX11_sunDay_3 : fnD cX11_sunDay 3 (.istore_n 3) 1 4 := by decide +kernel
theorem dX11_sunDay_4 : fnD cX11_sunDay 4 (.iconst 0) 1 5 := by decide +kernel
theorem dX11_sunDay_5 : fnD cX11_sunDay 5 (.istore 4) 2 7 := by decide +kernel
theorem dX11_sunDay_7 : fnD cX11_sunDay 7 (.iload 4) 2 9 := by decide +kernel
theorem dX11_sunDay_9 : fnD cX11_sunDay 9 (.aload_n 0) 1 10 := by decide +kernel
theorem dX11_sunDay_10 : fnD cX11_sunDay 10 (.getfield 272) 3 13 := by decide +kernel
theorem dX11_sunDay_13 : fnIc cX11_sunDay 13 .ge 55 16 := by decide +kernel
theorem dX11_sunDay_16 : fnD cX11_sunDay 16 (.aload_n 0) 1 17 := by decide +kernel
theorem dX11_sunDay_17 : fnD cX11_sunDay 17 (.getfield 75) 3 20 := by decide +kernel
theorem dX11_sunDay_20 : fnD cX11_sunDay 20 (.iload 4) 2 22 := by decide +kernel
theorem dX11_sunDay_22 : fnD cX11_sunDay 22 (.iaload) 1 23 := by decide +kernel
theorem dX11_sunDay_23 : fnD cX11_sunDay 23 (.sipush (-2009)) 3 26 := by decide +kernel
theorem dX11_sunDay_26 : fnIc cX11_sunDay 26 .eq 49 29 := by decide +kernel
theorem dX11_sunDay_29 : fnD cX11_sunDay 29 (.iload_n 2) 1 30 := by decide +kernel
theorem dX11_sunDay_30 : fnD cX11_sunDay 30 (.iload_n 1) 1 31 := by decide +kernel
theorem dX11_sunDay_31 : fnIc cX11_sunDay 31 .ne 44 34 := by decide +kernel
theorem dX11_sunDay_34 : fnD cX11_sunDay 34 (.aload_n 0) 1 35 := by decide +kernel
theorem dX11_sunDay_35 : fnD cX11_sunDay 35 (.getfield 60) 3 38 := by decide +kernel
theorem dX11_sunDay_38 : fnD cX11_sunDay 38 (.iload 4) 2 40 := by decide +kernel
theorem dX11_sunDay_40 : fnD cX11_sunDay 40 (.iaload) 1 41 := by decide +kernel
theorem dX11_sunDay_41 : fnGo cX11_sunDay 41 45 := by decide +kernel
theorem dX11_sunDay_44 : fnD cX11_sunDay 44 (.iload_n 3) 1 45 := by decide +kernel
theorem dX11_sunDay_45 : fnD cX11_sunDay 45 (.istore_n 3) 1 46 := by decide +kernel
theorem dX11_sunDay_46 : fnD cX11_sunDay 46 (.iinc 2 1) 3 49 := by decide +kernel
theorem dX11_sunDay_49 : fnD cX11_sunDay 49 (.iinc 4 1) 3 52 := by decide +kernel
theorem dX11_sunDay_52 : fnGo cX11_sunDay 52 7 := by decide +kernel
theorem dX11_sunDay_55 : fnD cX11_sunDay 55 (.iload_n 3) 1 56 := by decide +kernel
theorem dX11_sunDay_56 : fnD cX11_sunDay 56 (.ireturn) 1 57 := by decide +kernel
theorem dX11_jump_0 : fnD cX11_jump 0 (.aload_n 0) 1 1 := by decide +kernel
theorem dX11_jump_1 : fnD cX11_jump 1 (.iconst 0) 1 2 := by decide +kernel
theorem dX11_jump_2 : fnD cX11_jump 2 (.putfield 96) 3 5 := by decide +kernel
theorem dX11_jump_5 : fnD cX11_jump 5 (.iload_n 1) 1 6 := by decide +kernel
theorem dX11_jump_6 : fnD cX11_jump 6 (.i2l) 1 7 := by decide +kernel
theorem dX11_jump_7 : fnD cX11_jump 7 (.lconst 0) 1 8 := by decide +kernel
theorem dX11_jump_8 : fnD cX11_jump 8 (.ldc2_w 99) 3 11 := by decide +kernel
theorem dX11_jump_11 : fnD cX11_jump 11 (.invokestatic 117) 3 14 := by decide +kernel
theorem dX11_jump_14 : fnIf cX11_jump 14 .ne 21 17 := by decide +kernel
theorem dX11_jump_17 : fnD cX11_jump 17 (.sipush (-2002)) 3 20 := by decide +kernel
theorem dX11_jump_20 : fnD cX11_jump 20 (.ireturn) 1 21 := by decide +kernel
theorem dX11_jump_21 : fnD cX11_jump 21 (.aload_n 0) 1 22 := by decide +kernel
theorem dX11_jump_22 : fnD cX11_jump 22 (.invokevirtual 307) 3 25 := by decide +kernel
theorem dX11_jump_25 : fnD cX11_jump 25 (.istore_n 2) 1 26 := by decide +kernel
theorem dX11_jump_26 : fnD cX11_jump 26 (.iload_n 2) 1 27 := by decide +kernel
theorem dX11_jump_27 : fnIf cX11_jump 27 .ne 34 30 := by decide +kernel
theorem dX11_jump_30 : fnD cX11_jump 30 (.iconst 0) 1 31 := by decide +kernel
theorem dX11_jump_31 : fnGo cX11_jump 31 39 := by decide +kernel
theorem dX11_jump_34 : fnD cX11_jump 34 (.aload_n 0) 1 35 := by decide +kernel
theorem dX11_jump_35 : fnD cX11_jump 35 (.iload_n 2) 1 36 := by decide +kernel
theorem dX11_jump_36 : fnD cX11_jump 36 (.invokevirtual 310) 3 39 := by decide +kernel
theorem dX11_jump_39 : fnD cX11_jump 39 (.istore_n 3) 1 40 := by decide +kernel
theorem dX11_jump_40 : fnD cX11_jump 40 (.iload_n 3) 1 41 := by decide +kernel
theorem dX11_jump_41 : fnIf cX11_jump 41 .eq 49 44 := by decide +kernel
theorem dX11_jump_44 : fnD cX11_jump 44 (.iload_n 3) 1 45 := by decide +kernel
theorem dX11_jump_45 : fnD cX11_jump 45 (.iload_n 2) 1 46 := by decide +kernel
theorem dX11_jump_46 : fnIc cX11_jump 46 .ne 53 49 := by decide +kernel
theorem dX11_jump_49 : fnD cX11_jump 49 (.sipush (-2009)) 3 52 := by decide +kernel
theorem dX11_jump_52 : fnD cX11_jump 52 (.ireturn) 1 53 := by decide +kernel
theorem dX11_jump_53 : fnD cX11_jump 53 (.iload_n 1) 1 54 := by decide +kernel
theorem dX11_jump_54 : fnIf cX11_jump 54 .le 74 57 := by decide +kernel
theorem dX11_jump_57 : fnD cX11_jump 57 (.aload_n 0) 1 58 := by decide +kernel
theorem dX11_jump_58 : fnD cX11_jump 58 (.iload_n 1) 1 59 := by decide +kernel
theorem dX11_jump_59 : fnD cX11_jump 59 (.iconst 1) 1 60 := by decide +kernel
theorem dX11_jump_60 : fnIc cX11_jump 60 .ne 69 63 := by decide +kernel
theorem dX11_jump_63 : fnD cX11_jump 63 (.iload_n 3) 1 64 := by decide +kernel
theorem dX11_jump_64 : fnD cX11_jump 64 (.iconst 1) 1 65 := by decide +kernel
theorem dX11_jump_65 : fnD cX11_jump 65 (.isub) 1 66 := by decide +kernel
theorem dX11_jump_66 : fnGo cX11_jump 66 70 := by decide +kernel
theorem dX11_jump_69 : fnD cX11_jump 69 (.iload_n 3) 1 70 := by decide +kernel
theorem dX11_jump_70 : fnD cX11_jump 70 (.invokevirtual 313) 3 73 := by decide +kernel
theorem dX11_jump_73 : fnD cX11_jump 73 (.ireturn) 1 74 := by decide +kernel
theorem dX11_jump_74 : fnD cX11_jump 74 (.aload_n 0) 1 75 := by decide +kernel
theorem dX11_jump_75 : fnD cX11_jump 75 (.iconst 0) 1 76 := by decide +kernel
theorem dX11_jump_76 : fnD cX11_jump 76 (.iload_n 3) 1 77 := by decide +kernel
theorem dX11_jump_77 : fnD cX11_jump 77 (.invokevirtual 301) 3 80 := by decide +kernel
theorem dX11_jump_80 : fnD cX11_jump 80 (.istore 4) 2 82 := by decide +kernel
theorem dX11_jump_82 : fnD cX11_jump 82 (.aload_n 0) 1 83 := by decide +kernel
theorem dX11_jump_83 : fnD cX11_jump 83 (.iload_n 3) 1 84 := by decide +kernel
theorem dX11_jump_84 : fnD cX11_jump 84 (.iload_n 2) 1 85 := by decide +kernel
theorem dX11_jump_85 : fnD cX11_jump 85 (.invokevirtual 301) 3 88 := by decide +kernel
theorem dX11_jump_88 : fnD cX11_jump 88 (.iload 4) 2 90 := by decide +kernel
theorem dX11_jump_90 : fnD cX11_jump 90 (.isub) 1 91 := by decide +kernel
theorem dX11_jump_91 : fnD cX11_jump 91 (.ireturn) 1 92 := by decide +kernel
theorem dX11_firstApart_0 : fnD cX11_firstApart 0 (.aload_n 0) 1 1 := by decide +kernel
theorem dX11_firstApart_1 : fnD cX11_firstApart 1 (.iconst 0) 1 2 := by decide +kernel
theorem dX11_firstApart_2 : fnD cX11_firstApart 2 (.putfield 96) 3 5 := by decide +kernel
theorem dX11_firstApart_5 : fnD cX11_firstApart 5 (.iload_n 1) 1 6 := by decide +kernel
theorem dX11_firstApart_6 : fnD cX11_firstApart 6 (.i2l) 1 7 := by decide +kernel
theorem dX11_firstApart_7 : fnD cX11_firstApart 7 (.lconst 0) 1 8 := by decide +kernel
theorem dX11_firstApart_8 : fnD cX11_firstApart 8 (.ldc2_w 316) 3 11 := by decide +kernel
theorem dX11_firstApart_11 : fnD cX11_firstApart 11 (.invokestatic 117) 3 14 := by decide +kernel
theorem dX11_firstApart_14 : fnIf cX11_firstApart 14 .ne 21 17 := by decide +kernel
theorem dX11_firstApart_17 : fnD cX11_firstApart 17 (.sipush (-2002)) 3 20 := by decide +kernel
theorem dX11_firstApart_20 : fnD cX11_firstApart 20 (.ireturn) 1 21 := by decide +kernel
theorem dX11_firstApart_21 : fnD cX11_firstApart 21 (.iconst 0) 1 22 := by decide +kernel
theorem dX11_firstApart_22 : fnD cX11_firstApart 22 (.istore_n 2) 1 23 := by decide +kernel
theorem dX11_firstApart_23 : fnD cX11_firstApart 23 (.iload_n 2) 1 24 := by decide +kernel
theorem dX11_firstApart_24 : fnD cX11_firstApart 24 (.aload_n 0) 1 25 := by decide +kernel
theorem dX11_firstApart_25 : fnD cX11_firstApart 25 (.getfield 272) 3 28 := by decide +kernel
theorem dX11_firstApart_28 : fnIc cX11_firstApart 28 .ge 63 31 := by decide +kernel
theorem dX11_firstApart_31 : fnD cX11_firstApart 31 (.aload_n 0) 1 32 := by decide +kernel
theorem dX11_firstApart_32 : fnD cX11_firstApart 32 (.getfield 72) 3 35 := by decide +kernel
theorem dX11_firstApart_35 : fnD cX11_firstApart 35 (.iload_n 2) 1 36 := by decide +kernel
theorem dX11_firstApart_36 : fnD cX11_firstApart 36 (.iaload) 1 37 := by decide +kernel
theorem dX11_firstApart_37 : fnD cX11_firstApart 37 (.sipush (-2009)) 3 40 := by decide +kernel
theorem dX11_firstApart_40 : fnIc cX11_firstApart 40 .eq 57 43 := by decide +kernel
theorem dX11_firstApart_43 : fnD cX11_firstApart 43 (.aload_n 0) 1 44 := by decide +kernel
theorem dX11_firstApart_44 : fnD cX11_firstApart 44 (.iload_n 2) 1 45 := by decide +kernel
theorem dX11_firstApart_45 : fnD cX11_firstApart 45 (.invokevirtual 287) 3 48 := by decide +kernel
theorem dX11_firstApart_48 : fnD cX11_firstApart 48 (.invokestatic 178) 3 51 := by decide +kernel
theorem dX11_firstApart_51 : fnD cX11_firstApart 51 (.iload_n 1) 1 52 := by decide +kernel
theorem dX11_firstApart_52 : fnIc cX11_firstApart 52 .le 57 55 := by decide +kernel
theorem dX11_firstApart_55 : fnD cX11_firstApart 55 (.iload_n 2) 1 56 := by decide +kernel
theorem dX11_firstApart_56 : fnD cX11_firstApart 56 (.ireturn) 1 57 := by decide +kernel
theorem dX11_firstApart_57 : fnD cX11_firstApart 57 (.iinc 2 1) 3 60 := by decide +kernel
theorem dX11_firstApart_60 : fnGo cX11_firstApart 60 23 := by decide +kernel
theorem dX11_firstApart_63 : fnD cX11_firstApart 63 (.sipush (-2009)) 3 66 := by decide +kernel
theorem dX11_firstApart_66 : fnD cX11_firstApart 66 (.ireturn) 1 67 := by decide +kernel
theorem dX11_nearer_0 : fnD cX11_nearer 0 (.aload_n 0) 1 1 := by decide +kernel
theorem dX11_nearer_1 : fnD cX11_nearer 1 (.iconst 0) 1 2 := by decide +kernel
theorem dX11_nearer_2 : fnD cX11_nearer 2 (.putfield 96) 3 5 := by decide +kernel
theorem dX11_nearer_5 : fnD cX11_nearer 5 (.iload_n 1) 1 6 := by decide +kernel
theorem dX11_nearer_6 : fnD cX11_nearer 6 (.i2l) 1 7 := by decide +kernel
theorem dX11_nearer_7 : fnD cX11_nearer 7 (.lconst 0) 1 8 := by decide +kernel
theorem dX11_nearer_8 : fnD cX11_nearer 8 (.aload_n 0) 1 9 := by decide +kernel
theorem dX11_nearer_9 : fnD cX11_nearer 9 (.getfield 272) 3 12 := by decide +kernel
theorem dX11_nearer_12 : fnD cX11_nearer 12 (.iconst 1) 1 13 := by decide +kernel
theorem dX11_nearer_13 : fnD cX11_nearer 13 (.isub) 1 14 := by decide +kernel
theorem dX11_nearer_14 : fnD cX11_nearer 14 (.i2l) 1 15 := by decide +kernel
theorem dX11_nearer_15 : fnD cX11_nearer 15 (.invokestatic 117) 3 18 := by decide +kernel
theorem dX11_nearer_18 : fnIf cX11_nearer 18 .ne 25 21 := by decide +kernel
theorem dX11_nearer_21 : fnD cX11_nearer 21 (.sipush (-2001)) 3 24 := by decide +kernel
theorem dX11_nearer_24 : fnD cX11_nearer 24 (.ireturn) 1 25 := by decide +kernel
theorem dX11_nearer_25 : fnD cX11_nearer 25 (.aload_n 0) 1 26 := by decide +kernel
theorem dX11_nearer_26 : fnD cX11_nearer 26 (.getfield 75) 3 29 := by decide +kernel
theorem dX11_nearer_29 : fnD cX11_nearer 29 (.iload_n 1) 1 30 := by decide +kernel
theorem dX11_nearer_30 : fnD cX11_nearer 30 (.iaload) 1 31 := by decide +kernel
theorem dX11_nearer_31 : fnD cX11_nearer 31 (.sipush (-2009)) 3 34 := by decide +kernel
theorem dX11_nearer_34 : fnIc cX11_nearer 34 .eq 49 37 := by decide +kernel
theorem dX11_nearer_37 : fnD cX11_nearer 37 (.aload_n 0) 1 38 := by decide +kernel
theorem dX11_nearer_38 : fnD cX11_nearer 38 (.getfield 72) 3 41 := by decide +kernel
theorem dX11_nearer_41 : fnD cX11_nearer 41 (.iload_n 1) 1 42 := by decide +kernel
theorem dX11_nearer_42 : fnD cX11_nearer 42 (.iaload) 1 43 := by decide +kernel
theorem dX11_nearer_43 : fnD cX11_nearer 43 (.sipush (-2009)) 3 46 := by decide +kernel
theorem dX11_nearer_46 : fnIc cX11_nearer 46 .ne 53 49 := by decide +kernel
theorem dX11_nearer_49 : fnD cX11_nearer 49 (.sipush (-2003)) 3 52 := by decide +kernel
theorem dX11_nearer_52 : fnD cX11_nearer 52 (.ireturn) 1 53 := by decide +kernel
theorem dX11_nearer_53 : fnD cX11_nearer 53 (.aload_n 0) 1 54 := by decide +kernel
theorem dX11_nearer_54 : fnD cX11_nearer 54 (.getfield 63) 3 57 := by decide +kernel
theorem dX11_nearer_57 : fnD cX11_nearer 57 (.iload_n 1) 1 58 := by decide +kernel
theorem dX11_nearer_58 : fnD cX11_nearer 58 (.iaload) 1 59 := by decide +kernel
theorem dX11_nearer_59 : fnD cX11_nearer 59 (.aload_n 0) 1 60 := by decide +kernel
theorem dX11_nearer_60 : fnD cX11_nearer 60 (.getfield 75) 3 63 := by decide +kernel
theorem dX11_nearer_63 : fnD cX11_nearer 63 (.iload_n 1) 1 64 := by decide +kernel
theorem dX11_nearer_64 : fnD cX11_nearer 64 (.iaload) 1 65 := by decide +kernel
theorem dX11_nearer_65 : fnD cX11_nearer 65 (.iadd) 1 66 := by decide +kernel
theorem dX11_nearer_66 : fnD cX11_nearer 66 (.sipush 3200) 3 69 := by decide +kernel
theorem dX11_nearer_69 : fnD cX11_nearer 69 (.invokestatic 101) 3 72 := by decide +kernel
theorem dX11_nearer_72 : fnD cX11_nearer 72 (.istore_n 2) 1 73 := by decide +kernel
theorem dX11_nearer_73 : fnD cX11_nearer 73 (.aload_n 0) 1 74 := by decide +kernel
theorem dX11_nearer_74 : fnD cX11_nearer 74 (.iload_n 1) 1 75 := by decide +kernel
theorem dX11_nearer_75 : fnD cX11_nearer 75 (.invokevirtual 278) 3 78 := by decide +kernel
theorem dX11_nearer_78 : fnD cX11_nearer 78 (.iload_n 2) 1 79 := by decide +kernel
theorem dX11_nearer_79 : fnD cX11_nearer 79 (.invokestatic 151) 3 82 := by decide +kernel
theorem dX11_nearer_82 : fnD cX11_nearer 82 (.invokestatic 178) 3 85 := by decide +kernel
theorem dX11_nearer_85 : fnD cX11_nearer 85 (.istore_n 3) 1 86 := by decide +kernel
theorem dX11_nearer_86 : fnD cX11_nearer 86 (.aload_n 0) 1 87 := by decide +kernel
theorem dX11_nearer_87 : fnD cX11_nearer 87 (.iload_n 1) 1 88 := by decide +kernel
theorem dX11_nearer_88 : fnD cX11_nearer 88 (.invokevirtual 281) 3 91 := by decide +kernel
theorem dX11_nearer_91 : fnD cX11_nearer 91 (.iload_n 2) 1 92 := by decide +kernel
theorem dX11_nearer_92 : fnD cX11_nearer 92 (.invokestatic 151) 3 95 := by decide +kernel
theorem dX11_nearer_95 : fnD cX11_nearer 95 (.invokestatic 178) 3 98 := by decide +kernel
theorem dX11_nearer_98 : fnD cX11_nearer 98 (.istore 4) 2 100 := by decide +kernel
theorem dX11_nearer_100 : fnD cX11_nearer 100 (.iload_n 3) 1 101 := by decide +kernel
theorem dX11_nearer_101 : fnD cX11_nearer 101 (.iload 4) 2 103 := by decide +kernel
theorem dX11_nearer_103 : fnIc cX11_nearer 103 .ge 110 106 := by decide +kernel
theorem dX11_nearer_106 : fnD cX11_nearer 106 (.iconst 0) 1 107 := by decide +kernel
theorem dX11_nearer_107 : fnGo cX11_nearer 107 121 := by decide +kernel
theorem dX11_nearer_110 : fnD cX11_nearer 110 (.iload 4) 2 112 := by decide +kernel
theorem dX11_nearer_112 : fnD cX11_nearer 112 (.iload_n 3) 1 113 := by decide +kernel
theorem dX11_nearer_113 : fnIc cX11_nearer 113 .ge 120 116 := by decide +kernel
theorem dX11_nearer_116 : fnD cX11_nearer 116 (.iconst 1) 1 117 := by decide +kernel
theorem dX11_nearer_117 : fnGo cX11_nearer 117 121 := by decide +kernel
theorem dX11_nearer_120 : fnD cX11_nearer 120 (.iconst 2) 1 121 := by decide +kernel
theorem dX11_nearer_121 : fnD cX11_nearer 121 (.ireturn) 1 122 := by decide +kernel
theorem dX11_wreck_0 : fnD cX11_wreck 0 (.aload_n 0) 1 1 := by decide +kernel
theorem dX11_wreck_1 : fnD cX11_wreck 1 (.iconst 0) 1 2 := by decide +kernel
theorem dX11_wreck_2 : fnD cX11_wreck 2 (.putfield 96) 3 5 := by decide +kernel
theorem dX11_wreck_5 : fnD cX11_wreck 5 (.iload_n 1) 1 6 := by decide +kernel
theorem dX11_wreck_6 : fnD cX11_wreck 6 (.i2l) 1 7 := by decide +kernel
theorem dX11_wreck_7 : fnD cX11_wreck 7 (.ldc2_w 250) 3 10 := by decide +kernel
theorem dX11_wreck_10 : fnD cX11_wreck 10 (.ldc2_w 248) 3 13 := by decide +kernel
theorem dX11_wreck_13 : fnD cX11_wreck 13 (.invokestatic 117) 3 16 := by decide +kernel
theorem dX11_wreck_16 : fnIf cX11_wreck 16 .eq 45 19 := by decide +kernel
theorem dX11_wreck_19 : fnD cX11_wreck 19 (.iload_n 2) 1 20 := by decide +kernel
theorem dX11_wreck_20 : fnD cX11_wreck 20 (.i2l) 1 21 := by decide +kernel
theorem dX11_wreck_21 : fnD cX11_wreck 21 (.ldc2_w 250) 3 24 := by decide +kernel
theorem dX11_wreck_24 : fnD cX11_wreck 24 (.ldc2_w 248) 3 27 := by decide +kernel
theorem dX11_wreck_27 : fnD cX11_wreck 27 (.invokestatic 117) 3 30 := by decide +kernel
theorem dX11_wreck_30 : fnIf cX11_wreck 30 .eq 45 33 := by decide +kernel
theorem dX11_wreck_33 : fnD cX11_wreck 33 (.iload_n 3) 1 34 := by decide +kernel
theorem dX11_wreck_34 : fnD cX11_wreck 34 (.i2l) 1 35 := by decide +kernel
theorem dX11_wreck_35 : fnD cX11_wreck 35 (.lconst 0) 1 36 := by decide +kernel
theorem dX11_wreck_36 : fnD cX11_wreck 36 (.ldc2_w 99) 3 39 := by decide +kernel
theorem dX11_wreck_39 : fnD cX11_wreck 39 (.invokestatic 117) 3 42 := by decide +kernel
theorem dX11_wreck_42 : fnIf cX11_wreck 42 .ne 49 45 := by decide +kernel
theorem dX11_wreck_45 : fnD cX11_wreck 45 (.sipush (-2002)) 3 48 := by decide +kernel
theorem dX11_wreck_48 : fnD cX11_wreck 48 (.ireturn) 1 49 := by decide +kernel
theorem dX11_wreck_49 : fnD cX11_wreck 49 (.aload_n 0) 1 50 := by decide +kernel
theorem dX11_wreck_50 : fnD cX11_wreck 50 (.getfield 272) 3 53 := by decide +kernel
theorem dX11_wreck_53 : fnIf cX11_wreck 53 .ne 60 56 := by decide +kernel
theorem dX11_wreck_56 : fnD cX11_wreck 56 (.sipush (-2009)) 3 59 := by decide +kernel
theorem dX11_wreck_59 : fnD cX11_wreck 59 (.ireturn) 1 60 := by decide +kernel
theorem dX11_wreck_60 : fnD cX11_wreck 60 (.aload_n 0) 1 61 := by decide +kernel
theorem dX11_wreck_61 : fnD cX11_wreck 61 (.invokevirtual 294) 3 64 := by decide +kernel
theorem dX11_wreck_64 : fnD cX11_wreck 64 (.iconst 0) 1 65 := by decide +kernel
theorem dX11_wreck_65 : fnD cX11_wreck 65 (.istore 4) 2 67 := by decide +kernel
theorem dX11_wreck_67 : fnD cX11_wreck 67 (.iconst 0) 1 68 := by decide +kernel
theorem dX11_wreck_68 : fnD cX11_wreck 68 (.istore 5) 2 70 := by decide +kernel
theorem dX11_wreck_70 : fnD cX11_wreck 70 (.ldc2_w 318) 3 73 := by decide +kernel
theorem dX11_wreck_73 : fnD cX11_wreck 73 (.lstore 6) 2 75 := by decide +kernel
theorem dX11_wreck_75 : fnD cX11_wreck 75 (.iconst 0) 1 76 := by decide +kernel
theorem dX11_wreck_76 : fnD cX11_wreck 76 (.istore 8) 2 78 := by decide +kernel
theorem dX11_wreck_78 : fnD cX11_wreck 78 (.iload 8) 2 80 := by decide +kernel
theorem dX11_wreck_80 : fnD cX11_wreck 80 (.aload_n 0) 1 81 := by decide +kernel
theorem dX11_wreck_81 : fnD cX11_wreck 81 (.getfield 272) 3 84 := by decide +kernel
theorem dX11_wreck_84 : fnIc cX11_wreck 84 .ge 211 87 := by decide +kernel
theorem dX11_wreck_87 : fnD cX11_wreck 87 (.sipush (-300)) 3 90 := by decide +kernel
theorem dX11_wreck_90 : fnD cX11_wreck 90 (.istore 9) 2 92 := by decide +kernel
theorem dX11_wreck_92 : fnD cX11_wreck 92 (.iload 9) 2 94 := by decide +kernel
theorem dX11_wreck_94 : fnD cX11_wreck 94 (.sipush 300) 3 97 := by decide +kernel
theorem dX11_wreck_97 : fnIc cX11_wreck 97 .gt 205 100 := by decide +kernel
theorem dX11_wreck_100 : fnD cX11_wreck 100 (.iload_n 1) 1 101 := by decide +kernel
theorem dX11_wreck_101 : fnD cX11_wreck 101 (.aload_n 0) 1 102 := by decide +kernel
theorem dX11_wreck_102 : fnD cX11_wreck 102 (.aload_n 0) 1 103 := by decide +kernel
theorem dX11_wreck_103 : fnD cX11_wreck 103 (.getfield 272) 3 106 := by decide +kernel
theorem dX11_wreck_106 : fnD cX11_wreck 106 (.aload_n 0) 1 107 := by decide +kernel
theorem dX11_wreck_107 : fnD cX11_wreck 107 (.getfield 60) 3 110 := by decide +kernel
theorem dX11_wreck_110 : fnD cX11_wreck 110 (.iload 8) 2 112 := by decide +kernel
theorem dX11_wreck_112 : fnD cX11_wreck 112 (.iaload) 1 113 := by decide +kernel
theorem dX11_wreck_113 : fnD cX11_wreck 113 (.iload 9) 2 115 := by decide +kernel
theorem dX11_wreck_115 : fnD cX11_wreck 115 (.iconst 0) 1 116 := by decide +kernel
theorem dX11_wreck_116 : fnD cX11_wreck 116 (.invokevirtual 297) 3 119 := by decide +kernel
theorem dX11_wreck_119 : fnD cX11_wreck 119 (.sipush 1000) 3 122 := by decide +kernel
theorem dX11_wreck_122 : fnD cX11_wreck 122 (.idiv) 1 123 := by decide +kernel
theorem dX11_wreck_123 : fnD cX11_wreck 123 (.isub) 1 124 := by decide +kernel
theorem dX11_wreck_124 : fnD cX11_wreck 124 (.i2l) 1 125 := by decide +kernel
theorem dX11_wreck_125 : fnD cX11_wreck 125 (.lstore 10) 2 127 := by decide +kernel
theorem dX11_wreck_127 : fnD cX11_wreck 127 (.iload_n 2) 1 128 := by decide +kernel
theorem dX11_wreck_128 : fnD cX11_wreck 128 (.aload_n 0) 1 129 := by decide +kernel
theorem dX11_wreck_129 : fnD cX11_wreck 129 (.aload_n 0) 1 130 := by decide +kernel
theorem dX11_wreck_130 : fnD cX11_wreck 130 (.getfield 272) 3 133 := by decide +kernel
theorem dX11_wreck_133 : fnD cX11_wreck 133 (.aload_n 0) 1 134 := by decide +kernel
theorem dX11_wreck_134 : fnD cX11_wreck 134 (.getfield 60) 3 137 := by decide +kernel
theorem dX11_wreck_137 : fnD cX11_wreck 137 (.iload 8) 2 139 := by decide +kernel
theorem dX11_wreck_139 : fnD cX11_wreck 139 (.iaload) 1 140 := by decide +kernel
theorem dX11_wreck_140 : fnD cX11_wreck 140 (.iload 9) 2 142 := by decide +kernel
theorem dX11_wreck_142 : fnD cX11_wreck 142 (.iconst 1) 1 143 := by decide +kernel
theorem dX11_wreck_143 : fnD cX11_wreck 143 (.invokevirtual 297) 3 146 := by decide +kernel
theorem dX11_wreck_146 : fnD cX11_wreck 146 (.sipush 1000) 3 149 := by decide +kernel
theorem dX11_wreck_149 : fnD cX11_wreck 149 (.idiv) 1 150 := by decide +kernel
theorem dX11_wreck_150 : fnD cX11_wreck 150 (.isub) 1 151 := by decide +kernel
theorem dX11_wreck_151 : fnD cX11_wreck 151 (.i2l) 1 152 := by decide +kernel
theorem dX11_wreck_152 : fnD cX11_wreck 152 (.lstore 12) 2 154 := by decide +kernel
theorem dX11_wreck_154 : fnD cX11_wreck 154 (.lload 10) 2 156 := by decide +kernel
theorem dX11_wreck_156 : fnD cX11_wreck 156 (.lload 10) 2 158 := by decide +kernel
theorem dX11_wreck_158 : fnD cX11_wreck 158 (.lmul) 1 159 := by decide +kernel
theorem dX11_wreck_159 : fnD cX11_wreck 159 (.lload 12) 2 161 := by decide +kernel
theorem dX11_wreck_161 : fnD cX11_wreck 161 (.lload 12) 2 163 := by decide +kernel
theorem dX11_wreck_163 : fnD cX11_wreck 163 (.lmul) 1 164 := by decide +kernel
theorem dX11_wreck_164 : fnD cX11_wreck 164 (.ladd) 1 165 := by decide +kernel
theorem dX11_wreck_165 : fnD cX11_wreck 165 (.lstore 14) 2 167 := by decide +kernel
theorem dX11_wreck_167 : fnD cX11_wreck 167 (.lload 6) 2 169 := by decide +kernel
theorem dX11_wreck_169 : fnD cX11_wreck 169 (.lconst 0) 1 170 := by decide +kernel
theorem dX11_wreck_170 : fnD cX11_wreck 170 (.lcmp) 1 171 := by decide +kernel
theorem dX11_wreck_171 : fnIf cX11_wreck 171 .lt 182 174 := by decide +kernel
theorem dX11_wreck_174 : fnD cX11_wreck 174 (.lload 14) 2 176 := by decide +kernel
theorem dX11_wreck_176 : fnD cX11_wreck 176 (.lload 6) 2 178 := by decide +kernel
theorem dX11_wreck_178 : fnD cX11_wreck 178 (.lcmp) 1 179 := by decide +kernel
theorem dX11_wreck_179 : fnIf cX11_wreck 179 .ge 199 182 := by decide +kernel
theorem dX11_wreck_182 : fnD cX11_wreck 182 (.lload 14) 2 184 := by decide +kernel
theorem dX11_wreck_184 : fnD cX11_wreck 184 (.lstore 6) 2 186 := by decide +kernel
theorem dX11_wreck_186 : fnD cX11_wreck 186 (.aload_n 0) 1 187 := by decide +kernel
theorem dX11_wreck_187 : fnD cX11_wreck 187 (.getfield 60) 3 190 := by decide +kernel
theorem dX11_wreck_190 : fnD cX11_wreck 190 (.iload 8) 2 192 := by decide +kernel
theorem dX11_wreck_192 : fnD cX11_wreck 192 (.iaload) 1 193 := by decide +kernel
theorem dX11_wreck_193 : fnD cX11_wreck 193 (.istore 4) 2 195 := by decide +kernel
theorem dX11_wreck_195 : fnD cX11_wreck 195 (.iload 9) 2 197 := by decide +kernel
theorem dX11_wreck_197 : fnD cX11_wreck 197 (.istore 5) 2 199 := by decide +kernel
theorem dX11_wreck_199 : fnD cX11_wreck 199 (.iinc 9 20) 3 202 := by decide +kernel
theorem dX11_wreck_202 : fnGo cX11_wreck 202 92 := by decide +kernel
theorem dX11_wreck_205 : fnD cX11_wreck 205 (.iinc 8 1) 3 208 := by decide +kernel
theorem dX11_wreck_208 : fnGo cX11_wreck 208 78 := by decide +kernel
theorem dX11_wreck_211 : fnD cX11_wreck 211 (.iload_n 3) 1 212 := by decide +kernel
theorem dX11_wreck_212 : fnIf cX11_wreck 212 .ne 220 215 := by decide +kernel
theorem dX11_wreck_215 : fnD cX11_wreck 215 (.iload 4) 2 217 := by decide +kernel
theorem dX11_wreck_217 : fnGo cX11_wreck 217 233 := by decide +kernel
theorem dX11_wreck_220 : fnD cX11_wreck 220 (.iload_n 3) 1 221 := by decide +kernel
theorem dX11_wreck_221 : fnD cX11_wreck 221 (.iconst 1) 1 222 := by decide +kernel
theorem dX11_wreck_222 : fnIc cX11_wreck 222 .ne 230 225 := by decide +kernel
theorem dX11_wreck_225 : fnD cX11_wreck 225 (.iload 5) 2 227 := by decide +kernel
theorem dX11_wreck_227 : fnGo cX11_wreck 227 233 := by decide +kernel
theorem dX11_wreck_230 : fnD cX11_wreck 230 (.lload 6) 2 232 := by decide +kernel
theorem dX11_wreck_232 : fnD cX11_wreck 232 (.l2i) 1 233 := by decide +kernel
theorem dX11_wreck_233 : fnD cX11_wreck 233 (.ireturn) 1 234 := by decide +kernel
theorem dX11_count_0 : fnD cX11_count 0 (.aload_n 0) 1 1 := by decide +kernel
theorem dX11_count_1 : fnD cX11_count 1 (.iconst 0) 1 2 := by decide +kernel
theorem dX11_count_2 : fnD cX11_count 2 (.putfield 96) 3 5 := by decide +kernel
theorem dX11_count_5 : fnD cX11_count 5 (.iconst 0) 1 6 := by decide +kernel
theorem dX11_count_6 : fnD cX11_count 6 (.istore_n 2) 1 7 := by decide +kernel
theorem dX11_count_7 : fnD cX11_count 7 (.iconst 0) 1 8 := by decide +kernel
theorem dX11_count_8 : fnD cX11_count 8 (.istore_n 3) 1 9 := by decide +kernel
theorem dX11_count_9 : fnD cX11_count 9 (.iconst 0) 1 10 := by decide +kernel
theorem dX11_count_10 : fnD cX11_count 10 (.istore 4) 2 12 := by decide +kernel
theorem dX11_count_12 : fnD cX11_count 12 (.iconst 0) 1 13 := by decide +kernel
theorem dX11_count_13 : fnD cX11_count 13 (.istore 5) 2 15 := by decide +kernel
theorem dX11_count_15 : fnD cX11_count 15 (.iconst 0) 1 16 := by decide +kernel
theorem dX11_count_16 : fnD cX11_count 16 (.istore 6) 2 18 := by decide +kernel
theorem dX11_count_18 : fnD cX11_count 18 (.iload 6) 2 20 := by decide +kernel
theorem dX11_count_20 : fnD cX11_count 20 (.bipush 6) 2 22 := by decide +kernel
theorem dX11_count_22 : fnIc cX11_count 22 .ge 49 25 := by decide +kernel
theorem dX11_count_25 : fnD cX11_count 25 (.iload_n 2) 1 26 := by decide +kernel
theorem dX11_count_26 : fnD cX11_count 26 (.aload_n 0) 1 27 := by decide +kernel
theorem dX11_count_27 : fnD cX11_count 27 (.getfield 16) 3 30 := by decide +kernel
theorem dX11_count_30 : fnD cX11_count 30 (.iload 6) 2 32 := by decide +kernel
theorem dX11_count_32 : fnD cX11_count 32 (.iaload) 1 33 := by decide +kernel
theorem dX11_count_33 : fnIf cX11_count 33 .le 40 36 := by decide +kernel
theorem dX11_count_36 : fnD cX11_count 36 (.iconst 1) 1 37 := by decide +kernel
theorem dX11_count_37 : fnGo cX11_count 37 41 := by decide +kernel
theorem dX11_count_40 : fnD cX11_count 40 (.iconst 0) 1 41 := by decide +kernel
theorem dX11_count_41 : fnD cX11_count 41 (.iadd) 1 42 := by decide +kernel
theorem dX11_count_42 : fnD cX11_count 42 (.istore_n 2) 1 43 := by decide +kernel
theorem dX11_count_43 : fnD cX11_count 43 (.iinc 6 1) 3 46 := by decide +kernel
theorem dX11_count_46 : fnGo cX11_count 46 18 := by decide +kernel
theorem dX11_count_49 : fnD cX11_count 49 (.iconst 0) 1 50 := by decide +kernel
theorem dX11_count_50 : fnD cX11_count 50 (.istore 6) 2 52 := by decide +kernel
theorem dX11_count_52 : fnD cX11_count 52 (.iload 6) 2 54 := by decide +kernel
theorem dX11_count_54 : fnD cX11_count 54 (.iconst 4) 1 55 := by decide +kernel
theorem dX11_count_55 : fnIc cX11_count 55 .ge 82 58 := by decide +kernel
theorem dX11_count_58 : fnD cX11_count 58 (.iload_n 2) 1 59 := by decide +kernel
theorem dX11_count_59 : fnD cX11_count 59 (.aload_n 0) 1 60 := by decide +kernel
theorem dX11_count_60 : fnD cX11_count 60 (.getfield 29) 3 63 := by decide +kernel
theorem dX11_count_63 : fnD cX11_count 63 (.iload 6) 2 65 := by decide +kernel
theorem dX11_count_65 : fnD cX11_count 65 (.iaload) 1 66 := by decide +kernel
theorem dX11_count_66 : fnIf cX11_count 66 .le 73 69 := by decide +kernel
theorem dX11_count_69 : fnD cX11_count 69 (.iconst 1) 1 70 := by decide +kernel
theorem dX11_count_70 : fnGo cX11_count 70 74 := by decide +kernel
theorem dX11_count_73 : fnD cX11_count 73 (.iconst 0) 1 74 := by decide +kernel
theorem dX11_count_74 : fnD cX11_count 74 (.iadd) 1 75 := by decide +kernel
theorem dX11_count_75 : fnD cX11_count 75 (.istore_n 2) 1 76 := by decide +kernel
theorem dX11_count_76 : fnD cX11_count 76 (.iinc 6 1) 3 79 := by decide +kernel
theorem dX11_count_79 : fnGo cX11_count 79 52 := by decide +kernel
theorem dX11_count_82 : fnD cX11_count 82 (.iconst 0) 1 83 := by decide +kernel
theorem dX11_count_83 : fnD cX11_count 83 (.istore 6) 2 85 := by decide +kernel
theorem dX11_count_85 : fnD cX11_count 85 (.iload 6) 2 87 := by decide +kernel
theorem dX11_count_87 : fnD cX11_count 87 (.bipush 20) 2 89 := by decide +kernel
theorem dX11_count_89 : fnIc cX11_count 89 .ge 116 92 := by decide +kernel
theorem dX11_count_92 : fnD cX11_count 92 (.iload_n 3) 1 93 := by decide +kernel
theorem dX11_count_93 : fnD cX11_count 93 (.aload_n 0) 1 94 := by decide +kernel
theorem dX11_count_94 : fnD cX11_count 94 (.getfield 57) 3 97 := by decide +kernel
theorem dX11_count_97 : fnD cX11_count 97 (.iload 6) 2 99 := by decide +kernel
theorem dX11_count_99 : fnD cX11_count 99 (.iaload) 1 100 := by decide +kernel
theorem dX11_count_100 : fnIf cX11_count 100 .ne 107 103 := by decide +kernel
theorem dX11_count_103 : fnD cX11_count 103 (.iconst 0) 1 104 := by decide +kernel
theorem dX11_count_104 : fnGo cX11_count 104 108 := by decide +kernel
theorem dX11_count_107 : fnD cX11_count 107 (.iconst 1) 1 108 := by decide +kernel
theorem dX11_count_108 : fnD cX11_count 108 (.iadd) 1 109 := by decide +kernel
theorem dX11_count_109 : fnD cX11_count 109 (.istore_n 3) 1 110 := by decide +kernel
theorem dX11_count_110 : fnD cX11_count 110 (.iinc 6 1) 3 113 := by decide +kernel
theorem dX11_count_113 : fnGo cX11_count 113 85 := by decide +kernel
theorem dX11_count_116 : fnD cX11_count 116 (.iconst 0) 1 117 := by decide +kernel
theorem dX11_count_117 : fnD cX11_count 117 (.istore 6) 2 119 := by decide +kernel
theorem dX11_count_119 : fnD cX11_count 119 (.iload 6) 2 121 := by decide +kernel
theorem dX11_count_121 : fnD cX11_count 121 (.bipush 24) 2 123 := by decide +kernel
theorem dX11_count_123 : fnIc cX11_count 123 .ge 152 126 := by decide +kernel
theorem dX11_count_126 : fnD cX11_count 126 (.iload 4) 2 128 := by decide +kernel
theorem dX11_count_128 : fnD cX11_count 128 (.aload_n 0) 1 129 := by decide +kernel
theorem dX11_count_129 : fnD cX11_count 129 (.getfield 42) 3 132 := by decide +kernel
theorem dX11_count_132 : fnD cX11_count 132 (.iload 6) 2 134 := by decide +kernel
theorem dX11_count_134 : fnD cX11_count 134 (.baload) 1 135 := by decide +kernel
theorem dX11_count_135 : fnIf cX11_count 135 .eq 142 138 := by decide +kernel
theorem dX11_count_138 : fnD cX11_count 138 (.iconst 1) 1 139 := by decide +kernel
theorem dX11_count_139 : fnGo cX11_count 139 143 := by decide +kernel
theorem dX11_count_142 : fnD cX11_count 142 (.iconst 0) 1 143 := by decide +kernel
theorem dX11_count_143 : fnD cX11_count 143 (.iadd) 1 144 := by decide +kernel
theorem dX11_count_144 : fnD cX11_count 144 (.istore 4) 2 146 := by decide +kernel
theorem dX11_count_146 : fnD cX11_count 146 (.iinc 6 1) 3 149 := by decide +kernel
theorem dX11_count_149 : fnGo cX11_count 149 119 := by decide +kernel
theorem dX11_count_152 : fnD cX11_count 152 (.iconst 0) 1 153 := by decide +kernel
theorem dX11_count_153 : fnD cX11_count 153 (.istore 6) 2 155 := by decide +kernel
theorem dX11_count_155 : fnD cX11_count 155 (.iload 6) 2 157 := by decide +kernel
theorem dX11_count_157 : fnD cX11_count 157 (.aload_n 0) 1 158 := by decide +kernel
theorem dX11_count_158 : fnD cX11_count 158 (.getfield 272) 3 161 := by decide +kernel
theorem dX11_count_161 : fnIc cX11_count 161 .ge 182 164 := by decide +kernel
theorem dX11_count_164 : fnD cX11_count 164 (.iload 5) 2 166 := by decide +kernel
theorem dX11_count_166 : fnD cX11_count 166 (.aload_n 0) 1 167 := by decide +kernel
theorem dX11_count_167 : fnD cX11_count 167 (.getfield 69) 3 170 := by decide +kernel
theorem dX11_count_170 : fnD cX11_count 170 (.iload 6) 2 172 := by decide +kernel
theorem dX11_count_172 : fnD cX11_count 172 (.iaload) 1 173 := by decide +kernel
theorem dX11_count_173 : fnD cX11_count 173 (.iadd) 1 174 := by decide +kernel
theorem dX11_count_174 : fnD cX11_count 174 (.istore 5) 2 176 := by decide +kernel
theorem dX11_count_176 : fnD cX11_count 176 (.iinc 6 1) 3 179 := by decide +kernel
theorem dX11_count_179 : fnGo cX11_count 179 155 := by decide +kernel
theorem dX11_count_182 : fnD cX11_count 182 (.iload_n 1) 1 183 := by decide +kernel
theorem dX11_count_183 : fnD cX11_count 183 (.tableswitch 57 0 5 #[37, 42, 47, 49, 51, 54]) 37 220 := by decide +kernel
theorem dX11_count_220 : fnD cX11_count 220 (.aload_n 0) 1 221 := by decide +kernel
theorem dX11_count_221 : fnD cX11_count 221 (.getfield 272) 3 224 := by decide +kernel
theorem dX11_count_224 : fnD cX11_count 224 (.ireturn) 1 225 := by decide +kernel
theorem dX11_count_225 : fnD cX11_count 225 (.aload_n 0) 1 226 := by decide +kernel
theorem dX11_count_226 : fnD cX11_count 226 (.invokevirtual 216) 3 229 := by decide +kernel
theorem dX11_count_229 : fnD cX11_count 229 (.ireturn) 1 230 := by decide +kernel
theorem dX11_count_230 : fnD cX11_count 230 (.iload_n 2) 1 231 := by decide +kernel
theorem dX11_count_231 : fnD cX11_count 231 (.ireturn) 1 232 := by decide +kernel
theorem dX11_count_232 : fnD cX11_count 232 (.iload_n 3) 1 233 := by decide +kernel
theorem dX11_count_233 : fnD cX11_count 233 (.ireturn) 1 234 := by decide +kernel
theorem dX11_count_234 : fnD cX11_count 234 (.iload 4) 2 236 := by decide +kernel
theorem dX11_count_236 : fnD cX11_count 236 (.ireturn) 1 237 := by decide +kernel
theorem dX11_count_237 : fnD cX11_count 237 (.iload 5) 2 239 := by decide +kernel
theorem dX11_count_239 : fnD cX11_count 239 (.ireturn) 1 240 := by decide +kernel
theorem dX11_count_240 : fnD cX11_count 240 (.sipush (-2002)) 3 243 := by decide +kernel
theorem dX11_count_243 : fnD cX11_count 243 (.ireturn) 1 244 := by decide +kernel
end
section
theorem dL_law_0 : fnD cL_law 0 (.new 7) 3 3 := by decide +kernel
theorem dL_law_3 : fnD cL_law 3 (.dup) 1 4 := by decide +kernel
theorem dL_law_4 : fnD cL_law 4 (.invokespecial 9) 3 7 := by decide +kernel
theorem dL_law_7 : fnD cL_law 7 (.astore_n 1) 1 8 := by decide +kernel
theorem dL_law_8 : fnD cL_law 8 (.new 10) 3 11 := by decide +kernel
theorem dL_law_11 : fnD cL_law 11 (.dup) 1 12 := by decide +kernel
theorem dL_law_12 : fnD cL_law 12 (.invokespecial 12) 3 15 := by decide +kernel
theorem dL_law_15 : fnD cL_law 15 (.astore_n 2) 1 16 := by decide +kernel
theorem dL_law_16 : fnD cL_law 16 (.iconst 0) 1 17 := by decide +kernel
theorem dL_law_17 : fnD cL_law 17 (.istore_n 3) 1 18 := by decide +kernel
theorem dL_law_18 : fnD cL_law 18 (.iload_n 3) 1 19 := by decide +kernel
theorem dL_law_19 : fnD cL_law 19 (.aload_n 0) 1 20 := by decide +kernel
theorem dL_law_20 : fnD cL_law 20 (.arraylength) 1 21 := by decide +kernel
theorem dL_law_21 : fnD cL_law 21 (.bipush 7) 2 23 := by decide +kernel
theorem dL_law_23 : fnD cL_law 23 (.isub) 1 24 := by decide +kernel
theorem dL_law_24 : fnIc cL_law 24 .gt 1775 27 := by decide +kernel
theorem dL_law_27 : fnD cL_law 27 (.aload_n 0) 1 28 := by decide +kernel
theorem dL_law_28 : fnD cL_law 28 (.iload_n 3) 1 29 := by decide +kernel
theorem dL_law_29 : fnD cL_law 29 (.iaload) 1 30 := by decide +kernel
theorem dL_law_30 : fnD cL_law 30 (.bipush 63) 2 32 := by decide +kernel
theorem dL_law_32 : fnD cL_law 32 (.iand) 1 33 := by decide +kernel
theorem dL_law_33 : fnD cL_law 33 (.tableswitch 1736 0 44 #[195, 244, 277, 320, 353, 396, 439, 482, 525, 548, 571, 594, 637, 670, 693, 726, 749, 772, 805, 838, 871, 940, 973, 986, 1009, 1032, 1045, 1068, 1081, 1124, 1157, 1236, 1299, 1352, 1385, 1460, 1493, 1506, 1575, 1588, 1601, 1624, 1647, 1670, 1713]) 195 228 := by decide +kernel
theorem dL_law_228 : fnD cL_law 228 (.aload_n 1) 1 229 := by decide +kernel
theorem dL_law_229 : fnD cL_law 229 (.aload_n 0) 1 230 := by decide +kernel
theorem dL_law_230 : fnD cL_law 230 (.iload_n 3) 1 231 := by decide +kernel
theorem dL_law_231 : fnD cL_law 231 (.iconst 1) 1 232 := by decide +kernel
theorem dL_law_232 : fnD cL_law 232 (.iadd) 1 233 := by decide +kernel
theorem dL_law_233 : fnD cL_law 233 (.iaload) 1 234 := by decide +kernel
theorem dL_law_234 : fnD cL_law 234 (.aload_n 0) 1 235 := by decide +kernel
theorem dL_law_235 : fnD cL_law 235 (.iload_n 3) 1 236 := by decide +kernel
theorem dL_law_236 : fnD cL_law 236 (.iconst 2) 1 237 := by decide +kernel
theorem dL_law_237 : fnD cL_law 237 (.iadd) 1 238 := by decide +kernel
theorem dL_law_238 : fnD cL_law 238 (.iaload) 1 239 := by decide +kernel
theorem dL_law_239 : fnIf cL_law 239 .eq 246 242 := by decide +kernel
theorem dL_law_242 : fnD cL_law 242 (.iconst 1) 1 243 := by decide +kernel
theorem dL_law_243 : fnGo cL_law 243 247 := by decide +kernel
theorem dL_law_246 : fnD cL_law 246 (.iconst 0) 1 247 := by decide +kernel
theorem dL_law_247 : fnD cL_law 247 (.invokevirtual 13) 3 250 := by decide +kernel
theorem dL_law_250 : fnD cL_law 250 (.aload_n 2) 1 251 := by decide +kernel
theorem dL_law_251 : fnD cL_law 251 (.aload_n 0) 1 252 := by decide +kernel
theorem dL_law_252 : fnD cL_law 252 (.iload_n 3) 1 253 := by decide +kernel
theorem dL_law_253 : fnD cL_law 253 (.iconst 1) 1 254 := by decide +kernel
theorem dL_law_254 : fnD cL_law 254 (.iadd) 1 255 := by decide +kernel
theorem dL_law_255 : fnD cL_law 255 (.iaload) 1 256 := by decide +kernel
theorem dL_law_256 : fnD cL_law 256 (.aload_n 0) 1 257 := by decide +kernel
theorem dL_law_257 : fnD cL_law 257 (.iload_n 3) 1 258 := by decide +kernel
theorem dL_law_258 : fnD cL_law 258 (.iconst 2) 1 259 := by decide +kernel
theorem dL_law_259 : fnD cL_law 259 (.iadd) 1 260 := by decide +kernel
theorem dL_law_260 : fnD cL_law 260 (.iaload) 1 261 := by decide +kernel
theorem dL_law_261 : fnIf cL_law 261 .eq 268 264 := by decide +kernel
theorem dL_law_264 : fnD cL_law 264 (.iconst 1) 1 265 := by decide +kernel
theorem dL_law_265 : fnGo cL_law 265 269 := by decide +kernel
theorem dL_law_268 : fnD cL_law 268 (.iconst 0) 1 269 := by decide +kernel
theorem dL_law_269 : fnD cL_law 269 (.invokevirtual 17) 3 272 := by decide +kernel
theorem dL_law_272 : fnIc cL_law 272 .eq 1769 275 := by decide +kernel
theorem dL_law_275 : fnD cL_law 275 (.iconst 0) 1 276 := by decide +kernel
theorem dL_law_276 : fnD cL_law 276 (.ireturn) 1 277 := by decide +kernel
theorem dL_law_277 : fnD cL_law 277 (.aload_n 1) 1 278 := by decide +kernel
theorem dL_law_278 : fnD cL_law 278 (.aload_n 0) 1 279 := by decide +kernel
theorem dL_law_279 : fnD cL_law 279 (.iload_n 3) 1 280 := by decide +kernel
theorem dL_law_280 : fnD cL_law 280 (.iconst 1) 1 281 := by decide +kernel
theorem dL_law_281 : fnD cL_law 281 (.iadd) 1 282 := by decide +kernel
theorem dL_law_282 : fnD cL_law 282 (.iaload) 1 283 := by decide +kernel
theorem dL_law_283 : fnD cL_law 283 (.aload_n 0) 1 284 := by decide +kernel
theorem dL_law_284 : fnD cL_law 284 (.iload_n 3) 1 285 := by decide +kernel
theorem dL_law_285 : fnD cL_law 285 (.iconst 2) 1 286 := by decide +kernel
theorem dL_law_286 : fnD cL_law 286 (.iadd) 1 287 := by decide +kernel
theorem dL_law_287 : fnD cL_law 287 (.iaload) 1 288 := by decide +kernel
theorem dL_law_288 : fnD cL_law 288 (.invokevirtual 18) 3 291 := by decide +kernel
theorem dL_law_291 : fnD cL_law 291 (.aload_n 2) 1 292 := by decide +kernel
theorem dL_law_292 : fnD cL_law 292 (.aload_n 0) 1 293 := by decide +kernel
theorem dL_law_293 : fnD cL_law 293 (.iload_n 3) 1 294 := by decide +kernel
theorem dL_law_294 : fnD cL_law 294 (.iconst 1) 1 295 := by decide +kernel
theorem dL_law_295 : fnD cL_law 295 (.iadd) 1 296 := by decide +kernel
theorem dL_law_296 : fnD cL_law 296 (.iaload) 1 297 := by decide +kernel
theorem dL_law_297 : fnD cL_law 297 (.aload_n 0) 1 298 := by decide +kernel
theorem dL_law_298 : fnD cL_law 298 (.iload_n 3) 1 299 := by decide +kernel
theorem dL_law_299 : fnD cL_law 299 (.iconst 2) 1 300 := by decide +kernel
theorem dL_law_300 : fnD cL_law 300 (.iadd) 1 301 := by decide +kernel
theorem dL_law_301 : fnD cL_law 301 (.iaload) 1 302 := by decide +kernel
theorem dL_law_302 : fnD cL_law 302 (.invokevirtual 22) 3 305 := by decide +kernel
theorem dL_law_305 : fnIc cL_law 305 .eq 1769 308 := by decide +kernel
theorem dL_law_308 : fnD cL_law 308 (.iconst 0) 1 309 := by decide +kernel
theorem dL_law_309 : fnD cL_law 309 (.ireturn) 1 310 := by decide +kernel
theorem dL_law_310 : fnD cL_law 310 (.aload_n 1) 1 311 := by decide +kernel
theorem dL_law_311 : fnD cL_law 311 (.aload_n 0) 1 312 := by decide +kernel
theorem dL_law_312 : fnD cL_law 312 (.iload_n 3) 1 313 := by decide +kernel
theorem dL_law_313 : fnD cL_law 313 (.iconst 1) 1 314 := by decide +kernel
theorem dL_law_314 : fnD cL_law 314 (.iadd) 1 315 := by decide +kernel
theorem dL_law_315 : fnD cL_law 315 (.iaload) 1 316 := by decide +kernel
theorem dL_law_316 : fnD cL_law 316 (.aload_n 0) 1 317 := by decide +kernel
theorem dL_law_317 : fnD cL_law 317 (.iload_n 3) 1 318 := by decide +kernel
theorem dL_law_318 : fnD cL_law 318 (.iconst 2) 1 319 := by decide +kernel
theorem dL_law_319 : fnD cL_law 319 (.iadd) 1 320 := by decide +kernel
theorem dL_law_320 : fnD cL_law 320 (.iaload) 1 321 := by decide +kernel
theorem dL_law_321 : fnD cL_law 321 (.aload_n 0) 1 322 := by decide +kernel
theorem dL_law_322 : fnD cL_law 322 (.iload_n 3) 1 323 := by decide +kernel
theorem dL_law_323 : fnD cL_law 323 (.iconst 3) 1 324 := by decide +kernel
theorem dL_law_324 : fnD cL_law 324 (.iadd) 1 325 := by decide +kernel
theorem dL_law_325 : fnD cL_law 325 (.iaload) 1 326 := by decide +kernel
theorem dL_law_326 : fnD cL_law 326 (.invokevirtual 23) 3 329 := by decide +kernel
theorem dL_law_329 : fnD cL_law 329 (.aload_n 2) 1 330 := by decide +kernel
theorem dL_law_330 : fnD cL_law 330 (.aload_n 0) 1 331 := by decide +kernel
theorem dL_law_331 : fnD cL_law 331 (.iload_n 3) 1 332 := by decide +kernel
theorem dL_law_332 : fnD cL_law 332 (.iconst 1) 1 333 := by decide +kernel
theorem dL_law_333 : fnD cL_law 333 (.iadd) 1 334 := by decide +kernel
theorem dL_law_334 : fnD cL_law 334 (.iaload) 1 335 := by decide +kernel
theorem dL_law_335 : fnD cL_law 335 (.aload_n 0) 1 336 := by decide +kernel
theorem dL_law_336 : fnD cL_law 336 (.iload_n 3) 1 337 := by decide +kernel
theorem dL_law_337 : fnD cL_law 337 (.iconst 2) 1 338 := by decide +kernel
theorem dL_law_338 : fnD cL_law 338 (.iadd) 1 339 := by decide +kernel
theorem dL_law_339 : fnD cL_law 339 (.iaload) 1 340 := by decide +kernel
theorem dL_law_340 : fnD cL_law 340 (.aload_n 0) 1 341 := by decide +kernel
theorem dL_law_341 : fnD cL_law 341 (.iload_n 3) 1 342 := by decide +kernel
theorem dL_law_342 : fnD cL_law 342 (.iconst 3) 1 343 := by decide +kernel
theorem dL_law_343 : fnD cL_law 343 (.iadd) 1 344 := by decide +kernel
theorem dL_law_344 : fnD cL_law 344 (.iaload) 1 345 := by decide +kernel
theorem dL_law_345 : fnD cL_law 345 (.invokevirtual 27) 3 348 := by decide +kernel
theorem dL_law_348 : fnIc cL_law 348 .eq 1769 351 := by decide +kernel
theorem dL_law_351 : fnD cL_law 351 (.iconst 0) 1 352 := by decide +kernel
theorem dL_law_352 : fnD cL_law 352 (.ireturn) 1 353 := by decide +kernel
theorem dL_law_353 : fnD cL_law 353 (.aload_n 1) 1 354 := by decide +kernel
theorem dL_law_354 : fnD cL_law 354 (.aload_n 0) 1 355 := by decide +kernel
theorem dL_law_355 : fnD cL_law 355 (.iload_n 3) 1 356 := by decide +kernel
theorem dL_law_356 : fnD cL_law 356 (.iconst 1) 1 357 := by decide +kernel
theorem dL_law_357 : fnD cL_law 357 (.iadd) 1 358 := by decide +kernel
theorem dL_law_358 : fnD cL_law 358 (.iaload) 1 359 := by decide +kernel
theorem dL_law_359 : fnD cL_law 359 (.aload_n 0) 1 360 := by decide +kernel
theorem dL_law_360 : fnD cL_law 360 (.iload_n 3) 1 361 := by decide +kernel
theorem dL_law_361 : fnD cL_law 361 (.iconst 2) 1 362 := by decide +kernel
theorem dL_law_362 : fnD cL_law 362 (.iadd) 1 363 := by decide +kernel
theorem dL_law_363 : fnD cL_law 363 (.iaload) 1 364 := by decide +kernel
theorem dL_law_364 : fnD cL_law 364 (.invokevirtual 28) 3 367 := by decide +kernel
theorem dL_law_367 : fnD cL_law 367 (.aload_n 2) 1 368 := by decide +kernel
theorem dL_law_368 : fnD cL_law 368 (.aload_n 0) 1 369 := by decide +kernel
theorem dL_law_369 : fnD cL_law 369 (.iload_n 3) 1 370 := by decide +kernel
theorem dL_law_370 : fnD cL_law 370 (.iconst 1) 1 371 := by decide +kernel
theorem dL_law_371 : fnD cL_law 371 (.iadd) 1 372 := by decide +kernel
theorem dL_law_372 : fnD cL_law 372 (.iaload) 1 373 := by decide +kernel
theorem dL_law_373 : fnD cL_law 373 (.aload_n 0) 1 374 := by decide +kernel
theorem dL_law_374 : fnD cL_law 374 (.iload_n 3) 1 375 := by decide +kernel
theorem dL_law_375 : fnD cL_law 375 (.iconst 2) 1 376 := by decide +kernel
theorem dL_law_376 : fnD cL_law 376 (.iadd) 1 377 := by decide +kernel
theorem dL_law_377 : fnD cL_law 377 (.iaload) 1 378 := by decide +kernel
theorem dL_law_378 : fnD cL_law 378 (.invokevirtual 31) 3 381 := by decide +kernel
theorem dL_law_381 : fnIc cL_law 381 .eq 1769 384 := by decide +kernel
theorem dL_law_384 : fnD cL_law 384 (.iconst 0) 1 385 := by decide +kernel
theorem dL_law_385 : fnD cL_law 385 (.ireturn) 1 386 := by decide +kernel
theorem dL_law_386 : fnD cL_law 386 (.aload_n 1) 1 387 := by decide +kernel
theorem dL_law_387 : fnD cL_law 387 (.aload_n 0) 1 388 := by decide +kernel
theorem dL_law_388 : fnD cL_law 388 (.iload_n 3) 1 389 := by decide +kernel
theorem dL_law_389 : fnD cL_law 389 (.iconst 1) 1 390 := by decide +kernel
theorem dL_law_390 : fnD cL_law 390 (.iadd) 1 391 := by decide +kernel
theorem dL_law_391 : fnD cL_law 391 (.iaload) 1 392 := by decide +kernel
theorem dL_law_392 : fnD cL_law 392 (.aload_n 0) 1 393 := by decide +kernel
theorem dL_law_393 : fnD cL_law 393 (.iload_n 3) 1 394 := by decide +kernel
theorem dL_law_394 : fnD cL_law 394 (.iconst 2) 1 395 := by decide +kernel
theorem dL_law_395 : fnD cL_law 395 (.iadd) 1 396 := by decide +kernel
theorem dL_law_396 : fnD cL_law 396 (.iaload) 1 397 := by decide +kernel
theorem dL_law_397 : fnD cL_law 397 (.aload_n 0) 1 398 := by decide +kernel
theorem dL_law_398 : fnD cL_law 398 (.iload_n 3) 1 399 := by decide +kernel
theorem dL_law_399 : fnD cL_law 399 (.iconst 3) 1 400 := by decide +kernel
theorem dL_law_400 : fnD cL_law 400 (.iadd) 1 401 := by decide +kernel
theorem dL_law_401 : fnD cL_law 401 (.iaload) 1 402 := by decide +kernel
theorem dL_law_402 : fnD cL_law 402 (.invokevirtual 32) 3 405 := by decide +kernel
theorem dL_law_405 : fnD cL_law 405 (.aload_n 2) 1 406 := by decide +kernel
theorem dL_law_406 : fnD cL_law 406 (.aload_n 0) 1 407 := by decide +kernel
theorem dL_law_407 : fnD cL_law 407 (.iload_n 3) 1 408 := by decide +kernel
theorem dL_law_408 : fnD cL_law 408 (.iconst 1) 1 409 := by decide +kernel
theorem dL_law_409 : fnD cL_law 409 (.iadd) 1 410 := by decide +kernel
theorem dL_law_410 : fnD cL_law 410 (.iaload) 1 411 := by decide +kernel
theorem dL_law_411 : fnD cL_law 411 (.aload_n 0) 1 412 := by decide +kernel
theorem dL_law_412 : fnD cL_law 412 (.iload_n 3) 1 413 := by decide +kernel
theorem dL_law_413 : fnD cL_law 413 (.iconst 2) 1 414 := by decide +kernel
theorem dL_law_414 : fnD cL_law 414 (.iadd) 1 415 := by decide +kernel
theorem dL_law_415 : fnD cL_law 415 (.iaload) 1 416 := by decide +kernel
theorem dL_law_416 : fnD cL_law 416 (.aload_n 0) 1 417 := by decide +kernel
theorem dL_law_417 : fnD cL_law 417 (.iload_n 3) 1 418 := by decide +kernel
theorem dL_law_418 : fnD cL_law 418 (.iconst 3) 1 419 := by decide +kernel
theorem dL_law_419 : fnD cL_law 419 (.iadd) 1 420 := by decide +kernel
theorem dL_law_420 : fnD cL_law 420 (.iaload) 1 421 := by decide +kernel
theorem dL_law_421 : fnD cL_law 421 (.invokevirtual 35) 3 424 := by decide +kernel
theorem dL_law_424 : fnIc cL_law 424 .eq 1769 427 := by decide +kernel
theorem dL_law_427 : fnD cL_law 427 (.iconst 0) 1 428 := by decide +kernel
theorem dL_law_428 : fnD cL_law 428 (.ireturn) 1 429 := by decide +kernel
theorem dL_law_429 : fnD cL_law 429 (.aload_n 1) 1 430 := by decide +kernel
theorem dL_law_430 : fnD cL_law 430 (.aload_n 0) 1 431 := by decide +kernel
theorem dL_law_431 : fnD cL_law 431 (.iload_n 3) 1 432 := by decide +kernel
theorem dL_law_432 : fnD cL_law 432 (.iconst 1) 1 433 := by decide +kernel
theorem dL_law_433 : fnD cL_law 433 (.iadd) 1 434 := by decide +kernel
theorem dL_law_434 : fnD cL_law 434 (.iaload) 1 435 := by decide +kernel
theorem dL_law_435 : fnD cL_law 435 (.aload_n 0) 1 436 := by decide +kernel
theorem dL_law_436 : fnD cL_law 436 (.iload_n 3) 1 437 := by decide +kernel
theorem dL_law_437 : fnD cL_law 437 (.iconst 2) 1 438 := by decide +kernel
theorem dL_law_438 : fnD cL_law 438 (.iadd) 1 439 := by decide +kernel
theorem dL_law_439 : fnD cL_law 439 (.iaload) 1 440 := by decide +kernel
theorem dL_law_440 : fnD cL_law 440 (.aload_n 0) 1 441 := by decide +kernel
theorem dL_law_441 : fnD cL_law 441 (.iload_n 3) 1 442 := by decide +kernel
theorem dL_law_442 : fnD cL_law 442 (.iconst 3) 1 443 := by decide +kernel
theorem dL_law_443 : fnD cL_law 443 (.iadd) 1 444 := by decide +kernel
theorem dL_law_444 : fnD cL_law 444 (.iaload) 1 445 := by decide +kernel
theorem dL_law_445 : fnD cL_law 445 (.invokevirtual 36) 3 448 := by decide +kernel
theorem dL_law_448 : fnD cL_law 448 (.aload_n 2) 1 449 := by decide +kernel
theorem dL_law_449 : fnD cL_law 449 (.aload_n 0) 1 450 := by decide +kernel
theorem dL_law_450 : fnD cL_law 450 (.iload_n 3) 1 451 := by decide +kernel
theorem dL_law_451 : fnD cL_law 451 (.iconst 1) 1 452 := by decide +kernel
theorem dL_law_452 : fnD cL_law 452 (.iadd) 1 453 := by decide +kernel
theorem dL_law_453 : fnD cL_law 453 (.iaload) 1 454 := by decide +kernel
theorem dL_law_454 : fnD cL_law 454 (.aload_n 0) 1 455 := by decide +kernel
theorem dL_law_455 : fnD cL_law 455 (.iload_n 3) 1 456 := by decide +kernel
theorem dL_law_456 : fnD cL_law 456 (.iconst 2) 1 457 := by decide +kernel
theorem dL_law_457 : fnD cL_law 457 (.iadd) 1 458 := by decide +kernel
theorem dL_law_458 : fnD cL_law 458 (.iaload) 1 459 := by decide +kernel
theorem dL_law_459 : fnD cL_law 459 (.aload_n 0) 1 460 := by decide +kernel
theorem dL_law_460 : fnD cL_law 460 (.iload_n 3) 1 461 := by decide +kernel
theorem dL_law_461 : fnD cL_law 461 (.iconst 3) 1 462 := by decide +kernel
theorem dL_law_462 : fnD cL_law 462 (.iadd) 1 463 := by decide +kernel
theorem dL_law_463 : fnD cL_law 463 (.iaload) 1 464 := by decide +kernel
theorem dL_law_464 : fnD cL_law 464 (.invokevirtual 39) 3 467 := by decide +kernel
theorem dL_law_467 : fnIc cL_law 467 .eq 1769 470 := by decide +kernel
theorem dL_law_470 : fnD cL_law 470 (.iconst 0) 1 471 := by decide +kernel
theorem dL_law_471 : fnD cL_law 471 (.ireturn) 1 472 := by decide +kernel
theorem dL_law_472 : fnD cL_law 472 (.aload_n 1) 1 473 := by decide +kernel
theorem dL_law_473 : fnD cL_law 473 (.aload_n 0) 1 474 := by decide +kernel
theorem dL_law_474 : fnD cL_law 474 (.iload_n 3) 1 475 := by decide +kernel
theorem dL_law_475 : fnD cL_law 475 (.iconst 1) 1 476 := by decide +kernel
theorem dL_law_476 : fnD cL_law 476 (.iadd) 1 477 := by decide +kernel
theorem dL_law_477 : fnD cL_law 477 (.iaload) 1 478 := by decide +kernel
theorem dL_law_478 : fnD cL_law 478 (.aload_n 0) 1 479 := by decide +kernel
theorem dL_law_479 : fnD cL_law 479 (.iload_n 3) 1 480 := by decide +kernel
theorem dL_law_480 : fnD cL_law 480 (.iconst 2) 1 481 := by decide +kernel
theorem dL_law_481 : fnD cL_law 481 (.iadd) 1 482 := by decide +kernel
theorem dL_law_482 : fnD cL_law 482 (.iaload) 1 483 := by decide +kernel
theorem dL_law_483 : fnD cL_law 483 (.aload_n 0) 1 484 := by decide +kernel
theorem dL_law_484 : fnD cL_law 484 (.iload_n 3) 1 485 := by decide +kernel
theorem dL_law_485 : fnD cL_law 485 (.iconst 3) 1 486 := by decide +kernel
theorem dL_law_486 : fnD cL_law 486 (.iadd) 1 487 := by decide +kernel
theorem dL_law_487 : fnD cL_law 487 (.iaload) 1 488 := by decide +kernel
theorem dL_law_488 : fnD cL_law 488 (.invokevirtual 40) 3 491 := by decide +kernel
theorem dL_law_491 : fnD cL_law 491 (.aload_n 2) 1 492 := by decide +kernel
theorem dL_law_492 : fnD cL_law 492 (.aload_n 0) 1 493 := by decide +kernel
theorem dL_law_493 : fnD cL_law 493 (.iload_n 3) 1 494 := by decide +kernel
theorem dL_law_494 : fnD cL_law 494 (.iconst 1) 1 495 := by decide +kernel
theorem dL_law_495 : fnD cL_law 495 (.iadd) 1 496 := by decide +kernel
theorem dL_law_496 : fnD cL_law 496 (.iaload) 1 497 := by decide +kernel
theorem dL_law_497 : fnD cL_law 497 (.aload_n 0) 1 498 := by decide +kernel
theorem dL_law_498 : fnD cL_law 498 (.iload_n 3) 1 499 := by decide +kernel
theorem dL_law_499 : fnD cL_law 499 (.iconst 2) 1 500 := by decide +kernel
theorem dL_law_500 : fnD cL_law 500 (.iadd) 1 501 := by decide +kernel
theorem dL_law_501 : fnD cL_law 501 (.iaload) 1 502 := by decide +kernel
theorem dL_law_502 : fnD cL_law 502 (.aload_n 0) 1 503 := by decide +kernel
theorem dL_law_503 : fnD cL_law 503 (.iload_n 3) 1 504 := by decide +kernel
theorem dL_law_504 : fnD cL_law 504 (.iconst 3) 1 505 := by decide +kernel
theorem dL_law_505 : fnD cL_law 505 (.iadd) 1 506 := by decide +kernel
theorem dL_law_506 : fnD cL_law 506 (.iaload) 1 507 := by decide +kernel
theorem dL_law_507 : fnD cL_law 507 (.invokevirtual 43) 3 510 := by decide +kernel
theorem dL_law_510 : fnIc cL_law 510 .eq 1769 513 := by decide +kernel
theorem dL_law_513 : fnD cL_law 513 (.iconst 0) 1 514 := by decide +kernel
theorem dL_law_514 : fnD cL_law 514 (.ireturn) 1 515 := by decide +kernel
theorem dL_law_515 : fnD cL_law 515 (.aload_n 1) 1 516 := by decide +kernel
theorem dL_law_516 : fnD cL_law 516 (.aload_n 0) 1 517 := by decide +kernel
theorem dL_law_517 : fnD cL_law 517 (.iload_n 3) 1 518 := by decide +kernel
theorem dL_law_518 : fnD cL_law 518 (.iconst 1) 1 519 := by decide +kernel
theorem dL_law_519 : fnD cL_law 519 (.iadd) 1 520 := by decide +kernel
theorem dL_law_520 : fnD cL_law 520 (.iaload) 1 521 := by decide +kernel
theorem dL_law_521 : fnD cL_law 521 (.aload_n 0) 1 522 := by decide +kernel
theorem dL_law_522 : fnD cL_law 522 (.iload_n 3) 1 523 := by decide +kernel
theorem dL_law_523 : fnD cL_law 523 (.iconst 2) 1 524 := by decide +kernel
theorem dL_law_524 : fnD cL_law 524 (.iadd) 1 525 := by decide +kernel
theorem dL_law_525 : fnD cL_law 525 (.iaload) 1 526 := by decide +kernel
theorem dL_law_526 : fnD cL_law 526 (.aload_n 0) 1 527 := by decide +kernel
theorem dL_law_527 : fnD cL_law 527 (.iload_n 3) 1 528 := by decide +kernel
theorem dL_law_528 : fnD cL_law 528 (.iconst 3) 1 529 := by decide +kernel
theorem dL_law_529 : fnD cL_law 529 (.iadd) 1 530 := by decide +kernel
theorem dL_law_530 : fnD cL_law 530 (.iaload) 1 531 := by decide +kernel
theorem dL_law_531 : fnD cL_law 531 (.invokevirtual 44) 3 534 := by decide +kernel
theorem dL_law_534 : fnD cL_law 534 (.aload_n 2) 1 535 := by decide +kernel
theorem dL_law_535 : fnD cL_law 535 (.aload_n 0) 1 536 := by decide +kernel
theorem dL_law_536 : fnD cL_law 536 (.iload_n 3) 1 537 := by decide +kernel
theorem dL_law_537 : fnD cL_law 537 (.iconst 1) 1 538 := by decide +kernel
theorem dL_law_538 : fnD cL_law 538 (.iadd) 1 539 := by decide +kernel
theorem dL_law_539 : fnD cL_law 539 (.iaload) 1 540 := by decide +kernel
theorem dL_law_540 : fnD cL_law 540 (.aload_n 0) 1 541 := by decide +kernel
theorem dL_law_541 : fnD cL_law 541 (.iload_n 3) 1 542 := by decide +kernel
theorem dL_law_542 : fnD cL_law 542 (.iconst 2) 1 543 := by decide +kernel
theorem dL_law_543 : fnD cL_law 543 (.iadd) 1 544 := by decide +kernel
theorem dL_law_544 : fnD cL_law 544 (.iaload) 1 545 := by decide +kernel
theorem dL_law_545 : fnD cL_law 545 (.aload_n 0) 1 546 := by decide +kernel
theorem dL_law_546 : fnD cL_law 546 (.iload_n 3) 1 547 := by decide +kernel
theorem dL_law_547 : fnD cL_law 547 (.iconst 3) 1 548 := by decide +kernel
theorem dL_law_548 : fnD cL_law 548 (.iadd) 1 549 := by decide +kernel
theorem dL_law_549 : fnD cL_law 549 (.iaload) 1 550 := by decide +kernel
theorem dL_law_550 : fnD cL_law 550 (.invokevirtual 47) 3 553 := by decide +kernel
theorem dL_law_553 : fnIc cL_law 553 .eq 1769 556 := by decide +kernel
theorem dL_law_556 : fnD cL_law 556 (.iconst 0) 1 557 := by decide +kernel
theorem dL_law_557 : fnD cL_law 557 (.ireturn) 1 558 := by decide +kernel
theorem dL_law_558 : fnD cL_law 558 (.aload_n 1) 1 559 := by decide +kernel
theorem dL_law_559 : fnD cL_law 559 (.aload_n 0) 1 560 := by decide +kernel
theorem dL_law_560 : fnD cL_law 560 (.iload_n 3) 1 561 := by decide +kernel
theorem dL_law_561 : fnD cL_law 561 (.iconst 1) 1 562 := by decide +kernel
theorem dL_law_562 : fnD cL_law 562 (.iadd) 1 563 := by decide +kernel
theorem dL_law_563 : fnD cL_law 563 (.iaload) 1 564 := by decide +kernel
theorem dL_law_564 : fnD cL_law 564 (.invokevirtual 48) 3 567 := by decide +kernel
theorem dL_law_567 : fnD cL_law 567 (.aload_n 2) 1 568 := by decide +kernel
theorem dL_law_568 : fnD cL_law 568 (.aload_n 0) 1 569 := by decide +kernel
theorem dL_law_569 : fnD cL_law 569 (.iload_n 3) 1 570 := by decide +kernel
theorem dL_law_570 : fnD cL_law 570 (.iconst 1) 1 571 := by decide +kernel
theorem dL_law_571 : fnD cL_law 571 (.iadd) 1 572 := by decide +kernel
theorem dL_law_572 : fnD cL_law 572 (.iaload) 1 573 := by decide +kernel
theorem dL_law_573 : fnD cL_law 573 (.invokevirtual 52) 3 576 := by decide +kernel
theorem dL_law_576 : fnIc cL_law 576 .eq 1769 579 := by decide +kernel
theorem dL_law_579 : fnD cL_law 579 (.iconst 0) 1 580 := by decide +kernel
theorem dL_law_580 : fnD cL_law 580 (.ireturn) 1 581 := by decide +kernel
theorem dL_law_581 : fnD cL_law 581 (.aload_n 1) 1 582 := by decide +kernel
theorem dL_law_582 : fnD cL_law 582 (.aload_n 0) 1 583 := by decide +kernel
theorem dL_law_583 : fnD cL_law 583 (.iload_n 3) 1 584 := by decide +kernel
theorem dL_law_584 : fnD cL_law 584 (.iconst 1) 1 585 := by decide +kernel
theorem dL_law_585 : fnD cL_law 585 (.iadd) 1 586 := by decide +kernel
theorem dL_law_586 : fnD cL_law 586 (.iaload) 1 587 := by decide +kernel
theorem dL_law_587 : fnD cL_law 587 (.invokevirtual 53) 3 590 := by decide +kernel
theorem dL_law_590 : fnD cL_law 590 (.aload_n 2) 1 591 := by decide +kernel
theorem dL_law_591 : fnD cL_law 591 (.aload_n 0) 1 592 := by decide +kernel
theorem dL_law_592 : fnD cL_law 592 (.iload_n 3) 1 593 := by decide +kernel
theorem dL_law_593 : fnD cL_law 593 (.iconst 1) 1 594 := by decide +kernel
theorem dL_law_594 : fnD cL_law 594 (.iadd) 1 595 := by decide +kernel
theorem dL_law_595 : fnD cL_law 595 (.iaload) 1 596 := by decide +kernel
theorem dL_law_596 : fnD cL_law 596 (.invokevirtual 56) 3 599 := by decide +kernel
theorem dL_law_599 : fnIc cL_law 599 .eq 1769 602 := by decide +kernel
theorem dL_law_602 : fnD cL_law 602 (.iconst 0) 1 603 := by decide +kernel
theorem dL_law_603 : fnD cL_law 603 (.ireturn) 1 604 := by decide +kernel
theorem dL_law_604 : fnD cL_law 604 (.aload_n 1) 1 605 := by decide +kernel
theorem dL_law_605 : fnD cL_law 605 (.aload_n 0) 1 606 := by decide +kernel
theorem dL_law_606 : fnD cL_law 606 (.iload_n 3) 1 607 := by decide +kernel
theorem dL_law_607 : fnD cL_law 607 (.iconst 1) 1 608 := by decide +kernel
theorem dL_law_608 : fnD cL_law 608 (.iadd) 1 609 := by decide +kernel
theorem dL_law_609 : fnD cL_law 609 (.iaload) 1 610 := by decide +kernel
theorem dL_law_610 : fnD cL_law 610 (.invokevirtual 57) 3 613 := by decide +kernel
theorem dL_law_613 : fnD cL_law 613 (.aload_n 2) 1 614 := by decide +kernel
theorem dL_law_614 : fnD cL_law 614 (.aload_n 0) 1 615 := by decide +kernel
theorem dL_law_615 : fnD cL_law 615 (.iload_n 3) 1 616 := by decide +kernel
theorem dL_law_616 : fnD cL_law 616 (.iconst 1) 1 617 := by decide +kernel
theorem dL_law_617 : fnD cL_law 617 (.iadd) 1 618 := by decide +kernel
theorem dL_law_618 : fnD cL_law 618 (.iaload) 1 619 := by decide +kernel
theorem dL_law_619 : fnD cL_law 619 (.invokevirtual 60) 3 622 := by decide +kernel
theorem dL_law_622 : fnIc cL_law 622 .eq 1769 625 := by decide +kernel
theorem dL_law_625 : fnD cL_law 625 (.iconst 0) 1 626 := by decide +kernel
theorem dL_law_626 : fnD cL_law 626 (.ireturn) 1 627 := by decide +kernel
theorem dL_law_627 : fnD cL_law 627 (.aload_n 1) 1 628 := by decide +kernel
theorem dL_law_628 : fnD cL_law 628 (.aload_n 0) 1 629 := by decide +kernel
theorem dL_law_629 : fnD cL_law 629 (.iload_n 3) 1 630 := by decide +kernel
theorem dL_law_630 : fnD cL_law 630 (.iconst 1) 1 631 := by decide +kernel
theorem dL_law_631 : fnD cL_law 631 (.iadd) 1 632 := by decide +kernel
theorem dL_law_632 : fnD cL_law 632 (.iaload) 1 633 := by decide +kernel
theorem dL_law_633 : fnD cL_law 633 (.aload_n 0) 1 634 := by decide +kernel
theorem dL_law_634 : fnD cL_law 634 (.iload_n 3) 1 635 := by decide +kernel
theorem dL_law_635 : fnD cL_law 635 (.iconst 2) 1 636 := by decide +kernel
theorem dL_law_636 : fnD cL_law 636 (.iadd) 1 637 := by decide +kernel
theorem dL_law_637 : fnD cL_law 637 (.iaload) 1 638 := by decide +kernel
theorem dL_law_638 : fnD cL_law 638 (.aload_n 0) 1 639 := by decide +kernel
theorem dL_law_639 : fnD cL_law 639 (.iload_n 3) 1 640 := by decide +kernel
theorem dL_law_640 : fnD cL_law 640 (.iconst 3) 1 641 := by decide +kernel
theorem dL_law_641 : fnD cL_law 641 (.iadd) 1 642 := by decide +kernel
theorem dL_law_642 : fnD cL_law 642 (.iaload) 1 643 := by decide +kernel
theorem dL_law_643 : fnD cL_law 643 (.invokevirtual 61) 3 646 := by decide +kernel
theorem dL_law_646 : fnD cL_law 646 (.aload_n 2) 1 647 := by decide +kernel
theorem dL_law_647 : fnD cL_law 647 (.aload_n 0) 1 648 := by decide +kernel
theorem dL_law_648 : fnD cL_law 648 (.iload_n 3) 1 649 := by decide +kernel
theorem dL_law_649 : fnD cL_law 649 (.iconst 1) 1 650 := by decide +kernel
theorem dL_law_650 : fnD cL_law 650 (.iadd) 1 651 := by decide +kernel
theorem dL_law_651 : fnD cL_law 651 (.iaload) 1 652 := by decide +kernel
theorem dL_law_652 : fnD cL_law 652 (.aload_n 0) 1 653 := by decide +kernel
theorem dL_law_653 : fnD cL_law 653 (.iload_n 3) 1 654 := by decide +kernel
theorem dL_law_654 : fnD cL_law 654 (.iconst 2) 1 655 := by decide +kernel
theorem dL_law_655 : fnD cL_law 655 (.iadd) 1 656 := by decide +kernel
theorem dL_law_656 : fnD cL_law 656 (.iaload) 1 657 := by decide +kernel
theorem dL_law_657 : fnD cL_law 657 (.aload_n 0) 1 658 := by decide +kernel
theorem dL_law_658 : fnD cL_law 658 (.iload_n 3) 1 659 := by decide +kernel
theorem dL_law_659 : fnD cL_law 659 (.iconst 3) 1 660 := by decide +kernel
theorem dL_law_660 : fnD cL_law 660 (.iadd) 1 661 := by decide +kernel
theorem dL_law_661 : fnD cL_law 661 (.iaload) 1 662 := by decide +kernel
theorem dL_law_662 : fnD cL_law 662 (.invokevirtual 64) 3 665 := by decide +kernel
theorem dL_law_665 : fnIc cL_law 665 .eq 1769 668 := by decide +kernel
theorem dL_law_668 : fnD cL_law 668 (.iconst 0) 1 669 := by decide +kernel
theorem dL_law_669 : fnD cL_law 669 (.ireturn) 1 670 := by decide +kernel
theorem dL_law_670 : fnD cL_law 670 (.aload_n 1) 1 671 := by decide +kernel
theorem dL_law_671 : fnD cL_law 671 (.aload_n 0) 1 672 := by decide +kernel
theorem dL_law_672 : fnD cL_law 672 (.iload_n 3) 1 673 := by decide +kernel
theorem dL_law_673 : fnD cL_law 673 (.iconst 1) 1 674 := by decide +kernel
theorem dL_law_674 : fnD cL_law 674 (.iadd) 1 675 := by decide +kernel
theorem dL_law_675 : fnD cL_law 675 (.iaload) 1 676 := by decide +kernel
theorem dL_law_676 : fnD cL_law 676 (.aload_n 0) 1 677 := by decide +kernel
theorem dL_law_677 : fnD cL_law 677 (.iload_n 3) 1 678 := by decide +kernel
theorem dL_law_678 : fnD cL_law 678 (.iconst 2) 1 679 := by decide +kernel
theorem dL_law_679 : fnD cL_law 679 (.iadd) 1 680 := by decide +kernel
theorem dL_law_680 : fnD cL_law 680 (.iaload) 1 681 := by decide +kernel
theorem dL_law_681 : fnD cL_law 681 (.invokevirtual 65) 3 684 := by decide +kernel
theorem dL_law_684 : fnD cL_law 684 (.aload_n 2) 1 685 := by decide +kernel
theorem dL_law_685 : fnD cL_law 685 (.aload_n 0) 1 686 := by decide +kernel
theorem dL_law_686 : fnD cL_law 686 (.iload_n 3) 1 687 := by decide +kernel
theorem dL_law_687 : fnD cL_law 687 (.iconst 1) 1 688 := by decide +kernel
theorem dL_law_688 : fnD cL_law 688 (.iadd) 1 689 := by decide +kernel
theorem dL_law_689 : fnD cL_law 689 (.iaload) 1 690 := by decide +kernel
theorem dL_law_690 : fnD cL_law 690 (.aload_n 0) 1 691 := by decide +kernel
theorem dL_law_691 : fnD cL_law 691 (.iload_n 3) 1 692 := by decide +kernel
theorem dL_law_692 : fnD cL_law 692 (.iconst 2) 1 693 := by decide +kernel
theorem dL_law_693 : fnD cL_law 693 (.iadd) 1 694 := by decide +kernel
theorem dL_law_694 : fnD cL_law 694 (.iaload) 1 695 := by decide +kernel
theorem dL_law_695 : fnD cL_law 695 (.invokevirtual 68) 3 698 := by decide +kernel
theorem dL_law_698 : fnIc cL_law 698 .eq 1769 701 := by decide +kernel
theorem dL_law_701 : fnD cL_law 701 (.iconst 0) 1 702 := by decide +kernel
theorem dL_law_702 : fnD cL_law 702 (.ireturn) 1 703 := by decide +kernel
theorem dL_law_703 : fnD cL_law 703 (.aload_n 1) 1 704 := by decide +kernel
theorem dL_law_704 : fnD cL_law 704 (.aload_n 0) 1 705 := by decide +kernel
theorem dL_law_705 : fnD cL_law 705 (.iload_n 3) 1 706 := by decide +kernel
theorem dL_law_706 : fnD cL_law 706 (.iconst 1) 1 707 := by decide +kernel
theorem dL_law_707 : fnD cL_law 707 (.iadd) 1 708 := by decide +kernel
theorem dL_law_708 : fnD cL_law 708 (.iaload) 1 709 := by decide +kernel
theorem dL_law_709 : fnD cL_law 709 (.invokevirtual 69) 3 712 := by decide +kernel
theorem dL_law_712 : fnD cL_law 712 (.aload_n 2) 1 713 := by decide +kernel
theorem dL_law_713 : fnD cL_law 713 (.aload_n 0) 1 714 := by decide +kernel
theorem dL_law_714 : fnD cL_law 714 (.iload_n 3) 1 715 := by decide +kernel
theorem dL_law_715 : fnD cL_law 715 (.iconst 1) 1 716 := by decide +kernel
theorem dL_law_716 : fnD cL_law 716 (.iadd) 1 717 := by decide +kernel
theorem dL_law_717 : fnD cL_law 717 (.iaload) 1 718 := by decide +kernel
theorem dL_law_718 : fnD cL_law 718 (.invokevirtual 72) 3 721 := by decide +kernel
theorem dL_law_721 : fnIc cL_law 721 .eq 1769 724 := by decide +kernel
theorem dL_law_724 : fnD cL_law 724 (.iconst 0) 1 725 := by decide +kernel
theorem dL_law_725 : fnD cL_law 725 (.ireturn) 1 726 := by decide +kernel
theorem dL_law_726 : fnD cL_law 726 (.aload_n 1) 1 727 := by decide +kernel
theorem dL_law_727 : fnD cL_law 727 (.aload_n 0) 1 728 := by decide +kernel
theorem dL_law_728 : fnD cL_law 728 (.iload_n 3) 1 729 := by decide +kernel
theorem dL_law_729 : fnD cL_law 729 (.iconst 1) 1 730 := by decide +kernel
theorem dL_law_730 : fnD cL_law 730 (.iadd) 1 731 := by decide +kernel
theorem dL_law_731 : fnD cL_law 731 (.iaload) 1 732 := by decide +kernel
theorem dL_law_732 : fnD cL_law 732 (.aload_n 0) 1 733 := by decide +kernel
theorem dL_law_733 : fnD cL_law 733 (.iload_n 3) 1 734 := by decide +kernel
theorem dL_law_734 : fnD cL_law 734 (.iconst 2) 1 735 := by decide +kernel
theorem dL_law_735 : fnD cL_law 735 (.iadd) 1 736 := by decide +kernel
theorem dL_law_736 : fnD cL_law 736 (.iaload) 1 737 := by decide +kernel
theorem dL_law_737 : fnD cL_law 737 (.invokevirtual 73) 3 740 := by decide +kernel
theorem dL_law_740 : fnD cL_law 740 (.aload_n 2) 1 741 := by decide +kernel
theorem dL_law_741 : fnD cL_law 741 (.aload_n 0) 1 742 := by decide +kernel
theorem dL_law_742 : fnD cL_law 742 (.iload_n 3) 1 743 := by decide +kernel
theorem dL_law_743 : fnD cL_law 743 (.iconst 1) 1 744 := by decide +kernel
theorem dL_law_744 : fnD cL_law 744 (.iadd) 1 745 := by decide +kernel
theorem dL_law_745 : fnD cL_law 745 (.iaload) 1 746 := by decide +kernel
theorem dL_law_746 : fnD cL_law 746 (.aload_n 0) 1 747 := by decide +kernel
theorem dL_law_747 : fnD cL_law 747 (.iload_n 3) 1 748 := by decide +kernel
theorem dL_law_748 : fnD cL_law 748 (.iconst 2) 1 749 := by decide +kernel
theorem dL_law_749 : fnD cL_law 749 (.iadd) 1 750 := by decide +kernel
theorem dL_law_750 : fnD cL_law 750 (.iaload) 1 751 := by decide +kernel
theorem dL_law_751 : fnD cL_law 751 (.invokevirtual 76) 3 754 := by decide +kernel
theorem dL_law_754 : fnIc cL_law 754 .eq 1769 757 := by decide +kernel
theorem dL_law_757 : fnD cL_law 757 (.iconst 0) 1 758 := by decide +kernel
theorem dL_law_758 : fnD cL_law 758 (.ireturn) 1 759 := by decide +kernel
theorem dL_law_759 : fnD cL_law 759 (.aload_n 1) 1 760 := by decide +kernel
theorem dL_law_760 : fnD cL_law 760 (.aload_n 0) 1 761 := by decide +kernel
theorem dL_law_761 : fnD cL_law 761 (.iload_n 3) 1 762 := by decide +kernel
theorem dL_law_762 : fnD cL_law 762 (.iconst 1) 1 763 := by decide +kernel
theorem dL_law_763 : fnD cL_law 763 (.iadd) 1 764 := by decide +kernel
theorem dL_law_764 : fnD cL_law 764 (.iaload) 1 765 := by decide +kernel
theorem dL_law_765 : fnD cL_law 765 (.invokevirtual 77) 3 768 := by decide +kernel
theorem dL_law_768 : fnD cL_law 768 (.aload_n 2) 1 769 := by decide +kernel
theorem dL_law_769 : fnD cL_law 769 (.aload_n 0) 1 770 := by decide +kernel
theorem dL_law_770 : fnD cL_law 770 (.iload_n 3) 1 771 := by decide +kernel
theorem dL_law_771 : fnD cL_law 771 (.iconst 1) 1 772 := by decide +kernel
theorem dL_law_772 : fnD cL_law 772 (.iadd) 1 773 := by decide +kernel
theorem dL_law_773 : fnD cL_law 773 (.iaload) 1 774 := by decide +kernel
theorem dL_law_774 : fnD cL_law 774 (.invokevirtual 80) 3 777 := by decide +kernel
theorem dL_law_777 : fnIc cL_law 777 .eq 1769 780 := by decide +kernel
theorem dL_law_780 : fnD cL_law 780 (.iconst 0) 1 781 := by decide +kernel
theorem dL_law_781 : fnD cL_law 781 (.ireturn) 1 782 := by decide +kernel
theorem dL_law_782 : fnD cL_law 782 (.aload_n 1) 1 783 := by decide +kernel
theorem dL_law_783 : fnD cL_law 783 (.aload_n 0) 1 784 := by decide +kernel
theorem dL_law_784 : fnD cL_law 784 (.iload_n 3) 1 785 := by decide +kernel
theorem dL_law_785 : fnD cL_law 785 (.iconst 1) 1 786 := by decide +kernel
theorem dL_law_786 : fnD cL_law 786 (.iadd) 1 787 := by decide +kernel
theorem dL_law_787 : fnD cL_law 787 (.iaload) 1 788 := by decide +kernel
theorem dL_law_788 : fnD cL_law 788 (.invokevirtual 81) 3 791 := by decide +kernel
theorem dL_law_791 : fnD cL_law 791 (.aload_n 2) 1 792 := by decide +kernel
theorem dL_law_792 : fnD cL_law 792 (.aload_n 0) 1 793 := by decide +kernel
theorem dL_law_793 : fnD cL_law 793 (.iload_n 3) 1 794 := by decide +kernel
theorem dL_law_794 : fnD cL_law 794 (.iconst 1) 1 795 := by decide +kernel
theorem dL_law_795 : fnD cL_law 795 (.iadd) 1 796 := by decide +kernel
theorem dL_law_796 : fnD cL_law 796 (.iaload) 1 797 := by decide +kernel
theorem dL_law_797 : fnD cL_law 797 (.invokevirtual 84) 3 800 := by decide +kernel
theorem dL_law_800 : fnIc cL_law 800 .eq 1769 803 := by decide +kernel
theorem dL_law_803 : fnD cL_law 803 (.iconst 0) 1 804 := by decide +kernel
theorem dL_law_804 : fnD cL_law 804 (.ireturn) 1 805 := by decide +kernel
theorem dL_law_805 : fnD cL_law 805 (.aload_n 1) 1 806 := by decide +kernel
theorem dL_law_806 : fnD cL_law 806 (.aload_n 0) 1 807 := by decide +kernel
theorem dL_law_807 : fnD cL_law 807 (.iload_n 3) 1 808 := by decide +kernel
theorem dL_law_808 : fnD cL_law 808 (.iconst 1) 1 809 := by decide +kernel
theorem dL_law_809 : fnD cL_law 809 (.iadd) 1 810 := by decide +kernel
theorem dL_law_810 : fnD cL_law 810 (.iaload) 1 811 := by decide +kernel
theorem dL_law_811 : fnD cL_law 811 (.aload_n 0) 1 812 := by decide +kernel
theorem dL_law_812 : fnD cL_law 812 (.iload_n 3) 1 813 := by decide +kernel
theorem dL_law_813 : fnD cL_law 813 (.iconst 2) 1 814 := by decide +kernel
theorem dL_law_814 : fnD cL_law 814 (.iadd) 1 815 := by decide +kernel
theorem dL_law_815 : fnD cL_law 815 (.iaload) 1 816 := by decide +kernel
theorem dL_law_816 : fnD cL_law 816 (.invokevirtual 85) 3 819 := by decide +kernel
theorem dL_law_819 : fnD cL_law 819 (.aload_n 2) 1 820 := by decide +kernel
theorem dL_law_820 : fnD cL_law 820 (.aload_n 0) 1 821 := by decide +kernel
theorem dL_law_821 : fnD cL_law 821 (.iload_n 3) 1 822 := by decide +kernel
theorem dL_law_822 : fnD cL_law 822 (.iconst 1) 1 823 := by decide +kernel
theorem dL_law_823 : fnD cL_law 823 (.iadd) 1 824 := by decide +kernel
theorem dL_law_824 : fnD cL_law 824 (.iaload) 1 825 := by decide +kernel
theorem dL_law_825 : fnD cL_law 825 (.aload_n 0) 1 826 := by decide +kernel
theorem dL_law_826 : fnD cL_law 826 (.iload_n 3) 1 827 := by decide +kernel
theorem dL_law_827 : fnD cL_law 827 (.iconst 2) 1 828 := by decide +kernel
theorem dL_law_828 : fnD cL_law 828 (.iadd) 1 829 := by decide +kernel
theorem dL_law_829 : fnD cL_law 829 (.iaload) 1 830 := by decide +kernel
theorem dL_law_830 : fnD cL_law 830 (.invokevirtual 88) 3 833 := by decide +kernel
theorem dL_law_833 : fnIc cL_law 833 .eq 1769 836 := by decide +kernel
theorem dL_law_836 : fnD cL_law 836 (.iconst 0) 1 837 := by decide +kernel
theorem dL_law_837 : fnD cL_law 837 (.ireturn) 1 838 := by decide +kernel
theorem dL_law_838 : fnD cL_law 838 (.aload_n 1) 1 839 := by decide +kernel
theorem dL_law_839 : fnD cL_law 839 (.aload_n 0) 1 840 := by decide +kernel
theorem dL_law_840 : fnD cL_law 840 (.iload_n 3) 1 841 := by decide +kernel
theorem dL_law_841 : fnD cL_law 841 (.iconst 1) 1 842 := by decide +kernel
theorem dL_law_842 : fnD cL_law 842 (.iadd) 1 843 := by decide +kernel
theorem dL_law_843 : fnD cL_law 843 (.iaload) 1 844 := by decide +kernel
theorem dL_law_844 : fnD cL_law 844 (.aload_n 0) 1 845 := by decide +kernel
theorem dL_law_845 : fnD cL_law 845 (.iload_n 3) 1 846 := by decide +kernel
theorem dL_law_846 : fnD cL_law 846 (.iconst 2) 1 847 := by decide +kernel
theorem dL_law_847 : fnD cL_law 847 (.iadd) 1 848 := by decide +kernel
theorem dL_law_848 : fnD cL_law 848 (.iaload) 1 849 := by decide +kernel
theorem dL_law_849 : fnD cL_law 849 (.invokevirtual 89) 3 852 := by decide +kernel
theorem dL_law_852 : fnD cL_law 852 (.aload_n 2) 1 853 := by decide +kernel
theorem dL_law_853 : fnD cL_law 853 (.aload_n 0) 1 854 := by decide +kernel
theorem dL_law_854 : fnD cL_law 854 (.iload_n 3) 1 855 := by decide +kernel
theorem dL_law_855 : fnD cL_law 855 (.iconst 1) 1 856 := by decide +kernel
theorem dL_law_856 : fnD cL_law 856 (.iadd) 1 857 := by decide +kernel
theorem dL_law_857 : fnD cL_law 857 (.iaload) 1 858 := by decide +kernel
theorem dL_law_858 : fnD cL_law 858 (.aload_n 0) 1 859 := by decide +kernel
theorem dL_law_859 : fnD cL_law 859 (.iload_n 3) 1 860 := by decide +kernel
theorem dL_law_860 : fnD cL_law 860 (.iconst 2) 1 861 := by decide +kernel
theorem dL_law_861 : fnD cL_law 861 (.iadd) 1 862 := by decide +kernel
theorem dL_law_862 : fnD cL_law 862 (.iaload) 1 863 := by decide +kernel
theorem dL_law_863 : fnD cL_law 863 (.invokevirtual 92) 3 866 := by decide +kernel
theorem dL_law_866 : fnIc cL_law 866 .eq 1769 869 := by decide +kernel
theorem dL_law_869 : fnD cL_law 869 (.iconst 0) 1 870 := by decide +kernel
theorem dL_law_870 : fnD cL_law 870 (.ireturn) 1 871 := by decide +kernel
theorem dL_law_871 : fnD cL_law 871 (.aload_n 1) 1 872 := by decide +kernel
theorem dL_law_872 : fnD cL_law 872 (.aload_n 0) 1 873 := by decide +kernel
theorem dL_law_873 : fnD cL_law 873 (.iload_n 3) 1 874 := by decide +kernel
theorem dL_law_874 : fnD cL_law 874 (.iconst 1) 1 875 := by decide +kernel
theorem dL_law_875 : fnD cL_law 875 (.iadd) 1 876 := by decide +kernel
theorem dL_law_876 : fnD cL_law 876 (.iaload) 1 877 := by decide +kernel
theorem dL_law_877 : fnD cL_law 877 (.aload_n 0) 1 878 := by decide +kernel
theorem dL_law_878 : fnD cL_law 878 (.iload_n 3) 1 879 := by decide +kernel
theorem dL_law_879 : fnD cL_law 879 (.iconst 2) 1 880 := by decide +kernel
theorem dL_law_880 : fnD cL_law 880 (.iadd) 1 881 := by decide +kernel
theorem dL_law_881 : fnD cL_law 881 (.iaload) 1 882 := by decide +kernel
theorem dL_law_882 : fnD cL_law 882 (.invokevirtual 93) 3 885 := by decide +kernel
theorem dL_law_885 : fnD cL_law 885 (.aload_n 2) 1 886 := by decide +kernel
theorem dL_law_886 : fnD cL_law 886 (.aload_n 0) 1 887 := by decide +kernel
theorem dL_law_887 : fnD cL_law 887 (.iload_n 3) 1 888 := by decide +kernel
theorem dL_law_888 : fnD cL_law 888 (.iconst 1) 1 889 := by decide +kernel
theorem dL_law_889 : fnD cL_law 889 (.iadd) 1 890 := by decide +kernel
theorem dL_law_890 : fnD cL_law 890 (.iaload) 1 891 := by decide +kernel
theorem dL_law_891 : fnD cL_law 891 (.aload_n 0) 1 892 := by decide +kernel
theorem dL_law_892 : fnD cL_law 892 (.iload_n 3) 1 893 := by decide +kernel
theorem dL_law_893 : fnD cL_law 893 (.iconst 2) 1 894 := by decide +kernel
theorem dL_law_894 : fnD cL_law 894 (.iadd) 1 895 := by decide +kernel
theorem dL_law_895 : fnD cL_law 895 (.iaload) 1 896 := by decide +kernel
theorem dL_law_896 : fnD cL_law 896 (.invokevirtual 96) 3 899 := by decide +kernel
theorem dL_law_899 : fnIc cL_law 899 .eq 1769 902 := by decide +kernel
theorem dL_law_902 : fnD cL_law 902 (.iconst 0) 1 903 := by decide +kernel
theorem dL_law_903 : fnD cL_law 903 (.ireturn) 1 904 := by decide +kernel
theorem dL_law_904 : fnD cL_law 904 (.aload_n 1) 1 905 := by decide +kernel
theorem dL_law_905 : fnD cL_law 905 (.aload_n 0) 1 906 := by decide +kernel
theorem dL_law_906 : fnD cL_law 906 (.iload_n 3) 1 907 := by decide +kernel
theorem dL_law_907 : fnD cL_law 907 (.iconst 1) 1 908 := by decide +kernel
theorem dL_law_908 : fnD cL_law 908 (.iadd) 1 909 := by decide +kernel
theorem dL_law_909 : fnD cL_law 909 (.iaload) 1 910 := by decide +kernel
theorem dL_law_910 : fnD cL_law 910 (.aload_n 0) 1 911 := by decide +kernel
theorem dL_law_911 : fnD cL_law 911 (.iload_n 3) 1 912 := by decide +kernel
theorem dL_law_912 : fnD cL_law 912 (.iconst 2) 1 913 := by decide +kernel
theorem dL_law_913 : fnD cL_law 913 (.iadd) 1 914 := by decide +kernel
theorem dL_law_914 : fnD cL_law 914 (.iaload) 1 915 := by decide +kernel
theorem dL_law_915 : fnD cL_law 915 (.aload_n 0) 1 916 := by decide +kernel
theorem dL_law_916 : fnD cL_law 916 (.iload_n 3) 1 917 := by decide +kernel
theorem dL_law_917 : fnD cL_law 917 (.iconst 3) 1 918 := by decide +kernel
theorem dL_law_918 : fnD cL_law 918 (.iadd) 1 919 := by decide +kernel
theorem dL_law_919 : fnD cL_law 919 (.iaload) 1 920 := by decide +kernel
theorem dL_law_920 : fnD cL_law 920 (.aload_n 0) 1 921 := by decide +kernel
theorem dL_law_921 : fnD cL_law 921 (.iload_n 3) 1 922 := by decide +kernel
theorem dL_law_922 : fnD cL_law 922 (.iconst 4) 1 923 := by decide +kernel
theorem dL_law_923 : fnD cL_law 923 (.iadd) 1 924 := by decide +kernel
theorem dL_law_924 : fnD cL_law 924 (.iaload) 1 925 := by decide +kernel
theorem dL_law_925 : fnIf cL_law 925 .eq 932 928 := by decide +kernel
theorem dL_law_928 : fnD cL_law 928 (.iconst 1) 1 929 := by decide +kernel
theorem dL_law_929 : fnGo cL_law 929 933 := by decide +kernel
theorem dL_law_932 : fnD cL_law 932 (.iconst 0) 1 933 := by decide +kernel
theorem dL_law_933 : fnD cL_law 933 (.invokevirtual 97) 3 936 := by decide +kernel
theorem dL_law_936 : fnD cL_law 936 (.aload_n 2) 1 937 := by decide +kernel
theorem dL_law_937 : fnD cL_law 937 (.aload_n 0) 1 938 := by decide +kernel
theorem dL_law_938 : fnD cL_law 938 (.iload_n 3) 1 939 := by decide +kernel
theorem dL_law_939 : fnD cL_law 939 (.iconst 1) 1 940 := by decide +kernel
theorem dL_law_940 : fnD cL_law 940 (.iadd) 1 941 := by decide +kernel
theorem dL_law_941 : fnD cL_law 941 (.iaload) 1 942 := by decide +kernel
theorem dL_law_942 : fnD cL_law 942 (.aload_n 0) 1 943 := by decide +kernel
theorem dL_law_943 : fnD cL_law 943 (.iload_n 3) 1 944 := by decide +kernel
theorem dL_law_944 : fnD cL_law 944 (.iconst 2) 1 945 := by decide +kernel
theorem dL_law_945 : fnD cL_law 945 (.iadd) 1 946 := by decide +kernel
theorem dL_law_946 : fnD cL_law 946 (.iaload) 1 947 := by decide +kernel
theorem dL_law_947 : fnD cL_law 947 (.aload_n 0) 1 948 := by decide +kernel
theorem dL_law_948 : fnD cL_law 948 (.iload_n 3) 1 949 := by decide +kernel
theorem dL_law_949 : fnD cL_law 949 (.iconst 3) 1 950 := by decide +kernel
theorem dL_law_950 : fnD cL_law 950 (.iadd) 1 951 := by decide +kernel
theorem dL_law_951 : fnD cL_law 951 (.iaload) 1 952 := by decide +kernel
theorem dL_law_952 : fnD cL_law 952 (.aload_n 0) 1 953 := by decide +kernel
theorem dL_law_953 : fnD cL_law 953 (.iload_n 3) 1 954 := by decide +kernel
theorem dL_law_954 : fnD cL_law 954 (.iconst 4) 1 955 := by decide +kernel
theorem dL_law_955 : fnD cL_law 955 (.iadd) 1 956 := by decide +kernel
theorem dL_law_956 : fnD cL_law 956 (.iaload) 1 957 := by decide +kernel
theorem dL_law_957 : fnIf cL_law 957 .eq 964 960 := by decide +kernel
theorem dL_law_960 : fnD cL_law 960 (.iconst 1) 1 961 := by decide +kernel
theorem dL_law_961 : fnGo cL_law 961 965 := by decide +kernel
theorem dL_law_964 : fnD cL_law 964 (.iconst 0) 1 965 := by decide +kernel
theorem dL_law_965 : fnD cL_law 965 (.invokevirtual 101) 3 968 := by decide +kernel
theorem dL_law_968 : fnIc cL_law 968 .eq 1769 971 := by decide +kernel
theorem dL_law_971 : fnD cL_law 971 (.iconst 0) 1 972 := by decide +kernel
theorem dL_law_972 : fnD cL_law 972 (.ireturn) 1 973 := by decide +kernel
theorem dL_law_973 : fnD cL_law 973 (.aload_n 1) 1 974 := by decide +kernel
theorem dL_law_974 : fnD cL_law 974 (.aload_n 0) 1 975 := by decide +kernel
theorem dL_law_975 : fnD cL_law 975 (.iload_n 3) 1 976 := by decide +kernel
theorem dL_law_976 : fnD cL_law 976 (.iconst 1) 1 977 := by decide +kernel
theorem dL_law_977 : fnD cL_law 977 (.iadd) 1 978 := by decide +kernel
theorem dL_law_978 : fnD cL_law 978 (.iaload) 1 979 := by decide +kernel
theorem dL_law_979 : fnD cL_law 979 (.aload_n 0) 1 980 := by decide +kernel
theorem dL_law_980 : fnD cL_law 980 (.iload_n 3) 1 981 := by decide +kernel
theorem dL_law_981 : fnD cL_law 981 (.iconst 2) 1 982 := by decide +kernel
theorem dL_law_982 : fnD cL_law 982 (.iadd) 1 983 := by decide +kernel
theorem dL_law_983 : fnD cL_law 983 (.iaload) 1 984 := by decide +kernel
theorem dL_law_984 : fnD cL_law 984 (.invokevirtual 102) 3 987 := by decide +kernel
theorem dL_law_987 : fnD cL_law 987 (.aload_n 2) 1 988 := by decide +kernel
theorem dL_law_988 : fnD cL_law 988 (.aload_n 0) 1 989 := by decide +kernel
theorem dL_law_989 : fnD cL_law 989 (.iload_n 3) 1 990 := by decide +kernel
theorem dL_law_990 : fnD cL_law 990 (.iconst 1) 1 991 := by decide +kernel
theorem dL_law_991 : fnD cL_law 991 (.iadd) 1 992 := by decide +kernel
theorem dL_law_992 : fnD cL_law 992 (.iaload) 1 993 := by decide +kernel
theorem dL_law_993 : fnD cL_law 993 (.aload_n 0) 1 994 := by decide +kernel
theorem dL_law_994 : fnD cL_law 994 (.iload_n 3) 1 995 := by decide +kernel
theorem dL_law_995 : fnD cL_law 995 (.iconst 2) 1 996 := by decide +kernel
theorem dL_law_996 : fnD cL_law 996 (.iadd) 1 997 := by decide +kernel
theorem dL_law_997 : fnD cL_law 997 (.iaload) 1 998 := by decide +kernel
theorem dL_law_998 : fnD cL_law 998 (.invokevirtual 105) 3 1001 := by decide +kernel
theorem dL_law_1001 : fnIc cL_law 1001 .eq 1769 1004 := by decide +kernel
theorem dL_law_1004 : fnD cL_law 1004 (.iconst 0) 1 1005 := by decide +kernel
theorem dL_law_1005 : fnD cL_law 1005 (.ireturn) 1 1006 := by decide +kernel
theorem dL_law_1006 : fnD cL_law 1006 (.aload_n 1) 1 1007 := by decide +kernel
theorem dL_law_1007 : fnD cL_law 1007 (.invokevirtual 106) 3 1010 := by decide +kernel
theorem dL_law_1010 : fnD cL_law 1010 (.aload_n 2) 1 1011 := by decide +kernel
theorem dL_law_1011 : fnD cL_law 1011 (.invokevirtual 110) 3 1014 := by decide +kernel
theorem dL_law_1014 : fnIc cL_law 1014 .eq 1769 1017 := by decide +kernel
theorem dL_law_1017 : fnD cL_law 1017 (.iconst 0) 1 1018 := by decide +kernel
theorem dL_law_1018 : fnD cL_law 1018 (.ireturn) 1 1019 := by decide +kernel
theorem dL_law_1019 : fnD cL_law 1019 (.aload_n 1) 1 1020 := by decide +kernel
theorem dL_law_1020 : fnD cL_law 1020 (.aload_n 0) 1 1021 := by decide +kernel
theorem dL_law_1021 : fnD cL_law 1021 (.iload_n 3) 1 1022 := by decide +kernel
theorem dL_law_1022 : fnD cL_law 1022 (.iconst 1) 1 1023 := by decide +kernel
theorem dL_law_1023 : fnD cL_law 1023 (.iadd) 1 1024 := by decide +kernel
theorem dL_law_1024 : fnD cL_law 1024 (.iaload) 1 1025 := by decide +kernel
theorem dL_law_1025 : fnD cL_law 1025 (.invokevirtual 111) 3 1028 := by decide +kernel
theorem dL_law_1028 : fnD cL_law 1028 (.aload_n 2) 1 1029 := by decide +kernel
theorem dL_law_1029 : fnD cL_law 1029 (.aload_n 0) 1 1030 := by decide +kernel
theorem dL_law_1030 : fnD cL_law 1030 (.iload_n 3) 1 1031 := by decide +kernel
theorem dL_law_1031 : fnD cL_law 1031 (.iconst 1) 1 1032 := by decide +kernel
theorem dL_law_1032 : fnD cL_law 1032 (.iadd) 1 1033 := by decide +kernel
theorem dL_law_1033 : fnD cL_law 1033 (.iaload) 1 1034 := by decide +kernel
theorem dL_law_1034 : fnD cL_law 1034 (.invokevirtual 114) 3 1037 := by decide +kernel
theorem dL_law_1037 : fnIc cL_law 1037 .eq 1769 1040 := by decide +kernel
theorem dL_law_1040 : fnD cL_law 1040 (.iconst 0) 1 1041 := by decide +kernel
theorem dL_law_1041 : fnD cL_law 1041 (.ireturn) 1 1042 := by decide +kernel
theorem dL_law_1042 : fnD cL_law 1042 (.aload_n 1) 1 1043 := by decide +kernel
theorem dL_law_1043 : fnD cL_law 1043 (.aload_n 0) 1 1044 := by decide +kernel
theorem dL_law_1044 : fnD cL_law 1044 (.iload_n 3) 1 1045 := by decide +kernel
theorem dL_law_1045 : fnD cL_law 1045 (.iconst 1) 1 1046 := by decide +kernel
theorem dL_law_1046 : fnD cL_law 1046 (.iadd) 1 1047 := by decide +kernel
theorem dL_law_1047 : fnD cL_law 1047 (.iaload) 1 1048 := by decide +kernel
theorem dL_law_1048 : fnD cL_law 1048 (.invokevirtual 115) 3 1051 := by decide +kernel
theorem dL_law_1051 : fnD cL_law 1051 (.aload_n 2) 1 1052 := by decide +kernel
theorem dL_law_1052 : fnD cL_law 1052 (.aload_n 0) 1 1053 := by decide +kernel
theorem dL_law_1053 : fnD cL_law 1053 (.iload_n 3) 1 1054 := by decide +kernel
theorem dL_law_1054 : fnD cL_law 1054 (.iconst 1) 1 1055 := by decide +kernel
theorem dL_law_1055 : fnD cL_law 1055 (.iadd) 1 1056 := by decide +kernel
theorem dL_law_1056 : fnD cL_law 1056 (.iaload) 1 1057 := by decide +kernel
theorem dL_law_1057 : fnD cL_law 1057 (.invokevirtual 118) 3 1060 := by decide +kernel
theorem dL_law_1060 : fnIc cL_law 1060 .eq 1769 1063 := by decide +kernel
theorem dL_law_1063 : fnD cL_law 1063 (.iconst 0) 1 1064 := by decide +kernel
theorem dL_law_1064 : fnD cL_law 1064 (.ireturn) 1 1065 := by decide +kernel
theorem dL_law_1065 : fnD cL_law 1065 (.aload_n 1) 1 1066 := by decide +kernel
theorem dL_law_1066 : fnD cL_law 1066 (.invokevirtual 119) 3 1069 := by decide +kernel
theorem dL_law_1069 : fnD cL_law 1069 (.aload_n 2) 1 1070 := by decide +kernel
theorem dL_law_1070 : fnD cL_law 1070 (.invokevirtual 122) 3 1073 := by decide +kernel
theorem dL_law_1073 : fnIc cL_law 1073 .eq 1769 1076 := by decide +kernel
theorem dL_law_1076 : fnD cL_law 1076 (.iconst 0) 1 1077 := by decide +kernel
theorem dL_law_1077 : fnD cL_law 1077 (.ireturn) 1 1078 := by decide +kernel
theorem dL_law_1078 : fnD cL_law 1078 (.aload_n 1) 1 1079 := by decide +kernel
theorem dL_law_1079 : fnD cL_law 1079 (.aload_n 0) 1 1080 := by decide +kernel
theorem dL_law_1080 : fnD cL_law 1080 (.iload_n 3) 1 1081 := by decide +kernel
theorem dL_law_1081 : fnD cL_law 1081 (.iconst 1) 1 1082 := by decide +kernel
theorem dL_law_1082 : fnD cL_law 1082 (.iadd) 1 1083 := by decide +kernel
theorem dL_law_1083 : fnD cL_law 1083 (.iaload) 1 1084 := by decide +kernel
theorem dL_law_1084 : fnD cL_law 1084 (.invokevirtual 123) 3 1087 := by decide +kernel
theorem dL_law_1087 : fnD cL_law 1087 (.aload_n 2) 1 1088 := by decide +kernel
theorem dL_law_1088 : fnD cL_law 1088 (.aload_n 0) 1 1089 := by decide +kernel
theorem dL_law_1089 : fnD cL_law 1089 (.iload_n 3) 1 1090 := by decide +kernel
theorem dL_law_1090 : fnD cL_law 1090 (.iconst 1) 1 1091 := by decide +kernel
theorem dL_law_1091 : fnD cL_law 1091 (.iadd) 1 1092 := by decide +kernel
theorem dL_law_1092 : fnD cL_law 1092 (.iaload) 1 1093 := by decide +kernel
theorem dL_law_1093 : fnD cL_law 1093 (.invokevirtual 126) 3 1096 := by decide +kernel
theorem dL_law_1096 : fnIc cL_law 1096 .eq 1769 1099 := by decide +kernel
theorem dL_law_1099 : fnD cL_law 1099 (.iconst 0) 1 1100 := by decide +kernel
theorem dL_law_1100 : fnD cL_law 1100 (.ireturn) 1 1101 := by decide +kernel
theorem dL_law_1101 : fnD cL_law 1101 (.aload_n 1) 1 1102 := by decide +kernel
theorem dL_law_1102 : fnD cL_law 1102 (.invokevirtual 127) 3 1105 := by decide +kernel
theorem dL_law_1105 : fnD cL_law 1105 (.aload_n 2) 1 1106 := by decide +kernel
theorem dL_law_1106 : fnD cL_law 1106 (.invokevirtual 130) 3 1109 := by decide +kernel
theorem dL_law_1109 : fnIc cL_law 1109 .eq 1769 1112 := by decide +kernel
theorem dL_law_1112 : fnD cL_law 1112 (.iconst 0) 1 1113 := by decide +kernel
theorem dL_law_1113 : fnD cL_law 1113 (.ireturn) 1 1114 := by decide +kernel
theorem dL_law_1114 : fnD cL_law 1114 (.aload_n 1) 1 1115 := by decide +kernel
theorem dL_law_1115 : fnD cL_law 1115 (.aload_n 0) 1 1116 := by decide +kernel
theorem dL_law_1116 : fnD cL_law 1116 (.iload_n 3) 1 1117 := by decide +kernel
theorem dL_law_1117 : fnD cL_law 1117 (.iconst 1) 1 1118 := by decide +kernel
theorem dL_law_1118 : fnD cL_law 1118 (.iadd) 1 1119 := by decide +kernel
theorem dL_law_1119 : fnD cL_law 1119 (.iaload) 1 1120 := by decide +kernel
theorem dL_law_1120 : fnD cL_law 1120 (.aload_n 0) 1 1121 := by decide +kernel
theorem dL_law_1121 : fnD cL_law 1121 (.iload_n 3) 1 1122 := by decide +kernel
theorem dL_law_1122 : fnD cL_law 1122 (.iconst 2) 1 1123 := by decide +kernel
theorem dL_law_1123 : fnD cL_law 1123 (.iadd) 1 1124 := by decide +kernel
theorem dL_law_1124 : fnD cL_law 1124 (.iaload) 1 1125 := by decide +kernel
theorem dL_law_1125 : fnD cL_law 1125 (.aload_n 0) 1 1126 := by decide +kernel
theorem dL_law_1126 : fnD cL_law 1126 (.iload_n 3) 1 1127 := by decide +kernel
theorem dL_law_1127 : fnD cL_law 1127 (.iconst 3) 1 1128 := by decide +kernel
theorem dL_law_1128 : fnD cL_law 1128 (.iadd) 1 1129 := by decide +kernel
theorem dL_law_1129 : fnD cL_law 1129 (.iaload) 1 1130 := by decide +kernel
theorem dL_law_1130 : fnD cL_law 1130 (.invokevirtual 131) 3 1133 := by decide +kernel
theorem dL_law_1133 : fnD cL_law 1133 (.aload_n 2) 1 1134 := by decide +kernel
theorem dL_law_1134 : fnD cL_law 1134 (.aload_n 0) 1 1135 := by decide +kernel
theorem dL_law_1135 : fnD cL_law 1135 (.iload_n 3) 1 1136 := by decide +kernel
theorem dL_law_1136 : fnD cL_law 1136 (.iconst 1) 1 1137 := by decide +kernel
theorem dL_law_1137 : fnD cL_law 1137 (.iadd) 1 1138 := by decide +kernel
theorem dL_law_1138 : fnD cL_law 1138 (.iaload) 1 1139 := by decide +kernel
theorem dL_law_1139 : fnD cL_law 1139 (.aload_n 0) 1 1140 := by decide +kernel
theorem dL_law_1140 : fnD cL_law 1140 (.iload_n 3) 1 1141 := by decide +kernel
theorem dL_law_1141 : fnD cL_law 1141 (.iconst 2) 1 1142 := by decide +kernel
theorem dL_law_1142 : fnD cL_law 1142 (.iadd) 1 1143 := by decide +kernel
theorem dL_law_1143 : fnD cL_law 1143 (.iaload) 1 1144 := by decide +kernel
theorem dL_law_1144 : fnD cL_law 1144 (.aload_n 0) 1 1145 := by decide +kernel
theorem dL_law_1145 : fnD cL_law 1145 (.iload_n 3) 1 1146 := by decide +kernel
theorem dL_law_1146 : fnD cL_law 1146 (.iconst 3) 1 1147 := by decide +kernel
theorem dL_law_1147 : fnD cL_law 1147 (.iadd) 1 1148 := by decide +kernel
theorem dL_law_1148 : fnD cL_law 1148 (.iaload) 1 1149 := by decide +kernel
theorem dL_law_1149 : fnD cL_law 1149 (.invokevirtual 134) 3 1152 := by decide +kernel
theorem dL_law_1152 : fnIc cL_law 1152 .eq 1769 1155 := by decide +kernel
theorem dL_law_1155 : fnD cL_law 1155 (.iconst 0) 1 1156 := by decide +kernel
theorem dL_law_1156 : fnD cL_law 1156 (.ireturn) 1 1157 := by decide +kernel
theorem dL_law_1157 : fnD cL_law 1157 (.aload_n 1) 1 1158 := by decide +kernel
theorem dL_law_1158 : fnD cL_law 1158 (.aload_n 0) 1 1159 := by decide +kernel
theorem dL_law_1159 : fnD cL_law 1159 (.iload_n 3) 1 1160 := by decide +kernel
theorem dL_law_1160 : fnD cL_law 1160 (.iconst 1) 1 1161 := by decide +kernel
theorem dL_law_1161 : fnD cL_law 1161 (.iadd) 1 1162 := by decide +kernel
theorem dL_law_1162 : fnD cL_law 1162 (.iaload) 1 1163 := by decide +kernel
theorem dL_law_1163 : fnD cL_law 1163 (.aload_n 0) 1 1164 := by decide +kernel
theorem dL_law_1164 : fnD cL_law 1164 (.iload_n 3) 1 1165 := by decide +kernel
theorem dL_law_1165 : fnD cL_law 1165 (.iconst 2) 1 1166 := by decide +kernel
theorem dL_law_1166 : fnD cL_law 1166 (.iadd) 1 1167 := by decide +kernel
theorem dL_law_1167 : fnD cL_law 1167 (.iaload) 1 1168 := by decide +kernel
theorem dL_law_1168 : fnD cL_law 1168 (.invokevirtual 135) 3 1171 := by decide +kernel
theorem dL_law_1171 : fnD cL_law 1171 (.aload_n 2) 1 1172 := by decide +kernel
theorem dL_law_1172 : fnD cL_law 1172 (.aload_n 0) 1 1173 := by decide +kernel
theorem dL_law_1173 : fnD cL_law 1173 (.iload_n 3) 1 1174 := by decide +kernel
theorem dL_law_1174 : fnD cL_law 1174 (.iconst 1) 1 1175 := by decide +kernel
theorem dL_law_1175 : fnD cL_law 1175 (.iadd) 1 1176 := by decide +kernel
theorem dL_law_1176 : fnD cL_law 1176 (.iaload) 1 1177 := by decide +kernel
theorem dL_law_1177 : fnD cL_law 1177 (.aload_n 0) 1 1178 := by decide +kernel
theorem dL_law_1178 : fnD cL_law 1178 (.iload_n 3) 1 1179 := by decide +kernel
theorem dL_law_1179 : fnD cL_law 1179 (.iconst 2) 1 1180 := by decide +kernel
theorem dL_law_1180 : fnD cL_law 1180 (.iadd) 1 1181 := by decide +kernel
theorem dL_law_1181 : fnD cL_law 1181 (.iaload) 1 1182 := by decide +kernel
theorem dL_law_1182 : fnD cL_law 1182 (.invokevirtual 138) 3 1185 := by decide +kernel
theorem dL_law_1185 : fnIc cL_law 1185 .eq 1769 1188 := by decide +kernel
theorem dL_law_1188 : fnD cL_law 1188 (.iconst 0) 1 1189 := by decide +kernel
theorem dL_law_1189 : fnD cL_law 1189 (.ireturn) 1 1190 := by decide +kernel
theorem dL_law_1190 : fnD cL_law 1190 (.aload_n 1) 1 1191 := by decide +kernel
theorem dL_law_1191 : fnD cL_law 1191 (.aload_n 0) 1 1192 := by decide +kernel
theorem dL_law_1192 : fnD cL_law 1192 (.iload_n 3) 1 1193 := by decide +kernel
theorem dL_law_1193 : fnD cL_law 1193 (.iconst 1) 1 1194 := by decide +kernel
theorem dL_law_1194 : fnD cL_law 1194 (.iadd) 1 1195 := by decide +kernel
theorem dL_law_1195 : fnD cL_law 1195 (.iaload) 1 1196 := by decide +kernel
theorem dL_law_1196 : fnD cL_law 1196 (.aload_n 0) 1 1197 := by decide +kernel
theorem dL_law_1197 : fnD cL_law 1197 (.iload_n 3) 1 1198 := by decide +kernel
theorem dL_law_1198 : fnD cL_law 1198 (.iconst 2) 1 1199 := by decide +kernel
theorem dL_law_1199 : fnD cL_law 1199 (.iadd) 1 1200 := by decide +kernel
theorem dL_law_1200 : fnD cL_law 1200 (.iaload) 1 1201 := by decide +kernel
theorem dL_law_1201 : fnD cL_law 1201 (.aload_n 0) 1 1202 := by decide +kernel
theorem dL_law_1202 : fnD cL_law 1202 (.iload_n 3) 1 1203 := by decide +kernel
theorem dL_law_1203 : fnD cL_law 1203 (.iconst 3) 1 1204 := by decide +kernel
theorem dL_law_1204 : fnD cL_law 1204 (.iadd) 1 1205 := by decide +kernel
theorem dL_law_1205 : fnD cL_law 1205 (.iaload) 1 1206 := by decide +kernel
theorem dL_law_1206 : fnD cL_law 1206 (.aload_n 0) 1 1207 := by decide +kernel
theorem dL_law_1207 : fnD cL_law 1207 (.iload_n 3) 1 1208 := by decide +kernel
theorem dL_law_1208 : fnD cL_law 1208 (.iconst 4) 1 1209 := by decide +kernel
theorem dL_law_1209 : fnD cL_law 1209 (.iadd) 1 1210 := by decide +kernel
theorem dL_law_1210 : fnD cL_law 1210 (.iaload) 1 1211 := by decide +kernel
theorem dL_law_1211 : fnD cL_law 1211 (.aload_n 0) 1 1212 := by decide +kernel
theorem dL_law_1212 : fnD cL_law 1212 (.iload_n 3) 1 1213 := by decide +kernel
theorem dL_law_1213 : fnD cL_law 1213 (.iconst 5) 1 1214 := by decide +kernel
theorem dL_law_1214 : fnD cL_law 1214 (.iadd) 1 1215 := by decide +kernel
theorem dL_law_1215 : fnD cL_law 1215 (.iaload) 1 1216 := by decide +kernel
theorem dL_law_1216 : fnIf cL_law 1216 .eq 1223 1219 := by decide +kernel
theorem dL_law_1219 : fnD cL_law 1219 (.iconst 1) 1 1220 := by decide +kernel
theorem dL_law_1220 : fnGo cL_law 1220 1224 := by decide +kernel
theorem dL_law_1223 : fnD cL_law 1223 (.iconst 0) 1 1224 := by decide +kernel
theorem dL_law_1224 : fnD cL_law 1224 (.invokevirtual 139) 3 1227 := by decide +kernel
theorem dL_law_1227 : fnD cL_law 1227 (.aload_n 2) 1 1228 := by decide +kernel
theorem dL_law_1228 : fnD cL_law 1228 (.aload_n 0) 1 1229 := by decide +kernel
theorem dL_law_1229 : fnD cL_law 1229 (.iload_n 3) 1 1230 := by decide +kernel
theorem dL_law_1230 : fnD cL_law 1230 (.iconst 1) 1 1231 := by decide +kernel
theorem dL_law_1231 : fnD cL_law 1231 (.iadd) 1 1232 := by decide +kernel
theorem dL_law_1232 : fnD cL_law 1232 (.iaload) 1 1233 := by decide +kernel
theorem dL_law_1233 : fnD cL_law 1233 (.aload_n 0) 1 1234 := by decide +kernel
theorem dL_law_1234 : fnD cL_law 1234 (.iload_n 3) 1 1235 := by decide +kernel
theorem dL_law_1235 : fnD cL_law 1235 (.iconst 2) 1 1236 := by decide +kernel
theorem dL_law_1236 : fnD cL_law 1236 (.iadd) 1 1237 := by decide +kernel
theorem dL_law_1237 : fnD cL_law 1237 (.iaload) 1 1238 := by decide +kernel
theorem dL_law_1238 : fnD cL_law 1238 (.aload_n 0) 1 1239 := by decide +kernel
theorem dL_law_1239 : fnD cL_law 1239 (.iload_n 3) 1 1240 := by decide +kernel
theorem dL_law_1240 : fnD cL_law 1240 (.iconst 3) 1 1241 := by decide +kernel
theorem dL_law_1241 : fnD cL_law 1241 (.iadd) 1 1242 := by decide +kernel
theorem dL_law_1242 : fnD cL_law 1242 (.iaload) 1 1243 := by decide +kernel
theorem dL_law_1243 : fnD cL_law 1243 (.aload_n 0) 1 1244 := by decide +kernel
theorem dL_law_1244 : fnD cL_law 1244 (.iload_n 3) 1 1245 := by decide +kernel
theorem dL_law_1245 : fnD cL_law 1245 (.iconst 4) 1 1246 := by decide +kernel
theorem dL_law_1246 : fnD cL_law 1246 (.iadd) 1 1247 := by decide +kernel
theorem dL_law_1247 : fnD cL_law 1247 (.iaload) 1 1248 := by decide +kernel
theorem dL_law_1248 : fnD cL_law 1248 (.aload_n 0) 1 1249 := by decide +kernel
theorem dL_law_1249 : fnD cL_law 1249 (.iload_n 3) 1 1250 := by decide +kernel
theorem dL_law_1250 : fnD cL_law 1250 (.iconst 5) 1 1251 := by decide +kernel
theorem dL_law_1251 : fnD cL_law 1251 (.iadd) 1 1252 := by decide +kernel
theorem dL_law_1252 : fnD cL_law 1252 (.iaload) 1 1253 := by decide +kernel
theorem dL_law_1253 : fnIf cL_law 1253 .eq 1260 1256 := by decide +kernel
theorem dL_law_1256 : fnD cL_law 1256 (.iconst 1) 1 1257 := by decide +kernel
theorem dL_law_1257 : fnGo cL_law 1257 1261 := by decide +kernel
theorem dL_law_1260 : fnD cL_law 1260 (.iconst 0) 1 1261 := by decide +kernel
theorem dL_law_1261 : fnD cL_law 1261 (.invokevirtual 143) 3 1264 := by decide +kernel
theorem dL_law_1264 : fnIc cL_law 1264 .eq 1769 1267 := by decide +kernel
theorem dL_law_1267 : fnD cL_law 1267 (.iconst 0) 1 1268 := by decide +kernel
theorem dL_law_1268 : fnD cL_law 1268 (.ireturn) 1 1269 := by decide +kernel
theorem dL_law_1269 : fnD cL_law 1269 (.aload_n 1) 1 1270 := by decide +kernel
theorem dL_law_1270 : fnD cL_law 1270 (.aload_n 0) 1 1271 := by decide +kernel
theorem dL_law_1271 : fnD cL_law 1271 (.iload_n 3) 1 1272 := by decide +kernel
theorem dL_law_1272 : fnD cL_law 1272 (.iconst 1) 1 1273 := by decide +kernel
theorem dL_law_1273 : fnD cL_law 1273 (.iadd) 1 1274 := by decide +kernel
theorem dL_law_1274 : fnD cL_law 1274 (.iaload) 1 1275 := by decide +kernel
theorem dL_law_1275 : fnD cL_law 1275 (.aload_n 0) 1 1276 := by decide +kernel
theorem dL_law_1276 : fnD cL_law 1276 (.iload_n 3) 1 1277 := by decide +kernel
theorem dL_law_1277 : fnD cL_law 1277 (.iconst 2) 1 1278 := by decide +kernel
theorem dL_law_1278 : fnD cL_law 1278 (.iadd) 1 1279 := by decide +kernel
theorem dL_law_1279 : fnD cL_law 1279 (.iaload) 1 1280 := by decide +kernel
theorem dL_law_1280 : fnD cL_law 1280 (.aload_n 0) 1 1281 := by decide +kernel
theorem dL_law_1281 : fnD cL_law 1281 (.iload_n 3) 1 1282 := by decide +kernel
theorem dL_law_1282 : fnD cL_law 1282 (.iconst 3) 1 1283 := by decide +kernel
theorem dL_law_1283 : fnD cL_law 1283 (.iadd) 1 1284 := by decide +kernel
theorem dL_law_1284 : fnD cL_law 1284 (.iaload) 1 1285 := by decide +kernel
theorem dL_law_1285 : fnD cL_law 1285 (.aload_n 0) 1 1286 := by decide +kernel
theorem dL_law_1286 : fnD cL_law 1286 (.iload_n 3) 1 1287 := by decide +kernel
theorem dL_law_1287 : fnD cL_law 1287 (.iconst 4) 1 1288 := by decide +kernel
theorem dL_law_1288 : fnD cL_law 1288 (.iadd) 1 1289 := by decide +kernel
theorem dL_law_1289 : fnD cL_law 1289 (.iaload) 1 1290 := by decide +kernel
theorem dL_law_1290 : fnD cL_law 1290 (.aload_n 0) 1 1291 := by decide +kernel
theorem dL_law_1291 : fnD cL_law 1291 (.iload_n 3) 1 1292 := by decide +kernel
theorem dL_law_1292 : fnD cL_law 1292 (.iconst 5) 1 1293 := by decide +kernel
theorem dL_law_1293 : fnD cL_law 1293 (.iadd) 1 1294 := by decide +kernel
theorem dL_law_1294 : fnD cL_law 1294 (.iaload) 1 1295 := by decide +kernel
theorem dL_law_1295 : fnD cL_law 1295 (.invokevirtual 144) 3 1298 := by decide +kernel
theorem dL_law_1298 : fnD cL_law 1298 (.aload_n 2) 1 1299 := by decide +kernel
theorem dL_law_1299 : fnD cL_law 1299 (.aload_n 0) 1 1300 := by decide +kernel
theorem dL_law_1300 : fnD cL_law 1300 (.iload_n 3) 1 1301 := by decide +kernel
theorem dL_law_1301 : fnD cL_law 1301 (.iconst 1) 1 1302 := by decide +kernel
theorem dL_law_1302 : fnD cL_law 1302 (.iadd) 1 1303 := by decide +kernel
theorem dL_law_1303 : fnD cL_law 1303 (.iaload) 1 1304 := by decide +kernel
theorem dL_law_1304 : fnD cL_law 1304 (.aload_n 0) 1 1305 := by decide +kernel
theorem dL_law_1305 : fnD cL_law 1305 (.iload_n 3) 1 1306 := by decide +kernel
theorem dL_law_1306 : fnD cL_law 1306 (.iconst 2) 1 1307 := by decide +kernel
theorem dL_law_1307 : fnD cL_law 1307 (.iadd) 1 1308 := by decide +kernel
theorem dL_law_1308 : fnD cL_law 1308 (.iaload) 1 1309 := by decide +kernel
theorem dL_law_1309 : fnD cL_law 1309 (.aload_n 0) 1 1310 := by decide +kernel
theorem dL_law_1310 : fnD cL_law 1310 (.iload_n 3) 1 1311 := by decide +kernel
theorem dL_law_1311 : fnD cL_law 1311 (.iconst 3) 1 1312 := by decide +kernel
theorem dL_law_1312 : fnD cL_law 1312 (.iadd) 1 1313 := by decide +kernel
theorem dL_law_1313 : fnD cL_law 1313 (.iaload) 1 1314 := by decide +kernel
theorem dL_law_1314 : fnD cL_law 1314 (.aload_n 0) 1 1315 := by decide +kernel
theorem dL_law_1315 : fnD cL_law 1315 (.iload_n 3) 1 1316 := by decide +kernel
theorem dL_law_1316 : fnD cL_law 1316 (.iconst 4) 1 1317 := by decide +kernel
theorem dL_law_1317 : fnD cL_law 1317 (.iadd) 1 1318 := by decide +kernel
theorem dL_law_1318 : fnD cL_law 1318 (.iaload) 1 1319 := by decide +kernel
theorem dL_law_1319 : fnD cL_law 1319 (.aload_n 0) 1 1320 := by decide +kernel
theorem dL_law_1320 : fnD cL_law 1320 (.iload_n 3) 1 1321 := by decide +kernel
theorem dL_law_1321 : fnD cL_law 1321 (.iconst 5) 1 1322 := by decide +kernel
theorem dL_law_1322 : fnD cL_law 1322 (.iadd) 1 1323 := by decide +kernel
theorem dL_law_1323 : fnD cL_law 1323 (.iaload) 1 1324 := by decide +kernel
theorem dL_law_1324 : fnD cL_law 1324 (.invokevirtual 148) 3 1327 := by decide +kernel
theorem dL_law_1327 : fnIc cL_law 1327 .eq 1769 1330 := by decide +kernel
theorem dL_law_1330 : fnD cL_law 1330 (.iconst 0) 1 1331 := by decide +kernel
theorem dL_law_1331 : fnD cL_law 1331 (.ireturn) 1 1332 := by decide +kernel
theorem dL_law_1332 : fnD cL_law 1332 (.aload_n 1) 1 1333 := by decide +kernel
theorem dL_law_1333 : fnD cL_law 1333 (.aload_n 0) 1 1334 := by decide +kernel
theorem dL_law_1334 : fnD cL_law 1334 (.iload_n 3) 1 1335 := by decide +kernel
theorem dL_law_1335 : fnD cL_law 1335 (.iconst 1) 1 1336 := by decide +kernel
theorem dL_law_1336 : fnD cL_law 1336 (.iadd) 1 1337 := by decide +kernel
theorem dL_law_1337 : fnD cL_law 1337 (.iaload) 1 1338 := by decide +kernel
theorem dL_law_1338 : fnD cL_law 1338 (.aload_n 0) 1 1339 := by decide +kernel
theorem dL_law_1339 : fnD cL_law 1339 (.iload_n 3) 1 1340 := by decide +kernel
theorem dL_law_1340 : fnD cL_law 1340 (.iconst 2) 1 1341 := by decide +kernel
theorem dL_law_1341 : fnD cL_law 1341 (.iadd) 1 1342 := by decide +kernel
theorem dL_law_1342 : fnD cL_law 1342 (.iaload) 1 1343 := by decide +kernel
theorem dL_law_1343 : fnD cL_law 1343 (.aload_n 0) 1 1344 := by decide +kernel
theorem dL_law_1344 : fnD cL_law 1344 (.iload_n 3) 1 1345 := by decide +kernel
theorem dL_law_1345 : fnD cL_law 1345 (.iconst 3) 1 1346 := by decide +kernel
theorem dL_law_1346 : fnD cL_law 1346 (.iadd) 1 1347 := by decide +kernel
theorem dL_law_1347 : fnD cL_law 1347 (.iaload) 1 1348 := by decide +kernel
theorem dL_law_1348 : fnD cL_law 1348 (.aload_n 0) 1 1349 := by decide +kernel
theorem dL_law_1349 : fnD cL_law 1349 (.iload_n 3) 1 1350 := by decide +kernel
theorem dL_law_1350 : fnD cL_law 1350 (.iconst 4) 1 1351 := by decide +kernel
theorem dL_law_1351 : fnD cL_law 1351 (.iadd) 1 1352 := by decide +kernel
theorem dL_law_1352 : fnD cL_law 1352 (.iaload) 1 1353 := by decide +kernel
theorem dL_law_1353 : fnD cL_law 1353 (.invokevirtual 149) 3 1356 := by decide +kernel
theorem dL_law_1356 : fnD cL_law 1356 (.aload_n 2) 1 1357 := by decide +kernel
theorem dL_law_1357 : fnD cL_law 1357 (.aload_n 0) 1 1358 := by decide +kernel
theorem dL_law_1358 : fnD cL_law 1358 (.iload_n 3) 1 1359 := by decide +kernel
theorem dL_law_1359 : fnD cL_law 1359 (.iconst 1) 1 1360 := by decide +kernel
theorem dL_law_1360 : fnD cL_law 1360 (.iadd) 1 1361 := by decide +kernel
theorem dL_law_1361 : fnD cL_law 1361 (.iaload) 1 1362 := by decide +kernel
theorem dL_law_1362 : fnD cL_law 1362 (.aload_n 0) 1 1363 := by decide +kernel
theorem dL_law_1363 : fnD cL_law 1363 (.iload_n 3) 1 1364 := by decide +kernel
theorem dL_law_1364 : fnD cL_law 1364 (.iconst 2) 1 1365 := by decide +kernel
theorem dL_law_1365 : fnD cL_law 1365 (.iadd) 1 1366 := by decide +kernel
theorem dL_law_1366 : fnD cL_law 1366 (.iaload) 1 1367 := by decide +kernel
theorem dL_law_1367 : fnD cL_law 1367 (.aload_n 0) 1 1368 := by decide +kernel
theorem dL_law_1368 : fnD cL_law 1368 (.iload_n 3) 1 1369 := by decide +kernel
theorem dL_law_1369 : fnD cL_law 1369 (.iconst 3) 1 1370 := by decide +kernel
theorem dL_law_1370 : fnD cL_law 1370 (.iadd) 1 1371 := by decide +kernel
theorem dL_law_1371 : fnD cL_law 1371 (.iaload) 1 1372 := by decide +kernel
theorem dL_law_1372 : fnD cL_law 1372 (.aload_n 0) 1 1373 := by decide +kernel
theorem dL_law_1373 : fnD cL_law 1373 (.iload_n 3) 1 1374 := by decide +kernel
theorem dL_law_1374 : fnD cL_law 1374 (.iconst 4) 1 1375 := by decide +kernel
theorem dL_law_1375 : fnD cL_law 1375 (.iadd) 1 1376 := by decide +kernel
theorem dL_law_1376 : fnD cL_law 1376 (.iaload) 1 1377 := by decide +kernel
theorem dL_law_1377 : fnD cL_law 1377 (.invokevirtual 153) 3 1380 := by decide +kernel
theorem dL_law_1380 : fnIc cL_law 1380 .eq 1769 1383 := by decide +kernel
theorem dL_law_1383 : fnD cL_law 1383 (.iconst 0) 1 1384 := by decide +kernel
theorem dL_law_1384 : fnD cL_law 1384 (.ireturn) 1 1385 := by decide +kernel
theorem dL_law_1385 : fnD cL_law 1385 (.aload_n 1) 1 1386 := by decide +kernel
theorem dL_law_1386 : fnD cL_law 1386 (.aload_n 0) 1 1387 := by decide +kernel
theorem dL_law_1387 : fnD cL_law 1387 (.iload_n 3) 1 1388 := by decide +kernel
theorem dL_law_1388 : fnD cL_law 1388 (.iconst 1) 1 1389 := by decide +kernel
theorem dL_law_1389 : fnD cL_law 1389 (.iadd) 1 1390 := by decide +kernel
theorem dL_law_1390 : fnD cL_law 1390 (.iaload) 1 1391 := by decide +kernel
theorem dL_law_1391 : fnD cL_law 1391 (.aload_n 0) 1 1392 := by decide +kernel
theorem dL_law_1392 : fnD cL_law 1392 (.iload_n 3) 1 1393 := by decide +kernel
theorem dL_law_1393 : fnD cL_law 1393 (.iconst 2) 1 1394 := by decide +kernel
theorem dL_law_1394 : fnD cL_law 1394 (.iadd) 1 1395 := by decide +kernel
theorem dL_law_1395 : fnD cL_law 1395 (.iaload) 1 1396 := by decide +kernel
theorem dL_law_1396 : fnD cL_law 1396 (.invokevirtual 154) 3 1399 := by decide +kernel
theorem dL_law_1399 : fnD cL_law 1399 (.aload_n 2) 1 1400 := by decide +kernel
theorem dL_law_1400 : fnD cL_law 1400 (.aload_n 0) 1 1401 := by decide +kernel
theorem dL_law_1401 : fnD cL_law 1401 (.iload_n 3) 1 1402 := by decide +kernel
theorem dL_law_1402 : fnD cL_law 1402 (.iconst 1) 1 1403 := by decide +kernel
theorem dL_law_1403 : fnD cL_law 1403 (.iadd) 1 1404 := by decide +kernel
theorem dL_law_1404 : fnD cL_law 1404 (.iaload) 1 1405 := by decide +kernel
theorem dL_law_1405 : fnD cL_law 1405 (.aload_n 0) 1 1406 := by decide +kernel
theorem dL_law_1406 : fnD cL_law 1406 (.iload_n 3) 1 1407 := by decide +kernel
theorem dL_law_1407 : fnD cL_law 1407 (.iconst 2) 1 1408 := by decide +kernel
theorem dL_law_1408 : fnD cL_law 1408 (.iadd) 1 1409 := by decide +kernel
theorem dL_law_1409 : fnD cL_law 1409 (.iaload) 1 1410 := by decide +kernel
theorem dL_law_1410 : fnD cL_law 1410 (.invokevirtual 157) 3 1413 := by decide +kernel
theorem dL_law_1413 : fnIc cL_law 1413 .eq 1769 1416 := by decide +kernel
theorem dL_law_1416 : fnD cL_law 1416 (.iconst 0) 1 1417 := by decide +kernel
theorem dL_law_1417 : fnD cL_law 1417 (.ireturn) 1 1418 := by decide +kernel
theorem dL_law_1418 : fnD cL_law 1418 (.aload_n 1) 1 1419 := by decide +kernel
theorem dL_law_1419 : fnD cL_law 1419 (.aload_n 0) 1 1420 := by decide +kernel
theorem dL_law_1420 : fnD cL_law 1420 (.iload_n 3) 1 1421 := by decide +kernel
theorem dL_law_1421 : fnD cL_law 1421 (.iconst 1) 1 1422 := by decide +kernel
theorem dL_law_1422 : fnD cL_law 1422 (.iadd) 1 1423 := by decide +kernel
theorem dL_law_1423 : fnD cL_law 1423 (.iaload) 1 1424 := by decide +kernel
theorem dL_law_1424 : fnD cL_law 1424 (.aload_n 0) 1 1425 := by decide +kernel
theorem dL_law_1425 : fnD cL_law 1425 (.iload_n 3) 1 1426 := by decide +kernel
theorem dL_law_1426 : fnD cL_law 1426 (.iconst 2) 1 1427 := by decide +kernel
theorem dL_law_1427 : fnD cL_law 1427 (.iadd) 1 1428 := by decide +kernel
theorem dL_law_1428 : fnD cL_law 1428 (.iaload) 1 1429 := by decide +kernel
theorem dL_law_1429 : fnD cL_law 1429 (.aload_n 0) 1 1430 := by decide +kernel
theorem dL_law_1430 : fnD cL_law 1430 (.iload_n 3) 1 1431 := by decide +kernel
theorem dL_law_1431 : fnD cL_law 1431 (.iconst 3) 1 1432 := by decide +kernel
theorem dL_law_1432 : fnD cL_law 1432 (.iadd) 1 1433 := by decide +kernel
theorem dL_law_1433 : fnD cL_law 1433 (.iaload) 1 1434 := by decide +kernel
theorem dL_law_1434 : fnD cL_law 1434 (.aload_n 0) 1 1435 := by decide +kernel
theorem dL_law_1435 : fnD cL_law 1435 (.iload_n 3) 1 1436 := by decide +kernel
theorem dL_law_1436 : fnD cL_law 1436 (.iconst 4) 1 1437 := by decide +kernel
theorem dL_law_1437 : fnD cL_law 1437 (.iadd) 1 1438 := by decide +kernel
theorem dL_law_1438 : fnD cL_law 1438 (.iaload) 1 1439 := by decide +kernel
theorem dL_law_1439 : fnD cL_law 1439 (.aload_n 0) 1 1440 := by decide +kernel
theorem dL_law_1440 : fnD cL_law 1440 (.iload_n 3) 1 1441 := by decide +kernel
theorem dL_law_1441 : fnD cL_law 1441 (.iconst 5) 1 1442 := by decide +kernel
theorem dL_law_1442 : fnD cL_law 1442 (.iadd) 1 1443 := by decide +kernel
theorem dL_law_1443 : fnD cL_law 1443 (.iaload) 1 1444 := by decide +kernel
theorem dL_law_1444 : fnD cL_law 1444 (.aload_n 0) 1 1445 := by decide +kernel
theorem dL_law_1445 : fnD cL_law 1445 (.iload_n 3) 1 1446 := by decide +kernel
theorem dL_law_1446 : fnD cL_law 1446 (.bipush 6) 2 1448 := by decide +kernel
theorem dL_law_1448 : fnD cL_law 1448 (.iadd) 1 1449 := by decide +kernel
theorem dL_law_1449 : fnD cL_law 1449 (.iaload) 1 1450 := by decide +kernel
theorem dL_law_1450 : fnD cL_law 1450 (.invokevirtual 158) 3 1453 := by decide +kernel
theorem dL_law_1453 : fnD cL_law 1453 (.aload_n 2) 1 1454 := by decide +kernel
theorem dL_law_1454 : fnD cL_law 1454 (.aload_n 0) 1 1455 := by decide +kernel
theorem dL_law_1455 : fnD cL_law 1455 (.iload_n 3) 1 1456 := by decide +kernel
theorem dL_law_1456 : fnD cL_law 1456 (.iconst 1) 1 1457 := by decide +kernel
theorem dL_law_1457 : fnD cL_law 1457 (.iadd) 1 1458 := by decide +kernel
theorem dL_law_1458 : fnD cL_law 1458 (.iaload) 1 1459 := by decide +kernel
theorem dL_law_1459 : fnD cL_law 1459 (.aload_n 0) 1 1460 := by decide +kernel
theorem dL_law_1460 : fnD cL_law 1460 (.iload_n 3) 1 1461 := by decide +kernel
theorem dL_law_1461 : fnD cL_law 1461 (.iconst 2) 1 1462 := by decide +kernel
theorem dL_law_1462 : fnD cL_law 1462 (.iadd) 1 1463 := by decide +kernel
theorem dL_law_1463 : fnD cL_law 1463 (.iaload) 1 1464 := by decide +kernel
theorem dL_law_1464 : fnD cL_law 1464 (.aload_n 0) 1 1465 := by decide +kernel
theorem dL_law_1465 : fnD cL_law 1465 (.iload_n 3) 1 1466 := by decide +kernel
theorem dL_law_1466 : fnD cL_law 1466 (.iconst 3) 1 1467 := by decide +kernel
theorem dL_law_1467 : fnD cL_law 1467 (.iadd) 1 1468 := by decide +kernel
theorem dL_law_1468 : fnD cL_law 1468 (.iaload) 1 1469 := by decide +kernel
theorem dL_law_1469 : fnD cL_law 1469 (.aload_n 0) 1 1470 := by decide +kernel
theorem dL_law_1470 : fnD cL_law 1470 (.iload_n 3) 1 1471 := by decide +kernel
theorem dL_law_1471 : fnD cL_law 1471 (.iconst 4) 1 1472 := by decide +kernel
theorem dL_law_1472 : fnD cL_law 1472 (.iadd) 1 1473 := by decide +kernel
theorem dL_law_1473 : fnD cL_law 1473 (.iaload) 1 1474 := by decide +kernel
theorem dL_law_1474 : fnD cL_law 1474 (.aload_n 0) 1 1475 := by decide +kernel
theorem dL_law_1475 : fnD cL_law 1475 (.iload_n 3) 1 1476 := by decide +kernel
theorem dL_law_1476 : fnD cL_law 1476 (.iconst 5) 1 1477 := by decide +kernel
theorem dL_law_1477 : fnD cL_law 1477 (.iadd) 1 1478 := by decide +kernel
theorem dL_law_1478 : fnD cL_law 1478 (.iaload) 1 1479 := by decide +kernel
theorem dL_law_1479 : fnD cL_law 1479 (.aload_n 0) 1 1480 := by decide +kernel
theorem dL_law_1480 : fnD cL_law 1480 (.iload_n 3) 1 1481 := by decide +kernel
theorem dL_law_1481 : fnD cL_law 1481 (.bipush 6) 2 1483 := by decide +kernel
theorem dL_law_1483 : fnD cL_law 1483 (.iadd) 1 1484 := by decide +kernel
theorem dL_law_1484 : fnD cL_law 1484 (.iaload) 1 1485 := by decide +kernel
theorem dL_law_1485 : fnD cL_law 1485 (.invokevirtual 162) 3 1488 := by decide +kernel
theorem dL_law_1488 : fnIc cL_law 1488 .eq 1769 1491 := by decide +kernel
theorem dL_law_1491 : fnD cL_law 1491 (.iconst 0) 1 1492 := by decide +kernel
theorem dL_law_1492 : fnD cL_law 1492 (.ireturn) 1 1493 := by decide +kernel
theorem dL_law_1493 : fnD cL_law 1493 (.aload_n 1) 1 1494 := by decide +kernel
theorem dL_law_1494 : fnD cL_law 1494 (.aload_n 0) 1 1495 := by decide +kernel
theorem dL_law_1495 : fnD cL_law 1495 (.iload_n 3) 1 1496 := by decide +kernel
theorem dL_law_1496 : fnD cL_law 1496 (.iconst 1) 1 1497 := by decide +kernel
theorem dL_law_1497 : fnD cL_law 1497 (.iadd) 1 1498 := by decide +kernel
theorem dL_law_1498 : fnD cL_law 1498 (.iaload) 1 1499 := by decide +kernel
theorem dL_law_1499 : fnD cL_law 1499 (.aload_n 0) 1 1500 := by decide +kernel
theorem dL_law_1500 : fnD cL_law 1500 (.iload_n 3) 1 1501 := by decide +kernel
theorem dL_law_1501 : fnD cL_law 1501 (.iconst 2) 1 1502 := by decide +kernel
theorem dL_law_1502 : fnD cL_law 1502 (.iadd) 1 1503 := by decide +kernel
theorem dL_law_1503 : fnD cL_law 1503 (.iaload) 1 1504 := by decide +kernel
theorem dL_law_1504 : fnD cL_law 1504 (.invokevirtual 163) 3 1507 := by decide +kernel
theorem dL_law_1507 : fnD cL_law 1507 (.aload_n 2) 1 1508 := by decide +kernel
theorem dL_law_1508 : fnD cL_law 1508 (.aload_n 0) 1 1509 := by decide +kernel
theorem dL_law_1509 : fnD cL_law 1509 (.iload_n 3) 1 1510 := by decide +kernel
theorem dL_law_1510 : fnD cL_law 1510 (.iconst 1) 1 1511 := by decide +kernel
theorem dL_law_1511 : fnD cL_law 1511 (.iadd) 1 1512 := by decide +kernel
theorem dL_law_1512 : fnD cL_law 1512 (.iaload) 1 1513 := by decide +kernel
theorem dL_law_1513 : fnD cL_law 1513 (.aload_n 0) 1 1514 := by decide +kernel
theorem dL_law_1514 : fnD cL_law 1514 (.iload_n 3) 1 1515 := by decide +kernel
theorem dL_law_1515 : fnD cL_law 1515 (.iconst 2) 1 1516 := by decide +kernel
theorem dL_law_1516 : fnD cL_law 1516 (.iadd) 1 1517 := by decide +kernel
theorem dL_law_1517 : fnD cL_law 1517 (.iaload) 1 1518 := by decide +kernel
theorem dL_law_1518 : fnD cL_law 1518 (.invokevirtual 166) 3 1521 := by decide +kernel
theorem dL_law_1521 : fnIc cL_law 1521 .eq 1769 1524 := by decide +kernel
theorem dL_law_1524 : fnD cL_law 1524 (.iconst 0) 1 1525 := by decide +kernel
theorem dL_law_1525 : fnD cL_law 1525 (.ireturn) 1 1526 := by decide +kernel
theorem dL_law_1526 : fnD cL_law 1526 (.aload_n 1) 1 1527 := by decide +kernel
theorem dL_law_1527 : fnD cL_law 1527 (.invokevirtual 167) 3 1530 := by decide +kernel
theorem dL_law_1530 : fnD cL_law 1530 (.aload_n 2) 1 1531 := by decide +kernel
theorem dL_law_1531 : fnD cL_law 1531 (.invokevirtual 170) 3 1534 := by decide +kernel
theorem dL_law_1534 : fnIc cL_law 1534 .eq 1769 1537 := by decide +kernel
theorem dL_law_1537 : fnD cL_law 1537 (.iconst 0) 1 1538 := by decide +kernel
theorem dL_law_1538 : fnD cL_law 1538 (.ireturn) 1 1539 := by decide +kernel
theorem dL_law_1539 : fnD cL_law 1539 (.aload_n 1) 1 1540 := by decide +kernel
theorem dL_law_1540 : fnD cL_law 1540 (.aload_n 0) 1 1541 := by decide +kernel
theorem dL_law_1541 : fnD cL_law 1541 (.iload_n 3) 1 1542 := by decide +kernel
theorem dL_law_1542 : fnD cL_law 1542 (.iconst 1) 1 1543 := by decide +kernel
theorem dL_law_1543 : fnD cL_law 1543 (.iadd) 1 1544 := by decide +kernel
theorem dL_law_1544 : fnD cL_law 1544 (.iaload) 1 1545 := by decide +kernel
theorem dL_law_1545 : fnD cL_law 1545 (.aload_n 0) 1 1546 := by decide +kernel
theorem dL_law_1546 : fnD cL_law 1546 (.iload_n 3) 1 1547 := by decide +kernel
theorem dL_law_1547 : fnD cL_law 1547 (.iconst 2) 1 1548 := by decide +kernel
theorem dL_law_1548 : fnD cL_law 1548 (.iadd) 1 1549 := by decide +kernel
theorem dL_law_1549 : fnD cL_law 1549 (.iaload) 1 1550 := by decide +kernel
theorem dL_law_1550 : fnD cL_law 1550 (.aload_n 0) 1 1551 := by decide +kernel
theorem dL_law_1551 : fnD cL_law 1551 (.iload_n 3) 1 1552 := by decide +kernel
theorem dL_law_1552 : fnD cL_law 1552 (.iconst 3) 1 1553 := by decide +kernel
theorem dL_law_1553 : fnD cL_law 1553 (.iadd) 1 1554 := by decide +kernel
theorem dL_law_1554 : fnD cL_law 1554 (.iaload) 1 1555 := by decide +kernel
theorem dL_law_1555 : fnD cL_law 1555 (.aload_n 0) 1 1556 := by decide +kernel
theorem dL_law_1556 : fnD cL_law 1556 (.iload_n 3) 1 1557 := by decide +kernel
theorem dL_law_1557 : fnD cL_law 1557 (.iconst 4) 1 1558 := by decide +kernel
theorem dL_law_1558 : fnD cL_law 1558 (.iadd) 1 1559 := by decide +kernel
theorem dL_law_1559 : fnD cL_law 1559 (.iaload) 1 1560 := by decide +kernel
theorem dL_law_1560 : fnIf cL_law 1560 .eq 1567 1563 := by decide +kernel
theorem dL_law_1563 : fnD cL_law 1563 (.iconst 1) 1 1564 := by decide +kernel
theorem dL_law_1564 : fnGo cL_law 1564 1568 := by decide +kernel
theorem dL_law_1567 : fnD cL_law 1567 (.iconst 0) 1 1568 := by decide +kernel
theorem dL_law_1568 : fnD cL_law 1568 (.invokevirtual 171) 3 1571 := by decide +kernel
theorem dL_law_1571 : fnD cL_law 1571 (.aload_n 2) 1 1572 := by decide +kernel
theorem dL_law_1572 : fnD cL_law 1572 (.aload_n 0) 1 1573 := by decide +kernel
theorem dL_law_1573 : fnD cL_law 1573 (.iload_n 3) 1 1574 := by decide +kernel
theorem dL_law_1574 : fnD cL_law 1574 (.iconst 1) 1 1575 := by decide +kernel
theorem dL_law_1575 : fnD cL_law 1575 (.iadd) 1 1576 := by decide +kernel
theorem dL_law_1576 : fnD cL_law 1576 (.iaload) 1 1577 := by decide +kernel
theorem dL_law_1577 : fnD cL_law 1577 (.aload_n 0) 1 1578 := by decide +kernel
theorem dL_law_1578 : fnD cL_law 1578 (.iload_n 3) 1 1579 := by decide +kernel
theorem dL_law_1579 : fnD cL_law 1579 (.iconst 2) 1 1580 := by decide +kernel
theorem dL_law_1580 : fnD cL_law 1580 (.iadd) 1 1581 := by decide +kernel
theorem dL_law_1581 : fnD cL_law 1581 (.iaload) 1 1582 := by decide +kernel
theorem dL_law_1582 : fnD cL_law 1582 (.aload_n 0) 1 1583 := by decide +kernel
theorem dL_law_1583 : fnD cL_law 1583 (.iload_n 3) 1 1584 := by decide +kernel
theorem dL_law_1584 : fnD cL_law 1584 (.iconst 3) 1 1585 := by decide +kernel
theorem dL_law_1585 : fnD cL_law 1585 (.iadd) 1 1586 := by decide +kernel
theorem dL_law_1586 : fnD cL_law 1586 (.iaload) 1 1587 := by decide +kernel
theorem dL_law_1587 : fnD cL_law 1587 (.aload_n 0) 1 1588 := by decide +kernel
theorem dL_law_1588 : fnD cL_law 1588 (.iload_n 3) 1 1589 := by decide +kernel
theorem dL_law_1589 : fnD cL_law 1589 (.iconst 4) 1 1590 := by decide +kernel
theorem dL_law_1590 : fnD cL_law 1590 (.iadd) 1 1591 := by decide +kernel
theorem dL_law_1591 : fnD cL_law 1591 (.iaload) 1 1592 := by decide +kernel
theorem dL_law_1592 : fnIf cL_law 1592 .eq 1599 1595 := by decide +kernel
theorem dL_law_1595 : fnD cL_law 1595 (.iconst 1) 1 1596 := by decide +kernel
theorem dL_law_1596 : fnGo cL_law 1596 1600 := by decide +kernel
theorem dL_law_1599 : fnD cL_law 1599 (.iconst 0) 1 1600 := by decide +kernel
theorem dL_law_1600 : fnD cL_law 1600 (.invokevirtual 174) 3 1603 := by decide +kernel
theorem dL_law_1603 : fnIc cL_law 1603 .eq 1769 1606 := by decide +kernel
theorem dL_law_1606 : fnD cL_law 1606 (.iconst 0) 1 1607 := by decide +kernel
theorem dL_law_1607 : fnD cL_law 1607 (.ireturn) 1 1608 := by decide +kernel
theorem dL_law_1608 : fnD cL_law 1608 (.aload_n 1) 1 1609 := by decide +kernel
theorem dL_law_1609 : fnD cL_law 1609 (.invokevirtual 175) 3 1612 := by decide +kernel
theorem dL_law_1612 : fnD cL_law 1612 (.aload_n 2) 1 1613 := by decide +kernel
theorem dL_law_1613 : fnD cL_law 1613 (.invokevirtual 178) 3 1616 := by decide +kernel
theorem dL_law_1616 : fnIc cL_law 1616 .eq 1769 1619 := by decide +kernel
theorem dL_law_1619 : fnD cL_law 1619 (.iconst 0) 1 1620 := by decide +kernel
theorem dL_law_1620 : fnD cL_law 1620 (.ireturn) 1 1621 := by decide +kernel
theorem dL_law_1621 : fnD cL_law 1621 (.aload_n 1) 1 1622 := by decide +kernel
theorem dL_law_1622 : fnD cL_law 1622 (.invokevirtual 179) 3 1625 := by decide +kernel
theorem dL_law_1625 : fnD cL_law 1625 (.aload_n 2) 1 1626 := by decide +kernel
theorem dL_law_1626 : fnD cL_law 1626 (.invokevirtual 182) 3 1629 := by decide +kernel
theorem dL_law_1629 : fnIc cL_law 1629 .eq 1769 1632 := by decide +kernel
theorem dL_law_1632 : fnD cL_law 1632 (.iconst 0) 1 1633 := by decide +kernel
theorem dL_law_1633 : fnD cL_law 1633 (.ireturn) 1 1634 := by decide +kernel
theorem dL_law_1634 : fnD cL_law 1634 (.aload_n 1) 1 1635 := by decide +kernel
theorem dL_law_1635 : fnD cL_law 1635 (.aload_n 0) 1 1636 := by decide +kernel
theorem dL_law_1636 : fnD cL_law 1636 (.iload_n 3) 1 1637 := by decide +kernel
theorem dL_law_1637 : fnD cL_law 1637 (.iconst 1) 1 1638 := by decide +kernel
theorem dL_law_1638 : fnD cL_law 1638 (.iadd) 1 1639 := by decide +kernel
theorem dL_law_1639 : fnD cL_law 1639 (.iaload) 1 1640 := by decide +kernel
theorem dL_law_1640 : fnD cL_law 1640 (.invokevirtual 183) 3 1643 := by decide +kernel
theorem dL_law_1643 : fnD cL_law 1643 (.aload_n 2) 1 1644 := by decide +kernel
theorem dL_law_1644 : fnD cL_law 1644 (.aload_n 0) 1 1645 := by decide +kernel
theorem dL_law_1645 : fnD cL_law 1645 (.iload_n 3) 1 1646 := by decide +kernel
theorem dL_law_1646 : fnD cL_law 1646 (.iconst 1) 1 1647 := by decide +kernel
theorem dL_law_1647 : fnD cL_law 1647 (.iadd) 1 1648 := by decide +kernel
theorem dL_law_1648 : fnD cL_law 1648 (.iaload) 1 1649 := by decide +kernel
theorem dL_law_1649 : fnD cL_law 1649 (.invokevirtual 186) 3 1652 := by decide +kernel
theorem dL_law_1652 : fnIc cL_law 1652 .eq 1769 1655 := by decide +kernel
theorem dL_law_1655 : fnD cL_law 1655 (.iconst 0) 1 1656 := by decide +kernel
theorem dL_law_1656 : fnD cL_law 1656 (.ireturn) 1 1657 := by decide +kernel
theorem dL_law_1657 : fnD cL_law 1657 (.aload_n 1) 1 1658 := by decide +kernel
theorem dL_law_1658 : fnD cL_law 1658 (.aload_n 0) 1 1659 := by decide +kernel
theorem dL_law_1659 : fnD cL_law 1659 (.iload_n 3) 1 1660 := by decide +kernel
theorem dL_law_1660 : fnD cL_law 1660 (.iconst 1) 1 1661 := by decide +kernel
theorem dL_law_1661 : fnD cL_law 1661 (.iadd) 1 1662 := by decide +kernel
theorem dL_law_1662 : fnD cL_law 1662 (.iaload) 1 1663 := by decide +kernel
theorem dL_law_1663 : fnD cL_law 1663 (.invokevirtual 187) 3 1666 := by decide +kernel
theorem dL_law_1666 : fnD cL_law 1666 (.aload_n 2) 1 1667 := by decide +kernel
theorem dL_law_1667 : fnD cL_law 1667 (.aload_n 0) 1 1668 := by decide +kernel
theorem dL_law_1668 : fnD cL_law 1668 (.iload_n 3) 1 1669 := by decide +kernel
theorem dL_law_1669 : fnD cL_law 1669 (.iconst 1) 1 1670 := by decide +kernel
theorem dL_law_1670 : fnD cL_law 1670 (.iadd) 1 1671 := by decide +kernel
theorem dL_law_1671 : fnD cL_law 1671 (.iaload) 1 1672 := by decide +kernel
theorem dL_law_1672 : fnD cL_law 1672 (.invokevirtual 190) 3 1675 := by decide +kernel
theorem dL_law_1675 : fnIc cL_law 1675 .eq 1769 1678 := by decide +kernel
theorem dL_law_1678 : fnD cL_law 1678 (.iconst 0) 1 1679 := by decide +kernel
theorem dL_law_1679 : fnD cL_law 1679 (.ireturn) 1 1680 := by decide +kernel
theorem dL_law_1680 : fnD cL_law 1680 (.aload_n 1) 1 1681 := by decide +kernel
theorem dL_law_1681 : fnD cL_law 1681 (.aload_n 0) 1 1682 := by decide +kernel
theorem dL_law_1682 : fnD cL_law 1682 (.iload_n 3) 1 1683 := by decide +kernel
theorem dL_law_1683 : fnD cL_law 1683 (.iconst 1) 1 1684 := by decide +kernel
theorem dL_law_1684 : fnD cL_law 1684 (.iadd) 1 1685 := by decide +kernel
theorem dL_law_1685 : fnD cL_law 1685 (.iaload) 1 1686 := by decide +kernel
theorem dL_law_1686 : fnD cL_law 1686 (.invokevirtual 191) 3 1689 := by decide +kernel
theorem dL_law_1689 : fnD cL_law 1689 (.aload_n 2) 1 1690 := by decide +kernel
theorem dL_law_1690 : fnD cL_law 1690 (.aload_n 0) 1 1691 := by decide +kernel
theorem dL_law_1691 : fnD cL_law 1691 (.iload_n 3) 1 1692 := by decide +kernel
theorem dL_law_1692 : fnD cL_law 1692 (.iconst 1) 1 1693 := by decide +kernel
theorem dL_law_1693 : fnD cL_law 1693 (.iadd) 1 1694 := by decide +kernel
theorem dL_law_1694 : fnD cL_law 1694 (.iaload) 1 1695 := by decide +kernel
theorem dL_law_1695 : fnD cL_law 1695 (.invokevirtual 194) 3 1698 := by decide +kernel
theorem dL_law_1698 : fnIc cL_law 1698 .eq 1769 1701 := by decide +kernel
theorem dL_law_1701 : fnD cL_law 1701 (.iconst 0) 1 1702 := by decide +kernel
theorem dL_law_1702 : fnD cL_law 1702 (.ireturn) 1 1703 := by decide +kernel
theorem dL_law_1703 : fnD cL_law 1703 (.aload_n 1) 1 1704 := by decide +kernel
theorem dL_law_1704 : fnD cL_law 1704 (.aload_n 0) 1 1705 := by decide +kernel
theorem dL_law_1705 : fnD cL_law 1705 (.iload_n 3) 1 1706 := by decide +kernel
theorem dL_law_1706 : fnD cL_law 1706 (.iconst 1) 1 1707 := by decide +kernel
theorem dL_law_1707 : fnD cL_law 1707 (.iadd) 1 1708 := by decide +kernel
theorem dL_law_1708 : fnD cL_law 1708 (.iaload) 1 1709 := by decide +kernel
theorem dL_law_1709 : fnD cL_law 1709 (.aload_n 0) 1 1710 := by decide +kernel
theorem dL_law_1710 : fnD cL_law 1710 (.iload_n 3) 1 1711 := by decide +kernel
theorem dL_law_1711 : fnD cL_law 1711 (.iconst 2) 1 1712 := by decide +kernel
theorem dL_law_1712 : fnD cL_law 1712 (.iadd) 1 1713 := by decide +kernel
theorem dL_law_1713 : fnD cL_law 1713 (.iaload) 1 1714 := by decide +kernel
theorem dL_law_1714 : fnD cL_law 1714 (.aload_n 0) 1 1715 := by decide +kernel
theorem dL_law_1715 : fnD cL_law 1715 (.iload_n 3) 1 1716 := by decide +kernel
theorem dL_law_1716 : fnD cL_law 1716 (.iconst 3) 1 1717 := by decide +kernel
theorem dL_law_1717 : fnD cL_law 1717 (.iadd) 1 1718 := by decide +kernel
theorem dL_law_1718 : fnD cL_law 1718 (.iaload) 1 1719 := by decide +kernel
theorem dL_law_1719 : fnD cL_law 1719 (.invokevirtual 195) 3 1722 := by decide +kernel
theorem dL_law_1722 : fnD cL_law 1722 (.aload_n 2) 1 1723 := by decide +kernel
theorem dL_law_1723 : fnD cL_law 1723 (.aload_n 0) 1 1724 := by decide +kernel
theorem dL_law_1724 : fnD cL_law 1724 (.iload_n 3) 1 1725 := by decide +kernel
theorem dL_law_1725 : fnD cL_law 1725 (.iconst 1) 1 1726 := by decide +kernel
theorem dL_law_1726 : fnD cL_law 1726 (.iadd) 1 1727 := by decide +kernel
theorem dL_law_1727 : fnD cL_law 1727 (.iaload) 1 1728 := by decide +kernel
theorem dL_law_1728 : fnD cL_law 1728 (.aload_n 0) 1 1729 := by decide +kernel
theorem dL_law_1729 : fnD cL_law 1729 (.iload_n 3) 1 1730 := by decide +kernel
theorem dL_law_1730 : fnD cL_law 1730 (.iconst 2) 1 1731 := by decide +kernel
theorem dL_law_1731 : fnD cL_law 1731 (.iadd) 1 1732 := by decide +kernel
theorem dL_law_1732 : fnD cL_law 1732 (.iaload) 1 1733 := by decide +kernel
theorem dL_law_1733 : fnD cL_law 1733 (.aload_n 0) 1 1734 := by decide +kernel
theorem dL_law_1734 : fnD cL_law 1734 (.iload_n 3) 1 1735 := by decide +kernel
theorem dL_law_1735 : fnD cL_law 1735 (.iconst 3) 1 1736 := by decide +kernel
theorem dL_law_1736 : fnD cL_law 1736 (.iadd) 1 1737 := by decide +kernel
theorem dL_law_1737 : fnD cL_law 1737 (.iaload) 1 1738 := by decide +kernel
theorem dL_law_1738 : fnD cL_law 1738 (.invokevirtual 198) 3 1741 := by decide +kernel
theorem dL_law_1741 : fnIc cL_law 1741 .eq 1769 1744 := by decide +kernel
theorem dL_law_1744 : fnD cL_law 1744 (.iconst 0) 1 1745 := by decide +kernel
theorem dL_law_1745 : fnD cL_law 1745 (.ireturn) 1 1746 := by decide +kernel
theorem dL_law_1746 : fnD cL_law 1746 (.aload_n 1) 1 1747 := by decide +kernel
theorem dL_law_1747 : fnD cL_law 1747 (.aload_n 0) 1 1748 := by decide +kernel
theorem dL_law_1748 : fnD cL_law 1748 (.iload_n 3) 1 1749 := by decide +kernel
theorem dL_law_1749 : fnD cL_law 1749 (.iconst 1) 1 1750 := by decide +kernel
theorem dL_law_1750 : fnD cL_law 1750 (.iadd) 1 1751 := by decide +kernel
theorem dL_law_1751 : fnD cL_law 1751 (.iaload) 1 1752 := by decide +kernel
theorem dL_law_1752 : fnD cL_law 1752 (.invokevirtual 199) 3 1755 := by decide +kernel
theorem dL_law_1755 : fnD cL_law 1755 (.aload_n 2) 1 1756 := by decide +kernel
theorem dL_law_1756 : fnD cL_law 1756 (.aload_n 0) 1 1757 := by decide +kernel
theorem dL_law_1757 : fnD cL_law 1757 (.iload_n 3) 1 1758 := by decide +kernel
theorem dL_law_1758 : fnD cL_law 1758 (.iconst 1) 1 1759 := by decide +kernel
theorem dL_law_1759 : fnD cL_law 1759 (.iadd) 1 1760 := by decide +kernel
theorem dL_law_1760 : fnD cL_law 1760 (.iaload) 1 1761 := by decide +kernel
theorem dL_law_1761 : fnD cL_law 1761 (.invokevirtual 202) 3 1764 := by decide +kernel
theorem dL_law_1764 : fnIc cL_law 1764 .eq 1769 1767 := by decide +kernel
theorem dL_law_1767 : fnD cL_law 1767 (.iconst 0) 1 1768 := by decide +kernel
theorem dL_law_1768 : fnD cL_law 1768 (.ireturn) 1 1769 := by decide +kernel
theorem dL_law_1769 : fnD cL_law 1769 (.iinc 3 7) 3 1772 := by decide +kernel
theorem dL_law_1772 : fnGo cL_law 1772 18 := by decide +kernel
theorem dL_law_1775 : fnD cL_law 1775 (.iconst 1) 1 1776 := by decide +kernel
theorem dL_law_1776 : fnD cL_law 1776 (.ireturn) 1 1777 := by decide +kernel
end
section
/-! THE PURE SIDE: memory fnMem, the world fnW of its cells, contexts fnCx under which a place of a method is proved -/
abbrev fnMem : Type := Nat → Int → Int
/-- addresses of the cells, class numbers and slots, the classes of int[], boolean[], Card[], Swing[] -/
abbrev fnE : Type := (Nat → Nat) × va_G × ClassId × ClassId × ClassId × ClassId
def zI (z : Int) : Value := .int (Int32.ofInt z)
def zL (z : Int) : Value := .long (Int64.ofInt z)
def fnTr (E : fnE) : Value → Value
  | .ref k => .ref (E.1 k)
  | v => v
def fnShL : List (Nat × Nat × List (Option Nat)) := [(13, 0, [some 1, some 2, some 17, some 23, some 26, some 32, some 36, some 43, some 47, some 6, some 49, some 50]),
  (2, 3, [some 3, some 4, some 5]),
  (3, 3, [some 11, some 12, some 13]),
  (4, 0, [some 7]),
  (4, 0, [some 8]),
  (4, 0, [some 9]),
  (4, 0, [some 10]),
  (0, 6, []),
  (0, 6, []),
  (0, 6, []),
  (0, 6, []),
  (11, 0, [some 14, none]),
  (11, 0, [some 15, none]),
  (11, 0, [some 16, none]),
  (0, 32, []),
  (0, 32, []),
  (0, 32, []),
  (10, 0, [some 18, some 19, some 20, some 21, some 22, none, none]),
  (0, 6, []),
  (0, 4, []),
  (0, 6, []),
  (0, 6, []),
  (1, 6, []),
  (6, 0, [some 24, some 25, none, none, none, none, none, none, none]),
  (0, 97, []),
  (1, 97, []),
  (8, 0, [some 27, some 28, some 29, some 30, some 31]),
  (0, 8, []),
  (0, 8, []),
  (0, 24, []),
  (0, 24, []),
  (1, 24, []),
  (5, 0, [some 33, some 34, some 35]),
  (0, 20, []),
  (0, 20, []),
  (0, 20, []),
  (7, 0, [some 37, some 38, some 39, some 40, some 41, some 42, none]),
  (0, 40, []),
  (0, 40, []),
  (0, 40, []),
  (0, 40, []),
  (0, 40, []),
  (0, 40, []),
  (9, 0, [some 44, some 45, some 46, none, none, none]),
  (0, 40, []),
  (0, 40, []),
  (0, 40, []),
  (12, 0, [some 48, none, none, none]),
  (0, 40, []),
  (0, 32, []),
  (0, 32, []),
  (14, 0, [none, some 52, some 53, some 54, some 55, some 56, some 57, some 58, none, none, some 59, some 60, some 61, some 62, some 63, some 64, some 65, some 66, none, some 67, some 68, some 69, some 70, some 71, some 72, some 73, some 74, some 75, none, some 76, some 77, some 78]),
  (0, 18, []),
  (0, 96, []),
  (0, 6, []),
  (0, 6, []),
  (0, 6, []),
  (1, 6, []),
  (0, 4, []),
  (0, 8, []),
  (0, 8, []),
  (1, 24, []),
  (0, 24, []),
  (0, 24, []),
  (0, 20, []),
  (0, 20, []),
  (0, 20, []),
  (0, 40, []),
  (0, 40, []),
  (0, 40, []),
  (0, 40, []),
  (0, 40, []),
  (0, 40, []),
  (0, 6, []),
  (0, 32, []),
  (0, 3, []),
  (0, 40, []),
  (0, 40, []),
  (0, 40, [])]
def fnSh (k : Nat) : Nat × Nat × List (Option Nat) := fnShL.getD k (0, 0, [])
def fnFld (E : fnE) (f : Int → Int) : Nat → List (Option Nat) → List Value
  | _, [] => []
  | j, some t :: r => .ref (E.1 t) :: fnFld E f (j + 1) r
  | j, none :: r => zI (f j) :: fnFld E f (j + 1) r
def fnEn (E : fnE) (f : Int → Int) : Nat × Nat × List (Option Nat) → va_E
  | (0, n, _) => .inl (E.2.2.1, n, .inl (fun i => Int32.ofInt (f i)))
  | (1, n, _) => .inl (E.2.2.2.1, n, .inl (fun i => Int32.ofInt (f i)))
  | (2, n, r) => .inl (E.2.2.2.2.1, n, .inr (.inr (.inr (.inr (fun i => (r.getD i none).map E.1)))))
  | (3, n, r) => .inl (E.2.2.2.2.2, n, .inr (.inr (.inr (.inr (fun i => (r.getD i none).map E.1)))))
  | (c + 4, _, r) => .inr (c, fnFld E f 0 r)
def fnW (E : fnE) (σ : fnMem) : va_W := (List.range 79).map fun k => (E.1 k, fnEn E (σ k) (fnSh k))
def fnSt (σ : fnMem) (k : Nat) (f : Int → Int) : fnMem := fun a => if a = k then f else σ a
def fnUp (σ : fnMem) (k : Nat) (i v : Int) : fnMem := fnSt σ k (fun b => if b = i then v else σ k b)
theorem fnSt_same (σ : fnMem) (k : Nat) (f : Int → Int) : fnSt σ k f k = f := by simp [fnSt]
theorem fnSt_ne (σ : fnMem) {k a : Nat} (f : Int → Int) (h : a ≠ k) : fnSt σ k f a = σ a := by simp [fnSt, h]
theorem fnUp_ne (σ : fnMem) {k a : Nat} (i v : Int) (h : a ≠ k) : fnUp σ k i v a = σ a := fnSt_ne σ _ h
theorem fnUp_same (σ : fnMem) (k : Nat) (i v : Int) : fnUp σ k i v k = fun b => if b = i then v else σ k b := fnSt_same σ k _
theorem fnW_at (E : fnE) (σ : fnMem) {k : Nat} (h : k < 79) : (fnW E σ)[k]? = some (E.1 k, fnEn E (σ k) (fnSh k)) := by
  simp [fnW, h]
theorem fnW_set (E : fnE) (σ : fnMem) {k : Nat} (f : Int → Int) : (fnW E σ).set k (E.1 k, fnEn E f (fnSh k)) = fnW E (fnSt σ k f) := by
  apply List.ext_getElem?
  intro i
  by_cases hi : i < 79
  · rw [fnW_at E (fnSt σ k f) hi]
    by_cases hk : i = k
    · subst hk
      rw [List.getElem?_set_self (by simpa [fnW] using hi), fnSt_same]
    · rw [List.getElem?_set_ne (Ne.symm hk), fnW_at E σ hi, fnSt_ne σ f hk]
  · have h1 : ((fnW E σ).set k (E.1 k, fnEn E f (fnSh k)))[i]? = none := by
      apply List.getElem?_eq_none
      simp [fnW]; omega
    have h2 : (fnW E (fnSt σ k f))[i]? = none := by
      apply List.getElem?_eq_none
      simp [fnW]; omega
    rw [h1, h2]
theorem fnFld_congr (E : fnE) {f g : Int → Int} : ∀ (r : List (Option Nat)) (a : Nat), (∀ b : Nat, a ≤ b → f b = g b) → fnFld E f a r = fnFld E g a r
  | [], _, _ => rfl
  | some t :: r, a, h => by simp only [fnFld]; rw [fnFld_congr E r (a + 1) (fun b hb => h b (by omega))]
  | none :: r, a, h => by simp only [fnFld]; rw [fnFld_congr E r (a + 1) (fun b hb => h b (by omega)), h a (Nat.le_refl a)]
theorem fnFld_ref (E : fnE) (f : Int → Int) : ∀ (r : List (Option Nat)) (a j : Nat) {t : Nat}, r[j]? = some (some t) → (fnFld E f a r)[j]? = some (.ref (E.1 t))
  | [], _, _, _, h => by simp at h
  | some t :: r, a, 0, t', h => by simp at h; simp [fnFld, h]
  | none :: r, a, 0, t', h => by simp at h
  | some t :: r, a, j + 1, t', h => by simp only [fnFld, List.getElem?_cons_succ] at h ⊢; exact fnFld_ref E f r (a + 1) j h
  | none :: r, a, j + 1, t', h => by simp only [fnFld, List.getElem?_cons_succ] at h ⊢; exact fnFld_ref E f r (a + 1) j h
theorem fnFld_int (E : fnE) (f : Int → Int) : ∀ (r : List (Option Nat)) (a j : Nat), r[j]? = some none → (fnFld E f a r)[j]? = some (zI (f ((a + j : Nat) : Int)))
  | [], _, _, h => by simp at h
  | some t :: r, a, 0, h => by simp at h
  | none :: r, a, 0, h => by simp [fnFld]
  | some t :: r, a, j + 1, h => by
    simp only [fnFld, List.getElem?_cons_succ] at h ⊢
    rw [fnFld_int E f r (a + 1) j h, show a + 1 + j = a + (j + 1) by omega]
  | none :: r, a, j + 1, h => by
    simp only [fnFld, List.getElem?_cons_succ] at h ⊢
    rw [fnFld_int E f r (a + 1) j h, show a + 1 + j = a + (j + 1) by omega]
theorem fnFld_set (E : fnE) (f : Int → Int) (v : Int) : ∀ (r : List (Option Nat)) (a j : Nat), r[j]? = some none → (fnFld E f a r).set j (zI v) = fnFld E (fun b => if b = ((a + j : Nat) : Int) then v else f b) a r
  | [], _, _, h => by simp at h
  | some t :: r, a, 0, h => by simp at h
  | none :: r, a, 0, h => by
    simp only [fnFld, List.set_cons_zero, Nat.add_zero, if_true]
    rw [fnFld_congr E r (a + 1) (fun b hb => ?_)]
    rw [if_neg (by omega)]
  | some t :: r, a, j + 1, h => by
    simp only [fnFld, List.getElem?_cons_succ, List.set_cons_succ] at h ⊢
    rw [fnFld_set E f v r (a + 1) j h, show a + 1 + j = a + (j + 1) by omega]
  | none :: r, a, j + 1, h => by
    simp only [fnFld, List.getElem?_cons_succ, List.set_cons_succ] at h ⊢
    rw [fnFld_set E f v r (a + 1) j h, show a + 1 + j = a + (j + 1) by omega, if_neg (by omega)]
theorem fnFld_len (E : fnE) (f : Int → Int) : ∀ (r : List (Option Nat)) (a : Nat), (fnFld E f a r).length = r.length
  | [], _ => rfl
  | some t :: r, a => by simp [fnFld, fnFld_len E f r (a + 1)]
  | none :: r, a => by simp [fnFld, fnFld_len E f r (a + 1)]
/-! numbers -/
abbrev fnR (z : Int) : Prop := -2147483648 ≤ z ∧ z < 2147483648
abbrev fnRl (z : Int) : Prop := -9223372036854775808 ≤ z ∧ z < 9223372036854775808
theorem fn_toI {z : Int} (h : fnR z) : (Int32.ofInt z).toInt = z := Int32.toInt_ofInt_of_le (by simpa using h.1) (by simpa using h.2)
theorem fn_toL {z : Int} (h : fnRl z) : (Int64.ofInt z).toInt = z := Int64.toInt_ofInt_of_le (by simpa using h.1) (by simpa using h.2)
theorem fn_eqI {x y : Int} (hx : fnR x) (hy : fnR y) : Int32.ofInt x = Int32.ofInt y ↔ x = y := by
  rw [← Int32.toInt_inj, fn_toI hx, fn_toI hy]
theorem fn_ltI {x y : Int} (hx : fnR x) (hy : fnR y) : Int32.ofInt x < Int32.ofInt y ↔ x < y := by
  rw [Int32.lt_iff_toInt_lt, fn_toI hx, fn_toI hy]
theorem fn_leI {x y : Int} (hx : fnR x) (hy : fnR y) : Int32.ofInt x ≤ Int32.ofInt y ↔ x ≤ y := by
  rw [Int32.le_iff_toInt_le, fn_toI hx, fn_toI hy]
theorem fn_eqL {x y : Int} (hx : fnRl x) (hy : fnRl y) : Int64.ofInt x = Int64.ofInt y ↔ x = y := by
  rw [← Int64.toInt_inj, fn_toL hx, fn_toL hy]
theorem fn_ltL {x y : Int} (hx : fnRl x) (hy : fnRl y) : Int64.ofInt x < Int64.ofInt y ↔ x < y := by
  rw [Int64.lt_iff_toInt_lt, fn_toL hx, fn_toL hy]
theorem fn_0 : (0 : Int32) = Int32.ofInt 0 := by decide +kernel
theorem fn_clamp {z : Int} (h0 : 0 ≤ z) (h : z < 2147483648) : (Int32.ofInt z).toNatClampNeg = z.toNat := Int32.toNatClampNeg_ofInt_of_le (by simp; omega) (by simpa using h)
theorem fn_in {z : Int} {n : Nat} (h0 : 0 ≤ z) (h : z < n) (hn : n < 2147483648) : vp_in (Int32.ofInt z) n := by
  rw [vp_in_iff, fn_toI ⟨by omega, by omega⟩]
  exact ⟨h0, h⟩
theorem fn_divI {x y : Int} (hx : fnR x) (hy : 0 < y) (hy2 : fnR y) : Int32.ofInt x / Int32.ofInt y = Int32.ofInt (x.tdiv y) := by
  have hne : Int32.ofInt y ≠ -1 := by
    rw [show (-1 : Int32) = Int32.ofInt (-1) by decide +kernel, Ne, fn_eqI hy2 (by decide)]
    omega
  rw [← Int32.toInt_inj, Int32.toInt_div_of_ne_right _ _ hne, fn_toI hx, fn_toI hy2]
  have h1 : (x.tdiv y).natAbs ≤ x.natAbs := Int.natAbs_tdiv_le_natAbs x y
  rw [fn_toI]
  by_cases h0 : 0 ≤ x
  · have := Int.tdiv_nonneg h0 (Int.le_of_lt hy)
    constructor <;> omega
  · have h3 : x.tdiv y ≤ 0 := by
      have h4 := Int.tdiv_nonneg (a := -x) (b := y) (by omega) (Int.le_of_lt hy)
      rw [Int.neg_tdiv] at h4
      omega
    constructor <;> omega
theorem fn_divL {x y : Int} (hx : fnRl x) (hy : 0 < y) (hy2 : fnRl y) : Int64.ofInt x / Int64.ofInt y = Int64.ofInt (x.tdiv y) := by
  have hne : Int64.ofInt y ≠ -1 := by
    rw [show (-1 : Int64) = Int64.ofInt (-1) by decide +kernel, Ne, fn_eqL hy2 (by decide)]
    omega
  rw [← Int64.toInt_inj, Int64.toInt_div_of_ne_right _ _ hne, fn_toL hx, fn_toL hy2]
  have h1 : (x.tdiv y).natAbs ≤ x.natAbs := Int.natAbs_tdiv_le_natAbs x y
  rw [fn_toL]
  by_cases h0 : 0 ≤ x
  · have := Int.tdiv_nonneg h0 (Int.le_of_lt hy)
    constructor <;> omega
  · have h3 : x.tdiv y ≤ 0 := by
      have h4 := Int.tdiv_nonneg (a := -x) (b := y) (by omega) (Int.le_of_lt hy)
      rw [Int.neg_tdiv] at h4
      omega
    constructor <;> omega
theorem fn_remI {x y : Int} (hx : fnR x) (hy : 0 < y) (hy2 : fnR y) : Int32.ofInt x - Int32.ofInt x / Int32.ofInt y * Int32.ofInt y = Int32.ofInt (x.tmod y) := by
  rw [fn_divI hx hy hy2, ← Int32.ofInt_mul, ← Int32.ofInt_sub]
  congr 1
  have := Int.tmod_add_mul_tdiv x y
  rw [Int.mul_comm] at this
  omega
theorem fn_remL {x y : Int} (hx : fnRl x) (hy : 0 < y) (hy2 : fnRl y) : Int64.ofInt x - Int64.ofInt x / Int64.ofInt y * Int64.ofInt y = Int64.ofInt (x.tmod y) := by
  rw [fn_divL hx hy hy2, ← Int64.ofInt_mul, ← Int64.ofInt_sub]
  congr 1
  have := Int.tmod_add_mul_tdiv x y
  rw [Int.mul_comm] at this
  omega
theorem fn_i2l {x : Int} (hx : fnR x) : (Int32.ofInt x).toInt64 = Int64.ofInt x := by
  rw [← Int64.toInt_inj, Int32.toInt_toInt64, fn_toI hx, fn_toL ⟨by omega, by omega⟩]
/-! locals by place; .null: nothing known there -/
def fnLs (ls : Array Slot) (nL : Nat) (lv : List Value) : Prop := ls.size = nL ∧ lv_wf ls ∧ ∀ (i : Nat) (v : Value), lv[i]? = some v → v ≠ .null → ls[i]? = some (.val v)
def fnC1 : Value → Bool
  | .long _ => false
  | .double _ => false
  | _ => true
theorem fnC1_cat {v : Value} (h : fnC1 v = true) : v.category = 1 := by cases v <;> simp_all [fnC1, Value.category]
def fnNz (i : Nat) : Option Value → Option (Nat × Value)
  | some .null => none
  | some v => some (i, v)
  | none => none
def fnPk (lv : List Value) : List (Nat × Value) := (List.range lv.length).filterMap fun i => fnNz i lv[i]?
theorem fnPk_mem {lv : List Value} {i : Nat} {v : Value} (h : lv[i]? = some v) (hv : v ≠ .null) : (i, v) ∈ fnPk lv := by
  refine List.mem_filterMap.mpr ⟨i, List.mem_range.mpr (List.getElem?_eq_some_iff.mp h).1, ?_⟩
  rw [h]
  cases v <;> first | rfl | exact absurd rfl hv
theorem fnPk_of {lv : List Value} {q : Nat × Value} (h : q ∈ fnPk lv) : lv[q.1]? = some q.2 ∧ q.2 ≠ .null := by
  obtain ⟨i, -, hi⟩ := List.mem_filterMap.mp h
  cases hx : lv[i]? with
  | none => rw [hx] at hi; simp [fnNz] at hi
  | some v =>
    rw [hx] at hi
    cases v <;> simp [fnNz] at hi <;> subst hi <;> simp [hx]
theorem fnLs.has {ls : Array Slot} {nL : Nat} {lv : List Value} (h : fnLs ls nL lv) : lv_has ls nL (fnPk lv) := ⟨h.1, h.2.1, fun q hq => h.2.2 q.1 q.2 (fnPk_of hq).1 (fnPk_of hq).2⟩
theorem fnLs.st1 {ls : Array Slot} {nL : Nat} {lv : List Value} {i : Nat} {v : Value} (h : fnLs ls nL lv) (hi : i < nL) (hc : v.category = 1) (hp : ∀ j w, i = j + 1 → lv[j]? = some w → w.category ≠ 2) : ∃ ls', storeLocals ls i v = some ls' ∧ fnLs ls' nL (lv.set i v) := by
  obtain ⟨ls', h1, h2⟩ := lv_store1 h.has hi hc
  refine ⟨ls', h1, h2.1, h2.2.1, fun j w hj hw => ?_⟩
  by_cases hji : j = i
  · subst hji
    have hl : j < lv.length := by
      have := (List.getElem?_eq_some_iff.mp hj).1
      simpa using this
    rw [List.getElem?_set_self hl] at hj
    cases hj
    exact h2.2.2 (j, _) List.mem_cons_self
  · rw [List.getElem?_set_ne (Ne.symm hji)] at hj
    refine h2.2.2 (j, w) (List.mem_cons_of_mem _ (List.mem_filter.mpr ⟨fnPk_mem hj hw, ?_⟩))
    by_cases hji2 : j + 1 = i
    · have := hp j w hji2.symm hj
      simp [hji, hji2, this]
    · simp [hji, hji2]
theorem fnLs.st2 {ls : Array Slot} {nL : Nat} {lv : List Value} {i : Nat} {v : Value} (h : fnLs ls nL lv) (hi : i + 1 < nL) (hc : v.category = 2) (hp : ∀ j w, i = j + 1 → lv[j]? = some w → w.category ≠ 2) : ∃ ls', storeLocals ls i v = some ls' ∧ fnLs ls' nL ((lv.set i v).set (i + 1) .null) := by
  obtain ⟨ls', h1, h2⟩ := lv_store2 h.has hi hc
  refine ⟨ls', h1, h2.1, h2.2.1, fun j w hj hw => ?_⟩
  by_cases hj1 : j = i + 1
  · subst hj1
    have hl : i + 1 < (lv.set i v).length := (by
      have := (List.getElem?_eq_some_iff.mp hj).1
      simpa using this)
    rw [List.getElem?_set_self hl] at hj
    cases hj
    exact absurd rfl hw
  · rw [List.getElem?_set_ne (Ne.symm hj1)] at hj
    by_cases hji : j = i
    · subst hji
      have hl : j < lv.length := by
        have := (List.getElem?_eq_some_iff.mp hj).1
        simpa using this
      rw [List.getElem?_set_self hl] at hj
      cases hj
      exact h2.2.2 (j, _) List.mem_cons_self
    · rw [List.getElem?_set_ne (Ne.symm hji)] at hj
      refine h2.2.2 (j, w) (List.mem_cons_of_mem _ (List.mem_filter.mpr ⟨fnPk_mem hj hw, ?_⟩))
      by_cases hji2 : j + 1 = i
      · have := hp j w hji2.symm hj
        simp [hji, hji2, this]
        omega
      · simp [hji, hji2, hj1]
end
section
/-! CONTEXTS. fnT: the tables' words that every method is given; fnCx: a place of a method, as V pc locals stack memory -/
def fnT : List Cond := lw_tbl.filter goodWord
def fnNest : Cond → Bool
  | .methodLinkNest _ _ _ _ => true
  | _ => false
def fnTy (E : fnE) : List (ClassId × FieldType) := [(E.2.2.1, .int), (E.2.2.2.1, .boolean), (E.2.2.2.2.1, .object RX0), (E.2.2.2.2.2, .object RX7)]
def fnSinL : List Int := [0, 195, 383, 556, 707, 831, 924, 981, 1000, 981, 924, 831, 707, 556, 383, 195, 0, -195, -383, -556, -707, -831, -924, -981, -1000, -981, -924, -831, -707, -556, -383, -195]
def fnA (E : fnE) (sz : Nat) : Nat → Prop := fun q => (∃ k, k < 79 ∧ q = E.1 k) ∨ sz ≤ q
/-- what a method is given of the state in which it begins -/
def fnU (E : fnE) (σ : fnMem) (sz : Nat) (U : State) : Prop :=
  U.heap.size = sz ∧ va_P E.2.1 vwCl (fnW E σ) U.heap ∧ va_K E.2.1 vwCl (fnTy E) U ∧ va_D (fun _ => True) (fnW E σ) ∧
  va_Z "FooledNeedle$Waves" "SINES" "[I" (.ref (E.1 100)) (fnA E sz) U U.heap ∧ va_T .int (E.1 100) 32 (fun j => zI (fnSinL.getD j 0)) (fnA E sz) U U.heap ∧ ∀ w ∈ lw_tbl, fnNest w = true → va_Nw w U
/-- a method: its name, bytes, places of locals, answer's type, the frames and words that it needs -/
abbrev fnM : Type := MethodName × ByteArray × Nat × Option FieldType × Nat × Nat
def fnRm (M : fnM) : Room := { frames := M.2.2.2.2.1, cells := 0, slots := 0, locals := M.2.2.2.2.2 }
/-- the contract: called with these values over this memory the method returns, and Post holds of answer and memory -/
def fnOk (E : fnE) (M : fnM) (as : List Value) (σ : fnMem) (Post : Option Value → fnMem → Prop) : Prop :=
  ∀ (l : Launch) (sz : Nat), Met l M.1 (.code M.1 M.2.1 M.2.2.1 M.2.2.2.1 :: fnT) (fnRm M) (va_Pc (as.map (fnTr E)) (fnU E σ sz))
    (fun _ st oc t => ∃ (v : Option Value) (σ' : fnMem), oc = .returned (v.map (fnTr E)) ∧ Post v σ' ∧ va_P E.2.1 vwCl (fnW E σ') t.heap ∧ va_F (fnA E sz) st t) 0 0 (fnA E sz)
abbrev fnV : Type := Nat → List Value → List Value → fnMem → Prop
def fnCx (E : fnE) (own : String) (cc : ByteArray) (nL fr lo : Nat) (V : fnV) : Prop :=
  ∃ (p : Program) (l : Launch) (e : Env) (R : Room) (s : State) (m : MethodId) (args : Array Value) (below : List Frame) (meth : Method) (c : Code) (A : Nat → Prop) (cells slots : Nat) (Q : State → Prop),
    (p.tables.exec = Jvm.exec ∧ c.code = cc ∧ c.maxLocals = nL ∧ s.vm.findClass own = some m.cls ∧ ∀ w ∈ fnT, w.before args s = true) ∧
    va_K E.2.1 vwCl (fnTy E) s ∧ (∀ σ, va_D A (fnW E σ)) ∧ (∀ q, s.heap.size ≤ q → A q) ∧
    va_Z "FooledNeedle$Waves" "SINES" "[I" (.ref (E.1 100)) A s s.heap ∧ va_T .int (E.1 100) 32 (fun j => zI (fnSinL.getD j 0)) A s s.heap ∧ (∀ w ∈ lw_tbl, fnNest w = true → va_Nw w s) ∧
    (fr ≤ R.frames ∧ lo ≤ R.locals ∧ cells ≤ R.cells ∧ slots ≤ R.slots) ∧
    V = fun pc lv st σ => ∀ (H : Heap) (locs : List Loc) (ls : Array Slot), va_P E.2.1 vwCl (fnW E σ) H → va_S A s.heap H locs → fnLs ls nL (lv.map (fnTr E)) → W p l e R s m args below meth c H locs cells slots Q (F0 m pc ls (st.map (fnTr E)))
/-- the places at which a method returns -/
def fnRt (cc : ByteArray) (ret : Option FieldType) (Post : Option Value → fnMem → Prop) (V : fnV) : Prop :=
  (ret = some .int → ∀ (pc nx : Nat) (lv : List Value) (z : Int) (σ : fnMem), fnD cc pc .ireturn 1 nx → Post (some (zI z)) σ → V pc lv [zI z] σ) ∧
  (ret = some .boolean → ∀ (pc nx : Nat) (lv : List Value) (z : Int) (σ : fnMem), fnD cc pc .ireturn 1 nx → (z = 0 ∨ z = 1) → Post (some (zI z)) σ → V pc lv [zI z] σ) ∧
  (ret = some .long → ∀ (pc nx : Nat) (lv : List Value) (z : Int) (σ : fnMem), fnD cc pc .lreturn 1 nx → Post (some (zL z)) σ → V pc lv [zL z] σ) ∧
  (ret = none → ∀ (pc nx : Nat) (lv : List Value) (σ : fnMem), fnD cc pc .return_ 1 nx → Post none σ → V pc lv [] σ) ∧
  (∀ C, ret = some (.object C) → ∀ (pc nx : Nat) (lv : List Value) (k : Nat) (σ : fnMem), fnD cc pc .areturn 1 nx → Post (some (.ref k)) σ → V pc lv [.ref k] σ)
/-- the locals at a method's start -/
def fnL0 : List Value → List Value
  | [] => []
  | .long z :: r => .long z :: .null :: fnL0 r
  | .double z :: r => .double z :: .null :: fnL0 r
  | v :: r => v :: fnL0 r
def fnPad (n : Nat) (l : List Value) : List Value := l ++ List.replicate (n - l.length) .null
theorem fnTr_cat (E : fnE) (v : Value) : (fnTr E v).category = v.category := by cases v <;> rfl
theorem fnTr_null {E : fnE} {v : Value} (h : fnTr E v = .null) : v = .null := by cases v <;> simp_all [fnTr]
theorem fnL0_tr (E : fnE) : ∀ l : List Value, (fnL0 l).map (fnTr E) = fnL0 (l.map (fnTr E))
  | [] => rfl
  | v :: r => by
    have := fnL0_tr E r
    cases v <;> simp [fnL0, fnTr, this]
theorem fnL0_args : ∀ (l : List Value) (a i : Nat) (v : Value), (fnL0 l)[i]? = some v → v ≠ .null → (a + i, v) ∈ lv_args a l
  | [], a, i, v, h, _ => by simp [fnL0] at h
  | w :: r, a, i, v, h, hv => by
    have ih1 := fnL0_args r (a + 1)
    have ih2 := fnL0_args r (a + 2)
    cases w with
    | long z =>
      simp only [fnL0, lv_args, Value.category, if_true] at h ⊢
      match i, h with
      | 0, h => simp at h; subst h; exact List.mem_cons_self
      | 1, h => simp at h; exact absurd h.symm hv
      | i + 2, h => 
        have := ih2 i v (by simpa using h) hv
        rw [show a + (i + 2) = a + 2 + i by omega]
        exact List.mem_cons_of_mem _ this
    | double z =>
      simp only [fnL0, lv_args, Value.category, if_true] at h ⊢
      match i, h with
      | 0, h => simp at h; subst h; exact List.mem_cons_self
      | 1, h => simp at h; exact absurd h.symm hv
      | i + 2, h => 
        have := ih2 i v (by simpa using h) hv
        rw [show a + (i + 2) = a + 2 + i by omega]
        exact List.mem_cons_of_mem _ this
    | int z =>
      simp only [fnL0, lv_args, Value.category] at h ⊢
      match i, h with
      | 0, h => simp at h; subst h; exact List.mem_cons_self
      | i + 1, h => 
        have := ih1 i v (by simpa using h) hv
        rw [show a + (i + 1) = a + 1 + i by omega]
        exact List.mem_cons_of_mem _ this
    | float z =>
      simp only [fnL0, lv_args, Value.category] at h ⊢
      match i, h with
      | 0, h => simp at h; subst h; exact List.mem_cons_self
      | i + 1, h => 
        have := ih1 i v (by simpa using h) hv
        rw [show a + (i + 1) = a + 1 + i by omega]
        exact List.mem_cons_of_mem _ this
    | null =>
      simp only [fnL0, lv_args, Value.category] at h ⊢
      match i, h with
      | 0, h => simp at h; subst h; exact List.mem_cons_self
      | i + 1, h => 
        have := ih1 i v (by simpa using h) hv
        rw [show a + (i + 1) = a + 1 + i by omega]
        exact List.mem_cons_of_mem _ this
    | ref z =>
      simp only [fnL0, lv_args, Value.category] at h ⊢
      match i, h with
      | 0, h => simp at h; subst h; exact List.mem_cons_self
      | i + 1, h => 
        have := ih1 i v (by simpa using h) hv
        rw [show a + (i + 1) = a + 1 + i by omega]
        exact List.mem_cons_of_mem _ this
    | retAddr z =>
      simp only [fnL0, lv_args, Value.category] at h ⊢
      match i, h with
      | 0, h => simp at h; subst h; exact List.mem_cons_self
      | i + 1, h => 
        have := ih1 i v (by simpa using h) hv
        rw [show a + (i + 1) = a + 1 + i by omega]
        exact List.mem_cons_of_mem _ this
theorem fnL0_len : ∀ l : List Value, (fnL0 l).length = (lg_sl l).length
  | [] => rfl
  | v :: r => by
    have := fnL0_len r
    cases v <;> simp [fnL0, lg_sl, this, Value.category]
theorem fnW_of {E : fnE} {σ : fnMem} {i : Nat} {q : Nat × va_E} (h : (fnW E σ)[i]? = some q) : i < 79 ∧ q = (E.1 i, fnEn E (σ i) (fnSh i)) := by
  have hi : i < 79 := by
    have := (List.getElem?_eq_some_iff.mp h).1
    simpa [fnW] using this
  rw [fnW_at E σ hi] at h
  exact ⟨hi, (Option.some.inj h).symm⟩
theorem fnW_D {E : fnE} {σ : fnMem} {A B : Nat → Prop} (h : va_D A (fnW E σ)) (hB : ∀ k, k < 79 → B (E.1 k)) (σ' : fnMem) : va_D B (fnW E σ') := by
  refine ⟨fun i j p q hi hj hpq => ?_, fun k q hk => ?_⟩
  · obtain ⟨h1, rfl⟩ := fnW_of hi
    obtain ⟨h2, rfl⟩ := fnW_of hj
    exact h.1 i j _ _ (fnW_at E σ h1) (fnW_at E σ h2) hpq
  · obtain ⟨h1, rfl⟩ := fnW_of hk
    exact hB k h1
theorem fnNest_on {w : Cond} (h : fnNest w = true) : w.onTables = true := by cases w <;> first | rfl | simp [fnNest] at h
theorem fnNest_warm {w : Cond} (h : fnNest w = true) {s U : State} (hW : s.WarmedH U.vm) (hZ : va_Nw w s) : va_Nw w U := by
  cases w <;> first | exact va_Nw.warmM hW hZ | simp [fnNest] at h
theorem fnU_blind (E : fnE) (σ : fnMem) (sz : Nat) (av : List Value) : FrameBlind (va_Pc av (fnU E σ sz)) := by
  intro a U g mk h
  obtain ⟨h1, h2, h3, h4, h5, h6, h7, h8⟩ := h
  exact ⟨h1, h2, h3, va_K.moved (u := U) (U := U.calling g mk a) (Vm.Alike.refl U.vm) h4, h5, va_Z.moved (u := U) (U := U.calling g mk a) (Vm.Alike.refl U.vm) h6, va_T.moved (u := U) (U := U.calling g mk a) (Vm.Alike.refl U.vm) h7, fun w hw hn => va_Nw.same (fnNest_on hn) (u := U) (U := U.calling g mk a) rfl (h8 w hw hn)⟩
theorem fnA_sub {E : fnE} {A : Nat → Prop} {σ : fnMem} {H0 H : Heap} {locs : List Loc} (hD : va_D A (fnW E σ)) (hA : ∀ q, H0.size ≤ q → A q) (hS : va_S A H0 H locs) : ∀ q, fnA E H.size q → A q := by
  intro q h
  rcases h with ⟨k, hk, rfl⟩ | h
  · exact hD.2 k _ (fnW_at E σ hk)
  · exact hA q (Nat.le_trans hS.1 h)
theorem fnU_of {E : fnE} {σ : fnMem} {A : Nat → Prop} {s U : State} {H : Heap} {locs : List Loc} (hK : va_K E.2.1 vwCl (fnTy E) s) (hD : ∀ σ, va_D A (fnW E σ)) (hA : ∀ q, s.heap.size ≤ q → A q)
    (hZ : va_Z "FooledNeedle$Waves" "SINES" "[I" (.ref (E.1 100)) A s s.heap) (hT : va_T .int (E.1 100) 32 (fun j => zI (fnSinL.getD j 0)) A s s.heap) (hN : ∀ w ∈ lw_tbl, fnNest w = true → va_Nw w s)
    (hP : va_P E.2.1 vwCl (fnW E σ) H) (hS : va_S A s.heap H locs) (hU : U.heap = H) (hW : s.WarmedH U.vm) : fnU E σ H.size U := by
  subst hU
  have hsub := fnA_sub (hD σ) hA hS
  exact ⟨rfl, hP, hK.moved hW.alike, fnW_D (hD σ) (fun _ _ => trivial) σ, ((hZ.kept hS.2.1).moved hW.alike).narrow hsub, ((hT.kept hS.2.1).moved hW.alike).narrow hsub, fun w hw hn => fnNest_warm hn hW (hN w hw hn)⟩
theorem fnT_good : ∀ w ∈ fnT, (w.onTables && w.keeps) = true ∨ ∃ ty, w = .arrayClass ty := fun _ h => good_of_word (List.mem_filter.mp h).2
theorem fn_after {p : Program} {l : Launch} {e : Env} {R : Room} {s : State} {m : MethodId} {args : Array Value} {below : List Frame} {meth : Method} {c : Code} {H : Heap} {locs : List Loc} {cells slots : Nat} {Q : State → Prop}
    {pc : Nat} {ls : Array Slot} {st0 rest : List Value} {E : fnE} {A : Nat → Prop} {Post : Option Value → fnMem → Prop}
    (hr : va_Run p l e R s m args below meth c H locs cells slots 0 0 (F0 m pc ls st0) rest (fun st oc t => ∃ (v : Option Value) (σ' : fnMem), oc = .returned (v.map (fnTr E)) ∧ Post v σ' ∧ va_P E.2.1 vwCl (fnW E σ') t.heap ∧ va_F (fnA E H.size) st t) (fnA E H.size))
    (hS : va_S A s.heap H locs) (hsub : ∀ q, fnA E H.size q → A q)
    (kk : ∀ (v : Option Value) (σ' : fnMem) (H1 : Heap) (locs1 : List Loc), Post v σ' → va_P E.2.1 vwCl (fnW E σ') H1 → va_S A s.heap H1 locs1 → W p l e R s m args below meth c H1 locs1 cells slots Q (F0 m (pc + 3) ls ((v.map (fnTr E)).toList ++ rest))) : W p l e R s m args below meth c H locs cells slots Q (F0 m pc ls st0) := by
  intro T hT X
  obtain ⟨v, st₀, t, T', L, h0, X', hL, e1, e2, ⟨v', σ', hv, hp, hP1, hz, hk⟩, st⟩ := hr T hT X
  cases hv
  rw [h0] at hz hk
  obtain ⟨t2, a1, b1⟩ := kk v' σ' T'.heap (locs ++ L) hp (by rw [e1]; exact hP1)
    ⟨Nat.le_trans hS.1 (by rw [e1]; exact hz), fun q h1 h2 => by rw [e1, hk q (Nat.lt_of_lt_of_le h1 hS.1) (fun z => h2 (hsub q z))]; exact hS.2.1 q h1 h2, fun q hq => by
      rcases List.mem_append.mp hq with h | h
      · exact hS.2.2 q h
      · exact hsub _ (hL q h)⟩ T' rfl X'
  exact ⟨t2, st t2 a1, b1⟩
set_option maxHeartbeats 4000000 in
/-- a contract out of a walk of the body -/
theorem fnOk.of {E : fnE} {M : fnM} {as : List Value} {σ : fnMem} {Post : Option Value → fnMem → Prop} (lv0 : List Value) (hlv : fnPad M.2.2.1 (fnL0 as) = lv0) (hpl : plainName M.1.cls = true) (hlen : (fnL0 as).length ≤ M.2.2.1)
    (body : ∀ V : fnV, fnCx E M.1.cls M.2.1 M.2.2.1 M.2.2.2.2.1 M.2.2.2.2.2 V → fnRt M.2.1 M.2.2.2.1 Post V → V 0 lv0 [] σ) : fnOk E M as σ Post := by
  intro l sz
  refine Met.ofW (cc := M.2.1) (maxL := M.2.2.1) (ret := M.2.2.2.1) hpl rfl ?_
  intro p e s m args below meth c s₁ B hml hv
  obtain ⟨rfl, hsz, hP, hK, hD, hZ, hT, hN⟩ := hv
  have hx := B.exec
  have hb := B.bytes
  have hr := B.returns
  have hts := atoms_spec (ws := (.code M.1 M.2.1 M.2.2.1 M.2.2.2.1 :: fnT)) B.pre
  have hown : s.vm.findClass M.1.cls = some m.cls := findClass_of_methodNamed B.named
  have hlocks := B.notSynchronized
  subst hsz
  have hlen' : (lg_sl (as.map (fnTr E))).length ≤ M.2.2.1 := by rw [← fnL0_len, ← fnL0_tr]; simpa using hlen
  have hl := lv_entry (as.map (fnTr E)) (n := M.2.2.1) hlen'
  rw [lg_entry_eq]
  generalize (lg_sl (as.map (fnTr E)) ++ List.replicate (M.2.2.1 - (lg_sl (as.map (fnTr E))).length) Slot.unset).toArray = ls at hl ⊢
  have hls : fnLs ls M.2.2.1 (lv0.map (fnTr E)) := by
    refine ⟨hl.1, hl.2.1, fun i v hi hv => ?_⟩
    subst hlv
    simp only [fnPad, List.map_append, fnL0_tr] at hi
    by_cases hi2 : i < (fnL0 (as.map (fnTr E))).length
    · rw [List.getElem?_append_left hi2] at hi
      have := hl.2.2 (0 + i, v) (fnL0_args _ 0 i v hi hv)
      simpa using this
    · rw [List.getElem?_append_right (by omega)] at hi
      simp only [List.map_replicate, fnTr, List.getElem?_replicate] at hi
      split at hi
      · cases hi; exact absurd rfl hv
      · cases hi
  have hS0 : va_S (fnA E s.heap.size) s.heap s.heap [] := va_S.rf
  refine body _ ⟨p, l, e, (headSpec (.code M.1 M.2.1 M.2.2.1 M.2.2.2.1 :: fnT) (fnRm M)).room, s, m, _, below, meth, c, fnA E s.heap.size, 0, 0, _, ⟨hx, hb, hml, hown, fun w hw => hts w (List.mem_cons_of_mem _ hw)⟩, hK, fun σ' => fnW_D hD (fun k hk => Or.inl ⟨k, hk, rfl⟩) σ', fun q h => Or.inr h, hZ, hT, hN, ⟨Nat.le_refl _, Nat.le_refl _, Nat.zero_le _, Nat.zero_le _⟩, rfl⟩ ⟨?_, ?_, ?_, ?_, ?_⟩ s.heap [] ls hP hS0 hls
  · intro hret pc nx lv z σ1 hd hp H locs ls hP hS hl
    exact W.iret (v := Int32.ofInt z) hx hb (hr.trans hret) (fun t ht hW => ⟨some (zI z), σ1, rfl, hp, by rw [ht]; exact hP, hS.F ht⟩) hS.2.2 hd.1 hlocks
  · intro hret pc nx lv z σ1 hd hz hp H locs ls hP hS hl
    exact W.zret (v := Int32.ofInt z) (ty := .boolean) hx hb (hr.trans hret) (by rcases hz with rfl | rfl <;> decide +kernel) (fun t ht hW => ⟨some (zI z), σ1, rfl, hp, by rw [ht]; exact hP, hS.F ht⟩) hS.2.2 hd.1 hlocks
  · intro hret pc nx lv z σ1 hd hp H locs ls hP hS hl
    exact W.lret (v := Int64.ofInt z) hx hb (hr.trans hret) (fun t ht hW => ⟨some (zL z), σ1, rfl, hp, by rw [ht]; exact hP, hS.F ht⟩) hS.2.2 hd.1 hlocks
  · intro hret pc nx lv σ1 hd hp H locs ls hP hS hl
    exact W.vret hx hb (hr.trans hret) (fun t ht hW => ⟨none, σ1, rfl, hp, by rw [ht]; exact hP, hS.F ht⟩) hS.2.2 hd.1 hlocks
  · intro C hret pc nx lv k σ1 hd hp H locs ls hP hS hl
    exact W.aret (v := .ref (E.1 k)) (rt := .object C) hx hb (hr.trans hret) (Or.inl ⟨C, rfl⟩) (Or.inr ⟨_, rfl⟩) (fun t ht hW => ⟨some (.ref k), σ1, rfl, hp, by rw [ht]; exact hP, hS.F ht⟩) hS.2.2 hd.1 hlocks
/-! calls -/
/-- what the tables say of a static method, of an instance method -/
def fnMq (M : fnM) (n : Nat) : Prop := Cond.initialized M.1.cls ∈ fnT ∧ Cond.code M.1 M.2.1 M.2.2.1 M.2.2.2.1 ∈ fnT ∧ M.1.cls ≠ "java/lang/invoke/MethodHandle" ∧ M.1.cls ≠ "java/lang/invoke/VarHandle" ∧ (parseMethodDescriptor M.1.desc).map (fun d => d.parameters.length) = some n
def fnMs (M : fnM) (n : Nat) : Prop := fnMq M n ∧ Cond.static M.1 ∈ fnT
def fnMv (M : fnM) (n : Nat) : Prop := fnMq M n ∧ Cond.instanceMethod M.1 ∈ fnT ∧ Cond.selects M.1.cls M.1 M.1 ∈ fnT
theorem fnMq.good {M : fnM} {n : Nat} (h : fnMq M n) : GoodIn fnT (.code M.1 M.2.1 M.2.2.1 M.2.2.2.1 :: fnT) := by
  intro w hw
  rcases List.mem_cons.mp hw with rfl | hw
  · exact ⟨h.2.1, fnT_good _ h.2.1⟩
  · exact ⟨hw, fnT_good _ hw⟩
theorem fn_catsum (E : fnE) (st : List Value) : ((st.map (fnTr E)).map fun v => v.category) = st.map fun v => v.category := by
  rw [List.map_map]
  exact List.map_congr_left fun v _ => fnTr_cat E v
set_option maxHeartbeats 4000000 in
theorem fn_callS {E : fnE} {own : String} {cc : ByteArray} {nL fr lo : Nat} {V : fnV} (h : fnCx E own cc nL fr lo V) {M : fnM} {as rest lv : List Value} {σ : fnMem} {Post : Option Value → fnMem → Prop} {idx n pc nx : Nat}
    (hOk : fnOk E M as σ Post) (hm : fnMs M n) (hlk : Cond.methodLink own idx M.1 ∈ fnT) (hd : fnD cc pc (.invokestatic idx) 3 nx) (hR : Nat.ble (M.2.2.2.2.1 + 1) fr = true ∧ Nat.ble (8 + (M.2.2.1 + 11) + M.2.2.2.2.2) lo = true) (hn : as.length = n) (hW : Nat.ble (rest.map fun v => v.category).sum 8 = true)
    (k : ∀ (v : Option Value) (σ' : fnMem), Post v σ' → V nx lv (v.toList ++ rest) σ') : V pc lv (as.reverse ++ rest) σ := by
  obtain ⟨p, l, e, R, s, m, args, below, meth, c, A, cells, slots, Q, ⟨hx, hb, hml, hown, hts⟩, hK, hD, hA, hZ, hT, hN, ⟨r1, r2, r3, r4⟩, rfl⟩ := h
  obtain ⟨hd, rfl⟩ := hd
  intro H locs ls hP hS hl
  have hR1 := Nat.le_trans (Nat.le_of_ble_eq_true hR.1) r1
  have hR2 := Nat.le_trans (Nat.le_of_ble_eq_true hR.2) r2
  have hM := hOk l H.size
  have run := va_runS (l := l) (e := e) (R := R) (below := below) (meth := meth) (H := H) (locs := locs) (cells := cells) (slots := slots) (g := F0 m pc ls ((as.reverse ++ rest).map (fnTr E))) (As := as.map (fnTr E)) (rest := rest.map (fnTr E)) ⟨hx, hb, hml, hown, hts⟩ hM ⟨callB_of n hts hm.1.good rfl rfl rfl (hts _ hm.1.1) (hts _ hlk) hm.1.2.2 ⟨hR1, hR2⟩, hts _ hm.2⟩
    ⟨fnU_blind _ _ _ _, fun U hU hW => ⟨rfl, fnU_of hK hD hA hZ hT hN hP hS hU hW⟩⟩ rfl (by simpa using hn) hl.1 (by simp) (lv_room (by rw [fn_catsum]; exact Nat.le_of_ble_eq_true hW)) hd ⟨r3, r4⟩
  refine fn_after run hS (fnA_sub (hD σ) hA hS) fun v σ' H1 locs1 hp hP1 hS1 => ?_
  have := k v σ' hp H1 locs1 ls hP1 hS1 hl
  rw [List.map_append] at this
  cases v <;> exact this
set_option maxHeartbeats 4000000 in
theorem fn_callN {E : fnE} {own host : String} {cc : ByteArray} {nL fr lo : Nat} {V : fnV} (h : fnCx E own cc nL fr lo V) {M : fnM} {as rest lv : List Value} {σ : fnMem} {Post : Option Value → fnMem → Prop} {idx n pc nx : Nat}
    (hOk : fnOk E M as σ Post) (hm : fnMs M n) (hlk : Cond.methodLinkNest own idx M.1 host ∈ lw_tbl) (hd : fnD cc pc (.invokestatic idx) 3 nx) (hR : Nat.ble (M.2.2.2.2.1 + 1) fr = true ∧ Nat.ble (8 + (M.2.2.1 + 11) + M.2.2.2.2.2) lo = true) (hn : as.length = n) (hW : Nat.ble (rest.map fun v => v.category).sum 8 = true)
    (k : ∀ (v : Option Value) (σ' : fnMem), Post v σ' → V nx lv (v.toList ++ rest) σ') : V pc lv (as.reverse ++ rest) σ := by
  obtain ⟨p, l, e, R, s, m, args, below, meth, c, A, cells, slots, Q, ⟨hx, hb, hml, hown, hts⟩, hK, hD, hA, hZ, hT, hN, ⟨r1, r2, r3, r4⟩, rfl⟩ := h
  obtain ⟨hd, rfl⟩ := hd
  intro H locs ls hP hS hl
  have hR1 := Nat.le_trans (Nat.le_of_ble_eq_true hR.1) r1
  have hR2 := Nat.le_trans (Nat.le_of_ble_eq_true hR.2) r2
  have hM := hOk l H.size
  have run := va_runSN (l := l) (e := e) (R := R) (below := below) (meth := meth) (H := H) (locs := locs) (cells := cells) (slots := slots) (g := F0 m pc ls ((as.reverse ++ rest).map (fnTr E))) (As := as.map (fnTr E)) (rest := rest.map (fnTr E)) ⟨hx, hb, hml, hown, hts⟩ hM ⟨va_cnB n hts hm.1.good rfl rfl rfl (hN _ hlk rfl) (hts _ hm.1.1) hm.1.2.2 ⟨hR1, hR2⟩, hts _ hm.2, trivial⟩
    ⟨fnU_blind _ _ _ _, fun U hU hW => ⟨rfl, fnU_of hK hD hA hZ hT hN hP hS hU hW⟩⟩ rfl (by simpa using hn) hl.1 (by simp) (lv_room (by rw [fn_catsum]; exact Nat.le_of_ble_eq_true hW)) hd ⟨r3, r4⟩
  refine fn_after run hS (fnA_sub (hD σ) hA hS) fun v σ' H1 locs1 hp hP1 hS1 => ?_
  have := k v σ' hp H1 locs1 ls hP1 hS1 hl
  rw [List.map_append] at this
  cases v <;> exact this
theorem fn_recv {E : fnE} {σ : fnMem} {s : State} {H : Heap} {k ci : Nat} {C : String} {T : u_T} {N : Nat} (hK : va_K E.2.1 vwCl (fnTy E) s) (hP : va_P E.2.1 vwCl (fnW E σ) H) (hk : k < 79) (hs : (fnSh k).1 = ci + 4) (hc : vwCl[ci]? = some (C, T, N)) : ∃ cellB : Cell, H[E.1 k]? = some cellB ∧ cellB.vm.isStatics = false ∧ s.vm.findClass C = some cellB.cls := by
  have h1 := hP k _ (fnW_at E σ hk)
  rcases hsh : fnSh k with ⟨a, b, r⟩
  rw [hsh] at h1 hs
  simp only at hs
  subst hs
  obtain ⟨q, h2, cell, h3, h4, h5, -⟩ := h1
  refine ⟨cell, h3, by rw [h5]; rfl, ?_⟩
  have h6 := (hK.1 ci _ hc).2.1
  rw [h4]
  exact h6
set_option maxHeartbeats 4000000 in
theorem fn_callV {E : fnE} {own : String} {cc : ByteArray} {nL fr lo : Nat} {V : fnV} (h : fnCx E own cc nL fr lo V) {M : fnM} {as rest lv : List Value} {b : Nat} {σ : fnMem} {Post : Option Value → fnMem → Prop} {idx n pc nx ci : Nat} {T : u_T} {N : Nat}
    (hOk : fnOk E M (.ref b :: as) σ Post) (hm : fnMv M n) (hlk : Cond.methodLink own idx M.1 ∈ fnT) (hd : fnD cc pc (.invokevirtual idx) 3 nx) (hb79 : b < 79) (hs : (fnSh b).1 = ci + 4) (hci : vwCl[ci]? = some (M.1.cls, T, N)) (hR : Nat.ble (M.2.2.2.2.1 + 1) fr = true ∧ Nat.ble (8 + (M.2.2.1 + 11) + M.2.2.2.2.2) lo = true) (hn : as.length = n) (hW : Nat.ble (rest.map fun v => v.category).sum 8 = true)
    (k : ∀ (v : Option Value) (σ' : fnMem), Post v σ' → V nx lv (v.toList ++ rest) σ') : V pc lv (as.reverse ++ .ref b :: rest) σ := by
  obtain ⟨p, l, e, R, s, m, args, below, meth, c, A, cells, slots, Q, ⟨hx, hb, hml, hown, hts⟩, hK, hD, hA, hZ, hT, hN, ⟨r1, r2, r3, r4⟩, rfl⟩ := h
  obtain ⟨hd, rfl⟩ := hd
  intro H locs ls hP hS hl
  have hR1 := Nat.le_trans (Nat.le_of_ble_eq_true hR.1) r1
  have hR2 := Nat.le_trans (Nat.le_of_ble_eq_true hR.2) r2
  have hM := hOk l H.size
  have run := va_runV (l := l) (e := e) (R := R) (below := below) (meth := meth) (H := H) (locs := locs) (cells := cells) (slots := slots) (g := F0 m pc ls ((as.reverse ++ .ref b :: rest).map (fnTr E))) (As := as.map (fnTr E)) (b := E.1 b) (rest := rest.map (fnTr E)) ⟨hx, hb, hml, hown, hts⟩ hM ⟨callB_of n hts hm.1.good rfl rfl rfl (hts _ hm.1.1) (hts _ hlk) hm.1.2.2 ⟨hR1, hR2⟩, hts _ hm.2.1, hts _ hm.2.2⟩
    ⟨fnU_blind _ _ _ _, fn_recv hK hP hb79 hs hci, fun U hU hW => ⟨rfl, fnU_of hK hD hA hZ hT hN hP hS hU hW⟩⟩ rfl (by simpa using hn) hl.1 (by simp [fnTr]) (lv_room (by rw [fn_catsum]; exact Nat.le_of_ble_eq_true hW)) hd ⟨r3, r4⟩
  refine fn_after run hS (fnA_sub (hD σ) hA hS) fun v σ' H1 locs1 hp hP1 hS1 => ?_
  have := k v σ' hp H1 locs1 ls hP1 hS1 hl
  rw [List.map_append] at this
  cases v <;> exact this
end
section
theorem fn_iconst {E : fnE} {own : String} {cc : ByteArray} {nL fr lo : Nat} {V : fnV} (h : fnCx E own cc nL fr lo V) {pc nx : Nat} {lv st : List Value} {σ : fnMem} {n : Int} (hd : fnD cc pc (.iconst n) 1 nx) (k : V nx lv (zI n :: st) σ) : V pc lv st σ := by
  obtain ⟨p, l, e, R, s, m, args, below, meth, c, A, cells, slots, Q, ⟨hx, hb, hml, hown, hts⟩, hK, hD, hA, hZ, hT, hN, ⟨r1, r2, r3, r4⟩, rfl⟩ := h
  obtain ⟨hd, rfl⟩ := hd
  intro H locs ls hP hS hl
  have k := k H locs ls hP hS hl
  exact lv_iconst hx hb hd rfl k

def fnB8 (n : Int) : Bool := decide (-128 ≤ n) && decide (n < 128)
def fnB16 (n : Int) : Bool := decide (-32768 ≤ n) && decide (n < 32768)
theorem fnB8_ok {n : Int} (h : fnB8 n = true) : (Int8.ofInt n).toInt32 = Int32.ofInt n := by
  simp only [fnB8, Bool.and_eq_true, decide_eq_true_eq] at h
  rw [← Int32.toInt_inj, Int8.toInt_toInt32, Int8.toInt_ofInt_of_le (by simpa using h.1) (by simpa using h.2), fn_toI ⟨by omega, by omega⟩]
theorem fnB16_ok {n : Int} (h : fnB16 n = true) : (Int16.ofInt n).toInt32 = Int32.ofInt n := by
  simp only [fnB16, Bool.and_eq_true, decide_eq_true_eq] at h
  rw [← Int32.toInt_inj, Int16.toInt_toInt32, Int16.toInt_ofInt_of_le (by simpa using h.1) (by simpa using h.2), fn_toI ⟨by omega, by omega⟩]

theorem fn_bipush {E : fnE} {own : String} {cc : ByteArray} {nL fr lo : Nat} {V : fnV} (h : fnCx E own cc nL fr lo V) {pc nx : Nat} {lv st : List Value} {σ : fnMem} {n : Int} (hd : fnD cc pc (.bipush n) 2 nx) (hr : fnB8 n = true) (k : V nx lv (zI n :: st) σ) : V pc lv st σ := by
  obtain ⟨p, l, e, R, s, m, args, below, meth, c, A, cells, slots, Q, ⟨hx, hb, hml, hown, hts⟩, hK, hD, hA, hZ, hT, hN, ⟨r1, r2, r3, r4⟩, rfl⟩ := h
  obtain ⟨hd, rfl⟩ := hd
  intro H locs ls hP hS hl
  have k := k H locs ls hP hS hl
  exact lv_bipush hx hb hd (fnB8_ok hr) k

theorem fn_sipush {E : fnE} {own : String} {cc : ByteArray} {nL fr lo : Nat} {V : fnV} (h : fnCx E own cc nL fr lo V) {pc nx : Nat} {lv st : List Value} {σ : fnMem} {n : Int} (hd : fnD cc pc (.sipush n) 3 nx) (hr : fnB16 n = true) (k : V nx lv (zI n :: st) σ) : V pc lv st σ := by
  obtain ⟨p, l, e, R, s, m, args, below, meth, c, A, cells, slots, Q, ⟨hx, hb, hml, hown, hts⟩, hK, hD, hA, hZ, hT, hN, ⟨r1, r2, r3, r4⟩, rfl⟩ := h
  obtain ⟨hd, rfl⟩ := hd
  intro H locs ls hP hS hl
  have k := k H locs ls hP hS hl
  exact lv_sipush hx hb hd (fnB16_ok hr) k

theorem fn_lconst0 {E : fnE} {own : String} {cc : ByteArray} {nL fr lo : Nat} {V : fnV} (h : fnCx E own cc nL fr lo V) {pc nx : Nat} {lv st : List Value} {σ : fnMem} (hd : fnD cc pc (.lconst 0) 1 nx) (k : V nx lv (zL 0 :: st) σ) : V pc lv st σ := by
  obtain ⟨p, l, e, R, s, m, args, below, meth, c, A, cells, slots, Q, ⟨hx, hb, hml, hown, hts⟩, hK, hD, hA, hZ, hT, hN, ⟨r1, r2, r3, r4⟩, rfl⟩ := h
  obtain ⟨hd, rfl⟩ := hd
  intro H locs ls hP hS hl
  have k := k H locs ls hP hS hl
  exact lv_lconst hx hb hd (by decide +kernel) k

theorem fn_lconst1 {E : fnE} {own : String} {cc : ByteArray} {nL fr lo : Nat} {V : fnV} (h : fnCx E own cc nL fr lo V) {pc nx : Nat} {lv st : List Value} {σ : fnMem} (hd : fnD cc pc (.lconst 1) 1 nx) (k : V nx lv (zL 1 :: st) σ) : V pc lv st σ := by
  obtain ⟨p, l, e, R, s, m, args, below, meth, c, A, cells, slots, Q, ⟨hx, hb, hml, hown, hts⟩, hK, hD, hA, hZ, hT, hN, ⟨r1, r2, r3, r4⟩, rfl⟩ := h
  obtain ⟨hd, rfl⟩ := hd
  intro H locs ls hP hS hl
  have k := k H locs ls hP hS hl
  exact lv_lconst hx hb hd (by decide +kernel) k

theorem fn_ldc {E : fnE} {own : String} {cc : ByteArray} {nL fr lo : Nat} {V : fnV} (h : fnCx E own cc nL fr lo V) {pc nx : Nat} {lv st : List Value} {σ : fnMem} {idx : Nat} {z : Int} (hd : fnD cc pc (.ldc idx) 2 nx) (hc : Cond.constant own idx (Int32.ofInt z) ∈ fnT) (k : V nx lv (zI z :: st) σ) : V pc lv st σ := by
  obtain ⟨p, l, e, R, s, m, args, below, meth, c, A, cells, slots, Q, ⟨hx, hb, hml, hown, hts⟩, hK, hD, hA, hZ, hT, hN, ⟨r1, r2, r3, r4⟩, rfl⟩ := h
  obtain ⟨hd, rfl⟩ := hd
  intro H locs ls hP hS hl
  have k := k H locs ls hP hS hl
  exact lv_ldc hx hb hown (hts _ hc) hd k

theorem fn_ldc2 {E : fnE} {own : String} {cc : ByteArray} {nL fr lo : Nat} {V : fnV} (h : fnCx E own cc nL fr lo V) {pc nx : Nat} {lv st : List Value} {σ : fnMem} {idx : Nat} {z : Int} (hd : fnD cc pc (.ldc2_w idx) 3 nx) (hc : Cond.constantLong own idx (Int64.ofInt z) ∈ fnT) (k : V nx lv (zL z :: st) σ) : V pc lv st σ := by
  obtain ⟨p, l, e, R, s, m, args, below, meth, c, A, cells, slots, Q, ⟨hx, hb, hml, hown, hts⟩, hK, hD, hA, hZ, hT, hN, ⟨r1, r2, r3, r4⟩, rfl⟩ := h
  obtain ⟨hd, rfl⟩ := hd
  intro H locs ls hP hS hl
  have k := k H locs ls hP hS hl
  exact lv_ldc2 hx hb hown (hts _ hc) hd k

theorem fn_iloadG {E : fnE} {own : String} {cc : ByteArray} {nL fr lo : Nat} {V : fnV} (h : fnCx E own cc nL fr lo V) {pc nx : Nat} {lv st : List Value} {σ : fnMem} {i : Nat} {z : Int} (hd : fnD cc pc (.iload i) 2 nx) (hi : lv[i]? = some (zI z)) (k : V nx lv (zI z :: st) σ) : V pc lv st σ := by
  obtain ⟨p, l, e, R, s, m, args, below, meth, c, A, cells, slots, Q, ⟨hx, hb, hml, hown, hts⟩, hK, hD, hA, hZ, hT, hN, ⟨r1, r2, r3, r4⟩, rfl⟩ := h
  obtain ⟨hd, rfl⟩ := hd
  intro H locs ls hP hS hl
  have k := k H locs ls hP hS hl
  exact lv_iload hx hb hd (hl.2.2 i (fnTr E (zI z)) (by rw [List.getElem?_map, hi]; rfl) (fun q => by cases q)) k

theorem fn_iloadN {E : fnE} {own : String} {cc : ByteArray} {nL fr lo : Nat} {V : fnV} (h : fnCx E own cc nL fr lo V) {pc nx : Nat} {lv st : List Value} {σ : fnMem} {n : Fin 4} {i : Nat} {z : Int} (hd : fnD cc pc (.iload_n n) 1 nx) (hn : (n : Nat) = i) (hi : lv[i]? = some (zI z)) (k : V nx lv (zI z :: st) σ) : V pc lv st σ := by
  obtain ⟨p, l, e, R, s, m, args, below, meth, c, A, cells, slots, Q, ⟨hx, hb, hml, hown, hts⟩, hK, hD, hA, hZ, hT, hN, ⟨r1, r2, r3, r4⟩, rfl⟩ := h
  obtain ⟨hd, rfl⟩ := hd
  intro H locs ls hP hS hl
  have k := k H locs ls hP hS hl
  exact lv_iload_n hx hb hd hn (hl.2.2 i (fnTr E (zI z)) (by rw [List.getElem?_map, hi]; rfl) (fun q => by cases q)) k

theorem fn_lloadG {E : fnE} {own : String} {cc : ByteArray} {nL fr lo : Nat} {V : fnV} (h : fnCx E own cc nL fr lo V) {pc nx : Nat} {lv st : List Value} {σ : fnMem} {i : Nat} {z : Int} (hd : fnD cc pc (.lload i) 2 nx) (hi : lv[i]? = some (zL z)) (k : V nx lv (zL z :: st) σ) : V pc lv st σ := by
  obtain ⟨p, l, e, R, s, m, args, below, meth, c, A, cells, slots, Q, ⟨hx, hb, hml, hown, hts⟩, hK, hD, hA, hZ, hT, hN, ⟨r1, r2, r3, r4⟩, rfl⟩ := h
  obtain ⟨hd, rfl⟩ := hd
  intro H locs ls hP hS hl
  have k := k H locs ls hP hS hl
  exact lv_lload hx hb hd (hl.2.2 i (fnTr E (zL z)) (by rw [List.getElem?_map, hi]; rfl) (fun q => by cases q)) k

theorem fn_lloadN {E : fnE} {own : String} {cc : ByteArray} {nL fr lo : Nat} {V : fnV} (h : fnCx E own cc nL fr lo V) {pc nx : Nat} {lv st : List Value} {σ : fnMem} {n : Fin 4} {i : Nat} {z : Int} (hd : fnD cc pc (.lload_n n) 1 nx) (hn : (n : Nat) = i) (hi : lv[i]? = some (zL z)) (k : V nx lv (zL z :: st) σ) : V pc lv st σ := by
  obtain ⟨p, l, e, R, s, m, args, below, meth, c, A, cells, slots, Q, ⟨hx, hb, hml, hown, hts⟩, hK, hD, hA, hZ, hT, hN, ⟨r1, r2, r3, r4⟩, rfl⟩ := h
  obtain ⟨hd, rfl⟩ := hd
  intro H locs ls hP hS hl
  have k := k H locs ls hP hS hl
  exact lv_lload_n hx hb hd hn (hl.2.2 i (fnTr E (zL z)) (by rw [List.getElem?_map, hi]; rfl) (fun q => by cases q)) k

theorem fn_aloadG {E : fnE} {own : String} {cc : ByteArray} {nL fr lo : Nat} {V : fnV} (h : fnCx E own cc nL fr lo V) {pc nx : Nat} {lv st : List Value} {σ : fnMem} {i : Nat} {z : Nat} (hd : fnD cc pc (.aload i) 2 nx) (hi : lv[i]? = some (.ref z)) (k : V nx lv (.ref z :: st) σ) : V pc lv st σ := by
  obtain ⟨p, l, e, R, s, m, args, below, meth, c, A, cells, slots, Q, ⟨hx, hb, hml, hown, hts⟩, hK, hD, hA, hZ, hT, hN, ⟨r1, r2, r3, r4⟩, rfl⟩ := h
  obtain ⟨hd, rfl⟩ := hd
  intro H locs ls hP hS hl
  have k := k H locs ls hP hS hl
  exact lv_aload hx hb hd (hl.2.2 i (fnTr E (.ref z)) (by rw [List.getElem?_map, hi]; rfl) (fun q => by cases q)) k

theorem fn_aloadN {E : fnE} {own : String} {cc : ByteArray} {nL fr lo : Nat} {V : fnV} (h : fnCx E own cc nL fr lo V) {pc nx : Nat} {lv st : List Value} {σ : fnMem} {n : Fin 4} {i : Nat} {z : Nat} (hd : fnD cc pc (.aload_n n) 1 nx) (hn : (n : Nat) = i) (hi : lv[i]? = some (.ref z)) (k : V nx lv (.ref z :: st) σ) : V pc lv st σ := by
  obtain ⟨p, l, e, R, s, m, args, below, meth, c, A, cells, slots, Q, ⟨hx, hb, hml, hown, hts⟩, hK, hD, hA, hZ, hT, hN, ⟨r1, r2, r3, r4⟩, rfl⟩ := h
  obtain ⟨hd, rfl⟩ := hd
  intro H locs ls hP hS hl
  have k := k H locs ls hP hS hl
  exact lv_aload_n hx hb hd hn (hl.2.2 i (fnTr E (.ref z)) (by rw [List.getElem?_map, hi]; rfl) (fun q => by cases q)) k

theorem fnSet_tr (E : fnE) (lv : List Value) (i : Nat) (v : Value) : (lv.map (fnTr E)).set i (fnTr E v) = (lv.set i v).map (fnTr E) := by
  rw [List.map_set]
theorem fnPrev {E : fnE} {lv : List Value} {i : Nat} (hp : ∀ j w, i = j + 1 → lv[j]? = some w → fnC1 w = true) : ∀ j w, i = j + 1 → (lv.map (fnTr E))[j]? = some w → w.category ≠ 2 := by
  intro j w hj hw
  rw [List.getElem?_map] at hw
  cases hv : lv[j]? with
  | none => rw [hv] at hw; cases hw
  | some u =>
    rw [hv] at hw
    cases hw
    have := fnC1_cat (hp j u hj hv)
    rw [fnTr_cat, this]
    decide

theorem fn_istoreG {E : fnE} {own : String} {cc : ByteArray} {nL fr lo : Nat} {V : fnV} (h : fnCx E own cc nL fr lo V) {pc nx : Nat} {lv st : List Value} {σ : fnMem} {i : Nat} {z : Int} (hd : fnD cc pc (.istore i) 2 nx) (hi : Nat.ble (i + 1) nL = true) (hp : ∀ j w, i = j + 1 → lv[j]? = some w → fnC1 w = true) (k : V nx (lv.set i (zI z)) st σ) : V pc lv (zI z :: st) σ := by
  obtain ⟨p, l, e, R, s, m, args, below, meth, c, A, cells, slots, Q, ⟨hx, hb, hml, hown, hts⟩, hK, hD, hA, hZ, hT, hN, ⟨r1, r2, r3, r4⟩, rfl⟩ := h
  obtain ⟨hd, rfl⟩ := hd
  intro H locs ls hP hS hl
  obtain ⟨ls', e', h'⟩ := hl.st1 (v := fnTr E (zI z)) (Nat.le_of_ble_eq_true hi) rfl (fnPrev hp)
  rw [fnSet_tr] at h'
  have k := k H locs ls' hP hS h'
  replace e' : storeLocals ls i (Value.int (Int32.ofInt z)) = some ls' := e'
  show W p l e R s m args below meth c H locs cells slots Q (F0 m pc ls (Value.int (Int32.ofInt z) :: st.map (fnTr E)))
  intro T hT X
  obtain ⟨t, a, b⟩ := k T hT X
  refine ⟨t, ?_, b⟩
  jvm_step X.here [X.here.top, ↓top_set X.here.top, hx, hb, hd, e']
  exact a

theorem fn_istoreN {E : fnE} {own : String} {cc : ByteArray} {nL fr lo : Nat} {V : fnV} (h : fnCx E own cc nL fr lo V) {pc nx : Nat} {lv st : List Value} {σ : fnMem} {n : Fin 4} {i : Nat} {z : Int} (hd : fnD cc pc (.istore_n n) 1 nx) (hn : (n : Nat) = i) (hi : Nat.ble (i + 1) nL = true) (hp : ∀ j w, i = j + 1 → lv[j]? = some w → fnC1 w = true) (k : V nx (lv.set i (zI z)) st σ) : V pc lv (zI z :: st) σ := by
  obtain ⟨p, l, e, R, s, m, args, below, meth, c, A, cells, slots, Q, ⟨hx, hb, hml, hown, hts⟩, hK, hD, hA, hZ, hT, hN, ⟨r1, r2, r3, r4⟩, rfl⟩ := h
  obtain ⟨hd, rfl⟩ := hd
  subst hn
  intro H locs ls hP hS hl
  obtain ⟨ls', e', h'⟩ := hl.st1 (v := fnTr E (zI z)) (Nat.le_of_ble_eq_true hi) rfl (fnPrev hp)
  rw [fnSet_tr] at h'
  have k := k H locs ls' hP hS h'
  replace e' : storeLocals ls (n : Nat) (Value.int (Int32.ofInt z)) = some ls' := e'
  show W p l e R s m args below meth c H locs cells slots Q (F0 m pc ls (Value.int (Int32.ofInt z) :: st.map (fnTr E)))
  intro T hT X
  obtain ⟨t, a, b⟩ := k T hT X
  refine ⟨t, ?_, b⟩
  jvm_step X.here [X.here.top, ↓top_set X.here.top, hx, hb, hd, e']
  exact a

theorem fn_lstoreG {E : fnE} {own : String} {cc : ByteArray} {nL fr lo : Nat} {V : fnV} (h : fnCx E own cc nL fr lo V) {pc nx : Nat} {lv st : List Value} {σ : fnMem} {i : Nat} {z : Int} (hd : fnD cc pc (.lstore i) 2 nx) (hi : Nat.ble (i + 2) nL = true) (hp : ∀ j w, i = j + 1 → lv[j]? = some w → fnC1 w = true) (k : V nx ((lv.set i (zL z)).set (i + 1) .null) st σ) : V pc lv (zL z :: st) σ := by
  obtain ⟨p, l, e, R, s, m, args, below, meth, c, A, cells, slots, Q, ⟨hx, hb, hml, hown, hts⟩, hK, hD, hA, hZ, hT, hN, ⟨r1, r2, r3, r4⟩, rfl⟩ := h
  obtain ⟨hd, rfl⟩ := hd
  intro H locs ls hP hS hl
  obtain ⟨ls', e', h'⟩ := hl.st2 (v := fnTr E (zL z)) (Nat.le_of_ble_eq_true hi) rfl (fnPrev hp)
  rw [fnSet_tr, show Value.null = fnTr E .null from rfl, fnSet_tr] at h'
  have k := k H locs ls' hP hS h'
  replace e' : storeLocals ls i (Value.long (Int64.ofInt z)) = some ls' := e'
  show W p l e R s m args below meth c H locs cells slots Q (F0 m pc ls (Value.long (Int64.ofInt z) :: st.map (fnTr E)))
  intro T hT X
  obtain ⟨t, a, b⟩ := k T hT X
  refine ⟨t, ?_, b⟩
  jvm_step X.here [X.here.top, ↓top_set X.here.top, hx, hb, hd, e']
  exact a

theorem fn_lstoreN {E : fnE} {own : String} {cc : ByteArray} {nL fr lo : Nat} {V : fnV} (h : fnCx E own cc nL fr lo V) {pc nx : Nat} {lv st : List Value} {σ : fnMem} {n : Fin 4} {i : Nat} {z : Int} (hd : fnD cc pc (.lstore_n n) 1 nx) (hn : (n : Nat) = i) (hi : Nat.ble (i + 2) nL = true) (hp : ∀ j w, i = j + 1 → lv[j]? = some w → fnC1 w = true) (k : V nx ((lv.set i (zL z)).set (i + 1) .null) st σ) : V pc lv (zL z :: st) σ := by
  obtain ⟨p, l, e, R, s, m, args, below, meth, c, A, cells, slots, Q, ⟨hx, hb, hml, hown, hts⟩, hK, hD, hA, hZ, hT, hN, ⟨r1, r2, r3, r4⟩, rfl⟩ := h
  obtain ⟨hd, rfl⟩ := hd
  subst hn
  intro H locs ls hP hS hl
  obtain ⟨ls', e', h'⟩ := hl.st2 (v := fnTr E (zL z)) (Nat.le_of_ble_eq_true hi) rfl (fnPrev hp)
  rw [fnSet_tr, show Value.null = fnTr E .null from rfl, fnSet_tr] at h'
  have k := k H locs ls' hP hS h'
  replace e' : storeLocals ls (n : Nat) (Value.long (Int64.ofInt z)) = some ls' := e'
  show W p l e R s m args below meth c H locs cells slots Q (F0 m pc ls (Value.long (Int64.ofInt z) :: st.map (fnTr E)))
  intro T hT X
  obtain ⟨t, a, b⟩ := k T hT X
  refine ⟨t, ?_, b⟩
  jvm_step X.here [X.here.top, ↓top_set X.here.top, hx, hb, hd, e']
  exact a

theorem fn_astoreG {E : fnE} {own : String} {cc : ByteArray} {nL fr lo : Nat} {V : fnV} (h : fnCx E own cc nL fr lo V) {pc nx : Nat} {lv st : List Value} {σ : fnMem} {i : Nat} {z : Nat} (hd : fnD cc pc (.astore i) 2 nx) (hi : Nat.ble (i + 1) nL = true) (hp : ∀ j w, i = j + 1 → lv[j]? = some w → fnC1 w = true) (k : V nx (lv.set i (.ref z)) st σ) : V pc lv (.ref z :: st) σ := by
  obtain ⟨p, l, e, R, s, m, args, below, meth, c, A, cells, slots, Q, ⟨hx, hb, hml, hown, hts⟩, hK, hD, hA, hZ, hT, hN, ⟨r1, r2, r3, r4⟩, rfl⟩ := h
  obtain ⟨hd, rfl⟩ := hd
  intro H locs ls hP hS hl
  obtain ⟨ls', e', h'⟩ := hl.st1 (v := fnTr E (.ref z)) (Nat.le_of_ble_eq_true hi) rfl (fnPrev hp)
  rw [fnSet_tr] at h'
  have k := k H locs ls' hP hS h'
  replace e' : storeLocals ls i (Value.ref (E.1 z)) = some ls' := e'
  show W p l e R s m args below meth c H locs cells slots Q (F0 m pc ls (Value.ref (E.1 z) :: st.map (fnTr E)))
  intro T hT X
  obtain ⟨t, a, b⟩ := k T hT X
  refine ⟨t, ?_, b⟩
  jvm_step X.here [X.here.top, ↓top_set X.here.top, hx, hb, hd, e']
  exact ⟨rfl, a⟩

theorem fn_astoreN {E : fnE} {own : String} {cc : ByteArray} {nL fr lo : Nat} {V : fnV} (h : fnCx E own cc nL fr lo V) {pc nx : Nat} {lv st : List Value} {σ : fnMem} {n : Fin 4} {i : Nat} {z : Nat} (hd : fnD cc pc (.astore_n n) 1 nx) (hn : (n : Nat) = i) (hi : Nat.ble (i + 1) nL = true) (hp : ∀ j w, i = j + 1 → lv[j]? = some w → fnC1 w = true) (k : V nx (lv.set i (.ref z)) st σ) : V pc lv (.ref z :: st) σ := by
  obtain ⟨p, l, e, R, s, m, args, below, meth, c, A, cells, slots, Q, ⟨hx, hb, hml, hown, hts⟩, hK, hD, hA, hZ, hT, hN, ⟨r1, r2, r3, r4⟩, rfl⟩ := h
  obtain ⟨hd, rfl⟩ := hd
  subst hn
  intro H locs ls hP hS hl
  obtain ⟨ls', e', h'⟩ := hl.st1 (v := fnTr E (.ref z)) (Nat.le_of_ble_eq_true hi) rfl (fnPrev hp)
  rw [fnSet_tr] at h'
  have k := k H locs ls' hP hS h'
  replace e' : storeLocals ls (n : Nat) (Value.ref (E.1 z)) = some ls' := e'
  show W p l e R s m args below meth c H locs cells slots Q (F0 m pc ls (Value.ref (E.1 z) :: st.map (fnTr E)))
  intro T hT X
  obtain ⟨t, a, b⟩ := k T hT X
  refine ⟨t, ?_, b⟩
  jvm_step X.here [X.here.top, ↓top_set X.here.top, hx, hb, hd, e']
  exact ⟨rfl, a⟩

theorem fn_iincG {E : fnE} {own : String} {cc : ByteArray} {nL fr lo : Nat} {V : fnV} (h : fnCx E own cc nL fr lo V) {pc nx : Nat} {lv st : List Value} {σ : fnMem} {i : Nat} {d z : Int} (hd : fnD cc pc (.iinc i d) 3 nx) (hz : lv[i]? = some (zI z)) (hi : Nat.ble (i + 1) nL = true) (hp : ∀ j w, i = j + 1 → lv[j]? = some w → fnC1 w = true) (k : V nx (lv.set i (zI (z + d))) st σ) : V pc lv st σ := by
  obtain ⟨p, l, e, R, s, m, args, below, meth, c, A, cells, slots, Q, ⟨hx, hb, hml, hown, hts⟩, hK, hD, hA, hZ, hT, hN, ⟨r1, r2, r3, r4⟩, rfl⟩ := h
  obtain ⟨hd, rfl⟩ := hd
  intro H locs ls hP hS hl
  have hg : ls[i]? = some (.val (.int (Int32.ofInt z))) := hl.2.2 i (fnTr E (zI z)) (by rw [List.getElem?_map, hz]; rfl) (fun q => by cases q)
  obtain ⟨ls', e', h'⟩ := hl.st1 (v := fnTr E (zI (z + d))) (Nat.le_of_ble_eq_true hi) rfl (fnPrev hp)
  rw [fnSet_tr] at h'
  have k := k H locs ls' hP hS h'
  replace e' : storeLocals ls i (.int (Int32.ofInt z + Int32.ofInt d)) = some ls' := by rw [← Int32.ofInt_add]; exact e'
  intro T hT X
  obtain ⟨t, a, b⟩ := k T hT X
  refine ⟨t, ?_, b⟩
  jvm_step X.here [X.here.top, ↓top_set X.here.top, hx, hb, hd, hg, e']
  exact a

theorem fn_iload_0 {E : fnE} {own : String} {cc : ByteArray} {nL fr lo : Nat} {V : fnV} (h : fnCx E own cc nL fr lo V) {pc nx : Nat} {t st : List Value} {σ : fnMem} {z : Int} (hd : fnD cc pc (.iload_n 0) 1 nx) (k : V nx (zI z :: t) (zI z :: st) σ) : V pc (zI z :: t) st σ := fn_iloadN h hd (i := 0) rfl rfl k

theorem fn_lload_0 {E : fnE} {own : String} {cc : ByteArray} {nL fr lo : Nat} {V : fnV} (h : fnCx E own cc nL fr lo V) {pc nx : Nat} {t st : List Value} {σ : fnMem} {z : Int} (hd : fnD cc pc (.lload_n 0) 1 nx) (k : V nx (zL z :: t) (zL z :: st) σ) : V pc (zL z :: t) st σ := fn_lloadN h hd (i := 0) rfl rfl k

theorem fn_aload_0 {E : fnE} {own : String} {cc : ByteArray} {nL fr lo : Nat} {V : fnV} (h : fnCx E own cc nL fr lo V) {pc nx : Nat} {t st : List Value} {σ : fnMem} {z : Nat} (hd : fnD cc pc (.aload_n 0) 1 nx) (k : V nx (.ref z :: t) (.ref z :: st) σ) : V pc (.ref z :: t) st σ := fn_aloadN h hd (i := 0) rfl rfl k

theorem fn_istore_0 {E : fnE} {own : String} {cc : ByteArray} {nL fr lo : Nat} {V : fnV} (h : fnCx E own cc nL fr lo V) {pc nx : Nat} {t st : List Value} {σ : fnMem} {b : Value} {z : Int} (hd : fnD cc pc (.istore_n 0) 1 nx) (hi : Nat.ble 1 nL = true)  (k : V nx (zI z :: t) st σ) : V pc (b :: t) (zI z :: st) σ := fn_istoreN h hd (i := 0) rfl hi (fun j w e q => by cases e) k

theorem fn_lstore_0 {E : fnE} {own : String} {cc : ByteArray} {nL fr lo : Nat} {V : fnV} (h : fnCx E own cc nL fr lo V) {pc nx : Nat} {t st : List Value} {σ : fnMem} {b b2 : Value} {z : Int} (hd : fnD cc pc (.lstore_n 0) 1 nx) (hi : Nat.ble 2 nL = true)  (k : V nx (zL z :: .null :: t) st σ) : V pc (b :: b2 :: t) (zL z :: st) σ := fn_lstoreN h hd (i := 0) rfl hi (fun j w e q => by cases e) k

theorem fn_astore_0 {E : fnE} {own : String} {cc : ByteArray} {nL fr lo : Nat} {V : fnV} (h : fnCx E own cc nL fr lo V) {pc nx : Nat} {t st : List Value} {σ : fnMem} {b : Value} {z : Nat} (hd : fnD cc pc (.astore_n 0) 1 nx) (hi : Nat.ble 1 nL = true)  (k : V nx (.ref z :: t) st σ) : V pc (b :: t) (.ref z :: st) σ := fn_astoreN h hd (i := 0) rfl hi (fun j w e q => by cases e) k

theorem fn_iinc_0 {E : fnE} {own : String} {cc : ByteArray} {nL fr lo : Nat} {V : fnV} (h : fnCx E own cc nL fr lo V) {pc nx : Nat} {t st : List Value} {σ : fnMem} {d z : Int} (hd : fnD cc pc (.iinc 0 d) 3 nx) (hi : Nat.ble 1 nL = true)  (k : V nx (zI (z + d) :: t) st σ) : V pc (zI z :: t) st σ := fn_iincG h hd (i := 0) rfl hi (fun j w e q => by cases e) k

theorem fn_iload_1 {E : fnE} {own : String} {cc : ByteArray} {nL fr lo : Nat} {V : fnV} (h : fnCx E own cc nL fr lo V) {pc nx : Nat} {t st : List Value} {σ : fnMem} {a0 : Value} {z : Int} (hd : fnD cc pc (.iload_n 1) 1 nx) (k : V nx (a0 :: zI z :: t) (zI z :: st) σ) : V pc (a0 :: zI z :: t) st σ := fn_iloadN h hd (i := 1) rfl rfl k

theorem fn_lload_1 {E : fnE} {own : String} {cc : ByteArray} {nL fr lo : Nat} {V : fnV} (h : fnCx E own cc nL fr lo V) {pc nx : Nat} {t st : List Value} {σ : fnMem} {a0 : Value} {z : Int} (hd : fnD cc pc (.lload_n 1) 1 nx) (k : V nx (a0 :: zL z :: t) (zL z :: st) σ) : V pc (a0 :: zL z :: t) st σ := fn_lloadN h hd (i := 1) rfl rfl k

theorem fn_aload_1 {E : fnE} {own : String} {cc : ByteArray} {nL fr lo : Nat} {V : fnV} (h : fnCx E own cc nL fr lo V) {pc nx : Nat} {t st : List Value} {σ : fnMem} {a0 : Value} {z : Nat} (hd : fnD cc pc (.aload_n 1) 1 nx) (k : V nx (a0 :: .ref z :: t) (.ref z :: st) σ) : V pc (a0 :: .ref z :: t) st σ := fn_aloadN h hd (i := 1) rfl rfl k

theorem fn_istore_1 {E : fnE} {own : String} {cc : ByteArray} {nL fr lo : Nat} {V : fnV} (h : fnCx E own cc nL fr lo V) {pc nx : Nat} {t st : List Value} {σ : fnMem} {a0 : Value} {b : Value} {z : Int} (hd : fnD cc pc (.istore_n 1) 1 nx) (hi : Nat.ble 2 nL = true) (hp : fnC1 a0 = true) (k : V nx (a0 :: zI z :: t) st σ) : V pc (a0 :: b :: t) (zI z :: st) σ := fn_istoreN h hd (i := 1) rfl hi (fun j w e q => by cases e; cases q; exact hp) k

theorem fn_lstore_1 {E : fnE} {own : String} {cc : ByteArray} {nL fr lo : Nat} {V : fnV} (h : fnCx E own cc nL fr lo V) {pc nx : Nat} {t st : List Value} {σ : fnMem} {a0 : Value} {b b2 : Value} {z : Int} (hd : fnD cc pc (.lstore_n 1) 1 nx) (hi : Nat.ble 3 nL = true) (hp : fnC1 a0 = true) (k : V nx (a0 :: zL z :: .null :: t) st σ) : V pc (a0 :: b :: b2 :: t) (zL z :: st) σ := fn_lstoreN h hd (i := 1) rfl hi (fun j w e q => by cases e; cases q; exact hp) k

theorem fn_astore_1 {E : fnE} {own : String} {cc : ByteArray} {nL fr lo : Nat} {V : fnV} (h : fnCx E own cc nL fr lo V) {pc nx : Nat} {t st : List Value} {σ : fnMem} {a0 : Value} {b : Value} {z : Nat} (hd : fnD cc pc (.astore_n 1) 1 nx) (hi : Nat.ble 2 nL = true) (hp : fnC1 a0 = true) (k : V nx (a0 :: .ref z :: t) st σ) : V pc (a0 :: b :: t) (.ref z :: st) σ := fn_astoreN h hd (i := 1) rfl hi (fun j w e q => by cases e; cases q; exact hp) k

theorem fn_iinc_1 {E : fnE} {own : String} {cc : ByteArray} {nL fr lo : Nat} {V : fnV} (h : fnCx E own cc nL fr lo V) {pc nx : Nat} {t st : List Value} {σ : fnMem} {a0 : Value} {d z : Int} (hd : fnD cc pc (.iinc 1 d) 3 nx) (hi : Nat.ble 2 nL = true) (hp : fnC1 a0 = true) (k : V nx (a0 :: zI (z + d) :: t) st σ) : V pc (a0 :: zI z :: t) st σ := fn_iincG h hd (i := 1) rfl hi (fun j w e q => by cases e; cases q; exact hp) k

theorem fn_iload_2 {E : fnE} {own : String} {cc : ByteArray} {nL fr lo : Nat} {V : fnV} (h : fnCx E own cc nL fr lo V) {pc nx : Nat} {t st : List Value} {σ : fnMem} {a0 a1 : Value} {z : Int} (hd : fnD cc pc (.iload_n 2) 1 nx) (k : V nx (a0 :: a1 :: zI z :: t) (zI z :: st) σ) : V pc (a0 :: a1 :: zI z :: t) st σ := fn_iloadN h hd (i := 2) rfl rfl k

theorem fn_lload_2 {E : fnE} {own : String} {cc : ByteArray} {nL fr lo : Nat} {V : fnV} (h : fnCx E own cc nL fr lo V) {pc nx : Nat} {t st : List Value} {σ : fnMem} {a0 a1 : Value} {z : Int} (hd : fnD cc pc (.lload_n 2) 1 nx) (k : V nx (a0 :: a1 :: zL z :: t) (zL z :: st) σ) : V pc (a0 :: a1 :: zL z :: t) st σ := fn_lloadN h hd (i := 2) rfl rfl k

theorem fn_aload_2 {E : fnE} {own : String} {cc : ByteArray} {nL fr lo : Nat} {V : fnV} (h : fnCx E own cc nL fr lo V) {pc nx : Nat} {t st : List Value} {σ : fnMem} {a0 a1 : Value} {z : Nat} (hd : fnD cc pc (.aload_n 2) 1 nx) (k : V nx (a0 :: a1 :: .ref z :: t) (.ref z :: st) σ) : V pc (a0 :: a1 :: .ref z :: t) st σ := fn_aloadN h hd (i := 2) rfl rfl k

theorem fn_istore_2 {E : fnE} {own : String} {cc : ByteArray} {nL fr lo : Nat} {V : fnV} (h : fnCx E own cc nL fr lo V) {pc nx : Nat} {t st : List Value} {σ : fnMem} {a0 a1 : Value} {b : Value} {z : Int} (hd : fnD cc pc (.istore_n 2) 1 nx) (hi : Nat.ble 3 nL = true) (hp : fnC1 a1 = true) (k : V nx (a0 :: a1 :: zI z :: t) st σ) : V pc (a0 :: a1 :: b :: t) (zI z :: st) σ := fn_istoreN h hd (i := 2) rfl hi (fun j w e q => by cases e; cases q; exact hp) k

theorem fn_lstore_2 {E : fnE} {own : String} {cc : ByteArray} {nL fr lo : Nat} {V : fnV} (h : fnCx E own cc nL fr lo V) {pc nx : Nat} {t st : List Value} {σ : fnMem} {a0 a1 : Value} {b b2 : Value} {z : Int} (hd : fnD cc pc (.lstore_n 2) 1 nx) (hi : Nat.ble 4 nL = true) (hp : fnC1 a1 = true) (k : V nx (a0 :: a1 :: zL z :: .null :: t) st σ) : V pc (a0 :: a1 :: b :: b2 :: t) (zL z :: st) σ := fn_lstoreN h hd (i := 2) rfl hi (fun j w e q => by cases e; cases q; exact hp) k

theorem fn_astore_2 {E : fnE} {own : String} {cc : ByteArray} {nL fr lo : Nat} {V : fnV} (h : fnCx E own cc nL fr lo V) {pc nx : Nat} {t st : List Value} {σ : fnMem} {a0 a1 : Value} {b : Value} {z : Nat} (hd : fnD cc pc (.astore_n 2) 1 nx) (hi : Nat.ble 3 nL = true) (hp : fnC1 a1 = true) (k : V nx (a0 :: a1 :: .ref z :: t) st σ) : V pc (a0 :: a1 :: b :: t) (.ref z :: st) σ := fn_astoreN h hd (i := 2) rfl hi (fun j w e q => by cases e; cases q; exact hp) k

theorem fn_iinc_2 {E : fnE} {own : String} {cc : ByteArray} {nL fr lo : Nat} {V : fnV} (h : fnCx E own cc nL fr lo V) {pc nx : Nat} {t st : List Value} {σ : fnMem} {a0 a1 : Value} {d z : Int} (hd : fnD cc pc (.iinc 2 d) 3 nx) (hi : Nat.ble 3 nL = true) (hp : fnC1 a1 = true) (k : V nx (a0 :: a1 :: zI (z + d) :: t) st σ) : V pc (a0 :: a1 :: zI z :: t) st σ := fn_iincG h hd (i := 2) rfl hi (fun j w e q => by cases e; cases q; exact hp) k

theorem fn_iload_3 {E : fnE} {own : String} {cc : ByteArray} {nL fr lo : Nat} {V : fnV} (h : fnCx E own cc nL fr lo V) {pc nx : Nat} {t st : List Value} {σ : fnMem} {a0 a1 a2 : Value} {z : Int} (hd : fnD cc pc (.iload_n 3) 1 nx) (k : V nx (a0 :: a1 :: a2 :: zI z :: t) (zI z :: st) σ) : V pc (a0 :: a1 :: a2 :: zI z :: t) st σ := fn_iloadN h hd (i := 3) rfl rfl k

theorem fn_lload_3 {E : fnE} {own : String} {cc : ByteArray} {nL fr lo : Nat} {V : fnV} (h : fnCx E own cc nL fr lo V) {pc nx : Nat} {t st : List Value} {σ : fnMem} {a0 a1 a2 : Value} {z : Int} (hd : fnD cc pc (.lload_n 3) 1 nx) (k : V nx (a0 :: a1 :: a2 :: zL z :: t) (zL z :: st) σ) : V pc (a0 :: a1 :: a2 :: zL z :: t) st σ := fn_lloadN h hd (i := 3) rfl rfl k

theorem fn_aload_3 {E : fnE} {own : String} {cc : ByteArray} {nL fr lo : Nat} {V : fnV} (h : fnCx E own cc nL fr lo V) {pc nx : Nat} {t st : List Value} {σ : fnMem} {a0 a1 a2 : Value} {z : Nat} (hd : fnD cc pc (.aload_n 3) 1 nx) (k : V nx (a0 :: a1 :: a2 :: .ref z :: t) (.ref z :: st) σ) : V pc (a0 :: a1 :: a2 :: .ref z :: t) st σ := fn_aloadN h hd (i := 3) rfl rfl k

theorem fn_istore_3 {E : fnE} {own : String} {cc : ByteArray} {nL fr lo : Nat} {V : fnV} (h : fnCx E own cc nL fr lo V) {pc nx : Nat} {t st : List Value} {σ : fnMem} {a0 a1 a2 : Value} {b : Value} {z : Int} (hd : fnD cc pc (.istore_n 3) 1 nx) (hi : Nat.ble 4 nL = true) (hp : fnC1 a2 = true) (k : V nx (a0 :: a1 :: a2 :: zI z :: t) st σ) : V pc (a0 :: a1 :: a2 :: b :: t) (zI z :: st) σ := fn_istoreN h hd (i := 3) rfl hi (fun j w e q => by cases e; cases q; exact hp) k

theorem fn_lstore_3 {E : fnE} {own : String} {cc : ByteArray} {nL fr lo : Nat} {V : fnV} (h : fnCx E own cc nL fr lo V) {pc nx : Nat} {t st : List Value} {σ : fnMem} {a0 a1 a2 : Value} {b b2 : Value} {z : Int} (hd : fnD cc pc (.lstore_n 3) 1 nx) (hi : Nat.ble 5 nL = true) (hp : fnC1 a2 = true) (k : V nx (a0 :: a1 :: a2 :: zL z :: .null :: t) st σ) : V pc (a0 :: a1 :: a2 :: b :: b2 :: t) (zL z :: st) σ := fn_lstoreN h hd (i := 3) rfl hi (fun j w e q => by cases e; cases q; exact hp) k

theorem fn_astore_3 {E : fnE} {own : String} {cc : ByteArray} {nL fr lo : Nat} {V : fnV} (h : fnCx E own cc nL fr lo V) {pc nx : Nat} {t st : List Value} {σ : fnMem} {a0 a1 a2 : Value} {b : Value} {z : Nat} (hd : fnD cc pc (.astore_n 3) 1 nx) (hi : Nat.ble 4 nL = true) (hp : fnC1 a2 = true) (k : V nx (a0 :: a1 :: a2 :: .ref z :: t) st σ) : V pc (a0 :: a1 :: a2 :: b :: t) (.ref z :: st) σ := fn_astoreN h hd (i := 3) rfl hi (fun j w e q => by cases e; cases q; exact hp) k

theorem fn_iinc_3 {E : fnE} {own : String} {cc : ByteArray} {nL fr lo : Nat} {V : fnV} (h : fnCx E own cc nL fr lo V) {pc nx : Nat} {t st : List Value} {σ : fnMem} {a0 a1 a2 : Value} {d z : Int} (hd : fnD cc pc (.iinc 3 d) 3 nx) (hi : Nat.ble 4 nL = true) (hp : fnC1 a2 = true) (k : V nx (a0 :: a1 :: a2 :: zI (z + d) :: t) st σ) : V pc (a0 :: a1 :: a2 :: zI z :: t) st σ := fn_iincG h hd (i := 3) rfl hi (fun j w e q => by cases e; cases q; exact hp) k

theorem fn_iload_4 {E : fnE} {own : String} {cc : ByteArray} {nL fr lo : Nat} {V : fnV} (h : fnCx E own cc nL fr lo V) {pc nx : Nat} {t st : List Value} {σ : fnMem} {a0 a1 a2 a3 : Value} {z : Int} (hd : fnD cc pc (.iload 4) 2 nx) (k : V nx (a0 :: a1 :: a2 :: a3 :: zI z :: t) (zI z :: st) σ) : V pc (a0 :: a1 :: a2 :: a3 :: zI z :: t) st σ := fn_iloadG h hd (i := 4) rfl k

theorem fn_lload_4 {E : fnE} {own : String} {cc : ByteArray} {nL fr lo : Nat} {V : fnV} (h : fnCx E own cc nL fr lo V) {pc nx : Nat} {t st : List Value} {σ : fnMem} {a0 a1 a2 a3 : Value} {z : Int} (hd : fnD cc pc (.lload 4) 2 nx) (k : V nx (a0 :: a1 :: a2 :: a3 :: zL z :: t) (zL z :: st) σ) : V pc (a0 :: a1 :: a2 :: a3 :: zL z :: t) st σ := fn_lloadG h hd (i := 4) rfl k

theorem fn_aload_4 {E : fnE} {own : String} {cc : ByteArray} {nL fr lo : Nat} {V : fnV} (h : fnCx E own cc nL fr lo V) {pc nx : Nat} {t st : List Value} {σ : fnMem} {a0 a1 a2 a3 : Value} {z : Nat} (hd : fnD cc pc (.aload 4) 2 nx) (k : V nx (a0 :: a1 :: a2 :: a3 :: .ref z :: t) (.ref z :: st) σ) : V pc (a0 :: a1 :: a2 :: a3 :: .ref z :: t) st σ := fn_aloadG h hd (i := 4) rfl k

theorem fn_istore_4 {E : fnE} {own : String} {cc : ByteArray} {nL fr lo : Nat} {V : fnV} (h : fnCx E own cc nL fr lo V) {pc nx : Nat} {t st : List Value} {σ : fnMem} {a0 a1 a2 a3 : Value} {b : Value} {z : Int} (hd : fnD cc pc (.istore 4) 2 nx) (hi : Nat.ble 5 nL = true) (hp : fnC1 a3 = true) (k : V nx (a0 :: a1 :: a2 :: a3 :: zI z :: t) st σ) : V pc (a0 :: a1 :: a2 :: a3 :: b :: t) (zI z :: st) σ := fn_istoreG h hd (i := 4) hi (fun j w e q => by cases e; cases q; exact hp) k

theorem fn_lstore_4 {E : fnE} {own : String} {cc : ByteArray} {nL fr lo : Nat} {V : fnV} (h : fnCx E own cc nL fr lo V) {pc nx : Nat} {t st : List Value} {σ : fnMem} {a0 a1 a2 a3 : Value} {b b2 : Value} {z : Int} (hd : fnD cc pc (.lstore 4) 2 nx) (hi : Nat.ble 6 nL = true) (hp : fnC1 a3 = true) (k : V nx (a0 :: a1 :: a2 :: a3 :: zL z :: .null :: t) st σ) : V pc (a0 :: a1 :: a2 :: a3 :: b :: b2 :: t) (zL z :: st) σ := fn_lstoreG h hd (i := 4) hi (fun j w e q => by cases e; cases q; exact hp) k

theorem fn_astore_4 {E : fnE} {own : String} {cc : ByteArray} {nL fr lo : Nat} {V : fnV} (h : fnCx E own cc nL fr lo V) {pc nx : Nat} {t st : List Value} {σ : fnMem} {a0 a1 a2 a3 : Value} {b : Value} {z : Nat} (hd : fnD cc pc (.astore 4) 2 nx) (hi : Nat.ble 5 nL = true) (hp : fnC1 a3 = true) (k : V nx (a0 :: a1 :: a2 :: a3 :: .ref z :: t) st σ) : V pc (a0 :: a1 :: a2 :: a3 :: b :: t) (.ref z :: st) σ := fn_astoreG h hd (i := 4) hi (fun j w e q => by cases e; cases q; exact hp) k

theorem fn_iinc_4 {E : fnE} {own : String} {cc : ByteArray} {nL fr lo : Nat} {V : fnV} (h : fnCx E own cc nL fr lo V) {pc nx : Nat} {t st : List Value} {σ : fnMem} {a0 a1 a2 a3 : Value} {d z : Int} (hd : fnD cc pc (.iinc 4 d) 3 nx) (hi : Nat.ble 5 nL = true) (hp : fnC1 a3 = true) (k : V nx (a0 :: a1 :: a2 :: a3 :: zI (z + d) :: t) st σ) : V pc (a0 :: a1 :: a2 :: a3 :: zI z :: t) st σ := fn_iincG h hd (i := 4) rfl hi (fun j w e q => by cases e; cases q; exact hp) k

theorem fn_iload_5 {E : fnE} {own : String} {cc : ByteArray} {nL fr lo : Nat} {V : fnV} (h : fnCx E own cc nL fr lo V) {pc nx : Nat} {t st : List Value} {σ : fnMem} {a0 a1 a2 a3 a4 : Value} {z : Int} (hd : fnD cc pc (.iload 5) 2 nx) (k : V nx (a0 :: a1 :: a2 :: a3 :: a4 :: zI z :: t) (zI z :: st) σ) : V pc (a0 :: a1 :: a2 :: a3 :: a4 :: zI z :: t) st σ := fn_iloadG h hd (i := 5) rfl k

theorem fn_lload_5 {E : fnE} {own : String} {cc : ByteArray} {nL fr lo : Nat} {V : fnV} (h : fnCx E own cc nL fr lo V) {pc nx : Nat} {t st : List Value} {σ : fnMem} {a0 a1 a2 a3 a4 : Value} {z : Int} (hd : fnD cc pc (.lload 5) 2 nx) (k : V nx (a0 :: a1 :: a2 :: a3 :: a4 :: zL z :: t) (zL z :: st) σ) : V pc (a0 :: a1 :: a2 :: a3 :: a4 :: zL z :: t) st σ := fn_lloadG h hd (i := 5) rfl k

theorem fn_aload_5 {E : fnE} {own : String} {cc : ByteArray} {nL fr lo : Nat} {V : fnV} (h : fnCx E own cc nL fr lo V) {pc nx : Nat} {t st : List Value} {σ : fnMem} {a0 a1 a2 a3 a4 : Value} {z : Nat} (hd : fnD cc pc (.aload 5) 2 nx) (k : V nx (a0 :: a1 :: a2 :: a3 :: a4 :: .ref z :: t) (.ref z :: st) σ) : V pc (a0 :: a1 :: a2 :: a3 :: a4 :: .ref z :: t) st σ := fn_aloadG h hd (i := 5) rfl k

theorem fn_istore_5 {E : fnE} {own : String} {cc : ByteArray} {nL fr lo : Nat} {V : fnV} (h : fnCx E own cc nL fr lo V) {pc nx : Nat} {t st : List Value} {σ : fnMem} {a0 a1 a2 a3 a4 : Value} {b : Value} {z : Int} (hd : fnD cc pc (.istore 5) 2 nx) (hi : Nat.ble 6 nL = true) (hp : fnC1 a4 = true) (k : V nx (a0 :: a1 :: a2 :: a3 :: a4 :: zI z :: t) st σ) : V pc (a0 :: a1 :: a2 :: a3 :: a4 :: b :: t) (zI z :: st) σ := fn_istoreG h hd (i := 5) hi (fun j w e q => by cases e; cases q; exact hp) k

theorem fn_lstore_5 {E : fnE} {own : String} {cc : ByteArray} {nL fr lo : Nat} {V : fnV} (h : fnCx E own cc nL fr lo V) {pc nx : Nat} {t st : List Value} {σ : fnMem} {a0 a1 a2 a3 a4 : Value} {b b2 : Value} {z : Int} (hd : fnD cc pc (.lstore 5) 2 nx) (hi : Nat.ble 7 nL = true) (hp : fnC1 a4 = true) (k : V nx (a0 :: a1 :: a2 :: a3 :: a4 :: zL z :: .null :: t) st σ) : V pc (a0 :: a1 :: a2 :: a3 :: a4 :: b :: b2 :: t) (zL z :: st) σ := fn_lstoreG h hd (i := 5) hi (fun j w e q => by cases e; cases q; exact hp) k

theorem fn_astore_5 {E : fnE} {own : String} {cc : ByteArray} {nL fr lo : Nat} {V : fnV} (h : fnCx E own cc nL fr lo V) {pc nx : Nat} {t st : List Value} {σ : fnMem} {a0 a1 a2 a3 a4 : Value} {b : Value} {z : Nat} (hd : fnD cc pc (.astore 5) 2 nx) (hi : Nat.ble 6 nL = true) (hp : fnC1 a4 = true) (k : V nx (a0 :: a1 :: a2 :: a3 :: a4 :: .ref z :: t) st σ) : V pc (a0 :: a1 :: a2 :: a3 :: a4 :: b :: t) (.ref z :: st) σ := fn_astoreG h hd (i := 5) hi (fun j w e q => by cases e; cases q; exact hp) k

theorem fn_iinc_5 {E : fnE} {own : String} {cc : ByteArray} {nL fr lo : Nat} {V : fnV} (h : fnCx E own cc nL fr lo V) {pc nx : Nat} {t st : List Value} {σ : fnMem} {a0 a1 a2 a3 a4 : Value} {d z : Int} (hd : fnD cc pc (.iinc 5 d) 3 nx) (hi : Nat.ble 6 nL = true) (hp : fnC1 a4 = true) (k : V nx (a0 :: a1 :: a2 :: a3 :: a4 :: zI (z + d) :: t) st σ) : V pc (a0 :: a1 :: a2 :: a3 :: a4 :: zI z :: t) st σ := fn_iincG h hd (i := 5) rfl hi (fun j w e q => by cases e; cases q; exact hp) k

theorem fn_iload_6 {E : fnE} {own : String} {cc : ByteArray} {nL fr lo : Nat} {V : fnV} (h : fnCx E own cc nL fr lo V) {pc nx : Nat} {t st : List Value} {σ : fnMem} {a0 a1 a2 a3 a4 a5 : Value} {z : Int} (hd : fnD cc pc (.iload 6) 2 nx) (k : V nx (a0 :: a1 :: a2 :: a3 :: a4 :: a5 :: zI z :: t) (zI z :: st) σ) : V pc (a0 :: a1 :: a2 :: a3 :: a4 :: a5 :: zI z :: t) st σ := fn_iloadG h hd (i := 6) rfl k

theorem fn_lload_6 {E : fnE} {own : String} {cc : ByteArray} {nL fr lo : Nat} {V : fnV} (h : fnCx E own cc nL fr lo V) {pc nx : Nat} {t st : List Value} {σ : fnMem} {a0 a1 a2 a3 a4 a5 : Value} {z : Int} (hd : fnD cc pc (.lload 6) 2 nx) (k : V nx (a0 :: a1 :: a2 :: a3 :: a4 :: a5 :: zL z :: t) (zL z :: st) σ) : V pc (a0 :: a1 :: a2 :: a3 :: a4 :: a5 :: zL z :: t) st σ := fn_lloadG h hd (i := 6) rfl k

theorem fn_aload_6 {E : fnE} {own : String} {cc : ByteArray} {nL fr lo : Nat} {V : fnV} (h : fnCx E own cc nL fr lo V) {pc nx : Nat} {t st : List Value} {σ : fnMem} {a0 a1 a2 a3 a4 a5 : Value} {z : Nat} (hd : fnD cc pc (.aload 6) 2 nx) (k : V nx (a0 :: a1 :: a2 :: a3 :: a4 :: a5 :: .ref z :: t) (.ref z :: st) σ) : V pc (a0 :: a1 :: a2 :: a3 :: a4 :: a5 :: .ref z :: t) st σ := fn_aloadG h hd (i := 6) rfl k

theorem fn_istore_6 {E : fnE} {own : String} {cc : ByteArray} {nL fr lo : Nat} {V : fnV} (h : fnCx E own cc nL fr lo V) {pc nx : Nat} {t st : List Value} {σ : fnMem} {a0 a1 a2 a3 a4 a5 : Value} {b : Value} {z : Int} (hd : fnD cc pc (.istore 6) 2 nx) (hi : Nat.ble 7 nL = true) (hp : fnC1 a5 = true) (k : V nx (a0 :: a1 :: a2 :: a3 :: a4 :: a5 :: zI z :: t) st σ) : V pc (a0 :: a1 :: a2 :: a3 :: a4 :: a5 :: b :: t) (zI z :: st) σ := fn_istoreG h hd (i := 6) hi (fun j w e q => by cases e; cases q; exact hp) k

theorem fn_lstore_6 {E : fnE} {own : String} {cc : ByteArray} {nL fr lo : Nat} {V : fnV} (h : fnCx E own cc nL fr lo V) {pc nx : Nat} {t st : List Value} {σ : fnMem} {a0 a1 a2 a3 a4 a5 : Value} {b b2 : Value} {z : Int} (hd : fnD cc pc (.lstore 6) 2 nx) (hi : Nat.ble 8 nL = true) (hp : fnC1 a5 = true) (k : V nx (a0 :: a1 :: a2 :: a3 :: a4 :: a5 :: zL z :: .null :: t) st σ) : V pc (a0 :: a1 :: a2 :: a3 :: a4 :: a5 :: b :: b2 :: t) (zL z :: st) σ := fn_lstoreG h hd (i := 6) hi (fun j w e q => by cases e; cases q; exact hp) k

theorem fn_astore_6 {E : fnE} {own : String} {cc : ByteArray} {nL fr lo : Nat} {V : fnV} (h : fnCx E own cc nL fr lo V) {pc nx : Nat} {t st : List Value} {σ : fnMem} {a0 a1 a2 a3 a4 a5 : Value} {b : Value} {z : Nat} (hd : fnD cc pc (.astore 6) 2 nx) (hi : Nat.ble 7 nL = true) (hp : fnC1 a5 = true) (k : V nx (a0 :: a1 :: a2 :: a3 :: a4 :: a5 :: .ref z :: t) st σ) : V pc (a0 :: a1 :: a2 :: a3 :: a4 :: a5 :: b :: t) (.ref z :: st) σ := fn_astoreG h hd (i := 6) hi (fun j w e q => by cases e; cases q; exact hp) k

theorem fn_iinc_6 {E : fnE} {own : String} {cc : ByteArray} {nL fr lo : Nat} {V : fnV} (h : fnCx E own cc nL fr lo V) {pc nx : Nat} {t st : List Value} {σ : fnMem} {a0 a1 a2 a3 a4 a5 : Value} {d z : Int} (hd : fnD cc pc (.iinc 6 d) 3 nx) (hi : Nat.ble 7 nL = true) (hp : fnC1 a5 = true) (k : V nx (a0 :: a1 :: a2 :: a3 :: a4 :: a5 :: zI (z + d) :: t) st σ) : V pc (a0 :: a1 :: a2 :: a3 :: a4 :: a5 :: zI z :: t) st σ := fn_iincG h hd (i := 6) rfl hi (fun j w e q => by cases e; cases q; exact hp) k

theorem fn_iload_7 {E : fnE} {own : String} {cc : ByteArray} {nL fr lo : Nat} {V : fnV} (h : fnCx E own cc nL fr lo V) {pc nx : Nat} {t st : List Value} {σ : fnMem} {a0 a1 a2 a3 a4 a5 a6 : Value} {z : Int} (hd : fnD cc pc (.iload 7) 2 nx) (k : V nx (a0 :: a1 :: a2 :: a3 :: a4 :: a5 :: a6 :: zI z :: t) (zI z :: st) σ) : V pc (a0 :: a1 :: a2 :: a3 :: a4 :: a5 :: a6 :: zI z :: t) st σ := fn_iloadG h hd (i := 7) rfl k

theorem fn_lload_7 {E : fnE} {own : String} {cc : ByteArray} {nL fr lo : Nat} {V : fnV} (h : fnCx E own cc nL fr lo V) {pc nx : Nat} {t st : List Value} {σ : fnMem} {a0 a1 a2 a3 a4 a5 a6 : Value} {z : Int} (hd : fnD cc pc (.lload 7) 2 nx) (k : V nx (a0 :: a1 :: a2 :: a3 :: a4 :: a5 :: a6 :: zL z :: t) (zL z :: st) σ) : V pc (a0 :: a1 :: a2 :: a3 :: a4 :: a5 :: a6 :: zL z :: t) st σ := fn_lloadG h hd (i := 7) rfl k

theorem fn_aload_7 {E : fnE} {own : String} {cc : ByteArray} {nL fr lo : Nat} {V : fnV} (h : fnCx E own cc nL fr lo V) {pc nx : Nat} {t st : List Value} {σ : fnMem} {a0 a1 a2 a3 a4 a5 a6 : Value} {z : Nat} (hd : fnD cc pc (.aload 7) 2 nx) (k : V nx (a0 :: a1 :: a2 :: a3 :: a4 :: a5 :: a6 :: .ref z :: t) (.ref z :: st) σ) : V pc (a0 :: a1 :: a2 :: a3 :: a4 :: a5 :: a6 :: .ref z :: t) st σ := fn_aloadG h hd (i := 7) rfl k

theorem fn_istore_7 {E : fnE} {own : String} {cc : ByteArray} {nL fr lo : Nat} {V : fnV} (h : fnCx E own cc nL fr lo V) {pc nx : Nat} {t st : List Value} {σ : fnMem} {a0 a1 a2 a3 a4 a5 a6 : Value} {b : Value} {z : Int} (hd : fnD cc pc (.istore 7) 2 nx) (hi : Nat.ble 8 nL = true) (hp : fnC1 a6 = true) (k : V nx (a0 :: a1 :: a2 :: a3 :: a4 :: a5 :: a6 :: zI z :: t) st σ) : V pc (a0 :: a1 :: a2 :: a3 :: a4 :: a5 :: a6 :: b :: t) (zI z :: st) σ := fn_istoreG h hd (i := 7) hi (fun j w e q => by cases e; cases q; exact hp) k

theorem fn_lstore_7 {E : fnE} {own : String} {cc : ByteArray} {nL fr lo : Nat} {V : fnV} (h : fnCx E own cc nL fr lo V) {pc nx : Nat} {t st : List Value} {σ : fnMem} {a0 a1 a2 a3 a4 a5 a6 : Value} {b b2 : Value} {z : Int} (hd : fnD cc pc (.lstore 7) 2 nx) (hi : Nat.ble 9 nL = true) (hp : fnC1 a6 = true) (k : V nx (a0 :: a1 :: a2 :: a3 :: a4 :: a5 :: a6 :: zL z :: .null :: t) st σ) : V pc (a0 :: a1 :: a2 :: a3 :: a4 :: a5 :: a6 :: b :: b2 :: t) (zL z :: st) σ := fn_lstoreG h hd (i := 7) hi (fun j w e q => by cases e; cases q; exact hp) k

theorem fn_astore_7 {E : fnE} {own : String} {cc : ByteArray} {nL fr lo : Nat} {V : fnV} (h : fnCx E own cc nL fr lo V) {pc nx : Nat} {t st : List Value} {σ : fnMem} {a0 a1 a2 a3 a4 a5 a6 : Value} {b : Value} {z : Nat} (hd : fnD cc pc (.astore 7) 2 nx) (hi : Nat.ble 8 nL = true) (hp : fnC1 a6 = true) (k : V nx (a0 :: a1 :: a2 :: a3 :: a4 :: a5 :: a6 :: .ref z :: t) st σ) : V pc (a0 :: a1 :: a2 :: a3 :: a4 :: a5 :: a6 :: b :: t) (.ref z :: st) σ := fn_astoreG h hd (i := 7) hi (fun j w e q => by cases e; cases q; exact hp) k

theorem fn_iinc_7 {E : fnE} {own : String} {cc : ByteArray} {nL fr lo : Nat} {V : fnV} (h : fnCx E own cc nL fr lo V) {pc nx : Nat} {t st : List Value} {σ : fnMem} {a0 a1 a2 a3 a4 a5 a6 : Value} {d z : Int} (hd : fnD cc pc (.iinc 7 d) 3 nx) (hi : Nat.ble 8 nL = true) (hp : fnC1 a6 = true) (k : V nx (a0 :: a1 :: a2 :: a3 :: a4 :: a5 :: a6 :: zI (z + d) :: t) st σ) : V pc (a0 :: a1 :: a2 :: a3 :: a4 :: a5 :: a6 :: zI z :: t) st σ := fn_iincG h hd (i := 7) rfl hi (fun j w e q => by cases e; cases q; exact hp) k

theorem fn_iload_8 {E : fnE} {own : String} {cc : ByteArray} {nL fr lo : Nat} {V : fnV} (h : fnCx E own cc nL fr lo V) {pc nx : Nat} {t st : List Value} {σ : fnMem} {a0 a1 a2 a3 a4 a5 a6 a7 : Value} {z : Int} (hd : fnD cc pc (.iload 8) 2 nx) (k : V nx (a0 :: a1 :: a2 :: a3 :: a4 :: a5 :: a6 :: a7 :: zI z :: t) (zI z :: st) σ) : V pc (a0 :: a1 :: a2 :: a3 :: a4 :: a5 :: a6 :: a7 :: zI z :: t) st σ := fn_iloadG h hd (i := 8) rfl k

theorem fn_lload_8 {E : fnE} {own : String} {cc : ByteArray} {nL fr lo : Nat} {V : fnV} (h : fnCx E own cc nL fr lo V) {pc nx : Nat} {t st : List Value} {σ : fnMem} {a0 a1 a2 a3 a4 a5 a6 a7 : Value} {z : Int} (hd : fnD cc pc (.lload 8) 2 nx) (k : V nx (a0 :: a1 :: a2 :: a3 :: a4 :: a5 :: a6 :: a7 :: zL z :: t) (zL z :: st) σ) : V pc (a0 :: a1 :: a2 :: a3 :: a4 :: a5 :: a6 :: a7 :: zL z :: t) st σ := fn_lloadG h hd (i := 8) rfl k

theorem fn_aload_8 {E : fnE} {own : String} {cc : ByteArray} {nL fr lo : Nat} {V : fnV} (h : fnCx E own cc nL fr lo V) {pc nx : Nat} {t st : List Value} {σ : fnMem} {a0 a1 a2 a3 a4 a5 a6 a7 : Value} {z : Nat} (hd : fnD cc pc (.aload 8) 2 nx) (k : V nx (a0 :: a1 :: a2 :: a3 :: a4 :: a5 :: a6 :: a7 :: .ref z :: t) (.ref z :: st) σ) : V pc (a0 :: a1 :: a2 :: a3 :: a4 :: a5 :: a6 :: a7 :: .ref z :: t) st σ := fn_aloadG h hd (i := 8) rfl k

theorem fn_istore_8 {E : fnE} {own : String} {cc : ByteArray} {nL fr lo : Nat} {V : fnV} (h : fnCx E own cc nL fr lo V) {pc nx : Nat} {t st : List Value} {σ : fnMem} {a0 a1 a2 a3 a4 a5 a6 a7 : Value} {b : Value} {z : Int} (hd : fnD cc pc (.istore 8) 2 nx) (hi : Nat.ble 9 nL = true) (hp : fnC1 a7 = true) (k : V nx (a0 :: a1 :: a2 :: a3 :: a4 :: a5 :: a6 :: a7 :: zI z :: t) st σ) : V pc (a0 :: a1 :: a2 :: a3 :: a4 :: a5 :: a6 :: a7 :: b :: t) (zI z :: st) σ := fn_istoreG h hd (i := 8) hi (fun j w e q => by cases e; cases q; exact hp) k

theorem fn_lstore_8 {E : fnE} {own : String} {cc : ByteArray} {nL fr lo : Nat} {V : fnV} (h : fnCx E own cc nL fr lo V) {pc nx : Nat} {t st : List Value} {σ : fnMem} {a0 a1 a2 a3 a4 a5 a6 a7 : Value} {b b2 : Value} {z : Int} (hd : fnD cc pc (.lstore 8) 2 nx) (hi : Nat.ble 10 nL = true) (hp : fnC1 a7 = true) (k : V nx (a0 :: a1 :: a2 :: a3 :: a4 :: a5 :: a6 :: a7 :: zL z :: .null :: t) st σ) : V pc (a0 :: a1 :: a2 :: a3 :: a4 :: a5 :: a6 :: a7 :: b :: b2 :: t) (zL z :: st) σ := fn_lstoreG h hd (i := 8) hi (fun j w e q => by cases e; cases q; exact hp) k

theorem fn_astore_8 {E : fnE} {own : String} {cc : ByteArray} {nL fr lo : Nat} {V : fnV} (h : fnCx E own cc nL fr lo V) {pc nx : Nat} {t st : List Value} {σ : fnMem} {a0 a1 a2 a3 a4 a5 a6 a7 : Value} {b : Value} {z : Nat} (hd : fnD cc pc (.astore 8) 2 nx) (hi : Nat.ble 9 nL = true) (hp : fnC1 a7 = true) (k : V nx (a0 :: a1 :: a2 :: a3 :: a4 :: a5 :: a6 :: a7 :: .ref z :: t) st σ) : V pc (a0 :: a1 :: a2 :: a3 :: a4 :: a5 :: a6 :: a7 :: b :: t) (.ref z :: st) σ := fn_astoreG h hd (i := 8) hi (fun j w e q => by cases e; cases q; exact hp) k

theorem fn_iinc_8 {E : fnE} {own : String} {cc : ByteArray} {nL fr lo : Nat} {V : fnV} (h : fnCx E own cc nL fr lo V) {pc nx : Nat} {t st : List Value} {σ : fnMem} {a0 a1 a2 a3 a4 a5 a6 a7 : Value} {d z : Int} (hd : fnD cc pc (.iinc 8 d) 3 nx) (hi : Nat.ble 9 nL = true) (hp : fnC1 a7 = true) (k : V nx (a0 :: a1 :: a2 :: a3 :: a4 :: a5 :: a6 :: a7 :: zI (z + d) :: t) st σ) : V pc (a0 :: a1 :: a2 :: a3 :: a4 :: a5 :: a6 :: a7 :: zI z :: t) st σ := fn_iincG h hd (i := 8) rfl hi (fun j w e q => by cases e; cases q; exact hp) k

theorem fn_iload_9 {E : fnE} {own : String} {cc : ByteArray} {nL fr lo : Nat} {V : fnV} (h : fnCx E own cc nL fr lo V) {pc nx : Nat} {t st : List Value} {σ : fnMem} {a0 a1 a2 a3 a4 a5 a6 a7 a8 : Value} {z : Int} (hd : fnD cc pc (.iload 9) 2 nx) (k : V nx (a0 :: a1 :: a2 :: a3 :: a4 :: a5 :: a6 :: a7 :: a8 :: zI z :: t) (zI z :: st) σ) : V pc (a0 :: a1 :: a2 :: a3 :: a4 :: a5 :: a6 :: a7 :: a8 :: zI z :: t) st σ := fn_iloadG h hd (i := 9) rfl k

theorem fn_lload_9 {E : fnE} {own : String} {cc : ByteArray} {nL fr lo : Nat} {V : fnV} (h : fnCx E own cc nL fr lo V) {pc nx : Nat} {t st : List Value} {σ : fnMem} {a0 a1 a2 a3 a4 a5 a6 a7 a8 : Value} {z : Int} (hd : fnD cc pc (.lload 9) 2 nx) (k : V nx (a0 :: a1 :: a2 :: a3 :: a4 :: a5 :: a6 :: a7 :: a8 :: zL z :: t) (zL z :: st) σ) : V pc (a0 :: a1 :: a2 :: a3 :: a4 :: a5 :: a6 :: a7 :: a8 :: zL z :: t) st σ := fn_lloadG h hd (i := 9) rfl k

theorem fn_aload_9 {E : fnE} {own : String} {cc : ByteArray} {nL fr lo : Nat} {V : fnV} (h : fnCx E own cc nL fr lo V) {pc nx : Nat} {t st : List Value} {σ : fnMem} {a0 a1 a2 a3 a4 a5 a6 a7 a8 : Value} {z : Nat} (hd : fnD cc pc (.aload 9) 2 nx) (k : V nx (a0 :: a1 :: a2 :: a3 :: a4 :: a5 :: a6 :: a7 :: a8 :: .ref z :: t) (.ref z :: st) σ) : V pc (a0 :: a1 :: a2 :: a3 :: a4 :: a5 :: a6 :: a7 :: a8 :: .ref z :: t) st σ := fn_aloadG h hd (i := 9) rfl k

theorem fn_istore_9 {E : fnE} {own : String} {cc : ByteArray} {nL fr lo : Nat} {V : fnV} (h : fnCx E own cc nL fr lo V) {pc nx : Nat} {t st : List Value} {σ : fnMem} {a0 a1 a2 a3 a4 a5 a6 a7 a8 : Value} {b : Value} {z : Int} (hd : fnD cc pc (.istore 9) 2 nx) (hi : Nat.ble 10 nL = true) (hp : fnC1 a8 = true) (k : V nx (a0 :: a1 :: a2 :: a3 :: a4 :: a5 :: a6 :: a7 :: a8 :: zI z :: t) st σ) : V pc (a0 :: a1 :: a2 :: a3 :: a4 :: a5 :: a6 :: a7 :: a8 :: b :: t) (zI z :: st) σ := fn_istoreG h hd (i := 9) hi (fun j w e q => by cases e; cases q; exact hp) k

theorem fn_lstore_9 {E : fnE} {own : String} {cc : ByteArray} {nL fr lo : Nat} {V : fnV} (h : fnCx E own cc nL fr lo V) {pc nx : Nat} {t st : List Value} {σ : fnMem} {a0 a1 a2 a3 a4 a5 a6 a7 a8 : Value} {b b2 : Value} {z : Int} (hd : fnD cc pc (.lstore 9) 2 nx) (hi : Nat.ble 11 nL = true) (hp : fnC1 a8 = true) (k : V nx (a0 :: a1 :: a2 :: a3 :: a4 :: a5 :: a6 :: a7 :: a8 :: zL z :: .null :: t) st σ) : V pc (a0 :: a1 :: a2 :: a3 :: a4 :: a5 :: a6 :: a7 :: a8 :: b :: b2 :: t) (zL z :: st) σ := fn_lstoreG h hd (i := 9) hi (fun j w e q => by cases e; cases q; exact hp) k

theorem fn_astore_9 {E : fnE} {own : String} {cc : ByteArray} {nL fr lo : Nat} {V : fnV} (h : fnCx E own cc nL fr lo V) {pc nx : Nat} {t st : List Value} {σ : fnMem} {a0 a1 a2 a3 a4 a5 a6 a7 a8 : Value} {b : Value} {z : Nat} (hd : fnD cc pc (.astore 9) 2 nx) (hi : Nat.ble 10 nL = true) (hp : fnC1 a8 = true) (k : V nx (a0 :: a1 :: a2 :: a3 :: a4 :: a5 :: a6 :: a7 :: a8 :: .ref z :: t) st σ) : V pc (a0 :: a1 :: a2 :: a3 :: a4 :: a5 :: a6 :: a7 :: a8 :: b :: t) (.ref z :: st) σ := fn_astoreG h hd (i := 9) hi (fun j w e q => by cases e; cases q; exact hp) k

theorem fn_iinc_9 {E : fnE} {own : String} {cc : ByteArray} {nL fr lo : Nat} {V : fnV} (h : fnCx E own cc nL fr lo V) {pc nx : Nat} {t st : List Value} {σ : fnMem} {a0 a1 a2 a3 a4 a5 a6 a7 a8 : Value} {d z : Int} (hd : fnD cc pc (.iinc 9 d) 3 nx) (hi : Nat.ble 10 nL = true) (hp : fnC1 a8 = true) (k : V nx (a0 :: a1 :: a2 :: a3 :: a4 :: a5 :: a6 :: a7 :: a8 :: zI (z + d) :: t) st σ) : V pc (a0 :: a1 :: a2 :: a3 :: a4 :: a5 :: a6 :: a7 :: a8 :: zI z :: t) st σ := fn_iincG h hd (i := 9) rfl hi (fun j w e q => by cases e; cases q; exact hp) k

theorem fn_iload_10 {E : fnE} {own : String} {cc : ByteArray} {nL fr lo : Nat} {V : fnV} (h : fnCx E own cc nL fr lo V) {pc nx : Nat} {t st : List Value} {σ : fnMem} {a0 a1 a2 a3 a4 a5 a6 a7 a8 a9 : Value} {z : Int} (hd : fnD cc pc (.iload 10) 2 nx) (k : V nx (a0 :: a1 :: a2 :: a3 :: a4 :: a5 :: a6 :: a7 :: a8 :: a9 :: zI z :: t) (zI z :: st) σ) : V pc (a0 :: a1 :: a2 :: a3 :: a4 :: a5 :: a6 :: a7 :: a8 :: a9 :: zI z :: t) st σ := fn_iloadG h hd (i := 10) rfl k

theorem fn_lload_10 {E : fnE} {own : String} {cc : ByteArray} {nL fr lo : Nat} {V : fnV} (h : fnCx E own cc nL fr lo V) {pc nx : Nat} {t st : List Value} {σ : fnMem} {a0 a1 a2 a3 a4 a5 a6 a7 a8 a9 : Value} {z : Int} (hd : fnD cc pc (.lload 10) 2 nx) (k : V nx (a0 :: a1 :: a2 :: a3 :: a4 :: a5 :: a6 :: a7 :: a8 :: a9 :: zL z :: t) (zL z :: st) σ) : V pc (a0 :: a1 :: a2 :: a3 :: a4 :: a5 :: a6 :: a7 :: a8 :: a9 :: zL z :: t) st σ := fn_lloadG h hd (i := 10) rfl k

theorem fn_aload_10 {E : fnE} {own : String} {cc : ByteArray} {nL fr lo : Nat} {V : fnV} (h : fnCx E own cc nL fr lo V) {pc nx : Nat} {t st : List Value} {σ : fnMem} {a0 a1 a2 a3 a4 a5 a6 a7 a8 a9 : Value} {z : Nat} (hd : fnD cc pc (.aload 10) 2 nx) (k : V nx (a0 :: a1 :: a2 :: a3 :: a4 :: a5 :: a6 :: a7 :: a8 :: a9 :: .ref z :: t) (.ref z :: st) σ) : V pc (a0 :: a1 :: a2 :: a3 :: a4 :: a5 :: a6 :: a7 :: a8 :: a9 :: .ref z :: t) st σ := fn_aloadG h hd (i := 10) rfl k

theorem fn_istore_10 {E : fnE} {own : String} {cc : ByteArray} {nL fr lo : Nat} {V : fnV} (h : fnCx E own cc nL fr lo V) {pc nx : Nat} {t st : List Value} {σ : fnMem} {a0 a1 a2 a3 a4 a5 a6 a7 a8 a9 : Value} {b : Value} {z : Int} (hd : fnD cc pc (.istore 10) 2 nx) (hi : Nat.ble 11 nL = true) (hp : fnC1 a9 = true) (k : V nx (a0 :: a1 :: a2 :: a3 :: a4 :: a5 :: a6 :: a7 :: a8 :: a9 :: zI z :: t) st σ) : V pc (a0 :: a1 :: a2 :: a3 :: a4 :: a5 :: a6 :: a7 :: a8 :: a9 :: b :: t) (zI z :: st) σ := fn_istoreG h hd (i := 10) hi (fun j w e q => by cases e; cases q; exact hp) k

theorem fn_lstore_10 {E : fnE} {own : String} {cc : ByteArray} {nL fr lo : Nat} {V : fnV} (h : fnCx E own cc nL fr lo V) {pc nx : Nat} {t st : List Value} {σ : fnMem} {a0 a1 a2 a3 a4 a5 a6 a7 a8 a9 : Value} {b b2 : Value} {z : Int} (hd : fnD cc pc (.lstore 10) 2 nx) (hi : Nat.ble 12 nL = true) (hp : fnC1 a9 = true) (k : V nx (a0 :: a1 :: a2 :: a3 :: a4 :: a5 :: a6 :: a7 :: a8 :: a9 :: zL z :: .null :: t) st σ) : V pc (a0 :: a1 :: a2 :: a3 :: a4 :: a5 :: a6 :: a7 :: a8 :: a9 :: b :: b2 :: t) (zL z :: st) σ := fn_lstoreG h hd (i := 10) hi (fun j w e q => by cases e; cases q; exact hp) k

theorem fn_astore_10 {E : fnE} {own : String} {cc : ByteArray} {nL fr lo : Nat} {V : fnV} (h : fnCx E own cc nL fr lo V) {pc nx : Nat} {t st : List Value} {σ : fnMem} {a0 a1 a2 a3 a4 a5 a6 a7 a8 a9 : Value} {b : Value} {z : Nat} (hd : fnD cc pc (.astore 10) 2 nx) (hi : Nat.ble 11 nL = true) (hp : fnC1 a9 = true) (k : V nx (a0 :: a1 :: a2 :: a3 :: a4 :: a5 :: a6 :: a7 :: a8 :: a9 :: .ref z :: t) st σ) : V pc (a0 :: a1 :: a2 :: a3 :: a4 :: a5 :: a6 :: a7 :: a8 :: a9 :: b :: t) (.ref z :: st) σ := fn_astoreG h hd (i := 10) hi (fun j w e q => by cases e; cases q; exact hp) k

theorem fn_iinc_10 {E : fnE} {own : String} {cc : ByteArray} {nL fr lo : Nat} {V : fnV} (h : fnCx E own cc nL fr lo V) {pc nx : Nat} {t st : List Value} {σ : fnMem} {a0 a1 a2 a3 a4 a5 a6 a7 a8 a9 : Value} {d z : Int} (hd : fnD cc pc (.iinc 10 d) 3 nx) (hi : Nat.ble 11 nL = true) (hp : fnC1 a9 = true) (k : V nx (a0 :: a1 :: a2 :: a3 :: a4 :: a5 :: a6 :: a7 :: a8 :: a9 :: zI (z + d) :: t) st σ) : V pc (a0 :: a1 :: a2 :: a3 :: a4 :: a5 :: a6 :: a7 :: a8 :: a9 :: zI z :: t) st σ := fn_iincG h hd (i := 10) rfl hi (fun j w e q => by cases e; cases q; exact hp) k

theorem fn_iload_11 {E : fnE} {own : String} {cc : ByteArray} {nL fr lo : Nat} {V : fnV} (h : fnCx E own cc nL fr lo V) {pc nx : Nat} {t st : List Value} {σ : fnMem} {a0 a1 a2 a3 a4 a5 a6 a7 a8 a9 a10 : Value} {z : Int} (hd : fnD cc pc (.iload 11) 2 nx) (k : V nx (a0 :: a1 :: a2 :: a3 :: a4 :: a5 :: a6 :: a7 :: a8 :: a9 :: a10 :: zI z :: t) (zI z :: st) σ) : V pc (a0 :: a1 :: a2 :: a3 :: a4 :: a5 :: a6 :: a7 :: a8 :: a9 :: a10 :: zI z :: t) st σ := fn_iloadG h hd (i := 11) rfl k

theorem fn_lload_11 {E : fnE} {own : String} {cc : ByteArray} {nL fr lo : Nat} {V : fnV} (h : fnCx E own cc nL fr lo V) {pc nx : Nat} {t st : List Value} {σ : fnMem} {a0 a1 a2 a3 a4 a5 a6 a7 a8 a9 a10 : Value} {z : Int} (hd : fnD cc pc (.lload 11) 2 nx) (k : V nx (a0 :: a1 :: a2 :: a3 :: a4 :: a5 :: a6 :: a7 :: a8 :: a9 :: a10 :: zL z :: t) (zL z :: st) σ) : V pc (a0 :: a1 :: a2 :: a3 :: a4 :: a5 :: a6 :: a7 :: a8 :: a9 :: a10 :: zL z :: t) st σ := fn_lloadG h hd (i := 11) rfl k

theorem fn_aload_11 {E : fnE} {own : String} {cc : ByteArray} {nL fr lo : Nat} {V : fnV} (h : fnCx E own cc nL fr lo V) {pc nx : Nat} {t st : List Value} {σ : fnMem} {a0 a1 a2 a3 a4 a5 a6 a7 a8 a9 a10 : Value} {z : Nat} (hd : fnD cc pc (.aload 11) 2 nx) (k : V nx (a0 :: a1 :: a2 :: a3 :: a4 :: a5 :: a6 :: a7 :: a8 :: a9 :: a10 :: .ref z :: t) (.ref z :: st) σ) : V pc (a0 :: a1 :: a2 :: a3 :: a4 :: a5 :: a6 :: a7 :: a8 :: a9 :: a10 :: .ref z :: t) st σ := fn_aloadG h hd (i := 11) rfl k

theorem fn_istore_11 {E : fnE} {own : String} {cc : ByteArray} {nL fr lo : Nat} {V : fnV} (h : fnCx E own cc nL fr lo V) {pc nx : Nat} {t st : List Value} {σ : fnMem} {a0 a1 a2 a3 a4 a5 a6 a7 a8 a9 a10 : Value} {b : Value} {z : Int} (hd : fnD cc pc (.istore 11) 2 nx) (hi : Nat.ble 12 nL = true) (hp : fnC1 a10 = true) (k : V nx (a0 :: a1 :: a2 :: a3 :: a4 :: a5 :: a6 :: a7 :: a8 :: a9 :: a10 :: zI z :: t) st σ) : V pc (a0 :: a1 :: a2 :: a3 :: a4 :: a5 :: a6 :: a7 :: a8 :: a9 :: a10 :: b :: t) (zI z :: st) σ := fn_istoreG h hd (i := 11) hi (fun j w e q => by cases e; cases q; exact hp) k

theorem fn_lstore_11 {E : fnE} {own : String} {cc : ByteArray} {nL fr lo : Nat} {V : fnV} (h : fnCx E own cc nL fr lo V) {pc nx : Nat} {t st : List Value} {σ : fnMem} {a0 a1 a2 a3 a4 a5 a6 a7 a8 a9 a10 : Value} {b b2 : Value} {z : Int} (hd : fnD cc pc (.lstore 11) 2 nx) (hi : Nat.ble 13 nL = true) (hp : fnC1 a10 = true) (k : V nx (a0 :: a1 :: a2 :: a3 :: a4 :: a5 :: a6 :: a7 :: a8 :: a9 :: a10 :: zL z :: .null :: t) st σ) : V pc (a0 :: a1 :: a2 :: a3 :: a4 :: a5 :: a6 :: a7 :: a8 :: a9 :: a10 :: b :: b2 :: t) (zL z :: st) σ := fn_lstoreG h hd (i := 11) hi (fun j w e q => by cases e; cases q; exact hp) k

theorem fn_astore_11 {E : fnE} {own : String} {cc : ByteArray} {nL fr lo : Nat} {V : fnV} (h : fnCx E own cc nL fr lo V) {pc nx : Nat} {t st : List Value} {σ : fnMem} {a0 a1 a2 a3 a4 a5 a6 a7 a8 a9 a10 : Value} {b : Value} {z : Nat} (hd : fnD cc pc (.astore 11) 2 nx) (hi : Nat.ble 12 nL = true) (hp : fnC1 a10 = true) (k : V nx (a0 :: a1 :: a2 :: a3 :: a4 :: a5 :: a6 :: a7 :: a8 :: a9 :: a10 :: .ref z :: t) st σ) : V pc (a0 :: a1 :: a2 :: a3 :: a4 :: a5 :: a6 :: a7 :: a8 :: a9 :: a10 :: b :: t) (.ref z :: st) σ := fn_astoreG h hd (i := 11) hi (fun j w e q => by cases e; cases q; exact hp) k

theorem fn_iinc_11 {E : fnE} {own : String} {cc : ByteArray} {nL fr lo : Nat} {V : fnV} (h : fnCx E own cc nL fr lo V) {pc nx : Nat} {t st : List Value} {σ : fnMem} {a0 a1 a2 a3 a4 a5 a6 a7 a8 a9 a10 : Value} {d z : Int} (hd : fnD cc pc (.iinc 11 d) 3 nx) (hi : Nat.ble 12 nL = true) (hp : fnC1 a10 = true) (k : V nx (a0 :: a1 :: a2 :: a3 :: a4 :: a5 :: a6 :: a7 :: a8 :: a9 :: a10 :: zI (z + d) :: t) st σ) : V pc (a0 :: a1 :: a2 :: a3 :: a4 :: a5 :: a6 :: a7 :: a8 :: a9 :: a10 :: zI z :: t) st σ := fn_iincG h hd (i := 11) rfl hi (fun j w e q => by cases e; cases q; exact hp) k

theorem fn_iload_12 {E : fnE} {own : String} {cc : ByteArray} {nL fr lo : Nat} {V : fnV} (h : fnCx E own cc nL fr lo V) {pc nx : Nat} {t st : List Value} {σ : fnMem} {a0 a1 a2 a3 a4 a5 a6 a7 a8 a9 a10 a11 : Value} {z : Int} (hd : fnD cc pc (.iload 12) 2 nx) (k : V nx (a0 :: a1 :: a2 :: a3 :: a4 :: a5 :: a6 :: a7 :: a8 :: a9 :: a10 :: a11 :: zI z :: t) (zI z :: st) σ) : V pc (a0 :: a1 :: a2 :: a3 :: a4 :: a5 :: a6 :: a7 :: a8 :: a9 :: a10 :: a11 :: zI z :: t) st σ := fn_iloadG h hd (i := 12) rfl k

theorem fn_lload_12 {E : fnE} {own : String} {cc : ByteArray} {nL fr lo : Nat} {V : fnV} (h : fnCx E own cc nL fr lo V) {pc nx : Nat} {t st : List Value} {σ : fnMem} {a0 a1 a2 a3 a4 a5 a6 a7 a8 a9 a10 a11 : Value} {z : Int} (hd : fnD cc pc (.lload 12) 2 nx) (k : V nx (a0 :: a1 :: a2 :: a3 :: a4 :: a5 :: a6 :: a7 :: a8 :: a9 :: a10 :: a11 :: zL z :: t) (zL z :: st) σ) : V pc (a0 :: a1 :: a2 :: a3 :: a4 :: a5 :: a6 :: a7 :: a8 :: a9 :: a10 :: a11 :: zL z :: t) st σ := fn_lloadG h hd (i := 12) rfl k

theorem fn_aload_12 {E : fnE} {own : String} {cc : ByteArray} {nL fr lo : Nat} {V : fnV} (h : fnCx E own cc nL fr lo V) {pc nx : Nat} {t st : List Value} {σ : fnMem} {a0 a1 a2 a3 a4 a5 a6 a7 a8 a9 a10 a11 : Value} {z : Nat} (hd : fnD cc pc (.aload 12) 2 nx) (k : V nx (a0 :: a1 :: a2 :: a3 :: a4 :: a5 :: a6 :: a7 :: a8 :: a9 :: a10 :: a11 :: .ref z :: t) (.ref z :: st) σ) : V pc (a0 :: a1 :: a2 :: a3 :: a4 :: a5 :: a6 :: a7 :: a8 :: a9 :: a10 :: a11 :: .ref z :: t) st σ := fn_aloadG h hd (i := 12) rfl k

theorem fn_istore_12 {E : fnE} {own : String} {cc : ByteArray} {nL fr lo : Nat} {V : fnV} (h : fnCx E own cc nL fr lo V) {pc nx : Nat} {t st : List Value} {σ : fnMem} {a0 a1 a2 a3 a4 a5 a6 a7 a8 a9 a10 a11 : Value} {b : Value} {z : Int} (hd : fnD cc pc (.istore 12) 2 nx) (hi : Nat.ble 13 nL = true) (hp : fnC1 a11 = true) (k : V nx (a0 :: a1 :: a2 :: a3 :: a4 :: a5 :: a6 :: a7 :: a8 :: a9 :: a10 :: a11 :: zI z :: t) st σ) : V pc (a0 :: a1 :: a2 :: a3 :: a4 :: a5 :: a6 :: a7 :: a8 :: a9 :: a10 :: a11 :: b :: t) (zI z :: st) σ := fn_istoreG h hd (i := 12) hi (fun j w e q => by cases e; cases q; exact hp) k

theorem fn_lstore_12 {E : fnE} {own : String} {cc : ByteArray} {nL fr lo : Nat} {V : fnV} (h : fnCx E own cc nL fr lo V) {pc nx : Nat} {t st : List Value} {σ : fnMem} {a0 a1 a2 a3 a4 a5 a6 a7 a8 a9 a10 a11 : Value} {b b2 : Value} {z : Int} (hd : fnD cc pc (.lstore 12) 2 nx) (hi : Nat.ble 14 nL = true) (hp : fnC1 a11 = true) (k : V nx (a0 :: a1 :: a2 :: a3 :: a4 :: a5 :: a6 :: a7 :: a8 :: a9 :: a10 :: a11 :: zL z :: .null :: t) st σ) : V pc (a0 :: a1 :: a2 :: a3 :: a4 :: a5 :: a6 :: a7 :: a8 :: a9 :: a10 :: a11 :: b :: b2 :: t) (zL z :: st) σ := fn_lstoreG h hd (i := 12) hi (fun j w e q => by cases e; cases q; exact hp) k

theorem fn_astore_12 {E : fnE} {own : String} {cc : ByteArray} {nL fr lo : Nat} {V : fnV} (h : fnCx E own cc nL fr lo V) {pc nx : Nat} {t st : List Value} {σ : fnMem} {a0 a1 a2 a3 a4 a5 a6 a7 a8 a9 a10 a11 : Value} {b : Value} {z : Nat} (hd : fnD cc pc (.astore 12) 2 nx) (hi : Nat.ble 13 nL = true) (hp : fnC1 a11 = true) (k : V nx (a0 :: a1 :: a2 :: a3 :: a4 :: a5 :: a6 :: a7 :: a8 :: a9 :: a10 :: a11 :: .ref z :: t) st σ) : V pc (a0 :: a1 :: a2 :: a3 :: a4 :: a5 :: a6 :: a7 :: a8 :: a9 :: a10 :: a11 :: b :: t) (.ref z :: st) σ := fn_astoreG h hd (i := 12) hi (fun j w e q => by cases e; cases q; exact hp) k

theorem fn_iinc_12 {E : fnE} {own : String} {cc : ByteArray} {nL fr lo : Nat} {V : fnV} (h : fnCx E own cc nL fr lo V) {pc nx : Nat} {t st : List Value} {σ : fnMem} {a0 a1 a2 a3 a4 a5 a6 a7 a8 a9 a10 a11 : Value} {d z : Int} (hd : fnD cc pc (.iinc 12 d) 3 nx) (hi : Nat.ble 13 nL = true) (hp : fnC1 a11 = true) (k : V nx (a0 :: a1 :: a2 :: a3 :: a4 :: a5 :: a6 :: a7 :: a8 :: a9 :: a10 :: a11 :: zI (z + d) :: t) st σ) : V pc (a0 :: a1 :: a2 :: a3 :: a4 :: a5 :: a6 :: a7 :: a8 :: a9 :: a10 :: a11 :: zI z :: t) st σ := fn_iincG h hd (i := 12) rfl hi (fun j w e q => by cases e; cases q; exact hp) k

theorem fn_iload_13 {E : fnE} {own : String} {cc : ByteArray} {nL fr lo : Nat} {V : fnV} (h : fnCx E own cc nL fr lo V) {pc nx : Nat} {t st : List Value} {σ : fnMem} {a0 a1 a2 a3 a4 a5 a6 a7 a8 a9 a10 a11 a12 : Value} {z : Int} (hd : fnD cc pc (.iload 13) 2 nx) (k : V nx (a0 :: a1 :: a2 :: a3 :: a4 :: a5 :: a6 :: a7 :: a8 :: a9 :: a10 :: a11 :: a12 :: zI z :: t) (zI z :: st) σ) : V pc (a0 :: a1 :: a2 :: a3 :: a4 :: a5 :: a6 :: a7 :: a8 :: a9 :: a10 :: a11 :: a12 :: zI z :: t) st σ := fn_iloadG h hd (i := 13) rfl k

theorem fn_lload_13 {E : fnE} {own : String} {cc : ByteArray} {nL fr lo : Nat} {V : fnV} (h : fnCx E own cc nL fr lo V) {pc nx : Nat} {t st : List Value} {σ : fnMem} {a0 a1 a2 a3 a4 a5 a6 a7 a8 a9 a10 a11 a12 : Value} {z : Int} (hd : fnD cc pc (.lload 13) 2 nx) (k : V nx (a0 :: a1 :: a2 :: a3 :: a4 :: a5 :: a6 :: a7 :: a8 :: a9 :: a10 :: a11 :: a12 :: zL z :: t) (zL z :: st) σ) : V pc (a0 :: a1 :: a2 :: a3 :: a4 :: a5 :: a6 :: a7 :: a8 :: a9 :: a10 :: a11 :: a12 :: zL z :: t) st σ := fn_lloadG h hd (i := 13) rfl k

theorem fn_aload_13 {E : fnE} {own : String} {cc : ByteArray} {nL fr lo : Nat} {V : fnV} (h : fnCx E own cc nL fr lo V) {pc nx : Nat} {t st : List Value} {σ : fnMem} {a0 a1 a2 a3 a4 a5 a6 a7 a8 a9 a10 a11 a12 : Value} {z : Nat} (hd : fnD cc pc (.aload 13) 2 nx) (k : V nx (a0 :: a1 :: a2 :: a3 :: a4 :: a5 :: a6 :: a7 :: a8 :: a9 :: a10 :: a11 :: a12 :: .ref z :: t) (.ref z :: st) σ) : V pc (a0 :: a1 :: a2 :: a3 :: a4 :: a5 :: a6 :: a7 :: a8 :: a9 :: a10 :: a11 :: a12 :: .ref z :: t) st σ := fn_aloadG h hd (i := 13) rfl k

theorem fn_istore_13 {E : fnE} {own : String} {cc : ByteArray} {nL fr lo : Nat} {V : fnV} (h : fnCx E own cc nL fr lo V) {pc nx : Nat} {t st : List Value} {σ : fnMem} {a0 a1 a2 a3 a4 a5 a6 a7 a8 a9 a10 a11 a12 : Value} {b : Value} {z : Int} (hd : fnD cc pc (.istore 13) 2 nx) (hi : Nat.ble 14 nL = true) (hp : fnC1 a12 = true) (k : V nx (a0 :: a1 :: a2 :: a3 :: a4 :: a5 :: a6 :: a7 :: a8 :: a9 :: a10 :: a11 :: a12 :: zI z :: t) st σ) : V pc (a0 :: a1 :: a2 :: a3 :: a4 :: a5 :: a6 :: a7 :: a8 :: a9 :: a10 :: a11 :: a12 :: b :: t) (zI z :: st) σ := fn_istoreG h hd (i := 13) hi (fun j w e q => by cases e; cases q; exact hp) k

theorem fn_lstore_13 {E : fnE} {own : String} {cc : ByteArray} {nL fr lo : Nat} {V : fnV} (h : fnCx E own cc nL fr lo V) {pc nx : Nat} {t st : List Value} {σ : fnMem} {a0 a1 a2 a3 a4 a5 a6 a7 a8 a9 a10 a11 a12 : Value} {b b2 : Value} {z : Int} (hd : fnD cc pc (.lstore 13) 2 nx) (hi : Nat.ble 15 nL = true) (hp : fnC1 a12 = true) (k : V nx (a0 :: a1 :: a2 :: a3 :: a4 :: a5 :: a6 :: a7 :: a8 :: a9 :: a10 :: a11 :: a12 :: zL z :: .null :: t) st σ) : V pc (a0 :: a1 :: a2 :: a3 :: a4 :: a5 :: a6 :: a7 :: a8 :: a9 :: a10 :: a11 :: a12 :: b :: b2 :: t) (zL z :: st) σ := fn_lstoreG h hd (i := 13) hi (fun j w e q => by cases e; cases q; exact hp) k

theorem fn_astore_13 {E : fnE} {own : String} {cc : ByteArray} {nL fr lo : Nat} {V : fnV} (h : fnCx E own cc nL fr lo V) {pc nx : Nat} {t st : List Value} {σ : fnMem} {a0 a1 a2 a3 a4 a5 a6 a7 a8 a9 a10 a11 a12 : Value} {b : Value} {z : Nat} (hd : fnD cc pc (.astore 13) 2 nx) (hi : Nat.ble 14 nL = true) (hp : fnC1 a12 = true) (k : V nx (a0 :: a1 :: a2 :: a3 :: a4 :: a5 :: a6 :: a7 :: a8 :: a9 :: a10 :: a11 :: a12 :: .ref z :: t) st σ) : V pc (a0 :: a1 :: a2 :: a3 :: a4 :: a5 :: a6 :: a7 :: a8 :: a9 :: a10 :: a11 :: a12 :: b :: t) (.ref z :: st) σ := fn_astoreG h hd (i := 13) hi (fun j w e q => by cases e; cases q; exact hp) k

theorem fn_iinc_13 {E : fnE} {own : String} {cc : ByteArray} {nL fr lo : Nat} {V : fnV} (h : fnCx E own cc nL fr lo V) {pc nx : Nat} {t st : List Value} {σ : fnMem} {a0 a1 a2 a3 a4 a5 a6 a7 a8 a9 a10 a11 a12 : Value} {d z : Int} (hd : fnD cc pc (.iinc 13 d) 3 nx) (hi : Nat.ble 14 nL = true) (hp : fnC1 a12 = true) (k : V nx (a0 :: a1 :: a2 :: a3 :: a4 :: a5 :: a6 :: a7 :: a8 :: a9 :: a10 :: a11 :: a12 :: zI (z + d) :: t) st σ) : V pc (a0 :: a1 :: a2 :: a3 :: a4 :: a5 :: a6 :: a7 :: a8 :: a9 :: a10 :: a11 :: a12 :: zI z :: t) st σ := fn_iincG h hd (i := 13) rfl hi (fun j w e q => by cases e; cases q; exact hp) k

theorem fn_iload_14 {E : fnE} {own : String} {cc : ByteArray} {nL fr lo : Nat} {V : fnV} (h : fnCx E own cc nL fr lo V) {pc nx : Nat} {t st : List Value} {σ : fnMem} {a0 a1 a2 a3 a4 a5 a6 a7 a8 a9 a10 a11 a12 a13 : Value} {z : Int} (hd : fnD cc pc (.iload 14) 2 nx) (k : V nx (a0 :: a1 :: a2 :: a3 :: a4 :: a5 :: a6 :: a7 :: a8 :: a9 :: a10 :: a11 :: a12 :: a13 :: zI z :: t) (zI z :: st) σ) : V pc (a0 :: a1 :: a2 :: a3 :: a4 :: a5 :: a6 :: a7 :: a8 :: a9 :: a10 :: a11 :: a12 :: a13 :: zI z :: t) st σ := fn_iloadG h hd (i := 14) rfl k

theorem fn_lload_14 {E : fnE} {own : String} {cc : ByteArray} {nL fr lo : Nat} {V : fnV} (h : fnCx E own cc nL fr lo V) {pc nx : Nat} {t st : List Value} {σ : fnMem} {a0 a1 a2 a3 a4 a5 a6 a7 a8 a9 a10 a11 a12 a13 : Value} {z : Int} (hd : fnD cc pc (.lload 14) 2 nx) (k : V nx (a0 :: a1 :: a2 :: a3 :: a4 :: a5 :: a6 :: a7 :: a8 :: a9 :: a10 :: a11 :: a12 :: a13 :: zL z :: t) (zL z :: st) σ) : V pc (a0 :: a1 :: a2 :: a3 :: a4 :: a5 :: a6 :: a7 :: a8 :: a9 :: a10 :: a11 :: a12 :: a13 :: zL z :: t) st σ := fn_lloadG h hd (i := 14) rfl k

theorem fn_aload_14 {E : fnE} {own : String} {cc : ByteArray} {nL fr lo : Nat} {V : fnV} (h : fnCx E own cc nL fr lo V) {pc nx : Nat} {t st : List Value} {σ : fnMem} {a0 a1 a2 a3 a4 a5 a6 a7 a8 a9 a10 a11 a12 a13 : Value} {z : Nat} (hd : fnD cc pc (.aload 14) 2 nx) (k : V nx (a0 :: a1 :: a2 :: a3 :: a4 :: a5 :: a6 :: a7 :: a8 :: a9 :: a10 :: a11 :: a12 :: a13 :: .ref z :: t) (.ref z :: st) σ) : V pc (a0 :: a1 :: a2 :: a3 :: a4 :: a5 :: a6 :: a7 :: a8 :: a9 :: a10 :: a11 :: a12 :: a13 :: .ref z :: t) st σ := fn_aloadG h hd (i := 14) rfl k

theorem fn_istore_14 {E : fnE} {own : String} {cc : ByteArray} {nL fr lo : Nat} {V : fnV} (h : fnCx E own cc nL fr lo V) {pc nx : Nat} {t st : List Value} {σ : fnMem} {a0 a1 a2 a3 a4 a5 a6 a7 a8 a9 a10 a11 a12 a13 : Value} {b : Value} {z : Int} (hd : fnD cc pc (.istore 14) 2 nx) (hi : Nat.ble 15 nL = true) (hp : fnC1 a13 = true) (k : V nx (a0 :: a1 :: a2 :: a3 :: a4 :: a5 :: a6 :: a7 :: a8 :: a9 :: a10 :: a11 :: a12 :: a13 :: zI z :: t) st σ) : V pc (a0 :: a1 :: a2 :: a3 :: a4 :: a5 :: a6 :: a7 :: a8 :: a9 :: a10 :: a11 :: a12 :: a13 :: b :: t) (zI z :: st) σ := fn_istoreG h hd (i := 14) hi (fun j w e q => by cases e; cases q; exact hp) k

theorem fn_lstore_14 {E : fnE} {own : String} {cc : ByteArray} {nL fr lo : Nat} {V : fnV} (h : fnCx E own cc nL fr lo V) {pc nx : Nat} {t st : List Value} {σ : fnMem} {a0 a1 a2 a3 a4 a5 a6 a7 a8 a9 a10 a11 a12 a13 : Value} {b b2 : Value} {z : Int} (hd : fnD cc pc (.lstore 14) 2 nx) (hi : Nat.ble 16 nL = true) (hp : fnC1 a13 = true) (k : V nx (a0 :: a1 :: a2 :: a3 :: a4 :: a5 :: a6 :: a7 :: a8 :: a9 :: a10 :: a11 :: a12 :: a13 :: zL z :: .null :: t) st σ) : V pc (a0 :: a1 :: a2 :: a3 :: a4 :: a5 :: a6 :: a7 :: a8 :: a9 :: a10 :: a11 :: a12 :: a13 :: b :: b2 :: t) (zL z :: st) σ := fn_lstoreG h hd (i := 14) hi (fun j w e q => by cases e; cases q; exact hp) k

theorem fn_astore_14 {E : fnE} {own : String} {cc : ByteArray} {nL fr lo : Nat} {V : fnV} (h : fnCx E own cc nL fr lo V) {pc nx : Nat} {t st : List Value} {σ : fnMem} {a0 a1 a2 a3 a4 a5 a6 a7 a8 a9 a10 a11 a12 a13 : Value} {b : Value} {z : Nat} (hd : fnD cc pc (.astore 14) 2 nx) (hi : Nat.ble 15 nL = true) (hp : fnC1 a13 = true) (k : V nx (a0 :: a1 :: a2 :: a3 :: a4 :: a5 :: a6 :: a7 :: a8 :: a9 :: a10 :: a11 :: a12 :: a13 :: .ref z :: t) st σ) : V pc (a0 :: a1 :: a2 :: a3 :: a4 :: a5 :: a6 :: a7 :: a8 :: a9 :: a10 :: a11 :: a12 :: a13 :: b :: t) (.ref z :: st) σ := fn_astoreG h hd (i := 14) hi (fun j w e q => by cases e; cases q; exact hp) k

theorem fn_iinc_14 {E : fnE} {own : String} {cc : ByteArray} {nL fr lo : Nat} {V : fnV} (h : fnCx E own cc nL fr lo V) {pc nx : Nat} {t st : List Value} {σ : fnMem} {a0 a1 a2 a3 a4 a5 a6 a7 a8 a9 a10 a11 a12 a13 : Value} {d z : Int} (hd : fnD cc pc (.iinc 14 d) 3 nx) (hi : Nat.ble 15 nL = true) (hp : fnC1 a13 = true) (k : V nx (a0 :: a1 :: a2 :: a3 :: a4 :: a5 :: a6 :: a7 :: a8 :: a9 :: a10 :: a11 :: a12 :: a13 :: zI (z + d) :: t) st σ) : V pc (a0 :: a1 :: a2 :: a3 :: a4 :: a5 :: a6 :: a7 :: a8 :: a9 :: a10 :: a11 :: a12 :: a13 :: zI z :: t) st σ := fn_iincG h hd (i := 14) rfl hi (fun j w e q => by cases e; cases q; exact hp) k

theorem fn_iload_15 {E : fnE} {own : String} {cc : ByteArray} {nL fr lo : Nat} {V : fnV} (h : fnCx E own cc nL fr lo V) {pc nx : Nat} {t st : List Value} {σ : fnMem} {a0 a1 a2 a3 a4 a5 a6 a7 a8 a9 a10 a11 a12 a13 a14 : Value} {z : Int} (hd : fnD cc pc (.iload 15) 2 nx) (k : V nx (a0 :: a1 :: a2 :: a3 :: a4 :: a5 :: a6 :: a7 :: a8 :: a9 :: a10 :: a11 :: a12 :: a13 :: a14 :: zI z :: t) (zI z :: st) σ) : V pc (a0 :: a1 :: a2 :: a3 :: a4 :: a5 :: a6 :: a7 :: a8 :: a9 :: a10 :: a11 :: a12 :: a13 :: a14 :: zI z :: t) st σ := fn_iloadG h hd (i := 15) rfl k

theorem fn_lload_15 {E : fnE} {own : String} {cc : ByteArray} {nL fr lo : Nat} {V : fnV} (h : fnCx E own cc nL fr lo V) {pc nx : Nat} {t st : List Value} {σ : fnMem} {a0 a1 a2 a3 a4 a5 a6 a7 a8 a9 a10 a11 a12 a13 a14 : Value} {z : Int} (hd : fnD cc pc (.lload 15) 2 nx) (k : V nx (a0 :: a1 :: a2 :: a3 :: a4 :: a5 :: a6 :: a7 :: a8 :: a9 :: a10 :: a11 :: a12 :: a13 :: a14 :: zL z :: t) (zL z :: st) σ) : V pc (a0 :: a1 :: a2 :: a3 :: a4 :: a5 :: a6 :: a7 :: a8 :: a9 :: a10 :: a11 :: a12 :: a13 :: a14 :: zL z :: t) st σ := fn_lloadG h hd (i := 15) rfl k

theorem fn_aload_15 {E : fnE} {own : String} {cc : ByteArray} {nL fr lo : Nat} {V : fnV} (h : fnCx E own cc nL fr lo V) {pc nx : Nat} {t st : List Value} {σ : fnMem} {a0 a1 a2 a3 a4 a5 a6 a7 a8 a9 a10 a11 a12 a13 a14 : Value} {z : Nat} (hd : fnD cc pc (.aload 15) 2 nx) (k : V nx (a0 :: a1 :: a2 :: a3 :: a4 :: a5 :: a6 :: a7 :: a8 :: a9 :: a10 :: a11 :: a12 :: a13 :: a14 :: .ref z :: t) (.ref z :: st) σ) : V pc (a0 :: a1 :: a2 :: a3 :: a4 :: a5 :: a6 :: a7 :: a8 :: a9 :: a10 :: a11 :: a12 :: a13 :: a14 :: .ref z :: t) st σ := fn_aloadG h hd (i := 15) rfl k

theorem fn_istore_15 {E : fnE} {own : String} {cc : ByteArray} {nL fr lo : Nat} {V : fnV} (h : fnCx E own cc nL fr lo V) {pc nx : Nat} {t st : List Value} {σ : fnMem} {a0 a1 a2 a3 a4 a5 a6 a7 a8 a9 a10 a11 a12 a13 a14 : Value} {b : Value} {z : Int} (hd : fnD cc pc (.istore 15) 2 nx) (hi : Nat.ble 16 nL = true) (hp : fnC1 a14 = true) (k : V nx (a0 :: a1 :: a2 :: a3 :: a4 :: a5 :: a6 :: a7 :: a8 :: a9 :: a10 :: a11 :: a12 :: a13 :: a14 :: zI z :: t) st σ) : V pc (a0 :: a1 :: a2 :: a3 :: a4 :: a5 :: a6 :: a7 :: a8 :: a9 :: a10 :: a11 :: a12 :: a13 :: a14 :: b :: t) (zI z :: st) σ := fn_istoreG h hd (i := 15) hi (fun j w e q => by cases e; cases q; exact hp) k

theorem fn_lstore_15 {E : fnE} {own : String} {cc : ByteArray} {nL fr lo : Nat} {V : fnV} (h : fnCx E own cc nL fr lo V) {pc nx : Nat} {t st : List Value} {σ : fnMem} {a0 a1 a2 a3 a4 a5 a6 a7 a8 a9 a10 a11 a12 a13 a14 : Value} {b b2 : Value} {z : Int} (hd : fnD cc pc (.lstore 15) 2 nx) (hi : Nat.ble 17 nL = true) (hp : fnC1 a14 = true) (k : V nx (a0 :: a1 :: a2 :: a3 :: a4 :: a5 :: a6 :: a7 :: a8 :: a9 :: a10 :: a11 :: a12 :: a13 :: a14 :: zL z :: .null :: t) st σ) : V pc (a0 :: a1 :: a2 :: a3 :: a4 :: a5 :: a6 :: a7 :: a8 :: a9 :: a10 :: a11 :: a12 :: a13 :: a14 :: b :: b2 :: t) (zL z :: st) σ := fn_lstoreG h hd (i := 15) hi (fun j w e q => by cases e; cases q; exact hp) k

theorem fn_astore_15 {E : fnE} {own : String} {cc : ByteArray} {nL fr lo : Nat} {V : fnV} (h : fnCx E own cc nL fr lo V) {pc nx : Nat} {t st : List Value} {σ : fnMem} {a0 a1 a2 a3 a4 a5 a6 a7 a8 a9 a10 a11 a12 a13 a14 : Value} {b : Value} {z : Nat} (hd : fnD cc pc (.astore 15) 2 nx) (hi : Nat.ble 16 nL = true) (hp : fnC1 a14 = true) (k : V nx (a0 :: a1 :: a2 :: a3 :: a4 :: a5 :: a6 :: a7 :: a8 :: a9 :: a10 :: a11 :: a12 :: a13 :: a14 :: .ref z :: t) st σ) : V pc (a0 :: a1 :: a2 :: a3 :: a4 :: a5 :: a6 :: a7 :: a8 :: a9 :: a10 :: a11 :: a12 :: a13 :: a14 :: b :: t) (.ref z :: st) σ := fn_astoreG h hd (i := 15) hi (fun j w e q => by cases e; cases q; exact hp) k

theorem fn_iinc_15 {E : fnE} {own : String} {cc : ByteArray} {nL fr lo : Nat} {V : fnV} (h : fnCx E own cc nL fr lo V) {pc nx : Nat} {t st : List Value} {σ : fnMem} {a0 a1 a2 a3 a4 a5 a6 a7 a8 a9 a10 a11 a12 a13 a14 : Value} {d z : Int} (hd : fnD cc pc (.iinc 15 d) 3 nx) (hi : Nat.ble 16 nL = true) (hp : fnC1 a14 = true) (k : V nx (a0 :: a1 :: a2 :: a3 :: a4 :: a5 :: a6 :: a7 :: a8 :: a9 :: a10 :: a11 :: a12 :: a13 :: a14 :: zI (z + d) :: t) st σ) : V pc (a0 :: a1 :: a2 :: a3 :: a4 :: a5 :: a6 :: a7 :: a8 :: a9 :: a10 :: a11 :: a12 :: a13 :: a14 :: zI z :: t) st σ := fn_iincG h hd (i := 15) rfl hi (fun j w e q => by cases e; cases q; exact hp) k

theorem fn_iload_16 {E : fnE} {own : String} {cc : ByteArray} {nL fr lo : Nat} {V : fnV} (h : fnCx E own cc nL fr lo V) {pc nx : Nat} {t st : List Value} {σ : fnMem} {a0 a1 a2 a3 a4 a5 a6 a7 a8 a9 a10 a11 a12 a13 a14 a15 : Value} {z : Int} (hd : fnD cc pc (.iload 16) 2 nx) (k : V nx (a0 :: a1 :: a2 :: a3 :: a4 :: a5 :: a6 :: a7 :: a8 :: a9 :: a10 :: a11 :: a12 :: a13 :: a14 :: a15 :: zI z :: t) (zI z :: st) σ) : V pc (a0 :: a1 :: a2 :: a3 :: a4 :: a5 :: a6 :: a7 :: a8 :: a9 :: a10 :: a11 :: a12 :: a13 :: a14 :: a15 :: zI z :: t) st σ := fn_iloadG h hd (i := 16) rfl k

theorem fn_lload_16 {E : fnE} {own : String} {cc : ByteArray} {nL fr lo : Nat} {V : fnV} (h : fnCx E own cc nL fr lo V) {pc nx : Nat} {t st : List Value} {σ : fnMem} {a0 a1 a2 a3 a4 a5 a6 a7 a8 a9 a10 a11 a12 a13 a14 a15 : Value} {z : Int} (hd : fnD cc pc (.lload 16) 2 nx) (k : V nx (a0 :: a1 :: a2 :: a3 :: a4 :: a5 :: a6 :: a7 :: a8 :: a9 :: a10 :: a11 :: a12 :: a13 :: a14 :: a15 :: zL z :: t) (zL z :: st) σ) : V pc (a0 :: a1 :: a2 :: a3 :: a4 :: a5 :: a6 :: a7 :: a8 :: a9 :: a10 :: a11 :: a12 :: a13 :: a14 :: a15 :: zL z :: t) st σ := fn_lloadG h hd (i := 16) rfl k

theorem fn_aload_16 {E : fnE} {own : String} {cc : ByteArray} {nL fr lo : Nat} {V : fnV} (h : fnCx E own cc nL fr lo V) {pc nx : Nat} {t st : List Value} {σ : fnMem} {a0 a1 a2 a3 a4 a5 a6 a7 a8 a9 a10 a11 a12 a13 a14 a15 : Value} {z : Nat} (hd : fnD cc pc (.aload 16) 2 nx) (k : V nx (a0 :: a1 :: a2 :: a3 :: a4 :: a5 :: a6 :: a7 :: a8 :: a9 :: a10 :: a11 :: a12 :: a13 :: a14 :: a15 :: .ref z :: t) (.ref z :: st) σ) : V pc (a0 :: a1 :: a2 :: a3 :: a4 :: a5 :: a6 :: a7 :: a8 :: a9 :: a10 :: a11 :: a12 :: a13 :: a14 :: a15 :: .ref z :: t) st σ := fn_aloadG h hd (i := 16) rfl k

theorem fn_istore_16 {E : fnE} {own : String} {cc : ByteArray} {nL fr lo : Nat} {V : fnV} (h : fnCx E own cc nL fr lo V) {pc nx : Nat} {t st : List Value} {σ : fnMem} {a0 a1 a2 a3 a4 a5 a6 a7 a8 a9 a10 a11 a12 a13 a14 a15 : Value} {b : Value} {z : Int} (hd : fnD cc pc (.istore 16) 2 nx) (hi : Nat.ble 17 nL = true) (hp : fnC1 a15 = true) (k : V nx (a0 :: a1 :: a2 :: a3 :: a4 :: a5 :: a6 :: a7 :: a8 :: a9 :: a10 :: a11 :: a12 :: a13 :: a14 :: a15 :: zI z :: t) st σ) : V pc (a0 :: a1 :: a2 :: a3 :: a4 :: a5 :: a6 :: a7 :: a8 :: a9 :: a10 :: a11 :: a12 :: a13 :: a14 :: a15 :: b :: t) (zI z :: st) σ := fn_istoreG h hd (i := 16) hi (fun j w e q => by cases e; cases q; exact hp) k

theorem fn_lstore_16 {E : fnE} {own : String} {cc : ByteArray} {nL fr lo : Nat} {V : fnV} (h : fnCx E own cc nL fr lo V) {pc nx : Nat} {t st : List Value} {σ : fnMem} {a0 a1 a2 a3 a4 a5 a6 a7 a8 a9 a10 a11 a12 a13 a14 a15 : Value} {b b2 : Value} {z : Int} (hd : fnD cc pc (.lstore 16) 2 nx) (hi : Nat.ble 18 nL = true) (hp : fnC1 a15 = true) (k : V nx (a0 :: a1 :: a2 :: a3 :: a4 :: a5 :: a6 :: a7 :: a8 :: a9 :: a10 :: a11 :: a12 :: a13 :: a14 :: a15 :: zL z :: .null :: t) st σ) : V pc (a0 :: a1 :: a2 :: a3 :: a4 :: a5 :: a6 :: a7 :: a8 :: a9 :: a10 :: a11 :: a12 :: a13 :: a14 :: a15 :: b :: b2 :: t) (zL z :: st) σ := fn_lstoreG h hd (i := 16) hi (fun j w e q => by cases e; cases q; exact hp) k

theorem fn_astore_16 {E : fnE} {own : String} {cc : ByteArray} {nL fr lo : Nat} {V : fnV} (h : fnCx E own cc nL fr lo V) {pc nx : Nat} {t st : List Value} {σ : fnMem} {a0 a1 a2 a3 a4 a5 a6 a7 a8 a9 a10 a11 a12 a13 a14 a15 : Value} {b : Value} {z : Nat} (hd : fnD cc pc (.astore 16) 2 nx) (hi : Nat.ble 17 nL = true) (hp : fnC1 a15 = true) (k : V nx (a0 :: a1 :: a2 :: a3 :: a4 :: a5 :: a6 :: a7 :: a8 :: a9 :: a10 :: a11 :: a12 :: a13 :: a14 :: a15 :: .ref z :: t) st σ) : V pc (a0 :: a1 :: a2 :: a3 :: a4 :: a5 :: a6 :: a7 :: a8 :: a9 :: a10 :: a11 :: a12 :: a13 :: a14 :: a15 :: b :: t) (.ref z :: st) σ := fn_astoreG h hd (i := 16) hi (fun j w e q => by cases e; cases q; exact hp) k

theorem fn_iinc_16 {E : fnE} {own : String} {cc : ByteArray} {nL fr lo : Nat} {V : fnV} (h : fnCx E own cc nL fr lo V) {pc nx : Nat} {t st : List Value} {σ : fnMem} {a0 a1 a2 a3 a4 a5 a6 a7 a8 a9 a10 a11 a12 a13 a14 a15 : Value} {d z : Int} (hd : fnD cc pc (.iinc 16 d) 3 nx) (hi : Nat.ble 17 nL = true) (hp : fnC1 a15 = true) (k : V nx (a0 :: a1 :: a2 :: a3 :: a4 :: a5 :: a6 :: a7 :: a8 :: a9 :: a10 :: a11 :: a12 :: a13 :: a14 :: a15 :: zI (z + d) :: t) st σ) : V pc (a0 :: a1 :: a2 :: a3 :: a4 :: a5 :: a6 :: a7 :: a8 :: a9 :: a10 :: a11 :: a12 :: a13 :: a14 :: a15 :: zI z :: t) st σ := fn_iincG h hd (i := 16) rfl hi (fun j w e q => by cases e; cases q; exact hp) k

theorem fn_iload_17 {E : fnE} {own : String} {cc : ByteArray} {nL fr lo : Nat} {V : fnV} (h : fnCx E own cc nL fr lo V) {pc nx : Nat} {t st : List Value} {σ : fnMem} {a0 a1 a2 a3 a4 a5 a6 a7 a8 a9 a10 a11 a12 a13 a14 a15 a16 : Value} {z : Int} (hd : fnD cc pc (.iload 17) 2 nx) (k : V nx (a0 :: a1 :: a2 :: a3 :: a4 :: a5 :: a6 :: a7 :: a8 :: a9 :: a10 :: a11 :: a12 :: a13 :: a14 :: a15 :: a16 :: zI z :: t) (zI z :: st) σ) : V pc (a0 :: a1 :: a2 :: a3 :: a4 :: a5 :: a6 :: a7 :: a8 :: a9 :: a10 :: a11 :: a12 :: a13 :: a14 :: a15 :: a16 :: zI z :: t) st σ := fn_iloadG h hd (i := 17) rfl k

theorem fn_lload_17 {E : fnE} {own : String} {cc : ByteArray} {nL fr lo : Nat} {V : fnV} (h : fnCx E own cc nL fr lo V) {pc nx : Nat} {t st : List Value} {σ : fnMem} {a0 a1 a2 a3 a4 a5 a6 a7 a8 a9 a10 a11 a12 a13 a14 a15 a16 : Value} {z : Int} (hd : fnD cc pc (.lload 17) 2 nx) (k : V nx (a0 :: a1 :: a2 :: a3 :: a4 :: a5 :: a6 :: a7 :: a8 :: a9 :: a10 :: a11 :: a12 :: a13 :: a14 :: a15 :: a16 :: zL z :: t) (zL z :: st) σ) : V pc (a0 :: a1 :: a2 :: a3 :: a4 :: a5 :: a6 :: a7 :: a8 :: a9 :: a10 :: a11 :: a12 :: a13 :: a14 :: a15 :: a16 :: zL z :: t) st σ := fn_lloadG h hd (i := 17) rfl k

theorem fn_aload_17 {E : fnE} {own : String} {cc : ByteArray} {nL fr lo : Nat} {V : fnV} (h : fnCx E own cc nL fr lo V) {pc nx : Nat} {t st : List Value} {σ : fnMem} {a0 a1 a2 a3 a4 a5 a6 a7 a8 a9 a10 a11 a12 a13 a14 a15 a16 : Value} {z : Nat} (hd : fnD cc pc (.aload 17) 2 nx) (k : V nx (a0 :: a1 :: a2 :: a3 :: a4 :: a5 :: a6 :: a7 :: a8 :: a9 :: a10 :: a11 :: a12 :: a13 :: a14 :: a15 :: a16 :: .ref z :: t) (.ref z :: st) σ) : V pc (a0 :: a1 :: a2 :: a3 :: a4 :: a5 :: a6 :: a7 :: a8 :: a9 :: a10 :: a11 :: a12 :: a13 :: a14 :: a15 :: a16 :: .ref z :: t) st σ := fn_aloadG h hd (i := 17) rfl k

theorem fn_istore_17 {E : fnE} {own : String} {cc : ByteArray} {nL fr lo : Nat} {V : fnV} (h : fnCx E own cc nL fr lo V) {pc nx : Nat} {t st : List Value} {σ : fnMem} {a0 a1 a2 a3 a4 a5 a6 a7 a8 a9 a10 a11 a12 a13 a14 a15 a16 : Value} {b : Value} {z : Int} (hd : fnD cc pc (.istore 17) 2 nx) (hi : Nat.ble 18 nL = true) (hp : fnC1 a16 = true) (k : V nx (a0 :: a1 :: a2 :: a3 :: a4 :: a5 :: a6 :: a7 :: a8 :: a9 :: a10 :: a11 :: a12 :: a13 :: a14 :: a15 :: a16 :: zI z :: t) st σ) : V pc (a0 :: a1 :: a2 :: a3 :: a4 :: a5 :: a6 :: a7 :: a8 :: a9 :: a10 :: a11 :: a12 :: a13 :: a14 :: a15 :: a16 :: b :: t) (zI z :: st) σ := fn_istoreG h hd (i := 17) hi (fun j w e q => by cases e; cases q; exact hp) k

theorem fn_lstore_17 {E : fnE} {own : String} {cc : ByteArray} {nL fr lo : Nat} {V : fnV} (h : fnCx E own cc nL fr lo V) {pc nx : Nat} {t st : List Value} {σ : fnMem} {a0 a1 a2 a3 a4 a5 a6 a7 a8 a9 a10 a11 a12 a13 a14 a15 a16 : Value} {b b2 : Value} {z : Int} (hd : fnD cc pc (.lstore 17) 2 nx) (hi : Nat.ble 19 nL = true) (hp : fnC1 a16 = true) (k : V nx (a0 :: a1 :: a2 :: a3 :: a4 :: a5 :: a6 :: a7 :: a8 :: a9 :: a10 :: a11 :: a12 :: a13 :: a14 :: a15 :: a16 :: zL z :: .null :: t) st σ) : V pc (a0 :: a1 :: a2 :: a3 :: a4 :: a5 :: a6 :: a7 :: a8 :: a9 :: a10 :: a11 :: a12 :: a13 :: a14 :: a15 :: a16 :: b :: b2 :: t) (zL z :: st) σ := fn_lstoreG h hd (i := 17) hi (fun j w e q => by cases e; cases q; exact hp) k

theorem fn_astore_17 {E : fnE} {own : String} {cc : ByteArray} {nL fr lo : Nat} {V : fnV} (h : fnCx E own cc nL fr lo V) {pc nx : Nat} {t st : List Value} {σ : fnMem} {a0 a1 a2 a3 a4 a5 a6 a7 a8 a9 a10 a11 a12 a13 a14 a15 a16 : Value} {b : Value} {z : Nat} (hd : fnD cc pc (.astore 17) 2 nx) (hi : Nat.ble 18 nL = true) (hp : fnC1 a16 = true) (k : V nx (a0 :: a1 :: a2 :: a3 :: a4 :: a5 :: a6 :: a7 :: a8 :: a9 :: a10 :: a11 :: a12 :: a13 :: a14 :: a15 :: a16 :: .ref z :: t) st σ) : V pc (a0 :: a1 :: a2 :: a3 :: a4 :: a5 :: a6 :: a7 :: a8 :: a9 :: a10 :: a11 :: a12 :: a13 :: a14 :: a15 :: a16 :: b :: t) (.ref z :: st) σ := fn_astoreG h hd (i := 17) hi (fun j w e q => by cases e; cases q; exact hp) k

theorem fn_iinc_17 {E : fnE} {own : String} {cc : ByteArray} {nL fr lo : Nat} {V : fnV} (h : fnCx E own cc nL fr lo V) {pc nx : Nat} {t st : List Value} {σ : fnMem} {a0 a1 a2 a3 a4 a5 a6 a7 a8 a9 a10 a11 a12 a13 a14 a15 a16 : Value} {d z : Int} (hd : fnD cc pc (.iinc 17 d) 3 nx) (hi : Nat.ble 18 nL = true) (hp : fnC1 a16 = true) (k : V nx (a0 :: a1 :: a2 :: a3 :: a4 :: a5 :: a6 :: a7 :: a8 :: a9 :: a10 :: a11 :: a12 :: a13 :: a14 :: a15 :: a16 :: zI (z + d) :: t) st σ) : V pc (a0 :: a1 :: a2 :: a3 :: a4 :: a5 :: a6 :: a7 :: a8 :: a9 :: a10 :: a11 :: a12 :: a13 :: a14 :: a15 :: a16 :: zI z :: t) st σ := fn_iincG h hd (i := 17) rfl hi (fun j w e q => by cases e; cases q; exact hp) k

theorem fn_iload_18 {E : fnE} {own : String} {cc : ByteArray} {nL fr lo : Nat} {V : fnV} (h : fnCx E own cc nL fr lo V) {pc nx : Nat} {t st : List Value} {σ : fnMem} {a0 a1 a2 a3 a4 a5 a6 a7 a8 a9 a10 a11 a12 a13 a14 a15 a16 a17 : Value} {z : Int} (hd : fnD cc pc (.iload 18) 2 nx) (k : V nx (a0 :: a1 :: a2 :: a3 :: a4 :: a5 :: a6 :: a7 :: a8 :: a9 :: a10 :: a11 :: a12 :: a13 :: a14 :: a15 :: a16 :: a17 :: zI z :: t) (zI z :: st) σ) : V pc (a0 :: a1 :: a2 :: a3 :: a4 :: a5 :: a6 :: a7 :: a8 :: a9 :: a10 :: a11 :: a12 :: a13 :: a14 :: a15 :: a16 :: a17 :: zI z :: t) st σ := fn_iloadG h hd (i := 18) rfl k

theorem fn_lload_18 {E : fnE} {own : String} {cc : ByteArray} {nL fr lo : Nat} {V : fnV} (h : fnCx E own cc nL fr lo V) {pc nx : Nat} {t st : List Value} {σ : fnMem} {a0 a1 a2 a3 a4 a5 a6 a7 a8 a9 a10 a11 a12 a13 a14 a15 a16 a17 : Value} {z : Int} (hd : fnD cc pc (.lload 18) 2 nx) (k : V nx (a0 :: a1 :: a2 :: a3 :: a4 :: a5 :: a6 :: a7 :: a8 :: a9 :: a10 :: a11 :: a12 :: a13 :: a14 :: a15 :: a16 :: a17 :: zL z :: t) (zL z :: st) σ) : V pc (a0 :: a1 :: a2 :: a3 :: a4 :: a5 :: a6 :: a7 :: a8 :: a9 :: a10 :: a11 :: a12 :: a13 :: a14 :: a15 :: a16 :: a17 :: zL z :: t) st σ := fn_lloadG h hd (i := 18) rfl k

theorem fn_aload_18 {E : fnE} {own : String} {cc : ByteArray} {nL fr lo : Nat} {V : fnV} (h : fnCx E own cc nL fr lo V) {pc nx : Nat} {t st : List Value} {σ : fnMem} {a0 a1 a2 a3 a4 a5 a6 a7 a8 a9 a10 a11 a12 a13 a14 a15 a16 a17 : Value} {z : Nat} (hd : fnD cc pc (.aload 18) 2 nx) (k : V nx (a0 :: a1 :: a2 :: a3 :: a4 :: a5 :: a6 :: a7 :: a8 :: a9 :: a10 :: a11 :: a12 :: a13 :: a14 :: a15 :: a16 :: a17 :: .ref z :: t) (.ref z :: st) σ) : V pc (a0 :: a1 :: a2 :: a3 :: a4 :: a5 :: a6 :: a7 :: a8 :: a9 :: a10 :: a11 :: a12 :: a13 :: a14 :: a15 :: a16 :: a17 :: .ref z :: t) st σ := fn_aloadG h hd (i := 18) rfl k

theorem fn_istore_18 {E : fnE} {own : String} {cc : ByteArray} {nL fr lo : Nat} {V : fnV} (h : fnCx E own cc nL fr lo V) {pc nx : Nat} {t st : List Value} {σ : fnMem} {a0 a1 a2 a3 a4 a5 a6 a7 a8 a9 a10 a11 a12 a13 a14 a15 a16 a17 : Value} {b : Value} {z : Int} (hd : fnD cc pc (.istore 18) 2 nx) (hi : Nat.ble 19 nL = true) (hp : fnC1 a17 = true) (k : V nx (a0 :: a1 :: a2 :: a3 :: a4 :: a5 :: a6 :: a7 :: a8 :: a9 :: a10 :: a11 :: a12 :: a13 :: a14 :: a15 :: a16 :: a17 :: zI z :: t) st σ) : V pc (a0 :: a1 :: a2 :: a3 :: a4 :: a5 :: a6 :: a7 :: a8 :: a9 :: a10 :: a11 :: a12 :: a13 :: a14 :: a15 :: a16 :: a17 :: b :: t) (zI z :: st) σ := fn_istoreG h hd (i := 18) hi (fun j w e q => by cases e; cases q; exact hp) k

theorem fn_lstore_18 {E : fnE} {own : String} {cc : ByteArray} {nL fr lo : Nat} {V : fnV} (h : fnCx E own cc nL fr lo V) {pc nx : Nat} {t st : List Value} {σ : fnMem} {a0 a1 a2 a3 a4 a5 a6 a7 a8 a9 a10 a11 a12 a13 a14 a15 a16 a17 : Value} {b b2 : Value} {z : Int} (hd : fnD cc pc (.lstore 18) 2 nx) (hi : Nat.ble 20 nL = true) (hp : fnC1 a17 = true) (k : V nx (a0 :: a1 :: a2 :: a3 :: a4 :: a5 :: a6 :: a7 :: a8 :: a9 :: a10 :: a11 :: a12 :: a13 :: a14 :: a15 :: a16 :: a17 :: zL z :: .null :: t) st σ) : V pc (a0 :: a1 :: a2 :: a3 :: a4 :: a5 :: a6 :: a7 :: a8 :: a9 :: a10 :: a11 :: a12 :: a13 :: a14 :: a15 :: a16 :: a17 :: b :: b2 :: t) (zL z :: st) σ := fn_lstoreG h hd (i := 18) hi (fun j w e q => by cases e; cases q; exact hp) k

theorem fn_astore_18 {E : fnE} {own : String} {cc : ByteArray} {nL fr lo : Nat} {V : fnV} (h : fnCx E own cc nL fr lo V) {pc nx : Nat} {t st : List Value} {σ : fnMem} {a0 a1 a2 a3 a4 a5 a6 a7 a8 a9 a10 a11 a12 a13 a14 a15 a16 a17 : Value} {b : Value} {z : Nat} (hd : fnD cc pc (.astore 18) 2 nx) (hi : Nat.ble 19 nL = true) (hp : fnC1 a17 = true) (k : V nx (a0 :: a1 :: a2 :: a3 :: a4 :: a5 :: a6 :: a7 :: a8 :: a9 :: a10 :: a11 :: a12 :: a13 :: a14 :: a15 :: a16 :: a17 :: .ref z :: t) st σ) : V pc (a0 :: a1 :: a2 :: a3 :: a4 :: a5 :: a6 :: a7 :: a8 :: a9 :: a10 :: a11 :: a12 :: a13 :: a14 :: a15 :: a16 :: a17 :: b :: t) (.ref z :: st) σ := fn_astoreG h hd (i := 18) hi (fun j w e q => by cases e; cases q; exact hp) k

theorem fn_iinc_18 {E : fnE} {own : String} {cc : ByteArray} {nL fr lo : Nat} {V : fnV} (h : fnCx E own cc nL fr lo V) {pc nx : Nat} {t st : List Value} {σ : fnMem} {a0 a1 a2 a3 a4 a5 a6 a7 a8 a9 a10 a11 a12 a13 a14 a15 a16 a17 : Value} {d z : Int} (hd : fnD cc pc (.iinc 18 d) 3 nx) (hi : Nat.ble 19 nL = true) (hp : fnC1 a17 = true) (k : V nx (a0 :: a1 :: a2 :: a3 :: a4 :: a5 :: a6 :: a7 :: a8 :: a9 :: a10 :: a11 :: a12 :: a13 :: a14 :: a15 :: a16 :: a17 :: zI (z + d) :: t) st σ) : V pc (a0 :: a1 :: a2 :: a3 :: a4 :: a5 :: a6 :: a7 :: a8 :: a9 :: a10 :: a11 :: a12 :: a13 :: a14 :: a15 :: a16 :: a17 :: zI z :: t) st σ := fn_iincG h hd (i := 18) rfl hi (fun j w e q => by cases e; cases q; exact hp) k

theorem fn_iload_19 {E : fnE} {own : String} {cc : ByteArray} {nL fr lo : Nat} {V : fnV} (h : fnCx E own cc nL fr lo V) {pc nx : Nat} {t st : List Value} {σ : fnMem} {a0 a1 a2 a3 a4 a5 a6 a7 a8 a9 a10 a11 a12 a13 a14 a15 a16 a17 a18 : Value} {z : Int} (hd : fnD cc pc (.iload 19) 2 nx) (k : V nx (a0 :: a1 :: a2 :: a3 :: a4 :: a5 :: a6 :: a7 :: a8 :: a9 :: a10 :: a11 :: a12 :: a13 :: a14 :: a15 :: a16 :: a17 :: a18 :: zI z :: t) (zI z :: st) σ) : V pc (a0 :: a1 :: a2 :: a3 :: a4 :: a5 :: a6 :: a7 :: a8 :: a9 :: a10 :: a11 :: a12 :: a13 :: a14 :: a15 :: a16 :: a17 :: a18 :: zI z :: t) st σ := fn_iloadG h hd (i := 19) rfl k

theorem fn_lload_19 {E : fnE} {own : String} {cc : ByteArray} {nL fr lo : Nat} {V : fnV} (h : fnCx E own cc nL fr lo V) {pc nx : Nat} {t st : List Value} {σ : fnMem} {a0 a1 a2 a3 a4 a5 a6 a7 a8 a9 a10 a11 a12 a13 a14 a15 a16 a17 a18 : Value} {z : Int} (hd : fnD cc pc (.lload 19) 2 nx) (k : V nx (a0 :: a1 :: a2 :: a3 :: a4 :: a5 :: a6 :: a7 :: a8 :: a9 :: a10 :: a11 :: a12 :: a13 :: a14 :: a15 :: a16 :: a17 :: a18 :: zL z :: t) (zL z :: st) σ) : V pc (a0 :: a1 :: a2 :: a3 :: a4 :: a5 :: a6 :: a7 :: a8 :: a9 :: a10 :: a11 :: a12 :: a13 :: a14 :: a15 :: a16 :: a17 :: a18 :: zL z :: t) st σ := fn_lloadG h hd (i := 19) rfl k

theorem fn_aload_19 {E : fnE} {own : String} {cc : ByteArray} {nL fr lo : Nat} {V : fnV} (h : fnCx E own cc nL fr lo V) {pc nx : Nat} {t st : List Value} {σ : fnMem} {a0 a1 a2 a3 a4 a5 a6 a7 a8 a9 a10 a11 a12 a13 a14 a15 a16 a17 a18 : Value} {z : Nat} (hd : fnD cc pc (.aload 19) 2 nx) (k : V nx (a0 :: a1 :: a2 :: a3 :: a4 :: a5 :: a6 :: a7 :: a8 :: a9 :: a10 :: a11 :: a12 :: a13 :: a14 :: a15 :: a16 :: a17 :: a18 :: .ref z :: t) (.ref z :: st) σ) : V pc (a0 :: a1 :: a2 :: a3 :: a4 :: a5 :: a6 :: a7 :: a8 :: a9 :: a10 :: a11 :: a12 :: a13 :: a14 :: a15 :: a16 :: a17 :: a18 :: .ref z :: t) st σ := fn_aloadG h hd (i := 19) rfl k

theorem fn_istore_19 {E : fnE} {own : String} {cc : ByteArray} {nL fr lo : Nat} {V : fnV} (h : fnCx E own cc nL fr lo V) {pc nx : Nat} {t st : List Value} {σ : fnMem} {a0 a1 a2 a3 a4 a5 a6 a7 a8 a9 a10 a11 a12 a13 a14 a15 a16 a17 a18 : Value} {b : Value} {z : Int} (hd : fnD cc pc (.istore 19) 2 nx) (hi : Nat.ble 20 nL = true) (hp : fnC1 a18 = true) (k : V nx (a0 :: a1 :: a2 :: a3 :: a4 :: a5 :: a6 :: a7 :: a8 :: a9 :: a10 :: a11 :: a12 :: a13 :: a14 :: a15 :: a16 :: a17 :: a18 :: zI z :: t) st σ) : V pc (a0 :: a1 :: a2 :: a3 :: a4 :: a5 :: a6 :: a7 :: a8 :: a9 :: a10 :: a11 :: a12 :: a13 :: a14 :: a15 :: a16 :: a17 :: a18 :: b :: t) (zI z :: st) σ := fn_istoreG h hd (i := 19) hi (fun j w e q => by cases e; cases q; exact hp) k

theorem fn_lstore_19 {E : fnE} {own : String} {cc : ByteArray} {nL fr lo : Nat} {V : fnV} (h : fnCx E own cc nL fr lo V) {pc nx : Nat} {t st : List Value} {σ : fnMem} {a0 a1 a2 a3 a4 a5 a6 a7 a8 a9 a10 a11 a12 a13 a14 a15 a16 a17 a18 : Value} {b b2 : Value} {z : Int} (hd : fnD cc pc (.lstore 19) 2 nx) (hi : Nat.ble 21 nL = true) (hp : fnC1 a18 = true) (k : V nx (a0 :: a1 :: a2 :: a3 :: a4 :: a5 :: a6 :: a7 :: a8 :: a9 :: a10 :: a11 :: a12 :: a13 :: a14 :: a15 :: a16 :: a17 :: a18 :: zL z :: .null :: t) st σ) : V pc (a0 :: a1 :: a2 :: a3 :: a4 :: a5 :: a6 :: a7 :: a8 :: a9 :: a10 :: a11 :: a12 :: a13 :: a14 :: a15 :: a16 :: a17 :: a18 :: b :: b2 :: t) (zL z :: st) σ := fn_lstoreG h hd (i := 19) hi (fun j w e q => by cases e; cases q; exact hp) k

theorem fn_astore_19 {E : fnE} {own : String} {cc : ByteArray} {nL fr lo : Nat} {V : fnV} (h : fnCx E own cc nL fr lo V) {pc nx : Nat} {t st : List Value} {σ : fnMem} {a0 a1 a2 a3 a4 a5 a6 a7 a8 a9 a10 a11 a12 a13 a14 a15 a16 a17 a18 : Value} {b : Value} {z : Nat} (hd : fnD cc pc (.astore 19) 2 nx) (hi : Nat.ble 20 nL = true) (hp : fnC1 a18 = true) (k : V nx (a0 :: a1 :: a2 :: a3 :: a4 :: a5 :: a6 :: a7 :: a8 :: a9 :: a10 :: a11 :: a12 :: a13 :: a14 :: a15 :: a16 :: a17 :: a18 :: .ref z :: t) st σ) : V pc (a0 :: a1 :: a2 :: a3 :: a4 :: a5 :: a6 :: a7 :: a8 :: a9 :: a10 :: a11 :: a12 :: a13 :: a14 :: a15 :: a16 :: a17 :: a18 :: b :: t) (.ref z :: st) σ := fn_astoreG h hd (i := 19) hi (fun j w e q => by cases e; cases q; exact hp) k

theorem fn_iinc_19 {E : fnE} {own : String} {cc : ByteArray} {nL fr lo : Nat} {V : fnV} (h : fnCx E own cc nL fr lo V) {pc nx : Nat} {t st : List Value} {σ : fnMem} {a0 a1 a2 a3 a4 a5 a6 a7 a8 a9 a10 a11 a12 a13 a14 a15 a16 a17 a18 : Value} {d z : Int} (hd : fnD cc pc (.iinc 19 d) 3 nx) (hi : Nat.ble 20 nL = true) (hp : fnC1 a18 = true) (k : V nx (a0 :: a1 :: a2 :: a3 :: a4 :: a5 :: a6 :: a7 :: a8 :: a9 :: a10 :: a11 :: a12 :: a13 :: a14 :: a15 :: a16 :: a17 :: a18 :: zI (z + d) :: t) st σ) : V pc (a0 :: a1 :: a2 :: a3 :: a4 :: a5 :: a6 :: a7 :: a8 :: a9 :: a10 :: a11 :: a12 :: a13 :: a14 :: a15 :: a16 :: a17 :: a18 :: zI z :: t) st σ := fn_iincG h hd (i := 19) rfl hi (fun j w e q => by cases e; cases q; exact hp) k

theorem fn_iload_20 {E : fnE} {own : String} {cc : ByteArray} {nL fr lo : Nat} {V : fnV} (h : fnCx E own cc nL fr lo V) {pc nx : Nat} {t st : List Value} {σ : fnMem} {a0 a1 a2 a3 a4 a5 a6 a7 a8 a9 a10 a11 a12 a13 a14 a15 a16 a17 a18 a19 : Value} {z : Int} (hd : fnD cc pc (.iload 20) 2 nx) (k : V nx (a0 :: a1 :: a2 :: a3 :: a4 :: a5 :: a6 :: a7 :: a8 :: a9 :: a10 :: a11 :: a12 :: a13 :: a14 :: a15 :: a16 :: a17 :: a18 :: a19 :: zI z :: t) (zI z :: st) σ) : V pc (a0 :: a1 :: a2 :: a3 :: a4 :: a5 :: a6 :: a7 :: a8 :: a9 :: a10 :: a11 :: a12 :: a13 :: a14 :: a15 :: a16 :: a17 :: a18 :: a19 :: zI z :: t) st σ := fn_iloadG h hd (i := 20) rfl k

theorem fn_lload_20 {E : fnE} {own : String} {cc : ByteArray} {nL fr lo : Nat} {V : fnV} (h : fnCx E own cc nL fr lo V) {pc nx : Nat} {t st : List Value} {σ : fnMem} {a0 a1 a2 a3 a4 a5 a6 a7 a8 a9 a10 a11 a12 a13 a14 a15 a16 a17 a18 a19 : Value} {z : Int} (hd : fnD cc pc (.lload 20) 2 nx) (k : V nx (a0 :: a1 :: a2 :: a3 :: a4 :: a5 :: a6 :: a7 :: a8 :: a9 :: a10 :: a11 :: a12 :: a13 :: a14 :: a15 :: a16 :: a17 :: a18 :: a19 :: zL z :: t) (zL z :: st) σ) : V pc (a0 :: a1 :: a2 :: a3 :: a4 :: a5 :: a6 :: a7 :: a8 :: a9 :: a10 :: a11 :: a12 :: a13 :: a14 :: a15 :: a16 :: a17 :: a18 :: a19 :: zL z :: t) st σ := fn_lloadG h hd (i := 20) rfl k

theorem fn_aload_20 {E : fnE} {own : String} {cc : ByteArray} {nL fr lo : Nat} {V : fnV} (h : fnCx E own cc nL fr lo V) {pc nx : Nat} {t st : List Value} {σ : fnMem} {a0 a1 a2 a3 a4 a5 a6 a7 a8 a9 a10 a11 a12 a13 a14 a15 a16 a17 a18 a19 : Value} {z : Nat} (hd : fnD cc pc (.aload 20) 2 nx) (k : V nx (a0 :: a1 :: a2 :: a3 :: a4 :: a5 :: a6 :: a7 :: a8 :: a9 :: a10 :: a11 :: a12 :: a13 :: a14 :: a15 :: a16 :: a17 :: a18 :: a19 :: .ref z :: t) (.ref z :: st) σ) : V pc (a0 :: a1 :: a2 :: a3 :: a4 :: a5 :: a6 :: a7 :: a8 :: a9 :: a10 :: a11 :: a12 :: a13 :: a14 :: a15 :: a16 :: a17 :: a18 :: a19 :: .ref z :: t) st σ := fn_aloadG h hd (i := 20) rfl k

theorem fn_istore_20 {E : fnE} {own : String} {cc : ByteArray} {nL fr lo : Nat} {V : fnV} (h : fnCx E own cc nL fr lo V) {pc nx : Nat} {t st : List Value} {σ : fnMem} {a0 a1 a2 a3 a4 a5 a6 a7 a8 a9 a10 a11 a12 a13 a14 a15 a16 a17 a18 a19 : Value} {b : Value} {z : Int} (hd : fnD cc pc (.istore 20) 2 nx) (hi : Nat.ble 21 nL = true) (hp : fnC1 a19 = true) (k : V nx (a0 :: a1 :: a2 :: a3 :: a4 :: a5 :: a6 :: a7 :: a8 :: a9 :: a10 :: a11 :: a12 :: a13 :: a14 :: a15 :: a16 :: a17 :: a18 :: a19 :: zI z :: t) st σ) : V pc (a0 :: a1 :: a2 :: a3 :: a4 :: a5 :: a6 :: a7 :: a8 :: a9 :: a10 :: a11 :: a12 :: a13 :: a14 :: a15 :: a16 :: a17 :: a18 :: a19 :: b :: t) (zI z :: st) σ := fn_istoreG h hd (i := 20) hi (fun j w e q => by cases e; cases q; exact hp) k

theorem fn_lstore_20 {E : fnE} {own : String} {cc : ByteArray} {nL fr lo : Nat} {V : fnV} (h : fnCx E own cc nL fr lo V) {pc nx : Nat} {t st : List Value} {σ : fnMem} {a0 a1 a2 a3 a4 a5 a6 a7 a8 a9 a10 a11 a12 a13 a14 a15 a16 a17 a18 a19 : Value} {b b2 : Value} {z : Int} (hd : fnD cc pc (.lstore 20) 2 nx) (hi : Nat.ble 22 nL = true) (hp : fnC1 a19 = true) (k : V nx (a0 :: a1 :: a2 :: a3 :: a4 :: a5 :: a6 :: a7 :: a8 :: a9 :: a10 :: a11 :: a12 :: a13 :: a14 :: a15 :: a16 :: a17 :: a18 :: a19 :: zL z :: .null :: t) st σ) : V pc (a0 :: a1 :: a2 :: a3 :: a4 :: a5 :: a6 :: a7 :: a8 :: a9 :: a10 :: a11 :: a12 :: a13 :: a14 :: a15 :: a16 :: a17 :: a18 :: a19 :: b :: b2 :: t) (zL z :: st) σ := fn_lstoreG h hd (i := 20) hi (fun j w e q => by cases e; cases q; exact hp) k

theorem fn_astore_20 {E : fnE} {own : String} {cc : ByteArray} {nL fr lo : Nat} {V : fnV} (h : fnCx E own cc nL fr lo V) {pc nx : Nat} {t st : List Value} {σ : fnMem} {a0 a1 a2 a3 a4 a5 a6 a7 a8 a9 a10 a11 a12 a13 a14 a15 a16 a17 a18 a19 : Value} {b : Value} {z : Nat} (hd : fnD cc pc (.astore 20) 2 nx) (hi : Nat.ble 21 nL = true) (hp : fnC1 a19 = true) (k : V nx (a0 :: a1 :: a2 :: a3 :: a4 :: a5 :: a6 :: a7 :: a8 :: a9 :: a10 :: a11 :: a12 :: a13 :: a14 :: a15 :: a16 :: a17 :: a18 :: a19 :: .ref z :: t) st σ) : V pc (a0 :: a1 :: a2 :: a3 :: a4 :: a5 :: a6 :: a7 :: a8 :: a9 :: a10 :: a11 :: a12 :: a13 :: a14 :: a15 :: a16 :: a17 :: a18 :: a19 :: b :: t) (.ref z :: st) σ := fn_astoreG h hd (i := 20) hi (fun j w e q => by cases e; cases q; exact hp) k

theorem fn_iinc_20 {E : fnE} {own : String} {cc : ByteArray} {nL fr lo : Nat} {V : fnV} (h : fnCx E own cc nL fr lo V) {pc nx : Nat} {t st : List Value} {σ : fnMem} {a0 a1 a2 a3 a4 a5 a6 a7 a8 a9 a10 a11 a12 a13 a14 a15 a16 a17 a18 a19 : Value} {d z : Int} (hd : fnD cc pc (.iinc 20 d) 3 nx) (hi : Nat.ble 21 nL = true) (hp : fnC1 a19 = true) (k : V nx (a0 :: a1 :: a2 :: a3 :: a4 :: a5 :: a6 :: a7 :: a8 :: a9 :: a10 :: a11 :: a12 :: a13 :: a14 :: a15 :: a16 :: a17 :: a18 :: a19 :: zI (z + d) :: t) st σ) : V pc (a0 :: a1 :: a2 :: a3 :: a4 :: a5 :: a6 :: a7 :: a8 :: a9 :: a10 :: a11 :: a12 :: a13 :: a14 :: a15 :: a16 :: a17 :: a18 :: a19 :: zI z :: t) st σ := fn_iincG h hd (i := 20) rfl hi (fun j w e q => by cases e; cases q; exact hp) k

theorem fn_iload_21 {E : fnE} {own : String} {cc : ByteArray} {nL fr lo : Nat} {V : fnV} (h : fnCx E own cc nL fr lo V) {pc nx : Nat} {t st : List Value} {σ : fnMem} {a0 a1 a2 a3 a4 a5 a6 a7 a8 a9 a10 a11 a12 a13 a14 a15 a16 a17 a18 a19 a20 : Value} {z : Int} (hd : fnD cc pc (.iload 21) 2 nx) (k : V nx (a0 :: a1 :: a2 :: a3 :: a4 :: a5 :: a6 :: a7 :: a8 :: a9 :: a10 :: a11 :: a12 :: a13 :: a14 :: a15 :: a16 :: a17 :: a18 :: a19 :: a20 :: zI z :: t) (zI z :: st) σ) : V pc (a0 :: a1 :: a2 :: a3 :: a4 :: a5 :: a6 :: a7 :: a8 :: a9 :: a10 :: a11 :: a12 :: a13 :: a14 :: a15 :: a16 :: a17 :: a18 :: a19 :: a20 :: zI z :: t) st σ := fn_iloadG h hd (i := 21) rfl k

theorem fn_lload_21 {E : fnE} {own : String} {cc : ByteArray} {nL fr lo : Nat} {V : fnV} (h : fnCx E own cc nL fr lo V) {pc nx : Nat} {t st : List Value} {σ : fnMem} {a0 a1 a2 a3 a4 a5 a6 a7 a8 a9 a10 a11 a12 a13 a14 a15 a16 a17 a18 a19 a20 : Value} {z : Int} (hd : fnD cc pc (.lload 21) 2 nx) (k : V nx (a0 :: a1 :: a2 :: a3 :: a4 :: a5 :: a6 :: a7 :: a8 :: a9 :: a10 :: a11 :: a12 :: a13 :: a14 :: a15 :: a16 :: a17 :: a18 :: a19 :: a20 :: zL z :: t) (zL z :: st) σ) : V pc (a0 :: a1 :: a2 :: a3 :: a4 :: a5 :: a6 :: a7 :: a8 :: a9 :: a10 :: a11 :: a12 :: a13 :: a14 :: a15 :: a16 :: a17 :: a18 :: a19 :: a20 :: zL z :: t) st σ := fn_lloadG h hd (i := 21) rfl k

theorem fn_aload_21 {E : fnE} {own : String} {cc : ByteArray} {nL fr lo : Nat} {V : fnV} (h : fnCx E own cc nL fr lo V) {pc nx : Nat} {t st : List Value} {σ : fnMem} {a0 a1 a2 a3 a4 a5 a6 a7 a8 a9 a10 a11 a12 a13 a14 a15 a16 a17 a18 a19 a20 : Value} {z : Nat} (hd : fnD cc pc (.aload 21) 2 nx) (k : V nx (a0 :: a1 :: a2 :: a3 :: a4 :: a5 :: a6 :: a7 :: a8 :: a9 :: a10 :: a11 :: a12 :: a13 :: a14 :: a15 :: a16 :: a17 :: a18 :: a19 :: a20 :: .ref z :: t) (.ref z :: st) σ) : V pc (a0 :: a1 :: a2 :: a3 :: a4 :: a5 :: a6 :: a7 :: a8 :: a9 :: a10 :: a11 :: a12 :: a13 :: a14 :: a15 :: a16 :: a17 :: a18 :: a19 :: a20 :: .ref z :: t) st σ := fn_aloadG h hd (i := 21) rfl k

theorem fn_istore_21 {E : fnE} {own : String} {cc : ByteArray} {nL fr lo : Nat} {V : fnV} (h : fnCx E own cc nL fr lo V) {pc nx : Nat} {t st : List Value} {σ : fnMem} {a0 a1 a2 a3 a4 a5 a6 a7 a8 a9 a10 a11 a12 a13 a14 a15 a16 a17 a18 a19 a20 : Value} {b : Value} {z : Int} (hd : fnD cc pc (.istore 21) 2 nx) (hi : Nat.ble 22 nL = true) (hp : fnC1 a20 = true) (k : V nx (a0 :: a1 :: a2 :: a3 :: a4 :: a5 :: a6 :: a7 :: a8 :: a9 :: a10 :: a11 :: a12 :: a13 :: a14 :: a15 :: a16 :: a17 :: a18 :: a19 :: a20 :: zI z :: t) st σ) : V pc (a0 :: a1 :: a2 :: a3 :: a4 :: a5 :: a6 :: a7 :: a8 :: a9 :: a10 :: a11 :: a12 :: a13 :: a14 :: a15 :: a16 :: a17 :: a18 :: a19 :: a20 :: b :: t) (zI z :: st) σ := fn_istoreG h hd (i := 21) hi (fun j w e q => by cases e; cases q; exact hp) k

theorem fn_lstore_21 {E : fnE} {own : String} {cc : ByteArray} {nL fr lo : Nat} {V : fnV} (h : fnCx E own cc nL fr lo V) {pc nx : Nat} {t st : List Value} {σ : fnMem} {a0 a1 a2 a3 a4 a5 a6 a7 a8 a9 a10 a11 a12 a13 a14 a15 a16 a17 a18 a19 a20 : Value} {b b2 : Value} {z : Int} (hd : fnD cc pc (.lstore 21) 2 nx) (hi : Nat.ble 23 nL = true) (hp : fnC1 a20 = true) (k : V nx (a0 :: a1 :: a2 :: a3 :: a4 :: a5 :: a6 :: a7 :: a8 :: a9 :: a10 :: a11 :: a12 :: a13 :: a14 :: a15 :: a16 :: a17 :: a18 :: a19 :: a20 :: zL z :: .null :: t) st σ) : V pc (a0 :: a1 :: a2 :: a3 :: a4 :: a5 :: a6 :: a7 :: a8 :: a9 :: a10 :: a11 :: a12 :: a13 :: a14 :: a15 :: a16 :: a17 :: a18 :: a19 :: a20 :: b :: b2 :: t) (zL z :: st) σ := fn_lstoreG h hd (i := 21) hi (fun j w e q => by cases e; cases q; exact hp) k

theorem fn_astore_21 {E : fnE} {own : String} {cc : ByteArray} {nL fr lo : Nat} {V : fnV} (h : fnCx E own cc nL fr lo V) {pc nx : Nat} {t st : List Value} {σ : fnMem} {a0 a1 a2 a3 a4 a5 a6 a7 a8 a9 a10 a11 a12 a13 a14 a15 a16 a17 a18 a19 a20 : Value} {b : Value} {z : Nat} (hd : fnD cc pc (.astore 21) 2 nx) (hi : Nat.ble 22 nL = true) (hp : fnC1 a20 = true) (k : V nx (a0 :: a1 :: a2 :: a3 :: a4 :: a5 :: a6 :: a7 :: a8 :: a9 :: a10 :: a11 :: a12 :: a13 :: a14 :: a15 :: a16 :: a17 :: a18 :: a19 :: a20 :: .ref z :: t) st σ) : V pc (a0 :: a1 :: a2 :: a3 :: a4 :: a5 :: a6 :: a7 :: a8 :: a9 :: a10 :: a11 :: a12 :: a13 :: a14 :: a15 :: a16 :: a17 :: a18 :: a19 :: a20 :: b :: t) (.ref z :: st) σ := fn_astoreG h hd (i := 21) hi (fun j w e q => by cases e; cases q; exact hp) k

theorem fn_iinc_21 {E : fnE} {own : String} {cc : ByteArray} {nL fr lo : Nat} {V : fnV} (h : fnCx E own cc nL fr lo V) {pc nx : Nat} {t st : List Value} {σ : fnMem} {a0 a1 a2 a3 a4 a5 a6 a7 a8 a9 a10 a11 a12 a13 a14 a15 a16 a17 a18 a19 a20 : Value} {d z : Int} (hd : fnD cc pc (.iinc 21 d) 3 nx) (hi : Nat.ble 22 nL = true) (hp : fnC1 a20 = true) (k : V nx (a0 :: a1 :: a2 :: a3 :: a4 :: a5 :: a6 :: a7 :: a8 :: a9 :: a10 :: a11 :: a12 :: a13 :: a14 :: a15 :: a16 :: a17 :: a18 :: a19 :: a20 :: zI (z + d) :: t) st σ) : V pc (a0 :: a1 :: a2 :: a3 :: a4 :: a5 :: a6 :: a7 :: a8 :: a9 :: a10 :: a11 :: a12 :: a13 :: a14 :: a15 :: a16 :: a17 :: a18 :: a19 :: a20 :: zI z :: t) st σ := fn_iincG h hd (i := 21) rfl hi (fun j w e q => by cases e; cases q; exact hp) k

theorem fn_iload_22 {E : fnE} {own : String} {cc : ByteArray} {nL fr lo : Nat} {V : fnV} (h : fnCx E own cc nL fr lo V) {pc nx : Nat} {t st : List Value} {σ : fnMem} {a0 a1 a2 a3 a4 a5 a6 a7 a8 a9 a10 a11 a12 a13 a14 a15 a16 a17 a18 a19 a20 a21 : Value} {z : Int} (hd : fnD cc pc (.iload 22) 2 nx) (k : V nx (a0 :: a1 :: a2 :: a3 :: a4 :: a5 :: a6 :: a7 :: a8 :: a9 :: a10 :: a11 :: a12 :: a13 :: a14 :: a15 :: a16 :: a17 :: a18 :: a19 :: a20 :: a21 :: zI z :: t) (zI z :: st) σ) : V pc (a0 :: a1 :: a2 :: a3 :: a4 :: a5 :: a6 :: a7 :: a8 :: a9 :: a10 :: a11 :: a12 :: a13 :: a14 :: a15 :: a16 :: a17 :: a18 :: a19 :: a20 :: a21 :: zI z :: t) st σ := fn_iloadG h hd (i := 22) rfl k

theorem fn_lload_22 {E : fnE} {own : String} {cc : ByteArray} {nL fr lo : Nat} {V : fnV} (h : fnCx E own cc nL fr lo V) {pc nx : Nat} {t st : List Value} {σ : fnMem} {a0 a1 a2 a3 a4 a5 a6 a7 a8 a9 a10 a11 a12 a13 a14 a15 a16 a17 a18 a19 a20 a21 : Value} {z : Int} (hd : fnD cc pc (.lload 22) 2 nx) (k : V nx (a0 :: a1 :: a2 :: a3 :: a4 :: a5 :: a6 :: a7 :: a8 :: a9 :: a10 :: a11 :: a12 :: a13 :: a14 :: a15 :: a16 :: a17 :: a18 :: a19 :: a20 :: a21 :: zL z :: t) (zL z :: st) σ) : V pc (a0 :: a1 :: a2 :: a3 :: a4 :: a5 :: a6 :: a7 :: a8 :: a9 :: a10 :: a11 :: a12 :: a13 :: a14 :: a15 :: a16 :: a17 :: a18 :: a19 :: a20 :: a21 :: zL z :: t) st σ := fn_lloadG h hd (i := 22) rfl k

theorem fn_aload_22 {E : fnE} {own : String} {cc : ByteArray} {nL fr lo : Nat} {V : fnV} (h : fnCx E own cc nL fr lo V) {pc nx : Nat} {t st : List Value} {σ : fnMem} {a0 a1 a2 a3 a4 a5 a6 a7 a8 a9 a10 a11 a12 a13 a14 a15 a16 a17 a18 a19 a20 a21 : Value} {z : Nat} (hd : fnD cc pc (.aload 22) 2 nx) (k : V nx (a0 :: a1 :: a2 :: a3 :: a4 :: a5 :: a6 :: a7 :: a8 :: a9 :: a10 :: a11 :: a12 :: a13 :: a14 :: a15 :: a16 :: a17 :: a18 :: a19 :: a20 :: a21 :: .ref z :: t) (.ref z :: st) σ) : V pc (a0 :: a1 :: a2 :: a3 :: a4 :: a5 :: a6 :: a7 :: a8 :: a9 :: a10 :: a11 :: a12 :: a13 :: a14 :: a15 :: a16 :: a17 :: a18 :: a19 :: a20 :: a21 :: .ref z :: t) st σ := fn_aloadG h hd (i := 22) rfl k

theorem fn_istore_22 {E : fnE} {own : String} {cc : ByteArray} {nL fr lo : Nat} {V : fnV} (h : fnCx E own cc nL fr lo V) {pc nx : Nat} {t st : List Value} {σ : fnMem} {a0 a1 a2 a3 a4 a5 a6 a7 a8 a9 a10 a11 a12 a13 a14 a15 a16 a17 a18 a19 a20 a21 : Value} {b : Value} {z : Int} (hd : fnD cc pc (.istore 22) 2 nx) (hi : Nat.ble 23 nL = true) (hp : fnC1 a21 = true) (k : V nx (a0 :: a1 :: a2 :: a3 :: a4 :: a5 :: a6 :: a7 :: a8 :: a9 :: a10 :: a11 :: a12 :: a13 :: a14 :: a15 :: a16 :: a17 :: a18 :: a19 :: a20 :: a21 :: zI z :: t) st σ) : V pc (a0 :: a1 :: a2 :: a3 :: a4 :: a5 :: a6 :: a7 :: a8 :: a9 :: a10 :: a11 :: a12 :: a13 :: a14 :: a15 :: a16 :: a17 :: a18 :: a19 :: a20 :: a21 :: b :: t) (zI z :: st) σ := fn_istoreG h hd (i := 22) hi (fun j w e q => by cases e; cases q; exact hp) k

theorem fn_lstore_22 {E : fnE} {own : String} {cc : ByteArray} {nL fr lo : Nat} {V : fnV} (h : fnCx E own cc nL fr lo V) {pc nx : Nat} {t st : List Value} {σ : fnMem} {a0 a1 a2 a3 a4 a5 a6 a7 a8 a9 a10 a11 a12 a13 a14 a15 a16 a17 a18 a19 a20 a21 : Value} {b b2 : Value} {z : Int} (hd : fnD cc pc (.lstore 22) 2 nx) (hi : Nat.ble 24 nL = true) (hp : fnC1 a21 = true) (k : V nx (a0 :: a1 :: a2 :: a3 :: a4 :: a5 :: a6 :: a7 :: a8 :: a9 :: a10 :: a11 :: a12 :: a13 :: a14 :: a15 :: a16 :: a17 :: a18 :: a19 :: a20 :: a21 :: zL z :: .null :: t) st σ) : V pc (a0 :: a1 :: a2 :: a3 :: a4 :: a5 :: a6 :: a7 :: a8 :: a9 :: a10 :: a11 :: a12 :: a13 :: a14 :: a15 :: a16 :: a17 :: a18 :: a19 :: a20 :: a21 :: b :: b2 :: t) (zL z :: st) σ := fn_lstoreG h hd (i := 22) hi (fun j w e q => by cases e; cases q; exact hp) k

theorem fn_astore_22 {E : fnE} {own : String} {cc : ByteArray} {nL fr lo : Nat} {V : fnV} (h : fnCx E own cc nL fr lo V) {pc nx : Nat} {t st : List Value} {σ : fnMem} {a0 a1 a2 a3 a4 a5 a6 a7 a8 a9 a10 a11 a12 a13 a14 a15 a16 a17 a18 a19 a20 a21 : Value} {b : Value} {z : Nat} (hd : fnD cc pc (.astore 22) 2 nx) (hi : Nat.ble 23 nL = true) (hp : fnC1 a21 = true) (k : V nx (a0 :: a1 :: a2 :: a3 :: a4 :: a5 :: a6 :: a7 :: a8 :: a9 :: a10 :: a11 :: a12 :: a13 :: a14 :: a15 :: a16 :: a17 :: a18 :: a19 :: a20 :: a21 :: .ref z :: t) st σ) : V pc (a0 :: a1 :: a2 :: a3 :: a4 :: a5 :: a6 :: a7 :: a8 :: a9 :: a10 :: a11 :: a12 :: a13 :: a14 :: a15 :: a16 :: a17 :: a18 :: a19 :: a20 :: a21 :: b :: t) (.ref z :: st) σ := fn_astoreG h hd (i := 22) hi (fun j w e q => by cases e; cases q; exact hp) k

theorem fn_iinc_22 {E : fnE} {own : String} {cc : ByteArray} {nL fr lo : Nat} {V : fnV} (h : fnCx E own cc nL fr lo V) {pc nx : Nat} {t st : List Value} {σ : fnMem} {a0 a1 a2 a3 a4 a5 a6 a7 a8 a9 a10 a11 a12 a13 a14 a15 a16 a17 a18 a19 a20 a21 : Value} {d z : Int} (hd : fnD cc pc (.iinc 22 d) 3 nx) (hi : Nat.ble 23 nL = true) (hp : fnC1 a21 = true) (k : V nx (a0 :: a1 :: a2 :: a3 :: a4 :: a5 :: a6 :: a7 :: a8 :: a9 :: a10 :: a11 :: a12 :: a13 :: a14 :: a15 :: a16 :: a17 :: a18 :: a19 :: a20 :: a21 :: zI (z + d) :: t) st σ) : V pc (a0 :: a1 :: a2 :: a3 :: a4 :: a5 :: a6 :: a7 :: a8 :: a9 :: a10 :: a11 :: a12 :: a13 :: a14 :: a15 :: a16 :: a17 :: a18 :: a19 :: a20 :: a21 :: zI z :: t) st σ := fn_iincG h hd (i := 22) rfl hi (fun j w e q => by cases e; cases q; exact hp) k

theorem fn_iload_23 {E : fnE} {own : String} {cc : ByteArray} {nL fr lo : Nat} {V : fnV} (h : fnCx E own cc nL fr lo V) {pc nx : Nat} {t st : List Value} {σ : fnMem} {a0 a1 a2 a3 a4 a5 a6 a7 a8 a9 a10 a11 a12 a13 a14 a15 a16 a17 a18 a19 a20 a21 a22 : Value} {z : Int} (hd : fnD cc pc (.iload 23) 2 nx) (k : V nx (a0 :: a1 :: a2 :: a3 :: a4 :: a5 :: a6 :: a7 :: a8 :: a9 :: a10 :: a11 :: a12 :: a13 :: a14 :: a15 :: a16 :: a17 :: a18 :: a19 :: a20 :: a21 :: a22 :: zI z :: t) (zI z :: st) σ) : V pc (a0 :: a1 :: a2 :: a3 :: a4 :: a5 :: a6 :: a7 :: a8 :: a9 :: a10 :: a11 :: a12 :: a13 :: a14 :: a15 :: a16 :: a17 :: a18 :: a19 :: a20 :: a21 :: a22 :: zI z :: t) st σ := fn_iloadG h hd (i := 23) rfl k

theorem fn_lload_23 {E : fnE} {own : String} {cc : ByteArray} {nL fr lo : Nat} {V : fnV} (h : fnCx E own cc nL fr lo V) {pc nx : Nat} {t st : List Value} {σ : fnMem} {a0 a1 a2 a3 a4 a5 a6 a7 a8 a9 a10 a11 a12 a13 a14 a15 a16 a17 a18 a19 a20 a21 a22 : Value} {z : Int} (hd : fnD cc pc (.lload 23) 2 nx) (k : V nx (a0 :: a1 :: a2 :: a3 :: a4 :: a5 :: a6 :: a7 :: a8 :: a9 :: a10 :: a11 :: a12 :: a13 :: a14 :: a15 :: a16 :: a17 :: a18 :: a19 :: a20 :: a21 :: a22 :: zL z :: t) (zL z :: st) σ) : V pc (a0 :: a1 :: a2 :: a3 :: a4 :: a5 :: a6 :: a7 :: a8 :: a9 :: a10 :: a11 :: a12 :: a13 :: a14 :: a15 :: a16 :: a17 :: a18 :: a19 :: a20 :: a21 :: a22 :: zL z :: t) st σ := fn_lloadG h hd (i := 23) rfl k

theorem fn_aload_23 {E : fnE} {own : String} {cc : ByteArray} {nL fr lo : Nat} {V : fnV} (h : fnCx E own cc nL fr lo V) {pc nx : Nat} {t st : List Value} {σ : fnMem} {a0 a1 a2 a3 a4 a5 a6 a7 a8 a9 a10 a11 a12 a13 a14 a15 a16 a17 a18 a19 a20 a21 a22 : Value} {z : Nat} (hd : fnD cc pc (.aload 23) 2 nx) (k : V nx (a0 :: a1 :: a2 :: a3 :: a4 :: a5 :: a6 :: a7 :: a8 :: a9 :: a10 :: a11 :: a12 :: a13 :: a14 :: a15 :: a16 :: a17 :: a18 :: a19 :: a20 :: a21 :: a22 :: .ref z :: t) (.ref z :: st) σ) : V pc (a0 :: a1 :: a2 :: a3 :: a4 :: a5 :: a6 :: a7 :: a8 :: a9 :: a10 :: a11 :: a12 :: a13 :: a14 :: a15 :: a16 :: a17 :: a18 :: a19 :: a20 :: a21 :: a22 :: .ref z :: t) st σ := fn_aloadG h hd (i := 23) rfl k

theorem fn_istore_23 {E : fnE} {own : String} {cc : ByteArray} {nL fr lo : Nat} {V : fnV} (h : fnCx E own cc nL fr lo V) {pc nx : Nat} {t st : List Value} {σ : fnMem} {a0 a1 a2 a3 a4 a5 a6 a7 a8 a9 a10 a11 a12 a13 a14 a15 a16 a17 a18 a19 a20 a21 a22 : Value} {b : Value} {z : Int} (hd : fnD cc pc (.istore 23) 2 nx) (hi : Nat.ble 24 nL = true) (hp : fnC1 a22 = true) (k : V nx (a0 :: a1 :: a2 :: a3 :: a4 :: a5 :: a6 :: a7 :: a8 :: a9 :: a10 :: a11 :: a12 :: a13 :: a14 :: a15 :: a16 :: a17 :: a18 :: a19 :: a20 :: a21 :: a22 :: zI z :: t) st σ) : V pc (a0 :: a1 :: a2 :: a3 :: a4 :: a5 :: a6 :: a7 :: a8 :: a9 :: a10 :: a11 :: a12 :: a13 :: a14 :: a15 :: a16 :: a17 :: a18 :: a19 :: a20 :: a21 :: a22 :: b :: t) (zI z :: st) σ := fn_istoreG h hd (i := 23) hi (fun j w e q => by cases e; cases q; exact hp) k

theorem fn_lstore_23 {E : fnE} {own : String} {cc : ByteArray} {nL fr lo : Nat} {V : fnV} (h : fnCx E own cc nL fr lo V) {pc nx : Nat} {t st : List Value} {σ : fnMem} {a0 a1 a2 a3 a4 a5 a6 a7 a8 a9 a10 a11 a12 a13 a14 a15 a16 a17 a18 a19 a20 a21 a22 : Value} {b b2 : Value} {z : Int} (hd : fnD cc pc (.lstore 23) 2 nx) (hi : Nat.ble 25 nL = true) (hp : fnC1 a22 = true) (k : V nx (a0 :: a1 :: a2 :: a3 :: a4 :: a5 :: a6 :: a7 :: a8 :: a9 :: a10 :: a11 :: a12 :: a13 :: a14 :: a15 :: a16 :: a17 :: a18 :: a19 :: a20 :: a21 :: a22 :: zL z :: .null :: t) st σ) : V pc (a0 :: a1 :: a2 :: a3 :: a4 :: a5 :: a6 :: a7 :: a8 :: a9 :: a10 :: a11 :: a12 :: a13 :: a14 :: a15 :: a16 :: a17 :: a18 :: a19 :: a20 :: a21 :: a22 :: b :: b2 :: t) (zL z :: st) σ := fn_lstoreG h hd (i := 23) hi (fun j w e q => by cases e; cases q; exact hp) k

theorem fn_astore_23 {E : fnE} {own : String} {cc : ByteArray} {nL fr lo : Nat} {V : fnV} (h : fnCx E own cc nL fr lo V) {pc nx : Nat} {t st : List Value} {σ : fnMem} {a0 a1 a2 a3 a4 a5 a6 a7 a8 a9 a10 a11 a12 a13 a14 a15 a16 a17 a18 a19 a20 a21 a22 : Value} {b : Value} {z : Nat} (hd : fnD cc pc (.astore 23) 2 nx) (hi : Nat.ble 24 nL = true) (hp : fnC1 a22 = true) (k : V nx (a0 :: a1 :: a2 :: a3 :: a4 :: a5 :: a6 :: a7 :: a8 :: a9 :: a10 :: a11 :: a12 :: a13 :: a14 :: a15 :: a16 :: a17 :: a18 :: a19 :: a20 :: a21 :: a22 :: .ref z :: t) st σ) : V pc (a0 :: a1 :: a2 :: a3 :: a4 :: a5 :: a6 :: a7 :: a8 :: a9 :: a10 :: a11 :: a12 :: a13 :: a14 :: a15 :: a16 :: a17 :: a18 :: a19 :: a20 :: a21 :: a22 :: b :: t) (.ref z :: st) σ := fn_astoreG h hd (i := 23) hi (fun j w e q => by cases e; cases q; exact hp) k

theorem fn_iinc_23 {E : fnE} {own : String} {cc : ByteArray} {nL fr lo : Nat} {V : fnV} (h : fnCx E own cc nL fr lo V) {pc nx : Nat} {t st : List Value} {σ : fnMem} {a0 a1 a2 a3 a4 a5 a6 a7 a8 a9 a10 a11 a12 a13 a14 a15 a16 a17 a18 a19 a20 a21 a22 : Value} {d z : Int} (hd : fnD cc pc (.iinc 23 d) 3 nx) (hi : Nat.ble 24 nL = true) (hp : fnC1 a22 = true) (k : V nx (a0 :: a1 :: a2 :: a3 :: a4 :: a5 :: a6 :: a7 :: a8 :: a9 :: a10 :: a11 :: a12 :: a13 :: a14 :: a15 :: a16 :: a17 :: a18 :: a19 :: a20 :: a21 :: a22 :: zI (z + d) :: t) st σ) : V pc (a0 :: a1 :: a2 :: a3 :: a4 :: a5 :: a6 :: a7 :: a8 :: a9 :: a10 :: a11 :: a12 :: a13 :: a14 :: a15 :: a16 :: a17 :: a18 :: a19 :: a20 :: a21 :: a22 :: zI z :: t) st σ := fn_iincG h hd (i := 23) rfl hi (fun j w e q => by cases e; cases q; exact hp) k

theorem fn_iload_24 {E : fnE} {own : String} {cc : ByteArray} {nL fr lo : Nat} {V : fnV} (h : fnCx E own cc nL fr lo V) {pc nx : Nat} {t st : List Value} {σ : fnMem} {a0 a1 a2 a3 a4 a5 a6 a7 a8 a9 a10 a11 a12 a13 a14 a15 a16 a17 a18 a19 a20 a21 a22 a23 : Value} {z : Int} (hd : fnD cc pc (.iload 24) 2 nx) (k : V nx (a0 :: a1 :: a2 :: a3 :: a4 :: a5 :: a6 :: a7 :: a8 :: a9 :: a10 :: a11 :: a12 :: a13 :: a14 :: a15 :: a16 :: a17 :: a18 :: a19 :: a20 :: a21 :: a22 :: a23 :: zI z :: t) (zI z :: st) σ) : V pc (a0 :: a1 :: a2 :: a3 :: a4 :: a5 :: a6 :: a7 :: a8 :: a9 :: a10 :: a11 :: a12 :: a13 :: a14 :: a15 :: a16 :: a17 :: a18 :: a19 :: a20 :: a21 :: a22 :: a23 :: zI z :: t) st σ := fn_iloadG h hd (i := 24) rfl k

theorem fn_lload_24 {E : fnE} {own : String} {cc : ByteArray} {nL fr lo : Nat} {V : fnV} (h : fnCx E own cc nL fr lo V) {pc nx : Nat} {t st : List Value} {σ : fnMem} {a0 a1 a2 a3 a4 a5 a6 a7 a8 a9 a10 a11 a12 a13 a14 a15 a16 a17 a18 a19 a20 a21 a22 a23 : Value} {z : Int} (hd : fnD cc pc (.lload 24) 2 nx) (k : V nx (a0 :: a1 :: a2 :: a3 :: a4 :: a5 :: a6 :: a7 :: a8 :: a9 :: a10 :: a11 :: a12 :: a13 :: a14 :: a15 :: a16 :: a17 :: a18 :: a19 :: a20 :: a21 :: a22 :: a23 :: zL z :: t) (zL z :: st) σ) : V pc (a0 :: a1 :: a2 :: a3 :: a4 :: a5 :: a6 :: a7 :: a8 :: a9 :: a10 :: a11 :: a12 :: a13 :: a14 :: a15 :: a16 :: a17 :: a18 :: a19 :: a20 :: a21 :: a22 :: a23 :: zL z :: t) st σ := fn_lloadG h hd (i := 24) rfl k

theorem fn_aload_24 {E : fnE} {own : String} {cc : ByteArray} {nL fr lo : Nat} {V : fnV} (h : fnCx E own cc nL fr lo V) {pc nx : Nat} {t st : List Value} {σ : fnMem} {a0 a1 a2 a3 a4 a5 a6 a7 a8 a9 a10 a11 a12 a13 a14 a15 a16 a17 a18 a19 a20 a21 a22 a23 : Value} {z : Nat} (hd : fnD cc pc (.aload 24) 2 nx) (k : V nx (a0 :: a1 :: a2 :: a3 :: a4 :: a5 :: a6 :: a7 :: a8 :: a9 :: a10 :: a11 :: a12 :: a13 :: a14 :: a15 :: a16 :: a17 :: a18 :: a19 :: a20 :: a21 :: a22 :: a23 :: .ref z :: t) (.ref z :: st) σ) : V pc (a0 :: a1 :: a2 :: a3 :: a4 :: a5 :: a6 :: a7 :: a8 :: a9 :: a10 :: a11 :: a12 :: a13 :: a14 :: a15 :: a16 :: a17 :: a18 :: a19 :: a20 :: a21 :: a22 :: a23 :: .ref z :: t) st σ := fn_aloadG h hd (i := 24) rfl k

theorem fn_istore_24 {E : fnE} {own : String} {cc : ByteArray} {nL fr lo : Nat} {V : fnV} (h : fnCx E own cc nL fr lo V) {pc nx : Nat} {t st : List Value} {σ : fnMem} {a0 a1 a2 a3 a4 a5 a6 a7 a8 a9 a10 a11 a12 a13 a14 a15 a16 a17 a18 a19 a20 a21 a22 a23 : Value} {b : Value} {z : Int} (hd : fnD cc pc (.istore 24) 2 nx) (hi : Nat.ble 25 nL = true) (hp : fnC1 a23 = true) (k : V nx (a0 :: a1 :: a2 :: a3 :: a4 :: a5 :: a6 :: a7 :: a8 :: a9 :: a10 :: a11 :: a12 :: a13 :: a14 :: a15 :: a16 :: a17 :: a18 :: a19 :: a20 :: a21 :: a22 :: a23 :: zI z :: t) st σ) : V pc (a0 :: a1 :: a2 :: a3 :: a4 :: a5 :: a6 :: a7 :: a8 :: a9 :: a10 :: a11 :: a12 :: a13 :: a14 :: a15 :: a16 :: a17 :: a18 :: a19 :: a20 :: a21 :: a22 :: a23 :: b :: t) (zI z :: st) σ := fn_istoreG h hd (i := 24) hi (fun j w e q => by cases e; cases q; exact hp) k

theorem fn_lstore_24 {E : fnE} {own : String} {cc : ByteArray} {nL fr lo : Nat} {V : fnV} (h : fnCx E own cc nL fr lo V) {pc nx : Nat} {t st : List Value} {σ : fnMem} {a0 a1 a2 a3 a4 a5 a6 a7 a8 a9 a10 a11 a12 a13 a14 a15 a16 a17 a18 a19 a20 a21 a22 a23 : Value} {b b2 : Value} {z : Int} (hd : fnD cc pc (.lstore 24) 2 nx) (hi : Nat.ble 26 nL = true) (hp : fnC1 a23 = true) (k : V nx (a0 :: a1 :: a2 :: a3 :: a4 :: a5 :: a6 :: a7 :: a8 :: a9 :: a10 :: a11 :: a12 :: a13 :: a14 :: a15 :: a16 :: a17 :: a18 :: a19 :: a20 :: a21 :: a22 :: a23 :: zL z :: .null :: t) st σ) : V pc (a0 :: a1 :: a2 :: a3 :: a4 :: a5 :: a6 :: a7 :: a8 :: a9 :: a10 :: a11 :: a12 :: a13 :: a14 :: a15 :: a16 :: a17 :: a18 :: a19 :: a20 :: a21 :: a22 :: a23 :: b :: b2 :: t) (zL z :: st) σ := fn_lstoreG h hd (i := 24) hi (fun j w e q => by cases e; cases q; exact hp) k

theorem fn_astore_24 {E : fnE} {own : String} {cc : ByteArray} {nL fr lo : Nat} {V : fnV} (h : fnCx E own cc nL fr lo V) {pc nx : Nat} {t st : List Value} {σ : fnMem} {a0 a1 a2 a3 a4 a5 a6 a7 a8 a9 a10 a11 a12 a13 a14 a15 a16 a17 a18 a19 a20 a21 a22 a23 : Value} {b : Value} {z : Nat} (hd : fnD cc pc (.astore 24) 2 nx) (hi : Nat.ble 25 nL = true) (hp : fnC1 a23 = true) (k : V nx (a0 :: a1 :: a2 :: a3 :: a4 :: a5 :: a6 :: a7 :: a8 :: a9 :: a10 :: a11 :: a12 :: a13 :: a14 :: a15 :: a16 :: a17 :: a18 :: a19 :: a20 :: a21 :: a22 :: a23 :: .ref z :: t) st σ) : V pc (a0 :: a1 :: a2 :: a3 :: a4 :: a5 :: a6 :: a7 :: a8 :: a9 :: a10 :: a11 :: a12 :: a13 :: a14 :: a15 :: a16 :: a17 :: a18 :: a19 :: a20 :: a21 :: a22 :: a23 :: b :: t) (.ref z :: st) σ := fn_astoreG h hd (i := 24) hi (fun j w e q => by cases e; cases q; exact hp) k

theorem fn_iinc_24 {E : fnE} {own : String} {cc : ByteArray} {nL fr lo : Nat} {V : fnV} (h : fnCx E own cc nL fr lo V) {pc nx : Nat} {t st : List Value} {σ : fnMem} {a0 a1 a2 a3 a4 a5 a6 a7 a8 a9 a10 a11 a12 a13 a14 a15 a16 a17 a18 a19 a20 a21 a22 a23 : Value} {d z : Int} (hd : fnD cc pc (.iinc 24 d) 3 nx) (hi : Nat.ble 25 nL = true) (hp : fnC1 a23 = true) (k : V nx (a0 :: a1 :: a2 :: a3 :: a4 :: a5 :: a6 :: a7 :: a8 :: a9 :: a10 :: a11 :: a12 :: a13 :: a14 :: a15 :: a16 :: a17 :: a18 :: a19 :: a20 :: a21 :: a22 :: a23 :: zI (z + d) :: t) st σ) : V pc (a0 :: a1 :: a2 :: a3 :: a4 :: a5 :: a6 :: a7 :: a8 :: a9 :: a10 :: a11 :: a12 :: a13 :: a14 :: a15 :: a16 :: a17 :: a18 :: a19 :: a20 :: a21 :: a22 :: a23 :: zI z :: t) st σ := fn_iincG h hd (i := 24) rfl hi (fun j w e q => by cases e; cases q; exact hp) k

theorem fn_iadd {E : fnE} {own : String} {cc : ByteArray} {nL fr lo : Nat} {V : fnV} (h : fnCx E own cc nL fr lo V) {pc nx : Nat} {lv st : List Value} {σ : fnMem} {x y : Int} (hd : fnD cc pc .iadd 1 nx) (k : V nx lv (zI (x + y) :: st) σ) : V pc lv (zI y :: zI x :: st) σ := by
  obtain ⟨p, l, e, R, s, m, args, below, meth, c, A, cells, slots, Q, ⟨hx, hb, hml, hown, hts⟩, hK, hD, hA, hZ, hT, hN, ⟨r1, r2, r3, r4⟩, rfl⟩ := h
  obtain ⟨hd, rfl⟩ := hd
  intro H locs ls hP hS hl
  have k := k H locs ls hP hS hl
  rw [zI, Int32.ofInt_add] at k
  exact lv_iadd hx hb hd k

theorem fn_isub {E : fnE} {own : String} {cc : ByteArray} {nL fr lo : Nat} {V : fnV} (h : fnCx E own cc nL fr lo V) {pc nx : Nat} {lv st : List Value} {σ : fnMem} {x y : Int} (hd : fnD cc pc .isub 1 nx) (k : V nx lv (zI (x - y) :: st) σ) : V pc lv (zI y :: zI x :: st) σ := by
  obtain ⟨p, l, e, R, s, m, args, below, meth, c, A, cells, slots, Q, ⟨hx, hb, hml, hown, hts⟩, hK, hD, hA, hZ, hT, hN, ⟨r1, r2, r3, r4⟩, rfl⟩ := h
  obtain ⟨hd, rfl⟩ := hd
  intro H locs ls hP hS hl
  have k := k H locs ls hP hS hl
  rw [zI, Int32.ofInt_sub] at k
  exact lv_isub hx hb hd k

theorem fn_imul {E : fnE} {own : String} {cc : ByteArray} {nL fr lo : Nat} {V : fnV} (h : fnCx E own cc nL fr lo V) {pc nx : Nat} {lv st : List Value} {σ : fnMem} {x y : Int} (hd : fnD cc pc .imul 1 nx) (k : V nx lv (zI (x * y) :: st) σ) : V pc lv (zI y :: zI x :: st) σ := by
  obtain ⟨p, l, e, R, s, m, args, below, meth, c, A, cells, slots, Q, ⟨hx, hb, hml, hown, hts⟩, hK, hD, hA, hZ, hT, hN, ⟨r1, r2, r3, r4⟩, rfl⟩ := h
  obtain ⟨hd, rfl⟩ := hd
  intro H locs ls hP hS hl
  have k := k H locs ls hP hS hl
  rw [zI, Int32.ofInt_mul] at k
  exact lv_imul hx hb hd k

theorem fn_ladd {E : fnE} {own : String} {cc : ByteArray} {nL fr lo : Nat} {V : fnV} (h : fnCx E own cc nL fr lo V) {pc nx : Nat} {lv st : List Value} {σ : fnMem} {x y : Int} (hd : fnD cc pc .ladd 1 nx) (k : V nx lv (zL (x + y) :: st) σ) : V pc lv (zL y :: zL x :: st) σ := by
  obtain ⟨p, l, e, R, s, m, args, below, meth, c, A, cells, slots, Q, ⟨hx, hb, hml, hown, hts⟩, hK, hD, hA, hZ, hT, hN, ⟨r1, r2, r3, r4⟩, rfl⟩ := h
  obtain ⟨hd, rfl⟩ := hd
  intro H locs ls hP hS hl
  have k := k H locs ls hP hS hl
  rw [zL, Int64.ofInt_add] at k
  exact lv_ladd hx hb hd k

theorem fn_lsub {E : fnE} {own : String} {cc : ByteArray} {nL fr lo : Nat} {V : fnV} (h : fnCx E own cc nL fr lo V) {pc nx : Nat} {lv st : List Value} {σ : fnMem} {x y : Int} (hd : fnD cc pc .lsub 1 nx) (k : V nx lv (zL (x - y) :: st) σ) : V pc lv (zL y :: zL x :: st) σ := by
  obtain ⟨p, l, e, R, s, m, args, below, meth, c, A, cells, slots, Q, ⟨hx, hb, hml, hown, hts⟩, hK, hD, hA, hZ, hT, hN, ⟨r1, r2, r3, r4⟩, rfl⟩ := h
  obtain ⟨hd, rfl⟩ := hd
  intro H locs ls hP hS hl
  have k := k H locs ls hP hS hl
  rw [zL, Int64.ofInt_sub] at k
  exact lv_lsub hx hb hd k

theorem fn_lmul {E : fnE} {own : String} {cc : ByteArray} {nL fr lo : Nat} {V : fnV} (h : fnCx E own cc nL fr lo V) {pc nx : Nat} {lv st : List Value} {σ : fnMem} {x y : Int} (hd : fnD cc pc .lmul 1 nx) (k : V nx lv (zL (x * y) :: st) σ) : V pc lv (zL y :: zL x :: st) σ := by
  obtain ⟨p, l, e, R, s, m, args, below, meth, c, A, cells, slots, Q, ⟨hx, hb, hml, hown, hts⟩, hK, hD, hA, hZ, hT, hN, ⟨r1, r2, r3, r4⟩, rfl⟩ := h
  obtain ⟨hd, rfl⟩ := hd
  intro H locs ls hP hS hl
  have k := k H locs ls hP hS hl
  rw [zL, Int64.ofInt_mul] at k
  exact lv_lmul hx hb hd k

theorem fn_idiv {E : fnE} {own : String} {cc : ByteArray} {nL fr lo : Nat} {V : fnV} (h : fnCx E own cc nL fr lo V) {pc nx : Nat} {lv st : List Value} {σ : fnMem} {x y : Int} (hd : fnD cc pc .idiv 1 nx) (hx1 : fnR x) (hy : 0 < y) (hy2 : fnR y) (k : V nx lv (zI (x.tdiv y) :: st) σ) : V pc lv (zI y :: zI x :: st) σ := by
  obtain ⟨p, l, e, R, s, m, args, below, meth, c, A, cells, slots, Q, ⟨hx, hb, hml, hown, hts⟩, hK, hD, hA, hZ, hT, hN, ⟨r1, r2, r3, r4⟩, rfl⟩ := h
  obtain ⟨hd, rfl⟩ := hd
  intro H locs ls hP hS hl
  have k := k H locs ls hP hS hl
  rw [zI, ← fn_divI hx1 hy hy2] at k
  exact lv_idiv hx hb hd (fun q => by
    have := congrArg Int32.toInt q
    rw [fn_toI hy2] at this
    have h0 : (0 : Int32).toInt = 0 := by decide +kernel
    omega) k

theorem fn_irem {E : fnE} {own : String} {cc : ByteArray} {nL fr lo : Nat} {V : fnV} (h : fnCx E own cc nL fr lo V) {pc nx : Nat} {lv st : List Value} {σ : fnMem} {x y : Int} (hd : fnD cc pc .irem 1 nx) (hx1 : fnR x) (hy : 0 < y) (hy2 : fnR y) (k : V nx lv (zI (x.tmod y) :: st) σ) : V pc lv (zI y :: zI x :: st) σ := by
  obtain ⟨p, l, e, R, s, m, args, below, meth, c, A, cells, slots, Q, ⟨hx, hb, hml, hown, hts⟩, hK, hD, hA, hZ, hT, hN, ⟨r1, r2, r3, r4⟩, rfl⟩ := h
  obtain ⟨hd, rfl⟩ := hd
  intro H locs ls hP hS hl
  have k := k H locs ls hP hS hl
  rw [zI, ← fn_remI hx1 hy hy2] at k
  exact lv_irem hx hb hd (fun q => by
    have := congrArg Int32.toInt q
    rw [fn_toI hy2] at this
    have h0 : (0 : Int32).toInt = 0 := by decide +kernel
    omega) k

theorem fn_ldiv {E : fnE} {own : String} {cc : ByteArray} {nL fr lo : Nat} {V : fnV} (h : fnCx E own cc nL fr lo V) {pc nx : Nat} {lv st : List Value} {σ : fnMem} {x y : Int} (hd : fnD cc pc .ldiv 1 nx) (hx1 : fnRl x) (hy : 0 < y) (hy2 : fnRl y) (k : V nx lv (zL (x.tdiv y) :: st) σ) : V pc lv (zL y :: zL x :: st) σ := by
  obtain ⟨p, l, e, R, s, m, args, below, meth, c, A, cells, slots, Q, ⟨hx, hb, hml, hown, hts⟩, hK, hD, hA, hZ, hT, hN, ⟨r1, r2, r3, r4⟩, rfl⟩ := h
  obtain ⟨hd, rfl⟩ := hd
  intro H locs ls hP hS hl
  have k := k H locs ls hP hS hl
  rw [zL, ← fn_divL hx1 hy hy2] at k
  exact lv_ldiv hx hb hd (fun q => by
    have := congrArg Int64.toInt q
    rw [fn_toL hy2] at this
    have h0 : (0 : Int64).toInt = 0 := by decide +kernel
    omega) k

theorem fn_lrem {E : fnE} {own : String} {cc : ByteArray} {nL fr lo : Nat} {V : fnV} (h : fnCx E own cc nL fr lo V) {pc nx : Nat} {lv st : List Value} {σ : fnMem} {x y : Int} (hd : fnD cc pc .lrem 1 nx) (hx1 : fnRl x) (hy : 0 < y) (hy2 : fnRl y) (k : V nx lv (zL (x.tmod y) :: st) σ) : V pc lv (zL y :: zL x :: st) σ := by
  obtain ⟨p, l, e, R, s, m, args, below, meth, c, A, cells, slots, Q, ⟨hx, hb, hml, hown, hts⟩, hK, hD, hA, hZ, hT, hN, ⟨r1, r2, r3, r4⟩, rfl⟩ := h
  obtain ⟨hd, rfl⟩ := hd
  intro H locs ls hP hS hl
  have k := k H locs ls hP hS hl
  rw [zL, ← fn_remL hx1 hy hy2] at k
  exact lv_lrem hx hb hd (fun q => by
    have := congrArg Int64.toInt q
    rw [fn_toL hy2] at this
    have h0 : (0 : Int64).toInt = 0 := by decide +kernel
    omega) k

theorem fn_ineg {E : fnE} {own : String} {cc : ByteArray} {nL fr lo : Nat} {V : fnV} (h : fnCx E own cc nL fr lo V) {pc nx : Nat} {lv st : List Value} {σ : fnMem} {x : Int} (hd : fnD cc pc .ineg 1 nx) (k : V nx lv (zI (-x) :: st) σ) : V pc lv (zI x :: st) σ := by
  obtain ⟨p, l, e, R, s, m, args, below, meth, c, A, cells, slots, Q, ⟨hx, hb, hml, hown, hts⟩, hK, hD, hA, hZ, hT, hN, ⟨r1, r2, r3, r4⟩, rfl⟩ := h
  obtain ⟨hd, rfl⟩ := hd
  intro H locs ls hP hS hl
  have k := k H locs ls hP hS hl
  rw [zI, ← Int32.neg_ofInt] at k
  exact lv_ineg hx hb hd k

theorem fn_lneg {E : fnE} {own : String} {cc : ByteArray} {nL fr lo : Nat} {V : fnV} (h : fnCx E own cc nL fr lo V) {pc nx : Nat} {lv st : List Value} {σ : fnMem} {x : Int} (hd : fnD cc pc .lneg 1 nx) (k : V nx lv (zL (-x) :: st) σ) : V pc lv (zL x :: st) σ := by
  obtain ⟨p, l, e, R, s, m, args, below, meth, c, A, cells, slots, Q, ⟨hx, hb, hml, hown, hts⟩, hK, hD, hA, hZ, hT, hN, ⟨r1, r2, r3, r4⟩, rfl⟩ := h
  obtain ⟨hd, rfl⟩ := hd
  intro H locs ls hP hS hl
  have k := k H locs ls hP hS hl
  rw [zL, ← Int64.neg_ofInt] at k
  exact lv_lneg hx hb hd k

theorem fn_i2lr {E : fnE} {own : String} {cc : ByteArray} {nL fr lo : Nat} {V : fnV} (h : fnCx E own cc nL fr lo V) {pc nx : Nat} {lv st : List Value} {σ : fnMem} {x : Int} (hd : fnD cc pc .i2l 1 nx) (hx1 : fnR x) (k : V nx lv (zL x :: st) σ) : V pc lv (zI x :: st) σ := by
  obtain ⟨p, l, e, R, s, m, args, below, meth, c, A, cells, slots, Q, ⟨hx, hb, hml, hown, hts⟩, hK, hD, hA, hZ, hT, hN, ⟨r1, r2, r3, r4⟩, rfl⟩ := h
  obtain ⟨hd, rfl⟩ := hd
  intro H locs ls hP hS hl
  have k := k H locs ls hP hS hl
  exact lv_i2l hx hb hd (fn_i2l hx1) k

theorem fn_l2i {E : fnE} {own : String} {cc : ByteArray} {nL fr lo : Nat} {V : fnV} (h : fnCx E own cc nL fr lo V) {pc nx : Nat} {lv st : List Value} {σ : fnMem} {x : Int} (hd : fnD cc pc .l2i 1 nx) (k : V nx lv (zI x :: st) σ) : V pc lv (zL x :: st) σ := by
  obtain ⟨p, l, e, R, s, m, args, below, meth, c, A, cells, slots, Q, ⟨hx, hb, hml, hown, hts⟩, hK, hD, hA, hZ, hT, hN, ⟨r1, r2, r3, r4⟩, rfl⟩ := h
  obtain ⟨hd, rfl⟩ := hd
  intro H locs ls hP hS hl
  have k := k H locs ls hP hS hl
  exact lv_l2i hx hb hd Int64.toInt32_ofInt k

theorem fn_andI (x : Int) (k : Nat) (hk : k < 31) {m : Int} (hm : m = 2 ^ k - 1) : Int32.ofInt x &&& Int32.ofInt m = Int32.ofInt (x % 2 ^ k) := by
  have hp : (2 : Nat) ^ k < 2 ^ 31 := Nat.pow_lt_pow_right (by decide) hk
  have hp0 : 0 < (2 : Nat) ^ k := Nat.pow_pos (by decide)
  have hm' : (Int32.ofInt m).toBitVec.toNat = 2 ^ k - 1 := by
    subst hm
    rw [show ((2 : Int) ^ k - 1) = ((2 ^ k - 1 : Nat) : Int) by
      rw [Int.natCast_sub (by omega)]; simp]
    rw [Int32.toBitVec_ofInt, BitVec.toNat_ofInt]
    have : ((2 ^ k - 1 : Nat) : Int) % ((2 ^ 32 : Nat) : Int) = ((2 ^ k - 1 : Nat) : Int) := Int.emod_eq_of_lt (by omega) (by omega)
    rw [this]; simp
  rw [pk_and _ k hm', Int32.toBitVec_ofInt, BitVec.toNat_ofInt, nI, ← Int32.ofInt_eq_ofNat]
  congr 1
  have hd : ((2 : Int) ^ k) ∣ ((2 ^ 32 : Nat) : Int) := by
    refine ⟨((2 ^ (32 - k) : Nat) : Int), ?_⟩
    have e1 : (2 : Nat) ^ 32 = 2 ^ k * 2 ^ (32 - k) := by rw [← Nat.pow_add]; congr 1; omega
    have e2 : ((2 ^ 32 : Nat) : Int) = ((2 ^ k * 2 ^ (32 - k) : Nat) : Int) := by rw [e1]
    rw [e2, Int.natCast_mul]; simp
  have hnn : 0 ≤ x % ((2 ^ 32 : Nat) : Int) := Int.emod_nonneg _ (by decide)
  rw [Int.natCast_emod, Int.toNat_of_nonneg hnn, Int.natCast_pow]
  exact Int.emod_emod_of_dvd x hd

theorem fn_iand {E : fnE} {own : String} {cc : ByteArray} {nL fr lo : Nat} {V : fnV} (h : fnCx E own cc nL fr lo V) {pc nx : Nat} {lv st : List Value} {σ : fnMem} {x m : Int} (j : Nat) (hd : fnD cc pc .iand 1 nx) (hj : j < 31) (hm : m = 2 ^ j - 1) (k : V nx lv (zI (x % 2 ^ j) :: st) σ) : V pc lv (zI m :: zI x :: st) σ := by
  obtain ⟨p, l, e, R, s, m, args, below, meth, c, A, cells, slots, Q, ⟨hx, hb, hml, hown, hts⟩, hK, hD, hA, hZ, hT, hN, ⟨r1, r2, r3, r4⟩, rfl⟩ := h
  obtain ⟨hd, rfl⟩ := hd
  intro H locs ls hP hS hl
  have k := k H locs ls hP hS hl
  rw [zI, ← fn_andI x j hj hm] at k
  exact lv_iand hx hb hd k

theorem fn_ixor {E : fnE} {own : String} {cc : ByteArray} {nL fr lo : Nat} {V : fnV} (h : fnCx E own cc nL fr lo V) {pc nx : Nat} {lv st : List Value} {σ : fnMem} {x y : Int} (hd : fnD cc pc .ixor 1 nx) (k : V nx lv (zI (Int32.ofInt x ^^^ Int32.ofInt y).toInt :: st) σ) : V pc lv (zI y :: zI x :: st) σ := by
  obtain ⟨p, l, e, R, s, m, args, below, meth, c, A, cells, slots, Q, ⟨hx, hb, hml, hown, hts⟩, hK, hD, hA, hZ, hT, hN, ⟨r1, r2, r3, r4⟩, rfl⟩ := h
  obtain ⟨hd, rfl⟩ := hd
  intro H locs ls hP hS hl
  have k := k H locs ls hP hS hl
  rw [zI, Int32.ofInt_toInt] at k
  exact lv_ixor hx hb hd k

theorem fn_lxor {E : fnE} {own : String} {cc : ByteArray} {nL fr lo : Nat} {V : fnV} (h : fnCx E own cc nL fr lo V) {pc nx : Nat} {lv st : List Value} {σ : fnMem} {x y : Int} (hd : fnD cc pc .lxor 1 nx) (k : V nx lv (zL (Int64.ofInt x ^^^ Int64.ofInt y).toInt :: st) σ) : V pc lv (zL y :: zL x :: st) σ := by
  obtain ⟨p, l, e, R, s, m, args, below, meth, c, A, cells, slots, Q, ⟨hx, hb, hml, hown, hts⟩, hK, hD, hA, hZ, hT, hN, ⟨r1, r2, r3, r4⟩, rfl⟩ := h
  obtain ⟨hd, rfl⟩ := hd
  intro H locs ls hP hS hl
  have k := k H locs ls hP hS hl
  rw [zL, Int64.ofInt_toInt] at k
  exact lv_lxor hx hb hd k

theorem fn_dup {E : fnE} {own : String} {cc : ByteArray} {nL fr lo : Nat} {V : fnV} (h : fnCx E own cc nL fr lo V) {pc nx : Nat} {lv st : List Value} {σ : fnMem} {v : Value} (hd : fnD cc pc .dup 1 nx) (hv : fnC1 v = true) (k : V nx lv (v :: v :: st) σ) : V pc lv (v :: st) σ := by
  obtain ⟨p, l, e, R, s, m, args, below, meth, c, A, cells, slots, Q, ⟨hx, hb, hml, hown, hts⟩, hK, hD, hA, hZ, hT, hN, ⟨r1, r2, r3, r4⟩, rfl⟩ := h
  obtain ⟨hd, rfl⟩ := hd
  intro H locs ls hP hS hl
  have k := k H locs ls hP hS hl
  exact lv_dup hx hb hd ((fnTr_cat E v).trans (fnC1_cat hv)) k

theorem fn_pop {E : fnE} {own : String} {cc : ByteArray} {nL fr lo : Nat} {V : fnV} (h : fnCx E own cc nL fr lo V) {pc nx : Nat} {lv st : List Value} {σ : fnMem} {v : Value} (hd : fnD cc pc .pop 1 nx) (hv : fnC1 v = true) (k : V nx lv st σ) : V pc lv (v :: st) σ := by
  obtain ⟨p, l, e, R, s, m, args, below, meth, c, A, cells, slots, Q, ⟨hx, hb, hml, hown, hts⟩, hK, hD, hA, hZ, hT, hN, ⟨r1, r2, r3, r4⟩, rfl⟩ := h
  obtain ⟨hd, rfl⟩ := hd
  intro H locs ls hP hS hl
  have k := k H locs ls hP hS hl
  exact lv_pop hx hb hd ((fnTr_cat E v).trans (fnC1_cat hv)) k

theorem fn_dup2 {E : fnE} {own : String} {cc : ByteArray} {nL fr lo : Nat} {V : fnV} (h : fnCx E own cc nL fr lo V) {pc nx : Nat} {lv st : List Value} {σ : fnMem} {v w : Value} (hd : fnD cc pc .dup2 1 nx) (hv : fnC1 v = true) (hw : fnC1 w = true) (k : V nx lv (v :: w :: v :: w :: st) σ) : V pc lv (v :: w :: st) σ := by
  obtain ⟨p, l, e, R, s, m, args, below, meth, c, A, cells, slots, Q, ⟨hx, hb, hml, hown, hts⟩, hK, hD, hA, hZ, hT, hN, ⟨r1, r2, r3, r4⟩, rfl⟩ := h
  obtain ⟨hd, rfl⟩ := hd
  intro H locs ls hP hS hl
  have k := k H locs ls hP hS hl
  exact lv_dup2_11 hx hb hd ((fnTr_cat E v).trans (fnC1_cat hv)) ((fnTr_cat E w).trans (fnC1_cat hw)) k

theorem fn_icmp_eq {E : fnE} {own : String} {cc : ByteArray} {nL fr lo : Nat} {V : fnV} (h : fnCx E own cc nL fr lo V) {pc nx : Nat} {lv st : List Value} {σ : fnMem} {tgt : Nat} {x y : Int} (hx1 : fnR x) (hy1 : fnR y) (hd : fnIc cc pc .eq tgt nx) (kt : x = y → V tgt lv st σ) (kf : x ≠ y → V nx lv st σ) : V pc lv (zI y :: zI x :: st) σ := by
  obtain ⟨p, l, e, R, s, m, args, below, meth, c, A, cells, slots, Q, ⟨hx, hb, hml, hown, hts⟩, hK, hD, hA, hZ, hT, hN, ⟨r1, r2, r3, r4⟩, rfl⟩ := h
  obtain ⟨hd, rfl⟩ := hd
  intro H locs ls hP hS hl
  have ht : (pc : Int) + ((tgt : Int) - (pc : Int)) = (tgt : Int) := by omega
  exact lv_icmp_eq hx hb hd ht (fun q => kt (by rw [fn_eqI hx1 hy1] at q; omega) H locs ls hP hS hl) (fun q => kf (by rw [fn_eqI hx1 hy1] at q; omega) H locs ls hP hS hl)

theorem fn_icmp_ne {E : fnE} {own : String} {cc : ByteArray} {nL fr lo : Nat} {V : fnV} (h : fnCx E own cc nL fr lo V) {pc nx : Nat} {lv st : List Value} {σ : fnMem} {tgt : Nat} {x y : Int} (hx1 : fnR x) (hy1 : fnR y) (hd : fnIc cc pc .ne tgt nx) (kt : x ≠ y → V tgt lv st σ) (kf : x = y → V nx lv st σ) : V pc lv (zI y :: zI x :: st) σ := by
  obtain ⟨p, l, e, R, s, m, args, below, meth, c, A, cells, slots, Q, ⟨hx, hb, hml, hown, hts⟩, hK, hD, hA, hZ, hT, hN, ⟨r1, r2, r3, r4⟩, rfl⟩ := h
  obtain ⟨hd, rfl⟩ := hd
  intro H locs ls hP hS hl
  have ht : (pc : Int) + ((tgt : Int) - (pc : Int)) = (tgt : Int) := by omega
  exact lv_icmp_ne hx hb hd ht (fun q => kt (by rw [fn_eqI hx1 hy1] at q; omega) H locs ls hP hS hl) (fun q => kf (by rw [fn_eqI hx1 hy1] at q; omega) H locs ls hP hS hl)

theorem fn_icmp_lt {E : fnE} {own : String} {cc : ByteArray} {nL fr lo : Nat} {V : fnV} (h : fnCx E own cc nL fr lo V) {pc nx : Nat} {lv st : List Value} {σ : fnMem} {tgt : Nat} {x y : Int} (hx1 : fnR x) (hy1 : fnR y) (hd : fnIc cc pc .lt tgt nx) (kt : x < y → V tgt lv st σ) (kf : y ≤ x → V nx lv st σ) : V pc lv (zI y :: zI x :: st) σ := by
  obtain ⟨p, l, e, R, s, m, args, below, meth, c, A, cells, slots, Q, ⟨hx, hb, hml, hown, hts⟩, hK, hD, hA, hZ, hT, hN, ⟨r1, r2, r3, r4⟩, rfl⟩ := h
  obtain ⟨hd, rfl⟩ := hd
  intro H locs ls hP hS hl
  have ht : (pc : Int) + ((tgt : Int) - (pc : Int)) = (tgt : Int) := by omega
  exact lv_icmp_lt hx hb hd ht (fun q => kt (by rw [fn_ltI hx1 hy1] at q; omega) H locs ls hP hS hl) (fun q => kf (by rw [fn_ltI hx1 hy1] at q; omega) H locs ls hP hS hl)

theorem fn_icmp_ge {E : fnE} {own : String} {cc : ByteArray} {nL fr lo : Nat} {V : fnV} (h : fnCx E own cc nL fr lo V) {pc nx : Nat} {lv st : List Value} {σ : fnMem} {tgt : Nat} {x y : Int} (hx1 : fnR x) (hy1 : fnR y) (hd : fnIc cc pc .ge tgt nx) (kt : y ≤ x → V tgt lv st σ) (kf : x < y → V nx lv st σ) : V pc lv (zI y :: zI x :: st) σ := by
  obtain ⟨p, l, e, R, s, m, args, below, meth, c, A, cells, slots, Q, ⟨hx, hb, hml, hown, hts⟩, hK, hD, hA, hZ, hT, hN, ⟨r1, r2, r3, r4⟩, rfl⟩ := h
  obtain ⟨hd, rfl⟩ := hd
  intro H locs ls hP hS hl
  have ht : (pc : Int) + ((tgt : Int) - (pc : Int)) = (tgt : Int) := by omega
  exact lv_icmp_ge hx hb hd ht (fun q => kt (by rw [fn_leI hy1 hx1] at q; omega) H locs ls hP hS hl) (fun q => kf (by rw [fn_leI hy1 hx1] at q; omega) H locs ls hP hS hl)

theorem fn_icmp_gt {E : fnE} {own : String} {cc : ByteArray} {nL fr lo : Nat} {V : fnV} (h : fnCx E own cc nL fr lo V) {pc nx : Nat} {lv st : List Value} {σ : fnMem} {tgt : Nat} {x y : Int} (hx1 : fnR x) (hy1 : fnR y) (hd : fnIc cc pc .gt tgt nx) (kt : y < x → V tgt lv st σ) (kf : x ≤ y → V nx lv st σ) : V pc lv (zI y :: zI x :: st) σ := by
  obtain ⟨p, l, e, R, s, m, args, below, meth, c, A, cells, slots, Q, ⟨hx, hb, hml, hown, hts⟩, hK, hD, hA, hZ, hT, hN, ⟨r1, r2, r3, r4⟩, rfl⟩ := h
  obtain ⟨hd, rfl⟩ := hd
  intro H locs ls hP hS hl
  have ht : (pc : Int) + ((tgt : Int) - (pc : Int)) = (tgt : Int) := by omega
  exact lv_icmp_gt hx hb hd ht (fun q => kt (by rw [fn_ltI hy1 hx1] at q; omega) H locs ls hP hS hl) (fun q => kf (by rw [fn_ltI hy1 hx1] at q; omega) H locs ls hP hS hl)

theorem fn_icmp_le {E : fnE} {own : String} {cc : ByteArray} {nL fr lo : Nat} {V : fnV} (h : fnCx E own cc nL fr lo V) {pc nx : Nat} {lv st : List Value} {σ : fnMem} {tgt : Nat} {x y : Int} (hx1 : fnR x) (hy1 : fnR y) (hd : fnIc cc pc .le tgt nx) (kt : x ≤ y → V tgt lv st σ) (kf : y < x → V nx lv st σ) : V pc lv (zI y :: zI x :: st) σ := by
  obtain ⟨p, l, e, R, s, m, args, below, meth, c, A, cells, slots, Q, ⟨hx, hb, hml, hown, hts⟩, hK, hD, hA, hZ, hT, hN, ⟨r1, r2, r3, r4⟩, rfl⟩ := h
  obtain ⟨hd, rfl⟩ := hd
  intro H locs ls hP hS hl
  have ht : (pc : Int) + ((tgt : Int) - (pc : Int)) = (tgt : Int) := by omega
  exact lv_icmp_le hx hb hd ht (fun q => kt (by rw [fn_leI hx1 hy1] at q; omega) H locs ls hP hS hl) (fun q => kf (by rw [fn_leI hx1 hy1] at q; omega) H locs ls hP hS hl)

theorem fn_if_eq {E : fnE} {own : String} {cc : ByteArray} {nL fr lo : Nat} {V : fnV} (h : fnCx E own cc nL fr lo V) {pc nx : Nat} {lv st : List Value} {σ : fnMem} {tgt : Nat} {x : Int} (hx1 : fnR x) (hd : fnIf cc pc .eq tgt nx) (kt : x = 0 → V tgt lv st σ) (kf : x ≠ 0 → V nx lv st σ) : V pc lv (zI x :: st) σ := by
  obtain ⟨p, l, e, R, s, m, args, below, meth, c, A, cells, slots, Q, ⟨hx, hb, hml, hown, hts⟩, hK, hD, hA, hZ, hT, hN, ⟨r1, r2, r3, r4⟩, rfl⟩ := h
  obtain ⟨hd, rfl⟩ := hd
  intro H locs ls hP hS hl
  have ht : (pc : Int) + ((tgt : Int) - (pc : Int)) = (tgt : Int) := by omega
  exact lv_if_eq hx hb hd ht (fun q => kt (by rw [fn_0, fn_eqI hx1 (show fnR 0 by decide)] at q; omega) H locs ls hP hS hl) (fun q => kf (by rw [fn_0, fn_eqI hx1 (show fnR 0 by decide)] at q; omega) H locs ls hP hS hl)

theorem fn_if_ne {E : fnE} {own : String} {cc : ByteArray} {nL fr lo : Nat} {V : fnV} (h : fnCx E own cc nL fr lo V) {pc nx : Nat} {lv st : List Value} {σ : fnMem} {tgt : Nat} {x : Int} (hx1 : fnR x) (hd : fnIf cc pc .ne tgt nx) (kt : x ≠ 0 → V tgt lv st σ) (kf : x = 0 → V nx lv st σ) : V pc lv (zI x :: st) σ := by
  obtain ⟨p, l, e, R, s, m, args, below, meth, c, A, cells, slots, Q, ⟨hx, hb, hml, hown, hts⟩, hK, hD, hA, hZ, hT, hN, ⟨r1, r2, r3, r4⟩, rfl⟩ := h
  obtain ⟨hd, rfl⟩ := hd
  intro H locs ls hP hS hl
  have ht : (pc : Int) + ((tgt : Int) - (pc : Int)) = (tgt : Int) := by omega
  exact lv_if_ne hx hb hd ht (fun q => kt (by rw [fn_0, fn_eqI hx1 (show fnR 0 by decide)] at q; omega) H locs ls hP hS hl) (fun q => kf (by rw [fn_0, fn_eqI hx1 (show fnR 0 by decide)] at q; omega) H locs ls hP hS hl)

theorem fn_if_lt {E : fnE} {own : String} {cc : ByteArray} {nL fr lo : Nat} {V : fnV} (h : fnCx E own cc nL fr lo V) {pc nx : Nat} {lv st : List Value} {σ : fnMem} {tgt : Nat} {x : Int} (hx1 : fnR x) (hd : fnIf cc pc .lt tgt nx) (kt : x < 0 → V tgt lv st σ) (kf : 0 ≤ x → V nx lv st σ) : V pc lv (zI x :: st) σ := by
  obtain ⟨p, l, e, R, s, m, args, below, meth, c, A, cells, slots, Q, ⟨hx, hb, hml, hown, hts⟩, hK, hD, hA, hZ, hT, hN, ⟨r1, r2, r3, r4⟩, rfl⟩ := h
  obtain ⟨hd, rfl⟩ := hd
  intro H locs ls hP hS hl
  have ht : (pc : Int) + ((tgt : Int) - (pc : Int)) = (tgt : Int) := by omega
  exact lv_if_lt hx hb hd ht (fun q => kt (by rw [fn_0, fn_ltI hx1 (show fnR 0 by decide)] at q; omega) H locs ls hP hS hl) (fun q => kf (by rw [fn_0, fn_ltI hx1 (show fnR 0 by decide)] at q; omega) H locs ls hP hS hl)

theorem fn_if_ge {E : fnE} {own : String} {cc : ByteArray} {nL fr lo : Nat} {V : fnV} (h : fnCx E own cc nL fr lo V) {pc nx : Nat} {lv st : List Value} {σ : fnMem} {tgt : Nat} {x : Int} (hx1 : fnR x) (hd : fnIf cc pc .ge tgt nx) (kt : 0 ≤ x → V tgt lv st σ) (kf : x < 0 → V nx lv st σ) : V pc lv (zI x :: st) σ := by
  obtain ⟨p, l, e, R, s, m, args, below, meth, c, A, cells, slots, Q, ⟨hx, hb, hml, hown, hts⟩, hK, hD, hA, hZ, hT, hN, ⟨r1, r2, r3, r4⟩, rfl⟩ := h
  obtain ⟨hd, rfl⟩ := hd
  intro H locs ls hP hS hl
  have ht : (pc : Int) + ((tgt : Int) - (pc : Int)) = (tgt : Int) := by omega
  exact lv_if_ge hx hb hd ht (fun q => kt (by rw [fn_0, fn_leI (show fnR 0 by decide) hx1] at q; omega) H locs ls hP hS hl) (fun q => kf (by rw [fn_0, fn_leI (show fnR 0 by decide) hx1] at q; omega) H locs ls hP hS hl)

theorem fn_if_gt {E : fnE} {own : String} {cc : ByteArray} {nL fr lo : Nat} {V : fnV} (h : fnCx E own cc nL fr lo V) {pc nx : Nat} {lv st : List Value} {σ : fnMem} {tgt : Nat} {x : Int} (hx1 : fnR x) (hd : fnIf cc pc .gt tgt nx) (kt : 0 < x → V tgt lv st σ) (kf : x ≤ 0 → V nx lv st σ) : V pc lv (zI x :: st) σ := by
  obtain ⟨p, l, e, R, s, m, args, below, meth, c, A, cells, slots, Q, ⟨hx, hb, hml, hown, hts⟩, hK, hD, hA, hZ, hT, hN, ⟨r1, r2, r3, r4⟩, rfl⟩ := h
  obtain ⟨hd, rfl⟩ := hd
  intro H locs ls hP hS hl
  have ht : (pc : Int) + ((tgt : Int) - (pc : Int)) = (tgt : Int) := by omega
  exact lv_if_gt hx hb hd ht (fun q => kt (by rw [fn_0, fn_ltI (show fnR 0 by decide) hx1] at q; omega) H locs ls hP hS hl) (fun q => kf (by rw [fn_0, fn_ltI (show fnR 0 by decide) hx1] at q; omega) H locs ls hP hS hl)

theorem fn_if_le {E : fnE} {own : String} {cc : ByteArray} {nL fr lo : Nat} {V : fnV} (h : fnCx E own cc nL fr lo V) {pc nx : Nat} {lv st : List Value} {σ : fnMem} {tgt : Nat} {x : Int} (hx1 : fnR x) (hd : fnIf cc pc .le tgt nx) (kt : x ≤ 0 → V tgt lv st σ) (kf : 0 < x → V nx lv st σ) : V pc lv (zI x :: st) σ := by
  obtain ⟨p, l, e, R, s, m, args, below, meth, c, A, cells, slots, Q, ⟨hx, hb, hml, hown, hts⟩, hK, hD, hA, hZ, hT, hN, ⟨r1, r2, r3, r4⟩, rfl⟩ := h
  obtain ⟨hd, rfl⟩ := hd
  intro H locs ls hP hS hl
  have ht : (pc : Int) + ((tgt : Int) - (pc : Int)) = (tgt : Int) := by omega
  exact lv_if_le hx hb hd ht (fun q => kt (by rw [fn_0, fn_leI hx1 (show fnR 0 by decide)] at q; omega) H locs ls hP hS hl) (fun q => kf (by rw [fn_0, fn_leI hx1 (show fnR 0 by decide)] at q; omega) H locs ls hP hS hl)

theorem fn_ifeqb {E : fnE} {own : String} {cc : ByteArray} {nL fr lo : Nat} {V : fnV} (h : fnCx E own cc nL fr lo V) {pc nx : Nat} {lv st : List Value} {σ : fnMem} {tgt : Nat} {P : Prop} [Decidable P] (hd : fnIf cc pc .eq tgt nx) (kt : ¬ P → V tgt lv st σ) (kf : P → V nx lv st σ) : V pc lv (zI (if P then 1 else 0) :: st) σ := by
  by_cases hP : P
  · exact fn_if_eq h (x := if P then 1 else 0) (by split <;> decide) hd (fun q => by rw [if_pos hP] at q; omega) (fun _ => kf hP)
  · exact fn_if_eq h (x := if P then 1 else 0) (by split <;> decide) hd (fun _ => kt hP) (fun q => by rw [if_neg hP] at q; omega)

theorem fn_ifneb {E : fnE} {own : String} {cc : ByteArray} {nL fr lo : Nat} {V : fnV} (h : fnCx E own cc nL fr lo V) {pc nx : Nat} {lv st : List Value} {σ : fnMem} {tgt : Nat} {P : Prop} [Decidable P] (hd : fnIf cc pc .ne tgt nx) (kt : P → V tgt lv st σ) (kf : ¬ P → V nx lv st σ) : V pc lv (zI (if P then 1 else 0) :: st) σ := by
  by_cases hP : P
  · exact fn_if_ne h (x := if P then 1 else 0) (by split <;> decide) hd (fun _ => kt hP) (fun q => by rw [if_pos hP] at q; omega)
  · exact fn_if_ne h (x := if P then 1 else 0) (by split <;> decide) hd (fun q => by rw [if_neg hP] at q; omega) (fun _ => kf hP)

theorem fn_goto {E : fnE} {own : String} {cc : ByteArray} {nL fr lo : Nat} {V : fnV} (h : fnCx E own cc nL fr lo V) {pc nx : Nat} {lv st : List Value} {σ : fnMem} {tgt : Nat} (hd : fnGo cc pc tgt) (k : V tgt lv st σ) : V pc lv st σ := by
  obtain ⟨p, l, e, R, s, m, args, below, meth, c, A, cells, slots, Q, ⟨hx, hb, hml, hown, hts⟩, hK, hD, hA, hZ, hT, hN, ⟨r1, r2, r3, r4⟩, rfl⟩ := h
  intro H locs ls hP hS hl
  have k := k H locs ls hP hS hl
  have ht : (pc : Int) + ((tgt : Int) - (pc : Int)) = (tgt : Int) := by omega
  exact lv_goto hx hb hd ht k

theorem fn_lcmp_eq {E : fnE} {own : String} {cc : ByteArray} {nL fr lo : Nat} {V : fnV} (h : fnCx E own cc nL fr lo V) {pc nx : Nat} {lv st : List Value} {σ : fnMem} {p1 tgt : Nat} {x y : Int} (hx1 : fnRl x) (hy1 : fnRl y) (hd1 : fnD cc pc .lcmp 1 p1) (hd : fnIf cc p1 .eq tgt nx) (kt : x = y → V tgt lv st σ) (kf : x ≠ y → V nx lv st σ) : V pc lv (zL y :: zL x :: st) σ := by
  obtain ⟨p, l, e, R, s, m, args, below, meth, c, A, cells, slots, Q, ⟨hx, hb, hml, hown, hts⟩, hK, hD, hA, hZ, hT, hN, ⟨r1, r2, r3, r4⟩, rfl⟩ := h
  obtain ⟨hd, rfl⟩ := hd
  obtain ⟨hd1, rfl⟩ := hd1
  intro H locs ls hP hS hl
  have ht : ((pc + 1 : Nat) : Int) + ((tgt : Int) - ((pc + 1 : Nat) : Int)) = (tgt : Int) := by omega
  refine W.lcmp hx hb hd1 ?_
  exact lv_if_eq hx hb hd ht (fun q => kt (by rw [lg_cmp_eq, fn_eqL hx1 hy1] at q; omega) H locs ls hP hS hl) (fun q => kf (by rw [lg_cmp_eq, fn_eqL hx1 hy1] at q; omega) H locs ls hP hS hl)

theorem fn_lcmp_ne {E : fnE} {own : String} {cc : ByteArray} {nL fr lo : Nat} {V : fnV} (h : fnCx E own cc nL fr lo V) {pc nx : Nat} {lv st : List Value} {σ : fnMem} {p1 tgt : Nat} {x y : Int} (hx1 : fnRl x) (hy1 : fnRl y) (hd1 : fnD cc pc .lcmp 1 p1) (hd : fnIf cc p1 .ne tgt nx) (kt : x ≠ y → V tgt lv st σ) (kf : x = y → V nx lv st σ) : V pc lv (zL y :: zL x :: st) σ := by
  obtain ⟨p, l, e, R, s, m, args, below, meth, c, A, cells, slots, Q, ⟨hx, hb, hml, hown, hts⟩, hK, hD, hA, hZ, hT, hN, ⟨r1, r2, r3, r4⟩, rfl⟩ := h
  obtain ⟨hd, rfl⟩ := hd
  obtain ⟨hd1, rfl⟩ := hd1
  intro H locs ls hP hS hl
  have ht : ((pc + 1 : Nat) : Int) + ((tgt : Int) - ((pc + 1 : Nat) : Int)) = (tgt : Int) := by omega
  refine W.lcmp hx hb hd1 ?_
  exact lv_if_ne hx hb hd ht (fun q => kt (by rw [lg_cmp_eq, fn_eqL hx1 hy1] at q; omega) H locs ls hP hS hl) (fun q => kf (by rw [lg_cmp_eq, fn_eqL hx1 hy1] at q; omega) H locs ls hP hS hl)

theorem fn_lcmp_lt {E : fnE} {own : String} {cc : ByteArray} {nL fr lo : Nat} {V : fnV} (h : fnCx E own cc nL fr lo V) {pc nx : Nat} {lv st : List Value} {σ : fnMem} {p1 tgt : Nat} {x y : Int} (hx1 : fnRl x) (hy1 : fnRl y) (hd1 : fnD cc pc .lcmp 1 p1) (hd : fnIf cc p1 .lt tgt nx) (kt : x < y → V tgt lv st σ) (kf : y ≤ x → V nx lv st σ) : V pc lv (zL y :: zL x :: st) σ := by
  obtain ⟨p, l, e, R, s, m, args, below, meth, c, A, cells, slots, Q, ⟨hx, hb, hml, hown, hts⟩, hK, hD, hA, hZ, hT, hN, ⟨r1, r2, r3, r4⟩, rfl⟩ := h
  obtain ⟨hd, rfl⟩ := hd
  obtain ⟨hd1, rfl⟩ := hd1
  intro H locs ls hP hS hl
  have ht : ((pc + 1 : Nat) : Int) + ((tgt : Int) - ((pc + 1 : Nat) : Int)) = (tgt : Int) := by omega
  refine W.lcmp hx hb hd1 ?_
  exact lv_if_lt hx hb hd ht (fun q => kt (by rw [lg_cmp_lt, fn_ltL hx1 hy1] at q; omega) H locs ls hP hS hl) (fun q => kf (by rw [lg_cmp_lt, fn_ltL hx1 hy1] at q; omega) H locs ls hP hS hl)

theorem fn_lcmp_ge {E : fnE} {own : String} {cc : ByteArray} {nL fr lo : Nat} {V : fnV} (h : fnCx E own cc nL fr lo V) {pc nx : Nat} {lv st : List Value} {σ : fnMem} {p1 tgt : Nat} {x y : Int} (hx1 : fnRl x) (hy1 : fnRl y) (hd1 : fnD cc pc .lcmp 1 p1) (hd : fnIf cc p1 .ge tgt nx) (kt : y ≤ x → V tgt lv st σ) (kf : x < y → V nx lv st σ) : V pc lv (zL y :: zL x :: st) σ := by
  obtain ⟨p, l, e, R, s, m, args, below, meth, c, A, cells, slots, Q, ⟨hx, hb, hml, hown, hts⟩, hK, hD, hA, hZ, hT, hN, ⟨r1, r2, r3, r4⟩, rfl⟩ := h
  obtain ⟨hd, rfl⟩ := hd
  obtain ⟨hd1, rfl⟩ := hd1
  intro H locs ls hP hS hl
  have ht : ((pc + 1 : Nat) : Int) + ((tgt : Int) - ((pc + 1 : Nat) : Int)) = (tgt : Int) := by omega
  refine W.lcmp hx hb hd1 ?_
  exact lv_if_ge hx hb hd ht (fun q => kt (by rw [lg_cmp_ge, Int64.le_iff_toInt_le, fn_toL hx1, fn_toL hy1] at q; omega) H locs ls hP hS hl) (fun q => kf (by rw [lg_cmp_ge, Int64.le_iff_toInt_le, fn_toL hx1, fn_toL hy1] at q; omega) H locs ls hP hS hl)

theorem fn_lcmp_gt {E : fnE} {own : String} {cc : ByteArray} {nL fr lo : Nat} {V : fnV} (h : fnCx E own cc nL fr lo V) {pc nx : Nat} {lv st : List Value} {σ : fnMem} {p1 tgt : Nat} {x y : Int} (hx1 : fnRl x) (hy1 : fnRl y) (hd1 : fnD cc pc .lcmp 1 p1) (hd : fnIf cc p1 .gt tgt nx) (kt : y < x → V tgt lv st σ) (kf : x ≤ y → V nx lv st σ) : V pc lv (zL y :: zL x :: st) σ := by
  obtain ⟨p, l, e, R, s, m, args, below, meth, c, A, cells, slots, Q, ⟨hx, hb, hml, hown, hts⟩, hK, hD, hA, hZ, hT, hN, ⟨r1, r2, r3, r4⟩, rfl⟩ := h
  obtain ⟨hd, rfl⟩ := hd
  obtain ⟨hd1, rfl⟩ := hd1
  intro H locs ls hP hS hl
  have ht : ((pc + 1 : Nat) : Int) + ((tgt : Int) - ((pc + 1 : Nat) : Int)) = (tgt : Int) := by omega
  refine W.lcmp hx hb hd1 ?_
  exact lv_if_gt hx hb hd ht (fun q => kt (by rw [lg_cmp_gt, fn_ltL hy1 hx1] at q; omega) H locs ls hP hS hl) (fun q => kf (by rw [lg_cmp_gt, fn_ltL hy1 hx1] at q; omega) H locs ls hP hS hl)

theorem fn_lcmp_le {E : fnE} {own : String} {cc : ByteArray} {nL fr lo : Nat} {V : fnV} (h : fnCx E own cc nL fr lo V) {pc nx : Nat} {lv st : List Value} {σ : fnMem} {p1 tgt : Nat} {x y : Int} (hx1 : fnRl x) (hy1 : fnRl y) (hd1 : fnD cc pc .lcmp 1 p1) (hd : fnIf cc p1 .le tgt nx) (kt : x ≤ y → V tgt lv st σ) (kf : y < x → V nx lv st σ) : V pc lv (zL y :: zL x :: st) σ := by
  obtain ⟨p, l, e, R, s, m, args, below, meth, c, A, cells, slots, Q, ⟨hx, hb, hml, hown, hts⟩, hK, hD, hA, hZ, hT, hN, ⟨r1, r2, r3, r4⟩, rfl⟩ := h
  obtain ⟨hd, rfl⟩ := hd
  obtain ⟨hd1, rfl⟩ := hd1
  intro H locs ls hP hS hl
  have ht : ((pc + 1 : Nat) : Int) + ((tgt : Int) - ((pc + 1 : Nat) : Int)) = (tgt : Int) := by omega
  refine W.lcmp hx hb hd1 ?_
  exact lv_if_le hx hb hd ht (fun q => kt (by rw [lg_cmp_le, Int64.le_iff_toInt_le, fn_toL hx1, fn_toL hy1] at q; omega) H locs ls hP hS hl) (fun q => kf (by rw [lg_cmp_le, Int64.le_iff_toInt_le, fn_toL hx1, fn_toL hy1] at q; omega) H locs ls hP hS hl)

theorem fn_tswIn {E : fnE} {own : String} {cc : ByteArray} {nL fr lo : Nat} {V : fnV} (h : fnCx E own cc nL fr lo V) {pc nx : Nat} {lv st : List Value} {σ : fnMem} {d lw hi off : Int} {offs : Array Int} {n tgt : Nat} {x : Int} (i : Nat) (hd : fnD cc pc (.tableswitch d lw hi offs) n nx) (hx1 : fnR x) (hxi : x = lw + i) (hhi : x ≤ hi) (ho : offs[i]? = some off) (ht : (pc : Int) + off = (tgt : Int)) (k : V tgt lv st σ) : V pc lv (zI x :: st) σ := by
  obtain ⟨p, l, e, R, s, m, args, below, meth, c, A, cells, slots, Q, ⟨hx, hb, hml, hown, hts⟩, hK, hD, hA, hZ, hT, hN, ⟨r1, r2, r3, r4⟩, rfl⟩ := h
  obtain ⟨hd, rfl⟩ := hd
  intro H locs ls hP hS hl
  have k := k H locs ls hP hS hl
  exact lv_tableIn hx hb hd (by rw [fn_toI hx1]; omega) (by rw [fn_toI hx1]; omega) (by rw [fn_toI hx1, hxi, show (lw + (i : Int) - lw).toNat = i by omega]; exact ho) ht k

theorem fn_tswOut {E : fnE} {own : String} {cc : ByteArray} {nL fr lo : Nat} {V : fnV} (h : fnCx E own cc nL fr lo V) {pc nx : Nat} {lv st : List Value} {σ : fnMem} {d lw hi : Int} {offs : Array Int} {n tgt : Nat} {x : Int} (hd : fnD cc pc (.tableswitch d lw hi offs) n nx) (hx1 : fnR x) (hxi : x < lw ∨ hi < x) (ht : (pc : Int) + d = (tgt : Int)) (k : V tgt lv st σ) : V pc lv (zI x :: st) σ := by
  obtain ⟨p, l, e, R, s, m, args, below, meth, c, A, cells, slots, Q, ⟨hx, hb, hml, hown, hts⟩, hK, hD, hA, hZ, hT, hN, ⟨r1, r2, r3, r4⟩, rfl⟩ := h
  obtain ⟨hd, rfl⟩ := hd
  intro H locs ls hP hS hl
  have k := k H locs ls hP hS hl
  exact lv_tableOut hx hb hd (by rw [fn_toI hx1]; omega) ht k

theorem fn_lsw {E : fnE} {own : String} {cc : ByteArray} {nL fr lo : Nat} {V : fnV} (h : fnCx E own cc nL fr lo V) {pc nx : Nat} {lv st : List Value} {σ : fnMem} {d off : Int} {ps : Array (Int × Int)} {n tgt : Nat} {x : Int} (hd : fnD cc pc (.lookupswitch d ps) n nx) (hx1 : fnR x) (hp : (ps.toList.zip (ps.toList.drop 1)).all (fun (a, next) => a.1 < next.1) = true) (ho : Op.lookupswitch.offset ps.toList d x = off) (ht : (pc : Int) + off = (tgt : Int)) (k : V tgt lv st σ) : V pc lv (zI x :: st) σ := by
  obtain ⟨p, l, e, R, s, m, args, below, meth, c, A, cells, slots, Q, ⟨hx, hb, hml, hown, hts⟩, hK, hD, hA, hZ, hT, hN, ⟨r1, r2, r3, r4⟩, rfl⟩ := h
  obtain ⟨hd, rfl⟩ := hd
  intro H locs ls hP hS hl
  have k := k H locs ls hP hS hl
  exact lv_lookup hx hb hd hp (by rw [fn_toI hx1]; exact ho) ht k

/-- class ci of vwCl is as the tables have it -/
def fnKc (ci : Nat) (C : String) (T : u_T) (N : Nat) : Prop := vwCl[ci]? = some (C, T, N) ∧ (∀ w ∈ u_ws C T N, w ∈ fnT) ∧ (∃ ty0 : Nat → FieldType, ∀ k, k < N → parseFieldDescriptor (T k).2.2.1 = some (ty0 k)) ∧ ∀ a, a < N → ∀ b, b < N → a ≠ b → (T a).2.1 ≠ (T b).2.1
/-- entry idx of own's pool is field j of class ci; fnFp: an int that may be written -/
def fnFl (own : String) (idx ci j : Nat) : Prop := ∃ (C : String) (T : u_T) (N : Nat), fnKc ci C T N ∧ j < N ∧ Cond.fieldLink own idx C (T j).2.1 (T j).2.2.1 ∈ fnT ∧ (T j).1 = C
def fnFp (own : String) (idx ci j : Nat) : Prop := ∃ (C : String) (T : u_T) (N : Nat), fnKc ci C T N ∧ j < N ∧ Cond.fieldLink own idx C (T j).2.1 (T j).2.2.1 ∈ fnT ∧ (T j).1 = C ∧ (T j).2.2.2 = false ∧ (T j).2.2.1 = "I"
/-- cell b is of class ci, its field j is the cell t, is an int -/
def fnFR (b ci j t : Nat) : Prop := b < 79 ∧ ∃ r, fnSh b = (ci + 4, 0, r) ∧ r[j]? = some (some t)
def fnFI (b ci j : Nat) : Prop := b < 79 ∧ ∃ r, fnSh b = (ci + 4, 0, r) ∧ r[j]? = some none
/-- cell b is an array of n ints (kd 0), booleans (1) -/
def fnAr (b kd n : Nat) : Prop := b < 79 ∧ n < 2147483648 ∧ ∃ r, fnSh b = (kd, n, r)
theorem fnW_at' (E : fnE) (σ : fnMem) {b : Nat} {sh : Nat × Nat × List (Option Nat)} (hb : b < 79) (h : fnSh b = sh) : (fnW E σ)[b]? = some (E.1 b, fnEn E (σ b) sh) := by
  rw [fnW_at E σ hb, h]

theorem fn_getR {E : fnE} {own : String} {cc : ByteArray} {nL fr lo : Nat} {V : fnV} (h : fnCx E own cc nL fr lo V) {pc nx : Nat} {lv st : List Value} {σ : fnMem} {b t ci j idx : Nat} (hd : fnD cc pc (.getfield idx) 3 nx) (hf : fnFl own idx ci j) (hs : fnFR b ci j t) (k : V nx lv (.ref t :: st) σ) : V pc lv (.ref b :: st) σ := by
  obtain ⟨p, l, e, R, s, m, args, below, meth, c, A, cells, slots, Q, ⟨hx, hb, hml, hown, hts⟩, hK, hD, hA, hZ, hT, hN, ⟨r1, r2, r3, r4⟩, rfl⟩ := h
  obtain ⟨hd, rfl⟩ := hd
  intro H locs ls hP hS hl
  have k := k H locs ls hP hS hl
  obtain ⟨C, T, N, ⟨hc, hin, -, -⟩, hj, hlk, hC⟩ := hf
  obtain ⟨hb79, r, hsh, hr⟩ := hs
  exact va_get hx hb hts hin hown hK hP b (fnW_at' E σ hb79 hsh) hc j hj (hts _ hlk) (fun x q => by rw [← hC]; exact q) (fnFld_ref E (σ b) r 0 j hr) hd k

theorem fn_getI {E : fnE} {own : String} {cc : ByteArray} {nL fr lo : Nat} {V : fnV} (h : fnCx E own cc nL fr lo V) {pc nx : Nat} {lv st : List Value} {σ : fnMem} {b ci j idx : Nat} (hd : fnD cc pc (.getfield idx) 3 nx) (hf : fnFl own idx ci j) (hs : fnFI b ci j) (k : V nx lv (zI (σ b j) :: st) σ) : V pc lv (.ref b :: st) σ := by
  obtain ⟨p, l, e, R, s, m, args, below, meth, c, A, cells, slots, Q, ⟨hx, hb, hml, hown, hts⟩, hK, hD, hA, hZ, hT, hN, ⟨r1, r2, r3, r4⟩, rfl⟩ := h
  obtain ⟨hd, rfl⟩ := hd
  intro H locs ls hP hS hl
  have k := k H locs ls hP hS hl
  obtain ⟨C, T, N, ⟨hc, hin, -, -⟩, hj, hlk, hC⟩ := hf
  obtain ⟨hb79, r, hsh, hr⟩ := hs
  have hv := fnFld_int E (σ b) r 0 j hr
  rw [Nat.zero_add] at hv
  exact va_get hx hb hts hin hown hK hP b (fnW_at' E σ hb79 hsh) hc j hj (hts _ hlk) (fun x q => by rw [← hC]; exact q) hv hd k

theorem fn_putI {E : fnE} {own : String} {cc : ByteArray} {nL fr lo : Nat} {V : fnV} (h : fnCx E own cc nL fr lo V) {pc nx : Nat} {lv st : List Value} {σ : fnMem} {b ci j idx : Nat} {z : Int} (hd : fnD cc pc (.putfield idx) 3 nx) (hf : fnFp own idx ci j) (hs : fnFI b ci j) (k : V nx lv st (fnUp σ b j z)) : V pc lv (zI z :: .ref b :: st) σ := by
  obtain ⟨p, l, e, R, s, m, args, below, meth, c, A, cells, slots, Q, ⟨hx, hb, hml, hown, hts⟩, hK, hD, hA, hZ, hT, hN, ⟨r1, r2, r3, r4⟩, rfl⟩ := h
  obtain ⟨hd, rfl⟩ := hd
  intro H locs ls hP hS hl
  obtain ⟨C, T, N, ⟨hc, hin, ⟨ty0, hty⟩, hnm⟩, hj, hlk, hC, hfin, hI⟩ := hf
  obtain ⟨hb79, r, hsh, hr⟩ := hs
  refine va_put hx hb hts hin ty0 hty hnm hown hK hP (hD σ) hS b (fnW_at' E σ hb79 hsh) hc j hj (hts _ hlk) (fun x q => by rw [← hC]; exact q) hfin (ty := .int) (v := zI z) (by rw [hI]; decide +kernel) rfl rfl (by rw [fnFld_len]; exact (List.getElem?_eq_some_iff.mp hr).1) hd fun H1 locs1 hP1 hD1 hS1 => ?_
  have e1 : (fnW E σ).set b (E.1 b, .inr (ci, (fnFld E (σ b) 0 r).set j (zI z))) = fnW E (fnUp σ b j z) := by
    rw [fnFld_set E (σ b) z r 0 j hr, Nat.zero_add]
    have := fnW_set E σ (k := b) (fun q => if q = (j : Int) then z else σ b q)
    rw [hsh] at this
    exact this
  rw [e1] at hP1
  exact k H1 locs1 ls hP1 hS1 hl

theorem fn_iald {E : fnE} {own : String} {cc : ByteArray} {nL fr lo : Nat} {V : fnV} (h : fnCx E own cc nL fr lo V) {pc nx : Nat} {lv st : List Value} {σ : fnMem} {b n : Nat} {i : Int} (hd : fnD cc pc .iaload 1 nx) (ha : fnAr b 0 n) (h0 : 0 ≤ i) (h1 : i < n) (k : V nx lv (zI (σ b i) :: st) σ) : V pc lv (zI i :: .ref b :: st) σ := by
  obtain ⟨p, l, e, R, s, m, args, below, meth, c, A, cells, slots, Q, ⟨hx, hb, hml, hown, hts⟩, hK, hD, hA, hZ, hT, hN, ⟨r1, r2, r3, r4⟩, rfl⟩ := h
  obtain ⟨hd, rfl⟩ := hd
  intro H locs ls hP hS hl
  have k := k H locs ls hP hS hl
  obtain ⟨hb79, hn, r, hsh⟩ := ha
  refine va_iald hx hb hK hP b 0 (fnW_at' E σ hb79 hsh) rfl (fn_in h0 h1 hn) hd ?_
  rw [fn_clamp h0 (by omega), Int.toNat_of_nonneg h0]
  exact k

theorem fn_bald {E : fnE} {own : String} {cc : ByteArray} {nL fr lo : Nat} {V : fnV} (h : fnCx E own cc nL fr lo V) {pc nx : Nat} {lv st : List Value} {σ : fnMem} {b n : Nat} {i : Int} (hd : fnD cc pc .baload 1 nx) (ha : fnAr b 1 n) (h0 : 0 ≤ i) (h1 : i < n) (k : V nx lv (zI (σ b i) :: st) σ) : V pc lv (zI i :: .ref b :: st) σ := by
  obtain ⟨p, l, e, R, s, m, args, below, meth, c, A, cells, slots, Q, ⟨hx, hb, hml, hown, hts⟩, hK, hD, hA, hZ, hT, hN, ⟨r1, r2, r3, r4⟩, rfl⟩ := h
  obtain ⟨hd, rfl⟩ := hd
  intro H locs ls hP hS hl
  have k := k H locs ls hP hS hl
  obtain ⟨hb79, hn, r, hsh⟩ := ha
  refine va_zald hx hb hK hP b 1 (fnW_at' E σ hb79 hsh) rfl (fn_in h0 h1 hn) hd ?_
  rw [fn_clamp h0 (by omega), Int.toNat_of_nonneg h0]
  exact k

theorem fnUp_arr (E : fnE) (σ : fnMem) {b : Nat} {i z : Int} (h0 : 0 ≤ i) (f : Nat → Int32) (hf : f = fun j : Nat => Int32.ofInt (σ b j)) : upd f i.toNat (Int32.ofInt z) = fun j : Nat => Int32.ofInt (if (j : Int) = i then z else σ b j) := by
  funext j
  subst hf
  unfold upd
  by_cases hj : j = i.toNat
  · rw [if_pos hj, if_pos (by omega)]
  · rw [if_neg hj, if_neg (by omega)]

theorem fn_iast {E : fnE} {own : String} {cc : ByteArray} {nL fr lo : Nat} {V : fnV} (h : fnCx E own cc nL fr lo V) {pc nx : Nat} {lv st : List Value} {σ : fnMem} {b n : Nat} {i z : Int} (hd : fnD cc pc .iastore 1 nx) (ha : fnAr b 0 n) (h0 : 0 ≤ i) (h1 : i < n) (k : V nx lv st (fnUp σ b i z)) : V pc lv (zI z :: zI i :: .ref b :: st) σ := by
  obtain ⟨p, l, e, R, s, m, args, below, meth, c, A, cells, slots, Q, ⟨hx, hb, hml, hown, hts⟩, hK, hD, hA, hZ, hT, hN, ⟨r1, r2, r3, r4⟩, rfl⟩ := h
  obtain ⟨hd, rfl⟩ := hd
  intro H locs ls hP hS hl
  obtain ⟨hb79, hn, r, hsh⟩ := ha
  refine va_iast hx hb hK hP (hD σ) hS b 0 (fnW_at' E σ hb79 hsh) rfl (fn_in h0 h1 hn) hd fun H1 locs1 hP1 hD1 hS1 => ?_
  rw [fn_clamp h0 (by omega), fnUp_arr E σ (b := b) h0 _ rfl] at hP1
  have e1 := fnW_set E σ (k := b) (fun q => if q = i then z else σ b q)
  rw [hsh] at e1
  have hP2 : va_P E.2.1 vwCl (fnW E (fnUp σ b i z)) H1 := by
    rw [fnUp, ← e1]
    exact hP1
  exact k H1 locs1 ls hP2 hS1 hl

theorem fn_bast {E : fnE} {own : String} {cc : ByteArray} {nL fr lo : Nat} {V : fnV} (h : fnCx E own cc nL fr lo V) {pc nx : Nat} {lv st : List Value} {σ : fnMem} {b n : Nat} {i z : Int} (hd : fnD cc pc .bastore 1 nx) (ha : fnAr b 1 n) (h0 : 0 ≤ i) (h1 : i < n) (hz : z = 0 ∨ z = 1) (k : V nx lv st (fnUp σ b i z)) : V pc lv (zI z :: zI i :: .ref b :: st) σ := by
  obtain ⟨p, l, e, R, s, m, args, below, meth, c, A, cells, slots, Q, ⟨hx, hb, hml, hown, hts⟩, hK, hD, hA, hZ, hT, hN, ⟨r1, r2, r3, r4⟩, rfl⟩ := h
  obtain ⟨hd, rfl⟩ := hd
  intro H locs ls hP hS hl
  obtain ⟨hb79, hn, r, hsh⟩ := ha
  refine va_zast hx hb hK hP (hD σ) hS b 1 (fnW_at' E σ hb79 hsh) rfl (fn_in h0 h1 hn) hd fun H1 locs1 hP1 hD1 hS1 => ?_
  have hnar : vp_nar .boolean (Int32.ofInt z) = Int32.ofInt z := by rcases hz with rfl | rfl <;> decide +kernel
  rw [hnar, fn_clamp h0 (by omega), fnUp_arr E σ (b := b) h0 _ rfl] at hP1
  have e1 := fnW_set E σ (k := b) (fun q => if q = i then z else σ b q)
  rw [hsh] at e1
  have hP2 : va_P E.2.1 vwCl (fnW E (fnUp σ b i z)) H1 := by
    rw [fnUp, ← e1]
    exact hP1
  exact k H1 locs1 ls hP2 hS1 hl

theorem fn_aaldC {E : fnE} {own : String} {cc : ByteArray} {nL fr lo : Nat} {V : fnV} (h : fnCx E own cc nL fr lo V) {pc nx : Nat} {lv st : List Value} {σ : fnMem} {i : Int} (q : Nat) (hd : fnD cc pc .aaload 1 nx) (hq : q < 3) (hi : i = (q : Int)) (k : V nx lv (.ref (3 + q) :: st) σ) : V pc lv (zI i :: .ref 1 :: st) σ := by
  obtain ⟨p, l, e, R, s, m, args, below, meth, c, A, cells, slots, Q, ⟨hx, hb, hml, hown, hts⟩, hK, hD, hA, hZ, hT, hN, ⟨r1, r2, r3, r4⟩, rfl⟩ := h
  obtain ⟨hd, rfl⟩ := hd
  intro H locs ls hP hS hl
  have k := k H locs ls hP hS hl
  subst hi
  refine va_aldq (n := 3) (f := fun i => (([some 3, some 4, some 5] : List (Option Nat)).getD i none).map E.1) hx hb hK hP 1 2 (fnW_at' E σ (by decide) rfl) rfl (fn_in (by omega) (by omega) (by decide)) hd ?_
  rw [fn_clamp (by omega) (by omega), show ((q : Int)).toNat = q by omega]
  have : q = 0 ∨ q = 1 ∨ q = 2 := by omega
  rcases this with rfl | rfl | rfl <;> exact k

theorem fn_aaldS {E : fnE} {own : String} {cc : ByteArray} {nL fr lo : Nat} {V : fnV} (h : fnCx E own cc nL fr lo V) {pc nx : Nat} {lv st : List Value} {σ : fnMem} {i : Int} (q : Nat) (hd : fnD cc pc .aaload 1 nx) (hq : q < 3) (hi : i = (q : Int)) (k : V nx lv (.ref (11 + q) :: st) σ) : V pc lv (zI i :: .ref 2 :: st) σ := by
  obtain ⟨p, l, e, R, s, m, args, below, meth, c, A, cells, slots, Q, ⟨hx, hb, hml, hown, hts⟩, hK, hD, hA, hZ, hT, hN, ⟨r1, r2, r3, r4⟩, rfl⟩ := h
  obtain ⟨hd, rfl⟩ := hd
  intro H locs ls hP hS hl
  have k := k H locs ls hP hS hl
  subst hi
  refine va_aldq (n := 3) (f := fun i => (([some 11, some 12, some 13] : List (Option Nat)).getD i none).map E.1) hx hb hK hP 2 3 (fnW_at' E σ (by decide) rfl) rfl (fn_in (by omega) (by omega) (by decide)) hd ?_
  rw [fn_clamp (by omega) (by omega), show ((q : Int)).toNat = q by omega]
  have : q = 0 ∨ q = 1 ∨ q = 2 := by omega
  rcases this with rfl | rfl | rfl <;> exact k

theorem fn_alen {E : fnE} {own : String} {cc : ByteArray} {nL fr lo : Nat} {V : fnV} (h : fnCx E own cc nL fr lo V) {pc nx : Nat} {lv st : List Value} {σ : fnMem} {b kd n : Nat} (hd : fnD cc pc .arraylength 1 nx) (ha : fnAr b kd n) (hk : kd = 0 ∨ kd = 1) (k : V nx lv (zI n :: st) σ) : V pc lv (.ref b :: st) σ := by
  obtain ⟨p, l, e, R, s, m, args, below, meth, c, A, cells, slots, Q, ⟨hx, hb, hml, hown, hts⟩, hK, hD, hA, hZ, hT, hN, ⟨r1, r2, r3, r4⟩, rfl⟩ := h
  obtain ⟨hd, rfl⟩ := hd
  intro H locs ls hP hS hl
  have k := k H locs ls hP hS hl
  obtain ⟨hb79, hn, r, hsh⟩ := ha
  have e1 : Int32.ofNat n = Int32.ofInt n := Int32.ofInt_eq_ofNat.symm
  rcases hk with rfl | rfl
  · exact va_alen hx hb hK hP b 0 (fnW_at' E σ hb79 hsh) rfl e1 hd k
  · exact va_alen hx hb hK hP b 1 (fnW_at' E σ hb79 hsh) rfl e1 hd k

theorem fn_gets {E : fnE} {own : String} {cc : ByteArray} {nL fr lo : Nat} {V : fnV} (h : fnCx E own cc nL fr lo V) {pc nx : Nat} {lv st : List Value} {σ : fnMem} {idx : Nat} (hd : fnD cc pc (.getstatic idx) 3 nx) (hlk : Cond.fieldLink own idx "FooledNeedle$Waves" "SINES" "[I" ∈ fnT) (k : V nx lv (.ref 100 :: st) σ) : V pc lv st σ := by
  obtain ⟨p, l, e, R, s, m, args, below, meth, c, A, cells, slots, Q, ⟨hx, hb, hml, hown, hts⟩, hK, hD, hA, hZ, hT, hN, ⟨r1, r2, r3, r4⟩, rfl⟩ := h
  obtain ⟨hd, rfl⟩ := hd
  intro H locs ls hP hS hl
  have k := k H locs ls hP hS hl
  exact va_gets hx hb hZ hS hown (hts _ hlk) (fun _ q => q) hd k

theorem fn_sin {E : fnE} {own : String} {cc : ByteArray} {nL fr lo : Nat} {V : fnV} (h : fnCx E own cc nL fr lo V) {pc nx : Nat} {lv st : List Value} {σ : fnMem} {i : Int} (hd : fnD cc pc .iaload 1 nx) (h0 : 0 ≤ i) (h1 : i < 32) (k : V nx lv (zI (fnSinL.getD i.toNat 0) :: st) σ) : V pc lv (zI i :: .ref 100 :: st) σ := by
  obtain ⟨p, l, e, R, s, m, args, below, meth, c, A, cells, slots, Q, ⟨hx, hb, hml, hown, hts⟩, hK, hD, hA, hZ, hT, hN, ⟨r1, r2, r3, r4⟩, rfl⟩ := h
  obtain ⟨hd, rfl⟩ := hd
  intro H locs ls hP hS hl
  have k := k H locs ls hP hS hl
  exact va_ti hx hb hT hS (fn_in h0 (n := 32) (by omega) (by decide)) (by rw [fn_clamp h0 (by omega)]; rfl) hd k

theorem fn_acopy {E : fnE} {own : String} {cc : ByteArray} {nL fr lo : Nat} {V : fnV} (h : fnCx E own cc nL fr lo V) {pc nx : Nat} {lv st : List Value} {σ : fnMem} {b0 b1 n0 n1 idx : Nat} {n : Int} (hd : fnD cc pc (.invokestatic idx) 3 nx) (hlk : Cond.methodLink own idx arraycopyName ∈ fnT) (h2 : Cond.native arraycopyName ∈ fnT ∧ Cond.static arraycopyName ∈ fnT ∧ Cond.initialized "java/lang/System" ∈ fnT) (ha0 : fnAr b0 0 n0) (ha1 : fnAr b1 0 n1) (hn : 0 ≤ n ∧ n ≤ n0 ∧ n ≤ n1) (hfr : Nat.ble 1 fr = true) (hlo : Nat.ble ((st.map fun v => v.category).sum + (nativeFrameWords "java/lang/System" "arraycopy" 5 + 11)) lo = true) (k : V nx lv st (fnSt σ b1 (fun j => if 0 ≤ j ∧ j < n then σ b0 j else σ b1 j))) : V pc lv (zI n :: zI 0 :: .ref b1 :: zI 0 :: .ref b0 :: st) σ := by
  obtain ⟨p, l, e, R, s, m, args, below, meth, c, A, cells, slots, Q, ⟨hx, hb, hml, hown, hts⟩, hK, hD, hA, hZ, hT, hN, ⟨r1, r2, r3, r4⟩, rfl⟩ := h
  obtain ⟨hd, rfl⟩ := hd
  intro H locs ls hP hS hl
  obtain ⟨hb0, hn0, r0, hsh0⟩ := ha0
  obtain ⟨hb1, hn1, r1', hsh1⟩ := ha1
  have c0 : (Int32.ofInt 0).toNatClampNeg = 0 := by decide +kernel
  have cn : (Int32.ofInt n).toNatClampNeg = n.toNat := fn_clamp hn.1 (by omega)
  have n0' : ¬ Int32.ofInt 0 < 0 := by decide +kernel
  have nn' : ¬ Int32.ofInt n < 0 := by rw [fn_0, fn_ltI ⟨by omega, by omega⟩ (by decide)]; omega
  refine va_copyi (ty := .int) hx hb (by rw [hml]; exact hl.1.symm) hown (hts _ hlk) (hts _ h2.1) (hts _ h2.2.1) (hts _ h2.2.2) hK hP (hD σ) hS b0 b1 0 0 (fnW_at' E σ hb0 hsh0) (fnW_at' E σ hb1 hsh1) rfl rfl rfl n0' n0' nn' (by rw [c0, cn]; omega) (by rw [c0, cn]; omega) (fun _ _ => rfl) (Nat.le_trans (Nat.le_of_ble_eq_true hfr) r1) (by rw [fn_catsum]; exact Nat.le_trans (Nat.le_of_ble_eq_true hlo) r2) hd fun H1 locs1 hP1 hD1 hS1 => ?_
  have e1 := fnW_set E σ (k := b1) (fun j => if 0 ≤ j ∧ j < n then σ b0 j else σ b1 j)
  rw [hsh1] at e1
  have hP2 : va_P E.2.1 vwCl (fnW E (fnSt σ b1 (fun j => if 0 ≤ j ∧ j < n then σ b0 j else σ b1 j))) H1 := by
    rw [← e1]
    have e2 : va_cpy (fun i : Nat => Int32.ofInt (σ b0 i)) (fun i : Nat => Int32.ofInt (σ b1 i)) (Int32.ofInt 0).toNatClampNeg (Int32.ofInt 0).toNatClampNeg (Int32.ofInt n).toNatClampNeg = fun i : Nat => Int32.ofInt (if 0 ≤ (i : Int) ∧ (i : Int) < n then σ b0 i else σ b1 i) := by
      funext j
      rw [c0, cn]
      unfold va_cpy
      by_cases hj : (j : Int) < n
      · rw [if_pos (by omega), if_pos (by omega)]; simp
      · rw [if_neg (by omega), if_neg (by omega)]
    show va_P E.2.1 vwCl ((fnW E σ).set b1 (E.1 b1, .inl (E.2.2.1, n1, .inl (fun i : Nat => Int32.ofInt (if 0 ≤ (i : Int) ∧ (i : Int) < n then σ b0 i else σ b1 i))))) H1
    rw [← e2]
    exact hP1
  exact k H1 locs1 ls hP2 hS1 hl

theorem fn_iret {cc : ByteArray} {Post : Option Value → fnMem → Prop} {V : fnV} (h : fnRt cc (some .int) Post V) {pc nx : Nat} {lv : List Value} {z : Int} {σ : fnMem} (hd : fnD cc pc .ireturn 1 nx) (hp : Post (some (zI z)) σ) : V pc lv [zI z] σ := h.1 rfl pc nx lv z σ hd hp
theorem fn_zret {cc : ByteArray} {Post : Option Value → fnMem → Prop} {V : fnV} (h : fnRt cc (some .boolean) Post V) {pc nx : Nat} {lv : List Value} {z : Int} {σ : fnMem} (hd : fnD cc pc .ireturn 1 nx) (hz : z = 0 ∨ z = 1) (hp : Post (some (zI z)) σ) : V pc lv [zI z] σ := h.2.1 rfl pc nx lv z σ hd hz hp
theorem fn_lret {cc : ByteArray} {Post : Option Value → fnMem → Prop} {V : fnV} (h : fnRt cc (some .long) Post V) {pc nx : Nat} {lv : List Value} {z : Int} {σ : fnMem} (hd : fnD cc pc .lreturn 1 nx) (hp : Post (some (zL z)) σ) : V pc lv [zL z] σ := h.2.2.1 rfl pc nx lv z σ hd hp
theorem fn_vret {cc : ByteArray} {Post : Option Value → fnMem → Prop} {V : fnV} (h : fnRt cc none Post V) {pc nx : Nat} {lv : List Value} {σ : fnMem} (hd : fnD cc pc .return_ 1 nx) (hp : Post none σ) : V pc lv [] σ := h.2.2.2.1 rfl pc nx lv σ hd hp
theorem fn_aret {cc : ByteArray} {C : String} {Post : Option Value → fnMem → Prop} {V : fnV} (h : fnRt cc (some (.object C)) Post V) {pc nx : Nat} {lv : List Value} {k : Nat} {σ : fnMem} (hd : fnD cc pc .areturn 1 nx) (hp : Post (some (.ref k)) σ) : V pc lv [.ref k] σ := h.2.2.2.2 C rfl pc nx lv k σ hd hp
end
