section
/-- a private method of a class that the tables say can be made, by its rows of tables_1 -/
def lw_okq (q : MethodName × Nat) : Prop := (q.1.cls ≠ "java/lang/invoke/MethodHandle" ∧ q.1.cls ≠ "java/lang/invoke/VarHandle") ∧ Cond.instantiable q.1.cls q.2 ∈ tables_1 ∧ Cond.privateMethod q.1 ∈ tables_1 ∧ Cond.instanceMethod q.1 ∈ tables_1
theorem lw_p0 : lw_okq (⟨"EbbWreck", "putNumber", "(I)V"⟩, 15) := ⟨⟨by decide +kernel, by decide +kernel⟩, List.mem_of_getElem? (i := 23) (by decide +kernel), List.mem_of_getElem? (i := 454) (by decide +kernel), List.mem_of_getElem? (i := 455) (by decide +kernel)⟩
theorem lw_p1 : lw_okq (⟨"EbbWreck$Reader", "advance", "()V"⟩, 9) := ⟨⟨by decide +kernel, by decide +kernel⟩, List.mem_of_getElem? (i := 224) (by decide +kernel), List.mem_of_getElem? (i := 486) (by decide +kernel), List.mem_of_getElem? (i := 487) (by decide +kernel)⟩
theorem lw_p2 : lw_okq (⟨"EbbWreck$Reader", "isLong", "()Z"⟩, 9) := ⟨⟨by decide +kernel, by decide +kernel⟩, List.mem_of_getElem? (i := 224) (by decide +kernel), List.mem_of_getElem? (i := 493) (by decide +kernel), List.mem_of_getElem? (i := 494) (by decide +kernel)⟩
theorem lw_p3 : lw_okq (⟨"EbbWreck$Reader", "failed", "()Z"⟩, 9) := ⟨⟨by decide +kernel, by decide +kernel⟩, List.mem_of_getElem? (i := 224) (by decide +kernel), List.mem_of_getElem? (i := 498) (by decide +kernel), List.mem_of_getElem? (i := 499) (by decide +kernel)⟩
theorem lw_p4 : lw_okq (⟨"EbbWreck$Reader", "readLine", "()V"⟩, 9) := ⟨⟨by decide +kernel, by decide +kernel⟩, List.mem_of_getElem? (i := 224) (by decide +kernel), List.mem_of_getElem? (i := 502) (by decide +kernel), List.mem_of_getElem? (i := 503) (by decide +kernel)⟩
theorem lw_p5 : lw_okq (⟨"EbbWreck$Reader", "readShore", "()V"⟩, 9) := ⟨⟨by decide +kernel, by decide +kernel⟩, List.mem_of_getElem? (i := 224) (by decide +kernel), List.mem_of_getElem? (i := 506) (by decide +kernel), List.mem_of_getElem? (i := 507) (by decide +kernel)⟩
theorem lw_p6 : lw_okq (⟨"EbbWreck$Reader", "expectWord", "(Ljava/lang/String;)V"⟩, 9) := ⟨⟨by decide +kernel, by decide +kernel⟩, List.mem_of_getElem? (i := 224) (by decide +kernel), List.mem_of_getElem? (i := 511) (by decide +kernel), List.mem_of_getElem? (i := 512) (by decide +kernel)⟩
theorem lw_p7 : lw_okq (⟨"EbbWreck$Reader", "isWord", "(Ljava/lang/String;)Z"⟩, 9) := ⟨⟨by decide +kernel, by decide +kernel⟩, List.mem_of_getElem? (i := 224) (by decide +kernel), List.mem_of_getElem? (i := 515) (by decide +kernel), List.mem_of_getElem? (i := 516) (by decide +kernel)⟩
theorem lw_p8 : lw_okq (⟨"EbbWreck$Reader", "fail", "(I)V"⟩, 9) := ⟨⟨by decide +kernel, by decide +kernel⟩, List.mem_of_getElem? (i := 224) (by decide +kernel), List.mem_of_getElem? (i := 567) (by decide +kernel), List.mem_of_getElem? (i := 568) (by decide +kernel)⟩
theorem lw_p9 : lw_okq (⟨"EbbWreck$Reader", "expectNumber", "(II)I"⟩, 9) := ⟨⟨by decide +kernel, by decide +kernel⟩, List.mem_of_getElem? (i := 224) (by decide +kernel), List.mem_of_getElem? (i := 572) (by decide +kernel), List.mem_of_getElem? (i := 573) (by decide +kernel)⟩
theorem lw_p10 : lw_okq (⟨"EbbWreck$Reader", "readCurrent", "()V"⟩, 9) := ⟨⟨by decide +kernel, by decide +kernel⟩, List.mem_of_getElem? (i := 224) (by decide +kernel), List.mem_of_getElem? (i := 582) (by decide +kernel), List.mem_of_getElem? (i := 583) (by decide +kernel)⟩
theorem lw_p11 : lw_okq (⟨"EbbWreck$Reader", "readWay", "()I"⟩, 9) := ⟨⟨by decide +kernel, by decide +kernel⟩, List.mem_of_getElem? (i := 224) (by decide +kernel), List.mem_of_getElem? (i := 586) (by decide +kernel), List.mem_of_getElem? (i := 587) (by decide +kernel)⟩
theorem lw_p12 : lw_okq (⟨"EbbWreck$Reader", "readBeach", "()V"⟩, 9) := ⟨⟨by decide +kernel, by decide +kernel⟩, List.mem_of_getElem? (i := 224) (by decide +kernel), List.mem_of_getElem? (i := 592) (by decide +kernel), List.mem_of_getElem? (i := 593) (by decide +kernel)⟩
theorem lw_p13 : lw_okq (⟨"EbbWreck$Reader", "readThing", "()V"⟩, 9) := ⟨⟨by decide +kernel, by decide +kernel⟩, List.mem_of_getElem? (i := 224) (by decide +kernel), List.mem_of_getElem? (i := 597) (by decide +kernel), List.mem_of_getElem? (i := 598) (by decide +kernel)⟩
theorem lw_p14 : lw_okq (⟨"EbbWreck$Reader", "readRule", "()V"⟩, 9) := ⟨⟨by decide +kernel, by decide +kernel⟩, List.mem_of_getElem? (i := 224) (by decide +kernel), List.mem_of_getElem? (i := 605) (by decide +kernel), List.mem_of_getElem? (i := 606) (by decide +kernel)⟩
theorem lw_p15 : lw_okq (⟨"EbbWreck$Reader", "readPhases", "()I"⟩, 9) := ⟨⟨by decide +kernel, by decide +kernel⟩, List.mem_of_getElem? (i := 224) (by decide +kernel), List.mem_of_getElem? (i := 615) (by decide +kernel), List.mem_of_getElem? (i := 616) (by decide +kernel)⟩
def lw_privs_1 : List (MethodName × Nat) := [(⟨"EbbWreck", "putNumber", "(I)V"⟩, 15), (⟨"EbbWreck$Reader", "advance", "()V"⟩, 9), (⟨"EbbWreck$Reader", "isLong", "()Z"⟩, 9), (⟨"EbbWreck$Reader", "failed", "()Z"⟩, 9), (⟨"EbbWreck$Reader", "readLine", "()V"⟩, 9), (⟨"EbbWreck$Reader", "readShore", "()V"⟩, 9), (⟨"EbbWreck$Reader", "expectWord", "(Ljava/lang/String;)V"⟩, 9), (⟨"EbbWreck$Reader", "isWord", "(Ljava/lang/String;)Z"⟩, 9), (⟨"EbbWreck$Reader", "fail", "(I)V"⟩, 9), (⟨"EbbWreck$Reader", "expectNumber", "(II)I"⟩, 9), (⟨"EbbWreck$Reader", "readCurrent", "()V"⟩, 9), (⟨"EbbWreck$Reader", "readWay", "()I"⟩, 9), (⟨"EbbWreck$Reader", "readBeach", "()V"⟩, 9), (⟨"EbbWreck$Reader", "readThing", "()V"⟩, 9), (⟨"EbbWreck$Reader", "readRule", "()V"⟩, 9), (⟨"EbbWreck$Reader", "readPhases", "()I"⟩, 9)]
theorem lw_r1 : ∀ q ∈ lw_privs_1, lw_okq q := List.forall_mem_cons.mpr ⟨lw_p0, List.forall_mem_cons.mpr ⟨lw_p1, List.forall_mem_cons.mpr ⟨lw_p2, List.forall_mem_cons.mpr ⟨lw_p3, List.forall_mem_cons.mpr ⟨lw_p4, List.forall_mem_cons.mpr ⟨lw_p5, List.forall_mem_cons.mpr ⟨lw_p6, List.forall_mem_cons.mpr ⟨lw_p7, List.forall_mem_cons.mpr ⟨lw_p8, List.forall_mem_cons.mpr ⟨lw_p9, List.forall_mem_cons.mpr ⟨lw_p10, List.forall_mem_cons.mpr ⟨lw_p11, List.forall_mem_cons.mpr ⟨lw_p12, List.forall_mem_cons.mpr ⟨lw_p13, List.forall_mem_cons.mpr ⟨lw_p14, List.forall_mem_cons.mpr ⟨lw_p15, fun _ h => absurd h List.not_mem_nil⟩⟩⟩⟩⟩⟩⟩⟩⟩⟩⟩⟩⟩⟩⟩⟩
theorem lw_p16 : lw_okq (⟨"EbbWreck$Reader", "readSitter", "()V"⟩, 9) := ⟨⟨by decide +kernel, by decide +kernel⟩, List.mem_of_getElem? (i := 224) (by decide +kernel), List.mem_of_getElem? (i := 625) (by decide +kernel), List.mem_of_getElem? (i := 626) (by decide +kernel)⟩
theorem lw_p17 : lw_okq (⟨"EbbWreck$Reader", "expectSign", "()V"⟩, 9) := ⟨⟨by decide +kernel, by decide +kernel⟩, List.mem_of_getElem? (i := 224) (by decide +kernel), List.mem_of_getElem? (i := 629) (by decide +kernel), List.mem_of_getElem? (i := 630) (by decide +kernel)⟩
theorem lw_p18 : lw_okq (⟨"EbbWreck$Drift", "layWays", "(I)V"⟩, 9) := ⟨⟨by decide +kernel, by decide +kernel⟩, List.mem_of_getElem? (i := 261) (by decide +kernel), List.mem_of_getElem? (i := 662) (by decide +kernel), List.mem_of_getElem? (i := 663) (by decide +kernel)⟩
theorem lw_p19 : lw_okq (⟨"EbbWreck", "isTideHour", "(I)Z"⟩, 15) := ⟨⟨by decide +kernel, by decide +kernel⟩, List.mem_of_getElem? (i := 23) (by decide +kernel), List.mem_of_getElem? (i := 762) (by decide +kernel), List.mem_of_getElem? (i := 763) (by decide +kernel)⟩
theorem lw_p20 : lw_okq (⟨"EbbWreck", "isAskedParty", "(I)Z"⟩, 15) := ⟨⟨by decide +kernel, by decide +kernel⟩, List.mem_of_getElem? (i := 23) (by decide +kernel), List.mem_of_getElem? (i := 851) (by decide +kernel), List.mem_of_getElem? (i := 852) (by decide +kernel)⟩
theorem lw_p21 : lw_okq (⟨"EbbWreck$Drift", "traceAfloat", "(I[I)V"⟩, 9) := ⟨⟨by decide +kernel, by decide +kernel⟩, List.mem_of_getElem? (i := 261) (by decide +kernel), List.mem_of_getElem? (i := 880) (by decide +kernel), List.mem_of_getElem? (i := 881) (by decide +kernel)⟩
theorem lw_p22 : lw_okq (⟨"EbbWreck$Drift", "upPhase", "(I)I"⟩, 9) := ⟨⟨by decide +kernel, by decide +kernel⟩, List.mem_of_getElem? (i := 261) (by decide +kernel), List.mem_of_getElem? (i := 893) (by decide +kernel), List.mem_of_getElem? (i := 894) (by decide +kernel)⟩
theorem lw_p23 : lw_okq (⟨"EbbWreck", "isWish", "(II)Z"⟩, 15) := ⟨⟨by decide +kernel, by decide +kernel⟩, List.mem_of_getElem? (i := 23) (by decide +kernel), List.mem_of_getElem? (i := 932) (by decide +kernel), List.mem_of_getElem? (i := 933) (by decide +kernel)⟩
theorem lw_p24 : lw_okq (⟨"EbbWreck$Pushing", "plan", "(IZI)V"⟩, 4) := ⟨⟨by decide +kernel, by decide +kernel⟩, List.mem_of_getElem? (i := 298) (by decide +kernel), List.mem_of_getElem? (i := 940) (by decide +kernel), List.mem_of_getElem? (i := 941) (by decide +kernel)⟩
theorem lw_p25 : lw_okq (⟨"EbbWreck$Pushing", "costBy", "(III)I"⟩, 4) := ⟨⟨by decide +kernel, by decide +kernel⟩, List.mem_of_getElem? (i := 298) (by decide +kernel), List.mem_of_getElem? (i := 946) (by decide +kernel), List.mem_of_getElem? (i := 947) (by decide +kernel)⟩
theorem lw_p26 : lw_okq (⟨"EbbWreck$Pushing", "costOf", "(I)I"⟩, 4) := ⟨⟨by decide +kernel, by decide +kernel⟩, List.mem_of_getElem? (i := 298) (by decide +kernel), List.mem_of_getElem? (i := 957) (by decide +kernel), List.mem_of_getElem? (i := 958) (by decide +kernel)⟩
theorem lw_p27 : lw_okq (⟨"EbbWreck$Pushing", "firstWay", "(II)I"⟩, 4) := ⟨⟨by decide +kernel, by decide +kernel⟩, List.mem_of_getElem? (i := 298) (by decide +kernel), List.mem_of_getElem? (i := 969) (by decide +kernel), List.mem_of_getElem? (i := 970) (by decide +kernel)⟩
theorem lw_p28 : lw_okq (⟨"EbbWreck$Pushing", "reachedFrom", "(II)I"⟩, 4) := ⟨⟨by decide +kernel, by decide +kernel⟩, List.mem_of_getElem? (i := 298) (by decide +kernel), List.mem_of_getElem? (i := 985) (by decide +kernel), List.mem_of_getElem? (i := 986) (by decide +kernel)⟩
theorem lw_p29 : lw_okq (⟨"EbbWreck$Pushing", "isWonBy", "(III)Z"⟩, 4) := ⟨⟨by decide +kernel, by decide +kernel⟩, List.mem_of_getElem? (i := 298) (by decide +kernel), List.mem_of_getElem? (i := 989) (by decide +kernel), List.mem_of_getElem? (i := 990) (by decide +kernel)⟩
theorem lw_p30 : lw_okq (⟨"EbbWreck$Throwing", "findFates", "(I)V"⟩, 3) := ⟨⟨by decide +kernel, by decide +kernel⟩, List.mem_of_getElem? (i := 317) (by decide +kernel), List.mem_of_getElem? (i := 1023) (by decide +kernel), List.mem_of_getElem? (i := 1024) (by decide +kernel)⟩
theorem lw_p31 : lw_okq (⟨"EbbWreck$Throwing", "startFates", "()V"⟩, 3) := ⟨⟨by decide +kernel, by decide +kernel⟩, List.mem_of_getElem? (i := 317) (by decide +kernel), List.mem_of_getElem? (i := 1027) (by decide +kernel), List.mem_of_getElem? (i := 1028) (by decide +kernel)⟩
def lw_privs_2 : List (MethodName × Nat) := [(⟨"EbbWreck$Reader", "readSitter", "()V"⟩, 9), (⟨"EbbWreck$Reader", "expectSign", "()V"⟩, 9), (⟨"EbbWreck$Drift", "layWays", "(I)V"⟩, 9), (⟨"EbbWreck", "isTideHour", "(I)Z"⟩, 15), (⟨"EbbWreck", "isAskedParty", "(I)Z"⟩, 15), (⟨"EbbWreck$Drift", "traceAfloat", "(I[I)V"⟩, 9), (⟨"EbbWreck$Drift", "upPhase", "(I)I"⟩, 9), (⟨"EbbWreck", "isWish", "(II)Z"⟩, 15), (⟨"EbbWreck$Pushing", "plan", "(IZI)V"⟩, 4), (⟨"EbbWreck$Pushing", "costBy", "(III)I"⟩, 4), (⟨"EbbWreck$Pushing", "costOf", "(I)I"⟩, 4), (⟨"EbbWreck$Pushing", "firstWay", "(II)I"⟩, 4), (⟨"EbbWreck$Pushing", "reachedFrom", "(II)I"⟩, 4), (⟨"EbbWreck$Pushing", "isWonBy", "(III)Z"⟩, 4), (⟨"EbbWreck$Throwing", "findFates", "(I)V"⟩, 3), (⟨"EbbWreck$Throwing", "startFates", "()V"⟩, 3)]
theorem lw_r2 : ∀ q ∈ lw_privs_2, lw_okq q := List.forall_mem_cons.mpr ⟨lw_p16, List.forall_mem_cons.mpr ⟨lw_p17, List.forall_mem_cons.mpr ⟨lw_p18, List.forall_mem_cons.mpr ⟨lw_p19, List.forall_mem_cons.mpr ⟨lw_p20, List.forall_mem_cons.mpr ⟨lw_p21, List.forall_mem_cons.mpr ⟨lw_p22, List.forall_mem_cons.mpr ⟨lw_p23, List.forall_mem_cons.mpr ⟨lw_p24, List.forall_mem_cons.mpr ⟨lw_p25, List.forall_mem_cons.mpr ⟨lw_p26, List.forall_mem_cons.mpr ⟨lw_p27, List.forall_mem_cons.mpr ⟨lw_p28, List.forall_mem_cons.mpr ⟨lw_p29, List.forall_mem_cons.mpr ⟨lw_p30, List.forall_mem_cons.mpr ⟨lw_p31, fun _ h => absurd h List.not_mem_nil⟩⟩⟩⟩⟩⟩⟩⟩⟩⟩⟩⟩⟩⟩⟩⟩
theorem lw_p32 : lw_okq (⟨"EbbWreck$Throwing", "stepFates", "(I)V"⟩, 3) := ⟨⟨by decide +kernel, by decide +kernel⟩, List.mem_of_getElem? (i := 317) (by decide +kernel), List.mem_of_getElem? (i := 1032) (by decide +kernel), List.mem_of_getElem? (i := 1033) (by decide +kernel)⟩
theorem lw_p33 : lw_okq (⟨"EbbWreck$Throwing", "cellsOf", "(I)I"⟩, 3) := ⟨⟨by decide +kernel, by decide +kernel⟩, List.mem_of_getElem? (i := 317) (by decide +kernel), List.mem_of_getElem? (i := 1038) (by decide +kernel), List.mem_of_getElem? (i := 1039) (by decide +kernel)⟩
theorem lw_p34 : lw_okq (⟨"EbbWreck$Throwing", "cellsInto", "(II)I"⟩, 3) := ⟨⟨by decide +kernel, by decide +kernel⟩, List.mem_of_getElem? (i := 317) (by decide +kernel), List.mem_of_getElem? (i := 1067) (by decide +kernel), List.mem_of_getElem? (i := 1068) (by decide +kernel)⟩
theorem lw_p35 : lw_okq (⟨"EbbWreck$Floats", "areAllSuch", "([JI)Z"⟩, 5) := ⟨⟨by decide +kernel, by decide +kernel⟩, List.mem_of_getElem? (i := 382) (by decide +kernel), List.mem_of_getElem? (i := 1092) (by decide +kernel), List.mem_of_getElem? (i := 1093) (by decide +kernel)⟩
theorem lw_p36 : lw_okq (⟨"EbbWreck$Floats", "isCell", "(J)Z"⟩, 5) := ⟨⟨by decide +kernel, by decide +kernel⟩, List.mem_of_getElem? (i := 382) (by decide +kernel), List.mem_of_getElem? (i := 1096) (by decide +kernel), List.mem_of_getElem? (i := 1097) (by decide +kernel)⟩
theorem lw_p37 : lw_okq (⟨"EbbWreck$Floats", "fitsAll", "(I[JI)Z"⟩, 5) := ⟨⟨by decide +kernel, by decide +kernel⟩, List.mem_of_getElem? (i := 382) (by decide +kernel), List.mem_of_getElem? (i := 1104) (by decide +kernel), List.mem_of_getElem? (i := 1105) (by decide +kernel)⟩
theorem lw_p38 : lw_okq (⟨"EbbWreck$Floats", "carried", "(IIII)I"⟩, 5) := ⟨⟨by decide +kernel, by decide +kernel⟩, List.mem_of_getElem? (i := 382) (by decide +kernel), List.mem_of_getElem? (i := 1108) (by decide +kernel), List.mem_of_getElem? (i := 1109) (by decide +kernel)⟩
theorem lw_p39 : lw_okq (⟨"EbbWreck$Seating", "payFor", "(II)I"⟩, 5) := ⟨⟨by decide +kernel, by decide +kernel⟩, List.mem_of_getElem? (i := 333) (by decide +kernel), List.mem_of_getElem? (i := 1174) (by decide +kernel), List.mem_of_getElem? (i := 1175) (by decide +kernel)⟩
theorem lw_p40 : lw_okq (⟨"EbbWreck$Seating", "layPays", "()V"⟩, 5) := ⟨⟨by decide +kernel, by decide +kernel⟩, List.mem_of_getElem? (i := 333) (by decide +kernel), List.mem_of_getElem? (i := 1199) (by decide +kernel), List.mem_of_getElem? (i := 1200) (by decide +kernel)⟩
theorem lw_p41 : lw_okq (⟨"EbbWreck$Seating", "countWays", "()I"⟩, 5) := ⟨⟨by decide +kernel, by decide +kernel⟩, List.mem_of_getElem? (i := 333) (by decide +kernel), List.mem_of_getElem? (i := 1203) (by decide +kernel), List.mem_of_getElem? (i := 1204) (by decide +kernel)⟩
theorem lw_p42 : lw_okq (⟨"EbbWreck$Seating", "tryWay", "(I)Z"⟩, 5) := ⟨⟨by decide +kernel, by decide +kernel⟩, List.mem_of_getElem? (i := 333) (by decide +kernel), List.mem_of_getElem? (i := 1207) (by decide +kernel), List.mem_of_getElem? (i := 1208) (by decide +kernel)⟩
theorem lw_p43 : lw_okq (⟨"EbbWreck$Seating", "isRest", "()Z"⟩, 5) := ⟨⟨by decide +kernel, by decide +kernel⟩, List.mem_of_getElem? (i := 333) (by decide +kernel), List.mem_of_getElem? (i := 1213) (by decide +kernel), List.mem_of_getElem? (i := 1214) (by decide +kernel)⟩
theorem lw_p44 : lw_okq (⟨"EbbWreck$Seating", "wouldMove", "(I)Z"⟩, 5) := ⟨⟨by decide +kernel, by decide +kernel⟩, List.mem_of_getElem? (i := 333) (by decide +kernel), List.mem_of_getElem? (i := 1217) (by decide +kernel), List.mem_of_getElem? (i := 1218) (by decide +kernel)⟩
theorem lw_p45 : lw_okq (⟨"EbbWreck$Acts", "addAct", "(III)V"⟩, 4) := ⟨⟨by decide +kernel, by decide +kernel⟩, List.mem_of_getElem? (i := 97) (by decide +kernel), List.mem_of_getElem? (i := 1241) (by decide +kernel), List.mem_of_getElem? (i := 1242) (by decide +kernel)⟩
theorem lw_p46 : lw_okq (⟨"EbbWreck", "isGale", "(II)Z"⟩, 15) := ⟨⟨by decide +kernel, by decide +kernel⟩, List.mem_of_getElem? (i := 23) (by decide +kernel), List.mem_of_getElem? (i := 1284) (by decide +kernel), List.mem_of_getElem? (i := 1285) (by decide +kernel)⟩
theorem lw_p47 : lw_okq (⟨"EbbWreckModel", "four", "(I)V"⟩, 38) := ⟨⟨by decide +kernel, by decide +kernel⟩, List.mem_of_getElem? (i := 1350) (by decide +kernel), List.mem_of_getElem? (i := 1497) (by decide +kernel), List.mem_of_getElem? (i := 1498) (by decide +kernel)⟩
def lw_privs_3 : List (MethodName × Nat) := [(⟨"EbbWreck$Throwing", "stepFates", "(I)V"⟩, 3), (⟨"EbbWreck$Throwing", "cellsOf", "(I)I"⟩, 3), (⟨"EbbWreck$Throwing", "cellsInto", "(II)I"⟩, 3), (⟨"EbbWreck$Floats", "areAllSuch", "([JI)Z"⟩, 5), (⟨"EbbWreck$Floats", "isCell", "(J)Z"⟩, 5), (⟨"EbbWreck$Floats", "fitsAll", "(I[JI)Z"⟩, 5), (⟨"EbbWreck$Floats", "carried", "(IIII)I"⟩, 5), (⟨"EbbWreck$Seating", "payFor", "(II)I"⟩, 5), (⟨"EbbWreck$Seating", "layPays", "()V"⟩, 5), (⟨"EbbWreck$Seating", "countWays", "()I"⟩, 5), (⟨"EbbWreck$Seating", "tryWay", "(I)Z"⟩, 5), (⟨"EbbWreck$Seating", "isRest", "()Z"⟩, 5), (⟨"EbbWreck$Seating", "wouldMove", "(I)Z"⟩, 5), (⟨"EbbWreck$Acts", "addAct", "(III)V"⟩, 4), (⟨"EbbWreck", "isGale", "(II)Z"⟩, 15), (⟨"EbbWreckModel", "four", "(I)V"⟩, 38)]
theorem lw_r3 : ∀ q ∈ lw_privs_3, lw_okq q := List.forall_mem_cons.mpr ⟨lw_p32, List.forall_mem_cons.mpr ⟨lw_p33, List.forall_mem_cons.mpr ⟨lw_p34, List.forall_mem_cons.mpr ⟨lw_p35, List.forall_mem_cons.mpr ⟨lw_p36, List.forall_mem_cons.mpr ⟨lw_p37, List.forall_mem_cons.mpr ⟨lw_p38, List.forall_mem_cons.mpr ⟨lw_p39, List.forall_mem_cons.mpr ⟨lw_p40, List.forall_mem_cons.mpr ⟨lw_p41, List.forall_mem_cons.mpr ⟨lw_p42, List.forall_mem_cons.mpr ⟨lw_p43, List.forall_mem_cons.mpr ⟨lw_p44, List.forall_mem_cons.mpr ⟨lw_p45, List.forall_mem_cons.mpr ⟨lw_p46, List.forall_mem_cons.mpr ⟨lw_p47, fun _ h => absurd h List.not_mem_nil⟩⟩⟩⟩⟩⟩⟩⟩⟩⟩⟩⟩⟩⟩⟩⟩
theorem lw_p48 : lw_okq (⟨"EbbWreckModel", "clears", "()V"⟩, 38) := ⟨⟨by decide +kernel, by decide +kernel⟩, List.mem_of_getElem? (i := 1350) (by decide +kernel), List.mem_of_getElem? (i := 1513) (by decide +kernel), List.mem_of_getElem? (i := 1514) (by decide +kernel)⟩
theorem lw_p49 : lw_okq (⟨"EbbWreckModel", "tells", "(II)V"⟩, 38) := ⟨⟨by decide +kernel, by decide +kernel⟩, List.mem_of_getElem? (i := 1350) (by decide +kernel), List.mem_of_getElem? (i := 1517) (by decide +kernel), List.mem_of_getElem? (i := 1518) (by decide +kernel)⟩
theorem lw_p50 : lw_okq (⟨"EbbWreckModel", "begins", "()V"⟩, 38) := ⟨⟨by decide +kernel, by decide +kernel⟩, List.mem_of_getElem? (i := 1350) (by decide +kernel), List.mem_of_getElem? (i := 1521) (by decide +kernel), List.mem_of_getElem? (i := 1522) (by decide +kernel)⟩
theorem lw_p51 : lw_okq (⟨"EbbWreckModel", "next", "()V"⟩, 38) := ⟨⟨by decide +kernel, by decide +kernel⟩, List.mem_of_getElem? (i := 1350) (by decide +kernel), List.mem_of_getElem? (i := 1525) (by decide +kernel), List.mem_of_getElem? (i := 1526) (by decide +kernel)⟩
theorem lw_p52 : lw_okq (⟨"EbbWreckModel", "isByte", "(III)Z"⟩, 38) := ⟨⟨by decide +kernel, by decide +kernel⟩, List.mem_of_getElem? (i := 1350) (by decide +kernel), List.mem_of_getElem? (i := 1529) (by decide +kernel), List.mem_of_getElem? (i := 1530) (by decide +kernel)⟩
theorem lw_p53 : lw_okq (⟨"EbbWreckModel", "isGood", "()Z"⟩, 38) := ⟨⟨by decide +kernel, by decide +kernel⟩, List.mem_of_getElem? (i := 1350) (by decide +kernel), List.mem_of_getElem? (i := 1538) (by decide +kernel), List.mem_of_getElem? (i := 1539) (by decide +kernel)⟩
theorem lw_p54 : lw_okq (⟨"EbbWreckModel", "asks", "(J)V"⟩, 38) := ⟨⟨by decide +kernel, by decide +kernel⟩, List.mem_of_getElem? (i := 1350) (by decide +kernel), List.mem_of_getElem? (i := 1543) (by decide +kernel), List.mem_of_getElem? (i := 1544) (by decide +kernel)⟩
theorem lw_p55 : lw_okq (⟨"EbbWreckModel", "takes", "(J)Z"⟩, 38) := ⟨⟨by decide +kernel, by decide +kernel⟩, List.mem_of_getElem? (i := 1350) (by decide +kernel), List.mem_of_getElem? (i := 1547) (by decide +kernel), List.mem_of_getElem? (i := 1548) (by decide +kernel)⟩
theorem lw_p56 : lw_okq (⟨"EbbWreckModel", "is", "(J)Z"⟩, 38) := ⟨⟨by decide +kernel, by decide +kernel⟩, List.mem_of_getElem? (i := 1350) (by decide +kernel), List.mem_of_getElem? (i := 1551) (by decide +kernel), List.mem_of_getElem? (i := 1552) (by decide +kernel)⟩
theorem lw_p57 : lw_okq (⟨"EbbWreckModel", "fails", "(I)V"⟩, 38) := ⟨⟨by decide +kernel, by decide +kernel⟩, List.mem_of_getElem? (i := 1350) (by decide +kernel), List.mem_of_getElem? (i := 1555) (by decide +kernel), List.mem_of_getElem? (i := 1556) (by decide +kernel)⟩
theorem lw_p58 : lw_okq (⟨"EbbWreckModel", "number", "(JII)I"⟩, 38) := ⟨⟨by decide +kernel, by decide +kernel⟩, List.mem_of_getElem? (i := 1350) (by decide +kernel), List.mem_of_getElem? (i := 1560) (by decide +kernel), List.mem_of_getElem? (i := 1561) (by decide +kernel)⟩
theorem lw_p59 : lw_okq (⟨"EbbWreckModel", "number", "(II)I"⟩, 38) := ⟨⟨by decide +kernel, by decide +kernel⟩, List.mem_of_getElem? (i := 1350) (by decide +kernel), List.mem_of_getElem? (i := 1564) (by decide +kernel), List.mem_of_getElem? (i := 1565) (by decide +kernel)⟩
theorem lw_p60 : lw_okq (⟨"EbbWreckModel", "line", "()V"⟩, 38) := ⟨⟨by decide +kernel, by decide +kernel⟩, List.mem_of_getElem? (i := 1350) (by decide +kernel), List.mem_of_getElem? (i := 1572) (by decide +kernel), List.mem_of_getElem? (i := 1573) (by decide +kernel)⟩
theorem lw_p61 : lw_okq (⟨"EbbWreckModel", "currentLine", "()V"⟩, 38) := ⟨⟨by decide +kernel, by decide +kernel⟩, List.mem_of_getElem? (i := 1350) (by decide +kernel), List.mem_of_getElem? (i := 1577) (by decide +kernel), List.mem_of_getElem? (i := 1578) (by decide +kernel)⟩
theorem lw_p62 : lw_okq (⟨"EbbWreckModel", "cellHere", "()I"⟩, 38) := ⟨⟨by decide +kernel, by decide +kernel⟩, List.mem_of_getElem? (i := 1350) (by decide +kernel), List.mem_of_getElem? (i := 1581) (by decide +kernel), List.mem_of_getElem? (i := 1582) (by decide +kernel)⟩
theorem lw_p63 : lw_okq (⟨"EbbWreckModel", "hasRead", "(I)I"⟩, 38) := ⟨⟨by decide +kernel, by decide +kernel⟩, List.mem_of_getElem? (i := 1350) (by decide +kernel), List.mem_of_getElem? (i := 1585) (by decide +kernel), List.mem_of_getElem? (i := 1586) (by decide +kernel)⟩
def lw_privs_4 : List (MethodName × Nat) := [(⟨"EbbWreckModel", "clears", "()V"⟩, 38), (⟨"EbbWreckModel", "tells", "(II)V"⟩, 38), (⟨"EbbWreckModel", "begins", "()V"⟩, 38), (⟨"EbbWreckModel", "next", "()V"⟩, 38), (⟨"EbbWreckModel", "isByte", "(III)Z"⟩, 38), (⟨"EbbWreckModel", "isGood", "()Z"⟩, 38), (⟨"EbbWreckModel", "asks", "(J)V"⟩, 38), (⟨"EbbWreckModel", "takes", "(J)Z"⟩, 38), (⟨"EbbWreckModel", "is", "(J)Z"⟩, 38), (⟨"EbbWreckModel", "fails", "(I)V"⟩, 38), (⟨"EbbWreckModel", "number", "(JII)I"⟩, 38), (⟨"EbbWreckModel", "number", "(II)I"⟩, 38), (⟨"EbbWreckModel", "line", "()V"⟩, 38), (⟨"EbbWreckModel", "currentLine", "()V"⟩, 38), (⟨"EbbWreckModel", "cellHere", "()I"⟩, 38), (⟨"EbbWreckModel", "hasRead", "(I)I"⟩, 38)]
theorem lw_r4 : ∀ q ∈ lw_privs_4, lw_okq q := List.forall_mem_cons.mpr ⟨lw_p48, List.forall_mem_cons.mpr ⟨lw_p49, List.forall_mem_cons.mpr ⟨lw_p50, List.forall_mem_cons.mpr ⟨lw_p51, List.forall_mem_cons.mpr ⟨lw_p52, List.forall_mem_cons.mpr ⟨lw_p53, List.forall_mem_cons.mpr ⟨lw_p54, List.forall_mem_cons.mpr ⟨lw_p55, List.forall_mem_cons.mpr ⟨lw_p56, List.forall_mem_cons.mpr ⟨lw_p57, List.forall_mem_cons.mpr ⟨lw_p58, List.forall_mem_cons.mpr ⟨lw_p59, List.forall_mem_cons.mpr ⟨lw_p60, List.forall_mem_cons.mpr ⟨lw_p61, List.forall_mem_cons.mpr ⟨lw_p62, List.forall_mem_cons.mpr ⟨lw_p63, fun _ h => absurd h List.not_mem_nil⟩⟩⟩⟩⟩⟩⟩⟩⟩⟩⟩⟩⟩⟩⟩⟩
theorem lw_p64 : lw_okq (⟨"EbbWreckModel", "stepsHere", "()I"⟩, 38) := ⟨⟨by decide +kernel, by decide +kernel⟩, List.mem_of_getElem? (i := 1350) (by decide +kernel), List.mem_of_getElem? (i := 1589) (by decide +kernel), List.mem_of_getElem? (i := 1590) (by decide +kernel)⟩
theorem lw_p65 : lw_okq (⟨"EbbWreckModel", "isRoom", "(ZII)Z"⟩, 38) := ⟨⟨by decide +kernel, by decide +kernel⟩, List.mem_of_getElem? (i := 1350) (by decide +kernel), List.mem_of_getElem? (i := 1596) (by decide +kernel), List.mem_of_getElem? (i := 1597) (by decide +kernel)⟩
theorem lw_p66 : lw_okq (⟨"EbbWreckModel", "thingLine", "()V"⟩, 38) := ⟨⟨by decide +kernel, by decide +kernel⟩, List.mem_of_getElem? (i := 1350) (by decide +kernel), List.mem_of_getElem? (i := 1600) (by decide +kernel), List.mem_of_getElem? (i := 1601) (by decide +kernel)⟩
theorem lw_p67 : lw_okq (⟨"EbbWreckModel", "ruleLine", "()V"⟩, 38) := ⟨⟨by decide +kernel, by decide +kernel⟩, List.mem_of_getElem? (i := 1350) (by decide +kernel), List.mem_of_getElem? (i := 1608) (by decide +kernel), List.mem_of_getElem? (i := 1609) (by decide +kernel)⟩
theorem lw_p68 : lw_okq (⟨"EbbWreckModel", "phaseHere", "()I"⟩, 38) := ⟨⟨by decide +kernel, by decide +kernel⟩, List.mem_of_getElem? (i := 1350) (by decide +kernel), List.mem_of_getElem? (i := 1614) (by decide +kernel), List.mem_of_getElem? (i := 1615) (by decide +kernel)⟩
theorem lw_p69 : lw_okq (⟨"EbbWreckModel", "ends", "()V"⟩, 38) := ⟨⟨by decide +kernel, by decide +kernel⟩, List.mem_of_getElem? (i := 1350) (by decide +kernel), List.mem_of_getElem? (i := 1619) (by decide +kernel), List.mem_of_getElem? (i := 1620) (by decide +kernel)⟩
theorem lw_p70 : lw_okq (⟨"EbbWreckModel", "isOver", "()V"⟩, 38) := ⟨⟨by decide +kernel, by decide +kernel⟩, List.mem_of_getElem? (i := 1350) (by decide +kernel), List.mem_of_getElem? (i := 1623) (by decide +kernel), List.mem_of_getElem? (i := 1624) (by decide +kernel)⟩
theorem lw_p71 : lw_okq (⟨"EbbWreckModel", "copyShore", "(II)V"⟩, 38) := ⟨⟨by decide +kernel, by decide +kernel⟩, List.mem_of_getElem? (i := 1350) (by decide +kernel), List.mem_of_getElem? (i := 1627) (by decide +kernel), List.mem_of_getElem? (i := 1628) (by decide +kernel)⟩
theorem lw_p72 : lw_okq (⟨"EbbWreckModel", "isCell", "(J)Z"⟩, 38) := ⟨⟨by decide +kernel, by decide +kernel⟩, List.mem_of_getElem? (i := 1350) (by decide +kernel), List.mem_of_getElem? (i := 1638) (by decide +kernel), List.mem_of_getElem? (i := 1639) (by decide +kernel)⟩
theorem lw_p73 : lw_okq (⟨"EbbWreckModel", "isBeach", "(I)Z"⟩, 38) := ⟨⟨by decide +kernel, by decide +kernel⟩, List.mem_of_getElem? (i := 1350) (by decide +kernel), List.mem_of_getElem? (i := 1643) (by decide +kernel), List.mem_of_getElem? (i := 1644) (by decide +kernel)⟩
theorem lw_p74 : lw_okq (⟨"EbbWreckModel", "isThing", "(I)Z"⟩, 38) := ⟨⟨by decide +kernel, by decide +kernel⟩, List.mem_of_getElem? (i := 1350) (by decide +kernel), List.mem_of_getElem? (i := 1654) (by decide +kernel), List.mem_of_getElem? (i := 1655) (by decide +kernel)⟩
theorem lw_p75 : lw_okq (⟨"EbbWreckModel", "isRule", "(I)Z"⟩, 38) := ⟨⟨by decide +kernel, by decide +kernel⟩, List.mem_of_getElem? (i := 1350) (by decide +kernel), List.mem_of_getElem? (i := 1662) (by decide +kernel), List.mem_of_getElem? (i := 1663) (by decide +kernel)⟩
theorem lw_p76 : lw_okq (⟨"EbbWreckModel", "isShore", "()Z"⟩, 38) := ⟨⟨by decide +kernel, by decide +kernel⟩, List.mem_of_getElem? (i := 1350) (by decide +kernel), List.mem_of_getElem? (i := 1670) (by decide +kernel), List.mem_of_getElem? (i := 1671) (by decide +kernel)⟩
theorem lw_p77 : lw_okq (⟨"EbbWreckModel", "phaseOf", "(I)I"⟩, 38) := ⟨⟨by decide +kernel, by decide +kernel⟩, List.mem_of_getElem? (i := 1350) (by decide +kernel), List.mem_of_getElem? (i := 1675) (by decide +kernel), List.mem_of_getElem? (i := 1676) (by decide +kernel)⟩
theorem lw_p78 : lw_okq (⟨"EbbWreckModel", "round", "()I"⟩, 38) := ⟨⟨by decide +kernel, by decide +kernel⟩, List.mem_of_getElem? (i := 1350) (by decide +kernel), List.mem_of_getElem? (i := 1679) (by decide +kernel), List.mem_of_getElem? (i := 1680) (by decide +kernel)⟩
theorem lw_p79 : lw_okq (⟨"EbbWreckModel", "on", "(II)I"⟩, 38) := ⟨⟨by decide +kernel, by decide +kernel⟩, List.mem_of_getElem? (i := 1350) (by decide +kernel), List.mem_of_getElem? (i := 1692) (by decide +kernel), List.mem_of_getElem? (i := 1693) (by decide +kernel)⟩
def lw_privs_5 : List (MethodName × Nat) := [(⟨"EbbWreckModel", "stepsHere", "()I"⟩, 38), (⟨"EbbWreckModel", "isRoom", "(ZII)Z"⟩, 38), (⟨"EbbWreckModel", "thingLine", "()V"⟩, 38), (⟨"EbbWreckModel", "ruleLine", "()V"⟩, 38), (⟨"EbbWreckModel", "phaseHere", "()I"⟩, 38), (⟨"EbbWreckModel", "ends", "()V"⟩, 38), (⟨"EbbWreckModel", "isOver", "()V"⟩, 38), (⟨"EbbWreckModel", "copyShore", "(II)V"⟩, 38), (⟨"EbbWreckModel", "isCell", "(J)Z"⟩, 38), (⟨"EbbWreckModel", "isBeach", "(I)Z"⟩, 38), (⟨"EbbWreckModel", "isThing", "(I)Z"⟩, 38), (⟨"EbbWreckModel", "isRule", "(I)Z"⟩, 38), (⟨"EbbWreckModel", "isShore", "()Z"⟩, 38), (⟨"EbbWreckModel", "phaseOf", "(I)I"⟩, 38), (⟨"EbbWreckModel", "round", "()I"⟩, 38), (⟨"EbbWreckModel", "on", "(II)I"⟩, 38)]
theorem lw_r5 : ∀ q ∈ lw_privs_5, lw_okq q := List.forall_mem_cons.mpr ⟨lw_p64, List.forall_mem_cons.mpr ⟨lw_p65, List.forall_mem_cons.mpr ⟨lw_p66, List.forall_mem_cons.mpr ⟨lw_p67, List.forall_mem_cons.mpr ⟨lw_p68, List.forall_mem_cons.mpr ⟨lw_p69, List.forall_mem_cons.mpr ⟨lw_p70, List.forall_mem_cons.mpr ⟨lw_p71, List.forall_mem_cons.mpr ⟨lw_p72, List.forall_mem_cons.mpr ⟨lw_p73, List.forall_mem_cons.mpr ⟨lw_p74, List.forall_mem_cons.mpr ⟨lw_p75, List.forall_mem_cons.mpr ⟨lw_p76, List.forall_mem_cons.mpr ⟨lw_p77, List.forall_mem_cons.mpr ⟨lw_p78, List.forall_mem_cons.mpr ⟨lw_p79, fun _ h => absurd h List.not_mem_nil⟩⟩⟩⟩⟩⟩⟩⟩⟩⟩⟩⟩⟩⟩⟩⟩
theorem lw_p80 : lw_okq (⟨"EbbWreckModel", "held", "(I)I"⟩, 38) := ⟨⟨by decide +kernel, by decide +kernel⟩, List.mem_of_getElem? (i := 1350) (by decide +kernel), List.mem_of_getElem? (i := 1696) (by decide +kernel), List.mem_of_getElem? (i := 1697) (by decide +kernel)⟩
theorem lw_p81 : lw_okq (⟨"EbbWreckModel", "isSitter", "(I)Z"⟩, 38) := ⟨⟨by decide +kernel, by decide +kernel⟩, List.mem_of_getElem? (i := 1350) (by decide +kernel), List.mem_of_getElem? (i := 1704) (by decide +kernel), List.mem_of_getElem? (i := 1705) (by decide +kernel)⟩
theorem lw_p82 : lw_okq (⟨"EbbWreckModel", "lays", "()V"⟩, 38) := ⟨⟨by decide +kernel, by decide +kernel⟩, List.mem_of_getElem? (i := 1350) (by decide +kernel), List.mem_of_getElem? (i := 1708) (by decide +kernel), List.mem_of_getElem? (i := 1709) (by decide +kernel)⟩
theorem lw_p83 : lw_okq (⟨"EbbWreckModel", "goes", "(IIJ)V"⟩, 38) := ⟨⟨by decide +kernel, by decide +kernel⟩, List.mem_of_getElem? (i := 1350) (by decide +kernel), List.mem_of_getElem? (i := 1717) (by decide +kernel), List.mem_of_getElem? (i := 1718) (by decide +kernel)⟩
theorem lw_p84 : lw_okq (⟨"EbbWreckModel", "shoved", "(II)I"⟩, 38) := ⟨⟨by decide +kernel, by decide +kernel⟩, List.mem_of_getElem? (i := 1350) (by decide +kernel), List.mem_of_getElem? (i := 1726) (by decide +kernel), List.mem_of_getElem? (i := 1727) (by decide +kernel)⟩
theorem lw_p85 : lw_okq (⟨"EbbWreckModel", "comesUp", "(I)V"⟩, 38) := ⟨⟨by decide +kernel, by decide +kernel⟩, List.mem_of_getElem? (i := 1350) (by decide +kernel), List.mem_of_getElem? (i := 1734) (by decide +kernel), List.mem_of_getElem? (i := 1735) (by decide +kernel)⟩
theorem lw_p86 : lw_okq (⟨"EbbWreckModel", "whoseNow", "(II)I"⟩, 38) := ⟨⟨by decide +kernel, by decide +kernel⟩, List.mem_of_getElem? (i := 1350) (by decide +kernel), List.mem_of_getElem? (i := 1746) (by decide +kernel), List.mem_of_getElem? (i := 1747) (by decide +kernel)⟩
theorem lw_p87 : lw_okq (⟨"EbbWreckModel", "partyOf", "(III)I"⟩, 38) := ⟨⟨by decide +kernel, by decide +kernel⟩, List.mem_of_getElem? (i := 1350) (by decide +kernel), List.mem_of_getElem? (i := 1750) (by decide +kernel), List.mem_of_getElem? (i := 1751) (by decide +kernel)⟩
theorem lw_p88 : lw_okq (⟨"EbbWreckModel", "stands", "(III)Z"⟩, 38) := ⟨⟨by decide +kernel, by decide +kernel⟩, List.mem_of_getElem? (i := 1350) (by decide +kernel), List.mem_of_getElem? (i := 1754) (by decide +kernel), List.mem_of_getElem? (i := 1755) (by decide +kernel)⟩
theorem lw_p89 : lw_okq (⟨"EbbWreckModel", "isParty", "(I)Z"⟩, 38) := ⟨⟨by decide +kernel, by decide +kernel⟩, List.mem_of_getElem? (i := 1350) (by decide +kernel), List.mem_of_getElem? (i := 1762) (by decide +kernel), List.mem_of_getElem? (i := 1763) (by decide +kernel)⟩
theorem lw_p90 : lw_okq (⟨"EbbWreckModel", "hasOf", "(III)I"⟩, 38) := ⟨⟨by decide +kernel, by decide +kernel⟩, List.mem_of_getElem? (i := 1350) (by decide +kernel), List.mem_of_getElem? (i := 1767) (by decide +kernel), List.mem_of_getElem? (i := 1768) (by decide +kernel)⟩
theorem lw_p91 : lw_okq (⟨"EbbWreckModel", "worth", "(I)I"⟩, 38) := ⟨⟨by decide +kernel, by decide +kernel⟩, List.mem_of_getElem? (i := 1350) (by decide +kernel), List.mem_of_getElem? (i := 1771) (by decide +kernel), List.mem_of_getElem? (i := 1772) (by decide +kernel)⟩
theorem lw_p92 : lw_okq (⟨"EbbWreckModel", "isIdle", "(I)Z"⟩, 38) := ⟨⟨by decide +kernel, by decide +kernel⟩, List.mem_of_getElem? (i := 1350) (by decide +kernel), List.mem_of_getElem? (i := 1794) (by decide +kernel), List.mem_of_getElem? (i := 1795) (by decide +kernel)⟩
theorem lw_p93 : lw_okq (⟨"EbbWreckModel", "isPush", "(II)Z"⟩, 38) := ⟨⟨by decide +kernel, by decide +kernel⟩, List.mem_of_getElem? (i := 1350) (by decide +kernel), List.mem_of_getElem? (i := 1810) (by decide +kernel), List.mem_of_getElem? (i := 1811) (by decide +kernel)⟩
theorem lw_p94 : lw_okq (⟨"EbbWreckModel", "laysPushes", "(I)V"⟩, 38) := ⟨⟨by decide +kernel, by decide +kernel⟩, List.mem_of_getElem? (i := 1350) (by decide +kernel), List.mem_of_getElem? (i := 1814) (by decide +kernel), List.mem_of_getElem? (i := 1815) (by decide +kernel)⟩
theorem lw_p95 : lw_okq (⟨"EbbWreckModel", "pushBy", "(IIII)I"⟩, 38) := ⟨⟨by decide +kernel, by decide +kernel⟩, List.mem_of_getElem? (i := 1350) (by decide +kernel), List.mem_of_getElem? (i := 1818) (by decide +kernel), List.mem_of_getElem? (i := 1819) (by decide +kernel)⟩
def lw_privs_6 : List (MethodName × Nat) := [(⟨"EbbWreckModel", "held", "(I)I"⟩, 38), (⟨"EbbWreckModel", "isSitter", "(I)Z"⟩, 38), (⟨"EbbWreckModel", "lays", "()V"⟩, 38), (⟨"EbbWreckModel", "goes", "(IIJ)V"⟩, 38), (⟨"EbbWreckModel", "shoved", "(II)I"⟩, 38), (⟨"EbbWreckModel", "comesUp", "(I)V"⟩, 38), (⟨"EbbWreckModel", "whoseNow", "(II)I"⟩, 38), (⟨"EbbWreckModel", "partyOf", "(III)I"⟩, 38), (⟨"EbbWreckModel", "stands", "(III)Z"⟩, 38), (⟨"EbbWreckModel", "isParty", "(I)Z"⟩, 38), (⟨"EbbWreckModel", "hasOf", "(III)I"⟩, 38), (⟨"EbbWreckModel", "worth", "(I)I"⟩, 38), (⟨"EbbWreckModel", "isIdle", "(I)Z"⟩, 38), (⟨"EbbWreckModel", "isPush", "(II)Z"⟩, 38), (⟨"EbbWreckModel", "laysPushes", "(I)V"⟩, 38), (⟨"EbbWreckModel", "pushBy", "(IIII)I"⟩, 38)]
theorem lw_r6 : ∀ q ∈ lw_privs_6, lw_okq q := List.forall_mem_cons.mpr ⟨lw_p80, List.forall_mem_cons.mpr ⟨lw_p81, List.forall_mem_cons.mpr ⟨lw_p82, List.forall_mem_cons.mpr ⟨lw_p83, List.forall_mem_cons.mpr ⟨lw_p84, List.forall_mem_cons.mpr ⟨lw_p85, List.forall_mem_cons.mpr ⟨lw_p86, List.forall_mem_cons.mpr ⟨lw_p87, List.forall_mem_cons.mpr ⟨lw_p88, List.forall_mem_cons.mpr ⟨lw_p89, List.forall_mem_cons.mpr ⟨lw_p90, List.forall_mem_cons.mpr ⟨lw_p91, List.forall_mem_cons.mpr ⟨lw_p92, List.forall_mem_cons.mpr ⟨lw_p93, List.forall_mem_cons.mpr ⟨lw_p94, List.forall_mem_cons.mpr ⟨lw_p95, fun _ h => absurd h List.not_mem_nil⟩⟩⟩⟩⟩⟩⟩⟩⟩⟩⟩⟩⟩⟩⟩⟩
theorem lw_p96 : lw_okq (⟨"EbbWreckModel", "first", "(I)I"⟩, 38) := ⟨⟨by decide +kernel, by decide +kernel⟩, List.mem_of_getElem? (i := 1350) (by decide +kernel), List.mem_of_getElem? (i := 1822) (by decide +kernel), List.mem_of_getElem? (i := 1823) (by decide +kernel)⟩
theorem lw_p97 : lw_okq (⟨"EbbWreckModel", "pushOf", "(III)I"⟩, 38) := ⟨⟨by decide +kernel, by decide +kernel⟩, List.mem_of_getElem? (i := 1350) (by decide +kernel), List.mem_of_getElem? (i := 1830) (by decide +kernel), List.mem_of_getElem? (i := 1831) (by decide +kernel)⟩
theorem lw_p98 : lw_okq (⟨"EbbWreckModel", "wardBy", "(IIII)I"⟩, 38) := ⟨⟨by decide +kernel, by decide +kernel⟩, List.mem_of_getElem? (i := 1350) (by decide +kernel), List.mem_of_getElem? (i := 1846) (by decide +kernel), List.mem_of_getElem? (i := 1847) (by decide +kernel)⟩
theorem lw_p99 : lw_okq (⟨"EbbWreckModel", "floatsFrom", "(III)V"⟩, 38) := ⟨⟨by decide +kernel, by decide +kernel⟩, List.mem_of_getElem? (i := 1350) (by decide +kernel), List.mem_of_getElem? (i := 1874) (by decide +kernel), List.mem_of_getElem? (i := 1875) (by decide +kernel)⟩
theorem lw_p100 : lw_okq (⟨"EbbWreckModel", "dropOf", "(II)I"⟩, 38) := ⟨⟨by decide +kernel, by decide +kernel⟩, List.mem_of_getElem? (i := 1350) (by decide +kernel), List.mem_of_getElem? (i := 1887) (by decide +kernel), List.mem_of_getElem? (i := 1888) (by decide +kernel)⟩
theorem lw_p101 : lw_okq (⟨"EbbWreckModel", "whyNot", "(I)I"⟩, 38) := ⟨⟨by decide +kernel, by decide +kernel⟩, List.mem_of_getElem? (i := 1350) (by decide +kernel), List.mem_of_getElem? (i := 1907) (by decide +kernel), List.mem_of_getElem? (i := 1908) (by decide +kernel)⟩
theorem lw_p102 : lw_okq (⟨"EbbWreckModel", "fitsOf", "(I)I"⟩, 38) := ⟨⟨by decide +kernel, by decide +kernel⟩, List.mem_of_getElem? (i := 1350) (by decide +kernel), List.mem_of_getElem? (i := 1911) (by decide +kernel), List.mem_of_getElem? (i := 1912) (by decide +kernel)⟩
theorem lw_p103 : lw_okq (⟨"EbbWreckModel", "areFit", "(III)Z"⟩, 38) := ⟨⟨by decide +kernel, by decide +kernel⟩, List.mem_of_getElem? (i := 1350) (by decide +kernel), List.mem_of_getElem? (i := 1915) (by decide +kernel), List.mem_of_getElem? (i := 1916) (by decide +kernel)⟩
theorem lw_p104 : lw_okq (⟨"EbbWreckModel", "carried", "(IIIII)I"⟩, 38) := ⟨⟨by decide +kernel, by decide +kernel⟩, List.mem_of_getElem? (i := 1350) (by decide +kernel), List.mem_of_getElem? (i := 1919) (by decide +kernel), List.mem_of_getElem? (i := 1920) (by decide +kernel)⟩
theorem lw_p105 : lw_okq (⟨"EbbWreckModel", "laysAsk", "(I)V"⟩, 38) := ⟨⟨by decide +kernel, by decide +kernel⟩, List.mem_of_getElem? (i := 1350) (by decide +kernel), List.mem_of_getElem? (i := 1934) (by decide +kernel), List.mem_of_getElem? (i := 1935) (by decide +kernel)⟩
theorem lw_p106 : lw_okq (⟨"EbbWreckModel", "laysStrands", "()V"⟩, 38) := ⟨⟨by decide +kernel, by decide +kernel⟩, List.mem_of_getElem? (i := 1350) (by decide +kernel), List.mem_of_getElem? (i := 1946) (by decide +kernel), List.mem_of_getElem? (i := 1947) (by decide +kernel)⟩
theorem lw_p107 : lw_okq (⟨"EbbWreckModel", "seatOf", "(II)I"⟩, 38) := ⟨⟨by decide +kernel, by decide +kernel⟩, List.mem_of_getElem? (i := 1350) (by decide +kernel), List.mem_of_getElem? (i := 1950) (by decide +kernel), List.mem_of_getElem? (i := 1951) (by decide +kernel)⟩
theorem lw_p108 : lw_okq (⟨"EbbWreckModel", "restsNow", "()I"⟩, 38) := ⟨⟨by decide +kernel, by decide +kernel⟩, List.mem_of_getElem? (i := 1350) (by decide +kernel), List.mem_of_getElem? (i := 1966) (by decide +kernel), List.mem_of_getElem? (i := 1967) (by decide +kernel)⟩
theorem lw_p109 : lw_okq (⟨"EbbWreckModel", "rests", "(I)V"⟩, 38) := ⟨⟨by decide +kernel, by decide +kernel⟩, List.mem_of_getElem? (i := 1350) (by decide +kernel), List.mem_of_getElem? (i := 1970) (by decide +kernel), List.mem_of_getElem? (i := 1971) (by decide +kernel)⟩
theorem lw_p110 : lw_okq (⟨"EbbWreckModel", "isFull", "()Z"⟩, 38) := ⟨⟨by decide +kernel, by decide +kernel⟩, List.mem_of_getElem? (i := 1350) (by decide +kernel), List.mem_of_getElem? (i := 1992) (by decide +kernel), List.mem_of_getElem? (i := 1993) (by decide +kernel)⟩
theorem lw_p111 : lw_okq (⟨"EbbWreckModel", "acts", "(IIII)V"⟩, 38) := ⟨⟨by decide +kernel, by decide +kernel⟩, List.mem_of_getElem? (i := 1350) (by decide +kernel), List.mem_of_getElem? (i := 1996) (by decide +kernel), List.mem_of_getElem? (i := 1997) (by decide +kernel)⟩
def lw_privs_7 : List (MethodName × Nat) := [(⟨"EbbWreckModel", "first", "(I)I"⟩, 38), (⟨"EbbWreckModel", "pushOf", "(III)I"⟩, 38), (⟨"EbbWreckModel", "wardBy", "(IIII)I"⟩, 38), (⟨"EbbWreckModel", "floatsFrom", "(III)V"⟩, 38), (⟨"EbbWreckModel", "dropOf", "(II)I"⟩, 38), (⟨"EbbWreckModel", "whyNot", "(I)I"⟩, 38), (⟨"EbbWreckModel", "fitsOf", "(I)I"⟩, 38), (⟨"EbbWreckModel", "areFit", "(III)Z"⟩, 38), (⟨"EbbWreckModel", "carried", "(IIIII)I"⟩, 38), (⟨"EbbWreckModel", "laysAsk", "(I)V"⟩, 38), (⟨"EbbWreckModel", "laysStrands", "()V"⟩, 38), (⟨"EbbWreckModel", "seatOf", "(II)I"⟩, 38), (⟨"EbbWreckModel", "restsNow", "()I"⟩, 38), (⟨"EbbWreckModel", "rests", "(I)V"⟩, 38), (⟨"EbbWreckModel", "isFull", "()Z"⟩, 38), (⟨"EbbWreckModel", "acts", "(IIII)V"⟩, 38)]
theorem lw_r7 : ∀ q ∈ lw_privs_7, lw_okq q := List.forall_mem_cons.mpr ⟨lw_p96, List.forall_mem_cons.mpr ⟨lw_p97, List.forall_mem_cons.mpr ⟨lw_p98, List.forall_mem_cons.mpr ⟨lw_p99, List.forall_mem_cons.mpr ⟨lw_p100, List.forall_mem_cons.mpr ⟨lw_p101, List.forall_mem_cons.mpr ⟨lw_p102, List.forall_mem_cons.mpr ⟨lw_p103, List.forall_mem_cons.mpr ⟨lw_p104, List.forall_mem_cons.mpr ⟨lw_p105, List.forall_mem_cons.mpr ⟨lw_p106, List.forall_mem_cons.mpr ⟨lw_p107, List.forall_mem_cons.mpr ⟨lw_p108, List.forall_mem_cons.mpr ⟨lw_p109, List.forall_mem_cons.mpr ⟨lw_p110, List.forall_mem_cons.mpr ⟨lw_p111, fun _ h => absurd h List.not_mem_nil⟩⟩⟩⟩⟩⟩⟩⟩⟩⟩⟩⟩⟩⟩⟩⟩
theorem lw_p112 : lw_okq (⟨"EbbWreckModel", "isDraw", "(II)Z"⟩, 38) := ⟨⟨by decide +kernel, by decide +kernel⟩, List.mem_of_getElem? (i := 1350) (by decide +kernel), List.mem_of_getElem? (i := 2016) (by decide +kernel), List.mem_of_getElem? (i := 2017) (by decide +kernel)⟩
def lw_privs_8 : List (MethodName × Nat) := [(⟨"EbbWreckModel", "isDraw", "(II)Z"⟩, 38)]
theorem lw_r8 : ∀ q ∈ lw_privs_8, lw_okq q := List.forall_mem_cons.mpr ⟨lw_p112, fun _ h => absurd h List.not_mem_nil⟩
def lw_privs : List (MethodName × Nat) := lw_privs_1 ++ (lw_privs_2 ++ (lw_privs_3 ++ (lw_privs_4 ++ (lw_privs_5 ++ (lw_privs_6 ++ (lw_privs_7 ++ (lw_privs_8)))))))
def lw_tbl : List Cond := k2_sels lw_privs ++ tables_1
theorem lw_privs_ok : ∀ q ∈ lw_privs, lw_okq q := by
  show ∀ q ∈ lw_privs_1 ++ (lw_privs_2 ++ (lw_privs_3 ++ (lw_privs_4 ++ (lw_privs_5 ++ (lw_privs_6 ++ (lw_privs_7 ++ (lw_privs_8))))))), lw_okq q
  exact List.forall_mem_append.mpr ⟨lw_r1, List.forall_mem_append.mpr ⟨lw_r2, List.forall_mem_append.mpr ⟨lw_r3, List.forall_mem_append.mpr ⟨lw_r4, List.forall_mem_append.mpr ⟨lw_r5, List.forall_mem_append.mpr ⟨lw_r6, List.forall_mem_append.mpr ⟨lw_r7, lw_r8⟩⟩⟩⟩⟩⟩⟩
end
section
def RX0 : String := "EbbWreck$Acts"
def TX0 : u_T := fun k => match k with
  | 0 => ("EbbWreck$Acts", "size", "I", false)
  | 1 => ("EbbWreck$Acts", "ways", "[I", true)
  | 2 => ("EbbWreck$Acts", "whos", "[I", true)
  | _ => ("EbbWreck$Acts", "marks", "[I", true)
def tyX0 : Nat → FieldType := fun k => match k with
  | 0 => .int
  | 1 => .array .int
  | 2 => .array .int
  | _ => .array .int
theorem nmX0 : ∀ a, a < 4 → ∀ b, b < 4 → a ≠ b → (TX0 a).2.1 ≠ (TX0 b).2.1 := by decide +kernel
theorem tyX0_ok : ∀ k, k < 4 → parseFieldDescriptor (TX0 k).2.2.1 = some (tyX0 k) := by decide +kernel
abbrev cX0_init : ByteArray := prog_2_method_1_code
def yX0_init : MethodName := ⟨RX0, "<init>", "()V"⟩
abbrev cX0_copyFrom : ByteArray := prog_2_method_2_code
def yX0_copyFrom : MethodName := ⟨RX0, "copyFrom", "(LEbbWreck$Acts;)V"⟩
abbrev cX0_isFull : ByteArray := prog_2_method_3_code
def yX0_isFull : MethodName := ⟨RX0, "isFull", "()Z"⟩
abbrev cX0_addSit : ByteArray := prog_2_method_4_code
def yX0_addSit : MethodName := ⟨RX0, "addSit", "(II)V"⟩
abbrev cX0_addPush : ByteArray := prog_2_method_5_code
def yX0_addPush : MethodName := ⟨RX0, "addPush", "(III)V"⟩
abbrev cX0_addAct : ByteArray := prog_2_method_6_code
def yX0_addAct : MethodName := ⟨RX0, "addAct", "(III)V"⟩
abbrev cX0_isPushOf : ByteArray := prog_2_method_7_code
def yX0_isPushOf : MethodName := ⟨RX0, "isPushOf", "(II)Z"⟩
abbrev cX0_isPushed : ByteArray := prog_2_method_8_code
def yX0_isPushed : MethodName := ⟨RX0, "isPushed", "(II)Z"⟩
abbrev cX0_pushesOf : ByteArray := prog_2_method_9_code
def yX0_pushesOf : MethodName := ⟨RX0, "pushesOf", "(I)I"⟩
def RX1 : String := "EbbWreck$Coast"
def TX1 : u_T := fun k => match k with
  | 0 => ("EbbWreck$Coast", "lines", "I", false)
  | 1 => ("EbbWreck$Coast", "cells", "I", false)
  | 2 => ("EbbWreck$Coast", "odds", "I", false)
  | 3 => ("EbbWreck$Coast", "tide", "LEbbWreck$Tide;", true)
  | 4 => ("EbbWreck$Coast", "floodSteps", "[I", true)
  | 5 => ("EbbWreck$Coast", "ebbSteps", "[I", true)
  | 6 => ("EbbWreck$Coast", "beachBits", "I", false)
  | 7 => ("EbbWreck$Coast", "things", "I", false)
  | 8 => ("EbbWreck$Coast", "worths", "[I", true)
  | 9 => ("EbbWreck$Coast", "startCells", "[I", true)
  | 10 => ("EbbWreck$Coast", "startHours", "[I", true)
  | 11 => ("EbbWreck$Coast", "rules", "LEbbWreck$RuleBook;", true)
  | 12 => ("EbbWreck$Coast", "sitters", "I", false)
  | 13 => ("EbbWreck$Coast", "seatCells", "[I", true)
  | _ => ("EbbWreck$Coast", "acts", "LEbbWreck$Acts;", true)
def tyX1 : Nat → FieldType := fun k => match k with
  | 0 => .int
  | 1 => .int
  | 2 => .int
  | 3 => .object "EbbWreck$Tide"
  | 4 => .array .int
  | 5 => .array .int
  | 6 => .int
  | 7 => .int
  | 8 => .array .int
  | 9 => .array .int
  | 10 => .array .int
  | 11 => .object "EbbWreck$RuleBook"
  | 12 => .int
  | 13 => .array .int
  | _ => .object "EbbWreck$Acts"
theorem nmX1 : ∀ a, a < 15 → ∀ b, b < 15 → a ≠ b → (TX1 a).2.1 ≠ (TX1 b).2.1 := by decide +kernel
theorem tyX1_ok : ∀ k, k < 15 → parseFieldDescriptor (TX1 k).2.2.1 = some (tyX1 k) := by decide +kernel
abbrev cX1_init : ByteArray := prog_3_method_1_code
def yX1_init : MethodName := ⟨RX1, "<init>", "()V"⟩
abbrev cX1_clear : ByteArray := prog_3_method_2_code
def yX1_clear : MethodName := ⟨RX1, "clear", "()V"⟩
abbrev cX1_copyFrom : ByteArray := prog_3_method_3_code
def yX1_copyFrom : MethodName := ⟨RX1, "copyFrom", "(LEbbWreck$Coast;)V"⟩
abbrev cX1_isTold : ByteArray := prog_3_method_4_code
def yX1_isTold : MethodName := ⟨RX1, "isTold", "()Z"⟩
abbrev cX1_hasCell : ByteArray := prog_3_method_5_code
def yX1_hasCell : MethodName := ⟨RX1, "hasCell", "(I)Z"⟩
abbrev cX1_hasThing : ByteArray := prog_3_method_6_code
def yX1_hasThing : MethodName := ⟨RX1, "hasThing", "(I)Z"⟩
abbrev cX1_hasSitter : ByteArray := prog_3_method_7_code
def yX1_hasSitter : MethodName := ⟨RX1, "hasSitter", "(I)Z"⟩
abbrev cX1_isBeach : ByteArray := prog_3_method_8_code
def yX1_isBeach : MethodName := ⟨RX1, "isBeach", "(I)Z"⟩
abbrev cX1_shifted : ByteArray := prog_3_method_9_code
def yX1_shifted : MethodName := ⟨RX1, "shifted", "(II)I"⟩
abbrev cX1_drifted : ByteArray := prog_3_method_10_code
def yX1_drifted : MethodName := ⟨RX1, "drifted", "(II)I"⟩
abbrev cX1_pushedAndDrifted : ByteArray := prog_3_method_11_code
def yX1_pushedAndDrifted : MethodName := ⟨RX1, "pushedAndDrifted", "(III)I"⟩
abbrev cX1_ownerIn : ByteArray := prog_3_method_12_code
def yX1_ownerIn : MethodName := ⟨RX1, "ownerIn", "(III)I"⟩
abbrev cX1_takeBack : ByteArray := prog_3_method_13_code
def yX1_takeBack : MethodName := ⟨RX1, "takeBack", "()I"⟩
def RX2 : String := "EbbWreck$Drift"
def TX2 : u_T := fun k => match k with
  | 0 => ("EbbWreck$Drift", "coast", "LEbbWreck$Coast;", true)
  | 1 => ("EbbWreck$Drift", "upHours", "[I", true)
  | 2 => ("EbbWreck$Drift", "upCells", "[I", true)
  | 3 => ("EbbWreck$Drift", "ways", "[B", true)
  | 4 => ("EbbWreck$Drift", "trace", "[I", true)
  | 5 => ("EbbWreck$Drift", "otherTrace", "[I", true)
  | 6 => ("EbbWreck$Drift", "tally", "[I", true)
  | 7 => ("EbbWreck$Drift", "runHour", "I", false)
  | _ => ("EbbWreck$Drift", "runCell", "I", false)
def tyX2 : Nat → FieldType := fun k => match k with
  | 0 => .object "EbbWreck$Coast"
  | 1 => .array .int
  | 2 => .array .int
  | 3 => .array .byte
  | 4 => .array .int
  | 5 => .array .int
  | 6 => .array .int
  | 7 => .int
  | _ => .int
theorem nmX2 : ∀ a, a < 9 → ∀ b, b < 9 → a ≠ b → (TX2 a).2.1 ≠ (TX2 b).2.1 := by decide +kernel
theorem tyX2_ok : ∀ k, k < 9 → parseFieldDescriptor (TX2 k).2.2.1 = some (tyX2 k) := by decide +kernel
abbrev cX2_init : ByteArray := prog_4_method_1_code
def yX2_init : MethodName := ⟨RX2, "<init>", "(LEbbWreck$Coast;)V"⟩
abbrev cX2_settleAll : ByteArray := prog_4_method_2_code
def yX2_settleAll : MethodName := ⟨RX2, "settleAll", "()V"⟩
abbrev cX2_settle : ByteArray := prog_4_method_3_code
def yX2_settle : MethodName := ⟨RX2, "settle", "(I)V"⟩
abbrev cX2_layWays : ByteArray := prog_4_method_4_code
def yX2_layWays : MethodName := ⟨RX2, "layWays", "(I)V"⟩
abbrev cX2_run : ByteArray := prog_4_method_5_code
def yX2_run : MethodName := ⟨RX2, "run", "(III)V"⟩
abbrev cX2_runBeach : ByteArray := prog_4_method_6_code
def yX2_runBeach : MethodName := ⟨RX2, "runBeach", "()I"⟩
abbrev cX2_runOwner : ByteArray := prog_4_method_7_code
def yX2_runOwner : MethodName := ⟨RX2, "runOwner", "()I"⟩
abbrev cX2_placeOf : ByteArray := prog_4_method_8_code
def yX2_placeOf : MethodName := ⟨RX2, "placeOf", "(II)I"⟩
abbrev cX2_ownerOf : ByteArray := prog_4_method_9_code
def yX2_ownerOf : MethodName := ⟨RX2, "ownerOf", "(III)I"⟩
abbrev cX2_worthOf : ByteArray := prog_4_method_10_code
def yX2_worthOf : MethodName := ⟨RX2, "worthOf", "(III)I"⟩
abbrev cX2_thingsUpOn : ByteArray := prog_4_method_11_code
def yX2_thingsUpOn : MethodName := ⟨RX2, "thingsUpOn", "(I)I"⟩
abbrev cX2_arguedThings : ByteArray := prog_4_method_12_code
def yX2_arguedThings : MethodName := ⟨RX2, "arguedThings", "()I"⟩
abbrev cX2_upPhase : ByteArray := prog_4_method_13_code
def yX2_upPhase : MethodName := ⟨RX2, "upPhase", "(I)I"⟩
abbrev cX2_thingsLeftToSitters : ByteArray := prog_4_method_14_code
def yX2_thingsLeftToSitters : MethodName := ⟨RX2, "thingsLeftToSitters", "()I"⟩
abbrev cX2_firstMeeting : ByteArray := prog_4_method_15_code
def yX2_firstMeeting : MethodName := ⟨RX2, "firstMeeting", "(II)I"⟩
abbrev cX2_traceAfloat : ByteArray := prog_4_method_16_code
def yX2_traceAfloat : MethodName := ⟨RX2, "traceAfloat", "(I[I)V"⟩
abbrev cX2_commonestBeach : ByteArray := prog_4_method_17_code
def yX2_commonestBeach : MethodName := ⟨RX2, "commonestBeach", "(III)I"⟩
def RX3 : String := "EbbWreck$Floats"
def TX3 : u_T := fun k => match k with
  | 0 => ("EbbWreck$Floats", "coast", "LEbbWreck$Coast;", true)
  | 1 => ("EbbWreck$Floats", "slots", "LEbbWreck$Slots;", true)
  | 2 => ("EbbWreck$Floats", "fitting", "[I", true)
  | 3 => ("EbbWreck$Floats", "fittingCount", "I", false)
  | _ => ("EbbWreck$Floats", "found", "[I", true)
def tyX3 : Nat → FieldType := fun k => match k with
  | 0 => .object "EbbWreck$Coast"
  | 1 => .object "EbbWreck$Slots"
  | 2 => .array .int
  | 3 => .int
  | _ => .array .int
theorem nmX3 : ∀ a, a < 5 → ∀ b, b < 5 → a ≠ b → (TX3 a).2.1 ≠ (TX3 b).2.1 := by decide +kernel
theorem tyX3_ok : ∀ k, k < 5 → parseFieldDescriptor (TX3 k).2.2.1 = some (tyX3 k) := by decide +kernel
abbrev cX3_init : ByteArray := prog_5_method_1_code
def yX3_init : MethodName := ⟨RX3, "<init>", "(LEbbWreck$Coast;LEbbWreck$Slots;)V"⟩
abbrev cX3_floodOf : ByteArray := prog_5_method_2_code
def yX3_floodOf : MethodName := ⟨RX3, "floodOf", "(I)I"⟩
abbrev cX3_ebbOf : ByteArray := prog_5_method_3_code
def yX3_ebbOf : MethodName := ⟨RX3, "ebbOf", "(I)I"⟩
abbrev cX3_collect : ByteArray := prog_5_method_4_code
def yX3_collect : MethodName := ⟨RX3, "collect", "(I)I"⟩
abbrev cX3_areAllSuch : ByteArray := prog_5_method_5_code
def yX3_areAllSuch : MethodName := ⟨RX3, "areAllSuch", "([JI)Z"⟩
abbrev cX3_isCell : ByteArray := prog_5_method_6_code
def yX3_isCell : MethodName := ⟨RX3, "isCell", "(J)Z"⟩
abbrev cX3_isHour : ByteArray := prog_5_method_7_code
def yX3_isHour : MethodName := ⟨RX3, "isHour", "(J)Z"⟩
abbrev cX3_fitsAll : ByteArray := prog_5_method_8_code
def yX3_fitsAll : MethodName := ⟨RX3, "fitsAll", "(I[JI)Z"⟩
abbrev cX3_carried : ByteArray := prog_5_method_9_code
def yX3_carried : MethodName := ⟨RX3, "carried", "(IIII)I"⟩
abbrev cX3_stepsIn : ByteArray := prog_5_method_10_code
def yX3_stepsIn : MethodName := ⟨RX3, "stepsIn", "(II)I"⟩
abbrev cX3_smallest : ByteArray := prog_5_method_11_code
def yX3_smallest : MethodName := ⟨RX3, "smallest", "()I"⟩
abbrev cX3_stepsOf : ByteArray := prog_5_method_12_code
def yX3_stepsOf : MethodName := ⟨RX3, "stepsOf", "(I)I"⟩
abbrev cX3_worstAfter : ByteArray := prog_5_method_13_code
def yX3_worstAfter : MethodName := ⟨RX3, "worstAfter", "(I)I"⟩
abbrev cX3_bestCell : ByteArray := prog_5_method_14_code
def yX3_bestCell : MethodName := ⟨RX3, "bestCell", "()I"⟩
def RX4 : String := "EbbWreck$Pushing"
def TX4 : u_T := fun k => match k with
  | 0 => ("EbbWreck$Pushing", "coast", "LEbbWreck$Coast;", true)
  | 1 => ("EbbWreck$Pushing", "costs", "[I", true)
  | 2 => ("EbbWreck$Pushing", "wishedParty", "I", false)
  | _ => ("EbbWreck$Pushing", "warded", "Z", false)
def tyX4 : Nat → FieldType := fun k => match k with
  | 0 => .object "EbbWreck$Coast"
  | 1 => .array .int
  | 2 => .int
  | _ => .boolean
theorem nmX4 : ∀ a, a < 4 → ∀ b, b < 4 → a ≠ b → (TX4 a).2.1 ≠ (TX4 b).2.1 := by decide +kernel
theorem tyX4_ok : ∀ k, k < 4 → parseFieldDescriptor (TX4 k).2.2.1 = some (tyX4 k) := by decide +kernel
abbrev cX4_init : ByteArray := prog_6_method_1_code
def yX4_init : MethodName := ⟨RX4, "<init>", "(LEbbWreck$Coast;)V"⟩
abbrev cX4_plan : ByteArray := prog_6_method_2_code
def yX4_plan : MethodName := ⟨RX4, "plan", "(IZI)V"⟩
abbrev cX4_placeIn : ByteArray := prog_6_method_3_code
def yX4_placeIn : MethodName := ⟨RX4, "placeIn", "(II)I"⟩
abbrev cX4_costBy : ByteArray := prog_6_method_4_code
def yX4_costBy : MethodName := ⟨RX4, "costBy", "(III)I"⟩
abbrev cX4_costOf : ByteArray := prog_6_method_5_code
def yX4_costOf : MethodName := ⟨RX4, "costOf", "(I)I"⟩
abbrev cX4_fewest : ByteArray := prog_6_method_6_code
def yX4_fewest : MethodName := ⟨RX4, "fewest", "(IIZ)I"⟩
abbrev cX4_fewestOfAll : ByteArray := prog_6_method_7_code
def yX4_fewestOfAll : MethodName := ⟨RX4, "fewestOfAll", "(I)I"⟩
abbrev cX4_markOf : ByteArray := prog_6_method_8_code
def yX4_markOf : MethodName := ⟨RX4, "markOf", "(III)I"⟩
abbrev cX4_firstWay : ByteArray := prog_6_method_9_code
def yX4_firstWay : MethodName := ⟨RX4, "firstWay", "(II)I"⟩
abbrev cX4_firstHour : ByteArray := prog_6_method_10_code
def yX4_firstHour : MethodName := ⟨RX4, "firstHour", "(II)I"⟩
abbrev cX4_reachedFrom : ByteArray := prog_6_method_11_code
def yX4_reachedFrom : MethodName := ⟨RX4, "reachedFrom", "(II)I"⟩
abbrev cX4_isWonBy : ByteArray := prog_6_method_12_code
def yX4_isWonBy : MethodName := ⟨RX4, "isWonBy", "(III)Z"⟩
def RX5 : String := "EbbWreck$Reader"
def TX5 : u_T := fun k => match k with
  | 0 => ("EbbWreck$Reader", "text", "[B", true)
  | 1 => ("EbbWreck$Reader", "draft", "LEbbWreck$Coast;", true)
  | 2 => ("EbbWreck$Reader", "length", "I", false)
  | 3 => ("EbbWreck$Reader", "kind", "I", false)
  | 4 => ("EbbWreck$Reader", "start", "I", false)
  | 5 => ("EbbWreck$Reader", "stop", "I", false)
  | 6 => ("EbbWreck$Reader", "value", "I", false)
  | 7 => ("EbbWreck$Reader", "faultKind", "I", false)
  | _ => ("EbbWreck$Reader", "faultPlace", "I", false)
def tyX5 : Nat → FieldType := fun k => match k with
  | 0 => .array .byte
  | 1 => .object "EbbWreck$Coast"
  | 2 => .int
  | 3 => .int
  | 4 => .int
  | 5 => .int
  | 6 => .int
  | 7 => .int
  | _ => .int
theorem nmX5 : ∀ a, a < 9 → ∀ b, b < 9 → a ≠ b → (TX5 a).2.1 ≠ (TX5 b).2.1 := by decide +kernel
theorem tyX5_ok : ∀ k, k < 9 → parseFieldDescriptor (TX5 k).2.2.1 = some (tyX5 k) := by decide +kernel
abbrev cX5_init : ByteArray := prog_7_method_1_code
def yX5_init : MethodName := ⟨RX5, "<init>", "([BLEbbWreck$Coast;)V"⟩
abbrev cX5_read : ByteArray := prog_7_method_2_code
def yX5_read : MethodName := ⟨RX5, "read", "(I)V"⟩
abbrev cX5_failed : ByteArray := prog_7_method_3_code
def yX5_failed : MethodName := ⟨RX5, "failed", "()Z"⟩
abbrev cX5_fail : ByteArray := prog_7_method_4_code
def yX5_fail : MethodName := ⟨RX5, "fail", "(I)V"⟩
abbrev cX5_advance : ByteArray := prog_7_method_5_code
def yX5_advance : MethodName := ⟨RX5, "advance", "()V"⟩
abbrev cX5_isLong : ByteArray := prog_7_method_6_code
def yX5_isLong : MethodName := ⟨RX5, "isLong", "()Z"⟩
abbrev cX5_kindOf : ByteArray := prog_7_method_7_code
def yX5_kindOf : MethodName := ⟨RX5, "kindOf", "(B)I"⟩
abbrev cX5_isWord : ByteArray := prog_7_method_8_code
def yX5_isWord : MethodName := ⟨RX5, "isWord", "(Ljava/lang/String;)Z"⟩
abbrev cX5_expectWord : ByteArray := prog_7_method_9_code
def yX5_expectWord : MethodName := ⟨RX5, "expectWord", "(Ljava/lang/String;)V"⟩
abbrev cX5_expectSign : ByteArray := prog_7_method_10_code
def yX5_expectSign : MethodName := ⟨RX5, "expectSign", "()V"⟩
abbrev cX5_expectNumber : ByteArray := prog_7_method_11_code
def yX5_expectNumber : MethodName := ⟨RX5, "expectNumber", "(II)I"⟩
abbrev cX5_readLine : ByteArray := prog_7_method_12_code
def yX5_readLine : MethodName := ⟨RX5, "readLine", "()V"⟩
abbrev cX5_readShore : ByteArray := prog_7_method_13_code
def yX5_readShore : MethodName := ⟨RX5, "readShore", "()V"⟩
abbrev cX5_readCurrent : ByteArray := prog_7_method_14_code
def yX5_readCurrent : MethodName := ⟨RX5, "readCurrent", "()V"⟩
abbrev cX5_readWay : ByteArray := prog_7_method_15_code
def yX5_readWay : MethodName := ⟨RX5, "readWay", "()I"⟩
abbrev cX5_readBeach : ByteArray := prog_7_method_16_code
def yX5_readBeach : MethodName := ⟨RX5, "readBeach", "()V"⟩
abbrev cX5_readThing : ByteArray := prog_7_method_17_code
def yX5_readThing : MethodName := ⟨RX5, "readThing", "()V"⟩
abbrev cX5_readRule : ByteArray := prog_7_method_18_code
def yX5_readRule : MethodName := ⟨RX5, "readRule", "()V"⟩
abbrev cX5_readPhases : ByteArray := prog_7_method_19_code
def yX5_readPhases : MethodName := ⟨RX5, "readPhases", "()I"⟩
abbrev cX5_readSitter : ByteArray := prog_7_method_20_code
def yX5_readSitter : MethodName := ⟨RX5, "readSitter", "()V"⟩
def RX6 : String := "EbbWreck$RuleBook"
def TX6 : u_T := fun k => match k with
  | 0 => ("EbbWreck$RuleBook", "size", "I", false)
  | 1 => ("EbbWreck$RuleBook", "firstCells", "[I", true)
  | 2 => ("EbbWreck$RuleBook", "lastCells", "[I", true)
  | 3 => ("EbbWreck$RuleBook", "phaseBits", "[I", true)
  | _ => ("EbbWreck$RuleBook", "parties", "[I", true)
def tyX6 : Nat → FieldType := fun k => match k with
  | 0 => .int
  | 1 => .array .int
  | 2 => .array .int
  | 3 => .array .int
  | _ => .array .int
theorem nmX6 : ∀ a, a < 5 → ∀ b, b < 5 → a ≠ b → (TX6 a).2.1 ≠ (TX6 b).2.1 := by decide +kernel
theorem tyX6_ok : ∀ k, k < 5 → parseFieldDescriptor (TX6 k).2.2.1 = some (tyX6 k) := by decide +kernel
abbrev cX6_init : ByteArray := prog_8_method_1_code
def yX6_init : MethodName := ⟨RX6, "<init>", "()V"⟩
abbrev cX6_copyFrom : ByteArray := prog_8_method_2_code
def yX6_copyFrom : MethodName := ⟨RX6, "copyFrom", "(LEbbWreck$RuleBook;)V"⟩
abbrev cX6_hasRule : ByteArray := prog_8_method_3_code
def yX6_hasRule : MethodName := ⟨RX6, "hasRule", "(I)Z"⟩
abbrev cX6_isFull : ByteArray := prog_8_method_4_code
def yX6_isFull : MethodName := ⟨RX6, "isFull", "()Z"⟩
abbrev cX6_addRule : ByteArray := prog_8_method_5_code
def yX6_addRule : MethodName := ⟨RX6, "addRule", "(IIII)V"⟩
abbrev cX6_stands : ByteArray := prog_8_method_6_code
def yX6_stands : MethodName := ⟨RX6, "stands", "(III)Z"⟩
abbrev cX6_decider : ByteArray := prog_8_method_7_code
def yX6_decider : MethodName := ⟨RX6, "decider", "(III)I"⟩
abbrev cX6_saysTwoThings : ByteArray := prog_8_method_8_code
def yX6_saysTwoThings : MethodName := ⟨RX6, "saysTwoThings", "(II)Z"⟩
def RX7 : String := "EbbWreck$Seating"
def TX7 : u_T := fun k => match k with
  | 0 => ("EbbWreck$Seating", "coast", "LEbbWreck$Coast;", true)
  | 1 => ("EbbWreck$Seating", "drift", "LEbbWreck$Drift;", true)
  | 2 => ("EbbWreck$Seating", "pays", "[I", true)
  | 3 => ("EbbWreck$Seating", "crowd", "[I", true)
  | _ => ("EbbWreck$Seating", "tried", "[I", true)
def tyX7 : Nat → FieldType := fun k => match k with
  | 0 => .object "EbbWreck$Coast"
  | 1 => .object "EbbWreck$Drift"
  | 2 => .array .int
  | 3 => .array .int
  | _ => .array .int
theorem nmX7 : ∀ a, a < 5 → ∀ b, b < 5 → a ≠ b → (TX7 a).2.1 ≠ (TX7 b).2.1 := by decide +kernel
theorem tyX7_ok : ∀ k, k < 5 → parseFieldDescriptor (TX7 k).2.2.1 = some (tyX7 k) := by decide +kernel
abbrev cX7_init : ByteArray := prog_9_method_1_code
def yX7_init : MethodName := ⟨RX7, "<init>", "(LEbbWreck$Coast;LEbbWreck$Drift;)V"⟩
abbrev cX7_payFor : ByteArray := prog_9_method_2_code
def yX7_payFor : MethodName := ⟨RX7, "payFor", "(II)I"⟩
abbrev cX7_worthOn : ByteArray := prog_9_method_3_code
def yX7_worthOn : MethodName := ⟨RX7, "worthOn", "(II)I"⟩
abbrev cX7_bestCell : ByteArray := prog_9_method_4_code
def yX7_bestCell : MethodName := ⟨RX7, "bestCell", "(I)I"⟩
abbrev cX7_layPays : ByteArray := prog_9_method_5_code
def yX7_layPays : MethodName := ⟨RX7, "layPays", "()V"⟩
abbrev cX7_countWays : ByteArray := prog_9_method_6_code
def yX7_countWays : MethodName := ⟨RX7, "countWays", "()I"⟩
abbrev cX7_countRests : ByteArray := prog_9_method_7_code
def yX7_countRests : MethodName := ⟨RX7, "countRests", "()I"⟩
abbrev cX7_firstRest : ByteArray := prog_9_method_8_code
def yX7_firstRest : MethodName := ⟨RX7, "firstRest", "(I)I"⟩
abbrev cX7_tryWay : ByteArray := prog_9_method_9_code
def yX7_tryWay : MethodName := ⟨RX7, "tryWay", "(I)Z"⟩
abbrev cX7_isRest : ByteArray := prog_9_method_10_code
def yX7_isRest : MethodName := ⟨RX7, "isRest", "()Z"⟩
abbrev cX7_wouldMove : ByteArray := prog_9_method_11_code
def yX7_wouldMove : MethodName := ⟨RX7, "wouldMove", "(I)Z"⟩
def RX8 : String := "EbbWreck$Slots"
def TX8 : u_T := fun k => match k with
  | 0 => ("EbbWreck$Slots", "numbers", "[[J", true)
  | 1 => ("EbbWreck$Slots", "widths", "[I", true)
  | _ => ("EbbWreck$Slots", "sizes", "[I", true)
def tyX8 : Nat → FieldType := fun k => match k with
  | 0 => .array (.array .long)
  | 1 => .array .int
  | _ => .array .int
theorem nmX8 : ∀ a, a < 3 → ∀ b, b < 3 → a ≠ b → (TX8 a).2.1 ≠ (TX8 b).2.1 := by decide +kernel
theorem tyX8_ok : ∀ k, k < 3 → parseFieldDescriptor (TX8 k).2.2.1 = some (tyX8 k) := by decide +kernel
abbrev cX8_init : ByteArray := prog_10_method_1_code
def yX8_init : MethodName := ⟨RX8, "<init>", "()V"⟩
abbrev cX8_isSlot : ByteArray := prog_10_method_2_code
def yX8_isSlot : MethodName := ⟨RX8, "isSlot", "(I)Z"⟩
abbrev cX8_hasRow : ByteArray := prog_10_method_3_code
def yX8_hasRow : MethodName := ⟨RX8, "hasRow", "(I)Z"⟩
abbrev cX8_filled : ByteArray := prog_10_method_4_code
def yX8_filled : MethodName := ⟨RX8, "filled", "()I"⟩
abbrev cX8_lay : ByteArray := prog_10_method_5_code
def yX8_lay : MethodName := ⟨RX8, "lay", "(III)V"⟩
abbrev cX8_put : ByteArray := prog_10_method_6_code
def yX8_put : MethodName := ⟨RX8, "put", "(IIJ)V"⟩
abbrev cX8_cut : ByteArray := prog_10_method_7_code
def yX8_cut : MethodName := ⟨RX8, "cut", "(JI)J"⟩
abbrev cX8_holds : ByteArray := prog_10_method_8_code
def yX8_holds : MethodName := ⟨RX8, "holds", "(III)Z"⟩
def RX9 : String := "EbbWreck$Throwing"
def TX9 : u_T := fun k => match k with
  | 0 => ("EbbWreck$Throwing", "coast", "LEbbWreck$Coast;", true)
  | 1 => ("EbbWreck$Throwing", "fates", "[I", true)
  | _ => ("EbbWreck$Throwing", "laterFates", "[I", true)
def tyX9 : Nat → FieldType := fun k => match k with
  | 0 => .object "EbbWreck$Coast"
  | 1 => .array .int
  | _ => .array .int
theorem nmX9 : ∀ a, a < 3 → ∀ b, b < 3 → a ≠ b → (TX9 a).2.1 ≠ (TX9 b).2.1 := by decide +kernel
theorem tyX9_ok : ∀ k, k < 3 → parseFieldDescriptor (TX9 k).2.2.1 = some (tyX9 k) := by decide +kernel
abbrev cX9_init : ByteArray := prog_11_method_1_code
def yX9_init : MethodName := ⟨RX9, "<init>", "(LEbbWreck$Coast;)V"⟩
abbrev cX9_tidesToReturn : ByteArray := prog_11_method_2_code
def yX9_tidesToReturn : MethodName := ⟨RX9, "tidesToReturn", "(I)I"⟩
abbrev cX9_startFates : ByteArray := prog_11_method_3_code
def yX9_startFates : MethodName := ⟨RX9, "startFates", "()V"⟩
abbrev cX9_stepFates : ByteArray := prog_11_method_4_code
def yX9_stepFates : MethodName := ⟨RX9, "stepFates", "(I)V"⟩
abbrev cX9_findFates : ByteArray := prog_11_method_5_code
def yX9_findFates : MethodName := ⟨RX9, "findFates", "(I)V"⟩
abbrev cX9_cellsOf : ByteArray := prog_11_method_6_code
def yX9_cellsOf : MethodName := ⟨RX9, "cellsOf", "(I)I"⟩
abbrev cX9_neverUp : ByteArray := prog_11_method_7_code
def yX9_neverUp : MethodName := ⟨RX9, "neverUp", "()I"⟩
abbrev cX9_wonFrom : ByteArray := prog_11_method_8_code
def yX9_wonFrom : MethodName := ⟨RX9, "wonFrom", "(II)I"⟩
abbrev cX9_bestHour : ByteArray := prog_11_method_9_code
def yX9_bestHour : MethodName := ⟨RX9, "bestHour", "(I)I"⟩
abbrev cX9_cellsInto : ByteArray := prog_11_method_10_code
def yX9_cellsInto : MethodName := ⟨RX9, "cellsInto", "(II)I"⟩
abbrev cX9_cellsBehind : ByteArray := prog_11_method_11_code
def yX9_cellsBehind : MethodName := ⟨RX9, "cellsBehind", "(III)I"⟩
abbrev cX9_latestThrow : ByteArray := prog_11_method_12_code
def yX9_latestThrow : MethodName := ⟨RX9, "latestThrow", "(III)I"⟩
def RX10 : String := "EbbWreck$Tide"
def TX10 : u_T := fun k => match k with
  | 0 => ("EbbWreck$Tide", "flood", "I", false)
  | 1 => ("EbbWreck$Tide", "slack", "I", false)
  | 2 => ("EbbWreck$Tide", "ebb", "I", false)
  | 3 => ("EbbWreck$Tide", "round", "I", false)
  | _ => ("EbbWreck$Tide", "phases", "[I", true)
def tyX10 : Nat → FieldType := fun k => match k with
  | 0 => .int
  | 1 => .int
  | 2 => .int
  | 3 => .int
  | _ => .array .int
theorem nmX10 : ∀ a, a < 5 → ∀ b, b < 5 → a ≠ b → (TX10 a).2.1 ≠ (TX10 b).2.1 := by decide +kernel
theorem tyX10_ok : ∀ k, k < 5 → parseFieldDescriptor (TX10 k).2.2.1 = some (tyX10 k) := by decide +kernel
abbrev cX10_init : ByteArray := prog_12_method_1_code
def yX10_init : MethodName := ⟨RX10, "<init>", "()V"⟩
abbrev cX10_tell : ByteArray := prog_12_method_2_code
def yX10_tell : MethodName := ⟨RX10, "tell", "(III)V"⟩
abbrev cX10_phaseOf : ByteArray := prog_12_method_3_code
def yX10_phaseOf : MethodName := ⟨RX10, "phaseOf", "(I)I"⟩
abbrev cX10_hoursLeft : ByteArray := prog_12_method_4_code
def yX10_hoursLeft : MethodName := ⟨RX10, "hoursLeft", "(I)I"⟩
abbrev cX10_slackHoursAhead : ByteArray := prog_12_method_5_code
def yX10_slackHoursAhead : MethodName := ⟨RX10, "slackHoursAhead", "(I)I"⟩
abbrev cX10_firstOf : ByteArray := prog_12_method_6_code
def yX10_firstOf : MethodName := ⟨RX10, "firstOf", "(II)I"⟩
def RX11 : String := "EbbWreck"
def TX11 : u_T := fun k => match k with
  | 0 => ("EbbWreck", "tape", "[B", true)
  | 1 => ("EbbWreck", "tapeSize", "I", false)
  | 2 => ("EbbWreck", "faultKind", "I", false)
  | 3 => ("EbbWreck", "faultPlace", "I", false)
  | 4 => ("EbbWreck", "coast", "LEbbWreck$Coast;", true)
  | 5 => ("EbbWreck", "draft", "LEbbWreck$Coast;", true)
  | 6 => ("EbbWreck", "images", "[LEbbWreck$Coast;", true)
  | 7 => ("EbbWreck", "kept", "[Z", true)
  | 8 => ("EbbWreck", "reader", "LEbbWreck$Reader;", true)
  | 9 => ("EbbWreck", "drift", "LEbbWreck$Drift;", true)
  | 10 => ("EbbWreck", "pushing", "LEbbWreck$Pushing;", true)
  | 11 => ("EbbWreck", "throwing", "LEbbWreck$Throwing;", true)
  | 12 => ("EbbWreck", "seating", "LEbbWreck$Seating;", true)
  | 13 => ("EbbWreck", "slots", "LEbbWreck$Slots;", true)
  | _ => ("EbbWreck", "floats", "LEbbWreck$Floats;", true)
def tyX11 : Nat → FieldType := fun k => match k with
  | 0 => .array .byte
  | 1 => .int
  | 2 => .int
  | 3 => .int
  | 4 => .object "EbbWreck$Coast"
  | 5 => .object "EbbWreck$Coast"
  | 6 => .array (.object "EbbWreck$Coast")
  | 7 => .array .boolean
  | 8 => .object "EbbWreck$Reader"
  | 9 => .object "EbbWreck$Drift"
  | 10 => .object "EbbWreck$Pushing"
  | 11 => .object "EbbWreck$Throwing"
  | 12 => .object "EbbWreck$Seating"
  | 13 => .object "EbbWreck$Slots"
  | _ => .object "EbbWreck$Floats"
theorem nmX11 : ∀ a, a < 15 → ∀ b, b < 15 → a ≠ b → (TX11 a).2.1 ≠ (TX11 b).2.1 := by decide +kernel
theorem tyX11_ok : ∀ k, k < 15 → parseFieldDescriptor (TX11 k).2.2.1 = some (tyX11 k) := by decide +kernel
abbrev cX11_init : ByteArray := prog_1_method_1_code
def yX11_init : MethodName := ⟨RX11, "<init>", "()V"⟩
abbrev cX11_feed : ByteArray := prog_1_method_2_code
def yX11_feed : MethodName := ⟨RX11, "feed", "(IIIII)I"⟩
abbrev cX11_putNumber : ByteArray := prog_1_method_3_code
def yX11_putNumber : MethodName := ⟨RX11, "putNumber", "(I)V"⟩
abbrev cX11_end : ByteArray := prog_1_method_4_code
def yX11_end : MethodName := ⟨RX11, "end", "(I)I"⟩
abbrev cX11_shore : ByteArray := prog_1_method_5_code
def yX11_shore : MethodName := ⟨RX11, "shore", "()I"⟩
abbrev cX11_fault : ByteArray := prog_1_method_6_code
def yX11_fault : MethodName := ⟨RX11, "fault", "(I)I"⟩
abbrev cX11_cell : ByteArray := prog_1_method_7_code
def yX11_cell : MethodName := ⟨RX11, "cell", "(II)I"⟩
abbrev cX11_thing : ByteArray := prog_1_method_8_code
def yX11_thing : MethodName := ⟨RX11, "thing", "(II)I"⟩
abbrev cX11_rule : ByteArray := prog_1_method_9_code
def yX11_rule : MethodName := ⟨RX11, "rule", "(II)I"⟩
abbrev cX11_sitter : ByteArray := prog_1_method_10_code
def yX11_sitter : MethodName := ⟨RX11, "sitter", "(I)I"⟩
abbrev cX11_count : ByteArray := prog_1_method_11_code
def yX11_count : MethodName := ⟨RX11, "count", "(I)I"⟩
abbrev cX11_phase : ByteArray := prog_1_method_12_code
def yX11_phase : MethodName := ⟨RX11, "phase", "(I)I"⟩
abbrev cX11_next : ByteArray := prog_1_method_13_code
def yX11_next : MethodName := ⟨RX11, "next", "(II)I"⟩
abbrev cX11_lasts : ByteArray := prog_1_method_14_code
def yX11_lasts : MethodName := ⟨RX11, "lasts", "(I)I"⟩
abbrev cX11_slacks : ByteArray := prog_1_method_15_code
def yX11_slacks : MethodName := ⟨RX11, "slacks", "(I)I"⟩
abbrev cX11_drifts : ByteArray := prog_1_method_16_code
def yX11_drifts : MethodName := ⟨RX11, "drifts", "(II)I"⟩
abbrev cX11_isTideHour : ByteArray := prog_1_method_17_code
def yX11_isTideHour : MethodName := ⟨RX11, "isTideHour", "(I)Z"⟩
abbrev cX11_isWithin : ByteArray := prog_1_method_18_code
def yX11_isWithin : MethodName := ⟨RX11, "isWithin", "(II)Z"⟩
abbrev cX11_isPhase : ByteArray := prog_1_method_19_code
def yX11_isPhase : MethodName := ⟨RX11, "isPhase", "(I)Z"⟩
abbrev cX11_isAskedParty : ByteArray := prog_1_method_20_code
def yX11_isAskedParty : MethodName := ⟨RX11, "isAskedParty", "(I)Z"⟩
abbrev cX11_at : ByteArray := prog_1_method_21_code
def yX11_at : MethodName := ⟨RX11, "at", "(II)I"⟩
abbrev cX11_comes : ByteArray := prog_1_method_22_code
def yX11_comes : MethodName := ⟨RX11, "comes", "(I)I"⟩
abbrev cX11_beach : ByteArray := prog_1_method_23_code
def yX11_beach : MethodName := ⟨RX11, "beach", "(I)I"⟩
abbrev cX11_whose : ByteArray := prog_1_method_24_code
def yX11_whose : MethodName := ⟨RX11, "whose", "(I)I"⟩
abbrev cX11_has : ByteArray := prog_1_method_25_code
def yX11_has : MethodName := ⟨RX11, "has", "(I)I"⟩
abbrev cX11_line : ByteArray := prog_1_method_26_code
def yX11_line : MethodName := ⟨RX11, "line", "(I)I"⟩
abbrev cX11_richest : ByteArray := prog_1_method_27_code
def yX11_richest : MethodName := ⟨RX11, "richest", "()I"⟩
abbrev cX11_meet : ByteArray := prog_1_method_28_code
def yX11_meet : MethodName := ⟨RX11, "meet", "(II)I"⟩
abbrev cX11_argued : ByteArray := prog_1_method_29_code
def yX11_argued : MethodName := ⟨RX11, "argued", "()I"⟩
abbrev cX11_gaps : ByteArray := prog_1_method_30_code
def yX11_gaps : MethodName := ⟨RX11, "gaps", "(I)I"⟩
abbrev cX11_idle : ByteArray := prog_1_method_31_code
def yX11_idle : MethodName := ⟨RX11, "idle", "()I"⟩
abbrev cX11_without : ByteArray := prog_1_method_32_code
def yX11_without : MethodName := ⟨RX11, "without", "(II)I"⟩
abbrev cX11_strike : ByteArray := prog_1_method_33_code
def yX11_strike : MethodName := ⟨RX11, "strike", "(I)I"⟩
abbrev cX11_clock : ByteArray := prog_1_method_34_code
def yX11_clock : MethodName := ⟨RX11, "clock", "(II)I"⟩
abbrev cX11_set : ByteArray := prog_1_method_35_code
def yX11_set : MethodName := ⟨RX11, "set", "(I)I"⟩
abbrev cX11_isWish : ByteArray := prog_1_method_36_code
def yX11_isWish : MethodName := ⟨RX11, "isWish", "(II)Z"⟩
abbrev cX11_pushes : ByteArray := prog_1_method_37_code
def yX11_pushes : MethodName := ⟨RX11, "pushes", "(II)I"⟩
abbrev cX11_push : ByteArray := prog_1_method_38_code
def yX11_push : MethodName := ⟨RX11, "push", "(III)I"⟩
abbrev cX11_way : ByteArray := prog_1_method_39_code
def yX11_way : MethodName := ⟨RX11, "way", "(III)I"⟩
abbrev cX11_soonest : ByteArray := prog_1_method_40_code
def yX11_soonest : MethodName := ⟨RX11, "soonest", "(II)I"⟩
abbrev cX11_ward : ByteArray := prog_1_method_41_code
def yX11_ward : MethodName := ⟨RX11, "ward", "(II)I"⟩
abbrev cX11_all : ByteArray := prog_1_method_42_code
def yX11_all : MethodName := ⟨RX11, "all", "(I)I"⟩
abbrev cX11_eddy : ByteArray := prog_1_method_43_code
def yX11_eddy : MethodName := ⟨RX11, "eddy", "(I)I"⟩
abbrev cX11_stuck : ByteArray := prog_1_method_44_code
def yX11_stuck : MethodName := ⟨RX11, "stuck", "()I"⟩
abbrev cX11_drop : ByteArray := prog_1_method_45_code
def yX11_drop : MethodName := ⟨RX11, "drop", "(II)I"⟩
abbrev cX11_drops : ByteArray := prog_1_method_46_code
def yX11_drops : MethodName := ⟨RX11, "drops", "(I)I"⟩
abbrev cX11_origins : ByteArray := prog_1_method_47_code
def yX11_origins : MethodName := ⟨RX11, "origins", "(III)I"⟩
abbrev cX11_when : ByteArray := prog_1_method_48_code
def yX11_when : MethodName := ⟨RX11, "when", "(III)I"⟩
abbrev cX11_fits : ByteArray := prog_1_method_49_code
def yX11_fits : MethodName := ⟨RX11, "fits", "(I)I"⟩
abbrev cX11_fit : ByteArray := prog_1_method_50_code
def yX11_fit : MethodName := ⟨RX11, "fit", "(II)I"⟩
abbrev cX11_ask : ByteArray := prog_1_method_51_code
def yX11_ask : MethodName := ⟨RX11, "ask", "(I)I"⟩
abbrev cX11_leaves : ByteArray := prog_1_method_52_code
def yX11_leaves : MethodName := ⟨RX11, "leaves", "(I)I"⟩
abbrev cX11_share : ByteArray := prog_1_method_53_code
def yX11_share : MethodName := ⟨RX11, "share", "(I)I"⟩
abbrev cX11_seat : ByteArray := prog_1_method_54_code
def yX11_seat : MethodName := ⟨RX11, "seat", "(II)I"⟩
abbrev cX11_seats : ByteArray := prog_1_method_55_code
def yX11_seats : MethodName := ⟨RX11, "seats", "(I)I"⟩
abbrev cX11_rests : ByteArray := prog_1_method_56_code
def yX11_rests : MethodName := ⟨RX11, "rests", "()I"⟩
abbrev cX11_rest : ByteArray := prog_1_method_57_code
def yX11_rest : MethodName := ⟨RX11, "rest", "(I)I"⟩
abbrev cX11_sit : ByteArray := prog_1_method_58_code
def yX11_sit : MethodName := ⟨RX11, "sit", "(II)I"⟩
abbrev cX11_shove : ByteArray := prog_1_method_59_code
def yX11_shove : MethodName := ⟨RX11, "shove", "(III)I"⟩
abbrev cX11_undo : ByteArray := prog_1_method_60_code
def yX11_undo : MethodName := ⟨RX11, "undo", "()I"⟩
abbrev cX11_anew : ByteArray := prog_1_method_61_code
def yX11_anew : MethodName := ⟨RX11, "anew", "()I"⟩
abbrev cX11_rate : ByteArray := prog_1_method_62_code
def yX11_rate : MethodName := ⟨RX11, "rate", "(II)I"⟩
abbrev cX11_isGale : ByteArray := prog_1_method_63_code
def yX11_isGale : MethodName := ⟨RX11, "isGale", "(II)Z"⟩
abbrev cX11_isDrawnOften : ByteArray := prog_1_method_64_code
def yX11_isDrawnOften : MethodName := ⟨RX11, "isDrawnOften", "(I)Z"⟩
abbrev cX11_drawn : ByteArray := prog_1_method_65_code
def yX11_drawn : MethodName := ⟨RX11, "drawn", "(III)I"⟩
abbrev cX11_luck : ByteArray := prog_1_method_66_code
def yX11_luck : MethodName := ⟨RX11, "luck", "(IIII)I"⟩
abbrev cX11_waits : ByteArray := prog_1_method_67_code
def yX11_waits : MethodName := ⟨RX11, "waits", "(III)I"⟩
abbrev cX11_image : ByteArray := prog_1_method_68_code
def yX11_image : MethodName := ⟨RX11, "image", "(I)I"⟩
abbrev cX11_back : ByteArray := prog_1_method_69_code
def yX11_back : MethodName := ⟨RX11, "back", "(I)I"⟩
abbrev cX11_row : ByteArray := prog_1_method_70_code
def yX11_row : MethodName := ⟨RX11, "row", "(III)I"⟩
abbrev cX11_write : ByteArray := prog_1_method_71_code
def yX11_write : MethodName := ⟨RX11, "write", "(IIJ)I"⟩
abbrev cX11_paste : ByteArray := prog_1_method_72_code
def yX11_paste : MethodName := ⟨RX11, "paste", "(IIIII)I"⟩
def RX12 : String := "EbbWreckModel"
def TX12 : u_T := fun k => match k with
  | 0 => ("EbbWreckModel", "thrown", "I", false)
  | 1 => ("EbbWreckModel", "width", "[I", true)
  | 2 => ("EbbWreckModel", "many", "[I", true)
  | 3 => ("EbbWreckModel", "cells", "[J", true)
  | 4 => ("EbbWreckModel", "moved", "[J", true)
  | 5 => ("EbbWreckModel", "tape", "[B", true)
  | 6 => ("EbbWreckModel", "taped", "I", false)
  | 7 => ("EbbWreckModel", "at", "I", false)
  | 8 => ("EbbWreckModel", "token", "I", false)
  | 9 => ("EbbWreckModel", "place", "I", false)
  | 10 => ("EbbWreckModel", "value", "I", false)
  | 11 => ("EbbWreckModel", "word", "J", false)
  | 12 => ("EbbWreckModel", "bad", "I", false)
  | 13 => ("EbbWreckModel", "badPlace", "I", false)
  | 14 => ("EbbWreckModel", "fault", "I", false)
  | 15 => ("EbbWreckModel", "faultPlace", "I", false)
  | 16 => ("EbbWreckModel", "lines", "[I", true)
  | 17 => ("EbbWreckModel", "has", "[I", true)
  | 18 => ("EbbWreckModel", "current", "[I", true)
  | 19 => ("EbbWreckModel", "thing", "[I", true)
  | 20 => ("EbbWreckModel", "rule", "[I", true)
  | 21 => ("EbbWreckModel", "sitter", "[I", true)
  | 22 => ("EbbWreckModel", "act", "[I", true)
  | 23 => ("EbbWreckModel", "isKept", "[Z", true)
  | 24 => ("EbbWreckModel", "sits", "[I", true)
  | 25 => ("EbbWreckModel", "pushed", "[I", true)
  | 26 => ("EbbWreckModel", "lies", "I", false)
  | 27 => ("EbbWreckModel", "cameUp", "I", false)
  | 28 => ("EbbWreckModel", "fewest", "[I", true)
  | 29 => ("EbbWreckModel", "pushHow", "I", false)
  | 30 => ("EbbWreckModel", "floats", "I", false)
  | 31 => ("EbbWreckModel", "floatUp", "I", false)
  | 32 => ("EbbWreckModel", "askBest", "I", false)
  | 33 => ("EbbWreckModel", "askLeaves", "I", false)
  | 34 => ("EbbWreckModel", "strands", "[I", true)
  | 35 => ("EbbWreckModel", "restFirst", "[I", true)
  | 36 => ("EbbWreckModel", "restMany", "I", false)
  | _ => ("EbbWreckModel", "often", "[I", true)
def tyX12 : Nat → FieldType := fun k => match k with
  | 0 => .int
  | 1 => .array .int
  | 2 => .array .int
  | 3 => .array .long
  | 4 => .array .long
  | 5 => .array .byte
  | 6 => .int
  | 7 => .int
  | 8 => .int
  | 9 => .int
  | 10 => .int
  | 11 => .long
  | 12 => .int
  | 13 => .int
  | 14 => .int
  | 15 => .int
  | 16 => .array .int
  | 17 => .array .int
  | 18 => .array .int
  | 19 => .array .int
  | 20 => .array .int
  | 21 => .array .int
  | 22 => .array .int
  | 23 => .array .boolean
  | 24 => .array .int
  | 25 => .array .int
  | 26 => .int
  | 27 => .int
  | 28 => .array .int
  | 29 => .int
  | 30 => .int
  | 31 => .int
  | 32 => .int
  | 33 => .int
  | 34 => .array .int
  | 35 => .array .int
  | 36 => .int
  | _ => .array .int
theorem nmX12 : ∀ a, a < 38 → ∀ b, b < 38 → a ≠ b → (TX12 a).2.1 ≠ (TX12 b).2.1 := by decide +kernel
theorem tyX12_ok : ∀ k, k < 38 → parseFieldDescriptor (TX12 k).2.2.1 = some (tyX12 k) := by decide +kernel
abbrev cX12_init : ByteArray := prog_14_method_1_code
def yX12_init : MethodName := ⟨RX12, "<init>", "()V"⟩
abbrev cX12_in : ByteArray := prog_14_method_3_code
def yX12_in : MethodName := ⟨RX12, "in", "(JJJ)Z"⟩
abbrev cX12_isSlot : ByteArray := prog_14_method_4_code
def yX12_isSlot : MethodName := ⟨RX12, "isSlot", "(I)Z"⟩
abbrev cX12_row : ByteArray := prog_14_method_5_code
def yX12_row : MethodName := ⟨RX12, "row", "(III)I"⟩
abbrev cX12_cut : ByteArray := prog_14_method_6_code
def yX12_cut : MethodName := ⟨RX12, "cut", "(JI)J"⟩
abbrev cX12_write : ByteArray := prog_14_method_7_code
def yX12_write : MethodName := ⟨RX12, "write", "(IIJ)I"⟩
abbrev cX12_paste : ByteArray := prog_14_method_8_code
def yX12_paste : MethodName := ⟨RX12, "paste", "(IIIII)I"⟩
abbrev cX12_feed : ByteArray := prog_14_method_9_code
def yX12_feed : MethodName := ⟨RX12, "feed", "(IIIII)I"⟩
abbrev cX12_four : ByteArray := prog_14_method_10_code
def yX12_four : MethodName := ⟨RX12, "four", "(I)V"⟩
abbrev cX12_end : ByteArray := prog_14_method_11_code
def yX12_end : MethodName := ⟨RX12, "end", "(I)I"⟩
abbrev cX12_isByte : ByteArray := prog_14_method_12_code
def yX12_isByte : MethodName := ⟨RX12, "isByte", "(III)Z"⟩
abbrev cX12_next : ByteArray := prog_14_method_13_code
def yX12_next : MethodName := ⟨RX12, "next", "()V"⟩
abbrev cX12_isGood : ByteArray := prog_14_method_14_code
def yX12_isGood : MethodName := ⟨RX12, "isGood", "()Z"⟩
abbrev cX12_fails : ByteArray := prog_14_method_15_code
def yX12_fails : MethodName := ⟨RX12, "fails", "(I)V"⟩
abbrev cX12_is : ByteArray := prog_14_method_16_code
def yX12_is : MethodName := ⟨RX12, "is", "(J)Z"⟩
abbrev cX12_takes : ByteArray := prog_14_method_17_code
def yX12_takes : MethodName := ⟨RX12, "takes", "(J)Z"⟩
abbrev cX12_asks : ByteArray := prog_14_method_18_code
def yX12_asks : MethodName := ⟨RX12, "asks", "(J)V"⟩
abbrev cX12_number : ByteArray := prog_14_method_19_code
def yX12_number : MethodName := ⟨RX12, "number", "(II)I"⟩
abbrev cX12_number_ : ByteArray := prog_14_method_20_code
def yX12_number_ : MethodName := ⟨RX12, "number", "(JII)I"⟩
abbrev cX12_ends : ByteArray := prog_14_method_21_code
def yX12_ends : MethodName := ⟨RX12, "ends", "()V"⟩
abbrev cX12_begins : ByteArray := prog_14_method_22_code
def yX12_begins : MethodName := ⟨RX12, "begins", "()V"⟩
abbrev cX12_isOver : ByteArray := prog_14_method_23_code
def yX12_isOver : MethodName := ⟨RX12, "isOver", "()V"⟩
abbrev cX12_fault : ByteArray := prog_14_method_24_code
def yX12_fault : MethodName := ⟨RX12, "fault", "(I)I"⟩
abbrev cX12_hasRead : ByteArray := prog_14_method_25_code
def yX12_hasRead : MethodName := ⟨RX12, "hasRead", "(I)I"⟩
abbrev cX12_tells : ByteArray := prog_14_method_26_code
def yX12_tells : MethodName := ⟨RX12, "tells", "(II)V"⟩
abbrev cX12_cellHere : ByteArray := prog_14_method_27_code
def yX12_cellHere : MethodName := ⟨RX12, "cellHere", "()I"⟩
abbrev cX12_stepsHere : ByteArray := prog_14_method_28_code
def yX12_stepsHere : MethodName := ⟨RX12, "stepsHere", "()I"⟩
abbrev cX12_currentLine : ByteArray := prog_14_method_29_code
def yX12_currentLine : MethodName := ⟨RX12, "currentLine", "()V"⟩
abbrev cX12_thingLine : ByteArray := prog_14_method_30_code
def yX12_thingLine : MethodName := ⟨RX12, "thingLine", "()V"⟩
abbrev cX12_phaseHere : ByteArray := prog_14_method_31_code
def yX12_phaseHere : MethodName := ⟨RX12, "phaseHere", "()I"⟩
abbrev cX12_ruleLine : ByteArray := prog_14_method_32_code
def yX12_ruleLine : MethodName := ⟨RX12, "ruleLine", "()V"⟩
abbrev cX12_isRoom : ByteArray := prog_14_method_33_code
def yX12_isRoom : MethodName := ⟨RX12, "isRoom", "(ZII)Z"⟩
abbrev cX12_line : ByteArray := prog_14_method_34_code
def yX12_line : MethodName := ⟨RX12, "line", "()V"⟩
abbrev cX12_clears : ByteArray := prog_14_method_35_code
def yX12_clears : MethodName := ⟨RX12, "clears", "()V"⟩
abbrev cX12_shore : ByteArray := prog_14_method_36_code
def yX12_shore : MethodName := ⟨RX12, "shore", "()I"⟩
abbrev cX12_copyRow : ByteArray := prog_14_method_37_code
def yX12_copyRow : MethodName := ⟨RX12, "copyRow", "([IIII)V"⟩
abbrev cX12_copyShore : ByteArray := prog_14_method_38_code
def yX12_copyShore : MethodName := ⟨RX12, "copyShore", "(II)V"⟩
abbrev cX12_isShore : ByteArray := prog_14_method_39_code
def yX12_isShore : MethodName := ⟨RX12, "isShore", "()Z"⟩
abbrev cX12_isCell : ByteArray := prog_14_method_40_code
def yX12_isCell : MethodName := ⟨RX12, "isCell", "(J)Z"⟩
abbrev cX12_isThing : ByteArray := prog_14_method_41_code
def yX12_isThing : MethodName := ⟨RX12, "isThing", "(I)Z"⟩
abbrev cX12_isRule : ByteArray := prog_14_method_42_code
def yX12_isRule : MethodName := ⟨RX12, "isRule", "(I)Z"⟩
abbrev cX12_isSitter : ByteArray := prog_14_method_43_code
def yX12_isSitter : MethodName := ⟨RX12, "isSitter", "(I)Z"⟩
abbrev cX12_isParty : ByteArray := prog_14_method_44_code
def yX12_isParty : MethodName := ⟨RX12, "isParty", "(I)Z"⟩
abbrev cX12_isBit : ByteArray := prog_14_method_45_code
def yX12_isBit : MethodName := ⟨RX12, "isBit", "(II)Z"⟩
abbrev cX12_sizeOf : ByteArray := prog_14_method_46_code
def yX12_sizeOf : MethodName := ⟨RX12, "sizeOf", "(I)I"⟩
abbrev cX12_isBeach : ByteArray := prog_14_method_47_code
def yX12_isBeach : MethodName := ⟨RX12, "isBeach", "(I)Z"⟩
abbrev cX12_worth : ByteArray := prog_14_method_48_code
def yX12_worth : MethodName := ⟨RX12, "worth", "(I)I"⟩
abbrev cX12_round : ByteArray := prog_14_method_49_code
def yX12_round : MethodName := ⟨RX12, "round", "()I"⟩
abbrev cX12_phaseOf : ByteArray := prog_14_method_50_code
def yX12_phaseOf : MethodName := ⟨RX12, "phaseOf", "(I)I"⟩
abbrev cX12_held : ByteArray := prog_14_method_51_code
def yX12_held : MethodName := ⟨RX12, "held", "(I)I"⟩
abbrev cX12_on : ByteArray := prog_14_method_52_code
def yX12_on : MethodName := ⟨RX12, "on", "(II)I"⟩
abbrev cX12_cell : ByteArray := prog_14_method_53_code
def yX12_cell : MethodName := ⟨RX12, "cell", "(II)I"⟩
abbrev cX12_thing : ByteArray := prog_14_method_54_code
def yX12_thing : MethodName := ⟨RX12, "thing", "(II)I"⟩
abbrev cX12_rule : ByteArray := prog_14_method_55_code
def yX12_rule : MethodName := ⟨RX12, "rule", "(II)I"⟩
abbrev cX12_phase : ByteArray := prog_14_method_56_code
def yX12_phase : MethodName := ⟨RX12, "phase", "(I)I"⟩
abbrev cX12_next_ : ByteArray := prog_14_method_57_code
def yX12_next_ : MethodName := ⟨RX12, "next", "(II)I"⟩
abbrev cX12_drifts : ByteArray := prog_14_method_58_code
def yX12_drifts : MethodName := ⟨RX12, "drifts", "(II)I"⟩
abbrev cX12_lays : ByteArray := prog_14_method_59_code
def yX12_lays : MethodName := ⟨RX12, "lays", "()V"⟩
abbrev cX12_shoved : ByteArray := prog_14_method_60_code
def yX12_shoved : MethodName := ⟨RX12, "shoved", "(II)I"⟩
abbrev cX12_goes : ByteArray := prog_14_method_61_code
def yX12_goes : MethodName := ⟨RX12, "goes", "(IIJ)V"⟩
abbrev cX12_comesUp : ByteArray := prog_14_method_62_code
def yX12_comesUp : MethodName := ⟨RX12, "comesUp", "(I)V"⟩
abbrev cX12_stands : ByteArray := prog_14_method_63_code
def yX12_stands : MethodName := ⟨RX12, "stands", "(III)Z"⟩
abbrev cX12_partyOf : ByteArray := prog_14_method_64_code
def yX12_partyOf : MethodName := ⟨RX12, "partyOf", "(III)I"⟩
abbrev cX12_whoseNow : ByteArray := prog_14_method_65_code
def yX12_whoseNow : MethodName := ⟨RX12, "whoseNow", "(II)I"⟩
abbrev cX12_sitter : ByteArray := prog_14_method_66_code
def yX12_sitter : MethodName := ⟨RX12, "sitter", "(I)I"⟩
abbrev cX12_at : ByteArray := prog_14_method_67_code
def yX12_at : MethodName := ⟨RX12, "at", "(II)I"⟩
abbrev cX12_comes : ByteArray := prog_14_method_68_code
def yX12_comes : MethodName := ⟨RX12, "comes", "(I)I"⟩
abbrev cX12_beach : ByteArray := prog_14_method_69_code
def yX12_beach : MethodName := ⟨RX12, "beach", "(I)I"⟩
abbrev cX12_whose : ByteArray := prog_14_method_70_code
def yX12_whose : MethodName := ⟨RX12, "whose", "(I)I"⟩
abbrev cX12_hasOf : ByteArray := prog_14_method_71_code
def yX12_hasOf : MethodName := ⟨RX12, "hasOf", "(III)I"⟩
abbrev cX12_has : ByteArray := prog_14_method_72_code
def yX12_has : MethodName := ⟨RX12, "has", "(I)I"⟩
abbrev cX12_line_ : ByteArray := prog_14_method_73_code
def yX12_line_ : MethodName := ⟨RX12, "line", "(I)I"⟩
abbrev cX12_argued : ByteArray := prog_14_method_74_code
def yX12_argued : MethodName := ⟨RX12, "argued", "()I"⟩
abbrev cX12_gaps : ByteArray := prog_14_method_75_code
def yX12_gaps : MethodName := ⟨RX12, "gaps", "(I)I"⟩
abbrev cX12_isIdle : ByteArray := prog_14_method_76_code
def yX12_isIdle : MethodName := ⟨RX12, "isIdle", "(I)Z"⟩
abbrev cX12_idle : ByteArray := prog_14_method_77_code
def yX12_idle : MethodName := ⟨RX12, "idle", "()I"⟩
abbrev cX12_without : ByteArray := prog_14_method_78_code
def yX12_without : MethodName := ⟨RX12, "without", "(II)I"⟩
abbrev cX12_strike : ByteArray := prog_14_method_79_code
def yX12_strike : MethodName := ⟨RX12, "strike", "(I)I"⟩
abbrev cX12_pushBy : ByteArray := prog_14_method_80_code
def yX12_pushBy : MethodName := ⟨RX12, "pushBy", "(IIII)I"⟩
abbrev cX12_laysPushes : ByteArray := prog_14_method_81_code
def yX12_laysPushes : MethodName := ⟨RX12, "laysPushes", "(I)V"⟩
abbrev cX12_first : ByteArray := prog_14_method_82_code
def yX12_first : MethodName := ⟨RX12, "first", "(I)I"⟩
abbrev cX12_isPush : ByteArray := prog_14_method_83_code
def yX12_isPush : MethodName := ⟨RX12, "isPush", "(II)Z"⟩
abbrev cX12_pushes : ByteArray := prog_14_method_84_code
def yX12_pushes : MethodName := ⟨RX12, "pushes", "(II)I"⟩
abbrev cX12_pushOf : ByteArray := prog_14_method_85_code
def yX12_pushOf : MethodName := ⟨RX12, "pushOf", "(III)I"⟩
abbrev cX12_push : ByteArray := prog_14_method_86_code
def yX12_push : MethodName := ⟨RX12, "push", "(III)I"⟩
abbrev cX12_way : ByteArray := prog_14_method_87_code
def yX12_way : MethodName := ⟨RX12, "way", "(III)I"⟩
abbrev cX12_soonest : ByteArray := prog_14_method_88_code
def yX12_soonest : MethodName := ⟨RX12, "soonest", "(II)I"⟩
abbrev cX12_wardBy : ByteArray := prog_14_method_89_code
def yX12_wardBy : MethodName := ⟨RX12, "wardBy", "(IIII)I"⟩
abbrev cX12_ward : ByteArray := prog_14_method_90_code
def yX12_ward : MethodName := ⟨RX12, "ward", "(II)I"⟩
abbrev cX12_all : ByteArray := prog_14_method_91_code
def yX12_all : MethodName := ⟨RX12, "all", "(I)I"⟩
abbrev cX12_richest : ByteArray := prog_14_method_92_code
def yX12_richest : MethodName := ⟨RX12, "richest", "()I"⟩
abbrev cX12_meet : ByteArray := prog_14_method_93_code
def yX12_meet : MethodName := ⟨RX12, "meet", "(II)I"⟩
abbrev cX12_lasts : ByteArray := prog_14_method_94_code
def yX12_lasts : MethodName := ⟨RX12, "lasts", "(I)I"⟩
abbrev cX12_slacks : ByteArray := prog_14_method_95_code
def yX12_slacks : MethodName := ⟨RX12, "slacks", "(I)I"⟩
abbrev cX12_eddy : ByteArray := prog_14_method_96_code
def yX12_eddy : MethodName := ⟨RX12, "eddy", "(I)I"⟩
abbrev cX12_stuck : ByteArray := prog_14_method_97_code
def yX12_stuck : MethodName := ⟨RX12, "stuck", "()I"⟩
abbrev cX12_dropOf : ByteArray := prog_14_method_98_code
def yX12_dropOf : MethodName := ⟨RX12, "dropOf", "(II)I"⟩
abbrev cX12_drop : ByteArray := prog_14_method_99_code
def yX12_drop : MethodName := ⟨RX12, "drop", "(II)I"⟩
abbrev cX12_drops : ByteArray := prog_14_method_100_code
def yX12_drops : MethodName := ⟨RX12, "drops", "(I)I"⟩
abbrev cX12_floatsFrom : ByteArray := prog_14_method_101_code
def yX12_floatsFrom : MethodName := ⟨RX12, "floatsFrom", "(III)V"⟩
abbrev cX12_origins : ByteArray := prog_14_method_102_code
def yX12_origins : MethodName := ⟨RX12, "origins", "(III)I"⟩
abbrev cX12_when : ByteArray := prog_14_method_103_code
def yX12_when : MethodName := ⟨RX12, "when", "(III)I"⟩
abbrev cX12_whyNot : ByteArray := prog_14_method_104_code
def yX12_whyNot : MethodName := ⟨RX12, "whyNot", "(I)I"⟩
abbrev cX12_carried : ByteArray := prog_14_method_105_code
def yX12_carried : MethodName := ⟨RX12, "carried", "(IIIII)I"⟩
abbrev cX12_areFit : ByteArray := prog_14_method_106_code
def yX12_areFit : MethodName := ⟨RX12, "areFit", "(III)Z"⟩
abbrev cX12_fitsOf : ByteArray := prog_14_method_107_code
def yX12_fitsOf : MethodName := ⟨RX12, "fitsOf", "(I)I"⟩
abbrev cX12_fits : ByteArray := prog_14_method_108_code
def yX12_fits : MethodName := ⟨RX12, "fits", "(I)I"⟩
abbrev cX12_size : ByteArray := prog_14_method_109_code
def yX12_size : MethodName := ⟨RX12, "size", "(I)I"⟩
abbrev cX12_fit : ByteArray := prog_14_method_110_code
def yX12_fit : MethodName := ⟨RX12, "fit", "(II)I"⟩
abbrev cX12_laysAsk : ByteArray := prog_14_method_111_code
def yX12_laysAsk : MethodName := ⟨RX12, "laysAsk", "(I)V"⟩
abbrev cX12_ask : ByteArray := prog_14_method_112_code
def yX12_ask : MethodName := ⟨RX12, "ask", "(I)I"⟩
abbrev cX12_leaves : ByteArray := prog_14_method_113_code
def yX12_leaves : MethodName := ⟨RX12, "leaves", "(I)I"⟩
abbrev cX12_laysStrands : ByteArray := prog_14_method_114_code
def yX12_laysStrands : MethodName := ⟨RX12, "laysStrands", "()V"⟩
abbrev cX12_seatOf : ByteArray := prog_14_method_115_code
def yX12_seatOf : MethodName := ⟨RX12, "seatOf", "(II)I"⟩
abbrev cX12_seat : ByteArray := prog_14_method_116_code
def yX12_seat : MethodName := ⟨RX12, "seat", "(II)I"⟩
abbrev cX12_seats : ByteArray := prog_14_method_117_code
def yX12_seats : MethodName := ⟨RX12, "seats", "(I)I"⟩
abbrev cX12_share : ByteArray := prog_14_method_118_code
def yX12_share : MethodName := ⟨RX12, "share", "(I)I"⟩
abbrev cX12_rests : ByteArray := prog_14_method_119_code
def yX12_rests : MethodName := ⟨RX12, "rests", "(I)V"⟩
abbrev cX12_restsNow : ByteArray := prog_14_method_120_code
def yX12_restsNow : MethodName := ⟨RX12, "restsNow", "()I"⟩
abbrev cX12_rests_ : ByteArray := prog_14_method_121_code
def yX12_rests_ : MethodName := ⟨RX12, "rests", "()I"⟩
abbrev cX12_rest : ByteArray := prog_14_method_122_code
def yX12_rest : MethodName := ⟨RX12, "rest", "(I)I"⟩
abbrev cX12_clock : ByteArray := prog_14_method_123_code
def yX12_clock : MethodName := ⟨RX12, "clock", "(II)I"⟩
abbrev cX12_set : ByteArray := prog_14_method_124_code
def yX12_set : MethodName := ⟨RX12, "set", "(I)I"⟩
abbrev cX12_isFull : ByteArray := prog_14_method_125_code
def yX12_isFull : MethodName := ⟨RX12, "isFull", "()Z"⟩
abbrev cX12_acts : ByteArray := prog_14_method_126_code
def yX12_acts : MethodName := ⟨RX12, "acts", "(IIII)V"⟩
abbrev cX12_sit : ByteArray := prog_14_method_127_code
def yX12_sit : MethodName := ⟨RX12, "sit", "(II)I"⟩
abbrev cX12_shove : ByteArray := prog_14_method_128_code
def yX12_shove : MethodName := ⟨RX12, "shove", "(III)I"⟩
abbrev cX12_undo : ByteArray := prog_14_method_129_code
def yX12_undo : MethodName := ⟨RX12, "undo", "()I"⟩
abbrev cX12_anew : ByteArray := prog_14_method_130_code
def yX12_anew : MethodName := ⟨RX12, "anew", "()I"⟩
abbrev cX12_isDraw : ByteArray := prog_14_method_131_code
def yX12_isDraw : MethodName := ⟨RX12, "isDraw", "(II)Z"⟩
abbrev cX12_drawn : ByteArray := prog_14_method_132_code
def yX12_drawn : MethodName := ⟨RX12, "drawn", "(III)I"⟩
abbrev cX12_luck : ByteArray := prog_14_method_133_code
def yX12_luck : MethodName := ⟨RX12, "luck", "(IIII)I"⟩
abbrev cX12_waits : ByteArray := prog_14_method_134_code
def yX12_waits : MethodName := ⟨RX12, "waits", "(III)I"⟩
abbrev cX12_rate : ByteArray := prog_14_method_135_code
def yX12_rate : MethodName := ⟨RX12, "rate", "(II)I"⟩
abbrev cX12_count : ByteArray := prog_14_method_136_code
def yX12_count : MethodName := ⟨RX12, "count", "(I)I"⟩
abbrev cX12_image : ByteArray := prog_14_method_137_code
def yX12_image : MethodName := ⟨RX12, "image", "(I)I"⟩
abbrev cX12_back : ByteArray := prog_14_method_138_code
def yX12_back : MethodName := ⟨RX12, "back", "(I)I"⟩
def RJx145de : String := "java/io/Serializable"
def TJx145de : u_T := fun k => match k with
  | _ => ("", "", "", false)
def tyJx145de : Nat → FieldType := fun k => match k with
  | _ => .int
abbrev wsJx145de0 : List Cond := u_ws RJx145de TJx145de 0
theorem nmJx145de : ∀ a, a < 0 → ∀ b, b < 0 → a ≠ b → (TJx145de a).2.1 ≠ (TJx145de b).2.1 := by decide +kernel
theorem tyJx145de_ok : ∀ k, k < 0 → parseFieldDescriptor (TJx145de k).2.2.1 = some (tyJx145de k) := by decide +kernel
def RJx9f9b0 : String := "java/lang/CharSequence"
def TJx9f9b0 : u_T := fun k => match k with
  | _ => ("", "", "", false)
def tyJx9f9b0 : Nat → FieldType := fun k => match k with
  | _ => .int
abbrev wsJx9f9b00 : List Cond := u_ws RJx9f9b0 TJx9f9b0 0
theorem nmJx9f9b0 : ∀ a, a < 0 → ∀ b, b < 0 → a ≠ b → (TJx9f9b0 a).2.1 ≠ (TJx9f9b0 b).2.1 := by decide +kernel
theorem tyJx9f9b0_ok : ∀ k, k < 0 → parseFieldDescriptor (TJx9f9b0 k).2.2.1 = some (tyJx9f9b0 k) := by decide +kernel
def RJxb160c : String := "java/lang/Comparable"
def TJxb160c : u_T := fun k => match k with
  | _ => ("", "", "", false)
def tyJxb160c : Nat → FieldType := fun k => match k with
  | _ => .int
abbrev wsJxb160c0 : List Cond := u_ws RJxb160c TJxb160c 0
theorem nmJxb160c : ∀ a, a < 0 → ∀ b, b < 0 → a ≠ b → (TJxb160c a).2.1 ≠ (TJxb160c b).2.1 := by decide +kernel
theorem tyJxb160c_ok : ∀ k, k < 0 → parseFieldDescriptor (TJxb160c k).2.2.1 = some (tyJxb160c k) := by decide +kernel
def RJ6 : String := "java/lang/Integer"
def TJ6 : u_T := fun k => match k with
  | _ => ("", "", "", false)
def tyJ6 : Nat → FieldType := fun k => match k with
  | _ => .int
theorem nmJ6 : ∀ a, a < 0 → ∀ b, b < 0 → a ≠ b → (TJ6 a).2.1 ≠ (TJ6 b).2.1 := by decide +kernel
theorem tyJ6_ok : ∀ k, k < 0 → parseFieldDescriptor (TJ6 k).2.2.1 = some (tyJ6 k) := by decide +kernel
abbrev cJ6_bitCount_0f7a4 : ByteArray := prog_15_method_49_code
def yJ6_bitCount_0f7a4 : MethodName := ⟨RJ6, "bitCount", "(I)I"⟩
def RJ9 : String := "java/lang/Math"
def TJ9 : u_T := fun k => match k with
  | _ => ("", "", "", false)
def tyJ9 : Nat → FieldType := fun k => match k with
  | _ => .int
theorem nmJ9 : ∀ a, a < 0 → ∀ b, b < 0 → a ≠ b → (TJ9 a).2.1 ≠ (TJ9 b).2.1 := by decide +kernel
theorem tyJ9_ok : ∀ k, k < 0 → parseFieldDescriptor (TJ9 k).2.2.1 = some (tyJ9 k) := by decide +kernel
abbrev cJ9_abs_0f7a4 : ByteArray := prog_16_method_59_code
def yJ9_abs_0f7a4 : MethodName := ⟨RJ9, "abs", "(I)I"⟩
abbrev cJ9_max_7cf53 : ByteArray := prog_16_method_65_code
def yJ9_max_7cf53 : MethodName := ⟨RJ9, "max", "(II)I"⟩
abbrev cJ9_min_7cf53 : ByteArray := prog_16_method_69_code
def yJ9_min_7cf53 : MethodName := ⟨RJ9, "min", "(II)I"⟩
def RJ0 : String := "java/lang/String"
def TJ0 : u_T := fun k => match k with
  | _ => ("", "", "", false)
def tyJ0 : Nat → FieldType := fun k => match k with
  | _ => .int
theorem nmJ0 : ∀ a, a < 0 → ∀ b, b < 0 → a ≠ b → (TJ0 a).2.1 ≠ (TJ0 b).2.1 := by decide +kernel
theorem tyJ0_ok : ∀ k, k < 0 → parseFieldDescriptor (TJ0 k).2.2.1 = some (tyJ0 k) := by decide +kernel
abbrev cJ0_length_8abf5 : ByteArray := prog_17_method_54_code
def yJ0_length_8abf5 : MethodName := ⟨RJ0, "length", "()I"⟩
abbrev cJ0_charAt_5068e : ByteArray := prog_17_method_56_code
def yJ0_charAt_5068e : MethodName := ⟨RJ0, "charAt", "(I)C"⟩
abbrev cJ0_coder_7d493 : ByteArray := prog_17_method_152_code
def yJ0_coder_7d493 : MethodName := ⟨RJ0, "coder", "()B"⟩
abbrev cJ0_isLatin1_aae02 : ByteArray := prog_17_method_154_code
def yJ0_isLatin1_aae02 : MethodName := ⟨RJ0, "isLatin1", "()Z"⟩
abbrev cJ0_checkIndex_df160 : ByteArray := prog_17_method_155_code
def yJ0_checkIndex_df160 : MethodName := ⟨RJ0, "checkIndex", "(II)V"⟩
def RJ1 : String := "java/lang/StringLatin1"
def TJ1 : u_T := fun k => match k with
  | _ => ("", "", "", false)
def tyJ1 : Nat → FieldType := fun k => match k with
  | _ => .int
theorem nmJ1 : ∀ a, a < 0 → ∀ b, b < 0 → a ≠ b → (TJ1 a).2.1 ≠ (TJ1 b).2.1 := by decide +kernel
theorem tyJ1_ok : ∀ k, k < 0 → parseFieldDescriptor (TJ1 k).2.2.1 = some (tyJ1 k) := by decide +kernel
abbrev cJ1_charAt_3b067 : ByteArray := prog_18_method_2_code
def yJ1_charAt_3b067 : MethodName := ⟨RJ1, "charAt", "([BI)C"⟩
def RJ2 : String := "java/lang/StringUTF16"
def TJ2 : u_T := fun k => match k with
  | _ => ("", "", "", false)
def tyJ2 : Nat → FieldType := fun k => match k with
  | _ => .int
theorem nmJ2 : ∀ a, a < 0 → ∀ b, b < 0 → a ≠ b → (TJ2 a).2.1 ≠ (TJ2 b).2.1 := by decide +kernel
theorem tyJ2_ok : ∀ k, k < 0 → parseFieldDescriptor (TJ2 k).2.2.1 = some (tyJ2 k) := by decide +kernel
abbrev cJ2_getChar_3b067 : ByteArray := prog_19_method_5_code
def yJ2_getChar_3b067 : MethodName := ⟨RJ2, "getChar", "([BI)C"⟩
abbrev cJ2_length_9d52b : ByteArray := prog_19_method_6_code
def yJ2_length_9d52b : MethodName := ⟨RJ2, "length", "([B)I"⟩
abbrev cJ2_charAt_3b067 : ByteArray := prog_19_method_83_code
def yJ2_charAt_3b067 : MethodName := ⟨RJ2, "charAt", "([BI)C"⟩
abbrev cJ2_checkIndex_2214a : ByteArray := prog_19_method_91_code
def yJ2_checkIndex_2214a : MethodName := ⟨RJ2, "checkIndex", "(I[B)V"⟩
def RJ10 : String := "java/lang/System"
def TJ10 : u_T := fun k => match k with
  | _ => ("", "", "", false)
def tyJ10 : Nat → FieldType := fun k => match k with
  | _ => .int
theorem nmJ10 : ∀ a, a < 0 → ∀ b, b < 0 → a ≠ b → (TJ10 a).2.1 ≠ (TJ10 b).2.1 := by decide +kernel
theorem tyJ10_ok : ∀ k, k < 0 → parseFieldDescriptor (TJ10 k).2.2.1 = some (tyJ10 k) := by decide +kernel
def RJxfd54e : String := "java/lang/constant/Constable"
def TJxfd54e : u_T := fun k => match k with
  | _ => ("", "", "", false)
def tyJxfd54e : Nat → FieldType := fun k => match k with
  | _ => .int
abbrev wsJxfd54e0 : List Cond := u_ws RJxfd54e TJxfd54e 0
theorem nmJxfd54e : ∀ a, a < 0 → ∀ b, b < 0 → a ≠ b → (TJxfd54e a).2.1 ≠ (TJxfd54e b).2.1 := by decide +kernel
theorem tyJxfd54e_ok : ∀ k, k < 0 → parseFieldDescriptor (TJxfd54e k).2.2.1 = some (tyJxfd54e k) := by decide +kernel
def RJx3cf43 : String := "java/lang/constant/ConstantDesc"
def TJx3cf43 : u_T := fun k => match k with
  | _ => ("", "", "", false)
def tyJx3cf43 : Nat → FieldType := fun k => match k with
  | _ => .int
abbrev wsJx3cf430 : List Cond := u_ws RJx3cf43 TJx3cf43 0
theorem nmJx3cf43 : ∀ a, a < 0 → ∀ b, b < 0 → a ≠ b → (TJx3cf43 a).2.1 ≠ (TJx3cf43 b).2.1 := by decide +kernel
theorem tyJx3cf43_ok : ∀ k, k < 0 → parseFieldDescriptor (TJx3cf43 k).2.2.1 = some (tyJx3cf43 k) := by decide +kernel
def RJ7 : String := "java/util/Arrays"
def TJ7 : u_T := fun k => match k with
  | _ => ("", "", "", false)
def tyJ7 : Nat → FieldType := fun k => match k with
  | _ => .int
theorem nmJ7 : ∀ a, a < 0 → ∀ b, b < 0 → a ≠ b → (TJ7 a).2.1 ≠ (TJ7 b).2.1 := by decide +kernel
theorem tyJ7_ok : ∀ k, k < 0 → parseFieldDescriptor (TJ7 k).2.2.1 = some (tyJ7 k) := by decide +kernel
abbrev cJ7_fill_d0a16 : ByteArray := prog_21_method_101_code
def yJ7_fill_d0a16 : MethodName := ⟨RJ7, "fill", "([JJ)V"⟩
abbrev cJ7_fill_53178 : ByteArray := prog_21_method_103_code
def yJ7_fill_53178 : MethodName := ⟨RJ7, "fill", "([II)V"⟩
abbrev cJ7_fill_031fb : ByteArray := prog_21_method_109_code
def yJ7_fill_031fb : MethodName := ⟨RJ7, "fill", "([BB)V"⟩
def RJ3 : String := "jdk/internal/util/Preconditions"
def TJ3 : u_T := fun k => match k with
  | _ => ("", "", "", false)
def tyJ3 : Nat → FieldType := fun k => match k with
  | _ => .int
theorem nmJ3 : ∀ a, a < 0 → ∀ b, b < 0 → a ≠ b → (TJ3 a).2.1 ≠ (TJ3 b).2.1 := by decide +kernel
theorem tyJ3_ok : ∀ k, k < 0 → parseFieldDescriptor (TJ3 k).2.2.1 = some (tyJ3 k) := by decide +kernel
abbrev cJ3_checkIndex_8e157 : ByteArray := prog_22_method_11_code
def yJ3_checkIndex_8e157 : MethodName := ⟨RJ3, "checkIndex", "(IILjava/util/function/BiFunction;)I"⟩
def RL : String := "EbbWreckLaw"
abbrev cL_law : ByteArray := code
def yL_law : MethodName := ⟨RL, "law", "([I)Z"⟩
abbrev vwCl : List vw_C := [(RX0, TX0, 4), (RX1, TX1, 15), (RX2, TX2, 9), (RX3, TX3, 5), (RX4, TX4, 4), (RX5, TX5, 9), (RX6, TX6, 5), (RX7, TX7, 5), (RX8, TX8, 3), (RX9, TX9, 3), (RX10, TX10, 5), (RX11, TX11, 15), (RX12, TX12, 38)]
end
section
/-! the world: a pool of cells by number; ad i: the address of cell i; S i: what it holds -/
abbrev GG : Type := va_G × (Nat → ClassId)
abbrev tysG (g : GG) : List (ClassId × FieldType) := [(g.2 0, .int), (g.2 1, .byte), (g.2 2, .long), (g.2 3, .boolean), (g.2 4, .object "EbbWreck$Coast"), (g.2 5, .array .long)]
abbrev KK (g : GG) (U : State) : Prop := va_K g.1 vwCl (tysG g) U
abbrev SS : Type := Nat → va_E
def PW (g : GG) (ad : Nat → Nat) (N : Nat) (S : SS) (H : Heap) : Prop := ∀ i, i < N → va_at g.1 vwCl (ad i, S i) H
def Dj (ad : Nat → Nat) (N : Nat) : Prop := ∀ i j, i < N → j < N → ad i = ad j → i = j
def FA (ad : Nat → Nat) (N : Nat) : Nat → Prop := fun q => ∃ i, i < N ∧ ad i = q
def wl (ad : Nat → Nat) (N : Nat) (S : SS) : va_W := (List.range N).map (fun i => (ad i, S i))
theorem wl_get {ad : Nat → Nat} {N : Nat} {S : SS} {k : Nat} (h : k < N) : (wl ad N S)[k]? = some (ad k, S k) := by
  simp [wl, h]
theorem wl_of {ad : Nat → Nat} {N : Nat} {S : SS} {k : Nat} {q : Nat × va_E} (h : (wl ad N S)[k]? = some q) : k < N ∧ q = (ad k, S k) := by
  have hk : k < N := by
    have h1 := (List.getElem?_eq_some_iff.mp h).1
    simpa [wl] using h1
  rw [wl_get hk] at h
  exact ⟨hk, (Option.some.inj h).symm⟩
theorem wl_set {ad : Nat → Nat} {N : Nat} {S : SS} {k : Nat} {e : va_E} (hk : k < N) : (wl ad N S).set k (ad k, e) = wl ad N (va_up S k e) := by
  apply List.ext_getElem?
  intro i
  by_cases hi : i < N
  · rw [wl_get hi, List.getElem?_set]
    by_cases hik : k = i
    · subst hik
      simp [wl, hi, va_up]
    · rw [if_neg hik, wl_get hi, va_up_ne _ _ (fun q => hik q.symm)]
  · rw [List.getElem?_eq_none (by simp [wl]; omega), List.getElem?_eq_none (by simp [wl]; omega)]
theorem PW.toP {g : GG} {ad : Nat → Nat} {N : Nat} {S : SS} {H : Heap} (h : PW g ad N S H) : va_P g.1 vwCl (wl ad N S) H := fun k q hq => by
  obtain ⟨h1, rfl⟩ := wl_of hq
  exact h k h1
theorem PW.ofP {g : GG} {ad : Nat → Nat} {N : Nat} {S : SS} {H : Heap} (h : va_P g.1 vwCl (wl ad N S) H) : PW g ad N S H := fun i hi => h i _ (wl_get hi)
def Sp (ad : Nat → Nat) (N : Nat) (A : Nat → Prop) : Prop := Dj ad N ∧ ∀ i, i < N → A (ad i)
theorem Sp.fa {ad : Nat → Nat} {N : Nat} (h : Dj ad N) : Sp ad N (FA ad N) := ⟨h, fun i hi => ⟨i, hi, rfl⟩⟩
theorem Sp.toD {ad : Nat → Nat} {N : Nat} {A : Nat → Prop} {S : SS} (h : Sp ad N A) : va_D A (wl ad N S) := by
  refine ⟨fun i j p q hp hq e => ?_, fun k q hq => ?_⟩
  · obtain ⟨h1, rfl⟩ := wl_of hp
    obtain ⟨h2, rfl⟩ := wl_of hq
    exact h.1 i j h1 h2 e
  · obtain ⟨h1, rfl⟩ := wl_of hq
    exact h.2 k h1
def Hp (g : GG) (ad : Nat → Nat) (N : Nat) (S : SS) (A : Nat → Prop) (H0 H : Heap) (locs : List Loc) : Prop := PW g ad N S H ∧ va_S A H0 H locs
theorem up_at {S S1 : SS} {k : Nat} {v w : va_E} (e : S1 = va_up S k v) (h : v = w) : S1 k = w := by rw [e, va_up_self, h]
theorem up_ne {S S1 : SS} {k j : Nat} {v w : va_E} (e : S1 = va_up S k v) (h : j ≠ k) (c : S j = w) : S1 j = w := by rw [e, va_up_ne _ _ h, c]
/-- the words: every method's own code, then all the tables' words -/
def lw_g : List Cond := lw_tbl.filter goodWord
theorem mg {w : Cond} (h : w ∈ lw_tbl) (hg : goodWord w = true) : w ∈ lw_g := List.mem_filter.mpr ⟨h, hg⟩
theorem mgs {ws : List Cond} (h : ∀ w ∈ ws, w ∈ lw_tbl) (hg : ws.all goodWord = true) : ∀ w ∈ ws, w ∈ lw_g := fun w hw => mg (h w hw) (List.all_eq_true.mp hg w hw)
def wG (w : Cond) : List Cond := w :: lw_g
theorem good_in {w : Cond} (h : w ∈ lw_g) : (w.onTables && w.keeps) = true ∨ ∃ ty, w = .arrayClass ty := good_of_word (List.mem_filter.mp h).2
theorem gG {w1 w2 : Cond} (h : w2 ∈ lw_g) : GoodIn (wG w1) (wG w2) := fun w hw => by
  rcases List.mem_cons.mp hw with rfl | hw
  · exact ⟨List.mem_cons_of_mem _ h, good_in h⟩
  · exact ⟨List.mem_cons_of_mem _ hw, good_in hw⟩
theorem gT {w2 : Cond} (h : w2 ∈ lw_g) : GoodIn lw_g (wG w2) := fun w hw => by
  rcases List.mem_cons.mp hw with rfl | hw
  · exact ⟨h, good_in h⟩
  · exact ⟨hw, good_in hw⟩
/-- what holds in a method's body throughout -/
def Ev (p : Program) (s : State) (m : MethodId) (args : Array Value) (c : Code) (cc : ByteArray) (own : String) (g : GG) : Prop :=
  p.tables.exec = Jvm.exec ∧ c.code = cc ∧ s.vm.findClass own = some m.cls ∧ (∀ w ∈ lw_g, w.before args s = true) ∧ KK g s
def XPre (g : GG) (ad : Nat → Nat) (N : Nat) (S : SS) (av : List Value) : Array Value → State → Prop := fun v U => v = av.toArray ∧ PW g ad N S U.heap ∧ KK g U
theorem XPre.blind {g : GG} {ad : Nat → Nat} {N : Nat} {S : SS} {av : List Value} : FrameBlind (XPre g ad N S av) := fun a U gf mk q => by
  obtain ⟨q0, q1, q2⟩ := q
  exact ⟨q0, q1, va_K.moved (u := U) (U := U.calling gf mk a) (Vm.Alike.refl U.vm) q2⟩
abbrev QB (g : GG) (ad : Nat → Nat) (N : Nat) : SS → State → Prop := fun S' t => PW g ad N S' t.heap
abbrev Rm (d : Nat) : Room := { frames := d, cells := 0, slots := 0, locals := 64 * d }
def CmV (C : String) (y : MethodName) (bytes : ByteArray) (maxL : Nat) (ret : Option FieldType) (n : Nat) : Prop :=
  Cond.instanceMethod y ∈ lw_g ∧ Cond.selects C y y ∈ lw_g ∧ Cond.initialized C ∈ lw_g ∧ Cond.code y bytes maxL ret ∈ lw_g ∧ (y.cls = C ∧ y.cls ≠ "java/lang/invoke/MethodHandle" ∧ y.cls ≠ "java/lang/invoke/VarHandle" ∧ (parseMethodDescriptor y.desc).map (fun d => d.parameters.length) = some n)
def CmS (y : MethodName) (bytes : ByteArray) (maxL : Nat) (ret : Option FieldType) (n : Nat) : Prop :=
  Cond.static y ∈ lw_g ∧ Cond.initialized y.cls ∈ lw_g ∧ Cond.code y bytes maxL ret ∈ lw_g ∧ (y.cls ≠ "java/lang/invoke/MethodHandle" ∧ y.cls ≠ "java/lang/invoke/VarHandle" ∧ (parseMethodDescriptor y.desc).map (fun d => d.parameters.length) = some n)
def clOf : Nat → String × u_T × Nat × (Nat → FieldType) := fun ci => match ci with
  | 0 => (RX0, TX0, 4, tyX0) | 1 => (RX1, TX1, 15, tyX1) | 2 => (RX2, TX2, 9, tyX2) | 3 => (RX3, TX3, 5, tyX3) | 4 => (RX4, TX4, 4, tyX4) | 5 => (RX5, TX5, 9, tyX5)
  | 6 => (RX6, TX6, 5, tyX6) | 7 => (RX7, TX7, 5, tyX7) | 8 => (RX8, TX8, 3, tyX8) | 9 => (RX9, TX9, 3, tyX9) | 10 => (RX10, TX10, 5, tyX10) | 11 => (RX11, TX11, 15, tyX11) | _ => (RX12, TX12, 38, tyX12)
theorem iX0 : ∀ w ∈ u_ws RX0 TX0 4, w ∈ lw_g := mgs (by decide +kernel) (by decide +kernel)
theorem iX1 : ∀ w ∈ u_ws RX1 TX1 15, w ∈ lw_g := mgs (by decide +kernel) (by decide +kernel)
theorem iX2 : ∀ w ∈ u_ws RX2 TX2 9, w ∈ lw_g := mgs (by decide +kernel) (by decide +kernel)
theorem iX3 : ∀ w ∈ u_ws RX3 TX3 5, w ∈ lw_g := mgs (by decide +kernel) (by decide +kernel)
theorem iX4 : ∀ w ∈ u_ws RX4 TX4 4, w ∈ lw_g := mgs (by decide +kernel) (by decide +kernel)
theorem iX5 : ∀ w ∈ u_ws RX5 TX5 9, w ∈ lw_g := mgs (by decide +kernel) (by decide +kernel)
theorem iX6 : ∀ w ∈ u_ws RX6 TX6 5, w ∈ lw_g := mgs (by decide +kernel) (by decide +kernel)
theorem iX7 : ∀ w ∈ u_ws RX7 TX7 5, w ∈ lw_g := mgs (by decide +kernel) (by decide +kernel)
theorem iX8 : ∀ w ∈ u_ws RX8 TX8 3, w ∈ lw_g := mgs (by decide +kernel) (by decide +kernel)
theorem iX9 : ∀ w ∈ u_ws RX9 TX9 3, w ∈ lw_g := mgs (by decide +kernel) (by decide +kernel)
theorem iX10 : ∀ w ∈ u_ws RX10 TX10 5, w ∈ lw_g := mgs (by decide +kernel) (by decide +kernel)
theorem iX11 : ∀ w ∈ u_ws RX11 TX11 15, w ∈ lw_g := mgs (by decide +kernel) (by decide +kernel)
theorem iX12 : ∀ w ∈ u_ws RX12 TX12 38, w ∈ lw_g := mgs (by decide +kernel) (by decide +kernel)
theorem clAll {ci : Nat} {C : String} {T : u_T} {n : Nat} (h : vwCl[ci]? = some (C, T, n)) :
    (∀ w ∈ u_ws C T n, w ∈ lw_g) ∧ (∃ ty : Nat → FieldType, (∀ k, k < n → parseFieldDescriptor (T k).2.2.1 = some (ty k))) ∧ (∀ a, a < n → ∀ b, b < n → a ≠ b → (T a).2.1 ≠ (T b).2.1) := by
  match ci, h with
  | 0, h => cases h; exact ⟨iX0, ⟨_, tyX0_ok⟩, nmX0⟩
  | 1, h => cases h; exact ⟨iX1, ⟨_, tyX1_ok⟩, nmX1⟩
  | 2, h => cases h; exact ⟨iX2, ⟨_, tyX2_ok⟩, nmX2⟩
  | 3, h => cases h; exact ⟨iX3, ⟨_, tyX3_ok⟩, nmX3⟩
  | 4, h => cases h; exact ⟨iX4, ⟨_, tyX4_ok⟩, nmX4⟩
  | 5, h => cases h; exact ⟨iX5, ⟨_, tyX5_ok⟩, nmX5⟩
  | 6, h => cases h; exact ⟨iX6, ⟨_, tyX6_ok⟩, nmX6⟩
  | 7, h => cases h; exact ⟨iX7, ⟨_, tyX7_ok⟩, nmX7⟩
  | 8, h => cases h; exact ⟨iX8, ⟨_, tyX8_ok⟩, nmX8⟩
  | 9, h => cases h; exact ⟨iX9, ⟨_, tyX9_ok⟩, nmX9⟩
  | 10, h => cases h; exact ⟨iX10, ⟨_, tyX10_ok⟩, nmX10⟩
  | 11, h => cases h; exact ⟨iX11, ⟨_, tyX11_ok⟩, nmX11⟩
  | 12, h => cases h; exact ⟨iX12, ⟨_, tyX12_ok⟩, nmX12⟩
  | k + 13, h => simp [vwCl] at h
section XR
variable {p : Program} {l : Launch} {e : Env} {R : Room} {s : State} {m : MethodId} {args : Array Value} {below : List Frame} {meth : Method} {c : Code} {H : Heap} {locs : List Loc} {cells slots : Nat} {Q : State → Prop}
variable {cc : ByteArray} {pc : Nat} {ls : Array Slot} {rest : List Value} {own : String} {g : GG} {ad : Nat → Nat} {N : Nat} {S : SS} {A : Nat → Prop} {H0 : Heap}
theorem xget (E : Ev p s m args c cc own g) (hQ : Hp g ad N S A H0 H locs) (k : Nat) (hk : k < N) {ci : Nat} {fs : List Value} (hS : S k = .inr (ci, fs)) {C : String} {T : u_T} {Nf : Nat} (hc : vwCl[ci]? = some (C, T, Nf)) (j : Nat) (hj : j < Nf) {index : Nat} (hq : Cond.fieldLink own index (T j).1 (T j).2.1 (T j).2.2.1 ∈ lw_g) {v : Value} (hv : fs[j]? = some v) (hdg : decode cc pc = .ok (.getfield index, 3))
    (kk : W p l e R s m args below meth c H locs cells slots Q (F0 m (pc + 3) ls (v :: rest))) : W p l e R s m args below meth c H locs cells slots Q (F0 m pc ls (.ref (ad k) :: rest)) :=
  va_get (ws := wl ad N S) E.1 E.2.1 E.2.2.2.1 (clAll hc).1 E.2.2.1 E.2.2.2.2 hQ.1.toP k (by rw [wl_get hk, hS]) hc j hj (E.2.2.2.1 _ hq) (fun _ h => h) hv hdg kk
theorem xput (E : Ev p s m args c cc own g) (hs : Sp ad N A) (hQ : Hp g ad N S A H0 H locs) (k : Nat) (hk : k < N) {ci : Nat} {fs : List Value} (hS : S k = .inr (ci, fs)) {C : String} {T : u_T} {Nf : Nat} (hc : vwCl[ci]? = some (C, T, Nf)) (j : Nat) (hj : j < Nf) {index : Nat} (hq : Cond.fieldLink own index (T j).1 (T j).2.1 (T j).2.2.1 ∈ lw_g) (hfin : (T j).2.2.2 = false) {ty : FieldType} {v : Value} (hd : parseFieldDescriptor (T j).2.2.1 = some ty) (hn : narrow ty v = v) (hfit : fits ty v = true) (hl : j < fs.length) (hdg : decode cc pc = .ok (.putfield index, 3))
    (kk : ∀ (H1 : Heap) (locs1 : List Loc) (S1 : SS), S1 = va_up S k (.inr (ci, fs.set j v)) → Hp g ad N S1 A H0 H1 locs1 → W p l e R s m args below meth c H1 locs1 cells slots Q (F0 m (pc + 3) ls rest)) : W p l e R s m args below meth c H locs cells slots Q (F0 m pc ls (v :: .ref (ad k) :: rest)) := by
  obtain ⟨ty0, hty⟩ := (clAll hc).2.1
  refine va_put (ws := wl ad N S) E.1 E.2.1 E.2.2.2.1 (clAll hc).1 ty0 hty (clAll hc).2.2 E.2.2.1 E.2.2.2.2 hQ.1.toP hs.toD hQ.2 k (by rw [wl_get hk, hS]) hc j hj (E.2.2.2.1 _ hq) (fun _ h => h) hfin hd hn hfit hl hdg (fun H1 locs1 hP hD hS1 => ?_)
  rw [wl_set hk] at hP
  exact kk H1 locs1 _ rfl ⟨PW.ofP hP, hS1⟩
theorem xputi (E : Ev p s m args c cc own g) (hs : Sp ad N A) (hQ : Hp g ad N S A H0 H locs) (k : Nat) (hk : k < N) {ci : Nat} {fs : List Value} (hS : S k = .inr (ci, fs)) {C : String} {T : u_T} {Nf : Nat} (hc : vwCl[ci]? = some (C, T, Nf)) (j : Nat) (hj : j < Nf) {index : Nat} (hq : Cond.fieldLink own index (T j).1 (T j).2.1 (T j).2.2.1 ∈ lw_g) (hfin : (T j).2.2.2 = false) {x : Int32} (hd : (T j).2.2.1 = "I") (hl : j < fs.length) (hdg : decode cc pc = .ok (.putfield index, 3))
    (kk : ∀ (H1 : Heap) (locs1 : List Loc) (S1 : SS), S1 = va_up S k (.inr (ci, fs.set j (.int x))) → Hp g ad N S1 A H0 H1 locs1 → W p l e R s m args below meth c H1 locs1 cells slots Q (F0 m (pc + 3) ls rest)) : W p l e R s m args below meth c H locs cells slots Q (F0 m pc ls (.int x :: .ref (ad k) :: rest)) :=
  xput (ty := .int) E hs hQ k hk hS hc j hj hq hfin (by rw [hd]; decide +kernel) rfl rfl hl hdg kk
theorem xiald (E : Ev p s m args c cc own g) (hQ : Hp g ad N S A H0 H locs) (k : Nat) (hk : k < N) {n : Nat} {f : Nat → Int32} (hS : S k = .inl (g.2 0, n, .inl f)) {i : Int32} (hin : vp_in i n) (hdg : decode cc pc = .ok (.iaload, 1))
    (kk : W p l e R s m args below meth c H locs cells slots Q (F0 m (pc + 1) ls (.int (f i.toNatClampNeg) :: rest))) : W p l e R s m args below meth c H locs cells slots Q (F0 m pc ls (.int i :: .ref (ad k) :: rest)) :=
  va_iald (ws := wl ad N S) E.1 E.2.1 E.2.2.2.2 hQ.1.toP k 0 (by rw [wl_get hk, hS]) rfl hin hdg kk
theorem xbald (E : Ev p s m args c cc own g) (hQ : Hp g ad N S A H0 H locs) (k : Nat) (hk : k < N) {n : Nat} {f : Nat → Int32} (hS : S k = .inl (g.2 1, n, .inl f)) {i : Int32} (hin : vp_in i n) (hdg : decode cc pc = .ok (.baload, 1))
    (kk : W p l e R s m args below meth c H locs cells slots Q (F0 m (pc + 1) ls (.int (f i.toNatClampNeg) :: rest))) : W p l e R s m args below meth c H locs cells slots Q (F0 m pc ls (.int i :: .ref (ad k) :: rest)) :=
  va_bald (ws := wl ad N S) E.1 E.2.1 E.2.2.2.2 hQ.1.toP k 1 (by rw [wl_get hk, hS]) rfl hin hdg kk
theorem xzald (E : Ev p s m args c cc own g) (hQ : Hp g ad N S A H0 H locs) (k : Nat) (hk : k < N) {n : Nat} {f : Nat → Int32} (hS : S k = .inl (g.2 3, n, .inl f)) {i : Int32} (hin : vp_in i n) (hdg : decode cc pc = .ok (.baload, 1))
    (kk : W p l e R s m args below meth c H locs cells slots Q (F0 m (pc + 1) ls (.int (f i.toNatClampNeg) :: rest))) : W p l e R s m args below meth c H locs cells slots Q (F0 m pc ls (.int i :: .ref (ad k) :: rest)) :=
  va_zald (ws := wl ad N S) E.1 E.2.1 E.2.2.2.2 hQ.1.toP k 3 (by rw [wl_get hk, hS]) rfl hin hdg kk
theorem xlald (E : Ev p s m args c cc own g) (hQ : Hp g ad N S A H0 H locs) (k : Nat) (hk : k < N) {n : Nat} {f : Nat → Int64} (hS : S k = .inl (g.2 2, n, .inr (.inl f))) {i : Int32} (hin : vp_in i n) (hdg : decode cc pc = .ok (.laload, 1))
    (kk : W p l e R s m args below meth c H locs cells slots Q (F0 m (pc + 1) ls (.long (f i.toNatClampNeg) :: rest))) : W p l e R s m args below meth c H locs cells slots Q (F0 m pc ls (.int i :: .ref (ad k) :: rest)) :=
  va_lald (ws := wl ad N S) E.1 E.2.1 E.2.2.2.2 hQ.1.toP k 2 (by rw [wl_get hk, hS]) rfl hin hdg kk
theorem xqald (E : Ev p s m args c cc own g) (hQ : Hp g ad N S A H0 H locs) (k : Nat) (hk : k < N) {n : Nat} {f : Nat → Option Nat} (hS : S k = .inl (g.2 4, n, .inr (.inr (.inr (.inr f))))) {i : Int32} (hin : vp_in i n) {q : Nat} (hf : f i.toNatClampNeg = some q) (hdg : decode cc pc = .ok (.aaload, 1))
    (kk : W p l e R s m args below meth c H locs cells slots Q (F0 m (pc + 1) ls (.ref q :: rest))) : W p l e R s m args below meth c H locs cells slots Q (F0 m pc ls (.int i :: .ref (ad k) :: rest)) :=
  va_aldq (ws := wl ad N S) E.1 E.2.1 E.2.2.2.2 hQ.1.toP k 4 (by rw [wl_get hk, hS]) rfl hin hdg (by rw [hf]; exact kk)
theorem xaald (E : Ev p s m args c cc own g) (hQ : Hp g ad N S A H0 H locs) (k : Nat) (hk : k < N) {n : Nat} {f : Nat → Option Nat} (hS : S k = .inl (g.2 5, n, .inr (.inr (.inr (.inr f))))) {i : Int32} (hin : vp_in i n) {q : Nat} (hf : f i.toNatClampNeg = some q) (hdg : decode cc pc = .ok (.aaload, 1))
    (kk : W p l e R s m args below meth c H locs cells slots Q (F0 m (pc + 1) ls (.ref q :: rest))) : W p l e R s m args below meth c H locs cells slots Q (F0 m pc ls (.int i :: .ref (ad k) :: rest)) := by
  have hlt : i.toNatClampNeg < n := Nat.not_le.mp fun q => hin (Or.inr q)
  have hP := hQ.1 k hk
  rw [hS] at hP
  exact W.aald (v := .ref q) (ty := .array .long) E.1 E.2.1 hP ((E.2.2.2.2.2 5 _ rfl).1 n (fun j => va_rf (f j))) rfl (fun q => by cases q) (by show ¬ (i < 0 ∨ (arrV _ _ _).slots.size ≤ _); rw [arrV_size]; exact hin) (by show (arrV _ _ _).slots[_]? = _; rw [arrV_read _ _ hlt, hf]; rfl) rfl rfl hdg kk
theorem xiast (E : Ev p s m args c cc own g) (hs : Sp ad N A) (hQ : Hp g ad N S A H0 H locs) (k : Nat) (hk : k < N) {n : Nat} {f : Nat → Int32} (hS : S k = .inl (g.2 0, n, .inl f)) {i x : Int32} (hin : vp_in i n) (hdg : decode cc pc = .ok (.iastore, 1))
    (kk : ∀ (H1 : Heap) (locs1 : List Loc) (S1 : SS), S1 = va_up S k (.inl (g.2 0, n, .inl (upd f i.toNatClampNeg x))) → Hp g ad N S1 A H0 H1 locs1 → W p l e R s m args below meth c H1 locs1 cells slots Q (F0 m (pc + 1) ls rest)) : W p l e R s m args below meth c H locs cells slots Q (F0 m pc ls (.int x :: .int i :: .ref (ad k) :: rest)) := by
  refine va_iast (ws := wl ad N S) E.1 E.2.1 E.2.2.2.2 hQ.1.toP hs.toD hQ.2 k 0 (by rw [wl_get hk, hS]) rfl hin hdg (fun H1 locs1 hP hD hS1 => ?_)
  rw [wl_set hk] at hP
  exact kk H1 locs1 _ rfl ⟨PW.ofP hP, hS1⟩
theorem xbast (E : Ev p s m args c cc own g) (hs : Sp ad N A) (hQ : Hp g ad N S A H0 H locs) (k : Nat) (hk : k < N) {n : Nat} {f : Nat → Int32} (hS : S k = .inl (g.2 1, n, .inl f)) {i x : Int32} (hin : vp_in i n) (hdg : decode cc pc = .ok (.bastore, 1))
    (kk : ∀ (H1 : Heap) (locs1 : List Loc) (S1 : SS), S1 = va_up S k (.inl (g.2 1, n, .inl (upd f i.toNatClampNeg (vp_nar .byte x)))) → Hp g ad N S1 A H0 H1 locs1 → W p l e R s m args below meth c H1 locs1 cells slots Q (F0 m (pc + 1) ls rest)) : W p l e R s m args below meth c H locs cells slots Q (F0 m pc ls (.int x :: .int i :: .ref (ad k) :: rest)) := by
  refine va_bast (ws := wl ad N S) E.1 E.2.1 E.2.2.2.2 hQ.1.toP hs.toD hQ.2 k 1 (by rw [wl_get hk, hS]) rfl hin hdg (fun H1 locs1 hP hD hS1 => ?_)
  rw [wl_set hk] at hP
  exact kk H1 locs1 _ rfl ⟨PW.ofP hP, hS1⟩
theorem xzast (E : Ev p s m args c cc own g) (hs : Sp ad N A) (hQ : Hp g ad N S A H0 H locs) (k : Nat) (hk : k < N) {n : Nat} {f : Nat → Int32} (hS : S k = .inl (g.2 3, n, .inl f)) {i x : Int32} (hin : vp_in i n) (hdg : decode cc pc = .ok (.bastore, 1))
    (kk : ∀ (H1 : Heap) (locs1 : List Loc) (S1 : SS), S1 = va_up S k (.inl (g.2 3, n, .inl (upd f i.toNatClampNeg (vp_nar .boolean x)))) → Hp g ad N S1 A H0 H1 locs1 → W p l e R s m args below meth c H1 locs1 cells slots Q (F0 m (pc + 1) ls rest)) : W p l e R s m args below meth c H locs cells slots Q (F0 m pc ls (.int x :: .int i :: .ref (ad k) :: rest)) := by
  refine va_zast (ws := wl ad N S) E.1 E.2.1 E.2.2.2.2 hQ.1.toP hs.toD hQ.2 k 3 (by rw [wl_get hk, hS]) rfl hin hdg (fun H1 locs1 hP hD hS1 => ?_)
  rw [wl_set hk] at hP
  exact kk H1 locs1 _ rfl ⟨PW.ofP hP, hS1⟩
theorem xlast (E : Ev p s m args c cc own g) (hs : Sp ad N A) (hQ : Hp g ad N S A H0 H locs) (k : Nat) (hk : k < N) {n : Nat} {f : Nat → Int64} (hS : S k = .inl (g.2 2, n, .inr (.inl f))) {i : Int32} {x : Int64} (hin : vp_in i n) (hdg : decode cc pc = .ok (.lastore, 1))
    (kk : ∀ (H1 : Heap) (locs1 : List Loc) (S1 : SS), S1 = va_up S k (.inl (g.2 2, n, .inr (.inl (vp_updL f i.toNatClampNeg x)))) → Hp g ad N S1 A H0 H1 locs1 → W p l e R s m args below meth c H1 locs1 cells slots Q (F0 m (pc + 1) ls rest)) : W p l e R s m args below meth c H locs cells slots Q (F0 m pc ls (.long x :: .int i :: .ref (ad k) :: rest)) := by
  refine va_last (ws := wl ad N S) E.1 E.2.1 E.2.2.2.2 hQ.1.toP hs.toD hQ.2 k 2 (by rw [wl_get hk, hS]) rfl hin hdg (fun H1 locs1 hP hD hS1 => ?_)
  rw [wl_set hk] at hP
  exact kk H1 locs1 _ rfl ⟨PW.ofP hP, hS1⟩
/-- any array's length -/
theorem xalen (E : Ev p s m args c cc own g) (hQ : Hp g ad N S A H0 H locs) (k : Nat) (hk : k < N) (t0 : Nat) {cA : ClassId} {x : vp_A} (hS : S k = .inl (cA, x)) {ty : FieldType} (ht : (tysG g)[t0]? = some (cA, ty)) {v : Int32} (hv : Int32.ofNat x.1 = v) (hdg : decode cc pc = .ok (.arraylength, 1))
    (kk : W p l e R s m args below meth c H locs cells slots Q (F0 m (pc + 1) ls (.int v :: rest))) : W p l e R s m args below meth c H locs cells slots Q (F0 m pc ls (.ref (ad k) :: rest)) :=
  va_alen (ws := wl ad N S) E.1 E.2.1 E.2.2.2.2 hQ.1.toP k t0 (by rw [wl_get hk, hS]) ht hv hdg kk
/-- int and byte arrays copied, System.arraycopy -/
theorem xcopyi (E : Ev p s m args c cc own g) (hs : Sp ad N A) (hQ : Hp g ad N S A H0 H locs) {nL : Nat} (hml : c.maxLocals = nL) (hls : ls.size = nL) (k0 : Nat) (hk0 : k0 < N) (k : Nat) (hk : k < N) {n0 n1 : Nat} {f f1 : Nat → Int32} (hS0 : S k0 = .inl (g.2 0, n0, .inl f)) (hS : S k = .inl (g.2 0, n1, .inl f1)) {index : Nat} (hq : Cond.methodLink own index arraycopyName ∈ lw_g)
    {sp dp n : Int32} (h1 : ¬ sp < 0) (h2 : ¬ dp < 0) (h3 : ¬ n < 0) (h4 : sp.toNatClampNeg + n.toNatClampNeg ≤ n0) (h5 : dp.toNatClampNeg + n.toNatClampNeg ≤ n1) (hframes : 1 ≤ R.frames) (hlocals : (rest.map fun v => v.category).sum + (nativeFrameWords "java/lang/System" "arraycopy" 5 + 11) ≤ R.locals) (hdg : decode cc pc = .ok (.invokestatic index, 3))
    (kk : ∀ (H1 : Heap) (locs1 : List Loc) (S1 : SS), S1 = va_up S k (.inl (g.2 0, n1, .inl (va_cpy f f1 sp.toNatClampNeg dp.toNatClampNeg n.toNatClampNeg))) → Hp g ad N S1 A H0 H1 locs1 → W p l e R s m args below meth c H1 locs1 cells slots Q (F0 m (pc + 3) ls rest)) : W p l e R s m args below meth c H locs cells slots Q (F0 m pc ls (.int n :: .int dp :: .ref (ad k) :: .int sp :: .ref (ad k0) :: rest)) := by
  refine va_copyi (ws := wl ad N S) (ty := .int) E.1 E.2.1 (hml.trans hls.symm) E.2.2.1 (E.2.2.2.1 _ hq) (E.2.2.2.1 _ (mg (by decide +kernel) rfl)) (E.2.2.2.1 _ (mg (by decide +kernel) rfl)) (E.2.2.2.1 _ (mg (by decide +kernel) rfl)) E.2.2.2.2 hQ.1.toP hs.toD hQ.2 k0 k 0 0 (by rw [wl_get hk0, hS0]) (by rw [wl_get hk, hS]) rfl rfl rfl h1 h2 h3 h4 h5 (fun i hi => rfl) hframes hlocals hdg (fun H1 locs1 hP hD hS1 => ?_)
  rw [wl_set hk] at hP
  exact kk H1 locs1 _ rfl ⟨PW.ofP hP, hS1⟩
/-- calls: the callee's world is the same pool -/
theorem xpreS {av : List Value} (hP : PW g ad N S H) (hK : KK g s) : PreS s H (XPre g ad N S av) av :=
  ⟨XPre.blind, fun U hU hW => ⟨rfl, by rw [hU]; exact hP, va_K.moved hW.alike hK⟩⟩
theorem xpreV {As : List Value} (hP : PW g ad N S H) (hK : KK g s) (k : Nat) (hk : k < N) {ci : Nat} {fs : List Value} (hS : S k = .inr (ci, fs)) {q : vw_C} (hc : vwCl[ci]? = some q) : PreV s H q.1 (ad k) (XPre g ad N S (.ref (ad k) :: As)) As :=
  ⟨XPre.blind, va_recv (ws := wl ad N S) (q0 := k) hK hP.toP hc (by rw [wl_get hk, hS]), fun U hU hW => ⟨rfl, by rw [hU]; exact hP, va_K.moved hW.alike hK⟩⟩
theorem fa_in (hs : Sp ad N A) : ∀ q, FA ad N q → A q := fun q h => by
  obtain ⟨i, hi, rfl⟩ := h
  exact hs.2 i hi
theorem cwG {y : MethodName} {bytes : ByteArray} {maxL n index : Nat} {ret : Option FieldType} {C : String} {rm : Room} (hts : ∀ w ∈ lw_g, w.before args s = true) (hC : CmV C y bytes maxL ret n) (hq : Cond.methodLink own index y ∈ lw_g) (hR : rm.frames + 1 ≤ R.frames ∧ 8 + (maxL + 11) + rm.locals ≤ R.locals) : CallW R s args own C index y bytes maxL ret (wG (.code y bytes maxL ret)) rm rm.cells rm.slots n := by
  obtain ⟨h1, h2, h3, h4, h5⟩ := hC
  refine cwV (Ts := lw_g) n hts (fun w hw => ?_) rfl rfl rfl h5 hR
  rcases List.mem_append.mp hw with hw | hw
  · have : w = .methodLink own index y ∨ w = .instanceMethod y ∨ w = .selects C y y ∨ w = .initialized C := by simpa using hw
    rcases this with rfl | rfl | rfl | rfl
    · exact ⟨hq, good_in hq⟩
    · exact ⟨h1, good_in h1⟩
    · exact ⟨h2, good_in h2⟩
    · exact ⟨h3, good_in h3⟩
  · exact gT h4 w hw
theorem cwT {y : MethodName} {bytes : ByteArray} {maxL n index : Nat} {ret : Option FieldType} {rm : Room} (hts : ∀ w ∈ lw_g, w.before args s = true) (hC : CmS y bytes maxL ret n) (hq : Cond.methodLink own index y ∈ lw_g) (hR : rm.frames + 1 ≤ R.frames ∧ 8 + (maxL + 11) + rm.locals ≤ R.locals) : CallB R s args own index y bytes maxL ret (wG (.code y bytes maxL ret)) rm rm.cells rm.slots n ∧ (Cond.static y).before args s = true := by
  obtain ⟨h1, h2, h3, h5⟩ := hC
  refine va_cwS (Ts := lw_g) n hts (fun w hw => ?_) rfl rfl rfl h5 hR
  rcases List.mem_append.mp hw with hw | hw
  · have : w = .methodLink own index y ∨ w = .static y ∨ w = .initialized y.cls := by simpa using hw
    rcases this with rfl | rfl | rfl
    · exact ⟨hq, good_in hq⟩
    · exact ⟨h1, good_in h1⟩
    · exact ⟨h2, good_in h2⟩
  · exact gT h3 w hw
theorem xcVi {y : MethodName} {bytes : ByteArray} {maxL n nL index d : Nat} {ret : Option FieldType} {post : Int32 → SS → Prop} {As : List Value} (E : Ev p s m args c cc own g) (hs : Sp ad N A) (hQ : Hp g ad N S A H0 H locs) (hml : c.maxLocals = nL) (hls : ls.size = nL) (k : Nat)
    (hM : Met l y (wG (.code y bytes maxL ret)) (Rm d) (XPre g ad N S (.ref (ad k) :: As)) (va_Qi post (QB g ad N) (FA ad N)) 0 0 (FA ad N)) {q : vw_C} (hC : CmV q.1 y bytes maxL ret n) (hq : Cond.methodLink own index y ∈ lw_g) (hk : k < N) {ci : Nat} {fs : List Value} (hS : S k = .inr (ci, fs)) (hc : vwCl[ci]? = some q) (hn : As.length = n) (hcs : cells ≤ R.cells ∧ slots ≤ R.slots) (hR : d + 1 ≤ R.frames ∧ 8 + (maxL + 11) + 64 * d ≤ R.locals) (hrest : (rest.map fun v => v.category).sum ≤ 8) {st : List Value} (hst : st = As.reverse ++ .ref (ad k) :: rest) (hdg : decode cc pc = .ok (.invokevirtual index, 3))
    (kk : ∀ (r : Int32) (S' : SS) (H1 : Heap) (locs1 : List Loc), post r S' → Hp g ad N S' A H0 H1 locs1 → (∀ q : Nat, q < H.size → ¬ FA ad N q → H1[q]? = H[q]?) → W p l e R s m args below meth c H1 locs1 cells slots Q (F0 m (pc + 3) ls (.int r :: rest))) : W p l e R s m args below meth c H locs cells slots Q (F0 m pc ls st) := by
  refine va_calli (va_runV (As := As) (rest := rest) ⟨E.1, E.2.1, hml, E.2.2.1, E.2.2.2.1⟩ hM (cwG E.2.2.2.1 hC hq hR) (xpreV hQ.1 E.2.2.2.2 k hk hS hc) rfl hn hls hst (lv_room hrest) hdg hcs) hQ.2 (fun q _ h => fa_in hs q h) (fa_in hs) (fun r u t H1 locs1 ht hvm hp hB hz hk1 hS1 => ?_)
  exact kk r u H1 locs1 hp ⟨by rw [← ht]; exact hB, hS1⟩ hk1
theorem xcVv {y : MethodName} {bytes : ByteArray} {maxL n nL index d : Nat} {ret : Option FieldType} {post : SS → Prop} {As : List Value} (E : Ev p s m args c cc own g) (hs : Sp ad N A) (hQ : Hp g ad N S A H0 H locs) (hml : c.maxLocals = nL) (hls : ls.size = nL) (k : Nat)
    (hM : Met l y (wG (.code y bytes maxL ret)) (Rm d) (XPre g ad N S (.ref (ad k) :: As)) (va_Qv post (QB g ad N) (FA ad N)) 0 0 (FA ad N)) {q : vw_C} (hC : CmV q.1 y bytes maxL ret n) (hq : Cond.methodLink own index y ∈ lw_g) (hk : k < N) {ci : Nat} {fs : List Value} (hS : S k = .inr (ci, fs)) (hc : vwCl[ci]? = some q) (hn : As.length = n) (hcs : cells ≤ R.cells ∧ slots ≤ R.slots) (hR : d + 1 ≤ R.frames ∧ 8 + (maxL + 11) + 64 * d ≤ R.locals) (hrest : (rest.map fun v => v.category).sum ≤ 8) {st : List Value} (hst : st = As.reverse ++ .ref (ad k) :: rest) (hdg : decode cc pc = .ok (.invokevirtual index, 3))
    (kk : ∀ (S' : SS) (H1 : Heap) (locs1 : List Loc), post S' → Hp g ad N S' A H0 H1 locs1 → (∀ q : Nat, q < H.size → ¬ FA ad N q → H1[q]? = H[q]?) → W p l e R s m args below meth c H1 locs1 cells slots Q (F0 m (pc + 3) ls rest)) : W p l e R s m args below meth c H locs cells slots Q (F0 m pc ls st) := by
  refine va_callv (va_runV (As := As) (rest := rest) ⟨E.1, E.2.1, hml, E.2.2.1, E.2.2.2.1⟩ hM (cwG E.2.2.2.1 hC hq hR) (xpreV hQ.1 E.2.2.2.2 k hk hS hc) rfl hn hls hst (lv_room hrest) hdg hcs) hQ.2 (fun q _ h => fa_in hs q h) (fa_in hs) (fun u t H1 locs1 ht hvm hp hB hz hk1 hS1 => ?_)
  exact kk u H1 locs1 hp ⟨by rw [← ht]; exact hB, hS1⟩ hk1
theorem xcSi {y : MethodName} {bytes : ByteArray} {maxL n nL index d : Nat} {ret : Option FieldType} {post : Int32 → SS → Prop} {As : List Value} (E : Ev p s m args c cc own g) (hs : Sp ad N A) (hQ : Hp g ad N S A H0 H locs) (hml : c.maxLocals = nL) (hls : ls.size = nL)
    (hM : Met l y (wG (.code y bytes maxL ret)) (Rm d) (XPre g ad N S As) (va_Qi post (QB g ad N) (FA ad N)) 0 0 (FA ad N)) (hC : CmS y bytes maxL ret n) (hq : Cond.methodLink own index y ∈ lw_g) (hn : As.length = n) (hcs : cells ≤ R.cells ∧ slots ≤ R.slots) (hR : d + 1 ≤ R.frames ∧ 8 + (maxL + 11) + 64 * d ≤ R.locals) (hrest : (rest.map fun v => v.category).sum ≤ 8) {st : List Value} (hst : st = As.reverse ++ rest) (hdg : decode cc pc = .ok (.invokestatic index, 3))
    (kk : ∀ (r : Int32) (S' : SS) (H1 : Heap) (locs1 : List Loc), post r S' → Hp g ad N S' A H0 H1 locs1 → W p l e R s m args below meth c H1 locs1 cells slots Q (F0 m (pc + 3) ls (.int r :: rest))) : W p l e R s m args below meth c H locs cells slots Q (F0 m pc ls st) := by
  refine va_calli (va_runS (As := As) (rest := rest) ⟨E.1, E.2.1, hml, E.2.2.1, E.2.2.2.1⟩ hM (cwT E.2.2.2.1 hC hq hR) (xpreS hQ.1 E.2.2.2.2) rfl hn hls hst (lv_room hrest) hdg hcs) hQ.2 (fun q _ h => fa_in hs q h) (fa_in hs) (fun r u t H1 locs1 ht hvm hp hB hz hk1 hS1 => ?_)
  exact kk r u H1 locs1 hp ⟨by rw [← ht]; exact hB, hS1⟩
theorem xcSl {y : MethodName} {bytes : ByteArray} {maxL n nL index d : Nat} {ret : Option FieldType} {post : Int64 → SS → Prop} {As : List Value} (E : Ev p s m args c cc own g) (hs : Sp ad N A) (hQ : Hp g ad N S A H0 H locs) (hml : c.maxLocals = nL) (hls : ls.size = nL)
    (hM : Met l y (wG (.code y bytes maxL ret)) (Rm d) (XPre g ad N S As) (va_Ql post (QB g ad N) (FA ad N)) 0 0 (FA ad N)) (hC : CmS y bytes maxL ret n) (hq : Cond.methodLink own index y ∈ lw_g) (hn : As.length = n) (hcs : cells ≤ R.cells ∧ slots ≤ R.slots) (hR : d + 1 ≤ R.frames ∧ 8 + (maxL + 11) + 64 * d ≤ R.locals) (hrest : (rest.map fun v => v.category).sum ≤ 8) {st : List Value} (hst : st = As.reverse ++ rest) (hdg : decode cc pc = .ok (.invokestatic index, 3))
    (kk : ∀ (r : Int64) (S' : SS) (H1 : Heap) (locs1 : List Loc), post r S' → Hp g ad N S' A H0 H1 locs1 → W p l e R s m args below meth c H1 locs1 cells slots Q (F0 m (pc + 3) ls (.long r :: rest))) : W p l e R s m args below meth c H locs cells slots Q (F0 m pc ls st) := by
  refine va_calll (va_runS (As := As) (rest := rest) ⟨E.1, E.2.1, hml, E.2.2.1, E.2.2.2.1⟩ hM (cwT E.2.2.2.1 hC hq hR) (xpreS hQ.1 E.2.2.2.2) rfl hn hls hst (lv_room hrest) hdg hcs) hQ.2 (fun q _ h => fa_in hs q h) (fa_in hs) (fun r u t H1 locs1 ht hvm hp hB hz hk1 hS1 => ?_)
  exact kk r u H1 locs1 hp ⟨by rw [← ht]; exact hB, hS1⟩
theorem xcSv {y : MethodName} {bytes : ByteArray} {maxL n nL index d : Nat} {ret : Option FieldType} {post : SS → Prop} {As : List Value} (E : Ev p s m args c cc own g) (hs : Sp ad N A) (hQ : Hp g ad N S A H0 H locs) (hml : c.maxLocals = nL) (hls : ls.size = nL)
    (hM : Met l y (wG (.code y bytes maxL ret)) (Rm d) (XPre g ad N S As) (va_Qv post (QB g ad N) (FA ad N)) 0 0 (FA ad N)) (hC : CmS y bytes maxL ret n) (hq : Cond.methodLink own index y ∈ lw_g) (hn : As.length = n) (hcs : cells ≤ R.cells ∧ slots ≤ R.slots) (hR : d + 1 ≤ R.frames ∧ 8 + (maxL + 11) + 64 * d ≤ R.locals) (hrest : (rest.map fun v => v.category).sum ≤ 8) {st : List Value} (hst : st = As.reverse ++ rest) (hdg : decode cc pc = .ok (.invokestatic index, 3))
    (kk : ∀ (S' : SS) (H1 : Heap) (locs1 : List Loc), post S' → Hp g ad N S' A H0 H1 locs1 → W p l e R s m args below meth c H1 locs1 cells slots Q (F0 m (pc + 3) ls rest)) : W p l e R s m args below meth c H locs cells slots Q (F0 m pc ls st) := by
  refine va_callv (va_runS (As := As) (rest := rest) ⟨E.1, E.2.1, hml, E.2.2.1, E.2.2.2.1⟩ hM (cwT E.2.2.2.1 hC hq hR) (xpreS hQ.1 E.2.2.2.2) rfl hn hls hst (lv_room hrest) hdg hcs) hQ.2 (fun q _ h => fa_in hs q h) (fa_in hs) (fun u t H1 locs1 ht hvm hp hB hz hk1 hS1 => ?_)
  exact kk u H1 locs1 hp ⟨by rw [← ht]; exact hB, hS1⟩
/-- a method's end -/
theorem xri {post : Int32 → SS → Prop} {v : Int32} (E : Ev p s m args c cc own g) (hr : meth.sig.returnType = some .int) (hlk : meth.locks = false) (hQ : Hp g ad N S (FA ad N) s.heap H locs) (hp : post v S) (hdg : decode cc pc = .ok (.ireturn, 1)) :
    W p l e R s m args below meth c H locs cells slots (MQ below (va_Qi post (QB g ad N) (FA ad N)) args s cells slots (FA ad N)) (F0 m pc ls [.int v]) :=
  W.iret E.1 E.2.1 hr (fun t ht hW => ⟨⟨v, S, rfl, hp, by show PW g ad N S t.heap; rw [ht]; exact hQ.1⟩, hQ.2.F ht⟩) hQ.2.2.2 hdg hlk
theorem xrz {post : Int32 → SS → Prop} {v : Int32} (E : Ev p s m args c cc own g) (hr : meth.sig.returnType = some .boolean) (hlk : meth.locks = false) (hQ : Hp g ad N S (FA ad N) s.heap H locs) (hn : narrow .boolean (.int v) = .int v) (hp : post v S) (hdg : decode cc pc = .ok (.ireturn, 1)) :
    W p l e R s m args below meth c H locs cells slots (MQ below (va_Qi post (QB g ad N) (FA ad N)) args s cells slots (FA ad N)) (F0 m pc ls [.int v]) :=
  W.zret E.1 E.2.1 hr hn (fun t ht hW => ⟨⟨v, S, rfl, hp, by show PW g ad N S t.heap; rw [ht]; exact hQ.1⟩, hQ.2.F ht⟩) hQ.2.2.2 hdg hlk
theorem xrv {post : SS → Prop} (E : Ev p s m args c cc own g) (hr : meth.sig.returnType = none) (hlk : meth.locks = false) (hQ : Hp g ad N S (FA ad N) s.heap H locs) (hp : post S) (hdg : decode cc pc = .ok (.return_, 1)) :
    W p l e R s m args below meth c H locs cells slots (MQ below (va_Qv post (QB g ad N) (FA ad N)) args s cells slots (FA ad N)) (F0 m pc ls []) :=
  W.vret E.1 E.2.1 hr (fun t ht hW => ⟨⟨S, rfl, hp, by show PW g ad N S t.heap; rw [ht]; exact hQ.1⟩, hQ.2.F ht⟩) hQ.2.2.2 hdg hlk
theorem xrl {post : Int64 → SS → Prop} {v : Int64} (E : Ev p s m args c cc own g) (hr : meth.sig.returnType = some .long) (hlk : meth.locks = false) (hQ : Hp g ad N S (FA ad N) s.heap H locs) (hp : post v S) (hdg : decode cc pc = .ok (.lreturn, 1)) :
    W p l e R s m args below meth c H locs cells slots (MQ below (va_Ql post (QB g ad N) (FA ad N)) args s cells slots (FA ad N)) (F0 m pc ls [.long v]) :=
  W.lret E.1 E.2.1 hr (fun t ht hW => ⟨⟨v, S, rfl, hp, by show PW g ad N S t.heap; rw [ht]; exact hQ.1⟩, hQ.2.F ht⟩) hQ.2.2.2 hdg hlk
end XR
/-- a method's beginning -/
theorem xmet {l : Launch} {g : GG} {ad : Nat → Nat} {N : Nat} {S : SS} {y : MethodName} {maxL : Nat} {ret : Option FieldType} {rm : Room} {av : List Value} {Qc : Array Value → State → Outcome → State → Prop} {mc ms : Nat} {free : Addr → Prop} (cc : ByteArray) (own : String) (hy : plainName y.cls = true) (hown : y.cls = own) (hlen : (lg_sl av).length ≤ maxL)
    (body : ∀ (p : Program) (e : Env) (s : State) (m : MethodId) (below : List Frame) (meth : Method) (c : Code), Ev p s m av.toArray c cc own g → meth.sig.returnType = ret → meth.locks = false → c.maxLocals = maxL → Hp g ad N S (FA ad N) s.heap s.heap [] → ∀ ls : Array Slot, lv_has ls maxL (lv_args 0 av) →
      W p l e rm s m av.toArray below meth c s.heap [] 0 0 (MQ below Qc av.toArray s mc ms free) (F0 m 0 ls [])) : Met l y (wG (.code y cc maxL ret)) rm (XPre g ad N S av) Qc mc ms free := by
  refine Met.ofW (cc := cc) (maxL := maxL) (ret := ret) hy rfl ?_
  intro p e s m args below meth c s₁ B hml hv
  obtain ⟨rfl, hP, hK⟩ := hv
  have hts := atoms_spec (ws := wG (.code y cc maxL ret)) B.pre
  have hown2 : s.vm.findClass y.cls = some m.cls := findClass_of_methodNamed B.named
  rw [hown] at hown2
  have hl := lv_entry av (n := maxL) hlen
  rw [lg_entry_eq]
  exact body p e s m below meth c ⟨B.exec, B.bytes, hown2, fun w h => hts w (List.mem_cons_of_mem _ h), hK⟩ B.returns B.notSynchronized hml ⟨hP, va_S.rf⟩ _ hl
end
section
abbrev zf : Nat → Int32 := fun _ => 0
abbrev zfL : Nat → Int64 := fun _ => 0
def fillF (v : Int32) (n : Nat) (f : Nat → Int32) : Nat → Int32 := fun j => if j < n then v else f j
def szF : Nat → Int32 := fillF (-1) 4 zf
def wdF : Nat → Int32 := upd (upd (upd (upd zf 0 (-1)) 1 (-1)) 2 (-1)) 3 (-1)
def imF (ad : Nat → Nat) : Nat → Option Nat := fun j => match j with
  | 0 => some (ad 39)
  | 1 => some (ad 57)
  | 2 => some (ad 75)
  | _ => none
def nuF (ad : Nat → Nat) : Nat → Option Nat := fun j => match j with
  | 0 => some (ad 113)
  | 1 => some (ad 114)
  | 2 => some (ad 115)
  | 3 => some (ad 116)
  | _ => none
def X0_0 (g : GG) (ad : Nat → Nat) : SS := fun i => match i with
  | 0 => .inr (11, [.ref (ad 1), .int 0, .int 0, .int (-1), .ref (ad 2), .ref (ad 20), .ref (ad 38), .ref (ad 93), .ref (ad 94), .ref (ad 95), .ref (ad 102), .ref (ad 104), .ref (ad 107), .ref (ad 111), .ref (ad 119)])
  | 1 => .inl (g.2 1, 1200, .inl zf)
  | 2 => .inr (1, [.int 0, .int 0, .int 0, .ref (ad 3), .ref (ad 5), .ref (ad 6), .int 0, .int 0, .ref (ad 7), .ref (ad 8), .ref (ad 9), .ref (ad 10), .int 0, .ref (ad 15), .ref (ad 16)])
  | 3 => .inr (10, [.int 0, .int 0, .int 0, .int 0, .ref (ad 4)])
  | 4 => .inl (g.2 0, 36, .inl zf)
  | 5 => .inl (g.2 0, 12, .inl zf)
  | 6 => .inl (g.2 0, 12, .inl zf)
  | 7 => .inl (g.2 0, 8, .inl zf)
  | 8 => .inl (g.2 0, 8, .inl zf)
  | 9 => .inl (g.2 0, 8, .inl zf)
  | _ => .inr (0, [])
def X0_1 (g : GG) (ad : Nat → Nat) : SS := fun i => match i with
  | 0 => .inr (6, [.int 0, .ref (ad 11), .ref (ad 12), .ref (ad 13), .ref (ad 14)])
  | 1 => .inl (g.2 0, 6, .inl zf)
  | 2 => .inl (g.2 0, 6, .inl zf)
  | 3 => .inl (g.2 0, 6, .inl zf)
  | 4 => .inl (g.2 0, 6, .inl zf)
  | 5 => .inl (g.2 0, 3, .inl zf)
  | 6 => .inr (0, [.int 0, .ref (ad 17), .ref (ad 18), .ref (ad 19)])
  | 7 => .inl (g.2 0, 40, .inl zf)
  | 8 => .inl (g.2 0, 40, .inl zf)
  | 9 => .inl (g.2 0, 40, .inl zf)
  | _ => .inr (0, [])
def X0_2 (g : GG) (ad : Nat → Nat) : SS := fun i => match i with
  | 0 => .inr (1, [.int 0, .int 0, .int 0, .ref (ad 21), .ref (ad 23), .ref (ad 24), .int 0, .int 0, .ref (ad 25), .ref (ad 26), .ref (ad 27), .ref (ad 28), .int 0, .ref (ad 33), .ref (ad 34)])
  | 1 => .inr (10, [.int 0, .int 0, .int 0, .int 0, .ref (ad 22)])
  | 2 => .inl (g.2 0, 36, .inl zf)
  | 3 => .inl (g.2 0, 12, .inl zf)
  | 4 => .inl (g.2 0, 12, .inl zf)
  | 5 => .inl (g.2 0, 8, .inl zf)
  | 6 => .inl (g.2 0, 8, .inl zf)
  | 7 => .inl (g.2 0, 8, .inl zf)
  | 8 => .inr (6, [.int 0, .ref (ad 29), .ref (ad 30), .ref (ad 31), .ref (ad 32)])
  | 9 => .inl (g.2 0, 6, .inl zf)
  | _ => .inr (0, [])
def X0_3 (g : GG) (ad : Nat → Nat) : SS := fun i => match i with
  | 0 => .inl (g.2 0, 6, .inl zf)
  | 1 => .inl (g.2 0, 6, .inl zf)
  | 2 => .inl (g.2 0, 6, .inl zf)
  | 3 => .inl (g.2 0, 3, .inl zf)
  | 4 => .inr (0, [.int 0, .ref (ad 35), .ref (ad 36), .ref (ad 37)])
  | 5 => .inl (g.2 0, 40, .inl zf)
  | 6 => .inl (g.2 0, 40, .inl zf)
  | 7 => .inl (g.2 0, 40, .inl zf)
  | 8 => .inl (g.2 4, 3, .inr (.inr (.inr (.inr (imF ad)))))
  | 9 => .inr (1, [.int 0, .int 0, .int 0, .ref (ad 40), .ref (ad 42), .ref (ad 43), .int 0, .int 0, .ref (ad 44), .ref (ad 45), .ref (ad 46), .ref (ad 47), .int 0, .ref (ad 52), .ref (ad 53)])
  | _ => .inr (0, [])
def X0_4 (g : GG) (ad : Nat → Nat) : SS := fun i => match i with
  | 0 => .inr (10, [.int 0, .int 0, .int 0, .int 0, .ref (ad 41)])
  | 1 => .inl (g.2 0, 36, .inl zf)
  | 2 => .inl (g.2 0, 12, .inl zf)
  | 3 => .inl (g.2 0, 12, .inl zf)
  | 4 => .inl (g.2 0, 8, .inl zf)
  | 5 => .inl (g.2 0, 8, .inl zf)
  | 6 => .inl (g.2 0, 8, .inl zf)
  | 7 => .inr (6, [.int 0, .ref (ad 48), .ref (ad 49), .ref (ad 50), .ref (ad 51)])
  | 8 => .inl (g.2 0, 6, .inl zf)
  | 9 => .inl (g.2 0, 6, .inl zf)
  | _ => .inr (0, [])
def X0_5 (g : GG) (ad : Nat → Nat) : SS := fun i => match i with
  | 0 => .inl (g.2 0, 6, .inl zf)
  | 1 => .inl (g.2 0, 6, .inl zf)
  | 2 => .inl (g.2 0, 3, .inl zf)
  | 3 => .inr (0, [.int 0, .ref (ad 54), .ref (ad 55), .ref (ad 56)])
  | 4 => .inl (g.2 0, 40, .inl zf)
  | 5 => .inl (g.2 0, 40, .inl zf)
  | 6 => .inl (g.2 0, 40, .inl zf)
  | 7 => .inr (1, [.int 0, .int 0, .int 0, .ref (ad 58), .ref (ad 60), .ref (ad 61), .int 0, .int 0, .ref (ad 62), .ref (ad 63), .ref (ad 64), .ref (ad 65), .int 0, .ref (ad 70), .ref (ad 71)])
  | 8 => .inr (10, [.int 0, .int 0, .int 0, .int 0, .ref (ad 59)])
  | 9 => .inl (g.2 0, 36, .inl zf)
  | _ => .inr (0, [])
def X0_6 (g : GG) (ad : Nat → Nat) : SS := fun i => match i with
  | 0 => .inl (g.2 0, 12, .inl zf)
  | 1 => .inl (g.2 0, 12, .inl zf)
  | 2 => .inl (g.2 0, 8, .inl zf)
  | 3 => .inl (g.2 0, 8, .inl zf)
  | 4 => .inl (g.2 0, 8, .inl zf)
  | 5 => .inr (6, [.int 0, .ref (ad 66), .ref (ad 67), .ref (ad 68), .ref (ad 69)])
  | 6 => .inl (g.2 0, 6, .inl zf)
  | 7 => .inl (g.2 0, 6, .inl zf)
  | 8 => .inl (g.2 0, 6, .inl zf)
  | 9 => .inl (g.2 0, 6, .inl zf)
  | _ => .inr (0, [])
def X0_7 (g : GG) (ad : Nat → Nat) : SS := fun i => match i with
  | 0 => .inl (g.2 0, 3, .inl zf)
  | 1 => .inr (0, [.int 0, .ref (ad 72), .ref (ad 73), .ref (ad 74)])
  | 2 => .inl (g.2 0, 40, .inl zf)
  | 3 => .inl (g.2 0, 40, .inl zf)
  | 4 => .inl (g.2 0, 40, .inl zf)
  | 5 => .inr (1, [.int 0, .int 0, .int 0, .ref (ad 76), .ref (ad 78), .ref (ad 79), .int 0, .int 0, .ref (ad 80), .ref (ad 81), .ref (ad 82), .ref (ad 83), .int 0, .ref (ad 88), .ref (ad 89)])
  | 6 => .inr (10, [.int 0, .int 0, .int 0, .int 0, .ref (ad 77)])
  | 7 => .inl (g.2 0, 36, .inl zf)
  | 8 => .inl (g.2 0, 12, .inl zf)
  | 9 => .inl (g.2 0, 12, .inl zf)
  | _ => .inr (0, [])
def X0_8 (g : GG) (ad : Nat → Nat) : SS := fun i => match i with
  | 0 => .inl (g.2 0, 8, .inl zf)
  | 1 => .inl (g.2 0, 8, .inl zf)
  | 2 => .inl (g.2 0, 8, .inl zf)
  | 3 => .inr (6, [.int 0, .ref (ad 84), .ref (ad 85), .ref (ad 86), .ref (ad 87)])
  | 4 => .inl (g.2 0, 6, .inl zf)
  | 5 => .inl (g.2 0, 6, .inl zf)
  | 6 => .inl (g.2 0, 6, .inl zf)
  | 7 => .inl (g.2 0, 6, .inl zf)
  | 8 => .inl (g.2 0, 3, .inl zf)
  | 9 => .inr (0, [.int 0, .ref (ad 90), .ref (ad 91), .ref (ad 92)])
  | _ => .inr (0, [])
def X0_9 (g : GG) (ad : Nat → Nat) : SS := fun i => match i with
  | 0 => .inl (g.2 0, 40, .inl zf)
  | 1 => .inl (g.2 0, 40, .inl zf)
  | 2 => .inl (g.2 0, 40, .inl zf)
  | 3 => .inl (g.2 3, 3, .inl zf)
  | 4 => .inr (5, [.ref (ad 1), .ref (ad 20), .int 0, .int 0, .int 0, .int 0, .int 0, .int 0, .int 0])
  | 5 => .inr (2, [.ref (ad 2), .ref (ad 96), .ref (ad 97), .ref (ad 98), .ref (ad 99), .ref (ad 100), .ref (ad 101), .int 0, .int 0])
  | 6 => .inl (g.2 0, 8, .inl zf)
  | 7 => .inl (g.2 0, 8, .inl zf)
  | 8 => .inl (g.2 1, 401, .inl zf)
  | 9 => .inl (g.2 0, 401, .inl zf)
  | _ => .inr (0, [])
def X0_10 (g : GG) (ad : Nat → Nat) : SS := fun i => match i with
  | 0 => .inl (g.2 0, 401, .inl zf)
  | 1 => .inl (g.2 0, 12, .inl zf)
  | 2 => .inr (4, [.ref (ad 2), .ref (ad 103), .int 0, .int 0])
  | 3 => .inl (g.2 0, 1212, .inl zf)
  | 4 => .inr (9, [.ref (ad 2), .ref (ad 105), .ref (ad 106)])
  | 5 => .inl (g.2 0, 12, .inl zf)
  | 6 => .inl (g.2 0, 12, .inl zf)
  | 7 => .inr (7, [.ref (ad 2), .ref (ad 95), .ref (ad 108), .ref (ad 109), .ref (ad 110)])
  | 8 => .inl (g.2 0, 48, .inl zf)
  | 9 => .inl (g.2 0, 12, .inl zf)
  | _ => .inr (0, [])
def X0_11 (g : GG) (ad : Nat → Nat) : SS := fun i => match i with
  | 0 => .inl (g.2 0, 3, .inl zf)
  | 1 => .inr (8, [.ref (ad 112), .ref (ad 117), .ref (ad 118)])
  | 2 => .inl (g.2 5, 4, .inr (.inr (.inr (.inr (nuF ad)))))
  | 3 => .inl (g.2 2, 60, .inr (.inl zfL))
  | 4 => .inl (g.2 2, 60, .inr (.inl zfL))
  | 5 => .inl (g.2 2, 60, .inr (.inl zfL))
  | 6 => .inl (g.2 2, 60, .inr (.inl zfL))
  | 7 => .inl (g.2 0, 4, .inl zf)
  | 8 => .inl (g.2 0, 4, .inl szF)
  | 9 => .inr (3, [.ref (ad 2), .ref (ad 111), .ref (ad 120), .int 0, .ref (ad 121)])
  | _ => .inr (0, [])
def X0_12 (g : GG) (ad : Nat → Nat) : SS := fun i => match i with
  | 0 => .inl (g.2 0, 49, .inl zf)
  | 1 => .inl (g.2 0, 12, .inl zf)
  | _ => .inr (0, [])
def X0 (g : GG) (ad : Nat → Nat) : SS := fun i => match i / 10 with
  | 0 => X0_0 g ad (i % 10)
  | 1 => X0_1 g ad (i % 10)
  | 2 => X0_2 g ad (i % 10)
  | 3 => X0_3 g ad (i % 10)
  | 4 => X0_4 g ad (i % 10)
  | 5 => X0_5 g ad (i % 10)
  | 6 => X0_6 g ad (i % 10)
  | 7 => X0_7 g ad (i % 10)
  | 8 => X0_8 g ad (i % 10)
  | 9 => X0_9 g ad (i % 10)
  | 10 => X0_10 g ad (i % 10)
  | 11 => X0_11 g ad (i % 10)
  | 12 => X0_12 g ad (i % 10)
  | _ => .inr (0, [])
def M0_0 (g : GG) (ad : Nat → Nat) : SS := fun i => match i with
  | 0 => .inr (12, [.int 0, .ref (ad 1), .ref (ad 2), .ref (ad 3), .ref (ad 4), .ref (ad 5), .int 0, .int 0, .int 0, .int 0, .int 0, .long 0, .int 0, .int 0, .int 0, .int (-1), .ref (ad 6), .ref (ad 7), .ref (ad 8), .ref (ad 9), .ref (ad 10), .ref (ad 11), .ref (ad 12), .ref (ad 13), .ref (ad 14), .ref (ad 15), .int 0, .int 0, .ref (ad 16), .int 0, .int 0, .int 0, .int 0, .int 0, .ref (ad 17), .ref (ad 18), .int 0, .ref (ad 19)])
  | 1 => .inl (g.2 0, 4, .inl wdF)
  | 2 => .inl (g.2 0, 4, .inl zf)
  | 3 => .inl (g.2 2, 240, .inr (.inl zfL))
  | 4 => .inl (g.2 2, 60, .inr (.inl zfL))
  | 5 => .inl (g.2 1, 1200, .inl zf)
  | 6 => .inl (g.2 0, 5, .inl zf)
  | 7 => .inl (g.2 0, 50, .inl zf)
  | 8 => .inl (g.2 0, 120, .inl zf)
  | 9 => .inl (g.2 0, 120, .inl zf)
  | _ => .inr (0, [])
def M0_1 (g : GG) (ad : Nat → Nat) : SS := fun i => match i with
  | 0 => .inl (g.2 0, 120, .inl zf)
  | 1 => .inl (g.2 0, 15, .inl zf)
  | 2 => .inl (g.2 0, 800, .inl zf)
  | 3 => .inl (g.2 3, 3, .inl zf)
  | 4 => .inl (g.2 0, 3, .inl zf)
  | 5 => .inl (g.2 0, 3208, .inl zf)
  | 6 => .inl (g.2 0, 1212, .inl zf)
  | 7 => .inl (g.2 0, 12, .inl zf)
  | 8 => .inl (g.2 0, 3, .inl zf)
  | 9 => .inl (g.2 0, 12, .inl zf)
  | _ => .inr (0, [])
def M0 (g : GG) (ad : Nat → Nat) : SS := fun i => match i / 10 with
  | 0 => M0_0 g ad (i % 10)
  | 1 => M0_1 g ad (i % 10)
  | _ => .inr (0, [])
theorem vp_in_lit (i : Int32) (n : Nat) (h : ¬ (i < 0 ∨ n ≤ i.toNatClampNeg)) : vp_in i n := h
theorem nlt_le {a b : Int32} (h : ¬ a < b) : b ≤ a := Int32.not_lt.mp h
theorem nle_lt {a b : Int32} (h : ¬ a ≤ b) : b < a := Int32.not_le.mp h
theorem sb_atl {P : Int64 → Prop} {x y : Int64} (e : x = y) (h : P y) : P x := by rw [e]; exact h
theorem same_up {N : Nat} {S S1 F : SS} {k : Nat} {v : va_E} (hX : ∀ i, i < N → S i = F i) (e : S1 = va_up S k v) (hv : v = F k) : ∀ i, i < N → S1 i = F i := fun i hi => by
  by_cases h : i = k
  · subst h; rw [e, va_up_self, hv]
  · rw [e, va_up_ne _ _ h, hX i hi]
end
section
theorem dX1_isTold_0 : decode cX1_isTold 0 = .ok (.aload_n 0, 1) := by decide +kernel
theorem dX1_isTold_1 : decode cX1_isTold 1 = .ok (.getfield 51, 3) := by decide +kernel
theorem dX1_isTold_4 : decode cX1_isTold 4 = .ok (.ifCond .le 7, 3) := by decide +kernel
theorem dX1_isTold_11 : decode cX1_isTold 11 = .ok (.iconst 0, 1) := by decide +kernel
theorem dX1_isTold_12 : decode cX1_isTold 12 = .ok (.ireturn, 1) := by decide +kernel
theorem dX1_hasCell_0 : decode cX1_hasCell 0 = .ok (.iload_n 1, 1) := by decide +kernel
theorem dX1_hasCell_1 : decode cX1_hasCell 1 = .ok (.ifCond .lt 15, 3) := by decide +kernel
theorem dX1_hasCell_16 : decode cX1_hasCell 16 = .ok (.iconst 0, 1) := by decide +kernel
theorem dX1_hasCell_17 : decode cX1_hasCell 17 = .ok (.ireturn, 1) := by decide +kernel
theorem dX1_hasCell_4 : decode cX1_hasCell 4 = .ok (.iload_n 1, 1) := by decide +kernel
theorem dX1_hasCell_5 : decode cX1_hasCell 5 = .ok (.aload_n 0, 1) := by decide +kernel
theorem dX1_hasCell_6 : decode cX1_hasCell 6 = .ok (.getfield 55, 3) := by decide +kernel
theorem dX1_hasCell_9 : decode cX1_hasCell 9 = .ok (.if_icmp .ge 7, 3) := by decide +kernel
theorem dX1_hasThing_0 : decode cX1_hasThing 0 = .ok (.iload_n 1, 1) := by decide +kernel
theorem dX1_hasThing_1 : decode cX1_hasThing 1 = .ok (.ifCond .lt 15, 3) := by decide +kernel
theorem dX1_hasThing_16 : decode cX1_hasThing 16 = .ok (.iconst 0, 1) := by decide +kernel
theorem dX1_hasThing_17 : decode cX1_hasThing 17 = .ok (.ireturn, 1) := by decide +kernel
theorem dX1_hasThing_4 : decode cX1_hasThing 4 = .ok (.iload_n 1, 1) := by decide +kernel
theorem dX1_hasThing_5 : decode cX1_hasThing 5 = .ok (.aload_n 0, 1) := by decide +kernel
theorem dX1_hasThing_6 : decode cX1_hasThing 6 = .ok (.getfield 74, 3) := by decide +kernel
theorem dX1_hasThing_9 : decode cX1_hasThing 9 = .ok (.if_icmp .ge 7, 3) := by decide +kernel
theorem dX1_hasSitter_0 : decode cX1_hasSitter 0 = .ok (.iload_n 1, 1) := by decide +kernel
theorem dX1_hasSitter_1 : decode cX1_hasSitter 1 = .ok (.ifCond .lt 15, 3) := by decide +kernel
theorem dX1_hasSitter_16 : decode cX1_hasSitter 16 = .ok (.iconst 0, 1) := by decide +kernel
theorem dX1_hasSitter_17 : decode cX1_hasSitter 17 = .ok (.ireturn, 1) := by decide +kernel
theorem dX1_hasSitter_4 : decode cX1_hasSitter 4 = .ok (.iload_n 1, 1) := by decide +kernel
theorem dX1_hasSitter_5 : decode cX1_hasSitter 5 = .ok (.aload_n 0, 1) := by decide +kernel
theorem dX1_hasSitter_6 : decode cX1_hasSitter 6 = .ok (.getfield 80, 3) := by decide +kernel
theorem dX1_hasSitter_9 : decode cX1_hasSitter 9 = .ok (.if_icmp .ge 7, 3) := by decide +kernel
theorem dX6_hasRule_0 : decode cX6_hasRule 0 = .ok (.iload_n 1, 1) := by decide +kernel
theorem dX6_hasRule_1 : decode cX6_hasRule 1 = .ok (.ifCond .lt 15, 3) := by decide +kernel
theorem dX6_hasRule_16 : decode cX6_hasRule 16 = .ok (.iconst 0, 1) := by decide +kernel
theorem dX6_hasRule_17 : decode cX6_hasRule 17 = .ok (.ireturn, 1) := by decide +kernel
theorem dX6_hasRule_4 : decode cX6_hasRule 4 = .ok (.iload_n 1, 1) := by decide +kernel
theorem dX6_hasRule_5 : decode cX6_hasRule 5 = .ok (.aload_n 0, 1) := by decide +kernel
theorem dX6_hasRule_6 : decode cX6_hasRule 6 = .ok (.getfield 24, 3) := by decide +kernel
theorem dX6_hasRule_9 : decode cX6_hasRule 9 = .ok (.if_icmp .ge 7, 3) := by decide +kernel
theorem dX11_isTideHour_0 : decode cX11_isTideHour 0 = .ok (.aload_n 0, 1) := by decide +kernel
theorem dX11_isTideHour_1 : decode cX11_isTideHour 1 = .ok (.getfield 26, 3) := by decide +kernel
theorem dX11_isTideHour_4 : decode cX11_isTideHour 4 = .ok (.invokevirtual 225, 3) := by decide +kernel
theorem dX11_isTideHour_7 : decode cX11_isTideHour 7 = .ok (.ifCond .eq 16, 3) := by decide +kernel
theorem dX11_isTideHour_23 : decode cX11_isTideHour 23 = .ok (.iconst 0, 1) := by decide +kernel
theorem dX11_isTideHour_24 : decode cX11_isTideHour 24 = .ok (.ireturn, 1) := by decide +kernel
theorem dX11_isAskedParty_0 : decode cX11_isAskedParty 0 = .ok (.aload_n 0, 1) := by decide +kernel
theorem dX11_isAskedParty_1 : decode cX11_isAskedParty 1 = .ok (.getfield 26, 3) := by decide +kernel
theorem dX11_isAskedParty_4 : decode cX11_isAskedParty 4 = .ok (.invokevirtual 225, 3) := by decide +kernel
theorem dX11_isAskedParty_7 : decode cX11_isAskedParty 7 = .ok (.ifCond .eq 17, 3) := by decide +kernel
theorem dX11_isAskedParty_24 : decode cX11_isAskedParty 24 = .ok (.iconst 0, 1) := by decide +kernel
theorem dX11_isAskedParty_25 : decode cX11_isAskedParty 25 = .ok (.ireturn, 1) := by decide +kernel
theorem dX11_isWish_0 : decode cX11_isWish 0 = .ok (.aload_n 0, 1) := by decide +kernel
theorem dX11_isWish_1 : decode cX11_isWish 1 = .ok (.getfield 26, 3) := by decide +kernel
theorem dX11_isWish_4 : decode cX11_isWish 4 = .ok (.iload_n 1, 1) := by decide +kernel
theorem dX11_isWish_5 : decode cX11_isWish 5 = .ok (.invokevirtual 130, 3) := by decide +kernel
theorem dX11_isWish_8 : decode cX11_isWish 8 = .ok (.ifCond .eq 15, 3) := by decide +kernel
theorem dX11_isWish_23 : decode cX11_isWish 23 = .ok (.iconst 0, 1) := by decide +kernel
theorem dX11_isWish_24 : decode cX11_isWish 24 = .ok (.ireturn, 1) := by decide +kernel
theorem dX11_isGale_0 : decode cX11_isGale 0 = .ok (.aload_n 0, 1) := by decide +kernel
theorem dX11_isGale_1 : decode cX11_isGale 1 = .ok (.getfield 26, 3) := by decide +kernel
theorem dX11_isGale_4 : decode cX11_isGale 4 = .ok (.iload_n 2, 1) := by decide +kernel
theorem dX11_isGale_5 : decode cX11_isGale 5 = .ok (.invokevirtual 130, 3) := by decide +kernel
theorem dX11_isGale_8 : decode cX11_isGale 8 = .ok (.ifCond .eq 16, 3) := by decide +kernel
theorem dX11_isGale_24 : decode cX11_isGale 24 = .ok (.iconst 0, 1) := by decide +kernel
theorem dX11_isGale_25 : decode cX11_isGale 25 = .ok (.ireturn, 1) := by decide +kernel
theorem dX11_cell_0 : decode cX11_cell 0 = .ok (.aload_n 0, 1) := by decide +kernel
theorem dX11_cell_1 : decode cX11_cell 1 = .ok (.getfield 26, 3) := by decide +kernel
theorem dX11_cell_4 : decode cX11_cell 4 = .ok (.iload_n 1, 1) := by decide +kernel
theorem dX11_cell_5 : decode cX11_cell 5 = .ok (.invokevirtual 116, 3) := by decide +kernel
theorem dX11_cell_8 : decode cX11_cell 8 = .ok (.ifCond .ne 7, 3) := by decide +kernel
theorem dX11_cell_11 : decode cX11_cell 11 = .ok (.sipush (-1000), 3) := by decide +kernel
theorem dX11_cell_14 : decode cX11_cell 14 = .ok (.ireturn, 1) := by decide +kernel
theorem dX11_thing_0 : decode cX11_thing 0 = .ok (.aload_n 0, 1) := by decide +kernel
theorem dX11_thing_1 : decode cX11_thing 1 = .ok (.getfield 26, 3) := by decide +kernel
theorem dX11_thing_4 : decode cX11_thing 4 = .ok (.iload_n 1, 1) := by decide +kernel
theorem dX11_thing_5 : decode cX11_thing 5 = .ok (.invokevirtual 130, 3) := by decide +kernel
theorem dX11_thing_8 : decode cX11_thing 8 = .ok (.ifCond .ne 6, 3) := by decide +kernel
theorem dX11_thing_11 : decode cX11_thing 11 = .ok (.bipush (-2), 2) := by decide +kernel
theorem dX11_thing_13 : decode cX11_thing 13 = .ok (.ireturn, 1) := by decide +kernel
theorem dX11_rule_0 : decode cX11_rule 0 = .ok (.aload_n 0, 1) := by decide +kernel
theorem dX11_rule_1 : decode cX11_rule 1 = .ok (.getfield 26, 3) := by decide +kernel
theorem dX11_rule_4 : decode cX11_rule 4 = .ok (.getfield 142, 3) := by decide +kernel
theorem dX11_rule_7 : decode cX11_rule 7 = .ok (.astore_n 3, 1) := by decide +kernel
theorem dX11_rule_8 : decode cX11_rule 8 = .ok (.aload_n 3, 1) := by decide +kernel
theorem dX11_rule_9 : decode cX11_rule 9 = .ok (.iload_n 1, 1) := by decide +kernel
theorem dX11_rule_10 : decode cX11_rule 10 = .ok (.invokevirtual 146, 3) := by decide +kernel
theorem dX11_rule_13 : decode cX11_rule 13 = .ok (.ifCond .ne 6, 3) := by decide +kernel
theorem dX11_rule_16 : decode cX11_rule 16 = .ok (.bipush (-2), 2) := by decide +kernel
theorem dX11_rule_18 : decode cX11_rule 18 = .ok (.ireturn, 1) := by decide +kernel
theorem dX11_sitter_0 : decode cX11_sitter 0 = .ok (.aload_n 0, 1) := by decide +kernel
theorem dX11_sitter_1 : decode cX11_sitter 1 = .ok (.getfield 26, 3) := by decide +kernel
theorem dX11_sitter_4 : decode cX11_sitter 4 = .ok (.iload_n 1, 1) := by decide +kernel
theorem dX11_sitter_5 : decode cX11_sitter 5 = .ok (.invokevirtual 163, 3) := by decide +kernel
theorem dX11_sitter_8 : decode cX11_sitter 8 = .ok (.ifCond .eq 15, 3) := by decide +kernel
theorem dX11_sitter_23 : decode cX11_sitter 23 = .ok (.bipush (-2), 2) := by decide +kernel
theorem dX11_sitter_25 : decode cX11_sitter 25 = .ok (.ireturn, 1) := by decide +kernel
theorem dX11_phase_0 : decode cX11_phase 0 = .ok (.aload_n 0, 1) := by decide +kernel
theorem dX11_phase_1 : decode cX11_phase 1 = .ok (.iload_n 1, 1) := by decide +kernel
theorem dX11_phase_2 : decode cX11_phase 2 = .ok (.invokevirtual 219, 3) := by decide +kernel
theorem dX11_phase_5 : decode cX11_phase 5 = .ok (.ifCond .eq 17, 3) := by decide +kernel
theorem dX11_phase_22 : decode cX11_phase 22 = .ok (.bipush (-2), 2) := by decide +kernel
theorem dX11_phase_24 : decode cX11_phase 24 = .ok (.ireturn, 1) := by decide +kernel
theorem dX11_next_0 : decode cX11_next 0 = .ok (.aload_n 0, 1) := by decide +kernel
theorem dX11_next_1 : decode cX11_next 1 = .ok (.getfield 26, 3) := by decide +kernel
theorem dX11_next_4 : decode cX11_next 4 = .ok (.invokevirtual 225, 3) := by decide +kernel
theorem dX11_next_7 : decode cX11_next 7 = .ok (.ifCond .eq 19, 3) := by decide +kernel
theorem dX11_next_26 : decode cX11_next 26 = .ok (.bipush (-2), 2) := by decide +kernel
theorem dX11_next_28 : decode cX11_next 28 = .ok (.ireturn, 1) := by decide +kernel
theorem dX11_lasts_0 : decode cX11_lasts 0 = .ok (.aload_n 0, 1) := by decide +kernel
theorem dX11_lasts_1 : decode cX11_lasts 1 = .ok (.iload_n 1, 1) := by decide +kernel
theorem dX11_lasts_2 : decode cX11_lasts 2 = .ok (.invokevirtual 219, 3) := by decide +kernel
theorem dX11_lasts_5 : decode cX11_lasts 5 = .ok (.ifCond .eq 17, 3) := by decide +kernel
theorem dX11_lasts_22 : decode cX11_lasts 22 = .ok (.bipush (-2), 2) := by decide +kernel
theorem dX11_lasts_24 : decode cX11_lasts 24 = .ok (.ireturn, 1) := by decide +kernel
theorem dX11_slacks_0 : decode cX11_slacks 0 = .ok (.aload_n 0, 1) := by decide +kernel
theorem dX11_slacks_1 : decode cX11_slacks 1 = .ok (.iload_n 1, 1) := by decide +kernel
theorem dX11_slacks_2 : decode cX11_slacks 2 = .ok (.invokevirtual 219, 3) := by decide +kernel
theorem dX11_slacks_5 : decode cX11_slacks 5 = .ok (.ifCond .eq 17, 3) := by decide +kernel
theorem dX11_slacks_22 : decode cX11_slacks 22 = .ok (.bipush (-2), 2) := by decide +kernel
theorem dX11_slacks_24 : decode cX11_slacks 24 = .ok (.ireturn, 1) := by decide +kernel
theorem dX11_drifts_0 : decode cX11_drifts 0 = .ok (.aload_n 0, 1) := by decide +kernel
theorem dX11_drifts_1 : decode cX11_drifts 1 = .ok (.getfield 26, 3) := by decide +kernel
theorem dX11_drifts_4 : decode cX11_drifts 4 = .ok (.iload_n 1, 1) := by decide +kernel
theorem dX11_drifts_5 : decode cX11_drifts 5 = .ok (.invokevirtual 116, 3) := by decide +kernel
theorem dX11_drifts_8 : decode cX11_drifts 8 = .ok (.ifCond .eq 11, 3) := by decide +kernel
theorem dX11_drifts_19 : decode cX11_drifts 19 = .ok (.bipush (-2), 2) := by decide +kernel
theorem dX11_drifts_21 : decode cX11_drifts 21 = .ok (.ireturn, 1) := by decide +kernel
theorem dX11_at_0 : decode cX11_at 0 = .ok (.aload_n 0, 1) := by decide +kernel
theorem dX11_at_1 : decode cX11_at 1 = .ok (.getfield 26, 3) := by decide +kernel
theorem dX11_at_4 : decode cX11_at 4 = .ok (.iload_n 1, 1) := by decide +kernel
theorem dX11_at_5 : decode cX11_at 5 = .ok (.invokevirtual 130, 3) := by decide +kernel
theorem dX11_at_8 : decode cX11_at 8 = .ok (.ifCond .eq 13, 3) := by decide +kernel
theorem dX11_at_21 : decode cX11_at 21 = .ok (.bipush (-2), 2) := by decide +kernel
theorem dX11_at_23 : decode cX11_at 23 = .ok (.ireturn, 1) := by decide +kernel
theorem dX11_comes_0 : decode cX11_comes 0 = .ok (.aload_n 0, 1) := by decide +kernel
theorem dX11_comes_1 : decode cX11_comes 1 = .ok (.getfield 26, 3) := by decide +kernel
theorem dX11_comes_4 : decode cX11_comes 4 = .ok (.iload_n 1, 1) := by decide +kernel
theorem dX11_comes_5 : decode cX11_comes 5 = .ok (.invokevirtual 130, 3) := by decide +kernel
theorem dX11_comes_8 : decode cX11_comes 8 = .ok (.ifCond .eq 15, 3) := by decide +kernel
theorem dX11_comes_23 : decode cX11_comes 23 = .ok (.bipush (-2), 2) := by decide +kernel
theorem dX11_comes_25 : decode cX11_comes 25 = .ok (.ireturn, 1) := by decide +kernel
theorem dX11_beach_0 : decode cX11_beach 0 = .ok (.aload_n 0, 1) := by decide +kernel
theorem dX11_beach_1 : decode cX11_beach 1 = .ok (.getfield 26, 3) := by decide +kernel
theorem dX11_beach_4 : decode cX11_beach 4 = .ok (.iload_n 1, 1) := by decide +kernel
theorem dX11_beach_5 : decode cX11_beach 5 = .ok (.invokevirtual 130, 3) := by decide +kernel
theorem dX11_beach_8 : decode cX11_beach 8 = .ok (.ifCond .eq 15, 3) := by decide +kernel
theorem dX11_beach_23 : decode cX11_beach 23 = .ok (.bipush (-2), 2) := by decide +kernel
theorem dX11_beach_25 : decode cX11_beach 25 = .ok (.ireturn, 1) := by decide +kernel
theorem dX11_whose_0 : decode cX11_whose 0 = .ok (.aload_n 0, 1) := by decide +kernel
theorem dX11_whose_1 : decode cX11_whose 1 = .ok (.getfield 26, 3) := by decide +kernel
theorem dX11_whose_4 : decode cX11_whose 4 = .ok (.iload_n 1, 1) := by decide +kernel
theorem dX11_whose_5 : decode cX11_whose 5 = .ok (.invokevirtual 130, 3) := by decide +kernel
theorem dX11_whose_8 : decode cX11_whose 8 = .ok (.ifCond .eq 16, 3) := by decide +kernel
theorem dX11_whose_24 : decode cX11_whose 24 = .ok (.bipush (-2), 2) := by decide +kernel
theorem dX11_whose_26 : decode cX11_whose 26 = .ok (.ireturn, 1) := by decide +kernel
theorem dX11_has_0 : decode cX11_has 0 = .ok (.aload_n 0, 1) := by decide +kernel
theorem dX11_has_1 : decode cX11_has 1 = .ok (.iload_n 1, 1) := by decide +kernel
theorem dX11_has_2 : decode cX11_has 2 = .ok (.invokevirtual 264, 3) := by decide +kernel
theorem dX11_has_5 : decode cX11_has 5 = .ok (.ifCond .eq 16, 3) := by decide +kernel
theorem dX11_has_21 : decode cX11_has 21 = .ok (.bipush (-2), 2) := by decide +kernel
theorem dX11_has_23 : decode cX11_has 23 = .ok (.ireturn, 1) := by decide +kernel
theorem dX11_line_0 : decode cX11_line 0 = .ok (.aload_n 0, 1) := by decide +kernel
theorem dX11_line_1 : decode cX11_line 1 = .ok (.getfield 26, 3) := by decide +kernel
theorem dX11_line_4 : decode cX11_line 4 = .ok (.iload_n 1, 1) := by decide +kernel
theorem dX11_line_5 : decode cX11_line 5 = .ok (.invokevirtual 116, 3) := by decide +kernel
theorem dX11_line_8 : decode cX11_line 8 = .ok (.ifCond .eq 14, 3) := by decide +kernel
theorem dX11_line_22 : decode cX11_line 22 = .ok (.bipush (-2), 2) := by decide +kernel
theorem dX11_line_24 : decode cX11_line 24 = .ok (.ireturn, 1) := by decide +kernel
theorem dX11_richest_0 : decode cX11_richest 0 = .ok (.aload_n 0, 1) := by decide +kernel
theorem dX11_richest_1 : decode cX11_richest 1 = .ok (.getfield 26, 3) := by decide +kernel
theorem dX11_richest_4 : decode cX11_richest 4 = .ok (.invokevirtual 225, 3) := by decide +kernel
theorem dX11_richest_7 : decode cX11_richest 7 = .ok (.ifCond .ne 6, 3) := by decide +kernel
theorem dX11_richest_10 : decode cX11_richest 10 = .ok (.bipush (-2), 2) := by decide +kernel
theorem dX11_richest_12 : decode cX11_richest 12 = .ok (.ireturn, 1) := by decide +kernel
theorem dX11_meet_0 : decode cX11_meet 0 = .ok (.aload_n 0, 1) := by decide +kernel
theorem dX11_meet_1 : decode cX11_meet 1 = .ok (.getfield 26, 3) := by decide +kernel
theorem dX11_meet_4 : decode cX11_meet 4 = .ok (.iload_n 1, 1) := by decide +kernel
theorem dX11_meet_5 : decode cX11_meet 5 = .ok (.invokevirtual 130, 3) := by decide +kernel
theorem dX11_meet_8 : decode cX11_meet 8 = .ok (.ifCond .eq 19, 3) := by decide +kernel
theorem dX11_meet_27 : decode cX11_meet 27 = .ok (.bipush (-2), 2) := by decide +kernel
theorem dX11_meet_29 : decode cX11_meet 29 = .ok (.ireturn, 1) := by decide +kernel
theorem dX11_argued_0 : decode cX11_argued 0 = .ok (.aload_n 0, 1) := by decide +kernel
theorem dX11_argued_1 : decode cX11_argued 1 = .ok (.getfield 26, 3) := by decide +kernel
theorem dX11_argued_4 : decode cX11_argued 4 = .ok (.invokevirtual 225, 3) := by decide +kernel
theorem dX11_argued_7 : decode cX11_argued 7 = .ok (.ifCond .eq 13, 3) := by decide +kernel
theorem dX11_argued_20 : decode cX11_argued 20 = .ok (.bipush (-2), 2) := by decide +kernel
theorem dX11_argued_22 : decode cX11_argued 22 = .ok (.ireturn, 1) := by decide +kernel
theorem dX11_gaps_0 : decode cX11_gaps 0 = .ok (.aload_n 0, 1) := by decide +kernel
theorem dX11_gaps_1 : decode cX11_gaps 1 = .ok (.getfield 26, 3) := by decide +kernel
theorem dX11_gaps_4 : decode cX11_gaps 4 = .ok (.invokevirtual 225, 3) := by decide +kernel
theorem dX11_gaps_7 : decode cX11_gaps 7 = .ok (.ifCond .eq 10, 3) := by decide +kernel
theorem dX11_gaps_17 : decode cX11_gaps 17 = .ok (.bipush (-2), 2) := by decide +kernel
theorem dX11_gaps_19 : decode cX11_gaps 19 = .ok (.ireturn, 1) := by decide +kernel
theorem dX11_idle_0 : decode cX11_idle 0 = .ok (.aload_n 0, 1) := by decide +kernel
theorem dX11_idle_1 : decode cX11_idle 1 = .ok (.getfield 26, 3) := by decide +kernel
theorem dX11_idle_4 : decode cX11_idle 4 = .ok (.invokevirtual 225, 3) := by decide +kernel
theorem dX11_idle_7 : decode cX11_idle 7 = .ok (.ifCond .ne 6, 3) := by decide +kernel
theorem dX11_idle_10 : decode cX11_idle 10 = .ok (.bipush (-2), 2) := by decide +kernel
theorem dX11_idle_12 : decode cX11_idle 12 = .ok (.ireturn, 1) := by decide +kernel
theorem dX11_without_0 : decode cX11_without 0 = .ok (.aload_n 0, 1) := by decide +kernel
theorem dX11_without_1 : decode cX11_without 1 = .ok (.getfield 26, 3) := by decide +kernel
theorem dX11_without_4 : decode cX11_without 4 = .ok (.getfield 142, 3) := by decide +kernel
theorem dX11_without_7 : decode cX11_without 7 = .ok (.iload_n 1, 1) := by decide +kernel
theorem dX11_without_8 : decode cX11_without 8 = .ok (.invokevirtual 146, 3) := by decide +kernel
theorem dX11_without_11 : decode cX11_without 11 = .ok (.ifCond .eq 11, 3) := by decide +kernel
theorem dX11_without_22 : decode cX11_without 22 = .ok (.bipush (-2), 2) := by decide +kernel
theorem dX11_without_24 : decode cX11_without 24 = .ok (.ireturn, 1) := by decide +kernel
theorem dX11_strike_0 : decode cX11_strike 0 = .ok (.aload_n 0, 1) := by decide +kernel
theorem dX11_strike_1 : decode cX11_strike 1 = .ok (.iload_n 1, 1) := by decide +kernel
theorem dX11_strike_2 : decode cX11_strike 2 = .ok (.invokevirtual 264, 3) := by decide +kernel
theorem dX11_strike_5 : decode cX11_strike 5 = .ok (.ifCond .ne 6, 3) := by decide +kernel
theorem dX11_strike_8 : decode cX11_strike 8 = .ok (.bipush (-2), 2) := by decide +kernel
theorem dX11_strike_10 : decode cX11_strike 10 = .ok (.ireturn, 1) := by decide +kernel
theorem dX11_clock_0 : decode cX11_clock 0 = .ok (.aload_n 0, 1) := by decide +kernel
theorem dX11_clock_1 : decode cX11_clock 1 = .ok (.iload_n 1, 1) := by decide +kernel
theorem dX11_clock_2 : decode cX11_clock 2 = .ok (.invokevirtual 264, 3) := by decide +kernel
theorem dX11_clock_5 : decode cX11_clock 5 = .ok (.ifCond .eq 15, 3) := by decide +kernel
theorem dX11_clock_20 : decode cX11_clock 20 = .ok (.bipush (-2), 2) := by decide +kernel
theorem dX11_clock_22 : decode cX11_clock 22 = .ok (.ireturn, 1) := by decide +kernel
theorem dX11_set_0 : decode cX11_set 0 = .ok (.aload_n 0, 1) := by decide +kernel
theorem dX11_set_1 : decode cX11_set 1 = .ok (.iload_n 1, 1) := by decide +kernel
theorem dX11_set_2 : decode cX11_set 2 = .ok (.invokevirtual 264, 3) := by decide +kernel
theorem dX11_set_5 : decode cX11_set 5 = .ok (.ifCond .ne 7, 3) := by decide +kernel
theorem dX11_set_8 : decode cX11_set 8 = .ok (.sipush (-1000), 3) := by decide +kernel
theorem dX11_set_11 : decode cX11_set 11 = .ok (.ireturn, 1) := by decide +kernel
theorem dX11_pushes_0 : decode cX11_pushes 0 = .ok (.aload_n 0, 1) := by decide +kernel
theorem dX11_pushes_1 : decode cX11_pushes 1 = .ok (.iload_n 1, 1) := by decide +kernel
theorem dX11_pushes_2 : decode cX11_pushes 2 = .ok (.iload_n 2, 1) := by decide +kernel
theorem dX11_pushes_3 : decode cX11_pushes 3 = .ok (.invokevirtual 282, 3) := by decide +kernel
theorem dX11_pushes_6 : decode cX11_pushes 6 = .ok (.ifCond .eq 16, 3) := by decide +kernel
theorem dX11_pushes_22 : decode cX11_pushes 22 = .ok (.bipush (-2), 2) := by decide +kernel
theorem dX11_pushes_24 : decode cX11_pushes 24 = .ok (.ireturn, 1) := by decide +kernel
theorem dX11_push_0 : decode cX11_push 0 = .ok (.aload_n 0, 1) := by decide +kernel
theorem dX11_push_1 : decode cX11_push 1 = .ok (.iload_n 1, 1) := by decide +kernel
theorem dX11_push_2 : decode cX11_push 2 = .ok (.iload_n 2, 1) := by decide +kernel
theorem dX11_push_3 : decode cX11_push 3 = .ok (.invokevirtual 282, 3) := by decide +kernel
theorem dX11_push_6 : decode cX11_push 6 = .ok (.ifCond .ne 6, 3) := by decide +kernel
theorem dX11_push_9 : decode cX11_push 9 = .ok (.bipush (-2), 2) := by decide +kernel
theorem dX11_push_11 : decode cX11_push 11 = .ok (.ireturn, 1) := by decide +kernel
theorem dX11_way_0 : decode cX11_way 0 = .ok (.aload_n 0, 1) := by decide +kernel
theorem dX11_way_1 : decode cX11_way 1 = .ok (.iload_n 1, 1) := by decide +kernel
theorem dX11_way_2 : decode cX11_way 2 = .ok (.iload_n 2, 1) := by decide +kernel
theorem dX11_way_3 : decode cX11_way 3 = .ok (.invokevirtual 282, 3) := by decide +kernel
theorem dX11_way_6 : decode cX11_way 6 = .ok (.ifCond .ne 6, 3) := by decide +kernel
theorem dX11_way_9 : decode cX11_way 9 = .ok (.bipush (-2), 2) := by decide +kernel
theorem dX11_way_11 : decode cX11_way 11 = .ok (.ireturn, 1) := by decide +kernel
theorem dX11_soonest_0 : decode cX11_soonest 0 = .ok (.aload_n 0, 1) := by decide +kernel
theorem dX11_soonest_1 : decode cX11_soonest 1 = .ok (.iload_n 1, 1) := by decide +kernel
theorem dX11_soonest_2 : decode cX11_soonest 2 = .ok (.iload_n 2, 1) := by decide +kernel
theorem dX11_soonest_3 : decode cX11_soonest 3 = .ok (.invokevirtual 282, 3) := by decide +kernel
theorem dX11_soonest_6 : decode cX11_soonest 6 = .ok (.ifCond .eq 15, 3) := by decide +kernel
theorem dX11_soonest_21 : decode cX11_soonest 21 = .ok (.bipush (-2), 2) := by decide +kernel
theorem dX11_soonest_23 : decode cX11_soonest 23 = .ok (.ireturn, 1) := by decide +kernel
theorem dX11_ward_0 : decode cX11_ward 0 = .ok (.aload_n 0, 1) := by decide +kernel
theorem dX11_ward_1 : decode cX11_ward 1 = .ok (.iload_n 1, 1) := by decide +kernel
theorem dX11_ward_2 : decode cX11_ward 2 = .ok (.iload_n 2, 1) := by decide +kernel
theorem dX11_ward_3 : decode cX11_ward 3 = .ok (.invokevirtual 282, 3) := by decide +kernel
theorem dX11_ward_6 : decode cX11_ward 6 = .ok (.ifCond .eq 16, 3) := by decide +kernel
theorem dX11_ward_22 : decode cX11_ward 22 = .ok (.bipush (-2), 2) := by decide +kernel
theorem dX11_ward_24 : decode cX11_ward 24 = .ok (.ireturn, 1) := by decide +kernel
theorem dX11_all_0 : decode cX11_all 0 = .ok (.aload_n 0, 1) := by decide +kernel
theorem dX11_all_1 : decode cX11_all 1 = .ok (.iload_n 1, 1) := by decide +kernel
theorem dX11_all_2 : decode cX11_all 2 = .ok (.invokevirtual 264, 3) := by decide +kernel
theorem dX11_all_5 : decode cX11_all 5 = .ok (.ifCond .eq 14, 3) := by decide +kernel
theorem dX11_all_19 : decode cX11_all 19 = .ok (.bipush (-2), 2) := by decide +kernel
theorem dX11_all_21 : decode cX11_all 21 = .ok (.ireturn, 1) := by decide +kernel
theorem dX11_eddy_0 : decode cX11_eddy 0 = .ok (.aload_n 0, 1) := by decide +kernel
theorem dX11_eddy_1 : decode cX11_eddy 1 = .ok (.getfield 26, 3) := by decide +kernel
theorem dX11_eddy_4 : decode cX11_eddy 4 = .ok (.iload_n 1, 1) := by decide +kernel
theorem dX11_eddy_5 : decode cX11_eddy 5 = .ok (.invokevirtual 116, 3) := by decide +kernel
theorem dX11_eddy_8 : decode cX11_eddy 8 = .ok (.ifCond .eq 14, 3) := by decide +kernel
theorem dX11_eddy_22 : decode cX11_eddy 22 = .ok (.bipush (-2), 2) := by decide +kernel
theorem dX11_eddy_24 : decode cX11_eddy 24 = .ok (.ireturn, 1) := by decide +kernel
theorem dX11_stuck_0 : decode cX11_stuck 0 = .ok (.aload_n 0, 1) := by decide +kernel
theorem dX11_stuck_1 : decode cX11_stuck 1 = .ok (.getfield 26, 3) := by decide +kernel
theorem dX11_stuck_4 : decode cX11_stuck 4 = .ok (.invokevirtual 225, 3) := by decide +kernel
theorem dX11_stuck_7 : decode cX11_stuck 7 = .ok (.ifCond .eq 13, 3) := by decide +kernel
theorem dX11_stuck_20 : decode cX11_stuck 20 = .ok (.bipush (-2), 2) := by decide +kernel
theorem dX11_stuck_22 : decode cX11_stuck 22 = .ok (.ireturn, 1) := by decide +kernel
theorem dX11_drop_0 : decode cX11_drop 0 = .ok (.aload_n 0, 1) := by decide +kernel
theorem dX11_drop_1 : decode cX11_drop 1 = .ok (.iload_n 1, 1) := by decide +kernel
theorem dX11_drop_2 : decode cX11_drop 2 = .ok (.invokevirtual 264, 3) := by decide +kernel
theorem dX11_drop_5 : decode cX11_drop 5 = .ok (.ifCond .eq 12, 3) := by decide +kernel
theorem dX11_drop_17 : decode cX11_drop 17 = .ok (.bipush (-2), 2) := by decide +kernel
theorem dX11_drop_19 : decode cX11_drop 19 = .ok (.ireturn, 1) := by decide +kernel
theorem dX11_drops_0 : decode cX11_drops 0 = .ok (.aload_n 0, 1) := by decide +kernel
theorem dX11_drops_1 : decode cX11_drops 1 = .ok (.iload_n 1, 1) := by decide +kernel
theorem dX11_drops_2 : decode cX11_drops 2 = .ok (.invokevirtual 264, 3) := by decide +kernel
theorem dX11_drops_5 : decode cX11_drops 5 = .ok (.ifCond .eq 14, 3) := by decide +kernel
theorem dX11_drops_19 : decode cX11_drops 19 = .ok (.bipush (-2), 2) := by decide +kernel
theorem dX11_drops_21 : decode cX11_drops 21 = .ok (.ireturn, 1) := by decide +kernel
theorem dX11_origins_0 : decode cX11_origins 0 = .ok (.aload_n 0, 1) := by decide +kernel
theorem dX11_origins_1 : decode cX11_origins 1 = .ok (.getfield 26, 3) := by decide +kernel
theorem dX11_origins_4 : decode cX11_origins 4 = .ok (.iload_n 3, 1) := by decide +kernel
theorem dX11_origins_5 : decode cX11_origins 5 = .ok (.invokevirtual 116, 3) := by decide +kernel
theorem dX11_origins_8 : decode cX11_origins 8 = .ok (.ifCond .eq 21, 3) := by decide +kernel
theorem dX11_origins_29 : decode cX11_origins 29 = .ok (.bipush (-2), 2) := by decide +kernel
theorem dX11_origins_31 : decode cX11_origins 31 = .ok (.ireturn, 1) := by decide +kernel
theorem dX11_when_0 : decode cX11_when 0 = .ok (.aload_n 0, 1) := by decide +kernel
theorem dX11_when_1 : decode cX11_when 1 = .ok (.getfield 26, 3) := by decide +kernel
theorem dX11_when_4 : decode cX11_when 4 = .ok (.iload_n 1, 1) := by decide +kernel
theorem dX11_when_5 : decode cX11_when 5 = .ok (.invokevirtual 116, 3) := by decide +kernel
theorem dX11_when_8 : decode cX11_when 8 = .ok (.ifCond .eq 24, 3) := by decide +kernel
theorem dX11_when_32 : decode cX11_when 32 = .ok (.bipush (-2), 2) := by decide +kernel
theorem dX11_when_34 : decode cX11_when 34 = .ok (.ireturn, 1) := by decide +kernel
theorem dX11_share_0 : decode cX11_share 0 = .ok (.aload_n 0, 1) := by decide +kernel
theorem dX11_share_1 : decode cX11_share 1 = .ok (.getfield 26, 3) := by decide +kernel
theorem dX11_share_4 : decode cX11_share 4 = .ok (.iload_n 1, 1) := by decide +kernel
theorem dX11_share_5 : decode cX11_share 5 = .ok (.invokevirtual 163, 3) := by decide +kernel
theorem dX11_share_8 : decode cX11_share 8 = .ok (.ifCond .ne 6, 3) := by decide +kernel
theorem dX11_share_11 : decode cX11_share 11 = .ok (.bipush (-2), 2) := by decide +kernel
theorem dX11_share_13 : decode cX11_share 13 = .ok (.ireturn, 1) := by decide +kernel
theorem dX11_seat_0 : decode cX11_seat 0 = .ok (.aload_n 0, 1) := by decide +kernel
theorem dX11_seat_1 : decode cX11_seat 1 = .ok (.getfield 26, 3) := by decide +kernel
theorem dX11_seat_4 : decode cX11_seat 4 = .ok (.iload_n 1, 1) := by decide +kernel
theorem dX11_seat_5 : decode cX11_seat 5 = .ok (.invokevirtual 163, 3) := by decide +kernel
theorem dX11_seat_8 : decode cX11_seat 8 = .ok (.ifCond .eq 14, 3) := by decide +kernel
theorem dX11_seat_22 : decode cX11_seat 22 = .ok (.bipush (-2), 2) := by decide +kernel
theorem dX11_seat_24 : decode cX11_seat 24 = .ok (.ireturn, 1) := by decide +kernel
theorem dX11_seats_0 : decode cX11_seats 0 = .ok (.aload_n 0, 1) := by decide +kernel
theorem dX11_seats_1 : decode cX11_seats 1 = .ok (.getfield 26, 3) := by decide +kernel
theorem dX11_seats_4 : decode cX11_seats 4 = .ok (.iload_n 1, 1) := by decide +kernel
theorem dX11_seats_5 : decode cX11_seats 5 = .ok (.invokevirtual 163, 3) := by decide +kernel
theorem dX11_seats_8 : decode cX11_seats 8 = .ok (.ifCond .eq 14, 3) := by decide +kernel
theorem dX11_seats_22 : decode cX11_seats 22 = .ok (.bipush (-2), 2) := by decide +kernel
theorem dX11_seats_24 : decode cX11_seats 24 = .ok (.ireturn, 1) := by decide +kernel
theorem dX11_rests_0 : decode cX11_rests 0 = .ok (.aload_n 0, 1) := by decide +kernel
theorem dX11_rests_1 : decode cX11_rests 1 = .ok (.getfield 26, 3) := by decide +kernel
theorem dX11_rests_4 : decode cX11_rests 4 = .ok (.invokevirtual 225, 3) := by decide +kernel
theorem dX11_rests_7 : decode cX11_rests 7 = .ok (.ifCond .eq 13, 3) := by decide +kernel
theorem dX11_rests_20 : decode cX11_rests 20 = .ok (.bipush (-2), 2) := by decide +kernel
theorem dX11_rests_22 : decode cX11_rests 22 = .ok (.ireturn, 1) := by decide +kernel
theorem dX11_rest_0 : decode cX11_rest 0 = .ok (.aload_n 0, 1) := by decide +kernel
theorem dX11_rest_1 : decode cX11_rest 1 = .ok (.getfield 26, 3) := by decide +kernel
theorem dX11_rest_4 : decode cX11_rest 4 = .ok (.iload_n 1, 1) := by decide +kernel
theorem dX11_rest_5 : decode cX11_rest 5 = .ok (.invokevirtual 163, 3) := by decide +kernel
theorem dX11_rest_8 : decode cX11_rest 8 = .ok (.ifCond .eq 14, 3) := by decide +kernel
theorem dX11_rest_22 : decode cX11_rest 22 = .ok (.bipush (-2), 2) := by decide +kernel
theorem dX11_rest_24 : decode cX11_rest 24 = .ok (.ireturn, 1) := by decide +kernel
theorem dX11_sit_0 : decode cX11_sit 0 = .ok (.aload_n 0, 1) := by decide +kernel
theorem dX11_sit_1 : decode cX11_sit 1 = .ok (.getfield 26, 3) := by decide +kernel
theorem dX11_sit_4 : decode cX11_sit 4 = .ok (.iload_n 1, 1) := by decide +kernel
theorem dX11_sit_5 : decode cX11_sit 5 = .ok (.invokevirtual 163, 3) := by decide +kernel
theorem dX11_sit_8 : decode cX11_sit 8 = .ok (.ifCond .eq 14, 3) := by decide +kernel
theorem dX11_sit_22 : decode cX11_sit 22 = .ok (.bipush (-2), 2) := by decide +kernel
theorem dX11_sit_24 : decode cX11_sit 24 = .ok (.ireturn, 1) := by decide +kernel
theorem dX11_shove_0 : decode cX11_shove 0 = .ok (.aload_n 0, 1) := by decide +kernel
theorem dX11_shove_1 : decode cX11_shove 1 = .ok (.getfield 26, 3) := by decide +kernel
theorem dX11_shove_4 : decode cX11_shove 4 = .ok (.iload_n 1, 1) := by decide +kernel
theorem dX11_shove_5 : decode cX11_shove 5 = .ok (.invokevirtual 130, 3) := by decide +kernel
theorem dX11_shove_8 : decode cX11_shove 8 = .ok (.ifCond .eq 21, 3) := by decide +kernel
theorem dX11_shove_29 : decode cX11_shove 29 = .ok (.bipush (-2), 2) := by decide +kernel
theorem dX11_shove_31 : decode cX11_shove 31 = .ok (.ireturn, 1) := by decide +kernel
theorem dX11_undo_0 : decode cX11_undo 0 = .ok (.aload_n 0, 1) := by decide +kernel
theorem dX11_undo_1 : decode cX11_undo 1 = .ok (.getfield 26, 3) := by decide +kernel
theorem dX11_undo_4 : decode cX11_undo 4 = .ok (.invokevirtual 225, 3) := by decide +kernel
theorem dX11_undo_7 : decode cX11_undo 7 = .ok (.ifCond .ne 6, 3) := by decide +kernel
theorem dX11_undo_10 : decode cX11_undo 10 = .ok (.bipush (-2), 2) := by decide +kernel
theorem dX11_undo_12 : decode cX11_undo 12 = .ok (.ireturn, 1) := by decide +kernel
theorem dX11_anew_0 : decode cX11_anew 0 = .ok (.aload_n 0, 1) := by decide +kernel
theorem dX11_anew_1 : decode cX11_anew 1 = .ok (.getfield 26, 3) := by decide +kernel
theorem dX11_anew_4 : decode cX11_anew 4 = .ok (.invokevirtual 225, 3) := by decide +kernel
theorem dX11_anew_7 : decode cX11_anew 7 = .ok (.ifCond .ne 6, 3) := by decide +kernel
theorem dX11_anew_10 : decode cX11_anew 10 = .ok (.bipush (-2), 2) := by decide +kernel
theorem dX11_anew_12 : decode cX11_anew 12 = .ok (.ireturn, 1) := by decide +kernel
theorem dX11_rate_0 : decode cX11_rate 0 = .ok (.aload_n 0, 1) := by decide +kernel
theorem dX11_rate_1 : decode cX11_rate 1 = .ok (.getfield 26, 3) := by decide +kernel
theorem dX11_rate_4 : decode cX11_rate 4 = .ok (.iload_n 1, 1) := by decide +kernel
theorem dX11_rate_5 : decode cX11_rate 5 = .ok (.invokevirtual 130, 3) := by decide +kernel
theorem dX11_rate_8 : decode cX11_rate 8 = .ok (.ifCond .eq 13, 3) := by decide +kernel
theorem dX11_rate_21 : decode cX11_rate 21 = .ok (.bipush (-2), 2) := by decide +kernel
theorem dX11_rate_23 : decode cX11_rate 23 = .ok (.ireturn, 1) := by decide +kernel
theorem dX11_drawn_0 : decode cX11_drawn 0 = .ok (.aload_n 0, 1) := by decide +kernel
theorem dX11_drawn_1 : decode cX11_drawn 1 = .ok (.iload_n 1, 1) := by decide +kernel
theorem dX11_drawn_2 : decode cX11_drawn 2 = .ok (.iload_n 2, 1) := by decide +kernel
theorem dX11_drawn_3 : decode cX11_drawn 3 = .ok (.invokevirtual 368, 3) := by decide +kernel
theorem dX11_drawn_6 : decode cX11_drawn 6 = .ok (.ifCond .eq 11, 3) := by decide +kernel
theorem dX11_drawn_17 : decode cX11_drawn 17 = .ok (.bipush (-2), 2) := by decide +kernel
theorem dX11_drawn_19 : decode cX11_drawn 19 = .ok (.ireturn, 1) := by decide +kernel
theorem dX11_luck_0 : decode cX11_luck 0 = .ok (.aload_n 0, 1) := by decide +kernel
theorem dX11_luck_1 : decode cX11_luck 1 = .ok (.iload_n 1, 1) := by decide +kernel
theorem dX11_luck_2 : decode cX11_luck 2 = .ok (.iload_n 3, 1) := by decide +kernel
theorem dX11_luck_3 : decode cX11_luck 3 = .ok (.invokevirtual 368, 3) := by decide +kernel
theorem dX11_luck_6 : decode cX11_luck 6 = .ok (.ifCond .eq 19, 3) := by decide +kernel
theorem dX11_luck_25 : decode cX11_luck 25 = .ok (.bipush (-2), 2) := by decide +kernel
theorem dX11_luck_27 : decode cX11_luck 27 = .ok (.ireturn, 1) := by decide +kernel
theorem dX11_waits_0 : decode cX11_waits 0 = .ok (.aload_n 0, 1) := by decide +kernel
theorem dX11_waits_1 : decode cX11_waits 1 = .ok (.iload_n 1, 1) := by decide +kernel
theorem dX11_waits_2 : decode cX11_waits 2 = .ok (.iload_n 3, 1) := by decide +kernel
theorem dX11_waits_3 : decode cX11_waits 3 = .ok (.invokevirtual 368, 3) := by decide +kernel
theorem dX11_waits_6 : decode cX11_waits 6 = .ok (.ifCond .eq 10, 3) := by decide +kernel
theorem dX11_waits_16 : decode cX11_waits 16 = .ok (.bipush (-2), 2) := by decide +kernel
theorem dX11_waits_18 : decode cX11_waits 18 = .ok (.ireturn, 1) := by decide +kernel
theorem q236 : Cond.fieldLink "EbbWreck$Coast" 51 "EbbWreck$Coast" "lines" "I" ∈ lw_g := mg (List.mem_of_getElem? (i := 236) (by decide +kernel)) rfl
theorem q239 : Cond.fieldLink "EbbWreck$Coast" 55 "EbbWreck$Coast" "cells" "I" ∈ lw_g := mg (List.mem_of_getElem? (i := 239) (by decide +kernel)) rfl
theorem q270 : Cond.fieldLink "EbbWreck$Coast" 74 "EbbWreck$Coast" "things" "I" ∈ lw_g := mg (List.mem_of_getElem? (i := 270) (by decide +kernel)) rfl
theorem q293 : Cond.fieldLink "EbbWreck$Coast" 80 "EbbWreck$Coast" "sitters" "I" ∈ lw_g := mg (List.mem_of_getElem? (i := 293) (by decide +kernel)) rfl
theorem q186 : Cond.fieldLink "EbbWreck$RuleBook" 24 "EbbWreck$RuleBook" "size" "I" ∈ lw_g := mg (List.mem_of_getElem? (i := 186) (by decide +kernel)) rfl
theorem q520 : Cond.fieldLink "EbbWreck" 26 "EbbWreck" "coast" "LEbbWreck$Coast;" ∈ lw_g := mg (List.mem_of_getElem? (i := 520) (by decide +kernel)) rfl
theorem q881 : Cond.code ⟨"EbbWreck$Coast", "isTold", "()Z"⟩ prog_3_method_4_code 1 (some .boolean) ∈ lw_g := mg (List.mem_of_getElem? (i := 881) (by decide +kernel)) rfl
theorem q879 : Cond.instanceMethod ⟨"EbbWreck$Coast", "isTold", "()Z"⟩ ∈ lw_g := mg (List.mem_of_getElem? (i := 879) (by decide +kernel)) rfl
theorem q880 : Cond.selects "EbbWreck$Coast" ⟨"EbbWreck$Coast", "isTold", "()Z"⟩ ⟨"EbbWreck$Coast", "isTold", "()Z"⟩ ∈ lw_g := mg (List.mem_of_getElem? (i := 880) (by decide +kernel)) rfl
theorem q115 : Cond.initialized "EbbWreck$Coast" ∈ lw_g := mg (List.mem_of_getElem? (i := 115) (by decide +kernel)) rfl
theorem q878 : Cond.methodLink "EbbWreck" 225 ⟨"EbbWreck$Coast", "isTold", "()Z"⟩ ∈ lw_g := mg (List.mem_of_getElem? (i := 878) (by decide +kernel)) rfl
theorem q835 : Cond.code ⟨"EbbWreck$Coast", "hasThing", "(I)Z"⟩ prog_3_method_6_code 2 (some .boolean) ∈ lw_g := mg (List.mem_of_getElem? (i := 835) (by decide +kernel)) rfl
theorem q833 : Cond.instanceMethod ⟨"EbbWreck$Coast", "hasThing", "(I)Z"⟩ ∈ lw_g := mg (List.mem_of_getElem? (i := 833) (by decide +kernel)) rfl
theorem q834 : Cond.selects "EbbWreck$Coast" ⟨"EbbWreck$Coast", "hasThing", "(I)Z"⟩ ⟨"EbbWreck$Coast", "hasThing", "(I)Z"⟩ ∈ lw_g := mg (List.mem_of_getElem? (i := 834) (by decide +kernel)) rfl
theorem q832 : Cond.methodLink "EbbWreck" 130 ⟨"EbbWreck$Coast", "hasThing", "(I)Z"⟩ ∈ lw_g := mg (List.mem_of_getElem? (i := 832) (by decide +kernel)) rfl
theorem q826 : Cond.code ⟨"EbbWreck$Coast", "hasCell", "(I)Z"⟩ prog_3_method_5_code 2 (some .boolean) ∈ lw_g := mg (List.mem_of_getElem? (i := 826) (by decide +kernel)) rfl
theorem q824 : Cond.instanceMethod ⟨"EbbWreck$Coast", "hasCell", "(I)Z"⟩ ∈ lw_g := mg (List.mem_of_getElem? (i := 824) (by decide +kernel)) rfl
theorem q825 : Cond.selects "EbbWreck$Coast" ⟨"EbbWreck$Coast", "hasCell", "(I)Z"⟩ ⟨"EbbWreck$Coast", "hasCell", "(I)Z"⟩ ∈ lw_g := mg (List.mem_of_getElem? (i := 825) (by decide +kernel)) rfl
theorem q823 : Cond.methodLink "EbbWreck" 116 ⟨"EbbWreck$Coast", "hasCell", "(I)Z"⟩ ∈ lw_g := mg (List.mem_of_getElem? (i := 823) (by decide +kernel)) rfl
theorem q290 : Cond.fieldLink "EbbWreck" 142 "EbbWreck$Coast" "rules" "LEbbWreck$RuleBook;" ∈ lw_g := mg (List.mem_of_getElem? (i := 290) (by decide +kernel)) rfl
theorem q843 : Cond.code ⟨"EbbWreck$RuleBook", "hasRule", "(I)Z"⟩ prog_8_method_3_code 2 (some .boolean) ∈ lw_g := mg (List.mem_of_getElem? (i := 843) (by decide +kernel)) rfl
theorem q841 : Cond.instanceMethod ⟨"EbbWreck$RuleBook", "hasRule", "(I)Z"⟩ ∈ lw_g := mg (List.mem_of_getElem? (i := 841) (by decide +kernel)) rfl
theorem q842 : Cond.selects "EbbWreck$RuleBook" ⟨"EbbWreck$RuleBook", "hasRule", "(I)Z"⟩ ⟨"EbbWreck$RuleBook", "hasRule", "(I)Z"⟩ ∈ lw_g := mg (List.mem_of_getElem? (i := 842) (by decide +kernel)) rfl
theorem q117 : Cond.initialized "EbbWreck$RuleBook" ∈ lw_g := mg (List.mem_of_getElem? (i := 117) (by decide +kernel)) rfl
theorem q840 : Cond.methodLink "EbbWreck" 146 ⟨"EbbWreck$RuleBook", "hasRule", "(I)Z"⟩ ∈ lw_g := mg (List.mem_of_getElem? (i := 840) (by decide +kernel)) rfl
theorem q851 : Cond.code ⟨"EbbWreck$Coast", "hasSitter", "(I)Z"⟩ prog_3_method_7_code 2 (some .boolean) ∈ lw_g := mg (List.mem_of_getElem? (i := 851) (by decide +kernel)) rfl
theorem q849 : Cond.instanceMethod ⟨"EbbWreck$Coast", "hasSitter", "(I)Z"⟩ ∈ lw_g := mg (List.mem_of_getElem? (i := 849) (by decide +kernel)) rfl
theorem q850 : Cond.selects "EbbWreck$Coast" ⟨"EbbWreck$Coast", "hasSitter", "(I)Z"⟩ ⟨"EbbWreck$Coast", "hasSitter", "(I)Z"⟩ ∈ lw_g := mg (List.mem_of_getElem? (i := 850) (by decide +kernel)) rfl
theorem q848 : Cond.methodLink "EbbWreck" 163 ⟨"EbbWreck$Coast", "hasSitter", "(I)Z"⟩ ∈ lw_g := mg (List.mem_of_getElem? (i := 848) (by decide +kernel)) rfl
theorem q877 : Cond.code ⟨"EbbWreck", "isTideHour", "(I)Z"⟩ prog_1_method_17_code 2 (some .boolean) ∈ lw_g := mg (List.mem_of_getElem? (i := 877) (by decide +kernel)) rfl
theorem q876 : Cond.instanceMethod ⟨"EbbWreck", "isTideHour", "(I)Z"⟩ ∈ lw_g := mg (List.mem_of_getElem? (i := 876) (by decide +kernel)) rfl
theorem q19 : Cond.selects "EbbWreck" ⟨"EbbWreck", "isTideHour", "(I)Z"⟩ ⟨"EbbWreck", "isTideHour", "(I)Z"⟩ ∈ lw_g := mg (List.mem_of_getElem? (i := 19) (by decide +kernel)) rfl
theorem q114 : Cond.initialized "EbbWreck" ∈ lw_g := mg (List.mem_of_getElem? (i := 114) (by decide +kernel)) rfl
theorem q874 : Cond.methodLink "EbbWreck" 219 ⟨"EbbWreck", "isTideHour", "(I)Z"⟩ ∈ lw_g := mg (List.mem_of_getElem? (i := 874) (by decide +kernel)) rfl
theorem q966 : Cond.code ⟨"EbbWreck", "isAskedParty", "(I)Z"⟩ prog_1_method_20_code 2 (some .boolean) ∈ lw_g := mg (List.mem_of_getElem? (i := 966) (by decide +kernel)) rfl
theorem q965 : Cond.instanceMethod ⟨"EbbWreck", "isAskedParty", "(I)Z"⟩ ∈ lw_g := mg (List.mem_of_getElem? (i := 965) (by decide +kernel)) rfl
theorem q20 : Cond.selects "EbbWreck" ⟨"EbbWreck", "isAskedParty", "(I)Z"⟩ ⟨"EbbWreck", "isAskedParty", "(I)Z"⟩ ∈ lw_g := mg (List.mem_of_getElem? (i := 20) (by decide +kernel)) rfl
theorem q963 : Cond.methodLink "EbbWreck" 264 ⟨"EbbWreck", "isAskedParty", "(I)Z"⟩ ∈ lw_g := mg (List.mem_of_getElem? (i := 963) (by decide +kernel)) rfl
theorem q1047 : Cond.code ⟨"EbbWreck", "isWish", "(II)Z"⟩ prog_1_method_36_code 3 (some .boolean) ∈ lw_g := mg (List.mem_of_getElem? (i := 1047) (by decide +kernel)) rfl
theorem q1046 : Cond.instanceMethod ⟨"EbbWreck", "isWish", "(II)Z"⟩ ∈ lw_g := mg (List.mem_of_getElem? (i := 1046) (by decide +kernel)) rfl
theorem q23 : Cond.selects "EbbWreck" ⟨"EbbWreck", "isWish", "(II)Z"⟩ ⟨"EbbWreck", "isWish", "(II)Z"⟩ ∈ lw_g := mg (List.mem_of_getElem? (i := 23) (by decide +kernel)) rfl
theorem q1044 : Cond.methodLink "EbbWreck" 282 ⟨"EbbWreck", "isWish", "(II)Z"⟩ ∈ lw_g := mg (List.mem_of_getElem? (i := 1044) (by decide +kernel)) rfl
theorem q1399 : Cond.code ⟨"EbbWreck", "isGale", "(II)Z"⟩ prog_1_method_63_code 3 (some .boolean) ∈ lw_g := mg (List.mem_of_getElem? (i := 1399) (by decide +kernel)) rfl
theorem q1398 : Cond.instanceMethod ⟨"EbbWreck", "isGale", "(II)Z"⟩ ∈ lw_g := mg (List.mem_of_getElem? (i := 1398) (by decide +kernel)) rfl
theorem q46 : Cond.selects "EbbWreck" ⟨"EbbWreck", "isGale", "(II)Z"⟩ ⟨"EbbWreck", "isGale", "(II)Z"⟩ ∈ lw_g := mg (List.mem_of_getElem? (i := 46) (by decide +kernel)) rfl
theorem q1396 : Cond.methodLink "EbbWreck" 368 ⟨"EbbWreck", "isGale", "(II)Z"⟩ ∈ lw_g := mg (List.mem_of_getElem? (i := 1396) (by decide +kernel)) rfl
theorem mX1_isTold : CmV "EbbWreck$Coast" yX1_isTold cX1_isTold 1 (some .boolean) 0 := ⟨q879, q880, q115, q881, ⟨rfl, by decide, by decide, by decide +kernel⟩⟩
theorem mX1_hasThing : CmV "EbbWreck$Coast" yX1_hasThing cX1_hasThing 2 (some .boolean) 1 := ⟨q833, q834, q115, q835, ⟨rfl, by decide, by decide, by decide +kernel⟩⟩
theorem mX1_hasCell : CmV "EbbWreck$Coast" yX1_hasCell cX1_hasCell 2 (some .boolean) 1 := ⟨q824, q825, q115, q826, ⟨rfl, by decide, by decide, by decide +kernel⟩⟩
theorem mX6_hasRule : CmV "EbbWreck$RuleBook" yX6_hasRule cX6_hasRule 2 (some .boolean) 1 := ⟨q841, q842, q117, q843, ⟨rfl, by decide, by decide, by decide +kernel⟩⟩
theorem mX1_hasSitter : CmV "EbbWreck$Coast" yX1_hasSitter cX1_hasSitter 2 (some .boolean) 1 := ⟨q849, q850, q115, q851, ⟨rfl, by decide, by decide, by decide +kernel⟩⟩
theorem mX11_isTideHour : CmV "EbbWreck" yX11_isTideHour cX11_isTideHour 2 (some .boolean) 1 := ⟨q876, q19, q114, q877, ⟨rfl, by decide, by decide, by decide +kernel⟩⟩
theorem mX11_isAskedParty : CmV "EbbWreck" yX11_isAskedParty cX11_isAskedParty 2 (some .boolean) 1 := ⟨q965, q20, q114, q966, ⟨rfl, by decide, by decide, by decide +kernel⟩⟩
theorem mX11_isWish : CmV "EbbWreck" yX11_isWish cX11_isWish 3 (some .boolean) 2 := ⟨q1046, q23, q114, q1047, ⟨rfl, by decide, by decide, by decide +kernel⟩⟩
theorem mX11_isGale : CmV "EbbWreck" yX11_isGale cX11_isGale 3 (some .boolean) 2 := ⟨q1398, q46, q114, q1399, ⟨rfl, by decide, by decide, by decide +kernel⟩⟩
end
section
set_option maxHeartbeats 4000000 in
set_option maxRecDepth 100000 in
theorem fX1_isTold (l : Launch) (g : GG) (ad : Nat → Nat) (hD : Dj ad 122) (S : SS) (hX : ∀ i, i < 122 → S i = X0 g ad i) : Met l yX1_isTold (wG (.code yX1_isTold cX1_isTold 1 (some .boolean))) (Rm 0) (XPre g ad 122 S [.ref (ad 2)]) (va_Qi (fun r S' => S = S' ∧ r = 0) (QB g ad 122) (FA ad 122)) 0 0 (FA ad 122) := by
  refine xmet cX1_isTold "EbbWreck$Coast" (by decide) rfl (Nat.le_of_ble_eq_true rfl) (fun p e s m below meth c E hr hlk hml hQ ls hl => ?_)
  have hx := E.1
  have hb := E.2.1
  have hs : Sp ad 122 (FA ad 122) := Sp.fa hD
  have hl : lv_has ls 1 [(0, .ref (ad 2))] := hl
  refine lv_aload_n hx hb dX1_isTold_0 rfl (lv_at hl 0 rfl) ?_
  have c_1 : S 2 = .inr (1, [.int 0, .int 0, .int 0, .ref (ad 3), .ref (ad 5), .ref (ad 6), .int 0, .int 0, .ref (ad 7), .ref (ad 8), .ref (ad 9), .ref (ad 10), .int 0, .ref (ad 15), .ref (ad 16)]) := (hX 2 (by decide))
  refine xget E hQ 2 (by decide) c_1 rfl 0 (by decide) q236 rfl dX1_isTold_1 ?_
  refine lv_if_le (tgt := 11) hx hb dX1_isTold_4 (by decide) (fun k_2 => ?_) (fun k_2 => absurd k_2 (by decide))
  refine lv_iconst (v := 0) hx hb dX1_isTold_11 (by decide) ?_
  exact xrz E hr hlk hQ rfl (⟨rfl, rfl⟩) dX1_isTold_12
set_option maxHeartbeats 4000000 in
set_option maxRecDepth 100000 in
theorem fX1_hasCell (l : Launch) (g : GG) (ad : Nat → Nat) (hD : Dj ad 122) (S : SS) (hX : ∀ i, i < 122 → S i = X0 g ad i) (a1 : Int32) : Met l yX1_hasCell (wG (.code yX1_hasCell cX1_hasCell 2 (some .boolean))) (Rm 0) (XPre g ad 122 S [.ref (ad 2), .int a1]) (va_Qi (fun r S' => S = S' ∧ r = 0) (QB g ad 122) (FA ad 122)) 0 0 (FA ad 122) := by
  refine xmet cX1_hasCell "EbbWreck$Coast" (by decide) rfl (Nat.le_of_ble_eq_true rfl) (fun p e s m below meth c E hr hlk hml hQ ls hl => ?_)
  have hx := E.1
  have hb := E.2.1
  have hs : Sp ad 122 (FA ad 122) := Sp.fa hD
  have hl : lv_has ls 2 [(0, .ref (ad 2)), (1, .int a1)] := hl
  refine lv_iload_n hx hb dX1_hasCell_0 rfl (lv_at hl 1 rfl) ?_
  refine lv_if_lt (tgt := 16) hx hb dX1_hasCell_1 (by decide) (fun k_1 => ?_) (fun k_1 => ?_)
  · refine lv_iconst (v := 0) hx hb dX1_hasCell_16 (by decide) ?_
    exact xrz E hr hlk hQ rfl (⟨rfl, rfl⟩) dX1_hasCell_17
  · refine lv_iload_n hx hb dX1_hasCell_4 rfl (lv_at hl 1 rfl) ?_
    refine lv_aload_n hx hb dX1_hasCell_5 rfl (lv_at hl 0 rfl) ?_
    have c_2 : S 2 = .inr (1, [.int 0, .int 0, .int 0, .ref (ad 3), .ref (ad 5), .ref (ad 6), .int 0, .int 0, .ref (ad 7), .ref (ad 8), .ref (ad 9), .ref (ad 10), .int 0, .ref (ad 15), .ref (ad 16)]) := (hX 2 (by decide))
    refine xget E hQ 2 (by decide) c_2 rfl 1 (by decide) q239 rfl dX1_hasCell_6 ?_
    refine lv_icmp_ge (tgt := 16) hx hb dX1_hasCell_9 (by decide) (fun k_3 => ?_) (fun k_3 => absurd k_3 (fun h => h (nlt_le k_1)))
    refine lv_iconst (v := 0) hx hb dX1_hasCell_16 (by decide) ?_
    exact xrz E hr hlk hQ rfl (⟨rfl, rfl⟩) dX1_hasCell_17
set_option maxHeartbeats 4000000 in
set_option maxRecDepth 100000 in
theorem fX1_hasThing (l : Launch) (g : GG) (ad : Nat → Nat) (hD : Dj ad 122) (S : SS) (hX : ∀ i, i < 122 → S i = X0 g ad i) (a1 : Int32) : Met l yX1_hasThing (wG (.code yX1_hasThing cX1_hasThing 2 (some .boolean))) (Rm 0) (XPre g ad 122 S [.ref (ad 2), .int a1]) (va_Qi (fun r S' => S = S' ∧ r = 0) (QB g ad 122) (FA ad 122)) 0 0 (FA ad 122) := by
  refine xmet cX1_hasThing "EbbWreck$Coast" (by decide) rfl (Nat.le_of_ble_eq_true rfl) (fun p e s m below meth c E hr hlk hml hQ ls hl => ?_)
  have hx := E.1
  have hb := E.2.1
  have hs : Sp ad 122 (FA ad 122) := Sp.fa hD
  have hl : lv_has ls 2 [(0, .ref (ad 2)), (1, .int a1)] := hl
  refine lv_iload_n hx hb dX1_hasThing_0 rfl (lv_at hl 1 rfl) ?_
  refine lv_if_lt (tgt := 16) hx hb dX1_hasThing_1 (by decide) (fun k_1 => ?_) (fun k_1 => ?_)
  · refine lv_iconst (v := 0) hx hb dX1_hasThing_16 (by decide) ?_
    exact xrz E hr hlk hQ rfl (⟨rfl, rfl⟩) dX1_hasThing_17
  · refine lv_iload_n hx hb dX1_hasThing_4 rfl (lv_at hl 1 rfl) ?_
    refine lv_aload_n hx hb dX1_hasThing_5 rfl (lv_at hl 0 rfl) ?_
    have c_2 : S 2 = .inr (1, [.int 0, .int 0, .int 0, .ref (ad 3), .ref (ad 5), .ref (ad 6), .int 0, .int 0, .ref (ad 7), .ref (ad 8), .ref (ad 9), .ref (ad 10), .int 0, .ref (ad 15), .ref (ad 16)]) := (hX 2 (by decide))
    refine xget E hQ 2 (by decide) c_2 rfl 7 (by decide) q270 rfl dX1_hasThing_6 ?_
    refine lv_icmp_ge (tgt := 16) hx hb dX1_hasThing_9 (by decide) (fun k_3 => ?_) (fun k_3 => absurd k_3 (fun h => h (nlt_le k_1)))
    refine lv_iconst (v := 0) hx hb dX1_hasThing_16 (by decide) ?_
    exact xrz E hr hlk hQ rfl (⟨rfl, rfl⟩) dX1_hasThing_17
set_option maxHeartbeats 4000000 in
set_option maxRecDepth 100000 in
theorem fX1_hasSitter (l : Launch) (g : GG) (ad : Nat → Nat) (hD : Dj ad 122) (S : SS) (hX : ∀ i, i < 122 → S i = X0 g ad i) (a1 : Int32) : Met l yX1_hasSitter (wG (.code yX1_hasSitter cX1_hasSitter 2 (some .boolean))) (Rm 0) (XPre g ad 122 S [.ref (ad 2), .int a1]) (va_Qi (fun r S' => S = S' ∧ r = 0) (QB g ad 122) (FA ad 122)) 0 0 (FA ad 122) := by
  refine xmet cX1_hasSitter "EbbWreck$Coast" (by decide) rfl (Nat.le_of_ble_eq_true rfl) (fun p e s m below meth c E hr hlk hml hQ ls hl => ?_)
  have hx := E.1
  have hb := E.2.1
  have hs : Sp ad 122 (FA ad 122) := Sp.fa hD
  have hl : lv_has ls 2 [(0, .ref (ad 2)), (1, .int a1)] := hl
  refine lv_iload_n hx hb dX1_hasSitter_0 rfl (lv_at hl 1 rfl) ?_
  refine lv_if_lt (tgt := 16) hx hb dX1_hasSitter_1 (by decide) (fun k_1 => ?_) (fun k_1 => ?_)
  · refine lv_iconst (v := 0) hx hb dX1_hasSitter_16 (by decide) ?_
    exact xrz E hr hlk hQ rfl (⟨rfl, rfl⟩) dX1_hasSitter_17
  · refine lv_iload_n hx hb dX1_hasSitter_4 rfl (lv_at hl 1 rfl) ?_
    refine lv_aload_n hx hb dX1_hasSitter_5 rfl (lv_at hl 0 rfl) ?_
    have c_2 : S 2 = .inr (1, [.int 0, .int 0, .int 0, .ref (ad 3), .ref (ad 5), .ref (ad 6), .int 0, .int 0, .ref (ad 7), .ref (ad 8), .ref (ad 9), .ref (ad 10), .int 0, .ref (ad 15), .ref (ad 16)]) := (hX 2 (by decide))
    refine xget E hQ 2 (by decide) c_2 rfl 12 (by decide) q293 rfl dX1_hasSitter_6 ?_
    refine lv_icmp_ge (tgt := 16) hx hb dX1_hasSitter_9 (by decide) (fun k_3 => ?_) (fun k_3 => absurd k_3 (fun h => h (nlt_le k_1)))
    refine lv_iconst (v := 0) hx hb dX1_hasSitter_16 (by decide) ?_
    exact xrz E hr hlk hQ rfl (⟨rfl, rfl⟩) dX1_hasSitter_17
set_option maxHeartbeats 4000000 in
set_option maxRecDepth 100000 in
theorem fX6_hasRule (l : Launch) (g : GG) (ad : Nat → Nat) (hD : Dj ad 122) (S : SS) (hX : ∀ i, i < 122 → S i = X0 g ad i) (a1 : Int32) : Met l yX6_hasRule (wG (.code yX6_hasRule cX6_hasRule 2 (some .boolean))) (Rm 0) (XPre g ad 122 S [.ref (ad 10), .int a1]) (va_Qi (fun r S' => S = S' ∧ r = 0) (QB g ad 122) (FA ad 122)) 0 0 (FA ad 122) := by
  refine xmet cX6_hasRule "EbbWreck$RuleBook" (by decide) rfl (Nat.le_of_ble_eq_true rfl) (fun p e s m below meth c E hr hlk hml hQ ls hl => ?_)
  have hx := E.1
  have hb := E.2.1
  have hs : Sp ad 122 (FA ad 122) := Sp.fa hD
  have hl : lv_has ls 2 [(0, .ref (ad 10)), (1, .int a1)] := hl
  refine lv_iload_n hx hb dX6_hasRule_0 rfl (lv_at hl 1 rfl) ?_
  refine lv_if_lt (tgt := 16) hx hb dX6_hasRule_1 (by decide) (fun k_1 => ?_) (fun k_1 => ?_)
  · refine lv_iconst (v := 0) hx hb dX6_hasRule_16 (by decide) ?_
    exact xrz E hr hlk hQ rfl (⟨rfl, rfl⟩) dX6_hasRule_17
  · refine lv_iload_n hx hb dX6_hasRule_4 rfl (lv_at hl 1 rfl) ?_
    refine lv_aload_n hx hb dX6_hasRule_5 rfl (lv_at hl 0 rfl) ?_
    have c_2 : S 10 = .inr (6, [.int 0, .ref (ad 11), .ref (ad 12), .ref (ad 13), .ref (ad 14)]) := (hX 10 (by decide))
    refine xget E hQ 10 (by decide) c_2 rfl 0 (by decide) q186 rfl dX6_hasRule_6 ?_
    refine lv_icmp_ge (tgt := 16) hx hb dX6_hasRule_9 (by decide) (fun k_3 => ?_) (fun k_3 => absurd k_3 (fun h => h (nlt_le k_1)))
    refine lv_iconst (v := 0) hx hb dX6_hasRule_16 (by decide) ?_
    exact xrz E hr hlk hQ rfl (⟨rfl, rfl⟩) dX6_hasRule_17
set_option maxHeartbeats 4000000 in
set_option maxRecDepth 100000 in
theorem fX11_isTideHour (l : Launch) (g : GG) (ad : Nat → Nat) (hD : Dj ad 122) (S : SS) (hX : ∀ i, i < 122 → S i = X0 g ad i) (a1 : Int32) : Met l yX11_isTideHour (wG (.code yX11_isTideHour cX11_isTideHour 2 (some .boolean))) (Rm 1) (XPre g ad 122 S [.ref (ad 0), .int a1]) (va_Qi (fun r S' => S = S' ∧ r = 0) (QB g ad 122) (FA ad 122)) 0 0 (FA ad 122) := by
  refine xmet cX11_isTideHour "EbbWreck" (by decide) rfl (Nat.le_of_ble_eq_true rfl) (fun p e s m below meth c E hr hlk hml hQ ls hl => ?_)
  have hx := E.1
  have hb := E.2.1
  have hs : Sp ad 122 (FA ad 122) := Sp.fa hD
  have hl : lv_has ls 2 [(0, .ref (ad 0)), (1, .int a1)] := hl
  refine lv_aload_n hx hb dX11_isTideHour_0 rfl (lv_at hl 0 rfl) ?_
  have c_1 : S 0 = .inr (11, [.ref (ad 1), .int 0, .int 0, .int (-1), .ref (ad 2), .ref (ad 20), .ref (ad 38), .ref (ad 93), .ref (ad 94), .ref (ad 95), .ref (ad 102), .ref (ad 104), .ref (ad 107), .ref (ad 111), .ref (ad 119)]) := (hX 0 (by decide))
  refine xget E hQ 0 (by decide) c_1 rfl 4 (by decide) q520 rfl dX11_isTideHour_1 ?_
  have c_2 : S 2 = .inr (1, [.int 0, .int 0, .int 0, .ref (ad 3), .ref (ad 5), .ref (ad 6), .int 0, .int 0, .ref (ad 7), .ref (ad 8), .ref (ad 9), .ref (ad 10), .int 0, .ref (ad 15), .ref (ad 16)]) := (hX 2 (by decide))
  refine xcVi E hs hQ hml hl.1 2 (fX1_isTold l g ad hD S hX ) mX1_isTold q878 (by decide) c_2 rfl rfl ⟨by decide, by decide⟩ ⟨by decide, by decide⟩ (by decide) rfl dX11_isTideHour_4 (fun r3 S3 H locs hp3 hQ _ => ?_)
  obtain ⟨rfl, rfl⟩ := hp3
  refine lv_if_eq (tgt := 23) hx hb dX11_isTideHour_7 (by decide) (fun k_4 => ?_) (fun k_4 => absurd k_4 (by decide))
  refine lv_iconst (v := 0) hx hb dX11_isTideHour_23 (by decide) ?_
  exact xrz E hr hlk hQ rfl (⟨rfl, rfl⟩) dX11_isTideHour_24
set_option maxHeartbeats 4000000 in
set_option maxRecDepth 100000 in
theorem fX11_isAskedParty (l : Launch) (g : GG) (ad : Nat → Nat) (hD : Dj ad 122) (S : SS) (hX : ∀ i, i < 122 → S i = X0 g ad i) (a1 : Int32) : Met l yX11_isAskedParty (wG (.code yX11_isAskedParty cX11_isAskedParty 2 (some .boolean))) (Rm 1) (XPre g ad 122 S [.ref (ad 0), .int a1]) (va_Qi (fun r S' => S = S' ∧ r = 0) (QB g ad 122) (FA ad 122)) 0 0 (FA ad 122) := by
  refine xmet cX11_isAskedParty "EbbWreck" (by decide) rfl (Nat.le_of_ble_eq_true rfl) (fun p e s m below meth c E hr hlk hml hQ ls hl => ?_)
  have hx := E.1
  have hb := E.2.1
  have hs : Sp ad 122 (FA ad 122) := Sp.fa hD
  have hl : lv_has ls 2 [(0, .ref (ad 0)), (1, .int a1)] := hl
  refine lv_aload_n hx hb dX11_isAskedParty_0 rfl (lv_at hl 0 rfl) ?_
  have c_1 : S 0 = .inr (11, [.ref (ad 1), .int 0, .int 0, .int (-1), .ref (ad 2), .ref (ad 20), .ref (ad 38), .ref (ad 93), .ref (ad 94), .ref (ad 95), .ref (ad 102), .ref (ad 104), .ref (ad 107), .ref (ad 111), .ref (ad 119)]) := (hX 0 (by decide))
  refine xget E hQ 0 (by decide) c_1 rfl 4 (by decide) q520 rfl dX11_isAskedParty_1 ?_
  have c_2 : S 2 = .inr (1, [.int 0, .int 0, .int 0, .ref (ad 3), .ref (ad 5), .ref (ad 6), .int 0, .int 0, .ref (ad 7), .ref (ad 8), .ref (ad 9), .ref (ad 10), .int 0, .ref (ad 15), .ref (ad 16)]) := (hX 2 (by decide))
  refine xcVi E hs hQ hml hl.1 2 (fX1_isTold l g ad hD S hX ) mX1_isTold q878 (by decide) c_2 rfl rfl ⟨by decide, by decide⟩ ⟨by decide, by decide⟩ (by decide) rfl dX11_isAskedParty_4 (fun r3 S3 H locs hp3 hQ _ => ?_)
  obtain ⟨rfl, rfl⟩ := hp3
  refine lv_if_eq (tgt := 24) hx hb dX11_isAskedParty_7 (by decide) (fun k_4 => ?_) (fun k_4 => absurd k_4 (by decide))
  refine lv_iconst (v := 0) hx hb dX11_isAskedParty_24 (by decide) ?_
  exact xrz E hr hlk hQ rfl (⟨rfl, rfl⟩) dX11_isAskedParty_25
set_option maxHeartbeats 4000000 in
set_option maxRecDepth 100000 in
theorem fX11_isWish (l : Launch) (g : GG) (ad : Nat → Nat) (hD : Dj ad 122) (S : SS) (hX : ∀ i, i < 122 → S i = X0 g ad i) (a1 : Int32) (a2 : Int32) : Met l yX11_isWish (wG (.code yX11_isWish cX11_isWish 3 (some .boolean))) (Rm 1) (XPre g ad 122 S [.ref (ad 0), .int a1, .int a2]) (va_Qi (fun r S' => S = S' ∧ r = 0) (QB g ad 122) (FA ad 122)) 0 0 (FA ad 122) := by
  refine xmet cX11_isWish "EbbWreck" (by decide) rfl (Nat.le_of_ble_eq_true rfl) (fun p e s m below meth c E hr hlk hml hQ ls hl => ?_)
  have hx := E.1
  have hb := E.2.1
  have hs : Sp ad 122 (FA ad 122) := Sp.fa hD
  have hl : lv_has ls 3 [(0, .ref (ad 0)), (1, .int a1), (2, .int a2)] := hl
  refine lv_aload_n hx hb dX11_isWish_0 rfl (lv_at hl 0 rfl) ?_
  have c_1 : S 0 = .inr (11, [.ref (ad 1), .int 0, .int 0, .int (-1), .ref (ad 2), .ref (ad 20), .ref (ad 38), .ref (ad 93), .ref (ad 94), .ref (ad 95), .ref (ad 102), .ref (ad 104), .ref (ad 107), .ref (ad 111), .ref (ad 119)]) := (hX 0 (by decide))
  refine xget E hQ 0 (by decide) c_1 rfl 4 (by decide) q520 rfl dX11_isWish_1 ?_
  refine lv_iload_n hx hb dX11_isWish_4 rfl (lv_at hl 1 rfl) ?_
  have c_2 : S 2 = .inr (1, [.int 0, .int 0, .int 0, .ref (ad 3), .ref (ad 5), .ref (ad 6), .int 0, .int 0, .ref (ad 7), .ref (ad 8), .ref (ad 9), .ref (ad 10), .int 0, .ref (ad 15), .ref (ad 16)]) := (hX 2 (by decide))
  refine xcVi E hs hQ hml hl.1 2 (fX1_hasThing l g ad hD S hX a1) mX1_hasThing q832 (by decide) c_2 rfl rfl ⟨by decide, by decide⟩ ⟨by decide, by decide⟩ (by decide) rfl dX11_isWish_5 (fun r3 S3 H locs hp3 hQ _ => ?_)
  obtain ⟨rfl, rfl⟩ := hp3
  refine lv_if_eq (tgt := 23) hx hb dX11_isWish_8 (by decide) (fun k_4 => ?_) (fun k_4 => absurd k_4 (by decide))
  refine lv_iconst (v := 0) hx hb dX11_isWish_23 (by decide) ?_
  exact xrz E hr hlk hQ rfl (⟨rfl, rfl⟩) dX11_isWish_24
set_option maxHeartbeats 4000000 in
set_option maxRecDepth 100000 in
theorem fX11_isGale (l : Launch) (g : GG) (ad : Nat → Nat) (hD : Dj ad 122) (S : SS) (hX : ∀ i, i < 122 → S i = X0 g ad i) (a1 : Int32) (a2 : Int32) : Met l yX11_isGale (wG (.code yX11_isGale cX11_isGale 3 (some .boolean))) (Rm 1) (XPre g ad 122 S [.ref (ad 0), .int a1, .int a2]) (va_Qi (fun r S' => S = S' ∧ r = 0) (QB g ad 122) (FA ad 122)) 0 0 (FA ad 122) := by
  refine xmet cX11_isGale "EbbWreck" (by decide) rfl (Nat.le_of_ble_eq_true rfl) (fun p e s m below meth c E hr hlk hml hQ ls hl => ?_)
  have hx := E.1
  have hb := E.2.1
  have hs : Sp ad 122 (FA ad 122) := Sp.fa hD
  have hl : lv_has ls 3 [(0, .ref (ad 0)), (1, .int a1), (2, .int a2)] := hl
  refine lv_aload_n hx hb dX11_isGale_0 rfl (lv_at hl 0 rfl) ?_
  have c_1 : S 0 = .inr (11, [.ref (ad 1), .int 0, .int 0, .int (-1), .ref (ad 2), .ref (ad 20), .ref (ad 38), .ref (ad 93), .ref (ad 94), .ref (ad 95), .ref (ad 102), .ref (ad 104), .ref (ad 107), .ref (ad 111), .ref (ad 119)]) := (hX 0 (by decide))
  refine xget E hQ 0 (by decide) c_1 rfl 4 (by decide) q520 rfl dX11_isGale_1 ?_
  refine lv_iload_n hx hb dX11_isGale_4 rfl (lv_at hl 2 rfl) ?_
  have c_2 : S 2 = .inr (1, [.int 0, .int 0, .int 0, .ref (ad 3), .ref (ad 5), .ref (ad 6), .int 0, .int 0, .ref (ad 7), .ref (ad 8), .ref (ad 9), .ref (ad 10), .int 0, .ref (ad 15), .ref (ad 16)]) := (hX 2 (by decide))
  refine xcVi E hs hQ hml hl.1 2 (fX1_hasThing l g ad hD S hX a2) mX1_hasThing q832 (by decide) c_2 rfl rfl ⟨by decide, by decide⟩ ⟨by decide, by decide⟩ (by decide) rfl dX11_isGale_5 (fun r3 S3 H locs hp3 hQ _ => ?_)
  obtain ⟨rfl, rfl⟩ := hp3
  refine lv_if_eq (tgt := 24) hx hb dX11_isGale_8 (by decide) (fun k_4 => ?_) (fun k_4 => absurd k_4 (by decide))
  refine lv_iconst (v := 0) hx hb dX11_isGale_24 (by decide) ?_
  exact xrz E hr hlk hQ rfl (⟨rfl, rfl⟩) dX11_isGale_25
set_option maxHeartbeats 4000000 in
set_option maxRecDepth 100000 in
theorem fX11_cell (l : Launch) (g : GG) (ad : Nat → Nat) (hD : Dj ad 122) (S : SS) (hX : ∀ i, i < 122 → S i = X0 g ad i) (a1 : Int32) (a2 : Int32) : Met l yX11_cell (wG (.code yX11_cell cX11_cell 3 (some .int))) (Rm 1) (XPre g ad 122 S [.ref (ad 0), .int a1, .int a2]) (va_Qi (fun r S' => S = S' ∧ r = (-1000)) (QB g ad 122) (FA ad 122)) 0 0 (FA ad 122) := by
  refine xmet cX11_cell "EbbWreck" (by decide) rfl (Nat.le_of_ble_eq_true rfl) (fun p e s m below meth c E hr hlk hml hQ ls hl => ?_)
  have hx := E.1
  have hb := E.2.1
  have hs : Sp ad 122 (FA ad 122) := Sp.fa hD
  have hl : lv_has ls 3 [(0, .ref (ad 0)), (1, .int a1), (2, .int a2)] := hl
  refine lv_aload_n hx hb dX11_cell_0 rfl (lv_at hl 0 rfl) ?_
  have c_1 : S 0 = .inr (11, [.ref (ad 1), .int 0, .int 0, .int (-1), .ref (ad 2), .ref (ad 20), .ref (ad 38), .ref (ad 93), .ref (ad 94), .ref (ad 95), .ref (ad 102), .ref (ad 104), .ref (ad 107), .ref (ad 111), .ref (ad 119)]) := (hX 0 (by decide))
  refine xget E hQ 0 (by decide) c_1 rfl 4 (by decide) q520 rfl dX11_cell_1 ?_
  refine lv_iload_n hx hb dX11_cell_4 rfl (lv_at hl 1 rfl) ?_
  have c_2 : S 2 = .inr (1, [.int 0, .int 0, .int 0, .ref (ad 3), .ref (ad 5), .ref (ad 6), .int 0, .int 0, .ref (ad 7), .ref (ad 8), .ref (ad 9), .ref (ad 10), .int 0, .ref (ad 15), .ref (ad 16)]) := (hX 2 (by decide))
  refine xcVi E hs hQ hml hl.1 2 (fX1_hasCell l g ad hD S hX a1) mX1_hasCell q823 (by decide) c_2 rfl rfl ⟨by decide, by decide⟩ ⟨by decide, by decide⟩ (by decide) rfl dX11_cell_5 (fun r3 S3 H locs hp3 hQ _ => ?_)
  obtain ⟨rfl, rfl⟩ := hp3
  refine lv_if_ne (tgt := 15) hx hb dX11_cell_8 (by decide) (fun k_4 => absurd k_4 (by decide)) (fun k_4 => ?_)
  refine lv_sipush (v := (-1000)) hx hb dX11_cell_11 (by decide) ?_
  exact xri E hr hlk hQ (⟨rfl, rfl⟩) dX11_cell_14
set_option maxHeartbeats 4000000 in
set_option maxRecDepth 100000 in
theorem fX11_thing (l : Launch) (g : GG) (ad : Nat → Nat) (hD : Dj ad 122) (S : SS) (hX : ∀ i, i < 122 → S i = X0 g ad i) (a1 : Int32) (a2 : Int32) : Met l yX11_thing (wG (.code yX11_thing cX11_thing 3 (some .int))) (Rm 1) (XPre g ad 122 S [.ref (ad 0), .int a1, .int a2]) (va_Qi (fun r S' => S = S' ∧ r = (-2)) (QB g ad 122) (FA ad 122)) 0 0 (FA ad 122) := by
  refine xmet cX11_thing "EbbWreck" (by decide) rfl (Nat.le_of_ble_eq_true rfl) (fun p e s m below meth c E hr hlk hml hQ ls hl => ?_)
  have hx := E.1
  have hb := E.2.1
  have hs : Sp ad 122 (FA ad 122) := Sp.fa hD
  have hl : lv_has ls 3 [(0, .ref (ad 0)), (1, .int a1), (2, .int a2)] := hl
  refine lv_aload_n hx hb dX11_thing_0 rfl (lv_at hl 0 rfl) ?_
  have c_1 : S 0 = .inr (11, [.ref (ad 1), .int 0, .int 0, .int (-1), .ref (ad 2), .ref (ad 20), .ref (ad 38), .ref (ad 93), .ref (ad 94), .ref (ad 95), .ref (ad 102), .ref (ad 104), .ref (ad 107), .ref (ad 111), .ref (ad 119)]) := (hX 0 (by decide))
  refine xget E hQ 0 (by decide) c_1 rfl 4 (by decide) q520 rfl dX11_thing_1 ?_
  refine lv_iload_n hx hb dX11_thing_4 rfl (lv_at hl 1 rfl) ?_
  have c_2 : S 2 = .inr (1, [.int 0, .int 0, .int 0, .ref (ad 3), .ref (ad 5), .ref (ad 6), .int 0, .int 0, .ref (ad 7), .ref (ad 8), .ref (ad 9), .ref (ad 10), .int 0, .ref (ad 15), .ref (ad 16)]) := (hX 2 (by decide))
  refine xcVi E hs hQ hml hl.1 2 (fX1_hasThing l g ad hD S hX a1) mX1_hasThing q832 (by decide) c_2 rfl rfl ⟨by decide, by decide⟩ ⟨by decide, by decide⟩ (by decide) rfl dX11_thing_5 (fun r3 S3 H locs hp3 hQ _ => ?_)
  obtain ⟨rfl, rfl⟩ := hp3
  refine lv_if_ne (tgt := 14) hx hb dX11_thing_8 (by decide) (fun k_4 => absurd k_4 (by decide)) (fun k_4 => ?_)
  refine lv_bipush (v := (-2)) hx hb dX11_thing_11 (by decide) ?_
  exact xri E hr hlk hQ (⟨rfl, rfl⟩) dX11_thing_13
set_option maxHeartbeats 4000000 in
set_option maxRecDepth 100000 in
theorem fX11_rule (l : Launch) (g : GG) (ad : Nat → Nat) (hD : Dj ad 122) (S : SS) (hX : ∀ i, i < 122 → S i = X0 g ad i) (a1 : Int32) (a2 : Int32) : Met l yX11_rule (wG (.code yX11_rule cX11_rule 4 (some .int))) (Rm 1) (XPre g ad 122 S [.ref (ad 0), .int a1, .int a2]) (va_Qi (fun r S' => S = S' ∧ r = (-2)) (QB g ad 122) (FA ad 122)) 0 0 (FA ad 122) := by
  refine xmet cX11_rule "EbbWreck" (by decide) rfl (Nat.le_of_ble_eq_true rfl) (fun p e s m below meth c E hr hlk hml hQ ls hl => ?_)
  have hx := E.1
  have hb := E.2.1
  have hs : Sp ad 122 (FA ad 122) := Sp.fa hD
  have hl : lv_has ls 4 [(0, .ref (ad 0)), (1, .int a1), (2, .int a2)] := hl
  refine lv_aload_n hx hb dX11_rule_0 rfl (lv_at hl 0 rfl) ?_
  have c_1 : S 0 = .inr (11, [.ref (ad 1), .int 0, .int 0, .int (-1), .ref (ad 2), .ref (ad 20), .ref (ad 38), .ref (ad 93), .ref (ad 94), .ref (ad 95), .ref (ad 102), .ref (ad 104), .ref (ad 107), .ref (ad 111), .ref (ad 119)]) := (hX 0 (by decide))
  refine xget E hQ 0 (by decide) c_1 rfl 4 (by decide) q520 rfl dX11_rule_1 ?_
  have c_2 : S 2 = .inr (1, [.int 0, .int 0, .int 0, .ref (ad 3), .ref (ad 5), .ref (ad 6), .int 0, .int 0, .ref (ad 7), .ref (ad 8), .ref (ad 9), .ref (ad 10), .int 0, .ref (ad 15), .ref (ad 16)]) := (hX 2 (by decide))
  refine xget E hQ 2 (by decide) c_2 rfl 11 (by decide) q290 rfl dX11_rule_4 ?_
  refine lv_astore_n (lv' := [(3, .ref (ad 10)), (0, .ref (ad 0)), (1, .int a1), (2, .int a2)]) hx hb dX11_rule_7 rfl hl (by decide) rfl (fun ls hl => ?_)
  refine lv_aload_n hx hb dX11_rule_8 rfl (lv_at hl 0 rfl) ?_
  refine lv_iload_n hx hb dX11_rule_9 rfl (lv_at hl 2 rfl) ?_
  have c_3 : S 10 = .inr (6, [.int 0, .ref (ad 11), .ref (ad 12), .ref (ad 13), .ref (ad 14)]) := (hX 10 (by decide))
  refine xcVi E hs hQ hml hl.1 10 (fX6_hasRule l g ad hD S hX a1) mX6_hasRule q840 (by decide) c_3 rfl rfl ⟨by decide, by decide⟩ ⟨by decide, by decide⟩ (by decide) rfl dX11_rule_10 (fun r4 S4 H locs hp4 hQ _ => ?_)
  obtain ⟨rfl, rfl⟩ := hp4
  refine lv_if_ne (tgt := 19) hx hb dX11_rule_13 (by decide) (fun k_5 => absurd k_5 (by decide)) (fun k_5 => ?_)
  refine lv_bipush (v := (-2)) hx hb dX11_rule_16 (by decide) ?_
  exact xri E hr hlk hQ (⟨rfl, rfl⟩) dX11_rule_18
set_option maxHeartbeats 4000000 in
set_option maxRecDepth 100000 in
theorem fX11_sitter (l : Launch) (g : GG) (ad : Nat → Nat) (hD : Dj ad 122) (S : SS) (hX : ∀ i, i < 122 → S i = X0 g ad i) (a1 : Int32) : Met l yX11_sitter (wG (.code yX11_sitter cX11_sitter 2 (some .int))) (Rm 1) (XPre g ad 122 S [.ref (ad 0), .int a1]) (va_Qi (fun r S' => S = S' ∧ r = (-2)) (QB g ad 122) (FA ad 122)) 0 0 (FA ad 122) := by
  refine xmet cX11_sitter "EbbWreck" (by decide) rfl (Nat.le_of_ble_eq_true rfl) (fun p e s m below meth c E hr hlk hml hQ ls hl => ?_)
  have hx := E.1
  have hb := E.2.1
  have hs : Sp ad 122 (FA ad 122) := Sp.fa hD
  have hl : lv_has ls 2 [(0, .ref (ad 0)), (1, .int a1)] := hl
  refine lv_aload_n hx hb dX11_sitter_0 rfl (lv_at hl 0 rfl) ?_
  have c_1 : S 0 = .inr (11, [.ref (ad 1), .int 0, .int 0, .int (-1), .ref (ad 2), .ref (ad 20), .ref (ad 38), .ref (ad 93), .ref (ad 94), .ref (ad 95), .ref (ad 102), .ref (ad 104), .ref (ad 107), .ref (ad 111), .ref (ad 119)]) := (hX 0 (by decide))
  refine xget E hQ 0 (by decide) c_1 rfl 4 (by decide) q520 rfl dX11_sitter_1 ?_
  refine lv_iload_n hx hb dX11_sitter_4 rfl (lv_at hl 1 rfl) ?_
  have c_2 : S 2 = .inr (1, [.int 0, .int 0, .int 0, .ref (ad 3), .ref (ad 5), .ref (ad 6), .int 0, .int 0, .ref (ad 7), .ref (ad 8), .ref (ad 9), .ref (ad 10), .int 0, .ref (ad 15), .ref (ad 16)]) := (hX 2 (by decide))
  refine xcVi E hs hQ hml hl.1 2 (fX1_hasSitter l g ad hD S hX a1) mX1_hasSitter q848 (by decide) c_2 rfl rfl ⟨by decide, by decide⟩ ⟨by decide, by decide⟩ (by decide) rfl dX11_sitter_5 (fun r3 S3 H locs hp3 hQ _ => ?_)
  obtain ⟨rfl, rfl⟩ := hp3
  refine lv_if_eq (tgt := 23) hx hb dX11_sitter_8 (by decide) (fun k_4 => ?_) (fun k_4 => absurd k_4 (by decide))
  refine lv_bipush (v := (-2)) hx hb dX11_sitter_23 (by decide) ?_
  exact xri E hr hlk hQ (⟨rfl, rfl⟩) dX11_sitter_25
set_option maxHeartbeats 4000000 in
set_option maxRecDepth 100000 in
theorem fX11_phase (l : Launch) (g : GG) (ad : Nat → Nat) (hD : Dj ad 122) (S : SS) (hX : ∀ i, i < 122 → S i = X0 g ad i) (a1 : Int32) : Met l yX11_phase (wG (.code yX11_phase cX11_phase 2 (some .int))) (Rm 2) (XPre g ad 122 S [.ref (ad 0), .int a1]) (va_Qi (fun r S' => S = S' ∧ r = (-2)) (QB g ad 122) (FA ad 122)) 0 0 (FA ad 122) := by
  refine xmet cX11_phase "EbbWreck" (by decide) rfl (Nat.le_of_ble_eq_true rfl) (fun p e s m below meth c E hr hlk hml hQ ls hl => ?_)
  have hx := E.1
  have hb := E.2.1
  have hs : Sp ad 122 (FA ad 122) := Sp.fa hD
  have hl : lv_has ls 2 [(0, .ref (ad 0)), (1, .int a1)] := hl
  refine lv_aload_n hx hb dX11_phase_0 rfl (lv_at hl 0 rfl) ?_
  refine lv_iload_n hx hb dX11_phase_1 rfl (lv_at hl 1 rfl) ?_
  have c_1 : S 0 = .inr (11, [.ref (ad 1), .int 0, .int 0, .int (-1), .ref (ad 2), .ref (ad 20), .ref (ad 38), .ref (ad 93), .ref (ad 94), .ref (ad 95), .ref (ad 102), .ref (ad 104), .ref (ad 107), .ref (ad 111), .ref (ad 119)]) := (hX 0 (by decide))
  refine xcVi E hs hQ hml hl.1 0 (fX11_isTideHour l g ad hD S hX a1) mX11_isTideHour q874 (by decide) c_1 rfl rfl ⟨by decide, by decide⟩ ⟨by decide, by decide⟩ (by decide) rfl dX11_phase_2 (fun r2 S2 H locs hp2 hQ _ => ?_)
  obtain ⟨rfl, rfl⟩ := hp2
  refine lv_if_eq (tgt := 22) hx hb dX11_phase_5 (by decide) (fun k_3 => ?_) (fun k_3 => absurd k_3 (by decide))
  refine lv_bipush (v := (-2)) hx hb dX11_phase_22 (by decide) ?_
  exact xri E hr hlk hQ (⟨rfl, rfl⟩) dX11_phase_24
set_option maxHeartbeats 4000000 in
set_option maxRecDepth 100000 in
theorem fX11_next (l : Launch) (g : GG) (ad : Nat → Nat) (hD : Dj ad 122) (S : SS) (hX : ∀ i, i < 122 → S i = X0 g ad i) (a1 : Int32) (a2 : Int32) : Met l yX11_next (wG (.code yX11_next cX11_next 3 (some .int))) (Rm 1) (XPre g ad 122 S [.ref (ad 0), .int a1, .int a2]) (va_Qi (fun r S' => S = S' ∧ r = (-2)) (QB g ad 122) (FA ad 122)) 0 0 (FA ad 122) := by
  refine xmet cX11_next "EbbWreck" (by decide) rfl (Nat.le_of_ble_eq_true rfl) (fun p e s m below meth c E hr hlk hml hQ ls hl => ?_)
  have hx := E.1
  have hb := E.2.1
  have hs : Sp ad 122 (FA ad 122) := Sp.fa hD
  have hl : lv_has ls 3 [(0, .ref (ad 0)), (1, .int a1), (2, .int a2)] := hl
  refine lv_aload_n hx hb dX11_next_0 rfl (lv_at hl 0 rfl) ?_
  have c_1 : S 0 = .inr (11, [.ref (ad 1), .int 0, .int 0, .int (-1), .ref (ad 2), .ref (ad 20), .ref (ad 38), .ref (ad 93), .ref (ad 94), .ref (ad 95), .ref (ad 102), .ref (ad 104), .ref (ad 107), .ref (ad 111), .ref (ad 119)]) := (hX 0 (by decide))
  refine xget E hQ 0 (by decide) c_1 rfl 4 (by decide) q520 rfl dX11_next_1 ?_
  have c_2 : S 2 = .inr (1, [.int 0, .int 0, .int 0, .ref (ad 3), .ref (ad 5), .ref (ad 6), .int 0, .int 0, .ref (ad 7), .ref (ad 8), .ref (ad 9), .ref (ad 10), .int 0, .ref (ad 15), .ref (ad 16)]) := (hX 2 (by decide))
  refine xcVi E hs hQ hml hl.1 2 (fX1_isTold l g ad hD S hX ) mX1_isTold q878 (by decide) c_2 rfl rfl ⟨by decide, by decide⟩ ⟨by decide, by decide⟩ (by decide) rfl dX11_next_4 (fun r3 S3 H locs hp3 hQ _ => ?_)
  obtain ⟨rfl, rfl⟩ := hp3
  refine lv_if_eq (tgt := 26) hx hb dX11_next_7 (by decide) (fun k_4 => ?_) (fun k_4 => absurd k_4 (by decide))
  refine lv_bipush (v := (-2)) hx hb dX11_next_26 (by decide) ?_
  exact xri E hr hlk hQ (⟨rfl, rfl⟩) dX11_next_28
set_option maxHeartbeats 4000000 in
set_option maxRecDepth 100000 in
theorem fX11_lasts (l : Launch) (g : GG) (ad : Nat → Nat) (hD : Dj ad 122) (S : SS) (hX : ∀ i, i < 122 → S i = X0 g ad i) (a1 : Int32) : Met l yX11_lasts (wG (.code yX11_lasts cX11_lasts 2 (some .int))) (Rm 2) (XPre g ad 122 S [.ref (ad 0), .int a1]) (va_Qi (fun r S' => S = S' ∧ r = (-2)) (QB g ad 122) (FA ad 122)) 0 0 (FA ad 122) := by
  refine xmet cX11_lasts "EbbWreck" (by decide) rfl (Nat.le_of_ble_eq_true rfl) (fun p e s m below meth c E hr hlk hml hQ ls hl => ?_)
  have hx := E.1
  have hb := E.2.1
  have hs : Sp ad 122 (FA ad 122) := Sp.fa hD
  have hl : lv_has ls 2 [(0, .ref (ad 0)), (1, .int a1)] := hl
  refine lv_aload_n hx hb dX11_lasts_0 rfl (lv_at hl 0 rfl) ?_
  refine lv_iload_n hx hb dX11_lasts_1 rfl (lv_at hl 1 rfl) ?_
  have c_1 : S 0 = .inr (11, [.ref (ad 1), .int 0, .int 0, .int (-1), .ref (ad 2), .ref (ad 20), .ref (ad 38), .ref (ad 93), .ref (ad 94), .ref (ad 95), .ref (ad 102), .ref (ad 104), .ref (ad 107), .ref (ad 111), .ref (ad 119)]) := (hX 0 (by decide))
  refine xcVi E hs hQ hml hl.1 0 (fX11_isTideHour l g ad hD S hX a1) mX11_isTideHour q874 (by decide) c_1 rfl rfl ⟨by decide, by decide⟩ ⟨by decide, by decide⟩ (by decide) rfl dX11_lasts_2 (fun r2 S2 H locs hp2 hQ _ => ?_)
  obtain ⟨rfl, rfl⟩ := hp2
  refine lv_if_eq (tgt := 22) hx hb dX11_lasts_5 (by decide) (fun k_3 => ?_) (fun k_3 => absurd k_3 (by decide))
  refine lv_bipush (v := (-2)) hx hb dX11_lasts_22 (by decide) ?_
  exact xri E hr hlk hQ (⟨rfl, rfl⟩) dX11_lasts_24
set_option maxHeartbeats 4000000 in
set_option maxRecDepth 100000 in
theorem fX11_slacks (l : Launch) (g : GG) (ad : Nat → Nat) (hD : Dj ad 122) (S : SS) (hX : ∀ i, i < 122 → S i = X0 g ad i) (a1 : Int32) : Met l yX11_slacks (wG (.code yX11_slacks cX11_slacks 2 (some .int))) (Rm 2) (XPre g ad 122 S [.ref (ad 0), .int a1]) (va_Qi (fun r S' => S = S' ∧ r = (-2)) (QB g ad 122) (FA ad 122)) 0 0 (FA ad 122) := by
  refine xmet cX11_slacks "EbbWreck" (by decide) rfl (Nat.le_of_ble_eq_true rfl) (fun p e s m below meth c E hr hlk hml hQ ls hl => ?_)
  have hx := E.1
  have hb := E.2.1
  have hs : Sp ad 122 (FA ad 122) := Sp.fa hD
  have hl : lv_has ls 2 [(0, .ref (ad 0)), (1, .int a1)] := hl
  refine lv_aload_n hx hb dX11_slacks_0 rfl (lv_at hl 0 rfl) ?_
  refine lv_iload_n hx hb dX11_slacks_1 rfl (lv_at hl 1 rfl) ?_
  have c_1 : S 0 = .inr (11, [.ref (ad 1), .int 0, .int 0, .int (-1), .ref (ad 2), .ref (ad 20), .ref (ad 38), .ref (ad 93), .ref (ad 94), .ref (ad 95), .ref (ad 102), .ref (ad 104), .ref (ad 107), .ref (ad 111), .ref (ad 119)]) := (hX 0 (by decide))
  refine xcVi E hs hQ hml hl.1 0 (fX11_isTideHour l g ad hD S hX a1) mX11_isTideHour q874 (by decide) c_1 rfl rfl ⟨by decide, by decide⟩ ⟨by decide, by decide⟩ (by decide) rfl dX11_slacks_2 (fun r2 S2 H locs hp2 hQ _ => ?_)
  obtain ⟨rfl, rfl⟩ := hp2
  refine lv_if_eq (tgt := 22) hx hb dX11_slacks_5 (by decide) (fun k_3 => ?_) (fun k_3 => absurd k_3 (by decide))
  refine lv_bipush (v := (-2)) hx hb dX11_slacks_22 (by decide) ?_
  exact xri E hr hlk hQ (⟨rfl, rfl⟩) dX11_slacks_24
set_option maxHeartbeats 4000000 in
set_option maxRecDepth 100000 in
theorem fX11_drifts (l : Launch) (g : GG) (ad : Nat → Nat) (hD : Dj ad 122) (S : SS) (hX : ∀ i, i < 122 → S i = X0 g ad i) (a1 : Int32) (a2 : Int32) : Met l yX11_drifts (wG (.code yX11_drifts cX11_drifts 3 (some .int))) (Rm 1) (XPre g ad 122 S [.ref (ad 0), .int a1, .int a2]) (va_Qi (fun r S' => S = S' ∧ r = (-2)) (QB g ad 122) (FA ad 122)) 0 0 (FA ad 122) := by
  refine xmet cX11_drifts "EbbWreck" (by decide) rfl (Nat.le_of_ble_eq_true rfl) (fun p e s m below meth c E hr hlk hml hQ ls hl => ?_)
  have hx := E.1
  have hb := E.2.1
  have hs : Sp ad 122 (FA ad 122) := Sp.fa hD
  have hl : lv_has ls 3 [(0, .ref (ad 0)), (1, .int a1), (2, .int a2)] := hl
  refine lv_aload_n hx hb dX11_drifts_0 rfl (lv_at hl 0 rfl) ?_
  have c_1 : S 0 = .inr (11, [.ref (ad 1), .int 0, .int 0, .int (-1), .ref (ad 2), .ref (ad 20), .ref (ad 38), .ref (ad 93), .ref (ad 94), .ref (ad 95), .ref (ad 102), .ref (ad 104), .ref (ad 107), .ref (ad 111), .ref (ad 119)]) := (hX 0 (by decide))
  refine xget E hQ 0 (by decide) c_1 rfl 4 (by decide) q520 rfl dX11_drifts_1 ?_
  refine lv_iload_n hx hb dX11_drifts_4 rfl (lv_at hl 1 rfl) ?_
  have c_2 : S 2 = .inr (1, [.int 0, .int 0, .int 0, .ref (ad 3), .ref (ad 5), .ref (ad 6), .int 0, .int 0, .ref (ad 7), .ref (ad 8), .ref (ad 9), .ref (ad 10), .int 0, .ref (ad 15), .ref (ad 16)]) := (hX 2 (by decide))
  refine xcVi E hs hQ hml hl.1 2 (fX1_hasCell l g ad hD S hX a1) mX1_hasCell q823 (by decide) c_2 rfl rfl ⟨by decide, by decide⟩ ⟨by decide, by decide⟩ (by decide) rfl dX11_drifts_5 (fun r3 S3 H locs hp3 hQ _ => ?_)
  obtain ⟨rfl, rfl⟩ := hp3
  refine lv_if_eq (tgt := 19) hx hb dX11_drifts_8 (by decide) (fun k_4 => ?_) (fun k_4 => absurd k_4 (by decide))
  refine lv_bipush (v := (-2)) hx hb dX11_drifts_19 (by decide) ?_
  exact xri E hr hlk hQ (⟨rfl, rfl⟩) dX11_drifts_21
set_option maxHeartbeats 4000000 in
set_option maxRecDepth 100000 in
theorem fX11_at (l : Launch) (g : GG) (ad : Nat → Nat) (hD : Dj ad 122) (S : SS) (hX : ∀ i, i < 122 → S i = X0 g ad i) (a1 : Int32) (a2 : Int32) : Met l yX11_at (wG (.code yX11_at cX11_at 3 (some .int))) (Rm 1) (XPre g ad 122 S [.ref (ad 0), .int a1, .int a2]) (va_Qi (fun r S' => S = S' ∧ r = (-2)) (QB g ad 122) (FA ad 122)) 0 0 (FA ad 122) := by
  refine xmet cX11_at "EbbWreck" (by decide) rfl (Nat.le_of_ble_eq_true rfl) (fun p e s m below meth c E hr hlk hml hQ ls hl => ?_)
  have hx := E.1
  have hb := E.2.1
  have hs : Sp ad 122 (FA ad 122) := Sp.fa hD
  have hl : lv_has ls 3 [(0, .ref (ad 0)), (1, .int a1), (2, .int a2)] := hl
  refine lv_aload_n hx hb dX11_at_0 rfl (lv_at hl 0 rfl) ?_
  have c_1 : S 0 = .inr (11, [.ref (ad 1), .int 0, .int 0, .int (-1), .ref (ad 2), .ref (ad 20), .ref (ad 38), .ref (ad 93), .ref (ad 94), .ref (ad 95), .ref (ad 102), .ref (ad 104), .ref (ad 107), .ref (ad 111), .ref (ad 119)]) := (hX 0 (by decide))
  refine xget E hQ 0 (by decide) c_1 rfl 4 (by decide) q520 rfl dX11_at_1 ?_
  refine lv_iload_n hx hb dX11_at_4 rfl (lv_at hl 1 rfl) ?_
  have c_2 : S 2 = .inr (1, [.int 0, .int 0, .int 0, .ref (ad 3), .ref (ad 5), .ref (ad 6), .int 0, .int 0, .ref (ad 7), .ref (ad 8), .ref (ad 9), .ref (ad 10), .int 0, .ref (ad 15), .ref (ad 16)]) := (hX 2 (by decide))
  refine xcVi E hs hQ hml hl.1 2 (fX1_hasThing l g ad hD S hX a1) mX1_hasThing q832 (by decide) c_2 rfl rfl ⟨by decide, by decide⟩ ⟨by decide, by decide⟩ (by decide) rfl dX11_at_5 (fun r3 S3 H locs hp3 hQ _ => ?_)
  obtain ⟨rfl, rfl⟩ := hp3
  refine lv_if_eq (tgt := 21) hx hb dX11_at_8 (by decide) (fun k_4 => ?_) (fun k_4 => absurd k_4 (by decide))
  refine lv_bipush (v := (-2)) hx hb dX11_at_21 (by decide) ?_
  exact xri E hr hlk hQ (⟨rfl, rfl⟩) dX11_at_23
set_option maxHeartbeats 4000000 in
set_option maxRecDepth 100000 in
theorem fX11_comes (l : Launch) (g : GG) (ad : Nat → Nat) (hD : Dj ad 122) (S : SS) (hX : ∀ i, i < 122 → S i = X0 g ad i) (a1 : Int32) : Met l yX11_comes (wG (.code yX11_comes cX11_comes 2 (some .int))) (Rm 1) (XPre g ad 122 S [.ref (ad 0), .int a1]) (va_Qi (fun r S' => S = S' ∧ r = (-2)) (QB g ad 122) (FA ad 122)) 0 0 (FA ad 122) := by
  refine xmet cX11_comes "EbbWreck" (by decide) rfl (Nat.le_of_ble_eq_true rfl) (fun p e s m below meth c E hr hlk hml hQ ls hl => ?_)
  have hx := E.1
  have hb := E.2.1
  have hs : Sp ad 122 (FA ad 122) := Sp.fa hD
  have hl : lv_has ls 2 [(0, .ref (ad 0)), (1, .int a1)] := hl
  refine lv_aload_n hx hb dX11_comes_0 rfl (lv_at hl 0 rfl) ?_
  have c_1 : S 0 = .inr (11, [.ref (ad 1), .int 0, .int 0, .int (-1), .ref (ad 2), .ref (ad 20), .ref (ad 38), .ref (ad 93), .ref (ad 94), .ref (ad 95), .ref (ad 102), .ref (ad 104), .ref (ad 107), .ref (ad 111), .ref (ad 119)]) := (hX 0 (by decide))
  refine xget E hQ 0 (by decide) c_1 rfl 4 (by decide) q520 rfl dX11_comes_1 ?_
  refine lv_iload_n hx hb dX11_comes_4 rfl (lv_at hl 1 rfl) ?_
  have c_2 : S 2 = .inr (1, [.int 0, .int 0, .int 0, .ref (ad 3), .ref (ad 5), .ref (ad 6), .int 0, .int 0, .ref (ad 7), .ref (ad 8), .ref (ad 9), .ref (ad 10), .int 0, .ref (ad 15), .ref (ad 16)]) := (hX 2 (by decide))
  refine xcVi E hs hQ hml hl.1 2 (fX1_hasThing l g ad hD S hX a1) mX1_hasThing q832 (by decide) c_2 rfl rfl ⟨by decide, by decide⟩ ⟨by decide, by decide⟩ (by decide) rfl dX11_comes_5 (fun r3 S3 H locs hp3 hQ _ => ?_)
  obtain ⟨rfl, rfl⟩ := hp3
  refine lv_if_eq (tgt := 23) hx hb dX11_comes_8 (by decide) (fun k_4 => ?_) (fun k_4 => absurd k_4 (by decide))
  refine lv_bipush (v := (-2)) hx hb dX11_comes_23 (by decide) ?_
  exact xri E hr hlk hQ (⟨rfl, rfl⟩) dX11_comes_25
set_option maxHeartbeats 4000000 in
set_option maxRecDepth 100000 in
theorem fX11_beach (l : Launch) (g : GG) (ad : Nat → Nat) (hD : Dj ad 122) (S : SS) (hX : ∀ i, i < 122 → S i = X0 g ad i) (a1 : Int32) : Met l yX11_beach (wG (.code yX11_beach cX11_beach 2 (some .int))) (Rm 1) (XPre g ad 122 S [.ref (ad 0), .int a1]) (va_Qi (fun r S' => S = S' ∧ r = (-2)) (QB g ad 122) (FA ad 122)) 0 0 (FA ad 122) := by
  refine xmet cX11_beach "EbbWreck" (by decide) rfl (Nat.le_of_ble_eq_true rfl) (fun p e s m below meth c E hr hlk hml hQ ls hl => ?_)
  have hx := E.1
  have hb := E.2.1
  have hs : Sp ad 122 (FA ad 122) := Sp.fa hD
  have hl : lv_has ls 2 [(0, .ref (ad 0)), (1, .int a1)] := hl
  refine lv_aload_n hx hb dX11_beach_0 rfl (lv_at hl 0 rfl) ?_
  have c_1 : S 0 = .inr (11, [.ref (ad 1), .int 0, .int 0, .int (-1), .ref (ad 2), .ref (ad 20), .ref (ad 38), .ref (ad 93), .ref (ad 94), .ref (ad 95), .ref (ad 102), .ref (ad 104), .ref (ad 107), .ref (ad 111), .ref (ad 119)]) := (hX 0 (by decide))
  refine xget E hQ 0 (by decide) c_1 rfl 4 (by decide) q520 rfl dX11_beach_1 ?_
  refine lv_iload_n hx hb dX11_beach_4 rfl (lv_at hl 1 rfl) ?_
  have c_2 : S 2 = .inr (1, [.int 0, .int 0, .int 0, .ref (ad 3), .ref (ad 5), .ref (ad 6), .int 0, .int 0, .ref (ad 7), .ref (ad 8), .ref (ad 9), .ref (ad 10), .int 0, .ref (ad 15), .ref (ad 16)]) := (hX 2 (by decide))
  refine xcVi E hs hQ hml hl.1 2 (fX1_hasThing l g ad hD S hX a1) mX1_hasThing q832 (by decide) c_2 rfl rfl ⟨by decide, by decide⟩ ⟨by decide, by decide⟩ (by decide) rfl dX11_beach_5 (fun r3 S3 H locs hp3 hQ _ => ?_)
  obtain ⟨rfl, rfl⟩ := hp3
  refine lv_if_eq (tgt := 23) hx hb dX11_beach_8 (by decide) (fun k_4 => ?_) (fun k_4 => absurd k_4 (by decide))
  refine lv_bipush (v := (-2)) hx hb dX11_beach_23 (by decide) ?_
  exact xri E hr hlk hQ (⟨rfl, rfl⟩) dX11_beach_25
set_option maxHeartbeats 4000000 in
set_option maxRecDepth 100000 in
theorem fX11_whose (l : Launch) (g : GG) (ad : Nat → Nat) (hD : Dj ad 122) (S : SS) (hX : ∀ i, i < 122 → S i = X0 g ad i) (a1 : Int32) : Met l yX11_whose (wG (.code yX11_whose cX11_whose 2 (some .int))) (Rm 1) (XPre g ad 122 S [.ref (ad 0), .int a1]) (va_Qi (fun r S' => S = S' ∧ r = (-2)) (QB g ad 122) (FA ad 122)) 0 0 (FA ad 122) := by
  refine xmet cX11_whose "EbbWreck" (by decide) rfl (Nat.le_of_ble_eq_true rfl) (fun p e s m below meth c E hr hlk hml hQ ls hl => ?_)
  have hx := E.1
  have hb := E.2.1
  have hs : Sp ad 122 (FA ad 122) := Sp.fa hD
  have hl : lv_has ls 2 [(0, .ref (ad 0)), (1, .int a1)] := hl
  refine lv_aload_n hx hb dX11_whose_0 rfl (lv_at hl 0 rfl) ?_
  have c_1 : S 0 = .inr (11, [.ref (ad 1), .int 0, .int 0, .int (-1), .ref (ad 2), .ref (ad 20), .ref (ad 38), .ref (ad 93), .ref (ad 94), .ref (ad 95), .ref (ad 102), .ref (ad 104), .ref (ad 107), .ref (ad 111), .ref (ad 119)]) := (hX 0 (by decide))
  refine xget E hQ 0 (by decide) c_1 rfl 4 (by decide) q520 rfl dX11_whose_1 ?_
  refine lv_iload_n hx hb dX11_whose_4 rfl (lv_at hl 1 rfl) ?_
  have c_2 : S 2 = .inr (1, [.int 0, .int 0, .int 0, .ref (ad 3), .ref (ad 5), .ref (ad 6), .int 0, .int 0, .ref (ad 7), .ref (ad 8), .ref (ad 9), .ref (ad 10), .int 0, .ref (ad 15), .ref (ad 16)]) := (hX 2 (by decide))
  refine xcVi E hs hQ hml hl.1 2 (fX1_hasThing l g ad hD S hX a1) mX1_hasThing q832 (by decide) c_2 rfl rfl ⟨by decide, by decide⟩ ⟨by decide, by decide⟩ (by decide) rfl dX11_whose_5 (fun r3 S3 H locs hp3 hQ _ => ?_)
  obtain ⟨rfl, rfl⟩ := hp3
  refine lv_if_eq (tgt := 24) hx hb dX11_whose_8 (by decide) (fun k_4 => ?_) (fun k_4 => absurd k_4 (by decide))
  refine lv_bipush (v := (-2)) hx hb dX11_whose_24 (by decide) ?_
  exact xri E hr hlk hQ (⟨rfl, rfl⟩) dX11_whose_26
set_option maxHeartbeats 4000000 in
set_option maxRecDepth 100000 in
theorem fX11_has (l : Launch) (g : GG) (ad : Nat → Nat) (hD : Dj ad 122) (S : SS) (hX : ∀ i, i < 122 → S i = X0 g ad i) (a1 : Int32) : Met l yX11_has (wG (.code yX11_has cX11_has 2 (some .int))) (Rm 2) (XPre g ad 122 S [.ref (ad 0), .int a1]) (va_Qi (fun r S' => S = S' ∧ r = (-2)) (QB g ad 122) (FA ad 122)) 0 0 (FA ad 122) := by
  refine xmet cX11_has "EbbWreck" (by decide) rfl (Nat.le_of_ble_eq_true rfl) (fun p e s m below meth c E hr hlk hml hQ ls hl => ?_)
  have hx := E.1
  have hb := E.2.1
  have hs : Sp ad 122 (FA ad 122) := Sp.fa hD
  have hl : lv_has ls 2 [(0, .ref (ad 0)), (1, .int a1)] := hl
  refine lv_aload_n hx hb dX11_has_0 rfl (lv_at hl 0 rfl) ?_
  refine lv_iload_n hx hb dX11_has_1 rfl (lv_at hl 1 rfl) ?_
  have c_1 : S 0 = .inr (11, [.ref (ad 1), .int 0, .int 0, .int (-1), .ref (ad 2), .ref (ad 20), .ref (ad 38), .ref (ad 93), .ref (ad 94), .ref (ad 95), .ref (ad 102), .ref (ad 104), .ref (ad 107), .ref (ad 111), .ref (ad 119)]) := (hX 0 (by decide))
  refine xcVi E hs hQ hml hl.1 0 (fX11_isAskedParty l g ad hD S hX a1) mX11_isAskedParty q963 (by decide) c_1 rfl rfl ⟨by decide, by decide⟩ ⟨by decide, by decide⟩ (by decide) rfl dX11_has_2 (fun r2 S2 H locs hp2 hQ _ => ?_)
  obtain ⟨rfl, rfl⟩ := hp2
  refine lv_if_eq (tgt := 21) hx hb dX11_has_5 (by decide) (fun k_3 => ?_) (fun k_3 => absurd k_3 (by decide))
  refine lv_bipush (v := (-2)) hx hb dX11_has_21 (by decide) ?_
  exact xri E hr hlk hQ (⟨rfl, rfl⟩) dX11_has_23
set_option maxHeartbeats 4000000 in
set_option maxRecDepth 100000 in
theorem fX11_line (l : Launch) (g : GG) (ad : Nat → Nat) (hD : Dj ad 122) (S : SS) (hX : ∀ i, i < 122 → S i = X0 g ad i) (a1 : Int32) : Met l yX11_line (wG (.code yX11_line cX11_line 2 (some .int))) (Rm 1) (XPre g ad 122 S [.ref (ad 0), .int a1]) (va_Qi (fun r S' => S = S' ∧ r = (-2)) (QB g ad 122) (FA ad 122)) 0 0 (FA ad 122) := by
  refine xmet cX11_line "EbbWreck" (by decide) rfl (Nat.le_of_ble_eq_true rfl) (fun p e s m below meth c E hr hlk hml hQ ls hl => ?_)
  have hx := E.1
  have hb := E.2.1
  have hs : Sp ad 122 (FA ad 122) := Sp.fa hD
  have hl : lv_has ls 2 [(0, .ref (ad 0)), (1, .int a1)] := hl
  refine lv_aload_n hx hb dX11_line_0 rfl (lv_at hl 0 rfl) ?_
  have c_1 : S 0 = .inr (11, [.ref (ad 1), .int 0, .int 0, .int (-1), .ref (ad 2), .ref (ad 20), .ref (ad 38), .ref (ad 93), .ref (ad 94), .ref (ad 95), .ref (ad 102), .ref (ad 104), .ref (ad 107), .ref (ad 111), .ref (ad 119)]) := (hX 0 (by decide))
  refine xget E hQ 0 (by decide) c_1 rfl 4 (by decide) q520 rfl dX11_line_1 ?_
  refine lv_iload_n hx hb dX11_line_4 rfl (lv_at hl 1 rfl) ?_
  have c_2 : S 2 = .inr (1, [.int 0, .int 0, .int 0, .ref (ad 3), .ref (ad 5), .ref (ad 6), .int 0, .int 0, .ref (ad 7), .ref (ad 8), .ref (ad 9), .ref (ad 10), .int 0, .ref (ad 15), .ref (ad 16)]) := (hX 2 (by decide))
  refine xcVi E hs hQ hml hl.1 2 (fX1_hasCell l g ad hD S hX a1) mX1_hasCell q823 (by decide) c_2 rfl rfl ⟨by decide, by decide⟩ ⟨by decide, by decide⟩ (by decide) rfl dX11_line_5 (fun r3 S3 H locs hp3 hQ _ => ?_)
  obtain ⟨rfl, rfl⟩ := hp3
  refine lv_if_eq (tgt := 22) hx hb dX11_line_8 (by decide) (fun k_4 => ?_) (fun k_4 => absurd k_4 (by decide))
  refine lv_bipush (v := (-2)) hx hb dX11_line_22 (by decide) ?_
  exact xri E hr hlk hQ (⟨rfl, rfl⟩) dX11_line_24
set_option maxHeartbeats 4000000 in
set_option maxRecDepth 100000 in
theorem fX11_richest (l : Launch) (g : GG) (ad : Nat → Nat) (hD : Dj ad 122) (S : SS) (hX : ∀ i, i < 122 → S i = X0 g ad i) : Met l yX11_richest (wG (.code yX11_richest cX11_richest 5 (some .int))) (Rm 1) (XPre g ad 122 S [.ref (ad 0)]) (va_Qi (fun r S' => S = S' ∧ r = (-2)) (QB g ad 122) (FA ad 122)) 0 0 (FA ad 122) := by
  refine xmet cX11_richest "EbbWreck" (by decide) rfl (Nat.le_of_ble_eq_true rfl) (fun p e s m below meth c E hr hlk hml hQ ls hl => ?_)
  have hx := E.1
  have hb := E.2.1
  have hs : Sp ad 122 (FA ad 122) := Sp.fa hD
  have hl : lv_has ls 5 [(0, .ref (ad 0))] := hl
  refine lv_aload_n hx hb dX11_richest_0 rfl (lv_at hl 0 rfl) ?_
  have c_1 : S 0 = .inr (11, [.ref (ad 1), .int 0, .int 0, .int (-1), .ref (ad 2), .ref (ad 20), .ref (ad 38), .ref (ad 93), .ref (ad 94), .ref (ad 95), .ref (ad 102), .ref (ad 104), .ref (ad 107), .ref (ad 111), .ref (ad 119)]) := (hX 0 (by decide))
  refine xget E hQ 0 (by decide) c_1 rfl 4 (by decide) q520 rfl dX11_richest_1 ?_
  have c_2 : S 2 = .inr (1, [.int 0, .int 0, .int 0, .ref (ad 3), .ref (ad 5), .ref (ad 6), .int 0, .int 0, .ref (ad 7), .ref (ad 8), .ref (ad 9), .ref (ad 10), .int 0, .ref (ad 15), .ref (ad 16)]) := (hX 2 (by decide))
  refine xcVi E hs hQ hml hl.1 2 (fX1_isTold l g ad hD S hX ) mX1_isTold q878 (by decide) c_2 rfl rfl ⟨by decide, by decide⟩ ⟨by decide, by decide⟩ (by decide) rfl dX11_richest_4 (fun r3 S3 H locs hp3 hQ _ => ?_)
  obtain ⟨rfl, rfl⟩ := hp3
  refine lv_if_ne (tgt := 13) hx hb dX11_richest_7 (by decide) (fun k_4 => absurd k_4 (by decide)) (fun k_4 => ?_)
  refine lv_bipush (v := (-2)) hx hb dX11_richest_10 (by decide) ?_
  exact xri E hr hlk hQ (⟨rfl, rfl⟩) dX11_richest_12
set_option maxHeartbeats 4000000 in
set_option maxRecDepth 100000 in
theorem fX11_meet (l : Launch) (g : GG) (ad : Nat → Nat) (hD : Dj ad 122) (S : SS) (hX : ∀ i, i < 122 → S i = X0 g ad i) (a1 : Int32) (a2 : Int32) : Met l yX11_meet (wG (.code yX11_meet cX11_meet 3 (some .int))) (Rm 1) (XPre g ad 122 S [.ref (ad 0), .int a1, .int a2]) (va_Qi (fun r S' => S = S' ∧ r = (-2)) (QB g ad 122) (FA ad 122)) 0 0 (FA ad 122) := by
  refine xmet cX11_meet "EbbWreck" (by decide) rfl (Nat.le_of_ble_eq_true rfl) (fun p e s m below meth c E hr hlk hml hQ ls hl => ?_)
  have hx := E.1
  have hb := E.2.1
  have hs : Sp ad 122 (FA ad 122) := Sp.fa hD
  have hl : lv_has ls 3 [(0, .ref (ad 0)), (1, .int a1), (2, .int a2)] := hl
  refine lv_aload_n hx hb dX11_meet_0 rfl (lv_at hl 0 rfl) ?_
  have c_1 : S 0 = .inr (11, [.ref (ad 1), .int 0, .int 0, .int (-1), .ref (ad 2), .ref (ad 20), .ref (ad 38), .ref (ad 93), .ref (ad 94), .ref (ad 95), .ref (ad 102), .ref (ad 104), .ref (ad 107), .ref (ad 111), .ref (ad 119)]) := (hX 0 (by decide))
  refine xget E hQ 0 (by decide) c_1 rfl 4 (by decide) q520 rfl dX11_meet_1 ?_
  refine lv_iload_n hx hb dX11_meet_4 rfl (lv_at hl 1 rfl) ?_
  have c_2 : S 2 = .inr (1, [.int 0, .int 0, .int 0, .ref (ad 3), .ref (ad 5), .ref (ad 6), .int 0, .int 0, .ref (ad 7), .ref (ad 8), .ref (ad 9), .ref (ad 10), .int 0, .ref (ad 15), .ref (ad 16)]) := (hX 2 (by decide))
  refine xcVi E hs hQ hml hl.1 2 (fX1_hasThing l g ad hD S hX a1) mX1_hasThing q832 (by decide) c_2 rfl rfl ⟨by decide, by decide⟩ ⟨by decide, by decide⟩ (by decide) rfl dX11_meet_5 (fun r3 S3 H locs hp3 hQ _ => ?_)
  obtain ⟨rfl, rfl⟩ := hp3
  refine lv_if_eq (tgt := 27) hx hb dX11_meet_8 (by decide) (fun k_4 => ?_) (fun k_4 => absurd k_4 (by decide))
  refine lv_bipush (v := (-2)) hx hb dX11_meet_27 (by decide) ?_
  exact xri E hr hlk hQ (⟨rfl, rfl⟩) dX11_meet_29
set_option maxHeartbeats 4000000 in
set_option maxRecDepth 100000 in
theorem fX11_argued (l : Launch) (g : GG) (ad : Nat → Nat) (hD : Dj ad 122) (S : SS) (hX : ∀ i, i < 122 → S i = X0 g ad i) : Met l yX11_argued (wG (.code yX11_argued cX11_argued 1 (some .int))) (Rm 1) (XPre g ad 122 S [.ref (ad 0)]) (va_Qi (fun r S' => S = S' ∧ r = (-2)) (QB g ad 122) (FA ad 122)) 0 0 (FA ad 122) := by
  refine xmet cX11_argued "EbbWreck" (by decide) rfl (Nat.le_of_ble_eq_true rfl) (fun p e s m below meth c E hr hlk hml hQ ls hl => ?_)
  have hx := E.1
  have hb := E.2.1
  have hs : Sp ad 122 (FA ad 122) := Sp.fa hD
  have hl : lv_has ls 1 [(0, .ref (ad 0))] := hl
  refine lv_aload_n hx hb dX11_argued_0 rfl (lv_at hl 0 rfl) ?_
  have c_1 : S 0 = .inr (11, [.ref (ad 1), .int 0, .int 0, .int (-1), .ref (ad 2), .ref (ad 20), .ref (ad 38), .ref (ad 93), .ref (ad 94), .ref (ad 95), .ref (ad 102), .ref (ad 104), .ref (ad 107), .ref (ad 111), .ref (ad 119)]) := (hX 0 (by decide))
  refine xget E hQ 0 (by decide) c_1 rfl 4 (by decide) q520 rfl dX11_argued_1 ?_
  have c_2 : S 2 = .inr (1, [.int 0, .int 0, .int 0, .ref (ad 3), .ref (ad 5), .ref (ad 6), .int 0, .int 0, .ref (ad 7), .ref (ad 8), .ref (ad 9), .ref (ad 10), .int 0, .ref (ad 15), .ref (ad 16)]) := (hX 2 (by decide))
  refine xcVi E hs hQ hml hl.1 2 (fX1_isTold l g ad hD S hX ) mX1_isTold q878 (by decide) c_2 rfl rfl ⟨by decide, by decide⟩ ⟨by decide, by decide⟩ (by decide) rfl dX11_argued_4 (fun r3 S3 H locs hp3 hQ _ => ?_)
  obtain ⟨rfl, rfl⟩ := hp3
  refine lv_if_eq (tgt := 20) hx hb dX11_argued_7 (by decide) (fun k_4 => ?_) (fun k_4 => absurd k_4 (by decide))
  refine lv_bipush (v := (-2)) hx hb dX11_argued_20 (by decide) ?_
  exact xri E hr hlk hQ (⟨rfl, rfl⟩) dX11_argued_22
set_option maxHeartbeats 4000000 in
set_option maxRecDepth 100000 in
theorem fX11_gaps (l : Launch) (g : GG) (ad : Nat → Nat) (hD : Dj ad 122) (S : SS) (hX : ∀ i, i < 122 → S i = X0 g ad i) (a1 : Int32) : Met l yX11_gaps (wG (.code yX11_gaps cX11_gaps 4 (some .int))) (Rm 1) (XPre g ad 122 S [.ref (ad 0), .int a1]) (va_Qi (fun r S' => S = S' ∧ r = (-2)) (QB g ad 122) (FA ad 122)) 0 0 (FA ad 122) := by
  refine xmet cX11_gaps "EbbWreck" (by decide) rfl (Nat.le_of_ble_eq_true rfl) (fun p e s m below meth c E hr hlk hml hQ ls hl => ?_)
  have hx := E.1
  have hb := E.2.1
  have hs : Sp ad 122 (FA ad 122) := Sp.fa hD
  have hl : lv_has ls 4 [(0, .ref (ad 0)), (1, .int a1)] := hl
  refine lv_aload_n hx hb dX11_gaps_0 rfl (lv_at hl 0 rfl) ?_
  have c_1 : S 0 = .inr (11, [.ref (ad 1), .int 0, .int 0, .int (-1), .ref (ad 2), .ref (ad 20), .ref (ad 38), .ref (ad 93), .ref (ad 94), .ref (ad 95), .ref (ad 102), .ref (ad 104), .ref (ad 107), .ref (ad 111), .ref (ad 119)]) := (hX 0 (by decide))
  refine xget E hQ 0 (by decide) c_1 rfl 4 (by decide) q520 rfl dX11_gaps_1 ?_
  have c_2 : S 2 = .inr (1, [.int 0, .int 0, .int 0, .ref (ad 3), .ref (ad 5), .ref (ad 6), .int 0, .int 0, .ref (ad 7), .ref (ad 8), .ref (ad 9), .ref (ad 10), .int 0, .ref (ad 15), .ref (ad 16)]) := (hX 2 (by decide))
  refine xcVi E hs hQ hml hl.1 2 (fX1_isTold l g ad hD S hX ) mX1_isTold q878 (by decide) c_2 rfl rfl ⟨by decide, by decide⟩ ⟨by decide, by decide⟩ (by decide) rfl dX11_gaps_4 (fun r3 S3 H locs hp3 hQ _ => ?_)
  obtain ⟨rfl, rfl⟩ := hp3
  refine lv_if_eq (tgt := 17) hx hb dX11_gaps_7 (by decide) (fun k_4 => ?_) (fun k_4 => absurd k_4 (by decide))
  refine lv_bipush (v := (-2)) hx hb dX11_gaps_17 (by decide) ?_
  exact xri E hr hlk hQ (⟨rfl, rfl⟩) dX11_gaps_19
set_option maxHeartbeats 4000000 in
set_option maxRecDepth 100000 in
theorem fX11_idle (l : Launch) (g : GG) (ad : Nat → Nat) (hD : Dj ad 122) (S : SS) (hX : ∀ i, i < 122 → S i = X0 g ad i) : Met l yX11_idle (wG (.code yX11_idle cX11_idle 5 (some .int))) (Rm 1) (XPre g ad 122 S [.ref (ad 0)]) (va_Qi (fun r S' => S = S' ∧ r = (-2)) (QB g ad 122) (FA ad 122)) 0 0 (FA ad 122) := by
  refine xmet cX11_idle "EbbWreck" (by decide) rfl (Nat.le_of_ble_eq_true rfl) (fun p e s m below meth c E hr hlk hml hQ ls hl => ?_)
  have hx := E.1
  have hb := E.2.1
  have hs : Sp ad 122 (FA ad 122) := Sp.fa hD
  have hl : lv_has ls 5 [(0, .ref (ad 0))] := hl
  refine lv_aload_n hx hb dX11_idle_0 rfl (lv_at hl 0 rfl) ?_
  have c_1 : S 0 = .inr (11, [.ref (ad 1), .int 0, .int 0, .int (-1), .ref (ad 2), .ref (ad 20), .ref (ad 38), .ref (ad 93), .ref (ad 94), .ref (ad 95), .ref (ad 102), .ref (ad 104), .ref (ad 107), .ref (ad 111), .ref (ad 119)]) := (hX 0 (by decide))
  refine xget E hQ 0 (by decide) c_1 rfl 4 (by decide) q520 rfl dX11_idle_1 ?_
  have c_2 : S 2 = .inr (1, [.int 0, .int 0, .int 0, .ref (ad 3), .ref (ad 5), .ref (ad 6), .int 0, .int 0, .ref (ad 7), .ref (ad 8), .ref (ad 9), .ref (ad 10), .int 0, .ref (ad 15), .ref (ad 16)]) := (hX 2 (by decide))
  refine xcVi E hs hQ hml hl.1 2 (fX1_isTold l g ad hD S hX ) mX1_isTold q878 (by decide) c_2 rfl rfl ⟨by decide, by decide⟩ ⟨by decide, by decide⟩ (by decide) rfl dX11_idle_4 (fun r3 S3 H locs hp3 hQ _ => ?_)
  obtain ⟨rfl, rfl⟩ := hp3
  refine lv_if_ne (tgt := 13) hx hb dX11_idle_7 (by decide) (fun k_4 => absurd k_4 (by decide)) (fun k_4 => ?_)
  refine lv_bipush (v := (-2)) hx hb dX11_idle_10 (by decide) ?_
  exact xri E hr hlk hQ (⟨rfl, rfl⟩) dX11_idle_12
set_option maxHeartbeats 4000000 in
set_option maxRecDepth 100000 in
theorem fX11_without (l : Launch) (g : GG) (ad : Nat → Nat) (hD : Dj ad 122) (S : SS) (hX : ∀ i, i < 122 → S i = X0 g ad i) (a1 : Int32) (a2 : Int32) : Met l yX11_without (wG (.code yX11_without cX11_without 3 (some .int))) (Rm 1) (XPre g ad 122 S [.ref (ad 0), .int a1, .int a2]) (va_Qi (fun r S' => S = S' ∧ r = (-2)) (QB g ad 122) (FA ad 122)) 0 0 (FA ad 122) := by
  refine xmet cX11_without "EbbWreck" (by decide) rfl (Nat.le_of_ble_eq_true rfl) (fun p e s m below meth c E hr hlk hml hQ ls hl => ?_)
  have hx := E.1
  have hb := E.2.1
  have hs : Sp ad 122 (FA ad 122) := Sp.fa hD
  have hl : lv_has ls 3 [(0, .ref (ad 0)), (1, .int a1), (2, .int a2)] := hl
  refine lv_aload_n hx hb dX11_without_0 rfl (lv_at hl 0 rfl) ?_
  have c_1 : S 0 = .inr (11, [.ref (ad 1), .int 0, .int 0, .int (-1), .ref (ad 2), .ref (ad 20), .ref (ad 38), .ref (ad 93), .ref (ad 94), .ref (ad 95), .ref (ad 102), .ref (ad 104), .ref (ad 107), .ref (ad 111), .ref (ad 119)]) := (hX 0 (by decide))
  refine xget E hQ 0 (by decide) c_1 rfl 4 (by decide) q520 rfl dX11_without_1 ?_
  have c_2 : S 2 = .inr (1, [.int 0, .int 0, .int 0, .ref (ad 3), .ref (ad 5), .ref (ad 6), .int 0, .int 0, .ref (ad 7), .ref (ad 8), .ref (ad 9), .ref (ad 10), .int 0, .ref (ad 15), .ref (ad 16)]) := (hX 2 (by decide))
  refine xget E hQ 2 (by decide) c_2 rfl 11 (by decide) q290 rfl dX11_without_4 ?_
  refine lv_iload_n hx hb dX11_without_7 rfl (lv_at hl 1 rfl) ?_
  have c_3 : S 10 = .inr (6, [.int 0, .ref (ad 11), .ref (ad 12), .ref (ad 13), .ref (ad 14)]) := (hX 10 (by decide))
  refine xcVi E hs hQ hml hl.1 10 (fX6_hasRule l g ad hD S hX a1) mX6_hasRule q840 (by decide) c_3 rfl rfl ⟨by decide, by decide⟩ ⟨by decide, by decide⟩ (by decide) rfl dX11_without_8 (fun r4 S4 H locs hp4 hQ _ => ?_)
  obtain ⟨rfl, rfl⟩ := hp4
  refine lv_if_eq (tgt := 22) hx hb dX11_without_11 (by decide) (fun k_5 => ?_) (fun k_5 => absurd k_5 (by decide))
  refine lv_bipush (v := (-2)) hx hb dX11_without_22 (by decide) ?_
  exact xri E hr hlk hQ (⟨rfl, rfl⟩) dX11_without_24
set_option maxHeartbeats 4000000 in
set_option maxRecDepth 100000 in
theorem fX11_strike (l : Launch) (g : GG) (ad : Nat → Nat) (hD : Dj ad 122) (S : SS) (hX : ∀ i, i < 122 → S i = X0 g ad i) (a1 : Int32) : Met l yX11_strike (wG (.code yX11_strike cX11_strike 6 (some .int))) (Rm 2) (XPre g ad 122 S [.ref (ad 0), .int a1]) (va_Qi (fun r S' => S = S' ∧ r = (-2)) (QB g ad 122) (FA ad 122)) 0 0 (FA ad 122) := by
  refine xmet cX11_strike "EbbWreck" (by decide) rfl (Nat.le_of_ble_eq_true rfl) (fun p e s m below meth c E hr hlk hml hQ ls hl => ?_)
  have hx := E.1
  have hb := E.2.1
  have hs : Sp ad 122 (FA ad 122) := Sp.fa hD
  have hl : lv_has ls 6 [(0, .ref (ad 0)), (1, .int a1)] := hl
  refine lv_aload_n hx hb dX11_strike_0 rfl (lv_at hl 0 rfl) ?_
  refine lv_iload_n hx hb dX11_strike_1 rfl (lv_at hl 1 rfl) ?_
  have c_1 : S 0 = .inr (11, [.ref (ad 1), .int 0, .int 0, .int (-1), .ref (ad 2), .ref (ad 20), .ref (ad 38), .ref (ad 93), .ref (ad 94), .ref (ad 95), .ref (ad 102), .ref (ad 104), .ref (ad 107), .ref (ad 111), .ref (ad 119)]) := (hX 0 (by decide))
  refine xcVi E hs hQ hml hl.1 0 (fX11_isAskedParty l g ad hD S hX a1) mX11_isAskedParty q963 (by decide) c_1 rfl rfl ⟨by decide, by decide⟩ ⟨by decide, by decide⟩ (by decide) rfl dX11_strike_2 (fun r2 S2 H locs hp2 hQ _ => ?_)
  obtain ⟨rfl, rfl⟩ := hp2
  refine lv_if_ne (tgt := 11) hx hb dX11_strike_5 (by decide) (fun k_3 => absurd k_3 (by decide)) (fun k_3 => ?_)
  refine lv_bipush (v := (-2)) hx hb dX11_strike_8 (by decide) ?_
  exact xri E hr hlk hQ (⟨rfl, rfl⟩) dX11_strike_10
set_option maxHeartbeats 4000000 in
set_option maxRecDepth 100000 in
theorem fX11_clock (l : Launch) (g : GG) (ad : Nat → Nat) (hD : Dj ad 122) (S : SS) (hX : ∀ i, i < 122 → S i = X0 g ad i) (a1 : Int32) (a2 : Int32) : Met l yX11_clock (wG (.code yX11_clock cX11_clock 3 (some .int))) (Rm 2) (XPre g ad 122 S [.ref (ad 0), .int a1, .int a2]) (va_Qi (fun r S' => S = S' ∧ r = (-2)) (QB g ad 122) (FA ad 122)) 0 0 (FA ad 122) := by
  refine xmet cX11_clock "EbbWreck" (by decide) rfl (Nat.le_of_ble_eq_true rfl) (fun p e s m below meth c E hr hlk hml hQ ls hl => ?_)
  have hx := E.1
  have hb := E.2.1
  have hs : Sp ad 122 (FA ad 122) := Sp.fa hD
  have hl : lv_has ls 3 [(0, .ref (ad 0)), (1, .int a1), (2, .int a2)] := hl
  refine lv_aload_n hx hb dX11_clock_0 rfl (lv_at hl 0 rfl) ?_
  refine lv_iload_n hx hb dX11_clock_1 rfl (lv_at hl 1 rfl) ?_
  have c_1 : S 0 = .inr (11, [.ref (ad 1), .int 0, .int 0, .int (-1), .ref (ad 2), .ref (ad 20), .ref (ad 38), .ref (ad 93), .ref (ad 94), .ref (ad 95), .ref (ad 102), .ref (ad 104), .ref (ad 107), .ref (ad 111), .ref (ad 119)]) := (hX 0 (by decide))
  refine xcVi E hs hQ hml hl.1 0 (fX11_isAskedParty l g ad hD S hX a1) mX11_isAskedParty q963 (by decide) c_1 rfl rfl ⟨by decide, by decide⟩ ⟨by decide, by decide⟩ (by decide) rfl dX11_clock_2 (fun r2 S2 H locs hp2 hQ _ => ?_)
  obtain ⟨rfl, rfl⟩ := hp2
  refine lv_if_eq (tgt := 20) hx hb dX11_clock_5 (by decide) (fun k_3 => ?_) (fun k_3 => absurd k_3 (by decide))
  refine lv_bipush (v := (-2)) hx hb dX11_clock_20 (by decide) ?_
  exact xri E hr hlk hQ (⟨rfl, rfl⟩) dX11_clock_22
set_option maxHeartbeats 4000000 in
set_option maxRecDepth 100000 in
theorem fX11_set (l : Launch) (g : GG) (ad : Nat → Nat) (hD : Dj ad 122) (S : SS) (hX : ∀ i, i < 122 → S i = X0 g ad i) (a1 : Int32) : Met l yX11_set (wG (.code yX11_set cX11_set 7 (some .int))) (Rm 2) (XPre g ad 122 S [.ref (ad 0), .int a1]) (va_Qi (fun r S' => S = S' ∧ r = (-1000)) (QB g ad 122) (FA ad 122)) 0 0 (FA ad 122) := by
  refine xmet cX11_set "EbbWreck" (by decide) rfl (Nat.le_of_ble_eq_true rfl) (fun p e s m below meth c E hr hlk hml hQ ls hl => ?_)
  have hx := E.1
  have hb := E.2.1
  have hs : Sp ad 122 (FA ad 122) := Sp.fa hD
  have hl : lv_has ls 7 [(0, .ref (ad 0)), (1, .int a1)] := hl
  refine lv_aload_n hx hb dX11_set_0 rfl (lv_at hl 0 rfl) ?_
  refine lv_iload_n hx hb dX11_set_1 rfl (lv_at hl 1 rfl) ?_
  have c_1 : S 0 = .inr (11, [.ref (ad 1), .int 0, .int 0, .int (-1), .ref (ad 2), .ref (ad 20), .ref (ad 38), .ref (ad 93), .ref (ad 94), .ref (ad 95), .ref (ad 102), .ref (ad 104), .ref (ad 107), .ref (ad 111), .ref (ad 119)]) := (hX 0 (by decide))
  refine xcVi E hs hQ hml hl.1 0 (fX11_isAskedParty l g ad hD S hX a1) mX11_isAskedParty q963 (by decide) c_1 rfl rfl ⟨by decide, by decide⟩ ⟨by decide, by decide⟩ (by decide) rfl dX11_set_2 (fun r2 S2 H locs hp2 hQ _ => ?_)
  obtain ⟨rfl, rfl⟩ := hp2
  refine lv_if_ne (tgt := 12) hx hb dX11_set_5 (by decide) (fun k_3 => absurd k_3 (by decide)) (fun k_3 => ?_)
  refine lv_sipush (v := (-1000)) hx hb dX11_set_8 (by decide) ?_
  exact xri E hr hlk hQ (⟨rfl, rfl⟩) dX11_set_11
set_option maxHeartbeats 4000000 in
set_option maxRecDepth 100000 in
theorem fX11_pushes (l : Launch) (g : GG) (ad : Nat → Nat) (hD : Dj ad 122) (S : SS) (hX : ∀ i, i < 122 → S i = X0 g ad i) (a1 : Int32) (a2 : Int32) : Met l yX11_pushes (wG (.code yX11_pushes cX11_pushes 3 (some .int))) (Rm 2) (XPre g ad 122 S [.ref (ad 0), .int a1, .int a2]) (va_Qi (fun r S' => S = S' ∧ r = (-2)) (QB g ad 122) (FA ad 122)) 0 0 (FA ad 122) := by
  refine xmet cX11_pushes "EbbWreck" (by decide) rfl (Nat.le_of_ble_eq_true rfl) (fun p e s m below meth c E hr hlk hml hQ ls hl => ?_)
  have hx := E.1
  have hb := E.2.1
  have hs : Sp ad 122 (FA ad 122) := Sp.fa hD
  have hl : lv_has ls 3 [(0, .ref (ad 0)), (1, .int a1), (2, .int a2)] := hl
  refine lv_aload_n hx hb dX11_pushes_0 rfl (lv_at hl 0 rfl) ?_
  refine lv_iload_n hx hb dX11_pushes_1 rfl (lv_at hl 1 rfl) ?_
  refine lv_iload_n hx hb dX11_pushes_2 rfl (lv_at hl 2 rfl) ?_
  have c_1 : S 0 = .inr (11, [.ref (ad 1), .int 0, .int 0, .int (-1), .ref (ad 2), .ref (ad 20), .ref (ad 38), .ref (ad 93), .ref (ad 94), .ref (ad 95), .ref (ad 102), .ref (ad 104), .ref (ad 107), .ref (ad 111), .ref (ad 119)]) := (hX 0 (by decide))
  refine xcVi E hs hQ hml hl.1 0 (fX11_isWish l g ad hD S hX a1 a2) mX11_isWish q1044 (by decide) c_1 rfl rfl ⟨by decide, by decide⟩ ⟨by decide, by decide⟩ (by decide) rfl dX11_pushes_3 (fun r2 S2 H locs hp2 hQ _ => ?_)
  obtain ⟨rfl, rfl⟩ := hp2
  refine lv_if_eq (tgt := 22) hx hb dX11_pushes_6 (by decide) (fun k_3 => ?_) (fun k_3 => absurd k_3 (by decide))
  refine lv_bipush (v := (-2)) hx hb dX11_pushes_22 (by decide) ?_
  exact xri E hr hlk hQ (⟨rfl, rfl⟩) dX11_pushes_24
set_option maxHeartbeats 4000000 in
set_option maxRecDepth 100000 in
theorem fX11_push (l : Launch) (g : GG) (ad : Nat → Nat) (hD : Dj ad 122) (S : SS) (hX : ∀ i, i < 122 → S i = X0 g ad i) (a1 : Int32) (a2 : Int32) (a3 : Int32) : Met l yX11_push (wG (.code yX11_push cX11_push 5 (some .int))) (Rm 2) (XPre g ad 122 S [.ref (ad 0), .int a1, .int a2, .int a3]) (va_Qi (fun r S' => S = S' ∧ r = (-2)) (QB g ad 122) (FA ad 122)) 0 0 (FA ad 122) := by
  refine xmet cX11_push "EbbWreck" (by decide) rfl (Nat.le_of_ble_eq_true rfl) (fun p e s m below meth c E hr hlk hml hQ ls hl => ?_)
  have hx := E.1
  have hb := E.2.1
  have hs : Sp ad 122 (FA ad 122) := Sp.fa hD
  have hl : lv_has ls 5 [(0, .ref (ad 0)), (1, .int a1), (2, .int a2), (3, .int a3)] := hl
  refine lv_aload_n hx hb dX11_push_0 rfl (lv_at hl 0 rfl) ?_
  refine lv_iload_n hx hb dX11_push_1 rfl (lv_at hl 1 rfl) ?_
  refine lv_iload_n hx hb dX11_push_2 rfl (lv_at hl 2 rfl) ?_
  have c_1 : S 0 = .inr (11, [.ref (ad 1), .int 0, .int 0, .int (-1), .ref (ad 2), .ref (ad 20), .ref (ad 38), .ref (ad 93), .ref (ad 94), .ref (ad 95), .ref (ad 102), .ref (ad 104), .ref (ad 107), .ref (ad 111), .ref (ad 119)]) := (hX 0 (by decide))
  refine xcVi E hs hQ hml hl.1 0 (fX11_isWish l g ad hD S hX a1 a2) mX11_isWish q1044 (by decide) c_1 rfl rfl ⟨by decide, by decide⟩ ⟨by decide, by decide⟩ (by decide) rfl dX11_push_3 (fun r2 S2 H locs hp2 hQ _ => ?_)
  obtain ⟨rfl, rfl⟩ := hp2
  refine lv_if_ne (tgt := 12) hx hb dX11_push_6 (by decide) (fun k_3 => absurd k_3 (by decide)) (fun k_3 => ?_)
  refine lv_bipush (v := (-2)) hx hb dX11_push_9 (by decide) ?_
  exact xri E hr hlk hQ (⟨rfl, rfl⟩) dX11_push_11
set_option maxHeartbeats 4000000 in
set_option maxRecDepth 100000 in
theorem fX11_way (l : Launch) (g : GG) (ad : Nat → Nat) (hD : Dj ad 122) (S : SS) (hX : ∀ i, i < 122 → S i = X0 g ad i) (a1 : Int32) (a2 : Int32) (a3 : Int32) : Met l yX11_way (wG (.code yX11_way cX11_way 5 (some .int))) (Rm 2) (XPre g ad 122 S [.ref (ad 0), .int a1, .int a2, .int a3]) (va_Qi (fun r S' => S = S' ∧ r = (-2)) (QB g ad 122) (FA ad 122)) 0 0 (FA ad 122) := by
  refine xmet cX11_way "EbbWreck" (by decide) rfl (Nat.le_of_ble_eq_true rfl) (fun p e s m below meth c E hr hlk hml hQ ls hl => ?_)
  have hx := E.1
  have hb := E.2.1
  have hs : Sp ad 122 (FA ad 122) := Sp.fa hD
  have hl : lv_has ls 5 [(0, .ref (ad 0)), (1, .int a1), (2, .int a2), (3, .int a3)] := hl
  refine lv_aload_n hx hb dX11_way_0 rfl (lv_at hl 0 rfl) ?_
  refine lv_iload_n hx hb dX11_way_1 rfl (lv_at hl 1 rfl) ?_
  refine lv_iload_n hx hb dX11_way_2 rfl (lv_at hl 2 rfl) ?_
  have c_1 : S 0 = .inr (11, [.ref (ad 1), .int 0, .int 0, .int (-1), .ref (ad 2), .ref (ad 20), .ref (ad 38), .ref (ad 93), .ref (ad 94), .ref (ad 95), .ref (ad 102), .ref (ad 104), .ref (ad 107), .ref (ad 111), .ref (ad 119)]) := (hX 0 (by decide))
  refine xcVi E hs hQ hml hl.1 0 (fX11_isWish l g ad hD S hX a1 a2) mX11_isWish q1044 (by decide) c_1 rfl rfl ⟨by decide, by decide⟩ ⟨by decide, by decide⟩ (by decide) rfl dX11_way_3 (fun r2 S2 H locs hp2 hQ _ => ?_)
  obtain ⟨rfl, rfl⟩ := hp2
  refine lv_if_ne (tgt := 12) hx hb dX11_way_6 (by decide) (fun k_3 => absurd k_3 (by decide)) (fun k_3 => ?_)
  refine lv_bipush (v := (-2)) hx hb dX11_way_9 (by decide) ?_
  exact xri E hr hlk hQ (⟨rfl, rfl⟩) dX11_way_11
set_option maxHeartbeats 4000000 in
set_option maxRecDepth 100000 in
theorem fX11_soonest (l : Launch) (g : GG) (ad : Nat → Nat) (hD : Dj ad 122) (S : SS) (hX : ∀ i, i < 122 → S i = X0 g ad i) (a1 : Int32) (a2 : Int32) : Met l yX11_soonest (wG (.code yX11_soonest cX11_soonest 3 (some .int))) (Rm 2) (XPre g ad 122 S [.ref (ad 0), .int a1, .int a2]) (va_Qi (fun r S' => S = S' ∧ r = (-2)) (QB g ad 122) (FA ad 122)) 0 0 (FA ad 122) := by
  refine xmet cX11_soonest "EbbWreck" (by decide) rfl (Nat.le_of_ble_eq_true rfl) (fun p e s m below meth c E hr hlk hml hQ ls hl => ?_)
  have hx := E.1
  have hb := E.2.1
  have hs : Sp ad 122 (FA ad 122) := Sp.fa hD
  have hl : lv_has ls 3 [(0, .ref (ad 0)), (1, .int a1), (2, .int a2)] := hl
  refine lv_aload_n hx hb dX11_soonest_0 rfl (lv_at hl 0 rfl) ?_
  refine lv_iload_n hx hb dX11_soonest_1 rfl (lv_at hl 1 rfl) ?_
  refine lv_iload_n hx hb dX11_soonest_2 rfl (lv_at hl 2 rfl) ?_
  have c_1 : S 0 = .inr (11, [.ref (ad 1), .int 0, .int 0, .int (-1), .ref (ad 2), .ref (ad 20), .ref (ad 38), .ref (ad 93), .ref (ad 94), .ref (ad 95), .ref (ad 102), .ref (ad 104), .ref (ad 107), .ref (ad 111), .ref (ad 119)]) := (hX 0 (by decide))
  refine xcVi E hs hQ hml hl.1 0 (fX11_isWish l g ad hD S hX a1 a2) mX11_isWish q1044 (by decide) c_1 rfl rfl ⟨by decide, by decide⟩ ⟨by decide, by decide⟩ (by decide) rfl dX11_soonest_3 (fun r2 S2 H locs hp2 hQ _ => ?_)
  obtain ⟨rfl, rfl⟩ := hp2
  refine lv_if_eq (tgt := 21) hx hb dX11_soonest_6 (by decide) (fun k_3 => ?_) (fun k_3 => absurd k_3 (by decide))
  refine lv_bipush (v := (-2)) hx hb dX11_soonest_21 (by decide) ?_
  exact xri E hr hlk hQ (⟨rfl, rfl⟩) dX11_soonest_23
set_option maxHeartbeats 4000000 in
set_option maxRecDepth 100000 in
theorem fX11_ward (l : Launch) (g : GG) (ad : Nat → Nat) (hD : Dj ad 122) (S : SS) (hX : ∀ i, i < 122 → S i = X0 g ad i) (a1 : Int32) (a2 : Int32) : Met l yX11_ward (wG (.code yX11_ward cX11_ward 3 (some .int))) (Rm 2) (XPre g ad 122 S [.ref (ad 0), .int a1, .int a2]) (va_Qi (fun r S' => S = S' ∧ r = (-2)) (QB g ad 122) (FA ad 122)) 0 0 (FA ad 122) := by
  refine xmet cX11_ward "EbbWreck" (by decide) rfl (Nat.le_of_ble_eq_true rfl) (fun p e s m below meth c E hr hlk hml hQ ls hl => ?_)
  have hx := E.1
  have hb := E.2.1
  have hs : Sp ad 122 (FA ad 122) := Sp.fa hD
  have hl : lv_has ls 3 [(0, .ref (ad 0)), (1, .int a1), (2, .int a2)] := hl
  refine lv_aload_n hx hb dX11_ward_0 rfl (lv_at hl 0 rfl) ?_
  refine lv_iload_n hx hb dX11_ward_1 rfl (lv_at hl 1 rfl) ?_
  refine lv_iload_n hx hb dX11_ward_2 rfl (lv_at hl 2 rfl) ?_
  have c_1 : S 0 = .inr (11, [.ref (ad 1), .int 0, .int 0, .int (-1), .ref (ad 2), .ref (ad 20), .ref (ad 38), .ref (ad 93), .ref (ad 94), .ref (ad 95), .ref (ad 102), .ref (ad 104), .ref (ad 107), .ref (ad 111), .ref (ad 119)]) := (hX 0 (by decide))
  refine xcVi E hs hQ hml hl.1 0 (fX11_isWish l g ad hD S hX a1 a2) mX11_isWish q1044 (by decide) c_1 rfl rfl ⟨by decide, by decide⟩ ⟨by decide, by decide⟩ (by decide) rfl dX11_ward_3 (fun r2 S2 H locs hp2 hQ _ => ?_)
  obtain ⟨rfl, rfl⟩ := hp2
  refine lv_if_eq (tgt := 22) hx hb dX11_ward_6 (by decide) (fun k_3 => ?_) (fun k_3 => absurd k_3 (by decide))
  refine lv_bipush (v := (-2)) hx hb dX11_ward_22 (by decide) ?_
  exact xri E hr hlk hQ (⟨rfl, rfl⟩) dX11_ward_24
set_option maxHeartbeats 4000000 in
set_option maxRecDepth 100000 in
theorem fX11_all (l : Launch) (g : GG) (ad : Nat → Nat) (hD : Dj ad 122) (S : SS) (hX : ∀ i, i < 122 → S i = X0 g ad i) (a1 : Int32) : Met l yX11_all (wG (.code yX11_all cX11_all 2 (some .int))) (Rm 2) (XPre g ad 122 S [.ref (ad 0), .int a1]) (va_Qi (fun r S' => S = S' ∧ r = (-2)) (QB g ad 122) (FA ad 122)) 0 0 (FA ad 122) := by
  refine xmet cX11_all "EbbWreck" (by decide) rfl (Nat.le_of_ble_eq_true rfl) (fun p e s m below meth c E hr hlk hml hQ ls hl => ?_)
  have hx := E.1
  have hb := E.2.1
  have hs : Sp ad 122 (FA ad 122) := Sp.fa hD
  have hl : lv_has ls 2 [(0, .ref (ad 0)), (1, .int a1)] := hl
  refine lv_aload_n hx hb dX11_all_0 rfl (lv_at hl 0 rfl) ?_
  refine lv_iload_n hx hb dX11_all_1 rfl (lv_at hl 1 rfl) ?_
  have c_1 : S 0 = .inr (11, [.ref (ad 1), .int 0, .int 0, .int (-1), .ref (ad 2), .ref (ad 20), .ref (ad 38), .ref (ad 93), .ref (ad 94), .ref (ad 95), .ref (ad 102), .ref (ad 104), .ref (ad 107), .ref (ad 111), .ref (ad 119)]) := (hX 0 (by decide))
  refine xcVi E hs hQ hml hl.1 0 (fX11_isAskedParty l g ad hD S hX a1) mX11_isAskedParty q963 (by decide) c_1 rfl rfl ⟨by decide, by decide⟩ ⟨by decide, by decide⟩ (by decide) rfl dX11_all_2 (fun r2 S2 H locs hp2 hQ _ => ?_)
  obtain ⟨rfl, rfl⟩ := hp2
  refine lv_if_eq (tgt := 19) hx hb dX11_all_5 (by decide) (fun k_3 => ?_) (fun k_3 => absurd k_3 (by decide))
  refine lv_bipush (v := (-2)) hx hb dX11_all_19 (by decide) ?_
  exact xri E hr hlk hQ (⟨rfl, rfl⟩) dX11_all_21
set_option maxHeartbeats 4000000 in
set_option maxRecDepth 100000 in
theorem fX11_eddy (l : Launch) (g : GG) (ad : Nat → Nat) (hD : Dj ad 122) (S : SS) (hX : ∀ i, i < 122 → S i = X0 g ad i) (a1 : Int32) : Met l yX11_eddy (wG (.code yX11_eddy cX11_eddy 2 (some .int))) (Rm 1) (XPre g ad 122 S [.ref (ad 0), .int a1]) (va_Qi (fun r S' => S = S' ∧ r = (-2)) (QB g ad 122) (FA ad 122)) 0 0 (FA ad 122) := by
  refine xmet cX11_eddy "EbbWreck" (by decide) rfl (Nat.le_of_ble_eq_true rfl) (fun p e s m below meth c E hr hlk hml hQ ls hl => ?_)
  have hx := E.1
  have hb := E.2.1
  have hs : Sp ad 122 (FA ad 122) := Sp.fa hD
  have hl : lv_has ls 2 [(0, .ref (ad 0)), (1, .int a1)] := hl
  refine lv_aload_n hx hb dX11_eddy_0 rfl (lv_at hl 0 rfl) ?_
  have c_1 : S 0 = .inr (11, [.ref (ad 1), .int 0, .int 0, .int (-1), .ref (ad 2), .ref (ad 20), .ref (ad 38), .ref (ad 93), .ref (ad 94), .ref (ad 95), .ref (ad 102), .ref (ad 104), .ref (ad 107), .ref (ad 111), .ref (ad 119)]) := (hX 0 (by decide))
  refine xget E hQ 0 (by decide) c_1 rfl 4 (by decide) q520 rfl dX11_eddy_1 ?_
  refine lv_iload_n hx hb dX11_eddy_4 rfl (lv_at hl 1 rfl) ?_
  have c_2 : S 2 = .inr (1, [.int 0, .int 0, .int 0, .ref (ad 3), .ref (ad 5), .ref (ad 6), .int 0, .int 0, .ref (ad 7), .ref (ad 8), .ref (ad 9), .ref (ad 10), .int 0, .ref (ad 15), .ref (ad 16)]) := (hX 2 (by decide))
  refine xcVi E hs hQ hml hl.1 2 (fX1_hasCell l g ad hD S hX a1) mX1_hasCell q823 (by decide) c_2 rfl rfl ⟨by decide, by decide⟩ ⟨by decide, by decide⟩ (by decide) rfl dX11_eddy_5 (fun r3 S3 H locs hp3 hQ _ => ?_)
  obtain ⟨rfl, rfl⟩ := hp3
  refine lv_if_eq (tgt := 22) hx hb dX11_eddy_8 (by decide) (fun k_4 => ?_) (fun k_4 => absurd k_4 (by decide))
  refine lv_bipush (v := (-2)) hx hb dX11_eddy_22 (by decide) ?_
  exact xri E hr hlk hQ (⟨rfl, rfl⟩) dX11_eddy_24
set_option maxHeartbeats 4000000 in
set_option maxRecDepth 100000 in
theorem fX11_stuck (l : Launch) (g : GG) (ad : Nat → Nat) (hD : Dj ad 122) (S : SS) (hX : ∀ i, i < 122 → S i = X0 g ad i) : Met l yX11_stuck (wG (.code yX11_stuck cX11_stuck 1 (some .int))) (Rm 1) (XPre g ad 122 S [.ref (ad 0)]) (va_Qi (fun r S' => S = S' ∧ r = (-2)) (QB g ad 122) (FA ad 122)) 0 0 (FA ad 122) := by
  refine xmet cX11_stuck "EbbWreck" (by decide) rfl (Nat.le_of_ble_eq_true rfl) (fun p e s m below meth c E hr hlk hml hQ ls hl => ?_)
  have hx := E.1
  have hb := E.2.1
  have hs : Sp ad 122 (FA ad 122) := Sp.fa hD
  have hl : lv_has ls 1 [(0, .ref (ad 0))] := hl
  refine lv_aload_n hx hb dX11_stuck_0 rfl (lv_at hl 0 rfl) ?_
  have c_1 : S 0 = .inr (11, [.ref (ad 1), .int 0, .int 0, .int (-1), .ref (ad 2), .ref (ad 20), .ref (ad 38), .ref (ad 93), .ref (ad 94), .ref (ad 95), .ref (ad 102), .ref (ad 104), .ref (ad 107), .ref (ad 111), .ref (ad 119)]) := (hX 0 (by decide))
  refine xget E hQ 0 (by decide) c_1 rfl 4 (by decide) q520 rfl dX11_stuck_1 ?_
  have c_2 : S 2 = .inr (1, [.int 0, .int 0, .int 0, .ref (ad 3), .ref (ad 5), .ref (ad 6), .int 0, .int 0, .ref (ad 7), .ref (ad 8), .ref (ad 9), .ref (ad 10), .int 0, .ref (ad 15), .ref (ad 16)]) := (hX 2 (by decide))
  refine xcVi E hs hQ hml hl.1 2 (fX1_isTold l g ad hD S hX ) mX1_isTold q878 (by decide) c_2 rfl rfl ⟨by decide, by decide⟩ ⟨by decide, by decide⟩ (by decide) rfl dX11_stuck_4 (fun r3 S3 H locs hp3 hQ _ => ?_)
  obtain ⟨rfl, rfl⟩ := hp3
  refine lv_if_eq (tgt := 20) hx hb dX11_stuck_7 (by decide) (fun k_4 => ?_) (fun k_4 => absurd k_4 (by decide))
  refine lv_bipush (v := (-2)) hx hb dX11_stuck_20 (by decide) ?_
  exact xri E hr hlk hQ (⟨rfl, rfl⟩) dX11_stuck_22
set_option maxHeartbeats 4000000 in
set_option maxRecDepth 100000 in
theorem fX11_drop (l : Launch) (g : GG) (ad : Nat → Nat) (hD : Dj ad 122) (S : SS) (hX : ∀ i, i < 122 → S i = X0 g ad i) (a1 : Int32) (a2 : Int32) : Met l yX11_drop (wG (.code yX11_drop cX11_drop 3 (some .int))) (Rm 2) (XPre g ad 122 S [.ref (ad 0), .int a1, .int a2]) (va_Qi (fun r S' => S = S' ∧ r = (-2)) (QB g ad 122) (FA ad 122)) 0 0 (FA ad 122) := by
  refine xmet cX11_drop "EbbWreck" (by decide) rfl (Nat.le_of_ble_eq_true rfl) (fun p e s m below meth c E hr hlk hml hQ ls hl => ?_)
  have hx := E.1
  have hb := E.2.1
  have hs : Sp ad 122 (FA ad 122) := Sp.fa hD
  have hl : lv_has ls 3 [(0, .ref (ad 0)), (1, .int a1), (2, .int a2)] := hl
  refine lv_aload_n hx hb dX11_drop_0 rfl (lv_at hl 0 rfl) ?_
  refine lv_iload_n hx hb dX11_drop_1 rfl (lv_at hl 1 rfl) ?_
  have c_1 : S 0 = .inr (11, [.ref (ad 1), .int 0, .int 0, .int (-1), .ref (ad 2), .ref (ad 20), .ref (ad 38), .ref (ad 93), .ref (ad 94), .ref (ad 95), .ref (ad 102), .ref (ad 104), .ref (ad 107), .ref (ad 111), .ref (ad 119)]) := (hX 0 (by decide))
  refine xcVi E hs hQ hml hl.1 0 (fX11_isAskedParty l g ad hD S hX a1) mX11_isAskedParty q963 (by decide) c_1 rfl rfl ⟨by decide, by decide⟩ ⟨by decide, by decide⟩ (by decide) rfl dX11_drop_2 (fun r2 S2 H locs hp2 hQ _ => ?_)
  obtain ⟨rfl, rfl⟩ := hp2
  refine lv_if_eq (tgt := 17) hx hb dX11_drop_5 (by decide) (fun k_3 => ?_) (fun k_3 => absurd k_3 (by decide))
  refine lv_bipush (v := (-2)) hx hb dX11_drop_17 (by decide) ?_
  exact xri E hr hlk hQ (⟨rfl, rfl⟩) dX11_drop_19
set_option maxHeartbeats 4000000 in
set_option maxRecDepth 100000 in
theorem fX11_drops (l : Launch) (g : GG) (ad : Nat → Nat) (hD : Dj ad 122) (S : SS) (hX : ∀ i, i < 122 → S i = X0 g ad i) (a1 : Int32) : Met l yX11_drops (wG (.code yX11_drops cX11_drops 2 (some .int))) (Rm 2) (XPre g ad 122 S [.ref (ad 0), .int a1]) (va_Qi (fun r S' => S = S' ∧ r = (-2)) (QB g ad 122) (FA ad 122)) 0 0 (FA ad 122) := by
  refine xmet cX11_drops "EbbWreck" (by decide) rfl (Nat.le_of_ble_eq_true rfl) (fun p e s m below meth c E hr hlk hml hQ ls hl => ?_)
  have hx := E.1
  have hb := E.2.1
  have hs : Sp ad 122 (FA ad 122) := Sp.fa hD
  have hl : lv_has ls 2 [(0, .ref (ad 0)), (1, .int a1)] := hl
  refine lv_aload_n hx hb dX11_drops_0 rfl (lv_at hl 0 rfl) ?_
  refine lv_iload_n hx hb dX11_drops_1 rfl (lv_at hl 1 rfl) ?_
  have c_1 : S 0 = .inr (11, [.ref (ad 1), .int 0, .int 0, .int (-1), .ref (ad 2), .ref (ad 20), .ref (ad 38), .ref (ad 93), .ref (ad 94), .ref (ad 95), .ref (ad 102), .ref (ad 104), .ref (ad 107), .ref (ad 111), .ref (ad 119)]) := (hX 0 (by decide))
  refine xcVi E hs hQ hml hl.1 0 (fX11_isAskedParty l g ad hD S hX a1) mX11_isAskedParty q963 (by decide) c_1 rfl rfl ⟨by decide, by decide⟩ ⟨by decide, by decide⟩ (by decide) rfl dX11_drops_2 (fun r2 S2 H locs hp2 hQ _ => ?_)
  obtain ⟨rfl, rfl⟩ := hp2
  refine lv_if_eq (tgt := 19) hx hb dX11_drops_5 (by decide) (fun k_3 => ?_) (fun k_3 => absurd k_3 (by decide))
  refine lv_bipush (v := (-2)) hx hb dX11_drops_19 (by decide) ?_
  exact xri E hr hlk hQ (⟨rfl, rfl⟩) dX11_drops_21
set_option maxHeartbeats 4000000 in
set_option maxRecDepth 100000 in
theorem fX11_origins (l : Launch) (g : GG) (ad : Nat → Nat) (hD : Dj ad 122) (S : SS) (hX : ∀ i, i < 122 → S i = X0 g ad i) (a1 : Int32) (a2 : Int32) (a3 : Int32) : Met l yX11_origins (wG (.code yX11_origins cX11_origins 4 (some .int))) (Rm 1) (XPre g ad 122 S [.ref (ad 0), .int a1, .int a2, .int a3]) (va_Qi (fun r S' => S = S' ∧ r = (-2)) (QB g ad 122) (FA ad 122)) 0 0 (FA ad 122) := by
  refine xmet cX11_origins "EbbWreck" (by decide) rfl (Nat.le_of_ble_eq_true rfl) (fun p e s m below meth c E hr hlk hml hQ ls hl => ?_)
  have hx := E.1
  have hb := E.2.1
  have hs : Sp ad 122 (FA ad 122) := Sp.fa hD
  have hl : lv_has ls 4 [(0, .ref (ad 0)), (1, .int a1), (2, .int a2), (3, .int a3)] := hl
  refine lv_aload_n hx hb dX11_origins_0 rfl (lv_at hl 0 rfl) ?_
  have c_1 : S 0 = .inr (11, [.ref (ad 1), .int 0, .int 0, .int (-1), .ref (ad 2), .ref (ad 20), .ref (ad 38), .ref (ad 93), .ref (ad 94), .ref (ad 95), .ref (ad 102), .ref (ad 104), .ref (ad 107), .ref (ad 111), .ref (ad 119)]) := (hX 0 (by decide))
  refine xget E hQ 0 (by decide) c_1 rfl 4 (by decide) q520 rfl dX11_origins_1 ?_
  refine lv_iload_n hx hb dX11_origins_4 rfl (lv_at hl 3 rfl) ?_
  have c_2 : S 2 = .inr (1, [.int 0, .int 0, .int 0, .ref (ad 3), .ref (ad 5), .ref (ad 6), .int 0, .int 0, .ref (ad 7), .ref (ad 8), .ref (ad 9), .ref (ad 10), .int 0, .ref (ad 15), .ref (ad 16)]) := (hX 2 (by decide))
  refine xcVi E hs hQ hml hl.1 2 (fX1_hasCell l g ad hD S hX a3) mX1_hasCell q823 (by decide) c_2 rfl rfl ⟨by decide, by decide⟩ ⟨by decide, by decide⟩ (by decide) rfl dX11_origins_5 (fun r3 S3 H locs hp3 hQ _ => ?_)
  obtain ⟨rfl, rfl⟩ := hp3
  refine lv_if_eq (tgt := 29) hx hb dX11_origins_8 (by decide) (fun k_4 => ?_) (fun k_4 => absurd k_4 (by decide))
  refine lv_bipush (v := (-2)) hx hb dX11_origins_29 (by decide) ?_
  exact xri E hr hlk hQ (⟨rfl, rfl⟩) dX11_origins_31
set_option maxHeartbeats 4000000 in
set_option maxRecDepth 100000 in
theorem fX11_when (l : Launch) (g : GG) (ad : Nat → Nat) (hD : Dj ad 122) (S : SS) (hX : ∀ i, i < 122 → S i = X0 g ad i) (a1 : Int32) (a2 : Int32) (a3 : Int32) : Met l yX11_when (wG (.code yX11_when cX11_when 4 (some .int))) (Rm 1) (XPre g ad 122 S [.ref (ad 0), .int a1, .int a2, .int a3]) (va_Qi (fun r S' => S = S' ∧ r = (-2)) (QB g ad 122) (FA ad 122)) 0 0 (FA ad 122) := by
  refine xmet cX11_when "EbbWreck" (by decide) rfl (Nat.le_of_ble_eq_true rfl) (fun p e s m below meth c E hr hlk hml hQ ls hl => ?_)
  have hx := E.1
  have hb := E.2.1
  have hs : Sp ad 122 (FA ad 122) := Sp.fa hD
  have hl : lv_has ls 4 [(0, .ref (ad 0)), (1, .int a1), (2, .int a2), (3, .int a3)] := hl
  refine lv_aload_n hx hb dX11_when_0 rfl (lv_at hl 0 rfl) ?_
  have c_1 : S 0 = .inr (11, [.ref (ad 1), .int 0, .int 0, .int (-1), .ref (ad 2), .ref (ad 20), .ref (ad 38), .ref (ad 93), .ref (ad 94), .ref (ad 95), .ref (ad 102), .ref (ad 104), .ref (ad 107), .ref (ad 111), .ref (ad 119)]) := (hX 0 (by decide))
  refine xget E hQ 0 (by decide) c_1 rfl 4 (by decide) q520 rfl dX11_when_1 ?_
  refine lv_iload_n hx hb dX11_when_4 rfl (lv_at hl 1 rfl) ?_
  have c_2 : S 2 = .inr (1, [.int 0, .int 0, .int 0, .ref (ad 3), .ref (ad 5), .ref (ad 6), .int 0, .int 0, .ref (ad 7), .ref (ad 8), .ref (ad 9), .ref (ad 10), .int 0, .ref (ad 15), .ref (ad 16)]) := (hX 2 (by decide))
  refine xcVi E hs hQ hml hl.1 2 (fX1_hasCell l g ad hD S hX a1) mX1_hasCell q823 (by decide) c_2 rfl rfl ⟨by decide, by decide⟩ ⟨by decide, by decide⟩ (by decide) rfl dX11_when_5 (fun r3 S3 H locs hp3 hQ _ => ?_)
  obtain ⟨rfl, rfl⟩ := hp3
  refine lv_if_eq (tgt := 32) hx hb dX11_when_8 (by decide) (fun k_4 => ?_) (fun k_4 => absurd k_4 (by decide))
  refine lv_bipush (v := (-2)) hx hb dX11_when_32 (by decide) ?_
  exact xri E hr hlk hQ (⟨rfl, rfl⟩) dX11_when_34
set_option maxHeartbeats 4000000 in
set_option maxRecDepth 100000 in
theorem fX11_share (l : Launch) (g : GG) (ad : Nat → Nat) (hD : Dj ad 122) (S : SS) (hX : ∀ i, i < 122 → S i = X0 g ad i) (a1 : Int32) : Met l yX11_share (wG (.code yX11_share cX11_share 2 (some .int))) (Rm 1) (XPre g ad 122 S [.ref (ad 0), .int a1]) (va_Qi (fun r S' => S = S' ∧ r = (-2)) (QB g ad 122) (FA ad 122)) 0 0 (FA ad 122) := by
  refine xmet cX11_share "EbbWreck" (by decide) rfl (Nat.le_of_ble_eq_true rfl) (fun p e s m below meth c E hr hlk hml hQ ls hl => ?_)
  have hx := E.1
  have hb := E.2.1
  have hs : Sp ad 122 (FA ad 122) := Sp.fa hD
  have hl : lv_has ls 2 [(0, .ref (ad 0)), (1, .int a1)] := hl
  refine lv_aload_n hx hb dX11_share_0 rfl (lv_at hl 0 rfl) ?_
  have c_1 : S 0 = .inr (11, [.ref (ad 1), .int 0, .int 0, .int (-1), .ref (ad 2), .ref (ad 20), .ref (ad 38), .ref (ad 93), .ref (ad 94), .ref (ad 95), .ref (ad 102), .ref (ad 104), .ref (ad 107), .ref (ad 111), .ref (ad 119)]) := (hX 0 (by decide))
  refine xget E hQ 0 (by decide) c_1 rfl 4 (by decide) q520 rfl dX11_share_1 ?_
  refine lv_iload_n hx hb dX11_share_4 rfl (lv_at hl 1 rfl) ?_
  have c_2 : S 2 = .inr (1, [.int 0, .int 0, .int 0, .ref (ad 3), .ref (ad 5), .ref (ad 6), .int 0, .int 0, .ref (ad 7), .ref (ad 8), .ref (ad 9), .ref (ad 10), .int 0, .ref (ad 15), .ref (ad 16)]) := (hX 2 (by decide))
  refine xcVi E hs hQ hml hl.1 2 (fX1_hasSitter l g ad hD S hX a1) mX1_hasSitter q848 (by decide) c_2 rfl rfl ⟨by decide, by decide⟩ ⟨by decide, by decide⟩ (by decide) rfl dX11_share_5 (fun r3 S3 H locs hp3 hQ _ => ?_)
  obtain ⟨rfl, rfl⟩ := hp3
  refine lv_if_ne (tgt := 14) hx hb dX11_share_8 (by decide) (fun k_4 => absurd k_4 (by decide)) (fun k_4 => ?_)
  refine lv_bipush (v := (-2)) hx hb dX11_share_11 (by decide) ?_
  exact xri E hr hlk hQ (⟨rfl, rfl⟩) dX11_share_13
set_option maxHeartbeats 4000000 in
set_option maxRecDepth 100000 in
theorem fX11_seat (l : Launch) (g : GG) (ad : Nat → Nat) (hD : Dj ad 122) (S : SS) (hX : ∀ i, i < 122 → S i = X0 g ad i) (a1 : Int32) (a2 : Int32) : Met l yX11_seat (wG (.code yX11_seat cX11_seat 3 (some .int))) (Rm 1) (XPre g ad 122 S [.ref (ad 0), .int a1, .int a2]) (va_Qi (fun r S' => S = S' ∧ r = (-2)) (QB g ad 122) (FA ad 122)) 0 0 (FA ad 122) := by
  refine xmet cX11_seat "EbbWreck" (by decide) rfl (Nat.le_of_ble_eq_true rfl) (fun p e s m below meth c E hr hlk hml hQ ls hl => ?_)
  have hx := E.1
  have hb := E.2.1
  have hs : Sp ad 122 (FA ad 122) := Sp.fa hD
  have hl : lv_has ls 3 [(0, .ref (ad 0)), (1, .int a1), (2, .int a2)] := hl
  refine lv_aload_n hx hb dX11_seat_0 rfl (lv_at hl 0 rfl) ?_
  have c_1 : S 0 = .inr (11, [.ref (ad 1), .int 0, .int 0, .int (-1), .ref (ad 2), .ref (ad 20), .ref (ad 38), .ref (ad 93), .ref (ad 94), .ref (ad 95), .ref (ad 102), .ref (ad 104), .ref (ad 107), .ref (ad 111), .ref (ad 119)]) := (hX 0 (by decide))
  refine xget E hQ 0 (by decide) c_1 rfl 4 (by decide) q520 rfl dX11_seat_1 ?_
  refine lv_iload_n hx hb dX11_seat_4 rfl (lv_at hl 1 rfl) ?_
  have c_2 : S 2 = .inr (1, [.int 0, .int 0, .int 0, .ref (ad 3), .ref (ad 5), .ref (ad 6), .int 0, .int 0, .ref (ad 7), .ref (ad 8), .ref (ad 9), .ref (ad 10), .int 0, .ref (ad 15), .ref (ad 16)]) := (hX 2 (by decide))
  refine xcVi E hs hQ hml hl.1 2 (fX1_hasSitter l g ad hD S hX a1) mX1_hasSitter q848 (by decide) c_2 rfl rfl ⟨by decide, by decide⟩ ⟨by decide, by decide⟩ (by decide) rfl dX11_seat_5 (fun r3 S3 H locs hp3 hQ _ => ?_)
  obtain ⟨rfl, rfl⟩ := hp3
  refine lv_if_eq (tgt := 22) hx hb dX11_seat_8 (by decide) (fun k_4 => ?_) (fun k_4 => absurd k_4 (by decide))
  refine lv_bipush (v := (-2)) hx hb dX11_seat_22 (by decide) ?_
  exact xri E hr hlk hQ (⟨rfl, rfl⟩) dX11_seat_24
set_option maxHeartbeats 4000000 in
set_option maxRecDepth 100000 in
theorem fX11_seats (l : Launch) (g : GG) (ad : Nat → Nat) (hD : Dj ad 122) (S : SS) (hX : ∀ i, i < 122 → S i = X0 g ad i) (a1 : Int32) : Met l yX11_seats (wG (.code yX11_seats cX11_seats 2 (some .int))) (Rm 1) (XPre g ad 122 S [.ref (ad 0), .int a1]) (va_Qi (fun r S' => S = S' ∧ r = (-2)) (QB g ad 122) (FA ad 122)) 0 0 (FA ad 122) := by
  refine xmet cX11_seats "EbbWreck" (by decide) rfl (Nat.le_of_ble_eq_true rfl) (fun p e s m below meth c E hr hlk hml hQ ls hl => ?_)
  have hx := E.1
  have hb := E.2.1
  have hs : Sp ad 122 (FA ad 122) := Sp.fa hD
  have hl : lv_has ls 2 [(0, .ref (ad 0)), (1, .int a1)] := hl
  refine lv_aload_n hx hb dX11_seats_0 rfl (lv_at hl 0 rfl) ?_
  have c_1 : S 0 = .inr (11, [.ref (ad 1), .int 0, .int 0, .int (-1), .ref (ad 2), .ref (ad 20), .ref (ad 38), .ref (ad 93), .ref (ad 94), .ref (ad 95), .ref (ad 102), .ref (ad 104), .ref (ad 107), .ref (ad 111), .ref (ad 119)]) := (hX 0 (by decide))
  refine xget E hQ 0 (by decide) c_1 rfl 4 (by decide) q520 rfl dX11_seats_1 ?_
  refine lv_iload_n hx hb dX11_seats_4 rfl (lv_at hl 1 rfl) ?_
  have c_2 : S 2 = .inr (1, [.int 0, .int 0, .int 0, .ref (ad 3), .ref (ad 5), .ref (ad 6), .int 0, .int 0, .ref (ad 7), .ref (ad 8), .ref (ad 9), .ref (ad 10), .int 0, .ref (ad 15), .ref (ad 16)]) := (hX 2 (by decide))
  refine xcVi E hs hQ hml hl.1 2 (fX1_hasSitter l g ad hD S hX a1) mX1_hasSitter q848 (by decide) c_2 rfl rfl ⟨by decide, by decide⟩ ⟨by decide, by decide⟩ (by decide) rfl dX11_seats_5 (fun r3 S3 H locs hp3 hQ _ => ?_)
  obtain ⟨rfl, rfl⟩ := hp3
  refine lv_if_eq (tgt := 22) hx hb dX11_seats_8 (by decide) (fun k_4 => ?_) (fun k_4 => absurd k_4 (by decide))
  refine lv_bipush (v := (-2)) hx hb dX11_seats_22 (by decide) ?_
  exact xri E hr hlk hQ (⟨rfl, rfl⟩) dX11_seats_24
set_option maxHeartbeats 4000000 in
set_option maxRecDepth 100000 in
theorem fX11_rests (l : Launch) (g : GG) (ad : Nat → Nat) (hD : Dj ad 122) (S : SS) (hX : ∀ i, i < 122 → S i = X0 g ad i) : Met l yX11_rests (wG (.code yX11_rests cX11_rests 1 (some .int))) (Rm 1) (XPre g ad 122 S [.ref (ad 0)]) (va_Qi (fun r S' => S = S' ∧ r = (-2)) (QB g ad 122) (FA ad 122)) 0 0 (FA ad 122) := by
  refine xmet cX11_rests "EbbWreck" (by decide) rfl (Nat.le_of_ble_eq_true rfl) (fun p e s m below meth c E hr hlk hml hQ ls hl => ?_)
  have hx := E.1
  have hb := E.2.1
  have hs : Sp ad 122 (FA ad 122) := Sp.fa hD
  have hl : lv_has ls 1 [(0, .ref (ad 0))] := hl
  refine lv_aload_n hx hb dX11_rests_0 rfl (lv_at hl 0 rfl) ?_
  have c_1 : S 0 = .inr (11, [.ref (ad 1), .int 0, .int 0, .int (-1), .ref (ad 2), .ref (ad 20), .ref (ad 38), .ref (ad 93), .ref (ad 94), .ref (ad 95), .ref (ad 102), .ref (ad 104), .ref (ad 107), .ref (ad 111), .ref (ad 119)]) := (hX 0 (by decide))
  refine xget E hQ 0 (by decide) c_1 rfl 4 (by decide) q520 rfl dX11_rests_1 ?_
  have c_2 : S 2 = .inr (1, [.int 0, .int 0, .int 0, .ref (ad 3), .ref (ad 5), .ref (ad 6), .int 0, .int 0, .ref (ad 7), .ref (ad 8), .ref (ad 9), .ref (ad 10), .int 0, .ref (ad 15), .ref (ad 16)]) := (hX 2 (by decide))
  refine xcVi E hs hQ hml hl.1 2 (fX1_isTold l g ad hD S hX ) mX1_isTold q878 (by decide) c_2 rfl rfl ⟨by decide, by decide⟩ ⟨by decide, by decide⟩ (by decide) rfl dX11_rests_4 (fun r3 S3 H locs hp3 hQ _ => ?_)
  obtain ⟨rfl, rfl⟩ := hp3
  refine lv_if_eq (tgt := 20) hx hb dX11_rests_7 (by decide) (fun k_4 => ?_) (fun k_4 => absurd k_4 (by decide))
  refine lv_bipush (v := (-2)) hx hb dX11_rests_20 (by decide) ?_
  exact xri E hr hlk hQ (⟨rfl, rfl⟩) dX11_rests_22
set_option maxHeartbeats 4000000 in
set_option maxRecDepth 100000 in
theorem fX11_rest (l : Launch) (g : GG) (ad : Nat → Nat) (hD : Dj ad 122) (S : SS) (hX : ∀ i, i < 122 → S i = X0 g ad i) (a1 : Int32) : Met l yX11_rest (wG (.code yX11_rest cX11_rest 2 (some .int))) (Rm 1) (XPre g ad 122 S [.ref (ad 0), .int a1]) (va_Qi (fun r S' => S = S' ∧ r = (-2)) (QB g ad 122) (FA ad 122)) 0 0 (FA ad 122) := by
  refine xmet cX11_rest "EbbWreck" (by decide) rfl (Nat.le_of_ble_eq_true rfl) (fun p e s m below meth c E hr hlk hml hQ ls hl => ?_)
  have hx := E.1
  have hb := E.2.1
  have hs : Sp ad 122 (FA ad 122) := Sp.fa hD
  have hl : lv_has ls 2 [(0, .ref (ad 0)), (1, .int a1)] := hl
  refine lv_aload_n hx hb dX11_rest_0 rfl (lv_at hl 0 rfl) ?_
  have c_1 : S 0 = .inr (11, [.ref (ad 1), .int 0, .int 0, .int (-1), .ref (ad 2), .ref (ad 20), .ref (ad 38), .ref (ad 93), .ref (ad 94), .ref (ad 95), .ref (ad 102), .ref (ad 104), .ref (ad 107), .ref (ad 111), .ref (ad 119)]) := (hX 0 (by decide))
  refine xget E hQ 0 (by decide) c_1 rfl 4 (by decide) q520 rfl dX11_rest_1 ?_
  refine lv_iload_n hx hb dX11_rest_4 rfl (lv_at hl 1 rfl) ?_
  have c_2 : S 2 = .inr (1, [.int 0, .int 0, .int 0, .ref (ad 3), .ref (ad 5), .ref (ad 6), .int 0, .int 0, .ref (ad 7), .ref (ad 8), .ref (ad 9), .ref (ad 10), .int 0, .ref (ad 15), .ref (ad 16)]) := (hX 2 (by decide))
  refine xcVi E hs hQ hml hl.1 2 (fX1_hasSitter l g ad hD S hX a1) mX1_hasSitter q848 (by decide) c_2 rfl rfl ⟨by decide, by decide⟩ ⟨by decide, by decide⟩ (by decide) rfl dX11_rest_5 (fun r3 S3 H locs hp3 hQ _ => ?_)
  obtain ⟨rfl, rfl⟩ := hp3
  refine lv_if_eq (tgt := 22) hx hb dX11_rest_8 (by decide) (fun k_4 => ?_) (fun k_4 => absurd k_4 (by decide))
  refine lv_bipush (v := (-2)) hx hb dX11_rest_22 (by decide) ?_
  exact xri E hr hlk hQ (⟨rfl, rfl⟩) dX11_rest_24
set_option maxHeartbeats 4000000 in
set_option maxRecDepth 100000 in
theorem fX11_sit (l : Launch) (g : GG) (ad : Nat → Nat) (hD : Dj ad 122) (S : SS) (hX : ∀ i, i < 122 → S i = X0 g ad i) (a1 : Int32) (a2 : Int32) : Met l yX11_sit (wG (.code yX11_sit cX11_sit 4 (some .int))) (Rm 1) (XPre g ad 122 S [.ref (ad 0), .int a1, .int a2]) (va_Qi (fun r S' => S = S' ∧ r = (-2)) (QB g ad 122) (FA ad 122)) 0 0 (FA ad 122) := by
  refine xmet cX11_sit "EbbWreck" (by decide) rfl (Nat.le_of_ble_eq_true rfl) (fun p e s m below meth c E hr hlk hml hQ ls hl => ?_)
  have hx := E.1
  have hb := E.2.1
  have hs : Sp ad 122 (FA ad 122) := Sp.fa hD
  have hl : lv_has ls 4 [(0, .ref (ad 0)), (1, .int a1), (2, .int a2)] := hl
  refine lv_aload_n hx hb dX11_sit_0 rfl (lv_at hl 0 rfl) ?_
  have c_1 : S 0 = .inr (11, [.ref (ad 1), .int 0, .int 0, .int (-1), .ref (ad 2), .ref (ad 20), .ref (ad 38), .ref (ad 93), .ref (ad 94), .ref (ad 95), .ref (ad 102), .ref (ad 104), .ref (ad 107), .ref (ad 111), .ref (ad 119)]) := (hX 0 (by decide))
  refine xget E hQ 0 (by decide) c_1 rfl 4 (by decide) q520 rfl dX11_sit_1 ?_
  refine lv_iload_n hx hb dX11_sit_4 rfl (lv_at hl 1 rfl) ?_
  have c_2 : S 2 = .inr (1, [.int 0, .int 0, .int 0, .ref (ad 3), .ref (ad 5), .ref (ad 6), .int 0, .int 0, .ref (ad 7), .ref (ad 8), .ref (ad 9), .ref (ad 10), .int 0, .ref (ad 15), .ref (ad 16)]) := (hX 2 (by decide))
  refine xcVi E hs hQ hml hl.1 2 (fX1_hasSitter l g ad hD S hX a1) mX1_hasSitter q848 (by decide) c_2 rfl rfl ⟨by decide, by decide⟩ ⟨by decide, by decide⟩ (by decide) rfl dX11_sit_5 (fun r3 S3 H locs hp3 hQ _ => ?_)
  obtain ⟨rfl, rfl⟩ := hp3
  refine lv_if_eq (tgt := 22) hx hb dX11_sit_8 (by decide) (fun k_4 => ?_) (fun k_4 => absurd k_4 (by decide))
  refine lv_bipush (v := (-2)) hx hb dX11_sit_22 (by decide) ?_
  exact xri E hr hlk hQ (⟨rfl, rfl⟩) dX11_sit_24
set_option maxHeartbeats 4000000 in
set_option maxRecDepth 100000 in
theorem fX11_shove (l : Launch) (g : GG) (ad : Nat → Nat) (hD : Dj ad 122) (S : SS) (hX : ∀ i, i < 122 → S i = X0 g ad i) (a1 : Int32) (a2 : Int32) (a3 : Int32) : Met l yX11_shove (wG (.code yX11_shove cX11_shove 4 (some .int))) (Rm 1) (XPre g ad 122 S [.ref (ad 0), .int a1, .int a2, .int a3]) (va_Qi (fun r S' => S = S' ∧ r = (-2)) (QB g ad 122) (FA ad 122)) 0 0 (FA ad 122) := by
  refine xmet cX11_shove "EbbWreck" (by decide) rfl (Nat.le_of_ble_eq_true rfl) (fun p e s m below meth c E hr hlk hml hQ ls hl => ?_)
  have hx := E.1
  have hb := E.2.1
  have hs : Sp ad 122 (FA ad 122) := Sp.fa hD
  have hl : lv_has ls 4 [(0, .ref (ad 0)), (1, .int a1), (2, .int a2), (3, .int a3)] := hl
  refine lv_aload_n hx hb dX11_shove_0 rfl (lv_at hl 0 rfl) ?_
  have c_1 : S 0 = .inr (11, [.ref (ad 1), .int 0, .int 0, .int (-1), .ref (ad 2), .ref (ad 20), .ref (ad 38), .ref (ad 93), .ref (ad 94), .ref (ad 95), .ref (ad 102), .ref (ad 104), .ref (ad 107), .ref (ad 111), .ref (ad 119)]) := (hX 0 (by decide))
  refine xget E hQ 0 (by decide) c_1 rfl 4 (by decide) q520 rfl dX11_shove_1 ?_
  refine lv_iload_n hx hb dX11_shove_4 rfl (lv_at hl 1 rfl) ?_
  have c_2 : S 2 = .inr (1, [.int 0, .int 0, .int 0, .ref (ad 3), .ref (ad 5), .ref (ad 6), .int 0, .int 0, .ref (ad 7), .ref (ad 8), .ref (ad 9), .ref (ad 10), .int 0, .ref (ad 15), .ref (ad 16)]) := (hX 2 (by decide))
  refine xcVi E hs hQ hml hl.1 2 (fX1_hasThing l g ad hD S hX a1) mX1_hasThing q832 (by decide) c_2 rfl rfl ⟨by decide, by decide⟩ ⟨by decide, by decide⟩ (by decide) rfl dX11_shove_5 (fun r3 S3 H locs hp3 hQ _ => ?_)
  obtain ⟨rfl, rfl⟩ := hp3
  refine lv_if_eq (tgt := 29) hx hb dX11_shove_8 (by decide) (fun k_4 => ?_) (fun k_4 => absurd k_4 (by decide))
  refine lv_bipush (v := (-2)) hx hb dX11_shove_29 (by decide) ?_
  exact xri E hr hlk hQ (⟨rfl, rfl⟩) dX11_shove_31
set_option maxHeartbeats 4000000 in
set_option maxRecDepth 100000 in
theorem fX11_undo (l : Launch) (g : GG) (ad : Nat → Nat) (hD : Dj ad 122) (S : SS) (hX : ∀ i, i < 122 → S i = X0 g ad i) : Met l yX11_undo (wG (.code yX11_undo cX11_undo 2 (some .int))) (Rm 1) (XPre g ad 122 S [.ref (ad 0)]) (va_Qi (fun r S' => S = S' ∧ r = (-2)) (QB g ad 122) (FA ad 122)) 0 0 (FA ad 122) := by
  refine xmet cX11_undo "EbbWreck" (by decide) rfl (Nat.le_of_ble_eq_true rfl) (fun p e s m below meth c E hr hlk hml hQ ls hl => ?_)
  have hx := E.1
  have hb := E.2.1
  have hs : Sp ad 122 (FA ad 122) := Sp.fa hD
  have hl : lv_has ls 2 [(0, .ref (ad 0))] := hl
  refine lv_aload_n hx hb dX11_undo_0 rfl (lv_at hl 0 rfl) ?_
  have c_1 : S 0 = .inr (11, [.ref (ad 1), .int 0, .int 0, .int (-1), .ref (ad 2), .ref (ad 20), .ref (ad 38), .ref (ad 93), .ref (ad 94), .ref (ad 95), .ref (ad 102), .ref (ad 104), .ref (ad 107), .ref (ad 111), .ref (ad 119)]) := (hX 0 (by decide))
  refine xget E hQ 0 (by decide) c_1 rfl 4 (by decide) q520 rfl dX11_undo_1 ?_
  have c_2 : S 2 = .inr (1, [.int 0, .int 0, .int 0, .ref (ad 3), .ref (ad 5), .ref (ad 6), .int 0, .int 0, .ref (ad 7), .ref (ad 8), .ref (ad 9), .ref (ad 10), .int 0, .ref (ad 15), .ref (ad 16)]) := (hX 2 (by decide))
  refine xcVi E hs hQ hml hl.1 2 (fX1_isTold l g ad hD S hX ) mX1_isTold q878 (by decide) c_2 rfl rfl ⟨by decide, by decide⟩ ⟨by decide, by decide⟩ (by decide) rfl dX11_undo_4 (fun r3 S3 H locs hp3 hQ _ => ?_)
  obtain ⟨rfl, rfl⟩ := hp3
  refine lv_if_ne (tgt := 13) hx hb dX11_undo_7 (by decide) (fun k_4 => absurd k_4 (by decide)) (fun k_4 => ?_)
  refine lv_bipush (v := (-2)) hx hb dX11_undo_10 (by decide) ?_
  exact xri E hr hlk hQ (⟨rfl, rfl⟩) dX11_undo_12
set_option maxHeartbeats 4000000 in
set_option maxRecDepth 100000 in
theorem fX11_anew (l : Launch) (g : GG) (ad : Nat → Nat) (hD : Dj ad 122) (S : SS) (hX : ∀ i, i < 122 → S i = X0 g ad i) : Met l yX11_anew (wG (.code yX11_anew cX11_anew 3 (some .int))) (Rm 1) (XPre g ad 122 S [.ref (ad 0)]) (va_Qi (fun r S' => S = S' ∧ r = (-2)) (QB g ad 122) (FA ad 122)) 0 0 (FA ad 122) := by
  refine xmet cX11_anew "EbbWreck" (by decide) rfl (Nat.le_of_ble_eq_true rfl) (fun p e s m below meth c E hr hlk hml hQ ls hl => ?_)
  have hx := E.1
  have hb := E.2.1
  have hs : Sp ad 122 (FA ad 122) := Sp.fa hD
  have hl : lv_has ls 3 [(0, .ref (ad 0))] := hl
  refine lv_aload_n hx hb dX11_anew_0 rfl (lv_at hl 0 rfl) ?_
  have c_1 : S 0 = .inr (11, [.ref (ad 1), .int 0, .int 0, .int (-1), .ref (ad 2), .ref (ad 20), .ref (ad 38), .ref (ad 93), .ref (ad 94), .ref (ad 95), .ref (ad 102), .ref (ad 104), .ref (ad 107), .ref (ad 111), .ref (ad 119)]) := (hX 0 (by decide))
  refine xget E hQ 0 (by decide) c_1 rfl 4 (by decide) q520 rfl dX11_anew_1 ?_
  have c_2 : S 2 = .inr (1, [.int 0, .int 0, .int 0, .ref (ad 3), .ref (ad 5), .ref (ad 6), .int 0, .int 0, .ref (ad 7), .ref (ad 8), .ref (ad 9), .ref (ad 10), .int 0, .ref (ad 15), .ref (ad 16)]) := (hX 2 (by decide))
  refine xcVi E hs hQ hml hl.1 2 (fX1_isTold l g ad hD S hX ) mX1_isTold q878 (by decide) c_2 rfl rfl ⟨by decide, by decide⟩ ⟨by decide, by decide⟩ (by decide) rfl dX11_anew_4 (fun r3 S3 H locs hp3 hQ _ => ?_)
  obtain ⟨rfl, rfl⟩ := hp3
  refine lv_if_ne (tgt := 13) hx hb dX11_anew_7 (by decide) (fun k_4 => absurd k_4 (by decide)) (fun k_4 => ?_)
  refine lv_bipush (v := (-2)) hx hb dX11_anew_10 (by decide) ?_
  exact xri E hr hlk hQ (⟨rfl, rfl⟩) dX11_anew_12
set_option maxHeartbeats 4000000 in
set_option maxRecDepth 100000 in
theorem fX11_rate (l : Launch) (g : GG) (ad : Nat → Nat) (hD : Dj ad 122) (S : SS) (hX : ∀ i, i < 122 → S i = X0 g ad i) (a1 : Int32) (a2 : Int32) : Met l yX11_rate (wG (.code yX11_rate cX11_rate 4 (some .int))) (Rm 1) (XPre g ad 122 S [.ref (ad 0), .int a1, .int a2]) (va_Qi (fun r S' => S = S' ∧ r = (-2)) (QB g ad 122) (FA ad 122)) 0 0 (FA ad 122) := by
  refine xmet cX11_rate "EbbWreck" (by decide) rfl (Nat.le_of_ble_eq_true rfl) (fun p e s m below meth c E hr hlk hml hQ ls hl => ?_)
  have hx := E.1
  have hb := E.2.1
  have hs : Sp ad 122 (FA ad 122) := Sp.fa hD
  have hl : lv_has ls 4 [(0, .ref (ad 0)), (1, .int a1), (2, .int a2)] := hl
  refine lv_aload_n hx hb dX11_rate_0 rfl (lv_at hl 0 rfl) ?_
  have c_1 : S 0 = .inr (11, [.ref (ad 1), .int 0, .int 0, .int (-1), .ref (ad 2), .ref (ad 20), .ref (ad 38), .ref (ad 93), .ref (ad 94), .ref (ad 95), .ref (ad 102), .ref (ad 104), .ref (ad 107), .ref (ad 111), .ref (ad 119)]) := (hX 0 (by decide))
  refine xget E hQ 0 (by decide) c_1 rfl 4 (by decide) q520 rfl dX11_rate_1 ?_
  refine lv_iload_n hx hb dX11_rate_4 rfl (lv_at hl 1 rfl) ?_
  have c_2 : S 2 = .inr (1, [.int 0, .int 0, .int 0, .ref (ad 3), .ref (ad 5), .ref (ad 6), .int 0, .int 0, .ref (ad 7), .ref (ad 8), .ref (ad 9), .ref (ad 10), .int 0, .ref (ad 15), .ref (ad 16)]) := (hX 2 (by decide))
  refine xcVi E hs hQ hml hl.1 2 (fX1_hasThing l g ad hD S hX a1) mX1_hasThing q832 (by decide) c_2 rfl rfl ⟨by decide, by decide⟩ ⟨by decide, by decide⟩ (by decide) rfl dX11_rate_5 (fun r3 S3 H locs hp3 hQ _ => ?_)
  obtain ⟨rfl, rfl⟩ := hp3
  refine lv_if_eq (tgt := 21) hx hb dX11_rate_8 (by decide) (fun k_4 => ?_) (fun k_4 => absurd k_4 (by decide))
  refine lv_bipush (v := (-2)) hx hb dX11_rate_21 (by decide) ?_
  exact xri E hr hlk hQ (⟨rfl, rfl⟩) dX11_rate_23
set_option maxHeartbeats 4000000 in
set_option maxRecDepth 100000 in
theorem fX11_drawn (l : Launch) (g : GG) (ad : Nat → Nat) (hD : Dj ad 122) (S : SS) (hX : ∀ i, i < 122 → S i = X0 g ad i) (a1 : Int32) (a2 : Int32) (a3 : Int32) : Met l yX11_drawn (wG (.code yX11_drawn cX11_drawn 4 (some .int))) (Rm 2) (XPre g ad 122 S [.ref (ad 0), .int a1, .int a2, .int a3]) (va_Qi (fun r S' => S = S' ∧ r = (-2)) (QB g ad 122) (FA ad 122)) 0 0 (FA ad 122) := by
  refine xmet cX11_drawn "EbbWreck" (by decide) rfl (Nat.le_of_ble_eq_true rfl) (fun p e s m below meth c E hr hlk hml hQ ls hl => ?_)
  have hx := E.1
  have hb := E.2.1
  have hs : Sp ad 122 (FA ad 122) := Sp.fa hD
  have hl : lv_has ls 4 [(0, .ref (ad 0)), (1, .int a1), (2, .int a2), (3, .int a3)] := hl
  refine lv_aload_n hx hb dX11_drawn_0 rfl (lv_at hl 0 rfl) ?_
  refine lv_iload_n hx hb dX11_drawn_1 rfl (lv_at hl 1 rfl) ?_
  refine lv_iload_n hx hb dX11_drawn_2 rfl (lv_at hl 2 rfl) ?_
  have c_1 : S 0 = .inr (11, [.ref (ad 1), .int 0, .int 0, .int (-1), .ref (ad 2), .ref (ad 20), .ref (ad 38), .ref (ad 93), .ref (ad 94), .ref (ad 95), .ref (ad 102), .ref (ad 104), .ref (ad 107), .ref (ad 111), .ref (ad 119)]) := (hX 0 (by decide))
  refine xcVi E hs hQ hml hl.1 0 (fX11_isGale l g ad hD S hX a1 a2) mX11_isGale q1396 (by decide) c_1 rfl rfl ⟨by decide, by decide⟩ ⟨by decide, by decide⟩ (by decide) rfl dX11_drawn_3 (fun r2 S2 H locs hp2 hQ _ => ?_)
  obtain ⟨rfl, rfl⟩ := hp2
  refine lv_if_eq (tgt := 17) hx hb dX11_drawn_6 (by decide) (fun k_3 => ?_) (fun k_3 => absurd k_3 (by decide))
  refine lv_bipush (v := (-2)) hx hb dX11_drawn_17 (by decide) ?_
  exact xri E hr hlk hQ (⟨rfl, rfl⟩) dX11_drawn_19
set_option maxHeartbeats 4000000 in
set_option maxRecDepth 100000 in
theorem fX11_luck (l : Launch) (g : GG) (ad : Nat → Nat) (hD : Dj ad 122) (S : SS) (hX : ∀ i, i < 122 → S i = X0 g ad i) (a1 : Int32) (a2 : Int32) (a3 : Int32) (a4 : Int32) : Met l yX11_luck (wG (.code yX11_luck cX11_luck 7 (some .int))) (Rm 2) (XPre g ad 122 S [.ref (ad 0), .int a1, .int a2, .int a3, .int a4]) (va_Qi (fun r S' => S = S' ∧ r = (-2)) (QB g ad 122) (FA ad 122)) 0 0 (FA ad 122) := by
  refine xmet cX11_luck "EbbWreck" (by decide) rfl (Nat.le_of_ble_eq_true rfl) (fun p e s m below meth c E hr hlk hml hQ ls hl => ?_)
  have hx := E.1
  have hb := E.2.1
  have hs : Sp ad 122 (FA ad 122) := Sp.fa hD
  have hl : lv_has ls 7 [(0, .ref (ad 0)), (1, .int a1), (2, .int a2), (3, .int a3), (4, .int a4)] := hl
  refine lv_aload_n hx hb dX11_luck_0 rfl (lv_at hl 0 rfl) ?_
  refine lv_iload_n hx hb dX11_luck_1 rfl (lv_at hl 1 rfl) ?_
  refine lv_iload_n hx hb dX11_luck_2 rfl (lv_at hl 3 rfl) ?_
  have c_1 : S 0 = .inr (11, [.ref (ad 1), .int 0, .int 0, .int (-1), .ref (ad 2), .ref (ad 20), .ref (ad 38), .ref (ad 93), .ref (ad 94), .ref (ad 95), .ref (ad 102), .ref (ad 104), .ref (ad 107), .ref (ad 111), .ref (ad 119)]) := (hX 0 (by decide))
  refine xcVi E hs hQ hml hl.1 0 (fX11_isGale l g ad hD S hX a1 a3) mX11_isGale q1396 (by decide) c_1 rfl rfl ⟨by decide, by decide⟩ ⟨by decide, by decide⟩ (by decide) rfl dX11_luck_3 (fun r2 S2 H locs hp2 hQ _ => ?_)
  obtain ⟨rfl, rfl⟩ := hp2
  refine lv_if_eq (tgt := 25) hx hb dX11_luck_6 (by decide) (fun k_3 => ?_) (fun k_3 => absurd k_3 (by decide))
  refine lv_bipush (v := (-2)) hx hb dX11_luck_25 (by decide) ?_
  exact xri E hr hlk hQ (⟨rfl, rfl⟩) dX11_luck_27
set_option maxHeartbeats 4000000 in
set_option maxRecDepth 100000 in
theorem fX11_waits (l : Launch) (g : GG) (ad : Nat → Nat) (hD : Dj ad 122) (S : SS) (hX : ∀ i, i < 122 → S i = X0 g ad i) (a1 : Int32) (a2 : Int32) (a3 : Int32) : Met l yX11_waits (wG (.code yX11_waits cX11_waits 4 (some .int))) (Rm 2) (XPre g ad 122 S [.ref (ad 0), .int a1, .int a2, .int a3]) (va_Qi (fun r S' => S = S' ∧ r = (-2)) (QB g ad 122) (FA ad 122)) 0 0 (FA ad 122) := by
  refine xmet cX11_waits "EbbWreck" (by decide) rfl (Nat.le_of_ble_eq_true rfl) (fun p e s m below meth c E hr hlk hml hQ ls hl => ?_)
  have hx := E.1
  have hb := E.2.1
  have hs : Sp ad 122 (FA ad 122) := Sp.fa hD
  have hl : lv_has ls 4 [(0, .ref (ad 0)), (1, .int a1), (2, .int a2), (3, .int a3)] := hl
  refine lv_aload_n hx hb dX11_waits_0 rfl (lv_at hl 0 rfl) ?_
  refine lv_iload_n hx hb dX11_waits_1 rfl (lv_at hl 1 rfl) ?_
  refine lv_iload_n hx hb dX11_waits_2 rfl (lv_at hl 3 rfl) ?_
  have c_1 : S 0 = .inr (11, [.ref (ad 1), .int 0, .int 0, .int (-1), .ref (ad 2), .ref (ad 20), .ref (ad 38), .ref (ad 93), .ref (ad 94), .ref (ad 95), .ref (ad 102), .ref (ad 104), .ref (ad 107), .ref (ad 111), .ref (ad 119)]) := (hX 0 (by decide))
  refine xcVi E hs hQ hml hl.1 0 (fX11_isGale l g ad hD S hX a1 a3) mX11_isGale q1396 (by decide) c_1 rfl rfl ⟨by decide, by decide⟩ ⟨by decide, by decide⟩ (by decide) rfl dX11_waits_3 (fun r2 S2 H locs hp2 hQ _ => ?_)
  obtain ⟨rfl, rfl⟩ := hp2
  refine lv_if_eq (tgt := 16) hx hb dX11_waits_6 (by decide) (fun k_3 => ?_) (fun k_3 => absurd k_3 (by decide))
  refine lv_bipush (v := (-2)) hx hb dX11_waits_16 (by decide) ?_
  exact xri E hr hlk hQ (⟨rfl, rfl⟩) dX11_waits_18
end
section
theorem dX12_in_0 : decode cX12_in 0 = .ok (.lload_n 0, 1) := by decide +kernel
theorem dX12_in_1 : decode cX12_in 1 = .ok (.lload_n 2, 1) := by decide +kernel
theorem dX12_in_2 : decode cX12_in 2 = .ok (.lcmp, 1) := by decide +kernel
theorem dX12_in_3 : decode cX12_in 3 = .ok (.ifCond .lt 14, 3) := by decide +kernel
theorem dX12_in_17 : decode cX12_in 17 = .ok (.iconst 0, 1) := by decide +kernel
theorem dX12_in_18 : decode cX12_in 18 = .ok (.ireturn, 1) := by decide +kernel
theorem dX12_in_6 : decode cX12_in 6 = .ok (.lload_n 0, 1) := by decide +kernel
theorem dX12_in_7 : decode cX12_in 7 = .ok (.lload 4, 2) := by decide +kernel
theorem dX12_in_9 : decode cX12_in 9 = .ok (.lcmp, 1) := by decide +kernel
theorem dX12_in_10 : decode cX12_in 10 = .ok (.ifCond .gt 7, 3) := by decide +kernel
theorem dX12_in_13 : decode cX12_in 13 = .ok (.iconst 1, 1) := by decide +kernel
theorem dX12_in_14 : decode cX12_in 14 = .ok (.goto 4, 3) := by decide +kernel
theorem dX12_isShore_0 : decode cX12_isShore 0 = .ok (.aload_n 0, 1) := by decide +kernel
theorem dX12_isShore_1 : decode cX12_isShore 1 = .ok (.getfield 31, 3) := by decide +kernel
theorem dX12_isShore_4 : decode cX12_isShore 4 = .ok (.iconst 0, 1) := by decide +kernel
theorem dX12_isShore_5 : decode cX12_isShore 5 = .ok (.iaload, 1) := by decide +kernel
theorem dX12_isShore_6 : decode cX12_isShore 6 = .ok (.ifCond .le 7, 3) := by decide +kernel
theorem dX12_isShore_13 : decode cX12_isShore 13 = .ok (.iconst 0, 1) := by decide +kernel
theorem dX12_isShore_14 : decode cX12_isShore 14 = .ok (.ireturn, 1) := by decide +kernel
theorem dX12_isCell_0 : decode cX12_isCell 0 = .ok (.lload_n 1, 1) := by decide +kernel
theorem dX12_isCell_1 : decode cX12_isCell 1 = .ok (.lconst 0, 1) := by decide +kernel
theorem dX12_isCell_2 : decode cX12_isCell 2 = .ok (.aload_n 0, 1) := by decide +kernel
theorem dX12_isCell_3 : decode cX12_isCell 3 = .ok (.getfield 34, 3) := by decide +kernel
theorem dX12_isCell_6 : decode cX12_isCell 6 = .ok (.iconst 0, 1) := by decide +kernel
theorem dX12_isCell_7 : decode cX12_isCell 7 = .ok (.iaload, 1) := by decide +kernel
theorem dX12_isCell_8 : decode cX12_isCell 8 = .ok (.i2l, 1) := by decide +kernel
theorem dX12_isCell_9 : decode cX12_isCell 9 = .ok (.lconst 1, 1) := by decide +kernel
theorem dX12_isCell_10 : decode cX12_isCell 10 = .ok (.lsub, 1) := by decide +kernel
theorem dX12_isCell_11 : decode cX12_isCell 11 = .ok (.invokestatic 79, 3) := by decide +kernel
theorem dX12_isCell_14 : decode cX12_isCell 14 = .ok (.ireturn, 1) := by decide +kernel
theorem dX12_isThing_0 : decode cX12_isThing 0 = .ok (.iload_n 1, 1) := by decide +kernel
theorem dX12_isThing_1 : decode cX12_isThing 1 = .ok (.i2l, 1) := by decide +kernel
theorem dX12_isThing_2 : decode cX12_isThing 2 = .ok (.lconst 0, 1) := by decide +kernel
theorem dX12_isThing_3 : decode cX12_isThing 3 = .ok (.aload_n 0, 1) := by decide +kernel
theorem dX12_isThing_4 : decode cX12_isThing 4 = .ok (.getfield 34, 3) := by decide +kernel
theorem dX12_isThing_7 : decode cX12_isThing 7 = .ok (.bipush 6, 2) := by decide +kernel
theorem dX12_isThing_9 : decode cX12_isThing 9 = .ok (.iaload, 1) := by decide +kernel
theorem dX12_isThing_10 : decode cX12_isThing 10 = .ok (.iconst 1, 1) := by decide +kernel
theorem dX12_isThing_11 : decode cX12_isThing 11 = .ok (.isub, 1) := by decide +kernel
theorem dX12_isThing_12 : decode cX12_isThing 12 = .ok (.i2l, 1) := by decide +kernel
theorem dX12_isThing_13 : decode cX12_isThing 13 = .ok (.invokestatic 79, 3) := by decide +kernel
theorem dX12_isThing_16 : decode cX12_isThing 16 = .ok (.ireturn, 1) := by decide +kernel
theorem dX12_isRule_0 : decode cX12_isRule 0 = .ok (.iload_n 1, 1) := by decide +kernel
theorem dX12_isRule_1 : decode cX12_isRule 1 = .ok (.i2l, 1) := by decide +kernel
theorem dX12_isRule_2 : decode cX12_isRule 2 = .ok (.lconst 0, 1) := by decide +kernel
theorem dX12_isRule_3 : decode cX12_isRule 3 = .ok (.aload_n 0, 1) := by decide +kernel
theorem dX12_isRule_4 : decode cX12_isRule 4 = .ok (.getfield 34, 3) := by decide +kernel
theorem dX12_isRule_7 : decode cX12_isRule 7 = .ok (.bipush 7, 2) := by decide +kernel
theorem dX12_isRule_9 : decode cX12_isRule 9 = .ok (.iaload, 1) := by decide +kernel
theorem dX12_isRule_10 : decode cX12_isRule 10 = .ok (.iconst 1, 1) := by decide +kernel
theorem dX12_isRule_11 : decode cX12_isRule 11 = .ok (.isub, 1) := by decide +kernel
theorem dX12_isRule_12 : decode cX12_isRule 12 = .ok (.i2l, 1) := by decide +kernel
theorem dX12_isRule_13 : decode cX12_isRule 13 = .ok (.invokestatic 79, 3) := by decide +kernel
theorem dX12_isRule_16 : decode cX12_isRule 16 = .ok (.ireturn, 1) := by decide +kernel
theorem dX12_isSitter_0 : decode cX12_isSitter 0 = .ok (.iload_n 1, 1) := by decide +kernel
theorem dX12_isSitter_1 : decode cX12_isSitter 1 = .ok (.i2l, 1) := by decide +kernel
theorem dX12_isSitter_2 : decode cX12_isSitter 2 = .ok (.lconst 0, 1) := by decide +kernel
theorem dX12_isSitter_3 : decode cX12_isSitter 3 = .ok (.aload_n 0, 1) := by decide +kernel
theorem dX12_isSitter_4 : decode cX12_isSitter 4 = .ok (.getfield 34, 3) := by decide +kernel
theorem dX12_isSitter_7 : decode cX12_isSitter 7 = .ok (.bipush 8, 2) := by decide +kernel
theorem dX12_isSitter_9 : decode cX12_isSitter 9 = .ok (.iaload, 1) := by decide +kernel
theorem dX12_isSitter_10 : decode cX12_isSitter 10 = .ok (.iconst 1, 1) := by decide +kernel
theorem dX12_isSitter_11 : decode cX12_isSitter 11 = .ok (.isub, 1) := by decide +kernel
theorem dX12_isSitter_12 : decode cX12_isSitter 12 = .ok (.i2l, 1) := by decide +kernel
theorem dX12_isSitter_13 : decode cX12_isSitter 13 = .ok (.invokestatic 79, 3) := by decide +kernel
theorem dX12_isSitter_16 : decode cX12_isSitter 16 = .ok (.ireturn, 1) := by decide +kernel
theorem dX12_isParty_0 : decode cX12_isParty 0 = .ok (.aload_n 0, 1) := by decide +kernel
theorem dX12_isParty_1 : decode cX12_isParty 1 = .ok (.invokevirtual 250, 3) := by decide +kernel
theorem dX12_isParty_4 : decode cX12_isParty 4 = .ok (.ifCond .eq 19, 3) := by decide +kernel
theorem dX12_isParty_23 : decode cX12_isParty 23 = .ok (.iconst 0, 1) := by decide +kernel
theorem dX12_isParty_24 : decode cX12_isParty 24 = .ok (.ireturn, 1) := by decide +kernel
theorem dX12_isPush_0 : decode cX12_isPush 0 = .ok (.aload_n 0, 1) := by decide +kernel
theorem dX12_isPush_1 : decode cX12_isPush 1 = .ok (.iload_n 1, 1) := by decide +kernel
theorem dX12_isPush_2 : decode cX12_isPush 2 = .ok (.invokevirtual 276, 3) := by decide +kernel
theorem dX12_isPush_5 : decode cX12_isPush 5 = .ok (.ifCond .eq 15, 3) := by decide +kernel
theorem dX12_isPush_20 : decode cX12_isPush 20 = .ok (.iconst 0, 1) := by decide +kernel
theorem dX12_isPush_21 : decode cX12_isPush 21 = .ok (.ireturn, 1) := by decide +kernel
theorem dX12_isDraw_0 : decode cX12_isDraw 0 = .ok (.iload_n 1, 1) := by decide +kernel
theorem dX12_isDraw_1 : decode cX12_isDraw 1 = .ok (.i2l, 1) := by decide +kernel
theorem dX12_isDraw_2 : decode cX12_isDraw 2 = .ok (.lconst 0, 1) := by decide +kernel
theorem dX12_isDraw_3 : decode cX12_isDraw 3 = .ok (.ldc2_w 282, 3) := by decide +kernel
theorem dX12_isDraw_6 : decode cX12_isDraw 6 = .ok (.invokestatic 79, 3) := by decide +kernel
theorem dX12_isDraw_9 : decode cX12_isDraw 9 = .ok (.ifCond .eq 15, 3) := by decide +kernel
theorem dX12_isDraw_12 : decode cX12_isDraw 12 = .ok (.aload_n 0, 1) := by decide +kernel
theorem dX12_isDraw_13 : decode cX12_isDraw 13 = .ok (.iload_n 2, 1) := by decide +kernel
theorem dX12_isDraw_14 : decode cX12_isDraw 14 = .ok (.invokevirtual 276, 3) := by decide +kernel
theorem dX12_isDraw_17 : decode cX12_isDraw 17 = .ok (.ifCond .eq 7, 3) := by decide +kernel
theorem dX12_isDraw_24 : decode cX12_isDraw 24 = .ok (.iconst 0, 1) := by decide +kernel
theorem dX12_isDraw_25 : decode cX12_isDraw 25 = .ok (.ireturn, 1) := by decide +kernel
theorem dX12_cell_0 : decode cX12_cell 0 = .ok (.aload_n 0, 1) := by decide +kernel
theorem dX12_cell_1 : decode cX12_cell 1 = .ok (.iconst 0, 1) := by decide +kernel
theorem dX12_cell_2 : decode cX12_cell 2 = .ok (.putfield 74, 3) := by decide +kernel
theorem dX12_cell_5 : decode cX12_cell 5 = .ok (.aload_n 0, 1) := by decide +kernel
theorem dX12_cell_6 : decode cX12_cell 6 = .ok (.iload_n 1, 1) := by decide +kernel
theorem dX12_cell_7 : decode cX12_cell 7 = .ok (.i2l, 1) := by decide +kernel
theorem dX12_cell_8 : decode cX12_cell 8 = .ok (.invokevirtual 268, 3) := by decide +kernel
theorem dX12_cell_11 : decode cX12_cell 11 = .ok (.ifCond .eq 15, 3) := by decide +kernel
theorem dX12_cell_26 : decode cX12_cell 26 = .ok (.sipush (-1000), 3) := by decide +kernel
theorem dX12_cell_29 : decode cX12_cell 29 = .ok (.ireturn, 1) := by decide +kernel
theorem dX12_thing_0 : decode cX12_thing 0 = .ok (.aload_n 0, 1) := by decide +kernel
theorem dX12_thing_1 : decode cX12_thing 1 = .ok (.iconst 0, 1) := by decide +kernel
theorem dX12_thing_2 : decode cX12_thing 2 = .ok (.putfield 74, 3) := by decide +kernel
theorem dX12_thing_5 : decode cX12_thing 5 = .ok (.aload_n 0, 1) := by decide +kernel
theorem dX12_thing_6 : decode cX12_thing 6 = .ok (.iload_n 1, 1) := by decide +kernel
theorem dX12_thing_7 : decode cX12_thing 7 = .ok (.invokevirtual 276, 3) := by decide +kernel
theorem dX12_thing_10 : decode cX12_thing 10 = .ok (.ifCond .eq 28, 3) := by decide +kernel
theorem dX12_thing_38 : decode cX12_thing 38 = .ok (.bipush (-2), 2) := by decide +kernel
theorem dX12_thing_40 : decode cX12_thing 40 = .ok (.ireturn, 1) := by decide +kernel
theorem dX12_rule_0 : decode cX12_rule 0 = .ok (.aload_n 0, 1) := by decide +kernel
theorem dX12_rule_1 : decode cX12_rule 1 = .ok (.iconst 0, 1) := by decide +kernel
theorem dX12_rule_2 : decode cX12_rule 2 = .ok (.putfield 74, 3) := by decide +kernel
theorem dX12_rule_5 : decode cX12_rule 5 = .ok (.aload_n 0, 1) := by decide +kernel
theorem dX12_rule_6 : decode cX12_rule 6 = .ok (.iload_n 1, 1) := by decide +kernel
theorem dX12_rule_7 : decode cX12_rule 7 = .ok (.invokevirtual 279, 3) := by decide +kernel
theorem dX12_rule_10 : decode cX12_rule 10 = .ok (.ifCond .eq 28, 3) := by decide +kernel
theorem dX12_rule_38 : decode cX12_rule 38 = .ok (.bipush (-2), 2) := by decide +kernel
theorem dX12_rule_40 : decode cX12_rule 40 = .ok (.ireturn, 1) := by decide +kernel
theorem dX12_sitter_0 : decode cX12_sitter 0 = .ok (.aload_n 0, 1) := by decide +kernel
theorem dX12_sitter_1 : decode cX12_sitter 1 = .ok (.iconst 0, 1) := by decide +kernel
theorem dX12_sitter_2 : decode cX12_sitter 2 = .ok (.putfield 74, 3) := by decide +kernel
theorem dX12_sitter_5 : decode cX12_sitter 5 = .ok (.aload_n 0, 1) := by decide +kernel
theorem dX12_sitter_6 : decode cX12_sitter 6 = .ok (.iload_n 1, 1) := by decide +kernel
theorem dX12_sitter_7 : decode cX12_sitter 7 = .ok (.invokevirtual 319, 3) := by decide +kernel
theorem dX12_sitter_10 : decode cX12_sitter 10 = .ok (.ifCond .ne 6, 3) := by decide +kernel
theorem dX12_sitter_13 : decode cX12_sitter 13 = .ok (.bipush (-2), 2) := by decide +kernel
theorem dX12_sitter_15 : decode cX12_sitter 15 = .ok (.ireturn, 1) := by decide +kernel
theorem dX12_phase_0 : decode cX12_phase 0 = .ok (.aload_n 0, 1) := by decide +kernel
theorem dX12_phase_1 : decode cX12_phase 1 = .ok (.iconst 0, 1) := by decide +kernel
theorem dX12_phase_2 : decode cX12_phase 2 = .ok (.putfield 74, 3) := by decide +kernel
theorem dX12_phase_5 : decode cX12_phase 5 = .ok (.aload_n 0, 1) := by decide +kernel
theorem dX12_phase_6 : decode cX12_phase 6 = .ok (.invokevirtual 250, 3) := by decide +kernel
theorem dX12_phase_9 : decode cX12_phase 9 = .ok (.ifCond .eq 23, 3) := by decide +kernel
theorem dX12_phase_32 : decode cX12_phase 32 = .ok (.bipush (-2), 2) := by decide +kernel
theorem dX12_phase_34 : decode cX12_phase 34 = .ok (.ireturn, 1) := by decide +kernel
theorem dX12_next__0 : decode cX12_next_ 0 = .ok (.aload_n 0, 1) := by decide +kernel
theorem dX12_next__1 : decode cX12_next_ 1 = .ok (.iconst 0, 1) := by decide +kernel
theorem dX12_next__2 : decode cX12_next_ 2 = .ok (.putfield 74, 3) := by decide +kernel
theorem dX12_next__5 : decode cX12_next_ 5 = .ok (.aload_n 0, 1) := by decide +kernel
theorem dX12_next__6 : decode cX12_next_ 6 = .ok (.invokevirtual 250, 3) := by decide +kernel
theorem dX12_next__9 : decode cX12_next_ 9 = .ok (.ifCond .eq 27, 3) := by decide +kernel
theorem dX12_next__36 : decode cX12_next_ 36 = .ok (.bipush (-2), 2) := by decide +kernel
theorem dX12_next__38 : decode cX12_next_ 38 = .ok (.ireturn, 1) := by decide +kernel
theorem dX12_lasts_0 : decode cX12_lasts 0 = .ok (.aload_n 0, 1) := by decide +kernel
theorem dX12_lasts_1 : decode cX12_lasts 1 = .ok (.iconst 0, 1) := by decide +kernel
theorem dX12_lasts_2 : decode cX12_lasts 2 = .ok (.putfield 74, 3) := by decide +kernel
theorem dX12_lasts_5 : decode cX12_lasts 5 = .ok (.aload_n 0, 1) := by decide +kernel
theorem dX12_lasts_6 : decode cX12_lasts 6 = .ok (.invokevirtual 250, 3) := by decide +kernel
theorem dX12_lasts_9 : decode cX12_lasts 9 = .ok (.ifCond .eq 15, 3) := by decide +kernel
theorem dX12_lasts_24 : decode cX12_lasts 24 = .ok (.bipush (-2), 2) := by decide +kernel
theorem dX12_lasts_26 : decode cX12_lasts 26 = .ok (.ireturn, 1) := by decide +kernel
theorem dX12_slacks_0 : decode cX12_slacks 0 = .ok (.aload_n 0, 1) := by decide +kernel
theorem dX12_slacks_1 : decode cX12_slacks 1 = .ok (.iconst 0, 1) := by decide +kernel
theorem dX12_slacks_2 : decode cX12_slacks 2 = .ok (.putfield 74, 3) := by decide +kernel
theorem dX12_slacks_5 : decode cX12_slacks 5 = .ok (.aload_n 0, 1) := by decide +kernel
theorem dX12_slacks_6 : decode cX12_slacks 6 = .ok (.invokevirtual 250, 3) := by decide +kernel
theorem dX12_slacks_9 : decode cX12_slacks 9 = .ok (.ifCond .eq 15, 3) := by decide +kernel
theorem dX12_slacks_24 : decode cX12_slacks 24 = .ok (.bipush (-2), 2) := by decide +kernel
theorem dX12_slacks_26 : decode cX12_slacks 26 = .ok (.ireturn, 1) := by decide +kernel
theorem dX12_drifts_0 : decode cX12_drifts 0 = .ok (.aload_n 0, 1) := by decide +kernel
theorem dX12_drifts_1 : decode cX12_drifts 1 = .ok (.iconst 0, 1) := by decide +kernel
theorem dX12_drifts_2 : decode cX12_drifts 2 = .ok (.putfield 74, 3) := by decide +kernel
theorem dX12_drifts_5 : decode cX12_drifts 5 = .ok (.aload_n 0, 1) := by decide +kernel
theorem dX12_drifts_6 : decode cX12_drifts 6 = .ok (.iload_n 1, 1) := by decide +kernel
theorem dX12_drifts_7 : decode cX12_drifts 7 = .ok (.i2l, 1) := by decide +kernel
theorem dX12_drifts_8 : decode cX12_drifts 8 = .ok (.invokevirtual 268, 3) := by decide +kernel
theorem dX12_drifts_11 : decode cX12_drifts 11 = .ok (.ifCond .eq 24, 3) := by decide +kernel
theorem dX12_drifts_35 : decode cX12_drifts 35 = .ok (.bipush (-2), 2) := by decide +kernel
theorem dX12_drifts_37 : decode cX12_drifts 37 = .ok (.ireturn, 1) := by decide +kernel
theorem dX12_at_0 : decode cX12_at 0 = .ok (.aload_n 0, 1) := by decide +kernel
theorem dX12_at_1 : decode cX12_at 1 = .ok (.iconst 0, 1) := by decide +kernel
theorem dX12_at_2 : decode cX12_at 2 = .ok (.putfield 74, 3) := by decide +kernel
theorem dX12_at_5 : decode cX12_at 5 = .ok (.aload_n 0, 1) := by decide +kernel
theorem dX12_at_6 : decode cX12_at 6 = .ok (.iload_n 1, 1) := by decide +kernel
theorem dX12_at_7 : decode cX12_at 7 = .ok (.invokevirtual 276, 3) := by decide +kernel
theorem dX12_at_10 : decode cX12_at 10 = .ok (.ifCond .eq 15, 3) := by decide +kernel
theorem dX12_at_25 : decode cX12_at 25 = .ok (.bipush (-2), 2) := by decide +kernel
theorem dX12_at_27 : decode cX12_at 27 = .ok (.ireturn, 1) := by decide +kernel
theorem dX12_comes_0 : decode cX12_comes 0 = .ok (.aload_n 0, 1) := by decide +kernel
theorem dX12_comes_1 : decode cX12_comes 1 = .ok (.iconst 0, 1) := by decide +kernel
theorem dX12_comes_2 : decode cX12_comes 2 = .ok (.putfield 74, 3) := by decide +kernel
theorem dX12_comes_5 : decode cX12_comes 5 = .ok (.aload_n 0, 1) := by decide +kernel
theorem dX12_comes_6 : decode cX12_comes 6 = .ok (.iload_n 1, 1) := by decide +kernel
theorem dX12_comes_7 : decode cX12_comes 7 = .ok (.invokevirtual 276, 3) := by decide +kernel
theorem dX12_comes_10 : decode cX12_comes 10 = .ok (.ifCond .ne 6, 3) := by decide +kernel
theorem dX12_comes_13 : decode cX12_comes 13 = .ok (.bipush (-2), 2) := by decide +kernel
theorem dX12_comes_15 : decode cX12_comes 15 = .ok (.ireturn, 1) := by decide +kernel
theorem dX12_beach_0 : decode cX12_beach 0 = .ok (.aload_n 0, 1) := by decide +kernel
theorem dX12_beach_1 : decode cX12_beach 1 = .ok (.iconst 0, 1) := by decide +kernel
theorem dX12_beach_2 : decode cX12_beach 2 = .ok (.putfield 74, 3) := by decide +kernel
theorem dX12_beach_5 : decode cX12_beach 5 = .ok (.aload_n 0, 1) := by decide +kernel
theorem dX12_beach_6 : decode cX12_beach 6 = .ok (.iload_n 1, 1) := by decide +kernel
theorem dX12_beach_7 : decode cX12_beach 7 = .ok (.invokevirtual 276, 3) := by decide +kernel
theorem dX12_beach_10 : decode cX12_beach 10 = .ok (.ifCond .ne 6, 3) := by decide +kernel
theorem dX12_beach_13 : decode cX12_beach 13 = .ok (.bipush (-2), 2) := by decide +kernel
theorem dX12_beach_15 : decode cX12_beach 15 = .ok (.ireturn, 1) := by decide +kernel
theorem dX12_whose_0 : decode cX12_whose 0 = .ok (.aload_n 0, 1) := by decide +kernel
theorem dX12_whose_1 : decode cX12_whose 1 = .ok (.iconst 0, 1) := by decide +kernel
theorem dX12_whose_2 : decode cX12_whose 2 = .ok (.putfield 74, 3) := by decide +kernel
theorem dX12_whose_5 : decode cX12_whose 5 = .ok (.aload_n 0, 1) := by decide +kernel
theorem dX12_whose_6 : decode cX12_whose 6 = .ok (.iload_n 1, 1) := by decide +kernel
theorem dX12_whose_7 : decode cX12_whose 7 = .ok (.invokevirtual 276, 3) := by decide +kernel
theorem dX12_whose_10 : decode cX12_whose 10 = .ok (.ifCond .ne 6, 3) := by decide +kernel
theorem dX12_whose_13 : decode cX12_whose 13 = .ok (.bipush (-2), 2) := by decide +kernel
theorem dX12_whose_15 : decode cX12_whose 15 = .ok (.ireturn, 1) := by decide +kernel
theorem dX12_has_0 : decode cX12_has 0 = .ok (.aload_n 0, 1) := by decide +kernel
theorem dX12_has_1 : decode cX12_has 1 = .ok (.iconst 0, 1) := by decide +kernel
theorem dX12_has_2 : decode cX12_has 2 = .ok (.putfield 74, 3) := by decide +kernel
theorem dX12_has_5 : decode cX12_has 5 = .ok (.aload_n 0, 1) := by decide +kernel
theorem dX12_has_6 : decode cX12_has 6 = .ok (.iload_n 1, 1) := by decide +kernel
theorem dX12_has_7 : decode cX12_has 7 = .ok (.invokevirtual 336, 3) := by decide +kernel
theorem dX12_has_10 : decode cX12_has 10 = .ok (.ifCond .ne 6, 3) := by decide +kernel
theorem dX12_has_13 : decode cX12_has 13 = .ok (.bipush (-2), 2) := by decide +kernel
theorem dX12_has_15 : decode cX12_has 15 = .ok (.ireturn, 1) := by decide +kernel
theorem dX12_line__0 : decode cX12_line_ 0 = .ok (.aload_n 0, 1) := by decide +kernel
theorem dX12_line__1 : decode cX12_line_ 1 = .ok (.iconst 0, 1) := by decide +kernel
theorem dX12_line__2 : decode cX12_line_ 2 = .ok (.putfield 74, 3) := by decide +kernel
theorem dX12_line__5 : decode cX12_line_ 5 = .ok (.aload_n 0, 1) := by decide +kernel
theorem dX12_line__6 : decode cX12_line_ 6 = .ok (.iload_n 1, 1) := by decide +kernel
theorem dX12_line__7 : decode cX12_line_ 7 = .ok (.i2l, 1) := by decide +kernel
theorem dX12_line__8 : decode cX12_line_ 8 = .ok (.invokevirtual 268, 3) := by decide +kernel
theorem dX12_line__11 : decode cX12_line_ 11 = .ok (.ifCond .ne 6, 3) := by decide +kernel
theorem dX12_line__14 : decode cX12_line_ 14 = .ok (.bipush (-2), 2) := by decide +kernel
theorem dX12_line__16 : decode cX12_line_ 16 = .ok (.ireturn, 1) := by decide +kernel
theorem dX12_richest_0 : decode cX12_richest 0 = .ok (.aload_n 0, 1) := by decide +kernel
theorem dX12_richest_1 : decode cX12_richest 1 = .ok (.iconst 0, 1) := by decide +kernel
theorem dX12_richest_2 : decode cX12_richest 2 = .ok (.putfield 74, 3) := by decide +kernel
theorem dX12_richest_5 : decode cX12_richest 5 = .ok (.aload_n 0, 1) := by decide +kernel
theorem dX12_richest_6 : decode cX12_richest 6 = .ok (.invokevirtual 250, 3) := by decide +kernel
theorem dX12_richest_9 : decode cX12_richest 9 = .ok (.ifCond .ne 6, 3) := by decide +kernel
theorem dX12_richest_12 : decode cX12_richest 12 = .ok (.bipush (-2), 2) := by decide +kernel
theorem dX12_richest_14 : decode cX12_richest 14 = .ok (.ireturn, 1) := by decide +kernel
theorem dX12_meet_0 : decode cX12_meet 0 = .ok (.aload_n 0, 1) := by decide +kernel
theorem dX12_meet_1 : decode cX12_meet 1 = .ok (.iconst 0, 1) := by decide +kernel
theorem dX12_meet_2 : decode cX12_meet 2 = .ok (.putfield 74, 3) := by decide +kernel
theorem dX12_meet_5 : decode cX12_meet 5 = .ok (.aload_n 0, 1) := by decide +kernel
theorem dX12_meet_6 : decode cX12_meet 6 = .ok (.iload_n 1, 1) := by decide +kernel
theorem dX12_meet_7 : decode cX12_meet 7 = .ok (.invokevirtual 276, 3) := by decide +kernel
theorem dX12_meet_10 : decode cX12_meet 10 = .ok (.ifCond .eq 16, 3) := by decide +kernel
theorem dX12_meet_26 : decode cX12_meet 26 = .ok (.bipush (-2), 2) := by decide +kernel
theorem dX12_meet_28 : decode cX12_meet 28 = .ok (.ireturn, 1) := by decide +kernel
theorem dX12_argued_0 : decode cX12_argued 0 = .ok (.aload_n 0, 1) := by decide +kernel
theorem dX12_argued_1 : decode cX12_argued 1 = .ok (.iconst 0, 1) := by decide +kernel
theorem dX12_argued_2 : decode cX12_argued 2 = .ok (.putfield 74, 3) := by decide +kernel
theorem dX12_argued_5 : decode cX12_argued 5 = .ok (.aload_n 0, 1) := by decide +kernel
theorem dX12_argued_6 : decode cX12_argued 6 = .ok (.invokevirtual 250, 3) := by decide +kernel
theorem dX12_argued_9 : decode cX12_argued 9 = .ok (.ifCond .ne 6, 3) := by decide +kernel
theorem dX12_argued_12 : decode cX12_argued 12 = .ok (.bipush (-2), 2) := by decide +kernel
theorem dX12_argued_14 : decode cX12_argued 14 = .ok (.ireturn, 1) := by decide +kernel
theorem dX12_gaps_0 : decode cX12_gaps 0 = .ok (.aload_n 0, 1) := by decide +kernel
theorem dX12_gaps_1 : decode cX12_gaps 1 = .ok (.iconst 0, 1) := by decide +kernel
theorem dX12_gaps_2 : decode cX12_gaps 2 = .ok (.putfield 74, 3) := by decide +kernel
theorem dX12_gaps_5 : decode cX12_gaps 5 = .ok (.aload_n 0, 1) := by decide +kernel
theorem dX12_gaps_6 : decode cX12_gaps 6 = .ok (.invokevirtual 250, 3) := by decide +kernel
theorem dX12_gaps_9 : decode cX12_gaps 9 = .ok (.ifCond .eq 15, 3) := by decide +kernel
theorem dX12_gaps_24 : decode cX12_gaps 24 = .ok (.bipush (-2), 2) := by decide +kernel
theorem dX12_gaps_26 : decode cX12_gaps 26 = .ok (.ireturn, 1) := by decide +kernel
theorem dX12_idle_0 : decode cX12_idle 0 = .ok (.aload_n 0, 1) := by decide +kernel
theorem dX12_idle_1 : decode cX12_idle 1 = .ok (.iconst 0, 1) := by decide +kernel
theorem dX12_idle_2 : decode cX12_idle 2 = .ok (.putfield 74, 3) := by decide +kernel
theorem dX12_idle_5 : decode cX12_idle 5 = .ok (.aload_n 0, 1) := by decide +kernel
theorem dX12_idle_6 : decode cX12_idle 6 = .ok (.invokevirtual 250, 3) := by decide +kernel
theorem dX12_idle_9 : decode cX12_idle 9 = .ok (.ifCond .ne 6, 3) := by decide +kernel
theorem dX12_idle_12 : decode cX12_idle 12 = .ok (.bipush (-2), 2) := by decide +kernel
theorem dX12_idle_14 : decode cX12_idle 14 = .ok (.ireturn, 1) := by decide +kernel
theorem dX12_without_0 : decode cX12_without 0 = .ok (.aload_n 0, 1) := by decide +kernel
theorem dX12_without_1 : decode cX12_without 1 = .ok (.iconst 0, 1) := by decide +kernel
theorem dX12_without_2 : decode cX12_without 2 = .ok (.putfield 74, 3) := by decide +kernel
theorem dX12_without_5 : decode cX12_without 5 = .ok (.aload_n 0, 1) := by decide +kernel
theorem dX12_without_6 : decode cX12_without 6 = .ok (.iload_n 1, 1) := by decide +kernel
theorem dX12_without_7 : decode cX12_without 7 = .ok (.invokevirtual 279, 3) := by decide +kernel
theorem dX12_without_10 : decode cX12_without 10 = .ok (.ifCond .eq 11, 3) := by decide +kernel
theorem dX12_without_21 : decode cX12_without 21 = .ok (.bipush (-2), 2) := by decide +kernel
theorem dX12_without_23 : decode cX12_without 23 = .ok (.ireturn, 1) := by decide +kernel
theorem dX12_strike_0 : decode cX12_strike 0 = .ok (.aload_n 0, 1) := by decide +kernel
theorem dX12_strike_1 : decode cX12_strike 1 = .ok (.iconst 0, 1) := by decide +kernel
theorem dX12_strike_2 : decode cX12_strike 2 = .ok (.putfield 74, 3) := by decide +kernel
theorem dX12_strike_5 : decode cX12_strike 5 = .ok (.aload_n 0, 1) := by decide +kernel
theorem dX12_strike_6 : decode cX12_strike 6 = .ok (.iload_n 1, 1) := by decide +kernel
theorem dX12_strike_7 : decode cX12_strike 7 = .ok (.invokevirtual 336, 3) := by decide +kernel
theorem dX12_strike_10 : decode cX12_strike 10 = .ok (.ifCond .ne 6, 3) := by decide +kernel
theorem dX12_strike_13 : decode cX12_strike 13 = .ok (.bipush (-2), 2) := by decide +kernel
theorem dX12_strike_15 : decode cX12_strike 15 = .ok (.ireturn, 1) := by decide +kernel
theorem dX12_clock_0 : decode cX12_clock 0 = .ok (.aload_n 0, 1) := by decide +kernel
theorem dX12_clock_1 : decode cX12_clock 1 = .ok (.iconst 0, 1) := by decide +kernel
theorem dX12_clock_2 : decode cX12_clock 2 = .ok (.putfield 74, 3) := by decide +kernel
theorem dX12_clock_5 : decode cX12_clock 5 = .ok (.aload_n 0, 1) := by decide +kernel
theorem dX12_clock_6 : decode cX12_clock 6 = .ok (.iload_n 1, 1) := by decide +kernel
theorem dX12_clock_7 : decode cX12_clock 7 = .ok (.invokevirtual 336, 3) := by decide +kernel
theorem dX12_clock_10 : decode cX12_clock 10 = .ok (.ifCond .eq 17, 3) := by decide +kernel
theorem dX12_clock_27 : decode cX12_clock 27 = .ok (.bipush (-2), 2) := by decide +kernel
theorem dX12_clock_29 : decode cX12_clock 29 = .ok (.ireturn, 1) := by decide +kernel
theorem dX12_set_0 : decode cX12_set 0 = .ok (.aload_n 0, 1) := by decide +kernel
theorem dX12_set_1 : decode cX12_set 1 = .ok (.iconst 0, 1) := by decide +kernel
theorem dX12_set_2 : decode cX12_set 2 = .ok (.putfield 74, 3) := by decide +kernel
theorem dX12_set_5 : decode cX12_set 5 = .ok (.aload_n 0, 1) := by decide +kernel
theorem dX12_set_6 : decode cX12_set 6 = .ok (.iload_n 1, 1) := by decide +kernel
theorem dX12_set_7 : decode cX12_set 7 = .ok (.invokevirtual 336, 3) := by decide +kernel
theorem dX12_set_10 : decode cX12_set 10 = .ok (.ifCond .ne 7, 3) := by decide +kernel
theorem dX12_set_13 : decode cX12_set 13 = .ok (.sipush (-1000), 3) := by decide +kernel
theorem dX12_set_16 : decode cX12_set 16 = .ok (.ireturn, 1) := by decide +kernel
theorem dX12_pushes_0 : decode cX12_pushes 0 = .ok (.aload_n 0, 1) := by decide +kernel
theorem dX12_pushes_1 : decode cX12_pushes 1 = .ok (.iconst 0, 1) := by decide +kernel
theorem dX12_pushes_2 : decode cX12_pushes 2 = .ok (.putfield 74, 3) := by decide +kernel
theorem dX12_pushes_5 : decode cX12_pushes 5 = .ok (.aload_n 0, 1) := by decide +kernel
theorem dX12_pushes_6 : decode cX12_pushes 6 = .ok (.iload_n 1, 1) := by decide +kernel
theorem dX12_pushes_7 : decode cX12_pushes 7 = .ok (.iload_n 2, 1) := by decide +kernel
theorem dX12_pushes_8 : decode cX12_pushes 8 = .ok (.invokevirtual 352, 3) := by decide +kernel
theorem dX12_pushes_11 : decode cX12_pushes 11 = .ok (.ifCond .ne 6, 3) := by decide +kernel
theorem dX12_pushes_14 : decode cX12_pushes 14 = .ok (.bipush (-2), 2) := by decide +kernel
theorem dX12_pushes_16 : decode cX12_pushes 16 = .ok (.ireturn, 1) := by decide +kernel
theorem dX12_push_0 : decode cX12_push 0 = .ok (.aload_n 0, 1) := by decide +kernel
theorem dX12_push_1 : decode cX12_push 1 = .ok (.iconst 0, 1) := by decide +kernel
theorem dX12_push_2 : decode cX12_push 2 = .ok (.putfield 74, 3) := by decide +kernel
theorem dX12_push_5 : decode cX12_push 5 = .ok (.aload_n 0, 1) := by decide +kernel
theorem dX12_push_6 : decode cX12_push 6 = .ok (.iload_n 1, 1) := by decide +kernel
theorem dX12_push_7 : decode cX12_push 7 = .ok (.iload_n 2, 1) := by decide +kernel
theorem dX12_push_8 : decode cX12_push 8 = .ok (.invokevirtual 352, 3) := by decide +kernel
theorem dX12_push_11 : decode cX12_push 11 = .ok (.ifCond .eq 13, 3) := by decide +kernel
theorem dX12_push_24 : decode cX12_push 24 = .ok (.bipush (-2), 2) := by decide +kernel
theorem dX12_push_26 : decode cX12_push 26 = .ok (.ireturn, 1) := by decide +kernel
theorem dX12_way_0 : decode cX12_way 0 = .ok (.aload_n 0, 1) := by decide +kernel
theorem dX12_way_1 : decode cX12_way 1 = .ok (.iconst 0, 1) := by decide +kernel
theorem dX12_way_2 : decode cX12_way 2 = .ok (.putfield 74, 3) := by decide +kernel
theorem dX12_way_5 : decode cX12_way 5 = .ok (.aload_n 0, 1) := by decide +kernel
theorem dX12_way_6 : decode cX12_way 6 = .ok (.iload_n 1, 1) := by decide +kernel
theorem dX12_way_7 : decode cX12_way 7 = .ok (.iload_n 2, 1) := by decide +kernel
theorem dX12_way_8 : decode cX12_way 8 = .ok (.invokevirtual 352, 3) := by decide +kernel
theorem dX12_way_11 : decode cX12_way 11 = .ok (.ifCond .ne 6, 3) := by decide +kernel
theorem dX12_way_14 : decode cX12_way 14 = .ok (.bipush (-2), 2) := by decide +kernel
theorem dX12_way_16 : decode cX12_way 16 = .ok (.ireturn, 1) := by decide +kernel
theorem dX12_soonest_0 : decode cX12_soonest 0 = .ok (.aload_n 0, 1) := by decide +kernel
theorem dX12_soonest_1 : decode cX12_soonest 1 = .ok (.iconst 0, 1) := by decide +kernel
theorem dX12_soonest_2 : decode cX12_soonest 2 = .ok (.putfield 74, 3) := by decide +kernel
theorem dX12_soonest_5 : decode cX12_soonest 5 = .ok (.aload_n 0, 1) := by decide +kernel
theorem dX12_soonest_6 : decode cX12_soonest 6 = .ok (.iload_n 1, 1) := by decide +kernel
theorem dX12_soonest_7 : decode cX12_soonest 7 = .ok (.iload_n 2, 1) := by decide +kernel
theorem dX12_soonest_8 : decode cX12_soonest 8 = .ok (.invokevirtual 352, 3) := by decide +kernel
theorem dX12_soonest_11 : decode cX12_soonest 11 = .ok (.ifCond .ne 6, 3) := by decide +kernel
theorem dX12_soonest_14 : decode cX12_soonest 14 = .ok (.bipush (-2), 2) := by decide +kernel
theorem dX12_soonest_16 : decode cX12_soonest 16 = .ok (.ireturn, 1) := by decide +kernel
theorem dX12_ward_0 : decode cX12_ward 0 = .ok (.aload_n 0, 1) := by decide +kernel
theorem dX12_ward_1 : decode cX12_ward 1 = .ok (.iconst 0, 1) := by decide +kernel
theorem dX12_ward_2 : decode cX12_ward 2 = .ok (.putfield 74, 3) := by decide +kernel
theorem dX12_ward_5 : decode cX12_ward 5 = .ok (.aload_n 0, 1) := by decide +kernel
theorem dX12_ward_6 : decode cX12_ward 6 = .ok (.iload_n 1, 1) := by decide +kernel
theorem dX12_ward_7 : decode cX12_ward 7 = .ok (.iload_n 2, 1) := by decide +kernel
theorem dX12_ward_8 : decode cX12_ward 8 = .ok (.invokevirtual 352, 3) := by decide +kernel
theorem dX12_ward_11 : decode cX12_ward 11 = .ok (.ifCond .ne 6, 3) := by decide +kernel
theorem dX12_ward_14 : decode cX12_ward 14 = .ok (.bipush (-2), 2) := by decide +kernel
theorem dX12_ward_16 : decode cX12_ward 16 = .ok (.ireturn, 1) := by decide +kernel
theorem dX12_all_0 : decode cX12_all 0 = .ok (.aload_n 0, 1) := by decide +kernel
theorem dX12_all_1 : decode cX12_all 1 = .ok (.iconst 0, 1) := by decide +kernel
theorem dX12_all_2 : decode cX12_all 2 = .ok (.putfield 74, 3) := by decide +kernel
theorem dX12_all_5 : decode cX12_all 5 = .ok (.aload_n 0, 1) := by decide +kernel
theorem dX12_all_6 : decode cX12_all 6 = .ok (.iload_n 1, 1) := by decide +kernel
theorem dX12_all_7 : decode cX12_all 7 = .ok (.invokevirtual 336, 3) := by decide +kernel
theorem dX12_all_10 : decode cX12_all 10 = .ok (.ifCond .ne 6, 3) := by decide +kernel
theorem dX12_all_13 : decode cX12_all 13 = .ok (.bipush (-2), 2) := by decide +kernel
theorem dX12_all_15 : decode cX12_all 15 = .ok (.ireturn, 1) := by decide +kernel
theorem dX12_eddy_0 : decode cX12_eddy 0 = .ok (.aload_n 0, 1) := by decide +kernel
theorem dX12_eddy_1 : decode cX12_eddy 1 = .ok (.iconst 0, 1) := by decide +kernel
theorem dX12_eddy_2 : decode cX12_eddy 2 = .ok (.putfield 74, 3) := by decide +kernel
theorem dX12_eddy_5 : decode cX12_eddy 5 = .ok (.aload_n 0, 1) := by decide +kernel
theorem dX12_eddy_6 : decode cX12_eddy 6 = .ok (.iload_n 1, 1) := by decide +kernel
theorem dX12_eddy_7 : decode cX12_eddy 7 = .ok (.i2l, 1) := by decide +kernel
theorem dX12_eddy_8 : decode cX12_eddy 8 = .ok (.invokevirtual 268, 3) := by decide +kernel
theorem dX12_eddy_11 : decode cX12_eddy 11 = .ok (.ifCond .ne 6, 3) := by decide +kernel
theorem dX12_eddy_14 : decode cX12_eddy 14 = .ok (.bipush (-2), 2) := by decide +kernel
theorem dX12_eddy_16 : decode cX12_eddy 16 = .ok (.ireturn, 1) := by decide +kernel
theorem dX12_stuck_0 : decode cX12_stuck 0 = .ok (.aload_n 0, 1) := by decide +kernel
theorem dX12_stuck_1 : decode cX12_stuck 1 = .ok (.iconst 0, 1) := by decide +kernel
theorem dX12_stuck_2 : decode cX12_stuck 2 = .ok (.putfield 74, 3) := by decide +kernel
theorem dX12_stuck_5 : decode cX12_stuck 5 = .ok (.aload_n 0, 1) := by decide +kernel
theorem dX12_stuck_6 : decode cX12_stuck 6 = .ok (.invokevirtual 250, 3) := by decide +kernel
theorem dX12_stuck_9 : decode cX12_stuck 9 = .ok (.ifCond .ne 6, 3) := by decide +kernel
theorem dX12_stuck_12 : decode cX12_stuck 12 = .ok (.bipush (-2), 2) := by decide +kernel
theorem dX12_stuck_14 : decode cX12_stuck 14 = .ok (.ireturn, 1) := by decide +kernel
theorem dX12_drop_0 : decode cX12_drop 0 = .ok (.aload_n 0, 1) := by decide +kernel
theorem dX12_drop_1 : decode cX12_drop 1 = .ok (.iconst 0, 1) := by decide +kernel
theorem dX12_drop_2 : decode cX12_drop 2 = .ok (.putfield 74, 3) := by decide +kernel
theorem dX12_drop_5 : decode cX12_drop 5 = .ok (.aload_n 0, 1) := by decide +kernel
theorem dX12_drop_6 : decode cX12_drop 6 = .ok (.iload_n 1, 1) := by decide +kernel
theorem dX12_drop_7 : decode cX12_drop 7 = .ok (.invokevirtual 336, 3) := by decide +kernel
theorem dX12_drop_10 : decode cX12_drop 10 = .ok (.ifCond .eq 24, 3) := by decide +kernel
theorem dX12_drop_34 : decode cX12_drop 34 = .ok (.bipush (-2), 2) := by decide +kernel
theorem dX12_drop_36 : decode cX12_drop 36 = .ok (.ireturn, 1) := by decide +kernel
theorem dX12_drops_0 : decode cX12_drops 0 = .ok (.aload_n 0, 1) := by decide +kernel
theorem dX12_drops_1 : decode cX12_drops 1 = .ok (.iconst 0, 1) := by decide +kernel
theorem dX12_drops_2 : decode cX12_drops 2 = .ok (.putfield 74, 3) := by decide +kernel
theorem dX12_drops_5 : decode cX12_drops 5 = .ok (.aload_n 0, 1) := by decide +kernel
theorem dX12_drops_6 : decode cX12_drops 6 = .ok (.iload_n 1, 1) := by decide +kernel
theorem dX12_drops_7 : decode cX12_drops 7 = .ok (.invokevirtual 336, 3) := by decide +kernel
theorem dX12_drops_10 : decode cX12_drops 10 = .ok (.ifCond .ne 6, 3) := by decide +kernel
theorem dX12_drops_13 : decode cX12_drops 13 = .ok (.bipush (-2), 2) := by decide +kernel
theorem dX12_drops_15 : decode cX12_drops 15 = .ok (.ireturn, 1) := by decide +kernel
theorem dX12_origins_0 : decode cX12_origins 0 = .ok (.aload_n 0, 1) := by decide +kernel
theorem dX12_origins_1 : decode cX12_origins 1 = .ok (.iconst 0, 1) := by decide +kernel
theorem dX12_origins_2 : decode cX12_origins 2 = .ok (.putfield 74, 3) := by decide +kernel
theorem dX12_origins_5 : decode cX12_origins 5 = .ok (.aload_n 0, 1) := by decide +kernel
theorem dX12_origins_6 : decode cX12_origins 6 = .ok (.iload_n 3, 1) := by decide +kernel
theorem dX12_origins_7 : decode cX12_origins 7 = .ok (.i2l, 1) := by decide +kernel
theorem dX12_origins_8 : decode cX12_origins 8 = .ok (.invokevirtual 268, 3) := by decide +kernel
theorem dX12_origins_11 : decode cX12_origins 11 = .ok (.ifCond .eq 28, 3) := by decide +kernel
theorem dX12_origins_39 : decode cX12_origins 39 = .ok (.bipush (-2), 2) := by decide +kernel
theorem dX12_origins_41 : decode cX12_origins 41 = .ok (.ireturn, 1) := by decide +kernel
theorem dX12_when_0 : decode cX12_when 0 = .ok (.aload_n 0, 1) := by decide +kernel
theorem dX12_when_1 : decode cX12_when 1 = .ok (.iconst 0, 1) := by decide +kernel
theorem dX12_when_2 : decode cX12_when 2 = .ok (.putfield 74, 3) := by decide +kernel
theorem dX12_when_5 : decode cX12_when 5 = .ok (.aload_n 0, 1) := by decide +kernel
theorem dX12_when_6 : decode cX12_when 6 = .ok (.iload_n 1, 1) := by decide +kernel
theorem dX12_when_7 : decode cX12_when 7 = .ok (.i2l, 1) := by decide +kernel
theorem dX12_when_8 : decode cX12_when 8 = .ok (.invokevirtual 268, 3) := by decide +kernel
theorem dX12_when_11 : decode cX12_when 11 = .ok (.ifCond .eq 24, 3) := by decide +kernel
theorem dX12_when_35 : decode cX12_when 35 = .ok (.bipush (-2), 2) := by decide +kernel
theorem dX12_when_37 : decode cX12_when 37 = .ok (.ireturn, 1) := by decide +kernel
theorem dX12_share_0 : decode cX12_share 0 = .ok (.aload_n 0, 1) := by decide +kernel
theorem dX12_share_1 : decode cX12_share 1 = .ok (.iconst 0, 1) := by decide +kernel
theorem dX12_share_2 : decode cX12_share 2 = .ok (.putfield 74, 3) := by decide +kernel
theorem dX12_share_5 : decode cX12_share 5 = .ok (.aload_n 0, 1) := by decide +kernel
theorem dX12_share_6 : decode cX12_share 6 = .ok (.iload_n 1, 1) := by decide +kernel
theorem dX12_share_7 : decode cX12_share 7 = .ok (.invokevirtual 319, 3) := by decide +kernel
theorem dX12_share_10 : decode cX12_share 10 = .ok (.ifCond .ne 6, 3) := by decide +kernel
theorem dX12_share_13 : decode cX12_share 13 = .ok (.bipush (-2), 2) := by decide +kernel
theorem dX12_share_15 : decode cX12_share 15 = .ok (.ireturn, 1) := by decide +kernel
theorem dX12_seat_0 : decode cX12_seat 0 = .ok (.aload_n 0, 1) := by decide +kernel
theorem dX12_seat_1 : decode cX12_seat 1 = .ok (.iconst 0, 1) := by decide +kernel
theorem dX12_seat_2 : decode cX12_seat 2 = .ok (.putfield 74, 3) := by decide +kernel
theorem dX12_seat_5 : decode cX12_seat 5 = .ok (.aload_n 0, 1) := by decide +kernel
theorem dX12_seat_6 : decode cX12_seat 6 = .ok (.iload_n 1, 1) := by decide +kernel
theorem dX12_seat_7 : decode cX12_seat 7 = .ok (.invokevirtual 319, 3) := by decide +kernel
theorem dX12_seat_10 : decode cX12_seat 10 = .ok (.ifCond .eq 12, 3) := by decide +kernel
theorem dX12_seat_22 : decode cX12_seat 22 = .ok (.bipush (-2), 2) := by decide +kernel
theorem dX12_seat_24 : decode cX12_seat 24 = .ok (.ireturn, 1) := by decide +kernel
theorem dX12_seats_0 : decode cX12_seats 0 = .ok (.aload_n 0, 1) := by decide +kernel
theorem dX12_seats_1 : decode cX12_seats 1 = .ok (.iconst 0, 1) := by decide +kernel
theorem dX12_seats_2 : decode cX12_seats 2 = .ok (.putfield 74, 3) := by decide +kernel
theorem dX12_seats_5 : decode cX12_seats 5 = .ok (.aload_n 0, 1) := by decide +kernel
theorem dX12_seats_6 : decode cX12_seats 6 = .ok (.iload_n 1, 1) := by decide +kernel
theorem dX12_seats_7 : decode cX12_seats 7 = .ok (.invokevirtual 319, 3) := by decide +kernel
theorem dX12_seats_10 : decode cX12_seats 10 = .ok (.ifCond .ne 6, 3) := by decide +kernel
theorem dX12_seats_13 : decode cX12_seats 13 = .ok (.bipush (-2), 2) := by decide +kernel
theorem dX12_seats_15 : decode cX12_seats 15 = .ok (.ireturn, 1) := by decide +kernel
theorem dX12_rests__0 : decode cX12_rests_ 0 = .ok (.aload_n 0, 1) := by decide +kernel
theorem dX12_rests__1 : decode cX12_rests_ 1 = .ok (.iconst 0, 1) := by decide +kernel
theorem dX12_rests__2 : decode cX12_rests_ 2 = .ok (.putfield 74, 3) := by decide +kernel
theorem dX12_rests__5 : decode cX12_rests_ 5 = .ok (.aload_n 0, 1) := by decide +kernel
theorem dX12_rests__6 : decode cX12_rests_ 6 = .ok (.invokevirtual 250, 3) := by decide +kernel
theorem dX12_rests__9 : decode cX12_rests_ 9 = .ok (.ifCond .eq 10, 3) := by decide +kernel
theorem dX12_rests__19 : decode cX12_rests_ 19 = .ok (.bipush (-2), 2) := by decide +kernel
theorem dX12_rests__21 : decode cX12_rests_ 21 = .ok (.ireturn, 1) := by decide +kernel
theorem dX12_rest_0 : decode cX12_rest 0 = .ok (.aload_n 0, 1) := by decide +kernel
theorem dX12_rest_1 : decode cX12_rest 1 = .ok (.iconst 0, 1) := by decide +kernel
theorem dX12_rest_2 : decode cX12_rest 2 = .ok (.putfield 74, 3) := by decide +kernel
theorem dX12_rest_5 : decode cX12_rest 5 = .ok (.aload_n 0, 1) := by decide +kernel
theorem dX12_rest_6 : decode cX12_rest 6 = .ok (.iload_n 1, 1) := by decide +kernel
theorem dX12_rest_7 : decode cX12_rest 7 = .ok (.invokevirtual 319, 3) := by decide +kernel
theorem dX12_rest_10 : decode cX12_rest 10 = .ok (.ifCond .ne 6, 3) := by decide +kernel
theorem dX12_rest_13 : decode cX12_rest 13 = .ok (.bipush (-2), 2) := by decide +kernel
theorem dX12_rest_15 : decode cX12_rest 15 = .ok (.ireturn, 1) := by decide +kernel
theorem dX12_sit_0 : decode cX12_sit 0 = .ok (.aload_n 0, 1) := by decide +kernel
theorem dX12_sit_1 : decode cX12_sit 1 = .ok (.iconst 0, 1) := by decide +kernel
theorem dX12_sit_2 : decode cX12_sit 2 = .ok (.putfield 74, 3) := by decide +kernel
theorem dX12_sit_5 : decode cX12_sit 5 = .ok (.aload_n 0, 1) := by decide +kernel
theorem dX12_sit_6 : decode cX12_sit 6 = .ok (.iload_n 1, 1) := by decide +kernel
theorem dX12_sit_7 : decode cX12_sit 7 = .ok (.invokevirtual 319, 3) := by decide +kernel
theorem dX12_sit_10 : decode cX12_sit 10 = .ok (.ifCond .eq 12, 3) := by decide +kernel
theorem dX12_sit_22 : decode cX12_sit 22 = .ok (.bipush (-2), 2) := by decide +kernel
theorem dX12_sit_24 : decode cX12_sit 24 = .ok (.ireturn, 1) := by decide +kernel
theorem dX12_shove_0 : decode cX12_shove 0 = .ok (.aload_n 0, 1) := by decide +kernel
theorem dX12_shove_1 : decode cX12_shove 1 = .ok (.iconst 0, 1) := by decide +kernel
theorem dX12_shove_2 : decode cX12_shove 2 = .ok (.putfield 74, 3) := by decide +kernel
theorem dX12_shove_5 : decode cX12_shove 5 = .ok (.aload_n 0, 1) := by decide +kernel
theorem dX12_shove_6 : decode cX12_shove 6 = .ok (.iload_n 1, 1) := by decide +kernel
theorem dX12_shove_7 : decode cX12_shove 7 = .ok (.invokevirtual 276, 3) := by decide +kernel
theorem dX12_shove_10 : decode cX12_shove 10 = .ok (.ifCond .eq 25, 3) := by decide +kernel
theorem dX12_shove_35 : decode cX12_shove 35 = .ok (.bipush (-2), 2) := by decide +kernel
theorem dX12_shove_37 : decode cX12_shove 37 = .ok (.ireturn, 1) := by decide +kernel
theorem dX12_undo_0 : decode cX12_undo 0 = .ok (.aload_n 0, 1) := by decide +kernel
theorem dX12_undo_1 : decode cX12_undo 1 = .ok (.iconst 0, 1) := by decide +kernel
theorem dX12_undo_2 : decode cX12_undo 2 = .ok (.putfield 74, 3) := by decide +kernel
theorem dX12_undo_5 : decode cX12_undo 5 = .ok (.aload_n 0, 1) := by decide +kernel
theorem dX12_undo_6 : decode cX12_undo 6 = .ok (.invokevirtual 250, 3) := by decide +kernel
theorem dX12_undo_9 : decode cX12_undo 9 = .ok (.ifCond .ne 6, 3) := by decide +kernel
theorem dX12_undo_12 : decode cX12_undo 12 = .ok (.bipush (-2), 2) := by decide +kernel
theorem dX12_undo_14 : decode cX12_undo 14 = .ok (.ireturn, 1) := by decide +kernel
theorem dX12_anew_0 : decode cX12_anew 0 = .ok (.aload_n 0, 1) := by decide +kernel
theorem dX12_anew_1 : decode cX12_anew 1 = .ok (.iconst 0, 1) := by decide +kernel
theorem dX12_anew_2 : decode cX12_anew 2 = .ok (.putfield 74, 3) := by decide +kernel
theorem dX12_anew_5 : decode cX12_anew 5 = .ok (.aload_n 0, 1) := by decide +kernel
theorem dX12_anew_6 : decode cX12_anew 6 = .ok (.invokevirtual 250, 3) := by decide +kernel
theorem dX12_anew_9 : decode cX12_anew 9 = .ok (.ifCond .ne 6, 3) := by decide +kernel
theorem dX12_anew_12 : decode cX12_anew 12 = .ok (.bipush (-2), 2) := by decide +kernel
theorem dX12_anew_14 : decode cX12_anew 14 = .ok (.ireturn, 1) := by decide +kernel
theorem dX12_rate_0 : decode cX12_rate 0 = .ok (.aload_n 0, 1) := by decide +kernel
theorem dX12_rate_1 : decode cX12_rate 1 = .ok (.iconst 0, 1) := by decide +kernel
theorem dX12_rate_2 : decode cX12_rate 2 = .ok (.putfield 74, 3) := by decide +kernel
theorem dX12_rate_5 : decode cX12_rate 5 = .ok (.aload_n 0, 1) := by decide +kernel
theorem dX12_rate_6 : decode cX12_rate 6 = .ok (.iload_n 1, 1) := by decide +kernel
theorem dX12_rate_7 : decode cX12_rate 7 = .ok (.invokevirtual 276, 3) := by decide +kernel
theorem dX12_rate_10 : decode cX12_rate 10 = .ok (.ifCond .eq 15, 3) := by decide +kernel
theorem dX12_rate_25 : decode cX12_rate 25 = .ok (.bipush (-2), 2) := by decide +kernel
theorem dX12_rate_27 : decode cX12_rate 27 = .ok (.ireturn, 1) := by decide +kernel
theorem dX12_drawn_0 : decode cX12_drawn 0 = .ok (.aload_n 0, 1) := by decide +kernel
theorem dX12_drawn_1 : decode cX12_drawn 1 = .ok (.iconst 0, 1) := by decide +kernel
theorem dX12_drawn_2 : decode cX12_drawn 2 = .ok (.putfield 74, 3) := by decide +kernel
theorem dX12_drawn_5 : decode cX12_drawn 5 = .ok (.aload_n 0, 1) := by decide +kernel
theorem dX12_drawn_6 : decode cX12_drawn 6 = .ok (.iload_n 1, 1) := by decide +kernel
theorem dX12_drawn_7 : decode cX12_drawn 7 = .ok (.iload_n 2, 1) := by decide +kernel
theorem dX12_drawn_8 : decode cX12_drawn 8 = .ok (.invokevirtual 436, 3) := by decide +kernel
theorem dX12_drawn_11 : decode cX12_drawn 11 = .ok (.ifCond .eq 15, 3) := by decide +kernel
theorem dX12_drawn_26 : decode cX12_drawn 26 = .ok (.bipush (-2), 2) := by decide +kernel
theorem dX12_drawn_28 : decode cX12_drawn 28 = .ok (.ireturn, 1) := by decide +kernel
theorem dX12_luck_0 : decode cX12_luck 0 = .ok (.aload_n 0, 1) := by decide +kernel
theorem dX12_luck_1 : decode cX12_luck 1 = .ok (.iconst 0, 1) := by decide +kernel
theorem dX12_luck_2 : decode cX12_luck 2 = .ok (.putfield 74, 3) := by decide +kernel
theorem dX12_luck_5 : decode cX12_luck 5 = .ok (.aload_n 0, 1) := by decide +kernel
theorem dX12_luck_6 : decode cX12_luck 6 = .ok (.iload_n 1, 1) := by decide +kernel
theorem dX12_luck_7 : decode cX12_luck 7 = .ok (.iload_n 3, 1) := by decide +kernel
theorem dX12_luck_8 : decode cX12_luck 8 = .ok (.invokevirtual 436, 3) := by decide +kernel
theorem dX12_luck_11 : decode cX12_luck 11 = .ok (.ifCond .eq 24, 3) := by decide +kernel
theorem dX12_luck_35 : decode cX12_luck 35 = .ok (.bipush (-2), 2) := by decide +kernel
theorem dX12_luck_37 : decode cX12_luck 37 = .ok (.ireturn, 1) := by decide +kernel
theorem dX12_waits_0 : decode cX12_waits 0 = .ok (.aload_n 0, 1) := by decide +kernel
theorem dX12_waits_1 : decode cX12_waits 1 = .ok (.iconst 0, 1) := by decide +kernel
theorem dX12_waits_2 : decode cX12_waits 2 = .ok (.putfield 74, 3) := by decide +kernel
theorem dX12_waits_5 : decode cX12_waits 5 = .ok (.aload_n 0, 1) := by decide +kernel
theorem dX12_waits_6 : decode cX12_waits 6 = .ok (.iload_n 1, 1) := by decide +kernel
theorem dX12_waits_7 : decode cX12_waits 7 = .ok (.iload_n 3, 1) := by decide +kernel
theorem dX12_waits_8 : decode cX12_waits 8 = .ok (.invokevirtual 436, 3) := by decide +kernel
theorem dX12_waits_11 : decode cX12_waits 11 = .ok (.ifCond .eq 15, 3) := by decide +kernel
theorem dX12_waits_26 : decode cX12_waits 26 = .ok (.bipush (-2), 2) := by decide +kernel
theorem dX12_waits_28 : decode cX12_waits 28 = .ok (.ireturn, 1) := by decide +kernel
theorem q1484 : Cond.fieldLink "EbbWreckModel" 31 "EbbWreckModel" "lines" "[I" ∈ lw_g := mg (List.mem_of_getElem? (i := 1484) (by decide +kernel)) rfl
theorem q1485 : Cond.fieldLink "EbbWreckModel" 34 "EbbWreckModel" "has" "[I" ∈ lw_g := mg (List.mem_of_getElem? (i := 1485) (by decide +kernel)) rfl
theorem q1593 : Cond.code ⟨"EbbWreckModel", "in", "(JJJ)Z"⟩ prog_14_method_3_code 6 (some .boolean) ∈ lw_g := mg (List.mem_of_getElem? (i := 1593) (by decide +kernel)) rfl
theorem q1592 : Cond.static ⟨"EbbWreckModel", "in", "(JJJ)Z"⟩ ∈ lw_g := mg (List.mem_of_getElem? (i := 1592) (by decide +kernel)) rfl
theorem q127 : Cond.initialized "EbbWreckModel" ∈ lw_g := mg (List.mem_of_getElem? (i := 127) (by decide +kernel)) rfl
theorem q1591 : Cond.methodLink "EbbWreckModel" 79 ⟨"EbbWreckModel", "in", "(JJJ)Z"⟩ ∈ lw_g := mg (List.mem_of_getElem? (i := 1591) (by decide +kernel)) rfl
theorem q1785 : Cond.code ⟨"EbbWreckModel", "isShore", "()Z"⟩ prog_14_method_39_code 1 (some .boolean) ∈ lw_g := mg (List.mem_of_getElem? (i := 1785) (by decide +kernel)) rfl
theorem q1784 : Cond.instanceMethod ⟨"EbbWreckModel", "isShore", "()Z"⟩ ∈ lw_g := mg (List.mem_of_getElem? (i := 1784) (by decide +kernel)) rfl
theorem q76 : Cond.selects "EbbWreckModel" ⟨"EbbWreckModel", "isShore", "()Z"⟩ ⟨"EbbWreckModel", "isShore", "()Z"⟩ ∈ lw_g := mg (List.mem_of_getElem? (i := 76) (by decide +kernel)) rfl
theorem q1782 : Cond.methodLink "EbbWreckModel" 250 ⟨"EbbWreckModel", "isShore", "()Z"⟩ ∈ lw_g := mg (List.mem_of_getElem? (i := 1782) (by decide +kernel)) rfl
theorem q1769 : Cond.code ⟨"EbbWreckModel", "isThing", "(I)Z"⟩ prog_14_method_41_code 2 (some .boolean) ∈ lw_g := mg (List.mem_of_getElem? (i := 1769) (by decide +kernel)) rfl
theorem q1768 : Cond.instanceMethod ⟨"EbbWreckModel", "isThing", "(I)Z"⟩ ∈ lw_g := mg (List.mem_of_getElem? (i := 1768) (by decide +kernel)) rfl
theorem q74 : Cond.selects "EbbWreckModel" ⟨"EbbWreckModel", "isThing", "(I)Z"⟩ ⟨"EbbWreckModel", "isThing", "(I)Z"⟩ ∈ lw_g := mg (List.mem_of_getElem? (i := 74) (by decide +kernel)) rfl
theorem q1766 : Cond.methodLink "EbbWreckModel" 276 ⟨"EbbWreckModel", "isThing", "(I)Z"⟩ ∈ lw_g := mg (List.mem_of_getElem? (i := 1766) (by decide +kernel)) rfl
theorem q1786 : Cond.constantLong "EbbWreckModel" 282 2000000000 ∈ lw_g := mg (List.mem_of_getElem? (i := 1786) (by decide +kernel)) rfl
theorem q1468 : Cond.fieldLink "EbbWreckModel" 74 "EbbWreckModel" "thrown" "I" ∈ lw_g := mg (List.mem_of_getElem? (i := 1468) (by decide +kernel)) rfl
theorem q1753 : Cond.code ⟨"EbbWreckModel", "isCell", "(J)Z"⟩ prog_14_method_40_code 3 (some .boolean) ∈ lw_g := mg (List.mem_of_getElem? (i := 1753) (by decide +kernel)) rfl
theorem q1752 : Cond.instanceMethod ⟨"EbbWreckModel", "isCell", "(J)Z"⟩ ∈ lw_g := mg (List.mem_of_getElem? (i := 1752) (by decide +kernel)) rfl
theorem q72 : Cond.selects "EbbWreckModel" ⟨"EbbWreckModel", "isCell", "(J)Z"⟩ ⟨"EbbWreckModel", "isCell", "(J)Z"⟩ ∈ lw_g := mg (List.mem_of_getElem? (i := 72) (by decide +kernel)) rfl
theorem q1750 : Cond.methodLink "EbbWreckModel" 268 ⟨"EbbWreckModel", "isCell", "(J)Z"⟩ ∈ lw_g := mg (List.mem_of_getElem? (i := 1750) (by decide +kernel)) rfl
theorem q1777 : Cond.code ⟨"EbbWreckModel", "isRule", "(I)Z"⟩ prog_14_method_42_code 2 (some .boolean) ∈ lw_g := mg (List.mem_of_getElem? (i := 1777) (by decide +kernel)) rfl
theorem q1776 : Cond.instanceMethod ⟨"EbbWreckModel", "isRule", "(I)Z"⟩ ∈ lw_g := mg (List.mem_of_getElem? (i := 1776) (by decide +kernel)) rfl
theorem q75 : Cond.selects "EbbWreckModel" ⟨"EbbWreckModel", "isRule", "(I)Z"⟩ ⟨"EbbWreckModel", "isRule", "(I)Z"⟩ ∈ lw_g := mg (List.mem_of_getElem? (i := 75) (by decide +kernel)) rfl
theorem q1774 : Cond.methodLink "EbbWreckModel" 279 ⟨"EbbWreckModel", "isRule", "(I)Z"⟩ ∈ lw_g := mg (List.mem_of_getElem? (i := 1774) (by decide +kernel)) rfl
theorem q1819 : Cond.code ⟨"EbbWreckModel", "isSitter", "(I)Z"⟩ prog_14_method_43_code 2 (some .boolean) ∈ lw_g := mg (List.mem_of_getElem? (i := 1819) (by decide +kernel)) rfl
theorem q1818 : Cond.instanceMethod ⟨"EbbWreckModel", "isSitter", "(I)Z"⟩ ∈ lw_g := mg (List.mem_of_getElem? (i := 1818) (by decide +kernel)) rfl
theorem q81 : Cond.selects "EbbWreckModel" ⟨"EbbWreckModel", "isSitter", "(I)Z"⟩ ⟨"EbbWreckModel", "isSitter", "(I)Z"⟩ ∈ lw_g := mg (List.mem_of_getElem? (i := 81) (by decide +kernel)) rfl
theorem q1816 : Cond.methodLink "EbbWreckModel" 319 ⟨"EbbWreckModel", "isSitter", "(I)Z"⟩ ∈ lw_g := mg (List.mem_of_getElem? (i := 1816) (by decide +kernel)) rfl
theorem q1877 : Cond.code ⟨"EbbWreckModel", "isParty", "(I)Z"⟩ prog_14_method_44_code 2 (some .boolean) ∈ lw_g := mg (List.mem_of_getElem? (i := 1877) (by decide +kernel)) rfl
theorem q1876 : Cond.instanceMethod ⟨"EbbWreckModel", "isParty", "(I)Z"⟩ ∈ lw_g := mg (List.mem_of_getElem? (i := 1876) (by decide +kernel)) rfl
theorem q89 : Cond.selects "EbbWreckModel" ⟨"EbbWreckModel", "isParty", "(I)Z"⟩ ⟨"EbbWreckModel", "isParty", "(I)Z"⟩ ∈ lw_g := mg (List.mem_of_getElem? (i := 89) (by decide +kernel)) rfl
theorem q1874 : Cond.methodLink "EbbWreckModel" 336 ⟨"EbbWreckModel", "isParty", "(I)Z"⟩ ∈ lw_g := mg (List.mem_of_getElem? (i := 1874) (by decide +kernel)) rfl
theorem q1925 : Cond.code ⟨"EbbWreckModel", "isPush", "(II)Z"⟩ prog_14_method_83_code 3 (some .boolean) ∈ lw_g := mg (List.mem_of_getElem? (i := 1925) (by decide +kernel)) rfl
theorem q1924 : Cond.instanceMethod ⟨"EbbWreckModel", "isPush", "(II)Z"⟩ ∈ lw_g := mg (List.mem_of_getElem? (i := 1924) (by decide +kernel)) rfl
theorem q93 : Cond.selects "EbbWreckModel" ⟨"EbbWreckModel", "isPush", "(II)Z"⟩ ⟨"EbbWreckModel", "isPush", "(II)Z"⟩ ∈ lw_g := mg (List.mem_of_getElem? (i := 93) (by decide +kernel)) rfl
theorem q1922 : Cond.methodLink "EbbWreckModel" 352 ⟨"EbbWreckModel", "isPush", "(II)Z"⟩ ∈ lw_g := mg (List.mem_of_getElem? (i := 1922) (by decide +kernel)) rfl
theorem q2131 : Cond.code ⟨"EbbWreckModel", "isDraw", "(II)Z"⟩ prog_14_method_131_code 3 (some .boolean) ∈ lw_g := mg (List.mem_of_getElem? (i := 2131) (by decide +kernel)) rfl
theorem q2130 : Cond.instanceMethod ⟨"EbbWreckModel", "isDraw", "(II)Z"⟩ ∈ lw_g := mg (List.mem_of_getElem? (i := 2130) (by decide +kernel)) rfl
theorem q112 : Cond.selects "EbbWreckModel" ⟨"EbbWreckModel", "isDraw", "(II)Z"⟩ ⟨"EbbWreckModel", "isDraw", "(II)Z"⟩ ∈ lw_g := mg (List.mem_of_getElem? (i := 112) (by decide +kernel)) rfl
theorem q2128 : Cond.methodLink "EbbWreckModel" 436 ⟨"EbbWreckModel", "isDraw", "(II)Z"⟩ ∈ lw_g := mg (List.mem_of_getElem? (i := 2128) (by decide +kernel)) rfl
theorem mX12_in : CmS yX12_in cX12_in 6 (some .boolean) 3 := ⟨q1592, q127, q1593, ⟨by decide, by decide, by decide +kernel⟩⟩
theorem mX12_isShore : CmV "EbbWreckModel" yX12_isShore cX12_isShore 1 (some .boolean) 0 := ⟨q1784, q76, q127, q1785, ⟨rfl, by decide, by decide, by decide +kernel⟩⟩
theorem mX12_isThing : CmV "EbbWreckModel" yX12_isThing cX12_isThing 2 (some .boolean) 1 := ⟨q1768, q74, q127, q1769, ⟨rfl, by decide, by decide, by decide +kernel⟩⟩
theorem mX12_isCell : CmV "EbbWreckModel" yX12_isCell cX12_isCell 3 (some .boolean) 1 := ⟨q1752, q72, q127, q1753, ⟨rfl, by decide, by decide, by decide +kernel⟩⟩
theorem mX12_isRule : CmV "EbbWreckModel" yX12_isRule cX12_isRule 2 (some .boolean) 1 := ⟨q1776, q75, q127, q1777, ⟨rfl, by decide, by decide, by decide +kernel⟩⟩
theorem mX12_isSitter : CmV "EbbWreckModel" yX12_isSitter cX12_isSitter 2 (some .boolean) 1 := ⟨q1818, q81, q127, q1819, ⟨rfl, by decide, by decide, by decide +kernel⟩⟩
theorem mX12_isParty : CmV "EbbWreckModel" yX12_isParty cX12_isParty 2 (some .boolean) 1 := ⟨q1876, q89, q127, q1877, ⟨rfl, by decide, by decide, by decide +kernel⟩⟩
theorem mX12_isPush : CmV "EbbWreckModel" yX12_isPush cX12_isPush 3 (some .boolean) 2 := ⟨q1924, q93, q127, q1925, ⟨rfl, by decide, by decide, by decide +kernel⟩⟩
theorem mX12_isDraw : CmV "EbbWreckModel" yX12_isDraw cX12_isDraw 3 (some .boolean) 2 := ⟨q2130, q112, q127, q2131, ⟨rfl, by decide, by decide, by decide +kernel⟩⟩
end
section
set_option maxHeartbeats 4000000 in
set_option maxRecDepth 100000 in
theorem uX12_in (l : Launch) (g : GG) (ad : Nat → Nat) (N : Nat) (hD : Dj ad N) (S : SS) (a1 : Int64) (a2 : Int64) (a3 : Int64) : Met l yX12_in (wG (.code yX12_in cX12_in 6 (some .boolean))) (Rm 0) (XPre g ad N S [.long a1, .long a2, .long a3]) (va_Qi (fun r S' => S = S' ∧ ((r = 1 ∧ a2 ≤ a1 ∧ a1 ≤ a3) ∨ (r = 0 ∧ ¬ (a2 ≤ a1 ∧ a1 ≤ a3)))) (QB g ad N) (FA ad N)) 0 0 (FA ad N) := by
  refine xmet cX12_in "EbbWreckModel" (by decide) rfl (Nat.le_of_ble_eq_true rfl) (fun p e s m below meth c E hr hlk hml hQ ls hl => ?_)
  have hx := E.1
  have hb := E.2.1
  have hs : Sp ad N (FA ad N) := Sp.fa hD
  have hl : lv_has ls 6 [(0, .long a1), (2, .long a2), (4, .long a3)] := hl
  refine lv_lload_n hx hb dX12_in_0 rfl (lv_at hl 0 rfl) ?_
  refine lv_lload_n hx hb dX12_in_1 rfl (lv_at hl 1 rfl) ?_
  refine W.lcmp hx hb dX12_in_2 ?_
  refine lv_if_lt (tgt := 17) hx hb dX12_in_3 (by decide) (fun k_1 => ?_) (fun k_1 => ?_)
  · refine lv_iconst (v := 0) hx hb dX12_in_17 (by decide) ?_
    exact xrz E hr hlk hQ rfl (⟨rfl, Or.inr ⟨rfl, fun h => Int64.not_lt.mpr h.1 ((lg_cmp_lt _ _).mp k_1)⟩⟩) dX12_in_18
  · refine lv_lload_n hx hb dX12_in_6 rfl (lv_at hl 0 rfl) ?_
    refine lv_lload hx hb dX12_in_7 (lv_at hl 2 rfl) ?_
    refine W.lcmp hx hb dX12_in_9 ?_
    refine lv_if_gt (tgt := 17) hx hb dX12_in_10 (by decide) (fun k_2 => ?_) (fun k_2 => ?_)
    · refine lv_iconst (v := 0) hx hb dX12_in_17 (by decide) ?_
      exact xrz E hr hlk hQ rfl (⟨rfl, Or.inr ⟨rfl, fun h => Int64.not_lt.mpr h.2 ((lg_cmp_gt _ _).mp k_2)⟩⟩) dX12_in_18
    · refine lv_iconst (v := 1) hx hb dX12_in_13 (by decide) ?_
      refine lv_goto (tgt := 18) hx hb dX12_in_14 (by decide) ?_
      exact xrz E hr hlk hQ rfl (⟨rfl, Or.inl ⟨rfl, Int64.not_lt.mp (fun h => k_1 ((lg_cmp_lt _ _).mpr h)), Int64.not_lt.mp (fun h => k_2 ((lg_cmp_gt _ _).mpr h))⟩⟩) dX12_in_18
set_option maxHeartbeats 4000000 in
set_option maxRecDepth 100000 in
theorem fX12_isShore (l : Launch) (g : GG) (ad : Nat → Nat) (hD : Dj ad 20) (S : SS) (hX : ∀ i, i < 20 → S i = M0 g ad i) : Met l yX12_isShore (wG (.code yX12_isShore cX12_isShore 1 (some .boolean))) (Rm 0) (XPre g ad 20 S [.ref (ad 0)]) (va_Qi (fun r S' => S = S' ∧ r = 0) (QB g ad 20) (FA ad 20)) 0 0 (FA ad 20) := by
  refine xmet cX12_isShore "EbbWreckModel" (by decide) rfl (Nat.le_of_ble_eq_true rfl) (fun p e s m below meth c E hr hlk hml hQ ls hl => ?_)
  have hx := E.1
  have hb := E.2.1
  have hs : Sp ad 20 (FA ad 20) := Sp.fa hD
  have hl : lv_has ls 1 [(0, .ref (ad 0))] := hl
  refine lv_aload_n hx hb dX12_isShore_0 rfl (lv_at hl 0 rfl) ?_
  have c_1 : S 0 = .inr (12, [.int 0, .ref (ad 1), .ref (ad 2), .ref (ad 3), .ref (ad 4), .ref (ad 5), .int 0, .int 0, .int 0, .int 0, .int 0, .long 0, .int 0, .int 0, .int 0, .int (-1), .ref (ad 6), .ref (ad 7), .ref (ad 8), .ref (ad 9), .ref (ad 10), .ref (ad 11), .ref (ad 12), .ref (ad 13), .ref (ad 14), .ref (ad 15), .int 0, .int 0, .ref (ad 16), .int 0, .int 0, .int 0, .int 0, .int 0, .ref (ad 17), .ref (ad 18), .int 0, .ref (ad 19)]) := (hX 0 (by decide))
  refine xget E hQ 0 (by decide) c_1 rfl 16 (by decide) q1484 rfl dX12_isShore_1 ?_
  refine lv_iconst (v := 0) hx hb dX12_isShore_4 (by decide) ?_
  have c_2 : S 6 = .inl (g.2 0, 5, .inl zf) := (hX 6 (by decide))
  refine xiald E hQ 6 (by decide) c_2 (vp_in_lit 0 5 (by decide)) dX12_isShore_5 ?_
  refine sb_at (P := fun z => W _ _ _ _ _ _ _ _ _ _ _ _ _ _ _ (F0 _ _ _ (.int z :: _))) (show zf (0 : Int32).toNatClampNeg = 0 from rfl) ?_
  refine lv_if_le (tgt := 13) hx hb dX12_isShore_6 (by decide) (fun k_3 => ?_) (fun k_3 => absurd k_3 (by decide))
  refine lv_iconst (v := 0) hx hb dX12_isShore_13 (by decide) ?_
  exact xrz E hr hlk hQ rfl (⟨rfl, rfl⟩) dX12_isShore_14
set_option maxHeartbeats 4000000 in
set_option maxRecDepth 100000 in
theorem fX12_isCell (l : Launch) (g : GG) (ad : Nat → Nat) (hD : Dj ad 20) (S : SS) (hX : ∀ i, i < 20 → S i = M0 g ad i) (a1 : Int64) : Met l yX12_isCell (wG (.code yX12_isCell cX12_isCell 3 (some .boolean))) (Rm 1) (XPre g ad 20 S [.ref (ad 0), .long a1]) (va_Qi (fun r S' => S = S' ∧ r = 0) (QB g ad 20) (FA ad 20)) 0 0 (FA ad 20) := by
  refine xmet cX12_isCell "EbbWreckModel" (by decide) rfl (Nat.le_of_ble_eq_true rfl) (fun p e s m below meth c E hr hlk hml hQ ls hl => ?_)
  have hx := E.1
  have hb := E.2.1
  have hs : Sp ad 20 (FA ad 20) := Sp.fa hD
  have hl : lv_has ls 3 [(0, .ref (ad 0)), (1, .long a1)] := hl
  refine lv_lload_n hx hb dX12_isCell_0 rfl (lv_at hl 1 rfl) ?_
  refine lv_lconst (v := 0) hx hb dX12_isCell_1 (by decide) ?_
  refine lv_aload_n hx hb dX12_isCell_2 rfl (lv_at hl 0 rfl) ?_
  have c_1 : S 0 = .inr (12, [.int 0, .ref (ad 1), .ref (ad 2), .ref (ad 3), .ref (ad 4), .ref (ad 5), .int 0, .int 0, .int 0, .int 0, .int 0, .long 0, .int 0, .int 0, .int 0, .int (-1), .ref (ad 6), .ref (ad 7), .ref (ad 8), .ref (ad 9), .ref (ad 10), .ref (ad 11), .ref (ad 12), .ref (ad 13), .ref (ad 14), .ref (ad 15), .int 0, .int 0, .ref (ad 16), .int 0, .int 0, .int 0, .int 0, .int 0, .ref (ad 17), .ref (ad 18), .int 0, .ref (ad 19)]) := (hX 0 (by decide))
  refine xget E hQ 0 (by decide) c_1 rfl 17 (by decide) q1485 rfl dX12_isCell_3 ?_
  refine lv_iconst (v := 0) hx hb dX12_isCell_6 (by decide) ?_
  have c_2 : S 7 = .inl (g.2 0, 50, .inl zf) := (hX 7 (by decide))
  refine xiald E hQ 7 (by decide) c_2 (vp_in_lit 0 50 (by decide)) dX12_isCell_7 ?_
  refine sb_at (P := fun z => W _ _ _ _ _ _ _ _ _ _ _ _ _ _ _ (F0 _ _ _ (.int z :: _))) (show zf (0 : Int32).toNatClampNeg = 0 from rfl) ?_
  refine lv_i2l (v := 0) hx hb dX12_isCell_8 (by decide) ?_
  refine lv_lconst (v := 1) hx hb dX12_isCell_9 (by decide) ?_
  refine lv_lsub hx hb dX12_isCell_10 ?_
  refine sb_atl (P := fun z => W _ _ _ _ _ _ _ _ _ _ _ _ _ _ _ (F0 _ _ _ (.long z :: _))) (show (0 : Int64) - 1 = (-1) by decide) ?_
  refine xcSi E hs hQ hml hl.1 (uX12_in l g ad _ hD S a1 0 (-1)) mX12_in q1591 rfl ⟨by decide, by decide⟩ ⟨by decide, by decide⟩ (by decide) rfl dX12_isCell_11 (fun r3 S3 H locs hp3 hQ => ?_)
  obtain ⟨rfl, hp3⟩ := hp3
  have hz3 : r3 = 0 := by
    rcases hp3 with ⟨_, h1, h2⟩ | ⟨h, _⟩
    · exact absurd (Int64.le_trans h1 h2) (by decide)
    · exact h
  subst hz3
  exact xrz E hr hlk hQ rfl (⟨rfl, rfl⟩) dX12_isCell_14
set_option maxHeartbeats 4000000 in
set_option maxRecDepth 100000 in
theorem fX12_isThing (l : Launch) (g : GG) (ad : Nat → Nat) (hD : Dj ad 20) (S : SS) (hX : ∀ i, i < 20 → S i = M0 g ad i) (a1 : Int32) : Met l yX12_isThing (wG (.code yX12_isThing cX12_isThing 2 (some .boolean))) (Rm 1) (XPre g ad 20 S [.ref (ad 0), .int a1]) (va_Qi (fun r S' => S = S' ∧ r = 0) (QB g ad 20) (FA ad 20)) 0 0 (FA ad 20) := by
  refine xmet cX12_isThing "EbbWreckModel" (by decide) rfl (Nat.le_of_ble_eq_true rfl) (fun p e s m below meth c E hr hlk hml hQ ls hl => ?_)
  have hx := E.1
  have hb := E.2.1
  have hs : Sp ad 20 (FA ad 20) := Sp.fa hD
  have hl : lv_has ls 2 [(0, .ref (ad 0)), (1, .int a1)] := hl
  refine lv_iload_n hx hb dX12_isThing_0 rfl (lv_at hl 1 rfl) ?_
  refine lv_i2l hx hb dX12_isThing_1 rfl ?_
  refine lv_lconst (v := 0) hx hb dX12_isThing_2 (by decide) ?_
  refine lv_aload_n hx hb dX12_isThing_3 rfl (lv_at hl 0 rfl) ?_
  have c_1 : S 0 = .inr (12, [.int 0, .ref (ad 1), .ref (ad 2), .ref (ad 3), .ref (ad 4), .ref (ad 5), .int 0, .int 0, .int 0, .int 0, .int 0, .long 0, .int 0, .int 0, .int 0, .int (-1), .ref (ad 6), .ref (ad 7), .ref (ad 8), .ref (ad 9), .ref (ad 10), .ref (ad 11), .ref (ad 12), .ref (ad 13), .ref (ad 14), .ref (ad 15), .int 0, .int 0, .ref (ad 16), .int 0, .int 0, .int 0, .int 0, .int 0, .ref (ad 17), .ref (ad 18), .int 0, .ref (ad 19)]) := (hX 0 (by decide))
  refine xget E hQ 0 (by decide) c_1 rfl 17 (by decide) q1485 rfl dX12_isThing_4 ?_
  refine lv_bipush (v := 6) hx hb dX12_isThing_7 (by decide) ?_
  have c_2 : S 7 = .inl (g.2 0, 50, .inl zf) := (hX 7 (by decide))
  refine xiald E hQ 7 (by decide) c_2 (vp_in_lit 6 50 (by decide)) dX12_isThing_9 ?_
  refine sb_at (P := fun z => W _ _ _ _ _ _ _ _ _ _ _ _ _ _ _ (F0 _ _ _ (.int z :: _))) (show zf (6 : Int32).toNatClampNeg = 0 from rfl) ?_
  refine lv_iconst (v := 1) hx hb dX12_isThing_10 (by decide) ?_
  refine lv_isub hx hb dX12_isThing_11 ?_
  refine sb_at (P := fun z => W _ _ _ _ _ _ _ _ _ _ _ _ _ _ _ (F0 _ _ _ (.int z :: _))) (show (0 : Int32) - 1 = (-1) by decide) ?_
  refine lv_i2l (v := (-1)) hx hb dX12_isThing_12 (by decide) ?_
  refine xcSi E hs hQ hml hl.1 (uX12_in l g ad _ hD S a1.toInt64 0 (-1)) mX12_in q1591 rfl ⟨by decide, by decide⟩ ⟨by decide, by decide⟩ (by decide) rfl dX12_isThing_13 (fun r3 S3 H locs hp3 hQ => ?_)
  obtain ⟨rfl, hp3⟩ := hp3
  have hz3 : r3 = 0 := by
    rcases hp3 with ⟨_, h1, h2⟩ | ⟨h, _⟩
    · exact absurd (Int64.le_trans h1 h2) (by decide)
    · exact h
  subst hz3
  exact xrz E hr hlk hQ rfl (⟨rfl, rfl⟩) dX12_isThing_16
set_option maxHeartbeats 4000000 in
set_option maxRecDepth 100000 in
theorem fX12_isRule (l : Launch) (g : GG) (ad : Nat → Nat) (hD : Dj ad 20) (S : SS) (hX : ∀ i, i < 20 → S i = M0 g ad i) (a1 : Int32) : Met l yX12_isRule (wG (.code yX12_isRule cX12_isRule 2 (some .boolean))) (Rm 1) (XPre g ad 20 S [.ref (ad 0), .int a1]) (va_Qi (fun r S' => S = S' ∧ r = 0) (QB g ad 20) (FA ad 20)) 0 0 (FA ad 20) := by
  refine xmet cX12_isRule "EbbWreckModel" (by decide) rfl (Nat.le_of_ble_eq_true rfl) (fun p e s m below meth c E hr hlk hml hQ ls hl => ?_)
  have hx := E.1
  have hb := E.2.1
  have hs : Sp ad 20 (FA ad 20) := Sp.fa hD
  have hl : lv_has ls 2 [(0, .ref (ad 0)), (1, .int a1)] := hl
  refine lv_iload_n hx hb dX12_isRule_0 rfl (lv_at hl 1 rfl) ?_
  refine lv_i2l hx hb dX12_isRule_1 rfl ?_
  refine lv_lconst (v := 0) hx hb dX12_isRule_2 (by decide) ?_
  refine lv_aload_n hx hb dX12_isRule_3 rfl (lv_at hl 0 rfl) ?_
  have c_1 : S 0 = .inr (12, [.int 0, .ref (ad 1), .ref (ad 2), .ref (ad 3), .ref (ad 4), .ref (ad 5), .int 0, .int 0, .int 0, .int 0, .int 0, .long 0, .int 0, .int 0, .int 0, .int (-1), .ref (ad 6), .ref (ad 7), .ref (ad 8), .ref (ad 9), .ref (ad 10), .ref (ad 11), .ref (ad 12), .ref (ad 13), .ref (ad 14), .ref (ad 15), .int 0, .int 0, .ref (ad 16), .int 0, .int 0, .int 0, .int 0, .int 0, .ref (ad 17), .ref (ad 18), .int 0, .ref (ad 19)]) := (hX 0 (by decide))
  refine xget E hQ 0 (by decide) c_1 rfl 17 (by decide) q1485 rfl dX12_isRule_4 ?_
  refine lv_bipush (v := 7) hx hb dX12_isRule_7 (by decide) ?_
  have c_2 : S 7 = .inl (g.2 0, 50, .inl zf) := (hX 7 (by decide))
  refine xiald E hQ 7 (by decide) c_2 (vp_in_lit 7 50 (by decide)) dX12_isRule_9 ?_
  refine sb_at (P := fun z => W _ _ _ _ _ _ _ _ _ _ _ _ _ _ _ (F0 _ _ _ (.int z :: _))) (show zf (7 : Int32).toNatClampNeg = 0 from rfl) ?_
  refine lv_iconst (v := 1) hx hb dX12_isRule_10 (by decide) ?_
  refine lv_isub hx hb dX12_isRule_11 ?_
  refine sb_at (P := fun z => W _ _ _ _ _ _ _ _ _ _ _ _ _ _ _ (F0 _ _ _ (.int z :: _))) (show (0 : Int32) - 1 = (-1) by decide) ?_
  refine lv_i2l (v := (-1)) hx hb dX12_isRule_12 (by decide) ?_
  refine xcSi E hs hQ hml hl.1 (uX12_in l g ad _ hD S a1.toInt64 0 (-1)) mX12_in q1591 rfl ⟨by decide, by decide⟩ ⟨by decide, by decide⟩ (by decide) rfl dX12_isRule_13 (fun r3 S3 H locs hp3 hQ => ?_)
  obtain ⟨rfl, hp3⟩ := hp3
  have hz3 : r3 = 0 := by
    rcases hp3 with ⟨_, h1, h2⟩ | ⟨h, _⟩
    · exact absurd (Int64.le_trans h1 h2) (by decide)
    · exact h
  subst hz3
  exact xrz E hr hlk hQ rfl (⟨rfl, rfl⟩) dX12_isRule_16
set_option maxHeartbeats 4000000 in
set_option maxRecDepth 100000 in
theorem fX12_isSitter (l : Launch) (g : GG) (ad : Nat → Nat) (hD : Dj ad 20) (S : SS) (hX : ∀ i, i < 20 → S i = M0 g ad i) (a1 : Int32) : Met l yX12_isSitter (wG (.code yX12_isSitter cX12_isSitter 2 (some .boolean))) (Rm 1) (XPre g ad 20 S [.ref (ad 0), .int a1]) (va_Qi (fun r S' => S = S' ∧ r = 0) (QB g ad 20) (FA ad 20)) 0 0 (FA ad 20) := by
  refine xmet cX12_isSitter "EbbWreckModel" (by decide) rfl (Nat.le_of_ble_eq_true rfl) (fun p e s m below meth c E hr hlk hml hQ ls hl => ?_)
  have hx := E.1
  have hb := E.2.1
  have hs : Sp ad 20 (FA ad 20) := Sp.fa hD
  have hl : lv_has ls 2 [(0, .ref (ad 0)), (1, .int a1)] := hl
  refine lv_iload_n hx hb dX12_isSitter_0 rfl (lv_at hl 1 rfl) ?_
  refine lv_i2l hx hb dX12_isSitter_1 rfl ?_
  refine lv_lconst (v := 0) hx hb dX12_isSitter_2 (by decide) ?_
  refine lv_aload_n hx hb dX12_isSitter_3 rfl (lv_at hl 0 rfl) ?_
  have c_1 : S 0 = .inr (12, [.int 0, .ref (ad 1), .ref (ad 2), .ref (ad 3), .ref (ad 4), .ref (ad 5), .int 0, .int 0, .int 0, .int 0, .int 0, .long 0, .int 0, .int 0, .int 0, .int (-1), .ref (ad 6), .ref (ad 7), .ref (ad 8), .ref (ad 9), .ref (ad 10), .ref (ad 11), .ref (ad 12), .ref (ad 13), .ref (ad 14), .ref (ad 15), .int 0, .int 0, .ref (ad 16), .int 0, .int 0, .int 0, .int 0, .int 0, .ref (ad 17), .ref (ad 18), .int 0, .ref (ad 19)]) := (hX 0 (by decide))
  refine xget E hQ 0 (by decide) c_1 rfl 17 (by decide) q1485 rfl dX12_isSitter_4 ?_
  refine lv_bipush (v := 8) hx hb dX12_isSitter_7 (by decide) ?_
  have c_2 : S 7 = .inl (g.2 0, 50, .inl zf) := (hX 7 (by decide))
  refine xiald E hQ 7 (by decide) c_2 (vp_in_lit 8 50 (by decide)) dX12_isSitter_9 ?_
  refine sb_at (P := fun z => W _ _ _ _ _ _ _ _ _ _ _ _ _ _ _ (F0 _ _ _ (.int z :: _))) (show zf (8 : Int32).toNatClampNeg = 0 from rfl) ?_
  refine lv_iconst (v := 1) hx hb dX12_isSitter_10 (by decide) ?_
  refine lv_isub hx hb dX12_isSitter_11 ?_
  refine sb_at (P := fun z => W _ _ _ _ _ _ _ _ _ _ _ _ _ _ _ (F0 _ _ _ (.int z :: _))) (show (0 : Int32) - 1 = (-1) by decide) ?_
  refine lv_i2l (v := (-1)) hx hb dX12_isSitter_12 (by decide) ?_
  refine xcSi E hs hQ hml hl.1 (uX12_in l g ad _ hD S a1.toInt64 0 (-1)) mX12_in q1591 rfl ⟨by decide, by decide⟩ ⟨by decide, by decide⟩ (by decide) rfl dX12_isSitter_13 (fun r3 S3 H locs hp3 hQ => ?_)
  obtain ⟨rfl, hp3⟩ := hp3
  have hz3 : r3 = 0 := by
    rcases hp3 with ⟨_, h1, h2⟩ | ⟨h, _⟩
    · exact absurd (Int64.le_trans h1 h2) (by decide)
    · exact h
  subst hz3
  exact xrz E hr hlk hQ rfl (⟨rfl, rfl⟩) dX12_isSitter_16
set_option maxHeartbeats 4000000 in
set_option maxRecDepth 100000 in
theorem fX12_isParty (l : Launch) (g : GG) (ad : Nat → Nat) (hD : Dj ad 20) (S : SS) (hX : ∀ i, i < 20 → S i = M0 g ad i) (a1 : Int32) : Met l yX12_isParty (wG (.code yX12_isParty cX12_isParty 2 (some .boolean))) (Rm 1) (XPre g ad 20 S [.ref (ad 0), .int a1]) (va_Qi (fun r S' => S = S' ∧ r = 0) (QB g ad 20) (FA ad 20)) 0 0 (FA ad 20) := by
  refine xmet cX12_isParty "EbbWreckModel" (by decide) rfl (Nat.le_of_ble_eq_true rfl) (fun p e s m below meth c E hr hlk hml hQ ls hl => ?_)
  have hx := E.1
  have hb := E.2.1
  have hs : Sp ad 20 (FA ad 20) := Sp.fa hD
  have hl : lv_has ls 2 [(0, .ref (ad 0)), (1, .int a1)] := hl
  refine lv_aload_n hx hb dX12_isParty_0 rfl (lv_at hl 0 rfl) ?_
  have c_1 : S 0 = .inr (12, [.int 0, .ref (ad 1), .ref (ad 2), .ref (ad 3), .ref (ad 4), .ref (ad 5), .int 0, .int 0, .int 0, .int 0, .int 0, .long 0, .int 0, .int 0, .int 0, .int (-1), .ref (ad 6), .ref (ad 7), .ref (ad 8), .ref (ad 9), .ref (ad 10), .ref (ad 11), .ref (ad 12), .ref (ad 13), .ref (ad 14), .ref (ad 15), .int 0, .int 0, .ref (ad 16), .int 0, .int 0, .int 0, .int 0, .int 0, .ref (ad 17), .ref (ad 18), .int 0, .ref (ad 19)]) := (hX 0 (by decide))
  refine xcVi E hs hQ hml hl.1 0 (fX12_isShore l g ad hD S hX ) mX12_isShore q1782 (by decide) c_1 rfl rfl ⟨by decide, by decide⟩ ⟨by decide, by decide⟩ (by decide) rfl dX12_isParty_1 (fun r2 S2 H locs hp2 hQ _ => ?_)
  obtain ⟨rfl, rfl⟩ := hp2
  refine lv_if_eq (tgt := 23) hx hb dX12_isParty_4 (by decide) (fun k_3 => ?_) (fun k_3 => absurd k_3 (by decide))
  refine lv_iconst (v := 0) hx hb dX12_isParty_23 (by decide) ?_
  exact xrz E hr hlk hQ rfl (⟨rfl, rfl⟩) dX12_isParty_24
set_option maxHeartbeats 4000000 in
set_option maxRecDepth 100000 in
theorem fX12_isPush (l : Launch) (g : GG) (ad : Nat → Nat) (hD : Dj ad 20) (S : SS) (hX : ∀ i, i < 20 → S i = M0 g ad i) (a1 : Int32) (a2 : Int32) : Met l yX12_isPush (wG (.code yX12_isPush cX12_isPush 3 (some .boolean))) (Rm 2) (XPre g ad 20 S [.ref (ad 0), .int a1, .int a2]) (va_Qi (fun r S' => S = S' ∧ r = 0) (QB g ad 20) (FA ad 20)) 0 0 (FA ad 20) := by
  refine xmet cX12_isPush "EbbWreckModel" (by decide) rfl (Nat.le_of_ble_eq_true rfl) (fun p e s m below meth c E hr hlk hml hQ ls hl => ?_)
  have hx := E.1
  have hb := E.2.1
  have hs : Sp ad 20 (FA ad 20) := Sp.fa hD
  have hl : lv_has ls 3 [(0, .ref (ad 0)), (1, .int a1), (2, .int a2)] := hl
  refine lv_aload_n hx hb dX12_isPush_0 rfl (lv_at hl 0 rfl) ?_
  refine lv_iload_n hx hb dX12_isPush_1 rfl (lv_at hl 1 rfl) ?_
  have c_1 : S 0 = .inr (12, [.int 0, .ref (ad 1), .ref (ad 2), .ref (ad 3), .ref (ad 4), .ref (ad 5), .int 0, .int 0, .int 0, .int 0, .int 0, .long 0, .int 0, .int 0, .int 0, .int (-1), .ref (ad 6), .ref (ad 7), .ref (ad 8), .ref (ad 9), .ref (ad 10), .ref (ad 11), .ref (ad 12), .ref (ad 13), .ref (ad 14), .ref (ad 15), .int 0, .int 0, .ref (ad 16), .int 0, .int 0, .int 0, .int 0, .int 0, .ref (ad 17), .ref (ad 18), .int 0, .ref (ad 19)]) := (hX 0 (by decide))
  refine xcVi E hs hQ hml hl.1 0 (fX12_isThing l g ad hD S hX a1) mX12_isThing q1766 (by decide) c_1 rfl rfl ⟨by decide, by decide⟩ ⟨by decide, by decide⟩ (by decide) rfl dX12_isPush_2 (fun r2 S2 H locs hp2 hQ _ => ?_)
  obtain ⟨rfl, rfl⟩ := hp2
  refine lv_if_eq (tgt := 20) hx hb dX12_isPush_5 (by decide) (fun k_3 => ?_) (fun k_3 => absurd k_3 (by decide))
  refine lv_iconst (v := 0) hx hb dX12_isPush_20 (by decide) ?_
  exact xrz E hr hlk hQ rfl (⟨rfl, rfl⟩) dX12_isPush_21
set_option maxHeartbeats 4000000 in
set_option maxRecDepth 100000 in
theorem fX12_isDraw (l : Launch) (g : GG) (ad : Nat → Nat) (hD : Dj ad 20) (S : SS) (hX : ∀ i, i < 20 → S i = M0 g ad i) (a1 : Int32) (a2 : Int32) : Met l yX12_isDraw (wG (.code yX12_isDraw cX12_isDraw 3 (some .boolean))) (Rm 2) (XPre g ad 20 S [.ref (ad 0), .int a1, .int a2]) (va_Qi (fun r S' => S = S' ∧ r = 0) (QB g ad 20) (FA ad 20)) 0 0 (FA ad 20) := by
  refine xmet cX12_isDraw "EbbWreckModel" (by decide) rfl (Nat.le_of_ble_eq_true rfl) (fun p e s m below meth c E hr hlk hml hQ ls hl => ?_)
  have hx := E.1
  have hb := E.2.1
  have hs : Sp ad 20 (FA ad 20) := Sp.fa hD
  have hl : lv_has ls 3 [(0, .ref (ad 0)), (1, .int a1), (2, .int a2)] := hl
  refine lv_iload_n hx hb dX12_isDraw_0 rfl (lv_at hl 1 rfl) ?_
  refine lv_i2l hx hb dX12_isDraw_1 rfl ?_
  refine lv_lconst (v := 0) hx hb dX12_isDraw_2 (by decide) ?_
  refine lv_ldc2 (v := 2000000000) hx hb E.2.2.1 (E.2.2.2.1 _ q1786) dX12_isDraw_3 ?_
  refine xcSi E hs hQ hml hl.1 (uX12_in l g ad _ hD S a1.toInt64 0 2000000000) mX12_in q1591 rfl ⟨by decide, by decide⟩ ⟨by decide, by decide⟩ (by decide) rfl dX12_isDraw_6 (fun r1 S1 H locs hp1 hQ => ?_)
  obtain ⟨rfl, hp1⟩ := hp1
  rcases hp1 with ⟨rfl, i1, j1⟩ | ⟨rfl, i1⟩
  · refine lv_if_eq (tgt := 24) hx hb dX12_isDraw_9 (by decide) (fun k_2 => absurd k_2 (by decide)) (fun k_2 => ?_)
    refine lv_aload_n hx hb dX12_isDraw_12 rfl (lv_at hl 0 rfl) ?_
    refine lv_iload_n hx hb dX12_isDraw_13 rfl (lv_at hl 2 rfl) ?_
    have c_3 : S 0 = .inr (12, [.int 0, .ref (ad 1), .ref (ad 2), .ref (ad 3), .ref (ad 4), .ref (ad 5), .int 0, .int 0, .int 0, .int 0, .int 0, .long 0, .int 0, .int 0, .int 0, .int (-1), .ref (ad 6), .ref (ad 7), .ref (ad 8), .ref (ad 9), .ref (ad 10), .ref (ad 11), .ref (ad 12), .ref (ad 13), .ref (ad 14), .ref (ad 15), .int 0, .int 0, .ref (ad 16), .int 0, .int 0, .int 0, .int 0, .int 0, .ref (ad 17), .ref (ad 18), .int 0, .ref (ad 19)]) := (hX 0 (by decide))
    refine xcVi E hs hQ hml hl.1 0 (fX12_isThing l g ad hD S hX a2) mX12_isThing q1766 (by decide) c_3 rfl rfl ⟨by decide, by decide⟩ ⟨by decide, by decide⟩ (by decide) rfl dX12_isDraw_14 (fun r4 S4 H locs hp4 hQ _ => ?_)
    obtain ⟨rfl, rfl⟩ := hp4
    refine lv_if_eq (tgt := 24) hx hb dX12_isDraw_17 (by decide) (fun k_5 => ?_) (fun k_5 => absurd k_5 (by decide))
    refine lv_iconst (v := 0) hx hb dX12_isDraw_24 (by decide) ?_
    exact xrz E hr hlk hQ rfl (⟨rfl, rfl⟩) dX12_isDraw_25
  · refine lv_if_eq (tgt := 24) hx hb dX12_isDraw_9 (by decide) (fun k_6 => ?_) (fun k_6 => absurd k_6 (by decide))
    refine lv_iconst (v := 0) hx hb dX12_isDraw_24 (by decide) ?_
    exact xrz E hr hlk hQ rfl (⟨rfl, rfl⟩) dX12_isDraw_25
set_option maxHeartbeats 4000000 in
set_option maxRecDepth 100000 in
theorem fX12_cell (l : Launch) (g : GG) (ad : Nat → Nat) (hD : Dj ad 20) (S : SS) (hX : ∀ i, i < 20 → S i = M0 g ad i) (a1 : Int32) (a2 : Int32) : Met l yX12_cell (wG (.code yX12_cell cX12_cell 3 (some .int))) (Rm 2) (XPre g ad 20 S [.ref (ad 0), .int a1, .int a2]) (va_Qi (fun r _ => r = (-1000)) (QB g ad 20) (FA ad 20)) 0 0 (FA ad 20) := by
  refine xmet cX12_cell "EbbWreckModel" (by decide) rfl (Nat.le_of_ble_eq_true rfl) (fun p e s m below meth c E hr hlk hml hQ ls hl => ?_)
  have hx := E.1
  have hb := E.2.1
  have hs : Sp ad 20 (FA ad 20) := Sp.fa hD
  have hl : lv_has ls 3 [(0, .ref (ad 0)), (1, .int a1), (2, .int a2)] := hl
  refine lv_aload_n hx hb dX12_cell_0 rfl (lv_at hl 0 rfl) ?_
  refine lv_iconst (v := 0) hx hb dX12_cell_1 (by decide) ?_
  have c_1 : S 0 = .inr (12, [.int 0, .ref (ad 1), .ref (ad 2), .ref (ad 3), .ref (ad 4), .ref (ad 5), .int 0, .int 0, .int 0, .int 0, .int 0, .long 0, .int 0, .int 0, .int 0, .int (-1), .ref (ad 6), .ref (ad 7), .ref (ad 8), .ref (ad 9), .ref (ad 10), .ref (ad 11), .ref (ad 12), .ref (ad 13), .ref (ad 14), .ref (ad 15), .int 0, .int 0, .ref (ad 16), .int 0, .int 0, .int 0, .int 0, .int 0, .ref (ad 17), .ref (ad 18), .int 0, .ref (ad 19)]) := (hX 0 (by decide))
  refine xputi E hs hQ 0 (by decide) c_1 rfl 0 (by decide) q1468 rfl rfl (Nat.le_of_ble_eq_true rfl) dX12_cell_2 (fun H locs S2 e2 hQ => ?_)
  have hX : ∀ i, i < 20 → S2 i = M0 g ad i := same_up hX e2 rfl
  refine lv_aload_n hx hb dX12_cell_5 rfl (lv_at hl 0 rfl) ?_
  refine lv_iload_n hx hb dX12_cell_6 rfl (lv_at hl 1 rfl) ?_
  refine lv_i2l hx hb dX12_cell_7 rfl ?_
  have c_3 : S2 0 = .inr (12, [.int 0, .ref (ad 1), .ref (ad 2), .ref (ad 3), .ref (ad 4), .ref (ad 5), .int 0, .int 0, .int 0, .int 0, .int 0, .long 0, .int 0, .int 0, .int 0, .int (-1), .ref (ad 6), .ref (ad 7), .ref (ad 8), .ref (ad 9), .ref (ad 10), .ref (ad 11), .ref (ad 12), .ref (ad 13), .ref (ad 14), .ref (ad 15), .int 0, .int 0, .ref (ad 16), .int 0, .int 0, .int 0, .int 0, .int 0, .ref (ad 17), .ref (ad 18), .int 0, .ref (ad 19)]) := (hX 0 (by decide))
  refine xcVi E hs hQ hml hl.1 0 (fX12_isCell l g ad hD S2 hX a1.toInt64) mX12_isCell q1750 (by decide) c_3 rfl rfl ⟨by decide, by decide⟩ ⟨by decide, by decide⟩ (by decide) rfl dX12_cell_8 (fun r4 S4 H locs hp4 hQ _ => ?_)
  obtain ⟨rfl, rfl⟩ := hp4
  refine lv_if_eq (tgt := 26) hx hb dX12_cell_11 (by decide) (fun k_5 => ?_) (fun k_5 => absurd k_5 (by decide))
  refine lv_sipush (v := (-1000)) hx hb dX12_cell_26 (by decide) ?_
  exact xri E hr hlk hQ (rfl) dX12_cell_29
set_option maxHeartbeats 4000000 in
set_option maxRecDepth 100000 in
theorem fX12_thing (l : Launch) (g : GG) (ad : Nat → Nat) (hD : Dj ad 20) (S : SS) (hX : ∀ i, i < 20 → S i = M0 g ad i) (a1 : Int32) (a2 : Int32) : Met l yX12_thing (wG (.code yX12_thing cX12_thing 3 (some .int))) (Rm 2) (XPre g ad 20 S [.ref (ad 0), .int a1, .int a2]) (va_Qi (fun r _ => r = (-2)) (QB g ad 20) (FA ad 20)) 0 0 (FA ad 20) := by
  refine xmet cX12_thing "EbbWreckModel" (by decide) rfl (Nat.le_of_ble_eq_true rfl) (fun p e s m below meth c E hr hlk hml hQ ls hl => ?_)
  have hx := E.1
  have hb := E.2.1
  have hs : Sp ad 20 (FA ad 20) := Sp.fa hD
  have hl : lv_has ls 3 [(0, .ref (ad 0)), (1, .int a1), (2, .int a2)] := hl
  refine lv_aload_n hx hb dX12_thing_0 rfl (lv_at hl 0 rfl) ?_
  refine lv_iconst (v := 0) hx hb dX12_thing_1 (by decide) ?_
  have c_1 : S 0 = .inr (12, [.int 0, .ref (ad 1), .ref (ad 2), .ref (ad 3), .ref (ad 4), .ref (ad 5), .int 0, .int 0, .int 0, .int 0, .int 0, .long 0, .int 0, .int 0, .int 0, .int (-1), .ref (ad 6), .ref (ad 7), .ref (ad 8), .ref (ad 9), .ref (ad 10), .ref (ad 11), .ref (ad 12), .ref (ad 13), .ref (ad 14), .ref (ad 15), .int 0, .int 0, .ref (ad 16), .int 0, .int 0, .int 0, .int 0, .int 0, .ref (ad 17), .ref (ad 18), .int 0, .ref (ad 19)]) := (hX 0 (by decide))
  refine xputi E hs hQ 0 (by decide) c_1 rfl 0 (by decide) q1468 rfl rfl (Nat.le_of_ble_eq_true rfl) dX12_thing_2 (fun H locs S2 e2 hQ => ?_)
  have hX : ∀ i, i < 20 → S2 i = M0 g ad i := same_up hX e2 rfl
  refine lv_aload_n hx hb dX12_thing_5 rfl (lv_at hl 0 rfl) ?_
  refine lv_iload_n hx hb dX12_thing_6 rfl (lv_at hl 1 rfl) ?_
  have c_3 : S2 0 = .inr (12, [.int 0, .ref (ad 1), .ref (ad 2), .ref (ad 3), .ref (ad 4), .ref (ad 5), .int 0, .int 0, .int 0, .int 0, .int 0, .long 0, .int 0, .int 0, .int 0, .int (-1), .ref (ad 6), .ref (ad 7), .ref (ad 8), .ref (ad 9), .ref (ad 10), .ref (ad 11), .ref (ad 12), .ref (ad 13), .ref (ad 14), .ref (ad 15), .int 0, .int 0, .ref (ad 16), .int 0, .int 0, .int 0, .int 0, .int 0, .ref (ad 17), .ref (ad 18), .int 0, .ref (ad 19)]) := (hX 0 (by decide))
  refine xcVi E hs hQ hml hl.1 0 (fX12_isThing l g ad hD S2 hX a1) mX12_isThing q1766 (by decide) c_3 rfl rfl ⟨by decide, by decide⟩ ⟨by decide, by decide⟩ (by decide) rfl dX12_thing_7 (fun r4 S4 H locs hp4 hQ _ => ?_)
  obtain ⟨rfl, rfl⟩ := hp4
  refine lv_if_eq (tgt := 38) hx hb dX12_thing_10 (by decide) (fun k_5 => ?_) (fun k_5 => absurd k_5 (by decide))
  refine lv_bipush (v := (-2)) hx hb dX12_thing_38 (by decide) ?_
  exact xri E hr hlk hQ (rfl) dX12_thing_40
set_option maxHeartbeats 4000000 in
set_option maxRecDepth 100000 in
theorem fX12_rule (l : Launch) (g : GG) (ad : Nat → Nat) (hD : Dj ad 20) (S : SS) (hX : ∀ i, i < 20 → S i = M0 g ad i) (a1 : Int32) (a2 : Int32) : Met l yX12_rule (wG (.code yX12_rule cX12_rule 3 (some .int))) (Rm 2) (XPre g ad 20 S [.ref (ad 0), .int a1, .int a2]) (va_Qi (fun r _ => r = (-2)) (QB g ad 20) (FA ad 20)) 0 0 (FA ad 20) := by
  refine xmet cX12_rule "EbbWreckModel" (by decide) rfl (Nat.le_of_ble_eq_true rfl) (fun p e s m below meth c E hr hlk hml hQ ls hl => ?_)
  have hx := E.1
  have hb := E.2.1
  have hs : Sp ad 20 (FA ad 20) := Sp.fa hD
  have hl : lv_has ls 3 [(0, .ref (ad 0)), (1, .int a1), (2, .int a2)] := hl
  refine lv_aload_n hx hb dX12_rule_0 rfl (lv_at hl 0 rfl) ?_
  refine lv_iconst (v := 0) hx hb dX12_rule_1 (by decide) ?_
  have c_1 : S 0 = .inr (12, [.int 0, .ref (ad 1), .ref (ad 2), .ref (ad 3), .ref (ad 4), .ref (ad 5), .int 0, .int 0, .int 0, .int 0, .int 0, .long 0, .int 0, .int 0, .int 0, .int (-1), .ref (ad 6), .ref (ad 7), .ref (ad 8), .ref (ad 9), .ref (ad 10), .ref (ad 11), .ref (ad 12), .ref (ad 13), .ref (ad 14), .ref (ad 15), .int 0, .int 0, .ref (ad 16), .int 0, .int 0, .int 0, .int 0, .int 0, .ref (ad 17), .ref (ad 18), .int 0, .ref (ad 19)]) := (hX 0 (by decide))
  refine xputi E hs hQ 0 (by decide) c_1 rfl 0 (by decide) q1468 rfl rfl (Nat.le_of_ble_eq_true rfl) dX12_rule_2 (fun H locs S2 e2 hQ => ?_)
  have hX : ∀ i, i < 20 → S2 i = M0 g ad i := same_up hX e2 rfl
  refine lv_aload_n hx hb dX12_rule_5 rfl (lv_at hl 0 rfl) ?_
  refine lv_iload_n hx hb dX12_rule_6 rfl (lv_at hl 1 rfl) ?_
  have c_3 : S2 0 = .inr (12, [.int 0, .ref (ad 1), .ref (ad 2), .ref (ad 3), .ref (ad 4), .ref (ad 5), .int 0, .int 0, .int 0, .int 0, .int 0, .long 0, .int 0, .int 0, .int 0, .int (-1), .ref (ad 6), .ref (ad 7), .ref (ad 8), .ref (ad 9), .ref (ad 10), .ref (ad 11), .ref (ad 12), .ref (ad 13), .ref (ad 14), .ref (ad 15), .int 0, .int 0, .ref (ad 16), .int 0, .int 0, .int 0, .int 0, .int 0, .ref (ad 17), .ref (ad 18), .int 0, .ref (ad 19)]) := (hX 0 (by decide))
  refine xcVi E hs hQ hml hl.1 0 (fX12_isRule l g ad hD S2 hX a1) mX12_isRule q1774 (by decide) c_3 rfl rfl ⟨by decide, by decide⟩ ⟨by decide, by decide⟩ (by decide) rfl dX12_rule_7 (fun r4 S4 H locs hp4 hQ _ => ?_)
  obtain ⟨rfl, rfl⟩ := hp4
  refine lv_if_eq (tgt := 38) hx hb dX12_rule_10 (by decide) (fun k_5 => ?_) (fun k_5 => absurd k_5 (by decide))
  refine lv_bipush (v := (-2)) hx hb dX12_rule_38 (by decide) ?_
  exact xri E hr hlk hQ (rfl) dX12_rule_40
set_option maxHeartbeats 4000000 in
set_option maxRecDepth 100000 in
theorem fX12_sitter (l : Launch) (g : GG) (ad : Nat → Nat) (hD : Dj ad 20) (S : SS) (hX : ∀ i, i < 20 → S i = M0 g ad i) (a1 : Int32) : Met l yX12_sitter (wG (.code yX12_sitter cX12_sitter 2 (some .int))) (Rm 2) (XPre g ad 20 S [.ref (ad 0), .int a1]) (va_Qi (fun r _ => r = (-2)) (QB g ad 20) (FA ad 20)) 0 0 (FA ad 20) := by
  refine xmet cX12_sitter "EbbWreckModel" (by decide) rfl (Nat.le_of_ble_eq_true rfl) (fun p e s m below meth c E hr hlk hml hQ ls hl => ?_)
  have hx := E.1
  have hb := E.2.1
  have hs : Sp ad 20 (FA ad 20) := Sp.fa hD
  have hl : lv_has ls 2 [(0, .ref (ad 0)), (1, .int a1)] := hl
  refine lv_aload_n hx hb dX12_sitter_0 rfl (lv_at hl 0 rfl) ?_
  refine lv_iconst (v := 0) hx hb dX12_sitter_1 (by decide) ?_
  have c_1 : S 0 = .inr (12, [.int 0, .ref (ad 1), .ref (ad 2), .ref (ad 3), .ref (ad 4), .ref (ad 5), .int 0, .int 0, .int 0, .int 0, .int 0, .long 0, .int 0, .int 0, .int 0, .int (-1), .ref (ad 6), .ref (ad 7), .ref (ad 8), .ref (ad 9), .ref (ad 10), .ref (ad 11), .ref (ad 12), .ref (ad 13), .ref (ad 14), .ref (ad 15), .int 0, .int 0, .ref (ad 16), .int 0, .int 0, .int 0, .int 0, .int 0, .ref (ad 17), .ref (ad 18), .int 0, .ref (ad 19)]) := (hX 0 (by decide))
  refine xputi E hs hQ 0 (by decide) c_1 rfl 0 (by decide) q1468 rfl rfl (Nat.le_of_ble_eq_true rfl) dX12_sitter_2 (fun H locs S2 e2 hQ => ?_)
  have hX : ∀ i, i < 20 → S2 i = M0 g ad i := same_up hX e2 rfl
  refine lv_aload_n hx hb dX12_sitter_5 rfl (lv_at hl 0 rfl) ?_
  refine lv_iload_n hx hb dX12_sitter_6 rfl (lv_at hl 1 rfl) ?_
  have c_3 : S2 0 = .inr (12, [.int 0, .ref (ad 1), .ref (ad 2), .ref (ad 3), .ref (ad 4), .ref (ad 5), .int 0, .int 0, .int 0, .int 0, .int 0, .long 0, .int 0, .int 0, .int 0, .int (-1), .ref (ad 6), .ref (ad 7), .ref (ad 8), .ref (ad 9), .ref (ad 10), .ref (ad 11), .ref (ad 12), .ref (ad 13), .ref (ad 14), .ref (ad 15), .int 0, .int 0, .ref (ad 16), .int 0, .int 0, .int 0, .int 0, .int 0, .ref (ad 17), .ref (ad 18), .int 0, .ref (ad 19)]) := (hX 0 (by decide))
  refine xcVi E hs hQ hml hl.1 0 (fX12_isSitter l g ad hD S2 hX a1) mX12_isSitter q1816 (by decide) c_3 rfl rfl ⟨by decide, by decide⟩ ⟨by decide, by decide⟩ (by decide) rfl dX12_sitter_7 (fun r4 S4 H locs hp4 hQ _ => ?_)
  obtain ⟨rfl, rfl⟩ := hp4
  refine lv_if_ne (tgt := 16) hx hb dX12_sitter_10 (by decide) (fun k_5 => absurd k_5 (by decide)) (fun k_5 => ?_)
  refine lv_bipush (v := (-2)) hx hb dX12_sitter_13 (by decide) ?_
  exact xri E hr hlk hQ (rfl) dX12_sitter_15
set_option maxHeartbeats 4000000 in
set_option maxRecDepth 100000 in
theorem fX12_phase (l : Launch) (g : GG) (ad : Nat → Nat) (hD : Dj ad 20) (S : SS) (hX : ∀ i, i < 20 → S i = M0 g ad i) (a1 : Int32) : Met l yX12_phase (wG (.code yX12_phase cX12_phase 2 (some .int))) (Rm 1) (XPre g ad 20 S [.ref (ad 0), .int a1]) (va_Qi (fun r _ => r = (-2)) (QB g ad 20) (FA ad 20)) 0 0 (FA ad 20) := by
  refine xmet cX12_phase "EbbWreckModel" (by decide) rfl (Nat.le_of_ble_eq_true rfl) (fun p e s m below meth c E hr hlk hml hQ ls hl => ?_)
  have hx := E.1
  have hb := E.2.1
  have hs : Sp ad 20 (FA ad 20) := Sp.fa hD
  have hl : lv_has ls 2 [(0, .ref (ad 0)), (1, .int a1)] := hl
  refine lv_aload_n hx hb dX12_phase_0 rfl (lv_at hl 0 rfl) ?_
  refine lv_iconst (v := 0) hx hb dX12_phase_1 (by decide) ?_
  have c_1 : S 0 = .inr (12, [.int 0, .ref (ad 1), .ref (ad 2), .ref (ad 3), .ref (ad 4), .ref (ad 5), .int 0, .int 0, .int 0, .int 0, .int 0, .long 0, .int 0, .int 0, .int 0, .int (-1), .ref (ad 6), .ref (ad 7), .ref (ad 8), .ref (ad 9), .ref (ad 10), .ref (ad 11), .ref (ad 12), .ref (ad 13), .ref (ad 14), .ref (ad 15), .int 0, .int 0, .ref (ad 16), .int 0, .int 0, .int 0, .int 0, .int 0, .ref (ad 17), .ref (ad 18), .int 0, .ref (ad 19)]) := (hX 0 (by decide))
  refine xputi E hs hQ 0 (by decide) c_1 rfl 0 (by decide) q1468 rfl rfl (Nat.le_of_ble_eq_true rfl) dX12_phase_2 (fun H locs S2 e2 hQ => ?_)
  have hX : ∀ i, i < 20 → S2 i = M0 g ad i := same_up hX e2 rfl
  refine lv_aload_n hx hb dX12_phase_5 rfl (lv_at hl 0 rfl) ?_
  have c_3 : S2 0 = .inr (12, [.int 0, .ref (ad 1), .ref (ad 2), .ref (ad 3), .ref (ad 4), .ref (ad 5), .int 0, .int 0, .int 0, .int 0, .int 0, .long 0, .int 0, .int 0, .int 0, .int (-1), .ref (ad 6), .ref (ad 7), .ref (ad 8), .ref (ad 9), .ref (ad 10), .ref (ad 11), .ref (ad 12), .ref (ad 13), .ref (ad 14), .ref (ad 15), .int 0, .int 0, .ref (ad 16), .int 0, .int 0, .int 0, .int 0, .int 0, .ref (ad 17), .ref (ad 18), .int 0, .ref (ad 19)]) := (hX 0 (by decide))
  refine xcVi E hs hQ hml hl.1 0 (fX12_isShore l g ad hD S2 hX ) mX12_isShore q1782 (by decide) c_3 rfl rfl ⟨by decide, by decide⟩ ⟨by decide, by decide⟩ (by decide) rfl dX12_phase_6 (fun r4 S4 H locs hp4 hQ _ => ?_)
  obtain ⟨rfl, rfl⟩ := hp4
  refine lv_if_eq (tgt := 32) hx hb dX12_phase_9 (by decide) (fun k_5 => ?_) (fun k_5 => absurd k_5 (by decide))
  refine lv_bipush (v := (-2)) hx hb dX12_phase_32 (by decide) ?_
  exact xri E hr hlk hQ (rfl) dX12_phase_34
set_option maxHeartbeats 4000000 in
set_option maxRecDepth 100000 in
theorem fX12_next_ (l : Launch) (g : GG) (ad : Nat → Nat) (hD : Dj ad 20) (S : SS) (hX : ∀ i, i < 20 → S i = M0 g ad i) (a1 : Int32) (a2 : Int32) : Met l yX12_next_ (wG (.code yX12_next_ cX12_next_ 4 (some .int))) (Rm 1) (XPre g ad 20 S [.ref (ad 0), .int a1, .int a2]) (va_Qi (fun r _ => r = (-2)) (QB g ad 20) (FA ad 20)) 0 0 (FA ad 20) := by
  refine xmet cX12_next_ "EbbWreckModel" (by decide) rfl (Nat.le_of_ble_eq_true rfl) (fun p e s m below meth c E hr hlk hml hQ ls hl => ?_)
  have hx := E.1
  have hb := E.2.1
  have hs : Sp ad 20 (FA ad 20) := Sp.fa hD
  have hl : lv_has ls 4 [(0, .ref (ad 0)), (1, .int a1), (2, .int a2)] := hl
  refine lv_aload_n hx hb dX12_next__0 rfl (lv_at hl 0 rfl) ?_
  refine lv_iconst (v := 0) hx hb dX12_next__1 (by decide) ?_
  have c_1 : S 0 = .inr (12, [.int 0, .ref (ad 1), .ref (ad 2), .ref (ad 3), .ref (ad 4), .ref (ad 5), .int 0, .int 0, .int 0, .int 0, .int 0, .long 0, .int 0, .int 0, .int 0, .int (-1), .ref (ad 6), .ref (ad 7), .ref (ad 8), .ref (ad 9), .ref (ad 10), .ref (ad 11), .ref (ad 12), .ref (ad 13), .ref (ad 14), .ref (ad 15), .int 0, .int 0, .ref (ad 16), .int 0, .int 0, .int 0, .int 0, .int 0, .ref (ad 17), .ref (ad 18), .int 0, .ref (ad 19)]) := (hX 0 (by decide))
  refine xputi E hs hQ 0 (by decide) c_1 rfl 0 (by decide) q1468 rfl rfl (Nat.le_of_ble_eq_true rfl) dX12_next__2 (fun H locs S2 e2 hQ => ?_)
  have hX : ∀ i, i < 20 → S2 i = M0 g ad i := same_up hX e2 rfl
  refine lv_aload_n hx hb dX12_next__5 rfl (lv_at hl 0 rfl) ?_
  have c_3 : S2 0 = .inr (12, [.int 0, .ref (ad 1), .ref (ad 2), .ref (ad 3), .ref (ad 4), .ref (ad 5), .int 0, .int 0, .int 0, .int 0, .int 0, .long 0, .int 0, .int 0, .int 0, .int (-1), .ref (ad 6), .ref (ad 7), .ref (ad 8), .ref (ad 9), .ref (ad 10), .ref (ad 11), .ref (ad 12), .ref (ad 13), .ref (ad 14), .ref (ad 15), .int 0, .int 0, .ref (ad 16), .int 0, .int 0, .int 0, .int 0, .int 0, .ref (ad 17), .ref (ad 18), .int 0, .ref (ad 19)]) := (hX 0 (by decide))
  refine xcVi E hs hQ hml hl.1 0 (fX12_isShore l g ad hD S2 hX ) mX12_isShore q1782 (by decide) c_3 rfl rfl ⟨by decide, by decide⟩ ⟨by decide, by decide⟩ (by decide) rfl dX12_next__6 (fun r4 S4 H locs hp4 hQ _ => ?_)
  obtain ⟨rfl, rfl⟩ := hp4
  refine lv_if_eq (tgt := 36) hx hb dX12_next__9 (by decide) (fun k_5 => ?_) (fun k_5 => absurd k_5 (by decide))
  refine lv_bipush (v := (-2)) hx hb dX12_next__36 (by decide) ?_
  exact xri E hr hlk hQ (rfl) dX12_next__38
set_option maxHeartbeats 4000000 in
set_option maxRecDepth 100000 in
theorem fX12_lasts (l : Launch) (g : GG) (ad : Nat → Nat) (hD : Dj ad 20) (S : SS) (hX : ∀ i, i < 20 → S i = M0 g ad i) (a1 : Int32) : Met l yX12_lasts (wG (.code yX12_lasts cX12_lasts 3 (some .int))) (Rm 1) (XPre g ad 20 S [.ref (ad 0), .int a1]) (va_Qi (fun r _ => r = (-2)) (QB g ad 20) (FA ad 20)) 0 0 (FA ad 20) := by
  refine xmet cX12_lasts "EbbWreckModel" (by decide) rfl (Nat.le_of_ble_eq_true rfl) (fun p e s m below meth c E hr hlk hml hQ ls hl => ?_)
  have hx := E.1
  have hb := E.2.1
  have hs : Sp ad 20 (FA ad 20) := Sp.fa hD
  have hl : lv_has ls 3 [(0, .ref (ad 0)), (1, .int a1)] := hl
  refine lv_aload_n hx hb dX12_lasts_0 rfl (lv_at hl 0 rfl) ?_
  refine lv_iconst (v := 0) hx hb dX12_lasts_1 (by decide) ?_
  have c_1 : S 0 = .inr (12, [.int 0, .ref (ad 1), .ref (ad 2), .ref (ad 3), .ref (ad 4), .ref (ad 5), .int 0, .int 0, .int 0, .int 0, .int 0, .long 0, .int 0, .int 0, .int 0, .int (-1), .ref (ad 6), .ref (ad 7), .ref (ad 8), .ref (ad 9), .ref (ad 10), .ref (ad 11), .ref (ad 12), .ref (ad 13), .ref (ad 14), .ref (ad 15), .int 0, .int 0, .ref (ad 16), .int 0, .int 0, .int 0, .int 0, .int 0, .ref (ad 17), .ref (ad 18), .int 0, .ref (ad 19)]) := (hX 0 (by decide))
  refine xputi E hs hQ 0 (by decide) c_1 rfl 0 (by decide) q1468 rfl rfl (Nat.le_of_ble_eq_true rfl) dX12_lasts_2 (fun H locs S2 e2 hQ => ?_)
  have hX : ∀ i, i < 20 → S2 i = M0 g ad i := same_up hX e2 rfl
  refine lv_aload_n hx hb dX12_lasts_5 rfl (lv_at hl 0 rfl) ?_
  have c_3 : S2 0 = .inr (12, [.int 0, .ref (ad 1), .ref (ad 2), .ref (ad 3), .ref (ad 4), .ref (ad 5), .int 0, .int 0, .int 0, .int 0, .int 0, .long 0, .int 0, .int 0, .int 0, .int (-1), .ref (ad 6), .ref (ad 7), .ref (ad 8), .ref (ad 9), .ref (ad 10), .ref (ad 11), .ref (ad 12), .ref (ad 13), .ref (ad 14), .ref (ad 15), .int 0, .int 0, .ref (ad 16), .int 0, .int 0, .int 0, .int 0, .int 0, .ref (ad 17), .ref (ad 18), .int 0, .ref (ad 19)]) := (hX 0 (by decide))
  refine xcVi E hs hQ hml hl.1 0 (fX12_isShore l g ad hD S2 hX ) mX12_isShore q1782 (by decide) c_3 rfl rfl ⟨by decide, by decide⟩ ⟨by decide, by decide⟩ (by decide) rfl dX12_lasts_6 (fun r4 S4 H locs hp4 hQ _ => ?_)
  obtain ⟨rfl, rfl⟩ := hp4
  refine lv_if_eq (tgt := 24) hx hb dX12_lasts_9 (by decide) (fun k_5 => ?_) (fun k_5 => absurd k_5 (by decide))
  refine lv_bipush (v := (-2)) hx hb dX12_lasts_24 (by decide) ?_
  exact xri E hr hlk hQ (rfl) dX12_lasts_26
set_option maxHeartbeats 4000000 in
set_option maxRecDepth 100000 in
theorem fX12_slacks (l : Launch) (g : GG) (ad : Nat → Nat) (hD : Dj ad 20) (S : SS) (hX : ∀ i, i < 20 → S i = M0 g ad i) (a1 : Int32) : Met l yX12_slacks (wG (.code yX12_slacks cX12_slacks 4 (some .int))) (Rm 1) (XPre g ad 20 S [.ref (ad 0), .int a1]) (va_Qi (fun r _ => r = (-2)) (QB g ad 20) (FA ad 20)) 0 0 (FA ad 20) := by
  refine xmet cX12_slacks "EbbWreckModel" (by decide) rfl (Nat.le_of_ble_eq_true rfl) (fun p e s m below meth c E hr hlk hml hQ ls hl => ?_)
  have hx := E.1
  have hb := E.2.1
  have hs : Sp ad 20 (FA ad 20) := Sp.fa hD
  have hl : lv_has ls 4 [(0, .ref (ad 0)), (1, .int a1)] := hl
  refine lv_aload_n hx hb dX12_slacks_0 rfl (lv_at hl 0 rfl) ?_
  refine lv_iconst (v := 0) hx hb dX12_slacks_1 (by decide) ?_
  have c_1 : S 0 = .inr (12, [.int 0, .ref (ad 1), .ref (ad 2), .ref (ad 3), .ref (ad 4), .ref (ad 5), .int 0, .int 0, .int 0, .int 0, .int 0, .long 0, .int 0, .int 0, .int 0, .int (-1), .ref (ad 6), .ref (ad 7), .ref (ad 8), .ref (ad 9), .ref (ad 10), .ref (ad 11), .ref (ad 12), .ref (ad 13), .ref (ad 14), .ref (ad 15), .int 0, .int 0, .ref (ad 16), .int 0, .int 0, .int 0, .int 0, .int 0, .ref (ad 17), .ref (ad 18), .int 0, .ref (ad 19)]) := (hX 0 (by decide))
  refine xputi E hs hQ 0 (by decide) c_1 rfl 0 (by decide) q1468 rfl rfl (Nat.le_of_ble_eq_true rfl) dX12_slacks_2 (fun H locs S2 e2 hQ => ?_)
  have hX : ∀ i, i < 20 → S2 i = M0 g ad i := same_up hX e2 rfl
  refine lv_aload_n hx hb dX12_slacks_5 rfl (lv_at hl 0 rfl) ?_
  have c_3 : S2 0 = .inr (12, [.int 0, .ref (ad 1), .ref (ad 2), .ref (ad 3), .ref (ad 4), .ref (ad 5), .int 0, .int 0, .int 0, .int 0, .int 0, .long 0, .int 0, .int 0, .int 0, .int (-1), .ref (ad 6), .ref (ad 7), .ref (ad 8), .ref (ad 9), .ref (ad 10), .ref (ad 11), .ref (ad 12), .ref (ad 13), .ref (ad 14), .ref (ad 15), .int 0, .int 0, .ref (ad 16), .int 0, .int 0, .int 0, .int 0, .int 0, .ref (ad 17), .ref (ad 18), .int 0, .ref (ad 19)]) := (hX 0 (by decide))
  refine xcVi E hs hQ hml hl.1 0 (fX12_isShore l g ad hD S2 hX ) mX12_isShore q1782 (by decide) c_3 rfl rfl ⟨by decide, by decide⟩ ⟨by decide, by decide⟩ (by decide) rfl dX12_slacks_6 (fun r4 S4 H locs hp4 hQ _ => ?_)
  obtain ⟨rfl, rfl⟩ := hp4
  refine lv_if_eq (tgt := 24) hx hb dX12_slacks_9 (by decide) (fun k_5 => ?_) (fun k_5 => absurd k_5 (by decide))
  refine lv_bipush (v := (-2)) hx hb dX12_slacks_24 (by decide) ?_
  exact xri E hr hlk hQ (rfl) dX12_slacks_26
set_option maxHeartbeats 4000000 in
set_option maxRecDepth 100000 in
theorem fX12_drifts (l : Launch) (g : GG) (ad : Nat → Nat) (hD : Dj ad 20) (S : SS) (hX : ∀ i, i < 20 → S i = M0 g ad i) (a1 : Int32) (a2 : Int32) : Met l yX12_drifts (wG (.code yX12_drifts cX12_drifts 3 (some .int))) (Rm 2) (XPre g ad 20 S [.ref (ad 0), .int a1, .int a2]) (va_Qi (fun r _ => r = (-2)) (QB g ad 20) (FA ad 20)) 0 0 (FA ad 20) := by
  refine xmet cX12_drifts "EbbWreckModel" (by decide) rfl (Nat.le_of_ble_eq_true rfl) (fun p e s m below meth c E hr hlk hml hQ ls hl => ?_)
  have hx := E.1
  have hb := E.2.1
  have hs : Sp ad 20 (FA ad 20) := Sp.fa hD
  have hl : lv_has ls 3 [(0, .ref (ad 0)), (1, .int a1), (2, .int a2)] := hl
  refine lv_aload_n hx hb dX12_drifts_0 rfl (lv_at hl 0 rfl) ?_
  refine lv_iconst (v := 0) hx hb dX12_drifts_1 (by decide) ?_
  have c_1 : S 0 = .inr (12, [.int 0, .ref (ad 1), .ref (ad 2), .ref (ad 3), .ref (ad 4), .ref (ad 5), .int 0, .int 0, .int 0, .int 0, .int 0, .long 0, .int 0, .int 0, .int 0, .int (-1), .ref (ad 6), .ref (ad 7), .ref (ad 8), .ref (ad 9), .ref (ad 10), .ref (ad 11), .ref (ad 12), .ref (ad 13), .ref (ad 14), .ref (ad 15), .int 0, .int 0, .ref (ad 16), .int 0, .int 0, .int 0, .int 0, .int 0, .ref (ad 17), .ref (ad 18), .int 0, .ref (ad 19)]) := (hX 0 (by decide))
  refine xputi E hs hQ 0 (by decide) c_1 rfl 0 (by decide) q1468 rfl rfl (Nat.le_of_ble_eq_true rfl) dX12_drifts_2 (fun H locs S2 e2 hQ => ?_)
  have hX : ∀ i, i < 20 → S2 i = M0 g ad i := same_up hX e2 rfl
  refine lv_aload_n hx hb dX12_drifts_5 rfl (lv_at hl 0 rfl) ?_
  refine lv_iload_n hx hb dX12_drifts_6 rfl (lv_at hl 1 rfl) ?_
  refine lv_i2l hx hb dX12_drifts_7 rfl ?_
  have c_3 : S2 0 = .inr (12, [.int 0, .ref (ad 1), .ref (ad 2), .ref (ad 3), .ref (ad 4), .ref (ad 5), .int 0, .int 0, .int 0, .int 0, .int 0, .long 0, .int 0, .int 0, .int 0, .int (-1), .ref (ad 6), .ref (ad 7), .ref (ad 8), .ref (ad 9), .ref (ad 10), .ref (ad 11), .ref (ad 12), .ref (ad 13), .ref (ad 14), .ref (ad 15), .int 0, .int 0, .ref (ad 16), .int 0, .int 0, .int 0, .int 0, .int 0, .ref (ad 17), .ref (ad 18), .int 0, .ref (ad 19)]) := (hX 0 (by decide))
  refine xcVi E hs hQ hml hl.1 0 (fX12_isCell l g ad hD S2 hX a1.toInt64) mX12_isCell q1750 (by decide) c_3 rfl rfl ⟨by decide, by decide⟩ ⟨by decide, by decide⟩ (by decide) rfl dX12_drifts_8 (fun r4 S4 H locs hp4 hQ _ => ?_)
  obtain ⟨rfl, rfl⟩ := hp4
  refine lv_if_eq (tgt := 35) hx hb dX12_drifts_11 (by decide) (fun k_5 => ?_) (fun k_5 => absurd k_5 (by decide))
  refine lv_bipush (v := (-2)) hx hb dX12_drifts_35 (by decide) ?_
  exact xri E hr hlk hQ (rfl) dX12_drifts_37
set_option maxHeartbeats 4000000 in
set_option maxRecDepth 100000 in
theorem fX12_at (l : Launch) (g : GG) (ad : Nat → Nat) (hD : Dj ad 20) (S : SS) (hX : ∀ i, i < 20 → S i = M0 g ad i) (a1 : Int32) (a2 : Int32) : Met l yX12_at (wG (.code yX12_at cX12_at 3 (some .int))) (Rm 2) (XPre g ad 20 S [.ref (ad 0), .int a1, .int a2]) (va_Qi (fun r _ => r = (-2)) (QB g ad 20) (FA ad 20)) 0 0 (FA ad 20) := by
  refine xmet cX12_at "EbbWreckModel" (by decide) rfl (Nat.le_of_ble_eq_true rfl) (fun p e s m below meth c E hr hlk hml hQ ls hl => ?_)
  have hx := E.1
  have hb := E.2.1
  have hs : Sp ad 20 (FA ad 20) := Sp.fa hD
  have hl : lv_has ls 3 [(0, .ref (ad 0)), (1, .int a1), (2, .int a2)] := hl
  refine lv_aload_n hx hb dX12_at_0 rfl (lv_at hl 0 rfl) ?_
  refine lv_iconst (v := 0) hx hb dX12_at_1 (by decide) ?_
  have c_1 : S 0 = .inr (12, [.int 0, .ref (ad 1), .ref (ad 2), .ref (ad 3), .ref (ad 4), .ref (ad 5), .int 0, .int 0, .int 0, .int 0, .int 0, .long 0, .int 0, .int 0, .int 0, .int (-1), .ref (ad 6), .ref (ad 7), .ref (ad 8), .ref (ad 9), .ref (ad 10), .ref (ad 11), .ref (ad 12), .ref (ad 13), .ref (ad 14), .ref (ad 15), .int 0, .int 0, .ref (ad 16), .int 0, .int 0, .int 0, .int 0, .int 0, .ref (ad 17), .ref (ad 18), .int 0, .ref (ad 19)]) := (hX 0 (by decide))
  refine xputi E hs hQ 0 (by decide) c_1 rfl 0 (by decide) q1468 rfl rfl (Nat.le_of_ble_eq_true rfl) dX12_at_2 (fun H locs S2 e2 hQ => ?_)
  have hX : ∀ i, i < 20 → S2 i = M0 g ad i := same_up hX e2 rfl
  refine lv_aload_n hx hb dX12_at_5 rfl (lv_at hl 0 rfl) ?_
  refine lv_iload_n hx hb dX12_at_6 rfl (lv_at hl 1 rfl) ?_
  have c_3 : S2 0 = .inr (12, [.int 0, .ref (ad 1), .ref (ad 2), .ref (ad 3), .ref (ad 4), .ref (ad 5), .int 0, .int 0, .int 0, .int 0, .int 0, .long 0, .int 0, .int 0, .int 0, .int (-1), .ref (ad 6), .ref (ad 7), .ref (ad 8), .ref (ad 9), .ref (ad 10), .ref (ad 11), .ref (ad 12), .ref (ad 13), .ref (ad 14), .ref (ad 15), .int 0, .int 0, .ref (ad 16), .int 0, .int 0, .int 0, .int 0, .int 0, .ref (ad 17), .ref (ad 18), .int 0, .ref (ad 19)]) := (hX 0 (by decide))
  refine xcVi E hs hQ hml hl.1 0 (fX12_isThing l g ad hD S2 hX a1) mX12_isThing q1766 (by decide) c_3 rfl rfl ⟨by decide, by decide⟩ ⟨by decide, by decide⟩ (by decide) rfl dX12_at_7 (fun r4 S4 H locs hp4 hQ _ => ?_)
  obtain ⟨rfl, rfl⟩ := hp4
  refine lv_if_eq (tgt := 25) hx hb dX12_at_10 (by decide) (fun k_5 => ?_) (fun k_5 => absurd k_5 (by decide))
  refine lv_bipush (v := (-2)) hx hb dX12_at_25 (by decide) ?_
  exact xri E hr hlk hQ (rfl) dX12_at_27
set_option maxHeartbeats 4000000 in
set_option maxRecDepth 100000 in
theorem fX12_comes (l : Launch) (g : GG) (ad : Nat → Nat) (hD : Dj ad 20) (S : SS) (hX : ∀ i, i < 20 → S i = M0 g ad i) (a1 : Int32) : Met l yX12_comes (wG (.code yX12_comes cX12_comes 2 (some .int))) (Rm 2) (XPre g ad 20 S [.ref (ad 0), .int a1]) (va_Qi (fun r _ => r = (-2)) (QB g ad 20) (FA ad 20)) 0 0 (FA ad 20) := by
  refine xmet cX12_comes "EbbWreckModel" (by decide) rfl (Nat.le_of_ble_eq_true rfl) (fun p e s m below meth c E hr hlk hml hQ ls hl => ?_)
  have hx := E.1
  have hb := E.2.1
  have hs : Sp ad 20 (FA ad 20) := Sp.fa hD
  have hl : lv_has ls 2 [(0, .ref (ad 0)), (1, .int a1)] := hl
  refine lv_aload_n hx hb dX12_comes_0 rfl (lv_at hl 0 rfl) ?_
  refine lv_iconst (v := 0) hx hb dX12_comes_1 (by decide) ?_
  have c_1 : S 0 = .inr (12, [.int 0, .ref (ad 1), .ref (ad 2), .ref (ad 3), .ref (ad 4), .ref (ad 5), .int 0, .int 0, .int 0, .int 0, .int 0, .long 0, .int 0, .int 0, .int 0, .int (-1), .ref (ad 6), .ref (ad 7), .ref (ad 8), .ref (ad 9), .ref (ad 10), .ref (ad 11), .ref (ad 12), .ref (ad 13), .ref (ad 14), .ref (ad 15), .int 0, .int 0, .ref (ad 16), .int 0, .int 0, .int 0, .int 0, .int 0, .ref (ad 17), .ref (ad 18), .int 0, .ref (ad 19)]) := (hX 0 (by decide))
  refine xputi E hs hQ 0 (by decide) c_1 rfl 0 (by decide) q1468 rfl rfl (Nat.le_of_ble_eq_true rfl) dX12_comes_2 (fun H locs S2 e2 hQ => ?_)
  have hX : ∀ i, i < 20 → S2 i = M0 g ad i := same_up hX e2 rfl
  refine lv_aload_n hx hb dX12_comes_5 rfl (lv_at hl 0 rfl) ?_
  refine lv_iload_n hx hb dX12_comes_6 rfl (lv_at hl 1 rfl) ?_
  have c_3 : S2 0 = .inr (12, [.int 0, .ref (ad 1), .ref (ad 2), .ref (ad 3), .ref (ad 4), .ref (ad 5), .int 0, .int 0, .int 0, .int 0, .int 0, .long 0, .int 0, .int 0, .int 0, .int (-1), .ref (ad 6), .ref (ad 7), .ref (ad 8), .ref (ad 9), .ref (ad 10), .ref (ad 11), .ref (ad 12), .ref (ad 13), .ref (ad 14), .ref (ad 15), .int 0, .int 0, .ref (ad 16), .int 0, .int 0, .int 0, .int 0, .int 0, .ref (ad 17), .ref (ad 18), .int 0, .ref (ad 19)]) := (hX 0 (by decide))
  refine xcVi E hs hQ hml hl.1 0 (fX12_isThing l g ad hD S2 hX a1) mX12_isThing q1766 (by decide) c_3 rfl rfl ⟨by decide, by decide⟩ ⟨by decide, by decide⟩ (by decide) rfl dX12_comes_7 (fun r4 S4 H locs hp4 hQ _ => ?_)
  obtain ⟨rfl, rfl⟩ := hp4
  refine lv_if_ne (tgt := 16) hx hb dX12_comes_10 (by decide) (fun k_5 => absurd k_5 (by decide)) (fun k_5 => ?_)
  refine lv_bipush (v := (-2)) hx hb dX12_comes_13 (by decide) ?_
  exact xri E hr hlk hQ (rfl) dX12_comes_15
set_option maxHeartbeats 4000000 in
set_option maxRecDepth 100000 in
theorem fX12_beach (l : Launch) (g : GG) (ad : Nat → Nat) (hD : Dj ad 20) (S : SS) (hX : ∀ i, i < 20 → S i = M0 g ad i) (a1 : Int32) : Met l yX12_beach (wG (.code yX12_beach cX12_beach 2 (some .int))) (Rm 2) (XPre g ad 20 S [.ref (ad 0), .int a1]) (va_Qi (fun r _ => r = (-2)) (QB g ad 20) (FA ad 20)) 0 0 (FA ad 20) := by
  refine xmet cX12_beach "EbbWreckModel" (by decide) rfl (Nat.le_of_ble_eq_true rfl) (fun p e s m below meth c E hr hlk hml hQ ls hl => ?_)
  have hx := E.1
  have hb := E.2.1
  have hs : Sp ad 20 (FA ad 20) := Sp.fa hD
  have hl : lv_has ls 2 [(0, .ref (ad 0)), (1, .int a1)] := hl
  refine lv_aload_n hx hb dX12_beach_0 rfl (lv_at hl 0 rfl) ?_
  refine lv_iconst (v := 0) hx hb dX12_beach_1 (by decide) ?_
  have c_1 : S 0 = .inr (12, [.int 0, .ref (ad 1), .ref (ad 2), .ref (ad 3), .ref (ad 4), .ref (ad 5), .int 0, .int 0, .int 0, .int 0, .int 0, .long 0, .int 0, .int 0, .int 0, .int (-1), .ref (ad 6), .ref (ad 7), .ref (ad 8), .ref (ad 9), .ref (ad 10), .ref (ad 11), .ref (ad 12), .ref (ad 13), .ref (ad 14), .ref (ad 15), .int 0, .int 0, .ref (ad 16), .int 0, .int 0, .int 0, .int 0, .int 0, .ref (ad 17), .ref (ad 18), .int 0, .ref (ad 19)]) := (hX 0 (by decide))
  refine xputi E hs hQ 0 (by decide) c_1 rfl 0 (by decide) q1468 rfl rfl (Nat.le_of_ble_eq_true rfl) dX12_beach_2 (fun H locs S2 e2 hQ => ?_)
  have hX : ∀ i, i < 20 → S2 i = M0 g ad i := same_up hX e2 rfl
  refine lv_aload_n hx hb dX12_beach_5 rfl (lv_at hl 0 rfl) ?_
  refine lv_iload_n hx hb dX12_beach_6 rfl (lv_at hl 1 rfl) ?_
  have c_3 : S2 0 = .inr (12, [.int 0, .ref (ad 1), .ref (ad 2), .ref (ad 3), .ref (ad 4), .ref (ad 5), .int 0, .int 0, .int 0, .int 0, .int 0, .long 0, .int 0, .int 0, .int 0, .int (-1), .ref (ad 6), .ref (ad 7), .ref (ad 8), .ref (ad 9), .ref (ad 10), .ref (ad 11), .ref (ad 12), .ref (ad 13), .ref (ad 14), .ref (ad 15), .int 0, .int 0, .ref (ad 16), .int 0, .int 0, .int 0, .int 0, .int 0, .ref (ad 17), .ref (ad 18), .int 0, .ref (ad 19)]) := (hX 0 (by decide))
  refine xcVi E hs hQ hml hl.1 0 (fX12_isThing l g ad hD S2 hX a1) mX12_isThing q1766 (by decide) c_3 rfl rfl ⟨by decide, by decide⟩ ⟨by decide, by decide⟩ (by decide) rfl dX12_beach_7 (fun r4 S4 H locs hp4 hQ _ => ?_)
  obtain ⟨rfl, rfl⟩ := hp4
  refine lv_if_ne (tgt := 16) hx hb dX12_beach_10 (by decide) (fun k_5 => absurd k_5 (by decide)) (fun k_5 => ?_)
  refine lv_bipush (v := (-2)) hx hb dX12_beach_13 (by decide) ?_
  exact xri E hr hlk hQ (rfl) dX12_beach_15
set_option maxHeartbeats 4000000 in
set_option maxRecDepth 100000 in
theorem fX12_whose (l : Launch) (g : GG) (ad : Nat → Nat) (hD : Dj ad 20) (S : SS) (hX : ∀ i, i < 20 → S i = M0 g ad i) (a1 : Int32) : Met l yX12_whose (wG (.code yX12_whose cX12_whose 2 (some .int))) (Rm 2) (XPre g ad 20 S [.ref (ad 0), .int a1]) (va_Qi (fun r _ => r = (-2)) (QB g ad 20) (FA ad 20)) 0 0 (FA ad 20) := by
  refine xmet cX12_whose "EbbWreckModel" (by decide) rfl (Nat.le_of_ble_eq_true rfl) (fun p e s m below meth c E hr hlk hml hQ ls hl => ?_)
  have hx := E.1
  have hb := E.2.1
  have hs : Sp ad 20 (FA ad 20) := Sp.fa hD
  have hl : lv_has ls 2 [(0, .ref (ad 0)), (1, .int a1)] := hl
  refine lv_aload_n hx hb dX12_whose_0 rfl (lv_at hl 0 rfl) ?_
  refine lv_iconst (v := 0) hx hb dX12_whose_1 (by decide) ?_
  have c_1 : S 0 = .inr (12, [.int 0, .ref (ad 1), .ref (ad 2), .ref (ad 3), .ref (ad 4), .ref (ad 5), .int 0, .int 0, .int 0, .int 0, .int 0, .long 0, .int 0, .int 0, .int 0, .int (-1), .ref (ad 6), .ref (ad 7), .ref (ad 8), .ref (ad 9), .ref (ad 10), .ref (ad 11), .ref (ad 12), .ref (ad 13), .ref (ad 14), .ref (ad 15), .int 0, .int 0, .ref (ad 16), .int 0, .int 0, .int 0, .int 0, .int 0, .ref (ad 17), .ref (ad 18), .int 0, .ref (ad 19)]) := (hX 0 (by decide))
  refine xputi E hs hQ 0 (by decide) c_1 rfl 0 (by decide) q1468 rfl rfl (Nat.le_of_ble_eq_true rfl) dX12_whose_2 (fun H locs S2 e2 hQ => ?_)
  have hX : ∀ i, i < 20 → S2 i = M0 g ad i := same_up hX e2 rfl
  refine lv_aload_n hx hb dX12_whose_5 rfl (lv_at hl 0 rfl) ?_
  refine lv_iload_n hx hb dX12_whose_6 rfl (lv_at hl 1 rfl) ?_
  have c_3 : S2 0 = .inr (12, [.int 0, .ref (ad 1), .ref (ad 2), .ref (ad 3), .ref (ad 4), .ref (ad 5), .int 0, .int 0, .int 0, .int 0, .int 0, .long 0, .int 0, .int 0, .int 0, .int (-1), .ref (ad 6), .ref (ad 7), .ref (ad 8), .ref (ad 9), .ref (ad 10), .ref (ad 11), .ref (ad 12), .ref (ad 13), .ref (ad 14), .ref (ad 15), .int 0, .int 0, .ref (ad 16), .int 0, .int 0, .int 0, .int 0, .int 0, .ref (ad 17), .ref (ad 18), .int 0, .ref (ad 19)]) := (hX 0 (by decide))
  refine xcVi E hs hQ hml hl.1 0 (fX12_isThing l g ad hD S2 hX a1) mX12_isThing q1766 (by decide) c_3 rfl rfl ⟨by decide, by decide⟩ ⟨by decide, by decide⟩ (by decide) rfl dX12_whose_7 (fun r4 S4 H locs hp4 hQ _ => ?_)
  obtain ⟨rfl, rfl⟩ := hp4
  refine lv_if_ne (tgt := 16) hx hb dX12_whose_10 (by decide) (fun k_5 => absurd k_5 (by decide)) (fun k_5 => ?_)
  refine lv_bipush (v := (-2)) hx hb dX12_whose_13 (by decide) ?_
  exact xri E hr hlk hQ (rfl) dX12_whose_15
set_option maxHeartbeats 4000000 in
set_option maxRecDepth 100000 in
theorem fX12_has (l : Launch) (g : GG) (ad : Nat → Nat) (hD : Dj ad 20) (S : SS) (hX : ∀ i, i < 20 → S i = M0 g ad i) (a1 : Int32) : Met l yX12_has (wG (.code yX12_has cX12_has 2 (some .int))) (Rm 2) (XPre g ad 20 S [.ref (ad 0), .int a1]) (va_Qi (fun r _ => r = (-2)) (QB g ad 20) (FA ad 20)) 0 0 (FA ad 20) := by
  refine xmet cX12_has "EbbWreckModel" (by decide) rfl (Nat.le_of_ble_eq_true rfl) (fun p e s m below meth c E hr hlk hml hQ ls hl => ?_)
  have hx := E.1
  have hb := E.2.1
  have hs : Sp ad 20 (FA ad 20) := Sp.fa hD
  have hl : lv_has ls 2 [(0, .ref (ad 0)), (1, .int a1)] := hl
  refine lv_aload_n hx hb dX12_has_0 rfl (lv_at hl 0 rfl) ?_
  refine lv_iconst (v := 0) hx hb dX12_has_1 (by decide) ?_
  have c_1 : S 0 = .inr (12, [.int 0, .ref (ad 1), .ref (ad 2), .ref (ad 3), .ref (ad 4), .ref (ad 5), .int 0, .int 0, .int 0, .int 0, .int 0, .long 0, .int 0, .int 0, .int 0, .int (-1), .ref (ad 6), .ref (ad 7), .ref (ad 8), .ref (ad 9), .ref (ad 10), .ref (ad 11), .ref (ad 12), .ref (ad 13), .ref (ad 14), .ref (ad 15), .int 0, .int 0, .ref (ad 16), .int 0, .int 0, .int 0, .int 0, .int 0, .ref (ad 17), .ref (ad 18), .int 0, .ref (ad 19)]) := (hX 0 (by decide))
  refine xputi E hs hQ 0 (by decide) c_1 rfl 0 (by decide) q1468 rfl rfl (Nat.le_of_ble_eq_true rfl) dX12_has_2 (fun H locs S2 e2 hQ => ?_)
  have hX : ∀ i, i < 20 → S2 i = M0 g ad i := same_up hX e2 rfl
  refine lv_aload_n hx hb dX12_has_5 rfl (lv_at hl 0 rfl) ?_
  refine lv_iload_n hx hb dX12_has_6 rfl (lv_at hl 1 rfl) ?_
  have c_3 : S2 0 = .inr (12, [.int 0, .ref (ad 1), .ref (ad 2), .ref (ad 3), .ref (ad 4), .ref (ad 5), .int 0, .int 0, .int 0, .int 0, .int 0, .long 0, .int 0, .int 0, .int 0, .int (-1), .ref (ad 6), .ref (ad 7), .ref (ad 8), .ref (ad 9), .ref (ad 10), .ref (ad 11), .ref (ad 12), .ref (ad 13), .ref (ad 14), .ref (ad 15), .int 0, .int 0, .ref (ad 16), .int 0, .int 0, .int 0, .int 0, .int 0, .ref (ad 17), .ref (ad 18), .int 0, .ref (ad 19)]) := (hX 0 (by decide))
  refine xcVi E hs hQ hml hl.1 0 (fX12_isParty l g ad hD S2 hX a1) mX12_isParty q1874 (by decide) c_3 rfl rfl ⟨by decide, by decide⟩ ⟨by decide, by decide⟩ (by decide) rfl dX12_has_7 (fun r4 S4 H locs hp4 hQ _ => ?_)
  obtain ⟨rfl, rfl⟩ := hp4
  refine lv_if_ne (tgt := 16) hx hb dX12_has_10 (by decide) (fun k_5 => absurd k_5 (by decide)) (fun k_5 => ?_)
  refine lv_bipush (v := (-2)) hx hb dX12_has_13 (by decide) ?_
  exact xri E hr hlk hQ (rfl) dX12_has_15
set_option maxHeartbeats 4000000 in
set_option maxRecDepth 100000 in
theorem fX12_line_ (l : Launch) (g : GG) (ad : Nat → Nat) (hD : Dj ad 20) (S : SS) (hX : ∀ i, i < 20 → S i = M0 g ad i) (a1 : Int32) : Met l yX12_line_ (wG (.code yX12_line_ cX12_line_ 4 (some .int))) (Rm 2) (XPre g ad 20 S [.ref (ad 0), .int a1]) (va_Qi (fun r _ => r = (-2)) (QB g ad 20) (FA ad 20)) 0 0 (FA ad 20) := by
  refine xmet cX12_line_ "EbbWreckModel" (by decide) rfl (Nat.le_of_ble_eq_true rfl) (fun p e s m below meth c E hr hlk hml hQ ls hl => ?_)
  have hx := E.1
  have hb := E.2.1
  have hs : Sp ad 20 (FA ad 20) := Sp.fa hD
  have hl : lv_has ls 4 [(0, .ref (ad 0)), (1, .int a1)] := hl
  refine lv_aload_n hx hb dX12_line__0 rfl (lv_at hl 0 rfl) ?_
  refine lv_iconst (v := 0) hx hb dX12_line__1 (by decide) ?_
  have c_1 : S 0 = .inr (12, [.int 0, .ref (ad 1), .ref (ad 2), .ref (ad 3), .ref (ad 4), .ref (ad 5), .int 0, .int 0, .int 0, .int 0, .int 0, .long 0, .int 0, .int 0, .int 0, .int (-1), .ref (ad 6), .ref (ad 7), .ref (ad 8), .ref (ad 9), .ref (ad 10), .ref (ad 11), .ref (ad 12), .ref (ad 13), .ref (ad 14), .ref (ad 15), .int 0, .int 0, .ref (ad 16), .int 0, .int 0, .int 0, .int 0, .int 0, .ref (ad 17), .ref (ad 18), .int 0, .ref (ad 19)]) := (hX 0 (by decide))
  refine xputi E hs hQ 0 (by decide) c_1 rfl 0 (by decide) q1468 rfl rfl (Nat.le_of_ble_eq_true rfl) dX12_line__2 (fun H locs S2 e2 hQ => ?_)
  have hX : ∀ i, i < 20 → S2 i = M0 g ad i := same_up hX e2 rfl
  refine lv_aload_n hx hb dX12_line__5 rfl (lv_at hl 0 rfl) ?_
  refine lv_iload_n hx hb dX12_line__6 rfl (lv_at hl 1 rfl) ?_
  refine lv_i2l hx hb dX12_line__7 rfl ?_
  have c_3 : S2 0 = .inr (12, [.int 0, .ref (ad 1), .ref (ad 2), .ref (ad 3), .ref (ad 4), .ref (ad 5), .int 0, .int 0, .int 0, .int 0, .int 0, .long 0, .int 0, .int 0, .int 0, .int (-1), .ref (ad 6), .ref (ad 7), .ref (ad 8), .ref (ad 9), .ref (ad 10), .ref (ad 11), .ref (ad 12), .ref (ad 13), .ref (ad 14), .ref (ad 15), .int 0, .int 0, .ref (ad 16), .int 0, .int 0, .int 0, .int 0, .int 0, .ref (ad 17), .ref (ad 18), .int 0, .ref (ad 19)]) := (hX 0 (by decide))
  refine xcVi E hs hQ hml hl.1 0 (fX12_isCell l g ad hD S2 hX a1.toInt64) mX12_isCell q1750 (by decide) c_3 rfl rfl ⟨by decide, by decide⟩ ⟨by decide, by decide⟩ (by decide) rfl dX12_line__8 (fun r4 S4 H locs hp4 hQ _ => ?_)
  obtain ⟨rfl, rfl⟩ := hp4
  refine lv_if_ne (tgt := 17) hx hb dX12_line__11 (by decide) (fun k_5 => absurd k_5 (by decide)) (fun k_5 => ?_)
  refine lv_bipush (v := (-2)) hx hb dX12_line__14 (by decide) ?_
  exact xri E hr hlk hQ (rfl) dX12_line__16
set_option maxHeartbeats 4000000 in
set_option maxRecDepth 100000 in
theorem fX12_richest (l : Launch) (g : GG) (ad : Nat → Nat) (hD : Dj ad 20) (S : SS) (hX : ∀ i, i < 20 → S i = M0 g ad i) : Met l yX12_richest (wG (.code yX12_richest cX12_richest 3 (some .int))) (Rm 1) (XPre g ad 20 S [.ref (ad 0)]) (va_Qi (fun r _ => r = (-2)) (QB g ad 20) (FA ad 20)) 0 0 (FA ad 20) := by
  refine xmet cX12_richest "EbbWreckModel" (by decide) rfl (Nat.le_of_ble_eq_true rfl) (fun p e s m below meth c E hr hlk hml hQ ls hl => ?_)
  have hx := E.1
  have hb := E.2.1
  have hs : Sp ad 20 (FA ad 20) := Sp.fa hD
  have hl : lv_has ls 3 [(0, .ref (ad 0))] := hl
  refine lv_aload_n hx hb dX12_richest_0 rfl (lv_at hl 0 rfl) ?_
  refine lv_iconst (v := 0) hx hb dX12_richest_1 (by decide) ?_
  have c_1 : S 0 = .inr (12, [.int 0, .ref (ad 1), .ref (ad 2), .ref (ad 3), .ref (ad 4), .ref (ad 5), .int 0, .int 0, .int 0, .int 0, .int 0, .long 0, .int 0, .int 0, .int 0, .int (-1), .ref (ad 6), .ref (ad 7), .ref (ad 8), .ref (ad 9), .ref (ad 10), .ref (ad 11), .ref (ad 12), .ref (ad 13), .ref (ad 14), .ref (ad 15), .int 0, .int 0, .ref (ad 16), .int 0, .int 0, .int 0, .int 0, .int 0, .ref (ad 17), .ref (ad 18), .int 0, .ref (ad 19)]) := (hX 0 (by decide))
  refine xputi E hs hQ 0 (by decide) c_1 rfl 0 (by decide) q1468 rfl rfl (Nat.le_of_ble_eq_true rfl) dX12_richest_2 (fun H locs S2 e2 hQ => ?_)
  have hX : ∀ i, i < 20 → S2 i = M0 g ad i := same_up hX e2 rfl
  refine lv_aload_n hx hb dX12_richest_5 rfl (lv_at hl 0 rfl) ?_
  have c_3 : S2 0 = .inr (12, [.int 0, .ref (ad 1), .ref (ad 2), .ref (ad 3), .ref (ad 4), .ref (ad 5), .int 0, .int 0, .int 0, .int 0, .int 0, .long 0, .int 0, .int 0, .int 0, .int (-1), .ref (ad 6), .ref (ad 7), .ref (ad 8), .ref (ad 9), .ref (ad 10), .ref (ad 11), .ref (ad 12), .ref (ad 13), .ref (ad 14), .ref (ad 15), .int 0, .int 0, .ref (ad 16), .int 0, .int 0, .int 0, .int 0, .int 0, .ref (ad 17), .ref (ad 18), .int 0, .ref (ad 19)]) := (hX 0 (by decide))
  refine xcVi E hs hQ hml hl.1 0 (fX12_isShore l g ad hD S2 hX ) mX12_isShore q1782 (by decide) c_3 rfl rfl ⟨by decide, by decide⟩ ⟨by decide, by decide⟩ (by decide) rfl dX12_richest_6 (fun r4 S4 H locs hp4 hQ _ => ?_)
  obtain ⟨rfl, rfl⟩ := hp4
  refine lv_if_ne (tgt := 15) hx hb dX12_richest_9 (by decide) (fun k_5 => absurd k_5 (by decide)) (fun k_5 => ?_)
  refine lv_bipush (v := (-2)) hx hb dX12_richest_12 (by decide) ?_
  exact xri E hr hlk hQ (rfl) dX12_richest_14
set_option maxHeartbeats 4000000 in
set_option maxRecDepth 100000 in
theorem fX12_meet (l : Launch) (g : GG) (ad : Nat → Nat) (hD : Dj ad 20) (S : SS) (hX : ∀ i, i < 20 → S i = M0 g ad i) (a1 : Int32) (a2 : Int32) : Met l yX12_meet (wG (.code yX12_meet cX12_meet 6 (some .int))) (Rm 2) (XPre g ad 20 S [.ref (ad 0), .int a1, .int a2]) (va_Qi (fun r _ => r = (-2)) (QB g ad 20) (FA ad 20)) 0 0 (FA ad 20) := by
  refine xmet cX12_meet "EbbWreckModel" (by decide) rfl (Nat.le_of_ble_eq_true rfl) (fun p e s m below meth c E hr hlk hml hQ ls hl => ?_)
  have hx := E.1
  have hb := E.2.1
  have hs : Sp ad 20 (FA ad 20) := Sp.fa hD
  have hl : lv_has ls 6 [(0, .ref (ad 0)), (1, .int a1), (2, .int a2)] := hl
  refine lv_aload_n hx hb dX12_meet_0 rfl (lv_at hl 0 rfl) ?_
  refine lv_iconst (v := 0) hx hb dX12_meet_1 (by decide) ?_
  have c_1 : S 0 = .inr (12, [.int 0, .ref (ad 1), .ref (ad 2), .ref (ad 3), .ref (ad 4), .ref (ad 5), .int 0, .int 0, .int 0, .int 0, .int 0, .long 0, .int 0, .int 0, .int 0, .int (-1), .ref (ad 6), .ref (ad 7), .ref (ad 8), .ref (ad 9), .ref (ad 10), .ref (ad 11), .ref (ad 12), .ref (ad 13), .ref (ad 14), .ref (ad 15), .int 0, .int 0, .ref (ad 16), .int 0, .int 0, .int 0, .int 0, .int 0, .ref (ad 17), .ref (ad 18), .int 0, .ref (ad 19)]) := (hX 0 (by decide))
  refine xputi E hs hQ 0 (by decide) c_1 rfl 0 (by decide) q1468 rfl rfl (Nat.le_of_ble_eq_true rfl) dX12_meet_2 (fun H locs S2 e2 hQ => ?_)
  have hX : ∀ i, i < 20 → S2 i = M0 g ad i := same_up hX e2 rfl
  refine lv_aload_n hx hb dX12_meet_5 rfl (lv_at hl 0 rfl) ?_
  refine lv_iload_n hx hb dX12_meet_6 rfl (lv_at hl 1 rfl) ?_
  have c_3 : S2 0 = .inr (12, [.int 0, .ref (ad 1), .ref (ad 2), .ref (ad 3), .ref (ad 4), .ref (ad 5), .int 0, .int 0, .int 0, .int 0, .int 0, .long 0, .int 0, .int 0, .int 0, .int (-1), .ref (ad 6), .ref (ad 7), .ref (ad 8), .ref (ad 9), .ref (ad 10), .ref (ad 11), .ref (ad 12), .ref (ad 13), .ref (ad 14), .ref (ad 15), .int 0, .int 0, .ref (ad 16), .int 0, .int 0, .int 0, .int 0, .int 0, .ref (ad 17), .ref (ad 18), .int 0, .ref (ad 19)]) := (hX 0 (by decide))
  refine xcVi E hs hQ hml hl.1 0 (fX12_isThing l g ad hD S2 hX a1) mX12_isThing q1766 (by decide) c_3 rfl rfl ⟨by decide, by decide⟩ ⟨by decide, by decide⟩ (by decide) rfl dX12_meet_7 (fun r4 S4 H locs hp4 hQ _ => ?_)
  obtain ⟨rfl, rfl⟩ := hp4
  refine lv_if_eq (tgt := 26) hx hb dX12_meet_10 (by decide) (fun k_5 => ?_) (fun k_5 => absurd k_5 (by decide))
  refine lv_bipush (v := (-2)) hx hb dX12_meet_26 (by decide) ?_
  exact xri E hr hlk hQ (rfl) dX12_meet_28
set_option maxHeartbeats 4000000 in
set_option maxRecDepth 100000 in
theorem fX12_argued (l : Launch) (g : GG) (ad : Nat → Nat) (hD : Dj ad 20) (S : SS) (hX : ∀ i, i < 20 → S i = M0 g ad i) : Met l yX12_argued (wG (.code yX12_argued cX12_argued 5 (some .int))) (Rm 1) (XPre g ad 20 S [.ref (ad 0)]) (va_Qi (fun r _ => r = (-2)) (QB g ad 20) (FA ad 20)) 0 0 (FA ad 20) := by
  refine xmet cX12_argued "EbbWreckModel" (by decide) rfl (Nat.le_of_ble_eq_true rfl) (fun p e s m below meth c E hr hlk hml hQ ls hl => ?_)
  have hx := E.1
  have hb := E.2.1
  have hs : Sp ad 20 (FA ad 20) := Sp.fa hD
  have hl : lv_has ls 5 [(0, .ref (ad 0))] := hl
  refine lv_aload_n hx hb dX12_argued_0 rfl (lv_at hl 0 rfl) ?_
  refine lv_iconst (v := 0) hx hb dX12_argued_1 (by decide) ?_
  have c_1 : S 0 = .inr (12, [.int 0, .ref (ad 1), .ref (ad 2), .ref (ad 3), .ref (ad 4), .ref (ad 5), .int 0, .int 0, .int 0, .int 0, .int 0, .long 0, .int 0, .int 0, .int 0, .int (-1), .ref (ad 6), .ref (ad 7), .ref (ad 8), .ref (ad 9), .ref (ad 10), .ref (ad 11), .ref (ad 12), .ref (ad 13), .ref (ad 14), .ref (ad 15), .int 0, .int 0, .ref (ad 16), .int 0, .int 0, .int 0, .int 0, .int 0, .ref (ad 17), .ref (ad 18), .int 0, .ref (ad 19)]) := (hX 0 (by decide))
  refine xputi E hs hQ 0 (by decide) c_1 rfl 0 (by decide) q1468 rfl rfl (Nat.le_of_ble_eq_true rfl) dX12_argued_2 (fun H locs S2 e2 hQ => ?_)
  have hX : ∀ i, i < 20 → S2 i = M0 g ad i := same_up hX e2 rfl
  refine lv_aload_n hx hb dX12_argued_5 rfl (lv_at hl 0 rfl) ?_
  have c_3 : S2 0 = .inr (12, [.int 0, .ref (ad 1), .ref (ad 2), .ref (ad 3), .ref (ad 4), .ref (ad 5), .int 0, .int 0, .int 0, .int 0, .int 0, .long 0, .int 0, .int 0, .int 0, .int (-1), .ref (ad 6), .ref (ad 7), .ref (ad 8), .ref (ad 9), .ref (ad 10), .ref (ad 11), .ref (ad 12), .ref (ad 13), .ref (ad 14), .ref (ad 15), .int 0, .int 0, .ref (ad 16), .int 0, .int 0, .int 0, .int 0, .int 0, .ref (ad 17), .ref (ad 18), .int 0, .ref (ad 19)]) := (hX 0 (by decide))
  refine xcVi E hs hQ hml hl.1 0 (fX12_isShore l g ad hD S2 hX ) mX12_isShore q1782 (by decide) c_3 rfl rfl ⟨by decide, by decide⟩ ⟨by decide, by decide⟩ (by decide) rfl dX12_argued_6 (fun r4 S4 H locs hp4 hQ _ => ?_)
  obtain ⟨rfl, rfl⟩ := hp4
  refine lv_if_ne (tgt := 15) hx hb dX12_argued_9 (by decide) (fun k_5 => absurd k_5 (by decide)) (fun k_5 => ?_)
  refine lv_bipush (v := (-2)) hx hb dX12_argued_12 (by decide) ?_
  exact xri E hr hlk hQ (rfl) dX12_argued_14
set_option maxHeartbeats 4000000 in
set_option maxRecDepth 100000 in
theorem fX12_gaps (l : Launch) (g : GG) (ad : Nat → Nat) (hD : Dj ad 20) (S : SS) (hX : ∀ i, i < 20 → S i = M0 g ad i) (a1 : Int32) : Met l yX12_gaps (wG (.code yX12_gaps cX12_gaps 4 (some .int))) (Rm 1) (XPre g ad 20 S [.ref (ad 0), .int a1]) (va_Qi (fun r _ => r = (-2)) (QB g ad 20) (FA ad 20)) 0 0 (FA ad 20) := by
  refine xmet cX12_gaps "EbbWreckModel" (by decide) rfl (Nat.le_of_ble_eq_true rfl) (fun p e s m below meth c E hr hlk hml hQ ls hl => ?_)
  have hx := E.1
  have hb := E.2.1
  have hs : Sp ad 20 (FA ad 20) := Sp.fa hD
  have hl : lv_has ls 4 [(0, .ref (ad 0)), (1, .int a1)] := hl
  refine lv_aload_n hx hb dX12_gaps_0 rfl (lv_at hl 0 rfl) ?_
  refine lv_iconst (v := 0) hx hb dX12_gaps_1 (by decide) ?_
  have c_1 : S 0 = .inr (12, [.int 0, .ref (ad 1), .ref (ad 2), .ref (ad 3), .ref (ad 4), .ref (ad 5), .int 0, .int 0, .int 0, .int 0, .int 0, .long 0, .int 0, .int 0, .int 0, .int (-1), .ref (ad 6), .ref (ad 7), .ref (ad 8), .ref (ad 9), .ref (ad 10), .ref (ad 11), .ref (ad 12), .ref (ad 13), .ref (ad 14), .ref (ad 15), .int 0, .int 0, .ref (ad 16), .int 0, .int 0, .int 0, .int 0, .int 0, .ref (ad 17), .ref (ad 18), .int 0, .ref (ad 19)]) := (hX 0 (by decide))
  refine xputi E hs hQ 0 (by decide) c_1 rfl 0 (by decide) q1468 rfl rfl (Nat.le_of_ble_eq_true rfl) dX12_gaps_2 (fun H locs S2 e2 hQ => ?_)
  have hX : ∀ i, i < 20 → S2 i = M0 g ad i := same_up hX e2 rfl
  refine lv_aload_n hx hb dX12_gaps_5 rfl (lv_at hl 0 rfl) ?_
  have c_3 : S2 0 = .inr (12, [.int 0, .ref (ad 1), .ref (ad 2), .ref (ad 3), .ref (ad 4), .ref (ad 5), .int 0, .int 0, .int 0, .int 0, .int 0, .long 0, .int 0, .int 0, .int 0, .int (-1), .ref (ad 6), .ref (ad 7), .ref (ad 8), .ref (ad 9), .ref (ad 10), .ref (ad 11), .ref (ad 12), .ref (ad 13), .ref (ad 14), .ref (ad 15), .int 0, .int 0, .ref (ad 16), .int 0, .int 0, .int 0, .int 0, .int 0, .ref (ad 17), .ref (ad 18), .int 0, .ref (ad 19)]) := (hX 0 (by decide))
  refine xcVi E hs hQ hml hl.1 0 (fX12_isShore l g ad hD S2 hX ) mX12_isShore q1782 (by decide) c_3 rfl rfl ⟨by decide, by decide⟩ ⟨by decide, by decide⟩ (by decide) rfl dX12_gaps_6 (fun r4 S4 H locs hp4 hQ _ => ?_)
  obtain ⟨rfl, rfl⟩ := hp4
  refine lv_if_eq (tgt := 24) hx hb dX12_gaps_9 (by decide) (fun k_5 => ?_) (fun k_5 => absurd k_5 (by decide))
  refine lv_bipush (v := (-2)) hx hb dX12_gaps_24 (by decide) ?_
  exact xri E hr hlk hQ (rfl) dX12_gaps_26
set_option maxHeartbeats 4000000 in
set_option maxRecDepth 100000 in
theorem fX12_idle (l : Launch) (g : GG) (ad : Nat → Nat) (hD : Dj ad 20) (S : SS) (hX : ∀ i, i < 20 → S i = M0 g ad i) : Met l yX12_idle (wG (.code yX12_idle cX12_idle 3 (some .int))) (Rm 1) (XPre g ad 20 S [.ref (ad 0)]) (va_Qi (fun r _ => r = (-2)) (QB g ad 20) (FA ad 20)) 0 0 (FA ad 20) := by
  refine xmet cX12_idle "EbbWreckModel" (by decide) rfl (Nat.le_of_ble_eq_true rfl) (fun p e s m below meth c E hr hlk hml hQ ls hl => ?_)
  have hx := E.1
  have hb := E.2.1
  have hs : Sp ad 20 (FA ad 20) := Sp.fa hD
  have hl : lv_has ls 3 [(0, .ref (ad 0))] := hl
  refine lv_aload_n hx hb dX12_idle_0 rfl (lv_at hl 0 rfl) ?_
  refine lv_iconst (v := 0) hx hb dX12_idle_1 (by decide) ?_
  have c_1 : S 0 = .inr (12, [.int 0, .ref (ad 1), .ref (ad 2), .ref (ad 3), .ref (ad 4), .ref (ad 5), .int 0, .int 0, .int 0, .int 0, .int 0, .long 0, .int 0, .int 0, .int 0, .int (-1), .ref (ad 6), .ref (ad 7), .ref (ad 8), .ref (ad 9), .ref (ad 10), .ref (ad 11), .ref (ad 12), .ref (ad 13), .ref (ad 14), .ref (ad 15), .int 0, .int 0, .ref (ad 16), .int 0, .int 0, .int 0, .int 0, .int 0, .ref (ad 17), .ref (ad 18), .int 0, .ref (ad 19)]) := (hX 0 (by decide))
  refine xputi E hs hQ 0 (by decide) c_1 rfl 0 (by decide) q1468 rfl rfl (Nat.le_of_ble_eq_true rfl) dX12_idle_2 (fun H locs S2 e2 hQ => ?_)
  have hX : ∀ i, i < 20 → S2 i = M0 g ad i := same_up hX e2 rfl
  refine lv_aload_n hx hb dX12_idle_5 rfl (lv_at hl 0 rfl) ?_
  have c_3 : S2 0 = .inr (12, [.int 0, .ref (ad 1), .ref (ad 2), .ref (ad 3), .ref (ad 4), .ref (ad 5), .int 0, .int 0, .int 0, .int 0, .int 0, .long 0, .int 0, .int 0, .int 0, .int (-1), .ref (ad 6), .ref (ad 7), .ref (ad 8), .ref (ad 9), .ref (ad 10), .ref (ad 11), .ref (ad 12), .ref (ad 13), .ref (ad 14), .ref (ad 15), .int 0, .int 0, .ref (ad 16), .int 0, .int 0, .int 0, .int 0, .int 0, .ref (ad 17), .ref (ad 18), .int 0, .ref (ad 19)]) := (hX 0 (by decide))
  refine xcVi E hs hQ hml hl.1 0 (fX12_isShore l g ad hD S2 hX ) mX12_isShore q1782 (by decide) c_3 rfl rfl ⟨by decide, by decide⟩ ⟨by decide, by decide⟩ (by decide) rfl dX12_idle_6 (fun r4 S4 H locs hp4 hQ _ => ?_)
  obtain ⟨rfl, rfl⟩ := hp4
  refine lv_if_ne (tgt := 15) hx hb dX12_idle_9 (by decide) (fun k_5 => absurd k_5 (by decide)) (fun k_5 => ?_)
  refine lv_bipush (v := (-2)) hx hb dX12_idle_12 (by decide) ?_
  exact xri E hr hlk hQ (rfl) dX12_idle_14
set_option maxHeartbeats 4000000 in
set_option maxRecDepth 100000 in
theorem fX12_without (l : Launch) (g : GG) (ad : Nat → Nat) (hD : Dj ad 20) (S : SS) (hX : ∀ i, i < 20 → S i = M0 g ad i) (a1 : Int32) (a2 : Int32) : Met l yX12_without (wG (.code yX12_without cX12_without 3 (some .int))) (Rm 2) (XPre g ad 20 S [.ref (ad 0), .int a1, .int a2]) (va_Qi (fun r _ => r = (-2)) (QB g ad 20) (FA ad 20)) 0 0 (FA ad 20) := by
  refine xmet cX12_without "EbbWreckModel" (by decide) rfl (Nat.le_of_ble_eq_true rfl) (fun p e s m below meth c E hr hlk hml hQ ls hl => ?_)
  have hx := E.1
  have hb := E.2.1
  have hs : Sp ad 20 (FA ad 20) := Sp.fa hD
  have hl : lv_has ls 3 [(0, .ref (ad 0)), (1, .int a1), (2, .int a2)] := hl
  refine lv_aload_n hx hb dX12_without_0 rfl (lv_at hl 0 rfl) ?_
  refine lv_iconst (v := 0) hx hb dX12_without_1 (by decide) ?_
  have c_1 : S 0 = .inr (12, [.int 0, .ref (ad 1), .ref (ad 2), .ref (ad 3), .ref (ad 4), .ref (ad 5), .int 0, .int 0, .int 0, .int 0, .int 0, .long 0, .int 0, .int 0, .int 0, .int (-1), .ref (ad 6), .ref (ad 7), .ref (ad 8), .ref (ad 9), .ref (ad 10), .ref (ad 11), .ref (ad 12), .ref (ad 13), .ref (ad 14), .ref (ad 15), .int 0, .int 0, .ref (ad 16), .int 0, .int 0, .int 0, .int 0, .int 0, .ref (ad 17), .ref (ad 18), .int 0, .ref (ad 19)]) := (hX 0 (by decide))
  refine xputi E hs hQ 0 (by decide) c_1 rfl 0 (by decide) q1468 rfl rfl (Nat.le_of_ble_eq_true rfl) dX12_without_2 (fun H locs S2 e2 hQ => ?_)
  have hX : ∀ i, i < 20 → S2 i = M0 g ad i := same_up hX e2 rfl
  refine lv_aload_n hx hb dX12_without_5 rfl (lv_at hl 0 rfl) ?_
  refine lv_iload_n hx hb dX12_without_6 rfl (lv_at hl 1 rfl) ?_
  have c_3 : S2 0 = .inr (12, [.int 0, .ref (ad 1), .ref (ad 2), .ref (ad 3), .ref (ad 4), .ref (ad 5), .int 0, .int 0, .int 0, .int 0, .int 0, .long 0, .int 0, .int 0, .int 0, .int (-1), .ref (ad 6), .ref (ad 7), .ref (ad 8), .ref (ad 9), .ref (ad 10), .ref (ad 11), .ref (ad 12), .ref (ad 13), .ref (ad 14), .ref (ad 15), .int 0, .int 0, .ref (ad 16), .int 0, .int 0, .int 0, .int 0, .int 0, .ref (ad 17), .ref (ad 18), .int 0, .ref (ad 19)]) := (hX 0 (by decide))
  refine xcVi E hs hQ hml hl.1 0 (fX12_isRule l g ad hD S2 hX a1) mX12_isRule q1774 (by decide) c_3 rfl rfl ⟨by decide, by decide⟩ ⟨by decide, by decide⟩ (by decide) rfl dX12_without_7 (fun r4 S4 H locs hp4 hQ _ => ?_)
  obtain ⟨rfl, rfl⟩ := hp4
  refine lv_if_eq (tgt := 21) hx hb dX12_without_10 (by decide) (fun k_5 => ?_) (fun k_5 => absurd k_5 (by decide))
  refine lv_bipush (v := (-2)) hx hb dX12_without_21 (by decide) ?_
  exact xri E hr hlk hQ (rfl) dX12_without_23
set_option maxHeartbeats 4000000 in
set_option maxRecDepth 100000 in
theorem fX12_strike (l : Launch) (g : GG) (ad : Nat → Nat) (hD : Dj ad 20) (S : SS) (hX : ∀ i, i < 20 → S i = M0 g ad i) (a1 : Int32) : Met l yX12_strike (wG (.code yX12_strike cX12_strike 6 (some .int))) (Rm 2) (XPre g ad 20 S [.ref (ad 0), .int a1]) (va_Qi (fun r _ => r = (-2)) (QB g ad 20) (FA ad 20)) 0 0 (FA ad 20) := by
  refine xmet cX12_strike "EbbWreckModel" (by decide) rfl (Nat.le_of_ble_eq_true rfl) (fun p e s m below meth c E hr hlk hml hQ ls hl => ?_)
  have hx := E.1
  have hb := E.2.1
  have hs : Sp ad 20 (FA ad 20) := Sp.fa hD
  have hl : lv_has ls 6 [(0, .ref (ad 0)), (1, .int a1)] := hl
  refine lv_aload_n hx hb dX12_strike_0 rfl (lv_at hl 0 rfl) ?_
  refine lv_iconst (v := 0) hx hb dX12_strike_1 (by decide) ?_
  have c_1 : S 0 = .inr (12, [.int 0, .ref (ad 1), .ref (ad 2), .ref (ad 3), .ref (ad 4), .ref (ad 5), .int 0, .int 0, .int 0, .int 0, .int 0, .long 0, .int 0, .int 0, .int 0, .int (-1), .ref (ad 6), .ref (ad 7), .ref (ad 8), .ref (ad 9), .ref (ad 10), .ref (ad 11), .ref (ad 12), .ref (ad 13), .ref (ad 14), .ref (ad 15), .int 0, .int 0, .ref (ad 16), .int 0, .int 0, .int 0, .int 0, .int 0, .ref (ad 17), .ref (ad 18), .int 0, .ref (ad 19)]) := (hX 0 (by decide))
  refine xputi E hs hQ 0 (by decide) c_1 rfl 0 (by decide) q1468 rfl rfl (Nat.le_of_ble_eq_true rfl) dX12_strike_2 (fun H locs S2 e2 hQ => ?_)
  have hX : ∀ i, i < 20 → S2 i = M0 g ad i := same_up hX e2 rfl
  refine lv_aload_n hx hb dX12_strike_5 rfl (lv_at hl 0 rfl) ?_
  refine lv_iload_n hx hb dX12_strike_6 rfl (lv_at hl 1 rfl) ?_
  have c_3 : S2 0 = .inr (12, [.int 0, .ref (ad 1), .ref (ad 2), .ref (ad 3), .ref (ad 4), .ref (ad 5), .int 0, .int 0, .int 0, .int 0, .int 0, .long 0, .int 0, .int 0, .int 0, .int (-1), .ref (ad 6), .ref (ad 7), .ref (ad 8), .ref (ad 9), .ref (ad 10), .ref (ad 11), .ref (ad 12), .ref (ad 13), .ref (ad 14), .ref (ad 15), .int 0, .int 0, .ref (ad 16), .int 0, .int 0, .int 0, .int 0, .int 0, .ref (ad 17), .ref (ad 18), .int 0, .ref (ad 19)]) := (hX 0 (by decide))
  refine xcVi E hs hQ hml hl.1 0 (fX12_isParty l g ad hD S2 hX a1) mX12_isParty q1874 (by decide) c_3 rfl rfl ⟨by decide, by decide⟩ ⟨by decide, by decide⟩ (by decide) rfl dX12_strike_7 (fun r4 S4 H locs hp4 hQ _ => ?_)
  obtain ⟨rfl, rfl⟩ := hp4
  refine lv_if_ne (tgt := 16) hx hb dX12_strike_10 (by decide) (fun k_5 => absurd k_5 (by decide)) (fun k_5 => ?_)
  refine lv_bipush (v := (-2)) hx hb dX12_strike_13 (by decide) ?_
  exact xri E hr hlk hQ (rfl) dX12_strike_15
set_option maxHeartbeats 4000000 in
set_option maxRecDepth 100000 in
theorem fX12_clock (l : Launch) (g : GG) (ad : Nat → Nat) (hD : Dj ad 20) (S : SS) (hX : ∀ i, i < 20 → S i = M0 g ad i) (a1 : Int32) (a2 : Int32) : Met l yX12_clock (wG (.code yX12_clock cX12_clock 3 (some .int))) (Rm 2) (XPre g ad 20 S [.ref (ad 0), .int a1, .int a2]) (va_Qi (fun r _ => r = (-2)) (QB g ad 20) (FA ad 20)) 0 0 (FA ad 20) := by
  refine xmet cX12_clock "EbbWreckModel" (by decide) rfl (Nat.le_of_ble_eq_true rfl) (fun p e s m below meth c E hr hlk hml hQ ls hl => ?_)
  have hx := E.1
  have hb := E.2.1
  have hs : Sp ad 20 (FA ad 20) := Sp.fa hD
  have hl : lv_has ls 3 [(0, .ref (ad 0)), (1, .int a1), (2, .int a2)] := hl
  refine lv_aload_n hx hb dX12_clock_0 rfl (lv_at hl 0 rfl) ?_
  refine lv_iconst (v := 0) hx hb dX12_clock_1 (by decide) ?_
  have c_1 : S 0 = .inr (12, [.int 0, .ref (ad 1), .ref (ad 2), .ref (ad 3), .ref (ad 4), .ref (ad 5), .int 0, .int 0, .int 0, .int 0, .int 0, .long 0, .int 0, .int 0, .int 0, .int (-1), .ref (ad 6), .ref (ad 7), .ref (ad 8), .ref (ad 9), .ref (ad 10), .ref (ad 11), .ref (ad 12), .ref (ad 13), .ref (ad 14), .ref (ad 15), .int 0, .int 0, .ref (ad 16), .int 0, .int 0, .int 0, .int 0, .int 0, .ref (ad 17), .ref (ad 18), .int 0, .ref (ad 19)]) := (hX 0 (by decide))
  refine xputi E hs hQ 0 (by decide) c_1 rfl 0 (by decide) q1468 rfl rfl (Nat.le_of_ble_eq_true rfl) dX12_clock_2 (fun H locs S2 e2 hQ => ?_)
  have hX : ∀ i, i < 20 → S2 i = M0 g ad i := same_up hX e2 rfl
  refine lv_aload_n hx hb dX12_clock_5 rfl (lv_at hl 0 rfl) ?_
  refine lv_iload_n hx hb dX12_clock_6 rfl (lv_at hl 1 rfl) ?_
  have c_3 : S2 0 = .inr (12, [.int 0, .ref (ad 1), .ref (ad 2), .ref (ad 3), .ref (ad 4), .ref (ad 5), .int 0, .int 0, .int 0, .int 0, .int 0, .long 0, .int 0, .int 0, .int 0, .int (-1), .ref (ad 6), .ref (ad 7), .ref (ad 8), .ref (ad 9), .ref (ad 10), .ref (ad 11), .ref (ad 12), .ref (ad 13), .ref (ad 14), .ref (ad 15), .int 0, .int 0, .ref (ad 16), .int 0, .int 0, .int 0, .int 0, .int 0, .ref (ad 17), .ref (ad 18), .int 0, .ref (ad 19)]) := (hX 0 (by decide))
  refine xcVi E hs hQ hml hl.1 0 (fX12_isParty l g ad hD S2 hX a1) mX12_isParty q1874 (by decide) c_3 rfl rfl ⟨by decide, by decide⟩ ⟨by decide, by decide⟩ (by decide) rfl dX12_clock_7 (fun r4 S4 H locs hp4 hQ _ => ?_)
  obtain ⟨rfl, rfl⟩ := hp4
  refine lv_if_eq (tgt := 27) hx hb dX12_clock_10 (by decide) (fun k_5 => ?_) (fun k_5 => absurd k_5 (by decide))
  refine lv_bipush (v := (-2)) hx hb dX12_clock_27 (by decide) ?_
  exact xri E hr hlk hQ (rfl) dX12_clock_29
set_option maxHeartbeats 4000000 in
set_option maxRecDepth 100000 in
theorem fX12_set (l : Launch) (g : GG) (ad : Nat → Nat) (hD : Dj ad 20) (S : SS) (hX : ∀ i, i < 20 → S i = M0 g ad i) (a1 : Int32) : Met l yX12_set (wG (.code yX12_set cX12_set 4 (some .int))) (Rm 2) (XPre g ad 20 S [.ref (ad 0), .int a1]) (va_Qi (fun r _ => r = (-1000)) (QB g ad 20) (FA ad 20)) 0 0 (FA ad 20) := by
  refine xmet cX12_set "EbbWreckModel" (by decide) rfl (Nat.le_of_ble_eq_true rfl) (fun p e s m below meth c E hr hlk hml hQ ls hl => ?_)
  have hx := E.1
  have hb := E.2.1
  have hs : Sp ad 20 (FA ad 20) := Sp.fa hD
  have hl : lv_has ls 4 [(0, .ref (ad 0)), (1, .int a1)] := hl
  refine lv_aload_n hx hb dX12_set_0 rfl (lv_at hl 0 rfl) ?_
  refine lv_iconst (v := 0) hx hb dX12_set_1 (by decide) ?_
  have c_1 : S 0 = .inr (12, [.int 0, .ref (ad 1), .ref (ad 2), .ref (ad 3), .ref (ad 4), .ref (ad 5), .int 0, .int 0, .int 0, .int 0, .int 0, .long 0, .int 0, .int 0, .int 0, .int (-1), .ref (ad 6), .ref (ad 7), .ref (ad 8), .ref (ad 9), .ref (ad 10), .ref (ad 11), .ref (ad 12), .ref (ad 13), .ref (ad 14), .ref (ad 15), .int 0, .int 0, .ref (ad 16), .int 0, .int 0, .int 0, .int 0, .int 0, .ref (ad 17), .ref (ad 18), .int 0, .ref (ad 19)]) := (hX 0 (by decide))
  refine xputi E hs hQ 0 (by decide) c_1 rfl 0 (by decide) q1468 rfl rfl (Nat.le_of_ble_eq_true rfl) dX12_set_2 (fun H locs S2 e2 hQ => ?_)
  have hX : ∀ i, i < 20 → S2 i = M0 g ad i := same_up hX e2 rfl
  refine lv_aload_n hx hb dX12_set_5 rfl (lv_at hl 0 rfl) ?_
  refine lv_iload_n hx hb dX12_set_6 rfl (lv_at hl 1 rfl) ?_
  have c_3 : S2 0 = .inr (12, [.int 0, .ref (ad 1), .ref (ad 2), .ref (ad 3), .ref (ad 4), .ref (ad 5), .int 0, .int 0, .int 0, .int 0, .int 0, .long 0, .int 0, .int 0, .int 0, .int (-1), .ref (ad 6), .ref (ad 7), .ref (ad 8), .ref (ad 9), .ref (ad 10), .ref (ad 11), .ref (ad 12), .ref (ad 13), .ref (ad 14), .ref (ad 15), .int 0, .int 0, .ref (ad 16), .int 0, .int 0, .int 0, .int 0, .int 0, .ref (ad 17), .ref (ad 18), .int 0, .ref (ad 19)]) := (hX 0 (by decide))
  refine xcVi E hs hQ hml hl.1 0 (fX12_isParty l g ad hD S2 hX a1) mX12_isParty q1874 (by decide) c_3 rfl rfl ⟨by decide, by decide⟩ ⟨by decide, by decide⟩ (by decide) rfl dX12_set_7 (fun r4 S4 H locs hp4 hQ _ => ?_)
  obtain ⟨rfl, rfl⟩ := hp4
  refine lv_if_ne (tgt := 17) hx hb dX12_set_10 (by decide) (fun k_5 => absurd k_5 (by decide)) (fun k_5 => ?_)
  refine lv_sipush (v := (-1000)) hx hb dX12_set_13 (by decide) ?_
  exact xri E hr hlk hQ (rfl) dX12_set_16
set_option maxHeartbeats 4000000 in
set_option maxRecDepth 100000 in
theorem fX12_pushes (l : Launch) (g : GG) (ad : Nat → Nat) (hD : Dj ad 20) (S : SS) (hX : ∀ i, i < 20 → S i = M0 g ad i) (a1 : Int32) (a2 : Int32) : Met l yX12_pushes (wG (.code yX12_pushes cX12_pushes 3 (some .int))) (Rm 3) (XPre g ad 20 S [.ref (ad 0), .int a1, .int a2]) (va_Qi (fun r _ => r = (-2)) (QB g ad 20) (FA ad 20)) 0 0 (FA ad 20) := by
  refine xmet cX12_pushes "EbbWreckModel" (by decide) rfl (Nat.le_of_ble_eq_true rfl) (fun p e s m below meth c E hr hlk hml hQ ls hl => ?_)
  have hx := E.1
  have hb := E.2.1
  have hs : Sp ad 20 (FA ad 20) := Sp.fa hD
  have hl : lv_has ls 3 [(0, .ref (ad 0)), (1, .int a1), (2, .int a2)] := hl
  refine lv_aload_n hx hb dX12_pushes_0 rfl (lv_at hl 0 rfl) ?_
  refine lv_iconst (v := 0) hx hb dX12_pushes_1 (by decide) ?_
  have c_1 : S 0 = .inr (12, [.int 0, .ref (ad 1), .ref (ad 2), .ref (ad 3), .ref (ad 4), .ref (ad 5), .int 0, .int 0, .int 0, .int 0, .int 0, .long 0, .int 0, .int 0, .int 0, .int (-1), .ref (ad 6), .ref (ad 7), .ref (ad 8), .ref (ad 9), .ref (ad 10), .ref (ad 11), .ref (ad 12), .ref (ad 13), .ref (ad 14), .ref (ad 15), .int 0, .int 0, .ref (ad 16), .int 0, .int 0, .int 0, .int 0, .int 0, .ref (ad 17), .ref (ad 18), .int 0, .ref (ad 19)]) := (hX 0 (by decide))
  refine xputi E hs hQ 0 (by decide) c_1 rfl 0 (by decide) q1468 rfl rfl (Nat.le_of_ble_eq_true rfl) dX12_pushes_2 (fun H locs S2 e2 hQ => ?_)
  have hX : ∀ i, i < 20 → S2 i = M0 g ad i := same_up hX e2 rfl
  refine lv_aload_n hx hb dX12_pushes_5 rfl (lv_at hl 0 rfl) ?_
  refine lv_iload_n hx hb dX12_pushes_6 rfl (lv_at hl 1 rfl) ?_
  refine lv_iload_n hx hb dX12_pushes_7 rfl (lv_at hl 2 rfl) ?_
  have c_3 : S2 0 = .inr (12, [.int 0, .ref (ad 1), .ref (ad 2), .ref (ad 3), .ref (ad 4), .ref (ad 5), .int 0, .int 0, .int 0, .int 0, .int 0, .long 0, .int 0, .int 0, .int 0, .int (-1), .ref (ad 6), .ref (ad 7), .ref (ad 8), .ref (ad 9), .ref (ad 10), .ref (ad 11), .ref (ad 12), .ref (ad 13), .ref (ad 14), .ref (ad 15), .int 0, .int 0, .ref (ad 16), .int 0, .int 0, .int 0, .int 0, .int 0, .ref (ad 17), .ref (ad 18), .int 0, .ref (ad 19)]) := (hX 0 (by decide))
  refine xcVi E hs hQ hml hl.1 0 (fX12_isPush l g ad hD S2 hX a1 a2) mX12_isPush q1922 (by decide) c_3 rfl rfl ⟨by decide, by decide⟩ ⟨by decide, by decide⟩ (by decide) rfl dX12_pushes_8 (fun r4 S4 H locs hp4 hQ _ => ?_)
  obtain ⟨rfl, rfl⟩ := hp4
  refine lv_if_ne (tgt := 17) hx hb dX12_pushes_11 (by decide) (fun k_5 => absurd k_5 (by decide)) (fun k_5 => ?_)
  refine lv_bipush (v := (-2)) hx hb dX12_pushes_14 (by decide) ?_
  exact xri E hr hlk hQ (rfl) dX12_pushes_16
set_option maxHeartbeats 4000000 in
set_option maxRecDepth 100000 in
theorem fX12_push (l : Launch) (g : GG) (ad : Nat → Nat) (hD : Dj ad 20) (S : SS) (hX : ∀ i, i < 20 → S i = M0 g ad i) (a1 : Int32) (a2 : Int32) (a3 : Int32) : Met l yX12_push (wG (.code yX12_push cX12_push 4 (some .int))) (Rm 3) (XPre g ad 20 S [.ref (ad 0), .int a1, .int a2, .int a3]) (va_Qi (fun r _ => r = (-2)) (QB g ad 20) (FA ad 20)) 0 0 (FA ad 20) := by
  refine xmet cX12_push "EbbWreckModel" (by decide) rfl (Nat.le_of_ble_eq_true rfl) (fun p e s m below meth c E hr hlk hml hQ ls hl => ?_)
  have hx := E.1
  have hb := E.2.1
  have hs : Sp ad 20 (FA ad 20) := Sp.fa hD
  have hl : lv_has ls 4 [(0, .ref (ad 0)), (1, .int a1), (2, .int a2), (3, .int a3)] := hl
  refine lv_aload_n hx hb dX12_push_0 rfl (lv_at hl 0 rfl) ?_
  refine lv_iconst (v := 0) hx hb dX12_push_1 (by decide) ?_
  have c_1 : S 0 = .inr (12, [.int 0, .ref (ad 1), .ref (ad 2), .ref (ad 3), .ref (ad 4), .ref (ad 5), .int 0, .int 0, .int 0, .int 0, .int 0, .long 0, .int 0, .int 0, .int 0, .int (-1), .ref (ad 6), .ref (ad 7), .ref (ad 8), .ref (ad 9), .ref (ad 10), .ref (ad 11), .ref (ad 12), .ref (ad 13), .ref (ad 14), .ref (ad 15), .int 0, .int 0, .ref (ad 16), .int 0, .int 0, .int 0, .int 0, .int 0, .ref (ad 17), .ref (ad 18), .int 0, .ref (ad 19)]) := (hX 0 (by decide))
  refine xputi E hs hQ 0 (by decide) c_1 rfl 0 (by decide) q1468 rfl rfl (Nat.le_of_ble_eq_true rfl) dX12_push_2 (fun H locs S2 e2 hQ => ?_)
  have hX : ∀ i, i < 20 → S2 i = M0 g ad i := same_up hX e2 rfl
  refine lv_aload_n hx hb dX12_push_5 rfl (lv_at hl 0 rfl) ?_
  refine lv_iload_n hx hb dX12_push_6 rfl (lv_at hl 1 rfl) ?_
  refine lv_iload_n hx hb dX12_push_7 rfl (lv_at hl 2 rfl) ?_
  have c_3 : S2 0 = .inr (12, [.int 0, .ref (ad 1), .ref (ad 2), .ref (ad 3), .ref (ad 4), .ref (ad 5), .int 0, .int 0, .int 0, .int 0, .int 0, .long 0, .int 0, .int 0, .int 0, .int (-1), .ref (ad 6), .ref (ad 7), .ref (ad 8), .ref (ad 9), .ref (ad 10), .ref (ad 11), .ref (ad 12), .ref (ad 13), .ref (ad 14), .ref (ad 15), .int 0, .int 0, .ref (ad 16), .int 0, .int 0, .int 0, .int 0, .int 0, .ref (ad 17), .ref (ad 18), .int 0, .ref (ad 19)]) := (hX 0 (by decide))
  refine xcVi E hs hQ hml hl.1 0 (fX12_isPush l g ad hD S2 hX a1 a2) mX12_isPush q1922 (by decide) c_3 rfl rfl ⟨by decide, by decide⟩ ⟨by decide, by decide⟩ (by decide) rfl dX12_push_8 (fun r4 S4 H locs hp4 hQ _ => ?_)
  obtain ⟨rfl, rfl⟩ := hp4
  refine lv_if_eq (tgt := 24) hx hb dX12_push_11 (by decide) (fun k_5 => ?_) (fun k_5 => absurd k_5 (by decide))
  refine lv_bipush (v := (-2)) hx hb dX12_push_24 (by decide) ?_
  exact xri E hr hlk hQ (rfl) dX12_push_26
set_option maxHeartbeats 4000000 in
set_option maxRecDepth 100000 in
theorem fX12_way (l : Launch) (g : GG) (ad : Nat → Nat) (hD : Dj ad 20) (S : SS) (hX : ∀ i, i < 20 → S i = M0 g ad i) (a1 : Int32) (a2 : Int32) (a3 : Int32) : Met l yX12_way (wG (.code yX12_way cX12_way 4 (some .int))) (Rm 3) (XPre g ad 20 S [.ref (ad 0), .int a1, .int a2, .int a3]) (va_Qi (fun r _ => r = (-2)) (QB g ad 20) (FA ad 20)) 0 0 (FA ad 20) := by
  refine xmet cX12_way "EbbWreckModel" (by decide) rfl (Nat.le_of_ble_eq_true rfl) (fun p e s m below meth c E hr hlk hml hQ ls hl => ?_)
  have hx := E.1
  have hb := E.2.1
  have hs : Sp ad 20 (FA ad 20) := Sp.fa hD
  have hl : lv_has ls 4 [(0, .ref (ad 0)), (1, .int a1), (2, .int a2), (3, .int a3)] := hl
  refine lv_aload_n hx hb dX12_way_0 rfl (lv_at hl 0 rfl) ?_
  refine lv_iconst (v := 0) hx hb dX12_way_1 (by decide) ?_
  have c_1 : S 0 = .inr (12, [.int 0, .ref (ad 1), .ref (ad 2), .ref (ad 3), .ref (ad 4), .ref (ad 5), .int 0, .int 0, .int 0, .int 0, .int 0, .long 0, .int 0, .int 0, .int 0, .int (-1), .ref (ad 6), .ref (ad 7), .ref (ad 8), .ref (ad 9), .ref (ad 10), .ref (ad 11), .ref (ad 12), .ref (ad 13), .ref (ad 14), .ref (ad 15), .int 0, .int 0, .ref (ad 16), .int 0, .int 0, .int 0, .int 0, .int 0, .ref (ad 17), .ref (ad 18), .int 0, .ref (ad 19)]) := (hX 0 (by decide))
  refine xputi E hs hQ 0 (by decide) c_1 rfl 0 (by decide) q1468 rfl rfl (Nat.le_of_ble_eq_true rfl) dX12_way_2 (fun H locs S2 e2 hQ => ?_)
  have hX : ∀ i, i < 20 → S2 i = M0 g ad i := same_up hX e2 rfl
  refine lv_aload_n hx hb dX12_way_5 rfl (lv_at hl 0 rfl) ?_
  refine lv_iload_n hx hb dX12_way_6 rfl (lv_at hl 1 rfl) ?_
  refine lv_iload_n hx hb dX12_way_7 rfl (lv_at hl 2 rfl) ?_
  have c_3 : S2 0 = .inr (12, [.int 0, .ref (ad 1), .ref (ad 2), .ref (ad 3), .ref (ad 4), .ref (ad 5), .int 0, .int 0, .int 0, .int 0, .int 0, .long 0, .int 0, .int 0, .int 0, .int (-1), .ref (ad 6), .ref (ad 7), .ref (ad 8), .ref (ad 9), .ref (ad 10), .ref (ad 11), .ref (ad 12), .ref (ad 13), .ref (ad 14), .ref (ad 15), .int 0, .int 0, .ref (ad 16), .int 0, .int 0, .int 0, .int 0, .int 0, .ref (ad 17), .ref (ad 18), .int 0, .ref (ad 19)]) := (hX 0 (by decide))
  refine xcVi E hs hQ hml hl.1 0 (fX12_isPush l g ad hD S2 hX a1 a2) mX12_isPush q1922 (by decide) c_3 rfl rfl ⟨by decide, by decide⟩ ⟨by decide, by decide⟩ (by decide) rfl dX12_way_8 (fun r4 S4 H locs hp4 hQ _ => ?_)
  obtain ⟨rfl, rfl⟩ := hp4
  refine lv_if_ne (tgt := 17) hx hb dX12_way_11 (by decide) (fun k_5 => absurd k_5 (by decide)) (fun k_5 => ?_)
  refine lv_bipush (v := (-2)) hx hb dX12_way_14 (by decide) ?_
  exact xri E hr hlk hQ (rfl) dX12_way_16
set_option maxHeartbeats 4000000 in
set_option maxRecDepth 100000 in
theorem fX12_soonest (l : Launch) (g : GG) (ad : Nat → Nat) (hD : Dj ad 20) (S : SS) (hX : ∀ i, i < 20 → S i = M0 g ad i) (a1 : Int32) (a2 : Int32) : Met l yX12_soonest (wG (.code yX12_soonest cX12_soonest 9 (some .int))) (Rm 3) (XPre g ad 20 S [.ref (ad 0), .int a1, .int a2]) (va_Qi (fun r _ => r = (-2)) (QB g ad 20) (FA ad 20)) 0 0 (FA ad 20) := by
  refine xmet cX12_soonest "EbbWreckModel" (by decide) rfl (Nat.le_of_ble_eq_true rfl) (fun p e s m below meth c E hr hlk hml hQ ls hl => ?_)
  have hx := E.1
  have hb := E.2.1
  have hs : Sp ad 20 (FA ad 20) := Sp.fa hD
  have hl : lv_has ls 9 [(0, .ref (ad 0)), (1, .int a1), (2, .int a2)] := hl
  refine lv_aload_n hx hb dX12_soonest_0 rfl (lv_at hl 0 rfl) ?_
  refine lv_iconst (v := 0) hx hb dX12_soonest_1 (by decide) ?_
  have c_1 : S 0 = .inr (12, [.int 0, .ref (ad 1), .ref (ad 2), .ref (ad 3), .ref (ad 4), .ref (ad 5), .int 0, .int 0, .int 0, .int 0, .int 0, .long 0, .int 0, .int 0, .int 0, .int (-1), .ref (ad 6), .ref (ad 7), .ref (ad 8), .ref (ad 9), .ref (ad 10), .ref (ad 11), .ref (ad 12), .ref (ad 13), .ref (ad 14), .ref (ad 15), .int 0, .int 0, .ref (ad 16), .int 0, .int 0, .int 0, .int 0, .int 0, .ref (ad 17), .ref (ad 18), .int 0, .ref (ad 19)]) := (hX 0 (by decide))
  refine xputi E hs hQ 0 (by decide) c_1 rfl 0 (by decide) q1468 rfl rfl (Nat.le_of_ble_eq_true rfl) dX12_soonest_2 (fun H locs S2 e2 hQ => ?_)
  have hX : ∀ i, i < 20 → S2 i = M0 g ad i := same_up hX e2 rfl
  refine lv_aload_n hx hb dX12_soonest_5 rfl (lv_at hl 0 rfl) ?_
  refine lv_iload_n hx hb dX12_soonest_6 rfl (lv_at hl 1 rfl) ?_
  refine lv_iload_n hx hb dX12_soonest_7 rfl (lv_at hl 2 rfl) ?_
  have c_3 : S2 0 = .inr (12, [.int 0, .ref (ad 1), .ref (ad 2), .ref (ad 3), .ref (ad 4), .ref (ad 5), .int 0, .int 0, .int 0, .int 0, .int 0, .long 0, .int 0, .int 0, .int 0, .int (-1), .ref (ad 6), .ref (ad 7), .ref (ad 8), .ref (ad 9), .ref (ad 10), .ref (ad 11), .ref (ad 12), .ref (ad 13), .ref (ad 14), .ref (ad 15), .int 0, .int 0, .ref (ad 16), .int 0, .int 0, .int 0, .int 0, .int 0, .ref (ad 17), .ref (ad 18), .int 0, .ref (ad 19)]) := (hX 0 (by decide))
  refine xcVi E hs hQ hml hl.1 0 (fX12_isPush l g ad hD S2 hX a1 a2) mX12_isPush q1922 (by decide) c_3 rfl rfl ⟨by decide, by decide⟩ ⟨by decide, by decide⟩ (by decide) rfl dX12_soonest_8 (fun r4 S4 H locs hp4 hQ _ => ?_)
  obtain ⟨rfl, rfl⟩ := hp4
  refine lv_if_ne (tgt := 17) hx hb dX12_soonest_11 (by decide) (fun k_5 => absurd k_5 (by decide)) (fun k_5 => ?_)
  refine lv_bipush (v := (-2)) hx hb dX12_soonest_14 (by decide) ?_
  exact xri E hr hlk hQ (rfl) dX12_soonest_16
set_option maxHeartbeats 4000000 in
set_option maxRecDepth 100000 in
theorem fX12_ward (l : Launch) (g : GG) (ad : Nat → Nat) (hD : Dj ad 20) (S : SS) (hX : ∀ i, i < 20 → S i = M0 g ad i) (a1 : Int32) (a2 : Int32) : Met l yX12_ward (wG (.code yX12_ward cX12_ward 7 (some .int))) (Rm 3) (XPre g ad 20 S [.ref (ad 0), .int a1, .int a2]) (va_Qi (fun r _ => r = (-2)) (QB g ad 20) (FA ad 20)) 0 0 (FA ad 20) := by
  refine xmet cX12_ward "EbbWreckModel" (by decide) rfl (Nat.le_of_ble_eq_true rfl) (fun p e s m below meth c E hr hlk hml hQ ls hl => ?_)
  have hx := E.1
  have hb := E.2.1
  have hs : Sp ad 20 (FA ad 20) := Sp.fa hD
  have hl : lv_has ls 7 [(0, .ref (ad 0)), (1, .int a1), (2, .int a2)] := hl
  refine lv_aload_n hx hb dX12_ward_0 rfl (lv_at hl 0 rfl) ?_
  refine lv_iconst (v := 0) hx hb dX12_ward_1 (by decide) ?_
  have c_1 : S 0 = .inr (12, [.int 0, .ref (ad 1), .ref (ad 2), .ref (ad 3), .ref (ad 4), .ref (ad 5), .int 0, .int 0, .int 0, .int 0, .int 0, .long 0, .int 0, .int 0, .int 0, .int (-1), .ref (ad 6), .ref (ad 7), .ref (ad 8), .ref (ad 9), .ref (ad 10), .ref (ad 11), .ref (ad 12), .ref (ad 13), .ref (ad 14), .ref (ad 15), .int 0, .int 0, .ref (ad 16), .int 0, .int 0, .int 0, .int 0, .int 0, .ref (ad 17), .ref (ad 18), .int 0, .ref (ad 19)]) := (hX 0 (by decide))
  refine xputi E hs hQ 0 (by decide) c_1 rfl 0 (by decide) q1468 rfl rfl (Nat.le_of_ble_eq_true rfl) dX12_ward_2 (fun H locs S2 e2 hQ => ?_)
  have hX : ∀ i, i < 20 → S2 i = M0 g ad i := same_up hX e2 rfl
  refine lv_aload_n hx hb dX12_ward_5 rfl (lv_at hl 0 rfl) ?_
  refine lv_iload_n hx hb dX12_ward_6 rfl (lv_at hl 1 rfl) ?_
  refine lv_iload_n hx hb dX12_ward_7 rfl (lv_at hl 2 rfl) ?_
  have c_3 : S2 0 = .inr (12, [.int 0, .ref (ad 1), .ref (ad 2), .ref (ad 3), .ref (ad 4), .ref (ad 5), .int 0, .int 0, .int 0, .int 0, .int 0, .long 0, .int 0, .int 0, .int 0, .int (-1), .ref (ad 6), .ref (ad 7), .ref (ad 8), .ref (ad 9), .ref (ad 10), .ref (ad 11), .ref (ad 12), .ref (ad 13), .ref (ad 14), .ref (ad 15), .int 0, .int 0, .ref (ad 16), .int 0, .int 0, .int 0, .int 0, .int 0, .ref (ad 17), .ref (ad 18), .int 0, .ref (ad 19)]) := (hX 0 (by decide))
  refine xcVi E hs hQ hml hl.1 0 (fX12_isPush l g ad hD S2 hX a1 a2) mX12_isPush q1922 (by decide) c_3 rfl rfl ⟨by decide, by decide⟩ ⟨by decide, by decide⟩ (by decide) rfl dX12_ward_8 (fun r4 S4 H locs hp4 hQ _ => ?_)
  obtain ⟨rfl, rfl⟩ := hp4
  refine lv_if_ne (tgt := 17) hx hb dX12_ward_11 (by decide) (fun k_5 => absurd k_5 (by decide)) (fun k_5 => ?_)
  refine lv_bipush (v := (-2)) hx hb dX12_ward_14 (by decide) ?_
  exact xri E hr hlk hQ (rfl) dX12_ward_16
set_option maxHeartbeats 4000000 in
set_option maxRecDepth 100000 in
theorem fX12_all (l : Launch) (g : GG) (ad : Nat → Nat) (hD : Dj ad 20) (S : SS) (hX : ∀ i, i < 20 → S i = M0 g ad i) (a1 : Int32) : Met l yX12_all (wG (.code yX12_all cX12_all 4 (some .int))) (Rm 2) (XPre g ad 20 S [.ref (ad 0), .int a1]) (va_Qi (fun r _ => r = (-2)) (QB g ad 20) (FA ad 20)) 0 0 (FA ad 20) := by
  refine xmet cX12_all "EbbWreckModel" (by decide) rfl (Nat.le_of_ble_eq_true rfl) (fun p e s m below meth c E hr hlk hml hQ ls hl => ?_)
  have hx := E.1
  have hb := E.2.1
  have hs : Sp ad 20 (FA ad 20) := Sp.fa hD
  have hl : lv_has ls 4 [(0, .ref (ad 0)), (1, .int a1)] := hl
  refine lv_aload_n hx hb dX12_all_0 rfl (lv_at hl 0 rfl) ?_
  refine lv_iconst (v := 0) hx hb dX12_all_1 (by decide) ?_
  have c_1 : S 0 = .inr (12, [.int 0, .ref (ad 1), .ref (ad 2), .ref (ad 3), .ref (ad 4), .ref (ad 5), .int 0, .int 0, .int 0, .int 0, .int 0, .long 0, .int 0, .int 0, .int 0, .int (-1), .ref (ad 6), .ref (ad 7), .ref (ad 8), .ref (ad 9), .ref (ad 10), .ref (ad 11), .ref (ad 12), .ref (ad 13), .ref (ad 14), .ref (ad 15), .int 0, .int 0, .ref (ad 16), .int 0, .int 0, .int 0, .int 0, .int 0, .ref (ad 17), .ref (ad 18), .int 0, .ref (ad 19)]) := (hX 0 (by decide))
  refine xputi E hs hQ 0 (by decide) c_1 rfl 0 (by decide) q1468 rfl rfl (Nat.le_of_ble_eq_true rfl) dX12_all_2 (fun H locs S2 e2 hQ => ?_)
  have hX : ∀ i, i < 20 → S2 i = M0 g ad i := same_up hX e2 rfl
  refine lv_aload_n hx hb dX12_all_5 rfl (lv_at hl 0 rfl) ?_
  refine lv_iload_n hx hb dX12_all_6 rfl (lv_at hl 1 rfl) ?_
  have c_3 : S2 0 = .inr (12, [.int 0, .ref (ad 1), .ref (ad 2), .ref (ad 3), .ref (ad 4), .ref (ad 5), .int 0, .int 0, .int 0, .int 0, .int 0, .long 0, .int 0, .int 0, .int 0, .int (-1), .ref (ad 6), .ref (ad 7), .ref (ad 8), .ref (ad 9), .ref (ad 10), .ref (ad 11), .ref (ad 12), .ref (ad 13), .ref (ad 14), .ref (ad 15), .int 0, .int 0, .ref (ad 16), .int 0, .int 0, .int 0, .int 0, .int 0, .ref (ad 17), .ref (ad 18), .int 0, .ref (ad 19)]) := (hX 0 (by decide))
  refine xcVi E hs hQ hml hl.1 0 (fX12_isParty l g ad hD S2 hX a1) mX12_isParty q1874 (by decide) c_3 rfl rfl ⟨by decide, by decide⟩ ⟨by decide, by decide⟩ (by decide) rfl dX12_all_7 (fun r4 S4 H locs hp4 hQ _ => ?_)
  obtain ⟨rfl, rfl⟩ := hp4
  refine lv_if_ne (tgt := 16) hx hb dX12_all_10 (by decide) (fun k_5 => absurd k_5 (by decide)) (fun k_5 => ?_)
  refine lv_bipush (v := (-2)) hx hb dX12_all_13 (by decide) ?_
  exact xri E hr hlk hQ (rfl) dX12_all_15
set_option maxHeartbeats 4000000 in
set_option maxRecDepth 100000 in
theorem fX12_eddy (l : Launch) (g : GG) (ad : Nat → Nat) (hD : Dj ad 20) (S : SS) (hX : ∀ i, i < 20 → S i = M0 g ad i) (a1 : Int32) : Met l yX12_eddy (wG (.code yX12_eddy cX12_eddy 4 (some .int))) (Rm 2) (XPre g ad 20 S [.ref (ad 0), .int a1]) (va_Qi (fun r _ => r = (-2)) (QB g ad 20) (FA ad 20)) 0 0 (FA ad 20) := by
  refine xmet cX12_eddy "EbbWreckModel" (by decide) rfl (Nat.le_of_ble_eq_true rfl) (fun p e s m below meth c E hr hlk hml hQ ls hl => ?_)
  have hx := E.1
  have hb := E.2.1
  have hs : Sp ad 20 (FA ad 20) := Sp.fa hD
  have hl : lv_has ls 4 [(0, .ref (ad 0)), (1, .int a1)] := hl
  refine lv_aload_n hx hb dX12_eddy_0 rfl (lv_at hl 0 rfl) ?_
  refine lv_iconst (v := 0) hx hb dX12_eddy_1 (by decide) ?_
  have c_1 : S 0 = .inr (12, [.int 0, .ref (ad 1), .ref (ad 2), .ref (ad 3), .ref (ad 4), .ref (ad 5), .int 0, .int 0, .int 0, .int 0, .int 0, .long 0, .int 0, .int 0, .int 0, .int (-1), .ref (ad 6), .ref (ad 7), .ref (ad 8), .ref (ad 9), .ref (ad 10), .ref (ad 11), .ref (ad 12), .ref (ad 13), .ref (ad 14), .ref (ad 15), .int 0, .int 0, .ref (ad 16), .int 0, .int 0, .int 0, .int 0, .int 0, .ref (ad 17), .ref (ad 18), .int 0, .ref (ad 19)]) := (hX 0 (by decide))
  refine xputi E hs hQ 0 (by decide) c_1 rfl 0 (by decide) q1468 rfl rfl (Nat.le_of_ble_eq_true rfl) dX12_eddy_2 (fun H locs S2 e2 hQ => ?_)
  have hX : ∀ i, i < 20 → S2 i = M0 g ad i := same_up hX e2 rfl
  refine lv_aload_n hx hb dX12_eddy_5 rfl (lv_at hl 0 rfl) ?_
  refine lv_iload_n hx hb dX12_eddy_6 rfl (lv_at hl 1 rfl) ?_
  refine lv_i2l hx hb dX12_eddy_7 rfl ?_
  have c_3 : S2 0 = .inr (12, [.int 0, .ref (ad 1), .ref (ad 2), .ref (ad 3), .ref (ad 4), .ref (ad 5), .int 0, .int 0, .int 0, .int 0, .int 0, .long 0, .int 0, .int 0, .int 0, .int (-1), .ref (ad 6), .ref (ad 7), .ref (ad 8), .ref (ad 9), .ref (ad 10), .ref (ad 11), .ref (ad 12), .ref (ad 13), .ref (ad 14), .ref (ad 15), .int 0, .int 0, .ref (ad 16), .int 0, .int 0, .int 0, .int 0, .int 0, .ref (ad 17), .ref (ad 18), .int 0, .ref (ad 19)]) := (hX 0 (by decide))
  refine xcVi E hs hQ hml hl.1 0 (fX12_isCell l g ad hD S2 hX a1.toInt64) mX12_isCell q1750 (by decide) c_3 rfl rfl ⟨by decide, by decide⟩ ⟨by decide, by decide⟩ (by decide) rfl dX12_eddy_8 (fun r4 S4 H locs hp4 hQ _ => ?_)
  obtain ⟨rfl, rfl⟩ := hp4
  refine lv_if_ne (tgt := 17) hx hb dX12_eddy_11 (by decide) (fun k_5 => absurd k_5 (by decide)) (fun k_5 => ?_)
  refine lv_bipush (v := (-2)) hx hb dX12_eddy_14 (by decide) ?_
  exact xri E hr hlk hQ (rfl) dX12_eddy_16
set_option maxHeartbeats 4000000 in
set_option maxRecDepth 100000 in
theorem fX12_stuck (l : Launch) (g : GG) (ad : Nat → Nat) (hD : Dj ad 20) (S : SS) (hX : ∀ i, i < 20 → S i = M0 g ad i) : Met l yX12_stuck (wG (.code yX12_stuck cX12_stuck 3 (some .int))) (Rm 1) (XPre g ad 20 S [.ref (ad 0)]) (va_Qi (fun r _ => r = (-2)) (QB g ad 20) (FA ad 20)) 0 0 (FA ad 20) := by
  refine xmet cX12_stuck "EbbWreckModel" (by decide) rfl (Nat.le_of_ble_eq_true rfl) (fun p e s m below meth c E hr hlk hml hQ ls hl => ?_)
  have hx := E.1
  have hb := E.2.1
  have hs : Sp ad 20 (FA ad 20) := Sp.fa hD
  have hl : lv_has ls 3 [(0, .ref (ad 0))] := hl
  refine lv_aload_n hx hb dX12_stuck_0 rfl (lv_at hl 0 rfl) ?_
  refine lv_iconst (v := 0) hx hb dX12_stuck_1 (by decide) ?_
  have c_1 : S 0 = .inr (12, [.int 0, .ref (ad 1), .ref (ad 2), .ref (ad 3), .ref (ad 4), .ref (ad 5), .int 0, .int 0, .int 0, .int 0, .int 0, .long 0, .int 0, .int 0, .int 0, .int (-1), .ref (ad 6), .ref (ad 7), .ref (ad 8), .ref (ad 9), .ref (ad 10), .ref (ad 11), .ref (ad 12), .ref (ad 13), .ref (ad 14), .ref (ad 15), .int 0, .int 0, .ref (ad 16), .int 0, .int 0, .int 0, .int 0, .int 0, .ref (ad 17), .ref (ad 18), .int 0, .ref (ad 19)]) := (hX 0 (by decide))
  refine xputi E hs hQ 0 (by decide) c_1 rfl 0 (by decide) q1468 rfl rfl (Nat.le_of_ble_eq_true rfl) dX12_stuck_2 (fun H locs S2 e2 hQ => ?_)
  have hX : ∀ i, i < 20 → S2 i = M0 g ad i := same_up hX e2 rfl
  refine lv_aload_n hx hb dX12_stuck_5 rfl (lv_at hl 0 rfl) ?_
  have c_3 : S2 0 = .inr (12, [.int 0, .ref (ad 1), .ref (ad 2), .ref (ad 3), .ref (ad 4), .ref (ad 5), .int 0, .int 0, .int 0, .int 0, .int 0, .long 0, .int 0, .int 0, .int 0, .int (-1), .ref (ad 6), .ref (ad 7), .ref (ad 8), .ref (ad 9), .ref (ad 10), .ref (ad 11), .ref (ad 12), .ref (ad 13), .ref (ad 14), .ref (ad 15), .int 0, .int 0, .ref (ad 16), .int 0, .int 0, .int 0, .int 0, .int 0, .ref (ad 17), .ref (ad 18), .int 0, .ref (ad 19)]) := (hX 0 (by decide))
  refine xcVi E hs hQ hml hl.1 0 (fX12_isShore l g ad hD S2 hX ) mX12_isShore q1782 (by decide) c_3 rfl rfl ⟨by decide, by decide⟩ ⟨by decide, by decide⟩ (by decide) rfl dX12_stuck_6 (fun r4 S4 H locs hp4 hQ _ => ?_)
  obtain ⟨rfl, rfl⟩ := hp4
  refine lv_if_ne (tgt := 15) hx hb dX12_stuck_9 (by decide) (fun k_5 => absurd k_5 (by decide)) (fun k_5 => ?_)
  refine lv_bipush (v := (-2)) hx hb dX12_stuck_12 (by decide) ?_
  exact xri E hr hlk hQ (rfl) dX12_stuck_14
set_option maxHeartbeats 4000000 in
set_option maxRecDepth 100000 in
theorem fX12_drop (l : Launch) (g : GG) (ad : Nat → Nat) (hD : Dj ad 20) (S : SS) (hX : ∀ i, i < 20 → S i = M0 g ad i) (a1 : Int32) (a2 : Int32) : Met l yX12_drop (wG (.code yX12_drop cX12_drop 3 (some .int))) (Rm 2) (XPre g ad 20 S [.ref (ad 0), .int a1, .int a2]) (va_Qi (fun r _ => r = (-2)) (QB g ad 20) (FA ad 20)) 0 0 (FA ad 20) := by
  refine xmet cX12_drop "EbbWreckModel" (by decide) rfl (Nat.le_of_ble_eq_true rfl) (fun p e s m below meth c E hr hlk hml hQ ls hl => ?_)
  have hx := E.1
  have hb := E.2.1
  have hs : Sp ad 20 (FA ad 20) := Sp.fa hD
  have hl : lv_has ls 3 [(0, .ref (ad 0)), (1, .int a1), (2, .int a2)] := hl
  refine lv_aload_n hx hb dX12_drop_0 rfl (lv_at hl 0 rfl) ?_
  refine lv_iconst (v := 0) hx hb dX12_drop_1 (by decide) ?_
  have c_1 : S 0 = .inr (12, [.int 0, .ref (ad 1), .ref (ad 2), .ref (ad 3), .ref (ad 4), .ref (ad 5), .int 0, .int 0, .int 0, .int 0, .int 0, .long 0, .int 0, .int 0, .int 0, .int (-1), .ref (ad 6), .ref (ad 7), .ref (ad 8), .ref (ad 9), .ref (ad 10), .ref (ad 11), .ref (ad 12), .ref (ad 13), .ref (ad 14), .ref (ad 15), .int 0, .int 0, .ref (ad 16), .int 0, .int 0, .int 0, .int 0, .int 0, .ref (ad 17), .ref (ad 18), .int 0, .ref (ad 19)]) := (hX 0 (by decide))
  refine xputi E hs hQ 0 (by decide) c_1 rfl 0 (by decide) q1468 rfl rfl (Nat.le_of_ble_eq_true rfl) dX12_drop_2 (fun H locs S2 e2 hQ => ?_)
  have hX : ∀ i, i < 20 → S2 i = M0 g ad i := same_up hX e2 rfl
  refine lv_aload_n hx hb dX12_drop_5 rfl (lv_at hl 0 rfl) ?_
  refine lv_iload_n hx hb dX12_drop_6 rfl (lv_at hl 1 rfl) ?_
  have c_3 : S2 0 = .inr (12, [.int 0, .ref (ad 1), .ref (ad 2), .ref (ad 3), .ref (ad 4), .ref (ad 5), .int 0, .int 0, .int 0, .int 0, .int 0, .long 0, .int 0, .int 0, .int 0, .int (-1), .ref (ad 6), .ref (ad 7), .ref (ad 8), .ref (ad 9), .ref (ad 10), .ref (ad 11), .ref (ad 12), .ref (ad 13), .ref (ad 14), .ref (ad 15), .int 0, .int 0, .ref (ad 16), .int 0, .int 0, .int 0, .int 0, .int 0, .ref (ad 17), .ref (ad 18), .int 0, .ref (ad 19)]) := (hX 0 (by decide))
  refine xcVi E hs hQ hml hl.1 0 (fX12_isParty l g ad hD S2 hX a1) mX12_isParty q1874 (by decide) c_3 rfl rfl ⟨by decide, by decide⟩ ⟨by decide, by decide⟩ (by decide) rfl dX12_drop_7 (fun r4 S4 H locs hp4 hQ _ => ?_)
  obtain ⟨rfl, rfl⟩ := hp4
  refine lv_if_eq (tgt := 34) hx hb dX12_drop_10 (by decide) (fun k_5 => ?_) (fun k_5 => absurd k_5 (by decide))
  refine lv_bipush (v := (-2)) hx hb dX12_drop_34 (by decide) ?_
  exact xri E hr hlk hQ (rfl) dX12_drop_36
set_option maxHeartbeats 4000000 in
set_option maxRecDepth 100000 in
theorem fX12_drops (l : Launch) (g : GG) (ad : Nat → Nat) (hD : Dj ad 20) (S : SS) (hX : ∀ i, i < 20 → S i = M0 g ad i) (a1 : Int32) : Met l yX12_drops (wG (.code yX12_drops cX12_drops 6 (some .int))) (Rm 2) (XPre g ad 20 S [.ref (ad 0), .int a1]) (va_Qi (fun r _ => r = (-2)) (QB g ad 20) (FA ad 20)) 0 0 (FA ad 20) := by
  refine xmet cX12_drops "EbbWreckModel" (by decide) rfl (Nat.le_of_ble_eq_true rfl) (fun p e s m below meth c E hr hlk hml hQ ls hl => ?_)
  have hx := E.1
  have hb := E.2.1
  have hs : Sp ad 20 (FA ad 20) := Sp.fa hD
  have hl : lv_has ls 6 [(0, .ref (ad 0)), (1, .int a1)] := hl
  refine lv_aload_n hx hb dX12_drops_0 rfl (lv_at hl 0 rfl) ?_
  refine lv_iconst (v := 0) hx hb dX12_drops_1 (by decide) ?_
  have c_1 : S 0 = .inr (12, [.int 0, .ref (ad 1), .ref (ad 2), .ref (ad 3), .ref (ad 4), .ref (ad 5), .int 0, .int 0, .int 0, .int 0, .int 0, .long 0, .int 0, .int 0, .int 0, .int (-1), .ref (ad 6), .ref (ad 7), .ref (ad 8), .ref (ad 9), .ref (ad 10), .ref (ad 11), .ref (ad 12), .ref (ad 13), .ref (ad 14), .ref (ad 15), .int 0, .int 0, .ref (ad 16), .int 0, .int 0, .int 0, .int 0, .int 0, .ref (ad 17), .ref (ad 18), .int 0, .ref (ad 19)]) := (hX 0 (by decide))
  refine xputi E hs hQ 0 (by decide) c_1 rfl 0 (by decide) q1468 rfl rfl (Nat.le_of_ble_eq_true rfl) dX12_drops_2 (fun H locs S2 e2 hQ => ?_)
  have hX : ∀ i, i < 20 → S2 i = M0 g ad i := same_up hX e2 rfl
  refine lv_aload_n hx hb dX12_drops_5 rfl (lv_at hl 0 rfl) ?_
  refine lv_iload_n hx hb dX12_drops_6 rfl (lv_at hl 1 rfl) ?_
  have c_3 : S2 0 = .inr (12, [.int 0, .ref (ad 1), .ref (ad 2), .ref (ad 3), .ref (ad 4), .ref (ad 5), .int 0, .int 0, .int 0, .int 0, .int 0, .long 0, .int 0, .int 0, .int 0, .int (-1), .ref (ad 6), .ref (ad 7), .ref (ad 8), .ref (ad 9), .ref (ad 10), .ref (ad 11), .ref (ad 12), .ref (ad 13), .ref (ad 14), .ref (ad 15), .int 0, .int 0, .ref (ad 16), .int 0, .int 0, .int 0, .int 0, .int 0, .ref (ad 17), .ref (ad 18), .int 0, .ref (ad 19)]) := (hX 0 (by decide))
  refine xcVi E hs hQ hml hl.1 0 (fX12_isParty l g ad hD S2 hX a1) mX12_isParty q1874 (by decide) c_3 rfl rfl ⟨by decide, by decide⟩ ⟨by decide, by decide⟩ (by decide) rfl dX12_drops_7 (fun r4 S4 H locs hp4 hQ _ => ?_)
  obtain ⟨rfl, rfl⟩ := hp4
  refine lv_if_ne (tgt := 16) hx hb dX12_drops_10 (by decide) (fun k_5 => absurd k_5 (by decide)) (fun k_5 => ?_)
  refine lv_bipush (v := (-2)) hx hb dX12_drops_13 (by decide) ?_
  exact xri E hr hlk hQ (rfl) dX12_drops_15
set_option maxHeartbeats 4000000 in
set_option maxRecDepth 100000 in
theorem fX12_origins (l : Launch) (g : GG) (ad : Nat → Nat) (hD : Dj ad 20) (S : SS) (hX : ∀ i, i < 20 → S i = M0 g ad i) (a1 : Int32) (a2 : Int32) (a3 : Int32) : Met l yX12_origins (wG (.code yX12_origins cX12_origins 6 (some .int))) (Rm 2) (XPre g ad 20 S [.ref (ad 0), .int a1, .int a2, .int a3]) (va_Qi (fun r _ => r = (-2)) (QB g ad 20) (FA ad 20)) 0 0 (FA ad 20) := by
  refine xmet cX12_origins "EbbWreckModel" (by decide) rfl (Nat.le_of_ble_eq_true rfl) (fun p e s m below meth c E hr hlk hml hQ ls hl => ?_)
  have hx := E.1
  have hb := E.2.1
  have hs : Sp ad 20 (FA ad 20) := Sp.fa hD
  have hl : lv_has ls 6 [(0, .ref (ad 0)), (1, .int a1), (2, .int a2), (3, .int a3)] := hl
  refine lv_aload_n hx hb dX12_origins_0 rfl (lv_at hl 0 rfl) ?_
  refine lv_iconst (v := 0) hx hb dX12_origins_1 (by decide) ?_
  have c_1 : S 0 = .inr (12, [.int 0, .ref (ad 1), .ref (ad 2), .ref (ad 3), .ref (ad 4), .ref (ad 5), .int 0, .int 0, .int 0, .int 0, .int 0, .long 0, .int 0, .int 0, .int 0, .int (-1), .ref (ad 6), .ref (ad 7), .ref (ad 8), .ref (ad 9), .ref (ad 10), .ref (ad 11), .ref (ad 12), .ref (ad 13), .ref (ad 14), .ref (ad 15), .int 0, .int 0, .ref (ad 16), .int 0, .int 0, .int 0, .int 0, .int 0, .ref (ad 17), .ref (ad 18), .int 0, .ref (ad 19)]) := (hX 0 (by decide))
  refine xputi E hs hQ 0 (by decide) c_1 rfl 0 (by decide) q1468 rfl rfl (Nat.le_of_ble_eq_true rfl) dX12_origins_2 (fun H locs S2 e2 hQ => ?_)
  have hX : ∀ i, i < 20 → S2 i = M0 g ad i := same_up hX e2 rfl
  refine lv_aload_n hx hb dX12_origins_5 rfl (lv_at hl 0 rfl) ?_
  refine lv_iload_n hx hb dX12_origins_6 rfl (lv_at hl 3 rfl) ?_
  refine lv_i2l hx hb dX12_origins_7 rfl ?_
  have c_3 : S2 0 = .inr (12, [.int 0, .ref (ad 1), .ref (ad 2), .ref (ad 3), .ref (ad 4), .ref (ad 5), .int 0, .int 0, .int 0, .int 0, .int 0, .long 0, .int 0, .int 0, .int 0, .int (-1), .ref (ad 6), .ref (ad 7), .ref (ad 8), .ref (ad 9), .ref (ad 10), .ref (ad 11), .ref (ad 12), .ref (ad 13), .ref (ad 14), .ref (ad 15), .int 0, .int 0, .ref (ad 16), .int 0, .int 0, .int 0, .int 0, .int 0, .ref (ad 17), .ref (ad 18), .int 0, .ref (ad 19)]) := (hX 0 (by decide))
  refine xcVi E hs hQ hml hl.1 0 (fX12_isCell l g ad hD S2 hX a3.toInt64) mX12_isCell q1750 (by decide) c_3 rfl rfl ⟨by decide, by decide⟩ ⟨by decide, by decide⟩ (by decide) rfl dX12_origins_8 (fun r4 S4 H locs hp4 hQ _ => ?_)
  obtain ⟨rfl, rfl⟩ := hp4
  refine lv_if_eq (tgt := 39) hx hb dX12_origins_11 (by decide) (fun k_5 => ?_) (fun k_5 => absurd k_5 (by decide))
  refine lv_bipush (v := (-2)) hx hb dX12_origins_39 (by decide) ?_
  exact xri E hr hlk hQ (rfl) dX12_origins_41
set_option maxHeartbeats 4000000 in
set_option maxRecDepth 100000 in
theorem fX12_when (l : Launch) (g : GG) (ad : Nat → Nat) (hD : Dj ad 20) (S : SS) (hX : ∀ i, i < 20 → S i = M0 g ad i) (a1 : Int32) (a2 : Int32) (a3 : Int32) : Met l yX12_when (wG (.code yX12_when cX12_when 5 (some .int))) (Rm 2) (XPre g ad 20 S [.ref (ad 0), .int a1, .int a2, .int a3]) (va_Qi (fun r _ => r = (-2)) (QB g ad 20) (FA ad 20)) 0 0 (FA ad 20) := by
  refine xmet cX12_when "EbbWreckModel" (by decide) rfl (Nat.le_of_ble_eq_true rfl) (fun p e s m below meth c E hr hlk hml hQ ls hl => ?_)
  have hx := E.1
  have hb := E.2.1
  have hs : Sp ad 20 (FA ad 20) := Sp.fa hD
  have hl : lv_has ls 5 [(0, .ref (ad 0)), (1, .int a1), (2, .int a2), (3, .int a3)] := hl
  refine lv_aload_n hx hb dX12_when_0 rfl (lv_at hl 0 rfl) ?_
  refine lv_iconst (v := 0) hx hb dX12_when_1 (by decide) ?_
  have c_1 : S 0 = .inr (12, [.int 0, .ref (ad 1), .ref (ad 2), .ref (ad 3), .ref (ad 4), .ref (ad 5), .int 0, .int 0, .int 0, .int 0, .int 0, .long 0, .int 0, .int 0, .int 0, .int (-1), .ref (ad 6), .ref (ad 7), .ref (ad 8), .ref (ad 9), .ref (ad 10), .ref (ad 11), .ref (ad 12), .ref (ad 13), .ref (ad 14), .ref (ad 15), .int 0, .int 0, .ref (ad 16), .int 0, .int 0, .int 0, .int 0, .int 0, .ref (ad 17), .ref (ad 18), .int 0, .ref (ad 19)]) := (hX 0 (by decide))
  refine xputi E hs hQ 0 (by decide) c_1 rfl 0 (by decide) q1468 rfl rfl (Nat.le_of_ble_eq_true rfl) dX12_when_2 (fun H locs S2 e2 hQ => ?_)
  have hX : ∀ i, i < 20 → S2 i = M0 g ad i := same_up hX e2 rfl
  refine lv_aload_n hx hb dX12_when_5 rfl (lv_at hl 0 rfl) ?_
  refine lv_iload_n hx hb dX12_when_6 rfl (lv_at hl 1 rfl) ?_
  refine lv_i2l hx hb dX12_when_7 rfl ?_
  have c_3 : S2 0 = .inr (12, [.int 0, .ref (ad 1), .ref (ad 2), .ref (ad 3), .ref (ad 4), .ref (ad 5), .int 0, .int 0, .int 0, .int 0, .int 0, .long 0, .int 0, .int 0, .int 0, .int (-1), .ref (ad 6), .ref (ad 7), .ref (ad 8), .ref (ad 9), .ref (ad 10), .ref (ad 11), .ref (ad 12), .ref (ad 13), .ref (ad 14), .ref (ad 15), .int 0, .int 0, .ref (ad 16), .int 0, .int 0, .int 0, .int 0, .int 0, .ref (ad 17), .ref (ad 18), .int 0, .ref (ad 19)]) := (hX 0 (by decide))
  refine xcVi E hs hQ hml hl.1 0 (fX12_isCell l g ad hD S2 hX a1.toInt64) mX12_isCell q1750 (by decide) c_3 rfl rfl ⟨by decide, by decide⟩ ⟨by decide, by decide⟩ (by decide) rfl dX12_when_8 (fun r4 S4 H locs hp4 hQ _ => ?_)
  obtain ⟨rfl, rfl⟩ := hp4
  refine lv_if_eq (tgt := 35) hx hb dX12_when_11 (by decide) (fun k_5 => ?_) (fun k_5 => absurd k_5 (by decide))
  refine lv_bipush (v := (-2)) hx hb dX12_when_35 (by decide) ?_
  exact xri E hr hlk hQ (rfl) dX12_when_37
set_option maxHeartbeats 4000000 in
set_option maxRecDepth 100000 in
theorem fX12_share (l : Launch) (g : GG) (ad : Nat → Nat) (hD : Dj ad 20) (S : SS) (hX : ∀ i, i < 20 → S i = M0 g ad i) (a1 : Int32) : Met l yX12_share (wG (.code yX12_share cX12_share 2 (some .int))) (Rm 2) (XPre g ad 20 S [.ref (ad 0), .int a1]) (va_Qi (fun r _ => r = (-2)) (QB g ad 20) (FA ad 20)) 0 0 (FA ad 20) := by
  refine xmet cX12_share "EbbWreckModel" (by decide) rfl (Nat.le_of_ble_eq_true rfl) (fun p e s m below meth c E hr hlk hml hQ ls hl => ?_)
  have hx := E.1
  have hb := E.2.1
  have hs : Sp ad 20 (FA ad 20) := Sp.fa hD
  have hl : lv_has ls 2 [(0, .ref (ad 0)), (1, .int a1)] := hl
  refine lv_aload_n hx hb dX12_share_0 rfl (lv_at hl 0 rfl) ?_
  refine lv_iconst (v := 0) hx hb dX12_share_1 (by decide) ?_
  have c_1 : S 0 = .inr (12, [.int 0, .ref (ad 1), .ref (ad 2), .ref (ad 3), .ref (ad 4), .ref (ad 5), .int 0, .int 0, .int 0, .int 0, .int 0, .long 0, .int 0, .int 0, .int 0, .int (-1), .ref (ad 6), .ref (ad 7), .ref (ad 8), .ref (ad 9), .ref (ad 10), .ref (ad 11), .ref (ad 12), .ref (ad 13), .ref (ad 14), .ref (ad 15), .int 0, .int 0, .ref (ad 16), .int 0, .int 0, .int 0, .int 0, .int 0, .ref (ad 17), .ref (ad 18), .int 0, .ref (ad 19)]) := (hX 0 (by decide))
  refine xputi E hs hQ 0 (by decide) c_1 rfl 0 (by decide) q1468 rfl rfl (Nat.le_of_ble_eq_true rfl) dX12_share_2 (fun H locs S2 e2 hQ => ?_)
  have hX : ∀ i, i < 20 → S2 i = M0 g ad i := same_up hX e2 rfl
  refine lv_aload_n hx hb dX12_share_5 rfl (lv_at hl 0 rfl) ?_
  refine lv_iload_n hx hb dX12_share_6 rfl (lv_at hl 1 rfl) ?_
  have c_3 : S2 0 = .inr (12, [.int 0, .ref (ad 1), .ref (ad 2), .ref (ad 3), .ref (ad 4), .ref (ad 5), .int 0, .int 0, .int 0, .int 0, .int 0, .long 0, .int 0, .int 0, .int 0, .int (-1), .ref (ad 6), .ref (ad 7), .ref (ad 8), .ref (ad 9), .ref (ad 10), .ref (ad 11), .ref (ad 12), .ref (ad 13), .ref (ad 14), .ref (ad 15), .int 0, .int 0, .ref (ad 16), .int 0, .int 0, .int 0, .int 0, .int 0, .ref (ad 17), .ref (ad 18), .int 0, .ref (ad 19)]) := (hX 0 (by decide))
  refine xcVi E hs hQ hml hl.1 0 (fX12_isSitter l g ad hD S2 hX a1) mX12_isSitter q1816 (by decide) c_3 rfl rfl ⟨by decide, by decide⟩ ⟨by decide, by decide⟩ (by decide) rfl dX12_share_7 (fun r4 S4 H locs hp4 hQ _ => ?_)
  obtain ⟨rfl, rfl⟩ := hp4
  refine lv_if_ne (tgt := 16) hx hb dX12_share_10 (by decide) (fun k_5 => absurd k_5 (by decide)) (fun k_5 => ?_)
  refine lv_bipush (v := (-2)) hx hb dX12_share_13 (by decide) ?_
  exact xri E hr hlk hQ (rfl) dX12_share_15
set_option maxHeartbeats 4000000 in
set_option maxRecDepth 100000 in
theorem fX12_seat (l : Launch) (g : GG) (ad : Nat → Nat) (hD : Dj ad 20) (S : SS) (hX : ∀ i, i < 20 → S i = M0 g ad i) (a1 : Int32) (a2 : Int32) : Met l yX12_seat (wG (.code yX12_seat cX12_seat 3 (some .int))) (Rm 2) (XPre g ad 20 S [.ref (ad 0), .int a1, .int a2]) (va_Qi (fun r _ => r = (-2)) (QB g ad 20) (FA ad 20)) 0 0 (FA ad 20) := by
  refine xmet cX12_seat "EbbWreckModel" (by decide) rfl (Nat.le_of_ble_eq_true rfl) (fun p e s m below meth c E hr hlk hml hQ ls hl => ?_)
  have hx := E.1
  have hb := E.2.1
  have hs : Sp ad 20 (FA ad 20) := Sp.fa hD
  have hl : lv_has ls 3 [(0, .ref (ad 0)), (1, .int a1), (2, .int a2)] := hl
  refine lv_aload_n hx hb dX12_seat_0 rfl (lv_at hl 0 rfl) ?_
  refine lv_iconst (v := 0) hx hb dX12_seat_1 (by decide) ?_
  have c_1 : S 0 = .inr (12, [.int 0, .ref (ad 1), .ref (ad 2), .ref (ad 3), .ref (ad 4), .ref (ad 5), .int 0, .int 0, .int 0, .int 0, .int 0, .long 0, .int 0, .int 0, .int 0, .int (-1), .ref (ad 6), .ref (ad 7), .ref (ad 8), .ref (ad 9), .ref (ad 10), .ref (ad 11), .ref (ad 12), .ref (ad 13), .ref (ad 14), .ref (ad 15), .int 0, .int 0, .ref (ad 16), .int 0, .int 0, .int 0, .int 0, .int 0, .ref (ad 17), .ref (ad 18), .int 0, .ref (ad 19)]) := (hX 0 (by decide))
  refine xputi E hs hQ 0 (by decide) c_1 rfl 0 (by decide) q1468 rfl rfl (Nat.le_of_ble_eq_true rfl) dX12_seat_2 (fun H locs S2 e2 hQ => ?_)
  have hX : ∀ i, i < 20 → S2 i = M0 g ad i := same_up hX e2 rfl
  refine lv_aload_n hx hb dX12_seat_5 rfl (lv_at hl 0 rfl) ?_
  refine lv_iload_n hx hb dX12_seat_6 rfl (lv_at hl 1 rfl) ?_
  have c_3 : S2 0 = .inr (12, [.int 0, .ref (ad 1), .ref (ad 2), .ref (ad 3), .ref (ad 4), .ref (ad 5), .int 0, .int 0, .int 0, .int 0, .int 0, .long 0, .int 0, .int 0, .int 0, .int (-1), .ref (ad 6), .ref (ad 7), .ref (ad 8), .ref (ad 9), .ref (ad 10), .ref (ad 11), .ref (ad 12), .ref (ad 13), .ref (ad 14), .ref (ad 15), .int 0, .int 0, .ref (ad 16), .int 0, .int 0, .int 0, .int 0, .int 0, .ref (ad 17), .ref (ad 18), .int 0, .ref (ad 19)]) := (hX 0 (by decide))
  refine xcVi E hs hQ hml hl.1 0 (fX12_isSitter l g ad hD S2 hX a1) mX12_isSitter q1816 (by decide) c_3 rfl rfl ⟨by decide, by decide⟩ ⟨by decide, by decide⟩ (by decide) rfl dX12_seat_7 (fun r4 S4 H locs hp4 hQ _ => ?_)
  obtain ⟨rfl, rfl⟩ := hp4
  refine lv_if_eq (tgt := 22) hx hb dX12_seat_10 (by decide) (fun k_5 => ?_) (fun k_5 => absurd k_5 (by decide))
  refine lv_bipush (v := (-2)) hx hb dX12_seat_22 (by decide) ?_
  exact xri E hr hlk hQ (rfl) dX12_seat_24
set_option maxHeartbeats 4000000 in
set_option maxRecDepth 100000 in
theorem fX12_seats (l : Launch) (g : GG) (ad : Nat → Nat) (hD : Dj ad 20) (S : SS) (hX : ∀ i, i < 20 → S i = M0 g ad i) (a1 : Int32) : Met l yX12_seats (wG (.code yX12_seats cX12_seats 4 (some .int))) (Rm 2) (XPre g ad 20 S [.ref (ad 0), .int a1]) (va_Qi (fun r _ => r = (-2)) (QB g ad 20) (FA ad 20)) 0 0 (FA ad 20) := by
  refine xmet cX12_seats "EbbWreckModel" (by decide) rfl (Nat.le_of_ble_eq_true rfl) (fun p e s m below meth c E hr hlk hml hQ ls hl => ?_)
  have hx := E.1
  have hb := E.2.1
  have hs : Sp ad 20 (FA ad 20) := Sp.fa hD
  have hl : lv_has ls 4 [(0, .ref (ad 0)), (1, .int a1)] := hl
  refine lv_aload_n hx hb dX12_seats_0 rfl (lv_at hl 0 rfl) ?_
  refine lv_iconst (v := 0) hx hb dX12_seats_1 (by decide) ?_
  have c_1 : S 0 = .inr (12, [.int 0, .ref (ad 1), .ref (ad 2), .ref (ad 3), .ref (ad 4), .ref (ad 5), .int 0, .int 0, .int 0, .int 0, .int 0, .long 0, .int 0, .int 0, .int 0, .int (-1), .ref (ad 6), .ref (ad 7), .ref (ad 8), .ref (ad 9), .ref (ad 10), .ref (ad 11), .ref (ad 12), .ref (ad 13), .ref (ad 14), .ref (ad 15), .int 0, .int 0, .ref (ad 16), .int 0, .int 0, .int 0, .int 0, .int 0, .ref (ad 17), .ref (ad 18), .int 0, .ref (ad 19)]) := (hX 0 (by decide))
  refine xputi E hs hQ 0 (by decide) c_1 rfl 0 (by decide) q1468 rfl rfl (Nat.le_of_ble_eq_true rfl) dX12_seats_2 (fun H locs S2 e2 hQ => ?_)
  have hX : ∀ i, i < 20 → S2 i = M0 g ad i := same_up hX e2 rfl
  refine lv_aload_n hx hb dX12_seats_5 rfl (lv_at hl 0 rfl) ?_
  refine lv_iload_n hx hb dX12_seats_6 rfl (lv_at hl 1 rfl) ?_
  have c_3 : S2 0 = .inr (12, [.int 0, .ref (ad 1), .ref (ad 2), .ref (ad 3), .ref (ad 4), .ref (ad 5), .int 0, .int 0, .int 0, .int 0, .int 0, .long 0, .int 0, .int 0, .int 0, .int (-1), .ref (ad 6), .ref (ad 7), .ref (ad 8), .ref (ad 9), .ref (ad 10), .ref (ad 11), .ref (ad 12), .ref (ad 13), .ref (ad 14), .ref (ad 15), .int 0, .int 0, .ref (ad 16), .int 0, .int 0, .int 0, .int 0, .int 0, .ref (ad 17), .ref (ad 18), .int 0, .ref (ad 19)]) := (hX 0 (by decide))
  refine xcVi E hs hQ hml hl.1 0 (fX12_isSitter l g ad hD S2 hX a1) mX12_isSitter q1816 (by decide) c_3 rfl rfl ⟨by decide, by decide⟩ ⟨by decide, by decide⟩ (by decide) rfl dX12_seats_7 (fun r4 S4 H locs hp4 hQ _ => ?_)
  obtain ⟨rfl, rfl⟩ := hp4
  refine lv_if_ne (tgt := 16) hx hb dX12_seats_10 (by decide) (fun k_5 => absurd k_5 (by decide)) (fun k_5 => ?_)
  refine lv_bipush (v := (-2)) hx hb dX12_seats_13 (by decide) ?_
  exact xri E hr hlk hQ (rfl) dX12_seats_15
set_option maxHeartbeats 4000000 in
set_option maxRecDepth 100000 in
theorem fX12_rests_ (l : Launch) (g : GG) (ad : Nat → Nat) (hD : Dj ad 20) (S : SS) (hX : ∀ i, i < 20 → S i = M0 g ad i) : Met l yX12_rests_ (wG (.code yX12_rests_ cX12_rests_ 1 (some .int))) (Rm 1) (XPre g ad 20 S [.ref (ad 0)]) (va_Qi (fun r _ => r = (-2)) (QB g ad 20) (FA ad 20)) 0 0 (FA ad 20) := by
  refine xmet cX12_rests_ "EbbWreckModel" (by decide) rfl (Nat.le_of_ble_eq_true rfl) (fun p e s m below meth c E hr hlk hml hQ ls hl => ?_)
  have hx := E.1
  have hb := E.2.1
  have hs : Sp ad 20 (FA ad 20) := Sp.fa hD
  have hl : lv_has ls 1 [(0, .ref (ad 0))] := hl
  refine lv_aload_n hx hb dX12_rests__0 rfl (lv_at hl 0 rfl) ?_
  refine lv_iconst (v := 0) hx hb dX12_rests__1 (by decide) ?_
  have c_1 : S 0 = .inr (12, [.int 0, .ref (ad 1), .ref (ad 2), .ref (ad 3), .ref (ad 4), .ref (ad 5), .int 0, .int 0, .int 0, .int 0, .int 0, .long 0, .int 0, .int 0, .int 0, .int (-1), .ref (ad 6), .ref (ad 7), .ref (ad 8), .ref (ad 9), .ref (ad 10), .ref (ad 11), .ref (ad 12), .ref (ad 13), .ref (ad 14), .ref (ad 15), .int 0, .int 0, .ref (ad 16), .int 0, .int 0, .int 0, .int 0, .int 0, .ref (ad 17), .ref (ad 18), .int 0, .ref (ad 19)]) := (hX 0 (by decide))
  refine xputi E hs hQ 0 (by decide) c_1 rfl 0 (by decide) q1468 rfl rfl (Nat.le_of_ble_eq_true rfl) dX12_rests__2 (fun H locs S2 e2 hQ => ?_)
  have hX : ∀ i, i < 20 → S2 i = M0 g ad i := same_up hX e2 rfl
  refine lv_aload_n hx hb dX12_rests__5 rfl (lv_at hl 0 rfl) ?_
  have c_3 : S2 0 = .inr (12, [.int 0, .ref (ad 1), .ref (ad 2), .ref (ad 3), .ref (ad 4), .ref (ad 5), .int 0, .int 0, .int 0, .int 0, .int 0, .long 0, .int 0, .int 0, .int 0, .int (-1), .ref (ad 6), .ref (ad 7), .ref (ad 8), .ref (ad 9), .ref (ad 10), .ref (ad 11), .ref (ad 12), .ref (ad 13), .ref (ad 14), .ref (ad 15), .int 0, .int 0, .ref (ad 16), .int 0, .int 0, .int 0, .int 0, .int 0, .ref (ad 17), .ref (ad 18), .int 0, .ref (ad 19)]) := (hX 0 (by decide))
  refine xcVi E hs hQ hml hl.1 0 (fX12_isShore l g ad hD S2 hX ) mX12_isShore q1782 (by decide) c_3 rfl rfl ⟨by decide, by decide⟩ ⟨by decide, by decide⟩ (by decide) rfl dX12_rests__6 (fun r4 S4 H locs hp4 hQ _ => ?_)
  obtain ⟨rfl, rfl⟩ := hp4
  refine lv_if_eq (tgt := 19) hx hb dX12_rests__9 (by decide) (fun k_5 => ?_) (fun k_5 => absurd k_5 (by decide))
  refine lv_bipush (v := (-2)) hx hb dX12_rests__19 (by decide) ?_
  exact xri E hr hlk hQ (rfl) dX12_rests__21
set_option maxHeartbeats 4000000 in
set_option maxRecDepth 100000 in
theorem fX12_rest (l : Launch) (g : GG) (ad : Nat → Nat) (hD : Dj ad 20) (S : SS) (hX : ∀ i, i < 20 → S i = M0 g ad i) (a1 : Int32) : Met l yX12_rest (wG (.code yX12_rest cX12_rest 2 (some .int))) (Rm 2) (XPre g ad 20 S [.ref (ad 0), .int a1]) (va_Qi (fun r _ => r = (-2)) (QB g ad 20) (FA ad 20)) 0 0 (FA ad 20) := by
  refine xmet cX12_rest "EbbWreckModel" (by decide) rfl (Nat.le_of_ble_eq_true rfl) (fun p e s m below meth c E hr hlk hml hQ ls hl => ?_)
  have hx := E.1
  have hb := E.2.1
  have hs : Sp ad 20 (FA ad 20) := Sp.fa hD
  have hl : lv_has ls 2 [(0, .ref (ad 0)), (1, .int a1)] := hl
  refine lv_aload_n hx hb dX12_rest_0 rfl (lv_at hl 0 rfl) ?_
  refine lv_iconst (v := 0) hx hb dX12_rest_1 (by decide) ?_
  have c_1 : S 0 = .inr (12, [.int 0, .ref (ad 1), .ref (ad 2), .ref (ad 3), .ref (ad 4), .ref (ad 5), .int 0, .int 0, .int 0, .int 0, .int 0, .long 0, .int 0, .int 0, .int 0, .int (-1), .ref (ad 6), .ref (ad 7), .ref (ad 8), .ref (ad 9), .ref (ad 10), .ref (ad 11), .ref (ad 12), .ref (ad 13), .ref (ad 14), .ref (ad 15), .int 0, .int 0, .ref (ad 16), .int 0, .int 0, .int 0, .int 0, .int 0, .ref (ad 17), .ref (ad 18), .int 0, .ref (ad 19)]) := (hX 0 (by decide))
  refine xputi E hs hQ 0 (by decide) c_1 rfl 0 (by decide) q1468 rfl rfl (Nat.le_of_ble_eq_true rfl) dX12_rest_2 (fun H locs S2 e2 hQ => ?_)
  have hX : ∀ i, i < 20 → S2 i = M0 g ad i := same_up hX e2 rfl
  refine lv_aload_n hx hb dX12_rest_5 rfl (lv_at hl 0 rfl) ?_
  refine lv_iload_n hx hb dX12_rest_6 rfl (lv_at hl 1 rfl) ?_
  have c_3 : S2 0 = .inr (12, [.int 0, .ref (ad 1), .ref (ad 2), .ref (ad 3), .ref (ad 4), .ref (ad 5), .int 0, .int 0, .int 0, .int 0, .int 0, .long 0, .int 0, .int 0, .int 0, .int (-1), .ref (ad 6), .ref (ad 7), .ref (ad 8), .ref (ad 9), .ref (ad 10), .ref (ad 11), .ref (ad 12), .ref (ad 13), .ref (ad 14), .ref (ad 15), .int 0, .int 0, .ref (ad 16), .int 0, .int 0, .int 0, .int 0, .int 0, .ref (ad 17), .ref (ad 18), .int 0, .ref (ad 19)]) := (hX 0 (by decide))
  refine xcVi E hs hQ hml hl.1 0 (fX12_isSitter l g ad hD S2 hX a1) mX12_isSitter q1816 (by decide) c_3 rfl rfl ⟨by decide, by decide⟩ ⟨by decide, by decide⟩ (by decide) rfl dX12_rest_7 (fun r4 S4 H locs hp4 hQ _ => ?_)
  obtain ⟨rfl, rfl⟩ := hp4
  refine lv_if_ne (tgt := 16) hx hb dX12_rest_10 (by decide) (fun k_5 => absurd k_5 (by decide)) (fun k_5 => ?_)
  refine lv_bipush (v := (-2)) hx hb dX12_rest_13 (by decide) ?_
  exact xri E hr hlk hQ (rfl) dX12_rest_15
set_option maxHeartbeats 4000000 in
set_option maxRecDepth 100000 in
theorem fX12_sit (l : Launch) (g : GG) (ad : Nat → Nat) (hD : Dj ad 20) (S : SS) (hX : ∀ i, i < 20 → S i = M0 g ad i) (a1 : Int32) (a2 : Int32) : Met l yX12_sit (wG (.code yX12_sit cX12_sit 3 (some .int))) (Rm 2) (XPre g ad 20 S [.ref (ad 0), .int a1, .int a2]) (va_Qi (fun r _ => r = (-2)) (QB g ad 20) (FA ad 20)) 0 0 (FA ad 20) := by
  refine xmet cX12_sit "EbbWreckModel" (by decide) rfl (Nat.le_of_ble_eq_true rfl) (fun p e s m below meth c E hr hlk hml hQ ls hl => ?_)
  have hx := E.1
  have hb := E.2.1
  have hs : Sp ad 20 (FA ad 20) := Sp.fa hD
  have hl : lv_has ls 3 [(0, .ref (ad 0)), (1, .int a1), (2, .int a2)] := hl
  refine lv_aload_n hx hb dX12_sit_0 rfl (lv_at hl 0 rfl) ?_
  refine lv_iconst (v := 0) hx hb dX12_sit_1 (by decide) ?_
  have c_1 : S 0 = .inr (12, [.int 0, .ref (ad 1), .ref (ad 2), .ref (ad 3), .ref (ad 4), .ref (ad 5), .int 0, .int 0, .int 0, .int 0, .int 0, .long 0, .int 0, .int 0, .int 0, .int (-1), .ref (ad 6), .ref (ad 7), .ref (ad 8), .ref (ad 9), .ref (ad 10), .ref (ad 11), .ref (ad 12), .ref (ad 13), .ref (ad 14), .ref (ad 15), .int 0, .int 0, .ref (ad 16), .int 0, .int 0, .int 0, .int 0, .int 0, .ref (ad 17), .ref (ad 18), .int 0, .ref (ad 19)]) := (hX 0 (by decide))
  refine xputi E hs hQ 0 (by decide) c_1 rfl 0 (by decide) q1468 rfl rfl (Nat.le_of_ble_eq_true rfl) dX12_sit_2 (fun H locs S2 e2 hQ => ?_)
  have hX : ∀ i, i < 20 → S2 i = M0 g ad i := same_up hX e2 rfl
  refine lv_aload_n hx hb dX12_sit_5 rfl (lv_at hl 0 rfl) ?_
  refine lv_iload_n hx hb dX12_sit_6 rfl (lv_at hl 1 rfl) ?_
  have c_3 : S2 0 = .inr (12, [.int 0, .ref (ad 1), .ref (ad 2), .ref (ad 3), .ref (ad 4), .ref (ad 5), .int 0, .int 0, .int 0, .int 0, .int 0, .long 0, .int 0, .int 0, .int 0, .int (-1), .ref (ad 6), .ref (ad 7), .ref (ad 8), .ref (ad 9), .ref (ad 10), .ref (ad 11), .ref (ad 12), .ref (ad 13), .ref (ad 14), .ref (ad 15), .int 0, .int 0, .ref (ad 16), .int 0, .int 0, .int 0, .int 0, .int 0, .ref (ad 17), .ref (ad 18), .int 0, .ref (ad 19)]) := (hX 0 (by decide))
  refine xcVi E hs hQ hml hl.1 0 (fX12_isSitter l g ad hD S2 hX a1) mX12_isSitter q1816 (by decide) c_3 rfl rfl ⟨by decide, by decide⟩ ⟨by decide, by decide⟩ (by decide) rfl dX12_sit_7 (fun r4 S4 H locs hp4 hQ _ => ?_)
  obtain ⟨rfl, rfl⟩ := hp4
  refine lv_if_eq (tgt := 22) hx hb dX12_sit_10 (by decide) (fun k_5 => ?_) (fun k_5 => absurd k_5 (by decide))
  refine lv_bipush (v := (-2)) hx hb dX12_sit_22 (by decide) ?_
  exact xri E hr hlk hQ (rfl) dX12_sit_24
set_option maxHeartbeats 4000000 in
set_option maxRecDepth 100000 in
theorem fX12_shove (l : Launch) (g : GG) (ad : Nat → Nat) (hD : Dj ad 20) (S : SS) (hX : ∀ i, i < 20 → S i = M0 g ad i) (a1 : Int32) (a2 : Int32) (a3 : Int32) : Met l yX12_shove (wG (.code yX12_shove cX12_shove 6 (some .int))) (Rm 2) (XPre g ad 20 S [.ref (ad 0), .int a1, .int a2, .int a3]) (va_Qi (fun r _ => r = (-2)) (QB g ad 20) (FA ad 20)) 0 0 (FA ad 20) := by
  refine xmet cX12_shove "EbbWreckModel" (by decide) rfl (Nat.le_of_ble_eq_true rfl) (fun p e s m below meth c E hr hlk hml hQ ls hl => ?_)
  have hx := E.1
  have hb := E.2.1
  have hs : Sp ad 20 (FA ad 20) := Sp.fa hD
  have hl : lv_has ls 6 [(0, .ref (ad 0)), (1, .int a1), (2, .int a2), (3, .int a3)] := hl
  refine lv_aload_n hx hb dX12_shove_0 rfl (lv_at hl 0 rfl) ?_
  refine lv_iconst (v := 0) hx hb dX12_shove_1 (by decide) ?_
  have c_1 : S 0 = .inr (12, [.int 0, .ref (ad 1), .ref (ad 2), .ref (ad 3), .ref (ad 4), .ref (ad 5), .int 0, .int 0, .int 0, .int 0, .int 0, .long 0, .int 0, .int 0, .int 0, .int (-1), .ref (ad 6), .ref (ad 7), .ref (ad 8), .ref (ad 9), .ref (ad 10), .ref (ad 11), .ref (ad 12), .ref (ad 13), .ref (ad 14), .ref (ad 15), .int 0, .int 0, .ref (ad 16), .int 0, .int 0, .int 0, .int 0, .int 0, .ref (ad 17), .ref (ad 18), .int 0, .ref (ad 19)]) := (hX 0 (by decide))
  refine xputi E hs hQ 0 (by decide) c_1 rfl 0 (by decide) q1468 rfl rfl (Nat.le_of_ble_eq_true rfl) dX12_shove_2 (fun H locs S2 e2 hQ => ?_)
  have hX : ∀ i, i < 20 → S2 i = M0 g ad i := same_up hX e2 rfl
  refine lv_aload_n hx hb dX12_shove_5 rfl (lv_at hl 0 rfl) ?_
  refine lv_iload_n hx hb dX12_shove_6 rfl (lv_at hl 1 rfl) ?_
  have c_3 : S2 0 = .inr (12, [.int 0, .ref (ad 1), .ref (ad 2), .ref (ad 3), .ref (ad 4), .ref (ad 5), .int 0, .int 0, .int 0, .int 0, .int 0, .long 0, .int 0, .int 0, .int 0, .int (-1), .ref (ad 6), .ref (ad 7), .ref (ad 8), .ref (ad 9), .ref (ad 10), .ref (ad 11), .ref (ad 12), .ref (ad 13), .ref (ad 14), .ref (ad 15), .int 0, .int 0, .ref (ad 16), .int 0, .int 0, .int 0, .int 0, .int 0, .ref (ad 17), .ref (ad 18), .int 0, .ref (ad 19)]) := (hX 0 (by decide))
  refine xcVi E hs hQ hml hl.1 0 (fX12_isThing l g ad hD S2 hX a1) mX12_isThing q1766 (by decide) c_3 rfl rfl ⟨by decide, by decide⟩ ⟨by decide, by decide⟩ (by decide) rfl dX12_shove_7 (fun r4 S4 H locs hp4 hQ _ => ?_)
  obtain ⟨rfl, rfl⟩ := hp4
  refine lv_if_eq (tgt := 35) hx hb dX12_shove_10 (by decide) (fun k_5 => ?_) (fun k_5 => absurd k_5 (by decide))
  refine lv_bipush (v := (-2)) hx hb dX12_shove_35 (by decide) ?_
  exact xri E hr hlk hQ (rfl) dX12_shove_37
set_option maxHeartbeats 4000000 in
set_option maxRecDepth 100000 in
theorem fX12_undo (l : Launch) (g : GG) (ad : Nat → Nat) (hD : Dj ad 20) (S : SS) (hX : ∀ i, i < 20 → S i = M0 g ad i) : Met l yX12_undo (wG (.code yX12_undo cX12_undo 1 (some .int))) (Rm 1) (XPre g ad 20 S [.ref (ad 0)]) (va_Qi (fun r _ => r = (-2)) (QB g ad 20) (FA ad 20)) 0 0 (FA ad 20) := by
  refine xmet cX12_undo "EbbWreckModel" (by decide) rfl (Nat.le_of_ble_eq_true rfl) (fun p e s m below meth c E hr hlk hml hQ ls hl => ?_)
  have hx := E.1
  have hb := E.2.1
  have hs : Sp ad 20 (FA ad 20) := Sp.fa hD
  have hl : lv_has ls 1 [(0, .ref (ad 0))] := hl
  refine lv_aload_n hx hb dX12_undo_0 rfl (lv_at hl 0 rfl) ?_
  refine lv_iconst (v := 0) hx hb dX12_undo_1 (by decide) ?_
  have c_1 : S 0 = .inr (12, [.int 0, .ref (ad 1), .ref (ad 2), .ref (ad 3), .ref (ad 4), .ref (ad 5), .int 0, .int 0, .int 0, .int 0, .int 0, .long 0, .int 0, .int 0, .int 0, .int (-1), .ref (ad 6), .ref (ad 7), .ref (ad 8), .ref (ad 9), .ref (ad 10), .ref (ad 11), .ref (ad 12), .ref (ad 13), .ref (ad 14), .ref (ad 15), .int 0, .int 0, .ref (ad 16), .int 0, .int 0, .int 0, .int 0, .int 0, .ref (ad 17), .ref (ad 18), .int 0, .ref (ad 19)]) := (hX 0 (by decide))
  refine xputi E hs hQ 0 (by decide) c_1 rfl 0 (by decide) q1468 rfl rfl (Nat.le_of_ble_eq_true rfl) dX12_undo_2 (fun H locs S2 e2 hQ => ?_)
  have hX : ∀ i, i < 20 → S2 i = M0 g ad i := same_up hX e2 rfl
  refine lv_aload_n hx hb dX12_undo_5 rfl (lv_at hl 0 rfl) ?_
  have c_3 : S2 0 = .inr (12, [.int 0, .ref (ad 1), .ref (ad 2), .ref (ad 3), .ref (ad 4), .ref (ad 5), .int 0, .int 0, .int 0, .int 0, .int 0, .long 0, .int 0, .int 0, .int 0, .int (-1), .ref (ad 6), .ref (ad 7), .ref (ad 8), .ref (ad 9), .ref (ad 10), .ref (ad 11), .ref (ad 12), .ref (ad 13), .ref (ad 14), .ref (ad 15), .int 0, .int 0, .ref (ad 16), .int 0, .int 0, .int 0, .int 0, .int 0, .ref (ad 17), .ref (ad 18), .int 0, .ref (ad 19)]) := (hX 0 (by decide))
  refine xcVi E hs hQ hml hl.1 0 (fX12_isShore l g ad hD S2 hX ) mX12_isShore q1782 (by decide) c_3 rfl rfl ⟨by decide, by decide⟩ ⟨by decide, by decide⟩ (by decide) rfl dX12_undo_6 (fun r4 S4 H locs hp4 hQ _ => ?_)
  obtain ⟨rfl, rfl⟩ := hp4
  refine lv_if_ne (tgt := 15) hx hb dX12_undo_9 (by decide) (fun k_5 => absurd k_5 (by decide)) (fun k_5 => ?_)
  refine lv_bipush (v := (-2)) hx hb dX12_undo_12 (by decide) ?_
  exact xri E hr hlk hQ (rfl) dX12_undo_14
set_option maxHeartbeats 4000000 in
set_option maxRecDepth 100000 in
theorem fX12_anew (l : Launch) (g : GG) (ad : Nat → Nat) (hD : Dj ad 20) (S : SS) (hX : ∀ i, i < 20 → S i = M0 g ad i) : Met l yX12_anew (wG (.code yX12_anew cX12_anew 2 (some .int))) (Rm 1) (XPre g ad 20 S [.ref (ad 0)]) (va_Qi (fun r _ => r = (-2)) (QB g ad 20) (FA ad 20)) 0 0 (FA ad 20) := by
  refine xmet cX12_anew "EbbWreckModel" (by decide) rfl (Nat.le_of_ble_eq_true rfl) (fun p e s m below meth c E hr hlk hml hQ ls hl => ?_)
  have hx := E.1
  have hb := E.2.1
  have hs : Sp ad 20 (FA ad 20) := Sp.fa hD
  have hl : lv_has ls 2 [(0, .ref (ad 0))] := hl
  refine lv_aload_n hx hb dX12_anew_0 rfl (lv_at hl 0 rfl) ?_
  refine lv_iconst (v := 0) hx hb dX12_anew_1 (by decide) ?_
  have c_1 : S 0 = .inr (12, [.int 0, .ref (ad 1), .ref (ad 2), .ref (ad 3), .ref (ad 4), .ref (ad 5), .int 0, .int 0, .int 0, .int 0, .int 0, .long 0, .int 0, .int 0, .int 0, .int (-1), .ref (ad 6), .ref (ad 7), .ref (ad 8), .ref (ad 9), .ref (ad 10), .ref (ad 11), .ref (ad 12), .ref (ad 13), .ref (ad 14), .ref (ad 15), .int 0, .int 0, .ref (ad 16), .int 0, .int 0, .int 0, .int 0, .int 0, .ref (ad 17), .ref (ad 18), .int 0, .ref (ad 19)]) := (hX 0 (by decide))
  refine xputi E hs hQ 0 (by decide) c_1 rfl 0 (by decide) q1468 rfl rfl (Nat.le_of_ble_eq_true rfl) dX12_anew_2 (fun H locs S2 e2 hQ => ?_)
  have hX : ∀ i, i < 20 → S2 i = M0 g ad i := same_up hX e2 rfl
  refine lv_aload_n hx hb dX12_anew_5 rfl (lv_at hl 0 rfl) ?_
  have c_3 : S2 0 = .inr (12, [.int 0, .ref (ad 1), .ref (ad 2), .ref (ad 3), .ref (ad 4), .ref (ad 5), .int 0, .int 0, .int 0, .int 0, .int 0, .long 0, .int 0, .int 0, .int 0, .int (-1), .ref (ad 6), .ref (ad 7), .ref (ad 8), .ref (ad 9), .ref (ad 10), .ref (ad 11), .ref (ad 12), .ref (ad 13), .ref (ad 14), .ref (ad 15), .int 0, .int 0, .ref (ad 16), .int 0, .int 0, .int 0, .int 0, .int 0, .ref (ad 17), .ref (ad 18), .int 0, .ref (ad 19)]) := (hX 0 (by decide))
  refine xcVi E hs hQ hml hl.1 0 (fX12_isShore l g ad hD S2 hX ) mX12_isShore q1782 (by decide) c_3 rfl rfl ⟨by decide, by decide⟩ ⟨by decide, by decide⟩ (by decide) rfl dX12_anew_6 (fun r4 S4 H locs hp4 hQ _ => ?_)
  obtain ⟨rfl, rfl⟩ := hp4
  refine lv_if_ne (tgt := 15) hx hb dX12_anew_9 (by decide) (fun k_5 => absurd k_5 (by decide)) (fun k_5 => ?_)
  refine lv_bipush (v := (-2)) hx hb dX12_anew_12 (by decide) ?_
  exact xri E hr hlk hQ (rfl) dX12_anew_14
set_option maxHeartbeats 4000000 in
set_option maxRecDepth 100000 in
theorem fX12_rate (l : Launch) (g : GG) (ad : Nat → Nat) (hD : Dj ad 20) (S : SS) (hX : ∀ i, i < 20 → S i = M0 g ad i) (a1 : Int32) (a2 : Int32) : Met l yX12_rate (wG (.code yX12_rate cX12_rate 4 (some .int))) (Rm 2) (XPre g ad 20 S [.ref (ad 0), .int a1, .int a2]) (va_Qi (fun r _ => r = (-2)) (QB g ad 20) (FA ad 20)) 0 0 (FA ad 20) := by
  refine xmet cX12_rate "EbbWreckModel" (by decide) rfl (Nat.le_of_ble_eq_true rfl) (fun p e s m below meth c E hr hlk hml hQ ls hl => ?_)
  have hx := E.1
  have hb := E.2.1
  have hs : Sp ad 20 (FA ad 20) := Sp.fa hD
  have hl : lv_has ls 4 [(0, .ref (ad 0)), (1, .int a1), (2, .int a2)] := hl
  refine lv_aload_n hx hb dX12_rate_0 rfl (lv_at hl 0 rfl) ?_
  refine lv_iconst (v := 0) hx hb dX12_rate_1 (by decide) ?_
  have c_1 : S 0 = .inr (12, [.int 0, .ref (ad 1), .ref (ad 2), .ref (ad 3), .ref (ad 4), .ref (ad 5), .int 0, .int 0, .int 0, .int 0, .int 0, .long 0, .int 0, .int 0, .int 0, .int (-1), .ref (ad 6), .ref (ad 7), .ref (ad 8), .ref (ad 9), .ref (ad 10), .ref (ad 11), .ref (ad 12), .ref (ad 13), .ref (ad 14), .ref (ad 15), .int 0, .int 0, .ref (ad 16), .int 0, .int 0, .int 0, .int 0, .int 0, .ref (ad 17), .ref (ad 18), .int 0, .ref (ad 19)]) := (hX 0 (by decide))
  refine xputi E hs hQ 0 (by decide) c_1 rfl 0 (by decide) q1468 rfl rfl (Nat.le_of_ble_eq_true rfl) dX12_rate_2 (fun H locs S2 e2 hQ => ?_)
  have hX : ∀ i, i < 20 → S2 i = M0 g ad i := same_up hX e2 rfl
  refine lv_aload_n hx hb dX12_rate_5 rfl (lv_at hl 0 rfl) ?_
  refine lv_iload_n hx hb dX12_rate_6 rfl (lv_at hl 1 rfl) ?_
  have c_3 : S2 0 = .inr (12, [.int 0, .ref (ad 1), .ref (ad 2), .ref (ad 3), .ref (ad 4), .ref (ad 5), .int 0, .int 0, .int 0, .int 0, .int 0, .long 0, .int 0, .int 0, .int 0, .int (-1), .ref (ad 6), .ref (ad 7), .ref (ad 8), .ref (ad 9), .ref (ad 10), .ref (ad 11), .ref (ad 12), .ref (ad 13), .ref (ad 14), .ref (ad 15), .int 0, .int 0, .ref (ad 16), .int 0, .int 0, .int 0, .int 0, .int 0, .ref (ad 17), .ref (ad 18), .int 0, .ref (ad 19)]) := (hX 0 (by decide))
  refine xcVi E hs hQ hml hl.1 0 (fX12_isThing l g ad hD S2 hX a1) mX12_isThing q1766 (by decide) c_3 rfl rfl ⟨by decide, by decide⟩ ⟨by decide, by decide⟩ (by decide) rfl dX12_rate_7 (fun r4 S4 H locs hp4 hQ _ => ?_)
  obtain ⟨rfl, rfl⟩ := hp4
  refine lv_if_eq (tgt := 25) hx hb dX12_rate_10 (by decide) (fun k_5 => ?_) (fun k_5 => absurd k_5 (by decide))
  refine lv_bipush (v := (-2)) hx hb dX12_rate_25 (by decide) ?_
  exact xri E hr hlk hQ (rfl) dX12_rate_27
set_option maxHeartbeats 4000000 in
set_option maxRecDepth 100000 in
theorem fX12_drawn (l : Launch) (g : GG) (ad : Nat → Nat) (hD : Dj ad 20) (S : SS) (hX : ∀ i, i < 20 → S i = M0 g ad i) (a1 : Int32) (a2 : Int32) (a3 : Int32) : Met l yX12_drawn (wG (.code yX12_drawn cX12_drawn 4 (some .int))) (Rm 3) (XPre g ad 20 S [.ref (ad 0), .int a1, .int a2, .int a3]) (va_Qi (fun r _ => r = (-2)) (QB g ad 20) (FA ad 20)) 0 0 (FA ad 20) := by
  refine xmet cX12_drawn "EbbWreckModel" (by decide) rfl (Nat.le_of_ble_eq_true rfl) (fun p e s m below meth c E hr hlk hml hQ ls hl => ?_)
  have hx := E.1
  have hb := E.2.1
  have hs : Sp ad 20 (FA ad 20) := Sp.fa hD
  have hl : lv_has ls 4 [(0, .ref (ad 0)), (1, .int a1), (2, .int a2), (3, .int a3)] := hl
  refine lv_aload_n hx hb dX12_drawn_0 rfl (lv_at hl 0 rfl) ?_
  refine lv_iconst (v := 0) hx hb dX12_drawn_1 (by decide) ?_
  have c_1 : S 0 = .inr (12, [.int 0, .ref (ad 1), .ref (ad 2), .ref (ad 3), .ref (ad 4), .ref (ad 5), .int 0, .int 0, .int 0, .int 0, .int 0, .long 0, .int 0, .int 0, .int 0, .int (-1), .ref (ad 6), .ref (ad 7), .ref (ad 8), .ref (ad 9), .ref (ad 10), .ref (ad 11), .ref (ad 12), .ref (ad 13), .ref (ad 14), .ref (ad 15), .int 0, .int 0, .ref (ad 16), .int 0, .int 0, .int 0, .int 0, .int 0, .ref (ad 17), .ref (ad 18), .int 0, .ref (ad 19)]) := (hX 0 (by decide))
  refine xputi E hs hQ 0 (by decide) c_1 rfl 0 (by decide) q1468 rfl rfl (Nat.le_of_ble_eq_true rfl) dX12_drawn_2 (fun H locs S2 e2 hQ => ?_)
  have hX : ∀ i, i < 20 → S2 i = M0 g ad i := same_up hX e2 rfl
  refine lv_aload_n hx hb dX12_drawn_5 rfl (lv_at hl 0 rfl) ?_
  refine lv_iload_n hx hb dX12_drawn_6 rfl (lv_at hl 1 rfl) ?_
  refine lv_iload_n hx hb dX12_drawn_7 rfl (lv_at hl 2 rfl) ?_
  have c_3 : S2 0 = .inr (12, [.int 0, .ref (ad 1), .ref (ad 2), .ref (ad 3), .ref (ad 4), .ref (ad 5), .int 0, .int 0, .int 0, .int 0, .int 0, .long 0, .int 0, .int 0, .int 0, .int (-1), .ref (ad 6), .ref (ad 7), .ref (ad 8), .ref (ad 9), .ref (ad 10), .ref (ad 11), .ref (ad 12), .ref (ad 13), .ref (ad 14), .ref (ad 15), .int 0, .int 0, .ref (ad 16), .int 0, .int 0, .int 0, .int 0, .int 0, .ref (ad 17), .ref (ad 18), .int 0, .ref (ad 19)]) := (hX 0 (by decide))
  refine xcVi E hs hQ hml hl.1 0 (fX12_isDraw l g ad hD S2 hX a1 a2) mX12_isDraw q2128 (by decide) c_3 rfl rfl ⟨by decide, by decide⟩ ⟨by decide, by decide⟩ (by decide) rfl dX12_drawn_8 (fun r4 S4 H locs hp4 hQ _ => ?_)
  obtain ⟨rfl, rfl⟩ := hp4
  refine lv_if_eq (tgt := 26) hx hb dX12_drawn_11 (by decide) (fun k_5 => ?_) (fun k_5 => absurd k_5 (by decide))
  refine lv_bipush (v := (-2)) hx hb dX12_drawn_26 (by decide) ?_
  exact xri E hr hlk hQ (rfl) dX12_drawn_28
set_option maxHeartbeats 4000000 in
set_option maxRecDepth 100000 in
theorem fX12_luck (l : Launch) (g : GG) (ad : Nat → Nat) (hD : Dj ad 20) (S : SS) (hX : ∀ i, i < 20 → S i = M0 g ad i) (a1 : Int32) (a2 : Int32) (a3 : Int32) (a4 : Int32) : Met l yX12_luck (wG (.code yX12_luck cX12_luck 7 (some .int))) (Rm 3) (XPre g ad 20 S [.ref (ad 0), .int a1, .int a2, .int a3, .int a4]) (va_Qi (fun r _ => r = (-2)) (QB g ad 20) (FA ad 20)) 0 0 (FA ad 20) := by
  refine xmet cX12_luck "EbbWreckModel" (by decide) rfl (Nat.le_of_ble_eq_true rfl) (fun p e s m below meth c E hr hlk hml hQ ls hl => ?_)
  have hx := E.1
  have hb := E.2.1
  have hs : Sp ad 20 (FA ad 20) := Sp.fa hD
  have hl : lv_has ls 7 [(0, .ref (ad 0)), (1, .int a1), (2, .int a2), (3, .int a3), (4, .int a4)] := hl
  refine lv_aload_n hx hb dX12_luck_0 rfl (lv_at hl 0 rfl) ?_
  refine lv_iconst (v := 0) hx hb dX12_luck_1 (by decide) ?_
  have c_1 : S 0 = .inr (12, [.int 0, .ref (ad 1), .ref (ad 2), .ref (ad 3), .ref (ad 4), .ref (ad 5), .int 0, .int 0, .int 0, .int 0, .int 0, .long 0, .int 0, .int 0, .int 0, .int (-1), .ref (ad 6), .ref (ad 7), .ref (ad 8), .ref (ad 9), .ref (ad 10), .ref (ad 11), .ref (ad 12), .ref (ad 13), .ref (ad 14), .ref (ad 15), .int 0, .int 0, .ref (ad 16), .int 0, .int 0, .int 0, .int 0, .int 0, .ref (ad 17), .ref (ad 18), .int 0, .ref (ad 19)]) := (hX 0 (by decide))
  refine xputi E hs hQ 0 (by decide) c_1 rfl 0 (by decide) q1468 rfl rfl (Nat.le_of_ble_eq_true rfl) dX12_luck_2 (fun H locs S2 e2 hQ => ?_)
  have hX : ∀ i, i < 20 → S2 i = M0 g ad i := same_up hX e2 rfl
  refine lv_aload_n hx hb dX12_luck_5 rfl (lv_at hl 0 rfl) ?_
  refine lv_iload_n hx hb dX12_luck_6 rfl (lv_at hl 1 rfl) ?_
  refine lv_iload_n hx hb dX12_luck_7 rfl (lv_at hl 3 rfl) ?_
  have c_3 : S2 0 = .inr (12, [.int 0, .ref (ad 1), .ref (ad 2), .ref (ad 3), .ref (ad 4), .ref (ad 5), .int 0, .int 0, .int 0, .int 0, .int 0, .long 0, .int 0, .int 0, .int 0, .int (-1), .ref (ad 6), .ref (ad 7), .ref (ad 8), .ref (ad 9), .ref (ad 10), .ref (ad 11), .ref (ad 12), .ref (ad 13), .ref (ad 14), .ref (ad 15), .int 0, .int 0, .ref (ad 16), .int 0, .int 0, .int 0, .int 0, .int 0, .ref (ad 17), .ref (ad 18), .int 0, .ref (ad 19)]) := (hX 0 (by decide))
  refine xcVi E hs hQ hml hl.1 0 (fX12_isDraw l g ad hD S2 hX a1 a3) mX12_isDraw q2128 (by decide) c_3 rfl rfl ⟨by decide, by decide⟩ ⟨by decide, by decide⟩ (by decide) rfl dX12_luck_8 (fun r4 S4 H locs hp4 hQ _ => ?_)
  obtain ⟨rfl, rfl⟩ := hp4
  refine lv_if_eq (tgt := 35) hx hb dX12_luck_11 (by decide) (fun k_5 => ?_) (fun k_5 => absurd k_5 (by decide))
  refine lv_bipush (v := (-2)) hx hb dX12_luck_35 (by decide) ?_
  exact xri E hr hlk hQ (rfl) dX12_luck_37
set_option maxHeartbeats 4000000 in
set_option maxRecDepth 100000 in
theorem fX12_waits (l : Launch) (g : GG) (ad : Nat → Nat) (hD : Dj ad 20) (S : SS) (hX : ∀ i, i < 20 → S i = M0 g ad i) (a1 : Int32) (a2 : Int32) (a3 : Int32) : Met l yX12_waits (wG (.code yX12_waits cX12_waits 7 (some .int))) (Rm 3) (XPre g ad 20 S [.ref (ad 0), .int a1, .int a2, .int a3]) (va_Qi (fun r _ => r = (-2)) (QB g ad 20) (FA ad 20)) 0 0 (FA ad 20) := by
  refine xmet cX12_waits "EbbWreckModel" (by decide) rfl (Nat.le_of_ble_eq_true rfl) (fun p e s m below meth c E hr hlk hml hQ ls hl => ?_)
  have hx := E.1
  have hb := E.2.1
  have hs : Sp ad 20 (FA ad 20) := Sp.fa hD
  have hl : lv_has ls 7 [(0, .ref (ad 0)), (1, .int a1), (2, .int a2), (3, .int a3)] := hl
  refine lv_aload_n hx hb dX12_waits_0 rfl (lv_at hl 0 rfl) ?_
  refine lv_iconst (v := 0) hx hb dX12_waits_1 (by decide) ?_
  have c_1 : S 0 = .inr (12, [.int 0, .ref (ad 1), .ref (ad 2), .ref (ad 3), .ref (ad 4), .ref (ad 5), .int 0, .int 0, .int 0, .int 0, .int 0, .long 0, .int 0, .int 0, .int 0, .int (-1), .ref (ad 6), .ref (ad 7), .ref (ad 8), .ref (ad 9), .ref (ad 10), .ref (ad 11), .ref (ad 12), .ref (ad 13), .ref (ad 14), .ref (ad 15), .int 0, .int 0, .ref (ad 16), .int 0, .int 0, .int 0, .int 0, .int 0, .ref (ad 17), .ref (ad 18), .int 0, .ref (ad 19)]) := (hX 0 (by decide))
  refine xputi E hs hQ 0 (by decide) c_1 rfl 0 (by decide) q1468 rfl rfl (Nat.le_of_ble_eq_true rfl) dX12_waits_2 (fun H locs S2 e2 hQ => ?_)
  have hX : ∀ i, i < 20 → S2 i = M0 g ad i := same_up hX e2 rfl
  refine lv_aload_n hx hb dX12_waits_5 rfl (lv_at hl 0 rfl) ?_
  refine lv_iload_n hx hb dX12_waits_6 rfl (lv_at hl 1 rfl) ?_
  refine lv_iload_n hx hb dX12_waits_7 rfl (lv_at hl 3 rfl) ?_
  have c_3 : S2 0 = .inr (12, [.int 0, .ref (ad 1), .ref (ad 2), .ref (ad 3), .ref (ad 4), .ref (ad 5), .int 0, .int 0, .int 0, .int 0, .int 0, .long 0, .int 0, .int 0, .int 0, .int (-1), .ref (ad 6), .ref (ad 7), .ref (ad 8), .ref (ad 9), .ref (ad 10), .ref (ad 11), .ref (ad 12), .ref (ad 13), .ref (ad 14), .ref (ad 15), .int 0, .int 0, .ref (ad 16), .int 0, .int 0, .int 0, .int 0, .int 0, .ref (ad 17), .ref (ad 18), .int 0, .ref (ad 19)]) := (hX 0 (by decide))
  refine xcVi E hs hQ hml hl.1 0 (fX12_isDraw l g ad hD S2 hX a1 a3) mX12_isDraw q2128 (by decide) c_3 rfl rfl ⟨by decide, by decide⟩ ⟨by decide, by decide⟩ (by decide) rfl dX12_waits_8 (fun r4 S4 H locs hp4 hQ _ => ?_)
  obtain ⟨rfl, rfl⟩ := hp4
  refine lv_if_eq (tgt := 26) hx hb dX12_waits_11 (by decide) (fun k_5 => ?_) (fun k_5 => absurd k_5 (by decide))
  refine lv_bipush (v := (-2)) hx hb dX12_waits_26 (by decide) ?_
  exact xri E hr hlk hQ (rfl) dX12_waits_28
end
section
theorem dJ7_fill_53178_0 : decode cJ7_fill_53178 0 = .ok (.iconst 0, 1) := by decide +kernel
theorem dJ7_fill_53178_1 : decode cJ7_fill_53178 1 = .ok (.istore_n 2, 1) := by decide +kernel
theorem dJ7_fill_53178_2 : decode cJ7_fill_53178 2 = .ok (.aload_n 0, 1) := by decide +kernel
theorem dJ7_fill_53178_3 : decode cJ7_fill_53178 3 = .ok (.arraylength, 1) := by decide +kernel
theorem dJ7_fill_53178_4 : decode cJ7_fill_53178 4 = .ok (.istore_n 3, 1) := by decide +kernel
theorem dJ7_fill_53178_5 : decode cJ7_fill_53178 5 = .ok (.iload_n 2, 1) := by decide +kernel
theorem dJ7_fill_53178_6 : decode cJ7_fill_53178 6 = .ok (.iload_n 3, 1) := by decide +kernel
theorem dJ7_fill_53178_7 : decode cJ7_fill_53178 7 = .ok (.if_icmp .ge 13, 3) := by decide +kernel
theorem dJ7_fill_53178_10 : decode cJ7_fill_53178 10 = .ok (.aload_n 0, 1) := by decide +kernel
theorem dJ7_fill_53178_11 : decode cJ7_fill_53178 11 = .ok (.iload_n 2, 1) := by decide +kernel
theorem dJ7_fill_53178_12 : decode cJ7_fill_53178 12 = .ok (.iload_n 1, 1) := by decide +kernel
theorem dJ7_fill_53178_13 : decode cJ7_fill_53178 13 = .ok (.iastore, 1) := by decide +kernel
theorem dJ7_fill_53178_14 : decode cJ7_fill_53178 14 = .ok (.iinc 2 1, 3) := by decide +kernel
theorem dJ7_fill_53178_17 : decode cJ7_fill_53178 17 = .ok (.goto (-12), 3) := by decide +kernel
theorem dJ7_fill_53178_20 : decode cJ7_fill_53178 20 = .ok (.return_, 1) := by decide +kernel
theorem dJ7_fill_d0a16_0 : decode cJ7_fill_d0a16 0 = .ok (.iconst 0, 1) := by decide +kernel
theorem dJ7_fill_d0a16_1 : decode cJ7_fill_d0a16 1 = .ok (.istore_n 3, 1) := by decide +kernel
theorem dJ7_fill_d0a16_2 : decode cJ7_fill_d0a16 2 = .ok (.aload_n 0, 1) := by decide +kernel
theorem dJ7_fill_d0a16_3 : decode cJ7_fill_d0a16 3 = .ok (.arraylength, 1) := by decide +kernel
theorem dJ7_fill_d0a16_4 : decode cJ7_fill_d0a16 4 = .ok (.istore 4, 2) := by decide +kernel
theorem dJ7_fill_d0a16_6 : decode cJ7_fill_d0a16 6 = .ok (.iload_n 3, 1) := by decide +kernel
theorem dJ7_fill_d0a16_7 : decode cJ7_fill_d0a16 7 = .ok (.iload 4, 2) := by decide +kernel
theorem dJ7_fill_d0a16_9 : decode cJ7_fill_d0a16 9 = .ok (.if_icmp .ge 13, 3) := by decide +kernel
theorem dJ7_fill_d0a16_12 : decode cJ7_fill_d0a16 12 = .ok (.aload_n 0, 1) := by decide +kernel
theorem dJ7_fill_d0a16_13 : decode cJ7_fill_d0a16 13 = .ok (.iload_n 3, 1) := by decide +kernel
theorem dJ7_fill_d0a16_14 : decode cJ7_fill_d0a16 14 = .ok (.lload_n 1, 1) := by decide +kernel
theorem dJ7_fill_d0a16_15 : decode cJ7_fill_d0a16 15 = .ok (.lastore, 1) := by decide +kernel
theorem dJ7_fill_d0a16_16 : decode cJ7_fill_d0a16 16 = .ok (.iinc 3 1, 3) := by decide +kernel
theorem dJ7_fill_d0a16_19 : decode cJ7_fill_d0a16 19 = .ok (.goto (-13), 3) := by decide +kernel
theorem dJ7_fill_d0a16_22 : decode cJ7_fill_d0a16 22 = .ok (.return_, 1) := by decide +kernel
theorem dX12_copyRow_0 : decode cX12_copyRow 0 = .ok (.iconst 0, 1) := by decide +kernel
theorem dX12_copyRow_1 : decode cX12_copyRow 1 = .ok (.istore 4, 2) := by decide +kernel
theorem dX12_copyRow_3 : decode cX12_copyRow 3 = .ok (.iload 4, 2) := by decide +kernel
theorem dX12_copyRow_5 : decode cX12_copyRow 5 = .ok (.iload_n 1, 1) := by decide +kernel
theorem dX12_copyRow_6 : decode cX12_copyRow 6 = .ok (.if_icmp .ge 25, 3) := by decide +kernel
theorem dX12_copyRow_9 : decode cX12_copyRow 9 = .ok (.aload_n 0, 1) := by decide +kernel
theorem dX12_copyRow_10 : decode cX12_copyRow 10 = .ok (.iload_n 1, 1) := by decide +kernel
theorem dX12_copyRow_11 : decode cX12_copyRow 11 = .ok (.iload_n 3, 1) := by decide +kernel
theorem dX12_copyRow_12 : decode cX12_copyRow 12 = .ok (.imul, 1) := by decide +kernel
theorem dX12_copyRow_13 : decode cX12_copyRow 13 = .ok (.iload 4, 2) := by decide +kernel
theorem dX12_copyRow_15 : decode cX12_copyRow 15 = .ok (.iadd, 1) := by decide +kernel
theorem dX12_copyRow_16 : decode cX12_copyRow 16 = .ok (.aload_n 0, 1) := by decide +kernel
theorem dX12_copyRow_17 : decode cX12_copyRow 17 = .ok (.iload_n 1, 1) := by decide +kernel
theorem dX12_copyRow_18 : decode cX12_copyRow 18 = .ok (.iload_n 2, 1) := by decide +kernel
theorem dX12_copyRow_19 : decode cX12_copyRow 19 = .ok (.imul, 1) := by decide +kernel
theorem dX12_copyRow_20 : decode cX12_copyRow 20 = .ok (.iload 4, 2) := by decide +kernel
theorem dX12_copyRow_22 : decode cX12_copyRow 22 = .ok (.iadd, 1) := by decide +kernel
theorem dX12_copyRow_23 : decode cX12_copyRow 23 = .ok (.iaload, 1) := by decide +kernel
theorem dX12_copyRow_24 : decode cX12_copyRow 24 = .ok (.iastore, 1) := by decide +kernel
theorem dX12_copyRow_25 : decode cX12_copyRow 25 = .ok (.iinc 4 1, 3) := by decide +kernel
theorem dX12_copyRow_28 : decode cX12_copyRow 28 = .ok (.goto (-25), 3) := by decide +kernel
theorem dX12_copyRow_31 : decode cX12_copyRow 31 = .ok (.return_, 1) := by decide +kernel
theorem fill_succ (v : Int32) (i : Nat) (f : Nat → Int32) : upd (fillF v i f) i v = fillF v (i + 1) f := by
  funext j
  by_cases h : j = i
  · subst h
    simp [upd, fillF]
  · by_cases h2 : j < i
    · simp [upd, fillF, h, h2, Nat.lt_succ_of_lt h2]
    · simp [upd, fillF, h, h2, show ¬ j < i + 1 by omega]
def fillL (v : Int64) (n : Nat) (f : Nat → Int64) : Nat → Int64 := fun j => if j < n then v else f j
theorem fillL_succ (v : Int64) (i : Nat) (f : Nat → Int64) : vp_updL (fillL v i f) i v = fillL v (i + 1) f := by
  funext j
  by_cases h : j = i
  · subst h
    simp [vp_updL, fillL]
  · by_cases h2 : j < i
    · simp [vp_updL, fillL, h, h2, Nat.lt_succ_of_lt h2]
    · simp [vp_updL, fillL, h, h2, show ¬ j < i + 1 by omega]
def cpF (f : Nat → Int32) (mn a b i : Nat) : Nat → Int32 := fun j => if mn * b ≤ j ∧ j < mn * b + i then f (mn * a + (j - mn * b)) else f j
theorem cpF_0 (f : Nat → Int32) (mn a b : Nat) : cpF f mn a b 0 = f := by
  funext j
  unfold cpF
  rw [if_neg (by omega)]
theorem cpF_at {f : Nat → Int32} {mn a b i : Nat} (hi : i < mn) (hab : mn * a + mn ≤ mn * b ∨ mn * b + mn ≤ mn * a) : cpF f mn a b i (mn * a + i) = f (mn * a + i) := by
  unfold cpF
  rw [if_neg (by omega)]
theorem cpF_succ {f : Nat → Int32} {mn a b i : Nat} : upd (cpF f mn a b i) (mn * b + i) (f (mn * a + i)) = cpF f mn a b (i + 1) := by
  funext j
  by_cases h : j = mn * b + i
  · subst h
    unfold upd cpF
    rw [if_pos rfl, if_pos (by omega)]
    congr 1
    omega
  · unfold upd cpF
    rw [if_neg h]
    by_cases h2 : mn * b ≤ j ∧ j < mn * b + i
    · rw [if_pos h2, if_pos (by omega)]
    · rw [if_neg h2, if_neg (by omega)]
theorem up_up {S : SS} {k : Nat} {a b : va_E} : va_up (va_up S k a) k b = va_up S k b := bx_uu S k a b
theorem up_id {S : SS} {k : Nat} {a : va_E} (h : S k = a) : S = va_up S k a := by
  funext j
  by_cases e : j = k
  · subst e; rw [va_up_self, h]
  · rw [va_up_ne _ _ e]
set_option maxHeartbeats 4000000 in
set_option maxRecDepth 100000 in
/-- Arrays.fill(int[], int) -/
theorem uFillI (l : Launch) (g : GG) (ad : Nat → Nat) (N : Nat) (hD : Dj ad N) (S : SS) (k : Nat) (hk : k < N) (n : Nat) (hn : n < 2 ^ 31) (f : Nat → Int32) (v : Int32) (hS : S k = .inl (g.2 0, n, .inl f)) : Met l yJ7_fill_53178 (wG (.code yJ7_fill_53178 cJ7_fill_53178 4 none)) (Rm 0) (XPre g ad N S [.ref (ad k), .int v]) (va_Qv (fun S' => S' = va_up S k (.inl (g.2 0, n, .inl (fillF v n f)))) (QB g ad N) (FA ad N)) 0 0 (FA ad N) := by
  refine xmet cJ7_fill_53178 "java/util/Arrays" (by decide) rfl (Nat.le_of_ble_eq_true rfl) (fun p e s m below meth c E hr hlk hml hQ ls hl => ?_)
  have hx := E.1
  have hb := E.2.1
  have hs : Sp ad N (FA ad N) := Sp.fa hD
  have loop : ∀ (q i : Nat) (S1 : SS) (H : Heap) (locs : List Loc) (ls : Array Slot), i ≤ n → n - i < q → S1 = va_up S k (.inl (g.2 0, n, .inl (fillF v i f))) → Hp g ad N S1 (FA ad N) s.heap H locs → lv_has ls 4 [(0, .ref (ad k)), (1, .int v), (2, .int (nI i)), (3, .int (nI n))] → W p l e (Rm 0) s m [.ref (ad k), .int v].toArray below meth c H locs 0 0 (MQ below (va_Qv (fun S' => S' = va_up S k (.inl (g.2 0, n, .inl (fillF v n f)))) (QB g ad N) (FA ad N)) [.ref (ad k), .int v].toArray s 0 0 (FA ad N)) (F0 m 5 ls []) := by
    intro q
    induction q with
    | zero => intro i S1 H locs ls h1 h2; exact absurd h2 (by omega)
    | succ q ih =>
      intro i S1 H locs ls hi hq e1 hQ hl
      refine lv_iload_n hx hb dJ7_fill_53178_5 rfl (lv_at hl 2 rfl) ?_
      refine lv_iload_n hx hb dJ7_fill_53178_6 rfl (lv_at hl 3 rfl) ?_
      refine lv_icmp_ge (tgt := 20) hx hb dJ7_fill_53178_7 (by decide) (fun c1 => ?_) (fun c1 => ?_)
      · have hin : i = n := by
          rcases Nat.lt_or_ge i n with h | h
          · exact absurd c1 (nI_ge h hn)
          · omega
        subst hin
        exact xrv E hr hlk hQ e1 dJ7_fill_53178_20
      · have hlt : i < n := by
          rcases Nat.lt_or_ge i n with h | h
          · exact h
          · exact absurd (nI_le h (by omega)) c1
        refine lv_aload_n hx hb dJ7_fill_53178_10 rfl (lv_at hl 0 rfl) ?_
        refine lv_iload_n hx hb dJ7_fill_53178_11 rfl (lv_at hl 2 rfl) ?_
        refine lv_iload_n hx hb dJ7_fill_53178_12 rfl (lv_at hl 1 rfl) ?_
        refine xiast E hs hQ k hk (up_at e1 rfl) (vp_in_nI hlt hn) dJ7_fill_53178_13 (fun H locs S2 e2 hQ => ?_)
        refine lv_iinc (v := nI (i + 1)) (lv' := [(2, .int (nI (i + 1))), (0, .ref (ad k)), (1, .int v), (3, .int (nI n))]) hx hb dJ7_fill_53178_14 hl (k := 2) rfl (nI_1 i) (by decide) rfl (fun ls hl => ?_)
        refine lv_goto (tgt := 5) hx hb dJ7_fill_53178_17 (by decide) ?_
        exact ih (i + 1) S2 _ _ _ hlt (by omega) (by rw [e2, e1, up_up, nI_clamp (by omega), fill_succ]) hQ (lv_sub hl [1, 2, 0, 3] rfl)
  have hl : lv_has ls 4 [(0, .ref (ad k)), (1, .int v)] := hl
  refine lv_iconst (v := 0) hx hb dJ7_fill_53178_0 (by decide) ?_
  refine lv_istore_n (lv' := [(2, .int 0), (0, .ref (ad k)), (1, .int v)]) hx hb dJ7_fill_53178_1 rfl hl (by decide) rfl (fun ls hl => ?_)
  refine lv_aload_n hx hb dJ7_fill_53178_2 rfl (lv_at hl 1 rfl) ?_
  refine xalen (v := nI n) E hQ k hk 0 hS rfl rfl dJ7_fill_53178_3 ?_
  refine lv_istore_n (lv' := [(3, .int (nI n)), (2, .int 0), (0, .ref (ad k)), (1, .int v)]) hx hb dJ7_fill_53178_4 rfl hl (by decide) rfl (fun ls hl => ?_)
  refine loop (n + 1) 0 S _ _ _ (Nat.zero_le n) (by omega) ?_ hQ ?_
  · rw [show fillF v 0 f = f from by funext j; simp [fillF]]
    exact up_id hS
  · exact lv_sub hl [2, 3, 1, 0] rfl
set_option maxHeartbeats 4000000 in
set_option maxRecDepth 100000 in
/-- Arrays.fill(long[], long) -/
theorem uFillL (l : Launch) (g : GG) (ad : Nat → Nat) (N : Nat) (hD : Dj ad N) (S : SS) (k : Nat) (hk : k < N) (n : Nat) (hn : n < 2 ^ 31) (f : Nat → Int64) (v : Int64) (hS : S k = .inl (g.2 2, n, .inr (.inl f))) : Met l yJ7_fill_d0a16 (wG (.code yJ7_fill_d0a16 cJ7_fill_d0a16 5 none)) (Rm 0) (XPre g ad N S [.ref (ad k), .long v]) (va_Qv (fun S' => S' = va_up S k (.inl (g.2 2, n, .inr (.inl (fillL v n f))))) (QB g ad N) (FA ad N)) 0 0 (FA ad N) := by
  refine xmet cJ7_fill_d0a16 "java/util/Arrays" (by decide) rfl (Nat.le_of_ble_eq_true rfl) (fun p e s m below meth c E hr hlk hml hQ ls hl => ?_)
  have hx := E.1
  have hb := E.2.1
  have hs : Sp ad N (FA ad N) := Sp.fa hD
  have loop : ∀ (q i : Nat) (S1 : SS) (H : Heap) (locs : List Loc) (ls : Array Slot), i ≤ n → n - i < q → S1 = va_up S k (.inl (g.2 2, n, .inr (.inl (fillL v i f)))) → Hp g ad N S1 (FA ad N) s.heap H locs → lv_has ls 5 [(0, .ref (ad k)), (1, .long v), (3, .int (nI i)), (4, .int (nI n))] → W p l e (Rm 0) s m [.ref (ad k), .long v].toArray below meth c H locs 0 0 (MQ below (va_Qv (fun S' => S' = va_up S k (.inl (g.2 2, n, .inr (.inl (fillL v n f))))) (QB g ad N) (FA ad N)) [.ref (ad k), .long v].toArray s 0 0 (FA ad N)) (F0 m 6 ls []) := by
    intro q
    induction q with
    | zero => intro i S1 H locs ls h1 h2; exact absurd h2 (by omega)
    | succ q ih =>
      intro i S1 H locs ls hi hq e1 hQ hl
      refine lv_iload_n hx hb dJ7_fill_d0a16_6 rfl (lv_at hl 2 rfl) ?_
      refine lv_iload hx hb dJ7_fill_d0a16_7 (lv_at hl 3 rfl) ?_
      refine lv_icmp_ge (tgt := 22) hx hb dJ7_fill_d0a16_9 (by decide) (fun c1 => ?_) (fun c1 => ?_)
      · have hin : i = n := by
          rcases Nat.lt_or_ge i n with h | h
          · exact absurd c1 (nI_ge h hn)
          · omega
        subst hin
        exact xrv E hr hlk hQ e1 dJ7_fill_d0a16_22
      · have hlt : i < n := by
          rcases Nat.lt_or_ge i n with h | h
          · exact h
          · exact absurd (nI_le h (by omega)) c1
        refine lv_aload_n hx hb dJ7_fill_d0a16_12 rfl (lv_at hl 0 rfl) ?_
        refine lv_iload_n hx hb dJ7_fill_d0a16_13 rfl (lv_at hl 2 rfl) ?_
        refine lv_lload_n hx hb dJ7_fill_d0a16_14 rfl (lv_at hl 1 rfl) ?_
        refine xlast E hs hQ k hk (up_at e1 rfl) (vp_in_nI hlt hn) dJ7_fill_d0a16_15 (fun H locs S2 e2 hQ => ?_)
        refine lv_iinc (v := nI (i + 1)) (lv' := [(3, .int (nI (i + 1))), (0, .ref (ad k)), (1, .long v), (4, .int (nI n))]) hx hb dJ7_fill_d0a16_16 hl (k := 2) rfl (nI_1 i) (by decide) rfl (fun ls hl => ?_)
        refine lv_goto (tgt := 6) hx hb dJ7_fill_d0a16_19 (by decide) ?_
        exact ih (i + 1) S2 _ _ _ hlt (by omega) (by rw [e2, e1, up_up, nI_clamp (by omega), fillL_succ]) hQ (lv_sub hl [1, 2, 0, 3] rfl)
  have hl : lv_has ls 5 [(0, .ref (ad k)), (1, .long v)] := hl
  refine lv_iconst (v := 0) hx hb dJ7_fill_d0a16_0 (by decide) ?_
  refine lv_istore_n (lv' := [(3, .int 0), (0, .ref (ad k)), (1, .long v)]) hx hb dJ7_fill_d0a16_1 rfl hl (by decide) rfl (fun ls hl => ?_)
  refine lv_aload_n hx hb dJ7_fill_d0a16_2 rfl (lv_at hl 1 rfl) ?_
  refine xalen (v := nI n) E hQ k hk 2 hS rfl rfl dJ7_fill_d0a16_3 ?_
  refine lv_istore (lv' := [(4, .int (nI n)), (3, .int 0), (0, .ref (ad k)), (1, .long v)]) hx hb dJ7_fill_d0a16_4 hl (by decide) rfl (fun ls hl => ?_)
  refine loop (n + 1) 0 S _ _ _ (Nat.zero_le n) (by omega) ?_ hQ ?_
  · rw [show fillL v 0 f = f from by funext j; simp [fillL]]
    exact up_id hS
  · exact lv_sub hl [2, 3, 1, 0] rfl
set_option maxHeartbeats 4000000 in
set_option maxRecDepth 100000 in
/-- the reference's copyRow(row, mn, a, b) -/
theorem uCopyRow (l : Launch) (g : GG) (ad : Nat → Nat) (N : Nat) (hD : Dj ad N) (S : SS) (k : Nat) (hk : k < N) (n : Nat) (hn : n < 2 ^ 31) (f : Nat → Int32) (mn a b : Nat) (hA : mn * a + mn ≤ n) (hB : mn * b + mn ≤ n) (hab : mn * a + mn ≤ mn * b ∨ mn * b + mn ≤ mn * a) (hS : S k = .inl (g.2 0, n, .inl f)) : Met l yX12_copyRow (wG (.code yX12_copyRow cX12_copyRow 5 none)) (Rm 0) (XPre g ad N S [.ref (ad k), .int (nI mn), .int (nI a), .int (nI b)]) (va_Qv (fun S' => S' = va_up S k (.inl (g.2 0, n, .inl (cpF f mn a b mn)))) (QB g ad N) (FA ad N)) 0 0 (FA ad N) := by
  refine xmet cX12_copyRow "EbbWreckModel" (by decide) rfl (Nat.le_of_ble_eq_true rfl) (fun p e s m below meth c E hr hlk hml hQ ls hl => ?_)
  have hx := E.1
  have hb := E.2.1
  have hs : Sp ad N (FA ad N) := Sp.fa hD
  have loop : ∀ (q i : Nat) (S1 : SS) (H : Heap) (locs : List Loc) (ls : Array Slot), i ≤ mn → mn - i < q → S1 = va_up S k (.inl (g.2 0, n, .inl (cpF f mn a b i))) → Hp g ad N S1 (FA ad N) s.heap H locs → lv_has ls 5 [(0, .ref (ad k)), (1, .int (nI mn)), (2, .int (nI a)), (3, .int (nI b)), (4, .int (nI i))] → W p l e (Rm 0) s m [.ref (ad k), .int (nI mn), .int (nI a), .int (nI b)].toArray below meth c H locs 0 0 (MQ below (va_Qv (fun S' => S' = va_up S k (.inl (g.2 0, n, .inl (cpF f mn a b mn)))) (QB g ad N) (FA ad N)) [.ref (ad k), .int (nI mn), .int (nI a), .int (nI b)].toArray s 0 0 (FA ad N)) (F0 m 3 ls []) := by
    intro q
    induction q with
    | zero => intro i S1 H locs ls h1 h2; exact absurd h2 (by omega)
    | succ q ih =>
      intro i S1 H locs ls hi hq e1 hQ hl
      refine lv_iload hx hb dX12_copyRow_3 (lv_at hl 4 rfl) ?_
      refine lv_iload_n hx hb dX12_copyRow_5 rfl (lv_at hl 1 rfl) ?_
      refine lv_icmp_ge (tgt := 31) hx hb dX12_copyRow_6 (by decide) (fun c1 => ?_) (fun c1 => ?_)
      · have hin : i = mn := by
          rcases Nat.lt_or_ge i mn with h | h
          · exact absurd c1 (nI_ge h (by omega))
          · omega
        subst hin
        exact xrv E hr hlk hQ e1 dX12_copyRow_31
      · have hlt : i < mn := by
          rcases Nat.lt_or_ge i mn with h | h
          · exact h
          · exact absurd (nI_le h (by omega)) c1
        refine lv_aload_n hx hb dX12_copyRow_9 rfl (lv_at hl 0 rfl) ?_
        refine lv_iload_n hx hb dX12_copyRow_10 rfl (lv_at hl 1 rfl) ?_
        refine lv_iload_n hx hb dX12_copyRow_11 rfl (lv_at hl 3 rfl) ?_
        refine lv_imul hx hb dX12_copyRow_12 ?_
        refine lv_iload hx hb dX12_copyRow_13 (lv_at hl 4 rfl) ?_
        refine lv_iadd hx hb dX12_copyRow_15 ?_
        rw [pk_mul, nI_add]
        refine lv_aload_n hx hb dX12_copyRow_16 rfl (lv_at hl 0 rfl) ?_
        refine lv_iload_n hx hb dX12_copyRow_17 rfl (lv_at hl 1 rfl) ?_
        refine lv_iload_n hx hb dX12_copyRow_18 rfl (lv_at hl 2 rfl) ?_
        refine lv_imul hx hb dX12_copyRow_19 ?_
        refine lv_iload hx hb dX12_copyRow_20 (lv_at hl 4 rfl) ?_
        refine lv_iadd hx hb dX12_copyRow_22 ?_
        rw [pk_mul, nI_add]
        refine xiald E hQ k hk (up_at e1 rfl) (vp_in_nI (by omega) hn) dX12_copyRow_23 ?_
        rw [nI_clamp (by omega), cpF_at hlt hab]
        refine xiast E hs hQ k hk (up_at e1 rfl) (vp_in_nI (by omega) hn) dX12_copyRow_24 (fun H locs S2 e2 hQ => ?_)
        refine lv_iinc (v := nI (i + 1)) (lv' := [(4, .int (nI (i + 1))), (0, .ref (ad k)), (1, .int (nI mn)), (2, .int (nI a)), (3, .int (nI b))]) hx hb dX12_copyRow_25 hl (k := 4) rfl (nI_1 i) (by decide) rfl (fun ls hl => ?_)
        refine lv_goto (tgt := 3) hx hb dX12_copyRow_28 (by decide) ?_
        exact ih (i + 1) S2 _ _ _ hlt (by omega) (by rw [e2, e1, up_up, nI_clamp (by omega), cpF_succ]) hQ (lv_sub hl [1, 2, 3, 4, 0] rfl)
  have hl : lv_has ls 5 [(0, .ref (ad k)), (1, .int (nI mn)), (2, .int (nI a)), (3, .int (nI b))] := hl
  refine lv_iconst (v := 0) hx hb dX12_copyRow_0 (by decide) ?_
  refine lv_istore (lv' := [(4, .int 0), (0, .ref (ad k)), (1, .int (nI mn)), (2, .int (nI a)), (3, .int (nI b))]) hx hb dX12_copyRow_1 hl (by decide) rfl (fun ls hl => ?_)
  refine loop (mn + 1) 0 S _ _ _ (Nat.zero_le mn) (by omega) ?_ hQ ?_
  · rw [cpF_0]
    exact up_id hS
  · exact lv_sub hl [1, 2, 3, 4, 0] rfl
end
section
theorem i32_lt {a b : Int32} : a < b ↔ a.toInt < b.toInt := Int32.lt_iff_toInt_lt
theorem i32_le {a b : Int32} : a ≤ b ↔ a.toInt ≤ b.toInt := Int32.le_iff_toInt_le
theorem i32_eq {a b : Int32} : a = b ↔ a.toInt = b.toInt := Int32.toInt_inj.symm
theorem i64_lt {a b : Int64} : a < b ↔ a.toInt < b.toInt := Int64.lt_iff_toInt_lt
theorem i64_le {a b : Int64} : a ≤ b ↔ a.toInt ≤ b.toInt := Int64.le_iff_toInt_le
theorem w64 (x : Int32) : x.toInt64.toInt = x.toInt := by simp
theorem l_0 : (0 : Int32).toInt = 0 := by decide
theorem l_1 : (1 : Int32).toInt = 1 := by decide
theorem l_2 : (2 : Int32).toInt = 2 := by decide
theorem l_3 : (3 : Int32).toInt = 3 := by decide
theorem l_4 : (4 : Int32).toInt = 4 := by decide
theorem l_60 : (60 : Int32).toInt = 60 := by decide
theorem l_m1 : (-1 : Int32).toInt = -1 := by decide
theorem L_0 : (0 : Int64).toInt = 0 := by decide
theorem L_2 : (2 : Int64).toInt = 2 := by decide
theorem L_3 : (3 : Int64).toInt = 3 := by decide
theorem L_9 : (9 : Int64).toInt = 9 := by decide
theorem vp_in_of2 {x : Int32} {n : Nat} (h1 : ¬ x < 0) (h2 : ¬ nI n ≤ x) (hn : n < 2 ^ 31) : vp_in x n := by
  rcases pk_ix x hn with h | h | ⟨j, hj, rfl⟩
  · exact absurd h h1
  · exact absurd h h2
  · exact vp_in_nI hj hn
theorem szF_at {i : Int32} (h : vp_in i 4) : szF i.toNatClampNeg = -1 := by
  have h1 : i.toNatClampNeg < 4 := Nat.not_le.mp fun q => h (Or.inr q)
  unfold szF fillF
  rw [if_pos h1]
theorem wdF_at {i : Int32} (h : vp_in i 4) : wdF i.toNatClampNeg = -1 := by
  have h1 : i.toNatClampNeg < 4 := Nat.not_le.mp fun q => h (Or.inr q)
  rcases (show i.toNatClampNeg = 0 ∨ i.toNatClampNeg = 1 ∨ i.toNatClampNeg = 2 ∨ i.toNatClampNeg = 3 by omega) with e | e | e | e <;> rw [e] <;> rfl
theorem tlt0 {x : Int32} (h : x < 0) : x.toInt < 0 := by have := i32_lt.mp h; rw [l_0] at this; exact this
theorem tge {x : Int32} {n : Nat} (h : nI n ≤ x) (hn : n < 2 ^ 31) : (n : Int) ≤ x.toInt := by have := i32_le.mp h; rw [nI_toInt hn] at this; exact this
def ansEnd (n : Int32) : Int32 := if n.toInt = 0 then n else -1
def ansFault (w : Int32) : Int32 := if w.toInt = 0 then 0 else -1
def ansCount (w : Int32) : Int32 := if w.toInt < 0 ∨ 12 < w.toInt then -1 else 0
def ansImage (k : Int32) : Int32 := if k.toInt < 0 ∨ 2 < k.toInt then -2 else 0
def ansBack (k : Int32) : Int32 := if k.toInt < 0 ∨ 2 < k.toInt then -2 else -6
def ansRow (s w n : Int32) : Int32 := if s.toInt < 0 ∨ 3 < s.toInt ∨ w.toInt < 0 ∨ 3 < w.toInt ∨ 60 < n.toInt then -2 else if n.toInt < 0 then -3 else 0
def ansWrite (s : Int32) : Int32 := if s.toInt < 0 ∨ 3 < s.toInt then -2 else -6
def ansPaste (s t : Int32) : Int32 := if s.toInt < 0 ∨ 3 < s.toInt ∨ t.toInt < 0 ∨ 3 < t.toInt then -2 else -6
end
section
theorem dX8_isSlot_0 : decode cX8_isSlot 0 = .ok (.iload_n 0, 1) := by decide +kernel
theorem dX8_isSlot_1 : decode cX8_isSlot 1 = .ok (.ifCond .lt 12, 3) := by decide +kernel
theorem dX8_isSlot_13 : decode cX8_isSlot 13 = .ok (.iconst 0, 1) := by decide +kernel
theorem dX8_isSlot_14 : decode cX8_isSlot 14 = .ok (.ireturn, 1) := by decide +kernel
theorem dX8_isSlot_4 : decode cX8_isSlot 4 = .ok (.iload_n 0, 1) := by decide +kernel
theorem dX8_isSlot_5 : decode cX8_isSlot 5 = .ok (.iconst 4, 1) := by decide +kernel
theorem dX8_isSlot_6 : decode cX8_isSlot 6 = .ok (.if_icmp .ge 7, 3) := by decide +kernel
theorem dX8_isSlot_9 : decode cX8_isSlot 9 = .ok (.iconst 1, 1) := by decide +kernel
theorem dX8_isSlot_10 : decode cX8_isSlot 10 = .ok (.goto 4, 3) := by decide +kernel
theorem dX8_hasRow_0 : decode cX8_hasRow 0 = .ok (.aload_n 0, 1) := by decide +kernel
theorem dX8_hasRow_1 : decode cX8_hasRow 1 = .ok (.getfield 20, 3) := by decide +kernel
theorem dX8_hasRow_4 : decode cX8_hasRow 4 = .ok (.iload_n 1, 1) := by decide +kernel
theorem dX8_hasRow_5 : decode cX8_hasRow 5 = .ok (.iaload, 1) := by decide +kernel
theorem dX8_hasRow_6 : decode cX8_hasRow 6 = .ok (.iconst (-1), 1) := by decide +kernel
theorem dX8_hasRow_7 : decode cX8_hasRow 7 = .ok (.if_icmp .eq 7, 3) := by decide +kernel
theorem dX8_hasRow_14 : decode cX8_hasRow 14 = .ok (.iconst 0, 1) := by decide +kernel
theorem dX8_hasRow_15 : decode cX8_hasRow 15 = .ok (.ireturn, 1) := by decide +kernel
theorem dX8_filled_0 : decode cX8_filled 0 = .ok (.iconst 0, 1) := by decide +kernel
theorem dX8_filled_1 : decode cX8_filled 1 = .ok (.istore_n 1, 1) := by decide +kernel
theorem dX8_filled_2 : decode cX8_filled 2 = .ok (.iconst 0, 1) := by decide +kernel
theorem dX8_filled_3 : decode cX8_filled 3 = .ok (.istore_n 2, 1) := by decide +kernel
theorem dX8_filled_4 : decode cX8_filled 4 = .ok (.iload_n 2, 1) := by decide +kernel
theorem dX8_filled_5 : decode cX8_filled 5 = .ok (.iconst 4, 1) := by decide +kernel
theorem dX8_filled_6 : decode cX8_filled 6 = .ok (.if_icmp .ge 20, 3) := by decide +kernel
theorem dX8_filled_9 : decode cX8_filled 9 = .ok (.aload_n 0, 1) := by decide +kernel
theorem dX8_filled_10 : decode cX8_filled 10 = .ok (.iload_n 2, 1) := by decide +kernel
theorem dX8_filled_11 : decode cX8_filled 11 = .ok (.invokevirtual 29, 3) := by decide +kernel
theorem dX8_filled_14 : decode cX8_filled 14 = .ok (.ifCond .eq 6, 3) := by decide +kernel
theorem dX8_filled_20 : decode cX8_filled 20 = .ok (.iinc 2 1, 3) := by decide +kernel
theorem dX8_filled_23 : decode cX8_filled 23 = .ok (.goto (-19), 3) := by decide +kernel
theorem dX8_filled_26 : decode cX8_filled 26 = .ok (.iload_n 1, 1) := by decide +kernel
theorem dX8_filled_27 : decode cX8_filled 27 = .ok (.ireturn, 1) := by decide +kernel
theorem dX3_collect_0 : decode cX3_collect 0 = .ok (.aload_n 0, 1) := by decide +kernel
theorem dX3_collect_1 : decode cX3_collect 1 = .ok (.iconst 0, 1) := by decide +kernel
theorem dX3_collect_2 : decode cX3_collect 2 = .ok (.putfield 26, 3) := by decide +kernel
theorem dX3_collect_5 : decode cX3_collect 5 = .ok (.iload_n 1, 1) := by decide +kernel
theorem dX3_collect_6 : decode cX3_collect 6 = .ok (.invokestatic 30, 3) := by decide +kernel
theorem dX3_collect_9 : decode cX3_collect 9 = .ok (.ifCond .eq 13, 3) := by decide +kernel
theorem dX3_collect_12 : decode cX3_collect 12 = .ok (.aload_n 0, 1) := by decide +kernel
theorem dX3_collect_13 : decode cX3_collect 13 = .ok (.getfield 18, 3) := by decide +kernel
theorem dX3_collect_16 : decode cX3_collect 16 = .ok (.invokevirtual 36, 3) := by decide +kernel
theorem dX3_collect_19 : decode cX3_collect 19 = .ok (.ifCond .ne 6, 3) := by decide +kernel
theorem dX3_collect_22 : decode cX3_collect 22 = .ok (.bipush (-2), 2) := by decide +kernel
theorem dX3_collect_24 : decode cX3_collect 24 = .ok (.ireturn, 1) := by decide +kernel
theorem dX11_fits_0 : decode cX11_fits 0 = .ok (.aload_n 0, 1) := by decide +kernel
theorem dX11_fits_1 : decode cX11_fits 1 = .ok (.getfield 94, 3) := by decide +kernel
theorem dX11_fits_4 : decode cX11_fits 4 = .ok (.iload_n 1, 1) := by decide +kernel
theorem dX11_fits_5 : decode cX11_fits 5 = .ok (.invokevirtual 316, 3) := by decide +kernel
theorem dX11_fits_8 : decode cX11_fits 8 = .ok (.ireturn, 1) := by decide +kernel
theorem dX11_fit_0 : decode cX11_fit 0 = .ok (.aload_n 0, 1) := by decide +kernel
theorem dX11_fit_1 : decode cX11_fit 1 = .ok (.getfield 94, 3) := by decide +kernel
theorem dX11_fit_4 : decode cX11_fit 4 = .ok (.iload_n 1, 1) := by decide +kernel
theorem dX11_fit_5 : decode cX11_fit 5 = .ok (.invokevirtual 316, 3) := by decide +kernel
theorem dX11_fit_8 : decode cX11_fit 8 = .ok (.iconst 1, 1) := by decide +kernel
theorem dX11_fit_9 : decode cX11_fit 9 = .ok (.if_icmp .ge 7, 3) := by decide +kernel
theorem dX11_fit_12 : decode cX11_fit 12 = .ok (.sipush (-1000), 3) := by decide +kernel
theorem dX11_fit_15 : decode cX11_fit 15 = .ok (.ireturn, 1) := by decide +kernel
theorem dX11_ask_0 : decode cX11_ask 0 = .ok (.aload_n 0, 1) := by decide +kernel
theorem dX11_ask_1 : decode cX11_ask 1 = .ok (.getfield 94, 3) := by decide +kernel
theorem dX11_ask_4 : decode cX11_ask 4 = .ok (.iload_n 1, 1) := by decide +kernel
theorem dX11_ask_5 : decode cX11_ask 5 = .ok (.invokevirtual 316, 3) := by decide +kernel
theorem dX11_ask_8 : decode cX11_ask 8 = .ok (.istore_n 2, 1) := by decide +kernel
theorem dX11_ask_9 : decode cX11_ask 9 = .ok (.iload_n 2, 1) := by decide +kernel
theorem dX11_ask_10 : decode cX11_ask 10 = .ok (.ifCond .ge 7, 3) := by decide +kernel
theorem dX11_ask_13 : decode cX11_ask 13 = .ok (.iload_n 2, 1) := by decide +kernel
theorem dX11_ask_14 : decode cX11_ask 14 = .ok (.goto 10, 3) := by decide +kernel
theorem dX11_ask_24 : decode cX11_ask 24 = .ok (.ireturn, 1) := by decide +kernel
theorem dX11_leaves_0 : decode cX11_leaves 0 = .ok (.aload_n 0, 1) := by decide +kernel
theorem dX11_leaves_1 : decode cX11_leaves 1 = .ok (.getfield 94, 3) := by decide +kernel
theorem dX11_leaves_4 : decode cX11_leaves 4 = .ok (.iload_n 1, 1) := by decide +kernel
theorem dX11_leaves_5 : decode cX11_leaves 5 = .ok (.invokevirtual 316, 3) := by decide +kernel
theorem dX11_leaves_8 : decode cX11_leaves 8 = .ok (.istore_n 2, 1) := by decide +kernel
theorem dX11_leaves_9 : decode cX11_leaves 9 = .ok (.iload_n 2, 1) := by decide +kernel
theorem dX11_leaves_10 : decode cX11_leaves 10 = .ok (.ifCond .ge 5, 3) := by decide +kernel
theorem dX11_leaves_13 : decode cX11_leaves 13 = .ok (.iload_n 2, 1) := by decide +kernel
theorem dX11_leaves_14 : decode cX11_leaves 14 = .ok (.ireturn, 1) := by decide +kernel
theorem dX11_end_0 : decode cX11_end 0 = .ok (.iload_n 1, 1) := by decide +kernel
theorem dX11_end_1 : decode cX11_end 1 = .ok (.ifCond .lt 11, 3) := by decide +kernel
theorem dX11_end_12 : decode cX11_end 12 = .ok (.iconst (-1), 1) := by decide +kernel
theorem dX11_end_13 : decode cX11_end 13 = .ok (.ireturn, 1) := by decide +kernel
theorem dX11_end_4 : decode cX11_end 4 = .ok (.iload_n 1, 1) := by decide +kernel
theorem dX11_end_5 : decode cX11_end 5 = .ok (.aload_n 0, 1) := by decide +kernel
theorem dX11_end_6 : decode cX11_end 6 = .ok (.getfield 13, 3) := by decide +kernel
theorem dX11_end_9 : decode cX11_end 9 = .ok (.if_icmp .le 5, 3) := by decide +kernel
theorem dX11_end_14 : decode cX11_end 14 = .ok (.aload_n 0, 1) := by decide +kernel
theorem dX11_end_15 : decode cX11_end 15 = .ok (.iload_n 1, 1) := by decide +kernel
theorem dX11_end_16 : decode cX11_end 16 = .ok (.putfield 13, 3) := by decide +kernel
theorem dX11_end_19 : decode cX11_end 19 = .ok (.iload_n 1, 1) := by decide +kernel
theorem dX11_end_20 : decode cX11_end 20 = .ok (.ireturn, 1) := by decide +kernel
theorem dX11_fault_0 : decode cX11_fault 0 = .ok (.iload_n 1, 1) := by decide +kernel
theorem dX11_fault_1 : decode cX11_fault 1 = .ok (.ifCond .ne 8, 3) := by decide +kernel
theorem dX11_fault_9 : decode cX11_fault 9 = .ok (.iload_n 1, 1) := by decide +kernel
theorem dX11_fault_10 : decode cX11_fault 10 = .ok (.iconst 1, 1) := by decide +kernel
theorem dX11_fault_11 : decode cX11_fault 11 = .ok (.if_icmp .ne 10, 3) := by decide +kernel
theorem dX11_fault_21 : decode cX11_fault 21 = .ok (.iconst (-1), 1) := by decide +kernel
theorem dX11_fault_22 : decode cX11_fault 22 = .ok (.ireturn, 1) := by decide +kernel
theorem dX11_fault_14 : decode cX11_fault 14 = .ok (.aload_n 0, 1) := by decide +kernel
theorem dX11_fault_15 : decode cX11_fault 15 = .ok (.getfield 20, 3) := by decide +kernel
theorem dX11_fault_18 : decode cX11_fault 18 = .ok (.goto 4, 3) := by decide +kernel
theorem dX11_fault_4 : decode cX11_fault 4 = .ok (.aload_n 0, 1) := by decide +kernel
theorem dX11_fault_5 : decode cX11_fault 5 = .ok (.getfield 17, 3) := by decide +kernel
theorem dX11_fault_8 : decode cX11_fault 8 = .ok (.ireturn, 1) := by decide +kernel
theorem dX11_back_0 : decode cX11_back 0 = .ok (.iload_n 1, 1) := by decide +kernel
theorem dX11_back_1 : decode cX11_back 1 = .ok (.ifCond .lt 8, 3) := by decide +kernel
theorem dX11_back_9 : decode cX11_back 9 = .ok (.bipush (-2), 2) := by decide +kernel
theorem dX11_back_11 : decode cX11_back 11 = .ok (.ireturn, 1) := by decide +kernel
theorem dX11_back_4 : decode cX11_back 4 = .ok (.iload_n 1, 1) := by decide +kernel
theorem dX11_back_5 : decode cX11_back 5 = .ok (.iconst 3, 1) := by decide +kernel
theorem dX11_back_6 : decode cX11_back 6 = .ok (.if_icmp .lt 6, 3) := by decide +kernel
theorem dX11_back_12 : decode cX11_back 12 = .ok (.aload_n 0, 1) := by decide +kernel
theorem dX11_back_13 : decode cX11_back 13 = .ok (.getfield 37, 3) := by decide +kernel
theorem dX11_back_16 : decode cX11_back 16 = .ok (.iload_n 1, 1) := by decide +kernel
theorem dX11_back_17 : decode cX11_back 17 = .ok (.baload, 1) := by decide +kernel
theorem dX11_back_18 : decode cX11_back 18 = .ok (.ifCond .ne 6, 3) := by decide +kernel
theorem dX11_back_21 : decode cX11_back 21 = .ok (.bipush (-6), 2) := by decide +kernel
theorem dX11_back_23 : decode cX11_back 23 = .ok (.ireturn, 1) := by decide +kernel
theorem dX11_write_0 : decode cX11_write 0 = .ok (.iload_n 1, 1) := by decide +kernel
theorem dX11_write_1 : decode cX11_write 1 = .ok (.invokestatic 389, 3) := by decide +kernel
theorem dX11_write_4 : decode cX11_write 4 = .ok (.ifCond .ne 6, 3) := by decide +kernel
theorem dX11_write_10 : decode cX11_write 10 = .ok (.aload_n 0, 1) := by decide +kernel
theorem dX11_write_11 : decode cX11_write 11 = .ok (.getfield 85, 3) := by decide +kernel
theorem dX11_write_14 : decode cX11_write 14 = .ok (.iload_n 1, 1) := by decide +kernel
theorem dX11_write_15 : decode cX11_write 15 = .ok (.invokevirtual 395, 3) := by decide +kernel
theorem dX11_write_18 : decode cX11_write 18 = .ok (.ifCond .ne 6, 3) := by decide +kernel
theorem dX11_write_21 : decode cX11_write 21 = .ok (.bipush (-6), 2) := by decide +kernel
theorem dX11_write_23 : decode cX11_write 23 = .ok (.ireturn, 1) := by decide +kernel
theorem dX11_write_7 : decode cX11_write 7 = .ok (.bipush (-2), 2) := by decide +kernel
theorem dX11_write_9 : decode cX11_write 9 = .ok (.ireturn, 1) := by decide +kernel
theorem dX11_paste_0 : decode cX11_paste 0 = .ok (.iload_n 1, 1) := by decide +kernel
theorem dX11_paste_1 : decode cX11_paste 1 = .ok (.invokestatic 389, 3) := by decide +kernel
theorem dX11_paste_4 : decode cX11_paste 4 = .ok (.ifCond .eq 10, 3) := by decide +kernel
theorem dX11_paste_7 : decode cX11_paste 7 = .ok (.iload_n 3, 1) := by decide +kernel
theorem dX11_paste_8 : decode cX11_paste 8 = .ok (.invokestatic 389, 3) := by decide +kernel
theorem dX11_paste_11 : decode cX11_paste 11 = .ok (.ifCond .ne 6, 3) := by decide +kernel
theorem dX11_paste_17 : decode cX11_paste 17 = .ok (.aload_n 0, 1) := by decide +kernel
theorem dX11_paste_18 : decode cX11_paste 18 = .ok (.getfield 85, 3) := by decide +kernel
theorem dX11_paste_21 : decode cX11_paste 21 = .ok (.iload_n 1, 1) := by decide +kernel
theorem dX11_paste_22 : decode cX11_paste 22 = .ok (.invokevirtual 395, 3) := by decide +kernel
theorem dX11_paste_25 : decode cX11_paste 25 = .ok (.ifCond .eq 14, 3) := by decide +kernel
theorem dX11_paste_39 : decode cX11_paste 39 = .ok (.bipush (-6), 2) := by decide +kernel
theorem dX11_paste_41 : decode cX11_paste 41 = .ok (.ireturn, 1) := by decide +kernel
theorem dX11_paste_14 : decode cX11_paste 14 = .ok (.bipush (-2), 2) := by decide +kernel
theorem dX11_paste_16 : decode cX11_paste 16 = .ok (.ireturn, 1) := by decide +kernel
theorem q483 : Cond.fieldLink "EbbWreck$Slots" 20 "EbbWreck$Slots" "sizes" "[I" ∈ lw_g := mg (List.mem_of_getElem? (i := 483) (by decide +kernel)) rfl
theorem q869 : Cond.code ⟨"EbbWreck$Slots", "hasRow", "(I)Z"⟩ prog_10_method_3_code 2 (some .boolean) ∈ lw_g := mg (List.mem_of_getElem? (i := 869) (by decide +kernel)) rfl
theorem q867 : Cond.instanceMethod ⟨"EbbWreck$Slots", "hasRow", "(I)Z"⟩ ∈ lw_g := mg (List.mem_of_getElem? (i := 867) (by decide +kernel)) rfl
theorem q868 : Cond.selects "EbbWreck$Slots" ⟨"EbbWreck$Slots", "hasRow", "(I)Z"⟩ ⟨"EbbWreck$Slots", "hasRow", "(I)Z"⟩ ∈ lw_g := mg (List.mem_of_getElem? (i := 868) (by decide +kernel)) rfl
theorem q124 : Cond.initialized "EbbWreck$Slots" ∈ lw_g := mg (List.mem_of_getElem? (i := 124) (by decide +kernel)) rfl
theorem q866 : Cond.methodLink "EbbWreck$Slots" 29 ⟨"EbbWreck$Slots", "hasRow", "(I)Z"⟩ ∈ lw_g := mg (List.mem_of_getElem? (i := 866) (by decide +kernel)) rfl
theorem q503 : Cond.fieldLink "EbbWreck$Floats" 26 "EbbWreck$Floats" "fittingCount" "I" ∈ lw_g := mg (List.mem_of_getElem? (i := 503) (by decide +kernel)) rfl
theorem q1201 : Cond.code ⟨"EbbWreck$Slots", "isSlot", "(I)Z"⟩ prog_10_method_2_code 1 (some .boolean) ∈ lw_g := mg (List.mem_of_getElem? (i := 1201) (by decide +kernel)) rfl
theorem q1200 : Cond.static ⟨"EbbWreck$Slots", "isSlot", "(I)Z"⟩ ∈ lw_g := mg (List.mem_of_getElem? (i := 1200) (by decide +kernel)) rfl
theorem q1199 : Cond.methodLink "EbbWreck$Floats" 30 ⟨"EbbWreck$Slots", "isSlot", "(I)Z"⟩ ∈ lw_g := mg (List.mem_of_getElem? (i := 1199) (by decide +kernel)) rfl
theorem q500 : Cond.fieldLink "EbbWreck$Floats" 18 "EbbWreck$Floats" "coast" "LEbbWreck$Coast;" ∈ lw_g := mg (List.mem_of_getElem? (i := 500) (by decide +kernel)) rfl
theorem q1202 : Cond.methodLink "EbbWreck$Floats" 36 ⟨"EbbWreck$Coast", "isTold", "()Z"⟩ ∈ lw_g := mg (List.mem_of_getElem? (i := 1202) (by decide +kernel)) rfl
theorem q530 : Cond.fieldLink "EbbWreck" 94 "EbbWreck" "floats" "LEbbWreck$Floats;" ∈ lw_g := mg (List.mem_of_getElem? (i := 530) (by decide +kernel)) rfl
theorem q1198 : Cond.code ⟨"EbbWreck$Floats", "collect", "(I)I"⟩ prog_5_method_4_code 4 (some .int) ∈ lw_g := mg (List.mem_of_getElem? (i := 1198) (by decide +kernel)) rfl
theorem q1196 : Cond.instanceMethod ⟨"EbbWreck$Floats", "collect", "(I)I"⟩ ∈ lw_g := mg (List.mem_of_getElem? (i := 1196) (by decide +kernel)) rfl
theorem q1197 : Cond.selects "EbbWreck$Floats" ⟨"EbbWreck$Floats", "collect", "(I)I"⟩ ⟨"EbbWreck$Floats", "collect", "(I)I"⟩ ∈ lw_g := mg (List.mem_of_getElem? (i := 1197) (by decide +kernel)) rfl
theorem q126 : Cond.initialized "EbbWreck$Floats" ∈ lw_g := mg (List.mem_of_getElem? (i := 126) (by decide +kernel)) rfl
theorem q1195 : Cond.methodLink "EbbWreck" 316 ⟨"EbbWreck$Floats", "collect", "(I)I"⟩ ∈ lw_g := mg (List.mem_of_getElem? (i := 1195) (by decide +kernel)) rfl
theorem q517 : Cond.fieldLink "EbbWreck" 13 "EbbWreck" "tapeSize" "I" ∈ lw_g := mg (List.mem_of_getElem? (i := 517) (by decide +kernel)) rfl
theorem q519 : Cond.fieldLink "EbbWreck" 20 "EbbWreck" "faultPlace" "I" ∈ lw_g := mg (List.mem_of_getElem? (i := 519) (by decide +kernel)) rfl
theorem q518 : Cond.fieldLink "EbbWreck" 17 "EbbWreck" "faultKind" "I" ∈ lw_g := mg (List.mem_of_getElem? (i := 518) (by decide +kernel)) rfl
theorem q523 : Cond.fieldLink "EbbWreck" 37 "EbbWreck" "kept" "[Z" ∈ lw_g := mg (List.mem_of_getElem? (i := 523) (by decide +kernel)) rfl
theorem q1433 : Cond.methodLink "EbbWreck" 389 ⟨"EbbWreck$Slots", "isSlot", "(I)Z"⟩ ∈ lw_g := mg (List.mem_of_getElem? (i := 1433) (by decide +kernel)) rfl
theorem q529 : Cond.fieldLink "EbbWreck" 85 "EbbWreck" "slots" "LEbbWreck$Slots;" ∈ lw_g := mg (List.mem_of_getElem? (i := 529) (by decide +kernel)) rfl
theorem q1445 : Cond.methodLink "EbbWreck" 395 ⟨"EbbWreck$Slots", "hasRow", "(I)Z"⟩ ∈ lw_g := mg (List.mem_of_getElem? (i := 1445) (by decide +kernel)) rfl
theorem mX8_hasRow : CmV "EbbWreck$Slots" yX8_hasRow cX8_hasRow 2 (some .boolean) 1 := ⟨q867, q868, q124, q869, ⟨rfl, by decide, by decide, by decide +kernel⟩⟩
theorem mX8_isSlot : CmS yX8_isSlot cX8_isSlot 1 (some .boolean) 1 := ⟨q1200, q124, q1201, ⟨by decide, by decide, by decide +kernel⟩⟩
theorem mX3_collect : CmV "EbbWreck$Floats" yX3_collect cX3_collect 4 (some .int) 1 := ⟨q1196, q1197, q126, q1198, ⟨rfl, by decide, by decide, by decide +kernel⟩⟩
end
section
set_option maxHeartbeats 4000000 in
set_option maxRecDepth 100000 in
theorem uX8_isSlot (l : Launch) (g : GG) (ad : Nat → Nat) (N : Nat) (hD : Dj ad N) (S : SS) (a1 : Int32) : Met l yX8_isSlot (wG (.code yX8_isSlot cX8_isSlot 1 (some .boolean))) (Rm 0) (XPre g ad N S [.int a1]) (va_Qi (fun r S' => S = S' ∧ ((r = 1 ∧ ¬ a1 < 0 ∧ ¬ 4 ≤ a1) ∨ (r = 0 ∧ (a1 < 0 ∨ 4 ≤ a1)))) (QB g ad N) (FA ad N)) 0 0 (FA ad N) := by
  refine xmet cX8_isSlot "EbbWreck$Slots" (by decide) rfl (Nat.le_of_ble_eq_true rfl) (fun p e s m below meth c E hr hlk hml hQ ls hl => ?_)
  have hx := E.1
  have hb := E.2.1
  have hs : Sp ad N (FA ad N) := Sp.fa hD
  have hl : lv_has ls 1 [(0, .int a1)] := hl
  refine lv_iload_n hx hb dX8_isSlot_0 rfl (lv_at hl 0 rfl) ?_
  refine lv_if_lt (tgt := 13) hx hb dX8_isSlot_1 (by decide) (fun k_1 => ?_) (fun k_1 => ?_)
  · refine lv_iconst (v := 0) hx hb dX8_isSlot_13 (by decide) ?_
    exact xrz E hr hlk hQ rfl (⟨rfl, Or.inr ⟨rfl, Or.inl k_1⟩⟩) dX8_isSlot_14
  · refine lv_iload_n hx hb dX8_isSlot_4 rfl (lv_at hl 0 rfl) ?_
    refine lv_iconst (v := 4) hx hb dX8_isSlot_5 (by decide) ?_
    refine lv_icmp_ge (tgt := 13) hx hb dX8_isSlot_6 (by decide) (fun k_2 => ?_) (fun k_2 => ?_)
    · refine lv_iconst (v := 0) hx hb dX8_isSlot_13 (by decide) ?_
      exact xrz E hr hlk hQ rfl (⟨rfl, Or.inr ⟨rfl, Or.inr k_2⟩⟩) dX8_isSlot_14
    · refine lv_iconst (v := 1) hx hb dX8_isSlot_9 (by decide) ?_
      refine lv_goto (tgt := 14) hx hb dX8_isSlot_10 (by decide) ?_
      exact xrz E hr hlk hQ rfl (⟨rfl, Or.inl ⟨rfl, k_1, k_2⟩⟩) dX8_isSlot_14
set_option maxHeartbeats 4000000 in
set_option maxRecDepth 100000 in
theorem fX8_hasRow (l : Launch) (g : GG) (ad : Nat → Nat) (hD : Dj ad 122) (S : SS) (a1 : Int32) (hi : vp_in a1 4) (h111 : S 111 = .inr (8, [.ref (ad 112), .ref (ad 117), .ref (ad 118)])) (h118 : S 118 = .inl (g.2 0, 4, .inl szF)) : Met l yX8_hasRow (wG (.code yX8_hasRow cX8_hasRow 2 (some .boolean))) (Rm 0) (XPre g ad 122 S [.ref (ad 111), .int a1]) (va_Qi (fun r S' => (∀ j, j ∉ ([] : List Nat) → S' j = S j) ∧ r = 0) (QB g ad 122) (FA ad 122)) 0 0 (FA ad 122) := by
  refine xmet cX8_hasRow "EbbWreck$Slots" (by decide) rfl (Nat.le_of_ble_eq_true rfl) (fun p e s m below meth c E hr hlk hml hQ ls hl => ?_)
  have hx := E.1
  have hb := E.2.1
  have hs : Sp ad 122 (FA ad 122) := Sp.fa hD
  have hl : lv_has ls 2 [(0, .ref (ad 111)), (1, .int a1)] := hl
  refine lv_aload_n hx hb dX8_hasRow_0 rfl (lv_at hl 0 rfl) ?_
  refine xget E hQ 111 (by decide) h111 rfl 2 (by decide) q483 rfl dX8_hasRow_1 ?_
  refine lv_iload_n hx hb dX8_hasRow_4 rfl (lv_at hl 1 rfl) ?_
  refine xiald E hQ 118 (by decide) h118 hi dX8_hasRow_5 ?_
  refine sb_at (P := fun z => W _ _ _ _ _ _ _ _ _ _ _ _ _ _ _ (F0 _ _ _ (.int z :: _))) (show szF (a1 : Int32).toNatClampNeg = (-1) from szF_at hi) ?_
  refine lv_iconst (v := (-1)) hx hb dX8_hasRow_6 (by decide) ?_
  refine lv_icmp_eq (tgt := 14) hx hb dX8_hasRow_7 (by decide) (fun k_1 => ?_) (fun k_1 => absurd k_1 (by decide))
  refine lv_iconst (v := 0) hx hb dX8_hasRow_14 (by decide) ?_
  exact xrz E hr hlk hQ rfl (⟨fun j hj => rfl, rfl⟩) dX8_hasRow_15
set_option maxHeartbeats 4000000 in
set_option maxRecDepth 100000 in
theorem fX8_filled (l : Launch) (g : GG) (ad : Nat → Nat) (hD : Dj ad 122) (S : SS) (hX : ∀ i, i < 122 → S i = X0 g ad i) : Met l yX8_filled (wG (.code yX8_filled cX8_filled 3 (some .int))) (Rm 1) (XPre g ad 122 S [.ref (ad 111)]) (va_Qi (fun r _ => r = 0) (QB g ad 122) (FA ad 122)) 0 0 (FA ad 122) := by
  refine xmet cX8_filled "EbbWreck$Slots" (by decide) rfl (Nat.le_of_ble_eq_true rfl) (fun p e s m below meth c E hr hlk hml hQ ls hl => ?_)
  have hx := E.1
  have hb := E.2.1
  have hs : Sp ad 122 (FA ad 122) := Sp.fa hD
  have hl : lv_has ls 3 [(0, .ref (ad 111))] := hl
  refine lv_iconst (v := 0) hx hb dX8_filled_0 (by decide) ?_
  refine lv_istore_n (lv' := [(1, .int 0), (0, .ref (ad 111))]) hx hb dX8_filled_1 rfl hl (by decide) rfl (fun ls hl => ?_)
  refine lv_iconst (v := 0) hx hb dX8_filled_2 (by decide) ?_
  refine lv_istore_n (lv' := [(2, .int 0), (1, .int 0), (0, .ref (ad 111))]) hx hb dX8_filled_3 rfl hl (by decide) rfl (fun ls hl => ?_)
  refine lv_iload_n hx hb dX8_filled_4 rfl (lv_at hl 0 rfl) ?_
  refine lv_iconst (v := 4) hx hb dX8_filled_5 (by decide) ?_
  refine lv_icmp_ge (tgt := 26) hx hb dX8_filled_6 (by decide) (fun k_1 => absurd k_1 (by decide)) (fun k_1 => ?_)
  refine lv_aload_n hx hb dX8_filled_9 rfl (lv_at hl 2 rfl) ?_
  refine lv_iload_n hx hb dX8_filled_10 rfl (lv_at hl 0 rfl) ?_
  have c_2 : S 111 = .inr (8, [.ref (ad 112), .ref (ad 117), .ref (ad 118)]) := (hX 111 (by decide))
  have c_3 : S 118 = .inl (g.2 0, 4, .inl szF) := (hX 118 (by decide))
  refine xcVi E hs hQ hml hl.1 111 (fX8_hasRow l g ad hD S 0 (vp_in_lit 0 4 (by decide)) c_2 c_3) mX8_hasRow q866 (by decide) c_2 rfl rfl ⟨by decide, by decide⟩ ⟨by decide, by decide⟩ (by decide) rfl dX8_filled_11 (fun r4 S4 H locs hp4 hQ _ => ?_)
  obtain ⟨o4, rfl⟩ := hp4
  refine lv_if_eq (tgt := 20) hx hb dX8_filled_14 (by decide) (fun k_5 => ?_) (fun k_5 => absurd k_5 (by decide))
  refine lv_iinc (v := 1) (lv' := [(2, .int 1), (1, .int 0), (0, .ref (ad 111))]) hx hb dX8_filled_20 hl (k := 0) rfl (by decide) (by decide) rfl (fun ls hl => ?_)
  refine lv_goto (tgt := 4) hx hb dX8_filled_23 (by decide) ?_
  refine lv_iload_n hx hb dX8_filled_4 rfl (lv_at hl 0 rfl) ?_
  refine lv_iconst (v := 4) hx hb dX8_filled_5 (by decide) ?_
  refine lv_icmp_ge (tgt := 26) hx hb dX8_filled_6 (by decide) (fun k_6 => absurd k_6 (by decide)) (fun k_6 => ?_)
  refine lv_aload_n hx hb dX8_filled_9 rfl (lv_at hl 2 rfl) ?_
  refine lv_iload_n hx hb dX8_filled_10 rfl (lv_at hl 0 rfl) ?_
  have c_7 : S4 111 = .inr (8, [.ref (ad 112), .ref (ad 117), .ref (ad 118)]) := ((o4 111 (by decide)).trans c_2)
  have c_8 : S4 118 = .inl (g.2 0, 4, .inl szF) := ((o4 118 (by decide)).trans c_3)
  refine xcVi E hs hQ hml hl.1 111 (fX8_hasRow l g ad hD S4 1 (vp_in_lit 1 4 (by decide)) c_7 c_8) mX8_hasRow q866 (by decide) c_7 rfl rfl ⟨by decide, by decide⟩ ⟨by decide, by decide⟩ (by decide) rfl dX8_filled_11 (fun r9 S9 H locs hp9 hQ _ => ?_)
  obtain ⟨o9, rfl⟩ := hp9
  refine lv_if_eq (tgt := 20) hx hb dX8_filled_14 (by decide) (fun k_10 => ?_) (fun k_10 => absurd k_10 (by decide))
  refine lv_iinc (v := 2) (lv' := [(2, .int 2), (1, .int 0), (0, .ref (ad 111))]) hx hb dX8_filled_20 hl (k := 0) rfl (by decide) (by decide) rfl (fun ls hl => ?_)
  refine lv_goto (tgt := 4) hx hb dX8_filled_23 (by decide) ?_
  refine lv_iload_n hx hb dX8_filled_4 rfl (lv_at hl 0 rfl) ?_
  refine lv_iconst (v := 4) hx hb dX8_filled_5 (by decide) ?_
  refine lv_icmp_ge (tgt := 26) hx hb dX8_filled_6 (by decide) (fun k_11 => absurd k_11 (by decide)) (fun k_11 => ?_)
  refine lv_aload_n hx hb dX8_filled_9 rfl (lv_at hl 2 rfl) ?_
  refine lv_iload_n hx hb dX8_filled_10 rfl (lv_at hl 0 rfl) ?_
  have c_12 : S9 111 = .inr (8, [.ref (ad 112), .ref (ad 117), .ref (ad 118)]) := ((o9 111 (by decide)).trans c_7)
  have c_13 : S9 118 = .inl (g.2 0, 4, .inl szF) := ((o9 118 (by decide)).trans c_8)
  refine xcVi E hs hQ hml hl.1 111 (fX8_hasRow l g ad hD S9 2 (vp_in_lit 2 4 (by decide)) c_12 c_13) mX8_hasRow q866 (by decide) c_12 rfl rfl ⟨by decide, by decide⟩ ⟨by decide, by decide⟩ (by decide) rfl dX8_filled_11 (fun r14 S14 H locs hp14 hQ _ => ?_)
  obtain ⟨o14, rfl⟩ := hp14
  refine lv_if_eq (tgt := 20) hx hb dX8_filled_14 (by decide) (fun k_15 => ?_) (fun k_15 => absurd k_15 (by decide))
  refine lv_iinc (v := 3) (lv' := [(2, .int 3), (1, .int 0), (0, .ref (ad 111))]) hx hb dX8_filled_20 hl (k := 0) rfl (by decide) (by decide) rfl (fun ls hl => ?_)
  refine lv_goto (tgt := 4) hx hb dX8_filled_23 (by decide) ?_
  refine lv_iload_n hx hb dX8_filled_4 rfl (lv_at hl 0 rfl) ?_
  refine lv_iconst (v := 4) hx hb dX8_filled_5 (by decide) ?_
  refine lv_icmp_ge (tgt := 26) hx hb dX8_filled_6 (by decide) (fun k_16 => absurd k_16 (by decide)) (fun k_16 => ?_)
  refine lv_aload_n hx hb dX8_filled_9 rfl (lv_at hl 2 rfl) ?_
  refine lv_iload_n hx hb dX8_filled_10 rfl (lv_at hl 0 rfl) ?_
  have c_17 : S14 111 = .inr (8, [.ref (ad 112), .ref (ad 117), .ref (ad 118)]) := ((o14 111 (by decide)).trans c_12)
  have c_18 : S14 118 = .inl (g.2 0, 4, .inl szF) := ((o14 118 (by decide)).trans c_13)
  refine xcVi E hs hQ hml hl.1 111 (fX8_hasRow l g ad hD S14 3 (vp_in_lit 3 4 (by decide)) c_17 c_18) mX8_hasRow q866 (by decide) c_17 rfl rfl ⟨by decide, by decide⟩ ⟨by decide, by decide⟩ (by decide) rfl dX8_filled_11 (fun r19 S19 H locs hp19 hQ _ => ?_)
  obtain ⟨o19, rfl⟩ := hp19
  refine lv_if_eq (tgt := 20) hx hb dX8_filled_14 (by decide) (fun k_20 => ?_) (fun k_20 => absurd k_20 (by decide))
  refine lv_iinc (v := 4) (lv' := [(2, .int 4), (1, .int 0), (0, .ref (ad 111))]) hx hb dX8_filled_20 hl (k := 0) rfl (by decide) (by decide) rfl (fun ls hl => ?_)
  refine lv_goto (tgt := 4) hx hb dX8_filled_23 (by decide) ?_
  refine lv_iload_n hx hb dX8_filled_4 rfl (lv_at hl 0 rfl) ?_
  refine lv_iconst (v := 4) hx hb dX8_filled_5 (by decide) ?_
  refine lv_icmp_ge (tgt := 26) hx hb dX8_filled_6 (by decide) (fun k_21 => ?_) (fun k_21 => absurd k_21 (by decide))
  refine lv_iload_n hx hb dX8_filled_26 rfl (lv_at hl 1 rfl) ?_
  exact xri E hr hlk hQ (rfl) dX8_filled_27
set_option maxHeartbeats 4000000 in
set_option maxRecDepth 100000 in
theorem fX3_collect (l : Launch) (g : GG) (ad : Nat → Nat) (hD : Dj ad 122) (S : SS) (hX : ∀ i, i < 122 → S i = X0 g ad i) (a1 : Int32) : Met l yX3_collect (wG (.code yX3_collect cX3_collect 4 (some .int))) (Rm 1) (XPre g ad 122 S [.ref (ad 119), .int a1]) (va_Qi (fun r _ => r = (-2)) (QB g ad 122) (FA ad 122)) 0 0 (FA ad 122) := by
  refine xmet cX3_collect "EbbWreck$Floats" (by decide) rfl (Nat.le_of_ble_eq_true rfl) (fun p e s m below meth c E hr hlk hml hQ ls hl => ?_)
  have hx := E.1
  have hb := E.2.1
  have hs : Sp ad 122 (FA ad 122) := Sp.fa hD
  have hl : lv_has ls 4 [(0, .ref (ad 119)), (1, .int a1)] := hl
  refine lv_aload_n hx hb dX3_collect_0 rfl (lv_at hl 0 rfl) ?_
  refine lv_iconst (v := 0) hx hb dX3_collect_1 (by decide) ?_
  have c_1 : S 119 = .inr (3, [.ref (ad 2), .ref (ad 111), .ref (ad 120), .int 0, .ref (ad 121)]) := (hX 119 (by decide))
  refine xputi E hs hQ 119 (by decide) c_1 rfl 3 (by decide) q503 rfl rfl (Nat.le_of_ble_eq_true rfl) dX3_collect_2 (fun H locs S2 e2 hQ => ?_)
  have hX : ∀ i, i < 122 → S2 i = X0 g ad i := same_up hX e2 rfl
  refine lv_iload_n hx hb dX3_collect_5 rfl (lv_at hl 1 rfl) ?_
  refine xcSi E hs hQ hml hl.1 (uX8_isSlot l g ad _ hD S2 a1) mX8_isSlot q1199 rfl ⟨by decide, by decide⟩ ⟨by decide, by decide⟩ (by decide) rfl dX3_collect_6 (fun r3 S3 H locs hp3 hQ => ?_)
  obtain ⟨rfl, hp3⟩ := hp3
  rcases hp3 with ⟨rfl, i3, j3⟩ | ⟨rfl, i3⟩
  · refine lv_if_eq (tgt := 22) hx hb dX3_collect_9 (by decide) (fun k_4 => absurd k_4 (by decide)) (fun k_4 => ?_)
    refine lv_aload_n hx hb dX3_collect_12 rfl (lv_at hl 0 rfl) ?_
    have c_5 : S2 119 = .inr (3, [.ref (ad 2), .ref (ad 111), .ref (ad 120), .int 0, .ref (ad 121)]) := (hX 119 (by decide))
    refine xget E hQ 119 (by decide) c_5 rfl 0 (by decide) q500 rfl dX3_collect_13 ?_
    have c_6 : S2 2 = .inr (1, [.int 0, .int 0, .int 0, .ref (ad 3), .ref (ad 5), .ref (ad 6), .int 0, .int 0, .ref (ad 7), .ref (ad 8), .ref (ad 9), .ref (ad 10), .int 0, .ref (ad 15), .ref (ad 16)]) := (hX 2 (by decide))
    refine xcVi E hs hQ hml hl.1 2 (fX1_isTold l g ad hD S2 hX ) mX1_isTold q1202 (by decide) c_6 rfl rfl ⟨by decide, by decide⟩ ⟨by decide, by decide⟩ (by decide) rfl dX3_collect_16 (fun r7 S7 H locs hp7 hQ _ => ?_)
    obtain ⟨rfl, rfl⟩ := hp7
    refine lv_if_ne (tgt := 25) hx hb dX3_collect_19 (by decide) (fun k_8 => absurd k_8 (by decide)) (fun k_8 => ?_)
    refine lv_bipush (v := (-2)) hx hb dX3_collect_22 (by decide) ?_
    exact xri E hr hlk hQ (rfl) dX3_collect_24
  · refine lv_if_eq (tgt := 22) hx hb dX3_collect_9 (by decide) (fun k_9 => ?_) (fun k_9 => absurd k_9 (by decide))
    refine lv_bipush (v := (-2)) hx hb dX3_collect_22 (by decide) ?_
    exact xri E hr hlk hQ (rfl) dX3_collect_24
set_option maxHeartbeats 4000000 in
set_option maxRecDepth 100000 in
theorem fX11_fits (l : Launch) (g : GG) (ad : Nat → Nat) (hD : Dj ad 122) (S : SS) (hX : ∀ i, i < 122 → S i = X0 g ad i) (a1 : Int32) : Met l yX11_fits (wG (.code yX11_fits cX11_fits 2 (some .int))) (Rm 2) (XPre g ad 122 S [.ref (ad 0), .int a1]) (va_Qi (fun r _ => r = (-2)) (QB g ad 122) (FA ad 122)) 0 0 (FA ad 122) := by
  refine xmet cX11_fits "EbbWreck" (by decide) rfl (Nat.le_of_ble_eq_true rfl) (fun p e s m below meth c E hr hlk hml hQ ls hl => ?_)
  have hx := E.1
  have hb := E.2.1
  have hs : Sp ad 122 (FA ad 122) := Sp.fa hD
  have hl : lv_has ls 2 [(0, .ref (ad 0)), (1, .int a1)] := hl
  refine lv_aload_n hx hb dX11_fits_0 rfl (lv_at hl 0 rfl) ?_
  have c_1 : S 0 = .inr (11, [.ref (ad 1), .int 0, .int 0, .int (-1), .ref (ad 2), .ref (ad 20), .ref (ad 38), .ref (ad 93), .ref (ad 94), .ref (ad 95), .ref (ad 102), .ref (ad 104), .ref (ad 107), .ref (ad 111), .ref (ad 119)]) := (hX 0 (by decide))
  refine xget E hQ 0 (by decide) c_1 rfl 14 (by decide) q530 rfl dX11_fits_1 ?_
  refine lv_iload_n hx hb dX11_fits_4 rfl (lv_at hl 1 rfl) ?_
  have c_2 : S 119 = .inr (3, [.ref (ad 2), .ref (ad 111), .ref (ad 120), .int 0, .ref (ad 121)]) := (hX 119 (by decide))
  refine xcVi E hs hQ hml hl.1 119 (fX3_collect l g ad hD S hX a1) mX3_collect q1195 (by decide) c_2 rfl rfl ⟨by decide, by decide⟩ ⟨by decide, by decide⟩ (by decide) rfl dX11_fits_5 (fun r3 S3 H locs hp3 hQ _ => ?_)
  subst hp3
  exact xri E hr hlk hQ (rfl) dX11_fits_8
set_option maxHeartbeats 4000000 in
set_option maxRecDepth 100000 in
theorem fX11_fit (l : Launch) (g : GG) (ad : Nat → Nat) (hD : Dj ad 122) (S : SS) (hX : ∀ i, i < 122 → S i = X0 g ad i) (a1 : Int32) (a2 : Int32) : Met l yX11_fit (wG (.code yX11_fit cX11_fit 3 (some .int))) (Rm 2) (XPre g ad 122 S [.ref (ad 0), .int a1, .int a2]) (va_Qi (fun r _ => r = (-1000)) (QB g ad 122) (FA ad 122)) 0 0 (FA ad 122) := by
  refine xmet cX11_fit "EbbWreck" (by decide) rfl (Nat.le_of_ble_eq_true rfl) (fun p e s m below meth c E hr hlk hml hQ ls hl => ?_)
  have hx := E.1
  have hb := E.2.1
  have hs : Sp ad 122 (FA ad 122) := Sp.fa hD
  have hl : lv_has ls 3 [(0, .ref (ad 0)), (1, .int a1), (2, .int a2)] := hl
  refine lv_aload_n hx hb dX11_fit_0 rfl (lv_at hl 0 rfl) ?_
  have c_1 : S 0 = .inr (11, [.ref (ad 1), .int 0, .int 0, .int (-1), .ref (ad 2), .ref (ad 20), .ref (ad 38), .ref (ad 93), .ref (ad 94), .ref (ad 95), .ref (ad 102), .ref (ad 104), .ref (ad 107), .ref (ad 111), .ref (ad 119)]) := (hX 0 (by decide))
  refine xget E hQ 0 (by decide) c_1 rfl 14 (by decide) q530 rfl dX11_fit_1 ?_
  refine lv_iload_n hx hb dX11_fit_4 rfl (lv_at hl 1 rfl) ?_
  have c_2 : S 119 = .inr (3, [.ref (ad 2), .ref (ad 111), .ref (ad 120), .int 0, .ref (ad 121)]) := (hX 119 (by decide))
  refine xcVi E hs hQ hml hl.1 119 (fX3_collect l g ad hD S hX a1) mX3_collect q1195 (by decide) c_2 rfl rfl ⟨by decide, by decide⟩ ⟨by decide, by decide⟩ (by decide) rfl dX11_fit_5 (fun r3 S3 H locs hp3 hQ _ => ?_)
  subst hp3
  refine lv_iconst (v := 1) hx hb dX11_fit_8 (by decide) ?_
  refine lv_icmp_ge (tgt := 16) hx hb dX11_fit_9 (by decide) (fun k_4 => absurd k_4 (by decide)) (fun k_4 => ?_)
  refine lv_sipush (v := (-1000)) hx hb dX11_fit_12 (by decide) ?_
  exact xri E hr hlk hQ (rfl) dX11_fit_15
set_option maxHeartbeats 4000000 in
set_option maxRecDepth 100000 in
theorem fX11_ask (l : Launch) (g : GG) (ad : Nat → Nat) (hD : Dj ad 122) (S : SS) (hX : ∀ i, i < 122 → S i = X0 g ad i) (a1 : Int32) : Met l yX11_ask (wG (.code yX11_ask cX11_ask 3 (some .int))) (Rm 2) (XPre g ad 122 S [.ref (ad 0), .int a1]) (va_Qi (fun r _ => r = (-2)) (QB g ad 122) (FA ad 122)) 0 0 (FA ad 122) := by
  refine xmet cX11_ask "EbbWreck" (by decide) rfl (Nat.le_of_ble_eq_true rfl) (fun p e s m below meth c E hr hlk hml hQ ls hl => ?_)
  have hx := E.1
  have hb := E.2.1
  have hs : Sp ad 122 (FA ad 122) := Sp.fa hD
  have hl : lv_has ls 3 [(0, .ref (ad 0)), (1, .int a1)] := hl
  refine lv_aload_n hx hb dX11_ask_0 rfl (lv_at hl 0 rfl) ?_
  have c_1 : S 0 = .inr (11, [.ref (ad 1), .int 0, .int 0, .int (-1), .ref (ad 2), .ref (ad 20), .ref (ad 38), .ref (ad 93), .ref (ad 94), .ref (ad 95), .ref (ad 102), .ref (ad 104), .ref (ad 107), .ref (ad 111), .ref (ad 119)]) := (hX 0 (by decide))
  refine xget E hQ 0 (by decide) c_1 rfl 14 (by decide) q530 rfl dX11_ask_1 ?_
  refine lv_iload_n hx hb dX11_ask_4 rfl (lv_at hl 1 rfl) ?_
  have c_2 : S 119 = .inr (3, [.ref (ad 2), .ref (ad 111), .ref (ad 120), .int 0, .ref (ad 121)]) := (hX 119 (by decide))
  refine xcVi E hs hQ hml hl.1 119 (fX3_collect l g ad hD S hX a1) mX3_collect q1195 (by decide) c_2 rfl rfl ⟨by decide, by decide⟩ ⟨by decide, by decide⟩ (by decide) rfl dX11_ask_5 (fun r3 S3 H locs hp3 hQ _ => ?_)
  subst hp3
  refine lv_istore_n (lv' := [(2, .int (-2)), (0, .ref (ad 0)), (1, .int a1)]) hx hb dX11_ask_8 rfl hl (by decide) rfl (fun ls hl => ?_)
  refine lv_iload_n hx hb dX11_ask_9 rfl (lv_at hl 0 rfl) ?_
  refine lv_if_ge (tgt := 17) hx hb dX11_ask_10 (by decide) (fun k_4 => absurd k_4 (by decide)) (fun k_4 => ?_)
  refine lv_iload_n hx hb dX11_ask_13 rfl (lv_at hl 0 rfl) ?_
  refine lv_goto (tgt := 24) hx hb dX11_ask_14 (by decide) ?_
  exact xri E hr hlk hQ (rfl) dX11_ask_24
set_option maxHeartbeats 4000000 in
set_option maxRecDepth 100000 in
theorem fX11_leaves (l : Launch) (g : GG) (ad : Nat → Nat) (hD : Dj ad 122) (S : SS) (hX : ∀ i, i < 122 → S i = X0 g ad i) (a1 : Int32) : Met l yX11_leaves (wG (.code yX11_leaves cX11_leaves 4 (some .int))) (Rm 2) (XPre g ad 122 S [.ref (ad 0), .int a1]) (va_Qi (fun r _ => r = (-2)) (QB g ad 122) (FA ad 122)) 0 0 (FA ad 122) := by
  refine xmet cX11_leaves "EbbWreck" (by decide) rfl (Nat.le_of_ble_eq_true rfl) (fun p e s m below meth c E hr hlk hml hQ ls hl => ?_)
  have hx := E.1
  have hb := E.2.1
  have hs : Sp ad 122 (FA ad 122) := Sp.fa hD
  have hl : lv_has ls 4 [(0, .ref (ad 0)), (1, .int a1)] := hl
  refine lv_aload_n hx hb dX11_leaves_0 rfl (lv_at hl 0 rfl) ?_
  have c_1 : S 0 = .inr (11, [.ref (ad 1), .int 0, .int 0, .int (-1), .ref (ad 2), .ref (ad 20), .ref (ad 38), .ref (ad 93), .ref (ad 94), .ref (ad 95), .ref (ad 102), .ref (ad 104), .ref (ad 107), .ref (ad 111), .ref (ad 119)]) := (hX 0 (by decide))
  refine xget E hQ 0 (by decide) c_1 rfl 14 (by decide) q530 rfl dX11_leaves_1 ?_
  refine lv_iload_n hx hb dX11_leaves_4 rfl (lv_at hl 1 rfl) ?_
  have c_2 : S 119 = .inr (3, [.ref (ad 2), .ref (ad 111), .ref (ad 120), .int 0, .ref (ad 121)]) := (hX 119 (by decide))
  refine xcVi E hs hQ hml hl.1 119 (fX3_collect l g ad hD S hX a1) mX3_collect q1195 (by decide) c_2 rfl rfl ⟨by decide, by decide⟩ ⟨by decide, by decide⟩ (by decide) rfl dX11_leaves_5 (fun r3 S3 H locs hp3 hQ _ => ?_)
  subst hp3
  refine lv_istore_n (lv' := [(2, .int (-2)), (0, .ref (ad 0)), (1, .int a1)]) hx hb dX11_leaves_8 rfl hl (by decide) rfl (fun ls hl => ?_)
  refine lv_iload_n hx hb dX11_leaves_9 rfl (lv_at hl 0 rfl) ?_
  refine lv_if_ge (tgt := 15) hx hb dX11_leaves_10 (by decide) (fun k_4 => absurd k_4 (by decide)) (fun k_4 => ?_)
  refine lv_iload_n hx hb dX11_leaves_13 rfl (lv_at hl 0 rfl) ?_
  exact xri E hr hlk hQ (rfl) dX11_leaves_14
set_option maxHeartbeats 4000000 in
set_option maxRecDepth 100000 in
theorem fX11_end (l : Launch) (g : GG) (ad : Nat → Nat) (hD : Dj ad 122) (S : SS) (hX : ∀ i, i < 122 → S i = X0 g ad i) (a1 : Int32) : Met l yX11_end (wG (.code yX11_end cX11_end 2 (some .int))) (Rm 0) (XPre g ad 122 S [.ref (ad 0), .int a1]) (va_Qi (fun r _ => r = ansEnd a1) (QB g ad 122) (FA ad 122)) 0 0 (FA ad 122) := by
  refine xmet cX11_end "EbbWreck" (by decide) rfl (Nat.le_of_ble_eq_true rfl) (fun p e s m below meth c E hr hlk hml hQ ls hl => ?_)
  have hx := E.1
  have hb := E.2.1
  have hs : Sp ad 122 (FA ad 122) := Sp.fa hD
  have hl : lv_has ls 2 [(0, .ref (ad 0)), (1, .int a1)] := hl
  refine lv_iload_n hx hb dX11_end_0 rfl (lv_at hl 1 rfl) ?_
  refine lv_if_lt (tgt := 12) hx hb dX11_end_1 (by decide) (fun k_1 => ?_) (fun k_1 => ?_)
  · refine lv_iconst (v := (-1)) hx hb dX11_end_12 (by decide) ?_
    exact xri E hr hlk hQ (by try simp only [i32_lt, i32_le, i32_eq, i64_lt, i64_le, w64, l_0, l_1, l_2, l_3, l_4, l_60, l_m1, L_0, L_2, L_3, L_9] at k_1; unfold ansEnd; (repeat' split) <;> first | rfl | omega) dX11_end_13
  · refine lv_iload_n hx hb dX11_end_4 rfl (lv_at hl 1 rfl) ?_
    refine lv_aload_n hx hb dX11_end_5 rfl (lv_at hl 0 rfl) ?_
    have c_2 : S 0 = .inr (11, [.ref (ad 1), .int 0, .int 0, .int (-1), .ref (ad 2), .ref (ad 20), .ref (ad 38), .ref (ad 93), .ref (ad 94), .ref (ad 95), .ref (ad 102), .ref (ad 104), .ref (ad 107), .ref (ad 111), .ref (ad 119)]) := (hX 0 (by decide))
    refine xget E hQ 0 (by decide) c_2 rfl 1 (by decide) q517 rfl dX11_end_6 ?_
    refine lv_icmp_le (tgt := 14) hx hb dX11_end_9 (by decide) (fun k_3 => ?_) (fun k_3 => ?_)
    · refine lv_aload_n hx hb dX11_end_14 rfl (lv_at hl 0 rfl) ?_
      refine lv_iload_n hx hb dX11_end_15 rfl (lv_at hl 1 rfl) ?_
      refine xputi E hs hQ 0 (by decide) c_2 rfl 1 (by decide) q517 rfl rfl (Nat.le_of_ble_eq_true rfl) dX11_end_16 (fun H locs S4 e4 hQ => ?_)
      have u4 : S4 0 = .inr (11, [.ref (ad 1), .int a1, .int 0, .int (-1), .ref (ad 2), .ref (ad 20), .ref (ad 38), .ref (ad 93), .ref (ad 94), .ref (ad 95), .ref (ad 102), .ref (ad 104), .ref (ad 107), .ref (ad 111), .ref (ad 119)]) := up_at e4 rfl
      refine lv_iload_n hx hb dX11_end_19 rfl (lv_at hl 1 rfl) ?_
      exact xri E hr hlk hQ (by try simp only [i32_lt, i32_le, i32_eq, i64_lt, i64_le, w64, l_0, l_1, l_2, l_3, l_4, l_60, l_m1, L_0, L_2, L_3, L_9] at k_1; try simp only [i32_lt, i32_le, i32_eq, i64_lt, i64_le, w64, l_0, l_1, l_2, l_3, l_4, l_60, l_m1, L_0, L_2, L_3, L_9] at k_3; unfold ansEnd; (repeat' split) <;> first | rfl | omega) dX11_end_20
    · refine lv_iconst (v := (-1)) hx hb dX11_end_12 (by decide) ?_
      exact xri E hr hlk hQ (by try simp only [i32_lt, i32_le, i32_eq, i64_lt, i64_le, w64, l_0, l_1, l_2, l_3, l_4, l_60, l_m1, L_0, L_2, L_3, L_9] at k_1; try simp only [i32_lt, i32_le, i32_eq, i64_lt, i64_le, w64, l_0, l_1, l_2, l_3, l_4, l_60, l_m1, L_0, L_2, L_3, L_9] at k_3; unfold ansEnd; (repeat' split) <;> first | rfl | omega) dX11_end_13
set_option maxHeartbeats 4000000 in
set_option maxRecDepth 100000 in
theorem fX11_fault (l : Launch) (g : GG) (ad : Nat → Nat) (hD : Dj ad 122) (S : SS) (hX : ∀ i, i < 122 → S i = X0 g ad i) (a1 : Int32) : Met l yX11_fault (wG (.code yX11_fault cX11_fault 2 (some .int))) (Rm 0) (XPre g ad 122 S [.ref (ad 0), .int a1]) (va_Qi (fun r _ => r = ansFault a1) (QB g ad 122) (FA ad 122)) 0 0 (FA ad 122) := by
  refine xmet cX11_fault "EbbWreck" (by decide) rfl (Nat.le_of_ble_eq_true rfl) (fun p e s m below meth c E hr hlk hml hQ ls hl => ?_)
  have hx := E.1
  have hb := E.2.1
  have hs : Sp ad 122 (FA ad 122) := Sp.fa hD
  have hl : lv_has ls 2 [(0, .ref (ad 0)), (1, .int a1)] := hl
  refine lv_iload_n hx hb dX11_fault_0 rfl (lv_at hl 1 rfl) ?_
  refine lv_if_ne (tgt := 9) hx hb dX11_fault_1 (by decide) (fun k_1 => ?_) (fun k_1 => ?_)
  · refine lv_iload_n hx hb dX11_fault_9 rfl (lv_at hl 1 rfl) ?_
    refine lv_iconst (v := 1) hx hb dX11_fault_10 (by decide) ?_
    refine lv_icmp_ne (tgt := 21) hx hb dX11_fault_11 (by decide) (fun k_2 => ?_) (fun k_2 => ?_)
    · refine lv_iconst (v := (-1)) hx hb dX11_fault_21 (by decide) ?_
      exact xri E hr hlk hQ (by try simp only [i32_lt, i32_le, i32_eq, i64_lt, i64_le, w64, l_0, l_1, l_2, l_3, l_4, l_60, l_m1, L_0, L_2, L_3, L_9] at k_1; try simp only [i32_lt, i32_le, i32_eq, i64_lt, i64_le, w64, l_0, l_1, l_2, l_3, l_4, l_60, l_m1, L_0, L_2, L_3, L_9] at k_2; unfold ansFault; (repeat' split) <;> first | rfl | omega) dX11_fault_22
    · refine lv_aload_n hx hb dX11_fault_14 rfl (lv_at hl 0 rfl) ?_
      have c_3 : S 0 = .inr (11, [.ref (ad 1), .int 0, .int 0, .int (-1), .ref (ad 2), .ref (ad 20), .ref (ad 38), .ref (ad 93), .ref (ad 94), .ref (ad 95), .ref (ad 102), .ref (ad 104), .ref (ad 107), .ref (ad 111), .ref (ad 119)]) := (hX 0 (by decide))
      refine xget E hQ 0 (by decide) c_3 rfl 3 (by decide) q519 rfl dX11_fault_15 ?_
      refine lv_goto (tgt := 22) hx hb dX11_fault_18 (by decide) ?_
      exact xri E hr hlk hQ (by try simp only [i32_lt, i32_le, i32_eq, i64_lt, i64_le, w64, l_0, l_1, l_2, l_3, l_4, l_60, l_m1, L_0, L_2, L_3, L_9] at k_1; try simp only [i32_lt, i32_le, i32_eq, i64_lt, i64_le, w64, l_0, l_1, l_2, l_3, l_4, l_60, l_m1, L_0, L_2, L_3, L_9] at k_2; unfold ansFault; (repeat' split) <;> first | rfl | omega) dX11_fault_22
  · refine lv_aload_n hx hb dX11_fault_4 rfl (lv_at hl 0 rfl) ?_
    have c_4 : S 0 = .inr (11, [.ref (ad 1), .int 0, .int 0, .int (-1), .ref (ad 2), .ref (ad 20), .ref (ad 38), .ref (ad 93), .ref (ad 94), .ref (ad 95), .ref (ad 102), .ref (ad 104), .ref (ad 107), .ref (ad 111), .ref (ad 119)]) := (hX 0 (by decide))
    refine xget E hQ 0 (by decide) c_4 rfl 2 (by decide) q518 rfl dX11_fault_5 ?_
    exact xri E hr hlk hQ (by try simp only [i32_lt, i32_le, i32_eq, i64_lt, i64_le, w64, l_0, l_1, l_2, l_3, l_4, l_60, l_m1, L_0, L_2, L_3, L_9] at k_1; unfold ansFault; (repeat' split) <;> first | rfl | omega) dX11_fault_8
set_option maxHeartbeats 4000000 in
set_option maxRecDepth 100000 in
theorem fX11_back (l : Launch) (g : GG) (ad : Nat → Nat) (hD : Dj ad 122) (S : SS) (hX : ∀ i, i < 122 → S i = X0 g ad i) (a1 : Int32) : Met l yX11_back (wG (.code yX11_back cX11_back 2 (some .int))) (Rm 0) (XPre g ad 122 S [.ref (ad 0), .int a1]) (va_Qi (fun r _ => r = ansBack a1) (QB g ad 122) (FA ad 122)) 0 0 (FA ad 122) := by
  refine xmet cX11_back "EbbWreck" (by decide) rfl (Nat.le_of_ble_eq_true rfl) (fun p e s m below meth c E hr hlk hml hQ ls hl => ?_)
  have hx := E.1
  have hb := E.2.1
  have hs : Sp ad 122 (FA ad 122) := Sp.fa hD
  have hl : lv_has ls 2 [(0, .ref (ad 0)), (1, .int a1)] := hl
  refine lv_iload_n hx hb dX11_back_0 rfl (lv_at hl 1 rfl) ?_
  refine lv_if_lt (tgt := 9) hx hb dX11_back_1 (by decide) (fun k_1 => ?_) (fun k_1 => ?_)
  · refine lv_bipush (v := (-2)) hx hb dX11_back_9 (by decide) ?_
    exact xri E hr hlk hQ (by try simp only [i32_lt, i32_le, i32_eq, i64_lt, i64_le, w64, l_0, l_1, l_2, l_3, l_4, l_60, l_m1, L_0, L_2, L_3, L_9] at k_1; unfold ansBack; (repeat' split) <;> first | rfl | omega) dX11_back_11
  · refine lv_iload_n hx hb dX11_back_4 rfl (lv_at hl 1 rfl) ?_
    refine lv_iconst (v := 3) hx hb dX11_back_5 (by decide) ?_
    refine lv_icmp_lt (tgt := 12) hx hb dX11_back_6 (by decide) (fun k_2 => ?_) (fun k_2 => ?_)
    · refine lv_aload_n hx hb dX11_back_12 rfl (lv_at hl 0 rfl) ?_
      have c_3 : S 0 = .inr (11, [.ref (ad 1), .int 0, .int 0, .int (-1), .ref (ad 2), .ref (ad 20), .ref (ad 38), .ref (ad 93), .ref (ad 94), .ref (ad 95), .ref (ad 102), .ref (ad 104), .ref (ad 107), .ref (ad 111), .ref (ad 119)]) := (hX 0 (by decide))
      refine xget E hQ 0 (by decide) c_3 rfl 7 (by decide) q523 rfl dX11_back_13 ?_
      refine lv_iload_n hx hb dX11_back_16 rfl (lv_at hl 1 rfl) ?_
      have c_4 : S 93 = .inl (g.2 3, 3, .inl zf) := (hX 93 (by decide))
      refine xzald E hQ 93 (by decide) c_4 (vp_in_of2 k_1 (Int32.not_le.mpr k_2) (by decide)) dX11_back_17 ?_
      refine sb_at (P := fun z => W _ _ _ _ _ _ _ _ _ _ _ _ _ _ _ (F0 _ _ _ (.int z :: _))) (show zf (a1 : Int32).toNatClampNeg = 0 from rfl) ?_
      refine lv_if_ne (tgt := 24) hx hb dX11_back_18 (by decide) (fun k_5 => absurd k_5 (by decide)) (fun k_5 => ?_)
      refine lv_bipush (v := (-6)) hx hb dX11_back_21 (by decide) ?_
      exact xri E hr hlk hQ (by try simp only [i32_lt, i32_le, i32_eq, i64_lt, i64_le, w64, l_0, l_1, l_2, l_3, l_4, l_60, l_m1, L_0, L_2, L_3, L_9] at k_1; try simp only [i32_lt, i32_le, i32_eq, i64_lt, i64_le, w64, l_0, l_1, l_2, l_3, l_4, l_60, l_m1, L_0, L_2, L_3, L_9] at k_2; unfold ansBack; (repeat' split) <;> first | rfl | omega) dX11_back_23
    · refine lv_bipush (v := (-2)) hx hb dX11_back_9 (by decide) ?_
      exact xri E hr hlk hQ (by try simp only [i32_lt, i32_le, i32_eq, i64_lt, i64_le, w64, l_0, l_1, l_2, l_3, l_4, l_60, l_m1, L_0, L_2, L_3, L_9] at k_1; try simp only [i32_lt, i32_le, i32_eq, i64_lt, i64_le, w64, l_0, l_1, l_2, l_3, l_4, l_60, l_m1, L_0, L_2, L_3, L_9] at k_2; unfold ansBack; (repeat' split) <;> first | rfl | omega) dX11_back_11
set_option maxHeartbeats 4000000 in
set_option maxRecDepth 100000 in
theorem fX11_write (l : Launch) (g : GG) (ad : Nat → Nat) (hD : Dj ad 122) (S : SS) (hX : ∀ i, i < 122 → S i = X0 g ad i) (a1 : Int32) (a2 : Int32) (a3 : Int64) : Met l yX11_write (wG (.code yX11_write cX11_write 5 (some .int))) (Rm 1) (XPre g ad 122 S [.ref (ad 0), .int a1, .int a2, .long a3]) (va_Qi (fun r _ => r = ansWrite a1) (QB g ad 122) (FA ad 122)) 0 0 (FA ad 122) := by
  refine xmet cX11_write "EbbWreck" (by decide) rfl (Nat.le_of_ble_eq_true rfl) (fun p e s m below meth c E hr hlk hml hQ ls hl => ?_)
  have hx := E.1
  have hb := E.2.1
  have hs : Sp ad 122 (FA ad 122) := Sp.fa hD
  have hl : lv_has ls 5 [(0, .ref (ad 0)), (1, .int a1), (2, .int a2), (3, .long a3)] := hl
  refine lv_iload_n hx hb dX11_write_0 rfl (lv_at hl 1 rfl) ?_
  refine xcSi E hs hQ hml hl.1 (uX8_isSlot l g ad _ hD S a1) mX8_isSlot q1433 rfl ⟨by decide, by decide⟩ ⟨by decide, by decide⟩ (by decide) rfl dX11_write_1 (fun r1 S1 H locs hp1 hQ => ?_)
  obtain ⟨rfl, hp1⟩ := hp1
  rcases hp1 with ⟨rfl, i1, j1⟩ | ⟨rfl, i1⟩
  · refine lv_if_ne (tgt := 10) hx hb dX11_write_4 (by decide) (fun k_2 => ?_) (fun k_2 => absurd k_2 (by decide))
    refine lv_aload_n hx hb dX11_write_10 rfl (lv_at hl 0 rfl) ?_
    have c_3 : S 0 = .inr (11, [.ref (ad 1), .int 0, .int 0, .int (-1), .ref (ad 2), .ref (ad 20), .ref (ad 38), .ref (ad 93), .ref (ad 94), .ref (ad 95), .ref (ad 102), .ref (ad 104), .ref (ad 107), .ref (ad 111), .ref (ad 119)]) := (hX 0 (by decide))
    refine xget E hQ 0 (by decide) c_3 rfl 13 (by decide) q529 rfl dX11_write_11 ?_
    refine lv_iload_n hx hb dX11_write_14 rfl (lv_at hl 1 rfl) ?_
    have c_4 : S 111 = .inr (8, [.ref (ad 112), .ref (ad 117), .ref (ad 118)]) := (hX 111 (by decide))
    have c_5 : S 118 = .inl (g.2 0, 4, .inl szF) := (hX 118 (by decide))
    refine xcVi E hs hQ hml hl.1 111 (fX8_hasRow l g ad hD S a1 (vp_in_of2 i1 j1 (by decide)) c_4 c_5) mX8_hasRow q1445 (by decide) c_4 rfl rfl ⟨by decide, by decide⟩ ⟨by decide, by decide⟩ (by decide) rfl dX11_write_15 (fun r6 S6 H locs hp6 hQ _ => ?_)
    obtain ⟨o6, rfl⟩ := hp6
    refine lv_if_ne (tgt := 24) hx hb dX11_write_18 (by decide) (fun k_7 => absurd k_7 (by decide)) (fun k_7 => ?_)
    refine lv_bipush (v := (-6)) hx hb dX11_write_21 (by decide) ?_
    exact xri E hr hlk hQ (by try simp only [i32_lt, i32_le, i32_eq, i64_lt, i64_le, w64, l_0, l_1, l_2, l_3, l_4, l_60, l_m1, L_0, L_2, L_3, L_9] at i1; try simp only [i32_lt, i32_le, i32_eq, i64_lt, i64_le, w64, l_0, l_1, l_2, l_3, l_4, l_60, l_m1, L_0, L_2, L_3, L_9] at j1; unfold ansWrite; (repeat' split) <;> first | rfl | omega) dX11_write_23
  · refine lv_if_ne (tgt := 10) hx hb dX11_write_4 (by decide) (fun k_8 => absurd k_8 (by decide)) (fun k_8 => ?_)
    refine lv_bipush (v := (-2)) hx hb dX11_write_7 (by decide) ?_
    exact xri E hr hlk hQ (by try simp only [i32_lt, i32_le, i32_eq, i64_lt, i64_le, w64, l_0, l_1, l_2, l_3, l_4, l_60, l_m1, L_0, L_2, L_3, L_9] at i1; unfold ansWrite; (repeat' split) <;> first | rfl | omega) dX11_write_9
set_option maxHeartbeats 4000000 in
set_option maxRecDepth 100000 in
theorem fX11_paste (l : Launch) (g : GG) (ad : Nat → Nat) (hD : Dj ad 122) (S : SS) (hX : ∀ i, i < 122 → S i = X0 g ad i) (a1 : Int32) (a2 : Int32) (a3 : Int32) (a4 : Int32) (a5 : Int32) : Met l yX11_paste (wG (.code yX11_paste cX11_paste 6 (some .int))) (Rm 1) (XPre g ad 122 S [.ref (ad 0), .int a1, .int a2, .int a3, .int a4, .int a5]) (va_Qi (fun r _ => r = ansPaste a1 a3) (QB g ad 122) (FA ad 122)) 0 0 (FA ad 122) := by
  refine xmet cX11_paste "EbbWreck" (by decide) rfl (Nat.le_of_ble_eq_true rfl) (fun p e s m below meth c E hr hlk hml hQ ls hl => ?_)
  have hx := E.1
  have hb := E.2.1
  have hs : Sp ad 122 (FA ad 122) := Sp.fa hD
  have hl : lv_has ls 6 [(0, .ref (ad 0)), (1, .int a1), (2, .int a2), (3, .int a3), (4, .int a4), (5, .int a5)] := hl
  refine lv_iload_n hx hb dX11_paste_0 rfl (lv_at hl 1 rfl) ?_
  refine xcSi E hs hQ hml hl.1 (uX8_isSlot l g ad _ hD S a1) mX8_isSlot q1433 rfl ⟨by decide, by decide⟩ ⟨by decide, by decide⟩ (by decide) rfl dX11_paste_1 (fun r1 S1 H locs hp1 hQ => ?_)
  obtain ⟨rfl, hp1⟩ := hp1
  rcases hp1 with ⟨rfl, i1, j1⟩ | ⟨rfl, i1⟩
  · refine lv_if_eq (tgt := 14) hx hb dX11_paste_4 (by decide) (fun k_2 => absurd k_2 (by decide)) (fun k_2 => ?_)
    refine lv_iload_n hx hb dX11_paste_7 rfl (lv_at hl 3 rfl) ?_
    refine xcSi E hs hQ hml hl.1 (uX8_isSlot l g ad _ hD S a3) mX8_isSlot q1433 rfl ⟨by decide, by decide⟩ ⟨by decide, by decide⟩ (by decide) rfl dX11_paste_8 (fun r3 S3 H locs hp3 hQ => ?_)
    obtain ⟨rfl, hp3⟩ := hp3
    rcases hp3 with ⟨rfl, i3, j3⟩ | ⟨rfl, i3⟩
    · refine lv_if_ne (tgt := 17) hx hb dX11_paste_11 (by decide) (fun k_4 => ?_) (fun k_4 => absurd k_4 (by decide))
      refine lv_aload_n hx hb dX11_paste_17 rfl (lv_at hl 0 rfl) ?_
      have c_5 : S 0 = .inr (11, [.ref (ad 1), .int 0, .int 0, .int (-1), .ref (ad 2), .ref (ad 20), .ref (ad 38), .ref (ad 93), .ref (ad 94), .ref (ad 95), .ref (ad 102), .ref (ad 104), .ref (ad 107), .ref (ad 111), .ref (ad 119)]) := (hX 0 (by decide))
      refine xget E hQ 0 (by decide) c_5 rfl 13 (by decide) q529 rfl dX11_paste_18 ?_
      refine lv_iload_n hx hb dX11_paste_21 rfl (lv_at hl 1 rfl) ?_
      have c_6 : S 111 = .inr (8, [.ref (ad 112), .ref (ad 117), .ref (ad 118)]) := (hX 111 (by decide))
      have c_7 : S 118 = .inl (g.2 0, 4, .inl szF) := (hX 118 (by decide))
      refine xcVi E hs hQ hml hl.1 111 (fX8_hasRow l g ad hD S a1 (vp_in_of2 i1 j1 (by decide)) c_6 c_7) mX8_hasRow q1445 (by decide) c_6 rfl rfl ⟨by decide, by decide⟩ ⟨by decide, by decide⟩ (by decide) rfl dX11_paste_22 (fun r8 S8 H locs hp8 hQ _ => ?_)
      obtain ⟨o8, rfl⟩ := hp8
      refine lv_if_eq (tgt := 39) hx hb dX11_paste_25 (by decide) (fun k_9 => ?_) (fun k_9 => absurd k_9 (by decide))
      refine lv_bipush (v := (-6)) hx hb dX11_paste_39 (by decide) ?_
      exact xri E hr hlk hQ (by try simp only [i32_lt, i32_le, i32_eq, i64_lt, i64_le, w64, l_0, l_1, l_2, l_3, l_4, l_60, l_m1, L_0, L_2, L_3, L_9] at i1; try simp only [i32_lt, i32_le, i32_eq, i64_lt, i64_le, w64, l_0, l_1, l_2, l_3, l_4, l_60, l_m1, L_0, L_2, L_3, L_9] at j1; try simp only [i32_lt, i32_le, i32_eq, i64_lt, i64_le, w64, l_0, l_1, l_2, l_3, l_4, l_60, l_m1, L_0, L_2, L_3, L_9] at i3; try simp only [i32_lt, i32_le, i32_eq, i64_lt, i64_le, w64, l_0, l_1, l_2, l_3, l_4, l_60, l_m1, L_0, L_2, L_3, L_9] at j3; unfold ansPaste; (repeat' split) <;> first | rfl | omega) dX11_paste_41
    · refine lv_if_ne (tgt := 17) hx hb dX11_paste_11 (by decide) (fun k_10 => absurd k_10 (by decide)) (fun k_10 => ?_)
      refine lv_bipush (v := (-2)) hx hb dX11_paste_14 (by decide) ?_
      exact xri E hr hlk hQ (by try simp only [i32_lt, i32_le, i32_eq, i64_lt, i64_le, w64, l_0, l_1, l_2, l_3, l_4, l_60, l_m1, L_0, L_2, L_3, L_9] at i1; try simp only [i32_lt, i32_le, i32_eq, i64_lt, i64_le, w64, l_0, l_1, l_2, l_3, l_4, l_60, l_m1, L_0, L_2, L_3, L_9] at j1; try simp only [i32_lt, i32_le, i32_eq, i64_lt, i64_le, w64, l_0, l_1, l_2, l_3, l_4, l_60, l_m1, L_0, L_2, L_3, L_9] at i3; unfold ansPaste; (repeat' split) <;> first | rfl | omega) dX11_paste_16
  · refine lv_if_eq (tgt := 14) hx hb dX11_paste_4 (by decide) (fun k_11 => ?_) (fun k_11 => absurd k_11 (by decide))
    refine lv_bipush (v := (-2)) hx hb dX11_paste_14 (by decide) ?_
    exact xri E hr hlk hQ (by try simp only [i32_lt, i32_le, i32_eq, i64_lt, i64_le, w64, l_0, l_1, l_2, l_3, l_4, l_60, l_m1, L_0, L_2, L_3, L_9] at i1; unfold ansPaste; (repeat' split) <;> first | rfl | omega) dX11_paste_16
end
