section
def lw_okq (q : MethodName × Nat) : Prop := (q.1.cls ≠ "java/lang/invoke/MethodHandle" ∧ q.1.cls ≠ "java/lang/invoke/VarHandle") ∧ Cond.instantiable q.1.cls q.2 ∈ tables_1 ∧ Cond.privateMethod q.1 ∈ tables_1 ∧ Cond.instanceMethod q.1 ∈ tables_1
theorem lw_p0 : lw_okq (⟨"Shakerhall", "gatherTyped", "()V"⟩, 8) := ⟨⟨by decide +kernel, by decide +kernel⟩, List.mem_of_getElem? (i := 39) (by decide +kernel), List.mem_of_getElem? (i := 185) (by decide +kernel), List.mem_of_getElem? (i := 186) (by decide +kernel)⟩
theorem lw_p1 : lw_okq (⟨"Shakerhall$Rain", "takeCycles", "(I)I"⟩, 6) := ⟨⟨by decide +kernel, by decide +kernel⟩, List.mem_of_getElem? (i := 76) (by decide +kernel), List.mem_of_getElem? (i := 204) (by decide +kernel), List.mem_of_getElem? (i := 205) (by decide +kernel)⟩
theorem lw_p2 : lw_okq (⟨"Shakerhall$Rain", "span", "(I)I"⟩, 6) := ⟨⟨by decide +kernel, by decide +kernel⟩, List.mem_of_getElem? (i := 76) (by decide +kernel), List.mem_of_getElem? (i := 208) (by decide +kernel), List.mem_of_getElem? (i := 209) (by decide +kernel)⟩
theorem lw_p3 : lw_okq (⟨"java/lang/Throwable", "fillInStackTrace", "(I)Ljava/lang/Throwable;"⟩, 6) := ⟨⟨by decide +kernel, by decide +kernel⟩, List.mem_of_getElem? (i := 322) (by decide +kernel), List.mem_of_getElem? (i := 320) (by decide +kernel), List.mem_of_getElem? (i := 321) (by decide +kernel)⟩
theorem lw_p4 : lw_okq (⟨"java/util/ArrayList", "add", "(Ljava/lang/Object;[Ljava/lang/Object;I)V"⟩, 3) := ⟨⟨by decide +kernel, by decide +kernel⟩, List.mem_of_getElem? (i := 47) (by decide +kernel), List.mem_of_getElem? (i := 394) (by decide +kernel), List.mem_of_getElem? (i := 395) (by decide +kernel)⟩
theorem lw_p5 : lw_okq (⟨"java/util/ArrayList", "grow", "()[Ljava/lang/Object;"⟩, 3) := ⟨⟨by decide +kernel, by decide +kernel⟩, List.mem_of_getElem? (i := 47) (by decide +kernel), List.mem_of_getElem? (i := 398) (by decide +kernel), List.mem_of_getElem? (i := 399) (by decide +kernel)⟩
theorem lw_p6 : lw_okq (⟨"java/util/ArrayList", "grow", "(I)[Ljava/lang/Object;"⟩, 3) := ⟨⟨by decide +kernel, by decide +kernel⟩, List.mem_of_getElem? (i := 47) (by decide +kernel), List.mem_of_getElem? (i := 402) (by decide +kernel), List.mem_of_getElem? (i := 403) (by decide +kernel)⟩
theorem lw_p7 : lw_okq (⟨"Shakerhall", "structureAt", "(I)LShakerhall$Structure;"⟩, 8) := ⟨⟨by decide +kernel, by decide +kernel⟩, List.mem_of_getElem? (i := 39) (by decide +kernel), List.mem_of_getElem? (i := 467) (by decide +kernel), List.mem_of_getElem? (i := 468) (by decide +kernel)⟩
theorem lw_p8 : lw_okq (⟨"Shakerhall$Chain", "pullAll", "(JJ)V"⟩, 11) := ⟨⟨by decide +kernel, by decide +kernel⟩, List.mem_of_getElem? (i := 103) (by decide +kernel), List.mem_of_getElem? (i := 561) (by decide +kernel), List.mem_of_getElem? (i := 562) (by decide +kernel)⟩
theorem lw_p9 : lw_okq (⟨"Shakerhall", "sensorAt", "(I)LShakerhall$Sensor;"⟩, 8) := ⟨⟨by decide +kernel, by decide +kernel⟩, List.mem_of_getElem? (i := 39) (by decide +kernel), List.mem_of_getElem? (i := 653) (by decide +kernel), List.mem_of_getElem? (i := 654) (by decide +kernel)⟩
theorem lw_p10 : lw_okq (⟨"Shakerhall", "specificationAt", "(I)LShakerhall$Specification;"⟩, 8) := ⟨⟨by decide +kernel, by decide +kernel⟩, List.mem_of_getElem? (i := 39) (by decide +kernel), List.mem_of_getElem? (i := 702) (by decide +kernel), List.mem_of_getElem? (i := 703) (by decide +kernel)⟩
theorem lw_p11 : lw_okq (⟨"Shakerhall", "runAt", "(I)LShakerhall$Run;"⟩, 8) := ⟨⟨by decide +kernel, by decide +kernel⟩, List.mem_of_getElem? (i := 39) (by decide +kernel), List.mem_of_getElem? (i := 800) (by decide +kernel), List.mem_of_getElem? (i := 801) (by decide +kernel)⟩
theorem lw_p12 : lw_okq (⟨"Shakerhall$Run", "meanIn", "(I)I"⟩, 15) := ⟨⟨by decide +kernel, by decide +kernel⟩, List.mem_of_getElem? (i := 726) (by decide +kernel), List.mem_of_getElem? (i := 829) (by decide +kernel), List.mem_of_getElem? (i := 830) (by decide +kernel)⟩
theorem lw_p13 : lw_okq (⟨"Shakerhall$Run", "controlIn", "(II)I"⟩, 15) := ⟨⟨by decide +kernel, by decide +kernel⟩, List.mem_of_getElem? (i := 726) (by decide +kernel), List.mem_of_getElem? (i := 833) (by decide +kernel), List.mem_of_getElem? (i := 834) (by decide +kernel)⟩
theorem lw_p14 : lw_okq (⟨"Shakerhall$Run", "greatestIn", "(I)I"⟩, 15) := ⟨⟨by decide +kernel, by decide +kernel⟩, List.mem_of_getElem? (i := 726) (by decide +kernel), List.mem_of_getElem? (i := 839) (by decide +kernel), List.mem_of_getElem? (i := 840) (by decide +kernel)⟩
theorem lw_p15 : lw_okq (⟨"Shakerhall$Run", "leastIn", "(I)I"⟩, 15) := ⟨⟨by decide +kernel, by decide +kernel⟩, List.mem_of_getElem? (i := 726) (by decide +kernel), List.mem_of_getElem? (i := 844) (by decide +kernel), List.mem_of_getElem? (i := 845) (by decide +kernel)⟩
def lw_privs_1 : List (MethodName × Nat) := [(⟨"Shakerhall", "gatherTyped", "()V"⟩, 8), (⟨"Shakerhall$Rain", "takeCycles", "(I)I"⟩, 6), (⟨"Shakerhall$Rain", "span", "(I)I"⟩, 6), (⟨"java/lang/Throwable", "fillInStackTrace", "(I)Ljava/lang/Throwable;"⟩, 6), (⟨"java/util/ArrayList", "add", "(Ljava/lang/Object;[Ljava/lang/Object;I)V"⟩, 3), (⟨"java/util/ArrayList", "grow", "()[Ljava/lang/Object;"⟩, 3), (⟨"java/util/ArrayList", "grow", "(I)[Ljava/lang/Object;"⟩, 3), (⟨"Shakerhall", "structureAt", "(I)LShakerhall$Structure;"⟩, 8), (⟨"Shakerhall$Chain", "pullAll", "(JJ)V"⟩, 11), (⟨"Shakerhall", "sensorAt", "(I)LShakerhall$Sensor;"⟩, 8), (⟨"Shakerhall", "specificationAt", "(I)LShakerhall$Specification;"⟩, 8), (⟨"Shakerhall", "runAt", "(I)LShakerhall$Run;"⟩, 8), (⟨"Shakerhall$Run", "meanIn", "(I)I"⟩, 15), (⟨"Shakerhall$Run", "controlIn", "(II)I"⟩, 15), (⟨"Shakerhall$Run", "greatestIn", "(I)I"⟩, 15), (⟨"Shakerhall$Run", "leastIn", "(I)I"⟩, 15)]
theorem lw_r1 : ∀ q ∈ lw_privs_1, lw_okq q := List.forall_mem_cons.mpr ⟨lw_p0, List.forall_mem_cons.mpr ⟨lw_p1, List.forall_mem_cons.mpr ⟨lw_p2, List.forall_mem_cons.mpr ⟨lw_p3, List.forall_mem_cons.mpr ⟨lw_p4, List.forall_mem_cons.mpr ⟨lw_p5, List.forall_mem_cons.mpr ⟨lw_p6, List.forall_mem_cons.mpr ⟨lw_p7, List.forall_mem_cons.mpr ⟨lw_p8, List.forall_mem_cons.mpr ⟨lw_p9, List.forall_mem_cons.mpr ⟨lw_p10, List.forall_mem_cons.mpr ⟨lw_p11, List.forall_mem_cons.mpr ⟨lw_p12, List.forall_mem_cons.mpr ⟨lw_p13, List.forall_mem_cons.mpr ⟨lw_p14, List.forall_mem_cons.mpr ⟨lw_p15, fun _ h => absurd h List.not_mem_nil⟩⟩⟩⟩⟩⟩⟩⟩⟩⟩⟩⟩⟩⟩⟩⟩
theorem lw_p16 : lw_okq (⟨"Shakerhall$Run", "toleratedOf", "(II)I"⟩, 15) := ⟨⟨by decide +kernel, by decide +kernel⟩, List.mem_of_getElem? (i := 726) (by decide +kernel), List.mem_of_getElem? (i := 873) (by decide +kernel), List.mem_of_getElem? (i := 874) (by decide +kernel)⟩
theorem lw_p17 : lw_okq (⟨"Shakerhall", "checkTyped", "()V"⟩, 8) := ⟨⟨by decide +kernel, by decide +kernel⟩, List.mem_of_getElem? (i := 39) (by decide +kernel), List.mem_of_getElem? (i := 1074) (by decide +kernel), List.mem_of_getElem? (i := 1075) (by decide +kernel)⟩
theorem lw_p18 : lw_okq (⟨"Shakerhall", "shockPlace", "(I)I"⟩, 8) := ⟨⟨by decide +kernel, by decide +kernel⟩, List.mem_of_getElem? (i := 39) (by decide +kernel), List.mem_of_getElem? (i := 1080) (by decide +kernel), List.mem_of_getElem? (i := 1081) (by decide +kernel)⟩
theorem lw_p19 : lw_okq (⟨"ShakerhallModel", "isThrown", "(ZI)Z"⟩, 6) := ⟨⟨by decide +kernel, by decide +kernel⟩, List.mem_of_getElem? (i := 1176) (by decide +kernel), List.mem_of_getElem? (i := 1212) (by decide +kernel), List.mem_of_getElem? (i := 1213) (by decide +kernel)⟩
theorem lw_p20 : lw_okq (⟨"ShakerhallModel", "isNoStructure", "(I)Z"⟩, 6) := ⟨⟨by decide +kernel, by decide +kernel⟩, List.mem_of_getElem? (i := 1176) (by decide +kernel), List.mem_of_getElem? (i := 1254) (by decide +kernel), List.mem_of_getElem? (i := 1255) (by decide +kernel)⟩
theorem lw_p21 : lw_okq (⟨"ShakerhallModel", "isNoMass", "(II)Z"⟩, 6) := ⟨⟨by decide +kernel, by decide +kernel⟩, List.mem_of_getElem? (i := 1176) (by decide +kernel), List.mem_of_getElem? (i := 1266) (by decide +kernel), List.mem_of_getElem? (i := 1267) (by decide +kernel)⟩
theorem lw_p22 : lw_okq (⟨"ShakerhallModel", "response", "(III)I"⟩, 6) := ⟨⟨by decide +kernel, by decide +kernel⟩, List.mem_of_getElem? (i := 1176) (by decide +kernel), List.mem_of_getElem? (i := 1290) (by decide +kernel), List.mem_of_getElem? (i := 1291) (by decide +kernel)⟩
theorem lw_p23 : lw_okq (⟨"ShakerhallModel", "isBare", "(I)Z"⟩, 6) := ⟨⟨by decide +kernel, by decide +kernel⟩, List.mem_of_getElem? (i := 1176) (by decide +kernel), List.mem_of_getElem? (i := 1344) (by decide +kernel), List.mem_of_getElem? (i := 1345) (by decide +kernel)⟩
theorem lw_p24 : lw_okq (⟨"ShakerhallModel", "resonance", "(I)I"⟩, 6) := ⟨⟨by decide +kernel, by decide +kernel⟩, List.mem_of_getElem? (i := 1176) (by decide +kernel), List.mem_of_getElem? (i := 1352) (by decide +kernel), List.mem_of_getElem? (i := 1353) (by decide +kernel)⟩
theorem lw_p25 : lw_okq (⟨"ShakerhallModel", "lastResponse", "(II)I"⟩, 6) := ⟨⟨by decide +kernel, by decide +kernel⟩, List.mem_of_getElem? (i := 1176) (by decide +kernel), List.mem_of_getElem? (i := 1356) (by decide +kernel), List.mem_of_getElem? (i := 1357) (by decide +kernel)⟩
theorem lw_p26 : lw_okq (⟨"ShakerhallModel", "isNoSensor", "(I)Z"⟩, 6) := ⟨⟨by decide +kernel, by decide +kernel⟩, List.mem_of_getElem? (i := 1176) (by decide +kernel), List.mem_of_getElem? (i := 1369) (by decide +kernel), List.mem_of_getElem? (i := 1370) (by decide +kernel)⟩
theorem lw_p27 : lw_okq (⟨"ShakerhallModel", "reads", "(II)I"⟩, 6) := ⟨⟨by decide +kernel, by decide +kernel⟩, List.mem_of_getElem? (i := 1176) (by decide +kernel), List.mem_of_getElem? (i := 1377) (by decide +kernel), List.mem_of_getElem? (i := 1378) (by decide +kernel)⟩
theorem lw_p28 : lw_okq (⟨"ShakerhallModel", "isNoSpecification", "(I)Z"⟩, 6) := ⟨⟨by decide +kernel, by decide +kernel⟩, List.mem_of_getElem? (i := 1176) (by decide +kernel), List.mem_of_getElem? (i := 1395) (by decide +kernel), List.mem_of_getElem? (i := 1396) (by decide +kernel)⟩
theorem lw_p29 : lw_okq (⟨"ShakerhallModel", "sets", "(IIII)I"⟩, 6) := ⟨⟨by decide +kernel, by decide +kernel⟩, List.mem_of_getElem? (i := 1176) (by decide +kernel), List.mem_of_getElem? (i := 1403) (by decide +kernel), List.mem_of_getElem? (i := 1404) (by decide +kernel)⟩
theorem lw_p30 : lw_okq (⟨"ShakerhallModel", "isNoRun", "(I)Z"⟩, 6) := ⟨⟨by decide +kernel, by decide +kernel⟩, List.mem_of_getElem? (i := 1176) (by decide +kernel), List.mem_of_getElem? (i := 1477) (by decide +kernel), List.mem_of_getElem? (i := 1478) (by decide +kernel)⟩
theorem lw_p31 : lw_okq (⟨"ShakerhallModel", "isNoBandOf", "(II)Z"⟩, 6) := ⟨⟨by decide +kernel, by decide +kernel⟩, List.mem_of_getElem? (i := 1176) (by decide +kernel), List.mem_of_getElem? (i := 1542) (by decide +kernel), List.mem_of_getElem? (i := 1543) (by decide +kernel)⟩
def lw_privs_2 : List (MethodName × Nat) := [(⟨"Shakerhall$Run", "toleratedOf", "(II)I"⟩, 15), (⟨"Shakerhall", "checkTyped", "()V"⟩, 8), (⟨"Shakerhall", "shockPlace", "(I)I"⟩, 8), (⟨"ShakerhallModel", "isThrown", "(ZI)Z"⟩, 6), (⟨"ShakerhallModel", "isNoStructure", "(I)Z"⟩, 6), (⟨"ShakerhallModel", "isNoMass", "(II)Z"⟩, 6), (⟨"ShakerhallModel", "response", "(III)I"⟩, 6), (⟨"ShakerhallModel", "isBare", "(I)Z"⟩, 6), (⟨"ShakerhallModel", "resonance", "(I)I"⟩, 6), (⟨"ShakerhallModel", "lastResponse", "(II)I"⟩, 6), (⟨"ShakerhallModel", "isNoSensor", "(I)Z"⟩, 6), (⟨"ShakerhallModel", "reads", "(II)I"⟩, 6), (⟨"ShakerhallModel", "isNoSpecification", "(I)Z"⟩, 6), (⟨"ShakerhallModel", "sets", "(IIII)I"⟩, 6), (⟨"ShakerhallModel", "isNoRun", "(I)Z"⟩, 6), (⟨"ShakerhallModel", "isNoBandOf", "(II)Z"⟩, 6)]
theorem lw_r2 : ∀ q ∈ lw_privs_2, lw_okq q := List.forall_mem_cons.mpr ⟨lw_p16, List.forall_mem_cons.mpr ⟨lw_p17, List.forall_mem_cons.mpr ⟨lw_p18, List.forall_mem_cons.mpr ⟨lw_p19, List.forall_mem_cons.mpr ⟨lw_p20, List.forall_mem_cons.mpr ⟨lw_p21, List.forall_mem_cons.mpr ⟨lw_p22, List.forall_mem_cons.mpr ⟨lw_p23, List.forall_mem_cons.mpr ⟨lw_p24, List.forall_mem_cons.mpr ⟨lw_p25, List.forall_mem_cons.mpr ⟨lw_p26, List.forall_mem_cons.mpr ⟨lw_p27, List.forall_mem_cons.mpr ⟨lw_p28, List.forall_mem_cons.mpr ⟨lw_p29, List.forall_mem_cons.mpr ⟨lw_p30, List.forall_mem_cons.mpr ⟨lw_p31, fun _ h => absurd h List.not_mem_nil⟩⟩⟩⟩⟩⟩⟩⟩⟩⟩⟩⟩⟩⟩⟩⟩
theorem lw_p32 : lw_okq (⟨"ShakerhallModel", "has", "(LShakerhallModel$Run;I)I"⟩, 6) := ⟨⟨by decide +kernel, by decide +kernel⟩, List.mem_of_getElem? (i := 1176) (by decide +kernel), List.mem_of_getElem? (i := 1546) (by decide +kernel), List.mem_of_getElem? (i := 1547) (by decide +kernel)⟩
theorem lw_p33 : lw_okq (⟨"ShakerhallModel", "part", "(LShakerhallModel$Run;II)I"⟩, 6) := ⟨⟨by decide +kernel, by decide +kernel⟩, List.mem_of_getElem? (i := 1176) (by decide +kernel), List.mem_of_getElem? (i := 1551) (by decide +kernel), List.mem_of_getElem? (i := 1552) (by decide +kernel)⟩
theorem lw_p34 : lw_okq (⟨"ShakerhallModel", "due", "(LShakerhallModel$Run;I)I"⟩, 6) := ⟨⟨by decide +kernel, by decide +kernel⟩, List.mem_of_getElem? (i := 1176) (by decide +kernel), List.mem_of_getElem? (i := 1563) (by decide +kernel), List.mem_of_getElem? (i := 1564) (by decide +kernel)⟩
theorem lw_p35 : lw_okq (⟨"ShakerhallModel", "whole", "(LShakerhallModel$Run;I)I"⟩, 6) := ⟨⟨by decide +kernel, by decide +kernel⟩, List.mem_of_getElem? (i := 1176) (by decide +kernel), List.mem_of_getElem? (i := 1567) (by decide +kernel), List.mem_of_getElem? (i := 1568) (by decide +kernel)⟩
theorem lw_p36 : lw_okq (⟨"ShakerhallModel", "isInBand", "(LShakerhallModel$Run;I)Z"⟩, 6) := ⟨⟨by decide +kernel, by decide +kernel⟩, List.mem_of_getElem? (i := 1176) (by decide +kernel), List.mem_of_getElem? (i := 1575) (by decide +kernel), List.mem_of_getElem? (i := 1576) (by decide +kernel)⟩
theorem lw_p37 : lw_okq (⟨"ShakerhallModel", "isAbove", "(LShakerhallModel$Run;)Z"⟩, 6) := ⟨⟨by decide +kernel, by decide +kernel⟩, List.mem_of_getElem? (i := 1176) (by decide +kernel), List.mem_of_getElem? (i := 1588) (by decide +kernel), List.mem_of_getElem? (i := 1589) (by decide +kernel)⟩
theorem lw_p38 : lw_okq (⟨"ShakerhallModel", "hasLoose", "(LShakerhallModel$Run;)Z"⟩, 6) := ⟨⟨by decide +kernel, by decide +kernel⟩, List.mem_of_getElem? (i := 1176) (by decide +kernel), List.mem_of_getElem? (i := 1592) (by decide +kernel), List.mem_of_getElem? (i := 1593) (by decide +kernel)⟩
theorem lw_p39 : lw_okq (⟨"ShakerhallModel", "inBand", "(LShakerhallModel$Run;)I"⟩, 6) := ⟨⟨by decide +kernel, by decide +kernel⟩, List.mem_of_getElem? (i := 1176) (by decide +kernel), List.mem_of_getElem? (i := 1849) (by decide +kernel), List.mem_of_getElem? (i := 1850) (by decide +kernel)⟩
theorem lw_p40 : lw_okq (⟨"ShakerhallModel", "pulse", "(I)I"⟩, 6) := ⟨⟨by decide +kernel, by decide +kernel⟩, List.mem_of_getElem? (i := 1176) (by decide +kernel), List.mem_of_getElem? (i := 1961) (by decide +kernel), List.mem_of_getElem? (i := 1962) (by decide +kernel)⟩
theorem lw_p41 : lw_okq (⟨"java/util/ArrayList", "fastRemove", "([Ljava/lang/Object;I)V"⟩, 3) := ⟨⟨by decide +kernel, by decide +kernel⟩, List.mem_of_getElem? (i := 47) (by decide +kernel), List.mem_of_getElem? (i := 1991) (by decide +kernel), List.mem_of_getElem? (i := 1992) (by decide +kernel)⟩
def lw_privs_3 : List (MethodName × Nat) := [(⟨"ShakerhallModel", "has", "(LShakerhallModel$Run;I)I"⟩, 6), (⟨"ShakerhallModel", "part", "(LShakerhallModel$Run;II)I"⟩, 6), (⟨"ShakerhallModel", "due", "(LShakerhallModel$Run;I)I"⟩, 6), (⟨"ShakerhallModel", "whole", "(LShakerhallModel$Run;I)I"⟩, 6), (⟨"ShakerhallModel", "isInBand", "(LShakerhallModel$Run;I)Z"⟩, 6), (⟨"ShakerhallModel", "isAbove", "(LShakerhallModel$Run;)Z"⟩, 6), (⟨"ShakerhallModel", "hasLoose", "(LShakerhallModel$Run;)Z"⟩, 6), (⟨"ShakerhallModel", "inBand", "(LShakerhallModel$Run;)I"⟩, 6), (⟨"ShakerhallModel", "pulse", "(I)I"⟩, 6), (⟨"java/util/ArrayList", "fastRemove", "([Ljava/lang/Object;I)V"⟩, 3)]
theorem lw_r3 : ∀ q ∈ lw_privs_3, lw_okq q := List.forall_mem_cons.mpr ⟨lw_p32, List.forall_mem_cons.mpr ⟨lw_p33, List.forall_mem_cons.mpr ⟨lw_p34, List.forall_mem_cons.mpr ⟨lw_p35, List.forall_mem_cons.mpr ⟨lw_p36, List.forall_mem_cons.mpr ⟨lw_p37, List.forall_mem_cons.mpr ⟨lw_p38, List.forall_mem_cons.mpr ⟨lw_p39, List.forall_mem_cons.mpr ⟨lw_p40, List.forall_mem_cons.mpr ⟨lw_p41, fun _ h => absurd h List.not_mem_nil⟩⟩⟩⟩⟩⟩⟩⟩⟩⟩
def lw_privs : List (MethodName × Nat) := lw_privs_1 ++ (lw_privs_2 ++ (lw_privs_3))
def lw_tbl : List Cond := k2_sels lw_privs ++ tables_1
theorem lw_privs_ok : ∀ q ∈ lw_privs, lw_okq q := by
  show ∀ q ∈ lw_privs_1 ++ (lw_privs_2 ++ (lw_privs_3)), lw_okq q
  exact List.forall_mem_append.mpr ⟨lw_r1, List.forall_mem_append.mpr ⟨lw_r2, lw_r3⟩⟩
def va_AOA (t : FieldType) (U : State) : Prop := (Cond.arrayOver (.array t)).before #[] U = true
theorem va_AOA.use {t : FieldType} {A : Array Value} {U : State} (h : va_AOA t U) : (Cond.arrayOver (.array t)).before A U = true := h
section VGM
variable {p : Program} {l : Launch} {e : Env} {R : Room} {s : State} {m : MethodId} {args : Array Value} {below : List Frame} {meth : Method} {c : Code} {H : Heap} {locs : List Loc} {cells slots : Nat} {Q : State → Prop}
variable {cc : ByteArray} {pc : Nat} {ls : Array Slot} {rest : List Value} {D : va_G} {cl : List vw_C} {A : Nat → Prop} {a : Nat} {tys : List (ClassId × FieldType)} {ws : va_W} {H0 : Heap}
end VGM
section VXA
section Payer
variable {l : Launch} {R : Room} {p : Program} {e : Env} {below : List Frame} {s : State} {sargs : Array Value} {y : MethodName} {len W9 : Nat}
end Payer
section Calls
variable {p : Program} {l : Launch} {e : Env} {R : Room} {s : State} {m : MethodId} {args : Array Value} {below : List Frame} {meth : Method} {c : Code} {T : State} {locs : List Loc} {cells slots : Nat}
end Calls
section Runs
variable {p : Program} {l : Launch} {e : Env} {R : Room} {s : State} {m : MethodId} {args : Array Value} {below : List Frame} {meth : Method} {c : Code} {H : Heap} {locs : List Loc} {cells slots : Nat}
variable {y : MethodName} {bytes cc : ByteArray} {maxL nL mc ms n index : Nat} {ret : Option FieldType} {ws : List Cond} {rm : Room} {Pc : Array Value → State → Prop} {Qc : Array Value → State → Outcome → State → Prop} {XC : String → State → State → Prop} {free : Addr → Prop} {Ts : List Cond} {own C : String} {b : Addr} {As rest : List Value} {g : JFrame}
end Runs
section Rows
variable {p : Program} {l : Launch} {e : Env} {R : Room} {s : State} {m : MethodId} {args : Array Value} {below : List Frame} {meth : Method} {c : Code} {H : Heap} {locs : List Loc} {cells slots : Nat} {Q : State → Prop}
variable {mc ms : Nat} {free : Addr → Prop} {A0 A1 : Nat → Prop} {H0 : Heap} {a : Array Value} {pc : Nat} {ls : Array Slot} {st0 rest : List Value}
end Rows
section Ends
variable {p : Program} {l : Launch} {e : Env} {R : Room} {s : State} {m : MethodId} {args : Array Value} {below : List Frame} {meth : Method} {c : Code} {H : Heap} {locs : List Loc} {cells slots : Nat} {Q : State → Prop}
variable {mc ms : Nat} {free : Addr → Prop} {A0 A1 : Nat → Prop} {H0 : Heap} {a : Array Value} {ls : Array Slot} {st0 rest : List Value}
variable {Qc : Array Value → State → Outcome → State → Prop} {XC : String → State → State → Prop}
def vx_L (C n d : String) (A : Nat → Prop) (U : State) (H : Heap) : Prop := ∃ (c : ClassId) (k : Class) (i : Nat) (f : Field) (a : Nat) (cell : Cell), U.vm.findClass C = some c ∧ U.fieldFound? C n d = some (c, k, i, f) ∧ f.isStatic = true ∧ k.statics = some a ∧ H[a]? = some cell ∧ cell.vm.isStatics = true ∧ cell.cls = c ∧ f.slot < cell.slots.size ∧ k.staticTypes[f.slot]? = some f.type ∧ ¬ A a
theorem vx_L.moved {C n d : String} {A : Nat → Prop} {u U : State} {H : Heap} (hvm : u.vm.Alike U.vm) (h : vx_L C n d A u H) : vx_L C n d A U H := by
  obtain ⟨c, k, i, f, a, cell, h1, h2, h3, h4, h5, h6, h7, h8, h9, h10⟩ := h
  obtain ⟨k', hi', he⟩ := State.fieldFound?_setVm hvm h2
  exact ⟨c, k', i, f, a, cell, by rw [hvm.findClass]; exact h1, hi', h3, by rw [he]; exact h4, h5, h6, h7, h8, by rw [he]; exact h9, h10⟩
theorem vx_L.kept {C n d : String} {A : Nat → Prop} {U : State} {H H1 : Heap} (h : vx_L C n d A U H) (hq : ∀ a : Nat, a < H.size → ¬ A a → H1[a]? = H[a]?) : vx_L C n d A U H1 := by
  obtain ⟨c, k, i, f, a, cell, h1, h2, h3, h4, h5, h6, h7, h8, h9, h10⟩ := h
  exact ⟨c, k, i, f, a, cell, h1, h2, h3, h4, by rw [hq a (Array.getElem?_eq_some_iff.mp h5).1 h10]; exact h5, h6, h7, h8, h9, h10⟩
theorem vx_L.narrow {C n d : String} {A B : Nat → Prop} {U : State} {H : Heap} (h : vx_L C n d A U H) (hAB : ∀ q, B q → A q) : vx_L C n d B U H := by
  obtain ⟨c, k, i, f, a, cell, h1, h2, h3, h4, h5, h6, h7, h8, h9, h10⟩ := h
  exact ⟨c, k, i, f, a, cell, h1, h2, h3, h4, h5, h6, h7, h8, h9, fun z => h10 (hAB _ z)⟩
def vx_Zq (C n d : String) (A : Nat → Prop) (U : State) (H : Heap) : Prop := va_Zq C n d A U H ∧ vx_L C n d A U H
theorem vx_Zq.moved {C n d : String} {A : Nat → Prop} {u U : State} {H : Heap} (hvm : u.vm.Alike U.vm) (h : vx_Zq C n d A u H) : vx_Zq C n d A U H := ⟨va_Zq.moved hvm h.1, vx_L.moved hvm h.2⟩
theorem vx_Zq.kept {C n d : String} {A : Nat → Prop} {U : State} {H H1 : Heap} (h : vx_Zq C n d A U H) (hq : ∀ a : Nat, a < H.size → ¬ A a → H1[a]? = H[a]?) : vx_Zq C n d A U H1 := ⟨va_Zq.kept h.1 hq, vx_L.kept h.2 hq⟩
theorem vx_Zq.narrow {C n d : String} {A B : Nat → Prop} {U : State} {H : Heap} (h : vx_Zq C n d A U H) (hAB : ∀ q, B q → A q) : vx_Zq C n d B U H := ⟨va_Zq.narrow h.1 hAB, vx_L.narrow h.2 hAB⟩
theorem vx_Zqof {args : Array Value} {s : State} {C n d : String} {A : Nat → Prop} (hl : (Cond.laysStatic C n d).before args s = true) (hini : (Cond.initialized C).before args s = true) (h : (Cond.isRef (.static C n d)).before args s = true) (hA : ∀ a : Nat, a < s.heap.size → ¬ A a) : vx_Zq C n d A s s.heap := by
  refine ⟨va_Zqof hl hini h hA, ?_⟩
  obtain ⟨c, k, i, f, a, cell, h1, h2, h3, h4, h5, h6, h7, h8, h9⟩ := Cond.laysStatic_spec hl
  exact ⟨c, k, i, f, a, cell, h1, h2, h3, h4, h5, h6, h7, h8, h9, hA a (Array.getElem?_eq_some_iff.mp h5).1⟩
end Ends
section Bodies
variable {l : Launch}
theorem vx_table {p : Program} {x y : MethodName} {S : Spec} {cc bytes : ByteArray} {maxL maxL' : Nat} {ret ret' : Option FieldType} {e : Env} {s s₁ : State} {m : MethodId} {args : Array Value} {below : List Frame} {meth : Method} {c : Code} {hh : List (Nat × Nat × Nat × Nat)}
    (B : BodyLoose p l y S cc maxL ret e s m args below meth c s₁) (h : (Cond.codeWith y bytes maxL' ret' hh).before args s = true) : c.exceptionTable.toList = tableOf hh := by
  obtain ⟨m9, meth9, c9, hn9, h1, h2, -, -, h6, -⟩ := Cond.codeWith_spec h
  cases Option.some.inj (hn9.symm.trans B.named)
  cases Option.some.inj (h1.symm.trans B.method)
  cases Option.some.inj (h2.symm.trans (Stand.of_body B).code)
  rw [← h6, table_eq]
end Bodies
end VXA
section VXS
variable {p : Program} {l : Launch} {e : Env} {R : Room} {s : State} {m : MethodId} {args : Array Value} {below : List Frame} {meth : Method} {c : Code} {T : State} {H : Heap} {locs : List Loc} {cells slots : Nat}
abbrev vx_CSW (R : Room) (s : State) (args : Array Value) (own : String) (index : Nat) (y : MethodName) (bytes : ByteArray) (maxL : Nat) (ret : Option FieldType) (hh : List (Nat × Nat × Nat × Nat)) (ws : List Cond) (rm : Room) (mc ms n : Nat) : Prop :=
  (rm.cells = mc ∧ rm.slots = ms ∧ rm.frames + 1 ≤ R.frames ∧ 8 + (maxL + 11) + rm.locals ≤ R.locals ∧ (∀ w ∈ ws, ∀ (a' : Array Value) (U : State), s.WarmedH U.vm → w.before a' U = true) ∧ Cond.codeWith y bytes maxL ret hh ∈ ws) ∧
  (Cond.codeWith y bytes maxL ret hh).before args s = true ∧ (Cond.initialized y.cls).before args s = true ∧ (y.cls ≠ "java/lang/invoke/MethodHandle" ∧ y.cls ≠ "java/lang/invoke/VarHandle") ∧
  (∀ sig, parseMethodDescriptor y.desc = some sig → n = sig.parameters.length) ∧ (Cond.methodLink own index y).before args s = true ∧ (Cond.static y).before args s = true
theorem vx_cwSW {own : String} {index maxL mc ms : Nat} {y : MethodName} {bytes : ByteArray} {ret : Option FieldType} {hh : List (Nat × Nat × Nat × Nat)} {Ts ws ws' : List Cond} {rm : Room} (n : Nat) (ht : ∀ w ∈ Ts, w.before args s = true) (hT : GoodIn Ts (va_wsS own index y ws)) (hw : ws = Cond.codeWith y bytes maxL ret hh :: ws') (hrc : rm.cells = mc) (hrs : rm.slots = ms)
    (hd : y.cls ≠ "java/lang/invoke/MethodHandle" ∧ y.cls ≠ "java/lang/invoke/VarHandle" ∧ (parseMethodDescriptor y.desc).map (fun d => d.parameters.length) = some n) (hR : rm.frames + 1 ≤ R.frames ∧ 8 + (maxL + 11) + rm.locals ≤ R.locals) :
    vx_CSW R s args own index y bytes maxL ret hh ws rm mc ms n := by
  have ok : ∀ w ∈ va_wsS own index y ws, w.before args s = true := fun w h => ht w (hT w h).1
  have hG : GoodIn Ts ws := fun w h => hT w (by unfold va_wsS; exact List.mem_append_right _ h)
  have hc : Cond.codeWith y bytes maxL ret hh ∈ ws := by rw [hw]; exact List.mem_cons_self
  refine ⟨⟨hrc, hrs, hR.1, hR.2, pay_in ht hG, hc⟩, ht _ (hG _ hc).1, ok _ (by simp [va_wsS]), ⟨hd.1, hd.2.1⟩, fun sig h => ?_, ok _ (by simp [va_wsS]), ok _ (by simp [va_wsS])⟩
  have h2 := hd.2.2
  rw [h] at h2
  exact (Option.some.inj h2).symm
theorem vx_callSW (X : Stand p l e R s m args below meth c T locs cells slots) (hexec : p.tables.exec = Jvm.exec) {own : String} {index : Nat} {y : MethodName} {bytes : ByteArray} {maxL : Nat} {ret : Option FieldType} {hh : List (Nat × Nat × Nat × Nat)}
    (hown : s.vm.findClass own = some m.cls) (hlink : (Cond.methodLink own index y).before args s = true) (hstat : (Cond.static y).before args s = true) (hinit : (Cond.initialized y.cls).before args s = true)
    (hcode : (Cond.codeWith y bytes maxL ret hh).before args s = true) (hy : y.cls ≠ "java/lang/invoke/MethodHandle" ∧ y.cls ≠ "java/lang/invoke/VarHandle")
    {W9 : Nat} {Pre : Pt → Array Value → Prop} {Post : Pt → Array Value → Option Value → Pt → Prop} (hK : Back l R p e below s args y 3 W9 Pre Post)
    {g : JFrame} (hg : g.method = m) (hsize : g.locals.size = c.maxLocals) {argsL rest : List Value} (hlen : ∀ sig, parseMethodDescriptor y.desc = some sig → argsL.length = sig.parameters.length)
    (hstack : g.stack = argsL.reverse ++ rest) (hW : 2 * g.monitorRoom + (rest.map fun v => v.category).sum ≤ W9) (hdg : decode c.code g.pc = .ok (.invokestatic index, 3))
    (hpre : ∀ vm₁, s.WarmedH vm₁ → Pre ⟨T.setVm vm₁, locs, cells, slots⟩ argsL.toArray) :
    ∃ (v : Option Value) (vm₁ : Vm) (B : Pt), s.WarmedH vm₁ ∧ Stand p l e R s m args below meth c B.U B.locs B.cells B.slots ∧ Post ⟨T.setVm vm₁, locs, cells, slots⟩ argsL.toArray v B ∧
      ∀ target, Steps p.tables e below (B.U.setTop { g with pc := g.pc + 3, stack := v.toList ++ rest }) target → Steps p.tables e below (T.setTop g) target := by
  obtain ⟨mk, methM, cM, hnamed, hmethM, -, -, -, -, -, -, hsigM⟩ := Cond.codeWith_spec hcode
  have hstatic : methM.isStatic = true := Cond.static_spec hnamed hmethM hstat
  obtain ⟨kP, hkP, -⟩ := className_of_methodNamed hnamed
  have hinitP : kP.init = .initialized := Cond.initialized_spec (findClass_of_methodNamed hnamed) hkP hinit
  obtain ⟨vm₁, X₁, hstep₁⟩ := X.invokestatic hexec hown hlink hnamed hmethM hstatic hkP hinitP hy (g := g) hg (argsL := argsL) (rest := rest) (hlen _ hsigM) hstack hdg
  obtain ⟨v, B, X', hpost, hsteps⟩ := hK m meth c ⟨T.setVm vm₁, locs, cells, slots⟩ { g with stack := rest } (.invokestatic index) mk argsL.toArray X₁ hg hsize hdg hW (X₁.named hnamed) (hpre vm₁ X₁.warmed)
  exact ⟨v, vm₁, B, X₁.warmed, X', hpost, fun target h => hstep₁ _ fun acts => by rw [doInvoke_state]; exact hsteps.trans h⟩
theorem vx_runSW {y : MethodName} {bytes cc : ByteArray} {maxL nL mc ms n index : Nat} {ret : Option FieldType} {hh : List (Nat × Nat × Nat × Nat)} {ws : List Cond} {rm : Room} {Pc : Array Value → State → Prop} {Qc : Array Value → State → Outcome → State → Prop} {free : Addr → Prop} {Ts : List Cond} {own : String} {As rest : List Value} {g : JFrame}
    (S : CallFix p m c cc nL s args Ts own) (hM : Met l y ws rm Pc Qc mc ms free) (cw : vx_CSW R s args own index y bytes maxL ret hh ws rm mc ms n) (hp : PreS s H Pc As)
    (hg : g.method = m) (hn : As.length = n) (hsize : g.locals.size = nL) (hstack : g.stack = As.reverse ++ rest) (hW : 2 * g.monitorRoom + (rest.map fun v => v.category).sum ≤ 8) (hdg : decode cc g.pc = .ok (.invokestatic index, 3)) (hf : cells + mc ≤ R.cells ∧ slots + ms ≤ R.slots) :
    va_Run p l e R s m args below meth c H locs cells slots mc ms g rest (Qc As.toArray) (free) := by
  obtain ⟨⟨hrc, hrs, hfr, hlo, hws, hcw⟩, hcode, hini, hy, hlen, hl, hstt⟩ := cw
  have hK : Back l R p e below s args y 3 8 (PreOf R mc ms Pc) (PostOf Qc mc ms free) := va_backW (hh := hh) (bytes := bytes) (maxL := maxL) (ret := ret) hM hp.1 hrc hrs hfr hlo hws hcw (fun a' U hW => word_at hW (Or.inl (by first | rfl | simp [Cond.onTables, Cond.keeps, Cond.steady])) hini)
  obtain ⟨hx, hb, hml, ho, -⟩ := S
  intro T hT X
  obtain ⟨v, vm₁, ⟨U', l2, c2, s2⟩, hW₁, X', ⟨g', mk, t, L, e1, e2, hq, h1, hL, h2, h3⟩, st⟩ := vx_callSW X hx (hh := hh) (bytes := bytes) (maxL := maxL) (ret := ret) ho hl hstt hini hcode hy hK hg (hsize.trans hml.symm) (argsL := As) (rest := rest) (fun sig h => hn.trans (hlen sig h)) hstack hW (by rw [hb]; exact hdg)
    (fun vm₁ hW₁ => ⟨hf.1, hf.2, hp.2 (T.setVm vm₁) hT hW₁⟩)
  dsimp only [Pt.U, Pt.locs, Pt.cells, Pt.slots] at X' e1 e2 h1 h2 h3 st
  subst h1; subst h2; subst h3
  exact ⟨v, (T.setVm vm₁).calling g' mk As.toArray, t, U', L, hT, X', hL, e1, e2, hq, st⟩
theorem vx_lt {D : va_G} {cl : List vw_C} {ws : va_W} {H1 : Heap} (h : va_P D cl ws H1) {k : Nat} {q : Nat × va_E} (hk : ws[k]? = some q) : q.1 < H1.size := (h k q hk).lt
end VXS
section VXH
section
variable {l : Launch} {R : Room} {p : Program} {e : Env} {below : List Frame} {s : State} {sargs : Array Value} {y : MethodName} {len W9 : Nat}
end
variable {p : Program} {l : Launch} {e : Env} {R : Room} {s : State} {m : MethodId} {args : Array Value} {below : List Frame} {meth : Method} {c : Code} {T : State} {H : Heap} {locs : List Loc} {cells slots : Nat}
section
variable {y : MethodName} {bytes cc : ByteArray} {maxL nL mc ms n index : Nat} {ret : Option FieldType} {ws : List Cond} {rm : Room} {Pc : Array Value → State → Prop} {Qc : Array Value → State → Outcome → State → Prop} {XC : String → State → State → Prop} {free : Addr → Prop} {Ts : List Cond} {own C : String} {b : Addr} {As rest : List Value} {g : JFrame}
end
end VXH
def RX0 : String := "Shakerhall$Chain"
def TX0 : u_T := fun k => match k with
  | 0 => ("Shakerhall$Chain", "weights", "[I", true)
  | 1 => ("Shakerhall$Chain", "toldSprings", "[I", true)
  | 2 => ("Shakerhall$Chain", "springs", "[I", true)
  | 3 => ("Shakerhall$Chain", "dampers", "[I", true)
  | 4 => ("Shakerhall$Chain", "cracks", "[I", true)
  | 5 => ("Shakerhall$Chain", "places", "[J", true)
  | 6 => ("Shakerhall$Chain", "speeds", "[J", true)
  | 7 => ("Shakerhall$Chain", "pulls", "[J", true)
  | 8 => ("Shakerhall$Chain", "peaks", "[I", true)
  | 9 => ("Shakerhall$Chain", "masses", "I", false)
  | _ => ("Shakerhall$Chain", "table", "J", false)
def tyX0 : Nat → FieldType := fun k => match k with
  | 0 => .array .int
  | 1 => .array .int
  | 2 => .array .int
  | 3 => .array .int
  | 4 => .array .int
  | 5 => .array .long
  | 6 => .array .long
  | 7 => .array .long
  | 8 => .array .int
  | 9 => .int
  | _ => .long
abbrev wsX00 : List Cond := u_ws RX0 TX0 11
theorem nmX0 : ∀ a, a < 11 → ∀ b, b < 11 → a ≠ b → (TX0 a).2.1 ≠ (TX0 b).2.1 := by decide +kernel
theorem tyX0_ok : ∀ k, k < 11 → parseFieldDescriptor (TX0 k).2.2.1 = some (tyX0 k) := by decide +kernel
abbrev cX0_init : ByteArray := prog_2_method_1_code
def yX0_init : MethodName := ⟨RX0, "<init>", "()V"⟩
abbrev cX0_hang : ByteArray := prog_2_method_2_code
def yX0_hang : MethodName := ⟨RX0, "hang", "(III)V"⟩
abbrev cX0_rest : ByteArray := prog_2_method_7_code
def yX0_rest : MethodName := ⟨RX0, "rest", "()V"⟩
abbrev cX0_stepTo : ByteArray := prog_2_method_8_code
def yX0_stepTo : MethodName := ⟨RX0, "stepTo", "(I)V"⟩
abbrev cX0_pullAll : ByteArray := prog_2_method_9_code
def yX0_pullAll : MethodName := ⟨RX0, "pullAll", "(JJ)V"⟩
abbrev cX0_within : ByteArray := prog_2_method_10_code
def yX0_within : MethodName := ⟨RX0, "within", "(J)J"⟩
abbrev cX0_goOn : ByteArray := prog_2_method_11_code
def yX0_goOn : MethodName := ⟨RX0, "goOn", "(II)V"⟩
abbrev cX0_playTone : ByteArray := prog_2_method_12_code
def yX0_playTone : MethodName := ⟨RX0, "playTone", "(I)V"⟩
abbrev cX0_lastPeak : ByteArray := prog_2_method_13_code
def yX0_lastPeak : MethodName := ⟨RX0, "lastPeak", "()I"⟩
abbrev cX0_findResonance : ByteArray := prog_2_method_15_code
def yX0_findResonance : MethodName := ⟨RX0, "findResonance", "()I"⟩
def RX1 : String := "Shakerhall$Rain"
def TX1 : u_T := fun k => match k with
  | 0 => ("Shakerhall$Rain", "turns", "[I", true)
  | 1 => ("Shakerhall$Rain", "pile", "[I", true)
  | 2 => ("Shakerhall$Rain", "turnCount", "I", false)
  | 3 => ("Shakerhall$Rain", "cycles", "I", false)
  | 4 => ("Shakerhall$Rain", "fullDamage", "J", false)
  | _ => ("Shakerhall$Rain", "halfDamage", "J", false)
def tyX1 : Nat → FieldType := fun k => match k with
  | 0 => .array .int
  | 1 => .array .int
  | 2 => .int
  | 3 => .int
  | 4 => .long
  | _ => .long
abbrev wsX10 : List Cond := u_ws RX1 TX1 6
theorem nmX1 : ∀ a, a < 6 → ∀ b, b < 6 → a ≠ b → (TX1 a).2.1 ≠ (TX1 b).2.1 := by decide +kernel
theorem tyX1_ok : ∀ k, k < 6 → parseFieldDescriptor (TX1 k).2.2.1 = some (tyX1 k) := by decide +kernel
abbrev cX1_init : ByteArray := prog_3_method_1_code
def yX1_init : MethodName := ⟨RX1, "<init>", "()V"⟩
def RX2 : String := "Shakerhall$Run"
def TX2 : u_T := fun k => match k with
  | 0 => ("Shakerhall$Run", "structure", "LShakerhall$Structure;", true)
  | 1 => ("Shakerhall$Run", "specification", "LShakerhall$Specification;", true)
  | 2 => ("Shakerhall$Run", "way", "C", true)
  | 3 => ("Shakerhall$Run", "controls", "[LShakerhall$Sensor;", true)
  | 4 => ("Shakerhall$Run", "weights", "[I", true)
  | 5 => ("Shakerhall$Run", "controlCount", "I", false)
  | 6 => ("Shakerhall$Run", "drives", "[I", true)
  | 7 => ("Shakerhall$Run", "notches", "[I", true)
  | 8 => ("Shakerhall$Run", "papers", "[I", true)
  | 9 => ("Shakerhall$Run", "events", "[C", true)
  | 10 => ("Shakerhall$Run", "eventCount", "I", false)
  | 11 => ("Shakerhall$Run", "stage", "I", false)
  | 12 => ("Shakerhall$Run", "minutes", "I", false)
  | 13 => ("Shakerhall$Run", "abortLine", "I", false)
  | _ => ("Shakerhall$Run", "state", "C", false)
def RX3 : String := "Shakerhall$Sensor"
def TX3 : u_T := fun k => match k with
  | 0 => ("Shakerhall$Sensor", "structure", "LShakerhall$Structure;", true)
  | 1 => ("Shakerhall$Sensor", "mass", "I", true)
  | 2 => ("Shakerhall$Sensor", "gain", "I", true)
  | 3 => ("Shakerhall$Sensor", "limit", "I", true)
  | _ => ("Shakerhall$Sensor", "loose", "Z", false)
def RX4 : String := "Shakerhall$Specification"
def TX4 : u_T := fun k => match k with
  | 0 => ("Shakerhall$Specification", "levels", "[I", true)
  | _ => ("Shakerhall$Specification", "tolerances", "[I", true)
def RX5 : String := "Shakerhall$Structure"
def TX5 : u_T := fun k => match k with
  | 0 => ("Shakerhall$Structure", "chain", "LShakerhall$Chain;", true)
  | 1 => ("Shakerhall$Structure", "felt", "[I", true)
  | 2 => ("Shakerhall$Structure", "life", "I", false)
  | 3 => ("Shakerhall$Structure", "damage", "J", false)
  | 4 => ("Shakerhall$Structure", "signed", "Z", false)
  | 5 => ("Shakerhall$Structure", "signedPeriod", "I", false)
  | _ => ("Shakerhall$Structure", "signedResponse", "I", false)
def tyX5 : Nat → FieldType := fun k => match k with
  | 0 => .object "Shakerhall$Chain"
  | 1 => .array .int
  | 2 => .int
  | 3 => .long
  | 4 => .boolean
  | 5 => .int
  | _ => .int
abbrev wsX50 : List Cond := u_ws RX5 TX5 7
theorem nmX5 : ∀ a, a < 7 → ∀ b, b < 7 → a ≠ b → (TX5 a).2.1 ≠ (TX5 b).2.1 := by decide +kernel
theorem tyX5_ok : ∀ k, k < 7 → parseFieldDescriptor (TX5 k).2.2.1 = some (tyX5 k) := by decide +kernel
abbrev cX5_init : ByteArray := prog_7_method_1_code
def yX5_init : MethodName := ⟨RX5, "<init>", "()V"⟩
def RX6 : String := "Shakerhall"
def TX6 : u_T := fun k => match k with
  | 0 => ("Shakerhall", "structures", "Ljava/util/ArrayList;", true)
  | 1 => ("Shakerhall", "sensors", "Ljava/util/ArrayList;", true)
  | 2 => ("Shakerhall", "specifications", "Ljava/util/ArrayList;", true)
  | 3 => ("Shakerhall", "runs", "Ljava/util/ArrayList;", true)
  | 4 => ("Shakerhall", "typed", "[I", true)
  | 5 => ("Shakerhall", "typedCount", "I", false)
  | 6 => ("Shakerhall", "rain", "LShakerhall$Rain;", true)
  | _ => ("Shakerhall", "oneMass", "LShakerhall$Chain;", true)
def tyX6 : Nat → FieldType := fun k => match k with
  | 0 => .object "java/util/ArrayList"
  | 1 => .object "java/util/ArrayList"
  | 2 => .object "java/util/ArrayList"
  | 3 => .object "java/util/ArrayList"
  | 4 => .array .int
  | 5 => .int
  | 6 => .object "Shakerhall$Rain"
  | _ => .object "Shakerhall$Chain"
abbrev wsX60 : List Cond := u_ws RX6 TX6 8
theorem nmX6 : ∀ a, a < 8 → ∀ b, b < 8 → a ≠ b → (TX6 a).2.1 ≠ (TX6 b).2.1 := by decide +kernel
theorem tyX6_ok : ∀ k, k < 8 → parseFieldDescriptor (TX6 k).2.2.1 = some (tyX6 k) := by decide +kernel
abbrev cX6_init : ByteArray := prog_1_method_1_code
def yX6_init : MethodName := ⟨RX6, "<init>", "()V"⟩
abbrev cX6_addStructure : ByteArray := prog_1_method_2_code
def yX6_addStructure : MethodName := ⟨RX6, "addStructure", "()I"⟩
abbrev cX6_addMass : ByteArray := prog_1_method_3_code
def yX6_addMass : MethodName := ⟨RX6, "addMass", "(IIII)I"⟩
abbrev cX6_getResonance : ByteArray := prog_1_method_7_code
def yX6_getResonance : MethodName := ⟨RX6, "getResonance", "(I)I"⟩
def yX6_gatherTyped : MethodName := ⟨RX6, "gatherTyped", "()V"⟩
abbrev cX6_structureAt : ByteArray := prog_1_method_50_code
def yX6_structureAt : MethodName := ⟨RX6, "structureAt", "(I)LShakerhall$Structure;"⟩
abbrev cX6_checkRange : ByteArray := prog_1_method_55_code
def yX6_checkRange : MethodName := ⟨RX6, "checkRange", "(III)V"⟩
abbrev cX6_checkHasMasses : ByteArray := prog_1_method_58_code
def yX6_checkHasMasses : MethodName := ⟨RX6, "checkHasMasses", "(LShakerhall$Chain;)V"⟩
def RX7 : String := "ShakerhallModel$Motion"
def TX7 : u_T := fun k => match k with
  | 0 => ("ShakerhallModel$Motion", "structure", "LShakerhallModel$Structure;", true)
  | 1 => ("ShakerhallModel$Motion", "places", "[I", true)
  | 2 => ("ShakerhallModel$Motion", "speeds", "[I", true)
  | _ => ("ShakerhallModel$Motion", "table", "I", false)
def tyX7 : Nat → FieldType := fun k => match k with
  | 0 => .object "ShakerhallModel$Structure"
  | 1 => .array .int
  | 2 => .array .int
  | _ => .int
abbrev wsX70 : List Cond := u_ws RX7 TX7 4
theorem nmX7 : ∀ a, a < 4 → ∀ b, b < 4 → a ≠ b → (TX7 a).2.1 ≠ (TX7 b).2.1 := by decide +kernel
theorem tyX7_ok : ∀ k, k < 4 → parseFieldDescriptor (TX7 k).2.2.1 = some (tyX7 k) := by decide +kernel
abbrev cX7_init : ByteArray := prog_10_method_1_code
def yX7_init : MethodName := ⟨RX7, "<init>", "(LShakerhallModel$Structure;)V"⟩
abbrev cX7_held : ByteArray := prog_10_method_2_code
def yX7_held : MethodName := ⟨RX7, "held", "(J)I"⟩
abbrev cX7_moves : ByteArray := prog_10_method_3_code
def yX7_moves : MethodName := ⟨RX7, "moves", "(I)V"⟩
abbrev cX7_away : ByteArray := prog_10_method_4_code
def yX7_away : MethodName := ⟨RX7, "away", "(I)I"⟩
def RX8 : String := "ShakerhallModel$Run"
def TX8 : u_T := fun k => match k with
  | 0 => ("ShakerhallModel$Run", "structure", "I", true)
  | 1 => ("ShakerhallModel$Run", "specification", "I", true)
  | 2 => ("ShakerhallModel$Run", "way", "C", true)
  | 3 => ("ShakerhallModel$Run", "controls", "Ljava/util/ArrayList;", true)
  | 4 => ("ShakerhallModel$Run", "drives", "[I", true)
  | 5 => ("ShakerhallModel$Run", "notches", "[I", true)
  | 6 => ("ShakerhallModel$Run", "papers", "[I", true)
  | 7 => ("ShakerhallModel$Run", "events", "Ljava/lang/String;", false)
  | 8 => ("ShakerhallModel$Run", "state", "C", false)
  | 9 => ("ShakerhallModel$Run", "stage", "I", false)
  | 10 => ("ShakerhallModel$Run", "abort", "I", false)
  | _ => ("ShakerhallModel$Run", "minutes", "I", false)
def RX9 : String := "ShakerhallModel$Structure"
def TX9 : u_T := fun k => match k with
  | 0 => ("ShakerhallModel$Structure", "masses", "Ljava/util/ArrayList;", true)
  | 1 => ("ShakerhallModel$Structure", "felt", "[I", true)
  | 2 => ("ShakerhallModel$Structure", "damage", "J", false)
  | 3 => ("ShakerhallModel$Structure", "life", "I", false)
  | 4 => ("ShakerhallModel$Structure", "signed", "I", false)
  | _ => ("ShakerhallModel$Structure", "signature", "I", false)
def tyX9 : Nat → FieldType := fun k => match k with
  | 0 => .object "java/util/ArrayList"
  | 1 => .array .int
  | 2 => .long
  | 3 => .int
  | 4 => .int
  | _ => .int
abbrev wsX90 : List Cond := u_ws RX9 TX9 6
theorem nmX9 : ∀ a, a < 6 → ∀ b, b < 6 → a ≠ b → (TX9 a).2.1 ≠ (TX9 b).2.1 := by decide +kernel
theorem tyX9_ok : ∀ k, k < 6 → parseFieldDescriptor (TX9 k).2.2.1 = some (tyX9 k) := by decide +kernel
abbrev cX9_init : ByteArray := prog_12_method_1_code
def yX9_init : MethodName := ⟨RX9, "<init>", "()V"⟩
abbrev cX9_spring : ByteArray := prog_12_method_2_code
def yX9_spring : MethodName := ⟨RX9, "spring", "(I)I"⟩
abbrev cX9_last : ByteArray := prog_12_method_3_code
def yX9_last : MethodName := ⟨RX9, "last", "()I"⟩
def RX10 : String := "ShakerhallModel"
def TX10 : u_T := fun k => match k with
  | 0 => ("ShakerhallModel", "structures", "Ljava/util/ArrayList;", true)
  | 1 => ("ShakerhallModel", "sensors", "Ljava/util/ArrayList;", true)
  | 2 => ("ShakerhallModel", "specifications", "Ljava/util/ArrayList;", true)
  | 3 => ("ShakerhallModel", "runs", "Ljava/util/ArrayList;", true)
  | 4 => ("ShakerhallModel", "typed", "Ljava/util/ArrayList;", true)
  | _ => ("ShakerhallModel", "thrown", "I", false)
def tyX10 : Nat → FieldType := fun k => match k with
  | 0 => .object "java/util/ArrayList"
  | 1 => .object "java/util/ArrayList"
  | 2 => .object "java/util/ArrayList"
  | 3 => .object "java/util/ArrayList"
  | 4 => .object "java/util/ArrayList"
  | _ => .int
abbrev wsX100 : List Cond := u_ws RX10 TX10 6
theorem nmX10 : ∀ a, a < 6 → ∀ b, b < 6 → a ≠ b → (TX10 a).2.1 ≠ (TX10 b).2.1 := by decide +kernel
theorem tyX10_ok : ∀ k, k < 6 → parseFieldDescriptor (TX10 k).2.2.1 = some (tyX10 k) := by decide +kernel
abbrev cX10_init : ByteArray := prog_9_method_1_code
def yX10_init : MethodName := ⟨RX10, "<init>", "()V"⟩
abbrev cX10_isThrown : ByteArray := prog_9_method_3_code
def yX10_isThrown : MethodName := ⟨RX10, "isThrown", "(ZI)Z"⟩
abbrev cX10_isIn : ByteArray := prog_9_method_4_code
def yX10_isIn : MethodName := ⟨RX10, "isIn", "(III)Z"⟩
abbrev cX10_isNoStructure : ByteArray := prog_9_method_5_code
def yX10_isNoStructure : MethodName := ⟨RX10, "isNoStructure", "(I)Z"⟩
abbrev cX10_isBare : ByteArray := prog_9_method_7_code
def yX10_isBare : MethodName := ⟨RX10, "isBare", "(I)Z"⟩
abbrev cX10_addStructure : ByteArray := prog_9_method_8_code
def yX10_addStructure : MethodName := ⟨RX10, "addStructure", "()I"⟩
abbrev cX10_addMass : ByteArray := prog_9_method_9_code
def yX10_addMass : MethodName := ⟨RX10, "addMass", "(IIII)I"⟩
abbrev cX10_tone : ByteArray := prog_9_method_12_code
def yX10_tone : MethodName := ⟨RX10, "tone", "(II)I"⟩
abbrev cX10_response : ByteArray := prog_9_method_13_code
def yX10_response : MethodName := ⟨RX10, "response", "(III)I"⟩
abbrev cX10_lastResponse : ByteArray := prog_9_method_14_code
def yX10_lastResponse : MethodName := ⟨RX10, "lastResponse", "(II)I"⟩
abbrev cX10_resonance : ByteArray := prog_9_method_16_code
def yX10_resonance : MethodName := ⟨RX10, "resonance", "(I)I"⟩
abbrev cX10_getResonance : ByteArray := prog_9_method_17_code
def yX10_getResonance : MethodName := ⟨RX10, "getResonance", "(I)I"⟩
def RJxabbfe : String := "java/lang/Integer$IntegerCache"
def RJ6 : String := "java/lang/Integer"
def TJ6 : u_T := fun k => match k with
  | _ => ("java/lang/Integer", "value", "I", true)
def RJ9 : String := "java/lang/Math"
abbrev cJ9_abs_0f7a4 : ByteArray := prog_26_method_59_code
def yJ9_abs_0f7a4 : MethodName := ⟨RJ9, "abs", "(I)I"⟩
abbrev cJ9_abs_067f4 : ByteArray := prog_26_method_61_code
def yJ9_abs_067f4 : MethodName := ⟨RJ9, "abs", "(J)J"⟩
abbrev cJ9_max_7cf53 : ByteArray := prog_26_method_65_code
def yJ9_max_7cf53 : MethodName := ⟨RJ9, "max", "(II)I"⟩
abbrev cJ9_max_f86c9 : ByteArray := prog_26_method_66_code
def yJ9_max_f86c9 : MethodName := ⟨RJ9, "max", "(JJ)J"⟩
abbrev cJ9_min_f86c9 : ByteArray := prog_26_method_70_code
def yJ9_min_f86c9 : MethodName := ⟨RJ9, "min", "(JJ)J"⟩
def RJ0 : String := "java/lang/String"
def TJ0 : u_T := fun k => match k with
  | 0 => ("java/lang/String", "value", "[B", true)
  | 1 => ("java/lang/String", "coder", "B", true)
  | 2 => ("java/lang/String", "hash", "I", false)
  | _ => ("java/lang/String", "hashIsZero", "Z", false)
def RJ4 : String := "java/lang/StringBuilder"
def TJ4 : u_T := fun k => match k with
  | 0 => ("java/lang/AbstractStringBuilder", "value", "[B", false)
  | 1 => ("java/lang/AbstractStringBuilder", "coder", "B", false)
  | 2 => ("java/lang/AbstractStringBuilder", "maybeLatin1", "Z", false)
  | _ => ("java/lang/AbstractStringBuilder", "count", "I", false)
def RJxa1e45 : String := "java/util/AbstractCollection"
abbrev cJxa1e45_init_da8c8 : ByteArray := prog_38_method_1_code
def yJxa1e45_init_da8c8 : MethodName := ⟨RJxa1e45, "<init>", "()V"⟩
def RJxc12de : String := "java/util/AbstractList"
abbrev cJxc12de_init_da8c8 : ByteArray := prog_39_method_1_code
def yJxc12de_init_da8c8 : MethodName := ⟨RJxc12de, "<init>", "()V"⟩
def RJx35411 : String := "java/util/ArrayList$Itr"
def TJx35411 : u_T := fun k => match k with
  | 0 => ("java/util/ArrayList$Itr", "cursor", "I", false)
  | 1 => ("java/util/ArrayList$Itr", "lastRet", "I", false)
  | 2 => ("java/util/ArrayList$Itr", "expectedModCount", "I", false)
  | _ => ("java/util/ArrayList$Itr", "this$0", "Ljava/util/ArrayList;", true)
def yJx35411_hasNext_aae02 : MethodName := ⟨RJx35411, "hasNext", "()Z"⟩
def RJx4a65c : String := "java/util/ArrayList"
def TJx4a65c : u_T := fun k => match k with
  | 0 => ("java/util/AbstractList", "modCount", "I", false)
  | 1 => ("java/util/ArrayList", "elementData", "[Ljava/lang/Object;", false)
  | _ => ("java/util/ArrayList", "size", "I", false)
def tyJx4a65c : Nat → FieldType := fun k => match k with
  | 0 => .int
  | 1 => .array (.object "java/lang/Object")
  | _ => .int
abbrev wsJx4a65c0 : List Cond := u_ws RJx4a65c TJx4a65c 3
theorem nmJx4a65c : ∀ a, a < 3 → ∀ b, b < 3 → a ≠ b → (TJx4a65c a).2.1 ≠ (TJx4a65c b).2.1 := by decide +kernel
theorem tyJx4a65c_ok : ∀ k, k < 3 → parseFieldDescriptor (TJx4a65c k).2.2.1 = some (tyJx4a65c k) := by decide +kernel
abbrev cJx4a65c_init_da8c8 : ByteArray := prog_40_method_2_code
def yJx4a65c_init_da8c8 : MethodName := ⟨RJx4a65c, "<init>", "()V"⟩
abbrev cJx4a65c_grow_92f84 : ByteArray := prog_40_method_6_code
def yJx4a65c_grow_92f84 : MethodName := ⟨RJx4a65c, "grow", "(I)[Ljava/lang/Object;"⟩
abbrev cJx4a65c_grow_d5877 : ByteArray := prog_40_method_7_code
def yJx4a65c_grow_d5877 : MethodName := ⟨RJx4a65c, "grow", "()[Ljava/lang/Object;"⟩
abbrev cJx4a65c_size_8abf5 : ByteArray := prog_40_method_8_code
def yJx4a65c_size_8abf5 : MethodName := ⟨RJx4a65c, "size", "()I"⟩
abbrev cJx4a65c_isEmpty_aae02 : ByteArray := prog_40_method_9_code
def yJx4a65c_isEmpty_aae02 : MethodName := ⟨RJx4a65c, "isEmpty", "()Z"⟩
abbrev cJx4a65c_elementData_915e3 : ByteArray := prog_40_method_18_code
def yJx4a65c_elementData_915e3 : MethodName := ⟨RJx4a65c, "elementData", "(I)Ljava/lang/Object;"⟩
abbrev cJx4a65c_get_915e3 : ByteArray := prog_40_method_20_code
def yJx4a65c_get_915e3 : MethodName := ⟨RJx4a65c, "get", "(I)Ljava/lang/Object;"⟩
abbrev cJx4a65c_add_72be8 : ByteArray := prog_40_method_24_code
def yJx4a65c_add_72be8 : MethodName := ⟨RJx4a65c, "add", "(Ljava/lang/Object;[Ljava/lang/Object;I)V"⟩
abbrev cJx4a65c_add_9ea2d : ByteArray := prog_40_method_25_code
def yJx4a65c_add_9ea2d : MethodName := ⟨RJx4a65c, "add", "(Ljava/lang/Object;)Z"⟩
def RJx4d0d8 : String := "java/util/Iterator"
def RJ15 : String := "java/util/Objects"
abbrev cJ15_checkIndex_7cf53 : ByteArray := prog_47_method_17_code
def yJ15_checkIndex_7cf53 : MethodName := ⟨RJ15, "checkIndex", "(II)I"⟩
def RJ3 : String := "jdk/internal/util/Preconditions"
abbrev cJ3_checkIndex_8e157 : ByteArray := prog_51_method_11_code
def yJ3_checkIndex_8e157 : MethodName := ⟨RJ3, "checkIndex", "(IILjava/util/function/BiFunction;)I"⟩
def RL : String := "ShakerhallLaw"
abbrev cL_addStructure : ByteArray := method_3_code
def yL_addStructure : MethodName := ⟨RL, "addStructure", "(LShakerhall;[J)I"⟩
abbrev cL_addMass : ByteArray := method_4_code
def yL_addMass : MethodName := ⟨RL, "addMass", "(LShakerhall;IIII[J)I"⟩
abbrev cL_getResonance : ByteArray := method_8_code
def yL_getResonance : MethodName := ⟨RL, "getResonance", "(LShakerhall;I[J)I"⟩
abbrev cL_law : ByteArray := code
abbrev vwCl : List vw_C := [(RJ0, TJ0, 4), (RJ4, TJ4, 4), (RJ6, TJ6, 1), (RJx35411, TJx35411, 4), (RJx4a65c, TJx4a65c, 3), (RX0, TX0, 11), (RX1, TX1, 6), (RX2, TX2, 15), (RX3, TX3, 5), (RX4, TX4, 2), (RX5, TX5, 7), (RX6, TX6, 8), (RX7, TX7, 4), (RX8, TX8, 12), (RX9, TX9, 6), (RX10, TX10, 6)]
end
section
def pw_all : List Cond := lw_tbl.filter goodWord
theorem pw_in {w : Cond} (i : Nat) (h : lw_tbl[i]? = some w) (hg : goodWord w = true) : w ∈ pw_all := List.mem_filter.mpr ⟨List.mem_of_getElem? h, hg⟩
theorem pw_tbl {w : Cond} (h : w ∈ pw_all) : w ∈ lw_tbl := (List.mem_filter.mp h).1
theorem pw_ok {ws : List Cond} (h : ∀ w ∈ ws, w ∈ pw_all) : GoodIn pw_all ws := fun w hw => ⟨h w hw, good_of_word (List.mem_filter.mp (h w hw)).2⟩
abbrev pw_ws (y : MethodName) (b : ByteArray) (n : Nat) (r : Option FieldType) : List Cond := Cond.code y b n r :: pw_all
abbrev pw_wh (y : MethodName) (b : ByteArray) (n : Nat) (r : Option FieldType) (h : List (Nat × Nat × Nat × Nat)) : List Cond := Cond.codeWith y b n r h :: pw_all
theorem pw_c {c : Cond} (h : c ∈ pw_all) : GoodIn pw_all (c :: pw_all) := pw_ok (fun w hw => (List.mem_cons.mp hw).elim (fun e => e ▸ h) (fun h => h))
theorem pw_V {own C : String} {k : Nat} {y : MethodName} {c : Cond} (h1 : Cond.methodLink own k y ∈ pw_all) (h2 : Cond.instanceMethod y ∈ pw_all) (h3 : Cond.selects C y y ∈ pw_all) (h4 : Cond.initialized C ∈ pw_all) (h5 : c ∈ pw_all) : GoodIn pw_all (wsV own k C y (c :: pw_all)) := by
  refine pw_ok (fun w hw => ?_)
  unfold wsV at hw
  rcases List.mem_append.mp hw with hw | hw
  · simp only [List.mem_cons, List.not_mem_nil, or_false] at hw
    rcases hw with rfl | rfl | rfl | rfl
    · exact h1
    · exact h2
    · exact h3
    · exact h4
  · exact (List.mem_cons.mp hw).elim (fun e => e ▸ h5) (fun h => h)
theorem pw_S {own : String} {k : Nat} {y : MethodName} {c : Cond} (h1 : Cond.methodLink own k y ∈ pw_all) (h2 : Cond.static y ∈ pw_all) (h4 : Cond.initialized y.cls ∈ pw_all) (h5 : c ∈ pw_all) : GoodIn pw_all (va_wsS own k y (c :: pw_all)) := by
  refine pw_ok (fun w hw => ?_)
  unfold va_wsS at hw
  rcases List.mem_append.mp hw with hw | hw
  · simp only [List.mem_cons, List.not_mem_nil, or_false] at hw
    rcases hw with rfl | rfl | rfl
    · exact h1
    · exact h2
    · exact h4
  · exact (List.mem_cons.mp hw).elim (fun e => e ▸ h5) (fun h => h)
def pz_C : List (String × String) := [("java/lang/IllegalStateException", "java/lang/IllegalStateException"), ("java/lang/IndexOutOfBoundsException", "java/lang/IndexOutOfBoundsException"), ("java/lang/IllegalArgumentException", "java/lang/IllegalArgumentException"), ("java/lang/UnsupportedOperationException", "java/lang/UnsupportedOperationException"), ("Shakerhall$Structure", "java/lang/Object"), ("Shakerhall$Specification", "java/lang/Object"), ("ShakerhallModel$Structure", "java/lang/Object"), ("java/lang/Integer", "java/lang/Object"), ("[[I", "java/lang/Object")]
def pz_D : List MethodName := [⟨"java/lang/RuntimeException", "<init>", "(Ljava/lang/String;)V"⟩, ⟨"java/lang/Exception", "<init>", "(Ljava/lang/String;)V"⟩, ⟨"java/lang/Throwable", "<init>", "(Ljava/lang/String;)V"⟩]
def pz_T : List (String × Nat × String) := [("Shakerhall", 49, "no room for a structure"), ("Shakerhall", 390, "no such structure"), ("Shakerhall", 401, "a number is out of range"), ("Shakerhall", 76, "no room for a mass"), ("Shakerhall", 399, "no such mass"), ("Shakerhall", 88, "the spring has all its cracks"), ("Shakerhall", 403, "the structure has no masses"), ("Shakerhall", 114, "no room for a sensor"), ("Shakerhall", 393, "no such sensor"), ("Shakerhall", 140, "no room for a specification"), ("Shakerhall", 395, "no such specification"), ("Shakerhall", 161, "no such way of control"), ("Shakerhall", 164, "no room for a run"), ("Shakerhall", 397, "no such run"), ("Shakerhall", 182, "the sensor can't control this run"), ("Shakerhall", 188, "no room for a control sensor"), ("Shakerhall", 405, "the run is broken off"), ("Shakerhall", 218, "the run has had its time"), ("Shakerhall", 237, "a band is not in band"), ("Shakerhall", 239, "the run is at the highest stage"), ("Shakerhall", 245, "the run is not broken off"), ("Shakerhall", 253, "no room for a paper"), ("Shakerhall", 255, "no paper is signed"), ("Shakerhall", 274, "no such event"), ("Shakerhall", 289, "no room for a place"), ("Shakerhall", 407, "nothing is typed"), ("Shakerhall", 365, "no signature was taken"), ("ShakerhallModel$Run", 28, ""), ("java/util/Arrays", 337, " > ")]
def pz_N : List (String × String) := [("java/lang/UnsupportedOperationException", "java/lang/IllegalArgumentException"), ("java/lang/UnsupportedOperationException", "java/lang/IndexOutOfBoundsException"), ("java/lang/IllegalArgumentException", "java/lang/IndexOutOfBoundsException")]
abbrev pz_M : Cond := Cond.methodLinkNest "ShakerhallModel" 64 ⟨"ShakerhallModel$Structure", "<init>", "()V"⟩ "ShakerhallModel"
abbrev pz_F : Cond := Cond.fieldLinkNest "java/util/ArrayList$Itr" 28 "java/util/ArrayList" "size" "I" "java/util/ArrayList"
abbrev pz_x : MethodName := ⟨"java/util/Iterator", "hasNext", "()Z"⟩
abbrev pz_y : MethodName := ⟨"java/util/ArrayList$Itr", "hasNext", "()Z"⟩
def pz_E (ed : Nat) (A : Nat → Prop) (U : State) (H : Heap) : Prop := ∃ cell : Cell, H[ed]? = some cell ∧ U.isArrayOf cell (.object "java/lang/Object") ∧ cell.vm ≠ .unknown ∧ cell.slots.size.toInt32 = 0 ∧ ¬ A ed
def pz_B (A : Nat → Prop) (U : State) (H : Heap) : Prop := ∃ (ad : Nat → Nat) (tc : Nat), vb_C ad A U H ∧ va_T (.object "java/lang/Integer") tc 256 (fun k => .ref (ad k)) A U H ∧ va_Z "java/lang/Integer$IntegerCache" "cache" "[Ljava/lang/Integer;" (.ref tc) A U H ∧ va_Z "java/lang/Integer$IntegerCache" "high" "I" (.int 127) A U H
theorem pz_B.kept {A : Nat → Prop} {U : State} {H H1 : Heap} (h : pz_B A U H) (hq : ∀ a : Nat, a < H.size → ¬ A a → H1[a]? = H[a]?) : pz_B A U H1 := by
  obtain ⟨ad, tc, h1, h2, h3, h4⟩ := h
  exact ⟨ad, tc, h1.kept hq, h2.kept hq, h3.kept hq, h4.kept hq⟩
theorem pz_B.narrow {A B : Nat → Prop} {U : State} {H : Heap} (h : pz_B A U H) (hAB : ∀ q, B q → A q) : pz_B B U H := by
  obtain ⟨ad, tc, h1, h2, h3, h4⟩ := h
  exact ⟨ad, tc, h1.narrow hAB, h2.narrow hAB, h3.narrow hAB, h4.narrow hAB⟩
theorem pz_B.moved {A : Nat → Prop} {u U : State} {H : Heap} (hvm : u.vm.Alike U.vm) (h : pz_B A u H) : pz_B A U H := by
  obtain ⟨ad, tc, h1, h2, h3, h4⟩ := h
  exact ⟨ad, tc, h1.moved hvm, h2.moved hvm, h3.moved hvm, h4.moved hvm⟩
def pz (ed : Nat) (A : Nat → Prop) (U : State) (H : Heap) : Prop :=
  vx_Zq Bundle.tN "UNASSIGNED_STACK" Bundle.steD A U H ∧ vx_Zq Bundle.tN "SUPPRESSED_SENTINEL" Bundle.listD A U H ∧
  (∀ q ∈ pz_C, va_Nw (.castable q.1 q.2) U) ∧ (∀ q ∈ pz_D, va_Nw (.declares q) U) ∧ (∀ q ∈ pz_T, ∃ a, vk_R q.1 q.2.1 q.2.2 a U) ∧ (∀ q ∈ pz_N, va_Nc q.1 q.2 U) ∧
  va_AO "java/lang/Object" U ∧ va_AOA .int U ∧ pz_B A U H ∧ va_Nw pz_M U ∧ va_Nw pz_F U ∧ va_Fw "java/util/ArrayList$Itr" pz_x pz_y U ∧ va_Z "java/util/ArrayList" "DEFAULTCAPACITY_EMPTY_ELEMENTDATA" "[Ljava/lang/Object;" (.ref ed) A U H ∧ pz_E ed A U H
theorem pz.kept {ed : Nat} {A : Nat → Prop} {U : State} {H H1 : Heap} (h : pz ed A U H) (hq : ∀ a : Nat, a < H.size → ¬ A a → H1[a]? = H[a]?) : pz ed A U H1 := by
  obtain ⟨h1, h2, h3, h4, h5, h6, h7, ha, hb, hm, hf, hw, h8, cell, g1, g2, g3, g4, g5⟩ := h
  exact ⟨h1.kept hq, h2.kept hq, h3, h4, h5, h6, h7, ha, hb.kept hq, hm, hf, hw, h8.kept hq, cell, by rw [hq ed (Array.getElem?_eq_some_iff.mp g1).1 g5]; exact g1, g2, g3, g4, g5⟩
theorem pz.narrow {ed : Nat} {A B : Nat → Prop} {U : State} {H : Heap} (h : pz ed A U H) (hAB : ∀ q, B q → A q) : pz ed B U H := by
  obtain ⟨h1, h2, h3, h4, h5, h6, h7, ha, hb, hm, hf, hw, h8, cell, g1, g2, g3, g4, g5⟩ := h
  exact ⟨h1.narrow hAB, h2.narrow hAB, h3, h4, h5, h6, h7, ha, hb.narrow hAB, hm, hf, hw, h8.narrow hAB, cell, g1, g2, g3, g4, fun z => g5 (hAB _ z)⟩
theorem pz.warm {ed : Nat} {A : Nat → Prop} {s U : State} {H : Heap} (h : pz ed A s H) (hW : s.WarmedH U.vm) : pz ed A U H := by
  obtain ⟨h1, h2, h3, h4, h5, h6, h7, ha, hb, hm, hf, hw, h8, cell, g1, g2, g3, g4, g5⟩ := h
  exact ⟨h1.moved hW.alike, h2.moved hW.alike, fun q hq => (h3 q hq).warmC hW, fun q hq => (h4 q hq).warmD hW, fun q hq => (h5 q hq).elim (fun a ha => ⟨a, ha.warm hW⟩), fun q hq => (h6 q hq).moved hW.alike, h7.moved hW.alike, over_moved hW.alike ha, hb.moved hW.alike, va_Nw.warmM hW hm, va_Nw.warmF hW hf, hw.moved (by decide) hW.alike, h8.moved hW.alike, cell, g1, State.isArrayOf_alike hW.alike g2, g3, g4, g5⟩
theorem pz.call {ed : Nat} {A A' : Nat → Prop} {s U : State} {H : Heap} {locs : List Loc} (h : pz ed A s s.heap) (hS : va_S A s.heap H locs) (hF : ∀ q, A' q → A q) (hU : U.heap = H) (hW : s.WarmedH U.vm) : pz ed A' U U.heap := by
  rw [hU]
  exact ((h.kept (fun a h1 h2 => hS.2.1 a h1 h2)).narrow hF).warm hW
theorem pz.same {ed : Nat} {A : Nat → Prop} {u U : State} {H : Heap} (h : pz ed A u H) (hv : U.vm = u.vm) : pz ed A U H := h.warm (by rw [hv]; exact State.WarmedH.refl u)
theorem pz.cast {ed : Nat} {A : Nat → Prop} {U : State} {H : Heap} {args : Array Value} {C T : String} (h : pz ed A U H) (hq : (C, T) ∈ pz_C) : (Cond.castable C T).before args U = true := va_Nw.use rfl (h.2.2.1 _ hq)
theorem pz.nestM {ed : Nat} {A : Nat → Prop} {U : State} {H : Heap} (h : pz ed A U H) : va_Nw pz_M U := h.2.2.2.2.2.2.2.2.2.1
theorem pz.list {ed : Nat} {A : Nat → Prop} {U : State} {H : Heap} (h : pz ed A U H) : va_Z "java/util/ArrayList" "DEFAULTCAPACITY_EMPTY_ELEMENTDATA" "[Ljava/lang/Object;" (.ref ed) A U H := h.2.2.2.2.2.2.2.2.2.2.2.2.1
def pe (el : Nat) (A : Nat → Prop) (U : State) (H : Heap) : Prop := va_Any "java/lang/Object" U H el ∧ ¬ A el
theorem pe.warm {el : Nat} {A : Nat → Prop} {s U : State} {H : Heap} (h : pe el A s H) (hW : s.WarmedH U.vm) : pe el A U H := by
  obtain ⟨⟨cell, h1, h2, ⟨kC, h3⟩, h4⟩, h5⟩ := h
  obtain ⟨k', hk', -⟩ := hW.alike.2.2 _ _ h3
  exact ⟨⟨cell, h1, h2, ⟨k', hk'⟩, fun comp hc => by rw [hW.alike.assignable]; exact h4 comp (by rw [← hW.alike.findClass]; exact hc)⟩, h5⟩
theorem pe.heap {el : Nat} {A : Nat → Prop} {U : State} {H : Heap} (h : pe el A U H) (hU : U.heap = H) : pe el A U U.heap := by rw [hU]; exact h
theorem pe.any {el : Nat} {A : Nat → Prop} {s : State} {H : Heap} {locs : List Loc} (h : pe el A s s.heap) (hS : va_S A s.heap H locs) : va_Any "java/lang/Object" s H el := by
  obtain ⟨⟨cell, h1, h2, h3, h4⟩, h5⟩ := h
  exact ⟨cell, by rw [hS.2.1 el (Array.getElem?_eq_some_iff.mp h1).1 h5]; exact h1, h2, h3, h4⟩
theorem pe.call {el : Nat} {A A' : Nat → Prop} {s U : State} {H : Heap} {locs : List Loc} (h : pe el A s s.heap) (hS : va_S A s.heap H locs) (hF : ∀ q, A' q → A q) (hU : U.heap = H) (hW : s.WarmedH U.vm) : pe el A' U U.heap := by
  have h1 : pe el A' s H := ⟨h.any hS, fun z => h.2 (hF _ z)⟩
  exact (h1.warm hW).heap hU
theorem pe.same {el : Nat} {A : Nat → Prop} {u U : State} {H : Heap} (h : pe el A u H) (hv : U.vm = u.vm) : pe el A U H := h.warm (by rw [hv]; exact State.WarmedH.refl u)
theorem pe.of {D : va_G} {cl : List vw_C} {tys : List (ClassId × FieldType)} {ws : va_W} {A : Nat → Prop} {s : State} {H : Heap} {el i ci : Nat} {fs : List Value} {r : vw_C} (hK : va_K D cl tys s) (hP : va_P D cl ws H) (he : ws[i]? = some (el, .inr (ci, fs))) (hc : cl[ci]? = some r) (hca : va_Nw (.castable r.1 "java/lang/Object") s) (hn : ¬ A el) : pe el A s H := by
  refine ⟨va_rAny hK hP he hc (fun comp c0 h1 h2 => ?_), hn⟩
  obtain ⟨c3, c4, hc3, hc4, hasg⟩ := Cond.castable_spec (va_Nw.use (A := #[]) rfl hca)
  cases h1.symm.trans hc4
  cases h2.symm.trans hc3
  exact hasg
theorem pe_ne {D : va_G} {cl : List vw_C} {A : Nat → Prop} {ws wc : va_W} {H : Heap} {el i : Nat} {e : va_E} (hP : va_P D cl ws H) (hD : va_D A ws) (he : ws[i]? = some (el, e)) (isC : List Nat) (hC : isC.map (fun i => ws[i]?) = wc.map some) (hi : i ∉ isC) : ¬ va_A wc H.size el := by
  intro h
  rcases h with ⟨k, e', hk⟩ | h
  · have h1 : (isC.map (fun i => ws[i]?))[k]? = some (some (el, e')) := by rw [hC, List.getElem?_map, hk]; rfl
    rw [List.getElem?_map] at h1
    cases hq : isC[k]? with
    | none => rw [hq] at h1; cases h1
    | some j =>
      rw [hq] at h1
      have h2 : ws[j]? = some (el, e') := Option.some.inj h1
      have := hD.1 i j _ _ he h2 rfl
      exact hi (this ▸ List.mem_of_getElem? hq)
  · exact absurd (vx_lt hP he) (Nat.not_lt.mpr h)
section VXR
variable {p : Program} {l : Launch} {e : Env} {R : Room} {s : State} {m : MethodId} {args : Array Value} {below : List Frame} {meth : Method} {c : Code} {H : Heap} {locs : List Loc} {cells slots : Nat} {Q : State → Prop}
variable {mc ms : Nat} {free : Addr → Prop} {A0 A1 : Nat → Prop} {a : Array Value} {pc : Nat} {ls : Array Slot} {st0 rest : List Value}
end VXR
theorem pl_pz {ed : Nat} {A : Nat → Prop} {s : State} {H : Heap} {locs : List Loc} (h : pz ed A s s.heap) (hS : va_S A s.heap H locs) : pz ed A s H := h.kept (fun a h1 h2 => hS.2.1 a h1 h2)
theorem lv_numI {p : Program} {l : Launch} {e : Env} {R : Room} {s : State} {m : MethodId} {args : Array Value} {below : List Frame} {meth : Method} {c : Code} {H : Heap} {locs : List Loc} {cells slots : Nat} {Q : State → Prop} {pc : Nat} {ls : Array Slot} {rest : List Value} {x v : Int32} (h : x = v) (k : W p l e R s m args below meth c H locs cells slots Q (F0 m pc ls (.int v :: rest))) : W p l e R s m args below meth c H locs cells slots Q (F0 m pc ls (.int x :: rest)) := h ▸ k
theorem lv_topr {p : Program} {l : Launch} {e : Env} {R : Room} {s : State} {m : MethodId} {args : Array Value} {below : List Frame} {meth : Method} {c : Code} {H : Heap} {locs : List Loc} {cells slots : Nat} {Q : State → Prop} {pc : Nat} {ls : Array Slot} {rest : List Value} {x v : Value} (h : x = v) (k : W p l e R s m args below meth c H locs cells slots Q (F0 m pc ls (v :: rest))) : W p l e R s m args below meth c H locs cells slots Q (F0 m pc ls (x :: rest)) := h ▸ k
theorem lv_numL {p : Program} {l : Launch} {e : Env} {R : Room} {s : State} {m : MethodId} {args : Array Value} {below : List Frame} {meth : Method} {c : Code} {H : Heap} {locs : List Loc} {cells slots : Nat} {Q : State → Prop} {pc : Nat} {ls : Array Slot} {rest : List Value} {x v : Int64} (h : x = v) (k : W p l e R s m args below meth c H locs cells slots Q (F0 m pc ls (.long v :: rest))) : W p l e R s m args below meth c H locs cells slots Q (F0 m pc ls (.long x :: rest)) := h ▸ k
theorem pl_edlen {p : Program} {l : Launch} {e : Env} {R : Room} {s : State} {m : MethodId} {args : Array Value} {below : List Frame} {meth : Method} {c : Code} {H : Heap} {locs : List Loc} {cells slots : Nat} {Q : State → Prop} {cc : ByteArray} {pc : Nat} {ls : Array Slot} {rest : List Value} {ed : Nat} {A : Nat → Prop} (hx : p.tables.exec = Jvm.exec) (hb : c.code = cc) (hZ : pz ed A s s.heap) (hS : va_S A s.heap H locs) (hdg : decode cc pc = .ok (.arraylength, 1))
    (kk : W p l e R s m args below meth c H locs cells slots Q (F0 m (pc + 1) ls (.int 0 :: rest))) : W p l e R s m args below meth c H locs cells slots Q (F0 m pc ls (.ref ed :: rest)) := by
  obtain ⟨-, -, -, -, -, -, -, -, -, -, -, -, -, cell, g1, g2, g3, g4, g5⟩ := pl_pz hZ hS
  exact W.alen (n := 0) hx hb g1 g2 g4 rfl rfl hdg kk
theorem inJx4a65c : ∀ w ∈ wsJx4a65c0, w ∈ pw_all := fun w h => List.mem_filter.mpr ⟨(by decide +kernel : ∀ w ∈ wsJx4a65c0, w ∈ lw_tbl) w h, (by decide +kernel : ∀ w ∈ wsJx4a65c0, goodWord w = true) w h⟩
theorem inX0 : ∀ w ∈ wsX00, w ∈ pw_all := fun w h => List.mem_filter.mpr ⟨(by decide +kernel : ∀ w ∈ wsX00, w ∈ lw_tbl) w h, (by decide +kernel : ∀ w ∈ wsX00, goodWord w = true) w h⟩
theorem inX1 : ∀ w ∈ wsX10, w ∈ pw_all := fun w h => List.mem_filter.mpr ⟨(by decide +kernel : ∀ w ∈ wsX10, w ∈ lw_tbl) w h, (by decide +kernel : ∀ w ∈ wsX10, goodWord w = true) w h⟩
theorem inX5 : ∀ w ∈ wsX50, w ∈ pw_all := fun w h => List.mem_filter.mpr ⟨(by decide +kernel : ∀ w ∈ wsX50, w ∈ lw_tbl) w h, (by decide +kernel : ∀ w ∈ wsX50, goodWord w = true) w h⟩
theorem inX6 : ∀ w ∈ wsX60, w ∈ pw_all := fun w h => List.mem_filter.mpr ⟨(by decide +kernel : ∀ w ∈ wsX60, w ∈ lw_tbl) w h, (by decide +kernel : ∀ w ∈ wsX60, goodWord w = true) w h⟩
theorem inX7 : ∀ w ∈ wsX70, w ∈ pw_all := fun w h => List.mem_filter.mpr ⟨(by decide +kernel : ∀ w ∈ wsX70, w ∈ lw_tbl) w h, (by decide +kernel : ∀ w ∈ wsX70, goodWord w = true) w h⟩
theorem inX9 : ∀ w ∈ wsX90, w ∈ pw_all := fun w h => List.mem_filter.mpr ⟨(by decide +kernel : ∀ w ∈ wsX90, w ∈ lw_tbl) w h, (by decide +kernel : ∀ w ∈ wsX90, goodWord w = true) w h⟩
theorem inX10 : ∀ w ∈ wsX100, w ∈ pw_all := fun w h => List.mem_filter.mpr ⟨(by decide +kernel : ∀ w ∈ wsX100, w ∈ lw_tbl) w h, (by decide +kernel : ∀ w ∈ wsX100, goodWord w = true) w h⟩
end
theorem dJx4a65c_add_72be8_0 : decode cJx4a65c_add_72be8 0 = .ok (.iload_n 3, 1) := by decide +kernel
theorem dJx4a65c_add_72be8_1 : decode cJx4a65c_add_72be8 1 = .ok (.aload_n 2, 1) := by decide +kernel
theorem dJx4a65c_add_72be8_2 : decode cJx4a65c_add_72be8 2 = .ok (.arraylength, 1) := by decide +kernel
theorem dJx4a65c_add_72be8_3 : decode cJx4a65c_add_72be8 3 = .ok (.if_icmp .ne 8, 3) := by decide +kernel
theorem dJx4a65c_add_72be8_6 : decode cJx4a65c_add_72be8 6 = .ok (.aload_n 0, 1) := by decide +kernel
theorem dJx4a65c_add_72be8_7 : decode cJx4a65c_add_72be8 7 = .ok (.invokevirtual 129, 3) := by decide +kernel
theorem dJx4a65c_add_72be8_10 : decode cJx4a65c_add_72be8 10 = .ok (.astore_n 2, 1) := by decide +kernel
theorem dJx4a65c_add_72be8_11 : decode cJx4a65c_add_72be8 11 = .ok (.aload_n 2, 1) := by decide +kernel
theorem dJx4a65c_add_72be8_12 : decode cJx4a65c_add_72be8 12 = .ok (.iload_n 3, 1) := by decide +kernel
theorem dJx4a65c_add_72be8_13 : decode cJx4a65c_add_72be8 13 = .ok (.aload_n 1, 1) := by decide +kernel
theorem dJx4a65c_add_72be8_14 : decode cJx4a65c_add_72be8 14 = .ok (.aastore, 1) := by decide +kernel
theorem dJx4a65c_add_72be8_15 : decode cJx4a65c_add_72be8 15 = .ok (.aload_n 0, 1) := by decide +kernel
theorem dJx4a65c_add_72be8_16 : decode cJx4a65c_add_72be8 16 = .ok (.iload_n 3, 1) := by decide +kernel
theorem dJx4a65c_add_72be8_17 : decode cJx4a65c_add_72be8 17 = .ok (.iconst 1, 1) := by decide +kernel
theorem dJx4a65c_add_72be8_18 : decode cJx4a65c_add_72be8 18 = .ok (.iadd, 1) := by decide +kernel
theorem dJx4a65c_add_72be8_19 : decode cJx4a65c_add_72be8 19 = .ok (.putfield 48, 3) := by decide +kernel
theorem dJx4a65c_add_72be8_22 : decode cJx4a65c_add_72be8 22 = .ok (.return_, 1) := by decide +kernel
theorem dJx4a65c_add_9ea2d_0 : decode cJx4a65c_add_9ea2d 0 = .ok (.aload_n 0, 1) := by decide +kernel
theorem dJx4a65c_add_9ea2d_1 : decode cJx4a65c_add_9ea2d 1 = .ok (.dup, 1) := by decide +kernel
theorem dJx4a65c_add_9ea2d_2 : decode cJx4a65c_add_9ea2d 2 = .ok (.getfield 63, 3) := by decide +kernel
theorem dJx4a65c_add_9ea2d_5 : decode cJx4a65c_add_9ea2d 5 = .ok (.iconst 1, 1) := by decide +kernel
theorem dJx4a65c_add_9ea2d_6 : decode cJx4a65c_add_9ea2d 6 = .ok (.iadd, 1) := by decide +kernel
theorem dJx4a65c_add_9ea2d_7 : decode cJx4a65c_add_9ea2d 7 = .ok (.putfield 63, 3) := by decide +kernel
theorem dJx4a65c_add_9ea2d_10 : decode cJx4a65c_add_9ea2d 10 = .ok (.aload_n 0, 1) := by decide +kernel
theorem dJx4a65c_add_9ea2d_11 : decode cJx4a65c_add_9ea2d 11 = .ok (.aload_n 1, 1) := by decide +kernel
theorem dJx4a65c_add_9ea2d_12 : decode cJx4a65c_add_9ea2d 12 = .ok (.aload_n 0, 1) := by decide +kernel
theorem dJx4a65c_add_9ea2d_13 : decode cJx4a65c_add_9ea2d 13 = .ok (.getfield 9, 3) := by decide +kernel
theorem dJx4a65c_add_9ea2d_16 : decode cJx4a65c_add_9ea2d 16 = .ok (.aload_n 0, 1) := by decide +kernel
theorem dJx4a65c_add_9ea2d_17 : decode cJx4a65c_add_9ea2d 17 = .ok (.getfield 48, 3) := by decide +kernel
theorem dJx4a65c_add_9ea2d_20 : decode cJx4a65c_add_9ea2d 20 = .ok (.invokevirtual 131, 3) := by decide +kernel
theorem dJx4a65c_add_9ea2d_23 : decode cJx4a65c_add_9ea2d 23 = .ok (.iconst 1, 1) := by decide +kernel
theorem dJx4a65c_add_9ea2d_24 : decode cJx4a65c_add_9ea2d 24 = .ok (.ireturn, 1) := by decide +kernel
theorem dJx4a65c_grow_92f84_0 : decode cJx4a65c_grow_92f84 0 = .ok (.aload_n 0, 1) := by decide +kernel
theorem dJx4a65c_grow_92f84_1 : decode cJx4a65c_grow_92f84 1 = .ok (.getfield 9, 3) := by decide +kernel
theorem dJx4a65c_grow_92f84_4 : decode cJx4a65c_grow_92f84 4 = .ok (.arraylength, 1) := by decide +kernel
theorem dJx4a65c_grow_92f84_5 : decode cJx4a65c_grow_92f84 5 = .ok (.istore_n 2, 1) := by decide +kernel
theorem dJx4a65c_grow_92f84_6 : decode cJx4a65c_grow_92f84 6 = .ok (.iload_n 2, 1) := by decide +kernel
theorem dJx4a65c_grow_92f84_7 : decode cJx4a65c_grow_92f84 7 = .ok (.ifCond .gt 13, 3) := by decide +kernel
theorem dJx4a65c_grow_92f84_10 : decode cJx4a65c_grow_92f84 10 = .ok (.aload_n 0, 1) := by decide +kernel
theorem dJx4a65c_grow_92f84_11 : decode cJx4a65c_grow_92f84 11 = .ok (.getfield 9, 3) := by decide +kernel
theorem dJx4a65c_grow_92f84_14 : decode cJx4a65c_grow_92f84 14 = .ok (.getstatic 39, 3) := by decide +kernel
theorem dJx4a65c_grow_92f84_17 : decode cJx4a65c_grow_92f84 17 = .ok (.if_acmp .eq 28, 3) := by decide +kernel
theorem dJx4a65c_grow_92f84_45 : decode cJx4a65c_grow_92f84 45 = .ok (.aload_n 0, 1) := by decide +kernel
theorem dJx4a65c_grow_92f84_46 : decode cJx4a65c_grow_92f84 46 = .ok (.bipush 10, 2) := by decide +kernel
theorem dJx4a65c_grow_92f84_48 : decode cJx4a65c_grow_92f84 48 = .ok (.iload_n 1, 1) := by decide +kernel
theorem dJx4a65c_grow_92f84_49 : decode cJx4a65c_grow_92f84 49 = .ok (.invokestatic 79, 3) := by decide +kernel
theorem dJx4a65c_grow_92f84_52 : decode cJx4a65c_grow_92f84 52 = .ok (.anewarray 7, 3) := by decide +kernel
theorem dJx4a65c_grow_92f84_55 : decode cJx4a65c_grow_92f84 55 = .ok (.dup_x1, 1) := by decide +kernel
theorem dJx4a65c_grow_92f84_56 : decode cJx4a65c_grow_92f84 56 = .ok (.putfield 9, 3) := by decide +kernel
theorem dJx4a65c_grow_92f84_59 : decode cJx4a65c_grow_92f84 59 = .ok (.areturn, 1) := by decide +kernel
theorem dJx4a65c_grow_d5877_0 : decode cJx4a65c_grow_d5877 0 = .ok (.aload_n 0, 1) := by decide +kernel
theorem dJx4a65c_grow_d5877_1 : decode cJx4a65c_grow_d5877 1 = .ok (.aload_n 0, 1) := by decide +kernel
theorem dJx4a65c_grow_d5877_2 : decode cJx4a65c_grow_d5877 2 = .ok (.getfield 48, 3) := by decide +kernel
theorem dJx4a65c_grow_d5877_5 : decode cJx4a65c_grow_d5877 5 = .ok (.iconst 1, 1) := by decide +kernel
theorem dJx4a65c_grow_d5877_6 : decode cJx4a65c_grow_d5877 6 = .ok (.iadd, 1) := by decide +kernel
theorem dJx4a65c_grow_d5877_7 : decode cJx4a65c_grow_d5877 7 = .ok (.invokevirtual 69, 3) := by decide +kernel
theorem dJx4a65c_grow_d5877_10 : decode cJx4a65c_grow_d5877 10 = .ok (.areturn, 1) := by decide +kernel
theorem dJx4a65c_init_da8c8_0 : decode cJx4a65c_init_da8c8 0 = .ok (.aload_n 0, 1) := by decide +kernel
theorem dJx4a65c_init_da8c8_1 : decode cJx4a65c_init_da8c8 1 = .ok (.invokespecial 1, 3) := by decide +kernel
theorem dJx4a65c_init_da8c8_4 : decode cJx4a65c_init_da8c8 4 = .ok (.aload_n 0, 1) := by decide +kernel
theorem dJx4a65c_init_da8c8_5 : decode cJx4a65c_init_da8c8 5 = .ok (.getstatic 39, 3) := by decide +kernel
theorem dJx4a65c_init_da8c8_8 : decode cJx4a65c_init_da8c8 8 = .ok (.putfield 9, 3) := by decide +kernel
theorem dJx4a65c_init_da8c8_11 : decode cJx4a65c_init_da8c8 11 = .ok (.return_, 1) := by decide +kernel
theorem dJx4a65c_isEmpty_aae02_0 : decode cJx4a65c_isEmpty_aae02 0 = .ok (.aload_n 0, 1) := by decide +kernel
theorem dJx4a65c_isEmpty_aae02_1 : decode cJx4a65c_isEmpty_aae02 1 = .ok (.getfield 48, 3) := by decide +kernel
theorem dJx4a65c_isEmpty_aae02_4 : decode cJx4a65c_isEmpty_aae02 4 = .ok (.ifCond .ne 7, 3) := by decide +kernel
theorem dJx4a65c_isEmpty_aae02_12 : decode cJx4a65c_isEmpty_aae02 12 = .ok (.ireturn, 1) := by decide +kernel
theorem dJx4a65c_size_8abf5_0 : decode cJx4a65c_size_8abf5 0 = .ok (.aload_n 0, 1) := by decide +kernel
theorem dJx4a65c_size_8abf5_1 : decode cJx4a65c_size_8abf5 1 = .ok (.getfield 48, 3) := by decide +kernel
theorem dJx4a65c_size_8abf5_4 : decode cJx4a65c_size_8abf5 4 = .ok (.ireturn, 1) := by decide +kernel
theorem dJxa1e45_init_da8c8_0 : decode cJxa1e45_init_da8c8 0 = .ok (.aload_n 0, 1) := by decide +kernel
theorem dJxa1e45_init_da8c8_1 : decode cJxa1e45_init_da8c8 1 = .ok (.invokespecial 1, 3) := by decide +kernel
theorem dJxa1e45_init_da8c8_4 : decode cJxa1e45_init_da8c8 4 = .ok (.return_, 1) := by decide +kernel
theorem dJxc12de_init_da8c8_0 : decode cJxc12de_init_da8c8 0 = .ok (.aload_n 0, 1) := by decide +kernel
theorem dJxc12de_init_da8c8_1 : decode cJxc12de_init_da8c8 1 = .ok (.invokespecial 1, 3) := by decide +kernel
theorem dJxc12de_init_da8c8_4 : decode cJxc12de_init_da8c8 4 = .ok (.aload_n 0, 1) := by decide +kernel
theorem dJxc12de_init_da8c8_5 : decode cJxc12de_init_da8c8 5 = .ok (.iconst 0, 1) := by decide +kernel
theorem dJxc12de_init_da8c8_6 : decode cJxc12de_init_da8c8 6 = .ok (.putfield 7, 3) := by decide +kernel
theorem dJxc12de_init_da8c8_9 : decode cJxc12de_init_da8c8 9 = .ok (.return_, 1) := by decide +kernel
theorem dL_addMass_0 : decode cL_addMass 0 = .ok (.aload 5, 2) := by decide +kernel
theorem dL_addMass_2 : decode cL_addMass 2 = .ok (.iconst 0, 1) := by decide +kernel
theorem dL_addMass_3 : decode cL_addMass 3 = .ok (.aload_n 0, 1) := by decide +kernel
theorem dL_addMass_4 : decode cL_addMass 4 = .ok (.iload_n 1, 1) := by decide +kernel
theorem dL_addMass_5 : decode cL_addMass 5 = .ok (.iload_n 2, 1) := by decide +kernel
theorem dL_addMass_6 : decode cL_addMass 6 = .ok (.iload_n 3, 1) := by decide +kernel
theorem dL_addMass_7 : decode cL_addMass 7 = .ok (.iload 4, 2) := by decide +kernel
theorem dL_addMass_9 : decode cL_addMass 9 = .ok (.invokevirtual 15, 3) := by decide +kernel
theorem dL_addStructure_0 : decode cL_addStructure 0 = .ok (.aload_n 1, 1) := by decide +kernel
theorem dL_addStructure_1 : decode cL_addStructure 1 = .ok (.iconst 0, 1) := by decide +kernel
theorem dL_addStructure_2 : decode cL_addStructure 2 = .ok (.aload_n 0, 1) := by decide +kernel
theorem dL_addStructure_3 : decode cL_addStructure 3 = .ok (.invokevirtual 7, 3) := by decide +kernel
theorem dL_addStructure_6 : decode cL_addStructure 6 = .ok (.i2l, 1) := by decide +kernel
theorem dL_addStructure_7 : decode cL_addStructure 7 = .ok (.lastore, 1) := by decide +kernel
theorem dL_addStructure_8 : decode cL_addStructure 8 = .ok (.goto 6, 3) := by decide +kernel
theorem dL_addStructure_14 : decode cL_addStructure 14 = .ok (.iconst 0, 1) := by decide +kernel
theorem dL_addStructure_15 : decode cL_addStructure 15 = .ok (.ireturn, 1) := by decide +kernel
theorem dL_getResonance_0 : decode cL_getResonance 0 = .ok (.aload_n 2, 1) := by decide +kernel
theorem dL_getResonance_1 : decode cL_getResonance 1 = .ok (.iconst 0, 1) := by decide +kernel
theorem dL_getResonance_2 : decode cL_getResonance 2 = .ok (.aload_n 0, 1) := by decide +kernel
theorem dL_getResonance_3 : decode cL_getResonance 3 = .ok (.iload_n 1, 1) := by decide +kernel
theorem dL_getResonance_4 : decode cL_getResonance 4 = .ok (.invokevirtual 34, 3) := by decide +kernel
theorem dX0_init_0 : decode cX0_init 0 = .ok (.aload_n 0, 1) := by decide +kernel
theorem dX0_init_1 : decode cX0_init 1 = .ok (.invokespecial 3, 3) := by decide +kernel
theorem dX0_init_4 : decode cX0_init 4 = .ok (.aload_n 0, 1) := by decide +kernel
theorem dX0_init_5 : decode cX0_init 5 = .ok (.iconst 4, 1) := by decide +kernel
theorem dX0_init_6 : decode cX0_init 6 = .ok (.newarray .int, 2) := by decide +kernel
theorem dX0_init_8 : decode cX0_init 8 = .ok (.putfield 9, 3) := by decide +kernel
theorem dX0_init_11 : decode cX0_init 11 = .ok (.aload_n 0, 1) := by decide +kernel
theorem dX0_init_12 : decode cX0_init 12 = .ok (.iconst 4, 1) := by decide +kernel
theorem dX0_init_13 : decode cX0_init 13 = .ok (.newarray .int, 2) := by decide +kernel
theorem dX0_init_15 : decode cX0_init 15 = .ok (.putfield 15, 3) := by decide +kernel
theorem dX0_init_18 : decode cX0_init 18 = .ok (.aload_n 0, 1) := by decide +kernel
theorem dX0_init_19 : decode cX0_init 19 = .ok (.iconst 4, 1) := by decide +kernel
theorem dX0_init_20 : decode cX0_init 20 = .ok (.newarray .int, 2) := by decide +kernel
theorem dX0_init_22 : decode cX0_init 22 = .ok (.putfield 18, 3) := by decide +kernel
theorem dX0_init_25 : decode cX0_init 25 = .ok (.aload_n 0, 1) := by decide +kernel
theorem dX0_init_26 : decode cX0_init 26 = .ok (.iconst 4, 1) := by decide +kernel
theorem dX0_init_27 : decode cX0_init 27 = .ok (.newarray .int, 2) := by decide +kernel
theorem dX0_init_29 : decode cX0_init 29 = .ok (.putfield 21, 3) := by decide +kernel
theorem dX0_init_32 : decode cX0_init 32 = .ok (.aload_n 0, 1) := by decide +kernel
theorem dX0_init_33 : decode cX0_init 33 = .ok (.iconst 4, 1) := by decide +kernel
theorem dX0_init_34 : decode cX0_init 34 = .ok (.newarray .int, 2) := by decide +kernel
theorem dX0_init_36 : decode cX0_init 36 = .ok (.putfield 24, 3) := by decide +kernel
theorem dX0_init_39 : decode cX0_init 39 = .ok (.aload_n 0, 1) := by decide +kernel
theorem dX0_init_40 : decode cX0_init 40 = .ok (.iconst 4, 1) := by decide +kernel
theorem dX0_init_41 : decode cX0_init 41 = .ok (.newarray .long, 2) := by decide +kernel
theorem dX0_init_43 : decode cX0_init 43 = .ok (.putfield 27, 3) := by decide +kernel
theorem dX0_init_46 : decode cX0_init 46 = .ok (.aload_n 0, 1) := by decide +kernel
theorem dX0_init_47 : decode cX0_init 47 = .ok (.iconst 4, 1) := by decide +kernel
theorem dX0_init_48 : decode cX0_init 48 = .ok (.newarray .long, 2) := by decide +kernel
theorem dX0_init_50 : decode cX0_init 50 = .ok (.putfield 31, 3) := by decide +kernel
theorem dX0_init_53 : decode cX0_init 53 = .ok (.aload_n 0, 1) := by decide +kernel
theorem dX0_init_54 : decode cX0_init 54 = .ok (.iconst 4, 1) := by decide +kernel
theorem dX0_init_55 : decode cX0_init 55 = .ok (.newarray .long, 2) := by decide +kernel
theorem dX0_init_57 : decode cX0_init 57 = .ok (.putfield 34, 3) := by decide +kernel
theorem dX0_init_60 : decode cX0_init 60 = .ok (.aload_n 0, 1) := by decide +kernel
theorem dX0_init_61 : decode cX0_init 61 = .ok (.iconst 4, 1) := by decide +kernel
theorem dX0_init_62 : decode cX0_init 62 = .ok (.newarray .int, 2) := by decide +kernel
theorem dX0_init_64 : decode cX0_init 64 = .ok (.putfield 37, 3) := by decide +kernel
theorem dX0_init_67 : decode cX0_init 67 = .ok (.return_, 1) := by decide +kernel
theorem dX10_addMass_0 : decode cX10_addMass 0 = .ok (.aload_n 0, 1) := by decide +kernel
theorem dX10_addMass_1 : decode cX10_addMass 1 = .ok (.aload_n 0, 1) := by decide +kernel
theorem dX10_addMass_2 : decode cX10_addMass 2 = .ok (.iload_n 1, 1) := by decide +kernel
theorem dX10_addMass_3 : decode cX10_addMass 3 = .ok (.invokevirtual 40, 3) := by decide +kernel
theorem dX10_addMass_6 : decode cX10_addMass 6 = .ok (.iconst 1, 1) := by decide +kernel
theorem dX10_addMass_7 : decode cX10_addMass 7 = .ok (.invokevirtual 60, 3) := by decide +kernel
theorem dX10_addMass_10 : decode cX10_addMass 10 = .ok (.ifCond .ne 82, 3) := by decide +kernel
theorem dX10_addStructure_0 : decode cX10_addStructure 0 = .ok (.aload_n 0, 1) := by decide +kernel
theorem dX10_addStructure_1 : decode cX10_addStructure 1 = .ok (.aload_n 0, 1) := by decide +kernel
theorem dX10_addStructure_2 : decode cX10_addStructure 2 = .ok (.getfield 10, 3) := by decide +kernel
theorem dX10_addStructure_5 : decode cX10_addStructure 5 = .ok (.invokevirtual 32, 3) := by decide +kernel
theorem dX10_addStructure_8 : decode cX10_addStructure 8 = .ok (.bipush 6, 2) := by decide +kernel
theorem dX10_addStructure_10 : decode cX10_addStructure 10 = .ok (.if_icmp .ne 7, 3) := by decide +kernel
theorem dX10_addStructure_17 : decode cX10_addStructure 17 = .ok (.iconst 0, 1) := by decide +kernel
theorem dX10_addStructure_18 : decode cX10_addStructure 18 = .ok (.iconst 1, 1) := by decide +kernel
theorem dX10_addStructure_19 : decode cX10_addStructure 19 = .ok (.invokevirtual 60, 3) := by decide +kernel
theorem dX10_addStructure_22 : decode cX10_addStructure 22 = .ok (.ifCond .eq 5, 3) := by decide +kernel
theorem dX10_addStructure_27 : decode cX10_addStructure 27 = .ok (.aload_n 0, 1) := by decide +kernel
theorem dX10_addStructure_28 : decode cX10_addStructure 28 = .ok (.getfield 10, 3) := by decide +kernel
theorem dX10_addStructure_31 : decode cX10_addStructure 31 = .ok (.new 48, 3) := by decide +kernel
theorem dX10_addStructure_34 : decode cX10_addStructure 34 = .ok (.dup, 1) := by decide +kernel
theorem dX10_addStructure_35 : decode cX10_addStructure 35 = .ok (.invokespecial 64, 3) := by decide +kernel
theorem dX10_addStructure_38 : decode cX10_addStructure 38 = .ok (.invokevirtual 65, 3) := by decide +kernel
theorem dX10_addStructure_41 : decode cX10_addStructure 41 = .ok (.pop, 1) := by decide +kernel
theorem dX10_addStructure_42 : decode cX10_addStructure 42 = .ok (.aload_n 0, 1) := by decide +kernel
theorem dX10_addStructure_43 : decode cX10_addStructure 43 = .ok (.getfield 10, 3) := by decide +kernel
theorem dX10_addStructure_46 : decode cX10_addStructure 46 = .ok (.invokevirtual 32, 3) := by decide +kernel
theorem dX10_addStructure_49 : decode cX10_addStructure 49 = .ok (.iconst 1, 1) := by decide +kernel
theorem dX10_addStructure_50 : decode cX10_addStructure 50 = .ok (.isub, 1) := by decide +kernel
theorem dX10_addStructure_51 : decode cX10_addStructure 51 = .ok (.ireturn, 1) := by decide +kernel
theorem dX10_getResonance_0 : decode cX10_getResonance 0 = .ok (.aload_n 0, 1) := by decide +kernel
theorem dX10_getResonance_1 : decode cX10_getResonance 1 = .ok (.aload_n 0, 1) := by decide +kernel
theorem dX10_getResonance_2 : decode cX10_getResonance 2 = .ok (.iload_n 1, 1) := by decide +kernel
theorem dX10_getResonance_3 : decode cX10_getResonance 3 = .ok (.invokevirtual 40, 3) := by decide +kernel
theorem dX10_getResonance_6 : decode cX10_getResonance 6 = .ok (.iconst 1, 1) := by decide +kernel
theorem dX10_getResonance_7 : decode cX10_getResonance 7 = .ok (.invokevirtual 60, 3) := by decide +kernel
theorem dX10_getResonance_10 : decode cX10_getResonance 10 = .ok (.ifCond .ne 16, 3) := by decide +kernel
theorem dX10_getResonance_35 : decode cX10_getResonance 35 = .ok (.ireturn, 1) := by decide +kernel
theorem dX10_init_0 : decode cX10_init 0 = .ok (.aload_n 0, 1) := by decide +kernel
theorem dX10_init_1 : decode cX10_init 1 = .ok (.invokespecial 1, 3) := by decide +kernel
theorem dX10_init_4 : decode cX10_init 4 = .ok (.aload_n 0, 1) := by decide +kernel
theorem dX10_init_5 : decode cX10_init 5 = .ok (.new 7, 3) := by decide +kernel
theorem dX10_init_8 : decode cX10_init 8 = .ok (.dup, 1) := by decide +kernel
theorem dX10_init_9 : decode cX10_init 9 = .ok (.invokespecial 9, 3) := by decide +kernel
theorem dX10_init_12 : decode cX10_init 12 = .ok (.putfield 10, 3) := by decide +kernel
theorem dX10_init_15 : decode cX10_init 15 = .ok (.aload_n 0, 1) := by decide +kernel
theorem dX10_init_16 : decode cX10_init 16 = .ok (.new 7, 3) := by decide +kernel
theorem dX10_init_19 : decode cX10_init 19 = .ok (.dup, 1) := by decide +kernel
theorem dX10_init_20 : decode cX10_init 20 = .ok (.invokespecial 9, 3) := by decide +kernel
theorem dX10_init_23 : decode cX10_init 23 = .ok (.putfield 16, 3) := by decide +kernel
theorem dX10_init_26 : decode cX10_init 26 = .ok (.aload_n 0, 1) := by decide +kernel
theorem dX10_init_27 : decode cX10_init 27 = .ok (.new 7, 3) := by decide +kernel
theorem dX10_init_30 : decode cX10_init 30 = .ok (.dup, 1) := by decide +kernel
theorem dX10_init_31 : decode cX10_init 31 = .ok (.invokespecial 9, 3) := by decide +kernel
theorem dX10_init_34 : decode cX10_init 34 = .ok (.putfield 19, 3) := by decide +kernel
theorem dX10_init_37 : decode cX10_init 37 = .ok (.aload_n 0, 1) := by decide +kernel
theorem dX10_init_38 : decode cX10_init 38 = .ok (.new 7, 3) := by decide +kernel
theorem dX10_init_41 : decode cX10_init 41 = .ok (.dup, 1) := by decide +kernel
theorem dX10_init_42 : decode cX10_init 42 = .ok (.invokespecial 9, 3) := by decide +kernel
theorem dX10_init_45 : decode cX10_init 45 = .ok (.putfield 22, 3) := by decide +kernel
theorem dX10_init_48 : decode cX10_init 48 = .ok (.aload_n 0, 1) := by decide +kernel
theorem dX10_init_49 : decode cX10_init 49 = .ok (.new 7, 3) := by decide +kernel
theorem dX10_init_52 : decode cX10_init 52 = .ok (.dup, 1) := by decide +kernel
theorem dX10_init_53 : decode cX10_init 53 = .ok (.invokespecial 9, 3) := by decide +kernel
theorem dX10_init_56 : decode cX10_init 56 = .ok (.putfield 25, 3) := by decide +kernel
theorem dX10_init_59 : decode cX10_init 59 = .ok (.return_, 1) := by decide +kernel
theorem dX10_isIn_0 : decode cX10_isIn 0 = .ok (.iload_n 0, 1) := by decide +kernel
theorem dX10_isIn_1 : decode cX10_isIn 1 = .ok (.iload_n 1, 1) := by decide +kernel
theorem dX10_isIn_2 : decode cX10_isIn 2 = .ok (.if_icmp .lt 12, 3) := by decide +kernel
theorem dX10_isIn_5 : decode cX10_isIn 5 = .ok (.iload_n 0, 1) := by decide +kernel
theorem dX10_isIn_6 : decode cX10_isIn 6 = .ok (.iload_n 2, 1) := by decide +kernel
theorem dX10_isIn_7 : decode cX10_isIn 7 = .ok (.if_icmp .gt 7, 3) := by decide +kernel
theorem dX10_isIn_10 : decode cX10_isIn 10 = .ok (.iconst 1, 1) := by decide +kernel
theorem dX10_isIn_11 : decode cX10_isIn 11 = .ok (.goto 4, 3) := by decide +kernel
theorem dX10_isIn_15 : decode cX10_isIn 15 = .ok (.ireturn, 1) := by decide +kernel
theorem dX10_isNoStructure_0 : decode cX10_isNoStructure 0 = .ok (.iload_n 1, 1) := by decide +kernel
theorem dX10_isNoStructure_1 : decode cX10_isNoStructure 1 = .ok (.iconst 0, 1) := by decide +kernel
theorem dX10_isNoStructure_2 : decode cX10_isNoStructure 2 = .ok (.aload_n 0, 1) := by decide +kernel
theorem dX10_isNoStructure_3 : decode cX10_isNoStructure 3 = .ok (.getfield 10, 3) := by decide +kernel
theorem dX10_isNoStructure_6 : decode cX10_isNoStructure 6 = .ok (.invokevirtual 32, 3) := by decide +kernel
theorem dX10_isNoStructure_9 : decode cX10_isNoStructure 9 = .ok (.iconst 1, 1) := by decide +kernel
theorem dX10_isNoStructure_10 : decode cX10_isNoStructure 10 = .ok (.isub, 1) := by decide +kernel
theorem dX10_isNoStructure_11 : decode cX10_isNoStructure 11 = .ok (.invokestatic 36, 3) := by decide +kernel
theorem dX10_isNoStructure_14 : decode cX10_isNoStructure 14 = .ok (.ifCond .ne 7, 3) := by decide +kernel
theorem dX10_isNoStructure_22 : decode cX10_isNoStructure 22 = .ok (.ireturn, 1) := by decide +kernel
theorem dX10_isThrown_0 : decode cX10_isThrown 0 = .ok (.aload_n 0, 1) := by decide +kernel
theorem dX10_isThrown_1 : decode cX10_isThrown 1 = .ok (.iload_n 1, 1) := by decide +kernel
theorem dX10_isThrown_2 : decode cX10_isThrown 2 = .ok (.ifCond .eq 7, 3) := by decide +kernel
theorem dX10_isThrown_9 : decode cX10_isThrown 9 = .ok (.iconst 0, 1) := by decide +kernel
theorem dX10_isThrown_10 : decode cX10_isThrown 10 = .ok (.putfield 28, 3) := by decide +kernel
theorem dX10_isThrown_13 : decode cX10_isThrown 13 = .ok (.iload_n 1, 1) := by decide +kernel
theorem dX10_isThrown_14 : decode cX10_isThrown 14 = .ok (.ireturn, 1) := by decide +kernel
theorem dX1_init_0 : decode cX1_init 0 = .ok (.aload_n 0, 1) := by decide +kernel
theorem dX1_init_1 : decode cX1_init 1 = .ok (.invokespecial 3, 3) := by decide +kernel
theorem dX1_init_4 : decode cX1_init 4 = .ok (.aload_n 0, 1) := by decide +kernel
theorem dX1_init_5 : decode cX1_init 5 = .ok (.bipush 89, 2) := by decide +kernel
theorem dX1_init_7 : decode cX1_init 7 = .ok (.newarray .int, 2) := by decide +kernel
theorem dX1_init_9 : decode cX1_init 9 = .ok (.putfield 9, 3) := by decide +kernel
theorem dX1_init_12 : decode cX1_init 12 = .ok (.aload_n 0, 1) := by decide +kernel
theorem dX1_init_13 : decode cX1_init 13 = .ok (.bipush 89, 2) := by decide +kernel
theorem dX1_init_15 : decode cX1_init 15 = .ok (.newarray .int, 2) := by decide +kernel
theorem dX1_init_17 : decode cX1_init 17 = .ok (.putfield 15, 3) := by decide +kernel
theorem dX1_init_20 : decode cX1_init 20 = .ok (.return_, 1) := by decide +kernel
theorem dX5_init_0 : decode cX5_init 0 = .ok (.aload_n 0, 1) := by decide +kernel
theorem dX5_init_1 : decode cX5_init 1 = .ok (.invokespecial 3, 3) := by decide +kernel
theorem dX5_init_4 : decode cX5_init 4 = .ok (.aload_n 0, 1) := by decide +kernel
theorem dX5_init_5 : decode cX5_init 5 = .ok (.new 9, 3) := by decide +kernel
theorem dX5_init_8 : decode cX5_init 8 = .ok (.dup, 1) := by decide +kernel
theorem dX5_init_9 : decode cX5_init 9 = .ok (.invokespecial 11, 3) := by decide +kernel
theorem dX5_init_12 : decode cX5_init 12 = .ok (.putfield 12, 3) := by decide +kernel
theorem dX5_init_15 : decode cX5_init 15 = .ok (.aload_n 0, 1) := by decide +kernel
theorem dX5_init_16 : decode cX5_init 16 = .ok (.bipush 8, 2) := by decide +kernel
theorem dX5_init_18 : decode cX5_init 18 = .ok (.newarray .int, 2) := by decide +kernel
theorem dX5_init_20 : decode cX5_init 20 = .ok (.putfield 18, 3) := by decide +kernel
theorem dX5_init_23 : decode cX5_init 23 = .ok (.aload_n 0, 1) := by decide +kernel
theorem dX5_init_24 : decode cX5_init 24 = .ok (.ldc 22, 2) := by decide +kernel
theorem dX5_init_26 : decode cX5_init 26 = .ok (.putfield 23, 3) := by decide +kernel
theorem dX5_init_29 : decode cX5_init 29 = .ok (.return_, 1) := by decide +kernel
theorem dX6_addMass_0 : decode cX6_addMass 0 = .ok (.aload_n 0, 1) := by decide +kernel
theorem dX6_addMass_1 : decode cX6_addMass 1 = .ok (.iload_n 1, 1) := by decide +kernel
theorem dX6_addMass_2 : decode cX6_addMass 2 = .ok (.invokevirtual 61, 3) := by decide +kernel
theorem dX6_addStructure_0 : decode cX6_addStructure 0 = .ok (.aload_n 0, 1) := by decide +kernel
theorem dX6_addStructure_1 : decode cX6_addStructure 1 = .ok (.getfield 10, 3) := by decide +kernel
theorem dX6_addStructure_4 : decode cX6_addStructure 4 = .ok (.invokevirtual 43, 3) := by decide +kernel
theorem dX6_addStructure_7 : decode cX6_addStructure 7 = .ok (.bipush 6, 2) := by decide +kernel
theorem dX6_addStructure_9 : decode cX6_addStructure 9 = .ok (.if_icmp .lt 13, 3) := by decide +kernel
theorem dX6_addStructure_22 : decode cX6_addStructure 22 = .ok (.aload_n 0, 1) := by decide +kernel
theorem dX6_addStructure_23 : decode cX6_addStructure 23 = .ok (.getfield 10, 3) := by decide +kernel
theorem dX6_addStructure_26 : decode cX6_addStructure 26 = .ok (.new 54, 3) := by decide +kernel
theorem dX6_addStructure_29 : decode cX6_addStructure 29 = .ok (.dup, 1) := by decide +kernel
theorem dX6_addStructure_30 : decode cX6_addStructure 30 = .ok (.invokespecial 56, 3) := by decide +kernel
theorem dX6_addStructure_33 : decode cX6_addStructure 33 = .ok (.invokevirtual 57, 3) := by decide +kernel
theorem dX6_addStructure_36 : decode cX6_addStructure 36 = .ok (.pop, 1) := by decide +kernel
theorem dX6_addStructure_37 : decode cX6_addStructure 37 = .ok (.aload_n 0, 1) := by decide +kernel
theorem dX6_addStructure_38 : decode cX6_addStructure 38 = .ok (.getfield 10, 3) := by decide +kernel
theorem dX6_addStructure_41 : decode cX6_addStructure 41 = .ok (.invokevirtual 43, 3) := by decide +kernel
theorem dX6_addStructure_44 : decode cX6_addStructure 44 = .ok (.iconst 1, 1) := by decide +kernel
theorem dX6_addStructure_45 : decode cX6_addStructure 45 = .ok (.isub, 1) := by decide +kernel
theorem dX6_addStructure_46 : decode cX6_addStructure 46 = .ok (.ireturn, 1) := by decide +kernel
theorem dX6_checkRange_0 : decode cX6_checkRange 0 = .ok (.iload_n 0, 1) := by decide +kernel
theorem dX6_checkRange_1 : decode cX6_checkRange 1 = .ok (.iload_n 1, 1) := by decide +kernel
theorem dX6_checkRange_2 : decode cX6_checkRange 2 = .ok (.if_icmp .lt 8, 3) := by decide +kernel
theorem dX6_checkRange_5 : decode cX6_checkRange 5 = .ok (.iload_n 0, 1) := by decide +kernel
theorem dX6_checkRange_6 : decode cX6_checkRange 6 = .ok (.iload_n 2, 1) := by decide +kernel
theorem dX6_checkRange_7 : decode cX6_checkRange 7 = .ok (.if_icmp .le 14, 3) := by decide +kernel
theorem dX6_checkRange_21 : decode cX6_checkRange 21 = .ok (.return_, 1) := by decide +kernel
theorem dX6_getResonance_0 : decode cX6_getResonance 0 = .ok (.aload_n 0, 1) := by decide +kernel
theorem dX6_getResonance_1 : decode cX6_getResonance 1 = .ok (.iload_n 1, 1) := by decide +kernel
theorem dX6_getResonance_2 : decode cX6_getResonance 2 = .ok (.invokevirtual 61, 3) := by decide +kernel
theorem dX6_init_0 : decode cX6_init 0 = .ok (.aload_n 0, 1) := by decide +kernel
theorem dX6_init_1 : decode cX6_init 1 = .ok (.invokespecial 1, 3) := by decide +kernel
theorem dX6_init_4 : decode cX6_init 4 = .ok (.aload_n 0, 1) := by decide +kernel
theorem dX6_init_5 : decode cX6_init 5 = .ok (.new 7, 3) := by decide +kernel
theorem dX6_init_8 : decode cX6_init 8 = .ok (.dup, 1) := by decide +kernel
theorem dX6_init_9 : decode cX6_init 9 = .ok (.invokespecial 9, 3) := by decide +kernel
theorem dX6_init_12 : decode cX6_init 12 = .ok (.putfield 10, 3) := by decide +kernel
theorem dX6_init_15 : decode cX6_init 15 = .ok (.aload_n 0, 1) := by decide +kernel
theorem dX6_init_16 : decode cX6_init 16 = .ok (.new 7, 3) := by decide +kernel
theorem dX6_init_19 : decode cX6_init 19 = .ok (.dup, 1) := by decide +kernel
theorem dX6_init_20 : decode cX6_init 20 = .ok (.invokespecial 9, 3) := by decide +kernel
theorem dX6_init_23 : decode cX6_init 23 = .ok (.putfield 16, 3) := by decide +kernel
theorem dX6_init_26 : decode cX6_init 26 = .ok (.aload_n 0, 1) := by decide +kernel
theorem dX6_init_27 : decode cX6_init 27 = .ok (.new 7, 3) := by decide +kernel
theorem dX6_init_30 : decode cX6_init 30 = .ok (.dup, 1) := by decide +kernel
theorem dX6_init_31 : decode cX6_init 31 = .ok (.invokespecial 9, 3) := by decide +kernel
theorem dX6_init_34 : decode cX6_init 34 = .ok (.putfield 19, 3) := by decide +kernel
theorem dX6_init_37 : decode cX6_init 37 = .ok (.aload_n 0, 1) := by decide +kernel
theorem dX6_init_38 : decode cX6_init 38 = .ok (.new 7, 3) := by decide +kernel
theorem dX6_init_41 : decode cX6_init 41 = .ok (.dup, 1) := by decide +kernel
theorem dX6_init_42 : decode cX6_init 42 = .ok (.invokespecial 9, 3) := by decide +kernel
theorem dX6_init_45 : decode cX6_init 45 = .ok (.putfield 22, 3) := by decide +kernel
theorem dX6_init_48 : decode cX6_init 48 = .ok (.aload_n 0, 1) := by decide +kernel
theorem dX6_init_49 : decode cX6_init 49 = .ok (.bipush 24, 2) := by decide +kernel
theorem dX6_init_51 : decode cX6_init 51 = .ok (.newarray .int, 2) := by decide +kernel
theorem dX6_init_53 : decode cX6_init 53 = .ok (.putfield 25, 3) := by decide +kernel
theorem dX6_init_56 : decode cX6_init 56 = .ok (.aload_n 0, 1) := by decide +kernel
theorem dX6_init_57 : decode cX6_init 57 = .ok (.new 29, 3) := by decide +kernel
theorem dX6_init_60 : decode cX6_init 60 = .ok (.dup, 1) := by decide +kernel
theorem dX6_init_61 : decode cX6_init 61 = .ok (.invokespecial 31, 3) := by decide +kernel
theorem dX6_init_64 : decode cX6_init 64 = .ok (.putfield 32, 3) := by decide +kernel
theorem dX6_init_67 : decode cX6_init 67 = .ok (.aload_n 0, 1) := by decide +kernel
theorem dX6_init_68 : decode cX6_init 68 = .ok (.new 36, 3) := by decide +kernel
theorem dX6_init_71 : decode cX6_init 71 = .ok (.dup, 1) := by decide +kernel
theorem dX6_init_72 : decode cX6_init 72 = .ok (.invokespecial 38, 3) := by decide +kernel
theorem dX6_init_75 : decode cX6_init 75 = .ok (.putfield 39, 3) := by decide +kernel
theorem dX6_init_78 : decode cX6_init 78 = .ok (.return_, 1) := by decide +kernel
theorem dX6_structureAt_0 : decode cX6_structureAt 0 = .ok (.iload_n 1, 1) := by decide +kernel
theorem dX6_structureAt_1 : decode cX6_structureAt 1 = .ok (.ifCond .lt 14, 3) := by decide +kernel
theorem dX6_structureAt_4 : decode cX6_structureAt 4 = .ok (.iload_n 1, 1) := by decide +kernel
theorem dX6_structureAt_5 : decode cX6_structureAt 5 = .ok (.aload_n 0, 1) := by decide +kernel
theorem dX6_structureAt_6 : decode cX6_structureAt 6 = .ok (.getfield 10, 3) := by decide +kernel
theorem dX6_structureAt_9 : decode cX6_structureAt 9 = .ok (.invokevirtual 43, 3) := by decide +kernel
theorem dX6_structureAt_12 : decode cX6_structureAt 12 = .ok (.if_icmp .lt 14, 3) := by decide +kernel
theorem dX9_init_0 : decode cX9_init 0 = .ok (.aload_n 0, 1) := by decide +kernel
theorem dX9_init_1 : decode cX9_init 1 = .ok (.invokespecial 3, 3) := by decide +kernel
theorem dX9_init_4 : decode cX9_init 4 = .ok (.aload_n 0, 1) := by decide +kernel
theorem dX9_init_5 : decode cX9_init 5 = .ok (.new 9, 3) := by decide +kernel
theorem dX9_init_8 : decode cX9_init 8 = .ok (.dup, 1) := by decide +kernel
theorem dX9_init_9 : decode cX9_init 9 = .ok (.invokespecial 11, 3) := by decide +kernel
theorem dX9_init_12 : decode cX9_init 12 = .ok (.putfield 12, 3) := by decide +kernel
theorem dX9_init_15 : decode cX9_init 15 = .ok (.aload_n 0, 1) := by decide +kernel
theorem dX9_init_16 : decode cX9_init 16 = .ok (.bipush 8, 2) := by decide +kernel
theorem dX9_init_18 : decode cX9_init 18 = .ok (.newarray .int, 2) := by decide +kernel
theorem dX9_init_20 : decode cX9_init 20 = .ok (.putfield 18, 3) := by decide +kernel
theorem dX9_init_23 : decode cX9_init 23 = .ok (.aload_n 0, 1) := by decide +kernel
theorem dX9_init_24 : decode cX9_init 24 = .ok (.ldc 22, 2) := by decide +kernel
theorem dX9_init_26 : decode cX9_init 26 = .ok (.putfield 23, 3) := by decide +kernel
theorem dX9_init_29 : decode cX9_init 29 = .ok (.aload_n 0, 1) := by decide +kernel
theorem dX9_init_30 : decode cX9_init 30 = .ok (.iconst (-1), 1) := by decide +kernel
theorem dX9_init_31 : decode cX9_init 31 = .ok (.putfield 27, 3) := by decide +kernel
theorem dX9_init_34 : decode cX9_init 34 = .ok (.return_, 1) := by decide +kernel
theorem dL_law_0 : decode cL_law 0 = .ok (.new 8, 3) := by decide +kernel
theorem dL_law_3 : decode cL_law 3 = .ok (.dup, 1) := by decide +kernel
theorem dL_law_4 : decode cL_law 4 = .ok (.invokespecial 156, 3) := by decide +kernel
theorem dL_law_7 : decode cL_law 7 = .ok (.astore_n 1, 1) := by decide +kernel
theorem dL_law_8 : decode cL_law 8 = .ok (.new 157, 3) := by decide +kernel
theorem dL_law_11 : decode cL_law 11 = .ok (.dup, 1) := by decide +kernel
theorem dL_law_12 : decode cL_law 12 = .ok (.invokespecial 159, 3) := by decide +kernel
theorem dL_law_15 : decode cL_law 15 = .ok (.astore_n 2, 1) := by decide +kernel
theorem dL_law_16 : decode cL_law 16 = .ok (.iconst 1, 1) := by decide +kernel
theorem dL_law_17 : decode cL_law 17 = .ok (.newarray .long, 2) := by decide +kernel
theorem dL_law_19 : decode cL_law 19 = .ok (.astore_n 3, 1) := by decide +kernel
theorem dL_law_20 : decode cL_law 20 = .ok (.iconst 1, 1) := by decide +kernel
theorem dL_law_21 : decode cL_law 21 = .ok (.newarray .double, 2) := by decide +kernel
theorem dL_law_23 : decode cL_law 23 = .ok (.astore 4, 2) := by decide +kernel
theorem dL_law_25 : decode cL_law 25 = .ok (.iconst 0, 1) := by decide +kernel
theorem dL_law_26 : decode cL_law 26 = .ok (.istore 5, 2) := by decide +kernel
theorem dL_law_28 : decode cL_law 28 = .ok (.iload 5, 2) := by decide +kernel
theorem dL_law_30 : decode cL_law 30 = .ok (.aload_n 0, 1) := by decide +kernel
theorem dL_law_31 : decode cL_law 31 = .ok (.arraylength, 1) := by decide +kernel
theorem dL_law_32 : decode cL_law 32 = .ok (.iconst 5, 1) := by decide +kernel
theorem dL_law_33 : decode cL_law 33 = .ok (.isub, 1) := by decide +kernel
theorem dL_law_34 : decode cL_law 34 = .ok (.if_icmp .gt 1881, 3) := by decide +kernel
theorem dL_law_37 : decode cL_law 37 = .ok (.aload_n 0, 1) := by decide +kernel
theorem dL_law_38 : decode cL_law 38 = .ok (.iload 5, 2) := by decide +kernel
theorem dL_law_40 : decode cL_law 40 = .ok (.iaload, 1) := by decide +kernel
theorem dL_law_41 : decode cL_law 41 = .ok (.bipush 63, 2) := by decide +kernel
theorem dL_law_43 : decode cL_law 43 = .ok (.iand, 1) := by decide +kernel
theorem dL_law_44 : decode cL_law 44 = .ok (.tableswitch 1865 0 45 #[200, 216, 280, 320, 360, 412, 440, 504, 560, 600, 616, 668, 720, 774, 826, 866, 906, 946, 986, 1014, 1042, 1070, 1098, 1138, 1190, 1230, 1258, 1298, 1326, 1354, 1394, 1458, 1486, 1499, 1527, 1555, 1568, 1581, 1621, 1649, 1677, 1705, 1733, 1762, 1839, 1852], 200) := by decide +kernel
theorem dL_law_244 : decode cL_law 244 = .ok (.aload_n 1, 1) := by decide +kernel
theorem dL_law_245 : decode cL_law 245 = .ok (.aload_n 3, 1) := by decide +kernel
theorem dL_law_246 : decode cL_law 246 = .ok (.invokestatic 160, 3) := by decide +kernel
theorem dL_law_249 : decode cL_law 249 = .ok (.istore 6, 2) := by decide +kernel
theorem dL_law_251 : decode cL_law 251 = .ok (.aload_n 2, 1) := by decide +kernel
theorem dL_law_252 : decode cL_law 252 = .ok (.invokevirtual 165, 3) := by decide +kernel
theorem dL_law_255 : decode cL_law 255 = .ok (.istore 7, 2) := by decide +kernel
theorem dL_law_257 : decode cL_law 257 = .ok (.goto 1652, 3) := by decide +kernel
theorem dL_law_260 : decode cL_law 260 = .ok (.aload_n 1, 1) := by decide +kernel
theorem dL_law_261 : decode cL_law 261 = .ok (.aload_n 0, 1) := by decide +kernel
theorem dL_law_262 : decode cL_law 262 = .ok (.iload 5, 2) := by decide +kernel
theorem dL_law_264 : decode cL_law 264 = .ok (.iconst 1, 1) := by decide +kernel
theorem dL_law_265 : decode cL_law 265 = .ok (.iadd, 1) := by decide +kernel
theorem dL_law_266 : decode cL_law 266 = .ok (.iaload, 1) := by decide +kernel
theorem dL_law_267 : decode cL_law 267 = .ok (.aload_n 0, 1) := by decide +kernel
theorem dL_law_268 : decode cL_law 268 = .ok (.iload 5, 2) := by decide +kernel
theorem dL_law_270 : decode cL_law 270 = .ok (.iconst 2, 1) := by decide +kernel
theorem dL_law_271 : decode cL_law 271 = .ok (.iadd, 1) := by decide +kernel
theorem dL_law_272 : decode cL_law 272 = .ok (.iaload, 1) := by decide +kernel
theorem dL_law_273 : decode cL_law 273 = .ok (.aload_n 0, 1) := by decide +kernel
theorem dL_law_274 : decode cL_law 274 = .ok (.iload 5, 2) := by decide +kernel
theorem dL_law_276 : decode cL_law 276 = .ok (.iconst 3, 1) := by decide +kernel
theorem dL_law_277 : decode cL_law 277 = .ok (.iadd, 1) := by decide +kernel
theorem dL_law_278 : decode cL_law 278 = .ok (.iaload, 1) := by decide +kernel
theorem dL_law_279 : decode cL_law 279 = .ok (.aload_n 0, 1) := by decide +kernel
theorem dL_law_280 : decode cL_law 280 = .ok (.iload 5, 2) := by decide +kernel
theorem dL_law_282 : decode cL_law 282 = .ok (.iconst 4, 1) := by decide +kernel
theorem dL_law_283 : decode cL_law 283 = .ok (.iadd, 1) := by decide +kernel
theorem dL_law_284 : decode cL_law 284 = .ok (.iaload, 1) := by decide +kernel
theorem dL_law_285 : decode cL_law 285 = .ok (.aload_n 3, 1) := by decide +kernel
theorem dL_law_286 : decode cL_law 286 = .ok (.invokestatic 166, 3) := by decide +kernel
theorem dL_law_289 : decode cL_law 289 = .ok (.istore 6, 2) := by decide +kernel
theorem dL_law_291 : decode cL_law 291 = .ok (.aload_n 2, 1) := by decide +kernel
theorem dL_law_292 : decode cL_law 292 = .ok (.aload_n 0, 1) := by decide +kernel
theorem dL_law_293 : decode cL_law 293 = .ok (.iload 5, 2) := by decide +kernel
theorem dL_law_295 : decode cL_law 295 = .ok (.iconst 1, 1) := by decide +kernel
theorem dL_law_296 : decode cL_law 296 = .ok (.iadd, 1) := by decide +kernel
theorem dL_law_297 : decode cL_law 297 = .ok (.iaload, 1) := by decide +kernel
theorem dL_law_298 : decode cL_law 298 = .ok (.aload_n 0, 1) := by decide +kernel
theorem dL_law_299 : decode cL_law 299 = .ok (.iload 5, 2) := by decide +kernel
theorem dL_law_301 : decode cL_law 301 = .ok (.iconst 2, 1) := by decide +kernel
theorem dL_law_302 : decode cL_law 302 = .ok (.iadd, 1) := by decide +kernel
theorem dL_law_303 : decode cL_law 303 = .ok (.iaload, 1) := by decide +kernel
theorem dL_law_304 : decode cL_law 304 = .ok (.aload_n 0, 1) := by decide +kernel
theorem dL_law_305 : decode cL_law 305 = .ok (.iload 5, 2) := by decide +kernel
theorem dL_law_307 : decode cL_law 307 = .ok (.iconst 3, 1) := by decide +kernel
theorem dL_law_308 : decode cL_law 308 = .ok (.iadd, 1) := by decide +kernel
theorem dL_law_309 : decode cL_law 309 = .ok (.iaload, 1) := by decide +kernel
theorem dL_law_310 : decode cL_law 310 = .ok (.aload_n 0, 1) := by decide +kernel
theorem dL_law_311 : decode cL_law 311 = .ok (.iload 5, 2) := by decide +kernel
theorem dL_law_313 : decode cL_law 313 = .ok (.iconst 4, 1) := by decide +kernel
theorem dL_law_314 : decode cL_law 314 = .ok (.iadd, 1) := by decide +kernel
theorem dL_law_315 : decode cL_law 315 = .ok (.iaload, 1) := by decide +kernel
theorem dL_law_316 : decode cL_law 316 = .ok (.invokevirtual 169, 3) := by decide +kernel
theorem dL_law_319 : decode cL_law 319 = .ok (.istore 7, 2) := by decide +kernel
theorem dL_law_321 : decode cL_law 321 = .ok (.goto 1588, 3) := by decide +kernel
theorem dL_law_456 : decode cL_law 456 = .ok (.aload_n 1, 1) := by decide +kernel
theorem dL_law_457 : decode cL_law 457 = .ok (.aload_n 0, 1) := by decide +kernel
theorem dL_law_458 : decode cL_law 458 = .ok (.iload 5, 2) := by decide +kernel
theorem dL_law_460 : decode cL_law 460 = .ok (.iconst 1, 1) := by decide +kernel
theorem dL_law_461 : decode cL_law 461 = .ok (.iadd, 1) := by decide +kernel
theorem dL_law_462 : decode cL_law 462 = .ok (.iaload, 1) := by decide +kernel
theorem dL_law_463 : decode cL_law 463 = .ok (.aload_n 3, 1) := by decide +kernel
theorem dL_law_464 : decode cL_law 464 = .ok (.invokestatic 181, 3) := by decide +kernel
theorem dL_law_467 : decode cL_law 467 = .ok (.istore 6, 2) := by decide +kernel
theorem dL_law_469 : decode cL_law 469 = .ok (.aload_n 2, 1) := by decide +kernel
theorem dL_law_470 : decode cL_law 470 = .ok (.aload_n 0, 1) := by decide +kernel
theorem dL_law_471 : decode cL_law 471 = .ok (.iload 5, 2) := by decide +kernel
theorem dL_law_473 : decode cL_law 473 = .ok (.iconst 1, 1) := by decide +kernel
theorem dL_law_474 : decode cL_law 474 = .ok (.iadd, 1) := by decide +kernel
theorem dL_law_475 : decode cL_law 475 = .ok (.iaload, 1) := by decide +kernel
theorem dL_law_476 : decode cL_law 476 = .ok (.invokevirtual 184, 3) := by decide +kernel
theorem dL_law_479 : decode cL_law 479 = .ok (.istore 7, 2) := by decide +kernel
theorem dL_law_481 : decode cL_law 481 = .ok (.goto 1428, 3) := by decide +kernel
theorem dL_law_1909 : decode cL_law 1909 = .ok (.iinc 5 5, 3) := by decide +kernel
theorem dL_law_1912 : decode cL_law 1912 = .ok (.goto (-1884), 3) := by decide +kernel
theorem dL_law_1915 : decode cL_law 1915 = .ok (.iconst 1, 1) := by decide +kernel
theorem dL_law_1916 : decode cL_law 1916 = .ok (.ireturn, 1) := by decide +kernel
theorem q0 : Cond.selects RX6 yX6_gatherTyped yX6_gatherTyped ∈ pw_all := pw_in 0 (by decide +kernel) (by decide +kernel)
theorem q4 : Cond.selects RJx4a65c yJx4a65c_add_72be8 yJx4a65c_add_72be8 ∈ pw_all := pw_in 4 (by decide +kernel) (by decide +kernel)
theorem q5 : Cond.selects RJx4a65c yJx4a65c_grow_d5877 yJx4a65c_grow_d5877 ∈ pw_all := pw_in 5 (by decide +kernel) (by decide +kernel)
theorem q6 : Cond.selects RJx4a65c yJx4a65c_grow_92f84 yJx4a65c_grow_92f84 ∈ pw_all := pw_in 6 (by decide +kernel) (by decide +kernel)
theorem q7 : Cond.selects RX6 yX6_structureAt yX6_structureAt ∈ pw_all := pw_in 7 (by decide +kernel) (by decide +kernel)
theorem q19 : Cond.selects RX10 yX10_isThrown yX10_isThrown ∈ pw_all := pw_in 19 (by decide +kernel) (by decide +kernel)
theorem q20 : Cond.selects RX10 yX10_isNoStructure yX10_isNoStructure ∈ pw_all := pw_in 20 (by decide +kernel) (by decide +kernel)
theorem q42 : Cond.initialized RL ∈ pw_all := pw_in 42 (by decide +kernel) (by decide +kernel)
theorem q43 : Cond.initialized RX6 ∈ pw_all := pw_in 43 (by decide +kernel) (by decide +kernel)
theorem q44 : Cond.initialized RJxa1e45 ∈ pw_all := pw_in 44 (by decide +kernel) (by decide +kernel)
theorem q45 : Cond.initialized RJxc12de ∈ pw_all := pw_in 45 (by decide +kernel) (by decide +kernel)
theorem q46 : Cond.initialized RJx4a65c ∈ pw_all := pw_in 46 (by decide +kernel) (by decide +kernel)
theorem q47 : Cond.initialized RX1 ∈ pw_all := pw_in 47 (by decide +kernel) (by decide +kernel)
theorem q48 : Cond.initialized RX0 ∈ pw_all := pw_in 48 (by decide +kernel) (by decide +kernel)
theorem q49 : Cond.initialized RX10 ∈ pw_all := pw_in 49 (by decide +kernel) (by decide +kernel)
theorem q54 : Cond.initialized RX5 ∈ pw_all := pw_in 54 (by decide +kernel) (by decide +kernel)
theorem q56 : Cond.initialized RJ9 ∈ pw_all := pw_in 56 (by decide +kernel) (by decide +kernel)
theorem q59 : Cond.initialized RX9 ∈ pw_all := pw_in 59 (by decide +kernel) (by decide +kernel)
theorem q80 : Cond.classLink RL 8 RX6 ∈ pw_all := pw_in 80 (by decide +kernel) (by decide +kernel)
theorem q81 : Cond.instantiable RX6 8 ∈ pw_all := pw_in 81 (by decide +kernel) (by decide +kernel)
theorem q82 : Cond.methodLink RL 156 yX6_init ∈ pw_all := pw_in 82 (by decide +kernel) (by decide +kernel)
theorem q83 : Cond.instanceMethod yX6_init ∈ pw_all := pw_in 83 (by decide +kernel) (by decide +kernel)
theorem q84 : Cond.code yX6_init cX6_init 1 none ∈ pw_all := pw_in 84 (by decide +kernel) (by decide +kernel)
theorem q85 : Cond.methodLink RX6 1 objectInit ∈ pw_all := pw_in 85 (by decide +kernel) (by decide +kernel)
theorem q86 : Cond.instanceMethod objectInit ∈ pw_all := pw_in 86 (by decide +kernel) (by decide +kernel)
theorem q87 : Cond.code objectInit object_method_1_code 1 none ∈ pw_all := pw_in 87 (by decide +kernel) (by decide +kernel)
theorem q88 : Cond.classLink RX6 7 RJx4a65c ∈ pw_all := pw_in 88 (by decide +kernel) (by decide +kernel)
theorem q89 : Cond.instantiable RJx4a65c 3 ∈ pw_all := pw_in 89 (by decide +kernel) (by decide +kernel)
theorem q90 : Cond.methodLink RX6 9 yJx4a65c_init_da8c8 ∈ pw_all := pw_in 90 (by decide +kernel) (by decide +kernel)
theorem q91 : Cond.instanceMethod yJx4a65c_init_da8c8 ∈ pw_all := pw_in 91 (by decide +kernel) (by decide +kernel)
theorem q92 : Cond.code yJx4a65c_init_da8c8 cJx4a65c_init_da8c8 1 none ∈ pw_all := pw_in 92 (by decide +kernel) (by decide +kernel)
theorem q93 : Cond.methodLink RJx4a65c 1 yJxc12de_init_da8c8 ∈ pw_all := pw_in 93 (by decide +kernel) (by decide +kernel)
theorem q94 : Cond.instanceMethod yJxc12de_init_da8c8 ∈ pw_all := pw_in 94 (by decide +kernel) (by decide +kernel)
theorem q95 : Cond.code yJxc12de_init_da8c8 cJxc12de_init_da8c8 1 none ∈ pw_all := pw_in 95 (by decide +kernel) (by decide +kernel)
theorem q96 : Cond.methodLink RJxc12de 1 yJxa1e45_init_da8c8 ∈ pw_all := pw_in 96 (by decide +kernel) (by decide +kernel)
theorem q97 : Cond.instanceMethod yJxa1e45_init_da8c8 ∈ pw_all := pw_in 97 (by decide +kernel) (by decide +kernel)
theorem q98 : Cond.code yJxa1e45_init_da8c8 cJxa1e45_init_da8c8 1 none ∈ pw_all := pw_in 98 (by decide +kernel) (by decide +kernel)
theorem q99 : Cond.methodLink RJxa1e45 1 objectInit ∈ pw_all := pw_in 99 (by decide +kernel) (by decide +kernel)
theorem q100 : Cond.fieldLink RJx4a65c 39 RJx4a65c "DEFAULTCAPACITY_EMPTY_ELEMENTDATA" "[Ljava/lang/Object;" ∈ pw_all := pw_in 100 (by decide +kernel) (by decide +kernel)
theorem q102 : Cond.fieldLink RJx4a65c 9 RJx4a65c "elementData" "[Ljava/lang/Object;" ∈ pw_all := pw_in 102 (by decide +kernel) (by decide +kernel)
theorem q105 : Cond.fieldLink RJx4a65c 48 RJx4a65c "size" "I" ∈ pw_all := pw_in 105 (by decide +kernel) (by decide +kernel)
theorem q106 : Cond.fieldLink RJxc12de 7 RJxc12de "modCount" "I" ∈ pw_all := pw_in 106 (by decide +kernel) (by decide +kernel)
theorem q108 : Cond.sameField RJx4a65c RJxc12de "modCount" "I" ∈ pw_all := pw_in 108 (by decide +kernel) (by decide +kernel)
theorem q109 : Cond.fieldLink RJx4a65c 63 RJx4a65c "modCount" "I" ∈ pw_all := pw_in 109 (by decide +kernel) (by decide +kernel)
theorem q117 : Cond.classLink RX6 29 RX1 ∈ pw_all := pw_in 117 (by decide +kernel) (by decide +kernel)
theorem q118 : Cond.instantiable RX1 6 ∈ pw_all := pw_in 118 (by decide +kernel) (by decide +kernel)
theorem q119 : Cond.methodLink RX6 31 yX1_init ∈ pw_all := pw_in 119 (by decide +kernel) (by decide +kernel)
theorem q120 : Cond.instanceMethod yX1_init ∈ pw_all := pw_in 120 (by decide +kernel) (by decide +kernel)
theorem q121 : Cond.code yX1_init cX1_init 1 none ∈ pw_all := pw_in 121 (by decide +kernel) (by decide +kernel)
theorem q122 : Cond.methodLink RX1 3 objectInit ∈ pw_all := pw_in 122 (by decide +kernel) (by decide +kernel)
theorem q123 : Cond.fieldLink RX1 9 RX1 "turns" "[I" ∈ pw_all := pw_in 123 (by decide +kernel) (by decide +kernel)
theorem q124 : Cond.fieldLink RX1 15 RX1 "pile" "[I" ∈ pw_all := pw_in 124 (by decide +kernel) (by decide +kernel)
theorem q143 : Cond.arrayClass FieldType.int ∈ pw_all := pw_in 143 (by decide +kernel) (by decide +kernel)
theorem q144 : Cond.classLink RX6 36 RX0 ∈ pw_all := pw_in 144 (by decide +kernel) (by decide +kernel)
theorem q145 : Cond.instantiable RX0 11 ∈ pw_all := pw_in 145 (by decide +kernel) (by decide +kernel)
theorem q146 : Cond.methodLink RX6 38 yX0_init ∈ pw_all := pw_in 146 (by decide +kernel) (by decide +kernel)
theorem q147 : Cond.instanceMethod yX0_init ∈ pw_all := pw_in 147 (by decide +kernel) (by decide +kernel)
theorem q148 : Cond.code yX0_init cX0_init 1 none ∈ pw_all := pw_in 148 (by decide +kernel) (by decide +kernel)
theorem q149 : Cond.methodLink RX0 3 objectInit ∈ pw_all := pw_in 149 (by decide +kernel) (by decide +kernel)
theorem q150 : Cond.fieldLink RX0 9 RX0 "weights" "[I" ∈ pw_all := pw_in 150 (by decide +kernel) (by decide +kernel)
theorem q151 : Cond.fieldLink RX0 15 RX0 "toldSprings" "[I" ∈ pw_all := pw_in 151 (by decide +kernel) (by decide +kernel)
theorem q152 : Cond.fieldLink RX0 18 RX0 "springs" "[I" ∈ pw_all := pw_in 152 (by decide +kernel) (by decide +kernel)
theorem q154 : Cond.fieldLink RX0 21 RX0 "dampers" "[I" ∈ pw_all := pw_in 154 (by decide +kernel) (by decide +kernel)
theorem q155 : Cond.fieldLink RX0 24 RX0 "cracks" "[I" ∈ pw_all := pw_in 155 (by decide +kernel) (by decide +kernel)
theorem q158 : Cond.fieldLink RX0 27 RX0 "places" "[J" ∈ pw_all := pw_in 158 (by decide +kernel) (by decide +kernel)
theorem q160 : Cond.fieldLink RX0 31 RX0 "speeds" "[J" ∈ pw_all := pw_in 160 (by decide +kernel) (by decide +kernel)
theorem q161 : Cond.fieldLink RX0 34 RX0 "pulls" "[J" ∈ pw_all := pw_in 161 (by decide +kernel) (by decide +kernel)
theorem q162 : Cond.fieldLink RX0 37 RX0 "peaks" "[I" ∈ pw_all := pw_in 162 (by decide +kernel) (by decide +kernel)
theorem q192 : Cond.arrayClass FieldType.long ∈ pw_all := pw_in 192 (by decide +kernel) (by decide +kernel)
theorem q193 : Cond.fieldLink RX6 10 RX6 "structures" "Ljava/util/ArrayList;" ∈ pw_all := pw_in 193 (by decide +kernel) (by decide +kernel)
theorem q194 : Cond.fieldLink RX6 16 RX6 "sensors" "Ljava/util/ArrayList;" ∈ pw_all := pw_in 194 (by decide +kernel) (by decide +kernel)
theorem q195 : Cond.fieldLink RX6 19 RX6 "specifications" "Ljava/util/ArrayList;" ∈ pw_all := pw_in 195 (by decide +kernel) (by decide +kernel)
theorem q196 : Cond.fieldLink RX6 22 RX6 "runs" "Ljava/util/ArrayList;" ∈ pw_all := pw_in 196 (by decide +kernel) (by decide +kernel)
theorem q197 : Cond.fieldLink RX6 25 RX6 "typed" "[I" ∈ pw_all := pw_in 197 (by decide +kernel) (by decide +kernel)
theorem q199 : Cond.fieldLink RX6 32 RX6 "rain" "LShakerhall$Rain;" ∈ pw_all := pw_in 199 (by decide +kernel) (by decide +kernel)
theorem q200 : Cond.fieldLink RX6 39 RX6 "oneMass" "LShakerhall$Chain;" ∈ pw_all := pw_in 200 (by decide +kernel) (by decide +kernel)
theorem q273 : Cond.methodLink RX6 43 yJx4a65c_size_8abf5 ∈ pw_all := pw_in 273 (by decide +kernel) (by decide +kernel)
theorem q274 : Cond.instanceMethod yJx4a65c_size_8abf5 ∈ pw_all := pw_in 274 (by decide +kernel) (by decide +kernel)
theorem q275 : Cond.selects RJx4a65c yJx4a65c_size_8abf5 yJx4a65c_size_8abf5 ∈ pw_all := pw_in 275 (by decide +kernel) (by decide +kernel)
theorem q276 : Cond.code yJx4a65c_size_8abf5 cJx4a65c_size_8abf5 1 (some .int) ∈ pw_all := pw_in 276 (by decide +kernel) (by decide +kernel)
theorem q291 : Cond.classLink RX6 54 RX5 ∈ pw_all := pw_in 291 (by decide +kernel) (by decide +kernel)
theorem q315 : Cond.methodLink RL 160 yL_addStructure ∈ pw_all := pw_in 315 (by decide +kernel) (by decide +kernel)
theorem q316 : Cond.static yL_addStructure ∈ pw_all := pw_in 316 (by decide +kernel) (by decide +kernel)
theorem q317 : Cond.codeWith yL_addStructure cL_addStructure 3 (some .int) [(0, 8, 11, 13)] ∈ pw_all := pw_in 317 (by decide +kernel) (by decide +kernel)
theorem q319 : Cond.methodLink RL 7 yX6_addStructure ∈ pw_all := pw_in 319 (by decide +kernel) (by decide +kernel)
theorem q320 : Cond.instanceMethod yX6_addStructure ∈ pw_all := pw_in 320 (by decide +kernel) (by decide +kernel)
theorem q321 : Cond.selects RX6 yX6_addStructure yX6_addStructure ∈ pw_all := pw_in 321 (by decide +kernel) (by decide +kernel)
theorem q322 : Cond.code yX6_addStructure cX6_addStructure 1 (some .int) ∈ pw_all := pw_in 322 (by decide +kernel) (by decide +kernel)
theorem q393 : Cond.instantiable RX5 7 ∈ pw_all := pw_in 393 (by decide +kernel) (by decide +kernel)
theorem q394 : Cond.methodLink RX6 56 yX5_init ∈ pw_all := pw_in 394 (by decide +kernel) (by decide +kernel)
theorem q395 : Cond.instanceMethod yX5_init ∈ pw_all := pw_in 395 (by decide +kernel) (by decide +kernel)
theorem q396 : Cond.code yX5_init cX5_init 1 none ∈ pw_all := pw_in 396 (by decide +kernel) (by decide +kernel)
theorem q397 : Cond.methodLink RX5 3 objectInit ∈ pw_all := pw_in 397 (by decide +kernel) (by decide +kernel)
theorem q398 : Cond.classLink RX5 9 RX0 ∈ pw_all := pw_in 398 (by decide +kernel) (by decide +kernel)
theorem q399 : Cond.methodLink RX5 11 yX0_init ∈ pw_all := pw_in 399 (by decide +kernel) (by decide +kernel)
theorem q400 : Cond.constant RX5 22 (1000000000) ∈ pw_all := pw_in 400 (by decide +kernel) (by decide +kernel)
theorem q401 : Cond.fieldLink RX5 12 RX5 "chain" "LShakerhall$Chain;" ∈ pw_all := pw_in 401 (by decide +kernel) (by decide +kernel)
theorem q404 : Cond.fieldLink RX5 18 RX5 "felt" "[I" ∈ pw_all := pw_in 404 (by decide +kernel) (by decide +kernel)
theorem q407 : Cond.fieldLink RX5 23 RX5 "life" "I" ∈ pw_all := pw_in 407 (by decide +kernel) (by decide +kernel)
theorem q431 : Cond.methodLink RX6 57 yJx4a65c_add_9ea2d ∈ pw_all := pw_in 431 (by decide +kernel) (by decide +kernel)
theorem q432 : Cond.instanceMethod yJx4a65c_add_9ea2d ∈ pw_all := pw_in 432 (by decide +kernel) (by decide +kernel)
theorem q433 : Cond.selects RJx4a65c yJx4a65c_add_9ea2d yJx4a65c_add_9ea2d ∈ pw_all := pw_in 433 (by decide +kernel) (by decide +kernel)
theorem q434 : Cond.code yJx4a65c_add_9ea2d cJx4a65c_add_9ea2d 2 (some .boolean) ∈ pw_all := pw_in 434 (by decide +kernel) (by decide +kernel)
theorem q435 : Cond.methodLink RJx4a65c 131 yJx4a65c_add_72be8 ∈ pw_all := pw_in 435 (by decide +kernel) (by decide +kernel)
theorem q437 : Cond.instanceMethod yJx4a65c_add_72be8 ∈ pw_all := pw_in 437 (by decide +kernel) (by decide +kernel)
theorem q438 : Cond.code yJx4a65c_add_72be8 cJx4a65c_add_72be8 4 none ∈ pw_all := pw_in 438 (by decide +kernel) (by decide +kernel)
theorem q439 : Cond.methodLink RJx4a65c 129 yJx4a65c_grow_d5877 ∈ pw_all := pw_in 439 (by decide +kernel) (by decide +kernel)
theorem q441 : Cond.instanceMethod yJx4a65c_grow_d5877 ∈ pw_all := pw_in 441 (by decide +kernel) (by decide +kernel)
theorem q442 : Cond.code yJx4a65c_grow_d5877 cJx4a65c_grow_d5877 1 (some (.array (.object "java/lang/Object"))) ∈ pw_all := pw_in 442 (by decide +kernel) (by decide +kernel)
theorem q443 : Cond.methodLink RJx4a65c 69 yJx4a65c_grow_92f84 ∈ pw_all := pw_in 443 (by decide +kernel) (by decide +kernel)
theorem q445 : Cond.instanceMethod yJx4a65c_grow_92f84 ∈ pw_all := pw_in 445 (by decide +kernel) (by decide +kernel)
theorem q446 : Cond.code yJx4a65c_grow_92f84 cJx4a65c_grow_92f84 4 (some (.array (.object "java/lang/Object"))) ∈ pw_all := pw_in 446 (by decide +kernel) (by decide +kernel)
theorem q451 : Cond.static yJ9_max_7cf53 ∈ pw_all := pw_in 451 (by decide +kernel) (by decide +kernel)
theorem q452 : Cond.code yJ9_max_7cf53 cJ9_max_7cf53 2 (some .int) ∈ pw_all := pw_in 452 (by decide +kernel) (by decide +kernel)
theorem q497 : Cond.methodLink RJx4a65c 79 yJ9_max_7cf53 ∈ pw_all := pw_in 497 (by decide +kernel) (by decide +kernel)
theorem q498 : Cond.classLink RJx4a65c 7 "java/lang/Object" ∈ pw_all := pw_in 498 (by decide +kernel) (by decide +kernel)
theorem q499 : Cond.methodLink RL 166 yL_addMass ∈ pw_all := pw_in 499 (by decide +kernel) (by decide +kernel)
theorem q500 : Cond.static yL_addMass ∈ pw_all := pw_in 500 (by decide +kernel) (by decide +kernel)
theorem q501 : Cond.codeWith yL_addMass cL_addMass 7 (some .int) [(0, 14, 17, 19), (0, 14, 21, 21), (0, 14, 25, 13)] ∈ pw_all := pw_in 501 (by decide +kernel) (by decide +kernel)
theorem q504 : Cond.methodLink RL 15 yX6_addMass ∈ pw_all := pw_in 504 (by decide +kernel) (by decide +kernel)
theorem q505 : Cond.instanceMethod yX6_addMass ∈ pw_all := pw_in 505 (by decide +kernel) (by decide +kernel)
theorem q506 : Cond.selects RX6 yX6_addMass yX6_addMass ∈ pw_all := pw_in 506 (by decide +kernel) (by decide +kernel)
theorem q507 : Cond.code yX6_addMass cX6_addMass 6 (some .int) ∈ pw_all := pw_in 507 (by decide +kernel) (by decide +kernel)
theorem q508 : Cond.methodLink RX6 61 yX6_structureAt ∈ pw_all := pw_in 508 (by decide +kernel) (by decide +kernel)
theorem q510 : Cond.instanceMethod yX6_structureAt ∈ pw_all := pw_in 510 (by decide +kernel) (by decide +kernel)
theorem q511 : Cond.code yX6_structureAt cX6_structureAt 2 (some (.object "Shakerhall$Structure")) ∈ pw_all := pw_in 511 (by decide +kernel) (by decide +kernel)
theorem q528 : Cond.methodLink RX6 68 yX6_checkRange ∈ pw_all := pw_in 528 (by decide +kernel) (by decide +kernel)
theorem q529 : Cond.static yX6_checkRange ∈ pw_all := pw_in 529 (by decide +kernel) (by decide +kernel)
theorem q530 : Cond.code yX6_checkRange cX6_checkRange 3 none ∈ pw_all := pw_in 530 (by decide +kernel) (by decide +kernel)
theorem q615 : Cond.methodLink RL 181 yL_getResonance ∈ pw_all := pw_in 615 (by decide +kernel) (by decide +kernel)
theorem q616 : Cond.static yL_getResonance ∈ pw_all := pw_in 616 (by decide +kernel) (by decide +kernel)
theorem q617 : Cond.codeWith yL_getResonance cL_getResonance 4 (some .int) [(0, 9, 12, 19), (0, 9, 15, 38)] ∈ pw_all := pw_in 617 (by decide +kernel) (by decide +kernel)
theorem q619 : Cond.methodLink RL 34 yX6_getResonance ∈ pw_all := pw_in 619 (by decide +kernel) (by decide +kernel)
theorem q620 : Cond.instanceMethod yX6_getResonance ∈ pw_all := pw_in 620 (by decide +kernel) (by decide +kernel)
theorem q621 : Cond.selects RX6 yX6_getResonance yX6_getResonance ∈ pw_all := pw_in 621 (by decide +kernel) (by decide +kernel)
theorem q622 : Cond.code yX6_getResonance cX6_getResonance 3 (some .int) ∈ pw_all := pw_in 622 (by decide +kernel) (by decide +kernel)
theorem q1217 : Cond.classLink RL 157 RX10 ∈ pw_all := pw_in 1217 (by decide +kernel) (by decide +kernel)
theorem q1218 : Cond.instantiable RX10 6 ∈ pw_all := pw_in 1218 (by decide +kernel) (by decide +kernel)
theorem q1219 : Cond.methodLink RL 159 yX10_init ∈ pw_all := pw_in 1219 (by decide +kernel) (by decide +kernel)
theorem q1220 : Cond.instanceMethod yX10_init ∈ pw_all := pw_in 1220 (by decide +kernel) (by decide +kernel)
theorem q1221 : Cond.code yX10_init cX10_init 1 none ∈ pw_all := pw_in 1221 (by decide +kernel) (by decide +kernel)
theorem q1222 : Cond.methodLink RX10 1 objectInit ∈ pw_all := pw_in 1222 (by decide +kernel) (by decide +kernel)
theorem q1223 : Cond.classLink RX10 7 RJx4a65c ∈ pw_all := pw_in 1223 (by decide +kernel) (by decide +kernel)
theorem q1224 : Cond.methodLink RX10 9 yJx4a65c_init_da8c8 ∈ pw_all := pw_in 1224 (by decide +kernel) (by decide +kernel)
theorem q1225 : Cond.fieldLink RX10 10 RX10 "structures" "Ljava/util/ArrayList;" ∈ pw_all := pw_in 1225 (by decide +kernel) (by decide +kernel)
theorem q1226 : Cond.fieldLink RX10 16 RX10 "sensors" "Ljava/util/ArrayList;" ∈ pw_all := pw_in 1226 (by decide +kernel) (by decide +kernel)
theorem q1227 : Cond.fieldLink RX10 19 RX10 "specifications" "Ljava/util/ArrayList;" ∈ pw_all := pw_in 1227 (by decide +kernel) (by decide +kernel)
theorem q1228 : Cond.fieldLink RX10 22 RX10 "runs" "Ljava/util/ArrayList;" ∈ pw_all := pw_in 1228 (by decide +kernel) (by decide +kernel)
theorem q1229 : Cond.fieldLink RX10 25 RX10 "typed" "Ljava/util/ArrayList;" ∈ pw_all := pw_in 1229 (by decide +kernel) (by decide +kernel)
theorem q1230 : Cond.fieldLink RX10 28 RX10 "thrown" "I" ∈ pw_all := pw_in 1230 (by decide +kernel) (by decide +kernel)
theorem q1248 : Cond.methodLink RL 165 yX10_addStructure ∈ pw_all := pw_in 1248 (by decide +kernel) (by decide +kernel)
theorem q1249 : Cond.instanceMethod yX10_addStructure ∈ pw_all := pw_in 1249 (by decide +kernel) (by decide +kernel)
theorem q1250 : Cond.selects RX10 yX10_addStructure yX10_addStructure ∈ pw_all := pw_in 1250 (by decide +kernel) (by decide +kernel)
theorem q1251 : Cond.code yX10_addStructure cX10_addStructure 1 (some .int) ∈ pw_all := pw_in 1251 (by decide +kernel) (by decide +kernel)
theorem q1252 : Cond.methodLink RX10 32 yJx4a65c_size_8abf5 ∈ pw_all := pw_in 1252 (by decide +kernel) (by decide +kernel)
theorem q1253 : Cond.methodLink RX10 60 yX10_isThrown ∈ pw_all := pw_in 1253 (by decide +kernel) (by decide +kernel)
theorem q1255 : Cond.instanceMethod yX10_isThrown ∈ pw_all := pw_in 1255 (by decide +kernel) (by decide +kernel)
theorem q1256 : Cond.code yX10_isThrown cX10_isThrown 3 (some .boolean) ∈ pw_all := pw_in 1256 (by decide +kernel) (by decide +kernel)
theorem q1257 : Cond.classLink RX10 48 RX9 ∈ pw_all := pw_in 1257 (by decide +kernel) (by decide +kernel)
theorem q1258 : Cond.instantiable RX9 6 ∈ pw_all := pw_in 1258 (by decide +kernel) (by decide +kernel)
theorem q1260 : Cond.instanceMethod yX9_init ∈ pw_all := pw_in 1260 (by decide +kernel) (by decide +kernel)
theorem q1261 : Cond.code yX9_init cX9_init 1 none ∈ pw_all := pw_in 1261 (by decide +kernel) (by decide +kernel)
theorem q1262 : Cond.methodLink RX9 3 objectInit ∈ pw_all := pw_in 1262 (by decide +kernel) (by decide +kernel)
theorem q1263 : Cond.classLink RX9 9 RJx4a65c ∈ pw_all := pw_in 1263 (by decide +kernel) (by decide +kernel)
theorem q1264 : Cond.methodLink RX9 11 yJx4a65c_init_da8c8 ∈ pw_all := pw_in 1264 (by decide +kernel) (by decide +kernel)
theorem q1265 : Cond.constant RX9 22 (1000000000) ∈ pw_all := pw_in 1265 (by decide +kernel) (by decide +kernel)
theorem q1267 : Cond.fieldLink RX9 12 RX9 "masses" "Ljava/util/ArrayList;" ∈ pw_all := pw_in 1267 (by decide +kernel) (by decide +kernel)
theorem q1269 : Cond.fieldLink RX9 18 RX9 "felt" "[I" ∈ pw_all := pw_in 1269 (by decide +kernel) (by decide +kernel)
theorem q1272 : Cond.fieldLink RX9 23 RX9 "life" "I" ∈ pw_all := pw_in 1272 (by decide +kernel) (by decide +kernel)
theorem q1274 : Cond.fieldLink RX9 27 RX9 "signed" "I" ∈ pw_all := pw_in 1274 (by decide +kernel) (by decide +kernel)
theorem q1290 : Cond.methodLink RX10 65 yJx4a65c_add_9ea2d ∈ pw_all := pw_in 1290 (by decide +kernel) (by decide +kernel)
theorem q1291 : Cond.methodLink RL 169 yX10_addMass ∈ pw_all := pw_in 1291 (by decide +kernel) (by decide +kernel)
theorem q1292 : Cond.instanceMethod yX10_addMass ∈ pw_all := pw_in 1292 (by decide +kernel) (by decide +kernel)
theorem q1293 : Cond.selects RX10 yX10_addMass yX10_addMass ∈ pw_all := pw_in 1293 (by decide +kernel) (by decide +kernel)
theorem q1294 : Cond.code yX10_addMass cX10_addMass 5 (some .int) ∈ pw_all := pw_in 1294 (by decide +kernel) (by decide +kernel)
theorem q1295 : Cond.methodLink RX10 40 yX10_isNoStructure ∈ pw_all := pw_in 1295 (by decide +kernel) (by decide +kernel)
theorem q1297 : Cond.instanceMethod yX10_isNoStructure ∈ pw_all := pw_in 1297 (by decide +kernel) (by decide +kernel)
theorem q1298 : Cond.code yX10_isNoStructure cX10_isNoStructure 2 (some .boolean) ∈ pw_all := pw_in 1298 (by decide +kernel) (by decide +kernel)
theorem q1299 : Cond.methodLink RX10 36 yX10_isIn ∈ pw_all := pw_in 1299 (by decide +kernel) (by decide +kernel)
theorem q1300 : Cond.static yX10_isIn ∈ pw_all := pw_in 1300 (by decide +kernel) (by decide +kernel)
theorem q1301 : Cond.code yX10_isIn cX10_isIn 3 (some .boolean) ∈ pw_all := pw_in 1301 (by decide +kernel) (by decide +kernel)
theorem q1381 : Cond.methodLink RL 184 yX10_getResonance ∈ pw_all := pw_in 1381 (by decide +kernel) (by decide +kernel)
theorem q1382 : Cond.instanceMethod yX10_getResonance ∈ pw_all := pw_in 1382 (by decide +kernel) (by decide +kernel)
theorem q1383 : Cond.selects RX10 yX10_getResonance yX10_getResonance ∈ pw_all := pw_in 1383 (by decide +kernel) (by decide +kernel)
theorem q1384 : Cond.code yX10_getResonance cX10_getResonance 2 (some .int) ∈ pw_all := pw_in 1384 (by decide +kernel) (by decide +kernel)
theorem q1389 : Cond.methodLink RX10 56 yJx4a65c_isEmpty_aae02 ∈ pw_all := pw_in 1389 (by decide +kernel) (by decide +kernel)
theorem q1390 : Cond.instanceMethod yJx4a65c_isEmpty_aae02 ∈ pw_all := pw_in 1390 (by decide +kernel) (by decide +kernel)
theorem q1391 : Cond.selects RJx4a65c yJx4a65c_isEmpty_aae02 yJx4a65c_isEmpty_aae02 ∈ pw_all := pw_in 1391 (by decide +kernel) (by decide +kernel)
theorem q1392 : Cond.code yJx4a65c_isEmpty_aae02 cJx4a65c_isEmpty_aae02 1 (some .boolean) ∈ pw_all := pw_in 1392 (by decide +kernel) (by decide +kernel)
theorem q2107 : Cond.arrayClass FieldType.double ∈ pw_all := pw_in 2107 (by decide +kernel) (by decide +kernel)
set_option maxHeartbeats 4000000 in
set_option maxRecDepth 100000 in
theorem m_acInit (l : Launch) (dC : Nat → ClassId) (dI : Nat → Nat → Nat) (sz : Nat) (a : Nat) : Met l yJxa1e45_init_da8c8 (pw_ws yJxa1e45_init_da8c8 cJxa1e45_init_da8c8 1 none) ({ frames := 1, cells := 0, slots := 0, locals := 20 } : Room) (va_Pc [.ref a] (fun U => U.heap.size = sz ∧ va_P (dC, dI) vwCl [] U.heap ∧ va_K (dC, dI) vwCl [] U ∧ va_D (fun _ => True) [])) (va_Qv (fun (_ : Unit) => True) (fun (_ : Unit) (t : State) => va_P (dC, dI) vwCl [] t.heap ∧ va_K (dC, dI) vwCl [] t ∧ va_D (va_A [] sz) []) (va_A [] sz)) 0 0 (va_A [] sz) := by
  refine Met.ofW (cc := cJxa1e45_init_da8c8) (maxL := 1) (ret := none) (by decide) rfl ?_
  intro p e s m args below meth c s₁ B hml hv
  obtain ⟨rfl, hsz, hP, hK, hD0⟩ := hv
  have hx := B.exec
  have hb := B.bytes
  have hr := B.returns
  have hts0 := atoms_spec (ws := (pw_ws yJxa1e45_init_da8c8 cJxa1e45_init_da8c8 1 none)) B.pre
  have hts : ∀ w ∈ pw_all, w.before _ s = true := fun w h => hts0 w (List.mem_cons_of_mem _ h)
  have hown : s.vm.findClass RJxa1e45 = some m.cls := findClass_of_methodNamed B.named
  have hlocks := B.notSynchronized
  have hin : meth.name = "<init>" := (name_of_methodNamed B.named B.method).1
  subst hsz
  have hD := hD0.self (sz := s.heap.size)
  generalize hAe : va_A [] s.heap.size = A at hD ⊢
  have hA : ∀ q : Nat, s.heap.size ≤ q → A q := fun q h => by rw [← hAe]; exact Or.inr h
  have hS : va_S A s.heap s.heap [] := va_S.rf
  have hP : va_P (dC, dI) vwCl [] s.heap := hP
  have hl := lv_entry ([.ref a]) (n := 1) (Nat.le_of_ble_eq_true rfl)
  rw [lg_entry_eq]
  generalize (lg_sl ([.ref a]) ++ List.replicate (1 - (lg_sl ([.ref a])).length) Slot.unset).toArray = ls at hl ⊢
  have hl : lv_has ls 1 [(0, .ref a)] := hl
  skip
  refine lv_aload_n hx hb dJxa1e45_init_da8c8_0 rfl (lv_at hl 0 rfl) ?_
  refine W.objInit hx hb hown (hts _ q99) (hts _ q86) (hts _ q87) rfl (by rw [hml]; exact hl.1) rfl dJxa1e45_init_da8c8_1 (Nat.le_of_ble_eq_true rfl) (Nat.le_of_ble_eq_true rfl) ?_
  refine W.eq (g2 := F0 m 4 ls []) rfl ?_
  have hP9 := hP.sub (ws' := []) [] rfl
  have hD9 := hD.sub (ws' := []) [] (by decide) rfl
  have hK9 := hK.sub (tys' := []) [] rfl
  refine W.widen (k := 0) (n := 0) (Nat.le_of_ble_eq_true rfl) (Nat.le_of_ble_eq_true rfl) ?_
  exact W.vret hx hb hr (fun t ht hW => ⟨⟨(), rfl, trivial, ⟨by rw [ht]; exact hP9, va_K.moved hW.alike hK9, hD9⟩⟩, hS.F ht⟩) hS.2.2 dJxa1e45_init_da8c8_4
set_option maxHeartbeats 4000000 in
set_option maxRecDepth 100000 in
theorem m_aliInit (l : Launch) (dC : Nat → ClassId) (dI : Nat → Nat → Nat) (sz : Nat) (a : Nat) (v0 : Value) (v1 : Value) (v2 : Value) : Met l yJxc12de_init_da8c8 (pw_ws yJxc12de_init_da8c8 cJxc12de_init_da8c8 1 none) ({ frames := 2, cells := 0, slots := 0, locals := 40 } : Room) (va_Pc [.ref a] (fun U => U.heap.size = sz ∧ va_P (dC, dI) vwCl [(a, .inr (4, [v0, v1, v2]))] U.heap ∧ va_K (dC, dI) vwCl [] U ∧ va_D (fun _ => True) [(a, .inr (4, [v0, v1, v2]))])) (va_Qv (fun (_ : Unit) => True) (fun (_ : Unit) (t : State) => va_P (dC, dI) vwCl [(a, .inr (4, [.int 0, v1, v2]))] t.heap ∧ va_K (dC, dI) vwCl [] t ∧ va_D (va_A [(a, .inr (4, [v0, v1, v2]))] sz) [(a, .inr (4, [.int 0, v1, v2]))]) (va_A [(a, .inr (4, [v0, v1, v2]))] sz)) 0 0 (va_A [(a, .inr (4, [v0, v1, v2]))] sz) := by
  refine Met.ofW (cc := cJxc12de_init_da8c8) (maxL := 1) (ret := none) (by decide) rfl ?_
  intro p e s m args below meth c s₁ B hml hv
  obtain ⟨rfl, hsz, hP, hK, hD0⟩ := hv
  have hx := B.exec
  have hb := B.bytes
  have hr := B.returns
  have hts0 := atoms_spec (ws := (pw_ws yJxc12de_init_da8c8 cJxc12de_init_da8c8 1 none)) B.pre
  have hts : ∀ w ∈ pw_all, w.before _ s = true := fun w h => hts0 w (List.mem_cons_of_mem _ h)
  have hown : s.vm.findClass RJxc12de = some m.cls := findClass_of_methodNamed B.named
  have hlocks := B.notSynchronized
  have hin : meth.name = "<init>" := (name_of_methodNamed B.named B.method).1
  subst hsz
  have hD := hD0.self (sz := s.heap.size)
  generalize hAe : va_A [(a, .inr (4, [v0, v1, v2]))] s.heap.size = A at hD ⊢
  have hA : ∀ q : Nat, s.heap.size ≤ q → A q := fun q h => by rw [← hAe]; exact Or.inr h
  have hS : va_S A s.heap s.heap [] := va_S.rf
  have hP : va_P (dC, dI) vwCl [(a, .inr (4, [v0, v1, v2]))] s.heap := hP
  have hl := lv_entry ([.ref a]) (n := 1) (Nat.le_of_ble_eq_true rfl)
  rw [lg_entry_eq]
  generalize (lg_sl ([.ref a]) ++ List.replicate (1 - (lg_sl ([.ref a])).length) Slot.unset).toArray = ls at hl ⊢
  have hl : lv_has ls 1 [(0, .ref a)] := hl
  skip
  refine lv_aload_n hx hb dJxc12de_init_da8c8_0 rfl (lv_at hl 0 rfl) ?_
  have hPc := hP.sub (ws' := []) [] rfl
  have hDc := hD.sub (ws' := []) [] (by decide) rfl
  have hKc := hK.sub (tys' := []) [] rfl
  have hFc := va_free (wc := []) hD hS hA [] rfl
  refine va_callv (va_runI (As := []) (rest := []) ⟨hx, hb, hml, hown, hts⟩ (m_acInit l dC dI s.heap.size a) (cwI 0 hts (pw_c q98) rfl rfl rfl (hts _ q44) (hts _ q96) (hts _ q97) rfl (by decide +kernel) ⟨(Nat.le_of_ble_eq_true rfl), (Nat.le_of_ble_eq_true rfl)⟩) ⟨fun a U g mk q => by obtain ⟨q0, q1, qP, qK, qD⟩ := q; exact ⟨q0, q1, qP, va_K.moved (u := U) (U := U.calling g mk a) (Vm.Alike.refl U.vm) qK, qD⟩, fun U hU hW => ⟨rfl, by rw [hU], by rw [hU]; exact hPc, va_K.moved hW.alike hKc, hDc.weaken (fun _ _ _ _ => trivial)⟩⟩ rfl rfl hl.1 rfl (lv_room (Nat.le_of_ble_eq_true rfl)) dJxc12de_init_da8c8_1 ⟨(Nat.le_of_ble_eq_true rfl), (Nat.le_of_ble_eq_true rfl)⟩) hS (fun q _ h => hFc q h) hFc (fun u t H1 locs ht hvm hw hB hz1 hk1 hS => ?_)
  obtain ⟨hP1, hK1, hD1⟩ := hB
  rw [ht] at hP1
  have hK1 := va_K.moved hvm.symm hK1
  obtain ⟨hP, hD⟩ := va_join (wr := [(a, .inr (4, [v0, v1, v2]))]) (w1 := []) hP hD [] [0] rfl rfl (by decide) (by decide) hk1 hFc hP1 hD1
  have hK := (hK.sub (tys' := []) [] rfl).app hK1
  generalize H1 = H at hP hS ⊢
  have hP : va_P (dC, dI) vwCl [(a, .inr (4, [v0, v1, v2]))] H := hP
  have hD : va_D A [(a, .inr (4, [v0, v1, v2]))] := hD
  have hK : va_K (dC, dI) vwCl [] s := hK
  refine W.widen (k := 0) (n := 0) (Nat.le_of_ble_eq_true rfl) (Nat.le_of_ble_eq_true rfl) ?_
  refine lv_aload_n hx hb dJxc12de_init_da8c8_4 rfl (lv_at hl 0 rfl) ?_
  refine lv_iconst (v := 0) hx hb dJxc12de_init_da8c8_5 (by decide) ?_
  refine va_put (D := (dC, dI)) (ci := 4) (v := .int 0) (ty := .int) (C := RJx4a65c) (T := TJx4a65c) (N := 3) hx hb hts inJx4a65c tyJx4a65c tyJx4a65c_ok nmJx4a65c hown hK hP hD hS 0 rfl rfl 0 (by decide) (hts _ q106) (fun _ h9 => h9) rfl (by decide +kernel) rfl rfl (Nat.le_of_ble_eq_true rfl) dJxc12de_init_da8c8_6 (fun H locs hP hD hS => ?_)
  have hP : va_P (dC, dI) vwCl [(a, .inr (4, [.int 0, v1, v2]))] H := hP
  have hD : va_D A [(a, .inr (4, [.int 0, v1, v2]))] := hD
  have hP9 := hP.sub (ws' := [(a, .inr (4, [.int 0, v1, v2]))]) [0] rfl
  have hD9 := hD.sub (ws' := [(a, .inr (4, [.int 0, v1, v2]))]) [0] (by decide) rfl
  have hK9 := hK.sub (tys' := []) [] rfl
  refine W.widen (k := 0) (n := 0) (Nat.le_of_ble_eq_true rfl) (Nat.le_of_ble_eq_true rfl) ?_
  exact W.vret hx hb hr (fun t ht hW => ⟨⟨(), rfl, trivial, ⟨by rw [ht]; exact hP9, va_K.moved hW.alike hK9, hD9⟩⟩, hS.F ht⟩) hS.2.2 dJxc12de_init_da8c8_9
set_option maxHeartbeats 4000000 in
set_option maxRecDepth 100000 in
theorem m_listInit (l : Launch) (dC : Nat → ClassId) (dI : Nat → Nat → Nat) (sz : Nat) (ed : Nat) (a : Nat) (v0 : Value) (v1 : Value) (n : Int32) : Met l yJx4a65c_init_da8c8 (pw_ws yJx4a65c_init_da8c8 cJx4a65c_init_da8c8 1 none) ({ frames := 3, cells := 0, slots := 0, locals := 60 } : Room) (va_Pc [.ref a] (fun U => U.heap.size = sz ∧ va_P (dC, dI) vwCl [(a, .inr (4, [v0, v1, .int n]))] U.heap ∧ va_K (dC, dI) vwCl [] U ∧ va_D (fun _ => True) [(a, .inr (4, [v0, v1, .int n]))] ∧ pz ed (va_A [(a, .inr (4, [v0, v1, .int n]))] sz) U U.heap)) (va_Qv (fun (_ : Unit) => True) (fun (_ : Unit) (t : State) => va_P (dC, dI) vwCl [(a, .inr (4, [.int 0, .ref ed, .int n]))] t.heap ∧ va_K (dC, dI) vwCl [] t ∧ va_D (va_A [(a, .inr (4, [v0, v1, .int n]))] sz) [(a, .inr (4, [.int 0, .ref ed, .int n]))]) (va_A [(a, .inr (4, [v0, v1, .int n]))] sz)) 0 0 (va_A [(a, .inr (4, [v0, v1, .int n]))] sz) := by
  refine Met.ofW (cc := cJx4a65c_init_da8c8) (maxL := 1) (ret := none) (by decide) rfl ?_
  intro p e s m args below meth c s₁ B hml hv
  obtain ⟨rfl, hsz, hP, hK, hD0, hZ⟩ := hv
  have hx := B.exec
  have hb := B.bytes
  have hr := B.returns
  have hts0 := atoms_spec (ws := (pw_ws yJx4a65c_init_da8c8 cJx4a65c_init_da8c8 1 none)) B.pre
  have hts : ∀ w ∈ pw_all, w.before _ s = true := fun w h => hts0 w (List.mem_cons_of_mem _ h)
  have hown : s.vm.findClass RJx4a65c = some m.cls := findClass_of_methodNamed B.named
  have hlocks := B.notSynchronized
  have hin : meth.name = "<init>" := (name_of_methodNamed B.named B.method).1
  subst hsz
  have hD := hD0.self (sz := s.heap.size)
  generalize hAe : va_A [(a, .inr (4, [v0, v1, .int n]))] s.heap.size = A at hD hZ ⊢
  have hA : ∀ q : Nat, s.heap.size ≤ q → A q := fun q h => by rw [← hAe]; exact Or.inr h
  have hS : va_S A s.heap s.heap [] := va_S.rf
  have hP : va_P (dC, dI) vwCl [(a, .inr (4, [v0, v1, .int n]))] s.heap := hP
  have hl := lv_entry ([.ref a]) (n := 1) (Nat.le_of_ble_eq_true rfl)
  rw [lg_entry_eq]
  generalize (lg_sl ([.ref a]) ++ List.replicate (1 - (lg_sl ([.ref a])).length) Slot.unset).toArray = ls at hl ⊢
  have hl : lv_has ls 1 [(0, .ref a)] := hl
  skip
  refine lv_aload_n hx hb dJx4a65c_init_da8c8_0 rfl (lv_at hl 0 rfl) ?_
  have hPc := hP.sub (ws' := [(a, .inr (4, [v0, v1, .int n]))]) [0] rfl
  have hDc := hD.sub (ws' := [(a, .inr (4, [v0, v1, .int n]))]) [0] (by decide) rfl
  have hKc := hK.sub (tys' := []) [] rfl
  have hFc := va_free (wc := [(a, .inr (4, [v0, v1, .int n]))]) hD hS hA [0] rfl
  refine va_callv (va_runI (As := []) (rest := []) ⟨hx, hb, hml, hown, hts⟩ (m_aliInit l dC dI s.heap.size a v0 v1 (.int n)) (cwI 0 hts (pw_c q95) rfl rfl rfl (hts _ q45) (hts _ q93) (hts _ q94) rfl (by decide +kernel) ⟨(Nat.le_of_ble_eq_true rfl), (Nat.le_of_ble_eq_true rfl)⟩) ⟨fun a U g mk q => by obtain ⟨q0, q1, qP, qK, qD⟩ := q; exact ⟨q0, q1, qP, va_K.moved (u := U) (U := U.calling g mk a) (Vm.Alike.refl U.vm) qK, qD⟩, fun U hU hW => ⟨rfl, by rw [hU], by rw [hU]; exact hPc, va_K.moved hW.alike hKc, hDc.weaken (fun _ _ _ _ => trivial)⟩⟩ rfl rfl hl.1 rfl (lv_room (Nat.le_of_ble_eq_true rfl)) dJx4a65c_init_da8c8_1 ⟨(Nat.le_of_ble_eq_true rfl), (Nat.le_of_ble_eq_true rfl)⟩) hS (fun q _ h => hFc q h) hFc (fun u t H1 locs ht hvm hw hB hz1 hk1 hS => ?_)
  obtain ⟨hP1, hK1, hD1⟩ := hB
  rw [ht] at hP1
  have hK1 := va_K.moved hvm.symm hK1
  obtain ⟨hP, hD⟩ := va_join (wr := []) (w1 := [(a, .inr (4, [.int 0, v1, .int n]))]) hP hD [0] [] rfl rfl (by decide) (by decide) hk1 hFc hP1 hD1
  have hK := (hK.sub (tys' := []) [] rfl).app hK1
  generalize H1 = H at hP hS ⊢
  have hP : va_P (dC, dI) vwCl [(a, .inr (4, [.int 0, v1, .int n]))] H := hP
  have hD : va_D A [(a, .inr (4, [.int 0, v1, .int n]))] := hD
  have hK : va_K (dC, dI) vwCl [] s := hK
  refine W.widen (k := 0) (n := 0) (Nat.le_of_ble_eq_true rfl) (Nat.le_of_ble_eq_true rfl) ?_
  refine lv_aload_n hx hb dJx4a65c_init_da8c8_4 rfl (lv_at hl 0 rfl) ?_
  refine va_gets hx hb hZ.list hS hown (hts _ q100) (fun _ h9 => h9) dJx4a65c_init_da8c8_5 ?_
  refine va_put (D := (dC, dI)) (ci := 4) (v := .ref ed) (ty := .array (.object "java/lang/Object")) (C := RJx4a65c) (T := TJx4a65c) (N := 3) hx hb hts inJx4a65c tyJx4a65c tyJx4a65c_ok nmJx4a65c hown hK hP hD hS 0 rfl rfl 1 (by decide) (hts _ q102) (fun _ h9 => h9) rfl (by decide +kernel) rfl rfl (Nat.le_of_ble_eq_true rfl) dJx4a65c_init_da8c8_8 (fun H locs hP hD hS => ?_)
  have hP : va_P (dC, dI) vwCl [(a, .inr (4, [.int 0, .ref ed, .int n]))] H := hP
  have hD : va_D A [(a, .inr (4, [.int 0, .ref ed, .int n]))] := hD
  have hP9 := hP.sub (ws' := [(a, .inr (4, [.int 0, .ref ed, .int n]))]) [0] rfl
  have hD9 := hD.sub (ws' := [(a, .inr (4, [.int 0, .ref ed, .int n]))]) [0] (by decide) rfl
  have hK9 := hK.sub (tys' := []) [] rfl
  refine W.widen (k := 0) (n := 0) (Nat.le_of_ble_eq_true rfl) (Nat.le_of_ble_eq_true rfl) ?_
  exact W.vret hx hb hr (fun t ht hW => ⟨⟨(), rfl, trivial, ⟨by rw [ht]; exact hP9, va_K.moved hW.alike hK9, hD9⟩⟩, hS.F ht⟩) hS.2.2 dJx4a65c_init_da8c8_11
set_option maxHeartbeats 4000000 in
set_option maxRecDepth 100000 in
theorem m_size (l : Launch) (dC : Nat → ClassId) (dI : Nat → Nat → Nat) (sz : Nat) (a : Nat) (v0 : Value) (v1 : Value) (n : Int32) : Met l yJx4a65c_size_8abf5 (pw_ws yJx4a65c_size_8abf5 cJx4a65c_size_8abf5 1 (some .int)) ({ frames := 1, cells := 0, slots := 0, locals := 20 } : Room) (va_Pc [.ref a] (fun U => U.heap.size = sz ∧ va_P (dC, dI) vwCl [(a, .inr (4, [v0, v1, .int n]))] U.heap ∧ va_K (dC, dI) vwCl [] U ∧ va_D (fun _ => True) [(a, .inr (4, [v0, v1, .int n]))])) (va_Qi (fun (r : Int32) (_ : Unit) => r = n) (fun (_ : Unit) (t : State) => va_P (dC, dI) vwCl [(a, .inr (4, [v0, v1, .int n]))] t.heap ∧ va_K (dC, dI) vwCl [] t ∧ va_D (va_A [(a, .inr (4, [v0, v1, .int n]))] sz) [(a, .inr (4, [v0, v1, .int n]))]) (va_A [(a, .inr (4, [v0, v1, .int n]))] sz)) 0 0 (va_A [(a, .inr (4, [v0, v1, .int n]))] sz) := by
  refine Met.ofW (cc := cJx4a65c_size_8abf5) (maxL := 1) (ret := (some .int)) (by decide) rfl ?_
  intro p e s m args below meth c s₁ B hml hv
  obtain ⟨rfl, hsz, hP, hK, hD0⟩ := hv
  have hx := B.exec
  have hb := B.bytes
  have hr := B.returns
  have hts0 := atoms_spec (ws := (pw_ws yJx4a65c_size_8abf5 cJx4a65c_size_8abf5 1 (some .int))) B.pre
  have hts : ∀ w ∈ pw_all, w.before _ s = true := fun w h => hts0 w (List.mem_cons_of_mem _ h)
  have hown : s.vm.findClass RJx4a65c = some m.cls := findClass_of_methodNamed B.named
  have hlocks := B.notSynchronized
  subst hsz
  have hD := hD0.self (sz := s.heap.size)
  generalize hAe : va_A [(a, .inr (4, [v0, v1, .int n]))] s.heap.size = A at hD ⊢
  have hA : ∀ q : Nat, s.heap.size ≤ q → A q := fun q h => by rw [← hAe]; exact Or.inr h
  have hS : va_S A s.heap s.heap [] := va_S.rf
  have hP : va_P (dC, dI) vwCl [(a, .inr (4, [v0, v1, .int n]))] s.heap := hP
  have hl := lv_entry ([.ref a]) (n := 1) (Nat.le_of_ble_eq_true rfl)
  rw [lg_entry_eq]
  generalize (lg_sl ([.ref a]) ++ List.replicate (1 - (lg_sl ([.ref a])).length) Slot.unset).toArray = ls at hl ⊢
  have hl : lv_has ls 1 [(0, .ref a)] := hl
  skip
  refine lv_aload_n hx hb dJx4a65c_size_8abf5_0 rfl (lv_at hl 0 rfl) ?_
  refine va_get (D := (dC, dI)) (ci := 4) (v := .int n) (C := RJx4a65c) (T := TJx4a65c) (N := 3) hx hb hts inJx4a65c hown hK hP 0 rfl rfl 2 (by decide) (hts _ q105) (fun _ h9 => h9) rfl dJx4a65c_size_8abf5_1 ?_
  have hP9 := hP.sub (ws' := [(a, .inr (4, [v0, v1, .int n]))]) [0] rfl
  have hD9 := hD.sub (ws' := [(a, .inr (4, [v0, v1, .int n]))]) [0] (by decide) rfl
  have hK9 := hK.sub (tys' := []) [] rfl
  refine W.widen (k := 0) (n := 0) (Nat.le_of_ble_eq_true rfl) (Nat.le_of_ble_eq_true rfl) ?_
  exact W.iret (v := n) hx hb hr (fun t ht hW => ⟨⟨n, (), rfl, rfl, ⟨by rw [ht]; exact hP9, va_K.moved hW.alike hK9, hD9⟩⟩, hS.F ht⟩) hS.2.2 dJx4a65c_size_8abf5_4
set_option maxHeartbeats 4000000 in
set_option maxRecDepth 100000 in
theorem m_growI (l : Launch) (dC : Nat → ClassId) (dI : Nat → Nat → Nat) (sz : Nat) (ed : Nat) (a : Nat) (m0 : Int32) : Met l yJx4a65c_grow_92f84 (pw_ws yJx4a65c_grow_92f84 cJx4a65c_grow_92f84 4 (some (.array (.object "java/lang/Object")))) ({ frames := 1, cells := 1, slots := 10, locals := 20 } : Room) (va_Pc [.ref a, .int 1] (fun U => U.heap.size = sz ∧ va_P (dC, dI) vwCl [(a, .inr (4, [.int m0, .ref ed, .int 0]))] U.heap ∧ va_K (dC, dI) vwCl [] U ∧ va_D (fun _ => True) [(a, .inr (4, [.int m0, .ref ed, .int 0]))] ∧ pz ed (va_A [(a, .inr (4, [.int m0, .ref ed, .int 0]))] sz) U U.heap)) (va_Qr (fun (_ : Unit) => True) (fun (_ : Unit) (ra : Nat) (t : State) => ∃ (cA : ClassId), va_P (dC, dI) vwCl [(a, .inr (4, [.int m0, .ref ra, .int 0])), (ra, .inl (cA, 10, .inr (.inr (.inr (.inr (fun _ => none))))))] t.heap ∧ va_K (dC, dI) vwCl [(cA, .object "java/lang/Object")] t ∧ va_D (va_A [(a, .inr (4, [.int m0, .ref ed, .int 0]))] sz) [(a, .inr (4, [.int m0, .ref ra, .int 0])), (ra, .inl (cA, 10, .inr (.inr (.inr (.inr (fun _ => none))))))]) (va_A [(a, .inr (4, [.int m0, .ref ed, .int 0]))] sz)) 1 10 (va_A [(a, .inr (4, [.int m0, .ref ed, .int 0]))] sz) := by
  refine Met.ofW (cc := cJx4a65c_grow_92f84) (maxL := 4) (ret := (some (.array (.object "java/lang/Object")))) (by decide) rfl ?_
  intro p e s m args below meth c s₁ B hml hv
  obtain ⟨rfl, hsz, hP, hK, hD0, hZ⟩ := hv
  have hx := B.exec
  have hb := B.bytes
  have hr := B.returns
  have hts0 := atoms_spec (ws := (pw_ws yJx4a65c_grow_92f84 cJx4a65c_grow_92f84 4 (some (.array (.object "java/lang/Object"))))) B.pre
  have hts : ∀ w ∈ pw_all, w.before _ s = true := fun w h => hts0 w (List.mem_cons_of_mem _ h)
  have hown : s.vm.findClass RJx4a65c = some m.cls := findClass_of_methodNamed B.named
  have hlocks := B.notSynchronized
  subst hsz
  have hD := hD0.self (sz := s.heap.size)
  generalize hAe : va_A [(a, .inr (4, [.int m0, .ref ed, .int 0]))] s.heap.size = A at hD hZ ⊢
  have hA : ∀ q : Nat, s.heap.size ≤ q → A q := fun q h => by rw [← hAe]; exact Or.inr h
  have hS : va_S A s.heap s.heap [] := va_S.rf
  have hP : va_P (dC, dI) vwCl [(a, .inr (4, [.int m0, .ref ed, .int 0]))] s.heap := hP
  have hl := lv_entry ([.ref a, .int 1]) (n := 4) (Nat.le_of_ble_eq_true rfl)
  rw [lg_entry_eq]
  generalize (lg_sl ([.ref a, .int 1]) ++ List.replicate (4 - (lg_sl ([.ref a, .int 1])).length) Slot.unset).toArray = ls at hl ⊢
  have hl : lv_has ls 4 [(0, .ref a), (1, .int 1)] := hl
  skip
  refine lv_aload_n hx hb dJx4a65c_grow_92f84_0 rfl (lv_at hl 0 rfl) ?_
  refine va_get (D := (dC, dI)) (ci := 4) (v := .ref ed) (C := RJx4a65c) (T := TJx4a65c) (N := 3) hx hb hts inJx4a65c hown hK hP 0 rfl rfl 1 (by decide) (hts _ q102) (fun _ h9 => h9) rfl dJx4a65c_grow_92f84_1 ?_
  refine pl_edlen hx hb hZ hS dJx4a65c_grow_92f84_4 ?_
  refine lv_istore_n (lv' := [(2, .int 0), (0, .ref a), (1, .int 1)]) hx hb dJx4a65c_grow_92f84_5 rfl hl (by decide) rfl (fun ls hl => ?_)
  refine lv_iload_n hx hb dJx4a65c_grow_92f84_6 rfl (lv_at hl 0 rfl) ?_
  refine lv_if_gt (tgt := 20) hx hb dJx4a65c_grow_92f84_7 (by decide) (fun c_4 => absurd c_4 (by decide)) (fun c_4 => ?_)
  refine lv_aload_n hx hb dJx4a65c_grow_92f84_10 rfl (lv_at hl 1 rfl) ?_
  refine va_get (D := (dC, dI)) (ci := 4) (v := .ref ed) (C := RJx4a65c) (T := TJx4a65c) (N := 3) hx hb hts inJx4a65c hown hK hP 0 rfl rfl 1 (by decide) (hts _ q102) (fun _ h9 => h9) rfl dJx4a65c_grow_92f84_11 ?_
  refine va_gets hx hb hZ.list hS hown (hts _ q100) (fun _ h9 => h9) dJx4a65c_grow_92f84_14 ?_
  refine lv_acmp_eq (rx := some ed) (ry := some ed) (tgt := 45) hx hb dJx4a65c_grow_92f84_17 (by decide) (fun _ => ?_) (fun c_5 => absurd rfl c_5)
  refine lv_aload_n hx hb dJx4a65c_grow_92f84_45 rfl (lv_at hl 1 rfl) ?_
  refine lv_bipush (v := 10) hx hb dJx4a65c_grow_92f84_46 (by decide) ?_
  refine lv_iload_n hx hb dJx4a65c_grow_92f84_48 rfl (lv_at hl 2 rfl) ?_
  refine va_mmax hx hb (hml.trans hl.1.symm) hown (hts _ q497) (hts _ q451) (hts _ q56) (hts _ q452) (Nat.le_of_ble_eq_true rfl) (Nat.le_of_ble_eq_true rfl) (Nat.le_of_ble_eq_true rfl) (Nat.le_of_ble_eq_true rfl) dJx4a65c_grow_92f84_49 ?_
  refine lv_numI (v := 10) (by decide) ?_
  refine va_newq (C := "java/lang/Object") (N' := 10) (n := 10) hx hb hown (hts _ q498) hZ.2.2.2.2.2.2.1 hK hP hD hS hA (by decide) (by decide) (Nat.le_of_ble_eq_true rfl) (Nat.le_of_ble_eq_true rfl) (Nat.le_of_ble_eq_true rfl) dJx4a65c_grow_92f84_52 (fun q_6 cA_7 H hK hP hD hS => ?_)
  have hP : va_P (dC, dI) vwCl [(a, .inr (4, [.int m0, .ref ed, .int 0])), (q_6, .inl (cA_7, 10, .inr (.inr (.inr (.inr (fun _ => none))))))] H := hP
  have hD : va_D A [(a, .inr (4, [.int m0, .ref ed, .int 0])), (q_6, .inl (cA_7, 10, .inr (.inr (.inr (.inr (fun _ => none))))))] := hD
  have hK : va_K (dC, dI) vwCl [(cA_7, .object "java/lang/Object")] s := hK
  refine W.widen (k := 1) (n := 10) (Nat.le_of_ble_eq_true rfl) (Nat.le_of_ble_eq_true rfl) ?_
  refine lv_dup_x1 hx hb dJx4a65c_grow_92f84_55 rfl rfl ?_
  refine va_put (D := (dC, dI)) (ci := 4) (v := .ref q_6) (ty := .array (.object "java/lang/Object")) (C := RJx4a65c) (T := TJx4a65c) (N := 3) hx hb hts inJx4a65c tyJx4a65c tyJx4a65c_ok nmJx4a65c hown hK hP hD hS 0 rfl rfl 1 (by decide) (hts _ q102) (fun _ h9 => h9) rfl (by decide +kernel) rfl rfl (Nat.le_of_ble_eq_true rfl) dJx4a65c_grow_92f84_56 (fun H locs hP hD hS => ?_)
  have hP : va_P (dC, dI) vwCl [(a, .inr (4, [.int m0, .ref q_6, .int 0])), (q_6, .inl (cA_7, 10, .inr (.inr (.inr (.inr (fun _ => none))))))] H := hP
  have hD : va_D A [(a, .inr (4, [.int m0, .ref q_6, .int 0])), (q_6, .inl (cA_7, 10, .inr (.inr (.inr (.inr (fun _ => none))))))] := hD
  have hP9 := hP.sub (ws' := [(a, .inr (4, [.int m0, .ref q_6, .int 0])), (q_6, .inl (cA_7, 10, .inr (.inr (.inr (.inr (fun _ => none))))))]) [0, 1] rfl
  have hD9 := hD.sub (ws' := [(a, .inr (4, [.int m0, .ref q_6, .int 0])), (q_6, .inl (cA_7, 10, .inr (.inr (.inr (.inr (fun _ => none))))))]) [0, 1] (by decide) rfl
  have hK9 := hK.sub (tys' := [(cA_7, .object "java/lang/Object")]) [0] rfl
  refine W.widen (k := 1) (n := 10) (Nat.le_of_ble_eq_true rfl) (Nat.le_of_ble_eq_true rfl) ?_
  exact W.aret (v := .ref q_6) hx hb hr (by first | exact Or.inl ⟨_, rfl⟩ | exact Or.inr ⟨_, rfl⟩) (Or.inr ⟨_, rfl⟩) (fun t ht hW => ⟨⟨(), q_6, rfl, trivial, ⟨cA_7, by rw [ht]; exact hP9, va_K.moved hW.alike hK9, hD9⟩⟩, hS.F ht⟩) hS.2.2 dJx4a65c_grow_92f84_59
set_option maxHeartbeats 4000000 in
set_option maxRecDepth 100000 in
theorem m_grow (l : Launch) (dC : Nat → ClassId) (dI : Nat → Nat → Nat) (sz : Nat) (ed : Nat) (a : Nat) (m0 : Int32) : Met l yJx4a65c_grow_d5877 (pw_ws yJx4a65c_grow_d5877 cJx4a65c_grow_d5877 1 (some (.array (.object "java/lang/Object")))) ({ frames := 2, cells := 1, slots := 10, locals := 43 } : Room) (va_Pc [.ref a] (fun U => U.heap.size = sz ∧ va_P (dC, dI) vwCl [(a, .inr (4, [.int m0, .ref ed, .int 0]))] U.heap ∧ va_K (dC, dI) vwCl [] U ∧ va_D (fun _ => True) [(a, .inr (4, [.int m0, .ref ed, .int 0]))] ∧ pz ed (va_A [(a, .inr (4, [.int m0, .ref ed, .int 0]))] sz) U U.heap)) (va_Qr (fun (_ : Unit) => True) (fun (_ : Unit) (ra : Nat) (t : State) => ∃ (cA : ClassId), va_P (dC, dI) vwCl [(a, .inr (4, [.int m0, .ref ra, .int 0])), (ra, .inl (cA, 10, .inr (.inr (.inr (.inr (fun _ => none))))))] t.heap ∧ va_K (dC, dI) vwCl [(cA, .object "java/lang/Object")] t ∧ va_D (va_A [(a, .inr (4, [.int m0, .ref ed, .int 0]))] sz) [(a, .inr (4, [.int m0, .ref ra, .int 0])), (ra, .inl (cA, 10, .inr (.inr (.inr (.inr (fun _ => none))))))]) (va_A [(a, .inr (4, [.int m0, .ref ed, .int 0]))] sz)) 1 10 (va_A [(a, .inr (4, [.int m0, .ref ed, .int 0]))] sz) := by
  refine Met.ofW (cc := cJx4a65c_grow_d5877) (maxL := 1) (ret := (some (.array (.object "java/lang/Object")))) (by decide) rfl ?_
  intro p e s m args below meth c s₁ B hml hv
  obtain ⟨rfl, hsz, hP, hK, hD0, hZ⟩ := hv
  have hx := B.exec
  have hb := B.bytes
  have hr := B.returns
  have hts0 := atoms_spec (ws := (pw_ws yJx4a65c_grow_d5877 cJx4a65c_grow_d5877 1 (some (.array (.object "java/lang/Object"))))) B.pre
  have hts : ∀ w ∈ pw_all, w.before _ s = true := fun w h => hts0 w (List.mem_cons_of_mem _ h)
  have hown : s.vm.findClass RJx4a65c = some m.cls := findClass_of_methodNamed B.named
  have hlocks := B.notSynchronized
  subst hsz
  have hD := hD0.self (sz := s.heap.size)
  generalize hAe : va_A [(a, .inr (4, [.int m0, .ref ed, .int 0]))] s.heap.size = A at hD hZ ⊢
  have hA : ∀ q : Nat, s.heap.size ≤ q → A q := fun q h => by rw [← hAe]; exact Or.inr h
  have hS : va_S A s.heap s.heap [] := va_S.rf
  have hP : va_P (dC, dI) vwCl [(a, .inr (4, [.int m0, .ref ed, .int 0]))] s.heap := hP
  have hl := lv_entry ([.ref a]) (n := 1) (Nat.le_of_ble_eq_true rfl)
  rw [lg_entry_eq]
  generalize (lg_sl ([.ref a]) ++ List.replicate (1 - (lg_sl ([.ref a])).length) Slot.unset).toArray = ls at hl ⊢
  have hl : lv_has ls 1 [(0, .ref a)] := hl
  skip
  refine lv_aload_n hx hb dJx4a65c_grow_d5877_0 rfl (lv_at hl 0 rfl) ?_
  refine lv_aload_n hx hb dJx4a65c_grow_d5877_1 rfl (lv_at hl 0 rfl) ?_
  refine va_get (D := (dC, dI)) (ci := 4) (v := .int 0) (C := RJx4a65c) (T := TJx4a65c) (N := 3) hx hb hts inJx4a65c hown hK hP 0 rfl rfl 2 (by decide) (hts _ q105) (fun _ h9 => h9) rfl dJx4a65c_grow_d5877_2 ?_
  refine lv_iconst (v := 1) hx hb dJx4a65c_grow_d5877_5 (by decide) ?_
  refine lv_iadd hx hb dJx4a65c_grow_d5877_6 ?_
  refine lv_numI (v := 1) (by decide) ?_
  have hPc := hP.sub (ws' := [(a, .inr (4, [.int m0, .ref ed, .int 0]))]) [0] rfl
  have hDc := hD.sub (ws' := [(a, .inr (4, [.int m0, .ref ed, .int 0]))]) [0] (by decide) rfl
  have hKc := hK.sub (tys' := []) [] rfl
  have hFc := va_free (wc := [(a, .inr (4, [.int m0, .ref ed, .int 0]))]) hD hS hA [0] rfl
  refine va_callr (va_runV (As := [.int 1]) (rest := []) ⟨hx, hb, hml, hown, hts⟩ (m_growI l dC dI s.heap.size ed a m0) (cwV 1 hts (pw_V q443 q445 q6 q46 q446) rfl rfl rfl (by decide +kernel) ⟨(Nat.le_of_ble_eq_true rfl), (Nat.le_of_ble_eq_true rfl)⟩) ⟨fun a U g mk q => by obtain ⟨q0, q1, qP, qK, qD, qZ⟩ := q; exact ⟨q0, q1, qP, va_K.moved (u := U) (U := U.calling g mk a) (Vm.Alike.refl U.vm) qK, qD, qZ.same rfl⟩, va_recv hKc hPc (ci := 4) (q0 := 0) rfl rfl, fun U hU hW => ⟨rfl, by rw [hU], by rw [hU]; exact hPc, va_K.moved hW.alike hKc, hDc.weaken (fun _ _ _ _ => trivial), hZ.call hS hFc hU hW⟩⟩ rfl rfl hl.1 rfl (lv_room (Nat.le_of_ble_eq_true rfl)) dJx4a65c_grow_d5877_7 ⟨(Nat.le_of_ble_eq_true rfl), (Nat.le_of_ble_eq_true rfl)⟩) hS (fun q _ h => hFc q h) hFc (fun u r_8 t H1 locs ht hvm hw hB hz1 hk1 hS => ?_)
  obtain ⟨cA_9, hP1, hK1, hD1⟩ := hB
  rw [ht] at hP1
  have hK1 := va_K.moved hvm.symm hK1
  obtain ⟨hP, hD⟩ := va_join (wr := []) (w1 := [(a, .inr (4, [.int m0, .ref r_8, .int 0])), (r_8, .inl (cA_9, 10, .inr (.inr (.inr (.inr (fun _ => none))))))]) hP hD [0] [] rfl rfl (by decide) (by decide) hk1 hFc hP1 hD1
  have hK := (hK.sub (tys' := []) [] rfl).app hK1
  generalize H1 = H at hP hS ⊢
  have hP : va_P (dC, dI) vwCl [(a, .inr (4, [.int m0, .ref r_8, .int 0])), (r_8, .inl (cA_9, 10, .inr (.inr (.inr (.inr (fun _ => none))))))] H := hP
  have hD : va_D A [(a, .inr (4, [.int m0, .ref r_8, .int 0])), (r_8, .inl (cA_9, 10, .inr (.inr (.inr (.inr (fun _ => none))))))] := hD
  have hK : va_K (dC, dI) vwCl [(cA_9, .object "java/lang/Object")] s := hK
  refine W.widen (k := 1) (n := 10) (Nat.le_of_ble_eq_true rfl) (Nat.le_of_ble_eq_true rfl) ?_
  have hP9 := hP.sub (ws' := [(a, .inr (4, [.int m0, .ref r_8, .int 0])), (r_8, .inl (cA_9, 10, .inr (.inr (.inr (.inr (fun _ => none))))))]) [0, 1] rfl
  have hD9 := hD.sub (ws' := [(a, .inr (4, [.int m0, .ref r_8, .int 0])), (r_8, .inl (cA_9, 10, .inr (.inr (.inr (.inr (fun _ => none))))))]) [0, 1] (by decide) rfl
  have hK9 := hK.sub (tys' := [(cA_9, .object "java/lang/Object")]) [0] rfl
  refine W.widen (k := 1) (n := 10) (Nat.le_of_ble_eq_true rfl) (Nat.le_of_ble_eq_true rfl) ?_
  exact W.aret (v := .ref r_8) hx hb hr (by first | exact Or.inl ⟨_, rfl⟩ | exact Or.inr ⟨_, rfl⟩) (Or.inr ⟨_, rfl⟩) (fun t ht hW => ⟨⟨(), r_8, rfl, trivial, ⟨cA_9, by rw [ht]; exact hP9, va_K.moved hW.alike hK9, hD9⟩⟩, hS.F ht⟩) hS.2.2 dJx4a65c_grow_d5877_10
set_option maxHeartbeats 4000000 in
set_option maxRecDepth 100000 in
theorem m_chainInit (l : Launch) (dC : Nat → ClassId) (dI : Nat → Nat → Nat) (sz : Nat) (h0 : Nat) : Met l yX0_init (pw_ws yX0_init cX0_init 1 none) ({ frames := 1, cells := 9, slots := 36, locals := 20 } : Room) (va_Pc [.ref h0] (fun U => U.heap.size = sz ∧ va_P (dC, dI) vwCl [(h0, .inr (5, [.null, .null, .null, .null, .null, .null, .null, .null, .null, .int 0, .long 0]))] U.heap ∧ va_K (dC, dI) vwCl [] U ∧ va_D (fun _ => True) [(h0, .inr (5, [.null, .null, .null, .null, .null, .null, .null, .null, .null, .int 0, .long 0]))])) (va_Qv (fun (_ : Unit) => True) (fun (_ : Unit) (t : State) => va_P (dC, dI) vwCl [] t.heap ∧ va_K (dC, dI) vwCl [] t ∧ va_D (va_A [(h0, .inr (5, [.null, .null, .null, .null, .null, .null, .null, .null, .null, .int 0, .long 0]))] sz) []) (va_A [(h0, .inr (5, [.null, .null, .null, .null, .null, .null, .null, .null, .null, .int 0, .long 0]))] sz)) 9 36 (va_A [(h0, .inr (5, [.null, .null, .null, .null, .null, .null, .null, .null, .null, .int 0, .long 0]))] sz) := by
  refine Met.ofW (cc := cX0_init) (maxL := 1) (ret := none) (by decide) rfl ?_
  intro p e s m args below meth c s₁ B hml hv
  obtain ⟨rfl, hsz, hP, hK, hD0⟩ := hv
  have hx := B.exec
  have hb := B.bytes
  have hr := B.returns
  have hts0 := atoms_spec (ws := (pw_ws yX0_init cX0_init 1 none)) B.pre
  have hts : ∀ w ∈ pw_all, w.before _ s = true := fun w h => hts0 w (List.mem_cons_of_mem _ h)
  have hown : s.vm.findClass RX0 = some m.cls := findClass_of_methodNamed B.named
  have hlocks := B.notSynchronized
  have hin : meth.name = "<init>" := (name_of_methodNamed B.named B.method).1
  subst hsz
  have hD := hD0.self (sz := s.heap.size)
  generalize hAe : va_A [(h0, .inr (5, [.null, .null, .null, .null, .null, .null, .null, .null, .null, .int 0, .long 0]))] s.heap.size = A at hD ⊢
  have hA : ∀ q : Nat, s.heap.size ≤ q → A q := fun q h => by rw [← hAe]; exact Or.inr h
  have hS : va_S A s.heap s.heap [] := va_S.rf
  have hP : va_P (dC, dI) vwCl [(h0, .inr (5, [.null, .null, .null, .null, .null, .null, .null, .null, .null, .int 0, .long 0]))] s.heap := hP
  have hl := lv_entry ([.ref h0]) (n := 1) (Nat.le_of_ble_eq_true rfl)
  rw [lg_entry_eq]
  generalize (lg_sl ([.ref h0]) ++ List.replicate (1 - (lg_sl ([.ref h0])).length) Slot.unset).toArray = ls at hl ⊢
  have hl : lv_has ls 1 [(0, .ref h0)] := hl
  skip
  refine lv_aload_n hx hb dX0_init_0 rfl (lv_at hl 0 rfl) ?_
  refine W.objInit hx hb hown (hts _ q149) (hts _ q86) (hts _ q87) rfl (by rw [hml]; exact hl.1) rfl dX0_init_1 (Nat.le_of_ble_eq_true rfl) (Nat.le_of_ble_eq_true rfl) ?_
  refine W.eq (g2 := F0 m 4 ls []) rfl ?_
  refine lv_aload_n hx hb dX0_init_4 rfl (lv_at hl 0 rfl) ?_
  refine lv_iconst (v := 4) hx hb dX0_init_5 (by decide) ?_
  refine va_newa (atype := .int) (N' := 4) (a0 := (4, .inl (fun _ => 0))) (ty := .int) (n := 4) hx hb (hts _ q143) rfl hK hP hD hS hA (fun _ => rfl) (by decide) (by decide) (Nat.le_of_ble_eq_true rfl) (Nat.le_of_ble_eq_true rfl) (Nat.le_of_ble_eq_true rfl) dX0_init_6 (fun q_20 cA_21 H hK hP hD hS => ?_)
  have hP : va_P (dC, dI) vwCl [(h0, .inr (5, [.null, .null, .null, .null, .null, .null, .null, .null, .null, .int 0, .long 0])), (q_20, .inl (cA_21, 4, .inl (fun _ => 0)))] H := hP
  have hD : va_D A [(h0, .inr (5, [.null, .null, .null, .null, .null, .null, .null, .null, .null, .int 0, .long 0])), (q_20, .inl (cA_21, 4, .inl (fun _ => 0)))] := hD
  have hK : va_K (dC, dI) vwCl [(cA_21, .int)] s := hK
  refine W.widen (k := 1) (n := 4) (Nat.le_of_ble_eq_true rfl) (Nat.le_of_ble_eq_true rfl) ?_
  refine va_putF (D := (dC, dI)) (ci := 5) (v := .ref q_20) (ty := .array .int) (C := RX0) (T := TX0) (N := 11) hx hb hts inX0 tyX0 tyX0_ok nmX0 hown hK hP hD hS 0 rfl rfl 0 (by decide) (hts _ q150) (fun _ h9 => h9) rfl hin rfl (by decide +kernel) rfl rfl (Nat.le_of_ble_eq_true rfl) dX0_init_8 (fun H locs hP hD hS => ?_)
  have hP : va_P (dC, dI) vwCl [(h0, .inr (5, [.ref q_20, .null, .null, .null, .null, .null, .null, .null, .null, .int 0, .long 0])), (q_20, .inl (cA_21, 4, .inl (fun _ => 0)))] H := hP
  have hD : va_D A [(h0, .inr (5, [.ref q_20, .null, .null, .null, .null, .null, .null, .null, .null, .int 0, .long 0])), (q_20, .inl (cA_21, 4, .inl (fun _ => 0)))] := hD
  refine lv_aload_n hx hb dX0_init_11 rfl (lv_at hl 0 rfl) ?_
  refine lv_iconst (v := 4) hx hb dX0_init_12 (by decide) ?_
  refine va_newa (atype := .int) (N' := 4) (a0 := (4, .inl (fun _ => 0))) (ty := .int) (n := 4) hx hb (hts _ q143) rfl hK hP hD hS hA (fun _ => rfl) (by decide) (by decide) (Nat.le_of_ble_eq_true rfl) (Nat.le_of_ble_eq_true rfl) (Nat.le_of_ble_eq_true rfl) dX0_init_13 (fun q_22 cA_23 H hK hP hD hS => ?_)
  have hP : va_P (dC, dI) vwCl [(h0, .inr (5, [.ref q_20, .null, .null, .null, .null, .null, .null, .null, .null, .int 0, .long 0])), (q_20, .inl (cA_21, 4, .inl (fun _ => 0))), (q_22, .inl (cA_23, 4, .inl (fun _ => 0)))] H := hP
  have hD : va_D A [(h0, .inr (5, [.ref q_20, .null, .null, .null, .null, .null, .null, .null, .null, .int 0, .long 0])), (q_20, .inl (cA_21, 4, .inl (fun _ => 0))), (q_22, .inl (cA_23, 4, .inl (fun _ => 0)))] := hD
  have hK : va_K (dC, dI) vwCl [(cA_21, .int), (cA_23, .int)] s := hK
  refine W.widen (k := 2) (n := 8) (Nat.le_of_ble_eq_true rfl) (Nat.le_of_ble_eq_true rfl) ?_
  refine va_putF (D := (dC, dI)) (ci := 5) (v := .ref q_22) (ty := .array .int) (C := RX0) (T := TX0) (N := 11) hx hb hts inX0 tyX0 tyX0_ok nmX0 hown hK hP hD hS 0 rfl rfl 1 (by decide) (hts _ q151) (fun _ h9 => h9) rfl hin rfl (by decide +kernel) rfl rfl (Nat.le_of_ble_eq_true rfl) dX0_init_15 (fun H locs hP hD hS => ?_)
  have hP : va_P (dC, dI) vwCl [(h0, .inr (5, [.ref q_20, .ref q_22, .null, .null, .null, .null, .null, .null, .null, .int 0, .long 0])), (q_20, .inl (cA_21, 4, .inl (fun _ => 0))), (q_22, .inl (cA_23, 4, .inl (fun _ => 0)))] H := hP
  have hD : va_D A [(h0, .inr (5, [.ref q_20, .ref q_22, .null, .null, .null, .null, .null, .null, .null, .int 0, .long 0])), (q_20, .inl (cA_21, 4, .inl (fun _ => 0))), (q_22, .inl (cA_23, 4, .inl (fun _ => 0)))] := hD
  refine lv_aload_n hx hb dX0_init_18 rfl (lv_at hl 0 rfl) ?_
  refine lv_iconst (v := 4) hx hb dX0_init_19 (by decide) ?_
  refine va_newa (atype := .int) (N' := 4) (a0 := (4, .inl (fun _ => 0))) (ty := .int) (n := 4) hx hb (hts _ q143) rfl hK hP hD hS hA (fun _ => rfl) (by decide) (by decide) (Nat.le_of_ble_eq_true rfl) (Nat.le_of_ble_eq_true rfl) (Nat.le_of_ble_eq_true rfl) dX0_init_20 (fun q_24 cA_25 H hK hP hD hS => ?_)
  have hP : va_P (dC, dI) vwCl [(h0, .inr (5, [.ref q_20, .ref q_22, .null, .null, .null, .null, .null, .null, .null, .int 0, .long 0])), (q_20, .inl (cA_21, 4, .inl (fun _ => 0))), (q_22, .inl (cA_23, 4, .inl (fun _ => 0))), (q_24, .inl (cA_25, 4, .inl (fun _ => 0)))] H := hP
  have hD : va_D A [(h0, .inr (5, [.ref q_20, .ref q_22, .null, .null, .null, .null, .null, .null, .null, .int 0, .long 0])), (q_20, .inl (cA_21, 4, .inl (fun _ => 0))), (q_22, .inl (cA_23, 4, .inl (fun _ => 0))), (q_24, .inl (cA_25, 4, .inl (fun _ => 0)))] := hD
  have hK : va_K (dC, dI) vwCl [(cA_21, .int), (cA_23, .int), (cA_25, .int)] s := hK
  refine W.widen (k := 3) (n := 12) (Nat.le_of_ble_eq_true rfl) (Nat.le_of_ble_eq_true rfl) ?_
  refine va_putF (D := (dC, dI)) (ci := 5) (v := .ref q_24) (ty := .array .int) (C := RX0) (T := TX0) (N := 11) hx hb hts inX0 tyX0 tyX0_ok nmX0 hown hK hP hD hS 0 rfl rfl 2 (by decide) (hts _ q152) (fun _ h9 => h9) rfl hin rfl (by decide +kernel) rfl rfl (Nat.le_of_ble_eq_true rfl) dX0_init_22 (fun H locs hP hD hS => ?_)
  have hP : va_P (dC, dI) vwCl [(h0, .inr (5, [.ref q_20, .ref q_22, .ref q_24, .null, .null, .null, .null, .null, .null, .int 0, .long 0])), (q_20, .inl (cA_21, 4, .inl (fun _ => 0))), (q_22, .inl (cA_23, 4, .inl (fun _ => 0))), (q_24, .inl (cA_25, 4, .inl (fun _ => 0)))] H := hP
  have hD : va_D A [(h0, .inr (5, [.ref q_20, .ref q_22, .ref q_24, .null, .null, .null, .null, .null, .null, .int 0, .long 0])), (q_20, .inl (cA_21, 4, .inl (fun _ => 0))), (q_22, .inl (cA_23, 4, .inl (fun _ => 0))), (q_24, .inl (cA_25, 4, .inl (fun _ => 0)))] := hD
  refine lv_aload_n hx hb dX0_init_25 rfl (lv_at hl 0 rfl) ?_
  refine lv_iconst (v := 4) hx hb dX0_init_26 (by decide) ?_
  refine va_newa (atype := .int) (N' := 4) (a0 := (4, .inl (fun _ => 0))) (ty := .int) (n := 4) hx hb (hts _ q143) rfl hK hP hD hS hA (fun _ => rfl) (by decide) (by decide) (Nat.le_of_ble_eq_true rfl) (Nat.le_of_ble_eq_true rfl) (Nat.le_of_ble_eq_true rfl) dX0_init_27 (fun q_26 cA_27 H hK hP hD hS => ?_)
  have hP : va_P (dC, dI) vwCl [(h0, .inr (5, [.ref q_20, .ref q_22, .ref q_24, .null, .null, .null, .null, .null, .null, .int 0, .long 0])), (q_20, .inl (cA_21, 4, .inl (fun _ => 0))), (q_22, .inl (cA_23, 4, .inl (fun _ => 0))), (q_24, .inl (cA_25, 4, .inl (fun _ => 0))), (q_26, .inl (cA_27, 4, .inl (fun _ => 0)))] H := hP
  have hD : va_D A [(h0, .inr (5, [.ref q_20, .ref q_22, .ref q_24, .null, .null, .null, .null, .null, .null, .int 0, .long 0])), (q_20, .inl (cA_21, 4, .inl (fun _ => 0))), (q_22, .inl (cA_23, 4, .inl (fun _ => 0))), (q_24, .inl (cA_25, 4, .inl (fun _ => 0))), (q_26, .inl (cA_27, 4, .inl (fun _ => 0)))] := hD
  have hK : va_K (dC, dI) vwCl [(cA_21, .int), (cA_23, .int), (cA_25, .int), (cA_27, .int)] s := hK
  refine W.widen (k := 4) (n := 16) (Nat.le_of_ble_eq_true rfl) (Nat.le_of_ble_eq_true rfl) ?_
  refine va_putF (D := (dC, dI)) (ci := 5) (v := .ref q_26) (ty := .array .int) (C := RX0) (T := TX0) (N := 11) hx hb hts inX0 tyX0 tyX0_ok nmX0 hown hK hP hD hS 0 rfl rfl 3 (by decide) (hts _ q154) (fun _ h9 => h9) rfl hin rfl (by decide +kernel) rfl rfl (Nat.le_of_ble_eq_true rfl) dX0_init_29 (fun H locs hP hD hS => ?_)
  have hP : va_P (dC, dI) vwCl [(h0, .inr (5, [.ref q_20, .ref q_22, .ref q_24, .ref q_26, .null, .null, .null, .null, .null, .int 0, .long 0])), (q_20, .inl (cA_21, 4, .inl (fun _ => 0))), (q_22, .inl (cA_23, 4, .inl (fun _ => 0))), (q_24, .inl (cA_25, 4, .inl (fun _ => 0))), (q_26, .inl (cA_27, 4, .inl (fun _ => 0)))] H := hP
  have hD : va_D A [(h0, .inr (5, [.ref q_20, .ref q_22, .ref q_24, .ref q_26, .null, .null, .null, .null, .null, .int 0, .long 0])), (q_20, .inl (cA_21, 4, .inl (fun _ => 0))), (q_22, .inl (cA_23, 4, .inl (fun _ => 0))), (q_24, .inl (cA_25, 4, .inl (fun _ => 0))), (q_26, .inl (cA_27, 4, .inl (fun _ => 0)))] := hD
  refine lv_aload_n hx hb dX0_init_32 rfl (lv_at hl 0 rfl) ?_
  refine lv_iconst (v := 4) hx hb dX0_init_33 (by decide) ?_
  refine va_newa (atype := .int) (N' := 4) (a0 := (4, .inl (fun _ => 0))) (ty := .int) (n := 4) hx hb (hts _ q143) rfl hK hP hD hS hA (fun _ => rfl) (by decide) (by decide) (Nat.le_of_ble_eq_true rfl) (Nat.le_of_ble_eq_true rfl) (Nat.le_of_ble_eq_true rfl) dX0_init_34 (fun q_28 cA_29 H hK hP hD hS => ?_)
  have hP : va_P (dC, dI) vwCl [(h0, .inr (5, [.ref q_20, .ref q_22, .ref q_24, .ref q_26, .null, .null, .null, .null, .null, .int 0, .long 0])), (q_20, .inl (cA_21, 4, .inl (fun _ => 0))), (q_22, .inl (cA_23, 4, .inl (fun _ => 0))), (q_24, .inl (cA_25, 4, .inl (fun _ => 0))), (q_26, .inl (cA_27, 4, .inl (fun _ => 0))), (q_28, .inl (cA_29, 4, .inl (fun _ => 0)))] H := hP
  have hD : va_D A [(h0, .inr (5, [.ref q_20, .ref q_22, .ref q_24, .ref q_26, .null, .null, .null, .null, .null, .int 0, .long 0])), (q_20, .inl (cA_21, 4, .inl (fun _ => 0))), (q_22, .inl (cA_23, 4, .inl (fun _ => 0))), (q_24, .inl (cA_25, 4, .inl (fun _ => 0))), (q_26, .inl (cA_27, 4, .inl (fun _ => 0))), (q_28, .inl (cA_29, 4, .inl (fun _ => 0)))] := hD
  have hK : va_K (dC, dI) vwCl [(cA_21, .int), (cA_23, .int), (cA_25, .int), (cA_27, .int), (cA_29, .int)] s := hK
  refine W.widen (k := 5) (n := 20) (Nat.le_of_ble_eq_true rfl) (Nat.le_of_ble_eq_true rfl) ?_
  refine va_putF (D := (dC, dI)) (ci := 5) (v := .ref q_28) (ty := .array .int) (C := RX0) (T := TX0) (N := 11) hx hb hts inX0 tyX0 tyX0_ok nmX0 hown hK hP hD hS 0 rfl rfl 4 (by decide) (hts _ q155) (fun _ h9 => h9) rfl hin rfl (by decide +kernel) rfl rfl (Nat.le_of_ble_eq_true rfl) dX0_init_36 (fun H locs hP hD hS => ?_)
  have hP : va_P (dC, dI) vwCl [(h0, .inr (5, [.ref q_20, .ref q_22, .ref q_24, .ref q_26, .ref q_28, .null, .null, .null, .null, .int 0, .long 0])), (q_20, .inl (cA_21, 4, .inl (fun _ => 0))), (q_22, .inl (cA_23, 4, .inl (fun _ => 0))), (q_24, .inl (cA_25, 4, .inl (fun _ => 0))), (q_26, .inl (cA_27, 4, .inl (fun _ => 0))), (q_28, .inl (cA_29, 4, .inl (fun _ => 0)))] H := hP
  have hD : va_D A [(h0, .inr (5, [.ref q_20, .ref q_22, .ref q_24, .ref q_26, .ref q_28, .null, .null, .null, .null, .int 0, .long 0])), (q_20, .inl (cA_21, 4, .inl (fun _ => 0))), (q_22, .inl (cA_23, 4, .inl (fun _ => 0))), (q_24, .inl (cA_25, 4, .inl (fun _ => 0))), (q_26, .inl (cA_27, 4, .inl (fun _ => 0))), (q_28, .inl (cA_29, 4, .inl (fun _ => 0)))] := hD
  refine lv_aload_n hx hb dX0_init_39 rfl (lv_at hl 0 rfl) ?_
  refine lv_iconst (v := 4) hx hb dX0_init_40 (by decide) ?_
  refine va_newa (atype := .long) (N' := 4) (a0 := (4, .inr (.inl (fun _ => 0)))) (ty := .long) (n := 4) hx hb (hts _ q192) rfl hK hP hD hS hA (fun _ => rfl) (by decide) (by decide) (Nat.le_of_ble_eq_true rfl) (Nat.le_of_ble_eq_true rfl) (Nat.le_of_ble_eq_true rfl) dX0_init_41 (fun q_30 cA_31 H hK hP hD hS => ?_)
  have hP : va_P (dC, dI) vwCl [(h0, .inr (5, [.ref q_20, .ref q_22, .ref q_24, .ref q_26, .ref q_28, .null, .null, .null, .null, .int 0, .long 0])), (q_20, .inl (cA_21, 4, .inl (fun _ => 0))), (q_22, .inl (cA_23, 4, .inl (fun _ => 0))), (q_24, .inl (cA_25, 4, .inl (fun _ => 0))), (q_26, .inl (cA_27, 4, .inl (fun _ => 0))), (q_28, .inl (cA_29, 4, .inl (fun _ => 0))), (q_30, .inl (cA_31, 4, .inr (.inl (fun _ => 0))))] H := hP
  have hD : va_D A [(h0, .inr (5, [.ref q_20, .ref q_22, .ref q_24, .ref q_26, .ref q_28, .null, .null, .null, .null, .int 0, .long 0])), (q_20, .inl (cA_21, 4, .inl (fun _ => 0))), (q_22, .inl (cA_23, 4, .inl (fun _ => 0))), (q_24, .inl (cA_25, 4, .inl (fun _ => 0))), (q_26, .inl (cA_27, 4, .inl (fun _ => 0))), (q_28, .inl (cA_29, 4, .inl (fun _ => 0))), (q_30, .inl (cA_31, 4, .inr (.inl (fun _ => 0))))] := hD
  have hK : va_K (dC, dI) vwCl [(cA_21, .int), (cA_23, .int), (cA_25, .int), (cA_27, .int), (cA_29, .int), (cA_31, .long)] s := hK
  refine W.widen (k := 6) (n := 24) (Nat.le_of_ble_eq_true rfl) (Nat.le_of_ble_eq_true rfl) ?_
  refine va_putF (D := (dC, dI)) (ci := 5) (v := .ref q_30) (ty := .array .long) (C := RX0) (T := TX0) (N := 11) hx hb hts inX0 tyX0 tyX0_ok nmX0 hown hK hP hD hS 0 rfl rfl 5 (by decide) (hts _ q158) (fun _ h9 => h9) rfl hin rfl (by decide +kernel) rfl rfl (Nat.le_of_ble_eq_true rfl) dX0_init_43 (fun H locs hP hD hS => ?_)
  have hP : va_P (dC, dI) vwCl [(h0, .inr (5, [.ref q_20, .ref q_22, .ref q_24, .ref q_26, .ref q_28, .ref q_30, .null, .null, .null, .int 0, .long 0])), (q_20, .inl (cA_21, 4, .inl (fun _ => 0))), (q_22, .inl (cA_23, 4, .inl (fun _ => 0))), (q_24, .inl (cA_25, 4, .inl (fun _ => 0))), (q_26, .inl (cA_27, 4, .inl (fun _ => 0))), (q_28, .inl (cA_29, 4, .inl (fun _ => 0))), (q_30, .inl (cA_31, 4, .inr (.inl (fun _ => 0))))] H := hP
  have hD : va_D A [(h0, .inr (5, [.ref q_20, .ref q_22, .ref q_24, .ref q_26, .ref q_28, .ref q_30, .null, .null, .null, .int 0, .long 0])), (q_20, .inl (cA_21, 4, .inl (fun _ => 0))), (q_22, .inl (cA_23, 4, .inl (fun _ => 0))), (q_24, .inl (cA_25, 4, .inl (fun _ => 0))), (q_26, .inl (cA_27, 4, .inl (fun _ => 0))), (q_28, .inl (cA_29, 4, .inl (fun _ => 0))), (q_30, .inl (cA_31, 4, .inr (.inl (fun _ => 0))))] := hD
  refine lv_aload_n hx hb dX0_init_46 rfl (lv_at hl 0 rfl) ?_
  refine lv_iconst (v := 4) hx hb dX0_init_47 (by decide) ?_
  refine va_newa (atype := .long) (N' := 4) (a0 := (4, .inr (.inl (fun _ => 0)))) (ty := .long) (n := 4) hx hb (hts _ q192) rfl hK hP hD hS hA (fun _ => rfl) (by decide) (by decide) (Nat.le_of_ble_eq_true rfl) (Nat.le_of_ble_eq_true rfl) (Nat.le_of_ble_eq_true rfl) dX0_init_48 (fun q_32 cA_33 H hK hP hD hS => ?_)
  have hP : va_P (dC, dI) vwCl [(h0, .inr (5, [.ref q_20, .ref q_22, .ref q_24, .ref q_26, .ref q_28, .ref q_30, .null, .null, .null, .int 0, .long 0])), (q_20, .inl (cA_21, 4, .inl (fun _ => 0))), (q_22, .inl (cA_23, 4, .inl (fun _ => 0))), (q_24, .inl (cA_25, 4, .inl (fun _ => 0))), (q_26, .inl (cA_27, 4, .inl (fun _ => 0))), (q_28, .inl (cA_29, 4, .inl (fun _ => 0))), (q_30, .inl (cA_31, 4, .inr (.inl (fun _ => 0)))), (q_32, .inl (cA_33, 4, .inr (.inl (fun _ => 0))))] H := hP
  have hD : va_D A [(h0, .inr (5, [.ref q_20, .ref q_22, .ref q_24, .ref q_26, .ref q_28, .ref q_30, .null, .null, .null, .int 0, .long 0])), (q_20, .inl (cA_21, 4, .inl (fun _ => 0))), (q_22, .inl (cA_23, 4, .inl (fun _ => 0))), (q_24, .inl (cA_25, 4, .inl (fun _ => 0))), (q_26, .inl (cA_27, 4, .inl (fun _ => 0))), (q_28, .inl (cA_29, 4, .inl (fun _ => 0))), (q_30, .inl (cA_31, 4, .inr (.inl (fun _ => 0)))), (q_32, .inl (cA_33, 4, .inr (.inl (fun _ => 0))))] := hD
  have hK : va_K (dC, dI) vwCl [(cA_21, .int), (cA_23, .int), (cA_25, .int), (cA_27, .int), (cA_29, .int), (cA_31, .long), (cA_33, .long)] s := hK
  refine W.widen (k := 7) (n := 28) (Nat.le_of_ble_eq_true rfl) (Nat.le_of_ble_eq_true rfl) ?_
  refine va_putF (D := (dC, dI)) (ci := 5) (v := .ref q_32) (ty := .array .long) (C := RX0) (T := TX0) (N := 11) hx hb hts inX0 tyX0 tyX0_ok nmX0 hown hK hP hD hS 0 rfl rfl 6 (by decide) (hts _ q160) (fun _ h9 => h9) rfl hin rfl (by decide +kernel) rfl rfl (Nat.le_of_ble_eq_true rfl) dX0_init_50 (fun H locs hP hD hS => ?_)
  have hP : va_P (dC, dI) vwCl [(h0, .inr (5, [.ref q_20, .ref q_22, .ref q_24, .ref q_26, .ref q_28, .ref q_30, .ref q_32, .null, .null, .int 0, .long 0])), (q_20, .inl (cA_21, 4, .inl (fun _ => 0))), (q_22, .inl (cA_23, 4, .inl (fun _ => 0))), (q_24, .inl (cA_25, 4, .inl (fun _ => 0))), (q_26, .inl (cA_27, 4, .inl (fun _ => 0))), (q_28, .inl (cA_29, 4, .inl (fun _ => 0))), (q_30, .inl (cA_31, 4, .inr (.inl (fun _ => 0)))), (q_32, .inl (cA_33, 4, .inr (.inl (fun _ => 0))))] H := hP
  have hD : va_D A [(h0, .inr (5, [.ref q_20, .ref q_22, .ref q_24, .ref q_26, .ref q_28, .ref q_30, .ref q_32, .null, .null, .int 0, .long 0])), (q_20, .inl (cA_21, 4, .inl (fun _ => 0))), (q_22, .inl (cA_23, 4, .inl (fun _ => 0))), (q_24, .inl (cA_25, 4, .inl (fun _ => 0))), (q_26, .inl (cA_27, 4, .inl (fun _ => 0))), (q_28, .inl (cA_29, 4, .inl (fun _ => 0))), (q_30, .inl (cA_31, 4, .inr (.inl (fun _ => 0)))), (q_32, .inl (cA_33, 4, .inr (.inl (fun _ => 0))))] := hD
  refine lv_aload_n hx hb dX0_init_53 rfl (lv_at hl 0 rfl) ?_
  refine lv_iconst (v := 4) hx hb dX0_init_54 (by decide) ?_
  refine va_newa (atype := .long) (N' := 4) (a0 := (4, .inr (.inl (fun _ => 0)))) (ty := .long) (n := 4) hx hb (hts _ q192) rfl hK hP hD hS hA (fun _ => rfl) (by decide) (by decide) (Nat.le_of_ble_eq_true rfl) (Nat.le_of_ble_eq_true rfl) (Nat.le_of_ble_eq_true rfl) dX0_init_55 (fun q_34 cA_35 H hK hP hD hS => ?_)
  have hP : va_P (dC, dI) vwCl [(h0, .inr (5, [.ref q_20, .ref q_22, .ref q_24, .ref q_26, .ref q_28, .ref q_30, .ref q_32, .null, .null, .int 0, .long 0])), (q_20, .inl (cA_21, 4, .inl (fun _ => 0))), (q_22, .inl (cA_23, 4, .inl (fun _ => 0))), (q_24, .inl (cA_25, 4, .inl (fun _ => 0))), (q_26, .inl (cA_27, 4, .inl (fun _ => 0))), (q_28, .inl (cA_29, 4, .inl (fun _ => 0))), (q_30, .inl (cA_31, 4, .inr (.inl (fun _ => 0)))), (q_32, .inl (cA_33, 4, .inr (.inl (fun _ => 0)))), (q_34, .inl (cA_35, 4, .inr (.inl (fun _ => 0))))] H := hP
  have hD : va_D A [(h0, .inr (5, [.ref q_20, .ref q_22, .ref q_24, .ref q_26, .ref q_28, .ref q_30, .ref q_32, .null, .null, .int 0, .long 0])), (q_20, .inl (cA_21, 4, .inl (fun _ => 0))), (q_22, .inl (cA_23, 4, .inl (fun _ => 0))), (q_24, .inl (cA_25, 4, .inl (fun _ => 0))), (q_26, .inl (cA_27, 4, .inl (fun _ => 0))), (q_28, .inl (cA_29, 4, .inl (fun _ => 0))), (q_30, .inl (cA_31, 4, .inr (.inl (fun _ => 0)))), (q_32, .inl (cA_33, 4, .inr (.inl (fun _ => 0)))), (q_34, .inl (cA_35, 4, .inr (.inl (fun _ => 0))))] := hD
  have hK : va_K (dC, dI) vwCl [(cA_21, .int), (cA_23, .int), (cA_25, .int), (cA_27, .int), (cA_29, .int), (cA_31, .long), (cA_33, .long), (cA_35, .long)] s := hK
  refine W.widen (k := 8) (n := 32) (Nat.le_of_ble_eq_true rfl) (Nat.le_of_ble_eq_true rfl) ?_
  refine va_putF (D := (dC, dI)) (ci := 5) (v := .ref q_34) (ty := .array .long) (C := RX0) (T := TX0) (N := 11) hx hb hts inX0 tyX0 tyX0_ok nmX0 hown hK hP hD hS 0 rfl rfl 7 (by decide) (hts _ q161) (fun _ h9 => h9) rfl hin rfl (by decide +kernel) rfl rfl (Nat.le_of_ble_eq_true rfl) dX0_init_57 (fun H locs hP hD hS => ?_)
  have hP : va_P (dC, dI) vwCl [(h0, .inr (5, [.ref q_20, .ref q_22, .ref q_24, .ref q_26, .ref q_28, .ref q_30, .ref q_32, .ref q_34, .null, .int 0, .long 0])), (q_20, .inl (cA_21, 4, .inl (fun _ => 0))), (q_22, .inl (cA_23, 4, .inl (fun _ => 0))), (q_24, .inl (cA_25, 4, .inl (fun _ => 0))), (q_26, .inl (cA_27, 4, .inl (fun _ => 0))), (q_28, .inl (cA_29, 4, .inl (fun _ => 0))), (q_30, .inl (cA_31, 4, .inr (.inl (fun _ => 0)))), (q_32, .inl (cA_33, 4, .inr (.inl (fun _ => 0)))), (q_34, .inl (cA_35, 4, .inr (.inl (fun _ => 0))))] H := hP
  have hD : va_D A [(h0, .inr (5, [.ref q_20, .ref q_22, .ref q_24, .ref q_26, .ref q_28, .ref q_30, .ref q_32, .ref q_34, .null, .int 0, .long 0])), (q_20, .inl (cA_21, 4, .inl (fun _ => 0))), (q_22, .inl (cA_23, 4, .inl (fun _ => 0))), (q_24, .inl (cA_25, 4, .inl (fun _ => 0))), (q_26, .inl (cA_27, 4, .inl (fun _ => 0))), (q_28, .inl (cA_29, 4, .inl (fun _ => 0))), (q_30, .inl (cA_31, 4, .inr (.inl (fun _ => 0)))), (q_32, .inl (cA_33, 4, .inr (.inl (fun _ => 0)))), (q_34, .inl (cA_35, 4, .inr (.inl (fun _ => 0))))] := hD
  refine lv_aload_n hx hb dX0_init_60 rfl (lv_at hl 0 rfl) ?_
  refine lv_iconst (v := 4) hx hb dX0_init_61 (by decide) ?_
  refine va_newa (atype := .int) (N' := 4) (a0 := (4, .inl (fun _ => 0))) (ty := .int) (n := 4) hx hb (hts _ q143) rfl hK hP hD hS hA (fun _ => rfl) (by decide) (by decide) (Nat.le_of_ble_eq_true rfl) (Nat.le_of_ble_eq_true rfl) (Nat.le_of_ble_eq_true rfl) dX0_init_62 (fun q_36 cA_37 H hK hP hD hS => ?_)
  have hP : va_P (dC, dI) vwCl [(h0, .inr (5, [.ref q_20, .ref q_22, .ref q_24, .ref q_26, .ref q_28, .ref q_30, .ref q_32, .ref q_34, .null, .int 0, .long 0])), (q_20, .inl (cA_21, 4, .inl (fun _ => 0))), (q_22, .inl (cA_23, 4, .inl (fun _ => 0))), (q_24, .inl (cA_25, 4, .inl (fun _ => 0))), (q_26, .inl (cA_27, 4, .inl (fun _ => 0))), (q_28, .inl (cA_29, 4, .inl (fun _ => 0))), (q_30, .inl (cA_31, 4, .inr (.inl (fun _ => 0)))), (q_32, .inl (cA_33, 4, .inr (.inl (fun _ => 0)))), (q_34, .inl (cA_35, 4, .inr (.inl (fun _ => 0)))), (q_36, .inl (cA_37, 4, .inl (fun _ => 0)))] H := hP
  have hD : va_D A [(h0, .inr (5, [.ref q_20, .ref q_22, .ref q_24, .ref q_26, .ref q_28, .ref q_30, .ref q_32, .ref q_34, .null, .int 0, .long 0])), (q_20, .inl (cA_21, 4, .inl (fun _ => 0))), (q_22, .inl (cA_23, 4, .inl (fun _ => 0))), (q_24, .inl (cA_25, 4, .inl (fun _ => 0))), (q_26, .inl (cA_27, 4, .inl (fun _ => 0))), (q_28, .inl (cA_29, 4, .inl (fun _ => 0))), (q_30, .inl (cA_31, 4, .inr (.inl (fun _ => 0)))), (q_32, .inl (cA_33, 4, .inr (.inl (fun _ => 0)))), (q_34, .inl (cA_35, 4, .inr (.inl (fun _ => 0)))), (q_36, .inl (cA_37, 4, .inl (fun _ => 0)))] := hD
  have hK : va_K (dC, dI) vwCl [(cA_21, .int), (cA_23, .int), (cA_25, .int), (cA_27, .int), (cA_29, .int), (cA_31, .long), (cA_33, .long), (cA_35, .long), (cA_37, .int)] s := hK
  refine W.widen (k := 9) (n := 36) (Nat.le_of_ble_eq_true rfl) (Nat.le_of_ble_eq_true rfl) ?_
  refine va_putF (D := (dC, dI)) (ci := 5) (v := .ref q_36) (ty := .array .int) (C := RX0) (T := TX0) (N := 11) hx hb hts inX0 tyX0 tyX0_ok nmX0 hown hK hP hD hS 0 rfl rfl 8 (by decide) (hts _ q162) (fun _ h9 => h9) rfl hin rfl (by decide +kernel) rfl rfl (Nat.le_of_ble_eq_true rfl) dX0_init_64 (fun H locs hP hD hS => ?_)
  have hP : va_P (dC, dI) vwCl [(h0, .inr (5, [.ref q_20, .ref q_22, .ref q_24, .ref q_26, .ref q_28, .ref q_30, .ref q_32, .ref q_34, .ref q_36, .int 0, .long 0])), (q_20, .inl (cA_21, 4, .inl (fun _ => 0))), (q_22, .inl (cA_23, 4, .inl (fun _ => 0))), (q_24, .inl (cA_25, 4, .inl (fun _ => 0))), (q_26, .inl (cA_27, 4, .inl (fun _ => 0))), (q_28, .inl (cA_29, 4, .inl (fun _ => 0))), (q_30, .inl (cA_31, 4, .inr (.inl (fun _ => 0)))), (q_32, .inl (cA_33, 4, .inr (.inl (fun _ => 0)))), (q_34, .inl (cA_35, 4, .inr (.inl (fun _ => 0)))), (q_36, .inl (cA_37, 4, .inl (fun _ => 0)))] H := hP
  have hD : va_D A [(h0, .inr (5, [.ref q_20, .ref q_22, .ref q_24, .ref q_26, .ref q_28, .ref q_30, .ref q_32, .ref q_34, .ref q_36, .int 0, .long 0])), (q_20, .inl (cA_21, 4, .inl (fun _ => 0))), (q_22, .inl (cA_23, 4, .inl (fun _ => 0))), (q_24, .inl (cA_25, 4, .inl (fun _ => 0))), (q_26, .inl (cA_27, 4, .inl (fun _ => 0))), (q_28, .inl (cA_29, 4, .inl (fun _ => 0))), (q_30, .inl (cA_31, 4, .inr (.inl (fun _ => 0)))), (q_32, .inl (cA_33, 4, .inr (.inl (fun _ => 0)))), (q_34, .inl (cA_35, 4, .inr (.inl (fun _ => 0)))), (q_36, .inl (cA_37, 4, .inl (fun _ => 0)))] := hD
  have hP9 := hP.sub (ws' := []) [] rfl
  have hD9 := hD.sub (ws' := []) [] (by decide) rfl
  have hK9 := hK.sub (tys' := []) [] rfl
  refine W.widen (k := 9) (n := 36) (Nat.le_of_ble_eq_true rfl) (Nat.le_of_ble_eq_true rfl) ?_
  exact W.vret hx hb hr (fun t ht hW => ⟨⟨(), rfl, trivial, ⟨by rw [ht]; exact hP9, va_K.moved hW.alike hK9, hD9⟩⟩, hS.F ht⟩) hS.2.2 dX0_init_67
set_option maxHeartbeats 4000000 in
set_option maxRecDepth 100000 in
theorem m_rainInit (l : Launch) (dC : Nat → ClassId) (dI : Nat → Nat → Nat) (sz : Nat) (h0 : Nat) : Met l yX1_init (pw_ws yX1_init cX1_init 1 none) ({ frames := 1, cells := 2, slots := 178, locals := 20 } : Room) (va_Pc [.ref h0] (fun U => U.heap.size = sz ∧ va_P (dC, dI) vwCl [(h0, .inr (6, [.null, .null, .int 0, .int 0, .long 0, .long 0]))] U.heap ∧ va_K (dC, dI) vwCl [] U ∧ va_D (fun _ => True) [(h0, .inr (6, [.null, .null, .int 0, .int 0, .long 0, .long 0]))])) (va_Qv (fun (_ : Unit) => True) (fun (_ : Unit) (t : State) => ∃ (t1 : Nat), ∃ (t2 : Nat), va_P (dC, dI) vwCl [(h0, .inr (6, [.ref t1, .ref t2, .int 0, .int 0, .long 0, .long 0]))] t.heap ∧ va_K (dC, dI) vwCl [] t ∧ va_D (va_A [(h0, .inr (6, [.null, .null, .int 0, .int 0, .long 0, .long 0]))] sz) [(h0, .inr (6, [.ref t1, .ref t2, .int 0, .int 0, .long 0, .long 0]))]) (va_A [(h0, .inr (6, [.null, .null, .int 0, .int 0, .long 0, .long 0]))] sz)) 2 178 (va_A [(h0, .inr (6, [.null, .null, .int 0, .int 0, .long 0, .long 0]))] sz) := by
  refine Met.ofW (cc := cX1_init) (maxL := 1) (ret := none) (by decide) rfl ?_
  intro p e s m args below meth c s₁ B hml hv
  obtain ⟨rfl, hsz, hP, hK, hD0⟩ := hv
  have hx := B.exec
  have hb := B.bytes
  have hr := B.returns
  have hts0 := atoms_spec (ws := (pw_ws yX1_init cX1_init 1 none)) B.pre
  have hts : ∀ w ∈ pw_all, w.before _ s = true := fun w h => hts0 w (List.mem_cons_of_mem _ h)
  have hown : s.vm.findClass RX1 = some m.cls := findClass_of_methodNamed B.named
  have hlocks := B.notSynchronized
  have hin : meth.name = "<init>" := (name_of_methodNamed B.named B.method).1
  subst hsz
  have hD := hD0.self (sz := s.heap.size)
  generalize hAe : va_A [(h0, .inr (6, [.null, .null, .int 0, .int 0, .long 0, .long 0]))] s.heap.size = A at hD ⊢
  have hA : ∀ q : Nat, s.heap.size ≤ q → A q := fun q h => by rw [← hAe]; exact Or.inr h
  have hS : va_S A s.heap s.heap [] := va_S.rf
  have hP : va_P (dC, dI) vwCl [(h0, .inr (6, [.null, .null, .int 0, .int 0, .long 0, .long 0]))] s.heap := hP
  have hl := lv_entry ([.ref h0]) (n := 1) (Nat.le_of_ble_eq_true rfl)
  rw [lg_entry_eq]
  generalize (lg_sl ([.ref h0]) ++ List.replicate (1 - (lg_sl ([.ref h0])).length) Slot.unset).toArray = ls at hl ⊢
  have hl : lv_has ls 1 [(0, .ref h0)] := hl
  skip
  refine lv_aload_n hx hb dX1_init_0 rfl (lv_at hl 0 rfl) ?_
  refine W.objInit hx hb hown (hts _ q122) (hts _ q86) (hts _ q87) rfl (by rw [hml]; exact hl.1) rfl dX1_init_1 (Nat.le_of_ble_eq_true rfl) (Nat.le_of_ble_eq_true rfl) ?_
  refine W.eq (g2 := F0 m 4 ls []) rfl ?_
  refine lv_aload_n hx hb dX1_init_4 rfl (lv_at hl 0 rfl) ?_
  refine lv_bipush (v := 89) hx hb dX1_init_5 (by decide) ?_
  refine va_newa (atype := .int) (N' := 89) (a0 := (89, .inl (fun _ => 0))) (ty := .int) (n := 89) hx hb (hts _ q143) rfl hK hP hD hS hA (fun _ => rfl) (by decide) (by decide) (Nat.le_of_ble_eq_true rfl) (Nat.le_of_ble_eq_true rfl) (Nat.le_of_ble_eq_true rfl) dX1_init_7 (fun q_38 cA_39 H hK hP hD hS => ?_)
  have hP : va_P (dC, dI) vwCl [(h0, .inr (6, [.null, .null, .int 0, .int 0, .long 0, .long 0])), (q_38, .inl (cA_39, 89, .inl (fun _ => 0)))] H := hP
  have hD : va_D A [(h0, .inr (6, [.null, .null, .int 0, .int 0, .long 0, .long 0])), (q_38, .inl (cA_39, 89, .inl (fun _ => 0)))] := hD
  have hK : va_K (dC, dI) vwCl [(cA_39, .int)] s := hK
  refine W.widen (k := 1) (n := 89) (Nat.le_of_ble_eq_true rfl) (Nat.le_of_ble_eq_true rfl) ?_
  refine va_putF (D := (dC, dI)) (ci := 6) (v := .ref q_38) (ty := .array .int) (C := RX1) (T := TX1) (N := 6) hx hb hts inX1 tyX1 tyX1_ok nmX1 hown hK hP hD hS 0 rfl rfl 0 (by decide) (hts _ q123) (fun _ h9 => h9) rfl hin rfl (by decide +kernel) rfl rfl (Nat.le_of_ble_eq_true rfl) dX1_init_9 (fun H locs hP hD hS => ?_)
  have hP : va_P (dC, dI) vwCl [(h0, .inr (6, [.ref q_38, .null, .int 0, .int 0, .long 0, .long 0])), (q_38, .inl (cA_39, 89, .inl (fun _ => 0)))] H := hP
  have hD : va_D A [(h0, .inr (6, [.ref q_38, .null, .int 0, .int 0, .long 0, .long 0])), (q_38, .inl (cA_39, 89, .inl (fun _ => 0)))] := hD
  refine lv_aload_n hx hb dX1_init_12 rfl (lv_at hl 0 rfl) ?_
  refine lv_bipush (v := 89) hx hb dX1_init_13 (by decide) ?_
  refine va_newa (atype := .int) (N' := 89) (a0 := (89, .inl (fun _ => 0))) (ty := .int) (n := 89) hx hb (hts _ q143) rfl hK hP hD hS hA (fun _ => rfl) (by decide) (by decide) (Nat.le_of_ble_eq_true rfl) (Nat.le_of_ble_eq_true rfl) (Nat.le_of_ble_eq_true rfl) dX1_init_15 (fun q_40 cA_41 H hK hP hD hS => ?_)
  have hP : va_P (dC, dI) vwCl [(h0, .inr (6, [.ref q_38, .null, .int 0, .int 0, .long 0, .long 0])), (q_38, .inl (cA_39, 89, .inl (fun _ => 0))), (q_40, .inl (cA_41, 89, .inl (fun _ => 0)))] H := hP
  have hD : va_D A [(h0, .inr (6, [.ref q_38, .null, .int 0, .int 0, .long 0, .long 0])), (q_38, .inl (cA_39, 89, .inl (fun _ => 0))), (q_40, .inl (cA_41, 89, .inl (fun _ => 0)))] := hD
  have hK : va_K (dC, dI) vwCl [(cA_39, .int), (cA_41, .int)] s := hK
  refine W.widen (k := 2) (n := 178) (Nat.le_of_ble_eq_true rfl) (Nat.le_of_ble_eq_true rfl) ?_
  refine va_putF (D := (dC, dI)) (ci := 6) (v := .ref q_40) (ty := .array .int) (C := RX1) (T := TX1) (N := 6) hx hb hts inX1 tyX1 tyX1_ok nmX1 hown hK hP hD hS 0 rfl rfl 1 (by decide) (hts _ q124) (fun _ h9 => h9) rfl hin rfl (by decide +kernel) rfl rfl (Nat.le_of_ble_eq_true rfl) dX1_init_17 (fun H locs hP hD hS => ?_)
  have hP : va_P (dC, dI) vwCl [(h0, .inr (6, [.ref q_38, .ref q_40, .int 0, .int 0, .long 0, .long 0])), (q_38, .inl (cA_39, 89, .inl (fun _ => 0))), (q_40, .inl (cA_41, 89, .inl (fun _ => 0)))] H := hP
  have hD : va_D A [(h0, .inr (6, [.ref q_38, .ref q_40, .int 0, .int 0, .long 0, .long 0])), (q_38, .inl (cA_39, 89, .inl (fun _ => 0))), (q_40, .inl (cA_41, 89, .inl (fun _ => 0)))] := hD
  have hP9 := hP.sub (ws' := [(h0, .inr (6, [.ref q_38, .ref q_40, .int 0, .int 0, .long 0, .long 0]))]) [0] rfl
  have hD9 := hD.sub (ws' := [(h0, .inr (6, [.ref q_38, .ref q_40, .int 0, .int 0, .long 0, .long 0]))]) [0] (by decide) rfl
  have hK9 := hK.sub (tys' := []) [] rfl
  refine W.widen (k := 2) (n := 178) (Nat.le_of_ble_eq_true rfl) (Nat.le_of_ble_eq_true rfl) ?_
  exact W.vret hx hb hr (fun t ht hW => ⟨⟨(), rfl, trivial, ⟨q_38, q_40, by rw [ht]; exact hP9, va_K.moved hW.alike hK9, hD9⟩⟩, hS.F ht⟩) hS.2.2 dX1_init_20
set_option maxHeartbeats 4000000 in
set_option maxRecDepth 100000 in
theorem m_hallInit (l : Launch) (dC : Nat → ClassId) (dI : Nat → Nat → Nat) (sz : Nat) (ed : Nat) (h0 : Nat) : Met l yX6_init (pw_ws yX6_init cX6_init 1 none) ({ frames := 4, cells := 18, slots := 267, locals := 80 } : Room) (va_Pc [.ref h0] (fun U => U.heap.size = sz ∧ va_P (dC, dI) vwCl [(h0, .inr (11, [.null, .null, .null, .null, .null, .int 0, .null, .null]))] U.heap ∧ va_K (dC, dI) vwCl [] U ∧ va_D (fun _ => True) [(h0, .inr (11, [.null, .null, .null, .null, .null, .int 0, .null, .null]))] ∧ pz ed (va_A [(h0, .inr (11, [.null, .null, .null, .null, .null, .int 0, .null, .null]))] sz) U U.heap)) (va_Qv (fun (_ : Unit) => True) (fun (_ : Unit) (t : State) => ∃ (a1 : Nat), ∃ (a2 : Nat), ∃ (a3 : Nat), ∃ (a4 : Nat), ∃ (tt : Nat), ∃ (rr : Nat), ∃ (cq : Nat), ∃ (t1 : Nat), ∃ (t2 : Nat), ∃ (cT : ClassId), va_P (dC, dI) vwCl [(h0, .inr (11, [.ref a1, .ref a2, .ref a3, .ref a4, .ref tt, .int 0, .ref rr, .ref cq])), (a1, .inr (4, [.int 0, .ref ed, .int 0])), (a2, .inr (4, [.int 0, .ref ed, .int 0])), (a3, .inr (4, [.int 0, .ref ed, .int 0])), (a4, .inr (4, [.int 0, .ref ed, .int 0])), (tt, .inl (cT, 24, .inl (fun _ => 0))), (rr, .inr (6, [.ref t1, .ref t2, .int 0, .int 0, .long 0, .long 0]))] t.heap ∧ va_K (dC, dI) vwCl [(cT, .int)] t ∧ va_D (va_A [(h0, .inr (11, [.null, .null, .null, .null, .null, .int 0, .null, .null]))] sz) [(h0, .inr (11, [.ref a1, .ref a2, .ref a3, .ref a4, .ref tt, .int 0, .ref rr, .ref cq])), (a1, .inr (4, [.int 0, .ref ed, .int 0])), (a2, .inr (4, [.int 0, .ref ed, .int 0])), (a3, .inr (4, [.int 0, .ref ed, .int 0])), (a4, .inr (4, [.int 0, .ref ed, .int 0])), (tt, .inl (cT, 24, .inl (fun _ => 0))), (rr, .inr (6, [.ref t1, .ref t2, .int 0, .int 0, .long 0, .long 0]))]) (va_A [(h0, .inr (11, [.null, .null, .null, .null, .null, .int 0, .null, .null]))] sz)) 18 267 (va_A [(h0, .inr (11, [.null, .null, .null, .null, .null, .int 0, .null, .null]))] sz) := by
  refine Met.ofW (cc := cX6_init) (maxL := 1) (ret := none) (by decide) rfl ?_
  intro p e s m args below meth c s₁ B hml hv
  obtain ⟨rfl, hsz, hP, hK, hD0, hZ⟩ := hv
  have hx := B.exec
  have hb := B.bytes
  have hr := B.returns
  have hts0 := atoms_spec (ws := (pw_ws yX6_init cX6_init 1 none)) B.pre
  have hts : ∀ w ∈ pw_all, w.before _ s = true := fun w h => hts0 w (List.mem_cons_of_mem _ h)
  have hown : s.vm.findClass RX6 = some m.cls := findClass_of_methodNamed B.named
  have hlocks := B.notSynchronized
  have hin : meth.name = "<init>" := (name_of_methodNamed B.named B.method).1
  subst hsz
  have hD := hD0.self (sz := s.heap.size)
  generalize hAe : va_A [(h0, .inr (11, [.null, .null, .null, .null, .null, .int 0, .null, .null]))] s.heap.size = A at hD hZ ⊢
  have hA : ∀ q : Nat, s.heap.size ≤ q → A q := fun q h => by rw [← hAe]; exact Or.inr h
  have hS : va_S A s.heap s.heap [] := va_S.rf
  have hP : va_P (dC, dI) vwCl [(h0, .inr (11, [.null, .null, .null, .null, .null, .int 0, .null, .null]))] s.heap := hP
  have hl := lv_entry ([.ref h0]) (n := 1) (Nat.le_of_ble_eq_true rfl)
  rw [lg_entry_eq]
  generalize (lg_sl ([.ref h0]) ++ List.replicate (1 - (lg_sl ([.ref h0])).length) Slot.unset).toArray = ls at hl ⊢
  have hl : lv_has ls 1 [(0, .ref h0)] := hl
  skip
  refine lv_aload_n hx hb dX6_init_0 rfl (lv_at hl 0 rfl) ?_
  refine W.objInit hx hb hown (hts _ q85) (hts _ q86) (hts _ q87) rfl (by rw [hml]; exact hl.1) rfl dX6_init_1 (Nat.le_of_ble_eq_true rfl) (Nat.le_of_ble_eq_true rfl) ?_
  refine W.eq (g2 := F0 m 4 ls []) rfl ?_
  refine lv_aload_n hx hb dX6_init_4 rfl (lv_at hl 0 rfl) ?_
  refine va_new (ci := 4) (fs := [.int 0, .null, .int 0]) (C := RJx4a65c) (T := TJx4a65c) (N := 3) hx hb hts inJx4a65c tyJx4a65c tyJx4a65c_ok hown (hts _ q88) (hts _ q89) (hts _ q46) hK hP hD hS hA rfl (fun j hj => by rcases (show j = 0 ∨ j = 1 ∨ j = 2 by omega) with rfl | rfl | rfl <;> rfl) (Nat.le_of_ble_eq_true rfl) (Nat.le_of_ble_eq_true rfl) dX6_init_5 (fun q_58 H hP hD hS => ?_)
  have hP : va_P (dC, dI) vwCl [(h0, .inr (11, [.null, .null, .null, .null, .null, .int 0, .null, .null])), (q_58, .inr (4, [.int 0, .null, .int 0]))] H := hP
  have hD : va_D A [(h0, .inr (11, [.null, .null, .null, .null, .null, .int 0, .null, .null])), (q_58, .inr (4, [.int 0, .null, .int 0]))] := hD
  refine W.widen (k := 1) (n := 3) (Nat.le_of_ble_eq_true rfl) (Nat.le_of_ble_eq_true rfl) ?_
  refine lv_dup hx hb dX6_init_8 rfl ?_
  have hPc := hP.sub (ws' := [(q_58, .inr (4, [.int 0, .null, .int 0]))]) [1] rfl
  have hDc := hD.sub (ws' := [(q_58, .inr (4, [.int 0, .null, .int 0]))]) [1] (by decide) rfl
  have hKc := hK.sub (tys' := []) [] rfl
  have hFc := va_free (wc := [(q_58, .inr (4, [.int 0, .null, .int 0]))]) hD hS hA [1] rfl
  refine va_callv (va_runI (As := []) (rest := [.ref q_58, .ref h0]) ⟨hx, hb, hml, hown, hts⟩ (m_listInit l dC dI H.size ed q_58 (.int 0) .null 0) (cwI 0 hts (pw_c q92) rfl rfl rfl (hts _ q46) (hts _ q90) (hts _ q91) rfl (by decide +kernel) ⟨(Nat.le_of_ble_eq_true rfl), (Nat.le_of_ble_eq_true rfl)⟩) ⟨fun a U g mk q => by obtain ⟨q0, q1, qP, qK, qD, qZ⟩ := q; exact ⟨q0, q1, qP, va_K.moved (u := U) (U := U.calling g mk a) (Vm.Alike.refl U.vm) qK, qD, qZ.same rfl⟩, fun U hU hW => ⟨rfl, by rw [hU], by rw [hU]; exact hPc, va_K.moved hW.alike hKc, hDc.weaken (fun _ _ _ _ => trivial), hZ.call hS hFc hU hW⟩⟩ rfl rfl hl.1 rfl (lv_room (Nat.le_of_ble_eq_true rfl)) dX6_init_9 ⟨(Nat.le_of_ble_eq_true rfl), (Nat.le_of_ble_eq_true rfl)⟩) hS (fun q _ h => hFc q h) hFc (fun u t H1 locs ht hvm hw hB hz1 hk1 hS => ?_)
  obtain ⟨hP1, hK1, hD1⟩ := hB
  rw [ht] at hP1
  have hK1 := va_K.moved hvm.symm hK1
  obtain ⟨hP, hD⟩ := va_join (wr := [(h0, .inr (11, [.null, .null, .null, .null, .null, .int 0, .null, .null]))]) (w1 := [(q_58, .inr (4, [.int 0, .ref ed, .int 0]))]) hP hD [1] [0] rfl rfl (by decide) (by decide) hk1 hFc hP1 hD1
  have hK := (hK.sub (tys' := []) [] rfl).app hK1
  generalize H1 = H at hP hS ⊢
  have hP : va_P (dC, dI) vwCl [(h0, .inr (11, [.null, .null, .null, .null, .null, .int 0, .null, .null])), (q_58, .inr (4, [.int 0, .ref ed, .int 0]))] H := hP
  have hD : va_D A [(h0, .inr (11, [.null, .null, .null, .null, .null, .int 0, .null, .null])), (q_58, .inr (4, [.int 0, .ref ed, .int 0]))] := hD
  have hK : va_K (dC, dI) vwCl [] s := hK
  refine W.widen (k := 1) (n := 3) (Nat.le_of_ble_eq_true rfl) (Nat.le_of_ble_eq_true rfl) ?_
  refine va_putF (D := (dC, dI)) (ci := 11) (v := .ref q_58) (ty := .object "java/util/ArrayList") (C := RX6) (T := TX6) (N := 8) hx hb hts inX6 tyX6 tyX6_ok nmX6 hown hK hP hD hS 0 rfl rfl 0 (by decide) (hts _ q193) (fun _ h9 => h9) rfl hin rfl (by decide +kernel) rfl rfl (Nat.le_of_ble_eq_true rfl) dX6_init_12 (fun H locs hP hD hS => ?_)
  have hP : va_P (dC, dI) vwCl [(h0, .inr (11, [.ref q_58, .null, .null, .null, .null, .int 0, .null, .null])), (q_58, .inr (4, [.int 0, .ref ed, .int 0]))] H := hP
  have hD : va_D A [(h0, .inr (11, [.ref q_58, .null, .null, .null, .null, .int 0, .null, .null])), (q_58, .inr (4, [.int 0, .ref ed, .int 0]))] := hD
  refine lv_aload_n hx hb dX6_init_15 rfl (lv_at hl 0 rfl) ?_
  refine va_new (ci := 4) (fs := [.int 0, .null, .int 0]) (C := RJx4a65c) (T := TJx4a65c) (N := 3) hx hb hts inJx4a65c tyJx4a65c tyJx4a65c_ok hown (hts _ q88) (hts _ q89) (hts _ q46) hK hP hD hS hA rfl (fun j hj => by rcases (show j = 0 ∨ j = 1 ∨ j = 2 by omega) with rfl | rfl | rfl <;> rfl) (Nat.le_of_ble_eq_true rfl) (Nat.le_of_ble_eq_true rfl) dX6_init_16 (fun q_60 H hP hD hS => ?_)
  have hP : va_P (dC, dI) vwCl [(h0, .inr (11, [.ref q_58, .null, .null, .null, .null, .int 0, .null, .null])), (q_58, .inr (4, [.int 0, .ref ed, .int 0])), (q_60, .inr (4, [.int 0, .null, .int 0]))] H := hP
  have hD : va_D A [(h0, .inr (11, [.ref q_58, .null, .null, .null, .null, .int 0, .null, .null])), (q_58, .inr (4, [.int 0, .ref ed, .int 0])), (q_60, .inr (4, [.int 0, .null, .int 0]))] := hD
  refine W.widen (k := 2) (n := 6) (Nat.le_of_ble_eq_true rfl) (Nat.le_of_ble_eq_true rfl) ?_
  refine lv_dup hx hb dX6_init_19 rfl ?_
  have hPc := hP.sub (ws' := [(q_60, .inr (4, [.int 0, .null, .int 0]))]) [2] rfl
  have hDc := hD.sub (ws' := [(q_60, .inr (4, [.int 0, .null, .int 0]))]) [2] (by decide) rfl
  have hKc := hK.sub (tys' := []) [] rfl
  have hFc := va_free (wc := [(q_60, .inr (4, [.int 0, .null, .int 0]))]) hD hS hA [2] rfl
  refine va_callv (va_runI (As := []) (rest := [.ref q_60, .ref h0]) ⟨hx, hb, hml, hown, hts⟩ (m_listInit l dC dI H.size ed q_60 (.int 0) .null 0) (cwI 0 hts (pw_c q92) rfl rfl rfl (hts _ q46) (hts _ q90) (hts _ q91) rfl (by decide +kernel) ⟨(Nat.le_of_ble_eq_true rfl), (Nat.le_of_ble_eq_true rfl)⟩) ⟨fun a U g mk q => by obtain ⟨q0, q1, qP, qK, qD, qZ⟩ := q; exact ⟨q0, q1, qP, va_K.moved (u := U) (U := U.calling g mk a) (Vm.Alike.refl U.vm) qK, qD, qZ.same rfl⟩, fun U hU hW => ⟨rfl, by rw [hU], by rw [hU]; exact hPc, va_K.moved hW.alike hKc, hDc.weaken (fun _ _ _ _ => trivial), hZ.call hS hFc hU hW⟩⟩ rfl rfl hl.1 rfl (lv_room (Nat.le_of_ble_eq_true rfl)) dX6_init_20 ⟨(Nat.le_of_ble_eq_true rfl), (Nat.le_of_ble_eq_true rfl)⟩) hS (fun q _ h => hFc q h) hFc (fun u t H1 locs ht hvm hw hB hz1 hk1 hS => ?_)
  obtain ⟨hP1, hK1, hD1⟩ := hB
  rw [ht] at hP1
  have hK1 := va_K.moved hvm.symm hK1
  obtain ⟨hP, hD⟩ := va_join (wr := [(h0, .inr (11, [.ref q_58, .null, .null, .null, .null, .int 0, .null, .null])), (q_58, .inr (4, [.int 0, .ref ed, .int 0]))]) (w1 := [(q_60, .inr (4, [.int 0, .ref ed, .int 0]))]) hP hD [2] [0, 1] rfl rfl (by decide) (by decide) hk1 hFc hP1 hD1
  have hK := (hK.sub (tys' := []) [] rfl).app hK1
  generalize H1 = H at hP hS ⊢
  have hP : va_P (dC, dI) vwCl [(h0, .inr (11, [.ref q_58, .null, .null, .null, .null, .int 0, .null, .null])), (q_58, .inr (4, [.int 0, .ref ed, .int 0])), (q_60, .inr (4, [.int 0, .ref ed, .int 0]))] H := hP
  have hD : va_D A [(h0, .inr (11, [.ref q_58, .null, .null, .null, .null, .int 0, .null, .null])), (q_58, .inr (4, [.int 0, .ref ed, .int 0])), (q_60, .inr (4, [.int 0, .ref ed, .int 0]))] := hD
  have hK : va_K (dC, dI) vwCl [] s := hK
  refine W.widen (k := 2) (n := 6) (Nat.le_of_ble_eq_true rfl) (Nat.le_of_ble_eq_true rfl) ?_
  refine va_putF (D := (dC, dI)) (ci := 11) (v := .ref q_60) (ty := .object "java/util/ArrayList") (C := RX6) (T := TX6) (N := 8) hx hb hts inX6 tyX6 tyX6_ok nmX6 hown hK hP hD hS 0 rfl rfl 1 (by decide) (hts _ q194) (fun _ h9 => h9) rfl hin rfl (by decide +kernel) rfl rfl (Nat.le_of_ble_eq_true rfl) dX6_init_23 (fun H locs hP hD hS => ?_)
  have hP : va_P (dC, dI) vwCl [(h0, .inr (11, [.ref q_58, .ref q_60, .null, .null, .null, .int 0, .null, .null])), (q_58, .inr (4, [.int 0, .ref ed, .int 0])), (q_60, .inr (4, [.int 0, .ref ed, .int 0]))] H := hP
  have hD : va_D A [(h0, .inr (11, [.ref q_58, .ref q_60, .null, .null, .null, .int 0, .null, .null])), (q_58, .inr (4, [.int 0, .ref ed, .int 0])), (q_60, .inr (4, [.int 0, .ref ed, .int 0]))] := hD
  refine lv_aload_n hx hb dX6_init_26 rfl (lv_at hl 0 rfl) ?_
  refine va_new (ci := 4) (fs := [.int 0, .null, .int 0]) (C := RJx4a65c) (T := TJx4a65c) (N := 3) hx hb hts inJx4a65c tyJx4a65c tyJx4a65c_ok hown (hts _ q88) (hts _ q89) (hts _ q46) hK hP hD hS hA rfl (fun j hj => by rcases (show j = 0 ∨ j = 1 ∨ j = 2 by omega) with rfl | rfl | rfl <;> rfl) (Nat.le_of_ble_eq_true rfl) (Nat.le_of_ble_eq_true rfl) dX6_init_27 (fun q_62 H hP hD hS => ?_)
  have hP : va_P (dC, dI) vwCl [(h0, .inr (11, [.ref q_58, .ref q_60, .null, .null, .null, .int 0, .null, .null])), (q_58, .inr (4, [.int 0, .ref ed, .int 0])), (q_60, .inr (4, [.int 0, .ref ed, .int 0])), (q_62, .inr (4, [.int 0, .null, .int 0]))] H := hP
  have hD : va_D A [(h0, .inr (11, [.ref q_58, .ref q_60, .null, .null, .null, .int 0, .null, .null])), (q_58, .inr (4, [.int 0, .ref ed, .int 0])), (q_60, .inr (4, [.int 0, .ref ed, .int 0])), (q_62, .inr (4, [.int 0, .null, .int 0]))] := hD
  refine W.widen (k := 3) (n := 9) (Nat.le_of_ble_eq_true rfl) (Nat.le_of_ble_eq_true rfl) ?_
  refine lv_dup hx hb dX6_init_30 rfl ?_
  have hPc := hP.sub (ws' := [(q_62, .inr (4, [.int 0, .null, .int 0]))]) [3] rfl
  have hDc := hD.sub (ws' := [(q_62, .inr (4, [.int 0, .null, .int 0]))]) [3] (by decide) rfl
  have hKc := hK.sub (tys' := []) [] rfl
  have hFc := va_free (wc := [(q_62, .inr (4, [.int 0, .null, .int 0]))]) hD hS hA [3] rfl
  refine va_callv (va_runI (As := []) (rest := [.ref q_62, .ref h0]) ⟨hx, hb, hml, hown, hts⟩ (m_listInit l dC dI H.size ed q_62 (.int 0) .null 0) (cwI 0 hts (pw_c q92) rfl rfl rfl (hts _ q46) (hts _ q90) (hts _ q91) rfl (by decide +kernel) ⟨(Nat.le_of_ble_eq_true rfl), (Nat.le_of_ble_eq_true rfl)⟩) ⟨fun a U g mk q => by obtain ⟨q0, q1, qP, qK, qD, qZ⟩ := q; exact ⟨q0, q1, qP, va_K.moved (u := U) (U := U.calling g mk a) (Vm.Alike.refl U.vm) qK, qD, qZ.same rfl⟩, fun U hU hW => ⟨rfl, by rw [hU], by rw [hU]; exact hPc, va_K.moved hW.alike hKc, hDc.weaken (fun _ _ _ _ => trivial), hZ.call hS hFc hU hW⟩⟩ rfl rfl hl.1 rfl (lv_room (Nat.le_of_ble_eq_true rfl)) dX6_init_31 ⟨(Nat.le_of_ble_eq_true rfl), (Nat.le_of_ble_eq_true rfl)⟩) hS (fun q _ h => hFc q h) hFc (fun u t H1 locs ht hvm hw hB hz1 hk1 hS => ?_)
  obtain ⟨hP1, hK1, hD1⟩ := hB
  rw [ht] at hP1
  have hK1 := va_K.moved hvm.symm hK1
  obtain ⟨hP, hD⟩ := va_join (wr := [(h0, .inr (11, [.ref q_58, .ref q_60, .null, .null, .null, .int 0, .null, .null])), (q_58, .inr (4, [.int 0, .ref ed, .int 0])), (q_60, .inr (4, [.int 0, .ref ed, .int 0]))]) (w1 := [(q_62, .inr (4, [.int 0, .ref ed, .int 0]))]) hP hD [3] [0, 1, 2] rfl rfl (by decide) (by decide) hk1 hFc hP1 hD1
  have hK := (hK.sub (tys' := []) [] rfl).app hK1
  generalize H1 = H at hP hS ⊢
  have hP : va_P (dC, dI) vwCl [(h0, .inr (11, [.ref q_58, .ref q_60, .null, .null, .null, .int 0, .null, .null])), (q_58, .inr (4, [.int 0, .ref ed, .int 0])), (q_60, .inr (4, [.int 0, .ref ed, .int 0])), (q_62, .inr (4, [.int 0, .ref ed, .int 0]))] H := hP
  have hD : va_D A [(h0, .inr (11, [.ref q_58, .ref q_60, .null, .null, .null, .int 0, .null, .null])), (q_58, .inr (4, [.int 0, .ref ed, .int 0])), (q_60, .inr (4, [.int 0, .ref ed, .int 0])), (q_62, .inr (4, [.int 0, .ref ed, .int 0]))] := hD
  have hK : va_K (dC, dI) vwCl [] s := hK
  refine W.widen (k := 3) (n := 9) (Nat.le_of_ble_eq_true rfl) (Nat.le_of_ble_eq_true rfl) ?_
  refine va_putF (D := (dC, dI)) (ci := 11) (v := .ref q_62) (ty := .object "java/util/ArrayList") (C := RX6) (T := TX6) (N := 8) hx hb hts inX6 tyX6 tyX6_ok nmX6 hown hK hP hD hS 0 rfl rfl 2 (by decide) (hts _ q195) (fun _ h9 => h9) rfl hin rfl (by decide +kernel) rfl rfl (Nat.le_of_ble_eq_true rfl) dX6_init_34 (fun H locs hP hD hS => ?_)
  have hP : va_P (dC, dI) vwCl [(h0, .inr (11, [.ref q_58, .ref q_60, .ref q_62, .null, .null, .int 0, .null, .null])), (q_58, .inr (4, [.int 0, .ref ed, .int 0])), (q_60, .inr (4, [.int 0, .ref ed, .int 0])), (q_62, .inr (4, [.int 0, .ref ed, .int 0]))] H := hP
  have hD : va_D A [(h0, .inr (11, [.ref q_58, .ref q_60, .ref q_62, .null, .null, .int 0, .null, .null])), (q_58, .inr (4, [.int 0, .ref ed, .int 0])), (q_60, .inr (4, [.int 0, .ref ed, .int 0])), (q_62, .inr (4, [.int 0, .ref ed, .int 0]))] := hD
  refine lv_aload_n hx hb dX6_init_37 rfl (lv_at hl 0 rfl) ?_
  refine va_new (ci := 4) (fs := [.int 0, .null, .int 0]) (C := RJx4a65c) (T := TJx4a65c) (N := 3) hx hb hts inJx4a65c tyJx4a65c tyJx4a65c_ok hown (hts _ q88) (hts _ q89) (hts _ q46) hK hP hD hS hA rfl (fun j hj => by rcases (show j = 0 ∨ j = 1 ∨ j = 2 by omega) with rfl | rfl | rfl <;> rfl) (Nat.le_of_ble_eq_true rfl) (Nat.le_of_ble_eq_true rfl) dX6_init_38 (fun q_64 H hP hD hS => ?_)
  have hP : va_P (dC, dI) vwCl [(h0, .inr (11, [.ref q_58, .ref q_60, .ref q_62, .null, .null, .int 0, .null, .null])), (q_58, .inr (4, [.int 0, .ref ed, .int 0])), (q_60, .inr (4, [.int 0, .ref ed, .int 0])), (q_62, .inr (4, [.int 0, .ref ed, .int 0])), (q_64, .inr (4, [.int 0, .null, .int 0]))] H := hP
  have hD : va_D A [(h0, .inr (11, [.ref q_58, .ref q_60, .ref q_62, .null, .null, .int 0, .null, .null])), (q_58, .inr (4, [.int 0, .ref ed, .int 0])), (q_60, .inr (4, [.int 0, .ref ed, .int 0])), (q_62, .inr (4, [.int 0, .ref ed, .int 0])), (q_64, .inr (4, [.int 0, .null, .int 0]))] := hD
  refine W.widen (k := 4) (n := 12) (Nat.le_of_ble_eq_true rfl) (Nat.le_of_ble_eq_true rfl) ?_
  refine lv_dup hx hb dX6_init_41 rfl ?_
  have hPc := hP.sub (ws' := [(q_64, .inr (4, [.int 0, .null, .int 0]))]) [4] rfl
  have hDc := hD.sub (ws' := [(q_64, .inr (4, [.int 0, .null, .int 0]))]) [4] (by decide) rfl
  have hKc := hK.sub (tys' := []) [] rfl
  have hFc := va_free (wc := [(q_64, .inr (4, [.int 0, .null, .int 0]))]) hD hS hA [4] rfl
  refine va_callv (va_runI (As := []) (rest := [.ref q_64, .ref h0]) ⟨hx, hb, hml, hown, hts⟩ (m_listInit l dC dI H.size ed q_64 (.int 0) .null 0) (cwI 0 hts (pw_c q92) rfl rfl rfl (hts _ q46) (hts _ q90) (hts _ q91) rfl (by decide +kernel) ⟨(Nat.le_of_ble_eq_true rfl), (Nat.le_of_ble_eq_true rfl)⟩) ⟨fun a U g mk q => by obtain ⟨q0, q1, qP, qK, qD, qZ⟩ := q; exact ⟨q0, q1, qP, va_K.moved (u := U) (U := U.calling g mk a) (Vm.Alike.refl U.vm) qK, qD, qZ.same rfl⟩, fun U hU hW => ⟨rfl, by rw [hU], by rw [hU]; exact hPc, va_K.moved hW.alike hKc, hDc.weaken (fun _ _ _ _ => trivial), hZ.call hS hFc hU hW⟩⟩ rfl rfl hl.1 rfl (lv_room (Nat.le_of_ble_eq_true rfl)) dX6_init_42 ⟨(Nat.le_of_ble_eq_true rfl), (Nat.le_of_ble_eq_true rfl)⟩) hS (fun q _ h => hFc q h) hFc (fun u t H1 locs ht hvm hw hB hz1 hk1 hS => ?_)
  obtain ⟨hP1, hK1, hD1⟩ := hB
  rw [ht] at hP1
  have hK1 := va_K.moved hvm.symm hK1
  obtain ⟨hP, hD⟩ := va_join (wr := [(h0, .inr (11, [.ref q_58, .ref q_60, .ref q_62, .null, .null, .int 0, .null, .null])), (q_58, .inr (4, [.int 0, .ref ed, .int 0])), (q_60, .inr (4, [.int 0, .ref ed, .int 0])), (q_62, .inr (4, [.int 0, .ref ed, .int 0]))]) (w1 := [(q_64, .inr (4, [.int 0, .ref ed, .int 0]))]) hP hD [4] [0, 1, 2, 3] rfl rfl (by decide) (by decide) hk1 hFc hP1 hD1
  have hK := (hK.sub (tys' := []) [] rfl).app hK1
  generalize H1 = H at hP hS ⊢
  have hP : va_P (dC, dI) vwCl [(h0, .inr (11, [.ref q_58, .ref q_60, .ref q_62, .null, .null, .int 0, .null, .null])), (q_58, .inr (4, [.int 0, .ref ed, .int 0])), (q_60, .inr (4, [.int 0, .ref ed, .int 0])), (q_62, .inr (4, [.int 0, .ref ed, .int 0])), (q_64, .inr (4, [.int 0, .ref ed, .int 0]))] H := hP
  have hD : va_D A [(h0, .inr (11, [.ref q_58, .ref q_60, .ref q_62, .null, .null, .int 0, .null, .null])), (q_58, .inr (4, [.int 0, .ref ed, .int 0])), (q_60, .inr (4, [.int 0, .ref ed, .int 0])), (q_62, .inr (4, [.int 0, .ref ed, .int 0])), (q_64, .inr (4, [.int 0, .ref ed, .int 0]))] := hD
  have hK : va_K (dC, dI) vwCl [] s := hK
  refine W.widen (k := 4) (n := 12) (Nat.le_of_ble_eq_true rfl) (Nat.le_of_ble_eq_true rfl) ?_
  refine va_putF (D := (dC, dI)) (ci := 11) (v := .ref q_64) (ty := .object "java/util/ArrayList") (C := RX6) (T := TX6) (N := 8) hx hb hts inX6 tyX6 tyX6_ok nmX6 hown hK hP hD hS 0 rfl rfl 3 (by decide) (hts _ q196) (fun _ h9 => h9) rfl hin rfl (by decide +kernel) rfl rfl (Nat.le_of_ble_eq_true rfl) dX6_init_45 (fun H locs hP hD hS => ?_)
  have hP : va_P (dC, dI) vwCl [(h0, .inr (11, [.ref q_58, .ref q_60, .ref q_62, .ref q_64, .null, .int 0, .null, .null])), (q_58, .inr (4, [.int 0, .ref ed, .int 0])), (q_60, .inr (4, [.int 0, .ref ed, .int 0])), (q_62, .inr (4, [.int 0, .ref ed, .int 0])), (q_64, .inr (4, [.int 0, .ref ed, .int 0]))] H := hP
  have hD : va_D A [(h0, .inr (11, [.ref q_58, .ref q_60, .ref q_62, .ref q_64, .null, .int 0, .null, .null])), (q_58, .inr (4, [.int 0, .ref ed, .int 0])), (q_60, .inr (4, [.int 0, .ref ed, .int 0])), (q_62, .inr (4, [.int 0, .ref ed, .int 0])), (q_64, .inr (4, [.int 0, .ref ed, .int 0]))] := hD
  refine lv_aload_n hx hb dX6_init_48 rfl (lv_at hl 0 rfl) ?_
  refine lv_bipush (v := 24) hx hb dX6_init_49 (by decide) ?_
  refine va_newa (atype := .int) (N' := 24) (a0 := (24, .inl (fun _ => 0))) (ty := .int) (n := 24) hx hb (hts _ q143) rfl hK hP hD hS hA (fun _ => rfl) (by decide) (by decide) (Nat.le_of_ble_eq_true rfl) (Nat.le_of_ble_eq_true rfl) (Nat.le_of_ble_eq_true rfl) dX6_init_51 (fun q_66 cA_67 H hK hP hD hS => ?_)
  have hP : va_P (dC, dI) vwCl [(h0, .inr (11, [.ref q_58, .ref q_60, .ref q_62, .ref q_64, .null, .int 0, .null, .null])), (q_58, .inr (4, [.int 0, .ref ed, .int 0])), (q_60, .inr (4, [.int 0, .ref ed, .int 0])), (q_62, .inr (4, [.int 0, .ref ed, .int 0])), (q_64, .inr (4, [.int 0, .ref ed, .int 0])), (q_66, .inl (cA_67, 24, .inl (fun _ => 0)))] H := hP
  have hD : va_D A [(h0, .inr (11, [.ref q_58, .ref q_60, .ref q_62, .ref q_64, .null, .int 0, .null, .null])), (q_58, .inr (4, [.int 0, .ref ed, .int 0])), (q_60, .inr (4, [.int 0, .ref ed, .int 0])), (q_62, .inr (4, [.int 0, .ref ed, .int 0])), (q_64, .inr (4, [.int 0, .ref ed, .int 0])), (q_66, .inl (cA_67, 24, .inl (fun _ => 0)))] := hD
  have hK : va_K (dC, dI) vwCl [(cA_67, .int)] s := hK
  refine W.widen (k := 5) (n := 36) (Nat.le_of_ble_eq_true rfl) (Nat.le_of_ble_eq_true rfl) ?_
  refine va_putF (D := (dC, dI)) (ci := 11) (v := .ref q_66) (ty := .array .int) (C := RX6) (T := TX6) (N := 8) hx hb hts inX6 tyX6 tyX6_ok nmX6 hown hK hP hD hS 0 rfl rfl 4 (by decide) (hts _ q197) (fun _ h9 => h9) rfl hin rfl (by decide +kernel) rfl rfl (Nat.le_of_ble_eq_true rfl) dX6_init_53 (fun H locs hP hD hS => ?_)
  have hP : va_P (dC, dI) vwCl [(h0, .inr (11, [.ref q_58, .ref q_60, .ref q_62, .ref q_64, .ref q_66, .int 0, .null, .null])), (q_58, .inr (4, [.int 0, .ref ed, .int 0])), (q_60, .inr (4, [.int 0, .ref ed, .int 0])), (q_62, .inr (4, [.int 0, .ref ed, .int 0])), (q_64, .inr (4, [.int 0, .ref ed, .int 0])), (q_66, .inl (cA_67, 24, .inl (fun _ => 0)))] H := hP
  have hD : va_D A [(h0, .inr (11, [.ref q_58, .ref q_60, .ref q_62, .ref q_64, .ref q_66, .int 0, .null, .null])), (q_58, .inr (4, [.int 0, .ref ed, .int 0])), (q_60, .inr (4, [.int 0, .ref ed, .int 0])), (q_62, .inr (4, [.int 0, .ref ed, .int 0])), (q_64, .inr (4, [.int 0, .ref ed, .int 0])), (q_66, .inl (cA_67, 24, .inl (fun _ => 0)))] := hD
  refine lv_aload_n hx hb dX6_init_56 rfl (lv_at hl 0 rfl) ?_
  refine va_new (ci := 6) (fs := [.null, .null, .int 0, .int 0, .long 0, .long 0]) (C := RX1) (T := TX1) (N := 6) hx hb hts inX1 tyX1 tyX1_ok hown (hts _ q117) (hts _ q118) (hts _ q47) hK hP hD hS hA rfl (fun j hj => by rcases (show j = 0 ∨ j = 1 ∨ j = 2 ∨ j = 3 ∨ j = 4 ∨ j = 5 by omega) with rfl | rfl | rfl | rfl | rfl | rfl <;> rfl) (Nat.le_of_ble_eq_true rfl) (Nat.le_of_ble_eq_true rfl) dX6_init_57 (fun q_68 H hP hD hS => ?_)
  have hP : va_P (dC, dI) vwCl [(h0, .inr (11, [.ref q_58, .ref q_60, .ref q_62, .ref q_64, .ref q_66, .int 0, .null, .null])), (q_58, .inr (4, [.int 0, .ref ed, .int 0])), (q_60, .inr (4, [.int 0, .ref ed, .int 0])), (q_62, .inr (4, [.int 0, .ref ed, .int 0])), (q_64, .inr (4, [.int 0, .ref ed, .int 0])), (q_66, .inl (cA_67, 24, .inl (fun _ => 0))), (q_68, .inr (6, [.null, .null, .int 0, .int 0, .long 0, .long 0]))] H := hP
  have hD : va_D A [(h0, .inr (11, [.ref q_58, .ref q_60, .ref q_62, .ref q_64, .ref q_66, .int 0, .null, .null])), (q_58, .inr (4, [.int 0, .ref ed, .int 0])), (q_60, .inr (4, [.int 0, .ref ed, .int 0])), (q_62, .inr (4, [.int 0, .ref ed, .int 0])), (q_64, .inr (4, [.int 0, .ref ed, .int 0])), (q_66, .inl (cA_67, 24, .inl (fun _ => 0))), (q_68, .inr (6, [.null, .null, .int 0, .int 0, .long 0, .long 0]))] := hD
  refine W.widen (k := 6) (n := 42) (Nat.le_of_ble_eq_true rfl) (Nat.le_of_ble_eq_true rfl) ?_
  refine lv_dup hx hb dX6_init_60 rfl ?_
  have hPc := hP.sub (ws' := [(q_68, .inr (6, [.null, .null, .int 0, .int 0, .long 0, .long 0]))]) [6] rfl
  have hDc := hD.sub (ws' := [(q_68, .inr (6, [.null, .null, .int 0, .int 0, .long 0, .long 0]))]) [6] (by decide) rfl
  have hKc := hK.sub (tys' := []) [] rfl
  have hFc := va_free (wc := [(q_68, .inr (6, [.null, .null, .int 0, .int 0, .long 0, .long 0]))]) hD hS hA [6] rfl
  refine va_callv (va_runI (As := []) (rest := [.ref q_68, .ref h0]) ⟨hx, hb, hml, hown, hts⟩ (m_rainInit l dC dI H.size q_68) (cwI 0 hts (pw_c q121) rfl rfl rfl (hts _ q47) (hts _ q119) (hts _ q120) rfl (by decide +kernel) ⟨(Nat.le_of_ble_eq_true rfl), (Nat.le_of_ble_eq_true rfl)⟩) ⟨fun a U g mk q => by obtain ⟨q0, q1, qP, qK, qD⟩ := q; exact ⟨q0, q1, qP, va_K.moved (u := U) (U := U.calling g mk a) (Vm.Alike.refl U.vm) qK, qD⟩, fun U hU hW => ⟨rfl, by rw [hU], by rw [hU]; exact hPc, va_K.moved hW.alike hKc, hDc.weaken (fun _ _ _ _ => trivial)⟩⟩ rfl rfl hl.1 rfl (lv_room (Nat.le_of_ble_eq_true rfl)) dX6_init_61 ⟨(Nat.le_of_ble_eq_true rfl), (Nat.le_of_ble_eq_true rfl)⟩) hS (fun q _ h => hFc q h) hFc (fun u t H1 locs ht hvm hw hB hz1 hk1 hS => ?_)
  obtain ⟨t1_70, t2_71, hP1, hK1, hD1⟩ := hB
  rw [ht] at hP1
  have hK1 := va_K.moved hvm.symm hK1
  obtain ⟨hP, hD⟩ := va_join (wr := [(h0, .inr (11, [.ref q_58, .ref q_60, .ref q_62, .ref q_64, .ref q_66, .int 0, .null, .null])), (q_58, .inr (4, [.int 0, .ref ed, .int 0])), (q_60, .inr (4, [.int 0, .ref ed, .int 0])), (q_62, .inr (4, [.int 0, .ref ed, .int 0])), (q_64, .inr (4, [.int 0, .ref ed, .int 0])), (q_66, .inl (cA_67, 24, .inl (fun _ => 0)))]) (w1 := [(q_68, .inr (6, [.ref t1_70, .ref t2_71, .int 0, .int 0, .long 0, .long 0]))]) hP hD [6] [0, 1, 2, 3, 4, 5] rfl rfl (by decide) (by decide) hk1 hFc hP1 hD1
  have hK := (hK.sub (tys' := [(cA_67, .int)]) [0] rfl).app hK1
  generalize H1 = H at hP hS ⊢
  have hP : va_P (dC, dI) vwCl [(h0, .inr (11, [.ref q_58, .ref q_60, .ref q_62, .ref q_64, .ref q_66, .int 0, .null, .null])), (q_58, .inr (4, [.int 0, .ref ed, .int 0])), (q_60, .inr (4, [.int 0, .ref ed, .int 0])), (q_62, .inr (4, [.int 0, .ref ed, .int 0])), (q_64, .inr (4, [.int 0, .ref ed, .int 0])), (q_66, .inl (cA_67, 24, .inl (fun _ => 0))), (q_68, .inr (6, [.ref t1_70, .ref t2_71, .int 0, .int 0, .long 0, .long 0]))] H := hP
  have hD : va_D A [(h0, .inr (11, [.ref q_58, .ref q_60, .ref q_62, .ref q_64, .ref q_66, .int 0, .null, .null])), (q_58, .inr (4, [.int 0, .ref ed, .int 0])), (q_60, .inr (4, [.int 0, .ref ed, .int 0])), (q_62, .inr (4, [.int 0, .ref ed, .int 0])), (q_64, .inr (4, [.int 0, .ref ed, .int 0])), (q_66, .inl (cA_67, 24, .inl (fun _ => 0))), (q_68, .inr (6, [.ref t1_70, .ref t2_71, .int 0, .int 0, .long 0, .long 0]))] := hD
  have hK : va_K (dC, dI) vwCl [(cA_67, .int)] s := hK
  refine W.widen (k := 8) (n := 220) (Nat.le_of_ble_eq_true rfl) (Nat.le_of_ble_eq_true rfl) ?_
  refine va_putF (D := (dC, dI)) (ci := 11) (v := .ref q_68) (ty := .object "Shakerhall$Rain") (C := RX6) (T := TX6) (N := 8) hx hb hts inX6 tyX6 tyX6_ok nmX6 hown hK hP hD hS 0 rfl rfl 6 (by decide) (hts _ q199) (fun _ h9 => h9) rfl hin rfl (by decide +kernel) rfl rfl (Nat.le_of_ble_eq_true rfl) dX6_init_64 (fun H locs hP hD hS => ?_)
  have hP : va_P (dC, dI) vwCl [(h0, .inr (11, [.ref q_58, .ref q_60, .ref q_62, .ref q_64, .ref q_66, .int 0, .ref q_68, .null])), (q_58, .inr (4, [.int 0, .ref ed, .int 0])), (q_60, .inr (4, [.int 0, .ref ed, .int 0])), (q_62, .inr (4, [.int 0, .ref ed, .int 0])), (q_64, .inr (4, [.int 0, .ref ed, .int 0])), (q_66, .inl (cA_67, 24, .inl (fun _ => 0))), (q_68, .inr (6, [.ref t1_70, .ref t2_71, .int 0, .int 0, .long 0, .long 0]))] H := hP
  have hD : va_D A [(h0, .inr (11, [.ref q_58, .ref q_60, .ref q_62, .ref q_64, .ref q_66, .int 0, .ref q_68, .null])), (q_58, .inr (4, [.int 0, .ref ed, .int 0])), (q_60, .inr (4, [.int 0, .ref ed, .int 0])), (q_62, .inr (4, [.int 0, .ref ed, .int 0])), (q_64, .inr (4, [.int 0, .ref ed, .int 0])), (q_66, .inl (cA_67, 24, .inl (fun _ => 0))), (q_68, .inr (6, [.ref t1_70, .ref t2_71, .int 0, .int 0, .long 0, .long 0]))] := hD
  refine lv_aload_n hx hb dX6_init_67 rfl (lv_at hl 0 rfl) ?_
  refine va_new (ci := 5) (fs := [.null, .null, .null, .null, .null, .null, .null, .null, .null, .int 0, .long 0]) (C := RX0) (T := TX0) (N := 11) hx hb hts inX0 tyX0 tyX0_ok hown (hts _ q144) (hts _ q145) (hts _ q48) hK hP hD hS hA rfl (fun j hj => by rcases (show j = 0 ∨ j = 1 ∨ j = 2 ∨ j = 3 ∨ j = 4 ∨ j = 5 ∨ j = 6 ∨ j = 7 ∨ j = 8 ∨ j = 9 ∨ j = 10 by omega) with rfl | rfl | rfl | rfl | rfl | rfl | rfl | rfl | rfl | rfl | rfl <;> rfl) (Nat.le_of_ble_eq_true rfl) (Nat.le_of_ble_eq_true rfl) dX6_init_68 (fun q_72 H hP hD hS => ?_)
  have hP : va_P (dC, dI) vwCl [(h0, .inr (11, [.ref q_58, .ref q_60, .ref q_62, .ref q_64, .ref q_66, .int 0, .ref q_68, .null])), (q_58, .inr (4, [.int 0, .ref ed, .int 0])), (q_60, .inr (4, [.int 0, .ref ed, .int 0])), (q_62, .inr (4, [.int 0, .ref ed, .int 0])), (q_64, .inr (4, [.int 0, .ref ed, .int 0])), (q_66, .inl (cA_67, 24, .inl (fun _ => 0))), (q_68, .inr (6, [.ref t1_70, .ref t2_71, .int 0, .int 0, .long 0, .long 0])), (q_72, .inr (5, [.null, .null, .null, .null, .null, .null, .null, .null, .null, .int 0, .long 0]))] H := hP
  have hD : va_D A [(h0, .inr (11, [.ref q_58, .ref q_60, .ref q_62, .ref q_64, .ref q_66, .int 0, .ref q_68, .null])), (q_58, .inr (4, [.int 0, .ref ed, .int 0])), (q_60, .inr (4, [.int 0, .ref ed, .int 0])), (q_62, .inr (4, [.int 0, .ref ed, .int 0])), (q_64, .inr (4, [.int 0, .ref ed, .int 0])), (q_66, .inl (cA_67, 24, .inl (fun _ => 0))), (q_68, .inr (6, [.ref t1_70, .ref t2_71, .int 0, .int 0, .long 0, .long 0])), (q_72, .inr (5, [.null, .null, .null, .null, .null, .null, .null, .null, .null, .int 0, .long 0]))] := hD
  refine W.widen (k := 9) (n := 231) (Nat.le_of_ble_eq_true rfl) (Nat.le_of_ble_eq_true rfl) ?_
  refine lv_dup hx hb dX6_init_71 rfl ?_
  have hPc := hP.sub (ws' := [(q_72, .inr (5, [.null, .null, .null, .null, .null, .null, .null, .null, .null, .int 0, .long 0]))]) [7] rfl
  have hDc := hD.sub (ws' := [(q_72, .inr (5, [.null, .null, .null, .null, .null, .null, .null, .null, .null, .int 0, .long 0]))]) [7] (by decide) rfl
  have hKc := hK.sub (tys' := []) [] rfl
  have hFc := va_free (wc := [(q_72, .inr (5, [.null, .null, .null, .null, .null, .null, .null, .null, .null, .int 0, .long 0]))]) hD hS hA [7] rfl
  refine va_callv (va_runI (As := []) (rest := [.ref q_72, .ref h0]) ⟨hx, hb, hml, hown, hts⟩ (m_chainInit l dC dI H.size q_72) (cwI 0 hts (pw_c q148) rfl rfl rfl (hts _ q48) (hts _ q146) (hts _ q147) rfl (by decide +kernel) ⟨(Nat.le_of_ble_eq_true rfl), (Nat.le_of_ble_eq_true rfl)⟩) ⟨fun a U g mk q => by obtain ⟨q0, q1, qP, qK, qD⟩ := q; exact ⟨q0, q1, qP, va_K.moved (u := U) (U := U.calling g mk a) (Vm.Alike.refl U.vm) qK, qD⟩, fun U hU hW => ⟨rfl, by rw [hU], by rw [hU]; exact hPc, va_K.moved hW.alike hKc, hDc.weaken (fun _ _ _ _ => trivial)⟩⟩ rfl rfl hl.1 rfl (lv_room (Nat.le_of_ble_eq_true rfl)) dX6_init_72 ⟨(Nat.le_of_ble_eq_true rfl), (Nat.le_of_ble_eq_true rfl)⟩) hS (fun q _ h => hFc q h) hFc (fun u t H1 locs ht hvm hw hB hz1 hk1 hS => ?_)
  obtain ⟨hP1, hK1, hD1⟩ := hB
  rw [ht] at hP1
  have hK1 := va_K.moved hvm.symm hK1
  obtain ⟨hP, hD⟩ := va_join (wr := [(h0, .inr (11, [.ref q_58, .ref q_60, .ref q_62, .ref q_64, .ref q_66, .int 0, .ref q_68, .null])), (q_58, .inr (4, [.int 0, .ref ed, .int 0])), (q_60, .inr (4, [.int 0, .ref ed, .int 0])), (q_62, .inr (4, [.int 0, .ref ed, .int 0])), (q_64, .inr (4, [.int 0, .ref ed, .int 0])), (q_66, .inl (cA_67, 24, .inl (fun _ => 0))), (q_68, .inr (6, [.ref t1_70, .ref t2_71, .int 0, .int 0, .long 0, .long 0]))]) (w1 := []) hP hD [7] [0, 1, 2, 3, 4, 5, 6] rfl rfl (by decide) (by decide) hk1 hFc hP1 hD1
  have hK := (hK.sub (tys' := [(cA_67, .int)]) [0] rfl).app hK1
  generalize H1 = H at hP hS ⊢
  have hP : va_P (dC, dI) vwCl [(h0, .inr (11, [.ref q_58, .ref q_60, .ref q_62, .ref q_64, .ref q_66, .int 0, .ref q_68, .null])), (q_58, .inr (4, [.int 0, .ref ed, .int 0])), (q_60, .inr (4, [.int 0, .ref ed, .int 0])), (q_62, .inr (4, [.int 0, .ref ed, .int 0])), (q_64, .inr (4, [.int 0, .ref ed, .int 0])), (q_66, .inl (cA_67, 24, .inl (fun _ => 0))), (q_68, .inr (6, [.ref t1_70, .ref t2_71, .int 0, .int 0, .long 0, .long 0]))] H := hP
  have hD : va_D A [(h0, .inr (11, [.ref q_58, .ref q_60, .ref q_62, .ref q_64, .ref q_66, .int 0, .ref q_68, .null])), (q_58, .inr (4, [.int 0, .ref ed, .int 0])), (q_60, .inr (4, [.int 0, .ref ed, .int 0])), (q_62, .inr (4, [.int 0, .ref ed, .int 0])), (q_64, .inr (4, [.int 0, .ref ed, .int 0])), (q_66, .inl (cA_67, 24, .inl (fun _ => 0))), (q_68, .inr (6, [.ref t1_70, .ref t2_71, .int 0, .int 0, .long 0, .long 0]))] := hD
  have hK : va_K (dC, dI) vwCl [(cA_67, .int)] s := hK
  refine W.widen (k := 18) (n := 267) (Nat.le_of_ble_eq_true rfl) (Nat.le_of_ble_eq_true rfl) ?_
  refine va_putF (D := (dC, dI)) (ci := 11) (v := .ref q_72) (ty := .object "Shakerhall$Chain") (C := RX6) (T := TX6) (N := 8) hx hb hts inX6 tyX6 tyX6_ok nmX6 hown hK hP hD hS 0 rfl rfl 7 (by decide) (hts _ q200) (fun _ h9 => h9) rfl hin rfl (by decide +kernel) rfl rfl (Nat.le_of_ble_eq_true rfl) dX6_init_75 (fun H locs hP hD hS => ?_)
  have hP : va_P (dC, dI) vwCl [(h0, .inr (11, [.ref q_58, .ref q_60, .ref q_62, .ref q_64, .ref q_66, .int 0, .ref q_68, .ref q_72])), (q_58, .inr (4, [.int 0, .ref ed, .int 0])), (q_60, .inr (4, [.int 0, .ref ed, .int 0])), (q_62, .inr (4, [.int 0, .ref ed, .int 0])), (q_64, .inr (4, [.int 0, .ref ed, .int 0])), (q_66, .inl (cA_67, 24, .inl (fun _ => 0))), (q_68, .inr (6, [.ref t1_70, .ref t2_71, .int 0, .int 0, .long 0, .long 0]))] H := hP
  have hD : va_D A [(h0, .inr (11, [.ref q_58, .ref q_60, .ref q_62, .ref q_64, .ref q_66, .int 0, .ref q_68, .ref q_72])), (q_58, .inr (4, [.int 0, .ref ed, .int 0])), (q_60, .inr (4, [.int 0, .ref ed, .int 0])), (q_62, .inr (4, [.int 0, .ref ed, .int 0])), (q_64, .inr (4, [.int 0, .ref ed, .int 0])), (q_66, .inl (cA_67, 24, .inl (fun _ => 0))), (q_68, .inr (6, [.ref t1_70, .ref t2_71, .int 0, .int 0, .long 0, .long 0]))] := hD
  have hP9 := hP.sub (ws' := [(h0, .inr (11, [.ref q_58, .ref q_60, .ref q_62, .ref q_64, .ref q_66, .int 0, .ref q_68, .ref q_72])), (q_58, .inr (4, [.int 0, .ref ed, .int 0])), (q_60, .inr (4, [.int 0, .ref ed, .int 0])), (q_62, .inr (4, [.int 0, .ref ed, .int 0])), (q_64, .inr (4, [.int 0, .ref ed, .int 0])), (q_66, .inl (cA_67, 24, .inl (fun _ => 0))), (q_68, .inr (6, [.ref t1_70, .ref t2_71, .int 0, .int 0, .long 0, .long 0]))]) [0, 1, 2, 3, 4, 5, 6] rfl
  have hD9 := hD.sub (ws' := [(h0, .inr (11, [.ref q_58, .ref q_60, .ref q_62, .ref q_64, .ref q_66, .int 0, .ref q_68, .ref q_72])), (q_58, .inr (4, [.int 0, .ref ed, .int 0])), (q_60, .inr (4, [.int 0, .ref ed, .int 0])), (q_62, .inr (4, [.int 0, .ref ed, .int 0])), (q_64, .inr (4, [.int 0, .ref ed, .int 0])), (q_66, .inl (cA_67, 24, .inl (fun _ => 0))), (q_68, .inr (6, [.ref t1_70, .ref t2_71, .int 0, .int 0, .long 0, .long 0]))]) [0, 1, 2, 3, 4, 5, 6] (by decide) rfl
  have hK9 := hK.sub (tys' := [(cA_67, .int)]) [0] rfl
  refine W.widen (k := 18) (n := 267) (Nat.le_of_ble_eq_true rfl) (Nat.le_of_ble_eq_true rfl) ?_
  exact W.vret hx hb hr (fun t ht hW => ⟨⟨(), rfl, trivial, ⟨q_58, q_60, q_62, q_64, q_66, q_68, q_72, t1_70, t2_71, cA_67, by rw [ht]; exact hP9, va_K.moved hW.alike hK9, hD9⟩⟩, hS.F ht⟩) hS.2.2 dX6_init_78
set_option maxHeartbeats 4000000 in
set_option maxRecDepth 100000 in
theorem m_modelInit (l : Launch) (dC : Nat → ClassId) (dI : Nat → Nat → Nat) (sz : Nat) (ed : Nat) (h0 : Nat) : Met l yX10_init (pw_ws yX10_init cX10_init 1 none) ({ frames := 4, cells := 5, slots := 15, locals := 80 } : Room) (va_Pc [.ref h0] (fun U => U.heap.size = sz ∧ va_P (dC, dI) vwCl [(h0, .inr (15, [.null, .null, .null, .null, .null, .int 0]))] U.heap ∧ va_K (dC, dI) vwCl [] U ∧ va_D (fun _ => True) [(h0, .inr (15, [.null, .null, .null, .null, .null, .int 0]))] ∧ pz ed (va_A [(h0, .inr (15, [.null, .null, .null, .null, .null, .int 0]))] sz) U U.heap)) (va_Qv (fun (_ : Unit) => True) (fun (_ : Unit) (t : State) => ∃ (b1 : Nat), ∃ (b2 : Nat), ∃ (b3 : Nat), ∃ (b4 : Nat), ∃ (b5 : Nat), va_P (dC, dI) vwCl [(h0, .inr (15, [.ref b1, .ref b2, .ref b3, .ref b4, .ref b5, .int 0])), (b1, .inr (4, [.int 0, .ref ed, .int 0])), (b2, .inr (4, [.int 0, .ref ed, .int 0])), (b3, .inr (4, [.int 0, .ref ed, .int 0])), (b4, .inr (4, [.int 0, .ref ed, .int 0])), (b5, .inr (4, [.int 0, .ref ed, .int 0]))] t.heap ∧ va_K (dC, dI) vwCl [] t ∧ va_D (va_A [(h0, .inr (15, [.null, .null, .null, .null, .null, .int 0]))] sz) [(h0, .inr (15, [.ref b1, .ref b2, .ref b3, .ref b4, .ref b5, .int 0])), (b1, .inr (4, [.int 0, .ref ed, .int 0])), (b2, .inr (4, [.int 0, .ref ed, .int 0])), (b3, .inr (4, [.int 0, .ref ed, .int 0])), (b4, .inr (4, [.int 0, .ref ed, .int 0])), (b5, .inr (4, [.int 0, .ref ed, .int 0]))]) (va_A [(h0, .inr (15, [.null, .null, .null, .null, .null, .int 0]))] sz)) 5 15 (va_A [(h0, .inr (15, [.null, .null, .null, .null, .null, .int 0]))] sz) := by
  refine Met.ofW (cc := cX10_init) (maxL := 1) (ret := none) (by decide) rfl ?_
  intro p e s m args below meth c s₁ B hml hv
  obtain ⟨rfl, hsz, hP, hK, hD0, hZ⟩ := hv
  have hx := B.exec
  have hb := B.bytes
  have hr := B.returns
  have hts0 := atoms_spec (ws := (pw_ws yX10_init cX10_init 1 none)) B.pre
  have hts : ∀ w ∈ pw_all, w.before _ s = true := fun w h => hts0 w (List.mem_cons_of_mem _ h)
  have hown : s.vm.findClass RX10 = some m.cls := findClass_of_methodNamed B.named
  have hlocks := B.notSynchronized
  have hin : meth.name = "<init>" := (name_of_methodNamed B.named B.method).1
  subst hsz
  have hD := hD0.self (sz := s.heap.size)
  generalize hAe : va_A [(h0, .inr (15, [.null, .null, .null, .null, .null, .int 0]))] s.heap.size = A at hD hZ ⊢
  have hA : ∀ q : Nat, s.heap.size ≤ q → A q := fun q h => by rw [← hAe]; exact Or.inr h
  have hS : va_S A s.heap s.heap [] := va_S.rf
  have hP : va_P (dC, dI) vwCl [(h0, .inr (15, [.null, .null, .null, .null, .null, .int 0]))] s.heap := hP
  have hl := lv_entry ([.ref h0]) (n := 1) (Nat.le_of_ble_eq_true rfl)
  rw [lg_entry_eq]
  generalize (lg_sl ([.ref h0]) ++ List.replicate (1 - (lg_sl ([.ref h0])).length) Slot.unset).toArray = ls at hl ⊢
  have hl : lv_has ls 1 [(0, .ref h0)] := hl
  skip
  refine lv_aload_n hx hb dX10_init_0 rfl (lv_at hl 0 rfl) ?_
  refine W.objInit hx hb hown (hts _ q1222) (hts _ q86) (hts _ q87) rfl (by rw [hml]; exact hl.1) rfl dX10_init_1 (Nat.le_of_ble_eq_true rfl) (Nat.le_of_ble_eq_true rfl) ?_
  refine W.eq (g2 := F0 m 4 ls []) rfl ?_
  refine lv_aload_n hx hb dX10_init_4 rfl (lv_at hl 0 rfl) ?_
  refine va_new (ci := 4) (fs := [.int 0, .null, .int 0]) (C := RJx4a65c) (T := TJx4a65c) (N := 3) hx hb hts inJx4a65c tyJx4a65c tyJx4a65c_ok hown (hts _ q1223) (hts _ q89) (hts _ q46) hK hP hD hS hA rfl (fun j hj => by rcases (show j = 0 ∨ j = 1 ∨ j = 2 by omega) with rfl | rfl | rfl <;> rfl) (Nat.le_of_ble_eq_true rfl) (Nat.le_of_ble_eq_true rfl) dX10_init_5 (fun q_78 H hP hD hS => ?_)
  have hP : va_P (dC, dI) vwCl [(h0, .inr (15, [.null, .null, .null, .null, .null, .int 0])), (q_78, .inr (4, [.int 0, .null, .int 0]))] H := hP
  have hD : va_D A [(h0, .inr (15, [.null, .null, .null, .null, .null, .int 0])), (q_78, .inr (4, [.int 0, .null, .int 0]))] := hD
  refine W.widen (k := 1) (n := 3) (Nat.le_of_ble_eq_true rfl) (Nat.le_of_ble_eq_true rfl) ?_
  refine lv_dup hx hb dX10_init_8 rfl ?_
  have hPc := hP.sub (ws' := [(q_78, .inr (4, [.int 0, .null, .int 0]))]) [1] rfl
  have hDc := hD.sub (ws' := [(q_78, .inr (4, [.int 0, .null, .int 0]))]) [1] (by decide) rfl
  have hKc := hK.sub (tys' := []) [] rfl
  have hFc := va_free (wc := [(q_78, .inr (4, [.int 0, .null, .int 0]))]) hD hS hA [1] rfl
  refine va_callv (va_runI (As := []) (rest := [.ref q_78, .ref h0]) ⟨hx, hb, hml, hown, hts⟩ (m_listInit l dC dI H.size ed q_78 (.int 0) .null 0) (cwI 0 hts (pw_c q92) rfl rfl rfl (hts _ q46) (hts _ q1224) (hts _ q91) rfl (by decide +kernel) ⟨(Nat.le_of_ble_eq_true rfl), (Nat.le_of_ble_eq_true rfl)⟩) ⟨fun a U g mk q => by obtain ⟨q0, q1, qP, qK, qD, qZ⟩ := q; exact ⟨q0, q1, qP, va_K.moved (u := U) (U := U.calling g mk a) (Vm.Alike.refl U.vm) qK, qD, qZ.same rfl⟩, fun U hU hW => ⟨rfl, by rw [hU], by rw [hU]; exact hPc, va_K.moved hW.alike hKc, hDc.weaken (fun _ _ _ _ => trivial), hZ.call hS hFc hU hW⟩⟩ rfl rfl hl.1 rfl (lv_room (Nat.le_of_ble_eq_true rfl)) dX10_init_9 ⟨(Nat.le_of_ble_eq_true rfl), (Nat.le_of_ble_eq_true rfl)⟩) hS (fun q _ h => hFc q h) hFc (fun u t H1 locs ht hvm hw hB hz1 hk1 hS => ?_)
  obtain ⟨hP1, hK1, hD1⟩ := hB
  rw [ht] at hP1
  have hK1 := va_K.moved hvm.symm hK1
  obtain ⟨hP, hD⟩ := va_join (wr := [(h0, .inr (15, [.null, .null, .null, .null, .null, .int 0]))]) (w1 := [(q_78, .inr (4, [.int 0, .ref ed, .int 0]))]) hP hD [1] [0] rfl rfl (by decide) (by decide) hk1 hFc hP1 hD1
  have hK := (hK.sub (tys' := []) [] rfl).app hK1
  generalize H1 = H at hP hS ⊢
  have hP : va_P (dC, dI) vwCl [(h0, .inr (15, [.null, .null, .null, .null, .null, .int 0])), (q_78, .inr (4, [.int 0, .ref ed, .int 0]))] H := hP
  have hD : va_D A [(h0, .inr (15, [.null, .null, .null, .null, .null, .int 0])), (q_78, .inr (4, [.int 0, .ref ed, .int 0]))] := hD
  have hK : va_K (dC, dI) vwCl [] s := hK
  refine W.widen (k := 1) (n := 3) (Nat.le_of_ble_eq_true rfl) (Nat.le_of_ble_eq_true rfl) ?_
  refine va_putF (D := (dC, dI)) (ci := 15) (v := .ref q_78) (ty := .object "java/util/ArrayList") (C := RX10) (T := TX10) (N := 6) hx hb hts inX10 tyX10 tyX10_ok nmX10 hown hK hP hD hS 0 rfl rfl 0 (by decide) (hts _ q1225) (fun _ h9 => h9) rfl hin rfl (by decide +kernel) rfl rfl (Nat.le_of_ble_eq_true rfl) dX10_init_12 (fun H locs hP hD hS => ?_)
  have hP : va_P (dC, dI) vwCl [(h0, .inr (15, [.ref q_78, .null, .null, .null, .null, .int 0])), (q_78, .inr (4, [.int 0, .ref ed, .int 0]))] H := hP
  have hD : va_D A [(h0, .inr (15, [.ref q_78, .null, .null, .null, .null, .int 0])), (q_78, .inr (4, [.int 0, .ref ed, .int 0]))] := hD
  refine lv_aload_n hx hb dX10_init_15 rfl (lv_at hl 0 rfl) ?_
  refine va_new (ci := 4) (fs := [.int 0, .null, .int 0]) (C := RJx4a65c) (T := TJx4a65c) (N := 3) hx hb hts inJx4a65c tyJx4a65c tyJx4a65c_ok hown (hts _ q1223) (hts _ q89) (hts _ q46) hK hP hD hS hA rfl (fun j hj => by rcases (show j = 0 ∨ j = 1 ∨ j = 2 by omega) with rfl | rfl | rfl <;> rfl) (Nat.le_of_ble_eq_true rfl) (Nat.le_of_ble_eq_true rfl) dX10_init_16 (fun q_80 H hP hD hS => ?_)
  have hP : va_P (dC, dI) vwCl [(h0, .inr (15, [.ref q_78, .null, .null, .null, .null, .int 0])), (q_78, .inr (4, [.int 0, .ref ed, .int 0])), (q_80, .inr (4, [.int 0, .null, .int 0]))] H := hP
  have hD : va_D A [(h0, .inr (15, [.ref q_78, .null, .null, .null, .null, .int 0])), (q_78, .inr (4, [.int 0, .ref ed, .int 0])), (q_80, .inr (4, [.int 0, .null, .int 0]))] := hD
  refine W.widen (k := 2) (n := 6) (Nat.le_of_ble_eq_true rfl) (Nat.le_of_ble_eq_true rfl) ?_
  refine lv_dup hx hb dX10_init_19 rfl ?_
  have hPc := hP.sub (ws' := [(q_80, .inr (4, [.int 0, .null, .int 0]))]) [2] rfl
  have hDc := hD.sub (ws' := [(q_80, .inr (4, [.int 0, .null, .int 0]))]) [2] (by decide) rfl
  have hKc := hK.sub (tys' := []) [] rfl
  have hFc := va_free (wc := [(q_80, .inr (4, [.int 0, .null, .int 0]))]) hD hS hA [2] rfl
  refine va_callv (va_runI (As := []) (rest := [.ref q_80, .ref h0]) ⟨hx, hb, hml, hown, hts⟩ (m_listInit l dC dI H.size ed q_80 (.int 0) .null 0) (cwI 0 hts (pw_c q92) rfl rfl rfl (hts _ q46) (hts _ q1224) (hts _ q91) rfl (by decide +kernel) ⟨(Nat.le_of_ble_eq_true rfl), (Nat.le_of_ble_eq_true rfl)⟩) ⟨fun a U g mk q => by obtain ⟨q0, q1, qP, qK, qD, qZ⟩ := q; exact ⟨q0, q1, qP, va_K.moved (u := U) (U := U.calling g mk a) (Vm.Alike.refl U.vm) qK, qD, qZ.same rfl⟩, fun U hU hW => ⟨rfl, by rw [hU], by rw [hU]; exact hPc, va_K.moved hW.alike hKc, hDc.weaken (fun _ _ _ _ => trivial), hZ.call hS hFc hU hW⟩⟩ rfl rfl hl.1 rfl (lv_room (Nat.le_of_ble_eq_true rfl)) dX10_init_20 ⟨(Nat.le_of_ble_eq_true rfl), (Nat.le_of_ble_eq_true rfl)⟩) hS (fun q _ h => hFc q h) hFc (fun u t H1 locs ht hvm hw hB hz1 hk1 hS => ?_)
  obtain ⟨hP1, hK1, hD1⟩ := hB
  rw [ht] at hP1
  have hK1 := va_K.moved hvm.symm hK1
  obtain ⟨hP, hD⟩ := va_join (wr := [(h0, .inr (15, [.ref q_78, .null, .null, .null, .null, .int 0])), (q_78, .inr (4, [.int 0, .ref ed, .int 0]))]) (w1 := [(q_80, .inr (4, [.int 0, .ref ed, .int 0]))]) hP hD [2] [0, 1] rfl rfl (by decide) (by decide) hk1 hFc hP1 hD1
  have hK := (hK.sub (tys' := []) [] rfl).app hK1
  generalize H1 = H at hP hS ⊢
  have hP : va_P (dC, dI) vwCl [(h0, .inr (15, [.ref q_78, .null, .null, .null, .null, .int 0])), (q_78, .inr (4, [.int 0, .ref ed, .int 0])), (q_80, .inr (4, [.int 0, .ref ed, .int 0]))] H := hP
  have hD : va_D A [(h0, .inr (15, [.ref q_78, .null, .null, .null, .null, .int 0])), (q_78, .inr (4, [.int 0, .ref ed, .int 0])), (q_80, .inr (4, [.int 0, .ref ed, .int 0]))] := hD
  have hK : va_K (dC, dI) vwCl [] s := hK
  refine W.widen (k := 2) (n := 6) (Nat.le_of_ble_eq_true rfl) (Nat.le_of_ble_eq_true rfl) ?_
  refine va_putF (D := (dC, dI)) (ci := 15) (v := .ref q_80) (ty := .object "java/util/ArrayList") (C := RX10) (T := TX10) (N := 6) hx hb hts inX10 tyX10 tyX10_ok nmX10 hown hK hP hD hS 0 rfl rfl 1 (by decide) (hts _ q1226) (fun _ h9 => h9) rfl hin rfl (by decide +kernel) rfl rfl (Nat.le_of_ble_eq_true rfl) dX10_init_23 (fun H locs hP hD hS => ?_)
  have hP : va_P (dC, dI) vwCl [(h0, .inr (15, [.ref q_78, .ref q_80, .null, .null, .null, .int 0])), (q_78, .inr (4, [.int 0, .ref ed, .int 0])), (q_80, .inr (4, [.int 0, .ref ed, .int 0]))] H := hP
  have hD : va_D A [(h0, .inr (15, [.ref q_78, .ref q_80, .null, .null, .null, .int 0])), (q_78, .inr (4, [.int 0, .ref ed, .int 0])), (q_80, .inr (4, [.int 0, .ref ed, .int 0]))] := hD
  refine lv_aload_n hx hb dX10_init_26 rfl (lv_at hl 0 rfl) ?_
  refine va_new (ci := 4) (fs := [.int 0, .null, .int 0]) (C := RJx4a65c) (T := TJx4a65c) (N := 3) hx hb hts inJx4a65c tyJx4a65c tyJx4a65c_ok hown (hts _ q1223) (hts _ q89) (hts _ q46) hK hP hD hS hA rfl (fun j hj => by rcases (show j = 0 ∨ j = 1 ∨ j = 2 by omega) with rfl | rfl | rfl <;> rfl) (Nat.le_of_ble_eq_true rfl) (Nat.le_of_ble_eq_true rfl) dX10_init_27 (fun q_82 H hP hD hS => ?_)
  have hP : va_P (dC, dI) vwCl [(h0, .inr (15, [.ref q_78, .ref q_80, .null, .null, .null, .int 0])), (q_78, .inr (4, [.int 0, .ref ed, .int 0])), (q_80, .inr (4, [.int 0, .ref ed, .int 0])), (q_82, .inr (4, [.int 0, .null, .int 0]))] H := hP
  have hD : va_D A [(h0, .inr (15, [.ref q_78, .ref q_80, .null, .null, .null, .int 0])), (q_78, .inr (4, [.int 0, .ref ed, .int 0])), (q_80, .inr (4, [.int 0, .ref ed, .int 0])), (q_82, .inr (4, [.int 0, .null, .int 0]))] := hD
  refine W.widen (k := 3) (n := 9) (Nat.le_of_ble_eq_true rfl) (Nat.le_of_ble_eq_true rfl) ?_
  refine lv_dup hx hb dX10_init_30 rfl ?_
  have hPc := hP.sub (ws' := [(q_82, .inr (4, [.int 0, .null, .int 0]))]) [3] rfl
  have hDc := hD.sub (ws' := [(q_82, .inr (4, [.int 0, .null, .int 0]))]) [3] (by decide) rfl
  have hKc := hK.sub (tys' := []) [] rfl
  have hFc := va_free (wc := [(q_82, .inr (4, [.int 0, .null, .int 0]))]) hD hS hA [3] rfl
  refine va_callv (va_runI (As := []) (rest := [.ref q_82, .ref h0]) ⟨hx, hb, hml, hown, hts⟩ (m_listInit l dC dI H.size ed q_82 (.int 0) .null 0) (cwI 0 hts (pw_c q92) rfl rfl rfl (hts _ q46) (hts _ q1224) (hts _ q91) rfl (by decide +kernel) ⟨(Nat.le_of_ble_eq_true rfl), (Nat.le_of_ble_eq_true rfl)⟩) ⟨fun a U g mk q => by obtain ⟨q0, q1, qP, qK, qD, qZ⟩ := q; exact ⟨q0, q1, qP, va_K.moved (u := U) (U := U.calling g mk a) (Vm.Alike.refl U.vm) qK, qD, qZ.same rfl⟩, fun U hU hW => ⟨rfl, by rw [hU], by rw [hU]; exact hPc, va_K.moved hW.alike hKc, hDc.weaken (fun _ _ _ _ => trivial), hZ.call hS hFc hU hW⟩⟩ rfl rfl hl.1 rfl (lv_room (Nat.le_of_ble_eq_true rfl)) dX10_init_31 ⟨(Nat.le_of_ble_eq_true rfl), (Nat.le_of_ble_eq_true rfl)⟩) hS (fun q _ h => hFc q h) hFc (fun u t H1 locs ht hvm hw hB hz1 hk1 hS => ?_)
  obtain ⟨hP1, hK1, hD1⟩ := hB
  rw [ht] at hP1
  have hK1 := va_K.moved hvm.symm hK1
  obtain ⟨hP, hD⟩ := va_join (wr := [(h0, .inr (15, [.ref q_78, .ref q_80, .null, .null, .null, .int 0])), (q_78, .inr (4, [.int 0, .ref ed, .int 0])), (q_80, .inr (4, [.int 0, .ref ed, .int 0]))]) (w1 := [(q_82, .inr (4, [.int 0, .ref ed, .int 0]))]) hP hD [3] [0, 1, 2] rfl rfl (by decide) (by decide) hk1 hFc hP1 hD1
  have hK := (hK.sub (tys' := []) [] rfl).app hK1
  generalize H1 = H at hP hS ⊢
  have hP : va_P (dC, dI) vwCl [(h0, .inr (15, [.ref q_78, .ref q_80, .null, .null, .null, .int 0])), (q_78, .inr (4, [.int 0, .ref ed, .int 0])), (q_80, .inr (4, [.int 0, .ref ed, .int 0])), (q_82, .inr (4, [.int 0, .ref ed, .int 0]))] H := hP
  have hD : va_D A [(h0, .inr (15, [.ref q_78, .ref q_80, .null, .null, .null, .int 0])), (q_78, .inr (4, [.int 0, .ref ed, .int 0])), (q_80, .inr (4, [.int 0, .ref ed, .int 0])), (q_82, .inr (4, [.int 0, .ref ed, .int 0]))] := hD
  have hK : va_K (dC, dI) vwCl [] s := hK
  refine W.widen (k := 3) (n := 9) (Nat.le_of_ble_eq_true rfl) (Nat.le_of_ble_eq_true rfl) ?_
  refine va_putF (D := (dC, dI)) (ci := 15) (v := .ref q_82) (ty := .object "java/util/ArrayList") (C := RX10) (T := TX10) (N := 6) hx hb hts inX10 tyX10 tyX10_ok nmX10 hown hK hP hD hS 0 rfl rfl 2 (by decide) (hts _ q1227) (fun _ h9 => h9) rfl hin rfl (by decide +kernel) rfl rfl (Nat.le_of_ble_eq_true rfl) dX10_init_34 (fun H locs hP hD hS => ?_)
  have hP : va_P (dC, dI) vwCl [(h0, .inr (15, [.ref q_78, .ref q_80, .ref q_82, .null, .null, .int 0])), (q_78, .inr (4, [.int 0, .ref ed, .int 0])), (q_80, .inr (4, [.int 0, .ref ed, .int 0])), (q_82, .inr (4, [.int 0, .ref ed, .int 0]))] H := hP
  have hD : va_D A [(h0, .inr (15, [.ref q_78, .ref q_80, .ref q_82, .null, .null, .int 0])), (q_78, .inr (4, [.int 0, .ref ed, .int 0])), (q_80, .inr (4, [.int 0, .ref ed, .int 0])), (q_82, .inr (4, [.int 0, .ref ed, .int 0]))] := hD
  refine lv_aload_n hx hb dX10_init_37 rfl (lv_at hl 0 rfl) ?_
  refine va_new (ci := 4) (fs := [.int 0, .null, .int 0]) (C := RJx4a65c) (T := TJx4a65c) (N := 3) hx hb hts inJx4a65c tyJx4a65c tyJx4a65c_ok hown (hts _ q1223) (hts _ q89) (hts _ q46) hK hP hD hS hA rfl (fun j hj => by rcases (show j = 0 ∨ j = 1 ∨ j = 2 by omega) with rfl | rfl | rfl <;> rfl) (Nat.le_of_ble_eq_true rfl) (Nat.le_of_ble_eq_true rfl) dX10_init_38 (fun q_84 H hP hD hS => ?_)
  have hP : va_P (dC, dI) vwCl [(h0, .inr (15, [.ref q_78, .ref q_80, .ref q_82, .null, .null, .int 0])), (q_78, .inr (4, [.int 0, .ref ed, .int 0])), (q_80, .inr (4, [.int 0, .ref ed, .int 0])), (q_82, .inr (4, [.int 0, .ref ed, .int 0])), (q_84, .inr (4, [.int 0, .null, .int 0]))] H := hP
  have hD : va_D A [(h0, .inr (15, [.ref q_78, .ref q_80, .ref q_82, .null, .null, .int 0])), (q_78, .inr (4, [.int 0, .ref ed, .int 0])), (q_80, .inr (4, [.int 0, .ref ed, .int 0])), (q_82, .inr (4, [.int 0, .ref ed, .int 0])), (q_84, .inr (4, [.int 0, .null, .int 0]))] := hD
  refine W.widen (k := 4) (n := 12) (Nat.le_of_ble_eq_true rfl) (Nat.le_of_ble_eq_true rfl) ?_
  refine lv_dup hx hb dX10_init_41 rfl ?_
  have hPc := hP.sub (ws' := [(q_84, .inr (4, [.int 0, .null, .int 0]))]) [4] rfl
  have hDc := hD.sub (ws' := [(q_84, .inr (4, [.int 0, .null, .int 0]))]) [4] (by decide) rfl
  have hKc := hK.sub (tys' := []) [] rfl
  have hFc := va_free (wc := [(q_84, .inr (4, [.int 0, .null, .int 0]))]) hD hS hA [4] rfl
  refine va_callv (va_runI (As := []) (rest := [.ref q_84, .ref h0]) ⟨hx, hb, hml, hown, hts⟩ (m_listInit l dC dI H.size ed q_84 (.int 0) .null 0) (cwI 0 hts (pw_c q92) rfl rfl rfl (hts _ q46) (hts _ q1224) (hts _ q91) rfl (by decide +kernel) ⟨(Nat.le_of_ble_eq_true rfl), (Nat.le_of_ble_eq_true rfl)⟩) ⟨fun a U g mk q => by obtain ⟨q0, q1, qP, qK, qD, qZ⟩ := q; exact ⟨q0, q1, qP, va_K.moved (u := U) (U := U.calling g mk a) (Vm.Alike.refl U.vm) qK, qD, qZ.same rfl⟩, fun U hU hW => ⟨rfl, by rw [hU], by rw [hU]; exact hPc, va_K.moved hW.alike hKc, hDc.weaken (fun _ _ _ _ => trivial), hZ.call hS hFc hU hW⟩⟩ rfl rfl hl.1 rfl (lv_room (Nat.le_of_ble_eq_true rfl)) dX10_init_42 ⟨(Nat.le_of_ble_eq_true rfl), (Nat.le_of_ble_eq_true rfl)⟩) hS (fun q _ h => hFc q h) hFc (fun u t H1 locs ht hvm hw hB hz1 hk1 hS => ?_)
  obtain ⟨hP1, hK1, hD1⟩ := hB
  rw [ht] at hP1
  have hK1 := va_K.moved hvm.symm hK1
  obtain ⟨hP, hD⟩ := va_join (wr := [(h0, .inr (15, [.ref q_78, .ref q_80, .ref q_82, .null, .null, .int 0])), (q_78, .inr (4, [.int 0, .ref ed, .int 0])), (q_80, .inr (4, [.int 0, .ref ed, .int 0])), (q_82, .inr (4, [.int 0, .ref ed, .int 0]))]) (w1 := [(q_84, .inr (4, [.int 0, .ref ed, .int 0]))]) hP hD [4] [0, 1, 2, 3] rfl rfl (by decide) (by decide) hk1 hFc hP1 hD1
  have hK := (hK.sub (tys' := []) [] rfl).app hK1
  generalize H1 = H at hP hS ⊢
  have hP : va_P (dC, dI) vwCl [(h0, .inr (15, [.ref q_78, .ref q_80, .ref q_82, .null, .null, .int 0])), (q_78, .inr (4, [.int 0, .ref ed, .int 0])), (q_80, .inr (4, [.int 0, .ref ed, .int 0])), (q_82, .inr (4, [.int 0, .ref ed, .int 0])), (q_84, .inr (4, [.int 0, .ref ed, .int 0]))] H := hP
  have hD : va_D A [(h0, .inr (15, [.ref q_78, .ref q_80, .ref q_82, .null, .null, .int 0])), (q_78, .inr (4, [.int 0, .ref ed, .int 0])), (q_80, .inr (4, [.int 0, .ref ed, .int 0])), (q_82, .inr (4, [.int 0, .ref ed, .int 0])), (q_84, .inr (4, [.int 0, .ref ed, .int 0]))] := hD
  have hK : va_K (dC, dI) vwCl [] s := hK
  refine W.widen (k := 4) (n := 12) (Nat.le_of_ble_eq_true rfl) (Nat.le_of_ble_eq_true rfl) ?_
  refine va_putF (D := (dC, dI)) (ci := 15) (v := .ref q_84) (ty := .object "java/util/ArrayList") (C := RX10) (T := TX10) (N := 6) hx hb hts inX10 tyX10 tyX10_ok nmX10 hown hK hP hD hS 0 rfl rfl 3 (by decide) (hts _ q1228) (fun _ h9 => h9) rfl hin rfl (by decide +kernel) rfl rfl (Nat.le_of_ble_eq_true rfl) dX10_init_45 (fun H locs hP hD hS => ?_)
  have hP : va_P (dC, dI) vwCl [(h0, .inr (15, [.ref q_78, .ref q_80, .ref q_82, .ref q_84, .null, .int 0])), (q_78, .inr (4, [.int 0, .ref ed, .int 0])), (q_80, .inr (4, [.int 0, .ref ed, .int 0])), (q_82, .inr (4, [.int 0, .ref ed, .int 0])), (q_84, .inr (4, [.int 0, .ref ed, .int 0]))] H := hP
  have hD : va_D A [(h0, .inr (15, [.ref q_78, .ref q_80, .ref q_82, .ref q_84, .null, .int 0])), (q_78, .inr (4, [.int 0, .ref ed, .int 0])), (q_80, .inr (4, [.int 0, .ref ed, .int 0])), (q_82, .inr (4, [.int 0, .ref ed, .int 0])), (q_84, .inr (4, [.int 0, .ref ed, .int 0]))] := hD
  refine lv_aload_n hx hb dX10_init_48 rfl (lv_at hl 0 rfl) ?_
  refine va_new (ci := 4) (fs := [.int 0, .null, .int 0]) (C := RJx4a65c) (T := TJx4a65c) (N := 3) hx hb hts inJx4a65c tyJx4a65c tyJx4a65c_ok hown (hts _ q1223) (hts _ q89) (hts _ q46) hK hP hD hS hA rfl (fun j hj => by rcases (show j = 0 ∨ j = 1 ∨ j = 2 by omega) with rfl | rfl | rfl <;> rfl) (Nat.le_of_ble_eq_true rfl) (Nat.le_of_ble_eq_true rfl) dX10_init_49 (fun q_86 H hP hD hS => ?_)
  have hP : va_P (dC, dI) vwCl [(h0, .inr (15, [.ref q_78, .ref q_80, .ref q_82, .ref q_84, .null, .int 0])), (q_78, .inr (4, [.int 0, .ref ed, .int 0])), (q_80, .inr (4, [.int 0, .ref ed, .int 0])), (q_82, .inr (4, [.int 0, .ref ed, .int 0])), (q_84, .inr (4, [.int 0, .ref ed, .int 0])), (q_86, .inr (4, [.int 0, .null, .int 0]))] H := hP
  have hD : va_D A [(h0, .inr (15, [.ref q_78, .ref q_80, .ref q_82, .ref q_84, .null, .int 0])), (q_78, .inr (4, [.int 0, .ref ed, .int 0])), (q_80, .inr (4, [.int 0, .ref ed, .int 0])), (q_82, .inr (4, [.int 0, .ref ed, .int 0])), (q_84, .inr (4, [.int 0, .ref ed, .int 0])), (q_86, .inr (4, [.int 0, .null, .int 0]))] := hD
  refine W.widen (k := 5) (n := 15) (Nat.le_of_ble_eq_true rfl) (Nat.le_of_ble_eq_true rfl) ?_
  refine lv_dup hx hb dX10_init_52 rfl ?_
  have hPc := hP.sub (ws' := [(q_86, .inr (4, [.int 0, .null, .int 0]))]) [5] rfl
  have hDc := hD.sub (ws' := [(q_86, .inr (4, [.int 0, .null, .int 0]))]) [5] (by decide) rfl
  have hKc := hK.sub (tys' := []) [] rfl
  have hFc := va_free (wc := [(q_86, .inr (4, [.int 0, .null, .int 0]))]) hD hS hA [5] rfl
  refine va_callv (va_runI (As := []) (rest := [.ref q_86, .ref h0]) ⟨hx, hb, hml, hown, hts⟩ (m_listInit l dC dI H.size ed q_86 (.int 0) .null 0) (cwI 0 hts (pw_c q92) rfl rfl rfl (hts _ q46) (hts _ q1224) (hts _ q91) rfl (by decide +kernel) ⟨(Nat.le_of_ble_eq_true rfl), (Nat.le_of_ble_eq_true rfl)⟩) ⟨fun a U g mk q => by obtain ⟨q0, q1, qP, qK, qD, qZ⟩ := q; exact ⟨q0, q1, qP, va_K.moved (u := U) (U := U.calling g mk a) (Vm.Alike.refl U.vm) qK, qD, qZ.same rfl⟩, fun U hU hW => ⟨rfl, by rw [hU], by rw [hU]; exact hPc, va_K.moved hW.alike hKc, hDc.weaken (fun _ _ _ _ => trivial), hZ.call hS hFc hU hW⟩⟩ rfl rfl hl.1 rfl (lv_room (Nat.le_of_ble_eq_true rfl)) dX10_init_53 ⟨(Nat.le_of_ble_eq_true rfl), (Nat.le_of_ble_eq_true rfl)⟩) hS (fun q _ h => hFc q h) hFc (fun u t H1 locs ht hvm hw hB hz1 hk1 hS => ?_)
  obtain ⟨hP1, hK1, hD1⟩ := hB
  rw [ht] at hP1
  have hK1 := va_K.moved hvm.symm hK1
  obtain ⟨hP, hD⟩ := va_join (wr := [(h0, .inr (15, [.ref q_78, .ref q_80, .ref q_82, .ref q_84, .null, .int 0])), (q_78, .inr (4, [.int 0, .ref ed, .int 0])), (q_80, .inr (4, [.int 0, .ref ed, .int 0])), (q_82, .inr (4, [.int 0, .ref ed, .int 0])), (q_84, .inr (4, [.int 0, .ref ed, .int 0]))]) (w1 := [(q_86, .inr (4, [.int 0, .ref ed, .int 0]))]) hP hD [5] [0, 1, 2, 3, 4] rfl rfl (by decide) (by decide) hk1 hFc hP1 hD1
  have hK := (hK.sub (tys' := []) [] rfl).app hK1
  generalize H1 = H at hP hS ⊢
  have hP : va_P (dC, dI) vwCl [(h0, .inr (15, [.ref q_78, .ref q_80, .ref q_82, .ref q_84, .null, .int 0])), (q_78, .inr (4, [.int 0, .ref ed, .int 0])), (q_80, .inr (4, [.int 0, .ref ed, .int 0])), (q_82, .inr (4, [.int 0, .ref ed, .int 0])), (q_84, .inr (4, [.int 0, .ref ed, .int 0])), (q_86, .inr (4, [.int 0, .ref ed, .int 0]))] H := hP
  have hD : va_D A [(h0, .inr (15, [.ref q_78, .ref q_80, .ref q_82, .ref q_84, .null, .int 0])), (q_78, .inr (4, [.int 0, .ref ed, .int 0])), (q_80, .inr (4, [.int 0, .ref ed, .int 0])), (q_82, .inr (4, [.int 0, .ref ed, .int 0])), (q_84, .inr (4, [.int 0, .ref ed, .int 0])), (q_86, .inr (4, [.int 0, .ref ed, .int 0]))] := hD
  have hK : va_K (dC, dI) vwCl [] s := hK
  refine W.widen (k := 5) (n := 15) (Nat.le_of_ble_eq_true rfl) (Nat.le_of_ble_eq_true rfl) ?_
  refine va_putF (D := (dC, dI)) (ci := 15) (v := .ref q_86) (ty := .object "java/util/ArrayList") (C := RX10) (T := TX10) (N := 6) hx hb hts inX10 tyX10 tyX10_ok nmX10 hown hK hP hD hS 0 rfl rfl 4 (by decide) (hts _ q1229) (fun _ h9 => h9) rfl hin rfl (by decide +kernel) rfl rfl (Nat.le_of_ble_eq_true rfl) dX10_init_56 (fun H locs hP hD hS => ?_)
  have hP : va_P (dC, dI) vwCl [(h0, .inr (15, [.ref q_78, .ref q_80, .ref q_82, .ref q_84, .ref q_86, .int 0])), (q_78, .inr (4, [.int 0, .ref ed, .int 0])), (q_80, .inr (4, [.int 0, .ref ed, .int 0])), (q_82, .inr (4, [.int 0, .ref ed, .int 0])), (q_84, .inr (4, [.int 0, .ref ed, .int 0])), (q_86, .inr (4, [.int 0, .ref ed, .int 0]))] H := hP
  have hD : va_D A [(h0, .inr (15, [.ref q_78, .ref q_80, .ref q_82, .ref q_84, .ref q_86, .int 0])), (q_78, .inr (4, [.int 0, .ref ed, .int 0])), (q_80, .inr (4, [.int 0, .ref ed, .int 0])), (q_82, .inr (4, [.int 0, .ref ed, .int 0])), (q_84, .inr (4, [.int 0, .ref ed, .int 0])), (q_86, .inr (4, [.int 0, .ref ed, .int 0]))] := hD
  have hP9 := hP.sub (ws' := [(h0, .inr (15, [.ref q_78, .ref q_80, .ref q_82, .ref q_84, .ref q_86, .int 0])), (q_78, .inr (4, [.int 0, .ref ed, .int 0])), (q_80, .inr (4, [.int 0, .ref ed, .int 0])), (q_82, .inr (4, [.int 0, .ref ed, .int 0])), (q_84, .inr (4, [.int 0, .ref ed, .int 0])), (q_86, .inr (4, [.int 0, .ref ed, .int 0]))]) [0, 1, 2, 3, 4, 5] rfl
  have hD9 := hD.sub (ws' := [(h0, .inr (15, [.ref q_78, .ref q_80, .ref q_82, .ref q_84, .ref q_86, .int 0])), (q_78, .inr (4, [.int 0, .ref ed, .int 0])), (q_80, .inr (4, [.int 0, .ref ed, .int 0])), (q_82, .inr (4, [.int 0, .ref ed, .int 0])), (q_84, .inr (4, [.int 0, .ref ed, .int 0])), (q_86, .inr (4, [.int 0, .ref ed, .int 0]))]) [0, 1, 2, 3, 4, 5] (by decide) rfl
  have hK9 := hK.sub (tys' := []) [] rfl
  refine W.widen (k := 5) (n := 15) (Nat.le_of_ble_eq_true rfl) (Nat.le_of_ble_eq_true rfl) ?_
  exact W.vret hx hb hr (fun t ht hW => ⟨⟨(), rfl, trivial, ⟨q_78, q_80, q_82, q_84, q_86, by rw [ht]; exact hP9, va_K.moved hW.alike hK9, hD9⟩⟩, hS.F ht⟩) hS.2.2 dX10_init_59
set_option maxHeartbeats 4000000 in
set_option maxRecDepth 100000 in
theorem o_rangeOk (l : Launch) (dC : Nat → ClassId) (dI : Nat → Nat → Nat) (sz : Nat) (n : Int32) (lo : Int32) (hi : Int32) (h1 : ¬ n < lo) (h2 : n ≤ hi) : Met l yX6_checkRange (pw_ws yX6_checkRange cX6_checkRange 3 none) ({ frames := 1, cells := 0, slots := 0, locals := 20 } : Room) (va_Pc [.int n, .int lo, .int hi] (fun U => U.heap.size = sz ∧ va_P (dC, dI) vwCl [] U.heap ∧ va_K (dC, dI) vwCl [] U ∧ va_D (fun _ => True) [])) (va_Qv (fun (_ : Unit) => True) (fun (_ : Unit) (t : State) => va_P (dC, dI) vwCl [] t.heap ∧ va_K (dC, dI) vwCl [] t ∧ va_D (va_A [] sz) []) (va_A [] sz)) 0 0 (va_A [] sz) := by
  refine Met.ofW (cc := cX6_checkRange) (maxL := 3) (ret := none) (by decide) rfl ?_
  intro p e s m args below meth c s₁ B hml hv
  obtain ⟨rfl, hsz, hP, hK, hD0⟩ := hv
  have hx := B.exec
  have hb := B.bytes
  have hr := B.returns
  have hts0 := atoms_spec (ws := (pw_ws yX6_checkRange cX6_checkRange 3 none)) B.pre
  have hts : ∀ w ∈ pw_all, w.before _ s = true := fun w h => hts0 w (List.mem_cons_of_mem _ h)
  have hown : s.vm.findClass RX6 = some m.cls := findClass_of_methodNamed B.named
  have hlocks := B.notSynchronized
  subst hsz
  have hD := hD0.self (sz := s.heap.size)
  generalize hAe : va_A [] s.heap.size = A at hD ⊢
  have hA : ∀ q : Nat, s.heap.size ≤ q → A q := fun q h => by rw [← hAe]; exact Or.inr h
  have hS : va_S A s.heap s.heap [] := va_S.rf
  have hP : va_P (dC, dI) vwCl [] s.heap := hP
  have hl := lv_entry ([.int n, .int lo, .int hi]) (n := 3) (Nat.le_of_ble_eq_true rfl)
  rw [lg_entry_eq]
  generalize (lg_sl ([.int n, .int lo, .int hi]) ++ List.replicate (3 - (lg_sl ([.int n, .int lo, .int hi])).length) Slot.unset).toArray = ls at hl ⊢
  have hl : lv_has ls 3 [(0, .int n), (1, .int lo), (2, .int hi)] := hl
  skip
  refine lv_iload_n hx hb dX6_checkRange_0 rfl (lv_at hl 0 rfl) ?_
  refine lv_iload_n hx hb dX6_checkRange_1 rfl (lv_at hl 1 rfl) ?_
  refine lv_icmp_lt (tgt := 10) hx hb dX6_checkRange_2 (by decide) (fun c_137 => absurd c_137 h1) (fun c_137 => ?_)
  refine lv_iload_n hx hb dX6_checkRange_5 rfl (lv_at hl 0 rfl) ?_
  refine lv_iload_n hx hb dX6_checkRange_6 rfl (lv_at hl 2 rfl) ?_
  refine lv_icmp_le (tgt := 21) hx hb dX6_checkRange_7 (by decide) (fun c_138 => ?_) (fun c_138 => absurd h2 c_138)
  have hP9 := hP.sub (ws' := []) [] rfl
  have hD9 := hD.sub (ws' := []) [] (by decide) rfl
  have hK9 := hK.sub (tys' := []) [] rfl
  refine W.widen (k := 0) (n := 0) (Nat.le_of_ble_eq_true rfl) (Nat.le_of_ble_eq_true rfl) ?_
  exact W.vret hx hb hr (fun t ht hW => ⟨⟨(), rfl, trivial, ⟨by rw [ht]; exact hP9, va_K.moved hW.alike hK9, hD9⟩⟩, hS.F ht⟩) hS.2.2 dX6_checkRange_21
set_option maxHeartbeats 4000000 in
set_option maxRecDepth 100000 in
theorem n_isThrown0 (l : Launch) (dC : Nat → ClassId) (dI : Nat → Nat → Nat) (sz : Nat) (h0 : Nat) (v0 : Value) (v1 : Value) (v2 : Value) (v3 : Value) (v4 : Value) (th : Int32) (w : Int32) : Met l yX10_isThrown (pw_ws yX10_isThrown cX10_isThrown 3 (some .boolean)) ({ frames := 1, cells := 0, slots := 0, locals := 20 } : Room) (va_Pc [.ref h0, .int 0, .int w] (fun U => U.heap.size = sz ∧ va_P (dC, dI) vwCl [(h0, .inr (15, [v0, v1, v2, v3, v4, .int th]))] U.heap ∧ va_K (dC, dI) vwCl [] U ∧ va_D (fun _ => True) [(h0, .inr (15, [v0, v1, v2, v3, v4, .int th]))])) (va_Qi (fun (r : Int32) (_ : Unit) => r = 0) (fun (_ : Unit) (t : State) => va_P (dC, dI) vwCl [(h0, .inr (15, [v0, v1, v2, v3, v4, .int 0]))] t.heap ∧ va_K (dC, dI) vwCl [] t ∧ va_D (va_A [(h0, .inr (15, [v0, v1, v2, v3, v4, .int th]))] sz) [(h0, .inr (15, [v0, v1, v2, v3, v4, .int 0]))]) (va_A [(h0, .inr (15, [v0, v1, v2, v3, v4, .int th]))] sz)) 0 0 (va_A [(h0, .inr (15, [v0, v1, v2, v3, v4, .int th]))] sz) := by
  refine Met.ofW (cc := cX10_isThrown) (maxL := 3) (ret := (some .boolean)) (by decide) rfl ?_
  intro p e s m args below meth c s₁ B hml hv
  obtain ⟨rfl, hsz, hP, hK, hD0⟩ := hv
  have hx := B.exec
  have hb := B.bytes
  have hr := B.returns
  have hts0 := atoms_spec (ws := (pw_ws yX10_isThrown cX10_isThrown 3 (some .boolean))) B.pre
  have hts : ∀ w ∈ pw_all, w.before _ s = true := fun w h => hts0 w (List.mem_cons_of_mem _ h)
  have hown : s.vm.findClass RX10 = some m.cls := findClass_of_methodNamed B.named
  have hlocks := B.notSynchronized
  subst hsz
  have hD := hD0.self (sz := s.heap.size)
  generalize hAe : va_A [(h0, .inr (15, [v0, v1, v2, v3, v4, .int th]))] s.heap.size = A at hD ⊢
  have hA : ∀ q : Nat, s.heap.size ≤ q → A q := fun q h => by rw [← hAe]; exact Or.inr h
  have hS : va_S A s.heap s.heap [] := va_S.rf
  have hP : va_P (dC, dI) vwCl [(h0, .inr (15, [v0, v1, v2, v3, v4, .int th]))] s.heap := hP
  have hl := lv_entry ([.ref h0, .int 0, .int w]) (n := 3) (Nat.le_of_ble_eq_true rfl)
  rw [lg_entry_eq]
  generalize (lg_sl ([.ref h0, .int 0, .int w]) ++ List.replicate (3 - (lg_sl ([.ref h0, .int 0, .int w])).length) Slot.unset).toArray = ls at hl ⊢
  have hl : lv_has ls 3 [(0, .ref h0), (1, .int 0), (2, .int w)] := hl
  skip
  refine lv_aload_n hx hb dX10_isThrown_0 rfl (lv_at hl 0 rfl) ?_
  refine lv_iload_n hx hb dX10_isThrown_1 rfl (lv_at hl 1 rfl) ?_
  refine lv_if_eq (tgt := 9) hx hb dX10_isThrown_2 (by decide) (fun c_237 => ?_) (fun c_237 => absurd (by decide) c_237)
  refine lv_iconst (v := 0) hx hb dX10_isThrown_9 (by decide) ?_
  refine va_put (D := (dC, dI)) (ci := 15) (v := .int 0) (ty := .int) (C := RX10) (T := TX10) (N := 6) hx hb hts inX10 tyX10 tyX10_ok nmX10 hown hK hP hD hS 0 rfl rfl 5 (by decide) (hts _ q1230) (fun _ h9 => h9) rfl (by decide +kernel) rfl rfl (Nat.le_of_ble_eq_true rfl) dX10_isThrown_10 (fun H locs hP hD hS => ?_)
  have hP : va_P (dC, dI) vwCl [(h0, .inr (15, [v0, v1, v2, v3, v4, .int 0]))] H := hP
  have hD : va_D A [(h0, .inr (15, [v0, v1, v2, v3, v4, .int 0]))] := hD
  refine lv_iload_n hx hb dX10_isThrown_13 rfl (lv_at hl 1 rfl) ?_
  have hP9 := hP.sub (ws' := [(h0, .inr (15, [v0, v1, v2, v3, v4, .int 0]))]) [0] rfl
  have hD9 := hD.sub (ws' := [(h0, .inr (15, [v0, v1, v2, v3, v4, .int 0]))]) [0] (by decide) rfl
  have hK9 := hK.sub (tys' := []) [] rfl
  refine W.widen (k := 0) (n := 0) (Nat.le_of_ble_eq_true rfl) (Nat.le_of_ble_eq_true rfl) ?_
  exact W.zret (v := 0) hx hb hr (by decide) (fun t ht hW => ⟨⟨0, (), rfl, rfl, ⟨by rw [ht]; exact hP9, va_K.moved hW.alike hK9, hD9⟩⟩, hS.F ht⟩) hS.2.2 dX10_isThrown_14
set_option maxHeartbeats 4000000 in
set_option maxRecDepth 100000 in
theorem n_isIn1 (l : Launch) (dC : Nat → ClassId) (dI : Nat → Nat → Nat) (sz : Nat) (n : Int32) (lo : Int32) (hi : Int32) (h1 : ¬ n < lo) (h2 : ¬ hi < n) : Met l yX10_isIn (pw_ws yX10_isIn cX10_isIn 3 (some .boolean)) ({ frames := 1, cells := 0, slots := 0, locals := 20 } : Room) (va_Pc [.int n, .int lo, .int hi] (fun U => U.heap.size = sz ∧ va_P (dC, dI) vwCl [] U.heap ∧ va_K (dC, dI) vwCl [] U ∧ va_D (fun _ => True) [])) (va_Qi (fun (r : Int32) (_ : Unit) => r = 1) (fun (_ : Unit) (t : State) => va_P (dC, dI) vwCl [] t.heap ∧ va_K (dC, dI) vwCl [] t ∧ va_D (va_A [] sz) []) (va_A [] sz)) 0 0 (va_A [] sz) := by
  refine Met.ofW (cc := cX10_isIn) (maxL := 3) (ret := (some .boolean)) (by decide) rfl ?_
  intro p e s m args below meth c s₁ B hml hv
  obtain ⟨rfl, hsz, hP, hK, hD0⟩ := hv
  have hx := B.exec
  have hb := B.bytes
  have hr := B.returns
  have hts0 := atoms_spec (ws := (pw_ws yX10_isIn cX10_isIn 3 (some .boolean))) B.pre
  have hts : ∀ w ∈ pw_all, w.before _ s = true := fun w h => hts0 w (List.mem_cons_of_mem _ h)
  have hown : s.vm.findClass RX10 = some m.cls := findClass_of_methodNamed B.named
  have hlocks := B.notSynchronized
  subst hsz
  have hD := hD0.self (sz := s.heap.size)
  generalize hAe : va_A [] s.heap.size = A at hD ⊢
  have hA : ∀ q : Nat, s.heap.size ≤ q → A q := fun q h => by rw [← hAe]; exact Or.inr h
  have hS : va_S A s.heap s.heap [] := va_S.rf
  have hP : va_P (dC, dI) vwCl [] s.heap := hP
  have hl := lv_entry ([.int n, .int lo, .int hi]) (n := 3) (Nat.le_of_ble_eq_true rfl)
  rw [lg_entry_eq]
  generalize (lg_sl ([.int n, .int lo, .int hi]) ++ List.replicate (3 - (lg_sl ([.int n, .int lo, .int hi])).length) Slot.unset).toArray = ls at hl ⊢
  have hl : lv_has ls 3 [(0, .int n), (1, .int lo), (2, .int hi)] := hl
  skip
  refine lv_iload_n hx hb dX10_isIn_0 rfl (lv_at hl 0 rfl) ?_
  refine lv_iload_n hx hb dX10_isIn_1 rfl (lv_at hl 1 rfl) ?_
  refine lv_icmp_lt (tgt := 14) hx hb dX10_isIn_2 (by decide) (fun c_238 => absurd c_238 h1) (fun c_238 => ?_)
  refine lv_iload_n hx hb dX10_isIn_5 rfl (lv_at hl 0 rfl) ?_
  refine lv_iload_n hx hb dX10_isIn_6 rfl (lv_at hl 2 rfl) ?_
  refine lv_icmp_gt (tgt := 14) hx hb dX10_isIn_7 (by decide) (fun c_239 => absurd c_239 h2) (fun c_239 => ?_)
  refine lv_iconst (v := 1) hx hb dX10_isIn_10 (by decide) ?_
  refine lv_goto (tgt := 15) hx hb dX10_isIn_11 (by decide) ?_
  have hP9 := hP.sub (ws' := []) [] rfl
  have hD9 := hD.sub (ws' := []) [] (by decide) rfl
  have hK9 := hK.sub (tys' := []) [] rfl
  refine W.widen (k := 0) (n := 0) (Nat.le_of_ble_eq_true rfl) (Nat.le_of_ble_eq_true rfl) ?_
  exact W.zret (v := 1) hx hb hr (by decide) (fun t ht hW => ⟨⟨1, (), rfl, rfl, ⟨by rw [ht]; exact hP9, va_K.moved hW.alike hK9, hD9⟩⟩, hS.F ht⟩) hS.2.2 dX10_isIn_15
