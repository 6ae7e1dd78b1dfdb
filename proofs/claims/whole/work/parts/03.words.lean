theorem q4 : Cond.selects RJx4a65c yJx4a65c_add_72be8 yJx4a65c_add_72be8 ∈ pw_all := pw_in 4 (by decide +kernel) (by decide +kernel)
theorem q5 : Cond.selects RJx4a65c yJx4a65c_grow_d5877 yJx4a65c_grow_d5877 ∈ pw_all := pw_in 5 (by decide +kernel) (by decide +kernel)
theorem q6 : Cond.selects RJx4a65c yJx4a65c_grow_92f84 yJx4a65c_grow_92f84 ∈ pw_all := pw_in 6 (by decide +kernel) (by decide +kernel)
theorem q7 : Cond.selects RX6 yX6_structureAt yX6_structureAt ∈ pw_all := pw_in 7 (by decide +kernel) (by decide +kernel)
theorem q9 : Cond.selects RX6 yX6_sensorAt yX6_sensorAt ∈ pw_all := pw_in 9 (by decide +kernel) (by decide +kernel)
theorem q10 : Cond.selects RX6 yX6_specificationAt yX6_specificationAt ∈ pw_all := pw_in 10 (by decide +kernel) (by decide +kernel)
theorem q11 : Cond.selects RX6 yX6_runAt yX6_runAt ∈ pw_all := pw_in 11 (by decide +kernel) (by decide +kernel)
theorem q43 : Cond.initialized RX6 ∈ pw_all := pw_in 43 (by decide +kernel) (by decide +kernel)
theorem q44 : Cond.initialized RJxa1e45 ∈ pw_all := pw_in 44 (by decide +kernel) (by decide +kernel)
theorem q45 : Cond.initialized RJxc12de ∈ pw_all := pw_in 45 (by decide +kernel) (by decide +kernel)
theorem q46 : Cond.initialized RJx4a65c ∈ pw_all := pw_in 46 (by decide +kernel) (by decide +kernel)
theorem q47 : Cond.initialized RX1 ∈ pw_all := pw_in 47 (by decide +kernel) (by decide +kernel)
theorem q48 : Cond.initialized RX0 ∈ pw_all := pw_in 48 (by decide +kernel) (by decide +kernel)
theorem q56 : Cond.initialized RJ9 ∈ pw_all := pw_in 56 (by decide +kernel) (by decide +kernel)
theorem q60 : Cond.initialized "java/lang/IndexOutOfBoundsException" ∈ pw_all := pw_in 60 (by decide +kernel) (by decide +kernel)
theorem q85 : Cond.methodLink RX6 1 objectInit ∈ pw_all := pw_in 85 (by decide +kernel) (by decide +kernel)
theorem q86 : Cond.instanceMethod objectInit ∈ pw_all := pw_in 86 (by decide +kernel) (by decide +kernel)
theorem q87 : Cond.code objectInit object_method_1_code 1 none ∈ pw_all := pw_in 87 (by decide +kernel) (by decide +kernel)
theorem q88 : Cond.classLink RX6 7 RJx4a65c ∈ pw_all := pw_in 88 (by decide +kernel) (by decide +kernel)
theorem q89 : Cond.instantiable RJx4a65c 3 ∈ pw_all := pw_in 89 (by decide +kernel) (by decide +kernel)
theorem q90 : Cond.methodLink RX6 9 yJx4a65c_init_da8c8 ∈ pw_all := pw_in 90 (by decide +kernel) (by decide +kernel)
theorem q91 : Cond.instanceMethod yJx4a65c_init_da8c8 ∈ pw_all := pw_in 91 (by decide +kernel) (by decide +kernel)
theorem q92 : Cond.code yJx4a65c_init_da8c8 cJx4a65c_init_da8c8 1 none ∈ pw_all := pw_in 92 (by decide +kernel) (by decide +kernel)
theorem q93 : Cond.methodLink RJx4a65c 1 yJxc12de_init_da8c8 ∈ pw_all := pw_in 93 (by decide +kernel) (by decide +kernel)
theorem q94 : Cond.instanceMethod yJxc12de_init_da8c8 ∈ pw_all := pw_in 94 (by decide +kernel) (by decide +kernel)
theorem q95 : Cond.code yJxc12de_init_da8c8 cJxc12de_init_da8c8 1 none ∈ pw_all := pw_in 95 (by decide +kernel) (by decide +kernel)
theorem q96 : Cond.methodLink RJxc12de 1 yJxa1e45_init_da8c8 ∈ pw_all := pw_in 96 (by decide +kernel) (by decide +kernel)
theorem q97 : Cond.instanceMethod yJxa1e45_init_da8c8 ∈ pw_all := pw_in 97 (by decide +kernel) (by decide +kernel)
theorem q98 : Cond.code yJxa1e45_init_da8c8 cJxa1e45_init_da8c8 1 none ∈ pw_all := pw_in 98 (by decide +kernel) (by decide +kernel)
theorem q99 : Cond.methodLink RJxa1e45 1 objectInit ∈ pw_all := pw_in 99 (by decide +kernel) (by decide +kernel)
theorem q100 : Cond.fieldLink RJx4a65c 39 RJx4a65c "DEFAULTCAPACITY_EMPTY_ELEMENTDATA" "[Ljava/lang/Object;" ∈ pw_all := pw_in 100 (by decide +kernel) (by decide +kernel)
theorem q102 : Cond.fieldLink RJx4a65c 9 RJx4a65c "elementData" "[Ljava/lang/Object;" ∈ pw_all := pw_in 102 (by decide +kernel) (by decide +kernel)
theorem q105 : Cond.fieldLink RJx4a65c 48 RJx4a65c "size" "I" ∈ pw_all := pw_in 105 (by decide +kernel) (by decide +kernel)
theorem q106 : Cond.fieldLink RJxc12de 7 RJxc12de "modCount" "I" ∈ pw_all := pw_in 106 (by decide +kernel) (by decide +kernel)
theorem q108 : Cond.sameField RJx4a65c RJxc12de "modCount" "I" ∈ pw_all := pw_in 108 (by decide +kernel) (by decide +kernel)
theorem q109 : Cond.fieldLink RJx4a65c 63 RJx4a65c "modCount" "I" ∈ pw_all := pw_in 109 (by decide +kernel) (by decide +kernel)
theorem q117 : Cond.classLink RX6 29 RX1 ∈ pw_all := pw_in 117 (by decide +kernel) (by decide +kernel)
theorem q118 : Cond.instantiable RX1 6 ∈ pw_all := pw_in 118 (by decide +kernel) (by decide +kernel)
theorem q119 : Cond.methodLink RX6 31 yX1_init ∈ pw_all := pw_in 119 (by decide +kernel) (by decide +kernel)
theorem q120 : Cond.instanceMethod yX1_init ∈ pw_all := pw_in 120 (by decide +kernel) (by decide +kernel)
theorem q121 : Cond.code yX1_init cX1_init 1 none ∈ pw_all := pw_in 121 (by decide +kernel) (by decide +kernel)
theorem q122 : Cond.methodLink RX1 3 objectInit ∈ pw_all := pw_in 122 (by decide +kernel) (by decide +kernel)
theorem q123 : Cond.fieldLink RX1 9 RX1 "turns" "[I" ∈ pw_all := pw_in 123 (by decide +kernel) (by decide +kernel)
theorem q124 : Cond.fieldLink RX1 15 RX1 "pile" "[I" ∈ pw_all := pw_in 124 (by decide +kernel) (by decide +kernel)
theorem q143 : Cond.arrayClass FieldType.int ∈ pw_all := pw_in 143 (by decide +kernel) (by decide +kernel)
theorem q144 : Cond.classLink RX6 36 RX0 ∈ pw_all := pw_in 144 (by decide +kernel) (by decide +kernel)
theorem q145 : Cond.instantiable RX0 11 ∈ pw_all := pw_in 145 (by decide +kernel) (by decide +kernel)
theorem q146 : Cond.methodLink RX6 38 yX0_init ∈ pw_all := pw_in 146 (by decide +kernel) (by decide +kernel)
theorem q147 : Cond.instanceMethod yX0_init ∈ pw_all := pw_in 147 (by decide +kernel) (by decide +kernel)
theorem q148 : Cond.code yX0_init cX0_init 1 none ∈ pw_all := pw_in 148 (by decide +kernel) (by decide +kernel)
theorem q149 : Cond.methodLink RX0 3 objectInit ∈ pw_all := pw_in 149 (by decide +kernel) (by decide +kernel)
theorem q150 : Cond.fieldLink RX0 9 RX0 "weights" "[I" ∈ pw_all := pw_in 150 (by decide +kernel) (by decide +kernel)
theorem q151 : Cond.fieldLink RX0 15 RX0 "toldSprings" "[I" ∈ pw_all := pw_in 151 (by decide +kernel) (by decide +kernel)
theorem q152 : Cond.fieldLink RX0 18 RX0 "springs" "[I" ∈ pw_all := pw_in 152 (by decide +kernel) (by decide +kernel)
theorem q154 : Cond.fieldLink RX0 21 RX0 "dampers" "[I" ∈ pw_all := pw_in 154 (by decide +kernel) (by decide +kernel)
theorem q155 : Cond.fieldLink RX0 24 RX0 "cracks" "[I" ∈ pw_all := pw_in 155 (by decide +kernel) (by decide +kernel)
theorem q158 : Cond.fieldLink RX0 27 RX0 "places" "[J" ∈ pw_all := pw_in 158 (by decide +kernel) (by decide +kernel)
theorem q160 : Cond.fieldLink RX0 31 RX0 "speeds" "[J" ∈ pw_all := pw_in 160 (by decide +kernel) (by decide +kernel)
theorem q161 : Cond.fieldLink RX0 34 RX0 "pulls" "[J" ∈ pw_all := pw_in 161 (by decide +kernel) (by decide +kernel)
theorem q162 : Cond.fieldLink RX0 37 RX0 "peaks" "[I" ∈ pw_all := pw_in 162 (by decide +kernel) (by decide +kernel)
theorem q192 : Cond.arrayClass FieldType.long ∈ pw_all := pw_in 192 (by decide +kernel) (by decide +kernel)
theorem q193 : Cond.fieldLink RX6 10 RX6 "structures" "Ljava/util/ArrayList;" ∈ pw_all := pw_in 193 (by decide +kernel) (by decide +kernel)
theorem q194 : Cond.fieldLink RX6 16 RX6 "sensors" "Ljava/util/ArrayList;" ∈ pw_all := pw_in 194 (by decide +kernel) (by decide +kernel)
theorem q195 : Cond.fieldLink RX6 19 RX6 "specifications" "Ljava/util/ArrayList;" ∈ pw_all := pw_in 195 (by decide +kernel) (by decide +kernel)
theorem q196 : Cond.fieldLink RX6 22 RX6 "runs" "Ljava/util/ArrayList;" ∈ pw_all := pw_in 196 (by decide +kernel) (by decide +kernel)
theorem q197 : Cond.fieldLink RX6 25 RX6 "typed" "[I" ∈ pw_all := pw_in 197 (by decide +kernel) (by decide +kernel)
theorem q199 : Cond.fieldLink RX6 32 RX6 "rain" "LShakerhall$Rain;" ∈ pw_all := pw_in 199 (by decide +kernel) (by decide +kernel)
theorem q200 : Cond.fieldLink RX6 39 RX6 "oneMass" "LShakerhall$Chain;" ∈ pw_all := pw_in 200 (by decide +kernel) (by decide +kernel)
theorem q273 : Cond.methodLink RX6 43 yJx4a65c_size_8abf5 ∈ pw_all := pw_in 273 (by decide +kernel) (by decide +kernel)
theorem q274 : Cond.instanceMethod yJx4a65c_size_8abf5 ∈ pw_all := pw_in 274 (by decide +kernel) (by decide +kernel)
theorem q275 : Cond.selects RJx4a65c yJx4a65c_size_8abf5 yJx4a65c_size_8abf5 ∈ pw_all := pw_in 275 (by decide +kernel) (by decide +kernel)
theorem q276 : Cond.code yJx4a65c_size_8abf5 cJx4a65c_size_8abf5 1 (some .int) ∈ pw_all := pw_in 276 (by decide +kernel) (by decide +kernel)
theorem q397 : Cond.methodLink RX5 3 objectInit ∈ pw_all := pw_in 397 (by decide +kernel) (by decide +kernel)
theorem q398 : Cond.classLink RX5 9 RX0 ∈ pw_all := pw_in 398 (by decide +kernel) (by decide +kernel)
theorem q399 : Cond.methodLink RX5 11 yX0_init ∈ pw_all := pw_in 399 (by decide +kernel) (by decide +kernel)
theorem q400 : Cond.constant RX5 22 (1000000000) ∈ pw_all := pw_in 400 (by decide +kernel) (by decide +kernel)
theorem q401 : Cond.fieldLink RX5 12 RX5 "chain" "LShakerhall$Chain;" ∈ pw_all := pw_in 401 (by decide +kernel) (by decide +kernel)
theorem q404 : Cond.fieldLink RX5 18 RX5 "felt" "[I" ∈ pw_all := pw_in 404 (by decide +kernel) (by decide +kernel)
theorem q407 : Cond.fieldLink RX5 23 RX5 "life" "I" ∈ pw_all := pw_in 407 (by decide +kernel) (by decide +kernel)
theorem q435 : Cond.methodLink RJx4a65c 131 yJx4a65c_add_72be8 ∈ pw_all := pw_in 435 (by decide +kernel) (by decide +kernel)
theorem q437 : Cond.instanceMethod yJx4a65c_add_72be8 ∈ pw_all := pw_in 437 (by decide +kernel) (by decide +kernel)
theorem q438 : Cond.code yJx4a65c_add_72be8 cJx4a65c_add_72be8 4 none ∈ pw_all := pw_in 438 (by decide +kernel) (by decide +kernel)
theorem q439 : Cond.methodLink RJx4a65c 129 yJx4a65c_grow_d5877 ∈ pw_all := pw_in 439 (by decide +kernel) (by decide +kernel)
theorem q441 : Cond.instanceMethod yJx4a65c_grow_d5877 ∈ pw_all := pw_in 441 (by decide +kernel) (by decide +kernel)
theorem q442 : Cond.code yJx4a65c_grow_d5877 cJx4a65c_grow_d5877 1 (some (.array (.object "java/lang/Object"))) ∈ pw_all := pw_in 442 (by decide +kernel) (by decide +kernel)
theorem q443 : Cond.methodLink RJx4a65c 69 yJx4a65c_grow_92f84 ∈ pw_all := pw_in 443 (by decide +kernel) (by decide +kernel)
theorem q445 : Cond.instanceMethod yJx4a65c_grow_92f84 ∈ pw_all := pw_in 445 (by decide +kernel) (by decide +kernel)
theorem q446 : Cond.code yJx4a65c_grow_92f84 cJx4a65c_grow_92f84 4 (some (.array (.object "java/lang/Object"))) ∈ pw_all := pw_in 446 (by decide +kernel) (by decide +kernel)
theorem q451 : Cond.static yJ9_max_7cf53 ∈ pw_all := pw_in 451 (by decide +kernel) (by decide +kernel)
theorem q452 : Cond.code yJ9_max_7cf53 cJ9_max_7cf53 2 (some .int) ∈ pw_all := pw_in 452 (by decide +kernel) (by decide +kernel)
theorem q497 : Cond.methodLink RJx4a65c 79 yJ9_max_7cf53 ∈ pw_all := pw_in 497 (by decide +kernel) (by decide +kernel)
theorem q498 : Cond.classLink RJx4a65c 7 "java/lang/Object" ∈ pw_all := pw_in 498 (by decide +kernel) (by decide +kernel)
theorem q508 : Cond.methodLink RX6 61 yX6_structureAt ∈ pw_all := pw_in 508 (by decide +kernel) (by decide +kernel)
theorem q510 : Cond.instanceMethod yX6_structureAt ∈ pw_all := pw_in 510 (by decide +kernel) (by decide +kernel)
theorem q511 : Cond.code yX6_structureAt cX6_structureAt 2 (some (.object "Shakerhall$Structure")) ∈ pw_all := pw_in 511 (by decide +kernel) (by decide +kernel)
theorem q512 : Cond.classLink RX6 388 "java/lang/IndexOutOfBoundsException" ∈ pw_all := pw_in 512 (by decide +kernel) (by decide +kernel)
theorem q694 : Cond.methodLink RX6 121 yX6_sensorAt ∈ pw_all := pw_in 694 (by decide +kernel) (by decide +kernel)
theorem q696 : Cond.instanceMethod yX6_sensorAt ∈ pw_all := pw_in 696 (by decide +kernel) (by decide +kernel)
theorem q697 : Cond.code yX6_sensorAt cX6_sensorAt 2 (some (.object "Shakerhall$Sensor")) ∈ pw_all := pw_in 697 (by decide +kernel) (by decide +kernel)
theorem q724 : Cond.methodLink RX4 3 objectInit ∈ pw_all := pw_in 724 (by decide +kernel) (by decide +kernel)
theorem q725 : Cond.fieldLink RX4 9 RX4 "levels" "[I" ∈ pw_all := pw_in 725 (by decide +kernel) (by decide +kernel)
theorem q728 : Cond.fieldLink RX4 15 RX4 "tolerances" "[I" ∈ pw_all := pw_in 728 (by decide +kernel) (by decide +kernel)
theorem q743 : Cond.methodLink RX6 145 yX6_specificationAt ∈ pw_all := pw_in 743 (by decide +kernel) (by decide +kernel)
theorem q745 : Cond.instanceMethod yX6_specificationAt ∈ pw_all := pw_in 745 (by decide +kernel) (by decide +kernel)
theorem q746 : Cond.code yX6_specificationAt cX6_specificationAt 2 (some (.object "Shakerhall$Specification")) ∈ pw_all := pw_in 746 (by decide +kernel) (by decide +kernel)
theorem q841 : Cond.methodLink RX6 171 yX6_runAt ∈ pw_all := pw_in 841 (by decide +kernel) (by decide +kernel)
theorem q843 : Cond.instanceMethod yX6_runAt ∈ pw_all := pw_in 843 (by decide +kernel) (by decide +kernel)
theorem q844 : Cond.code yX6_runAt cX6_runAt 2 (some (.object "Shakerhall$Run")) ∈ pw_all := pw_in 844 (by decide +kernel) (by decide +kernel)
theorem q1222 : Cond.methodLink RX10 1 objectInit ∈ pw_all := pw_in 1222 (by decide +kernel) (by decide +kernel)
theorem q1223 : Cond.classLink RX10 7 RJx4a65c ∈ pw_all := pw_in 1223 (by decide +kernel) (by decide +kernel)
theorem q1224 : Cond.methodLink RX10 9 yJx4a65c_init_da8c8 ∈ pw_all := pw_in 1224 (by decide +kernel) (by decide +kernel)
theorem q1225 : Cond.fieldLink RX10 10 RX10 "structures" "Ljava/util/ArrayList;" ∈ pw_all := pw_in 1225 (by decide +kernel) (by decide +kernel)
theorem q1226 : Cond.fieldLink RX10 16 RX10 "sensors" "Ljava/util/ArrayList;" ∈ pw_all := pw_in 1226 (by decide +kernel) (by decide +kernel)
theorem q1227 : Cond.fieldLink RX10 19 RX10 "specifications" "Ljava/util/ArrayList;" ∈ pw_all := pw_in 1227 (by decide +kernel) (by decide +kernel)
theorem q1228 : Cond.fieldLink RX10 22 RX10 "runs" "Ljava/util/ArrayList;" ∈ pw_all := pw_in 1228 (by decide +kernel) (by decide +kernel)
theorem q1229 : Cond.fieldLink RX10 25 RX10 "typed" "Ljava/util/ArrayList;" ∈ pw_all := pw_in 1229 (by decide +kernel) (by decide +kernel)
theorem q1262 : Cond.methodLink RX9 3 objectInit ∈ pw_all := pw_in 1262 (by decide +kernel) (by decide +kernel)
theorem q1263 : Cond.classLink RX9 9 RJx4a65c ∈ pw_all := pw_in 1263 (by decide +kernel) (by decide +kernel)
theorem q1264 : Cond.methodLink RX9 11 yJx4a65c_init_da8c8 ∈ pw_all := pw_in 1264 (by decide +kernel) (by decide +kernel)
theorem q1265 : Cond.constant RX9 22 (1000000000) ∈ pw_all := pw_in 1265 (by decide +kernel) (by decide +kernel)
theorem q1267 : Cond.fieldLink RX9 12 RX9 "masses" "Ljava/util/ArrayList;" ∈ pw_all := pw_in 1267 (by decide +kernel) (by decide +kernel)
theorem q1269 : Cond.fieldLink RX9 18 RX9 "felt" "[I" ∈ pw_all := pw_in 1269 (by decide +kernel) (by decide +kernel)
theorem q1272 : Cond.fieldLink RX9 23 RX9 "life" "I" ∈ pw_all := pw_in 1272 (by decide +kernel) (by decide +kernel)
theorem q1274 : Cond.fieldLink RX9 27 RX9 "signed" "I" ∈ pw_all := pw_in 1274 (by decide +kernel) (by decide +kernel)
theorem at_RX6_392 : ∀ w ∈ (vx_atS RX6 392 "java/lang/IndexOutOfBoundsException" ["java/lang/RuntimeException", "java/lang/Exception"]).filter goodWord, w ∈ pw_all := fun w h => List.mem_filter.mpr ⟨(by decide +kernel : ∀ w ∈ (vx_atS RX6 392 "java/lang/IndexOutOfBoundsException" ["java/lang/RuntimeException", "java/lang/Exception"]).filter goodWord, w ∈ lw_tbl) w h, (List.mem_filter.mp h).2⟩
theorem dJx4a65c_add_72be8_0 : decode cJx4a65c_add_72be8 0 = .ok (.iload_n 3, 1) := by decide +kernel
theorem dJx4a65c_add_72be8_1 : decode cJx4a65c_add_72be8 1 = .ok (.aload_n 2, 1) := by decide +kernel
theorem dJx4a65c_add_72be8_2 : decode cJx4a65c_add_72be8 2 = .ok (.arraylength, 1) := by decide +kernel
theorem dJx4a65c_add_72be8_3 : decode cJx4a65c_add_72be8 3 = .ok (.if_icmp .ne 8, 3) := by decide +kernel
theorem dJx4a65c_add_72be8_6 : decode cJx4a65c_add_72be8 6 = .ok (.aload_n 0, 1) := by decide +kernel
theorem dJx4a65c_add_72be8_7 : decode cJx4a65c_add_72be8 7 = .ok (.invokevirtual 129, 3) := by decide +kernel
theorem dJx4a65c_add_72be8_10 : decode cJx4a65c_add_72be8 10 = .ok (.astore_n 2, 1) := by decide +kernel
theorem dJx4a65c_add_72be8_11 : decode cJx4a65c_add_72be8 11 = .ok (.aload_n 2, 1) := by decide +kernel
theorem dJx4a65c_add_72be8_12 : decode cJx4a65c_add_72be8 12 = .ok (.iload_n 3, 1) := by decide +kernel
theorem dJx4a65c_add_72be8_13 : decode cJx4a65c_add_72be8 13 = .ok (.aload_n 1, 1) := by decide +kernel
theorem dJx4a65c_add_72be8_14 : decode cJx4a65c_add_72be8 14 = .ok (.aastore, 1) := by decide +kernel
theorem dJx4a65c_add_72be8_15 : decode cJx4a65c_add_72be8 15 = .ok (.aload_n 0, 1) := by decide +kernel
theorem dJx4a65c_add_72be8_16 : decode cJx4a65c_add_72be8 16 = .ok (.iload_n 3, 1) := by decide +kernel
theorem dJx4a65c_add_72be8_17 : decode cJx4a65c_add_72be8 17 = .ok (.iconst 1, 1) := by decide +kernel
theorem dJx4a65c_add_72be8_18 : decode cJx4a65c_add_72be8 18 = .ok (.iadd, 1) := by decide +kernel
theorem dJx4a65c_add_72be8_19 : decode cJx4a65c_add_72be8 19 = .ok (.putfield 48, 3) := by decide +kernel
theorem dJx4a65c_add_72be8_22 : decode cJx4a65c_add_72be8 22 = .ok (.return_, 1) := by decide +kernel
theorem dJx4a65c_add_9ea2d_0 : decode cJx4a65c_add_9ea2d 0 = .ok (.aload_n 0, 1) := by decide +kernel
theorem dJx4a65c_add_9ea2d_1 : decode cJx4a65c_add_9ea2d 1 = .ok (.dup, 1) := by decide +kernel
theorem dJx4a65c_add_9ea2d_2 : decode cJx4a65c_add_9ea2d 2 = .ok (.getfield 63, 3) := by decide +kernel
theorem dJx4a65c_add_9ea2d_5 : decode cJx4a65c_add_9ea2d 5 = .ok (.iconst 1, 1) := by decide +kernel
theorem dJx4a65c_add_9ea2d_6 : decode cJx4a65c_add_9ea2d 6 = .ok (.iadd, 1) := by decide +kernel
theorem dJx4a65c_add_9ea2d_7 : decode cJx4a65c_add_9ea2d 7 = .ok (.putfield 63, 3) := by decide +kernel
theorem dJx4a65c_add_9ea2d_10 : decode cJx4a65c_add_9ea2d 10 = .ok (.aload_n 0, 1) := by decide +kernel
theorem dJx4a65c_add_9ea2d_11 : decode cJx4a65c_add_9ea2d 11 = .ok (.aload_n 1, 1) := by decide +kernel
theorem dJx4a65c_add_9ea2d_12 : decode cJx4a65c_add_9ea2d 12 = .ok (.aload_n 0, 1) := by decide +kernel
theorem dJx4a65c_add_9ea2d_13 : decode cJx4a65c_add_9ea2d 13 = .ok (.getfield 9, 3) := by decide +kernel
theorem dJx4a65c_add_9ea2d_16 : decode cJx4a65c_add_9ea2d 16 = .ok (.aload_n 0, 1) := by decide +kernel
theorem dJx4a65c_add_9ea2d_17 : decode cJx4a65c_add_9ea2d 17 = .ok (.getfield 48, 3) := by decide +kernel
theorem dJx4a65c_add_9ea2d_20 : decode cJx4a65c_add_9ea2d 20 = .ok (.invokevirtual 131, 3) := by decide +kernel
theorem dJx4a65c_add_9ea2d_23 : decode cJx4a65c_add_9ea2d 23 = .ok (.iconst 1, 1) := by decide +kernel
theorem dJx4a65c_add_9ea2d_24 : decode cJx4a65c_add_9ea2d 24 = .ok (.ireturn, 1) := by decide +kernel
theorem dJx4a65c_clear_da8c8_0 : decode cJx4a65c_clear_da8c8 0 = .ok (.aload_n 0, 1) := by decide +kernel
theorem dJx4a65c_clear_da8c8_1 : decode cJx4a65c_clear_da8c8 1 = .ok (.dup, 1) := by decide +kernel
theorem dJx4a65c_clear_da8c8_2 : decode cJx4a65c_clear_da8c8 2 = .ok (.getfield 63, 3) := by decide +kernel
theorem dJx4a65c_clear_da8c8_5 : decode cJx4a65c_clear_da8c8 5 = .ok (.iconst 1, 1) := by decide +kernel
theorem dJx4a65c_clear_da8c8_6 : decode cJx4a65c_clear_da8c8 6 = .ok (.iadd, 1) := by decide +kernel
theorem dJx4a65c_clear_da8c8_7 : decode cJx4a65c_clear_da8c8 7 = .ok (.putfield 63, 3) := by decide +kernel
theorem dJx4a65c_clear_da8c8_10 : decode cJx4a65c_clear_da8c8 10 = .ok (.aload_n 0, 1) := by decide +kernel
theorem dJx4a65c_clear_da8c8_11 : decode cJx4a65c_clear_da8c8 11 = .ok (.getfield 9, 3) := by decide +kernel
theorem dJx4a65c_clear_da8c8_14 : decode cJx4a65c_clear_da8c8 14 = .ok (.astore_n 1, 1) := by decide +kernel
theorem dJx4a65c_clear_da8c8_15 : decode cJx4a65c_clear_da8c8 15 = .ok (.aload_n 0, 1) := by decide +kernel
theorem dJx4a65c_clear_da8c8_16 : decode cJx4a65c_clear_da8c8 16 = .ok (.getfield 48, 3) := by decide +kernel
theorem dJx4a65c_clear_da8c8_19 : decode cJx4a65c_clear_da8c8 19 = .ok (.istore_n 2, 1) := by decide +kernel
theorem dJx4a65c_clear_da8c8_20 : decode cJx4a65c_clear_da8c8 20 = .ok (.aload_n 0, 1) := by decide +kernel
theorem dJx4a65c_clear_da8c8_21 : decode cJx4a65c_clear_da8c8 21 = .ok (.iconst 0, 1) := by decide +kernel
theorem dJx4a65c_clear_da8c8_22 : decode cJx4a65c_clear_da8c8 22 = .ok (.dup_x1, 1) := by decide +kernel
theorem dJx4a65c_clear_da8c8_23 : decode cJx4a65c_clear_da8c8 23 = .ok (.putfield 48, 3) := by decide +kernel
theorem dJx4a65c_clear_da8c8_26 : decode cJx4a65c_clear_da8c8 26 = .ok (.istore_n 3, 1) := by decide +kernel
theorem dJx4a65c_clear_da8c8_27 : decode cJx4a65c_clear_da8c8 27 = .ok (.iload_n 3, 1) := by decide +kernel
theorem dJx4a65c_clear_da8c8_28 : decode cJx4a65c_clear_da8c8 28 = .ok (.iload_n 2, 1) := by decide +kernel
theorem dJx4a65c_clear_da8c8_29 : decode cJx4a65c_clear_da8c8 29 = .ok (.if_icmp .ge 13, 3) := by decide +kernel
theorem dJx4a65c_clear_da8c8_42 : decode cJx4a65c_clear_da8c8 42 = .ok (.return_, 1) := by decide +kernel
theorem dJx4a65c_grow_92f84_0 : decode cJx4a65c_grow_92f84 0 = .ok (.aload_n 0, 1) := by decide +kernel
theorem dJx4a65c_grow_92f84_1 : decode cJx4a65c_grow_92f84 1 = .ok (.getfield 9, 3) := by decide +kernel
theorem dJx4a65c_grow_92f84_4 : decode cJx4a65c_grow_92f84 4 = .ok (.arraylength, 1) := by decide +kernel
theorem dJx4a65c_grow_92f84_5 : decode cJx4a65c_grow_92f84 5 = .ok (.istore_n 2, 1) := by decide +kernel
theorem dJx4a65c_grow_92f84_6 : decode cJx4a65c_grow_92f84 6 = .ok (.iload_n 2, 1) := by decide +kernel
theorem dJx4a65c_grow_92f84_7 : decode cJx4a65c_grow_92f84 7 = .ok (.ifCond .gt 13, 3) := by decide +kernel
theorem dJx4a65c_grow_92f84_10 : decode cJx4a65c_grow_92f84 10 = .ok (.aload_n 0, 1) := by decide +kernel
theorem dJx4a65c_grow_92f84_11 : decode cJx4a65c_grow_92f84 11 = .ok (.getfield 9, 3) := by decide +kernel
theorem dJx4a65c_grow_92f84_14 : decode cJx4a65c_grow_92f84 14 = .ok (.getstatic 39, 3) := by decide +kernel
theorem dJx4a65c_grow_92f84_17 : decode cJx4a65c_grow_92f84 17 = .ok (.if_acmp .eq 28, 3) := by decide +kernel
theorem dJx4a65c_grow_92f84_45 : decode cJx4a65c_grow_92f84 45 = .ok (.aload_n 0, 1) := by decide +kernel
theorem dJx4a65c_grow_92f84_46 : decode cJx4a65c_grow_92f84 46 = .ok (.bipush 10, 2) := by decide +kernel
theorem dJx4a65c_grow_92f84_48 : decode cJx4a65c_grow_92f84 48 = .ok (.iload_n 1, 1) := by decide +kernel
theorem dJx4a65c_grow_92f84_49 : decode cJx4a65c_grow_92f84 49 = .ok (.invokestatic 79, 3) := by decide +kernel
theorem dJx4a65c_grow_92f84_52 : decode cJx4a65c_grow_92f84 52 = .ok (.anewarray 7, 3) := by decide +kernel
theorem dJx4a65c_grow_92f84_55 : decode cJx4a65c_grow_92f84 55 = .ok (.dup_x1, 1) := by decide +kernel
theorem dJx4a65c_grow_92f84_56 : decode cJx4a65c_grow_92f84 56 = .ok (.putfield 9, 3) := by decide +kernel
theorem dJx4a65c_grow_92f84_59 : decode cJx4a65c_grow_92f84 59 = .ok (.areturn, 1) := by decide +kernel
theorem dJx4a65c_grow_d5877_0 : decode cJx4a65c_grow_d5877 0 = .ok (.aload_n 0, 1) := by decide +kernel
theorem dJx4a65c_grow_d5877_1 : decode cJx4a65c_grow_d5877 1 = .ok (.aload_n 0, 1) := by decide +kernel
theorem dJx4a65c_grow_d5877_2 : decode cJx4a65c_grow_d5877 2 = .ok (.getfield 48, 3) := by decide +kernel
theorem dJx4a65c_grow_d5877_5 : decode cJx4a65c_grow_d5877 5 = .ok (.iconst 1, 1) := by decide +kernel
theorem dJx4a65c_grow_d5877_6 : decode cJx4a65c_grow_d5877 6 = .ok (.iadd, 1) := by decide +kernel
theorem dJx4a65c_grow_d5877_7 : decode cJx4a65c_grow_d5877 7 = .ok (.invokevirtual 69, 3) := by decide +kernel
theorem dJx4a65c_grow_d5877_10 : decode cJx4a65c_grow_d5877 10 = .ok (.areturn, 1) := by decide +kernel
theorem dJx4a65c_init_da8c8_0 : decode cJx4a65c_init_da8c8 0 = .ok (.aload_n 0, 1) := by decide +kernel
theorem dJx4a65c_init_da8c8_1 : decode cJx4a65c_init_da8c8 1 = .ok (.invokespecial 1, 3) := by decide +kernel
theorem dJx4a65c_init_da8c8_4 : decode cJx4a65c_init_da8c8 4 = .ok (.aload_n 0, 1) := by decide +kernel
theorem dJx4a65c_init_da8c8_5 : decode cJx4a65c_init_da8c8 5 = .ok (.getstatic 39, 3) := by decide +kernel
theorem dJx4a65c_init_da8c8_8 : decode cJx4a65c_init_da8c8 8 = .ok (.putfield 9, 3) := by decide +kernel
theorem dJx4a65c_init_da8c8_11 : decode cJx4a65c_init_da8c8 11 = .ok (.return_, 1) := by decide +kernel
theorem dJx4a65c_isEmpty_aae02_0 : decode cJx4a65c_isEmpty_aae02 0 = .ok (.aload_n 0, 1) := by decide +kernel
theorem dJx4a65c_isEmpty_aae02_1 : decode cJx4a65c_isEmpty_aae02 1 = .ok (.getfield 48, 3) := by decide +kernel
theorem dJx4a65c_isEmpty_aae02_4 : decode cJx4a65c_isEmpty_aae02 4 = .ok (.ifCond .ne 7, 3) := by decide +kernel
theorem dJx4a65c_isEmpty_aae02_7 : decode cJx4a65c_isEmpty_aae02 7 = .ok (.iconst 1, 1) := by decide +kernel
theorem dJx4a65c_isEmpty_aae02_8 : decode cJx4a65c_isEmpty_aae02 8 = .ok (.goto 4, 3) := by decide +kernel
theorem dJx4a65c_isEmpty_aae02_12 : decode cJx4a65c_isEmpty_aae02 12 = .ok (.ireturn, 1) := by decide +kernel
theorem dJx4a65c_size_8abf5_0 : decode cJx4a65c_size_8abf5 0 = .ok (.aload_n 0, 1) := by decide +kernel
theorem dJx4a65c_size_8abf5_1 : decode cJx4a65c_size_8abf5 1 = .ok (.getfield 48, 3) := by decide +kernel
theorem dJx4a65c_size_8abf5_4 : decode cJx4a65c_size_8abf5 4 = .ok (.ireturn, 1) := by decide +kernel
theorem dJxa1e45_init_da8c8_0 : decode cJxa1e45_init_da8c8 0 = .ok (.aload_n 0, 1) := by decide +kernel
theorem dJxa1e45_init_da8c8_1 : decode cJxa1e45_init_da8c8 1 = .ok (.invokespecial 1, 3) := by decide +kernel
theorem dJxa1e45_init_da8c8_4 : decode cJxa1e45_init_da8c8 4 = .ok (.return_, 1) := by decide +kernel
theorem dJxc12de_init_da8c8_0 : decode cJxc12de_init_da8c8 0 = .ok (.aload_n 0, 1) := by decide +kernel
theorem dJxc12de_init_da8c8_1 : decode cJxc12de_init_da8c8 1 = .ok (.invokespecial 1, 3) := by decide +kernel
theorem dJxc12de_init_da8c8_4 : decode cJxc12de_init_da8c8 4 = .ok (.aload_n 0, 1) := by decide +kernel
theorem dJxc12de_init_da8c8_5 : decode cJxc12de_init_da8c8 5 = .ok (.iconst 0, 1) := by decide +kernel
theorem dJxc12de_init_da8c8_6 : decode cJxc12de_init_da8c8 6 = .ok (.putfield 7, 3) := by decide +kernel
theorem dJxc12de_init_da8c8_9 : decode cJxc12de_init_da8c8 9 = .ok (.return_, 1) := by decide +kernel
theorem dX0_init_0 : decode cX0_init 0 = .ok (.aload_n 0, 1) := by decide +kernel
theorem dX0_init_1 : decode cX0_init 1 = .ok (.invokespecial 3, 3) := by decide +kernel
theorem dX0_init_4 : decode cX0_init 4 = .ok (.aload_n 0, 1) := by decide +kernel
theorem dX0_init_5 : decode cX0_init 5 = .ok (.iconst 4, 1) := by decide +kernel
theorem dX0_init_6 : decode cX0_init 6 = .ok (.newarray .int, 2) := by decide +kernel
theorem dX0_init_8 : decode cX0_init 8 = .ok (.putfield 9, 3) := by decide +kernel
theorem dX0_init_11 : decode cX0_init 11 = .ok (.aload_n 0, 1) := by decide +kernel
theorem dX0_init_12 : decode cX0_init 12 = .ok (.iconst 4, 1) := by decide +kernel
theorem dX0_init_13 : decode cX0_init 13 = .ok (.newarray .int, 2) := by decide +kernel
theorem dX0_init_15 : decode cX0_init 15 = .ok (.putfield 15, 3) := by decide +kernel
theorem dX0_init_18 : decode cX0_init 18 = .ok (.aload_n 0, 1) := by decide +kernel
theorem dX0_init_19 : decode cX0_init 19 = .ok (.iconst 4, 1) := by decide +kernel
theorem dX0_init_20 : decode cX0_init 20 = .ok (.newarray .int, 2) := by decide +kernel
theorem dX0_init_22 : decode cX0_init 22 = .ok (.putfield 18, 3) := by decide +kernel
theorem dX0_init_25 : decode cX0_init 25 = .ok (.aload_n 0, 1) := by decide +kernel
theorem dX0_init_26 : decode cX0_init 26 = .ok (.iconst 4, 1) := by decide +kernel
theorem dX0_init_27 : decode cX0_init 27 = .ok (.newarray .int, 2) := by decide +kernel
theorem dX0_init_29 : decode cX0_init 29 = .ok (.putfield 21, 3) := by decide +kernel
theorem dX0_init_32 : decode cX0_init 32 = .ok (.aload_n 0, 1) := by decide +kernel
theorem dX0_init_33 : decode cX0_init 33 = .ok (.iconst 4, 1) := by decide +kernel
theorem dX0_init_34 : decode cX0_init 34 = .ok (.newarray .int, 2) := by decide +kernel
theorem dX0_init_36 : decode cX0_init 36 = .ok (.putfield 24, 3) := by decide +kernel
theorem dX0_init_39 : decode cX0_init 39 = .ok (.aload_n 0, 1) := by decide +kernel
theorem dX0_init_40 : decode cX0_init 40 = .ok (.iconst 4, 1) := by decide +kernel
theorem dX0_init_41 : decode cX0_init 41 = .ok (.newarray .long, 2) := by decide +kernel
theorem dX0_init_43 : decode cX0_init 43 = .ok (.putfield 27, 3) := by decide +kernel
theorem dX0_init_46 : decode cX0_init 46 = .ok (.aload_n 0, 1) := by decide +kernel
theorem dX0_init_47 : decode cX0_init 47 = .ok (.iconst 4, 1) := by decide +kernel
theorem dX0_init_48 : decode cX0_init 48 = .ok (.newarray .long, 2) := by decide +kernel
theorem dX0_init_50 : decode cX0_init 50 = .ok (.putfield 31, 3) := by decide +kernel
theorem dX0_init_53 : decode cX0_init 53 = .ok (.aload_n 0, 1) := by decide +kernel
theorem dX0_init_54 : decode cX0_init 54 = .ok (.iconst 4, 1) := by decide +kernel
theorem dX0_init_55 : decode cX0_init 55 = .ok (.newarray .long, 2) := by decide +kernel
theorem dX0_init_57 : decode cX0_init 57 = .ok (.putfield 34, 3) := by decide +kernel
theorem dX0_init_60 : decode cX0_init 60 = .ok (.aload_n 0, 1) := by decide +kernel
theorem dX0_init_61 : decode cX0_init 61 = .ok (.iconst 4, 1) := by decide +kernel
theorem dX0_init_62 : decode cX0_init 62 = .ok (.newarray .int, 2) := by decide +kernel
theorem dX0_init_64 : decode cX0_init 64 = .ok (.putfield 37, 3) := by decide +kernel
theorem dX0_init_67 : decode cX0_init 67 = .ok (.return_, 1) := by decide +kernel
theorem dX10_init_0 : decode cX10_init 0 = .ok (.aload_n 0, 1) := by decide +kernel
theorem dX10_init_1 : decode cX10_init 1 = .ok (.invokespecial 1, 3) := by decide +kernel
theorem dX10_init_4 : decode cX10_init 4 = .ok (.aload_n 0, 1) := by decide +kernel
theorem dX10_init_5 : decode cX10_init 5 = .ok (.new 7, 3) := by decide +kernel
theorem dX10_init_8 : decode cX10_init 8 = .ok (.dup, 1) := by decide +kernel
theorem dX10_init_9 : decode cX10_init 9 = .ok (.invokespecial 9, 3) := by decide +kernel
theorem dX10_init_12 : decode cX10_init 12 = .ok (.putfield 10, 3) := by decide +kernel
theorem dX10_init_15 : decode cX10_init 15 = .ok (.aload_n 0, 1) := by decide +kernel
theorem dX10_init_16 : decode cX10_init 16 = .ok (.new 7, 3) := by decide +kernel
theorem dX10_init_19 : decode cX10_init 19 = .ok (.dup, 1) := by decide +kernel
theorem dX10_init_20 : decode cX10_init 20 = .ok (.invokespecial 9, 3) := by decide +kernel
theorem dX10_init_23 : decode cX10_init 23 = .ok (.putfield 16, 3) := by decide +kernel
theorem dX10_init_26 : decode cX10_init 26 = .ok (.aload_n 0, 1) := by decide +kernel
theorem dX10_init_27 : decode cX10_init 27 = .ok (.new 7, 3) := by decide +kernel
theorem dX10_init_30 : decode cX10_init 30 = .ok (.dup, 1) := by decide +kernel
theorem dX10_init_31 : decode cX10_init 31 = .ok (.invokespecial 9, 3) := by decide +kernel
theorem dX10_init_34 : decode cX10_init 34 = .ok (.putfield 19, 3) := by decide +kernel
theorem dX10_init_37 : decode cX10_init 37 = .ok (.aload_n 0, 1) := by decide +kernel
theorem dX10_init_38 : decode cX10_init 38 = .ok (.new 7, 3) := by decide +kernel
theorem dX10_init_41 : decode cX10_init 41 = .ok (.dup, 1) := by decide +kernel
theorem dX10_init_42 : decode cX10_init 42 = .ok (.invokespecial 9, 3) := by decide +kernel
theorem dX10_init_45 : decode cX10_init 45 = .ok (.putfield 22, 3) := by decide +kernel
theorem dX10_init_48 : decode cX10_init 48 = .ok (.aload_n 0, 1) := by decide +kernel
theorem dX10_init_49 : decode cX10_init 49 = .ok (.new 7, 3) := by decide +kernel
theorem dX10_init_52 : decode cX10_init 52 = .ok (.dup, 1) := by decide +kernel
theorem dX10_init_53 : decode cX10_init 53 = .ok (.invokespecial 9, 3) := by decide +kernel
theorem dX10_init_56 : decode cX10_init 56 = .ok (.putfield 25, 3) := by decide +kernel
theorem dX10_init_59 : decode cX10_init 59 = .ok (.return_, 1) := by decide +kernel
theorem dX1_init_0 : decode cX1_init 0 = .ok (.aload_n 0, 1) := by decide +kernel
theorem dX1_init_1 : decode cX1_init 1 = .ok (.invokespecial 3, 3) := by decide +kernel
theorem dX1_init_4 : decode cX1_init 4 = .ok (.aload_n 0, 1) := by decide +kernel
theorem dX1_init_5 : decode cX1_init 5 = .ok (.bipush 89, 2) := by decide +kernel
theorem dX1_init_7 : decode cX1_init 7 = .ok (.newarray .int, 2) := by decide +kernel
theorem dX1_init_9 : decode cX1_init 9 = .ok (.putfield 9, 3) := by decide +kernel
theorem dX1_init_12 : decode cX1_init 12 = .ok (.aload_n 0, 1) := by decide +kernel
theorem dX1_init_13 : decode cX1_init 13 = .ok (.bipush 89, 2) := by decide +kernel
theorem dX1_init_15 : decode cX1_init 15 = .ok (.newarray .int, 2) := by decide +kernel
theorem dX1_init_17 : decode cX1_init 17 = .ok (.putfield 15, 3) := by decide +kernel
theorem dX1_init_20 : decode cX1_init 20 = .ok (.return_, 1) := by decide +kernel
theorem dX4_init_0 : decode cX4_init 0 = .ok (.aload_n 0, 1) := by decide +kernel
theorem dX4_init_1 : decode cX4_init 1 = .ok (.invokespecial 3, 3) := by decide +kernel
theorem dX4_init_4 : decode cX4_init 4 = .ok (.aload_n 0, 1) := by decide +kernel
theorem dX4_init_5 : decode cX4_init 5 = .ok (.bipush 8, 2) := by decide +kernel
theorem dX4_init_7 : decode cX4_init 7 = .ok (.newarray .int, 2) := by decide +kernel
theorem dX4_init_9 : decode cX4_init 9 = .ok (.putfield 9, 3) := by decide +kernel
theorem dX4_init_12 : decode cX4_init 12 = .ok (.aload_n 0, 1) := by decide +kernel
theorem dX4_init_13 : decode cX4_init 13 = .ok (.bipush 8, 2) := by decide +kernel
theorem dX4_init_15 : decode cX4_init 15 = .ok (.newarray .int, 2) := by decide +kernel
theorem dX4_init_17 : decode cX4_init 17 = .ok (.dup, 1) := by decide +kernel
theorem dX4_init_18 : decode cX4_init 18 = .ok (.iconst 0, 1) := by decide +kernel
theorem dX4_init_19 : decode cX4_init 19 = .ok (.bipush 10, 2) := by decide +kernel
theorem dX4_init_21 : decode cX4_init 21 = .ok (.iastore, 1) := by decide +kernel
theorem dX4_init_22 : decode cX4_init 22 = .ok (.dup, 1) := by decide +kernel
theorem dX4_init_23 : decode cX4_init 23 = .ok (.iconst 1, 1) := by decide +kernel
theorem dX4_init_24 : decode cX4_init 24 = .ok (.bipush 10, 2) := by decide +kernel
theorem dX4_init_26 : decode cX4_init 26 = .ok (.iastore, 1) := by decide +kernel
theorem dX4_init_27 : decode cX4_init 27 = .ok (.dup, 1) := by decide +kernel
theorem dX4_init_28 : decode cX4_init 28 = .ok (.iconst 2, 1) := by decide +kernel
theorem dX4_init_29 : decode cX4_init 29 = .ok (.bipush 10, 2) := by decide +kernel
theorem dX4_init_31 : decode cX4_init 31 = .ok (.iastore, 1) := by decide +kernel
theorem dX4_init_32 : decode cX4_init 32 = .ok (.dup, 1) := by decide +kernel
theorem dX4_init_33 : decode cX4_init 33 = .ok (.iconst 3, 1) := by decide +kernel
theorem dX4_init_34 : decode cX4_init 34 = .ok (.bipush 10, 2) := by decide +kernel
theorem dX4_init_36 : decode cX4_init 36 = .ok (.iastore, 1) := by decide +kernel
theorem dX4_init_37 : decode cX4_init 37 = .ok (.dup, 1) := by decide +kernel
theorem dX4_init_38 : decode cX4_init 38 = .ok (.iconst 4, 1) := by decide +kernel
theorem dX4_init_39 : decode cX4_init 39 = .ok (.bipush 10, 2) := by decide +kernel
theorem dX4_init_41 : decode cX4_init 41 = .ok (.iastore, 1) := by decide +kernel
theorem dX4_init_42 : decode cX4_init 42 = .ok (.dup, 1) := by decide +kernel
theorem dX4_init_43 : decode cX4_init 43 = .ok (.iconst 5, 1) := by decide +kernel
theorem dX4_init_44 : decode cX4_init 44 = .ok (.bipush 10, 2) := by decide +kernel
theorem dX4_init_46 : decode cX4_init 46 = .ok (.iastore, 1) := by decide +kernel
theorem dX4_init_47 : decode cX4_init 47 = .ok (.dup, 1) := by decide +kernel
theorem dX4_init_48 : decode cX4_init 48 = .ok (.bipush 6, 2) := by decide +kernel
theorem dX4_init_50 : decode cX4_init 50 = .ok (.bipush 10, 2) := by decide +kernel
theorem dX4_init_52 : decode cX4_init 52 = .ok (.iastore, 1) := by decide +kernel
theorem dX4_init_53 : decode cX4_init 53 = .ok (.dup, 1) := by decide +kernel
theorem dX4_init_54 : decode cX4_init 54 = .ok (.bipush 7, 2) := by decide +kernel
theorem dX4_init_56 : decode cX4_init 56 = .ok (.bipush 10, 2) := by decide +kernel
theorem dX4_init_58 : decode cX4_init 58 = .ok (.iastore, 1) := by decide +kernel
theorem dX4_init_59 : decode cX4_init 59 = .ok (.putfield 15, 3) := by decide +kernel
theorem dX4_init_62 : decode cX4_init 62 = .ok (.return_, 1) := by decide +kernel
theorem dX5_init_0 : decode cX5_init 0 = .ok (.aload_n 0, 1) := by decide +kernel
theorem dX5_init_1 : decode cX5_init 1 = .ok (.invokespecial 3, 3) := by decide +kernel
theorem dX5_init_4 : decode cX5_init 4 = .ok (.aload_n 0, 1) := by decide +kernel
theorem dX5_init_5 : decode cX5_init 5 = .ok (.new 9, 3) := by decide +kernel
theorem dX5_init_8 : decode cX5_init 8 = .ok (.dup, 1) := by decide +kernel
theorem dX5_init_9 : decode cX5_init 9 = .ok (.invokespecial 11, 3) := by decide +kernel
theorem dX5_init_12 : decode cX5_init 12 = .ok (.putfield 12, 3) := by decide +kernel
theorem dX5_init_15 : decode cX5_init 15 = .ok (.aload_n 0, 1) := by decide +kernel
theorem dX5_init_16 : decode cX5_init 16 = .ok (.bipush 8, 2) := by decide +kernel
theorem dX5_init_18 : decode cX5_init 18 = .ok (.newarray .int, 2) := by decide +kernel
theorem dX5_init_20 : decode cX5_init 20 = .ok (.putfield 18, 3) := by decide +kernel
theorem dX5_init_23 : decode cX5_init 23 = .ok (.aload_n 0, 1) := by decide +kernel
theorem dX5_init_24 : decode cX5_init 24 = .ok (.ldc 22, 2) := by decide +kernel
theorem dX5_init_26 : decode cX5_init 26 = .ok (.putfield 23, 3) := by decide +kernel
theorem dX5_init_29 : decode cX5_init 29 = .ok (.return_, 1) := by decide +kernel
theorem dX6_addControl_0 : decode cX6_addControl 0 = .ok (.aload_n 0, 1) := by decide +kernel
theorem dX6_addControl_1 : decode cX6_addControl 1 = .ok (.iload_n 1, 1) := by decide +kernel
theorem dX6_addControl_2 : decode cX6_addControl 2 = .ok (.invokevirtual 171, 3) := by decide +kernel
theorem dX6_addMass_0 : decode cX6_addMass 0 = .ok (.aload_n 0, 1) := by decide +kernel
theorem dX6_addMass_1 : decode cX6_addMass 1 = .ok (.iload_n 1, 1) := by decide +kernel
theorem dX6_addMass_2 : decode cX6_addMass 2 = .ok (.invokevirtual 61, 3) := by decide +kernel
theorem dX6_addRun_0 : decode cX6_addRun 0 = .ok (.aload_n 0, 1) := by decide +kernel
theorem dX6_addRun_1 : decode cX6_addRun 1 = .ok (.iload_n 1, 1) := by decide +kernel
theorem dX6_addRun_2 : decode cX6_addRun 2 = .ok (.invokevirtual 61, 3) := by decide +kernel
theorem dX6_addSensor_0 : decode cX6_addSensor 0 = .ok (.aload_n 0, 1) := by decide +kernel
theorem dX6_addSensor_1 : decode cX6_addSensor 1 = .ok (.iload_n 1, 1) := by decide +kernel
theorem dX6_addSensor_2 : decode cX6_addSensor 2 = .ok (.invokevirtual 61, 3) := by decide +kernel
theorem dX6_bandShare_0 : decode cX6_bandShare 0 = .ok (.aload_n 0, 1) := by decide +kernel
theorem dX6_bandShare_1 : decode cX6_bandShare 1 = .ok (.iload_n 1, 1) := by decide +kernel
theorem dX6_bandShare_2 : decode cX6_bandShare 2 = .ok (.invokevirtual 171, 3) := by decide +kernel
theorem dX6_countEvents_0 : decode cX6_countEvents 0 = .ok (.aload_n 0, 1) := by decide +kernel
theorem dX6_countEvents_1 : decode cX6_countEvents 1 = .ok (.iload_n 1, 1) := by decide +kernel
theorem dX6_countEvents_2 : decode cX6_countEvents 2 = .ok (.invokevirtual 171, 3) := by decide +kernel
theorem dX6_countOver_0 : decode cX6_countOver 0 = .ok (.aload_n 0, 1) := by decide +kernel
theorem dX6_countOver_1 : decode cX6_countOver 1 = .ok (.iload_n 1, 1) := by decide +kernel
theorem dX6_countOver_2 : decode cX6_countOver 2 = .ok (.invokevirtual 171, 3) := by decide +kernel
theorem dX6_crack_0 : decode cX6_crack 0 = .ok (.aload_n 0, 1) := by decide +kernel
theorem dX6_crack_1 : decode cX6_crack 1 = .ok (.iload_n 1, 1) := by decide +kernel
theorem dX6_crack_2 : decode cX6_crack 2 = .ok (.invokevirtual 61, 3) := by decide +kernel
theorem dX6_differs_0 : decode cX6_differs 0 = .ok (.aload_n 0, 1) := by decide +kernel
theorem dX6_differs_1 : decode cX6_differs 1 = .ok (.iload_n 1, 1) := by decide +kernel
theorem dX6_differs_2 : decode cX6_differs 2 = .ok (.invokevirtual 61, 3) := by decide +kernel
theorem dX6_getBand_0 : decode cX6_getBand 0 = .ok (.aload_n 0, 1) := by decide +kernel
theorem dX6_getBand_1 : decode cX6_getBand 1 = .ok (.iload_n 1, 1) := by decide +kernel
theorem dX6_getBand_2 : decode cX6_getBand 2 = .ok (.invokevirtual 171, 3) := by decide +kernel
theorem dX6_getCracks_0 : decode cX6_getCracks 0 = .ok (.aload_n 0, 1) := by decide +kernel
theorem dX6_getCracks_1 : decode cX6_getCracks 1 = .ok (.iload_n 1, 1) := by decide +kernel
theorem dX6_getCracks_2 : decode cX6_getCracks 2 = .ok (.invokevirtual 61, 3) := by decide +kernel
theorem dX6_getDamage_0 : decode cX6_getDamage 0 = .ok (.aload_n 0, 1) := by decide +kernel
theorem dX6_getDamage_1 : decode cX6_getDamage 1 = .ok (.iload_n 1, 1) := by decide +kernel
theorem dX6_getDamage_2 : decode cX6_getDamage 2 = .ok (.invokevirtual 61, 3) := by decide +kernel
theorem dX6_getDrive_0 : decode cX6_getDrive 0 = .ok (.aload_n 0, 1) := by decide +kernel
theorem dX6_getDrive_1 : decode cX6_getDrive 1 = .ok (.iload_n 1, 1) := by decide +kernel
theorem dX6_getDrive_2 : decode cX6_getDrive 2 = .ok (.invokevirtual 171, 3) := by decide +kernel
theorem dX6_getDue_0 : decode cX6_getDue 0 = .ok (.aload_n 0, 1) := by decide +kernel
theorem dX6_getDue_1 : decode cX6_getDue 1 = .ok (.iload_n 1, 1) := by decide +kernel
theorem dX6_getDue_2 : decode cX6_getDue 2 = .ok (.invokevirtual 171, 3) := by decide +kernel
theorem dX6_getEvent_0 : decode cX6_getEvent 0 = .ok (.aload_n 0, 1) := by decide +kernel
theorem dX6_getEvent_1 : decode cX6_getEvent 1 = .ok (.iload_n 1, 1) := by decide +kernel
theorem dX6_getEvent_2 : decode cX6_getEvent 2 = .ok (.invokevirtual 171, 3) := by decide +kernel
theorem dX6_getFelt_0 : decode cX6_getFelt 0 = .ok (.aload_n 0, 1) := by decide +kernel
theorem dX6_getFelt_1 : decode cX6_getFelt 1 = .ok (.iload_n 1, 1) := by decide +kernel
theorem dX6_getFelt_2 : decode cX6_getFelt 2 = .ok (.invokevirtual 61, 3) := by decide +kernel
theorem dX6_getMinutes_0 : decode cX6_getMinutes 0 = .ok (.aload_n 0, 1) := by decide +kernel
theorem dX6_getMinutes_1 : decode cX6_getMinutes 1 = .ok (.iload_n 1, 1) := by decide +kernel
theorem dX6_getMinutes_2 : decode cX6_getMinutes 2 = .ok (.invokevirtual 171, 3) := by decide +kernel
theorem dX6_getResonance_0 : decode cX6_getResonance 0 = .ok (.aload_n 0, 1) := by decide +kernel
theorem dX6_getResonance_1 : decode cX6_getResonance 1 = .ok (.iload_n 1, 1) := by decide +kernel
theorem dX6_getResonance_2 : decode cX6_getResonance 2 = .ok (.invokevirtual 61, 3) := by decide +kernel
theorem dX6_getResponse_0 : decode cX6_getResponse 0 = .ok (.aload_n 0, 1) := by decide +kernel
theorem dX6_getResponse_1 : decode cX6_getResponse 1 = .ok (.iload_n 1, 1) := by decide +kernel
theorem dX6_getResponse_2 : decode cX6_getResponse 2 = .ok (.invokevirtual 61, 3) := by decide +kernel
theorem dX6_getSpring_0 : decode cX6_getSpring 0 = .ok (.aload_n 0, 1) := by decide +kernel
theorem dX6_getSpring_1 : decode cX6_getSpring 1 = .ok (.iload_n 1, 1) := by decide +kernel
theorem dX6_getSpring_2 : decode cX6_getSpring 2 = .ok (.invokevirtual 61, 3) := by decide +kernel
theorem dX6_getState_0 : decode cX6_getState 0 = .ok (.aload_n 0, 1) := by decide +kernel
theorem dX6_getState_1 : decode cX6_getState 1 = .ok (.iload_n 1, 1) := by decide +kernel
theorem dX6_getState_2 : decode cX6_getState 2 = .ok (.invokevirtual 171, 3) := by decide +kernel
theorem dX6_init_0 : decode cX6_init 0 = .ok (.aload_n 0, 1) := by decide +kernel
theorem dX6_init_1 : decode cX6_init 1 = .ok (.invokespecial 1, 3) := by decide +kernel
theorem dX6_init_4 : decode cX6_init 4 = .ok (.aload_n 0, 1) := by decide +kernel
theorem dX6_init_5 : decode cX6_init 5 = .ok (.new 7, 3) := by decide +kernel
theorem dX6_init_8 : decode cX6_init 8 = .ok (.dup, 1) := by decide +kernel
theorem dX6_init_9 : decode cX6_init 9 = .ok (.invokespecial 9, 3) := by decide +kernel
theorem dX6_init_12 : decode cX6_init 12 = .ok (.putfield 10, 3) := by decide +kernel
theorem dX6_init_15 : decode cX6_init 15 = .ok (.aload_n 0, 1) := by decide +kernel
theorem dX6_init_16 : decode cX6_init 16 = .ok (.new 7, 3) := by decide +kernel
theorem dX6_init_19 : decode cX6_init 19 = .ok (.dup, 1) := by decide +kernel
theorem dX6_init_20 : decode cX6_init 20 = .ok (.invokespecial 9, 3) := by decide +kernel
theorem dX6_init_23 : decode cX6_init 23 = .ok (.putfield 16, 3) := by decide +kernel
theorem dX6_init_26 : decode cX6_init 26 = .ok (.aload_n 0, 1) := by decide +kernel
theorem dX6_init_27 : decode cX6_init 27 = .ok (.new 7, 3) := by decide +kernel
theorem dX6_init_30 : decode cX6_init 30 = .ok (.dup, 1) := by decide +kernel
theorem dX6_init_31 : decode cX6_init 31 = .ok (.invokespecial 9, 3) := by decide +kernel
theorem dX6_init_34 : decode cX6_init 34 = .ok (.putfield 19, 3) := by decide +kernel
theorem dX6_init_37 : decode cX6_init 37 = .ok (.aload_n 0, 1) := by decide +kernel
theorem dX6_init_38 : decode cX6_init 38 = .ok (.new 7, 3) := by decide +kernel
theorem dX6_init_41 : decode cX6_init 41 = .ok (.dup, 1) := by decide +kernel
theorem dX6_init_42 : decode cX6_init 42 = .ok (.invokespecial 9, 3) := by decide +kernel
theorem dX6_init_45 : decode cX6_init 45 = .ok (.putfield 22, 3) := by decide +kernel
theorem dX6_init_48 : decode cX6_init 48 = .ok (.aload_n 0, 1) := by decide +kernel
theorem dX6_init_49 : decode cX6_init 49 = .ok (.bipush 24, 2) := by decide +kernel
theorem dX6_init_51 : decode cX6_init 51 = .ok (.newarray .int, 2) := by decide +kernel
theorem dX6_init_53 : decode cX6_init 53 = .ok (.putfield 25, 3) := by decide +kernel
theorem dX6_init_56 : decode cX6_init 56 = .ok (.aload_n 0, 1) := by decide +kernel
theorem dX6_init_57 : decode cX6_init 57 = .ok (.new 29, 3) := by decide +kernel
theorem dX6_init_60 : decode cX6_init 60 = .ok (.dup, 1) := by decide +kernel
theorem dX6_init_61 : decode cX6_init 61 = .ok (.invokespecial 31, 3) := by decide +kernel
theorem dX6_init_64 : decode cX6_init 64 = .ok (.putfield 32, 3) := by decide +kernel
theorem dX6_init_67 : decode cX6_init 67 = .ok (.aload_n 0, 1) := by decide +kernel
theorem dX6_init_68 : decode cX6_init 68 = .ok (.new 36, 3) := by decide +kernel
theorem dX6_init_71 : decode cX6_init 71 = .ok (.dup, 1) := by decide +kernel
theorem dX6_init_72 : decode cX6_init 72 = .ok (.invokespecial 38, 3) := by decide +kernel
theorem dX6_init_75 : decode cX6_init 75 = .ok (.putfield 39, 3) := by decide +kernel
theorem dX6_init_78 : decode cX6_init 78 = .ok (.return_, 1) := by decide +kernel
theorem dX6_isInBand_0 : decode cX6_isInBand 0 = .ok (.aload_n 0, 1) := by decide +kernel
theorem dX6_isInBand_1 : decode cX6_isInBand 1 = .ok (.iload_n 1, 1) := by decide +kernel
theorem dX6_isInBand_2 : decode cX6_isInBand 2 = .ok (.invokevirtual 171, 3) := by decide +kernel
theorem dX6_meanDrive_0 : decode cX6_meanDrive 0 = .ok (.aload_n 0, 1) := by decide +kernel
theorem dX6_meanDrive_1 : decode cX6_meanDrive 1 = .ok (.iload_n 1, 1) := by decide +kernel
theorem dX6_meanDrive_2 : decode cX6_meanDrive 2 = .ok (.invokevirtual 171, 3) := by decide +kernel
theorem dX6_raise_0 : decode cX6_raise 0 = .ok (.aload_n 0, 1) := by decide +kernel
theorem dX6_raise_1 : decode cX6_raise 1 = .ok (.iload_n 1, 1) := by decide +kernel
theorem dX6_raise_2 : decode cX6_raise 2 = .ok (.invokevirtual 171, 3) := by decide +kernel
theorem dX6_read_0 : decode cX6_read 0 = .ok (.aload_n 0, 1) := by decide +kernel
theorem dX6_read_1 : decode cX6_read 1 = .ok (.iload_n 1, 1) := by decide +kernel
theorem dX6_read_2 : decode cX6_read 2 = .ok (.invokevirtual 121, 3) := by decide +kernel
theorem dX6_runAt_0 : decode cX6_runAt 0 = .ok (.iload_n 1, 1) := by decide +kernel
theorem dX6_runAt_1 : decode cX6_runAt 1 = .ok (.ifCond .lt 14, 3) := by decide +kernel
theorem dX6_runAt_4 : decode cX6_runAt 4 = .ok (.iload_n 1, 1) := by decide +kernel
theorem dX6_runAt_5 : decode cX6_runAt 5 = .ok (.aload_n 0, 1) := by decide +kernel
theorem dX6_runAt_6 : decode cX6_runAt 6 = .ok (.getfield 22, 3) := by decide +kernel
theorem dX6_runAt_9 : decode cX6_runAt 9 = .ok (.invokevirtual 43, 3) := by decide +kernel
theorem dX6_runAt_12 : decode cX6_runAt 12 = .ok (.if_icmp .lt 14, 3) := by decide +kernel
theorem dX6_runAt_15 : decode cX6_runAt 15 = .ok (.new 388, 3) := by decide +kernel
theorem dX6_runAt_18 : decode cX6_runAt 18 = .ok (.dup, 1) := by decide +kernel
theorem dX6_runAt_19 : decode cX6_runAt 19 = .ok (.ldc_w 397, 3) := by decide +kernel
theorem dX6_runAt_22 : decode cX6_runAt 22 = .ok (.invokespecial 392, 3) := by decide +kernel
theorem dX6_runAt_25 : decode cX6_runAt 25 = .ok (.athrow, 1) := by decide +kernel
theorem dX6_sensorAt_0 : decode cX6_sensorAt 0 = .ok (.iload_n 1, 1) := by decide +kernel
theorem dX6_sensorAt_1 : decode cX6_sensorAt 1 = .ok (.ifCond .lt 14, 3) := by decide +kernel
theorem dX6_sensorAt_4 : decode cX6_sensorAt 4 = .ok (.iload_n 1, 1) := by decide +kernel
theorem dX6_sensorAt_5 : decode cX6_sensorAt 5 = .ok (.aload_n 0, 1) := by decide +kernel
theorem dX6_sensorAt_6 : decode cX6_sensorAt 6 = .ok (.getfield 16, 3) := by decide +kernel
theorem dX6_sensorAt_9 : decode cX6_sensorAt 9 = .ok (.invokevirtual 43, 3) := by decide +kernel
theorem dX6_sensorAt_12 : decode cX6_sensorAt 12 = .ok (.if_icmp .lt 14, 3) := by decide +kernel
theorem dX6_sensorAt_15 : decode cX6_sensorAt 15 = .ok (.new 388, 3) := by decide +kernel
theorem dX6_sensorAt_18 : decode cX6_sensorAt 18 = .ok (.dup, 1) := by decide +kernel
theorem dX6_sensorAt_19 : decode cX6_sensorAt 19 = .ok (.ldc_w 393, 3) := by decide +kernel
theorem dX6_sensorAt_22 : decode cX6_sensorAt 22 = .ok (.invokespecial 392, 3) := by decide +kernel
theorem dX6_sensorAt_25 : decode cX6_sensorAt 25 = .ok (.athrow, 1) := by decide +kernel
theorem dX6_setAbort_0 : decode cX6_setAbort 0 = .ok (.aload_n 0, 1) := by decide +kernel
theorem dX6_setAbort_1 : decode cX6_setAbort 1 = .ok (.iload_n 1, 1) := by decide +kernel
theorem dX6_setAbort_2 : decode cX6_setAbort 2 = .ok (.invokevirtual 171, 3) := by decide +kernel
theorem dX6_setLevel_0 : decode cX6_setLevel 0 = .ok (.aload_n 0, 1) := by decide +kernel
theorem dX6_setLevel_1 : decode cX6_setLevel 1 = .ok (.iload_n 1, 1) := by decide +kernel
theorem dX6_setLevel_2 : decode cX6_setLevel 2 = .ok (.invokevirtual 145, 3) := by decide +kernel
theorem dX6_setLife_0 : decode cX6_setLife 0 = .ok (.aload_n 0, 1) := by decide +kernel
theorem dX6_setLife_1 : decode cX6_setLife 1 = .ok (.iload_n 1, 1) := by decide +kernel
theorem dX6_setLife_2 : decode cX6_setLife 2 = .ok (.invokevirtual 61, 3) := by decide +kernel
theorem dX6_setLoose_0 : decode cX6_setLoose 0 = .ok (.aload_n 0, 1) := by decide +kernel
theorem dX6_setLoose_1 : decode cX6_setLoose 1 = .ok (.iload_n 1, 1) := by decide +kernel
theorem dX6_setLoose_2 : decode cX6_setLoose 2 = .ok (.invokevirtual 121, 3) := by decide +kernel
theorem dX6_setNotch_0 : decode cX6_setNotch 0 = .ok (.aload_n 0, 1) := by decide +kernel
theorem dX6_setNotch_1 : decode cX6_setNotch 1 = .ok (.iload_n 1, 1) := by decide +kernel
theorem dX6_setNotch_2 : decode cX6_setNotch 2 = .ok (.invokevirtual 171, 3) := by decide +kernel
theorem dX6_setTolerance_0 : decode cX6_setTolerance 0 = .ok (.aload_n 0, 1) := by decide +kernel
theorem dX6_setTolerance_1 : decode cX6_setTolerance 1 = .ok (.iload_n 1, 1) := by decide +kernel
theorem dX6_setTolerance_2 : decode cX6_setTolerance 2 = .ok (.invokevirtual 145, 3) := by decide +kernel
theorem dX6_shock_0 : decode cX6_shock 0 = .ok (.aload_n 0, 1) := by decide +kernel
theorem dX6_shock_1 : decode cX6_shock 1 = .ok (.iload_n 1, 1) := by decide +kernel
theorem dX6_shock_2 : decode cX6_shock 2 = .ok (.invokevirtual 61, 3) := by decide +kernel
theorem dX6_sign_0 : decode cX6_sign 0 = .ok (.aload_n 0, 1) := by decide +kernel
theorem dX6_sign_1 : decode cX6_sign 1 = .ok (.iload_n 1, 1) := by decide +kernel
theorem dX6_sign_2 : decode cX6_sign 2 = .ok (.invokevirtual 171, 3) := by decide +kernel
theorem dX6_specificationAt_0 : decode cX6_specificationAt 0 = .ok (.iload_n 1, 1) := by decide +kernel
theorem dX6_specificationAt_1 : decode cX6_specificationAt 1 = .ok (.ifCond .lt 14, 3) := by decide +kernel
theorem dX6_specificationAt_4 : decode cX6_specificationAt 4 = .ok (.iload_n 1, 1) := by decide +kernel
theorem dX6_specificationAt_5 : decode cX6_specificationAt 5 = .ok (.aload_n 0, 1) := by decide +kernel
theorem dX6_specificationAt_6 : decode cX6_specificationAt 6 = .ok (.getfield 19, 3) := by decide +kernel
theorem dX6_specificationAt_9 : decode cX6_specificationAt 9 = .ok (.invokevirtual 43, 3) := by decide +kernel
theorem dX6_specificationAt_12 : decode cX6_specificationAt 12 = .ok (.if_icmp .lt 14, 3) := by decide +kernel
theorem dX6_specificationAt_15 : decode cX6_specificationAt 15 = .ok (.new 388, 3) := by decide +kernel
theorem dX6_specificationAt_18 : decode cX6_specificationAt 18 = .ok (.dup, 1) := by decide +kernel
theorem dX6_specificationAt_19 : decode cX6_specificationAt 19 = .ok (.ldc_w 395, 3) := by decide +kernel
theorem dX6_specificationAt_22 : decode cX6_specificationAt 22 = .ok (.invokespecial 392, 3) := by decide +kernel
theorem dX6_specificationAt_25 : decode cX6_specificationAt 25 = .ok (.athrow, 1) := by decide +kernel
theorem dX6_structureAt_0 : decode cX6_structureAt 0 = .ok (.iload_n 1, 1) := by decide +kernel
theorem dX6_structureAt_1 : decode cX6_structureAt 1 = .ok (.ifCond .lt 14, 3) := by decide +kernel
theorem dX6_structureAt_4 : decode cX6_structureAt 4 = .ok (.iload_n 1, 1) := by decide +kernel
theorem dX6_structureAt_5 : decode cX6_structureAt 5 = .ok (.aload_n 0, 1) := by decide +kernel
theorem dX6_structureAt_6 : decode cX6_structureAt 6 = .ok (.getfield 10, 3) := by decide +kernel
theorem dX6_structureAt_9 : decode cX6_structureAt 9 = .ok (.invokevirtual 43, 3) := by decide +kernel
theorem dX6_structureAt_12 : decode cX6_structureAt 12 = .ok (.if_icmp .lt 14, 3) := by decide +kernel
theorem dX6_structureAt_15 : decode cX6_structureAt 15 = .ok (.new 388, 3) := by decide +kernel
theorem dX6_structureAt_18 : decode cX6_structureAt 18 = .ok (.dup, 1) := by decide +kernel
theorem dX6_structureAt_19 : decode cX6_structureAt 19 = .ok (.ldc_w 390, 3) := by decide +kernel
theorem dX6_structureAt_22 : decode cX6_structureAt 22 = .ok (.invokespecial 392, 3) := by decide +kernel
theorem dX6_structureAt_25 : decode cX6_structureAt 25 = .ok (.athrow, 1) := by decide +kernel
theorem dX6_sweep_0 : decode cX6_sweep 0 = .ok (.aload_n 0, 1) := by decide +kernel
theorem dX6_sweep_1 : decode cX6_sweep 1 = .ok (.iload_n 1, 1) := by decide +kernel
theorem dX6_sweep_2 : decode cX6_sweep 2 = .ok (.invokevirtual 61, 3) := by decide +kernel
theorem dX6_takeSignature_0 : decode cX6_takeSignature 0 = .ok (.aload_n 0, 1) := by decide +kernel
theorem dX6_takeSignature_1 : decode cX6_takeSignature 1 = .ok (.iload_n 1, 1) := by decide +kernel
theorem dX6_takeSignature_2 : decode cX6_takeSignature 2 = .ok (.invokevirtual 61, 3) := by decide +kernel
theorem dX6_takeUp_0 : decode cX6_takeUp 0 = .ok (.aload_n 0, 1) := by decide +kernel
theorem dX6_takeUp_1 : decode cX6_takeUp 1 = .ok (.iload_n 1, 1) := by decide +kernel
theorem dX6_takeUp_2 : decode cX6_takeUp 2 = .ok (.invokevirtual 171, 3) := by decide +kernel
theorem dX6_turnLoop_0 : decode cX6_turnLoop 0 = .ok (.aload_n 0, 1) := by decide +kernel
theorem dX6_turnLoop_1 : decode cX6_turnLoop 1 = .ok (.iload_n 1, 1) := by decide +kernel
theorem dX6_turnLoop_2 : decode cX6_turnLoop 2 = .ok (.invokevirtual 171, 3) := by decide +kernel
theorem dX9_init_0 : decode cX9_init 0 = .ok (.aload_n 0, 1) := by decide +kernel
theorem dX9_init_1 : decode cX9_init 1 = .ok (.invokespecial 3, 3) := by decide +kernel
theorem dX9_init_4 : decode cX9_init 4 = .ok (.aload_n 0, 1) := by decide +kernel
theorem dX9_init_5 : decode cX9_init 5 = .ok (.new 9, 3) := by decide +kernel
theorem dX9_init_8 : decode cX9_init 8 = .ok (.dup, 1) := by decide +kernel
theorem dX9_init_9 : decode cX9_init 9 = .ok (.invokespecial 11, 3) := by decide +kernel
theorem dX9_init_12 : decode cX9_init 12 = .ok (.putfield 12, 3) := by decide +kernel
theorem dX9_init_15 : decode cX9_init 15 = .ok (.aload_n 0, 1) := by decide +kernel
theorem dX9_init_16 : decode cX9_init 16 = .ok (.bipush 8, 2) := by decide +kernel
theorem dX9_init_18 : decode cX9_init 18 = .ok (.newarray .int, 2) := by decide +kernel
theorem dX9_init_20 : decode cX9_init 20 = .ok (.putfield 18, 3) := by decide +kernel
theorem dX9_init_23 : decode cX9_init 23 = .ok (.aload_n 0, 1) := by decide +kernel
theorem dX9_init_24 : decode cX9_init 24 = .ok (.ldc 22, 2) := by decide +kernel
theorem dX9_init_26 : decode cX9_init 26 = .ok (.putfield 23, 3) := by decide +kernel
theorem dX9_init_29 : decode cX9_init 29 = .ok (.aload_n 0, 1) := by decide +kernel
theorem dX9_init_30 : decode cX9_init 30 = .ok (.iconst (-1), 1) := by decide +kernel
theorem dX9_init_31 : decode cX9_init 31 = .ok (.putfield 27, 3) := by decide +kernel
theorem dX9_init_34 : decode cX9_init 34 = .ok (.return_, 1) := by decide +kernel
